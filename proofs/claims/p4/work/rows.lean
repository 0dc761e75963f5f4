section
-- ===== PART A: goes FIRST, ahead of the names: the tables' words, and 'selects' of the private methods out of them =====
/-- a private method of a class that the tables say can be made, by its rows of tables_1 -/
def lw_okq (q : MethodName × Nat) : Prop := (q.1.cls ≠ "java/lang/invoke/MethodHandle" ∧ q.1.cls ≠ "java/lang/invoke/VarHandle") ∧ Cond.instantiable q.1.cls q.2 ∈ tables_1 ∧ Cond.privateMethod q.1 ∈ tables_1 ∧ Cond.instanceMethod q.1 ∈ tables_1
theorem lw_p0 : lw_okq (⟨"ArsenalRow", "refused", "(I)I"⟩, 12) := ⟨⟨by decide +kernel, by decide +kernel⟩, List.mem_of_getElem? (i := 18) (by decide +kernel), List.mem_of_getElem? (i := 474) (by decide +kernel), List.mem_of_getElem? (i := 475) (by decide +kernel)⟩
theorem lw_p1 : lw_okq (⟨"ArsenalRow", "refusedAside", "(I)I"⟩, 12) := ⟨⟨by decide +kernel, by decide +kernel⟩, List.mem_of_getElem? (i := 18) (by decide +kernel), List.mem_of_getElem? (i := 519) (by decide +kernel), List.mem_of_getElem? (i := 520) (by decide +kernel)⟩
theorem lw_p2 : lw_okq (⟨"ArsenalRow", "isHull", "(I)Z"⟩, 12) := ⟨⟨by decide +kernel, by decide +kernel⟩, List.mem_of_getElem? (i := 18) (by decide +kernel), List.mem_of_getElem? (i := 590) (by decide +kernel), List.mem_of_getElem? (i := 591) (by decide +kernel)⟩
theorem lw_p3 : lw_okq (⟨"ArsenalRow$Yard", "moveOn", "(ILArsenalRow$Tasks;)I"⟩, 12) := ⟨⟨by decide +kernel, by decide +kernel⟩, List.mem_of_getElem? (i := 104) (by decide +kernel), List.mem_of_getElem? (i := 634) (by decide +kernel), List.mem_of_getElem? (i := 635) (by decide +kernel)⟩
theorem lw_p4 : lw_okq (⟨"ArsenalRow$Yard", "berth", "(IILArsenalRow$Tasks;)V"⟩, 12) := ⟨⟨by decide +kernel, by decide +kernel⟩, List.mem_of_getElem? (i := 104) (by decide +kernel), List.mem_of_getElem? (i := 646) (by decide +kernel), List.mem_of_getElem? (i := 647) (by decide +kernel)⟩
theorem lw_p5 : lw_okq (⟨"ArsenalRow$Yard", "letIn", "(LArsenalRow$Tasks;)V"⟩, 12) := ⟨⟨by decide +kernel, by decide +kernel⟩, List.mem_of_getElem? (i := 104) (by decide +kernel), List.mem_of_getElem? (i := 654) (by decide +kernel), List.mem_of_getElem? (i := 655) (by decide +kernel)⟩
theorem lw_p6 : lw_okq (⟨"ArsenalRow$Yard", "takeGoods", "()V"⟩, 12) := ⟨⟨by decide +kernel, by decide +kernel⟩, List.mem_of_getElem? (i := 104) (by decide +kernel), List.mem_of_getElem? (i := 658) (by decide +kernel), List.mem_of_getElem? (i := 659) (by decide +kernel)⟩
theorem lw_p7 : lw_okq (⟨"ArsenalRow$Yard", "hasAll", "([I)Z"⟩, 12) := ⟨⟨by decide +kernel, by decide +kernel⟩, List.mem_of_getElem? (i := 104) (by decide +kernel), List.mem_of_getElem? (i := 662) (by decide +kernel), List.mem_of_getElem? (i := 663) (by decide +kernel)⟩
theorem lw_p8 : lw_okq (⟨"ArsenalRow$Yard", "doWork", "([III)V"⟩, 12) := ⟨⟨by decide +kernel, by decide +kernel⟩, List.mem_of_getElem? (i := 104) (by decide +kernel), List.mem_of_getElem? (i := 666) (by decide +kernel), List.mem_of_getElem? (i := 667) (by decide +kernel)⟩
theorem lw_p9 : lw_okq (⟨"ArsenalRow$Yard", "drink", "(I)V"⟩, 12) := ⟨⟨by decide +kernel, by decide +kernel⟩, List.mem_of_getElem? (i := 104) (by decide +kernel), List.mem_of_getElem? (i := 671) (by decide +kernel), List.mem_of_getElem? (i := 672) (by decide +kernel)⟩
theorem lw_p10 : lw_okq (⟨"ArsenalRow$Matching", "fitting", "(LArsenalRow$Grove;ILArsenalRow$Parts;I)I"⟩, 5) := ⟨⟨by decide +kernel, by decide +kernel⟩, List.mem_of_getElem? (i := 299) (by decide +kernel), List.mem_of_getElem? (i := 727) (by decide +kernel), List.mem_of_getElem? (i := 728) (by decide +kernel)⟩
theorem lw_p11 : lw_okq (⟨"ArsenalRow$Matching", "offer", "(II)V"⟩, 5) := ⟨⟨by decide +kernel, by decide +kernel⟩, List.mem_of_getElem? (i := 299) (by decide +kernel), List.mem_of_getElem? (i := 735) (by decide +kernel), List.mem_of_getElem? (i := 736) (by decide +kernel)⟩
theorem lw_p12 : lw_okq (⟨"ArsenalRow$Matching", "readOff", "(JI)V"⟩, 5) := ⟨⟨by decide +kernel, by decide +kernel⟩, List.mem_of_getElem? (i := 299) (by decide +kernel), List.mem_of_getElem? (i := 742) (by decide +kernel), List.mem_of_getElem? (i := 743) (by decide +kernel)⟩
theorem lw_p13 : lw_okq (⟨"ArsenalRow$Ledger", "isWorse", "(II)Z"⟩, 5) := ⟨⟨by decide +kernel, by decide +kernel⟩, List.mem_of_getElem? (i := 325) (by decide +kernel), List.mem_of_getElem? (i := 788) (by decide +kernel), List.mem_of_getElem? (i := 789) (by decide +kernel)⟩
theorem lw_p14 : lw_okq (⟨"ArsenalRow$Ledger", "spanOf", "(I)I"⟩, 5) := ⟨⟨by decide +kernel, by decide +kernel⟩, List.mem_of_getElem? (i := 325) (by decide +kernel), List.mem_of_getElem? (i := 792) (by decide +kernel), List.mem_of_getElem? (i := 793) (by decide +kernel)⟩
theorem lw_p15 : lw_okq (⟨"ArsenalRow", "readyAhead", "(I)I"⟩, 12) := ⟨⟨by decide +kernel, by decide +kernel⟩, List.mem_of_getElem? (i := 18) (by decide +kernel), List.mem_of_getElem? (i := 803) (by decide +kernel), List.mem_of_getElem? (i := 804) (by decide +kernel)⟩
def lw_privs_1 : List (MethodName × Nat) := [(⟨"ArsenalRow", "refused", "(I)I"⟩, 12), (⟨"ArsenalRow", "refusedAside", "(I)I"⟩, 12), (⟨"ArsenalRow", "isHull", "(I)Z"⟩, 12), (⟨"ArsenalRow$Yard", "moveOn", "(ILArsenalRow$Tasks;)I"⟩, 12), (⟨"ArsenalRow$Yard", "berth", "(IILArsenalRow$Tasks;)V"⟩, 12), (⟨"ArsenalRow$Yard", "letIn", "(LArsenalRow$Tasks;)V"⟩, 12), (⟨"ArsenalRow$Yard", "takeGoods", "()V"⟩, 12), (⟨"ArsenalRow$Yard", "hasAll", "([I)Z"⟩, 12), (⟨"ArsenalRow$Yard", "doWork", "([III)V"⟩, 12), (⟨"ArsenalRow$Yard", "drink", "(I)V"⟩, 12), (⟨"ArsenalRow$Matching", "fitting", "(LArsenalRow$Grove;ILArsenalRow$Parts;I)I"⟩, 5), (⟨"ArsenalRow$Matching", "offer", "(II)V"⟩, 5), (⟨"ArsenalRow$Matching", "readOff", "(JI)V"⟩, 5), (⟨"ArsenalRow$Ledger", "isWorse", "(II)Z"⟩, 5), (⟨"ArsenalRow$Ledger", "spanOf", "(I)I"⟩, 5), (⟨"ArsenalRow", "readyAhead", "(I)I"⟩, 12)]
theorem lw_r1 : ∀ q ∈ lw_privs_1, lw_okq q := List.forall_mem_cons.mpr ⟨lw_p0, List.forall_mem_cons.mpr ⟨lw_p1, List.forall_mem_cons.mpr ⟨lw_p2, List.forall_mem_cons.mpr ⟨lw_p3, List.forall_mem_cons.mpr ⟨lw_p4, List.forall_mem_cons.mpr ⟨lw_p5, List.forall_mem_cons.mpr ⟨lw_p6, List.forall_mem_cons.mpr ⟨lw_p7, List.forall_mem_cons.mpr ⟨lw_p8, List.forall_mem_cons.mpr ⟨lw_p9, List.forall_mem_cons.mpr ⟨lw_p10, List.forall_mem_cons.mpr ⟨lw_p11, List.forall_mem_cons.mpr ⟨lw_p12, List.forall_mem_cons.mpr ⟨lw_p13, List.forall_mem_cons.mpr ⟨lw_p14, List.forall_mem_cons.mpr ⟨lw_p15, fun _ h => absurd h List.not_mem_nil⟩⟩⟩⟩⟩⟩⟩⟩⟩⟩⟩⟩⟩⟩⟩⟩
theorem lw_p16 : lw_okq (⟨"ArsenalRow$Outlook", "tryOut", "(LArsenalRow$Yard;[IILArsenalRow$Tasks;)V"⟩, 12) := ⟨⟨by decide +kernel, by decide +kernel⟩, List.mem_of_getElem? (i := 377) (by decide +kernel), List.mem_of_getElem? (i := 819) (by decide +kernel), List.mem_of_getElem? (i := 820) (by decide +kernel)⟩
theorem lw_p17 : lw_okq (⟨"ArsenalRow$Outlook", "workIsAhead", "(I)Z"⟩, 12) := ⟨⟨by decide +kernel, by decide +kernel⟩, List.mem_of_getElem? (i := 377) (by decide +kernel), List.mem_of_getElem? (i := 834) (by decide +kernel), List.mem_of_getElem? (i := 835) (by decide +kernel)⟩
theorem lw_p18 : lw_okq (⟨"ArsenalRow", "findOrder", "()Z"⟩, 12) := ⟨⟨by decide +kernel, by decide +kernel⟩, List.mem_of_getElem? (i := 18) (by decide +kernel), List.mem_of_getElem? (i := 850) (by decide +kernel), List.mem_of_getElem? (i := 851) (by decide +kernel)⟩
theorem lw_p19 : lw_okq (⟨"ArsenalRow$Outlook", "gatherByNumbers", "(LArsenalRow$Yard;)V"⟩, 12) := ⟨⟨by decide +kernel, by decide +kernel⟩, List.mem_of_getElem? (i := 377) (by decide +kernel), List.mem_of_getElem? (i := 862) (by decide +kernel), List.mem_of_getElem? (i := 863) (by decide +kernel)⟩
theorem lw_p20 : lw_okq (⟨"ArsenalRow$Outlook", "sumOfLate", "()I"⟩, 12) := ⟨⟨by decide +kernel, by decide +kernel⟩, List.mem_of_getElem? (i := 377) (by decide +kernel), List.mem_of_getElem? (i := 870) (by decide +kernel), List.mem_of_getElem? (i := 871) (by decide +kernel)⟩
theorem lw_p21 : lw_okq (⟨"ArsenalRow$Outlook", "nextOrder", "()V"⟩, 12) := ⟨⟨by decide +kernel, by decide +kernel⟩, List.mem_of_getElem? (i := 377) (by decide +kernel), List.mem_of_getElem? (i := 876) (by decide +kernel), List.mem_of_getElem? (i := 877) (by decide +kernel)⟩
theorem lw_p22 : lw_okq (⟨"ArsenalRow$Outlook", "swapTried", "(II)V"⟩, 12) := ⟨⟨by decide +kernel, by decide +kernel⟩, List.mem_of_getElem? (i := 377) (by decide +kernel), List.mem_of_getElem? (i := 880) (by decide +kernel), List.mem_of_getElem? (i := 881) (by decide +kernel)⟩
theorem lw_p23 : lw_okq (⟨"ArsenalRowModel", "refuse", "(I)I"⟩, 65) := ⟨⟨by decide +kernel, by decide +kernel⟩, List.mem_of_getElem? (i := 908) (by decide +kernel), List.mem_of_getElem? (i := 1118) (by decide +kernel), List.mem_of_getElem? (i := 1119) (by decide +kernel)⟩
theorem lw_p24 : lw_okq (⟨"ArsenalRowModel", "refuseFar", "(I)I"⟩, 65) := ⟨⟨by decide +kernel, by decide +kernel⟩, List.mem_of_getElem? (i := 908) (by decide +kernel), List.mem_of_getElem? (i := 1147) (by decide +kernel), List.mem_of_getElem? (i := 1148) (by decide +kernel)⟩
theorem lw_p25 : lw_okq (⟨"ArsenalRowModel", "handsAt", "(II)I"⟩, 65) := ⟨⟨by decide +kernel, by decide +kernel⟩, List.mem_of_getElem? (i := 908) (by decide +kernel), List.mem_of_getElem? (i := 1156) (by decide +kernel), List.mem_of_getElem? (i := 1157) (by decide +kernel)⟩
theorem lw_p26 : lw_okq (⟨"ArsenalRowModel", "forceAt", "(III)I"⟩, 65) := ⟨⟨by decide +kernel, by decide +kernel⟩, List.mem_of_getElem? (i := 908) (by decide +kernel), List.mem_of_getElem? (i := 1168) (by decide +kernel), List.mem_of_getElem? (i := 1169) (by decide +kernel)⟩
theorem lw_p27 : lw_okq (⟨"ArsenalRowModel", "isHull", "(I)Z"⟩, 65) := ⟨⟨by decide +kernel, by decide +kernel⟩, List.mem_of_getElem? (i := 908) (by decide +kernel), List.mem_of_getElem? (i := 1188) (by decide +kernel), List.mem_of_getElem? (i := 1189) (by decide +kernel)⟩
theorem lw_p28 : lw_okq (⟨"ArsenalRowModel", "pass", "()I"⟩, 65) := ⟨⟨by decide +kernel, by decide +kernel⟩, List.mem_of_getElem? (i := 908) (by decide +kernel), List.mem_of_getElem? (i := 1204) (by decide +kernel), List.mem_of_getElem? (i := 1205) (by decide +kernel)⟩
theorem lw_p29 : lw_okq (⟨"ArsenalRowModel", "moveAll", "()I"⟩, 65) := ⟨⟨by decide +kernel, by decide +kernel⟩, List.mem_of_getElem? (i := 908) (by decide +kernel), List.mem_of_getElem? (i := 1208) (by decide +kernel), List.mem_of_getElem? (i := 1209) (by decide +kernel)⟩
theorem lw_p30 : lw_okq (⟨"ArsenalRowModel", "enter", "(II)V"⟩, 65) := ⟨⟨by decide +kernel, by decide +kernel⟩, List.mem_of_getElem? (i := 908) (by decide +kernel), List.mem_of_getElem? (i := 1212) (by decide +kernel), List.mem_of_getElem? (i := 1213) (by decide +kernel)⟩
theorem lw_p31 : lw_okq (⟨"ArsenalRowModel", "firstBehind", "(II)I"⟩, 65) := ⟨⟨by decide +kernel, by decide +kernel⟩, List.mem_of_getElem? (i := 908) (by decide +kernel), List.mem_of_getElem? (i := 1216) (by decide +kernel), List.mem_of_getElem? (i := 1217) (by decide +kernel)⟩
def lw_privs_2 : List (MethodName × Nat) := [(⟨"ArsenalRow$Outlook", "tryOut", "(LArsenalRow$Yard;[IILArsenalRow$Tasks;)V"⟩, 12), (⟨"ArsenalRow$Outlook", "workIsAhead", "(I)Z"⟩, 12), (⟨"ArsenalRow", "findOrder", "()Z"⟩, 12), (⟨"ArsenalRow$Outlook", "gatherByNumbers", "(LArsenalRow$Yard;)V"⟩, 12), (⟨"ArsenalRow$Outlook", "sumOfLate", "()I"⟩, 12), (⟨"ArsenalRow$Outlook", "nextOrder", "()V"⟩, 12), (⟨"ArsenalRow$Outlook", "swapTried", "(II)V"⟩, 12), (⟨"ArsenalRowModel", "refuse", "(I)I"⟩, 65), (⟨"ArsenalRowModel", "refuseFar", "(I)I"⟩, 65), (⟨"ArsenalRowModel", "handsAt", "(II)I"⟩, 65), (⟨"ArsenalRowModel", "forceAt", "(III)I"⟩, 65), (⟨"ArsenalRowModel", "isHull", "(I)Z"⟩, 65), (⟨"ArsenalRowModel", "pass", "()I"⟩, 65), (⟨"ArsenalRowModel", "moveAll", "()I"⟩, 65), (⟨"ArsenalRowModel", "enter", "(II)V"⟩, 65), (⟨"ArsenalRowModel", "firstBehind", "(II)I"⟩, 65)]
theorem lw_r2 : ∀ q ∈ lw_privs_2, lw_okq q := List.forall_mem_cons.mpr ⟨lw_p16, List.forall_mem_cons.mpr ⟨lw_p17, List.forall_mem_cons.mpr ⟨lw_p18, List.forall_mem_cons.mpr ⟨lw_p19, List.forall_mem_cons.mpr ⟨lw_p20, List.forall_mem_cons.mpr ⟨lw_p21, List.forall_mem_cons.mpr ⟨lw_p22, List.forall_mem_cons.mpr ⟨lw_p23, List.forall_mem_cons.mpr ⟨lw_p24, List.forall_mem_cons.mpr ⟨lw_p25, List.forall_mem_cons.mpr ⟨lw_p26, List.forall_mem_cons.mpr ⟨lw_p27, List.forall_mem_cons.mpr ⟨lw_p28, List.forall_mem_cons.mpr ⟨lw_p29, List.forall_mem_cons.mpr ⟨lw_p30, List.forall_mem_cons.mpr ⟨lw_p31, fun _ h => absurd h List.not_mem_nil⟩⟩⟩⟩⟩⟩⟩⟩⟩⟩⟩⟩⟩⟩⟩⟩
theorem lw_p32 : lw_okq (⟨"ArsenalRowModel", "isFirst", "(II)Z"⟩, 65) := ⟨⟨by decide +kernel, by decide +kernel⟩, List.mem_of_getElem? (i := 908) (by decide +kernel), List.mem_of_getElem? (i := 1220) (by decide +kernel), List.mem_of_getElem? (i := 1221) (by decide +kernel)⟩
theorem lw_p33 : lw_okq (⟨"ArsenalRowModel", "takeGoods", "(I)V"⟩, 65) := ⟨⟨by decide +kernel, by decide +kernel⟩, List.mem_of_getElem? (i := 908) (by decide +kernel), List.mem_of_getElem? (i := 1224) (by decide +kernel), List.mem_of_getElem? (i := 1225) (by decide +kernel)⟩
theorem lw_p34 : lw_okq (⟨"ArsenalRowModel", "workAll", "()V"⟩, 65) := ⟨⟨by decide +kernel, by decide +kernel⟩, List.mem_of_getElem? (i := 908) (by decide +kernel), List.mem_of_getElem? (i := 1228) (by decide +kernel), List.mem_of_getElem? (i := 1229) (by decide +kernel)⟩
theorem lw_p35 : lw_okq (⟨"ArsenalRowModel", "payAll", "()V"⟩, 65) := ⟨⟨by decide +kernel, by decide +kernel⟩, List.mem_of_getElem? (i := 908) (by decide +kernel), List.mem_of_getElem? (i := 1232) (by decide +kernel), List.mem_of_getElem? (i := 1233) (by decide +kernel)⟩
theorem lw_p36 : lw_okq (⟨"ArsenalRowModel", "findMatch", "(I)V"⟩, 65) := ⟨⟨by decide +kernel, by decide +kernel⟩, List.mem_of_getElem? (i := 908) (by decide +kernel), List.mem_of_getElem? (i := 1256) (by decide +kernel), List.mem_of_getElem? (i := 1257) (by decide +kernel)⟩
theorem lw_p37 : lw_okq (⟨"ArsenalRowModel", "solve", "(II)V"⟩, 65) := ⟨⟨by decide +kernel, by decide +kernel⟩, List.mem_of_getElem? (i := 908) (by decide +kernel), List.mem_of_getElem? (i := 1260) (by decide +kernel), List.mem_of_getElem? (i := 1261) (by decide +kernel)⟩
theorem lw_p38 : lw_okq (⟨"ArsenalRowModel", "fits", "(II)Z"⟩, 65) := ⟨⟨by decide +kernel, by decide +kernel⟩, List.mem_of_getElem? (i := 908) (by decide +kernel), List.mem_of_getElem? (i := 1264) (by decide +kernel), List.mem_of_getElem? (i := 1265) (by decide +kernel)⟩
theorem lw_p39 : lw_okq (⟨"ArsenalRowModel", "spanOf", "(I)J"⟩, 65) := ⟨⟨by decide +kernel, by decide +kernel⟩, List.mem_of_getElem? (i := 908) (by decide +kernel), List.mem_of_getElem? (i := 1295) (by decide +kernel), List.mem_of_getElem? (i := 1296) (by decide +kernel)⟩
theorem lw_p40 : lw_okq (⟨"ArsenalRowModel", "aside", "(Z)V"⟩, 65) := ⟨⟨by decide +kernel, by decide +kernel⟩, List.mem_of_getElem? (i := 908) (by decide +kernel), List.mem_of_getElem? (i := 1303) (by decide +kernel), List.mem_of_getElem? (i := 1304) (by decide +kernel)⟩
theorem lw_p41 : lw_okq (⟨"ArsenalRowModel", "swap", "(IIZ)I"⟩, 65) := ⟨⟨by decide +kernel, by decide +kernel⟩, List.mem_of_getElem? (i := 908) (by decide +kernel), List.mem_of_getElem? (i := 1307) (by decide +kernel), List.mem_of_getElem? (i := 1308) (by decide +kernel)⟩
theorem lw_p42 : lw_okq (⟨"ArsenalRowModel", "goAhead", "()V"⟩, 65) := ⟨⟨by decide +kernel, by decide +kernel⟩, List.mem_of_getElem? (i := 908) (by decide +kernel), List.mem_of_getElem? (i := 1311) (by decide +kernel), List.mem_of_getElem? (i := 1312) (by decide +kernel)⟩
theorem lw_p43 : lw_okq (⟨"ArsenalRowModel", "ask", "()Z"⟩, 65) := ⟨⟨by decide +kernel, by decide +kernel⟩, List.mem_of_getElem? (i := 908) (by decide +kernel), List.mem_of_getElem? (i := 1326) (by decide +kernel), List.mem_of_getElem? (i := 1327) (by decide +kernel)⟩
theorem lw_p44 : lw_okq (⟨"ArsenalRowModel", "findLeast", "()I"⟩, 65) := ⟨⟨by decide +kernel, by decide +kernel⟩, List.mem_of_getElem? (i := 908) (by decide +kernel), List.mem_of_getElem? (i := 1330) (by decide +kernel), List.mem_of_getElem? (i := 1331) (by decide +kernel)⟩
theorem lw_p45 : lw_okq (⟨"ArsenalRowModel", "findOrder", "(I)V"⟩, 65) := ⟨⟨by decide +kernel, by decide +kernel⟩, List.mem_of_getElem? (i := 908) (by decide +kernel), List.mem_of_getElem? (i := 1334) (by decide +kernel), List.mem_of_getElem? (i := 1335) (by decide +kernel)⟩
def lw_privs_3 : List (MethodName × Nat) := [(⟨"ArsenalRowModel", "isFirst", "(II)Z"⟩, 65), (⟨"ArsenalRowModel", "takeGoods", "(I)V"⟩, 65), (⟨"ArsenalRowModel", "workAll", "()V"⟩, 65), (⟨"ArsenalRowModel", "payAll", "()V"⟩, 65), (⟨"ArsenalRowModel", "findMatch", "(I)V"⟩, 65), (⟨"ArsenalRowModel", "solve", "(II)V"⟩, 65), (⟨"ArsenalRowModel", "fits", "(II)Z"⟩, 65), (⟨"ArsenalRowModel", "spanOf", "(I)J"⟩, 65), (⟨"ArsenalRowModel", "aside", "(Z)V"⟩, 65), (⟨"ArsenalRowModel", "swap", "(IIZ)I"⟩, 65), (⟨"ArsenalRowModel", "goAhead", "()V"⟩, 65), (⟨"ArsenalRowModel", "ask", "()Z"⟩, 65), (⟨"ArsenalRowModel", "findLeast", "()I"⟩, 65), (⟨"ArsenalRowModel", "findOrder", "(I)V"⟩, 65)]
theorem lw_r3 : ∀ q ∈ lw_privs_3, lw_okq q := List.forall_mem_cons.mpr ⟨lw_p32, List.forall_mem_cons.mpr ⟨lw_p33, List.forall_mem_cons.mpr ⟨lw_p34, List.forall_mem_cons.mpr ⟨lw_p35, List.forall_mem_cons.mpr ⟨lw_p36, List.forall_mem_cons.mpr ⟨lw_p37, List.forall_mem_cons.mpr ⟨lw_p38, List.forall_mem_cons.mpr ⟨lw_p39, List.forall_mem_cons.mpr ⟨lw_p40, List.forall_mem_cons.mpr ⟨lw_p41, List.forall_mem_cons.mpr ⟨lw_p42, List.forall_mem_cons.mpr ⟨lw_p43, List.forall_mem_cons.mpr ⟨lw_p44, List.forall_mem_cons.mpr ⟨lw_p45, fun _ h => absurd h List.not_mem_nil⟩⟩⟩⟩⟩⟩⟩⟩⟩⟩⟩⟩⟩⟩
def lw_privs : List (MethodName × Nat) := lw_privs_1 ++ (lw_privs_2 ++ (lw_privs_3))
def lw_tbl : List Cond := k2_sels lw_privs ++ tables_1
theorem lw_privs_ok : ∀ q ∈ lw_privs, lw_okq q := by
  show ∀ q ∈ lw_privs_1 ++ (lw_privs_2 ++ (lw_privs_3)), lw_okq q
  exact List.forall_mem_append.mpr ⟨lw_r1, List.forall_mem_append.mpr ⟨lw_r2, lw_r3⟩⟩
def RX0 : String := "ArsenalRow$Almanac"
def TX0 : u_T := fun k => match k with
  | 0 => ("ArsenalRow$Almanac", "hands", "[I", true)
  | 1 => ("ArsenalRow$Almanac", "crowds", "[I", true)
  | 2 => ("ArsenalRow$Almanac", "wages", "[I", true)
  | _ => ("ArsenalRow$Almanac", "wines", "[I", true)
def tyX0 : Nat → FieldType := fun k => match k with
  | 0 => .array .int
  | 1 => .array .int
  | 2 => .array .int
  | _ => .array .int
abbrev wsX00 : List Cond := u_ws RX0 TX0 4
theorem nmX0 : ∀ a, a < 4 → ∀ b, b < 4 → a ≠ b → (TX0 a).2.1 ≠ (TX0 b).2.1 := by decide +kernel
theorem tyX0_ok : ∀ k, k < 4 → parseFieldDescriptor (TX0 k).2.2.1 = some (tyX0 k) := by decide +kernel
abbrev cX0_init : ByteArray := prog_2_method_1_code
def yX0_init : MethodName := ⟨RX0, "<init>", "(I)V"⟩
abbrev cX0_write : ByteArray := prog_2_method_2_code
def yX0_write : MethodName := ⟨RX0, "write", "(IILArsenalRow$Crews;LArsenalRow$Decrees;)V"⟩
def RX1 : String := "ArsenalRow$Crews"
def TX1 : u_T := fun k => match k with
  | 0 => ("ArsenalRow$Crews", "toldHands", "[I", true)
  | 1 => ("ArsenalRow$Crews", "leaders", "[I", true)
  | 2 => ("ArsenalRow$Crews", "rosters", "[[I", true)
  | _ => ("ArsenalRow$Crews", "lengths", "[I", true)
def tyX1 : Nat → FieldType := fun k => match k with
  | 0 => .array .int
  | 1 => .array .int
  | 2 => .array (.array .int)
  | _ => .array .int
abbrev wsX10 : List Cond := u_ws RX1 TX1 4
theorem nmX1 : ∀ a, a < 4 → ∀ b, b < 4 → a ≠ b → (TX1 a).2.1 ≠ (TX1 b).2.1 := by decide +kernel
theorem tyX1_ok : ∀ k, k < 4 → parseFieldDescriptor (TX1 k).2.2.1 = some (tyX1 k) := by decide +kernel
abbrev cX1_init : ByteArray := prog_3_method_1_code
def yX1_init : MethodName := ⟨RX1, "<init>", "()V"⟩
abbrev cX1_isMissing : ByteArray := prog_3_method_2_code
def yX1_isMissing : MethodName := ⟨RX1, "isMissing", "(I)Z"⟩
abbrev cX1_hasPlaces : ByteArray := prog_3_method_3_code
def yX1_hasPlaces : MethodName := ⟨RX1, "hasPlaces", "(III)Z"⟩
abbrev cX1_handsOfDay : ByteArray := prog_3_method_4_code
def yX1_handsOfDay : MethodName := ⟨RX1, "handsOfDay", "(II)I"⟩
def RX2 : String := "ArsenalRow$Decrees"
def TX2 : u_T := fun k => match k with
  | 0 => ("ArsenalRow$Decrees", "size", "I", false)
  | 1 => ("ArsenalRow$Decrees", "slots", "[I", true)
  | 2 => ("ArsenalRow$Decrees", "numbers", "[I", true)
  | 3 => ("ArsenalRow$Decrees", "days", "[I", true)
  | 4 => ("ArsenalRow$Decrees", "standing", "[I", true)
  | _ => ("ArsenalRow$Decrees", "next", "I", false)
def tyX2 : Nat → FieldType := fun k => match k with
  | 0 => .int
  | 1 => .array .int
  | 2 => .array .int
  | 3 => .array .int
  | 4 => .array .int
  | _ => .int
abbrev wsX20 : List Cond := u_ws RX2 TX2 6
theorem nmX2 : ∀ a, a < 6 → ∀ b, b < 6 → a ≠ b → (TX2 a).2.1 ≠ (TX2 b).2.1 := by decide +kernel
theorem tyX2_ok : ∀ k, k < 6 → parseFieldDescriptor (TX2 k).2.2.1 = some (tyX2 k) := by decide +kernel
abbrev cX2_init : ByteArray := prog_4_method_1_code
def yX2_init : MethodName := ⟨RX2, "<init>", "()V"⟩
abbrev cX2_slotOf : ByteArray := prog_4_method_2_code
def yX2_slotOf : MethodName := ⟨RX2, "slotOf", "(II)I"⟩
abbrev cX2_insert : ByteArray := prog_4_method_3_code
def yX2_insert : MethodName := ⟨RX2, "insert", "(III)V"⟩
abbrev cX2_rewind : ByteArray := prog_4_method_4_code
def yX2_rewind : MethodName := ⟨RX2, "rewind", "()V"⟩
abbrev cX2_goOnTo : ByteArray := prog_4_method_5_code
def yX2_goOnTo : MethodName := ⟨RX2, "goOnTo", "(I)V"⟩
abbrev cX2_inForce : ByteArray := prog_4_method_6_code
def yX2_inForce : MethodName := ⟨RX2, "inForce", "(II)I"⟩
def RX3 : String := "ArsenalRow$Grove"
def TX3 : u_T := fun k => match k with
  | 0 => ("ArsenalRow$Grove", "size", "I", false)
  | 1 => ("ArsenalRow$Grove", "woods", "[I", true)
  | 2 => ("ArsenalRow$Grove", "bends", "[I", true)
  | 3 => ("ArsenalRow$Grove", "girths", "[I", true)
  | 4 => ("ArsenalRow$Grove", "hulls", "[I", true)
  | 5 => ("ArsenalRow$Grove", "places", "[I", true)
  | _ => ("ArsenalRow$Grove", "growths", "[I", true)
def tyX3 : Nat → FieldType := fun k => match k with
  | 0 => .int
  | 1 => .array .int
  | 2 => .array .int
  | 3 => .array .int
  | 4 => .array .int
  | 5 => .array .int
  | _ => .array .int
abbrev wsX30 : List Cond := u_ws RX3 TX3 7
theorem nmX3 : ∀ a, a < 7 → ∀ b, b < 7 → a ≠ b → (TX3 a).2.1 ≠ (TX3 b).2.1 := by decide +kernel
theorem tyX3_ok : ∀ k, k < 7 → parseFieldDescriptor (TX3 k).2.2.1 = some (tyX3 k) := by decide +kernel
abbrev cX3_init : ByteArray := prog_5_method_1_code
def yX3_init : MethodName := ⟨RX3, "<init>", "()V"⟩
abbrev cX3_plant : ByteArray := prog_5_method_2_code
def yX3_plant : MethodName := ⟨RX3, "plant", "(III)I"⟩
abbrev cX3_stands : ByteArray := prog_5_method_3_code
def yX3_stands : MethodName := ⟨RX3, "stands", "(I)Z"⟩
abbrev cX3_standing : ByteArray := prog_5_method_4_code
def yX3_standing : MethodName := ⟨RX3, "standing", "()I"⟩
abbrev cX3_grow : ByteArray := prog_5_method_5_code
def yX3_grow : MethodName := ⟨RX3, "grow", "()V"⟩
abbrev cX3_fellFor : ByteArray := prog_5_method_6_code
def yX3_fellFor : MethodName := ⟨RX3, "fellFor", "(III)V"⟩
abbrev cX3_felledFor : ByteArray := prog_5_method_7_code
def yX3_felledFor : MethodName := ⟨RX3, "felledFor", "(II)I"⟩
def RX4 : String := "ArsenalRow$Hull"
def TX4 : u_T := fun k => match k with
  | 0 => ("ArsenalRow$Hull", "sort", "I", false)
  | 1 => ("ArsenalRow$Hull", "rank", "I", false)
  | 2 => ("ArsenalRow$Hull", "due", "I", false)
  | 3 => ("ArsenalRow$Hull", "state", "I", false)
  | 4 => ("ArsenalRow$Hull", "basin", "I", false)
  | 5 => ("ArsenalRow$Hull", "craft", "I", false)
  | 6 => ("ArsenalRow$Hull", "work", "I", false)
  | 7 => ("ArsenalRow$Hull", "taken", "Z", false)
  | 8 => ("ArsenalRow$Hull", "lacks", "I", false)
  | 9 => ("ArsenalRow$Hull", "readySince", "I", false)
  | 10 => ("ArsenalRow$Hull", "felled", "Z", false)
  | 11 => ("ArsenalRow$Hull", "need", "[I", true)
  | _ => ("ArsenalRow$Hull", "neededInAll", "[I", true)
def tyX4 : Nat → FieldType := fun k => match k with
  | 0 => .int
  | 1 => .int
  | 2 => .int
  | 3 => .int
  | 4 => .int
  | 5 => .int
  | 6 => .int
  | 7 => .boolean
  | 8 => .int
  | 9 => .int
  | 10 => .boolean
  | 11 => .array .int
  | _ => .array .int
abbrev wsX40 : List Cond := u_ws RX4 TX4 13
theorem nmX4 : ∀ a, a < 13 → ∀ b, b < 13 → a ≠ b → (TX4 a).2.1 ≠ (TX4 b).2.1 := by decide +kernel
theorem tyX4_ok : ∀ k, k < 13 → parseFieldDescriptor (TX4 k).2.2.1 = some (tyX4 k) := by decide +kernel
abbrev cX4_init : ByteArray := prog_6_method_1_code
def yX4_init : MethodName := ⟨RX4, "<init>", "()V"⟩
abbrev cX4_isUnderWay : ByteArray := prog_6_method_2_code
def yX4_isUnderWay : MethodName := ⟨RX4, "isUnderWay", "()Z"⟩
abbrev cX4_begin : ByteArray := prog_6_method_3_code
def yX4_begin : MethodName := ⟨RX4, "begin", "(III)V"⟩
abbrev cX4_become : ByteArray := prog_6_method_4_code
def yX4_become : MethodName := ⟨RX4, "become", "(LArsenalRow$Hull;)V"⟩
abbrev cX4_enter : ByteArray := prog_6_method_5_code
def yX4_enter : MethodName := ⟨RX4, "enter", "(ILArsenalRow$Tasks;)V"⟩
abbrev cX4_leave : ByteArray := prog_6_method_6_code
def yX4_leave : MethodName := ⟨RX4, "leave", "(I)V"⟩
abbrev cX4_mayMoveOn : ByteArray := prog_6_method_7_code
def yX4_mayMoveOn : MethodName := ⟨RX4, "mayMoveOn", "()Z"⟩
def RX5 : String := "ArsenalRow$Ledger"
def TX5 : u_T := fun k => match k with
  | 0 => ("ArsenalRow$Ledger", "size", "I", false)
  | 1 => ("ArsenalRow$Ledger", "goods", "[I", true)
  | 2 => ("ArsenalRow$Ledger", "days", "[I", true)
  | 3 => ("ArsenalRow$Ledger", "gaps", "[I", true)
  | _ => ("ArsenalRow$Ledger", "begins", "[I", true)
def tyX5 : Nat → FieldType := fun k => match k with
  | 0 => .int
  | 1 => .array .int
  | 2 => .array .int
  | 3 => .array .int
  | _ => .array .int
abbrev wsX50 : List Cond := u_ws RX5 TX5 5
theorem nmX5 : ∀ a, a < 5 → ∀ b, b < 5 → a ≠ b → (TX5 a).2.1 ≠ (TX5 b).2.1 := by decide +kernel
theorem tyX5_ok : ∀ k, k < 5 → parseFieldDescriptor (TX5 k).2.2.1 = some (tyX5 k) := by decide +kernel
abbrev cX5_init : ByteArray := prog_7_method_1_code
def yX5_init : MethodName := ⟨RX5, "<init>", "()V"⟩
abbrev cX5_add : ByteArray := prog_7_method_2_code
def yX5_add : MethodName := ⟨RX5, "add", "(III)V"⟩
abbrev cX5_worstOf : ByteArray := prog_7_method_3_code
def yX5_worstOf : MethodName := ⟨RX5, "worstOf", "(I)I"⟩
abbrev cX5_isWorse : ByteArray := prog_7_method_4_code
def yX5_isWorse : MethodName := ⟨RX5, "isWorse", "(II)Z"⟩
abbrev cX5_spanOf : ByteArray := prog_7_method_5_code
def yX5_spanOf : MethodName := ⟨RX5, "spanOf", "(I)I"⟩
def RX6 : String := "ArsenalRow$Matching"
def TX6 : u_T := fun k => match k with
  | 0 => ("ArsenalRow$Matching", "matched", "I", false)
  | 1 => ("ArsenalRow$Matching", "waste", "I", false)
  | 2 => ("ArsenalRow$Matching", "treeOfPart", "[I", true)
  | 3 => ("ArsenalRow$Matching", "least", "[J", true)
  | _ => ("ArsenalRow$Matching", "changes", "[J", true)
def tyX6 : Nat → FieldType := fun k => match k with
  | 0 => .int
  | 1 => .int
  | 2 => .array .int
  | 3 => .array .long
  | _ => .array .long
abbrev wsX60 : List Cond := u_ws RX6 TX6 5
theorem nmX6 : ∀ a, a < 5 → ∀ b, b < 5 → a ≠ b → (TX6 a).2.1 ≠ (TX6 b).2.1 := by decide +kernel
theorem tyX6_ok : ∀ k, k < 5 → parseFieldDescriptor (TX6 k).2.2.1 = some (tyX6 k) := by decide +kernel
abbrev cX6_init : ByteArray := prog_8_method_1_code
def yX6_init : MethodName := ⟨RX6, "<init>", "()V"⟩
abbrev cX6_solve : ByteArray := prog_8_method_2_code
def yX6_solve : MethodName := ⟨RX6, "solve", "(LArsenalRow$Grove;LArsenalRow$Parts;I)V"⟩
abbrev cX6_lackingNumber : ByteArray := prog_8_method_3_code
def yX6_lackingNumber : MethodName := ⟨RX6, "lackingNumber", "(I)J"⟩
abbrev cX6_fitting : ByteArray := prog_8_method_4_code
def yX6_fitting : MethodName := ⟨RX6, "fitting", "(LArsenalRow$Grove;ILArsenalRow$Parts;I)I"⟩
abbrev cX6_offer : ByteArray := prog_8_method_5_code
def yX6_offer : MethodName := ⟨RX6, "offer", "(II)V"⟩
abbrev cX6_readOff : ByteArray := prog_8_method_6_code
def yX6_readOff : MethodName := ⟨RX6, "readOff", "(JI)V"⟩
def RX7 : String := "ArsenalRow$Outlook"
def TX7 : u_T := fun k => match k with
  | 0 => ("ArsenalRow$Outlook", "leastSum", "I", false)
  | 1 => ("ArsenalRow$Outlook", "leastOrder", "[I", true)
  | 2 => ("ArsenalRow$Outlook", "ordered", "I", false)
  | 3 => ("ArsenalRow$Outlook", "from", "I", false)
  | 4 => ("ArsenalRow$Outlook", "almanac", "LArsenalRow$Almanac;", true)
  | 5 => ("ArsenalRow$Outlook", "lastRows", "[I", true)
  | 6 => ("ArsenalRow$Outlook", "trial", "LArsenalRow$Yard;", true)
  | 7 => ("ArsenalRow$Outlook", "readyDays", "[I", true)
  | 8 => ("ArsenalRow$Outlook", "tried", "[I", true)
  | 9 => ("ArsenalRow$Outlook", "almanacKnown", "Z", false)
  | 10 => ("ArsenalRow$Outlook", "readyKnown", "Z", false)
  | _ => ("ArsenalRow$Outlook", "leastKnown", "Z", false)
def tyX7 : Nat → FieldType := fun k => match k with
  | 0 => .int
  | 1 => .array .int
  | 2 => .int
  | 3 => .int
  | 4 => .object "ArsenalRow$Almanac"
  | 5 => .array .int
  | 6 => .object "ArsenalRow$Yard"
  | 7 => .array .int
  | 8 => .array .int
  | 9 => .boolean
  | 10 => .boolean
  | _ => .boolean
abbrev wsX70 : List Cond := u_ws RX7 TX7 12
theorem nmX7 : ∀ a, a < 12 → ∀ b, b < 12 → a ≠ b → (TX7 a).2.1 ≠ (TX7 b).2.1 := by decide +kernel
theorem tyX7_ok : ∀ k, k < 12 → parseFieldDescriptor (TX7 k).2.2.1 = some (tyX7 k) := by decide +kernel
abbrev cX7_init : ByteArray := prog_9_method_1_code
def yX7_init : MethodName := ⟨RX7, "<init>", "()V"⟩
abbrev cX7_forget : ByteArray := prog_9_method_2_code
def yX7_forget : MethodName := ⟨RX7, "forget", "()V"⟩
abbrev cX7_standAt : ByteArray := prog_9_method_3_code
def yX7_standAt : MethodName := ⟨RX7, "standAt", "(ILArsenalRow$Crews;LArsenalRow$Decrees;)V"⟩
abbrev cX7_readyDay : ByteArray := prog_9_method_4_code
def yX7_readyDay : MethodName := ⟨RX7, "readyDay", "(ILArsenalRow$Yard;LArsenalRow$Tasks;)I"⟩
abbrev cX7_findLeast : ByteArray := prog_9_method_5_code
def yX7_findLeast : MethodName := ⟨RX7, "findLeast", "(LArsenalRow$Yard;LArsenalRow$Tasks;)V"⟩
abbrev cX7_gatherByNumbers : ByteArray := prog_9_method_6_code
def yX7_gatherByNumbers : MethodName := ⟨RX7, "gatherByNumbers", "(LArsenalRow$Yard;)V"⟩
abbrev cX7_sumOfLate : ByteArray := prog_9_method_7_code
def yX7_sumOfLate : MethodName := ⟨RX7, "sumOfLate", "()I"⟩
abbrev cX7_nextOrder : ByteArray := prog_9_method_8_code
def yX7_nextOrder : MethodName := ⟨RX7, "nextOrder", "()V"⟩
abbrev cX7_swapTried : ByteArray := prog_9_method_9_code
def yX7_swapTried : MethodName := ⟨RX7, "swapTried", "(II)V"⟩
abbrev cX7_tryOut : ByteArray := prog_9_method_10_code
def yX7_tryOut : MethodName := ⟨RX7, "tryOut", "(LArsenalRow$Yard;[IILArsenalRow$Tasks;)V"⟩
abbrev cX7_workIsAhead : ByteArray := prog_9_method_11_code
def yX7_workIsAhead : MethodName := ⟨RX7, "workIsAhead", "(I)Z"⟩
def RX8 : String := "ArsenalRow$Parts"
def TX8 : u_T := fun k => match k with
  | 0 => ("ArsenalRow$Parts", "sizes", "[I", true)
  | 1 => ("ArsenalRow$Parts", "woods", "[I", true)
  | 2 => ("ArsenalRow$Parts", "bends", "[I", true)
  | 3 => ("ArsenalRow$Parts", "spans", "[I", true)
  | _ => ("ArsenalRow$Parts", "girths", "[I", true)
def tyX8 : Nat → FieldType := fun k => match k with
  | 0 => .array .int
  | 1 => .array .int
  | 2 => .array .int
  | 3 => .array .int
  | _ => .array .int
abbrev wsX80 : List Cond := u_ws RX8 TX8 5
theorem nmX8 : ∀ a, a < 5 → ∀ b, b < 5 → a ≠ b → (TX8 a).2.1 ≠ (TX8 b).2.1 := by decide +kernel
theorem tyX8_ok : ∀ k, k < 5 → parseFieldDescriptor (TX8 k).2.2.1 = some (tyX8 k) := by decide +kernel
abbrev cX8_init : ByteArray := prog_10_method_1_code
def yX8_init : MethodName := ⟨RX8, "<init>", "()V"⟩
abbrev cX8_add : ByteArray := prog_10_method_2_code
def yX8_add : MethodName := ⟨RX8, "add", "(IIIII)I"⟩
def RX9 : String := "ArsenalRow$Tasks"
def TX9 : u_T := fun k => match k with
  | 0 => ("ArsenalRow$Tasks", "craft", "[[I", true)
  | 1 => ("ArsenalRow$Tasks", "work", "[[I", true)
  | _ => ("ArsenalRow$Tasks", "need", "[[I", true)
def tyX9 : Nat → FieldType := fun k => match k with
  | 0 => .array (.array .int)
  | 1 => .array (.array .int)
  | _ => .array (.array .int)
abbrev wsX90 : List Cond := u_ws RX9 TX9 3
theorem nmX9 : ∀ a, a < 3 → ∀ b, b < 3 → a ≠ b → (TX9 a).2.1 ≠ (TX9 b).2.1 := by decide +kernel
theorem tyX9_ok : ∀ k, k < 3 → parseFieldDescriptor (TX9 k).2.2.1 = some (tyX9 k) := by decide +kernel
abbrev cX9_init : ByteArray := prog_11_method_1_code
def yX9_init : MethodName := ⟨RX9, "<init>", "()V"⟩
def RX10 : String := "ArsenalRow$Yard"
def TX10 : u_T := fun k => match k with
  | 0 => ("ArsenalRow$Yard", "stock", "[I", true)
  | 1 => ("ArsenalRow$Yard", "berths", "[I", true)
  | 2 => ("ArsenalRow$Yard", "planks", "[I", true)
  | 3 => ("ArsenalRow$Yard", "hulls", "[LArsenalRow$Hull;", true)
  | 4 => ("ArsenalRow$Yard", "hullCount", "I", false)
  | 5 => ("ArsenalRow$Yard", "line", "[I", true)
  | 6 => ("ArsenalRow$Yard", "lineLength", "I", false)
  | 7 => ("ArsenalRow$Yard", "paid", "I", false)
  | 8 => ("ArsenalRow$Yard", "dry", "I", false)
  | 9 => ("ArsenalRow$Yard", "idle", "I", false)
  | 10 => ("ArsenalRow$Yard", "stirred", "Z", false)
  | _ => ("ArsenalRow$Yard", "handsLeft", "[I", true)
def tyX10 : Nat → FieldType := fun k => match k with
  | 0 => .array .int
  | 1 => .array .int
  | 2 => .array .int
  | 3 => .array (.object "ArsenalRow$Hull")
  | 4 => .int
  | 5 => .array .int
  | 6 => .int
  | 7 => .int
  | 8 => .int
  | 9 => .int
  | 10 => .boolean
  | _ => .array .int
abbrev wsX100 : List Cond := u_ws RX10 TX10 12
theorem nmX10 : ∀ a, a < 12 → ∀ b, b < 12 → a ≠ b → (TX10 a).2.1 ≠ (TX10 b).2.1 := by decide +kernel
theorem tyX10_ok : ∀ k, k < 12 → parseFieldDescriptor (TX10 k).2.2.1 = some (tyX10 k) := by decide +kernel
abbrev cX10_init : ByteArray := prog_12_method_1_code
def yX10_init : MethodName := ⟨RX10, "<init>", "()V"⟩
abbrev cX10_addHull : ByteArray := prog_12_method_2_code
def yX10_addHull : MethodName := ⟨RX10, "addHull", "(III)I"⟩
abbrev cX10_countOf : ByteArray := prog_12_method_3_code
def yX10_countOf : MethodName := ⟨RX10, "countOf", "(I)I"⟩
abbrev cX10_store : ByteArray := prog_12_method_4_code
def yX10_store : MethodName := ⟨RX10, "store", "(II)I"⟩
abbrev cX10_lineUp : ByteArray := prog_12_method_5_code
def yX10_lineUp : MethodName := ⟨RX10, "lineUp", "()V"⟩
abbrev cX10_become : ByteArray := prog_12_method_6_code
def yX10_become : MethodName := ⟨RX10, "become", "(LArsenalRow$Yard;[II)V"⟩
abbrev cX10_passDay : ByteArray := prog_12_method_7_code
def yX10_passDay : MethodName := ⟨RX10, "passDay", "(ILArsenalRow$Almanac;ILArsenalRow$Tasks;)I"⟩
abbrev cX10_moveOn : ByteArray := prog_12_method_8_code
def yX10_moveOn : MethodName := ⟨RX10, "moveOn", "(ILArsenalRow$Tasks;)I"⟩
abbrev cX10_letIn : ByteArray := prog_12_method_9_code
def yX10_letIn : MethodName := ⟨RX10, "letIn", "(LArsenalRow$Tasks;)V"⟩
abbrev cX10_berth : ByteArray := prog_12_method_10_code
def yX10_berth : MethodName := ⟨RX10, "berth", "(IILArsenalRow$Tasks;)V"⟩
abbrev cX10_takeGoods : ByteArray := prog_12_method_11_code
def yX10_takeGoods : MethodName := ⟨RX10, "takeGoods", "()V"⟩
abbrev cX10_hasAll : ByteArray := prog_12_method_12_code
def yX10_hasAll : MethodName := ⟨RX10, "hasAll", "([I)Z"⟩
abbrev cX10_doWork : ByteArray := prog_12_method_13_code
def yX10_doWork : MethodName := ⟨RX10, "doWork", "([III)V"⟩
abbrev cX10_drink : ByteArray := prog_12_method_14_code
def yX10_drink : MethodName := ⟨RX10, "drink", "(I)V"⟩
def RX11 : String := "ArsenalRow"
def TX11 : u_T := fun k => match k with
  | 0 => ("ArsenalRow", "day", "I", false)
  | 1 => ("ArsenalRow", "refusals", "[I", true)
  | 2 => ("ArsenalRow", "crews", "LArsenalRow$Crews;", true)
  | 3 => ("ArsenalRow", "decrees", "LArsenalRow$Decrees;", true)
  | 4 => ("ArsenalRow", "tasks", "LArsenalRow$Tasks;", true)
  | 5 => ("ArsenalRow", "yard", "LArsenalRow$Yard;", true)
  | 6 => ("ArsenalRow", "grove", "LArsenalRow$Grove;", true)
  | 7 => ("ArsenalRow", "parts", "LArsenalRow$Parts;", true)
  | 8 => ("ArsenalRow", "matching", "LArsenalRow$Matching;", true)
  | 9 => ("ArsenalRow", "ledger", "LArsenalRow$Ledger;", true)
  | 10 => ("ArsenalRow", "today", "LArsenalRow$Almanac;", true)
  | _ => ("ArsenalRow", "outlook", "LArsenalRow$Outlook;", true)
def tyX11 : Nat → FieldType := fun k => match k with
  | 0 => .int
  | 1 => .array .int
  | 2 => .object "ArsenalRow$Crews"
  | 3 => .object "ArsenalRow$Decrees"
  | 4 => .object "ArsenalRow$Tasks"
  | 5 => .object "ArsenalRow$Yard"
  | 6 => .object "ArsenalRow$Grove"
  | 7 => .object "ArsenalRow$Parts"
  | 8 => .object "ArsenalRow$Matching"
  | 9 => .object "ArsenalRow$Ledger"
  | 10 => .object "ArsenalRow$Almanac"
  | _ => .object "ArsenalRow$Outlook"
abbrev wsX110 : List Cond := u_ws RX11 TX11 12
theorem nmX11 : ∀ a, a < 12 → ∀ b, b < 12 → a ≠ b → (TX11 a).2.1 ≠ (TX11 b).2.1 := by decide +kernel
theorem tyX11_ok : ∀ k, k < 12 → parseFieldDescriptor (TX11 k).2.2.1 = some (tyX11 k) := by decide +kernel
abbrev cX11_init : ByteArray := prog_1_method_1_code
def yX11_init : MethodName := ⟨RX11, "<init>", "()V"⟩
abbrev cX11_hands : ByteArray := prog_1_method_2_code
def yX11_hands : MethodName := ⟨RX11, "hands", "(II)I"⟩
abbrev cX11_bring : ByteArray := prog_1_method_3_code
def yX11_bring : MethodName := ⟨RX11, "bring", "(II)I"⟩
abbrev cX11_row : ByteArray := prog_1_method_4_code
def yX11_row : MethodName := ⟨RX11, "row", "(II)I"⟩
abbrev cX11_lose : ByteArray := prog_1_method_5_code
def yX11_lose : MethodName := ⟨RX11, "lose", "(I)I"⟩
abbrev cX11_put : ByteArray := prog_1_method_6_code
def yX11_put : MethodName := ⟨RX11, "put", "(III)I"⟩
abbrev cX11_copy : ByteArray := prog_1_method_7_code
def yX11_copy : MethodName := ⟨RX11, "copy", "(IIIII)I"⟩
abbrev cX11_lead : ByteArray := prog_1_method_8_code
def yX11_lead : MethodName := ⟨RX11, "lead", "(II)I"⟩
abbrev cX11_handsOn : ByteArray := prog_1_method_9_code
def yX11_handsOn : MethodName := ⟨RX11, "handsOn", "(II)I"⟩
abbrev cX11_decree : ByteArray := prog_1_method_10_code
def yX11_decree : MethodName := ⟨RX11, "decree", "(IIII)I"⟩
abbrev cX11_force : ByteArray := prog_1_method_11_code
def yX11_force : MethodName := ⟨RX11, "force", "(III)I"⟩
abbrev cX11_task : ByteArray := prog_1_method_12_code
def yX11_task : MethodName := ⟨RX11, "task", "(IIII)I"⟩
abbrev cX11_needs : ByteArray := prog_1_method_13_code
def yX11_needs : MethodName := ⟨RX11, "needs", "(IIII)I"⟩
abbrev cX11_hull : ByteArray := prog_1_method_14_code
def yX11_hull : MethodName := ⟨RX11, "hull", "(III)I"⟩
abbrev cX11_priority : ByteArray := prog_1_method_15_code
def yX11_priority : MethodName := ⟨RX11, "priority", "(II)I"⟩
abbrev cX11_raft : ByteArray := prog_1_method_16_code
def yX11_raft : MethodName := ⟨RX11, "raft", "(II)I"⟩
abbrev cX11_unraft : ByteArray := prog_1_method_17_code
def yX11_unraft : MethodName := ⟨RX11, "unraft", "(I)I"⟩
abbrev cX11_days : ByteArray := prog_1_method_18_code
def yX11_days : MethodName := ⟨RX11, "days", "(I)I"⟩
abbrev cX11_breakUp : ByteArray := prog_1_method_19_code
def yX11_breakUp : MethodName := ⟨RX11, "breakUp", "(I)I"⟩
abbrev cX11_growth : ByteArray := prog_1_method_20_code
def yX11_growth : MethodName := ⟨RX11, "growth", "(II)I"⟩
abbrev cX11_tree : ByteArray := prog_1_method_21_code
def yX11_tree : MethodName := ⟨RX11, "tree", "(III)I"⟩
abbrev cX11_part : ByteArray := prog_1_method_22_code
def yX11_part : MethodName := ⟨RX11, "part", "(IIIII)I"⟩
abbrev cX11_match : ByteArray := prog_1_method_23_code
def yX11_match : MethodName := ⟨RX11, "match", "(II)I"⟩
abbrev cX11_fell : ByteArray := prog_1_method_24_code
def yX11_fell : MethodName := ⟨RX11, "fell", "(I)I"⟩
abbrev cX11_treeFor : ByteArray := prog_1_method_25_code
def yX11_treeFor : MethodName := ⟨RX11, "treeFor", "(II)I"⟩
abbrev cX11_treeOf : ByteArray := prog_1_method_26_code
def yX11_treeOf : MethodName := ⟨RX11, "treeOf", "(II)I"⟩
abbrev cX11_count : ByteArray := prog_1_method_27_code
def yX11_count : MethodName := ⟨RX11, "count", "(II)I"⟩
abbrev cX11_gap : ByteArray := prog_1_method_28_code
def yX11_gap : MethodName := ⟨RX11, "gap", "(II)I"⟩
abbrev cX11_worst : ByteArray := prog_1_method_29_code
def yX11_worst : MethodName := ⟨RX11, "worst", "(I)I"⟩
abbrev cX11_ready : ByteArray := prog_1_method_30_code
def yX11_ready : MethodName := ⟨RX11, "ready", "(I)I"⟩
abbrev cX11_late : ByteArray := prog_1_method_31_code
def yX11_late : MethodName := ⟨RX11, "late", "(I)I"⟩
abbrev cX11_least : ByteArray := prog_1_method_32_code
def yX11_least : MethodName := ⟨RX11, "least", "()I"⟩
abbrev cX11_order : ByteArray := prog_1_method_33_code
def yX11_order : MethodName := ⟨RX11, "order", "(I)I"⟩
abbrev cX11_hullOf : ByteArray := prog_1_method_34_code
def yX11_hullOf : MethodName := ⟨RX11, "hullOf", "(II)I"⟩
abbrev cX11_basinOf : ByteArray := prog_1_method_35_code
def yX11_basinOf : MethodName := ⟨RX11, "basinOf", "(II)I"⟩
abbrev cX11_stock : ByteArray := prog_1_method_36_code
def yX11_stock : MethodName := ⟨RX11, "stock", "(I)I"⟩
abbrev cX11_told : ByteArray := prog_1_method_37_code
def yX11_told : MethodName := ⟨RX11, "told", "(I)I"⟩
abbrev cX11_within : ByteArray := prog_1_method_38_code
def yX11_within : MethodName := ⟨RX11, "within", "(II)Z"⟩
abbrev cX11_outside : ByteArray := prog_1_method_39_code
def yX11_outside : MethodName := ⟨RX11, "outside", "(III)I"⟩
abbrev cX11_isHull : ByteArray := prog_1_method_40_code
def yX11_isHull : MethodName := ⟨RX11, "isHull", "(I)Z"⟩
abbrev cX11_refused : ByteArray := prog_1_method_41_code
def yX11_refused : MethodName := ⟨RX11, "refused", "(I)I"⟩
abbrev cX11_refusedAside : ByteArray := prog_1_method_42_code
def yX11_refusedAside : MethodName := ⟨RX11, "refusedAside", "(I)I"⟩
abbrev cX11_readyAhead : ByteArray := prog_1_method_43_code
def yX11_readyAhead : MethodName := ⟨RX11, "readyAhead", "(I)I"⟩
abbrev cX11_findOrder : ByteArray := prog_1_method_44_code
def yX11_findOrder : MethodName := ⟨RX11, "findOrder", "()Z"⟩
abbrev cX11_lateness : ByteArray := prog_1_method_45_code
def yX11_lateness : MethodName := ⟨RX11, "lateness", "(III)I"⟩
def RX12 : String := "ArsenalRowModel"
def TX12 : u_T := fun k => match k with
  | 0 => ("ArsenalRowModel", "day", "I", false)
  | 1 => ("ArsenalRowModel", "hands", "[I", true)
  | 2 => ("ArsenalRowModel", "led", "[I", true)
  | 3 => ("ArsenalRowModel", "rosterSize", "[I", true)
  | 4 => ("ArsenalRowModel", "roster", "[I", true)
  | 5 => ("ArsenalRowModel", "stock", "[I", true)
  | 6 => ("ArsenalRowModel", "decrees", "I", false)
  | 7 => ("ArsenalRowModel", "decreeKind", "[I", true)
  | 8 => ("ArsenalRowModel", "decreeCraft", "[I", true)
  | 9 => ("ArsenalRowModel", "decreeNumber", "[I", true)
  | 10 => ("ArsenalRowModel", "decreeDay", "[I", true)
  | 11 => ("ArsenalRowModel", "taskCraft", "[I", true)
  | 12 => ("ArsenalRowModel", "taskWork", "[I", true)
  | 13 => ("ArsenalRowModel", "taskNeed", "[I", true)
  | 14 => ("ArsenalRowModel", "hulls", "I", false)
  | 15 => ("ArsenalRowModel", "sort", "[I", true)
  | 16 => ("ArsenalRowModel", "priority", "[I", true)
  | 17 => ("ArsenalRowModel", "due", "[I", true)
  | 18 => ("ArsenalRowModel", "state", "[I", true)
  | 19 => ("ArsenalRowModel", "at", "[I", true)
  | 20 => ("ArsenalRowModel", "craft", "[I", true)
  | 21 => ("ArsenalRowModel", "work", "[I", true)
  | 22 => ("ArsenalRowModel", "has", "[Z", true)
  | 23 => ("ArsenalRowModel", "lack", "[I", true)
  | 24 => ("ArsenalRowModel", "since", "[I", true)
  | 25 => ("ArsenalRowModel", "need", "[I", true)
  | 26 => ("ArsenalRowModel", "needed", "[I", true)
  | 27 => ("ArsenalRowModel", "felled", "[Z", true)
  | 28 => ("ArsenalRowModel", "basin", "[I", true)
  | 29 => ("ArsenalRowModel", "planks", "[I", true)
  | 30 => ("ArsenalRowModel", "paid", "I", false)
  | 31 => ("ArsenalRowModel", "dry", "I", false)
  | 32 => ("ArsenalRowModel", "idle", "I", false)
  | 33 => ("ArsenalRowModel", "growth", "[I", true)
  | 34 => ("ArsenalRowModel", "trees", "I", false)
  | 35 => ("ArsenalRowModel", "wood", "[I", true)
  | 36 => ("ArsenalRowModel", "bend", "[I", true)
  | 37 => ("ArsenalRowModel", "girth", "[I", true)
  | 38 => ("ArsenalRowModel", "treeHull", "[I", true)
  | 39 => ("ArsenalRowModel", "treePart", "[I", true)
  | 40 => ("ArsenalRowModel", "parts", "[I", true)
  | 41 => ("ArsenalRowModel", "partWood", "[I", true)
  | 42 => ("ArsenalRowModel", "partBend", "[I", true)
  | 43 => ("ArsenalRowModel", "partSpan", "[I", true)
  | 44 => ("ArsenalRowModel", "partGirth", "[I", true)
  | 45 => ("ArsenalRowModel", "inventories", "I", false)
  | 46 => ("ArsenalRowModel", "invGood", "[I", true)
  | 47 => ("ArsenalRowModel", "invDay", "[I", true)
  | 48 => ("ArsenalRowModel", "invGap", "[I", true)
  | 49 => ("ArsenalRowModel", "invFrom", "[I", true)
  | 50 => ("ArsenalRowModel", "refused", "[I", true)
  | 51 => ("ArsenalRowModel", "between", "[I", true)
  | 52 => ("ArsenalRowModel", "used", "[Z", true)
  | 53 => ("ArsenalRowModel", "chosen", "[I", true)
  | 54 => ("ArsenalRowModel", "leastWaste", "[I", true)
  | 55 => ("ArsenalRowModel", "bestMany", "I", false)
  | 56 => ("ArsenalRowModel", "bestWaste", "I", false)
  | 57 => ("ArsenalRowModel", "matchMany", "I", false)
  | 58 => ("ArsenalRowModel", "matchWaste", "I", false)
  | 59 => ("ArsenalRowModel", "kept", "[I", true)
  | 60 => ("ArsenalRowModel", "neededKept", "[I", true)
  | 61 => ("ArsenalRowModel", "asked", "[I", true)
  | 62 => ("ArsenalRowModel", "askedMany", "I", false)
  | 63 => ("ArsenalRowModel", "order", "[I", true)
  | _ => ("ArsenalRowModel", "bestOrder", "[I", true)
def tyX12 : Nat → FieldType := fun k => match k with
  | 0 => .int
  | 1 => .array .int
  | 2 => .array .int
  | 3 => .array .int
  | 4 => .array .int
  | 5 => .array .int
  | 6 => .int
  | 7 => .array .int
  | 8 => .array .int
  | 9 => .array .int
  | 10 => .array .int
  | 11 => .array .int
  | 12 => .array .int
  | 13 => .array .int
  | 14 => .int
  | 15 => .array .int
  | 16 => .array .int
  | 17 => .array .int
  | 18 => .array .int
  | 19 => .array .int
  | 20 => .array .int
  | 21 => .array .int
  | 22 => .array .boolean
  | 23 => .array .int
  | 24 => .array .int
  | 25 => .array .int
  | 26 => .array .int
  | 27 => .array .boolean
  | 28 => .array .int
  | 29 => .array .int
  | 30 => .int
  | 31 => .int
  | 32 => .int
  | 33 => .array .int
  | 34 => .int
  | 35 => .array .int
  | 36 => .array .int
  | 37 => .array .int
  | 38 => .array .int
  | 39 => .array .int
  | 40 => .array .int
  | 41 => .array .int
  | 42 => .array .int
  | 43 => .array .int
  | 44 => .array .int
  | 45 => .int
  | 46 => .array .int
  | 47 => .array .int
  | 48 => .array .int
  | 49 => .array .int
  | 50 => .array .int
  | 51 => .array .int
  | 52 => .array .boolean
  | 53 => .array .int
  | 54 => .array .int
  | 55 => .int
  | 56 => .int
  | 57 => .int
  | 58 => .int
  | 59 => .array .int
  | 60 => .array .int
  | 61 => .array .int
  | 62 => .int
  | 63 => .array .int
  | _ => .array .int
abbrev wsX120 : List Cond := u_ws RX12 TX12 65
theorem nmX12 : ∀ a, a < 65 → ∀ b, b < 65 → a ≠ b → (TX12 a).2.1 ≠ (TX12 b).2.1 := by decide +kernel
theorem tyX12_ok : ∀ k, k < 65 → parseFieldDescriptor (TX12 k).2.2.1 = some (tyX12 k) := by decide +kernel
abbrev cX12_init : ByteArray := prog_14_method_1_code
def yX12_init : MethodName := ⟨RX12, "<init>", "()V"⟩
abbrev cX12_in : ByteArray := prog_14_method_3_code
def yX12_in : MethodName := ⟨RX12, "in", "(III)Z"⟩
abbrev cX12_refuse : ByteArray := prog_14_method_4_code
def yX12_refuse : MethodName := ⟨RX12, "refuse", "(I)I"⟩
abbrev cX12_refuseFar : ByteArray := prog_14_method_5_code
def yX12_refuseFar : MethodName := ⟨RX12, "refuseFar", "(I)I"⟩
abbrev cX12_hands : ByteArray := prog_14_method_6_code
def yX12_hands : MethodName := ⟨RX12, "hands", "(II)I"⟩
abbrev cX12_bring : ByteArray := prog_14_method_7_code
def yX12_bring : MethodName := ⟨RX12, "bring", "(II)I"⟩
abbrev cX12_row : ByteArray := prog_14_method_8_code
def yX12_row : MethodName := ⟨RX12, "row", "(II)I"⟩
abbrev cX12_lose : ByteArray := prog_14_method_9_code
def yX12_lose : MethodName := ⟨RX12, "lose", "(I)I"⟩
abbrev cX12_put : ByteArray := prog_14_method_10_code
def yX12_put : MethodName := ⟨RX12, "put", "(III)I"⟩
abbrev cX12_copy : ByteArray := prog_14_method_11_code
def yX12_copy : MethodName := ⟨RX12, "copy", "(IIIII)I"⟩
abbrev cX12_lead : ByteArray := prog_14_method_12_code
def yX12_lead : MethodName := ⟨RX12, "lead", "(II)I"⟩
abbrev cX12_handsAt : ByteArray := prog_14_method_13_code
def yX12_handsAt : MethodName := ⟨RX12, "handsAt", "(II)I"⟩
abbrev cX12_handsOn : ByteArray := prog_14_method_14_code
def yX12_handsOn : MethodName := ⟨RX12, "handsOn", "(II)I"⟩
abbrev cX12_decree : ByteArray := prog_14_method_15_code
def yX12_decree : MethodName := ⟨RX12, "decree", "(IIII)I"⟩
abbrev cX12_forceAt : ByteArray := prog_14_method_16_code
def yX12_forceAt : MethodName := ⟨RX12, "forceAt", "(III)I"⟩
abbrev cX12_force : ByteArray := prog_14_method_17_code
def yX12_force : MethodName := ⟨RX12, "force", "(III)I"⟩
abbrev cX12_task : ByteArray := prog_14_method_18_code
def yX12_task : MethodName := ⟨RX12, "task", "(IIII)I"⟩
abbrev cX12_needs : ByteArray := prog_14_method_19_code
def yX12_needs : MethodName := ⟨RX12, "needs", "(IIII)I"⟩
abbrev cX12_hull : ByteArray := prog_14_method_20_code
def yX12_hull : MethodName := ⟨RX12, "hull", "(III)I"⟩
abbrev cX12_isHull : ByteArray := prog_14_method_21_code
def yX12_isHull : MethodName := ⟨RX12, "isHull", "(I)Z"⟩
abbrev cX12_priority : ByteArray := prog_14_method_22_code
def yX12_priority : MethodName := ⟨RX12, "priority", "(II)I"⟩
abbrev cX12_raft : ByteArray := prog_14_method_23_code
def yX12_raft : MethodName := ⟨RX12, "raft", "(II)I"⟩
abbrev cX12_unraft : ByteArray := prog_14_method_24_code
def yX12_unraft : MethodName := ⟨RX12, "unraft", "(I)I"⟩
abbrev cX12_isFirst : ByteArray := prog_14_method_25_code
def yX12_isFirst : MethodName := ⟨RX12, "isFirst", "(II)Z"⟩
abbrev cX12_firstBehind : ByteArray := prog_14_method_26_code
def yX12_firstBehind : MethodName := ⟨RX12, "firstBehind", "(II)I"⟩
abbrev cX12_enter : ByteArray := prog_14_method_27_code
def yX12_enter : MethodName := ⟨RX12, "enter", "(II)V"⟩
abbrev cX12_moveAll : ByteArray := prog_14_method_28_code
def yX12_moveAll : MethodName := ⟨RX12, "moveAll", "()I"⟩
abbrev cX12_takeGoods : ByteArray := prog_14_method_29_code
def yX12_takeGoods : MethodName := ⟨RX12, "takeGoods", "(I)V"⟩
abbrev cX12_workAll : ByteArray := prog_14_method_30_code
def yX12_workAll : MethodName := ⟨RX12, "workAll", "()V"⟩
abbrev cX12_payAll : ByteArray := prog_14_method_31_code
def yX12_payAll : MethodName := ⟨RX12, "payAll", "()V"⟩
abbrev cX12_pass : ByteArray := prog_14_method_32_code
def yX12_pass : MethodName := ⟨RX12, "pass", "()I"⟩
abbrev cX12_days : ByteArray := prog_14_method_33_code
def yX12_days : MethodName := ⟨RX12, "days", "(I)I"⟩
abbrev cX12_breakUp : ByteArray := prog_14_method_34_code
def yX12_breakUp : MethodName := ⟨RX12, "breakUp", "(I)I"⟩
abbrev cX12_growth : ByteArray := prog_14_method_35_code
def yX12_growth : MethodName := ⟨RX12, "growth", "(II)I"⟩
abbrev cX12_tree : ByteArray := prog_14_method_36_code
def yX12_tree : MethodName := ⟨RX12, "tree", "(III)I"⟩
abbrev cX12_part : ByteArray := prog_14_method_37_code
def yX12_part : MethodName := ⟨RX12, "part", "(IIIII)I"⟩
abbrev cX12_fits : ByteArray := prog_14_method_38_code
def yX12_fits : MethodName := ⟨RX12, "fits", "(II)Z"⟩
abbrev cX12_ones : ByteArray := prog_14_method_39_code
def yX12_ones : MethodName := ⟨RX12, "ones", "(I)I"⟩
abbrev cX12_solve : ByteArray := prog_14_method_40_code
def yX12_solve : MethodName := ⟨RX12, "solve", "(II)V"⟩
abbrev cX12_findMatch : ByteArray := prog_14_method_41_code
def yX12_findMatch : MethodName := ⟨RX12, "findMatch", "(I)V"⟩
abbrev cX12_match : ByteArray := prog_14_method_42_code
def yX12_match : MethodName := ⟨RX12, "match", "(II)I"⟩
abbrev cX12_fell : ByteArray := prog_14_method_43_code
def yX12_fell : MethodName := ⟨RX12, "fell", "(I)I"⟩
abbrev cX12_treeFor : ByteArray := prog_14_method_44_code
def yX12_treeFor : MethodName := ⟨RX12, "treeFor", "(II)I"⟩
abbrev cX12_treeOf : ByteArray := prog_14_method_45_code
def yX12_treeOf : MethodName := ⟨RX12, "treeOf", "(II)I"⟩
abbrev cX12_count : ByteArray := prog_14_method_46_code
def yX12_count : MethodName := ⟨RX12, "count", "(II)I"⟩
abbrev cX12_gap : ByteArray := prog_14_method_47_code
def yX12_gap : MethodName := ⟨RX12, "gap", "(II)I"⟩
abbrev cX12_spanOf : ByteArray := prog_14_method_48_code
def yX12_spanOf : MethodName := ⟨RX12, "spanOf", "(I)J"⟩
abbrev cX12_worst : ByteArray := prog_14_method_49_code
def yX12_worst : MethodName := ⟨RX12, "worst", "(I)I"⟩
abbrev cX12_swap : ByteArray := prog_14_method_50_code
def yX12_swap : MethodName := ⟨RX12, "swap", "(IIZ)I"⟩
abbrev cX12_aside : ByteArray := prog_14_method_51_code
def yX12_aside : MethodName := ⟨RX12, "aside", "(Z)V"⟩
abbrev cX12_goAhead : ByteArray := prog_14_method_52_code
def yX12_goAhead : MethodName := ⟨RX12, "goAhead", "()V"⟩
abbrev cX12_ready : ByteArray := prog_14_method_53_code
def yX12_ready : MethodName := ⟨RX12, "ready", "(I)I"⟩
abbrev cX12_lateBy : ByteArray := prog_14_method_54_code
def yX12_lateBy : MethodName := ⟨RX12, "lateBy", "(III)I"⟩
abbrev cX12_late : ByteArray := prog_14_method_55_code
def yX12_late : MethodName := ⟨RX12, "late", "(I)I"⟩
abbrev cX12_ask : ByteArray := prog_14_method_56_code
def yX12_ask : MethodName := ⟨RX12, "ask", "()Z"⟩
abbrev cX12_findOrder : ByteArray := prog_14_method_57_code
def yX12_findOrder : MethodName := ⟨RX12, "findOrder", "(I)V"⟩
abbrev cX12_findLeast : ByteArray := prog_14_method_58_code
def yX12_findLeast : MethodName := ⟨RX12, "findLeast", "()I"⟩
abbrev cX12_least : ByteArray := prog_14_method_59_code
def yX12_least : MethodName := ⟨RX12, "least", "()I"⟩
abbrev cX12_order : ByteArray := prog_14_method_60_code
def yX12_order : MethodName := ⟨RX12, "order", "(I)I"⟩
abbrev cX12_hullOf : ByteArray := prog_14_method_61_code
def yX12_hullOf : MethodName := ⟨RX12, "hullOf", "(II)I"⟩
abbrev cX12_basinOf : ByteArray := prog_14_method_62_code
def yX12_basinOf : MethodName := ⟨RX12, "basinOf", "(II)I"⟩
abbrev cX12_stock : ByteArray := prog_14_method_63_code
def yX12_stock : MethodName := ⟨RX12, "stock", "(I)I"⟩
abbrev cX12_told : ByteArray := prog_14_method_64_code
def yX12_told : MethodName := ⟨RX12, "told", "(I)I"⟩
def RJ9 : String := "java/lang/Math"
def TJ9 : u_T := fun k => match k with
  | _ => ("", "", "", false)
def tyJ9 : Nat → FieldType := fun k => match k with
  | _ => .int
abbrev wsJ90 : List Cond := u_ws RJ9 TJ9 0
theorem nmJ9 : ∀ a, a < 0 → ∀ b, b < 0 → a ≠ b → (TJ9 a).2.1 ≠ (TJ9 b).2.1 := by decide +kernel
theorem tyJ9_ok : ∀ k, k < 0 → parseFieldDescriptor (TJ9 k).2.2.1 = some (tyJ9 k) := by decide +kernel
abbrev cJ9_abs_0f7a4 : ByteArray := prog_15_method_59_code
def yJ9_abs_0f7a4 : MethodName := ⟨RJ9, "abs", "(I)I"⟩
abbrev cJ9_max_7cf53 : ByteArray := prog_15_method_65_code
def yJ9_max_7cf53 : MethodName := ⟨RJ9, "max", "(II)I"⟩
abbrev cJ9_min_7cf53 : ByteArray := prog_15_method_69_code
def yJ9_min_7cf53 : MethodName := ⟨RJ9, "min", "(II)I"⟩
abbrev cJ9_min_f86c9 : ByteArray := prog_15_method_70_code
def yJ9_min_f86c9 : MethodName := ⟨RJ9, "min", "(JJ)J"⟩
def RJ10 : String := "java/lang/System"
def TJ10 : u_T := fun k => match k with
  | _ => ("", "", "", false)
def tyJ10 : Nat → FieldType := fun k => match k with
  | _ => .int
abbrev wsJ100 : List Cond := u_ws RJ10 TJ10 0
theorem nmJ10 : ∀ a, a < 0 → ∀ b, b < 0 → a ≠ b → (TJ10 a).2.1 ≠ (TJ10 b).2.1 := by decide +kernel
theorem tyJ10_ok : ∀ k, k < 0 → parseFieldDescriptor (TJ10 k).2.2.1 = some (tyJ10 k) := by decide +kernel
def RJ7 : String := "java/util/Arrays"
def TJ7 : u_T := fun k => match k with
  | _ => ("", "", "", false)
def tyJ7 : Nat → FieldType := fun k => match k with
  | _ => .int
abbrev wsJ70 : List Cond := u_ws RJ7 TJ7 0
theorem nmJ7 : ∀ a, a < 0 → ∀ b, b < 0 → a ≠ b → (TJ7 a).2.1 ≠ (TJ7 b).2.1 := by decide +kernel
theorem tyJ7_ok : ∀ k, k < 0 → parseFieldDescriptor (TJ7 k).2.2.1 = some (tyJ7 k) := by decide +kernel
abbrev cJ7_fill_d0a16 : ByteArray := prog_17_method_101_code
def yJ7_fill_d0a16 : MethodName := ⟨RJ7, "fill", "([JJ)V"⟩
abbrev cJ7_fill_53178 : ByteArray := prog_17_method_103_code
def yJ7_fill_53178 : MethodName := ⟨RJ7, "fill", "([II)V"⟩
def RL : String := "ArsenalRowLaw"
abbrev cL_law : ByteArray := code
def yL_law : MethodName := ⟨RL, "law", "([I)Z"⟩
abbrev vwCl : List vw_C := [(RX0, TX0, 4), (RX1, TX1, 4), (RX2, TX2, 6), (RX3, TX3, 7), (RX4, TX4, 13), (RX5, TX5, 5), (RX6, TX6, 5), (RX7, TX7, 12), (RX8, TX8, 5), (RX9, TX9, 3), (RX10, TX10, 12), (RX11, TX11, 12), (RX12, TX12, 65)]
end
section
/-- the objects in the order in which they are made: kind (0 object, 1 ints, 2 longs, 3 booleans, 4 hulls, 5 rows of ints) and class number or length -/
def jLY : List (Nat × Nat) := [(0, 11), (1, 8), (0, 1), (1, 4), (1, 4), (5, 4), (1, 30), (1, 30), (1, 30), (1, 30), (1, 4), (0, 2), (1, 40), (1, 40), (1, 40), (1, 10), (0, 9), (5, 3), (1, 6), (1, 6), (1, 6), (5, 3), (1, 6), (1, 6), (1, 6), (5, 3), (1, 36), (1, 36), (1, 36), (0, 10), (1, 6), (1, 6), (1, 6), (4, 16), (1, 16), (1, 4), (0, 4), (1, 6), (1, 6), (0, 4), (1, 6), (1, 6), (0, 4), (1, 6), (1, 6), (0, 4), (1, 6), (1, 6), (0, 4), (1, 6), (1, 6), (0, 4), (1, 6), (1, 6), (0, 4), (1, 6), (1, 6), (0, 4), (1, 6), (1, 6), (0, 4), (1, 6), (1, 6), (0, 4), (1, 6), (1, 6), (0, 4), (1, 6), (1, 6), (0, 4), (1, 6), (1, 6), (0, 4), (1, 6), (1, 6), (0, 4), (1, 6), (1, 6), (0, 4), (1, 6), (1, 6), (0, 4), (1, 6), (1, 6), (0, 3), (1, 40), (1, 40), (1, 40), (1, 40), (1, 40), (1, 3), (0, 8), (1, 3), (1, 18), (1, 18), (1, 18), (1, 18), (0, 6), (1, 6), (2, 64), (2, 6), (0, 5), (1, 40), (1, 40), (1, 40), (1, 40), (0, 0), (1, 4), (1, 1), (1, 1), (1, 1), (0, 7), (1, 5), (0, 0), (1, 1200), (1, 300), (1, 300), (1, 300), (1, 4), (0, 10), (1, 6), (1, 6), (1, 6), (4, 16), (1, 16), (1, 4), (0, 4), (1, 6), (1, 6), (0, 4), (1, 6), (1, 6), (0, 4), (1, 6), (1, 6), (0, 4), (1, 6), (1, 6), (0, 4), (1, 6), (1, 6), (0, 4), (1, 6), (1, 6), (0, 4), (1, 6), (1, 6), (0, 4), (1, 6), (1, 6), (0, 4), (1, 6), (1, 6), (0, 4), (1, 6), (1, 6), (0, 4), (1, 6), (1, 6), (0, 4), (1, 6), (1, 6), (0, 4), (1, 6), (1, 6), (0, 4), (1, 6), (1, 6), (0, 4), (1, 6), (1, 6), (0, 4), (1, 6), (1, 6), (1, 16), (1, 5), (0, 12), (1, 4), (1, 4), (1, 4), (1, 120), (1, 6), (1, 40), (1, 40), (1, 40), (1, 40), (1, 18), (1, 18), (1, 108), (1, 16), (1, 16), (1, 16), (1, 16), (1, 16), (1, 16), (1, 16), (3, 16), (1, 16), (1, 16), (1, 96), (1, 96), (3, 16), (1, 6), (1, 6), (1, 3), (1, 40), (1, 40), (1, 40), (1, 40), (1, 40), (1, 3), (1, 18), (1, 18), (1, 18), (1, 18), (1, 40), (1, 40), (1, 40), (1, 40), (1, 8), (1, 30), (3, 40), (1, 6), (1, 64), (1, 400), (1, 96), (1, 5), (1, 5), (1, 5)]
def jSL : List Nat := [12, 8, 4, 4, 4, 4, 30, 30, 30, 30, 4, 6, 40, 40, 40, 10, 3, 3, 6, 6, 6, 3, 6, 6, 6, 3, 36, 36, 36, 12, 6, 6, 6, 16, 16, 4, 13, 6, 6, 13, 6, 6, 13, 6, 6, 13, 6, 6, 13, 6, 6, 13, 6, 6, 13, 6, 6, 13, 6, 6, 13, 6, 6, 13, 6, 6, 13, 6, 6, 13, 6, 6, 13, 6, 6, 13, 6, 6, 13, 6, 6, 13, 6, 6, 7, 40, 40, 40, 40, 40, 3, 5, 3, 18, 18, 18, 18, 5, 6, 64, 6, 5, 40, 40, 40, 40, 4, 4, 1, 1, 1, 12, 5, 4, 1200, 300, 300, 300, 4, 12, 6, 6, 6, 16, 16, 4, 13, 6, 6, 13, 6, 6, 13, 6, 6, 13, 6, 6, 13, 6, 6, 13, 6, 6, 13, 6, 6, 13, 6, 6, 13, 6, 6, 13, 6, 6, 13, 6, 6, 13, 6, 6, 13, 6, 6, 13, 6, 6, 13, 6, 6, 13, 6, 6, 16, 5, 65, 4, 4, 4, 120, 6, 40, 40, 40, 40, 18, 18, 108, 16, 16, 16, 16, 16, 16, 16, 16, 16, 16, 96, 96, 16, 6, 6, 3, 40, 40, 40, 40, 40, 3, 18, 18, 18, 18, 40, 40, 40, 40, 8, 30, 40, 6, 64, 400, 96, 5, 5, 5]
/-- the slots of the first n objects -/
def jSZ (n : Nat) : Nat := (jSL.take n).sum
/-- fields: 1 int, 3 boolean, 4 reference -/
def jFT : List (List Nat) := [[4, 4, 4, 4], [4, 4, 4, 4], [1, 4, 4, 4, 4, 1], [1, 4, 4, 4, 4, 4, 4], [1, 1, 1, 1, 1, 1, 1, 3, 1, 1, 3, 4, 4], [1, 4, 4, 4, 4], [1, 1, 4, 4, 4], [1, 4, 1, 1, 4, 4, 4, 4, 4, 3, 3, 3], [4, 4, 4, 4, 4], [4, 4, 4], [4, 4, 4, 4, 1, 4, 1, 1, 1, 1, 3, 4], [1, 4, 4, 4, 4, 4, 4, 4, 4, 4, 4, 4], [1, 4, 4, 4, 4, 4, 1, 4, 4, 4, 4, 4, 4, 4, 1, 4, 4, 4, 4, 4, 4, 4, 4, 4, 4, 4, 4, 4, 4, 4, 1, 1, 1, 4, 1, 4, 4, 4, 4, 4, 4, 4, 4, 4, 4, 1, 4, 4, 4, 4, 4, 4, 4, 4, 4, 1, 1, 1, 1, 4, 4, 4, 1, 4, 4]]
def jbF : List (List (Int × Int × Int)) := [[(-2147483648, 2147483647, 0), (-2147483648, 2147483647, 0), (-2147483648, 2147483647, 0), (-2147483648, 2147483647, 0)], [(-2147483648, 2147483647, 0), (-2147483648, 2147483647, 0), (-2147483648, 2147483647, 0), (-2147483648, 2147483647, 0)], [(0, 40, 0), (-2147483648, 2147483647, 0), (-2147483648, 2147483647, 0), (-2147483648, 2147483647, 0), (-2147483648, 2147483647, 0), (0, 40, 0)], [(0, 40, 0), (-2147483648, 2147483647, 0), (-2147483648, 2147483647, 0), (-2147483648, 2147483647, 0), (-2147483648, 2147483647, 0), (-2147483648, 2147483647, 0), (-2147483648, 2147483647, 0)], [(0, 2, 0), (0, 99, 0), (0, 2000, 0), (0, 3, 0), (-9, 5, 0), (0, 3, 0), (-2147483648, 2147483647, 0), (0, 1, 0), (-2147483648, 2147483647, 0), (-2147483648, 2147483647, 0), (0, 1, 0), (-2147483648, 2147483647, 0), (-2147483648, 2147483647, 0)], [(0, 40, 0), (-2147483648, 2147483647, 0), (-2147483648, 2147483647, 0), (-2147483648, 2147483647, 0), (-2147483648, 2147483647, 0)], [(-2147483648, 2147483647, 0), (-2147483648, 2147483647, 0), (-2147483648, 2147483647, 0), (-2147483648, 2147483647, 0), (-2147483648, 2147483647, 0)], [(-2147483648, 2147483647, 0), (-2147483648, 2147483647, 0), (0, 5, 0), (0, 2000, 0), (-2147483648, 2147483647, 0), (-2147483648, 2147483647, 0), (-2147483648, 2147483647, 0), (-2147483648, 2147483647, 0), (-2147483648, 2147483647, 0), (0, 1, 0), (0, 1, 0), (0, 1, 0)], [(-2147483648, 2147483647, 0), (-2147483648, 2147483647, 0), (-2147483648, 2147483647, 0), (-2147483648, 2147483647, 0), (-2147483648, 2147483647, 0)], [(-2147483648, 2147483647, 0), (-2147483648, 2147483647, 0), (-2147483648, 2147483647, 0)], [(-2147483648, 2147483647, 0), (-2147483648, 2147483647, 0), (-2147483648, 2147483647, 0), (-2147483648, 2147483647, 0), (0, 16, 0), (-2147483648, 2147483647, 0), (0, 16, 0), (-2147483648, 2147483647, 0), (-2147483648, 2147483647, 0), (-2147483648, 2147483647, 0), (0, 1, 0), (-2147483648, 2147483647, 0)], [(0, 2000, 0), (-2147483648, 2147483647, 0), (-2147483648, 2147483647, 0), (-2147483648, 2147483647, 0), (-2147483648, 2147483647, 0), (-2147483648, 2147483647, 0), (-2147483648, 2147483647, 0), (-2147483648, 2147483647, 0), (-2147483648, 2147483647, 0), (-2147483648, 2147483647, 0), (-2147483648, 2147483647, 0), (-2147483648, 2147483647, 0)], [(0, 2300, 0), (-2147483648, 2147483647, 0), (-2147483648, 2147483647, 0), (-2147483648, 2147483647, 0), (-2147483648, 2147483647, 0), (-2147483648, 2147483647, 0), (0, 40, 0), (-2147483648, 2147483647, 0), (-2147483648, 2147483647, 0), (-2147483648, 2147483647, 0), (-2147483648, 2147483647, 0), (-2147483648, 2147483647, 0), (-2147483648, 2147483647, 0), (-2147483648, 2147483647, 0), (0, 16, 0), (-2147483648, 2147483647, 0), (-2147483648, 2147483647, 0), (-2147483648, 2147483647, 0), (-2147483648, 2147483647, 0), (-2147483648, 2147483647, 0), (-2147483648, 2147483647, 0), (-2147483648, 2147483647, 0), (-2147483648, 2147483647, 0), (-2147483648, 2147483647, 0), (-2147483648, 2147483647, 0), (-2147483648, 2147483647, 0), (-2147483648, 2147483647, 0), (-2147483648, 2147483647, 0), (-2147483648, 2147483647, 0), (-2147483648, 2147483647, 0), (-2147483648, 2147483647, 0), (-2147483648, 2147483647, 0), (-2147483648, 2147483647, 0), (-2147483648, 2147483647, 0), (0, 40, 0), (-2147483648, 2147483647, 0), (-2147483648, 2147483647, 0), (-2147483648, 2147483647, 0), (-2147483648, 2147483647, 0), (-2147483648, 2147483647, 0), (-2147483648, 2147483647, 0), (-2147483648, 2147483647, 0), (-2147483648, 2147483647, 0), (-2147483648, 2147483647, 0), (-2147483648, 2147483647, 0), (0, 40, 0), (-2147483648, 2147483647, 0), (-2147483648, 2147483647, 0), (-2147483648, 2147483647, 0), (-2147483648, 2147483647, 0), (-2147483648, 2147483647, 0), (-2147483648, 2147483647, 0), (-2147483648, 2147483647, 0), (-2147483648, 2147483647, 0), (-2147483648, 2147483647, 0), (-2147483648, 2147483647, 0), (-2147483648, 2147483647, 0), (-2147483648, 2147483647, 0), (-2147483648, 2147483647, 0), (-2147483648, 2147483647, 0), (-2147483648, 2147483647, 0), (-2147483648, 2147483647, 0), (0, 16, 0), (-2147483648, 2147483647, 0), (-2147483648, 2147483647, 0)]]
def jbA : List (Int × Int × Int) := [(-2147483648, 2147483647, 0), (-2147483648, 2147483647, 0), (-2147483648, 2147483647, 0), (0, 400, 0), (-1, 3, 0), (-2147483648, 2147483647, 0), (0, 400, 0), (0, 400, 0), (0, 400, 0), (0, 400, 0), (-1, 30, 0), (-2147483648, 2147483647, 0), (0, 9, 0), (0, 200, 0), (0, 2000, 0), (0, 200, 0), (-2147483648, 2147483647, 0), (-2147483648, 2147483647, 0), (0, 3, 0), (0, 3, 0), (0, 3, 0), (-2147483648, 2147483647, 0), (0, 2000, 0), (0, 2000, 0), (0, 2000, 0), (-2147483648, 2147483647, 0), (0, 500, 0), (0, 500, 0), (0, 500, 0), (-2147483648, 2147483647, 0), (-2147483648, 2147483647, 0), (-2, 15, 0), (-2147483648, 2147483647, 0), (-2147483648, 2147483647, 0), (0, 15, 0), (-2147483648, 2147483647, 0), (-2147483648, 2147483647, 0), (-2147483648, 2147483647, 0), (-2147483648, 2147483647, 0), (-2147483648, 2147483647, 0), (-2147483648, 2147483647, 0), (-2147483648, 2147483647, 0), (-2147483648, 2147483647, 0), (-2147483648, 2147483647, 0), (-2147483648, 2147483647, 0), (-2147483648, 2147483647, 0), (-2147483648, 2147483647, 0), (-2147483648, 2147483647, 0), (-2147483648, 2147483647, 0), (-2147483648, 2147483647, 0), (-2147483648, 2147483647, 0), (-2147483648, 2147483647, 0), (-2147483648, 2147483647, 0), (-2147483648, 2147483647, 0), (-2147483648, 2147483647, 0), (-2147483648, 2147483647, 0), (-2147483648, 2147483647, 0), (-2147483648, 2147483647, 0), (-2147483648, 2147483647, 0), (-2147483648, 2147483647, 0), (-2147483648, 2147483647, 0), (-2147483648, 2147483647, 0), (-2147483648, 2147483647, 0), (-2147483648, 2147483647, 0), (-2147483648, 2147483647, 0), (-2147483648, 2147483647, 0), (-2147483648, 2147483647, 0), (-2147483648, 2147483647, 0), (-2147483648, 2147483647, 0), (-2147483648, 2147483647, 0), (-2147483648, 2147483647, 0), (-2147483648, 2147483647, 0), (-2147483648, 2147483647, 0), (-2147483648, 2147483647, 0), (-2147483648, 2147483647, 0), (-2147483648, 2147483647, 0), (-2147483648, 2147483647, 0), (-2147483648, 2147483647, 0), (-2147483648, 2147483647, 0), (-2147483648, 2147483647, 0), (-2147483648, 2147483647, 0), (-2147483648, 2147483647, 0), (-2147483648, 2147483647, 0), (-2147483648, 2147483647, 0), (-2147483648, 2147483647, 0), (0, 2, 0), (-9, 9, 0), (-2147483648, 2147483647, 0), (-9, 15, 0), (-9, 5, 0), (0, 9, 0), (-2147483648, 2147483647, 0), (0, 6, 0), (0, 2, 0), (-9, 9, 0), (0, 9, 0), (0, 500, 0), (-2147483648, 2147483647, 0), (-9, 39, 0), (-9223372036854775808, 9223372036854775807, 0), (-9223372036854775808, 9223372036854775807, 0), (-2147483648, 2147483647, 0), (0, 5, 0), (0, 2000, 0), (-2147483648, 2147483647, 0), (0, 2000, 0), (-2147483648, 2147483647, 0), (0, 400, 0), (0, 200, 0), (-2147483648, 2147483647, 0), (-2147483648, 2147483647, 0), (-2147483648, 2147483647, 0), (0, 15, 0), (-2147483648, 2147483647, 0), (0, 400, 0), (0, 200, 0), (-2147483648, 2147483647, 0), (-2147483648, 2147483647, 0), (-1, 299, 0), (-2147483648, 2147483647, 0), (-2147483648, 2147483647, 0), (-2, 15, 0), (-2147483648, 2147483647, 0), (-2147483648, 2147483647, 0), (0, 15, 0), (-2147483648, 2147483647, 0), (-2147483648, 2147483647, 0), (-2147483648, 2147483647, 0), (-2147483648, 2147483647, 0), (-2147483648, 2147483647, 0), (-2147483648, 2147483647, 0), (-2147483648, 2147483647, 0), (-2147483648, 2147483647, 0), (-2147483648, 2147483647, 0), (-2147483648, 2147483647, 0), (-2147483648, 2147483647, 0), (-2147483648, 2147483647, 0), (-2147483648, 2147483647, 0), (-2147483648, 2147483647, 0), (-2147483648, 2147483647, 0), (-2147483648, 2147483647, 0), (-2147483648, 2147483647, 0), (-2147483648, 2147483647, 0), (-2147483648, 2147483647, 0), (-2147483648, 2147483647, 0), (-2147483648, 2147483647, 0), (-2147483648, 2147483647, 0), (-2147483648, 2147483647, 0), (-2147483648, 2147483647, 0), (-2147483648, 2147483647, 0), (-2147483648, 2147483647, 0), (-2147483648, 2147483647, 0), (-2147483648, 2147483647, 0), (-2147483648, 2147483647, 0), (-2147483648, 2147483647, 0), (-2147483648, 2147483647, 0), (-2147483648, 2147483647, 0), (-2147483648, 2147483647, 0), (-2147483648, 2147483647, 0), (-2147483648, 2147483647, 0), (-2147483648, 2147483647, 0), (-2147483648, 2147483647, 0), (-2147483648, 2147483647, 0), (-2147483648, 2147483647, 0), (-2147483648, 2147483647, 0), (-2147483648, 2147483647, 0), (-2147483648, 2147483647, 0), (-2147483648, 2147483647, 0), (-2147483648, 2147483647, 0), (-2147483648, 2147483647, 0), (-2147483648, 2147483647, 0), (-2147483648, 2147483647, 0), (-2147483648, 2147483647, 0), (-2147483648, 2147483647, 0), (-2147483648, 2147483647, 0), (0, 15, 0), (-2147483648, 2147483647, 0), (0, 400, 0), (-1, 3, 0), (-1, 30, 0), (0, 400, 0), (-2147483648, 2147483647, 0), (0, 3, 0), (0, 3, 0), (0, 200, 0), (0, 2000, 0), (0, 3, 0), (0, 2000, 0), (0, 500, 0), (0, 2, 0), (0, 99, 0), (0, 2000, 0), (0, 3, 0), (-9, 5, 0), (0, 3, 0), (-2147483648, 2147483647, 0), (0, 1, 0), (-2147483648, 2147483647, 0), (-2147483648, 2147483647, 0), (-2147483648, 2147483647, 0), (-2147483648, 2147483647, 0), (0, 1, 0), (-1, 15, 100), (-2147483648, 2147483647, 0), (0, 9, 0), (0, 2, 0), (-9, 9, 0), (-2147483648, 2147483647, 0), (-1, 15, 0), (-1, 5, 0), (0, 6, 0), (0, 2, 0), (-9, 9, 0), (0, 9, 0), (0, 500, 0), (0, 5, 0), (0, 2000, 0), (-2147483648, 2147483647, 0), (0, 2000, 0), (-2147483648, 2147483647, 0), (0, 400, 0), (0, 1, 0), (-9, 39, 0), (-2147483648, 2147483647, 0), (-2147483648, 2147483647, 0), (-2147483648, 2147483647, 0), (0, 15, 0), (0, 15, 0), (0, 15, 0)]
/-- static rows: class, name, descriptor, kind, what they hold -/
def jST : List (String × String × String × Nat × List Int) := [("ArsenalRow", "LEAST_DECREED", "[I", 1, [0, 0, 0, 1]), ("ArsenalRow", "MOST_DECREED", "[I", 1, [100, 9, 60, 200]), ("ArsenalRow", "WITHOUT_DECREE", "[I", 1, [0, 0, 0, 60]), ("ArsenalRow$Matching", "WEIGHTS", "[J", 2, [115856201, 2825761, 68921, 1681, 41, 1]), ("ArsenalRow$Outlook", "ORDERS_OF", "[I", 1, [1, 1, 2, 6, 24, 120])]
/-- the methods: name, code, words of locals, what they return, frames and locals that their calls take, cells that they make -/
def jML : List (MethodName × ByteArray × Nat × Option FieldType × Nat × Nat × Nat) := [(yJ7_fill_53178, cJ7_fill_53178, 4, none, 0, 0, 0),
  (yX1_init, cX1_init, 1, none, 1, 23, 8),
  (yX2_init, cX2_init, 1, none, 1, 20, 4),
  (yX9_init, cX9_init, 1, none, 1, 20, 12),
  (yX4_init, cX4_init, 1, none, 1, 20, 2),
  (yX10_init, cX10_init, 2, none, 2, 40, 54),
  (yX3_init, cX3_init, 1, none, 1, 20, 6),
  (yX8_init, cX8_init, 1, none, 1, 20, 5),
  (yX6_init, cX6_init, 1, none, 1, 20, 3),
  (yX5_init, cX5_init, 1, none, 1, 20, 4),
  (yX0_init, cX0_init, 2, none, 1, 20, 4),
  (yX7_init, cX7_init, 1, none, 3, 61, 64),
  (yX11_init, cX11_init, 1, none, 4, 81, 175),
  (yX12_init, cX12_init, 1, none, 1, 20, 52),
  (yX11_within, cX11_within, 2, (some .boolean), 0, 0, 0),
  (yX11_outside, cX11_outside, 3, (some .int), 0, 0, 0),
  (yX11_refused, cX11_refused, 2, (some .int), 0, 0, 0),
  (yX7_forget, cX7_forget, 1, none, 0, 0, 0),
  (yX11_hands, cX11_hands, 5, (some .int), 1, 22, 0),
  (yX12_in, cX12_in, 3, (some .boolean), 0, 0, 0),
  (yX12_refuse, cX12_refuse, 2, (some .int), 0, 0, 0),
  (yX12_hands, cX12_hands, 4, (some .int), 1, 22, 0),
  (yX11_bring, cX11_bring, 4, (some .int), 1, 22, 0),
  (yX12_bring, cX12_bring, 3, (some .int), 1, 22, 0),
  (yX11_row, cX11_row, 4, (some .int), 1, 23, 0),
  (yX12_row, cX12_row, 4, (some .int), 1, 22, 0),
  (yX1_isMissing, cX1_isMissing, 2, (some .boolean), 0, 0, 0),
  (yX11_lose, cX11_lose, 2, (some .int), 1, 21, 0),
  (yX12_lose, cX12_lose, 3, (some .int), 1, 22, 0),
  (yX11_put, cX11_put, 6, (some .int), 1, 22, 0),
  (yX12_put, cX12_put, 5, (some .int), 1, 22, 0),
  (yX1_hasPlaces, cX1_hasPlaces, 4, (some .boolean), 0, 0, 0),
  (yX11_copy, cX11_copy, 7, (some .int), 1, 26, 0),
  (yX12_copy, cX12_copy, 7, (some .int), 1, 22, 0),
  (yX11_refusedAside, cX11_refusedAside, 2, (some .int), 1, 21, 0),
  (yX11_lead, cX11_lead, 4, (some .int), 2, 42, 0),
  (yX12_refuseFar, cX12_refuseFar, 2, (some .int), 0, 0, 0),
  (yX12_lead, cX12_lead, 4, (some .int), 1, 22, 0),
  (yX1_handsOfDay, cX1_handsOfDay, 4, (some .int), 0, 0, 0),
  (yX11_handsOn, cX11_handsOn, 4, (some .int), 1, 23, 0),
  (yX12_handsAt, cX12_handsAt, 4, (some .int), 0, 0, 0),
  (yX12_handsOn, cX12_handsOn, 3, (some .int), 1, 23, 0),
  (yX2_slotOf, cX2_slotOf, 2, (some .int), 0, 0, 0),
  (yX2_insert, cX2_insert, 5, none, 0, 0, 0),
  (yX11_decree, cX11_decree, 5, (some .int), 1, 24, 0),
  (yX12_decree, cX12_decree, 5, (some .int), 1, 22, 0),
  (yX2_rewind, cX2_rewind, 2, none, 1, 21, 0),
  (yX2_goOnTo, cX2_goOnTo, 2, none, 0, 0, 0),
  (yX2_inForce, cX2_inForce, 3, (some .int), 1, 21, 0),
  (yX11_force, cX11_force, 5, (some .int), 2, 43, 0),
  (yX12_forceAt, cX12_forceAt, 8, (some .int), 0, 0, 0),
  (yX12_force, cX12_force, 4, (some .int), 1, 27, 0),
  (yX11_task, cX11_task, 7, (some .int), 1, 22, 0),
  (yX12_task, cX12_task, 6, (some .int), 1, 22, 0),
  (yX11_needs, cX11_needs, 8, (some .int), 1, 22, 0),
  (yX12_needs, cX12_needs, 7, (some .int), 1, 22, 0),
  (yX4_begin, cX4_begin, 4, none, 0, 0, 0),
  (yX10_addHull, cX10_addHull, 4, (some .int), 1, 23, 0),
  (yX11_hull, cX11_hull, 4, (some .int), 2, 46, 0),
  (yX12_hull, cX12_hull, 4, (some .int), 1, 22, 0),
  (yX11_isHull, cX11_isHull, 2, (some .boolean), 1, 21, 0),
  (yX4_isUnderWay, cX4_isUnderWay, 1, (some .boolean), 0, 0, 0),
  (yX11_priority, cX11_priority, 5, (some .int), 2, 42, 0),
  (yX12_isHull, cX12_isHull, 2, (some .boolean), 1, 22, 0),
  (yX12_priority, cX12_priority, 4, (some .int), 2, 43, 0),
  (yX11_raft, cX11_raft, 4, (some .int), 1, 22, 0),
  (yX12_raft, cX12_raft, 3, (some .int), 1, 22, 0),
  (yJ9_min_7cf53, cJ9_min_7cf53, 2, (some .int), 0, 0, 0),
  (yX10_store, cX10_store, 4, (some .int), 1, 23, 0),
  (yX11_unraft, cX11_unraft, 4, (some .int), 2, 46, 0),
  (yX12_unraft, cX12_unraft, 3, (some .int), 1, 22, 0),
  (yX10_lineUp, cX10_lineUp, 3, none, 1, 20, 0),
  (yX0_write, cX0_write, 8, none, 2, 43, 0),
  (yX4_mayMoveOn, cX4_mayMoveOn, 1, (some .boolean), 0, 0, 0),
  (yX4_leave, cX4_leave, 2, none, 0, 0, 0),
  (yX4_enter, cX4_enter, 4, none, 0, 0, 0),
  (yX10_berth, cX10_berth, 4, none, 1, 23, 0),
  (yX10_moveOn, cX10_moveOn, 6, (some .int), 2, 46, 0),
  (yX10_letIn, cX10_letIn, 3, none, 2, 46, 0),
  (yX10_hasAll, cX10_hasAll, 3, (some .boolean), 0, 0, 0),
  (yX10_takeGoods, cX10_takeGoods, 4, none, 1, 22, 0),
  (yX10_doWork, cX10_doWork, 7, none, 1, 26, 0),
  (yX10_drink, cX10_drink, 3, none, 1, 23, 0),
  (yX10_passDay, cX10_passDay, 6, (some .int), 3, 71, 0),
  (yX3_stands, cX3_stands, 2, (some .boolean), 0, 0, 0),
  (yX3_grow, cX3_grow, 2, none, 1, 21, 0),
  (yX11_days, cX11_days, 5, (some .int), 4, 96, 0),
  (yX12_enter, cX12_enter, 5, none, 0, 0, 0),
  (yX12_isFirst, cX12_isFirst, 3, (some .boolean), 0, 0, 0),
  (yX12_firstBehind, cX12_firstBehind, 5, (some .int), 1, 22, 0),
  (yX12_moveAll, cX12_moveAll, 4, (some .int), 2, 46, 0),
  (yX12_takeGoods, cX12_takeGoods, 4, none, 0, 0, 0),
  (yX12_workAll, cX12_workAll, 8, none, 2, 46, 0),
  (yX12_payAll, cX12_payAll, 5, none, 1, 27, 0),
  (yX12_pass, cX12_pass, 3, (some .int), 3, 73, 0),
  (yX12_days, cX12_days, 5, (some .int), 4, 95, 0),
  (yX11_breakUp, cX11_breakUp, 6, (some .int), 2, 46, 0),
  (yX12_breakUp, cX12_breakUp, 5, (some .int), 2, 43, 0),
  (yX11_growth, cX11_growth, 5, (some .int), 1, 22, 0),
  (yX12_growth, cX12_growth, 4, (some .int), 1, 22, 0),
  (yX3_plant, cX3_plant, 4, (some .int), 0, 0, 0),
  (yX11_tree, cX11_tree, 4, (some .int), 1, 23, 0),
  (yX12_tree, cX12_tree, 4, (some .int), 1, 22, 0),
  (yX8_add, cX8_add, 7, (some .int), 0, 0, 0),
  (yX11_part, cX11_part, 6, (some .int), 1, 26, 0),
  (yX12_part, cX12_part, 7, (some .int), 1, 22, 0),
  (yJ7_fill_d0a16, cJ7_fill_d0a16, 5, none, 0, 0, 0),
  (yX6_lackingNumber, cX6_lackingNumber, 1, (some .long), 0, 0, 0),
  (yJ9_abs_0f7a4, cJ9_abs_0f7a4, 1, (some .int), 0, 0, 0),
  (yX6_fitting, cX6_fitting, 9, (some .int), 1, 23, 0),
  (yJ9_min_f86c9, cJ9_min_f86c9, 4, (some .long), 0, 0, 0),
  (yX6_offer, cX6_offer, 7, none, 1, 23, 0),
  (yX6_readOff, cX6_readOff, 6, none, 0, 0, 0),
  (yX6_solve, cX6_solve, 9, none, 2, 51, 0),
  (yX11_match, cX11_match, 4, (some .int), 3, 79, 0),
  (yX12_fits, cX12_fits, 4, (some .boolean), 0, 0, 0),
  (yX12_ones, cX12_ones, 3, (some .int), 0, 0, 0),
  (yX12_solve, cX12_solve, 8, none, 1, 23, 0),
  (yX12_findMatch, cX12_findMatch, 7, none, 2, 50, 0),
  (yX12_match, cX12_match, 3, (some .int), 3, 76, 0),
  (yX3_fellFor, cX3_fellFor, 4, none, 0, 0, 0),
  (yX11_fell, cX11_fell, 5, (some .int), 3, 79, 0),
  (yX12_fell, cX12_fell, 3, (some .int), 3, 76, 0),
  (yX3_felledFor, cX3_felledFor, 4, (some .int), 0, 0, 0),
  (yX11_treeFor, cX11_treeFor, 4, (some .int), 2, 42, 0),
  (yX12_treeFor, cX12_treeFor, 4, (some .int), 2, 43, 0),
  (yX11_treeOf, cX11_treeOf, 3, (some .int), 2, 42, 0),
  (yX12_treeOf, cX12_treeOf, 3, (some .int), 1, 22, 0),
  (yX5_add, cX5_add, 5, none, 0, 0, 0),
  (yX11_count, cX11_count, 5, (some .int), 2, 42, 0),
  (yX12_count, cX12_count, 5, (some .int), 1, 22, 0),
  (yX11_gap, cX11_gap, 3, (some .int), 2, 42, 0),
  (yX12_gap, cX12_gap, 3, (some .int), 1, 22, 0),
  (yJ9_max_7cf53, cJ9_max_7cf53, 2, (some .int), 0, 0, 0),
  (yX5_spanOf, cX5_spanOf, 2, (some .int), 1, 23, 0),
  (yX5_isWorse, cX5_isWorse, 3, (some .boolean), 2, 44, 0),
  (yX5_worstOf, cX5_worstOf, 4, (some .int), 3, 66, 0),
  (yX11_worst, cX11_worst, 2, (some .int), 4, 89, 0),
  (yX12_spanOf, cX12_spanOf, 2, (some .long), 0, 0, 0),
  (yX12_worst, cX12_worst, 4, (some .int), 1, 22, 0),
  (yX7_standAt, cX7_standAt, 6, none, 3, 70, 0),
  (yX4_become, cX4_become, 2, none, 1, 26, 0),
  (yX10_become, cX10_become, 5, none, 2, 47, 0),
  (yX7_workIsAhead, cX7_workIsAhead, 4, (some .boolean), 0, 0, 0),
  (yX7_tryOut, cX7_tryOut, 8, none, 4, 96, 0),
  (yX7_readyDay, cX7_readyDay, 5, (some .int), 5, 123, 0),
  (yX11_readyAhead, cX11_readyAhead, 2, (some .int), 6, 147, 0),
  (yX11_ready, cX11_ready, 3, (some .int), 7, 168, 0),
  (yX12_swap, cX12_swap, 4, (some .int), 0, 0, 0),
  (yX12_aside, cX12_aside, 5, none, 1, 23, 0),
  (yX12_goAhead, cX12_goAhead, 3, none, 4, 95, 0),
  (yX12_ready, cX12_ready, 3, (some .int), 5, 117, 0),
  (yX11_lateness, cX11_lateness, 4, (some .int), 1, 23, 0),
  (yX11_late, cX11_late, 3, (some .int), 7, 168, 0),
  (yX12_lateBy, cX12_lateBy, 4, (some .int), 0, 0, 0),
  (yX12_late, cX12_late, 4, (some .int), 5, 117, 0),
  (yX10_countOf, cX10_countOf, 4, (some .int), 0, 0, 0),
  (yX7_gatherByNumbers, cX7_gatherByNumbers, 3, none, 1, 20, 0),
  (yX7_sumOfLate, cX7_sumOfLate, 4, (some .int), 2, 46, 0),
  (yX7_swapTried, cX7_swapTried, 4, none, 0, 0, 0),
  (yX7_nextOrder, cX7_nextOrder, 5, none, 1, 23, 0),
  (yX7_findLeast, cX7_findLeast, 5, none, 5, 123, 0),
  (yX11_findOrder, cX11_findOrder, 1, (some .boolean), 6, 147, 0),
  (yX11_least, cX11_least, 1, (some .int), 7, 167, 0),
  (yX12_ask, cX12_ask, 3, (some .boolean), 0, 0, 0),
  (yX12_findOrder, cX12_findOrder, 8, none, 0, 0, 0),
  (yX12_findLeast, cX12_findLeast, 7, (some .int), 5, 117, 0),
  (yX12_least, cX12_least, 1, (some .int), 6, 143, 0),
  (yX11_order, cX11_order, 2, (some .int), 7, 167, 0),
  (yX12_order, cX12_order, 3, (some .int), 6, 143, 0),
  (yX11_hullOf, cX11_hullOf, 4, (some .int), 2, 42, 0),
  (yX12_hullOf, cX12_hullOf, 3, (some .int), 2, 43, 0),
  (yX11_basinOf, cX11_basinOf, 4, (some .int), 1, 21, 0),
  (yX12_basinOf, cX12_basinOf, 4, (some .int), 1, 22, 0),
  (yX11_stock, cX11_stock, 2, (some .int), 1, 21, 0),
  (yX12_stock, cX12_stock, 2, (some .int), 1, 22, 0),
  (yX3_standing, cX3_standing, 3, (some .int), 1, 21, 0),
  (yX11_told, cX11_told, 2, (some .int), 2, 43, 0),
  (yX12_told, cX12_told, 4, (some .int), 1, 22, 0),
  (x, code, 4, (some .boolean), 10, 380, 229)]
/-- places of the methods' words in lw_tbl: code; static or instance; selects (9999: none is wanted); initialized -/
def jMP : List (Nat × Nat × Nat × Nat) := [(81, 80, 9999, 49), (75, 74, 9999, 48), (104, 103, 9999, 50), (130, 129, 9999, 51), (161, 160, 9999, 53), (153, 152, 9999, 52), (281, 280, 9999, 54), (320, 319, 9999, 55), (348, 347, 9999, 56), (374, 373, 9999, 57), (401, 400, 9999, 58), (426, 425, 9999, 59), (67, 66, 9999, 47), (957, 956, 9999, 60), (515, 514, 9999, 47), (518, 517, 9999, 47), (522, 521, 0, 47), (526, 524, 525, 59), (512, 510, 511, 47), (1162, 1161, 9999, 60), (1166, 1165, 23, 60), (1159, 1157, 1158, 60), (530, 528, 529, 47), (1170, 1168, 1169, 60), (535, 533, 534, 47), (1175, 1173, 1174, 60), (544, 542, 543, 48), (540, 538, 539, 47), (1179, 1177, 1178, 60), (548, 546, 547, 47), (1183, 1181, 1182, 60), (556, 554, 555, 48), (552, 550, 551, 47), (1187, 1185, 1186, 60), (567, 566, 1, 47), (563, 561, 562, 47), (1195, 1194, 24, 60), (1191, 1189, 1190, 60), (576, 574, 575, 48), (572, 570, 571, 47), (1204, 1203, 25, 60), (1200, 1198, 1199, 60), (587, 586, 9999, 50), (591, 589, 590, 50), (580, 578, 579, 47), (1208, 1206, 1207, 60), (599, 597, 598, 50), (606, 604, 605, 50), (610, 608, 609, 50), (595, 593, 594, 47), (1216, 1215, 26, 60), (1212, 1210, 1211, 60), (614, 612, 613, 47), (1220, 1218, 1219, 60), (618, 616, 617, 47), (1224, 1222, 1223, 60), (630, 628, 629, 53), (626, 624, 625, 52), (622, 620, 621, 47), (1228, 1226, 1227, 60), (638, 637, 2, 47), (642, 640, 641, 53), (634, 632, 633, 47), (1236, 1235, 27, 60), (1232, 1230, 1231, 60), (646, 644, 645, 47), (1240, 1238, 1239, 60), (658, 657, 9999, 62), (654, 652, 653, 52), (650, 648, 649, 47), (1244, 1242, 1243, 60), (666, 664, 665, 52), (671, 669, 670, 58), (686, 684, 685, 53), (690, 688, 689, 53), (698, 696, 697, 53), (694, 693, 4, 52), (682, 681, 3, 52), (702, 701, 5, 52), (710, 709, 7, 52), (706, 705, 6, 52), (714, 713, 8, 52), (719, 718, 9, 52), (678, 676, 677, 52), (727, 725, 726, 54), (723, 721, 722, 54), (662, 660, 661, 47), (1260, 1259, 30, 60), (1268, 1267, 32, 60), (1264, 1263, 31, 60), (1256, 1255, 29, 60), (1272, 1271, 33, 60), (1276, 1275, 34, 60), (1280, 1279, 35, 60), (1252, 1251, 28, 60), (1248, 1246, 1247, 60), (731, 729, 730, 47), (1284, 1282, 1283, 60), (735, 733, 734, 47), (1288, 1286, 1287, 60), (743, 741, 742, 54), (739, 737, 738, 47), (1292, 1290, 1291, 60), (751, 749, 750, 55), (747, 745, 746, 47), (1296, 1294, 1295, 60), (763, 762, 9999, 49), (766, 765, 9999, 56), (778, 777, 9999, 62), (775, 774, 10, 56), (786, 785, 9999, 62), (783, 782, 11, 56), (790, 789, 12, 56), (759, 757, 758, 56), (755, 753, 754, 47), (1312, 1311, 38, 60), (1315, 1314, 9999, 60), (1308, 1307, 37, 60), (1304, 1303, 36, 60), (1300, 1298, 1299, 60), (800, 798, 799, 54), (796, 794, 795, 47), (1319, 1317, 1318, 60), (808, 806, 807, 54), (804, 802, 803, 47), (1323, 1321, 1322, 60), (812, 810, 811, 47), (1327, 1325, 1326, 60), (820, 818, 819, 57), (816, 814, 815, 47), (1331, 1329, 1330, 60), (824, 822, 823, 47), (1335, 1333, 1334, 60), (843, 842, 9999, 62), (840, 839, 14, 57), (836, 835, 13, 57), (832, 830, 831, 57), (828, 826, 827, 47), (1343, 1342, 39, 60), (1339, 1337, 1338, 60), (855, 853, 854, 59), (875, 873, 874, 53), (871, 869, 870, 52), (882, 881, 17, 59), (867, 866, 16, 59), (862, 860, 861, 59), (851, 850, 15, 47), (847, 845, 846, 47), (1355, 1354, 41, 60), (1351, 1350, 40, 60), (1359, 1358, 42, 60), (1347, 1345, 1346, 60), (889, 888, 9999, 47), (886, 884, 885, 47), (1366, 1365, 9999, 60), (1363, 1361, 1362, 60), (902, 900, 901, 52), (910, 909, 19, 59), (918, 917, 20, 59), (928, 927, 22, 59), (924, 923, 21, 59), (906, 904, 905, 59), (898, 897, 18, 47), (894, 892, 893, 47), (1374, 1373, 43, 60), (1382, 1381, 45, 60), (1378, 1377, 44, 60), (1370, 1368, 1369, 60), (932, 930, 931, 47), (1386, 1384, 1385, 60), (936, 934, 935, 47), (1390, 1388, 1389, 60), (940, 938, 939, 47), (1394, 1392, 1393, 60), (944, 942, 943, 47), (1398, 1396, 1397, 60), (952, 950, 951, 54), (948, 946, 947, 47), (1402, 1400, 1401, 60)]
/-- whether a method is static -/
def jMS : List Bool := [true, false, false, false, false, false, false, false, false, false, false, false, false, false, true, true, false, false, false, true, false, false, false, false, false, false, false, false, false, false, false, false, false, false, false, false, false, false, false, false, false, false, true, false, false, false, false, false, false, false, false, false, false, false, false, false, false, false, false, false, false, false, false, false, false, false, false, true, false, false, false, false, false, false, false, false, false, false, false, false, false, false, false, false, false, false, false, false, false, false, false, false, false, false, false, false, false, false, false, false, false, false, false, false, false, false, true, true, true, false, true, false, false, false, false, false, true, false, false, false, false, false, false, false, false, false, false, false, false, false, false, false, false, true, false, false, false, false, false, false, false, false, false, false, false, false, false, false, false, false, false, false, true, false, true, false, false, false, false, false, false, false, false, false, false, false, false, false, false, false, false, false, false, false, false, false, false, false, false, true]
def jCP : List (Nat × Nat) := [(398, 58), (72, 48), (101, 50), (278, 54), (158, 53), (371, 57), (345, 56), (423, 59), (317, 55), (127, 51), (150, 52), (64, 47), (954, 60)]
/-- places of the words of nest mates -/
def jNP : List Nat := [102, 128, 159, 279, 318, 346, 372, 424, 601, 919]
end
section
/-! ===== THE PICTURE OF THE HEAP, AND THE WP OF A STRETCH OF CODE (no machine here) ===== -/
/-- what the objects hold: object, slot or index, number -/
abbrev JH : Type := Int → Int → Int
/-- a value: int, long, reference (the object's number; -1 null; below: what the launch holds), nothing -/
abbrev JV : Type := Int ⊕ (Int ⊕ (Int ⊕ Unit))
/-- the start: slots of the classes, array classes by kind, the law's first heap, addresses of what the launch holds, the script -/
abbrev JE : Type := va_G × (Nat → ClassId) × Heap × (Int → Nat) × Nat × (Nat → Int)
/-- an instruction, its length, operands a, b, t, u, and the place of its word -/
abbrev JI : Type := Instr × Nat × Nat × Int × Nat × Nat × Nat
def jw32 (x : Int) : Int := (x + 2147483648) % 4294967296 - 2147483648
def jw64 (x : Int) : Int := (x + 9223372036854775808) % 18446744073709551616 - 9223372036854775808
def jR32 (x : Int) : Prop := -2147483648 ≤ x ∧ x ≤ 2147483647
def jR64 (x : Int) : Prop := -9223372036854775808 ≤ x ∧ x ≤ 9223372036854775807
/-- kind and length (class number) of an object -/
def jk (i : Int) : Nat × Nat := jLY.getD i.toNat (9, 0)
/-- bounds of the row in which the reference keeps what days change -/
def jbK (k : Int) : Int × Int × Int :=
  if k = 0 then (0, 2300, 0) else if 10 ≤ k ∧ k ≤ 15 then (-1, 15, 100) else if 20 ≤ k then (if (k - 20) % 16 = 0 then (0, 3, 0) else if (k - 20) % 16 = 1 then (-9, 5, 0) else if (k - 20) % 16 = 2 then (0, 3, 0) else if (k - 20) % 16 = 7 then (0, 99, 0) else (-2147483648, 2147483647, 0)) else (-2147483648, 2147483647, 0)
/-- bounds of a place -/
def jbp (i k : Int) : Int × Int × Int := match jk i with
  | (0, ci) => (jbF.getD ci []).getD k.toNat (-2147483648, 2147483647, 0)
  | _ => if i = 224 then jbK k else jbA.getD i.toNat (-2147483648, 2147483647, 0)
def jbd (i k v : Int) : Prop := ((jbp i k).1 ≤ v ∧ v ≤ (jbp i k).2.1) ∨ v = (jbp i k).2.2
def jup (h : JH) (i k v : Int) : JH := fun i' k' => if i' = i ∧ k' = k then v else h i' k'
/-- a new object's places -/
def jnw (h : JH) (n c : Nat) (v : Int) : JH := fun i k => if (n : Int) ≤ i ∧ i < n + c then v else h i k
def jcp (h : JH) (s sp d dp c : Int) : JH := fun i k => if i = d ∧ dp ≤ k ∧ k < dp + c then h s (sp + (k - dp)) else h i k
/-- new int[c][k]: the outer row's references -/
def jmu (r : JH) (n c : Nat) : JH := fun i k => if i = n ∧ 0 ≤ k ∧ k < c then n + 1 + k else r i k
def jxl (E : JE) (i : Int) : Nat := if i = -2 then E.2.2.2.2.1 else (jST.getD (-3 - i).toNat ("", "", "", 0, [])).2.2.2.2.length
def jxk (i : Int) : Nat := if i = -2 then 1 else (jST.getD (-3 - i).toNat ("", "", "", 0, [])).2.2.2.1
def jxv (E : JE) (i k : Int) : Int := if i = -2 then E.2.2.2.2.2 k.toNat else ((jST.getD (-3 - i).toNat ("", "", "", 0, [])).2.2.2.2).getD k.toNat 0
def jget : List JV → Nat → JV
  | [], _ => .inr (.inr (.inr ()))
  | x :: _, 0 => x
  | _ :: xs, k + 1 => jget xs k
def jcut (x : JV) : JV := match x with
  | .inr (.inl _) => .inr (.inr (.inr ()))
  | x => x
/-- one word stored: a long ahead of it is gone -/
def jst1 : List JV → Nat → JV → List JV
  | [], _, _ => []
  | _ :: xs, 0, v => v :: xs
  | x :: xs, 1, v => jcut x :: jst1 xs 0 v
  | x :: xs, k + 2, v => x :: jst1 xs (k + 1) v
/-- the words of arguments -/
def jarg : List JV → List JV
  | [] => []
  | .inr (.inl x) :: vs => .inr (.inl x) :: .inr (.inr (.inr ())) :: jarg vs
  | v :: vs => v :: jarg vs
def jloc (vs : List JV) (nL : Nat) : List JV := jarg vs ++ List.replicate (nL - (jarg vs).length) (.inr (.inr (.inr ())))
def jshl (x y : Int) : Int := (Int32.ofInt x <<< (Int32.ofInt y &&& 31)).toInt
def jshr (x y : Int) : Int := (Int32.ofInt x >>> (Int32.ofInt y &&& 31)).toInt
def jand (x y : Int) : Int := (Int32.ofInt x &&& Int32.ofInt y).toInt
def jor (x y : Int) : Int := (Int32.ofInt x ||| Int32.ofInt y).toInt
def jxor (x y : Int) : Int := (Int32.ofInt x ^^^ Int32.ofInt y).toInt
def jlc (x y : Int) : Int := if y < x then 1 else if x = y then 0 else -1
/-- a number's range -/
def jok (v : JV) : Prop := match v with
  | .inl x => jR32 x
  | .inr (.inl x) => jR64 x
  | _ => True
def jokO (v : Option JV) : Prop := match v with
  | some v => jok v
  | none => True
abbrev JK : Type := List JV → List JV → Nat → JH → JH → Prop
abbrev JN : Type := Nat → JK
abbrev JR : Type := Option JV → Nat → JH → JH → Prop
section wp
variable (CL : Nat → List JV → Nat → JH → JH → (Option JV → JH → JH → Prop) → Prop) (E : JE) (n1 : Nat) (RT : JR) (NX : JN)
def jbin (f : Int → Int → Int) (K : JK) : JK := fun ls st n r h => match st with
  | .inl y :: .inl x :: s => K ls (.inl (f x y) :: s) n r h
  | _ => False
def jbil (f : Int → Int → Int) (K : JK) : JK := fun ls st n r h => match st with
  | .inr (.inl y) :: .inr (.inl x) :: s => K ls (.inr (.inl (f x y)) :: s) n r h
  | _ => False
def jdvi (f : Int → Int → Int) (K : JK) : JK := fun ls st n r h => match st with
  | .inl y :: .inl x :: s => y ≠ 0 ∧ K ls (.inl (f x y) :: s) n r h
  | _ => False
def jdvl (f : Int → Int → Int) (K : JK) : JK := fun ls st n r h => match st with
  | .inr (.inl y) :: .inr (.inl x) :: s => y ≠ 0 ∧ K ls (.inr (.inl (f x y)) :: s) n r h
  | _ => False
def jldi (a : Nat) (K : JK) : JK := fun ls st n r h => match jget ls a with
  | .inl x => K ls (.inl x :: st) n r h
  | _ => False
def jldl (a : Nat) (K : JK) : JK := fun ls st n r h => match jget ls a with
  | .inr (.inl x) => K ls (.inr (.inl x) :: st) n r h
  | _ => False
def jldr (a : Nat) (K : JK) : JK := fun ls st n r h => match jget ls a with
  | .inr (.inr (.inl x)) => K ls (.inr (.inr (.inl x)) :: st) n r h
  | _ => False
def jsti (a : Nat) (K : JK) : JK := fun ls st n r h => match st with
  | .inl x :: s => K (jst1 ls a (.inl x)) s n r h
  | _ => False
def jstr (a : Nat) (K : JK) : JK := fun ls st n r h => match st with
  | .inr (.inr (.inl x)) :: s => x ≠ -1 ∧ K (jst1 ls a (.inr (.inr (.inl x)))) s n r h
  | _ => False
def jstl (a : Nat) (K : JK) : JK := fun ls st n r h => match st with
  | .inr (.inl x) :: s => K (jst1 (jst1 ls (a + 1) (.inr (.inr (.inr ())))) a (.inr (.inl x))) s n r h
  | _ => False
def jinc (a : Nat) (b : Int) (K : JK) : JK := fun ls st n r h => match jget ls a with
  | .inl x => K (jst1 ls a (.inl (jw32 (x + b)))) st n r h
  | _ => False
/-- a branch on one int -/
def jif1 (P : Int → Prop) (a : Nat) (K : JK) : JK := fun ls st n r h => match st with
  | .inl x :: s => (P x → NX a ls s n r h) ∧ (¬ P x → K ls s n r h)
  | _ => False
def jif2 (P : Int → Int → Prop) (a : Nat) (K : JK) : JK := fun ls st n r h => match st with
  | .inl y :: .inl x :: s => (P x y → NX a ls s n r h) ∧ (¬ P x y → K ls s n r h)
  | _ => False
def jswt (pc : Nat) (x : Int) : Int → List Int → List JV → List JV → Nat → JH → JH → Prop
  | _, [], _, _, _, _, _ => True
  | lo, o :: os, ls, s, n, r, h => (x = lo → NX ((pc : Int) + o).toNat ls s n r h) ∧ jswt pc x (lo + 1) os ls s n r h
def jswl (pc : Nat) (x d : Int) : List (Int × Int) → List JV → List JV → Nat → JH → JH → Prop
  | [], ls, s, n, r, h => NX ((pc : Int) + d).toNat ls s n r h
  | q :: qs, ls, s, n, r, h => (x = q.1 → NX ((pc : Int) + q.2).toNat ls s n r h) ∧ (¬ x = q.1 → jswl pc x d qs ls s n r h)
def jgfi (a : Nat) (b : Int) (K : JK) : JK := fun ls st n r h => match st with
  | .inr (.inr (.inl i)) :: s => 0 ≤ i ∧ i < n ∧ jk i = (0, a) ∧ (jbd i b (h i b) → K ls (.inl (h i b) :: s) n r h)
  | _ => False
def jgfr (a : Nat) (b : Int) (K : JK) : JK := fun ls st n r h => match st with
  | .inr (.inr (.inl i)) :: s => 0 ≤ i ∧ i < n ∧ jk i = (0, a) ∧ K ls (.inr (.inr (.inl (r i b))) :: s) n r h
  | _ => False
def jpfi (a : Nat) (b : Int) (K : JK) : JK := fun ls st n r h => match st with
  | .inl x :: .inr (.inr (.inl i)) :: s => 0 ≤ i ∧ i < n ∧ jk i = (0, a) ∧ (jR32 x → jbd i b x) ∧ K ls s n r (jup h i b x)
  | _ => False
def jpfr (a : Nat) (b : Int) (K : JK) : JK := fun ls st n r h => match st with
  | .inr (.inr (.inl v)) :: .inr (.inr (.inl i)) :: s => 0 ≤ i ∧ i < n ∧ jk i = (0, a) ∧ 0 ≤ v ∧ K ls s n (jup r i b v) h
  | _ => False
/-- an array's element: kind t -/
def jald (t : Nat) (K : JK) : JK := fun ls st n r h => match st with
  | .inl k :: .inr (.inr (.inl i)) :: s =>
    (0 ≤ i → i < n ∧ (jk i).1 = t ∧ 0 ≤ k ∧ k < (jk i).2 ∧ (jbd i k (h i k) → K ls ((if t = 2 then .inr (.inl (h i k)) else .inl (h i k)) :: s) n r h)) ∧
    (i < 0 → i ≠ -1 ∧ jxk i = t ∧ 0 ≤ k ∧ k < jxl E i ∧ K ls ((if t = 2 then .inr (.inl (jxv E i k)) else .inl (jxv E i k)) :: s) n r h)
  | _ => False
def jalr (K : JK) : JK := fun ls st n r h => match st with
  | .inl k :: .inr (.inr (.inl i)) :: s => 0 ≤ i ∧ i < n ∧ ((jk i).1 = 4 ∨ (jk i).1 = 5) ∧ 0 ≤ k ∧ k < (jk i).2 ∧ K ls (.inr (.inr (.inl (r i k))) :: s) n r h
  | _ => False
def jast (t : Nat) (K : JK) : JK := fun ls st n r h => match st with
  | .inl x :: .inl k :: .inr (.inr (.inl i)) :: s => 0 ≤ i ∧ i < n ∧ (jk i).1 = t ∧ 0 ≤ k ∧ k < (jk i).2 ∧ (jR32 x → jbd i k x) ∧ K ls s n r (jup h i k x)
  | _ => False
def jasl (K : JK) : JK := fun ls st n r h => match st with
  | .inr (.inl x) :: .inl k :: .inr (.inr (.inl i)) :: s => 0 ≤ i ∧ i < n ∧ (jk i).1 = 2 ∧ 0 ≤ k ∧ k < (jk i).2 ∧ (jR64 x → jbd i k x) ∧ K ls s n r (jup h i k x)
  | _ => False
def jasr (K : JK) : JK := fun ls st n r h => match st with
  | .inr (.inr (.inl v)) :: .inl k :: .inr (.inr (.inl i)) :: s => 0 ≤ i ∧ i < n ∧ (jk i).1 = 4 ∧ 0 ≤ k ∧ k < (jk i).2 ∧ 0 ≤ v ∧ v < n ∧ jk v = (0, 4) ∧ K ls s n (jup r i k v) h
  | _ => False
def jaln (K : JK) : JK := fun ls st n r h => match st with
  | .inr (.inr (.inl i)) :: s => (0 ≤ i → i < n ∧ 1 ≤ (jk i).1 ∧ (jk i).1 ≤ 3 ∧ K ls (.inl ((jk i).2 : Nat) :: s) n r h) ∧ (i < 0 → i = -2 ∧ K ls (.inl (jxl E i : Nat) :: s) n r h)
  | _ => False
/-- a call of a static method: so many arguments -/
def jcas (m c na : Nat) (K : JK) : JK := fun ls st n r h =>
  na ≤ st.length ∧ (st.drop na).length ≤ 4 ∧ n + c ≤ n1 ∧ CL m (st.take na).reverse n r h (fun v r' h' => jokO v → K ls (v.toList ++ st.drop na) (n + c) r' h')
/-- a call of a method of an object of class ci -/
def jcav (m c na ci : Nat) (K : JK) : JK := fun ls st n r h => match st.drop na with
  | .inr (.inr (.inl i)) :: s => 0 ≤ i ∧ i < n ∧ jk i = (0, ci) ∧ s.length ≤ 4 ∧ n + c ≤ n1 ∧ CL m (.inr (.inr (.inl i)) :: (st.take na).reverse) n r h (fun v r' h' => jokO v → K ls (v.toList ++ s) (n + c) r' h')
  | _ => False
def jnew (a : Nat) (K : JK) : JK := fun ls st n r h => n + 1 ≤ n1 ∧ jk n = (0, a) ∧ K ls (.inr (.inr (.inl n)) :: st) (n + 1) (jnw r n 1 (-1)) (jnw h n 1 0)
def jnwa (t : Nat) (K : JK) : JK := fun ls st n r h => match st with
  | .inl c :: s => 0 ≤ c ∧ c ≤ 10000 ∧ n + 1 ≤ n1 ∧ jk n = (t, c.toNat) ∧ K ls (.inr (.inr (.inl n)) :: s) (n + 1) (jnw r n 1 (-1)) (jnw h n 1 0)
  | _ => False
def jnwm (K : JK) : JK := fun ls st n r h => match st with
  | .inl k :: .inl c :: s => 0 ≤ c ∧ c ≤ 10000 ∧ 0 ≤ k ∧ k ≤ 10000 ∧ n + 1 + c.toNat ≤ n1 ∧ jk n = (5, c.toNat) ∧ (∀ j : Nat, j < c.toNat → jk (n + 1 + j) = (1, k.toNat)) ∧
    K ls (.inr (.inr (.inl n)) :: s) (n + 1 + c.toNat) (jmu (jnw r n (1 + c.toNat) (-1)) n c.toNat) (jnw h n (1 + c.toNat) 0)
  | _ => False
def jacp (K : JK) : JK := fun ls st n r h => match st with
  | .inl c :: .inl dp :: .inr (.inr (.inl d)) :: .inl sp :: .inr (.inr (.inl s0)) :: s => 0 ≤ s0 ∧ s0 < n ∧ 0 ≤ d ∧ d < n ∧ (jk s0).1 = 1 ∧ (jk d).1 = 1 ∧ 0 ≤ sp ∧ 0 ≤ dp ∧ 0 ≤ c ∧ sp + c ≤ (jk s0).2 ∧ dp + c ≤ (jk d).2 ∧ s.length ≤ 4 ∧
    ((∀ i k : Int, jbd i k (h i k)) → ∀ j : Int, 0 ≤ j → j < c → jbd d (dp + j) (h s0 (sp + j))) ∧ K ls s n r (jcp h s0 sp d dp c)
  | _ => False
/-- Math.min, max, abs of ints, min of longs -/
def jmth (b : Int) (K : JK) : JK := fun ls st n r h => match b, st with
  | 0, .inl y :: .inl x :: s => s.length ≤ 4 ∧ K ls (.inl (if y < x then y else x) :: s) n r h
  | 1, .inl y :: .inl x :: s => s.length ≤ 4 ∧ K ls (.inl (if x < y then y else x) :: s) n r h
  | 2, .inl x :: s => s.length ≤ 4 ∧ K ls (.inl (if 0 ≤ x then x else jw32 (-x)) :: s) n r h
  | 3, .inr (.inl y) :: .inr (.inl x) :: s => s.length ≤ 4 ∧ K ls (.inr (.inl (if y < x then y else x)) :: s) n r h
  | _, _ => False
def jret (z : Nat) : JK := fun _ st n r h => match st with
  | [.inl x] => (z = 1 → x = 0 ∨ x = 1) ∧ RT (some (.inl x)) n r h
  | _ => False
def jrel : JK := fun _ st n r h => match st with
  | [.inr (.inl x)] => RT (some (.inr (.inl x))) n r h
  | _ => False
def jrev : JK := fun _ st n r h => match st with
  | [] => RT none n r h
  | _ => False
def jdup (K : JK) : JK := fun ls st n r h => match st with
  | .inl x :: s => K ls (.inl x :: .inl x :: s) n r h
  | .inr (.inr (.inl x)) :: s => K ls (.inr (.inr (.inl x)) :: .inr (.inr (.inl x)) :: s) n r h
  | _ => False
def jpop (K : JK) : JK := fun ls st n r h => match st with
  | .inl _ :: s => K ls s n r h
  | .inr (.inr (.inl _)) :: s => K ls s n r h
  | _ => False
def jdp2 (K : JK) : JK := fun ls st n r h => match st with
  | .inl x :: .inr (.inr (.inl i)) :: s => K ls (.inl x :: .inr (.inr (.inl i)) :: .inl x :: .inr (.inr (.inl i)) :: s) n r h
  | _ => False
def ji2l (K : JK) : JK := fun ls st n r h => match st with
  | .inl x :: s => K ls (.inr (.inl x) :: s) n r h
  | _ => False
def jl2i (K : JK) : JK := fun ls st n r h => match st with
  | .inr (.inl x) :: s => K ls (.inl (jw32 x) :: s) n r h
  | _ => False
def jneg (K : JK) : JK := fun ls st n r h => match st with
  | .inl x :: s => K ls (.inl (jw32 (-x)) :: s) n r h
  | _ => False
def jlcp (K : JK) : JK := fun ls st n r h => match st with
  | .inr (.inl y) :: .inr (.inl x) :: s => K ls (.inl (jlc x y) :: s) n r h
  | _ => False
def jtsw (pc : Nat) (d lo hi : Int) (os : List Int) : JK := fun ls st n r h => match st with
  | .inl x :: s => (x < lo ∨ hi < x → NX ((pc : Int) + d).toNat ls s n r h) ∧ jswt NX pc x lo os ls s n r h
  | _ => False
def jlsw (pc : Nat) (d : Int) (qs : List (Int × Int)) : JK := fun ls st n r h => match st with
  | .inl x :: s => jswl NX pc x d qs ls s n r h
  | _ => False
def jobj (K : JK) : JK := fun ls st n r h => match st with
  | .inr (.inr (.inl i)) :: s => 0 ≤ i ∧ s.length ≤ 4 ∧ K ls s n r h
  | _ => False
/-- one instruction -/
def ji (pc : Nat) (q : JI) (K : JK) : JK := match q.1 with
  | .iconst _ => fun ls st n r h => K ls (.inl q.2.2.2.1 :: st) n r h
  | .bipush _ => fun ls st n r h => K ls (.inl q.2.2.2.1 :: st) n r h
  | .sipush _ => fun ls st n r h => K ls (.inl q.2.2.2.1 :: st) n r h
  | .ldc _ => fun ls st n r h => K ls (.inl q.2.2.2.1 :: st) n r h
  | .ldc_w _ => fun ls st n r h => K ls (.inl q.2.2.2.1 :: st) n r h
  | .lconst _ => fun ls st n r h => K ls (.inr (.inl q.2.2.2.1) :: st) n r h
  | .ldc2_w _ => fun ls st n r h => K ls (.inr (.inl q.2.2.2.1) :: st) n r h
  | .iload_n _ => jldi q.2.2.1 K
  | .iload _ => jldi q.2.2.1 K
  | .lload_n _ => jldl q.2.2.1 K
  | .lload _ => jldl q.2.2.1 K
  | .aload_n _ => jldr q.2.2.1 K
  | .aload _ => jldr q.2.2.1 K
  | .istore_n _ => jsti q.2.2.1 K
  | .istore _ => jsti q.2.2.1 K
  | .lstore_n _ => jstl q.2.2.1 K
  | .lstore _ => jstl q.2.2.1 K
  | .astore_n _ => jstr q.2.2.1 K
  | .astore _ => jstr q.2.2.1 K
  | .iinc _ _ => jinc q.2.2.1 q.2.2.2.1 K
  | .iadd => jbin (fun x y => jw32 (x + y)) K
  | .isub => jbin (fun x y => jw32 (x - y)) K
  | .imul => jbin (fun x y => jw32 (x * y)) K
  | .iand => jbin jand K
  | .ior => jbin jor K
  | .ixor => jbin jxor K
  | .ishl => jbin jshl K
  | .ishr => jbin jshr K
  | .idiv => jdvi (fun x y => jw32 (x.tdiv y)) K
  | .irem => jdvi (fun x y => x.tmod y) K
  | .ladd => jbil (fun x y => jw64 (x + y)) K
  | .lsub => jbil (fun x y => jw64 (x - y)) K
  | .lmul => jbil (fun x y => jw64 (x * y)) K
  | .ldiv => jdvl (fun x y => jw64 (x.tdiv y)) K
  | .lrem => jdvl (fun x y => x.tmod y) K
  | .ineg => jneg K
  | .i2l => ji2l K
  | .l2i => jl2i K
  | .lcmp => jlcp K
  | .dup => jdup K
  | .pop => jpop K
  | .dup2 => jdp2 K
  | .ifCond .eq _ => jif1 NX (fun x => x = 0) q.2.2.1 K
  | .ifCond .ne _ => jif1 NX (fun x => ¬ x = 0) q.2.2.1 K
  | .ifCond .lt _ => jif1 NX (fun x => x < 0) q.2.2.1 K
  | .ifCond .ge _ => jif1 NX (fun x => 0 ≤ x) q.2.2.1 K
  | .ifCond .gt _ => jif1 NX (fun x => 0 < x) q.2.2.1 K
  | .ifCond .le _ => jif1 NX (fun x => x ≤ 0) q.2.2.1 K
  | .if_icmp .eq _ => jif2 NX (fun x y => x = y) q.2.2.1 K
  | .if_icmp .ne _ => jif2 NX (fun x y => ¬ x = y) q.2.2.1 K
  | .if_icmp .lt _ => jif2 NX (fun x y => x < y) q.2.2.1 K
  | .if_icmp .ge _ => jif2 NX (fun x y => y ≤ x) q.2.2.1 K
  | .if_icmp .gt _ => jif2 NX (fun x y => y < x) q.2.2.1 K
  | .if_icmp .le _ => jif2 NX (fun x y => x ≤ y) q.2.2.1 K
  | .goto _ => fun ls st n r h => NX q.2.2.1 ls st n r h
  | .tableswitch d lo hi os => jtsw NX pc d lo hi os.toList
  | .lookupswitch d qs => jlsw NX pc d qs.toList
  | .getfield _ => if q.2.2.2.2.1 = 4 then jgfr q.2.2.1 q.2.2.2.1 K else jgfi q.2.2.1 q.2.2.2.1 K
  | .putfield _ => if q.2.2.2.2.1 = 4 then jpfr q.2.2.1 q.2.2.2.1 K else jpfi q.2.2.1 q.2.2.2.1 K
  | .getstatic _ => fun ls st n r h => K ls (.inr (.inr (.inl q.2.2.2.1)) :: st) n r h
  | .iaload => jald E 1 K
  | .laload => jald E 2 K
  | .baload => jald E 3 K
  | .aaload => jalr K
  | .iastore => jast 1 K
  | .bastore => jast 3 K
  | .lastore => jasl K
  | .aastore => jasr K
  | .arraylength => jaln E K
  | .new _ => jnew n1 q.2.2.1 K
  | .newarray .int => jnwa n1 1 K
  | .newarray .long => jnwa n1 2 K
  | .newarray .boolean => jnwa n1 3 K
  | .anewarray _ => jnwa n1 4 K
  | .multianewarray _ _ => jnwm n1 K
  | .invokevirtual _ => jcav CL n1 q.2.2.1 q.2.2.2.2.1 q.2.2.2.1.toNat q.2.2.2.2.2.1 K
  | .invokestatic _ => if q.2.2.1 = 999 then jacp K else if q.2.2.1 = 997 then jmth q.2.2.2.1 K else jcas CL n1 q.2.2.1 q.2.2.2.2.1 q.2.2.2.1.toNat K
  | .invokespecial _ => if q.2.2.1 = 998 then jobj K else jcav CL n1 q.2.2.1 q.2.2.2.2.1 q.2.2.2.1.toNat q.2.2.2.2.2.1 K
  | .ireturn => jret RT q.2.2.2.2.1
  | .lreturn => jrel RT
  | .return_ => jrev RT
  | _ => fun _ _ _ _ _ => False
/-- a stretch of code, from pc on -/
def jw : Nat → List JI → JK
  | pc, [] => fun ls st n r h => NX pc ls st n r h
  | pc, q :: qs => ji CL E n1 RT NX pc q (jw (pc + q.2.1) qs)
end wp
end
section
/-! ===== IS A STRETCH THE BYTECODE'S? decided by the kernel ===== -/
def jM (m : Nat) : MethodName × ByteArray × Nat × Option FieldType × Nat × Nat × Nat := jML.getD m (x, code, 0, none, 0, 0, 0)
/-- a word at a place of the tables, of those that a call hands on -/
def jcw (p : Nat) (w : Cond) : Bool := decide (lw_tbl[p]? = some w) && goodWord w
def jr32 (b : Int) : Bool := decide (-2147483648 ≤ b ∧ b ≤ 2147483647)
def jr64 (b : Int) : Bool := decide (-9223372036854775808 ≤ b ∧ b ≤ 9223372036854775807)
/-- room and words of a call of method a out of method m -/
def jcall (m a na c : Nat) : Bool := decide (a < 179 ∧ (jM a).2.2.2.2.1 + 1 ≤ (jM m).2.2.2.2.1 ∧ 8 + ((jM a).2.2.1 + 11) + (jM a).2.2.2.2.2.1 ≤ (jM m).2.2.2.2.2.1 ∧ (jM a).2.2.2.2.2.2 = c ∧ (parseMethodDescriptor (jM a).1.desc).map (fun d => d.parameters.length) = some na)
def jmn (b : Int) : MethodName := match b with
  | 0 => Lib.Math.min.name
  | 1 => Lib.Math.max.name
  | 2 => Lib.Math.abs.name
  | _ => Lib.MathLoose.min_long.x
def jchkI (m pc : Nat) (q : JI) : Bool :=
  match q with
  | (ins, len, a, b, t, u, p) => match ins with
  | .iconst c => decide (c = b ∧ len = 1) && jr32 b
  | .bipush c => decide ((Int8.ofInt c).toInt32 = Int32.ofInt b ∧ len = 2) && jr32 b
  | .sipush c => decide ((Int16.ofInt c).toInt32 = Int32.ofInt b ∧ len = 3) && jr32 b
  | .lconst c => decide (b = (c : Nat) ∧ len = 1)
  | .ldc i => decide (len = 2) && jcw p (.constant (jM m).1.cls i (Int32.ofInt b)) && jr32 b
  | .ldc_w i => decide (len = 3) && jcw p (.constant (jM m).1.cls i (Int32.ofInt b)) && jr32 b
  | .ldc2_w i => decide (len = 3) && jcw p (.constantLong (jM m).1.cls i (Int64.ofInt b)) && jr64 b
  | .iload_n k => decide ((k : Nat) = a ∧ len = 1)
  | .lload_n k => decide ((k : Nat) = a ∧ len = 1)
  | .aload_n k => decide ((k : Nat) = a ∧ len = 1)
  | .istore_n k => decide ((k : Nat) = a ∧ len = 1 ∧ a < (jM m).2.2.1)
  | .lstore_n k => decide ((k : Nat) = a ∧ len = 1 ∧ a + 1 < (jM m).2.2.1)
  | .astore_n k => decide ((k : Nat) = a ∧ len = 1 ∧ a < (jM m).2.2.1)
  | .iload k => decide (k = a ∧ len = 2)
  | .lload k => decide (k = a ∧ len = 2)
  | .aload k => decide (k = a ∧ len = 2)
  | .istore k => decide (k = a ∧ len = 2 ∧ a < (jM m).2.2.1)
  | .lstore k => decide (k = a ∧ len = 2 ∧ a + 1 < (jM m).2.2.1)
  | .astore k => decide (k = a ∧ len = 2 ∧ a < (jM m).2.2.1)
  | .iinc k c => decide (k = a ∧ c = b ∧ len = 3 ∧ a < (jM m).2.2.1)
  | .ifCond _ off => decide ((pc : Int) + off = (a : Int) ∧ len = 3)
  | .if_icmp _ off => decide ((pc : Int) + off = (a : Int) ∧ len = 3)
  | .goto off => decide ((pc : Int) + off = (a : Int) ∧ len = 3)
  | .tableswitch d lo hi os => decide (0 ≤ (pc : Int) + d ∧ (os.size : Int) = hi - lo + 1) && os.toList.all (fun o => decide (0 ≤ (pc : Int) + o))
  | .lookupswitch d qs => decide (0 ≤ (pc : Int) + d) && qs.toList.all (fun o => decide (0 ≤ (pc : Int) + o.2)) && (qs.toList.zip (qs.toList.drop 1)).all (fun (a, next) => a.1 < next.1)
  | .getfield i => decide (len = 3) && match vwCl[a]? with
    | some (_, T, N) => decide (0 ≤ b ∧ b.toNat < N ∧ t = (jFT.getD a []).getD b.toNat 0) && jcw p (.fieldLink (jM m).1.cls i (T b.toNat).1 (T b.toNat).2.1 (T b.toNat).2.2.1)
    | none => false
  | .putfield i => decide (len = 3) && match vwCl[a]? with
    | some (_, T, N) => decide (0 ≤ b ∧ b.toNat < N ∧ t = (jFT.getD a []).getD b.toNat 0) && jcw p (.fieldLink (jM m).1.cls i (T b.toNat).1 (T b.toNat).2.1 (T b.toNat).2.2.1) && (decide (t = 4 ∧ (T b.toNat).2.2.2 = true ∧ (jM m).1.name = "<init>" ∧ (T b.toNat).1 = (jM m).1.cls) || decide (t ≠ 4 ∧ (T b.toNat).2.2.2 = false))
    | none => false
  | .getstatic i => decide (len = 3) && match jST[(-3 - b).toNat]? with
    | some (C, n, d, _, _) => decide (b ≤ -3) && (if t = 0 then jcw p (.fieldLink (jM m).1.cls i C n d) else decide (p ∈ jNP ∧ lw_tbl[p]? = some (.fieldLinkNest (jM m).1.cls i C n d "ArsenalRow")))
    | none => false
  | .new i => decide (len = 3) && match vwCl[a]? with
    | some (C, _, _) => jcw p (.classLink (jM m).1.cls i C)
    | none => false
  | .newarray _ => decide (len = 2)
  | .anewarray i => decide (len = 3) && jcw p (.classLink (jM m).1.cls i "ArsenalRow$Hull")
  | .multianewarray i d => decide (len = 4 ∧ d = 2) && jcw p (.classLink (jM m).1.cls i "[[I")
  | .invokevirtual i => decide (len = 3 ∧ 0 ≤ b ∧ (vwCl[u]?).map (fun c => c.1) = some (jM a).1.cls ∧ jMS[a]? = some false ∧ (jMP.getD a (0, 0, 0, 0)).2.2.1 ≠ 9999) && jcall m a b.toNat t && jcw p (.methodLink (jM m).1.cls i (jM a).1)
  | .invokestatic i => decide (len = 3 ∧ 0 ≤ b) && (if a = 999 then jcw p (.methodLink (jM m).1.cls i arraycopyName) && decide (1 ≤ (jM m).2.2.2.2.1 ∧ 26 ≤ (jM m).2.2.2.2.2.1)
      else if a = 997 then jcw p (.methodLink (jM m).1.cls i (jmn b)) && decide (1 ≤ (jM m).2.2.2.2.1 ∧ 23 ≤ (jM m).2.2.2.2.2.1)
      else decide (jMS[a]? = some true) && jcall m a b.toNat t && (if p < 100000 then jcw p (.methodLink (jM m).1.cls i (jM a).1) else decide (p - 100000 ∈ jNP ∧ lw_tbl[p - 100000]? = some (.methodLinkNest (jM m).1.cls i (jM a).1 "ArsenalRow"))))
  | .invokespecial i => decide (len = 3 ∧ 0 ≤ b) && (if a = 998 then jcw p (.methodLink (jM m).1.cls i objectInit) && decide (1 ≤ (jM m).2.2.2.2.1 ∧ 20 ≤ (jM m).2.2.2.2.2.1)
      else decide (jMS[a]? = some false ∧ (jM a).1.name = "<init>" ∧ (jM a).2.2.2.1 = none) && jcall m a b.toNat t && (if p < 100000 then jcw p (.methodLink (jM m).1.cls i (jM a).1) else decide (p - 100000 ∈ jNP ∧ lw_tbl[p - 100000]? = some (.methodLinkNest (jM m).1.cls i (jM a).1 "ArsenalRow"))))
  | .ireturn => decide ((jM m).2.2.2.1 = some .int ∧ len = 1 ∨ (jM m).2.2.2.1 = some .boolean ∧ t = 1 ∧ len = 1)
  | .lreturn => decide ((jM m).2.2.2.1 = some .long ∧ len = 1)
  | .return_ => decide ((jM m).2.2.2.1 = none ∧ len = 1)
  | _ => decide (len = 1)
/-- a stretch of method m from pc on -/
def jchk (m : Nat) : Nat → List JI → Bool
  | _, [] => true
  | pc, q :: qs => decide (decode (jM m).2.1 pc = .ok (q.1, q.2.1)) && jchkI m pc q && jchk m (pc + q.2.1) qs
end
section
def kJ7_fill_53178_0 : List JI := [(.iconst 0, 1, 0, 0, 0, 0, 0),
  (.istore_n 2, 1, 2, 0, 0, 0, 0),
  (.aload_n 0, 1, 0, 0, 0, 0, 0),
  (.arraylength, 1, 0, 0, 0, 0, 0),
  (.istore_n 3, 1, 3, 0, 0, 0, 0)]
theorem qJ7_fill_53178_0 : jchk 0 0 kJ7_fill_53178_0 = true := by decide +kernel
def kJ7_fill_53178_5 : List JI := [(.iload_n 2, 1, 2, 0, 0, 0, 0),
  (.iload_n 3, 1, 3, 0, 0, 0, 0),
  (.if_icmp .ge 13, 3, 20, 0, 0, 0, 0),
  (.aload_n 0, 1, 0, 0, 0, 0, 0),
  (.iload_n 2, 1, 2, 0, 0, 0, 0),
  (.iload_n 1, 1, 1, 0, 0, 0, 0),
  (.iastore, 1, 0, 0, 0, 0, 0),
  (.iinc 2 1, 3, 2, 1, 0, 0, 0),
  (.goto (-12), 3, 5, 0, 0, 0, 0)]
theorem qJ7_fill_53178_5 : jchk 0 5 kJ7_fill_53178_5 = true := by decide +kernel
def kJ7_fill_53178_20 : List JI := [(.return_, 1, 0, 0, 0, 0, 0)]
theorem qJ7_fill_53178_20 : jchk 0 20 kJ7_fill_53178_20 = true := by decide +kernel
def kX1_init_0 : List JI := [(.aload_n 0, 1, 0, 0, 0, 0, 0),
  (.invokespecial 3, 3, 998, 0, 0, 0, 76),
  (.aload_n 0, 1, 0, 0, 0, 0, 0),
  (.iconst 4, 1, 0, 4, 0, 0, 0),
  (.newarray .int, 2, 0, 0, 0, 0, 0),
  (.putfield 9, 3, 1, 0, 4, 0, 82),
  (.aload_n 0, 1, 0, 0, 0, 0, 0),
  (.iconst 4, 1, 0, 4, 0, 0, 0),
  (.newarray .int, 2, 0, 0, 0, 0, 0),
  (.putfield 15, 3, 1, 1, 4, 0, 84),
  (.aload_n 0, 1, 0, 0, 0, 0, 0),
  (.iconst 4, 1, 0, 4, 0, 0, 0),
  (.bipush 30, 2, 0, 30, 0, 0, 0),
  (.multianewarray 18 2, 4, 0, 0, 0, 0, 77),
  (.putfield 20, 3, 1, 2, 4, 0, 86),
  (.aload_n 0, 1, 0, 0, 0, 0, 0),
  (.iconst 4, 1, 0, 4, 0, 0, 0),
  (.newarray .int, 2, 0, 0, 0, 0, 0),
  (.putfield 23, 3, 1, 3, 4, 0, 88),
  (.aload_n 0, 1, 0, 0, 0, 0, 0),
  (.getfield 15, 3, 1, 1, 4, 0, 84),
  (.iconst (-1), 1, 0, -1, 0, 0, 0),
  (.invokestatic 26, 3, 0, 2, 0, 0, 79),
  (.aload_n 0, 1, 0, 0, 0, 0, 0),
  (.getfield 23, 3, 1, 3, 4, 0, 88),
  (.iconst (-1), 1, 0, -1, 0, 0, 0),
  (.invokestatic 26, 3, 0, 2, 0, 0, 79),
  (.return_, 1, 0, 0, 0, 0, 0)]
theorem qX1_init_0 : jchk 1 0 kX1_init_0 = true := by decide +kernel
def kX2_init_0 : List JI := [(.aload_n 0, 1, 0, 0, 0, 0, 0),
  (.invokespecial 3, 3, 998, 0, 0, 0, 105),
  (.aload_n 0, 1, 0, 0, 0, 0, 0),
  (.bipush 40, 2, 0, 40, 0, 0, 0),
  (.newarray .int, 2, 0, 0, 0, 0, 0),
  (.putfield 9, 3, 2, 1, 4, 0, 108),
  (.aload_n 0, 1, 0, 0, 0, 0, 0),
  (.bipush 40, 2, 0, 40, 0, 0, 0),
  (.newarray .int, 2, 0, 0, 0, 0, 0),
  (.putfield 15, 3, 2, 2, 4, 0, 109),
  (.aload_n 0, 1, 0, 0, 0, 0, 0),
  (.bipush 40, 2, 0, 40, 0, 0, 0),
  (.newarray .int, 2, 0, 0, 0, 0, 0),
  (.putfield 18, 3, 2, 3, 4, 0, 110),
  (.aload_n 0, 1, 0, 0, 0, 0, 0),
  (.bipush 10, 2, 0, 10, 0, 0, 0),
  (.newarray .int, 2, 0, 0, 0, 0, 0),
  (.putfield 21, 3, 2, 4, 4, 0, 111),
  (.return_, 1, 0, 0, 0, 0, 0)]
theorem qX2_init_0 : jchk 2 0 kX2_init_0 = true := by decide +kernel
def kX9_init_0 : List JI := [(.aload_n 0, 1, 0, 0, 0, 0, 0),
  (.invokespecial 3, 3, 998, 0, 0, 0, 131),
  (.aload_n 0, 1, 0, 0, 0, 0, 0),
  (.iconst 3, 1, 0, 3, 0, 0, 0),
  (.bipush 6, 2, 0, 6, 0, 0, 0),
  (.multianewarray 9 2, 4, 0, 0, 0, 0, 132),
  (.putfield 11, 3, 9, 0, 4, 0, 133),
  (.aload_n 0, 1, 0, 0, 0, 0, 0),
  (.iconst 3, 1, 0, 3, 0, 0, 0),
  (.bipush 6, 2, 0, 6, 0, 0, 0),
  (.multianewarray 9 2, 4, 0, 0, 0, 0, 132),
  (.putfield 16, 3, 9, 1, 4, 0, 136),
  (.aload_n 0, 1, 0, 0, 0, 0, 0),
  (.iconst 3, 1, 0, 3, 0, 0, 0),
  (.bipush 36, 2, 0, 36, 0, 0, 0),
  (.multianewarray 9 2, 4, 0, 0, 0, 0, 132),
  (.putfield 19, 3, 9, 2, 4, 0, 139),
  (.return_, 1, 0, 0, 0, 0, 0)]
theorem qX9_init_0 : jchk 3 0 kX9_init_0 = true := by decide +kernel
def kX4_init_0 : List JI := [(.aload_n 0, 1, 0, 0, 0, 0, 0),
  (.invokespecial 3, 3, 998, 0, 0, 0, 162),
  (.aload_n 0, 1, 0, 0, 0, 0, 0),
  (.bipush 6, 2, 0, 6, 0, 0, 0),
  (.newarray .int, 2, 0, 0, 0, 0, 0),
  (.putfield 9, 3, 4, 11, 4, 0, 196),
  (.aload_n 0, 1, 0, 0, 0, 0, 0),
  (.bipush 6, 2, 0, 6, 0, 0, 0),
  (.newarray .int, 2, 0, 0, 0, 0, 0),
  (.putfield 15, 3, 4, 12, 4, 0, 198),
  (.return_, 1, 0, 0, 0, 0, 0)]
theorem qX4_init_0 : jchk 4 0 kX4_init_0 = true := by decide +kernel
def kX10_init_0 : List JI := [(.aload_n 0, 1, 0, 0, 0, 0, 0),
  (.invokespecial 3, 3, 998, 0, 0, 0, 154),
  (.aload_n 0, 1, 0, 0, 0, 0, 0),
  (.bipush 6, 2, 0, 6, 0, 0, 0),
  (.newarray .int, 2, 0, 0, 0, 0, 0),
  (.putfield 9, 3, 10, 0, 4, 0, 227),
  (.aload_n 0, 1, 0, 0, 0, 0, 0),
  (.bipush 6, 2, 0, 6, 0, 0, 0),
  (.newarray .int, 2, 0, 0, 0, 0, 0),
  (.putfield 15, 3, 10, 1, 4, 0, 229),
  (.aload_n 0, 1, 0, 0, 0, 0, 0),
  (.bipush 6, 2, 0, 6, 0, 0, 0),
  (.newarray .int, 2, 0, 0, 0, 0, 0),
  (.putfield 18, 3, 10, 2, 4, 0, 231),
  (.aload_n 0, 1, 0, 0, 0, 0, 0),
  (.bipush 16, 2, 0, 16, 0, 0, 0),
  (.anewarray 21, 3, 0, 0, 0, 0, 155),
  (.putfield 23, 3, 10, 3, 4, 0, 233),
  (.aload_n 0, 1, 0, 0, 0, 0, 0),
  (.bipush 16, 2, 0, 16, 0, 0, 0),
  (.newarray .int, 2, 0, 0, 0, 0, 0),
  (.putfield 27, 3, 10, 5, 4, 0, 239),
  (.aload_n 0, 1, 0, 0, 0, 0, 0),
  (.iconst 4, 1, 0, 4, 0, 0, 0),
  (.newarray .int, 2, 0, 0, 0, 0, 0),
  (.putfield 30, 3, 10, 11, 4, 0, 251),
  (.aload_n 0, 1, 0, 0, 0, 0, 0),
  (.getfield 15, 3, 10, 1, 4, 0, 229),
  (.iconst (-1), 1, 0, -1, 0, 0, 0),
  (.invokestatic 33, 3, 0, 2, 0, 0, 157),
  (.iconst 0, 1, 0, 0, 0, 0, 0),
  (.istore_n 1, 1, 1, 0, 0, 0, 0)]
theorem qX10_init_0 : jchk 5 0 kX10_init_0 = true := by decide +kernel
def kX10_init_62 : List JI := [(.iload_n 1, 1, 1, 0, 0, 0, 0),
  (.bipush 16, 2, 0, 16, 0, 0, 0),
  (.if_icmp .ge 22, 3, 87, 0, 0, 0, 0),
  (.aload_n 0, 1, 0, 0, 0, 0, 0),
  (.getfield 23, 3, 10, 3, 4, 0, 233),
  (.iload_n 1, 1, 1, 0, 0, 0, 0),
  (.new 21, 3, 4, 0, 0, 0, 155),
  (.dup, 1, 0, 0, 0, 0, 0),
  (.invokespecial 39, 3, 4, 0, 2, 4, 100159),
  (.aastore, 1, 0, 0, 0, 0, 0),
  (.iinc 1 1, 3, 1, 1, 0, 0, 0),
  (.goto (-22), 3, 62, 0, 0, 0, 0)]
theorem qX10_init_62 : jchk 5 62 kX10_init_62 = true := by decide +kernel
def kX10_init_87 : List JI := [(.return_, 1, 0, 0, 0, 0, 0)]
theorem qX10_init_87 : jchk 5 87 kX10_init_87 = true := by decide +kernel
def kX3_init_0 : List JI := [(.aload_n 0, 1, 0, 0, 0, 0, 0),
  (.invokespecial 3, 3, 998, 0, 0, 0, 282),
  (.aload_n 0, 1, 0, 0, 0, 0, 0),
  (.bipush 40, 2, 0, 40, 0, 0, 0),
  (.newarray .int, 2, 0, 0, 0, 0, 0),
  (.putfield 9, 3, 3, 1, 4, 0, 286),
  (.aload_n 0, 1, 0, 0, 0, 0, 0),
  (.bipush 40, 2, 0, 40, 0, 0, 0),
  (.newarray .int, 2, 0, 0, 0, 0, 0),
  (.putfield 15, 3, 3, 2, 4, 0, 289),
  (.aload_n 0, 1, 0, 0, 0, 0, 0),
  (.bipush 40, 2, 0, 40, 0, 0, 0),
  (.newarray .int, 2, 0, 0, 0, 0, 0),
  (.putfield 18, 3, 3, 3, 4, 0, 292),
  (.aload_n 0, 1, 0, 0, 0, 0, 0),
  (.bipush 40, 2, 0, 40, 0, 0, 0),
  (.newarray .int, 2, 0, 0, 0, 0, 0),
  (.putfield 21, 3, 3, 4, 4, 0, 295),
  (.aload_n 0, 1, 0, 0, 0, 0, 0),
  (.bipush 40, 2, 0, 40, 0, 0, 0),
  (.newarray .int, 2, 0, 0, 0, 0, 0),
  (.putfield 24, 3, 3, 5, 4, 0, 297),
  (.aload_n 0, 1, 0, 0, 0, 0, 0),
  (.iconst 3, 1, 0, 3, 0, 0, 0),
  (.newarray .int, 2, 0, 0, 0, 0, 0),
  (.putfield 27, 3, 3, 6, 4, 0, 299),
  (.return_, 1, 0, 0, 0, 0, 0)]
theorem qX3_init_0 : jchk 6 0 kX3_init_0 = true := by decide +kernel
def kX8_init_0 : List JI := [(.aload_n 0, 1, 0, 0, 0, 0, 0),
  (.invokespecial 3, 3, 998, 0, 0, 0, 321),
  (.aload_n 0, 1, 0, 0, 0, 0, 0),
  (.iconst 3, 1, 0, 3, 0, 0, 0),
  (.newarray .int, 2, 0, 0, 0, 0, 0),
  (.putfield 9, 3, 8, 0, 4, 0, 322),
  (.aload_n 0, 1, 0, 0, 0, 0, 0),
  (.bipush 18, 2, 0, 18, 0, 0, 0),
  (.newarray .int, 2, 0, 0, 0, 0, 0),
  (.putfield 15, 3, 8, 1, 4, 0, 325),
  (.aload_n 0, 1, 0, 0, 0, 0, 0),
  (.bipush 18, 2, 0, 18, 0, 0, 0),
  (.newarray .int, 2, 0, 0, 0, 0, 0),
  (.putfield 18, 3, 8, 2, 4, 0, 327),
  (.aload_n 0, 1, 0, 0, 0, 0, 0),
  (.bipush 18, 2, 0, 18, 0, 0, 0),
  (.newarray .int, 2, 0, 0, 0, 0, 0),
  (.putfield 21, 3, 8, 3, 4, 0, 329),
  (.aload_n 0, 1, 0, 0, 0, 0, 0),
  (.bipush 18, 2, 0, 18, 0, 0, 0),
  (.newarray .int, 2, 0, 0, 0, 0, 0),
  (.putfield 24, 3, 8, 4, 4, 0, 331),
  (.return_, 1, 0, 0, 0, 0, 0)]
theorem qX8_init_0 : jchk 7 0 kX8_init_0 = true := by decide +kernel
def kX6_init_0 : List JI := [(.aload_n 0, 1, 0, 0, 0, 0, 0),
  (.invokespecial 5, 3, 998, 0, 0, 0, 349),
  (.aload_n 0, 1, 0, 0, 0, 0, 0),
  (.bipush 6, 2, 0, 6, 0, 0, 0),
  (.newarray .int, 2, 0, 0, 0, 0, 0),
  (.putfield 11, 3, 6, 2, 4, 0, 354),
  (.aload_n 0, 1, 0, 0, 0, 0, 0),
  (.bipush 64, 2, 0, 64, 0, 0, 0),
  (.newarray .long, 2, 0, 0, 0, 0, 0),
  (.putfield 15, 3, 6, 3, 4, 0, 356),
  (.aload_n 0, 1, 0, 0, 0, 0, 0),
  (.bipush 6, 2, 0, 6, 0, 0, 0),
  (.newarray .long, 2, 0, 0, 0, 0, 0),
  (.putfield 19, 3, 6, 4, 4, 0, 357),
  (.return_, 1, 0, 0, 0, 0, 0)]
theorem qX6_init_0 : jchk 8 0 kX6_init_0 = true := by decide +kernel
def kX5_init_0 : List JI := [(.aload_n 0, 1, 0, 0, 0, 0, 0),
  (.invokespecial 3, 3, 998, 0, 0, 0, 375),
  (.aload_n 0, 1, 0, 0, 0, 0, 0),
  (.bipush 40, 2, 0, 40, 0, 0, 0),
  (.newarray .int, 2, 0, 0, 0, 0, 0),
  (.putfield 9, 3, 5, 1, 4, 0, 378),
  (.aload_n 0, 1, 0, 0, 0, 0, 0),
  (.bipush 40, 2, 0, 40, 0, 0, 0),
  (.newarray .int, 2, 0, 0, 0, 0, 0),
  (.putfield 15, 3, 5, 2, 4, 0, 380),
  (.aload_n 0, 1, 0, 0, 0, 0, 0),
  (.bipush 40, 2, 0, 40, 0, 0, 0),
  (.newarray .int, 2, 0, 0, 0, 0, 0),
  (.putfield 18, 3, 5, 3, 4, 0, 382),
  (.aload_n 0, 1, 0, 0, 0, 0, 0),
  (.bipush 40, 2, 0, 40, 0, 0, 0),
  (.newarray .int, 2, 0, 0, 0, 0, 0),
  (.putfield 21, 3, 5, 4, 4, 0, 384),
  (.return_, 1, 0, 0, 0, 0, 0)]
theorem qX5_init_0 : jchk 9 0 kX5_init_0 = true := by decide +kernel
def kX0_init_0 : List JI := [(.aload_n 0, 1, 0, 0, 0, 0, 0),
  (.invokespecial 3, 3, 998, 0, 0, 0, 402),
  (.aload_n 0, 1, 0, 0, 0, 0, 0),
  (.iload_n 1, 1, 1, 0, 0, 0, 0),
  (.iconst 4, 1, 0, 4, 0, 0, 0),
  (.imul, 1, 0, 0, 0, 0, 0),
  (.newarray .int, 2, 0, 0, 0, 0, 0),
  (.putfield 9, 3, 0, 0, 4, 0, 403),
  (.aload_n 0, 1, 0, 0, 0, 0, 0),
  (.iload_n 1, 1, 1, 0, 0, 0, 0),
  (.newarray .int, 2, 0, 0, 0, 0, 0),
  (.putfield 15, 3, 0, 1, 4, 0, 406),
  (.aload_n 0, 1, 0, 0, 0, 0, 0),
  (.iload_n 1, 1, 1, 0, 0, 0, 0),
  (.newarray .int, 2, 0, 0, 0, 0, 0),
  (.putfield 18, 3, 0, 2, 4, 0, 409),
  (.aload_n 0, 1, 0, 0, 0, 0, 0),
  (.iload_n 1, 1, 1, 0, 0, 0, 0),
  (.newarray .int, 2, 0, 0, 0, 0, 0),
  (.putfield 21, 3, 0, 3, 4, 0, 411),
  (.return_, 1, 0, 0, 0, 0, 0)]
theorem qX0_init_0 : jchk 10 0 kX0_init_0 = true := by decide +kernel
def kX7_init_0 : List JI := [(.aload_n 0, 1, 0, 0, 0, 0, 0),
  (.invokespecial 3, 3, 998, 0, 0, 0, 427),
  (.aload_n 0, 1, 0, 0, 0, 0, 0),
  (.iconst 5, 1, 0, 5, 0, 0, 0),
  (.newarray .int, 2, 0, 0, 0, 0, 0),
  (.putfield 9, 3, 7, 1, 4, 0, 434),
  (.aload_n 0, 1, 0, 0, 0, 0, 0),
  (.new 15, 3, 0, 0, 0, 0, 428),
  (.dup, 1, 0, 0, 0, 0, 0),
  (.sipush 300, 3, 0, 300, 0, 0, 0),
  (.invokespecial 17, 3, 10, 1, 4, 0, 429),
  (.putfield 20, 3, 7, 4, 4, 0, 439),
  (.aload_n 0, 1, 0, 0, 0, 0, 0),
  (.iconst 4, 1, 0, 4, 0, 0, 0),
  (.newarray .int, 2, 0, 0, 0, 0, 0),
  (.putfield 24, 3, 7, 5, 4, 0, 440),
  (.aload_n 0, 1, 0, 0, 0, 0, 0),
  (.new 27, 3, 10, 0, 0, 0, 430),
  (.dup, 1, 0, 0, 0, 0, 0),
  (.invokespecial 29, 3, 5, 0, 54, 10, 431),
  (.putfield 30, 3, 7, 6, 4, 0, 441),
  (.aload_n 0, 1, 0, 0, 0, 0, 0),
  (.bipush 16, 2, 0, 16, 0, 0, 0),
  (.newarray .int, 2, 0, 0, 0, 0, 0),
  (.putfield 34, 3, 7, 7, 4, 0, 442),
  (.aload_n 0, 1, 0, 0, 0, 0, 0),
  (.iconst 5, 1, 0, 5, 0, 0, 0),
  (.newarray .int, 2, 0, 0, 0, 0, 0),
  (.putfield 37, 3, 7, 8, 4, 0, 443),
  (.return_, 1, 0, 0, 0, 0, 0)]
theorem qX7_init_0 : jchk 11 0 kX7_init_0 = true := by decide +kernel
def kX11_init_0 : List JI := [(.aload_n 0, 1, 0, 0, 0, 0, 0),
  (.invokespecial 1, 3, 998, 0, 0, 0, 68),
  (.aload_n 0, 1, 0, 0, 0, 0, 0),
  (.bipush 8, 2, 0, 8, 0, 0, 0),
  (.newarray .int, 2, 0, 0, 0, 0, 0),
  (.putfield 7, 3, 11, 1, 4, 0, 473),
  (.aload_n 0, 1, 0, 0, 0, 0, 0),
  (.new 13, 3, 1, 0, 0, 0, 71),
  (.dup, 1, 0, 0, 0, 0, 0),
  (.invokespecial 15, 3, 1, 0, 8, 1, 73),
  (.putfield 16, 3, 11, 2, 4, 0, 474),
  (.aload_n 0, 1, 0, 0, 0, 0, 0),
  (.new 20, 3, 2, 0, 0, 0, 100),
  (.dup, 1, 0, 0, 0, 0, 0),
  (.invokespecial 22, 3, 2, 0, 4, 2, 100102),
  (.putfield 23, 3, 11, 3, 4, 0, 475),
  (.aload_n 0, 1, 0, 0, 0, 0, 0),
  (.new 27, 3, 9, 0, 0, 0, 126),
  (.dup, 1, 0, 0, 0, 0, 0),
  (.invokespecial 29, 3, 3, 0, 12, 9, 100128),
  (.putfield 30, 3, 11, 4, 4, 0, 476),
  (.aload_n 0, 1, 0, 0, 0, 0, 0),
  (.new 34, 3, 10, 0, 0, 0, 149),
  (.dup, 1, 0, 0, 0, 0, 0),
  (.invokespecial 36, 3, 5, 0, 54, 10, 151),
  (.putfield 37, 3, 11, 5, 4, 0, 477),
  (.aload_n 0, 1, 0, 0, 0, 0, 0),
  (.new 41, 3, 3, 0, 0, 0, 277),
  (.dup, 1, 0, 0, 0, 0, 0),
  (.invokespecial 43, 3, 6, 0, 6, 3, 100279),
  (.putfield 44, 3, 11, 6, 4, 0, 478),
  (.aload_n 0, 1, 0, 0, 0, 0, 0),
  (.new 48, 3, 8, 0, 0, 0, 316),
  (.dup, 1, 0, 0, 0, 0, 0),
  (.invokespecial 50, 3, 7, 0, 5, 8, 100318),
  (.putfield 51, 3, 11, 7, 4, 0, 479),
  (.aload_n 0, 1, 0, 0, 0, 0, 0),
  (.new 55, 3, 6, 0, 0, 0, 344),
  (.dup, 1, 0, 0, 0, 0, 0),
  (.invokespecial 57, 3, 8, 0, 3, 6, 100346),
  (.putfield 58, 3, 11, 8, 4, 0, 480),
  (.aload_n 0, 1, 0, 0, 0, 0, 0),
  (.new 62, 3, 5, 0, 0, 0, 370),
  (.dup, 1, 0, 0, 0, 0, 0),
  (.invokespecial 64, 3, 9, 0, 4, 5, 100372),
  (.putfield 65, 3, 11, 9, 4, 0, 481),
  (.aload_n 0, 1, 0, 0, 0, 0, 0),
  (.new 69, 3, 0, 0, 0, 0, 397),
  (.dup, 1, 0, 0, 0, 0, 0),
  (.iconst 1, 1, 0, 1, 0, 0, 0),
  (.invokespecial 71, 3, 10, 1, 4, 0, 399),
  (.putfield 74, 3, 11, 10, 4, 0, 482),
  (.aload_n 0, 1, 0, 0, 0, 0, 0),
  (.new 78, 3, 7, 0, 0, 0, 422),
  (.dup, 1, 0, 0, 0, 0, 0),
  (.invokespecial 80, 3, 11, 0, 64, 7, 100424),
  (.putfield 81, 3, 11, 11, 4, 0, 483),
  (.return_, 1, 0, 0, 0, 0, 0)]
theorem qX11_init_0 : jchk 12 0 kX11_init_0 = true := by decide +kernel
def kX12_init_0 : List JI := [(.aload_n 0, 1, 0, 0, 0, 0, 0),
  (.invokespecial 1, 3, 998, 0, 0, 0, 958),
  (.aload_n 0, 1, 0, 0, 0, 0, 0),
  (.iconst 4, 1, 0, 4, 0, 0, 0),
  (.newarray .int, 2, 0, 0, 0, 0, 0),
  (.putfield 7, 3, 12, 1, 4, 0, 960),
  (.aload_n 0, 1, 0, 0, 0, 0, 0),
  (.iconst 4, 1, 0, 4, 0, 0, 0),
  (.newarray .int, 2, 0, 0, 0, 0, 0),
  (.dup, 1, 0, 0, 0, 0, 0),
  (.iconst 0, 1, 0, 0, 0, 0, 0),
  (.iconst (-1), 1, 0, -1, 0, 0, 0),
  (.iastore, 1, 0, 0, 0, 0, 0),
  (.dup, 1, 0, 0, 0, 0, 0),
  (.iconst 1, 1, 0, 1, 0, 0, 0),
  (.iconst (-1), 1, 0, -1, 0, 0, 0),
  (.iastore, 1, 0, 0, 0, 0, 0),
  (.dup, 1, 0, 0, 0, 0, 0),
  (.iconst 2, 1, 0, 2, 0, 0, 0),
  (.iconst (-1), 1, 0, -1, 0, 0, 0),
  (.iastore, 1, 0, 0, 0, 0, 0),
  (.dup, 1, 0, 0, 0, 0, 0),
  (.iconst 3, 1, 0, 3, 0, 0, 0),
  (.iconst (-1), 1, 0, -1, 0, 0, 0),
  (.iastore, 1, 0, 0, 0, 0, 0),
  (.putfield 13, 3, 12, 2, 4, 0, 961),
  (.aload_n 0, 1, 0, 0, 0, 0, 0),
  (.iconst 4, 1, 0, 4, 0, 0, 0),
  (.newarray .int, 2, 0, 0, 0, 0, 0),
  (.dup, 1, 0, 0, 0, 0, 0),
  (.iconst 0, 1, 0, 0, 0, 0, 0),
  (.iconst (-1), 1, 0, -1, 0, 0, 0),
  (.iastore, 1, 0, 0, 0, 0, 0),
  (.dup, 1, 0, 0, 0, 0, 0),
  (.iconst 1, 1, 0, 1, 0, 0, 0),
  (.iconst (-1), 1, 0, -1, 0, 0, 0),
  (.iastore, 1, 0, 0, 0, 0, 0),
  (.dup, 1, 0, 0, 0, 0, 0),
  (.iconst 2, 1, 0, 2, 0, 0, 0),
  (.iconst (-1), 1, 0, -1, 0, 0, 0),
  (.iastore, 1, 0, 0, 0, 0, 0),
  (.dup, 1, 0, 0, 0, 0, 0),
  (.iconst 3, 1, 0, 3, 0, 0, 0),
  (.iconst (-1), 1, 0, -1, 0, 0, 0),
  (.iastore, 1, 0, 0, 0, 0, 0),
  (.putfield 16, 3, 12, 3, 4, 0, 962),
  (.aload_n 0, 1, 0, 0, 0, 0, 0),
  (.bipush 120, 2, 0, 120, 0, 0, 0),
  (.newarray .int, 2, 0, 0, 0, 0, 0),
  (.putfield 19, 3, 12, 4, 4, 0, 963),
  (.aload_n 0, 1, 0, 0, 0, 0, 0),
  (.bipush 6, 2, 0, 6, 0, 0, 0),
  (.newarray .int, 2, 0, 0, 0, 0, 0),
  (.putfield 22, 3, 12, 5, 4, 0, 964),
  (.aload_n 0, 1, 0, 0, 0, 0, 0),
  (.bipush 40, 2, 0, 40, 0, 0, 0),
  (.newarray .int, 2, 0, 0, 0, 0, 0),
  (.putfield 25, 3, 12, 7, 4, 0, 966),
  (.aload_n 0, 1, 0, 0, 0, 0, 0),
  (.bipush 40, 2, 0, 40, 0, 0, 0),
  (.newarray .int, 2, 0, 0, 0, 0, 0),
  (.putfield 28, 3, 12, 8, 4, 0, 967),
  (.aload_n 0, 1, 0, 0, 0, 0, 0),
  (.bipush 40, 2, 0, 40, 0, 0, 0),
  (.newarray .int, 2, 0, 0, 0, 0, 0),
  (.putfield 31, 3, 12, 9, 4, 0, 968),
  (.aload_n 0, 1, 0, 0, 0, 0, 0),
  (.bipush 40, 2, 0, 40, 0, 0, 0),
  (.newarray .int, 2, 0, 0, 0, 0, 0),
  (.putfield 34, 3, 12, 10, 4, 0, 969),
  (.aload_n 0, 1, 0, 0, 0, 0, 0),
  (.bipush 18, 2, 0, 18, 0, 0, 0),
  (.newarray .int, 2, 0, 0, 0, 0, 0),
  (.putfield 37, 3, 12, 11, 4, 0, 970),
  (.aload_n 0, 1, 0, 0, 0, 0, 0),
  (.bipush 18, 2, 0, 18, 0, 0, 0),
  (.newarray .int, 2, 0, 0, 0, 0, 0),
  (.putfield 40, 3, 12, 12, 4, 0, 971),
  (.aload_n 0, 1, 0, 0, 0, 0, 0),
  (.bipush 108, 2, 0, 108, 0, 0, 0),
  (.newarray .int, 2, 0, 0, 0, 0, 0),
  (.putfield 43, 3, 12, 13, 4, 0, 972),
  (.aload_n 0, 1, 0, 0, 0, 0, 0),
  (.bipush 16, 2, 0, 16, 0, 0, 0),
  (.newarray .int, 2, 0, 0, 0, 0, 0),
  (.putfield 46, 3, 12, 15, 4, 0, 974),
  (.aload_n 0, 1, 0, 0, 0, 0, 0),
  (.bipush 16, 2, 0, 16, 0, 0, 0),
  (.newarray .int, 2, 0, 0, 0, 0, 0),
  (.putfield 49, 3, 12, 16, 4, 0, 975),
  (.aload_n 0, 1, 0, 0, 0, 0, 0),
  (.bipush 16, 2, 0, 16, 0, 0, 0),
  (.newarray .int, 2, 0, 0, 0, 0, 0),
  (.putfield 52, 3, 12, 17, 4, 0, 976),
  (.aload_n 0, 1, 0, 0, 0, 0, 0),
  (.bipush 16, 2, 0, 16, 0, 0, 0),
  (.newarray .int, 2, 0, 0, 0, 0, 0),
  (.putfield 55, 3, 12, 18, 4, 0, 977),
  (.aload_n 0, 1, 0, 0, 0, 0, 0),
  (.bipush 16, 2, 0, 16, 0, 0, 0),
  (.newarray .int, 2, 0, 0, 0, 0, 0),
  (.putfield 58, 3, 12, 19, 4, 0, 978),
  (.aload_n 0, 1, 0, 0, 0, 0, 0),
  (.bipush 16, 2, 0, 16, 0, 0, 0),
  (.newarray .int, 2, 0, 0, 0, 0, 0),
  (.putfield 61, 3, 12, 20, 4, 0, 979),
  (.aload_n 0, 1, 0, 0, 0, 0, 0),
  (.bipush 16, 2, 0, 16, 0, 0, 0),
  (.newarray .int, 2, 0, 0, 0, 0, 0),
  (.putfield 64, 3, 12, 21, 4, 0, 980),
  (.aload_n 0, 1, 0, 0, 0, 0, 0),
  (.bipush 16, 2, 0, 16, 0, 0, 0),
  (.newarray .boolean, 2, 0, 0, 0, 0, 0),
  (.putfield 67, 3, 12, 22, 4, 0, 981),
  (.aload_n 0, 1, 0, 0, 0, 0, 0),
  (.bipush 16, 2, 0, 16, 0, 0, 0),
  (.newarray .int, 2, 0, 0, 0, 0, 0),
  (.putfield 71, 3, 12, 23, 4, 0, 982),
  (.aload_n 0, 1, 0, 0, 0, 0, 0),
  (.bipush 16, 2, 0, 16, 0, 0, 0),
  (.newarray .int, 2, 0, 0, 0, 0, 0),
  (.putfield 74, 3, 12, 24, 4, 0, 983),
  (.aload_n 0, 1, 0, 0, 0, 0, 0),
  (.bipush 96, 2, 0, 96, 0, 0, 0),
  (.newarray .int, 2, 0, 0, 0, 0, 0),
  (.putfield 77, 3, 12, 25, 4, 0, 984),
  (.aload_n 0, 1, 0, 0, 0, 0, 0),
  (.bipush 96, 2, 0, 96, 0, 0, 0),
  (.newarray .int, 2, 0, 0, 0, 0, 0),
  (.putfield 80, 3, 12, 26, 4, 0, 985),
  (.aload_n 0, 1, 0, 0, 0, 0, 0),
  (.bipush 16, 2, 0, 16, 0, 0, 0),
  (.newarray .boolean, 2, 0, 0, 0, 0, 0),
  (.putfield 83, 3, 12, 27, 4, 0, 986),
  (.aload_n 0, 1, 0, 0, 0, 0, 0),
  (.bipush 6, 2, 0, 6, 0, 0, 0),
  (.newarray .int, 2, 0, 0, 0, 0, 0),
  (.dup, 1, 0, 0, 0, 0, 0),
  (.iconst 0, 1, 0, 0, 0, 0, 0),
  (.iconst (-1), 1, 0, -1, 0, 0, 0),
  (.iastore, 1, 0, 0, 0, 0, 0),
  (.dup, 1, 0, 0, 0, 0, 0),
  (.iconst 1, 1, 0, 1, 0, 0, 0),
  (.iconst (-1), 1, 0, -1, 0, 0, 0),
  (.iastore, 1, 0, 0, 0, 0, 0),
  (.dup, 1, 0, 0, 0, 0, 0),
  (.iconst 2, 1, 0, 2, 0, 0, 0),
  (.iconst (-1), 1, 0, -1, 0, 0, 0),
  (.iastore, 1, 0, 0, 0, 0, 0),
  (.dup, 1, 0, 0, 0, 0, 0),
  (.iconst 3, 1, 0, 3, 0, 0, 0),
  (.iconst (-1), 1, 0, -1, 0, 0, 0),
  (.iastore, 1, 0, 0, 0, 0, 0),
  (.dup, 1, 0, 0, 0, 0, 0),
  (.iconst 4, 1, 0, 4, 0, 0, 0),
  (.iconst (-1), 1, 0, -1, 0, 0, 0),
  (.iastore, 1, 0, 0, 0, 0, 0),
  (.dup, 1, 0, 0, 0, 0, 0),
  (.iconst 5, 1, 0, 5, 0, 0, 0),
  (.iconst (-1), 1, 0, -1, 0, 0, 0),
  (.iastore, 1, 0, 0, 0, 0, 0),
  (.putfield 86, 3, 12, 28, 4, 0, 987),
  (.aload_n 0, 1, 0, 0, 0, 0, 0),
  (.bipush 6, 2, 0, 6, 0, 0, 0),
  (.newarray .int, 2, 0, 0, 0, 0, 0),
  (.putfield 89, 3, 12, 29, 4, 0, 988),
  (.aload_n 0, 1, 0, 0, 0, 0, 0),
  (.iconst 3, 1, 0, 3, 0, 0, 0),
  (.newarray .int, 2, 0, 0, 0, 0, 0),
  (.putfield 92, 3, 12, 33, 4, 0, 992),
  (.aload_n 0, 1, 0, 0, 0, 0, 0),
  (.bipush 40, 2, 0, 40, 0, 0, 0),
  (.newarray .int, 2, 0, 0, 0, 0, 0),
  (.putfield 95, 3, 12, 35, 4, 0, 994),
  (.aload_n 0, 1, 0, 0, 0, 0, 0),
  (.bipush 40, 2, 0, 40, 0, 0, 0),
  (.newarray .int, 2, 0, 0, 0, 0, 0),
  (.putfield 98, 3, 12, 36, 4, 0, 995),
  (.aload_n 0, 1, 0, 0, 0, 0, 0),
  (.bipush 40, 2, 0, 40, 0, 0, 0),
  (.newarray .int, 2, 0, 0, 0, 0, 0),
  (.putfield 101, 3, 12, 37, 4, 0, 996),
  (.aload_n 0, 1, 0, 0, 0, 0, 0),
  (.bipush 40, 2, 0, 40, 0, 0, 0),
  (.newarray .int, 2, 0, 0, 0, 0, 0),
  (.putfield 104, 3, 12, 38, 4, 0, 997),
  (.aload_n 0, 1, 0, 0, 0, 0, 0),
  (.bipush 40, 2, 0, 40, 0, 0, 0),
  (.newarray .int, 2, 0, 0, 0, 0, 0),
  (.putfield 107, 3, 12, 39, 4, 0, 998),
  (.aload_n 0, 1, 0, 0, 0, 0, 0),
  (.iconst 3, 1, 0, 3, 0, 0, 0),
  (.newarray .int, 2, 0, 0, 0, 0, 0),
  (.putfield 110, 3, 12, 40, 4, 0, 999),
  (.aload_n 0, 1, 0, 0, 0, 0, 0),
  (.bipush 18, 2, 0, 18, 0, 0, 0),
  (.newarray .int, 2, 0, 0, 0, 0, 0),
  (.putfield 113, 3, 12, 41, 4, 0, 1000),
  (.aload_n 0, 1, 0, 0, 0, 0, 0),
  (.bipush 18, 2, 0, 18, 0, 0, 0),
  (.newarray .int, 2, 0, 0, 0, 0, 0),
  (.putfield 116, 3, 12, 42, 4, 0, 1001),
  (.aload_n 0, 1, 0, 0, 0, 0, 0),
  (.bipush 18, 2, 0, 18, 0, 0, 0),
  (.newarray .int, 2, 0, 0, 0, 0, 0),
  (.putfield 119, 3, 12, 43, 4, 0, 1002),
  (.aload_n 0, 1, 0, 0, 0, 0, 0),
  (.bipush 18, 2, 0, 18, 0, 0, 0),
  (.newarray .int, 2, 0, 0, 0, 0, 0),
  (.putfield 122, 3, 12, 44, 4, 0, 1003),
  (.aload_n 0, 1, 0, 0, 0, 0, 0),
  (.bipush 40, 2, 0, 40, 0, 0, 0),
  (.newarray .int, 2, 0, 0, 0, 0, 0),
  (.putfield 125, 3, 12, 46, 4, 0, 1005),
  (.aload_n 0, 1, 0, 0, 0, 0, 0),
  (.bipush 40, 2, 0, 40, 0, 0, 0),
  (.newarray .int, 2, 0, 0, 0, 0, 0),
  (.putfield 128, 3, 12, 47, 4, 0, 1006),
  (.aload_n 0, 1, 0, 0, 0, 0, 0),
  (.bipush 40, 2, 0, 40, 0, 0, 0),
  (.newarray .int, 2, 0, 0, 0, 0, 0),
  (.putfield 131, 3, 12, 48, 4, 0, 1007),
  (.aload_n 0, 1, 0, 0, 0, 0, 0),
  (.bipush 40, 2, 0, 40, 0, 0, 0),
  (.newarray .int, 2, 0, 0, 0, 0, 0),
  (.putfield 134, 3, 12, 49, 4, 0, 1008),
  (.aload_n 0, 1, 0, 0, 0, 0, 0),
  (.bipush 8, 2, 0, 8, 0, 0, 0),
  (.newarray .int, 2, 0, 0, 0, 0, 0),
  (.putfield 137, 3, 12, 50, 4, 0, 1009),
  (.aload_n 0, 1, 0, 0, 0, 0, 0),
  (.bipush 30, 2, 0, 30, 0, 0, 0),
  (.newarray .int, 2, 0, 0, 0, 0, 0),
  (.putfield 140, 3, 12, 51, 4, 0, 1010),
  (.aload_n 0, 1, 0, 0, 0, 0, 0),
  (.bipush 40, 2, 0, 40, 0, 0, 0),
  (.newarray .boolean, 2, 0, 0, 0, 0, 0),
  (.putfield 143, 3, 12, 52, 4, 0, 1011),
  (.aload_n 0, 1, 0, 0, 0, 0, 0),
  (.bipush 6, 2, 0, 6, 0, 0, 0),
  (.newarray .int, 2, 0, 0, 0, 0, 0),
  (.putfield 146, 3, 12, 53, 4, 0, 1012),
  (.aload_n 0, 1, 0, 0, 0, 0, 0),
  (.bipush 64, 2, 0, 64, 0, 0, 0),
  (.newarray .int, 2, 0, 0, 0, 0, 0),
  (.putfield 149, 3, 12, 54, 4, 0, 1013),
  (.aload_n 0, 1, 0, 0, 0, 0, 0),
  (.sipush 400, 3, 0, 400, 0, 0, 0),
  (.newarray .int, 2, 0, 0, 0, 0, 0),
  (.putfield 152, 3, 12, 59, 4, 0, 1018),
  (.aload_n 0, 1, 0, 0, 0, 0, 0),
  (.bipush 96, 2, 0, 96, 0, 0, 0),
  (.newarray .int, 2, 0, 0, 0, 0, 0),
  (.putfield 155, 3, 12, 60, 4, 0, 1019),
  (.aload_n 0, 1, 0, 0, 0, 0, 0),
  (.iconst 5, 1, 0, 5, 0, 0, 0),
  (.newarray .int, 2, 0, 0, 0, 0, 0),
  (.putfield 158, 3, 12, 61, 4, 0, 1020),
  (.aload_n 0, 1, 0, 0, 0, 0, 0),
  (.iconst 5, 1, 0, 5, 0, 0, 0),
  (.newarray .int, 2, 0, 0, 0, 0, 0),
  (.putfield 161, 3, 12, 63, 4, 0, 1022),
  (.aload_n 0, 1, 0, 0, 0, 0, 0),
  (.iconst 5, 1, 0, 5, 0, 0, 0),
  (.newarray .int, 2, 0, 0, 0, 0, 0),
  (.putfield 164, 3, 12, 64, 4, 0, 1023),
  (.return_, 1, 0, 0, 0, 0, 0)]
theorem qX12_init_0 : jchk 13 0 kX12_init_0 = true := by decide +kernel
def kX11_within_0 : List JI := [(.iload_n 0, 1, 0, 0, 0, 0, 0),
  (.ifCond .lt 12, 3, 13, 0, 0, 0, 0),
  (.iload_n 0, 1, 0, 0, 0, 0, 0),
  (.iload_n 1, 1, 1, 0, 0, 0, 0),
  (.if_icmp .ge 7, 3, 13, 0, 0, 0, 0),
  (.iconst 1, 1, 0, 1, 0, 0, 0),
  (.goto 4, 3, 14, 0, 0, 0, 0)]
theorem qX11_within_0 : jchk 14 0 kX11_within_0 = true := by decide +kernel
def kX11_within_13 : List JI := [(.iconst 0, 1, 0, 0, 0, 0, 0)]
theorem qX11_within_13 : jchk 14 13 kX11_within_13 = true := by decide +kernel
def kX11_within_14 : List JI := [(.ireturn, 1, 0, 0, 1, 0, 0)]
theorem qX11_within_14 : jchk 14 14 kX11_within_14 = true := by decide +kernel
def kX11_outside_0 : List JI := [(.iload_n 0, 1, 0, 0, 0, 0, 0),
  (.iload_n 1, 1, 1, 0, 0, 0, 0),
  (.if_icmp .ge 8, 3, 10, 0, 0, 0, 0),
  (.bipush (-4), 2, 0, -4, 0, 0, 0),
  (.goto 14, 3, 21, 0, 0, 0, 0)]
theorem qX11_outside_0 : jchk 15 0 kX11_outside_0 = true := by decide +kernel
def kX11_outside_10 : List JI := [(.iload_n 0, 1, 0, 0, 0, 0, 0),
  (.iload_n 2, 1, 2, 0, 0, 0, 0),
  (.if_icmp .le 8, 3, 20, 0, 0, 0, 0),
  (.bipush (-6), 2, 0, -6, 0, 0, 0),
  (.goto 4, 3, 21, 0, 0, 0, 0)]
theorem qX11_outside_10 : jchk 15 10 kX11_outside_10 = true := by decide +kernel
def kX11_outside_20 : List JI := [(.iconst 0, 1, 0, 0, 0, 0, 0)]
theorem qX11_outside_20 : jchk 15 20 kX11_outside_20 = true := by decide +kernel
def kX11_outside_21 : List JI := [(.ireturn, 1, 0, 0, 0, 0, 0)]
theorem qX11_outside_21 : jchk 15 21 kX11_outside_21 = true := by decide +kernel
def kX11_refused_0 : List JI := [(.aload_n 0, 1, 0, 0, 0, 0, 0),
  (.getfield 7, 3, 11, 1, 4, 0, 473),
  (.iload_n 1, 1, 1, 0, 0, 0, 0),
  (.ineg, 1, 0, 0, 0, 0, 0),
  (.dup2, 1, 0, 0, 0, 0, 0),
  (.iaload, 1, 0, 0, 0, 0, 0),
  (.iconst 1, 1, 0, 1, 0, 0, 0),
  (.iadd, 1, 0, 0, 0, 0, 0),
  (.iastore, 1, 0, 0, 0, 0, 0),
  (.iload_n 1, 1, 1, 0, 0, 0, 0),
  (.ireturn, 1, 0, 0, 0, 0, 0)]
theorem qX11_refused_0 : jchk 16 0 kX11_refused_0 = true := by decide +kernel
def kX7_forget_0 : List JI := [(.aload_n 0, 1, 0, 0, 0, 0, 0),
  (.iconst 0, 1, 0, 0, 0, 0, 0),
  (.putfield 40, 3, 7, 9, 3, 0, 444),
  (.aload_n 0, 1, 0, 0, 0, 0, 0),
  (.iconst 0, 1, 0, 0, 0, 0, 0),
  (.putfield 44, 3, 7, 10, 3, 0, 445),
  (.aload_n 0, 1, 0, 0, 0, 0, 0),
  (.iconst 0, 1, 0, 0, 0, 0, 0),
  (.putfield 47, 3, 7, 11, 3, 0, 446),
  (.return_, 1, 0, 0, 0, 0, 0)]
theorem qX7_forget_0 : jchk 17 0 kX7_forget_0 = true := by decide +kernel
def kX11_hands_0 : List JI := [(.iload_n 1, 1, 1, 0, 0, 0, 0),
  (.iconst 4, 1, 0, 4, 0, 0, 0),
  (.invokestatic 85, 3, 14, 2, 0, 11, 513),
  (.ifCond .ne 7, 3, 12, 0, 0, 0, 0),
  (.iconst (-1), 1, 0, -1, 0, 0, 0),
  (.goto 11, 3, 20, 0, 0, 0, 0)]
theorem qX11_hands_0 : jchk 18 0 kX11_hands_0 = true := by decide +kernel
def kX11_hands_12 : List JI := [(.iload_n 2, 1, 2, 0, 0, 0, 0),
  (.iconst 0, 1, 0, 0, 0, 0, 0),
  (.sipush 400, 3, 0, 400, 0, 0, 0),
  (.invokestatic 89, 3, 15, 3, 0, 11, 516)]
theorem qX11_hands_12 : jchk 18 12 kX11_hands_12 = true := by decide +kernel
def kX11_hands_20 : List JI := [(.istore_n 3, 1, 3, 0, 0, 0, 0),
  (.iload_n 3, 1, 3, 0, 0, 0, 0),
  (.ifCond .eq 9, 3, 31, 0, 0, 0, 0),
  (.aload_n 0, 1, 0, 0, 0, 0, 0),
  (.iload_n 3, 1, 3, 0, 0, 0, 0),
  (.invokevirtual 93, 3, 16, 1, 0, 11, 519),
  (.ireturn, 1, 0, 0, 0, 0, 0)]
theorem qX11_hands_20 : jchk 18 20 kX11_hands_20 = true := by decide +kernel
def kX11_hands_31 : List JI := [(.aload_n 0, 1, 0, 0, 0, 0, 0),
  (.getfield 81, 3, 11, 11, 4, 0, 483),
  (.invokevirtual 97, 3, 17, 0, 0, 7, 523),
  (.aload_n 0, 1, 0, 0, 0, 0, 0),
  (.getfield 16, 3, 11, 2, 4, 0, 474),
  (.getfield 100, 3, 1, 0, 4, 0, 83),
  (.iload_n 1, 1, 1, 0, 0, 0, 0),
  (.iaload, 1, 0, 0, 0, 0, 0),
  (.istore 4, 2, 4, 0, 0, 0, 0),
  (.aload_n 0, 1, 0, 0, 0, 0, 0),
  (.getfield 16, 3, 11, 2, 4, 0, 474),
  (.getfield 100, 3, 1, 0, 4, 0, 83),
  (.iload_n 1, 1, 1, 0, 0, 0, 0),
  (.iload_n 2, 1, 2, 0, 0, 0, 0),
  (.iastore, 1, 0, 0, 0, 0, 0),
  (.iload 4, 2, 4, 0, 0, 0, 0),
  (.ireturn, 1, 0, 0, 0, 0, 0)]
theorem qX11_hands_31 : jchk 18 31 kX11_hands_31 = true := by decide +kernel
def kX12_in_0 : List JI := [(.iload_n 0, 1, 0, 0, 0, 0, 0),
  (.iload_n 1, 1, 1, 0, 0, 0, 0),
  (.if_icmp .lt 12, 3, 14, 0, 0, 0, 0),
  (.iload_n 0, 1, 0, 0, 0, 0, 0),
  (.iload_n 2, 1, 2, 0, 0, 0, 0),
  (.if_icmp .gt 7, 3, 14, 0, 0, 0, 0),
  (.iconst 1, 1, 0, 1, 0, 0, 0),
  (.goto 4, 3, 15, 0, 0, 0, 0)]
theorem qX12_in_0 : jchk 19 0 kX12_in_0 = true := by decide +kernel
def kX12_in_14 : List JI := [(.iconst 0, 1, 0, 0, 0, 0, 0)]
theorem qX12_in_14 : jchk 19 14 kX12_in_14 = true := by decide +kernel
def kX12_in_15 : List JI := [(.ireturn, 1, 0, 0, 1, 0, 0)]
theorem qX12_in_15 : jchk 19 15 kX12_in_15 = true := by decide +kernel
def kX12_refuse_0 : List JI := [(.aload_n 0, 1, 0, 0, 0, 0, 0),
  (.getfield 137, 3, 12, 50, 4, 0, 1009),
  (.iload_n 1, 1, 1, 0, 0, 0, 0),
  (.ineg, 1, 0, 0, 0, 0, 0),
  (.dup2, 1, 0, 0, 0, 0, 0),
  (.iaload, 1, 0, 0, 0, 0, 0),
  (.iconst 1, 1, 0, 1, 0, 0, 0),
  (.iadd, 1, 0, 0, 0, 0, 0),
  (.iastore, 1, 0, 0, 0, 0, 0),
  (.iload_n 1, 1, 1, 0, 0, 0, 0),
  (.ireturn, 1, 0, 0, 0, 0, 0)]
theorem qX12_refuse_0 : jchk 20 0 kX12_refuse_0 = true := by decide +kernel
def kX12_hands_0 : List JI := [(.iload_n 1, 1, 1, 0, 0, 0, 0),
  (.iconst 0, 1, 0, 0, 0, 0, 0),
  (.iconst 3, 1, 0, 3, 0, 0, 0),
  (.invokestatic 168, 3, 19, 3, 0, 12, 1160),
  (.ifCond .ne 9, 3, 15, 0, 0, 0, 0),
  (.aload_n 0, 1, 0, 0, 0, 0, 0),
  (.iconst (-1), 1, 0, -1, 0, 0, 0),
  (.invokevirtual 172, 3, 20, 1, 0, 12, 1163),
  (.ireturn, 1, 0, 0, 0, 0, 0)]
theorem qX12_hands_0 : jchk 21 0 kX12_hands_0 = true := by decide +kernel
def kX12_hands_15 : List JI := [(.iload_n 2, 1, 2, 0, 0, 0, 0),
  (.ifCond .ge 10, 3, 26, 0, 0, 0, 0),
  (.aload_n 0, 1, 0, 0, 0, 0, 0),
  (.bipush (-4), 2, 0, -4, 0, 0, 0),
  (.invokevirtual 172, 3, 20, 1, 0, 12, 1163),
  (.ireturn, 1, 0, 0, 0, 0, 0)]
theorem qX12_hands_15 : jchk 21 15 kX12_hands_15 = true := by decide +kernel
def kX12_hands_26 : List JI := [(.iload_n 2, 1, 2, 0, 0, 0, 0),
  (.sipush 400, 3, 0, 400, 0, 0, 0),
  (.if_icmp .le 10, 3, 40, 0, 0, 0, 0),
  (.aload_n 0, 1, 0, 0, 0, 0, 0),
  (.bipush (-6), 2, 0, -6, 0, 0, 0),
  (.invokevirtual 172, 3, 20, 1, 0, 12, 1163),
  (.ireturn, 1, 0, 0, 0, 0, 0)]
theorem qX12_hands_26 : jchk 21 26 kX12_hands_26 = true := by decide +kernel
def kX12_hands_40 : List JI := [(.aload_n 0, 1, 0, 0, 0, 0, 0),
  (.getfield 7, 3, 12, 1, 4, 0, 960),
  (.iload_n 1, 1, 1, 0, 0, 0, 0),
  (.iaload, 1, 0, 0, 0, 0, 0),
  (.istore_n 3, 1, 3, 0, 0, 0, 0),
  (.aload_n 0, 1, 0, 0, 0, 0, 0),
  (.getfield 7, 3, 12, 1, 4, 0, 960),
  (.iload_n 1, 1, 1, 0, 0, 0, 0),
  (.iload_n 2, 1, 2, 0, 0, 0, 0),
  (.iastore, 1, 0, 0, 0, 0, 0),
  (.iload_n 3, 1, 3, 0, 0, 0, 0),
  (.ireturn, 1, 0, 0, 0, 0, 0)]
theorem qX12_hands_40 : jchk 21 40 kX12_hands_40 = true := by decide +kernel
def kX11_bring_0 : List JI := [(.iload_n 1, 1, 1, 0, 0, 0, 0),
  (.bipush 6, 2, 0, 6, 0, 0, 0),
  (.invokestatic 85, 3, 14, 2, 0, 11, 513),
  (.ifCond .ne 9, 3, 15, 0, 0, 0, 0),
  (.aload_n 0, 1, 0, 0, 0, 0, 0),
  (.iconst (-1), 1, 0, -1, 0, 0, 0),
  (.invokevirtual 93, 3, 16, 1, 0, 11, 519),
  (.ireturn, 1, 0, 0, 0, 0, 0)]
theorem qX11_bring_0 : jchk 22 0 kX11_bring_0 = true := by decide +kernel
def kX11_bring_15 : List JI := [(.iload_n 2, 1, 2, 0, 0, 0, 0),
  (.iconst 0, 1, 0, 0, 0, 0, 0),
  (.ldc 103, 2, 0, 1000000, 0, 0, 531),
  (.aload_n 0, 1, 0, 0, 0, 0, 0),
  (.getfield 37, 3, 11, 5, 4, 0, 477),
  (.getfield 104, 3, 10, 0, 4, 0, 228),
  (.iload_n 1, 1, 1, 0, 0, 0, 0),
  (.iaload, 1, 0, 0, 0, 0, 0),
  (.isub, 1, 0, 0, 0, 0, 0),
  (.invokestatic 89, 3, 15, 3, 0, 11, 516),
  (.istore_n 3, 1, 3, 0, 0, 0, 0),
  (.iload_n 3, 1, 3, 0, 0, 0, 0),
  (.ifCond .eq 9, 3, 43, 0, 0, 0, 0),
  (.aload_n 0, 1, 0, 0, 0, 0, 0),
  (.iload_n 3, 1, 3, 0, 0, 0, 0),
  (.invokevirtual 93, 3, 16, 1, 0, 11, 519),
  (.ireturn, 1, 0, 0, 0, 0, 0)]
theorem qX11_bring_15 : jchk 22 15 kX11_bring_15 = true := by decide +kernel
def kX11_bring_43 : List JI := [(.aload_n 0, 1, 0, 0, 0, 0, 0),
  (.getfield 81, 3, 11, 11, 4, 0, 483),
  (.invokevirtual 97, 3, 17, 0, 0, 7, 523),
  (.aload_n 0, 1, 0, 0, 0, 0, 0),
  (.getfield 37, 3, 11, 5, 4, 0, 477),
  (.getfield 104, 3, 10, 0, 4, 0, 228),
  (.iload_n 1, 1, 1, 0, 0, 0, 0),
  (.dup2, 1, 0, 0, 0, 0, 0),
  (.iaload, 1, 0, 0, 0, 0, 0),
  (.iload_n 2, 1, 2, 0, 0, 0, 0),
  (.iadd, 1, 0, 0, 0, 0, 0),
  (.iastore, 1, 0, 0, 0, 0, 0),
  (.aload_n 0, 1, 0, 0, 0, 0, 0),
  (.getfield 37, 3, 11, 5, 4, 0, 477),
  (.getfield 104, 3, 10, 0, 4, 0, 228),
  (.iload_n 1, 1, 1, 0, 0, 0, 0),
  (.iaload, 1, 0, 0, 0, 0, 0),
  (.ireturn, 1, 0, 0, 0, 0, 0)]
theorem qX11_bring_43 : jchk 22 43 kX11_bring_43 = true := by decide +kernel
def kX12_bring_0 : List JI := [(.iload_n 1, 1, 1, 0, 0, 0, 0),
  (.iconst 0, 1, 0, 0, 0, 0, 0),
  (.iconst 5, 1, 0, 5, 0, 0, 0),
  (.invokestatic 168, 3, 19, 3, 0, 12, 1160),
  (.ifCond .ne 9, 3, 15, 0, 0, 0, 0),
  (.aload_n 0, 1, 0, 0, 0, 0, 0),
  (.iconst (-1), 1, 0, -1, 0, 0, 0),
  (.invokevirtual 172, 3, 20, 1, 0, 12, 1163),
  (.ireturn, 1, 0, 0, 0, 0, 0)]
theorem qX12_bring_0 : jchk 23 0 kX12_bring_0 = true := by decide +kernel
def kX12_bring_15 : List JI := [(.iload_n 2, 1, 2, 0, 0, 0, 0),
  (.ifCond .ge 10, 3, 26, 0, 0, 0, 0),
  (.aload_n 0, 1, 0, 0, 0, 0, 0),
  (.bipush (-4), 2, 0, -4, 0, 0, 0),
  (.invokevirtual 172, 3, 20, 1, 0, 12, 1163),
  (.ireturn, 1, 0, 0, 0, 0, 0)]
theorem qX12_bring_15 : jchk 23 15 kX12_bring_15 = true := by decide +kernel
def kX12_bring_26 : List JI := [(.iload_n 2, 1, 2, 0, 0, 0, 0),
  (.ldc 176, 2, 0, 1000000, 0, 0, 1171),
  (.aload_n 0, 1, 0, 0, 0, 0, 0),
  (.getfield 22, 3, 12, 5, 4, 0, 964),
  (.iload_n 1, 1, 1, 0, 0, 0, 0),
  (.iaload, 1, 0, 0, 0, 0, 0),
  (.isub, 1, 0, 0, 0, 0, 0),
  (.if_icmp .le 10, 3, 46, 0, 0, 0, 0),
  (.aload_n 0, 1, 0, 0, 0, 0, 0),
  (.bipush (-6), 2, 0, -6, 0, 0, 0),
  (.invokevirtual 172, 3, 20, 1, 0, 12, 1163),
  (.ireturn, 1, 0, 0, 0, 0, 0)]
theorem qX12_bring_26 : jchk 23 26 kX12_bring_26 = true := by decide +kernel
def kX12_bring_46 : List JI := [(.aload_n 0, 1, 0, 0, 0, 0, 0),
  (.getfield 22, 3, 12, 5, 4, 0, 964),
  (.iload_n 1, 1, 1, 0, 0, 0, 0),
  (.dup2, 1, 0, 0, 0, 0, 0),
  (.iaload, 1, 0, 0, 0, 0, 0),
  (.iload_n 2, 1, 2, 0, 0, 0, 0),
  (.iadd, 1, 0, 0, 0, 0, 0),
  (.iastore, 1, 0, 0, 0, 0, 0),
  (.aload_n 0, 1, 0, 0, 0, 0, 0),
  (.getfield 22, 3, 12, 5, 4, 0, 964),
  (.iload_n 1, 1, 1, 0, 0, 0, 0),
  (.iaload, 1, 0, 0, 0, 0, 0),
  (.ireturn, 1, 0, 0, 0, 0, 0)]
theorem qX12_bring_46 : jchk 23 46 kX12_bring_46 = true := by decide +kernel
def kX11_row_0 : List JI := [(.iload_n 1, 1, 1, 0, 0, 0, 0),
  (.iconst 4, 1, 0, 4, 0, 0, 0),
  (.invokestatic 85, 3, 14, 2, 0, 11, 513),
  (.ifCond .ne 7, 3, 12, 0, 0, 0, 0),
  (.iconst (-1), 1, 0, -1, 0, 0, 0),
  (.goto 10, 3, 19, 0, 0, 0, 0)]
theorem qX11_row_0 : jchk 24 0 kX11_row_0 = true := by decide +kernel
def kX11_row_12 : List JI := [(.iload_n 2, 1, 2, 0, 0, 0, 0),
  (.iconst 0, 1, 0, 0, 0, 0, 0),
  (.bipush 30, 2, 0, 30, 0, 0, 0),
  (.invokestatic 89, 3, 15, 3, 0, 11, 516)]
theorem qX11_row_12 : jchk 24 12 kX11_row_12 = true := by decide +kernel
def kX11_row_19 : List JI := [(.istore_n 3, 1, 3, 0, 0, 0, 0),
  (.iload_n 3, 1, 3, 0, 0, 0, 0),
  (.ifCond .eq 9, 3, 30, 0, 0, 0, 0),
  (.aload_n 0, 1, 0, 0, 0, 0, 0),
  (.iload_n 3, 1, 3, 0, 0, 0, 0),
  (.invokevirtual 93, 3, 16, 1, 0, 11, 519),
  (.ireturn, 1, 0, 0, 0, 0, 0)]
theorem qX11_row_19 : jchk 24 19 kX11_row_19 = true := by decide +kernel
def kX11_row_30 : List JI := [(.aload_n 0, 1, 0, 0, 0, 0, 0),
  (.getfield 81, 3, 11, 11, 4, 0, 483),
  (.invokevirtual 97, 3, 17, 0, 0, 7, 523),
  (.aload_n 0, 1, 0, 0, 0, 0, 0),
  (.getfield 16, 3, 11, 2, 4, 0, 474),
  (.getfield 107, 3, 1, 2, 4, 0, 87),
  (.iload_n 1, 1, 1, 0, 0, 0, 0),
  (.aaload, 1, 0, 0, 0, 0, 0),
  (.iconst 0, 1, 0, 0, 0, 0, 0),
  (.invokestatic 111, 3, 0, 2, 0, 0, 536),
  (.aload_n 0, 1, 0, 0, 0, 0, 0),
  (.getfield 16, 3, 11, 2, 4, 0, 474),
  (.getfield 117, 3, 1, 3, 4, 0, 89),
  (.iload_n 1, 1, 1, 0, 0, 0, 0),
  (.iload_n 2, 1, 2, 0, 0, 0, 0),
  (.iastore, 1, 0, 0, 0, 0, 0),
  (.iload_n 2, 1, 2, 0, 0, 0, 0),
  (.ireturn, 1, 0, 0, 0, 0, 0)]
theorem qX11_row_30 : jchk 24 30 kX11_row_30 = true := by decide +kernel
def kX12_row_0 : List JI := [(.iload_n 1, 1, 1, 0, 0, 0, 0),
  (.iconst 0, 1, 0, 0, 0, 0, 0),
  (.iconst 3, 1, 0, 3, 0, 0, 0),
  (.invokestatic 168, 3, 19, 3, 0, 12, 1160),
  (.ifCond .ne 9, 3, 15, 0, 0, 0, 0),
  (.aload_n 0, 1, 0, 0, 0, 0, 0),
  (.iconst (-1), 1, 0, -1, 0, 0, 0),
  (.invokevirtual 172, 3, 20, 1, 0, 12, 1163),
  (.ireturn, 1, 0, 0, 0, 0, 0)]
theorem qX12_row_0 : jchk 25 0 kX12_row_0 = true := by decide +kernel
def kX12_row_15 : List JI := [(.iload_n 2, 1, 2, 0, 0, 0, 0),
  (.ifCond .ge 10, 3, 26, 0, 0, 0, 0),
  (.aload_n 0, 1, 0, 0, 0, 0, 0),
  (.bipush (-4), 2, 0, -4, 0, 0, 0),
  (.invokevirtual 172, 3, 20, 1, 0, 12, 1163),
  (.ireturn, 1, 0, 0, 0, 0, 0)]
theorem qX12_row_15 : jchk 25 15 kX12_row_15 = true := by decide +kernel
def kX12_row_26 : List JI := [(.iload_n 2, 1, 2, 0, 0, 0, 0),
  (.bipush 30, 2, 0, 30, 0, 0, 0),
  (.if_icmp .le 10, 3, 39, 0, 0, 0, 0),
  (.aload_n 0, 1, 0, 0, 0, 0, 0),
  (.bipush (-6), 2, 0, -6, 0, 0, 0),
  (.invokevirtual 172, 3, 20, 1, 0, 12, 1163),
  (.ireturn, 1, 0, 0, 0, 0, 0)]
theorem qX12_row_26 : jchk 25 26 kX12_row_26 = true := by decide +kernel
def kX12_row_39 : List JI := [(.aload_n 0, 1, 0, 0, 0, 0, 0),
  (.getfield 16, 3, 12, 3, 4, 0, 962),
  (.iload_n 1, 1, 1, 0, 0, 0, 0),
  (.iload_n 2, 1, 2, 0, 0, 0, 0),
  (.iastore, 1, 0, 0, 0, 0, 0),
  (.iconst 0, 1, 0, 0, 0, 0, 0),
  (.istore_n 3, 1, 3, 0, 0, 0, 0)]
theorem qX12_row_39 : jchk 25 39 kX12_row_39 = true := by decide +kernel
def kX12_row_48 : List JI := [(.iload_n 3, 1, 3, 0, 0, 0, 0),
  (.iload_n 2, 1, 2, 0, 0, 0, 0),
  (.if_icmp .ge 21, 3, 71, 0, 0, 0, 0),
  (.aload_n 0, 1, 0, 0, 0, 0, 0),
  (.getfield 19, 3, 12, 4, 4, 0, 963),
  (.bipush 30, 2, 0, 30, 0, 0, 0),
  (.iload_n 1, 1, 1, 0, 0, 0, 0),
  (.imul, 1, 0, 0, 0, 0, 0),
  (.iload_n 3, 1, 3, 0, 0, 0, 0),
  (.iadd, 1, 0, 0, 0, 0, 0),
  (.iconst 0, 1, 0, 0, 0, 0, 0),
  (.iastore, 1, 0, 0, 0, 0, 0),
  (.iinc 3 1, 3, 3, 1, 0, 0, 0),
  (.goto (-20), 3, 48, 0, 0, 0, 0)]
theorem qX12_row_48 : jchk 25 48 kX12_row_48 = true := by decide +kernel
def kX12_row_71 : List JI := [(.iload_n 2, 1, 2, 0, 0, 0, 0),
  (.ireturn, 1, 0, 0, 0, 0, 0)]
theorem qX12_row_71 : jchk 25 71 kX12_row_71 = true := by decide +kernel
def kX1_isMissing_0 : List JI := [(.aload_n 0, 1, 0, 0, 0, 0, 0),
  (.getfield 23, 3, 1, 3, 4, 0, 88),
  (.iload_n 1, 1, 1, 0, 0, 0, 0),
  (.iaload, 1, 0, 0, 0, 0, 0),
  (.iconst (-1), 1, 0, -1, 0, 0, 0),
  (.if_icmp .ne 7, 3, 14, 0, 0, 0, 0),
  (.iconst 1, 1, 0, 1, 0, 0, 0),
  (.goto 4, 3, 15, 0, 0, 0, 0)]
theorem qX1_isMissing_0 : jchk 26 0 kX1_isMissing_0 = true := by decide +kernel
def kX1_isMissing_14 : List JI := [(.iconst 0, 1, 0, 0, 0, 0, 0)]
theorem qX1_isMissing_14 : jchk 26 14 kX1_isMissing_14 = true := by decide +kernel
def kX1_isMissing_15 : List JI := [(.ireturn, 1, 0, 0, 1, 0, 0)]
theorem qX1_isMissing_15 : jchk 26 15 kX1_isMissing_15 = true := by decide +kernel
def kX11_lose_0 : List JI := [(.iload_n 1, 1, 1, 0, 0, 0, 0),
  (.iconst 4, 1, 0, 4, 0, 0, 0),
  (.invokestatic 85, 3, 14, 2, 0, 11, 513),
  (.ifCond .ne 9, 3, 14, 0, 0, 0, 0),
  (.aload_n 0, 1, 0, 0, 0, 0, 0),
  (.iconst (-1), 1, 0, -1, 0, 0, 0),
  (.invokevirtual 93, 3, 16, 1, 0, 11, 519),
  (.ireturn, 1, 0, 0, 0, 0, 0)]
theorem qX11_lose_0 : jchk 27 0 kX11_lose_0 = true := by decide +kernel
def kX11_lose_14 : List JI := [(.aload_n 0, 1, 0, 0, 0, 0, 0),
  (.getfield 16, 3, 11, 2, 4, 0, 474),
  (.iload_n 1, 1, 1, 0, 0, 0, 0),
  (.invokevirtual 120, 3, 26, 1, 0, 1, 541),
  (.ifCond .eq 5, 3, 27, 0, 0, 0, 0),
  (.iconst 0, 1, 0, 0, 0, 0, 0),
  (.ireturn, 1, 0, 0, 0, 0, 0)]
theorem qX11_lose_14 : jchk 27 14 kX11_lose_14 = true := by decide +kernel
def kX11_lose_27 : List JI := [(.aload_n 0, 1, 0, 0, 0, 0, 0),
  (.getfield 81, 3, 11, 11, 4, 0, 483),
  (.invokevirtual 97, 3, 17, 0, 0, 7, 523),
  (.aload_n 0, 1, 0, 0, 0, 0, 0),
  (.getfield 16, 3, 11, 2, 4, 0, 474),
  (.getfield 117, 3, 1, 3, 4, 0, 89),
  (.iload_n 1, 1, 1, 0, 0, 0, 0),
  (.iconst (-1), 1, 0, -1, 0, 0, 0),
  (.iastore, 1, 0, 0, 0, 0, 0),
  (.iconst 1, 1, 0, 1, 0, 0, 0),
  (.ireturn, 1, 0, 0, 0, 0, 0)]
theorem qX11_lose_27 : jchk 27 27 kX11_lose_27 = true := by decide +kernel
def kX12_lose_0 : List JI := [(.iload_n 1, 1, 1, 0, 0, 0, 0),
  (.iconst 0, 1, 0, 0, 0, 0, 0),
  (.iconst 3, 1, 0, 3, 0, 0, 0),
  (.invokestatic 168, 3, 19, 3, 0, 12, 1160),
  (.ifCond .ne 9, 3, 15, 0, 0, 0, 0),
  (.aload_n 0, 1, 0, 0, 0, 0, 0),
  (.iconst (-1), 1, 0, -1, 0, 0, 0),
  (.invokevirtual 172, 3, 20, 1, 0, 12, 1163),
  (.ireturn, 1, 0, 0, 0, 0, 0)]
theorem qX12_lose_0 : jchk 28 0 kX12_lose_0 = true := by decide +kernel
def kX12_lose_15 : List JI := [(.aload_n 0, 1, 0, 0, 0, 0, 0),
  (.getfield 16, 3, 12, 3, 4, 0, 962),
  (.iload_n 1, 1, 1, 0, 0, 0, 0),
  (.iaload, 1, 0, 0, 0, 0, 0),
  (.istore_n 2, 1, 2, 0, 0, 0, 0),
  (.aload_n 0, 1, 0, 0, 0, 0, 0),
  (.getfield 16, 3, 12, 3, 4, 0, 962),
  (.iload_n 1, 1, 1, 0, 0, 0, 0),
  (.iconst (-1), 1, 0, -1, 0, 0, 0),
  (.iastore, 1, 0, 0, 0, 0, 0),
  (.iload_n 2, 1, 2, 0, 0, 0, 0),
  (.ifCond .ge 7, 3, 37, 0, 0, 0, 0),
  (.iconst 0, 1, 0, 0, 0, 0, 0),
  (.goto 4, 3, 38, 0, 0, 0, 0)]
theorem qX12_lose_15 : jchk 28 15 kX12_lose_15 = true := by decide +kernel
def kX12_lose_37 : List JI := [(.iconst 1, 1, 0, 1, 0, 0, 0)]
theorem qX12_lose_37 : jchk 28 37 kX12_lose_37 = true := by decide +kernel
def kX12_lose_38 : List JI := [(.ireturn, 1, 0, 0, 0, 0, 0)]
theorem qX12_lose_38 : jchk 28 38 kX12_lose_38 = true := by decide +kernel
def kX11_put_0 : List JI := [(.iload_n 1, 1, 1, 0, 0, 0, 0),
  (.iconst 4, 1, 0, 4, 0, 0, 0),
  (.invokestatic 85, 3, 14, 2, 0, 11, 513),
  (.ifCond .ne 7, 3, 12, 0, 0, 0, 0),
  (.iconst (-1), 1, 0, -1, 0, 0, 0),
  (.goto 48, 3, 57, 0, 0, 0, 0)]
theorem qX11_put_0 : jchk 29 0 kX11_put_0 = true := by decide +kernel
def kX11_put_12 : List JI := [(.aload_n 0, 1, 0, 0, 0, 0, 0),
  (.getfield 16, 3, 11, 2, 4, 0, 474),
  (.iload_n 1, 1, 1, 0, 0, 0, 0),
  (.invokevirtual 120, 3, 26, 1, 0, 1, 541),
  (.ifCond .eq 8, 3, 28, 0, 0, 0, 0),
  (.bipush (-5), 2, 0, -5, 0, 0, 0),
  (.goto 32, 3, 57, 0, 0, 0, 0)]
theorem qX11_put_12 : jchk 29 12 kX11_put_12 = true := by decide +kernel
def kX11_put_28 : List JI := [(.iload_n 2, 1, 2, 0, 0, 0, 0),
  (.aload_n 0, 1, 0, 0, 0, 0, 0),
  (.getfield 16, 3, 11, 2, 4, 0, 474),
  (.getfield 117, 3, 1, 3, 4, 0, 89),
  (.iload_n 1, 1, 1, 0, 0, 0, 0),
  (.iaload, 1, 0, 0, 0, 0, 0),
  (.invokestatic 85, 3, 14, 2, 0, 11, 513),
  (.ifCond .ne 8, 3, 49, 0, 0, 0, 0),
  (.bipush (-7), 2, 0, -7, 0, 0, 0),
  (.goto 11, 3, 57, 0, 0, 0, 0)]
theorem qX11_put_28 : jchk 29 28 kX11_put_28 = true := by decide +kernel
def kX11_put_49 : List JI := [(.iload_n 3, 1, 3, 0, 0, 0, 0),
  (.iconst 0, 1, 0, 0, 0, 0, 0),
  (.sipush 400, 3, 0, 400, 0, 0, 0),
  (.invokestatic 89, 3, 15, 3, 0, 11, 516)]
theorem qX11_put_49 : jchk 29 49 kX11_put_49 = true := by decide +kernel
def kX11_put_57 : List JI := [(.istore 4, 2, 4, 0, 0, 0, 0),
  (.iload 4, 2, 4, 0, 0, 0, 0),
  (.ifCond .eq 10, 3, 71, 0, 0, 0, 0),
  (.aload_n 0, 1, 0, 0, 0, 0, 0),
  (.iload 4, 2, 4, 0, 0, 0, 0),
  (.invokevirtual 93, 3, 16, 1, 0, 11, 519),
  (.ireturn, 1, 0, 0, 0, 0, 0)]
theorem qX11_put_57 : jchk 29 57 kX11_put_57 = true := by decide +kernel
def kX11_put_71 : List JI := [(.aload_n 0, 1, 0, 0, 0, 0, 0),
  (.getfield 81, 3, 11, 11, 4, 0, 483),
  (.invokevirtual 97, 3, 17, 0, 0, 7, 523),
  (.aload_n 0, 1, 0, 0, 0, 0, 0),
  (.getfield 16, 3, 11, 2, 4, 0, 474),
  (.getfield 107, 3, 1, 2, 4, 0, 87),
  (.iload_n 1, 1, 1, 0, 0, 0, 0),
  (.aaload, 1, 0, 0, 0, 0, 0),
  (.iload_n 2, 1, 2, 0, 0, 0, 0),
  (.iaload, 1, 0, 0, 0, 0, 0),
  (.istore 5, 2, 5, 0, 0, 0, 0),
  (.aload_n 0, 1, 0, 0, 0, 0, 0),
  (.getfield 16, 3, 11, 2, 4, 0, 474),
  (.getfield 107, 3, 1, 2, 4, 0, 87),
  (.iload_n 1, 1, 1, 0, 0, 0, 0),
  (.aaload, 1, 0, 0, 0, 0, 0),
  (.iload_n 2, 1, 2, 0, 0, 0, 0),
  (.iload_n 3, 1, 3, 0, 0, 0, 0),
  (.iastore, 1, 0, 0, 0, 0, 0),
  (.iload 5, 2, 5, 0, 0, 0, 0),
  (.ireturn, 1, 0, 0, 0, 0, 0)]
theorem qX11_put_71 : jchk 29 71 kX11_put_71 = true := by decide +kernel
def kX12_put_0 : List JI := [(.iload_n 1, 1, 1, 0, 0, 0, 0),
  (.iconst 0, 1, 0, 0, 0, 0, 0),
  (.iconst 3, 1, 0, 3, 0, 0, 0),
  (.invokestatic 168, 3, 19, 3, 0, 12, 1160),
  (.ifCond .ne 9, 3, 15, 0, 0, 0, 0),
  (.aload_n 0, 1, 0, 0, 0, 0, 0),
  (.iconst (-1), 1, 0, -1, 0, 0, 0),
  (.invokevirtual 172, 3, 20, 1, 0, 12, 1163),
  (.ireturn, 1, 0, 0, 0, 0, 0)]
theorem qX12_put_0 : jchk 30 0 kX12_put_0 = true := by decide +kernel
def kX12_put_15 : List JI := [(.aload_n 0, 1, 0, 0, 0, 0, 0),
  (.getfield 16, 3, 12, 3, 4, 0, 962),
  (.iload_n 1, 1, 1, 0, 0, 0, 0),
  (.iaload, 1, 0, 0, 0, 0, 0),
  (.ifCond .ge 10, 3, 31, 0, 0, 0, 0),
  (.aload_n 0, 1, 0, 0, 0, 0, 0),
  (.bipush (-5), 2, 0, -5, 0, 0, 0),
  (.invokevirtual 172, 3, 20, 1, 0, 12, 1163),
  (.ireturn, 1, 0, 0, 0, 0, 0)]
theorem qX12_put_15 : jchk 30 15 kX12_put_15 = true := by decide +kernel
def kX12_put_31 : List JI := [(.iload_n 2, 1, 2, 0, 0, 0, 0),
  (.iconst 0, 1, 0, 0, 0, 0, 0),
  (.aload_n 0, 1, 0, 0, 0, 0, 0),
  (.getfield 16, 3, 12, 3, 4, 0, 962),
  (.iload_n 1, 1, 1, 0, 0, 0, 0),
  (.iaload, 1, 0, 0, 0, 0, 0),
  (.iconst 1, 1, 0, 1, 0, 0, 0),
  (.isub, 1, 0, 0, 0, 0, 0),
  (.invokestatic 168, 3, 19, 3, 0, 12, 1160),
  (.ifCond .ne 10, 3, 54, 0, 0, 0, 0),
  (.aload_n 0, 1, 0, 0, 0, 0, 0),
  (.bipush (-7), 2, 0, -7, 0, 0, 0),
  (.invokevirtual 172, 3, 20, 1, 0, 12, 1163),
  (.ireturn, 1, 0, 0, 0, 0, 0)]
theorem qX12_put_31 : jchk 30 31 kX12_put_31 = true := by decide +kernel
def kX12_put_54 : List JI := [(.iload_n 3, 1, 3, 0, 0, 0, 0),
  (.ifCond .ge 10, 3, 65, 0, 0, 0, 0),
  (.aload_n 0, 1, 0, 0, 0, 0, 0),
  (.bipush (-4), 2, 0, -4, 0, 0, 0),
  (.invokevirtual 172, 3, 20, 1, 0, 12, 1163),
  (.ireturn, 1, 0, 0, 0, 0, 0)]
theorem qX12_put_54 : jchk 30 54 kX12_put_54 = true := by decide +kernel
def kX12_put_65 : List JI := [(.iload_n 3, 1, 3, 0, 0, 0, 0),
  (.sipush 400, 3, 0, 400, 0, 0, 0),
  (.if_icmp .le 10, 3, 79, 0, 0, 0, 0),
  (.aload_n 0, 1, 0, 0, 0, 0, 0),
  (.bipush (-6), 2, 0, -6, 0, 0, 0),
  (.invokevirtual 172, 3, 20, 1, 0, 12, 1163),
  (.ireturn, 1, 0, 0, 0, 0, 0)]
theorem qX12_put_65 : jchk 30 65 kX12_put_65 = true := by decide +kernel
def kX12_put_79 : List JI := [(.aload_n 0, 1, 0, 0, 0, 0, 0),
  (.getfield 19, 3, 12, 4, 4, 0, 963),
  (.bipush 30, 2, 0, 30, 0, 0, 0),
  (.iload_n 1, 1, 1, 0, 0, 0, 0),
  (.imul, 1, 0, 0, 0, 0, 0),
  (.iload_n 2, 1, 2, 0, 0, 0, 0),
  (.iadd, 1, 0, 0, 0, 0, 0),
  (.iaload, 1, 0, 0, 0, 0, 0),
  (.istore 4, 2, 4, 0, 0, 0, 0),
  (.aload_n 0, 1, 0, 0, 0, 0, 0),
  (.getfield 19, 3, 12, 4, 4, 0, 963),
  (.bipush 30, 2, 0, 30, 0, 0, 0),
  (.iload_n 1, 1, 1, 0, 0, 0, 0),
  (.imul, 1, 0, 0, 0, 0, 0),
  (.iload_n 2, 1, 2, 0, 0, 0, 0),
  (.iadd, 1, 0, 0, 0, 0, 0),
  (.iload_n 3, 1, 3, 0, 0, 0, 0),
  (.iastore, 1, 0, 0, 0, 0, 0),
  (.iload 4, 2, 4, 0, 0, 0, 0),
  (.ireturn, 1, 0, 0, 0, 0, 0)]
theorem qX12_put_79 : jchk 30 79 kX12_put_79 = true := by decide +kernel
def kX1_hasPlaces_0 : List JI := [(.iload_n 3, 1, 3, 0, 0, 0, 0),
  (.ifCond .lt 23, 3, 24, 0, 0, 0, 0),
  (.iload_n 2, 1, 2, 0, 0, 0, 0),
  (.ifCond .lt 19, 3, 24, 0, 0, 0, 0),
  (.iload_n 2, 1, 2, 0, 0, 0, 0),
  (.aload_n 0, 1, 0, 0, 0, 0, 0),
  (.getfield 23, 3, 1, 3, 4, 0, 88),
  (.iload_n 1, 1, 1, 0, 0, 0, 0),
  (.iaload, 1, 0, 0, 0, 0, 0),
  (.iload_n 3, 1, 3, 0, 0, 0, 0),
  (.isub, 1, 0, 0, 0, 0, 0),
  (.if_icmp .gt 7, 3, 24, 0, 0, 0, 0),
  (.iconst 1, 1, 0, 1, 0, 0, 0),
  (.goto 4, 3, 25, 0, 0, 0, 0)]
theorem qX1_hasPlaces_0 : jchk 31 0 kX1_hasPlaces_0 = true := by decide +kernel
def kX1_hasPlaces_24 : List JI := [(.iconst 0, 1, 0, 0, 0, 0, 0)]
theorem qX1_hasPlaces_24 : jchk 31 24 kX1_hasPlaces_24 = true := by decide +kernel
def kX1_hasPlaces_25 : List JI := [(.ireturn, 1, 0, 0, 1, 0, 0)]
theorem qX1_hasPlaces_25 : jchk 31 25 kX1_hasPlaces_25 = true := by decide +kernel
def kX11_copy_0 : List JI := [(.iload_n 1, 1, 1, 0, 0, 0, 0),
  (.iconst 4, 1, 0, 4, 0, 0, 0),
  (.invokestatic 85, 3, 14, 2, 0, 11, 513),
  (.ifCond .eq 11, 3, 16, 0, 0, 0, 0),
  (.iload_n 3, 1, 3, 0, 0, 0, 0),
  (.iconst 4, 1, 0, 4, 0, 0, 0),
  (.invokestatic 85, 3, 14, 2, 0, 11, 513),
  (.ifCond .ne 7, 3, 20, 0, 0, 0, 0)]
theorem qX11_copy_0 : jchk 32 0 kX11_copy_0 = true := by decide +kernel
def kX11_copy_16 : List JI := [(.iconst (-1), 1, 0, -1, 0, 0, 0),
  (.goto 65, 3, 82, 0, 0, 0, 0)]
theorem qX11_copy_16 : jchk 32 16 kX11_copy_16 = true := by decide +kernel
def kX11_copy_20 : List JI := [(.aload_n 0, 1, 0, 0, 0, 0, 0),
  (.getfield 16, 3, 11, 2, 4, 0, 474),
  (.iload_n 1, 1, 1, 0, 0, 0, 0),
  (.invokevirtual 120, 3, 26, 1, 0, 1, 541),
  (.ifCond .ne 14, 3, 42, 0, 0, 0, 0),
  (.aload_n 0, 1, 0, 0, 0, 0, 0),
  (.getfield 16, 3, 11, 2, 4, 0, 474),
  (.iload_n 3, 1, 3, 0, 0, 0, 0),
  (.invokevirtual 120, 3, 26, 1, 0, 1, 541),
  (.ifCond .eq 8, 3, 47, 0, 0, 0, 0)]
theorem qX11_copy_20 : jchk 32 20 kX11_copy_20 = true := by decide +kernel
def kX11_copy_42 : List JI := [(.bipush (-5), 2, 0, -5, 0, 0, 0),
  (.goto 38, 3, 82, 0, 0, 0, 0)]
theorem qX11_copy_42 : jchk 32 42 kX11_copy_42 = true := by decide +kernel
def kX11_copy_47 : List JI := [(.aload_n 0, 1, 0, 0, 0, 0, 0),
  (.getfield 16, 3, 11, 2, 4, 0, 474),
  (.iload_n 1, 1, 1, 0, 0, 0, 0),
  (.iload_n 2, 1, 2, 0, 0, 0, 0),
  (.iload 5, 2, 5, 0, 0, 0, 0),
  (.invokevirtual 124, 3, 31, 3, 0, 1, 553),
  (.ifCond .eq 18, 3, 76, 0, 0, 0, 0),
  (.aload_n 0, 1, 0, 0, 0, 0, 0),
  (.getfield 16, 3, 11, 2, 4, 0, 474),
  (.iload_n 3, 1, 3, 0, 0, 0, 0),
  (.iload 4, 2, 4, 0, 0, 0, 0),
  (.iload 5, 2, 5, 0, 0, 0, 0),
  (.invokevirtual 124, 3, 31, 3, 0, 1, 553),
  (.ifCond .ne 8, 3, 81, 0, 0, 0, 0)]
theorem qX11_copy_47 : jchk 32 47 kX11_copy_47 = true := by decide +kernel
def kX11_copy_76 : List JI := [(.bipush (-7), 2, 0, -7, 0, 0, 0),
  (.goto 4, 3, 82, 0, 0, 0, 0)]
theorem qX11_copy_76 : jchk 32 76 kX11_copy_76 = true := by decide +kernel
def kX11_copy_81 : List JI := [(.iconst 0, 1, 0, 0, 0, 0, 0)]
theorem qX11_copy_81 : jchk 32 81 kX11_copy_81 = true := by decide +kernel
def kX11_copy_82 : List JI := [(.istore 6, 2, 6, 0, 0, 0, 0),
  (.iload 6, 2, 6, 0, 0, 0, 0),
  (.ifCond .eq 10, 3, 96, 0, 0, 0, 0),
  (.aload_n 0, 1, 0, 0, 0, 0, 0),
  (.iload 6, 2, 6, 0, 0, 0, 0),
  (.invokevirtual 93, 3, 16, 1, 0, 11, 519),
  (.ireturn, 1, 0, 0, 0, 0, 0)]
theorem qX11_copy_82 : jchk 32 82 kX11_copy_82 = true := by decide +kernel
def kX11_copy_96 : List JI := [(.aload_n 0, 1, 0, 0, 0, 0, 0),
  (.getfield 81, 3, 11, 11, 4, 0, 483),
  (.invokevirtual 97, 3, 17, 0, 0, 7, 523),
  (.aload_n 0, 1, 0, 0, 0, 0, 0),
  (.getfield 16, 3, 11, 2, 4, 0, 474),
  (.getfield 107, 3, 1, 2, 4, 0, 87),
  (.iload_n 1, 1, 1, 0, 0, 0, 0),
  (.aaload, 1, 0, 0, 0, 0, 0),
  (.iload_n 2, 1, 2, 0, 0, 0, 0),
  (.aload_n 0, 1, 0, 0, 0, 0, 0),
  (.getfield 16, 3, 11, 2, 4, 0, 474),
  (.getfield 107, 3, 1, 2, 4, 0, 87),
  (.iload_n 3, 1, 3, 0, 0, 0, 0),
  (.aaload, 1, 0, 0, 0, 0, 0),
  (.iload 4, 2, 4, 0, 0, 0, 0),
  (.iload 5, 2, 5, 0, 0, 0, 0),
  (.invokestatic 128, 3, 999, 0, 0, 0, 557),
  (.iload 5, 2, 5, 0, 0, 0, 0),
  (.ireturn, 1, 0, 0, 0, 0, 0)]
theorem qX11_copy_96 : jchk 32 96 kX11_copy_96 = true := by decide +kernel
def kX12_copy_0 : List JI := [(.iload_n 1, 1, 1, 0, 0, 0, 0),
  (.iconst 0, 1, 0, 0, 0, 0, 0),
  (.iconst 3, 1, 0, 3, 0, 0, 0),
  (.invokestatic 168, 3, 19, 3, 0, 12, 1160),
  (.ifCond .eq 12, 3, 18, 0, 0, 0, 0),
  (.iload_n 3, 1, 3, 0, 0, 0, 0),
  (.iconst 0, 1, 0, 0, 0, 0, 0),
  (.iconst 3, 1, 0, 3, 0, 0, 0),
  (.invokestatic 168, 3, 19, 3, 0, 12, 1160),
  (.ifCond .ne 9, 3, 24, 0, 0, 0, 0)]
theorem qX12_copy_0 : jchk 33 0 kX12_copy_0 = true := by decide +kernel
def kX12_copy_18 : List JI := [(.aload_n 0, 1, 0, 0, 0, 0, 0),
  (.iconst (-1), 1, 0, -1, 0, 0, 0),
  (.invokevirtual 172, 3, 20, 1, 0, 12, 1163),
  (.ireturn, 1, 0, 0, 0, 0, 0)]
theorem qX12_copy_18 : jchk 33 18 kX12_copy_18 = true := by decide +kernel
def kX12_copy_24 : List JI := [(.aload_n 0, 1, 0, 0, 0, 0, 0),
  (.getfield 16, 3, 12, 3, 4, 0, 962),
  (.iload_n 1, 1, 1, 0, 0, 0, 0),
  (.iaload, 1, 0, 0, 0, 0, 0),
  (.ifCond .lt 12, 3, 42, 0, 0, 0, 0),
  (.aload_n 0, 1, 0, 0, 0, 0, 0),
  (.getfield 16, 3, 12, 3, 4, 0, 962),
  (.iload_n 3, 1, 3, 0, 0, 0, 0),
  (.iaload, 1, 0, 0, 0, 0, 0),
  (.ifCond .ge 10, 3, 49, 0, 0, 0, 0)]
theorem qX12_copy_24 : jchk 33 24 kX12_copy_24 = true := by decide +kernel
def kX12_copy_42 : List JI := [(.aload_n 0, 1, 0, 0, 0, 0, 0),
  (.bipush (-5), 2, 0, -5, 0, 0, 0),
  (.invokevirtual 172, 3, 20, 1, 0, 12, 1163),
  (.ireturn, 1, 0, 0, 0, 0, 0)]
theorem qX12_copy_42 : jchk 33 42 kX12_copy_42 = true := by decide +kernel
def kX12_copy_49 : List JI := [(.iload 5, 2, 5, 0, 0, 0, 0),
  (.ifCond .lt 46, 3, 97, 0, 0, 0, 0),
  (.iload 5, 2, 5, 0, 0, 0, 0),
  (.bipush 30, 2, 0, 30, 0, 0, 0),
  (.if_icmp .gt 39, 3, 97, 0, 0, 0, 0),
  (.iload_n 2, 1, 2, 0, 0, 0, 0),
  (.ifCond .lt 35, 3, 97, 0, 0, 0, 0),
  (.iload 4, 2, 4, 0, 0, 0, 0),
  (.ifCond .lt 30, 3, 97, 0, 0, 0, 0),
  (.iload_n 2, 1, 2, 0, 0, 0, 0),
  (.aload_n 0, 1, 0, 0, 0, 0, 0),
  (.getfield 16, 3, 12, 3, 4, 0, 962),
  (.iload_n 1, 1, 1, 0, 0, 0, 0),
  (.iaload, 1, 0, 0, 0, 0, 0),
  (.iload 5, 2, 5, 0, 0, 0, 0),
  (.isub, 1, 0, 0, 0, 0, 0),
  (.if_icmp .gt 17, 3, 97, 0, 0, 0, 0),
  (.iload 4, 2, 4, 0, 0, 0, 0),
  (.aload_n 0, 1, 0, 0, 0, 0, 0),
  (.getfield 16, 3, 12, 3, 4, 0, 962),
  (.iload_n 3, 1, 3, 0, 0, 0, 0),
  (.iaload, 1, 0, 0, 0, 0, 0),
  (.iload 5, 2, 5, 0, 0, 0, 0),
  (.isub, 1, 0, 0, 0, 0, 0),
  (.if_icmp .le 10, 3, 104, 0, 0, 0, 0)]
theorem qX12_copy_49 : jchk 33 49 kX12_copy_49 = true := by decide +kernel
def kX12_copy_97 : List JI := [(.aload_n 0, 1, 0, 0, 0, 0, 0),
  (.bipush (-7), 2, 0, -7, 0, 0, 0),
  (.invokevirtual 172, 3, 20, 1, 0, 12, 1163),
  (.ireturn, 1, 0, 0, 0, 0, 0)]
theorem qX12_copy_97 : jchk 33 97 kX12_copy_97 = true := by decide +kernel
def kX12_copy_104 : List JI := [(.iconst 0, 1, 0, 0, 0, 0, 0),
  (.istore 6, 2, 6, 0, 0, 0, 0)]
theorem qX12_copy_104 : jchk 33 104 kX12_copy_104 = true := by decide +kernel
def kX12_copy_107 : List JI := [(.iload 6, 2, 6, 0, 0, 0, 0),
  (.iload 5, 2, 5, 0, 0, 0, 0),
  (.if_icmp .ge 30, 3, 141, 0, 0, 0, 0),
  (.aload_n 0, 1, 0, 0, 0, 0, 0),
  (.getfield 140, 3, 12, 51, 4, 0, 1010),
  (.iload 6, 2, 6, 0, 0, 0, 0),
  (.aload_n 0, 1, 0, 0, 0, 0, 0),
  (.getfield 19, 3, 12, 4, 4, 0, 963),
  (.bipush 30, 2, 0, 30, 0, 0, 0),
  (.iload_n 1, 1, 1, 0, 0, 0, 0),
  (.imul, 1, 0, 0, 0, 0, 0),
  (.iload_n 2, 1, 2, 0, 0, 0, 0),
  (.iadd, 1, 0, 0, 0, 0, 0),
  (.iload 6, 2, 6, 0, 0, 0, 0),
  (.iadd, 1, 0, 0, 0, 0, 0),
  (.iaload, 1, 0, 0, 0, 0, 0),
  (.iastore, 1, 0, 0, 0, 0, 0),
  (.iinc 6 1, 3, 6, 1, 0, 0, 0),
  (.goto (-31), 3, 107, 0, 0, 0, 0)]
theorem qX12_copy_107 : jchk 33 107 kX12_copy_107 = true := by decide +kernel
def kX12_copy_141 : List JI := [(.iconst 0, 1, 0, 0, 0, 0, 0),
  (.istore 6, 2, 6, 0, 0, 0, 0)]
theorem qX12_copy_141 : jchk 33 141 kX12_copy_141 = true := by decide +kernel
def kX12_copy_144 : List JI := [(.iload 6, 2, 6, 0, 0, 0, 0),
  (.iload 5, 2, 5, 0, 0, 0, 0),
  (.if_icmp .ge 31, 3, 179, 0, 0, 0, 0),
  (.aload_n 0, 1, 0, 0, 0, 0, 0),
  (.getfield 19, 3, 12, 4, 4, 0, 963),
  (.bipush 30, 2, 0, 30, 0, 0, 0),
  (.iload_n 3, 1, 3, 0, 0, 0, 0),
  (.imul, 1, 0, 0, 0, 0, 0),
  (.iload 4, 2, 4, 0, 0, 0, 0),
  (.iadd, 1, 0, 0, 0, 0, 0),
  (.iload 6, 2, 6, 0, 0, 0, 0),
  (.iadd, 1, 0, 0, 0, 0, 0),
  (.aload_n 0, 1, 0, 0, 0, 0, 0),
  (.getfield 140, 3, 12, 51, 4, 0, 1010),
  (.iload 6, 2, 6, 0, 0, 0, 0),
  (.iaload, 1, 0, 0, 0, 0, 0),
  (.iastore, 1, 0, 0, 0, 0, 0),
  (.iinc 6 1, 3, 6, 1, 0, 0, 0),
  (.goto (-32), 3, 144, 0, 0, 0, 0)]
theorem qX12_copy_144 : jchk 33 144 kX12_copy_144 = true := by decide +kernel
def kX12_copy_179 : List JI := [(.iload 5, 2, 5, 0, 0, 0, 0),
  (.ireturn, 1, 0, 0, 0, 0, 0)]
theorem qX12_copy_179 : jchk 33 179 kX12_copy_179 = true := by decide +kernel
def kX11_refusedAside_0 : List JI := [(.ldc_w 356, 3, 0, 2000000000, 0, 0, 568),
  (.aload_n 0, 1, 0, 0, 0, 0, 0),
  (.iload_n 1, 1, 1, 0, 0, 0, 0),
  (.invokevirtual 93, 3, 16, 1, 0, 11, 519),
  (.isub, 1, 0, 0, 0, 0, 0),
  (.ireturn, 1, 0, 0, 0, 0, 0)]
theorem qX11_refusedAside_0 : jchk 34 0 kX11_refusedAside_0 = true := by decide +kernel
def kX11_lead_0 : List JI := [(.iload_n 1, 1, 1, 0, 0, 0, 0),
  (.iconst 4, 1, 0, 4, 0, 0, 0),
  (.invokestatic 85, 3, 14, 2, 0, 11, 513),
  (.ifCond .eq 16, 3, 21, 0, 0, 0, 0),
  (.iload_n 2, 1, 2, 0, 0, 0, 0),
  (.iconst (-1), 1, 0, -1, 0, 0, 0),
  (.if_icmp .eq 17, 3, 27, 0, 0, 0, 0),
  (.iload_n 2, 1, 2, 0, 0, 0, 0),
  (.iconst 4, 1, 0, 4, 0, 0, 0),
  (.invokestatic 85, 3, 14, 2, 0, 11, 513),
  (.ifCond .ne 9, 3, 27, 0, 0, 0, 0)]
theorem qX11_lead_0 : jchk 35 0 kX11_lead_0 = true := by decide +kernel
def kX11_lead_21 : List JI := [(.aload_n 0, 1, 0, 0, 0, 0, 0),
  (.iconst (-1), 1, 0, -1, 0, 0, 0),
  (.invokevirtual 134, 3, 34, 1, 0, 11, 564),
  (.ireturn, 1, 0, 0, 0, 0, 0)]
theorem qX11_lead_21 : jchk 35 21 kX11_lead_21 = true := by decide +kernel
def kX11_lead_27 : List JI := [(.aload_n 0, 1, 0, 0, 0, 0, 0),
  (.getfield 81, 3, 11, 11, 4, 0, 483),
  (.invokevirtual 97, 3, 17, 0, 0, 7, 523),
  (.aload_n 0, 1, 0, 0, 0, 0, 0),
  (.getfield 16, 3, 11, 2, 4, 0, 474),
  (.getfield 137, 3, 1, 1, 4, 0, 85),
  (.iload_n 1, 1, 1, 0, 0, 0, 0),
  (.iaload, 1, 0, 0, 0, 0, 0),
  (.istore_n 3, 1, 3, 0, 0, 0, 0),
  (.aload_n 0, 1, 0, 0, 0, 0, 0),
  (.getfield 16, 3, 11, 2, 4, 0, 474),
  (.getfield 137, 3, 1, 1, 4, 0, 85),
  (.iload_n 1, 1, 1, 0, 0, 0, 0),
  (.iload_n 2, 1, 2, 0, 0, 0, 0),
  (.iastore, 1, 0, 0, 0, 0, 0),
  (.iload_n 3, 1, 3, 0, 0, 0, 0),
  (.ireturn, 1, 0, 0, 0, 0, 0)]
theorem qX11_lead_27 : jchk 35 27 kX11_lead_27 = true := by decide +kernel
def kX12_refuseFar_0 : List JI := [(.aload_n 0, 1, 0, 0, 0, 0, 0),
  (.getfield 137, 3, 12, 50, 4, 0, 1009),
  (.iload_n 1, 1, 1, 0, 0, 0, 0),
  (.ineg, 1, 0, 0, 0, 0, 0),
  (.dup2, 1, 0, 0, 0, 0, 0),
  (.iaload, 1, 0, 0, 0, 0, 0),
  (.iconst 1, 1, 0, 1, 0, 0, 0),
  (.iadd, 1, 0, 0, 0, 0, 0),
  (.iastore, 1, 0, 0, 0, 0, 0),
  (.ldc 167, 2, 0, 2000000000, 0, 0, 1196),
  (.iload_n 1, 1, 1, 0, 0, 0, 0),
  (.isub, 1, 0, 0, 0, 0, 0),
  (.ireturn, 1, 0, 0, 0, 0, 0)]
theorem qX12_refuseFar_0 : jchk 36 0 kX12_refuseFar_0 = true := by decide +kernel
def kX12_lead_0 : List JI := [(.iload_n 1, 1, 1, 0, 0, 0, 0),
  (.iconst 0, 1, 0, 0, 0, 0, 0),
  (.iconst 3, 1, 0, 3, 0, 0, 0),
  (.invokestatic 168, 3, 19, 3, 0, 12, 1160),
  (.ifCond .eq 12, 3, 18, 0, 0, 0, 0),
  (.iload_n 2, 1, 2, 0, 0, 0, 0),
  (.iconst (-1), 1, 0, -1, 0, 0, 0),
  (.iconst 3, 1, 0, 3, 0, 0, 0),
  (.invokestatic 168, 3, 19, 3, 0, 12, 1160),
  (.ifCond .ne 9, 3, 24, 0, 0, 0, 0)]
theorem qX12_lead_0 : jchk 37 0 kX12_lead_0 = true := by decide +kernel
def kX12_lead_18 : List JI := [(.aload_n 0, 1, 0, 0, 0, 0, 0),
  (.iconst (-1), 1, 0, -1, 0, 0, 0),
  (.invokevirtual 177, 3, 36, 1, 0, 12, 1192),
  (.ireturn, 1, 0, 0, 0, 0, 0)]
theorem qX12_lead_18 : jchk 37 18 kX12_lead_18 = true := by decide +kernel
def kX12_lead_24 : List JI := [(.aload_n 0, 1, 0, 0, 0, 0, 0),
  (.getfield 13, 3, 12, 2, 4, 0, 961),
  (.iload_n 1, 1, 1, 0, 0, 0, 0),
  (.iaload, 1, 0, 0, 0, 0, 0),
  (.istore_n 3, 1, 3, 0, 0, 0, 0),
  (.aload_n 0, 1, 0, 0, 0, 0, 0),
  (.getfield 13, 3, 12, 2, 4, 0, 961),
  (.iload_n 1, 1, 1, 0, 0, 0, 0),
  (.iload_n 2, 1, 2, 0, 0, 0, 0),
  (.iastore, 1, 0, 0, 0, 0, 0),
  (.iload_n 3, 1, 3, 0, 0, 0, 0),
  (.ireturn, 1, 0, 0, 0, 0, 0)]
theorem qX12_lead_24 : jchk 37 24 kX12_lead_24 = true := by decide +kernel
def kX1_handsOfDay_0 : List JI := [(.aload_n 0, 1, 0, 0, 0, 0, 0),
  (.getfield 15, 3, 1, 1, 4, 0, 84),
  (.iload_n 1, 1, 1, 0, 0, 0, 0),
  (.iaload, 1, 0, 0, 0, 0, 0),
  (.istore_n 3, 1, 3, 0, 0, 0, 0),
  (.iload_n 3, 1, 3, 0, 0, 0, 0),
  (.iconst (-1), 1, 0, -1, 0, 0, 0),
  (.if_icmp .eq 12, 3, 21, 0, 0, 0, 0),
  (.aload_n 0, 1, 0, 0, 0, 0, 0),
  (.getfield 23, 3, 1, 3, 4, 0, 88),
  (.iload_n 3, 1, 3, 0, 0, 0, 0),
  (.iaload, 1, 0, 0, 0, 0, 0),
  (.ifCond .gt 10, 3, 28, 0, 0, 0, 0)]
theorem qX1_handsOfDay_0 : jchk 38 0 kX1_handsOfDay_0 = true := by decide +kernel
def kX1_handsOfDay_21 : List JI := [(.aload_n 0, 1, 0, 0, 0, 0, 0),
  (.getfield 9, 3, 1, 0, 4, 0, 82),
  (.iload_n 1, 1, 1, 0, 0, 0, 0),
  (.iaload, 1, 0, 0, 0, 0, 0),
  (.ireturn, 1, 0, 0, 0, 0, 0)]
theorem qX1_handsOfDay_21 : jchk 38 21 kX1_handsOfDay_21 = true := by decide +kernel
def kX1_handsOfDay_28 : List JI := [(.aload_n 0, 1, 0, 0, 0, 0, 0),
  (.getfield 20, 3, 1, 2, 4, 0, 86),
  (.iload_n 3, 1, 3, 0, 0, 0, 0),
  (.aaload, 1, 0, 0, 0, 0, 0),
  (.iload_n 2, 1, 2, 0, 0, 0, 0),
  (.aload_n 0, 1, 0, 0, 0, 0, 0),
  (.getfield 23, 3, 1, 3, 4, 0, 88),
  (.iload_n 3, 1, 3, 0, 0, 0, 0),
  (.iaload, 1, 0, 0, 0, 0, 0),
  (.irem, 1, 0, 0, 0, 0, 0),
  (.iaload, 1, 0, 0, 0, 0, 0),
  (.ireturn, 1, 0, 0, 0, 0, 0)]
theorem qX1_handsOfDay_28 : jchk 38 28 kX1_handsOfDay_28 = true := by decide +kernel
def kX11_handsOn_0 : List JI := [(.iload_n 1, 1, 1, 0, 0, 0, 0),
  (.iconst 4, 1, 0, 4, 0, 0, 0),
  (.invokestatic 85, 3, 14, 2, 0, 11, 513),
  (.ifCond .ne 7, 3, 12, 0, 0, 0, 0),
  (.iconst (-1), 1, 0, -1, 0, 0, 0),
  (.goto 11, 3, 20, 0, 0, 0, 0)]
theorem qX11_handsOn_0 : jchk 39 0 kX11_handsOn_0 = true := by decide +kernel
def kX11_handsOn_12 : List JI := [(.iload_n 2, 1, 2, 0, 0, 0, 0),
  (.iconst 0, 1, 0, 0, 0, 0, 0),
  (.sipush 2000, 3, 0, 2000, 0, 0, 0),
  (.invokestatic 89, 3, 15, 3, 0, 11, 516)]
theorem qX11_handsOn_12 : jchk 39 12 kX11_handsOn_12 = true := by decide +kernel
def kX11_handsOn_20 : List JI := [(.istore_n 3, 1, 3, 0, 0, 0, 0),
  (.iload_n 3, 1, 3, 0, 0, 0, 0),
  (.ifCond .eq 11, 3, 33, 0, 0, 0, 0),
  (.aload_n 0, 1, 0, 0, 0, 0, 0),
  (.iload_n 3, 1, 3, 0, 0, 0, 0),
  (.invokevirtual 93, 3, 16, 1, 0, 11, 519),
  (.goto 12, 3, 42, 0, 0, 0, 0)]
theorem qX11_handsOn_20 : jchk 39 20 kX11_handsOn_20 = true := by decide +kernel
def kX11_handsOn_33 : List JI := [(.aload_n 0, 1, 0, 0, 0, 0, 0),
  (.getfield 16, 3, 11, 2, 4, 0, 474),
  (.iload_n 1, 1, 1, 0, 0, 0, 0),
  (.iload_n 2, 1, 2, 0, 0, 0, 0),
  (.invokevirtual 140, 3, 38, 2, 0, 1, 573)]
theorem qX11_handsOn_33 : jchk 39 33 kX11_handsOn_33 = true := by decide +kernel
def kX11_handsOn_42 : List JI := [(.ireturn, 1, 0, 0, 0, 0, 0)]
theorem qX11_handsOn_42 : jchk 39 42 kX11_handsOn_42 = true := by decide +kernel
def kX12_handsAt_0 : List JI := [(.aload_n 0, 1, 0, 0, 0, 0, 0),
  (.getfield 13, 3, 12, 2, 4, 0, 961),
  (.iload_n 1, 1, 1, 0, 0, 0, 0),
  (.iaload, 1, 0, 0, 0, 0, 0),
  (.istore_n 3, 1, 3, 0, 0, 0, 0),
  (.iload_n 3, 1, 3, 0, 0, 0, 0),
  (.ifCond .lt 33, 3, 41, 0, 0, 0, 0),
  (.aload_n 0, 1, 0, 0, 0, 0, 0),
  (.getfield 16, 3, 12, 3, 4, 0, 962),
  (.iload_n 3, 1, 3, 0, 0, 0, 0),
  (.iaload, 1, 0, 0, 0, 0, 0),
  (.ifCond .le 24, 3, 41, 0, 0, 0, 0),
  (.aload_n 0, 1, 0, 0, 0, 0, 0),
  (.getfield 19, 3, 12, 4, 4, 0, 963),
  (.bipush 30, 2, 0, 30, 0, 0, 0),
  (.iload_n 3, 1, 3, 0, 0, 0, 0),
  (.imul, 1, 0, 0, 0, 0, 0),
  (.iload_n 2, 1, 2, 0, 0, 0, 0),
  (.aload_n 0, 1, 0, 0, 0, 0, 0),
  (.getfield 16, 3, 12, 3, 4, 0, 962),
  (.iload_n 3, 1, 3, 0, 0, 0, 0),
  (.iaload, 1, 0, 0, 0, 0, 0),
  (.irem, 1, 0, 0, 0, 0, 0),
  (.iadd, 1, 0, 0, 0, 0, 0),
  (.iaload, 1, 0, 0, 0, 0, 0),
  (.goto 9, 3, 47, 0, 0, 0, 0)]
theorem qX12_handsAt_0 : jchk 40 0 kX12_handsAt_0 = true := by decide +kernel
def kX12_handsAt_41 : List JI := [(.aload_n 0, 1, 0, 0, 0, 0, 0),
  (.getfield 7, 3, 12, 1, 4, 0, 960),
  (.iload_n 1, 1, 1, 0, 0, 0, 0),
  (.iaload, 1, 0, 0, 0, 0, 0)]
theorem qX12_handsAt_41 : jchk 40 41 kX12_handsAt_41 = true := by decide +kernel
def kX12_handsAt_47 : List JI := [(.ireturn, 1, 0, 0, 0, 0, 0)]
theorem qX12_handsAt_47 : jchk 40 47 kX12_handsAt_47 = true := by decide +kernel
def kX12_handsOn_0 : List JI := [(.iload_n 1, 1, 1, 0, 0, 0, 0),
  (.iconst 0, 1, 0, 0, 0, 0, 0),
  (.iconst 3, 1, 0, 3, 0, 0, 0),
  (.invokestatic 168, 3, 19, 3, 0, 12, 1160),
  (.ifCond .ne 9, 3, 15, 0, 0, 0, 0),
  (.aload_n 0, 1, 0, 0, 0, 0, 0),
  (.iconst (-1), 1, 0, -1, 0, 0, 0),
  (.invokevirtual 172, 3, 20, 1, 0, 12, 1163),
  (.ireturn, 1, 0, 0, 0, 0, 0)]
theorem qX12_handsOn_0 : jchk 41 0 kX12_handsOn_0 = true := by decide +kernel
def kX12_handsOn_15 : List JI := [(.iload_n 2, 1, 2, 0, 0, 0, 0),
  (.ifCond .ge 10, 3, 26, 0, 0, 0, 0),
  (.aload_n 0, 1, 0, 0, 0, 0, 0),
  (.bipush (-4), 2, 0, -4, 0, 0, 0),
  (.invokevirtual 172, 3, 20, 1, 0, 12, 1163),
  (.ireturn, 1, 0, 0, 0, 0, 0)]
theorem qX12_handsOn_15 : jchk 41 15 kX12_handsOn_15 = true := by decide +kernel
def kX12_handsOn_26 : List JI := [(.iload_n 2, 1, 2, 0, 0, 0, 0),
  (.sipush 2000, 3, 0, 2000, 0, 0, 0),
  (.if_icmp .le 12, 3, 42, 0, 0, 0, 0),
  (.aload_n 0, 1, 0, 0, 0, 0, 0),
  (.bipush (-6), 2, 0, -6, 0, 0, 0),
  (.invokevirtual 172, 3, 20, 1, 0, 12, 1163),
  (.goto 9, 3, 48, 0, 0, 0, 0)]
theorem qX12_handsOn_26 : jchk 41 26 kX12_handsOn_26 = true := by decide +kernel
def kX12_handsOn_42 : List JI := [(.aload_n 0, 1, 0, 0, 0, 0, 0),
  (.iload_n 1, 1, 1, 0, 0, 0, 0),
  (.iload_n 2, 1, 2, 0, 0, 0, 0),
  (.invokevirtual 180, 3, 40, 2, 0, 12, 1201)]
theorem qX12_handsOn_42 : jchk 41 42 kX12_handsOn_42 = true := by decide +kernel
def kX12_handsOn_48 : List JI := [(.ireturn, 1, 0, 0, 0, 0, 0)]
theorem qX12_handsOn_48 : jchk 41 48 kX12_handsOn_48 = true := by decide +kernel
def kX2_slotOf_0 : List JI := [(.iload_n 0, 1, 0, 0, 0, 0, 0),
  (.tableswitch 36 0 2 #[27, 29, 33], 27, 0, 0, 0, 0, 0)]
theorem qX2_slotOf_0 : jchk 42 0 kX2_slotOf_0 = true := by decide +kernel
def kX2_slotOf_28 : List JI := [(.iload_n 1, 1, 1, 0, 0, 0, 0),
  (.ireturn, 1, 0, 0, 0, 0, 0)]
theorem qX2_slotOf_28 : jchk 42 28 kX2_slotOf_28 = true := by decide +kernel
def kX2_slotOf_30 : List JI := [(.iconst 4, 1, 0, 4, 0, 0, 0),
  (.iload_n 1, 1, 1, 0, 0, 0, 0),
  (.iadd, 1, 0, 0, 0, 0, 0),
  (.ireturn, 1, 0, 0, 0, 0, 0)]
theorem qX2_slotOf_30 : jchk 42 30 kX2_slotOf_30 = true := by decide +kernel
def kX2_slotOf_34 : List JI := [(.bipush 8, 2, 0, 8, 0, 0, 0),
  (.ireturn, 1, 0, 0, 0, 0, 0)]
theorem qX2_slotOf_34 : jchk 42 34 kX2_slotOf_34 = true := by decide +kernel
def kX2_slotOf_37 : List JI := [(.bipush 9, 2, 0, 9, 0, 0, 0),
  (.ireturn, 1, 0, 0, 0, 0, 0)]
theorem qX2_slotOf_37 : jchk 42 37 kX2_slotOf_37 = true := by decide +kernel
def kX2_insert_0 : List JI := [(.aload_n 0, 1, 0, 0, 0, 0, 0),
  (.getfield 24, 3, 2, 0, 1, 0, 106),
  (.istore 4, 2, 4, 0, 0, 0, 0)]
theorem qX2_insert_0 : jchk 43 0 kX2_insert_0 = true := by decide +kernel
def kX2_insert_6 : List JI := [(.iload 4, 2, 4, 0, 0, 0, 0),
  (.ifCond .le 70, 3, 78, 0, 0, 0, 0),
  (.aload_n 0, 1, 0, 0, 0, 0, 0),
  (.getfield 18, 3, 2, 3, 4, 0, 110),
  (.iload 4, 2, 4, 0, 0, 0, 0),
  (.iconst 1, 1, 0, 1, 0, 0, 0),
  (.isub, 1, 0, 0, 0, 0, 0),
  (.iaload, 1, 0, 0, 0, 0, 0),
  (.iload_n 3, 1, 3, 0, 0, 0, 0),
  (.if_icmp .le 57, 3, 78, 0, 0, 0, 0),
  (.aload_n 0, 1, 0, 0, 0, 0, 0),
  (.getfield 9, 3, 2, 1, 4, 0, 108),
  (.iload 4, 2, 4, 0, 0, 0, 0),
  (.aload_n 0, 1, 0, 0, 0, 0, 0),
  (.getfield 9, 3, 2, 1, 4, 0, 108),
  (.iload 4, 2, 4, 0, 0, 0, 0),
  (.iconst 1, 1, 0, 1, 0, 0, 0),
  (.isub, 1, 0, 0, 0, 0, 0),
  (.iaload, 1, 0, 0, 0, 0, 0),
  (.iastore, 1, 0, 0, 0, 0, 0),
  (.aload_n 0, 1, 0, 0, 0, 0, 0),
  (.getfield 15, 3, 2, 2, 4, 0, 109),
  (.iload 4, 2, 4, 0, 0, 0, 0),
  (.aload_n 0, 1, 0, 0, 0, 0, 0),
  (.getfield 15, 3, 2, 2, 4, 0, 109),
  (.iload 4, 2, 4, 0, 0, 0, 0),
  (.iconst 1, 1, 0, 1, 0, 0, 0),
  (.isub, 1, 0, 0, 0, 0, 0),
  (.iaload, 1, 0, 0, 0, 0, 0),
  (.iastore, 1, 0, 0, 0, 0, 0),
  (.aload_n 0, 1, 0, 0, 0, 0, 0),
  (.getfield 18, 3, 2, 3, 4, 0, 110),
  (.iload 4, 2, 4, 0, 0, 0, 0),
  (.aload_n 0, 1, 0, 0, 0, 0, 0),
  (.getfield 18, 3, 2, 3, 4, 0, 110),
  (.iload 4, 2, 4, 0, 0, 0, 0),
  (.iconst 1, 1, 0, 1, 0, 0, 0),
  (.isub, 1, 0, 0, 0, 0, 0),
  (.iaload, 1, 0, 0, 0, 0, 0),
  (.iastore, 1, 0, 0, 0, 0, 0),
  (.iinc 4 (-1), 3, 4, -1, 0, 0, 0),
  (.goto (-69), 3, 6, 0, 0, 0, 0)]
theorem qX2_insert_6 : jchk 43 6 kX2_insert_6 = true := by decide +kernel
def kX2_insert_78 : List JI := [(.aload_n 0, 1, 0, 0, 0, 0, 0),
  (.getfield 9, 3, 2, 1, 4, 0, 108),
  (.iload 4, 2, 4, 0, 0, 0, 0),
  (.iload_n 1, 1, 1, 0, 0, 0, 0),
  (.iastore, 1, 0, 0, 0, 0, 0),
  (.aload_n 0, 1, 0, 0, 0, 0, 0),
  (.getfield 15, 3, 2, 2, 4, 0, 109),
  (.iload 4, 2, 4, 0, 0, 0, 0),
  (.iload_n 2, 1, 2, 0, 0, 0, 0),
  (.iastore, 1, 0, 0, 0, 0, 0),
  (.aload_n 0, 1, 0, 0, 0, 0, 0),
  (.getfield 18, 3, 2, 3, 4, 0, 110),
  (.iload 4, 2, 4, 0, 0, 0, 0),
  (.iload_n 3, 1, 3, 0, 0, 0, 0),
  (.iastore, 1, 0, 0, 0, 0, 0),
  (.aload_n 0, 1, 0, 0, 0, 0, 0),
  (.dup, 1, 0, 0, 0, 0, 0),
  (.getfield 24, 3, 2, 0, 1, 0, 106),
  (.iconst 1, 1, 0, 1, 0, 0, 0),
  (.iadd, 1, 0, 0, 0, 0, 0),
  (.putfield 24, 3, 2, 0, 1, 0, 106),
  (.return_, 1, 0, 0, 0, 0, 0)]
theorem qX2_insert_78 : jchk 43 78 kX2_insert_78 = true := by decide +kernel
end
section
def kX11_decree_0 : List JI := [(.iload_n 1, 1, 1, 0, 0, 0, 0),
  (.iconst 4, 1, 0, 4, 0, 0, 0),
  (.invokestatic 85, 3, 14, 2, 0, 11, 513),
  (.ifCond .eq 11, 3, 16, 0, 0, 0, 0),
  (.iload_n 2, 1, 2, 0, 0, 0, 0),
  (.iconst 4, 1, 0, 4, 0, 0, 0),
  (.invokestatic 85, 3, 14, 2, 0, 11, 513),
  (.ifCond .ne 9, 3, 22, 0, 0, 0, 0)]
theorem qX11_decree_0 : jchk 44 0 kX11_decree_0 = true := by decide +kernel
def kX11_decree_16 : List JI := [(.aload_n 0, 1, 0, 0, 0, 0, 0),
  (.iconst (-1), 1, 0, -1, 0, 0, 0),
  (.invokevirtual 93, 3, 16, 1, 0, 11, 519),
  (.ireturn, 1, 0, 0, 0, 0, 0)]
theorem qX11_decree_16 : jchk 44 16 kX11_decree_16 = true := by decide +kernel
def kX11_decree_22 : List JI := [(.iload_n 3, 1, 3, 0, 0, 0, 0),
  (.getstatic 144, 3, 0, -3, 0, 0, 581),
  (.iload_n 1, 1, 1, 0, 0, 0, 0),
  (.iaload, 1, 0, 0, 0, 0, 0),
  (.if_icmp .lt 12, 3, 40, 0, 0, 0, 0),
  (.iload 4, 2, 4, 0, 0, 0, 0),
  (.aload_n 0, 1, 0, 0, 0, 0, 0),
  (.getfield 147, 3, 11, 0, 1, 0, 472),
  (.if_icmp .ge 10, 3, 47, 0, 0, 0, 0)]
theorem qX11_decree_22 : jchk 44 22 kX11_decree_22 = true := by decide +kernel
def kX11_decree_40 : List JI := [(.aload_n 0, 1, 0, 0, 0, 0, 0),
  (.bipush (-4), 2, 0, -4, 0, 0, 0),
  (.invokevirtual 93, 3, 16, 1, 0, 11, 519),
  (.ireturn, 1, 0, 0, 0, 0, 0)]
theorem qX11_decree_40 : jchk 44 40 kX11_decree_40 = true := by decide +kernel
def kX11_decree_47 : List JI := [(.iload_n 3, 1, 3, 0, 0, 0, 0),
  (.getstatic 151, 3, 0, -4, 0, 0, 583),
  (.iload_n 1, 1, 1, 0, 0, 0, 0),
  (.iaload, 1, 0, 0, 0, 0, 0),
  (.if_icmp .gt 23, 3, 76, 0, 0, 0, 0),
  (.iload 4, 2, 4, 0, 0, 0, 0),
  (.sipush 2000, 3, 0, 2000, 0, 0, 0),
  (.if_icmp .gt 15, 3, 76, 0, 0, 0, 0),
  (.aload_n 0, 1, 0, 0, 0, 0, 0),
  (.getfield 23, 3, 11, 3, 4, 0, 475),
  (.getfield 154, 3, 2, 0, 1, 0, 107),
  (.bipush 40, 2, 0, 40, 0, 0, 0),
  (.if_icmp .lt 10, 3, 83, 0, 0, 0, 0)]
theorem qX11_decree_47 : jchk 44 47 kX11_decree_47 = true := by decide +kernel
def kX11_decree_76 : List JI := [(.aload_n 0, 1, 0, 0, 0, 0, 0),
  (.bipush (-6), 2, 0, -6, 0, 0, 0),
  (.invokevirtual 93, 3, 16, 1, 0, 11, 519),
  (.ireturn, 1, 0, 0, 0, 0, 0)]
theorem qX11_decree_76 : jchk 44 76 kX11_decree_76 = true := by decide +kernel
def kX11_decree_83 : List JI := [(.aload_n 0, 1, 0, 0, 0, 0, 0),
  (.getfield 81, 3, 11, 11, 4, 0, 483),
  (.invokevirtual 97, 3, 17, 0, 0, 7, 523),
  (.aload_n 0, 1, 0, 0, 0, 0, 0),
  (.getfield 23, 3, 11, 3, 4, 0, 475),
  (.iload_n 1, 1, 1, 0, 0, 0, 0),
  (.iload_n 2, 1, 2, 0, 0, 0, 0),
  (.invokestatic 157, 3, 42, 2, 0, 2, 585),
  (.iload_n 3, 1, 3, 0, 0, 0, 0),
  (.iload 4, 2, 4, 0, 0, 0, 0),
  (.invokevirtual 160, 3, 43, 3, 0, 2, 588),
  (.aload_n 0, 1, 0, 0, 0, 0, 0),
  (.getfield 23, 3, 11, 3, 4, 0, 475),
  (.getfield 154, 3, 2, 0, 1, 0, 107),
  (.iconst 1, 1, 0, 1, 0, 0, 0),
  (.isub, 1, 0, 0, 0, 0, 0),
  (.ireturn, 1, 0, 0, 0, 0, 0)]
theorem qX11_decree_83 : jchk 44 83 kX11_decree_83 = true := by decide +kernel
def kX12_decree_0 : List JI := [(.iload_n 1, 1, 1, 0, 0, 0, 0),
  (.iconst 0, 1, 0, 0, 0, 0, 0),
  (.iconst 3, 1, 0, 3, 0, 0, 0),
  (.invokestatic 168, 3, 19, 3, 0, 12, 1160),
  (.ifCond .eq 12, 3, 18, 0, 0, 0, 0),
  (.iload_n 2, 1, 2, 0, 0, 0, 0),
  (.iconst 0, 1, 0, 0, 0, 0, 0),
  (.iconst 3, 1, 0, 3, 0, 0, 0),
  (.invokestatic 168, 3, 19, 3, 0, 12, 1160),
  (.ifCond .ne 9, 3, 24, 0, 0, 0, 0)]
theorem qX12_decree_0 : jchk 45 0 kX12_decree_0 = true := by decide +kernel
def kX12_decree_18 : List JI := [(.aload_n 0, 1, 0, 0, 0, 0, 0),
  (.iconst (-1), 1, 0, -1, 0, 0, 0),
  (.invokevirtual 172, 3, 20, 1, 0, 12, 1163),
  (.ireturn, 1, 0, 0, 0, 0, 0)]
theorem qX12_decree_18 : jchk 45 18 kX12_decree_18 = true := by decide +kernel
def kX12_decree_24 : List JI := [(.iload_n 3, 1, 3, 0, 0, 0, 0),
  (.iload_n 1, 1, 1, 0, 0, 0, 0),
  (.iconst 3, 1, 0, 3, 0, 0, 0),
  (.if_icmp .ne 7, 3, 34, 0, 0, 0, 0),
  (.iconst 1, 1, 0, 1, 0, 0, 0),
  (.goto 4, 3, 35, 0, 0, 0, 0)]
theorem qX12_decree_24 : jchk 45 24 kX12_decree_24 = true := by decide +kernel
def kX12_decree_34 : List JI := [(.iconst 0, 1, 0, 0, 0, 0, 0)]
theorem qX12_decree_34 : jchk 45 34 kX12_decree_34 = true := by decide +kernel
def kX12_decree_35 : List JI := [(.if_icmp .lt 12, 3, 47, 0, 0, 0, 0),
  (.iload 4, 2, 4, 0, 0, 0, 0),
  (.aload_n 0, 1, 0, 0, 0, 0, 0),
  (.getfield 184, 3, 12, 0, 1, 0, 959),
  (.if_icmp .ge 10, 3, 54, 0, 0, 0, 0)]
theorem qX12_decree_35 : jchk 45 35 kX12_decree_35 = true := by decide +kernel
def kX12_decree_47 : List JI := [(.aload_n 0, 1, 0, 0, 0, 0, 0),
  (.bipush (-4), 2, 0, -4, 0, 0, 0),
  (.invokevirtual 172, 3, 20, 1, 0, 12, 1163),
  (.ireturn, 1, 0, 0, 0, 0, 0)]
theorem qX12_decree_47 : jchk 45 47 kX12_decree_47 = true := by decide +kernel
def kX12_decree_54 : List JI := [(.iload_n 3, 1, 3, 0, 0, 0, 0),
  (.iload_n 1, 1, 1, 0, 0, 0, 0),
  (.ifCond .ne 8, 3, 64, 0, 0, 0, 0),
  (.bipush 100, 2, 0, 100, 0, 0, 0),
  (.goto 26, 3, 87, 0, 0, 0, 0)]
theorem qX12_decree_54 : jchk 45 54 kX12_decree_54 = true := by decide +kernel
def kX12_decree_64 : List JI := [(.iload_n 1, 1, 1, 0, 0, 0, 0),
  (.iconst 1, 1, 0, 1, 0, 0, 0),
  (.if_icmp .ne 8, 3, 74, 0, 0, 0, 0),
  (.bipush 9, 2, 0, 9, 0, 0, 0),
  (.goto 16, 3, 87, 0, 0, 0, 0)]
theorem qX12_decree_64 : jchk 45 64 kX12_decree_64 = true := by decide +kernel
def kX12_decree_74 : List JI := [(.iload_n 1, 1, 1, 0, 0, 0, 0),
  (.iconst 2, 1, 0, 2, 0, 0, 0),
  (.if_icmp .ne 8, 3, 84, 0, 0, 0, 0),
  (.bipush 60, 2, 0, 60, 0, 0, 0),
  (.goto 6, 3, 87, 0, 0, 0, 0)]
theorem qX12_decree_74 : jchk 45 74 kX12_decree_74 = true := by decide +kernel
def kX12_decree_84 : List JI := [(.sipush 200, 3, 0, 200, 0, 0, 0)]
theorem qX12_decree_84 : jchk 45 84 kX12_decree_84 = true := by decide +kernel
def kX12_decree_87 : List JI := [(.if_icmp .gt 20, 3, 107, 0, 0, 0, 0),
  (.iload 4, 2, 4, 0, 0, 0, 0),
  (.sipush 2000, 3, 0, 2000, 0, 0, 0),
  (.if_icmp .gt 12, 3, 107, 0, 0, 0, 0),
  (.aload_n 0, 1, 0, 0, 0, 0, 0),
  (.getfield 188, 3, 12, 6, 1, 0, 965),
  (.bipush 40, 2, 0, 40, 0, 0, 0),
  (.if_icmp .ne 10, 3, 114, 0, 0, 0, 0)]
theorem qX12_decree_87 : jchk 45 87 kX12_decree_87 = true := by decide +kernel
def kX12_decree_107 : List JI := [(.aload_n 0, 1, 0, 0, 0, 0, 0),
  (.bipush (-6), 2, 0, -6, 0, 0, 0),
  (.invokevirtual 172, 3, 20, 1, 0, 12, 1163),
  (.ireturn, 1, 0, 0, 0, 0, 0)]
theorem qX12_decree_107 : jchk 45 107 kX12_decree_107 = true := by decide +kernel
def kX12_decree_114 : List JI := [(.aload_n 0, 1, 0, 0, 0, 0, 0),
  (.getfield 25, 3, 12, 7, 4, 0, 966),
  (.aload_n 0, 1, 0, 0, 0, 0, 0),
  (.getfield 188, 3, 12, 6, 1, 0, 965),
  (.iload_n 1, 1, 1, 0, 0, 0, 0),
  (.iastore, 1, 0, 0, 0, 0, 0),
  (.aload_n 0, 1, 0, 0, 0, 0, 0),
  (.getfield 28, 3, 12, 8, 4, 0, 967),
  (.aload_n 0, 1, 0, 0, 0, 0, 0),
  (.getfield 188, 3, 12, 6, 1, 0, 965),
  (.iload_n 2, 1, 2, 0, 0, 0, 0),
  (.iastore, 1, 0, 0, 0, 0, 0),
  (.aload_n 0, 1, 0, 0, 0, 0, 0),
  (.getfield 31, 3, 12, 9, 4, 0, 968),
  (.aload_n 0, 1, 0, 0, 0, 0, 0),
  (.getfield 188, 3, 12, 6, 1, 0, 965),
  (.iload_n 3, 1, 3, 0, 0, 0, 0),
  (.iastore, 1, 0, 0, 0, 0, 0),
  (.aload_n 0, 1, 0, 0, 0, 0, 0),
  (.getfield 34, 3, 12, 10, 4, 0, 969),
  (.aload_n 0, 1, 0, 0, 0, 0, 0),
  (.getfield 188, 3, 12, 6, 1, 0, 965),
  (.iload 4, 2, 4, 0, 0, 0, 0),
  (.iastore, 1, 0, 0, 0, 0, 0),
  (.aload_n 0, 1, 0, 0, 0, 0, 0),
  (.dup, 1, 0, 0, 0, 0, 0),
  (.getfield 188, 3, 12, 6, 1, 0, 965),
  (.iconst 1, 1, 0, 1, 0, 0, 0),
  (.iadd, 1, 0, 0, 0, 0, 0),
  (.putfield 188, 3, 12, 6, 1, 0, 965),
  (.aload_n 0, 1, 0, 0, 0, 0, 0),
  (.getfield 188, 3, 12, 6, 1, 0, 965),
  (.iconst 1, 1, 0, 1, 0, 0, 0),
  (.isub, 1, 0, 0, 0, 0, 0),
  (.ireturn, 1, 0, 0, 0, 0, 0)]
theorem qX12_decree_114 : jchk 45 114 kX12_decree_114 = true := by decide +kernel
def kX2_rewind_0 : List JI := [(.aload_n 0, 1, 0, 0, 0, 0, 0),
  (.iconst 0, 1, 0, 0, 0, 0, 0),
  (.putfield 28, 3, 2, 5, 1, 0, 112),
  (.iconst 0, 1, 0, 0, 0, 0, 0),
  (.istore_n 1, 1, 1, 0, 0, 0, 0)]
theorem qX2_rewind_0 : jchk 46 0 kX2_rewind_0 = true := by decide +kernel
def kX2_rewind_7 : List JI := [(.iload_n 1, 1, 1, 0, 0, 0, 0),
  (.iconst 4, 1, 0, 4, 0, 0, 0),
  (.if_icmp .ge 39, 3, 48, 0, 0, 0, 0),
  (.aload_n 0, 1, 0, 0, 0, 0, 0),
  (.getfield 21, 3, 2, 4, 4, 0, 111),
  (.iconst 0, 1, 0, 0, 0, 0, 0),
  (.iload_n 1, 1, 1, 0, 0, 0, 0),
  (.invokestatic 31, 3, 42, 2, 0, 2, 600),
  (.getstatic 35, 3, 0, -5, 1, 0, 601),
  (.iconst 0, 1, 0, 0, 0, 0, 0),
  (.iaload, 1, 0, 0, 0, 0, 0),
  (.iastore, 1, 0, 0, 0, 0, 0),
  (.aload_n 0, 1, 0, 0, 0, 0, 0),
  (.getfield 21, 3, 2, 4, 4, 0, 111),
  (.iconst 1, 1, 0, 1, 0, 0, 0),
  (.iload_n 1, 1, 1, 0, 0, 0, 0),
  (.invokestatic 31, 3, 42, 2, 0, 2, 600),
  (.getstatic 35, 3, 0, -5, 1, 0, 601),
  (.iconst 1, 1, 0, 1, 0, 0, 0),
  (.iaload, 1, 0, 0, 0, 0, 0),
  (.iastore, 1, 0, 0, 0, 0, 0),
  (.iinc 1 1, 3, 1, 1, 0, 0, 0),
  (.goto (-38), 3, 7, 0, 0, 0, 0)]
theorem qX2_rewind_7 : jchk 46 7 kX2_rewind_7 = true := by decide +kernel
def kX2_rewind_48 : List JI := [(.aload_n 0, 1, 0, 0, 0, 0, 0),
  (.getfield 21, 3, 2, 4, 4, 0, 111),
  (.iconst 2, 1, 0, 2, 0, 0, 0),
  (.iconst 0, 1, 0, 0, 0, 0, 0),
  (.invokestatic 31, 3, 42, 2, 0, 2, 600),
  (.getstatic 35, 3, 0, -5, 1, 0, 601),
  (.iconst 2, 1, 0, 2, 0, 0, 0),
  (.iaload, 1, 0, 0, 0, 0, 0),
  (.iastore, 1, 0, 0, 0, 0, 0),
  (.aload_n 0, 1, 0, 0, 0, 0, 0),
  (.getfield 21, 3, 2, 4, 4, 0, 111),
  (.iconst 3, 1, 0, 3, 0, 0, 0),
  (.iconst 0, 1, 0, 0, 0, 0, 0),
  (.invokestatic 31, 3, 42, 2, 0, 2, 600),
  (.getstatic 35, 3, 0, -5, 1, 0, 601),
  (.iconst 3, 1, 0, 3, 0, 0, 0),
  (.iaload, 1, 0, 0, 0, 0, 0),
  (.iastore, 1, 0, 0, 0, 0, 0),
  (.return_, 1, 0, 0, 0, 0, 0)]
theorem qX2_rewind_48 : jchk 46 48 kX2_rewind_48 = true := by decide +kernel
def kX2_goOnTo_0 : List JI := [(.aload_n 0, 1, 0, 0, 0, 0, 0),
  (.getfield 28, 3, 2, 5, 1, 0, 112),
  (.aload_n 0, 1, 0, 0, 0, 0, 0),
  (.getfield 24, 3, 2, 0, 1, 0, 106),
  (.if_icmp .ge 52, 3, 60, 0, 0, 0, 0),
  (.aload_n 0, 1, 0, 0, 0, 0, 0),
  (.getfield 18, 3, 2, 3, 4, 0, 110),
  (.aload_n 0, 1, 0, 0, 0, 0, 0),
  (.getfield 28, 3, 2, 5, 1, 0, 112),
  (.iaload, 1, 0, 0, 0, 0, 0),
  (.iload_n 1, 1, 1, 0, 0, 0, 0),
  (.if_icmp .gt 39, 3, 60, 0, 0, 0, 0),
  (.aload_n 0, 1, 0, 0, 0, 0, 0),
  (.getfield 21, 3, 2, 4, 4, 0, 111),
  (.aload_n 0, 1, 0, 0, 0, 0, 0),
  (.getfield 9, 3, 2, 1, 4, 0, 108),
  (.aload_n 0, 1, 0, 0, 0, 0, 0),
  (.getfield 28, 3, 2, 5, 1, 0, 112),
  (.iaload, 1, 0, 0, 0, 0, 0),
  (.aload_n 0, 1, 0, 0, 0, 0, 0),
  (.getfield 15, 3, 2, 2, 4, 0, 109),
  (.aload_n 0, 1, 0, 0, 0, 0, 0),
  (.getfield 28, 3, 2, 5, 1, 0, 112),
  (.iaload, 1, 0, 0, 0, 0, 0),
  (.iastore, 1, 0, 0, 0, 0, 0),
  (.aload_n 0, 1, 0, 0, 0, 0, 0),
  (.dup, 1, 0, 0, 0, 0, 0),
  (.getfield 28, 3, 2, 5, 1, 0, 112),
  (.iconst 1, 1, 0, 1, 0, 0, 0),
  (.iadd, 1, 0, 0, 0, 0, 0),
  (.putfield 28, 3, 2, 5, 1, 0, 112),
  (.goto (-57), 3, 0, 0, 0, 0, 0)]
theorem qX2_goOnTo_0 : jchk 47 0 kX2_goOnTo_0 = true := by decide +kernel
def kX2_goOnTo_60 : List JI := [(.return_, 1, 0, 0, 0, 0, 0)]
theorem qX2_goOnTo_60 : jchk 47 60 kX2_goOnTo_60 = true := by decide +kernel
def kX2_inForce_0 : List JI := [(.aload_n 0, 1, 0, 0, 0, 0, 0),
  (.getfield 21, 3, 2, 4, 4, 0, 111),
  (.iload_n 1, 1, 1, 0, 0, 0, 0),
  (.iload_n 2, 1, 2, 0, 0, 0, 0),
  (.invokestatic 31, 3, 42, 2, 0, 2, 600),
  (.iaload, 1, 0, 0, 0, 0, 0),
  (.ireturn, 1, 0, 0, 0, 0, 0)]
theorem qX2_inForce_0 : jchk 48 0 kX2_inForce_0 = true := by decide +kernel
def kX11_force_0 : List JI := [(.iload_n 1, 1, 1, 0, 0, 0, 0),
  (.iconst 4, 1, 0, 4, 0, 0, 0),
  (.invokestatic 85, 3, 14, 2, 0, 11, 513),
  (.ifCond .eq 11, 3, 16, 0, 0, 0, 0),
  (.iload_n 2, 1, 2, 0, 0, 0, 0),
  (.iconst 4, 1, 0, 4, 0, 0, 0),
  (.invokestatic 85, 3, 14, 2, 0, 11, 513),
  (.ifCond .ne 7, 3, 20, 0, 0, 0, 0)]
theorem qX11_force_0 : jchk 49 0 kX11_force_0 = true := by decide +kernel
def kX11_force_16 : List JI := [(.iconst (-1), 1, 0, -1, 0, 0, 0),
  (.goto 11, 3, 28, 0, 0, 0, 0)]
theorem qX11_force_16 : jchk 49 16 kX11_force_16 = true := by decide +kernel
def kX11_force_20 : List JI := [(.iload_n 3, 1, 3, 0, 0, 0, 0),
  (.iconst 0, 1, 0, 0, 0, 0, 0),
  (.sipush 2000, 3, 0, 2000, 0, 0, 0),
  (.invokestatic 89, 3, 15, 3, 0, 11, 516)]
theorem qX11_force_20 : jchk 49 20 kX11_force_20 = true := by decide +kernel
def kX11_force_28 : List JI := [(.istore 4, 2, 4, 0, 0, 0, 0),
  (.iload 4, 2, 4, 0, 0, 0, 0),
  (.ifCond .eq 10, 3, 42, 0, 0, 0, 0),
  (.aload_n 0, 1, 0, 0, 0, 0, 0),
  (.iload 4, 2, 4, 0, 0, 0, 0),
  (.invokevirtual 93, 3, 16, 1, 0, 11, 519),
  (.ireturn, 1, 0, 0, 0, 0, 0)]
theorem qX11_force_28 : jchk 49 28 kX11_force_28 = true := by decide +kernel
def kX11_force_42 : List JI := [(.aload_n 0, 1, 0, 0, 0, 0, 0),
  (.getfield 23, 3, 11, 3, 4, 0, 475),
  (.invokevirtual 164, 3, 46, 0, 0, 2, 596),
  (.aload_n 0, 1, 0, 0, 0, 0, 0),
  (.getfield 23, 3, 11, 3, 4, 0, 475),
  (.iload_n 3, 1, 3, 0, 0, 0, 0),
  (.invokevirtual 167, 3, 47, 1, 0, 2, 603),
  (.aload_n 0, 1, 0, 0, 0, 0, 0),
  (.getfield 23, 3, 11, 3, 4, 0, 475),
  (.iload_n 1, 1, 1, 0, 0, 0, 0),
  (.iload_n 2, 1, 2, 0, 0, 0, 0),
  (.invokevirtual 170, 3, 48, 2, 0, 2, 607),
  (.ireturn, 1, 0, 0, 0, 0, 0)]
theorem qX11_force_42 : jchk 49 42 kX11_force_42 = true := by decide +kernel
def kX12_forceAt_0 : List JI := [(.iload_n 1, 1, 1, 0, 0, 0, 0),
  (.iconst 3, 1, 0, 3, 0, 0, 0),
  (.if_icmp .ne 8, 3, 10, 0, 0, 0, 0),
  (.bipush 60, 2, 0, 60, 0, 0, 0),
  (.goto 4, 3, 11, 0, 0, 0, 0)]
theorem qX12_forceAt_0 : jchk 50 0 kX12_forceAt_0 = true := by decide +kernel
def kX12_forceAt_10 : List JI := [(.iconst 0, 1, 0, 0, 0, 0, 0)]
theorem qX12_forceAt_10 : jchk 50 10 kX12_forceAt_10 = true := by decide +kernel
def kX12_forceAt_11 : List JI := [(.istore 4, 2, 4, 0, 0, 0, 0),
  (.iconst (-1), 1, 0, -1, 0, 0, 0),
  (.istore 5, 2, 5, 0, 0, 0, 0),
  (.iconst 0, 1, 0, 0, 0, 0, 0),
  (.istore 6, 2, 6, 0, 0, 0, 0)]
theorem qX12_forceAt_11 : jchk 50 11 kX12_forceAt_11 = true := by decide +kernel
def kX12_forceAt_19 : List JI := [(.iload 6, 2, 6, 0, 0, 0, 0),
  (.aload_n 0, 1, 0, 0, 0, 0, 0),
  (.getfield 188, 3, 12, 6, 1, 0, 965),
  (.if_icmp .ge 89, 3, 114, 0, 0, 0, 0),
  (.aload_n 0, 1, 0, 0, 0, 0, 0),
  (.getfield 25, 3, 12, 7, 4, 0, 966),
  (.iload 6, 2, 6, 0, 0, 0, 0),
  (.iaload, 1, 0, 0, 0, 0, 0),
  (.iload_n 1, 1, 1, 0, 0, 0, 0),
  (.if_icmp .ne 34, 3, 70, 0, 0, 0, 0),
  (.iload_n 1, 1, 1, 0, 0, 0, 0),
  (.iconst 1, 1, 0, 1, 0, 0, 0),
  (.if_icmp .gt 14, 3, 55, 0, 0, 0, 0),
  (.aload_n 0, 1, 0, 0, 0, 0, 0),
  (.getfield 28, 3, 12, 8, 4, 0, 967),
  (.iload 6, 2, 6, 0, 0, 0, 0),
  (.iaload, 1, 0, 0, 0, 0, 0),
  (.iload_n 2, 1, 2, 0, 0, 0, 0),
  (.if_icmp .ne 18, 3, 70, 0, 0, 0, 0)]
theorem qX12_forceAt_19 : jchk 50 19 kX12_forceAt_19 = true := by decide +kernel
def kX12_forceAt_55 : List JI := [(.aload_n 0, 1, 0, 0, 0, 0, 0),
  (.getfield 34, 3, 12, 10, 4, 0, 969),
  (.iload 6, 2, 6, 0, 0, 0, 0),
  (.iaload, 1, 0, 0, 0, 0, 0),
  (.iload_n 3, 1, 3, 0, 0, 0, 0),
  (.if_icmp .gt 7, 3, 70, 0, 0, 0, 0),
  (.iconst 1, 1, 0, 1, 0, 0, 0),
  (.goto 4, 3, 71, 0, 0, 0, 0)]
theorem qX12_forceAt_55 : jchk 50 55 kX12_forceAt_55 = true := by decide +kernel
def kX12_forceAt_70 : List JI := [(.iconst 0, 1, 0, 0, 0, 0, 0)]
theorem qX12_forceAt_70 : jchk 50 70 kX12_forceAt_70 = true := by decide +kernel
def kX12_forceAt_71 : List JI := [(.istore 7, 2, 7, 0, 0, 0, 0),
  (.iload 7, 2, 7, 0, 0, 0, 0),
  (.ifCond .eq 33, 3, 108, 0, 0, 0, 0),
  (.aload_n 0, 1, 0, 0, 0, 0, 0),
  (.getfield 34, 3, 12, 10, 4, 0, 969),
  (.iload 6, 2, 6, 0, 0, 0, 0),
  (.iaload, 1, 0, 0, 0, 0, 0),
  (.iload 5, 2, 5, 0, 0, 0, 0),
  (.if_icmp .lt 21, 3, 108, 0, 0, 0, 0),
  (.aload_n 0, 1, 0, 0, 0, 0, 0),
  (.getfield 31, 3, 12, 9, 4, 0, 968),
  (.iload 6, 2, 6, 0, 0, 0, 0),
  (.iaload, 1, 0, 0, 0, 0, 0),
  (.istore 4, 2, 4, 0, 0, 0, 0),
  (.aload_n 0, 1, 0, 0, 0, 0, 0),
  (.getfield 34, 3, 12, 10, 4, 0, 969),
  (.iload 6, 2, 6, 0, 0, 0, 0),
  (.iaload, 1, 0, 0, 0, 0, 0),
  (.istore 5, 2, 5, 0, 0, 0, 0)]
theorem qX12_forceAt_71 : jchk 50 71 kX12_forceAt_71 = true := by decide +kernel
def kX12_forceAt_108 : List JI := [(.iinc 6 1, 3, 6, 1, 0, 0, 0),
  (.goto (-92), 3, 19, 0, 0, 0, 0)]
theorem qX12_forceAt_108 : jchk 50 108 kX12_forceAt_108 = true := by decide +kernel
def kX12_forceAt_114 : List JI := [(.iload 4, 2, 4, 0, 0, 0, 0),
  (.ireturn, 1, 0, 0, 0, 0, 0)]
theorem qX12_forceAt_114 : jchk 50 114 kX12_forceAt_114 = true := by decide +kernel
def kX12_force_0 : List JI := [(.iload_n 1, 1, 1, 0, 0, 0, 0),
  (.iconst 0, 1, 0, 0, 0, 0, 0),
  (.iconst 3, 1, 0, 3, 0, 0, 0),
  (.invokestatic 168, 3, 19, 3, 0, 12, 1160),
  (.ifCond .eq 12, 3, 18, 0, 0, 0, 0),
  (.iload_n 2, 1, 2, 0, 0, 0, 0),
  (.iconst 0, 1, 0, 0, 0, 0, 0),
  (.iconst 3, 1, 0, 3, 0, 0, 0),
  (.invokestatic 168, 3, 19, 3, 0, 12, 1160),
  (.ifCond .ne 9, 3, 24, 0, 0, 0, 0)]
theorem qX12_force_0 : jchk 51 0 kX12_force_0 = true := by decide +kernel
def kX12_force_18 : List JI := [(.aload_n 0, 1, 0, 0, 0, 0, 0),
  (.iconst (-1), 1, 0, -1, 0, 0, 0),
  (.invokevirtual 172, 3, 20, 1, 0, 12, 1163),
  (.ireturn, 1, 0, 0, 0, 0, 0)]
theorem qX12_force_18 : jchk 51 18 kX12_force_18 = true := by decide +kernel
def kX12_force_24 : List JI := [(.iload_n 3, 1, 3, 0, 0, 0, 0),
  (.ifCond .ge 10, 3, 35, 0, 0, 0, 0),
  (.aload_n 0, 1, 0, 0, 0, 0, 0),
  (.bipush (-4), 2, 0, -4, 0, 0, 0),
  (.invokevirtual 172, 3, 20, 1, 0, 12, 1163),
  (.ireturn, 1, 0, 0, 0, 0, 0)]
theorem qX12_force_24 : jchk 51 24 kX12_force_24 = true := by decide +kernel
def kX12_force_35 : List JI := [(.iload_n 3, 1, 3, 0, 0, 0, 0),
  (.sipush 2000, 3, 0, 2000, 0, 0, 0),
  (.if_icmp .le 12, 3, 51, 0, 0, 0, 0),
  (.aload_n 0, 1, 0, 0, 0, 0, 0),
  (.bipush (-6), 2, 0, -6, 0, 0, 0),
  (.invokevirtual 172, 3, 20, 1, 0, 12, 1163),
  (.goto 10, 3, 58, 0, 0, 0, 0)]
theorem qX12_force_35 : jchk 51 35 kX12_force_35 = true := by decide +kernel
def kX12_force_51 : List JI := [(.aload_n 0, 1, 0, 0, 0, 0, 0),
  (.iload_n 1, 1, 1, 0, 0, 0, 0),
  (.iload_n 2, 1, 2, 0, 0, 0, 0),
  (.iload_n 3, 1, 3, 0, 0, 0, 0),
  (.invokevirtual 191, 3, 50, 3, 0, 12, 1213)]
theorem qX12_force_51 : jchk 51 51 kX12_force_51 = true := by decide +kernel
def kX12_force_58 : List JI := [(.ireturn, 1, 0, 0, 0, 0, 0)]
theorem qX12_force_58 : jchk 51 58 kX12_force_58 = true := by decide +kernel
def kX11_task_0 : List JI := [(.iload_n 1, 1, 1, 0, 0, 0, 0),
  (.iconst 3, 1, 0, 3, 0, 0, 0),
  (.invokestatic 85, 3, 14, 2, 0, 11, 513),
  (.ifCond .eq 20, 3, 25, 0, 0, 0, 0),
  (.iload_n 2, 1, 2, 0, 0, 0, 0),
  (.bipush 6, 2, 0, 6, 0, 0, 0),
  (.invokestatic 85, 3, 14, 2, 0, 11, 513),
  (.ifCond .eq 11, 3, 25, 0, 0, 0, 0),
  (.iload_n 3, 1, 3, 0, 0, 0, 0),
  (.iconst 4, 1, 0, 4, 0, 0, 0),
  (.invokestatic 85, 3, 14, 2, 0, 11, 513),
  (.ifCond .ne 7, 3, 29, 0, 0, 0, 0)]
theorem qX11_task_0 : jchk 52 0 kX11_task_0 = true := by decide +kernel
def kX11_task_25 : List JI := [(.iconst (-1), 1, 0, -1, 0, 0, 0),
  (.goto 12, 3, 38, 0, 0, 0, 0)]
theorem qX11_task_25 : jchk 52 25 kX11_task_25 = true := by decide +kernel
def kX11_task_29 : List JI := [(.iload 4, 2, 4, 0, 0, 0, 0),
  (.iconst 0, 1, 0, 0, 0, 0, 0),
  (.sipush 2000, 3, 0, 2000, 0, 0, 0),
  (.invokestatic 89, 3, 15, 3, 0, 11, 516)]
theorem qX11_task_29 : jchk 52 29 kX11_task_29 = true := by decide +kernel
def kX11_task_38 : List JI := [(.istore 5, 2, 5, 0, 0, 0, 0),
  (.iload 5, 2, 5, 0, 0, 0, 0),
  (.ifCond .eq 10, 3, 52, 0, 0, 0, 0),
  (.aload_n 0, 1, 0, 0, 0, 0, 0),
  (.iload 5, 2, 5, 0, 0, 0, 0),
  (.invokevirtual 93, 3, 16, 1, 0, 11, 519),
  (.ireturn, 1, 0, 0, 0, 0, 0)]
theorem qX11_task_38 : jchk 52 38 kX11_task_38 = true := by decide +kernel
def kX11_task_52 : List JI := [(.aload_n 0, 1, 0, 0, 0, 0, 0),
  (.getfield 81, 3, 11, 11, 4, 0, 483),
  (.invokevirtual 97, 3, 17, 0, 0, 7, 523),
  (.aload_n 0, 1, 0, 0, 0, 0, 0),
  (.getfield 30, 3, 11, 4, 4, 0, 476),
  (.getfield 173, 3, 9, 1, 4, 0, 138),
  (.iload_n 1, 1, 1, 0, 0, 0, 0),
  (.aaload, 1, 0, 0, 0, 0, 0),
  (.iload_n 2, 1, 2, 0, 0, 0, 0),
  (.iaload, 1, 0, 0, 0, 0, 0),
  (.istore 6, 2, 6, 0, 0, 0, 0),
  (.aload_n 0, 1, 0, 0, 0, 0, 0),
  (.getfield 30, 3, 11, 4, 4, 0, 476),
  (.getfield 176, 3, 9, 0, 4, 0, 135),
  (.iload_n 1, 1, 1, 0, 0, 0, 0),
  (.aaload, 1, 0, 0, 0, 0, 0),
  (.iload_n 2, 1, 2, 0, 0, 0, 0),
  (.iload_n 3, 1, 3, 0, 0, 0, 0),
  (.iastore, 1, 0, 0, 0, 0, 0),
  (.aload_n 0, 1, 0, 0, 0, 0, 0),
  (.getfield 30, 3, 11, 4, 4, 0, 476),
  (.getfield 173, 3, 9, 1, 4, 0, 138),
  (.iload_n 1, 1, 1, 0, 0, 0, 0),
  (.aaload, 1, 0, 0, 0, 0, 0),
  (.iload_n 2, 1, 2, 0, 0, 0, 0),
  (.iload 4, 2, 4, 0, 0, 0, 0),
  (.iastore, 1, 0, 0, 0, 0, 0),
  (.iload 6, 2, 6, 0, 0, 0, 0),
  (.ireturn, 1, 0, 0, 0, 0, 0)]
theorem qX11_task_52 : jchk 52 52 kX11_task_52 = true := by decide +kernel
def kX12_task_0 : List JI := [(.iload_n 1, 1, 1, 0, 0, 0, 0),
  (.iconst 0, 1, 0, 0, 0, 0, 0),
  (.iconst 2, 1, 0, 2, 0, 0, 0),
  (.invokestatic 168, 3, 19, 3, 0, 12, 1160),
  (.ifCond .eq 21, 3, 27, 0, 0, 0, 0),
  (.iload_n 2, 1, 2, 0, 0, 0, 0),
  (.iconst 0, 1, 0, 0, 0, 0, 0),
  (.iconst 5, 1, 0, 5, 0, 0, 0),
  (.invokestatic 168, 3, 19, 3, 0, 12, 1160),
  (.ifCond .eq 12, 3, 27, 0, 0, 0, 0),
  (.iload_n 3, 1, 3, 0, 0, 0, 0),
  (.iconst 0, 1, 0, 0, 0, 0, 0),
  (.iconst 3, 1, 0, 3, 0, 0, 0),
  (.invokestatic 168, 3, 19, 3, 0, 12, 1160),
  (.ifCond .ne 9, 3, 33, 0, 0, 0, 0)]
theorem qX12_task_0 : jchk 53 0 kX12_task_0 = true := by decide +kernel
def kX12_task_27 : List JI := [(.aload_n 0, 1, 0, 0, 0, 0, 0),
  (.iconst (-1), 1, 0, -1, 0, 0, 0),
  (.invokevirtual 172, 3, 20, 1, 0, 12, 1163),
  (.ireturn, 1, 0, 0, 0, 0, 0)]
theorem qX12_task_27 : jchk 53 27 kX12_task_27 = true := by decide +kernel
def kX12_task_33 : List JI := [(.iload 4, 2, 4, 0, 0, 0, 0),
  (.ifCond .ge 10, 3, 45, 0, 0, 0, 0),
  (.aload_n 0, 1, 0, 0, 0, 0, 0),
  (.bipush (-4), 2, 0, -4, 0, 0, 0),
  (.invokevirtual 172, 3, 20, 1, 0, 12, 1163),
  (.ireturn, 1, 0, 0, 0, 0, 0)]
theorem qX12_task_33 : jchk 53 33 kX12_task_33 = true := by decide +kernel
def kX12_task_45 : List JI := [(.iload 4, 2, 4, 0, 0, 0, 0),
  (.sipush 2000, 3, 0, 2000, 0, 0, 0),
  (.if_icmp .le 10, 3, 60, 0, 0, 0, 0),
  (.aload_n 0, 1, 0, 0, 0, 0, 0),
  (.bipush (-6), 2, 0, -6, 0, 0, 0),
  (.invokevirtual 172, 3, 20, 1, 0, 12, 1163),
  (.ireturn, 1, 0, 0, 0, 0, 0)]
theorem qX12_task_45 : jchk 53 45 kX12_task_45 = true := by decide +kernel
def kX12_task_60 : List JI := [(.aload_n 0, 1, 0, 0, 0, 0, 0),
  (.getfield 40, 3, 12, 12, 4, 0, 971),
  (.bipush 6, 2, 0, 6, 0, 0, 0),
  (.iload_n 1, 1, 1, 0, 0, 0, 0),
  (.imul, 1, 0, 0, 0, 0, 0),
  (.iload_n 2, 1, 2, 0, 0, 0, 0),
  (.iadd, 1, 0, 0, 0, 0, 0),
  (.iaload, 1, 0, 0, 0, 0, 0),
  (.istore 5, 2, 5, 0, 0, 0, 0),
  (.aload_n 0, 1, 0, 0, 0, 0, 0),
  (.getfield 37, 3, 12, 11, 4, 0, 970),
  (.bipush 6, 2, 0, 6, 0, 0, 0),
  (.iload_n 1, 1, 1, 0, 0, 0, 0),
  (.imul, 1, 0, 0, 0, 0, 0),
  (.iload_n 2, 1, 2, 0, 0, 0, 0),
  (.iadd, 1, 0, 0, 0, 0, 0),
  (.iload_n 3, 1, 3, 0, 0, 0, 0),
  (.iastore, 1, 0, 0, 0, 0, 0),
  (.aload_n 0, 1, 0, 0, 0, 0, 0),
  (.getfield 40, 3, 12, 12, 4, 0, 971),
  (.bipush 6, 2, 0, 6, 0, 0, 0),
  (.iload_n 1, 1, 1, 0, 0, 0, 0),
  (.imul, 1, 0, 0, 0, 0, 0),
  (.iload_n 2, 1, 2, 0, 0, 0, 0),
  (.iadd, 1, 0, 0, 0, 0, 0),
  (.iload 4, 2, 4, 0, 0, 0, 0),
  (.iastore, 1, 0, 0, 0, 0, 0),
  (.iload 5, 2, 5, 0, 0, 0, 0),
  (.ireturn, 1, 0, 0, 0, 0, 0)]
theorem qX12_task_60 : jchk 53 60 kX12_task_60 = true := by decide +kernel
def kX11_needs_0 : List JI := [(.iload_n 1, 1, 1, 0, 0, 0, 0),
  (.iconst 3, 1, 0, 3, 0, 0, 0),
  (.invokestatic 85, 3, 14, 2, 0, 11, 513),
  (.ifCond .eq 21, 3, 26, 0, 0, 0, 0),
  (.iload_n 2, 1, 2, 0, 0, 0, 0),
  (.bipush 6, 2, 0, 6, 0, 0, 0),
  (.invokestatic 85, 3, 14, 2, 0, 11, 513),
  (.ifCond .eq 12, 3, 26, 0, 0, 0, 0),
  (.iload_n 3, 1, 3, 0, 0, 0, 0),
  (.bipush 6, 2, 0, 6, 0, 0, 0),
  (.invokestatic 85, 3, 14, 2, 0, 11, 513),
  (.ifCond .ne 7, 3, 30, 0, 0, 0, 0)]
theorem qX11_needs_0 : jchk 54 0 kX11_needs_0 = true := by decide +kernel
def kX11_needs_26 : List JI := [(.iconst (-1), 1, 0, -1, 0, 0, 0),
  (.goto 12, 3, 39, 0, 0, 0, 0)]
theorem qX11_needs_26 : jchk 54 26 kX11_needs_26 = true := by decide +kernel
def kX11_needs_30 : List JI := [(.iload 4, 2, 4, 0, 0, 0, 0),
  (.iconst 0, 1, 0, 0, 0, 0, 0),
  (.sipush 500, 3, 0, 500, 0, 0, 0),
  (.invokestatic 89, 3, 15, 3, 0, 11, 516)]
theorem qX11_needs_30 : jchk 54 30 kX11_needs_30 = true := by decide +kernel
def kX11_needs_39 : List JI := [(.istore 5, 2, 5, 0, 0, 0, 0),
  (.iload 5, 2, 5, 0, 0, 0, 0),
  (.ifCond .eq 10, 3, 53, 0, 0, 0, 0),
  (.aload_n 0, 1, 0, 0, 0, 0, 0),
  (.iload 5, 2, 5, 0, 0, 0, 0),
  (.invokevirtual 93, 3, 16, 1, 0, 11, 519),
  (.ireturn, 1, 0, 0, 0, 0, 0)]
theorem qX11_needs_39 : jchk 54 39 kX11_needs_39 = true := by decide +kernel
def kX11_needs_53 : List JI := [(.aload_n 0, 1, 0, 0, 0, 0, 0),
  (.getfield 81, 3, 11, 11, 4, 0, 483),
  (.invokevirtual 97, 3, 17, 0, 0, 7, 523),
  (.iload_n 2, 1, 2, 0, 0, 0, 0),
  (.bipush 6, 2, 0, 6, 0, 0, 0),
  (.imul, 1, 0, 0, 0, 0, 0),
  (.iload_n 3, 1, 3, 0, 0, 0, 0),
  (.iadd, 1, 0, 0, 0, 0, 0),
  (.istore 6, 2, 6, 0, 0, 0, 0),
  (.aload_n 0, 1, 0, 0, 0, 0, 0),
  (.getfield 30, 3, 11, 4, 4, 0, 476),
  (.getfield 179, 3, 9, 2, 4, 0, 141),
  (.iload_n 1, 1, 1, 0, 0, 0, 0),
  (.aaload, 1, 0, 0, 0, 0, 0),
  (.iload 6, 2, 6, 0, 0, 0, 0),
  (.iaload, 1, 0, 0, 0, 0, 0),
  (.istore 7, 2, 7, 0, 0, 0, 0),
  (.aload_n 0, 1, 0, 0, 0, 0, 0),
  (.getfield 30, 3, 11, 4, 4, 0, 476),
  (.getfield 179, 3, 9, 2, 4, 0, 141),
  (.iload_n 1, 1, 1, 0, 0, 0, 0),
  (.aaload, 1, 0, 0, 0, 0, 0),
  (.iload 6, 2, 6, 0, 0, 0, 0),
  (.iload 4, 2, 4, 0, 0, 0, 0),
  (.iastore, 1, 0, 0, 0, 0, 0),
  (.iload 7, 2, 7, 0, 0, 0, 0),
  (.ireturn, 1, 0, 0, 0, 0, 0)]
theorem qX11_needs_53 : jchk 54 53 kX11_needs_53 = true := by decide +kernel
def kX12_needs_0 : List JI := [(.iload_n 1, 1, 1, 0, 0, 0, 0),
  (.iconst 0, 1, 0, 0, 0, 0, 0),
  (.iconst 2, 1, 0, 2, 0, 0, 0),
  (.invokestatic 168, 3, 19, 3, 0, 12, 1160),
  (.ifCond .eq 21, 3, 27, 0, 0, 0, 0),
  (.iload_n 2, 1, 2, 0, 0, 0, 0),
  (.iconst 0, 1, 0, 0, 0, 0, 0),
  (.iconst 5, 1, 0, 5, 0, 0, 0),
  (.invokestatic 168, 3, 19, 3, 0, 12, 1160),
  (.ifCond .eq 12, 3, 27, 0, 0, 0, 0),
  (.iload_n 3, 1, 3, 0, 0, 0, 0),
  (.iconst 0, 1, 0, 0, 0, 0, 0),
  (.iconst 5, 1, 0, 5, 0, 0, 0),
  (.invokestatic 168, 3, 19, 3, 0, 12, 1160),
  (.ifCond .ne 9, 3, 33, 0, 0, 0, 0)]
theorem qX12_needs_0 : jchk 55 0 kX12_needs_0 = true := by decide +kernel
def kX12_needs_27 : List JI := [(.aload_n 0, 1, 0, 0, 0, 0, 0),
  (.iconst (-1), 1, 0, -1, 0, 0, 0),
  (.invokevirtual 172, 3, 20, 1, 0, 12, 1163),
  (.ireturn, 1, 0, 0, 0, 0, 0)]
theorem qX12_needs_27 : jchk 55 27 kX12_needs_27 = true := by decide +kernel
def kX12_needs_33 : List JI := [(.iload 4, 2, 4, 0, 0, 0, 0),
  (.ifCond .ge 10, 3, 45, 0, 0, 0, 0),
  (.aload_n 0, 1, 0, 0, 0, 0, 0),
  (.bipush (-4), 2, 0, -4, 0, 0, 0),
  (.invokevirtual 172, 3, 20, 1, 0, 12, 1163),
  (.ireturn, 1, 0, 0, 0, 0, 0)]
theorem qX12_needs_33 : jchk 55 33 kX12_needs_33 = true := by decide +kernel
def kX12_needs_45 : List JI := [(.iload 4, 2, 4, 0, 0, 0, 0),
  (.sipush 500, 3, 0, 500, 0, 0, 0),
  (.if_icmp .le 10, 3, 60, 0, 0, 0, 0),
  (.aload_n 0, 1, 0, 0, 0, 0, 0),
  (.bipush (-6), 2, 0, -6, 0, 0, 0),
  (.invokevirtual 172, 3, 20, 1, 0, 12, 1163),
  (.ireturn, 1, 0, 0, 0, 0, 0)]
theorem qX12_needs_45 : jchk 55 45 kX12_needs_45 = true := by decide +kernel
def kX12_needs_60 : List JI := [(.bipush 6, 2, 0, 6, 0, 0, 0),
  (.bipush 6, 2, 0, 6, 0, 0, 0),
  (.iload_n 1, 1, 1, 0, 0, 0, 0),
  (.imul, 1, 0, 0, 0, 0, 0),
  (.iload_n 2, 1, 2, 0, 0, 0, 0),
  (.iadd, 1, 0, 0, 0, 0, 0),
  (.imul, 1, 0, 0, 0, 0, 0),
  (.iload_n 3, 1, 3, 0, 0, 0, 0),
  (.iadd, 1, 0, 0, 0, 0, 0),
  (.istore 5, 2, 5, 0, 0, 0, 0),
  (.aload_n 0, 1, 0, 0, 0, 0, 0),
  (.getfield 43, 3, 12, 13, 4, 0, 972),
  (.iload 5, 2, 5, 0, 0, 0, 0),
  (.iaload, 1, 0, 0, 0, 0, 0),
  (.istore 6, 2, 6, 0, 0, 0, 0),
  (.aload_n 0, 1, 0, 0, 0, 0, 0),
  (.getfield 43, 3, 12, 13, 4, 0, 972),
  (.iload 5, 2, 5, 0, 0, 0, 0),
  (.iload 4, 2, 4, 0, 0, 0, 0),
  (.iastore, 1, 0, 0, 0, 0, 0),
  (.iload 6, 2, 6, 0, 0, 0, 0),
  (.ireturn, 1, 0, 0, 0, 0, 0)]
theorem qX12_needs_60 : jchk 55 60 kX12_needs_60 = true := by decide +kernel
def kX4_begin_0 : List JI := [(.aload_n 0, 1, 0, 0, 0, 0, 0),
  (.iload_n 1, 1, 1, 0, 0, 0, 0),
  (.putfield 22, 3, 4, 0, 1, 0, 163),
  (.aload_n 0, 1, 0, 0, 0, 0, 0),
  (.iload_n 2, 1, 2, 0, 0, 0, 0),
  (.putfield 25, 3, 4, 1, 1, 0, 165),
  (.aload_n 0, 1, 0, 0, 0, 0, 0),
  (.iload_n 3, 1, 3, 0, 0, 0, 0),
  (.putfield 28, 3, 4, 2, 1, 0, 168),
  (.aload_n 0, 1, 0, 0, 0, 0, 0),
  (.iconst 0, 1, 0, 0, 0, 0, 0),
  (.putfield 18, 3, 4, 3, 1, 0, 171),
  (.aload_n 0, 1, 0, 0, 0, 0, 0),
  (.bipush (-9), 2, 0, -9, 0, 0, 0),
  (.putfield 31, 3, 4, 4, 1, 0, 175),
  (.aload_n 0, 1, 0, 0, 0, 0, 0),
  (.bipush (-9), 2, 0, -9, 0, 0, 0),
  (.putfield 34, 3, 4, 9, 1, 0, 191),
  (.return_, 1, 0, 0, 0, 0, 0)]
theorem qX4_begin_0 : jchk 56 0 kX4_begin_0 = true := by decide +kernel
def kX10_addHull_0 : List JI := [(.aload_n 0, 1, 0, 0, 0, 0, 0),
  (.getfield 23, 3, 10, 3, 4, 0, 233),
  (.aload_n 0, 1, 0, 0, 0, 0, 0),
  (.getfield 40, 3, 10, 4, 1, 0, 236),
  (.aaload, 1, 0, 0, 0, 0, 0),
  (.iload_n 1, 1, 1, 0, 0, 0, 0),
  (.iload_n 2, 1, 2, 0, 0, 0, 0),
  (.iload_n 3, 1, 3, 0, 0, 0, 0),
  (.invokevirtual 44, 3, 56, 3, 0, 4, 627),
  (.aload_n 0, 1, 0, 0, 0, 0, 0),
  (.dup, 1, 0, 0, 0, 0, 0),
  (.getfield 40, 3, 10, 4, 1, 0, 236),
  (.iconst 1, 1, 0, 1, 0, 0, 0),
  (.iadd, 1, 0, 0, 0, 0, 0),
  (.putfield 40, 3, 10, 4, 1, 0, 236),
  (.aload_n 0, 1, 0, 0, 0, 0, 0),
  (.getfield 40, 3, 10, 4, 1, 0, 236),
  (.iconst 1, 1, 0, 1, 0, 0, 0),
  (.isub, 1, 0, 0, 0, 0, 0),
  (.ireturn, 1, 0, 0, 0, 0, 0)]
theorem qX10_addHull_0 : jchk 57 0 kX10_addHull_0 = true := by decide +kernel
def kX11_hull_0 : List JI := [(.iload_n 1, 1, 1, 0, 0, 0, 0),
  (.iconst 3, 1, 0, 3, 0, 0, 0),
  (.invokestatic 85, 3, 14, 2, 0, 11, 513),
  (.ifCond .ne 9, 3, 14, 0, 0, 0, 0),
  (.aload_n 0, 1, 0, 0, 0, 0, 0),
  (.iconst (-1), 1, 0, -1, 0, 0, 0),
  (.invokevirtual 93, 3, 16, 1, 0, 11, 519),
  (.ireturn, 1, 0, 0, 0, 0, 0)]
theorem qX11_hull_0 : jchk 58 0 kX11_hull_0 = true := by decide +kernel
def kX11_hull_14 : List JI := [(.iload_n 2, 1, 2, 0, 0, 0, 0),
  (.ifCond .lt 7, 3, 22, 0, 0, 0, 0),
  (.iload_n 3, 1, 3, 0, 0, 0, 0),
  (.ifCond .ge 10, 3, 29, 0, 0, 0, 0)]
theorem qX11_hull_14 : jchk 58 14 kX11_hull_14 = true := by decide +kernel
def kX11_hull_22 : List JI := [(.aload_n 0, 1, 0, 0, 0, 0, 0),
  (.bipush (-4), 2, 0, -4, 0, 0, 0),
  (.invokevirtual 93, 3, 16, 1, 0, 11, 519),
  (.ireturn, 1, 0, 0, 0, 0, 0)]
theorem qX11_hull_22 : jchk 58 22 kX11_hull_22 = true := by decide +kernel
def kX11_hull_29 : List JI := [(.iload_n 2, 1, 2, 0, 0, 0, 0),
  (.bipush 99, 2, 0, 99, 0, 0, 0),
  (.if_icmp .gt 22, 3, 54, 0, 0, 0, 0),
  (.iload_n 3, 1, 3, 0, 0, 0, 0),
  (.sipush 2000, 3, 0, 2000, 0, 0, 0),
  (.if_icmp .gt 15, 3, 54, 0, 0, 0, 0),
  (.aload_n 0, 1, 0, 0, 0, 0, 0),
  (.getfield 37, 3, 11, 5, 4, 0, 477),
  (.getfield 182, 3, 10, 4, 1, 0, 238),
  (.bipush 16, 2, 0, 16, 0, 0, 0),
  (.if_icmp .lt 10, 3, 61, 0, 0, 0, 0)]
theorem qX11_hull_29 : jchk 58 29 kX11_hull_29 = true := by decide +kernel
def kX11_hull_54 : List JI := [(.aload_n 0, 1, 0, 0, 0, 0, 0),
  (.bipush (-6), 2, 0, -6, 0, 0, 0),
  (.invokevirtual 93, 3, 16, 1, 0, 11, 519),
  (.ireturn, 1, 0, 0, 0, 0, 0)]
theorem qX11_hull_54 : jchk 58 54 kX11_hull_54 = true := by decide +kernel
def kX11_hull_61 : List JI := [(.aload_n 0, 1, 0, 0, 0, 0, 0),
  (.getfield 81, 3, 11, 11, 4, 0, 483),
  (.invokevirtual 97, 3, 17, 0, 0, 7, 523),
  (.aload_n 0, 1, 0, 0, 0, 0, 0),
  (.getfield 37, 3, 11, 5, 4, 0, 477),
  (.iload_n 1, 1, 1, 0, 0, 0, 0),
  (.iload_n 2, 1, 2, 0, 0, 0, 0),
  (.iload_n 3, 1, 3, 0, 0, 0, 0),
  (.invokevirtual 185, 3, 57, 3, 0, 10, 623),
  (.ireturn, 1, 0, 0, 0, 0, 0)]
theorem qX11_hull_61 : jchk 58 61 kX11_hull_61 = true := by decide +kernel
def kX12_hull_0 : List JI := [(.iload_n 1, 1, 1, 0, 0, 0, 0),
  (.iconst 0, 1, 0, 0, 0, 0, 0),
  (.iconst 2, 1, 0, 2, 0, 0, 0),
  (.invokestatic 168, 3, 19, 3, 0, 12, 1160),
  (.ifCond .ne 9, 3, 15, 0, 0, 0, 0),
  (.aload_n 0, 1, 0, 0, 0, 0, 0),
  (.iconst (-1), 1, 0, -1, 0, 0, 0),
  (.invokevirtual 172, 3, 20, 1, 0, 12, 1163),
  (.ireturn, 1, 0, 0, 0, 0, 0)]
theorem qX12_hull_0 : jchk 59 0 kX12_hull_0 = true := by decide +kernel
def kX12_hull_15 : List JI := [(.iload_n 2, 1, 2, 0, 0, 0, 0),
  (.ifCond .lt 7, 3, 23, 0, 0, 0, 0),
  (.iload_n 3, 1, 3, 0, 0, 0, 0),
  (.ifCond .ge 10, 3, 30, 0, 0, 0, 0)]
theorem qX12_hull_15 : jchk 59 15 kX12_hull_15 = true := by decide +kernel
def kX12_hull_23 : List JI := [(.aload_n 0, 1, 0, 0, 0, 0, 0),
  (.bipush (-4), 2, 0, -4, 0, 0, 0),
  (.invokevirtual 172, 3, 20, 1, 0, 12, 1163),
  (.ireturn, 1, 0, 0, 0, 0, 0)]
theorem qX12_hull_23 : jchk 59 23 kX12_hull_23 = true := by decide +kernel
def kX12_hull_30 : List JI := [(.iload_n 2, 1, 2, 0, 0, 0, 0),
  (.bipush 99, 2, 0, 99, 0, 0, 0),
  (.if_icmp .gt 19, 3, 52, 0, 0, 0, 0),
  (.iload_n 3, 1, 3, 0, 0, 0, 0),
  (.sipush 2000, 3, 0, 2000, 0, 0, 0),
  (.if_icmp .gt 12, 3, 52, 0, 0, 0, 0),
  (.aload_n 0, 1, 0, 0, 0, 0, 0),
  (.getfield 195, 3, 12, 14, 1, 0, 973),
  (.bipush 16, 2, 0, 16, 0, 0, 0),
  (.if_icmp .ne 10, 3, 59, 0, 0, 0, 0)]
theorem qX12_hull_30 : jchk 59 30 kX12_hull_30 = true := by decide +kernel
def kX12_hull_52 : List JI := [(.aload_n 0, 1, 0, 0, 0, 0, 0),
  (.bipush (-6), 2, 0, -6, 0, 0, 0),
  (.invokevirtual 172, 3, 20, 1, 0, 12, 1163),
  (.ireturn, 1, 0, 0, 0, 0, 0)]
theorem qX12_hull_52 : jchk 59 52 kX12_hull_52 = true := by decide +kernel
def kX12_hull_59 : List JI := [(.aload_n 0, 1, 0, 0, 0, 0, 0),
  (.getfield 46, 3, 12, 15, 4, 0, 974),
  (.aload_n 0, 1, 0, 0, 0, 0, 0),
  (.getfield 195, 3, 12, 14, 1, 0, 973),
  (.iload_n 1, 1, 1, 0, 0, 0, 0),
  (.iastore, 1, 0, 0, 0, 0, 0),
  (.aload_n 0, 1, 0, 0, 0, 0, 0),
  (.getfield 49, 3, 12, 16, 4, 0, 975),
  (.aload_n 0, 1, 0, 0, 0, 0, 0),
  (.getfield 195, 3, 12, 14, 1, 0, 973),
  (.iload_n 2, 1, 2, 0, 0, 0, 0),
  (.iastore, 1, 0, 0, 0, 0, 0),
  (.aload_n 0, 1, 0, 0, 0, 0, 0),
  (.getfield 52, 3, 12, 17, 4, 0, 976),
  (.aload_n 0, 1, 0, 0, 0, 0, 0),
  (.getfield 195, 3, 12, 14, 1, 0, 973),
  (.iload_n 3, 1, 3, 0, 0, 0, 0),
  (.iastore, 1, 0, 0, 0, 0, 0),
  (.aload_n 0, 1, 0, 0, 0, 0, 0),
  (.getfield 55, 3, 12, 18, 4, 0, 977),
  (.aload_n 0, 1, 0, 0, 0, 0, 0),
  (.getfield 195, 3, 12, 14, 1, 0, 973),
  (.iconst 0, 1, 0, 0, 0, 0, 0),
  (.iastore, 1, 0, 0, 0, 0, 0),
  (.aload_n 0, 1, 0, 0, 0, 0, 0),
  (.getfield 58, 3, 12, 19, 4, 0, 978),
  (.aload_n 0, 1, 0, 0, 0, 0, 0),
  (.getfield 195, 3, 12, 14, 1, 0, 973),
  (.bipush (-9), 2, 0, -9, 0, 0, 0),
  (.iastore, 1, 0, 0, 0, 0, 0),
  (.aload_n 0, 1, 0, 0, 0, 0, 0),
  (.getfield 74, 3, 12, 24, 4, 0, 983),
  (.aload_n 0, 1, 0, 0, 0, 0, 0),
  (.getfield 195, 3, 12, 14, 1, 0, 973),
  (.bipush (-9), 2, 0, -9, 0, 0, 0),
  (.iastore, 1, 0, 0, 0, 0, 0),
  (.aload_n 0, 1, 0, 0, 0, 0, 0),
  (.dup, 1, 0, 0, 0, 0, 0),
  (.getfield 195, 3, 12, 14, 1, 0, 973),
  (.iconst 1, 1, 0, 1, 0, 0, 0),
  (.iadd, 1, 0, 0, 0, 0, 0),
  (.putfield 195, 3, 12, 14, 1, 0, 973),
  (.aload_n 0, 1, 0, 0, 0, 0, 0),
  (.getfield 195, 3, 12, 14, 1, 0, 973),
  (.iconst 1, 1, 0, 1, 0, 0, 0),
  (.isub, 1, 0, 0, 0, 0, 0),
  (.ireturn, 1, 0, 0, 0, 0, 0)]
theorem qX12_hull_59 : jchk 59 59 kX12_hull_59 = true := by decide +kernel
def kX11_isHull_0 : List JI := [(.iload_n 1, 1, 1, 0, 0, 0, 0),
  (.aload_n 0, 1, 0, 0, 0, 0, 0),
  (.getfield 37, 3, 11, 5, 4, 0, 477),
  (.getfield 182, 3, 10, 4, 1, 0, 238),
  (.invokestatic 85, 3, 14, 2, 0, 11, 513),
  (.ireturn, 1, 0, 0, 1, 0, 0)]
theorem qX11_isHull_0 : jchk 60 0 kX11_isHull_0 = true := by decide +kernel
def kX4_isUnderWay_0 : List JI := [(.aload_n 0, 1, 0, 0, 0, 0, 0),
  (.getfield 18, 3, 4, 3, 1, 0, 171),
  (.ifCond .eq 11, 3, 15, 0, 0, 0, 0),
  (.aload_n 0, 1, 0, 0, 0, 0, 0),
  (.getfield 18, 3, 4, 3, 1, 0, 171),
  (.iconst 1, 1, 0, 1, 0, 0, 0),
  (.if_icmp .ne 7, 3, 19, 0, 0, 0, 0)]
theorem qX4_isUnderWay_0 : jchk 61 0 kX4_isUnderWay_0 = true := by decide +kernel
def kX4_isUnderWay_15 : List JI := [(.iconst 1, 1, 0, 1, 0, 0, 0),
  (.goto 4, 3, 20, 0, 0, 0, 0)]
theorem qX4_isUnderWay_15 : jchk 61 15 kX4_isUnderWay_15 = true := by decide +kernel
def kX4_isUnderWay_19 : List JI := [(.iconst 0, 1, 0, 0, 0, 0, 0)]
theorem qX4_isUnderWay_19 : jchk 61 19 kX4_isUnderWay_19 = true := by decide +kernel
def kX4_isUnderWay_20 : List JI := [(.ireturn, 1, 0, 0, 1, 0, 0)]
theorem qX4_isUnderWay_20 : jchk 61 20 kX4_isUnderWay_20 = true := by decide +kernel
def kX11_priority_0 : List JI := [(.aload_n 0, 1, 0, 0, 0, 0, 0),
  (.iload_n 1, 1, 1, 0, 0, 0, 0),
  (.invokevirtual 188, 3, 60, 1, 0, 11, 635),
  (.ifCond .ne 7, 3, 12, 0, 0, 0, 0),
  (.iconst (-1), 1, 0, -1, 0, 0, 0),
  (.goto 30, 3, 39, 0, 0, 0, 0)]
theorem qX11_priority_0 : jchk 62 0 kX11_priority_0 = true := by decide +kernel
def kX11_priority_12 : List JI := [(.aload_n 0, 1, 0, 0, 0, 0, 0),
  (.getfield 37, 3, 11, 5, 4, 0, 477),
  (.getfield 191, 3, 10, 3, 4, 0, 235),
  (.iload_n 1, 1, 1, 0, 0, 0, 0),
  (.aaload, 1, 0, 0, 0, 0, 0),
  (.invokevirtual 195, 3, 61, 0, 0, 4, 639),
  (.ifCond .ne 8, 3, 32, 0, 0, 0, 0),
  (.bipush (-3), 2, 0, -3, 0, 0, 0),
  (.goto 10, 3, 39, 0, 0, 0, 0)]
theorem qX11_priority_12 : jchk 62 12 kX11_priority_12 = true := by decide +kernel
def kX11_priority_32 : List JI := [(.iload_n 2, 1, 2, 0, 0, 0, 0),
  (.iconst 0, 1, 0, 0, 0, 0, 0),
  (.bipush 99, 2, 0, 99, 0, 0, 0),
  (.invokestatic 89, 3, 15, 3, 0, 11, 516)]
theorem qX11_priority_32 : jchk 62 32 kX11_priority_32 = true := by decide +kernel
def kX11_priority_39 : List JI := [(.istore_n 3, 1, 3, 0, 0, 0, 0),
  (.iload_n 3, 1, 3, 0, 0, 0, 0),
  (.ifCond .eq 9, 3, 50, 0, 0, 0, 0),
  (.aload_n 0, 1, 0, 0, 0, 0, 0),
  (.iload_n 3, 1, 3, 0, 0, 0, 0),
  (.invokevirtual 93, 3, 16, 1, 0, 11, 519),
  (.ireturn, 1, 0, 0, 0, 0, 0)]
theorem qX11_priority_39 : jchk 62 39 kX11_priority_39 = true := by decide +kernel
def kX11_priority_50 : List JI := [(.aload_n 0, 1, 0, 0, 0, 0, 0),
  (.getfield 81, 3, 11, 11, 4, 0, 483),
  (.invokevirtual 97, 3, 17, 0, 0, 7, 523),
  (.aload_n 0, 1, 0, 0, 0, 0, 0),
  (.getfield 37, 3, 11, 5, 4, 0, 477),
  (.getfield 191, 3, 10, 3, 4, 0, 235),
  (.iload_n 1, 1, 1, 0, 0, 0, 0),
  (.aaload, 1, 0, 0, 0, 0, 0),
  (.getfield 201, 3, 4, 1, 1, 0, 167),
  (.istore 4, 2, 4, 0, 0, 0, 0),
  (.aload_n 0, 1, 0, 0, 0, 0, 0),
  (.getfield 37, 3, 11, 5, 4, 0, 477),
  (.getfield 191, 3, 10, 3, 4, 0, 235),
  (.iload_n 1, 1, 1, 0, 0, 0, 0),
  (.aaload, 1, 0, 0, 0, 0, 0),
  (.iload_n 2, 1, 2, 0, 0, 0, 0),
  (.putfield 201, 3, 4, 1, 1, 0, 167),
  (.iload 4, 2, 4, 0, 0, 0, 0),
  (.ireturn, 1, 0, 0, 0, 0, 0)]
theorem qX11_priority_50 : jchk 62 50 kX11_priority_50 = true := by decide +kernel
def kX12_isHull_0 : List JI := [(.iload_n 1, 1, 1, 0, 0, 0, 0),
  (.iconst 0, 1, 0, 0, 0, 0, 0),
  (.aload_n 0, 1, 0, 0, 0, 0, 0),
  (.getfield 195, 3, 12, 14, 1, 0, 973),
  (.iconst 1, 1, 0, 1, 0, 0, 0),
  (.isub, 1, 0, 0, 0, 0, 0),
  (.invokestatic 168, 3, 19, 3, 0, 12, 1160),
  (.ireturn, 1, 0, 0, 1, 0, 0)]
theorem qX12_isHull_0 : jchk 63 0 kX12_isHull_0 = true := by decide +kernel
def kX12_priority_0 : List JI := [(.aload_n 0, 1, 0, 0, 0, 0, 0),
  (.iload_n 1, 1, 1, 0, 0, 0, 0),
  (.invokevirtual 198, 3, 63, 1, 0, 12, 1233),
  (.ifCond .ne 9, 3, 14, 0, 0, 0, 0),
  (.aload_n 0, 1, 0, 0, 0, 0, 0),
  (.iconst (-1), 1, 0, -1, 0, 0, 0),
  (.invokevirtual 172, 3, 20, 1, 0, 12, 1163),
  (.ireturn, 1, 0, 0, 0, 0, 0)]
theorem qX12_priority_0 : jchk 64 0 kX12_priority_0 = true := by decide +kernel
def kX12_priority_14 : List JI := [(.aload_n 0, 1, 0, 0, 0, 0, 0),
  (.getfield 55, 3, 12, 18, 4, 0, 977),
  (.iload_n 1, 1, 1, 0, 0, 0, 0),
  (.iaload, 1, 0, 0, 0, 0, 0),
  (.iconst 1, 1, 0, 1, 0, 0, 0),
  (.if_icmp .le 10, 3, 31, 0, 0, 0, 0),
  (.aload_n 0, 1, 0, 0, 0, 0, 0),
  (.bipush (-3), 2, 0, -3, 0, 0, 0),
  (.invokevirtual 172, 3, 20, 1, 0, 12, 1163),
  (.ireturn, 1, 0, 0, 0, 0, 0)]
theorem qX12_priority_14 : jchk 64 14 kX12_priority_14 = true := by decide +kernel
def kX12_priority_31 : List JI := [(.iload_n 2, 1, 2, 0, 0, 0, 0),
  (.ifCond .ge 10, 3, 42, 0, 0, 0, 0),
  (.aload_n 0, 1, 0, 0, 0, 0, 0),
  (.bipush (-4), 2, 0, -4, 0, 0, 0),
  (.invokevirtual 172, 3, 20, 1, 0, 12, 1163),
  (.ireturn, 1, 0, 0, 0, 0, 0)]
theorem qX12_priority_31 : jchk 64 31 kX12_priority_31 = true := by decide +kernel
def kX12_priority_42 : List JI := [(.iload_n 2, 1, 2, 0, 0, 0, 0),
  (.bipush 99, 2, 0, 99, 0, 0, 0),
  (.if_icmp .le 10, 3, 55, 0, 0, 0, 0),
  (.aload_n 0, 1, 0, 0, 0, 0, 0),
  (.bipush (-6), 2, 0, -6, 0, 0, 0),
  (.invokevirtual 172, 3, 20, 1, 0, 12, 1163),
  (.ireturn, 1, 0, 0, 0, 0, 0)]
theorem qX12_priority_42 : jchk 64 42 kX12_priority_42 = true := by decide +kernel
def kX12_priority_55 : List JI := [(.aload_n 0, 1, 0, 0, 0, 0, 0),
  (.getfield 49, 3, 12, 16, 4, 0, 975),
  (.iload_n 1, 1, 1, 0, 0, 0, 0),
  (.iaload, 1, 0, 0, 0, 0, 0),
  (.istore_n 3, 1, 3, 0, 0, 0, 0),
  (.aload_n 0, 1, 0, 0, 0, 0, 0),
  (.getfield 49, 3, 12, 16, 4, 0, 975),
  (.iload_n 1, 1, 1, 0, 0, 0, 0),
  (.iload_n 2, 1, 2, 0, 0, 0, 0),
  (.iastore, 1, 0, 0, 0, 0, 0),
  (.iload_n 3, 1, 3, 0, 0, 0, 0),
  (.ireturn, 1, 0, 0, 0, 0, 0)]
theorem qX12_priority_55 : jchk 64 55 kX12_priority_55 = true := by decide +kernel
def kX11_raft_0 : List JI := [(.iload_n 1, 1, 1, 0, 0, 0, 0),
  (.bipush 6, 2, 0, 6, 0, 0, 0),
  (.invokestatic 85, 3, 14, 2, 0, 11, 513),
  (.ifCond .ne 7, 3, 13, 0, 0, 0, 0),
  (.iconst (-1), 1, 0, -1, 0, 0, 0),
  (.goto 29, 3, 39, 0, 0, 0, 0)]
theorem qX11_raft_0 : jchk 65 0 kX11_raft_0 = true := by decide +kernel
def kX11_raft_13 : List JI := [(.aload_n 0, 1, 0, 0, 0, 0, 0),
  (.getfield 37, 3, 11, 5, 4, 0, 477),
  (.getfield 204, 3, 10, 1, 4, 0, 230),
  (.iload_n 1, 1, 1, 0, 0, 0, 0),
  (.iaload, 1, 0, 0, 0, 0, 0),
  (.iconst (-1), 1, 0, -1, 0, 0, 0),
  (.if_icmp .eq 8, 3, 31, 0, 0, 0, 0),
  (.bipush (-3), 2, 0, -3, 0, 0, 0),
  (.goto 11, 3, 39, 0, 0, 0, 0)]
theorem qX11_raft_13 : jchk 65 13 kX11_raft_13 = true := by decide +kernel
def kX11_raft_31 : List JI := [(.iload_n 2, 1, 2, 0, 0, 0, 0),
  (.iconst 1, 1, 0, 1, 0, 0, 0),
  (.sipush 1000, 3, 0, 1000, 0, 0, 0),
  (.invokestatic 89, 3, 15, 3, 0, 11, 516)]
theorem qX11_raft_31 : jchk 65 31 kX11_raft_31 = true := by decide +kernel
def kX11_raft_39 : List JI := [(.istore_n 3, 1, 3, 0, 0, 0, 0),
  (.iload_n 3, 1, 3, 0, 0, 0, 0),
  (.ifCond .ne 19, 3, 60, 0, 0, 0, 0),
  (.aload_n 0, 1, 0, 0, 0, 0, 0),
  (.getfield 37, 3, 11, 5, 4, 0, 477),
  (.getfield 104, 3, 10, 0, 4, 0, 228),
  (.iconst 0, 1, 0, 0, 0, 0, 0),
  (.iaload, 1, 0, 0, 0, 0, 0),
  (.iload_n 2, 1, 2, 0, 0, 0, 0),
  (.if_icmp .ge 6, 3, 60, 0, 0, 0, 0),
  (.bipush (-3), 2, 0, -3, 0, 0, 0),
  (.istore_n 3, 1, 3, 0, 0, 0, 0)]
theorem qX11_raft_39 : jchk 65 39 kX11_raft_39 = true := by decide +kernel
def kX11_raft_60 : List JI := [(.iload_n 3, 1, 3, 0, 0, 0, 0),
  (.ifCond .eq 9, 3, 70, 0, 0, 0, 0),
  (.aload_n 0, 1, 0, 0, 0, 0, 0),
  (.iload_n 3, 1, 3, 0, 0, 0, 0),
  (.invokevirtual 93, 3, 16, 1, 0, 11, 519),
  (.ireturn, 1, 0, 0, 0, 0, 0)]
theorem qX11_raft_60 : jchk 65 60 kX11_raft_60 = true := by decide +kernel
def kX11_raft_70 : List JI := [(.aload_n 0, 1, 0, 0, 0, 0, 0),
  (.getfield 81, 3, 11, 11, 4, 0, 483),
  (.invokevirtual 97, 3, 17, 0, 0, 7, 523),
  (.aload_n 0, 1, 0, 0, 0, 0, 0),
  (.getfield 37, 3, 11, 5, 4, 0, 477),
  (.getfield 104, 3, 10, 0, 4, 0, 228),
  (.iconst 0, 1, 0, 0, 0, 0, 0),
  (.dup2, 1, 0, 0, 0, 0, 0),
  (.iaload, 1, 0, 0, 0, 0, 0),
  (.iload_n 2, 1, 2, 0, 0, 0, 0),
  (.isub, 1, 0, 0, 0, 0, 0),
  (.iastore, 1, 0, 0, 0, 0, 0),
  (.aload_n 0, 1, 0, 0, 0, 0, 0),
  (.getfield 37, 3, 11, 5, 4, 0, 477),
  (.getfield 204, 3, 10, 1, 4, 0, 230),
  (.iload_n 1, 1, 1, 0, 0, 0, 0),
  (.bipush (-2), 2, 0, -2, 0, 0, 0),
  (.iastore, 1, 0, 0, 0, 0, 0),
  (.aload_n 0, 1, 0, 0, 0, 0, 0),
  (.getfield 37, 3, 11, 5, 4, 0, 477),
  (.getfield 207, 3, 10, 2, 4, 0, 232),
  (.iload_n 1, 1, 1, 0, 0, 0, 0),
  (.iload_n 2, 1, 2, 0, 0, 0, 0),
  (.iastore, 1, 0, 0, 0, 0, 0),
  (.iconst 1, 1, 0, 1, 0, 0, 0),
  (.ireturn, 1, 0, 0, 0, 0, 0)]
theorem qX11_raft_70 : jchk 65 70 kX11_raft_70 = true := by decide +kernel
def kX12_raft_0 : List JI := [(.iload_n 1, 1, 1, 0, 0, 0, 0),
  (.iconst 0, 1, 0, 0, 0, 0, 0),
  (.iconst 5, 1, 0, 5, 0, 0, 0),
  (.invokestatic 168, 3, 19, 3, 0, 12, 1160),
  (.ifCond .ne 9, 3, 15, 0, 0, 0, 0),
  (.aload_n 0, 1, 0, 0, 0, 0, 0),
  (.iconst (-1), 1, 0, -1, 0, 0, 0),
  (.invokevirtual 172, 3, 20, 1, 0, 12, 1163),
  (.ireturn, 1, 0, 0, 0, 0, 0)]
theorem qX12_raft_0 : jchk 66 0 kX12_raft_0 = true := by decide +kernel
def kX12_raft_15 : List JI := [(.aload_n 0, 1, 0, 0, 0, 0, 0),
  (.getfield 86, 3, 12, 28, 4, 0, 987),
  (.iload_n 1, 1, 1, 0, 0, 0, 0),
  (.iaload, 1, 0, 0, 0, 0, 0),
  (.ifCond .lt 10, 3, 31, 0, 0, 0, 0),
  (.aload_n 0, 1, 0, 0, 0, 0, 0),
  (.bipush (-3), 2, 0, -3, 0, 0, 0),
  (.invokevirtual 172, 3, 20, 1, 0, 12, 1163),
  (.ireturn, 1, 0, 0, 0, 0, 0)]
theorem qX12_raft_15 : jchk 66 15 kX12_raft_15 = true := by decide +kernel
def kX12_raft_31 : List JI := [(.iload_n 2, 1, 2, 0, 0, 0, 0),
  (.iconst 1, 1, 0, 1, 0, 0, 0),
  (.if_icmp .ge 10, 3, 43, 0, 0, 0, 0),
  (.aload_n 0, 1, 0, 0, 0, 0, 0),
  (.bipush (-4), 2, 0, -4, 0, 0, 0),
  (.invokevirtual 172, 3, 20, 1, 0, 12, 1163),
  (.ireturn, 1, 0, 0, 0, 0, 0)]
theorem qX12_raft_31 : jchk 66 31 kX12_raft_31 = true := by decide +kernel
def kX12_raft_43 : List JI := [(.iload_n 2, 1, 2, 0, 0, 0, 0),
  (.sipush 1000, 3, 0, 1000, 0, 0, 0),
  (.if_icmp .le 10, 3, 57, 0, 0, 0, 0),
  (.aload_n 0, 1, 0, 0, 0, 0, 0),
  (.bipush (-6), 2, 0, -6, 0, 0, 0),
  (.invokevirtual 172, 3, 20, 1, 0, 12, 1163),
  (.ireturn, 1, 0, 0, 0, 0, 0)]
theorem qX12_raft_43 : jchk 66 43 kX12_raft_43 = true := by decide +kernel
def kX12_raft_57 : List JI := [(.iload_n 2, 1, 2, 0, 0, 0, 0),
  (.aload_n 0, 1, 0, 0, 0, 0, 0),
  (.getfield 22, 3, 12, 5, 4, 0, 964),
  (.iconst 0, 1, 0, 0, 0, 0, 0),
  (.iaload, 1, 0, 0, 0, 0, 0),
  (.if_icmp .le 10, 3, 74, 0, 0, 0, 0),
  (.aload_n 0, 1, 0, 0, 0, 0, 0),
  (.bipush (-3), 2, 0, -3, 0, 0, 0),
  (.invokevirtual 172, 3, 20, 1, 0, 12, 1163),
  (.ireturn, 1, 0, 0, 0, 0, 0)]
theorem qX12_raft_57 : jchk 66 57 kX12_raft_57 = true := by decide +kernel
def kX12_raft_74 : List JI := [(.aload_n 0, 1, 0, 0, 0, 0, 0),
  (.getfield 22, 3, 12, 5, 4, 0, 964),
  (.iconst 0, 1, 0, 0, 0, 0, 0),
  (.dup2, 1, 0, 0, 0, 0, 0),
  (.iaload, 1, 0, 0, 0, 0, 0),
  (.iload_n 2, 1, 2, 0, 0, 0, 0),
  (.isub, 1, 0, 0, 0, 0, 0),
  (.iastore, 1, 0, 0, 0, 0, 0),
  (.aload_n 0, 1, 0, 0, 0, 0, 0),
  (.getfield 86, 3, 12, 28, 4, 0, 987),
  (.iload_n 1, 1, 1, 0, 0, 0, 0),
  (.bipush 100, 2, 0, 100, 0, 0, 0),
  (.iastore, 1, 0, 0, 0, 0, 0),
  (.aload_n 0, 1, 0, 0, 0, 0, 0),
  (.getfield 89, 3, 12, 29, 4, 0, 988),
  (.iload_n 1, 1, 1, 0, 0, 0, 0),
  (.iload_n 2, 1, 2, 0, 0, 0, 0),
  (.iastore, 1, 0, 0, 0, 0, 0),
  (.iconst 1, 1, 0, 1, 0, 0, 0),
  (.ireturn, 1, 0, 0, 0, 0, 0)]
theorem qX12_raft_74 : jchk 66 74 kX12_raft_74 = true := by decide +kernel
def kJ9_min_7cf53_0 : List JI := [(.iload_n 0, 1, 0, 0, 0, 0, 0),
  (.iload_n 1, 1, 1, 0, 0, 0, 0),
  (.if_icmp .gt 7, 3, 9, 0, 0, 0, 0),
  (.iload_n 0, 1, 0, 0, 0, 0, 0),
  (.goto 4, 3, 10, 0, 0, 0, 0)]
theorem qJ9_min_7cf53_0 : jchk 67 0 kJ9_min_7cf53_0 = true := by decide +kernel
def kJ9_min_7cf53_9 : List JI := [(.iload_n 1, 1, 1, 0, 0, 0, 0)]
theorem qJ9_min_7cf53_9 : jchk 67 9 kJ9_min_7cf53_9 = true := by decide +kernel
def kJ9_min_7cf53_10 : List JI := [(.ireturn, 1, 0, 0, 0, 0, 0)]
theorem qJ9_min_7cf53_10 : jchk 67 10 kJ9_min_7cf53_10 = true := by decide +kernel
def kX10_store_0 : List JI := [(.iload_n 2, 1, 2, 0, 0, 0, 0),
  (.ldc 51, 2, 0, 1000000, 0, 0, 655),
  (.aload_n 0, 1, 0, 0, 0, 0, 0),
  (.getfield 9, 3, 10, 0, 4, 0, 227),
  (.iload_n 1, 1, 1, 0, 0, 0, 0),
  (.iaload, 1, 0, 0, 0, 0, 0),
  (.isub, 1, 0, 0, 0, 0, 0),
  (.invokestatic 52, 3, 997, 0, 0, 0, 656),
  (.istore_n 3, 1, 3, 0, 0, 0, 0),
  (.aload_n 0, 1, 0, 0, 0, 0, 0),
  (.getfield 9, 3, 10, 0, 4, 0, 227),
  (.iload_n 1, 1, 1, 0, 0, 0, 0),
  (.dup2, 1, 0, 0, 0, 0, 0),
  (.iaload, 1, 0, 0, 0, 0, 0),
  (.iload_n 3, 1, 3, 0, 0, 0, 0),
  (.iadd, 1, 0, 0, 0, 0, 0),
  (.iastore, 1, 0, 0, 0, 0, 0),
  (.iload_n 3, 1, 3, 0, 0, 0, 0),
  (.ireturn, 1, 0, 0, 0, 0, 0)]
theorem qX10_store_0 : jchk 68 0 kX10_store_0 = true := by decide +kernel
def kX11_unraft_0 : List JI := [(.iload_n 1, 1, 1, 0, 0, 0, 0),
  (.bipush 6, 2, 0, 6, 0, 0, 0),
  (.invokestatic 85, 3, 14, 2, 0, 11, 513),
  (.ifCond .ne 7, 3, 13, 0, 0, 0, 0),
  (.iconst (-1), 1, 0, -1, 0, 0, 0),
  (.goto 41, 3, 51, 0, 0, 0, 0)]
theorem qX11_unraft_0 : jchk 69 0 kX11_unraft_0 = true := by decide +kernel
def kX11_unraft_13 : List JI := [(.aload_n 0, 1, 0, 0, 0, 0, 0),
  (.getfield 37, 3, 11, 5, 4, 0, 477),
  (.getfield 204, 3, 10, 1, 4, 0, 230),
  (.iload_n 1, 1, 1, 0, 0, 0, 0),
  (.iaload, 1, 0, 0, 0, 0, 0),
  (.iconst (-1), 1, 0, -1, 0, 0, 0),
  (.if_icmp .ne 8, 3, 31, 0, 0, 0, 0),
  (.bipush (-3), 2, 0, -3, 0, 0, 0),
  (.goto 23, 3, 51, 0, 0, 0, 0)]
theorem qX11_unraft_13 : jchk 69 13 kX11_unraft_13 = true := by decide +kernel
def kX11_unraft_31 : List JI := [(.aload_n 0, 1, 0, 0, 0, 0, 0),
  (.getfield 37, 3, 11, 5, 4, 0, 477),
  (.getfield 204, 3, 10, 1, 4, 0, 230),
  (.iload_n 1, 1, 1, 0, 0, 0, 0),
  (.iaload, 1, 0, 0, 0, 0, 0),
  (.bipush (-2), 2, 0, -2, 0, 0, 0),
  (.if_icmp .eq 8, 3, 50, 0, 0, 0, 0),
  (.bipush (-2), 2, 0, -2, 0, 0, 0),
  (.goto 4, 3, 51, 0, 0, 0, 0)]
theorem qX11_unraft_31 : jchk 69 31 kX11_unraft_31 = true := by decide +kernel
def kX11_unraft_50 : List JI := [(.iconst 0, 1, 0, 0, 0, 0, 0)]
theorem qX11_unraft_50 : jchk 69 50 kX11_unraft_50 = true := by decide +kernel
def kX11_unraft_51 : List JI := [(.istore_n 2, 1, 2, 0, 0, 0, 0),
  (.iload_n 2, 1, 2, 0, 0, 0, 0),
  (.ifCond .eq 9, 3, 62, 0, 0, 0, 0),
  (.aload_n 0, 1, 0, 0, 0, 0, 0),
  (.iload_n 2, 1, 2, 0, 0, 0, 0),
  (.invokevirtual 93, 3, 16, 1, 0, 11, 519),
  (.ireturn, 1, 0, 0, 0, 0, 0)]
theorem qX11_unraft_51 : jchk 69 51 kX11_unraft_51 = true := by decide +kernel
def kX11_unraft_62 : List JI := [(.aload_n 0, 1, 0, 0, 0, 0, 0),
  (.getfield 81, 3, 11, 11, 4, 0, 483),
  (.invokevirtual 97, 3, 17, 0, 0, 7, 523),
  (.aload_n 0, 1, 0, 0, 0, 0, 0),
  (.getfield 37, 3, 11, 5, 4, 0, 477),
  (.getfield 207, 3, 10, 2, 4, 0, 232),
  (.iload_n 1, 1, 1, 0, 0, 0, 0),
  (.iaload, 1, 0, 0, 0, 0, 0),
  (.istore_n 3, 1, 3, 0, 0, 0, 0),
  (.aload_n 0, 1, 0, 0, 0, 0, 0),
  (.getfield 37, 3, 11, 5, 4, 0, 477),
  (.getfield 204, 3, 10, 1, 4, 0, 230),
  (.iload_n 1, 1, 1, 0, 0, 0, 0),
  (.iconst (-1), 1, 0, -1, 0, 0, 0),
  (.iastore, 1, 0, 0, 0, 0, 0),
  (.aload_n 0, 1, 0, 0, 0, 0, 0),
  (.getfield 37, 3, 11, 5, 4, 0, 477),
  (.getfield 207, 3, 10, 2, 4, 0, 232),
  (.iload_n 1, 1, 1, 0, 0, 0, 0),
  (.iconst 0, 1, 0, 0, 0, 0, 0),
  (.iastore, 1, 0, 0, 0, 0, 0),
  (.aload_n 0, 1, 0, 0, 0, 0, 0),
  (.getfield 37, 3, 11, 5, 4, 0, 477),
  (.iconst 0, 1, 0, 0, 0, 0, 0),
  (.iload_n 3, 1, 3, 0, 0, 0, 0),
  (.invokevirtual 210, 3, 68, 2, 0, 10, 651),
  (.pop, 1, 0, 0, 0, 0, 0),
  (.iload_n 3, 1, 3, 0, 0, 0, 0),
  (.ireturn, 1, 0, 0, 0, 0, 0)]
theorem qX11_unraft_62 : jchk 69 62 kX11_unraft_62 = true := by decide +kernel
def kX12_unraft_0 : List JI := [(.iload_n 1, 1, 1, 0, 0, 0, 0),
  (.iconst 0, 1, 0, 0, 0, 0, 0),
  (.iconst 5, 1, 0, 5, 0, 0, 0),
  (.invokestatic 168, 3, 19, 3, 0, 12, 1160),
  (.ifCond .ne 9, 3, 15, 0, 0, 0, 0),
  (.aload_n 0, 1, 0, 0, 0, 0, 0),
  (.iconst (-1), 1, 0, -1, 0, 0, 0),
  (.invokevirtual 172, 3, 20, 1, 0, 12, 1163),
  (.ireturn, 1, 0, 0, 0, 0, 0)]
theorem qX12_unraft_0 : jchk 70 0 kX12_unraft_0 = true := by decide +kernel
def kX12_unraft_15 : List JI := [(.aload_n 0, 1, 0, 0, 0, 0, 0),
  (.getfield 86, 3, 12, 28, 4, 0, 987),
  (.iload_n 1, 1, 1, 0, 0, 0, 0),
  (.iaload, 1, 0, 0, 0, 0, 0),
  (.ifCond .ge 10, 3, 31, 0, 0, 0, 0),
  (.aload_n 0, 1, 0, 0, 0, 0, 0),
  (.bipush (-3), 2, 0, -3, 0, 0, 0),
  (.invokevirtual 172, 3, 20, 1, 0, 12, 1163),
  (.ireturn, 1, 0, 0, 0, 0, 0)]
theorem qX12_unraft_15 : jchk 70 15 kX12_unraft_15 = true := by decide +kernel
def kX12_unraft_31 : List JI := [(.aload_n 0, 1, 0, 0, 0, 0, 0),
  (.getfield 86, 3, 12, 28, 4, 0, 987),
  (.iload_n 1, 1, 1, 0, 0, 0, 0),
  (.iaload, 1, 0, 0, 0, 0, 0),
  (.bipush 100, 2, 0, 100, 0, 0, 0),
  (.if_icmp .ge 10, 3, 49, 0, 0, 0, 0),
  (.aload_n 0, 1, 0, 0, 0, 0, 0),
  (.bipush (-2), 2, 0, -2, 0, 0, 0),
  (.invokevirtual 172, 3, 20, 1, 0, 12, 1163),
  (.ireturn, 1, 0, 0, 0, 0, 0)]
theorem qX12_unraft_31 : jchk 70 31 kX12_unraft_31 = true := by decide +kernel
def kX12_unraft_49 : List JI := [(.aload_n 0, 1, 0, 0, 0, 0, 0),
  (.getfield 89, 3, 12, 29, 4, 0, 988),
  (.iload_n 1, 1, 1, 0, 0, 0, 0),
  (.iaload, 1, 0, 0, 0, 0, 0),
  (.istore_n 2, 1, 2, 0, 0, 0, 0),
  (.aload_n 0, 1, 0, 0, 0, 0, 0),
  (.getfield 22, 3, 12, 5, 4, 0, 964),
  (.iconst 0, 1, 0, 0, 0, 0, 0),
  (.iload_n 2, 1, 2, 0, 0, 0, 0),
  (.ldc 176, 2, 0, 1000000, 0, 0, 1171),
  (.aload_n 0, 1, 0, 0, 0, 0, 0),
  (.getfield 22, 3, 12, 5, 4, 0, 964),
  (.iconst 0, 1, 0, 0, 0, 0, 0),
  (.iaload, 1, 0, 0, 0, 0, 0),
  (.isub, 1, 0, 0, 0, 0, 0),
  (.if_icmp .le 8, 3, 79, 0, 0, 0, 0),
  (.ldc 176, 2, 0, 1000000, 0, 0, 1171),
  (.goto 11, 3, 87, 0, 0, 0, 0)]
theorem qX12_unraft_49 : jchk 70 49 kX12_unraft_49 = true := by decide +kernel
def kX12_unraft_79 : List JI := [(.aload_n 0, 1, 0, 0, 0, 0, 0),
  (.getfield 22, 3, 12, 5, 4, 0, 964),
  (.iconst 0, 1, 0, 0, 0, 0, 0),
  (.iaload, 1, 0, 0, 0, 0, 0),
  (.iload_n 2, 1, 2, 0, 0, 0, 0),
  (.iadd, 1, 0, 0, 0, 0, 0)]
theorem qX12_unraft_79 : jchk 70 79 kX12_unraft_79 = true := by decide +kernel
def kX12_unraft_87 : List JI := [(.iastore, 1, 0, 0, 0, 0, 0),
  (.aload_n 0, 1, 0, 0, 0, 0, 0),
  (.getfield 86, 3, 12, 28, 4, 0, 987),
  (.iload_n 1, 1, 1, 0, 0, 0, 0),
  (.iconst (-1), 1, 0, -1, 0, 0, 0),
  (.iastore, 1, 0, 0, 0, 0, 0),
  (.aload_n 0, 1, 0, 0, 0, 0, 0),
  (.getfield 89, 3, 12, 29, 4, 0, 988),
  (.iload_n 1, 1, 1, 0, 0, 0, 0),
  (.iconst 0, 1, 0, 0, 0, 0, 0),
  (.iastore, 1, 0, 0, 0, 0, 0),
  (.iload_n 2, 1, 2, 0, 0, 0, 0),
  (.ireturn, 1, 0, 0, 0, 0, 0)]
theorem qX12_unraft_87 : jchk 70 87 kX12_unraft_87 = true := by decide +kernel
def kX10_lineUp_0 : List JI := [(.aload_n 0, 1, 0, 0, 0, 0, 0),
  (.iconst 0, 1, 0, 0, 0, 0, 0),
  (.putfield 58, 3, 10, 6, 1, 0, 242),
  (.iconst 0, 1, 0, 0, 0, 0, 0),
  (.istore_n 1, 1, 1, 0, 0, 0, 0)]
theorem qX10_lineUp_0 : jchk 71 0 kX10_lineUp_0 = true := by decide +kernel
def kX10_lineUp_7 : List JI := [(.iload_n 1, 1, 1, 0, 0, 0, 0),
  (.aload_n 0, 1, 0, 0, 0, 0, 0),
  (.getfield 40, 3, 10, 4, 1, 0, 236),
  (.if_icmp .ge 95, 3, 107, 0, 0, 0, 0),
  (.aload_n 0, 1, 0, 0, 0, 0, 0),
  (.getfield 23, 3, 10, 3, 4, 0, 233),
  (.iload_n 1, 1, 1, 0, 0, 0, 0),
  (.aaload, 1, 0, 0, 0, 0, 0),
  (.invokevirtual 61, 3, 61, 0, 0, 4, 667),
  (.ifCond .eq 77, 3, 101, 0, 0, 0, 0),
  (.aload_n 0, 1, 0, 0, 0, 0, 0),
  (.getfield 58, 3, 10, 6, 1, 0, 242),
  (.istore_n 2, 1, 2, 0, 0, 0, 0)]
theorem qX10_lineUp_7 : jchk 71 7 kX10_lineUp_7 = true := by decide +kernel
def kX10_lineUp_32 : List JI := [(.iload_n 2, 1, 2, 0, 0, 0, 0),
  (.ifCond .le 51, 3, 84, 0, 0, 0, 0),
  (.aload_n 0, 1, 0, 0, 0, 0, 0),
  (.getfield 23, 3, 10, 3, 4, 0, 233),
  (.aload_n 0, 1, 0, 0, 0, 0, 0),
  (.getfield 27, 3, 10, 5, 4, 0, 239),
  (.iload_n 2, 1, 2, 0, 0, 0, 0),
  (.iconst 1, 1, 0, 1, 0, 0, 0),
  (.isub, 1, 0, 0, 0, 0, 0),
  (.iaload, 1, 0, 0, 0, 0, 0),
  (.aaload, 1, 0, 0, 0, 0, 0),
  (.getfield 65, 3, 4, 1, 1, 0, 166),
  (.aload_n 0, 1, 0, 0, 0, 0, 0),
  (.getfield 23, 3, 10, 3, 4, 0, 233),
  (.iload_n 1, 1, 1, 0, 0, 0, 0),
  (.aaload, 1, 0, 0, 0, 0, 0),
  (.getfield 65, 3, 4, 1, 1, 0, 166),
  (.if_icmp .ge 23, 3, 84, 0, 0, 0, 0),
  (.aload_n 0, 1, 0, 0, 0, 0, 0),
  (.getfield 27, 3, 10, 5, 4, 0, 239),
  (.iload_n 2, 1, 2, 0, 0, 0, 0),
  (.aload_n 0, 1, 0, 0, 0, 0, 0),
  (.getfield 27, 3, 10, 5, 4, 0, 239),
  (.iload_n 2, 1, 2, 0, 0, 0, 0),
  (.iconst 1, 1, 0, 1, 0, 0, 0),
  (.isub, 1, 0, 0, 0, 0, 0),
  (.iaload, 1, 0, 0, 0, 0, 0),
  (.iastore, 1, 0, 0, 0, 0, 0),
  (.iinc 2 (-1), 3, 2, -1, 0, 0, 0),
  (.goto (-49), 3, 32, 0, 0, 0, 0)]
theorem qX10_lineUp_32 : jchk 71 32 kX10_lineUp_32 = true := by decide +kernel
def kX10_lineUp_84 : List JI := [(.aload_n 0, 1, 0, 0, 0, 0, 0),
  (.getfield 27, 3, 10, 5, 4, 0, 239),
  (.iload_n 2, 1, 2, 0, 0, 0, 0),
  (.iload_n 1, 1, 1, 0, 0, 0, 0),
  (.iastore, 1, 0, 0, 0, 0, 0),
  (.aload_n 0, 1, 0, 0, 0, 0, 0),
  (.dup, 1, 0, 0, 0, 0, 0),
  (.getfield 58, 3, 10, 6, 1, 0, 242),
  (.iconst 1, 1, 0, 1, 0, 0, 0),
  (.iadd, 1, 0, 0, 0, 0, 0),
  (.putfield 58, 3, 10, 6, 1, 0, 242)]
theorem qX10_lineUp_84 : jchk 71 84 kX10_lineUp_84 = true := by decide +kernel
def kX10_lineUp_101 : List JI := [(.iinc 1 1, 3, 1, 1, 0, 0, 0),
  (.goto (-97), 3, 7, 0, 0, 0, 0)]
theorem qX10_lineUp_101 : jchk 71 101 kX10_lineUp_101 = true := by decide +kernel
def kX10_lineUp_107 : List JI := [(.return_, 1, 0, 0, 0, 0, 0)]
theorem qX10_lineUp_107 : jchk 71 107 kX10_lineUp_107 = true := by decide +kernel
def kX0_write_0 : List JI := [(.aload 4, 2, 4, 0, 0, 0, 0),
  (.iload_n 2, 1, 2, 0, 0, 0, 0),
  (.invokevirtual 24, 3, 47, 1, 0, 2, 672),
  (.aload 4, 2, 4, 0, 0, 0, 0),
  (.iconst 2, 1, 0, 2, 0, 0, 0),
  (.iconst 0, 1, 0, 0, 0, 0, 0),
  (.invokevirtual 30, 3, 48, 2, 0, 2, 673),
  (.istore 5, 2, 5, 0, 0, 0, 0),
  (.aload_n 0, 1, 0, 0, 0, 0, 0),
  (.getfield 15, 3, 0, 1, 4, 0, 406),
  (.iload_n 1, 1, 1, 0, 0, 0, 0),
  (.iload 5, 2, 5, 0, 0, 0, 0),
  (.ifCond .eq 14, 3, 36, 0, 0, 0, 0),
  (.iload_n 2, 1, 2, 0, 0, 0, 0),
  (.iload 5, 2, 5, 0, 0, 0, 0),
  (.irem, 1, 0, 0, 0, 0, 0),
  (.ifCond .ne 7, 3, 36, 0, 0, 0, 0),
  (.iconst 0, 1, 0, 0, 0, 0, 0),
  (.goto 10, 3, 43, 0, 0, 0, 0)]
theorem qX0_write_0 : jchk 72 0 kX0_write_0 = true := by decide +kernel
def kX0_write_36 : List JI := [(.aload 4, 2, 4, 0, 0, 0, 0),
  (.iconst 3, 1, 0, 3, 0, 0, 0),
  (.iconst 0, 1, 0, 0, 0, 0, 0),
  (.invokevirtual 30, 3, 48, 2, 0, 2, 673)]
theorem qX0_write_36 : jchk 72 36 kX0_write_36 = true := by decide +kernel
def kX0_write_43 : List JI := [(.iastore, 1, 0, 0, 0, 0, 0),
  (.aload_n 0, 1, 0, 0, 0, 0, 0),
  (.getfield 18, 3, 0, 2, 4, 0, 409),
  (.iload_n 1, 1, 1, 0, 0, 0, 0),
  (.iconst 0, 1, 0, 0, 0, 0, 0),
  (.iastore, 1, 0, 0, 0, 0, 0),
  (.aload_n 0, 1, 0, 0, 0, 0, 0),
  (.getfield 21, 3, 0, 3, 4, 0, 411),
  (.iload_n 1, 1, 1, 0, 0, 0, 0),
  (.iconst 0, 1, 0, 0, 0, 0, 0),
  (.iastore, 1, 0, 0, 0, 0, 0),
  (.iconst 0, 1, 0, 0, 0, 0, 0),
  (.istore 6, 2, 6, 0, 0, 0, 0)]
theorem qX0_write_43 : jchk 72 43 kX0_write_43 = true := by decide +kernel
def kX0_write_61 : List JI := [(.iload 6, 2, 6, 0, 0, 0, 0),
  (.iconst 4, 1, 0, 4, 0, 0, 0),
  (.if_icmp .ge 71, 3, 135, 0, 0, 0, 0),
  (.aload_n 3, 1, 3, 0, 0, 0, 0),
  (.iload 6, 2, 6, 0, 0, 0, 0),
  (.iload_n 2, 1, 2, 0, 0, 0, 0),
  (.invokevirtual 34, 3, 38, 2, 0, 1, 674),
  (.istore 7, 2, 7, 0, 0, 0, 0),
  (.aload_n 0, 1, 0, 0, 0, 0, 0),
  (.getfield 9, 3, 0, 0, 4, 0, 403),
  (.iload_n 1, 1, 1, 0, 0, 0, 0),
  (.iconst 4, 1, 0, 4, 0, 0, 0),
  (.imul, 1, 0, 0, 0, 0, 0),
  (.iload 6, 2, 6, 0, 0, 0, 0),
  (.iadd, 1, 0, 0, 0, 0, 0),
  (.iload 7, 2, 7, 0, 0, 0, 0),
  (.iastore, 1, 0, 0, 0, 0, 0),
  (.aload_n 0, 1, 0, 0, 0, 0, 0),
  (.getfield 18, 3, 0, 2, 4, 0, 409),
  (.iload_n 1, 1, 1, 0, 0, 0, 0),
  (.dup2, 1, 0, 0, 0, 0, 0),
  (.iaload, 1, 0, 0, 0, 0, 0),
  (.iload 7, 2, 7, 0, 0, 0, 0),
  (.aload 4, 2, 4, 0, 0, 0, 0),
  (.iconst 0, 1, 0, 0, 0, 0, 0),
  (.iload 6, 2, 6, 0, 0, 0, 0),
  (.invokevirtual 30, 3, 48, 2, 0, 2, 673),
  (.imul, 1, 0, 0, 0, 0, 0),
  (.iadd, 1, 0, 0, 0, 0, 0),
  (.iastore, 1, 0, 0, 0, 0, 0),
  (.aload_n 0, 1, 0, 0, 0, 0, 0),
  (.getfield 21, 3, 0, 3, 4, 0, 411),
  (.iload_n 1, 1, 1, 0, 0, 0, 0),
  (.dup2, 1, 0, 0, 0, 0, 0),
  (.iaload, 1, 0, 0, 0, 0, 0),
  (.iload 7, 2, 7, 0, 0, 0, 0),
  (.aload 4, 2, 4, 0, 0, 0, 0),
  (.iconst 1, 1, 0, 1, 0, 0, 0),
  (.iload 6, 2, 6, 0, 0, 0, 0),
  (.invokevirtual 30, 3, 48, 2, 0, 2, 673),
  (.imul, 1, 0, 0, 0, 0, 0),
  (.iadd, 1, 0, 0, 0, 0, 0),
  (.iastore, 1, 0, 0, 0, 0, 0),
  (.iinc 6 1, 3, 6, 1, 0, 0, 0),
  (.goto (-71), 3, 61, 0, 0, 0, 0)]
theorem qX0_write_61 : jchk 72 61 kX0_write_61 = true := by decide +kernel
def kX0_write_135 : List JI := [(.return_, 1, 0, 0, 0, 0, 0)]
theorem qX0_write_135 : jchk 72 135 kX0_write_135 = true := by decide +kernel
def kX4_mayMoveOn_0 : List JI := [(.aload_n 0, 1, 0, 0, 0, 0, 0),
  (.getfield 47, 3, 4, 7, 3, 0, 184),
  (.ifCond .eq 14, 3, 18, 0, 0, 0, 0),
  (.aload_n 0, 1, 0, 0, 0, 0, 0),
  (.getfield 44, 3, 4, 6, 1, 0, 180),
  (.ifCond .ne 7, 3, 18, 0, 0, 0, 0),
  (.iconst 1, 1, 0, 1, 0, 0, 0),
  (.goto 4, 3, 19, 0, 0, 0, 0)]
theorem qX4_mayMoveOn_0 : jchk 73 0 kX4_mayMoveOn_0 = true := by decide +kernel
def kX4_mayMoveOn_18 : List JI := [(.iconst 0, 1, 0, 0, 0, 0, 0)]
theorem qX4_mayMoveOn_18 : jchk 73 18 kX4_mayMoveOn_18 = true := by decide +kernel
def kX4_mayMoveOn_19 : List JI := [(.ireturn, 1, 0, 0, 1, 0, 0)]
theorem qX4_mayMoveOn_19 : jchk 73 19 kX4_mayMoveOn_19 = true := by decide +kernel
def kX4_leave_0 : List JI := [(.aload_n 0, 1, 0, 0, 0, 0, 0),
  (.iconst 2, 1, 0, 2, 0, 0, 0),
  (.putfield 18, 3, 4, 3, 1, 0, 171),
  (.aload_n 0, 1, 0, 0, 0, 0, 0),
  (.bipush (-9), 2, 0, -9, 0, 0, 0),
  (.putfield 31, 3, 4, 4, 1, 0, 175),
  (.aload_n 0, 1, 0, 0, 0, 0, 0),
  (.iconst 0, 1, 0, 0, 0, 0, 0),
  (.putfield 47, 3, 4, 7, 3, 0, 184),
  (.aload_n 0, 1, 0, 0, 0, 0, 0),
  (.iload_n 1, 1, 1, 0, 0, 0, 0),
  (.putfield 34, 3, 4, 9, 1, 0, 191),
  (.return_, 1, 0, 0, 0, 0, 0)]
theorem qX4_leave_0 : jchk 74 0 kX4_leave_0 = true := by decide +kernel
def kX4_enter_0 : List JI := [(.aload_n 0, 1, 0, 0, 0, 0, 0),
  (.iconst 1, 1, 0, 1, 0, 0, 0),
  (.putfield 18, 3, 4, 3, 1, 0, 171),
  (.aload_n 0, 1, 0, 0, 0, 0, 0),
  (.iload_n 1, 1, 1, 0, 0, 0, 0),
  (.putfield 31, 3, 4, 4, 1, 0, 175),
  (.aload_n 0, 1, 0, 0, 0, 0, 0),
  (.aload_n 2, 1, 2, 0, 0, 0, 0),
  (.getfield 63, 3, 9, 0, 4, 0, 134),
  (.aload_n 0, 1, 0, 0, 0, 0, 0),
  (.getfield 22, 3, 4, 0, 1, 0, 163),
  (.aaload, 1, 0, 0, 0, 0, 0),
  (.iload_n 1, 1, 1, 0, 0, 0, 0),
  (.iaload, 1, 0, 0, 0, 0, 0),
  (.putfield 41, 3, 4, 5, 1, 0, 177),
  (.aload_n 0, 1, 0, 0, 0, 0, 0),
  (.aload_n 2, 1, 2, 0, 0, 0, 0),
  (.getfield 68, 3, 9, 1, 4, 0, 137),
  (.aload_n 0, 1, 0, 0, 0, 0, 0),
  (.getfield 22, 3, 4, 0, 1, 0, 163),
  (.aaload, 1, 0, 0, 0, 0, 0),
  (.iload_n 1, 1, 1, 0, 0, 0, 0),
  (.iaload, 1, 0, 0, 0, 0, 0),
  (.putfield 44, 3, 4, 6, 1, 0, 180),
  (.aload_n 0, 1, 0, 0, 0, 0, 0),
  (.iconst 0, 1, 0, 0, 0, 0, 0),
  (.putfield 47, 3, 4, 7, 3, 0, 184),
  (.iconst 0, 1, 0, 0, 0, 0, 0),
  (.istore_n 3, 1, 3, 0, 0, 0, 0)]
theorem qX4_enter_0 : jchk 75 0 kX4_enter_0 = true := by decide +kernel
def kX4_enter_47 : List JI := [(.iload_n 3, 1, 3, 0, 0, 0, 0),
  (.bipush 6, 2, 0, 6, 0, 0, 0),
  (.if_icmp .ge 46, 3, 96, 0, 0, 0, 0),
  (.aload_n 0, 1, 0, 0, 0, 0, 0),
  (.getfield 9, 3, 4, 11, 4, 0, 196),
  (.iload_n 3, 1, 3, 0, 0, 0, 0),
  (.aload_n 2, 1, 2, 0, 0, 0, 0),
  (.getfield 70, 3, 9, 2, 4, 0, 140),
  (.aload_n 0, 1, 0, 0, 0, 0, 0),
  (.getfield 22, 3, 4, 0, 1, 0, 163),
  (.aaload, 1, 0, 0, 0, 0, 0),
  (.iload_n 1, 1, 1, 0, 0, 0, 0),
  (.bipush 6, 2, 0, 6, 0, 0, 0),
  (.imul, 1, 0, 0, 0, 0, 0),
  (.iload_n 3, 1, 3, 0, 0, 0, 0),
  (.iadd, 1, 0, 0, 0, 0, 0),
  (.iaload, 1, 0, 0, 0, 0, 0),
  (.iastore, 1, 0, 0, 0, 0, 0),
  (.aload_n 0, 1, 0, 0, 0, 0, 0),
  (.getfield 15, 3, 4, 12, 4, 0, 198),
  (.iload_n 3, 1, 3, 0, 0, 0, 0),
  (.dup2, 1, 0, 0, 0, 0, 0),
  (.iaload, 1, 0, 0, 0, 0, 0),
  (.aload_n 0, 1, 0, 0, 0, 0, 0),
  (.getfield 9, 3, 4, 11, 4, 0, 196),
  (.iload_n 3, 1, 3, 0, 0, 0, 0),
  (.iaload, 1, 0, 0, 0, 0, 0),
  (.iadd, 1, 0, 0, 0, 0, 0),
  (.iastore, 1, 0, 0, 0, 0, 0),
  (.iinc 3 1, 3, 3, 1, 0, 0, 0),
  (.goto (-46), 3, 47, 0, 0, 0, 0)]
theorem qX4_enter_47 : jchk 75 47 kX4_enter_47 = true := by decide +kernel
def kX4_enter_96 : List JI := [(.return_, 1, 0, 0, 0, 0, 0)]
theorem qX4_enter_96 : jchk 75 96 kX4_enter_96 = true := by decide +kernel
def kX10_berth_0 : List JI := [(.aload_n 0, 1, 0, 0, 0, 0, 0),
  (.getfield 15, 3, 10, 1, 4, 0, 229),
  (.iload_n 2, 1, 2, 0, 0, 0, 0),
  (.iload_n 1, 1, 1, 0, 0, 0, 0),
  (.iastore, 1, 0, 0, 0, 0, 0),
  (.aload_n 0, 1, 0, 0, 0, 0, 0),
  (.getfield 23, 3, 10, 3, 4, 0, 233),
  (.iload_n 1, 1, 1, 0, 0, 0, 0),
  (.aaload, 1, 0, 0, 0, 0, 0),
  (.iload_n 2, 1, 2, 0, 0, 0, 0),
  (.aload_n 3, 1, 3, 0, 0, 0, 0),
  (.invokevirtual 128, 3, 75, 2, 0, 4, 695),
  (.aload_n 0, 1, 0, 0, 0, 0, 0),
  (.iconst 1, 1, 0, 1, 0, 0, 0),
  (.putfield 78, 3, 10, 10, 3, 0, 249),
  (.return_, 1, 0, 0, 0, 0, 0)]
theorem qX10_berth_0 : jchk 76 0 kX10_berth_0 = true := by decide +kernel
def kX10_moveOn_0 : List JI := [(.iconst 0, 1, 0, 0, 0, 0, 0),
  (.istore_n 3, 1, 3, 0, 0, 0, 0),
  (.iconst 5, 1, 0, 5, 0, 0, 0),
  (.istore 4, 2, 4, 0, 0, 0, 0)]
theorem qX10_moveOn_0 : jchk 77 0 kX10_moveOn_0 = true := by decide +kernel
def kX10_moveOn_5 : List JI := [(.iload 4, 2, 4, 0, 0, 0, 0),
  (.ifCond .lt 107, 3, 114, 0, 0, 0, 0),
  (.aload_n 0, 1, 0, 0, 0, 0, 0),
  (.getfield 15, 3, 10, 1, 4, 0, 229),
  (.iload 4, 2, 4, 0, 0, 0, 0),
  (.iaload, 1, 0, 0, 0, 0, 0),
  (.istore 5, 2, 5, 0, 0, 0, 0),
  (.iload 5, 2, 5, 0, 0, 0, 0),
  (.ifCond .lt 87, 3, 108, 0, 0, 0, 0),
  (.aload_n 0, 1, 0, 0, 0, 0, 0),
  (.getfield 23, 3, 10, 3, 4, 0, 233),
  (.iload 5, 2, 5, 0, 0, 0, 0),
  (.aaload, 1, 0, 0, 0, 0, 0),
  (.invokevirtual 118, 3, 73, 0, 0, 4, 683),
  (.ifCond .ne 6, 3, 40, 0, 0, 0, 0),
  (.goto 71, 3, 108, 0, 0, 0, 0)]
theorem qX10_moveOn_5 : jchk 77 5 kX10_moveOn_5 = true := by decide +kernel
def kX10_moveOn_40 : List JI := [(.iload 4, 2, 4, 0, 0, 0, 0),
  (.iconst 5, 1, 0, 5, 0, 0, 0),
  (.if_icmp .ne 33, 3, 76, 0, 0, 0, 0),
  (.aload_n 0, 1, 0, 0, 0, 0, 0),
  (.getfield 15, 3, 10, 1, 4, 0, 229),
  (.iload 4, 2, 4, 0, 0, 0, 0),
  (.iconst (-1), 1, 0, -1, 0, 0, 0),
  (.iastore, 1, 0, 0, 0, 0, 0),
  (.aload_n 0, 1, 0, 0, 0, 0, 0),
  (.getfield 23, 3, 10, 3, 4, 0, 233),
  (.iload 5, 2, 5, 0, 0, 0, 0),
  (.aaload, 1, 0, 0, 0, 0, 0),
  (.iload_n 1, 1, 1, 0, 0, 0, 0),
  (.invokevirtual 121, 3, 74, 1, 0, 4, 687),
  (.iinc 3 1, 3, 3, 1, 0, 0, 0),
  (.aload_n 0, 1, 0, 0, 0, 0, 0),
  (.iconst 1, 1, 0, 1, 0, 0, 0),
  (.putfield 78, 3, 10, 10, 3, 0, 249),
  (.goto 35, 3, 108, 0, 0, 0, 0)]
theorem qX10_moveOn_40 : jchk 77 40 kX10_moveOn_40 = true := by decide +kernel
def kX10_moveOn_76 : List JI := [(.aload_n 0, 1, 0, 0, 0, 0, 0),
  (.getfield 15, 3, 10, 1, 4, 0, 229),
  (.iload 4, 2, 4, 0, 0, 0, 0),
  (.iconst 1, 1, 0, 1, 0, 0, 0),
  (.iadd, 1, 0, 0, 0, 0, 0),
  (.iaload, 1, 0, 0, 0, 0, 0),
  (.iconst (-1), 1, 0, -1, 0, 0, 0),
  (.if_icmp .ne 22, 3, 108, 0, 0, 0, 0),
  (.aload_n 0, 1, 0, 0, 0, 0, 0),
  (.getfield 15, 3, 10, 1, 4, 0, 229),
  (.iload 4, 2, 4, 0, 0, 0, 0),
  (.iconst (-1), 1, 0, -1, 0, 0, 0),
  (.iastore, 1, 0, 0, 0, 0, 0),
  (.aload_n 0, 1, 0, 0, 0, 0, 0),
  (.iload 5, 2, 5, 0, 0, 0, 0),
  (.iload 4, 2, 4, 0, 0, 0, 0),
  (.iconst 1, 1, 0, 1, 0, 0, 0),
  (.iadd, 1, 0, 0, 0, 0, 0),
  (.aload_n 2, 1, 2, 0, 0, 0, 0),
  (.invokevirtual 124, 3, 76, 3, 0, 10, 691)]
theorem qX10_moveOn_76 : jchk 77 76 kX10_moveOn_76 = true := by decide +kernel
def kX10_moveOn_108 : List JI := [(.iinc 4 (-1), 3, 4, -1, 0, 0, 0),
  (.goto (-106), 3, 5, 0, 0, 0, 0)]
theorem qX10_moveOn_108 : jchk 77 108 kX10_moveOn_108 = true := by decide +kernel
def kX10_moveOn_114 : List JI := [(.iload_n 3, 1, 3, 0, 0, 0, 0),
  (.ireturn, 1, 0, 0, 0, 0, 0)]
theorem qX10_moveOn_114 : jchk 77 114 kX10_moveOn_114 = true := by decide +kernel
def kX10_letIn_0 : List JI := [(.iconst 0, 1, 0, 0, 0, 0, 0),
  (.istore_n 2, 1, 2, 0, 0, 0, 0)]
theorem qX10_letIn_0 : jchk 78 0 kX10_letIn_0 = true := by decide +kernel
def kX10_letIn_2 : List JI := [(.iload_n 2, 1, 2, 0, 0, 0, 0),
  (.aload_n 0, 1, 0, 0, 0, 0, 0),
  (.getfield 58, 3, 10, 6, 1, 0, 242),
  (.if_icmp .ge 48, 3, 55, 0, 0, 0, 0),
  (.aload_n 0, 1, 0, 0, 0, 0, 0),
  (.getfield 15, 3, 10, 1, 4, 0, 229),
  (.iconst 0, 1, 0, 0, 0, 0, 0),
  (.iaload, 1, 0, 0, 0, 0, 0),
  (.iconst (-1), 1, 0, -1, 0, 0, 0),
  (.if_icmp .ne 38, 3, 55, 0, 0, 0, 0),
  (.aload_n 0, 1, 0, 0, 0, 0, 0),
  (.getfield 23, 3, 10, 3, 4, 0, 233),
  (.aload_n 0, 1, 0, 0, 0, 0, 0),
  (.getfield 27, 3, 10, 5, 4, 0, 239),
  (.iload_n 2, 1, 2, 0, 0, 0, 0),
  (.iaload, 1, 0, 0, 0, 0, 0),
  (.aaload, 1, 0, 0, 0, 0, 0),
  (.getfield 48, 3, 4, 3, 1, 0, 172),
  (.ifCond .ne 15, 3, 49, 0, 0, 0, 0),
  (.aload_n 0, 1, 0, 0, 0, 0, 0),
  (.aload_n 0, 1, 0, 0, 0, 0, 0),
  (.getfield 27, 3, 10, 5, 4, 0, 239),
  (.iload_n 2, 1, 2, 0, 0, 0, 0),
  (.iaload, 1, 0, 0, 0, 0, 0),
  (.iconst 0, 1, 0, 0, 0, 0, 0),
  (.aload_n 1, 1, 1, 0, 0, 0, 0),
  (.invokevirtual 124, 3, 76, 3, 0, 10, 691)]
theorem qX10_letIn_2 : jchk 78 2 kX10_letIn_2 = true := by decide +kernel
def kX10_letIn_49 : List JI := [(.iinc 2 1, 3, 2, 1, 0, 0, 0),
  (.goto (-50), 3, 2, 0, 0, 0, 0)]
theorem qX10_letIn_49 : jchk 78 49 kX10_letIn_49 = true := by decide +kernel
def kX10_letIn_55 : List JI := [(.return_, 1, 0, 0, 0, 0, 0)]
theorem qX10_letIn_55 : jchk 78 55 kX10_letIn_55 = true := by decide +kernel
def kX10_hasAll_0 : List JI := [(.iconst 0, 1, 0, 0, 0, 0, 0),
  (.istore_n 2, 1, 2, 0, 0, 0, 0)]
theorem qX10_hasAll_0 : jchk 79 0 kX10_hasAll_0 = true := by decide +kernel
def kX10_hasAll_2 : List JI := [(.iload_n 2, 1, 2, 0, 0, 0, 0),
  (.bipush 6, 2, 0, 6, 0, 0, 0),
  (.if_icmp .ge 23, 3, 28, 0, 0, 0, 0),
  (.aload_n 0, 1, 0, 0, 0, 0, 0),
  (.getfield 9, 3, 10, 0, 4, 0, 227),
  (.iload_n 2, 1, 2, 0, 0, 0, 0),
  (.iaload, 1, 0, 0, 0, 0, 0),
  (.aload_n 1, 1, 1, 0, 0, 0, 0),
  (.iload_n 2, 1, 2, 0, 0, 0, 0),
  (.iaload, 1, 0, 0, 0, 0, 0),
  (.if_icmp .ge 5, 3, 22, 0, 0, 0, 0),
  (.iconst 0, 1, 0, 0, 0, 0, 0),
  (.ireturn, 1, 0, 0, 1, 0, 0)]
theorem qX10_hasAll_2 : jchk 79 2 kX10_hasAll_2 = true := by decide +kernel
def kX10_hasAll_22 : List JI := [(.iinc 2 1, 3, 2, 1, 0, 0, 0),
  (.goto (-23), 3, 2, 0, 0, 0, 0)]
theorem qX10_hasAll_22 : jchk 79 22 kX10_hasAll_22 = true := by decide +kernel
def kX10_hasAll_28 : List JI := [(.iconst 1, 1, 0, 1, 0, 0, 0),
  (.ireturn, 1, 0, 0, 1, 0, 0)]
theorem qX10_hasAll_28 : jchk 79 28 kX10_hasAll_28 = true := by decide +kernel
def kX10_takeGoods_0 : List JI := [(.iconst 0, 1, 0, 0, 0, 0, 0),
  (.istore_n 1, 1, 1, 0, 0, 0, 0)]
theorem qX10_takeGoods_0 : jchk 80 0 kX10_takeGoods_0 = true := by decide +kernel
def kX10_takeGoods_2 : List JI := [(.iload_n 1, 1, 1, 0, 0, 0, 0),
  (.aload_n 0, 1, 0, 0, 0, 0, 0),
  (.getfield 58, 3, 10, 6, 1, 0, 242),
  (.if_icmp .ge 102, 3, 109, 0, 0, 0, 0),
  (.aload_n 0, 1, 0, 0, 0, 0, 0),
  (.getfield 23, 3, 10, 3, 4, 0, 233),
  (.aload_n 0, 1, 0, 0, 0, 0, 0),
  (.getfield 27, 3, 10, 5, 4, 0, 239),
  (.iload_n 1, 1, 1, 0, 0, 0, 0),
  (.iaload, 1, 0, 0, 0, 0, 0),
  (.aaload, 1, 0, 0, 0, 0, 0),
  (.astore_n 2, 1, 2, 0, 0, 0, 0),
  (.aload_n 2, 1, 2, 0, 0, 0, 0),
  (.getfield 48, 3, 4, 3, 1, 0, 172),
  (.iconst 1, 1, 0, 1, 0, 0, 0),
  (.if_icmp .ne 76, 3, 103, 0, 0, 0, 0),
  (.aload_n 2, 1, 2, 0, 0, 0, 0),
  (.getfield 132, 3, 4, 7, 3, 0, 185),
  (.ifCond .eq 6, 3, 40, 0, 0, 0, 0),
  (.goto 66, 3, 103, 0, 0, 0, 0)]
theorem qX10_takeGoods_2 : jchk 80 2 kX10_takeGoods_2 = true := by decide +kernel
def kX10_takeGoods_40 : List JI := [(.aload_n 0, 1, 0, 0, 0, 0, 0),
  (.aload_n 2, 1, 2, 0, 0, 0, 0),
  (.getfield 135, 3, 4, 11, 4, 0, 197),
  (.invokevirtual 138, 3, 79, 1, 0, 10, 707),
  (.ifCond .eq 45, 3, 93, 0, 0, 0, 0),
  (.iconst 0, 1, 0, 0, 0, 0, 0),
  (.istore_n 3, 1, 3, 0, 0, 0, 0)]
theorem qX10_takeGoods_40 : jchk 80 40 kX10_takeGoods_40 = true := by decide +kernel
def kX10_takeGoods_53 : List JI := [(.iload_n 3, 1, 3, 0, 0, 0, 0),
  (.bipush 6, 2, 0, 6, 0, 0, 0),
  (.if_icmp .ge 24, 3, 80, 0, 0, 0, 0),
  (.aload_n 0, 1, 0, 0, 0, 0, 0),
  (.getfield 9, 3, 10, 0, 4, 0, 227),
  (.iload_n 3, 1, 3, 0, 0, 0, 0),
  (.dup2, 1, 0, 0, 0, 0, 0),
  (.iaload, 1, 0, 0, 0, 0, 0),
  (.aload_n 2, 1, 2, 0, 0, 0, 0),
  (.getfield 135, 3, 4, 11, 4, 0, 197),
  (.iload_n 3, 1, 3, 0, 0, 0, 0),
  (.iaload, 1, 0, 0, 0, 0, 0),
  (.isub, 1, 0, 0, 0, 0, 0),
  (.iastore, 1, 0, 0, 0, 0, 0),
  (.iinc 3 1, 3, 3, 1, 0, 0, 0),
  (.goto (-24), 3, 53, 0, 0, 0, 0)]
theorem qX10_takeGoods_53 : jchk 80 53 kX10_takeGoods_53 = true := by decide +kernel
def kX10_takeGoods_80 : List JI := [(.aload_n 2, 1, 2, 0, 0, 0, 0),
  (.iconst 1, 1, 0, 1, 0, 0, 0),
  (.putfield 132, 3, 4, 7, 3, 0, 185),
  (.aload_n 0, 1, 0, 0, 0, 0, 0),
  (.iconst 1, 1, 0, 1, 0, 0, 0),
  (.putfield 78, 3, 10, 10, 3, 0, 249),
  (.goto 13, 3, 103, 0, 0, 0, 0)]
theorem qX10_takeGoods_80 : jchk 80 80 kX10_takeGoods_80 = true := by decide +kernel
def kX10_takeGoods_93 : List JI := [(.aload_n 2, 1, 2, 0, 0, 0, 0),
  (.dup, 1, 0, 0, 0, 0, 0),
  (.getfield 142, 3, 4, 8, 1, 0, 189),
  (.iconst 1, 1, 0, 1, 0, 0, 0),
  (.iadd, 1, 0, 0, 0, 0, 0),
  (.putfield 142, 3, 4, 8, 1, 0, 189)]
theorem qX10_takeGoods_93 : jchk 80 93 kX10_takeGoods_93 = true := by decide +kernel
def kX10_takeGoods_103 : List JI := [(.iinc 1 1, 3, 1, 1, 0, 0, 0),
  (.goto (-104), 3, 2, 0, 0, 0, 0)]
theorem qX10_takeGoods_103 : jchk 80 103 kX10_takeGoods_103 = true := by decide +kernel
def kX10_takeGoods_109 : List JI := [(.return_, 1, 0, 0, 0, 0, 0)]
theorem qX10_takeGoods_109 : jchk 80 109 kX10_takeGoods_109 = true := by decide +kernel
end
section
def kX10_doWork_0 : List JI := [(.aload_n 1, 1, 1, 0, 0, 0, 0),
  (.iload_n 2, 1, 2, 0, 0, 0, 0),
  (.aload_n 0, 1, 0, 0, 0, 0, 0),
  (.getfield 30, 3, 10, 11, 4, 0, 251),
  (.iconst 0, 1, 0, 0, 0, 0, 0),
  (.iconst 4, 1, 0, 4, 0, 0, 0),
  (.invokestatic 68, 3, 999, 0, 0, 0, 715),
  (.iconst 0, 1, 0, 0, 0, 0, 0),
  (.istore 4, 2, 4, 0, 0, 0, 0)]
theorem qX10_doWork_0 : jchk 81 0 kX10_doWork_0 = true := by decide +kernel
def kX10_doWork_14 : List JI := [(.iload 4, 2, 4, 0, 0, 0, 0),
  (.aload_n 0, 1, 0, 0, 0, 0, 0),
  (.getfield 58, 3, 10, 6, 1, 0, 242),
  (.if_icmp .ge 120, 3, 140, 0, 0, 0, 0),
  (.aload_n 0, 1, 0, 0, 0, 0, 0),
  (.getfield 23, 3, 10, 3, 4, 0, 233),
  (.aload_n 0, 1, 0, 0, 0, 0, 0),
  (.getfield 27, 3, 10, 5, 4, 0, 239),
  (.iload 4, 2, 4, 0, 0, 0, 0),
  (.iaload, 1, 0, 0, 0, 0, 0),
  (.aaload, 1, 0, 0, 0, 0, 0),
  (.astore 5, 2, 5, 0, 0, 0, 0),
  (.aload 5, 2, 5, 0, 0, 0, 0),
  (.getfield 48, 3, 4, 3, 1, 0, 172),
  (.iconst 1, 1, 0, 1, 0, 0, 0),
  (.if_icmp .ne 91, 3, 134, 0, 0, 0, 0),
  (.aload 5, 2, 5, 0, 0, 0, 0),
  (.getfield 132, 3, 4, 7, 3, 0, 185),
  (.ifCond .eq 83, 3, 134, 0, 0, 0, 0),
  (.aload 5, 2, 5, 0, 0, 0, 0),
  (.getfield 145, 3, 4, 6, 1, 0, 182),
  (.ifCond .le 75, 3, 134, 0, 0, 0, 0),
  (.aload_n 0, 1, 0, 0, 0, 0, 0),
  (.getfield 30, 3, 10, 11, 4, 0, 251),
  (.aload 5, 2, 5, 0, 0, 0, 0),
  (.getfield 148, 3, 4, 5, 1, 0, 179),
  (.iaload, 1, 0, 0, 0, 0, 0),
  (.iload_n 3, 1, 3, 0, 0, 0, 0),
  (.invokestatic 52, 3, 997, 0, 0, 0, 656),
  (.aload 5, 2, 5, 0, 0, 0, 0),
  (.getfield 145, 3, 4, 6, 1, 0, 182),
  (.invokestatic 52, 3, 997, 0, 0, 0, 656),
  (.istore 6, 2, 6, 0, 0, 0, 0),
  (.aload_n 0, 1, 0, 0, 0, 0, 0),
  (.getfield 30, 3, 10, 11, 4, 0, 251),
  (.aload 5, 2, 5, 0, 0, 0, 0),
  (.getfield 148, 3, 4, 5, 1, 0, 179),
  (.dup2, 1, 0, 0, 0, 0, 0),
  (.iaload, 1, 0, 0, 0, 0, 0),
  (.iload 6, 2, 6, 0, 0, 0, 0),
  (.isub, 1, 0, 0, 0, 0, 0),
  (.iastore, 1, 0, 0, 0, 0, 0),
  (.aload 5, 2, 5, 0, 0, 0, 0),
  (.dup, 1, 0, 0, 0, 0, 0),
  (.getfield 145, 3, 4, 6, 1, 0, 182),
  (.iload 6, 2, 6, 0, 0, 0, 0),
  (.isub, 1, 0, 0, 0, 0, 0),
  (.putfield 145, 3, 4, 6, 1, 0, 182),
  (.aload_n 0, 1, 0, 0, 0, 0, 0),
  (.aload_n 0, 1, 0, 0, 0, 0, 0),
  (.getfield 78, 3, 10, 10, 3, 0, 249),
  (.ifCond .ne 8, 3, 126, 0, 0, 0, 0),
  (.iload 6, 2, 6, 0, 0, 0, 0),
  (.ifCond .le 7, 3, 130, 0, 0, 0, 0)]
theorem qX10_doWork_14 : jchk 81 14 kX10_doWork_14 = true := by decide +kernel
def kX10_doWork_126 : List JI := [(.iconst 1, 1, 0, 1, 0, 0, 0),
  (.goto 4, 3, 131, 0, 0, 0, 0)]
theorem qX10_doWork_126 : jchk 81 126 kX10_doWork_126 = true := by decide +kernel
def kX10_doWork_130 : List JI := [(.iconst 0, 1, 0, 0, 0, 0, 0)]
theorem qX10_doWork_130 : jchk 81 130 kX10_doWork_130 = true := by decide +kernel
def kX10_doWork_131 : List JI := [(.putfield 78, 3, 10, 10, 3, 0, 249)]
theorem qX10_doWork_131 : jchk 81 131 kX10_doWork_131 = true := by decide +kernel
def kX10_doWork_134 : List JI := [(.iinc 4 1, 3, 4, 1, 0, 0, 0),
  (.goto (-123), 3, 14, 0, 0, 0, 0)]
theorem qX10_doWork_134 : jchk 81 134 kX10_doWork_134 = true := by decide +kernel
def kX10_doWork_140 : List JI := [(.iconst 0, 1, 0, 0, 0, 0, 0),
  (.istore 4, 2, 4, 0, 0, 0, 0)]
theorem qX10_doWork_140 : jchk 81 140 kX10_doWork_140 = true := by decide +kernel
def kX10_doWork_143 : List JI := [(.iload 4, 2, 4, 0, 0, 0, 0),
  (.iconst 4, 1, 0, 4, 0, 0, 0),
  (.if_icmp .ge 25, 3, 171, 0, 0, 0, 0),
  (.aload_n 0, 1, 0, 0, 0, 0, 0),
  (.dup, 1, 0, 0, 0, 0, 0),
  (.getfield 151, 3, 10, 9, 1, 0, 247),
  (.aload_n 0, 1, 0, 0, 0, 0, 0),
  (.getfield 30, 3, 10, 11, 4, 0, 251),
  (.iload 4, 2, 4, 0, 0, 0, 0),
  (.iaload, 1, 0, 0, 0, 0, 0),
  (.iadd, 1, 0, 0, 0, 0, 0),
  (.putfield 151, 3, 10, 9, 1, 0, 247),
  (.iinc 4 1, 3, 4, 1, 0, 0, 0),
  (.goto (-25), 3, 143, 0, 0, 0, 0)]
theorem qX10_doWork_143 : jchk 81 143 kX10_doWork_143 = true := by decide +kernel
def kX10_doWork_171 : List JI := [(.return_, 1, 0, 0, 0, 0, 0)]
theorem qX10_doWork_171 : jchk 81 171 kX10_doWork_171 = true := by decide +kernel
def kX10_drink_0 : List JI := [(.iload_n 1, 1, 1, 0, 0, 0, 0),
  (.aload_n 0, 1, 0, 0, 0, 0, 0),
  (.getfield 9, 3, 10, 0, 4, 0, 227),
  (.iconst 5, 1, 0, 5, 0, 0, 0),
  (.iaload, 1, 0, 0, 0, 0, 0),
  (.invokestatic 52, 3, 997, 0, 0, 0, 656),
  (.istore_n 2, 1, 2, 0, 0, 0, 0),
  (.aload_n 0, 1, 0, 0, 0, 0, 0),
  (.getfield 9, 3, 10, 0, 4, 0, 227),
  (.iconst 5, 1, 0, 5, 0, 0, 0),
  (.dup2, 1, 0, 0, 0, 0, 0),
  (.iaload, 1, 0, 0, 0, 0, 0),
  (.iload_n 2, 1, 2, 0, 0, 0, 0),
  (.isub, 1, 0, 0, 0, 0, 0),
  (.iastore, 1, 0, 0, 0, 0, 0),
  (.aload_n 0, 1, 0, 0, 0, 0, 0),
  (.dup, 1, 0, 0, 0, 0, 0),
  (.getfield 154, 3, 10, 8, 1, 0, 245),
  (.iload_n 1, 1, 1, 0, 0, 0, 0),
  (.iload_n 2, 1, 2, 0, 0, 0, 0),
  (.isub, 1, 0, 0, 0, 0, 0),
  (.iadd, 1, 0, 0, 0, 0, 0),
  (.putfield 154, 3, 10, 8, 1, 0, 245),
  (.return_, 1, 0, 0, 0, 0, 0)]
theorem qX10_drink_0 : jchk 82 0 kX10_drink_0 = true := by decide +kernel
def kX10_passDay_0 : List JI := [(.aload_n 0, 1, 0, 0, 0, 0, 0),
  (.iconst 0, 1, 0, 0, 0, 0, 0),
  (.putfield 78, 3, 10, 10, 3, 0, 249),
  (.aload_n 0, 1, 0, 0, 0, 0, 0),
  (.iload_n 1, 1, 1, 0, 0, 0, 0),
  (.aload 4, 2, 4, 0, 0, 0, 0),
  (.invokevirtual 82, 3, 77, 2, 0, 10, 679),
  (.istore 5, 2, 5, 0, 0, 0, 0),
  (.aload_n 0, 1, 0, 0, 0, 0, 0),
  (.aload 4, 2, 4, 0, 0, 0, 0),
  (.invokevirtual 86, 3, 78, 1, 0, 10, 699),
  (.aload_n 0, 1, 0, 0, 0, 0, 0),
  (.invokevirtual 90, 3, 80, 0, 0, 10, 703),
  (.aload_n 0, 1, 0, 0, 0, 0, 0),
  (.aload_n 2, 1, 2, 0, 0, 0, 0),
  (.getfield 93, 3, 0, 0, 4, 0, 405),
  (.iload_n 3, 1, 3, 0, 0, 0, 0),
  (.iconst 4, 1, 0, 4, 0, 0, 0),
  (.imul, 1, 0, 0, 0, 0, 0),
  (.aload_n 2, 1, 2, 0, 0, 0, 0),
  (.getfield 98, 3, 0, 1, 4, 0, 408),
  (.iload_n 3, 1, 3, 0, 0, 0, 0),
  (.iaload, 1, 0, 0, 0, 0, 0),
  (.invokevirtual 101, 3, 81, 3, 0, 10, 711),
  (.aload_n 0, 1, 0, 0, 0, 0, 0),
  (.dup, 1, 0, 0, 0, 0, 0),
  (.getfield 105, 3, 10, 7, 1, 0, 243),
  (.aload_n 2, 1, 2, 0, 0, 0, 0),
  (.getfield 108, 3, 0, 2, 4, 0, 410),
  (.iload_n 3, 1, 3, 0, 0, 0, 0),
  (.iaload, 1, 0, 0, 0, 0, 0),
  (.iadd, 1, 0, 0, 0, 0, 0),
  (.putfield 105, 3, 10, 7, 1, 0, 243),
  (.aload_n 0, 1, 0, 0, 0, 0, 0),
  (.aload_n 2, 1, 2, 0, 0, 0, 0),
  (.getfield 111, 3, 0, 3, 4, 0, 412),
  (.iload_n 3, 1, 3, 0, 0, 0, 0),
  (.iaload, 1, 0, 0, 0, 0, 0),
  (.invokevirtual 114, 3, 82, 1, 0, 10, 716),
  (.iload 5, 2, 5, 0, 0, 0, 0),
  (.ireturn, 1, 0, 0, 0, 0, 0)]
theorem qX10_passDay_0 : jchk 83 0 kX10_passDay_0 = true := by decide +kernel
def kX3_stands_0 : List JI := [(.aload_n 0, 1, 0, 0, 0, 0, 0),
  (.getfield 21, 3, 3, 4, 4, 0, 295),
  (.iload_n 1, 1, 1, 0, 0, 0, 0),
  (.iaload, 1, 0, 0, 0, 0, 0),
  (.bipush (-9), 2, 0, -9, 0, 0, 0),
  (.if_icmp .ne 7, 3, 15, 0, 0, 0, 0),
  (.iconst 1, 1, 0, 1, 0, 0, 0),
  (.goto 4, 3, 16, 0, 0, 0, 0)]
theorem qX3_stands_0 : jchk 84 0 kX3_stands_0 = true := by decide +kernel
def kX3_stands_15 : List JI := [(.iconst 0, 1, 0, 0, 0, 0, 0)]
theorem qX3_stands_15 : jchk 84 15 kX3_stands_15 = true := by decide +kernel
def kX3_stands_16 : List JI := [(.ireturn, 1, 0, 0, 1, 0, 0)]
theorem qX3_stands_16 : jchk 84 16 kX3_stands_16 = true := by decide +kernel
def kX3_grow_0 : List JI := [(.iconst 0, 1, 0, 0, 0, 0, 0),
  (.istore_n 1, 1, 1, 0, 0, 0, 0)]
theorem qX3_grow_0 : jchk 85 0 kX3_grow_0 = true := by decide +kernel
def kX3_grow_2 : List JI := [(.iload_n 1, 1, 1, 0, 0, 0, 0),
  (.aload_n 0, 1, 0, 0, 0, 0, 0),
  (.getfield 30, 3, 3, 0, 1, 0, 283),
  (.if_icmp .ge 37, 3, 44, 0, 0, 0, 0),
  (.aload_n 0, 1, 0, 0, 0, 0, 0),
  (.iload_n 1, 1, 1, 0, 0, 0, 0),
  (.invokevirtual 34, 3, 84, 1, 0, 3, 724),
  (.ifCond .eq 23, 3, 38, 0, 0, 0, 0),
  (.aload_n 0, 1, 0, 0, 0, 0, 0),
  (.getfield 18, 3, 3, 3, 4, 0, 292),
  (.iload_n 1, 1, 1, 0, 0, 0, 0),
  (.dup2, 1, 0, 0, 0, 0, 0),
  (.iaload, 1, 0, 0, 0, 0, 0),
  (.aload_n 0, 1, 0, 0, 0, 0, 0),
  (.getfield 27, 3, 3, 6, 4, 0, 299),
  (.aload_n 0, 1, 0, 0, 0, 0, 0),
  (.getfield 9, 3, 3, 1, 4, 0, 286),
  (.iload_n 1, 1, 1, 0, 0, 0, 0),
  (.iaload, 1, 0, 0, 0, 0, 0),
  (.iaload, 1, 0, 0, 0, 0, 0),
  (.iadd, 1, 0, 0, 0, 0, 0),
  (.iastore, 1, 0, 0, 0, 0, 0)]
theorem qX3_grow_2 : jchk 85 2 kX3_grow_2 = true := by decide +kernel
def kX3_grow_38 : List JI := [(.iinc 1 1, 3, 1, 1, 0, 0, 0),
  (.goto (-39), 3, 2, 0, 0, 0, 0)]
theorem qX3_grow_38 : jchk 85 38 kX3_grow_38 = true := by decide +kernel
def kX3_grow_44 : List JI := [(.return_, 1, 0, 0, 0, 0, 0)]
theorem qX3_grow_44 : jchk 85 44 kX3_grow_44 = true := by decide +kernel
def kX11_days_0 : List JI := [(.iload_n 1, 1, 1, 0, 0, 0, 0),
  (.iconst 0, 1, 0, 0, 0, 0, 0),
  (.sipush 2000, 3, 0, 2000, 0, 0, 0),
  (.aload_n 0, 1, 0, 0, 0, 0, 0),
  (.getfield 147, 3, 11, 0, 1, 0, 472),
  (.isub, 1, 0, 0, 0, 0, 0),
  (.invokestatic 89, 3, 15, 3, 0, 11, 516),
  (.istore_n 2, 1, 2, 0, 0, 0, 0),
  (.iload_n 2, 1, 2, 0, 0, 0, 0),
  (.ifCond .eq 9, 3, 24, 0, 0, 0, 0),
  (.aload_n 0, 1, 0, 0, 0, 0, 0),
  (.iload_n 2, 1, 2, 0, 0, 0, 0),
  (.invokevirtual 93, 3, 16, 1, 0, 11, 519),
  (.ireturn, 1, 0, 0, 0, 0, 0)]
theorem qX11_days_0 : jchk 86 0 kX11_days_0 = true := by decide +kernel
def kX11_days_24 : List JI := [(.aload_n 0, 1, 0, 0, 0, 0, 0),
  (.getfield 81, 3, 11, 11, 4, 0, 483),
  (.invokevirtual 97, 3, 17, 0, 0, 7, 523),
  (.aload_n 0, 1, 0, 0, 0, 0, 0),
  (.getfield 37, 3, 11, 5, 4, 0, 477),
  (.invokevirtual 213, 3, 71, 0, 0, 10, 663),
  (.aload_n 0, 1, 0, 0, 0, 0, 0),
  (.getfield 23, 3, 11, 3, 4, 0, 475),
  (.invokevirtual 164, 3, 46, 0, 0, 2, 596),
  (.iconst 0, 1, 0, 0, 0, 0, 0),
  (.istore_n 3, 1, 3, 0, 0, 0, 0),
  (.iconst 0, 1, 0, 0, 0, 0, 0),
  (.istore 4, 2, 4, 0, 0, 0, 0)]
theorem qX11_days_24 : jchk 86 24 kX11_days_24 = true := by decide +kernel
def kX11_days_50 : List JI := [(.iload 4, 2, 4, 0, 0, 0, 0),
  (.iload_n 1, 1, 1, 0, 0, 0, 0),
  (.if_icmp .ge 80, 3, 133, 0, 0, 0, 0),
  (.aload_n 0, 1, 0, 0, 0, 0, 0),
  (.dup, 1, 0, 0, 0, 0, 0),
  (.getfield 147, 3, 11, 0, 1, 0, 472),
  (.iconst 1, 1, 0, 1, 0, 0, 0),
  (.iadd, 1, 0, 0, 0, 0, 0),
  (.putfield 147, 3, 11, 0, 1, 0, 472),
  (.aload_n 0, 1, 0, 0, 0, 0, 0),
  (.getfield 74, 3, 11, 10, 4, 0, 482),
  (.iconst 0, 1, 0, 0, 0, 0, 0),
  (.aload_n 0, 1, 0, 0, 0, 0, 0),
  (.getfield 147, 3, 11, 0, 1, 0, 472),
  (.aload_n 0, 1, 0, 0, 0, 0, 0),
  (.getfield 16, 3, 11, 2, 4, 0, 474),
  (.aload_n 0, 1, 0, 0, 0, 0, 0),
  (.getfield 23, 3, 11, 3, 4, 0, 475),
  (.invokevirtual 216, 3, 72, 4, 0, 0, 668),
  (.iload_n 3, 1, 3, 0, 0, 0, 0),
  (.aload_n 0, 1, 0, 0, 0, 0, 0),
  (.getfield 37, 3, 11, 5, 4, 0, 477),
  (.aload_n 0, 1, 0, 0, 0, 0, 0),
  (.getfield 147, 3, 11, 0, 1, 0, 472),
  (.aload_n 0, 1, 0, 0, 0, 0, 0),
  (.getfield 74, 3, 11, 10, 4, 0, 482),
  (.iconst 0, 1, 0, 0, 0, 0, 0),
  (.aload_n 0, 1, 0, 0, 0, 0, 0),
  (.getfield 30, 3, 11, 4, 4, 0, 476),
  (.invokevirtual 220, 3, 83, 4, 0, 10, 675),
  (.iadd, 1, 0, 0, 0, 0, 0),
  (.istore_n 3, 1, 3, 0, 0, 0, 0),
  (.aload_n 0, 1, 0, 0, 0, 0, 0),
  (.getfield 147, 3, 11, 0, 1, 0, 472),
  (.sipush 360, 3, 0, 360, 0, 0, 0),
  (.irem, 1, 0, 0, 0, 0, 0),
  (.ifCond .ne 10, 3, 127, 0, 0, 0, 0),
  (.aload_n 0, 1, 0, 0, 0, 0, 0),
  (.getfield 44, 3, 11, 6, 4, 0, 478),
  (.invokevirtual 224, 3, 85, 0, 0, 3, 720)]
theorem qX11_days_50 : jchk 86 50 kX11_days_50 = true := by decide +kernel
def kX11_days_127 : List JI := [(.iinc 4 1, 3, 4, 1, 0, 0, 0),
  (.goto (-80), 3, 50, 0, 0, 0, 0)]
theorem qX11_days_127 : jchk 86 127 kX11_days_127 = true := by decide +kernel
def kX11_days_133 : List JI := [(.iload_n 3, 1, 3, 0, 0, 0, 0),
  (.ireturn, 1, 0, 0, 0, 0, 0)]
theorem qX11_days_133 : jchk 86 133 kX11_days_133 = true := by decide +kernel
def kX12_enter_0 : List JI := [(.aload_n 0, 1, 0, 0, 0, 0, 0),
  (.getfield 86, 3, 12, 28, 4, 0, 987),
  (.iload_n 2, 1, 2, 0, 0, 0, 0),
  (.iload_n 1, 1, 1, 0, 0, 0, 0),
  (.iastore, 1, 0, 0, 0, 0, 0),
  (.aload_n 0, 1, 0, 0, 0, 0, 0),
  (.getfield 55, 3, 12, 18, 4, 0, 977),
  (.iload_n 1, 1, 1, 0, 0, 0, 0),
  (.iconst 1, 1, 0, 1, 0, 0, 0),
  (.iastore, 1, 0, 0, 0, 0, 0),
  (.aload_n 0, 1, 0, 0, 0, 0, 0),
  (.getfield 58, 3, 12, 19, 4, 0, 978),
  (.iload_n 1, 1, 1, 0, 0, 0, 0),
  (.iload_n 2, 1, 2, 0, 0, 0, 0),
  (.iastore, 1, 0, 0, 0, 0, 0),
  (.bipush 6, 2, 0, 6, 0, 0, 0),
  (.aload_n 0, 1, 0, 0, 0, 0, 0),
  (.getfield 46, 3, 12, 15, 4, 0, 974),
  (.iload_n 1, 1, 1, 0, 0, 0, 0),
  (.iaload, 1, 0, 0, 0, 0, 0),
  (.imul, 1, 0, 0, 0, 0, 0),
  (.iload_n 2, 1, 2, 0, 0, 0, 0),
  (.iadd, 1, 0, 0, 0, 0, 0),
  (.istore_n 3, 1, 3, 0, 0, 0, 0),
  (.aload_n 0, 1, 0, 0, 0, 0, 0),
  (.getfield 61, 3, 12, 20, 4, 0, 979),
  (.iload_n 1, 1, 1, 0, 0, 0, 0),
  (.aload_n 0, 1, 0, 0, 0, 0, 0),
  (.getfield 37, 3, 12, 11, 4, 0, 970),
  (.iload_n 3, 1, 3, 0, 0, 0, 0),
  (.iaload, 1, 0, 0, 0, 0, 0),
  (.iastore, 1, 0, 0, 0, 0, 0),
  (.aload_n 0, 1, 0, 0, 0, 0, 0),
  (.getfield 64, 3, 12, 21, 4, 0, 980),
  (.iload_n 1, 1, 1, 0, 0, 0, 0),
  (.aload_n 0, 1, 0, 0, 0, 0, 0),
  (.getfield 40, 3, 12, 12, 4, 0, 971),
  (.iload_n 3, 1, 3, 0, 0, 0, 0),
  (.iaload, 1, 0, 0, 0, 0, 0),
  (.iastore, 1, 0, 0, 0, 0, 0),
  (.aload_n 0, 1, 0, 0, 0, 0, 0),
  (.getfield 67, 3, 12, 22, 4, 0, 981),
  (.iload_n 1, 1, 1, 0, 0, 0, 0),
  (.iconst 0, 1, 0, 0, 0, 0, 0),
  (.bastore, 1, 0, 0, 0, 0, 0),
  (.iconst 0, 1, 0, 0, 0, 0, 0),
  (.istore 4, 2, 4, 0, 0, 0, 0)]
theorem qX12_enter_0 : jchk 87 0 kX12_enter_0 = true := by decide +kernel
def kX12_enter_67 : List JI := [(.iload 4, 2, 4, 0, 0, 0, 0),
  (.bipush 6, 2, 0, 6, 0, 0, 0),
  (.if_icmp .ge 60, 3, 131, 0, 0, 0, 0),
  (.aload_n 0, 1, 0, 0, 0, 0, 0),
  (.getfield 77, 3, 12, 25, 4, 0, 984),
  (.bipush 6, 2, 0, 6, 0, 0, 0),
  (.iload_n 1, 1, 1, 0, 0, 0, 0),
  (.imul, 1, 0, 0, 0, 0, 0),
  (.iload 4, 2, 4, 0, 0, 0, 0),
  (.iadd, 1, 0, 0, 0, 0, 0),
  (.aload_n 0, 1, 0, 0, 0, 0, 0),
  (.getfield 43, 3, 12, 13, 4, 0, 972),
  (.bipush 6, 2, 0, 6, 0, 0, 0),
  (.iload_n 3, 1, 3, 0, 0, 0, 0),
  (.imul, 1, 0, 0, 0, 0, 0),
  (.iload 4, 2, 4, 0, 0, 0, 0),
  (.iadd, 1, 0, 0, 0, 0, 0),
  (.iaload, 1, 0, 0, 0, 0, 0),
  (.iastore, 1, 0, 0, 0, 0, 0),
  (.aload_n 0, 1, 0, 0, 0, 0, 0),
  (.getfield 80, 3, 12, 26, 4, 0, 985),
  (.bipush 6, 2, 0, 6, 0, 0, 0),
  (.iload_n 1, 1, 1, 0, 0, 0, 0),
  (.imul, 1, 0, 0, 0, 0, 0),
  (.iload 4, 2, 4, 0, 0, 0, 0),
  (.iadd, 1, 0, 0, 0, 0, 0),
  (.dup2, 1, 0, 0, 0, 0, 0),
  (.iaload, 1, 0, 0, 0, 0, 0),
  (.aload_n 0, 1, 0, 0, 0, 0, 0),
  (.getfield 43, 3, 12, 13, 4, 0, 972),
  (.bipush 6, 2, 0, 6, 0, 0, 0),
  (.iload_n 3, 1, 3, 0, 0, 0, 0),
  (.imul, 1, 0, 0, 0, 0, 0),
  (.iload 4, 2, 4, 0, 0, 0, 0),
  (.iadd, 1, 0, 0, 0, 0, 0),
  (.iaload, 1, 0, 0, 0, 0, 0),
  (.iadd, 1, 0, 0, 0, 0, 0),
  (.iastore, 1, 0, 0, 0, 0, 0),
  (.iinc 4 1, 3, 4, 1, 0, 0, 0),
  (.goto (-61), 3, 67, 0, 0, 0, 0)]
theorem qX12_enter_67 : jchk 87 67 kX12_enter_67 = true := by decide +kernel
def kX12_enter_131 : List JI := [(.return_, 1, 0, 0, 0, 0, 0)]
theorem qX12_enter_131 : jchk 87 131 kX12_enter_131 = true := by decide +kernel
def kX12_isFirst_0 : List JI := [(.aload_n 0, 1, 0, 0, 0, 0, 0),
  (.getfield 49, 3, 12, 16, 4, 0, 975),
  (.iload_n 1, 1, 1, 0, 0, 0, 0),
  (.iaload, 1, 0, 0, 0, 0, 0),
  (.aload_n 0, 1, 0, 0, 0, 0, 0),
  (.getfield 49, 3, 12, 16, 4, 0, 975),
  (.iload_n 2, 1, 2, 0, 0, 0, 0),
  (.iaload, 1, 0, 0, 0, 0, 0),
  (.if_icmp .eq 26, 3, 38, 0, 0, 0, 0),
  (.aload_n 0, 1, 0, 0, 0, 0, 0),
  (.getfield 49, 3, 12, 16, 4, 0, 975),
  (.iload_n 1, 1, 1, 0, 0, 0, 0),
  (.iaload, 1, 0, 0, 0, 0, 0),
  (.aload_n 0, 1, 0, 0, 0, 0, 0),
  (.getfield 49, 3, 12, 16, 4, 0, 975),
  (.iload_n 2, 1, 2, 0, 0, 0, 0),
  (.iaload, 1, 0, 0, 0, 0, 0),
  (.if_icmp .le 7, 3, 34, 0, 0, 0, 0),
  (.iconst 1, 1, 0, 1, 0, 0, 0),
  (.goto 17, 3, 48, 0, 0, 0, 0)]
theorem qX12_isFirst_0 : jchk 88 0 kX12_isFirst_0 = true := by decide +kernel
def kX12_isFirst_34 : List JI := [(.iconst 0, 1, 0, 0, 0, 0, 0),
  (.goto 13, 3, 48, 0, 0, 0, 0)]
theorem qX12_isFirst_34 : jchk 88 34 kX12_isFirst_34 = true := by decide +kernel
def kX12_isFirst_38 : List JI := [(.iload_n 1, 1, 1, 0, 0, 0, 0),
  (.iload_n 2, 1, 2, 0, 0, 0, 0),
  (.if_icmp .ge 7, 3, 47, 0, 0, 0, 0),
  (.iconst 1, 1, 0, 1, 0, 0, 0),
  (.goto 4, 3, 48, 0, 0, 0, 0)]
theorem qX12_isFirst_38 : jchk 88 38 kX12_isFirst_38 = true := by decide +kernel
def kX12_isFirst_47 : List JI := [(.iconst 0, 1, 0, 0, 0, 0, 0)]
theorem qX12_isFirst_47 : jchk 88 47 kX12_isFirst_47 = true := by decide +kernel
def kX12_isFirst_48 : List JI := [(.ireturn, 1, 0, 0, 1, 0, 0)]
theorem qX12_isFirst_48 : jchk 88 48 kX12_isFirst_48 = true := by decide +kernel
def kX12_firstBehind_0 : List JI := [(.iconst (-1), 1, 0, -1, 0, 0, 0),
  (.istore_n 3, 1, 3, 0, 0, 0, 0),
  (.iconst 0, 1, 0, 0, 0, 0, 0),
  (.istore 4, 2, 4, 0, 0, 0, 0)]
theorem qX12_firstBehind_0 : jchk 89 0 kX12_firstBehind_0 = true := by decide +kernel
def kX12_firstBehind_5 : List JI := [(.iload 4, 2, 4, 0, 0, 0, 0),
  (.aload_n 0, 1, 0, 0, 0, 0, 0),
  (.getfield 195, 3, 12, 14, 1, 0, 973),
  (.if_icmp .ge 51, 3, 62, 0, 0, 0, 0),
  (.aload_n 0, 1, 0, 0, 0, 0, 0),
  (.getfield 55, 3, 12, 18, 4, 0, 977),
  (.iload 4, 2, 4, 0, 0, 0, 0),
  (.iaload, 1, 0, 0, 0, 0, 0),
  (.iload_n 2, 1, 2, 0, 0, 0, 0),
  (.if_icmp .ne 34, 3, 56, 0, 0, 0, 0),
  (.iload_n 1, 1, 1, 0, 0, 0, 0),
  (.ifCond .lt 13, 3, 39, 0, 0, 0, 0),
  (.aload_n 0, 1, 0, 0, 0, 0, 0),
  (.iload_n 1, 1, 1, 0, 0, 0, 0),
  (.iload 4, 2, 4, 0, 0, 0, 0),
  (.invokevirtual 202, 3, 88, 2, 0, 12, 1265),
  (.ifCond .eq 20, 3, 56, 0, 0, 0, 0)]
theorem qX12_firstBehind_5 : jchk 89 5 kX12_firstBehind_5 = true := by decide +kernel
def kX12_firstBehind_39 : List JI := [(.iload_n 3, 1, 3, 0, 0, 0, 0),
  (.ifCond .lt 13, 3, 53, 0, 0, 0, 0),
  (.aload_n 0, 1, 0, 0, 0, 0, 0),
  (.iload 4, 2, 4, 0, 0, 0, 0),
  (.iload_n 3, 1, 3, 0, 0, 0, 0),
  (.invokevirtual 202, 3, 88, 2, 0, 12, 1265),
  (.ifCond .eq 6, 3, 56, 0, 0, 0, 0)]
theorem qX12_firstBehind_39 : jchk 89 39 kX12_firstBehind_39 = true := by decide +kernel
def kX12_firstBehind_53 : List JI := [(.iload 4, 2, 4, 0, 0, 0, 0),
  (.istore_n 3, 1, 3, 0, 0, 0, 0)]
theorem qX12_firstBehind_53 : jchk 89 53 kX12_firstBehind_53 = true := by decide +kernel
def kX12_firstBehind_56 : List JI := [(.iinc 4 1, 3, 4, 1, 0, 0, 0),
  (.goto (-54), 3, 5, 0, 0, 0, 0)]
theorem qX12_firstBehind_56 : jchk 89 56 kX12_firstBehind_56 = true := by decide +kernel
def kX12_firstBehind_62 : List JI := [(.iload_n 3, 1, 3, 0, 0, 0, 0),
  (.ireturn, 1, 0, 0, 0, 0, 0)]
theorem qX12_firstBehind_62 : jchk 89 62 kX12_firstBehind_62 = true := by decide +kernel
def kX12_moveAll_0 : List JI := [(.iconst 0, 1, 0, 0, 0, 0, 0),
  (.istore_n 1, 1, 1, 0, 0, 0, 0),
  (.iconst 5, 1, 0, 5, 0, 0, 0),
  (.istore_n 2, 1, 2, 0, 0, 0, 0)]
theorem qX12_moveAll_0 : jchk 90 0 kX12_moveAll_0 = true := by decide +kernel
def kX12_moveAll_4 : List JI := [(.iload_n 2, 1, 2, 0, 0, 0, 0),
  (.ifCond .lt 116, 3, 121, 0, 0, 0, 0),
  (.aload_n 0, 1, 0, 0, 0, 0, 0),
  (.getfield 86, 3, 12, 28, 4, 0, 987),
  (.iload_n 2, 1, 2, 0, 0, 0, 0),
  (.iaload, 1, 0, 0, 0, 0, 0),
  (.istore_n 3, 1, 3, 0, 0, 0, 0),
  (.iload_n 3, 1, 3, 0, 0, 0, 0),
  (.ifCond .lt 99, 3, 115, 0, 0, 0, 0),
  (.iload_n 3, 1, 3, 0, 0, 0, 0),
  (.bipush 100, 2, 0, 100, 0, 0, 0),
  (.if_icmp .eq 93, 3, 115, 0, 0, 0, 0),
  (.aload_n 0, 1, 0, 0, 0, 0, 0),
  (.getfield 67, 3, 12, 22, 4, 0, 981),
  (.iload_n 3, 1, 3, 0, 0, 0, 0),
  (.baload, 1, 0, 0, 0, 0, 0),
  (.ifCond .eq 84, 3, 115, 0, 0, 0, 0),
  (.aload_n 0, 1, 0, 0, 0, 0, 0),
  (.getfield 64, 3, 12, 21, 4, 0, 980),
  (.iload_n 3, 1, 3, 0, 0, 0, 0),
  (.iaload, 1, 0, 0, 0, 0, 0),
  (.ifCond .le 6, 3, 46, 0, 0, 0, 0),
  (.goto 72, 3, 115, 0, 0, 0, 0)]
theorem qX12_moveAll_4 : jchk 90 4 kX12_moveAll_4 = true := by decide +kernel
def kX12_moveAll_46 : List JI := [(.iload_n 2, 1, 2, 0, 0, 0, 0),
  (.iconst 5, 1, 0, 5, 0, 0, 0),
  (.if_icmp .ne 41, 3, 89, 0, 0, 0, 0),
  (.aload_n 0, 1, 0, 0, 0, 0, 0),
  (.getfield 86, 3, 12, 28, 4, 0, 987),
  (.iload_n 2, 1, 2, 0, 0, 0, 0),
  (.iconst (-1), 1, 0, -1, 0, 0, 0),
  (.iastore, 1, 0, 0, 0, 0, 0),
  (.aload_n 0, 1, 0, 0, 0, 0, 0),
  (.getfield 55, 3, 12, 18, 4, 0, 977),
  (.iload_n 3, 1, 3, 0, 0, 0, 0),
  (.iconst 2, 1, 0, 2, 0, 0, 0),
  (.iastore, 1, 0, 0, 0, 0, 0),
  (.aload_n 0, 1, 0, 0, 0, 0, 0),
  (.getfield 58, 3, 12, 19, 4, 0, 978),
  (.iload_n 3, 1, 3, 0, 0, 0, 0),
  (.bipush (-9), 2, 0, -9, 0, 0, 0),
  (.iastore, 1, 0, 0, 0, 0, 0),
  (.aload_n 0, 1, 0, 0, 0, 0, 0),
  (.getfield 74, 3, 12, 24, 4, 0, 983),
  (.iload_n 3, 1, 3, 0, 0, 0, 0),
  (.aload_n 0, 1, 0, 0, 0, 0, 0),
  (.getfield 184, 3, 12, 0, 1, 0, 959),
  (.iastore, 1, 0, 0, 0, 0, 0),
  (.iinc 1 1, 3, 1, 1, 0, 0, 0),
  (.goto 29, 3, 115, 0, 0, 0, 0)]
theorem qX12_moveAll_46 : jchk 90 46 kX12_moveAll_46 = true := by decide +kernel
def kX12_moveAll_89 : List JI := [(.aload_n 0, 1, 0, 0, 0, 0, 0),
  (.getfield 86, 3, 12, 28, 4, 0, 987),
  (.iload_n 2, 1, 2, 0, 0, 0, 0),
  (.iconst 1, 1, 0, 1, 0, 0, 0),
  (.iadd, 1, 0, 0, 0, 0, 0),
  (.iaload, 1, 0, 0, 0, 0, 0),
  (.ifCond .ge 18, 3, 115, 0, 0, 0, 0),
  (.aload_n 0, 1, 0, 0, 0, 0, 0),
  (.getfield 86, 3, 12, 28, 4, 0, 987),
  (.iload_n 2, 1, 2, 0, 0, 0, 0),
  (.iconst (-1), 1, 0, -1, 0, 0, 0),
  (.iastore, 1, 0, 0, 0, 0, 0),
  (.aload_n 0, 1, 0, 0, 0, 0, 0),
  (.iload_n 3, 1, 3, 0, 0, 0, 0),
  (.iload_n 2, 1, 2, 0, 0, 0, 0),
  (.iconst 1, 1, 0, 1, 0, 0, 0),
  (.iadd, 1, 0, 0, 0, 0, 0),
  (.invokevirtual 206, 3, 87, 2, 0, 12, 1257)]
theorem qX12_moveAll_89 : jchk 90 89 kX12_moveAll_89 = true := by decide +kernel
def kX12_moveAll_115 : List JI := [(.iinc 2 (-1), 3, 2, -1, 0, 0, 0),
  (.goto (-114), 3, 4, 0, 0, 0, 0)]
theorem qX12_moveAll_115 : jchk 90 115 kX12_moveAll_115 = true := by decide +kernel
def kX12_moveAll_121 : List JI := [(.aload_n 0, 1, 0, 0, 0, 0, 0),
  (.iconst (-1), 1, 0, -1, 0, 0, 0),
  (.iconst 0, 1, 0, 0, 0, 0, 0),
  (.invokevirtual 210, 3, 89, 2, 0, 12, 1261),
  (.istore_n 2, 1, 2, 0, 0, 0, 0),
  (.aload_n 0, 1, 0, 0, 0, 0, 0),
  (.getfield 86, 3, 12, 28, 4, 0, 987),
  (.iconst 0, 1, 0, 0, 0, 0, 0),
  (.iaload, 1, 0, 0, 0, 0, 0),
  (.ifCond .ge 13, 3, 147, 0, 0, 0, 0),
  (.iload_n 2, 1, 2, 0, 0, 0, 0),
  (.ifCond .lt 9, 3, 147, 0, 0, 0, 0),
  (.aload_n 0, 1, 0, 0, 0, 0, 0),
  (.iload_n 2, 1, 2, 0, 0, 0, 0),
  (.iconst 0, 1, 0, 0, 0, 0, 0),
  (.invokevirtual 206, 3, 87, 2, 0, 12, 1257)]
theorem qX12_moveAll_121 : jchk 90 121 kX12_moveAll_121 = true := by decide +kernel
def kX12_moveAll_147 : List JI := [(.iload_n 1, 1, 1, 0, 0, 0, 0),
  (.ireturn, 1, 0, 0, 0, 0, 0)]
theorem qX12_moveAll_147 : jchk 90 147 kX12_moveAll_147 = true := by decide +kernel
def kX12_takeGoods_0 : List JI := [(.iconst 1, 1, 0, 1, 0, 0, 0),
  (.istore_n 2, 1, 2, 0, 0, 0, 0),
  (.iconst 0, 1, 0, 0, 0, 0, 0),
  (.istore_n 3, 1, 3, 0, 0, 0, 0)]
theorem qX12_takeGoods_0 : jchk 91 0 kX12_takeGoods_0 = true := by decide +kernel
def kX12_takeGoods_4 : List JI := [(.iload_n 3, 1, 3, 0, 0, 0, 0),
  (.bipush 6, 2, 0, 6, 0, 0, 0),
  (.if_icmp .ge 39, 3, 46, 0, 0, 0, 0),
  (.iload_n 2, 1, 2, 0, 0, 0, 0),
  (.ifCond .eq 27, 3, 38, 0, 0, 0, 0),
  (.aload_n 0, 1, 0, 0, 0, 0, 0),
  (.getfield 22, 3, 12, 5, 4, 0, 964),
  (.iload_n 3, 1, 3, 0, 0, 0, 0),
  (.iaload, 1, 0, 0, 0, 0, 0),
  (.aload_n 0, 1, 0, 0, 0, 0, 0),
  (.getfield 77, 3, 12, 25, 4, 0, 984),
  (.bipush 6, 2, 0, 6, 0, 0, 0),
  (.iload_n 1, 1, 1, 0, 0, 0, 0),
  (.imul, 1, 0, 0, 0, 0, 0),
  (.iload_n 3, 1, 3, 0, 0, 0, 0),
  (.iadd, 1, 0, 0, 0, 0, 0),
  (.iaload, 1, 0, 0, 0, 0, 0),
  (.if_icmp .lt 7, 3, 38, 0, 0, 0, 0),
  (.iconst 1, 1, 0, 1, 0, 0, 0),
  (.goto 4, 3, 39, 0, 0, 0, 0)]
theorem qX12_takeGoods_4 : jchk 91 4 kX12_takeGoods_4 = true := by decide +kernel
def kX12_takeGoods_38 : List JI := [(.iconst 0, 1, 0, 0, 0, 0, 0)]
theorem qX12_takeGoods_38 : jchk 91 38 kX12_takeGoods_38 = true := by decide +kernel
def kX12_takeGoods_39 : List JI := [(.istore_n 2, 1, 2, 0, 0, 0, 0),
  (.iinc 3 1, 3, 3, 1, 0, 0, 0),
  (.goto (-39), 3, 4, 0, 0, 0, 0)]
theorem qX12_takeGoods_39 : jchk 91 39 kX12_takeGoods_39 = true := by decide +kernel
def kX12_takeGoods_46 : List JI := [(.iconst 0, 1, 0, 0, 0, 0, 0),
  (.istore_n 3, 1, 3, 0, 0, 0, 0)]
theorem qX12_takeGoods_46 : jchk 91 46 kX12_takeGoods_46 = true := by decide +kernel
def kX12_takeGoods_48 : List JI := [(.iload_n 3, 1, 3, 0, 0, 0, 0),
  (.bipush 6, 2, 0, 6, 0, 0, 0),
  (.if_icmp .ge 33, 3, 84, 0, 0, 0, 0),
  (.iload_n 2, 1, 2, 0, 0, 0, 0),
  (.ifCond .eq 29, 3, 84, 0, 0, 0, 0),
  (.aload_n 0, 1, 0, 0, 0, 0, 0),
  (.getfield 22, 3, 12, 5, 4, 0, 964),
  (.iload_n 3, 1, 3, 0, 0, 0, 0),
  (.dup2, 1, 0, 0, 0, 0, 0),
  (.iaload, 1, 0, 0, 0, 0, 0),
  (.aload_n 0, 1, 0, 0, 0, 0, 0),
  (.getfield 77, 3, 12, 25, 4, 0, 984),
  (.bipush 6, 2, 0, 6, 0, 0, 0),
  (.iload_n 1, 1, 1, 0, 0, 0, 0),
  (.imul, 1, 0, 0, 0, 0, 0),
  (.iload_n 3, 1, 3, 0, 0, 0, 0),
  (.iadd, 1, 0, 0, 0, 0, 0),
  (.iaload, 1, 0, 0, 0, 0, 0),
  (.isub, 1, 0, 0, 0, 0, 0),
  (.iastore, 1, 0, 0, 0, 0, 0),
  (.iinc 3 1, 3, 3, 1, 0, 0, 0),
  (.goto (-33), 3, 48, 0, 0, 0, 0)]
theorem qX12_takeGoods_48 : jchk 91 48 kX12_takeGoods_48 = true := by decide +kernel
def kX12_takeGoods_84 : List JI := [(.aload_n 0, 1, 0, 0, 0, 0, 0),
  (.getfield 67, 3, 12, 22, 4, 0, 981),
  (.iload_n 1, 1, 1, 0, 0, 0, 0),
  (.iload_n 2, 1, 2, 0, 0, 0, 0),
  (.bastore, 1, 0, 0, 0, 0, 0),
  (.aload_n 0, 1, 0, 0, 0, 0, 0),
  (.getfield 71, 3, 12, 23, 4, 0, 982),
  (.iload_n 1, 1, 1, 0, 0, 0, 0),
  (.dup2, 1, 0, 0, 0, 0, 0),
  (.iaload, 1, 0, 0, 0, 0, 0),
  (.iload_n 2, 1, 2, 0, 0, 0, 0),
  (.ifCond .eq 7, 3, 106, 0, 0, 0, 0),
  (.iconst 0, 1, 0, 0, 0, 0, 0),
  (.goto 4, 3, 107, 0, 0, 0, 0)]
theorem qX12_takeGoods_84 : jchk 91 84 kX12_takeGoods_84 = true := by decide +kernel
def kX12_takeGoods_106 : List JI := [(.iconst 1, 1, 0, 1, 0, 0, 0)]
theorem qX12_takeGoods_106 : jchk 91 106 kX12_takeGoods_106 = true := by decide +kernel
def kX12_takeGoods_107 : List JI := [(.iadd, 1, 0, 0, 0, 0, 0),
  (.iastore, 1, 0, 0, 0, 0, 0),
  (.return_, 1, 0, 0, 0, 0, 0)]
theorem qX12_takeGoods_107 : jchk 91 107 kX12_takeGoods_107 = true := by decide +kernel
def kX12_workAll_0 : List JI := [(.aload_n 0, 1, 0, 0, 0, 0, 0),
  (.iconst 2, 1, 0, 2, 0, 0, 0),
  (.iconst 0, 1, 0, 0, 0, 0, 0),
  (.aload_n 0, 1, 0, 0, 0, 0, 0),
  (.getfield 184, 3, 12, 0, 1, 0, 959),
  (.invokevirtual 191, 3, 50, 3, 0, 12, 1213),
  (.istore_n 1, 1, 1, 0, 0, 0, 0),
  (.iload_n 1, 1, 1, 0, 0, 0, 0),
  (.ifCond .eq 12, 3, 24, 0, 0, 0, 0),
  (.aload_n 0, 1, 0, 0, 0, 0, 0),
  (.getfield 184, 3, 12, 0, 1, 0, 959),
  (.iload_n 1, 1, 1, 0, 0, 0, 0),
  (.irem, 1, 0, 0, 0, 0, 0),
  (.ifCond .eq 7, 3, 28, 0, 0, 0, 0)]
theorem qX12_workAll_0 : jchk 92 0 kX12_workAll_0 = true := by decide +kernel
def kX12_workAll_24 : List JI := [(.iconst 1, 1, 0, 1, 0, 0, 0),
  (.goto 4, 3, 29, 0, 0, 0, 0)]
theorem qX12_workAll_24 : jchk 92 24 kX12_workAll_24 = true := by decide +kernel
def kX12_workAll_28 : List JI := [(.iconst 0, 1, 0, 0, 0, 0, 0)]
theorem qX12_workAll_28 : jchk 92 28 kX12_workAll_28 = true := by decide +kernel
def kX12_workAll_29 : List JI := [(.istore_n 2, 1, 2, 0, 0, 0, 0),
  (.aload_n 0, 1, 0, 0, 0, 0, 0),
  (.iconst 3, 1, 0, 3, 0, 0, 0),
  (.iconst 0, 1, 0, 0, 0, 0, 0),
  (.aload_n 0, 1, 0, 0, 0, 0, 0),
  (.getfield 184, 3, 12, 0, 1, 0, 959),
  (.invokevirtual 191, 3, 50, 3, 0, 12, 1213),
  (.istore_n 3, 1, 3, 0, 0, 0, 0),
  (.iconst 0, 1, 0, 0, 0, 0, 0),
  (.istore 4, 2, 4, 0, 0, 0, 0)]
theorem qX12_workAll_29 : jchk 92 29 kX12_workAll_29 = true := by decide +kernel
def kX12_workAll_44 : List JI := [(.iload 4, 2, 4, 0, 0, 0, 0),
  (.iconst 4, 1, 0, 4, 0, 0, 0),
  (.if_icmp .ge 142, 3, 189, 0, 0, 0, 0),
  (.aload_n 0, 1, 0, 0, 0, 0, 0),
  (.iload 4, 2, 4, 0, 0, 0, 0),
  (.aload_n 0, 1, 0, 0, 0, 0, 0),
  (.getfield 184, 3, 12, 0, 1, 0, 959),
  (.invokevirtual 180, 3, 40, 2, 0, 12, 1201),
  (.istore 5, 2, 5, 0, 0, 0, 0),
  (.aload_n 0, 1, 0, 0, 0, 0, 0),
  (.iconst (-1), 1, 0, -1, 0, 0, 0),
  (.iconst 1, 1, 0, 1, 0, 0, 0),
  (.invokevirtual 210, 3, 89, 2, 0, 12, 1261),
  (.istore 6, 2, 6, 0, 0, 0, 0)]
theorem qX12_workAll_44 : jchk 92 44 kX12_workAll_44 = true := by decide +kernel
def kX12_workAll_70 : List JI := [(.iload 6, 2, 6, 0, 0, 0, 0),
  (.ifCond .lt 100, 3, 172, 0, 0, 0, 0),
  (.iload_n 2, 1, 2, 0, 0, 0, 0),
  (.ifCond .eq 96, 3, 172, 0, 0, 0, 0),
  (.aload_n 0, 1, 0, 0, 0, 0, 0),
  (.getfield 67, 3, 12, 22, 4, 0, 981),
  (.iload 6, 2, 6, 0, 0, 0, 0),
  (.baload, 1, 0, 0, 0, 0, 0),
  (.ifCond .eq 74, 3, 160, 0, 0, 0, 0),
  (.aload_n 0, 1, 0, 0, 0, 0, 0),
  (.getfield 61, 3, 12, 20, 4, 0, 979),
  (.iload 6, 2, 6, 0, 0, 0, 0),
  (.iaload, 1, 0, 0, 0, 0, 0),
  (.iload 4, 2, 4, 0, 0, 0, 0),
  (.if_icmp .ne 62, 3, 160, 0, 0, 0, 0),
  (.iload 5, 2, 5, 0, 0, 0, 0),
  (.iload_n 3, 1, 3, 0, 0, 0, 0),
  (.if_icmp .ge 8, 3, 112, 0, 0, 0, 0),
  (.iload 5, 2, 5, 0, 0, 0, 0),
  (.goto 4, 3, 113, 0, 0, 0, 0)]
theorem qX12_workAll_70 : jchk 92 70 kX12_workAll_70 = true := by decide +kernel
def kX12_workAll_112 : List JI := [(.iload_n 3, 1, 3, 0, 0, 0, 0)]
theorem qX12_workAll_112 : jchk 92 112 kX12_workAll_112 = true := by decide +kernel
def kX12_workAll_113 : List JI := [(.istore 7, 2, 7, 0, 0, 0, 0),
  (.iload 7, 2, 7, 0, 0, 0, 0),
  (.aload_n 0, 1, 0, 0, 0, 0, 0),
  (.getfield 64, 3, 12, 21, 4, 0, 980),
  (.iload 6, 2, 6, 0, 0, 0, 0),
  (.iaload, 1, 0, 0, 0, 0, 0),
  (.if_icmp .ge 8, 3, 132, 0, 0, 0, 0),
  (.iload 7, 2, 7, 0, 0, 0, 0),
  (.goto 10, 3, 139, 0, 0, 0, 0)]
theorem qX12_workAll_113 : jchk 92 113 kX12_workAll_113 = true := by decide +kernel
def kX12_workAll_132 : List JI := [(.aload_n 0, 1, 0, 0, 0, 0, 0),
  (.getfield 64, 3, 12, 21, 4, 0, 980),
  (.iload 6, 2, 6, 0, 0, 0, 0),
  (.iaload, 1, 0, 0, 0, 0, 0)]
theorem qX12_workAll_132 : jchk 92 132 kX12_workAll_132 = true := by decide +kernel
def kX12_workAll_139 : List JI := [(.istore 7, 2, 7, 0, 0, 0, 0),
  (.aload_n 0, 1, 0, 0, 0, 0, 0),
  (.getfield 64, 3, 12, 21, 4, 0, 980),
  (.iload 6, 2, 6, 0, 0, 0, 0),
  (.dup2, 1, 0, 0, 0, 0, 0),
  (.iaload, 1, 0, 0, 0, 0, 0),
  (.iload 7, 2, 7, 0, 0, 0, 0),
  (.isub, 1, 0, 0, 0, 0, 0),
  (.iastore, 1, 0, 0, 0, 0, 0),
  (.iload 5, 2, 5, 0, 0, 0, 0),
  (.iload 7, 2, 7, 0, 0, 0, 0),
  (.isub, 1, 0, 0, 0, 0, 0),
  (.istore 5, 2, 5, 0, 0, 0, 0)]
theorem qX12_workAll_139 : jchk 92 139 kX12_workAll_139 = true := by decide +kernel
def kX12_workAll_160 : List JI := [(.aload_n 0, 1, 0, 0, 0, 0, 0),
  (.iload 6, 2, 6, 0, 0, 0, 0),
  (.iconst 1, 1, 0, 1, 0, 0, 0),
  (.invokevirtual 210, 3, 89, 2, 0, 12, 1261),
  (.istore 6, 2, 6, 0, 0, 0, 0),
  (.goto (-99), 3, 70, 0, 0, 0, 0)]
theorem qX12_workAll_160 : jchk 92 160 kX12_workAll_160 = true := by decide +kernel
def kX12_workAll_172 : List JI := [(.aload_n 0, 1, 0, 0, 0, 0, 0),
  (.dup, 1, 0, 0, 0, 0, 0),
  (.getfield 213, 3, 12, 32, 1, 0, 991),
  (.iload 5, 2, 5, 0, 0, 0, 0),
  (.iadd, 1, 0, 0, 0, 0, 0),
  (.putfield 213, 3, 12, 32, 1, 0, 991),
  (.iinc 4 1, 3, 4, 1, 0, 0, 0),
  (.goto (-142), 3, 44, 0, 0, 0, 0)]
theorem qX12_workAll_172 : jchk 92 172 kX12_workAll_172 = true := by decide +kernel
def kX12_workAll_189 : List JI := [(.return_, 1, 0, 0, 0, 0, 0)]
theorem qX12_workAll_189 : jchk 92 189 kX12_workAll_189 = true := by decide +kernel
def kX12_payAll_0 : List JI := [(.iconst 0, 1, 0, 0, 0, 0, 0),
  (.istore_n 1, 1, 1, 0, 0, 0, 0)]
theorem qX12_payAll_0 : jchk 93 0 kX12_payAll_0 = true := by decide +kernel
def kX12_payAll_2 : List JI := [(.iload_n 1, 1, 1, 0, 0, 0, 0),
  (.iconst 4, 1, 0, 4, 0, 0, 0),
  (.if_icmp .ge 99, 3, 103, 0, 0, 0, 0),
  (.aload_n 0, 1, 0, 0, 0, 0, 0),
  (.iload_n 1, 1, 1, 0, 0, 0, 0),
  (.aload_n 0, 1, 0, 0, 0, 0, 0),
  (.getfield 184, 3, 12, 0, 1, 0, 959),
  (.invokevirtual 180, 3, 40, 2, 0, 12, 1201),
  (.istore_n 2, 1, 2, 0, 0, 0, 0),
  (.aload_n 0, 1, 0, 0, 0, 0, 0),
  (.dup, 1, 0, 0, 0, 0, 0),
  (.getfield 216, 3, 12, 30, 1, 0, 989),
  (.iload_n 2, 1, 2, 0, 0, 0, 0),
  (.aload_n 0, 1, 0, 0, 0, 0, 0),
  (.iconst 0, 1, 0, 0, 0, 0, 0),
  (.iload_n 1, 1, 1, 0, 0, 0, 0),
  (.aload_n 0, 1, 0, 0, 0, 0, 0),
  (.getfield 184, 3, 12, 0, 1, 0, 959),
  (.invokevirtual 191, 3, 50, 3, 0, 12, 1213),
  (.imul, 1, 0, 0, 0, 0, 0),
  (.iadd, 1, 0, 0, 0, 0, 0),
  (.putfield 216, 3, 12, 30, 1, 0, 989),
  (.iload_n 2, 1, 2, 0, 0, 0, 0),
  (.aload_n 0, 1, 0, 0, 0, 0, 0),
  (.iconst 1, 1, 0, 1, 0, 0, 0),
  (.iload_n 1, 1, 1, 0, 0, 0, 0),
  (.aload_n 0, 1, 0, 0, 0, 0, 0),
  (.getfield 184, 3, 12, 0, 1, 0, 959),
  (.invokevirtual 191, 3, 50, 3, 0, 12, 1213),
  (.imul, 1, 0, 0, 0, 0, 0),
  (.istore_n 3, 1, 3, 0, 0, 0, 0),
  (.iload_n 3, 1, 3, 0, 0, 0, 0),
  (.aload_n 0, 1, 0, 0, 0, 0, 0),
  (.getfield 22, 3, 12, 5, 4, 0, 964),
  (.iconst 5, 1, 0, 5, 0, 0, 0),
  (.iaload, 1, 0, 0, 0, 0, 0),
  (.if_icmp .ge 7, 3, 65, 0, 0, 0, 0),
  (.iload_n 3, 1, 3, 0, 0, 0, 0),
  (.goto 9, 3, 71, 0, 0, 0, 0)]
theorem qX12_payAll_2 : jchk 93 2 kX12_payAll_2 = true := by decide +kernel
def kX12_payAll_65 : List JI := [(.aload_n 0, 1, 0, 0, 0, 0, 0),
  (.getfield 22, 3, 12, 5, 4, 0, 964),
  (.iconst 5, 1, 0, 5, 0, 0, 0),
  (.iaload, 1, 0, 0, 0, 0, 0)]
theorem qX12_payAll_65 : jchk 93 65 kX12_payAll_65 = true := by decide +kernel
def kX12_payAll_71 : List JI := [(.istore 4, 2, 4, 0, 0, 0, 0),
  (.aload_n 0, 1, 0, 0, 0, 0, 0),
  (.getfield 22, 3, 12, 5, 4, 0, 964),
  (.iconst 5, 1, 0, 5, 0, 0, 0),
  (.dup2, 1, 0, 0, 0, 0, 0),
  (.iaload, 1, 0, 0, 0, 0, 0),
  (.iload 4, 2, 4, 0, 0, 0, 0),
  (.isub, 1, 0, 0, 0, 0, 0),
  (.iastore, 1, 0, 0, 0, 0, 0),
  (.aload_n 0, 1, 0, 0, 0, 0, 0),
  (.dup, 1, 0, 0, 0, 0, 0),
  (.getfield 219, 3, 12, 31, 1, 0, 990),
  (.iload_n 3, 1, 3, 0, 0, 0, 0),
  (.iload 4, 2, 4, 0, 0, 0, 0),
  (.isub, 1, 0, 0, 0, 0, 0),
  (.iadd, 1, 0, 0, 0, 0, 0),
  (.putfield 219, 3, 12, 31, 1, 0, 990),
  (.iinc 1 1, 3, 1, 1, 0, 0, 0),
  (.goto (-98), 3, 2, 0, 0, 0, 0)]
theorem qX12_payAll_71 : jchk 93 71 kX12_payAll_71 = true := by decide +kernel
def kX12_payAll_103 : List JI := [(.return_, 1, 0, 0, 0, 0, 0)]
theorem qX12_payAll_103 : jchk 93 103 kX12_payAll_103 = true := by decide +kernel
def kX12_pass_0 : List JI := [(.aload_n 0, 1, 0, 0, 0, 0, 0),
  (.dup, 1, 0, 0, 0, 0, 0),
  (.getfield 184, 3, 12, 0, 1, 0, 959),
  (.iconst 1, 1, 0, 1, 0, 0, 0),
  (.iadd, 1, 0, 0, 0, 0, 0),
  (.putfield 184, 3, 12, 0, 1, 0, 959),
  (.aload_n 0, 1, 0, 0, 0, 0, 0),
  (.invokevirtual 222, 3, 90, 0, 0, 12, 1253),
  (.istore_n 1, 1, 1, 0, 0, 0, 0),
  (.aload_n 0, 1, 0, 0, 0, 0, 0),
  (.iconst (-1), 1, 0, -1, 0, 0, 0),
  (.iconst 1, 1, 0, 1, 0, 0, 0),
  (.invokevirtual 210, 3, 89, 2, 0, 12, 1261),
  (.istore_n 2, 1, 2, 0, 0, 0, 0)]
theorem qX12_pass_0 : jchk 94 0 kX12_pass_0 = true := by decide +kernel
def kX12_pass_22 : List JI := [(.iload_n 2, 1, 2, 0, 0, 0, 0),
  (.ifCond .lt 27, 3, 50, 0, 0, 0, 0),
  (.aload_n 0, 1, 0, 0, 0, 0, 0),
  (.getfield 67, 3, 12, 22, 4, 0, 981),
  (.iload_n 2, 1, 2, 0, 0, 0, 0),
  (.baload, 1, 0, 0, 0, 0, 0),
  (.ifCond .ne 8, 3, 40, 0, 0, 0, 0),
  (.aload_n 0, 1, 0, 0, 0, 0, 0),
  (.iload_n 2, 1, 2, 0, 0, 0, 0),
  (.invokevirtual 226, 3, 91, 1, 0, 12, 1269)]
theorem qX12_pass_22 : jchk 94 22 kX12_pass_22 = true := by decide +kernel
def kX12_pass_40 : List JI := [(.aload_n 0, 1, 0, 0, 0, 0, 0),
  (.iload_n 2, 1, 2, 0, 0, 0, 0),
  (.iconst 1, 1, 0, 1, 0, 0, 0),
  (.invokevirtual 210, 3, 89, 2, 0, 12, 1261),
  (.istore_n 2, 1, 2, 0, 0, 0, 0),
  (.goto (-25), 3, 22, 0, 0, 0, 0)]
theorem qX12_pass_40 : jchk 94 40 kX12_pass_40 = true := by decide +kernel
def kX12_pass_50 : List JI := [(.aload_n 0, 1, 0, 0, 0, 0, 0),
  (.invokevirtual 230, 3, 92, 0, 0, 12, 1273),
  (.aload_n 0, 1, 0, 0, 0, 0, 0),
  (.invokevirtual 233, 3, 93, 0, 0, 12, 1277),
  (.iload_n 1, 1, 1, 0, 0, 0, 0),
  (.ireturn, 1, 0, 0, 0, 0, 0)]
theorem qX12_pass_50 : jchk 94 50 kX12_pass_50 = true := by decide +kernel
def kX12_days_0 : List JI := [(.iload_n 1, 1, 1, 0, 0, 0, 0),
  (.iconst 1, 1, 0, 1, 0, 0, 0),
  (.if_icmp .ge 10, 3, 12, 0, 0, 0, 0),
  (.aload_n 0, 1, 0, 0, 0, 0, 0),
  (.bipush (-4), 2, 0, -4, 0, 0, 0),
  (.invokevirtual 172, 3, 20, 1, 0, 12, 1163),
  (.ireturn, 1, 0, 0, 0, 0, 0)]
theorem qX12_days_0 : jchk 95 0 kX12_days_0 = true := by decide +kernel
def kX12_days_12 : List JI := [(.iload_n 1, 1, 1, 0, 0, 0, 0),
  (.sipush 2000, 3, 0, 2000, 0, 0, 0),
  (.aload_n 0, 1, 0, 0, 0, 0, 0),
  (.getfield 184, 3, 12, 0, 1, 0, 959),
  (.isub, 1, 0, 0, 0, 0, 0),
  (.if_icmp .le 10, 3, 31, 0, 0, 0, 0),
  (.aload_n 0, 1, 0, 0, 0, 0, 0),
  (.bipush (-6), 2, 0, -6, 0, 0, 0),
  (.invokevirtual 172, 3, 20, 1, 0, 12, 1163),
  (.ireturn, 1, 0, 0, 0, 0, 0)]
theorem qX12_days_12 : jchk 95 12 kX12_days_12 = true := by decide +kernel
def kX12_days_31 : List JI := [(.iconst 0, 1, 0, 0, 0, 0, 0),
  (.istore_n 2, 1, 2, 0, 0, 0, 0),
  (.iconst 0, 1, 0, 0, 0, 0, 0),
  (.istore_n 3, 1, 3, 0, 0, 0, 0)]
theorem qX12_days_31 : jchk 95 31 kX12_days_31 = true := by decide +kernel
def kX12_days_35 : List JI := [(.iload_n 3, 1, 3, 0, 0, 0, 0),
  (.iload_n 1, 1, 1, 0, 0, 0, 0),
  (.if_icmp .ge 81, 3, 118, 0, 0, 0, 0),
  (.iload_n 2, 1, 2, 0, 0, 0, 0),
  (.aload_n 0, 1, 0, 0, 0, 0, 0),
  (.invokevirtual 236, 3, 94, 0, 0, 12, 1249),
  (.iadd, 1, 0, 0, 0, 0, 0),
  (.istore_n 2, 1, 2, 0, 0, 0, 0),
  (.iconst 0, 1, 0, 0, 0, 0, 0),
  (.istore 4, 2, 4, 0, 0, 0, 0)]
theorem qX12_days_35 : jchk 95 35 kX12_days_35 = true := by decide +kernel
def kX12_days_50 : List JI := [(.iload 4, 2, 4, 0, 0, 0, 0),
  (.aload_n 0, 1, 0, 0, 0, 0, 0),
  (.getfield 239, 3, 12, 34, 1, 0, 993),
  (.if_icmp .ge 56, 3, 112, 0, 0, 0, 0),
  (.aload_n 0, 1, 0, 0, 0, 0, 0),
  (.getfield 184, 3, 12, 0, 1, 0, 959),
  (.sipush 360, 3, 0, 360, 0, 0, 0),
  (.irem, 1, 0, 0, 0, 0, 0),
  (.ifCond .ne 45, 3, 112, 0, 0, 0, 0),
  (.aload_n 0, 1, 0, 0, 0, 0, 0),
  (.getfield 101, 3, 12, 37, 4, 0, 996),
  (.iload 4, 2, 4, 0, 0, 0, 0),
  (.dup2, 1, 0, 0, 0, 0, 0),
  (.iaload, 1, 0, 0, 0, 0, 0),
  (.aload_n 0, 1, 0, 0, 0, 0, 0),
  (.getfield 104, 3, 12, 38, 4, 0, 997),
  (.iload 4, 2, 4, 0, 0, 0, 0),
  (.iaload, 1, 0, 0, 0, 0, 0),
  (.ifCond .ge 18, 3, 103, 0, 0, 0, 0),
  (.aload_n 0, 1, 0, 0, 0, 0, 0),
  (.getfield 92, 3, 12, 33, 4, 0, 992),
  (.aload_n 0, 1, 0, 0, 0, 0, 0),
  (.getfield 95, 3, 12, 35, 4, 0, 994),
  (.iload 4, 2, 4, 0, 0, 0, 0),
  (.iaload, 1, 0, 0, 0, 0, 0),
  (.iaload, 1, 0, 0, 0, 0, 0),
  (.goto 4, 3, 104, 0, 0, 0, 0)]
theorem qX12_days_50 : jchk 95 50 kX12_days_50 = true := by decide +kernel
def kX12_days_103 : List JI := [(.iconst 0, 1, 0, 0, 0, 0, 0)]
theorem qX12_days_103 : jchk 95 103 kX12_days_103 = true := by decide +kernel
def kX12_days_104 : List JI := [(.iadd, 1, 0, 0, 0, 0, 0),
  (.iastore, 1, 0, 0, 0, 0, 0),
  (.iinc 4 1, 3, 4, 1, 0, 0, 0),
  (.goto (-59), 3, 50, 0, 0, 0, 0)]
theorem qX12_days_104 : jchk 95 104 kX12_days_104 = true := by decide +kernel
def kX12_days_112 : List JI := [(.iinc 3 1, 3, 3, 1, 0, 0, 0),
  (.goto (-80), 3, 35, 0, 0, 0, 0)]
theorem qX12_days_112 : jchk 95 112 kX12_days_112 = true := by decide +kernel
def kX12_days_118 : List JI := [(.iload_n 2, 1, 2, 0, 0, 0, 0),
  (.ireturn, 1, 0, 0, 0, 0, 0)]
theorem qX12_days_118 : jchk 95 118 kX12_days_118 = true := by decide +kernel
def kX11_breakUp_0 : List JI := [(.aload_n 0, 1, 0, 0, 0, 0, 0),
  (.iload_n 1, 1, 1, 0, 0, 0, 0),
  (.invokevirtual 188, 3, 60, 1, 0, 11, 635),
  (.ifCond .ne 7, 3, 12, 0, 0, 0, 0),
  (.iconst (-1), 1, 0, -1, 0, 0, 0),
  (.goto 25, 3, 34, 0, 0, 0, 0)]
theorem qX11_breakUp_0 : jchk 96 0 kX11_breakUp_0 = true := by decide +kernel
def kX11_breakUp_12 : List JI := [(.aload_n 0, 1, 0, 0, 0, 0, 0),
  (.getfield 37, 3, 11, 5, 4, 0, 477),
  (.getfield 191, 3, 10, 3, 4, 0, 235),
  (.iload_n 1, 1, 1, 0, 0, 0, 0),
  (.aaload, 1, 0, 0, 0, 0, 0),
  (.getfield 227, 3, 4, 3, 1, 0, 174),
  (.iconst 2, 1, 0, 2, 0, 0, 0),
  (.if_icmp .eq 8, 3, 33, 0, 0, 0, 0),
  (.bipush (-3), 2, 0, -3, 0, 0, 0),
  (.goto 4, 3, 34, 0, 0, 0, 0)]
theorem qX11_breakUp_12 : jchk 96 12 kX11_breakUp_12 = true := by decide +kernel
def kX11_breakUp_33 : List JI := [(.iconst 0, 1, 0, 0, 0, 0, 0)]
theorem qX11_breakUp_33 : jchk 96 33 kX11_breakUp_33 = true := by decide +kernel
def kX11_breakUp_34 : List JI := [(.istore_n 2, 1, 2, 0, 0, 0, 0),
  (.iload_n 2, 1, 2, 0, 0, 0, 0),
  (.ifCond .eq 9, 3, 45, 0, 0, 0, 0),
  (.aload_n 0, 1, 0, 0, 0, 0, 0),
  (.iload_n 2, 1, 2, 0, 0, 0, 0),
  (.invokevirtual 93, 3, 16, 1, 0, 11, 519),
  (.ireturn, 1, 0, 0, 0, 0, 0)]
theorem qX11_breakUp_34 : jchk 96 34 kX11_breakUp_34 = true := by decide +kernel
def kX11_breakUp_45 : List JI := [(.aload_n 0, 1, 0, 0, 0, 0, 0),
  (.getfield 81, 3, 11, 11, 4, 0, 483),
  (.invokevirtual 97, 3, 17, 0, 0, 7, 523),
  (.aload_n 0, 1, 0, 0, 0, 0, 0),
  (.getfield 37, 3, 11, 5, 4, 0, 477),
  (.getfield 191, 3, 10, 3, 4, 0, 235),
  (.iload_n 1, 1, 1, 0, 0, 0, 0),
  (.aaload, 1, 0, 0, 0, 0, 0),
  (.astore_n 3, 1, 3, 0, 0, 0, 0),
  (.aload_n 3, 1, 3, 0, 0, 0, 0),
  (.iconst 3, 1, 0, 3, 0, 0, 0),
  (.putfield 227, 3, 4, 3, 1, 0, 174),
  (.iconst 0, 1, 0, 0, 0, 0, 0),
  (.istore 4, 2, 4, 0, 0, 0, 0),
  (.iconst 0, 1, 0, 0, 0, 0, 0),
  (.istore 5, 2, 5, 0, 0, 0, 0)]
theorem qX11_breakUp_45 : jchk 96 45 kX11_breakUp_45 = true := by decide +kernel
def kX11_breakUp_73 : List JI := [(.iload 5, 2, 5, 0, 0, 0, 0),
  (.bipush 6, 2, 0, 6, 0, 0, 0),
  (.if_icmp .ge 32, 3, 109, 0, 0, 0, 0),
  (.iload 4, 2, 4, 0, 0, 0, 0),
  (.aload_n 0, 1, 0, 0, 0, 0, 0),
  (.getfield 37, 3, 11, 5, 4, 0, 477),
  (.iload 5, 2, 5, 0, 0, 0, 0),
  (.aload_n 3, 1, 3, 0, 0, 0, 0),
  (.getfield 230, 3, 4, 12, 4, 0, 199),
  (.iload 5, 2, 5, 0, 0, 0, 0),
  (.iaload, 1, 0, 0, 0, 0, 0),
  (.iconst 2, 1, 0, 2, 0, 0, 0),
  (.idiv, 1, 0, 0, 0, 0, 0),
  (.invokevirtual 210, 3, 68, 2, 0, 10, 651),
  (.iadd, 1, 0, 0, 0, 0, 0),
  (.istore 4, 2, 4, 0, 0, 0, 0),
  (.iinc 5 1, 3, 5, 1, 0, 0, 0),
  (.goto (-33), 3, 73, 0, 0, 0, 0)]
theorem qX11_breakUp_73 : jchk 96 73 kX11_breakUp_73 = true := by decide +kernel
def kX11_breakUp_109 : List JI := [(.iload 4, 2, 4, 0, 0, 0, 0),
  (.ireturn, 1, 0, 0, 0, 0, 0)]
theorem qX11_breakUp_109 : jchk 96 109 kX11_breakUp_109 = true := by decide +kernel
def kX12_breakUp_0 : List JI := [(.aload_n 0, 1, 0, 0, 0, 0, 0),
  (.iload_n 1, 1, 1, 0, 0, 0, 0),
  (.invokevirtual 198, 3, 63, 1, 0, 12, 1233),
  (.ifCond .ne 9, 3, 14, 0, 0, 0, 0),
  (.aload_n 0, 1, 0, 0, 0, 0, 0),
  (.iconst (-1), 1, 0, -1, 0, 0, 0),
  (.invokevirtual 172, 3, 20, 1, 0, 12, 1163),
  (.ireturn, 1, 0, 0, 0, 0, 0)]
theorem qX12_breakUp_0 : jchk 97 0 kX12_breakUp_0 = true := by decide +kernel
def kX12_breakUp_14 : List JI := [(.aload_n 0, 1, 0, 0, 0, 0, 0),
  (.getfield 55, 3, 12, 18, 4, 0, 977),
  (.iload_n 1, 1, 1, 0, 0, 0, 0),
  (.iaload, 1, 0, 0, 0, 0, 0),
  (.iconst 2, 1, 0, 2, 0, 0, 0),
  (.if_icmp .eq 10, 3, 31, 0, 0, 0, 0),
  (.aload_n 0, 1, 0, 0, 0, 0, 0),
  (.bipush (-3), 2, 0, -3, 0, 0, 0),
  (.invokevirtual 172, 3, 20, 1, 0, 12, 1163),
  (.ireturn, 1, 0, 0, 0, 0, 0)]
theorem qX12_breakUp_14 : jchk 97 14 kX12_breakUp_14 = true := by decide +kernel
def kX12_breakUp_31 : List JI := [(.iconst 0, 1, 0, 0, 0, 0, 0),
  (.istore_n 2, 1, 2, 0, 0, 0, 0),
  (.iconst 0, 1, 0, 0, 0, 0, 0),
  (.istore_n 3, 1, 3, 0, 0, 0, 0)]
theorem qX12_breakUp_31 : jchk 97 31 kX12_breakUp_31 = true := by decide +kernel
def kX12_breakUp_35 : List JI := [(.iload_n 3, 1, 3, 0, 0, 0, 0),
  (.bipush 6, 2, 0, 6, 0, 0, 0),
  (.if_icmp .ge 70, 3, 108, 0, 0, 0, 0),
  (.aload_n 0, 1, 0, 0, 0, 0, 0),
  (.getfield 80, 3, 12, 26, 4, 0, 985),
  (.bipush 6, 2, 0, 6, 0, 0, 0),
  (.iload_n 1, 1, 1, 0, 0, 0, 0),
  (.imul, 1, 0, 0, 0, 0, 0),
  (.iload_n 3, 1, 3, 0, 0, 0, 0),
  (.iadd, 1, 0, 0, 0, 0, 0),
  (.iaload, 1, 0, 0, 0, 0, 0),
  (.iconst 2, 1, 0, 2, 0, 0, 0),
  (.idiv, 1, 0, 0, 0, 0, 0),
  (.istore 4, 2, 4, 0, 0, 0, 0),
  (.iload 4, 2, 4, 0, 0, 0, 0),
  (.ldc 176, 2, 0, 1000000, 0, 0, 1171),
  (.aload_n 0, 1, 0, 0, 0, 0, 0),
  (.getfield 22, 3, 12, 5, 4, 0, 964),
  (.iload_n 3, 1, 3, 0, 0, 0, 0),
  (.iaload, 1, 0, 0, 0, 0, 0),
  (.isub, 1, 0, 0, 0, 0, 0),
  (.if_icmp .ge 8, 3, 75, 0, 0, 0, 0),
  (.iload 4, 2, 4, 0, 0, 0, 0),
  (.goto 12, 3, 84, 0, 0, 0, 0)]
theorem qX12_breakUp_35 : jchk 97 35 kX12_breakUp_35 = true := by decide +kernel
def kX12_breakUp_75 : List JI := [(.ldc 176, 2, 0, 1000000, 0, 0, 1171),
  (.aload_n 0, 1, 0, 0, 0, 0, 0),
  (.getfield 22, 3, 12, 5, 4, 0, 964),
  (.iload_n 3, 1, 3, 0, 0, 0, 0),
  (.iaload, 1, 0, 0, 0, 0, 0),
  (.isub, 1, 0, 0, 0, 0, 0)]
theorem qX12_breakUp_75 : jchk 97 75 kX12_breakUp_75 = true := by decide +kernel
def kX12_breakUp_84 : List JI := [(.istore 4, 2, 4, 0, 0, 0, 0),
  (.aload_n 0, 1, 0, 0, 0, 0, 0),
  (.getfield 22, 3, 12, 5, 4, 0, 964),
  (.iload_n 3, 1, 3, 0, 0, 0, 0),
  (.dup2, 1, 0, 0, 0, 0, 0),
  (.iaload, 1, 0, 0, 0, 0, 0),
  (.iload 4, 2, 4, 0, 0, 0, 0),
  (.iadd, 1, 0, 0, 0, 0, 0),
  (.iastore, 1, 0, 0, 0, 0, 0),
  (.iload_n 2, 1, 2, 0, 0, 0, 0),
  (.iload 4, 2, 4, 0, 0, 0, 0),
  (.iadd, 1, 0, 0, 0, 0, 0),
  (.istore_n 2, 1, 2, 0, 0, 0, 0),
  (.iinc 3 1, 3, 3, 1, 0, 0, 0),
  (.goto (-70), 3, 35, 0, 0, 0, 0)]
theorem qX12_breakUp_84 : jchk 97 84 kX12_breakUp_84 = true := by decide +kernel
def kX12_breakUp_108 : List JI := [(.aload_n 0, 1, 0, 0, 0, 0, 0),
  (.getfield 55, 3, 12, 18, 4, 0, 977),
  (.iload_n 1, 1, 1, 0, 0, 0, 0),
  (.iconst 3, 1, 0, 3, 0, 0, 0),
  (.iastore, 1, 0, 0, 0, 0, 0),
  (.iload_n 2, 1, 2, 0, 0, 0, 0),
  (.ireturn, 1, 0, 0, 0, 0, 0)]
theorem qX12_breakUp_108 : jchk 97 108 kX12_breakUp_108 = true := by decide +kernel
def kX11_growth_0 : List JI := [(.iload_n 1, 1, 1, 0, 0, 0, 0),
  (.iconst 3, 1, 0, 3, 0, 0, 0),
  (.invokestatic 85, 3, 14, 2, 0, 11, 513),
  (.ifCond .ne 7, 3, 12, 0, 0, 0, 0),
  (.iconst (-1), 1, 0, -1, 0, 0, 0),
  (.goto 10, 3, 19, 0, 0, 0, 0)]
theorem qX11_growth_0 : jchk 98 0 kX11_growth_0 = true := by decide +kernel
def kX11_growth_12 : List JI := [(.iload_n 2, 1, 2, 0, 0, 0, 0),
  (.iconst 0, 1, 0, 0, 0, 0, 0),
  (.bipush 9, 2, 0, 9, 0, 0, 0),
  (.invokestatic 89, 3, 15, 3, 0, 11, 516)]
theorem qX11_growth_12 : jchk 98 12 kX11_growth_12 = true := by decide +kernel
def kX11_growth_19 : List JI := [(.istore_n 3, 1, 3, 0, 0, 0, 0),
  (.iload_n 3, 1, 3, 0, 0, 0, 0),
  (.ifCond .eq 9, 3, 30, 0, 0, 0, 0),
  (.aload_n 0, 1, 0, 0, 0, 0, 0),
  (.iload_n 3, 1, 3, 0, 0, 0, 0),
  (.invokevirtual 93, 3, 16, 1, 0, 11, 519),
  (.ireturn, 1, 0, 0, 0, 0, 0)]
theorem qX11_growth_19 : jchk 98 19 kX11_growth_19 = true := by decide +kernel
def kX11_growth_30 : List JI := [(.aload_n 0, 1, 0, 0, 0, 0, 0),
  (.getfield 44, 3, 11, 6, 4, 0, 478),
  (.getfield 233, 3, 3, 6, 4, 0, 300),
  (.iload_n 1, 1, 1, 0, 0, 0, 0),
  (.iaload, 1, 0, 0, 0, 0, 0),
  (.istore 4, 2, 4, 0, 0, 0, 0),
  (.aload_n 0, 1, 0, 0, 0, 0, 0),
  (.getfield 44, 3, 11, 6, 4, 0, 478),
  (.getfield 233, 3, 3, 6, 4, 0, 300),
  (.iload_n 1, 1, 1, 0, 0, 0, 0),
  (.iload_n 2, 1, 2, 0, 0, 0, 0),
  (.iastore, 1, 0, 0, 0, 0, 0),
  (.iload 4, 2, 4, 0, 0, 0, 0),
  (.ireturn, 1, 0, 0, 0, 0, 0)]
theorem qX11_growth_30 : jchk 98 30 kX11_growth_30 = true := by decide +kernel
def kX12_growth_0 : List JI := [(.iload_n 1, 1, 1, 0, 0, 0, 0),
  (.iconst 0, 1, 0, 0, 0, 0, 0),
  (.iconst 2, 1, 0, 2, 0, 0, 0),
  (.invokestatic 168, 3, 19, 3, 0, 12, 1160),
  (.ifCond .ne 9, 3, 15, 0, 0, 0, 0),
  (.aload_n 0, 1, 0, 0, 0, 0, 0),
  (.iconst (-1), 1, 0, -1, 0, 0, 0),
  (.invokevirtual 172, 3, 20, 1, 0, 12, 1163),
  (.ireturn, 1, 0, 0, 0, 0, 0)]
theorem qX12_growth_0 : jchk 99 0 kX12_growth_0 = true := by decide +kernel
def kX12_growth_15 : List JI := [(.iload_n 2, 1, 2, 0, 0, 0, 0),
  (.ifCond .ge 10, 3, 26, 0, 0, 0, 0),
  (.aload_n 0, 1, 0, 0, 0, 0, 0),
  (.bipush (-4), 2, 0, -4, 0, 0, 0),
  (.invokevirtual 172, 3, 20, 1, 0, 12, 1163),
  (.ireturn, 1, 0, 0, 0, 0, 0)]
theorem qX12_growth_15 : jchk 99 15 kX12_growth_15 = true := by decide +kernel
def kX12_growth_26 : List JI := [(.iload_n 2, 1, 2, 0, 0, 0, 0),
  (.bipush 9, 2, 0, 9, 0, 0, 0),
  (.if_icmp .le 10, 3, 39, 0, 0, 0, 0),
  (.aload_n 0, 1, 0, 0, 0, 0, 0),
  (.bipush (-6), 2, 0, -6, 0, 0, 0),
  (.invokevirtual 172, 3, 20, 1, 0, 12, 1163),
  (.ireturn, 1, 0, 0, 0, 0, 0)]
theorem qX12_growth_26 : jchk 99 26 kX12_growth_26 = true := by decide +kernel
def kX12_growth_39 : List JI := [(.aload_n 0, 1, 0, 0, 0, 0, 0),
  (.getfield 92, 3, 12, 33, 4, 0, 992),
  (.iload_n 1, 1, 1, 0, 0, 0, 0),
  (.iaload, 1, 0, 0, 0, 0, 0),
  (.istore_n 3, 1, 3, 0, 0, 0, 0),
  (.aload_n 0, 1, 0, 0, 0, 0, 0),
  (.getfield 92, 3, 12, 33, 4, 0, 992),
  (.iload_n 1, 1, 1, 0, 0, 0, 0),
  (.iload_n 2, 1, 2, 0, 0, 0, 0),
  (.iastore, 1, 0, 0, 0, 0, 0),
  (.iload_n 3, 1, 3, 0, 0, 0, 0),
  (.ireturn, 1, 0, 0, 0, 0, 0)]
theorem qX12_growth_39 : jchk 99 39 kX12_growth_39 = true := by decide +kernel
def kX3_plant_0 : List JI := [(.aload_n 0, 1, 0, 0, 0, 0, 0),
  (.getfield 9, 3, 3, 1, 4, 0, 286),
  (.aload_n 0, 1, 0, 0, 0, 0, 0),
  (.getfield 30, 3, 3, 0, 1, 0, 283),
  (.iload_n 1, 1, 1, 0, 0, 0, 0),
  (.iastore, 1, 0, 0, 0, 0, 0),
  (.aload_n 0, 1, 0, 0, 0, 0, 0),
  (.getfield 15, 3, 3, 2, 4, 0, 289),
  (.aload_n 0, 1, 0, 0, 0, 0, 0),
  (.getfield 30, 3, 3, 0, 1, 0, 283),
  (.iload_n 2, 1, 2, 0, 0, 0, 0),
  (.iastore, 1, 0, 0, 0, 0, 0),
  (.aload_n 0, 1, 0, 0, 0, 0, 0),
  (.getfield 18, 3, 3, 3, 4, 0, 292),
  (.aload_n 0, 1, 0, 0, 0, 0, 0),
  (.getfield 30, 3, 3, 0, 1, 0, 283),
  (.iload_n 3, 1, 3, 0, 0, 0, 0),
  (.iastore, 1, 0, 0, 0, 0, 0),
  (.aload_n 0, 1, 0, 0, 0, 0, 0),
  (.getfield 21, 3, 3, 4, 4, 0, 295),
  (.aload_n 0, 1, 0, 0, 0, 0, 0),
  (.getfield 30, 3, 3, 0, 1, 0, 283),
  (.bipush (-9), 2, 0, -9, 0, 0, 0),
  (.iastore, 1, 0, 0, 0, 0, 0),
  (.aload_n 0, 1, 0, 0, 0, 0, 0),
  (.getfield 24, 3, 3, 5, 4, 0, 297),
  (.aload_n 0, 1, 0, 0, 0, 0, 0),
  (.getfield 30, 3, 3, 0, 1, 0, 283),
  (.bipush (-9), 2, 0, -9, 0, 0, 0),
  (.iastore, 1, 0, 0, 0, 0, 0),
  (.aload_n 0, 1, 0, 0, 0, 0, 0),
  (.dup, 1, 0, 0, 0, 0, 0),
  (.getfield 30, 3, 3, 0, 1, 0, 283),
  (.iconst 1, 1, 0, 1, 0, 0, 0),
  (.iadd, 1, 0, 0, 0, 0, 0),
  (.putfield 30, 3, 3, 0, 1, 0, 283),
  (.aload_n 0, 1, 0, 0, 0, 0, 0),
  (.getfield 30, 3, 3, 0, 1, 0, 283),
  (.iconst 1, 1, 0, 1, 0, 0, 0),
  (.isub, 1, 0, 0, 0, 0, 0),
  (.ireturn, 1, 0, 0, 0, 0, 0)]
theorem qX3_plant_0 : jchk 100 0 kX3_plant_0 = true := by decide +kernel
def kX11_tree_0 : List JI := [(.iload_n 1, 1, 1, 0, 0, 0, 0),
  (.iconst 3, 1, 0, 3, 0, 0, 0),
  (.invokestatic 85, 3, 14, 2, 0, 11, 513),
  (.ifCond .ne 9, 3, 14, 0, 0, 0, 0),
  (.aload_n 0, 1, 0, 0, 0, 0, 0),
  (.iconst (-1), 1, 0, -1, 0, 0, 0),
  (.invokevirtual 93, 3, 16, 1, 0, 11, 519),
  (.ireturn, 1, 0, 0, 0, 0, 0)]
theorem qX11_tree_0 : jchk 101 0 kX11_tree_0 = true := by decide +kernel
def kX11_tree_14 : List JI := [(.iload_n 2, 1, 2, 0, 0, 0, 0),
  (.bipush (-9), 2, 0, -9, 0, 0, 0),
  (.if_icmp .lt 8, 3, 25, 0, 0, 0, 0),
  (.iload_n 3, 1, 3, 0, 0, 0, 0),
  (.iconst 1, 1, 0, 1, 0, 0, 0),
  (.if_icmp .ge 10, 3, 32, 0, 0, 0, 0)]
theorem qX11_tree_14 : jchk 101 14 kX11_tree_14 = true := by decide +kernel
def kX11_tree_25 : List JI := [(.aload_n 0, 1, 0, 0, 0, 0, 0),
  (.bipush (-4), 2, 0, -4, 0, 0, 0),
  (.invokevirtual 93, 3, 16, 1, 0, 11, 519),
  (.ireturn, 1, 0, 0, 0, 0, 0)]
theorem qX11_tree_25 : jchk 101 25 kX11_tree_25 = true := by decide +kernel
def kX11_tree_32 : List JI := [(.iload_n 2, 1, 2, 0, 0, 0, 0),
  (.bipush 9, 2, 0, 9, 0, 0, 0),
  (.if_icmp .gt 22, 3, 57, 0, 0, 0, 0),
  (.iload_n 3, 1, 3, 0, 0, 0, 0),
  (.sipush 500, 3, 0, 500, 0, 0, 0),
  (.if_icmp .gt 15, 3, 57, 0, 0, 0, 0),
  (.aload_n 0, 1, 0, 0, 0, 0, 0),
  (.getfield 44, 3, 11, 6, 4, 0, 478),
  (.getfield 236, 3, 3, 0, 1, 0, 285),
  (.bipush 40, 2, 0, 40, 0, 0, 0),
  (.if_icmp .lt 10, 3, 64, 0, 0, 0, 0)]
theorem qX11_tree_32 : jchk 101 32 kX11_tree_32 = true := by decide +kernel
def kX11_tree_57 : List JI := [(.aload_n 0, 1, 0, 0, 0, 0, 0),
  (.bipush (-6), 2, 0, -6, 0, 0, 0),
  (.invokevirtual 93, 3, 16, 1, 0, 11, 519),
  (.ireturn, 1, 0, 0, 0, 0, 0)]
theorem qX11_tree_57 : jchk 101 57 kX11_tree_57 = true := by decide +kernel
def kX11_tree_64 : List JI := [(.aload_n 0, 1, 0, 0, 0, 0, 0),
  (.getfield 44, 3, 11, 6, 4, 0, 478),
  (.iload_n 1, 1, 1, 0, 0, 0, 0),
  (.iload_n 2, 1, 2, 0, 0, 0, 0),
  (.iload_n 3, 1, 3, 0, 0, 0, 0),
  (.invokevirtual 237, 3, 100, 3, 0, 3, 740),
  (.ireturn, 1, 0, 0, 0, 0, 0)]
theorem qX11_tree_64 : jchk 101 64 kX11_tree_64 = true := by decide +kernel
def kX12_tree_0 : List JI := [(.iload_n 1, 1, 1, 0, 0, 0, 0),
  (.iconst 0, 1, 0, 0, 0, 0, 0),
  (.iconst 2, 1, 0, 2, 0, 0, 0),
  (.invokestatic 168, 3, 19, 3, 0, 12, 1160),
  (.ifCond .ne 9, 3, 15, 0, 0, 0, 0),
  (.aload_n 0, 1, 0, 0, 0, 0, 0),
  (.iconst (-1), 1, 0, -1, 0, 0, 0),
  (.invokevirtual 172, 3, 20, 1, 0, 12, 1163),
  (.ireturn, 1, 0, 0, 0, 0, 0)]
theorem qX12_tree_0 : jchk 102 0 kX12_tree_0 = true := by decide +kernel
def kX12_tree_15 : List JI := [(.iload_n 2, 1, 2, 0, 0, 0, 0),
  (.bipush (-9), 2, 0, -9, 0, 0, 0),
  (.if_icmp .lt 8, 3, 26, 0, 0, 0, 0),
  (.iload_n 3, 1, 3, 0, 0, 0, 0),
  (.iconst 1, 1, 0, 1, 0, 0, 0),
  (.if_icmp .ge 10, 3, 33, 0, 0, 0, 0)]
theorem qX12_tree_15 : jchk 102 15 kX12_tree_15 = true := by decide +kernel
def kX12_tree_26 : List JI := [(.aload_n 0, 1, 0, 0, 0, 0, 0),
  (.bipush (-4), 2, 0, -4, 0, 0, 0),
  (.invokevirtual 172, 3, 20, 1, 0, 12, 1163),
  (.ireturn, 1, 0, 0, 0, 0, 0)]
theorem qX12_tree_26 : jchk 102 26 kX12_tree_26 = true := by decide +kernel
def kX12_tree_33 : List JI := [(.iload_n 2, 1, 2, 0, 0, 0, 0),
  (.bipush 9, 2, 0, 9, 0, 0, 0),
  (.if_icmp .gt 19, 3, 55, 0, 0, 0, 0),
  (.iload_n 3, 1, 3, 0, 0, 0, 0),
  (.sipush 500, 3, 0, 500, 0, 0, 0),
  (.if_icmp .gt 12, 3, 55, 0, 0, 0, 0),
  (.aload_n 0, 1, 0, 0, 0, 0, 0),
  (.getfield 239, 3, 12, 34, 1, 0, 993),
  (.bipush 40, 2, 0, 40, 0, 0, 0),
  (.if_icmp .ne 10, 3, 62, 0, 0, 0, 0)]
theorem qX12_tree_33 : jchk 102 33 kX12_tree_33 = true := by decide +kernel
def kX12_tree_55 : List JI := [(.aload_n 0, 1, 0, 0, 0, 0, 0),
  (.bipush (-6), 2, 0, -6, 0, 0, 0),
  (.invokevirtual 172, 3, 20, 1, 0, 12, 1163),
  (.ireturn, 1, 0, 0, 0, 0, 0)]
theorem qX12_tree_55 : jchk 102 55 kX12_tree_55 = true := by decide +kernel
def kX12_tree_62 : List JI := [(.aload_n 0, 1, 0, 0, 0, 0, 0),
  (.getfield 95, 3, 12, 35, 4, 0, 994),
  (.aload_n 0, 1, 0, 0, 0, 0, 0),
  (.getfield 239, 3, 12, 34, 1, 0, 993),
  (.iload_n 1, 1, 1, 0, 0, 0, 0),
  (.iastore, 1, 0, 0, 0, 0, 0),
  (.aload_n 0, 1, 0, 0, 0, 0, 0),
  (.getfield 98, 3, 12, 36, 4, 0, 995),
  (.aload_n 0, 1, 0, 0, 0, 0, 0),
  (.getfield 239, 3, 12, 34, 1, 0, 993),
  (.iload_n 2, 1, 2, 0, 0, 0, 0),
  (.iastore, 1, 0, 0, 0, 0, 0),
  (.aload_n 0, 1, 0, 0, 0, 0, 0),
  (.getfield 101, 3, 12, 37, 4, 0, 996),
  (.aload_n 0, 1, 0, 0, 0, 0, 0),
  (.getfield 239, 3, 12, 34, 1, 0, 993),
  (.iload_n 3, 1, 3, 0, 0, 0, 0),
  (.iastore, 1, 0, 0, 0, 0, 0),
  (.aload_n 0, 1, 0, 0, 0, 0, 0),
  (.getfield 104, 3, 12, 38, 4, 0, 997),
  (.aload_n 0, 1, 0, 0, 0, 0, 0),
  (.getfield 239, 3, 12, 34, 1, 0, 993),
  (.iconst (-1), 1, 0, -1, 0, 0, 0),
  (.iastore, 1, 0, 0, 0, 0, 0),
  (.aload_n 0, 1, 0, 0, 0, 0, 0),
  (.getfield 107, 3, 12, 39, 4, 0, 998),
  (.aload_n 0, 1, 0, 0, 0, 0, 0),
  (.getfield 239, 3, 12, 34, 1, 0, 993),
  (.iconst (-1), 1, 0, -1, 0, 0, 0),
  (.iastore, 1, 0, 0, 0, 0, 0),
  (.aload_n 0, 1, 0, 0, 0, 0, 0),
  (.dup, 1, 0, 0, 0, 0, 0),
  (.getfield 239, 3, 12, 34, 1, 0, 993),
  (.iconst 1, 1, 0, 1, 0, 0, 0),
  (.iadd, 1, 0, 0, 0, 0, 0),
  (.putfield 239, 3, 12, 34, 1, 0, 993),
  (.aload_n 0, 1, 0, 0, 0, 0, 0),
  (.getfield 239, 3, 12, 34, 1, 0, 993),
  (.iconst 1, 1, 0, 1, 0, 0, 0),
  (.isub, 1, 0, 0, 0, 0, 0),
  (.ireturn, 1, 0, 0, 0, 0, 0)]
theorem qX12_tree_62 : jchk 102 62 kX12_tree_62 = true := by decide +kernel
def kX8_add_0 : List JI := [(.iload_n 1, 1, 1, 0, 0, 0, 0),
  (.bipush 6, 2, 0, 6, 0, 0, 0),
  (.imul, 1, 0, 0, 0, 0, 0),
  (.aload_n 0, 1, 0, 0, 0, 0, 0),
  (.getfield 9, 3, 8, 0, 4, 0, 322),
  (.iload_n 1, 1, 1, 0, 0, 0, 0),
  (.iaload, 1, 0, 0, 0, 0, 0),
  (.iadd, 1, 0, 0, 0, 0, 0),
  (.istore 6, 2, 6, 0, 0, 0, 0),
  (.aload_n 0, 1, 0, 0, 0, 0, 0),
  (.getfield 15, 3, 8, 1, 4, 0, 325),
  (.iload 6, 2, 6, 0, 0, 0, 0),
  (.iload_n 2, 1, 2, 0, 0, 0, 0),
  (.iastore, 1, 0, 0, 0, 0, 0),
  (.aload_n 0, 1, 0, 0, 0, 0, 0),
  (.getfield 18, 3, 8, 2, 4, 0, 327),
  (.iload 6, 2, 6, 0, 0, 0, 0),
  (.iload_n 3, 1, 3, 0, 0, 0, 0),
  (.iastore, 1, 0, 0, 0, 0, 0),
  (.aload_n 0, 1, 0, 0, 0, 0, 0),
  (.getfield 21, 3, 8, 3, 4, 0, 329),
  (.iload 6, 2, 6, 0, 0, 0, 0),
  (.iload 4, 2, 4, 0, 0, 0, 0),
  (.iastore, 1, 0, 0, 0, 0, 0),
  (.aload_n 0, 1, 0, 0, 0, 0, 0),
  (.getfield 24, 3, 8, 4, 4, 0, 331),
  (.iload 6, 2, 6, 0, 0, 0, 0),
  (.iload 5, 2, 5, 0, 0, 0, 0),
  (.iastore, 1, 0, 0, 0, 0, 0),
  (.aload_n 0, 1, 0, 0, 0, 0, 0),
  (.getfield 9, 3, 8, 0, 4, 0, 322),
  (.iload_n 1, 1, 1, 0, 0, 0, 0),
  (.dup2, 1, 0, 0, 0, 0, 0),
  (.iaload, 1, 0, 0, 0, 0, 0),
  (.iconst 1, 1, 0, 1, 0, 0, 0),
  (.iadd, 1, 0, 0, 0, 0, 0),
  (.iastore, 1, 0, 0, 0, 0, 0),
  (.aload_n 0, 1, 0, 0, 0, 0, 0),
  (.getfield 9, 3, 8, 0, 4, 0, 322),
  (.iload_n 1, 1, 1, 0, 0, 0, 0),
  (.iaload, 1, 0, 0, 0, 0, 0),
  (.iconst 1, 1, 0, 1, 0, 0, 0),
  (.isub, 1, 0, 0, 0, 0, 0),
  (.ireturn, 1, 0, 0, 0, 0, 0)]
theorem qX8_add_0 : jchk 103 0 kX8_add_0 = true := by decide +kernel
def kX11_part_0 : List JI := [(.iload_n 1, 1, 1, 0, 0, 0, 0),
  (.iconst 3, 1, 0, 3, 0, 0, 0),
  (.invokestatic 85, 3, 14, 2, 0, 11, 513),
  (.ifCond .eq 11, 3, 16, 0, 0, 0, 0),
  (.iload_n 2, 1, 2, 0, 0, 0, 0),
  (.iconst 3, 1, 0, 3, 0, 0, 0),
  (.invokestatic 85, 3, 14, 2, 0, 11, 513),
  (.ifCond .ne 9, 3, 22, 0, 0, 0, 0)]
theorem qX11_part_0 : jchk 104 0 kX11_part_0 = true := by decide +kernel
def kX11_part_16 : List JI := [(.aload_n 0, 1, 0, 0, 0, 0, 0),
  (.iconst (-1), 1, 0, -1, 0, 0, 0),
  (.invokevirtual 93, 3, 16, 1, 0, 11, 519),
  (.ireturn, 1, 0, 0, 0, 0, 0)]
theorem qX11_part_16 : jchk 104 16 kX11_part_16 = true := by decide +kernel
def kX11_part_22 : List JI := [(.iload_n 3, 1, 3, 0, 0, 0, 0),
  (.bipush (-9), 2, 0, -9, 0, 0, 0),
  (.if_icmp .lt 14, 3, 39, 0, 0, 0, 0),
  (.iload 4, 2, 4, 0, 0, 0, 0),
  (.ifCond .lt 9, 3, 39, 0, 0, 0, 0),
  (.iload 5, 2, 5, 0, 0, 0, 0),
  (.iconst 1, 1, 0, 1, 0, 0, 0),
  (.if_icmp .ge 10, 3, 46, 0, 0, 0, 0)]
theorem qX11_part_22 : jchk 104 22 kX11_part_22 = true := by decide +kernel
def kX11_part_39 : List JI := [(.aload_n 0, 1, 0, 0, 0, 0, 0),
  (.bipush (-4), 2, 0, -4, 0, 0, 0),
  (.invokevirtual 93, 3, 16, 1, 0, 11, 519),
  (.ireturn, 1, 0, 0, 0, 0, 0)]
theorem qX11_part_39 : jchk 104 39 kX11_part_39 = true := by decide +kernel
def kX11_part_46 : List JI := [(.iload_n 3, 1, 3, 0, 0, 0, 0),
  (.bipush 9, 2, 0, 9, 0, 0, 0),
  (.if_icmp .gt 32, 3, 81, 0, 0, 0, 0),
  (.iload 4, 2, 4, 0, 0, 0, 0),
  (.bipush 9, 2, 0, 9, 0, 0, 0),
  (.if_icmp .gt 25, 3, 81, 0, 0, 0, 0),
  (.iload 5, 2, 5, 0, 0, 0, 0),
  (.sipush 500, 3, 0, 500, 0, 0, 0),
  (.if_icmp .gt 17, 3, 81, 0, 0, 0, 0),
  (.aload_n 0, 1, 0, 0, 0, 0, 0),
  (.getfield 51, 3, 11, 7, 4, 0, 479),
  (.getfield 240, 3, 8, 0, 4, 0, 324),
  (.iload_n 1, 1, 1, 0, 0, 0, 0),
  (.iaload, 1, 0, 0, 0, 0, 0),
  (.bipush 6, 2, 0, 6, 0, 0, 0),
  (.if_icmp .lt 10, 3, 88, 0, 0, 0, 0)]
theorem qX11_part_46 : jchk 104 46 kX11_part_46 = true := by decide +kernel
def kX11_part_81 : List JI := [(.aload_n 0, 1, 0, 0, 0, 0, 0),
  (.bipush (-6), 2, 0, -6, 0, 0, 0),
  (.invokevirtual 93, 3, 16, 1, 0, 11, 519),
  (.ireturn, 1, 0, 0, 0, 0, 0)]
theorem qX11_part_81 : jchk 104 81 kX11_part_81 = true := by decide +kernel
def kX11_part_88 : List JI := [(.aload_n 0, 1, 0, 0, 0, 0, 0),
  (.getfield 51, 3, 11, 7, 4, 0, 479),
  (.iload_n 1, 1, 1, 0, 0, 0, 0),
  (.iload_n 2, 1, 2, 0, 0, 0, 0),
  (.iload_n 3, 1, 3, 0, 0, 0, 0),
  (.iload 4, 2, 4, 0, 0, 0, 0),
  (.iload 5, 2, 5, 0, 0, 0, 0),
  (.invokevirtual 243, 3, 103, 5, 0, 8, 748),
  (.ireturn, 1, 0, 0, 0, 0, 0)]
theorem qX11_part_88 : jchk 104 88 kX11_part_88 = true := by decide +kernel
def kX12_part_0 : List JI := [(.iload_n 1, 1, 1, 0, 0, 0, 0),
  (.iconst 0, 1, 0, 0, 0, 0, 0),
  (.iconst 2, 1, 0, 2, 0, 0, 0),
  (.invokestatic 168, 3, 19, 3, 0, 12, 1160),
  (.ifCond .eq 12, 3, 18, 0, 0, 0, 0),
  (.iload_n 2, 1, 2, 0, 0, 0, 0),
  (.iconst 0, 1, 0, 0, 0, 0, 0),
  (.iconst 2, 1, 0, 2, 0, 0, 0),
  (.invokestatic 168, 3, 19, 3, 0, 12, 1160),
  (.ifCond .ne 9, 3, 24, 0, 0, 0, 0)]
theorem qX12_part_0 : jchk 105 0 kX12_part_0 = true := by decide +kernel
def kX12_part_18 : List JI := [(.aload_n 0, 1, 0, 0, 0, 0, 0),
  (.iconst (-1), 1, 0, -1, 0, 0, 0),
  (.invokevirtual 172, 3, 20, 1, 0, 12, 1163),
  (.ireturn, 1, 0, 0, 0, 0, 0)]
theorem qX12_part_18 : jchk 105 18 kX12_part_18 = true := by decide +kernel
def kX12_part_24 : List JI := [(.iload_n 3, 1, 3, 0, 0, 0, 0),
  (.bipush (-9), 2, 0, -9, 0, 0, 0),
  (.if_icmp .lt 14, 3, 41, 0, 0, 0, 0),
  (.iload 4, 2, 4, 0, 0, 0, 0),
  (.ifCond .lt 9, 3, 41, 0, 0, 0, 0),
  (.iload 5, 2, 5, 0, 0, 0, 0),
  (.iconst 1, 1, 0, 1, 0, 0, 0),
  (.if_icmp .ge 10, 3, 48, 0, 0, 0, 0)]
theorem qX12_part_24 : jchk 105 24 kX12_part_24 = true := by decide +kernel
def kX12_part_41 : List JI := [(.aload_n 0, 1, 0, 0, 0, 0, 0),
  (.bipush (-4), 2, 0, -4, 0, 0, 0),
  (.invokevirtual 172, 3, 20, 1, 0, 12, 1163),
  (.ireturn, 1, 0, 0, 0, 0, 0)]
theorem qX12_part_41 : jchk 105 41 kX12_part_41 = true := by decide +kernel
def kX12_part_48 : List JI := [(.iload_n 3, 1, 3, 0, 0, 0, 0),
  (.bipush 9, 2, 0, 9, 0, 0, 0),
  (.if_icmp .gt 29, 3, 80, 0, 0, 0, 0),
  (.iload 4, 2, 4, 0, 0, 0, 0),
  (.bipush 9, 2, 0, 9, 0, 0, 0),
  (.if_icmp .gt 22, 3, 80, 0, 0, 0, 0),
  (.iload 5, 2, 5, 0, 0, 0, 0),
  (.sipush 500, 3, 0, 500, 0, 0, 0),
  (.if_icmp .gt 14, 3, 80, 0, 0, 0, 0),
  (.aload_n 0, 1, 0, 0, 0, 0, 0),
  (.getfield 110, 3, 12, 40, 4, 0, 999),
  (.iload_n 1, 1, 1, 0, 0, 0, 0),
  (.iaload, 1, 0, 0, 0, 0, 0),
  (.bipush 6, 2, 0, 6, 0, 0, 0),
  (.if_icmp .ne 10, 3, 87, 0, 0, 0, 0)]
theorem qX12_part_48 : jchk 105 48 kX12_part_48 = true := by decide +kernel
def kX12_part_80 : List JI := [(.aload_n 0, 1, 0, 0, 0, 0, 0),
  (.bipush (-6), 2, 0, -6, 0, 0, 0),
  (.invokevirtual 172, 3, 20, 1, 0, 12, 1163),
  (.ireturn, 1, 0, 0, 0, 0, 0)]
theorem qX12_part_80 : jchk 105 80 kX12_part_80 = true := by decide +kernel
def kX12_part_87 : List JI := [(.bipush 6, 2, 0, 6, 0, 0, 0),
  (.iload_n 1, 1, 1, 0, 0, 0, 0),
  (.imul, 1, 0, 0, 0, 0, 0),
  (.aload_n 0, 1, 0, 0, 0, 0, 0),
  (.getfield 110, 3, 12, 40, 4, 0, 999),
  (.iload_n 1, 1, 1, 0, 0, 0, 0),
  (.iaload, 1, 0, 0, 0, 0, 0),
  (.iadd, 1, 0, 0, 0, 0, 0),
  (.istore 6, 2, 6, 0, 0, 0, 0),
  (.aload_n 0, 1, 0, 0, 0, 0, 0),
  (.getfield 113, 3, 12, 41, 4, 0, 1000),
  (.iload 6, 2, 6, 0, 0, 0, 0),
  (.iload_n 2, 1, 2, 0, 0, 0, 0),
  (.iastore, 1, 0, 0, 0, 0, 0),
  (.aload_n 0, 1, 0, 0, 0, 0, 0),
  (.getfield 116, 3, 12, 42, 4, 0, 1001),
  (.iload 6, 2, 6, 0, 0, 0, 0),
  (.iload_n 3, 1, 3, 0, 0, 0, 0),
  (.iastore, 1, 0, 0, 0, 0, 0),
  (.aload_n 0, 1, 0, 0, 0, 0, 0),
  (.getfield 119, 3, 12, 43, 4, 0, 1002),
  (.iload 6, 2, 6, 0, 0, 0, 0),
  (.iload 4, 2, 4, 0, 0, 0, 0),
  (.iastore, 1, 0, 0, 0, 0, 0),
  (.aload_n 0, 1, 0, 0, 0, 0, 0),
  (.getfield 122, 3, 12, 44, 4, 0, 1003),
  (.iload 6, 2, 6, 0, 0, 0, 0),
  (.iload 5, 2, 5, 0, 0, 0, 0),
  (.iastore, 1, 0, 0, 0, 0, 0),
  (.aload_n 0, 1, 0, 0, 0, 0, 0),
  (.getfield 110, 3, 12, 40, 4, 0, 999),
  (.iload_n 1, 1, 1, 0, 0, 0, 0),
  (.dup2, 1, 0, 0, 0, 0, 0),
  (.iaload, 1, 0, 0, 0, 0, 0),
  (.iconst 1, 1, 0, 1, 0, 0, 0),
  (.iadd, 1, 0, 0, 0, 0, 0),
  (.iastore, 1, 0, 0, 0, 0, 0),
  (.aload_n 0, 1, 0, 0, 0, 0, 0),
  (.getfield 110, 3, 12, 40, 4, 0, 999),
  (.iload_n 1, 1, 1, 0, 0, 0, 0),
  (.iaload, 1, 0, 0, 0, 0, 0),
  (.iconst 1, 1, 0, 1, 0, 0, 0),
  (.isub, 1, 0, 0, 0, 0, 0),
  (.ireturn, 1, 0, 0, 0, 0, 0)]
theorem qX12_part_87 : jchk 105 87 kX12_part_87 = true := by decide +kernel
def kJ7_fill_d0a16_0 : List JI := [(.iconst 0, 1, 0, 0, 0, 0, 0),
  (.istore_n 3, 1, 3, 0, 0, 0, 0),
  (.aload_n 0, 1, 0, 0, 0, 0, 0),
  (.arraylength, 1, 0, 0, 0, 0, 0),
  (.istore 4, 2, 4, 0, 0, 0, 0)]
theorem qJ7_fill_d0a16_0 : jchk 106 0 kJ7_fill_d0a16_0 = true := by decide +kernel
def kJ7_fill_d0a16_6 : List JI := [(.iload_n 3, 1, 3, 0, 0, 0, 0),
  (.iload 4, 2, 4, 0, 0, 0, 0),
  (.if_icmp .ge 13, 3, 22, 0, 0, 0, 0),
  (.aload_n 0, 1, 0, 0, 0, 0, 0),
  (.iload_n 3, 1, 3, 0, 0, 0, 0),
  (.lload_n 1, 1, 1, 0, 0, 0, 0),
  (.lastore, 1, 0, 0, 0, 0, 0),
  (.iinc 3 1, 3, 3, 1, 0, 0, 0),
  (.goto (-13), 3, 6, 0, 0, 0, 0)]
theorem qJ7_fill_d0a16_6 : jchk 106 6 kJ7_fill_d0a16_6 = true := by decide +kernel
def kJ7_fill_d0a16_22 : List JI := [(.return_, 1, 0, 0, 0, 0, 0)]
theorem qJ7_fill_d0a16_22 : jchk 106 22 kJ7_fill_d0a16_22 = true := by decide +kernel
def kX6_lackingNumber_0 : List JI := [(.ldc2_w 67, 3, 0, 19456426971136, 0, 0, 767),
  (.ldc2_w 69, 3, 0, 40, 0, 0, 768),
  (.getstatic 71, 3, 0, -6, 0, 0, 769),
  (.iload_n 0, 1, 0, 0, 0, 0, 0),
  (.laload, 1, 0, 0, 0, 0, 0),
  (.lmul, 1, 0, 0, 0, 0, 0),
  (.ladd, 1, 0, 0, 0, 0, 0),
  (.lreturn, 1, 0, 0, 0, 0, 0)]
theorem qX6_lackingNumber_0 : jchk 107 0 kX6_lackingNumber_0 = true := by decide +kernel
def kJ9_abs_0f7a4_0 : List JI := [(.iload_n 0, 1, 0, 0, 0, 0, 0),
  (.ifCond .ge 8, 3, 9, 0, 0, 0, 0),
  (.iload_n 0, 1, 0, 0, 0, 0, 0),
  (.ineg, 1, 0, 0, 0, 0, 0),
  (.goto 4, 3, 10, 0, 0, 0, 0)]
theorem qJ9_abs_0f7a4_0 : jchk 108 0 kJ9_abs_0f7a4_0 = true := by decide +kernel
def kJ9_abs_0f7a4_9 : List JI := [(.iload_n 0, 1, 0, 0, 0, 0, 0)]
theorem qJ9_abs_0f7a4_9 : jchk 108 9 kJ9_abs_0f7a4_9 = true := by decide +kernel
def kJ9_abs_0f7a4_10 : List JI := [(.ireturn, 1, 0, 0, 0, 0, 0)]
theorem qJ9_abs_0f7a4_10 : jchk 108 10 kJ9_abs_0f7a4_10 = true := by decide +kernel
def kX6_fitting_0 : List JI := [(.iconst 0, 1, 0, 0, 0, 0, 0),
  (.istore 5, 2, 5, 0, 0, 0, 0),
  (.iconst 0, 1, 0, 0, 0, 0, 0),
  (.istore 6, 2, 6, 0, 0, 0, 0)]
theorem qX6_fitting_0 : jchk 109 0 kX6_fitting_0 = true := by decide +kernel
def kX6_fitting_6 : List JI := [(.iload 6, 2, 6, 0, 0, 0, 0),
  (.aload_n 3, 1, 3, 0, 0, 0, 0),
  (.getfield 22, 3, 8, 0, 4, 0, 323),
  (.iload 4, 2, 4, 0, 0, 0, 0),
  (.iaload, 1, 0, 0, 0, 0, 0),
  (.if_icmp .ge 122, 3, 137, 0, 0, 0, 0),
  (.iload 4, 2, 4, 0, 0, 0, 0),
  (.bipush 6, 2, 0, 6, 0, 0, 0),
  (.imul, 1, 0, 0, 0, 0, 0),
  (.iload 6, 2, 6, 0, 0, 0, 0),
  (.iadd, 1, 0, 0, 0, 0, 0),
  (.istore 7, 2, 7, 0, 0, 0, 0),
  (.aload_n 1, 1, 1, 0, 0, 0, 0),
  (.getfield 74, 3, 3, 3, 4, 0, 293),
  (.iload_n 2, 1, 2, 0, 0, 0, 0),
  (.iaload, 1, 0, 0, 0, 0, 0),
  (.aload_n 3, 1, 3, 0, 0, 0, 0),
  (.getfield 77, 3, 8, 4, 4, 0, 332),
  (.iload 7, 2, 7, 0, 0, 0, 0),
  (.iaload, 1, 0, 0, 0, 0, 0),
  (.isub, 1, 0, 0, 0, 0, 0),
  (.istore 8, 2, 8, 0, 0, 0, 0),
  (.aload_n 1, 1, 1, 0, 0, 0, 0),
  (.getfield 78, 3, 3, 1, 4, 0, 287),
  (.iload_n 2, 1, 2, 0, 0, 0, 0),
  (.iaload, 1, 0, 0, 0, 0, 0),
  (.aload_n 3, 1, 3, 0, 0, 0, 0),
  (.getfield 81, 3, 8, 1, 4, 0, 326),
  (.iload 7, 2, 7, 0, 0, 0, 0),
  (.iaload, 1, 0, 0, 0, 0, 0),
  (.if_icmp .ne 74, 3, 131, 0, 0, 0, 0),
  (.iload 8, 2, 8, 0, 0, 0, 0),
  (.ifCond .lt 69, 3, 131, 0, 0, 0, 0),
  (.aload_n 1, 1, 1, 0, 0, 0, 0),
  (.getfield 82, 3, 3, 2, 4, 0, 290),
  (.iload_n 2, 1, 2, 0, 0, 0, 0),
  (.iaload, 1, 0, 0, 0, 0, 0),
  (.aload_n 3, 1, 3, 0, 0, 0, 0),
  (.getfield 85, 3, 8, 2, 4, 0, 328),
  (.iload 7, 2, 7, 0, 0, 0, 0),
  (.iaload, 1, 0, 0, 0, 0, 0),
  (.isub, 1, 0, 0, 0, 0, 0),
  (.invokestatic 86, 3, 997, 2, 0, 0, 776),
  (.aload_n 3, 1, 3, 0, 0, 0, 0),
  (.getfield 90, 3, 8, 3, 4, 0, 330),
  (.iload 7, 2, 7, 0, 0, 0, 0),
  (.iaload, 1, 0, 0, 0, 0, 0),
  (.if_icmp .gt 42, 3, 131, 0, 0, 0, 0),
  (.iload 5, 2, 5, 0, 0, 0, 0),
  (.iconst 1, 1, 0, 1, 0, 0, 0),
  (.iload 6, 2, 6, 0, 0, 0, 0),
  (.ishl, 1, 0, 0, 0, 0, 0),
  (.ior, 1, 0, 0, 0, 0, 0),
  (.istore 5, 2, 5, 0, 0, 0, 0),
  (.aload_n 0, 1, 0, 0, 0, 0, 0),
  (.getfield 19, 3, 6, 4, 4, 0, 357),
  (.iload 6, 2, 6, 0, 0, 0, 0),
  (.iload 8, 2, 8, 0, 0, 0, 0),
  (.i2l, 1, 0, 0, 0, 0, 0),
  (.ldc2_w 93, 3, 0, 4750104241, 0, 0, 779),
  (.lmul, 1, 0, 0, 0, 0, 0),
  (.iload_n 2, 1, 2, 0, 0, 0, 0),
  (.i2l, 1, 0, 0, 0, 0, 0),
  (.getstatic 71, 3, 0, -6, 0, 0, 769),
  (.iload 6, 2, 6, 0, 0, 0, 0),
  (.laload, 1, 0, 0, 0, 0, 0),
  (.lmul, 1, 0, 0, 0, 0, 0),
  (.ladd, 1, 0, 0, 0, 0, 0),
  (.iload 6, 2, 6, 0, 0, 0, 0),
  (.invokestatic 35, 3, 107, 1, 0, 6, 764),
  (.lsub, 1, 0, 0, 0, 0, 0),
  (.lastore, 1, 0, 0, 0, 0, 0)]
theorem qX6_fitting_6 : jchk 109 6 kX6_fitting_6 = true := by decide +kernel
def kX6_fitting_131 : List JI := [(.iinc 6 1, 3, 6, 1, 0, 0, 0),
  (.goto (-128), 3, 6, 0, 0, 0, 0)]
theorem qX6_fitting_131 : jchk 109 131 kX6_fitting_131 = true := by decide +kernel
def kX6_fitting_137 : List JI := [(.iload 5, 2, 5, 0, 0, 0, 0),
  (.ireturn, 1, 0, 0, 0, 0, 0)]
theorem qX6_fitting_137 : jchk 109 137 kX6_fitting_137 = true := by decide +kernel
def kJ9_min_f86c9_0 : List JI := [(.lload_n 0, 1, 0, 0, 0, 0, 0),
  (.lload_n 2, 1, 2, 0, 0, 0, 0),
  (.lcmp, 1, 0, 0, 0, 0, 0),
  (.ifCond .gt 7, 3, 10, 0, 0, 0, 0),
  (.lload_n 0, 1, 0, 0, 0, 0, 0),
  (.goto 4, 3, 11, 0, 0, 0, 0)]
theorem qJ9_min_f86c9_0 : jchk 110 0 kJ9_min_f86c9_0 = true := by decide +kernel
def kJ9_min_f86c9_10 : List JI := [(.lload_n 2, 1, 2, 0, 0, 0, 0)]
theorem qJ9_min_f86c9_10 : jchk 110 10 kJ9_min_f86c9_10 = true := by decide +kernel
def kJ9_min_f86c9_11 : List JI := [(.lreturn, 1, 0, 0, 0, 0, 0)]
theorem qJ9_min_f86c9_11 : jchk 110 11 kJ9_min_f86c9_11 = true := by decide +kernel
def kX6_offer_0 : List JI := [(.iload_n 2, 1, 2, 0, 0, 0, 0),
  (.iconst 1, 1, 0, 1, 0, 0, 0),
  (.isub, 1, 0, 0, 0, 0, 0),
  (.istore_n 3, 1, 3, 0, 0, 0, 0)]
theorem qX6_offer_0 : jchk 111 0 kX6_offer_0 = true := by decide +kernel
def kX6_offer_4 : List JI := [(.iload_n 3, 1, 3, 0, 0, 0, 0),
  (.ifCond .le 96, 3, 101, 0, 0, 0, 0),
  (.iload_n 1, 1, 1, 0, 0, 0, 0),
  (.ifCond .eq 92, 3, 101, 0, 0, 0, 0),
  (.iload_n 3, 1, 3, 0, 0, 0, 0),
  (.iload_n 1, 1, 1, 0, 0, 0, 0),
  (.iand, 1, 0, 0, 0, 0, 0),
  (.istore 4, 2, 4, 0, 0, 0, 0),
  (.iconst 0, 1, 0, 0, 0, 0, 0),
  (.istore 5, 2, 5, 0, 0, 0, 0)]
theorem qX6_offer_4 : jchk 111 4 kX6_offer_4 = true := by decide +kernel
def kX6_offer_20 : List JI := [(.iload 5, 2, 5, 0, 0, 0, 0),
  (.bipush 6, 2, 0, 6, 0, 0, 0),
  (.if_icmp .ge 71, 3, 95, 0, 0, 0, 0),
  (.iconst 1, 1, 0, 1, 0, 0, 0),
  (.iload 5, 2, 5, 0, 0, 0, 0),
  (.ishl, 1, 0, 0, 0, 0, 0),
  (.istore 6, 2, 6, 0, 0, 0, 0),
  (.iload 4, 2, 4, 0, 0, 0, 0),
  (.iload 6, 2, 6, 0, 0, 0, 0),
  (.iand, 1, 0, 0, 0, 0, 0),
  (.ifCond .eq 51, 3, 89, 0, 0, 0, 0),
  (.aload_n 0, 1, 0, 0, 0, 0, 0),
  (.getfield 15, 3, 6, 3, 4, 0, 356),
  (.iload_n 3, 1, 3, 0, 0, 0, 0),
  (.iload 6, 2, 6, 0, 0, 0, 0),
  (.ixor, 1, 0, 0, 0, 0, 0),
  (.laload, 1, 0, 0, 0, 0, 0),
  (.ldc2_w 27, 3, 0, 4611686018427387904, 0, 0, 760),
  (.lcmp, 1, 0, 0, 0, 0, 0),
  (.ifCond .eq 35, 3, 89, 0, 0, 0, 0),
  (.aload_n 0, 1, 0, 0, 0, 0, 0),
  (.getfield 15, 3, 6, 3, 4, 0, 356),
  (.iload_n 3, 1, 3, 0, 0, 0, 0),
  (.aload_n 0, 1, 0, 0, 0, 0, 0),
  (.getfield 15, 3, 6, 3, 4, 0, 356),
  (.iload_n 3, 1, 3, 0, 0, 0, 0),
  (.laload, 1, 0, 0, 0, 0, 0),
  (.aload_n 0, 1, 0, 0, 0, 0, 0),
  (.getfield 15, 3, 6, 3, 4, 0, 356),
  (.iload_n 3, 1, 3, 0, 0, 0, 0),
  (.iload 6, 2, 6, 0, 0, 0, 0),
  (.ixor, 1, 0, 0, 0, 0, 0),
  (.laload, 1, 0, 0, 0, 0, 0),
  (.aload_n 0, 1, 0, 0, 0, 0, 0),
  (.getfield 19, 3, 6, 4, 4, 0, 357),
  (.iload 5, 2, 5, 0, 0, 0, 0),
  (.laload, 1, 0, 0, 0, 0, 0),
  (.ladd, 1, 0, 0, 0, 0, 0),
  (.invokestatic 57, 3, 997, 3, 0, 0, 784),
  (.lastore, 1, 0, 0, 0, 0, 0)]
theorem qX6_offer_20 : jchk 111 20 kX6_offer_20 = true := by decide +kernel
def kX6_offer_89 : List JI := [(.iinc 5 1, 3, 5, 1, 0, 0, 0),
  (.goto (-72), 3, 20, 0, 0, 0, 0)]
theorem qX6_offer_89 : jchk 111 89 kX6_offer_89 = true := by decide +kernel
def kX6_offer_95 : List JI := [(.iinc 3 (-1), 3, 3, -1, 0, 0, 0),
  (.goto (-94), 3, 4, 0, 0, 0, 0)]
theorem qX6_offer_95 : jchk 111 95 kX6_offer_95 = true := by decide +kernel
def kX6_offer_101 : List JI := [(.return_, 1, 0, 0, 0, 0, 0)]
theorem qX6_offer_101 : jchk 111 101 kX6_offer_101 = true := by decide +kernel
end
section
def kX6_readOff_0 : List JI := [(.aload_n 0, 1, 0, 0, 0, 0, 0),
  (.lload_n 1, 1, 1, 0, 0, 0, 0),
  (.ldc2_w 93, 3, 0, 4750104241, 0, 0, 779),
  (.ldiv, 1, 0, 0, 0, 0, 0),
  (.ldc2_w 95, 3, 0, 4096, 0, 0, 791),
  (.lrem, 1, 0, 0, 0, 0, 0),
  (.l2i, 1, 0, 0, 0, 0, 0),
  (.putfield 97, 3, 6, 1, 1, 0, 352),
  (.aload_n 0, 1, 0, 0, 0, 0, 0),
  (.iconst 0, 1, 0, 0, 0, 0, 0),
  (.putfield 100, 3, 6, 0, 1, 0, 350),
  (.iconst 0, 1, 0, 0, 0, 0, 0),
  (.istore 4, 2, 4, 0, 0, 0, 0)]
theorem qX6_readOff_0 : jchk 112 0 kX6_readOff_0 = true := by decide +kernel
def kX6_readOff_22 : List JI := [(.iload 4, 2, 4, 0, 0, 0, 0),
  (.iload_n 3, 1, 3, 0, 0, 0, 0),
  (.if_icmp .ge 62, 3, 87, 0, 0, 0, 0),
  (.lload_n 1, 1, 1, 0, 0, 0, 0),
  (.getstatic 71, 3, 0, -6, 0, 0, 769),
  (.iload 4, 2, 4, 0, 0, 0, 0),
  (.laload, 1, 0, 0, 0, 0, 0),
  (.ldiv, 1, 0, 0, 0, 0, 0),
  (.ldc2_w 103, 3, 0, 41, 0, 0, 792),
  (.lrem, 1, 0, 0, 0, 0, 0),
  (.l2i, 1, 0, 0, 0, 0, 0),
  (.istore 5, 2, 5, 0, 0, 0, 0),
  (.aload_n 0, 1, 0, 0, 0, 0, 0),
  (.getfield 11, 3, 6, 2, 4, 0, 354),
  (.iload 4, 2, 4, 0, 0, 0, 0),
  (.iload 5, 2, 5, 0, 0, 0, 0),
  (.bipush 40, 2, 0, 40, 0, 0, 0),
  (.if_icmp .ne 8, 3, 61, 0, 0, 0, 0),
  (.bipush (-9), 2, 0, -9, 0, 0, 0),
  (.goto 5, 3, 63, 0, 0, 0, 0)]
theorem qX6_readOff_22 : jchk 112 22 kX6_readOff_22 = true := by decide +kernel
def kX6_readOff_61 : List JI := [(.iload 5, 2, 5, 0, 0, 0, 0)]
theorem qX6_readOff_61 : jchk 112 61 kX6_readOff_61 = true := by decide +kernel
def kX6_readOff_63 : List JI := [(.iastore, 1, 0, 0, 0, 0, 0),
  (.iload 5, 2, 5, 0, 0, 0, 0),
  (.bipush 40, 2, 0, 40, 0, 0, 0),
  (.if_icmp .eq 13, 3, 81, 0, 0, 0, 0),
  (.aload_n 0, 1, 0, 0, 0, 0, 0),
  (.dup, 1, 0, 0, 0, 0, 0),
  (.getfield 100, 3, 6, 0, 1, 0, 350),
  (.iconst 1, 1, 0, 1, 0, 0, 0),
  (.iadd, 1, 0, 0, 0, 0, 0),
  (.putfield 100, 3, 6, 0, 1, 0, 350)]
theorem qX6_readOff_63 : jchk 112 63 kX6_readOff_63 = true := by decide +kernel
def kX6_readOff_81 : List JI := [(.iinc 4 1, 3, 4, 1, 0, 0, 0),
  (.goto (-62), 3, 22, 0, 0, 0, 0)]
theorem qX6_readOff_81 : jchk 112 81 kX6_readOff_81 = true := by decide +kernel
def kX6_readOff_87 : List JI := [(.return_, 1, 0, 0, 0, 0, 0)]
theorem qX6_readOff_87 : jchk 112 87 kX6_readOff_87 = true := by decide +kernel
def kX6_solve_0 : List JI := [(.aload_n 2, 1, 2, 0, 0, 0, 0),
  (.getfield 22, 3, 8, 0, 4, 0, 323),
  (.iload_n 3, 1, 3, 0, 0, 0, 0),
  (.iaload, 1, 0, 0, 0, 0, 0),
  (.istore 4, 2, 4, 0, 0, 0, 0),
  (.iconst 1, 1, 0, 1, 0, 0, 0),
  (.iload 4, 2, 4, 0, 0, 0, 0),
  (.ishl, 1, 0, 0, 0, 0, 0),
  (.istore 5, 2, 5, 0, 0, 0, 0),
  (.aload_n 0, 1, 0, 0, 0, 0, 0),
  (.getfield 15, 3, 6, 3, 4, 0, 356),
  (.ldc2_w 27, 3, 0, 4611686018427387904, 0, 0, 760),
  (.invokestatic 29, 3, 106, 2, 0, 0, 761),
  (.aload_n 0, 1, 0, 0, 0, 0, 0),
  (.getfield 15, 3, 6, 3, 4, 0, 356),
  (.iconst 0, 1, 0, 0, 0, 0, 0),
  (.lconst 0, 1, 0, 0, 0, 0, 0),
  (.lastore, 1, 0, 0, 0, 0, 0),
  (.iconst 0, 1, 0, 0, 0, 0, 0),
  (.istore 6, 2, 6, 0, 0, 0, 0)]
theorem qX6_solve_0 : jchk 113 0 kX6_solve_0 = true := by decide +kernel
def kX6_solve_34 : List JI := [(.iload 6, 2, 6, 0, 0, 0, 0),
  (.iload 4, 2, 4, 0, 0, 0, 0),
  (.if_icmp .ge 23, 3, 61, 0, 0, 0, 0),
  (.aload_n 0, 1, 0, 0, 0, 0, 0),
  (.getfield 15, 3, 6, 3, 4, 0, 356),
  (.iconst 0, 1, 0, 0, 0, 0, 0),
  (.dup2, 1, 0, 0, 0, 0, 0),
  (.laload, 1, 0, 0, 0, 0, 0),
  (.iload 6, 2, 6, 0, 0, 0, 0),
  (.invokestatic 35, 3, 107, 1, 0, 6, 764),
  (.ladd, 1, 0, 0, 0, 0, 0),
  (.lastore, 1, 0, 0, 0, 0, 0),
  (.iinc 6 1, 3, 6, 1, 0, 0, 0),
  (.goto (-24), 3, 34, 0, 0, 0, 0)]
theorem qX6_solve_34 : jchk 113 34 kX6_solve_34 = true := by decide +kernel
def kX6_solve_61 : List JI := [(.iconst 0, 1, 0, 0, 0, 0, 0),
  (.istore 6, 2, 6, 0, 0, 0, 0)]
theorem qX6_solve_61 : jchk 113 61 kX6_solve_61 = true := by decide +kernel
def kX6_solve_64 : List JI := [(.iload 6, 2, 6, 0, 0, 0, 0),
  (.aload_n 1, 1, 1, 0, 0, 0, 0),
  (.getfield 39, 3, 3, 0, 1, 0, 284),
  (.if_icmp .ge 33, 3, 103, 0, 0, 0, 0),
  (.aload_n 1, 1, 1, 0, 0, 0, 0),
  (.iload 6, 2, 6, 0, 0, 0, 0),
  (.invokevirtual 45, 3, 84, 1, 0, 3, 771),
  (.ifCond .eq 18, 3, 97, 0, 0, 0, 0),
  (.aload_n 0, 1, 0, 0, 0, 0, 0),
  (.aload_n 0, 1, 0, 0, 0, 0, 0),
  (.aload_n 1, 1, 1, 0, 0, 0, 0),
  (.iload 6, 2, 6, 0, 0, 0, 0),
  (.aload_n 2, 1, 2, 0, 0, 0, 0),
  (.iload_n 3, 1, 3, 0, 0, 0, 0),
  (.invokevirtual 49, 3, 109, 4, 0, 6, 772),
  (.iload 5, 2, 5, 0, 0, 0, 0),
  (.invokevirtual 53, 3, 111, 2, 0, 6, 780)]
theorem qX6_solve_64 : jchk 113 64 kX6_solve_64 = true := by decide +kernel
def kX6_solve_97 : List JI := [(.iinc 6 1, 3, 6, 1, 0, 0, 0),
  (.goto (-36), 3, 64, 0, 0, 0, 0)]
theorem qX6_solve_97 : jchk 113 97 kX6_solve_97 = true := by decide +kernel
def kX6_solve_103 : List JI := [(.aload_n 0, 1, 0, 0, 0, 0, 0),
  (.getfield 15, 3, 6, 3, 4, 0, 356),
  (.iconst 0, 1, 0, 0, 0, 0, 0),
  (.laload, 1, 0, 0, 0, 0, 0),
  (.lstore 6, 2, 6, 0, 0, 0, 0),
  (.iconst 1, 1, 0, 1, 0, 0, 0),
  (.istore 8, 2, 8, 0, 0, 0, 0)]
theorem qX6_solve_103 : jchk 113 103 kX6_solve_103 = true := by decide +kernel
def kX6_solve_114 : List JI := [(.iload 8, 2, 8, 0, 0, 0, 0),
  (.iload 5, 2, 5, 0, 0, 0, 0),
  (.if_icmp .ge 23, 3, 141, 0, 0, 0, 0),
  (.lload 6, 2, 6, 0, 0, 0, 0),
  (.aload_n 0, 1, 0, 0, 0, 0, 0),
  (.getfield 15, 3, 6, 3, 4, 0, 356),
  (.iload 8, 2, 8, 0, 0, 0, 0),
  (.laload, 1, 0, 0, 0, 0, 0),
  (.invokestatic 57, 3, 997, 3, 0, 0, 784),
  (.lstore 6, 2, 6, 0, 0, 0, 0),
  (.iinc 8 1, 3, 8, 1, 0, 0, 0),
  (.goto (-24), 3, 114, 0, 0, 0, 0)]
theorem qX6_solve_114 : jchk 113 114 kX6_solve_114 = true := by decide +kernel
def kX6_solve_141 : List JI := [(.aload_n 0, 1, 0, 0, 0, 0, 0),
  (.lload 6, 2, 6, 0, 0, 0, 0),
  (.iload 4, 2, 4, 0, 0, 0, 0),
  (.invokevirtual 63, 3, 112, 2, 0, 6, 787),
  (.return_, 1, 0, 0, 0, 0, 0)]
theorem qX6_solve_141 : jchk 113 141 kX6_solve_141 = true := by decide +kernel
def kX11_match_0 : List JI := [(.iload_n 1, 1, 1, 0, 0, 0, 0),
  (.iconst 3, 1, 0, 3, 0, 0, 0),
  (.invokestatic 85, 3, 14, 2, 0, 11, 513),
  (.ifCond .ne 7, 3, 12, 0, 0, 0, 0),
  (.iconst (-1), 1, 0, -1, 0, 0, 0),
  (.goto 27, 3, 36, 0, 0, 0, 0)]
theorem qX11_match_0 : jchk 114 0 kX11_match_0 = true := by decide +kernel
def kX11_match_12 : List JI := [(.iload_n 2, 1, 2, 0, 0, 0, 0),
  (.iconst 2, 1, 0, 2, 0, 0, 0),
  (.aload_n 0, 1, 0, 0, 0, 0, 0),
  (.getfield 51, 3, 11, 7, 4, 0, 479),
  (.getfield 240, 3, 8, 0, 4, 0, 324),
  (.iload_n 1, 1, 1, 0, 0, 0, 0),
  (.iaload, 1, 0, 0, 0, 0, 0),
  (.iadd, 1, 0, 0, 0, 0, 0),
  (.invokestatic 85, 3, 14, 2, 0, 11, 513),
  (.ifCond .ne 8, 3, 35, 0, 0, 0, 0),
  (.bipush (-2), 2, 0, -2, 0, 0, 0),
  (.goto 4, 3, 36, 0, 0, 0, 0)]
theorem qX11_match_12 : jchk 114 12 kX11_match_12 = true := by decide +kernel
def kX11_match_35 : List JI := [(.iconst 0, 1, 0, 0, 0, 0, 0)]
theorem qX11_match_35 : jchk 114 35 kX11_match_35 = true := by decide +kernel
def kX11_match_36 : List JI := [(.istore_n 3, 1, 3, 0, 0, 0, 0),
  (.iload_n 3, 1, 3, 0, 0, 0, 0),
  (.ifCond .eq 9, 3, 47, 0, 0, 0, 0),
  (.aload_n 0, 1, 0, 0, 0, 0, 0),
  (.iload_n 3, 1, 3, 0, 0, 0, 0),
  (.invokevirtual 93, 3, 16, 1, 0, 11, 519),
  (.ireturn, 1, 0, 0, 0, 0, 0)]
theorem qX11_match_36 : jchk 114 36 kX11_match_36 = true := by decide +kernel
def kX11_match_47 : List JI := [(.aload_n 0, 1, 0, 0, 0, 0, 0),
  (.getfield 58, 3, 11, 8, 4, 0, 480),
  (.aload_n 0, 1, 0, 0, 0, 0, 0),
  (.getfield 44, 3, 11, 6, 4, 0, 478),
  (.aload_n 0, 1, 0, 0, 0, 0, 0),
  (.getfield 51, 3, 11, 7, 4, 0, 479),
  (.iload_n 1, 1, 1, 0, 0, 0, 0),
  (.invokevirtual 247, 3, 113, 3, 0, 6, 756),
  (.iload_n 2, 1, 2, 0, 0, 0, 0),
  (.lookupswitch 44 #[(0, 28), (1, 36)], 28, 0, 0, 0, 0, 0)]
theorem qX11_match_47 : jchk 114 47 kX11_match_47 = true := by decide +kernel
def kX11_match_92 : List JI := [(.aload_n 0, 1, 0, 0, 0, 0, 0),
  (.getfield 58, 3, 11, 8, 4, 0, 480),
  (.getfield 251, 3, 6, 0, 1, 0, 351),
  (.ireturn, 1, 0, 0, 0, 0, 0)]
theorem qX11_match_92 : jchk 114 92 kX11_match_92 = true := by decide +kernel
def kX11_match_100 : List JI := [(.aload_n 0, 1, 0, 0, 0, 0, 0),
  (.getfield 58, 3, 11, 8, 4, 0, 480),
  (.getfield 254, 3, 6, 1, 1, 0, 353),
  (.ireturn, 1, 0, 0, 0, 0, 0)]
theorem qX11_match_100 : jchk 114 100 kX11_match_100 = true := by decide +kernel
def kX11_match_108 : List JI := [(.aload_n 0, 1, 0, 0, 0, 0, 0),
  (.getfield 58, 3, 11, 8, 4, 0, 480),
  (.getfield 257, 3, 6, 2, 4, 0, 355),
  (.iload_n 2, 1, 2, 0, 0, 0, 0),
  (.iconst 2, 1, 0, 2, 0, 0, 0),
  (.isub, 1, 0, 0, 0, 0, 0),
  (.iaload, 1, 0, 0, 0, 0, 0),
  (.ireturn, 1, 0, 0, 0, 0, 0)]
theorem qX11_match_108 : jchk 114 108 kX11_match_108 = true := by decide +kernel
def kX12_fits_0 : List JI := [(.aload_n 0, 1, 0, 0, 0, 0, 0),
  (.getfield 98, 3, 12, 36, 4, 0, 995),
  (.iload_n 1, 1, 1, 0, 0, 0, 0),
  (.iaload, 1, 0, 0, 0, 0, 0),
  (.aload_n 0, 1, 0, 0, 0, 0, 0),
  (.getfield 116, 3, 12, 42, 4, 0, 1001),
  (.iload_n 2, 1, 2, 0, 0, 0, 0),
  (.iaload, 1, 0, 0, 0, 0, 0),
  (.isub, 1, 0, 0, 0, 0, 0),
  (.istore_n 3, 1, 3, 0, 0, 0, 0),
  (.aload_n 0, 1, 0, 0, 0, 0, 0),
  (.getfield 104, 3, 12, 38, 4, 0, 997),
  (.iload_n 1, 1, 1, 0, 0, 0, 0),
  (.iaload, 1, 0, 0, 0, 0, 0),
  (.ifCond .ge 58, 3, 78, 0, 0, 0, 0),
  (.aload_n 0, 1, 0, 0, 0, 0, 0),
  (.getfield 95, 3, 12, 35, 4, 0, 994),
  (.iload_n 1, 1, 1, 0, 0, 0, 0),
  (.iaload, 1, 0, 0, 0, 0, 0),
  (.aload_n 0, 1, 0, 0, 0, 0, 0),
  (.getfield 113, 3, 12, 41, 4, 0, 1000),
  (.iload_n 2, 1, 2, 0, 0, 0, 0),
  (.iaload, 1, 0, 0, 0, 0, 0),
  (.if_icmp .ne 43, 3, 78, 0, 0, 0, 0),
  (.iload_n 3, 1, 3, 0, 0, 0, 0),
  (.aload_n 0, 1, 0, 0, 0, 0, 0),
  (.getfield 119, 3, 12, 43, 4, 0, 1002),
  (.iload_n 2, 1, 2, 0, 0, 0, 0),
  (.iaload, 1, 0, 0, 0, 0, 0),
  (.if_icmp .gt 33, 3, 78, 0, 0, 0, 0),
  (.iload_n 3, 1, 3, 0, 0, 0, 0),
  (.ineg, 1, 0, 0, 0, 0, 0),
  (.aload_n 0, 1, 0, 0, 0, 0, 0),
  (.getfield 119, 3, 12, 43, 4, 0, 1002),
  (.iload_n 2, 1, 2, 0, 0, 0, 0),
  (.iaload, 1, 0, 0, 0, 0, 0),
  (.if_icmp .gt 22, 3, 78, 0, 0, 0, 0),
  (.aload_n 0, 1, 0, 0, 0, 0, 0),
  (.getfield 101, 3, 12, 37, 4, 0, 996),
  (.iload_n 1, 1, 1, 0, 0, 0, 0),
  (.iaload, 1, 0, 0, 0, 0, 0),
  (.aload_n 0, 1, 0, 0, 0, 0, 0),
  (.getfield 122, 3, 12, 44, 4, 0, 1003),
  (.iload_n 2, 1, 2, 0, 0, 0, 0),
  (.iaload, 1, 0, 0, 0, 0, 0),
  (.if_icmp .lt 7, 3, 78, 0, 0, 0, 0),
  (.iconst 1, 1, 0, 1, 0, 0, 0),
  (.goto 4, 3, 79, 0, 0, 0, 0)]
theorem qX12_fits_0 : jchk 115 0 kX12_fits_0 = true := by decide +kernel
def kX12_fits_78 : List JI := [(.iconst 0, 1, 0, 0, 0, 0, 0)]
theorem qX12_fits_78 : jchk 115 78 kX12_fits_78 = true := by decide +kernel
def kX12_fits_79 : List JI := [(.ireturn, 1, 0, 0, 1, 0, 0)]
theorem qX12_fits_79 : jchk 115 79 kX12_fits_79 = true := by decide +kernel
def kX12_ones_0 : List JI := [(.iconst 0, 1, 0, 0, 0, 0, 0),
  (.istore_n 1, 1, 1, 0, 0, 0, 0),
  (.iload_n 0, 1, 0, 0, 0, 0, 0),
  (.istore_n 2, 1, 2, 0, 0, 0, 0)]
theorem qX12_ones_0 : jchk 116 0 kX12_ones_0 = true := by decide +kernel
def kX12_ones_4 : List JI := [(.iload_n 2, 1, 2, 0, 0, 0, 0),
  (.ifCond .le 16, 3, 21, 0, 0, 0, 0),
  (.iload_n 1, 1, 1, 0, 0, 0, 0),
  (.iload_n 2, 1, 2, 0, 0, 0, 0),
  (.iconst 2, 1, 0, 2, 0, 0, 0),
  (.irem, 1, 0, 0, 0, 0, 0),
  (.iadd, 1, 0, 0, 0, 0, 0),
  (.istore_n 1, 1, 1, 0, 0, 0, 0),
  (.iload_n 2, 1, 2, 0, 0, 0, 0),
  (.iconst 2, 1, 0, 2, 0, 0, 0),
  (.idiv, 1, 0, 0, 0, 0, 0),
  (.istore_n 2, 1, 2, 0, 0, 0, 0),
  (.goto (-14), 3, 4, 0, 0, 0, 0)]
theorem qX12_ones_4 : jchk 116 4 kX12_ones_4 = true := by decide +kernel
def kX12_ones_21 : List JI := [(.iload_n 1, 1, 1, 0, 0, 0, 0),
  (.ireturn, 1, 0, 0, 0, 0, 0)]
theorem qX12_ones_21 : jchk 116 21 kX12_ones_21 = true := by decide +kernel
def kX12_solve_0 : List JI := [(.iconst 0, 1, 0, 0, 0, 0, 0),
  (.istore_n 3, 1, 3, 0, 0, 0, 0)]
theorem qX12_solve_0 : jchk 117 0 kX12_solve_0 = true := by decide +kernel
def kX12_solve_2 : List JI := [(.iload_n 3, 1, 3, 0, 0, 0, 0),
  (.bipush 64, 2, 0, 64, 0, 0, 0),
  (.if_icmp .ge 25, 3, 30, 0, 0, 0, 0),
  (.aload_n 0, 1, 0, 0, 0, 0, 0),
  (.getfield 149, 3, 12, 54, 4, 0, 1013),
  (.iload_n 3, 1, 3, 0, 0, 0, 0),
  (.iload_n 3, 1, 3, 0, 0, 0, 0),
  (.ifCond .ne 7, 3, 21, 0, 0, 0, 0),
  (.iconst 0, 1, 0, 0, 0, 0, 0),
  (.goto 5, 3, 23, 0, 0, 0, 0)]
theorem qX12_solve_2 : jchk 117 2 kX12_solve_2 = true := by decide +kernel
def kX12_solve_21 : List JI := [(.ldc 167, 2, 0, 2000000000, 0, 0, 1196)]
theorem qX12_solve_21 : jchk 117 21 kX12_solve_21 = true := by decide +kernel
def kX12_solve_23 : List JI := [(.iastore, 1, 0, 0, 0, 0, 0),
  (.iinc 3 1, 3, 3, 1, 0, 0, 0),
  (.goto (-25), 3, 2, 0, 0, 0, 0)]
theorem qX12_solve_23 : jchk 117 23 kX12_solve_23 = true := by decide +kernel
def kX12_solve_30 : List JI := [(.iconst 0, 1, 0, 0, 0, 0, 0),
  (.istore_n 3, 1, 3, 0, 0, 0, 0)]
theorem qX12_solve_30 : jchk 117 30 kX12_solve_30 = true := by decide +kernel
def kX12_solve_32 : List JI := [(.iload_n 3, 1, 3, 0, 0, 0, 0),
  (.aload_n 0, 1, 0, 0, 0, 0, 0),
  (.getfield 239, 3, 12, 34, 1, 0, 993),
  (.if_icmp .ge 161, 3, 198, 0, 0, 0, 0),
  (.aload_n 0, 1, 0, 0, 0, 0, 0),
  (.getfield 143, 3, 12, 52, 4, 0, 1011),
  (.iload_n 3, 1, 3, 0, 0, 0, 0),
  (.baload, 1, 0, 0, 0, 0, 0),
  (.ifCond .eq 6, 3, 52, 0, 0, 0, 0),
  (.goto 143, 3, 192, 0, 0, 0, 0)]
theorem qX12_solve_32 : jchk 117 32 kX12_solve_32 = true := by decide +kernel
def kX12_solve_52 : List JI := [(.bipush 63, 2, 0, 63, 0, 0, 0),
  (.istore 4, 2, 4, 0, 0, 0, 0)]
theorem qX12_solve_52 : jchk 117 52 kX12_solve_52 = true := by decide +kernel
def kX12_solve_56 : List JI := [(.iload 4, 2, 4, 0, 0, 0, 0),
  (.ifCond .le 134, 3, 192, 0, 0, 0, 0),
  (.iload_n 2, 1, 2, 0, 0, 0, 0),
  (.istore 5, 2, 5, 0, 0, 0, 0)]
theorem qX12_solve_56 : jchk 117 56 kX12_solve_56 = true := by decide +kernel
def kX12_solve_64 : List JI := [(.iload 5, 2, 5, 0, 0, 0, 0),
  (.aload_n 0, 1, 0, 0, 0, 0, 0),
  (.getfield 110, 3, 12, 40, 4, 0, 999),
  (.iload_n 1, 1, 1, 0, 0, 0, 0),
  (.iaload, 1, 0, 0, 0, 0, 0),
  (.if_icmp .ge 114, 3, 186, 0, 0, 0, 0),
  (.iload 4, 2, 4, 0, 0, 0, 0),
  (.iconst 1, 1, 0, 1, 0, 0, 0),
  (.iload 5, 2, 5, 0, 0, 0, 0),
  (.ishl, 1, 0, 0, 0, 0, 0),
  (.iconst (-1), 1, 0, -1, 0, 0, 0),
  (.ixor, 1, 0, 0, 0, 0, 0),
  (.iand, 1, 0, 0, 0, 0, 0),
  (.istore 6, 2, 6, 0, 0, 0, 0),
  (.iload 6, 2, 6, 0, 0, 0, 0),
  (.iload 4, 2, 4, 0, 0, 0, 0),
  (.if_icmp .eq 90, 3, 180, 0, 0, 0, 0),
  (.aload_n 0, 1, 0, 0, 0, 0, 0),
  (.getfield 149, 3, 12, 54, 4, 0, 1013),
  (.iload 6, 2, 6, 0, 0, 0, 0),
  (.iaload, 1, 0, 0, 0, 0, 0),
  (.ldc 167, 2, 0, 2000000000, 0, 0, 1196),
  (.if_icmp .ge 78, 3, 180, 0, 0, 0, 0),
  (.aload_n 0, 1, 0, 0, 0, 0, 0),
  (.iload_n 3, 1, 3, 0, 0, 0, 0),
  (.bipush 6, 2, 0, 6, 0, 0, 0),
  (.iload_n 1, 1, 1, 0, 0, 0, 0),
  (.imul, 1, 0, 0, 0, 0, 0),
  (.iload 5, 2, 5, 0, 0, 0, 0),
  (.iadd, 1, 0, 0, 0, 0, 0),
  (.invokevirtual 242, 3, 115, 2, 0, 12, 1309),
  (.ifCond .eq 63, 3, 180, 0, 0, 0, 0),
  (.aload_n 0, 1, 0, 0, 0, 0, 0),
  (.getfield 149, 3, 12, 54, 4, 0, 1013),
  (.iload 6, 2, 6, 0, 0, 0, 0),
  (.iaload, 1, 0, 0, 0, 0, 0),
  (.aload_n 0, 1, 0, 0, 0, 0, 0),
  (.getfield 101, 3, 12, 37, 4, 0, 996),
  (.iload_n 3, 1, 3, 0, 0, 0, 0),
  (.iaload, 1, 0, 0, 0, 0, 0),
  (.iadd, 1, 0, 0, 0, 0, 0),
  (.aload_n 0, 1, 0, 0, 0, 0, 0),
  (.getfield 122, 3, 12, 44, 4, 0, 1003),
  (.bipush 6, 2, 0, 6, 0, 0, 0),
  (.iload_n 1, 1, 1, 0, 0, 0, 0),
  (.imul, 1, 0, 0, 0, 0, 0),
  (.iload 5, 2, 5, 0, 0, 0, 0),
  (.iadd, 1, 0, 0, 0, 0, 0),
  (.iaload, 1, 0, 0, 0, 0, 0),
  (.isub, 1, 0, 0, 0, 0, 0),
  (.istore 7, 2, 7, 0, 0, 0, 0),
  (.aload_n 0, 1, 0, 0, 0, 0, 0),
  (.getfield 149, 3, 12, 54, 4, 0, 1013),
  (.iload 4, 2, 4, 0, 0, 0, 0),
  (.iload 7, 2, 7, 0, 0, 0, 0),
  (.aload_n 0, 1, 0, 0, 0, 0, 0),
  (.getfield 149, 3, 12, 54, 4, 0, 1013),
  (.iload 4, 2, 4, 0, 0, 0, 0),
  (.iaload, 1, 0, 0, 0, 0, 0),
  (.if_icmp .ge 8, 3, 172, 0, 0, 0, 0),
  (.iload 7, 2, 7, 0, 0, 0, 0),
  (.goto 10, 3, 179, 0, 0, 0, 0)]
theorem qX12_solve_64 : jchk 117 64 kX12_solve_64 = true := by decide +kernel
def kX12_solve_172 : List JI := [(.aload_n 0, 1, 0, 0, 0, 0, 0),
  (.getfield 149, 3, 12, 54, 4, 0, 1013),
  (.iload 4, 2, 4, 0, 0, 0, 0),
  (.iaload, 1, 0, 0, 0, 0, 0)]
theorem qX12_solve_172 : jchk 117 172 kX12_solve_172 = true := by decide +kernel
def kX12_solve_179 : List JI := [(.iastore, 1, 0, 0, 0, 0, 0)]
theorem qX12_solve_179 : jchk 117 179 kX12_solve_179 = true := by decide +kernel
def kX12_solve_180 : List JI := [(.iinc 5 1, 3, 5, 1, 0, 0, 0),
  (.goto (-119), 3, 64, 0, 0, 0, 0)]
theorem qX12_solve_180 : jchk 117 180 kX12_solve_180 = true := by decide +kernel
def kX12_solve_186 : List JI := [(.iinc 4 (-1), 3, 4, -1, 0, 0, 0),
  (.goto (-133), 3, 56, 0, 0, 0, 0)]
theorem qX12_solve_186 : jchk 117 186 kX12_solve_186 = true := by decide +kernel
def kX12_solve_192 : List JI := [(.iinc 3 1, 3, 3, 1, 0, 0, 0),
  (.goto (-163), 3, 32, 0, 0, 0, 0)]
theorem qX12_solve_192 : jchk 117 192 kX12_solve_192 = true := by decide +kernel
def kX12_solve_198 : List JI := [(.aload_n 0, 1, 0, 0, 0, 0, 0),
  (.iconst 0, 1, 0, 0, 0, 0, 0),
  (.putfield 245, 3, 12, 55, 1, 0, 1014),
  (.aload_n 0, 1, 0, 0, 0, 0, 0),
  (.iconst 0, 1, 0, 0, 0, 0, 0),
  (.putfield 248, 3, 12, 56, 1, 0, 1015),
  (.iconst 1, 1, 0, 1, 0, 0, 0),
  (.istore_n 3, 1, 3, 0, 0, 0, 0)]
theorem qX12_solve_198 : jchk 117 198 kX12_solve_198 = true := by decide +kernel
def kX12_solve_210 : List JI := [(.iload_n 3, 1, 3, 0, 0, 0, 0),
  (.bipush 64, 2, 0, 64, 0, 0, 0),
  (.if_icmp .ge 85, 3, 298, 0, 0, 0, 0),
  (.aload_n 0, 1, 0, 0, 0, 0, 0),
  (.getfield 149, 3, 12, 54, 4, 0, 1013),
  (.iload_n 3, 1, 3, 0, 0, 0, 0),
  (.iaload, 1, 0, 0, 0, 0, 0),
  (.ldc 167, 2, 0, 2000000000, 0, 0, 1196),
  (.if_icmp .ge 7, 3, 231, 0, 0, 0, 0),
  (.iconst 1, 1, 0, 1, 0, 0, 0),
  (.goto 4, 3, 232, 0, 0, 0, 0)]
theorem qX12_solve_210 : jchk 117 210 kX12_solve_210 = true := by decide +kernel
def kX12_solve_231 : List JI := [(.iconst 0, 1, 0, 0, 0, 0, 0)]
theorem qX12_solve_231 : jchk 117 231 kX12_solve_231 = true := by decide +kernel
def kX12_solve_232 : List JI := [(.istore 4, 2, 4, 0, 0, 0, 0),
  (.iload_n 3, 1, 3, 0, 0, 0, 0),
  (.invokestatic 251, 3, 116, 1, 0, 12, 1313),
  (.istore 5, 2, 5, 0, 0, 0, 0),
  (.iload 4, 2, 4, 0, 0, 0, 0),
  (.ifCond .eq 50, 3, 292, 0, 0, 0, 0),
  (.iload 5, 2, 5, 0, 0, 0, 0),
  (.aload_n 0, 1, 0, 0, 0, 0, 0),
  (.getfield 245, 3, 12, 55, 1, 0, 1014),
  (.if_icmp .gt 25, 3, 276, 0, 0, 0, 0),
  (.iload 5, 2, 5, 0, 0, 0, 0),
  (.aload_n 0, 1, 0, 0, 0, 0, 0),
  (.getfield 245, 3, 12, 55, 1, 0, 1014),
  (.if_icmp .ne 32, 3, 292, 0, 0, 0, 0),
  (.aload_n 0, 1, 0, 0, 0, 0, 0),
  (.getfield 149, 3, 12, 54, 4, 0, 1013),
  (.iload_n 3, 1, 3, 0, 0, 0, 0),
  (.iaload, 1, 0, 0, 0, 0, 0),
  (.aload_n 0, 1, 0, 0, 0, 0, 0),
  (.getfield 248, 3, 12, 56, 1, 0, 1015),
  (.if_icmp .ge 19, 3, 292, 0, 0, 0, 0)]
theorem qX12_solve_232 : jchk 117 232 kX12_solve_232 = true := by decide +kernel
def kX12_solve_276 : List JI := [(.aload_n 0, 1, 0, 0, 0, 0, 0),
  (.iload 5, 2, 5, 0, 0, 0, 0),
  (.putfield 245, 3, 12, 55, 1, 0, 1014),
  (.aload_n 0, 1, 0, 0, 0, 0, 0),
  (.aload_n 0, 1, 0, 0, 0, 0, 0),
  (.getfield 149, 3, 12, 54, 4, 0, 1013),
  (.iload_n 3, 1, 3, 0, 0, 0, 0),
  (.iaload, 1, 0, 0, 0, 0, 0),
  (.putfield 248, 3, 12, 56, 1, 0, 1015)]
theorem qX12_solve_276 : jchk 117 276 kX12_solve_276 = true := by decide +kernel
def kX12_solve_292 : List JI := [(.iinc 3 1, 3, 3, 1, 0, 0, 0),
  (.goto (-85), 3, 210, 0, 0, 0, 0)]
theorem qX12_solve_292 : jchk 117 292 kX12_solve_292 = true := by decide +kernel
def kX12_solve_298 : List JI := [(.return_, 1, 0, 0, 0, 0, 0)]
theorem qX12_solve_298 : jchk 117 298 kX12_solve_298 = true := by decide +kernel
def kX12_findMatch_0 : List JI := [(.iconst 0, 1, 0, 0, 0, 0, 0),
  (.istore_n 2, 1, 2, 0, 0, 0, 0)]
theorem qX12_findMatch_0 : jchk 118 0 kX12_findMatch_0 = true := by decide +kernel
def kX12_findMatch_2 : List JI := [(.iload_n 2, 1, 2, 0, 0, 0, 0),
  (.bipush 40, 2, 0, 40, 0, 0, 0),
  (.if_icmp .ge 16, 3, 21, 0, 0, 0, 0),
  (.aload_n 0, 1, 0, 0, 0, 0, 0),
  (.getfield 143, 3, 12, 52, 4, 0, 1011),
  (.iload_n 2, 1, 2, 0, 0, 0, 0),
  (.iconst 0, 1, 0, 0, 0, 0, 0),
  (.bastore, 1, 0, 0, 0, 0, 0),
  (.iinc 2 1, 3, 2, 1, 0, 0, 0),
  (.goto (-16), 3, 2, 0, 0, 0, 0)]
theorem qX12_findMatch_2 : jchk 118 2 kX12_findMatch_2 = true := by decide +kernel
def kX12_findMatch_21 : List JI := [(.aload_n 0, 1, 0, 0, 0, 0, 0),
  (.iload_n 1, 1, 1, 0, 0, 0, 0),
  (.iconst 0, 1, 0, 0, 0, 0, 0),
  (.invokevirtual 254, 3, 117, 2, 0, 12, 1305),
  (.aload_n 0, 1, 0, 0, 0, 0, 0),
  (.aload_n 0, 1, 0, 0, 0, 0, 0),
  (.getfield 245, 3, 12, 55, 1, 0, 1014),
  (.putfield 257, 3, 12, 57, 1, 0, 1016),
  (.aload_n 0, 1, 0, 0, 0, 0, 0),
  (.aload_n 0, 1, 0, 0, 0, 0, 0),
  (.getfield 248, 3, 12, 56, 1, 0, 1015),
  (.putfield 260, 3, 12, 58, 1, 0, 1017),
  (.iconst 0, 1, 0, 0, 0, 0, 0),
  (.istore_n 2, 1, 2, 0, 0, 0, 0),
  (.iconst 0, 1, 0, 0, 0, 0, 0),
  (.istore_n 3, 1, 3, 0, 0, 0, 0),
  (.iconst 0, 1, 0, 0, 0, 0, 0),
  (.istore 4, 2, 4, 0, 0, 0, 0)]
theorem qX12_findMatch_21 : jchk 118 21 kX12_findMatch_21 = true := by decide +kernel
def kX12_findMatch_50 : List JI := [(.iload 4, 2, 4, 0, 0, 0, 0),
  (.bipush 6, 2, 0, 6, 0, 0, 0),
  (.if_icmp .ge 181, 3, 235, 0, 0, 0, 0),
  (.aload_n 0, 1, 0, 0, 0, 0, 0),
  (.getfield 146, 3, 12, 53, 4, 0, 1012),
  (.iload 4, 2, 4, 0, 0, 0, 0),
  (.bipush (-9), 2, 0, -9, 0, 0, 0),
  (.iastore, 1, 0, 0, 0, 0, 0),
  (.iconst 0, 1, 0, 0, 0, 0, 0),
  (.istore 5, 2, 5, 0, 0, 0, 0)]
theorem qX12_findMatch_50 : jchk 118 50 kX12_findMatch_50 = true := by decide +kernel
def kX12_findMatch_69 : List JI := [(.iload 5, 2, 5, 0, 0, 0, 0),
  (.aload_n 0, 1, 0, 0, 0, 0, 0),
  (.getfield 239, 3, 12, 34, 1, 0, 993),
  (.if_icmp .ge 154, 3, 229, 0, 0, 0, 0),
  (.iload 4, 2, 4, 0, 0, 0, 0),
  (.aload_n 0, 1, 0, 0, 0, 0, 0),
  (.getfield 110, 3, 12, 40, 4, 0, 999),
  (.iload_n 1, 1, 1, 0, 0, 0, 0),
  (.iaload, 1, 0, 0, 0, 0, 0),
  (.if_icmp .ge 143, 3, 229, 0, 0, 0, 0),
  (.aload_n 0, 1, 0, 0, 0, 0, 0),
  (.getfield 146, 3, 12, 53, 4, 0, 1012),
  (.iload 4, 2, 4, 0, 0, 0, 0),
  (.iaload, 1, 0, 0, 0, 0, 0),
  (.ifCond .ge 133, 3, 229, 0, 0, 0, 0),
  (.aload_n 0, 1, 0, 0, 0, 0, 0),
  (.getfield 143, 3, 12, 52, 4, 0, 1011),
  (.iload 5, 2, 5, 0, 0, 0, 0),
  (.baload, 1, 0, 0, 0, 0, 0),
  (.ifCond .ne 117, 3, 223, 0, 0, 0, 0),
  (.aload_n 0, 1, 0, 0, 0, 0, 0),
  (.iload 5, 2, 5, 0, 0, 0, 0),
  (.bipush 6, 2, 0, 6, 0, 0, 0),
  (.iload_n 1, 1, 1, 0, 0, 0, 0),
  (.imul, 1, 0, 0, 0, 0, 0),
  (.iload 4, 2, 4, 0, 0, 0, 0),
  (.iadd, 1, 0, 0, 0, 0, 0),
  (.invokevirtual 242, 3, 115, 2, 0, 12, 1309),
  (.ifCond .eq 101, 3, 223, 0, 0, 0, 0),
  (.aload_n 0, 1, 0, 0, 0, 0, 0),
  (.getfield 101, 3, 12, 37, 4, 0, 996),
  (.iload 5, 2, 5, 0, 0, 0, 0),
  (.iaload, 1, 0, 0, 0, 0, 0),
  (.aload_n 0, 1, 0, 0, 0, 0, 0),
  (.getfield 122, 3, 12, 44, 4, 0, 1003),
  (.bipush 6, 2, 0, 6, 0, 0, 0),
  (.iload_n 1, 1, 1, 0, 0, 0, 0),
  (.imul, 1, 0, 0, 0, 0, 0),
  (.iload 4, 2, 4, 0, 0, 0, 0),
  (.iadd, 1, 0, 0, 0, 0, 0),
  (.iaload, 1, 0, 0, 0, 0, 0),
  (.isub, 1, 0, 0, 0, 0, 0),
  (.istore 6, 2, 6, 0, 0, 0, 0),
  (.aload_n 0, 1, 0, 0, 0, 0, 0),
  (.getfield 143, 3, 12, 52, 4, 0, 1011),
  (.iload 5, 2, 5, 0, 0, 0, 0),
  (.iconst 1, 1, 0, 1, 0, 0, 0),
  (.bastore, 1, 0, 0, 0, 0, 0),
  (.aload_n 0, 1, 0, 0, 0, 0, 0),
  (.iload_n 1, 1, 1, 0, 0, 0, 0),
  (.iload 4, 2, 4, 0, 0, 0, 0),
  (.iconst 1, 1, 0, 1, 0, 0, 0),
  (.iadd, 1, 0, 0, 0, 0, 0),
  (.invokevirtual 254, 3, 117, 2, 0, 12, 1305),
  (.iload_n 2, 1, 2, 0, 0, 0, 0),
  (.iconst 1, 1, 0, 1, 0, 0, 0),
  (.iadd, 1, 0, 0, 0, 0, 0),
  (.aload_n 0, 1, 0, 0, 0, 0, 0),
  (.getfield 245, 3, 12, 55, 1, 0, 1014),
  (.iadd, 1, 0, 0, 0, 0, 0),
  (.aload_n 0, 1, 0, 0, 0, 0, 0),
  (.getfield 257, 3, 12, 57, 1, 0, 1016),
  (.if_icmp .ne 39, 3, 215, 0, 0, 0, 0),
  (.iload_n 3, 1, 3, 0, 0, 0, 0),
  (.iload 6, 2, 6, 0, 0, 0, 0),
  (.iadd, 1, 0, 0, 0, 0, 0),
  (.aload_n 0, 1, 0, 0, 0, 0, 0),
  (.getfield 248, 3, 12, 56, 1, 0, 1015),
  (.iadd, 1, 0, 0, 0, 0, 0),
  (.aload_n 0, 1, 0, 0, 0, 0, 0),
  (.getfield 260, 3, 12, 58, 1, 0, 1017),
  (.if_icmp .ne 23, 3, 215, 0, 0, 0, 0),
  (.aload_n 0, 1, 0, 0, 0, 0, 0),
  (.getfield 146, 3, 12, 53, 4, 0, 1012),
  (.iload 4, 2, 4, 0, 0, 0, 0),
  (.iload 5, 2, 5, 0, 0, 0, 0),
  (.iastore, 1, 0, 0, 0, 0, 0),
  (.iinc 2 1, 3, 2, 1, 0, 0, 0),
  (.iload_n 3, 1, 3, 0, 0, 0, 0),
  (.iload 6, 2, 6, 0, 0, 0, 0),
  (.iadd, 1, 0, 0, 0, 0, 0),
  (.istore_n 3, 1, 3, 0, 0, 0, 0),
  (.goto 11, 3, 223, 0, 0, 0, 0)]
theorem qX12_findMatch_69 : jchk 118 69 kX12_findMatch_69 = true := by decide +kernel
def kX12_findMatch_215 : List JI := [(.aload_n 0, 1, 0, 0, 0, 0, 0),
  (.getfield 143, 3, 12, 52, 4, 0, 1011),
  (.iload 5, 2, 5, 0, 0, 0, 0),
  (.iconst 0, 1, 0, 0, 0, 0, 0),
  (.bastore, 1, 0, 0, 0, 0, 0)]
theorem qX12_findMatch_215 : jchk 118 215 kX12_findMatch_215 = true := by decide +kernel
def kX12_findMatch_223 : List JI := [(.iinc 5 1, 3, 5, 1, 0, 0, 0),
  (.goto (-157), 3, 69, 0, 0, 0, 0)]
theorem qX12_findMatch_223 : jchk 118 223 kX12_findMatch_223 = true := by decide +kernel
def kX12_findMatch_229 : List JI := [(.iinc 4 1, 3, 4, 1, 0, 0, 0),
  (.goto (-182), 3, 50, 0, 0, 0, 0)]
theorem qX12_findMatch_229 : jchk 118 229 kX12_findMatch_229 = true := by decide +kernel
def kX12_findMatch_235 : List JI := [(.return_, 1, 0, 0, 0, 0, 0)]
theorem qX12_findMatch_235 : jchk 118 235 kX12_findMatch_235 = true := by decide +kernel
def kX12_match_0 : List JI := [(.iload_n 1, 1, 1, 0, 0, 0, 0),
  (.iconst 0, 1, 0, 0, 0, 0, 0),
  (.iconst 2, 1, 0, 2, 0, 0, 0),
  (.invokestatic 168, 3, 19, 3, 0, 12, 1160),
  (.ifCond .ne 9, 3, 15, 0, 0, 0, 0),
  (.aload_n 0, 1, 0, 0, 0, 0, 0),
  (.iconst (-1), 1, 0, -1, 0, 0, 0),
  (.invokevirtual 172, 3, 20, 1, 0, 12, 1163),
  (.ireturn, 1, 0, 0, 0, 0, 0)]
theorem qX12_match_0 : jchk 119 0 kX12_match_0 = true := by decide +kernel
def kX12_match_15 : List JI := [(.iload_n 2, 1, 2, 0, 0, 0, 0),
  (.iconst 0, 1, 0, 0, 0, 0, 0),
  (.iconst 1, 1, 0, 1, 0, 0, 0),
  (.aload_n 0, 1, 0, 0, 0, 0, 0),
  (.getfield 110, 3, 12, 40, 4, 0, 999),
  (.iload_n 1, 1, 1, 0, 0, 0, 0),
  (.iaload, 1, 0, 0, 0, 0, 0),
  (.iadd, 1, 0, 0, 0, 0, 0),
  (.invokestatic 168, 3, 19, 3, 0, 12, 1160),
  (.ifCond .ne 10, 3, 38, 0, 0, 0, 0),
  (.aload_n 0, 1, 0, 0, 0, 0, 0),
  (.bipush (-2), 2, 0, -2, 0, 0, 0),
  (.invokevirtual 172, 3, 20, 1, 0, 12, 1163),
  (.ireturn, 1, 0, 0, 0, 0, 0)]
theorem qX12_match_15 : jchk 119 15 kX12_match_15 = true := by decide +kernel
def kX12_match_38 : List JI := [(.aload_n 0, 1, 0, 0, 0, 0, 0),
  (.iload_n 1, 1, 1, 0, 0, 0, 0),
  (.invokevirtual 263, 3, 118, 1, 0, 12, 1301),
  (.iload_n 2, 1, 2, 0, 0, 0, 0),
  (.ifCond .ne 10, 3, 54, 0, 0, 0, 0),
  (.aload_n 0, 1, 0, 0, 0, 0, 0),
  (.getfield 257, 3, 12, 57, 1, 0, 1016),
  (.goto 23, 3, 74, 0, 0, 0, 0)]
theorem qX12_match_38 : jchk 119 38 kX12_match_38 = true := by decide +kernel
def kX12_match_54 : List JI := [(.iload_n 2, 1, 2, 0, 0, 0, 0),
  (.iconst 1, 1, 0, 1, 0, 0, 0),
  (.if_icmp .ne 10, 3, 66, 0, 0, 0, 0),
  (.aload_n 0, 1, 0, 0, 0, 0, 0),
  (.getfield 260, 3, 12, 58, 1, 0, 1017),
  (.goto 11, 3, 74, 0, 0, 0, 0)]
theorem qX12_match_54 : jchk 119 54 kX12_match_54 = true := by decide +kernel
def kX12_match_66 : List JI := [(.aload_n 0, 1, 0, 0, 0, 0, 0),
  (.getfield 146, 3, 12, 53, 4, 0, 1012),
  (.iload_n 2, 1, 2, 0, 0, 0, 0),
  (.iconst 2, 1, 0, 2, 0, 0, 0),
  (.isub, 1, 0, 0, 0, 0, 0),
  (.iaload, 1, 0, 0, 0, 0, 0)]
theorem qX12_match_66 : jchk 119 66 kX12_match_66 = true := by decide +kernel
def kX12_match_74 : List JI := [(.ireturn, 1, 0, 0, 0, 0, 0)]
theorem qX12_match_74 : jchk 119 74 kX12_match_74 = true := by decide +kernel
def kX3_fellFor_0 : List JI := [(.aload_n 0, 1, 0, 0, 0, 0, 0),
  (.getfield 21, 3, 3, 4, 4, 0, 295),
  (.iload_n 1, 1, 1, 0, 0, 0, 0),
  (.iload_n 2, 1, 2, 0, 0, 0, 0),
  (.iastore, 1, 0, 0, 0, 0, 0),
  (.aload_n 0, 1, 0, 0, 0, 0, 0),
  (.getfield 24, 3, 3, 5, 4, 0, 297),
  (.iload_n 1, 1, 1, 0, 0, 0, 0),
  (.iload_n 3, 1, 3, 0, 0, 0, 0),
  (.iastore, 1, 0, 0, 0, 0, 0),
  (.return_, 1, 0, 0, 0, 0, 0)]
theorem qX3_fellFor_0 : jchk 120 0 kX3_fellFor_0 = true := by decide +kernel
def kX11_fell_0 : List JI := [(.aload_n 0, 1, 0, 0, 0, 0, 0),
  (.iload_n 1, 1, 1, 0, 0, 0, 0),
  (.invokevirtual 188, 3, 60, 1, 0, 11, 635),
  (.ifCond .ne 7, 3, 12, 0, 0, 0, 0),
  (.iconst (-1), 1, 0, -1, 0, 0, 0),
  (.goto 39, 3, 48, 0, 0, 0, 0)]
theorem qX11_fell_0 : jchk 121 0 kX11_fell_0 = true := by decide +kernel
def kX11_fell_12 : List JI := [(.aload_n 0, 1, 0, 0, 0, 0, 0),
  (.getfield 37, 3, 11, 5, 4, 0, 477),
  (.getfield 191, 3, 10, 3, 4, 0, 235),
  (.iload_n 1, 1, 1, 0, 0, 0, 0),
  (.aaload, 1, 0, 0, 0, 0, 0),
  (.invokevirtual 195, 3, 61, 0, 0, 4, 639),
  (.ifCond .eq 18, 3, 42, 0, 0, 0, 0),
  (.aload_n 0, 1, 0, 0, 0, 0, 0),
  (.getfield 37, 3, 11, 5, 4, 0, 477),
  (.getfield 191, 3, 10, 3, 4, 0, 235),
  (.iload_n 1, 1, 1, 0, 0, 0, 0),
  (.aaload, 1, 0, 0, 0, 0, 0),
  (.getfield 260, 3, 4, 10, 3, 0, 195),
  (.ifCond .eq 8, 3, 47, 0, 0, 0, 0)]
theorem qX11_fell_12 : jchk 121 12 kX11_fell_12 = true := by decide +kernel
def kX11_fell_42 : List JI := [(.bipush (-3), 2, 0, -3, 0, 0, 0),
  (.goto 4, 3, 48, 0, 0, 0, 0)]
theorem qX11_fell_42 : jchk 121 42 kX11_fell_42 = true := by decide +kernel
def kX11_fell_47 : List JI := [(.iconst 0, 1, 0, 0, 0, 0, 0)]
theorem qX11_fell_47 : jchk 121 47 kX11_fell_47 = true := by decide +kernel
def kX11_fell_48 : List JI := [(.istore_n 2, 1, 2, 0, 0, 0, 0),
  (.iload_n 2, 1, 2, 0, 0, 0, 0),
  (.ifCond .eq 9, 3, 59, 0, 0, 0, 0),
  (.aload_n 0, 1, 0, 0, 0, 0, 0),
  (.iload_n 2, 1, 2, 0, 0, 0, 0),
  (.invokevirtual 93, 3, 16, 1, 0, 11, 519),
  (.ireturn, 1, 0, 0, 0, 0, 0)]
theorem qX11_fell_48 : jchk 121 48 kX11_fell_48 = true := by decide +kernel
def kX11_fell_59 : List JI := [(.aload_n 0, 1, 0, 0, 0, 0, 0),
  (.getfield 37, 3, 11, 5, 4, 0, 477),
  (.getfield 191, 3, 10, 3, 4, 0, 235),
  (.iload_n 1, 1, 1, 0, 0, 0, 0),
  (.aaload, 1, 0, 0, 0, 0, 0),
  (.iconst 1, 1, 0, 1, 0, 0, 0),
  (.putfield 260, 3, 4, 10, 3, 0, 195),
  (.aload_n 0, 1, 0, 0, 0, 0, 0),
  (.getfield 37, 3, 11, 5, 4, 0, 477),
  (.getfield 191, 3, 10, 3, 4, 0, 235),
  (.iload_n 1, 1, 1, 0, 0, 0, 0),
  (.aaload, 1, 0, 0, 0, 0, 0),
  (.getfield 264, 3, 4, 0, 1, 0, 164),
  (.istore_n 3, 1, 3, 0, 0, 0, 0),
  (.aload_n 0, 1, 0, 0, 0, 0, 0),
  (.getfield 58, 3, 11, 8, 4, 0, 480),
  (.aload_n 0, 1, 0, 0, 0, 0, 0),
  (.getfield 44, 3, 11, 6, 4, 0, 478),
  (.aload_n 0, 1, 0, 0, 0, 0, 0),
  (.getfield 51, 3, 11, 7, 4, 0, 479),
  (.iload_n 3, 1, 3, 0, 0, 0, 0),
  (.invokevirtual 247, 3, 113, 3, 0, 6, 756),
  (.iconst 0, 1, 0, 0, 0, 0, 0),
  (.istore 4, 2, 4, 0, 0, 0, 0)]
theorem qX11_fell_59 : jchk 121 59 kX11_fell_59 = true := by decide +kernel
def kX11_fell_104 : List JI := [(.iload 4, 2, 4, 0, 0, 0, 0),
  (.aload_n 0, 1, 0, 0, 0, 0, 0),
  (.getfield 51, 3, 11, 7, 4, 0, 479),
  (.getfield 240, 3, 8, 0, 4, 0, 324),
  (.iload_n 3, 1, 3, 0, 0, 0, 0),
  (.iaload, 1, 0, 0, 0, 0, 0),
  (.if_icmp .ge 44, 3, 159, 0, 0, 0, 0),
  (.aload_n 0, 1, 0, 0, 0, 0, 0),
  (.getfield 58, 3, 11, 8, 4, 0, 480),
  (.getfield 257, 3, 6, 2, 4, 0, 355),
  (.iload 4, 2, 4, 0, 0, 0, 0),
  (.iaload, 1, 0, 0, 0, 0, 0),
  (.bipush (-9), 2, 0, -9, 0, 0, 0),
  (.if_icmp .eq 23, 3, 153, 0, 0, 0, 0),
  (.aload_n 0, 1, 0, 0, 0, 0, 0),
  (.getfield 44, 3, 11, 6, 4, 0, 478),
  (.aload_n 0, 1, 0, 0, 0, 0, 0),
  (.getfield 58, 3, 11, 8, 4, 0, 480),
  (.getfield 257, 3, 6, 2, 4, 0, 355),
  (.iload 4, 2, 4, 0, 0, 0, 0),
  (.iaload, 1, 0, 0, 0, 0, 0),
  (.iload_n 1, 1, 1, 0, 0, 0, 0),
  (.iload 4, 2, 4, 0, 0, 0, 0),
  (.invokevirtual 267, 3, 120, 3, 0, 3, 797)]
theorem qX11_fell_104 : jchk 121 104 kX11_fell_104 = true := by decide +kernel
def kX11_fell_153 : List JI := [(.iinc 4 1, 3, 4, 1, 0, 0, 0),
  (.goto (-52), 3, 104, 0, 0, 0, 0)]
theorem qX11_fell_153 : jchk 121 153 kX11_fell_153 = true := by decide +kernel
def kX11_fell_159 : List JI := [(.aload_n 0, 1, 0, 0, 0, 0, 0),
  (.getfield 58, 3, 11, 8, 4, 0, 480),
  (.getfield 251, 3, 6, 0, 1, 0, 351),
  (.ireturn, 1, 0, 0, 0, 0, 0)]
theorem qX11_fell_159 : jchk 121 159 kX11_fell_159 = true := by decide +kernel
def kX12_fell_0 : List JI := [(.aload_n 0, 1, 0, 0, 0, 0, 0),
  (.iload_n 1, 1, 1, 0, 0, 0, 0),
  (.invokevirtual 198, 3, 63, 1, 0, 12, 1233),
  (.ifCond .ne 9, 3, 14, 0, 0, 0, 0),
  (.aload_n 0, 1, 0, 0, 0, 0, 0),
  (.iconst (-1), 1, 0, -1, 0, 0, 0),
  (.invokevirtual 172, 3, 20, 1, 0, 12, 1163),
  (.ireturn, 1, 0, 0, 0, 0, 0)]
theorem qX12_fell_0 : jchk 122 0 kX12_fell_0 = true := by decide +kernel
def kX12_fell_14 : List JI := [(.aload_n 0, 1, 0, 0, 0, 0, 0),
  (.getfield 55, 3, 12, 18, 4, 0, 977),
  (.iload_n 1, 1, 1, 0, 0, 0, 0),
  (.iaload, 1, 0, 0, 0, 0, 0),
  (.iconst 1, 1, 0, 1, 0, 0, 0),
  (.if_icmp .gt 12, 3, 33, 0, 0, 0, 0),
  (.aload_n 0, 1, 0, 0, 0, 0, 0),
  (.getfield 83, 3, 12, 27, 4, 0, 986),
  (.iload_n 1, 1, 1, 0, 0, 0, 0),
  (.baload, 1, 0, 0, 0, 0, 0),
  (.ifCond .eq 10, 3, 40, 0, 0, 0, 0)]
theorem qX12_fell_14 : jchk 122 14 kX12_fell_14 = true := by decide +kernel
def kX12_fell_33 : List JI := [(.aload_n 0, 1, 0, 0, 0, 0, 0),
  (.bipush (-3), 2, 0, -3, 0, 0, 0),
  (.invokevirtual 172, 3, 20, 1, 0, 12, 1163),
  (.ireturn, 1, 0, 0, 0, 0, 0)]
theorem qX12_fell_33 : jchk 122 33 kX12_fell_33 = true := by decide +kernel
def kX12_fell_40 : List JI := [(.aload_n 0, 1, 0, 0, 0, 0, 0),
  (.aload_n 0, 1, 0, 0, 0, 0, 0),
  (.getfield 46, 3, 12, 15, 4, 0, 974),
  (.iload_n 1, 1, 1, 0, 0, 0, 0),
  (.iaload, 1, 0, 0, 0, 0, 0),
  (.invokevirtual 263, 3, 118, 1, 0, 12, 1301),
  (.aload_n 0, 1, 0, 0, 0, 0, 0),
  (.getfield 83, 3, 12, 27, 4, 0, 986),
  (.iload_n 1, 1, 1, 0, 0, 0, 0),
  (.iconst 1, 1, 0, 1, 0, 0, 0),
  (.bastore, 1, 0, 0, 0, 0, 0),
  (.iconst 0, 1, 0, 0, 0, 0, 0),
  (.istore_n 2, 1, 2, 0, 0, 0, 0)]
theorem qX12_fell_40 : jchk 122 40 kX12_fell_40 = true := by decide +kernel
def kX12_fell_59 : List JI := [(.iload_n 2, 1, 2, 0, 0, 0, 0),
  (.bipush 6, 2, 0, 6, 0, 0, 0),
  (.if_icmp .ge 42, 3, 104, 0, 0, 0, 0),
  (.aload_n 0, 1, 0, 0, 0, 0, 0),
  (.getfield 146, 3, 12, 53, 4, 0, 1012),
  (.iload_n 2, 1, 2, 0, 0, 0, 0),
  (.iaload, 1, 0, 0, 0, 0, 0),
  (.ifCond .lt 27, 3, 98, 0, 0, 0, 0),
  (.aload_n 0, 1, 0, 0, 0, 0, 0),
  (.getfield 104, 3, 12, 38, 4, 0, 997),
  (.aload_n 0, 1, 0, 0, 0, 0, 0),
  (.getfield 146, 3, 12, 53, 4, 0, 1012),
  (.iload_n 2, 1, 2, 0, 0, 0, 0),
  (.iaload, 1, 0, 0, 0, 0, 0),
  (.iload_n 1, 1, 1, 0, 0, 0, 0),
  (.iastore, 1, 0, 0, 0, 0, 0),
  (.aload_n 0, 1, 0, 0, 0, 0, 0),
  (.getfield 107, 3, 12, 39, 4, 0, 998),
  (.aload_n 0, 1, 0, 0, 0, 0, 0),
  (.getfield 146, 3, 12, 53, 4, 0, 1012),
  (.iload_n 2, 1, 2, 0, 0, 0, 0),
  (.iaload, 1, 0, 0, 0, 0, 0),
  (.iload_n 2, 1, 2, 0, 0, 0, 0),
  (.iastore, 1, 0, 0, 0, 0, 0)]
theorem qX12_fell_59 : jchk 122 59 kX12_fell_59 = true := by decide +kernel
def kX12_fell_98 : List JI := [(.iinc 2 1, 3, 2, 1, 0, 0, 0),
  (.goto (-42), 3, 59, 0, 0, 0, 0)]
theorem qX12_fell_98 : jchk 122 98 kX12_fell_98 = true := by decide +kernel
def kX12_fell_104 : List JI := [(.aload_n 0, 1, 0, 0, 0, 0, 0),
  (.getfield 257, 3, 12, 57, 1, 0, 1016),
  (.ireturn, 1, 0, 0, 0, 0, 0)]
theorem qX12_fell_104 : jchk 122 104 kX12_fell_104 = true := by decide +kernel
def kX3_felledFor_0 : List JI := [(.iconst 0, 1, 0, 0, 0, 0, 0),
  (.istore_n 3, 1, 3, 0, 0, 0, 0)]
theorem qX3_felledFor_0 : jchk 123 0 kX3_felledFor_0 = true := by decide +kernel
def kX3_felledFor_2 : List JI := [(.iload_n 3, 1, 3, 0, 0, 0, 0),
  (.aload_n 0, 1, 0, 0, 0, 0, 0),
  (.getfield 30, 3, 3, 0, 1, 0, 283),
  (.if_icmp .ge 31, 3, 38, 0, 0, 0, 0),
  (.aload_n 0, 1, 0, 0, 0, 0, 0),
  (.getfield 21, 3, 3, 4, 4, 0, 295),
  (.iload_n 3, 1, 3, 0, 0, 0, 0),
  (.iaload, 1, 0, 0, 0, 0, 0),
  (.iload_n 1, 1, 1, 0, 0, 0, 0),
  (.if_icmp .ne 15, 3, 32, 0, 0, 0, 0),
  (.aload_n 0, 1, 0, 0, 0, 0, 0),
  (.getfield 24, 3, 3, 5, 4, 0, 297),
  (.iload_n 3, 1, 3, 0, 0, 0, 0),
  (.iaload, 1, 0, 0, 0, 0, 0),
  (.iload_n 2, 1, 2, 0, 0, 0, 0),
  (.if_icmp .ne 5, 3, 32, 0, 0, 0, 0),
  (.iload_n 3, 1, 3, 0, 0, 0, 0),
  (.ireturn, 1, 0, 0, 0, 0, 0)]
theorem qX3_felledFor_2 : jchk 123 2 kX3_felledFor_2 = true := by decide +kernel
def kX3_felledFor_32 : List JI := [(.iinc 3 1, 3, 3, 1, 0, 0, 0),
  (.goto (-33), 3, 2, 0, 0, 0, 0)]
theorem qX3_felledFor_32 : jchk 123 32 kX3_felledFor_32 = true := by decide +kernel
def kX3_felledFor_38 : List JI := [(.bipush (-9), 2, 0, -9, 0, 0, 0),
  (.ireturn, 1, 0, 0, 0, 0, 0)]
theorem qX3_felledFor_38 : jchk 123 38 kX3_felledFor_38 = true := by decide +kernel
def kX11_treeFor_0 : List JI := [(.aload_n 0, 1, 0, 0, 0, 0, 0),
  (.iload_n 1, 1, 1, 0, 0, 0, 0),
  (.invokevirtual 188, 3, 60, 1, 0, 11, 635),
  (.ifCond .ne 7, 3, 12, 0, 0, 0, 0),
  (.iconst (-1), 1, 0, -1, 0, 0, 0),
  (.goto 9, 3, 18, 0, 0, 0, 0)]
theorem qX11_treeFor_0 : jchk 124 0 kX11_treeFor_0 = true := by decide +kernel
def kX11_treeFor_12 : List JI := [(.iload_n 2, 1, 2, 0, 0, 0, 0),
  (.iconst 0, 1, 0, 0, 0, 0, 0),
  (.iconst 5, 1, 0, 5, 0, 0, 0),
  (.invokestatic 89, 3, 15, 3, 0, 11, 516)]
theorem qX11_treeFor_12 : jchk 124 12 kX11_treeFor_12 = true := by decide +kernel
def kX11_treeFor_18 : List JI := [(.istore_n 3, 1, 3, 0, 0, 0, 0),
  (.iload_n 3, 1, 3, 0, 0, 0, 0),
  (.ifCond .eq 11, 3, 31, 0, 0, 0, 0),
  (.aload_n 0, 1, 0, 0, 0, 0, 0),
  (.iload_n 3, 1, 3, 0, 0, 0, 0),
  (.invokevirtual 93, 3, 16, 1, 0, 11, 519),
  (.goto 12, 3, 40, 0, 0, 0, 0)]
theorem qX11_treeFor_18 : jchk 124 18 kX11_treeFor_18 = true := by decide +kernel
def kX11_treeFor_31 : List JI := [(.aload_n 0, 1, 0, 0, 0, 0, 0),
  (.getfield 44, 3, 11, 6, 4, 0, 478),
  (.iload_n 1, 1, 1, 0, 0, 0, 0),
  (.iload_n 2, 1, 2, 0, 0, 0, 0),
  (.invokevirtual 270, 3, 123, 2, 0, 3, 805)]
theorem qX11_treeFor_31 : jchk 124 31 kX11_treeFor_31 = true := by decide +kernel
def kX11_treeFor_40 : List JI := [(.ireturn, 1, 0, 0, 0, 0, 0)]
theorem qX11_treeFor_40 : jchk 124 40 kX11_treeFor_40 = true := by decide +kernel
def kX12_treeFor_0 : List JI := [(.aload_n 0, 1, 0, 0, 0, 0, 0),
  (.iload_n 1, 1, 1, 0, 0, 0, 0),
  (.invokevirtual 198, 3, 63, 1, 0, 12, 1233),
  (.ifCond .ne 9, 3, 14, 0, 0, 0, 0),
  (.aload_n 0, 1, 0, 0, 0, 0, 0),
  (.iconst (-1), 1, 0, -1, 0, 0, 0),
  (.invokevirtual 172, 3, 20, 1, 0, 12, 1163),
  (.ireturn, 1, 0, 0, 0, 0, 0)]
theorem qX12_treeFor_0 : jchk 125 0 kX12_treeFor_0 = true := by decide +kernel
def kX12_treeFor_14 : List JI := [(.iload_n 2, 1, 2, 0, 0, 0, 0),
  (.ifCond .ge 10, 3, 25, 0, 0, 0, 0),
  (.aload_n 0, 1, 0, 0, 0, 0, 0),
  (.bipush (-4), 2, 0, -4, 0, 0, 0),
  (.invokevirtual 172, 3, 20, 1, 0, 12, 1163),
  (.ireturn, 1, 0, 0, 0, 0, 0)]
theorem qX12_treeFor_14 : jchk 125 14 kX12_treeFor_14 = true := by decide +kernel
def kX12_treeFor_25 : List JI := [(.iload_n 2, 1, 2, 0, 0, 0, 0),
  (.iconst 5, 1, 0, 5, 0, 0, 0),
  (.if_icmp .le 10, 3, 37, 0, 0, 0, 0),
  (.aload_n 0, 1, 0, 0, 0, 0, 0),
  (.bipush (-6), 2, 0, -6, 0, 0, 0),
  (.invokevirtual 172, 3, 20, 1, 0, 12, 1163),
  (.ireturn, 1, 0, 0, 0, 0, 0)]
theorem qX12_treeFor_25 : jchk 125 25 kX12_treeFor_25 = true := by decide +kernel
def kX12_treeFor_37 : List JI := [(.iconst 0, 1, 0, 0, 0, 0, 0),
  (.istore_n 3, 1, 3, 0, 0, 0, 0)]
theorem qX12_treeFor_37 : jchk 125 37 kX12_treeFor_37 = true := by decide +kernel
def kX12_treeFor_39 : List JI := [(.iload_n 3, 1, 3, 0, 0, 0, 0),
  (.aload_n 0, 1, 0, 0, 0, 0, 0),
  (.getfield 239, 3, 12, 34, 1, 0, 993),
  (.if_icmp .ge 31, 3, 75, 0, 0, 0, 0),
  (.aload_n 0, 1, 0, 0, 0, 0, 0),
  (.getfield 104, 3, 12, 38, 4, 0, 997),
  (.iload_n 3, 1, 3, 0, 0, 0, 0),
  (.iaload, 1, 0, 0, 0, 0, 0),
  (.iload_n 1, 1, 1, 0, 0, 0, 0),
  (.if_icmp .ne 15, 3, 69, 0, 0, 0, 0),
  (.aload_n 0, 1, 0, 0, 0, 0, 0),
  (.getfield 107, 3, 12, 39, 4, 0, 998),
  (.iload_n 3, 1, 3, 0, 0, 0, 0),
  (.iaload, 1, 0, 0, 0, 0, 0),
  (.iload_n 2, 1, 2, 0, 0, 0, 0),
  (.if_icmp .ne 5, 3, 69, 0, 0, 0, 0),
  (.iload_n 3, 1, 3, 0, 0, 0, 0),
  (.ireturn, 1, 0, 0, 0, 0, 0)]
theorem qX12_treeFor_39 : jchk 125 39 kX12_treeFor_39 = true := by decide +kernel
def kX12_treeFor_69 : List JI := [(.iinc 3 1, 3, 3, 1, 0, 0, 0),
  (.goto (-33), 3, 39, 0, 0, 0, 0)]
theorem qX12_treeFor_69 : jchk 125 69 kX12_treeFor_69 = true := by decide +kernel
def kX12_treeFor_75 : List JI := [(.bipush (-9), 2, 0, -9, 0, 0, 0),
  (.ireturn, 1, 0, 0, 0, 0, 0)]
theorem qX12_treeFor_75 : jchk 125 75 kX12_treeFor_75 = true := by decide +kernel
def kX11_treeOf_0 : List JI := [(.iload_n 1, 1, 1, 0, 0, 0, 0),
  (.aload_n 0, 1, 0, 0, 0, 0, 0),
  (.getfield 44, 3, 11, 6, 4, 0, 478),
  (.getfield 236, 3, 3, 0, 1, 0, 285),
  (.invokestatic 85, 3, 14, 2, 0, 11, 513),
  (.ifCond .ne 9, 3, 20, 0, 0, 0, 0),
  (.aload_n 0, 1, 0, 0, 0, 0, 0),
  (.iconst (-1), 1, 0, -1, 0, 0, 0),
  (.invokevirtual 134, 3, 34, 1, 0, 11, 564),
  (.ireturn, 1, 0, 0, 0, 0, 0)]
theorem qX11_treeOf_0 : jchk 126 0 kX11_treeOf_0 = true := by decide +kernel
def kX11_treeOf_20 : List JI := [(.iload_n 2, 1, 2, 0, 0, 0, 0),
  (.tableswitch 85 0 4 #[35, 45, 55, 65, 75], 35, 0, 0, 0, 0, 0)]
theorem qX11_treeOf_20 : jchk 126 20 kX11_treeOf_20 = true := by decide +kernel
def kX11_treeOf_56 : List JI := [(.aload_n 0, 1, 0, 0, 0, 0, 0),
  (.getfield 44, 3, 11, 6, 4, 0, 478),
  (.getfield 273, 3, 3, 1, 4, 0, 288),
  (.iload_n 1, 1, 1, 0, 0, 0, 0),
  (.iaload, 1, 0, 0, 0, 0, 0),
  (.ireturn, 1, 0, 0, 0, 0, 0)]
theorem qX11_treeOf_56 : jchk 126 56 kX11_treeOf_56 = true := by decide +kernel
def kX11_treeOf_66 : List JI := [(.aload_n 0, 1, 0, 0, 0, 0, 0),
  (.getfield 44, 3, 11, 6, 4, 0, 478),
  (.getfield 276, 3, 3, 3, 4, 0, 294),
  (.iload_n 1, 1, 1, 0, 0, 0, 0),
  (.iaload, 1, 0, 0, 0, 0, 0),
  (.ireturn, 1, 0, 0, 0, 0, 0)]
theorem qX11_treeOf_66 : jchk 126 66 kX11_treeOf_66 = true := by decide +kernel
def kX11_treeOf_76 : List JI := [(.aload_n 0, 1, 0, 0, 0, 0, 0),
  (.getfield 44, 3, 11, 6, 4, 0, 478),
  (.getfield 279, 3, 3, 4, 4, 0, 296),
  (.iload_n 1, 1, 1, 0, 0, 0, 0),
  (.iaload, 1, 0, 0, 0, 0, 0),
  (.ireturn, 1, 0, 0, 0, 0, 0)]
theorem qX11_treeOf_76 : jchk 126 76 kX11_treeOf_76 = true := by decide +kernel
def kX11_treeOf_86 : List JI := [(.aload_n 0, 1, 0, 0, 0, 0, 0),
  (.getfield 44, 3, 11, 6, 4, 0, 478),
  (.getfield 281, 3, 3, 5, 4, 0, 298),
  (.iload_n 1, 1, 1, 0, 0, 0, 0),
  (.iaload, 1, 0, 0, 0, 0, 0),
  (.ireturn, 1, 0, 0, 0, 0, 0)]
theorem qX11_treeOf_86 : jchk 126 86 kX11_treeOf_86 = true := by decide +kernel
def kX11_treeOf_96 : List JI := [(.aload_n 0, 1, 0, 0, 0, 0, 0),
  (.getfield 44, 3, 11, 6, 4, 0, 478),
  (.getfield 284, 3, 3, 2, 4, 0, 291),
  (.iload_n 1, 1, 1, 0, 0, 0, 0),
  (.iaload, 1, 0, 0, 0, 0, 0),
  (.ireturn, 1, 0, 0, 0, 0, 0)]
theorem qX11_treeOf_96 : jchk 126 96 kX11_treeOf_96 = true := by decide +kernel
def kX11_treeOf_106 : List JI := [(.aload_n 0, 1, 0, 0, 0, 0, 0),
  (.bipush (-2), 2, 0, -2, 0, 0, 0),
  (.invokevirtual 134, 3, 34, 1, 0, 11, 564),
  (.ireturn, 1, 0, 0, 0, 0, 0)]
theorem qX11_treeOf_106 : jchk 126 106 kX11_treeOf_106 = true := by decide +kernel
def kX12_treeOf_0 : List JI := [(.iload_n 1, 1, 1, 0, 0, 0, 0),
  (.iconst 0, 1, 0, 0, 0, 0, 0),
  (.aload_n 0, 1, 0, 0, 0, 0, 0),
  (.getfield 239, 3, 12, 34, 1, 0, 993),
  (.iconst 1, 1, 0, 1, 0, 0, 0),
  (.isub, 1, 0, 0, 0, 0, 0),
  (.invokestatic 168, 3, 19, 3, 0, 12, 1160),
  (.ifCond .ne 9, 3, 20, 0, 0, 0, 0),
  (.aload_n 0, 1, 0, 0, 0, 0, 0),
  (.iconst (-1), 1, 0, -1, 0, 0, 0),
  (.invokevirtual 177, 3, 36, 1, 0, 12, 1192),
  (.ireturn, 1, 0, 0, 0, 0, 0)]
theorem qX12_treeOf_0 : jchk 127 0 kX12_treeOf_0 = true := by decide +kernel
def kX12_treeOf_20 : List JI := [(.iload_n 2, 1, 2, 0, 0, 0, 0),
  (.tableswitch 98 0 4 #[35, 42, 49, 70, 91], 35, 0, 0, 0, 0, 0)]
theorem qX12_treeOf_20 : jchk 127 20 kX12_treeOf_20 = true := by decide +kernel
def kX12_treeOf_56 : List JI := [(.aload_n 0, 1, 0, 0, 0, 0, 0),
  (.getfield 95, 3, 12, 35, 4, 0, 994),
  (.iload_n 1, 1, 1, 0, 0, 0, 0),
  (.iaload, 1, 0, 0, 0, 0, 0),
  (.ireturn, 1, 0, 0, 0, 0, 0)]
theorem qX12_treeOf_56 : jchk 127 56 kX12_treeOf_56 = true := by decide +kernel
def kX12_treeOf_63 : List JI := [(.aload_n 0, 1, 0, 0, 0, 0, 0),
  (.getfield 101, 3, 12, 37, 4, 0, 996),
  (.iload_n 1, 1, 1, 0, 0, 0, 0),
  (.iaload, 1, 0, 0, 0, 0, 0),
  (.ireturn, 1, 0, 0, 0, 0, 0)]
theorem qX12_treeOf_63 : jchk 127 63 kX12_treeOf_63 = true := by decide +kernel
def kX12_treeOf_70 : List JI := [(.aload_n 0, 1, 0, 0, 0, 0, 0),
  (.getfield 104, 3, 12, 38, 4, 0, 997),
  (.iload_n 1, 1, 1, 0, 0, 0, 0),
  (.iaload, 1, 0, 0, 0, 0, 0),
  (.ifCond .ge 8, 3, 84, 0, 0, 0, 0),
  (.bipush (-9), 2, 0, -9, 0, 0, 0),
  (.goto 9, 3, 90, 0, 0, 0, 0)]
theorem qX12_treeOf_70 : jchk 127 70 kX12_treeOf_70 = true := by decide +kernel
def kX12_treeOf_84 : List JI := [(.aload_n 0, 1, 0, 0, 0, 0, 0),
  (.getfield 104, 3, 12, 38, 4, 0, 997),
  (.iload_n 1, 1, 1, 0, 0, 0, 0),
  (.iaload, 1, 0, 0, 0, 0, 0)]
theorem qX12_treeOf_84 : jchk 127 84 kX12_treeOf_84 = true := by decide +kernel
def kX12_treeOf_90 : List JI := [(.ireturn, 1, 0, 0, 0, 0, 0)]
theorem qX12_treeOf_90 : jchk 127 90 kX12_treeOf_90 = true := by decide +kernel
def kX12_treeOf_91 : List JI := [(.aload_n 0, 1, 0, 0, 0, 0, 0),
  (.getfield 104, 3, 12, 38, 4, 0, 997),
  (.iload_n 1, 1, 1, 0, 0, 0, 0),
  (.iaload, 1, 0, 0, 0, 0, 0),
  (.ifCond .ge 8, 3, 105, 0, 0, 0, 0),
  (.bipush (-9), 2, 0, -9, 0, 0, 0),
  (.goto 9, 3, 111, 0, 0, 0, 0)]
theorem qX12_treeOf_91 : jchk 127 91 kX12_treeOf_91 = true := by decide +kernel
def kX12_treeOf_105 : List JI := [(.aload_n 0, 1, 0, 0, 0, 0, 0),
  (.getfield 107, 3, 12, 39, 4, 0, 998),
  (.iload_n 1, 1, 1, 0, 0, 0, 0),
  (.iaload, 1, 0, 0, 0, 0, 0)]
theorem qX12_treeOf_105 : jchk 127 105 kX12_treeOf_105 = true := by decide +kernel
def kX12_treeOf_111 : List JI := [(.ireturn, 1, 0, 0, 0, 0, 0)]
theorem qX12_treeOf_111 : jchk 127 111 kX12_treeOf_111 = true := by decide +kernel
def kX12_treeOf_112 : List JI := [(.aload_n 0, 1, 0, 0, 0, 0, 0),
  (.getfield 98, 3, 12, 36, 4, 0, 995),
  (.iload_n 1, 1, 1, 0, 0, 0, 0),
  (.iaload, 1, 0, 0, 0, 0, 0),
  (.ireturn, 1, 0, 0, 0, 0, 0)]
theorem qX12_treeOf_112 : jchk 127 112 kX12_treeOf_112 = true := by decide +kernel
def kX12_treeOf_119 : List JI := [(.aload_n 0, 1, 0, 0, 0, 0, 0),
  (.bipush (-2), 2, 0, -2, 0, 0, 0),
  (.invokevirtual 177, 3, 36, 1, 0, 12, 1192),
  (.ireturn, 1, 0, 0, 0, 0, 0)]
theorem qX12_treeOf_119 : jchk 127 119 kX12_treeOf_119 = true := by decide +kernel
def kX5_add_0 : List JI := [(.aload_n 0, 1, 0, 0, 0, 0, 0),
  (.getfield 9, 3, 5, 1, 4, 0, 378),
  (.aload_n 0, 1, 0, 0, 0, 0, 0),
  (.getfield 24, 3, 5, 0, 1, 0, 376),
  (.iload_n 1, 1, 1, 0, 0, 0, 0),
  (.iastore, 1, 0, 0, 0, 0, 0),
  (.aload_n 0, 1, 0, 0, 0, 0, 0),
  (.getfield 15, 3, 5, 2, 4, 0, 380),
  (.aload_n 0, 1, 0, 0, 0, 0, 0),
  (.getfield 24, 3, 5, 0, 1, 0, 376),
  (.iload_n 2, 1, 2, 0, 0, 0, 0),
  (.iastore, 1, 0, 0, 0, 0, 0),
  (.aload_n 0, 1, 0, 0, 0, 0, 0),
  (.getfield 18, 3, 5, 3, 4, 0, 382),
  (.aload_n 0, 1, 0, 0, 0, 0, 0),
  (.getfield 24, 3, 5, 0, 1, 0, 376),
  (.iload_n 3, 1, 3, 0, 0, 0, 0),
  (.iastore, 1, 0, 0, 0, 0, 0),
  (.aload_n 0, 1, 0, 0, 0, 0, 0),
  (.getfield 21, 3, 5, 4, 4, 0, 384),
  (.aload_n 0, 1, 0, 0, 0, 0, 0),
  (.getfield 24, 3, 5, 0, 1, 0, 376),
  (.iconst 0, 1, 0, 0, 0, 0, 0),
  (.iastore, 1, 0, 0, 0, 0, 0),
  (.iconst 0, 1, 0, 0, 0, 0, 0),
  (.istore 4, 2, 4, 0, 0, 0, 0)]
theorem qX5_add_0 : jchk 128 0 kX5_add_0 = true := by decide +kernel
def kX5_add_43 : List JI := [(.iload 4, 2, 4, 0, 0, 0, 0),
  (.aload_n 0, 1, 0, 0, 0, 0, 0),
  (.getfield 24, 3, 5, 0, 1, 0, 376),
  (.if_icmp .ge 36, 3, 85, 0, 0, 0, 0),
  (.aload_n 0, 1, 0, 0, 0, 0, 0),
  (.getfield 9, 3, 5, 1, 4, 0, 378),
  (.iload 4, 2, 4, 0, 0, 0, 0),
  (.iaload, 1, 0, 0, 0, 0, 0),
  (.iload_n 1, 1, 1, 0, 0, 0, 0),
  (.if_icmp .ne 19, 3, 79, 0, 0, 0, 0),
  (.aload_n 0, 1, 0, 0, 0, 0, 0),
  (.getfield 21, 3, 5, 4, 4, 0, 384),
  (.aload_n 0, 1, 0, 0, 0, 0, 0),
  (.getfield 24, 3, 5, 0, 1, 0, 376),
  (.aload_n 0, 1, 0, 0, 0, 0, 0),
  (.getfield 15, 3, 5, 2, 4, 0, 380),
  (.iload 4, 2, 4, 0, 0, 0, 0),
  (.iaload, 1, 0, 0, 0, 0, 0),
  (.iastore, 1, 0, 0, 0, 0, 0)]
theorem qX5_add_43 : jchk 128 43 kX5_add_43 = true := by decide +kernel
def kX5_add_79 : List JI := [(.iinc 4 1, 3, 4, 1, 0, 0, 0),
  (.goto (-39), 3, 43, 0, 0, 0, 0)]
theorem qX5_add_79 : jchk 128 79 kX5_add_79 = true := by decide +kernel
def kX5_add_85 : List JI := [(.aload_n 0, 1, 0, 0, 0, 0, 0),
  (.dup, 1, 0, 0, 0, 0, 0),
  (.getfield 24, 3, 5, 0, 1, 0, 376),
  (.iconst 1, 1, 0, 1, 0, 0, 0),
  (.iadd, 1, 0, 0, 0, 0, 0),
  (.putfield 24, 3, 5, 0, 1, 0, 376),
  (.return_, 1, 0, 0, 0, 0, 0)]
theorem qX5_add_85 : jchk 128 85 kX5_add_85 = true := by decide +kernel
def kX11_count_0 : List JI := [(.iload_n 1, 1, 1, 0, 0, 0, 0),
  (.bipush 6, 2, 0, 6, 0, 0, 0),
  (.invokestatic 85, 3, 14, 2, 0, 11, 513),
  (.ifCond .ne 7, 3, 13, 0, 0, 0, 0),
  (.iconst (-1), 1, 0, -1, 0, 0, 0),
  (.goto 10, 3, 20, 0, 0, 0, 0)]
theorem qX11_count_0 : jchk 129 0 kX11_count_0 = true := by decide +kernel
def kX11_count_13 : List JI := [(.iload_n 2, 1, 2, 0, 0, 0, 0),
  (.iconst 0, 1, 0, 0, 0, 0, 0),
  (.ldc 103, 2, 0, 1000000, 0, 0, 531),
  (.invokestatic 89, 3, 15, 3, 0, 11, 516)]
theorem qX11_count_13 : jchk 129 13 kX11_count_13 = true := by decide +kernel
def kX11_count_20 : List JI := [(.istore_n 3, 1, 3, 0, 0, 0, 0),
  (.iload_n 3, 1, 3, 0, 0, 0, 0),
  (.ifCond .ne 18, 3, 40, 0, 0, 0, 0),
  (.aload_n 0, 1, 0, 0, 0, 0, 0),
  (.getfield 65, 3, 11, 9, 4, 0, 481),
  (.getfield 287, 3, 5, 0, 1, 0, 377),
  (.bipush 40, 2, 0, 40, 0, 0, 0),
  (.if_icmp .lt 6, 3, 40, 0, 0, 0, 0),
  (.bipush (-6), 2, 0, -6, 0, 0, 0),
  (.istore_n 3, 1, 3, 0, 0, 0, 0)]
theorem qX11_count_20 : jchk 129 20 kX11_count_20 = true := by decide +kernel
def kX11_count_40 : List JI := [(.iload_n 3, 1, 3, 0, 0, 0, 0),
  (.ifCond .eq 9, 3, 50, 0, 0, 0, 0),
  (.aload_n 0, 1, 0, 0, 0, 0, 0),
  (.iload_n 3, 1, 3, 0, 0, 0, 0),
  (.invokevirtual 134, 3, 34, 1, 0, 11, 564),
  (.ireturn, 1, 0, 0, 0, 0, 0)]
theorem qX11_count_40 : jchk 129 40 kX11_count_40 = true := by decide +kernel
def kX11_count_50 : List JI := [(.aload_n 0, 1, 0, 0, 0, 0, 0),
  (.getfield 81, 3, 11, 11, 4, 0, 483),
  (.invokevirtual 97, 3, 17, 0, 0, 7, 523),
  (.aload_n 0, 1, 0, 0, 0, 0, 0),
  (.getfield 37, 3, 11, 5, 4, 0, 477),
  (.getfield 104, 3, 10, 0, 4, 0, 228),
  (.iload_n 1, 1, 1, 0, 0, 0, 0),
  (.iaload, 1, 0, 0, 0, 0, 0),
  (.iload_n 2, 1, 2, 0, 0, 0, 0),
  (.isub, 1, 0, 0, 0, 0, 0),
  (.istore 4, 2, 4, 0, 0, 0, 0),
  (.aload_n 0, 1, 0, 0, 0, 0, 0),
  (.getfield 37, 3, 11, 5, 4, 0, 477),
  (.getfield 104, 3, 10, 0, 4, 0, 228),
  (.iload_n 1, 1, 1, 0, 0, 0, 0),
  (.iload_n 2, 1, 2, 0, 0, 0, 0),
  (.iastore, 1, 0, 0, 0, 0, 0),
  (.aload_n 0, 1, 0, 0, 0, 0, 0),
  (.getfield 65, 3, 11, 9, 4, 0, 481),
  (.iload_n 1, 1, 1, 0, 0, 0, 0),
  (.aload_n 0, 1, 0, 0, 0, 0, 0),
  (.getfield 147, 3, 11, 0, 1, 0, 472),
  (.iload 4, 2, 4, 0, 0, 0, 0),
  (.invokevirtual 288, 3, 128, 3, 0, 5, 817),
  (.iload 4, 2, 4, 0, 0, 0, 0),
  (.ireturn, 1, 0, 0, 0, 0, 0)]
theorem qX11_count_50 : jchk 129 50 kX11_count_50 = true := by decide +kernel
def kX12_count_0 : List JI := [(.iload_n 1, 1, 1, 0, 0, 0, 0),
  (.iconst 0, 1, 0, 0, 0, 0, 0),
  (.iconst 5, 1, 0, 5, 0, 0, 0),
  (.invokestatic 168, 3, 19, 3, 0, 12, 1160),
  (.ifCond .ne 9, 3, 15, 0, 0, 0, 0),
  (.aload_n 0, 1, 0, 0, 0, 0, 0),
  (.iconst (-1), 1, 0, -1, 0, 0, 0),
  (.invokevirtual 177, 3, 36, 1, 0, 12, 1192),
  (.ireturn, 1, 0, 0, 0, 0, 0)]
theorem qX12_count_0 : jchk 130 0 kX12_count_0 = true := by decide +kernel
def kX12_count_15 : List JI := [(.iload_n 2, 1, 2, 0, 0, 0, 0),
  (.ifCond .ge 10, 3, 26, 0, 0, 0, 0),
  (.aload_n 0, 1, 0, 0, 0, 0, 0),
  (.bipush (-4), 2, 0, -4, 0, 0, 0),
  (.invokevirtual 177, 3, 36, 1, 0, 12, 1192),
  (.ireturn, 1, 0, 0, 0, 0, 0)]
theorem qX12_count_15 : jchk 130 15 kX12_count_15 = true := by decide +kernel
def kX12_count_26 : List JI := [(.iload_n 2, 1, 2, 0, 0, 0, 0),
  (.ldc 176, 2, 0, 1000000, 0, 0, 1171),
  (.if_icmp .gt 12, 3, 41, 0, 0, 0, 0),
  (.aload_n 0, 1, 0, 0, 0, 0, 0),
  (.getfield 266, 3, 12, 45, 1, 0, 1004),
  (.bipush 40, 2, 0, 40, 0, 0, 0),
  (.if_icmp .ne 10, 3, 48, 0, 0, 0, 0)]
theorem qX12_count_26 : jchk 130 26 kX12_count_26 = true := by decide +kernel
def kX12_count_41 : List JI := [(.aload_n 0, 1, 0, 0, 0, 0, 0),
  (.bipush (-6), 2, 0, -6, 0, 0, 0),
  (.invokevirtual 177, 3, 36, 1, 0, 12, 1192),
  (.ireturn, 1, 0, 0, 0, 0, 0)]
theorem qX12_count_41 : jchk 130 41 kX12_count_41 = true := by decide +kernel
def kX12_count_48 : List JI := [(.iconst 0, 1, 0, 0, 0, 0, 0),
  (.istore_n 3, 1, 3, 0, 0, 0, 0),
  (.iconst 0, 1, 0, 0, 0, 0, 0),
  (.istore 4, 2, 4, 0, 0, 0, 0)]
theorem qX12_count_48 : jchk 130 48 kX12_count_48 = true := by decide +kernel
def kX12_count_53 : List JI := [(.iload 4, 2, 4, 0, 0, 0, 0),
  (.aload_n 0, 1, 0, 0, 0, 0, 0),
  (.getfield 266, 3, 12, 45, 1, 0, 1004),
  (.if_icmp .ge 32, 3, 91, 0, 0, 0, 0),
  (.aload_n 0, 1, 0, 0, 0, 0, 0),
  (.getfield 125, 3, 12, 46, 4, 0, 1005),
  (.iload 4, 2, 4, 0, 0, 0, 0),
  (.iaload, 1, 0, 0, 0, 0, 0),
  (.iload_n 1, 1, 1, 0, 0, 0, 0),
  (.if_icmp .ne 13, 3, 83, 0, 0, 0, 0),
  (.aload_n 0, 1, 0, 0, 0, 0, 0),
  (.getfield 128, 3, 12, 47, 4, 0, 1006),
  (.iload 4, 2, 4, 0, 0, 0, 0),
  (.iaload, 1, 0, 0, 0, 0, 0),
  (.goto 4, 3, 84, 0, 0, 0, 0)]
theorem qX12_count_53 : jchk 130 53 kX12_count_53 = true := by decide +kernel
def kX12_count_83 : List JI := [(.iload_n 3, 1, 3, 0, 0, 0, 0)]
theorem qX12_count_83 : jchk 130 83 kX12_count_83 = true := by decide +kernel
def kX12_count_84 : List JI := [(.istore_n 3, 1, 3, 0, 0, 0, 0),
  (.iinc 4 1, 3, 4, 1, 0, 0, 0),
  (.goto (-35), 3, 53, 0, 0, 0, 0)]
theorem qX12_count_84 : jchk 130 84 kX12_count_84 = true := by decide +kernel
def kX12_count_91 : List JI := [(.aload_n 0, 1, 0, 0, 0, 0, 0),
  (.getfield 125, 3, 12, 46, 4, 0, 1005),
  (.aload_n 0, 1, 0, 0, 0, 0, 0),
  (.getfield 266, 3, 12, 45, 1, 0, 1004),
  (.iload_n 1, 1, 1, 0, 0, 0, 0),
  (.iastore, 1, 0, 0, 0, 0, 0),
  (.aload_n 0, 1, 0, 0, 0, 0, 0),
  (.getfield 128, 3, 12, 47, 4, 0, 1006),
  (.aload_n 0, 1, 0, 0, 0, 0, 0),
  (.getfield 266, 3, 12, 45, 1, 0, 1004),
  (.aload_n 0, 1, 0, 0, 0, 0, 0),
  (.getfield 184, 3, 12, 0, 1, 0, 959),
  (.iastore, 1, 0, 0, 0, 0, 0),
  (.aload_n 0, 1, 0, 0, 0, 0, 0),
  (.getfield 131, 3, 12, 48, 4, 0, 1007),
  (.aload_n 0, 1, 0, 0, 0, 0, 0),
  (.getfield 266, 3, 12, 45, 1, 0, 1004),
  (.aload_n 0, 1, 0, 0, 0, 0, 0),
  (.getfield 22, 3, 12, 5, 4, 0, 964),
  (.iload_n 1, 1, 1, 0, 0, 0, 0),
  (.iaload, 1, 0, 0, 0, 0, 0),
  (.iload_n 2, 1, 2, 0, 0, 0, 0),
  (.isub, 1, 0, 0, 0, 0, 0),
  (.iastore, 1, 0, 0, 0, 0, 0),
  (.aload_n 0, 1, 0, 0, 0, 0, 0),
  (.getfield 134, 3, 12, 49, 4, 0, 1008),
  (.aload_n 0, 1, 0, 0, 0, 0, 0),
  (.getfield 266, 3, 12, 45, 1, 0, 1004),
  (.iload_n 3, 1, 3, 0, 0, 0, 0),
  (.iastore, 1, 0, 0, 0, 0, 0),
  (.aload_n 0, 1, 0, 0, 0, 0, 0),
  (.dup, 1, 0, 0, 0, 0, 0),
  (.getfield 266, 3, 12, 45, 1, 0, 1004),
  (.iconst 1, 1, 0, 1, 0, 0, 0),
  (.iadd, 1, 0, 0, 0, 0, 0),
  (.putfield 266, 3, 12, 45, 1, 0, 1004),
  (.aload_n 0, 1, 0, 0, 0, 0, 0),
  (.getfield 22, 3, 12, 5, 4, 0, 964),
  (.iload_n 1, 1, 1, 0, 0, 0, 0),
  (.iload_n 2, 1, 2, 0, 0, 0, 0),
  (.iastore, 1, 0, 0, 0, 0, 0),
  (.aload_n 0, 1, 0, 0, 0, 0, 0),
  (.getfield 131, 3, 12, 48, 4, 0, 1007),
  (.aload_n 0, 1, 0, 0, 0, 0, 0),
  (.getfield 266, 3, 12, 45, 1, 0, 1004),
  (.iconst 1, 1, 0, 1, 0, 0, 0),
  (.isub, 1, 0, 0, 0, 0, 0),
  (.iaload, 1, 0, 0, 0, 0, 0),
  (.ireturn, 1, 0, 0, 0, 0, 0)]
theorem qX12_count_91 : jchk 130 91 kX12_count_91 = true := by decide +kernel
def kX11_gap_0 : List JI := [(.iload_n 1, 1, 1, 0, 0, 0, 0),
  (.aload_n 0, 1, 0, 0, 0, 0, 0),
  (.getfield 65, 3, 11, 9, 4, 0, 481),
  (.getfield 287, 3, 5, 0, 1, 0, 377),
  (.invokestatic 85, 3, 14, 2, 0, 11, 513),
  (.ifCond .ne 9, 3, 20, 0, 0, 0, 0),
  (.aload_n 0, 1, 0, 0, 0, 0, 0),
  (.iconst (-1), 1, 0, -1, 0, 0, 0),
  (.invokevirtual 134, 3, 34, 1, 0, 11, 564),
  (.ireturn, 1, 0, 0, 0, 0, 0)]
theorem qX11_gap_0 : jchk 131 0 kX11_gap_0 = true := by decide +kernel
def kX11_gap_20 : List JI := [(.iload_n 2, 1, 2, 0, 0, 0, 0),
  (.tableswitch 71 0 3 #[31, 41, 51, 61], 31, 0, 0, 0, 0, 0)]
theorem qX11_gap_20 : jchk 131 20 kX11_gap_20 = true := by decide +kernel
def kX11_gap_52 : List JI := [(.aload_n 0, 1, 0, 0, 0, 0, 0),
  (.getfield 65, 3, 11, 9, 4, 0, 481),
  (.getfield 290, 3, 5, 1, 4, 0, 379),
  (.iload_n 1, 1, 1, 0, 0, 0, 0),
  (.iaload, 1, 0, 0, 0, 0, 0),
  (.ireturn, 1, 0, 0, 0, 0, 0)]
theorem qX11_gap_52 : jchk 131 52 kX11_gap_52 = true := by decide +kernel
def kX11_gap_62 : List JI := [(.aload_n 0, 1, 0, 0, 0, 0, 0),
  (.getfield 65, 3, 11, 9, 4, 0, 481),
  (.getfield 293, 3, 5, 2, 4, 0, 381),
  (.iload_n 1, 1, 1, 0, 0, 0, 0),
  (.iaload, 1, 0, 0, 0, 0, 0),
  (.ireturn, 1, 0, 0, 0, 0, 0)]
theorem qX11_gap_62 : jchk 131 62 kX11_gap_62 = true := by decide +kernel
def kX11_gap_72 : List JI := [(.aload_n 0, 1, 0, 0, 0, 0, 0),
  (.getfield 65, 3, 11, 9, 4, 0, 481),
  (.getfield 296, 3, 5, 3, 4, 0, 383),
  (.iload_n 1, 1, 1, 0, 0, 0, 0),
  (.iaload, 1, 0, 0, 0, 0, 0),
  (.ireturn, 1, 0, 0, 0, 0, 0)]
theorem qX11_gap_72 : jchk 131 72 kX11_gap_72 = true := by decide +kernel
def kX11_gap_82 : List JI := [(.aload_n 0, 1, 0, 0, 0, 0, 0),
  (.getfield 65, 3, 11, 9, 4, 0, 481),
  (.getfield 299, 3, 5, 4, 4, 0, 385),
  (.iload_n 1, 1, 1, 0, 0, 0, 0),
  (.iaload, 1, 0, 0, 0, 0, 0),
  (.ireturn, 1, 0, 0, 0, 0, 0)]
theorem qX11_gap_82 : jchk 131 82 kX11_gap_82 = true := by decide +kernel
def kX11_gap_92 : List JI := [(.aload_n 0, 1, 0, 0, 0, 0, 0),
  (.bipush (-2), 2, 0, -2, 0, 0, 0),
  (.invokevirtual 134, 3, 34, 1, 0, 11, 564),
  (.ireturn, 1, 0, 0, 0, 0, 0)]
theorem qX11_gap_92 : jchk 131 92 kX11_gap_92 = true := by decide +kernel
def kX12_gap_0 : List JI := [(.iload_n 1, 1, 1, 0, 0, 0, 0),
  (.iconst 0, 1, 0, 0, 0, 0, 0),
  (.aload_n 0, 1, 0, 0, 0, 0, 0),
  (.getfield 266, 3, 12, 45, 1, 0, 1004),
  (.iconst 1, 1, 0, 1, 0, 0, 0),
  (.isub, 1, 0, 0, 0, 0, 0),
  (.invokestatic 168, 3, 19, 3, 0, 12, 1160),
  (.ifCond .ne 9, 3, 20, 0, 0, 0, 0),
  (.aload_n 0, 1, 0, 0, 0, 0, 0),
  (.iconst (-1), 1, 0, -1, 0, 0, 0),
  (.invokevirtual 177, 3, 36, 1, 0, 12, 1192),
  (.ireturn, 1, 0, 0, 0, 0, 0)]
theorem qX12_gap_0 : jchk 132 0 kX12_gap_0 = true := by decide +kernel
def kX12_gap_20 : List JI := [(.iload_n 2, 1, 2, 0, 0, 0, 0),
  (.tableswitch 59 0 3 #[31, 38, 45, 52], 31, 0, 0, 0, 0, 0)]
theorem qX12_gap_20 : jchk 132 20 kX12_gap_20 = true := by decide +kernel
def kX12_gap_52 : List JI := [(.aload_n 0, 1, 0, 0, 0, 0, 0),
  (.getfield 125, 3, 12, 46, 4, 0, 1005),
  (.iload_n 1, 1, 1, 0, 0, 0, 0),
  (.iaload, 1, 0, 0, 0, 0, 0),
  (.ireturn, 1, 0, 0, 0, 0, 0)]
theorem qX12_gap_52 : jchk 132 52 kX12_gap_52 = true := by decide +kernel
def kX12_gap_59 : List JI := [(.aload_n 0, 1, 0, 0, 0, 0, 0),
  (.getfield 128, 3, 12, 47, 4, 0, 1006),
  (.iload_n 1, 1, 1, 0, 0, 0, 0),
  (.iaload, 1, 0, 0, 0, 0, 0),
  (.ireturn, 1, 0, 0, 0, 0, 0)]
theorem qX12_gap_59 : jchk 132 59 kX12_gap_59 = true := by decide +kernel
def kX12_gap_66 : List JI := [(.aload_n 0, 1, 0, 0, 0, 0, 0),
  (.getfield 131, 3, 12, 48, 4, 0, 1007),
  (.iload_n 1, 1, 1, 0, 0, 0, 0),
  (.iaload, 1, 0, 0, 0, 0, 0),
  (.ireturn, 1, 0, 0, 0, 0, 0)]
theorem qX12_gap_66 : jchk 132 66 kX12_gap_66 = true := by decide +kernel
def kX12_gap_73 : List JI := [(.aload_n 0, 1, 0, 0, 0, 0, 0),
  (.getfield 134, 3, 12, 49, 4, 0, 1008),
  (.iload_n 1, 1, 1, 0, 0, 0, 0),
  (.iaload, 1, 0, 0, 0, 0, 0),
  (.ireturn, 1, 0, 0, 0, 0, 0)]
theorem qX12_gap_73 : jchk 132 73 kX12_gap_73 = true := by decide +kernel
def kX12_gap_80 : List JI := [(.aload_n 0, 1, 0, 0, 0, 0, 0),
  (.bipush (-2), 2, 0, -2, 0, 0, 0),
  (.invokevirtual 177, 3, 36, 1, 0, 12, 1192),
  (.ireturn, 1, 0, 0, 0, 0, 0)]
theorem qX12_gap_80 : jchk 132 80 kX12_gap_80 = true := by decide +kernel
def kJ9_max_7cf53_0 : List JI := [(.iload_n 0, 1, 0, 0, 0, 0, 0),
  (.iload_n 1, 1, 1, 0, 0, 0, 0),
  (.if_icmp .lt 7, 3, 9, 0, 0, 0, 0),
  (.iload_n 0, 1, 0, 0, 0, 0, 0),
  (.goto 4, 3, 10, 0, 0, 0, 0)]
theorem qJ9_max_7cf53_0 : jchk 133 0 kJ9_max_7cf53_0 = true := by decide +kernel
def kJ9_max_7cf53_9 : List JI := [(.iload_n 1, 1, 1, 0, 0, 0, 0)]
theorem qJ9_max_7cf53_9 : jchk 133 9 kJ9_max_7cf53_9 = true := by decide +kernel
def kJ9_max_7cf53_10 : List JI := [(.ireturn, 1, 0, 0, 0, 0, 0)]
theorem qJ9_max_7cf53_10 : jchk 133 10 kJ9_max_7cf53_10 = true := by decide +kernel
def kX5_spanOf_0 : List JI := [(.iconst 1, 1, 0, 1, 0, 0, 0),
  (.aload_n 0, 1, 0, 0, 0, 0, 0),
  (.getfield 15, 3, 5, 2, 4, 0, 380),
  (.iload_n 1, 1, 1, 0, 0, 0, 0),
  (.iaload, 1, 0, 0, 0, 0, 0),
  (.aload_n 0, 1, 0, 0, 0, 0, 0),
  (.getfield 21, 3, 5, 4, 4, 0, 384),
  (.iload_n 1, 1, 1, 0, 0, 0, 0),
  (.iaload, 1, 0, 0, 0, 0, 0),
  (.isub, 1, 0, 0, 0, 0, 0),
  (.invokestatic 36, 3, 997, 1, 0, 0, 841),
  (.ireturn, 1, 0, 0, 0, 0, 0)]
theorem qX5_spanOf_0 : jchk 134 0 kX5_spanOf_0 = true := by decide +kernel
def kX5_isWorse_0 : List JI := [(.aload_n 0, 1, 0, 0, 0, 0, 0),
  (.getfield 18, 3, 5, 3, 4, 0, 382),
  (.iload_n 1, 1, 1, 0, 0, 0, 0),
  (.iaload, 1, 0, 0, 0, 0, 0),
  (.i2l, 1, 0, 0, 0, 0, 0),
  (.aload_n 0, 1, 0, 0, 0, 0, 0),
  (.iload_n 2, 1, 2, 0, 0, 0, 0),
  (.invokevirtual 32, 3, 134, 1, 0, 5, 837),
  (.i2l, 1, 0, 0, 0, 0, 0),
  (.lmul, 1, 0, 0, 0, 0, 0),
  (.aload_n 0, 1, 0, 0, 0, 0, 0),
  (.getfield 18, 3, 5, 3, 4, 0, 382),
  (.iload_n 2, 1, 2, 0, 0, 0, 0),
  (.iaload, 1, 0, 0, 0, 0, 0),
  (.i2l, 1, 0, 0, 0, 0, 0),
  (.aload_n 0, 1, 0, 0, 0, 0, 0),
  (.iload_n 1, 1, 1, 0, 0, 0, 0),
  (.invokevirtual 32, 3, 134, 1, 0, 5, 837),
  (.i2l, 1, 0, 0, 0, 0, 0),
  (.lmul, 1, 0, 0, 0, 0, 0),
  (.lcmp, 1, 0, 0, 0, 0, 0),
  (.ifCond .le 7, 3, 36, 0, 0, 0, 0),
  (.iconst 1, 1, 0, 1, 0, 0, 0),
  (.goto 4, 3, 37, 0, 0, 0, 0)]
theorem qX5_isWorse_0 : jchk 135 0 kX5_isWorse_0 = true := by decide +kernel
def kX5_isWorse_36 : List JI := [(.iconst 0, 1, 0, 0, 0, 0, 0)]
theorem qX5_isWorse_36 : jchk 135 36 kX5_isWorse_36 = true := by decide +kernel
def kX5_isWorse_37 : List JI := [(.ireturn, 1, 0, 0, 1, 0, 0)]
theorem qX5_isWorse_37 : jchk 135 37 kX5_isWorse_37 = true := by decide +kernel
def kX5_worstOf_0 : List JI := [(.bipush (-9), 2, 0, -9, 0, 0, 0),
  (.istore_n 2, 1, 2, 0, 0, 0, 0),
  (.iconst 0, 1, 0, 0, 0, 0, 0),
  (.istore_n 3, 1, 3, 0, 0, 0, 0)]
theorem qX5_worstOf_0 : jchk 136 0 kX5_worstOf_0 = true := by decide +kernel
def kX5_worstOf_5 : List JI := [(.iload_n 3, 1, 3, 0, 0, 0, 0),
  (.aload_n 0, 1, 0, 0, 0, 0, 0),
  (.getfield 24, 3, 5, 0, 1, 0, 376),
  (.if_icmp .ge 45, 3, 55, 0, 0, 0, 0),
  (.aload_n 0, 1, 0, 0, 0, 0, 0),
  (.getfield 9, 3, 5, 1, 4, 0, 378),
  (.iload_n 3, 1, 3, 0, 0, 0, 0),
  (.iaload, 1, 0, 0, 0, 0, 0),
  (.iload_n 1, 1, 1, 0, 0, 0, 0),
  (.if_icmp .ne 29, 3, 49, 0, 0, 0, 0),
  (.aload_n 0, 1, 0, 0, 0, 0, 0),
  (.getfield 18, 3, 5, 3, 4, 0, 382),
  (.iload_n 3, 1, 3, 0, 0, 0, 0),
  (.iaload, 1, 0, 0, 0, 0, 0),
  (.ifCond .le 20, 3, 49, 0, 0, 0, 0),
  (.iload_n 2, 1, 2, 0, 0, 0, 0),
  (.bipush (-9), 2, 0, -9, 0, 0, 0),
  (.if_icmp .eq 12, 3, 47, 0, 0, 0, 0),
  (.aload_n 0, 1, 0, 0, 0, 0, 0),
  (.iload_n 3, 1, 3, 0, 0, 0, 0),
  (.iload_n 2, 1, 2, 0, 0, 0, 0),
  (.invokevirtual 28, 3, 135, 2, 0, 5, 833),
  (.ifCond .eq 5, 3, 49, 0, 0, 0, 0)]
theorem qX5_worstOf_5 : jchk 136 5 kX5_worstOf_5 = true := by decide +kernel
def kX5_worstOf_47 : List JI := [(.iload_n 3, 1, 3, 0, 0, 0, 0),
  (.istore_n 2, 1, 2, 0, 0, 0, 0)]
theorem qX5_worstOf_47 : jchk 136 47 kX5_worstOf_47 = true := by decide +kernel
def kX5_worstOf_49 : List JI := [(.iinc 3 1, 3, 3, 1, 0, 0, 0),
  (.goto (-47), 3, 5, 0, 0, 0, 0)]
theorem qX5_worstOf_49 : jchk 136 49 kX5_worstOf_49 = true := by decide +kernel
def kX5_worstOf_55 : List JI := [(.iload_n 2, 1, 2, 0, 0, 0, 0),
  (.ireturn, 1, 0, 0, 0, 0, 0)]
theorem qX5_worstOf_55 : jchk 136 55 kX5_worstOf_55 = true := by decide +kernel
def kX11_worst_0 : List JI := [(.iload_n 1, 1, 1, 0, 0, 0, 0),
  (.bipush 6, 2, 0, 6, 0, 0, 0),
  (.invokestatic 85, 3, 14, 2, 0, 11, 513),
  (.ifCond .ne 11, 3, 17, 0, 0, 0, 0),
  (.aload_n 0, 1, 0, 0, 0, 0, 0),
  (.iconst (-1), 1, 0, -1, 0, 0, 0),
  (.invokevirtual 93, 3, 16, 1, 0, 11, 519),
  (.goto 11, 3, 25, 0, 0, 0, 0)]
theorem qX11_worst_0 : jchk 137 0 kX11_worst_0 = true := by decide +kernel
def kX11_worst_17 : List JI := [(.aload_n 0, 1, 0, 0, 0, 0, 0),
  (.getfield 65, 3, 11, 9, 4, 0, 481),
  (.iload_n 1, 1, 1, 0, 0, 0, 0),
  (.invokevirtual 302, 3, 136, 1, 0, 5, 829)]
theorem qX11_worst_17 : jchk 137 17 kX11_worst_17 = true := by decide +kernel
def kX11_worst_25 : List JI := [(.ireturn, 1, 0, 0, 0, 0, 0)]
theorem qX11_worst_25 : jchk 137 25 kX11_worst_25 = true := by decide +kernel
def kX12_spanOf_0 : List JI := [(.aload_n 0, 1, 0, 0, 0, 0, 0),
  (.getfield 128, 3, 12, 47, 4, 0, 1006),
  (.iload_n 1, 1, 1, 0, 0, 0, 0),
  (.iaload, 1, 0, 0, 0, 0, 0),
  (.aload_n 0, 1, 0, 0, 0, 0, 0),
  (.getfield 134, 3, 12, 49, 4, 0, 1008),
  (.iload_n 1, 1, 1, 0, 0, 0, 0),
  (.iaload, 1, 0, 0, 0, 0, 0),
  (.if_icmp .le 20, 3, 32, 0, 0, 0, 0),
  (.aload_n 0, 1, 0, 0, 0, 0, 0),
  (.getfield 128, 3, 12, 47, 4, 0, 1006),
  (.iload_n 1, 1, 1, 0, 0, 0, 0),
  (.iaload, 1, 0, 0, 0, 0, 0),
  (.aload_n 0, 1, 0, 0, 0, 0, 0),
  (.getfield 134, 3, 12, 49, 4, 0, 1008),
  (.iload_n 1, 1, 1, 0, 0, 0, 0),
  (.iaload, 1, 0, 0, 0, 0, 0),
  (.isub, 1, 0, 0, 0, 0, 0),
  (.i2l, 1, 0, 0, 0, 0, 0),
  (.goto 4, 3, 33, 0, 0, 0, 0)]
theorem qX12_spanOf_0 : jchk 138 0 kX12_spanOf_0 = true := by decide +kernel
def kX12_spanOf_32 : List JI := [(.lconst 1, 1, 0, 1, 0, 0, 0)]
theorem qX12_spanOf_32 : jchk 138 32 kX12_spanOf_32 = true := by decide +kernel
def kX12_spanOf_33 : List JI := [(.lreturn, 1, 0, 0, 0, 0, 0)]
theorem qX12_spanOf_33 : jchk 138 33 kX12_spanOf_33 = true := by decide +kernel
def kX12_worst_0 : List JI := [(.iload_n 1, 1, 1, 0, 0, 0, 0),
  (.iconst 0, 1, 0, 0, 0, 0, 0),
  (.iconst 5, 1, 0, 5, 0, 0, 0),
  (.invokestatic 168, 3, 19, 3, 0, 12, 1160),
  (.ifCond .ne 9, 3, 15, 0, 0, 0, 0),
  (.aload_n 0, 1, 0, 0, 0, 0, 0),
  (.iconst (-1), 1, 0, -1, 0, 0, 0),
  (.invokevirtual 172, 3, 20, 1, 0, 12, 1163),
  (.ireturn, 1, 0, 0, 0, 0, 0)]
theorem qX12_worst_0 : jchk 139 0 kX12_worst_0 = true := by decide +kernel
def kX12_worst_15 : List JI := [(.bipush (-9), 2, 0, -9, 0, 0, 0),
  (.istore_n 2, 1, 2, 0, 0, 0, 0),
  (.iconst 0, 1, 0, 0, 0, 0, 0),
  (.istore_n 3, 1, 3, 0, 0, 0, 0)]
theorem qX12_worst_15 : jchk 139 15 kX12_worst_15 = true := by decide +kernel
def kX12_worst_20 : List JI := [(.iload_n 3, 1, 3, 0, 0, 0, 0),
  (.aload_n 0, 1, 0, 0, 0, 0, 0),
  (.getfield 266, 3, 12, 45, 1, 0, 1004),
  (.if_icmp .ge 64, 3, 89, 0, 0, 0, 0),
  (.aload_n 0, 1, 0, 0, 0, 0, 0),
  (.getfield 125, 3, 12, 46, 4, 0, 1005),
  (.iload_n 3, 1, 3, 0, 0, 0, 0),
  (.iaload, 1, 0, 0, 0, 0, 0),
  (.iload_n 1, 1, 1, 0, 0, 0, 0),
  (.if_icmp .ne 48, 3, 83, 0, 0, 0, 0),
  (.aload_n 0, 1, 0, 0, 0, 0, 0),
  (.getfield 131, 3, 12, 48, 4, 0, 1007),
  (.iload_n 3, 1, 3, 0, 0, 0, 0),
  (.iaload, 1, 0, 0, 0, 0, 0),
  (.ifCond .le 39, 3, 83, 0, 0, 0, 0),
  (.iload_n 2, 1, 2, 0, 0, 0, 0),
  (.ifCond .lt 33, 3, 81, 0, 0, 0, 0),
  (.aload_n 0, 1, 0, 0, 0, 0, 0),
  (.getfield 131, 3, 12, 48, 4, 0, 1007),
  (.iload_n 3, 1, 3, 0, 0, 0, 0),
  (.iaload, 1, 0, 0, 0, 0, 0),
  (.i2l, 1, 0, 0, 0, 0, 0),
  (.aload_n 0, 1, 0, 0, 0, 0, 0),
  (.iload_n 2, 1, 2, 0, 0, 0, 0),
  (.invokevirtual 269, 3, 138, 1, 0, 12, 1340),
  (.lmul, 1, 0, 0, 0, 0, 0),
  (.aload_n 0, 1, 0, 0, 0, 0, 0),
  (.getfield 131, 3, 12, 48, 4, 0, 1007),
  (.iload_n 2, 1, 2, 0, 0, 0, 0),
  (.iaload, 1, 0, 0, 0, 0, 0),
  (.i2l, 1, 0, 0, 0, 0, 0),
  (.aload_n 0, 1, 0, 0, 0, 0, 0),
  (.iload_n 3, 1, 3, 0, 0, 0, 0),
  (.invokevirtual 269, 3, 138, 1, 0, 12, 1340),
  (.lmul, 1, 0, 0, 0, 0, 0),
  (.lcmp, 1, 0, 0, 0, 0, 0),
  (.ifCond .le 5, 3, 83, 0, 0, 0, 0)]
theorem qX12_worst_20 : jchk 139 20 kX12_worst_20 = true := by decide +kernel
def kX12_worst_81 : List JI := [(.iload_n 3, 1, 3, 0, 0, 0, 0),
  (.istore_n 2, 1, 2, 0, 0, 0, 0)]
theorem qX12_worst_81 : jchk 139 81 kX12_worst_81 = true := by decide +kernel
def kX12_worst_83 : List JI := [(.iinc 3 1, 3, 3, 1, 0, 0, 0),
  (.goto (-66), 3, 20, 0, 0, 0, 0)]
theorem qX12_worst_83 : jchk 139 83 kX12_worst_83 = true := by decide +kernel
def kX12_worst_89 : List JI := [(.iload_n 2, 1, 2, 0, 0, 0, 0),
  (.ireturn, 1, 0, 0, 0, 0, 0)]
theorem qX12_worst_89 : jchk 139 89 kX12_worst_89 = true := by decide +kernel
def kX7_standAt_0 : List JI := [(.aload_n 0, 1, 0, 0, 0, 0, 0),
  (.getfield 40, 3, 7, 9, 3, 0, 444),
  (.ifCond .eq 4, 3, 8, 0, 0, 0, 0),
  (.return_, 1, 0, 0, 0, 0, 0)]
theorem qX7_standAt_0 : jchk 140 0 kX7_standAt_0 = true := by decide +kernel
def kX7_standAt_8 : List JI := [(.aload_n 0, 1, 0, 0, 0, 0, 0),
  (.iload_n 1, 1, 1, 0, 0, 0, 0),
  (.putfield 50, 3, 7, 3, 1, 0, 438),
  (.aload_n 3, 1, 3, 0, 0, 0, 0),
  (.invokevirtual 54, 3, 46, 0, 0, 2, 856),
  (.aload_n 0, 1, 0, 0, 0, 0, 0),
  (.getfield 24, 3, 7, 5, 4, 0, 440),
  (.iconst (-1), 1, 0, -1, 0, 0, 0),
  (.invokestatic 59, 3, 0, 2, 0, 0, 857),
  (.iconst 0, 1, 0, 0, 0, 0, 0),
  (.istore 4, 2, 4, 0, 0, 0, 0)]
theorem qX7_standAt_8 : jchk 140 8 kX7_standAt_8 = true := by decide +kernel
def kX7_standAt_28 : List JI := [(.iload 4, 2, 4, 0, 0, 0, 0),
  (.sipush 300, 3, 0, 300, 0, 0, 0),
  (.if_icmp .ge 84, 3, 117, 0, 0, 0, 0),
  (.aload_n 0, 1, 0, 0, 0, 0, 0),
  (.getfield 20, 3, 7, 4, 4, 0, 439),
  (.iload 4, 2, 4, 0, 0, 0, 0),
  (.aload_n 0, 1, 0, 0, 0, 0, 0),
  (.getfield 50, 3, 7, 3, 1, 0, 438),
  (.iconst 1, 1, 0, 1, 0, 0, 0),
  (.iadd, 1, 0, 0, 0, 0, 0),
  (.iload 4, 2, 4, 0, 0, 0, 0),
  (.iadd, 1, 0, 0, 0, 0, 0),
  (.aload_n 2, 1, 2, 0, 0, 0, 0),
  (.aload_n 3, 1, 3, 0, 0, 0, 0),
  (.invokevirtual 65, 3, 72, 4, 0, 0, 858),
  (.iconst 0, 1, 0, 0, 0, 0, 0),
  (.istore 5, 2, 5, 0, 0, 0, 0)]
theorem qX7_standAt_28 : jchk 140 28 kX7_standAt_28 = true := by decide +kernel
def kX7_standAt_59 : List JI := [(.iload 5, 2, 5, 0, 0, 0, 0),
  (.iconst 4, 1, 0, 4, 0, 0, 0),
  (.if_icmp .ge 49, 3, 111, 0, 0, 0, 0),
  (.aload_n 0, 1, 0, 0, 0, 0, 0),
  (.getfield 20, 3, 7, 4, 4, 0, 439),
  (.getfield 69, 3, 0, 1, 4, 0, 407),
  (.iload 4, 2, 4, 0, 0, 0, 0),
  (.iaload, 1, 0, 0, 0, 0, 0),
  (.ifCond .le 30, 3, 105, 0, 0, 0, 0),
  (.aload_n 0, 1, 0, 0, 0, 0, 0),
  (.getfield 20, 3, 7, 4, 4, 0, 439),
  (.getfield 72, 3, 0, 0, 4, 0, 404),
  (.iload 4, 2, 4, 0, 0, 0, 0),
  (.iconst 4, 1, 0, 4, 0, 0, 0),
  (.imul, 1, 0, 0, 0, 0, 0),
  (.iload 5, 2, 5, 0, 0, 0, 0),
  (.iadd, 1, 0, 0, 0, 0, 0),
  (.iaload, 1, 0, 0, 0, 0, 0),
  (.ifCond .le 12, 3, 105, 0, 0, 0, 0),
  (.aload_n 0, 1, 0, 0, 0, 0, 0),
  (.getfield 24, 3, 7, 5, 4, 0, 440),
  (.iload 5, 2, 5, 0, 0, 0, 0),
  (.iload 4, 2, 4, 0, 0, 0, 0),
  (.iastore, 1, 0, 0, 0, 0, 0)]
theorem qX7_standAt_59 : jchk 140 59 kX7_standAt_59 = true := by decide +kernel
def kX7_standAt_105 : List JI := [(.iinc 5 1, 3, 5, 1, 0, 0, 0),
  (.goto (-49), 3, 59, 0, 0, 0, 0)]
theorem qX7_standAt_105 : jchk 140 105 kX7_standAt_105 = true := by decide +kernel
def kX7_standAt_111 : List JI := [(.iinc 4 1, 3, 4, 1, 0, 0, 0),
  (.goto (-86), 3, 28, 0, 0, 0, 0)]
theorem qX7_standAt_111 : jchk 140 111 kX7_standAt_111 = true := by decide +kernel
def kX7_standAt_117 : List JI := [(.aload_n 0, 1, 0, 0, 0, 0, 0),
  (.iconst 1, 1, 0, 1, 0, 0, 0),
  (.putfield 40, 3, 7, 9, 3, 0, 444),
  (.return_, 1, 0, 0, 0, 0, 0)]
theorem qX7_standAt_117 : jchk 140 117 kX7_standAt_117 = true := by decide +kernel
def kX4_become_0 : List JI := [(.aload_n 0, 1, 0, 0, 0, 0, 0),
  (.aload_n 1, 1, 1, 0, 0, 0, 0),
  (.getfield 22, 3, 4, 0, 1, 0, 163),
  (.aload_n 1, 1, 1, 0, 0, 0, 0),
  (.getfield 25, 3, 4, 1, 1, 0, 165),
  (.aload_n 1, 1, 1, 0, 0, 0, 0),
  (.getfield 28, 3, 4, 2, 1, 0, 168),
  (.invokevirtual 37, 3, 56, 3, 0, 4, 876),
  (.aload_n 0, 1, 0, 0, 0, 0, 0),
  (.aload_n 1, 1, 1, 0, 0, 0, 0),
  (.getfield 18, 3, 4, 3, 1, 0, 171),
  (.putfield 18, 3, 4, 3, 1, 0, 171),
  (.aload_n 0, 1, 0, 0, 0, 0, 0),
  (.aload_n 1, 1, 1, 0, 0, 0, 0),
  (.getfield 31, 3, 4, 4, 1, 0, 175),
  (.putfield 31, 3, 4, 4, 1, 0, 175),
  (.aload_n 0, 1, 0, 0, 0, 0, 0),
  (.aload_n 1, 1, 1, 0, 0, 0, 0),
  (.getfield 41, 3, 4, 5, 1, 0, 177),
  (.putfield 41, 3, 4, 5, 1, 0, 177),
  (.aload_n 0, 1, 0, 0, 0, 0, 0),
  (.aload_n 1, 1, 1, 0, 0, 0, 0),
  (.getfield 44, 3, 4, 6, 1, 0, 180),
  (.putfield 44, 3, 4, 6, 1, 0, 180),
  (.aload_n 0, 1, 0, 0, 0, 0, 0),
  (.aload_n 1, 1, 1, 0, 0, 0, 0),
  (.getfield 47, 3, 4, 7, 3, 0, 184),
  (.putfield 47, 3, 4, 7, 3, 0, 184),
  (.aload_n 0, 1, 0, 0, 0, 0, 0),
  (.aload_n 1, 1, 1, 0, 0, 0, 0),
  (.getfield 51, 3, 4, 8, 1, 0, 188),
  (.putfield 51, 3, 4, 8, 1, 0, 188),
  (.aload_n 0, 1, 0, 0, 0, 0, 0),
  (.aload_n 1, 1, 1, 0, 0, 0, 0),
  (.getfield 34, 3, 4, 9, 1, 0, 191),
  (.putfield 34, 3, 4, 9, 1, 0, 191),
  (.aload_n 0, 1, 0, 0, 0, 0, 0),
  (.aload_n 1, 1, 1, 0, 0, 0, 0),
  (.getfield 54, 3, 4, 10, 3, 0, 194),
  (.putfield 54, 3, 4, 10, 3, 0, 194),
  (.aload_n 1, 1, 1, 0, 0, 0, 0),
  (.getfield 9, 3, 4, 11, 4, 0, 196),
  (.iconst 0, 1, 0, 0, 0, 0, 0),
  (.aload_n 0, 1, 0, 0, 0, 0, 0),
  (.getfield 9, 3, 4, 11, 4, 0, 196),
  (.iconst 0, 1, 0, 0, 0, 0, 0),
  (.bipush 6, 2, 0, 6, 0, 0, 0),
  (.invokestatic 57, 3, 999, 0, 0, 0, 877),
  (.aload_n 1, 1, 1, 0, 0, 0, 0),
  (.getfield 15, 3, 4, 12, 4, 0, 198),
  (.iconst 0, 1, 0, 0, 0, 0, 0),
  (.aload_n 0, 1, 0, 0, 0, 0, 0),
  (.getfield 15, 3, 4, 12, 4, 0, 198),
  (.iconst 0, 1, 0, 0, 0, 0, 0),
  (.bipush 6, 2, 0, 6, 0, 0, 0),
  (.invokestatic 57, 3, 999, 0, 0, 0, 877),
  (.return_, 1, 0, 0, 0, 0, 0)]
theorem qX4_become_0 : jchk 141 0 kX4_become_0 = true := by decide +kernel
end
section
def kX10_become_0 : List JI := [(.aload_n 1, 1, 1, 0, 0, 0, 0),
  (.getfield 9, 3, 10, 0, 4, 0, 227),
  (.iconst 0, 1, 0, 0, 0, 0, 0),
  (.aload_n 0, 1, 0, 0, 0, 0, 0),
  (.getfield 9, 3, 10, 0, 4, 0, 227),
  (.iconst 0, 1, 0, 0, 0, 0, 0),
  (.bipush 6, 2, 0, 6, 0, 0, 0),
  (.invokestatic 68, 3, 999, 0, 0, 0, 715),
  (.aload_n 1, 1, 1, 0, 0, 0, 0),
  (.getfield 15, 3, 10, 1, 4, 0, 229),
  (.iconst 0, 1, 0, 0, 0, 0, 0),
  (.aload_n 0, 1, 0, 0, 0, 0, 0),
  (.getfield 15, 3, 10, 1, 4, 0, 229),
  (.iconst 0, 1, 0, 0, 0, 0, 0),
  (.bipush 6, 2, 0, 6, 0, 0, 0),
  (.invokestatic 68, 3, 999, 0, 0, 0, 715),
  (.aload_n 2, 1, 2, 0, 0, 0, 0),
  (.iconst 0, 1, 0, 0, 0, 0, 0),
  (.aload_n 0, 1, 0, 0, 0, 0, 0),
  (.getfield 27, 3, 10, 5, 4, 0, 239),
  (.iconst 0, 1, 0, 0, 0, 0, 0),
  (.iload_n 3, 1, 3, 0, 0, 0, 0),
  (.invokestatic 68, 3, 999, 0, 0, 0, 715),
  (.aload_n 0, 1, 0, 0, 0, 0, 0),
  (.iload_n 3, 1, 3, 0, 0, 0, 0),
  (.putfield 58, 3, 10, 6, 1, 0, 242),
  (.iconst 0, 1, 0, 0, 0, 0, 0),
  (.istore 4, 2, 4, 0, 0, 0, 0)]
theorem qX10_become_0 : jchk 142 0 kX10_become_0 = true := by decide +kernel
def kX10_become_49 : List JI := [(.iload 4, 2, 4, 0, 0, 0, 0),
  (.iload_n 3, 1, 3, 0, 0, 0, 0),
  (.if_icmp .ge 36, 3, 88, 0, 0, 0, 0),
  (.aload_n 0, 1, 0, 0, 0, 0, 0),
  (.getfield 23, 3, 10, 3, 4, 0, 233),
  (.aload_n 0, 1, 0, 0, 0, 0, 0),
  (.getfield 27, 3, 10, 5, 4, 0, 239),
  (.iload 4, 2, 4, 0, 0, 0, 0),
  (.iaload, 1, 0, 0, 0, 0, 0),
  (.aaload, 1, 0, 0, 0, 0, 0),
  (.aload_n 1, 1, 1, 0, 0, 0, 0),
  (.getfield 23, 3, 10, 3, 4, 0, 233),
  (.aload_n 0, 1, 0, 0, 0, 0, 0),
  (.getfield 27, 3, 10, 5, 4, 0, 239),
  (.iload 4, 2, 4, 0, 0, 0, 0),
  (.iaload, 1, 0, 0, 0, 0, 0),
  (.aaload, 1, 0, 0, 0, 0, 0),
  (.invokevirtual 74, 3, 141, 1, 0, 4, 872),
  (.iinc 4 1, 3, 4, 1, 0, 0, 0),
  (.goto (-36), 3, 49, 0, 0, 0, 0)]
theorem qX10_become_49 : jchk 142 49 kX10_become_49 = true := by decide +kernel
def kX10_become_88 : List JI := [(.return_, 1, 0, 0, 0, 0, 0)]
theorem qX10_become_88 : jchk 142 88 kX10_become_88 = true := by decide +kernel
def kX7_workIsAhead_0 : List JI := [(.iconst 0, 1, 0, 0, 0, 0, 0),
  (.istore_n 2, 1, 2, 0, 0, 0, 0)]
theorem qX7_workIsAhead_0 : jchk 143 0 kX7_workIsAhead_0 = true := by decide +kernel
def kX7_workIsAhead_2 : List JI := [(.iload_n 2, 1, 2, 0, 0, 0, 0),
  (.aload_n 0, 1, 0, 0, 0, 0, 0),
  (.getfield 30, 3, 7, 6, 4, 0, 441),
  (.getfield 81, 3, 10, 6, 1, 0, 241),
  (.if_icmp .ge 64, 3, 74, 0, 0, 0, 0),
  (.aload_n 0, 1, 0, 0, 0, 0, 0),
  (.getfield 30, 3, 7, 6, 4, 0, 441),
  (.getfield 88, 3, 10, 3, 4, 0, 234),
  (.aload_n 0, 1, 0, 0, 0, 0, 0),
  (.getfield 30, 3, 7, 6, 4, 0, 441),
  (.getfield 78, 3, 10, 5, 4, 0, 240),
  (.iload_n 2, 1, 2, 0, 0, 0, 0),
  (.iaload, 1, 0, 0, 0, 0, 0),
  (.aaload, 1, 0, 0, 0, 0, 0),
  (.astore_n 3, 1, 3, 0, 0, 0, 0),
  (.aload_n 3, 1, 3, 0, 0, 0, 0),
  (.getfield 157, 3, 4, 3, 1, 0, 173),
  (.iconst 1, 1, 0, 1, 0, 0, 0),
  (.if_icmp .ne 32, 3, 68, 0, 0, 0, 0),
  (.aload_n 3, 1, 3, 0, 0, 0, 0),
  (.getfield 160, 3, 4, 7, 3, 0, 186),
  (.ifCond .eq 25, 3, 68, 0, 0, 0, 0),
  (.aload_n 3, 1, 3, 0, 0, 0, 0),
  (.getfield 163, 3, 4, 6, 1, 0, 181),
  (.ifCond .le 18, 3, 68, 0, 0, 0, 0),
  (.aload_n 0, 1, 0, 0, 0, 0, 0),
  (.getfield 24, 3, 7, 5, 4, 0, 440),
  (.aload_n 3, 1, 3, 0, 0, 0, 0),
  (.getfield 166, 3, 4, 5, 1, 0, 178),
  (.iaload, 1, 0, 0, 0, 0, 0),
  (.iload_n 1, 1, 1, 0, 0, 0, 0),
  (.if_icmp .le 5, 3, 68, 0, 0, 0, 0),
  (.iconst 1, 1, 0, 1, 0, 0, 0),
  (.ireturn, 1, 0, 0, 1, 0, 0)]
theorem qX7_workIsAhead_2 : jchk 143 2 kX7_workIsAhead_2 = true := by decide +kernel
def kX7_workIsAhead_68 : List JI := [(.iinc 2 1, 3, 2, 1, 0, 0, 0),
  (.goto (-69), 3, 2, 0, 0, 0, 0)]
theorem qX7_workIsAhead_68 : jchk 143 68 kX7_workIsAhead_68 = true := by decide +kernel
def kX7_workIsAhead_74 : List JI := [(.iconst 0, 1, 0, 0, 0, 0, 0),
  (.ireturn, 1, 0, 0, 1, 0, 0)]
theorem qX7_workIsAhead_74 : jchk 143 74 kX7_workIsAhead_74 = true := by decide +kernel
def kX7_tryOut_0 : List JI := [(.aload_n 0, 1, 0, 0, 0, 0, 0),
  (.getfield 30, 3, 7, 6, 4, 0, 441),
  (.aload_n 1, 1, 1, 0, 0, 0, 0),
  (.aload_n 2, 1, 2, 0, 0, 0, 0),
  (.iload_n 3, 1, 3, 0, 0, 0, 0),
  (.invokevirtual 142, 3, 142, 3, 0, 10, 868),
  (.iconst 0, 1, 0, 0, 0, 0, 0),
  (.istore 5, 2, 5, 0, 0, 0, 0),
  (.iconst 1, 1, 0, 1, 0, 0, 0),
  (.istore 6, 2, 6, 0, 0, 0, 0),
  (.iconst 0, 1, 0, 0, 0, 0, 0),
  (.istore 7, 2, 7, 0, 0, 0, 0)]
theorem qX7_tryOut_0 : jchk 144 0 kX7_tryOut_0 = true := by decide +kernel
def kX7_tryOut_19 : List JI := [(.iload 7, 2, 7, 0, 0, 0, 0),
  (.sipush 300, 3, 0, 300, 0, 0, 0),
  (.if_icmp .ge 75, 3, 99, 0, 0, 0, 0),
  (.iload 5, 2, 5, 0, 0, 0, 0),
  (.iload_n 3, 1, 3, 0, 0, 0, 0),
  (.if_icmp .ge 69, 3, 99, 0, 0, 0, 0),
  (.iload 6, 2, 6, 0, 0, 0, 0),
  (.ifCond .eq 64, 3, 99, 0, 0, 0, 0),
  (.iload 5, 2, 5, 0, 0, 0, 0),
  (.aload_n 0, 1, 0, 0, 0, 0, 0),
  (.getfield 30, 3, 7, 6, 4, 0, 441),
  (.aload_n 0, 1, 0, 0, 0, 0, 0),
  (.getfield 50, 3, 7, 3, 1, 0, 438),
  (.iconst 1, 1, 0, 1, 0, 0, 0),
  (.iadd, 1, 0, 0, 0, 0, 0),
  (.iload 7, 2, 7, 0, 0, 0, 0),
  (.iadd, 1, 0, 0, 0, 0, 0),
  (.aload_n 0, 1, 0, 0, 0, 0, 0),
  (.getfield 20, 3, 7, 4, 4, 0, 439),
  (.iload 7, 2, 7, 0, 0, 0, 0),
  (.aload 4, 2, 4, 0, 0, 0, 0),
  (.invokevirtual 146, 3, 83, 4, 0, 10, 878),
  (.iadd, 1, 0, 0, 0, 0, 0),
  (.istore 5, 2, 5, 0, 0, 0, 0),
  (.aload_n 0, 1, 0, 0, 0, 0, 0),
  (.getfield 30, 3, 7, 6, 4, 0, 441),
  (.getfield 150, 3, 10, 10, 3, 0, 250),
  (.ifCond .ne 12, 3, 86, 0, 0, 0, 0),
  (.aload_n 0, 1, 0, 0, 0, 0, 0),
  (.iload 7, 2, 7, 0, 0, 0, 0),
  (.invokevirtual 153, 3, 143, 1, 0, 7, 879),
  (.ifCond .eq 7, 3, 90, 0, 0, 0, 0)]
theorem qX7_tryOut_19 : jchk 144 19 kX7_tryOut_19 = true := by decide +kernel
def kX7_tryOut_86 : List JI := [(.iconst 1, 1, 0, 1, 0, 0, 0),
  (.goto 4, 3, 91, 0, 0, 0, 0)]
theorem qX7_tryOut_86 : jchk 144 86 kX7_tryOut_86 = true := by decide +kernel
def kX7_tryOut_90 : List JI := [(.iconst 0, 1, 0, 0, 0, 0, 0)]
theorem qX7_tryOut_90 : jchk 144 90 kX7_tryOut_90 = true := by decide +kernel
def kX7_tryOut_91 : List JI := [(.istore 6, 2, 6, 0, 0, 0, 0),
  (.iinc 7 1, 3, 7, 1, 0, 0, 0),
  (.goto (-77), 3, 19, 0, 0, 0, 0)]
theorem qX7_tryOut_91 : jchk 144 91 kX7_tryOut_91 = true := by decide +kernel
def kX7_tryOut_99 : List JI := [(.return_, 1, 0, 0, 0, 0, 0)]
theorem qX7_tryOut_99 : jchk 144 99 kX7_tryOut_99 = true := by decide +kernel
def kX7_readyDay_0 : List JI := [(.aload_n 0, 1, 0, 0, 0, 0, 0),
  (.getfield 44, 3, 7, 10, 3, 0, 445),
  (.ifCond .ne 74, 3, 78, 0, 0, 0, 0),
  (.aload_n 2, 1, 2, 0, 0, 0, 0),
  (.invokevirtual 75, 3, 71, 0, 0, 10, 863),
  (.aload_n 0, 1, 0, 0, 0, 0, 0),
  (.aload_n 2, 1, 2, 0, 0, 0, 0),
  (.aload_n 2, 1, 2, 0, 0, 0, 0),
  (.getfield 78, 3, 10, 5, 4, 0, 240),
  (.aload_n 2, 1, 2, 0, 0, 0, 0),
  (.getfield 81, 3, 10, 6, 1, 0, 241),
  (.aload_n 3, 1, 3, 0, 0, 0, 0),
  (.invokevirtual 84, 3, 144, 4, 0, 7, 864),
  (.iconst 0, 1, 0, 0, 0, 0, 0),
  (.istore 4, 2, 4, 0, 0, 0, 0)]
theorem qX7_readyDay_0 : jchk 145 0 kX7_readyDay_0 = true := by decide +kernel
def kX7_readyDay_28 : List JI := [(.iload 4, 2, 4, 0, 0, 0, 0),
  (.aload_n 2, 1, 2, 0, 0, 0, 0),
  (.getfield 81, 3, 10, 6, 1, 0, 241),
  (.if_icmp .ge 39, 3, 73, 0, 0, 0, 0),
  (.aload_n 0, 1, 0, 0, 0, 0, 0),
  (.getfield 34, 3, 7, 7, 4, 0, 442),
  (.aload_n 2, 1, 2, 0, 0, 0, 0),
  (.getfield 78, 3, 10, 5, 4, 0, 240),
  (.iload 4, 2, 4, 0, 0, 0, 0),
  (.iaload, 1, 0, 0, 0, 0, 0),
  (.aload_n 0, 1, 0, 0, 0, 0, 0),
  (.getfield 30, 3, 7, 6, 4, 0, 441),
  (.getfield 88, 3, 10, 3, 4, 0, 234),
  (.aload_n 2, 1, 2, 0, 0, 0, 0),
  (.getfield 78, 3, 10, 5, 4, 0, 240),
  (.iload 4, 2, 4, 0, 0, 0, 0),
  (.iaload, 1, 0, 0, 0, 0, 0),
  (.aaload, 1, 0, 0, 0, 0, 0),
  (.getfield 92, 3, 4, 9, 1, 0, 192),
  (.iastore, 1, 0, 0, 0, 0, 0),
  (.iinc 4 1, 3, 4, 1, 0, 0, 0),
  (.goto (-42), 3, 28, 0, 0, 0, 0)]
theorem qX7_readyDay_28 : jchk 145 28 kX7_readyDay_28 = true := by decide +kernel
def kX7_readyDay_73 : List JI := [(.aload_n 0, 1, 0, 0, 0, 0, 0),
  (.iconst 1, 1, 0, 1, 0, 0, 0),
  (.putfield 44, 3, 7, 10, 3, 0, 445)]
theorem qX7_readyDay_73 : jchk 145 73 kX7_readyDay_73 = true := by decide +kernel
def kX7_readyDay_78 : List JI := [(.aload_n 0, 1, 0, 0, 0, 0, 0),
  (.getfield 34, 3, 7, 7, 4, 0, 442),
  (.iload_n 1, 1, 1, 0, 0, 0, 0),
  (.iaload, 1, 0, 0, 0, 0, 0),
  (.ireturn, 1, 0, 0, 0, 0, 0)]
theorem qX7_readyDay_78 : jchk 145 78 kX7_readyDay_78 = true := by decide +kernel
def kX11_readyAhead_0 : List JI := [(.aload_n 0, 1, 0, 0, 0, 0, 0),
  (.getfield 81, 3, 11, 11, 4, 0, 483),
  (.aload_n 0, 1, 0, 0, 0, 0, 0),
  (.getfield 147, 3, 11, 0, 1, 0, 472),
  (.aload_n 0, 1, 0, 0, 0, 0, 0),
  (.getfield 16, 3, 11, 2, 4, 0, 474),
  (.aload_n 0, 1, 0, 0, 0, 0, 0),
  (.getfield 23, 3, 11, 3, 4, 0, 475),
  (.invokevirtual 357, 3, 140, 3, 0, 7, 852),
  (.aload_n 0, 1, 0, 0, 0, 0, 0),
  (.getfield 81, 3, 11, 11, 4, 0, 483),
  (.iload_n 1, 1, 1, 0, 0, 0, 0),
  (.aload_n 0, 1, 0, 0, 0, 0, 0),
  (.getfield 37, 3, 11, 5, 4, 0, 477),
  (.aload_n 0, 1, 0, 0, 0, 0, 0),
  (.getfield 30, 3, 11, 4, 4, 0, 476),
  (.invokevirtual 361, 3, 145, 3, 0, 7, 859),
  (.ireturn, 1, 0, 0, 0, 0, 0)]
theorem qX11_readyAhead_0 : jchk 146 0 kX11_readyAhead_0 = true := by decide +kernel
def kX11_ready_0 : List JI := [(.aload_n 0, 1, 0, 0, 0, 0, 0),
  (.iload_n 1, 1, 1, 0, 0, 0, 0),
  (.invokevirtual 188, 3, 60, 1, 0, 11, 635),
  (.ifCond .ne 7, 3, 12, 0, 0, 0, 0),
  (.iconst (-1), 1, 0, -1, 0, 0, 0),
  (.goto 25, 3, 34, 0, 0, 0, 0)]
theorem qX11_ready_0 : jchk 147 0 kX11_ready_0 = true := by decide +kernel
def kX11_ready_12 : List JI := [(.aload_n 0, 1, 0, 0, 0, 0, 0),
  (.getfield 37, 3, 11, 5, 4, 0, 477),
  (.getfield 191, 3, 10, 3, 4, 0, 235),
  (.iload_n 1, 1, 1, 0, 0, 0, 0),
  (.aaload, 1, 0, 0, 0, 0, 0),
  (.getfield 227, 3, 4, 3, 1, 0, 174),
  (.iconst 3, 1, 0, 3, 0, 0, 0),
  (.if_icmp .ne 8, 3, 33, 0, 0, 0, 0),
  (.bipush (-3), 2, 0, -3, 0, 0, 0),
  (.goto 4, 3, 34, 0, 0, 0, 0)]
theorem qX11_ready_12 : jchk 147 12 kX11_ready_12 = true := by decide +kernel
def kX11_ready_33 : List JI := [(.iconst 0, 1, 0, 0, 0, 0, 0)]
theorem qX11_ready_33 : jchk 147 33 kX11_ready_33 = true := by decide +kernel
def kX11_ready_34 : List JI := [(.istore_n 2, 1, 2, 0, 0, 0, 0),
  (.iload_n 2, 1, 2, 0, 0, 0, 0),
  (.ifCond .eq 9, 3, 45, 0, 0, 0, 0),
  (.aload_n 0, 1, 0, 0, 0, 0, 0),
  (.iload_n 2, 1, 2, 0, 0, 0, 0),
  (.invokevirtual 93, 3, 16, 1, 0, 11, 519),
  (.ireturn, 1, 0, 0, 0, 0, 0)]
theorem qX11_ready_34 : jchk 147 34 kX11_ready_34 = true := by decide +kernel
def kX11_ready_45 : List JI := [(.aload_n 0, 1, 0, 0, 0, 0, 0),
  (.getfield 37, 3, 11, 5, 4, 0, 477),
  (.getfield 191, 3, 10, 3, 4, 0, 235),
  (.iload_n 1, 1, 1, 0, 0, 0, 0),
  (.aaload, 1, 0, 0, 0, 0, 0),
  (.getfield 227, 3, 4, 3, 1, 0, 174),
  (.iconst 2, 1, 0, 2, 0, 0, 0),
  (.if_icmp .ne 16, 3, 74, 0, 0, 0, 0),
  (.aload_n 0, 1, 0, 0, 0, 0, 0),
  (.getfield 37, 3, 11, 5, 4, 0, 477),
  (.getfield 191, 3, 10, 3, 4, 0, 235),
  (.iload_n 1, 1, 1, 0, 0, 0, 0),
  (.aaload, 1, 0, 0, 0, 0, 0),
  (.getfield 305, 3, 4, 9, 1, 0, 193),
  (.ireturn, 1, 0, 0, 0, 0, 0)]
theorem qX11_ready_45 : jchk 147 45 kX11_ready_45 = true := by decide +kernel
def kX11_ready_74 : List JI := [(.aload_n 0, 1, 0, 0, 0, 0, 0),
  (.iload_n 1, 1, 1, 0, 0, 0, 0),
  (.invokevirtual 308, 3, 146, 1, 0, 11, 848),
  (.ireturn, 1, 0, 0, 0, 0, 0)]
theorem qX11_ready_74 : jchk 147 74 kX11_ready_74 = true := by decide +kernel
def kX12_swap_0 : List JI := [(.iload_n 3, 1, 3, 0, 0, 0, 0),
  (.ifCond .ne 10, 3, 11, 0, 0, 0, 0),
  (.aload_n 0, 1, 0, 0, 0, 0, 0),
  (.getfield 152, 3, 12, 59, 4, 0, 1018),
  (.iload_n 1, 1, 1, 0, 0, 0, 0),
  (.iload_n 2, 1, 2, 0, 0, 0, 0),
  (.iastore, 1, 0, 0, 0, 0, 0)]
theorem qX12_swap_0 : jchk 148 0 kX12_swap_0 = true := by decide +kernel
def kX12_swap_11 : List JI := [(.aload_n 0, 1, 0, 0, 0, 0, 0),
  (.getfield 152, 3, 12, 59, 4, 0, 1018),
  (.iload_n 1, 1, 1, 0, 0, 0, 0),
  (.iaload, 1, 0, 0, 0, 0, 0),
  (.ireturn, 1, 0, 0, 0, 0, 0)]
theorem qX12_swap_11 : jchk 148 11 kX12_swap_11 = true := by decide +kernel
def kX12_aside_0 : List JI := [(.aload_n 0, 1, 0, 0, 0, 0, 0),
  (.aload_n 0, 1, 0, 0, 0, 0, 0),
  (.iconst 0, 1, 0, 0, 0, 0, 0),
  (.aload_n 0, 1, 0, 0, 0, 0, 0),
  (.getfield 184, 3, 12, 0, 1, 0, 959),
  (.iload_n 1, 1, 1, 0, 0, 0, 0),
  (.invokevirtual 273, 3, 148, 3, 0, 12, 1352),
  (.putfield 184, 3, 12, 0, 1, 0, 959),
  (.aload_n 0, 1, 0, 0, 0, 0, 0),
  (.aload_n 0, 1, 0, 0, 0, 0, 0),
  (.iconst 1, 1, 0, 1, 0, 0, 0),
  (.aload_n 0, 1, 0, 0, 0, 0, 0),
  (.getfield 216, 3, 12, 30, 1, 0, 989),
  (.iload_n 1, 1, 1, 0, 0, 0, 0),
  (.invokevirtual 273, 3, 148, 3, 0, 12, 1352),
  (.putfield 216, 3, 12, 30, 1, 0, 989),
  (.aload_n 0, 1, 0, 0, 0, 0, 0),
  (.aload_n 0, 1, 0, 0, 0, 0, 0),
  (.iconst 2, 1, 0, 2, 0, 0, 0),
  (.aload_n 0, 1, 0, 0, 0, 0, 0),
  (.getfield 219, 3, 12, 31, 1, 0, 990),
  (.iload_n 1, 1, 1, 0, 0, 0, 0),
  (.invokevirtual 273, 3, 148, 3, 0, 12, 1352),
  (.putfield 219, 3, 12, 31, 1, 0, 990),
  (.aload_n 0, 1, 0, 0, 0, 0, 0),
  (.aload_n 0, 1, 0, 0, 0, 0, 0),
  (.iconst 3, 1, 0, 3, 0, 0, 0),
  (.aload_n 0, 1, 0, 0, 0, 0, 0),
  (.getfield 213, 3, 12, 32, 1, 0, 991),
  (.iload_n 1, 1, 1, 0, 0, 0, 0),
  (.invokevirtual 273, 3, 148, 3, 0, 12, 1352),
  (.putfield 213, 3, 12, 32, 1, 0, 991),
  (.iconst 0, 1, 0, 0, 0, 0, 0),
  (.istore_n 2, 1, 2, 0, 0, 0, 0)]
theorem qX12_aside_0 : jchk 149 0 kX12_aside_0 = true := by decide +kernel
def kX12_aside_58 : List JI := [(.iload_n 2, 1, 2, 0, 0, 0, 0),
  (.bipush 6, 2, 0, 6, 0, 0, 0),
  (.if_icmp .ge 50, 3, 111, 0, 0, 0, 0),
  (.aload_n 0, 1, 0, 0, 0, 0, 0),
  (.getfield 22, 3, 12, 5, 4, 0, 964),
  (.iload_n 2, 1, 2, 0, 0, 0, 0),
  (.aload_n 0, 1, 0, 0, 0, 0, 0),
  (.iconst 4, 1, 0, 4, 0, 0, 0),
  (.iload_n 2, 1, 2, 0, 0, 0, 0),
  (.iadd, 1, 0, 0, 0, 0, 0),
  (.aload_n 0, 1, 0, 0, 0, 0, 0),
  (.getfield 22, 3, 12, 5, 4, 0, 964),
  (.iload_n 2, 1, 2, 0, 0, 0, 0),
  (.iaload, 1, 0, 0, 0, 0, 0),
  (.iload_n 1, 1, 1, 0, 0, 0, 0),
  (.invokevirtual 273, 3, 148, 3, 0, 12, 1352),
  (.iastore, 1, 0, 0, 0, 0, 0),
  (.aload_n 0, 1, 0, 0, 0, 0, 0),
  (.getfield 86, 3, 12, 28, 4, 0, 987),
  (.iload_n 2, 1, 2, 0, 0, 0, 0),
  (.aload_n 0, 1, 0, 0, 0, 0, 0),
  (.bipush 10, 2, 0, 10, 0, 0, 0),
  (.iload_n 2, 1, 2, 0, 0, 0, 0),
  (.iadd, 1, 0, 0, 0, 0, 0),
  (.aload_n 0, 1, 0, 0, 0, 0, 0),
  (.getfield 86, 3, 12, 28, 4, 0, 987),
  (.iload_n 2, 1, 2, 0, 0, 0, 0),
  (.iaload, 1, 0, 0, 0, 0, 0),
  (.iload_n 1, 1, 1, 0, 0, 0, 0),
  (.invokevirtual 273, 3, 148, 3, 0, 12, 1352),
  (.iastore, 1, 0, 0, 0, 0, 0),
  (.iinc 2 1, 3, 2, 1, 0, 0, 0),
  (.goto (-50), 3, 58, 0, 0, 0, 0)]
theorem qX12_aside_58 : jchk 149 58 kX12_aside_58 = true := by decide +kernel
def kX12_aside_111 : List JI := [(.iconst 0, 1, 0, 0, 0, 0, 0),
  (.istore_n 2, 1, 2, 0, 0, 0, 0)]
theorem qX12_aside_111 : jchk 149 111 kX12_aside_111 = true := by decide +kernel
def kX12_aside_113 : List JI := [(.iload_n 2, 1, 2, 0, 0, 0, 0),
  (.bipush 16, 2, 0, 16, 0, 0, 0),
  (.if_icmp .ge 246, 3, 362, 0, 0, 0, 0),
  (.bipush 20, 2, 0, 20, 0, 0, 0),
  (.bipush 16, 2, 0, 16, 0, 0, 0),
  (.iload_n 2, 1, 2, 0, 0, 0, 0),
  (.imul, 1, 0, 0, 0, 0, 0),
  (.iadd, 1, 0, 0, 0, 0, 0),
  (.istore_n 3, 1, 3, 0, 0, 0, 0),
  (.aload_n 0, 1, 0, 0, 0, 0, 0),
  (.getfield 55, 3, 12, 18, 4, 0, 977),
  (.iload_n 2, 1, 2, 0, 0, 0, 0),
  (.aload_n 0, 1, 0, 0, 0, 0, 0),
  (.iload_n 3, 1, 3, 0, 0, 0, 0),
  (.aload_n 0, 1, 0, 0, 0, 0, 0),
  (.getfield 55, 3, 12, 18, 4, 0, 977),
  (.iload_n 2, 1, 2, 0, 0, 0, 0),
  (.iaload, 1, 0, 0, 0, 0, 0),
  (.iload_n 1, 1, 1, 0, 0, 0, 0),
  (.invokevirtual 273, 3, 148, 3, 0, 12, 1352),
  (.iastore, 1, 0, 0, 0, 0, 0),
  (.aload_n 0, 1, 0, 0, 0, 0, 0),
  (.getfield 58, 3, 12, 19, 4, 0, 978),
  (.iload_n 2, 1, 2, 0, 0, 0, 0),
  (.aload_n 0, 1, 0, 0, 0, 0, 0),
  (.iload_n 3, 1, 3, 0, 0, 0, 0),
  (.iconst 1, 1, 0, 1, 0, 0, 0),
  (.iadd, 1, 0, 0, 0, 0, 0),
  (.aload_n 0, 1, 0, 0, 0, 0, 0),
  (.getfield 58, 3, 12, 19, 4, 0, 978),
  (.iload_n 2, 1, 2, 0, 0, 0, 0),
  (.iaload, 1, 0, 0, 0, 0, 0),
  (.iload_n 1, 1, 1, 0, 0, 0, 0),
  (.invokevirtual 273, 3, 148, 3, 0, 12, 1352),
  (.iastore, 1, 0, 0, 0, 0, 0),
  (.aload_n 0, 1, 0, 0, 0, 0, 0),
  (.getfield 61, 3, 12, 20, 4, 0, 979),
  (.iload_n 2, 1, 2, 0, 0, 0, 0),
  (.aload_n 0, 1, 0, 0, 0, 0, 0),
  (.iload_n 3, 1, 3, 0, 0, 0, 0),
  (.iconst 2, 1, 0, 2, 0, 0, 0),
  (.iadd, 1, 0, 0, 0, 0, 0),
  (.aload_n 0, 1, 0, 0, 0, 0, 0),
  (.getfield 61, 3, 12, 20, 4, 0, 979),
  (.iload_n 2, 1, 2, 0, 0, 0, 0),
  (.iaload, 1, 0, 0, 0, 0, 0),
  (.iload_n 1, 1, 1, 0, 0, 0, 0),
  (.invokevirtual 273, 3, 148, 3, 0, 12, 1352),
  (.iastore, 1, 0, 0, 0, 0, 0),
  (.aload_n 0, 1, 0, 0, 0, 0, 0),
  (.getfield 64, 3, 12, 21, 4, 0, 980),
  (.iload_n 2, 1, 2, 0, 0, 0, 0),
  (.aload_n 0, 1, 0, 0, 0, 0, 0),
  (.iload_n 3, 1, 3, 0, 0, 0, 0),
  (.iconst 3, 1, 0, 3, 0, 0, 0),
  (.iadd, 1, 0, 0, 0, 0, 0),
  (.aload_n 0, 1, 0, 0, 0, 0, 0),
  (.getfield 64, 3, 12, 21, 4, 0, 980),
  (.iload_n 2, 1, 2, 0, 0, 0, 0),
  (.iaload, 1, 0, 0, 0, 0, 0),
  (.iload_n 1, 1, 1, 0, 0, 0, 0),
  (.invokevirtual 273, 3, 148, 3, 0, 12, 1352),
  (.iastore, 1, 0, 0, 0, 0, 0),
  (.aload_n 0, 1, 0, 0, 0, 0, 0),
  (.getfield 67, 3, 12, 22, 4, 0, 981),
  (.iload_n 2, 1, 2, 0, 0, 0, 0),
  (.aload_n 0, 1, 0, 0, 0, 0, 0),
  (.iload_n 3, 1, 3, 0, 0, 0, 0),
  (.iconst 4, 1, 0, 4, 0, 0, 0),
  (.iadd, 1, 0, 0, 0, 0, 0),
  (.aload_n 0, 1, 0, 0, 0, 0, 0),
  (.getfield 67, 3, 12, 22, 4, 0, 981),
  (.iload_n 2, 1, 2, 0, 0, 0, 0),
  (.baload, 1, 0, 0, 0, 0, 0),
  (.ifCond .eq 7, 3, 227, 0, 0, 0, 0),
  (.iconst 1, 1, 0, 1, 0, 0, 0),
  (.goto 4, 3, 228, 0, 0, 0, 0)]
theorem qX12_aside_113 : jchk 149 113 kX12_aside_113 = true := by decide +kernel
def kX12_aside_227 : List JI := [(.iconst 0, 1, 0, 0, 0, 0, 0)]
theorem qX12_aside_227 : jchk 149 227 kX12_aside_227 = true := by decide +kernel
def kX12_aside_228 : List JI := [(.iload_n 1, 1, 1, 0, 0, 0, 0),
  (.invokevirtual 273, 3, 148, 3, 0, 12, 1352),
  (.iconst 1, 1, 0, 1, 0, 0, 0),
  (.if_icmp .ne 7, 3, 240, 0, 0, 0, 0),
  (.iconst 1, 1, 0, 1, 0, 0, 0),
  (.goto 4, 3, 241, 0, 0, 0, 0)]
theorem qX12_aside_228 : jchk 149 228 kX12_aside_228 = true := by decide +kernel
def kX12_aside_240 : List JI := [(.iconst 0, 1, 0, 0, 0, 0, 0)]
theorem qX12_aside_240 : jchk 149 240 kX12_aside_240 = true := by decide +kernel
def kX12_aside_241 : List JI := [(.bastore, 1, 0, 0, 0, 0, 0),
  (.aload_n 0, 1, 0, 0, 0, 0, 0),
  (.getfield 71, 3, 12, 23, 4, 0, 982),
  (.iload_n 2, 1, 2, 0, 0, 0, 0),
  (.aload_n 0, 1, 0, 0, 0, 0, 0),
  (.iload_n 3, 1, 3, 0, 0, 0, 0),
  (.iconst 5, 1, 0, 5, 0, 0, 0),
  (.iadd, 1, 0, 0, 0, 0, 0),
  (.aload_n 0, 1, 0, 0, 0, 0, 0),
  (.getfield 71, 3, 12, 23, 4, 0, 982),
  (.iload_n 2, 1, 2, 0, 0, 0, 0),
  (.iaload, 1, 0, 0, 0, 0, 0),
  (.iload_n 1, 1, 1, 0, 0, 0, 0),
  (.invokevirtual 273, 3, 148, 3, 0, 12, 1352),
  (.iastore, 1, 0, 0, 0, 0, 0),
  (.aload_n 0, 1, 0, 0, 0, 0, 0),
  (.getfield 74, 3, 12, 24, 4, 0, 983),
  (.iload_n 2, 1, 2, 0, 0, 0, 0),
  (.aload_n 0, 1, 0, 0, 0, 0, 0),
  (.iload_n 3, 1, 3, 0, 0, 0, 0),
  (.bipush 6, 2, 0, 6, 0, 0, 0),
  (.iadd, 1, 0, 0, 0, 0, 0),
  (.aload_n 0, 1, 0, 0, 0, 0, 0),
  (.getfield 74, 3, 12, 24, 4, 0, 983),
  (.iload_n 2, 1, 2, 0, 0, 0, 0),
  (.iaload, 1, 0, 0, 0, 0, 0),
  (.iload_n 1, 1, 1, 0, 0, 0, 0),
  (.invokevirtual 273, 3, 148, 3, 0, 12, 1352),
  (.iastore, 1, 0, 0, 0, 0, 0),
  (.aload_n 0, 1, 0, 0, 0, 0, 0),
  (.getfield 49, 3, 12, 16, 4, 0, 975),
  (.iload_n 2, 1, 2, 0, 0, 0, 0),
  (.aload_n 0, 1, 0, 0, 0, 0, 0),
  (.iload_n 3, 1, 3, 0, 0, 0, 0),
  (.bipush 7, 2, 0, 7, 0, 0, 0),
  (.iadd, 1, 0, 0, 0, 0, 0),
  (.aload_n 0, 1, 0, 0, 0, 0, 0),
  (.getfield 49, 3, 12, 16, 4, 0, 975),
  (.iload_n 2, 1, 2, 0, 0, 0, 0),
  (.iaload, 1, 0, 0, 0, 0, 0),
  (.iload_n 1, 1, 1, 0, 0, 0, 0),
  (.invokevirtual 273, 3, 148, 3, 0, 12, 1352),
  (.iastore, 1, 0, 0, 0, 0, 0),
  (.iconst 0, 1, 0, 0, 0, 0, 0),
  (.istore 4, 2, 4, 0, 0, 0, 0)]
theorem qX12_aside_241 : jchk 149 241 kX12_aside_241 = true := by decide +kernel
def kX12_aside_307 : List JI := [(.iload 4, 2, 4, 0, 0, 0, 0),
  (.bipush 6, 2, 0, 6, 0, 0, 0),
  (.if_icmp .ge 45, 3, 356, 0, 0, 0, 0),
  (.aload_n 0, 1, 0, 0, 0, 0, 0),
  (.getfield 77, 3, 12, 25, 4, 0, 984),
  (.bipush 6, 2, 0, 6, 0, 0, 0),
  (.iload_n 2, 1, 2, 0, 0, 0, 0),
  (.imul, 1, 0, 0, 0, 0, 0),
  (.iload 4, 2, 4, 0, 0, 0, 0),
  (.iadd, 1, 0, 0, 0, 0, 0),
  (.aload_n 0, 1, 0, 0, 0, 0, 0),
  (.iload_n 3, 1, 3, 0, 0, 0, 0),
  (.bipush 8, 2, 0, 8, 0, 0, 0),
  (.iadd, 1, 0, 0, 0, 0, 0),
  (.iload 4, 2, 4, 0, 0, 0, 0),
  (.iadd, 1, 0, 0, 0, 0, 0),
  (.aload_n 0, 1, 0, 0, 0, 0, 0),
  (.getfield 77, 3, 12, 25, 4, 0, 984),
  (.bipush 6, 2, 0, 6, 0, 0, 0),
  (.iload_n 2, 1, 2, 0, 0, 0, 0),
  (.imul, 1, 0, 0, 0, 0, 0),
  (.iload 4, 2, 4, 0, 0, 0, 0),
  (.iadd, 1, 0, 0, 0, 0, 0),
  (.iaload, 1, 0, 0, 0, 0, 0),
  (.iload_n 1, 1, 1, 0, 0, 0, 0),
  (.invokevirtual 273, 3, 148, 3, 0, 12, 1352),
  (.iastore, 1, 0, 0, 0, 0, 0),
  (.iinc 4 1, 3, 4, 1, 0, 0, 0),
  (.goto (-46), 3, 307, 0, 0, 0, 0)]
theorem qX12_aside_307 : jchk 149 307 kX12_aside_307 = true := by decide +kernel
def kX12_aside_356 : List JI := [(.iinc 2 1, 3, 2, 1, 0, 0, 0),
  (.goto (-246), 3, 113, 0, 0, 0, 0)]
theorem qX12_aside_356 : jchk 149 356 kX12_aside_356 = true := by decide +kernel
def kX12_aside_362 : List JI := [(.iconst 0, 1, 0, 0, 0, 0, 0),
  (.istore_n 2, 1, 2, 0, 0, 0, 0)]
theorem qX12_aside_362 : jchk 149 362 kX12_aside_362 = true := by decide +kernel
def kX12_aside_364 : List JI := [(.iload_n 2, 1, 2, 0, 0, 0, 0),
  (.bipush 96, 2, 0, 96, 0, 0, 0),
  (.if_icmp .ge 46, 3, 413, 0, 0, 0, 0),
  (.aload_n 0, 1, 0, 0, 0, 0, 0),
  (.getfield 155, 3, 12, 60, 4, 0, 1019),
  (.iload_n 2, 1, 2, 0, 0, 0, 0),
  (.iload_n 1, 1, 1, 0, 0, 0, 0),
  (.ifCond .eq 12, 3, 388, 0, 0, 0, 0),
  (.aload_n 0, 1, 0, 0, 0, 0, 0),
  (.getfield 155, 3, 12, 60, 4, 0, 1019),
  (.iload_n 2, 1, 2, 0, 0, 0, 0),
  (.iaload, 1, 0, 0, 0, 0, 0),
  (.goto 9, 3, 394, 0, 0, 0, 0)]
theorem qX12_aside_364 : jchk 149 364 kX12_aside_364 = true := by decide +kernel
def kX12_aside_388 : List JI := [(.aload_n 0, 1, 0, 0, 0, 0, 0),
  (.getfield 80, 3, 12, 26, 4, 0, 985),
  (.iload_n 2, 1, 2, 0, 0, 0, 0),
  (.iaload, 1, 0, 0, 0, 0, 0)]
theorem qX12_aside_388 : jchk 149 388 kX12_aside_388 = true := by decide +kernel
def kX12_aside_394 : List JI := [(.iastore, 1, 0, 0, 0, 0, 0),
  (.aload_n 0, 1, 0, 0, 0, 0, 0),
  (.getfield 80, 3, 12, 26, 4, 0, 985),
  (.iload_n 2, 1, 2, 0, 0, 0, 0),
  (.aload_n 0, 1, 0, 0, 0, 0, 0),
  (.getfield 155, 3, 12, 60, 4, 0, 1019),
  (.iload_n 2, 1, 2, 0, 0, 0, 0),
  (.iaload, 1, 0, 0, 0, 0, 0),
  (.iastore, 1, 0, 0, 0, 0, 0),
  (.iinc 2 1, 3, 2, 1, 0, 0, 0),
  (.goto (-46), 3, 364, 0, 0, 0, 0)]
theorem qX12_aside_394 : jchk 149 394 kX12_aside_394 = true := by decide +kernel
def kX12_aside_413 : List JI := [(.return_, 1, 0, 0, 0, 0, 0)]
theorem qX12_aside_413 : jchk 149 413 kX12_aside_413 = true := by decide +kernel
def kX12_goAhead_0 : List JI := [(.iconst 0, 1, 0, 0, 0, 0, 0),
  (.istore_n 1, 1, 1, 0, 0, 0, 0)]
theorem qX12_goAhead_0 : jchk 150 0 kX12_goAhead_0 = true := by decide +kernel
def kX12_goAhead_2 : List JI := [(.iload_n 1, 1, 1, 0, 0, 0, 0),
  (.sipush 300, 3, 0, 300, 0, 0, 0),
  (.if_icmp .ge 14, 3, 20, 0, 0, 0, 0),
  (.aload_n 0, 1, 0, 0, 0, 0, 0),
  (.invokevirtual 236, 3, 94, 0, 0, 12, 1249),
  (.istore_n 2, 1, 2, 0, 0, 0, 0),
  (.iinc 1 1, 3, 1, 1, 0, 0, 0),
  (.goto (-15), 3, 2, 0, 0, 0, 0)]
theorem qX12_goAhead_2 : jchk 150 2 kX12_goAhead_2 = true := by decide +kernel
def kX12_goAhead_20 : List JI := [(.return_, 1, 0, 0, 0, 0, 0)]
theorem qX12_goAhead_20 : jchk 150 20 kX12_goAhead_20 = true := by decide +kernel
def kX12_ready_0 : List JI := [(.aload_n 0, 1, 0, 0, 0, 0, 0),
  (.iload_n 1, 1, 1, 0, 0, 0, 0),
  (.invokevirtual 198, 3, 63, 1, 0, 12, 1233),
  (.ifCond .ne 9, 3, 14, 0, 0, 0, 0),
  (.aload_n 0, 1, 0, 0, 0, 0, 0),
  (.iconst (-1), 1, 0, -1, 0, 0, 0),
  (.invokevirtual 172, 3, 20, 1, 0, 12, 1163),
  (.ireturn, 1, 0, 0, 0, 0, 0)]
theorem qX12_ready_0 : jchk 151 0 kX12_ready_0 = true := by decide +kernel
def kX12_ready_14 : List JI := [(.aload_n 0, 1, 0, 0, 0, 0, 0),
  (.getfield 55, 3, 12, 18, 4, 0, 977),
  (.iload_n 1, 1, 1, 0, 0, 0, 0),
  (.iaload, 1, 0, 0, 0, 0, 0),
  (.iconst 3, 1, 0, 3, 0, 0, 0),
  (.if_icmp .ne 10, 3, 31, 0, 0, 0, 0),
  (.aload_n 0, 1, 0, 0, 0, 0, 0),
  (.bipush (-3), 2, 0, -3, 0, 0, 0),
  (.invokevirtual 172, 3, 20, 1, 0, 12, 1163),
  (.ireturn, 1, 0, 0, 0, 0, 0)]
theorem qX12_ready_14 : jchk 151 14 kX12_ready_14 = true := by decide +kernel
def kX12_ready_31 : List JI := [(.aload_n 0, 1, 0, 0, 0, 0, 0),
  (.getfield 55, 3, 12, 18, 4, 0, 977),
  (.iload_n 1, 1, 1, 0, 0, 0, 0),
  (.iaload, 1, 0, 0, 0, 0, 0),
  (.iconst 2, 1, 0, 2, 0, 0, 0),
  (.if_icmp .ne 10, 3, 48, 0, 0, 0, 0),
  (.aload_n 0, 1, 0, 0, 0, 0, 0),
  (.getfield 74, 3, 12, 24, 4, 0, 983),
  (.iload_n 1, 1, 1, 0, 0, 0, 0),
  (.iaload, 1, 0, 0, 0, 0, 0),
  (.ireturn, 1, 0, 0, 0, 0, 0)]
theorem qX12_ready_31 : jchk 151 31 kX12_ready_31 = true := by decide +kernel
def kX12_ready_48 : List JI := [(.aload_n 0, 1, 0, 0, 0, 0, 0),
  (.iconst 0, 1, 0, 0, 0, 0, 0),
  (.invokevirtual 277, 3, 149, 1, 0, 12, 1348),
  (.aload_n 0, 1, 0, 0, 0, 0, 0),
  (.invokevirtual 281, 3, 150, 0, 0, 12, 1356),
  (.aload_n 0, 1, 0, 0, 0, 0, 0),
  (.getfield 74, 3, 12, 24, 4, 0, 983),
  (.iload_n 1, 1, 1, 0, 0, 0, 0),
  (.iaload, 1, 0, 0, 0, 0, 0),
  (.istore_n 2, 1, 2, 0, 0, 0, 0),
  (.aload_n 0, 1, 0, 0, 0, 0, 0),
  (.iconst 1, 1, 0, 1, 0, 0, 0),
  (.invokevirtual 277, 3, 149, 1, 0, 12, 1348),
  (.iload_n 2, 1, 2, 0, 0, 0, 0),
  (.ireturn, 1, 0, 0, 0, 0, 0)]
theorem qX12_ready_48 : jchk 151 48 kX12_ready_48 = true := by decide +kernel
def kX11_lateness_0 : List JI := [(.iload_n 0, 1, 0, 0, 0, 0, 0),
  (.bipush (-9), 2, 0, -9, 0, 0, 0),
  (.if_icmp .ne 13, 3, 16, 0, 0, 0, 0),
  (.iload_n 2, 1, 2, 0, 0, 0, 0),
  (.sipush 300, 3, 0, 300, 0, 0, 0),
  (.iadd, 1, 0, 0, 0, 0, 0),
  (.iconst 1, 1, 0, 1, 0, 0, 0),
  (.iadd, 1, 0, 0, 0, 0, 0),
  (.goto 4, 3, 17, 0, 0, 0, 0)]
theorem qX11_lateness_0 : jchk 152 0 kX11_lateness_0 = true := by decide +kernel
def kX11_lateness_16 : List JI := [(.iload_n 0, 1, 0, 0, 0, 0, 0)]
theorem qX11_lateness_16 : jchk 152 16 kX11_lateness_16 = true := by decide +kernel
def kX11_lateness_17 : List JI := [(.istore_n 3, 1, 3, 0, 0, 0, 0),
  (.iconst 0, 1, 0, 0, 0, 0, 0),
  (.iload_n 3, 1, 3, 0, 0, 0, 0),
  (.iload_n 1, 1, 1, 0, 0, 0, 0),
  (.isub, 1, 0, 0, 0, 0, 0),
  (.invokestatic 369, 3, 997, 1, 0, 0, 890),
  (.ireturn, 1, 0, 0, 0, 0, 0)]
theorem qX11_lateness_17 : jchk 152 17 kX11_lateness_17 = true := by decide +kernel
def kX11_late_0 : List JI := [(.aload_n 0, 1, 0, 0, 0, 0, 0),
  (.iload_n 1, 1, 1, 0, 0, 0, 0),
  (.invokevirtual 188, 3, 60, 1, 0, 11, 635),
  (.ifCond .ne 7, 3, 12, 0, 0, 0, 0),
  (.iconst (-1), 1, 0, -1, 0, 0, 0),
  (.goto 24, 3, 33, 0, 0, 0, 0)]
theorem qX11_late_0 : jchk 153 0 kX11_late_0 = true := by decide +kernel
def kX11_late_12 : List JI := [(.aload_n 0, 1, 0, 0, 0, 0, 0),
  (.getfield 37, 3, 11, 5, 4, 0, 477),
  (.getfield 191, 3, 10, 3, 4, 0, 235),
  (.iload_n 1, 1, 1, 0, 0, 0, 0),
  (.aaload, 1, 0, 0, 0, 0, 0),
  (.invokevirtual 195, 3, 61, 0, 0, 4, 639),
  (.ifCond .ne 8, 3, 32, 0, 0, 0, 0),
  (.bipush (-3), 2, 0, -3, 0, 0, 0),
  (.goto 4, 3, 33, 0, 0, 0, 0)]
theorem qX11_late_12 : jchk 153 12 kX11_late_12 = true := by decide +kernel
def kX11_late_32 : List JI := [(.iconst 0, 1, 0, 0, 0, 0, 0)]
theorem qX11_late_32 : jchk 153 32 kX11_late_32 = true := by decide +kernel
def kX11_late_33 : List JI := [(.istore_n 2, 1, 2, 0, 0, 0, 0),
  (.iload_n 2, 1, 2, 0, 0, 0, 0),
  (.ifCond .eq 9, 3, 44, 0, 0, 0, 0),
  (.aload_n 0, 1, 0, 0, 0, 0, 0),
  (.iload_n 2, 1, 2, 0, 0, 0, 0),
  (.invokevirtual 93, 3, 16, 1, 0, 11, 519),
  (.ireturn, 1, 0, 0, 0, 0, 0)]
theorem qX11_late_33 : jchk 153 33 kX11_late_33 = true := by decide +kernel
def kX11_late_44 : List JI := [(.aload_n 0, 1, 0, 0, 0, 0, 0),
  (.iload_n 1, 1, 1, 0, 0, 0, 0),
  (.invokevirtual 308, 3, 146, 1, 0, 11, 848),
  (.aload_n 0, 1, 0, 0, 0, 0, 0),
  (.getfield 37, 3, 11, 5, 4, 0, 477),
  (.getfield 191, 3, 10, 3, 4, 0, 235),
  (.iload_n 1, 1, 1, 0, 0, 0, 0),
  (.aaload, 1, 0, 0, 0, 0, 0),
  (.getfield 311, 3, 4, 2, 1, 0, 170),
  (.aload_n 0, 1, 0, 0, 0, 0, 0),
  (.getfield 147, 3, 11, 0, 1, 0, 472),
  (.invokestatic 314, 3, 152, 3, 0, 11, 887),
  (.ireturn, 1, 0, 0, 0, 0, 0)]
theorem qX11_late_44 : jchk 153 44 kX11_late_44 = true := by decide +kernel
def kX12_lateBy_0 : List JI := [(.iload_n 0, 1, 0, 0, 0, 0, 0),
  (.ifCond .ge 11, 3, 12, 0, 0, 0, 0),
  (.iload_n 1, 1, 1, 0, 0, 0, 0),
  (.sipush 301, 3, 0, 301, 0, 0, 0),
  (.iadd, 1, 0, 0, 0, 0, 0),
  (.goto 4, 3, 13, 0, 0, 0, 0)]
theorem qX12_lateBy_0 : jchk 154 0 kX12_lateBy_0 = true := by decide +kernel
def kX12_lateBy_12 : List JI := [(.iload_n 0, 1, 0, 0, 0, 0, 0)]
theorem qX12_lateBy_12 : jchk 154 12 kX12_lateBy_12 = true := by decide +kernel
def kX12_lateBy_13 : List JI := [(.iload_n 2, 1, 2, 0, 0, 0, 0),
  (.isub, 1, 0, 0, 0, 0, 0),
  (.istore_n 3, 1, 3, 0, 0, 0, 0),
  (.iload_n 3, 1, 3, 0, 0, 0, 0),
  (.ifCond .le 7, 3, 24, 0, 0, 0, 0),
  (.iload_n 3, 1, 3, 0, 0, 0, 0),
  (.goto 4, 3, 25, 0, 0, 0, 0)]
theorem qX12_lateBy_13 : jchk 154 13 kX12_lateBy_13 = true := by decide +kernel
def kX12_lateBy_24 : List JI := [(.iconst 0, 1, 0, 0, 0, 0, 0)]
theorem qX12_lateBy_24 : jchk 154 24 kX12_lateBy_24 = true := by decide +kernel
def kX12_lateBy_25 : List JI := [(.ireturn, 1, 0, 0, 0, 0, 0)]
theorem qX12_lateBy_25 : jchk 154 25 kX12_lateBy_25 = true := by decide +kernel
def kX12_late_0 : List JI := [(.aload_n 0, 1, 0, 0, 0, 0, 0),
  (.iload_n 1, 1, 1, 0, 0, 0, 0),
  (.invokevirtual 198, 3, 63, 1, 0, 12, 1233),
  (.ifCond .ne 9, 3, 14, 0, 0, 0, 0),
  (.aload_n 0, 1, 0, 0, 0, 0, 0),
  (.iconst (-1), 1, 0, -1, 0, 0, 0),
  (.invokevirtual 172, 3, 20, 1, 0, 12, 1163),
  (.ireturn, 1, 0, 0, 0, 0, 0)]
theorem qX12_late_0 : jchk 155 0 kX12_late_0 = true := by decide +kernel
def kX12_late_14 : List JI := [(.aload_n 0, 1, 0, 0, 0, 0, 0),
  (.getfield 55, 3, 12, 18, 4, 0, 977),
  (.iload_n 1, 1, 1, 0, 0, 0, 0),
  (.iaload, 1, 0, 0, 0, 0, 0),
  (.iconst 1, 1, 0, 1, 0, 0, 0),
  (.if_icmp .le 10, 3, 31, 0, 0, 0, 0),
  (.aload_n 0, 1, 0, 0, 0, 0, 0),
  (.bipush (-3), 2, 0, -3, 0, 0, 0),
  (.invokevirtual 172, 3, 20, 1, 0, 12, 1163),
  (.ireturn, 1, 0, 0, 0, 0, 0)]
theorem qX12_late_14 : jchk 155 14 kX12_late_14 = true := by decide +kernel
def kX12_late_31 : List JI := [(.aload_n 0, 1, 0, 0, 0, 0, 0),
  (.iconst 0, 1, 0, 0, 0, 0, 0),
  (.invokevirtual 277, 3, 149, 1, 0, 12, 1348),
  (.aload_n 0, 1, 0, 0, 0, 0, 0),
  (.getfield 184, 3, 12, 0, 1, 0, 959),
  (.istore_n 2, 1, 2, 0, 0, 0, 0),
  (.aload_n 0, 1, 0, 0, 0, 0, 0),
  (.invokevirtual 281, 3, 150, 0, 0, 12, 1356),
  (.aload_n 0, 1, 0, 0, 0, 0, 0),
  (.getfield 74, 3, 12, 24, 4, 0, 983),
  (.iload_n 1, 1, 1, 0, 0, 0, 0),
  (.iaload, 1, 0, 0, 0, 0, 0),
  (.iload_n 2, 1, 2, 0, 0, 0, 0),
  (.aload_n 0, 1, 0, 0, 0, 0, 0),
  (.getfield 52, 3, 12, 17, 4, 0, 976),
  (.iload_n 1, 1, 1, 0, 0, 0, 0),
  (.iaload, 1, 0, 0, 0, 0, 0),
  (.invokestatic 284, 3, 154, 3, 0, 12, 1364),
  (.istore_n 3, 1, 3, 0, 0, 0, 0),
  (.aload_n 0, 1, 0, 0, 0, 0, 0),
  (.iconst 1, 1, 0, 1, 0, 0, 0),
  (.invokevirtual 277, 3, 149, 1, 0, 12, 1348),
  (.iload_n 3, 1, 3, 0, 0, 0, 0),
  (.ireturn, 1, 0, 0, 0, 0, 0)]
theorem qX12_late_31 : jchk 155 31 kX12_late_31 = true := by decide +kernel
def kX10_countOf_0 : List JI := [(.iconst 0, 1, 0, 0, 0, 0, 0),
  (.istore_n 2, 1, 2, 0, 0, 0, 0),
  (.iconst 0, 1, 0, 0, 0, 0, 0),
  (.istore_n 3, 1, 3, 0, 0, 0, 0)]
theorem qX10_countOf_0 : jchk 156 0 kX10_countOf_0 = true := by decide +kernel
def kX10_countOf_4 : List JI := [(.iload_n 3, 1, 3, 0, 0, 0, 0),
  (.aload_n 0, 1, 0, 0, 0, 0, 0),
  (.getfield 40, 3, 10, 4, 1, 0, 236),
  (.if_icmp .ge 25, 3, 34, 0, 0, 0, 0),
  (.aload_n 0, 1, 0, 0, 0, 0, 0),
  (.getfield 23, 3, 10, 3, 4, 0, 233),
  (.iload_n 3, 1, 3, 0, 0, 0, 0),
  (.aaload, 1, 0, 0, 0, 0, 0),
  (.getfield 48, 3, 4, 3, 1, 0, 172),
  (.iload_n 1, 1, 1, 0, 0, 0, 0),
  (.if_icmp .ne 6, 3, 28, 0, 0, 0, 0),
  (.iinc 2 1, 3, 2, 1, 0, 0, 0)]
theorem qX10_countOf_4 : jchk 156 4 kX10_countOf_4 = true := by decide +kernel
def kX10_countOf_28 : List JI := [(.iinc 3 1, 3, 3, 1, 0, 0, 0),
  (.goto (-27), 3, 4, 0, 0, 0, 0)]
theorem qX10_countOf_28 : jchk 156 28 kX10_countOf_28 = true := by decide +kernel
def kX10_countOf_34 : List JI := [(.iload_n 2, 1, 2, 0, 0, 0, 0),
  (.ireturn, 1, 0, 0, 0, 0, 0)]
theorem qX10_countOf_34 : jchk 156 34 kX10_countOf_34 = true := by decide +kernel
def kX7_gatherByNumbers_0 : List JI := [(.aload_n 0, 1, 0, 0, 0, 0, 0),
  (.iconst 0, 1, 0, 0, 0, 0, 0),
  (.putfield 108, 3, 7, 2, 1, 0, 436),
  (.iconst 0, 1, 0, 0, 0, 0, 0),
  (.istore_n 2, 1, 2, 0, 0, 0, 0)]
theorem qX7_gatherByNumbers_0 : jchk 157 0 kX7_gatherByNumbers_0 = true := by decide +kernel
def kX7_gatherByNumbers_7 : List JI := [(.iload_n 2, 1, 2, 0, 0, 0, 0),
  (.aload_n 1, 1, 1, 0, 0, 0, 0),
  (.getfield 124, 3, 10, 4, 1, 0, 237),
  (.if_icmp .ge 49, 3, 61, 0, 0, 0, 0),
  (.aload_n 0, 1, 0, 0, 0, 0, 0),
  (.getfield 108, 3, 7, 2, 1, 0, 436),
  (.iconst 5, 1, 0, 5, 0, 0, 0),
  (.if_icmp .ge 41, 3, 61, 0, 0, 0, 0),
  (.aload_n 1, 1, 1, 0, 0, 0, 0),
  (.getfield 88, 3, 10, 3, 4, 0, 234),
  (.iload_n 2, 1, 2, 0, 0, 0, 0),
  (.aaload, 1, 0, 0, 0, 0, 0),
  (.invokevirtual 127, 3, 61, 0, 0, 4, 911),
  (.ifCond .eq 23, 3, 55, 0, 0, 0, 0),
  (.aload_n 0, 1, 0, 0, 0, 0, 0),
  (.getfield 37, 3, 7, 8, 4, 0, 443),
  (.aload_n 0, 1, 0, 0, 0, 0, 0),
  (.getfield 108, 3, 7, 2, 1, 0, 436),
  (.iload_n 2, 1, 2, 0, 0, 0, 0),
  (.iastore, 1, 0, 0, 0, 0, 0),
  (.aload_n 0, 1, 0, 0, 0, 0, 0),
  (.dup, 1, 0, 0, 0, 0, 0),
  (.getfield 108, 3, 7, 2, 1, 0, 436),
  (.iconst 1, 1, 0, 1, 0, 0, 0),
  (.iadd, 1, 0, 0, 0, 0, 0),
  (.putfield 108, 3, 7, 2, 1, 0, 436)]
theorem qX7_gatherByNumbers_7 : jchk 157 7 kX7_gatherByNumbers_7 = true := by decide +kernel
def kX7_gatherByNumbers_55 : List JI := [(.iinc 2 1, 3, 2, 1, 0, 0, 0),
  (.goto (-51), 3, 7, 0, 0, 0, 0)]
theorem qX7_gatherByNumbers_55 : jchk 157 55 kX7_gatherByNumbers_55 = true := by decide +kernel
def kX7_gatherByNumbers_61 : List JI := [(.return_, 1, 0, 0, 0, 0, 0)]
theorem qX7_gatherByNumbers_61 : jchk 157 61 kX7_gatherByNumbers_61 = true := by decide +kernel
def kX7_sumOfLate_0 : List JI := [(.iconst 0, 1, 0, 0, 0, 0, 0),
  (.istore_n 1, 1, 1, 0, 0, 0, 0),
  (.iconst 0, 1, 0, 0, 0, 0, 0),
  (.istore_n 2, 1, 2, 0, 0, 0, 0)]
theorem qX7_sumOfLate_0 : jchk 158 0 kX7_sumOfLate_0 = true := by decide +kernel
def kX7_sumOfLate_4 : List JI := [(.iload_n 2, 1, 2, 0, 0, 0, 0),
  (.aload_n 0, 1, 0, 0, 0, 0, 0),
  (.getfield 108, 3, 7, 2, 1, 0, 436),
  (.if_icmp .ge 42, 3, 51, 0, 0, 0, 0),
  (.aload_n 0, 1, 0, 0, 0, 0, 0),
  (.getfield 30, 3, 7, 6, 4, 0, 441),
  (.getfield 88, 3, 10, 3, 4, 0, 234),
  (.aload_n 0, 1, 0, 0, 0, 0, 0),
  (.getfield 37, 3, 7, 8, 4, 0, 443),
  (.iload_n 2, 1, 2, 0, 0, 0, 0),
  (.iaload, 1, 0, 0, 0, 0, 0),
  (.aaload, 1, 0, 0, 0, 0, 0),
  (.astore_n 3, 1, 3, 0, 0, 0, 0),
  (.iload_n 1, 1, 1, 0, 0, 0, 0),
  (.aload_n 3, 1, 3, 0, 0, 0, 0),
  (.getfield 92, 3, 4, 9, 1, 0, 192),
  (.aload_n 3, 1, 3, 0, 0, 0, 0),
  (.getfield 131, 3, 4, 2, 1, 0, 169),
  (.aload_n 0, 1, 0, 0, 0, 0, 0),
  (.getfield 50, 3, 7, 3, 1, 0, 438),
  (.invokestatic 134, 3, 152, 3, 0, 11, 100919),
  (.iadd, 1, 0, 0, 0, 0, 0),
  (.istore_n 1, 1, 1, 0, 0, 0, 0),
  (.iinc 2 1, 3, 2, 1, 0, 0, 0),
  (.goto (-44), 3, 4, 0, 0, 0, 0)]
theorem qX7_sumOfLate_4 : jchk 158 4 kX7_sumOfLate_4 = true := by decide +kernel
def kX7_sumOfLate_51 : List JI := [(.iload_n 1, 1, 1, 0, 0, 0, 0),
  (.ireturn, 1, 0, 0, 0, 0, 0)]
theorem qX7_sumOfLate_51 : jchk 158 51 kX7_sumOfLate_51 = true := by decide +kernel
def kX7_swapTried_0 : List JI := [(.aload_n 0, 1, 0, 0, 0, 0, 0),
  (.getfield 37, 3, 7, 8, 4, 0, 443),
  (.iload_n 1, 1, 1, 0, 0, 0, 0),
  (.iaload, 1, 0, 0, 0, 0, 0),
  (.istore_n 3, 1, 3, 0, 0, 0, 0),
  (.aload_n 0, 1, 0, 0, 0, 0, 0),
  (.getfield 37, 3, 7, 8, 4, 0, 443),
  (.iload_n 1, 1, 1, 0, 0, 0, 0),
  (.aload_n 0, 1, 0, 0, 0, 0, 0),
  (.getfield 37, 3, 7, 8, 4, 0, 443),
  (.iload_n 2, 1, 2, 0, 0, 0, 0),
  (.iaload, 1, 0, 0, 0, 0, 0),
  (.iastore, 1, 0, 0, 0, 0, 0),
  (.aload_n 0, 1, 0, 0, 0, 0, 0),
  (.getfield 37, 3, 7, 8, 4, 0, 443),
  (.iload_n 2, 1, 2, 0, 0, 0, 0),
  (.iload_n 3, 1, 3, 0, 0, 0, 0),
  (.iastore, 1, 0, 0, 0, 0, 0),
  (.return_, 1, 0, 0, 0, 0, 0)]
theorem qX7_swapTried_0 : jchk 159 0 kX7_swapTried_0 = true := by decide +kernel
def kX7_nextOrder_0 : List JI := [(.aload_n 0, 1, 0, 0, 0, 0, 0),
  (.getfield 108, 3, 7, 2, 1, 0, 436),
  (.iconst 2, 1, 0, 2, 0, 0, 0),
  (.isub, 1, 0, 0, 0, 0, 0),
  (.istore_n 1, 1, 1, 0, 0, 0, 0)]
theorem qX7_nextOrder_0 : jchk 160 0 kX7_nextOrder_0 = true := by decide +kernel
def kX7_nextOrder_7 : List JI := [(.iload_n 1, 1, 1, 0, 0, 0, 0),
  (.ifCond .lt 26, 3, 34, 0, 0, 0, 0),
  (.aload_n 0, 1, 0, 0, 0, 0, 0),
  (.getfield 37, 3, 7, 8, 4, 0, 443),
  (.iload_n 1, 1, 1, 0, 0, 0, 0),
  (.iaload, 1, 0, 0, 0, 0, 0),
  (.aload_n 0, 1, 0, 0, 0, 0, 0),
  (.getfield 37, 3, 7, 8, 4, 0, 443),
  (.iload_n 1, 1, 1, 0, 0, 0, 0),
  (.iconst 1, 1, 0, 1, 0, 0, 0),
  (.iadd, 1, 0, 0, 0, 0, 0),
  (.iaload, 1, 0, 0, 0, 0, 0),
  (.if_icmp .le 9, 3, 34, 0, 0, 0, 0),
  (.iinc 1 (-1), 3, 1, -1, 0, 0, 0),
  (.goto (-24), 3, 7, 0, 0, 0, 0)]
theorem qX7_nextOrder_7 : jchk 160 7 kX7_nextOrder_7 = true := by decide +kernel
def kX7_nextOrder_34 : List JI := [(.iload_n 1, 1, 1, 0, 0, 0, 0),
  (.ifCond .ge 4, 3, 39, 0, 0, 0, 0),
  (.return_, 1, 0, 0, 0, 0, 0)]
theorem qX7_nextOrder_34 : jchk 160 34 kX7_nextOrder_34 = true := by decide +kernel
def kX7_nextOrder_39 : List JI := [(.aload_n 0, 1, 0, 0, 0, 0, 0),
  (.getfield 108, 3, 7, 2, 1, 0, 436),
  (.iconst 1, 1, 0, 1, 0, 0, 0),
  (.isub, 1, 0, 0, 0, 0, 0),
  (.istore_n 2, 1, 2, 0, 0, 0, 0)]
theorem qX7_nextOrder_39 : jchk 160 39 kX7_nextOrder_39 = true := by decide +kernel
def kX7_nextOrder_46 : List JI := [(.iload_n 2, 1, 2, 0, 0, 0, 0),
  (.iload_n 1, 1, 1, 0, 0, 0, 0),
  (.iconst 1, 1, 0, 1, 0, 0, 0),
  (.iadd, 1, 0, 0, 0, 0, 0),
  (.if_icmp .le 24, 3, 74, 0, 0, 0, 0),
  (.aload_n 0, 1, 0, 0, 0, 0, 0),
  (.getfield 37, 3, 7, 8, 4, 0, 443),
  (.iload_n 2, 1, 2, 0, 0, 0, 0),
  (.iaload, 1, 0, 0, 0, 0, 0),
  (.aload_n 0, 1, 0, 0, 0, 0, 0),
  (.getfield 37, 3, 7, 8, 4, 0, 443),
  (.iload_n 1, 1, 1, 0, 0, 0, 0),
  (.iaload, 1, 0, 0, 0, 0, 0),
  (.if_icmp .ge 9, 3, 74, 0, 0, 0, 0),
  (.iinc 2 (-1), 3, 2, -1, 0, 0, 0),
  (.goto (-25), 3, 46, 0, 0, 0, 0)]
theorem qX7_nextOrder_46 : jchk 160 46 kX7_nextOrder_46 = true := by decide +kernel
def kX7_nextOrder_74 : List JI := [(.aload_n 0, 1, 0, 0, 0, 0, 0),
  (.iload_n 1, 1, 1, 0, 0, 0, 0),
  (.iload_n 2, 1, 2, 0, 0, 0, 0),
  (.invokevirtual 138, 3, 159, 2, 0, 7, 925),
  (.aload_n 0, 1, 0, 0, 0, 0, 0),
  (.getfield 108, 3, 7, 2, 1, 0, 436),
  (.iconst 1, 1, 0, 1, 0, 0, 0),
  (.isub, 1, 0, 0, 0, 0, 0),
  (.istore_n 3, 1, 3, 0, 0, 0, 0),
  (.iload_n 1, 1, 1, 0, 0, 0, 0),
  (.iconst 1, 1, 0, 1, 0, 0, 0),
  (.iadd, 1, 0, 0, 0, 0, 0),
  (.istore 4, 2, 4, 0, 0, 0, 0)]
theorem qX7_nextOrder_74 : jchk 160 74 kX7_nextOrder_74 = true := by decide +kernel
def kX7_nextOrder_92 : List JI := [(.iload 4, 2, 4, 0, 0, 0, 0),
  (.iload_n 3, 1, 3, 0, 0, 0, 0),
  (.if_icmp .ge 19, 3, 114, 0, 0, 0, 0),
  (.aload_n 0, 1, 0, 0, 0, 0, 0),
  (.iload 4, 2, 4, 0, 0, 0, 0),
  (.iload_n 3, 1, 3, 0, 0, 0, 0),
  (.invokevirtual 138, 3, 159, 2, 0, 7, 925),
  (.iinc 3 (-1), 3, 3, -1, 0, 0, 0),
  (.iinc 4 1, 3, 4, 1, 0, 0, 0),
  (.goto (-19), 3, 92, 0, 0, 0, 0)]
theorem qX7_nextOrder_92 : jchk 160 92 kX7_nextOrder_92 = true := by decide +kernel
def kX7_nextOrder_114 : List JI := [(.return_, 1, 0, 0, 0, 0, 0)]
theorem qX7_nextOrder_114 : jchk 160 114 kX7_nextOrder_114 = true := by decide +kernel
def kX7_findLeast_0 : List JI := [(.aload_n 0, 1, 0, 0, 0, 0, 0),
  (.getfield 47, 3, 7, 11, 3, 0, 446),
  (.ifCond .eq 4, 3, 8, 0, 0, 0, 0),
  (.return_, 1, 0, 0, 0, 0, 0)]
theorem qX7_findLeast_0 : jchk 161 0 kX7_findLeast_0 = true := by decide +kernel
def kX7_findLeast_8 : List JI := [(.aload_n 0, 1, 0, 0, 0, 0, 0),
  (.aload_n 1, 1, 1, 0, 0, 0, 0),
  (.invokevirtual 97, 3, 157, 1, 0, 7, 907),
  (.aload_n 0, 1, 0, 0, 0, 0, 0),
  (.ldc 101, 2, 0, 1000000, 0, 0, 912),
  (.putfield 102, 3, 7, 0, 1, 0, 432),
  (.iconst 0, 1, 0, 0, 0, 0, 0),
  (.istore_n 3, 1, 3, 0, 0, 0, 0)]
theorem qX7_findLeast_8 : jchk 161 8 kX7_findLeast_8 = true := by decide +kernel
def kX7_findLeast_21 : List JI := [(.iload_n 3, 1, 3, 0, 0, 0, 0),
  (.getstatic 105, 3, 0, -7, 0, 0, 913),
  (.aload_n 0, 1, 0, 0, 0, 0, 0),
  (.getfield 108, 3, 7, 2, 1, 0, 436),
  (.iaload, 1, 0, 0, 0, 0, 0),
  (.if_icmp .ge 72, 3, 102, 0, 0, 0, 0),
  (.aload_n 0, 1, 0, 0, 0, 0, 0),
  (.getfield 102, 3, 7, 0, 1, 0, 432),
  (.ifCond .le 65, 3, 102, 0, 0, 0, 0),
  (.aload_n 0, 1, 0, 0, 0, 0, 0),
  (.aload_n 1, 1, 1, 0, 0, 0, 0),
  (.aload_n 0, 1, 0, 0, 0, 0, 0),
  (.getfield 37, 3, 7, 8, 4, 0, 443),
  (.aload_n 0, 1, 0, 0, 0, 0, 0),
  (.getfield 108, 3, 7, 2, 1, 0, 436),
  (.aload_n 2, 1, 2, 0, 0, 0, 0),
  (.invokevirtual 84, 3, 144, 4, 0, 7, 864),
  (.aload_n 0, 1, 0, 0, 0, 0, 0),
  (.invokevirtual 111, 3, 158, 0, 0, 7, 915),
  (.istore 4, 2, 4, 0, 0, 0, 0),
  (.iload 4, 2, 4, 0, 0, 0, 0),
  (.aload_n 0, 1, 0, 0, 0, 0, 0),
  (.getfield 102, 3, 7, 0, 1, 0, 432),
  (.if_icmp .ge 26, 3, 92, 0, 0, 0, 0),
  (.aload_n 0, 1, 0, 0, 0, 0, 0),
  (.iload 4, 2, 4, 0, 0, 0, 0),
  (.putfield 102, 3, 7, 0, 1, 0, 432),
  (.aload_n 0, 1, 0, 0, 0, 0, 0),
  (.getfield 37, 3, 7, 8, 4, 0, 443),
  (.iconst 0, 1, 0, 0, 0, 0, 0),
  (.aload_n 0, 1, 0, 0, 0, 0, 0),
  (.getfield 9, 3, 7, 1, 4, 0, 434),
  (.iconst 0, 1, 0, 0, 0, 0, 0),
  (.aload_n 0, 1, 0, 0, 0, 0, 0),
  (.getfield 108, 3, 7, 2, 1, 0, 436),
  (.invokestatic 115, 3, 999, 0, 0, 0, 920)]
theorem qX7_findLeast_21 : jchk 161 21 kX7_findLeast_21 = true := by decide +kernel
def kX7_findLeast_92 : List JI := [(.aload_n 0, 1, 0, 0, 0, 0, 0),
  (.invokevirtual 121, 3, 160, 0, 0, 7, 921),
  (.iinc 3 1, 3, 3, 1, 0, 0, 0),
  (.goto (-78), 3, 21, 0, 0, 0, 0)]
theorem qX7_findLeast_92 : jchk 161 92 kX7_findLeast_92 = true := by decide +kernel
def kX7_findLeast_102 : List JI := [(.aload_n 0, 1, 0, 0, 0, 0, 0),
  (.iconst 1, 1, 0, 1, 0, 0, 0),
  (.putfield 47, 3, 7, 11, 3, 0, 446),
  (.return_, 1, 0, 0, 0, 0, 0)]
theorem qX7_findLeast_102 : jchk 161 102 kX7_findLeast_102 = true := by decide +kernel
def kX11_findOrder_0 : List JI := [(.aload_n 0, 1, 0, 0, 0, 0, 0),
  (.getfield 37, 3, 11, 5, 4, 0, 477),
  (.iconst 0, 1, 0, 0, 0, 0, 0),
  (.invokevirtual 340, 3, 156, 1, 0, 10, 899),
  (.aload_n 0, 1, 0, 0, 0, 0, 0),
  (.getfield 37, 3, 11, 5, 4, 0, 477),
  (.iconst 1, 1, 0, 1, 0, 0, 0),
  (.invokevirtual 340, 3, 156, 1, 0, 10, 899),
  (.iadd, 1, 0, 0, 0, 0, 0),
  (.iconst 5, 1, 0, 5, 0, 0, 0),
  (.if_icmp .le 5, 3, 23, 0, 0, 0, 0),
  (.iconst 0, 1, 0, 0, 0, 0, 0),
  (.ireturn, 1, 0, 0, 1, 0, 0)]
theorem qX11_findOrder_0 : jchk 162 0 kX11_findOrder_0 = true := by decide +kernel
def kX11_findOrder_23 : List JI := [(.aload_n 0, 1, 0, 0, 0, 0, 0),
  (.getfield 81, 3, 11, 11, 4, 0, 483),
  (.aload_n 0, 1, 0, 0, 0, 0, 0),
  (.getfield 147, 3, 11, 0, 1, 0, 472),
  (.aload_n 0, 1, 0, 0, 0, 0, 0),
  (.getfield 16, 3, 11, 2, 4, 0, 474),
  (.aload_n 0, 1, 0, 0, 0, 0, 0),
  (.getfield 23, 3, 11, 3, 4, 0, 475),
  (.invokevirtual 357, 3, 140, 3, 0, 7, 852),
  (.aload_n 0, 1, 0, 0, 0, 0, 0),
  (.getfield 81, 3, 11, 11, 4, 0, 483),
  (.aload_n 0, 1, 0, 0, 0, 0, 0),
  (.getfield 37, 3, 11, 5, 4, 0, 477),
  (.aload_n 0, 1, 0, 0, 0, 0, 0),
  (.getfield 30, 3, 11, 4, 4, 0, 476),
  (.invokevirtual 365, 3, 161, 2, 0, 7, 903),
  (.iconst 1, 1, 0, 1, 0, 0, 0),
  (.ireturn, 1, 0, 0, 1, 0, 0)]
theorem qX11_findOrder_23 : jchk 162 23 kX11_findOrder_23 = true := by decide +kernel
def kX11_least_0 : List JI := [(.aload_n 0, 1, 0, 0, 0, 0, 0),
  (.invokevirtual 317, 3, 162, 0, 0, 11, 895),
  (.ifCond .ne 10, 3, 14, 0, 0, 0, 0),
  (.aload_n 0, 1, 0, 0, 0, 0, 0),
  (.bipush (-3), 2, 0, -3, 0, 0, 0),
  (.invokevirtual 93, 3, 16, 1, 0, 11, 519),
  (.ireturn, 1, 0, 0, 0, 0, 0)]
theorem qX11_least_0 : jchk 163 0 kX11_least_0 = true := by decide +kernel
def kX11_least_14 : List JI := [(.aload_n 0, 1, 0, 0, 0, 0, 0),
  (.getfield 81, 3, 11, 11, 4, 0, 483),
  (.getfield 320, 3, 7, 0, 1, 0, 433),
  (.ireturn, 1, 0, 0, 0, 0, 0)]
theorem qX11_least_14 : jchk 163 14 kX11_least_14 = true := by decide +kernel
def kX12_ask_0 : List JI := [(.aload_n 0, 1, 0, 0, 0, 0, 0),
  (.iconst 0, 1, 0, 0, 0, 0, 0),
  (.putfield 287, 3, 12, 62, 1, 0, 1021),
  (.iconst 0, 1, 0, 0, 0, 0, 0),
  (.istore_n 1, 1, 1, 0, 0, 0, 0),
  (.iconst 0, 1, 0, 0, 0, 0, 0),
  (.istore_n 2, 1, 2, 0, 0, 0, 0)]
theorem qX12_ask_0 : jchk 164 0 kX12_ask_0 = true := by decide +kernel
def kX12_ask_9 : List JI := [(.iload_n 2, 1, 2, 0, 0, 0, 0),
  (.aload_n 0, 1, 0, 0, 0, 0, 0),
  (.getfield 195, 3, 12, 14, 1, 0, 973),
  (.if_icmp .ge 34, 3, 48, 0, 0, 0, 0),
  (.aload_n 0, 1, 0, 0, 0, 0, 0),
  (.getfield 55, 3, 12, 18, 4, 0, 977),
  (.iload_n 2, 1, 2, 0, 0, 0, 0),
  (.iaload, 1, 0, 0, 0, 0, 0),
  (.iconst 1, 1, 0, 1, 0, 0, 0),
  (.if_icmp .gt 18, 3, 42, 0, 0, 0, 0),
  (.iload_n 1, 1, 1, 0, 0, 0, 0),
  (.iconst 5, 1, 0, 5, 0, 0, 0),
  (.if_icmp .ge 10, 3, 39, 0, 0, 0, 0),
  (.aload_n 0, 1, 0, 0, 0, 0, 0),
  (.getfield 158, 3, 12, 61, 4, 0, 1020),
  (.iload_n 1, 1, 1, 0, 0, 0, 0),
  (.iload_n 2, 1, 2, 0, 0, 0, 0),
  (.iastore, 1, 0, 0, 0, 0, 0)]
theorem qX12_ask_9 : jchk 164 9 kX12_ask_9 = true := by decide +kernel
def kX12_ask_39 : List JI := [(.iinc 1 1, 3, 1, 1, 0, 0, 0)]
theorem qX12_ask_39 : jchk 164 39 kX12_ask_39 = true := by decide +kernel
def kX12_ask_42 : List JI := [(.iinc 2 1, 3, 2, 1, 0, 0, 0),
  (.goto (-36), 3, 9, 0, 0, 0, 0)]
theorem qX12_ask_42 : jchk 164 42 kX12_ask_42 = true := by decide +kernel
def kX12_ask_48 : List JI := [(.aload_n 0, 1, 0, 0, 0, 0, 0),
  (.iload_n 1, 1, 1, 0, 0, 0, 0),
  (.putfield 287, 3, 12, 62, 1, 0, 1021),
  (.iload_n 1, 1, 1, 0, 0, 0, 0),
  (.iconst 5, 1, 0, 5, 0, 0, 0),
  (.if_icmp .gt 7, 3, 62, 0, 0, 0, 0),
  (.iconst 1, 1, 0, 1, 0, 0, 0),
  (.goto 4, 3, 63, 0, 0, 0, 0)]
theorem qX12_ask_48 : jchk 164 48 kX12_ask_48 = true := by decide +kernel
def kX12_ask_62 : List JI := [(.iconst 0, 1, 0, 0, 0, 0, 0)]
theorem qX12_ask_62 : jchk 164 62 kX12_ask_62 = true := by decide +kernel
def kX12_ask_63 : List JI := [(.ireturn, 1, 0, 0, 1, 0, 0)]
theorem qX12_ask_63 : jchk 164 63 kX12_ask_63 = true := by decide +kernel
def kX12_findOrder_0 : List JI := [(.iload_n 1, 1, 1, 0, 0, 0, 0),
  (.istore_n 2, 1, 2, 0, 0, 0, 0),
  (.iconst 0, 1, 0, 0, 0, 0, 0),
  (.istore_n 3, 1, 3, 0, 0, 0, 0),
  (.iconst 1, 1, 0, 1, 0, 0, 0),
  (.istore 4, 2, 4, 0, 0, 0, 0),
  (.iconst 2, 1, 0, 2, 0, 0, 0),
  (.istore 5, 2, 5, 0, 0, 0, 0)]
theorem qX12_findOrder_0 : jchk 165 0 kX12_findOrder_0 = true := by decide +kernel
def kX12_findOrder_10 : List JI := [(.iload 5, 2, 5, 0, 0, 0, 0),
  (.aload_n 0, 1, 0, 0, 0, 0, 0),
  (.getfield 287, 3, 12, 62, 1, 0, 1021),
  (.if_icmp .gt 16, 3, 32, 0, 0, 0, 0),
  (.iload 4, 2, 4, 0, 0, 0, 0),
  (.iload 5, 2, 5, 0, 0, 0, 0),
  (.imul, 1, 0, 0, 0, 0, 0),
  (.istore 4, 2, 4, 0, 0, 0, 0),
  (.iinc 5 1, 3, 5, 1, 0, 0, 0),
  (.goto (-19), 3, 10, 0, 0, 0, 0)]
theorem qX12_findOrder_10 : jchk 165 10 kX12_findOrder_10 = true := by decide +kernel
def kX12_findOrder_32 : List JI := [(.iconst 0, 1, 0, 0, 0, 0, 0),
  (.istore 5, 2, 5, 0, 0, 0, 0)]
theorem qX12_findOrder_32 : jchk 165 32 kX12_findOrder_32 = true := by decide +kernel
def kX12_findOrder_35 : List JI := [(.iload 5, 2, 5, 0, 0, 0, 0),
  (.aload_n 0, 1, 0, 0, 0, 0, 0),
  (.getfield 287, 3, 12, 62, 1, 0, 1021),
  (.if_icmp .ge 97, 3, 138, 0, 0, 0, 0),
  (.iload 4, 2, 4, 0, 0, 0, 0),
  (.aload_n 0, 1, 0, 0, 0, 0, 0),
  (.getfield 287, 3, 12, 62, 1, 0, 1021),
  (.iload 5, 2, 5, 0, 0, 0, 0),
  (.isub, 1, 0, 0, 0, 0, 0),
  (.idiv, 1, 0, 0, 0, 0, 0),
  (.istore 4, 2, 4, 0, 0, 0, 0),
  (.iload_n 2, 1, 2, 0, 0, 0, 0),
  (.iload 4, 2, 4, 0, 0, 0, 0),
  (.idiv, 1, 0, 0, 0, 0, 0),
  (.istore 6, 2, 6, 0, 0, 0, 0),
  (.iload_n 2, 1, 2, 0, 0, 0, 0),
  (.iload 4, 2, 4, 0, 0, 0, 0),
  (.irem, 1, 0, 0, 0, 0, 0),
  (.istore_n 2, 1, 2, 0, 0, 0, 0),
  (.iconst 0, 1, 0, 0, 0, 0, 0),
  (.istore 7, 2, 7, 0, 0, 0, 0)]
theorem qX12_findOrder_35 : jchk 165 35 kX12_findOrder_35 = true := by decide +kernel
def kX12_findOrder_70 : List JI := [(.iload_n 3, 1, 3, 0, 0, 0, 0),
  (.iload 7, 2, 7, 0, 0, 0, 0),
  (.ishr, 1, 0, 0, 0, 0, 0),
  (.iconst 1, 1, 0, 1, 0, 0, 0),
  (.iand, 1, 0, 0, 0, 0, 0),
  (.iconst 1, 1, 0, 1, 0, 0, 0),
  (.if_icmp .eq 8, 3, 85, 0, 0, 0, 0),
  (.iload 6, 2, 6, 0, 0, 0, 0),
  (.ifCond .le 29, 3, 111, 0, 0, 0, 0)]
theorem qX12_findOrder_70 : jchk 165 70 kX12_findOrder_70 = true := by decide +kernel
def kX12_findOrder_85 : List JI := [(.iload 6, 2, 6, 0, 0, 0, 0),
  (.iload_n 3, 1, 3, 0, 0, 0, 0),
  (.iload 7, 2, 7, 0, 0, 0, 0),
  (.ishr, 1, 0, 0, 0, 0, 0),
  (.iconst 1, 1, 0, 1, 0, 0, 0),
  (.iand, 1, 0, 0, 0, 0, 0),
  (.iconst 1, 1, 0, 1, 0, 0, 0),
  (.if_icmp .ne 7, 3, 101, 0, 0, 0, 0),
  (.iconst 0, 1, 0, 0, 0, 0, 0),
  (.goto 4, 3, 102, 0, 0, 0, 0)]
theorem qX12_findOrder_85 : jchk 165 85 kX12_findOrder_85 = true := by decide +kernel
def kX12_findOrder_101 : List JI := [(.iconst 1, 1, 0, 1, 0, 0, 0)]
theorem qX12_findOrder_101 : jchk 165 101 kX12_findOrder_101 = true := by decide +kernel
def kX12_findOrder_102 : List JI := [(.isub, 1, 0, 0, 0, 0, 0),
  (.istore 6, 2, 6, 0, 0, 0, 0),
  (.iinc 7 1, 3, 7, 1, 0, 0, 0),
  (.goto (-38), 3, 70, 0, 0, 0, 0)]
theorem qX12_findOrder_102 : jchk 165 102 kX12_findOrder_102 = true := by decide +kernel
def kX12_findOrder_111 : List JI := [(.iload_n 3, 1, 3, 0, 0, 0, 0),
  (.iconst 1, 1, 0, 1, 0, 0, 0),
  (.iload 7, 2, 7, 0, 0, 0, 0),
  (.ishl, 1, 0, 0, 0, 0, 0),
  (.ior, 1, 0, 0, 0, 0, 0),
  (.istore_n 3, 1, 3, 0, 0, 0, 0),
  (.aload_n 0, 1, 0, 0, 0, 0, 0),
  (.getfield 161, 3, 12, 63, 4, 0, 1022),
  (.iload 5, 2, 5, 0, 0, 0, 0),
  (.aload_n 0, 1, 0, 0, 0, 0, 0),
  (.getfield 158, 3, 12, 61, 4, 0, 1020),
  (.iload 7, 2, 7, 0, 0, 0, 0),
  (.iaload, 1, 0, 0, 0, 0, 0),
  (.iastore, 1, 0, 0, 0, 0, 0),
  (.iinc 5 1, 3, 5, 1, 0, 0, 0),
  (.goto (-100), 3, 35, 0, 0, 0, 0)]
theorem qX12_findOrder_111 : jchk 165 111 kX12_findOrder_111 = true := by decide +kernel
def kX12_findOrder_138 : List JI := [(.return_, 1, 0, 0, 0, 0, 0)]
theorem qX12_findOrder_138 : jchk 165 138 kX12_findOrder_138 = true := by decide +kernel
def kX12_findLeast_0 : List JI := [(.iconst 1, 1, 0, 1, 0, 0, 0),
  (.istore_n 1, 1, 1, 0, 0, 0, 0),
  (.iconst 2, 1, 0, 2, 0, 0, 0),
  (.istore_n 2, 1, 2, 0, 0, 0, 0)]
theorem qX12_findLeast_0 : jchk 166 0 kX12_findLeast_0 = true := by decide +kernel
def kX12_findLeast_4 : List JI := [(.iload_n 2, 1, 2, 0, 0, 0, 0),
  (.aload_n 0, 1, 0, 0, 0, 0, 0),
  (.getfield 287, 3, 12, 62, 1, 0, 1021),
  (.if_icmp .gt 13, 3, 22, 0, 0, 0, 0),
  (.iload_n 1, 1, 1, 0, 0, 0, 0),
  (.iload_n 2, 1, 2, 0, 0, 0, 0),
  (.imul, 1, 0, 0, 0, 0, 0),
  (.istore_n 1, 1, 1, 0, 0, 0, 0),
  (.iinc 2 1, 3, 2, 1, 0, 0, 0),
  (.goto (-15), 3, 4, 0, 0, 0, 0)]
theorem qX12_findLeast_4 : jchk 166 4 kX12_findLeast_4 = true := by decide +kernel
def kX12_findLeast_22 : List JI := [(.iconst (-1), 1, 0, -1, 0, 0, 0),
  (.istore_n 2, 1, 2, 0, 0, 0, 0),
  (.iconst 0, 1, 0, 0, 0, 0, 0),
  (.istore_n 3, 1, 3, 0, 0, 0, 0)]
theorem qX12_findLeast_22 : jchk 166 22 kX12_findLeast_22 = true := by decide +kernel
def kX12_findLeast_26 : List JI := [(.iload_n 3, 1, 3, 0, 0, 0, 0),
  (.iload_n 1, 1, 1, 0, 0, 0, 0),
  (.if_icmp .ge 169, 3, 197, 0, 0, 0, 0),
  (.aload_n 0, 1, 0, 0, 0, 0, 0),
  (.iload_n 3, 1, 3, 0, 0, 0, 0),
  (.invokevirtual 290, 3, 165, 1, 0, 12, 1379),
  (.aload_n 0, 1, 0, 0, 0, 0, 0),
  (.iconst 0, 1, 0, 0, 0, 0, 0),
  (.invokevirtual 277, 3, 149, 1, 0, 12, 1348),
  (.aload_n 0, 1, 0, 0, 0, 0, 0),
  (.getfield 184, 3, 12, 0, 1, 0, 959),
  (.istore 4, 2, 4, 0, 0, 0, 0),
  (.iconst 0, 1, 0, 0, 0, 0, 0),
  (.istore 5, 2, 5, 0, 0, 0, 0)]
theorem qX12_findLeast_26 : jchk 166 26 kX12_findLeast_26 = true := by decide +kernel
def kX12_findLeast_50 : List JI := [(.iload 5, 2, 5, 0, 0, 0, 0),
  (.aload_n 0, 1, 0, 0, 0, 0, 0),
  (.getfield 287, 3, 12, 62, 1, 0, 1021),
  (.if_icmp .ge 26, 3, 82, 0, 0, 0, 0),
  (.aload_n 0, 1, 0, 0, 0, 0, 0),
  (.getfield 49, 3, 12, 16, 4, 0, 975),
  (.aload_n 0, 1, 0, 0, 0, 0, 0),
  (.getfield 161, 3, 12, 63, 4, 0, 1022),
  (.iload 5, 2, 5, 0, 0, 0, 0),
  (.iaload, 1, 0, 0, 0, 0, 0),
  (.bipush 99, 2, 0, 99, 0, 0, 0),
  (.iload 5, 2, 5, 0, 0, 0, 0),
  (.isub, 1, 0, 0, 0, 0, 0),
  (.iastore, 1, 0, 0, 0, 0, 0),
  (.iinc 5 1, 3, 5, 1, 0, 0, 0),
  (.goto (-29), 3, 50, 0, 0, 0, 0)]
theorem qX12_findLeast_50 : jchk 166 50 kX12_findLeast_50 = true := by decide +kernel
def kX12_findLeast_82 : List JI := [(.aload_n 0, 1, 0, 0, 0, 0, 0),
  (.invokevirtual 281, 3, 150, 0, 0, 12, 1356),
  (.iconst 0, 1, 0, 0, 0, 0, 0),
  (.istore 5, 2, 5, 0, 0, 0, 0),
  (.iconst 0, 1, 0, 0, 0, 0, 0),
  (.istore 6, 2, 6, 0, 0, 0, 0)]
theorem qX12_findLeast_82 : jchk 166 82 kX12_findLeast_82 = true := by decide +kernel
def kX12_findLeast_92 : List JI := [(.iload 6, 2, 6, 0, 0, 0, 0),
  (.aload_n 0, 1, 0, 0, 0, 0, 0),
  (.getfield 287, 3, 12, 62, 1, 0, 1021),
  (.if_icmp .ge 43, 3, 141, 0, 0, 0, 0),
  (.iload 5, 2, 5, 0, 0, 0, 0),
  (.aload_n 0, 1, 0, 0, 0, 0, 0),
  (.getfield 74, 3, 12, 24, 4, 0, 983),
  (.aload_n 0, 1, 0, 0, 0, 0, 0),
  (.getfield 161, 3, 12, 63, 4, 0, 1022),
  (.iload 6, 2, 6, 0, 0, 0, 0),
  (.iaload, 1, 0, 0, 0, 0, 0),
  (.iaload, 1, 0, 0, 0, 0, 0),
  (.iload 4, 2, 4, 0, 0, 0, 0),
  (.aload_n 0, 1, 0, 0, 0, 0, 0),
  (.getfield 52, 3, 12, 17, 4, 0, 976),
  (.aload_n 0, 1, 0, 0, 0, 0, 0),
  (.getfield 161, 3, 12, 63, 4, 0, 1022),
  (.iload 6, 2, 6, 0, 0, 0, 0),
  (.iaload, 1, 0, 0, 0, 0, 0),
  (.iaload, 1, 0, 0, 0, 0, 0),
  (.invokestatic 284, 3, 154, 3, 0, 12, 1364),
  (.iadd, 1, 0, 0, 0, 0, 0),
  (.istore 5, 2, 5, 0, 0, 0, 0),
  (.iinc 6 1, 3, 6, 1, 0, 0, 0),
  (.goto (-46), 3, 92, 0, 0, 0, 0)]
theorem qX12_findLeast_92 : jchk 166 92 kX12_findLeast_92 = true := by decide +kernel
def kX12_findLeast_141 : List JI := [(.aload_n 0, 1, 0, 0, 0, 0, 0),
  (.iconst 1, 1, 0, 1, 0, 0, 0),
  (.invokevirtual 277, 3, 149, 1, 0, 12, 1348),
  (.iload_n 2, 1, 2, 0, 0, 0, 0),
  (.ifCond .lt 9, 3, 156, 0, 0, 0, 0),
  (.iload 5, 2, 5, 0, 0, 0, 0),
  (.iload_n 2, 1, 2, 0, 0, 0, 0),
  (.if_icmp .ge 38, 3, 191, 0, 0, 0, 0)]
theorem qX12_findLeast_141 : jchk 166 141 kX12_findLeast_141 = true := by decide +kernel
def kX12_findLeast_156 : List JI := [(.iload 5, 2, 5, 0, 0, 0, 0),
  (.istore_n 2, 1, 2, 0, 0, 0, 0),
  (.iconst 0, 1, 0, 0, 0, 0, 0),
  (.istore 6, 2, 6, 0, 0, 0, 0)]
theorem qX12_findLeast_156 : jchk 166 156 kX12_findLeast_156 = true := by decide +kernel
def kX12_findLeast_162 : List JI := [(.iload 6, 2, 6, 0, 0, 0, 0),
  (.aload_n 0, 1, 0, 0, 0, 0, 0),
  (.getfield 287, 3, 12, 62, 1, 0, 1021),
  (.if_icmp .ge 23, 3, 191, 0, 0, 0, 0),
  (.aload_n 0, 1, 0, 0, 0, 0, 0),
  (.getfield 164, 3, 12, 64, 4, 0, 1023),
  (.iload 6, 2, 6, 0, 0, 0, 0),
  (.aload_n 0, 1, 0, 0, 0, 0, 0),
  (.getfield 161, 3, 12, 63, 4, 0, 1022),
  (.iload 6, 2, 6, 0, 0, 0, 0),
  (.iaload, 1, 0, 0, 0, 0, 0),
  (.iastore, 1, 0, 0, 0, 0, 0),
  (.iinc 6 1, 3, 6, 1, 0, 0, 0),
  (.goto (-26), 3, 162, 0, 0, 0, 0)]
theorem qX12_findLeast_162 : jchk 166 162 kX12_findLeast_162 = true := by decide +kernel
def kX12_findLeast_191 : List JI := [(.iinc 3 1, 3, 3, 1, 0, 0, 0),
  (.goto (-168), 3, 26, 0, 0, 0, 0)]
theorem qX12_findLeast_191 : jchk 166 191 kX12_findLeast_191 = true := by decide +kernel
def kX12_findLeast_197 : List JI := [(.iload_n 2, 1, 2, 0, 0, 0, 0),
  (.ireturn, 1, 0, 0, 0, 0, 0)]
theorem qX12_findLeast_197 : jchk 166 197 kX12_findLeast_197 = true := by decide +kernel
def kX12_least_0 : List JI := [(.aload_n 0, 1, 0, 0, 0, 0, 0),
  (.invokevirtual 293, 3, 164, 0, 0, 12, 1371),
  (.ifCond .eq 10, 3, 14, 0, 0, 0, 0),
  (.aload_n 0, 1, 0, 0, 0, 0, 0),
  (.invokevirtual 297, 3, 166, 0, 0, 12, 1375),
  (.goto 9, 3, 20, 0, 0, 0, 0)]
theorem qX12_least_0 : jchk 167 0 kX12_least_0 = true := by decide +kernel
def kX12_least_14 : List JI := [(.aload_n 0, 1, 0, 0, 0, 0, 0),
  (.bipush (-3), 2, 0, -3, 0, 0, 0),
  (.invokevirtual 172, 3, 20, 1, 0, 12, 1163)]
theorem qX12_least_14 : jchk 167 14 kX12_least_14 = true := by decide +kernel
def kX12_least_20 : List JI := [(.ireturn, 1, 0, 0, 0, 0, 0)]
theorem qX12_least_20 : jchk 167 20 kX12_least_20 = true := by decide +kernel
def kX11_order_0 : List JI := [(.aload_n 0, 1, 0, 0, 0, 0, 0),
  (.invokevirtual 317, 3, 162, 0, 0, 11, 895),
  (.ifCond .ne 10, 3, 14, 0, 0, 0, 0),
  (.aload_n 0, 1, 0, 0, 0, 0, 0),
  (.bipush (-3), 2, 0, -3, 0, 0, 0),
  (.invokevirtual 93, 3, 16, 1, 0, 11, 519),
  (.ireturn, 1, 0, 0, 0, 0, 0)]
theorem qX11_order_0 : jchk 168 0 kX11_order_0 = true := by decide +kernel
def kX11_order_14 : List JI := [(.iload_n 1, 1, 1, 0, 0, 0, 0),
  (.aload_n 0, 1, 0, 0, 0, 0, 0),
  (.getfield 81, 3, 11, 11, 4, 0, 483),
  (.getfield 323, 3, 7, 2, 1, 0, 437),
  (.invokestatic 85, 3, 14, 2, 0, 11, 513),
  (.ifCond .eq 15, 3, 40, 0, 0, 0, 0),
  (.aload_n 0, 1, 0, 0, 0, 0, 0),
  (.getfield 81, 3, 11, 11, 4, 0, 483),
  (.getfield 326, 3, 7, 1, 4, 0, 435),
  (.iload_n 1, 1, 1, 0, 0, 0, 0),
  (.iaload, 1, 0, 0, 0, 0, 0),
  (.goto 5, 3, 42, 0, 0, 0, 0)]
theorem qX11_order_14 : jchk 168 14 kX11_order_14 = true := by decide +kernel
def kX11_order_40 : List JI := [(.bipush (-9), 2, 0, -9, 0, 0, 0)]
theorem qX11_order_40 : jchk 168 40 kX11_order_40 = true := by decide +kernel
def kX11_order_42 : List JI := [(.ireturn, 1, 0, 0, 0, 0, 0)]
theorem qX11_order_42 : jchk 168 42 kX11_order_42 = true := by decide +kernel
def kX12_order_0 : List JI := [(.aload_n 0, 1, 0, 0, 0, 0, 0),
  (.invokevirtual 293, 3, 164, 0, 0, 12, 1371),
  (.ifCond .ne 10, 3, 14, 0, 0, 0, 0),
  (.aload_n 0, 1, 0, 0, 0, 0, 0),
  (.bipush (-3), 2, 0, -3, 0, 0, 0),
  (.invokevirtual 172, 3, 20, 1, 0, 12, 1163),
  (.ireturn, 1, 0, 0, 0, 0, 0)]
theorem qX12_order_0 : jchk 169 0 kX12_order_0 = true := by decide +kernel
def kX12_order_14 : List JI := [(.iload_n 1, 1, 1, 0, 0, 0, 0),
  (.iconst 0, 1, 0, 0, 0, 0, 0),
  (.aload_n 0, 1, 0, 0, 0, 0, 0),
  (.getfield 287, 3, 12, 62, 1, 0, 1021),
  (.iconst 1, 1, 0, 1, 0, 0, 0),
  (.isub, 1, 0, 0, 0, 0, 0),
  (.invokestatic 168, 3, 19, 3, 0, 12, 1160),
  (.ifCond .ne 6, 3, 31, 0, 0, 0, 0),
  (.bipush (-9), 2, 0, -9, 0, 0, 0),
  (.ireturn, 1, 0, 0, 0, 0, 0)]
theorem qX12_order_14 : jchk 169 14 kX12_order_14 = true := by decide +kernel
def kX12_order_31 : List JI := [(.aload_n 0, 1, 0, 0, 0, 0, 0),
  (.invokevirtual 297, 3, 166, 0, 0, 12, 1375),
  (.istore_n 2, 1, 2, 0, 0, 0, 0),
  (.aload_n 0, 1, 0, 0, 0, 0, 0),
  (.getfield 164, 3, 12, 64, 4, 0, 1023),
  (.iload_n 1, 1, 1, 0, 0, 0, 0),
  (.iaload, 1, 0, 0, 0, 0, 0),
  (.ireturn, 1, 0, 0, 0, 0, 0)]
theorem qX12_order_31 : jchk 169 31 kX12_order_31 = true := by decide +kernel
def kX11_hullOf_0 : List JI := [(.aload_n 0, 1, 0, 0, 0, 0, 0),
  (.iload_n 1, 1, 1, 0, 0, 0, 0),
  (.invokevirtual 188, 3, 60, 1, 0, 11, 635),
  (.ifCond .ne 9, 3, 14, 0, 0, 0, 0),
  (.aload_n 0, 1, 0, 0, 0, 0, 0),
  (.iconst (-1), 1, 0, -1, 0, 0, 0),
  (.invokevirtual 93, 3, 16, 1, 0, 11, 519),
  (.ireturn, 1, 0, 0, 0, 0, 0)]
theorem qX11_hullOf_0 : jchk 170 0 kX11_hullOf_0 = true := by decide +kernel
def kX11_hullOf_14 : List JI := [(.aload_n 0, 1, 0, 0, 0, 0, 0),
  (.getfield 37, 3, 11, 5, 4, 0, 477),
  (.getfield 191, 3, 10, 3, 4, 0, 235),
  (.iload_n 1, 1, 1, 0, 0, 0, 0),
  (.aaload, 1, 0, 0, 0, 0, 0),
  (.astore_n 3, 1, 3, 0, 0, 0, 0),
  (.iload_n 2, 1, 2, 0, 0, 0, 0),
  (.tableswitch 104 0 8 #[51, 56, 61, 66, 79, 84, 89, 94, 99], 51, 0, 0, 0, 0, 0)]
theorem qX11_hullOf_14 : jchk 170 14 kX11_hullOf_14 = true := by decide +kernel
def kX11_hullOf_76 : List JI := [(.aload_n 3, 1, 3, 0, 0, 0, 0),
  (.getfield 227, 3, 4, 3, 1, 0, 174),
  (.ireturn, 1, 0, 0, 0, 0, 0)]
theorem qX11_hullOf_76 : jchk 170 76 kX11_hullOf_76 = true := by decide +kernel
def kX11_hullOf_81 : List JI := [(.aload_n 3, 1, 3, 0, 0, 0, 0),
  (.getfield 329, 3, 4, 4, 1, 0, 176),
  (.ireturn, 1, 0, 0, 0, 0, 0)]
theorem qX11_hullOf_81 : jchk 170 81 kX11_hullOf_81 = true := by decide +kernel
def kX11_hullOf_86 : List JI := [(.aload_n 3, 1, 3, 0, 0, 0, 0),
  (.getfield 332, 3, 4, 6, 1, 0, 183),
  (.ireturn, 1, 0, 0, 0, 0, 0)]
theorem qX11_hullOf_86 : jchk 170 86 kX11_hullOf_86 = true := by decide +kernel
def kX11_hullOf_91 : List JI := [(.aload_n 3, 1, 3, 0, 0, 0, 0),
  (.getfield 334, 3, 4, 7, 3, 0, 187),
  (.ifCond .eq 7, 3, 102, 0, 0, 0, 0),
  (.iconst 1, 1, 0, 1, 0, 0, 0),
  (.goto 4, 3, 103, 0, 0, 0, 0)]
theorem qX11_hullOf_91 : jchk 170 91 kX11_hullOf_91 = true := by decide +kernel
def kX11_hullOf_102 : List JI := [(.iconst 0, 1, 0, 0, 0, 0, 0)]
theorem qX11_hullOf_102 : jchk 170 102 kX11_hullOf_102 = true := by decide +kernel
def kX11_hullOf_103 : List JI := [(.ireturn, 1, 0, 0, 0, 0, 0)]
theorem qX11_hullOf_103 : jchk 170 103 kX11_hullOf_103 = true := by decide +kernel
def kX11_hullOf_104 : List JI := [(.aload_n 3, 1, 3, 0, 0, 0, 0),
  (.getfield 337, 3, 4, 8, 1, 0, 190),
  (.ireturn, 1, 0, 0, 0, 0, 0)]
theorem qX11_hullOf_104 : jchk 170 104 kX11_hullOf_104 = true := by decide +kernel
def kX11_hullOf_109 : List JI := [(.aload_n 3, 1, 3, 0, 0, 0, 0),
  (.getfield 201, 3, 4, 1, 1, 0, 167),
  (.ireturn, 1, 0, 0, 0, 0, 0)]
theorem qX11_hullOf_109 : jchk 170 109 kX11_hullOf_109 = true := by decide +kernel
def kX11_hullOf_114 : List JI := [(.aload_n 3, 1, 3, 0, 0, 0, 0),
  (.getfield 264, 3, 4, 0, 1, 0, 164),
  (.ireturn, 1, 0, 0, 0, 0, 0)]
theorem qX11_hullOf_114 : jchk 170 114 kX11_hullOf_114 = true := by decide +kernel
def kX11_hullOf_119 : List JI := [(.aload_n 3, 1, 3, 0, 0, 0, 0),
  (.getfield 311, 3, 4, 2, 1, 0, 170),
  (.ireturn, 1, 0, 0, 0, 0, 0)]
theorem qX11_hullOf_119 : jchk 170 119 kX11_hullOf_119 = true := by decide +kernel
def kX11_hullOf_124 : List JI := [(.aload_n 3, 1, 3, 0, 0, 0, 0),
  (.getfield 305, 3, 4, 9, 1, 0, 193),
  (.ireturn, 1, 0, 0, 0, 0, 0)]
theorem qX11_hullOf_124 : jchk 170 124 kX11_hullOf_124 = true := by decide +kernel
def kX11_hullOf_129 : List JI := [(.aload_n 0, 1, 0, 0, 0, 0, 0),
  (.bipush (-2), 2, 0, -2, 0, 0, 0),
  (.invokevirtual 93, 3, 16, 1, 0, 11, 519),
  (.ireturn, 1, 0, 0, 0, 0, 0)]
theorem qX11_hullOf_129 : jchk 170 129 kX11_hullOf_129 = true := by decide +kernel
def kX12_hullOf_0 : List JI := [(.aload_n 0, 1, 0, 0, 0, 0, 0),
  (.iload_n 1, 1, 1, 0, 0, 0, 0),
  (.invokevirtual 198, 3, 63, 1, 0, 12, 1233),
  (.ifCond .ne 9, 3, 14, 0, 0, 0, 0),
  (.aload_n 0, 1, 0, 0, 0, 0, 0),
  (.iconst (-1), 1, 0, -1, 0, 0, 0),
  (.invokevirtual 172, 3, 20, 1, 0, 12, 1163),
  (.ireturn, 1, 0, 0, 0, 0, 0)]
theorem qX12_hullOf_0 : jchk 171 0 kX12_hullOf_0 = true := by decide +kernel
def kX12_hullOf_14 : List JI := [(.iload_n 2, 1, 2, 0, 0, 0, 0),
  (.tableswitch 144 0 8 #[49, 56, 63, 84, 109, 116, 123, 130, 137], 49, 0, 0, 0, 0, 0)]
theorem qX12_hullOf_14 : jchk 171 14 kX12_hullOf_14 = true := by decide +kernel
def kX12_hullOf_64 : List JI := [(.aload_n 0, 1, 0, 0, 0, 0, 0),
  (.getfield 55, 3, 12, 18, 4, 0, 977),
  (.iload_n 1, 1, 1, 0, 0, 0, 0),
  (.iaload, 1, 0, 0, 0, 0, 0),
  (.ireturn, 1, 0, 0, 0, 0, 0)]
theorem qX12_hullOf_64 : jchk 171 64 kX12_hullOf_64 = true := by decide +kernel
def kX12_hullOf_71 : List JI := [(.aload_n 0, 1, 0, 0, 0, 0, 0),
  (.getfield 58, 3, 12, 19, 4, 0, 978),
  (.iload_n 1, 1, 1, 0, 0, 0, 0),
  (.iaload, 1, 0, 0, 0, 0, 0),
  (.ireturn, 1, 0, 0, 0, 0, 0)]
theorem qX12_hullOf_71 : jchk 171 71 kX12_hullOf_71 = true := by decide +kernel
def kX12_hullOf_78 : List JI := [(.aload_n 0, 1, 0, 0, 0, 0, 0),
  (.getfield 55, 3, 12, 18, 4, 0, 977),
  (.iload_n 1, 1, 1, 0, 0, 0, 0),
  (.iaload, 1, 0, 0, 0, 0, 0),
  (.iconst 1, 1, 0, 1, 0, 0, 0),
  (.if_icmp .ne 12, 3, 97, 0, 0, 0, 0),
  (.aload_n 0, 1, 0, 0, 0, 0, 0),
  (.getfield 64, 3, 12, 21, 4, 0, 980),
  (.iload_n 1, 1, 1, 0, 0, 0, 0),
  (.iaload, 1, 0, 0, 0, 0, 0),
  (.goto 4, 3, 98, 0, 0, 0, 0)]
theorem qX12_hullOf_78 : jchk 171 78 kX12_hullOf_78 = true := by decide +kernel
def kX12_hullOf_97 : List JI := [(.iconst 0, 1, 0, 0, 0, 0, 0)]
theorem qX12_hullOf_97 : jchk 171 97 kX12_hullOf_97 = true := by decide +kernel
def kX12_hullOf_98 : List JI := [(.ireturn, 1, 0, 0, 0, 0, 0)]
theorem qX12_hullOf_98 : jchk 171 98 kX12_hullOf_98 = true := by decide +kernel
def kX12_hullOf_99 : List JI := [(.aload_n 0, 1, 0, 0, 0, 0, 0),
  (.getfield 55, 3, 12, 18, 4, 0, 977),
  (.iload_n 1, 1, 1, 0, 0, 0, 0),
  (.iaload, 1, 0, 0, 0, 0, 0),
  (.iconst 1, 1, 0, 1, 0, 0, 0),
  (.if_icmp .ne 16, 3, 122, 0, 0, 0, 0),
  (.aload_n 0, 1, 0, 0, 0, 0, 0),
  (.getfield 67, 3, 12, 22, 4, 0, 981),
  (.iload_n 1, 1, 1, 0, 0, 0, 0),
  (.baload, 1, 0, 0, 0, 0, 0),
  (.ifCond .eq 7, 3, 122, 0, 0, 0, 0),
  (.iconst 1, 1, 0, 1, 0, 0, 0),
  (.goto 4, 3, 123, 0, 0, 0, 0)]
theorem qX12_hullOf_99 : jchk 171 99 kX12_hullOf_99 = true := by decide +kernel
def kX12_hullOf_122 : List JI := [(.iconst 0, 1, 0, 0, 0, 0, 0)]
theorem qX12_hullOf_122 : jchk 171 122 kX12_hullOf_122 = true := by decide +kernel
def kX12_hullOf_123 : List JI := [(.ireturn, 1, 0, 0, 0, 0, 0)]
theorem qX12_hullOf_123 : jchk 171 123 kX12_hullOf_123 = true := by decide +kernel
def kX12_hullOf_124 : List JI := [(.aload_n 0, 1, 0, 0, 0, 0, 0),
  (.getfield 71, 3, 12, 23, 4, 0, 982),
  (.iload_n 1, 1, 1, 0, 0, 0, 0),
  (.iaload, 1, 0, 0, 0, 0, 0),
  (.ireturn, 1, 0, 0, 0, 0, 0)]
theorem qX12_hullOf_124 : jchk 171 124 kX12_hullOf_124 = true := by decide +kernel
def kX12_hullOf_131 : List JI := [(.aload_n 0, 1, 0, 0, 0, 0, 0),
  (.getfield 49, 3, 12, 16, 4, 0, 975),
  (.iload_n 1, 1, 1, 0, 0, 0, 0),
  (.iaload, 1, 0, 0, 0, 0, 0),
  (.ireturn, 1, 0, 0, 0, 0, 0)]
theorem qX12_hullOf_131 : jchk 171 131 kX12_hullOf_131 = true := by decide +kernel
def kX12_hullOf_138 : List JI := [(.aload_n 0, 1, 0, 0, 0, 0, 0),
  (.getfield 46, 3, 12, 15, 4, 0, 974),
  (.iload_n 1, 1, 1, 0, 0, 0, 0),
  (.iaload, 1, 0, 0, 0, 0, 0),
  (.ireturn, 1, 0, 0, 0, 0, 0)]
theorem qX12_hullOf_138 : jchk 171 138 kX12_hullOf_138 = true := by decide +kernel
def kX12_hullOf_145 : List JI := [(.aload_n 0, 1, 0, 0, 0, 0, 0),
  (.getfield 52, 3, 12, 17, 4, 0, 976),
  (.iload_n 1, 1, 1, 0, 0, 0, 0),
  (.iaload, 1, 0, 0, 0, 0, 0),
  (.ireturn, 1, 0, 0, 0, 0, 0)]
theorem qX12_hullOf_145 : jchk 171 145 kX12_hullOf_145 = true := by decide +kernel
def kX12_hullOf_152 : List JI := [(.aload_n 0, 1, 0, 0, 0, 0, 0),
  (.getfield 74, 3, 12, 24, 4, 0, 983),
  (.iload_n 1, 1, 1, 0, 0, 0, 0),
  (.iaload, 1, 0, 0, 0, 0, 0),
  (.ireturn, 1, 0, 0, 0, 0, 0)]
theorem qX12_hullOf_152 : jchk 171 152 kX12_hullOf_152 = true := by decide +kernel
def kX12_hullOf_159 : List JI := [(.aload_n 0, 1, 0, 0, 0, 0, 0),
  (.bipush (-2), 2, 0, -2, 0, 0, 0),
  (.invokevirtual 172, 3, 20, 1, 0, 12, 1163),
  (.ireturn, 1, 0, 0, 0, 0, 0)]
theorem qX12_hullOf_159 : jchk 171 159 kX12_hullOf_159 = true := by decide +kernel
def kX11_basinOf_0 : List JI := [(.iload_n 1, 1, 1, 0, 0, 0, 0),
  (.bipush 6, 2, 0, 6, 0, 0, 0),
  (.invokestatic 85, 3, 14, 2, 0, 11, 513),
  (.ifCond .ne 9, 3, 15, 0, 0, 0, 0),
  (.aload_n 0, 1, 0, 0, 0, 0, 0),
  (.iconst (-1), 1, 0, -1, 0, 0, 0),
  (.invokevirtual 93, 3, 16, 1, 0, 11, 519),
  (.ireturn, 1, 0, 0, 0, 0, 0)]
theorem qX11_basinOf_0 : jchk 172 0 kX11_basinOf_0 = true := by decide +kernel
def kX11_basinOf_15 : List JI := [(.aload_n 0, 1, 0, 0, 0, 0, 0),
  (.getfield 37, 3, 11, 5, 4, 0, 477),
  (.getfield 204, 3, 10, 1, 4, 0, 230),
  (.iload_n 1, 1, 1, 0, 0, 0, 0),
  (.iaload, 1, 0, 0, 0, 0, 0),
  (.istore_n 3, 1, 3, 0, 0, 0, 0),
  (.iload_n 2, 1, 2, 0, 0, 0, 0),
  (.tableswitch 68 0 2 #[26, 47, 58], 26, 0, 0, 0, 0, 0)]
theorem qX11_basinOf_15 : jchk 172 15 kX11_basinOf_15 = true := by decide +kernel
def kX11_basinOf_52 : List JI := [(.iload_n 3, 1, 3, 0, 0, 0, 0),
  (.iconst (-1), 1, 0, -1, 0, 0, 0),
  (.if_icmp .ne 7, 3, 61, 0, 0, 0, 0),
  (.iconst 0, 1, 0, 0, 0, 0, 0),
  (.goto 14, 3, 72, 0, 0, 0, 0)]
theorem qX11_basinOf_52 : jchk 172 52 kX11_basinOf_52 = true := by decide +kernel
def kX11_basinOf_61 : List JI := [(.iload_n 3, 1, 3, 0, 0, 0, 0),
  (.bipush (-2), 2, 0, -2, 0, 0, 0),
  (.if_icmp .ne 7, 3, 71, 0, 0, 0, 0),
  (.iconst 2, 1, 0, 2, 0, 0, 0),
  (.goto 4, 3, 72, 0, 0, 0, 0)]
theorem qX11_basinOf_61 : jchk 172 61 kX11_basinOf_61 = true := by decide +kernel
def kX11_basinOf_71 : List JI := [(.iconst 1, 1, 0, 1, 0, 0, 0)]
theorem qX11_basinOf_71 : jchk 172 71 kX11_basinOf_71 = true := by decide +kernel
def kX11_basinOf_72 : List JI := [(.ireturn, 1, 0, 0, 0, 0, 0)]
theorem qX11_basinOf_72 : jchk 172 72 kX11_basinOf_72 = true := by decide +kernel
def kX11_basinOf_73 : List JI := [(.iload_n 3, 1, 3, 0, 0, 0, 0),
  (.ifCond .ge 8, 3, 82, 0, 0, 0, 0),
  (.bipush (-9), 2, 0, -9, 0, 0, 0),
  (.goto 4, 3, 83, 0, 0, 0, 0)]
theorem qX11_basinOf_73 : jchk 172 73 kX11_basinOf_73 = true := by decide +kernel
def kX11_basinOf_82 : List JI := [(.iload_n 3, 1, 3, 0, 0, 0, 0)]
theorem qX11_basinOf_82 : jchk 172 82 kX11_basinOf_82 = true := by decide +kernel
def kX11_basinOf_83 : List JI := [(.ireturn, 1, 0, 0, 0, 0, 0)]
theorem qX11_basinOf_83 : jchk 172 83 kX11_basinOf_83 = true := by decide +kernel
def kX11_basinOf_84 : List JI := [(.aload_n 0, 1, 0, 0, 0, 0, 0),
  (.getfield 37, 3, 11, 5, 4, 0, 477),
  (.getfield 207, 3, 10, 2, 4, 0, 232),
  (.iload_n 1, 1, 1, 0, 0, 0, 0),
  (.iaload, 1, 0, 0, 0, 0, 0),
  (.ireturn, 1, 0, 0, 0, 0, 0)]
theorem qX11_basinOf_84 : jchk 172 84 kX11_basinOf_84 = true := by decide +kernel
def kX11_basinOf_94 : List JI := [(.aload_n 0, 1, 0, 0, 0, 0, 0),
  (.bipush (-2), 2, 0, -2, 0, 0, 0),
  (.invokevirtual 93, 3, 16, 1, 0, 11, 519),
  (.ireturn, 1, 0, 0, 0, 0, 0)]
theorem qX11_basinOf_94 : jchk 172 94 kX11_basinOf_94 = true := by decide +kernel
def kX12_basinOf_0 : List JI := [(.iload_n 1, 1, 1, 0, 0, 0, 0),
  (.iconst 0, 1, 0, 0, 0, 0, 0),
  (.iconst 5, 1, 0, 5, 0, 0, 0),
  (.invokestatic 168, 3, 19, 3, 0, 12, 1160),
  (.ifCond .ne 9, 3, 15, 0, 0, 0, 0),
  (.aload_n 0, 1, 0, 0, 0, 0, 0),
  (.iconst (-1), 1, 0, -1, 0, 0, 0),
  (.invokevirtual 172, 3, 20, 1, 0, 12, 1163),
  (.ireturn, 1, 0, 0, 0, 0, 0)]
theorem qX12_basinOf_0 : jchk 173 0 kX12_basinOf_0 = true := by decide +kernel
def kX12_basinOf_15 : List JI := [(.aload_n 0, 1, 0, 0, 0, 0, 0),
  (.getfield 86, 3, 12, 28, 4, 0, 987),
  (.iload_n 1, 1, 1, 0, 0, 0, 0),
  (.iaload, 1, 0, 0, 0, 0, 0),
  (.bipush 100, 2, 0, 100, 0, 0, 0),
  (.if_icmp .ne 7, 3, 30, 0, 0, 0, 0),
  (.iconst 1, 1, 0, 1, 0, 0, 0),
  (.goto 4, 3, 31, 0, 0, 0, 0)]
theorem qX12_basinOf_15 : jchk 173 15 kX12_basinOf_15 = true := by decide +kernel
def kX12_basinOf_30 : List JI := [(.iconst 0, 1, 0, 0, 0, 0, 0)]
theorem qX12_basinOf_30 : jchk 173 30 kX12_basinOf_30 = true := by decide +kernel
def kX12_basinOf_31 : List JI := [(.istore_n 3, 1, 3, 0, 0, 0, 0),
  (.iload_n 2, 1, 2, 0, 0, 0, 0),
  (.tableswitch 90 0 2 #[27, 50, 75], 27, 0, 0, 0, 0, 0)]
theorem qX12_basinOf_31 : jchk 173 31 kX12_basinOf_31 = true := by decide +kernel
def kX12_basinOf_60 : List JI := [(.aload_n 0, 1, 0, 0, 0, 0, 0),
  (.getfield 86, 3, 12, 28, 4, 0, 987),
  (.iload_n 1, 1, 1, 0, 0, 0, 0),
  (.iaload, 1, 0, 0, 0, 0, 0),
  (.ifCond .ge 7, 3, 73, 0, 0, 0, 0),
  (.iconst 0, 1, 0, 0, 0, 0, 0),
  (.goto 12, 3, 82, 0, 0, 0, 0)]
theorem qX12_basinOf_60 : jchk 173 60 kX12_basinOf_60 = true := by decide +kernel
def kX12_basinOf_73 : List JI := [(.iload_n 3, 1, 3, 0, 0, 0, 0),
  (.ifCond .eq 7, 3, 81, 0, 0, 0, 0),
  (.iconst 2, 1, 0, 2, 0, 0, 0),
  (.goto 4, 3, 82, 0, 0, 0, 0)]
theorem qX12_basinOf_73 : jchk 173 73 kX12_basinOf_73 = true := by decide +kernel
def kX12_basinOf_81 : List JI := [(.iconst 1, 1, 0, 1, 0, 0, 0)]
theorem qX12_basinOf_81 : jchk 173 81 kX12_basinOf_81 = true := by decide +kernel
def kX12_basinOf_82 : List JI := [(.ireturn, 1, 0, 0, 0, 0, 0)]
theorem qX12_basinOf_82 : jchk 173 82 kX12_basinOf_82 = true := by decide +kernel
def kX12_basinOf_83 : List JI := [(.aload_n 0, 1, 0, 0, 0, 0, 0),
  (.getfield 86, 3, 12, 28, 4, 0, 987),
  (.iload_n 1, 1, 1, 0, 0, 0, 0),
  (.iaload, 1, 0, 0, 0, 0, 0),
  (.ifCond .lt 7, 3, 96, 0, 0, 0, 0),
  (.iload_n 3, 1, 3, 0, 0, 0, 0),
  (.ifCond .eq 8, 3, 101, 0, 0, 0, 0)]
theorem qX12_basinOf_83 : jchk 173 83 kX12_basinOf_83 = true := by decide +kernel
def kX12_basinOf_96 : List JI := [(.bipush (-9), 2, 0, -9, 0, 0, 0),
  (.goto 9, 3, 107, 0, 0, 0, 0)]
theorem qX12_basinOf_96 : jchk 173 96 kX12_basinOf_96 = true := by decide +kernel
def kX12_basinOf_101 : List JI := [(.aload_n 0, 1, 0, 0, 0, 0, 0),
  (.getfield 86, 3, 12, 28, 4, 0, 987),
  (.iload_n 1, 1, 1, 0, 0, 0, 0),
  (.iaload, 1, 0, 0, 0, 0, 0)]
theorem qX12_basinOf_101 : jchk 173 101 kX12_basinOf_101 = true := by decide +kernel
def kX12_basinOf_107 : List JI := [(.ireturn, 1, 0, 0, 0, 0, 0)]
theorem qX12_basinOf_107 : jchk 173 107 kX12_basinOf_107 = true := by decide +kernel
def kX12_basinOf_108 : List JI := [(.iload_n 3, 1, 3, 0, 0, 0, 0),
  (.ifCond .eq 12, 3, 121, 0, 0, 0, 0),
  (.aload_n 0, 1, 0, 0, 0, 0, 0),
  (.getfield 89, 3, 12, 29, 4, 0, 988),
  (.iload_n 1, 1, 1, 0, 0, 0, 0),
  (.iaload, 1, 0, 0, 0, 0, 0),
  (.goto 4, 3, 122, 0, 0, 0, 0)]
theorem qX12_basinOf_108 : jchk 173 108 kX12_basinOf_108 = true := by decide +kernel
def kX12_basinOf_121 : List JI := [(.iconst 0, 1, 0, 0, 0, 0, 0)]
theorem qX12_basinOf_121 : jchk 173 121 kX12_basinOf_121 = true := by decide +kernel
def kX12_basinOf_122 : List JI := [(.ireturn, 1, 0, 0, 0, 0, 0)]
theorem qX12_basinOf_122 : jchk 173 122 kX12_basinOf_122 = true := by decide +kernel
def kX12_basinOf_123 : List JI := [(.aload_n 0, 1, 0, 0, 0, 0, 0),
  (.bipush (-2), 2, 0, -2, 0, 0, 0),
  (.invokevirtual 172, 3, 20, 1, 0, 12, 1163),
  (.ireturn, 1, 0, 0, 0, 0, 0)]
theorem qX12_basinOf_123 : jchk 173 123 kX12_basinOf_123 = true := by decide +kernel
def kX11_stock_0 : List JI := [(.iload_n 1, 1, 1, 0, 0, 0, 0),
  (.bipush 6, 2, 0, 6, 0, 0, 0),
  (.invokestatic 85, 3, 14, 2, 0, 11, 513),
  (.ifCond .ne 11, 3, 17, 0, 0, 0, 0),
  (.aload_n 0, 1, 0, 0, 0, 0, 0),
  (.iconst (-1), 1, 0, -1, 0, 0, 0),
  (.invokevirtual 93, 3, 16, 1, 0, 11, 519),
  (.goto 12, 3, 26, 0, 0, 0, 0)]
theorem qX11_stock_0 : jchk 174 0 kX11_stock_0 = true := by decide +kernel
def kX11_stock_17 : List JI := [(.aload_n 0, 1, 0, 0, 0, 0, 0),
  (.getfield 37, 3, 11, 5, 4, 0, 477),
  (.getfield 104, 3, 10, 0, 4, 0, 228),
  (.iload_n 1, 1, 1, 0, 0, 0, 0),
  (.iaload, 1, 0, 0, 0, 0, 0)]
theorem qX11_stock_17 : jchk 174 17 kX11_stock_17 = true := by decide +kernel
def kX11_stock_26 : List JI := [(.ireturn, 1, 0, 0, 0, 0, 0)]
theorem qX11_stock_26 : jchk 174 26 kX11_stock_26 = true := by decide +kernel
def kX12_stock_0 : List JI := [(.iload_n 1, 1, 1, 0, 0, 0, 0),
  (.iconst 0, 1, 0, 0, 0, 0, 0),
  (.iconst 5, 1, 0, 5, 0, 0, 0),
  (.invokestatic 168, 3, 19, 3, 0, 12, 1160),
  (.ifCond .eq 12, 3, 18, 0, 0, 0, 0),
  (.aload_n 0, 1, 0, 0, 0, 0, 0),
  (.getfield 22, 3, 12, 5, 4, 0, 964),
  (.iload_n 1, 1, 1, 0, 0, 0, 0),
  (.iaload, 1, 0, 0, 0, 0, 0),
  (.goto 8, 3, 23, 0, 0, 0, 0)]
theorem qX12_stock_0 : jchk 175 0 kX12_stock_0 = true := by decide +kernel
def kX12_stock_18 : List JI := [(.aload_n 0, 1, 0, 0, 0, 0, 0),
  (.iconst (-1), 1, 0, -1, 0, 0, 0),
  (.invokevirtual 172, 3, 20, 1, 0, 12, 1163)]
theorem qX12_stock_18 : jchk 175 18 kX12_stock_18 = true := by decide +kernel
def kX12_stock_23 : List JI := [(.ireturn, 1, 0, 0, 0, 0, 0)]
theorem qX12_stock_23 : jchk 175 23 kX12_stock_23 = true := by decide +kernel
end
section
def kX3_standing_0 : List JI := [(.iconst 0, 1, 0, 0, 0, 0, 0),
  (.istore_n 1, 1, 1, 0, 0, 0, 0),
  (.iconst 0, 1, 0, 0, 0, 0, 0),
  (.istore_n 2, 1, 2, 0, 0, 0, 0)]
theorem qX3_standing_0 : jchk 176 0 kX3_standing_0 = true := by decide +kernel
def kX3_standing_4 : List JI := [(.iload_n 2, 1, 2, 0, 0, 0, 0),
  (.aload_n 0, 1, 0, 0, 0, 0, 0),
  (.getfield 30, 3, 3, 0, 1, 0, 283),
  (.if_icmp .ge 20, 3, 29, 0, 0, 0, 0),
  (.aload_n 0, 1, 0, 0, 0, 0, 0),
  (.iload_n 2, 1, 2, 0, 0, 0, 0),
  (.invokevirtual 34, 3, 84, 1, 0, 3, 724),
  (.ifCond .eq 6, 3, 23, 0, 0, 0, 0),
  (.iinc 1 1, 3, 1, 1, 0, 0, 0)]
theorem qX3_standing_4 : jchk 176 4 kX3_standing_4 = true := by decide +kernel
def kX3_standing_23 : List JI := [(.iinc 2 1, 3, 2, 1, 0, 0, 0),
  (.goto (-22), 3, 4, 0, 0, 0, 0)]
theorem qX3_standing_23 : jchk 176 23 kX3_standing_23 = true := by decide +kernel
def kX3_standing_29 : List JI := [(.iload_n 1, 1, 1, 0, 0, 0, 0),
  (.ireturn, 1, 0, 0, 0, 0, 0)]
theorem qX3_standing_29 : jchk 176 29 kX3_standing_29 = true := by decide +kernel
def kX11_told_0 : List JI := [(.iload_n 1, 1, 1, 0, 0, 0, 0),
  (.tableswitch 121 0 8 #[51, 56, 64, 73, 81, 89, 97, 105, 113], 51, 0, 0, 0, 0, 0)]
theorem qX11_told_0 : jchk 177 0 kX11_told_0 = true := by decide +kernel
def kX11_told_52 : List JI := [(.aload_n 0, 1, 0, 0, 0, 0, 0),
  (.getfield 147, 3, 11, 0, 1, 0, 472),
  (.ireturn, 1, 0, 0, 0, 0, 0)]
theorem qX11_told_52 : jchk 177 52 kX11_told_52 = true := by decide +kernel
def kX11_told_57 : List JI := [(.aload_n 0, 1, 0, 0, 0, 0, 0),
  (.getfield 37, 3, 11, 5, 4, 0, 477),
  (.getfield 182, 3, 10, 4, 1, 0, 238),
  (.ireturn, 1, 0, 0, 0, 0, 0)]
theorem qX11_told_57 : jchk 177 57 kX11_told_57 = true := by decide +kernel
def kX11_told_65 : List JI := [(.aload_n 0, 1, 0, 0, 0, 0, 0),
  (.getfield 37, 3, 11, 5, 4, 0, 477),
  (.iconst 2, 1, 0, 2, 0, 0, 0),
  (.invokevirtual 340, 3, 156, 1, 0, 10, 899),
  (.ireturn, 1, 0, 0, 0, 0, 0)]
theorem qX11_told_65 : jchk 177 65 kX11_told_65 = true := by decide +kernel
def kX11_told_74 : List JI := [(.aload_n 0, 1, 0, 0, 0, 0, 0),
  (.getfield 44, 3, 11, 6, 4, 0, 478),
  (.invokevirtual 343, 3, 176, 0, 0, 3, 949),
  (.ireturn, 1, 0, 0, 0, 0, 0)]
theorem qX11_told_74 : jchk 177 74 kX11_told_74 = true := by decide +kernel
def kX11_told_82 : List JI := [(.aload_n 0, 1, 0, 0, 0, 0, 0),
  (.getfield 37, 3, 11, 5, 4, 0, 477),
  (.getfield 347, 3, 10, 7, 1, 0, 244),
  (.ireturn, 1, 0, 0, 0, 0, 0)]
theorem qX11_told_82 : jchk 177 82 kX11_told_82 = true := by decide +kernel
def kX11_told_90 : List JI := [(.aload_n 0, 1, 0, 0, 0, 0, 0),
  (.getfield 37, 3, 11, 5, 4, 0, 477),
  (.getfield 350, 3, 10, 8, 1, 0, 246),
  (.ireturn, 1, 0, 0, 0, 0, 0)]
theorem qX11_told_90 : jchk 177 90 kX11_told_90 = true := by decide +kernel
def kX11_told_98 : List JI := [(.aload_n 0, 1, 0, 0, 0, 0, 0),
  (.getfield 37, 3, 11, 5, 4, 0, 477),
  (.getfield 353, 3, 10, 9, 1, 0, 248),
  (.ireturn, 1, 0, 0, 0, 0, 0)]
theorem qX11_told_98 : jchk 177 98 kX11_told_98 = true := by decide +kernel
def kX11_told_106 : List JI := [(.aload_n 0, 1, 0, 0, 0, 0, 0),
  (.getfield 23, 3, 11, 3, 4, 0, 475),
  (.getfield 154, 3, 2, 0, 1, 0, 107),
  (.ireturn, 1, 0, 0, 0, 0, 0)]
theorem qX11_told_106 : jchk 177 106 kX11_told_106 = true := by decide +kernel
def kX11_told_114 : List JI := [(.aload_n 0, 1, 0, 0, 0, 0, 0),
  (.getfield 65, 3, 11, 9, 4, 0, 481),
  (.getfield 287, 3, 5, 0, 1, 0, 377),
  (.ireturn, 1, 0, 0, 0, 0, 0)]
theorem qX11_told_114 : jchk 177 114 kX11_told_114 = true := by decide +kernel
def kX11_told_122 : List JI := [(.iload_n 1, 1, 1, 0, 0, 0, 0),
  (.bipush 11, 2, 0, 11, 0, 0, 0),
  (.if_icmp .lt 21, 3, 146, 0, 0, 0, 0),
  (.iload_n 1, 1, 1, 0, 0, 0, 0),
  (.bipush 17, 2, 0, 17, 0, 0, 0),
  (.if_icmp .gt 15, 3, 146, 0, 0, 0, 0),
  (.aload_n 0, 1, 0, 0, 0, 0, 0),
  (.getfield 7, 3, 11, 1, 4, 0, 473),
  (.iload_n 1, 1, 1, 0, 0, 0, 0),
  (.bipush 10, 2, 0, 10, 0, 0, 0),
  (.isub, 1, 0, 0, 0, 0, 0),
  (.iaload, 1, 0, 0, 0, 0, 0),
  (.goto 5, 3, 148, 0, 0, 0, 0)]
theorem qX11_told_122 : jchk 177 122 kX11_told_122 = true := by decide +kernel
def kX11_told_146 : List JI := [(.bipush (-9), 2, 0, -9, 0, 0, 0)]
theorem qX11_told_146 : jchk 177 146 kX11_told_146 = true := by decide +kernel
def kX11_told_148 : List JI := [(.ireturn, 1, 0, 0, 0, 0, 0)]
theorem qX11_told_148 : jchk 177 148 kX11_told_148 = true := by decide +kernel
def kX12_told_0 : List JI := [(.iconst 0, 1, 0, 0, 0, 0, 0),
  (.istore_n 2, 1, 2, 0, 0, 0, 0),
  (.iload_n 1, 1, 1, 0, 0, 0, 0),
  (.tableswitch 155 0 8 #[49, 54, 59, 95, 130, 135, 140, 145, 150], 49, 0, 0, 0, 0, 0)]
theorem qX12_told_0 : jchk 178 0 kX12_told_0 = true := by decide +kernel
def kX12_told_52 : List JI := [(.aload_n 0, 1, 0, 0, 0, 0, 0),
  (.getfield 184, 3, 12, 0, 1, 0, 959),
  (.ireturn, 1, 0, 0, 0, 0, 0)]
theorem qX12_told_52 : jchk 178 52 kX12_told_52 = true := by decide +kernel
def kX12_told_57 : List JI := [(.aload_n 0, 1, 0, 0, 0, 0, 0),
  (.getfield 195, 3, 12, 14, 1, 0, 973),
  (.ireturn, 1, 0, 0, 0, 0, 0)]
theorem qX12_told_57 : jchk 178 57 kX12_told_57 = true := by decide +kernel
def kX12_told_62 : List JI := [(.iconst 0, 1, 0, 0, 0, 0, 0),
  (.istore_n 3, 1, 3, 0, 0, 0, 0)]
theorem qX12_told_62 : jchk 178 62 kX12_told_62 = true := by decide +kernel
def kX12_told_64 : List JI := [(.iload_n 3, 1, 3, 0, 0, 0, 0),
  (.aload_n 0, 1, 0, 0, 0, 0, 0),
  (.getfield 195, 3, 12, 14, 1, 0, 973),
  (.if_icmp .ge 27, 3, 96, 0, 0, 0, 0),
  (.iload_n 2, 1, 2, 0, 0, 0, 0),
  (.aload_n 0, 1, 0, 0, 0, 0, 0),
  (.getfield 55, 3, 12, 18, 4, 0, 977),
  (.iload_n 3, 1, 3, 0, 0, 0, 0),
  (.iaload, 1, 0, 0, 0, 0, 0),
  (.iconst 2, 1, 0, 2, 0, 0, 0),
  (.if_icmp .ne 7, 3, 87, 0, 0, 0, 0),
  (.iconst 1, 1, 0, 1, 0, 0, 0),
  (.goto 4, 3, 88, 0, 0, 0, 0)]
theorem qX12_told_64 : jchk 178 64 kX12_told_64 = true := by decide +kernel
def kX12_told_87 : List JI := [(.iconst 0, 1, 0, 0, 0, 0, 0)]
theorem qX12_told_87 : jchk 178 87 kX12_told_87 = true := by decide +kernel
def kX12_told_88 : List JI := [(.iadd, 1, 0, 0, 0, 0, 0),
  (.istore_n 2, 1, 2, 0, 0, 0, 0),
  (.iinc 3 1, 3, 3, 1, 0, 0, 0),
  (.goto (-29), 3, 64, 0, 0, 0, 0)]
theorem qX12_told_88 : jchk 178 88 kX12_told_88 = true := by decide +kernel
def kX12_told_96 : List JI := [(.iload_n 2, 1, 2, 0, 0, 0, 0),
  (.ireturn, 1, 0, 0, 0, 0, 0)]
theorem qX12_told_96 : jchk 178 96 kX12_told_96 = true := by decide +kernel
def kX12_told_98 : List JI := [(.iconst 0, 1, 0, 0, 0, 0, 0),
  (.istore_n 3, 1, 3, 0, 0, 0, 0)]
theorem qX12_told_98 : jchk 178 98 kX12_told_98 = true := by decide +kernel
def kX12_told_100 : List JI := [(.iload_n 3, 1, 3, 0, 0, 0, 0),
  (.aload_n 0, 1, 0, 0, 0, 0, 0),
  (.getfield 239, 3, 12, 34, 1, 0, 993),
  (.if_icmp .ge 26, 3, 131, 0, 0, 0, 0),
  (.iload_n 2, 1, 2, 0, 0, 0, 0),
  (.aload_n 0, 1, 0, 0, 0, 0, 0),
  (.getfield 104, 3, 12, 38, 4, 0, 997),
  (.iload_n 3, 1, 3, 0, 0, 0, 0),
  (.iaload, 1, 0, 0, 0, 0, 0),
  (.ifCond .ge 7, 3, 122, 0, 0, 0, 0),
  (.iconst 1, 1, 0, 1, 0, 0, 0),
  (.goto 4, 3, 123, 0, 0, 0, 0)]
theorem qX12_told_100 : jchk 178 100 kX12_told_100 = true := by decide +kernel
def kX12_told_122 : List JI := [(.iconst 0, 1, 0, 0, 0, 0, 0)]
theorem qX12_told_122 : jchk 178 122 kX12_told_122 = true := by decide +kernel
def kX12_told_123 : List JI := [(.iadd, 1, 0, 0, 0, 0, 0),
  (.istore_n 2, 1, 2, 0, 0, 0, 0),
  (.iinc 3 1, 3, 3, 1, 0, 0, 0),
  (.goto (-28), 3, 100, 0, 0, 0, 0)]
theorem qX12_told_123 : jchk 178 123 kX12_told_123 = true := by decide +kernel
def kX12_told_131 : List JI := [(.iload_n 2, 1, 2, 0, 0, 0, 0),
  (.ireturn, 1, 0, 0, 0, 0, 0)]
theorem qX12_told_131 : jchk 178 131 kX12_told_131 = true := by decide +kernel
def kX12_told_133 : List JI := [(.aload_n 0, 1, 0, 0, 0, 0, 0),
  (.getfield 216, 3, 12, 30, 1, 0, 989),
  (.ireturn, 1, 0, 0, 0, 0, 0)]
theorem qX12_told_133 : jchk 178 133 kX12_told_133 = true := by decide +kernel
def kX12_told_138 : List JI := [(.aload_n 0, 1, 0, 0, 0, 0, 0),
  (.getfield 219, 3, 12, 31, 1, 0, 990),
  (.ireturn, 1, 0, 0, 0, 0, 0)]
theorem qX12_told_138 : jchk 178 138 kX12_told_138 = true := by decide +kernel
def kX12_told_143 : List JI := [(.aload_n 0, 1, 0, 0, 0, 0, 0),
  (.getfield 213, 3, 12, 32, 1, 0, 991),
  (.ireturn, 1, 0, 0, 0, 0, 0)]
theorem qX12_told_143 : jchk 178 143 kX12_told_143 = true := by decide +kernel
def kX12_told_148 : List JI := [(.aload_n 0, 1, 0, 0, 0, 0, 0),
  (.getfield 188, 3, 12, 6, 1, 0, 965),
  (.ireturn, 1, 0, 0, 0, 0, 0)]
theorem qX12_told_148 : jchk 178 148 kX12_told_148 = true := by decide +kernel
def kX12_told_153 : List JI := [(.aload_n 0, 1, 0, 0, 0, 0, 0),
  (.getfield 266, 3, 12, 45, 1, 0, 1004),
  (.ireturn, 1, 0, 0, 0, 0, 0)]
theorem qX12_told_153 : jchk 178 153 kX12_told_153 = true := by decide +kernel
def kX12_told_158 : List JI := [(.iload_n 1, 1, 1, 0, 0, 0, 0),
  (.bipush 11, 2, 0, 11, 0, 0, 0),
  (.bipush 17, 2, 0, 17, 0, 0, 0),
  (.invokestatic 168, 3, 19, 3, 0, 12, 1160),
  (.ifCond .eq 15, 3, 181, 0, 0, 0, 0),
  (.aload_n 0, 1, 0, 0, 0, 0, 0),
  (.getfield 137, 3, 12, 50, 4, 0, 1009),
  (.iload_n 1, 1, 1, 0, 0, 0, 0),
  (.bipush 10, 2, 0, 10, 0, 0, 0),
  (.isub, 1, 0, 0, 0, 0, 0),
  (.iaload, 1, 0, 0, 0, 0, 0),
  (.goto 5, 3, 183, 0, 0, 0, 0)]
theorem qX12_told_158 : jchk 178 158 kX12_told_158 = true := by decide +kernel
def kX12_told_181 : List JI := [(.bipush (-9), 2, 0, -9, 0, 0, 0)]
theorem qX12_told_181 : jchk 178 181 kX12_told_181 = true := by decide +kernel
def kX12_told_183 : List JI := [(.ireturn, 1, 0, 0, 0, 0, 0)]
theorem qX12_told_183 : jchk 178 183 kX12_told_183 = true := by decide +kernel
def kL_law_0 : List JI := [(.new 7, 3, 11, 0, 0, 0, 63),
  (.dup, 1, 0, 0, 0, 0, 0),
  (.invokespecial 9, 3, 12, 0, 175, 11, 65),
  (.astore_n 1, 1, 1, 0, 0, 0, 0),
  (.new 10, 3, 12, 0, 0, 0, 953),
  (.dup, 1, 0, 0, 0, 0, 0),
  (.invokespecial 12, 3, 13, 0, 52, 12, 955),
  (.astore_n 2, 1, 2, 0, 0, 0, 0),
  (.iconst 0, 1, 0, 0, 0, 0, 0),
  (.istore_n 3, 1, 3, 0, 0, 0, 0)]
theorem qL_law_0 : jchk 179 0 kL_law_0 = true := by decide +kernel
def kL_law_18 : List JI := [(.iload_n 3, 1, 3, 0, 0, 0, 0),
  (.aload_n 0, 1, 0, 0, 0, 0, 0),
  (.arraylength, 1, 0, 0, 0, 0, 0),
  (.bipush 6, 2, 0, 6, 0, 0, 0),
  (.isub, 1, 0, 0, 0, 0, 0),
  (.if_icmp .gt 1392, 3, 1416, 0, 0, 0, 0),
  (.aload_n 0, 1, 0, 0, 0, 0, 0),
  (.iload_n 3, 1, 3, 0, 0, 0, 0),
  (.iaload, 1, 0, 0, 0, 0, 0),
  (.bipush 63, 2, 0, 63, 0, 0, 0),
  (.iand, 1, 0, 0, 0, 0, 0),
  (.tableswitch 1377 0 35 #[159, 192, 225, 258, 281, 324, 387, 420, 453, 506, 549, 602, 655, 698, 731, 764, 787, 810, 833, 866, 909, 972, 1005, 1028, 1061, 1094, 1127, 1160, 1183, 1206, 1229, 1242, 1265, 1298, 1331, 1354], 159, 0, 0, 0, 0, 0)]
theorem qL_law_18 : jchk 179 18 kL_law_18 = true := by decide +kernel
def kL_law_192 : List JI := [(.aload_n 1, 1, 1, 0, 0, 0, 0),
  (.aload_n 0, 1, 0, 0, 0, 0, 0),
  (.iload_n 3, 1, 3, 0, 0, 0, 0),
  (.iconst 1, 1, 0, 1, 0, 0, 0),
  (.iadd, 1, 0, 0, 0, 0, 0),
  (.iaload, 1, 0, 0, 0, 0, 0),
  (.aload_n 0, 1, 0, 0, 0, 0, 0),
  (.iload_n 3, 1, 3, 0, 0, 0, 0),
  (.iconst 2, 1, 0, 2, 0, 0, 0),
  (.iadd, 1, 0, 0, 0, 0, 0),
  (.iaload, 1, 0, 0, 0, 0, 0),
  (.invokevirtual 13, 3, 18, 2, 0, 11, 509),
  (.pop, 1, 0, 0, 0, 0, 0),
  (.aload_n 2, 1, 2, 0, 0, 0, 0),
  (.aload_n 0, 1, 0, 0, 0, 0, 0),
  (.iload_n 3, 1, 3, 0, 0, 0, 0),
  (.iconst 1, 1, 0, 1, 0, 0, 0),
  (.iadd, 1, 0, 0, 0, 0, 0),
  (.iaload, 1, 0, 0, 0, 0, 0),
  (.aload_n 0, 1, 0, 0, 0, 0, 0),
  (.iload_n 3, 1, 3, 0, 0, 0, 0),
  (.iconst 2, 1, 0, 2, 0, 0, 0),
  (.iadd, 1, 0, 0, 0, 0, 0),
  (.iaload, 1, 0, 0, 0, 0, 0),
  (.invokevirtual 17, 3, 21, 2, 0, 12, 1156),
  (.pop, 1, 0, 0, 0, 0, 0),
  (.goto 1188, 3, 1410, 0, 0, 0, 0)]
theorem qL_law_192 : jchk 179 192 kL_law_192 = true := by decide +kernel
def kL_law_225 : List JI := [(.aload_n 1, 1, 1, 0, 0, 0, 0),
  (.aload_n 0, 1, 0, 0, 0, 0, 0),
  (.iload_n 3, 1, 3, 0, 0, 0, 0),
  (.iconst 1, 1, 0, 1, 0, 0, 0),
  (.iadd, 1, 0, 0, 0, 0, 0),
  (.iaload, 1, 0, 0, 0, 0, 0),
  (.aload_n 0, 1, 0, 0, 0, 0, 0),
  (.iload_n 3, 1, 3, 0, 0, 0, 0),
  (.iconst 2, 1, 0, 2, 0, 0, 0),
  (.iadd, 1, 0, 0, 0, 0, 0),
  (.iaload, 1, 0, 0, 0, 0, 0),
  (.invokevirtual 18, 3, 22, 2, 0, 11, 527),
  (.pop, 1, 0, 0, 0, 0, 0),
  (.aload_n 2, 1, 2, 0, 0, 0, 0),
  (.aload_n 0, 1, 0, 0, 0, 0, 0),
  (.iload_n 3, 1, 3, 0, 0, 0, 0),
  (.iconst 1, 1, 0, 1, 0, 0, 0),
  (.iadd, 1, 0, 0, 0, 0, 0),
  (.iaload, 1, 0, 0, 0, 0, 0),
  (.aload_n 0, 1, 0, 0, 0, 0, 0),
  (.iload_n 3, 1, 3, 0, 0, 0, 0),
  (.iconst 2, 1, 0, 2, 0, 0, 0),
  (.iadd, 1, 0, 0, 0, 0, 0),
  (.iaload, 1, 0, 0, 0, 0, 0),
  (.invokevirtual 21, 3, 23, 2, 0, 12, 1167),
  (.pop, 1, 0, 0, 0, 0, 0),
  (.goto 1155, 3, 1410, 0, 0, 0, 0)]
theorem qL_law_225 : jchk 179 225 kL_law_225 = true := by decide +kernel
def kL_law_258 : List JI := [(.aload_n 1, 1, 1, 0, 0, 0, 0),
  (.aload_n 0, 1, 0, 0, 0, 0, 0),
  (.iload_n 3, 1, 3, 0, 0, 0, 0),
  (.iconst 1, 1, 0, 1, 0, 0, 0),
  (.iadd, 1, 0, 0, 0, 0, 0),
  (.iaload, 1, 0, 0, 0, 0, 0),
  (.aload_n 0, 1, 0, 0, 0, 0, 0),
  (.iload_n 3, 1, 3, 0, 0, 0, 0),
  (.iconst 2, 1, 0, 2, 0, 0, 0),
  (.iadd, 1, 0, 0, 0, 0, 0),
  (.iaload, 1, 0, 0, 0, 0, 0),
  (.invokevirtual 22, 3, 24, 2, 0, 11, 532),
  (.aload_n 2, 1, 2, 0, 0, 0, 0),
  (.aload_n 0, 1, 0, 0, 0, 0, 0),
  (.iload_n 3, 1, 3, 0, 0, 0, 0),
  (.iconst 1, 1, 0, 1, 0, 0, 0),
  (.iadd, 1, 0, 0, 0, 0, 0),
  (.iaload, 1, 0, 0, 0, 0, 0),
  (.aload_n 0, 1, 0, 0, 0, 0, 0),
  (.iload_n 3, 1, 3, 0, 0, 0, 0),
  (.iconst 2, 1, 0, 2, 0, 0, 0),
  (.iadd, 1, 0, 0, 0, 0, 0),
  (.iaload, 1, 0, 0, 0, 0, 0),
  (.invokevirtual 25, 3, 25, 2, 0, 12, 1172),
  (.if_icmp .eq 1124, 3, 1410, 0, 0, 0, 0),
  (.iconst 0, 1, 0, 0, 0, 0, 0),
  (.ireturn, 1, 0, 0, 1, 0, 0)]
theorem qL_law_258 : jchk 179 258 kL_law_258 = true := by decide +kernel
def kL_law_291 : List JI := [(.aload_n 1, 1, 1, 0, 0, 0, 0),
  (.aload_n 0, 1, 0, 0, 0, 0, 0),
  (.iload_n 3, 1, 3, 0, 0, 0, 0),
  (.iconst 1, 1, 0, 1, 0, 0, 0),
  (.iadd, 1, 0, 0, 0, 0, 0),
  (.iaload, 1, 0, 0, 0, 0, 0),
  (.invokevirtual 26, 3, 27, 1, 0, 11, 537),
  (.pop, 1, 0, 0, 0, 0, 0),
  (.aload_n 2, 1, 2, 0, 0, 0, 0),
  (.aload_n 0, 1, 0, 0, 0, 0, 0),
  (.iload_n 3, 1, 3, 0, 0, 0, 0),
  (.iconst 1, 1, 0, 1, 0, 0, 0),
  (.iadd, 1, 0, 0, 0, 0, 0),
  (.iaload, 1, 0, 0, 0, 0, 0),
  (.invokevirtual 30, 3, 28, 1, 0, 12, 1176),
  (.pop, 1, 0, 0, 0, 0, 0),
  (.goto 1099, 3, 1410, 0, 0, 0, 0)]
theorem qL_law_291 : jchk 179 291 kL_law_291 = true := by decide +kernel
def kL_law_314 : List JI := [(.aload_n 1, 1, 1, 0, 0, 0, 0),
  (.aload_n 0, 1, 0, 0, 0, 0, 0),
  (.iload_n 3, 1, 3, 0, 0, 0, 0),
  (.iconst 1, 1, 0, 1, 0, 0, 0),
  (.iadd, 1, 0, 0, 0, 0, 0),
  (.iaload, 1, 0, 0, 0, 0, 0),
  (.aload_n 0, 1, 0, 0, 0, 0, 0),
  (.iload_n 3, 1, 3, 0, 0, 0, 0),
  (.iconst 2, 1, 0, 2, 0, 0, 0),
  (.iadd, 1, 0, 0, 0, 0, 0),
  (.iaload, 1, 0, 0, 0, 0, 0),
  (.aload_n 0, 1, 0, 0, 0, 0, 0),
  (.iload_n 3, 1, 3, 0, 0, 0, 0),
  (.iconst 3, 1, 0, 3, 0, 0, 0),
  (.iadd, 1, 0, 0, 0, 0, 0),
  (.iaload, 1, 0, 0, 0, 0, 0),
  (.invokevirtual 31, 3, 29, 3, 0, 11, 545),
  (.pop, 1, 0, 0, 0, 0, 0),
  (.aload_n 2, 1, 2, 0, 0, 0, 0),
  (.aload_n 0, 1, 0, 0, 0, 0, 0),
  (.iload_n 3, 1, 3, 0, 0, 0, 0),
  (.iconst 1, 1, 0, 1, 0, 0, 0),
  (.iadd, 1, 0, 0, 0, 0, 0),
  (.iaload, 1, 0, 0, 0, 0, 0),
  (.aload_n 0, 1, 0, 0, 0, 0, 0),
  (.iload_n 3, 1, 3, 0, 0, 0, 0),
  (.iconst 2, 1, 0, 2, 0, 0, 0),
  (.iadd, 1, 0, 0, 0, 0, 0),
  (.iaload, 1, 0, 0, 0, 0, 0),
  (.aload_n 0, 1, 0, 0, 0, 0, 0),
  (.iload_n 3, 1, 3, 0, 0, 0, 0),
  (.iconst 3, 1, 0, 3, 0, 0, 0),
  (.iadd, 1, 0, 0, 0, 0, 0),
  (.iaload, 1, 0, 0, 0, 0, 0),
  (.invokevirtual 35, 3, 30, 3, 0, 12, 1180),
  (.pop, 1, 0, 0, 0, 0, 0),
  (.goto 1056, 3, 1410, 0, 0, 0, 0)]
theorem qL_law_314 : jchk 179 314 kL_law_314 = true := by decide +kernel
def kL_law_357 : List JI := [(.aload_n 1, 1, 1, 0, 0, 0, 0),
  (.aload_n 0, 1, 0, 0, 0, 0, 0),
  (.iload_n 3, 1, 3, 0, 0, 0, 0),
  (.iconst 1, 1, 0, 1, 0, 0, 0),
  (.iadd, 1, 0, 0, 0, 0, 0),
  (.iaload, 1, 0, 0, 0, 0, 0),
  (.aload_n 0, 1, 0, 0, 0, 0, 0),
  (.iload_n 3, 1, 3, 0, 0, 0, 0),
  (.iconst 2, 1, 0, 2, 0, 0, 0),
  (.iadd, 1, 0, 0, 0, 0, 0),
  (.iaload, 1, 0, 0, 0, 0, 0),
  (.aload_n 0, 1, 0, 0, 0, 0, 0),
  (.iload_n 3, 1, 3, 0, 0, 0, 0),
  (.iconst 3, 1, 0, 3, 0, 0, 0),
  (.iadd, 1, 0, 0, 0, 0, 0),
  (.iaload, 1, 0, 0, 0, 0, 0),
  (.aload_n 0, 1, 0, 0, 0, 0, 0),
  (.iload_n 3, 1, 3, 0, 0, 0, 0),
  (.iconst 4, 1, 0, 4, 0, 0, 0),
  (.iadd, 1, 0, 0, 0, 0, 0),
  (.iaload, 1, 0, 0, 0, 0, 0),
  (.aload_n 0, 1, 0, 0, 0, 0, 0),
  (.iload_n 3, 1, 3, 0, 0, 0, 0),
  (.iconst 5, 1, 0, 5, 0, 0, 0),
  (.iadd, 1, 0, 0, 0, 0, 0),
  (.iaload, 1, 0, 0, 0, 0, 0),
  (.invokevirtual 36, 3, 32, 5, 0, 11, 549),
  (.pop, 1, 0, 0, 0, 0, 0),
  (.aload_n 2, 1, 2, 0, 0, 0, 0),
  (.aload_n 0, 1, 0, 0, 0, 0, 0),
  (.iload_n 3, 1, 3, 0, 0, 0, 0),
  (.iconst 1, 1, 0, 1, 0, 0, 0),
  (.iadd, 1, 0, 0, 0, 0, 0),
  (.iaload, 1, 0, 0, 0, 0, 0),
  (.aload_n 0, 1, 0, 0, 0, 0, 0),
  (.iload_n 3, 1, 3, 0, 0, 0, 0),
  (.iconst 2, 1, 0, 2, 0, 0, 0),
  (.iadd, 1, 0, 0, 0, 0, 0),
  (.iaload, 1, 0, 0, 0, 0, 0),
  (.aload_n 0, 1, 0, 0, 0, 0, 0),
  (.iload_n 3, 1, 3, 0, 0, 0, 0),
  (.iconst 3, 1, 0, 3, 0, 0, 0),
  (.iadd, 1, 0, 0, 0, 0, 0),
  (.iaload, 1, 0, 0, 0, 0, 0),
  (.aload_n 0, 1, 0, 0, 0, 0, 0),
  (.iload_n 3, 1, 3, 0, 0, 0, 0),
  (.iconst 4, 1, 0, 4, 0, 0, 0),
  (.iadd, 1, 0, 0, 0, 0, 0),
  (.iaload, 1, 0, 0, 0, 0, 0),
  (.aload_n 0, 1, 0, 0, 0, 0, 0),
  (.iload_n 3, 1, 3, 0, 0, 0, 0),
  (.iconst 5, 1, 0, 5, 0, 0, 0),
  (.iadd, 1, 0, 0, 0, 0, 0),
  (.iaload, 1, 0, 0, 0, 0, 0),
  (.invokevirtual 40, 3, 33, 5, 0, 12, 1184),
  (.pop, 1, 0, 0, 0, 0, 0),
  (.goto 993, 3, 1410, 0, 0, 0, 0)]
theorem qL_law_357 : jchk 179 357 kL_law_357 = true := by decide +kernel
def kL_law_420 : List JI := [(.aload_n 1, 1, 1, 0, 0, 0, 0),
  (.aload_n 0, 1, 0, 0, 0, 0, 0),
  (.iload_n 3, 1, 3, 0, 0, 0, 0),
  (.iconst 1, 1, 0, 1, 0, 0, 0),
  (.iadd, 1, 0, 0, 0, 0, 0),
  (.iaload, 1, 0, 0, 0, 0, 0),
  (.aload_n 0, 1, 0, 0, 0, 0, 0),
  (.iload_n 3, 1, 3, 0, 0, 0, 0),
  (.iconst 2, 1, 0, 2, 0, 0, 0),
  (.iadd, 1, 0, 0, 0, 0, 0),
  (.iaload, 1, 0, 0, 0, 0, 0),
  (.invokevirtual 41, 3, 35, 2, 0, 11, 560),
  (.pop, 1, 0, 0, 0, 0, 0),
  (.aload_n 2, 1, 2, 0, 0, 0, 0),
  (.aload_n 0, 1, 0, 0, 0, 0, 0),
  (.iload_n 3, 1, 3, 0, 0, 0, 0),
  (.iconst 1, 1, 0, 1, 0, 0, 0),
  (.iadd, 1, 0, 0, 0, 0, 0),
  (.iaload, 1, 0, 0, 0, 0, 0),
  (.aload_n 0, 1, 0, 0, 0, 0, 0),
  (.iload_n 3, 1, 3, 0, 0, 0, 0),
  (.iconst 2, 1, 0, 2, 0, 0, 0),
  (.iadd, 1, 0, 0, 0, 0, 0),
  (.iaload, 1, 0, 0, 0, 0, 0),
  (.invokevirtual 44, 3, 37, 2, 0, 12, 1188),
  (.pop, 1, 0, 0, 0, 0, 0),
  (.goto 960, 3, 1410, 0, 0, 0, 0)]
theorem qL_law_420 : jchk 179 420 kL_law_420 = true := by decide +kernel
def kL_law_453 : List JI := [(.aload_n 1, 1, 1, 0, 0, 0, 0),
  (.aload_n 0, 1, 0, 0, 0, 0, 0),
  (.iload_n 3, 1, 3, 0, 0, 0, 0),
  (.iconst 1, 1, 0, 1, 0, 0, 0),
  (.iadd, 1, 0, 0, 0, 0, 0),
  (.iaload, 1, 0, 0, 0, 0, 0),
  (.aload_n 0, 1, 0, 0, 0, 0, 0),
  (.iload_n 3, 1, 3, 0, 0, 0, 0),
  (.iconst 2, 1, 0, 2, 0, 0, 0),
  (.iadd, 1, 0, 0, 0, 0, 0),
  (.iaload, 1, 0, 0, 0, 0, 0),
  (.invokevirtual 45, 3, 39, 2, 0, 11, 569),
  (.pop, 1, 0, 0, 0, 0, 0),
  (.aload_n 2, 1, 2, 0, 0, 0, 0),
  (.aload_n 0, 1, 0, 0, 0, 0, 0),
  (.iload_n 3, 1, 3, 0, 0, 0, 0),
  (.iconst 1, 1, 0, 1, 0, 0, 0),
  (.iadd, 1, 0, 0, 0, 0, 0),
  (.iaload, 1, 0, 0, 0, 0, 0),
  (.aload_n 0, 1, 0, 0, 0, 0, 0),
  (.iload_n 3, 1, 3, 0, 0, 0, 0),
  (.iconst 2, 1, 0, 2, 0, 0, 0),
  (.iadd, 1, 0, 0, 0, 0, 0),
  (.iaload, 1, 0, 0, 0, 0, 0),
  (.invokevirtual 48, 3, 41, 2, 0, 12, 1197),
  (.pop, 1, 0, 0, 0, 0, 0),
  (.goto 927, 3, 1410, 0, 0, 0, 0)]
theorem qL_law_453 : jchk 179 453 kL_law_453 = true := by decide +kernel
def kL_law_486 : List JI := [(.aload_n 1, 1, 1, 0, 0, 0, 0),
  (.aload_n 0, 1, 0, 0, 0, 0, 0),
  (.iload_n 3, 1, 3, 0, 0, 0, 0),
  (.iconst 1, 1, 0, 1, 0, 0, 0),
  (.iadd, 1, 0, 0, 0, 0, 0),
  (.iaload, 1, 0, 0, 0, 0, 0),
  (.aload_n 0, 1, 0, 0, 0, 0, 0),
  (.iload_n 3, 1, 3, 0, 0, 0, 0),
  (.iconst 2, 1, 0, 2, 0, 0, 0),
  (.iadd, 1, 0, 0, 0, 0, 0),
  (.iaload, 1, 0, 0, 0, 0, 0),
  (.aload_n 0, 1, 0, 0, 0, 0, 0),
  (.iload_n 3, 1, 3, 0, 0, 0, 0),
  (.iconst 3, 1, 0, 3, 0, 0, 0),
  (.iadd, 1, 0, 0, 0, 0, 0),
  (.iaload, 1, 0, 0, 0, 0, 0),
  (.aload_n 0, 1, 0, 0, 0, 0, 0),
  (.iload_n 3, 1, 3, 0, 0, 0, 0),
  (.iconst 4, 1, 0, 4, 0, 0, 0),
  (.iadd, 1, 0, 0, 0, 0, 0),
  (.iaload, 1, 0, 0, 0, 0, 0),
  (.invokevirtual 49, 3, 44, 4, 0, 11, 577),
  (.pop, 1, 0, 0, 0, 0, 0),
  (.aload_n 2, 1, 2, 0, 0, 0, 0),
  (.aload_n 0, 1, 0, 0, 0, 0, 0),
  (.iload_n 3, 1, 3, 0, 0, 0, 0),
  (.iconst 1, 1, 0, 1, 0, 0, 0),
  (.iadd, 1, 0, 0, 0, 0, 0),
  (.iaload, 1, 0, 0, 0, 0, 0),
  (.aload_n 0, 1, 0, 0, 0, 0, 0),
  (.iload_n 3, 1, 3, 0, 0, 0, 0),
  (.iconst 2, 1, 0, 2, 0, 0, 0),
  (.iadd, 1, 0, 0, 0, 0, 0),
  (.iaload, 1, 0, 0, 0, 0, 0),
  (.aload_n 0, 1, 0, 0, 0, 0, 0),
  (.iload_n 3, 1, 3, 0, 0, 0, 0),
  (.iconst 3, 1, 0, 3, 0, 0, 0),
  (.iadd, 1, 0, 0, 0, 0, 0),
  (.iaload, 1, 0, 0, 0, 0, 0),
  (.aload_n 0, 1, 0, 0, 0, 0, 0),
  (.iload_n 3, 1, 3, 0, 0, 0, 0),
  (.iconst 4, 1, 0, 4, 0, 0, 0),
  (.iadd, 1, 0, 0, 0, 0, 0),
  (.iaload, 1, 0, 0, 0, 0, 0),
  (.invokevirtual 53, 3, 45, 4, 0, 12, 1205),
  (.pop, 1, 0, 0, 0, 0, 0),
  (.goto 874, 3, 1410, 0, 0, 0, 0)]
theorem qL_law_486 : jchk 179 486 kL_law_486 = true := by decide +kernel
def kL_law_539 : List JI := [(.aload_n 1, 1, 1, 0, 0, 0, 0),
  (.aload_n 0, 1, 0, 0, 0, 0, 0),
  (.iload_n 3, 1, 3, 0, 0, 0, 0),
  (.iconst 1, 1, 0, 1, 0, 0, 0),
  (.iadd, 1, 0, 0, 0, 0, 0),
  (.iaload, 1, 0, 0, 0, 0, 0),
  (.aload_n 0, 1, 0, 0, 0, 0, 0),
  (.iload_n 3, 1, 3, 0, 0, 0, 0),
  (.iconst 2, 1, 0, 2, 0, 0, 0),
  (.iadd, 1, 0, 0, 0, 0, 0),
  (.iaload, 1, 0, 0, 0, 0, 0),
  (.aload_n 0, 1, 0, 0, 0, 0, 0),
  (.iload_n 3, 1, 3, 0, 0, 0, 0),
  (.iconst 3, 1, 0, 3, 0, 0, 0),
  (.iadd, 1, 0, 0, 0, 0, 0),
  (.iaload, 1, 0, 0, 0, 0, 0),
  (.invokevirtual 54, 3, 49, 3, 0, 11, 592),
  (.pop, 1, 0, 0, 0, 0, 0),
  (.aload_n 2, 1, 2, 0, 0, 0, 0),
  (.aload_n 0, 1, 0, 0, 0, 0, 0),
  (.iload_n 3, 1, 3, 0, 0, 0, 0),
  (.iconst 1, 1, 0, 1, 0, 0, 0),
  (.iadd, 1, 0, 0, 0, 0, 0),
  (.iaload, 1, 0, 0, 0, 0, 0),
  (.aload_n 0, 1, 0, 0, 0, 0, 0),
  (.iload_n 3, 1, 3, 0, 0, 0, 0),
  (.iconst 2, 1, 0, 2, 0, 0, 0),
  (.iadd, 1, 0, 0, 0, 0, 0),
  (.iaload, 1, 0, 0, 0, 0, 0),
  (.aload_n 0, 1, 0, 0, 0, 0, 0),
  (.iload_n 3, 1, 3, 0, 0, 0, 0),
  (.iconst 3, 1, 0, 3, 0, 0, 0),
  (.iadd, 1, 0, 0, 0, 0, 0),
  (.iaload, 1, 0, 0, 0, 0, 0),
  (.invokevirtual 57, 3, 51, 3, 0, 12, 1209),
  (.pop, 1, 0, 0, 0, 0, 0),
  (.goto 831, 3, 1410, 0, 0, 0, 0)]
theorem qL_law_539 : jchk 179 539 kL_law_539 = true := by decide +kernel
def kL_law_582 : List JI := [(.aload_n 1, 1, 1, 0, 0, 0, 0),
  (.aload_n 0, 1, 0, 0, 0, 0, 0),
  (.iload_n 3, 1, 3, 0, 0, 0, 0),
  (.iconst 1, 1, 0, 1, 0, 0, 0),
  (.iadd, 1, 0, 0, 0, 0, 0),
  (.iaload, 1, 0, 0, 0, 0, 0),
  (.aload_n 0, 1, 0, 0, 0, 0, 0),
  (.iload_n 3, 1, 3, 0, 0, 0, 0),
  (.iconst 2, 1, 0, 2, 0, 0, 0),
  (.iadd, 1, 0, 0, 0, 0, 0),
  (.iaload, 1, 0, 0, 0, 0, 0),
  (.aload_n 0, 1, 0, 0, 0, 0, 0),
  (.iload_n 3, 1, 3, 0, 0, 0, 0),
  (.iconst 3, 1, 0, 3, 0, 0, 0),
  (.iadd, 1, 0, 0, 0, 0, 0),
  (.iaload, 1, 0, 0, 0, 0, 0),
  (.aload_n 0, 1, 0, 0, 0, 0, 0),
  (.iload_n 3, 1, 3, 0, 0, 0, 0),
  (.iconst 4, 1, 0, 4, 0, 0, 0),
  (.iadd, 1, 0, 0, 0, 0, 0),
  (.iaload, 1, 0, 0, 0, 0, 0),
  (.invokevirtual 58, 3, 52, 4, 0, 11, 611),
  (.pop, 1, 0, 0, 0, 0, 0),
  (.aload_n 2, 1, 2, 0, 0, 0, 0),
  (.aload_n 0, 1, 0, 0, 0, 0, 0),
  (.iload_n 3, 1, 3, 0, 0, 0, 0),
  (.iconst 1, 1, 0, 1, 0, 0, 0),
  (.iadd, 1, 0, 0, 0, 0, 0),
  (.iaload, 1, 0, 0, 0, 0, 0),
  (.aload_n 0, 1, 0, 0, 0, 0, 0),
  (.iload_n 3, 1, 3, 0, 0, 0, 0),
  (.iconst 2, 1, 0, 2, 0, 0, 0),
  (.iadd, 1, 0, 0, 0, 0, 0),
  (.iaload, 1, 0, 0, 0, 0, 0),
  (.aload_n 0, 1, 0, 0, 0, 0, 0),
  (.iload_n 3, 1, 3, 0, 0, 0, 0),
  (.iconst 3, 1, 0, 3, 0, 0, 0),
  (.iadd, 1, 0, 0, 0, 0, 0),
  (.iaload, 1, 0, 0, 0, 0, 0),
  (.aload_n 0, 1, 0, 0, 0, 0, 0),
  (.iload_n 3, 1, 3, 0, 0, 0, 0),
  (.iconst 4, 1, 0, 4, 0, 0, 0),
  (.iadd, 1, 0, 0, 0, 0, 0),
  (.iaload, 1, 0, 0, 0, 0, 0),
  (.invokevirtual 61, 3, 53, 4, 0, 12, 1217),
  (.pop, 1, 0, 0, 0, 0, 0),
  (.goto 778, 3, 1410, 0, 0, 0, 0)]
theorem qL_law_582 : jchk 179 582 kL_law_582 = true := by decide +kernel
def kL_law_635 : List JI := [(.aload_n 1, 1, 1, 0, 0, 0, 0),
  (.aload_n 0, 1, 0, 0, 0, 0, 0),
  (.iload_n 3, 1, 3, 0, 0, 0, 0),
  (.iconst 1, 1, 0, 1, 0, 0, 0),
  (.iadd, 1, 0, 0, 0, 0, 0),
  (.iaload, 1, 0, 0, 0, 0, 0),
  (.aload_n 0, 1, 0, 0, 0, 0, 0),
  (.iload_n 3, 1, 3, 0, 0, 0, 0),
  (.iconst 2, 1, 0, 2, 0, 0, 0),
  (.iadd, 1, 0, 0, 0, 0, 0),
  (.iaload, 1, 0, 0, 0, 0, 0),
  (.aload_n 0, 1, 0, 0, 0, 0, 0),
  (.iload_n 3, 1, 3, 0, 0, 0, 0),
  (.iconst 3, 1, 0, 3, 0, 0, 0),
  (.iadd, 1, 0, 0, 0, 0, 0),
  (.iaload, 1, 0, 0, 0, 0, 0),
  (.aload_n 0, 1, 0, 0, 0, 0, 0),
  (.iload_n 3, 1, 3, 0, 0, 0, 0),
  (.iconst 4, 1, 0, 4, 0, 0, 0),
  (.iadd, 1, 0, 0, 0, 0, 0),
  (.iaload, 1, 0, 0, 0, 0, 0),
  (.invokevirtual 62, 3, 54, 4, 0, 11, 615),
  (.pop, 1, 0, 0, 0, 0, 0),
  (.aload_n 2, 1, 2, 0, 0, 0, 0),
  (.aload_n 0, 1, 0, 0, 0, 0, 0),
  (.iload_n 3, 1, 3, 0, 0, 0, 0),
  (.iconst 1, 1, 0, 1, 0, 0, 0),
  (.iadd, 1, 0, 0, 0, 0, 0),
  (.iaload, 1, 0, 0, 0, 0, 0),
  (.aload_n 0, 1, 0, 0, 0, 0, 0),
  (.iload_n 3, 1, 3, 0, 0, 0, 0),
  (.iconst 2, 1, 0, 2, 0, 0, 0),
  (.iadd, 1, 0, 0, 0, 0, 0),
  (.iaload, 1, 0, 0, 0, 0, 0),
  (.aload_n 0, 1, 0, 0, 0, 0, 0),
  (.iload_n 3, 1, 3, 0, 0, 0, 0),
  (.iconst 3, 1, 0, 3, 0, 0, 0),
  (.iadd, 1, 0, 0, 0, 0, 0),
  (.iaload, 1, 0, 0, 0, 0, 0),
  (.aload_n 0, 1, 0, 0, 0, 0, 0),
  (.iload_n 3, 1, 3, 0, 0, 0, 0),
  (.iconst 4, 1, 0, 4, 0, 0, 0),
  (.iadd, 1, 0, 0, 0, 0, 0),
  (.iaload, 1, 0, 0, 0, 0, 0),
  (.invokevirtual 65, 3, 55, 4, 0, 12, 1221),
  (.pop, 1, 0, 0, 0, 0, 0),
  (.goto 725, 3, 1410, 0, 0, 0, 0)]
theorem qL_law_635 : jchk 179 635 kL_law_635 = true := by decide +kernel
def kL_law_688 : List JI := [(.aload_n 1, 1, 1, 0, 0, 0, 0),
  (.aload_n 0, 1, 0, 0, 0, 0, 0),
  (.iload_n 3, 1, 3, 0, 0, 0, 0),
  (.iconst 1, 1, 0, 1, 0, 0, 0),
  (.iadd, 1, 0, 0, 0, 0, 0),
  (.iaload, 1, 0, 0, 0, 0, 0),
  (.aload_n 0, 1, 0, 0, 0, 0, 0),
  (.iload_n 3, 1, 3, 0, 0, 0, 0),
  (.iconst 2, 1, 0, 2, 0, 0, 0),
  (.iadd, 1, 0, 0, 0, 0, 0),
  (.iaload, 1, 0, 0, 0, 0, 0),
  (.aload_n 0, 1, 0, 0, 0, 0, 0),
  (.iload_n 3, 1, 3, 0, 0, 0, 0),
  (.iconst 3, 1, 0, 3, 0, 0, 0),
  (.iadd, 1, 0, 0, 0, 0, 0),
  (.iaload, 1, 0, 0, 0, 0, 0),
  (.invokevirtual 66, 3, 58, 3, 0, 11, 619),
  (.pop, 1, 0, 0, 0, 0, 0),
  (.aload_n 2, 1, 2, 0, 0, 0, 0),
  (.aload_n 0, 1, 0, 0, 0, 0, 0),
  (.iload_n 3, 1, 3, 0, 0, 0, 0),
  (.iconst 1, 1, 0, 1, 0, 0, 0),
  (.iadd, 1, 0, 0, 0, 0, 0),
  (.iaload, 1, 0, 0, 0, 0, 0),
  (.aload_n 0, 1, 0, 0, 0, 0, 0),
  (.iload_n 3, 1, 3, 0, 0, 0, 0),
  (.iconst 2, 1, 0, 2, 0, 0, 0),
  (.iadd, 1, 0, 0, 0, 0, 0),
  (.iaload, 1, 0, 0, 0, 0, 0),
  (.aload_n 0, 1, 0, 0, 0, 0, 0),
  (.iload_n 3, 1, 3, 0, 0, 0, 0),
  (.iconst 3, 1, 0, 3, 0, 0, 0),
  (.iadd, 1, 0, 0, 0, 0, 0),
  (.iaload, 1, 0, 0, 0, 0, 0),
  (.invokevirtual 69, 3, 59, 3, 0, 12, 1225),
  (.pop, 1, 0, 0, 0, 0, 0),
  (.goto 682, 3, 1410, 0, 0, 0, 0)]
theorem qL_law_688 : jchk 179 688 kL_law_688 = true := by decide +kernel
def kL_law_731 : List JI := [(.aload_n 1, 1, 1, 0, 0, 0, 0),
  (.aload_n 0, 1, 0, 0, 0, 0, 0),
  (.iload_n 3, 1, 3, 0, 0, 0, 0),
  (.iconst 1, 1, 0, 1, 0, 0, 0),
  (.iadd, 1, 0, 0, 0, 0, 0),
  (.iaload, 1, 0, 0, 0, 0, 0),
  (.aload_n 0, 1, 0, 0, 0, 0, 0),
  (.iload_n 3, 1, 3, 0, 0, 0, 0),
  (.iconst 2, 1, 0, 2, 0, 0, 0),
  (.iadd, 1, 0, 0, 0, 0, 0),
  (.iaload, 1, 0, 0, 0, 0, 0),
  (.invokevirtual 70, 3, 62, 2, 0, 11, 631),
  (.pop, 1, 0, 0, 0, 0, 0),
  (.aload_n 2, 1, 2, 0, 0, 0, 0),
  (.aload_n 0, 1, 0, 0, 0, 0, 0),
  (.iload_n 3, 1, 3, 0, 0, 0, 0),
  (.iconst 1, 1, 0, 1, 0, 0, 0),
  (.iadd, 1, 0, 0, 0, 0, 0),
  (.iaload, 1, 0, 0, 0, 0, 0),
  (.aload_n 0, 1, 0, 0, 0, 0, 0),
  (.iload_n 3, 1, 3, 0, 0, 0, 0),
  (.iconst 2, 1, 0, 2, 0, 0, 0),
  (.iadd, 1, 0, 0, 0, 0, 0),
  (.iaload, 1, 0, 0, 0, 0, 0),
  (.invokevirtual 73, 3, 64, 2, 0, 12, 1229),
  (.pop, 1, 0, 0, 0, 0, 0),
  (.goto 649, 3, 1410, 0, 0, 0, 0)]
theorem qL_law_731 : jchk 179 731 kL_law_731 = true := by decide +kernel
def kL_law_764 : List JI := [(.aload_n 1, 1, 1, 0, 0, 0, 0),
  (.aload_n 0, 1, 0, 0, 0, 0, 0),
  (.iload_n 3, 1, 3, 0, 0, 0, 0),
  (.iconst 1, 1, 0, 1, 0, 0, 0),
  (.iadd, 1, 0, 0, 0, 0, 0),
  (.iaload, 1, 0, 0, 0, 0, 0),
  (.aload_n 0, 1, 0, 0, 0, 0, 0),
  (.iload_n 3, 1, 3, 0, 0, 0, 0),
  (.iconst 2, 1, 0, 2, 0, 0, 0),
  (.iadd, 1, 0, 0, 0, 0, 0),
  (.iaload, 1, 0, 0, 0, 0, 0),
  (.invokevirtual 74, 3, 65, 2, 0, 11, 643),
  (.pop, 1, 0, 0, 0, 0, 0),
  (.aload_n 2, 1, 2, 0, 0, 0, 0),
  (.aload_n 0, 1, 0, 0, 0, 0, 0),
  (.iload_n 3, 1, 3, 0, 0, 0, 0),
  (.iconst 1, 1, 0, 1, 0, 0, 0),
  (.iadd, 1, 0, 0, 0, 0, 0),
  (.iaload, 1, 0, 0, 0, 0, 0),
  (.aload_n 0, 1, 0, 0, 0, 0, 0),
  (.iload_n 3, 1, 3, 0, 0, 0, 0),
  (.iconst 2, 1, 0, 2, 0, 0, 0),
  (.iadd, 1, 0, 0, 0, 0, 0),
  (.iaload, 1, 0, 0, 0, 0, 0),
  (.invokevirtual 77, 3, 66, 2, 0, 12, 1237),
  (.pop, 1, 0, 0, 0, 0, 0),
  (.goto 616, 3, 1410, 0, 0, 0, 0)]
theorem qL_law_764 : jchk 179 764 kL_law_764 = true := by decide +kernel
def kL_law_797 : List JI := [(.aload_n 1, 1, 1, 0, 0, 0, 0),
  (.aload_n 0, 1, 0, 0, 0, 0, 0),
  (.iload_n 3, 1, 3, 0, 0, 0, 0),
  (.iconst 1, 1, 0, 1, 0, 0, 0),
  (.iadd, 1, 0, 0, 0, 0, 0),
  (.iaload, 1, 0, 0, 0, 0, 0),
  (.invokevirtual 78, 3, 69, 1, 0, 11, 647),
  (.pop, 1, 0, 0, 0, 0, 0),
  (.aload_n 2, 1, 2, 0, 0, 0, 0),
  (.aload_n 0, 1, 0, 0, 0, 0, 0),
  (.iload_n 3, 1, 3, 0, 0, 0, 0),
  (.iconst 1, 1, 0, 1, 0, 0, 0),
  (.iadd, 1, 0, 0, 0, 0, 0),
  (.iaload, 1, 0, 0, 0, 0, 0),
  (.invokevirtual 81, 3, 70, 1, 0, 12, 1241),
  (.pop, 1, 0, 0, 0, 0, 0),
  (.goto 593, 3, 1410, 0, 0, 0, 0)]
theorem qL_law_797 : jchk 179 797 kL_law_797 = true := by decide +kernel
def kL_law_820 : List JI := [(.aload_n 1, 1, 1, 0, 0, 0, 0),
  (.aload_n 0, 1, 0, 0, 0, 0, 0),
  (.iload_n 3, 1, 3, 0, 0, 0, 0),
  (.iconst 1, 1, 0, 1, 0, 0, 0),
  (.iadd, 1, 0, 0, 0, 0, 0),
  (.iaload, 1, 0, 0, 0, 0, 0),
  (.invokevirtual 82, 3, 86, 1, 0, 11, 659),
  (.pop, 1, 0, 0, 0, 0, 0),
  (.aload_n 2, 1, 2, 0, 0, 0, 0),
  (.aload_n 0, 1, 0, 0, 0, 0, 0),
  (.iload_n 3, 1, 3, 0, 0, 0, 0),
  (.iconst 1, 1, 0, 1, 0, 0, 0),
  (.iadd, 1, 0, 0, 0, 0, 0),
  (.iaload, 1, 0, 0, 0, 0, 0),
  (.invokevirtual 85, 3, 95, 1, 0, 12, 1245),
  (.pop, 1, 0, 0, 0, 0, 0),
  (.goto 570, 3, 1410, 0, 0, 0, 0)]
theorem qL_law_820 : jchk 179 820 kL_law_820 = true := by decide +kernel
def kL_law_843 : List JI := [(.aload_n 1, 1, 1, 0, 0, 0, 0),
  (.aload_n 0, 1, 0, 0, 0, 0, 0),
  (.iload_n 3, 1, 3, 0, 0, 0, 0),
  (.iconst 1, 1, 0, 1, 0, 0, 0),
  (.iadd, 1, 0, 0, 0, 0, 0),
  (.iaload, 1, 0, 0, 0, 0, 0),
  (.invokevirtual 86, 3, 96, 1, 0, 11, 728),
  (.pop, 1, 0, 0, 0, 0, 0),
  (.aload_n 2, 1, 2, 0, 0, 0, 0),
  (.aload_n 0, 1, 0, 0, 0, 0, 0),
  (.iload_n 3, 1, 3, 0, 0, 0, 0),
  (.iconst 1, 1, 0, 1, 0, 0, 0),
  (.iadd, 1, 0, 0, 0, 0, 0),
  (.iaload, 1, 0, 0, 0, 0, 0),
  (.invokevirtual 89, 3, 97, 1, 0, 12, 1281),
  (.pop, 1, 0, 0, 0, 0, 0),
  (.goto 547, 3, 1410, 0, 0, 0, 0)]
theorem qL_law_843 : jchk 179 843 kL_law_843 = true := by decide +kernel
def kL_law_866 : List JI := [(.aload_n 1, 1, 1, 0, 0, 0, 0),
  (.aload_n 0, 1, 0, 0, 0, 0, 0),
  (.iload_n 3, 1, 3, 0, 0, 0, 0),
  (.iconst 1, 1, 0, 1, 0, 0, 0),
  (.iadd, 1, 0, 0, 0, 0, 0),
  (.iaload, 1, 0, 0, 0, 0, 0),
  (.aload_n 0, 1, 0, 0, 0, 0, 0),
  (.iload_n 3, 1, 3, 0, 0, 0, 0),
  (.iconst 2, 1, 0, 2, 0, 0, 0),
  (.iadd, 1, 0, 0, 0, 0, 0),
  (.iaload, 1, 0, 0, 0, 0, 0),
  (.invokevirtual 90, 3, 98, 2, 0, 11, 732),
  (.pop, 1, 0, 0, 0, 0, 0),
  (.aload_n 2, 1, 2, 0, 0, 0, 0),
  (.aload_n 0, 1, 0, 0, 0, 0, 0),
  (.iload_n 3, 1, 3, 0, 0, 0, 0),
  (.iconst 1, 1, 0, 1, 0, 0, 0),
  (.iadd, 1, 0, 0, 0, 0, 0),
  (.iaload, 1, 0, 0, 0, 0, 0),
  (.aload_n 0, 1, 0, 0, 0, 0, 0),
  (.iload_n 3, 1, 3, 0, 0, 0, 0),
  (.iconst 2, 1, 0, 2, 0, 0, 0),
  (.iadd, 1, 0, 0, 0, 0, 0),
  (.iaload, 1, 0, 0, 0, 0, 0),
  (.invokevirtual 93, 3, 99, 2, 0, 12, 1285),
  (.pop, 1, 0, 0, 0, 0, 0),
  (.goto 514, 3, 1410, 0, 0, 0, 0)]
theorem qL_law_866 : jchk 179 866 kL_law_866 = true := by decide +kernel
def kL_law_899 : List JI := [(.aload_n 1, 1, 1, 0, 0, 0, 0),
  (.aload_n 0, 1, 0, 0, 0, 0, 0),
  (.iload_n 3, 1, 3, 0, 0, 0, 0),
  (.iconst 1, 1, 0, 1, 0, 0, 0),
  (.iadd, 1, 0, 0, 0, 0, 0),
  (.iaload, 1, 0, 0, 0, 0, 0),
  (.aload_n 0, 1, 0, 0, 0, 0, 0),
  (.iload_n 3, 1, 3, 0, 0, 0, 0),
  (.iconst 2, 1, 0, 2, 0, 0, 0),
  (.iadd, 1, 0, 0, 0, 0, 0),
  (.iaload, 1, 0, 0, 0, 0, 0),
  (.aload_n 0, 1, 0, 0, 0, 0, 0),
  (.iload_n 3, 1, 3, 0, 0, 0, 0),
  (.iconst 3, 1, 0, 3, 0, 0, 0),
  (.iadd, 1, 0, 0, 0, 0, 0),
  (.iaload, 1, 0, 0, 0, 0, 0),
  (.invokevirtual 94, 3, 101, 3, 0, 11, 736),
  (.pop, 1, 0, 0, 0, 0, 0),
  (.aload_n 2, 1, 2, 0, 0, 0, 0),
  (.aload_n 0, 1, 0, 0, 0, 0, 0),
  (.iload_n 3, 1, 3, 0, 0, 0, 0),
  (.iconst 1, 1, 0, 1, 0, 0, 0),
  (.iadd, 1, 0, 0, 0, 0, 0),
  (.iaload, 1, 0, 0, 0, 0, 0),
  (.aload_n 0, 1, 0, 0, 0, 0, 0),
  (.iload_n 3, 1, 3, 0, 0, 0, 0),
  (.iconst 2, 1, 0, 2, 0, 0, 0),
  (.iadd, 1, 0, 0, 0, 0, 0),
  (.iaload, 1, 0, 0, 0, 0, 0),
  (.aload_n 0, 1, 0, 0, 0, 0, 0),
  (.iload_n 3, 1, 3, 0, 0, 0, 0),
  (.iconst 3, 1, 0, 3, 0, 0, 0),
  (.iadd, 1, 0, 0, 0, 0, 0),
  (.iaload, 1, 0, 0, 0, 0, 0),
  (.invokevirtual 97, 3, 102, 3, 0, 12, 1289),
  (.pop, 1, 0, 0, 0, 0, 0),
  (.goto 471, 3, 1410, 0, 0, 0, 0)]
theorem qL_law_899 : jchk 179 899 kL_law_899 = true := by decide +kernel
def kL_law_942 : List JI := [(.aload_n 1, 1, 1, 0, 0, 0, 0),
  (.aload_n 0, 1, 0, 0, 0, 0, 0),
  (.iload_n 3, 1, 3, 0, 0, 0, 0),
  (.iconst 1, 1, 0, 1, 0, 0, 0),
  (.iadd, 1, 0, 0, 0, 0, 0),
  (.iaload, 1, 0, 0, 0, 0, 0),
  (.aload_n 0, 1, 0, 0, 0, 0, 0),
  (.iload_n 3, 1, 3, 0, 0, 0, 0),
  (.iconst 2, 1, 0, 2, 0, 0, 0),
  (.iadd, 1, 0, 0, 0, 0, 0),
  (.iaload, 1, 0, 0, 0, 0, 0),
  (.aload_n 0, 1, 0, 0, 0, 0, 0),
  (.iload_n 3, 1, 3, 0, 0, 0, 0),
  (.iconst 3, 1, 0, 3, 0, 0, 0),
  (.iadd, 1, 0, 0, 0, 0, 0),
  (.iaload, 1, 0, 0, 0, 0, 0),
  (.aload_n 0, 1, 0, 0, 0, 0, 0),
  (.iload_n 3, 1, 3, 0, 0, 0, 0),
  (.iconst 4, 1, 0, 4, 0, 0, 0),
  (.iadd, 1, 0, 0, 0, 0, 0),
  (.iaload, 1, 0, 0, 0, 0, 0),
  (.aload_n 0, 1, 0, 0, 0, 0, 0),
  (.iload_n 3, 1, 3, 0, 0, 0, 0),
  (.iconst 5, 1, 0, 5, 0, 0, 0),
  (.iadd, 1, 0, 0, 0, 0, 0),
  (.iaload, 1, 0, 0, 0, 0, 0),
  (.invokevirtual 98, 3, 104, 5, 0, 11, 744),
  (.pop, 1, 0, 0, 0, 0, 0),
  (.aload_n 2, 1, 2, 0, 0, 0, 0),
  (.aload_n 0, 1, 0, 0, 0, 0, 0),
  (.iload_n 3, 1, 3, 0, 0, 0, 0),
  (.iconst 1, 1, 0, 1, 0, 0, 0),
  (.iadd, 1, 0, 0, 0, 0, 0),
  (.iaload, 1, 0, 0, 0, 0, 0),
  (.aload_n 0, 1, 0, 0, 0, 0, 0),
  (.iload_n 3, 1, 3, 0, 0, 0, 0),
  (.iconst 2, 1, 0, 2, 0, 0, 0),
  (.iadd, 1, 0, 0, 0, 0, 0),
  (.iaload, 1, 0, 0, 0, 0, 0),
  (.aload_n 0, 1, 0, 0, 0, 0, 0),
  (.iload_n 3, 1, 3, 0, 0, 0, 0),
  (.iconst 3, 1, 0, 3, 0, 0, 0),
  (.iadd, 1, 0, 0, 0, 0, 0),
  (.iaload, 1, 0, 0, 0, 0, 0),
  (.aload_n 0, 1, 0, 0, 0, 0, 0),
  (.iload_n 3, 1, 3, 0, 0, 0, 0),
  (.iconst 4, 1, 0, 4, 0, 0, 0),
  (.iadd, 1, 0, 0, 0, 0, 0),
  (.iaload, 1, 0, 0, 0, 0, 0),
  (.aload_n 0, 1, 0, 0, 0, 0, 0),
  (.iload_n 3, 1, 3, 0, 0, 0, 0),
  (.iconst 5, 1, 0, 5, 0, 0, 0),
  (.iadd, 1, 0, 0, 0, 0, 0),
  (.iaload, 1, 0, 0, 0, 0, 0),
  (.invokevirtual 101, 3, 105, 5, 0, 12, 1293),
  (.pop, 1, 0, 0, 0, 0, 0),
  (.goto 408, 3, 1410, 0, 0, 0, 0)]
theorem qL_law_942 : jchk 179 942 kL_law_942 = true := by decide +kernel
def kL_law_1005 : List JI := [(.aload_n 1, 1, 1, 0, 0, 0, 0),
  (.aload_n 0, 1, 0, 0, 0, 0, 0),
  (.iload_n 3, 1, 3, 0, 0, 0, 0),
  (.iconst 1, 1, 0, 1, 0, 0, 0),
  (.iadd, 1, 0, 0, 0, 0, 0),
  (.iaload, 1, 0, 0, 0, 0, 0),
  (.aload_n 0, 1, 0, 0, 0, 0, 0),
  (.iload_n 3, 1, 3, 0, 0, 0, 0),
  (.iconst 2, 1, 0, 2, 0, 0, 0),
  (.iadd, 1, 0, 0, 0, 0, 0),
  (.iaload, 1, 0, 0, 0, 0, 0),
  (.invokevirtual 102, 3, 114, 2, 0, 11, 752),
  (.pop, 1, 0, 0, 0, 0, 0),
  (.aload_n 2, 1, 2, 0, 0, 0, 0),
  (.aload_n 0, 1, 0, 0, 0, 0, 0),
  (.iload_n 3, 1, 3, 0, 0, 0, 0),
  (.iconst 1, 1, 0, 1, 0, 0, 0),
  (.iadd, 1, 0, 0, 0, 0, 0),
  (.iaload, 1, 0, 0, 0, 0, 0),
  (.aload_n 0, 1, 0, 0, 0, 0, 0),
  (.iload_n 3, 1, 3, 0, 0, 0, 0),
  (.iconst 2, 1, 0, 2, 0, 0, 0),
  (.iadd, 1, 0, 0, 0, 0, 0),
  (.iaload, 1, 0, 0, 0, 0, 0),
  (.invokevirtual 105, 3, 119, 2, 0, 12, 1297),
  (.pop, 1, 0, 0, 0, 0, 0),
  (.goto 375, 3, 1410, 0, 0, 0, 0)]
theorem qL_law_1005 : jchk 179 1005 kL_law_1005 = true := by decide +kernel
def kL_law_1038 : List JI := [(.aload_n 1, 1, 1, 0, 0, 0, 0),
  (.aload_n 0, 1, 0, 0, 0, 0, 0),
  (.iload_n 3, 1, 3, 0, 0, 0, 0),
  (.iconst 1, 1, 0, 1, 0, 0, 0),
  (.iadd, 1, 0, 0, 0, 0, 0),
  (.iaload, 1, 0, 0, 0, 0, 0),
  (.invokevirtual 106, 3, 121, 1, 0, 11, 793),
  (.pop, 1, 0, 0, 0, 0, 0),
  (.aload_n 2, 1, 2, 0, 0, 0, 0),
  (.aload_n 0, 1, 0, 0, 0, 0, 0),
  (.iload_n 3, 1, 3, 0, 0, 0, 0),
  (.iconst 1, 1, 0, 1, 0, 0, 0),
  (.iadd, 1, 0, 0, 0, 0, 0),
  (.iaload, 1, 0, 0, 0, 0, 0),
  (.invokevirtual 109, 3, 122, 1, 0, 12, 1316),
  (.pop, 1, 0, 0, 0, 0, 0),
  (.goto 352, 3, 1410, 0, 0, 0, 0)]
theorem qL_law_1038 : jchk 179 1038 kL_law_1038 = true := by decide +kernel
def kL_law_1061 : List JI := [(.aload_n 1, 1, 1, 0, 0, 0, 0),
  (.aload_n 0, 1, 0, 0, 0, 0, 0),
  (.iload_n 3, 1, 3, 0, 0, 0, 0),
  (.iconst 1, 1, 0, 1, 0, 0, 0),
  (.iadd, 1, 0, 0, 0, 0, 0),
  (.iaload, 1, 0, 0, 0, 0, 0),
  (.aload_n 0, 1, 0, 0, 0, 0, 0),
  (.iload_n 3, 1, 3, 0, 0, 0, 0),
  (.iconst 2, 1, 0, 2, 0, 0, 0),
  (.iadd, 1, 0, 0, 0, 0, 0),
  (.iaload, 1, 0, 0, 0, 0, 0),
  (.invokevirtual 110, 3, 124, 2, 0, 11, 801),
  (.pop, 1, 0, 0, 0, 0, 0),
  (.aload_n 2, 1, 2, 0, 0, 0, 0),
  (.aload_n 0, 1, 0, 0, 0, 0, 0),
  (.iload_n 3, 1, 3, 0, 0, 0, 0),
  (.iconst 1, 1, 0, 1, 0, 0, 0),
  (.iadd, 1, 0, 0, 0, 0, 0),
  (.iaload, 1, 0, 0, 0, 0, 0),
  (.aload_n 0, 1, 0, 0, 0, 0, 0),
  (.iload_n 3, 1, 3, 0, 0, 0, 0),
  (.iconst 2, 1, 0, 2, 0, 0, 0),
  (.iadd, 1, 0, 0, 0, 0, 0),
  (.iaload, 1, 0, 0, 0, 0, 0),
  (.invokevirtual 113, 3, 125, 2, 0, 12, 1320),
  (.pop, 1, 0, 0, 0, 0, 0),
  (.goto 319, 3, 1410, 0, 0, 0, 0)]
theorem qL_law_1061 : jchk 179 1061 kL_law_1061 = true := by decide +kernel
def kL_law_1094 : List JI := [(.aload_n 1, 1, 1, 0, 0, 0, 0),
  (.aload_n 0, 1, 0, 0, 0, 0, 0),
  (.iload_n 3, 1, 3, 0, 0, 0, 0),
  (.iconst 1, 1, 0, 1, 0, 0, 0),
  (.iadd, 1, 0, 0, 0, 0, 0),
  (.iaload, 1, 0, 0, 0, 0, 0),
  (.aload_n 0, 1, 0, 0, 0, 0, 0),
  (.iload_n 3, 1, 3, 0, 0, 0, 0),
  (.iconst 2, 1, 0, 2, 0, 0, 0),
  (.iadd, 1, 0, 0, 0, 0, 0),
  (.iaload, 1, 0, 0, 0, 0, 0),
  (.invokevirtual 114, 3, 126, 2, 0, 11, 809),
  (.pop, 1, 0, 0, 0, 0, 0),
  (.aload_n 2, 1, 2, 0, 0, 0, 0),
  (.aload_n 0, 1, 0, 0, 0, 0, 0),
  (.iload_n 3, 1, 3, 0, 0, 0, 0),
  (.iconst 1, 1, 0, 1, 0, 0, 0),
  (.iadd, 1, 0, 0, 0, 0, 0),
  (.iaload, 1, 0, 0, 0, 0, 0),
  (.aload_n 0, 1, 0, 0, 0, 0, 0),
  (.iload_n 3, 1, 3, 0, 0, 0, 0),
  (.iconst 2, 1, 0, 2, 0, 0, 0),
  (.iadd, 1, 0, 0, 0, 0, 0),
  (.iaload, 1, 0, 0, 0, 0, 0),
  (.invokevirtual 117, 3, 127, 2, 0, 12, 1324),
  (.pop, 1, 0, 0, 0, 0, 0),
  (.goto 286, 3, 1410, 0, 0, 0, 0)]
theorem qL_law_1094 : jchk 179 1094 kL_law_1094 = true := by decide +kernel
def kL_law_1127 : List JI := [(.aload_n 1, 1, 1, 0, 0, 0, 0),
  (.aload_n 0, 1, 0, 0, 0, 0, 0),
  (.iload_n 3, 1, 3, 0, 0, 0, 0),
  (.iconst 1, 1, 0, 1, 0, 0, 0),
  (.iadd, 1, 0, 0, 0, 0, 0),
  (.iaload, 1, 0, 0, 0, 0, 0),
  (.aload_n 0, 1, 0, 0, 0, 0, 0),
  (.iload_n 3, 1, 3, 0, 0, 0, 0),
  (.iconst 2, 1, 0, 2, 0, 0, 0),
  (.iadd, 1, 0, 0, 0, 0, 0),
  (.iaload, 1, 0, 0, 0, 0, 0),
  (.invokevirtual 118, 3, 129, 2, 0, 11, 813),
  (.pop, 1, 0, 0, 0, 0, 0),
  (.aload_n 2, 1, 2, 0, 0, 0, 0),
  (.aload_n 0, 1, 0, 0, 0, 0, 0),
  (.iload_n 3, 1, 3, 0, 0, 0, 0),
  (.iconst 1, 1, 0, 1, 0, 0, 0),
  (.iadd, 1, 0, 0, 0, 0, 0),
  (.iaload, 1, 0, 0, 0, 0, 0),
  (.aload_n 0, 1, 0, 0, 0, 0, 0),
  (.iload_n 3, 1, 3, 0, 0, 0, 0),
  (.iconst 2, 1, 0, 2, 0, 0, 0),
  (.iadd, 1, 0, 0, 0, 0, 0),
  (.iaload, 1, 0, 0, 0, 0, 0),
  (.invokevirtual 121, 3, 130, 2, 0, 12, 1328),
  (.pop, 1, 0, 0, 0, 0, 0),
  (.goto 253, 3, 1410, 0, 0, 0, 0)]
theorem qL_law_1127 : jchk 179 1127 kL_law_1127 = true := by decide +kernel
def kL_law_1160 : List JI := [(.aload_n 1, 1, 1, 0, 0, 0, 0),
  (.aload_n 0, 1, 0, 0, 0, 0, 0),
  (.iload_n 3, 1, 3, 0, 0, 0, 0),
  (.iconst 1, 1, 0, 1, 0, 0, 0),
  (.iadd, 1, 0, 0, 0, 0, 0),
  (.iaload, 1, 0, 0, 0, 0, 0),
  (.aload_n 0, 1, 0, 0, 0, 0, 0),
  (.iload_n 3, 1, 3, 0, 0, 0, 0),
  (.iconst 2, 1, 0, 2, 0, 0, 0),
  (.iadd, 1, 0, 0, 0, 0, 0),
  (.iaload, 1, 0, 0, 0, 0, 0),
  (.invokevirtual 122, 3, 131, 2, 0, 11, 821),
  (.pop, 1, 0, 0, 0, 0, 0),
  (.aload_n 2, 1, 2, 0, 0, 0, 0),
  (.aload_n 0, 1, 0, 0, 0, 0, 0),
  (.iload_n 3, 1, 3, 0, 0, 0, 0),
  (.iconst 1, 1, 0, 1, 0, 0, 0),
  (.iadd, 1, 0, 0, 0, 0, 0),
  (.iaload, 1, 0, 0, 0, 0, 0),
  (.aload_n 0, 1, 0, 0, 0, 0, 0),
  (.iload_n 3, 1, 3, 0, 0, 0, 0),
  (.iconst 2, 1, 0, 2, 0, 0, 0),
  (.iadd, 1, 0, 0, 0, 0, 0),
  (.iaload, 1, 0, 0, 0, 0, 0),
  (.invokevirtual 125, 3, 132, 2, 0, 12, 1332),
  (.pop, 1, 0, 0, 0, 0, 0),
  (.goto 220, 3, 1410, 0, 0, 0, 0)]
theorem qL_law_1160 : jchk 179 1160 kL_law_1160 = true := by decide +kernel
def kL_law_1193 : List JI := [(.aload_n 1, 1, 1, 0, 0, 0, 0),
  (.aload_n 0, 1, 0, 0, 0, 0, 0),
  (.iload_n 3, 1, 3, 0, 0, 0, 0),
  (.iconst 1, 1, 0, 1, 0, 0, 0),
  (.iadd, 1, 0, 0, 0, 0, 0),
  (.iaload, 1, 0, 0, 0, 0, 0),
  (.invokevirtual 126, 3, 137, 1, 0, 11, 825),
  (.pop, 1, 0, 0, 0, 0, 0),
  (.aload_n 2, 1, 2, 0, 0, 0, 0),
  (.aload_n 0, 1, 0, 0, 0, 0, 0),
  (.iload_n 3, 1, 3, 0, 0, 0, 0),
  (.iconst 1, 1, 0, 1, 0, 0, 0),
  (.iadd, 1, 0, 0, 0, 0, 0),
  (.iaload, 1, 0, 0, 0, 0, 0),
  (.invokevirtual 129, 3, 139, 1, 0, 12, 1336),
  (.pop, 1, 0, 0, 0, 0, 0),
  (.goto 197, 3, 1410, 0, 0, 0, 0)]
theorem qL_law_1193 : jchk 179 1193 kL_law_1193 = true := by decide +kernel
def kL_law_1216 : List JI := [(.aload_n 1, 1, 1, 0, 0, 0, 0),
  (.aload_n 0, 1, 0, 0, 0, 0, 0),
  (.iload_n 3, 1, 3, 0, 0, 0, 0),
  (.iconst 1, 1, 0, 1, 0, 0, 0),
  (.iadd, 1, 0, 0, 0, 0, 0),
  (.iaload, 1, 0, 0, 0, 0, 0),
  (.invokevirtual 130, 3, 147, 1, 0, 11, 844),
  (.pop, 1, 0, 0, 0, 0, 0),
  (.aload_n 2, 1, 2, 0, 0, 0, 0),
  (.aload_n 0, 1, 0, 0, 0, 0, 0),
  (.iload_n 3, 1, 3, 0, 0, 0, 0),
  (.iconst 1, 1, 0, 1, 0, 0, 0),
  (.iadd, 1, 0, 0, 0, 0, 0),
  (.iaload, 1, 0, 0, 0, 0, 0),
  (.invokevirtual 133, 3, 151, 1, 0, 12, 1344),
  (.pop, 1, 0, 0, 0, 0, 0),
  (.goto 174, 3, 1410, 0, 0, 0, 0)]
theorem qL_law_1216 : jchk 179 1216 kL_law_1216 = true := by decide +kernel
def kL_law_1239 : List JI := [(.aload_n 1, 1, 1, 0, 0, 0, 0),
  (.aload_n 0, 1, 0, 0, 0, 0, 0),
  (.iload_n 3, 1, 3, 0, 0, 0, 0),
  (.iconst 1, 1, 0, 1, 0, 0, 0),
  (.iadd, 1, 0, 0, 0, 0, 0),
  (.iaload, 1, 0, 0, 0, 0, 0),
  (.invokevirtual 134, 3, 153, 1, 0, 11, 883),
  (.pop, 1, 0, 0, 0, 0, 0),
  (.aload_n 2, 1, 2, 0, 0, 0, 0),
  (.aload_n 0, 1, 0, 0, 0, 0, 0),
  (.iload_n 3, 1, 3, 0, 0, 0, 0),
  (.iconst 1, 1, 0, 1, 0, 0, 0),
  (.iadd, 1, 0, 0, 0, 0, 0),
  (.iaload, 1, 0, 0, 0, 0, 0),
  (.invokevirtual 137, 3, 155, 1, 0, 12, 1360),
  (.pop, 1, 0, 0, 0, 0, 0),
  (.goto 151, 3, 1410, 0, 0, 0, 0)]
theorem qL_law_1239 : jchk 179 1239 kL_law_1239 = true := by decide +kernel
def kL_law_1262 : List JI := [(.aload_n 1, 1, 1, 0, 0, 0, 0),
  (.invokevirtual 138, 3, 163, 0, 0, 11, 891),
  (.pop, 1, 0, 0, 0, 0, 0),
  (.aload_n 2, 1, 2, 0, 0, 0, 0),
  (.invokevirtual 142, 3, 167, 0, 0, 12, 1367),
  (.pop, 1, 0, 0, 0, 0, 0),
  (.goto 138, 3, 1410, 0, 0, 0, 0)]
theorem qL_law_1262 : jchk 179 1262 kL_law_1262 = true := by decide +kernel
def kL_law_1275 : List JI := [(.aload_n 1, 1, 1, 0, 0, 0, 0),
  (.aload_n 0, 1, 0, 0, 0, 0, 0),
  (.iload_n 3, 1, 3, 0, 0, 0, 0),
  (.iconst 1, 1, 0, 1, 0, 0, 0),
  (.iadd, 1, 0, 0, 0, 0, 0),
  (.iaload, 1, 0, 0, 0, 0, 0),
  (.invokevirtual 143, 3, 168, 1, 0, 11, 929),
  (.pop, 1, 0, 0, 0, 0, 0),
  (.aload_n 2, 1, 2, 0, 0, 0, 0),
  (.aload_n 0, 1, 0, 0, 0, 0, 0),
  (.iload_n 3, 1, 3, 0, 0, 0, 0),
  (.iconst 1, 1, 0, 1, 0, 0, 0),
  (.iadd, 1, 0, 0, 0, 0, 0),
  (.iaload, 1, 0, 0, 0, 0, 0),
  (.invokevirtual 146, 3, 169, 1, 0, 12, 1383),
  (.pop, 1, 0, 0, 0, 0, 0),
  (.goto 115, 3, 1410, 0, 0, 0, 0)]
theorem qL_law_1275 : jchk 179 1275 kL_law_1275 = true := by decide +kernel
def kL_law_1298 : List JI := [(.aload_n 1, 1, 1, 0, 0, 0, 0),
  (.aload_n 0, 1, 0, 0, 0, 0, 0),
  (.iload_n 3, 1, 3, 0, 0, 0, 0),
  (.iconst 1, 1, 0, 1, 0, 0, 0),
  (.iadd, 1, 0, 0, 0, 0, 0),
  (.iaload, 1, 0, 0, 0, 0, 0),
  (.aload_n 0, 1, 0, 0, 0, 0, 0),
  (.iload_n 3, 1, 3, 0, 0, 0, 0),
  (.iconst 2, 1, 0, 2, 0, 0, 0),
  (.iadd, 1, 0, 0, 0, 0, 0),
  (.iaload, 1, 0, 0, 0, 0, 0),
  (.invokevirtual 147, 3, 170, 2, 0, 11, 933),
  (.pop, 1, 0, 0, 0, 0, 0),
  (.aload_n 2, 1, 2, 0, 0, 0, 0),
  (.aload_n 0, 1, 0, 0, 0, 0, 0),
  (.iload_n 3, 1, 3, 0, 0, 0, 0),
  (.iconst 1, 1, 0, 1, 0, 0, 0),
  (.iadd, 1, 0, 0, 0, 0, 0),
  (.iaload, 1, 0, 0, 0, 0, 0),
  (.aload_n 0, 1, 0, 0, 0, 0, 0),
  (.iload_n 3, 1, 3, 0, 0, 0, 0),
  (.iconst 2, 1, 0, 2, 0, 0, 0),
  (.iadd, 1, 0, 0, 0, 0, 0),
  (.iaload, 1, 0, 0, 0, 0, 0),
  (.invokevirtual 150, 3, 171, 2, 0, 12, 1387),
  (.pop, 1, 0, 0, 0, 0, 0),
  (.goto 82, 3, 1410, 0, 0, 0, 0)]
theorem qL_law_1298 : jchk 179 1298 kL_law_1298 = true := by decide +kernel
def kL_law_1331 : List JI := [(.aload_n 1, 1, 1, 0, 0, 0, 0),
  (.aload_n 0, 1, 0, 0, 0, 0, 0),
  (.iload_n 3, 1, 3, 0, 0, 0, 0),
  (.iconst 1, 1, 0, 1, 0, 0, 0),
  (.iadd, 1, 0, 0, 0, 0, 0),
  (.iaload, 1, 0, 0, 0, 0, 0),
  (.aload_n 0, 1, 0, 0, 0, 0, 0),
  (.iload_n 3, 1, 3, 0, 0, 0, 0),
  (.iconst 2, 1, 0, 2, 0, 0, 0),
  (.iadd, 1, 0, 0, 0, 0, 0),
  (.iaload, 1, 0, 0, 0, 0, 0),
  (.invokevirtual 151, 3, 172, 2, 0, 11, 937),
  (.pop, 1, 0, 0, 0, 0, 0),
  (.aload_n 2, 1, 2, 0, 0, 0, 0),
  (.aload_n 0, 1, 0, 0, 0, 0, 0),
  (.iload_n 3, 1, 3, 0, 0, 0, 0),
  (.iconst 1, 1, 0, 1, 0, 0, 0),
  (.iadd, 1, 0, 0, 0, 0, 0),
  (.iaload, 1, 0, 0, 0, 0, 0),
  (.aload_n 0, 1, 0, 0, 0, 0, 0),
  (.iload_n 3, 1, 3, 0, 0, 0, 0),
  (.iconst 2, 1, 0, 2, 0, 0, 0),
  (.iadd, 1, 0, 0, 0, 0, 0),
  (.iaload, 1, 0, 0, 0, 0, 0),
  (.invokevirtual 154, 3, 173, 2, 0, 12, 1391),
  (.pop, 1, 0, 0, 0, 0, 0),
  (.goto 49, 3, 1410, 0, 0, 0, 0)]
theorem qL_law_1331 : jchk 179 1331 kL_law_1331 = true := by decide +kernel
def kL_law_1364 : List JI := [(.aload_n 1, 1, 1, 0, 0, 0, 0),
  (.aload_n 0, 1, 0, 0, 0, 0, 0),
  (.iload_n 3, 1, 3, 0, 0, 0, 0),
  (.iconst 1, 1, 0, 1, 0, 0, 0),
  (.iadd, 1, 0, 0, 0, 0, 0),
  (.iaload, 1, 0, 0, 0, 0, 0),
  (.invokevirtual 155, 3, 174, 1, 0, 11, 941),
  (.pop, 1, 0, 0, 0, 0, 0),
  (.aload_n 2, 1, 2, 0, 0, 0, 0),
  (.aload_n 0, 1, 0, 0, 0, 0, 0),
  (.iload_n 3, 1, 3, 0, 0, 0, 0),
  (.iconst 1, 1, 0, 1, 0, 0, 0),
  (.iadd, 1, 0, 0, 0, 0, 0),
  (.iaload, 1, 0, 0, 0, 0, 0),
  (.invokevirtual 158, 3, 175, 1, 0, 12, 1395),
  (.pop, 1, 0, 0, 0, 0, 0),
  (.goto 26, 3, 1410, 0, 0, 0, 0)]
theorem qL_law_1364 : jchk 179 1364 kL_law_1364 = true := by decide +kernel
def kL_law_1387 : List JI := [(.aload_n 1, 1, 1, 0, 0, 0, 0),
  (.aload_n 0, 1, 0, 0, 0, 0, 0),
  (.iload_n 3, 1, 3, 0, 0, 0, 0),
  (.iconst 1, 1, 0, 1, 0, 0, 0),
  (.iadd, 1, 0, 0, 0, 0, 0),
  (.iaload, 1, 0, 0, 0, 0, 0),
  (.invokevirtual 159, 3, 177, 1, 0, 11, 945),
  (.pop, 1, 0, 0, 0, 0, 0),
  (.aload_n 2, 1, 2, 0, 0, 0, 0),
  (.aload_n 0, 1, 0, 0, 0, 0, 0),
  (.iload_n 3, 1, 3, 0, 0, 0, 0),
  (.iconst 1, 1, 0, 1, 0, 0, 0),
  (.iadd, 1, 0, 0, 0, 0, 0),
  (.iaload, 1, 0, 0, 0, 0, 0),
  (.invokevirtual 162, 3, 178, 1, 0, 12, 1399),
  (.pop, 1, 0, 0, 0, 0, 0),
  (.goto 3, 3, 1410, 0, 0, 0, 0)]
theorem qL_law_1387 : jchk 179 1387 kL_law_1387 = true := by decide +kernel
def kL_law_1410 : List JI := [(.iinc 3 6, 3, 3, 6, 0, 0, 0),
  (.goto (-1395), 3, 18, 0, 0, 0, 0)]
theorem qL_law_1410 : jchk 179 1410 kL_law_1410 = true := by decide +kernel
def kL_law_1416 : List JI := [(.iconst 1, 1, 0, 1, 0, 0, 0),
  (.ireturn, 1, 0, 0, 1, 0, 0)]
theorem qL_law_1416 : jchk 179 1416 kL_law_1416 = true := by decide +kernel
end
section
/-! ===== THE HEAP OF THE MACHINE, AND THE PICTURE ===== -/
def jb0 (E : JE) : Nat := E.2.2.1.size
def jad (E : JE) (i : Int) : Nat := if 0 ≤ i then jb0 E + i.toNat else E.2.2.2.1 i
def jtv (E : JE) (v : JV) : Value := match v with
  | .inl x => .int (Int32.ofInt x)
  | .inr (.inl x) => .long (Int64.ofInt x)
  | .inr (.inr (.inl i)) => if i = -1 then .null else .ref (jad E i)
  | .inr (.inr (.inr _)) => .null
def jsv (E : JE) (t : Nat) (x y : Int) : Value := if t = 2 then .long (Int64.ofInt x) else if t = 4 ∨ t = 5 then jtv E (.inr (.inr (.inl y))) else .int (Int32.ofInt x)
/-- object i of the picture lies in the heap -/
def jO (E : JE) (r h : JH) (H : Heap) (i : Nat) : Prop :=
  ((jk i).1 = 0 → ∃ q : vw_C, vwCl[(jk i).2]? = some q ∧ t_OB (jb0 E + i) (E.1.1 (jk i).2) q.2.2 (E.1.2 (jk i).2) H (fun k => jsv E ((jFT.getD (jk i).2 []).getD k 0) (h i k) (r i k))) ∧
  ((jk i).1 ≠ 0 → H[jb0 E + i]? = some (arrV (E.2.1 (jk i).1) (jk i).2 (fun j => jsv E (jk i).1 (h i j) (r i j))))
def jHp (E : JE) (n : Nat) (r h : JH) (H : Heap) : Prop :=
  H.size = jb0 E + n ∧ (∀ q : Nat, q < jb0 E → H[q]? = E.2.2.1[q]?) ∧ (∀ i : Nat, i < n → jO E r h H i) ∧ ∀ i k : Int, jbd i k (h i k)
def jA (E : JE) : Nat → Prop := fun q => jb0 E ≤ q
def jtys (E : JE) : List (ClassId × FieldType) := [(E.2.1 1, .int), (E.2.1 2, .long), (E.2.1 3, .boolean), (E.2.1 4, .object "ArsenalRow$Hull"), (E.2.1 5, .array .int)]
def jAO (U : State) : Prop := (Cond.arrayOver (.array .int)).before #[] U = true
/-- what holds of the launch's tables, static rows and the script -/
def jEx (E : JE) (U : State) : Prop :=
  va_K E.1 vwCl (jtys E) U ∧ va_AO "ArsenalRow$Hull" U ∧ jAO U ∧
  (∀ p ∈ jNP, ∀ (o : String) (i : Nat) (y : MethodName) (g : String), lw_tbl[p]? = some (.methodLinkNest o i y g) → va_Nw (.methodLinkNest o i y g) U) ∧
  (∀ p ∈ jNP, ∀ (o : String) (i : Nat) (a b c g : String), lw_tbl[p]? = some (.fieldLinkNest o i a b c g) → va_Nw (.fieldLinkNest o i a b c g) U) ∧
  (∀ (k : Nat) (C n d : String) (t : Nat) (xs : List Int), jST[k]? = some (C, n, d, t, xs) → va_Z C n d (.ref (E.2.2.2.1 (-3 - (k : Int)))) (jA E) U E.2.2.1 ∧
    va_T (if t = 2 then .long else .int) (E.2.2.2.1 (-3 - (k : Int))) xs.length (fun j => if t = 2 then .long (Int64.ofInt (xs.getD j 0)) else .int (Int32.ofInt (xs.getD j 0))) (jA E) U E.2.2.1) ∧
  va_X (E.2.2.2.1 (-2)) E.2.2.2.2.1 (fun j => Int32.ofInt (E.2.2.2.2.2 j)) U E.2.2.1 ∧ (∀ j, jR32 (E.2.2.2.2.2 j)) ∧ E.2.2.2.2.1 ≤ 3072
theorem jAO_spec {U : State} (h : jAO U) : ∃ comp c k, U.vm.findClass (FieldType.array .int).toString = some comp ∧ (U.vm.classes.findIdx? fun (x : Class) => match x.kind with | .array component _ => component == comp | _ => false) = some c ∧ U.vm.classes[c]? = some k ∧ k.kind = .array comp (.array .int) ∧ U.vm.findClass ("[" ++ (FieldType.array .int).toString) = some c := by
  have h : (Cond.arrayOver (.array .int)).holds #[] U none U [] = true := h
  simp only [Cond.holds, Cond.value, beq_iff_eq] at h
  cases hc : U.vm.findClass (FieldType.array .int).toString with
  | none => simp [hc] at h
  | some comp =>
    simp only [hc, Option.bind_some, Option.bind_eq_some_iff, Option.map_eq_some_iff] at h
    obtain ⟨c, hi, k, hk, hb⟩ := h
    obtain ⟨hlt, hp, -⟩ := Array.findIdx?_eq_some_iff_getElem.mp hi
    have hk2 : U.vm.classes[c]? = some U.vm.classes[c] := Array.getElem?_eq_getElem hlt
    have e : k = U.vm.classes[c] := Option.some.inj (hk.symm.trans hk2)
    cases hkind : k.kind with
    | array component ty =>
      rw [hkind] at hb
      simp only [Bool.and_eq_true, decide_eq_true_eq] at hb
      rw [← e, hkind] at hp
      simp only [beq_iff_eq] at hp
      refine ⟨comp, c, k, rfl, hi, hk, ?_, hb.2⟩
      rw [hkind, hb.1, hp]
    | _ => rw [hkind] at hb; simp at hb
theorem jAO_moved {u U : State} (hvm : u.vm.Alike U.vm) (h : jAO u) : jAO U := by
  obtain ⟨comp, c, k, h1, h2, h3, h4, h5⟩ := jAO_spec h
  obtain ⟨k', hk', he⟩ := hvm.2.2 _ _ h3
  have h2a := (va_idx_bare u.vm comp).trans h2
  have h2b := (va_idx_bare U.vm comp).symm
  have hi : (U.vm.classes.findIdx? fun (x : Class) => match x.kind with | .array component _ => component == comp | _ => false) = some c := by
    refine h2b.trans ?_
    first | rw [← hvm.bare_eq] | rw [hvm.bare_eq]
    exact h2a
  have hkind : k'.kind = .array comp (.array .int) := by rw [he]; exact h4
  have f1 : U.vm.findClass (FieldType.array .int).toString = some comp := by rw [hvm.findClass]; exact h1
  have f2 : U.vm.findClass ("[" ++ (FieldType.array .int).toString) = some c := by rw [hvm.findClass]; exact h5
  unfold jAO Cond.before Cond.holds
  simp only [Cond.value]
  rw [f1, Option.bind_some]
  refine (congrArg (fun o : Option Nat => (o.bind (fun c => (U.vm.classes[c]?).map fun (k : Class) => match k.kind with | .array _ ty => decide (ty = FieldType.array .int) && decide (U.vm.findClass ("[" ++ (FieldType.array .int).toString) = some c) | _ => false) == some true)) hi).trans ?_
  simp [hk', hkind, f2]
theorem jEx_warm {E : JE} {s U : State} (hW : s.WarmedH U.vm) (h : jEx E s) : jEx E U := by
  obtain ⟨h1, h2, h3, h4, h5, h6, h7, h8, h9⟩ := h
  exact ⟨h1.moved hW.alike, h2.moved hW.alike, jAO_moved hW.alike h3, fun p hp o i y g hw => va_Nw.warmM hW (h4 p hp o i y g hw), fun p hp o i a b c g hw => va_Nw.warmF hW (h5 p hp o i a b c g hw), fun k C n d t xs hk => ⟨(h6 k C n d t xs hk).1.moved hW.alike, (h6 k C n d t xs hk).2.moved hW.alike⟩, h7.moved hW.alike, h8, h9⟩
theorem jEx_same {E : JE} {u U : State} (hvm : u.vm = U.vm) (h : jEx E u) : jEx E U := by
  have hA : u.vm.Alike U.vm := hvm ▸ Vm.Alike.refl u.vm
  obtain ⟨h1, h2, h3, h4, h5, h6, h7, h8, h9⟩ := h
  exact ⟨h1.moved hA, h2.moved hA, jAO_moved hA h3, fun p hp o i y g hw => va_Nw.same rfl hvm (h4 p hp o i y g hw), fun p hp o i a b c g hw => va_Nw.same rfl hvm (h5 p hp o i a b c g hw), fun k C n d t xs hk => ⟨(h6 k C n d t xs hk).1.moved hA, (h6 k C n d t xs hk).2.moved hA⟩, h7.moved hA, h8, h9⟩
/-! numbers -/
theorem j32_eq (x : Int) : jw32 x = x.bmod 4294967296 := by
  simp only [jw32, Int.bmod]
  split <;> omega
theorem j64_eq (x : Int) : jw64 x = x.bmod 18446744073709551616 := by
  simp only [jw64, Int.bmod]
  split <;> omega
theorem j32_r (x : Int) : jR32 (jw32 x) := by simp only [jR32, jw32]; omega
theorem j64_r (x : Int) : jR64 (jw64 x) := by simp only [jR64, jw64]; omega
theorem j32_id {x : Int} (h : jR32 x) : jw32 x = x := by simp only [jR32, jw32] at *; omega
theorem j64_id {x : Int} (h : jR64 x) : jw64 x = x := by simp only [jR64, jw64] at *; omega
theorem jof32 (x : Int) : Int32.ofInt (jw32 x) = Int32.ofInt x := by
  rw [Int32.ofInt_eq_iff_bmod_eq_toInt, Int32.toInt_ofInt, j32_eq]
  exact Int.bmod_bmod
theorem jof64 (x : Int) : Int64.ofInt (jw64 x) = Int64.ofInt x := by
  rw [Int64.ofInt_eq_iff_bmod_eq_toInt, Int64.toInt_ofInt, j64_eq]
  exact Int.bmod_bmod
theorem jto32 {x : Int} (h : jR32 x) : (Int32.ofInt x).toInt = x := Int32.toInt_ofInt_of_le (by have := h.1; omega) (by have := h.2; omega)
theorem jto64 {x : Int} (h : jR64 x) : (Int64.ofInt x).toInt = x := Int64.toInt_ofInt_of_le (by have := h.1; omega) (by have := h.2; omega)
theorem jrng32 (x : Int32) : jR32 x.toInt := ⟨by have := x.le_toInt; omega, by have := x.toInt_lt; omega⟩
theorem jrng64 (x : Int64) : jR64 x.toInt := ⟨by have := x.le_toInt; omega, by have := x.toInt_lt; omega⟩
theorem jlt32 {x y : Int} (hx : jR32 x) (hy : jR32 y) : Int32.ofInt x < Int32.ofInt y ↔ x < y := by rw [Int32.lt_iff_toInt_lt, jto32 hx, jto32 hy]
theorem jeq32 {x y : Int} (hx : jR32 x) (hy : jR32 y) : Int32.ofInt x = Int32.ofInt y ↔ x = y := by rw [← Int32.toInt_inj, jto32 hx, jto32 hy]
theorem jle32 {x y : Int} (hx : jR32 x) (hy : jR32 y) : Int32.ofInt x ≤ Int32.ofInt y ↔ x ≤ y := by rw [Int32.le_iff_toInt_le, jto32 hx, jto32 hy]
theorem jz32 {x : Int} (hx : jR32 x) : Int32.ofInt x = 0 ↔ x = 0 := jeq32 (y := 0) hx ⟨by omega, by omega⟩
theorem jlt64 {x y : Int} (hx : jR64 x) (hy : jR64 y) : Int64.ofInt x < Int64.ofInt y ↔ x < y := by rw [Int64.lt_iff_toInt_lt, jto64 hx, jto64 hy]
theorem jeq64 {x y : Int} (hx : jR64 x) (hy : jR64 y) : Int64.ofInt x = Int64.ofInt y ↔ x = y := by rw [← Int64.toInt_inj, jto64 hx, jto64 hy]
theorem jz64 {x : Int} (hx : jR64 x) : Int64.ofInt x = 0 ↔ x = 0 := jeq64 (y := 0) hx ⟨by omega, by omega⟩
theorem jclamp {k : Int} (h0 : 0 ≤ k) (hk : jR32 k) : (Int32.ofInt k).toNatClampNeg = k.toNat := by
  show (Int32.ofInt k).toInt.toNat = _
  rw [jto32 hk]
theorem jdiv32 {x y : Int} (hx : jR32 x) (hy : jR32 y) : Int32.ofInt (x.tdiv y) = Int32.ofInt x / Int32.ofInt y :=
  Int32.ofInt_tdiv (by have := hx.1; show (-2147483648 : Int) ≤ x; omega) (by have := hx.2; show x ≤ (2147483647 : Int); omega) (by have := hy.1; show (-2147483648 : Int) ≤ y; omega) (by have := hy.2; show y ≤ (2147483647 : Int); omega)
theorem jdiv64 {x y : Int} (hx : jR64 x) (hy : jR64 y) : Int64.ofInt (x.tdiv y) = Int64.ofInt x / Int64.ofInt y :=
  Int64.ofInt_tdiv (by have := hx.1; show (-9223372036854775808 : Int) ≤ x; omega) (by have := hx.2; show x ≤ (9223372036854775807 : Int); omega) (by have := hy.1; show (-9223372036854775808 : Int) ≤ y; omega) (by have := hy.2; show y ≤ (9223372036854775807 : Int); omega)
theorem jrem32 {x y : Int} (hx : jR32 x) (hy : jR32 y) : Int32.ofInt (x.tmod y) = Int32.ofInt x - Int32.ofInt x / Int32.ofInt y * Int32.ofInt y := by
  rw [← jdiv32 hx hy, ← Int32.ofInt_mul, ← Int32.ofInt_sub, Int.tmod_def, Int.mul_comm y]
theorem jrem64 {x y : Int} (hx : jR64 x) (hy : jR64 y) : Int64.ofInt (x.tmod y) = Int64.ofInt x - Int64.ofInt x / Int64.ofInt y * Int64.ofInt y := by
  rw [← jdiv64 hx hy, ← Int64.ofInt_mul, ← Int64.ofInt_sub, Int.tmod_def, Int.mul_comm y]
theorem jtmr {x y a b : Int} (ha : a ≤ 0) (hb : 0 ≤ b) (h1 : a ≤ x) (h2 : x ≤ b) : a ≤ x.tmod y ∧ x.tmod y ≤ b := by
  rcases Int.le_total 0 x with h | h
  · obtain ⟨n, rfl⟩ := Int.eq_ofNat_of_zero_le h
    have h3 : (((n : Int)).tmod y).natAbs ≤ n := by rw [Int.natAbs_tmod]; exact Nat.mod_le _ _
    have h4 := Int.tmod_nonneg y h
    omega
  · obtain ⟨n, hn⟩ := Int.eq_ofNat_of_zero_le (show 0 ≤ -x by omega)
    have h3 : (x.tmod y).natAbs ≤ x.natAbs := by rw [Int.natAbs_tmod]; exact Nat.mod_le _ _
    have h4 : 0 ≤ (-x).tmod y := Int.tmod_nonneg y (by omega)
    rw [Int.neg_tmod] at h4
    omega
end
section
/-! ===== ROWS: an instruction of the machine, by the picture ===== -/
def jG : List Cond := lw_tbl.filter goodWord
theorem jG_of {p : Nat} {w : Cond} (h : jcw p w = true) : w ∈ jG := by
  simp only [jcw, Bool.and_eq_true, decide_eq_true_eq] at h
  exact List.mem_filter.mpr ⟨List.mem_of_getElem? h.1, h.2⟩
def jls (E : JE) : Nat → List JV → List (Nat × Value)
  | _, [] => []
  | i, .inr (.inr (.inr _)) :: vs => jls E (i + 1) vs
  | i, .inl x :: vs => (i, jtv E (.inl x)) :: jls E (i + 1) vs
  | i, .inr (.inl x) :: vs => (i, jtv E (.inr (.inl x))) :: jls E (i + 1) vs
  | i, .inr (.inr (.inl x)) :: vs => (i, jtv E (.inr (.inr (.inl x)))) :: jls E (i + 1) vs
def jAt (E : JE) (p : Program) (R : Room) (s : State) (m : MethodId) (args : Array Value) (meth : Method) (c : Code) (mm n0 n1 : Nat) : Prop :=
  p.tables.exec = Jvm.exec ∧ c.code = (jM mm).2.1 ∧ c.maxLocals = (jM mm).2.2.1 ∧ s.vm.findClass (jM mm).1.cls = some m.cls ∧ (∀ w ∈ jG, w.before args s = true) ∧ jEx E s ∧
  (jM mm).2.2.2.2.1 ≤ R.frames ∧ (jM mm).2.2.2.2.2.1 ≤ R.locals ∧ (∀ n, n ≤ n1 → n - n0 ≤ R.cells ∧ jSZ n - jSZ n0 ≤ R.slots) ∧ n1 ≤ 229 ∧ meth.name = (jM mm).1.name
def jS (E : JE) (mm n0 n1 : Nat) (lsS : Array Slot) (H : Heap) (locs : List Loc) (ls st : List JV) (n : Nat) (r h : JH) : Prop :=
  lv_has lsS (jM mm).2.2.1 (jls E 0 ls) ∧ ls.length = (jM mm).2.2.1 ∧ (∀ v ∈ ls, jok v) ∧ (∀ v ∈ st, jok v) ∧ jHp E n r h H ∧ (∀ q ∈ locs, jb0 E ≤ q.base) ∧ n0 ≤ n ∧ n ≤ n1
def jWj (E : JE) (p : Program) (l : Launch) (e : Env) (R : Room) (s : State) (m : MethodId) (args : Array Value) (below : List Frame) (meth : Method) (c : Code) (Q : State → Prop) (mm n0 n1 : Nat) : JN :=
  fun pc ls st n r h => ∀ (lsS : Array Slot) (H : Heap) (locs : List Loc), jS E mm n0 n1 lsS H locs ls st n r h → W p l e R s m args below meth c H locs (n - n0) (jSZ n - jSZ n0) Q (F0 m pc lsS (st.map (jtv E)))
theorem jS_st {E : JE} {mm n0 n1 : Nat} {lsS : Array Slot} {H : Heap} {locs : List Loc} {ls st st' : List JV} {n : Nat} {r h : JH} (hS : jS E mm n0 n1 lsS H locs ls st n r h) (h' : ∀ v ∈ st', jok v) : jS E mm n0 n1 lsS H locs ls st' n r h :=
  ⟨hS.1, hS.2.1, hS.2.2.1, h', hS.2.2.2.2⟩
theorem jls_mem {E : JE} : ∀ (ls : List JV) (i j : Nat) (w : Value), (j, w) ∈ jls E i ls ↔ ∃ (k : Nat) (v : JV), ls[k]? = some v ∧ (∀ z, v ≠ .inr (.inr (.inr z))) ∧ j = i + k ∧ w = jtv E v
  | [], i, j, w => by simp [jls]
  | .inr (.inr (.inr z)) :: vs, i, j, w => by
    rw [jls, jls_mem vs (i + 1) j w]
    constructor
    · rintro ⟨k, v, h1, h2, h3, h4⟩
      exact ⟨k + 1, v, by simpa using h1, h2, by omega, h4⟩
    · rintro ⟨k, v, h1, h2, h3, h4⟩
      cases k with
      | zero => simp at h1; exact absurd h1.symm (h2 z)
      | succ k => exact ⟨k, v, by simpa using h1, h2, by omega, h4⟩
  | .inl x :: vs, i, j, w => by
    rw [jls, List.mem_cons, jls_mem vs (i + 1) j w]
    constructor
    · rintro (h | ⟨k, v, h1, h2, h3, h4⟩)
      · cases h
        exact ⟨0, .inl x, rfl, (fun z h => by cases h), rfl, rfl⟩
      · exact ⟨k + 1, v, by simpa using h1, h2, by omega, h4⟩
    · rintro ⟨k, v, h1, h2, h3, h4⟩
      cases k with
      | zero => simp at h1; subst h1; subst h3; subst h4; exact Or.inl rfl
      | succ k => exact Or.inr ⟨k, v, by simpa using h1, h2, by omega, h4⟩
  | .inr (.inl x) :: vs, i, j, w => by
    rw [jls, List.mem_cons, jls_mem vs (i + 1) j w]
    constructor
    · rintro (h | ⟨k, v, h1, h2, h3, h4⟩)
      · cases h
        exact ⟨0, .inr (.inl x), rfl, (fun z h => by cases h), rfl, rfl⟩
      · exact ⟨k + 1, v, by simpa using h1, h2, by omega, h4⟩
    · rintro ⟨k, v, h1, h2, h3, h4⟩
      cases k with
      | zero => simp at h1; subst h1; subst h3; subst h4; exact Or.inl rfl
      | succ k => exact Or.inr ⟨k, v, by simpa using h1, h2, by omega, h4⟩
  | .inr (.inr (.inl x)) :: vs, i, j, w => by
    rw [jls, List.mem_cons, jls_mem vs (i + 1) j w]
    constructor
    · rintro (h | ⟨k, v, h1, h2, h3, h4⟩)
      · cases h
        exact ⟨0, .inr (.inr (.inl x)), rfl, (fun z h => by cases h), rfl, rfl⟩
      · exact ⟨k + 1, v, by simpa using h1, h2, by omega, h4⟩
    · rintro ⟨k, v, h1, h2, h3, h4⟩
      cases k with
      | zero => simp at h1; subst h1; subst h3; subst h4; exact Or.inl rfl
      | succ k => exact Or.inr ⟨k, v, by simpa using h1, h2, by omega, h4⟩
theorem jget_at : ∀ (ls : List JV) (a : Nat) (v : JV), jget ls a = v → (∀ z, v ≠ .inr (.inr (.inr z))) → ls[a]? = some v
  | [], a, v, h, h2 => by simp only [jget] at h; exact absurd h.symm (h2 ())
  | x :: xs, 0, v, h, h2 => by simp only [jget] at h; rw [h]; rfl
  | x :: xs, a + 1, v, h, h2 => by
    simp only [jget] at h
    simpa using jget_at xs a v h h2
theorem jst1_at : ∀ (ls : List JV) (a : Nat) (v : JV) (k : Nat) (w : JV), (jst1 ls a v)[k]? = some w → (∀ z, w ≠ .inr (.inr (.inr z))) → a < ls.length → (k = a ∧ w = v) ∨ (k ≠ a ∧ ls[k]? = some w ∧ (k + 1 = a → ∀ z, w ≠ .inr (.inl z)))
  | [], a, v, k, w, h, h2, h3 => by simp at h3
  | x :: xs, 0, v, 0, w, h, h2, h3 => by simp [jst1] at h; exact Or.inl ⟨rfl, h.symm⟩
  | x :: xs, 0, v, k + 1, w, h, h2, h3 => by simp [jst1] at h; exact Or.inr ⟨by omega, by simpa using h, by omega⟩
  | x :: xs, 1, v, 0, w, h, h2, h3 => by
    simp [jst1] at h
    subst h
    refine Or.inr ⟨by omega, ?_, fun _ z hz => ?_⟩
    · rcases x with x | x | x | x
      · rfl
      · exact absurd rfl (h2 ())
      · rfl
      · rfl
    · rcases x with x | x | x | x <;> simp [jcut] at hz
  | x :: xs, 1, v, k + 1, w, h, h2, h3 => by
    have h' : (jst1 xs 0 v)[k]? = some w := by simpa [jst1] using h
    rcases jst1_at xs 0 v k w h' h2 (by simp at h3; omega) with ⟨e1, e2⟩ | ⟨e1, e2, e3⟩
    · exact Or.inl ⟨by omega, e2⟩
    · exact Or.inr ⟨by omega, by simpa using e2, by omega⟩
  | x :: xs, a + 2, v, 0, w, h, h2, h3 => by simp [jst1] at h; exact Or.inr ⟨by omega, by simpa using h, by omega⟩
  | x :: xs, a + 2, v, k + 1, w, h, h2, h3 => by
    have h' : (jst1 xs (a + 1) v)[k]? = some w := by simpa [jst1] using h
    rcases jst1_at xs (a + 1) v k w h' h2 (by simp at h3; omega) with ⟨e1, e2⟩ | ⟨e1, e2, e3⟩
    · exact Or.inl ⟨by omega, e2⟩
    · exact Or.inr ⟨by omega, by simpa using e2, fun h => e3 (by omega)⟩
theorem jst1_len : ∀ (ls : List JV) (a : Nat) (v : JV), (jst1 ls a v).length = ls.length
  | [], a, v => rfl
  | x :: xs, 0, v => rfl
  | x :: xs, 1, v => by simp [jst1, jst1_len xs 0 v]
  | x :: xs, a + 2, v => by simp [jst1, jst1_len xs (a + 1) v]
theorem jst1_ok : ∀ (ls : List JV) (a : Nat) (v : JV), jok v → (∀ w ∈ ls, jok w) → ∀ w ∈ jst1 ls a v, jok w
  | [], a, v, hv, h => by simp [jst1]
  | x :: xs, 0, v, hv, h => by
    intro w hw
    simp [jst1] at hw
    rcases hw with rfl | hw
    · exact hv
    · exact h w (List.mem_cons_of_mem _ hw)
  | x :: xs, 1, v, hv, h => by
    intro w hw
    simp only [jst1, List.mem_cons] at hw
    rcases hw with rfl | hw
    · have hx := h x List.mem_cons_self
      rcases x with x | x | x | x
      · exact hx
      · exact trivial
      · exact trivial
      · exact trivial
    · exact jst1_ok xs 0 v hv (fun w hw => h w (List.mem_cons_of_mem _ hw)) w hw
  | x :: xs, a + 2, v, hv, h => by
    intro w hw
    simp only [jst1, List.mem_cons] at hw
    rcases hw with rfl | hw
    · exact h w List.mem_cons_self
    · exact jst1_ok xs (a + 1) v hv (fun w hw => h w (List.mem_cons_of_mem _ hw)) w hw
theorem jlv_mono {ls : Array Slot} {nL : Nat} {l l' : List (Nat × Value)} (h : lv_has ls nL l) (hs : ∀ q ∈ l', q ∈ l) : lv_has ls nL l' := ⟨h.1, h.2.1, fun q hq => h.2.2 q (hs q hq)⟩
theorem jcat_tv (E : JE) (v : JV) : (jtv E v).category = 2 ↔ ∃ z, v = .inr (.inl z) := by
  rcases v with x | x | x | x
  · simp [jtv, Value.category]
  · simp [jtv, Value.category]
  · by_cases h : x = -1 <;> simp [jtv, Value.category, h]
  · simp [jtv, Value.category]
theorem jst1_sub {E : JE} {ls : List JV} {a : Nat} {v : JV} (ha : a < ls.length) : ∀ q ∈ jls E 0 (jst1 ls a v), q ∈ (a, jtv E v) :: (jls E 0 ls).filter (fun q => !(q.1 == a) && !(q.1 + 1 == a && q.2.category == 2)) := by
  rintro ⟨j, w⟩ hq
  obtain ⟨k, u, h1, h2, h3, h4⟩ := (jls_mem _ _ _ _).mp hq
  rcases jst1_at ls a v k u h1 h2 ha with ⟨e1, e2⟩ | ⟨e1, e2, e3⟩
  · subst e1; subst e2; subst h4
    rw [h3, Nat.zero_add]
    exact List.mem_cons_self
  · refine List.mem_cons_of_mem _ (List.mem_filter.mpr ⟨(jls_mem _ _ _ _).mpr ⟨k, u, e2, h2, h3, h4⟩, ?_⟩)
    have hj : j = k := by omega
    subst hj
    have hc : ¬ (j + 1 = a ∧ w.category = 2) := by
      rintro ⟨g1, g2⟩
      rw [h4] at g2
      obtain ⟨z, hz⟩ := (jcat_tv E u).mp g2
      exact e3 g1 z hz
    simp only [Bool.and_eq_true, Bool.not_eq_true', beq_eq_false_iff_ne, ne_eq, Bool.and_eq_false_iff]
    refine ⟨e1, ?_⟩
    by_cases g1 : j + 1 = a
    · exact Or.inr (fun g2 => hc ⟨g1, g2⟩)
    · exact Or.inl g1
section jrows
variable {E : JE} {p : Program} {l : Launch} {e : Env} {R : Room} {s : State} {m : MethodId} {args : Array Value} {below : List Frame} {meth : Method} {c : Code} {Q : State → Prop} {mm n0 n1 : Nat} {pc : Nat} {ls st : List JV} {n : Nat} {r h : JH}
theorem jat {lsS : Array Slot} {H : Heap} {locs : List Loc} (hS : jS E mm n0 n1 lsS H locs ls st n r h) {a : Nat} {v : JV} (hg : jget ls a = v) (hv : ∀ z, v ≠ .inr (.inr (.inr z))) : lsS[a]? = some (.val (jtv E v)) :=
  hS.1.2.2 (a, jtv E v) ((jls_mem _ _ _ _).mpr ⟨a, v, jget_at ls a v hg hv, hv, by omega, rfl⟩)
theorem jget_ok (hs : ∀ v ∈ ls, jok v) {a : Nat} {v : JV} (hg : jget ls a = v) (hv : ∀ z, v ≠ .inr (.inr (.inr z))) : jok v := hs v (List.mem_of_getElem? (jget_at ls a v hg hv))
theorem jok1 {x y : JV} {st : List JV} (h : ∀ v ∈ x :: st, jok v) (hy : jok y) : ∀ v ∈ y :: st, jok v := fun v hv => (List.mem_cons.mp hv).elim (fun e => e ▸ hy) (fun g => h v (List.mem_cons_of_mem _ g))
theorem jok2 {x z y : JV} {st : List JV} (h : ∀ v ∈ x :: z :: st, jok v) (hy : jok y) : ∀ v ∈ y :: st, jok v := fun v hv => (List.mem_cons.mp hv).elim (fun e => e ▸ hy) (fun g => h v (List.mem_cons_of_mem _ (List.mem_cons_of_mem _ g)))
theorem jokd {x : JV} {st : List JV} (h : ∀ v ∈ x :: st, jok v) : ∀ v ∈ st, jok v := fun v hv => h v (List.mem_cons_of_mem _ hv)
theorem jokc {y : JV} {st : List JV} (h : ∀ v ∈ st, jok v) (hy : jok y) : ∀ v ∈ y :: st, jok v := fun v hv => (List.mem_cons.mp hv).elim (fun e => e ▸ hy) (fun g => h v g)
-- constants
theorem js_iconst (C : jAt E p R s m args meth c mm n0 n1) {b : Int} (hb : jR32 b) (hd : decode (jM mm).2.1 pc = .ok (.iconst b, 1)) (k : jWj E p l e R s m args below meth c Q mm n0 n1 (pc + 1) ls (.inl b :: st) n r h) : jWj E p l e R s m args below meth c Q mm n0 n1 pc ls st n r h := fun lsS H locs hS =>
  lv_iconst C.1 C.2.1 hd rfl (k lsS H locs (jS_st hS (jokc hS.2.2.2.1 hb)))
theorem js_bipush (C : jAt E p R s m args meth c mm n0 n1) {b c0 : Int} (hb : jR32 b) (hv : (Int8.ofInt c0).toInt32 = Int32.ofInt b) (hd : decode (jM mm).2.1 pc = .ok (.bipush c0, 2)) (k : jWj E p l e R s m args below meth c Q mm n0 n1 (pc + 2) ls (.inl b :: st) n r h) : jWj E p l e R s m args below meth c Q mm n0 n1 pc ls st n r h := fun lsS H locs hS =>
  lv_bipush C.1 C.2.1 hd hv (k lsS H locs (jS_st hS (jokc hS.2.2.2.1 hb)))
theorem js_sipush (C : jAt E p R s m args meth c mm n0 n1) {b c0 : Int} (hb : jR32 b) (hv : (Int16.ofInt c0).toInt32 = Int32.ofInt b) (hd : decode (jM mm).2.1 pc = .ok (.sipush c0, 3)) (k : jWj E p l e R s m args below meth c Q mm n0 n1 (pc + 3) ls (.inl b :: st) n r h) : jWj E p l e R s m args below meth c Q mm n0 n1 pc ls st n r h := fun lsS H locs hS =>
  lv_sipush C.1 C.2.1 hd hv (k lsS H locs (jS_st hS (jokc hS.2.2.2.1 hb)))
theorem js_lconst (C : jAt E p R s m args meth c mm n0 n1) {b : Int} {c0 : Fin 2} (hv : b = ((c0 : Nat) : Int)) (hd : decode (jM mm).2.1 pc = .ok (.lconst c0, 1)) (k : jWj E p l e R s m args below meth c Q mm n0 n1 (pc + 1) ls (.inr (.inl b) :: st) n r h) : jWj E p l e R s m args below meth c Q mm n0 n1 pc ls st n r h := fun lsS H locs hS =>
  lv_lconst C.1 C.2.1 hd (v := Int64.ofInt b) (by subst hv; exact Int64.ofInt_eq_ofNat.symm) (k lsS H locs (jS_st hS (jokc hS.2.2.2.1 (by subst hv; have := c0.isLt; exact ⟨by omega, by omega⟩))))
theorem js_ldc (C : jAt E p R s m args meth c mm n0 n1) {b : Int} {i pp : Nat} (hb : jR32 b) (hw : jcw pp (.constant (jM mm).1.cls i (Int32.ofInt b)) = true) (hd : decode (jM mm).2.1 pc = .ok (.ldc i, 2)) (k : jWj E p l e R s m args below meth c Q mm n0 n1 (pc + 2) ls (.inl b :: st) n r h) : jWj E p l e R s m args below meth c Q mm n0 n1 pc ls st n r h := fun lsS H locs hS =>
  lv_ldc C.1 C.2.1 C.2.2.2.1 (C.2.2.2.2.1 _ (jG_of hw)) hd (k lsS H locs (jS_st hS (jokc hS.2.2.2.1 hb)))
theorem js_ldcw (C : jAt E p R s m args meth c mm n0 n1) {b : Int} {i pp : Nat} (hb : jR32 b) (hw : jcw pp (.constant (jM mm).1.cls i (Int32.ofInt b)) = true) (hd : decode (jM mm).2.1 pc = .ok (.ldc_w i, 3)) (k : jWj E p l e R s m args below meth c Q mm n0 n1 (pc + 3) ls (.inl b :: st) n r h) : jWj E p l e R s m args below meth c Q mm n0 n1 pc ls st n r h := fun lsS H locs hS =>
  lv_ldcw C.1 C.2.1 C.2.2.2.1 (C.2.2.2.2.1 _ (jG_of hw)) hd (k lsS H locs (jS_st hS (jokc hS.2.2.2.1 hb)))
theorem js_ldc2 (C : jAt E p R s m args meth c mm n0 n1) {b : Int} {i pp : Nat} (hb : jR64 b) (hw : jcw pp (.constantLong (jM mm).1.cls i (Int64.ofInt b)) = true) (hd : decode (jM mm).2.1 pc = .ok (.ldc2_w i, 3)) (k : jWj E p l e R s m args below meth c Q mm n0 n1 (pc + 3) ls (.inr (.inl b) :: st) n r h) : jWj E p l e R s m args below meth c Q mm n0 n1 pc ls st n r h := fun lsS H locs hS =>
  lv_ldc2 C.1 C.2.1 C.2.2.2.1 (C.2.2.2.2.1 _ (jG_of hw)) hd (k lsS H locs (jS_st hS (jokc hS.2.2.2.1 hb)))
-- loads
theorem js_iload_n (C : jAt E p R s m args meth c mm n0 n1) {a : Nat} {k0 : Fin 4} {x : Int} (ha : (k0 : Nat) = a) (hg : jget ls a = .inl x) (hd : decode (jM mm).2.1 pc = .ok (.iload_n k0, 1)) (k : jWj E p l e R s m args below meth c Q mm n0 n1 (pc + 1) ls (.inl x :: st) n r h) : jWj E p l e R s m args below meth c Q mm n0 n1 pc ls st n r h := fun lsS H locs hS =>
  lv_iload_n C.1 C.2.1 hd ha (jat hS hg (fun z h => by cases h)) (k lsS H locs (jS_st hS (jokc hS.2.2.2.1 (jget_ok hS.2.2.1 hg (fun z h => by cases h)))))
theorem js_iload (C : jAt E p R s m args meth c mm n0 n1) {a : Nat} {x : Int} (hg : jget ls a = .inl x) (hd : decode (jM mm).2.1 pc = .ok (.iload a, 2)) (k : jWj E p l e R s m args below meth c Q mm n0 n1 (pc + 2) ls (.inl x :: st) n r h) : jWj E p l e R s m args below meth c Q mm n0 n1 pc ls st n r h := fun lsS H locs hS =>
  lv_iload C.1 C.2.1 hd (jat hS hg (fun z h => by cases h)) (k lsS H locs (jS_st hS (jokc hS.2.2.2.1 (jget_ok hS.2.2.1 hg (fun z h => by cases h)))))
theorem js_lload_n (C : jAt E p R s m args meth c mm n0 n1) {a : Nat} {k0 : Fin 4} {x : Int} (ha : (k0 : Nat) = a) (hg : jget ls a = .inr (.inl x)) (hd : decode (jM mm).2.1 pc = .ok (.lload_n k0, 1)) (k : jWj E p l e R s m args below meth c Q mm n0 n1 (pc + 1) ls (.inr (.inl x) :: st) n r h) : jWj E p l e R s m args below meth c Q mm n0 n1 pc ls st n r h := fun lsS H locs hS =>
  lv_lload_n C.1 C.2.1 hd ha (jat hS hg (fun z h => by cases h)) (k lsS H locs (jS_st hS (jokc hS.2.2.2.1 (jget_ok hS.2.2.1 hg (fun z h => by cases h)))))
theorem js_lload (C : jAt E p R s m args meth c mm n0 n1) {a : Nat} {x : Int} (hg : jget ls a = .inr (.inl x)) (hd : decode (jM mm).2.1 pc = .ok (.lload a, 2)) (k : jWj E p l e R s m args below meth c Q mm n0 n1 (pc + 2) ls (.inr (.inl x) :: st) n r h) : jWj E p l e R s m args below meth c Q mm n0 n1 pc ls st n r h := fun lsS H locs hS =>
  lv_lload C.1 C.2.1 hd (jat hS hg (fun z h => by cases h)) (k lsS H locs (jS_st hS (jokc hS.2.2.2.1 (jget_ok hS.2.2.1 hg (fun z h => by cases h)))))
theorem jnull_ld {ls0 : Array Slot} {H : Heap} {locs : List Loc} {cells slots i : Nat} {rest : List Value} {ins : Instr} {len : Nat} (hi : ins = .aload i ∧ len = 2 ∨ ∃ k0 : Fin 4, ins = .aload_n k0 ∧ (k0 : Nat) = i ∧ len = 1) (hx : p.tables.exec = Jvm.exec) {cc : ByteArray} (hb : c.code = cc) (hd : decode cc pc = .ok (ins, len)) (hl : ls0[i]? = some (.val .null))
    (k : W p l e R s m args below meth c H locs cells slots Q (F0 m (pc + len) ls0 (.null :: rest))) : W p l e R s m args below meth c H locs cells slots Q (F0 m pc ls0 rest) := by
  intro T hT X
  obtain ⟨t, a, b⟩ := k T hT X
  refine ⟨t, ?_, b⟩
  rcases hi with ⟨rfl, rfl⟩ | ⟨k0, rfl, rfl, rfl⟩
  · jvm_step X.here [X.here.top, hx, hb, hd, hl, Value.isRef]
    exact a
  · jvm_step X.here [X.here.top, hx, hb, hd, hl, Value.isRef]
    exact a
theorem js_aload_n (C : jAt E p R s m args meth c mm n0 n1) {a : Nat} {k0 : Fin 4} {x : Int} (ha : (k0 : Nat) = a) (hg : jget ls a = .inr (.inr (.inl x))) (hd : decode (jM mm).2.1 pc = .ok (.aload_n k0, 1)) (k : jWj E p l e R s m args below meth c Q mm n0 n1 (pc + 1) ls (.inr (.inr (.inl x)) :: st) n r h) : jWj E p l e R s m args below meth c Q mm n0 n1 pc ls st n r h := fun lsS H locs hS => by
  have h1 := jat hS hg (fun z h => by cases h)
  have h2 := k lsS H locs (jS_st hS (jokc hS.2.2.2.1 trivial))
  by_cases hx : x = -1
  · subst hx
    exact jnull_ld (Or.inr ⟨k0, rfl, ha, rfl⟩) C.1 C.2.1 hd h1 h2
  · have e : jtv E (.inr (.inr (.inl x))) = .ref (jad E x) := by simp [jtv, hx]
    rw [e] at h1
    rw [List.map_cons, e] at h2
    exact lv_aload_n C.1 C.2.1 hd ha h1 h2
theorem js_aload (C : jAt E p R s m args meth c mm n0 n1) {a : Nat} {x : Int} (hg : jget ls a = .inr (.inr (.inl x))) (hd : decode (jM mm).2.1 pc = .ok (.aload a, 2)) (k : jWj E p l e R s m args below meth c Q mm n0 n1 (pc + 2) ls (.inr (.inr (.inl x)) :: st) n r h) : jWj E p l e R s m args below meth c Q mm n0 n1 pc ls st n r h := fun lsS H locs hS => by
  have h1 := jat hS hg (fun z h => by cases h)
  have h2 := k lsS H locs (jS_st hS (jokc hS.2.2.2.1 trivial))
  by_cases hx : x = -1
  · subst hx
    exact jnull_ld (Or.inl ⟨rfl, rfl⟩) C.1 C.2.1 hd h1 h2
  · have e : jtv E (.inr (.inr (.inl x))) = .ref (jad E x) := by simp [jtv, hx]
    rw [e] at h1
    rw [List.map_cons, e] at h2
    exact lv_aload C.1 C.2.1 hd h1 h2
end jrows
end
section
section jrows2
variable {E : JE} {p : Program} {l : Launch} {e : Env} {R : Room} {s : State} {m : MethodId} {args : Array Value} {below : List Frame} {meth : Method} {c : Code} {Q : State → Prop} {mm n0 n1 : Nat} {pc : Nat} {ls st : List JV} {n : Nat} {r h : JH}

-- stores
theorem jS_lv {lsS ls' : Array Slot} {H : Heap} {locs : List Loc} {st' : List JV} (hS : jS E mm n0 n1 lsS H locs ls st n r h) {a : Nat} {v : JV} (hv : jok v) (ha : a < (jM mm).2.2.1) (hs : ∀ w ∈ st', jok w)
    (h' : lv_has ls' (jM mm).2.2.1 ((a, jtv E v) :: (jls E 0 ls).filter (fun q => !(q.1 == a) && !(q.1 + 1 == a && q.2.category == 2)))) : jS E mm n0 n1 ls' H locs (jst1 ls a v) st' n r h :=
  ⟨jlv_mono h' (jst1_sub (by rw [hS.2.1]; exact ha)), by rw [jst1_len]; exact hS.2.1, jst1_ok ls a v hv hS.2.2.1, hs, hS.2.2.2.2⟩
theorem js_istore_n (C : jAt E p R s m args meth c mm n0 n1) {a : Nat} {k0 : Fin 4} {x : Int} (ha : (k0 : Nat) = a) (hl : a < (jM mm).2.2.1) (hd : decode (jM mm).2.1 pc = .ok (.istore_n k0, 1)) (k : jWj E p l e R s m args below meth c Q mm n0 n1 (pc + 1) (jst1 ls a (.inl x)) st n r h) : jWj E p l e R s m args below meth c Q mm n0 n1 pc ls (.inl x :: st) n r h := fun lsS H locs hS =>
  lv_istore_n C.1 C.2.1 hd ha hS.1 hl rfl (fun ls' h' => k ls' H locs (jS_lv hS (hS.2.2.2.1 _ List.mem_cons_self) hl (jokd hS.2.2.2.1) h'))
theorem js_istore (C : jAt E p R s m args meth c mm n0 n1) {a : Nat} {x : Int} (hl : a < (jM mm).2.2.1) (hd : decode (jM mm).2.1 pc = .ok (.istore a, 2)) (k : jWj E p l e R s m args below meth c Q mm n0 n1 (pc + 2) (jst1 ls a (.inl x)) st n r h) : jWj E p l e R s m args below meth c Q mm n0 n1 pc ls (.inl x :: st) n r h := fun lsS H locs hS =>
  lv_istore C.1 C.2.1 hd hS.1 hl rfl (fun ls' h' => k ls' H locs (jS_lv hS (hS.2.2.2.1 _ List.mem_cons_self) hl (jokd hS.2.2.2.1) h'))
theorem js_astore_n (C : jAt E p R s m args meth c mm n0 n1) {a : Nat} {k0 : Fin 4} {x : Int} (hx : x ≠ -1) (ha : (k0 : Nat) = a) (hl : a < (jM mm).2.2.1) (hd : decode (jM mm).2.1 pc = .ok (.astore_n k0, 1)) (k : jWj E p l e R s m args below meth c Q mm n0 n1 (pc + 1) (jst1 ls a (.inr (.inr (.inl x)))) st n r h) : jWj E p l e R s m args below meth c Q mm n0 n1 pc ls (.inr (.inr (.inl x)) :: st) n r h := fun lsS H locs hS => by
  have e : jtv E (.inr (.inr (.inl x))) = .ref (jad E x) := by simp [jtv, hx]
  rw [List.map_cons, e]
  exact lv_astore_n C.1 C.2.1 hd ha hS.1 hl rfl (fun ls' h' => k ls' H locs (jS_lv hS trivial hl (jokd hS.2.2.2.1) (by rw [e]; exact h')))
theorem js_astore (C : jAt E p R s m args meth c mm n0 n1) {a : Nat} {x : Int} (hx : x ≠ -1) (hl : a < (jM mm).2.2.1) (hd : decode (jM mm).2.1 pc = .ok (.astore a, 2)) (k : jWj E p l e R s m args below meth c Q mm n0 n1 (pc + 2) (jst1 ls a (.inr (.inr (.inl x)))) st n r h) : jWj E p l e R s m args below meth c Q mm n0 n1 pc ls (.inr (.inr (.inl x)) :: st) n r h := fun lsS H locs hS => by
  have e : jtv E (.inr (.inr (.inl x))) = .ref (jad E x) := by simp [jtv, hx]
  rw [List.map_cons, e]
  exact lv_astore C.1 C.2.1 hd hS.1 hl rfl (fun ls' h' => k ls' H locs (jS_lv hS trivial hl (jokd hS.2.2.2.1) (by rw [e]; exact h')))
theorem jst2_sub {E : JE} {ls : List JV} {a : Nat} {x : Int} (ha : a + 1 < ls.length) : ∀ q ∈ jls E 0 (jst1 (jst1 ls (a + 1) (.inr (.inr (.inr ())))) a (.inr (.inl x))), q ∈ (a, jtv E (.inr (.inl x))) :: (jls E 0 ls).filter (fun q => !(q.1 == a) && (!(q.1 == a + 1) && !(q.1 + 1 == a && q.2.category == 2))) := by
  rintro ⟨j, w⟩ hq
  obtain ⟨k, u, h1, h2, h3, h4⟩ := (jls_mem _ _ _ _).mp hq
  rcases jst1_at _ a _ k u h1 h2 (by rw [jst1_len]; omega) with ⟨e1, e2⟩ | ⟨e1, e2, e3⟩
  · subst e1; subst e2; subst h4
    rw [h3, Nat.zero_add]
    exact List.mem_cons_self
  · rcases jst1_at ls (a + 1) _ k u e2 h2 ha with ⟨f1, f2⟩ | ⟨f1, f2, f3⟩
    · exact absurd f2 (h2 ())
    · refine List.mem_cons_of_mem _ (List.mem_filter.mpr ⟨(jls_mem _ _ _ _).mpr ⟨k, u, f2, h2, h3, h4⟩, ?_⟩)
      have hj : j = k := by omega
      subst hj
      have hc : ¬ (j + 1 = a ∧ w.category = 2) := by
        rintro ⟨g1, g2⟩
        rw [h4] at g2
        obtain ⟨z, hz⟩ := (jcat_tv E u).mp g2
        exact e3 g1 z hz
      simp only [Bool.and_eq_true, Bool.not_eq_true', beq_eq_false_iff_ne, ne_eq, Bool.and_eq_false_iff]
      refine ⟨e1, f1, ?_⟩
      by_cases g1 : j + 1 = a
      · exact Or.inr (fun g2 => hc ⟨g1, g2⟩)
      · exact Or.inl g1
theorem jS_lv2 {lsS ls' : Array Slot} {H : Heap} {locs : List Loc} {st' : List JV} (hS : jS E mm n0 n1 lsS H locs ls st n r h) {a : Nat} {x : Int} (hv : jR64 x) (ha : a + 1 < (jM mm).2.2.1) (hs : ∀ w ∈ st', jok w)
    (h' : lv_has ls' (jM mm).2.2.1 ((a, jtv E (.inr (.inl x))) :: (jls E 0 ls).filter (fun q => !(q.1 == a) && (!(q.1 == a + 1) && !(q.1 + 1 == a && q.2.category == 2))))) : jS E mm n0 n1 ls' H locs (jst1 (jst1 ls (a + 1) (.inr (.inr (.inr ())))) a (.inr (.inl x))) st' n r h :=
  ⟨jlv_mono h' (jst2_sub (by rw [hS.2.1]; exact ha)), by rw [jst1_len, jst1_len]; exact hS.2.1, jst1_ok _ a _ hv (jst1_ok ls (a + 1) _ trivial hS.2.2.1), hs, hS.2.2.2.2⟩
theorem js_lstore_n (C : jAt E p R s m args meth c mm n0 n1) {a : Nat} {k0 : Fin 4} {x : Int} (ha : (k0 : Nat) = a) (hl : a + 1 < (jM mm).2.2.1) (hd : decode (jM mm).2.1 pc = .ok (.lstore_n k0, 1)) (k : jWj E p l e R s m args below meth c Q mm n0 n1 (pc + 1) (jst1 (jst1 ls (a + 1) (.inr (.inr (.inr ())))) a (.inr (.inl x))) st n r h) : jWj E p l e R s m args below meth c Q mm n0 n1 pc ls (.inr (.inl x) :: st) n r h := fun lsS H locs hS =>
  lv_lstore_n C.1 C.2.1 hd ha hS.1 hl rfl (fun ls' h' => k ls' H locs (jS_lv2 hS (hS.2.2.2.1 _ List.mem_cons_self) hl (jokd hS.2.2.2.1) h'))
theorem js_lstore (C : jAt E p R s m args meth c mm n0 n1) {a : Nat} {x : Int} (hl : a + 1 < (jM mm).2.2.1) (hd : decode (jM mm).2.1 pc = .ok (.lstore a, 2)) (k : jWj E p l e R s m args below meth c Q mm n0 n1 (pc + 2) (jst1 (jst1 ls (a + 1) (.inr (.inr (.inr ())))) a (.inr (.inl x))) st n r h) : jWj E p l e R s m args below meth c Q mm n0 n1 pc ls (.inr (.inl x) :: st) n r h := fun lsS H locs hS =>
  lv_lstore C.1 C.2.1 hd hS.1 hl rfl (fun ls' h' => k ls' H locs (jS_lv2 hS (hS.2.2.2.1 _ List.mem_cons_self) hl (jokd hS.2.2.2.1) h'))
theorem js_iinc (C : jAt E p R s m args meth c mm n0 n1) {a : Nat} {b x : Int} (hg : jget ls a = .inl x) (hl : a < (jM mm).2.2.1) (hd : decode (jM mm).2.1 pc = .ok (.iinc a b, 3)) (k : jWj E p l e R s m args below meth c Q mm n0 n1 (pc + 3) (jst1 ls a (.inl (jw32 (x + b)))) st n r h) : jWj E p l e R s m args below meth c Q mm n0 n1 pc ls st n r h := fun lsS H locs hS => by
  obtain ⟨k9, hk9⟩ := List.getElem?_of_mem ((jls_mem (E := E) ls 0 a _).mpr ⟨a, .inl x, jget_at ls a _ hg (fun z h => by cases h), (fun z h => by cases h), by omega, rfl⟩)
  exact lv_iinc (v := Int32.ofInt (jw32 (x + b))) C.1 C.2.1 hd hS.1 hk9 (by rw [jof32, Int32.ofInt_add]) hl rfl (fun ls' h' => k ls' H locs (jS_lv hS (j32_r _) hl hS.2.2.2.1 h'))
-- arithmetic

theorem js_iadd (C : jAt E p R s m args meth c mm n0 n1) {x y : Int} (hd : decode (jM mm).2.1 pc = .ok (.iadd, 1)) (k : jWj E p l e R s m args below meth c Q mm n0 n1 (pc + 1) ls (.inl (jw32 (x + y)) :: st) n r h) : jWj E p l e R s m args below meth c Q mm n0 n1 pc ls (.inl y :: .inl x :: st) n r h := fun lsS H locs hS => by
  have h2 := k lsS H locs (jS_st hS (jok2 hS.2.2.2.1 (j32_r _)))
  have e : jtv E (.inl (jw32 (x + y))) = .int (Int32.ofInt x + Int32.ofInt y) := congrArg Value.int ((jof32 _).trans (Int32.ofInt_add x y))
  rw [List.map_cons, e] at h2
  exact lv_iadd C.1 C.2.1 hd h2

theorem js_isub (C : jAt E p R s m args meth c mm n0 n1) {x y : Int} (hd : decode (jM mm).2.1 pc = .ok (.isub, 1)) (k : jWj E p l e R s m args below meth c Q mm n0 n1 (pc + 1) ls (.inl (jw32 (x - y)) :: st) n r h) : jWj E p l e R s m args below meth c Q mm n0 n1 pc ls (.inl y :: .inl x :: st) n r h := fun lsS H locs hS => by
  have h2 := k lsS H locs (jS_st hS (jok2 hS.2.2.2.1 (j32_r _)))
  have e : jtv E (.inl (jw32 (x - y))) = .int (Int32.ofInt x - Int32.ofInt y) := congrArg Value.int ((jof32 _).trans (Int32.ofInt_sub x y))
  rw [List.map_cons, e] at h2
  exact lv_isub C.1 C.2.1 hd h2

theorem js_imul (C : jAt E p R s m args meth c mm n0 n1) {x y : Int} (hd : decode (jM mm).2.1 pc = .ok (.imul, 1)) (k : jWj E p l e R s m args below meth c Q mm n0 n1 (pc + 1) ls (.inl (jw32 (x * y)) :: st) n r h) : jWj E p l e R s m args below meth c Q mm n0 n1 pc ls (.inl y :: .inl x :: st) n r h := fun lsS H locs hS => by
  have h2 := k lsS H locs (jS_st hS (jok2 hS.2.2.2.1 (j32_r _)))
  have e : jtv E (.inl (jw32 (x * y))) = .int (Int32.ofInt x * Int32.ofInt y) := congrArg Value.int ((jof32 _).trans (Int32.ofInt_mul x y))
  rw [List.map_cons, e] at h2
  exact lv_imul C.1 C.2.1 hd h2

theorem js_iand (C : jAt E p R s m args meth c mm n0 n1) {x y : Int} (hd : decode (jM mm).2.1 pc = .ok (.iand, 1)) (k : jWj E p l e R s m args below meth c Q mm n0 n1 (pc + 1) ls (.inl (jand x y) :: st) n r h) : jWj E p l e R s m args below meth c Q mm n0 n1 pc ls (.inl y :: .inl x :: st) n r h := fun lsS H locs hS => by
  have h2 := k lsS H locs (jS_st hS (jok2 hS.2.2.2.1 (jrng32 _)))
  have e : jtv E (.inl (jand x y)) = .int (Int32.ofInt x &&& Int32.ofInt y) := congrArg Value.int (Int32.ofInt_toInt _)
  rw [List.map_cons, e] at h2
  exact lv_iand C.1 C.2.1 hd h2

theorem js_ior (C : jAt E p R s m args meth c mm n0 n1) {x y : Int} (hd : decode (jM mm).2.1 pc = .ok (.ior, 1)) (k : jWj E p l e R s m args below meth c Q mm n0 n1 (pc + 1) ls (.inl (jor x y) :: st) n r h) : jWj E p l e R s m args below meth c Q mm n0 n1 pc ls (.inl y :: .inl x :: st) n r h := fun lsS H locs hS => by
  have h2 := k lsS H locs (jS_st hS (jok2 hS.2.2.2.1 (jrng32 _)))
  have e : jtv E (.inl (jor x y)) = .int (Int32.ofInt x ||| Int32.ofInt y) := congrArg Value.int (Int32.ofInt_toInt _)
  rw [List.map_cons, e] at h2
  exact lv_ior C.1 C.2.1 hd h2

theorem js_ixor (C : jAt E p R s m args meth c mm n0 n1) {x y : Int} (hd : decode (jM mm).2.1 pc = .ok (.ixor, 1)) (k : jWj E p l e R s m args below meth c Q mm n0 n1 (pc + 1) ls (.inl (jxor x y) :: st) n r h) : jWj E p l e R s m args below meth c Q mm n0 n1 pc ls (.inl y :: .inl x :: st) n r h := fun lsS H locs hS => by
  have h2 := k lsS H locs (jS_st hS (jok2 hS.2.2.2.1 (jrng32 _)))
  have e : jtv E (.inl (jxor x y)) = .int (Int32.ofInt x ^^^ Int32.ofInt y) := congrArg Value.int (Int32.ofInt_toInt _)
  rw [List.map_cons, e] at h2
  exact lv_ixor C.1 C.2.1 hd h2

theorem js_ishl (C : jAt E p R s m args meth c mm n0 n1) {x y : Int} (hd : decode (jM mm).2.1 pc = .ok (.ishl, 1)) (k : jWj E p l e R s m args below meth c Q mm n0 n1 (pc + 1) ls (.inl (jshl x y) :: st) n r h) : jWj E p l e R s m args below meth c Q mm n0 n1 pc ls (.inl y :: .inl x :: st) n r h := fun lsS H locs hS => by
  have h2 := k lsS H locs (jS_st hS (jok2 hS.2.2.2.1 (jrng32 _)))
  have e : jtv E (.inl (jshl x y)) = .int (Int32.ofInt x <<< (Int32.ofInt y &&& 31)) := congrArg Value.int (Int32.ofInt_toInt _)
  rw [List.map_cons, e] at h2
  exact lv_ishl C.1 C.2.1 hd h2

theorem js_ishr (C : jAt E p R s m args meth c mm n0 n1) {x y : Int} (hd : decode (jM mm).2.1 pc = .ok (.ishr, 1)) (k : jWj E p l e R s m args below meth c Q mm n0 n1 (pc + 1) ls (.inl (jshr x y) :: st) n r h) : jWj E p l e R s m args below meth c Q mm n0 n1 pc ls (.inl y :: .inl x :: st) n r h := fun lsS H locs hS => by
  have h2 := k lsS H locs (jS_st hS (jok2 hS.2.2.2.1 (jrng32 _)))
  have e : jtv E (.inl (jshr x y)) = .int (Int32.ofInt x >>> (Int32.ofInt y &&& 31)) := congrArg Value.int (Int32.ofInt_toInt _)
  rw [List.map_cons, e] at h2
  exact lv_ishr C.1 C.2.1 hd h2

theorem js_ladd (C : jAt E p R s m args meth c mm n0 n1) {x y : Int} (hd : decode (jM mm).2.1 pc = .ok (.ladd, 1)) (k : jWj E p l e R s m args below meth c Q mm n0 n1 (pc + 1) ls (.inr (.inl (jw64 (x + y))) :: st) n r h) : jWj E p l e R s m args below meth c Q mm n0 n1 pc ls (.inr (.inl y) :: .inr (.inl x) :: st) n r h := fun lsS H locs hS => by
  have h2 := k lsS H locs (jS_st hS (jok2 hS.2.2.2.1 (j64_r _)))
  have e : jtv E (.inr (.inl (jw64 (x + y)))) = .long (Int64.ofInt x + Int64.ofInt y) := congrArg Value.long ((jof64 _).trans (Int64.ofInt_add x y))
  rw [List.map_cons, e] at h2
  exact lv_ladd C.1 C.2.1 hd h2

theorem js_lsub (C : jAt E p R s m args meth c mm n0 n1) {x y : Int} (hd : decode (jM mm).2.1 pc = .ok (.lsub, 1)) (k : jWj E p l e R s m args below meth c Q mm n0 n1 (pc + 1) ls (.inr (.inl (jw64 (x - y))) :: st) n r h) : jWj E p l e R s m args below meth c Q mm n0 n1 pc ls (.inr (.inl y) :: .inr (.inl x) :: st) n r h := fun lsS H locs hS => by
  have h2 := k lsS H locs (jS_st hS (jok2 hS.2.2.2.1 (j64_r _)))
  have e : jtv E (.inr (.inl (jw64 (x - y)))) = .long (Int64.ofInt x - Int64.ofInt y) := congrArg Value.long ((jof64 _).trans (Int64.ofInt_sub x y))
  rw [List.map_cons, e] at h2
  exact lv_lsub C.1 C.2.1 hd h2

theorem js_lmul (C : jAt E p R s m args meth c mm n0 n1) {x y : Int} (hd : decode (jM mm).2.1 pc = .ok (.lmul, 1)) (k : jWj E p l e R s m args below meth c Q mm n0 n1 (pc + 1) ls (.inr (.inl (jw64 (x * y))) :: st) n r h) : jWj E p l e R s m args below meth c Q mm n0 n1 pc ls (.inr (.inl y) :: .inr (.inl x) :: st) n r h := fun lsS H locs hS => by
  have h2 := k lsS H locs (jS_st hS (jok2 hS.2.2.2.1 (j64_r _)))
  have e : jtv E (.inr (.inl (jw64 (x * y)))) = .long (Int64.ofInt x * Int64.ofInt y) := congrArg Value.long ((jof64 _).trans (Int64.ofInt_mul x y))
  rw [List.map_cons, e] at h2
  exact lv_lmul C.1 C.2.1 hd h2

theorem js_idiv (C : jAt E p R s m args meth c mm n0 n1) {x y : Int} (hy : y ≠ 0) (hd : decode (jM mm).2.1 pc = .ok (.idiv, 1)) (k : jWj E p l e R s m args below meth c Q mm n0 n1 (pc + 1) ls (.inl (jw32 (x.tdiv y)) :: st) n r h) : jWj E p l e R s m args below meth c Q mm n0 n1 pc ls (.inl y :: .inl x :: st) n r h := fun lsS H locs hS => by
  have hy0 : jR32 y := hS.2.2.2.1 _ List.mem_cons_self
  have hx0 : jR32 x := hS.2.2.2.1 _ (List.mem_cons_of_mem _ List.mem_cons_self)
  have h2 := k lsS H locs (jS_st hS (jok2 hS.2.2.2.1 (j32_r _)))
  have e : jtv E (.inl (jw32 (x.tdiv y))) = .int (Int32.ofInt x / Int32.ofInt y) := congrArg Value.int ((jof32 _).trans (jdiv32 hx0 hy0))
  rw [List.map_cons, e] at h2
  exact lv_idiv C.1 C.2.1 hd (fun q => hy ((jz32 hy0).mp q)) h2
theorem js_irem (C : jAt E p R s m args meth c mm n0 n1) {x y : Int} (hy : y ≠ 0) (hd : decode (jM mm).2.1 pc = .ok (.irem, 1)) (k : jWj E p l e R s m args below meth c Q mm n0 n1 (pc + 1) ls (.inl (x.tmod y) :: st) n r h) : jWj E p l e R s m args below meth c Q mm n0 n1 pc ls (.inl y :: .inl x :: st) n r h := fun lsS H locs hS => by
  have hy0 : jR32 y := hS.2.2.2.1 _ List.mem_cons_self
  have hx0 : jR32 x := hS.2.2.2.1 _ (List.mem_cons_of_mem _ List.mem_cons_self)
  have h2 := k lsS H locs (jS_st hS (jok2 hS.2.2.2.1 (jtmr (y := y) (by omega) (by omega) hx0.1 hx0.2)))
  have e : jtv E (.inl (x.tmod y)) = .int (Int32.ofInt x - Int32.ofInt x / Int32.ofInt y * Int32.ofInt y) := congrArg Value.int (jrem32 hx0 hy0)
  rw [List.map_cons, e] at h2
  exact lv_irem C.1 C.2.1 hd (fun q => hy ((jz32 hy0).mp q)) h2
theorem js_ldiv (C : jAt E p R s m args meth c mm n0 n1) {x y : Int} (hy : y ≠ 0) (hd : decode (jM mm).2.1 pc = .ok (.ldiv, 1)) (k : jWj E p l e R s m args below meth c Q mm n0 n1 (pc + 1) ls (.inr (.inl (jw64 (x.tdiv y))) :: st) n r h) : jWj E p l e R s m args below meth c Q mm n0 n1 pc ls (.inr (.inl y) :: .inr (.inl x) :: st) n r h := fun lsS H locs hS => by
  have hy0 : jR64 y := hS.2.2.2.1 _ List.mem_cons_self
  have hx0 : jR64 x := hS.2.2.2.1 _ (List.mem_cons_of_mem _ List.mem_cons_self)
  have h2 := k lsS H locs (jS_st hS (jok2 hS.2.2.2.1 (j64_r _)))
  have e : jtv E (.inr (.inl (jw64 (x.tdiv y)))) = .long (Int64.ofInt x / Int64.ofInt y) := congrArg Value.long ((jof64 _).trans (jdiv64 hx0 hy0))
  rw [List.map_cons, e] at h2
  exact lv_ldiv C.1 C.2.1 hd (fun q => hy ((jz64 hy0).mp q)) h2
theorem js_lrem (C : jAt E p R s m args meth c mm n0 n1) {x y : Int} (hy : y ≠ 0) (hd : decode (jM mm).2.1 pc = .ok (.lrem, 1)) (k : jWj E p l e R s m args below meth c Q mm n0 n1 (pc + 1) ls (.inr (.inl (x.tmod y)) :: st) n r h) : jWj E p l e R s m args below meth c Q mm n0 n1 pc ls (.inr (.inl y) :: .inr (.inl x) :: st) n r h := fun lsS H locs hS => by
  have hy0 : jR64 y := hS.2.2.2.1 _ List.mem_cons_self
  have hx0 : jR64 x := hS.2.2.2.1 _ (List.mem_cons_of_mem _ List.mem_cons_self)
  have h2 := k lsS H locs (jS_st hS (jok2 hS.2.2.2.1 (jtmr (y := y) (by omega) (by omega) hx0.1 hx0.2)))
  have e : jtv E (.inr (.inl (x.tmod y))) = .long (Int64.ofInt x - Int64.ofInt x / Int64.ofInt y * Int64.ofInt y) := congrArg Value.long (jrem64 hx0 hy0)
  rw [List.map_cons, e] at h2
  exact lv_lrem C.1 C.2.1 hd (fun q => hy ((jz64 hy0).mp q)) h2
theorem js_ineg (C : jAt E p R s m args meth c mm n0 n1) {x : Int} (hd : decode (jM mm).2.1 pc = .ok (.ineg, 1)) (k : jWj E p l e R s m args below meth c Q mm n0 n1 (pc + 1) ls (.inl (jw32 (-x)) :: st) n r h) : jWj E p l e R s m args below meth c Q mm n0 n1 pc ls (.inl x :: st) n r h := fun lsS H locs hS => by
  have h2 := k lsS H locs (jS_st hS (jok1 hS.2.2.2.1 (j32_r _)))
  have e : jtv E (.inl (jw32 (-x))) = .int (-Int32.ofInt x) := congrArg Value.int ((jof32 _).trans (Int32.ofInt_neg x))
  rw [List.map_cons, e] at h2
  exact lv_ineg C.1 C.2.1 hd h2
theorem js_i2l (C : jAt E p R s m args meth c mm n0 n1) {x : Int} (hd : decode (jM mm).2.1 pc = .ok (.i2l, 1)) (k : jWj E p l e R s m args below meth c Q mm n0 n1 (pc + 1) ls (.inr (.inl x) :: st) n r h) : jWj E p l e R s m args below meth c Q mm n0 n1 pc ls (.inl x :: st) n r h := fun lsS H locs hS => by
  have hx0 : jR32 x := hS.2.2.2.1 _ List.mem_cons_self
  have h2 := k lsS H locs (jS_st hS (jok1 hS.2.2.2.1 ⟨by have := hx0.1; omega, by have := hx0.2; omega⟩))
  exact lv_i2l (v := Int64.ofInt x) C.1 C.2.1 hd (by rw [← Int64.ofInt_int32ToInt, jto32 hx0]) h2
theorem js_l2i (C : jAt E p R s m args meth c mm n0 n1) {x : Int} (hd : decode (jM mm).2.1 pc = .ok (.l2i, 1)) (k : jWj E p l e R s m args below meth c Q mm n0 n1 (pc + 1) ls (.inl (jw32 x) :: st) n r h) : jWj E p l e R s m args below meth c Q mm n0 n1 pc ls (.inr (.inl x) :: st) n r h := fun lsS H locs hS => by
  have hx0 : jR64 x := hS.2.2.2.1 _ List.mem_cons_self
  have h2 := k lsS H locs (jS_st hS (jok1 hS.2.2.2.1 (j32_r _)))
  exact lv_l2i (v := Int32.ofInt (jw32 x)) C.1 C.2.1 hd (by rw [← Int32.ofInt_int64ToInt, jto64 hx0, jof32]) h2
theorem js_lcmp (C : jAt E p R s m args meth c mm n0 n1) {x y : Int} (hd : decode (jM mm).2.1 pc = .ok (.lcmp, 1)) (k : jWj E p l e R s m args below meth c Q mm n0 n1 (pc + 1) ls (.inl (jlc x y) :: st) n r h) : jWj E p l e R s m args below meth c Q mm n0 n1 pc ls (.inr (.inl y) :: .inr (.inl x) :: st) n r h := fun lsS H locs hS => by
  have hy0 : jR64 y := hS.2.2.2.1 _ List.mem_cons_self
  have hx0 : jR64 x := hS.2.2.2.1 _ (List.mem_cons_of_mem _ List.mem_cons_self)
  have h2 := k lsS H locs (jS_st hS (jok2 hS.2.2.2.1 (by unfold jlc; split; exact ⟨by omega, by omega⟩; split <;> exact ⟨by omega, by omega⟩)))
  have e : jtv E (.inl (jlc x y)) = .int (lg_cmp (Int64.ofInt x) (Int64.ofInt y)) := by
    refine congrArg Value.int ?_
    unfold jlc lg_cmp
    by_cases h1 : y < x
    · rw [if_pos h1, if_pos ((jlt64 hy0 hx0).mpr h1)]; rfl
    · rw [if_neg h1, if_neg (fun q => h1 ((jlt64 hy0 hx0).mp q))]
      by_cases h2 : x = y
      · rw [if_pos h2, if_pos ((jeq64 hx0 hy0).mpr h2)]; rfl
      · rw [if_neg h2, if_neg (fun q => h2 ((jeq64 hx0 hy0).mp q))]; rfl
  rw [List.map_cons, e] at h2
  exact W.lcmp C.1 C.2.1 hd h2
theorem jcat1 (E : JE) (v : JV) (h : ∀ z, v ≠ .inr (.inl z)) : (jtv E v).category = 1 := by
  rcases lv_cat (jtv E v) with h1 | h1
  · exact h1
  · obtain ⟨z, hz⟩ := (jcat_tv E v).mp h1
    exact absurd hz (h z)
theorem js_dup (C : jAt E p R s m args meth c mm n0 n1) {v : JV} (hv : ∀ z, v ≠ .inr (.inl z)) (hd : decode (jM mm).2.1 pc = .ok (.dup, 1)) (k : jWj E p l e R s m args below meth c Q mm n0 n1 (pc + 1) ls (v :: v :: st) n r h) : jWj E p l e R s m args below meth c Q mm n0 n1 pc ls (v :: st) n r h := fun lsS H locs hS =>
  lv_dup C.1 C.2.1 hd (jcat1 E v hv) (k lsS H locs (jS_st hS (jokc hS.2.2.2.1 (hS.2.2.2.1 _ List.mem_cons_self))))
theorem js_pop (C : jAt E p R s m args meth c mm n0 n1) {v : JV} (hv : ∀ z, v ≠ .inr (.inl z)) (hd : decode (jM mm).2.1 pc = .ok (.pop, 1)) (k : jWj E p l e R s m args below meth c Q mm n0 n1 (pc + 1) ls st n r h) : jWj E p l e R s m args below meth c Q mm n0 n1 pc ls (v :: st) n r h := fun lsS H locs hS =>
  lv_pop C.1 C.2.1 hd (jcat1 E v hv) (k lsS H locs (jS_st hS (jokd hS.2.2.2.1)))
theorem js_dup2 (C : jAt E p R s m args meth c mm n0 n1) {v w : JV} (hv : ∀ z, v ≠ .inr (.inl z)) (hw : ∀ z, w ≠ .inr (.inl z)) (hd : decode (jM mm).2.1 pc = .ok (.dup2, 1)) (k : jWj E p l e R s m args below meth c Q mm n0 n1 (pc + 1) ls (v :: w :: v :: w :: st) n r h) : jWj E p l e R s m args below meth c Q mm n0 n1 pc ls (v :: w :: st) n r h := fun lsS H locs hS =>
  lv_dup2_11 C.1 C.2.1 hd (jcat1 E v hv) (jcat1 E w hw) (k lsS H locs (jS_st hS (jokc (jokc hS.2.2.2.1 (hS.2.2.2.1 _ (List.mem_cons_of_mem _ List.mem_cons_self))) (hS.2.2.2.1 _ List.mem_cons_self))))
-- branches

theorem js_if_eq (C : jAt E p R s m args meth c mm n0 n1) {x off : Int} {a : Nat} (ha : (pc : Int) + off = (a : Int)) (hd : decode (jM mm).2.1 pc = .ok (.ifCond .eq off, 3)) (kt : x = 0 → jWj E p l e R s m args below meth c Q mm n0 n1 a ls st n r h) (kf : ¬ (x = 0) → jWj E p l e R s m args below meth c Q mm n0 n1 (pc + 3) ls st n r h) : jWj E p l e R s m args below meth c Q mm n0 n1 pc ls (.inl x :: st) n r h := fun lsS H locs hS => by
  have hx0 : jR32 x := hS.2.2.2.1 _ List.mem_cons_self
  have hS' := jS_st hS (jokd hS.2.2.2.1)
  have jr0 : jR32 0 := ⟨by omega, by omega⟩
  have e1 : Int32.ofInt x < 0 ↔ x < 0 := jlt32 (y := 0) hx0 jr0
  have e2 : (0 : Int32) < Int32.ofInt x ↔ 0 < x := jlt32 (x := 0) jr0 hx0
  have e3 : Int32.ofInt x = 0 ↔ x = 0 := jz32 hx0
  have e4 : Int32.ofInt x ≤ 0 ↔ x ≤ 0 := jle32 (y := 0) hx0 jr0
  have e5 : (0 : Int32) ≤ Int32.ofInt x ↔ 0 ≤ x := jle32 (x := 0) jr0 hx0
  refine lv_if_eq (x := Int32.ofInt x) C.1 C.2.1 hd ha (fun q => kt ?_ lsS H locs hS') (fun q => kf ?_ lsS H locs hS')
  · simp only [ge_iff_le, gt_iff_lt, Int32.not_lt, Int32.not_le, e1, e2, e3, e4, e5] at q
    omega
  · simp only [ge_iff_le, gt_iff_lt, Int32.not_lt, Int32.not_le, e1, e2, e3, e4, e5] at q
    omega

theorem js_if_ne (C : jAt E p R s m args meth c mm n0 n1) {x off : Int} {a : Nat} (ha : (pc : Int) + off = (a : Int)) (hd : decode (jM mm).2.1 pc = .ok (.ifCond .ne off, 3)) (kt : ¬ x = 0 → jWj E p l e R s m args below meth c Q mm n0 n1 a ls st n r h) (kf : ¬ (¬ x = 0) → jWj E p l e R s m args below meth c Q mm n0 n1 (pc + 3) ls st n r h) : jWj E p l e R s m args below meth c Q mm n0 n1 pc ls (.inl x :: st) n r h := fun lsS H locs hS => by
  have hx0 : jR32 x := hS.2.2.2.1 _ List.mem_cons_self
  have hS' := jS_st hS (jokd hS.2.2.2.1)
  have jr0 : jR32 0 := ⟨by omega, by omega⟩
  have e1 : Int32.ofInt x < 0 ↔ x < 0 := jlt32 (y := 0) hx0 jr0
  have e2 : (0 : Int32) < Int32.ofInt x ↔ 0 < x := jlt32 (x := 0) jr0 hx0
  have e3 : Int32.ofInt x = 0 ↔ x = 0 := jz32 hx0
  have e4 : Int32.ofInt x ≤ 0 ↔ x ≤ 0 := jle32 (y := 0) hx0 jr0
  have e5 : (0 : Int32) ≤ Int32.ofInt x ↔ 0 ≤ x := jle32 (x := 0) jr0 hx0
  refine lv_if_ne (x := Int32.ofInt x) C.1 C.2.1 hd ha (fun q => kt ?_ lsS H locs hS') (fun q => kf ?_ lsS H locs hS')
  · simp only [ge_iff_le, gt_iff_lt, Int32.not_lt, Int32.not_le, e1, e2, e3, e4, e5] at q
    omega
  · simp only [ge_iff_le, gt_iff_lt, Int32.not_lt, Int32.not_le, e1, e2, e3, e4, e5] at q
    omega

theorem js_if_lt (C : jAt E p R s m args meth c mm n0 n1) {x off : Int} {a : Nat} (ha : (pc : Int) + off = (a : Int)) (hd : decode (jM mm).2.1 pc = .ok (.ifCond .lt off, 3)) (kt : x < 0 → jWj E p l e R s m args below meth c Q mm n0 n1 a ls st n r h) (kf : ¬ (x < 0) → jWj E p l e R s m args below meth c Q mm n0 n1 (pc + 3) ls st n r h) : jWj E p l e R s m args below meth c Q mm n0 n1 pc ls (.inl x :: st) n r h := fun lsS H locs hS => by
  have hx0 : jR32 x := hS.2.2.2.1 _ List.mem_cons_self
  have hS' := jS_st hS (jokd hS.2.2.2.1)
  have jr0 : jR32 0 := ⟨by omega, by omega⟩
  have e1 : Int32.ofInt x < 0 ↔ x < 0 := jlt32 (y := 0) hx0 jr0
  have e2 : (0 : Int32) < Int32.ofInt x ↔ 0 < x := jlt32 (x := 0) jr0 hx0
  have e3 : Int32.ofInt x = 0 ↔ x = 0 := jz32 hx0
  have e4 : Int32.ofInt x ≤ 0 ↔ x ≤ 0 := jle32 (y := 0) hx0 jr0
  have e5 : (0 : Int32) ≤ Int32.ofInt x ↔ 0 ≤ x := jle32 (x := 0) jr0 hx0
  refine lv_if_lt (x := Int32.ofInt x) C.1 C.2.1 hd ha (fun q => kt ?_ lsS H locs hS') (fun q => kf ?_ lsS H locs hS')
  · simp only [ge_iff_le, gt_iff_lt, Int32.not_lt, Int32.not_le, e1, e2, e3, e4, e5] at q
    omega
  · simp only [ge_iff_le, gt_iff_lt, Int32.not_lt, Int32.not_le, e1, e2, e3, e4, e5] at q
    omega

theorem js_if_ge (C : jAt E p R s m args meth c mm n0 n1) {x off : Int} {a : Nat} (ha : (pc : Int) + off = (a : Int)) (hd : decode (jM mm).2.1 pc = .ok (.ifCond .ge off, 3)) (kt : 0 ≤ x → jWj E p l e R s m args below meth c Q mm n0 n1 a ls st n r h) (kf : ¬ (0 ≤ x) → jWj E p l e R s m args below meth c Q mm n0 n1 (pc + 3) ls st n r h) : jWj E p l e R s m args below meth c Q mm n0 n1 pc ls (.inl x :: st) n r h := fun lsS H locs hS => by
  have hx0 : jR32 x := hS.2.2.2.1 _ List.mem_cons_self
  have hS' := jS_st hS (jokd hS.2.2.2.1)
  have jr0 : jR32 0 := ⟨by omega, by omega⟩
  have e1 : Int32.ofInt x < 0 ↔ x < 0 := jlt32 (y := 0) hx0 jr0
  have e2 : (0 : Int32) < Int32.ofInt x ↔ 0 < x := jlt32 (x := 0) jr0 hx0
  have e3 : Int32.ofInt x = 0 ↔ x = 0 := jz32 hx0
  have e4 : Int32.ofInt x ≤ 0 ↔ x ≤ 0 := jle32 (y := 0) hx0 jr0
  have e5 : (0 : Int32) ≤ Int32.ofInt x ↔ 0 ≤ x := jle32 (x := 0) jr0 hx0
  refine lv_if_ge (x := Int32.ofInt x) C.1 C.2.1 hd ha (fun q => kt ?_ lsS H locs hS') (fun q => kf ?_ lsS H locs hS')
  · simp only [ge_iff_le, gt_iff_lt, Int32.not_lt, Int32.not_le, e1, e2, e3, e4, e5] at q
    omega
  · simp only [ge_iff_le, gt_iff_lt, Int32.not_lt, Int32.not_le, e1, e2, e3, e4, e5] at q
    omega

theorem js_if_gt (C : jAt E p R s m args meth c mm n0 n1) {x off : Int} {a : Nat} (ha : (pc : Int) + off = (a : Int)) (hd : decode (jM mm).2.1 pc = .ok (.ifCond .gt off, 3)) (kt : 0 < x → jWj E p l e R s m args below meth c Q mm n0 n1 a ls st n r h) (kf : ¬ (0 < x) → jWj E p l e R s m args below meth c Q mm n0 n1 (pc + 3) ls st n r h) : jWj E p l e R s m args below meth c Q mm n0 n1 pc ls (.inl x :: st) n r h := fun lsS H locs hS => by
  have hx0 : jR32 x := hS.2.2.2.1 _ List.mem_cons_self
  have hS' := jS_st hS (jokd hS.2.2.2.1)
  have jr0 : jR32 0 := ⟨by omega, by omega⟩
  have e1 : Int32.ofInt x < 0 ↔ x < 0 := jlt32 (y := 0) hx0 jr0
  have e2 : (0 : Int32) < Int32.ofInt x ↔ 0 < x := jlt32 (x := 0) jr0 hx0
  have e3 : Int32.ofInt x = 0 ↔ x = 0 := jz32 hx0
  have e4 : Int32.ofInt x ≤ 0 ↔ x ≤ 0 := jle32 (y := 0) hx0 jr0
  have e5 : (0 : Int32) ≤ Int32.ofInt x ↔ 0 ≤ x := jle32 (x := 0) jr0 hx0
  refine lv_if_gt (x := Int32.ofInt x) C.1 C.2.1 hd ha (fun q => kt ?_ lsS H locs hS') (fun q => kf ?_ lsS H locs hS')
  · simp only [ge_iff_le, gt_iff_lt, Int32.not_lt, Int32.not_le, e1, e2, e3, e4, e5] at q
    omega
  · simp only [ge_iff_le, gt_iff_lt, Int32.not_lt, Int32.not_le, e1, e2, e3, e4, e5] at q
    omega

theorem js_if_le (C : jAt E p R s m args meth c mm n0 n1) {x off : Int} {a : Nat} (ha : (pc : Int) + off = (a : Int)) (hd : decode (jM mm).2.1 pc = .ok (.ifCond .le off, 3)) (kt : x ≤ 0 → jWj E p l e R s m args below meth c Q mm n0 n1 a ls st n r h) (kf : ¬ (x ≤ 0) → jWj E p l e R s m args below meth c Q mm n0 n1 (pc + 3) ls st n r h) : jWj E p l e R s m args below meth c Q mm n0 n1 pc ls (.inl x :: st) n r h := fun lsS H locs hS => by
  have hx0 : jR32 x := hS.2.2.2.1 _ List.mem_cons_self
  have hS' := jS_st hS (jokd hS.2.2.2.1)
  have jr0 : jR32 0 := ⟨by omega, by omega⟩
  have e1 : Int32.ofInt x < 0 ↔ x < 0 := jlt32 (y := 0) hx0 jr0
  have e2 : (0 : Int32) < Int32.ofInt x ↔ 0 < x := jlt32 (x := 0) jr0 hx0
  have e3 : Int32.ofInt x = 0 ↔ x = 0 := jz32 hx0
  have e4 : Int32.ofInt x ≤ 0 ↔ x ≤ 0 := jle32 (y := 0) hx0 jr0
  have e5 : (0 : Int32) ≤ Int32.ofInt x ↔ 0 ≤ x := jle32 (x := 0) jr0 hx0
  refine lv_if_le (x := Int32.ofInt x) C.1 C.2.1 hd ha (fun q => kt ?_ lsS H locs hS') (fun q => kf ?_ lsS H locs hS')
  · simp only [ge_iff_le, gt_iff_lt, Int32.not_lt, Int32.not_le, e1, e2, e3, e4, e5] at q
    omega
  · simp only [ge_iff_le, gt_iff_lt, Int32.not_lt, Int32.not_le, e1, e2, e3, e4, e5] at q
    omega

theorem js_icmp_eq (C : jAt E p R s m args meth c mm n0 n1) {x y off : Int} {a : Nat} (ha : (pc : Int) + off = (a : Int)) (hd : decode (jM mm).2.1 pc = .ok (.if_icmp .eq off, 3)) (kt : x = y → jWj E p l e R s m args below meth c Q mm n0 n1 a ls st n r h) (kf : ¬ (x = y) → jWj E p l e R s m args below meth c Q mm n0 n1 (pc + 3) ls st n r h) : jWj E p l e R s m args below meth c Q mm n0 n1 pc ls (.inl y :: .inl x :: st) n r h := fun lsS H locs hS => by
  have hy0 : jR32 y := hS.2.2.2.1 _ List.mem_cons_self
  have hx0 : jR32 x := hS.2.2.2.1 _ (List.mem_cons_of_mem _ List.mem_cons_self)
  have hS' := jS_st hS (jokd (jokd hS.2.2.2.1))
  have e1 : Int32.ofInt x < Int32.ofInt y ↔ x < y := jlt32 hx0 hy0
  have e2 : Int32.ofInt y < Int32.ofInt x ↔ y < x := jlt32 hy0 hx0
  have e3 : Int32.ofInt x = Int32.ofInt y ↔ x = y := jeq32 hx0 hy0
  have e4 : Int32.ofInt x ≤ Int32.ofInt y ↔ x ≤ y := jle32 hx0 hy0
  have e5 : Int32.ofInt y ≤ Int32.ofInt x ↔ y ≤ x := jle32 hy0 hx0
  refine lv_icmp_eq (x := Int32.ofInt x) (y := Int32.ofInt y) C.1 C.2.1 hd ha (fun q => kt ?_ lsS H locs hS') (fun q => kf ?_ lsS H locs hS')
  · simp only [ge_iff_le, gt_iff_lt, Int32.not_lt, Int32.not_le, e1, e2, e3, e4, e5] at q
    omega
  · simp only [ge_iff_le, gt_iff_lt, Int32.not_lt, Int32.not_le, e1, e2, e3, e4, e5] at q
    omega

theorem js_icmp_ne (C : jAt E p R s m args meth c mm n0 n1) {x y off : Int} {a : Nat} (ha : (pc : Int) + off = (a : Int)) (hd : decode (jM mm).2.1 pc = .ok (.if_icmp .ne off, 3)) (kt : ¬ x = y → jWj E p l e R s m args below meth c Q mm n0 n1 a ls st n r h) (kf : ¬ (¬ x = y) → jWj E p l e R s m args below meth c Q mm n0 n1 (pc + 3) ls st n r h) : jWj E p l e R s m args below meth c Q mm n0 n1 pc ls (.inl y :: .inl x :: st) n r h := fun lsS H locs hS => by
  have hy0 : jR32 y := hS.2.2.2.1 _ List.mem_cons_self
  have hx0 : jR32 x := hS.2.2.2.1 _ (List.mem_cons_of_mem _ List.mem_cons_self)
  have hS' := jS_st hS (jokd (jokd hS.2.2.2.1))
  have e1 : Int32.ofInt x < Int32.ofInt y ↔ x < y := jlt32 hx0 hy0
  have e2 : Int32.ofInt y < Int32.ofInt x ↔ y < x := jlt32 hy0 hx0
  have e3 : Int32.ofInt x = Int32.ofInt y ↔ x = y := jeq32 hx0 hy0
  have e4 : Int32.ofInt x ≤ Int32.ofInt y ↔ x ≤ y := jle32 hx0 hy0
  have e5 : Int32.ofInt y ≤ Int32.ofInt x ↔ y ≤ x := jle32 hy0 hx0
  refine lv_icmp_ne (x := Int32.ofInt x) (y := Int32.ofInt y) C.1 C.2.1 hd ha (fun q => kt ?_ lsS H locs hS') (fun q => kf ?_ lsS H locs hS')
  · simp only [ge_iff_le, gt_iff_lt, Int32.not_lt, Int32.not_le, e1, e2, e3, e4, e5] at q
    omega
  · simp only [ge_iff_le, gt_iff_lt, Int32.not_lt, Int32.not_le, e1, e2, e3, e4, e5] at q
    omega

theorem js_icmp_lt (C : jAt E p R s m args meth c mm n0 n1) {x y off : Int} {a : Nat} (ha : (pc : Int) + off = (a : Int)) (hd : decode (jM mm).2.1 pc = .ok (.if_icmp .lt off, 3)) (kt : x < y → jWj E p l e R s m args below meth c Q mm n0 n1 a ls st n r h) (kf : ¬ (x < y) → jWj E p l e R s m args below meth c Q mm n0 n1 (pc + 3) ls st n r h) : jWj E p l e R s m args below meth c Q mm n0 n1 pc ls (.inl y :: .inl x :: st) n r h := fun lsS H locs hS => by
  have hy0 : jR32 y := hS.2.2.2.1 _ List.mem_cons_self
  have hx0 : jR32 x := hS.2.2.2.1 _ (List.mem_cons_of_mem _ List.mem_cons_self)
  have hS' := jS_st hS (jokd (jokd hS.2.2.2.1))
  have e1 : Int32.ofInt x < Int32.ofInt y ↔ x < y := jlt32 hx0 hy0
  have e2 : Int32.ofInt y < Int32.ofInt x ↔ y < x := jlt32 hy0 hx0
  have e3 : Int32.ofInt x = Int32.ofInt y ↔ x = y := jeq32 hx0 hy0
  have e4 : Int32.ofInt x ≤ Int32.ofInt y ↔ x ≤ y := jle32 hx0 hy0
  have e5 : Int32.ofInt y ≤ Int32.ofInt x ↔ y ≤ x := jle32 hy0 hx0
  refine lv_icmp_lt (x := Int32.ofInt x) (y := Int32.ofInt y) C.1 C.2.1 hd ha (fun q => kt ?_ lsS H locs hS') (fun q => kf ?_ lsS H locs hS')
  · simp only [ge_iff_le, gt_iff_lt, Int32.not_lt, Int32.not_le, e1, e2, e3, e4, e5] at q
    omega
  · simp only [ge_iff_le, gt_iff_lt, Int32.not_lt, Int32.not_le, e1, e2, e3, e4, e5] at q
    omega

theorem js_icmp_ge (C : jAt E p R s m args meth c mm n0 n1) {x y off : Int} {a : Nat} (ha : (pc : Int) + off = (a : Int)) (hd : decode (jM mm).2.1 pc = .ok (.if_icmp .ge off, 3)) (kt : y ≤ x → jWj E p l e R s m args below meth c Q mm n0 n1 a ls st n r h) (kf : ¬ (y ≤ x) → jWj E p l e R s m args below meth c Q mm n0 n1 (pc + 3) ls st n r h) : jWj E p l e R s m args below meth c Q mm n0 n1 pc ls (.inl y :: .inl x :: st) n r h := fun lsS H locs hS => by
  have hy0 : jR32 y := hS.2.2.2.1 _ List.mem_cons_self
  have hx0 : jR32 x := hS.2.2.2.1 _ (List.mem_cons_of_mem _ List.mem_cons_self)
  have hS' := jS_st hS (jokd (jokd hS.2.2.2.1))
  have e1 : Int32.ofInt x < Int32.ofInt y ↔ x < y := jlt32 hx0 hy0
  have e2 : Int32.ofInt y < Int32.ofInt x ↔ y < x := jlt32 hy0 hx0
  have e3 : Int32.ofInt x = Int32.ofInt y ↔ x = y := jeq32 hx0 hy0
  have e4 : Int32.ofInt x ≤ Int32.ofInt y ↔ x ≤ y := jle32 hx0 hy0
  have e5 : Int32.ofInt y ≤ Int32.ofInt x ↔ y ≤ x := jle32 hy0 hx0
  refine lv_icmp_ge (x := Int32.ofInt x) (y := Int32.ofInt y) C.1 C.2.1 hd ha (fun q => kt ?_ lsS H locs hS') (fun q => kf ?_ lsS H locs hS')
  · simp only [ge_iff_le, gt_iff_lt, Int32.not_lt, Int32.not_le, e1, e2, e3, e4, e5] at q
    omega
  · simp only [ge_iff_le, gt_iff_lt, Int32.not_lt, Int32.not_le, e1, e2, e3, e4, e5] at q
    omega

theorem js_icmp_gt (C : jAt E p R s m args meth c mm n0 n1) {x y off : Int} {a : Nat} (ha : (pc : Int) + off = (a : Int)) (hd : decode (jM mm).2.1 pc = .ok (.if_icmp .gt off, 3)) (kt : y < x → jWj E p l e R s m args below meth c Q mm n0 n1 a ls st n r h) (kf : ¬ (y < x) → jWj E p l e R s m args below meth c Q mm n0 n1 (pc + 3) ls st n r h) : jWj E p l e R s m args below meth c Q mm n0 n1 pc ls (.inl y :: .inl x :: st) n r h := fun lsS H locs hS => by
  have hy0 : jR32 y := hS.2.2.2.1 _ List.mem_cons_self
  have hx0 : jR32 x := hS.2.2.2.1 _ (List.mem_cons_of_mem _ List.mem_cons_self)
  have hS' := jS_st hS (jokd (jokd hS.2.2.2.1))
  have e1 : Int32.ofInt x < Int32.ofInt y ↔ x < y := jlt32 hx0 hy0
  have e2 : Int32.ofInt y < Int32.ofInt x ↔ y < x := jlt32 hy0 hx0
  have e3 : Int32.ofInt x = Int32.ofInt y ↔ x = y := jeq32 hx0 hy0
  have e4 : Int32.ofInt x ≤ Int32.ofInt y ↔ x ≤ y := jle32 hx0 hy0
  have e5 : Int32.ofInt y ≤ Int32.ofInt x ↔ y ≤ x := jle32 hy0 hx0
  refine lv_icmp_gt (x := Int32.ofInt x) (y := Int32.ofInt y) C.1 C.2.1 hd ha (fun q => kt ?_ lsS H locs hS') (fun q => kf ?_ lsS H locs hS')
  · simp only [ge_iff_le, gt_iff_lt, Int32.not_lt, Int32.not_le, e1, e2, e3, e4, e5] at q
    omega
  · simp only [ge_iff_le, gt_iff_lt, Int32.not_lt, Int32.not_le, e1, e2, e3, e4, e5] at q
    omega

theorem js_icmp_le (C : jAt E p R s m args meth c mm n0 n1) {x y off : Int} {a : Nat} (ha : (pc : Int) + off = (a : Int)) (hd : decode (jM mm).2.1 pc = .ok (.if_icmp .le off, 3)) (kt : x ≤ y → jWj E p l e R s m args below meth c Q mm n0 n1 a ls st n r h) (kf : ¬ (x ≤ y) → jWj E p l e R s m args below meth c Q mm n0 n1 (pc + 3) ls st n r h) : jWj E p l e R s m args below meth c Q mm n0 n1 pc ls (.inl y :: .inl x :: st) n r h := fun lsS H locs hS => by
  have hy0 : jR32 y := hS.2.2.2.1 _ List.mem_cons_self
  have hx0 : jR32 x := hS.2.2.2.1 _ (List.mem_cons_of_mem _ List.mem_cons_self)
  have hS' := jS_st hS (jokd (jokd hS.2.2.2.1))
  have e1 : Int32.ofInt x < Int32.ofInt y ↔ x < y := jlt32 hx0 hy0
  have e2 : Int32.ofInt y < Int32.ofInt x ↔ y < x := jlt32 hy0 hx0
  have e3 : Int32.ofInt x = Int32.ofInt y ↔ x = y := jeq32 hx0 hy0
  have e4 : Int32.ofInt x ≤ Int32.ofInt y ↔ x ≤ y := jle32 hx0 hy0
  have e5 : Int32.ofInt y ≤ Int32.ofInt x ↔ y ≤ x := jle32 hy0 hx0
  refine lv_icmp_le (x := Int32.ofInt x) (y := Int32.ofInt y) C.1 C.2.1 hd ha (fun q => kt ?_ lsS H locs hS') (fun q => kf ?_ lsS H locs hS')
  · simp only [ge_iff_le, gt_iff_lt, Int32.not_lt, Int32.not_le, e1, e2, e3, e4, e5] at q
    omega
  · simp only [ge_iff_le, gt_iff_lt, Int32.not_lt, Int32.not_le, e1, e2, e3, e4, e5] at q
    omega

theorem js_goto (C : jAt E p R s m args meth c mm n0 n1) {off : Int} {a : Nat} (ha : (pc : Int) + off = (a : Int)) (hd : decode (jM mm).2.1 pc = .ok (.goto off, 3)) (k : jWj E p l e R s m args below meth c Q mm n0 n1 a ls st n r h) : jWj E p l e R s m args below meth c Q mm n0 n1 pc ls st n r h := fun lsS H locs hS =>
  lv_goto C.1 C.2.1 hd ha (k lsS H locs hS)
theorem jswt_at (NX : JN) (pc : Nat) (x : Int) (ls st : List JV) (n : Nat) (r h : JH) : ∀ (os : List Int) (lo : Int), jswt NX pc x lo os ls st n r h → ∀ (j : Nat) (o : Int), os[j]? = some o → x = lo + j → NX ((pc : Int) + o).toNat ls st n r h
  | [], lo, hh, j, o, ho, hx => by simp at ho
  | o0 :: os, lo, hh, 0, o, ho, hx => by
    simp at ho
    subst ho
    exact hh.1 (by simpa using hx)
  | o0 :: os, lo, hh, j + 1, o, ho, hx => jswt_at NX pc x ls st n r h os (lo + 1) hh.2 j o (by simpa using ho) (by omega)
theorem js_tsw (C : jAt E p R s m args meth c mm n0 n1) {x d lo hi : Int} {os : Array Int} {len : Nat} (h0 : 0 ≤ (pc : Int) + d) (hsz : (os.size : Int) = hi - lo + 1) (hos : os.toList.all (fun o => decide (0 ≤ (pc : Int) + o)) = true) (hd : decode (jM mm).2.1 pc = .ok (.tableswitch d lo hi os, len)) (k : jtsw (jWj E p l e R s m args below meth c Q mm n0 n1) pc d lo hi os.toList ls (.inl x :: st) n r h) : jWj E p l e R s m args below meth c Q mm n0 n1 pc ls (.inl x :: st) n r h := fun lsS H locs hS => by
  have hx0 : jR32 x := hS.2.2.2.1 _ List.mem_cons_self
  have hS' := jS_st hS (jokd hS.2.2.2.1)
  have ex : (Int32.ofInt x).toInt = x := jto32 hx0
  obtain ⟨k1, k2⟩ := k
  by_cases hc : x < lo ∨ hi < x
  · refine lv_tableOut (x := Int32.ofInt x) (tgt := ((pc : Int) + d).toNat) C.1 C.2.1 hd (by rw [ex]; exact hc) (by omega) (k1 hc lsS H locs hS')
  · have hj : (x - lo).toNat < os.size := by omega
    have ho : os[(x - lo).toNat]? = some os[(x - lo).toNat] := Array.getElem?_eq_getElem hj
    generalize os[(x - lo).toNat] = o at ho
    have hol : os.toList[(x - lo).toNat]? = some o := by rw [Array.getElem?_toList]; exact ho
    have hp := List.all_eq_true.mp hos o (List.mem_of_getElem? hol)
    simp only [decide_eq_true_eq] at hp
    have k3 := jswt_at _ pc x ls st n r h os.toList lo k2 _ o hol (by omega)
    exact lv_tableIn (x := Int32.ofInt x) (tgt := ((pc : Int) + o).toNat) C.1 C.2.1 hd (by rw [ex]; omega) (by rw [ex]; omega) (by rw [ex]; exact ho) (by omega) (k3 lsS H locs hS')
theorem jswl_at (NX : JN) (pc : Nat) (x d : Int) (ls st : List JV) (n : Nat) (r h : JH) : ∀ (qs : List (Int × Int)), jswl NX pc x d qs ls st n r h → NX ((pc : Int) + Op.lookupswitch.offset qs d x).toNat ls st n r h
  | [], hh => hh
  | (a, o) :: qs, hh => by
    by_cases hx : x = a
    · subst hx
      have e : Op.lookupswitch.offset ((x, o) :: qs) d x = o := by simp [Op.lookupswitch.offset]
      rw [e]
      exact hh.1 rfl
    · have e : Op.lookupswitch.offset ((a, o) :: qs) d x = Op.lookupswitch.offset qs d x := by
        have : ¬ a = x := fun q => hx q.symm
        simp [Op.lookupswitch.offset, this]
      rw [e]
      exact jswl_at NX pc x d ls st n r h qs (hh.2 hx)
theorem joff_in (x d : Int) : ∀ qs : List (Int × Int), Op.lookupswitch.offset qs d x = d ∨ ∃ q ∈ qs, Op.lookupswitch.offset qs d x = q.2
  | [] => Or.inl rfl
  | (a, o) :: qs => by
    by_cases hx : a = x
    · exact Or.inr ⟨(a, o), List.mem_cons_self, by simp [Op.lookupswitch.offset, hx]⟩
    · have e : Op.lookupswitch.offset ((a, o) :: qs) d x = Op.lookupswitch.offset qs d x := by simp [Op.lookupswitch.offset, hx]
      rw [e]
      rcases joff_in x d qs with h1 | ⟨q, h1, h2⟩
      · exact Or.inl h1
      · exact Or.inr ⟨q, List.mem_cons_of_mem _ h1, h2⟩
theorem js_lsw (C : jAt E p R s m args meth c mm n0 n1) {x d : Int} {qs : Array (Int × Int)} {len : Nat} (h0 : 0 ≤ (pc : Int) + d) (hos : qs.toList.all (fun o => decide (0 ≤ (pc : Int) + o.2)) = true) (hso : (qs.toList.zip (qs.toList.drop 1)).all (fun (a, next) => a.1 < next.1) = true) (hd : decode (jM mm).2.1 pc = .ok (.lookupswitch d qs, len)) (k : jlsw (jWj E p l e R s m args below meth c Q mm n0 n1) pc d qs.toList ls (.inl x :: st) n r h) : jWj E p l e R s m args below meth c Q mm n0 n1 pc ls (.inl x :: st) n r h := fun lsS H locs hS => by
  have hx0 : jR32 x := hS.2.2.2.1 _ List.mem_cons_self
  have hS' := jS_st hS (jokd hS.2.2.2.1)
  have ex : (Int32.ofInt x).toInt = x := jto32 hx0
  have k3 := jswl_at _ pc x d ls st n r h qs.toList k
  have hp : 0 ≤ (pc : Int) + Op.lookupswitch.offset qs.toList d x := by
    rcases joff_in x d qs.toList with h1 | ⟨q, h1, h2⟩
    · rw [h1]; exact h0
    · rw [h2]
      have := List.all_eq_true.mp hos q h1
      simpa using this
  exact lv_lookup (x := Int32.ofInt x) (off := Op.lookupswitch.offset qs.toList d x) (tgt := ((pc : Int) + Op.lookupswitch.offset qs.toList d x).toNat) C.1 C.2.1 hd hso (by rw [ex]) (by omega) (k3 lsS H locs hS')
end jrows2
end
section
/-! ===== ROWS: fields and arrays ===== -/
def jty (ci : Nat) : Nat → FieldType := match ci with
  | 0 => tyX0 | 1 => tyX1 | 2 => tyX2 | 3 => tyX3 | 4 => tyX4 | 5 => tyX5 | 6 => tyX6 | 7 => tyX7 | 8 => tyX8 | 9 => tyX9 | 10 => tyX10 | 11 => tyX11 | _ => tyX12
/-- class tables, decided -/
theorem jUW0 : vwCl.all (fun q => (u_ws q.1 q.2.1 q.2.2).all (fun w => decide (w ∈ lw_tbl) && goodWord w)) = true := by decide +kernel
theorem jUW {ci : Nat} {q : vw_C} (h : vwCl[ci]? = some q) : ∀ w ∈ u_ws q.1 q.2.1 q.2.2, w ∈ jG := fun w hw => by
  have h1 := List.all_eq_true.mp (List.all_eq_true.mp jUW0 q (List.mem_of_getElem? h)) w hw
  simp only [Bool.and_eq_true, decide_eq_true_eq] at h1
  exact List.mem_filter.mpr h1
theorem jTY0 : ∀ ci, ci < 13 → ∀ k, k < (vwCl.getD ci ("", TX0, 0)).2.2 → parseFieldDescriptor ((vwCl.getD ci ("", TX0, 0)).2.1 k).2.2.1 = some (jty ci k) ∧ (((jFT.getD ci []).getD k 0 = 1 ∧ jty ci k = .int) ∨ ((jFT.getD ci []).getD k 0 = 3 ∧ jty ci k = .boolean ∧ (jbF.getD ci []).getD k (-2147483648, 2147483647, 0) = (0, 1, 0)) ∨ ((jFT.getD ci []).getD k 0 = 4 ∧ (jty ci k).isReference = true)) := by decide +kernel
theorem jNM0 : ∀ ci, ci < 13 → ∀ a, a < (vwCl.getD ci ("", TX0, 0)).2.2 → ∀ b, b < (vwCl.getD ci ("", TX0, 0)).2.2 → a ≠ b → ((vwCl.getD ci ("", TX0, 0)).2.1 a).2.1 ≠ ((vwCl.getD ci ("", TX0, 0)).2.1 b).2.1 := by decide +kernel
theorem jci {ci : Nat} {q : vw_C} (h : vwCl[ci]? = some q) : ci < 13 ∧ vwCl.getD ci ("", TX0, 0) = q := ⟨(List.getElem?_eq_some_iff.mp h).1, by rw [List.getD_eq_getElem?_getD, h]; rfl⟩
theorem jTY {ci : Nat} {q : vw_C} (h : vwCl[ci]? = some q) {k : Nat} (hk : k < q.2.2) : parseFieldDescriptor (q.2.1 k).2.2.1 = some (jty ci k) ∧ (((jFT.getD ci []).getD k 0 = 1 ∧ jty ci k = .int) ∨ ((jFT.getD ci []).getD k 0 = 3 ∧ jty ci k = .boolean ∧ (jbF.getD ci []).getD k (-2147483648, 2147483647, 0) = (0, 1, 0)) ∨ ((jFT.getD ci []).getD k 0 = 4 ∧ (jty ci k).isReference = true)) := by
  obtain ⟨h1, h2⟩ := jci h
  have := jTY0 ci h1 k (by rw [h2]; exact hk)
  rw [h2] at this
  exact this
theorem jNM {ci : Nat} {q : vw_C} (h : vwCl[ci]? = some q) : ∀ a, a < q.2.2 → ∀ b, b < q.2.2 → a ≠ b → (q.2.1 a).2.1 ≠ (q.2.1 b).2.1 := by
  obtain ⟨h1, h2⟩ := jci h
  have := jNM0 ci h1
  rw [h2] at this
  exact this
theorem jk_nat {i : Int} (h : 0 ≤ i) : jk ((i.toNat : Nat) : Int) = jk i := by rw [Int.toNat_of_nonneg h]
theorem jtv_ref {E : JE} {i : Int} (h : 0 ≤ i) : jtv E (.inr (.inr (.inl i))) = .ref (jb0 E + i.toNat) := by
  have h1 : i ≠ -1 := by omega
  simp [jtv, jad, h, h1]
theorem jtv_ext {E : JE} {i : Int} (h : i < -1) : jtv E (.inr (.inr (.inl i))) = .ref (E.2.2.2.1 i) := by
  have h1 : i ≠ -1 := by omega
  have h2 : ¬ 0 ≤ i := by omega
  simp [jtv, jad, h1, h2]
theorem jHp_obj {E : JE} {n : Nat} {r h : JH} {H : Heap} (hH : jHp E n r h H) {i : Int} {ci : Nat} (h0 : 0 ≤ i) (h1 : i < n) (hk : jk i = (0, ci)) : ∃ q : vw_C, vwCl[ci]? = some q ∧ t_OB (jb0 E + i.toNat) (E.1.1 ci) q.2.2 (E.1.2 ci) H (fun k => jsv E ((jFT.getD ci []).getD k 0) (h i k) (r i k)) := by
  have h2 := (hH.2.2.1 i.toNat (by omega)).1
  rw [Int.toNat_of_nonneg h0, hk] at h2
  exact h2 rfl
theorem jHp_arr {E : JE} {n : Nat} {r h : JH} {H : Heap} (hH : jHp E n r h H) {i : Int} (h0 : 0 ≤ i) (h1 : i < n) (hk : (jk i).1 ≠ 0) : H[jb0 E + i.toNat]? = some (arrV (E.2.1 (jk i).1) (jk i).2 (fun j => jsv E (jk i).1 (h i j) (r i j))) := by
  have h2 := (hH.2.2.1 i.toNat (by omega)).2
  rw [Int.toNat_of_nonneg h0] at h2
  exact h2 hk
/-- a cell changed -/
theorem jHp_put {E : JE} {n : Nat} {r r' h h' : JH} {H H' : Heap} (hH : jHp E n r h H) {i : Nat} (hi : i < n) (hz : H'.size = H.size) (hq : ∀ q, q ≠ jb0 E + i → H'[q]? = H[q]?) (ho : jO E r' h' H' i) (hr : ∀ (j : Nat) (k : Int), j ≠ i → r' j k = r j k) (hh : ∀ (j : Nat) (k : Int), j ≠ i → h' j k = h j k) (hb : ∀ a b : Int, jbd a b (h' a b)) : jHp E n r' h' H' := by
  refine ⟨hz.trans hH.1, fun q hq' => (hq q (by omega)).trans (hH.2.1 q hq'), fun j hj => ?_, hb⟩
  by_cases e : j = i
  · subst e; exact ho
  · have h1 := hH.2.2.1 j hj
    have hq1 := hq (jb0 E + j) (by omega)
    have er : (fun k : Nat => r' j k) = fun k : Nat => r j k := funext fun k => hr j k e
    have eh : (fun k : Nat => h' j k) = fun k : Nat => h j k := funext fun k => hh j k e
    refine ⟨fun hk => ?_, fun hk => ?_⟩
    · obtain ⟨q, h2, h3⟩ := h1.1 hk
      refine ⟨q, h2, ?_⟩
      have h4 := h3.kept hq1
      exact h4.to (fun k hk => by rw [hr j k e, hh j k e])
    · rw [hq1, h1.2 hk]
      congr 2
      funext k
      rw [hr j k e, hh j k e]
theorem jup_bd {h : JH} (hb : ∀ a b : Int, jbd a b (h a b)) {i k x : Int} (hx : jbd i k x) : ∀ a b : Int, jbd a b (jup h i k x a b) := by
  intro a b
  unfold jup
  by_cases e : a = i ∧ b = k
  · rw [if_pos e, e.1, e.2]; exact hx
  · rw [if_neg e]; exact hb a b
theorem jup_ne {h : JH} {i k x : Int} {a b : Int} (e : ¬ (a = i ∧ b = k)) : jup h i k x a b = h a b := if_neg e
theorem jup_eq {h : JH} {i k x : Int} : jup h i k x i k = x := if_pos ⟨rfl, rfl⟩
theorem jbA_len : jbA.length = 229 := by decide +kernel
theorem jLY_len : jLY.length = 229 := by decide +kernel
theorem jbd_int {i k v : Int} (hk : (jk i).1 ≠ 2) (h : jbd i k v) : jR32 v := by
  have t1 : ∀ q ∈ jbF.flatten, -2147483648 ≤ q.1 ∧ q.2.1 ≤ 2147483647 ∧ -2147483648 ≤ q.2.2 ∧ q.2.2 ≤ 2147483647 := by decide +kernel
  have t2 : ∀ i, i < 229 → (jLY.getD i (9, 0)).1 ≠ 2 → -2147483648 ≤ (jbA.getD i (-2147483648, 2147483647, 0)).1 ∧ (jbA.getD i (-2147483648, 2147483647, 0)).2.1 ≤ 2147483647 ∧ -2147483648 ≤ (jbA.getD i (-2147483648, 2147483647, 0)).2.2 ∧ (jbA.getD i (-2147483648, 2147483647, 0)).2.2 ≤ 2147483647 := by decide +kernel
  have key : -2147483648 ≤ (jbp i k).1 ∧ (jbp i k).2.1 ≤ 2147483647 ∧ -2147483648 ≤ (jbp i k).2.2 ∧ (jbp i k).2.2 ≤ 2147483647 := by
    unfold jbp
    split
    · rename_i ci _
      rw [List.getD_eq_getElem?_getD]
      cases hq : (jbF.getD ci [])[k.toNat]? with
      | none => exact ⟨by decide, by decide, by decide, by decide⟩
      | some q =>
        refine t1 q (List.mem_flatten.mpr ⟨jbF.getD ci [], ?_, List.mem_of_getElem? hq⟩)
        rw [List.getD_eq_getElem?_getD]
        cases hc : jbF[ci]? with
        | none => rw [List.getD_eq_getElem?_getD, hc] at hq; simp at hq
        | some z => exact List.mem_of_getElem? hc
    · by_cases h224 : i = 224
      · rw [if_pos h224]
        unfold jbK
        repeat' split
        all_goals exact ⟨by decide, by decide, by decide, by decide⟩
      rw [if_neg h224]
      by_cases hi : i.toNat < 229
      · exact t2 i.toNat hi hk
      · have e : jbA.getD i.toNat (-2147483648, 2147483647, 0) = (-2147483648, 2147483647, 0) := by
          rw [List.getD_eq_getElem?_getD, List.getElem?_eq_none (by rw [jbA_len]; omega)]
          rfl
        rw [e]
        exact ⟨by decide, by decide, by decide, by decide⟩
  unfold jbd at h
  unfold jR32
  omega
theorem jbd_long {i k v : Int} (hk : (jk i).1 = 2) (h : jbd i k v) : jR64 v := by
  have t2 : ∀ i, i < 229 → (jLY.getD i (9, 0)).1 = 2 → jbA.getD i (-2147483648, 2147483647, 0) = (-9223372036854775808, 9223372036854775807, 0) := by decide +kernel
  have hi : i.toNat < 229 := by
    rcases Nat.lt_or_ge i.toNat 229 with q | q
    · exact q
    · have : jk i = (9, 0) := by
        unfold jk
        rw [List.getD_eq_getElem?_getD, List.getElem?_eq_none (by rw [jLY_len]; omega)]
        rfl
      rw [this] at hk
      cases hk
  have e : jbp i k = (-9223372036854775808, 9223372036854775807, 0) := by
    unfold jbp
    split
    · rename_i ci hc
      rw [hc] at hk
      cases hk
    · by_cases h224 : i = 224
      · subst h224
        exact absurd hk (by decide +kernel)
      · rw [if_neg h224]
        exact t2 i.toNat hi hk
  unfold jbd at h
  rw [e] at h
  dsimp only at h
  unfold jR64
  omega
theorem jbd_bool {i k v : Int} {ci : Nat} (hk : jk i = (0, ci)) (hb : (jbF.getD ci []).getD k.toNat (-2147483648, 2147483647, 0) = (0, 1, 0)) (h : jbd i k v) : v = 0 ∨ v = 1 := by
  have e : jbp i k = (0, 1, 0) := by
    unfold jbp
    rw [hk]
    exact hb
  unfold jbd at h
  rw [e] at h
  dsimp only at h
  omega
theorem jbd_zarr {i k v : Int} (hk : (jk i).1 = 3) (h : jbd i k v) : v = 0 ∨ v = 1 := by
  have t2 : ∀ i, i < 229 → (jLY.getD i (9, 0)).1 = 3 → jbA.getD i (-2147483648, 2147483647, 0) = (0, 1, 0) := by decide +kernel
  have hi : i.toNat < 229 := by
    rcases Nat.lt_or_ge i.toNat 229 with q | q
    · exact q
    · have : jk i = (9, 0) := by
        unfold jk
        rw [List.getD_eq_getElem?_getD, List.getElem?_eq_none (by rw [jLY_len]; omega)]
        rfl
      rw [this] at hk
      cases hk
  have e : jbp i k = (0, 1, 0) := by
    unfold jbp
    split
    · rename_i ci hc
      rw [hc] at hk
      cases hk
    · by_cases h224 : i = 224
      · subst h224
        exact absurd hk (by decide +kernel)
      · rw [if_neg h224]
        exact t2 i.toNat hi hk
  unfold jbd at h
  rw [e] at h
  dsimp only at h
  omega
end
section
/-- the methods' words, decided: code; static or instance; selects; initialized; names -/
def jmw (a : Nat) : Bool := jcw (jMP.getD a (0, 0, 0, 0)).1 (.code (jM a).1 (jM a).2.1 (jM a).2.2.1 (jM a).2.2.2.1) && jcw (jMP.getD a (0, 0, 0, 0)).2.2.2 (.initialized (jM a).1.cls) && decide ((jM a).1.cls ≠ "java/lang/invoke/MethodHandle" ∧ (jM a).1.cls ≠ "java/lang/invoke/VarHandle") &&
  (!decide (jMS[a]? = some true) || jcw (jMP.getD a (0, 0, 0, 0)).2.1 (.static (jM a).1)) && (!decide (jMS[a]? = some false) || (jcw (jMP.getD a (0, 0, 0, 0)).2.1 (.instanceMethod (jM a).1) && (decide ((jMP.getD a (0, 0, 0, 0)).2.2.1 = 9999) || jcw (jMP.getD a (0, 0, 0, 0)).2.2.1 (.selects (jM a).1.cls (jM a).1 (jM a).1))))
theorem jmw_0 : ∀ a, a < 12 → jmw (0 + a) = true := by decide +kernel
theorem jmw_12 : ∀ a, a < 12 → jmw (12 + a) = true := by decide +kernel
theorem jmw_24 : ∀ a, a < 12 → jmw (24 + a) = true := by decide +kernel
theorem jmw_36 : ∀ a, a < 12 → jmw (36 + a) = true := by decide +kernel
theorem jmw_48 : ∀ a, a < 12 → jmw (48 + a) = true := by decide +kernel
theorem jmw_60 : ∀ a, a < 12 → jmw (60 + a) = true := by decide +kernel
theorem jmw_72 : ∀ a, a < 12 → jmw (72 + a) = true := by decide +kernel
theorem jmw_84 : ∀ a, a < 12 → jmw (84 + a) = true := by decide +kernel
theorem jmw_96 : ∀ a, a < 12 → jmw (96 + a) = true := by decide +kernel
theorem jmw_108 : ∀ a, a < 12 → jmw (108 + a) = true := by decide +kernel
theorem jmw_120 : ∀ a, a < 12 → jmw (120 + a) = true := by decide +kernel
theorem jmw_132 : ∀ a, a < 12 → jmw (132 + a) = true := by decide +kernel
theorem jmw_144 : ∀ a, a < 12 → jmw (144 + a) = true := by decide +kernel
theorem jmw_156 : ∀ a, a < 12 → jmw (156 + a) = true := by decide +kernel
theorem jmw_168 : ∀ a, a < 11 → jmw (168 + a) = true := by decide +kernel
theorem jmw_all {a : Nat} (h : a < 179) : jmw a = true := by
  rcases Nat.lt_or_ge a 12 with q | q
  · have := jmw_0 (a - 0) (by omega)
    rwa [show 0 + (a - 0) = a by omega] at this
  rcases Nat.lt_or_ge a 24 with q | q
  · have := jmw_12 (a - 12) (by omega)
    rwa [show 12 + (a - 12) = a by omega] at this
  rcases Nat.lt_or_ge a 36 with q | q
  · have := jmw_24 (a - 24) (by omega)
    rwa [show 24 + (a - 24) = a by omega] at this
  rcases Nat.lt_or_ge a 48 with q | q
  · have := jmw_36 (a - 36) (by omega)
    rwa [show 36 + (a - 36) = a by omega] at this
  rcases Nat.lt_or_ge a 60 with q | q
  · have := jmw_48 (a - 48) (by omega)
    rwa [show 48 + (a - 48) = a by omega] at this
  rcases Nat.lt_or_ge a 72 with q | q
  · have := jmw_60 (a - 60) (by omega)
    rwa [show 60 + (a - 60) = a by omega] at this
  rcases Nat.lt_or_ge a 84 with q | q
  · have := jmw_72 (a - 72) (by omega)
    rwa [show 72 + (a - 72) = a by omega] at this
  rcases Nat.lt_or_ge a 96 with q | q
  · have := jmw_84 (a - 84) (by omega)
    rwa [show 84 + (a - 84) = a by omega] at this
  rcases Nat.lt_or_ge a 108 with q | q
  · have := jmw_96 (a - 96) (by omega)
    rwa [show 96 + (a - 96) = a by omega] at this
  rcases Nat.lt_or_ge a 120 with q | q
  · have := jmw_108 (a - 108) (by omega)
    rwa [show 108 + (a - 108) = a by omega] at this
  rcases Nat.lt_or_ge a 132 with q | q
  · have := jmw_120 (a - 120) (by omega)
    rwa [show 120 + (a - 120) = a by omega] at this
  rcases Nat.lt_or_ge a 144 with q | q
  · have := jmw_132 (a - 132) (by omega)
    rwa [show 132 + (a - 132) = a by omega] at this
  rcases Nat.lt_or_ge a 156 with q | q
  · have := jmw_144 (a - 144) (by omega)
    rwa [show 144 + (a - 144) = a by omega] at this
  rcases Nat.lt_or_ge a 168 with q | q
  · have := jmw_156 (a - 156) (by omega)
    rwa [show 156 + (a - 156) = a by omega] at this
  have := jmw_168 (a - 168) (by omega)
  rwa [show 168 + (a - 168) = a by omega] at this
end
section
section jheap
variable {E : JE} {p : Program} {l : Launch} {e : Env} {R : Room} {s : State} {m : MethodId} {args : Array Value} {below : List Frame} {meth : Method} {c : Code} {Q : State → Prop} {mm n0 n1 : Nat} {pc : Nat} {ls st : List JV} {n : Nat} {r h : JH}
/-- a field's place at the machine -/
theorem jfd (C : jAt E p R s m args meth c mm n0 n1) {ci : Nat} {q : vw_C} (hq : vwCl[ci]? = some q) {k : Nat} (hk : k < q.2.2) : ∃ (cf : ClassId) (kf : Class) (fi : Nat) (f : Field), s.fieldFound? (q.2.1 k).1 (q.2.1 k).2.1 (q.2.1 k).2.2.1 = some (cf, kf, fi, f) ∧ f.slot = E.1.2 ci k ∧ f.isStatic = false := by
  obtain ⟨hS, hfc, kC, hkC, hkind⟩ := C.2.2.2.2.2.1.1.1 ci q hq
  obtain ⟨cf, kf, fi, f, hi, hsl⟩ := hS k hk
  exact ⟨cf, kf, fi, f, hi, hsl, (u_facts hfc hkC (u_lays C.2.2.2.2.1 (jUW hq) hk) hi).1⟩
theorem js_getf (C : jAt E p R s m args meth c mm n0 n1) {i b : Int} {a t pp idx : Nat} {T : u_T} {CN : String} {N : Nat} (hc : vwCl[a]? = some (CN, T, N)) (hb : 0 ≤ b ∧ b.toNat < N ∧ t = (jFT.getD a []).getD b.toNat 0) (hw : jcw pp (.fieldLink (jM mm).1.cls idx (T b.toNat).1 (T b.toNat).2.1 (T b.toNat).2.2.1) = true)
    (hd : decode (jM mm).2.1 pc = .ok (.getfield idx, 3)) (h0 : 0 ≤ i) (h1 : i < n) (hk : jk i = (0, a)) {v : JV} (hv : (t = 4 → v = .inr (.inr (.inl (r i b)))) ∧ (t ≠ 4 → v = .inl (h i b))) (k : jWj E p l e R s m args below meth c Q mm n0 n1 (pc + 3) ls (v :: st) n r h) : jWj E p l e R s m args below meth c Q mm n0 n1 pc ls (.inr (.inr (.inl i)) :: st) n r h := fun lsS H locs hS => by
  obtain ⟨q, hq, cell, c1, c2, c3, c4⟩ := jHp_obj hS.2.2.2.2.1 h0 h1 hk
  have hq2 : q = (CN, T, N) := Option.some.inj (hq.symm.trans hc)
  subst hq2
  obtain ⟨cf, kf, fi, f, hi, hsl, hst⟩ := jfd C hc hb.2.1
  have hbe : ((b.toNat : Nat) : Int) = b := Int.toNat_of_nonneg hb.1
  have c5 := c4 b.toNat hb.2.1
  dsimp only at c5
  rw [hbe, ← hb.2.2] at c5
  have hty := (jTY hc hb.2.1).2
  rw [← hb.2.2] at hty
  have hval : jsv E t (h i b) (r i b) = jtv E v := by
    by_cases ht : t = 4
    · rw [hv.1 ht]; simp [jsv, ht]
    · rw [hv.2 ht]
      have ht2 : t = 1 ∨ t = 3 := by omega
      rcases ht2 with rfl | rfl <;> rfl
  have hok : jok v := by
    by_cases ht : t = 4
    · rw [hv.1 ht]; exact trivial
    · rw [hv.2 ht]; exact jbd_int (by rw [hk]; exact fun q => by cases q) (hS.2.2.2.2.1.2.2.2 i b)
  rw [hval, ← hsl] at c5
  rw [List.map_cons, jtv_ref h0]
  refine W.getf C.1 C.2.1 C.2.2.2.1 (C.2.2.2.2.1 _ (jG_of hw)) hi hst c1 (by rw [c3]; exact fun h => by cases h) c5 rfl rfl hd ?_
  exact k lsS H locs (jS_st hS (jokc (jokd hS.2.2.2.1) hok))
theorem jo_obj {E : JE} {r h : JH} {H : Heap} {i : Int} {ci : Nat} {q : vw_C} (h0 : 0 ≤ i) (hk : jk i = (0, ci)) (hq : vwCl[ci]? = some q) (ho : t_OB (jb0 E + i.toNat) (E.1.1 ci) q.2.2 (E.1.2 ci) H (fun k => jsv E ((jFT.getD ci []).getD k 0) (h i k) (r i k))) : jO E r h H i.toNat := by
  unfold jO
  rw [Int.toNat_of_nonneg h0, hk]
  exact ⟨fun _ => ⟨q, hq, ho⟩, fun h => absurd rfl h⟩
theorem jo_arr {E : JE} {r h : JH} {H : Heap} {i : Int} (h0 : 0 ≤ i) (hk : (jk i).1 ≠ 0) (ho : H[jb0 E + i.toNat]? = some (arrV (E.2.1 (jk i).1) (jk i).2 (fun j => jsv E (jk i).1 (h i j) (r i j)))) : jO E r h H i.toNat := by
  unfold jO
  rw [Int.toNat_of_nonneg h0]
  exact ⟨fun h => absurd h hk, fun _ => ho⟩
theorem jS_put {lsS : Array Slot} {H H' : Heap} {locs : List Loc} {st' : List JV} {r' h' : JH} {i k : Nat} (hS : jS E mm n0 n1 lsS H locs ls st n r h) (hs : ∀ v ∈ st', jok v) (hH : jHp E n r' h' H') : jS E mm n0 n1 lsS H' (locs ++ [⟨jb0 E + i, k⟩]) ls st' n r' h' :=
  ⟨hS.1, hS.2.1, hS.2.2.1, hs, hH, fun q hq => by
    rcases List.mem_append.mp hq with g | g
    · exact hS.2.2.2.2.2.1 q g
    · rw [List.mem_singleton.mp g]; exact Nat.le_add_right _ _, hS.2.2.2.2.2.2⟩
theorem jsv_up {E : JE} {h r : JH} {i b x : Int} {ci k : Nat} {t : Nat} (hb : 0 ≤ b) (ht : t = (jFT.getD ci []).getD b.toNat 0) (ht4 : t = 1 ∨ t = 3) : updV (fun k : Nat => jsv E ((jFT.getD ci []).getD k 0) (h i k) (r i k)) b.toNat (.int (Int32.ofInt x)) k = jsv E ((jFT.getD ci []).getD k 0) (jup h i b x i k) (r i k) := by
  unfold updV
  by_cases e : k = b.toNat
  · subst e
    have hbe : ((b.toNat : Nat) : Int) = b := Int.toNat_of_nonneg hb
    rw [if_pos rfl, hbe, jup_eq, ← ht]
    rcases ht4 with rfl | rfl <;> rfl
  · rw [if_neg e, jup_ne (fun q => e (by omega))]
theorem js_putf (C : jAt E p R s m args meth c mm n0 n1) {i b x : Int} {a t pp idx : Nat} {T : u_T} {CN : String} {N : Nat} (hc : vwCl[a]? = some (CN, T, N)) (hb : 0 ≤ b ∧ b.toNat < N ∧ t = (jFT.getD a []).getD b.toNat 0) (hw : jcw pp (.fieldLink (jM mm).1.cls idx (T b.toNat).1 (T b.toNat).2.1 (T b.toNat).2.2.1) = true) (hf : t ≠ 4 ∧ (T b.toNat).2.2.2 = false)
    (hd : decode (jM mm).2.1 pc = .ok (.putfield idx, 3)) (h0 : 0 ≤ i) (h1 : i < n) (hk : jk i = (0, a)) (hx : jR32 x → jbd i b x) (k : jWj E p l e R s m args below meth c Q mm n0 n1 (pc + 3) ls st n r (jup h i b x)) : jWj E p l e R s m args below meth c Q mm n0 n1 pc ls (.inl x :: .inr (.inr (.inl i)) :: st) n r h := fun lsS H locs hS => by
  have hx := hx (hS.2.2.2.1 _ List.mem_cons_self)
  obtain ⟨q, hq, cell, c1, c2, c3, c4⟩ := jHp_obj hS.2.2.2.2.1 h0 h1 hk
  have hq2 : q = (CN, T, N) := Option.some.inj (hq.symm.trans hc)
  subst hq2
  obtain ⟨hSl, hfc, kC, hkC, hkind⟩ := C.2.2.2.2.2.1.1.1 a _ hc
  obtain ⟨cf, kf, fi, f, hi, hsl⟩ := hSl b.toNat hb.2.1
  have hst := (u_facts hfc hkC (u_lays C.2.2.2.2.1 (jUW hc) hb.2.1) hi).1
  have hlay := C.2.2.2.2.1 _ (jUW hc _ (u_in_lay hb.2.1))
  unfold u_lay at hlay
  rw [if_neg (by rw [show ((CN, T, N) : vw_C).2.1 = T from rfl, hf.2]; decide)] at hlay
  have hty := (jTY hc hb.2.1)
  have hcs := hty.2
  rw [← hb.2.2] at hcs
  have ht4 : t = 1 ∨ t = 3 := by have := hf.1; omega
  have hnf : narrow (jty a b.toNat) (.int (Int32.ofInt x)) = .int (Int32.ofInt x) ∧ fits (jty a b.toNat) (.int (Int32.ofInt x)) = true := by
    rcases hcs with ⟨g1, g2⟩ | ⟨g1, g2, g3⟩ | ⟨g1, g2⟩
    · rw [g2]; exact ⟨rfl, rfl⟩
    · rw [g2]
      rcases jbd_bool hk g3 hx with rfl | rfl
      · exact ⟨by decide, by decide⟩
      · exact ⟨by decide, by decide⟩
    · exact absurd g1 hf.1
  have h6 := u_store hfc hkC hkind hlay hi hty.1 hnf.1 hnf.2
  have hap := va_apart (own := (jM mm).1.cls) C.2.2.2.2.1 (jUW hc) (jty a) (fun k hk => (jTY hc hk).1) (jNM hc) C.2.2.2.2.2.1.1 hc
  rw [List.map_cons, List.map_cons, jtv_ref h0]
  refine W.putK C.1 C.2.1 (f := f) ⟨C.2.2.2.1, C.2.2.2.2.1 _ (jG_of hw), ⟨_, _, _, hi⟩, hst⟩ (by rw [c2]; exact h6) c1 c3 (by rw [hsl]; exact k2_hasslot (c4 b.toNat hb.2.1)) rfl rfl hd fun H' e1 e2 e3 => ?_
  rw [hsl] at e1 ⊢
  refine k lsS H' _ (jS_put hS (jokd (jokd hS.2.2.2.1)) ?_)
  refine jHp_put hS.2.2.2.2.1 (i := i.toNat) (by omega) e2 e3 (jo_obj h0 hk hc (t_OB.to ⟨_, e1, c2, c3, t_set c4 hap hb.2.1 _⟩ (fun k _ => jsv_up hb.1 hb.2.2 ht4))) (fun _ _ _ => rfl) (fun j k hj => jup_ne (fun q => hj (by omega))) (jup_bd hS.2.2.2.2.1.2.2.2 hx)
theorem jsv_upr {E : JE} {h r : JH} {i b v : Int} {ci k : Nat} (hb : 0 ≤ b) (ht : 4 = (jFT.getD ci []).getD b.toNat 0) : updV (fun k : Nat => jsv E ((jFT.getD ci []).getD k 0) (h i k) (r i k)) b.toNat (jtv E (.inr (.inr (.inl v)))) k = jsv E ((jFT.getD ci []).getD k 0) (h i k) (jup r i b v i k) := by
  unfold updV
  by_cases e : k = b.toNat
  · subst e
    have hbe : ((b.toNat : Nat) : Int) = b := Int.toNat_of_nonneg hb
    rw [if_pos rfl, hbe, jup_eq, ← ht]
    rfl
  · rw [if_neg e, jup_ne (fun q => e (by omega))]
theorem js_putr (C : jAt E p R s m args meth c mm n0 n1) {i b v : Int} {a pp idx : Nat} {T : u_T} {CN : String} {N : Nat} (hc : vwCl[a]? = some (CN, T, N)) (hb : 0 ≤ b ∧ b.toNat < N ∧ 4 = (jFT.getD a []).getD b.toNat 0) (hw : jcw pp (.fieldLink (jM mm).1.cls idx (T b.toNat).1 (T b.toNat).2.1 (T b.toNat).2.2.1) = true) (hf : (T b.toNat).2.2.2 = true ∧ (jM mm).1.name = "<init>" ∧ (T b.toNat).1 = (jM mm).1.cls)
    (hd : decode (jM mm).2.1 pc = .ok (.putfield idx, 3)) (h0 : 0 ≤ i) (h1 : i < n) (hk : jk i = (0, a)) (hv : 0 ≤ v) (k : jWj E p l e R s m args below meth c Q mm n0 n1 (pc + 3) ls st n (jup r i b v) h) : jWj E p l e R s m args below meth c Q mm n0 n1 pc ls (.inr (.inr (.inl v)) :: .inr (.inr (.inl i)) :: st) n r h := fun lsS H locs hS => by
  obtain ⟨q, hq, cell, c1, c2, c3, c4⟩ := jHp_obj hS.2.2.2.2.1 h0 h1 hk
  have hq2 : q = (CN, T, N) := Option.some.inj (hq.symm.trans hc)
  subst hq2
  obtain ⟨hSl, hfc, kC, hkC, hkind⟩ := C.2.2.2.2.2.1.1.1 a _ hc
  obtain ⟨cf, kf, fi, f, hi, hsl⟩ := hSl b.toNat hb.2.1
  have hst := (u_facts hfc hkC (u_lays C.2.2.2.2.1 (jUW hc) hb.2.1) hi).1
  have hlay := u_lays C.2.2.2.2.1 (jUW hc) hb.2.1
  have hty := (jTY hc hb.2.1)
  have hcs := hty.2
  rw [← hb.2.2] at hcs
  have href : (jty a b.toNat).isReference = true := by
    rcases hcs with ⟨g1, g2⟩ | ⟨g1, g2, g3⟩ | ⟨g1, g2⟩
    · cases g1
    · cases g1
    · exact g2
  have hnf : narrow (jty a b.toNat) (.ref (jb0 E + v.toNat)) = .ref (jb0 E + v.toNat) ∧ fits (jty a b.toNat) (.ref (jb0 E + v.toNat)) = true := by
    cases hj : jty a b.toNat <;> rw [hj] at href <;> first | exact ⟨rfl, rfl⟩ | cases href
  have h6 := u_fits hfc hkC hkind hlay hi hty.1 hnf.1 hnf.2
  have hap := va_apart (own := (jM mm).1.cls) C.2.2.2.2.1 (jUW hc) (jty a) (fun k hk => (jTY hc hk).1) (jNM hc) C.2.2.2.2.2.1.1 hc
  have hcf : m.cls = cf := by
    have hlay2 := C.2.2.2.2.1 _ (jUW hc _ (u_in_lay hb.2.1))
    unfold u_lay at hlay2
    rw [if_pos hf.1] at hlay2
    obtain ⟨_, _, c', _, _, _, -, -, hf', -, -, -, hown2, -⟩ := Cond.laysFinal_spec hlay2
    have e1 : c' = cf := by have := hi.symm.trans hf'; simp at this; exact this.1.symm
    rw [show (((CN, T, N) : vw_C).2.1 b.toNat).1 = (jM mm).1.cls from hf.2.2] at hown2
    rw [← e1]; exact Option.some.inj (C.2.2.2.1.symm.trans hown2)
  rw [List.map_cons, List.map_cons, jtv_ref h0, jtv_ref hv]
  refine W.putFinK C.1 C.2.1 C.2.2.2.1 (C.2.2.2.2.1 _ (jG_of hw)) hi hst hcf (C.2.2.2.2.2.2.2.2.2.2.trans hf.2.1) (by rw [c2]; exact h6) c1 c3 (by rw [hsl]; exact k2_hasslot (c4 b.toNat hb.2.1)) rfl rfl hd fun H' e1 e2 e3 => ?_
  rw [hsl] at e1 ⊢
  refine k lsS H' _ (jS_put hS (jokd (jokd hS.2.2.2.1)) ?_)
  refine jHp_put hS.2.2.2.2.1 (i := i.toNat) (by omega) e2 e3 (jo_obj h0 hk hc (t_OB.to ⟨_, e1, c2, c3, t_set c4 hap hb.2.1 _⟩ (fun k _ => by rw [← jtv_ref hv]; exact jsv_upr hb.1 hb.2.2))) (fun j k hj => jup_ne (fun q => hj (by omega))) (fun _ _ _ => rfl) hS.2.2.2.2.1.2.2.2
end jheap
end
section
/-! ===== ROWS: arrays, static rows, the script ===== -/
section jarr
variable {E : JE} {p : Program} {l : Launch} {e : Env} {R : Room} {s : State} {m : MethodId} {args : Array Value} {below : List Frame} {meth : Method} {c : Code} {Q : State → Prop} {mm n0 n1 : Nat} {pc : Nat} {ls st : List JV} {n : Nat} {r h : JH}
theorem jao1 (C : jAt E p R s m args meth c mm n0 n1) (N : Nat) (z : Nat → Value) : s.isArrayOf (arrV (E.2.1 1) N z) .int := (C.2.2.2.2.2.1.1.2 0 _ rfl).1 N z
theorem jao2 (C : jAt E p R s m args meth c mm n0 n1) (N : Nat) (z : Nat → Value) : s.isArrayOf (arrV (E.2.1 2) N z) .long := (C.2.2.2.2.2.1.1.2 1 _ rfl).1 N z
theorem jao3 (C : jAt E p R s m args meth c mm n0 n1) (N : Nat) (z : Nat → Value) : s.isArrayOf (arrV (E.2.1 3) N z) .boolean := (C.2.2.2.2.2.1.1.2 2 _ rfl).1 N z
theorem jao4 (C : jAt E p R s m args meth c mm n0 n1) (N : Nat) (z : Nat → Value) : s.isArrayOf (arrV (E.2.1 4) N z) (.object "ArsenalRow$Hull") := (C.2.2.2.2.2.1.1.2 3 _ rfl).1 N z
theorem jao5 (C : jAt E p R s m args meth c mm n0 n1) (N : Nat) (z : Nat → Value) : s.isArrayOf (arrV (E.2.1 5) N z) (.array .int) := (C.2.2.2.2.2.1.1.2 4 _ rfl).1 N z
theorem jin {k : Int} {N : Nat} (h0 : 0 ≤ k) (hr : jR32 k) (h1 : k < N) (cA : ClassId) (z : Nat → Value) : ¬ (Int32.ofInt k < 0 ∨ (arrV cA N z).slots.size ≤ (Int32.ofInt k).toNatClampNeg) := by
  rw [arrV_size, jclamp h0 hr]
  rintro (q | q)
  · have := (jlt32 (y := 0) hr ⟨by omega, by omega⟩).mp q
    omega
  · omega
theorem jrd {k : Int} {N : Nat} (h0 : 0 ≤ k) (hr : jR32 k) (h1 : k < N) (cA : ClassId) (z : Nat → Value) : (arrV cA N z).slots[(Int32.ofInt k).toNatClampNeg]? = some (z k.toNat) := by
  rw [jclamp h0 hr]
  exact arrV_read cA z (by omega)
theorem jT_at {ty : FieldType} {t N : Nat} {f : Nat → Value} {U : State} {H : Heap} (hH : jHp E n r h H) (hT : va_T ty t N f (jA E) U E.2.2.1) : ∃ cell : Cell, H[t]? = some cell ∧ U.isArrayOf cell ty ∧ cell.vm ≠ .unknown ∧ N ≤ cell.slots.size ∧ cell.slots.size.toInt32 = Int32.ofNat N ∧ ∀ j : Nat, j < N → cell.slots[j]? = some (f j) := by
  obtain ⟨cell, h1, h2, h3, h4, h5, h6, h7⟩ := hT
  exact ⟨cell, by rw [hH.2.1 t (by unfold jA at h7; omega)]; exact h1, h2, h3, h4, h5, h6⟩
theorem jX_at {b L : Nat} {xs : Nat → Int32} {U : State} {H : Heap} (hH : jHp E n r h H) (hX : va_X b L xs U E.2.2.1) : va_X b L xs U H := by
  obtain ⟨cell, h1, h2⟩ := hX
  exact ⟨cell, by rw [hH.2.1 b (Array.getElem?_eq_some_iff.mp h1).1]; exact h1, h2⟩
theorem jst_at {i : Int} (hi : i < -2) (hk : jxk i ≠ 0) : ∃ C n d t xs, jST[(-3 - i).toNat]? = some (C, n, d, t, xs) ∧ jxk i = t ∧ (∀ E, jxl E i = xs.length) ∧ (∀ E k, jxv E i k = xs.getD k.toNat 0) ∧ -3 - (((-3 - i).toNat : Nat) : Int) = i := by
  have h2 : ¬ i = -2 := by omega
  cases hs : jST[(-3 - i).toNat]? with
  | none => exact absurd (by simp [jxk, h2, List.getD_eq_getElem?_getD, hs]) hk
  | some q =>
    obtain ⟨C, n, d, t, xs⟩ := q
    exact ⟨C, n, d, t, xs, rfl, by simp [jxk, h2, List.getD_eq_getElem?_getD, hs], fun E => by simp [jxl, h2, List.getD_eq_getElem?_getD, hs], fun E k => by simp only [jxv, if_neg h2, List.getD_eq_getElem?_getD, hs]; rfl, by omega⟩
theorem jst_vals : ∀ q ∈ jST, (q.2.2.2.1 = 1 ∧ (∀ x ∈ q.2.2.2.2, -2147483648 ≤ x ∧ x ≤ 2147483647)) ∨ (q.2.2.2.1 = 2 ∧ (∀ x ∈ q.2.2.2.2, -9223372036854775808 ≤ x ∧ x ≤ 9223372036854775807)) := by decide +kernel
theorem jgetD_in {xs : List Int} {P : Int → Prop} (h : ∀ x ∈ xs, P x) (h0 : P 0) (j : Nat) : P (xs.getD j 0) := by
  rw [List.getD_eq_getElem?_getD]
  cases hj : xs[j]? with
  | none => exact h0
  | some x => exact h x (List.mem_of_getElem? hj)
/-- iaload -/
theorem js_iald (C : jAt E p R s m args meth c mm n0 n1) {i k : Int} (hd : decode (jM mm).2.1 pc = .ok (.iaload, 1)) (K : jald E 1 (jWj E p l e R s m args below meth c Q mm n0 n1 (pc + 1)) ls (.inl k :: .inr (.inr (.inl i)) :: st) n r h) : jWj E p l e R s m args below meth c Q mm n0 n1 pc ls (.inl k :: .inr (.inr (.inl i)) :: st) n r h := fun lsS H locs hS => by
  have hk0 : jR32 k := hS.2.2.2.1 _ List.mem_cons_self
  have hH := hS.2.2.2.2.1
  obtain ⟨K1, K2⟩ := K
  rcases Int.lt_or_le i 0 with hi | hi
  · obtain ⟨g1, g2, g3, g4, g5⟩ := K2 hi
    have hnx : jok (.inl (jxv E i k)) := by
      by_cases h2 : i = -2
      · subst h2; exact C.2.2.2.2.2.1.2.2.2.2.2.2.2.1 _
      · obtain ⟨CN, nn, d, t, xs, f1, f2, f3, f4, f5⟩ := jst_at (i := i) (by omega) (by omega)
        show jR32 _
        rw [f4]
        rcases jst_vals _ (List.mem_of_getElem? f1) with ⟨q1, q2⟩ | ⟨q1, q2⟩
        · exact jgetD_in q2 ⟨by decide, by decide⟩ _
        · have : t = 2 := q1
          omega
    have h2 := g5 lsS H locs (jS_st hS (jok2 hS.2.2.2.1 hnx))
    rw [List.map_cons, List.map_cons, jtv_ext (by omega)]
    by_cases h2i : i = -2
    · subst h2i
      obtain ⟨scr, x1, x2, x3, x4, x5⟩ := jX_at hH C.2.2.2.2.2.1.2.2.2.2.2.2.1
      have hl : jxl E (-2) = E.2.2.2.2.1 := by simp [jxl]
      have hlt : k.toNat < E.2.2.2.2.1 := by omega
      exact W.iald (v := jtv E (.inl (jxv E (-2) k))) C.1 C.2.1 x1 x2 x3 (by
        rw [x4, jclamp g3 hk0]
        rintro (q | q)
        · have := (jlt32 (y := 0) hk0 ⟨by omega, by omega⟩).mp q
          omega
        · omega) (by rw [jclamp g3 hk0, x5 _ hlt]; simp [jtv, jxv]) rfl rfl hd h2
    · obtain ⟨CN, nn, d, t, xs, f1, f2, f3, f4, f5⟩ := jst_at (i := i) (by omega) (by omega)
      have ht1 : t = 1 := by omega
      subst ht1
      obtain ⟨-, hT⟩ := C.2.2.2.2.2.1.2.2.2.2.2.1 _ _ _ _ _ _ f1
      rw [f5] at hT
      obtain ⟨cell, t1, t2, t3, t4, t5, t6⟩ := jT_at hH hT
      have hl := f3 E
      have hlt : k.toNat < xs.length := by omega
      exact W.iald (v := jtv E (.inl (jxv E i k))) C.1 C.2.1 t1 t2 t3 (by
        rw [jclamp g3 hk0]
        rintro (q | q)
        · have := (jlt32 (y := 0) hk0 ⟨by omega, by omega⟩).mp q
          omega
        · omega) (by rw [jclamp g3 hk0, t6 _ hlt, f4]; rfl) rfl rfl hd h2
  · obtain ⟨g1, g2, g3, g4, g5⟩ := K1 hi
    have hbd := hH.2.2.2 i k
    have h2 := g5 hbd lsS H locs (jS_st hS (jok2 hS.2.2.2.1 (jbd_int (by omega) hbd)))
    have ha := jHp_arr hH hi g1 (by omega)
    rw [g2] at ha
    rw [List.map_cons, List.map_cons, jtv_ref hi]
    exact W.iald (v := jtv E (.inl (h i k))) C.1 C.2.1 ha (jao1 C _ _) (fun q => by cases q) (jin g3 hk0 g4 _ _) (by rw [jrd g3 hk0 g4, Int.toNat_of_nonneg g3]; rfl) rfl rfl hd h2
/-- laload -/
theorem js_lald (C : jAt E p R s m args meth c mm n0 n1) {i k : Int} (hd : decode (jM mm).2.1 pc = .ok (.laload, 1)) (K : jald E 2 (jWj E p l e R s m args below meth c Q mm n0 n1 (pc + 1)) ls (.inl k :: .inr (.inr (.inl i)) :: st) n r h) : jWj E p l e R s m args below meth c Q mm n0 n1 pc ls (.inl k :: .inr (.inr (.inl i)) :: st) n r h := fun lsS H locs hS => by
  have hk0 : jR32 k := hS.2.2.2.1 _ List.mem_cons_self
  have hH := hS.2.2.2.2.1
  obtain ⟨K1, K2⟩ := K
  rcases Int.lt_or_le i 0 with hi | hi
  · obtain ⟨g1, g2, g3, g4, g5⟩ := K2 hi
    have h2i : i ≠ -2 := fun q => by subst q; simp [jxk] at g2
    obtain ⟨CN, nn, d, t, xs, f1, f2, f3, f4, f5⟩ := jst_at (i := i) (by omega) (by omega)
    have hnx : jok (.inr (.inl (jxv E i k))) := by
      show jR64 _
      rw [f4]
      rcases jst_vals _ (List.mem_of_getElem? f1) with ⟨q1, q2⟩ | ⟨q1, q2⟩
      · have : t = 1 := q1
        omega
      · exact jgetD_in q2 ⟨by decide, by decide⟩ _
    have h2 := g5 lsS H locs (jS_st hS (jok2 hS.2.2.2.1 hnx))
    rw [List.map_cons, List.map_cons, jtv_ext (by omega)]
    have ht1 : t = 2 := by omega
    subst ht1
    obtain ⟨-, hT⟩ := C.2.2.2.2.2.1.2.2.2.2.2.1 _ _ _ _ _ _ f1
    rw [f5] at hT
    obtain ⟨cell, t1, t2, t3, t4, t5, t6⟩ := jT_at hH hT
    have hl := f3 E
    have hlt : k.toNat < xs.length := by omega
    exact W.lald (v := jtv E (.inr (.inl (jxv E i k)))) C.1 C.2.1 t1 t2 t3 (by
        rw [jclamp g3 hk0]
        rintro (q | q)
        · have := (jlt32 (y := 0) hk0 ⟨by omega, by omega⟩).mp q
          omega
        · omega) (by rw [jclamp g3 hk0, t6 _ hlt, f4]; rfl) rfl rfl hd h2
  · obtain ⟨g1, g2, g3, g4, g5⟩ := K1 hi
    have hbd := hH.2.2.2 i k
    have h2 := g5 hbd lsS H locs (jS_st hS (jok2 hS.2.2.2.1 (jbd_long (by omega) hbd)))
    have ha := jHp_arr hH hi g1 (by omega)
    rw [g2] at ha
    rw [List.map_cons, List.map_cons, jtv_ref hi]
    exact W.lald (v := jtv E (.inr (.inl (h i k)))) C.1 C.2.1 ha (jao2 C _ _) (fun q => by cases q) (jin g3 hk0 g4 _ _) (by rw [jrd g3 hk0 g4, Int.toNat_of_nonneg g3]; rfl) rfl rfl hd h2
/-- baload of booleans -/
theorem js_bald (C : jAt E p R s m args meth c mm n0 n1) {i k : Int} (hd : decode (jM mm).2.1 pc = .ok (.baload, 1)) (K : jald E 3 (jWj E p l e R s m args below meth c Q mm n0 n1 (pc + 1)) ls (.inl k :: .inr (.inr (.inl i)) :: st) n r h) : jWj E p l e R s m args below meth c Q mm n0 n1 pc ls (.inl k :: .inr (.inr (.inl i)) :: st) n r h := fun lsS H locs hS => by
  have hk0 : jR32 k := hS.2.2.2.1 _ List.mem_cons_self
  have hH := hS.2.2.2.2.1
  obtain ⟨K1, K2⟩ := K
  rcases Int.lt_or_le i 0 with hi | hi
  · obtain ⟨g1, g2, g3, g4, g5⟩ := K2 hi
    have h2i : i ≠ -2 := fun q => by subst q; simp [jxk] at g2
    obtain ⟨CN, nn, d, t, xs, f1, f2, f3, f4, f5⟩ := jst_at (i := i) (by omega) (by omega)
    rcases jst_vals _ (List.mem_of_getElem? f1) with ⟨q1, q2⟩ | ⟨q1, q2⟩
    · have : t = 1 := q1
      omega
    · have : t = 2 := q1
      omega
  · obtain ⟨g1, g2, g3, g4, g5⟩ := K1 hi
    have hbd := hH.2.2.2 i k
    have h2 := g5 hbd lsS H locs (jS_st hS (jok2 hS.2.2.2.1 (jbd_int (by omega) hbd)))
    have ha := jHp_arr hH hi g1 (by omega)
    rw [g2] at ha
    rw [List.map_cons, List.map_cons, jtv_ref hi]
    exact W.zald (v := jtv E (.inl (h i k))) C.1 C.2.1 ha (jao3 C _ _) (fun q => by cases q) (jin g3 hk0 g4 _ _) (by rw [jrd g3 hk0 g4, Int.toNat_of_nonneg g3]; rfl) rfl rfl hd h2
/-- aaload -/
theorem js_aald (C : jAt E p R s m args meth c mm n0 n1) {i k : Int} (hd : decode (jM mm).2.1 pc = .ok (.aaload, 1)) (K : jalr (jWj E p l e R s m args below meth c Q mm n0 n1 (pc + 1)) ls (.inl k :: .inr (.inr (.inl i)) :: st) n r h) : jWj E p l e R s m args below meth c Q mm n0 n1 pc ls (.inl k :: .inr (.inr (.inl i)) :: st) n r h := fun lsS H locs hS => by
  have hk0 : jR32 k := hS.2.2.2.1 _ List.mem_cons_self
  have hH := hS.2.2.2.2.1
  obtain ⟨hi, g1, g2, g3, g4, g5⟩ := K
  have h2 := g5 lsS H locs (jS_st hS (jok2 hS.2.2.2.1 trivial))
  have ha := jHp_arr hH hi g1 (by omega)
  rw [List.map_cons, List.map_cons, jtv_ref hi]
  rcases g2 with g2 | g2
  · rw [g2] at ha
    exact W.aald (v := jtv E (.inr (.inr (.inl (r i k))))) C.1 C.2.1 ha (jao4 C _ _) rfl (fun q => by cases q) (jin g3 hk0 g4 _ _) (by rw [jrd g3 hk0 g4, Int.toNat_of_nonneg g3]; rfl) rfl rfl hd h2
  · rw [g2] at ha
    exact W.aald (v := jtv E (.inr (.inr (.inl (r i k))))) C.1 C.2.1 ha (jao5 C _ _) rfl (fun q => by cases q) (jin g3 hk0 g4 _ _) (by rw [jrd g3 hk0 g4, Int.toNat_of_nonneg g3]; rfl) rfl rfl hd h2
theorem jarr_up {E : JE} {h r : JH} {i k x : Int} {t N : Nat} {cA : ClassId} {v : Value} (h0 : 0 ≤ k) (hv : v = jsv E t x (r i k)) : (arrV cA N (fun j : Nat => jsv E t (h i j) (r i j))).setSlot k.toNat v = arrV cA N (fun j : Nat => jsv E t (jup h i k x i j) (r i j)) := by
  rw [arrV_store]
  congr 1
  funext j
  unfold updV
  by_cases ej : j = k.toNat
  · subst ej
    rw [if_pos rfl, Int.toNat_of_nonneg h0, jup_eq, hv]
  · rw [if_neg ej, jup_ne (fun q => ej (by omega))]
theorem jast_end (C : jAt E p R s m args meth c mm n0 n1) {i k x : Int} {H H' : Heap} (hH : jHp E n r h H) (h0 : 0 ≤ i) (h1 : i < n) (ht : (jk i).1 ≠ 0) (hk0 : 0 ≤ k) (hx : jbd i k x) {v : Value} (hv : v = jsv E (jk i).1 x (r i k)) (e1 : H'[jb0 E + i.toNat]? = some ((arrV (E.2.1 (jk i).1) (jk i).2 (fun j : Nat => jsv E (jk i).1 (h i j) (r i j))).setSlot k.toNat v)) (e2 : H'.size = H.size) (e3 : ∀ q, q ≠ jb0 E + i.toNat → H'[q]? = H[q]?) : jHp E n r (jup h i k x) H' :=
  jHp_put hH (i := i.toNat) (by omega) e2 e3 (jo_arr h0 ht (by rw [e1, jarr_up hk0 hv])) (fun _ _ _ => rfl) (fun j k hj => jup_ne (fun q => hj (by omega))) (jup_bd hH.2.2.2 hx)
theorem js_iast (C : jAt E p R s m args meth c mm n0 n1) {i k x : Int} (hd : decode (jM mm).2.1 pc = .ok (.iastore, 1)) (K : jast 1 (jWj E p l e R s m args below meth c Q mm n0 n1 (pc + 1)) ls (.inl x :: .inl k :: .inr (.inr (.inl i)) :: st) n r h) : jWj E p l e R s m args below meth c Q mm n0 n1 pc ls (.inl x :: .inl k :: .inr (.inr (.inl i)) :: st) n r h := fun lsS H locs hS => by
  have hk0 : jR32 k := hS.2.2.2.1 _ (List.mem_cons_of_mem _ List.mem_cons_self)
  have hH := hS.2.2.2.2.1
  obtain ⟨hi, g1, g2, g3, g4, g5, g6⟩ := K
  have g5 := g5 (hS.2.2.2.1 _ List.mem_cons_self)
  have ha := jHp_arr hH hi g1 (by omega)
  have hA := jao1 C (jk i).2 (fun j => jsv E (jk i).1 (h i j) (r i j))
  rw [← g2] at hA
  rw [List.map_cons, List.map_cons, List.map_cons, jtv_ref hi]
  refine W.iast (x := Int32.ofInt x) C.1 C.2.1 ha hA (fun q => by cases q) (jin g3 hk0 g4 _ _) rfl rfl hd fun H' e1 e2 e3 => ?_
  rw [jclamp g3 hk0] at e1 ⊢
  exact g6 lsS H' _ (jS_put hS (jokd (jokd (jokd hS.2.2.2.1))) (jast_end C hH hi g1 (by omega) g3 g5 (by rw [g2]; rfl) e1 e2 e3))
theorem js_bast (C : jAt E p R s m args meth c mm n0 n1) {i k x : Int} (hd : decode (jM mm).2.1 pc = .ok (.bastore, 1)) (K : jast 3 (jWj E p l e R s m args below meth c Q mm n0 n1 (pc + 1)) ls (.inl x :: .inl k :: .inr (.inr (.inl i)) :: st) n r h) : jWj E p l e R s m args below meth c Q mm n0 n1 pc ls (.inl x :: .inl k :: .inr (.inr (.inl i)) :: st) n r h := fun lsS H locs hS => by
  have hk0 : jR32 k := hS.2.2.2.1 _ (List.mem_cons_of_mem _ List.mem_cons_self)
  have hH := hS.2.2.2.2.1
  obtain ⟨hi, g1, g2, g3, g4, g5, g6⟩ := K
  have g5 := g5 (hS.2.2.2.1 _ List.mem_cons_self)
  have ha := jHp_arr hH hi g1 (by omega)
  have hA := jao3 C (jk i).2 (fun j => jsv E (jk i).1 (h i j) (r i j))
  rw [← g2] at hA
  have hnar : narrow .boolean (.int (Int32.ofInt x)) = .int (Int32.ofInt x) := by
    rcases jbd_zarr g2 g5 with rfl | rfl <;> decide
  rw [List.map_cons, List.map_cons, List.map_cons, jtv_ref hi]
  refine W.zast (x := Int32.ofInt x) C.1 C.2.1 ha hA (fun q => by cases q) (jin g3 hk0 g4 _ _) rfl rfl hd fun H' e1 e2 e3 => ?_
  rw [jclamp g3 hk0, hnar] at e1
  rw [jclamp g3 hk0]
  exact g6 lsS H' _ (jS_put hS (jokd (jokd (jokd hS.2.2.2.1))) (jast_end C hH hi g1 (by omega) g3 g5 (by rw [g2]; rfl) e1 e2 e3))
theorem js_last (C : jAt E p R s m args meth c mm n0 n1) {i k x : Int} (hd : decode (jM mm).2.1 pc = .ok (.lastore, 1)) (K : jasl (jWj E p l e R s m args below meth c Q mm n0 n1 (pc + 1)) ls (.inr (.inl x) :: .inl k :: .inr (.inr (.inl i)) :: st) n r h) : jWj E p l e R s m args below meth c Q mm n0 n1 pc ls (.inr (.inl x) :: .inl k :: .inr (.inr (.inl i)) :: st) n r h := fun lsS H locs hS => by
  have hk0 : jR32 k := hS.2.2.2.1 _ (List.mem_cons_of_mem _ List.mem_cons_self)
  have hH := hS.2.2.2.2.1
  obtain ⟨hi, g1, g2, g3, g4, g5, g6⟩ := K
  have g5 := g5 (hS.2.2.2.1 _ List.mem_cons_self)
  have ha := jHp_arr hH hi g1 (by omega)
  have hA := jao2 C (jk i).2 (fun j => jsv E (jk i).1 (h i j) (r i j))
  rw [← g2] at hA
  rw [List.map_cons, List.map_cons, List.map_cons, jtv_ref hi]
  refine W.last (x := Int64.ofInt x) C.1 C.2.1 ha hA (fun q => by cases q) (jin g3 hk0 g4 _ _) rfl rfl hd fun H' e1 e2 e3 => ?_
  rw [jclamp g3 hk0] at e1 ⊢
  exact g6 lsS H' _ (jS_put hS (jokd (jokd (jokd hS.2.2.2.1))) (jast_end C hH hi g1 (by omega) g3 g5 (by rw [g2]; rfl) e1 e2 e3))
theorem js_alen (C : jAt E p R s m args meth c mm n0 n1) {i : Int} (hd : decode (jM mm).2.1 pc = .ok (.arraylength, 1)) (K : jaln E (jWj E p l e R s m args below meth c Q mm n0 n1 (pc + 1)) ls (.inr (.inr (.inl i)) :: st) n r h) : jWj E p l e R s m args below meth c Q mm n0 n1 pc ls (.inr (.inr (.inl i)) :: st) n r h := fun lsS H locs hS => by
  have hH := hS.2.2.2.2.1
  obtain ⟨K1, K2⟩ := K
  rcases Int.lt_or_le i 0 with hi | hi
  · obtain ⟨g1, g2⟩ := K2 hi
    subst g1
    have hL := C.2.2.2.2.2.1.2.2.2.2.2.2.2.2
    have hl : jxl E (-2) = E.2.2.2.2.1 := by simp [jxl]
    have h2 := g2 lsS H locs (jS_st hS (jok1 hS.2.2.2.1 (show jR32 _ by rw [hl]; exact ⟨by omega, by omega⟩)))
    obtain ⟨scr, x1, x2, x3, x4, x5⟩ := jX_at hH C.2.2.2.2.2.1.2.2.2.2.2.2.1
    rw [List.map_cons, jtv_ext (by omega)]
    exact W.alen (n := Int32.ofInt ((jxl E (-2) : Nat) : Int)) C.1 C.2.1 x1 x2 (by rw [x4, hl, Int32.ofInt_eq_ofNat]) rfl rfl hd h2
  · obtain ⟨g1, g2, g3, g4⟩ := K1 hi
    have hlen : (jk i).2 ≤ 100000 := by
      have t : ∀ q ∈ jLY, q.2 ≤ 100000 := by decide +kernel
      unfold jk
      rw [List.getD_eq_getElem?_getD]
      cases hq : jLY[i.toNat]? with
      | none => exact Nat.zero_le _
      | some q => exact t q (List.mem_of_getElem? hq)
    have h2 := g4 lsS H locs (jS_st hS (jok1 hS.2.2.2.1 (show jR32 _ from ⟨by omega, by omega⟩)))
    have ha := jHp_arr hH hi g1 (by omega)
    rw [List.map_cons, jtv_ref hi]
    have hn : ∀ (cA : ClassId) (z : Nat → Value), (arrV cA (jk i).2 z).slots.size.toInt32 = Int32.ofInt (((jk i).2 : Nat) : Int) := fun cA z => by rw [arrV_size, Int32.ofInt_eq_ofNat]
    have hkk : (jk i).1 = 1 ∨ (jk i).1 = 2 ∨ (jk i).1 = 3 := by omega
    rcases hkk with g | g | g
    · have hA := jao1 C (jk i).2 (fun j => jsv E (jk i).1 (h i j) (r i j))
      rw [← g] at hA
      exact W.alen C.1 C.2.1 ha hA (hn _ _) rfl rfl hd h2
    · have hA := jao2 C (jk i).2 (fun j => jsv E (jk i).1 (h i j) (r i j))
      rw [← g] at hA
      exact W.alen C.1 C.2.1 ha hA (hn _ _) rfl rfl hd h2
    · have hA := jao3 C (jk i).2 (fun j => jsv E (jk i).1 (h i j) (r i j))
      rw [← g] at hA
      exact W.alen C.1 C.2.1 ha hA (hn _ _) rfl rfl hd h2
/-- getstatic of a static row -/
theorem js_gets (C : jAt E p R s m args meth c mm n0 n1) {b : Int} {idx pp t : Nat} {CN nn d : String} {tt : Nat} {xs : List Int} (hb : b ≤ -3) (hs : jST[(-3 - b).toNat]? = some (CN, nn, d, tt, xs)) (hw : if t = 0 then jcw pp (.fieldLink (jM mm).1.cls idx CN nn d) = true else (pp ∈ jNP ∧ lw_tbl[pp]? = some (.fieldLinkNest (jM mm).1.cls idx CN nn d "ArsenalRow")))
    (hd : decode (jM mm).2.1 pc = .ok (.getstatic idx, 3)) (k : jWj E p l e R s m args below meth c Q mm n0 n1 (pc + 3) ls (.inr (.inr (.inl b)) :: st) n r h) : jWj E p l e R s m args below meth c Q mm n0 n1 pc ls st n r h := fun lsS H locs hS => by
  have hH := hS.2.2.2.2.1
  have h2 := k lsS H locs (jS_st hS (jokc hS.2.2.2.1 trivial))
  rw [List.map_cons, jtv_ext (by omega)] at h2
  obtain ⟨hZ, -⟩ := C.2.2.2.2.2.1.2.2.2.2.2.1 _ _ _ _ _ _ hs
  rw [show -3 - (((-3 - b).toNat : Nat) : Int) = b by omega] at hZ
  obtain ⟨cf, kf, fi, f, a, cell, z1, z2, z3, z4, z5, z6, z7, z8⟩ := hZ
  have hcell : H[a]? = some cell := by rw [hH.2.1 a (Array.getElem?_eq_some_iff.mp z5).1]; exact z5
  by_cases ht : t = 0
  · rw [if_pos ht] at hw
    exact W.gets C.1 C.2.1 C.2.2.2.1 (C.2.2.2.2.1 _ (jG_of hw)) z1 z2 z3 z4 hcell (fun e => by rw [e] at z6; cases z6) z7 rfl hd h2
  · rw [if_neg ht] at hw
    have hnw := C.2.2.2.2.2.1.2.2.2.2.1 pp hw.1 _ _ _ _ _ _ hw.2
    exact va_WgetsN C.1 C.2.1 C.2.2.2.1 (va_Nw.use rfl hnw) z1 z2 z3 z4 hcell (fun e => by rw [e] at z6; cases z6) z7 rfl hd h2
end jarr
end
section
/-! ===== ROWS: new cells, aastore, arraycopy ===== -/
theorem jbd0 (i k : Int) : jbd i k 0 := by
  have t1 : ∀ q ∈ jbF.flatten, (q.1 ≤ 0 ∧ 0 ≤ q.2.1) ∨ 0 = q.2.2 := by decide +kernel
  have t2 : ∀ q ∈ jbA, (q.1 ≤ 0 ∧ 0 ≤ q.2.1) ∨ 0 = q.2.2 := by decide +kernel
  show ((jbp i k).1 ≤ 0 ∧ 0 ≤ (jbp i k).2.1) ∨ 0 = (jbp i k).2.2
  unfold jbp
  split
  · rename_i ci _
    rw [List.getD_eq_getElem?_getD]
    cases hq : (jbF.getD ci [])[k.toNat]? with
    | none => exact Or.inl ⟨by decide, by decide⟩
    | some q =>
      refine t1 q (List.mem_flatten.mpr ⟨jbF.getD ci [], ?_, List.mem_of_getElem? hq⟩)
      rw [List.getD_eq_getElem?_getD]
      cases hc : jbF[ci]? with
      | none => rw [List.getD_eq_getElem?_getD, hc] at hq; simp at hq
      | some z => exact List.mem_of_getElem? hc
  · by_cases h224 : i = 224
    · rw [if_pos h224]
      unfold jbK
      repeat' split
      all_goals exact Or.inl ⟨by decide, by decide⟩
    rw [if_neg h224, List.getD_eq_getElem?_getD]
    cases hq : jbA[i.toNat]? with
    | none => exact Or.inl ⟨by decide, by decide⟩
    | some q => exact t2 q (List.mem_of_getElem? hq)
theorem jnw_bd {h : JH} (hb : ∀ a b : Int, jbd a b (h a b)) (n c : Nat) : ∀ a b : Int, jbd a b (jnw h n c 0 a b) := by
  intro a b
  unfold jnw
  split
  · exact jbd0 a b
  · exact hb a b
/-- cells behind the last -/
theorem jHp_new {E : JE} {n c : Nat} {r r' h h' : JH} {H H' : Heap} (hH : jHp E n r h H) (hz : H'.size = H.size + c) (hq : ∀ q, q < H.size → H'[q]? = H[q]?) (hr : ∀ (j : Nat) (k : Int), j < n → r' j k = r j k) (hh : ∀ (j : Nat) (k : Int), j < n → h' j k = h j k) (ho : ∀ j, j < c → jO E r' h' H' (n + j)) (hb : ∀ a b : Int, jbd a b (h' a b)) : jHp E (n + c) r' h' H' := by
  have hs := hH.1
  refine ⟨by rw [hz, hs]; omega, fun q hq' => (hq q (by omega)).trans (hH.2.1 q hq'), fun j hj => ?_, hb⟩
  by_cases e : j < n
  · have h1 := hH.2.2.1 j e
    have hq1 := hq (jb0 E + j) (by omega)
    refine ⟨fun hk => ?_, fun hk => ?_⟩
    · obtain ⟨q, h2, h3⟩ := h1.1 hk
      exact ⟨q, h2, (h3.kept hq1).to (fun k _ => by rw [hr j k e, hh j k e])⟩
    · rw [hq1, h1.2 hk]
      congr 2
      funext k
      rw [hr j k e, hh j k e]
  · have := ho (j - n) (by omega)
    rwa [show n + (j - n) = j by omega] at this
theorem jnw_lt {h : JH} {n c : Nat} {v : Int} {j : Nat} {k : Int} (hj : j < n) : jnw h n c v j k = h j k := if_neg (by omega)
theorem jnw_in {h : JH} {n c : Nat} {v : Int} {j : Nat} {k : Int} (hj : j < c) : jnw h n c v (((n + j : Nat)) : Int) k = v := if_pos (by omega)
theorem jsz_succ {n : Nat} (hn : n < 229) : jSZ (n + 1) = jSZ n + jSL.getD n 0 := by
  have t : ∀ n, n < 229 → jSZ (n + 1) = jSZ n + jSL.getD n 0 := by decide +kernel
  exact t n hn
theorem jsl_obj : ∀ n, n < 229 → (jLY.getD n (9, 0)).1 = 0 → jSL.getD n 0 = (vwCl.getD (jLY.getD n (9, 0)).2 ("", TX0, 0)).2.2 ∧ (jLY.getD n (9, 0)).2 < 13 := by decide +kernel
theorem jsl_arr : ∀ n, n < 229 → (jLY.getD n (9, 0)).1 ≠ 0 → jSL.getD n 0 = (jLY.getD n (9, 0)).2 := by decide +kernel
theorem jsz_mono {a b : Nat} (h : a ≤ b) (hb : b ≤ 229) : jSZ a ≤ jSZ b := by
  obtain ⟨d, rfl⟩ := Nat.exists_eq_add_of_le h
  induction d with
  | zero => exact Nat.le_refl _
  | succ d ih =>
    have := ih (by omega) (by omega)
    rw [show a + (d + 1) = (a + d) + 1 by omega, jsz_succ (by omega)]
    omega
section jnewrows
variable {E : JE} {p : Program} {l : Launch} {e : Env} {R : Room} {s : State} {m : MethodId} {args : Array Value} {below : List Frame} {meth : Method} {c : Code} {Q : State → Prop} {mm n0 n1 : Nat} {pc : Nat} {ls st : List JV} {n : Nat} {r h : JH}
theorem jdef_sv (E : JE) {ci k : Nat} {q : vw_C} (hq : vwCl[ci]? = some q) (hk : k < q.2.2) : defaultValue (jty ci k) = jsv E ((jFT.getD ci []).getD k 0) 0 (-1) := by
  rcases (jTY hq hk).2 with ⟨g1, g2⟩ | ⟨g1, g2, -⟩ | ⟨g1, g2⟩
  · rw [g1, g2]; rfl
  · rw [g1, g2]; rfl
  · rw [g1]
    have : jsv E 4 0 (-1) = .null := rfl
    rw [this]
    cases hj : jty ci k <;> rw [hj] at g2 <;> first | rfl | cases g2
theorem js_new (C : jAt E p R s m args meth c mm n0 n1) {a pp idx : Nat} {CN : String} {T : u_T} {N : Nat} (hc : vwCl[a]? = some (CN, T, N)) (hw : jcw pp (.classLink (jM mm).1.cls idx CN) = true) (hi1 : (Cond.instantiable CN N) ∈ jG) (hi2 : (Cond.initialized CN) ∈ jG) (hd : decode (jM mm).2.1 pc = .ok (.new idx, 3)) (hn : n + 1 ≤ n1) (hk : jk n = (0, a))
    (k : jWj E p l e R s m args below meth c Q mm n0 n1 (pc + 3) ls (.inr (.inr (.inl n)) :: st) (n + 1) (jnw r n 1 (-1)) (jnw h n 1 0)) : jWj E p l e R s m args below meth c Q mm n0 n1 pc ls st n r h := fun lsS H locs hS => by
  have hH := hS.2.2.2.2.1
  obtain ⟨hn0, hn1'⟩ := hS.2.2.2.2.2.2
  have h229 := C.2.2.2.2.2.2.2.2.2.1
  have hkn : jLY.getD n (9, 0) = (0, a) := by have := hk; unfold jk at this; simpa using this
  have hsl := jsl_obj n (by omega) (by rw [hkn])
  rw [hkn, (jci hc).2] at hsl
  have hsz := jsz_succ (n := n) (by omega)
  have hcap := C.2.2.2.2.2.2.2.2.1 (n + 1) hn
  have hmono := jsz_mono hn0 (show n ≤ 229 by omega)
  have hKn := C.2.2.2.2.2.1.1.1 a _ hc
  have e1 : n + 1 - n0 = (n - n0) + 1 := by omega
  have e2 : jSZ (n + 1) - jSZ n0 = (jSZ n - jSZ n0) + N := by
    have : jSL.getD n 0 = N := hsl.1
    omega
  rw [e1, e2] at hcap
  refine W.newcK (n := N) C.1 C.2.1 C.2.2.2.1 (C.2.2.2.2.1 _ (jG_of hw)) (C.2.2.2.2.1 _ hi1) (C.2.2.2.2.1 _ hi2) rfl hd hcap.1 hcap.2 hKn.2.1 hH.1 fun H' kC hkC f1 f2 f3 => ?_
  have hk2 := k lsS H' locs ⟨hS.1, hS.2.1, hS.2.2.1, jokc hS.2.2.2.1 trivial, ?_, hS.2.2.2.2.2.1, by omega, hn⟩
  · rw [e1, e2, List.map_cons, jtv_ref (by omega)] at hk2
    exact hk2
  · refine jHp_new hH (c := 1) (by rw [f2, hH.1]) (fun q hq => f3 q (by rw [← hH.1]; exact hq)) (fun j k hj => jnw_lt hj) (fun j k hj => jnw_lt hj) (fun j hj => ?_) (jnw_bd hH.2.2.2 n 1)
    have hj0 : j = 0 := by omega
    subst hj0
    have hob := u_born (jty a) C.2.2.2.2.1 (jUW hc) hKn hkC f1 (fun k hk => (jTY hc hk).1)
    have h9 := jo_obj (E := E) (r := jnw r n 1 (-1)) (h := jnw h n 1 0) (i := (n : Int)) (by omega) hk hc (hob.to (fun k hk => by
      have q1 : jnw h n 1 0 (n : Int) k = 0 := jnw_in (j := 0) (by omega)
      have q2 : jnw r n 1 (-1) (n : Int) k = -1 := jnw_in (j := 0) (by omega)
      rw [q1, q2]
      exact jdef_sv E hc hk))
    exact h9
theorem jnewa_end (C : jAt E p R s m args meth c mm n0 n1) {t N : Nat} {H H' : Heap} (hH : jHp E n r h H) (hk : jk n = (t, N)) (ht : t ≠ 0) (f1 : H'[jb0 E + n]? = some (arrV (E.2.1 t) N (fun _ => jsv E t 0 (-1)))) (f2 : H'.size = H.size + 1) (f3 : ∀ q, q < H.size → H'[q]? = H[q]?) : jHp E (n + 1) (jnw r n 1 (-1)) (jnw h n 1 0) H' := by
  refine jHp_new hH (c := 1) f2 f3 (fun j k hj => jnw_lt hj) (fun j k hj => jnw_lt hj) (fun j hj => ?_) (jnw_bd hH.2.2.2 n 1)
  have hj0 : j = 0 := by omega
  subst hj0
  refine jo_arr (E := E) (i := (n : Int)) (by omega) (by rw [hk]; exact ht) ?_
  rw [hk]
  show H'[jb0 E + n]? = _
  rw [f1]
  congr 2
  funext k
  have q1 : jnw h n 1 0 (n : Int) k = 0 := jnw_in (j := 0) (by omega)
  have q2 : jnw r n 1 (-1) (n : Int) k = -1 := jnw_in (j := 0) (by omega)
  rw [q1, q2]
theorem jcaps (C : jAt E p R s m args meth c mm n0 n1) {lsS : Array Slot} {H : Heap} {locs : List Loc} (hS : jS E mm n0 n1 lsS H locs ls st n r h) {t N : Nat} (hn : n + 1 ≤ n1) (hk : jk n = (t, N)) (ht : t ≠ 0) : n + 1 - n0 = (n - n0) + 1 ∧ jSZ (n + 1) - jSZ n0 = (jSZ n - jSZ n0) + N ∧ (n - n0) + 1 ≤ R.cells ∧ (jSZ n - jSZ n0) + N ≤ R.slots := by
  obtain ⟨hn0, hn1'⟩ := hS.2.2.2.2.2.2
  have h229 := C.2.2.2.2.2.2.2.2.2.1
  have hkn : jLY.getD n (9, 0) = (t, N) := by have := hk; unfold jk at this; simpa using this
  have hsl := jsl_arr n (by omega) (by rw [hkn]; exact ht)
  rw [hkn] at hsl
  have hsz := jsz_succ (n := n) (by omega)
  have hcap := C.2.2.2.2.2.2.2.2.1 (n + 1) hn
  have hmono := jsz_mono hn0 (show n ≤ 229 by omega)
  have e1 : n + 1 - n0 = (n - n0) + 1 := by omega
  have e2 : jSZ (n + 1) - jSZ n0 = (jSZ n - jSZ n0) + N := by omega
  rw [e1, e2] at hcap
  exact ⟨e1, e2, hcap.1, hcap.2⟩
theorem js_newa (C : jAt E p R s m args meth c mm n0 n1) {b : Int} {t : Nat} {aty : ArrayType} {ty : FieldType} (hty : newarray.typeOf aty = ty) (htt : (t = 1 ∧ ty = .int) ∨ (t = 2 ∧ ty = .long) ∨ (t = 3 ∧ ty = .boolean)) (hwd : (Cond.arrayClass ty) ∈ jG) (hd : decode (jM mm).2.1 pc = .ok (.newarray aty, 2)) (K : jnwa n1 t (jWj E p l e R s m args below meth c Q mm n0 n1 (pc + 2)) ls (.inl b :: st) n r h) : jWj E p l e R s m args below meth c Q mm n0 n1 pc ls (.inl b :: st) n r h := fun lsS H locs hS => by
  have hH := hS.2.2.2.2.1
  have hb0 : jR32 b := hS.2.2.2.1 _ List.mem_cons_self
  obtain ⟨g1, g2, g3, g4, g5⟩ := K
  obtain ⟨c1, c2, c3, c4⟩ := jcaps C hS g3 g4 (by omega)
  have hcl := jclamp g1 hb0
  subst hty
  refine va_newaK (N := b.toNat) (h := H.size) C.1 C.2.1 (C.2.2.2.2.1 _ hwd) rfl hd (n := Int32.ofInt b) rfl (fun q => by have := (jlt32 (y := 0) hb0 ⟨by omega, by omega⟩).mp q; omega) hcl ?_ c3 c4 rfl fun H' cA f1 f2 f3 f4 f5 => ?_
  · rcases htt with ⟨-, h9⟩ | ⟨-, h9⟩ | ⟨-, h9⟩ <;> rw [h9] <;> show b.toNat * _ ≤ _
    · rw [show componentBytes .int = 4 from rfl]
      omega
    · rw [show componentBytes .long = 8 from rfl]
      omega
    · rw [show componentBytes .boolean = 1 from rfl]
      omega
  · have hcA : cA = E.2.1 t := by
      have hR := fun k q hk => (C.2.2.2.2.2.1.1.2 k q hk).2
      rcases htt with ⟨rfl, h9⟩ | ⟨rfl, h9⟩ | ⟨rfl, h9⟩ <;> rw [h9] at f5
      · exact Option.some.inj (f5.symm.trans (hR 0 _ rfl))
      · exact Option.some.inj (f5.symm.trans (hR 1 _ rfl))
      · exact Option.some.inj (f5.symm.trans (hR 2 _ rfl))
    subst hcA
    have hdv : defaultValue (newarray.typeOf aty) = jsv E t 0 (-1) := by
      rcases htt with ⟨rfl, h9⟩ | ⟨rfl, h9⟩ | ⟨rfl, h9⟩ <;> rw [h9] <;> rfl
    rw [hdv, hH.1] at f1
    have hk2 := g5 lsS H' locs ⟨hS.1, hS.2.1, hS.2.2.1, jokc (jokd hS.2.2.2.1) trivial, jnewa_end C hH g4 (by omega) f1 f2 f3, hS.2.2.2.2.2.1, by have := hS.2.2.2.2.2.2.1; omega, g3⟩
    rw [c1, c2, List.map_cons, jtv_ref (by omega)] at hk2
    rw [hH.1]
    exact hk2
theorem js_anew (C : jAt E p R s m args meth c mm n0 n1) {b : Int} {idx pp : Nat} (hw : jcw pp (.classLink (jM mm).1.cls idx "ArsenalRow$Hull") = true) (hd : decode (jM mm).2.1 pc = .ok (.anewarray idx, 3)) (K : jnwa n1 4 (jWj E p l e R s m args below meth c Q mm n0 n1 (pc + 3)) ls (.inl b :: st) n r h) : jWj E p l e R s m args below meth c Q mm n0 n1 pc ls (.inl b :: st) n r h := fun lsS H locs hS => by
  have hH := hS.2.2.2.2.1
  have hb0 : jR32 b := hS.2.2.2.1 _ List.mem_cons_self
  obtain ⟨g1, g2, g3, g4, g5⟩ := K
  obtain ⟨c1, c2, c3, c4⟩ := jcaps C hS g3 g4 (by omega)
  have hcl := jclamp g1 hb0
  refine W.anew C.1 C.2.1 C.2.2.2.1 (C.2.2.2.2.1 _ (jG_of hw)) (va_AO.use C.2.2.2.2.2.1.2.1) rfl hd (n := Int32.ofInt b) rfl (fun q => by have := (jlt32 (y := 0) hb0 ⟨by omega, by omega⟩).mp q; omega) (by rw [hcl]; omega) c3 (by rw [hcl]; exact c4) fun cA kA comp f1 f2 f3 f4 => ?_
  rw [hcl]
  generalize hH1 : H.push ({ cls := cA, slots := Array.replicate b.toNat .null, vm := .none } : Cell) = H1
  have z1 : H1.size = H.size + 1 := by rw [← hH1, Array.size_push]
  have e1 : H1[H.size]? = some (arrV cA b.toNat (fun _ => .null)) := by rw [← hH1, Array.getElem?_push_size, ← arrV_new]
  have o1 : ∀ q, q < H.size → H1[q]? = H[q]? := fun q hq => by rw [← hH1, Array.getElem?_push, if_neg (Nat.ne_of_lt hq)]
  obtain ⟨kA', comp', k1, k2, k3, k4⟩ := (C.2.2.2.2.2.1.1.2 3 _ rfl).2
  have hcA : cA = E.2.1 4 := Option.some.inj (f1.symm.trans k4)
  subst hcA
  rw [hH.1] at e1
  have hk2 := g5 lsS H1 locs ⟨hS.1, hS.2.1, hS.2.2.1, jokc (jokd hS.2.2.2.1) trivial, jnewa_end C hH g4 (by omega) e1 z1 o1, hS.2.2.2.2.2.1, by have := hS.2.2.2.2.2.2.1; omega, g3⟩
  rw [c1, c2, List.map_cons, jtv_ref (by omega)] at hk2
  rw [hH.1]
  exact hk2
theorem js_aast (C : jAt E p R s m args meth c mm n0 n1) {i k v : Int} (hd : decode (jM mm).2.1 pc = .ok (.aastore, 1)) (K : jasr (jWj E p l e R s m args below meth c Q mm n0 n1 (pc + 1)) ls (.inr (.inr (.inl v)) :: .inl k :: .inr (.inr (.inl i)) :: st) n r h) : jWj E p l e R s m args below meth c Q mm n0 n1 pc ls (.inr (.inr (.inl v)) :: .inl k :: .inr (.inr (.inl i)) :: st) n r h := fun lsS H locs hS => by
  have hk0 : jR32 k := hS.2.2.2.1 _ (List.mem_cons_of_mem _ List.mem_cons_self)
  have hH := hS.2.2.2.2.1
  obtain ⟨hi, g1, g2, g3, g4, g5, g6, g7, g8⟩ := K
  have ha := jHp_arr hH hi g1 (by omega)
  obtain ⟨q, hq, cv, v1, v2, v3, v4⟩ := jHp_obj hH g5 g6 g7
  obtain ⟨kA, comp, k1, k2, k3, k4⟩ := (C.2.2.2.2.2.1.1.2 3 _ rfl).2
  have hcls := (C.2.2.2.2.2.1.1.1 4 _ rfl).2
  have hcomp : comp = E.1.1 4 := Option.some.inj (k3.symm.trans hcls.1)
  subst hcomp
  have hcls' := hcls
  obtain ⟨kC, hkC, -⟩ := hcls'.2
  rw [List.map_cons, List.map_cons, List.map_cons, jtv_ref hi, jtv_ref g5]
  have hin := jin g3 hk0 g4 (E.2.1 (jk i).1) (fun j => jsv E (jk i).1 (h i j) (r i j))
  refine W.aast (t := .object "ArsenalRow$Hull") (j := Int32.ofInt k) C.1 C.2.1 ha (fun q h => by cases h) (fun h => by cases h) (by rw [g2]; exact k1) k2 rfl hkC ⟨fun q => hin (Or.inl q), Nat.not_le.mp fun q => hin (Or.inr q)⟩ v1 (fun q h => by rw [v3] at h; cases h) (by rw [v2]; exact hkC) (by rw [v2]; exact va_assign hcls) rfl rfl hd fun H' e1 e2 e3 => ?_
  rw [jclamp g3 hk0] at e1 ⊢
  refine g8 lsS H' _ (jS_put hS (jokd (jokd (jokd hS.2.2.2.1))) ?_)
  refine jHp_put hH (i := i.toNat) (by omega) e2 e3 (jo_arr hi (by omega) ?_) (fun j k hj => jup_ne (fun q => hj (by omega))) (fun _ _ _ => rfl) hH.2.2.2
  rw [e1, arrV_store, g2]
  congr 2
  funext j
  unfold updV
  by_cases ej : j = k.toNat
  · subst ej
    rw [if_pos rfl, Int.toNat_of_nonneg g3, jup_eq, ← jtv_ref g5]
    rfl
  · rw [if_neg ej, jup_ne (fun q => ej (by omega))]
theorem js_objI (C : jAt E p R s m args meth c mm n0 n1) {i : Int} {idx pp : Nat} (hw : jcw pp (.methodLink (jM mm).1.cls idx objectInit) = true) (hw2 : (Cond.instanceMethod objectInit) ∈ jG) (hw3 : (Cond.code objectInit ⟨#[0xb1]⟩ 1 none) ∈ jG) (hf : 1 ≤ (jM mm).2.2.2.2.1 ∧ 20 ≤ (jM mm).2.2.2.2.2.1) (hd : decode (jM mm).2.1 pc = .ok (.invokespecial idx, 3)) (K : jobj (jWj E p l e R s m args below meth c Q mm n0 n1 (pc + 3)) ls (.inr (.inr (.inl i)) :: st) n r h) : jWj E p l e R s m args below meth c Q mm n0 n1 pc ls (.inr (.inr (.inl i)) :: st) n r h := fun lsS H locs hS => by
  obtain ⟨g1, g2, g3⟩ := K
  have h2 := g3 lsS H locs (jS_st hS (jokd hS.2.2.2.1))
  rw [List.map_cons, jtv_ref g1]
  have hcat : ((st.map (jtv E)).map fun v => v.category).sum ≤ 8 := by
    have : ∀ (l : List Value), l.length ≤ 4 → (l.map fun v => v.category).sum ≤ 2 * l.length := by
      intro l _
      induction l with
      | nil => simp
      | cons v l ih =>
        have hv : v.category ≤ 2 := by rcases lv_cat v with h | h <;> omega
        simp only [List.map_cons, List.sum_cons, List.length_cons]
        have := ih (by simp at *; omega)
        omega
    have := this (st.map (jtv E)) (by simpa using g2)
    simp only [List.length_map] at this
    omega
  have h0 : 2 * (F0 m pc lsS (.ref (jb0 E + i.toNat) :: st.map (jtv E))).monitorRoom + ((st.map (jtv E)).map fun v => v.category).sum + 12 ≤ R.locals := by
    have h20 := C.2.2.2.2.2.2.2.1
    have := hf.2
    show 2 * 0 + _ + 12 ≤ _
    omega
  exact W.objInit C.1 C.2.1 C.2.2.2.1 (C.2.2.2.2.1 _ (jG_of hw)) (C.2.2.2.2.1 _ hw2) (C.2.2.2.2.1 _ hw3) rfl (by rw [C.2.2.1]; exact hS.1.1) rfl hd (by have := C.2.2.2.2.2.2.1; omega) h0 h2
end jnewrows
end
section
/-! ===== ROWS: arraycopy, calls, returns ===== -/
/-- what a method needs of the tables: its own code, then all words that calls hand on -/
def jws (m : Nat) : List Cond := .code (jM m).1 (jM m).2.1 (jM m).2.2.1 (jM m).2.2.2.1 :: jG
def jrm (m n : Nat) : Room := { frames := (jM m).2.2.2.2.1, cells := (jM m).2.2.2.2.2.2, slots := jSZ (n + (jM m).2.2.2.2.2.2) - jSZ n, locals := (jM m).2.2.2.2.2.1 }
/-- THE CONTRACT of method m with arguments av at the picture (n, r, h): it returns, what it answers and the picture behind it have K -/
def jMt (E : JE) (l : Launch) (m : Nat) (av : List JV) (n : Nat) (r h : JH) (K : Option JV → JH → JH → Prop) : Prop :=
  (∀ v ∈ av, jok v) → Met l (jM m).1 (jws m) (jrm m n) (va_Pc (av.map (jtv E)) (fun U => jEx E U ∧ jHp E n r h U.heap))
    (fun _ _ o t => ∃ (v : Option JV) (r' h' : JH), o = .returned (v.map (jtv E)) ∧ jokO v ∧ K v r' h' ∧ jHp E (n + (jM m).2.2.2.2.2.2) r' h' t.heap) (jM m).2.2.2.2.2.2 (jSZ (n + (jM m).2.2.2.2.2.2) - jSZ n) (fun q => jb0 E ≤ q)
theorem jG_good {w : Cond} (h : w ∈ jG) : (w.onTables && w.keeps) = true ∨ ∃ ty, w = .arrayClass ty := good_of_word (List.mem_filter.mp h).2
theorem jpay {args : Array Value} {s : State} (ht : ∀ w ∈ jG, w.before args s = true) {w : Cond} (hw : w ∈ jG) (a' : Array Value) (U : State) (hW : s.WarmedH U.vm) : w.before a' U = true := word_at hW (jG_good hw) (ht w hw)
section jcalls
variable {E : JE} {p : Program} {l : Launch} {e : Env} {R : Room} {s : State} {m : MethodId} {args : Array Value} {below : List Frame} {meth : Method} {c : Code} {Q : State → Prop} {mm n0 n1 : Nat} {pc : Nat} {ls st : List JV} {n : Nat} {r h : JH}
theorem jcat8 {st : List JV} (h : st.length ≤ 4) : ((st.map (jtv E)).map fun v => v.category).sum ≤ 8 := by
  have : ∀ (l : List Value), l.length ≤ 4 → (l.map fun v => v.category).sum ≤ 2 * l.length := by
    intro l _
    induction l with
    | nil => simp
    | cons v l ih =>
      have hv : v.category ≤ 2 := by rcases lv_cat v with h | h <;> omega
      simp only [List.map_cons, List.sum_cons, List.length_cons]
      have := ih (by simp at *; omega)
      omega
  have := this (st.map (jtv E)) (by simpa using h)
  simp only [List.length_map] at this
  omega
theorem jcp_bd {h : JH} (hb : ∀ a b : Int, jbd a b (h a b)) {s0 sp d dp c0 : Int} (hx : ∀ j : Int, 0 ≤ j → j < c0 → jbd d (dp + j) (h s0 (sp + j))) : ∀ a b : Int, jbd a b (jcp h s0 sp d dp c0 a b) := by
  intro a b
  unfold jcp
  split
  · rename_i g
    rw [g.1]
    have := hx (b - dp) (by omega) (by omega)
    rwa [show dp + (b - dp) = b by omega] at this
  · exact hb a b
theorem js_acopy (C : jAt E p R s m args meth c mm n0 n1) {c0 dp d sp s0 : Int} {idx pp : Nat} (hw : jcw pp (.methodLink (jM mm).1.cls idx arraycopyName) = true) (hw2 : (Cond.native arraycopyName) ∈ jG) (hw3 : (Cond.static arraycopyName) ∈ jG) (hw4 : (Cond.initialized "java/lang/System") ∈ jG) (hf : 1 ≤ (jM mm).2.2.2.2.1 ∧ 26 ≤ (jM mm).2.2.2.2.2.1) (hd : decode (jM mm).2.1 pc = .ok (.invokestatic idx, 3))
    (K : jacp (jWj E p l e R s m args below meth c Q mm n0 n1 (pc + 3)) ls (.inl c0 :: .inl dp :: .inr (.inr (.inl d)) :: .inl sp :: .inr (.inr (.inl s0)) :: st) n r h) : jWj E p l e R s m args below meth c Q mm n0 n1 pc ls (.inl c0 :: .inl dp :: .inr (.inr (.inl d)) :: .inl sp :: .inr (.inr (.inl s0)) :: st) n r h := fun lsS H locs hS => by
  have hH := hS.2.2.2.2.1
  obtain ⟨a1, a2, a3, a4, a5, a6, a7, a8, a9, a10, a11, a12, a13, a14⟩ := K
  have hok := hS.2.2.2.1
  have hc0 : jR32 c0 := hok (.inl c0) (by simp)
  have hdp0 : jR32 dp := hok (.inl dp) (by simp)
  have hsp0 : jR32 sp := hok (.inl sp) (by simp)
  have hs := jHp_arr hH a1 a2 (by omega)
  have hdd := jHp_arr hH a3 a4 (by omega)
  rw [a5] at hs
  rw [a6] at hdd
  have hs : H[jb0 E + s0.toNat]? = some (arrV (E.2.1 1) (jk s0).2 (fun j => .int (Int32.ofInt (h s0 j)))) := hs
  have hdd : H[jb0 E + d.toNat]? = some (arrV (E.2.1 1) (jk d).2 (fun j => .int (Int32.ofInt (h d j)))) := hdd
  have hr0 : jR32 0 := ⟨by omega, by omega⟩
  have neg : ∀ {z : Int}, jR32 z → 0 ≤ z → ¬ Int32.ofInt z < 0 := fun hz h0 q => by have := (jlt32 (y := 0) hz hr0).mp q; omega
  have hlo : ((st.map (jtv E)).map fun v => v.category).sum + (nativeFrameWords "java/lang/System" "arraycopy" 5 + 11) ≤ R.locals := by
    have h1 := jcat8 (E := E) a12
    have h2 := C.2.2.2.2.2.2.2.1
    have h3 : nativeFrameWords "java/lang/System" "arraycopy" 5 = 7 := by decide
    have := hf.2
    omega
  rw [List.map_cons, List.map_cons, List.map_cons, List.map_cons, List.map_cons, jtv_ref a1, jtv_ref a3]
  intro T hT X
  obtain ⟨-, k0, hk0, cm0, hkk0⟩ := (C.2.2.2.2.2.1.1.2 0 _ rfl).1 (jk s0).2 (fun j => .int (Int32.ofInt (h s0 j)))
  obtain ⟨-, k1, hk1, cm1, hkk1⟩ := (C.2.2.2.2.2.1.1.2 0 _ rfl).1 (jk d).2 (fun j => .int (Int32.ofInt (h d j)))
  obtain ⟨vm', X', step⟩ := X.arraycopy C.1 C.2.2.2.1 (C.2.2.2.2.1 _ (jG_of hw)) (C.2.2.2.2.1 _ hw2) (C.2.2.2.2.1 _ hw3) (C.2.2.2.2.1 _ hw4) (src := jb0 E + s0.toNat) (dst := jb0 E + d.toNat)
    (cs := arrV (E.2.1 1) (jk s0).2 (fun j => .int (Int32.ofInt (h s0 j)))) (cd := arrV (E.2.1 1) (jk d).2 (fun j => .int (Int32.ofInt (h d j)))) (srcPos := Int32.ofInt sp) (destPos := Int32.ofInt dp) (n := Int32.ofInt c0) (by rw [hT]; exact hs) (by rw [hT]; exact hdd)
    (fun _ h => by cases h) (fun _ h => by cases h) (fun h => by cases h) (fun h => by cases h) hk0 hk1 hkk0 hkk1 (by simp [show refKind FieldType.int = false from rfl]) (neg hsp0 a7) (neg hdp0 a8) (neg hc0 a9)
    (by rw [jto32 hsp0, jto32 hc0, arrV_size]; omega) (by rw [jto32 hdp0, jto32 hc0, arrV_size]; omega)
    (fun vm₁ _ i hi => by
      rw [jclamp a9 hc0] at hi
      have e : (arrV (E.2.1 1) (jk s0).2 (fun j => Value.int (Int32.ofInt (h s0 j)))).slots.getD ((Int32.ofInt sp).toNatClampNeg + i) .null = .int (Int32.ofInt (h s0 ((sp.toNat + i : Nat)))) := by
        rw [jclamp a7 hsp0, Array.getD_eq_getD_getElem?, arrV_read _ _ (by omega)]
        rfl
      rw [e]
      exact ⟨rfl, trivial⟩)
    (g := F0 m pc lsS (jtv E (.inl c0) :: jtv E (.inl dp) :: .ref (jb0 E + d.toNat) :: jtv E (.inl sp) :: .ref (jb0 E + s0.toNat) :: st.map (jtv E))) rfl (by rw [C.2.2.1]; exact hS.1.1) (rest := st.map (jtv E)) rfl (by rw [C.2.1]; exact hd) (by have := C.2.2.2.2.2.2.1; omega) (by show 2 * 0 + _ + _ ≤ _; omega)
  have e1 : copied (arrV (E.2.1 1) (jk s0).2 (fun j => Value.int (Int32.ofInt (h s0 j)))) (arrV (E.2.1 1) (jk d).2 (fun j => Value.int (Int32.ofInt (h d j)))) (Int32.ofInt sp) (Int32.ofInt dp) (Int32.ofInt c0) = arrV (E.2.1 1) (jk d).2 (fun j => .int (va_cpy (fun j : Nat => Int32.ofInt (h s0 j)) (fun j : Nat => Int32.ofInt (h d j)) (Int32.ofInt sp).toNatClampNeg (Int32.ofInt dp).toNatClampNeg (Int32.ofInt c0).toNatClampNeg j)) :=
    va_copied (fun z => .int z) _ _ (fun j : Nat => Int32.ofInt (h s0 j)) (fun j : Nat => Int32.ofInt (h d j)) (by rw [jclamp a7 hsp0, jclamp a9 hc0]; omega)
  rw [e1] at X' step
  have hl : jb0 E + d.toNat < (T.setVm vm').heap.size := by show _ < T.heap.size; rw [hT]; exact (Array.getElem?_eq_some_iff.mp hdd).1
  have hHp : jHp E n r (jcp h s0 sp d dp c0) ((T.setVm vm').setCell (jb0 E + d.toNat) (arrV (E.2.1 1) (jk d).2 (fun j => .int (va_cpy (fun j : Nat => Int32.ofInt (h s0 j)) (fun j : Nat => Int32.ofInt (h d j)) (Int32.ofInt sp).toNatClampNeg (Int32.ofInt dp).toNatClampNeg (Int32.ofInt c0).toNatClampNeg j)))).heap := by
    refine jHp_put hH (i := d.toNat) (by omega) (by rw [size_setCell]; show T.heap.size = _; rw [hT]) (fun q hq => by rw [heapAt_setCell_ne _ (Ne.symm hq)]; show T.heap[q]? = _; rw [hT]) (jo_arr a3 (by omega) ?_) (fun _ _ _ => rfl) (fun j k hj => if_neg (fun q => hj (by omega))) (jcp_bd hH.2.2.2 (a13 hH.2.2.2))
    rw [heapAt_setCell_self _ hl, a6, jclamp a7 hsp0, jclamp a8 hdp0, jclamp a9 hc0]
    congr 2
    funext j
    unfold va_cpy jcp
    by_cases q : dp.toNat ≤ j ∧ j < dp.toNat + c0.toNat
    · rw [if_pos q, if_pos ⟨rfl, by omega, by omega⟩, show sp + ((j : Int) - dp) = ((sp.toNat + (j - dp.toNat) : Nat) : Int) by omega]
      rfl
    · rw [if_neg q, if_neg (fun z => q ⟨by omega, by omega⟩)]
      rfl
  obtain ⟨t, g1, g2⟩ := a14 lsS _ (locs ++ ((arrV (E.2.1 1) (jk s0).2 (fun j => Value.int (Int32.ofInt (h s0 j)))).stretch (Int32.ofInt sp).toNatClampNeg (Int32.ofInt c0).toNatClampNeg).zipIdx.map fun q => ⟨jb0 E + d.toNat, (Int32.ofInt dp).toNatClampNeg + q.2⟩) ⟨hS.1, hS.2.1, hS.2.2.1, jokd (jokd (jokd (jokd (jokd hok)))), hHp, fun q hq => by
    rcases List.mem_append.mp hq with z | z
    · exact hS.2.2.2.2.2.1 q z
    · obtain ⟨y, -, hy⟩ := List.mem_map.mp z
      rw [← hy]
      exact Nat.le_add_right _ _, hS.2.2.2.2.2.2⟩ _ rfl X'
  exact ⟨t, step t g1, g2⟩
/-! calls -/
theorem jmw_u {a : Nat} (h : a < 179) : (Cond.code (jM a).1 (jM a).2.1 (jM a).2.2.1 (jM a).2.2.2.1) ∈ jG ∧ (Cond.initialized (jM a).1.cls) ∈ jG ∧ ((jM a).1.cls ≠ "java/lang/invoke/MethodHandle" ∧ (jM a).1.cls ≠ "java/lang/invoke/VarHandle") ∧
    (jMS[a]? = some true → (Cond.static (jM a).1) ∈ jG) ∧ (jMS[a]? = some false → (Cond.instanceMethod (jM a).1) ∈ jG ∧ ((jMP.getD a (0, 0, 0, 0)).2.2.1 ≠ 9999 → (Cond.selects (jM a).1.cls (jM a).1 (jM a).1) ∈ jG)) := by
  have h1 := jmw_all h
  unfold jmw at h1
  simp only [Bool.and_eq_true, Bool.or_eq_true, Bool.not_eq_true', decide_eq_true_eq, decide_eq_false_iff_not] at h1
  obtain ⟨⟨⟨⟨g1, g2⟩, g3⟩, g4⟩, g5⟩ := h1
  refine ⟨jG_of g1, jG_of g2, g3, fun q => ?_, fun q => ?_⟩
  · rcases g4 with g | g
    · exact absurd q g
    · exact jG_of g
  · rcases g5 with g | g
    · exact absurd q g
    · refine ⟨jG_of g.1, fun z => ?_⟩
      rcases g.2 with w | w
      · exact absurd w z
      · exact jG_of w
theorem jcall_u {a na c0 : Nat} (hc : jcall mm a na c0 = true) : a < 179 ∧ (jM a).2.2.2.2.1 + 1 ≤ (jM mm).2.2.2.2.1 ∧ 8 + ((jM a).2.2.1 + 11) + (jM a).2.2.2.2.2.1 ≤ (jM mm).2.2.2.2.2.1 ∧ (jM a).2.2.2.2.2.2 = c0 ∧ (parseMethodDescriptor (jM a).1.desc).map (fun d => d.parameters.length) = some na := by
  unfold jcall at hc
  simpa only [decide_eq_true_eq] using hc
theorem jws_ok (C : jAt E p R s m args meth c mm n0 n1) {a : Nat} (ha : a < 179) : ∀ w ∈ jws a, ∀ (a' : Array Value) (U : State), s.WarmedH U.vm → w.before a' U = true := fun w hw a' U hW => by
  rcases List.mem_cons.mp hw with rfl | hw
  · exact jpay C.2.2.2.2.1 (jmw_u ha).1 a' U hW
  · exact jpay C.2.2.2.2.1 hw a' U hW
theorem jparse {a na : Nat} (h : (parseMethodDescriptor (jM a).1.desc).map (fun d => d.parameters.length) = some na) : ∀ sig, parseMethodDescriptor (jM a).1.desc = some sig → na = sig.parameters.length := fun sig hs => by
  rw [hs] at h
  exact (Option.some.inj h).symm
theorem jcallB (C : jAt E p R s m args meth c mm n0 n1) {a na c0 idx : Nat} (hc : jcall mm a na c0 = true) (hl : (Cond.methodLink (jM mm).1.cls idx (jM a).1).before args s = true) (n : Nat) : CallB R s args (jM mm).1.cls idx (jM a).1 (jM a).2.1 (jM a).2.2.1 (jM a).2.2.2.1 (jws a) (jrm a n) (jM a).2.2.2.2.2.2 (jSZ (n + (jM a).2.2.2.2.2.2) - jSZ n) na := by
  obtain ⟨h1, h2, h3, h4, h5⟩ := jcall_u hc
  have hm := jmw_u h1
  have hR1 := C.2.2.2.2.2.2.1
  have hR2 := C.2.2.2.2.2.2.2.1
  exact ⟨rfl, rfl, by show (jM a).2.2.2.2.1 + 1 ≤ _; omega, by show _ + (jM a).2.2.2.2.2.1 ≤ _; omega, jws_ok C h1, List.mem_cons_self, C.2.2.2.2.1 _ hm.1, C.2.2.2.2.1 _ hm.2.1, hm.2.2.1, jparse h5, hl⟩
theorem jcallN (C : jAt E p R s m args meth c mm n0 n1) {a na c0 idx : Nat} {host : String} (hc : jcall mm a na c0 = true) (hl : va_Nw (.methodLinkNest (jM mm).1.cls idx (jM a).1 host) s) (n : Nat) : va_CN R s args (jM mm).1.cls idx (jM a).1 host (jM a).2.1 (jM a).2.2.1 (jM a).2.2.2.1 (jws a) (jrm a n) (jM a).2.2.2.2.2.2 (jSZ (n + (jM a).2.2.2.2.2.2) - jSZ n) na := by
  obtain ⟨h1, h2, h3, h4, h5⟩ := jcall_u hc
  have hm := jmw_u h1
  have hR1 := C.2.2.2.2.2.2.1
  have hR2 := C.2.2.2.2.2.2.2.1
  exact ⟨⟨rfl, rfl, by show (jM a).2.2.2.2.1 + 1 ≤ _; omega, by show _ + (jM a).2.2.2.2.2.1 ≤ _; omega, jws_ok C h1, List.mem_cons_self⟩, C.2.2.2.2.1 _ hm.1, C.2.2.2.2.1 _ hm.2.1, hm.2.2.1, jparse h5, va_Nw.use rfl hl⟩
theorem jblind {av : List Value} : FrameBlind (va_Pc av (fun U => jEx E U ∧ jHp E n r h U.heap)) := fun a U g mk q => ⟨q.1, jEx_same (u := U) (U := U.calling g mk a) rfl q.2.1, q.2.2⟩
theorem jpre (C : jAt E p R s m args meth c mm n0 n1) {H : Heap} (hH : jHp E n r h H) (av : List Value) : ∀ U : State, U.heap = H → s.WarmedH U.vm → va_Pc av (fun U => jEx E U ∧ jHp E n r h U.heap) av.toArray U := fun U hU hW => ⟨rfl, jEx_warm hW C.2.2.2.2.2.1, by rw [hU]; exact hH⟩
theorem jrun_end (C : jAt E p R s m args meth c mm n0 n1) {lsS : Array Slot} {H : Heap} {locs : List Loc} (hS : jS E mm n0 n1 lsS H locs ls st n r h) {c0 : Nat} (hc : n + c0 ≤ n1) {rest : List JV} (hrest : ∀ v ∈ rest, jok v) {st0 : List Value} {Kp : Option JV → JH → JH → Prop} {a : Array Value}
    (hr : va_Run p l e R s m args below meth c H locs (n - n0) (jSZ n - jSZ n0) c0 (jSZ (n + c0) - jSZ n) (F0 m pc lsS st0) (rest.map (jtv E)) ((fun (_ : Array Value) (_ : State) (o : Outcome) (t : State) => ∃ (v : Option JV) (r' h' : JH), o = .returned (v.map (jtv E)) ∧ jokO v ∧ Kp v r' h' ∧ jHp E (n + c0) r' h' t.heap) a) (fun q => jb0 E ≤ q))
    (k : ∀ v r' h', Kp v r' h' → jokO v → jWj E p l e R s m args below meth c Q mm n0 n1 (pc + 3) ls (v.toList ++ rest) (n + c0) r' h') : W p l e R s m args below meth c H locs (n - n0) (jSZ n - jSZ n0) Q (F0 m pc lsS st0) := by
  intro T hT X
  obtain ⟨v, st₀, t, T', L, h0, X', hL, e1, e2, ⟨v1, r', h', hv, hok, hK, hHp⟩, st9⟩ := hr T hT X
  cases hv
  have hn0 := hS.2.2.2.2.2.2.1
  have h229 := C.2.2.2.2.2.2.2.2.2.1
  have m1 := jsz_mono hn0 (show n ≤ 229 by omega)
  have m2 := jsz_mono (show n ≤ n + c0 by omega) (show n + c0 ≤ 229 by omega)
  rw [show n - n0 + c0 = n + c0 - n0 by omega, show jSZ n - jSZ n0 + (jSZ (n + c0) - jSZ n) = jSZ (n + c0) - jSZ n0 by omega] at X'
  obtain ⟨t2, g1, g2⟩ := k v1 r' h' hK hok lsS T'.heap (locs ++ L) ⟨hS.1, hS.2.1, hS.2.2.1, fun w hw => by
    rcases List.mem_append.mp hw with z | z
    · cases v1 with
      | none => simp at z
      | some y => simp at z; rw [z]; exact hok
    · exact hrest w z, by rw [e1]; exact hHp, fun q hq => by
    rcases List.mem_append.mp hq with z | z
    · exact hS.2.2.2.2.2.1 q z
    · exact hL q z, by omega, hc⟩ T' rfl X'
  refine ⟨t2, st9 t2 ?_, g2⟩
  have e3 : (v1.toList ++ rest).map (jtv E) = (v1.map (jtv E)).toList ++ rest.map (jtv E) := by cases v1 <;> simp
  rw [e3] at g1
  exact g1
theorem jcf (C : jAt E p R s m args meth c mm n0 n1) : CallFix p m c (jM mm).2.1 (jM mm).2.2.1 s args jG (jM mm).1.cls := ⟨C.1, C.2.1, C.2.2.1, C.2.2.2.1, C.2.2.2.2.1⟩
theorem jcap (C : jAt E p R s m args meth c mm n0 n1) {lsS : Array Slot} {H : Heap} {locs : List Loc} (hS : jS E mm n0 n1 lsS H locs ls st n r h) {c0 : Nat} (hc : n + c0 ≤ n1) : n - n0 + c0 ≤ R.cells ∧ jSZ n - jSZ n0 + (jSZ (n + c0) - jSZ n) ≤ R.slots := by
  have hn0 := hS.2.2.2.2.2.2.1
  have h229 := C.2.2.2.2.2.2.2.2.2.1
  have m1 := jsz_mono hn0 (show n ≤ 229 by omega)
  have m2 := jsz_mono (show n ≤ n + c0 by omega) (show n + c0 ≤ 229 by omega)
  have hcap := C.2.2.2.2.2.2.2.2.1 (n + c0) hc
  omega
theorem js_cas (C : jAt E p R s m args meth c mm n0 n1) {a na c0 idx pp : Nat} (hms : jMS[a]? = some true) (hc : jcall mm a na c0 = true) (hl : if pp < 100000 then jcw pp (.methodLink (jM mm).1.cls idx (jM a).1) = true else (pp - 100000 ∈ jNP ∧ lw_tbl[pp - 100000]? = some (.methodLinkNest (jM mm).1.cls idx (jM a).1 "ArsenalRow"))) (hd : decode (jM mm).2.1 pc = .ok (.invokestatic idx, 3))
    (K : jcas (jMt E l) n1 a c0 na (jWj E p l e R s m args below meth c Q mm n0 n1 (pc + 3)) ls st n r h) : jWj E p l e R s m args below meth c Q mm n0 n1 pc ls st n r h := fun lsS H locs hS => by
  obtain ⟨k1, k2, k3, k4⟩ := K
  obtain ⟨h1, h2, h3, h4, h5⟩ := jcall_u hc
  have hM := k4 (fun v hv => hS.2.2.2.1 v (List.mem_of_mem_take (List.mem_reverse.mp hv)))
  have hstack : st.map (jtv E) = (((st.take na).reverse).map (jtv E)).reverse ++ (st.drop na).map (jtv E) := by
    rw [← List.map_reverse, List.reverse_reverse, ← List.map_append, List.take_append_drop]
  have hlen : (((st.take na).reverse).map (jtv E)).length = na := by simp; omega
  have hrest : ∀ v ∈ st.drop na, jok v := fun v hv => hS.2.2.2.1 v (List.mem_of_mem_drop hv)
  subst h4
  by_cases hp : pp < 100000
  · rw [if_pos hp] at hl
    refine jrun_end (a := #[]) C hS k3 hrest (va_runS (jcf C) hM ⟨jcallB C hc (C.2.2.2.2.1 _ (jG_of hl)) n, C.2.2.2.2.1 _ ((jmw_u h1).2.2.2.1 hms)⟩ ⟨jblind, jpre C hS.2.2.2.2.1 _⟩ rfl hlen hS.1.1 hstack (lv_room (jcat8 k2)) hd (jcap C hS k3)) (fun v r' h' q1 q2 => q1 q2)
  · rw [if_neg hp] at hl
    refine jrun_end (a := #[]) C hS k3 hrest (va_runSN (jcf C) hM ⟨jcallN C hc (C.2.2.2.2.2.1.2.2.2.1 _ hl.1 _ _ _ _ hl.2) n, C.2.2.2.2.1 _ ((jmw_u h1).2.2.2.1 hms), trivial⟩ ⟨jblind, jpre C hS.2.2.2.2.1 _⟩ rfl hlen hS.1.1 hstack (lv_room (jcat8 k2)) hd (jcap C hS k3)) (fun v r' h' q1 q2 => q1 q2)
theorem jcav_inv {CL : Nat → List JV → Nat → JH → JH → (Option JV → JH → JH → Prop) → Prop} {m0 c0 na ci : Nat} {K : JK} (h0 : jcav CL n1 m0 c0 na ci K ls st n r h) : ∃ (i : Int) (s9 : List JV), st.drop na = .inr (.inr (.inl i)) :: s9 ∧ 0 ≤ i ∧ i < n ∧ jk i = (0, ci) ∧ s9.length ≤ 4 ∧ n + c0 ≤ n1 ∧ CL m0 (.inr (.inr (.inl i)) :: (st.take na).reverse) n r h (fun v r' h' => jokO v → K ls (v.toList ++ s9) (n + c0) r' h') := by
  unfold jcav at h0
  split at h0
  · rename_i i s9 heq
    exact ⟨i, s9, heq, h0⟩
  · exact h0.elim
theorem jdrop_st {E : JE} {na : Nat} {i : Int} {s9 : List JV} (hd : st.drop na = .inr (.inr (.inl i)) :: s9) (h0 : 0 ≤ i) : st.map (jtv E) = (((st.take na).reverse).map (jtv E)).reverse ++ .ref (jb0 E + i.toNat) :: s9.map (jtv E) := by
  rw [← List.map_reverse, List.reverse_reverse, ← jtv_ref h0, ← List.map_cons, ← hd, ← List.map_append, List.take_append_drop]
theorem jdrop_len {na : Nat} {v : JV} {s9 : List JV} (hd : st.drop na = v :: s9) : (((st.take na).reverse).map (jtv E)).length = na := by
  have : (st.drop na).length = s9.length + 1 := by rw [hd]; rfl
  simp at this ⊢
  omega
theorem jclsof {ci : Nat} {CN : String} (hci : (vwCl[ci]?).map (fun c => c.1) = some CN) : ∃ q : vw_C, vwCl[ci]? = some q ∧ q.1 = CN := by
  cases hq : vwCl[ci]? with
  | none => rw [hq] at hci; cases hci
  | some q => rw [hq] at hci; exact ⟨q, rfl, Option.some.inj hci⟩
theorem js_cav (C : jAt E p R s m args meth c mm n0 n1) {a na c0 idx pp u : Nat} (hu : (vwCl[u]?).map (fun c => c.1) = some (jM a).1.cls) (hms : jMS[a]? = some false) (hse : (jMP.getD a (0, 0, 0, 0)).2.2.1 ≠ 9999) (hc : jcall mm a na c0 = true) (hl : jcw pp (.methodLink (jM mm).1.cls idx (jM a).1) = true) (hd : decode (jM mm).2.1 pc = .ok (.invokevirtual idx, 3))
    (K : jcav (jMt E l) n1 a c0 na u (jWj E p l e R s m args below meth c Q mm n0 n1 (pc + 3)) ls st n r h) : jWj E p l e R s m args below meth c Q mm n0 n1 pc ls st n r h := fun lsS H locs hS => by
  obtain ⟨i, s9, hdr, hi0, hi1, hk, hs9, k3, k4⟩ := jcav_inv K
  obtain ⟨h1, h2, h3, h4, h5⟩ := jcall_u hc
  have hM := k4 (fun v hv => by
    rcases List.mem_cons.mp hv with rfl | hv
    · exact trivial
    · exact hS.2.2.2.1 v (List.mem_of_mem_take (List.mem_reverse.mp hv)))
  rw [List.map_cons, jtv_ref hi0] at hM
  have hrest : ∀ v ∈ s9, jok v := fun v hv => hS.2.2.2.1 v (List.mem_of_mem_drop (i := na) (by rw [hdr]; exact List.mem_cons_of_mem _ hv))
  subst h4
  obtain ⟨q, hq, hqn⟩ := jclsof hu
  obtain ⟨q', hq', cell, c1, c2, c3, c4⟩ := jHp_obj hS.2.2.2.2.1 hi0 hi1 hk
  obtain ⟨-, hfc, -⟩ := C.2.2.2.2.2.1.1.1 u _ hq
  rw [hqn] at hfc
  have hin := (jmw_u h1).2.2.2.2 hms
  exact jrun_end (a := #[]) C hS k3 hrest (va_runV (C := (jM a).1.cls) (jcf C) hM ⟨jcallB C hc (C.2.2.2.2.1 _ (jG_of hl)) n, C.2.2.2.2.1 _ hin.1, C.2.2.2.2.1 _ (hin.2 hse)⟩ ⟨jblind, ⟨cell, c1, by rw [c3]; rfl, by rw [c2]; exact hfc⟩, jpre C hS.2.2.2.2.1 _⟩ rfl (jdrop_len hdr) hS.1.1 (jdrop_st hdr hi0) (lv_room (jcat8 hs9)) hd (jcap C hS k3)) (fun v r' h' q1 q2 => q1 q2)
theorem js_cai (C : jAt E p R s m args meth c mm n0 n1) {a na c0 idx pp u : Nat} (hms : jMS[a]? = some false) (hnm : (jM a).1.name = "<init>") (hrt : (jM a).2.2.2.1 = none) (hc : jcall mm a na c0 = true) (hl : if pp < 100000 then jcw pp (.methodLink (jM mm).1.cls idx (jM a).1) = true else (pp - 100000 ∈ jNP ∧ lw_tbl[pp - 100000]? = some (.methodLinkNest (jM mm).1.cls idx (jM a).1 "ArsenalRow"))) (hd : decode (jM mm).2.1 pc = .ok (.invokespecial idx, 3))
    (K : jcav (jMt E l) n1 a c0 na u (jWj E p l e R s m args below meth c Q mm n0 n1 (pc + 3)) ls st n r h) : jWj E p l e R s m args below meth c Q mm n0 n1 pc ls st n r h := fun lsS H locs hS => by
  obtain ⟨i, s9, hdr, hi0, hi1, hk, hs9, k3, k4⟩ := jcav_inv K
  obtain ⟨h1, h2, h3, h4, h5⟩ := jcall_u hc
  have hM := k4 (fun v hv => by
    rcases List.mem_cons.mp hv with rfl | hv
    · exact trivial
    · exact hS.2.2.2.1 v (List.mem_of_mem_take (List.mem_reverse.mp hv)))
  rw [List.map_cons, jtv_ref hi0] at hM
  have hrest : ∀ v ∈ s9, jok v := fun v hv => hS.2.2.2.1 v (List.mem_of_mem_drop (i := na) (by rw [hdr]; exact List.mem_cons_of_mem _ hv))
  subst h4
  have hin := (jmw_u h1).2.2.2.2 hms
  by_cases hp : pp < 100000
  · rw [if_pos hp] at hl
    have cb := jcallB C hc (C.2.2.2.2.1 _ (jG_of hl)) n
    rw [hrt] at cb
    exact jrun_end (a := #[]) C hS k3 hrest (va_runI (jcf C) hM ⟨cb, hnm, C.2.2.2.2.1 _ hin.1⟩ ⟨jblind, jpre C hS.2.2.2.2.1 _⟩ rfl (jdrop_len hdr) hS.1.1 (jdrop_st hdr hi0) (lv_room (jcat8 hs9)) hd (jcap C hS k3)) (fun v r' h' q1 q2 => q1 q2)
  · rw [if_neg hp] at hl
    have cb := jcallN C hc (C.2.2.2.2.2.1.2.2.2.1 _ hl.1 _ _ _ _ hl.2) n
    rw [hrt] at cb
    exact jrun_end (a := #[]) C hS k3 hrest (va_runIN (jcf C) hM ⟨cb, hnm, C.2.2.2.2.1 _ hin.1⟩ ⟨jblind, jpre C hS.2.2.2.2.1 _⟩ rfl (jdrop_len hdr) hS.1.1 (jdrop_st hdr hi0) (lv_room (jcat8 hs9)) hd (jcap C hS k3)) (fun v r' h' q1 q2 => q1 q2)
end jcalls
end
section
/-! ===== ROW: new int[n][k] ===== -/
/-- the outer row once i inner ones hang in it; an inner row; the state with i inner rows -/
def jmO (cA : ClassId) (N a i : Nat) : Cell := arrV cA N (fun j => if j < i then .ref (a + 1 + j) else .null)
def jmI (cI : ClassId) (M : Nat) : Cell := arrV cI M (fun _ => .int 0)
def jmF (S : State) (cA cI : ClassId) (N M : Nat) : Nat → State
  | 0 => S.pushCell (jmO cA N S.heap.size 0)
  | i + 1 => ((jmF S cA cI N M i).pushCell (jmI cI M)).setCell S.heap.size (jmO cA N S.heap.size (i + 1))
theorem jmO_set (cA : ClassId) (N a i : Nat) : (jmO cA N a i).setSlot i (.ref (a + 1 + i)) = jmO cA N a (i + 1) := by
  unfold jmO
  rw [arrV_store]
  congr 1
  funext j
  unfold updV
  by_cases e : j = i
  · subst e; rw [if_pos rfl, if_pos (by omega)]
  · rw [if_neg e]
    show (if j < i then Value.ref (a + 1 + j) else .null) = _
    by_cases q : j < i
    · rw [if_pos q, if_pos (by omega)]
    · rw [if_neg q, if_neg (by omega)]
theorem jmF_top (S : State) (f : JFrame) (cA cI : ClassId) (N M : Nat) : ∀ i, jmF (S.setTop f) cA cI N M i = (jmF S cA cI N M i).setTop f
  | 0 => rfl
  | i + 1 => by simp only [jmF, jmF_top S f cA cI N M i, State.heap_setTop, State.pushCell_setTop, State.setCell_setTop]
theorem jmF_at (S : State) (cA cI : ClassId) (N M : Nat) : ∀ i, (jmF S cA cI N M i).heap.size = S.heap.size + 1 + i ∧ (jmF S cA cI N M i).heap[S.heap.size]? = some (jmO cA N S.heap.size i) ∧ (jmF S cA cI N M i).vm = S.vm ∧ (jmF S cA cI N M i).slotsUsed = S.slotsUsed + N + i * M ∧
    (∀ q, q < S.heap.size → (jmF S cA cI N M i).heap[q]? = S.heap[q]?) ∧ ∀ j, j < i → (jmF S cA cI N M i).heap[S.heap.size + 1 + j]? = some (jmI cI M)
  | 0 => ⟨by simp [jmF], by simp [jmF], rfl, by simp [jmF, jmO, arrV_size], fun q hq => State.heap_pushCell_of_lt _ _ hq, fun j hj => absurd hj (Nat.not_lt_zero _)⟩
  | i + 1 => by
    obtain ⟨h1, h2, h3, h4, h5, h6⟩ := jmF_at S cA cI N M i
    have hlt : S.heap.size < (jmF S cA cI N M i).heap.size := by omega
    have hb : ((jmF S cA cI N M i).pushCell (jmI cI M)).heap[S.heap.size]? = some (jmO cA N S.heap.size i) := by rw [State.heap_pushCell_of_lt (h := hlt)]; exact h2
    refine ⟨?_, State.heap_setCell_self hb, by simp [jmF, h3], ?_, fun q hq => ?_, fun j hj => ?_⟩
    · show (((jmF S cA cI N M i).pushCell (jmI cI M)).setCell S.heap.size _).heap.size = _
      rw [size_setCell, size_pushCell, h1]
      omega
    · simp [jmF, h4, jmI, arrV_size, Nat.succ_mul]
      omega
    · show (((jmF S cA cI N M i).pushCell (jmI cI M)).setCell S.heap.size _).heap[q]? = _
      rw [State.heap_setCell_other (Nat.ne_of_gt hq), State.heap_pushCell_of_lt (h := show q < (jmF S cA cI N M i).heap.size by omega)]
      exact h5 q hq
    · show (((jmF S cA cI N M i).pushCell (jmI cI M)).setCell S.heap.size _).heap[S.heap.size + 1 + j]? = _
      rw [State.heap_setCell_other (show S.heap.size ≠ S.heap.size + 1 + j by omega)]
      rcases Nat.lt_or_ge j i with g | g
      · rw [State.heap_pushCell_of_lt (h := show S.heap.size + 1 + j < (jmF S cA cI N M i).heap.size by omega)]
        exact h6 j g
      · have e : j = i := by omega
        subst e
        rw [← h1]
        exact State.heap_pushCell_size _ _
section jmulti
variable {p : Program} {l : Launch} {e : Env} {R : Room} {s : State} {m : MethodId} {args : Array Value} {below : List Frame} {meth : Method} {c : Code} {T : State} {locs : List Loc} {cells slots : Nat}
theorem jm_stand (X : Stand p l e R s m args below meth c T locs cells slots) (cA cI : ClassId) (N M : Nat) : ∀ i, Stand p l e R s m args below meth c (jmF T cA cI N M i) (locs ++ (List.range i).map fun j => ⟨T.heap.size, j⟩) (cells + 1 + i) (slots + N + i * M)
  | 0 => by
    have h := X.pushed (jmO cA N T.heap.size 0)
    rw [show (jmO cA N T.heap.size 0).slots.size = N from arrV_size _ _ _] at h
    simpa [jmF] using h
  | i + 1 => by
    obtain ⟨h1, h2, -, -, -, -⟩ := jmF_at T cA cI N M i
    have hlt : T.heap.size < (jmF T cA cI N M i).heap.size := by omega
    have h := ((jm_stand X cA cI N M i).pushed (jmI cI M)).stored (a := T.heap.size) (cell := jmO cA N T.heap.size i) (by rw [State.heap_pushCell_of_lt (h := hlt)]; exact h2) i (.ref (T.heap.size + 1 + i))
    rw [show (jmI cI M).slots.size = M from arrV_size _ _ _, jmO_set] at h
    rw [List.range_succ, List.map_append, ← List.append_assoc, show slots + N + (i + 1) * M = slots + N + i * M + M by rw [Nat.succ_mul]; omega]
    exact h
end jmulti
section jmwp
variable {X : CtlPost} {e : Env} {d : Bool} {acts : List Action} {S : State}
theorem jm_newa {c comp : ClassId} {k : Class} {ty : FieldType} {len : Nat} {v : Value} (hk : S.vm.classes[c]? = some k) (hkind : k.kind = .array comp ty) (h1 : ¬ len > e.platform.arrayLengthLimit) (h2 : ¬ len * componentBytes ty > e.platform.maxHeapBytes) (hf : fits ty v = true) (hd : v.isDefault = true)
    (h3 : S.heap.size < e.platform.maxCells) (h4 : S.slotsUsed + len ≤ e.platform.maxSlots) {Q : Addr → Pre} (hq : Q S.heap.size d acts (S.pushCell (arrV c len (fun _ => v)))) : wp (Jvm.newArray c len v) Q X e d acts S := by
  rw [← arrV_new] at hq
  have hfit : ∀ i w, (Array.replicate len v)[i]? = some w → S.fitsSlot c .none i w = true := by
    intro i w hw
    simp only [Array.getElem?_replicate] at hw
    split at hw
    · cases hw; simp [State.fitsSlot, State.slotType?, hk, hkind, hf]
    · cases hw
  have ha : allocActs (Array.replicate len v) S.heap.size acts = acts := by
    unfold allocActs
    rw [if_pos (by rw [Array.all_replicate]; split <;> simp [hd])]
  simp only [Jvm.newArray, Jvm.arrayFits, wp_bind', W.ask, W.ite, h1, if_false, wp_pure', W.theClass, hk, hkind, h2, W.alloc, W.stop, Option.some.injEq, exists_eq_left', Array.size_replicate, ha]
  rw [if_neg (by omega)]
  exact ⟨h3, h4, hfit, hq⟩
theorem jm_make {cA cI cc : ClassId} {kA kI : Class} {n k : Int32} (hkA : S.vm.classes[cA]? = some kA) (hkindA : kA.kind = .array cI (.array .int)) (hkI : S.vm.classes[cI]? = some kI) (hkindI : kI.kind = .array cc .int) (hn : ¬ n < 0) (hk : ¬ k < 0)
    (hl1 : ¬ n.toNatClampNeg > e.platform.arrayLengthLimit) (hh1 : ¬ n.toNatClampNeg * 4 > e.platform.maxHeapBytes) (hl2 : ¬ k.toNatClampNeg > e.platform.arrayLengthLimit) (hh2 : ¬ k.toNatClampNeg * 4 > e.platform.maxHeapBytes)
    (hc : S.heap.size + 1 + n.toNatClampNeg ≤ e.platform.maxCells) (hs : S.slotsUsed + n.toNatClampNeg + n.toNatClampNeg * k.toNatClampNeg ≤ e.platform.maxSlots) {Q : Addr → Pre} (hq : ∀ d' acts', Q S.heap.size d' acts' (jmF S cA cI n.toNatClampNeg k.toNatClampNeg n.toNatClampNeg)) : wp (multianewarray.make cA [n, k]) Q X e d acts S := by
  have hfind : ([k].find? (· < 0)) = none := by simp [hk]
  rw [multianewarray.make]
  simp only [wp_bind', W.ite, hn, if_false, wp_pure', W.theClass, hkA, hkindA, Option.some.injEq, exists_eq_left']
  refine jm_newa hkA hkindA hl1 hh1 rfl rfl (by omega) (by have := Nat.zero_le (n.toNatClampNeg * k.toNatClampNeg); omega) ?_
  simp only [hfind]
  rw [ite_self, wp_bind', Std.Legacy.Range.forIn_eq_forIn_range']
  rw [show ([:n.toNatClampNeg] : Std.Legacy.Range).size = n.toNatClampNeg by simp [Std.Legacy.Range.size]]
  show wp (forIn (List.range' 0 n.toNatClampNeg 1) PUnit.unit _) _ X e d acts _
  refine wp_forIn_inv (fun rest U => ∃ i, i ≤ n.toNatClampNeg ∧ rest = List.range' i (n.toNatClampNeg - i) ∧ U = jmF S cA cI n.toNatClampNeg k.toNatClampNeg i) _ _ ⟨0, Nat.zero_le _, rfl, ?_⟩ ?_ ?_
  · show S.pushCell _ = S.pushCell _
    congr 1
  · rintro x rest U d' acts' Q' ⟨i, hi, hl, rfl⟩ hnext
    have hlt : i < n.toNatClampNeg := by
      rcases Nat.lt_or_ge i n.toNatClampNeg with g | g
      · exact g
      · rw [show n.toNatClampNeg - i = 0 by omega] at hl; simp at hl
    rw [show n.toNatClampNeg - i = (n.toNatClampNeg - (i + 1)) + 1 by omega, List.range'_succ] at hl
    obtain ⟨rfl, hrest⟩ := List.cons.inj hl
    obtain ⟨f1, f2, f3, f4, -, -⟩ := jmF_at S cA cI n.toNatClampNeg k.toNatClampNeg x
    have hmul : x * k.toNatClampNeg + k.toNatClampNeg ≤ n.toNatClampNeg * k.toNatClampNeg := by
      have := Nat.mul_le_mul_right k.toNatClampNeg (show x + 1 ≤ n.toNatClampNeg from hlt)
      rwa [Nat.succ_mul] at this
    have hlt0 : S.heap.size < (jmF S cA cI n.toNatClampNeg k.toNatClampNeg x).heap.size := by omega
    simp only [wp_bind']
    rw [multianewarray.make]
    simp only [wp_bind', W.ite, hk, if_false, wp_pure', W.theClass, f3, hkI, hkindI, Option.some.injEq, exists_eq_left']
    refine jm_newa (by rw [f3]; exact hkI) hkindI hl2 hh2 rfl rfl (by omega) (by rw [f4]; omega) ?_
    simp only [wp_bind', W.writeLoc, wp_pure']
    refine ⟨jmO cA n.toNatClampNeg S.heap.size x, ?_, (fun q => by cases q), by rw [show (jmO cA n.toNatClampNeg S.heap.size x).slots.size = n.toNatClampNeg from arrV_size _ _ _]; exact hlt, ?_, hnext _ _ _ ⟨x + 1, hlt, hrest, ?_⟩⟩
    · rw [State.heap_pushCell_of_lt (h := hlt0)]; exact f2
    · show State.fitsSlot _ cA .none _ _ = true
      simp [State.fitsSlot, State.slotType?, f3, hkA, hkindA, fits]
    · rw [f1, jmO_set]
      rfl
  · rintro U d' acts' ⟨i, hi, hl, rfl⟩
    have hiN : i = n.toNatClampNeg := by
      rcases Nat.lt_or_ge i n.toNatClampNeg with g | g
      · rw [show n.toNatClampNeg - i = (n.toNatClampNeg - (i + 1)) + 1 by omega, List.range'_succ] at hl; cases hl
      · omega
    subst hiN
    simp only [wp_pure']
    exact hq _ _
end jmwp
section jmrow
variable {E : JE} {p : Program} {l : Launch} {e : Env} {R : Room} {s : State} {m : MethodId} {args : Array Value} {below : List Frame} {meth : Method} {c : Code} {Q : State → Prop} {mm n0 n1 : Nat} {pc : Nat} {ls st : List JV} {n : Nat} {r h : JH}
theorem jsz_run (n k : Nat) : ∀ c0 : Nat, n + 1 + c0 ≤ 229 → (∀ j : Nat, j < c0 → jk (n + 1 + j) = (1, k)) → jSZ (n + 1 + c0) = jSZ (n + 1) + c0 * k
  | 0, _, _ => by simp
  | c0 + 1, h1, h2 => by
    have ih := jsz_run n k c0 (by omega) (fun j hj => h2 j (by omega))
    have h3 := h2 c0 (by omega)
    have h4 : jLY.getD (n + 1 + c0) (9, 0) = (1, k) := by
      have := h3
      unfold jk at this
      rwa [show (((n : Int) + 1 + (c0 : Int))).toNat = n + 1 + c0 by omega] at this
    have h5 := jsl_arr (n + 1 + c0) (by omega) (by rw [h4]; exact Nat.one_ne_zero)
    rw [h4] at h5
    rw [show n + 1 + (c0 + 1) = (n + 1 + c0) + 1 by omega, jsz_succ (by omega), ih, h5, Nat.succ_mul]
    omega
theorem js_multi (C : jAt E p R s m args meth c mm n0 n1) {b k : Int} {idx pp : Nat} (hw : jcw pp (.classLink (jM mm).1.cls idx "[[I") = true) (hwI : (Cond.arrayClass .int) ∈ jG) (hd : decode (jM mm).2.1 pc = .ok (.multianewarray idx 2, 4)) (K : jnwm n1 (jWj E p l e R s m args below meth c Q mm n0 n1 (pc + 4)) ls (.inl k :: .inl b :: st) n r h) : jWj E p l e R s m args below meth c Q mm n0 n1 pc ls (.inl k :: .inl b :: st) n r h := fun lsS H locs hS => by
  have hH := hS.2.2.2.2.1
  have hk0 : jR32 k := hS.2.2.2.1 _ List.mem_cons_self
  have hb0 : jR32 b := hS.2.2.2.1 _ (List.mem_cons_of_mem _ List.mem_cons_self)
  obtain ⟨g1, g2, g3, g4, g5, g6, g7, g8⟩ := K
  obtain ⟨hn0, hn1'⟩ := hS.2.2.2.2.2.2
  have h229 := C.2.2.2.2.2.2.2.2.2.1
  have hkn : jLY.getD n (9, 0) = (5, b.toNat) := by have := g6; unfold jk at this; simpa using this
  have hsl := jsl_arr n (by omega) (by rw [hkn]; exact Nat.succ_ne_zero 4)
  rw [hkn] at hsl
  have hsz := jsz_succ (n := n) (by omega)
  have hrun := jsz_run n k.toNat b.toNat (by omega) g7
  have hmono := jsz_mono hn0 (show n ≤ 229 by omega)
  have hcap := C.2.2.2.2.2.2.2.2.1 (n + 1 + b.toNat) (by omega)
  have e1 : n + 1 + b.toNat - n0 = (n - n0) + 1 + b.toNat := by omega
  have e2 : jSZ (n + 1 + b.toNat) - jSZ n0 = (jSZ n - jSZ n0) + b.toNat + b.toNat * k.toNat := by
    have : jSL.getD n 0 = b.toNat := hsl
    omega
  rw [e1, e2] at hcap
  have hb' : (Int32.ofInt b).toNatClampNeg = b.toNat := jclamp g1 hb0
  have hk' : (Int32.ofInt k).toNatClampNeg = k.toNat := jclamp g3 hk0
  have neg : ∀ {z : Int}, jR32 z → 0 ≤ z → ¬ Int32.ofInt z < 0 := fun hz h0 q => by have := (jlt32 (y := 0) hz ⟨by omega, by omega⟩).mp q; omega
  rw [List.map_cons, List.map_cons]
  intro T hT X
  obtain ⟨comp, cA, kA, hcomp, -, hkA, hkindA, hnameA⟩ := jAO_spec C.2.2.2.2.2.1.2.2.1
  obtain ⟨comp', kC, cc, hcomp', hkC, hkindC⟩ := Cond.arrayClass_spec (C.2.2.2.2.1 _ hwI)
  have ecomp : comp' = comp := Option.some.inj (hcomp'.symm.trans hcomp)
  subst ecomp
  have hpl : e.platform.magicAccessors = ({} : Platform).magicAccessors := by rw [X.admits.platform]
  obtain ⟨c0, hfc0, hcl⟩ := Cond.classLink_spec C.2.2.2.1 (C.2.2.2.2.1 _ (jG_of hw)) e.platform hpl
  have ec0 : c0 = cA := Option.some.inj (hfc0.symm.trans hnameA)
  subst ec0
  have hm' : (F0 m pc lsS (jtv E (.inl k) :: jtv E (.inl b) :: st.map (jtv E))).method = m := rfl
  obtain ⟨hg₁, hwarm₁, hready₁⟩ := State.classEntry (e := e) X.warmed hcl
  generalize T.vm.noted m.cls idx (.cls c0) = vm₁ at hg₁ hwarm₁ hready₁
  have hal : s.vm.Alike vm₁ := hwarm₁.alike
  obtain ⟨kA₁, hkA₁, heA⟩ := hal.2.2 _ _ hkA
  obtain ⟨kC₁, hkC₁, heC⟩ := hal.2.2 _ _ hkC
  have hkindA₁ : kA₁.kind = .array comp' (.array .int) := by rw [heA]; exact hkindA
  have hkindC₁ : kC₁.kind = .array cc .int := by rw [heC]; exact hkindC
  have X₁ := X.noted hwarm₁
  have hmul : b.toNat * k.toNat ≤ 10000 * 10000 := Nat.mul_le_mul (by omega) (by omega)
  obtain ⟨hr1, hr2⟩ := X.roomAbove (a := 1 + b.toNat) (b := b.toNat + b.toNat * k.toNat) (by omega) (by omega)
  have hTs : T.heap.size = jb0 E + n := by rw [hT]; exact hH.1
  have XF := jm_stand X₁ c0 comp' b.toNat k.toNat b.toNat
  have hF := jmF_at (T.setVm vm₁) c0 comp' b.toNat k.toNat b.toNat
  have hsame : (T.setVm vm₁).heap = H := hT
  -- the classes of the rows
  have hcA : c0 = E.2.1 5 := by
    have k4 := (C.2.2.2.2.2.1.1.2 4 _ rfl).2
    exact Option.some.inj (hnameA.symm.trans k4)
  have hcI : comp' = E.2.1 1 := by
    have hR := (C.2.2.2.2.2.1.1.2 0 _ rfl).2
    exact Option.some.inj (hcomp.symm.trans hR)
  subst hcA
  subst hcI
  obtain ⟨f1, f2, -, -, f5, f6⟩ := hF
  rw [hsame] at f1 f2 f5 f6
  have hHp : jHp E (n + 1 + b.toNat) (jmu (jnw r n (1 + b.toNat) (-1)) n b.toNat) (jnw h n (1 + b.toNat) 0) (jmF (T.setVm vm₁) (E.2.1 5) (E.2.1 1) b.toNat k.toNat b.toNat).heap := by
    rw [show n + 1 + b.toNat = n + (1 + b.toNat) by omega]
    refine jHp_new hH (c := 1 + b.toNat) (by rw [f1]; omega) f5 (fun j q hj => ?_) (fun j q hj => jnw_lt hj) (fun j hj => ?_) (jnw_bd hH.2.2.2 n (1 + b.toNat))
    · unfold jmu
      rw [if_neg (by omega)]
      exact jnw_lt hj
    · cases j with
      | zero =>
        refine jo_arr (E := E) (i := (n : Int)) (by omega) (by rw [g6]; exact Nat.succ_ne_zero 4) ?_
        rw [g6]
        show (jmF (T.setVm vm₁) (E.2.1 5) (E.2.1 1) b.toNat k.toNat b.toNat).heap[jb0 E + n]? = _
        rw [← hH.1, f2]
        unfold jmO
        congr 2
        refine funext fun j => ?_
        show (if j < b.toNat then Value.ref (H.size + 1 + j) else .null) = jtv E (.inr (.inr (.inl (jmu (jnw r n (1 + b.toNat) (-1)) n b.toNat (n : Int) (j : Int)))))
        unfold jmu
        by_cases q : j < b.toNat
        · rw [if_pos q, if_pos ⟨rfl, by omega, by omega⟩, jtv_ref (by omega), hH.1]
          refine congrArg Value.ref ?_
          show jb0 E + n + 1 + j = jb0 E + ((n : Int) + 1 + (j : Int)).toNat
          rw [show ((n : Int) + 1 + (j : Int)).toNat = n + 1 + j by omega]
          omega
        · have q2 : jnw r n (1 + b.toNat) (-1) (n : Int) (j : Int) = -1 := if_pos (by omega)
          rw [if_neg q, if_neg (by omega), q2]
          rfl
      | succ j =>
        have hj' : j < b.toNat := by omega
        have h9 := jo_arr (E := E) (r := jmu (jnw r n (1 + b.toNat) (-1)) n b.toNat) (h := jnw h n (1 + b.toNat) 0) (H := (jmF (T.setVm vm₁) (E.2.1 5) (E.2.1 1) b.toNat k.toNat b.toNat).heap) (i := (n : Int) + 1 + j) (by omega) (by rw [g7 j hj']; exact Nat.one_ne_zero) (by
          rw [g7 j hj', show ((n : Int) + 1 + (j : Int)).toNat = n + 1 + j by omega, show jb0 E + (n + 1 + j) = H.size + 1 + j by rw [hH.1]; omega, f6 j hj']
          unfold jmI
          congr 2
          funext q
          have q1 : jnw h n (1 + b.toNat) 0 ((n : Int) + 1 + j) q = 0 := if_pos (by omega)
          rw [q1]
          rfl)
        rwa [show ((n : Int) + 1 + (j : Int)).toNat = n + (j + 1) by omega] at h9
  have XF2 : Stand p l e R s m args below meth c (jmF (T.setVm vm₁) (E.2.1 5) (E.2.1 1) b.toNat k.toNat b.toNat) (locs ++ (List.range b.toNat).map fun j => ⟨T.heap.size, j⟩) (n - n0 + 1 + b.toNat) (jSZ n - jSZ n0 + b.toNat + b.toNat * k.toNat) := XF
  have hk2 := g8 lsS _ (locs ++ (List.range b.toNat).map fun j => ⟨T.heap.size, j⟩) ⟨hS.1, hS.2.1, hS.2.2.1, jokc (jokd (jokd hS.2.2.2.1)) trivial, hHp, fun q hq => by
    rcases List.mem_append.mp hq with z | z
    · exact hS.2.2.2.2.2.1 q z
    · obtain ⟨y, -, hy⟩ := List.mem_map.mp z
      rw [← hy, hTs]
      exact Nat.le_add_right _ _, by omega, by omega⟩
  rw [e1, e2, List.map_cons, jtv_ref (by omega)] at hk2
  obtain ⟨t, a1, b1⟩ := hk2 _ rfl XF2
  refine ⟨t, ?_, b1⟩
  have hl1 : ¬ b.toNat > e.platform.arrayLengthLimit := by rw [Launch.admits_arrayLengthLimit X.admits]; omega
  have hh1 : ¬ b.toNat * 4 > e.platform.maxHeapBytes := by rw [Launch.admits_maxHeapBytes X.admits]; omega
  have hl2 : ¬ k.toNat > e.platform.arrayLengthLimit := by rw [Launch.admits_arrayLengthLimit X.admits]; omega
  have hh2 : ¬ k.toNat * 4 > e.platform.maxHeapBytes := by rw [Launch.admits_maxHeapBytes X.admits]; omega
  jvm_step X.here [C.1, C.2.1, hd]
  simp only [multianewarray.sem, wp_bind', W.resolveClassAt_links (State.method?_setTop (F0 m pc lsS (jtv E (.inl k) :: jtv E (.inl b) :: st.map (jtv E))) X.here.top) hg₁]
  rw [W.popN, if_neg (by decide)]
  refine ⟨F0 m pc lsS (jtv E (.inl k) :: jtv E (.inl b) :: st.map (jtv E)), State.topJava?_setTop' (s := T.setVm vm₁) _ X.here.top, [.int (Int32.ofInt b), .int (Int32.ofInt k)], st.map (jtv E), rfl, rfl, ?_⟩
  simp only [List.mapM_cons, List.mapM_nil, wp_bind', wp_pure']
  refine jm_make (kA := kA₁) (kI := kC₁) (cI := E.2.1 1) (cc := cc) hkA₁ hkindA₁ hkC₁ hkindC₁ (neg hb0 g1) (neg hk0 g3) (by rw [hb']; exact hl1) (by rw [hb']; exact hh1) (by rw [hk']; exact hl2) (by rw [hk']; exact hh2) (by rw [hb']; show T.heap.size + 1 + _ ≤ _; omega) (by rw [hb', hk']; show T.slotsUsed + _ + _ ≤ _; omega) (fun d' acts' => ?_)
  rw [hb', hk']
  have eS : ((T.setTop (F0 m pc lsS (jtv E (.inl k) :: jtv E (.inl b) :: st.map (jtv E)))).setVm vm₁).setTop (F0 m pc lsS (st.map (jtv E))) = (T.setVm vm₁).setTop (F0 m pc lsS (st.map (jtv E))) := by
    show ((T.setVm vm₁).setTop _).setTop _ = _
    rw [State.setTop_setTop]
  rw [eS, jmF_top]
  simp only [wp_bind', W.mark, W.pushRef, State.topJava?_setTop' _ XF2.here.top, Option.some.injEq, exists_eq_left', State.setTop_setTop, State.heap_setTop]
  intro acts
  simp [jvm, XF2.here.top]
  rw [Int.toNat_natCast, ← hTs] at a1
  exact a1
end jmrow
end
section
/-! ===== A STRETCH IS SOUND ===== -/
theorem jCI : ∀ ci, ci < 13 → jcw (jCP.getD ci (0, 0)).1 (.instantiable (vwCl.getD ci ("", TX0, 0)).1 (vwCl.getD ci ("", TX0, 0)).2.2) = true ∧ jcw (jCP.getD ci (0, 0)).2 (.initialized (vwCl.getD ci ("", TX0, 0)).1) = true := by decide +kernel
theorem jG_dec {w : Cond} (h : (decide (w ∈ lw_tbl) && goodWord w) = true) : w ∈ jG := by
  simp only [Bool.and_eq_true, decide_eq_true_eq] at h
  exact List.mem_filter.mpr h
theorem jw_int : (Cond.arrayClass .int) ∈ jG := jG_dec (by decide +kernel)
theorem jw_long : (Cond.arrayClass .long) ∈ jG := jG_dec (by decide +kernel)
theorem jw_bool : (Cond.arrayClass .boolean) ∈ jG := jG_dec (by decide +kernel)
theorem jw_obj1 : (Cond.instanceMethod objectInit) ∈ jG := jG_dec (by decide +kernel)
theorem jw_obj2 : (Cond.code objectInit ⟨#[0xb1]⟩ 1 none) ∈ jG := jG_dec (by decide +kernel)
theorem jw_cp1 : (Cond.native arraycopyName) ∈ jG := jG_dec (by decide +kernel)
theorem jw_cp2 : (Cond.static arraycopyName) ∈ jG := jG_dec (by decide +kernel)
theorem jw_cp3 : (Cond.initialized "java/lang/System") ∈ jG := jG_dec (by decide +kernel)
theorem jw_ma : (Cond.initialized "java/lang/Math") ∈ jG := jG_dec (by decide +kernel)
theorem jw_m0 : (Cond.static Lib.Math.min.name) ∈ jG ∧ (Cond.code Lib.Math.min.name Lib.Math.min.code 2 (some .int)) ∈ jG := ⟨jG_dec (by decide +kernel), jG_dec (by decide +kernel)⟩
theorem jw_m1 : (Cond.static Lib.Math.max.name) ∈ jG ∧ (Cond.code Lib.Math.max.name Lib.Math.max.code 2 (some .int)) ∈ jG := ⟨jG_dec (by decide +kernel), jG_dec (by decide +kernel)⟩
theorem jw_m2 : (Cond.static Lib.Math.abs.name) ∈ jG ∧ (Cond.code Lib.Math.abs.name Lib.Math.abs.code 1 (some .int)) ∈ jG := ⟨jG_dec (by decide +kernel), jG_dec (by decide +kernel)⟩
theorem jw_m3 : (Cond.static Lib.MathLoose.min_long.x) ∈ jG ∧ (Cond.code Lib.MathLoose.min_long.x Lib.MathLoose.min_long.code 4 (some .long)) ∈ jG := ⟨jG_dec (by decide +kernel), jG_dec (by decide +kernel)⟩
section jsd
variable {E : JE} {p : Program} {l : Launch} {e : Env} {R : Room} {s : State} {m : MethodId} {args : Array Value} {below : List Frame} {meth : Method} {c : Code} {Q : State → Prop} {mm n0 n1 : Nat} {pc : Nat} {ls st : List JV} {n : Nat} {r h : JH}
/-- what returns owe -/
def jRet (E : JE) (p : Program) (l : Launch) (e : Env) (R : Room) (s : State) (m : MethodId) (args : Array Value) (below : List Frame) (meth : Method) (c : Code) (Q : State → Prop) (mm n0 n1 : Nat) (RT : JR) : Prop :=
  (∀ (pc : Nat) (ls : List JV) (x : Int) (n : Nat) (r h : JH), decode (jM mm).2.1 pc = .ok (.ireturn, 1) → ((jM mm).2.2.2.1 = some .int ∨ ((jM mm).2.2.2.1 = some .boolean ∧ (x = 0 ∨ x = 1))) → RT (some (.inl x)) n r h → jWj E p l e R s m args below meth c Q mm n0 n1 pc ls [.inl x] n r h) ∧
  (∀ (pc : Nat) (ls : List JV) (x : Int) (n : Nat) (r h : JH), decode (jM mm).2.1 pc = .ok (.lreturn, 1) → (jM mm).2.2.2.1 = some .long → RT (some (.inr (.inl x))) n r h → jWj E p l e R s m args below meth c Q mm n0 n1 pc ls [.inr (.inl x)] n r h) ∧
  (∀ (pc : Nat) (ls : List JV) (n : Nat) (r h : JH), decode (jM mm).2.1 pc = .ok (.return_, 1) → (jM mm).2.2.2.1 = none → RT none n r h → jWj E p l e R s m args below meth c Q mm n0 n1 pc ls [] n r h)
theorem js_math (C : jAt E p R s m args meth c mm n0 n1) {b : Int} {idx pp : Nat} (hw : jcw pp (.methodLink (jM mm).1.cls idx (jmn b)) = true) (hf : 1 ≤ (jM mm).2.2.2.2.1 ∧ 23 ≤ (jM mm).2.2.2.2.2.1) (hd : decode (jM mm).2.1 pc = .ok (.invokestatic idx, 3)) (K : jmth b (jWj E p l e R s m args below meth c Q mm n0 n1 (pc + 3)) ls st n r h) : jWj E p l e R s m args below meth c Q mm n0 n1 pc ls st n r h := fun lsS H locs hS => by
  have hfr : 1 ≤ R.frames := by have := C.2.2.2.2.2.2.1; omega
  have hlo : 23 ≤ R.locals := by have := C.2.2.2.2.2.2.2.1; omega
  have hcap := C.2.2.2.2.2.2.2.2.1 n hS.2.2.2.2.2.2.2
  have hml : c.maxLocals = lsS.size := by rw [C.2.2.1]; exact hS.1.1.symm
  have hl := C.2.2.2.2.1 _ (jG_of hw)
  have hok := hS.2.2.2.1
  unfold jmth at K
  split at K
  · rename_i y x s9
    have hx : jR32 x := hok _ (List.mem_cons_of_mem _ List.mem_cons_self)
    have hy : jR32 y := hok _ List.mem_cons_self
    have hr : jok (.inl (if y < x then y else x)) := by by_cases q : y < x <;> simp only [q, if_true, if_false] <;> first | exact hy | exact hx
    have h2 := K.2 lsS H locs (jS_st hS (jok2 hok hr))
    refine va_mmin (x := Int32.ofInt x) (y := Int32.ofInt y) C.1 C.2.1 hml C.2.2.2.1 hl (C.2.2.2.2.1 _ jw_m0.1) (C.2.2.2.2.1 _ jw_ma) (C.2.2.2.2.1 _ jw_m0.2) hfr (by have := jcat8 (E := E) K.1; omega) hcap.1 hcap.2 hd ?_
    have e9 : (if Int32.ofInt y < Int32.ofInt x then Int32.ofInt y else Int32.ofInt x) = Int32.ofInt (if y < x then y else x) := by
      by_cases q : y < x
      · rw [if_pos ((jlt32 hy hx).mpr q), if_pos q]
      · rw [if_neg (fun z => q ((jlt32 hy hx).mp z)), if_neg q]
    rw [e9]
    exact h2
  · rename_i y x s9
    have hx : jR32 x := hok _ (List.mem_cons_of_mem _ List.mem_cons_self)
    have hy : jR32 y := hok _ List.mem_cons_self
    have hr : jok (.inl (if x < y then y else x)) := by by_cases q : x < y <;> simp only [q, if_true, if_false] <;> first | exact hy | exact hx
    have h2 := K.2 lsS H locs (jS_st hS (jok2 hok hr))
    refine va_mmax (x := Int32.ofInt x) (y := Int32.ofInt y) C.1 C.2.1 hml C.2.2.2.1 hl (C.2.2.2.2.1 _ jw_m1.1) (C.2.2.2.2.1 _ jw_ma) (C.2.2.2.2.1 _ jw_m1.2) hfr (by have := jcat8 (E := E) K.1; omega) hcap.1 hcap.2 hd ?_
    have e9 : (if Int32.ofInt x < Int32.ofInt y then Int32.ofInt y else Int32.ofInt x) = Int32.ofInt (if x < y then y else x) := by
      by_cases q : x < y
      · rw [if_pos ((jlt32 hx hy).mpr q), if_pos q]
      · rw [if_neg (fun z => q ((jlt32 hx hy).mp z)), if_neg q]
    rw [e9]
    exact h2
  · rename_i x s9
    have hx : jR32 x := hok _ List.mem_cons_self
    have hr : jok (.inl (if 0 ≤ x then x else jw32 (-x))) := by by_cases q : 0 ≤ x <;> simp only [q, if_true, if_false] <;> first | exact hx | exact j32_r _
    have h2 := K.2 lsS H locs (jS_st hS (jok1 hok hr))
    refine va_mabs (x := Int32.ofInt x) C.1 C.2.1 hml C.2.2.2.1 hl (C.2.2.2.2.1 _ jw_m2.1) (C.2.2.2.2.1 _ jw_ma) (C.2.2.2.2.1 _ jw_m2.2) hfr (by have := jcat8 (E := E) K.1; omega) hcap.1 hcap.2 hd ?_
    have e9 : (if 0 ≤ Int32.ofInt x then Int32.ofInt x else 0 - Int32.ofInt x) = Int32.ofInt (if 0 ≤ x then x else jw32 (-x)) := by
      have hz : (0 : Int32) ≤ Int32.ofInt x ↔ 0 ≤ x := jle32 (x := 0) ⟨by omega, by omega⟩ hx
      by_cases q : 0 ≤ x
      · rw [if_pos (hz.mpr q), if_pos q]
      · rw [if_neg (fun z => q (hz.mp z)), if_neg q, jof32, Int32.ofInt_neg, Int32.zero_sub]
    rw [e9]
    exact h2
  · rename_i y x s9
    have hx : jR64 x := hok _ (List.mem_cons_of_mem _ List.mem_cons_self)
    have hy : jR64 y := hok _ List.mem_cons_self
    have hr : jok (.inr (.inl (if y < x then y else x))) := by by_cases q : y < x <;> simp only [q, if_true, if_false] <;> first | exact hy | exact hx
    have h2 := K.2 lsS H locs (jS_st hS (jok2 hok hr))
    refine va_mmin_long (x := Int64.ofInt x) (y := Int64.ofInt y) C.1 C.2.1 hml C.2.2.2.1 hl (C.2.2.2.2.1 _ jw_m3.1) (C.2.2.2.2.1 _ jw_ma) (C.2.2.2.2.1 _ jw_m3.2) hfr (by have := jcat8 (E := E) K.1; omega) hcap.1 hcap.2 hd ?_
    have e9 : (if Int64.ofInt y < Int64.ofInt x then Int64.ofInt y else Int64.ofInt x) = Int64.ofInt (if y < x then y else x) := by
      by_cases q : y < x
      · rw [if_pos ((jlt64 hy hx).mpr q), if_pos q]
      · rw [if_neg (fun z => q ((jlt64 hy hx).mp z)), if_neg q]
    rw [e9]
    exact h2
  · exact K.elim
section inv
variable {K : JK} {f : Int → Int → Int} {a t z : Nat} {b : Int} {NX : JN} {RT : JR}
theorem jbin_i (h0 : jbin f K ls st n r h) : ∃ y x s9, st = .inl y :: .inl x :: s9 ∧ K ls (.inl (f x y) :: s9) n r h := by
  unfold jbin at h0; split at h0
  · exact ⟨_, _, _, rfl, h0⟩
  · exact h0.elim
theorem jbil_i (h0 : jbil f K ls st n r h) : ∃ y x s9, st = .inr (.inl y) :: .inr (.inl x) :: s9 ∧ K ls (.inr (.inl (f x y)) :: s9) n r h := by
  unfold jbil at h0; split at h0
  · exact ⟨_, _, _, rfl, h0⟩
  · exact h0.elim
theorem jdvi_i (h0 : jdvi f K ls st n r h) : ∃ y x s9, st = .inl y :: .inl x :: s9 ∧ y ≠ 0 ∧ K ls (.inl (f x y) :: s9) n r h := by
  unfold jdvi at h0; split at h0
  · exact ⟨_, _, _, rfl, h0⟩
  · exact h0.elim
theorem jdvl_i (h0 : jdvl f K ls st n r h) : ∃ y x s9, st = .inr (.inl y) :: .inr (.inl x) :: s9 ∧ y ≠ 0 ∧ K ls (.inr (.inl (f x y)) :: s9) n r h := by
  unfold jdvl at h0; split at h0
  · exact ⟨_, _, _, rfl, h0⟩
  · exact h0.elim
theorem jldi_i (h0 : jldi a K ls st n r h) : ∃ x, jget ls a = .inl x ∧ K ls (.inl x :: st) n r h := by
  unfold jldi at h0; split at h0
  · rename_i x hx; exact ⟨x, hx, h0⟩
  · exact h0.elim
theorem jldl_i (h0 : jldl a K ls st n r h) : ∃ x, jget ls a = .inr (.inl x) ∧ K ls (.inr (.inl x) :: st) n r h := by
  unfold jldl at h0; split at h0
  · rename_i x hx; exact ⟨x, hx, h0⟩
  · exact h0.elim
theorem jldr_i (h0 : jldr a K ls st n r h) : ∃ x, jget ls a = .inr (.inr (.inl x)) ∧ K ls (.inr (.inr (.inl x)) :: st) n r h := by
  unfold jldr at h0; split at h0
  · rename_i x hx; exact ⟨x, hx, h0⟩
  · exact h0.elim
theorem jinc_i (h0 : jinc a b K ls st n r h) : ∃ x, jget ls a = .inl x ∧ K (jst1 ls a (.inl (jw32 (x + b)))) st n r h := by
  unfold jinc at h0; split at h0
  · rename_i x hx; exact ⟨x, hx, h0⟩
  · exact h0.elim
theorem jsti_i (h0 : jsti a K ls st n r h) : ∃ x s9, st = .inl x :: s9 ∧ K (jst1 ls a (.inl x)) s9 n r h := by
  unfold jsti at h0; split at h0
  · exact ⟨_, _, rfl, h0⟩
  · exact h0.elim
theorem jstl_i (h0 : jstl a K ls st n r h) : ∃ x s9, st = .inr (.inl x) :: s9 ∧ K (jst1 (jst1 ls (a + 1) (.inr (.inr (.inr ())))) a (.inr (.inl x))) s9 n r h := by
  unfold jstl at h0; split at h0
  · exact ⟨_, _, rfl, h0⟩
  · exact h0.elim
theorem jstr_i (h0 : jstr a K ls st n r h) : ∃ x s9, st = .inr (.inr (.inl x)) :: s9 ∧ x ≠ -1 ∧ K (jst1 ls a (.inr (.inr (.inl x)))) s9 n r h := by
  unfold jstr at h0; split at h0
  · exact ⟨_, _, rfl, h0⟩
  · exact h0.elim
theorem jif1_i {P : Int → Prop} (h0 : jif1 NX P a K ls st n r h) : ∃ x s9, st = .inl x :: s9 ∧ (P x → NX a ls s9 n r h) ∧ (¬ P x → K ls s9 n r h) := by
  unfold jif1 at h0; split at h0
  · exact ⟨_, _, rfl, h0⟩
  · exact h0.elim
theorem jif2_i {P : Int → Int → Prop} (h0 : jif2 NX P a K ls st n r h) : ∃ y x s9, st = .inl y :: .inl x :: s9 ∧ (P x y → NX a ls s9 n r h) ∧ (¬ P x y → K ls s9 n r h) := by
  unfold jif2 at h0; split at h0
  · exact ⟨_, _, _, rfl, h0⟩
  · exact h0.elim
theorem jgfi_i (h0 : jgfi a b K ls st n r h) : ∃ i s9, st = .inr (.inr (.inl i)) :: s9 ∧ 0 ≤ i ∧ i < n ∧ jk i = (0, a) ∧ (jbd i b (h i b) → K ls (.inl (h i b) :: s9) n r h) := by
  unfold jgfi at h0; split at h0
  · exact ⟨_, _, rfl, h0⟩
  · exact h0.elim
theorem jgfr_i (h0 : jgfr a b K ls st n r h) : ∃ i s9, st = .inr (.inr (.inl i)) :: s9 ∧ 0 ≤ i ∧ i < n ∧ jk i = (0, a) ∧ K ls (.inr (.inr (.inl (r i b))) :: s9) n r h := by
  unfold jgfr at h0; split at h0
  · exact ⟨_, _, rfl, h0⟩
  · exact h0.elim
theorem jpfi_i (h0 : jpfi a b K ls st n r h) : ∃ x i s9, st = .inl x :: .inr (.inr (.inl i)) :: s9 ∧ 0 ≤ i ∧ i < n ∧ jk i = (0, a) ∧ (jR32 x → jbd i b x) ∧ K ls s9 n r (jup h i b x) := by
  unfold jpfi at h0; split at h0
  · exact ⟨_, _, _, rfl, h0⟩
  · exact h0.elim
theorem jpfr_i (h0 : jpfr a b K ls st n r h) : ∃ x i s9, st = .inr (.inr (.inl x)) :: .inr (.inr (.inl i)) :: s9 ∧ 0 ≤ i ∧ i < n ∧ jk i = (0, a) ∧ 0 ≤ x ∧ K ls s9 n (jup r i b x) h := by
  unfold jpfr at h0; split at h0
  · exact ⟨_, _, _, rfl, h0⟩
  · exact h0.elim
theorem jald_i (h0 : jald E t K ls st n r h) : ∃ k i s9, st = .inl k :: .inr (.inr (.inl i)) :: s9 := by
  unfold jald at h0; split at h0
  · exact ⟨_, _, _, rfl⟩
  · exact h0.elim
theorem jald_m {K' : JK} (hK : ∀ ls st n r h, K ls st n r h → K' ls st n r h) (h0 : jald E t K ls st n r h) : jald E t K' ls st n r h := by
  obtain ⟨k, i, s9, rfl⟩ := jald_i h0
  exact ⟨fun q => ⟨(h0.1 q).1, (h0.1 q).2.1, (h0.1 q).2.2.1, (h0.1 q).2.2.2.1, fun z => hK _ _ _ _ _ ((h0.1 q).2.2.2.2 z)⟩, fun q => ⟨(h0.2 q).1, (h0.2 q).2.1, (h0.2 q).2.2.1, (h0.2 q).2.2.2.1, hK _ _ _ _ _ (h0.2 q).2.2.2.2⟩⟩
theorem jalr_m {K' : JK} (hK : ∀ ls st n r h, K ls st n r h → K' ls st n r h) (h0 : jalr K ls st n r h) : ∃ k i s9, st = .inl k :: .inr (.inr (.inl i)) :: s9 ∧ jalr K' ls (.inl k :: .inr (.inr (.inl i)) :: s9) n r h := by
  unfold jalr at h0; split at h0
  · exact ⟨_, _, _, rfl, h0.1, h0.2.1, h0.2.2.1, h0.2.2.2.1, h0.2.2.2.2.1, hK _ _ _ _ _ h0.2.2.2.2.2⟩
  · exact h0.elim
theorem jast_m {K' : JK} (hK : ∀ ls st n r h, K ls st n r h → K' ls st n r h) (h0 : jast t K ls st n r h) : ∃ x k i s9, st = .inl x :: .inl k :: .inr (.inr (.inl i)) :: s9 ∧ jast t K' ls (.inl x :: .inl k :: .inr (.inr (.inl i)) :: s9) n r h := by
  unfold jast at h0; split at h0
  · exact ⟨_, _, _, _, rfl, h0.1, h0.2.1, h0.2.2.1, h0.2.2.2.1, h0.2.2.2.2.1, h0.2.2.2.2.2.1, hK _ _ _ _ _ h0.2.2.2.2.2.2⟩
  · exact h0.elim
theorem jasl_m {K' : JK} (hK : ∀ ls st n r h, K ls st n r h → K' ls st n r h) (h0 : jasl K ls st n r h) : ∃ x k i s9, st = .inr (.inl x) :: .inl k :: .inr (.inr (.inl i)) :: s9 ∧ jasl K' ls (.inr (.inl x) :: .inl k :: .inr (.inr (.inl i)) :: s9) n r h := by
  unfold jasl at h0; split at h0
  · exact ⟨_, _, _, _, rfl, h0.1, h0.2.1, h0.2.2.1, h0.2.2.2.1, h0.2.2.2.2.1, h0.2.2.2.2.2.1, hK _ _ _ _ _ h0.2.2.2.2.2.2⟩
  · exact h0.elim
theorem jasr_m {K' : JK} (hK : ∀ ls st n r h, K ls st n r h → K' ls st n r h) (h0 : jasr K ls st n r h) : ∃ x k i s9, st = .inr (.inr (.inl x)) :: .inl k :: .inr (.inr (.inl i)) :: s9 ∧ jasr K' ls (.inr (.inr (.inl x)) :: .inl k :: .inr (.inr (.inl i)) :: s9) n r h := by
  unfold jasr at h0; split at h0
  · exact ⟨_, _, _, _, rfl, h0.1, h0.2.1, h0.2.2.1, h0.2.2.2.1, h0.2.2.2.2.1, h0.2.2.2.2.2.1, h0.2.2.2.2.2.2.1, h0.2.2.2.2.2.2.2.1, hK _ _ _ _ _ h0.2.2.2.2.2.2.2.2⟩
  · exact h0.elim
theorem jaln_m {K' : JK} (hK : ∀ ls st n r h, K ls st n r h → K' ls st n r h) (h0 : jaln E K ls st n r h) : ∃ i s9, st = .inr (.inr (.inl i)) :: s9 ∧ jaln E K' ls (.inr (.inr (.inl i)) :: s9) n r h := by
  unfold jaln at h0; split at h0
  · exact ⟨_, _, rfl, fun q => ⟨(h0.1 q).1, (h0.1 q).2.1, (h0.1 q).2.2.1, hK _ _ _ _ _ (h0.1 q).2.2.2⟩, fun q => ⟨(h0.2 q).1, hK _ _ _ _ _ (h0.2 q).2⟩⟩
  · exact h0.elim
theorem jnwa_m {K' : JK} (hK : ∀ ls st n r h, K ls st n r h → K' ls st n r h) (h0 : jnwa n1 t K ls st n r h) : ∃ x s9, st = .inl x :: s9 ∧ jnwa n1 t K' ls (.inl x :: s9) n r h := by
  unfold jnwa at h0; split at h0
  · exact ⟨_, _, rfl, h0.1, h0.2.1, h0.2.2.1, h0.2.2.2.1, hK _ _ _ _ _ h0.2.2.2.2⟩
  · exact h0.elim
theorem jnwm_m {K' : JK} (hK : ∀ ls st n r h, K ls st n r h → K' ls st n r h) (h0 : jnwm n1 K ls st n r h) : ∃ x y s9, st = .inl x :: .inl y :: s9 ∧ jnwm n1 K' ls (.inl x :: .inl y :: s9) n r h := by
  unfold jnwm at h0; split at h0
  · exact ⟨_, _, _, rfl, h0.1, h0.2.1, h0.2.2.1, h0.2.2.2.1, h0.2.2.2.2.1, h0.2.2.2.2.2.1, h0.2.2.2.2.2.2.1, hK _ _ _ _ _ h0.2.2.2.2.2.2.2⟩
  · exact h0.elim
theorem jacp_m {K' : JK} (hK : ∀ ls st n r h, K ls st n r h → K' ls st n r h) (h0 : jacp K ls st n r h) : ∃ c0 dp d sp s0 s9, st = .inl c0 :: .inl dp :: .inr (.inr (.inl d)) :: .inl sp :: .inr (.inr (.inl s0)) :: s9 ∧ jacp K' ls (.inl c0 :: .inl dp :: .inr (.inr (.inl d)) :: .inl sp :: .inr (.inr (.inl s0)) :: s9) n r h := by
  unfold jacp at h0; split at h0
  · obtain ⟨a1, a2, a3, a4, a5, a6, a7, a8, a9, a10, a11, a12, a13, a14⟩ := h0
    exact ⟨_, _, _, _, _, _, rfl, a1, a2, a3, a4, a5, a6, a7, a8, a9, a10, a11, a12, a13, hK _ _ _ _ _ a14⟩
  · exact h0.elim
theorem jret_i (h0 : jret RT z ls st n r h) : ∃ x, st = [.inl x] ∧ (z = 1 → x = 0 ∨ x = 1) ∧ RT (some (.inl x)) n r h := by
  unfold jret at h0; split at h0
  · exact ⟨_, rfl, h0⟩
  · exact h0.elim
theorem jrel_i (h0 : jrel RT ls st n r h) : ∃ x, st = [.inr (.inl x)] ∧ RT (some (.inr (.inl x))) n r h := by
  unfold jrel at h0; split at h0
  · exact ⟨_, rfl, h0⟩
  · exact h0.elim
theorem jrev_i (h0 : jrev RT ls st n r h) : st = [] ∧ RT none n r h := by
  unfold jrev at h0; split at h0
  · exact ⟨rfl, h0⟩
  · exact h0.elim
theorem ji2l_i (h0 : ji2l K ls st n r h) : ∃ x s9, st = .inl x :: s9 ∧ K ls (.inr (.inl x) :: s9) n r h := by
  unfold ji2l at h0; split at h0
  · exact ⟨_, _, rfl, h0⟩
  · exact h0.elim
theorem jl2i_i (h0 : jl2i K ls st n r h) : ∃ x s9, st = .inr (.inl x) :: s9 ∧ K ls (.inl (jw32 x) :: s9) n r h := by
  unfold jl2i at h0; split at h0
  · exact ⟨_, _, rfl, h0⟩
  · exact h0.elim
theorem jneg_i (h0 : jneg K ls st n r h) : ∃ x s9, st = .inl x :: s9 ∧ K ls (.inl (jw32 (-x)) :: s9) n r h := by
  unfold jneg at h0; split at h0
  · exact ⟨_, _, rfl, h0⟩
  · exact h0.elim
theorem jlcp_i (h0 : jlcp K ls st n r h) : ∃ y x s9, st = .inr (.inl y) :: .inr (.inl x) :: s9 ∧ K ls (.inl (jlc x y) :: s9) n r h := by
  unfold jlcp at h0; split at h0
  · exact ⟨_, _, _, rfl, h0⟩
  · exact h0.elim
theorem jobj_m {K' : JK} (hK : ∀ ls st n r h, K ls st n r h → K' ls st n r h) (h0 : jobj K ls st n r h) : ∃ i s9, st = .inr (.inr (.inl i)) :: s9 ∧ jobj K' ls (.inr (.inr (.inl i)) :: s9) n r h := by
  unfold jobj at h0; split at h0
  · exact ⟨_, _, rfl, h0.1, h0.2.1, hK _ _ _ _ _ h0.2.2⟩
  · exact h0.elim
theorem jdp2_i (h0 : jdp2 K ls st n r h) : ∃ x i s9, st = .inl x :: .inr (.inr (.inl i)) :: s9 ∧ K ls (.inl x :: .inr (.inr (.inl i)) :: .inl x :: .inr (.inr (.inl i)) :: s9) n r h := by
  unfold jdp2 at h0; split at h0
  · exact ⟨_, _, _, rfl, h0⟩
  · exact h0.elim
theorem jmth_m {K' : JK} (hK : ∀ ls st n r h, K ls st n r h → K' ls st n r h) (h0 : jmth b K ls st n r h) : jmth b K' ls st n r h := by
  unfold jmth at h0 ⊢; split at h0
  · exact ⟨h0.1, hK _ _ _ _ _ h0.2⟩
  · exact ⟨h0.1, hK _ _ _ _ _ h0.2⟩
  · exact ⟨h0.1, hK _ _ _ _ _ h0.2⟩
  · exact ⟨h0.1, hK _ _ _ _ _ h0.2⟩
  · exact h0.elim
theorem jswt_m {NX' : JN} (hN : ∀ pc ls st n r h, NX pc ls st n r h → NX' pc ls st n r h) (pc : Nat) (x : Int) : ∀ (os : List Int) (lo : Int), jswt NX pc x lo os ls st n r h → jswt NX' pc x lo os ls st n r h
  | [], _, _ => trivial
  | _ :: os, lo, h0 => ⟨fun q => hN _ _ _ _ _ _ (h0.1 q), jswt_m hN pc x os (lo + 1) h0.2⟩
theorem jswl_m {NX' : JN} (hN : ∀ pc ls st n r h, NX pc ls st n r h → NX' pc ls st n r h) (pc : Nat) (x d : Int) : ∀ (qs : List (Int × Int)), jswl NX pc x d qs ls st n r h → jswl NX' pc x d qs ls st n r h
  | [], h0 => hN _ _ _ _ _ _ h0
  | _ :: qs, h0 => ⟨fun q => hN _ _ _ _ _ _ (h0.1 q), fun q => jswl_m hN pc x d qs (h0.2 q)⟩
theorem jtsw_m {NX' : JN} (hN : ∀ pc ls st n r h, NX pc ls st n r h → NX' pc ls st n r h) {pc : Nat} {d lo hi : Int} {os : List Int} (h0 : jtsw NX pc d lo hi os ls st n r h) : ∃ x s9, st = .inl x :: s9 ∧ jtsw NX' pc d lo hi os ls (.inl x :: s9) n r h := by
  unfold jtsw at h0; split at h0
  · exact ⟨_, _, rfl, fun q => hN _ _ _ _ _ _ (h0.1 q), jswt_m hN _ _ _ _ h0.2⟩
  · exact h0.elim
theorem jlsw_m {NX' : JN} (hN : ∀ pc ls st n r h, NX pc ls st n r h → NX' pc ls st n r h) {pc : Nat} {d : Int} {qs : List (Int × Int)} (h0 : jlsw NX pc d qs ls st n r h) : ∃ x s9, st = .inl x :: s9 ∧ jlsw NX' pc d qs ls (.inl x :: s9) n r h := by
  unfold jlsw at h0; split at h0
  · exact ⟨_, _, rfl, jswl_m hN _ _ _ _ h0⟩
  · exact h0.elim
end inv
theorem jMt_m {E : JE} {l : Launch} {m0 : Nat} {av : List JV} {n : Nat} {r h : JH} {K K' : Option JV → JH → JH → Prop} (hK : ∀ v r' h', K v r' h' → K' v r' h') (h0 : jMt E l m0 av n r h K) : jMt E l m0 av n r h K' := fun hv => by
  have h1 := h0 hv
  intro p e ha hc hk s m args below hf hpre hP ht
  obtain ⟨k, o, g1, g2, g3, ⟨⟨v, r', h', q1, q2, q3, q4⟩, q5⟩⟩ := h1 p e ha hc hk s m args below hf hpre hP ht
  exact ⟨k, o, g1, g2, g3, ⟨v, r', h', q1, q2, hK v r' h' q3, q4⟩, q5⟩
end jsd
end
section
/-! ===== ONE INSTRUCTION, A STRETCH, A METHOD ===== -/
section jgo
variable {E : JE} {p : Program} {l : Launch} {e : Env} {R : Room} {s : State} {m : MethodId} {args : Array Value} {below : List Frame} {meth : Method} {c : Code} {Q : State → Prop} {mm n0 n1 : Nat} {pc : Nat} {ls st : List JV} {n : Nat} {r h : JH}
theorem jr32_u {b : Int} (h : jr32 b = true) : jR32 b := by
  unfold jr32 at h
  unfold jR32
  exact of_decide_eq_true h
theorem jr64_u {b : Int} (h : jr64 b = true) : jR64 b := by
  unfold jr64 at h
  unfold jR64
  exact of_decide_eq_true h
theorem jbd_of {i b : Int} {pc' : Nat} {st' : List JV} (k : jbd i b (h i b) → jWj E p l e R s m args below meth c Q mm n0 n1 pc' ls st' n r h) : jWj E p l e R s m args below meth c Q mm n0 n1 pc' ls st' n r h := fun lsS H locs hS => k (hS.2.2.2.2.1.2.2.2 i b) lsS H locs hS
theorem jcas_m {K K' : JK} {m0 c0 na : Nat} (hK : ∀ ls st n r h, K ls st n r h → K' ls st n r h) (h0 : jcas (jMt E l) n1 m0 c0 na K ls st n r h) : jcas (jMt E l) n1 m0 c0 na K' ls st n r h :=
  ⟨h0.1, h0.2.1, h0.2.2.1, jMt_m (fun v r' h' q z => hK _ _ _ _ _ (q z)) h0.2.2.2⟩
theorem jcav_m {K K' : JK} {m0 c0 na ci : Nat} (hK : ∀ ls st n r h, K ls st n r h → K' ls st n r h) (h0 : jcav (jMt E l) n1 m0 c0 na ci K ls st n r h) : jcav (jMt E l) n1 m0 c0 na ci K' ls st n r h := by
  obtain ⟨i, s9, hdr, g0, g1, g2, g3, g4, g5⟩ := jcav_inv h0
  unfold jcav
  rw [hdr]
  exact ⟨g0, g1, g2, g3, g4, jMt_m (fun v r' h' q z => hK _ _ _ _ _ (q z)) g5⟩
theorem jrf {ins : Instr} {len a t u pp : Nat} {b : Int} {K : JK} {RT : JR} {NX : JN} {G : JK} (hG : ji (jMt E l) E n1 RT NX pc (ins, len, a, b, t, u, pp) K = G) (h0 : ji (jMt E l) E n1 RT NX pc (ins, len, a, b, t, u, pp) K ls st n r h) : G ls st n r h := hG ▸ h0
set_option maxHeartbeats 4000000 in
theorem ji_sound (C : jAt E p R s m args meth c mm n0 n1) {RT : JR} (hR : jRet E p l e R s m args below meth c Q mm n0 n1 RT) {NX : JN} (hN : ∀ pc ls st n r h, NX pc ls st n r h → jWj E p l e R s m args below meth c Q mm n0 n1 pc ls st n r h) {K : JK} {ins : Instr} {len a t u pp : Nat} {b : Int} (hd : decode (jM mm).2.1 pc = .ok (ins, len)) (hI : jchkI mm pc (ins, len, a, b, t, u, pp) = true) (hK : ∀ ls st n r h, K ls st n r h → jWj E p l e R s m args below meth c Q mm n0 n1 (pc + len) ls st n r h) (h0 : ji (jMt E l) E n1 RT NX pc (ins, len, a, b, t, u, pp) K ls st n r h) : jWj E p l e R s m args below meth c Q mm n0 n1 pc ls st n r h := by
  cases ins with
  | iconst c0 =>
    simp only [jchkI, Bool.and_eq_true, decide_eq_true_eq] at hI
    obtain ⟨⟨rfl, rfl⟩, hb⟩ := hI
    exact js_iconst C (jr32_u hb) hd (hK _ _ _ _ _ h0)
  | bipush c0 =>
    simp only [jchkI, Bool.and_eq_true, decide_eq_true_eq] at hI
    obtain ⟨⟨hv, rfl⟩, hb⟩ := hI
    exact js_bipush C (jr32_u hb) hv hd (hK _ _ _ _ _ h0)
  | sipush c0 =>
    simp only [jchkI, Bool.and_eq_true, decide_eq_true_eq] at hI
    obtain ⟨⟨hv, rfl⟩, hb⟩ := hI
    exact js_sipush C (jr32_u hb) hv hd (hK _ _ _ _ _ h0)
  | lconst c0 =>
    simp only [jchkI, decide_eq_true_eq] at hI
    obtain ⟨hv, rfl⟩ := hI
    exact js_lconst C hv hd (hK _ _ _ _ _ h0)
  | ldc i =>
    simp only [jchkI, Bool.and_eq_true, decide_eq_true_eq] at hI
    obtain ⟨⟨rfl, hw⟩, hb⟩ := hI
    exact js_ldc C (jr32_u hb) hw hd (hK _ _ _ _ _ h0)
  | ldc_w i =>
    simp only [jchkI, Bool.and_eq_true, decide_eq_true_eq] at hI
    obtain ⟨⟨rfl, hw⟩, hb⟩ := hI
    exact js_ldcw C (jr32_u hb) hw hd (hK _ _ _ _ _ h0)
  | ldc2_w i =>
    simp only [jchkI, Bool.and_eq_true, decide_eq_true_eq] at hI
    obtain ⟨⟨rfl, hw⟩, hb⟩ := hI
    exact js_ldc2 C (jr64_u hb) hw hd (hK _ _ _ _ _ h0)
  | iload_n k0 =>
    simp only [jchkI, decide_eq_true_eq] at hI
    obtain ⟨ha, rfl⟩ := hI
    obtain ⟨x, g1, g2⟩ := jldi_i h0
    exact js_iload_n C ha g1 hd (hK _ _ _ _ _ g2)
  | iload k0 =>
    simp only [jchkI, decide_eq_true_eq] at hI
    obtain ⟨rfl, rfl⟩ := hI
    obtain ⟨x, g1, g2⟩ := jldi_i h0
    exact js_iload C g1 hd (hK _ _ _ _ _ g2)
  | lload_n k0 =>
    simp only [jchkI, decide_eq_true_eq] at hI
    obtain ⟨ha, rfl⟩ := hI
    obtain ⟨x, g1, g2⟩ := jldl_i h0
    exact js_lload_n C ha g1 hd (hK _ _ _ _ _ g2)
  | lload k0 =>
    simp only [jchkI, decide_eq_true_eq] at hI
    obtain ⟨rfl, rfl⟩ := hI
    obtain ⟨x, g1, g2⟩ := jldl_i h0
    exact js_lload C g1 hd (hK _ _ _ _ _ g2)
  | aload_n k0 =>
    simp only [jchkI, decide_eq_true_eq] at hI
    obtain ⟨ha, rfl⟩ := hI
    obtain ⟨x, g1, g2⟩ := jldr_i h0
    exact js_aload_n C ha g1 hd (hK _ _ _ _ _ g2)
  | aload k0 =>
    simp only [jchkI, decide_eq_true_eq] at hI
    obtain ⟨rfl, rfl⟩ := hI
    obtain ⟨x, g1, g2⟩ := jldr_i h0
    exact js_aload C g1 hd (hK _ _ _ _ _ g2)
  | istore_n k0 =>
    simp only [jchkI, decide_eq_true_eq] at hI
    obtain ⟨ha, rfl, hl⟩ := hI
    obtain ⟨x, s9, rfl, g2⟩ := jsti_i h0
    exact js_istore_n C ha hl hd (hK _ _ _ _ _ g2)
  | istore k0 =>
    simp only [jchkI, decide_eq_true_eq] at hI
    obtain ⟨rfl, rfl, hl⟩ := hI
    obtain ⟨x, s9, rfl, g2⟩ := jsti_i h0
    exact js_istore C hl hd (hK _ _ _ _ _ g2)
  | lstore_n k0 =>
    simp only [jchkI, decide_eq_true_eq] at hI
    obtain ⟨ha, rfl, hl⟩ := hI
    obtain ⟨x, s9, rfl, g2⟩ := jstl_i h0
    exact js_lstore_n C ha hl hd (hK _ _ _ _ _ g2)
  | lstore k0 =>
    simp only [jchkI, decide_eq_true_eq] at hI
    obtain ⟨rfl, rfl, hl⟩ := hI
    obtain ⟨x, s9, rfl, g2⟩ := jstl_i h0
    exact js_lstore C hl hd (hK _ _ _ _ _ g2)
  | astore_n k0 =>
    simp only [jchkI, decide_eq_true_eq] at hI
    obtain ⟨ha, rfl, hl⟩ := hI
    obtain ⟨x, s9, rfl, g1, g2⟩ := jstr_i h0
    exact js_astore_n C g1 ha hl hd (hK _ _ _ _ _ g2)
  | astore k0 =>
    simp only [jchkI, decide_eq_true_eq] at hI
    obtain ⟨rfl, rfl, hl⟩ := hI
    obtain ⟨x, s9, rfl, g1, g2⟩ := jstr_i h0
    exact js_astore C g1 hl hd (hK _ _ _ _ _ g2)
  | iinc k0 c0 =>
    simp only [jchkI, decide_eq_true_eq] at hI
    obtain ⟨rfl, rfl, rfl, hl⟩ := hI
    obtain ⟨x, g1, g2⟩ := jinc_i h0
    exact js_iinc C g1 hl hd (hK _ _ _ _ _ g2)
  | iadd =>
    simp only [jchkI, decide_eq_true_eq] at hI
    subst hI
    obtain ⟨y, x, s9, rfl, g2⟩ := jbin_i h0
    exact js_iadd C hd (hK _ _ _ _ _ g2)
  | isub =>
    simp only [jchkI, decide_eq_true_eq] at hI
    subst hI
    obtain ⟨y, x, s9, rfl, g2⟩ := jbin_i h0
    exact js_isub C hd (hK _ _ _ _ _ g2)
  | imul =>
    simp only [jchkI, decide_eq_true_eq] at hI
    subst hI
    obtain ⟨y, x, s9, rfl, g2⟩ := jbin_i h0
    exact js_imul C hd (hK _ _ _ _ _ g2)
  | iand =>
    simp only [jchkI, decide_eq_true_eq] at hI
    subst hI
    obtain ⟨y, x, s9, rfl, g2⟩ := jbin_i h0
    exact js_iand C hd (hK _ _ _ _ _ g2)
  | ior =>
    simp only [jchkI, decide_eq_true_eq] at hI
    subst hI
    obtain ⟨y, x, s9, rfl, g2⟩ := jbin_i h0
    exact js_ior C hd (hK _ _ _ _ _ g2)
  | ixor =>
    simp only [jchkI, decide_eq_true_eq] at hI
    subst hI
    obtain ⟨y, x, s9, rfl, g2⟩ := jbin_i h0
    exact js_ixor C hd (hK _ _ _ _ _ g2)
  | ishl =>
    simp only [jchkI, decide_eq_true_eq] at hI
    subst hI
    obtain ⟨y, x, s9, rfl, g2⟩ := jbin_i h0
    exact js_ishl C hd (hK _ _ _ _ _ g2)
  | ishr =>
    simp only [jchkI, decide_eq_true_eq] at hI
    subst hI
    obtain ⟨y, x, s9, rfl, g2⟩ := jbin_i h0
    exact js_ishr C hd (hK _ _ _ _ _ g2)
  | idiv =>
    simp only [jchkI, decide_eq_true_eq] at hI
    subst hI
    obtain ⟨y, x, s9, rfl, g1, g2⟩ := jdvi_i h0
    exact js_idiv C g1 hd (hK _ _ _ _ _ g2)
  | irem =>
    simp only [jchkI, decide_eq_true_eq] at hI
    subst hI
    obtain ⟨y, x, s9, rfl, g1, g2⟩ := jdvi_i h0
    exact js_irem C g1 hd (hK _ _ _ _ _ g2)
  | ladd =>
    simp only [jchkI, decide_eq_true_eq] at hI
    subst hI
    obtain ⟨y, x, s9, rfl, g2⟩ := jbil_i h0
    exact js_ladd C hd (hK _ _ _ _ _ g2)
  | lsub =>
    simp only [jchkI, decide_eq_true_eq] at hI
    subst hI
    obtain ⟨y, x, s9, rfl, g2⟩ := jbil_i h0
    exact js_lsub C hd (hK _ _ _ _ _ g2)
  | lmul =>
    simp only [jchkI, decide_eq_true_eq] at hI
    subst hI
    obtain ⟨y, x, s9, rfl, g2⟩ := jbil_i h0
    exact js_lmul C hd (hK _ _ _ _ _ g2)
  | ldiv =>
    simp only [jchkI, decide_eq_true_eq] at hI
    subst hI
    obtain ⟨y, x, s9, rfl, g1, g2⟩ := jdvl_i h0
    exact js_ldiv C g1 hd (hK _ _ _ _ _ g2)
  | lrem =>
    simp only [jchkI, decide_eq_true_eq] at hI
    subst hI
    obtain ⟨y, x, s9, rfl, g1, g2⟩ := jdvl_i h0
    exact js_lrem C g1 hd (hK _ _ _ _ _ g2)
  | ineg =>
    simp only [jchkI, decide_eq_true_eq] at hI
    subst hI
    obtain ⟨x, s9, rfl, g2⟩ := jneg_i h0
    exact js_ineg C hd (hK _ _ _ _ _ g2)
  | i2l =>
    simp only [jchkI, decide_eq_true_eq] at hI
    subst hI
    obtain ⟨x, s9, rfl, g2⟩ := ji2l_i h0
    exact js_i2l C hd (hK _ _ _ _ _ g2)
  | l2i =>
    simp only [jchkI, decide_eq_true_eq] at hI
    subst hI
    obtain ⟨x, s9, rfl, g2⟩ := jl2i_i h0
    exact js_l2i C hd (hK _ _ _ _ _ g2)
  | lcmp =>
    simp only [jchkI, decide_eq_true_eq] at hI
    subst hI
    obtain ⟨y, x, s9, rfl, g2⟩ := jlcp_i h0
    exact js_lcmp C hd (hK _ _ _ _ _ g2)
  | dup =>
    simp only [jchkI, decide_eq_true_eq] at hI
    subst hI
    have h0 : jdup K ls st n r h := h0
    unfold jdup at h0
    split at h0
    · exact js_dup C (fun z q => by cases q) hd (hK _ _ _ _ _ h0)
    · exact js_dup C (fun z q => by cases q) hd (hK _ _ _ _ _ h0)
    · exact h0.elim
  | pop =>
    simp only [jchkI, decide_eq_true_eq] at hI
    subst hI
    have h0 : jpop K ls st n r h := h0
    unfold jpop at h0
    split at h0
    · exact js_pop C (fun z q => by cases q) hd (hK _ _ _ _ _ h0)
    · exact js_pop C (fun z q => by cases q) hd (hK _ _ _ _ _ h0)
    · exact h0.elim
  | dup2 =>
    simp only [jchkI, decide_eq_true_eq] at hI
    subst hI
    obtain ⟨x, i, s9, rfl, g2⟩ := jdp2_i h0
    exact js_dup2 C (fun z q => by cases q) (fun z q => by cases q) hd (hK _ _ _ _ _ g2)
  | ifCond cd off =>
    simp only [jchkI, decide_eq_true_eq] at hI
    obtain ⟨ha, rfl⟩ := hI
    cases cd with
    | eq => obtain ⟨x, s9, rfl, g1, g2⟩ := jif1_i h0; exact js_if_eq C ha hd (fun q => hN _ _ _ _ _ _ (g1 q)) (fun q => hK _ _ _ _ _ (g2 q))
    | ne => obtain ⟨x, s9, rfl, g1, g2⟩ := jif1_i h0; exact js_if_ne C ha hd (fun q => hN _ _ _ _ _ _ (g1 q)) (fun q => hK _ _ _ _ _ (g2 q))
    | lt => obtain ⟨x, s9, rfl, g1, g2⟩ := jif1_i h0; exact js_if_lt C ha hd (fun q => hN _ _ _ _ _ _ (g1 q)) (fun q => hK _ _ _ _ _ (g2 q))
    | ge => obtain ⟨x, s9, rfl, g1, g2⟩ := jif1_i h0; exact js_if_ge C ha hd (fun q => hN _ _ _ _ _ _ (g1 q)) (fun q => hK _ _ _ _ _ (g2 q))
    | gt => obtain ⟨x, s9, rfl, g1, g2⟩ := jif1_i h0; exact js_if_gt C ha hd (fun q => hN _ _ _ _ _ _ (g1 q)) (fun q => hK _ _ _ _ _ (g2 q))
    | le => obtain ⟨x, s9, rfl, g1, g2⟩ := jif1_i h0; exact js_if_le C ha hd (fun q => hN _ _ _ _ _ _ (g1 q)) (fun q => hK _ _ _ _ _ (g2 q))
  | if_icmp cd off =>
    simp only [jchkI, decide_eq_true_eq] at hI
    obtain ⟨ha, rfl⟩ := hI
    cases cd with
    | eq => obtain ⟨y, x, s9, rfl, g1, g2⟩ := jif2_i h0; exact js_icmp_eq C ha hd (fun q => hN _ _ _ _ _ _ (g1 q)) (fun q => hK _ _ _ _ _ (g2 q))
    | ne => obtain ⟨y, x, s9, rfl, g1, g2⟩ := jif2_i h0; exact js_icmp_ne C ha hd (fun q => hN _ _ _ _ _ _ (g1 q)) (fun q => hK _ _ _ _ _ (g2 q))
    | lt => obtain ⟨y, x, s9, rfl, g1, g2⟩ := jif2_i h0; exact js_icmp_lt C ha hd (fun q => hN _ _ _ _ _ _ (g1 q)) (fun q => hK _ _ _ _ _ (g2 q))
    | ge => obtain ⟨y, x, s9, rfl, g1, g2⟩ := jif2_i h0; exact js_icmp_ge C ha hd (fun q => hN _ _ _ _ _ _ (g1 q)) (fun q => hK _ _ _ _ _ (g2 q))
    | gt => obtain ⟨y, x, s9, rfl, g1, g2⟩ := jif2_i h0; exact js_icmp_gt C ha hd (fun q => hN _ _ _ _ _ _ (g1 q)) (fun q => hK _ _ _ _ _ (g2 q))
    | le => obtain ⟨y, x, s9, rfl, g1, g2⟩ := jif2_i h0; exact js_icmp_le C ha hd (fun q => hN _ _ _ _ _ _ (g1 q)) (fun q => hK _ _ _ _ _ (g2 q))
  | goto off =>
    simp only [jchkI, decide_eq_true_eq] at hI
    obtain ⟨ha, rfl⟩ := hI
    exact js_goto C ha hd (hN _ _ _ _ _ _ h0)
  | tableswitch d lo hi os =>
    simp only [jchkI, Bool.and_eq_true, decide_eq_true_eq] at hI
    obtain ⟨⟨g1, g2⟩, g3⟩ := hI
    obtain ⟨x, s9, rfl, g4⟩ := jtsw_m hN h0
    exact js_tsw C g1 g2 g3 hd g4
  | lookupswitch d qs =>
    simp only [jchkI, Bool.and_eq_true, decide_eq_true_eq] at hI
    obtain ⟨⟨g1, g2⟩, g3⟩ := hI
    obtain ⟨x, s9, rfl, g4⟩ := jlsw_m hN h0
    exact js_lsw C g1 g2 g3 hd g4
  | getfield i0 =>
    simp only [jchkI, Bool.and_eq_true, decide_eq_true_eq] at hI
    obtain ⟨rfl, hm⟩ := hI
    cases hc : vwCl[a]? with
    | none => rw [hc] at hm; cases hm
    | some w =>
      obtain ⟨CN, TT, N⟩ := w
      rw [hc] at hm
      simp only [Bool.and_eq_true, decide_eq_true_eq] at hm
      obtain ⟨hb, hw⟩ := hm
      have h0 : (if t = 4 then jgfr a b K else jgfi a b K) ls st n r h := h0
      by_cases ht : t = 4
      · rw [if_pos ht] at h0
        obtain ⟨i, s9, rfl, q0, q1, q2, q3⟩ := jgfr_i h0
        exact js_getf C hc hb hw hd q0 q1 q2 ⟨fun _ => rfl, fun z => absurd ht z⟩ (hK _ _ _ _ _ q3)
      · rw [if_neg ht] at h0
        obtain ⟨i, s9, rfl, q0, q1, q2, q3⟩ := jgfi_i h0
        exact js_getf C hc hb hw hd q0 q1 q2 ⟨fun z => absurd z ht, fun _ => rfl⟩ (jbd_of (i := i) (b := b) (fun z => hK _ _ _ _ _ (q3 z)))
  | putfield i0 =>
    simp only [jchkI, Bool.and_eq_true, decide_eq_true_eq] at hI
    obtain ⟨rfl, hm⟩ := hI
    cases hc : vwCl[a]? with
    | none => rw [hc] at hm; cases hm
    | some w =>
      obtain ⟨CN, TT, N⟩ := w
      rw [hc] at hm
      simp only [Bool.and_eq_true, Bool.or_eq_true, decide_eq_true_eq] at hm
      obtain ⟨⟨hb, hw⟩, hf⟩ := hm
      have h0 : (if t = 4 then jpfr a b K else jpfi a b K) ls st n r h := h0
      by_cases ht : t = 4
      · rw [if_pos ht] at h0
        obtain ⟨x, i, s9, rfl, q0, q1, q2, q3, q4⟩ := jpfr_i h0
        subst ht
        rcases hf with hf | hf
        · exact js_putr C hc hb hw ⟨hf.2.1, hf.2.2.1, hf.2.2.2⟩ hd q0 q1 q2 q3 (hK _ _ _ _ _ q4)
        · exact absurd rfl hf.1
      · rw [if_neg ht] at h0
        obtain ⟨x, i, s9, rfl, q0, q1, q2, q3, q4⟩ := jpfi_i h0
        rcases hf with hf | hf
        · exact absurd hf.1 ht
        · exact js_putf C hc hb hw hf hd q0 q1 q2 q3 (hK _ _ _ _ _ q4)
  | getstatic i0 =>
    simp only [jchkI, Bool.and_eq_true, decide_eq_true_eq] at hI
    obtain ⟨rfl, hm⟩ := hI
    cases hc : jST[(-3 - b).toNat]? with
    | none => rw [hc] at hm; cases hm
    | some w =>
      obtain ⟨CN, nn, dd, tt, xs⟩ := w
      rw [hc] at hm
      simp only [Bool.and_eq_true, decide_eq_true_eq] at hm
      obtain ⟨hb, hw⟩ := hm
      refine js_gets (t := t) (pp := pp) C hb hc ?_ hd (hK _ _ _ _ _ h0)
      by_cases ht : t = 0
      · rw [if_pos ht] at hw ⊢; exact hw
      · rw [if_neg ht] at hw ⊢; exact of_decide_eq_true hw
  | iaload =>
    simp only [jchkI, decide_eq_true_eq] at hI
    subst hI
    obtain ⟨k, i, s9, rfl⟩ := jald_i (h0 : jald E 1 K ls st n r h)
    exact js_iald C hd (jald_m hK h0)
  | laload =>
    simp only [jchkI, decide_eq_true_eq] at hI
    subst hI
    obtain ⟨k, i, s9, rfl⟩ := jald_i (h0 : jald E 2 K ls st n r h)
    exact js_lald C hd (jald_m hK h0)
  | baload =>
    simp only [jchkI, decide_eq_true_eq] at hI
    subst hI
    obtain ⟨k, i, s9, rfl⟩ := jald_i (h0 : jald E 3 K ls st n r h)
    exact js_bald C hd (jald_m hK h0)
  | aaload =>
    simp only [jchkI, decide_eq_true_eq] at hI
    subst hI
    obtain ⟨k, i, s9, rfl, g⟩ := jalr_m hK (h0 : jalr K ls st n r h)
    exact js_aald C hd g
  | iastore =>
    simp only [jchkI, decide_eq_true_eq] at hI
    subst hI
    obtain ⟨x, k, i, s9, rfl, g⟩ := jast_m hK (h0 : jast 1 K ls st n r h)
    exact js_iast C hd g
  | bastore =>
    simp only [jchkI, decide_eq_true_eq] at hI
    subst hI
    obtain ⟨x, k, i, s9, rfl, g⟩ := jast_m hK (h0 : jast 3 K ls st n r h)
    exact js_bast C hd g
  | lastore =>
    simp only [jchkI, decide_eq_true_eq] at hI
    subst hI
    obtain ⟨x, k, i, s9, rfl, g⟩ := jasl_m hK (h0 : jasl K ls st n r h)
    exact js_last C hd g
  | aastore =>
    simp only [jchkI, decide_eq_true_eq] at hI
    subst hI
    obtain ⟨x, k, i, s9, rfl, g⟩ := jasr_m hK (h0 : jasr K ls st n r h)
    exact js_aast C hd g
  | arraylength =>
    simp only [jchkI, decide_eq_true_eq] at hI
    subst hI
    obtain ⟨i, s9, rfl, g⟩ := jaln_m hK (h0 : jaln E K ls st n r h)
    exact js_alen C hd g
  | new i0 =>
    simp only [jchkI, Bool.and_eq_true, decide_eq_true_eq] at hI
    obtain ⟨rfl, hm⟩ := hI
    cases hc : vwCl[a]? with
    | none => rw [hc] at hm; cases hm
    | some w =>
      obtain ⟨CN, TT, N⟩ := w
      rw [hc] at hm
      have hq := jci hc
      have hCI := jCI a hq.1
      rw [hq.2] at hCI
      have h0 : jnew n1 a K ls st n r h := h0
      exact js_new C hc hm (jG_of hCI.1) (jG_of hCI.2) hd h0.1 h0.2.1 (hK _ _ _ _ _ h0.2.2)
  | newarray aty =>
    simp only [jchkI, decide_eq_true_eq] at hI
    subst hI
    cases aty with
    | int => obtain ⟨x, s9, rfl, g⟩ := jnwa_m hK (h0 : jnwa n1 1 K ls st n r h); exact js_newa C (t := 1) (ty := .int) rfl (Or.inl ⟨rfl, rfl⟩) jw_int hd g
    | long => obtain ⟨x, s9, rfl, g⟩ := jnwa_m hK (h0 : jnwa n1 2 K ls st n r h); exact js_newa C (t := 2) (ty := .long) rfl (Or.inr (Or.inl ⟨rfl, rfl⟩)) jw_long hd g
    | boolean => obtain ⟨x, s9, rfl, g⟩ := jnwa_m hK (h0 : jnwa n1 3 K ls st n r h); exact js_newa C (t := 3) (ty := .boolean) rfl (Or.inr (Or.inr ⟨rfl, rfl⟩)) jw_bool hd g
    | _ => exact False.elim h0
  | anewarray i0 =>
    simp only [jchkI, Bool.and_eq_true, decide_eq_true_eq] at hI
    obtain ⟨rfl, hw⟩ := hI
    obtain ⟨x, s9, rfl, g⟩ := jnwa_m hK (h0 : jnwa n1 4 K ls st n r h)
    exact js_anew C hw hd g
  | multianewarray i0 d0 =>
    simp only [jchkI, Bool.and_eq_true, decide_eq_true_eq] at hI
    obtain ⟨⟨rfl, rfl⟩, hw⟩ := hI
    obtain ⟨x, y, s9, rfl, g⟩ := jnwm_m hK (h0 : jnwm n1 K ls st n r h)
    exact js_multi C hw jw_int hd g
  | invokevirtual i0 =>
    simp only [jchkI, Bool.and_eq_true, decide_eq_true_eq] at hI
    obtain ⟨⟨⟨rfl, hb, hu, hms, hse⟩, hc⟩, hl⟩ := hI
    exact js_cav C hu hms hse hc hl hd (jcav_m hK h0)
  | invokestatic i0 =>
    simp only [jchkI, Bool.and_eq_true, decide_eq_true_eq] at hI
    obtain ⟨⟨rfl, hb⟩, hm⟩ := hI
    have h0 : (if a = 999 then jacp K else if a = 997 then jmth b K else jcas (jMt E l) n1 a t b.toNat K) ls st n r h := h0
    by_cases h9 : a = 999
    · rw [if_pos h9] at h0 hm
      simp only [Bool.and_eq_true, decide_eq_true_eq] at hm
      obtain ⟨c0, dp, d, sp, s0, s9, rfl, g⟩ := jacp_m hK h0
      exact js_acopy C hm.1 jw_cp1 jw_cp2 jw_cp3 hm.2 hd g
    · rw [if_neg h9] at h0 hm
      by_cases h7 : a = 997
      · rw [if_pos h7] at h0 hm
        simp only [Bool.and_eq_true, decide_eq_true_eq] at hm
        exact js_math C hm.1 hm.2 hd (jmth_m hK h0)
      · rw [if_neg h7] at h0 hm
        simp only [Bool.and_eq_true, decide_eq_true_eq] at hm
        refine js_cas (pp := pp) C hm.1.1 hm.1.2 ?_ hd (jcas_m hK h0)
        by_cases hp : pp < 100000
        · rw [if_pos hp]; have := hm.2; rw [if_pos hp] at this; exact this
        · rw [if_neg hp]; have := hm.2; rw [if_neg hp] at this; exact of_decide_eq_true this
  | invokespecial i0 =>
    simp only [jchkI, Bool.and_eq_true, decide_eq_true_eq] at hI
    obtain ⟨⟨rfl, hb⟩, hm⟩ := hI
    have h0 : (if a = 998 then jobj K else jcav (jMt E l) n1 a t b.toNat u K) ls st n r h := h0
    by_cases h9 : a = 998
    · rw [if_pos h9] at h0 hm
      simp only [Bool.and_eq_true, decide_eq_true_eq] at hm
      obtain ⟨i, s9, rfl, g⟩ := jobj_m hK h0
      exact js_objI C hm.1 jw_obj1 jw_obj2 hm.2 hd g
    · rw [if_neg h9] at h0 hm
      simp only [Bool.and_eq_true, decide_eq_true_eq] at hm
      refine js_cai (pp := pp) C hm.1.1.1 hm.1.1.2.1 hm.1.1.2.2 hm.1.2 ?_ hd (jcav_m hK h0)
      by_cases hp : pp < 100000
      · rw [if_pos hp]; have := hm.2; rw [if_pos hp] at this; exact this
      · rw [if_neg hp]; have := hm.2; rw [if_neg hp] at this; exact of_decide_eq_true this
  | ireturn =>
    simp only [jchkI, decide_eq_true_eq] at hI
    obtain ⟨x, rfl, g1, g2⟩ := jret_i (ls := ls) (h0 : jret RT t ls st n r h)
    rcases hI with ⟨g3, rfl⟩ | ⟨g3, g4, rfl⟩
    · exact hR.1 pc ls x n r h hd (Or.inl g3) g2
    · exact hR.1 pc ls x n r h hd (Or.inr ⟨g3, g1 g4⟩) g2
  | lreturn =>
    simp only [jchkI, decide_eq_true_eq] at hI
    obtain ⟨g3, rfl⟩ := hI
    obtain ⟨x, rfl, g2⟩ := jrel_i (ls := ls) (h0 : jrel RT ls st n r h)
    exact hR.2.1 pc ls x n r h hd g3 g2
  | return_ =>
    simp only [jchkI, decide_eq_true_eq] at hI
    obtain ⟨g3, rfl⟩ := hI
    obtain ⟨rfl, g2⟩ := jrev_i (ls := ls) (h0 : jrev RT ls st n r h)
    exact hR.2.2 pc ls n r h hd g3 g2
  | _ => exact False.elim h0
theorem jw_sound (C : jAt E p R s m args meth c mm n0 n1) {RT : JR} (hR : jRet E p l e R s m args below meth c Q mm n0 n1 RT) {NX : JN} (hN : ∀ pc ls st n r h, NX pc ls st n r h → jWj E p l e R s m args below meth c Q mm n0 n1 pc ls st n r h) : ∀ (qs : List JI) (pc : Nat) (ls st : List JV) (n : Nat) (r h : JH), jchk mm pc qs = true → jw (jMt E l) E n1 RT NX pc qs ls st n r h → jWj E p l e R s m args below meth c Q mm n0 n1 pc ls st n r h
  | [], pc, ls, st, n, r, h, _, h0 => hN _ _ _ _ _ _ h0
  | (ins, len, a, b, t, u, pp) :: qs, pc, ls, st, n, r, h, hc, h0 => by
    simp only [jchk, Bool.and_eq_true, decide_eq_true_eq] at hc
    exact ji_sound C hR hN hc.1.1 hc.1.2 (fun ls st n r h g => jw_sound C hR hN qs (pc + len) ls st n r h hc.2 g) h0
end jgo
/-- THE JUDGEMENT: from pc on, with these locals, stack and picture, method mm comes to a return that RT takes (whatever the machine around it) -/
def jGo (E : JE) (l : Launch) (mm n0 n1 : Nat) (RT : JR) : JN := fun pc ls st n r h =>
  ∀ (p : Program) (e : Env) (R : Room) (s : State) (m : MethodId) (args : Array Value) (below : List Frame) (meth : Method) (c : Code) (Q : State → Prop), jAt E p R s m args meth c mm n0 n1 → jRet E p l e R s m args below meth c Q mm n0 n1 RT → jWj E p l e R s m args below meth c Q mm n0 n1 pc ls st n r h
theorem jGo_blk {E : JE} {l : Launch} {mm n0 n1 : Nat} {RT : JR} {pc : Nat} {qs : List JI} {ls st : List JV} {n : Nat} {r h : JH} (hc : jchk mm pc qs = true) (h0 : jw (jMt E l) E n1 RT (jGo E l mm n0 n1 RT) pc qs ls st n r h) : jGo E l mm n0 n1 RT pc ls st n r h :=
  fun p e R s m args below meth c Q C hR => jw_sound C hR (fun pc ls st n r h g => g p e R s m args below meth c Q C hR) qs pc ls st n r h hc h0
/-- the bounds hold at every point -/
theorem jGo_bd {E : JE} {l : Launch} {mm n0 n1 : Nat} {RT : JR} {pc : Nat} {ls st : List JV} {n : Nat} {r h : JH} (k : (∀ i k : Int, jbd i k (h i k)) → jGo E l mm n0 n1 RT pc ls st n r h) : jGo E l mm n0 n1 RT pc ls st n r h :=
  fun p e R s m args below meth c Q C hR lsS H locs hS => k hS.2.2.2.2.1.2.2.2 p e R s m args below meth c Q C hR lsS H locs hS
/-- locals and stack hold numbers of their kinds -/
theorem jGo_ok {E : JE} {l : Launch} {mm n0 n1 : Nat} {RT : JR} {pc : Nat} {ls st : List JV} {n : Nat} {r h : JH} (k : (∀ v ∈ ls, jok v) → (∀ v ∈ st, jok v) → jGo E l mm n0 n1 RT pc ls st n r h) : jGo E l mm n0 n1 RT pc ls st n r h :=
  fun p e R s m args below meth c Q C hR lsS H locs hS => k hS.2.2.1 hS.2.2.2.1 p e R s m args below meth c Q C hR lsS H locs hS
end
section
/-! ===== A METHOD'S CONTRACT OUT OF THE JUDGEMENT ===== -/
theorem jls_void (E : JE) : ∀ (k i : Nat), jls E i (List.replicate k (.inr (.inr (.inr ())))) = []
  | 0, _ => rfl
  | k + 1, i => by rw [List.replicate_succ, jls]; exact jls_void E k (i + 1)
theorem jls_args (E : JE) : ∀ (av : List JV) (i k : Nat), ∀ q ∈ jls E i (jarg av ++ List.replicate k (.inr (.inr (.inr ())))), q ∈ lv_args i (av.map (jtv E))
  | [], i, k, q, hq => by rw [jarg, List.nil_append, jls_void] at hq; cases hq
  | .inl x :: av, i, k, q, hq => by
    rw [jarg, List.cons_append, jls] at hq
    · rw [List.map_cons, lv_args]
      rcases List.mem_cons.mp hq with rfl | hq
      · exact List.mem_cons_self
      · refine List.mem_cons_of_mem _ ?_
        rw [if_neg (by simp [jtv, Value.category])]
        exact jls_args E av (i + 1) k q hq
    · intro z h; cases h
  | .inr (.inl x) :: av, i, k, q, hq => by
    rw [jarg, List.cons_append, List.cons_append, jls, jls] at hq
    rw [List.map_cons, lv_args]
    rcases List.mem_cons.mp hq with rfl | hq
    · exact List.mem_cons_self
    · refine List.mem_cons_of_mem _ ?_
      rw [if_pos (by simp [jtv, Value.category])]
      exact jls_args E av (i + 2) k q hq
  | .inr (.inr (.inl x)) :: av, i, k, q, hq => by
    rw [jarg, List.cons_append, jls] at hq
    · rw [List.map_cons, lv_args]
      rcases List.mem_cons.mp hq with rfl | hq
      · exact List.mem_cons_self
      · refine List.mem_cons_of_mem _ ?_
        rw [if_neg (by by_cases e : x = -1 <;> simp [jtv, Value.category, e])]
        exact jls_args E av (i + 1) k q hq
    · intro z h; cases h
  | .inr (.inr (.inr x)) :: av, i, k, q, hq => by
    rw [jarg, List.cons_append, jls] at hq
    · rw [List.map_cons, lv_args]
      refine List.mem_cons_of_mem _ ?_
      rw [if_neg (by simp [jtv, Value.category])]
      exact jls_args E av (i + 1) k q hq
    · intro z h; cases h
theorem jlg_len (E : JE) : ∀ (av : List JV), (lg_sl (av.map (jtv E))).length = (jarg av).length
  | [] => rfl
  | .inl x :: av => by
    have ih := jlg_len E av
    unfold lg_sl at ih ⊢
    rw [List.map_cons, List.flatMap_cons, List.length_append, ih, jarg]
    · simp [jtv, Value.category]; omega
    · intro z h; cases h
  | .inr (.inl x) :: av => by
    have ih := jlg_len E av
    unfold lg_sl at ih ⊢
    rw [List.map_cons, List.flatMap_cons, List.length_append, ih, jarg]
    simp [jtv, Value.category]; omega
  | .inr (.inr (.inl x)) :: av => by
    have ih := jlg_len E av
    unfold lg_sl at ih ⊢
    rw [List.map_cons, List.flatMap_cons, List.length_append, ih, jarg]
    · by_cases e : x = -1
      · simp [jtv, Value.category, e]; omega
      · simp [jtv, Value.category, e]; omega
    · intro z h; cases h
  | .inr (.inr (.inr x)) :: av => by
    have ih := jlg_len E av
    unfold lg_sl at ih ⊢
    rw [List.map_cons, List.flatMap_cons, List.length_append, ih, jarg]
    · simp [jtv, Value.category]; omega
    · intro z h; cases h
theorem jarg_ok : ∀ (av : List JV), (∀ v ∈ av, jok v) → ∀ v ∈ jarg av, jok v
  | [], _, v, hv => by rw [jarg] at hv; cases hv
  | .inl x :: av, h, v, hv => by
    rw [jarg] at hv
    · rcases List.mem_cons.mp hv with rfl | hv
      · exact h _ List.mem_cons_self
      · exact jarg_ok av (fun w hw => h w (List.mem_cons_of_mem _ hw)) v hv
    · intro z h; cases h
  | .inr (.inl x) :: av, h, v, hv => by
    rw [jarg] at hv
    rcases List.mem_cons.mp hv with rfl | hv
    · exact h _ List.mem_cons_self
    · rcases List.mem_cons.mp hv with rfl | hv
      · exact trivial
      · exact jarg_ok av (fun w hw => h w (List.mem_cons_of_mem _ hw)) v hv
  | .inr (.inr (.inl x)) :: av, h, v, hv => by
    rw [jarg] at hv
    · rcases List.mem_cons.mp hv with rfl | hv
      · exact trivial
      · exact jarg_ok av (fun w hw => h w (List.mem_cons_of_mem _ hw)) v hv
    · intro z h; cases h
  | .inr (.inr (.inr x)) :: av, h, v, hv => by
    rw [jarg] at hv
    · rcases List.mem_cons.mp hv with rfl | hv
      · exact trivial
      · exact jarg_ok av (fun w hw => h w (List.mem_cons_of_mem _ hw)) v hv
    · intro z h; cases h
theorem jloc_S {E : JE} {av : List JV} {nL : Nat} (h : (jarg av).length ≤ nL) (hv : ∀ v ∈ av, jok v) : lv_has ((lg_sl (av.map (jtv E)) ++ List.replicate (nL - (lg_sl (av.map (jtv E))).length) Slot.unset).toArray) nL (jls E 0 (jloc av nL)) ∧ (jloc av nL).length = nL ∧ ∀ v ∈ jloc av nL, jok v := by
  refine ⟨jlv_mono (lv_entry (av.map (jtv E)) (by rw [jlg_len]; exact h)) (jls_args E av 0 _), ?_, fun v hv' => ?_⟩
  · unfold jloc
    rw [List.length_append, List.length_replicate]
    omega
  · unfold jloc at hv'
    rcases List.mem_append.mp hv' with q | q
    · exact jarg_ok av hv v q
    · rw [List.eq_of_mem_replicate q]; exact trivial
theorem jMt_of {E : JE} {l : Launch} {m0 : Nat} {av : List JV} {n : Nat} {r h : JH} {K : Option JV → JH → JH → Prop} (hp : plainName (jM m0).1.cls = true) (hav : (jarg av).length ≤ (jM m0).2.2.1) (hn : n + (jM m0).2.2.2.2.2.2 ≤ 229)
    (body : jGo E l m0 n (n + (jM m0).2.2.2.2.2.2) (fun v n' r' h' => n' = n + (jM m0).2.2.2.2.2.2 ∧ K v r' h') 0 (jloc av (jM m0).2.2.1) [] n r h) : jMt E l m0 av n r h K := fun hv => by
  refine Met.ofW (cc := (jM m0).2.1) (maxL := (jM m0).2.2.1) (ret := (jM m0).2.2.2.1) (ws' := jG) hp rfl ?_
  intro p e s mi args below meth c s₁ B hml hP
  obtain ⟨rfl, hE, hH⟩ := hP
  have hts := atoms_spec (ws := jws m0) B.pre
  have hlocks := B.notSynchronized
  have hret := B.returns
  have C : jAt E p (headSpec (jws m0) (jrm m0 n)).room s mi ((av.map (jtv E)).toArray) meth c m0 n (n + (jM m0).2.2.2.2.2.2) := ⟨B.exec, B.bytes, hml, findClass_of_methodNamed B.named, fun w hw => hts w (List.mem_cons_of_mem _ hw), hE, Nat.le_refl _, Nat.le_refl _, fun k hk => ⟨by show k - n ≤ (jM m0).2.2.2.2.2.2; omega, by
      show jSZ k - jSZ n ≤ jSZ (n + (jM m0).2.2.2.2.2.2) - jSZ n
      have := jsz_mono hk hn
      omega⟩, hn, (name_of_methodNamed B.named B.method).1⟩
  rw [lg_entry_eq]
  obtain ⟨g1, g2, g3⟩ := jloc_S (E := E) hav hv
  have k := body p e _ s mi _ below meth c (MQ below (fun (_ : Array Value) (_ : State) (o : Outcome) (t : State) => ∃ (v : Option JV) (r' h' : JH), o = .returned (v.map (jtv E)) ∧ jokO v ∧ K v r' h' ∧ jHp E (n + (jM m0).2.2.2.2.2.2) r' h' t.heap) (av.map (jtv E)).toArray s (jM m0).2.2.2.2.2.2 (jSZ (n + (jM m0).2.2.2.2.2.2) - jSZ n) (fun q => jb0 E ≤ q)) C ⟨?_, ?_, ?_⟩ _ s.heap [] ⟨g1, g2, g3, (fun v hv => by cases hv), hH, (fun q hq => by cases hq), Nat.le_refl _, Nat.le_add_right _ _⟩
  · rw [Nat.sub_self, Nat.sub_self] at k
    exact k
  · intro pc ls x n' r' h' hd ht hRT lsS H locs hS
    obtain ⟨rfl, hK⟩ := hRT
    have hx : jR32 x := hS.2.2.2.1 _ List.mem_cons_self
    rw [Nat.add_sub_cancel_left]
    rcases ht with ht | ⟨ht, hx01⟩
    · exact W.iret (v := Int32.ofInt x) C.1 C.2.1 (hret.trans ht) (fun t ht hW => ⟨some (.inl x), r', h', rfl, hx, hK, by rw [ht]; exact hS.2.2.2.2.1⟩) hS.2.2.2.2.2.1 hd hlocks
    · exact W.zret (v := Int32.ofInt x) (ty := .boolean) C.1 C.2.1 (hret.trans ht) (by rcases hx01 with rfl | rfl <;> decide) (fun t ht hW => ⟨some (.inl x), r', h', rfl, hx, hK, by rw [ht]; exact hS.2.2.2.2.1⟩) hS.2.2.2.2.2.1 hd hlocks
  · intro pc ls x n' r' h' hd ht hRT lsS H locs hS
    obtain ⟨rfl, hK⟩ := hRT
    have hx : jR64 x := hS.2.2.2.1 _ List.mem_cons_self
    rw [Nat.add_sub_cancel_left]
    exact W.lret (v := Int64.ofInt x) C.1 C.2.1 (hret.trans ht) (fun t ht hW => ⟨some (.inr (.inl x)), r', h', rfl, hx, hK, by rw [ht]; exact hS.2.2.2.2.1⟩) hS.2.2.2.2.2.1 hd hlocks
  · intro pc ls n' r' h' hd ht hRT lsS H locs hS
    obtain ⟨rfl, hK⟩ := hRT
    rw [Nat.add_sub_cancel_left]
    exact W.vret C.1 C.2.1 (hret.trans ht) (fun t ht hW => ⟨none, r', h', rfl, trivial, hK, by rw [ht]; exact hS.2.2.2.2.1⟩) hS.2.2.2.2.2.1 hd hlocks
end
section
/-- references of the objects that both constructors made -/
def jRF : List (List Int) := [[-1, 1, 2, 11, 16, 29, 84, 91, 97, 101, 106, 111], [], [3, 4, 5, 10], [], [], [6, 7, 8, 9], [], [], [], [], [], [-1, 12, 13, 14, 15], [], [], [], [], [17, 21, 25], [18, 19, 20], [], [], [], [22, 23, 24], [], [], [], [26, 27, 28], [], [], [], [30, 31, 32, 33, -1, 34, -1, -1, -1, -1, -1, 35], [], [], [], [36, 39, 42, 45, 48, 51, 54, 57, 60, 63, 66, 69, 72, 75, 78, 81], [], [], [-1, -1, -1, -1, -1, -1, -1, -1, -1, -1, -1, 37, 38], [], [], [-1, -1, -1, -1, -1, -1, -1, -1, -1, -1, -1, 40, 41], [], [], [-1, -1, -1, -1, -1, -1, -1, -1, -1, -1, -1, 43, 44], [], [], [-1, -1, -1, -1, -1, -1, -1, -1, -1, -1, -1, 46, 47], [], [], [-1, -1, -1, -1, -1, -1, -1, -1, -1, -1, -1, 49, 50], [], [], [-1, -1, -1, -1, -1, -1, -1, -1, -1, -1, -1, 52, 53], [], [], [-1, -1, -1, -1, -1, -1, -1, -1, -1, -1, -1, 55, 56], [], [], [-1, -1, -1, -1, -1, -1, -1, -1, -1, -1, -1, 58, 59], [], [], [-1, -1, -1, -1, -1, -1, -1, -1, -1, -1, -1, 61, 62], [], [], [-1, -1, -1, -1, -1, -1, -1, -1, -1, -1, -1, 64, 65], [], [], [-1, -1, -1, -1, -1, -1, -1, -1, -1, -1, -1, 67, 68], [], [], [-1, -1, -1, -1, -1, -1, -1, -1, -1, -1, -1, 70, 71], [], [], [-1, -1, -1, -1, -1, -1, -1, -1, -1, -1, -1, 73, 74], [], [], [-1, -1, -1, -1, -1, -1, -1, -1, -1, -1, -1, 76, 77], [], [], [-1, -1, -1, -1, -1, -1, -1, -1, -1, -1, -1, 79, 80], [], [], [-1, -1, -1, -1, -1, -1, -1, -1, -1, -1, -1, 82, 83], [], [], [-1, 85, 86, 87, 88, 89, 90], [], [], [], [], [], [], [92, 93, 94, 95, 96], [], [], [], [], [], [-1, -1, 98, 99, 100], [], [], [], [-1, 102, 103, 104, 105], [], [], [], [], [107, 108, 109, 110], [], [], [], [], [-1, 112, -1, -1, 113, 118, 119, 174, 175], [], [114, 115, 116, 117], [], [], [], [], [], [120, 121, 122, 123, -1, 124, -1, -1, -1, -1, -1, 125], [], [], [], [126, 129, 132, 135, 138, 141, 144, 147, 150, 153, 156, 159, 162, 165, 168, 171], [], [], [-1, -1, -1, -1, -1, -1, -1, -1, -1, -1, -1, 127, 128], [], [], [-1, -1, -1, -1, -1, -1, -1, -1, -1, -1, -1, 130, 131], [], [], [-1, -1, -1, -1, -1, -1, -1, -1, -1, -1, -1, 133, 134], [], [], [-1, -1, -1, -1, -1, -1, -1, -1, -1, -1, -1, 136, 137], [], [], [-1, -1, -1, -1, -1, -1, -1, -1, -1, -1, -1, 139, 140], [], [], [-1, -1, -1, -1, -1, -1, -1, -1, -1, -1, -1, 142, 143], [], [], [-1, -1, -1, -1, -1, -1, -1, -1, -1, -1, -1, 145, 146], [], [], [-1, -1, -1, -1, -1, -1, -1, -1, -1, -1, -1, 148, 149], [], [], [-1, -1, -1, -1, -1, -1, -1, -1, -1, -1, -1, 151, 152], [], [], [-1, -1, -1, -1, -1, -1, -1, -1, -1, -1, -1, 154, 155], [], [], [-1, -1, -1, -1, -1, -1, -1, -1, -1, -1, -1, 157, 158], [], [], [-1, -1, -1, -1, -1, -1, -1, -1, -1, -1, -1, 160, 161], [], [], [-1, -1, -1, -1, -1, -1, -1, -1, -1, -1, -1, 163, 164], [], [], [-1, -1, -1, -1, -1, -1, -1, -1, -1, -1, -1, 166, 167], [], [], [-1, -1, -1, -1, -1, -1, -1, -1, -1, -1, -1, 169, 170], [], [], [-1, -1, -1, -1, -1, -1, -1, -1, -1, -1, -1, 172, 173], [], [], [], [], [-1, 177, 178, 179, 180, 181, -1, 182, 183, 184, 185, 186, 187, 188, -1, 189, 190, 191, 192, 193, 194, 195, 196, 197, 198, 199, 200, 201, 202, 203, -1, -1, -1, 204, -1, 205, 206, 207, 208, 209, 210, 211, 212, 213, 214, -1, 215, 216, 217, 218, 219, 220, 221, 222, 223, -1, -1, -1, -1, 224, 225, 226, -1, 227, 228], [], [], [], [], [], [], [], [], [], [], [], [], [], [], [], [], [], [], [], [], [], [], [], [], [], [], [], [], [], [], [], [], [], [], [], [], [], [], [], [], [], [], [], [], [], [], [], [], [], [], [], []]
/-! ===== STEPS OF A STRETCH AT THE STEADY PICTURE ===== -/
def jF (n : Nat) (i : Int) (t N : Nat) : Prop := 0 ≤ i ∧ i < n ∧ jk i = (t, N)
/-- places that may differ: w -/
def jfr (w : Int → Int → Prop) (h h' : JH) : Prop := ∀ i k : Int, ¬ w i k → h' i k = h i k
theorem jfr_rf (w : Int → Int → Prop) (h : JH) : jfr w h h := fun _ _ _ => rfl
theorem jup_o {g g' : JH} {i k x a b : Int} (e : g' = jup g i k x) (q : ¬ (a = i ∧ b = k)) : g' a b = g a b := by subst e; exact jup_ne q
theorem jup_s {g g' : JH} {i k x : Int} (e : g' = jup g i k x) : g' i k = x := by subst e; exact jup_eq
theorem jcp_o {g g' : JH} {s sp d dp c a b : Int} (e : g' = jcp g s sp d dp c) (q : ¬ (a = d ∧ dp ≤ b ∧ b < dp + c)) : g' a b = g a b := by subst e; exact if_neg q
theorem jfr_up {w : Int → Int → Prop} {h g g' : JH} {i k x : Int} (f : jfr w h g) (e : g' = jup g i k x) (hw : w i k) : jfr w h g' := fun a b q => (jup_o e (fun z => q (by rw [z.1, z.2]; exact hw))).trans (f a b q)
theorem jfr_cp {w : Int → Int → Prop} {h g g' : JH} {s sp d dp c : Int} (f : jfr w h g) (e : g' = jcp g s sp d dp c) (hw : ∀ k, w d k) : jfr w h g' := fun a b q => (jcp_o e (fun z => q (by rw [z.1]; exact hw b))).trans (f a b q)
theorem jfr_tr {w w' : Int → Int → Prop} {h g g' : JH} (f : jfr w h g) (f' : jfr w' g g') (hw : ∀ i k, w' i k → w i k) : jfr w h g' := fun a b q => (f' a b (fun z => q (hw a b z))).trans (f a b q)
def jr0 (i k : Int) : Int := (jRF.getD i.toNat []).getD k.toNat (-1)
def jRK (K : Option JV → JH → JH → Prop) : JR := fun v n r h => n = 229 ∧ K v r h
theorem jMt0 {E : JE} {l : Launch} {m0 nL : Nat} {av ls : List JV} {h : JH} {K : Option JV → JH → JH → Prop} (hp : plainName (jM m0).1.cls = true) (hL : (jM m0).2.2.1 = nL) (hc : (jM m0).2.2.2.2.2.2 = 0) (hav : Nat.ble (jarg av).length nL = true) (hls : jloc av nL = ls) (body : jGo E l m0 229 229 (jRK K) 0 ls [] 229 jr0 h) : jMt E l m0 av 229 jr0 h K := by
  subst hL
  subst hls
  refine jMt_of hp (Nat.le_of_ble_eq_true hav) (by rw [hc]; exact Nat.le_refl _) ?_
  rw [hc]
  exact body
theorem jMt1 {E : JE} {l : Launch} {m0 nL : Nat} {av ls : List JV} {h : JH} {K : Option JV → JH → JH → Prop} (hp : plainName (jM m0).1.cls = true) (hL : (jM m0).2.2.1 = nL) (hc : (jM m0).2.2.2.2.2.2 = 0) (hav : Nat.ble (jarg av).length nL = true) (hls : jloc av nL = ls) (body : (∀ v ∈ av, jok v) → jGo E l m0 229 229 (jRK K) 0 ls [] 229 jr0 h) : jMt E l m0 av 229 jr0 h K := fun hv => jMt0 hp hL hc hav hls (body hv) hv
theorem j32e {x : Int} (h1 : -2147483648 ≤ x) (h2 : x ≤ 2147483647) : jw32 x = x := j32_id ⟨h1, h2⟩
theorem j64e {x : Int} (h1 : -9223372036854775808 ≤ x) (h2 : x ≤ 9223372036854775807) : jw64 x = x := j64_id ⟨h1, h2⟩
theorem j32d {x y : Int} (h1 : 0 ≤ x) (h2 : x ≤ 2147483647) (hy : 0 < y) : jw32 (x.tdiv y) = x / y := by
  rw [Int.tdiv_eq_ediv_of_nonneg h1]
  have h3 : x / y ≤ x := Int.ediv_le_self y h1
  have h4 : 0 ≤ x / y := Int.ediv_nonneg h1 (by omega)
  exact j32e (by omega) (by omega)
theorem jmd {x y : Int} (h1 : 0 ≤ x) (hy : 0 < y) : x.tmod y = x % y ∧ 0 ≤ x.tmod y ∧ x.tmod y < y :=
  ⟨Int.tmod_eq_emod_of_nonneg h1, Int.tmod_nonneg _ h1, Int.tmod_lt_of_pos _ hy⟩
section jsteps
variable {E : JE} {l : Launch} {n n1 : Nat} {K : JK} {ls s st : List JV} {r h : JH} {i k b x y : Int} {a t N z : Nat} {RT : JR}
theorem st_gr {v : Int} (o : jF n i 0 a) (e : r i b = v) (kk : K ls (.inr (.inr (.inl v)) :: s) n r h) : jgfr a b K ls (.inr (.inr (.inl i)) :: s) n r h := by
  subst e
  exact ⟨o.1, o.2.1, o.2.2, kk⟩
theorem st_gi (o : jF n i 0 a) (kk : ∀ v, v = h i b → jbd i b v → K ls (.inl v :: s) n r h) : jgfi a b K ls (.inr (.inr (.inl i)) :: s) n r h := ⟨o.1, o.2.1, o.2.2, fun q => kk _ rfl q⟩
theorem st_pi (o : jF n i 0 a) (hb : jR32 x → jbd i b x) (kk : ∀ g, g = jup h i b x → K ls s n r g) : jpfi a b K ls (.inl x :: .inr (.inr (.inl i)) :: s) n r h := ⟨o.1, o.2.1, o.2.2, hb, kk _ rfl⟩
theorem st_ai (o : jF n i 1 N) (h0 : 0 ≤ k) (h1 : k < N) (kk : ∀ v, v = h i k → jbd i k v → K ls (.inl v :: s) n r h) : jald E 1 K ls (.inl k :: .inr (.inr (.inl i)) :: s) n r h :=
  ⟨fun _ => ⟨o.2.1, by rw [o.2.2], h0, by rw [o.2.2]; exact h1, fun q => kk _ rfl q⟩, fun q => absurd o.1 (by omega)⟩
theorem st_bi (o : jF n i 3 N) (h0 : 0 ≤ k) (h1 : k < N) (kk : ∀ v, v = h i k → jbd i k v → K ls (.inl v :: s) n r h) : jald E 3 K ls (.inl k :: .inr (.inr (.inl i)) :: s) n r h :=
  ⟨fun _ => ⟨o.2.1, by rw [o.2.2], h0, by rw [o.2.2]; exact h1, fun q => kk _ rfl q⟩, fun q => absurd o.1 (by omega)⟩
theorem st_li (o : jF n i 2 N) (h0 : 0 ≤ k) (h1 : k < N) (kk : ∀ v, v = h i k → jbd i k v → K ls (.inr (.inl v) :: s) n r h) : jald E 2 K ls (.inl k :: .inr (.inr (.inl i)) :: s) n r h :=
  ⟨fun _ => ⟨o.2.1, by rw [o.2.2], h0, by rw [o.2.2]; exact h1, fun q => kk _ rfl q⟩, fun q => absurd o.1 (by omega)⟩
theorem st_xi (h9 : i < -1) (hk : jxk i = 1) (hl : jxl E i = N) (h0 : 0 ≤ k) (h1 : k < N) (kk : ∀ v, v = jxv E i k → K ls (.inl v :: s) n r h) : jald E 1 K ls (.inl k :: .inr (.inr (.inl i)) :: s) n r h :=
  ⟨fun q => absurd q (by omega), fun _ => ⟨by omega, hk, h0, by rw [hl]; exact h1, kk _ rfl⟩⟩
theorem st_xl (h9 : i < -1) (hk : jxk i = 2) (hl : jxl E i = N) (h0 : 0 ≤ k) (h1 : k < N) (kk : ∀ v, v = jxv E i k → K ls (.inr (.inl v) :: s) n r h) : jald E 2 K ls (.inl k :: .inr (.inr (.inl i)) :: s) n r h :=
  ⟨fun q => absurd q (by omega), fun _ => ⟨by omega, hk, h0, by rw [hl]; exact h1, kk _ rfl⟩⟩
theorem st_ar (o : jF n i t N) (ht : t = 4 ∨ t = 5) (h0 : 0 ≤ k) (h1 : k < N) (kk : ∀ v, v = r i k → K ls (.inr (.inr (.inl v)) :: s) n r h) : jalr K ls (.inl k :: .inr (.inr (.inl i)) :: s) n r h :=
  ⟨o.1, o.2.1, by rw [o.2.2]; exact ht, h0, by rw [o.2.2]; exact h1, kk _ rfl⟩
theorem st_si (o : jF n i 1 N) (h0 : 0 ≤ k) (h1 : k < N) (hb : jR32 x → jbd i k x) (kk : ∀ g, g = jup h i k x → K ls s n r g) : jast 1 K ls (.inl x :: .inl k :: .inr (.inr (.inl i)) :: s) n r h :=
  ⟨o.1, o.2.1, by rw [o.2.2], h0, by rw [o.2.2]; exact h1, hb, kk _ rfl⟩
theorem st_sb (o : jF n i 3 N) (h0 : 0 ≤ k) (h1 : k < N) (hb : jR32 x → jbd i k x) (kk : ∀ g, g = jup h i k x → K ls s n r g) : jast 3 K ls (.inl x :: .inl k :: .inr (.inr (.inl i)) :: s) n r h :=
  ⟨o.1, o.2.1, by rw [o.2.2], h0, by rw [o.2.2]; exact h1, hb, kk _ rfl⟩
theorem st_sl (o : jF n i 2 N) (h0 : 0 ≤ k) (h1 : k < N) (hb : jR64 x → jbd i k x) (kk : ∀ g, g = jup h i k x → K ls s n r g) : jasl K ls (.inr (.inl x) :: .inl k :: .inr (.inr (.inl i)) :: s) n r h :=
  ⟨o.1, o.2.1, by rw [o.2.2], h0, by rw [o.2.2]; exact h1, hb, kk _ rfl⟩
theorem st_al (o : jF n i t N) (ht : 1 ≤ t ∧ t ≤ 3) (kk : K ls (.inl N :: s) n r h) : jaln E K ls (.inr (.inr (.inl i)) :: s) n r h :=
  ⟨fun _ => ⟨o.2.1, by rw [o.2.2]; exact ht.1, by rw [o.2.2]; exact ht.2, by rw [o.2.2]; exact kk⟩, fun q => absurd o.1 (by omega)⟩
theorem st_cp {c dp d sp s0 : Int} {N0 : Nat} (o : jF n d 1 N) (o0 : jF n s0 1 N0) (h1 : 0 ≤ sp) (h2 : 0 ≤ dp) (h3 : 0 ≤ c) (h4 : sp + c ≤ N0) (h5 : dp + c ≤ N) (h6 : Nat.ble s.length 4 = true) (hb : (∀ i k : Int, jbd i k (h i k)) → ∀ j : Int, 0 ≤ j → j < c → jbd d (dp + j) (h s0 (sp + j))) (kk : ∀ g, g = jcp h s0 sp d dp c → K ls s n r g) :
    jacp K ls (.inl c :: .inl dp :: .inr (.inr (.inl d)) :: .inl sp :: .inr (.inr (.inl s0)) :: s) n r h :=
  ⟨o0.1, o0.2.1, o.1, o.2.1, by rw [o0.2.2], by rw [o.2.2], h1, h2, h3, by rw [o0.2.2]; exact h4, by rw [o.2.2]; exact h5, Nat.le_of_ble_eq_true h6, hb, kk _ rfl⟩
theorem st_m0 (h6 : Nat.ble s.length 4 = true) (kk : ∀ v, v ≤ x → v ≤ y → (v = x ∨ v = y) → K ls (.inl v :: s) n r h) : jmth 0 K ls (.inl y :: .inl x :: s) n r h :=
  ⟨Nat.le_of_ble_eq_true h6, kk _ (by split <;> omega) (by split <;> omega) (by split <;> omega)⟩
theorem st_m1 (h6 : Nat.ble s.length 4 = true) (kk : ∀ v, x ≤ v → y ≤ v → (v = x ∨ v = y) → K ls (.inl v :: s) n r h) : jmth 1 K ls (.inl y :: .inl x :: s) n r h :=
  ⟨Nat.le_of_ble_eq_true h6, kk _ (by split <;> omega) (by split <;> omega) (by split <;> omega)⟩
theorem st_m2 (h6 : Nat.ble s.length 4 = true) (kk : ∀ v, v = (if 0 ≤ x then x else jw32 (-x)) → K ls (.inl v :: s) n r h) : jmth 2 K ls (.inl x :: s) n r h :=
  ⟨Nat.le_of_ble_eq_true h6, kk _ rfl⟩
theorem st_m3 (h6 : Nat.ble s.length 4 = true) (kk : ∀ v, v ≤ x → v ≤ y → (v = x ∨ v = y) → K ls (.inr (.inl v) :: s) n r h) : jmth 3 K ls (.inr (.inl y) :: .inr (.inl x) :: s) n r h :=
  ⟨Nat.le_of_ble_eq_true h6, kk _ (by split <;> omega) (by split <;> omega) (by split <;> omega)⟩
theorem st_cs {m c na : Nat} {Kp : Option JV → JH → JH → Prop} (h1 : Nat.ble na st.length = true) (h2 : Nat.ble (st.drop na).length 4 = true) (h3 : Nat.ble (n + c) n1 = true) {av : List JV} (hM : jMt E l m av n r h Kp) (hav : (st.take na).reverse = av) (kk : ∀ v r' h', Kp v r' h' → jokO v → K ls (v.toList ++ st.drop na) (n + c) r' h') : jcas (jMt E l) n1 m c na K ls st n r h := by
  subst hav
  exact ⟨Nat.le_of_ble_eq_true h1, Nat.le_of_ble_eq_true h2, Nat.le_of_ble_eq_true h3, jMt_m kk hM⟩
theorem st_cv {m c na ci : Nat} {s9 : List JV} {Kp : Option JV → JH → JH → Prop} (o : jF n i 0 ci) (hd : st.drop na = .inr (.inr (.inl i)) :: s9) (h2 : Nat.ble s9.length 4 = true) (h3 : Nat.ble (n + c) n1 = true) {av : List JV} (hM : jMt E l m av n r h Kp) (hav : .inr (.inr (.inl i)) :: (st.take na).reverse = av) (kk : ∀ v r' h', Kp v r' h' → jokO v → K ls (v.toList ++ s9) (n + c) r' h') : jcav (jMt E l) n1 m c na ci K ls st n r h := by
  subst hav
  unfold jcav
  rw [hd]
  exact ⟨o.1, o.2.1, o.2.2, Nat.le_of_ble_eq_true h2, Nat.le_of_ble_eq_true h3, jMt_m kk hM⟩
theorem st_r0 (hk : RT (some (.inl x)) n r h) : jret RT 0 ls [.inl x] n r h := ⟨fun q => absurd q (by decide), hk⟩
theorem st_r1 (hx : x = 0 ∨ x = 1) (hk : RT (some (.inl x)) n r h) : jret RT 1 ls [.inl x] n r h := ⟨fun _ => hx, hk⟩
end jsteps
end
section
/-! ===== THE OBJECTS, ROW BY ROW (by program) ===== -/
theorem jo_sum {n : Nat} {i : Int} {t N : Nat} (h : (decide (0 ≤ i) && decide (i < (n : Int)) && decide (jk i = (t, N))) = true) : jF n i t N := by
  simp only [Bool.and_eq_true, decide_eq_true_eq] at h
  exact ⟨h.1.1, h.1.2, h.2⟩
theorem jo_0 : jF 229 0 0 11 := jo_sum (by decide +kernel)
theorem jo_1 : jF 229 1 1 8 := jo_sum (by decide +kernel)
theorem jo_2 : jF 229 2 0 1 := jo_sum (by decide +kernel)
theorem jo_3 : jF 229 3 1 4 := jo_sum (by decide +kernel)
theorem jo_4 : jF 229 4 1 4 := jo_sum (by decide +kernel)
theorem jo_5 : jF 229 5 5 4 := jo_sum (by decide +kernel)
theorem jo_6 : jF 229 6 1 30 := jo_sum (by decide +kernel)
theorem jo_7 : jF 229 7 1 30 := jo_sum (by decide +kernel)
theorem jo_8 : jF 229 8 1 30 := jo_sum (by decide +kernel)
theorem jo_9 : jF 229 9 1 30 := jo_sum (by decide +kernel)
theorem jo_10 : jF 229 10 1 4 := jo_sum (by decide +kernel)
theorem jo_11 : jF 229 11 0 2 := jo_sum (by decide +kernel)
theorem jo_12 : jF 229 12 1 40 := jo_sum (by decide +kernel)
theorem jo_13 : jF 229 13 1 40 := jo_sum (by decide +kernel)
theorem jo_14 : jF 229 14 1 40 := jo_sum (by decide +kernel)
theorem jo_15 : jF 229 15 1 10 := jo_sum (by decide +kernel)
theorem jo_16 : jF 229 16 0 9 := jo_sum (by decide +kernel)
theorem jo_17 : jF 229 17 5 3 := jo_sum (by decide +kernel)
theorem jo_18 : jF 229 18 1 6 := jo_sum (by decide +kernel)
theorem jo_19 : jF 229 19 1 6 := jo_sum (by decide +kernel)
theorem jo_20 : jF 229 20 1 6 := jo_sum (by decide +kernel)
theorem jo_21 : jF 229 21 5 3 := jo_sum (by decide +kernel)
theorem jo_22 : jF 229 22 1 6 := jo_sum (by decide +kernel)
theorem jo_23 : jF 229 23 1 6 := jo_sum (by decide +kernel)
theorem jo_24 : jF 229 24 1 6 := jo_sum (by decide +kernel)
theorem jo_25 : jF 229 25 5 3 := jo_sum (by decide +kernel)
theorem jo_26 : jF 229 26 1 36 := jo_sum (by decide +kernel)
theorem jo_27 : jF 229 27 1 36 := jo_sum (by decide +kernel)
theorem jo_28 : jF 229 28 1 36 := jo_sum (by decide +kernel)
theorem jo_29 : jF 229 29 0 10 := jo_sum (by decide +kernel)
theorem jo_30 : jF 229 30 1 6 := jo_sum (by decide +kernel)
theorem jo_31 : jF 229 31 1 6 := jo_sum (by decide +kernel)
theorem jo_32 : jF 229 32 1 6 := jo_sum (by decide +kernel)
theorem jo_33 : jF 229 33 4 16 := jo_sum (by decide +kernel)
theorem jo_34 : jF 229 34 1 16 := jo_sum (by decide +kernel)
theorem jo_35 : jF 229 35 1 4 := jo_sum (by decide +kernel)
theorem jo_36 : jF 229 36 0 4 := jo_sum (by decide +kernel)
theorem jo_37 : jF 229 37 1 6 := jo_sum (by decide +kernel)
theorem jo_38 : jF 229 38 1 6 := jo_sum (by decide +kernel)
theorem jo_39 : jF 229 39 0 4 := jo_sum (by decide +kernel)
theorem jo_40 : jF 229 40 1 6 := jo_sum (by decide +kernel)
theorem jo_41 : jF 229 41 1 6 := jo_sum (by decide +kernel)
theorem jo_42 : jF 229 42 0 4 := jo_sum (by decide +kernel)
theorem jo_43 : jF 229 43 1 6 := jo_sum (by decide +kernel)
theorem jo_44 : jF 229 44 1 6 := jo_sum (by decide +kernel)
theorem jo_45 : jF 229 45 0 4 := jo_sum (by decide +kernel)
theorem jo_46 : jF 229 46 1 6 := jo_sum (by decide +kernel)
theorem jo_47 : jF 229 47 1 6 := jo_sum (by decide +kernel)
theorem jo_48 : jF 229 48 0 4 := jo_sum (by decide +kernel)
theorem jo_49 : jF 229 49 1 6 := jo_sum (by decide +kernel)
theorem jo_50 : jF 229 50 1 6 := jo_sum (by decide +kernel)
theorem jo_51 : jF 229 51 0 4 := jo_sum (by decide +kernel)
theorem jo_52 : jF 229 52 1 6 := jo_sum (by decide +kernel)
theorem jo_53 : jF 229 53 1 6 := jo_sum (by decide +kernel)
theorem jo_54 : jF 229 54 0 4 := jo_sum (by decide +kernel)
theorem jo_55 : jF 229 55 1 6 := jo_sum (by decide +kernel)
theorem jo_56 : jF 229 56 1 6 := jo_sum (by decide +kernel)
theorem jo_57 : jF 229 57 0 4 := jo_sum (by decide +kernel)
theorem jo_58 : jF 229 58 1 6 := jo_sum (by decide +kernel)
theorem jo_59 : jF 229 59 1 6 := jo_sum (by decide +kernel)
theorem jo_60 : jF 229 60 0 4 := jo_sum (by decide +kernel)
theorem jo_61 : jF 229 61 1 6 := jo_sum (by decide +kernel)
theorem jo_62 : jF 229 62 1 6 := jo_sum (by decide +kernel)
theorem jo_63 : jF 229 63 0 4 := jo_sum (by decide +kernel)
theorem jo_64 : jF 229 64 1 6 := jo_sum (by decide +kernel)
theorem jo_65 : jF 229 65 1 6 := jo_sum (by decide +kernel)
theorem jo_66 : jF 229 66 0 4 := jo_sum (by decide +kernel)
theorem jo_67 : jF 229 67 1 6 := jo_sum (by decide +kernel)
theorem jo_68 : jF 229 68 1 6 := jo_sum (by decide +kernel)
theorem jo_69 : jF 229 69 0 4 := jo_sum (by decide +kernel)
theorem jo_70 : jF 229 70 1 6 := jo_sum (by decide +kernel)
theorem jo_71 : jF 229 71 1 6 := jo_sum (by decide +kernel)
theorem jo_72 : jF 229 72 0 4 := jo_sum (by decide +kernel)
theorem jo_73 : jF 229 73 1 6 := jo_sum (by decide +kernel)
theorem jo_74 : jF 229 74 1 6 := jo_sum (by decide +kernel)
theorem jo_75 : jF 229 75 0 4 := jo_sum (by decide +kernel)
theorem jo_76 : jF 229 76 1 6 := jo_sum (by decide +kernel)
theorem jo_77 : jF 229 77 1 6 := jo_sum (by decide +kernel)
theorem jo_78 : jF 229 78 0 4 := jo_sum (by decide +kernel)
theorem jo_79 : jF 229 79 1 6 := jo_sum (by decide +kernel)
theorem jo_80 : jF 229 80 1 6 := jo_sum (by decide +kernel)
theorem jo_81 : jF 229 81 0 4 := jo_sum (by decide +kernel)
theorem jo_82 : jF 229 82 1 6 := jo_sum (by decide +kernel)
theorem jo_83 : jF 229 83 1 6 := jo_sum (by decide +kernel)
theorem jo_84 : jF 229 84 0 3 := jo_sum (by decide +kernel)
theorem jo_85 : jF 229 85 1 40 := jo_sum (by decide +kernel)
theorem jo_86 : jF 229 86 1 40 := jo_sum (by decide +kernel)
theorem jo_87 : jF 229 87 1 40 := jo_sum (by decide +kernel)
theorem jo_88 : jF 229 88 1 40 := jo_sum (by decide +kernel)
theorem jo_89 : jF 229 89 1 40 := jo_sum (by decide +kernel)
theorem jo_90 : jF 229 90 1 3 := jo_sum (by decide +kernel)
theorem jo_91 : jF 229 91 0 8 := jo_sum (by decide +kernel)
theorem jo_92 : jF 229 92 1 3 := jo_sum (by decide +kernel)
theorem jo_93 : jF 229 93 1 18 := jo_sum (by decide +kernel)
theorem jo_94 : jF 229 94 1 18 := jo_sum (by decide +kernel)
theorem jo_95 : jF 229 95 1 18 := jo_sum (by decide +kernel)
theorem jo_96 : jF 229 96 1 18 := jo_sum (by decide +kernel)
theorem jo_97 : jF 229 97 0 6 := jo_sum (by decide +kernel)
theorem jo_98 : jF 229 98 1 6 := jo_sum (by decide +kernel)
theorem jo_99 : jF 229 99 2 64 := jo_sum (by decide +kernel)
theorem jo_100 : jF 229 100 2 6 := jo_sum (by decide +kernel)
theorem jo_101 : jF 229 101 0 5 := jo_sum (by decide +kernel)
theorem jo_102 : jF 229 102 1 40 := jo_sum (by decide +kernel)
theorem jo_103 : jF 229 103 1 40 := jo_sum (by decide +kernel)
theorem jo_104 : jF 229 104 1 40 := jo_sum (by decide +kernel)
theorem jo_105 : jF 229 105 1 40 := jo_sum (by decide +kernel)
theorem jo_106 : jF 229 106 0 0 := jo_sum (by decide +kernel)
theorem jo_107 : jF 229 107 1 4 := jo_sum (by decide +kernel)
theorem jo_108 : jF 229 108 1 1 := jo_sum (by decide +kernel)
theorem jo_109 : jF 229 109 1 1 := jo_sum (by decide +kernel)
theorem jo_110 : jF 229 110 1 1 := jo_sum (by decide +kernel)
theorem jo_111 : jF 229 111 0 7 := jo_sum (by decide +kernel)
theorem jo_112 : jF 229 112 1 5 := jo_sum (by decide +kernel)
theorem jo_113 : jF 229 113 0 0 := jo_sum (by decide +kernel)
theorem jo_114 : jF 229 114 1 1200 := jo_sum (by decide +kernel)
theorem jo_115 : jF 229 115 1 300 := jo_sum (by decide +kernel)
theorem jo_116 : jF 229 116 1 300 := jo_sum (by decide +kernel)
theorem jo_117 : jF 229 117 1 300 := jo_sum (by decide +kernel)
theorem jo_118 : jF 229 118 1 4 := jo_sum (by decide +kernel)
theorem jo_119 : jF 229 119 0 10 := jo_sum (by decide +kernel)
theorem jo_120 : jF 229 120 1 6 := jo_sum (by decide +kernel)
theorem jo_121 : jF 229 121 1 6 := jo_sum (by decide +kernel)
theorem jo_122 : jF 229 122 1 6 := jo_sum (by decide +kernel)
theorem jo_123 : jF 229 123 4 16 := jo_sum (by decide +kernel)
theorem jo_124 : jF 229 124 1 16 := jo_sum (by decide +kernel)
theorem jo_125 : jF 229 125 1 4 := jo_sum (by decide +kernel)
theorem jo_126 : jF 229 126 0 4 := jo_sum (by decide +kernel)
theorem jo_127 : jF 229 127 1 6 := jo_sum (by decide +kernel)
theorem jo_128 : jF 229 128 1 6 := jo_sum (by decide +kernel)
theorem jo_129 : jF 229 129 0 4 := jo_sum (by decide +kernel)
theorem jo_130 : jF 229 130 1 6 := jo_sum (by decide +kernel)
theorem jo_131 : jF 229 131 1 6 := jo_sum (by decide +kernel)
theorem jo_132 : jF 229 132 0 4 := jo_sum (by decide +kernel)
theorem jo_133 : jF 229 133 1 6 := jo_sum (by decide +kernel)
theorem jo_134 : jF 229 134 1 6 := jo_sum (by decide +kernel)
theorem jo_135 : jF 229 135 0 4 := jo_sum (by decide +kernel)
theorem jo_136 : jF 229 136 1 6 := jo_sum (by decide +kernel)
theorem jo_137 : jF 229 137 1 6 := jo_sum (by decide +kernel)
theorem jo_138 : jF 229 138 0 4 := jo_sum (by decide +kernel)
theorem jo_139 : jF 229 139 1 6 := jo_sum (by decide +kernel)
theorem jo_140 : jF 229 140 1 6 := jo_sum (by decide +kernel)
theorem jo_141 : jF 229 141 0 4 := jo_sum (by decide +kernel)
theorem jo_142 : jF 229 142 1 6 := jo_sum (by decide +kernel)
theorem jo_143 : jF 229 143 1 6 := jo_sum (by decide +kernel)
theorem jo_144 : jF 229 144 0 4 := jo_sum (by decide +kernel)
theorem jo_145 : jF 229 145 1 6 := jo_sum (by decide +kernel)
theorem jo_146 : jF 229 146 1 6 := jo_sum (by decide +kernel)
theorem jo_147 : jF 229 147 0 4 := jo_sum (by decide +kernel)
theorem jo_148 : jF 229 148 1 6 := jo_sum (by decide +kernel)
theorem jo_149 : jF 229 149 1 6 := jo_sum (by decide +kernel)
theorem jo_150 : jF 229 150 0 4 := jo_sum (by decide +kernel)
theorem jo_151 : jF 229 151 1 6 := jo_sum (by decide +kernel)
theorem jo_152 : jF 229 152 1 6 := jo_sum (by decide +kernel)
theorem jo_153 : jF 229 153 0 4 := jo_sum (by decide +kernel)
theorem jo_154 : jF 229 154 1 6 := jo_sum (by decide +kernel)
theorem jo_155 : jF 229 155 1 6 := jo_sum (by decide +kernel)
theorem jo_156 : jF 229 156 0 4 := jo_sum (by decide +kernel)
theorem jo_157 : jF 229 157 1 6 := jo_sum (by decide +kernel)
theorem jo_158 : jF 229 158 1 6 := jo_sum (by decide +kernel)
theorem jo_159 : jF 229 159 0 4 := jo_sum (by decide +kernel)
theorem jo_160 : jF 229 160 1 6 := jo_sum (by decide +kernel)
theorem jo_161 : jF 229 161 1 6 := jo_sum (by decide +kernel)
theorem jo_162 : jF 229 162 0 4 := jo_sum (by decide +kernel)
theorem jo_163 : jF 229 163 1 6 := jo_sum (by decide +kernel)
theorem jo_164 : jF 229 164 1 6 := jo_sum (by decide +kernel)
theorem jo_165 : jF 229 165 0 4 := jo_sum (by decide +kernel)
theorem jo_166 : jF 229 166 1 6 := jo_sum (by decide +kernel)
theorem jo_167 : jF 229 167 1 6 := jo_sum (by decide +kernel)
theorem jo_168 : jF 229 168 0 4 := jo_sum (by decide +kernel)
theorem jo_169 : jF 229 169 1 6 := jo_sum (by decide +kernel)
theorem jo_170 : jF 229 170 1 6 := jo_sum (by decide +kernel)
theorem jo_171 : jF 229 171 0 4 := jo_sum (by decide +kernel)
theorem jo_172 : jF 229 172 1 6 := jo_sum (by decide +kernel)
theorem jo_173 : jF 229 173 1 6 := jo_sum (by decide +kernel)
theorem jo_174 : jF 229 174 1 16 := jo_sum (by decide +kernel)
theorem jo_175 : jF 229 175 1 5 := jo_sum (by decide +kernel)
theorem jo_176 : jF 229 176 0 12 := jo_sum (by decide +kernel)
theorem jo_177 : jF 229 177 1 4 := jo_sum (by decide +kernel)
theorem jo_178 : jF 229 178 1 4 := jo_sum (by decide +kernel)
theorem jo_179 : jF 229 179 1 4 := jo_sum (by decide +kernel)
theorem jo_180 : jF 229 180 1 120 := jo_sum (by decide +kernel)
theorem jo_181 : jF 229 181 1 6 := jo_sum (by decide +kernel)
theorem jo_182 : jF 229 182 1 40 := jo_sum (by decide +kernel)
theorem jo_183 : jF 229 183 1 40 := jo_sum (by decide +kernel)
theorem jo_184 : jF 229 184 1 40 := jo_sum (by decide +kernel)
theorem jo_185 : jF 229 185 1 40 := jo_sum (by decide +kernel)
theorem jo_186 : jF 229 186 1 18 := jo_sum (by decide +kernel)
theorem jo_187 : jF 229 187 1 18 := jo_sum (by decide +kernel)
theorem jo_188 : jF 229 188 1 108 := jo_sum (by decide +kernel)
theorem jo_189 : jF 229 189 1 16 := jo_sum (by decide +kernel)
theorem jo_190 : jF 229 190 1 16 := jo_sum (by decide +kernel)
theorem jo_191 : jF 229 191 1 16 := jo_sum (by decide +kernel)
theorem jo_192 : jF 229 192 1 16 := jo_sum (by decide +kernel)
theorem jo_193 : jF 229 193 1 16 := jo_sum (by decide +kernel)
theorem jo_194 : jF 229 194 1 16 := jo_sum (by decide +kernel)
theorem jo_195 : jF 229 195 1 16 := jo_sum (by decide +kernel)
theorem jo_196 : jF 229 196 3 16 := jo_sum (by decide +kernel)
theorem jo_197 : jF 229 197 1 16 := jo_sum (by decide +kernel)
theorem jo_198 : jF 229 198 1 16 := jo_sum (by decide +kernel)
theorem jo_199 : jF 229 199 1 96 := jo_sum (by decide +kernel)
theorem jo_200 : jF 229 200 1 96 := jo_sum (by decide +kernel)
theorem jo_201 : jF 229 201 3 16 := jo_sum (by decide +kernel)
theorem jo_202 : jF 229 202 1 6 := jo_sum (by decide +kernel)
theorem jo_203 : jF 229 203 1 6 := jo_sum (by decide +kernel)
theorem jo_204 : jF 229 204 1 3 := jo_sum (by decide +kernel)
theorem jo_205 : jF 229 205 1 40 := jo_sum (by decide +kernel)
theorem jo_206 : jF 229 206 1 40 := jo_sum (by decide +kernel)
theorem jo_207 : jF 229 207 1 40 := jo_sum (by decide +kernel)
theorem jo_208 : jF 229 208 1 40 := jo_sum (by decide +kernel)
theorem jo_209 : jF 229 209 1 40 := jo_sum (by decide +kernel)
theorem jo_210 : jF 229 210 1 3 := jo_sum (by decide +kernel)
theorem jo_211 : jF 229 211 1 18 := jo_sum (by decide +kernel)
theorem jo_212 : jF 229 212 1 18 := jo_sum (by decide +kernel)
theorem jo_213 : jF 229 213 1 18 := jo_sum (by decide +kernel)
theorem jo_214 : jF 229 214 1 18 := jo_sum (by decide +kernel)
theorem jo_215 : jF 229 215 1 40 := jo_sum (by decide +kernel)
theorem jo_216 : jF 229 216 1 40 := jo_sum (by decide +kernel)
theorem jo_217 : jF 229 217 1 40 := jo_sum (by decide +kernel)
theorem jo_218 : jF 229 218 1 40 := jo_sum (by decide +kernel)
theorem jo_219 : jF 229 219 1 8 := jo_sum (by decide +kernel)
theorem jo_220 : jF 229 220 1 30 := jo_sum (by decide +kernel)
theorem jo_221 : jF 229 221 3 40 := jo_sum (by decide +kernel)
theorem jo_222 : jF 229 222 1 6 := jo_sum (by decide +kernel)
theorem jo_223 : jF 229 223 1 64 := jo_sum (by decide +kernel)
theorem jo_224 : jF 229 224 1 400 := jo_sum (by decide +kernel)
theorem jo_225 : jF 229 225 1 96 := jo_sum (by decide +kernel)
theorem jo_226 : jF 229 226 1 5 := jo_sum (by decide +kernel)
theorem jo_227 : jF 229 227 1 5 := jo_sum (by decide +kernel)
theorem jo_228 : jF 229 228 1 5 := jo_sum (by decide +kernel)
theorem jr_0_1 : jr0 0 1 = 1 := by decide +kernel
theorem jr_0_2 : jr0 0 2 = 2 := by decide +kernel
theorem jr_0_3 : jr0 0 3 = 11 := by decide +kernel
theorem jr_0_4 : jr0 0 4 = 16 := by decide +kernel
theorem jr_0_5 : jr0 0 5 = 29 := by decide +kernel
theorem jr_0_6 : jr0 0 6 = 84 := by decide +kernel
theorem jr_0_7 : jr0 0 7 = 91 := by decide +kernel
theorem jr_0_8 : jr0 0 8 = 97 := by decide +kernel
theorem jr_0_9 : jr0 0 9 = 101 := by decide +kernel
theorem jr_0_10 : jr0 0 10 = 106 := by decide +kernel
theorem jr_0_11 : jr0 0 11 = 111 := by decide +kernel
theorem jr_2_0 : jr0 2 0 = 3 := by decide +kernel
theorem jr_2_1 : jr0 2 1 = 4 := by decide +kernel
theorem jr_2_2 : jr0 2 2 = 5 := by decide +kernel
theorem jr_2_3 : jr0 2 3 = 10 := by decide +kernel
theorem jr_11_1 : jr0 11 1 = 12 := by decide +kernel
theorem jr_11_2 : jr0 11 2 = 13 := by decide +kernel
theorem jr_11_3 : jr0 11 3 = 14 := by decide +kernel
theorem jr_11_4 : jr0 11 4 = 15 := by decide +kernel
theorem jr_16_0 : jr0 16 0 = 17 := by decide +kernel
theorem jr_16_1 : jr0 16 1 = 21 := by decide +kernel
theorem jr_16_2 : jr0 16 2 = 25 := by decide +kernel
theorem jr_29_0 : jr0 29 0 = 30 := by decide +kernel
theorem jr_29_1 : jr0 29 1 = 31 := by decide +kernel
theorem jr_29_2 : jr0 29 2 = 32 := by decide +kernel
theorem jr_29_3 : jr0 29 3 = 33 := by decide +kernel
theorem jr_29_5 : jr0 29 5 = 34 := by decide +kernel
theorem jr_29_11 : jr0 29 11 = 35 := by decide +kernel
theorem jr_84_1 : jr0 84 1 = 85 := by decide +kernel
theorem jr_84_2 : jr0 84 2 = 86 := by decide +kernel
theorem jr_84_3 : jr0 84 3 = 87 := by decide +kernel
theorem jr_84_4 : jr0 84 4 = 88 := by decide +kernel
theorem jr_84_5 : jr0 84 5 = 89 := by decide +kernel
theorem jr_84_6 : jr0 84 6 = 90 := by decide +kernel
theorem jr_91_0 : jr0 91 0 = 92 := by decide +kernel
theorem jr_91_1 : jr0 91 1 = 93 := by decide +kernel
theorem jr_91_2 : jr0 91 2 = 94 := by decide +kernel
theorem jr_91_3 : jr0 91 3 = 95 := by decide +kernel
theorem jr_91_4 : jr0 91 4 = 96 := by decide +kernel
theorem jr_97_2 : jr0 97 2 = 98 := by decide +kernel
theorem jr_97_3 : jr0 97 3 = 99 := by decide +kernel
theorem jr_97_4 : jr0 97 4 = 100 := by decide +kernel
theorem jr_101_1 : jr0 101 1 = 102 := by decide +kernel
theorem jr_101_2 : jr0 101 2 = 103 := by decide +kernel
theorem jr_101_3 : jr0 101 3 = 104 := by decide +kernel
theorem jr_101_4 : jr0 101 4 = 105 := by decide +kernel
theorem jr_106_0 : jr0 106 0 = 107 := by decide +kernel
theorem jr_106_1 : jr0 106 1 = 108 := by decide +kernel
theorem jr_106_2 : jr0 106 2 = 109 := by decide +kernel
theorem jr_106_3 : jr0 106 3 = 110 := by decide +kernel
theorem jr_111_1 : jr0 111 1 = 112 := by decide +kernel
theorem jr_111_4 : jr0 111 4 = 113 := by decide +kernel
theorem jr_111_5 : jr0 111 5 = 118 := by decide +kernel
theorem jr_111_6 : jr0 111 6 = 119 := by decide +kernel
theorem jr_111_7 : jr0 111 7 = 174 := by decide +kernel
theorem jr_111_8 : jr0 111 8 = 175 := by decide +kernel
theorem jr_113_0 : jr0 113 0 = 114 := by decide +kernel
theorem jr_113_1 : jr0 113 1 = 115 := by decide +kernel
theorem jr_113_2 : jr0 113 2 = 116 := by decide +kernel
theorem jr_113_3 : jr0 113 3 = 117 := by decide +kernel
theorem jr_119_0 : jr0 119 0 = 120 := by decide +kernel
theorem jr_119_1 : jr0 119 1 = 121 := by decide +kernel
theorem jr_119_2 : jr0 119 2 = 122 := by decide +kernel
theorem jr_119_3 : jr0 119 3 = 123 := by decide +kernel
theorem jr_119_5 : jr0 119 5 = 124 := by decide +kernel
theorem jr_119_11 : jr0 119 11 = 125 := by decide +kernel
theorem jr_176_1 : jr0 176 1 = 177 := by decide +kernel
theorem jr_176_2 : jr0 176 2 = 178 := by decide +kernel
theorem jr_176_3 : jr0 176 3 = 179 := by decide +kernel
theorem jr_176_4 : jr0 176 4 = 180 := by decide +kernel
theorem jr_176_5 : jr0 176 5 = 181 := by decide +kernel
theorem jr_176_7 : jr0 176 7 = 182 := by decide +kernel
theorem jr_176_8 : jr0 176 8 = 183 := by decide +kernel
theorem jr_176_9 : jr0 176 9 = 184 := by decide +kernel
theorem jr_176_10 : jr0 176 10 = 185 := by decide +kernel
theorem jr_176_11 : jr0 176 11 = 186 := by decide +kernel
theorem jr_176_12 : jr0 176 12 = 187 := by decide +kernel
theorem jr_176_13 : jr0 176 13 = 188 := by decide +kernel
theorem jr_176_15 : jr0 176 15 = 189 := by decide +kernel
theorem jr_176_16 : jr0 176 16 = 190 := by decide +kernel
theorem jr_176_17 : jr0 176 17 = 191 := by decide +kernel
theorem jr_176_18 : jr0 176 18 = 192 := by decide +kernel
theorem jr_176_19 : jr0 176 19 = 193 := by decide +kernel
theorem jr_176_20 : jr0 176 20 = 194 := by decide +kernel
theorem jr_176_21 : jr0 176 21 = 195 := by decide +kernel
theorem jr_176_22 : jr0 176 22 = 196 := by decide +kernel
theorem jr_176_23 : jr0 176 23 = 197 := by decide +kernel
theorem jr_176_24 : jr0 176 24 = 198 := by decide +kernel
theorem jr_176_25 : jr0 176 25 = 199 := by decide +kernel
theorem jr_176_26 : jr0 176 26 = 200 := by decide +kernel
theorem jr_176_27 : jr0 176 27 = 201 := by decide +kernel
theorem jr_176_28 : jr0 176 28 = 202 := by decide +kernel
theorem jr_176_29 : jr0 176 29 = 203 := by decide +kernel
theorem jr_176_33 : jr0 176 33 = 204 := by decide +kernel
theorem jr_176_35 : jr0 176 35 = 205 := by decide +kernel
theorem jr_176_36 : jr0 176 36 = 206 := by decide +kernel
theorem jr_176_37 : jr0 176 37 = 207 := by decide +kernel
theorem jr_176_38 : jr0 176 38 = 208 := by decide +kernel
theorem jr_176_39 : jr0 176 39 = 209 := by decide +kernel
theorem jr_176_40 : jr0 176 40 = 210 := by decide +kernel
theorem jr_176_41 : jr0 176 41 = 211 := by decide +kernel
theorem jr_176_42 : jr0 176 42 = 212 := by decide +kernel
theorem jr_176_43 : jr0 176 43 = 213 := by decide +kernel
theorem jr_176_44 : jr0 176 44 = 214 := by decide +kernel
theorem jr_176_46 : jr0 176 46 = 215 := by decide +kernel
theorem jr_176_47 : jr0 176 47 = 216 := by decide +kernel
theorem jr_176_48 : jr0 176 48 = 217 := by decide +kernel
theorem jr_176_49 : jr0 176 49 = 218 := by decide +kernel
theorem jr_176_50 : jr0 176 50 = 219 := by decide +kernel
theorem jr_176_51 : jr0 176 51 = 220 := by decide +kernel
theorem jr_176_52 : jr0 176 52 = 221 := by decide +kernel
theorem jr_176_53 : jr0 176 53 = 222 := by decide +kernel
theorem jr_176_54 : jr0 176 54 = 223 := by decide +kernel
theorem jr_176_59 : jr0 176 59 = 224 := by decide +kernel
theorem jr_176_60 : jr0 176 60 = 225 := by decide +kernel
theorem jr_176_61 : jr0 176 61 = 226 := by decide +kernel
theorem jr_176_63 : jr0 176 63 = 227 := by decide +kernel
theorem jr_176_64 : jr0 176 64 = 228 := by decide +kernel
theorem jba_of {i : Int} {lo hi c : Int} (hk : (decide ((jk i).1 ≠ 0) && decide (i ≠ 224) && decide (jbA.getD i.toNat (-2147483648, 2147483647, 0) = (lo, hi, c))) = true) (k v : Int) : jbd i k v ↔ (lo ≤ v ∧ v ≤ hi) ∨ v = c := by
  simp only [Bool.and_eq_true, decide_eq_true_eq] at hk
  unfold jbd jbp
  split
  · rename_i ci e
    exact absurd (show (jk i).1 = 0 by rw [e]) hk.1.1
  · rw [if_neg hk.1.2, hk.2]
theorem jba_1 (k v : Int) : jbd 1 k v ↔ (-2147483648 ≤ v ∧ v ≤ 2147483647) := (jba_of (i := 1) (lo := -2147483648) (hi := 2147483647) (c := 0) (by decide +kernel) k v).trans ⟨fun q => by omega, fun q => Or.inl q⟩
theorem jba_3 (k v : Int) : jbd 3 k v ↔ (0 ≤ v ∧ v ≤ 400) := (jba_of (i := 3) (lo := 0) (hi := 400) (c := 0) (by decide +kernel) k v).trans ⟨fun q => by omega, fun q => Or.inl q⟩
theorem jba_4 (k v : Int) : jbd 4 k v ↔ (-1 ≤ v ∧ v ≤ 3) := (jba_of (i := 4) (lo := -1) (hi := 3) (c := 0) (by decide +kernel) k v).trans ⟨fun q => by omega, fun q => Or.inl q⟩
theorem jba_6 (k v : Int) : jbd 6 k v ↔ (0 ≤ v ∧ v ≤ 400) := (jba_of (i := 6) (lo := 0) (hi := 400) (c := 0) (by decide +kernel) k v).trans ⟨fun q => by omega, fun q => Or.inl q⟩
theorem jba_7 (k v : Int) : jbd 7 k v ↔ (0 ≤ v ∧ v ≤ 400) := (jba_of (i := 7) (lo := 0) (hi := 400) (c := 0) (by decide +kernel) k v).trans ⟨fun q => by omega, fun q => Or.inl q⟩
theorem jba_8 (k v : Int) : jbd 8 k v ↔ (0 ≤ v ∧ v ≤ 400) := (jba_of (i := 8) (lo := 0) (hi := 400) (c := 0) (by decide +kernel) k v).trans ⟨fun q => by omega, fun q => Or.inl q⟩
theorem jba_9 (k v : Int) : jbd 9 k v ↔ (0 ≤ v ∧ v ≤ 400) := (jba_of (i := 9) (lo := 0) (hi := 400) (c := 0) (by decide +kernel) k v).trans ⟨fun q => by omega, fun q => Or.inl q⟩
theorem jba_10 (k v : Int) : jbd 10 k v ↔ (-1 ≤ v ∧ v ≤ 30) := (jba_of (i := 10) (lo := -1) (hi := 30) (c := 0) (by decide +kernel) k v).trans ⟨fun q => by omega, fun q => Or.inl q⟩
theorem jba_12 (k v : Int) : jbd 12 k v ↔ (0 ≤ v ∧ v ≤ 9) := (jba_of (i := 12) (lo := 0) (hi := 9) (c := 0) (by decide +kernel) k v).trans ⟨fun q => by omega, fun q => Or.inl q⟩
theorem jba_13 (k v : Int) : jbd 13 k v ↔ (0 ≤ v ∧ v ≤ 200) := (jba_of (i := 13) (lo := 0) (hi := 200) (c := 0) (by decide +kernel) k v).trans ⟨fun q => by omega, fun q => Or.inl q⟩
theorem jba_14 (k v : Int) : jbd 14 k v ↔ (0 ≤ v ∧ v ≤ 2000) := (jba_of (i := 14) (lo := 0) (hi := 2000) (c := 0) (by decide +kernel) k v).trans ⟨fun q => by omega, fun q => Or.inl q⟩
theorem jba_15 (k v : Int) : jbd 15 k v ↔ (0 ≤ v ∧ v ≤ 200) := (jba_of (i := 15) (lo := 0) (hi := 200) (c := 0) (by decide +kernel) k v).trans ⟨fun q => by omega, fun q => Or.inl q⟩
theorem jba_18 (k v : Int) : jbd 18 k v ↔ (0 ≤ v ∧ v ≤ 3) := (jba_of (i := 18) (lo := 0) (hi := 3) (c := 0) (by decide +kernel) k v).trans ⟨fun q => by omega, fun q => Or.inl q⟩
theorem jba_19 (k v : Int) : jbd 19 k v ↔ (0 ≤ v ∧ v ≤ 3) := (jba_of (i := 19) (lo := 0) (hi := 3) (c := 0) (by decide +kernel) k v).trans ⟨fun q => by omega, fun q => Or.inl q⟩
theorem jba_20 (k v : Int) : jbd 20 k v ↔ (0 ≤ v ∧ v ≤ 3) := (jba_of (i := 20) (lo := 0) (hi := 3) (c := 0) (by decide +kernel) k v).trans ⟨fun q => by omega, fun q => Or.inl q⟩
theorem jba_22 (k v : Int) : jbd 22 k v ↔ (0 ≤ v ∧ v ≤ 2000) := (jba_of (i := 22) (lo := 0) (hi := 2000) (c := 0) (by decide +kernel) k v).trans ⟨fun q => by omega, fun q => Or.inl q⟩
theorem jba_23 (k v : Int) : jbd 23 k v ↔ (0 ≤ v ∧ v ≤ 2000) := (jba_of (i := 23) (lo := 0) (hi := 2000) (c := 0) (by decide +kernel) k v).trans ⟨fun q => by omega, fun q => Or.inl q⟩
theorem jba_24 (k v : Int) : jbd 24 k v ↔ (0 ≤ v ∧ v ≤ 2000) := (jba_of (i := 24) (lo := 0) (hi := 2000) (c := 0) (by decide +kernel) k v).trans ⟨fun q => by omega, fun q => Or.inl q⟩
theorem jba_26 (k v : Int) : jbd 26 k v ↔ (0 ≤ v ∧ v ≤ 500) := (jba_of (i := 26) (lo := 0) (hi := 500) (c := 0) (by decide +kernel) k v).trans ⟨fun q => by omega, fun q => Or.inl q⟩
theorem jba_27 (k v : Int) : jbd 27 k v ↔ (0 ≤ v ∧ v ≤ 500) := (jba_of (i := 27) (lo := 0) (hi := 500) (c := 0) (by decide +kernel) k v).trans ⟨fun q => by omega, fun q => Or.inl q⟩
theorem jba_28 (k v : Int) : jbd 28 k v ↔ (0 ≤ v ∧ v ≤ 500) := (jba_of (i := 28) (lo := 0) (hi := 500) (c := 0) (by decide +kernel) k v).trans ⟨fun q => by omega, fun q => Or.inl q⟩
theorem jba_30 (k v : Int) : jbd 30 k v ↔ (-2147483648 ≤ v ∧ v ≤ 2147483647) := (jba_of (i := 30) (lo := -2147483648) (hi := 2147483647) (c := 0) (by decide +kernel) k v).trans ⟨fun q => by omega, fun q => Or.inl q⟩
theorem jba_31 (k v : Int) : jbd 31 k v ↔ (-2 ≤ v ∧ v ≤ 15) := (jba_of (i := 31) (lo := -2) (hi := 15) (c := 0) (by decide +kernel) k v).trans ⟨fun q => by omega, fun q => Or.inl q⟩
theorem jba_32 (k v : Int) : jbd 32 k v ↔ (-2147483648 ≤ v ∧ v ≤ 2147483647) := (jba_of (i := 32) (lo := -2147483648) (hi := 2147483647) (c := 0) (by decide +kernel) k v).trans ⟨fun q => by omega, fun q => Or.inl q⟩
theorem jba_34 (k v : Int) : jbd 34 k v ↔ (0 ≤ v ∧ v ≤ 15) := (jba_of (i := 34) (lo := 0) (hi := 15) (c := 0) (by decide +kernel) k v).trans ⟨fun q => by omega, fun q => Or.inl q⟩
theorem jba_35 (k v : Int) : jbd 35 k v ↔ (-2147483648 ≤ v ∧ v ≤ 2147483647) := (jba_of (i := 35) (lo := -2147483648) (hi := 2147483647) (c := 0) (by decide +kernel) k v).trans ⟨fun q => by omega, fun q => Or.inl q⟩
theorem jba_37 (k v : Int) : jbd 37 k v ↔ (-2147483648 ≤ v ∧ v ≤ 2147483647) := (jba_of (i := 37) (lo := -2147483648) (hi := 2147483647) (c := 0) (by decide +kernel) k v).trans ⟨fun q => by omega, fun q => Or.inl q⟩
theorem jba_38 (k v : Int) : jbd 38 k v ↔ (-2147483648 ≤ v ∧ v ≤ 2147483647) := (jba_of (i := 38) (lo := -2147483648) (hi := 2147483647) (c := 0) (by decide +kernel) k v).trans ⟨fun q => by omega, fun q => Or.inl q⟩
theorem jba_40 (k v : Int) : jbd 40 k v ↔ (-2147483648 ≤ v ∧ v ≤ 2147483647) := (jba_of (i := 40) (lo := -2147483648) (hi := 2147483647) (c := 0) (by decide +kernel) k v).trans ⟨fun q => by omega, fun q => Or.inl q⟩
theorem jba_41 (k v : Int) : jbd 41 k v ↔ (-2147483648 ≤ v ∧ v ≤ 2147483647) := (jba_of (i := 41) (lo := -2147483648) (hi := 2147483647) (c := 0) (by decide +kernel) k v).trans ⟨fun q => by omega, fun q => Or.inl q⟩
theorem jba_43 (k v : Int) : jbd 43 k v ↔ (-2147483648 ≤ v ∧ v ≤ 2147483647) := (jba_of (i := 43) (lo := -2147483648) (hi := 2147483647) (c := 0) (by decide +kernel) k v).trans ⟨fun q => by omega, fun q => Or.inl q⟩
theorem jba_44 (k v : Int) : jbd 44 k v ↔ (-2147483648 ≤ v ∧ v ≤ 2147483647) := (jba_of (i := 44) (lo := -2147483648) (hi := 2147483647) (c := 0) (by decide +kernel) k v).trans ⟨fun q => by omega, fun q => Or.inl q⟩
theorem jba_46 (k v : Int) : jbd 46 k v ↔ (-2147483648 ≤ v ∧ v ≤ 2147483647) := (jba_of (i := 46) (lo := -2147483648) (hi := 2147483647) (c := 0) (by decide +kernel) k v).trans ⟨fun q => by omega, fun q => Or.inl q⟩
theorem jba_47 (k v : Int) : jbd 47 k v ↔ (-2147483648 ≤ v ∧ v ≤ 2147483647) := (jba_of (i := 47) (lo := -2147483648) (hi := 2147483647) (c := 0) (by decide +kernel) k v).trans ⟨fun q => by omega, fun q => Or.inl q⟩
theorem jba_49 (k v : Int) : jbd 49 k v ↔ (-2147483648 ≤ v ∧ v ≤ 2147483647) := (jba_of (i := 49) (lo := -2147483648) (hi := 2147483647) (c := 0) (by decide +kernel) k v).trans ⟨fun q => by omega, fun q => Or.inl q⟩
theorem jba_50 (k v : Int) : jbd 50 k v ↔ (-2147483648 ≤ v ∧ v ≤ 2147483647) := (jba_of (i := 50) (lo := -2147483648) (hi := 2147483647) (c := 0) (by decide +kernel) k v).trans ⟨fun q => by omega, fun q => Or.inl q⟩
theorem jba_52 (k v : Int) : jbd 52 k v ↔ (-2147483648 ≤ v ∧ v ≤ 2147483647) := (jba_of (i := 52) (lo := -2147483648) (hi := 2147483647) (c := 0) (by decide +kernel) k v).trans ⟨fun q => by omega, fun q => Or.inl q⟩
theorem jba_53 (k v : Int) : jbd 53 k v ↔ (-2147483648 ≤ v ∧ v ≤ 2147483647) := (jba_of (i := 53) (lo := -2147483648) (hi := 2147483647) (c := 0) (by decide +kernel) k v).trans ⟨fun q => by omega, fun q => Or.inl q⟩
theorem jba_55 (k v : Int) : jbd 55 k v ↔ (-2147483648 ≤ v ∧ v ≤ 2147483647) := (jba_of (i := 55) (lo := -2147483648) (hi := 2147483647) (c := 0) (by decide +kernel) k v).trans ⟨fun q => by omega, fun q => Or.inl q⟩
theorem jba_56 (k v : Int) : jbd 56 k v ↔ (-2147483648 ≤ v ∧ v ≤ 2147483647) := (jba_of (i := 56) (lo := -2147483648) (hi := 2147483647) (c := 0) (by decide +kernel) k v).trans ⟨fun q => by omega, fun q => Or.inl q⟩
theorem jba_58 (k v : Int) : jbd 58 k v ↔ (-2147483648 ≤ v ∧ v ≤ 2147483647) := (jba_of (i := 58) (lo := -2147483648) (hi := 2147483647) (c := 0) (by decide +kernel) k v).trans ⟨fun q => by omega, fun q => Or.inl q⟩
theorem jba_59 (k v : Int) : jbd 59 k v ↔ (-2147483648 ≤ v ∧ v ≤ 2147483647) := (jba_of (i := 59) (lo := -2147483648) (hi := 2147483647) (c := 0) (by decide +kernel) k v).trans ⟨fun q => by omega, fun q => Or.inl q⟩
theorem jba_61 (k v : Int) : jbd 61 k v ↔ (-2147483648 ≤ v ∧ v ≤ 2147483647) := (jba_of (i := 61) (lo := -2147483648) (hi := 2147483647) (c := 0) (by decide +kernel) k v).trans ⟨fun q => by omega, fun q => Or.inl q⟩
theorem jba_62 (k v : Int) : jbd 62 k v ↔ (-2147483648 ≤ v ∧ v ≤ 2147483647) := (jba_of (i := 62) (lo := -2147483648) (hi := 2147483647) (c := 0) (by decide +kernel) k v).trans ⟨fun q => by omega, fun q => Or.inl q⟩
theorem jba_64 (k v : Int) : jbd 64 k v ↔ (-2147483648 ≤ v ∧ v ≤ 2147483647) := (jba_of (i := 64) (lo := -2147483648) (hi := 2147483647) (c := 0) (by decide +kernel) k v).trans ⟨fun q => by omega, fun q => Or.inl q⟩
theorem jba_65 (k v : Int) : jbd 65 k v ↔ (-2147483648 ≤ v ∧ v ≤ 2147483647) := (jba_of (i := 65) (lo := -2147483648) (hi := 2147483647) (c := 0) (by decide +kernel) k v).trans ⟨fun q => by omega, fun q => Or.inl q⟩
theorem jba_67 (k v : Int) : jbd 67 k v ↔ (-2147483648 ≤ v ∧ v ≤ 2147483647) := (jba_of (i := 67) (lo := -2147483648) (hi := 2147483647) (c := 0) (by decide +kernel) k v).trans ⟨fun q => by omega, fun q => Or.inl q⟩
theorem jba_68 (k v : Int) : jbd 68 k v ↔ (-2147483648 ≤ v ∧ v ≤ 2147483647) := (jba_of (i := 68) (lo := -2147483648) (hi := 2147483647) (c := 0) (by decide +kernel) k v).trans ⟨fun q => by omega, fun q => Or.inl q⟩
theorem jba_70 (k v : Int) : jbd 70 k v ↔ (-2147483648 ≤ v ∧ v ≤ 2147483647) := (jba_of (i := 70) (lo := -2147483648) (hi := 2147483647) (c := 0) (by decide +kernel) k v).trans ⟨fun q => by omega, fun q => Or.inl q⟩
theorem jba_71 (k v : Int) : jbd 71 k v ↔ (-2147483648 ≤ v ∧ v ≤ 2147483647) := (jba_of (i := 71) (lo := -2147483648) (hi := 2147483647) (c := 0) (by decide +kernel) k v).trans ⟨fun q => by omega, fun q => Or.inl q⟩
theorem jba_73 (k v : Int) : jbd 73 k v ↔ (-2147483648 ≤ v ∧ v ≤ 2147483647) := (jba_of (i := 73) (lo := -2147483648) (hi := 2147483647) (c := 0) (by decide +kernel) k v).trans ⟨fun q => by omega, fun q => Or.inl q⟩
theorem jba_74 (k v : Int) : jbd 74 k v ↔ (-2147483648 ≤ v ∧ v ≤ 2147483647) := (jba_of (i := 74) (lo := -2147483648) (hi := 2147483647) (c := 0) (by decide +kernel) k v).trans ⟨fun q => by omega, fun q => Or.inl q⟩
theorem jba_76 (k v : Int) : jbd 76 k v ↔ (-2147483648 ≤ v ∧ v ≤ 2147483647) := (jba_of (i := 76) (lo := -2147483648) (hi := 2147483647) (c := 0) (by decide +kernel) k v).trans ⟨fun q => by omega, fun q => Or.inl q⟩
theorem jba_77 (k v : Int) : jbd 77 k v ↔ (-2147483648 ≤ v ∧ v ≤ 2147483647) := (jba_of (i := 77) (lo := -2147483648) (hi := 2147483647) (c := 0) (by decide +kernel) k v).trans ⟨fun q => by omega, fun q => Or.inl q⟩
theorem jba_79 (k v : Int) : jbd 79 k v ↔ (-2147483648 ≤ v ∧ v ≤ 2147483647) := (jba_of (i := 79) (lo := -2147483648) (hi := 2147483647) (c := 0) (by decide +kernel) k v).trans ⟨fun q => by omega, fun q => Or.inl q⟩
theorem jba_80 (k v : Int) : jbd 80 k v ↔ (-2147483648 ≤ v ∧ v ≤ 2147483647) := (jba_of (i := 80) (lo := -2147483648) (hi := 2147483647) (c := 0) (by decide +kernel) k v).trans ⟨fun q => by omega, fun q => Or.inl q⟩
theorem jba_82 (k v : Int) : jbd 82 k v ↔ (-2147483648 ≤ v ∧ v ≤ 2147483647) := (jba_of (i := 82) (lo := -2147483648) (hi := 2147483647) (c := 0) (by decide +kernel) k v).trans ⟨fun q => by omega, fun q => Or.inl q⟩
theorem jba_83 (k v : Int) : jbd 83 k v ↔ (-2147483648 ≤ v ∧ v ≤ 2147483647) := (jba_of (i := 83) (lo := -2147483648) (hi := 2147483647) (c := 0) (by decide +kernel) k v).trans ⟨fun q => by omega, fun q => Or.inl q⟩
theorem jba_85 (k v : Int) : jbd 85 k v ↔ (0 ≤ v ∧ v ≤ 2) := (jba_of (i := 85) (lo := 0) (hi := 2) (c := 0) (by decide +kernel) k v).trans ⟨fun q => by omega, fun q => Or.inl q⟩
theorem jba_86 (k v : Int) : jbd 86 k v ↔ (-9 ≤ v ∧ v ≤ 9) := (jba_of (i := 86) (lo := -9) (hi := 9) (c := 0) (by decide +kernel) k v).trans ⟨fun q => by omega, fun q => Or.inl q⟩
theorem jba_87 (k v : Int) : jbd 87 k v ↔ (-2147483648 ≤ v ∧ v ≤ 2147483647) := (jba_of (i := 87) (lo := -2147483648) (hi := 2147483647) (c := 0) (by decide +kernel) k v).trans ⟨fun q => by omega, fun q => Or.inl q⟩
theorem jba_88 (k v : Int) : jbd 88 k v ↔ (-9 ≤ v ∧ v ≤ 15) := (jba_of (i := 88) (lo := -9) (hi := 15) (c := 0) (by decide +kernel) k v).trans ⟨fun q => by omega, fun q => Or.inl q⟩
theorem jba_89 (k v : Int) : jbd 89 k v ↔ (-9 ≤ v ∧ v ≤ 5) := (jba_of (i := 89) (lo := -9) (hi := 5) (c := 0) (by decide +kernel) k v).trans ⟨fun q => by omega, fun q => Or.inl q⟩
theorem jba_90 (k v : Int) : jbd 90 k v ↔ (0 ≤ v ∧ v ≤ 9) := (jba_of (i := 90) (lo := 0) (hi := 9) (c := 0) (by decide +kernel) k v).trans ⟨fun q => by omega, fun q => Or.inl q⟩
theorem jba_92 (k v : Int) : jbd 92 k v ↔ (0 ≤ v ∧ v ≤ 6) := (jba_of (i := 92) (lo := 0) (hi := 6) (c := 0) (by decide +kernel) k v).trans ⟨fun q => by omega, fun q => Or.inl q⟩
theorem jba_93 (k v : Int) : jbd 93 k v ↔ (0 ≤ v ∧ v ≤ 2) := (jba_of (i := 93) (lo := 0) (hi := 2) (c := 0) (by decide +kernel) k v).trans ⟨fun q => by omega, fun q => Or.inl q⟩
theorem jba_94 (k v : Int) : jbd 94 k v ↔ (-9 ≤ v ∧ v ≤ 9) := (jba_of (i := 94) (lo := -9) (hi := 9) (c := 0) (by decide +kernel) k v).trans ⟨fun q => by omega, fun q => Or.inl q⟩
theorem jba_95 (k v : Int) : jbd 95 k v ↔ (0 ≤ v ∧ v ≤ 9) := (jba_of (i := 95) (lo := 0) (hi := 9) (c := 0) (by decide +kernel) k v).trans ⟨fun q => by omega, fun q => Or.inl q⟩
theorem jba_96 (k v : Int) : jbd 96 k v ↔ (0 ≤ v ∧ v ≤ 500) := (jba_of (i := 96) (lo := 0) (hi := 500) (c := 0) (by decide +kernel) k v).trans ⟨fun q => by omega, fun q => Or.inl q⟩
theorem jba_98 (k v : Int) : jbd 98 k v ↔ (-9 ≤ v ∧ v ≤ 39) := (jba_of (i := 98) (lo := -9) (hi := 39) (c := 0) (by decide +kernel) k v).trans ⟨fun q => by omega, fun q => Or.inl q⟩
theorem jba_99 (k v : Int) : jbd 99 k v ↔ (-9223372036854775808 ≤ v ∧ v ≤ 9223372036854775807) := (jba_of (i := 99) (lo := -9223372036854775808) (hi := 9223372036854775807) (c := 0) (by decide +kernel) k v).trans ⟨fun q => by omega, fun q => Or.inl q⟩
theorem jba_100 (k v : Int) : jbd 100 k v ↔ (-9223372036854775808 ≤ v ∧ v ≤ 9223372036854775807) := (jba_of (i := 100) (lo := -9223372036854775808) (hi := 9223372036854775807) (c := 0) (by decide +kernel) k v).trans ⟨fun q => by omega, fun q => Or.inl q⟩
theorem jba_102 (k v : Int) : jbd 102 k v ↔ (0 ≤ v ∧ v ≤ 5) := (jba_of (i := 102) (lo := 0) (hi := 5) (c := 0) (by decide +kernel) k v).trans ⟨fun q => by omega, fun q => Or.inl q⟩
theorem jba_103 (k v : Int) : jbd 103 k v ↔ (0 ≤ v ∧ v ≤ 2000) := (jba_of (i := 103) (lo := 0) (hi := 2000) (c := 0) (by decide +kernel) k v).trans ⟨fun q => by omega, fun q => Or.inl q⟩
theorem jba_104 (k v : Int) : jbd 104 k v ↔ (-2147483648 ≤ v ∧ v ≤ 2147483647) := (jba_of (i := 104) (lo := -2147483648) (hi := 2147483647) (c := 0) (by decide +kernel) k v).trans ⟨fun q => by omega, fun q => Or.inl q⟩
theorem jba_105 (k v : Int) : jbd 105 k v ↔ (0 ≤ v ∧ v ≤ 2000) := (jba_of (i := 105) (lo := 0) (hi := 2000) (c := 0) (by decide +kernel) k v).trans ⟨fun q => by omega, fun q => Or.inl q⟩
theorem jba_107 (k v : Int) : jbd 107 k v ↔ (0 ≤ v ∧ v ≤ 400) := (jba_of (i := 107) (lo := 0) (hi := 400) (c := 0) (by decide +kernel) k v).trans ⟨fun q => by omega, fun q => Or.inl q⟩
theorem jba_108 (k v : Int) : jbd 108 k v ↔ (0 ≤ v ∧ v ≤ 200) := (jba_of (i := 108) (lo := 0) (hi := 200) (c := 0) (by decide +kernel) k v).trans ⟨fun q => by omega, fun q => Or.inl q⟩
theorem jba_109 (k v : Int) : jbd 109 k v ↔ (-2147483648 ≤ v ∧ v ≤ 2147483647) := (jba_of (i := 109) (lo := -2147483648) (hi := 2147483647) (c := 0) (by decide +kernel) k v).trans ⟨fun q => by omega, fun q => Or.inl q⟩
theorem jba_110 (k v : Int) : jbd 110 k v ↔ (-2147483648 ≤ v ∧ v ≤ 2147483647) := (jba_of (i := 110) (lo := -2147483648) (hi := 2147483647) (c := 0) (by decide +kernel) k v).trans ⟨fun q => by omega, fun q => Or.inl q⟩
theorem jba_112 (k v : Int) : jbd 112 k v ↔ (0 ≤ v ∧ v ≤ 15) := (jba_of (i := 112) (lo := 0) (hi := 15) (c := 0) (by decide +kernel) k v).trans ⟨fun q => by omega, fun q => Or.inl q⟩
theorem jba_114 (k v : Int) : jbd 114 k v ↔ (0 ≤ v ∧ v ≤ 400) := (jba_of (i := 114) (lo := 0) (hi := 400) (c := 0) (by decide +kernel) k v).trans ⟨fun q => by omega, fun q => Or.inl q⟩
theorem jba_115 (k v : Int) : jbd 115 k v ↔ (0 ≤ v ∧ v ≤ 200) := (jba_of (i := 115) (lo := 0) (hi := 200) (c := 0) (by decide +kernel) k v).trans ⟨fun q => by omega, fun q => Or.inl q⟩
theorem jba_116 (k v : Int) : jbd 116 k v ↔ (-2147483648 ≤ v ∧ v ≤ 2147483647) := (jba_of (i := 116) (lo := -2147483648) (hi := 2147483647) (c := 0) (by decide +kernel) k v).trans ⟨fun q => by omega, fun q => Or.inl q⟩
theorem jba_117 (k v : Int) : jbd 117 k v ↔ (-2147483648 ≤ v ∧ v ≤ 2147483647) := (jba_of (i := 117) (lo := -2147483648) (hi := 2147483647) (c := 0) (by decide +kernel) k v).trans ⟨fun q => by omega, fun q => Or.inl q⟩
theorem jba_118 (k v : Int) : jbd 118 k v ↔ (-1 ≤ v ∧ v ≤ 299) := (jba_of (i := 118) (lo := -1) (hi := 299) (c := 0) (by decide +kernel) k v).trans ⟨fun q => by omega, fun q => Or.inl q⟩
theorem jba_120 (k v : Int) : jbd 120 k v ↔ (-2147483648 ≤ v ∧ v ≤ 2147483647) := (jba_of (i := 120) (lo := -2147483648) (hi := 2147483647) (c := 0) (by decide +kernel) k v).trans ⟨fun q => by omega, fun q => Or.inl q⟩
theorem jba_121 (k v : Int) : jbd 121 k v ↔ (-2 ≤ v ∧ v ≤ 15) := (jba_of (i := 121) (lo := -2) (hi := 15) (c := 0) (by decide +kernel) k v).trans ⟨fun q => by omega, fun q => Or.inl q⟩
theorem jba_122 (k v : Int) : jbd 122 k v ↔ (-2147483648 ≤ v ∧ v ≤ 2147483647) := (jba_of (i := 122) (lo := -2147483648) (hi := 2147483647) (c := 0) (by decide +kernel) k v).trans ⟨fun q => by omega, fun q => Or.inl q⟩
theorem jba_124 (k v : Int) : jbd 124 k v ↔ (0 ≤ v ∧ v ≤ 15) := (jba_of (i := 124) (lo := 0) (hi := 15) (c := 0) (by decide +kernel) k v).trans ⟨fun q => by omega, fun q => Or.inl q⟩
theorem jba_125 (k v : Int) : jbd 125 k v ↔ (-2147483648 ≤ v ∧ v ≤ 2147483647) := (jba_of (i := 125) (lo := -2147483648) (hi := 2147483647) (c := 0) (by decide +kernel) k v).trans ⟨fun q => by omega, fun q => Or.inl q⟩
theorem jba_127 (k v : Int) : jbd 127 k v ↔ (-2147483648 ≤ v ∧ v ≤ 2147483647) := (jba_of (i := 127) (lo := -2147483648) (hi := 2147483647) (c := 0) (by decide +kernel) k v).trans ⟨fun q => by omega, fun q => Or.inl q⟩
theorem jba_128 (k v : Int) : jbd 128 k v ↔ (-2147483648 ≤ v ∧ v ≤ 2147483647) := (jba_of (i := 128) (lo := -2147483648) (hi := 2147483647) (c := 0) (by decide +kernel) k v).trans ⟨fun q => by omega, fun q => Or.inl q⟩
theorem jba_130 (k v : Int) : jbd 130 k v ↔ (-2147483648 ≤ v ∧ v ≤ 2147483647) := (jba_of (i := 130) (lo := -2147483648) (hi := 2147483647) (c := 0) (by decide +kernel) k v).trans ⟨fun q => by omega, fun q => Or.inl q⟩
theorem jba_131 (k v : Int) : jbd 131 k v ↔ (-2147483648 ≤ v ∧ v ≤ 2147483647) := (jba_of (i := 131) (lo := -2147483648) (hi := 2147483647) (c := 0) (by decide +kernel) k v).trans ⟨fun q => by omega, fun q => Or.inl q⟩
theorem jba_133 (k v : Int) : jbd 133 k v ↔ (-2147483648 ≤ v ∧ v ≤ 2147483647) := (jba_of (i := 133) (lo := -2147483648) (hi := 2147483647) (c := 0) (by decide +kernel) k v).trans ⟨fun q => by omega, fun q => Or.inl q⟩
theorem jba_134 (k v : Int) : jbd 134 k v ↔ (-2147483648 ≤ v ∧ v ≤ 2147483647) := (jba_of (i := 134) (lo := -2147483648) (hi := 2147483647) (c := 0) (by decide +kernel) k v).trans ⟨fun q => by omega, fun q => Or.inl q⟩
theorem jba_136 (k v : Int) : jbd 136 k v ↔ (-2147483648 ≤ v ∧ v ≤ 2147483647) := (jba_of (i := 136) (lo := -2147483648) (hi := 2147483647) (c := 0) (by decide +kernel) k v).trans ⟨fun q => by omega, fun q => Or.inl q⟩
theorem jba_137 (k v : Int) : jbd 137 k v ↔ (-2147483648 ≤ v ∧ v ≤ 2147483647) := (jba_of (i := 137) (lo := -2147483648) (hi := 2147483647) (c := 0) (by decide +kernel) k v).trans ⟨fun q => by omega, fun q => Or.inl q⟩
theorem jba_139 (k v : Int) : jbd 139 k v ↔ (-2147483648 ≤ v ∧ v ≤ 2147483647) := (jba_of (i := 139) (lo := -2147483648) (hi := 2147483647) (c := 0) (by decide +kernel) k v).trans ⟨fun q => by omega, fun q => Or.inl q⟩
theorem jba_140 (k v : Int) : jbd 140 k v ↔ (-2147483648 ≤ v ∧ v ≤ 2147483647) := (jba_of (i := 140) (lo := -2147483648) (hi := 2147483647) (c := 0) (by decide +kernel) k v).trans ⟨fun q => by omega, fun q => Or.inl q⟩
theorem jba_142 (k v : Int) : jbd 142 k v ↔ (-2147483648 ≤ v ∧ v ≤ 2147483647) := (jba_of (i := 142) (lo := -2147483648) (hi := 2147483647) (c := 0) (by decide +kernel) k v).trans ⟨fun q => by omega, fun q => Or.inl q⟩
theorem jba_143 (k v : Int) : jbd 143 k v ↔ (-2147483648 ≤ v ∧ v ≤ 2147483647) := (jba_of (i := 143) (lo := -2147483648) (hi := 2147483647) (c := 0) (by decide +kernel) k v).trans ⟨fun q => by omega, fun q => Or.inl q⟩
theorem jba_145 (k v : Int) : jbd 145 k v ↔ (-2147483648 ≤ v ∧ v ≤ 2147483647) := (jba_of (i := 145) (lo := -2147483648) (hi := 2147483647) (c := 0) (by decide +kernel) k v).trans ⟨fun q => by omega, fun q => Or.inl q⟩
theorem jba_146 (k v : Int) : jbd 146 k v ↔ (-2147483648 ≤ v ∧ v ≤ 2147483647) := (jba_of (i := 146) (lo := -2147483648) (hi := 2147483647) (c := 0) (by decide +kernel) k v).trans ⟨fun q => by omega, fun q => Or.inl q⟩
theorem jba_148 (k v : Int) : jbd 148 k v ↔ (-2147483648 ≤ v ∧ v ≤ 2147483647) := (jba_of (i := 148) (lo := -2147483648) (hi := 2147483647) (c := 0) (by decide +kernel) k v).trans ⟨fun q => by omega, fun q => Or.inl q⟩
theorem jba_149 (k v : Int) : jbd 149 k v ↔ (-2147483648 ≤ v ∧ v ≤ 2147483647) := (jba_of (i := 149) (lo := -2147483648) (hi := 2147483647) (c := 0) (by decide +kernel) k v).trans ⟨fun q => by omega, fun q => Or.inl q⟩
theorem jba_151 (k v : Int) : jbd 151 k v ↔ (-2147483648 ≤ v ∧ v ≤ 2147483647) := (jba_of (i := 151) (lo := -2147483648) (hi := 2147483647) (c := 0) (by decide +kernel) k v).trans ⟨fun q => by omega, fun q => Or.inl q⟩
theorem jba_152 (k v : Int) : jbd 152 k v ↔ (-2147483648 ≤ v ∧ v ≤ 2147483647) := (jba_of (i := 152) (lo := -2147483648) (hi := 2147483647) (c := 0) (by decide +kernel) k v).trans ⟨fun q => by omega, fun q => Or.inl q⟩
theorem jba_154 (k v : Int) : jbd 154 k v ↔ (-2147483648 ≤ v ∧ v ≤ 2147483647) := (jba_of (i := 154) (lo := -2147483648) (hi := 2147483647) (c := 0) (by decide +kernel) k v).trans ⟨fun q => by omega, fun q => Or.inl q⟩
theorem jba_155 (k v : Int) : jbd 155 k v ↔ (-2147483648 ≤ v ∧ v ≤ 2147483647) := (jba_of (i := 155) (lo := -2147483648) (hi := 2147483647) (c := 0) (by decide +kernel) k v).trans ⟨fun q => by omega, fun q => Or.inl q⟩
theorem jba_157 (k v : Int) : jbd 157 k v ↔ (-2147483648 ≤ v ∧ v ≤ 2147483647) := (jba_of (i := 157) (lo := -2147483648) (hi := 2147483647) (c := 0) (by decide +kernel) k v).trans ⟨fun q => by omega, fun q => Or.inl q⟩
theorem jba_158 (k v : Int) : jbd 158 k v ↔ (-2147483648 ≤ v ∧ v ≤ 2147483647) := (jba_of (i := 158) (lo := -2147483648) (hi := 2147483647) (c := 0) (by decide +kernel) k v).trans ⟨fun q => by omega, fun q => Or.inl q⟩
theorem jba_160 (k v : Int) : jbd 160 k v ↔ (-2147483648 ≤ v ∧ v ≤ 2147483647) := (jba_of (i := 160) (lo := -2147483648) (hi := 2147483647) (c := 0) (by decide +kernel) k v).trans ⟨fun q => by omega, fun q => Or.inl q⟩
theorem jba_161 (k v : Int) : jbd 161 k v ↔ (-2147483648 ≤ v ∧ v ≤ 2147483647) := (jba_of (i := 161) (lo := -2147483648) (hi := 2147483647) (c := 0) (by decide +kernel) k v).trans ⟨fun q => by omega, fun q => Or.inl q⟩
theorem jba_163 (k v : Int) : jbd 163 k v ↔ (-2147483648 ≤ v ∧ v ≤ 2147483647) := (jba_of (i := 163) (lo := -2147483648) (hi := 2147483647) (c := 0) (by decide +kernel) k v).trans ⟨fun q => by omega, fun q => Or.inl q⟩
theorem jba_164 (k v : Int) : jbd 164 k v ↔ (-2147483648 ≤ v ∧ v ≤ 2147483647) := (jba_of (i := 164) (lo := -2147483648) (hi := 2147483647) (c := 0) (by decide +kernel) k v).trans ⟨fun q => by omega, fun q => Or.inl q⟩
theorem jba_166 (k v : Int) : jbd 166 k v ↔ (-2147483648 ≤ v ∧ v ≤ 2147483647) := (jba_of (i := 166) (lo := -2147483648) (hi := 2147483647) (c := 0) (by decide +kernel) k v).trans ⟨fun q => by omega, fun q => Or.inl q⟩
theorem jba_167 (k v : Int) : jbd 167 k v ↔ (-2147483648 ≤ v ∧ v ≤ 2147483647) := (jba_of (i := 167) (lo := -2147483648) (hi := 2147483647) (c := 0) (by decide +kernel) k v).trans ⟨fun q => by omega, fun q => Or.inl q⟩
theorem jba_169 (k v : Int) : jbd 169 k v ↔ (-2147483648 ≤ v ∧ v ≤ 2147483647) := (jba_of (i := 169) (lo := -2147483648) (hi := 2147483647) (c := 0) (by decide +kernel) k v).trans ⟨fun q => by omega, fun q => Or.inl q⟩
theorem jba_170 (k v : Int) : jbd 170 k v ↔ (-2147483648 ≤ v ∧ v ≤ 2147483647) := (jba_of (i := 170) (lo := -2147483648) (hi := 2147483647) (c := 0) (by decide +kernel) k v).trans ⟨fun q => by omega, fun q => Or.inl q⟩
theorem jba_172 (k v : Int) : jbd 172 k v ↔ (-2147483648 ≤ v ∧ v ≤ 2147483647) := (jba_of (i := 172) (lo := -2147483648) (hi := 2147483647) (c := 0) (by decide +kernel) k v).trans ⟨fun q => by omega, fun q => Or.inl q⟩
theorem jba_173 (k v : Int) : jbd 173 k v ↔ (-2147483648 ≤ v ∧ v ≤ 2147483647) := (jba_of (i := 173) (lo := -2147483648) (hi := 2147483647) (c := 0) (by decide +kernel) k v).trans ⟨fun q => by omega, fun q => Or.inl q⟩
theorem jba_174 (k v : Int) : jbd 174 k v ↔ (-2147483648 ≤ v ∧ v ≤ 2147483647) := (jba_of (i := 174) (lo := -2147483648) (hi := 2147483647) (c := 0) (by decide +kernel) k v).trans ⟨fun q => by omega, fun q => Or.inl q⟩
theorem jba_175 (k v : Int) : jbd 175 k v ↔ (0 ≤ v ∧ v ≤ 15) := (jba_of (i := 175) (lo := 0) (hi := 15) (c := 0) (by decide +kernel) k v).trans ⟨fun q => by omega, fun q => Or.inl q⟩
theorem jba_177 (k v : Int) : jbd 177 k v ↔ (0 ≤ v ∧ v ≤ 400) := (jba_of (i := 177) (lo := 0) (hi := 400) (c := 0) (by decide +kernel) k v).trans ⟨fun q => by omega, fun q => Or.inl q⟩
theorem jba_178 (k v : Int) : jbd 178 k v ↔ (-1 ≤ v ∧ v ≤ 3) := (jba_of (i := 178) (lo := -1) (hi := 3) (c := 0) (by decide +kernel) k v).trans ⟨fun q => by omega, fun q => Or.inl q⟩
theorem jba_179 (k v : Int) : jbd 179 k v ↔ (-1 ≤ v ∧ v ≤ 30) := (jba_of (i := 179) (lo := -1) (hi := 30) (c := 0) (by decide +kernel) k v).trans ⟨fun q => by omega, fun q => Or.inl q⟩
theorem jba_180 (k v : Int) : jbd 180 k v ↔ (0 ≤ v ∧ v ≤ 400) := (jba_of (i := 180) (lo := 0) (hi := 400) (c := 0) (by decide +kernel) k v).trans ⟨fun q => by omega, fun q => Or.inl q⟩
theorem jba_181 (k v : Int) : jbd 181 k v ↔ (-2147483648 ≤ v ∧ v ≤ 2147483647) := (jba_of (i := 181) (lo := -2147483648) (hi := 2147483647) (c := 0) (by decide +kernel) k v).trans ⟨fun q => by omega, fun q => Or.inl q⟩
theorem jba_182 (k v : Int) : jbd 182 k v ↔ (0 ≤ v ∧ v ≤ 3) := (jba_of (i := 182) (lo := 0) (hi := 3) (c := 0) (by decide +kernel) k v).trans ⟨fun q => by omega, fun q => Or.inl q⟩
theorem jba_183 (k v : Int) : jbd 183 k v ↔ (0 ≤ v ∧ v ≤ 3) := (jba_of (i := 183) (lo := 0) (hi := 3) (c := 0) (by decide +kernel) k v).trans ⟨fun q => by omega, fun q => Or.inl q⟩
theorem jba_184 (k v : Int) : jbd 184 k v ↔ (0 ≤ v ∧ v ≤ 200) := (jba_of (i := 184) (lo := 0) (hi := 200) (c := 0) (by decide +kernel) k v).trans ⟨fun q => by omega, fun q => Or.inl q⟩
theorem jba_185 (k v : Int) : jbd 185 k v ↔ (0 ≤ v ∧ v ≤ 2000) := (jba_of (i := 185) (lo := 0) (hi := 2000) (c := 0) (by decide +kernel) k v).trans ⟨fun q => by omega, fun q => Or.inl q⟩
theorem jba_186 (k v : Int) : jbd 186 k v ↔ (0 ≤ v ∧ v ≤ 3) := (jba_of (i := 186) (lo := 0) (hi := 3) (c := 0) (by decide +kernel) k v).trans ⟨fun q => by omega, fun q => Or.inl q⟩
theorem jba_187 (k v : Int) : jbd 187 k v ↔ (0 ≤ v ∧ v ≤ 2000) := (jba_of (i := 187) (lo := 0) (hi := 2000) (c := 0) (by decide +kernel) k v).trans ⟨fun q => by omega, fun q => Or.inl q⟩
theorem jba_188 (k v : Int) : jbd 188 k v ↔ (0 ≤ v ∧ v ≤ 500) := (jba_of (i := 188) (lo := 0) (hi := 500) (c := 0) (by decide +kernel) k v).trans ⟨fun q => by omega, fun q => Or.inl q⟩
theorem jba_189 (k v : Int) : jbd 189 k v ↔ (0 ≤ v ∧ v ≤ 2) := (jba_of (i := 189) (lo := 0) (hi := 2) (c := 0) (by decide +kernel) k v).trans ⟨fun q => by omega, fun q => Or.inl q⟩
theorem jba_190 (k v : Int) : jbd 190 k v ↔ (0 ≤ v ∧ v ≤ 99) := (jba_of (i := 190) (lo := 0) (hi := 99) (c := 0) (by decide +kernel) k v).trans ⟨fun q => by omega, fun q => Or.inl q⟩
theorem jba_191 (k v : Int) : jbd 191 k v ↔ (0 ≤ v ∧ v ≤ 2000) := (jba_of (i := 191) (lo := 0) (hi := 2000) (c := 0) (by decide +kernel) k v).trans ⟨fun q => by omega, fun q => Or.inl q⟩
theorem jba_192 (k v : Int) : jbd 192 k v ↔ (0 ≤ v ∧ v ≤ 3) := (jba_of (i := 192) (lo := 0) (hi := 3) (c := 0) (by decide +kernel) k v).trans ⟨fun q => by omega, fun q => Or.inl q⟩
theorem jba_193 (k v : Int) : jbd 193 k v ↔ (-9 ≤ v ∧ v ≤ 5) := (jba_of (i := 193) (lo := -9) (hi := 5) (c := 0) (by decide +kernel) k v).trans ⟨fun q => by omega, fun q => Or.inl q⟩
theorem jba_194 (k v : Int) : jbd 194 k v ↔ (0 ≤ v ∧ v ≤ 3) := (jba_of (i := 194) (lo := 0) (hi := 3) (c := 0) (by decide +kernel) k v).trans ⟨fun q => by omega, fun q => Or.inl q⟩
theorem jba_195 (k v : Int) : jbd 195 k v ↔ (-2147483648 ≤ v ∧ v ≤ 2147483647) := (jba_of (i := 195) (lo := -2147483648) (hi := 2147483647) (c := 0) (by decide +kernel) k v).trans ⟨fun q => by omega, fun q => Or.inl q⟩
theorem jba_196 (k v : Int) : jbd 196 k v ↔ (0 ≤ v ∧ v ≤ 1) := (jba_of (i := 196) (lo := 0) (hi := 1) (c := 0) (by decide +kernel) k v).trans ⟨fun q => by omega, fun q => Or.inl q⟩
theorem jba_197 (k v : Int) : jbd 197 k v ↔ (-2147483648 ≤ v ∧ v ≤ 2147483647) := (jba_of (i := 197) (lo := -2147483648) (hi := 2147483647) (c := 0) (by decide +kernel) k v).trans ⟨fun q => by omega, fun q => Or.inl q⟩
theorem jba_198 (k v : Int) : jbd 198 k v ↔ (-2147483648 ≤ v ∧ v ≤ 2147483647) := (jba_of (i := 198) (lo := -2147483648) (hi := 2147483647) (c := 0) (by decide +kernel) k v).trans ⟨fun q => by omega, fun q => Or.inl q⟩
theorem jba_199 (k v : Int) : jbd 199 k v ↔ (-2147483648 ≤ v ∧ v ≤ 2147483647) := (jba_of (i := 199) (lo := -2147483648) (hi := 2147483647) (c := 0) (by decide +kernel) k v).trans ⟨fun q => by omega, fun q => Or.inl q⟩
theorem jba_200 (k v : Int) : jbd 200 k v ↔ (-2147483648 ≤ v ∧ v ≤ 2147483647) := (jba_of (i := 200) (lo := -2147483648) (hi := 2147483647) (c := 0) (by decide +kernel) k v).trans ⟨fun q => by omega, fun q => Or.inl q⟩
theorem jba_201 (k v : Int) : jbd 201 k v ↔ (0 ≤ v ∧ v ≤ 1) := (jba_of (i := 201) (lo := 0) (hi := 1) (c := 0) (by decide +kernel) k v).trans ⟨fun q => by omega, fun q => Or.inl q⟩
theorem jba_202 (k v : Int) : jbd 202 k v ↔ ((-1 ≤ v ∧ v ≤ 15) ∨ v = 100) := jba_of (by decide +kernel) k v
theorem jba_203 (k v : Int) : jbd 203 k v ↔ (-2147483648 ≤ v ∧ v ≤ 2147483647) := (jba_of (i := 203) (lo := -2147483648) (hi := 2147483647) (c := 0) (by decide +kernel) k v).trans ⟨fun q => by omega, fun q => Or.inl q⟩
theorem jba_204 (k v : Int) : jbd 204 k v ↔ (0 ≤ v ∧ v ≤ 9) := (jba_of (i := 204) (lo := 0) (hi := 9) (c := 0) (by decide +kernel) k v).trans ⟨fun q => by omega, fun q => Or.inl q⟩
theorem jba_205 (k v : Int) : jbd 205 k v ↔ (0 ≤ v ∧ v ≤ 2) := (jba_of (i := 205) (lo := 0) (hi := 2) (c := 0) (by decide +kernel) k v).trans ⟨fun q => by omega, fun q => Or.inl q⟩
theorem jba_206 (k v : Int) : jbd 206 k v ↔ (-9 ≤ v ∧ v ≤ 9) := (jba_of (i := 206) (lo := -9) (hi := 9) (c := 0) (by decide +kernel) k v).trans ⟨fun q => by omega, fun q => Or.inl q⟩
theorem jba_207 (k v : Int) : jbd 207 k v ↔ (-2147483648 ≤ v ∧ v ≤ 2147483647) := (jba_of (i := 207) (lo := -2147483648) (hi := 2147483647) (c := 0) (by decide +kernel) k v).trans ⟨fun q => by omega, fun q => Or.inl q⟩
theorem jba_208 (k v : Int) : jbd 208 k v ↔ (-1 ≤ v ∧ v ≤ 15) := (jba_of (i := 208) (lo := -1) (hi := 15) (c := 0) (by decide +kernel) k v).trans ⟨fun q => by omega, fun q => Or.inl q⟩
theorem jba_209 (k v : Int) : jbd 209 k v ↔ (-1 ≤ v ∧ v ≤ 5) := (jba_of (i := 209) (lo := -1) (hi := 5) (c := 0) (by decide +kernel) k v).trans ⟨fun q => by omega, fun q => Or.inl q⟩
theorem jba_210 (k v : Int) : jbd 210 k v ↔ (0 ≤ v ∧ v ≤ 6) := (jba_of (i := 210) (lo := 0) (hi := 6) (c := 0) (by decide +kernel) k v).trans ⟨fun q => by omega, fun q => Or.inl q⟩
theorem jba_211 (k v : Int) : jbd 211 k v ↔ (0 ≤ v ∧ v ≤ 2) := (jba_of (i := 211) (lo := 0) (hi := 2) (c := 0) (by decide +kernel) k v).trans ⟨fun q => by omega, fun q => Or.inl q⟩
theorem jba_212 (k v : Int) : jbd 212 k v ↔ (-9 ≤ v ∧ v ≤ 9) := (jba_of (i := 212) (lo := -9) (hi := 9) (c := 0) (by decide +kernel) k v).trans ⟨fun q => by omega, fun q => Or.inl q⟩
theorem jba_213 (k v : Int) : jbd 213 k v ↔ (0 ≤ v ∧ v ≤ 9) := (jba_of (i := 213) (lo := 0) (hi := 9) (c := 0) (by decide +kernel) k v).trans ⟨fun q => by omega, fun q => Or.inl q⟩
theorem jba_214 (k v : Int) : jbd 214 k v ↔ (0 ≤ v ∧ v ≤ 500) := (jba_of (i := 214) (lo := 0) (hi := 500) (c := 0) (by decide +kernel) k v).trans ⟨fun q => by omega, fun q => Or.inl q⟩
theorem jba_215 (k v : Int) : jbd 215 k v ↔ (0 ≤ v ∧ v ≤ 5) := (jba_of (i := 215) (lo := 0) (hi := 5) (c := 0) (by decide +kernel) k v).trans ⟨fun q => by omega, fun q => Or.inl q⟩
theorem jba_216 (k v : Int) : jbd 216 k v ↔ (0 ≤ v ∧ v ≤ 2000) := (jba_of (i := 216) (lo := 0) (hi := 2000) (c := 0) (by decide +kernel) k v).trans ⟨fun q => by omega, fun q => Or.inl q⟩
theorem jba_217 (k v : Int) : jbd 217 k v ↔ (-2147483648 ≤ v ∧ v ≤ 2147483647) := (jba_of (i := 217) (lo := -2147483648) (hi := 2147483647) (c := 0) (by decide +kernel) k v).trans ⟨fun q => by omega, fun q => Or.inl q⟩
theorem jba_218 (k v : Int) : jbd 218 k v ↔ (0 ≤ v ∧ v ≤ 2000) := (jba_of (i := 218) (lo := 0) (hi := 2000) (c := 0) (by decide +kernel) k v).trans ⟨fun q => by omega, fun q => Or.inl q⟩
theorem jba_219 (k v : Int) : jbd 219 k v ↔ (-2147483648 ≤ v ∧ v ≤ 2147483647) := (jba_of (i := 219) (lo := -2147483648) (hi := 2147483647) (c := 0) (by decide +kernel) k v).trans ⟨fun q => by omega, fun q => Or.inl q⟩
theorem jba_220 (k v : Int) : jbd 220 k v ↔ (0 ≤ v ∧ v ≤ 400) := (jba_of (i := 220) (lo := 0) (hi := 400) (c := 0) (by decide +kernel) k v).trans ⟨fun q => by omega, fun q => Or.inl q⟩
theorem jba_221 (k v : Int) : jbd 221 k v ↔ (0 ≤ v ∧ v ≤ 1) := (jba_of (i := 221) (lo := 0) (hi := 1) (c := 0) (by decide +kernel) k v).trans ⟨fun q => by omega, fun q => Or.inl q⟩
theorem jba_222 (k v : Int) : jbd 222 k v ↔ (-9 ≤ v ∧ v ≤ 39) := (jba_of (i := 222) (lo := -9) (hi := 39) (c := 0) (by decide +kernel) k v).trans ⟨fun q => by omega, fun q => Or.inl q⟩
theorem jba_223 (k v : Int) : jbd 223 k v ↔ (-2147483648 ≤ v ∧ v ≤ 2147483647) := (jba_of (i := 223) (lo := -2147483648) (hi := 2147483647) (c := 0) (by decide +kernel) k v).trans ⟨fun q => by omega, fun q => Or.inl q⟩
theorem jba_225 (k v : Int) : jbd 225 k v ↔ (-2147483648 ≤ v ∧ v ≤ 2147483647) := (jba_of (i := 225) (lo := -2147483648) (hi := 2147483647) (c := 0) (by decide +kernel) k v).trans ⟨fun q => by omega, fun q => Or.inl q⟩
theorem jba_226 (k v : Int) : jbd 226 k v ↔ (0 ≤ v ∧ v ≤ 15) := (jba_of (i := 226) (lo := 0) (hi := 15) (c := 0) (by decide +kernel) k v).trans ⟨fun q => by omega, fun q => Or.inl q⟩
theorem jba_227 (k v : Int) : jbd 227 k v ↔ (0 ≤ v ∧ v ≤ 15) := (jba_of (i := 227) (lo := 0) (hi := 15) (c := 0) (by decide +kernel) k v).trans ⟨fun q => by omega, fun q => Or.inl q⟩
theorem jba_228 (k v : Int) : jbd 228 k v ↔ (0 ≤ v ∧ v ≤ 15) := (jba_of (i := 228) (lo := 0) (hi := 15) (c := 0) (by decide +kernel) k v).trans ⟨fun q => by omega, fun q => Or.inl q⟩
theorem jbf_of {n : Nat} {i b : Int} {C : Nat} (o : jF n i 0 C) {lo hi c : Int} (hk : (jbF.getD C []).getD b.toNat (-2147483648, 2147483647, 0) = (lo, hi, c)) (v : Int) : jbd i b v ↔ (lo ≤ v ∧ v ≤ hi) ∨ v = c := by
  unfold jbd jbp
  rw [o.2.2]
  show ((((jbF.getD C []).getD b.toNat (-2147483648, 2147483647, 0)).1 ≤ v ∧ v ≤ ((jbF.getD C []).getD b.toNat (-2147483648, 2147483647, 0)).2.1) ∨ v = ((jbF.getD C []).getD b.toNat (-2147483648, 2147483647, 0)).2.2) ↔ _
  rw [hk]
theorem jbf_2_0 {n : Nat} {i : Int} (o : jF n i 0 2) (v : Int) : jbd i 0 v ↔ (0 ≤ v ∧ v ≤ 40) := (jbf_of (b := 0) o (lo := 0) (hi := 40) (c := 0) (by decide +kernel) v).trans ⟨fun q => by omega, fun q => Or.inl q⟩
theorem jbf_2_5 {n : Nat} {i : Int} (o : jF n i 0 2) (v : Int) : jbd i 5 v ↔ (0 ≤ v ∧ v ≤ 40) := (jbf_of (b := 5) o (lo := 0) (hi := 40) (c := 0) (by decide +kernel) v).trans ⟨fun q => by omega, fun q => Or.inl q⟩
theorem jbf_3_0 {n : Nat} {i : Int} (o : jF n i 0 3) (v : Int) : jbd i 0 v ↔ (0 ≤ v ∧ v ≤ 40) := (jbf_of (b := 0) o (lo := 0) (hi := 40) (c := 0) (by decide +kernel) v).trans ⟨fun q => by omega, fun q => Or.inl q⟩
theorem jbf_4_0 {n : Nat} {i : Int} (o : jF n i 0 4) (v : Int) : jbd i 0 v ↔ (0 ≤ v ∧ v ≤ 2) := (jbf_of (b := 0) o (lo := 0) (hi := 2) (c := 0) (by decide +kernel) v).trans ⟨fun q => by omega, fun q => Or.inl q⟩
theorem jbf_4_1 {n : Nat} {i : Int} (o : jF n i 0 4) (v : Int) : jbd i 1 v ↔ (0 ≤ v ∧ v ≤ 99) := (jbf_of (b := 1) o (lo := 0) (hi := 99) (c := 0) (by decide +kernel) v).trans ⟨fun q => by omega, fun q => Or.inl q⟩
theorem jbf_4_2 {n : Nat} {i : Int} (o : jF n i 0 4) (v : Int) : jbd i 2 v ↔ (0 ≤ v ∧ v ≤ 2000) := (jbf_of (b := 2) o (lo := 0) (hi := 2000) (c := 0) (by decide +kernel) v).trans ⟨fun q => by omega, fun q => Or.inl q⟩
theorem jbf_4_3 {n : Nat} {i : Int} (o : jF n i 0 4) (v : Int) : jbd i 3 v ↔ (0 ≤ v ∧ v ≤ 3) := (jbf_of (b := 3) o (lo := 0) (hi := 3) (c := 0) (by decide +kernel) v).trans ⟨fun q => by omega, fun q => Or.inl q⟩
theorem jbf_4_4 {n : Nat} {i : Int} (o : jF n i 0 4) (v : Int) : jbd i 4 v ↔ (-9 ≤ v ∧ v ≤ 5) := (jbf_of (b := 4) o (lo := -9) (hi := 5) (c := 0) (by decide +kernel) v).trans ⟨fun q => by omega, fun q => Or.inl q⟩
theorem jbf_4_5 {n : Nat} {i : Int} (o : jF n i 0 4) (v : Int) : jbd i 5 v ↔ (0 ≤ v ∧ v ≤ 3) := (jbf_of (b := 5) o (lo := 0) (hi := 3) (c := 0) (by decide +kernel) v).trans ⟨fun q => by omega, fun q => Or.inl q⟩
theorem jbf_4_6 {n : Nat} {i : Int} (o : jF n i 0 4) (v : Int) : jbd i 6 v ↔ (-2147483648 ≤ v ∧ v ≤ 2147483647) := (jbf_of (b := 6) o (lo := -2147483648) (hi := 2147483647) (c := 0) (by decide +kernel) v).trans ⟨fun q => by omega, fun q => Or.inl q⟩
theorem jbf_4_7 {n : Nat} {i : Int} (o : jF n i 0 4) (v : Int) : jbd i 7 v ↔ (0 ≤ v ∧ v ≤ 1) := (jbf_of (b := 7) o (lo := 0) (hi := 1) (c := 0) (by decide +kernel) v).trans ⟨fun q => by omega, fun q => Or.inl q⟩
theorem jbf_4_8 {n : Nat} {i : Int} (o : jF n i 0 4) (v : Int) : jbd i 8 v ↔ (-2147483648 ≤ v ∧ v ≤ 2147483647) := (jbf_of (b := 8) o (lo := -2147483648) (hi := 2147483647) (c := 0) (by decide +kernel) v).trans ⟨fun q => by omega, fun q => Or.inl q⟩
theorem jbf_4_9 {n : Nat} {i : Int} (o : jF n i 0 4) (v : Int) : jbd i 9 v ↔ (-2147483648 ≤ v ∧ v ≤ 2147483647) := (jbf_of (b := 9) o (lo := -2147483648) (hi := 2147483647) (c := 0) (by decide +kernel) v).trans ⟨fun q => by omega, fun q => Or.inl q⟩
theorem jbf_4_10 {n : Nat} {i : Int} (o : jF n i 0 4) (v : Int) : jbd i 10 v ↔ (0 ≤ v ∧ v ≤ 1) := (jbf_of (b := 10) o (lo := 0) (hi := 1) (c := 0) (by decide +kernel) v).trans ⟨fun q => by omega, fun q => Or.inl q⟩
theorem jbf_5_0 {n : Nat} {i : Int} (o : jF n i 0 5) (v : Int) : jbd i 0 v ↔ (0 ≤ v ∧ v ≤ 40) := (jbf_of (b := 0) o (lo := 0) (hi := 40) (c := 0) (by decide +kernel) v).trans ⟨fun q => by omega, fun q => Or.inl q⟩
theorem jbf_6_0 {n : Nat} {i : Int} (o : jF n i 0 6) (v : Int) : jbd i 0 v ↔ (-2147483648 ≤ v ∧ v ≤ 2147483647) := (jbf_of (b := 0) o (lo := -2147483648) (hi := 2147483647) (c := 0) (by decide +kernel) v).trans ⟨fun q => by omega, fun q => Or.inl q⟩
theorem jbf_6_1 {n : Nat} {i : Int} (o : jF n i 0 6) (v : Int) : jbd i 1 v ↔ (-2147483648 ≤ v ∧ v ≤ 2147483647) := (jbf_of (b := 1) o (lo := -2147483648) (hi := 2147483647) (c := 0) (by decide +kernel) v).trans ⟨fun q => by omega, fun q => Or.inl q⟩
theorem jbf_7_0 {n : Nat} {i : Int} (o : jF n i 0 7) (v : Int) : jbd i 0 v ↔ (-2147483648 ≤ v ∧ v ≤ 2147483647) := (jbf_of (b := 0) o (lo := -2147483648) (hi := 2147483647) (c := 0) (by decide +kernel) v).trans ⟨fun q => by omega, fun q => Or.inl q⟩
theorem jbf_7_2 {n : Nat} {i : Int} (o : jF n i 0 7) (v : Int) : jbd i 2 v ↔ (0 ≤ v ∧ v ≤ 5) := (jbf_of (b := 2) o (lo := 0) (hi := 5) (c := 0) (by decide +kernel) v).trans ⟨fun q => by omega, fun q => Or.inl q⟩
theorem jbf_7_3 {n : Nat} {i : Int} (o : jF n i 0 7) (v : Int) : jbd i 3 v ↔ (0 ≤ v ∧ v ≤ 2000) := (jbf_of (b := 3) o (lo := 0) (hi := 2000) (c := 0) (by decide +kernel) v).trans ⟨fun q => by omega, fun q => Or.inl q⟩
theorem jbf_7_9 {n : Nat} {i : Int} (o : jF n i 0 7) (v : Int) : jbd i 9 v ↔ (0 ≤ v ∧ v ≤ 1) := (jbf_of (b := 9) o (lo := 0) (hi := 1) (c := 0) (by decide +kernel) v).trans ⟨fun q => by omega, fun q => Or.inl q⟩
theorem jbf_7_10 {n : Nat} {i : Int} (o : jF n i 0 7) (v : Int) : jbd i 10 v ↔ (0 ≤ v ∧ v ≤ 1) := (jbf_of (b := 10) o (lo := 0) (hi := 1) (c := 0) (by decide +kernel) v).trans ⟨fun q => by omega, fun q => Or.inl q⟩
theorem jbf_7_11 {n : Nat} {i : Int} (o : jF n i 0 7) (v : Int) : jbd i 11 v ↔ (0 ≤ v ∧ v ≤ 1) := (jbf_of (b := 11) o (lo := 0) (hi := 1) (c := 0) (by decide +kernel) v).trans ⟨fun q => by omega, fun q => Or.inl q⟩
theorem jbf_10_4 {n : Nat} {i : Int} (o : jF n i 0 10) (v : Int) : jbd i 4 v ↔ (0 ≤ v ∧ v ≤ 16) := (jbf_of (b := 4) o (lo := 0) (hi := 16) (c := 0) (by decide +kernel) v).trans ⟨fun q => by omega, fun q => Or.inl q⟩
theorem jbf_10_6 {n : Nat} {i : Int} (o : jF n i 0 10) (v : Int) : jbd i 6 v ↔ (0 ≤ v ∧ v ≤ 16) := (jbf_of (b := 6) o (lo := 0) (hi := 16) (c := 0) (by decide +kernel) v).trans ⟨fun q => by omega, fun q => Or.inl q⟩
theorem jbf_10_7 {n : Nat} {i : Int} (o : jF n i 0 10) (v : Int) : jbd i 7 v ↔ (-2147483648 ≤ v ∧ v ≤ 2147483647) := (jbf_of (b := 7) o (lo := -2147483648) (hi := 2147483647) (c := 0) (by decide +kernel) v).trans ⟨fun q => by omega, fun q => Or.inl q⟩
theorem jbf_10_8 {n : Nat} {i : Int} (o : jF n i 0 10) (v : Int) : jbd i 8 v ↔ (-2147483648 ≤ v ∧ v ≤ 2147483647) := (jbf_of (b := 8) o (lo := -2147483648) (hi := 2147483647) (c := 0) (by decide +kernel) v).trans ⟨fun q => by omega, fun q => Or.inl q⟩
theorem jbf_10_9 {n : Nat} {i : Int} (o : jF n i 0 10) (v : Int) : jbd i 9 v ↔ (-2147483648 ≤ v ∧ v ≤ 2147483647) := (jbf_of (b := 9) o (lo := -2147483648) (hi := 2147483647) (c := 0) (by decide +kernel) v).trans ⟨fun q => by omega, fun q => Or.inl q⟩
theorem jbf_10_10 {n : Nat} {i : Int} (o : jF n i 0 10) (v : Int) : jbd i 10 v ↔ (0 ≤ v ∧ v ≤ 1) := (jbf_of (b := 10) o (lo := 0) (hi := 1) (c := 0) (by decide +kernel) v).trans ⟨fun q => by omega, fun q => Or.inl q⟩
theorem jbf_11_0 {n : Nat} {i : Int} (o : jF n i 0 11) (v : Int) : jbd i 0 v ↔ (0 ≤ v ∧ v ≤ 2000) := (jbf_of (b := 0) o (lo := 0) (hi := 2000) (c := 0) (by decide +kernel) v).trans ⟨fun q => by omega, fun q => Or.inl q⟩
theorem jbf_12_0 {n : Nat} {i : Int} (o : jF n i 0 12) (v : Int) : jbd i 0 v ↔ (0 ≤ v ∧ v ≤ 2300) := (jbf_of (b := 0) o (lo := 0) (hi := 2300) (c := 0) (by decide +kernel) v).trans ⟨fun q => by omega, fun q => Or.inl q⟩
theorem jbf_12_6 {n : Nat} {i : Int} (o : jF n i 0 12) (v : Int) : jbd i 6 v ↔ (0 ≤ v ∧ v ≤ 40) := (jbf_of (b := 6) o (lo := 0) (hi := 40) (c := 0) (by decide +kernel) v).trans ⟨fun q => by omega, fun q => Or.inl q⟩
theorem jbf_12_14 {n : Nat} {i : Int} (o : jF n i 0 12) (v : Int) : jbd i 14 v ↔ (0 ≤ v ∧ v ≤ 16) := (jbf_of (b := 14) o (lo := 0) (hi := 16) (c := 0) (by decide +kernel) v).trans ⟨fun q => by omega, fun q => Or.inl q⟩
theorem jbf_12_30 {n : Nat} {i : Int} (o : jF n i 0 12) (v : Int) : jbd i 30 v ↔ (-2147483648 ≤ v ∧ v ≤ 2147483647) := (jbf_of (b := 30) o (lo := -2147483648) (hi := 2147483647) (c := 0) (by decide +kernel) v).trans ⟨fun q => by omega, fun q => Or.inl q⟩
theorem jbf_12_31 {n : Nat} {i : Int} (o : jF n i 0 12) (v : Int) : jbd i 31 v ↔ (-2147483648 ≤ v ∧ v ≤ 2147483647) := (jbf_of (b := 31) o (lo := -2147483648) (hi := 2147483647) (c := 0) (by decide +kernel) v).trans ⟨fun q => by omega, fun q => Or.inl q⟩
theorem jbf_12_32 {n : Nat} {i : Int} (o : jF n i 0 12) (v : Int) : jbd i 32 v ↔ (-2147483648 ≤ v ∧ v ≤ 2147483647) := (jbf_of (b := 32) o (lo := -2147483648) (hi := 2147483647) (c := 0) (by decide +kernel) v).trans ⟨fun q => by omega, fun q => Or.inl q⟩
theorem jbf_12_34 {n : Nat} {i : Int} (o : jF n i 0 12) (v : Int) : jbd i 34 v ↔ (0 ≤ v ∧ v ≤ 40) := (jbf_of (b := 34) o (lo := 0) (hi := 40) (c := 0) (by decide +kernel) v).trans ⟨fun q => by omega, fun q => Or.inl q⟩
theorem jbf_12_45 {n : Nat} {i : Int} (o : jF n i 0 12) (v : Int) : jbd i 45 v ↔ (0 ≤ v ∧ v ≤ 40) := (jbf_of (b := 45) o (lo := 0) (hi := 40) (c := 0) (by decide +kernel) v).trans ⟨fun q => by omega, fun q => Or.inl q⟩
theorem jbf_12_55 {n : Nat} {i : Int} (o : jF n i 0 12) (v : Int) : jbd i 55 v ↔ (-2147483648 ≤ v ∧ v ≤ 2147483647) := (jbf_of (b := 55) o (lo := -2147483648) (hi := 2147483647) (c := 0) (by decide +kernel) v).trans ⟨fun q => by omega, fun q => Or.inl q⟩
theorem jbf_12_56 {n : Nat} {i : Int} (o : jF n i 0 12) (v : Int) : jbd i 56 v ↔ (-2147483648 ≤ v ∧ v ≤ 2147483647) := (jbf_of (b := 56) o (lo := -2147483648) (hi := 2147483647) (c := 0) (by decide +kernel) v).trans ⟨fun q => by omega, fun q => Or.inl q⟩
theorem jbf_12_57 {n : Nat} {i : Int} (o : jF n i 0 12) (v : Int) : jbd i 57 v ↔ (-2147483648 ≤ v ∧ v ≤ 2147483647) := (jbf_of (b := 57) o (lo := -2147483648) (hi := 2147483647) (c := 0) (by decide +kernel) v).trans ⟨fun q => by omega, fun q => Or.inl q⟩
theorem jbf_12_58 {n : Nat} {i : Int} (o : jF n i 0 12) (v : Int) : jbd i 58 v ↔ (-2147483648 ≤ v ∧ v ≤ 2147483647) := (jbf_of (b := 58) o (lo := -2147483648) (hi := 2147483647) (c := 0) (by decide +kernel) v).trans ⟨fun q => by omega, fun q => Or.inl q⟩
theorem jbf_12_62 {n : Nat} {i : Int} (o : jF n i 0 12) (v : Int) : jbd i 62 v ↔ (0 ≤ v ∧ v ≤ 16) := (jbf_of (b := 62) o (lo := 0) (hi := 16) (c := 0) (by decide +kernel) v).trans ⟨fun q => by omega, fun q => Or.inl q⟩
theorem jrow_5 (k : Int) (h0 : 0 ≤ k) (h1 : k < 4) : jr0 5 k = 6 + k ∧ jF 229 (jr0 5 k) 1 30 ∧ ∀ j v : Int, jbd (jr0 5 k) j v ↔ (0 ≤ v ∧ v ≤ 400) := by
  have q : k = 0 ∨ k = 1 ∨ k = 2 ∨ k = 3 := by omega
  rcases q with rfl | rfl | rfl | rfl
  · rw [show jr0 5 0 = 6 by decide +kernel]; exact ⟨by decide, jo_6, jba_6⟩
  · rw [show jr0 5 1 = 7 by decide +kernel]; exact ⟨by decide, jo_7, jba_7⟩
  · rw [show jr0 5 2 = 8 by decide +kernel]; exact ⟨by decide, jo_8, jba_8⟩
  · rw [show jr0 5 3 = 9 by decide +kernel]; exact ⟨by decide, jo_9, jba_9⟩
theorem jrow_17 (k : Int) (h0 : 0 ≤ k) (h1 : k < 3) : jr0 17 k = 18 + k ∧ jF 229 (jr0 17 k) 1 6 ∧ ∀ j v : Int, jbd (jr0 17 k) j v ↔ (0 ≤ v ∧ v ≤ 3) := by
  have q : k = 0 ∨ k = 1 ∨ k = 2 := by omega
  rcases q with rfl | rfl | rfl
  · rw [show jr0 17 0 = 18 by decide +kernel]; exact ⟨by decide, jo_18, jba_18⟩
  · rw [show jr0 17 1 = 19 by decide +kernel]; exact ⟨by decide, jo_19, jba_19⟩
  · rw [show jr0 17 2 = 20 by decide +kernel]; exact ⟨by decide, jo_20, jba_20⟩
theorem jrow_21 (k : Int) (h0 : 0 ≤ k) (h1 : k < 3) : jr0 21 k = 22 + k ∧ jF 229 (jr0 21 k) 1 6 ∧ ∀ j v : Int, jbd (jr0 21 k) j v ↔ (0 ≤ v ∧ v ≤ 2000) := by
  have q : k = 0 ∨ k = 1 ∨ k = 2 := by omega
  rcases q with rfl | rfl | rfl
  · rw [show jr0 21 0 = 22 by decide +kernel]; exact ⟨by decide, jo_22, jba_22⟩
  · rw [show jr0 21 1 = 23 by decide +kernel]; exact ⟨by decide, jo_23, jba_23⟩
  · rw [show jr0 21 2 = 24 by decide +kernel]; exact ⟨by decide, jo_24, jba_24⟩
theorem jrow_25 (k : Int) (h0 : 0 ≤ k) (h1 : k < 3) : jr0 25 k = 26 + k ∧ jF 229 (jr0 25 k) 1 36 ∧ ∀ j v : Int, jbd (jr0 25 k) j v ↔ (0 ≤ v ∧ v ≤ 500) := by
  have q : k = 0 ∨ k = 1 ∨ k = 2 := by omega
  rcases q with rfl | rfl | rfl
  · rw [show jr0 25 0 = 26 by decide +kernel]; exact ⟨by decide, jo_26, jba_26⟩
  · rw [show jr0 25 1 = 27 by decide +kernel]; exact ⟨by decide, jo_27, jba_27⟩
  · rw [show jr0 25 2 = 28 by decide +kernel]; exact ⟨by decide, jo_28, jba_28⟩
/-- u is a hull with its two rows -/
def jHl (u : Int) : Prop := jF 229 u 0 4 ∧ jF 229 (jr0 u 11) 1 6 ∧ jF 229 (jr0 u 12) 1 6 ∧ jr0 u 11 = u + 1 ∧ jr0 u 12 = u + 2 ∧ (∀ j v : Int, jbd (jr0 u 11) j v ↔ (-2147483648 ≤ v ∧ v ≤ 2147483647)) ∧ (∀ j v : Int, jbd (jr0 u 12) j v ↔ (-2147483648 ≤ v ∧ v ≤ 2147483647))
theorem jhl_36 : jHl 36 := by
  unfold jHl
  rw [show jr0 36 11 = 37 by decide +kernel, show jr0 36 12 = 38 by decide +kernel]
  exact ⟨jo_36, jo_37, jo_38, by decide, by decide, jba_37, jba_38⟩
theorem jhl_39 : jHl 39 := by
  unfold jHl
  rw [show jr0 39 11 = 40 by decide +kernel, show jr0 39 12 = 41 by decide +kernel]
  exact ⟨jo_39, jo_40, jo_41, by decide, by decide, jba_40, jba_41⟩
theorem jhl_42 : jHl 42 := by
  unfold jHl
  rw [show jr0 42 11 = 43 by decide +kernel, show jr0 42 12 = 44 by decide +kernel]
  exact ⟨jo_42, jo_43, jo_44, by decide, by decide, jba_43, jba_44⟩
theorem jhl_45 : jHl 45 := by
  unfold jHl
  rw [show jr0 45 11 = 46 by decide +kernel, show jr0 45 12 = 47 by decide +kernel]
  exact ⟨jo_45, jo_46, jo_47, by decide, by decide, jba_46, jba_47⟩
theorem jhl_48 : jHl 48 := by
  unfold jHl
  rw [show jr0 48 11 = 49 by decide +kernel, show jr0 48 12 = 50 by decide +kernel]
  exact ⟨jo_48, jo_49, jo_50, by decide, by decide, jba_49, jba_50⟩
theorem jhl_51 : jHl 51 := by
  unfold jHl
  rw [show jr0 51 11 = 52 by decide +kernel, show jr0 51 12 = 53 by decide +kernel]
  exact ⟨jo_51, jo_52, jo_53, by decide, by decide, jba_52, jba_53⟩
theorem jhl_54 : jHl 54 := by
  unfold jHl
  rw [show jr0 54 11 = 55 by decide +kernel, show jr0 54 12 = 56 by decide +kernel]
  exact ⟨jo_54, jo_55, jo_56, by decide, by decide, jba_55, jba_56⟩
theorem jhl_57 : jHl 57 := by
  unfold jHl
  rw [show jr0 57 11 = 58 by decide +kernel, show jr0 57 12 = 59 by decide +kernel]
  exact ⟨jo_57, jo_58, jo_59, by decide, by decide, jba_58, jba_59⟩
theorem jhl_60 : jHl 60 := by
  unfold jHl
  rw [show jr0 60 11 = 61 by decide +kernel, show jr0 60 12 = 62 by decide +kernel]
  exact ⟨jo_60, jo_61, jo_62, by decide, by decide, jba_61, jba_62⟩
theorem jhl_63 : jHl 63 := by
  unfold jHl
  rw [show jr0 63 11 = 64 by decide +kernel, show jr0 63 12 = 65 by decide +kernel]
  exact ⟨jo_63, jo_64, jo_65, by decide, by decide, jba_64, jba_65⟩
theorem jhl_66 : jHl 66 := by
  unfold jHl
  rw [show jr0 66 11 = 67 by decide +kernel, show jr0 66 12 = 68 by decide +kernel]
  exact ⟨jo_66, jo_67, jo_68, by decide, by decide, jba_67, jba_68⟩
theorem jhl_69 : jHl 69 := by
  unfold jHl
  rw [show jr0 69 11 = 70 by decide +kernel, show jr0 69 12 = 71 by decide +kernel]
  exact ⟨jo_69, jo_70, jo_71, by decide, by decide, jba_70, jba_71⟩
theorem jhl_72 : jHl 72 := by
  unfold jHl
  rw [show jr0 72 11 = 73 by decide +kernel, show jr0 72 12 = 74 by decide +kernel]
  exact ⟨jo_72, jo_73, jo_74, by decide, by decide, jba_73, jba_74⟩
theorem jhl_75 : jHl 75 := by
  unfold jHl
  rw [show jr0 75 11 = 76 by decide +kernel, show jr0 75 12 = 77 by decide +kernel]
  exact ⟨jo_75, jo_76, jo_77, by decide, by decide, jba_76, jba_77⟩
theorem jhl_78 : jHl 78 := by
  unfold jHl
  rw [show jr0 78 11 = 79 by decide +kernel, show jr0 78 12 = 80 by decide +kernel]
  exact ⟨jo_78, jo_79, jo_80, by decide, by decide, jba_79, jba_80⟩
theorem jhl_81 : jHl 81 := by
  unfold jHl
  rw [show jr0 81 11 = 82 by decide +kernel, show jr0 81 12 = 83 by decide +kernel]
  exact ⟨jo_81, jo_82, jo_83, by decide, by decide, jba_82, jba_83⟩
theorem jhul_33 (k : Int) (h0 : 0 ≤ k) (h1 : k < 16) : jr0 33 k = 36 + 3 * k ∧ jHl (jr0 33 k) := by
  have q : k = 0 ∨ k = 1 ∨ k = 2 ∨ k = 3 ∨ k = 4 ∨ k = 5 ∨ k = 6 ∨ k = 7 ∨ k = 8 ∨ k = 9 ∨ k = 10 ∨ k = 11 ∨ k = 12 ∨ k = 13 ∨ k = 14 ∨ k = 15 := by omega
  rcases q with rfl | rfl | rfl | rfl | rfl | rfl | rfl | rfl | rfl | rfl | rfl | rfl | rfl | rfl | rfl | rfl
  · rw [show jr0 33 0 = 36 by decide +kernel]; exact ⟨by decide, jhl_36⟩
  · rw [show jr0 33 1 = 39 by decide +kernel]; exact ⟨by decide, jhl_39⟩
  · rw [show jr0 33 2 = 42 by decide +kernel]; exact ⟨by decide, jhl_42⟩
  · rw [show jr0 33 3 = 45 by decide +kernel]; exact ⟨by decide, jhl_45⟩
  · rw [show jr0 33 4 = 48 by decide +kernel]; exact ⟨by decide, jhl_48⟩
  · rw [show jr0 33 5 = 51 by decide +kernel]; exact ⟨by decide, jhl_51⟩
  · rw [show jr0 33 6 = 54 by decide +kernel]; exact ⟨by decide, jhl_54⟩
  · rw [show jr0 33 7 = 57 by decide +kernel]; exact ⟨by decide, jhl_57⟩
  · rw [show jr0 33 8 = 60 by decide +kernel]; exact ⟨by decide, jhl_60⟩
  · rw [show jr0 33 9 = 63 by decide +kernel]; exact ⟨by decide, jhl_63⟩
  · rw [show jr0 33 10 = 66 by decide +kernel]; exact ⟨by decide, jhl_66⟩
  · rw [show jr0 33 11 = 69 by decide +kernel]; exact ⟨by decide, jhl_69⟩
  · rw [show jr0 33 12 = 72 by decide +kernel]; exact ⟨by decide, jhl_72⟩
  · rw [show jr0 33 13 = 75 by decide +kernel]; exact ⟨by decide, jhl_75⟩
  · rw [show jr0 33 14 = 78 by decide +kernel]; exact ⟨by decide, jhl_78⟩
  · rw [show jr0 33 15 = 81 by decide +kernel]; exact ⟨by decide, jhl_81⟩
theorem jhl_126 : jHl 126 := by
  unfold jHl
  rw [show jr0 126 11 = 127 by decide +kernel, show jr0 126 12 = 128 by decide +kernel]
  exact ⟨jo_126, jo_127, jo_128, by decide, by decide, jba_127, jba_128⟩
theorem jhl_129 : jHl 129 := by
  unfold jHl
  rw [show jr0 129 11 = 130 by decide +kernel, show jr0 129 12 = 131 by decide +kernel]
  exact ⟨jo_129, jo_130, jo_131, by decide, by decide, jba_130, jba_131⟩
theorem jhl_132 : jHl 132 := by
  unfold jHl
  rw [show jr0 132 11 = 133 by decide +kernel, show jr0 132 12 = 134 by decide +kernel]
  exact ⟨jo_132, jo_133, jo_134, by decide, by decide, jba_133, jba_134⟩
theorem jhl_135 : jHl 135 := by
  unfold jHl
  rw [show jr0 135 11 = 136 by decide +kernel, show jr0 135 12 = 137 by decide +kernel]
  exact ⟨jo_135, jo_136, jo_137, by decide, by decide, jba_136, jba_137⟩
theorem jhl_138 : jHl 138 := by
  unfold jHl
  rw [show jr0 138 11 = 139 by decide +kernel, show jr0 138 12 = 140 by decide +kernel]
  exact ⟨jo_138, jo_139, jo_140, by decide, by decide, jba_139, jba_140⟩
theorem jhl_141 : jHl 141 := by
  unfold jHl
  rw [show jr0 141 11 = 142 by decide +kernel, show jr0 141 12 = 143 by decide +kernel]
  exact ⟨jo_141, jo_142, jo_143, by decide, by decide, jba_142, jba_143⟩
theorem jhl_144 : jHl 144 := by
  unfold jHl
  rw [show jr0 144 11 = 145 by decide +kernel, show jr0 144 12 = 146 by decide +kernel]
  exact ⟨jo_144, jo_145, jo_146, by decide, by decide, jba_145, jba_146⟩
theorem jhl_147 : jHl 147 := by
  unfold jHl
  rw [show jr0 147 11 = 148 by decide +kernel, show jr0 147 12 = 149 by decide +kernel]
  exact ⟨jo_147, jo_148, jo_149, by decide, by decide, jba_148, jba_149⟩
theorem jhl_150 : jHl 150 := by
  unfold jHl
  rw [show jr0 150 11 = 151 by decide +kernel, show jr0 150 12 = 152 by decide +kernel]
  exact ⟨jo_150, jo_151, jo_152, by decide, by decide, jba_151, jba_152⟩
theorem jhl_153 : jHl 153 := by
  unfold jHl
  rw [show jr0 153 11 = 154 by decide +kernel, show jr0 153 12 = 155 by decide +kernel]
  exact ⟨jo_153, jo_154, jo_155, by decide, by decide, jba_154, jba_155⟩
theorem jhl_156 : jHl 156 := by
  unfold jHl
  rw [show jr0 156 11 = 157 by decide +kernel, show jr0 156 12 = 158 by decide +kernel]
  exact ⟨jo_156, jo_157, jo_158, by decide, by decide, jba_157, jba_158⟩
theorem jhl_159 : jHl 159 := by
  unfold jHl
  rw [show jr0 159 11 = 160 by decide +kernel, show jr0 159 12 = 161 by decide +kernel]
  exact ⟨jo_159, jo_160, jo_161, by decide, by decide, jba_160, jba_161⟩
theorem jhl_162 : jHl 162 := by
  unfold jHl
  rw [show jr0 162 11 = 163 by decide +kernel, show jr0 162 12 = 164 by decide +kernel]
  exact ⟨jo_162, jo_163, jo_164, by decide, by decide, jba_163, jba_164⟩
theorem jhl_165 : jHl 165 := by
  unfold jHl
  rw [show jr0 165 11 = 166 by decide +kernel, show jr0 165 12 = 167 by decide +kernel]
  exact ⟨jo_165, jo_166, jo_167, by decide, by decide, jba_166, jba_167⟩
theorem jhl_168 : jHl 168 := by
  unfold jHl
  rw [show jr0 168 11 = 169 by decide +kernel, show jr0 168 12 = 170 by decide +kernel]
  exact ⟨jo_168, jo_169, jo_170, by decide, by decide, jba_169, jba_170⟩
theorem jhl_171 : jHl 171 := by
  unfold jHl
  rw [show jr0 171 11 = 172 by decide +kernel, show jr0 171 12 = 173 by decide +kernel]
  exact ⟨jo_171, jo_172, jo_173, by decide, by decide, jba_172, jba_173⟩
theorem jhul_123 (k : Int) (h0 : 0 ≤ k) (h1 : k < 16) : jr0 123 k = 126 + 3 * k ∧ jHl (jr0 123 k) := by
  have q : k = 0 ∨ k = 1 ∨ k = 2 ∨ k = 3 ∨ k = 4 ∨ k = 5 ∨ k = 6 ∨ k = 7 ∨ k = 8 ∨ k = 9 ∨ k = 10 ∨ k = 11 ∨ k = 12 ∨ k = 13 ∨ k = 14 ∨ k = 15 := by omega
  rcases q with rfl | rfl | rfl | rfl | rfl | rfl | rfl | rfl | rfl | rfl | rfl | rfl | rfl | rfl | rfl | rfl
  · rw [show jr0 123 0 = 126 by decide +kernel]; exact ⟨by decide, jhl_126⟩
  · rw [show jr0 123 1 = 129 by decide +kernel]; exact ⟨by decide, jhl_129⟩
  · rw [show jr0 123 2 = 132 by decide +kernel]; exact ⟨by decide, jhl_132⟩
  · rw [show jr0 123 3 = 135 by decide +kernel]; exact ⟨by decide, jhl_135⟩
  · rw [show jr0 123 4 = 138 by decide +kernel]; exact ⟨by decide, jhl_138⟩
  · rw [show jr0 123 5 = 141 by decide +kernel]; exact ⟨by decide, jhl_141⟩
  · rw [show jr0 123 6 = 144 by decide +kernel]; exact ⟨by decide, jhl_144⟩
  · rw [show jr0 123 7 = 147 by decide +kernel]; exact ⟨by decide, jhl_147⟩
  · rw [show jr0 123 8 = 150 by decide +kernel]; exact ⟨by decide, jhl_150⟩
  · rw [show jr0 123 9 = 153 by decide +kernel]; exact ⟨by decide, jhl_153⟩
  · rw [show jr0 123 10 = 156 by decide +kernel]; exact ⟨by decide, jhl_156⟩
  · rw [show jr0 123 11 = 159 by decide +kernel]; exact ⟨by decide, jhl_159⟩
  · rw [show jr0 123 12 = 162 by decide +kernel]; exact ⟨by decide, jhl_162⟩
  · rw [show jr0 123 13 = 165 by decide +kernel]; exact ⟨by decide, jhl_165⟩
  · rw [show jr0 123 14 = 168 by decide +kernel]; exact ⟨by decide, jhl_168⟩
  · rw [show jr0 123 15 = 171 by decide +kernel]; exact ⟨by decide, jhl_171⟩
theorem jx_k3 : jxk (-3) = 1 := by decide +kernel
theorem jx_l3 (E : JE) : jxl E (-3) = 4 := rfl
theorem jx_e3 (E : JE) (k : Int) : jxv E (-3) k = ([0, 0, 0, 1] : List Int).getD k.toNat 0 := rfl
theorem jx_v3 (E : JE) (k : Int) : 0 ≤ jxv E (-3) k ∧ jxv E (-3) k ≤ 1 := by
  rw [jx_e3]
  exact jgetD_in (P := fun x => 0 ≤ x ∧ x ≤ 1) (by decide) (by decide) _
theorem jx_w3 (E : JE) (k : Int) (h0 : 0 ≤ k) (h1 : k < 4) : 0 ≤ jxv E (-3) k ∧ jxv E (-3) k ≤ 1 := by
  rw [jx_e3]
  have q : k = 0 ∨ k = 1 ∨ k = 2 ∨ k = 3 := by omega
  rcases q with rfl | rfl | rfl | rfl <;> exact ⟨by decide, by decide⟩
theorem jx_k4 : jxk (-4) = 1 := by decide +kernel
theorem jx_l4 (E : JE) : jxl E (-4) = 4 := rfl
theorem jx_e4 (E : JE) (k : Int) : jxv E (-4) k = ([100, 9, 60, 200] : List Int).getD k.toNat 0 := rfl
theorem jx_v4 (E : JE) (k : Int) : 0 ≤ jxv E (-4) k ∧ jxv E (-4) k ≤ 200 := by
  rw [jx_e4]
  exact jgetD_in (P := fun x => 0 ≤ x ∧ x ≤ 200) (by decide) (by decide) _
theorem jx_w4 (E : JE) (k : Int) (h0 : 0 ≤ k) (h1 : k < 4) : 9 ≤ jxv E (-4) k ∧ jxv E (-4) k ≤ 200 := by
  rw [jx_e4]
  have q : k = 0 ∨ k = 1 ∨ k = 2 ∨ k = 3 := by omega
  rcases q with rfl | rfl | rfl | rfl <;> exact ⟨by decide, by decide⟩
theorem jx_k5 : jxk (-5) = 1 := by decide +kernel
theorem jx_l5 (E : JE) : jxl E (-5) = 4 := rfl
theorem jx_e5 (E : JE) (k : Int) : jxv E (-5) k = ([0, 0, 0, 60] : List Int).getD k.toNat 0 := rfl
theorem jx_v5 (E : JE) (k : Int) : 0 ≤ jxv E (-5) k ∧ jxv E (-5) k ≤ 60 := by
  rw [jx_e5]
  exact jgetD_in (P := fun x => 0 ≤ x ∧ x ≤ 60) (by decide) (by decide) _
theorem jx_w5 (E : JE) (k : Int) (h0 : 0 ≤ k) (h1 : k < 4) : 0 ≤ jxv E (-5) k ∧ jxv E (-5) k ≤ 60 := by
  rw [jx_e5]
  have q : k = 0 ∨ k = 1 ∨ k = 2 ∨ k = 3 := by omega
  rcases q with rfl | rfl | rfl | rfl <;> exact ⟨by decide, by decide⟩
theorem jx_k6 : jxk (-6) = 2 := by decide +kernel
theorem jx_l6 (E : JE) : jxl E (-6) = 6 := rfl
theorem jx_e6 (E : JE) (k : Int) : jxv E (-6) k = ([115856201, 2825761, 68921, 1681, 41, 1] : List Int).getD k.toNat 0 := rfl
theorem jx_v6 (E : JE) (k : Int) : 0 ≤ jxv E (-6) k ∧ jxv E (-6) k ≤ 115856201 := by
  rw [jx_e6]
  exact jgetD_in (P := fun x => 0 ≤ x ∧ x ≤ 115856201) (by decide) (by decide) _
theorem jx_w6 (E : JE) (k : Int) (h0 : 0 ≤ k) (h1 : k < 6) : 1 ≤ jxv E (-6) k ∧ jxv E (-6) k ≤ 115856201 := by
  rw [jx_e6]
  have q : k = 0 ∨ k = 1 ∨ k = 2 ∨ k = 3 ∨ k = 4 ∨ k = 5 := by omega
  rcases q with rfl | rfl | rfl | rfl | rfl | rfl <;> exact ⟨by decide, by decide⟩
theorem jx_k7 : jxk (-7) = 1 := by decide +kernel
theorem jx_l7 (E : JE) : jxl E (-7) = 6 := rfl
theorem jx_e7 (E : JE) (k : Int) : jxv E (-7) k = ([1, 1, 2, 6, 24, 120] : List Int).getD k.toNat 0 := rfl
theorem jx_v7 (E : JE) (k : Int) : 0 ≤ jxv E (-7) k ∧ jxv E (-7) k ≤ 120 := by
  rw [jx_e7]
  exact jgetD_in (P := fun x => 0 ≤ x ∧ x ≤ 120) (by decide) (by decide) _
theorem jx_w7 (E : JE) (k : Int) (h0 : 0 ≤ k) (h1 : k < 6) : 1 ≤ jxv E (-7) k ∧ jxv E (-7) k ≤ 120 := by
  rw [jx_e7]
  have q : k = 0 ∨ k = 1 ∨ k = 2 ∨ k = 3 ∨ k = 4 ∨ k = 5 := by omega
  rcases q with rfl | rfl | rfl | rfl | rfl | rfl <;> exact ⟨by decide, by decide⟩
end
section
/-! ===== Arrays.fill ===== -/
theorem jlc_u (x y : Int) : (jlc x y = 1 ∧ y < x) ∨ (jlc x y = 0 ∧ x = y) ∨ (jlc x y = -1 ∧ x < y) := by
  unfold jlc
  by_cases h1 : y < x
  · rw [if_pos h1]; exact Or.inl ⟨rfl, h1⟩
  · rw [if_neg h1]
    by_cases h2 : x = y
    · rw [if_pos h2]; exact Or.inr (Or.inl ⟨rfl, h2⟩)
    · rw [if_neg h2]; exact Or.inr (Or.inr ⟨rfl, by omega⟩)
theorem j64d {x y : Int} (h1 : 0 ≤ x) (h2 : x ≤ 9223372036854775807) (hy : 0 < y) : jw64 (x.tdiv y) = x / y ∧ 0 ≤ x / y ∧ x / y ≤ x := by
  have h3 : x / y ≤ x := Int.ediv_le_self y h1
  have h4 : 0 ≤ x / y := Int.ediv_nonneg h1 (by omega)
  refine ⟨?_, h4, h3⟩
  rw [Int.tdiv_eq_ediv_of_nonneg h1]
  exact j64e (by omega) (by omega)
def w_fill (a i k : Int) : Prop := i = a
def k_fill (a a1 : Int) (N : Nat) (h : JH) (v : Option JV) (r' g : JH) : Prop := r' = jr0 ∧ jfr (w_fill a) h g ∧ v = none ∧ ∀ k : Int, 0 ≤ k → k < N → g a k = a1
set_option maxHeartbeats 4000000 in
theorem c_fill {E : JE} {l : Launch} {N : Nat} (a a1 : Int) (h : JH) (ha : jF 229 a 1 N) (hN : N ≤ 5000) (hb : ∀ k : Int, jR32 a1 → jbd a k a1) : jMt E l 0 [.inr (.inr (.inl a)), .inl a1] 229 jr0 h (k_fill a a1 N h) := by
  refine jMt0 (nL := 4) (ls := [.inr (.inr (.inl a)), .inl a1, .inr (.inr (.inr ())), .inr (.inr (.inr ()))]) (by decide +kernel) (by decide +kernel) (by decide +kernel) rfl rfl ?_
  have key : ∀ M : Nat, ∀ (x2 : Int) (g : JH), (0 ≤ x2 ∧ x2 ≤ N) → (∀ k : Int, 0 ≤ k → k < x2 → g a k = a1) → jfr (w_fill a) h g → N - x2 < (M : Int) → jGo E l 0 229 229 (jRK (k_fill a a1 N h)) 5 [.inr (.inr (.inl a)), .inl a1, .inl x2, .inl N] [] 229 jr0 g := by
    intro M
    induction M with
    | zero => exact fun _ _ hi _ _ hN => absurd hN (by omega)
    | succ M ih =>
      intro x2 g hi hv hf hM
      refine jGo_blk qJ7_fill_53178_5 ?_
      refine And.intro (fun c1 => ?_) (fun c1 => ?_)
      · have c1 : (N : Int) ≤ x2 := c1
        show jGo E l 0 229 229 _ 20 [.inr (.inr (.inl a)), .inl a1, .inl x2, .inl N] [] 229 jr0 g
        refine jGo_blk qJ7_fill_53178_20 ?_
        exact ⟨rfl, rfl, hf, rfl, fun k h0 h1 => hv k h0 (by omega)⟩
      · have c1 : x2 < (N : Int) := Int.not_le.mp c1
        refine st_si ha (show 0 ≤ x2 by omega) (show x2 < (N : Int) by omega) (hb x2) (fun g1 eg1 => ?_)
        have eg1 : g1 = jup g a x2 a1 := eg1
        have e1 : jw32 (x2 + 1) = x2 + 1 := j32e (by omega) (by omega)
        show jGo E l 0 229 229 _ 5 [.inr (.inr (.inl a)), .inl a1, .inl (jw32 (x2 + 1)), .inl N] [] 229 jr0 g1
        rw [e1]
        refine ih _ g1 (by omega) (fun k h0 h1 => ?_) (jfr_up hf eg1 rfl) (by omega)
        by_cases hk : k = x2
        · subst hk; exact jup_s eg1
        · rw [jup_o eg1 (by omega)]; exact hv k h0 (by omega)
  refine jGo_blk qJ7_fill_53178_0 ?_
  refine st_al ha ⟨by decide, by decide⟩ ?_
  show jGo E l 0 229 229 _ 5 [.inr (.inr (.inl a)), .inl a1, .inl 0, .inl N] [] 229 jr0 h
  exact key (N + 1) 0 h (by omega) (fun k h0 h1 => absurd h1 (by omega)) (jfr_rf _ _) (by omega)
set_option maxHeartbeats 4000000 in
theorem c_fillL {E : JE} {l : Launch} {N : Nat} (a a1 : Int) (h : JH) (ha : jF 229 a 2 N) (hN : N ≤ 5000) (hb : ∀ k : Int, jR64 a1 → jbd a k a1) : jMt E l 106 [.inr (.inr (.inl a)), .inr (.inl a1)] 229 jr0 h (k_fill a a1 N h) := by
  refine jMt0 (nL := 5) (ls := [.inr (.inr (.inl a)), .inr (.inl a1), .inr (.inr (.inr ())), .inr (.inr (.inr ())), .inr (.inr (.inr ()))]) (by decide +kernel) (by decide +kernel) (by decide +kernel) rfl rfl ?_
  have key : ∀ M : Nat, ∀ (x2 : Int) (g : JH), (0 ≤ x2 ∧ x2 ≤ N) → (∀ k : Int, 0 ≤ k → k < x2 → g a k = a1) → jfr (w_fill a) h g → N - x2 < (M : Int) → jGo E l 106 229 229 (jRK (k_fill a a1 N h)) 6 [.inr (.inr (.inl a)), .inr (.inl a1), .inr (.inr (.inr ())), .inl x2, .inl N] [] 229 jr0 g := by
    intro M
    induction M with
    | zero => exact fun _ _ hi _ _ hN => absurd hN (by omega)
    | succ M ih =>
      intro x2 g hi hv hf hM
      refine jGo_blk qJ7_fill_d0a16_6 ?_
      refine And.intro (fun c1 => ?_) (fun c1 => ?_)
      · have c1 : (N : Int) ≤ x2 := c1
        show jGo E l 106 229 229 _ 22 [.inr (.inr (.inl a)), .inr (.inl a1), .inr (.inr (.inr ())), .inl x2, .inl N] [] 229 jr0 g
        refine jGo_blk qJ7_fill_d0a16_22 ?_
        exact ⟨rfl, rfl, hf, rfl, fun k h0 h1 => hv k h0 (by omega)⟩
      · have c1 : x2 < (N : Int) := Int.not_le.mp c1
        refine st_sl ha (show 0 ≤ x2 by omega) (show x2 < (N : Int) by omega) (hb x2) (fun g1 eg1 => ?_)
        have eg1 : g1 = jup g a x2 a1 := eg1
        have e1 : jw32 (x2 + 1) = x2 + 1 := j32e (by omega) (by omega)
        show jGo E l 106 229 229 _ 6 [.inr (.inr (.inl a)), .inr (.inl a1), .inr (.inr (.inr ())), .inl (jw32 (x2 + 1)), .inl N] [] 229 jr0 g1
        rw [e1]
        refine ih _ g1 (by omega) (fun k h0 h1 => ?_) (jfr_up hf eg1 rfl) (by omega)
        by_cases hk : k = x2
        · subst hk; exact jup_s eg1
        · rw [jup_o eg1 (by omega)]; exact hv k h0 (by omega)
  refine jGo_blk qJ7_fill_d0a16_0 ?_
  refine st_al ha ⟨by decide, by decide⟩ ?_
  show jGo E l 106 229 229 _ 6 [.inr (.inr (.inl a)), .inr (.inl a1), .inr (.inr (.inr ())), .inl 0, .inl N] [] 229 jr0 h
  exact key (N + 1) 0 h (by omega) (fun k h0 h1 => absurd h1 (by omega)) (jfr_rf _ _) (by omega)
end
section
def k_X11_within (a0 : Int) (a1 : Int) (h : JH) (v : Option JV) (r' g : JH) : Prop := r' = jr0 ∧ h = g ∧ ∃ x : Int, v = some (.inl x) ∧ (0 ≤ x ∧ x ≤ 1) ∧ ((x = 1 ∧ 0 ≤ a0 ∧ a0 < a1) ∨ (x = 0 ∧ ¬ (0 ≤ a0 ∧ a0 < a1)))
set_option maxHeartbeats 4000000 in
theorem c_X11_within {E : JE} {l : Launch} (a0 : Int) (a1 : Int) (h : JH) : jMt E l 14 [.inl a0, .inl a1] 229 jr0 h (k_X11_within a0 a1 h) := by
  refine jMt0 (nL := 2) (ls := [.inl a0, .inl a1]) (by decide +kernel) (by decide +kernel) (by decide +kernel) rfl rfl ?_
  refine jGo_blk qX11_within_0 ?_
  refine And.intro (fun c1 => ?_) (fun c1 => ?_)
  · have c1 : a0 < 0 := c1
    show jGo E l 14 229 229 _ 13 [.inl a0, .inl a1] [] 229 jr0 h
    refine jGo_blk qX11_within_13 ?_
    show jGo E l 14 229 229 _ 14 [.inl a0, .inl a1] [.inl 0] 229 jr0 h
    refine jGo_blk qX11_within_14 ?_
    exact st_r1 (ls := []) (by omega) ⟨rfl, rfl, rfl, 0, rfl, (by omega), (by omega)⟩
  · have c1 : 0 ≤ a0 := by first | exact c1 | exact Int.not_le.mp c1 | exact Int.not_lt.mp c1 | exact Decidable.not_not.mp c1
    refine And.intro (fun c2 => ?_) (fun c2 => ?_)
    · have c2 : a1 ≤ a0 := c2
      show jGo E l 14 229 229 _ 13 [.inl a0, .inl a1] [] 229 jr0 h
      refine jGo_blk qX11_within_13 ?_
      show jGo E l 14 229 229 _ 14 [.inl a0, .inl a1] [.inl 0] 229 jr0 h
      refine jGo_blk qX11_within_14 ?_
      exact st_r1 (ls := []) (by omega) ⟨rfl, rfl, rfl, 0, rfl, (by omega), (by omega)⟩
    · have c2 : a0 < a1 := by first | exact c2 | exact Int.not_le.mp c2 | exact Int.not_lt.mp c2 | exact Decidable.not_not.mp c2
      show jGo E l 14 229 229 _ 14 [.inl a0, .inl a1] [.inl 1] 229 jr0 h
      refine jGo_blk qX11_within_14 ?_
      exact st_r1 (ls := []) (by omega) ⟨rfl, rfl, rfl, 1, rfl, (by omega), (by omega)⟩

def k_X11_outside (a0 : Int) (a1 : Int) (a2 : Int) (h : JH) (v : Option JV) (r' g : JH) : Prop := r' = jr0 ∧ h = g ∧ ∃ x : Int, v = some (.inl x) ∧ (-6 ≤ x ∧ x ≤ 0) ∧ ((x = -4 ∧ a0 < a1) ∨ (x = -6 ∧ a1 ≤ a0 ∧ a2 < a0) ∨ (x = 0 ∧ a1 ≤ a0 ∧ a0 ≤ a2))
set_option maxHeartbeats 4000000 in
theorem c_X11_outside {E : JE} {l : Launch} (a0 : Int) (a1 : Int) (a2 : Int) (h : JH) : jMt E l 15 [.inl a0, .inl a1, .inl a2] 229 jr0 h (k_X11_outside a0 a1 a2 h) := by
  refine jMt0 (nL := 3) (ls := [.inl a0, .inl a1, .inl a2]) (by decide +kernel) (by decide +kernel) (by decide +kernel) rfl rfl ?_
  refine jGo_blk qX11_outside_0 ?_
  refine And.intro (fun c1 => ?_) (fun c1 => ?_)
  · have c1 : a1 ≤ a0 := c1
    show jGo E l 15 229 229 _ 10 [.inl a0, .inl a1, .inl a2] [] 229 jr0 h
    refine jGo_blk qX11_outside_10 ?_
    refine And.intro (fun c2 => ?_) (fun c2 => ?_)
    · have c2 : a0 ≤ a2 := c2
      show jGo E l 15 229 229 _ 20 [.inl a0, .inl a1, .inl a2] [] 229 jr0 h
      refine jGo_blk qX11_outside_20 ?_
      show jGo E l 15 229 229 _ 21 [.inl a0, .inl a1, .inl a2] [.inl 0] 229 jr0 h
      refine jGo_blk qX11_outside_21 ?_
      exact st_r0 (ls := []) ⟨rfl, rfl, rfl, 0, rfl, (by omega), (by omega)⟩
    · have c2 : a2 < a0 := by first | exact c2 | exact Int.not_le.mp c2 | exact Int.not_lt.mp c2 | exact Decidable.not_not.mp c2
      show jGo E l 15 229 229 _ 21 [.inl a0, .inl a1, .inl a2] [.inl (-6)] 229 jr0 h
      refine jGo_blk qX11_outside_21 ?_
      exact st_r0 (ls := []) ⟨rfl, rfl, rfl, (-6), rfl, (by omega), (by omega)⟩
  · have c1 : a0 < a1 := by first | exact c1 | exact Int.not_le.mp c1 | exact Int.not_lt.mp c1 | exact Decidable.not_not.mp c1
    show jGo E l 15 229 229 _ 21 [.inl a0, .inl a1, .inl a2] [.inl (-4)] 229 jr0 h
    refine jGo_blk qX11_outside_21 ?_
    exact st_r0 (ls := []) ⟨rfl, rfl, rfl, (-4), rfl, (by omega), (by omega)⟩

def w_X7_forget (i k : Int) : Prop := (i = 111 ∧ 9 ≤ k ∧ k ≤ 11)
def k_X7_forget (h : JH) (v : Option JV) (r' g : JH) : Prop := r' = jr0 ∧ jfr w_X7_forget h g ∧ v = none ∧ (True)
set_option maxHeartbeats 4000000 in
theorem c_X7_forget {E : JE} {l : Launch} (h : JH) : jMt E l 17 [.inr (.inr (.inl 111))] 229 jr0 h (k_X7_forget h) := by
  refine jMt0 (nL := 1) (ls := [.inr (.inr (.inl 111))]) (by decide +kernel) (by decide +kernel) (by decide +kernel) rfl rfl ?_
  have f0 : jfr w_X7_forget h h := jfr_rf _ _
  refine jGo_blk qX7_forget_0 ?_
  refine st_pi jo_111 (fun hx => (jbf_7_9 jo_111 _).2 (show 0 ≤ 0 ∧ 0 ≤ 1 by omega)) (fun g1 eg1 => ?_)
  have eg1 : g1 = jup h 111 9 0 := eg1
  have fg1 : jfr w_X7_forget h g1 := jfr_up f0 eg1 (by unfold w_X7_forget; omega)
  have e2 : g1 111 9 = 0 := jup_s eg1
  refine st_pi jo_111 (fun hx => (jbf_7_10 jo_111 _).2 (show 0 ≤ 0 ∧ 0 ≤ 1 by omega)) (fun g3 eg3 => ?_)
  have eg3 : g3 = jup g1 111 10 0 := eg3
  have fg3 : jfr w_X7_forget h g3 := jfr_up fg1 eg3 (by unfold w_X7_forget; omega)
  have e4 : g3 111 10 = 0 := jup_s eg3
  refine st_pi jo_111 (fun hx => (jbf_7_11 jo_111 _).2 (show 0 ≤ 0 ∧ 0 ≤ 1 by omega)) (fun g5 eg5 => ?_)
  have eg5 : g5 = jup g3 111 11 0 := eg5
  have fg5 : jfr w_X7_forget h g5 := jfr_up fg3 eg5 (by unfold w_X7_forget; omega)
  have e6 : g5 111 11 = 0 := jup_s eg5
  exact ⟨rfl, rfl, fg5, rfl, trivial⟩

def w_X11_refused (i k : Int) : Prop := (i = 1)
def k_X11_refused (a1 : Int) (h : JH) (v : Option JV) (r' g : JH) : Prop := r' = jr0 ∧ jfr w_X11_refused h g ∧ ∃ x : Int, v = some (.inl x) ∧ (-7 ≤ x ∧ x ≤ -1) ∧ (x = a1)
set_option maxHeartbeats 4000000 in
theorem c_X11_refused {E : JE} {l : Launch} (a1 : Int) (h : JH) (p1 : -7 ≤ a1 ∧ a1 ≤ -1) : jMt E l 16 [.inr (.inr (.inl 0)), .inl a1] 229 jr0 h (k_X11_refused a1 h) := by
  refine jMt0 (nL := 2) (ls := [.inr (.inr (.inl 0)), .inl a1]) (by decide +kernel) (by decide +kernel) (by decide +kernel) rfl rfl ?_
  have f0 : jfr w_X11_refused h h := jfr_rf _ _
  refine jGo_blk qX11_refused_0 ?_
  refine st_gr jo_0 jr_0_1 ?_
  have e1 : jw32 (-a1) = -a1 := j32e (by omega) (by omega)
  refine st_ai jo_1 (show 0 ≤ jw32 (-a1) by omega) (show jw32 (-a1) < ((8 : Nat) : Int) by omega) (fun v2 ev2 b3 => ?_)
  have ev2 : v2 = h 1 (jw32 (-a1)) := ev2
  refine st_si jo_1 (show 0 ≤ jw32 (-a1) by omega) (show jw32 (-a1) < ((8 : Nat) : Int) by omega) (fun hx => (jba_1 _ _).2 hx) (fun g4 eg4 => ?_)
  have eg4 : g4 = jup h 1 (jw32 (-a1)) (jw32 (v2 + 1)) := eg4
  have fg4 : jfr w_X11_refused h g4 := jfr_up f0 eg4 (by unfold w_X11_refused; omega)
  exact st_r0 (ls := []) ⟨rfl, rfl, fg4, a1, rfl, (by omega), (by omega)⟩

def w_X11_hands (i k : Int) : Prop := (i = 1) ∨ (i = 3) ∨ (i = 111 ∧ 9 ≤ k ∧ k ≤ 11)
def k_X11_hands (a1 : Int) (a2 : Int) (h : JH) (v : Option JV) (r' g : JH) : Prop := r' = jr0 ∧ jfr w_X11_hands h g ∧ ∃ x : Int, v = some (.inl x) ∧ (-7 ≤ x ∧ x ≤ 400) ∧ (True)
set_option maxHeartbeats 4000000 in
theorem c_X11_hands {E : JE} {l : Launch} (a1 : Int) (a2 : Int) (h : JH) : jMt E l 18 [.inr (.inr (.inl 0)), .inl a1, .inl a2] 229 jr0 h (k_X11_hands a1 a2 h) := by
  refine jMt0 (nL := 5) (ls := [.inr (.inr (.inl 0)), .inl a1, .inl a2, .inr (.inr (.inr ())), .inr (.inr (.inr ()))]) (by decide +kernel) (by decide +kernel) (by decide +kernel) rfl rfl ?_
  have f0 : jfr w_X11_hands h h := jfr_rf _ _
  refine jGo_blk qX11_hands_0 ?_
  refine st_cs (na := 2) (st := [.inl 4, .inl a1]) rfl rfl rfl (c_X11_within a1 4 h) rfl ?_
  rintro _ _ _ ⟨rfl, rfl, x1, rfl, hx1, zx1⟩ kx1
  have kx1 : -2147483648 ≤ x1 ∧ x1 ≤ 2147483647 := kx1
  have hx1 : 0 ≤ x1 ∧ x1 ≤ 1 := hx1
  have zx1 : (x1 = 1 ∧ 0 ≤ a1 ∧ a1 < 4) ∨ (x1 = 0 ∧ ¬ (0 ≤ a1 ∧ a1 < 4)) := zx1
  refine And.intro (fun c3 => ?_) (fun c3 => ?_)
  · have c3 : ¬ x1 = 0 := c3
    show jGo E l 18 229 229 _ 12 [.inr (.inr (.inl 0)), .inl a1, .inl a2, .inr (.inr (.inr ())), .inr (.inr (.inr ()))] [] 229 jr0 h
    refine jGo_blk qX11_hands_12 ?_
    refine st_cs (na := 3) (st := [.inl 400, .inl 0, .inl a2]) rfl rfl rfl (c_X11_outside a2 0 400 h) rfl ?_
    rintro _ _ _ ⟨rfl, rfl, x4, rfl, hx4, zx4⟩ kx4
    have kx4 : -2147483648 ≤ x4 ∧ x4 ≤ 2147483647 := kx4
    have hx4 : -6 ≤ x4 ∧ x4 ≤ 0 := hx4
    have zx4 : (x4 = -4 ∧ a2 < 0) ∨ (x4 = -6 ∧ 0 ≤ a2 ∧ 400 < a2) ∨ (x4 = 0 ∧ 0 ≤ a2 ∧ a2 ≤ 400) := zx4
    show jGo E l 18 229 229 _ 20 [.inr (.inr (.inl 0)), .inl a1, .inl a2, .inr (.inr (.inr ())), .inr (.inr (.inr ()))] [.inl x4] 229 jr0 h
    refine jGo_blk qX11_hands_20 ?_
    refine And.intro (fun c6 => ?_) (fun c6 => ?_)
    · have c6 : x4 = 0 := c6
      show jGo E l 18 229 229 _ 31 [.inr (.inr (.inl 0)), .inl a1, .inl a2, .inl x4, .inr (.inr (.inr ()))] [] 229 jr0 h
      refine jGo_blk qX11_hands_31 ?_
      refine st_gr jo_0 jr_0_11 ?_
      refine st_cv (na := 0) (st := [.inr (.inr (.inl 111))]) jo_111 rfl rfl rfl (c_X7_forget h) rfl ?_
      rintro _ _ g8 ⟨rfl, fx7, rfl, zx7⟩ kx7
      have fg8 : jfr w_X11_hands h g8 := jfr_tr f0 fx7 (fun i k q => by unfold w_X7_forget at q; unfold w_X11_hands; omega)
      refine st_gr jo_0 jr_0_2 ?_
      refine st_gr jo_2 jr_2_0 ?_
      refine st_ai jo_3 (show 0 ≤ a1 by omega) (show a1 < ((4 : Nat) : Int) by omega) (fun v9 ev9 b10 => ?_)
      have ev9 : v9 = g8 3 a1 := ev9
      have b10 := (jba_3 a1 _).1 b10
      refine st_gr jo_0 jr_0_2 ?_
      refine st_gr jo_2 jr_2_0 ?_
      refine st_si jo_3 (show 0 ≤ a1 by omega) (show a1 < ((4 : Nat) : Int) by omega) (fun hx => (jba_3 _ _).2 (show 0 ≤ a2 ∧ a2 ≤ 400 by omega)) (fun g11 eg11 => ?_)
      have eg11 : g11 = jup g8 3 a1 a2 := eg11
      have fg11 : jfr w_X11_hands h g11 := jfr_up fg8 eg11 (by unfold w_X11_hands; omega)
      exact st_r0 (ls := []) ⟨rfl, rfl, fg11, v9, rfl, (by omega), trivial⟩
    · have c6 : ¬ x4 = 0 := by first | exact c6 | exact Int.not_le.mp c6 | exact Int.not_lt.mp c6 | exact Decidable.not_not.mp c6
      refine st_cv (na := 1) (st := [.inl x4, .inr (.inr (.inl 0))]) jo_0 rfl rfl rfl (c_X11_refused x4 h (by omega)) rfl ?_
      rintro _ _ g13 ⟨rfl, fx12, x12, rfl, hx12, zx12⟩ kx12
      have kx12 : -2147483648 ≤ x12 ∧ x12 ≤ 2147483647 := kx12
      have hx12 : -7 ≤ x12 ∧ x12 ≤ -1 := hx12
      have fg13 : jfr w_X11_hands h g13 := jfr_tr f0 fx12 (fun i k q => by unfold w_X11_refused at q; unfold w_X11_hands; omega)
      have zx12 : x12 = x4 := zx12
      exact st_r0 (ls := []) ⟨rfl, rfl, fg13, x12, rfl, (by omega), trivial⟩
  · have c3 : x1 = 0 := by first | exact c3 | exact Int.not_le.mp c3 | exact Int.not_lt.mp c3 | exact Decidable.not_not.mp c3
    show jGo E l 18 229 229 _ 20 [.inr (.inr (.inl 0)), .inl a1, .inl a2, .inr (.inr (.inr ())), .inr (.inr (.inr ()))] [.inl (-1)] 229 jr0 h
    refine jGo_blk qX11_hands_20 ?_
    refine And.intro (fun c14 => ?_) (fun c14 => ?_)
    · have c14 : (-1) = 0 := c14
      exfalso; omega
    · have c14 : ¬ (-1) = 0 := by first | exact c14 | exact Int.not_le.mp c14 | exact Int.not_lt.mp c14 | exact Decidable.not_not.mp c14
      refine st_cv (na := 1) (st := [.inl (-1), .inr (.inr (.inl 0))]) jo_0 rfl rfl rfl (c_X11_refused (-1) h (by omega)) rfl ?_
      rintro _ _ g16 ⟨rfl, fx15, x15, rfl, hx15, zx15⟩ kx15
      have kx15 : -2147483648 ≤ x15 ∧ x15 ≤ 2147483647 := kx15
      have hx15 : -7 ≤ x15 ∧ x15 ≤ -1 := hx15
      have fg16 : jfr w_X11_hands h g16 := jfr_tr f0 fx15 (fun i k q => by unfold w_X11_refused at q; unfold w_X11_hands; omega)
      have zx15 : x15 = (-1) := zx15
      exact st_r0 (ls := []) ⟨rfl, rfl, fg16, x15, rfl, (by omega), trivial⟩

def k_X12_in (a0 : Int) (a1 : Int) (a2 : Int) (h : JH) (v : Option JV) (r' g : JH) : Prop := r' = jr0 ∧ h = g ∧ ∃ x : Int, v = some (.inl x) ∧ (0 ≤ x ∧ x ≤ 1) ∧ ((x = 1 ∧ a1 ≤ a0 ∧ a0 ≤ a2) ∨ (x = 0 ∧ ¬ (a1 ≤ a0 ∧ a0 ≤ a2)))
set_option maxHeartbeats 4000000 in
theorem c_X12_in {E : JE} {l : Launch} (a0 : Int) (a1 : Int) (a2 : Int) (h : JH) : jMt E l 19 [.inl a0, .inl a1, .inl a2] 229 jr0 h (k_X12_in a0 a1 a2 h) := by
  refine jMt0 (nL := 3) (ls := [.inl a0, .inl a1, .inl a2]) (by decide +kernel) (by decide +kernel) (by decide +kernel) rfl rfl ?_
  refine jGo_blk qX12_in_0 ?_
  refine And.intro (fun c1 => ?_) (fun c1 => ?_)
  · have c1 : a0 < a1 := c1
    show jGo E l 19 229 229 _ 14 [.inl a0, .inl a1, .inl a2] [] 229 jr0 h
    refine jGo_blk qX12_in_14 ?_
    show jGo E l 19 229 229 _ 15 [.inl a0, .inl a1, .inl a2] [.inl 0] 229 jr0 h
    refine jGo_blk qX12_in_15 ?_
    exact st_r1 (ls := []) (by omega) ⟨rfl, rfl, rfl, 0, rfl, (by omega), (by omega)⟩
  · have c1 : a1 ≤ a0 := by first | exact c1 | exact Int.not_le.mp c1 | exact Int.not_lt.mp c1 | exact Decidable.not_not.mp c1
    refine And.intro (fun c2 => ?_) (fun c2 => ?_)
    · have c2 : a2 < a0 := c2
      show jGo E l 19 229 229 _ 14 [.inl a0, .inl a1, .inl a2] [] 229 jr0 h
      refine jGo_blk qX12_in_14 ?_
      show jGo E l 19 229 229 _ 15 [.inl a0, .inl a1, .inl a2] [.inl 0] 229 jr0 h
      refine jGo_blk qX12_in_15 ?_
      exact st_r1 (ls := []) (by omega) ⟨rfl, rfl, rfl, 0, rfl, (by omega), (by omega)⟩
    · have c2 : a0 ≤ a2 := by first | exact c2 | exact Int.not_le.mp c2 | exact Int.not_lt.mp c2 | exact Decidable.not_not.mp c2
      show jGo E l 19 229 229 _ 15 [.inl a0, .inl a1, .inl a2] [.inl 1] 229 jr0 h
      refine jGo_blk qX12_in_15 ?_
      exact st_r1 (ls := []) (by omega) ⟨rfl, rfl, rfl, 1, rfl, (by omega), (by omega)⟩

def w_X12_refuse (i k : Int) : Prop := (i = 219)
def k_X12_refuse (a1 : Int) (h : JH) (v : Option JV) (r' g : JH) : Prop := r' = jr0 ∧ jfr w_X12_refuse h g ∧ ∃ x : Int, v = some (.inl x) ∧ (-7 ≤ x ∧ x ≤ -1) ∧ (x = a1)
set_option maxHeartbeats 4000000 in
theorem c_X12_refuse {E : JE} {l : Launch} (a1 : Int) (h : JH) (p1 : -7 ≤ a1 ∧ a1 ≤ -1) : jMt E l 20 [.inr (.inr (.inl 176)), .inl a1] 229 jr0 h (k_X12_refuse a1 h) := by
  refine jMt0 (nL := 2) (ls := [.inr (.inr (.inl 176)), .inl a1]) (by decide +kernel) (by decide +kernel) (by decide +kernel) rfl rfl ?_
  have f0 : jfr w_X12_refuse h h := jfr_rf _ _
  refine jGo_blk qX12_refuse_0 ?_
  refine st_gr jo_176 jr_176_50 ?_
  have e1 : jw32 (-a1) = -a1 := j32e (by omega) (by omega)
  refine st_ai jo_219 (show 0 ≤ jw32 (-a1) by omega) (show jw32 (-a1) < ((8 : Nat) : Int) by omega) (fun v2 ev2 b3 => ?_)
  have ev2 : v2 = h 219 (jw32 (-a1)) := ev2
  refine st_si jo_219 (show 0 ≤ jw32 (-a1) by omega) (show jw32 (-a1) < ((8 : Nat) : Int) by omega) (fun hx => (jba_219 _ _).2 hx) (fun g4 eg4 => ?_)
  have eg4 : g4 = jup h 219 (jw32 (-a1)) (jw32 (v2 + 1)) := eg4
  have fg4 : jfr w_X12_refuse h g4 := jfr_up f0 eg4 (by unfold w_X12_refuse; omega)
  exact st_r0 (ls := []) ⟨rfl, rfl, fg4, a1, rfl, (by omega), (by omega)⟩

def w_X12_hands (i k : Int) : Prop := (i = 177) ∨ (i = 219)
def k_X12_hands (a1 : Int) (a2 : Int) (h : JH) (v : Option JV) (r' g : JH) : Prop := r' = jr0 ∧ jfr w_X12_hands h g ∧ ∃ x : Int, v = some (.inl x) ∧ (-7 ≤ x ∧ x ≤ 400) ∧ (True)
set_option maxHeartbeats 4000000 in
theorem c_X12_hands {E : JE} {l : Launch} (a1 : Int) (a2 : Int) (h : JH) : jMt E l 21 [.inr (.inr (.inl 176)), .inl a1, .inl a2] 229 jr0 h (k_X12_hands a1 a2 h) := by
  refine jMt0 (nL := 4) (ls := [.inr (.inr (.inl 176)), .inl a1, .inl a2, .inr (.inr (.inr ()))]) (by decide +kernel) (by decide +kernel) (by decide +kernel) rfl rfl ?_
  have f0 : jfr w_X12_hands h h := jfr_rf _ _
  refine jGo_blk qX12_hands_0 ?_
  refine st_cs (na := 3) (st := [.inl 3, .inl 0, .inl a1]) rfl rfl rfl (c_X12_in a1 0 3 h) rfl ?_
  rintro _ _ _ ⟨rfl, rfl, x1, rfl, hx1, zx1⟩ kx1
  have kx1 : -2147483648 ≤ x1 ∧ x1 ≤ 2147483647 := kx1
  have hx1 : 0 ≤ x1 ∧ x1 ≤ 1 := hx1
  have zx1 : (x1 = 1 ∧ 0 ≤ a1 ∧ a1 ≤ 3) ∨ (x1 = 0 ∧ ¬ (0 ≤ a1 ∧ a1 ≤ 3)) := zx1
  refine And.intro (fun c3 => ?_) (fun c3 => ?_)
  · have c3 : ¬ x1 = 0 := c3
    show jGo E l 21 229 229 _ 15 [.inr (.inr (.inl 176)), .inl a1, .inl a2, .inr (.inr (.inr ()))] [] 229 jr0 h
    refine jGo_blk qX12_hands_15 ?_
    refine And.intro (fun c4 => ?_) (fun c4 => ?_)
    · have c4 : 0 ≤ a2 := c4
      show jGo E l 21 229 229 _ 26 [.inr (.inr (.inl 176)), .inl a1, .inl a2, .inr (.inr (.inr ()))] [] 229 jr0 h
      refine jGo_blk qX12_hands_26 ?_
      refine And.intro (fun c5 => ?_) (fun c5 => ?_)
      · have c5 : a2 ≤ 400 := c5
        show jGo E l 21 229 229 _ 40 [.inr (.inr (.inl 176)), .inl a1, .inl a2, .inr (.inr (.inr ()))] [] 229 jr0 h
        refine jGo_blk qX12_hands_40 ?_
        refine st_gr jo_176 jr_176_1 ?_
        refine st_ai jo_177 (show 0 ≤ a1 by omega) (show a1 < ((4 : Nat) : Int) by omega) (fun v6 ev6 b7 => ?_)
        have ev6 : v6 = h 177 a1 := ev6
        have b7 := (jba_177 a1 _).1 b7
        refine st_gr jo_176 jr_176_1 ?_
        refine st_si jo_177 (show 0 ≤ a1 by omega) (show a1 < ((4 : Nat) : Int) by omega) (fun hx => (jba_177 _ _).2 (show 0 ≤ a2 ∧ a2 ≤ 400 by omega)) (fun g8 eg8 => ?_)
        have eg8 : g8 = jup h 177 a1 a2 := eg8
        have fg8 : jfr w_X12_hands h g8 := jfr_up f0 eg8 (by unfold w_X12_hands; omega)
        exact st_r0 (ls := []) ⟨rfl, rfl, fg8, v6, rfl, (by omega), trivial⟩
      · have c5 : 400 < a2 := by first | exact c5 | exact Int.not_le.mp c5 | exact Int.not_lt.mp c5 | exact Decidable.not_not.mp c5
        refine st_cv (na := 1) (st := [.inl (-6), .inr (.inr (.inl 176))]) jo_176 rfl rfl rfl (c_X12_refuse (-6) h (by omega)) rfl ?_
        rintro _ _ g10 ⟨rfl, fx9, x9, rfl, hx9, zx9⟩ kx9
        have kx9 : -2147483648 ≤ x9 ∧ x9 ≤ 2147483647 := kx9
        have hx9 : -7 ≤ x9 ∧ x9 ≤ -1 := hx9
        have fg10 : jfr w_X12_hands h g10 := jfr_tr f0 fx9 (fun i k q => by unfold w_X12_refuse at q; unfold w_X12_hands; omega)
        have zx9 : x9 = (-6) := zx9
        exact st_r0 (ls := []) ⟨rfl, rfl, fg10, x9, rfl, (by omega), trivial⟩
    · have c4 : a2 < 0 := by first | exact c4 | exact Int.not_le.mp c4 | exact Int.not_lt.mp c4 | exact Decidable.not_not.mp c4
      refine st_cv (na := 1) (st := [.inl (-4), .inr (.inr (.inl 176))]) jo_176 rfl rfl rfl (c_X12_refuse (-4) h (by omega)) rfl ?_
      rintro _ _ g12 ⟨rfl, fx11, x11, rfl, hx11, zx11⟩ kx11
      have kx11 : -2147483648 ≤ x11 ∧ x11 ≤ 2147483647 := kx11
      have hx11 : -7 ≤ x11 ∧ x11 ≤ -1 := hx11
      have fg12 : jfr w_X12_hands h g12 := jfr_tr f0 fx11 (fun i k q => by unfold w_X12_refuse at q; unfold w_X12_hands; omega)
      have zx11 : x11 = (-4) := zx11
      exact st_r0 (ls := []) ⟨rfl, rfl, fg12, x11, rfl, (by omega), trivial⟩
  · have c3 : x1 = 0 := by first | exact c3 | exact Int.not_le.mp c3 | exact Int.not_lt.mp c3 | exact Decidable.not_not.mp c3
    refine st_cv (na := 1) (st := [.inl (-1), .inr (.inr (.inl 176))]) jo_176 rfl rfl rfl (c_X12_refuse (-1) h (by omega)) rfl ?_
    rintro _ _ g14 ⟨rfl, fx13, x13, rfl, hx13, zx13⟩ kx13
    have kx13 : -2147483648 ≤ x13 ∧ x13 ≤ 2147483647 := kx13
    have hx13 : -7 ≤ x13 ∧ x13 ≤ -1 := hx13
    have fg14 : jfr w_X12_hands h g14 := jfr_tr f0 fx13 (fun i k q => by unfold w_X12_refuse at q; unfold w_X12_hands; omega)
    have zx13 : x13 = (-1) := zx13
    exact st_r0 (ls := []) ⟨rfl, rfl, fg14, x13, rfl, (by omega), trivial⟩

def w_X11_row (i k : Int) : Prop := (i = 1) ∨ (6 ≤ i ∧ i ≤ 10) ∨ (i = 111 ∧ 9 ≤ k ∧ k ≤ 11)
def k_X11_row (a1 : Int) (a2 : Int) (h : JH) (v : Option JV) (r' g : JH) : Prop := r' = jr0 ∧ jfr w_X11_row h g ∧ ∃ x : Int, v = some (.inl x) ∧ (-7 ≤ x ∧ x ≤ 30) ∧ (True)
set_option maxHeartbeats 4000000 in
theorem c_X11_row {E : JE} {l : Launch} (a1 : Int) (a2 : Int) (h : JH) : jMt E l 24 [.inr (.inr (.inl 0)), .inl a1, .inl a2] 229 jr0 h (k_X11_row a1 a2 h) := by
  refine jMt0 (nL := 4) (ls := [.inr (.inr (.inl 0)), .inl a1, .inl a2, .inr (.inr (.inr ()))]) (by decide +kernel) (by decide +kernel) (by decide +kernel) rfl rfl ?_
  have f0 : jfr w_X11_row h h := jfr_rf _ _
  refine jGo_blk qX11_row_0 ?_
  refine st_cs (na := 2) (st := [.inl 4, .inl a1]) rfl rfl rfl (c_X11_within a1 4 h) rfl ?_
  rintro _ _ _ ⟨rfl, rfl, x1, rfl, hx1, zx1⟩ kx1
  have kx1 : -2147483648 ≤ x1 ∧ x1 ≤ 2147483647 := kx1
  have hx1 : 0 ≤ x1 ∧ x1 ≤ 1 := hx1
  have zx1 : (x1 = 1 ∧ 0 ≤ a1 ∧ a1 < 4) ∨ (x1 = 0 ∧ ¬ (0 ≤ a1 ∧ a1 < 4)) := zx1
  refine And.intro (fun c3 => ?_) (fun c3 => ?_)
  · have c3 : ¬ x1 = 0 := c3
    show jGo E l 24 229 229 _ 12 [.inr (.inr (.inl 0)), .inl a1, .inl a2, .inr (.inr (.inr ()))] [] 229 jr0 h
    refine jGo_blk qX11_row_12 ?_
    refine st_cs (na := 3) (st := [.inl 30, .inl 0, .inl a2]) rfl rfl rfl (c_X11_outside a2 0 30 h) rfl ?_
    rintro _ _ _ ⟨rfl, rfl, x4, rfl, hx4, zx4⟩ kx4
    have kx4 : -2147483648 ≤ x4 ∧ x4 ≤ 2147483647 := kx4
    have hx4 : -6 ≤ x4 ∧ x4 ≤ 0 := hx4
    have zx4 : (x4 = -4 ∧ a2 < 0) ∨ (x4 = -6 ∧ 0 ≤ a2 ∧ 30 < a2) ∨ (x4 = 0 ∧ 0 ≤ a2 ∧ a2 ≤ 30) := zx4
    show jGo E l 24 229 229 _ 19 [.inr (.inr (.inl 0)), .inl a1, .inl a2, .inr (.inr (.inr ()))] [.inl x4] 229 jr0 h
    refine jGo_blk qX11_row_19 ?_
    refine And.intro (fun c6 => ?_) (fun c6 => ?_)
    · have c6 : x4 = 0 := c6
      show jGo E l 24 229 229 _ 30 [.inr (.inr (.inl 0)), .inl a1, .inl a2, .inl x4] [] 229 jr0 h
      refine jGo_blk qX11_row_30 ?_
      refine st_gr jo_0 jr_0_11 ?_
      refine st_cv (na := 0) (st := [.inr (.inr (.inl 111))]) jo_111 rfl rfl rfl (c_X7_forget h) rfl ?_
      rintro _ _ g8 ⟨rfl, fx7, rfl, zx7⟩ kx7
      have fg8 : jfr w_X11_row h g8 := jfr_tr f0 fx7 (fun i k q => by unfold w_X7_forget at q; unfold w_X11_row; omega)
      refine st_gr jo_0 jr_0_2 ?_
      refine st_gr jo_2 jr_2_2 ?_
      refine st_ar jo_5 (by decide) (show 0 ≤ a1 by omega) (show a1 < ((4 : Nat) : Int) by omega) (fun u9 eu9 => ?_)
      have eu9 : u9 = jr0 5 a1 := eu9
      have qu9 : u9 = 6 + a1 := eu9.trans (jrow_5 a1 (by omega) (by omega)).1
      have ou9 : jF 229 u9 1 30 := by rw [eu9]; exact (jrow_5 a1 (by omega) (by omega)).2.1
      have wu9 : ∀ j v : Int, jbd u9 j v ↔ (0 ≤ v ∧ v ≤ 400) := by rw [eu9]; exact (jrow_5 a1 (by omega) (by omega)).2.2
      refine st_cs (na := 2) (st := [.inl 0, .inr (.inr (.inl u9))]) rfl rfl rfl (c_fill u9 0 g8 ou9 (by decide) (fun k hx => (wu9 _ _).2 (by omega))) rfl ?_
      rintro _ _ g11 ⟨rfl, fx10, rfl, zx10⟩ kx10
      have fg11 : jfr w_X11_row h g11 := jfr_tr fg8 fx10 (fun i k q => by unfold w_fill at q; unfold w_X11_row; omega)
      refine st_gr jo_0 jr_0_2 ?_
      refine st_gr jo_2 jr_2_3 ?_
      refine st_si jo_10 (show 0 ≤ a1 by omega) (show a1 < ((4 : Nat) : Int) by omega) (fun hx => (jba_10 _ _).2 (show -1 ≤ a2 ∧ a2 ≤ 30 by omega)) (fun g12 eg12 => ?_)
      have eg12 : g12 = jup g11 10 a1 a2 := eg12
      have fg12 : jfr w_X11_row h g12 := jfr_up fg11 eg12 (by unfold w_X11_row; omega)
      exact st_r0 (ls := []) ⟨rfl, rfl, fg12, a2, rfl, (by omega), trivial⟩
    · have c6 : ¬ x4 = 0 := by first | exact c6 | exact Int.not_le.mp c6 | exact Int.not_lt.mp c6 | exact Decidable.not_not.mp c6
      refine st_cv (na := 1) (st := [.inl x4, .inr (.inr (.inl 0))]) jo_0 rfl rfl rfl (c_X11_refused x4 h (by omega)) rfl ?_
      rintro _ _ g14 ⟨rfl, fx13, x13, rfl, hx13, zx13⟩ kx13
      have kx13 : -2147483648 ≤ x13 ∧ x13 ≤ 2147483647 := kx13
      have hx13 : -7 ≤ x13 ∧ x13 ≤ -1 := hx13
      have fg14 : jfr w_X11_row h g14 := jfr_tr f0 fx13 (fun i k q => by unfold w_X11_refused at q; unfold w_X11_row; omega)
      have zx13 : x13 = x4 := zx13
      exact st_r0 (ls := []) ⟨rfl, rfl, fg14, x13, rfl, (by omega), trivial⟩
  · have c3 : x1 = 0 := by first | exact c3 | exact Int.not_le.mp c3 | exact Int.not_lt.mp c3 | exact Decidable.not_not.mp c3
    show jGo E l 24 229 229 _ 19 [.inr (.inr (.inl 0)), .inl a1, .inl a2, .inr (.inr (.inr ()))] [.inl (-1)] 229 jr0 h
    refine jGo_blk qX11_row_19 ?_
    refine And.intro (fun c15 => ?_) (fun c15 => ?_)
    · have c15 : (-1) = 0 := c15
      exfalso; omega
    · have c15 : ¬ (-1) = 0 := by first | exact c15 | exact Int.not_le.mp c15 | exact Int.not_lt.mp c15 | exact Decidable.not_not.mp c15
      refine st_cv (na := 1) (st := [.inl (-1), .inr (.inr (.inl 0))]) jo_0 rfl rfl rfl (c_X11_refused (-1) h (by omega)) rfl ?_
      rintro _ _ g17 ⟨rfl, fx16, x16, rfl, hx16, zx16⟩ kx16
      have kx16 : -2147483648 ≤ x16 ∧ x16 ≤ 2147483647 := kx16
      have hx16 : -7 ≤ x16 ∧ x16 ≤ -1 := hx16
      have fg17 : jfr w_X11_row h g17 := jfr_tr f0 fx16 (fun i k q => by unfold w_X11_refused at q; unfold w_X11_row; omega)
      have zx16 : x16 = (-1) := zx16
      exact st_r0 (ls := []) ⟨rfl, rfl, fg17, x16, rfl, (by omega), trivial⟩

def w_X12_row (i k : Int) : Prop := (179 ≤ i ∧ i ≤ 180) ∨ (i = 219)
def k_X12_row (a1 : Int) (a2 : Int) (h : JH) (v : Option JV) (r' g : JH) : Prop := r' = jr0 ∧ jfr w_X12_row h g ∧ ∃ x : Int, v = some (.inl x) ∧ (-7 ≤ x ∧ x ≤ 30) ∧ (True)
set_option maxHeartbeats 4000000 in
theorem c_X12_row {E : JE} {l : Launch} (a1 : Int) (a2 : Int) (h : JH) : jMt E l 25 [.inr (.inr (.inl 176)), .inl a1, .inl a2] 229 jr0 h (k_X12_row a1 a2 h) := by
  refine jMt0 (nL := 4) (ls := [.inr (.inr (.inl 176)), .inl a1, .inl a2, .inr (.inr (.inr ()))]) (by decide +kernel) (by decide +kernel) (by decide +kernel) rfl rfl ?_
  have f0 : jfr w_X12_row h h := jfr_rf _ _
  have key : ∀ N : Nat, (∀ (x3 : Int) (g : JH), (0 ≤ a1 ∧ a1 ≤ 3 ∧ 0 ≤ a2 ∧ a2 ≤ 30 ∧ 0 ≤ x3 ∧ x3 ≤ 30) → jfr w_X12_row h g → (30 - x3) < (N : Int) → jGo E l 25 229 229 (jRK (k_X12_row a1 a2 h)) 48 [.inr (.inr (.inl 176)), .inl a1, .inl a2, .inl x3] [] 229 jr0 g) := by
    intro N
    induction N with
    | zero => exact fun _ _ hi _ hN => absurd hN (by omega)
    | succ N ih =>
      intro x3 g hi hf hN
      refine jGo_blk qX12_row_48 ?_
      refine And.intro (fun c1 => ?_) (fun c1 => ?_)
      · have c1 : a2 ≤ x3 := c1
        show jGo E l 25 229 229 _ 71 [.inr (.inr (.inl 176)), .inl a1, .inl a2, .inl x3] [] 229 jr0 g
        refine jGo_blk qX12_row_71 ?_
        exact st_r0 (ls := []) ⟨rfl, rfl, hf, a2, rfl, (by omega), trivial⟩
      · have c1 : x3 < a2 := by first | exact c1 | exact Int.not_le.mp c1 | exact Int.not_lt.mp c1 | exact Decidable.not_not.mp c1
        refine st_gr jo_176 jr_176_4 ?_
        have e2 : jw32 (30 * a1) = 30 * a1 := j32e (by omega) (by omega)
        have e3 : jw32 ((jw32 (30 * a1)) + x3) = (jw32 (30 * a1)) + x3 := j32e (by omega) (by omega)
        refine st_si jo_180 (show 0 ≤ jw32 ((jw32 (30 * a1)) + x3) by omega) (show jw32 ((jw32 (30 * a1)) + x3) < ((120 : Nat) : Int) by omega) (fun hx => (jba_180 _ _).2 (show 0 ≤ 0 ∧ 0 ≤ 400 by omega)) (fun g4 eg4 => ?_)
        have eg4 : g4 = jup g 180 (jw32 ((jw32 (30 * a1)) + x3)) 0 := eg4
        have fg4 : jfr w_X12_row h g4 := jfr_up hf eg4 (by unfold w_X12_row; omega)
        have e5 : jw32 (x3 + 1) = x3 + 1 := j32e (by omega) (by omega)
        show jGo E l 25 229 229 _ 48 [.inr (.inr (.inl 176)), .inl a1, .inl a2, .inl (jw32 (x3 + 1))] [] 229 jr0 g4
        exact ih (jw32 (x3 + 1)) g4 (by omega) fg4 (by omega)
  refine jGo_blk qX12_row_0 ?_
  refine st_cs (na := 3) (st := [.inl 3, .inl 0, .inl a1]) rfl rfl rfl (c_X12_in a1 0 3 h) rfl ?_
  rintro _ _ _ ⟨rfl, rfl, x6, rfl, hx6, zx6⟩ kx6
  have kx6 : -2147483648 ≤ x6 ∧ x6 ≤ 2147483647 := kx6
  have hx6 : 0 ≤ x6 ∧ x6 ≤ 1 := hx6
  have zx6 : (x6 = 1 ∧ 0 ≤ a1 ∧ a1 ≤ 3) ∨ (x6 = 0 ∧ ¬ (0 ≤ a1 ∧ a1 ≤ 3)) := zx6
  refine And.intro (fun c8 => ?_) (fun c8 => ?_)
  · have c8 : ¬ x6 = 0 := c8
    show jGo E l 25 229 229 _ 15 [.inr (.inr (.inl 176)), .inl a1, .inl a2, .inr (.inr (.inr ()))] [] 229 jr0 h
    refine jGo_blk qX12_row_15 ?_
    refine And.intro (fun c9 => ?_) (fun c9 => ?_)
    · have c9 : 0 ≤ a2 := c9
      show jGo E l 25 229 229 _ 26 [.inr (.inr (.inl 176)), .inl a1, .inl a2, .inr (.inr (.inr ()))] [] 229 jr0 h
      refine jGo_blk qX12_row_26 ?_
      refine And.intro (fun c10 => ?_) (fun c10 => ?_)
      · have c10 : a2 ≤ 30 := c10
        show jGo E l 25 229 229 _ 39 [.inr (.inr (.inl 176)), .inl a1, .inl a2, .inr (.inr (.inr ()))] [] 229 jr0 h
        refine jGo_blk qX12_row_39 ?_
        refine st_gr jo_176 jr_176_3 ?_
        refine st_si jo_179 (show 0 ≤ a1 by omega) (show a1 < ((4 : Nat) : Int) by omega) (fun hx => (jba_179 _ _).2 (show -1 ≤ a2 ∧ a2 ≤ 30 by omega)) (fun g11 eg11 => ?_)
        have eg11 : g11 = jup h 179 a1 a2 := eg11
        have fg11 : jfr w_X12_row h g11 := jfr_up f0 eg11 (by unfold w_X12_row; omega)
        show jGo E l 25 229 229 _ 48 [.inr (.inr (.inl 176)), .inl a1, .inl a2, .inl 0] [] 229 jr0 g11
        exact (key 1000000000000) 0 g11 (by omega) fg11 (by omega)
      · have c10 : 30 < a2 := by first | exact c10 | exact Int.not_le.mp c10 | exact Int.not_lt.mp c10 | exact Decidable.not_not.mp c10
        refine st_cv (na := 1) (st := [.inl (-6), .inr (.inr (.inl 176))]) jo_176 rfl rfl rfl (c_X12_refuse (-6) h (by omega)) rfl ?_
        rintro _ _ g13 ⟨rfl, fx12, x12, rfl, hx12, zx12⟩ kx12
        have kx12 : -2147483648 ≤ x12 ∧ x12 ≤ 2147483647 := kx12
        have hx12 : -7 ≤ x12 ∧ x12 ≤ -1 := hx12
        have fg13 : jfr w_X12_row h g13 := jfr_tr f0 fx12 (fun i k q => by unfold w_X12_refuse at q; unfold w_X12_row; omega)
        have zx12 : x12 = (-6) := zx12
        exact st_r0 (ls := []) ⟨rfl, rfl, fg13, x12, rfl, (by omega), trivial⟩
    · have c9 : a2 < 0 := by first | exact c9 | exact Int.not_le.mp c9 | exact Int.not_lt.mp c9 | exact Decidable.not_not.mp c9
      refine st_cv (na := 1) (st := [.inl (-4), .inr (.inr (.inl 176))]) jo_176 rfl rfl rfl (c_X12_refuse (-4) h (by omega)) rfl ?_
      rintro _ _ g15 ⟨rfl, fx14, x14, rfl, hx14, zx14⟩ kx14
      have kx14 : -2147483648 ≤ x14 ∧ x14 ≤ 2147483647 := kx14
      have hx14 : -7 ≤ x14 ∧ x14 ≤ -1 := hx14
      have fg15 : jfr w_X12_row h g15 := jfr_tr f0 fx14 (fun i k q => by unfold w_X12_refuse at q; unfold w_X12_row; omega)
      have zx14 : x14 = (-4) := zx14
      exact st_r0 (ls := []) ⟨rfl, rfl, fg15, x14, rfl, (by omega), trivial⟩
  · have c8 : x6 = 0 := by first | exact c8 | exact Int.not_le.mp c8 | exact Int.not_lt.mp c8 | exact Decidable.not_not.mp c8
    refine st_cv (na := 1) (st := [.inl (-1), .inr (.inr (.inl 176))]) jo_176 rfl rfl rfl (c_X12_refuse (-1) h (by omega)) rfl ?_
    rintro _ _ g17 ⟨rfl, fx16, x16, rfl, hx16, zx16⟩ kx16
    have kx16 : -2147483648 ≤ x16 ∧ x16 ≤ 2147483647 := kx16
    have hx16 : -7 ≤ x16 ∧ x16 ≤ -1 := hx16
    have fg17 : jfr w_X12_row h g17 := jfr_tr f0 fx16 (fun i k q => by unfold w_X12_refuse at q; unfold w_X12_row; omega)
    have zx16 : x16 = (-1) := zx16
    exact st_r0 (ls := []) ⟨rfl, rfl, fg17, x16, rfl, (by omega), trivial⟩
end
