section
-- ===== PART A: goes FIRST, ahead of the names: the tables' words, and 'selects' of the private methods out of them =====
/-- a private method of a class that the tables say can be made, by its rows of tables_1 -/
def lw_okq (q : MethodName × Nat) : Prop := (q.1.cls ≠ "java/lang/invoke/MethodHandle" ∧ q.1.cls ≠ "java/lang/invoke/VarHandle") ∧ Cond.instantiable q.1.cls q.2 ∈ tables_1 ∧ Cond.privateMethod q.1 ∈ tables_1 ∧ Cond.instanceMethod q.1 ∈ tables_1
theorem lw_p0 : lw_okq (⟨"HalfDays", "answer", "(I)I"⟩, 6) := ⟨⟨by decide +kernel, by decide +kernel⟩, List.mem_of_getElem? (i := 19) (by decide +kernel), List.mem_of_getElem? (i := 549) (by decide +kernel), List.mem_of_getElem? (i := 550) (by decide +kernel)⟩
theorem lw_p1 : lw_okq (⟨"HalfDays$Rolls", "isListedWithin", "(IIII)Z"⟩, 6) := ⟨⟨by decide +kernel, by decide +kernel⟩, List.mem_of_getElem? (i := 97) (by decide +kernel), List.mem_of_getElem? (i := 604) (by decide +kernel), List.mem_of_getElem? (i := 605) (by decide +kernel)⟩
theorem lw_p2 : lw_okq (⟨"HalfDays", "markThatCounts", "(IIII)I"⟩, 6) := ⟨⟨by decide +kernel, by decide +kernel⟩, List.mem_of_getElem? (i := 19) (by decide +kernel), List.mem_of_getElem? (i := 661) (by decide +kernel), List.mem_of_getElem? (i := 662) (by decide +kernel)⟩
theorem lw_p3 : lw_okq (⟨"HalfDays$Asker", "strikeClauses", "(I)V"⟩, 19) := ⟨⟨by decide +kernel, by decide +kernel⟩, List.mem_of_getElem? (i := 399) (by decide +kernel), List.mem_of_getElem? (i := 683) (by decide +kernel), List.mem_of_getElem? (i := 684) (by decide +kernel)⟩
theorem lw_p4 : lw_okq (⟨"HalfDays$Asker", "isHolding", "(LHalfDays$Text;I)Z"⟩, 19) := ⟨⟨by decide +kernel, by decide +kernel⟩, List.mem_of_getElem? (i := 399) (by decide +kernel), List.mem_of_getElem? (i := 688) (by decide +kernel), List.mem_of_getElem? (i := 689) (by decide +kernel)⟩
theorem lw_p5 : lw_okq (⟨"HalfDays$Asker", "reckon", "([III)J"⟩, 19) := ⟨⟨by decide +kernel, by decide +kernel⟩, List.mem_of_getElem? (i := 399) (by decide +kernel), List.mem_of_getElem? (i := 692) (by decide +kernel), List.mem_of_getElem? (i := 693) (by decide +kernel)⟩
theorem lw_p6 : lw_okq (⟨"HalfDays$Asker", "wordsValue", "(I)I"⟩, 19) := ⟨⟨by decide +kernel, by decide +kernel⟩, List.mem_of_getElem? (i := 399) (by decide +kernel), List.mem_of_getElem? (i := 697) (by decide +kernel), List.mem_of_getElem? (i := 698) (by decide +kernel)⟩
theorem lw_p7 : lw_okq (⟨"HalfDays$Reader", "nextToken", "()V"⟩, 16) := ⟨⟨by decide +kernel, by decide +kernel⟩, List.mem_of_getElem? (i := 336) (by decide +kernel), List.mem_of_getElem? (i := 742) (by decide +kernel), List.mem_of_getElem? (i := 743) (by decide +kernel)⟩
theorem lw_p8 : lw_okq (⟨"HalfDays$Reader", "readHead", "()V"⟩, 16) := ⟨⟨by decide +kernel, by decide +kernel⟩, List.mem_of_getElem? (i := 336) (by decide +kernel), List.mem_of_getElem? (i := 747) (by decide +kernel), List.mem_of_getElem? (i := 748) (by decide +kernel)⟩
theorem lw_p9 : lw_okq (⟨"HalfDays$Reader", "takeLetter", "()I"⟩, 16) := ⟨⟨by decide +kernel, by decide +kernel⟩, List.mem_of_getElem? (i := 336) (by decide +kernel), List.mem_of_getElem? (i := 752) (by decide +kernel), List.mem_of_getElem? (i := 753) (by decide +kernel)⟩
theorem lw_p10 : lw_okq (⟨"HalfDays$Reader", "refuseToken", "()V"⟩, 16) := ⟨⟨by decide +kernel, by decide +kernel⟩, List.mem_of_getElem? (i := 336) (by decide +kernel), List.mem_of_getElem? (i := 756) (by decide +kernel), List.mem_of_getElem? (i := 757) (by decide +kernel)⟩
theorem lw_p11 : lw_okq (⟨"HalfDays$Reader", "takeKind", "()I"⟩, 16) := ⟨⟨by decide +kernel, by decide +kernel⟩, List.mem_of_getElem? (i := 336) (by decide +kernel), List.mem_of_getElem? (i := 760) (by decide +kernel), List.mem_of_getElem? (i := 761) (by decide +kernel)⟩
theorem lw_p12 : lw_okq (⟨"HalfDays$Reader", "wordAmong", "([J)I"⟩, 16) := ⟨⟨by decide +kernel, by decide +kernel⟩, List.mem_of_getElem? (i := 336) (by decide +kernel), List.mem_of_getElem? (i := 766) (by decide +kernel), List.mem_of_getElem? (i := 767) (by decide +kernel)⟩
theorem lw_p13 : lw_okq (⟨"HalfDays$Reader", "putHead", "(II)V"⟩, 16) := ⟨⟨by decide +kernel, by decide +kernel⟩, List.mem_of_getElem? (i := 336) (by decide +kernel), List.mem_of_getElem? (i := 770) (by decide +kernel), List.mem_of_getElem? (i := 771) (by decide +kernel)⟩
theorem lw_p14 : lw_okq (⟨"HalfDays$Reader", "readStepHead", "(IJ)V"⟩, 16) := ⟨⟨by decide +kernel, by decide +kernel⟩, List.mem_of_getElem? (i := 336) (by decide +kernel), List.mem_of_getElem? (i := 776) (by decide +kernel), List.mem_of_getElem? (i := 777) (by decide +kernel)⟩
theorem lw_p15 : lw_okq (⟨"HalfDays$Reader", "takeNumber", "(II)I"⟩, 16) := ⟨⟨by decide +kernel, by decide +kernel⟩, List.mem_of_getElem? (i := 336) (by decide +kernel), List.mem_of_getElem? (i := 780) (by decide +kernel), List.mem_of_getElem? (i := 781) (by decide +kernel)⟩
def lw_privs_1 : List (MethodName × Nat) := [(⟨"HalfDays", "answer", "(I)I"⟩, 6), (⟨"HalfDays$Rolls", "isListedWithin", "(IIII)Z"⟩, 6), (⟨"HalfDays", "markThatCounts", "(IIII)I"⟩, 6), (⟨"HalfDays$Asker", "strikeClauses", "(I)V"⟩, 19), (⟨"HalfDays$Asker", "isHolding", "(LHalfDays$Text;I)Z"⟩, 19), (⟨"HalfDays$Asker", "reckon", "([III)J"⟩, 19), (⟨"HalfDays$Asker", "wordsValue", "(I)I"⟩, 19), (⟨"HalfDays$Reader", "nextToken", "()V"⟩, 16), (⟨"HalfDays$Reader", "readHead", "()V"⟩, 16), (⟨"HalfDays$Reader", "takeLetter", "()I"⟩, 16), (⟨"HalfDays$Reader", "refuseToken", "()V"⟩, 16), (⟨"HalfDays$Reader", "takeKind", "()I"⟩, 16), (⟨"HalfDays$Reader", "wordAmong", "([J)I"⟩, 16), (⟨"HalfDays$Reader", "putHead", "(II)V"⟩, 16), (⟨"HalfDays$Reader", "readStepHead", "(IJ)V"⟩, 16), (⟨"HalfDays$Reader", "takeNumber", "(II)I"⟩, 16)]
theorem lw_r1 : ∀ q ∈ lw_privs_1, lw_okq q := List.forall_mem_cons.mpr ⟨lw_p0, List.forall_mem_cons.mpr ⟨lw_p1, List.forall_mem_cons.mpr ⟨lw_p2, List.forall_mem_cons.mpr ⟨lw_p3, List.forall_mem_cons.mpr ⟨lw_p4, List.forall_mem_cons.mpr ⟨lw_p5, List.forall_mem_cons.mpr ⟨lw_p6, List.forall_mem_cons.mpr ⟨lw_p7, List.forall_mem_cons.mpr ⟨lw_p8, List.forall_mem_cons.mpr ⟨lw_p9, List.forall_mem_cons.mpr ⟨lw_p10, List.forall_mem_cons.mpr ⟨lw_p11, List.forall_mem_cons.mpr ⟨lw_p12, List.forall_mem_cons.mpr ⟨lw_p13, List.forall_mem_cons.mpr ⟨lw_p14, List.forall_mem_cons.mpr ⟨lw_p15, fun _ h => absurd h List.not_mem_nil⟩⟩⟩⟩⟩⟩⟩⟩⟩⟩⟩⟩⟩⟩⟩⟩
theorem lw_p16 : lw_okq (⟨"HalfDays$Reader", "readSum", "(I)V"⟩, 16) := ⟨⟨by decide +kernel, by decide +kernel⟩, List.mem_of_getElem? (i := 336) (by decide +kernel), List.mem_of_getElem? (i := 785) (by decide +kernel), List.mem_of_getElem? (i := 786) (by decide +kernel)⟩
theorem lw_p17 : lw_okq (⟨"HalfDays$Reader", "readPart", "(I)V"⟩, 16) := ⟨⟨by decide +kernel, by decide +kernel⟩, List.mem_of_getElem? (i := 336) (by decide +kernel), List.mem_of_getElem? (i := 789) (by decide +kernel), List.mem_of_getElem? (i := 790) (by decide +kernel)⟩
theorem lw_p18 : lw_okq (⟨"HalfDays$Reader", "readLeaf", "(II)V"⟩, 16) := ⟨⟨by decide +kernel, by decide +kernel⟩, List.mem_of_getElem? (i := 336) (by decide +kernel), List.mem_of_getElem? (i := 795) (by decide +kernel), List.mem_of_getElem? (i := 796) (by decide +kernel)⟩
theorem lw_p19 : lw_okq (⟨"HalfDays$Reader", "emit", "(II)V"⟩, 16) := ⟨⟨by decide +kernel, by decide +kernel⟩, List.mem_of_getElem? (i := 336) (by decide +kernel), List.mem_of_getElem? (i := 799) (by decide +kernel), List.mem_of_getElem? (i := 800) (by decide +kernel)⟩
theorem lw_p20 : lw_okq (⟨"HalfDays$Reader", "isSign", "(I)Z"⟩, 16) := ⟨⟨by decide +kernel, by decide +kernel⟩, List.mem_of_getElem? (i := 336) (by decide +kernel), List.mem_of_getElem? (i := 803) (by decide +kernel), List.mem_of_getElem? (i := 804) (by decide +kernel)⟩
theorem lw_p21 : lw_okq (⟨"HalfDays$Reader", "closeBracket", "(I)V"⟩, 16) := ⟨⟨by decide +kernel, by decide +kernel⟩, List.mem_of_getElem? (i := 336) (by decide +kernel), List.mem_of_getElem? (i := 807) (by decide +kernel), List.mem_of_getElem? (i := 808) (by decide +kernel)⟩
theorem lw_p22 : lw_okq (⟨"HalfDays$Reader", "takeWord", "(J)V"⟩, 16) := ⟨⟨by decide +kernel, by decide +kernel⟩, List.mem_of_getElem? (i := 336) (by decide +kernel), List.mem_of_getElem? (i := 811) (by decide +kernel), List.mem_of_getElem? (i := 812) (by decide +kernel)⟩
theorem lw_p23 : lw_okq (⟨"HalfDays$Reader", "readTest", "(I)V"⟩, 16) := ⟨⟨by decide +kernel, by decide +kernel⟩, List.mem_of_getElem? (i := 336) (by decide +kernel), List.mem_of_getElem? (i := 822) (by decide +kernel), List.mem_of_getElem? (i := 823) (by decide +kernel)⟩
theorem lw_p24 : lw_okq (⟨"HalfDays$Reader", "readPlain", "(I)V"⟩, 16) := ⟨⟨by decide +kernel, by decide +kernel⟩, List.mem_of_getElem? (i := 336) (by decide +kernel), List.mem_of_getElem? (i := 826) (by decide +kernel), List.mem_of_getElem? (i := 827) (by decide +kernel)⟩
theorem lw_p25 : lw_okq (⟨"HalfDays$Reader", "landJump", "(I)V"⟩, 16) := ⟨⟨by decide +kernel, by decide +kernel⟩, List.mem_of_getElem? (i := 336) (by decide +kernel), List.mem_of_getElem? (i := 833) (by decide +kernel), List.mem_of_getElem? (i := 834) (by decide +kernel)⟩
theorem lw_p26 : lw_okq (⟨"HalfDays$Asker", "awayWithin", "(II)I"⟩, 19) := ⟨⟨by decide +kernel, by decide +kernel⟩, List.mem_of_getElem? (i := 399) (by decide +kernel), List.mem_of_getElem? (i := 947) (by decide +kernel), List.mem_of_getElem? (i := 948) (by decide +kernel)⟩
theorem lw_p27 : lw_okq (⟨"HalfDays$Choices", "noteLikeness", "(I)V"⟩, 14) := ⟨⟨by decide +kernel, by decide +kernel⟩, List.mem_of_getElem? (i := 465) (by decide +kernel), List.mem_of_getElem? (i := 1033) (by decide +kernel), List.mem_of_getElem? (i := 1034) (by decide +kernel)⟩
theorem lw_p28 : lw_okq (⟨"HalfDays$Choices", "weighJoins", "(II)V"⟩, 14) := ⟨⟨by decide +kernel, by decide +kernel⟩, List.mem_of_getElem? (i := 465) (by decide +kernel), List.mem_of_getElem? (i := 1040) (by decide +kernel), List.mem_of_getElem? (i := 1041) (by decide +kernel)⟩
theorem lw_p29 : lw_okq (⟨"HalfDays$Choices", "scoreWith", "(III)I"⟩, 14) := ⟨⟨by decide +kernel, by decide +kernel⟩, List.mem_of_getElem? (i := 465) (by decide +kernel), List.mem_of_getElem? (i := 1044) (by decide +kernel), List.mem_of_getElem? (i := 1045) (by decide +kernel)⟩
theorem lw_p30 : lw_okq (⟨"HalfDays$Choices", "keepFirstBest", "()V"⟩, 14) := ⟨⟨by decide +kernel, by decide +kernel⟩, List.mem_of_getElem? (i := 465) (by decide +kernel), List.mem_of_getElem? (i := 1048) (by decide +kernel), List.mem_of_getElem? (i := 1049) (by decide +kernel)⟩
theorem lw_p31 : lw_okq (⟨"HalfDays$Choices", "noteWays", "(II)V"⟩, 14) := ⟨⟨by decide +kernel, by decide +kernel⟩, List.mem_of_getElem? (i := 465) (by decide +kernel), List.mem_of_getElem? (i := 1088) (by decide +kernel), List.mem_of_getElem? (i := 1089) (by decide +kernel)⟩
def lw_privs_2 : List (MethodName × Nat) := [(⟨"HalfDays$Reader", "readSum", "(I)V"⟩, 16), (⟨"HalfDays$Reader", "readPart", "(I)V"⟩, 16), (⟨"HalfDays$Reader", "readLeaf", "(II)V"⟩, 16), (⟨"HalfDays$Reader", "emit", "(II)V"⟩, 16), (⟨"HalfDays$Reader", "isSign", "(I)Z"⟩, 16), (⟨"HalfDays$Reader", "closeBracket", "(I)V"⟩, 16), (⟨"HalfDays$Reader", "takeWord", "(J)V"⟩, 16), (⟨"HalfDays$Reader", "readTest", "(I)V"⟩, 16), (⟨"HalfDays$Reader", "readPlain", "(I)V"⟩, 16), (⟨"HalfDays$Reader", "landJump", "(I)V"⟩, 16), (⟨"HalfDays$Asker", "awayWithin", "(II)I"⟩, 19), (⟨"HalfDays$Choices", "noteLikeness", "(I)V"⟩, 14), (⟨"HalfDays$Choices", "weighJoins", "(II)V"⟩, 14), (⟨"HalfDays$Choices", "scoreWith", "(III)I"⟩, 14), (⟨"HalfDays$Choices", "keepFirstBest", "()V"⟩, 14), (⟨"HalfDays$Choices", "noteWays", "(II)V"⟩, 14)]
theorem lw_r2 : ∀ q ∈ lw_privs_2, lw_okq q := List.forall_mem_cons.mpr ⟨lw_p16, List.forall_mem_cons.mpr ⟨lw_p17, List.forall_mem_cons.mpr ⟨lw_p18, List.forall_mem_cons.mpr ⟨lw_p19, List.forall_mem_cons.mpr ⟨lw_p20, List.forall_mem_cons.mpr ⟨lw_p21, List.forall_mem_cons.mpr ⟨lw_p22, List.forall_mem_cons.mpr ⟨lw_p23, List.forall_mem_cons.mpr ⟨lw_p24, List.forall_mem_cons.mpr ⟨lw_p25, List.forall_mem_cons.mpr ⟨lw_p26, List.forall_mem_cons.mpr ⟨lw_p27, List.forall_mem_cons.mpr ⟨lw_p28, List.forall_mem_cons.mpr ⟨lw_p29, List.forall_mem_cons.mpr ⟨lw_p30, List.forall_mem_cons.mpr ⟨lw_p31, fun _ h => absurd h List.not_mem_nil⟩⟩⟩⟩⟩⟩⟩⟩⟩⟩⟩⟩⟩⟩⟩⟩
theorem lw_p32 : lw_okq (⟨"HalfDays$Choices", "wayFrom", "(III)I"⟩, 14) := ⟨⟨by decide +kernel, by decide +kernel⟩, List.mem_of_getElem? (i := 465) (by decide +kernel), List.mem_of_getElem? (i := 1092) (by decide +kernel), List.mem_of_getElem? (i := 1093) (by decide +kernel)⟩
theorem lw_p33 : lw_okq (⟨"HalfDays$Choices", "fewestMinutes", "(I)I"⟩, 14) := ⟨⟨by decide +kernel, by decide +kernel⟩, List.mem_of_getElem? (i := 465) (by decide +kernel), List.mem_of_getElem? (i := 1099) (by decide +kernel), List.mem_of_getElem? (i := 1100) (by decide +kernel)⟩
theorem lw_p34 : lw_okq (⟨"HalfDays$Choices", "worthOf", "(I)I"⟩, 14) := ⟨⟨by decide +kernel, by decide +kernel⟩, List.mem_of_getElem? (i := 465) (by decide +kernel), List.mem_of_getElem? (i := 1105) (by decide +kernel), List.mem_of_getElem? (i := 1106) (by decide +kernel)⟩
theorem lw_p35 : lw_okq (⟨"HalfDays$Marks", "sumDay", "(I)I"⟩, 15) := ⟨⟨by decide +kernel, by decide +kernel⟩, List.mem_of_getElem? (i := 126) (by decide +kernel), List.mem_of_getElem? (i := 1164) (by decide +kernel), List.mem_of_getElem? (i := 1165) (by decide +kernel)⟩
theorem lw_p36 : lw_okq (⟨"HalfDays$Marks", "numberOf", "(I)I"⟩, 15) := ⟨⟨by decide +kernel, by decide +kernel⟩, List.mem_of_getElem? (i := 126) (by decide +kernel), List.mem_of_getElem? (i := 1168) (by decide +kernel), List.mem_of_getElem? (i := 1169) (by decide +kernel)⟩
theorem lw_p37 : lw_okq (⟨"HalfDays$Marks", "markAtPlace", "(II)I"⟩, 15) := ⟨⟨by decide +kernel, by decide +kernel⟩, List.mem_of_getElem? (i := 126) (by decide +kernel), List.mem_of_getElem? (i := 1188) (by decide +kernel), List.mem_of_getElem? (i := 1189) (by decide +kernel)⟩
theorem lw_p38 : lw_okq (⟨"HalfDaysModel", "told", "(I)I"⟩, 56) := ⟨⟨by decide +kernel, by decide +kernel⟩, List.mem_of_getElem? (i := 1246) (by decide +kernel), List.mem_of_getElem? (i := 1430) (by decide +kernel), List.mem_of_getElem? (i := 1431) (by decide +kernel)⟩
theorem lw_p39 : lw_okq (⟨"HalfDaysModel", "addFour", "(IIIII)V"⟩, 56) := ⟨⟨by decide +kernel, by decide +kernel⟩, List.mem_of_getElem? (i := 1246) (by decide +kernel), List.mem_of_getElem? (i := 1450) (by decide +kernel), List.mem_of_getElem? (i := 1451) (by decide +kernel)⟩
theorem lw_p40 : lw_okq (⟨"HalfDaysModel", "isSchool", "(I)Z"⟩, 56) := ⟨⟨by decide +kernel, by decide +kernel⟩, List.mem_of_getElem? (i := 1246) (by decide +kernel), List.mem_of_getElem? (i := 1466) (by decide +kernel), List.mem_of_getElem? (i := 1467) (by decide +kernel)⟩
theorem lw_p41 : lw_okq (⟨"HalfDaysModel", "isChild", "(I)Z"⟩, 56) := ⟨⟨by decide +kernel, by decide +kernel⟩, List.mem_of_getElem? (i := 1246) (by decide +kernel), List.mem_of_getElem? (i := 1474) (by decide +kernel), List.mem_of_getElem? (i := 1475) (by decide +kernel)⟩
theorem lw_p42 : lw_okq (⟨"HalfDaysModel", "isOnRoll", "(II)Z"⟩, 56) := ⟨⟨by decide +kernel, by decide +kernel⟩, List.mem_of_getElem? (i := 1246) (by decide +kernel), List.mem_of_getElem? (i := 1478) (by decide +kernel), List.mem_of_getElem? (i := 1479) (by decide +kernel)⟩
theorem lw_p43 : lw_okq (⟨"HalfDaysModel", "isOnSchool", "(III)Z"⟩, 56) := ⟨⟨by decide +kernel, by decide +kernel⟩, List.mem_of_getElem? (i := 1246) (by decide +kernel), List.mem_of_getElem? (i := 1490) (by decide +kernel), List.mem_of_getElem? (i := 1491) (by decide +kernel)⟩
theorem lw_p44 : lw_okq (⟨"HalfDaysModel", "hasFailed", "(II)Z"⟩, 56) := ⟨⟨by decide +kernel, by decide +kernel⟩, List.mem_of_getElem? (i := 1246) (by decide +kernel), List.mem_of_getElem? (i := 1502) (by decide +kernel), List.mem_of_getElem? (i := 1503) (by decide +kernel)⟩
theorem lw_p45 : lw_okq (⟨"HalfDaysModel", "isMark", "(I)Z"⟩, 56) := ⟨⟨by decide +kernel, by decide +kernel⟩, List.mem_of_getElem? (i := 1246) (by decide +kernel), List.mem_of_getElem? (i := 1523) (by decide +kernel), List.mem_of_getElem? (i := 1524) (by decide +kernel)⟩
theorem lw_p46 : lw_okq (⟨"HalfDaysModel", "knowBy", "(I)V"⟩, 56) := ⟨⟨by decide +kernel, by decide +kernel⟩, List.mem_of_getElem? (i := 1246) (by decide +kernel), List.mem_of_getElem? (i := 1532) (by decide +kernel), List.mem_of_getElem? (i := 1533) (by decide +kernel)⟩
theorem lw_p47 : lw_okq (⟨"HalfDaysModel", "findKinds", "()V"⟩, 56) := ⟨⟨by decide +kernel, by decide +kernel⟩, List.mem_of_getElem? (i := 1246) (by decide +kernel), List.mem_of_getElem? (i := 1536) (by decide +kernel), List.mem_of_getElem? (i := 1537) (by decide +kernel)⟩
def lw_privs_3 : List (MethodName × Nat) := [(⟨"HalfDays$Choices", "wayFrom", "(III)I"⟩, 14), (⟨"HalfDays$Choices", "fewestMinutes", "(I)I"⟩, 14), (⟨"HalfDays$Choices", "worthOf", "(I)I"⟩, 14), (⟨"HalfDays$Marks", "sumDay", "(I)I"⟩, 15), (⟨"HalfDays$Marks", "numberOf", "(I)I"⟩, 15), (⟨"HalfDays$Marks", "markAtPlace", "(II)I"⟩, 15), (⟨"HalfDaysModel", "told", "(I)I"⟩, 56), (⟨"HalfDaysModel", "addFour", "(IIIII)V"⟩, 56), (⟨"HalfDaysModel", "isSchool", "(I)Z"⟩, 56), (⟨"HalfDaysModel", "isChild", "(I)Z"⟩, 56), (⟨"HalfDaysModel", "isOnRoll", "(II)Z"⟩, 56), (⟨"HalfDaysModel", "isOnSchool", "(III)Z"⟩, 56), (⟨"HalfDaysModel", "hasFailed", "(II)Z"⟩, 56), (⟨"HalfDaysModel", "isMark", "(I)Z"⟩, 56), (⟨"HalfDaysModel", "knowBy", "(I)V"⟩, 56), (⟨"HalfDaysModel", "findKinds", "()V"⟩, 56)]
theorem lw_r3 : ∀ q ∈ lw_privs_3, lw_okq q := List.forall_mem_cons.mpr ⟨lw_p32, List.forall_mem_cons.mpr ⟨lw_p33, List.forall_mem_cons.mpr ⟨lw_p34, List.forall_mem_cons.mpr ⟨lw_p35, List.forall_mem_cons.mpr ⟨lw_p36, List.forall_mem_cons.mpr ⟨lw_p37, List.forall_mem_cons.mpr ⟨lw_p38, List.forall_mem_cons.mpr ⟨lw_p39, List.forall_mem_cons.mpr ⟨lw_p40, List.forall_mem_cons.mpr ⟨lw_p41, List.forall_mem_cons.mpr ⟨lw_p42, List.forall_mem_cons.mpr ⟨lw_p43, List.forall_mem_cons.mpr ⟨lw_p44, List.forall_mem_cons.mpr ⟨lw_p45, List.forall_mem_cons.mpr ⟨lw_p46, List.forall_mem_cons.mpr ⟨lw_p47, fun _ h => absurd h List.not_mem_nil⟩⟩⟩⟩⟩⟩⟩⟩⟩⟩⟩⟩⟩⟩⟩⟩
theorem lw_p48 : lw_okq (⟨"HalfDaysModel", "findForce", "(I)V"⟩, 56) := ⟨⟨by decide +kernel, by decide +kernel⟩, List.mem_of_getElem? (i := 1246) (by decide +kernel), List.mem_of_getElem? (i := 1540) (by decide +kernel), List.mem_of_getElem? (i := 1541) (by decide +kernel)⟩
theorem lw_p49 : lw_okq (⟨"HalfDaysModel", "setFor", "(II)V"⟩, 56) := ⟨⟨by decide +kernel, by decide +kernel⟩, List.mem_of_getElem? (i := 1246) (by decide +kernel), List.mem_of_getElem? (i := 1550) (by decide +kernel), List.mem_of_getElem? (i := 1551) (by decide +kernel)⟩
theorem lw_p50 : lw_okq (⟨"HalfDaysModel", "hasOn", "(III)Z"⟩, 56) := ⟨⟨by decide +kernel, by decide +kernel⟩, List.mem_of_getElem? (i := 1246) (by decide +kernel), List.mem_of_getElem? (i := 1554) (by decide +kernel), List.mem_of_getElem? (i := 1555) (by decide +kernel)⟩
theorem lw_p51 : lw_okq (⟨"HalfDaysModel", "find", "(III)Z"⟩, 56) := ⟨⟨by decide +kernel, by decide +kernel⟩, List.mem_of_getElem? (i := 1246) (by decide +kernel), List.mem_of_getElem? (i := 1558) (by decide +kernel), List.mem_of_getElem? (i := 1559) (by decide +kernel)⟩
theorem lw_p52 : lw_okq (⟨"HalfDaysModel", "isSo", "(II)Z"⟩, 56) := ⟨⟨by decide +kernel, by decide +kernel⟩, List.mem_of_getElem? (i := 1246) (by decide +kernel), List.mem_of_getElem? (i := 1562) (by decide +kernel), List.mem_of_getElem? (i := 1563) (by decide +kernel)⟩
theorem lw_p53 : lw_okq (⟨"HalfDaysModel", "run", "(III)V"⟩, 56) := ⟨⟨by decide +kernel, by decide +kernel⟩, List.mem_of_getElem? (i := 1246) (by decide +kernel), List.mem_of_getElem? (i := 1566) (by decide +kernel), List.mem_of_getElem? (i := 1567) (by decide +kernel)⟩
theorem lw_p54 : lw_okq (⟨"HalfDaysModel", "reckon", "(IJJ)J"⟩, 56) := ⟨⟨by decide +kernel, by decide +kernel⟩, List.mem_of_getElem? (i := 1246) (by decide +kernel), List.mem_of_getElem? (i := 1570) (by decide +kernel), List.mem_of_getElem? (i := 1571) (by decide +kernel)⟩
theorem lw_p55 : lw_okq (⟨"HalfDaysModel", "countsIn", "(III)I"⟩, 56) := ⟨⟨by decide +kernel, by decide +kernel⟩, List.mem_of_getElem? (i := 1246) (by decide +kernel), List.mem_of_getElem? (i := 1576) (by decide +kernel), List.mem_of_getElem? (i := 1577) (by decide +kernel)⟩
theorem lw_p56 : lw_okq (⟨"HalfDaysModel", "four", "(I)V"⟩, 56) := ⟨⟨by decide +kernel, by decide +kernel⟩, List.mem_of_getElem? (i := 1246) (by decide +kernel), List.mem_of_getElem? (i := 1588) (by decide +kernel), List.mem_of_getElem? (i := 1589) (by decide +kernel)⟩
theorem lw_p57 : lw_okq (⟨"HalfDaysModel", "readText", "(I)Z"⟩, 56) := ⟨⟨by decide +kernel, by decide +kernel⟩, List.mem_of_getElem? (i := 1246) (by decide +kernel), List.mem_of_getElem? (i := 1604) (by decide +kernel), List.mem_of_getElem? (i := 1605) (by decide +kernel)⟩
theorem lw_p58 : lw_okq (⟨"HalfDaysModel", "begin", "()V"⟩, 56) := ⟨⟨by decide +kernel, by decide +kernel⟩, List.mem_of_getElem? (i := 1246) (by decide +kernel), List.mem_of_getElem? (i := 1608) (by decide +kernel), List.mem_of_getElem? (i := 1609) (by decide +kernel)⟩
theorem lw_p59 : lw_okq (⟨"HalfDaysModel", "next", "()V"⟩, 56) := ⟨⟨by decide +kernel, by decide +kernel⟩, List.mem_of_getElem? (i := 1246) (by decide +kernel), List.mem_of_getElem? (i := 1612) (by decide +kernel), List.mem_of_getElem? (i := 1613) (by decide +kernel)⟩
theorem lw_p60 : lw_okq (⟨"HalfDaysModel", "readClause", "()V"⟩, 56) := ⟨⟨by decide +kernel, by decide +kernel⟩, List.mem_of_getElem? (i := 1246) (by decide +kernel), List.mem_of_getElem? (i := 1627) (by decide +kernel), List.mem_of_getElem? (i := 1628) (by decide +kernel)⟩
theorem lw_p61 : lw_okq (⟨"HalfDaysModel", "headAt", "()I"⟩, 56) := ⟨⟨by decide +kernel, by decide +kernel⟩, List.mem_of_getElem? (i := 1246) (by decide +kernel), List.mem_of_getElem? (i := 1631) (by decide +kernel), List.mem_of_getElem? (i := 1632) (by decide +kernel)⟩
theorem lw_p62 : lw_okq (⟨"HalfDaysModel", "isWord", "(J)Z"⟩, 56) := ⟨⟨by decide +kernel, by decide +kernel⟩, List.mem_of_getElem? (i := 1246) (by decide +kernel), List.mem_of_getElem? (i := 1636) (by decide +kernel), List.mem_of_getElem? (i := 1637) (by decide +kernel)⟩
theorem lw_p63 : lw_okq (⟨"HalfDaysModel", "must", "(Z)V"⟩, 56) := ⟨⟨by decide +kernel, by decide +kernel⟩, List.mem_of_getElem? (i := 1246) (by decide +kernel), List.mem_of_getElem? (i := 1645) (by decide +kernel), List.mem_of_getElem? (i := 1646) (by decide +kernel)⟩
def lw_privs_4 : List (MethodName × Nat) := [(⟨"HalfDaysModel", "findForce", "(I)V"⟩, 56), (⟨"HalfDaysModel", "setFor", "(II)V"⟩, 56), (⟨"HalfDaysModel", "hasOn", "(III)Z"⟩, 56), (⟨"HalfDaysModel", "find", "(III)Z"⟩, 56), (⟨"HalfDaysModel", "isSo", "(II)Z"⟩, 56), (⟨"HalfDaysModel", "run", "(III)V"⟩, 56), (⟨"HalfDaysModel", "reckon", "(IJJ)J"⟩, 56), (⟨"HalfDaysModel", "countsIn", "(III)I"⟩, 56), (⟨"HalfDaysModel", "four", "(I)V"⟩, 56), (⟨"HalfDaysModel", "readText", "(I)Z"⟩, 56), (⟨"HalfDaysModel", "begin", "()V"⟩, 56), (⟨"HalfDaysModel", "next", "()V"⟩, 56), (⟨"HalfDaysModel", "readClause", "()V"⟩, 56), (⟨"HalfDaysModel", "headAt", "()I"⟩, 56), (⟨"HalfDaysModel", "isWord", "(J)Z"⟩, 56), (⟨"HalfDaysModel", "must", "(Z)V"⟩, 56)]
theorem lw_r4 : ∀ q ∈ lw_privs_4, lw_okq q := List.forall_mem_cons.mpr ⟨lw_p48, List.forall_mem_cons.mpr ⟨lw_p49, List.forall_mem_cons.mpr ⟨lw_p50, List.forall_mem_cons.mpr ⟨lw_p51, List.forall_mem_cons.mpr ⟨lw_p52, List.forall_mem_cons.mpr ⟨lw_p53, List.forall_mem_cons.mpr ⟨lw_p54, List.forall_mem_cons.mpr ⟨lw_p55, List.forall_mem_cons.mpr ⟨lw_p56, List.forall_mem_cons.mpr ⟨lw_p57, List.forall_mem_cons.mpr ⟨lw_p58, List.forall_mem_cons.mpr ⟨lw_p59, List.forall_mem_cons.mpr ⟨lw_p60, List.forall_mem_cons.mpr ⟨lw_p61, List.forall_mem_cons.mpr ⟨lw_p62, List.forall_mem_cons.mpr ⟨lw_p63, fun _ h => absurd h List.not_mem_nil⟩⟩⟩⟩⟩⟩⟩⟩⟩⟩⟩⟩⟩⟩⟩⟩
theorem lw_p64 : lw_okq (⟨"HalfDaysModel", "number", "(JJ)I"⟩, 56) := ⟨⟨by decide +kernel, by decide +kernel⟩, List.mem_of_getElem? (i := 1246) (by decide +kernel), List.mem_of_getElem? (i := 1650) (by decide +kernel), List.mem_of_getElem? (i := 1651) (by decide +kernel)⟩
theorem lw_p65 : lw_okq (⟨"HalfDaysModel", "letter", "()I"⟩, 56) := ⟨⟨by decide +kernel, by decide +kernel⟩, List.mem_of_getElem? (i := 1246) (by decide +kernel), List.mem_of_getElem? (i := 1656) (by decide +kernel), List.mem_of_getElem? (i := 1657) (by decide +kernel)⟩
theorem lw_p66 : lw_okq (⟨"HalfDaysModel", "kind", "()I"⟩, 56) := ⟨⟨by decide +kernel, by decide +kernel⟩, List.mem_of_getElem? (i := 1246) (by decide +kernel), List.mem_of_getElem? (i := 1660) (by decide +kernel), List.mem_of_getElem? (i := 1661) (by decide +kernel)⟩
theorem lw_p67 : lw_okq (⟨"HalfDaysModel", "readExpression", "(Z)V"⟩, 56) := ⟨⟨by decide +kernel, by decide +kernel⟩, List.mem_of_getElem? (i := 1246) (by decide +kernel), List.mem_of_getElem? (i := 1669) (by decide +kernel), List.mem_of_getElem? (i := 1670) (by decide +kernel)⟩
theorem lw_p68 : lw_okq (⟨"HalfDaysModel", "readPlain", "()I"⟩, 56) := ⟨⟨by decide +kernel, by decide +kernel⟩, List.mem_of_getElem? (i := 1246) (by decide +kernel), List.mem_of_getElem? (i := 1673) (by decide +kernel), List.mem_of_getElem? (i := 1674) (by decide +kernel)⟩
theorem lw_p69 : lw_okq (⟨"HalfDaysModel", "push", "(II)V"⟩, 56) := ⟨⟨by decide +kernel, by decide +kernel⟩, List.mem_of_getElem? (i := 1246) (by decide +kernel), List.mem_of_getElem? (i := 1678) (by decide +kernel), List.mem_of_getElem? (i := 1679) (by decide +kernel)⟩
theorem lw_p70 : lw_okq (⟨"HalfDaysModel", "isSign", "(I)Z"⟩, 56) := ⟨⟨by decide +kernel, by decide +kernel⟩, List.mem_of_getElem? (i := 1246) (by decide +kernel), List.mem_of_getElem? (i := 1682) (by decide +kernel), List.mem_of_getElem? (i := 1683) (by decide +kernel)⟩
theorem lw_p71 : lw_okq (⟨"HalfDaysModel", "open", "(I)V"⟩, 56) := ⟨⟨by decide +kernel, by decide +kernel⟩, List.mem_of_getElem? (i := 1246) (by decide +kernel), List.mem_of_getElem? (i := 1686) (by decide +kernel), List.mem_of_getElem? (i := 1687) (by decide +kernel)⟩
theorem lw_p72 : lw_okq (⟨"HalfDaysModel", "plainAt", "()I"⟩, 56) := ⟨⟨by decide +kernel, by decide +kernel⟩, List.mem_of_getElem? (i := 1246) (by decide +kernel), List.mem_of_getElem? (i := 1690) (by decide +kernel), List.mem_of_getElem? (i := 1691) (by decide +kernel)⟩
theorem lw_p73 : lw_okq (⟨"HalfDaysModel", "leaf", "(ZII)V"⟩, 56) := ⟨⟨by decide +kernel, by decide +kernel⟩, List.mem_of_getElem? (i := 1246) (by decide +kernel), List.mem_of_getElem? (i := 1698) (by decide +kernel), List.mem_of_getElem? (i := 1699) (by decide +kernel)⟩
theorem lw_p74 : lw_okq (⟨"HalfDaysModel", "emit", "(II)V"⟩, 56) := ⟨⟨by decide +kernel, by decide +kernel⟩, List.mem_of_getElem? (i := 1246) (by decide +kernel), List.mem_of_getElem? (i := 1702) (by decide +kernel), List.mem_of_getElem? (i := 1703) (by decide +kernel)⟩
theorem lw_p75 : lw_okq (⟨"HalfDaysModel", "readPart", "()I"⟩, 56) := ⟨⟨by decide +kernel, by decide +kernel⟩, List.mem_of_getElem? (i := 1246) (by decide +kernel), List.mem_of_getElem? (i := 1706) (by decide +kernel), List.mem_of_getElem? (i := 1707) (by decide +kernel)⟩
theorem lw_p76 : lw_okq (⟨"HalfDaysModel", "partAt", "()I"⟩, 56) := ⟨⟨by decide +kernel, by decide +kernel⟩, List.mem_of_getElem? (i := 1246) (by decide +kernel), List.mem_of_getElem? (i := 1710) (by decide +kernel), List.mem_of_getElem? (i := 1711) (by decide +kernel)⟩
theorem lw_p77 : lw_okq (⟨"HalfDaysModel", "behindSum", "(Z)I"⟩, 56) := ⟨⟨by decide +kernel, by decide +kernel⟩, List.mem_of_getElem? (i := 1246) (by decide +kernel), List.mem_of_getElem? (i := 1722) (by decide +kernel), List.mem_of_getElem? (i := 1723) (by decide +kernel)⟩
theorem lw_p78 : lw_okq (⟨"HalfDaysModel", "settle", "(I)V"⟩, 56) := ⟨⟨by decide +kernel, by decide +kernel⟩, List.mem_of_getElem? (i := 1246) (by decide +kernel), List.mem_of_getElem? (i := 1729) (by decide +kernel), List.mem_of_getElem? (i := 1730) (by decide +kernel)⟩
theorem lw_p79 : lw_okq (⟨"HalfDaysModel", "inner", "()I"⟩, 56) := ⟨⟨by decide +kernel, by decide +kernel⟩, List.mem_of_getElem? (i := 1246) (by decide +kernel), List.mem_of_getElem? (i := 1733) (by decide +kernel), List.mem_of_getElem? (i := 1734) (by decide +kernel)⟩
def lw_privs_5 : List (MethodName × Nat) := [(⟨"HalfDaysModel", "number", "(JJ)I"⟩, 56), (⟨"HalfDaysModel", "letter", "()I"⟩, 56), (⟨"HalfDaysModel", "kind", "()I"⟩, 56), (⟨"HalfDaysModel", "readExpression", "(Z)V"⟩, 56), (⟨"HalfDaysModel", "readPlain", "()I"⟩, 56), (⟨"HalfDaysModel", "push", "(II)V"⟩, 56), (⟨"HalfDaysModel", "isSign", "(I)Z"⟩, 56), (⟨"HalfDaysModel", "open", "(I)V"⟩, 56), (⟨"HalfDaysModel", "plainAt", "()I"⟩, 56), (⟨"HalfDaysModel", "leaf", "(ZII)V"⟩, 56), (⟨"HalfDaysModel", "emit", "(II)V"⟩, 56), (⟨"HalfDaysModel", "readPart", "()I"⟩, 56), (⟨"HalfDaysModel", "partAt", "()I"⟩, 56), (⟨"HalfDaysModel", "behindSum", "(Z)I"⟩, 56), (⟨"HalfDaysModel", "settle", "(I)V"⟩, 56), (⟨"HalfDaysModel", "inner", "()I"⟩, 56)]
theorem lw_r5 : ∀ q ∈ lw_privs_5, lw_okq q := List.forall_mem_cons.mpr ⟨lw_p64, List.forall_mem_cons.mpr ⟨lw_p65, List.forall_mem_cons.mpr ⟨lw_p66, List.forall_mem_cons.mpr ⟨lw_p67, List.forall_mem_cons.mpr ⟨lw_p68, List.forall_mem_cons.mpr ⟨lw_p69, List.forall_mem_cons.mpr ⟨lw_p70, List.forall_mem_cons.mpr ⟨lw_p71, List.forall_mem_cons.mpr ⟨lw_p72, List.forall_mem_cons.mpr ⟨lw_p73, List.forall_mem_cons.mpr ⟨lw_p74, List.forall_mem_cons.mpr ⟨lw_p75, List.forall_mem_cons.mpr ⟨lw_p76, List.forall_mem_cons.mpr ⟨lw_p77, List.forall_mem_cons.mpr ⟨lw_p78, List.forall_mem_cons.mpr ⟨lw_p79, fun _ h => absurd h List.not_mem_nil⟩⟩⟩⟩⟩⟩⟩⟩⟩⟩⟩⟩⟩⟩⟩⟩
theorem lw_p80 : lw_okq (⟨"HalfDaysModel", "isCompared", "()Z"⟩, 56) := ⟨⟨by decide +kernel, by decide +kernel⟩, List.mem_of_getElem? (i := 1246) (by decide +kernel), List.mem_of_getElem? (i := 1737) (by decide +kernel), List.mem_of_getElem? (i := 1738) (by decide +kernel)⟩
theorem lw_p81 : lw_okq (⟨"HalfDaysModel", "behindTest", "()I"⟩, 56) := ⟨⟨by decide +kernel, by decide +kernel⟩, List.mem_of_getElem? (i := 1246) (by decide +kernel), List.mem_of_getElem? (i := 1745) (by decide +kernel), List.mem_of_getElem? (i := 1746) (by decide +kernel)⟩
theorem lw_p82 : lw_okq (⟨"HalfDaysModel", "addUp", "(IIII)V"⟩, 56) := ⟨⟨by decide +kernel, by decide +kernel⟩, List.mem_of_getElem? (i := 1246) (by decide +kernel), List.mem_of_getElem? (i := 1763) (by decide +kernel), List.mem_of_getElem? (i := 1764) (by decide +kernel)⟩
theorem lw_p83 : lw_okq (⟨"HalfDaysModel", "tellRate", "(I)I"⟩, 56) := ⟨⟨by decide +kernel, by decide +kernel⟩, List.mem_of_getElem? (i := 1246) (by decide +kernel), List.mem_of_getElem? (i := 1767) (by decide +kernel), List.mem_of_getElem? (i := 1768) (by decide +kernel)⟩
theorem lw_p84 : lw_okq (⟨"HalfDaysModel", "findSessions", "(I)V"⟩, 56) := ⟨⟨by decide +kernel, by decide +kernel⟩, List.mem_of_getElem? (i := 1246) (by decide +kernel), List.mem_of_getElem? (i := 1785) (by decide +kernel), List.mem_of_getElem? (i := 1786) (by decide +kernel)⟩
theorem lw_p85 : lw_okq (⟨"HalfDaysModel", "dueOf", "(III)I"⟩, 56) := ⟨⟨by decide +kernel, by decide +kernel⟩, List.mem_of_getElem? (i := 1246) (by decide +kernel), List.mem_of_getElem? (i := 1789) (by decide +kernel), List.mem_of_getElem? (i := 1790) (by decide +kernel)⟩
theorem lw_p86 : lw_okq (⟨"HalfDaysModel", "setDay", "(II)V"⟩, 56) := ⟨⟨by decide +kernel, by decide +kernel⟩, List.mem_of_getElem? (i := 1246) (by decide +kernel), List.mem_of_getElem? (i := 1793) (by decide +kernel), List.mem_of_getElem? (i := 1794) (by decide +kernel)⟩
theorem lw_p87 : lw_okq (⟨"HalfDaysModel", "takenOn", "(II)I"⟩, 56) := ⟨⟨by decide +kernel, by decide +kernel⟩, List.mem_of_getElem? (i := 1246) (by decide +kernel), List.mem_of_getElem? (i := 1801) (by decide +kernel), List.mem_of_getElem? (i := 1802) (by decide +kernel)⟩
theorem lw_p88 : lw_okq (⟨"HalfDaysModel", "dueFrom", "(II)I"⟩, 56) := ⟨⟨by decide +kernel, by decide +kernel⟩, List.mem_of_getElem? (i := 1246) (by decide +kernel), List.mem_of_getElem? (i := 1805) (by decide +kernel), List.mem_of_getElem? (i := 1806) (by decide +kernel)⟩
theorem lw_p89 : lw_okq (⟨"HalfDaysModel", "doesStand", "(III)Z"⟩, 56) := ⟨⟨by decide +kernel, by decide +kernel⟩, List.mem_of_getElem? (i := 1246) (by decide +kernel), List.mem_of_getElem? (i := 1813) (by decide +kernel), List.mem_of_getElem? (i := 1814) (by decide +kernel)⟩
theorem lw_p90 : lw_okq (⟨"HalfDaysModel", "fineOf", "(II)I"⟩, 56) := ⟨⟨by decide +kernel, by decide +kernel⟩, List.mem_of_getElem? (i := 1246) (by decide +kernel), List.mem_of_getElem? (i := 1821) (by decide +kernel), List.mem_of_getElem? (i := 1822) (by decide +kernel)⟩
theorem lw_p91 : lw_okq (⟨"HalfDaysModel", "rollsOf", "(II)I"⟩, 56) := ⟨⟨by decide +kernel, by decide +kernel⟩, List.mem_of_getElem? (i := 1246) (by decide +kernel), List.mem_of_getElem? (i := 1840) (by decide +kernel), List.mem_of_getElem? (i := 1841) (by decide +kernel)⟩
theorem lw_p92 : lw_okq (⟨"HalfDaysModel", "isLost", "(II)Z"⟩, 56) := ⟨⟨by decide +kernel, by decide +kernel⟩, List.mem_of_getElem? (i := 1246) (by decide +kernel), List.mem_of_getElem? (i := 1844) (by decide +kernel), List.mem_of_getElem? (i := 1845) (by decide +kernel)⟩
theorem lw_p93 : lw_okq (⟨"HalfDaysModel", "isJoin", "(I)Z"⟩, 56) := ⟨⟨by decide +kernel, by decide +kernel⟩, List.mem_of_getElem? (i := 1246) (by decide +kernel), List.mem_of_getElem? (i := 1866) (by decide +kernel), List.mem_of_getElem? (i := 1867) (by decide +kernel)⟩
theorem lw_p94 : lw_okq (⟨"HalfDaysModel", "likeOf", "(II)I"⟩, 56) := ⟨⟨by decide +kernel, by decide +kernel⟩, List.mem_of_getElem? (i := 1246) (by decide +kernel), List.mem_of_getElem? (i := 1870) (by decide +kernel), List.mem_of_getElem? (i := 1871) (by decide +kernel)⟩
theorem lw_p95 : lw_okq (⟨"HalfDaysModel", "cannotBe", "(I)Z"⟩, 56) := ⟨⟨by decide +kernel, by decide +kernel⟩, List.mem_of_getElem? (i := 1246) (by decide +kernel), List.mem_of_getElem? (i := 1886) (by decide +kernel), List.mem_of_getElem? (i := 1887) (by decide +kernel)⟩
def lw_privs_6 : List (MethodName × Nat) := [(⟨"HalfDaysModel", "isCompared", "()Z"⟩, 56), (⟨"HalfDaysModel", "behindTest", "()I"⟩, 56), (⟨"HalfDaysModel", "addUp", "(IIII)V"⟩, 56), (⟨"HalfDaysModel", "tellRate", "(I)I"⟩, 56), (⟨"HalfDaysModel", "findSessions", "(I)V"⟩, 56), (⟨"HalfDaysModel", "dueOf", "(III)I"⟩, 56), (⟨"HalfDaysModel", "setDay", "(II)V"⟩, 56), (⟨"HalfDaysModel", "takenOn", "(II)I"⟩, 56), (⟨"HalfDaysModel", "dueFrom", "(II)I"⟩, 56), (⟨"HalfDaysModel", "doesStand", "(III)Z"⟩, 56), (⟨"HalfDaysModel", "fineOf", "(II)I"⟩, 56), (⟨"HalfDaysModel", "rollsOf", "(II)I"⟩, 56), (⟨"HalfDaysModel", "isLost", "(II)Z"⟩, 56), (⟨"HalfDaysModel", "isJoin", "(I)Z"⟩, 56), (⟨"HalfDaysModel", "likeOf", "(II)I"⟩, 56), (⟨"HalfDaysModel", "cannotBe", "(I)Z"⟩, 56)]
theorem lw_r6 : ∀ q ∈ lw_privs_6, lw_okq q := List.forall_mem_cons.mpr ⟨lw_p80, List.forall_mem_cons.mpr ⟨lw_p81, List.forall_mem_cons.mpr ⟨lw_p82, List.forall_mem_cons.mpr ⟨lw_p83, List.forall_mem_cons.mpr ⟨lw_p84, List.forall_mem_cons.mpr ⟨lw_p85, List.forall_mem_cons.mpr ⟨lw_p86, List.forall_mem_cons.mpr ⟨lw_p87, List.forall_mem_cons.mpr ⟨lw_p88, List.forall_mem_cons.mpr ⟨lw_p89, List.forall_mem_cons.mpr ⟨lw_p90, List.forall_mem_cons.mpr ⟨lw_p91, List.forall_mem_cons.mpr ⟨lw_p92, List.forall_mem_cons.mpr ⟨lw_p93, List.forall_mem_cons.mpr ⟨lw_p94, List.forall_mem_cons.mpr ⟨lw_p95, fun _ h => absurd h List.not_mem_nil⟩⟩⟩⟩⟩⟩⟩⟩⟩⟩⟩⟩⟩⟩⟩⟩
theorem lw_p96 : lw_okq (⟨"HalfDaysModel", "findWays", "(II)V"⟩, 56) := ⟨⟨by decide +kernel, by decide +kernel⟩, List.mem_of_getElem? (i := 1246) (by decide +kernel), List.mem_of_getElem? (i := 1901) (by decide +kernel), List.mem_of_getElem? (i := 1902) (by decide +kernel)⟩
theorem lw_p97 : lw_okq (⟨"HalfDaysModel", "far", "(III)I"⟩, 56) := ⟨⟨by decide +kernel, by decide +kernel⟩, List.mem_of_getElem? (i := 1246) (by decide +kernel), List.mem_of_getElem? (i := 1905) (by decide +kernel), List.mem_of_getElem? (i := 1906) (by decide +kernel)⟩
theorem lw_p98 : lw_okq (⟨"HalfDaysModel", "between", "(II)I"⟩, 56) := ⟨⟨by decide +kernel, by decide +kernel⟩, List.mem_of_getElem? (i := 1246) (by decide +kernel), List.mem_of_getElem? (i := 1910) (by decide +kernel), List.mem_of_getElem? (i := 1911) (by decide +kernel)⟩
theorem lw_p99 : lw_okq (⟨"HalfDaysModel", "minutesOf", "(III)I"⟩, 56) := ⟨⟨by decide +kernel, by decide +kernel⟩, List.mem_of_getElem? (i := 1246) (by decide +kernel), List.mem_of_getElem? (i := 1914) (by decide +kernel), List.mem_of_getElem? (i := 1915) (by decide +kernel)⟩
theorem lw_p100 : lw_okq (⟨"HalfDaysModel", "addDay", "(I)V"⟩, 56) := ⟨⟨by decide +kernel, by decide +kernel⟩, List.mem_of_getElem? (i := 1246) (by decide +kernel), List.mem_of_getElem? (i := 1941) (by decide +kernel), List.mem_of_getElem? (i := 1942) (by decide +kernel)⟩
def lw_privs_7 : List (MethodName × Nat) := [(⟨"HalfDaysModel", "findWays", "(II)V"⟩, 56), (⟨"HalfDaysModel", "far", "(III)I"⟩, 56), (⟨"HalfDaysModel", "between", "(II)I"⟩, 56), (⟨"HalfDaysModel", "minutesOf", "(III)I"⟩, 56), (⟨"HalfDaysModel", "addDay", "(I)V"⟩, 56)]
theorem lw_r7 : ∀ q ∈ lw_privs_7, lw_okq q := List.forall_mem_cons.mpr ⟨lw_p96, List.forall_mem_cons.mpr ⟨lw_p97, List.forall_mem_cons.mpr ⟨lw_p98, List.forall_mem_cons.mpr ⟨lw_p99, List.forall_mem_cons.mpr ⟨lw_p100, fun _ h => absurd h List.not_mem_nil⟩⟩⟩⟩⟩
def lw_privs : List (MethodName × Nat) := lw_privs_1 ++ (lw_privs_2 ++ (lw_privs_3 ++ (lw_privs_4 ++ (lw_privs_5 ++ (lw_privs_6 ++ (lw_privs_7))))))
def lw_tbl : List Cond := k2_sels lw_privs ++ tables_1
theorem lw_privs_ok : ∀ q ∈ lw_privs, lw_okq q := by
  show ∀ q ∈ lw_privs_1 ++ (lw_privs_2 ++ (lw_privs_3 ++ (lw_privs_4 ++ (lw_privs_5 ++ (lw_privs_6 ++ (lw_privs_7)))))), lw_okq q
  exact List.forall_mem_append.mpr ⟨lw_r1, List.forall_mem_append.mpr ⟨lw_r2, List.forall_mem_append.mpr ⟨lw_r3, List.forall_mem_append.mpr ⟨lw_r4, List.forall_mem_append.mpr ⟨lw_r5, List.forall_mem_append.mpr ⟨lw_r6, lw_r7⟩⟩⟩⟩⟩⟩
end
section
def RX0 : String := "HalfDays$Acts"
def TX0 : u_T := fun k => match k with
  | 0 => ("HalfDays$Acts", "texts", "I", false)
  | 1 => ("HalfDays$Acts", "text", "[LHalfDays$Text;", true)
  | _ => ("HalfDays$Acts", "from", "[I", true)
def tyX0 : Nat → FieldType := fun k => match k with
  | 0 => .int
  | 1 => .array (.object "HalfDays$Text")
  | _ => .array .int
abbrev wsX00 : List Cond := u_ws RX0 TX0 3
theorem nmX0 : ∀ a, a < 3 → ∀ b, b < 3 → a ≠ b → (TX0 a).2.1 ≠ (TX0 b).2.1 := by decide +kernel
theorem tyX0_ok : ∀ k, k < 3 → parseFieldDescriptor (TX0 k).2.2.1 = some (tyX0 k) := by decide +kernel
def RX1 : String := "HalfDays$Asker"
def TX1 : u_T := fun k => match k with
  | 0 => ("HalfDays$Asker", "county", "LHalfDays$County;", true)
  | 1 => ("HalfDays$Asker", "stack", "[J", true)
  | 2 => ("HalfDays$Asker", "struck", "[I", true)
  | 3 => ("HalfDays$Asker", "kinds", "[I", true)
  | 4 => ("HalfDays$Asker", "awayAhead", "[I", true)
  | 5 => ("HalfDays$Asker", "possibleAhead", "[I", true)
  | 6 => ("HalfDays$Asker", "weekPossible", "[I", true)
  | 7 => ("HalfDays$Asker", "weekAway", "[I", true)
  | 8 => ("HalfDays$Asker", "askedChild", "I", false)
  | 9 => ("HalfDays$Asker", "askedHalf", "I", false)
  | 10 => ("HalfDays$Asker", "askedMinutes", "I", false)
  | 11 => ("HalfDays$Asker", "askedSchool", "I", false)
  | 12 => ("HalfDays$Asker", "sessionsAsked", "Z", false)
  | 13 => ("HalfDays$Asker", "possible", "I", false)
  | 14 => ("HalfDays$Asker", "away", "I", false)
  | 15 => ("HalfDays$Asker", "textFound", "I", false)
  | 16 => ("HalfDays$Asker", "clauseFound", "I", false)
  | 17 => ("HalfDays$Asker", "sum", "I", false)
  | _ => ("HalfDays$Asker", "value", "I", false)
def tyX1 : Nat → FieldType := fun k => match k with
  | 0 => .object "HalfDays$County"
  | 1 => .array .long
  | 2 => .array .int
  | 3 => .array .int
  | 4 => .array .int
  | 5 => .array .int
  | 6 => .array .int
  | 7 => .array .int
  | 8 => .int
  | 9 => .int
  | 10 => .int
  | 11 => .int
  | 12 => .boolean
  | 13 => .int
  | 14 => .int
  | 15 => .int
  | 16 => .int
  | 17 => .int
  | _ => .int
abbrev wsX10 : List Cond := u_ws RX1 TX1 19
theorem nmX1 : ∀ a, a < 19 → ∀ b, b < 19 → a ≠ b → (TX1 a).2.1 ≠ (TX1 b).2.1 := by decide +kernel
theorem tyX1_ok : ∀ k, k < 19 → parseFieldDescriptor (TX1 k).2.2.1 = some (tyX1 k) := by decide +kernel
def RX2 : String := "HalfDays$Choices"
def TX2 : u_T := fun k => match k with
  | 0 => ("HalfDays$Choices", "people", "LHalfDays$People;", true)
  | 1 => ("HalfDays$Choices", "lists", "LHalfDays$Lists;", true)
  | 2 => ("HalfDays$Choices", "row", "[I", true)
  | 3 => ("HalfDays$Choices", "rowLength", "I", false)
  | 4 => ("HalfDays$Choices", "rivals", "I", false)
  | 5 => ("HalfDays$Choices", "like", "[I", true)
  | 6 => ("HalfDays$Choices", "joinScore", "[I", true)
  | 7 => ("HalfDays$Choices", "joinWays", "[I", true)
  | 8 => ("HalfDays$Choices", "roundBits", "I", false)
  | 9 => ("HalfDays$Choices", "roundWorth", "I", false)
  | 10 => ("HalfDays$Choices", "roundMinutes", "I", false)
  | 11 => ("HalfDays$Choices", "way", "[I", true)
  | 12 => ("HalfDays$Choices", "officeWay", "[I", true)
  | _ => ("HalfDays$Choices", "bySet", "[I", true)
def tyX2 : Nat → FieldType := fun k => match k with
  | 0 => .object "HalfDays$People"
  | 1 => .object "HalfDays$Lists"
  | 2 => .array .int
  | 3 => .int
  | 4 => .int
  | 5 => .array .int
  | 6 => .array .int
  | 7 => .array .int
  | 8 => .int
  | 9 => .int
  | 10 => .int
  | 11 => .array .int
  | 12 => .array .int
  | _ => .array .int
abbrev wsX20 : List Cond := u_ws RX2 TX2 14
theorem nmX2 : ∀ a, a < 14 → ∀ b, b < 14 → a ≠ b → (TX2 a).2.1 ≠ (TX2 b).2.1 := by decide +kernel
theorem tyX2_ok : ∀ k, k < 14 → parseFieldDescriptor (TX2 k).2.2.1 = some (tyX2 k) := by decide +kernel
def RX3 : String := "HalfDays$County"
def TX3 : u_T := fun k => match k with
  | 0 => ("HalfDays$County", "people", "LHalfDays$People;", true)
  | 1 => ("HalfDays$County", "rolls", "LHalfDays$Rolls;", true)
  | 2 => ("HalfDays$County", "marks", "LHalfDays$Marks;", true)
  | 3 => ("HalfDays$County", "acts", "LHalfDays$Acts;", true)
  | 4 => ("HalfDays$County", "steps", "LHalfDays$Steps;", true)
  | _ => ("HalfDays$County", "lists", "LHalfDays$Lists;", true)
def tyX3 : Nat → FieldType := fun k => match k with
  | 0 => .object "HalfDays$People"
  | 1 => .object "HalfDays$Rolls"
  | 2 => .object "HalfDays$Marks"
  | 3 => .object "HalfDays$Acts"
  | 4 => .object "HalfDays$Steps"
  | _ => .object "HalfDays$Lists"
abbrev wsX30 : List Cond := u_ws RX3 TX3 6
theorem nmX3 : ∀ a, a < 6 → ∀ b, b < 6 → a ≠ b → (TX3 a).2.1 ≠ (TX3 b).2.1 := by decide +kernel
theorem tyX3_ok : ∀ k, k < 6 → parseFieldDescriptor (TX3 k).2.2.1 = some (tyX3 k) := by decide +kernel
def RX4 : String := "HalfDays$Lists"
def TX4 : u_T := fun k => match k with
  | 0 => ("HalfDays$Lists", "records", "I", false)
  | 1 => ("HalfDays$Lists", "recordMarks", "[I", true)
  | 2 => ("HalfDays$Lists", "missed", "I", false)
  | 3 => ("HalfDays$Lists", "missingChild", "[I", true)
  | 4 => ("HalfDays$Lists", "missingMarks", "[I", true)
  | 5 => ("HalfDays$Lists", "visits", "I", false)
  | 6 => ("HalfDays$Lists", "visitChild", "[I", true)
  | 7 => ("HalfDays$Lists", "visitMinutes", "[I", true)
  | 8 => ("HalfDays$Lists", "visitWorth", "[I", true)
  | 9 => ("HalfDays$Lists", "drawn", "I", false)
  | 10 => ("HalfDays$Lists", "drawnChild", "[I", true)
  | 11 => ("HalfDays$Lists", "drawnGot", "[I", true)
  | _ => ("HalfDays$Lists", "drawnDid", "[I", true)
def tyX4 : Nat → FieldType := fun k => match k with
  | 0 => .int
  | 1 => .array .int
  | 2 => .int
  | 3 => .array .int
  | 4 => .array .int
  | 5 => .int
  | 6 => .array .int
  | 7 => .array .int
  | 8 => .array .int
  | 9 => .int
  | 10 => .array .int
  | 11 => .array .int
  | _ => .array .int
abbrev wsX40 : List Cond := u_ws RX4 TX4 13
theorem nmX4 : ∀ a, a < 13 → ∀ b, b < 13 → a ≠ b → (TX4 a).2.1 ≠ (TX4 b).2.1 := by decide +kernel
theorem tyX4_ok : ∀ k, k < 13 → parseFieldDescriptor (TX4 k).2.2.1 = some (tyX4 k) := by decide +kernel
def RX5 : String := "HalfDays$Marks"
def TX5 : u_T := fun k => match k with
  | 0 => ("HalfDays$Marks", "marks", "I", false)
  | 1 => ("HalfDays$Marks", "school", "[I", true)
  | 2 => ("HalfDays$Marks", "child", "[I", true)
  | 3 => ("HalfDays$Marks", "half", "[I", true)
  | 4 => ("HalfDays$Marks", "letter", "[I", true)
  | 5 => ("HalfDays$Marks", "minutes", "[I", true)
  | 6 => ("HalfDays$Marks", "known", "[I", true)
  | 7 => ("HalfDays$Marks", "granted", "[I", true)
  | 8 => ("HalfDays$Marks", "grantedFrom", "[I", true)
  | 9 => ("HalfDays$Marks", "next", "[I", true)
  | 10 => ("HalfDays$Marks", "sealedMarks", "[I", true)
  | 11 => ("HalfDays$Marks", "sealedSum", "[I", true)
  | 12 => ("HalfDays$Marks", "sealedPlaces", "[I", true)
  | 13 => ("HalfDays$Marks", "daySum", "I", false)
  | _ => ("HalfDays$Marks", "dayPlaces", "I", false)
def tyX5 : Nat → FieldType := fun k => match k with
  | 0 => .int
  | 1 => .array .int
  | 2 => .array .int
  | 3 => .array .int
  | 4 => .array .int
  | 5 => .array .int
  | 6 => .array .int
  | 7 => .array .int
  | 8 => .array .int
  | 9 => .array .int
  | 10 => .array .int
  | 11 => .array .int
  | 12 => .array .int
  | 13 => .int
  | _ => .int
abbrev wsX50 : List Cond := u_ws RX5 TX5 15
theorem nmX5 : ∀ a, a < 15 → ∀ b, b < 15 → a ≠ b → (TX5 a).2.1 ≠ (TX5 b).2.1 := by decide +kernel
theorem tyX5_ok : ∀ k, k < 15 → parseFieldDescriptor (TX5 k).2.2.1 = some (tyX5 k) := by decide +kernel
def RX6 : String := "HalfDays$People"
def TX6 : u_T := fun k => match k with
  | 0 => ("HalfDays$People", "children", "I", false)
  | 1 => ("HalfDays$People", "born", "[I", true)
  | 2 => ("HalfDays$People", "carer", "[I", true)
  | 3 => ("HalfDays$People", "route", "[I", true)
  | 4 => ("HalfDays$People", "x", "[I", true)
  | 5 => ("HalfDays$People", "y", "[I", true)
  | 6 => ("HalfDays$People", "schools", "I", false)
  | 7 => ("HalfDays$People", "shutOn", "[I", true)
  | 8 => ("HalfDays$People", "buses", "I", false)
  | 9 => ("HalfDays$People", "busRoute", "[I", true)
  | 10 => ("HalfDays$People", "busHalf", "[I", true)
  | 11 => ("HalfDays$People", "spans", "[I", true)
  | 12 => ("HalfDays$People", "spanChild", "[I", true)
  | 13 => ("HalfDays$People", "spanFrom", "[I", true)
  | _ => ("HalfDays$People", "spanTo", "[I", true)
def tyX6 : Nat → FieldType := fun k => match k with
  | 0 => .int
  | 1 => .array .int
  | 2 => .array .int
  | 3 => .array .int
  | 4 => .array .int
  | 5 => .array .int
  | 6 => .int
  | 7 => .array .int
  | 8 => .int
  | 9 => .array .int
  | 10 => .array .int
  | 11 => .array .int
  | 12 => .array .int
  | 13 => .array .int
  | _ => .array .int
abbrev wsX60 : List Cond := u_ws RX6 TX6 15
theorem nmX6 : ∀ a, a < 15 → ∀ b, b < 15 → a ≠ b → (TX6 a).2.1 ≠ (TX6 b).2.1 := by decide +kernel
theorem tyX6_ok : ∀ k, k < 15 → parseFieldDescriptor (TX6 k).2.2.1 = some (tyX6 k) := by decide +kernel
def RX7 : String := "HalfDays$Reader"
def TX7 : u_T := fun k => match k with
  | 0 => ("HalfDays$Reader", "tape", "[I", true)
  | 1 => ("HalfDays$Reader", "length", "I", false)
  | 2 => ("HalfDays$Reader", "fault", "I", false)
  | 3 => ("HalfDays$Reader", "clauses", "I", false)
  | 4 => ("HalfDays$Reader", "key", "[I", true)
  | 5 => ("HalfDays$Reader", "value", "[I", true)
  | 6 => ("HalfDays$Reader", "at", "[I", true)
  | 7 => ("HalfDays$Reader", "code", "[I", true)
  | 8 => ("HalfDays$Reader", "codeLength", "I", false)
  | 9 => ("HalfDays$Reader", "leaves", "I", false)
  | 10 => ("HalfDays$Reader", "tokenKind", "I", false)
  | 11 => ("HalfDays$Reader", "tokenStart", "I", false)
  | 12 => ("HalfDays$Reader", "tokenEnd", "I", false)
  | 13 => ("HalfDays$Reader", "number", "I", false)
  | 14 => ("HalfDays$Reader", "word", "J", false)
  | _ => ("HalfDays$Reader", "sign", "I", false)
def tyX7 : Nat → FieldType := fun k => match k with
  | 0 => .array .int
  | 1 => .int
  | 2 => .int
  | 3 => .int
  | 4 => .array .int
  | 5 => .array .int
  | 6 => .array .int
  | 7 => .array .int
  | 8 => .int
  | 9 => .int
  | 10 => .int
  | 11 => .int
  | 12 => .int
  | 13 => .int
  | 14 => .long
  | _ => .int
abbrev wsX70 : List Cond := u_ws RX7 TX7 16
theorem nmX7 : ∀ a, a < 16 → ∀ b, b < 16 → a ≠ b → (TX7 a).2.1 ≠ (TX7 b).2.1 := by decide +kernel
theorem tyX7_ok : ∀ k, k < 16 → parseFieldDescriptor (TX7 k).2.2.1 = some (tyX7 k) := by decide +kernel
def RX8 : String := "HalfDays$Rolls"
def TX8 : u_T := fun k => match k with
  | 0 => ("HalfDays$Rolls", "entries", "I", false)
  | 1 => ("HalfDays$Rolls", "child", "[I", true)
  | 2 => ("HalfDays$Rolls", "school", "[I", true)
  | 3 => ("HalfDays$Rolls", "first", "[I", true)
  | 4 => ("HalfDays$Rolls", "gone", "[I", true)
  | _ => ("HalfDays$Rolls", "whither", "[I", true)
def tyX8 : Nat → FieldType := fun k => match k with
  | 0 => .int
  | 1 => .array .int
  | 2 => .array .int
  | 3 => .array .int
  | 4 => .array .int
  | _ => .array .int
abbrev wsX80 : List Cond := u_ws RX8 TX8 6
theorem nmX8 : ∀ a, a < 6 → ∀ b, b < 6 → a ≠ b → (TX8 a).2.1 ≠ (TX8 b).2.1 := by decide +kernel
theorem tyX8_ok : ∀ k, k < 6 → parseFieldDescriptor (TX8 k).2.2.1 = some (tyX8 k) := by decide +kernel
def RX9 : String := "HalfDays$Steps"
def TX9 : u_T := fun k => match k with
  | 0 => ("HalfDays$Steps", "taken", "[I", true)
  | 1 => ("HalfDays$Steps", "paidOn", "[I", true)
  | _ => ("HalfDays$Steps", "paid", "[I", true)
def tyX9 : Nat → FieldType := fun k => match k with
  | 0 => .array .int
  | 1 => .array .int
  | _ => .array .int
abbrev wsX90 : List Cond := u_ws RX9 TX9 3
theorem nmX9 : ∀ a, a < 3 → ∀ b, b < 3 → a ≠ b → (TX9 a).2.1 ≠ (TX9 b).2.1 := by decide +kernel
theorem tyX9_ok : ∀ k, k < 3 → parseFieldDescriptor (TX9 k).2.2.1 = some (tyX9 k) := by decide +kernel
def RX10 : String := "HalfDays$Text"
def TX10 : u_T := fun k => match k with
  | 0 => ("HalfDays$Text", "clauses", "I", true)
  | 1 => ("HalfDays$Text", "strikes", "I", true)
  | 2 => ("HalfDays$Text", "key", "[I", true)
  | 3 => ("HalfDays$Text", "value", "[I", true)
  | 4 => ("HalfDays$Text", "at", "[I", true)
  | _ => ("HalfDays$Text", "code", "[I", true)
def tyX10 : Nat → FieldType := fun k => match k with
  | 0 => .int
  | 1 => .int
  | 2 => .array .int
  | 3 => .array .int
  | 4 => .array .int
  | _ => .array .int
abbrev wsX100 : List Cond := u_ws RX10 TX10 6
theorem nmX10 : ∀ a, a < 6 → ∀ b, b < 6 → a ≠ b → (TX10 a).2.1 ≠ (TX10 b).2.1 := by decide +kernel
theorem tyX10_ok : ∀ k, k < 6 → parseFieldDescriptor (TX10 k).2.2.1 = some (tyX10 k) := by decide +kernel
def RX11 : String := "HalfDays"
def TX11 : u_T := fun k => match k with
  | 0 => ("HalfDays", "now", "LHalfDays$County;", true)
  | 1 => ("HalfDays", "images", "[LHalfDays$County;", true)
  | 2 => ("HalfDays", "reader", "LHalfDays$Reader;", true)
  | 3 => ("HalfDays", "asker", "LHalfDays$Asker;", true)
  | 4 => ("HalfDays", "choices", "LHalfDays$Choices;", true)
  | _ => ("HalfDays", "refusal", "I", false)
def tyX11 : Nat → FieldType := fun k => match k with
  | 0 => .object "HalfDays$County"
  | 1 => .array (.object "HalfDays$County")
  | 2 => .object "HalfDays$Reader"
  | 3 => .object "HalfDays$Asker"
  | 4 => .object "HalfDays$Choices"
  | _ => .int
abbrev wsX110 : List Cond := u_ws RX11 TX11 6
theorem nmX11 : ∀ a, a < 6 → ∀ b, b < 6 → a ≠ b → (TX11 a).2.1 ≠ (TX11 b).2.1 := by decide +kernel
theorem tyX11_ok : ∀ k, k < 6 → parseFieldDescriptor (TX11 k).2.2.1 = some (tyX11 k) := by decide +kernel
def RX12 : String := "HalfDaysModel"
def TX12 : u_T := fun k => match k with
  | 0 => ("HalfDaysModel", "thrown", "I", false)
  | 1 => ("HalfDaysModel", "status", "I", false)
  | 2 => ("HalfDaysModel", "row", "[I", true)
  | 3 => ("HalfDaysModel", "images", "[I", true)
  | 4 => ("HalfDaysModel", "isKept", "[Z", true)
  | 5 => ("HalfDaysModel", "known", "I", false)
  | 6 => ("HalfDaysModel", "doesCount", "[Z", true)
  | 7 => ("HalfDaysModel", "letterOf", "[I", true)
  | 8 => ("HalfDaysModel", "kindOf", "[I", true)
  | 9 => ("HalfDaysModel", "clauseOf", "[I", true)
  | 10 => ("HalfDaysModel", "tape", "[I", true)
  | 11 => ("HalfDaysModel", "taped", "I", false)
  | 12 => ("HalfDaysModel", "from", "I", false)
  | 13 => ("HalfDaysModel", "to", "I", false)
  | 14 => ("HalfDaysModel", "sort", "I", false)
  | 15 => ("HalfDaysModel", "worth", "J", false)
  | 16 => ("HalfDaysModel", "fault", "I", false)
  | 17 => ("HalfDaysModel", "bad", "Z", false)
  | 18 => ("HalfDaysModel", "nClauses", "I", false)
  | 19 => ("HalfDaysModel", "nClause", "[I", true)
  | 20 => ("HalfDaysModel", "nCode", "I", false)
  | 21 => ("HalfDaysModel", "nOp", "[I", true)
  | 22 => ("HalfDaysModel", "nArg", "[I", true)
  | 23 => ("HalfDaysModel", "nLeaves", "I", false)
  | 24 => ("HalfDaysModel", "pile", "[I", true)
  | 25 => ("HalfDaysModel", "pileAt", "[I", true)
  | 26 => ("HalfDaysModel", "piled", "I", false)
  | 27 => ("HalfDaysModel", "opened", "I", false)
  | 28 => ("HalfDaysModel", "isOnText", "[Z", true)
  | 29 => ("HalfDaysModel", "isStruck", "[Z", true)
  | 30 => ("HalfDaysModel", "set", "[J", true)
  | 31 => ("HalfDaysModel", "rest", "[J", true)
  | 32 => ("HalfDaysModel", "broken", "Z", false)
  | 33 => ("HalfDaysModel", "value", "J", false)
  | 34 => ("HalfDaysModel", "sum", "J", false)
  | 35 => ("HalfDaysModel", "second", "I", false)
  | 36 => ("HalfDaysModel", "by", "I", false)
  | 37 => ("HalfDaysModel", "possible", "I", false)
  | 38 => ("HalfDaysModel", "away", "I", false)
  | 39 => ("HalfDaysModel", "possibleTo", "[I", true)
  | 40 => ("HalfDaysModel", "awayTo", "[I", true)
  | 41 => ("HalfDaysModel", "quick", "I", false)
  | 42 => ("HalfDaysModel", "hasJoin", "Z", false)
  | 43 => ("HalfDaysModel", "joinMany", "I", false)
  | 44 => ("HalfDaysModel", "joinRivals", "I", false)
  | 45 => ("HalfDaysModel", "joinRow", "[I", true)
  | 46 => ("HalfDaysModel", "joinNow", "[I", true)
  | 47 => ("HalfDaysModel", "likes", "I", false)
  | 48 => ("HalfDaysModel", "joins", "I", false)
  | 49 => ("HalfDaysModel", "ways", "[I", true)
  | 50 => ("HalfDaysModel", "possibleOf", "[I", true)
  | 51 => ("HalfDaysModel", "awayOf", "[I", true)
  | 52 => ("HalfDaysModel", "kindWas", "[I", true)
  | 53 => ("HalfDaysModel", "sealMany", "I", false)
  | 54 => ("HalfDaysModel", "sealSum", "I", false)
  | _ => ("HalfDaysModel", "sealPlaces", "I", false)
def tyX12 : Nat → FieldType := fun k => match k with
  | 0 => .int
  | 1 => .int
  | 2 => .array .int
  | 3 => .array .int
  | 4 => .array .boolean
  | 5 => .int
  | 6 => .array .boolean
  | 7 => .array .int
  | 8 => .array .int
  | 9 => .array .int
  | 10 => .array .int
  | 11 => .int
  | 12 => .int
  | 13 => .int
  | 14 => .int
  | 15 => .long
  | 16 => .int
  | 17 => .boolean
  | 18 => .int
  | 19 => .array .int
  | 20 => .int
  | 21 => .array .int
  | 22 => .array .int
  | 23 => .int
  | 24 => .array .int
  | 25 => .array .int
  | 26 => .int
  | 27 => .int
  | 28 => .array .boolean
  | 29 => .array .boolean
  | 30 => .array .long
  | 31 => .array .long
  | 32 => .boolean
  | 33 => .long
  | 34 => .long
  | 35 => .int
  | 36 => .int
  | 37 => .int
  | 38 => .int
  | 39 => .array .int
  | 40 => .array .int
  | 41 => .int
  | 42 => .boolean
  | 43 => .int
  | 44 => .int
  | 45 => .array .int
  | 46 => .array .int
  | 47 => .int
  | 48 => .int
  | 49 => .array .int
  | 50 => .array .int
  | 51 => .array .int
  | 52 => .array .int
  | 53 => .int
  | 54 => .int
  | _ => .int
abbrev wsX120 : List Cond := u_ws RX12 TX12 56
theorem nmX12 : ∀ a, a < 56 → ∀ b, b < 56 → a ≠ b → (TX12 a).2.1 ≠ (TX12 b).2.1 := by decide +kernel
theorem tyX12_ok : ∀ k, k < 56 → parseFieldDescriptor (TX12 k).2.2.1 = some (tyX12 k) := by decide +kernel
def RJ6 : String := "java/lang/Integer"
def RJ9 : String := "java/lang/Math"
def RJ10 : String := "java/lang/System"
def RJ7 : String := "java/util/Arrays"
def RL : String := "HalfDaysLaw"
abbrev cX0_init : ByteArray := prog_2_method_1_code
def yX0_init : MethodName := ⟨RX0, "<init>", "()V"⟩
abbrev cX0_addText : ByteArray := prog_2_method_2_code
def yX0_addText : MethodName := ⟨RX0, "addText", "(LHalfDays$Text;I)V"⟩
abbrev cX0_dropLastText : ByteArray := prog_2_method_3_code
def yX0_dropLastText : MethodName := ⟨RX0, "dropLastText", "()V"⟩
abbrev cX0_becomeLike : ByteArray := prog_2_method_4_code
def yX0_becomeLike : MethodName := ⟨RX0, "becomeLike", "(LHalfDays$Acts;)V"⟩
abbrev cX1_init : ByteArray := prog_3_method_1_code
def yX1_init : MethodName := ⟨RX1, "<init>", "(LHalfDays$County;)V"⟩
abbrev cX1_askOfMark : ByteArray := prog_3_method_2_code
def yX1_askOfMark : MethodName := ⟨RX1, "askOfMark", "(I)V"⟩
abbrev cX1_askOfDay : ByteArray := prog_3_method_3_code
def yX1_askOfDay : MethodName := ⟨RX1, "askOfDay", "(II)V"⟩
abbrev cX1_kindOf : ByteArray := prog_3_method_4_code
def yX1_kindOf : MethodName := ⟨RX1, "kindOf", "(II)I"⟩
abbrev cX1_clauseThatCounts : ByteArray := prog_3_method_5_code
def yX1_clauseThatCounts : MethodName := ⟨RX1, "clauseThatCounts", "()I"⟩
abbrev cX1_findLastThatHolds : ByteArray := prog_3_method_6_code
def yX1_findLastThatHolds : MethodName := ⟨RX1, "findLastThatHolds", "(I)Z"⟩
abbrev cX1_strikeClauses : ByteArray := prog_3_method_7_code
def yX1_strikeClauses : MethodName := ⟨RX1, "strikeClauses", "(I)V"⟩
abbrev cX1_isInForce : ByteArray := prog_3_method_8_code
def yX1_isInForce : MethodName := ⟨RX1, "isInForce", "(III)I"⟩
abbrev cX1_isHolding : ByteArray := prog_3_method_9_code
def yX1_isHolding : MethodName := ⟨RX1, "isHolding", "(LHalfDays$Text;I)Z"⟩
abbrev cX1_reckon : ByteArray := prog_3_method_10_code
def yX1_reckon : MethodName := ⟨RX1, "reckon", "([III)J"⟩
abbrev cX1_joinTwo : ByteArray := prog_3_method_11_code
def yX1_joinTwo : MethodName := ⟨RX1, "joinTwo", "(IJJ)J"⟩
abbrev cX1_wordsValue : ByteArray := prog_3_method_12_code
def yX1_wordsValue : MethodName := ⟨RX1, "wordsValue", "(I)I"⟩
abbrev cX1_tallyDays : ByteArray := prog_3_method_13_code
def yX1_tallyDays : MethodName := ⟨RX1, "tallyDays", "(II)V"⟩
abbrev cX1_awayWithin : ByteArray := prog_3_method_14_code
def yX1_awayWithin : MethodName := ⟨RX1, "awayWithin", "(II)I"⟩
abbrev cX1_firstDueDay : ByteArray := prog_3_method_15_code
def yX1_firstDueDay : MethodName := ⟨RX1, "firstDueDay", "(IIII)I"⟩
abbrev cX1_isStanding : ByteArray := prog_3_method_16_code
def yX1_isStanding : MethodName := ⟨RX1, "isStanding", "(III)Z"⟩
abbrev cX1_wholeFine : ByteArray := prog_3_method_17_code
def yX1_wholeFine : MethodName := ⟨RX1, "wholeFine", "(III)I"⟩
abbrev cX1_countSessions : ByteArray := prog_3_method_18_code
def yX1_countSessions : MethodName := ⟨RX1, "countSessions", "(IIIII)V"⟩
abbrev cX1_rateNumber : ByteArray := prog_3_method_19_code
def yX1_rateNumber : MethodName := ⟨RX1, "rateNumber", "(I)I"⟩
abbrev cX1_greatestDivisor : ByteArray := prog_3_method_20_code
def yX1_greatestDivisor : MethodName := ⟨RX1, "greatestDivisor", "(II)I"⟩
abbrev cX1_lastSeen : ByteArray := prog_3_method_21_code
def yX1_lastSeen : MethodName := ⟨RX1, "lastSeen", "(III)I"⟩
abbrev cX1_isThere : ByteArray := prog_3_method_22_code
def yX1_isThere : MethodName := ⟨RX1, "isThere", "(I)Z"⟩
abbrev cX1_noteKinds : ByteArray := prog_3_method_23_code
def yX1_noteKinds : MethodName := ⟨RX1, "noteKinds", "(I)V"⟩
abbrev cX1_countChangedKinds : ByteArray := prog_3_method_24_code
def yX1_countChangedKinds : MethodName := ⟨RX1, "countChangedKinds", "(I)I"⟩
abbrev cX1_isImpossible : ByteArray := prog_3_method_25_code
def yX1_isImpossible : MethodName := ⟨RX1, "isImpossible", "(I)Z"⟩
abbrev cX1_countWeek : ByteArray := prog_3_method_26_code
def yX1_countWeek : MethodName := ⟨RX1, "countWeek", "(II)V"⟩
abbrev cX1_schoolsLookedAt : ByteArray := prog_3_method_27_code
def yX1_schoolsLookedAt : MethodName := ⟨RX1, "schoolsLookedAt", "()I"⟩
abbrev cX1_dippingSchools : ByteArray := prog_3_method_28_code
def yX1_dippingSchools : MethodName := ⟨RX1, "dippingSchools", "(I)I"⟩
abbrev cX2_init : ByteArray := prog_4_method_1_code
def yX2_init : MethodName := ⟨RX2, "<init>", "(LHalfDays$County;)V"⟩
abbrev cX2_figuresAlike : ByteArray := prog_4_method_2_code
def yX2_figuresAlike : MethodName := ⟨RX2, "figuresAlike", "(II)I"⟩
abbrev cX2_bestJoin : ByteArray := prog_4_method_3_code
def yX2_bestJoin : MethodName := ⟨RX2, "bestJoin", "(I)I"⟩
abbrev cX2_noteLikeness : ByteArray := prog_4_method_4_code
def yX2_noteLikeness : MethodName := ⟨RX2, "noteLikeness", "(I)V"⟩
abbrev cX2_weighJoins : ByteArray := prog_4_method_5_code
def yX2_weighJoins : MethodName := ⟨RX2, "weighJoins", "(II)V"⟩
abbrev cX2_scoreWith : ByteArray := prog_4_method_6_code
def yX2_scoreWith : MethodName := ⟨RX2, "scoreWith", "(III)I"⟩
abbrev cX2_keepFirstBest : ByteArray := prog_4_method_7_code
def yX2_keepFirstBest : MethodName := ⟨RX2, "keepFirstBest", "()V"⟩
abbrev cX2_likeOfRow : ByteArray := prog_4_method_8_code
def yX2_likeOfRow : MethodName := ⟨RX2, "likeOfRow", "(II)I"⟩
abbrev cX2_bestRound : ByteArray := prog_4_method_9_code
def yX2_bestRound : MethodName := ⟨RX2, "bestRound", "(III)V"⟩
abbrev cX2_noteWays : ByteArray := prog_4_method_10_code
def yX2_noteWays : MethodName := ⟨RX2, "noteWays", "(II)V"⟩
abbrev cX2_fewestMinutes : ByteArray := prog_4_method_11_code
def yX2_fewestMinutes : MethodName := ⟨RX2, "fewestMinutes", "(I)I"⟩
abbrev cX2_wayFrom : ByteArray := prog_4_method_12_code
def yX2_wayFrom : MethodName := ⟨RX2, "wayFrom", "(III)I"⟩
abbrev cX2_worthOf : ByteArray := prog_4_method_13_code
def yX2_worthOf : MethodName := ⟨RX2, "worthOf", "(I)I"⟩
abbrev cX2_waysToDraw : ByteArray := prog_4_method_14_code
def yX2_waysToDraw : MethodName := ⟨RX2, "waysToDraw", "(Z)I"⟩
abbrev cX3_init : ByteArray := prog_5_method_1_code
def yX3_init : MethodName := ⟨RX3, "<init>", "()V"⟩
abbrev cX3_becomeLike : ByteArray := prog_5_method_2_code
def yX3_becomeLike : MethodName := ⟨RX3, "becomeLike", "(LHalfDays$County;)V"⟩
abbrev cX3_isOddOnRolls : ByteArray := prog_5_method_3_code
def yX3_isOddOnRolls : MethodName := ⟨RX3, "isOddOnRolls", "(III)Z"⟩
abbrev cX4_init : ByteArray := prog_6_method_1_code
def yX4_init : MethodName := ⟨RX4, "<init>", "()V"⟩
abbrev cX4_becomeLike : ByteArray := prog_6_method_2_code
def yX4_becomeLike : MethodName := ⟨RX4, "becomeLike", "(LHalfDays$Lists;)V"⟩
abbrev cX5_init : ByteArray := prog_7_method_1_code
def yX5_init : MethodName := ⟨RX5, "<init>", "()V"⟩
abbrev cX5_isNoMark : ByteArray := prog_7_method_2_code
def yX5_isNoMark : MethodName := ⟨RX5, "isNoMark", "(I)Z"⟩
abbrev cX5_addMark : ByteArray := prog_7_method_3_code
def yX5_addMark : MethodName := ⟨RX5, "addMark", "(IIIIII)I"⟩
abbrev cX5_latestKnown : ByteArray := prog_7_method_4_code
def yX5_latestKnown : MethodName := ⟨RX5, "latestKnown", "(IIII)I"⟩
abbrev cX5_countsAsKnown : ByteArray := prog_7_method_5_code
def yX5_countsAsKnown : MethodName := ⟨RX5, "countsAsKnown", "(II)Z"⟩
abbrev cX5_letterAsKnown : ByteArray := prog_7_method_6_code
def yX5_letterAsKnown : MethodName := ⟨RX5, "letterAsKnown", "(II)I"⟩
abbrev cX5_numberOf : ByteArray := prog_7_method_7_code
def yX5_numberOf : MethodName := ⟨RX5, "numberOf", "(I)I"⟩
abbrev cX5_turnBits : ByteArray := prog_7_method_8_code
def yX5_turnBits : MethodName := ⟨RX5, "turnBits", "(II)I"⟩
abbrev cX5_sealDay : ByteArray := prog_7_method_9_code
def yX5_sealDay : MethodName := ⟨RX5, "sealDay", "(I)I"⟩
abbrev cX5_sumDay : ByteArray := prog_7_method_10_code
def yX5_sumDay : MethodName := ⟨RX5, "sumDay", "(I)I"⟩
abbrev cX5_findAltered : ByteArray := prog_7_method_11_code
def yX5_findAltered : MethodName := ⟨RX5, "findAltered", "(I)I"⟩
abbrev cX5_markAtPlace : ByteArray := prog_7_method_12_code
def yX5_markAtPlace : MethodName := ⟨RX5, "markAtPlace", "(II)I"⟩
abbrev cX5_becomeLike : ByteArray := prog_7_method_13_code
def yX5_becomeLike : MethodName := ⟨RX5, "becomeLike", "(LHalfDays$Marks;)V"⟩
abbrev cX6_init : ByteArray := prog_8_method_1_code
def yX6_init : MethodName := ⟨RX6, "<init>", "()V"⟩
abbrev cX6_isNoChild : ByteArray := prog_8_method_2_code
def yX6_isNoChild : MethodName := ⟨RX6, "isNoChild", "(I)Z"⟩
abbrev cX6_isNoSchool : ByteArray := prog_8_method_3_code
def yX6_isNoSchool : MethodName := ⟨RX6, "isNoSchool", "(I)Z"⟩
abbrev cX6_addChild : ByteArray := prog_8_method_4_code
def yX6_addChild : MethodName := ⟨RX6, "addChild", "(IZIII)I"⟩
abbrev cX6_isShut : ByteArray := prog_8_method_5_code
def yX6_isShut : MethodName := ⟨RX6, "isShut", "(II)Z"⟩
abbrev cX6_hasFailed : ByteArray := prog_8_method_6_code
def yX6_hasFailed : MethodName := ⟨RX6, "hasFailed", "(II)Z"⟩
abbrev cX6_addBus : ByteArray := prog_8_method_7_code
def yX6_addBus : MethodName := ⟨RX6, "addBus", "(II)I"⟩
abbrev cX6_isWithin : ByteArray := prog_8_method_8_code
def yX6_isWithin : MethodName := ⟨RX6, "isWithin", "(III)Z"⟩
abbrev cX6_addSpan : ByteArray := prog_8_method_9_code
def yX6_addSpan : MethodName := ⟨RX6, "addSpan", "(IIII)I"⟩
abbrev cX6_becomeLike : ByteArray := prog_8_method_10_code
def yX6_becomeLike : MethodName := ⟨RX6, "becomeLike", "(LHalfDays$People;)V"⟩
abbrev cX7_init : ByteArray := prog_9_method_1_code
def yX7_init : MethodName := ⟨RX7, "<init>", "()V"⟩
abbrev cX7_append : ByteArray := prog_9_method_2_code
def yX7_append : MethodName := ⟨RX7, "append", "(I)V"⟩
abbrev cX7_readText : ByteArray := prog_9_method_3_code
def yX7_readText : MethodName := ⟨RX7, "readText", "()LHalfDays$Text;"⟩
abbrev cX7_readHead : ByteArray := prog_9_method_4_code
def yX7_readHead : MethodName := ⟨RX7, "readHead", "()V"⟩
abbrev cX7_readStepHead : ByteArray := prog_9_method_5_code
def yX7_readStepHead : MethodName := ⟨RX7, "readStepHead", "(IJ)V"⟩
abbrev cX7_putHead : ByteArray := prog_9_method_6_code
def yX7_putHead : MethodName := ⟨RX7, "putHead", "(II)V"⟩
abbrev cX7_readTest : ByteArray := prog_9_method_7_code
def yX7_readTest : MethodName := ⟨RX7, "readTest", "(I)V"⟩
abbrev cX7_readPlain : ByteArray := prog_9_method_8_code
def yX7_readPlain : MethodName := ⟨RX7, "readPlain", "(I)V"⟩
abbrev cX7_readSum : ByteArray := prog_9_method_9_code
def yX7_readSum : MethodName := ⟨RX7, "readSum", "(I)V"⟩
abbrev cX7_readPart : ByteArray := prog_9_method_10_code
def yX7_readPart : MethodName := ⟨RX7, "readPart", "(I)V"⟩
abbrev cX7_readLeaf : ByteArray := prog_9_method_11_code
def yX7_readLeaf : MethodName := ⟨RX7, "readLeaf", "(II)V"⟩
abbrev cX7_closeBracket : ByteArray := prog_9_method_12_code
def yX7_closeBracket : MethodName := ⟨RX7, "closeBracket", "(I)V"⟩
abbrev cX7_emit : ByteArray := prog_9_method_13_code
def yX7_emit : MethodName := ⟨RX7, "emit", "(II)V"⟩
abbrev cX7_landJump : ByteArray := prog_9_method_14_code
def yX7_landJump : MethodName := ⟨RX7, "landJump", "(I)V"⟩
abbrev cX7_takeNumber : ByteArray := prog_9_method_15_code
def yX7_takeNumber : MethodName := ⟨RX7, "takeNumber", "(II)I"⟩
abbrev cX7_takeLetter : ByteArray := prog_9_method_16_code
def yX7_takeLetter : MethodName := ⟨RX7, "takeLetter", "()I"⟩
abbrev cX7_takeKind : ByteArray := prog_9_method_17_code
def yX7_takeKind : MethodName := ⟨RX7, "takeKind", "()I"⟩
abbrev cX7_takeWord : ByteArray := prog_9_method_18_code
def yX7_takeWord : MethodName := ⟨RX7, "takeWord", "(J)V"⟩
abbrev cX7_wordAmong : ByteArray := prog_9_method_19_code
def yX7_wordAmong : MethodName := ⟨RX7, "wordAmong", "([J)I"⟩
abbrev cX7_isSign : ByteArray := prog_9_method_20_code
def yX7_isSign : MethodName := ⟨RX7, "isSign", "(I)Z"⟩
abbrev cX7_refuseToken : ByteArray := prog_9_method_21_code
def yX7_refuseToken : MethodName := ⟨RX7, "refuseToken", "()V"⟩
abbrev cX7_nextToken : ByteArray := prog_9_method_22_code
def yX7_nextToken : MethodName := ⟨RX7, "nextToken", "()V"⟩
abbrev cX8_init : ByteArray := prog_10_method_1_code
def yX8_init : MethodName := ⟨RX8, "<init>", "()V"⟩
abbrev cX8_addEntry : ByteArray := prog_10_method_2_code
def yX8_addEntry : MethodName := ⟨RX8, "addEntry", "(III)I"⟩
abbrev cX8_latestOf : ByteArray := prog_10_method_3_code
def yX8_latestOf : MethodName := ⟨RX8, "latestOf", "(II)I"⟩
abbrev cX8_isListed : ByteArray := prog_10_method_4_code
def yX8_isListed : MethodName := ⟨RX8, "isListed", "(III)Z"⟩
abbrev cX8_isListedWithin : ByteArray := prog_10_method_5_code
def yX8_isListedWithin : MethodName := ⟨RX8, "isListedWithin", "(IIII)Z"⟩
abbrev cX8_schoolsOf : ByteArray := prog_10_method_6_code
def yX8_schoolsOf : MethodName := ⟨RX8, "schoolsOf", "(II)I"⟩
abbrev cX8_isLost : ByteArray := prog_10_method_7_code
def yX8_isLost : MethodName := ⟨RX8, "isLost", "(II)Z"⟩
abbrev cX8_becomeLike : ByteArray := prog_10_method_8_code
def yX8_becomeLike : MethodName := ⟨RX8, "becomeLike", "(LHalfDays$Rolls;)V"⟩
abbrev cX9_init : ByteArray := prog_11_method_1_code
def yX9_init : MethodName := ⟨RX9, "<init>", "()V"⟩
abbrev cX9_becomeLike : ByteArray := prog_11_method_2_code
def yX9_becomeLike : MethodName := ⟨RX9, "becomeLike", "(LHalfDays$Steps;)V"⟩
abbrev cX10_init : ByteArray := prog_12_method_1_code
def yX10_init : MethodName := ⟨RX10, "<init>", "(LHalfDays$Reader;)V"⟩
abbrev cX11_init : ByteArray := prog_1_method_1_code
def yX11_init : MethodName := ⟨RX11, "<init>", "()V"⟩
abbrev cX11_child : ByteArray := prog_1_method_2_code
def yX11_child : MethodName := ⟨RX11, "child", "(IZIII)I"⟩
abbrev cX11_school : ByteArray := prog_1_method_3_code
def yX11_school : MethodName := ⟨RX11, "school", "()I"⟩
abbrev cX11_shut : ByteArray := prog_1_method_4_code
def yX11_shut : MethodName := ⟨RX11, "shut", "(II)I"⟩
abbrev cX11_comes : ByteArray := prog_1_method_5_code
def yX11_comes : MethodName := ⟨RX11, "comes", "(III)I"⟩
abbrev cX11_goes : ByteArray := prog_1_method_6_code
def yX11_goes : MethodName := ⟨RX11, "goes", "(IIII)I"⟩
abbrev cX11_isOn : ByteArray := prog_1_method_7_code
def yX11_isOn : MethodName := ⟨RX11, "isOn", "(III)I"⟩
abbrev cX11_failed : ByteArray := prog_1_method_8_code
def yX11_failed : MethodName := ⟨RX11, "failed", "(II)I"⟩
abbrev cX11_has : ByteArray := prog_1_method_9_code
def yX11_has : MethodName := ⟨RX11, "has", "(IIII)I"⟩
abbrev cX11_mark : ByteArray := prog_1_method_10_code
def yX11_mark : MethodName := ⟨RX11, "mark", "(IIIIII)I"⟩
abbrev cX11_appeal : ByteArray := prog_1_method_11_code
def yX11_appeal : MethodName := ⟨RX11, "appeal", "(III)I"⟩
abbrev cX11_tells : ByteArray := prog_1_method_12_code
def yX11_tells : MethodName := ⟨RX11, "tells", "(IIIII)I"⟩
abbrev cX11_sees : ByteArray := prog_1_method_13_code
def yX11_sees : MethodName := ⟨RX11, "sees", "(IIIII)I"⟩
abbrev cX11_feed : ByteArray := prog_1_method_14_code
def yX11_feed : MethodName := ⟨RX11, "feed", "(IIIII)I"⟩
abbrev cX11_end : ByteArray := prog_1_method_15_code
def yX11_end : MethodName := ⟨RX11, "end", "(I)I"⟩
abbrev cX11_act : ByteArray := prog_1_method_16_code
def yX11_act : MethodName := ⟨RX11, "act", "(I)I"⟩
abbrev cX11_fault : ByteArray := prog_1_method_17_code
def yX11_fault : MethodName := ⟨RX11, "fault", "()I"⟩
abbrev cX11_force : ByteArray := prog_1_method_18_code
def yX11_force : MethodName := ⟨RX11, "force", "(III)I"⟩
abbrev cX11_rate : ByteArray := prog_1_method_19_code
def yX11_rate : MethodName := ⟨RX11, "rate", "(IIIII)I"⟩
abbrev cX11_dip : ByteArray := prog_1_method_20_code
def yX11_dip : MethodName := ⟨RX11, "dip", "(IIIII)I"⟩
abbrev cX11_due : ByteArray := prog_1_method_21_code
def yX11_due : MethodName := ⟨RX11, "due", "(IIII)I"⟩
abbrev cX11_take : ByteArray := prog_1_method_22_code
def yX11_take : MethodName := ⟨RX11, "take", "(III)I"⟩
abbrev cX11_stands : ByteArray := prog_1_method_23_code
def yX11_stands : MethodName := ⟨RX11, "stands", "(III)I"⟩
abbrev cX11_pay : ByteArray := prog_1_method_24_code
def yX11_pay : MethodName := ⟨RX11, "pay", "(III)I"⟩
abbrev cX11_fine : ByteArray := prog_1_method_25_code
def yX11_fine : MethodName := ⟨RX11, "fine", "(IIII)I"⟩
abbrev cX11_off : ByteArray := prog_1_method_26_code
def yX11_off : MethodName := ⟨RX11, "off", "(III)I"⟩
abbrev cX11_rolls : ByteArray := prog_1_method_27_code
def yX11_rolls : MethodName := ⟨RX11, "rolls", "(III)I"⟩
abbrev cX11_seen : ByteArray := prog_1_method_28_code
def yX11_seen : MethodName := ⟨RX11, "seen", "(III)I"⟩
abbrev cX11_record : ByteArray := prog_1_method_29_code
def yX11_record : MethodName := ⟨RX11, "record", "(I)I"⟩
abbrev cX11_missing : ByteArray := prog_1_method_30_code
def yX11_missing : MethodName := ⟨RX11, "missing", "(II)I"⟩
abbrev cX11_join : ByteArray := prog_1_method_31_code
def yX11_join : MethodName := ⟨RX11, "join", "(I)I"⟩
abbrev cX11_joined : ByteArray := prog_1_method_32_code
def yX11_joined : MethodName := ⟨RX11, "joined", "(I)I"⟩
abbrev cX11_judge : ByteArray := prog_1_method_33_code
def yX11_judge : MethodName := ⟨RX11, "judge", "(II)I"⟩
abbrev cX11_cannot : ByteArray := prog_1_method_34_code
def yX11_cannot : MethodName := ⟨RX11, "cannot", "(IIII)I"⟩
abbrev cX11_visit : ByteArray := prog_1_method_35_code
def yX11_visit : MethodName := ⟨RX11, "visit", "(III)I"⟩
abbrev cX11_round : ByteArray := prog_1_method_36_code
def yX11_round : MethodName := ⟨RX11, "round", "(IIII)I"⟩
abbrev cX11_dips : ByteArray := prog_1_method_37_code
def yX11_dips : MethodName := ⟨RX11, "dips", "(IIII)I"⟩
abbrev cX11_draw : ByteArray := prog_1_method_38_code
def yX11_draw : MethodName := ⟨RX11, "draw", "(III)I"⟩
abbrev cX11_helped : ByteArray := prog_1_method_39_code
def yX11_helped : MethodName := ⟨RX11, "helped", "(I)I"⟩
abbrev cX11_beside : ByteArray := prog_1_method_40_code
def yX11_beside : MethodName := ⟨RX11, "beside", "(II)I"⟩
abbrev cX11_seal : ByteArray := prog_1_method_41_code
def yX11_seal : MethodName := ⟨RX11, "seal", "(I)I"⟩
abbrev cX11_alter : ByteArray := prog_1_method_42_code
def yX11_alter : MethodName := ⟨RX11, "alter", "(II)I"⟩
abbrev cX11_found : ByteArray := prog_1_method_43_code
def yX11_found : MethodName := ⟨RX11, "found", "(I)I"⟩
abbrev cX11_image : ByteArray := prog_1_method_44_code
def yX11_image : MethodName := ⟨RX11, "image", "(I)I"⟩
abbrev cX11_back : ByteArray := prog_1_method_45_code
def yX11_back : MethodName := ⟨RX11, "back", "(I)I"⟩
abbrev cX11_count : ByteArray := prog_1_method_46_code
def yX11_count : MethodName := ⟨RX11, "count", "(I)I"⟩
abbrev cX11_status : ByteArray := prog_1_method_47_code
def yX11_status : MethodName := ⟨RX11, "status", "()I"⟩
abbrev cX11_answer : ByteArray := prog_1_method_48_code
def yX11_answer : MethodName := ⟨RX11, "answer", "(I)I"⟩
abbrev cX11_markThatCounts : ByteArray := prog_1_method_49_code
def yX11_markThatCounts : MethodName := ⟨RX11, "markThatCounts", "(IIII)I"⟩
abbrev cX11_isOutside : ByteArray := prog_1_method_50_code
def yX11_isOutside : MethodName := ⟨RX11, "isOutside", "(III)Z"⟩
abbrev cX11_isNoDay : ByteArray := prog_1_method_51_code
def yX11_isNoDay : MethodName := ⟨RX11, "isNoDay", "(I)Z"⟩
abbrev cX11_isNoHalf : ByteArray := prog_1_method_52_code
def yX11_isNoHalf : MethodName := ⟨RX11, "isNoHalf", "(I)Z"⟩
abbrev cX11_areNoHalves : ByteArray := prog_1_method_53_code
def yX11_areNoHalves : MethodName := ⟨RX11, "areNoHalves", "(II)Z"⟩
abbrev cX11_isNoStep : ByteArray := prog_1_method_54_code
def yX11_isNoStep : MethodName := ⟨RX11, "isNoStep", "(I)Z"⟩
abbrev cX11_isNoPlace : ByteArray := prog_1_method_55_code
def yX11_isNoPlace : MethodName := ⟨RX11, "isNoPlace", "(II)Z"⟩
abbrev cX11_areNoFigures : ByteArray := prog_1_method_56_code
def yX11_areNoFigures : MethodName := ⟨RX11, "areNoFigures", "(I)Z"⟩
abbrev cX11_isAmong : ByteArray := prog_1_method_57_code
def yX11_isAmong : MethodName := ⟨RX11, "isAmong", "([III)Z"⟩
abbrev cX11_copyRow : ByteArray := prog_1_method_58_code
def yX11_copyRow : MethodName := ⟨RX11, "copyRow", "([I[I)V"⟩
abbrev cX12_init : ByteArray := prog_14_method_1_code
def yX12_init : MethodName := ⟨RX12, "<init>", "()V"⟩
abbrev cX12_in : ByteArray := prog_14_method_3_code
def yX12_in : MethodName := ⟨RX12, "in", "(JJJ)Z"⟩
abbrev cX12_told : ByteArray := prog_14_method_4_code
def yX12_told : MethodName := ⟨RX12, "told", "(I)I"⟩
abbrev cX12_isDay : ByteArray := prog_14_method_5_code
def yX12_isDay : MethodName := ⟨RX12, "isDay", "(I)Z"⟩
abbrev cX12_isHalf : ByteArray := prog_14_method_6_code
def yX12_isHalf : MethodName := ⟨RX12, "isHalf", "(I)Z"⟩
abbrev cX12_image : ByteArray := prog_14_method_7_code
def yX12_image : MethodName := ⟨RX12, "image", "(I)I"⟩
abbrev cX12_back : ByteArray := prog_14_method_8_code
def yX12_back : MethodName := ⟨RX12, "back", "(I)I"⟩
abbrev cX12_addFour : ByteArray := prog_14_method_9_code
def yX12_addFour : MethodName := ⟨RX12, "addFour", "(IIIII)V"⟩
abbrev cX12_isChild : ByteArray := prog_14_method_10_code
def yX12_isChild : MethodName := ⟨RX12, "isChild", "(I)Z"⟩
abbrev cX12_isSchool : ByteArray := prog_14_method_11_code
def yX12_isSchool : MethodName := ⟨RX12, "isSchool", "(I)Z"⟩
abbrev cX12_childAt : ByteArray := prog_14_method_12_code
def yX12_childAt : MethodName := ⟨RX12, "childAt", "(I)I"⟩
abbrev cX12_child : ByteArray := prog_14_method_13_code
def yX12_child : MethodName := ⟨RX12, "child", "(IZIII)I"⟩
abbrev cX12_school : ByteArray := prog_14_method_14_code
def yX12_school : MethodName := ⟨RX12, "school", "()I"⟩
abbrev cX12_shut : ByteArray := prog_14_method_15_code
def yX12_shut : MethodName := ⟨RX12, "shut", "(II)I"⟩
abbrev cX12_isOnRoll : ByteArray := prog_14_method_16_code
def yX12_isOnRoll : MethodName := ⟨RX12, "isOnRoll", "(II)Z"⟩
abbrev cX12_isOnSchool : ByteArray := prog_14_method_17_code
def yX12_isOnSchool : MethodName := ⟨RX12, "isOnSchool", "(III)Z"⟩
abbrev cX12_comes : ByteArray := prog_14_method_18_code
def yX12_comes : MethodName := ⟨RX12, "comes", "(III)I"⟩
abbrev cX12_goes : ByteArray := prog_14_method_19_code
def yX12_goes : MethodName := ⟨RX12, "goes", "(IIII)I"⟩
abbrev cX12_isOn : ByteArray := prog_14_method_20_code
def yX12_isOn : MethodName := ⟨RX12, "isOn", "(III)I"⟩
abbrev cX12_failed : ByteArray := prog_14_method_21_code
def yX12_failed : MethodName := ⟨RX12, "failed", "(II)I"⟩
abbrev cX12_hasFailed : ByteArray := prog_14_method_22_code
def yX12_hasFailed : MethodName := ⟨RX12, "hasFailed", "(II)Z"⟩
abbrev cX12_has : ByteArray := prog_14_method_23_code
def yX12_has : MethodName := ⟨RX12, "has", "(IIII)I"⟩
abbrev cX12_hasOn : ByteArray := prog_14_method_24_code
def yX12_hasOn : MethodName := ⟨RX12, "hasOn", "(III)Z"⟩
abbrev cX12_markAt : ByteArray := prog_14_method_25_code
def yX12_markAt : MethodName := ⟨RX12, "markAt", "(I)I"⟩
abbrev cX12_isMark : ByteArray := prog_14_method_26_code
def yX12_isMark : MethodName := ⟨RX12, "isMark", "(I)Z"⟩
abbrev cX12_mark : ByteArray := prog_14_method_27_code
def yX12_mark : MethodName := ⟨RX12, "mark", "(IIIIII)I"⟩
abbrev cX12_appeal : ByteArray := prog_14_method_28_code
def yX12_appeal : MethodName := ⟨RX12, "appeal", "(III)I"⟩
abbrev cX12_knowBy : ByteArray := prog_14_method_29_code
def yX12_knowBy : MethodName := ⟨RX12, "knowBy", "(I)V"⟩
abbrev cX12_findKinds : ByteArray := prog_14_method_30_code
def yX12_findKinds : MethodName := ⟨RX12, "findKinds", "()V"⟩
abbrev cX12_countsIn : ByteArray := prog_14_method_31_code
def yX12_countsIn : MethodName := ⟨RX12, "countsIn", "(III)I"⟩
abbrev cX12_tells : ByteArray := prog_14_method_32_code
def yX12_tells : MethodName := ⟨RX12, "tells", "(IIIII)I"⟩
abbrev cX12_sees : ByteArray := prog_14_method_33_code
def yX12_sees : MethodName := ⟨RX12, "sees", "(IIIII)I"⟩
abbrev cX12_four : ByteArray := prog_14_method_34_code
def yX12_four : MethodName := ⟨RX12, "four", "(I)V"⟩
abbrev cX12_feed : ByteArray := prog_14_method_35_code
def yX12_feed : MethodName := ⟨RX12, "feed", "(IIIII)I"⟩
abbrev cX12_end : ByteArray := prog_14_method_36_code
def yX12_end : MethodName := ⟨RX12, "end", "(I)I"⟩
abbrev cX12_isSmall : ByteArray := prog_14_method_37_code
def yX12_isSmall : MethodName := ⟨RX12, "isSmall", "(I)Z"⟩
abbrev cX12_isDigit : ByteArray := prog_14_method_38_code
def yX12_isDigit : MethodName := ⟨RX12, "isDigit", "(I)Z"⟩
abbrev cX12_begin : ByteArray := prog_14_method_39_code
def yX12_begin : MethodName := ⟨RX12, "begin", "()V"⟩
abbrev cX12_next : ByteArray := prog_14_method_40_code
def yX12_next : MethodName := ⟨RX12, "next", "()V"⟩
abbrev cX12_isWord : ByteArray := prog_14_method_41_code
def yX12_isWord : MethodName := ⟨RX12, "isWord", "(J)Z"⟩
abbrev cX12_isSign : ByteArray := prog_14_method_42_code
def yX12_isSign : MethodName := ⟨RX12, "isSign", "(I)Z"⟩
abbrev cX12_must : ByteArray := prog_14_method_43_code
def yX12_must : MethodName := ⟨RX12, "must", "(Z)V"⟩
abbrev cX12_number : ByteArray := prog_14_method_44_code
def yX12_number : MethodName := ⟨RX12, "number", "(JJ)I"⟩
abbrev cX12_fault : ByteArray := prog_14_method_45_code
def yX12_fault : MethodName := ⟨RX12, "fault", "()I"⟩
abbrev cX12_emit : ByteArray := prog_14_method_46_code
def yX12_emit : MethodName := ⟨RX12, "emit", "(II)V"⟩
abbrev cX12_push : ByteArray := prog_14_method_47_code
def yX12_push : MethodName := ⟨RX12, "push", "(II)V"⟩
abbrev cX12_binds : ByteArray := prog_14_method_48_code
def yX12_binds : MethodName := ⟨RX12, "binds", "(I)I"⟩
abbrev cX12_settle : ByteArray := prog_14_method_49_code
def yX12_settle : MethodName := ⟨RX12, "settle", "(I)V"⟩
abbrev cX12_inner : ByteArray := prog_14_method_50_code
def yX12_inner : MethodName := ⟨RX12, "inner", "()I"⟩
abbrev cX12_isCompared : ByteArray := prog_14_method_51_code
def yX12_isCompared : MethodName := ⟨RX12, "isCompared", "()Z"⟩
abbrev cX12_partAt : ByteArray := prog_14_method_52_code
def yX12_partAt : MethodName := ⟨RX12, "partAt", "()I"⟩
abbrev cX12_plainAt : ByteArray := prog_14_method_53_code
def yX12_plainAt : MethodName := ⟨RX12, "plainAt", "()I"⟩
abbrev cX12_open : ByteArray := prog_14_method_54_code
def yX12_open : MethodName := ⟨RX12, "open", "(I)V"⟩
abbrev cX12_leaf : ByteArray := prog_14_method_55_code
def yX12_leaf : MethodName := ⟨RX12, "leaf", "(ZII)V"⟩
abbrev cX12_readPart : ByteArray := prog_14_method_56_code
def yX12_readPart : MethodName := ⟨RX12, "readPart", "()I"⟩
abbrev cX12_readPlain : ByteArray := prog_14_method_57_code
def yX12_readPlain : MethodName := ⟨RX12, "readPlain", "()I"⟩
abbrev cX12_behindSum : ByteArray := prog_14_method_58_code
def yX12_behindSum : MethodName := ⟨RX12, "behindSum", "(Z)I"⟩
abbrev cX12_behindTest : ByteArray := prog_14_method_59_code
def yX12_behindTest : MethodName := ⟨RX12, "behindTest", "()I"⟩
abbrev cX12_readExpression : ByteArray := prog_14_method_60_code
def yX12_readExpression : MethodName := ⟨RX12, "readExpression", "(Z)V"⟩
abbrev cX12_headAt : ByteArray := prog_14_method_61_code
def yX12_headAt : MethodName := ⟨RX12, "headAt", "()I"⟩
abbrev cX12_letter : ByteArray := prog_14_method_62_code
def yX12_letter : MethodName := ⟨RX12, "letter", "()I"⟩
abbrev cX12_kind : ByteArray := prog_14_method_63_code
def yX12_kind : MethodName := ⟨RX12, "kind", "()I"⟩
abbrev cX12_readClause : ByteArray := prog_14_method_64_code
def yX12_readClause : MethodName := ⟨RX12, "readClause", "()V"⟩
abbrev cX12_readText : ByteArray := prog_14_method_65_code
def yX12_readText : MethodName := ⟨RX12, "readText", "(I)Z"⟩
abbrev cX12_act : ByteArray := prog_14_method_66_code
def yX12_act : MethodName := ⟨RX12, "act", "(I)I"⟩
abbrev cX12_textAt : ByteArray := prog_14_method_67_code
def yX12_textAt : MethodName := ⟨RX12, "textAt", "(I)I"⟩
abbrev cX12_clauseAt : ByteArray := prog_14_method_68_code
def yX12_clauseAt : MethodName := ⟨RX12, "clauseAt", "(II)I"⟩
abbrev cX12_findForce : ByteArray := prog_14_method_69_code
def yX12_findForce : MethodName := ⟨RX12, "findForce", "(I)V"⟩
abbrev cX12_force : ByteArray := prog_14_method_70_code
def yX12_force : MethodName := ⟨RX12, "force", "(III)I"⟩
abbrev cX12_setFor : ByteArray := prog_14_method_71_code
def yX12_setFor : MethodName := ⟨RX12, "setFor", "(II)V"⟩
abbrev cX12_reckon : ByteArray := prog_14_method_72_code
def yX12_reckon : MethodName := ⟨RX12, "reckon", "(IJJ)J"⟩
abbrev cX12_run : ByteArray := prog_14_method_73_code
def yX12_run : MethodName := ⟨RX12, "run", "(III)V"⟩
abbrev cX12_find : ByteArray := prog_14_method_74_code
def yX12_find : MethodName := ⟨RX12, "find", "(III)Z"⟩
abbrev cX12_isSo : ByteArray := prog_14_method_75_code
def yX12_isSo : MethodName := ⟨RX12, "isSo", "(II)Z"⟩
abbrev cX12_common : ByteArray := prog_14_method_76_code
def yX12_common : MethodName := ⟨RX12, "common", "(JJ)J"⟩
abbrev cX12_addUp : ByteArray := prog_14_method_77_code
def yX12_addUp : MethodName := ⟨RX12, "addUp", "(IIII)V"⟩
abbrev cX12_tellRate : ByteArray := prog_14_method_78_code
def yX12_tellRate : MethodName := ⟨RX12, "tellRate", "(I)I"⟩
abbrev cX12_rate : ByteArray := prog_14_method_79_code
def yX12_rate : MethodName := ⟨RX12, "rate", "(IIIII)I"⟩
abbrev cX12_dip : ByteArray := prog_14_method_80_code
def yX12_dip : MethodName := ⟨RX12, "dip", "(IIIII)I"⟩
abbrev cX12_findSessions : ByteArray := prog_14_method_81_code
def yX12_findSessions : MethodName := ⟨RX12, "findSessions", "(I)V"⟩
abbrev cX12_setDay : ByteArray := prog_14_method_82_code
def yX12_setDay : MethodName := ⟨RX12, "setDay", "(II)V"⟩
abbrev cX12_dueOf : ByteArray := prog_14_method_83_code
def yX12_dueOf : MethodName := ⟨RX12, "dueOf", "(III)I"⟩
abbrev cX12_isStep : ByteArray := prog_14_method_84_code
def yX12_isStep : MethodName := ⟨RX12, "isStep", "(I)Z"⟩
abbrev cX12_due : ByteArray := prog_14_method_85_code
def yX12_due : MethodName := ⟨RX12, "due", "(IIII)I"⟩
abbrev cX12_takenOn : ByteArray := prog_14_method_86_code
def yX12_takenOn : MethodName := ⟨RX12, "takenOn", "(II)I"⟩
abbrev cX12_dueFrom : ByteArray := prog_14_method_87_code
def yX12_dueFrom : MethodName := ⟨RX12, "dueFrom", "(II)I"⟩
abbrev cX12_take : ByteArray := prog_14_method_88_code
def yX12_take : MethodName := ⟨RX12, "take", "(III)I"⟩
abbrev cX12_doesStand : ByteArray := prog_14_method_89_code
def yX12_doesStand : MethodName := ⟨RX12, "doesStand", "(III)Z"⟩
abbrev cX12_stands : ByteArray := prog_14_method_90_code
def yX12_stands : MethodName := ⟨RX12, "stands", "(III)I"⟩
abbrev cX12_fineOf : ByteArray := prog_14_method_91_code
def yX12_fineOf : MethodName := ⟨RX12, "fineOf", "(II)I"⟩
abbrev cX12_pay : ByteArray := prog_14_method_92_code
def yX12_pay : MethodName := ⟨RX12, "pay", "(III)I"⟩
abbrev cX12_fine : ByteArray := prog_14_method_93_code
def yX12_fine : MethodName := ⟨RX12, "fine", "(IIII)I"⟩
abbrev cX12_off : ByteArray := prog_14_method_94_code
def yX12_off : MethodName := ⟨RX12, "off", "(III)I"⟩
abbrev cX12_rollsOf : ByteArray := prog_14_method_95_code
def yX12_rollsOf : MethodName := ⟨RX12, "rollsOf", "(II)I"⟩
abbrev cX12_isLost : ByteArray := prog_14_method_96_code
def yX12_isLost : MethodName := ⟨RX12, "isLost", "(II)Z"⟩
abbrev cX12_rolls : ByteArray := prog_14_method_97_code
def yX12_rolls : MethodName := ⟨RX12, "rolls", "(III)I"⟩
abbrev cX12_seen : ByteArray := prog_14_method_98_code
def yX12_seen : MethodName := ⟨RX12, "seen", "(III)I"⟩
abbrev cX12_record : ByteArray := prog_14_method_99_code
def yX12_record : MethodName := ⟨RX12, "record", "(I)I"⟩
abbrev cX12_missing : ByteArray := prog_14_method_100_code
def yX12_missing : MethodName := ⟨RX12, "missing", "(II)I"⟩
abbrev cX12_likeOf : ByteArray := prog_14_method_101_code
def yX12_likeOf : MethodName := ⟨RX12, "likeOf", "(II)I"⟩
abbrev cX12_isJoin : ByteArray := prog_14_method_102_code
def yX12_isJoin : MethodName := ⟨RX12, "isJoin", "(I)Z"⟩
abbrev cX12_join : ByteArray := prog_14_method_103_code
def yX12_join : MethodName := ⟨RX12, "join", "(I)I"⟩
abbrev cX12_joined : ByteArray := prog_14_method_104_code
def yX12_joined : MethodName := ⟨RX12, "joined", "(I)I"⟩
abbrev cX12_judge : ByteArray := prog_14_method_105_code
def yX12_judge : MethodName := ⟨RX12, "judge", "(II)I"⟩
abbrev cX12_cannotBe : ByteArray := prog_14_method_106_code
def yX12_cannotBe : MethodName := ⟨RX12, "cannotBe", "(I)Z"⟩
abbrev cX12_cannot : ByteArray := prog_14_method_107_code
def yX12_cannot : MethodName := ⟨RX12, "cannot", "(IIII)I"⟩
abbrev cX12_visit : ByteArray := prog_14_method_108_code
def yX12_visit : MethodName := ⟨RX12, "visit", "(III)I"⟩
abbrev cX12_far : ByteArray := prog_14_method_109_code
def yX12_far : MethodName := ⟨RX12, "far", "(III)I"⟩
abbrev cX12_between : ByteArray := prog_14_method_110_code
def yX12_between : MethodName := ⟨RX12, "between", "(II)I"⟩
abbrev cX12_minutesOf : ByteArray := prog_14_method_111_code
def yX12_minutesOf : MethodName := ⟨RX12, "minutesOf", "(III)I"⟩
abbrev cX12_findWays : ByteArray := prog_14_method_112_code
def yX12_findWays : MethodName := ⟨RX12, "findWays", "(II)V"⟩
abbrev cX12_round : ByteArray := prog_14_method_113_code
def yX12_round : MethodName := ⟨RX12, "round", "(IIII)I"⟩
abbrev cX12_dips : ByteArray := prog_14_method_114_code
def yX12_dips : MethodName := ⟨RX12, "dips", "(IIII)I"⟩
abbrev cX12_draw : ByteArray := prog_14_method_115_code
def yX12_draw : MethodName := ⟨RX12, "draw", "(III)I"⟩
abbrev cX12_helped : ByteArray := prog_14_method_116_code
def yX12_helped : MethodName := ⟨RX12, "helped", "(I)I"⟩
abbrev cX12_beside : ByteArray := prog_14_method_117_code
def yX12_beside : MethodName := ⟨RX12, "beside", "(II)I"⟩
abbrev cX12_addDay : ByteArray := prog_14_method_118_code
def yX12_addDay : MethodName := ⟨RX12, "addDay", "(I)V"⟩
abbrev cX12_seal : ByteArray := prog_14_method_119_code
def yX12_seal : MethodName := ⟨RX12, "seal", "(I)I"⟩
abbrev cX12_alter : ByteArray := prog_14_method_120_code
def yX12_alter : MethodName := ⟨RX12, "alter", "(II)I"⟩
abbrev cX12_found : ByteArray := prog_14_method_121_code
def yX12_found : MethodName := ⟨RX12, "found", "(I)I"⟩
abbrev cX12_count : ByteArray := prog_14_method_122_code
def yX12_count : MethodName := ⟨RX12, "count", "(I)I"⟩
abbrev cX12_status : ByteArray := prog_14_method_123_code
def yX12_status : MethodName := ⟨RX12, "status", "()I"⟩
abbrev cJ6_bitCount_0f7a4 : ByteArray := prog_16_method_49_code
def yJ6_bitCount_0f7a4 : MethodName := ⟨RJ6, "bitCount", "(I)I"⟩
abbrev cJ9_abs_0f7a4 : ByteArray := prog_17_method_59_code
def yJ9_abs_0f7a4 : MethodName := ⟨RJ9, "abs", "(I)I"⟩
abbrev cJ9_max_7cf53 : ByteArray := prog_17_method_65_code
def yJ9_max_7cf53 : MethodName := ⟨RJ9, "max", "(II)I"⟩
abbrev cJ9_min_7cf53 : ByteArray := prog_17_method_69_code
def yJ9_min_7cf53 : MethodName := ⟨RJ9, "min", "(II)I"⟩
abbrev cJ7_fill_53178 : ByteArray := prog_19_method_103_code
def yJ7_fill_53178 : MethodName := ⟨RJ7, "fill", "([II)V"⟩
abbrev cJ7_copyOf_59c91 : ByteArray := prog_19_method_123_code
def yJ7_copyOf_59c91 : MethodName := ⟨RJ7, "copyOf", "([II)[I"⟩
abbrev vwCl : List vw_C := [(RX0, TX0, 3), (RX1, TX1, 19), (RX2, TX2, 14), (RX3, TX3, 6), (RX4, TX4, 13), (RX5, TX5, 15), (RX6, TX6, 15), (RX7, TX7, 16), (RX8, TX8, 6), (RX9, TX9, 3), (RX10, TX10, 6), (RX11, TX11, 6), (RX12, TX12, 56)]
end
section
/-! the words that every contract takes: the tables' good ones, whole -/
def lw_g : List Cond := lw_tbl.filter goodWord
theorem lw_g_sub {w : Cond} (h : w ∈ lw_g) : w ∈ lw_tbl := (List.mem_filter.mp h).1
theorem lw_g_good : ∀ w ∈ lw_g, goodWord w = true := fun _ h => (List.mem_filter.mp h).2
theorem mk_k {w : Cond} (i : Nat) (h : tables_1[i]? = some w) (hg : goodWord w = true) : w ∈ lw_g := List.mem_filter.mpr ⟨List.mem_append_right _ (List.mem_of_getElem? h), hg⟩
theorem mk_c1 {w : Cond} (i : Nat) (h : tables_1_1[i]? = some w) (hg : goodWord w = true) : w ∈ lw_g := List.mem_filter.mpr ⟨List.mem_append_right _ (List.mem_append_left _ (List.mem_of_getElem? h)), hg⟩
theorem mk_c2 {w : Cond} (i : Nat) (h : tables_1_2[i]? = some w) (hg : goodWord w = true) : w ∈ lw_g := List.mem_filter.mpr ⟨List.mem_append_right _ (List.mem_append_right _ (List.mem_append_left _ (List.mem_of_getElem? h))), hg⟩
theorem mk_c3 {w : Cond} (i : Nat) (h : tables_1_3[i]? = some w) (hg : goodWord w = true) : w ∈ lw_g := List.mem_filter.mpr ⟨List.mem_append_right _ (List.mem_append_right _ (List.mem_append_right _ (List.mem_append_left _ (List.mem_of_getElem? h)))), hg⟩
theorem mk_c4 {w : Cond} (i : Nat) (h : tables_1_4[i]? = some w) (hg : goodWord w = true) : w ∈ lw_g := List.mem_filter.mpr ⟨List.mem_append_right _ (List.mem_append_right _ (List.mem_append_right _ (List.mem_append_right _ (List.mem_append_left _ (List.mem_of_getElem? h))))), hg⟩
theorem mk_c5 {w : Cond} (i : Nat) (h : tables_1_5[i]? = some w) (hg : goodWord w = true) : w ∈ lw_g := List.mem_filter.mpr ⟨List.mem_append_right _ (List.mem_append_right _ (List.mem_append_right _ (List.mem_append_right _ (List.mem_append_right _ (List.mem_append_left _ (List.mem_of_getElem? h)))))), hg⟩
theorem mk_c6 {w : Cond} (i : Nat) (h : tables_1_6[i]? = some w) (hg : goodWord w = true) : w ∈ lw_g := List.mem_filter.mpr ⟨List.mem_append_right _ (List.mem_append_right _ (List.mem_append_right _ (List.mem_append_right _ (List.mem_append_right _ (List.mem_append_right _ (List.mem_append_left _ (List.mem_of_getElem? h))))))), hg⟩
theorem mk_c7 {w : Cond} (i : Nat) (h : tables_1_7[i]? = some w) (hg : goodWord w = true) : w ∈ lw_g := List.mem_filter.mpr ⟨List.mem_append_right _ (List.mem_append_right _ (List.mem_append_right _ (List.mem_append_right _ (List.mem_append_right _ (List.mem_append_right _ (List.mem_append_right _ (List.mem_append_left _ (List.mem_of_getElem? h)))))))), hg⟩
theorem mk_c8 {w : Cond} (i : Nat) (h : tables_1_8[i]? = some w) (hg : goodWord w = true) : w ∈ lw_g := List.mem_filter.mpr ⟨List.mem_append_right _ (List.mem_append_right _ (List.mem_append_right _ (List.mem_append_right _ (List.mem_append_right _ (List.mem_append_right _ (List.mem_append_right _ (List.mem_append_right _ (List.mem_append_left _ (List.mem_of_getElem? h))))))))), hg⟩
theorem mk_c9 {w : Cond} (i : Nat) (h : tables_1_9[i]? = some w) (hg : goodWord w = true) : w ∈ lw_g := List.mem_filter.mpr ⟨List.mem_append_right _ (List.mem_append_right _ (List.mem_append_right _ (List.mem_append_right _ (List.mem_append_right _ (List.mem_append_right _ (List.mem_append_right _ (List.mem_append_right _ (List.mem_append_right _ (List.mem_of_getElem? h))))))))), hg⟩
theorem mk_s {w : Cond} (i : Nat) (h : (k2_sels lw_privs)[i]? = some w) (hg : goodWord w = true) : w ∈ lw_g := List.mem_filter.mpr ⟨List.mem_append_left _ (List.mem_of_getElem? h), hg⟩
theorem mk_u {C : String} {T : u_T} {N : Nat} (ps : List Nat) (hp : u_ws C T N = ps.filterMap (fun i => tables_1[i]?)) (hg : (u_ws C T N).all goodWord = true) : ∀ w ∈ u_ws C T N, w ∈ lw_g := by
  intro w hw
  have h1 := List.all_eq_true.mp hg w hw
  rw [hp] at hw
  obtain ⟨i, -, hi⟩ := List.mem_filterMap.mp hw
  exact mk_k i hi h1
/-- the words that hold by warming alone -/
def zz_nestB : Cond → Bool
  | .methodLinkNest .. => true
  | .fieldLinkNest .. => true
  | _ => false
def lw_nest : List Cond := tables_1.filter zz_nestB
theorem mk_n {w : Cond} (i : Nat) (h : tables_1[i]? = some w) (hg : zz_nestB w = true) : w ∈ lw_nest := List.mem_filter.mpr ⟨List.mem_of_getElem? h, hg⟩
def zN (U : State) : Prop := (∀ w ∈ lw_nest, va_Nw w U) ∧ va_AO "HalfDays$Text" U ∧ va_AO "HalfDays$County" U
theorem zN.warm {s U : State} (hW : s.WarmedH U.vm) (h : zN s) : zN U := by
  refine ⟨fun w hw => ?_, h.2.1.moved hW.alike, h.2.2.moved hW.alike⟩
  have h1 := h.1 w hw
  have h2 := (List.mem_filter.mp hw).2
  cases w with
  | methodLinkNest a i x hh => exact va_Nw.warmM hW h1
  | fieldLinkNest a i b n d hh => exact va_Nw.warmF hW h1
  | _ => cases h2
abbrev TYk (k : Nat → ClassId) : List (ClassId × FieldType) := [(k 0, .int), (k 1, .long), (k 2, .boolean), (k 3, .object "HalfDays$Text"), (k 4, .object "HalfDays$County")]
def zPre (D : va_G) (k : Nat → ClassId) (ws : va_W) (sz : Nat) (U : State) : Prop := U.heap.size = sz ∧ va_P D vwCl ws U.heap ∧ va_K D vwCl (TYk k) U ∧ va_D (fun _ => True) ws ∧ zN U
abbrev zS : Type := Nat × (Nat → Nat)
def zB (D : va_G) (k : Nat → ClassId) (A : Nat → Prop) (wo : zS → va_W) (u : zS) (t : State) : Prop := va_P D vwCl (wo u) t.heap ∧ va_K D vwCl (TYk k) t ∧ va_D A (wo u)
/-- a contract: from any heap that holds ws, the method returns an int -/
def zMi (l : Launch) (y : MethodName) (cc : ByteArray) (n : Nat) (ret : Option FieldType) (rm : Room) (D : va_G) (k : Nat → ClassId) (av : List Value) (ws : va_W) (post : Int32 → zS → Prop) (wo : zS → va_W) : Prop :=
  ∀ sz : Nat, Met l y (Cond.code y cc n ret :: lw_g) rm (va_Pc av (zPre D k ws sz)) (va_Qi post (zB D k (va_A ws sz) wo) (va_A ws sz)) rm.cells rm.slots (va_A ws sz)
def zMl (l : Launch) (y : MethodName) (cc : ByteArray) (n : Nat) (ret : Option FieldType) (rm : Room) (D : va_G) (k : Nat → ClassId) (av : List Value) (ws : va_W) (post : Int64 → zS → Prop) (wo : zS → va_W) : Prop :=
  ∀ sz : Nat, Met l y (Cond.code y cc n ret :: lw_g) rm (va_Pc av (zPre D k ws sz)) (va_Ql post (zB D k (va_A ws sz) wo) (va_A ws sz)) rm.cells rm.slots (va_A ws sz)
def zMv (l : Launch) (y : MethodName) (cc : ByteArray) (n : Nat) (ret : Option FieldType) (rm : Room) (D : va_G) (k : Nat → ClassId) (av : List Value) (ws : va_W) (post : zS → Prop) (wo : zS → va_W) : Prop :=
  ∀ sz : Nat, Met l y (Cond.code y cc n ret :: lw_g) rm (va_Pc av (zPre D k ws sz)) (va_Qv post (zB D k (va_A ws sz) wo) (va_A ws sz)) rm.cells rm.slots (va_A ws sz)
def zMq (l : Launch) (y : MethodName) (cc : ByteArray) (n : Nat) (ret : Option FieldType) (rm : Room) (D : va_G) (k : Nat → ClassId) (av : List Value) (ws : va_W) (post : Option Nat → zS → Prop) (wo : zS → va_W) : Prop :=
  ∀ sz : Nat, Met l y (Cond.code y cc n ret :: lw_g) rm (va_Pc av (zPre D k ws sz)) (va_Qq post (zB D k (va_A ws sz) wo) (va_A ws sz)) rm.cells rm.slots (va_A ws sz)
def okd (y : MethodName) (n : Nat) : Prop := y.cls ≠ "java/lang/invoke/MethodHandle" ∧ y.cls ≠ "java/lang/invoke/VarHandle" ∧ (parseMethodDescriptor y.desc).map (fun d => d.parameters.length) = some n
def okV (C : String) (y : MethodName) (cc : ByteArray) (maxL : Nat) (ret : Option FieldType) (n : Nat) : Prop := Cond.instanceMethod y ∈ lw_g ∧ Cond.selects C y y ∈ lw_g ∧ Cond.initialized y.cls ∈ lw_g ∧ Cond.code y cc maxL ret ∈ lw_g ∧ okd y n
def okS (y : MethodName) (cc : ByteArray) (maxL : Nat) (ret : Option FieldType) (n : Nat) : Prop := Cond.static y ∈ lw_g ∧ Cond.initialized y.cls ∈ lw_g ∧ Cond.code y cc maxL ret ∈ lw_g ∧ okd y n
def okI (y : MethodName) (cc : ByteArray) (maxL : Nat) (n : Nat) : Prop := Cond.instanceMethod y ∈ lw_g ∧ Cond.initialized y.cls ∈ lw_g ∧ Cond.code y cc maxL none ∈ lw_g ∧ y.name = "<init>" ∧ okd y n
theorem z_good {y : MethodName} {cc : ByteArray} {maxL : Nat} {ret : Option FieldType} (h : Cond.code y cc maxL ret ∈ lw_g) : GoodIn lw_g (Cond.code y cc maxL ret :: lw_g) := by
  intro w hw
  rcases List.mem_cons.mp hw with rfl | hw
  · exact ⟨h, good_of_word (lw_g_good _ h)⟩
  · exact ⟨hw, good_of_word (lw_g_good _ hw)⟩
theorem z_sub {D : va_G} {cl : List vw_C} {ws wc : va_W} {H : Heap} (hP : va_P D cl ws H) (isC : List Nat) (hC : isC.map (fun i => ws[i]?) = wc.map some) : va_P D cl wc H := by
  intro j q hq
  have h1 : (isC.map (fun i => ws[i]?))[j]? = some (some q) := by rw [hC, List.getElem?_map, hq]; rfl
  rw [List.getElem?_map] at h1
  cases hi : isC[j]? with
  | none => rw [hi] at h1; cases h1
  | some i => rw [hi] at h1; exact hP i q (Option.some.inj h1)
theorem z_blind {D : va_G} {k : Nat → ClassId} {av : List Value} {ws : va_W} {sz : Nat} : FrameBlind (va_Pc av (zPre D k ws sz)) := by
  intro a U g mk q
  obtain ⟨q0, q1, qP, qK, qD, qN⟩ := q
  exact ⟨q0, q1, qP, va_K.moved (u := U) (U := U.calling g mk a) (Vm.Alike.refl U.vm) qK, qD, zN.warm (U := U.calling g mk a) (State.WarmedH.refl U) qN⟩
theorem z_pre {D : va_G} {k : Nat → ClassId} {av : List Value} {wc : va_W} {s : State} {H : Heap} {A : Nat → Prop} (hK : va_K D vwCl (TYk k) s) (hN : zN s) (hP : va_P D vwCl wc H) (hD : va_D A wc) : ∀ U : State, U.heap = H → s.WarmedH U.vm → va_Pc av (zPre D k wc H.size) av.toArray U :=
  fun U hU hW => ⟨rfl, by rw [hU], by rw [hU]; exact hP, va_K.moved hW.alike hK, hD.weaken (fun _ _ _ _ => trivial), hN.warm hW⟩
theorem z_RA {U : State} {c1 c2 : ClassId} {ty : FieldType} (h1 : va_RA U c1 ty) (h2 : va_RA U c2 ty) : c1 = c2 := by
  cases ty with
  | object C =>
    obtain ⟨_, _, -, -, -, h1⟩ := h1
    obtain ⟨_, _, -, -, -, h2⟩ := h2
    exact Option.some.inj (h1.symm.trans h2)
  | _ => exact Option.some.inj (h1.symm.trans h2)
section ZZ
variable {p : Program} {l : Launch} {e : Env} {R : Room} {s : State} {m : MethodId} {args : Array Value} {below : List Frame} {meth : Method} {c : Code} {H H0 : Heap} {locs : List Loc} {cells slots : Nat} {Q : State → Prop}
variable {cc bytes : ByteArray} {pc index maxL nL n : Nat} {ls : Array Slot} {rest st0 As : List Value} {D : va_G} {k : Nat → ClassId} {A : Nat → Prop} {ws wc wr : va_W} {wo : zS → va_W} {y : MethodName} {ret : Option FieldType} {rm : Room} {own C host : String} {b : Addr} {av : List Value}
theorem lv_toc {x v : Int32} (h : x = v) (kk : W p l e R s m args below meth c H locs cells slots Q (F0 m pc ls (.int v :: rest))) : W p l e R s m args below meth c H locs cells slots Q (F0 m pc ls (.int x :: rest)) := h ▸ kk
theorem lv_tocl {x v : Int64} (h : x = v) (kk : W p l e R s m args below meth c H locs cells slots Q (F0 m pc ls (.long v :: rest))) : W p l e R s m args below meth c H locs cells slots Q (F0 m pc ls (.long x :: rest)) := h ▸ kk
/-- a call's run -/
theorem z_runV {Pc : Array Value → State → Prop} {Qc : Array Value → State → Outcome → State → Prop} {free : Addr → Prop} (C0 : CallFix p m c cc nL s args lw_g own) (hM : Met l y (Cond.code y bytes maxL ret :: lw_g) rm Pc Qc rm.cells rm.slots free) (ok : okV C y bytes maxL ret n) (hlink : Cond.methodLink own index y ∈ lw_g) (hR : ((rm.frames + 1).ble R.frames && (8 + (maxL + 11) + rm.locals).ble R.locals) = true)
    (hp : PreV s H C b Pc As) (hn : As.length = n) (hsize : ls.size = nL) (hst : st0 = As.reverse ++ .ref b :: rest) (hW : (rest.map fun v => v.category).sum ≤ 8) (hdg : decode cc pc = .ok (.invokevirtual index, 3)) (hf : ((cells + rm.cells).ble R.cells && (slots + rm.slots).ble R.slots) = true) :
    va_Run p l e R s m args below meth c H locs cells slots rm.cells rm.slots (F0 m pc ls st0) rest (Qc (Value.ref b :: As).toArray) free := by
  obtain ⟨k1, k2, k3, k4, kd⟩ := ok
  have hts := C0.2.2.2.2
  simp only [Bool.and_eq_true, Nat.ble_eq] at hR hf
  exact va_runV C0 hM ⟨callB_of n hts (z_good k4) rfl rfl rfl (hts _ k3) (hts _ hlink) kd hR, hts _ k1, hts _ k2⟩ hp rfl hn hsize hst (lv_room hW) hdg hf
theorem z_runVN {Pc : Array Value → State → Prop} {Qc : Array Value → State → Outcome → State → Prop} {free : Addr → Prop} (C0 : CallFix p m c cc nL s args lw_g own) (hN : zN s) (hM : Met l y (Cond.code y bytes maxL ret :: lw_g) rm Pc Qc rm.cells rm.slots free) (ok : okV C y bytes maxL ret n) (hlink : Cond.methodLinkNest own index y host ∈ lw_nest) (hR : ((rm.frames + 1).ble R.frames && (8 + (maxL + 11) + rm.locals).ble R.locals) = true)
    (hp : PreV s H C b Pc As) (hn : As.length = n) (hsize : ls.size = nL) (hst : st0 = As.reverse ++ .ref b :: rest) (hW : (rest.map fun v => v.category).sum ≤ 8) (hdg : decode cc pc = .ok (.invokevirtual index, 3)) (hf : ((cells + rm.cells).ble R.cells && (slots + rm.slots).ble R.slots) = true) :
    va_Run p l e R s m args below meth c H locs cells slots rm.cells rm.slots (F0 m pc ls st0) rest (Qc (Value.ref b :: As).toArray) free := by
  obtain ⟨k1, k2, k3, k4, kd⟩ := ok
  have hts := C0.2.2.2.2
  simp only [Bool.and_eq_true, Nat.ble_eq] at hR hf
  exact va_runVN C0 hM ⟨va_cnB n hts (z_good k4) rfl rfl rfl (hN.1 _ hlink) (hts _ k3) kd hR, hts _ k1, hts _ k2⟩ hp rfl hn hsize hst (lv_room hW) hdg hf
theorem z_runS {Pc : Array Value → State → Prop} {Qc : Array Value → State → Outcome → State → Prop} {free : Addr → Prop} (C0 : CallFix p m c cc nL s args lw_g own) (hM : Met l y (Cond.code y bytes maxL ret :: lw_g) rm Pc Qc rm.cells rm.slots free) (ok : okS y bytes maxL ret n) (hlink : Cond.methodLink own index y ∈ lw_g) (hR : ((rm.frames + 1).ble R.frames && (8 + (maxL + 11) + rm.locals).ble R.locals) = true)
    (hp : PreS s H Pc As) (hn : As.length = n) (hsize : ls.size = nL) (hst : st0 = As.reverse ++ rest) (hW : (rest.map fun v => v.category).sum ≤ 8) (hdg : decode cc pc = .ok (.invokestatic index, 3)) (hf : ((cells + rm.cells).ble R.cells && (slots + rm.slots).ble R.slots) = true) :
    va_Run p l e R s m args below meth c H locs cells slots rm.cells rm.slots (F0 m pc ls st0) rest (Qc As.toArray) free := by
  obtain ⟨k1, k3, k4, kd⟩ := ok
  have hts := C0.2.2.2.2
  simp only [Bool.and_eq_true, Nat.ble_eq] at hR hf
  exact va_runS C0 hM ⟨callB_of n hts (z_good k4) rfl rfl rfl (hts _ k3) (hts _ hlink) kd hR, hts _ k1⟩ hp rfl hn hsize hst (lv_room hW) hdg hf
theorem z_runSN {Pc : Array Value → State → Prop} {Qc : Array Value → State → Outcome → State → Prop} {free : Addr → Prop} (C0 : CallFix p m c cc nL s args lw_g own) (hN : zN s) (hM : Met l y (Cond.code y bytes maxL ret :: lw_g) rm Pc Qc rm.cells rm.slots free) (ok : okS y bytes maxL ret n) (hlink : Cond.methodLinkNest own index y host ∈ lw_nest) (hR : ((rm.frames + 1).ble R.frames && (8 + (maxL + 11) + rm.locals).ble R.locals) = true)
    (hp : PreS s H Pc As) (hn : As.length = n) (hsize : ls.size = nL) (hst : st0 = As.reverse ++ rest) (hW : (rest.map fun v => v.category).sum ≤ 8) (hdg : decode cc pc = .ok (.invokestatic index, 3)) (hf : ((cells + rm.cells).ble R.cells && (slots + rm.slots).ble R.slots) = true) :
    va_Run p l e R s m args below meth c H locs cells slots rm.cells rm.slots (F0 m pc ls st0) rest (Qc As.toArray) free := by
  obtain ⟨k1, k3, k4, kd⟩ := ok
  have hts := C0.2.2.2.2
  simp only [Bool.and_eq_true, Nat.ble_eq] at hR hf
  exact va_runSN C0 hM ⟨va_cnB n hts (z_good k4) rfl rfl rfl (hN.1 _ hlink) (hts _ k3) kd hR, hts _ k1, trivial⟩ hp rfl hn hsize hst (lv_room hW) hdg hf
theorem z_runI {Pc : Array Value → State → Prop} {Qc : Array Value → State → Outcome → State → Prop} {free : Addr → Prop} (C0 : CallFix p m c cc nL s args lw_g own) (hM : Met l y (Cond.code y bytes maxL none :: lw_g) rm Pc Qc rm.cells rm.slots free) (ok : okI y bytes maxL n) (hlink : Cond.methodLink own index y ∈ lw_g) (hR : ((rm.frames + 1).ble R.frames && (8 + (maxL + 11) + rm.locals).ble R.locals) = true)
    (hp : PreS s H Pc (.ref b :: As)) (hn : As.length = n) (hsize : ls.size = nL) (hst : st0 = As.reverse ++ .ref b :: rest) (hW : (rest.map fun v => v.category).sum ≤ 8) (hdg : decode cc pc = .ok (.invokespecial index, 3)) (hf : ((cells + rm.cells).ble R.cells && (slots + rm.slots).ble R.slots) = true) :
    va_Run p l e R s m args below meth c H locs cells slots rm.cells rm.slots (F0 m pc ls st0) rest (Qc (Value.ref b :: As).toArray) free := by
  obtain ⟨k1, k3, k4, ky, kd⟩ := ok
  have hts := C0.2.2.2.2
  simp only [Bool.and_eq_true, Nat.ble_eq] at hR hf
  exact va_runI C0 hM ⟨callB_of n hts (z_good k4) rfl rfl rfl (hts _ k3) (hts _ hlink) kd hR, ky, hts _ k1⟩ hp rfl hn hsize hst (lv_room hW) hdg hf
theorem z_runIN {Pc : Array Value → State → Prop} {Qc : Array Value → State → Outcome → State → Prop} {free : Addr → Prop} (C0 : CallFix p m c cc nL s args lw_g own) (hN : zN s) (hM : Met l y (Cond.code y bytes maxL none :: lw_g) rm Pc Qc rm.cells rm.slots free) (ok : okI y bytes maxL n) (hlink : Cond.methodLinkNest own index y host ∈ lw_nest) (hR : ((rm.frames + 1).ble R.frames && (8 + (maxL + 11) + rm.locals).ble R.locals) = true)
    (hp : PreS s H Pc (.ref b :: As)) (hn : As.length = n) (hsize : ls.size = nL) (hst : st0 = As.reverse ++ .ref b :: rest) (hW : (rest.map fun v => v.category).sum ≤ 8) (hdg : decode cc pc = .ok (.invokespecial index, 3)) (hf : ((cells + rm.cells).ble R.cells && (slots + rm.slots).ble R.slots) = true) :
    va_Run p l e R s m args below meth c H locs cells slots rm.cells rm.slots (F0 m pc ls st0) rest (Qc (Value.ref b :: As).toArray) free := by
  obtain ⟨k1, k3, k4, ky, kd⟩ := ok
  have hts := C0.2.2.2.2
  simp only [Bool.and_eq_true, Nat.ble_eq] at hR hf
  exact va_runIN C0 hM ⟨va_cnB n hts (z_good k4) rfl rfl rfl (hN.1 _ hlink) (hts _ k3) kd hR, ky, hts _ k1⟩ hp rfl hn hsize hst (lv_room hW) hdg hf
/-- what a call's start wants: its cells out of the caller's -/
theorem z_pS (hK : va_K D vwCl (TYk k) s) (hN : zN s) (hP : va_P D vwCl ws H) (hD : va_D A ws) (isC : List Nat) (hn : va_nd isC = true) (hC : isC.map (fun i => ws[i]?) = wc.map some) : PreS s H (va_Pc av (zPre D k wc H.size)) av :=
  ⟨z_blind, z_pre hK hN (z_sub hP isC hC) (hD.sub isC hn hC)⟩
theorem z_pV {ci q0 : Nat} {r : vw_C} {fs : List Value} (hK : va_K D vwCl (TYk k) s) (hN : zN s) (hP : va_P D vwCl ws H) (hD : va_D A ws) (isC : List Nat) (hn : va_nd isC = true) (hC : isC.map (fun i => ws[i]?) = wc.map some) (he : ws[q0]? = some (b, .inr (ci, fs))) (hc : vwCl[ci]? = some r) (hr : r.1 = C) : PreV s H C b (va_Pc (.ref b :: As) (zPre D k wc H.size)) As :=
  ⟨z_blind, by rw [← hr]; exact va_recv hK hP hc he, z_pre hK hN (z_sub hP isC hC) (hD.sub isC hn hC)⟩
/-- behind a call -/
theorem z_bi {post : Int32 → zS → Prop} {a : Array Value} (hr : va_Run p l e R s m args below meth c H locs cells slots rm.cells rm.slots (F0 m pc ls st0) rest (va_Qi post (zB D k (va_A wc H.size) wo) (va_A wc H.size) a) (va_A wc H.size)) (hP : va_P D vwCl ws H) (hD : va_D A ws) (hS : va_S A H0 H locs) (hA : ∀ q, H0.size ≤ q → A q) (isC isR : List Nat) (hC : isC.map (fun i => ws[i]?) = wc.map some) (hR : isR.map (fun i => ws[i]?) = wr.map some) (hn : va_nd isR = true) (hdis : isR.all (fun i => !isC.contains i) = true)
    (kk : ∀ (r : Int32) (u : zS) (H1 : Heap) (locs1 : List Loc), post r u → va_P D vwCl (wr ++ wo u) H1 → va_D A (wr ++ wo u) → va_S A H0 H1 locs1 → W p l e R s m args below meth c H1 locs1 (cells + rm.cells) (slots + rm.slots) Q (F0 m (pc + 3) ls (.int r :: rest))) : W p l e R s m args below meth c H locs cells slots Q (F0 m pc ls st0) := by
  have hF := va_free (wc := wc) hD hS hA isC hC
  refine va_calli hr hS (fun q _ h => hF q h) hF (fun r u t H1 locs1 ht hvm hw hB hz1 hk1 hS1 => ?_)
  obtain ⟨hP1, hK1, hD1⟩ := hB
  rw [ht] at hP1
  obtain ⟨hP2, hD2⟩ := va_join (wr := wr) hP hD isC isR hC hR hn (fun i hi => by have := List.all_eq_true.mp hdis i hi; simpa using this) hk1 hF hP1 hD1
  exact kk r u H1 locs1 hw hP2 hD2 hS1
theorem z_bl {post : Int64 → zS → Prop} {a : Array Value} (hr : va_Run p l e R s m args below meth c H locs cells slots rm.cells rm.slots (F0 m pc ls st0) rest (va_Ql post (zB D k (va_A wc H.size) wo) (va_A wc H.size) a) (va_A wc H.size)) (hP : va_P D vwCl ws H) (hD : va_D A ws) (hS : va_S A H0 H locs) (hA : ∀ q, H0.size ≤ q → A q) (isC isR : List Nat) (hC : isC.map (fun i => ws[i]?) = wc.map some) (hR : isR.map (fun i => ws[i]?) = wr.map some) (hn : va_nd isR = true) (hdis : isR.all (fun i => !isC.contains i) = true)
    (kk : ∀ (r : Int64) (u : zS) (H1 : Heap) (locs1 : List Loc), post r u → va_P D vwCl (wr ++ wo u) H1 → va_D A (wr ++ wo u) → va_S A H0 H1 locs1 → W p l e R s m args below meth c H1 locs1 (cells + rm.cells) (slots + rm.slots) Q (F0 m (pc + 3) ls (.long r :: rest))) : W p l e R s m args below meth c H locs cells slots Q (F0 m pc ls st0) := by
  have hF := va_free (wc := wc) hD hS hA isC hC
  refine va_calll hr hS (fun q _ h => hF q h) hF (fun r u t H1 locs1 ht hvm hw hB hz1 hk1 hS1 => ?_)
  obtain ⟨hP1, hK1, hD1⟩ := hB
  rw [ht] at hP1
  obtain ⟨hP2, hD2⟩ := va_join (wr := wr) hP hD isC isR hC hR hn (fun i hi => by have := List.all_eq_true.mp hdis i hi; simpa using this) hk1 hF hP1 hD1
  exact kk r u H1 locs1 hw hP2 hD2 hS1
theorem z_bv {post : zS → Prop} {a : Array Value} (hr : va_Run p l e R s m args below meth c H locs cells slots rm.cells rm.slots (F0 m pc ls st0) rest (va_Qv post (zB D k (va_A wc H.size) wo) (va_A wc H.size) a) (va_A wc H.size)) (hP : va_P D vwCl ws H) (hD : va_D A ws) (hS : va_S A H0 H locs) (hA : ∀ q, H0.size ≤ q → A q) (isC isR : List Nat) (hC : isC.map (fun i => ws[i]?) = wc.map some) (hR : isR.map (fun i => ws[i]?) = wr.map some) (hn : va_nd isR = true) (hdis : isR.all (fun i => !isC.contains i) = true)
    (kk : ∀ (u : zS) (H1 : Heap) (locs1 : List Loc), post u → va_P D vwCl (wr ++ wo u) H1 → va_D A (wr ++ wo u) → va_S A H0 H1 locs1 → W p l e R s m args below meth c H1 locs1 (cells + rm.cells) (slots + rm.slots) Q (F0 m (pc + 3) ls rest)) : W p l e R s m args below meth c H locs cells slots Q (F0 m pc ls st0) := by
  have hF := va_free (wc := wc) hD hS hA isC hC
  refine va_callv hr hS (fun q _ h => hF q h) hF (fun u t H1 locs1 ht hvm hw hB hz1 hk1 hS1 => ?_)
  obtain ⟨hP1, hK1, hD1⟩ := hB
  rw [ht] at hP1
  obtain ⟨hP2, hD2⟩ := va_join (wr := wr) hP hD isC isR hC hR hn (fun i hi => by have := List.all_eq_true.mp hdis i hi; simpa using this) hk1 hF hP1 hD1
  exact kk u H1 locs1 hw hP2 hD2 hS1
theorem z_bq {post : Option Nat → zS → Prop} {a : Array Value} (hr : va_Run p l e R s m args below meth c H locs cells slots rm.cells rm.slots (F0 m pc ls st0) rest (va_Qq post (zB D k (va_A wc H.size) wo) (va_A wc H.size) a) (va_A wc H.size)) (hP : va_P D vwCl ws H) (hD : va_D A ws) (hS : va_S A H0 H locs) (hA : ∀ q, H0.size ≤ q → A q) (isC isR : List Nat) (hC : isC.map (fun i => ws[i]?) = wc.map some) (hR : isR.map (fun i => ws[i]?) = wr.map some) (hn : va_nd isR = true) (hdis : isR.all (fun i => !isC.contains i) = true)
    (kk : ∀ (r : Option Nat) (u : zS) (H1 : Heap) (locs1 : List Loc), post r u → va_P D vwCl (wr ++ wo u) H1 → va_D A (wr ++ wo u) → va_S A H0 H1 locs1 → W p l e R s m args below meth c H1 locs1 (cells + rm.cells) (slots + rm.slots) Q (F0 m (pc + 3) ls (va_rf r :: rest))) : W p l e R s m args below meth c H locs cells slots Q (F0 m pc ls st0) := by
  have hF := va_free (wc := wc) hD hS hA isC hC
  refine va_callq hr hS (fun q _ h => hF q h) hF (fun r u t H1 locs1 ht hvm hw hB hz1 hk1 hS1 => ?_)
  obtain ⟨hP1, hK1, hD1⟩ := hB
  rw [ht] at hP1
  obtain ⟨hP2, hD2⟩ := va_join (wr := wr) hP hD isC isR hC hR hn (fun i hi => by have := List.all_eq_true.mp hdis i hi; simpa using this) hk1 hF hP1 hD1
  exact kk r u H1 locs1 hw hP2 hD2 hS1
/-- new arrays are of the classes that the tables have -/
theorem z_newa {atype : ArrayType} (hexec : p.tables.exec = Jvm.exec) (hb : c.code = cc) (harr : (Cond.arrayClass (newarray.typeOf atype)).before args s = true) {ty : FieldType} (hty : newarray.typeOf atype = ty) (t0 : Nat) {kt : ClassId} (ht : (TYk k)[t0]? = some (kt, ty)) (hK : va_K D vwCl (TYk k) s) (hP : va_P D vwCl ws H) (hD : va_D A ws) (hS : va_S A H0 H locs) (hA : ∀ q, H0.size ≤ q → A q)
    {n : Int32} {N' : Nat} {a0 : vp_A} (ha : ∀ cA : ClassId, vp_cell cA a0 = arrV cA N' (fun _ => defaultValue ty)) (hn : ¬ n < 0) (hN : n.toNatClampNeg = N') (hbytes : N' * componentBytes ty ≤ 536870912) (hcells : cells + 1 ≤ R.cells) (hslots : slots + N' ≤ R.slots) (hdg : decode cc pc = .ok (.newarray atype, 2))
    (kk : ∀ (q : Nat) (H1 : Heap), va_P D vwCl (ws ++ [(q, .inl (kt, a0))]) H1 → va_D A (ws ++ [(q, .inl (kt, a0))]) → va_S A H0 H1 locs → W p l e R s m args below meth c H1 locs (cells + 1) (slots + N') Q (F0 m (pc + 2) ls (.ref q :: rest))) : W p l e R s m args below meth c H locs cells slots Q (F0 m pc ls (.int n :: rest)) := by
  refine va_newa hexec hb harr hty hK hP hD hS hA ha hn hN hbytes hcells hslots hdg (fun q cA H1 hK1 hP1 hD1 hS1 => ?_)
  have e1 := z_RA (hK1.2 5 (cA, ty) rfl).2 (hK.2 t0 _ ht).2
  subst e1
  exact kk q H1 hP1 hD1 hS1
theorem z_newq {index : Nat} (hexec : p.tables.exec = Jvm.exec) (hb : c.code = cc) (hown : s.vm.findClass own = some m.cls) (hclink : (Cond.classLink own index C).before args s = true) (hover : va_AO C s) (t0 : Nat) {kt : ClassId} (ht : (TYk k)[t0]? = some (kt, .object C)) (hK : va_K D vwCl (TYk k) s) (hP : va_P D vwCl ws H) (hD : va_D A ws) (hS : va_S A H0 H locs) (hA : ∀ q, H0.size ≤ q → A q)
    {n : Int32} {N' : Nat} (hn : ¬ n < 0) (hN : n.toNatClampNeg = N') (hbytes : N' * 4 ≤ 536870912) (hcells : cells + 1 ≤ R.cells) (hslots : slots + N' ≤ R.slots) (hdg : decode cc pc = .ok (.anewarray index, 3))
    (kk : ∀ (q : Nat) (H1 : Heap), va_P D vwCl (ws ++ [(q, .inl (kt, N', .inr (.inr (.inr (.inr (fun _ => none))))))]) H1 → va_D A (ws ++ [(q, .inl (kt, N', .inr (.inr (.inr (.inr (fun _ => none))))))]) → va_S A H0 H1 locs → W p l e R s m args below meth c H1 locs (cells + 1) (slots + N') Q (F0 m (pc + 3) ls (.ref q :: rest))) : W p l e R s m args below meth c H locs cells slots Q (F0 m pc ls (.int n :: rest)) := by
  refine va_newq hexec hb hown hclink hover hK hP hD hS hA hn hN hbytes hcells hslots hdg (fun q cA H1 hK1 hP1 hD1 hS1 => ?_)
  have e1 := z_RA (hK1.2 5 (cA, .object C) rfl).2 (hK.2 t0 _ ht).2
  subst e1
  exact kk q H1 hP1 hD1 hS1
end ZZ
end
section
/-! entries, returns, pure calls, comparisons of longs -/
def zBody (l : Launch) (y : MethodName) (cc : ByteArray) (n : Nat) (ret : Option FieldType) (rm : Room) (D : va_G) (k : Nat → ClassId) (av : List Value) (ws : va_W) (own : String) (Qq : (Nat → Prop) → Array Value → State → Outcome → State → Prop) : Prop :=
  ∀ (p : Program) (e : Env) (s : State) (m : MethodId) (args : Array Value) (below : List Frame) (meth : Method) (c : Code) (A : Nat → Prop) (ls : Array Slot), CallFix p m c cc n s args lw_g own → meth.sig.returnType = ret → meth.locks = false → meth.name = y.name → va_P D vwCl ws s.heap → va_D A ws → va_S A s.heap s.heap [] → (∀ q, s.heap.size ≤ q → A q) → va_K D vwCl (TYk k) s → zN s → lv_has ls n (lv_args 0 av) → W p l e rm s m args below meth c s.heap [] 0 0 (MQ below (Qq A) args s rm.cells rm.slots A) (F0 m 0 ls [])
section ZO
variable {l : Launch} {y : MethodName} {cc : ByteArray} {n : Nat} {ret : Option FieldType} {rm : Room} {D : va_G} {k : Nat → ClassId} {av : List Value} {ws : va_W} {own : String}
theorem z_of {Qq : (Nat → Prop) → Array Value → State → Outcome → State → Prop} (hy : plainName y.cls = true) (ho : y.cls = own) (hle : (lg_sl av).length ≤ n) (body : zBody l y cc n ret rm D k av ws own Qq) (sz : Nat) : Met l y (Cond.code y cc n ret :: lw_g) rm (va_Pc av (zPre D k ws sz)) (Qq (va_A ws sz)) rm.cells rm.slots (va_A ws sz) := by
  refine Met.ofW (cc := cc) (maxL := n) (ret := ret) hy rfl ?_
  intro p e s m args below meth c s₁ B hml hv
  obtain ⟨rfl, hsz, hP, hK, hD0, hN⟩ := hv
  have hts0 := atoms_spec (ws := Cond.code y cc n ret :: lw_g) B.pre
  have hown : s.vm.findClass own = some m.cls := by rw [← ho]; exact findClass_of_methodNamed B.named
  subst hsz
  have hl := lv_entry av (n := n) hle
  rw [lg_entry_eq]
  exact body p e s m _ below meth c _ _ ⟨B.exec, B.bytes, hml, hown, fun w h => hts0 w (List.mem_cons_of_mem _ h)⟩ B.returns B.notSynchronized (name_of_methodNamed B.named B.method).1 hP hD0.self va_S.rf (fun q h => Or.inr h) hK hN hl
theorem zMi_of {post : Int32 → zS → Prop} {wo : zS → va_W} (hy : plainName y.cls = true) (ho : y.cls = own) (hle : (lg_sl av).length ≤ n) (body : zBody l y cc n ret rm D k av ws own (fun A => va_Qi post (zB D k A wo) A)) : zMi l y cc n ret rm D k av ws post wo := fun sz => z_of (Qq := fun A => va_Qi post (zB D k A wo) A) hy ho hle body sz
theorem zMl_of {post : Int64 → zS → Prop} {wo : zS → va_W} (hy : plainName y.cls = true) (ho : y.cls = own) (hle : (lg_sl av).length ≤ n) (body : zBody l y cc n ret rm D k av ws own (fun A => va_Ql post (zB D k A wo) A)) : zMl l y cc n ret rm D k av ws post wo := fun sz => z_of (Qq := fun A => va_Ql post (zB D k A wo) A) hy ho hle body sz
theorem zMv_of {post : zS → Prop} {wo : zS → va_W} (hy : plainName y.cls = true) (ho : y.cls = own) (hle : (lg_sl av).length ≤ n) (body : zBody l y cc n ret rm D k av ws own (fun A => va_Qv post (zB D k A wo) A)) : zMv l y cc n ret rm D k av ws post wo := fun sz => z_of (Qq := fun A => va_Qv post (zB D k A wo) A) hy ho hle body sz
theorem zMq_of {post : Option Nat → zS → Prop} {wo : zS → va_W} (hy : plainName y.cls = true) (ho : y.cls = own) (hle : (lg_sl av).length ≤ n) (body : zBody l y cc n ret rm D k av ws own (fun A => va_Qq post (zB D k A wo) A)) : zMq l y cc n ret rm D k av ws post wo := fun sz => z_of (Qq := fun A => va_Qq post (zB D k A wo) A) hy ho hle body sz
end ZO
section ZR
variable {p : Program} {l : Launch} {e : Env} {R : Room} {s : State} {m : MethodId} {args : Array Value} {below : List Frame} {meth : Method} {c : Code} {H H0 : Heap} {locs : List Loc} {cells slots mc ms : Nat} {Q : State → Prop}
variable {cc bytes : ByteArray} {pc index maxL nL n : Nat} {ls : Array Slot} {rest st0 As : List Value} {D : va_G} {k : Nat → ClassId} {A : Nat → Prop} {ws wc wr : va_W} {wo : zS → va_W} {y : MethodName} {ret : Option FieldType} {rm : Room} {own C host : String} {b : Addr} {av : List Value}
theorem z_zB (u : zS) (hK : va_K D vwCl (TYk k) s) (hP : va_P D vwCl ws H) (hD : va_D A ws) (is : List Nat) (hn : va_nd is = true) (hi : is.map (fun i => ws[i]?) = (wo u).map some) (t : State) (ht : t.heap = H) (hW : s.WarmedH t.vm) : zB D k A wo u t :=
  ⟨by rw [ht]; exact z_sub hP is hi, va_K.moved hW.alike hK, hD.sub is hn hi⟩
theorem z_iret {post : Int32 → zS → Prop} {v : Int32} {ty : FieldType} (C0 : CallFix p m c cc nL s args lw_g own) (hr : meth.sig.returnType = some ty) (hlk : meth.locks = false) (hn : narrow ty (.int v) = .int v) (hK : va_K D vwCl (TYk k) s) (hP : va_P D vwCl ws H) (hD : va_D A ws) (hS : va_S A s.heap H locs) (u : zS) (hp : post v u) (is : List Nat) (hnd : va_nd is = true) (hi : is.map (fun i => ws[i]?) = (wo u).map some) (hz : (cells.ble mc && slots.ble ms) = true) (hdg : decode cc pc = .ok (.ireturn, 1)) : W p l e R s m args below meth c H locs cells slots (MQ below (va_Qi post (zB D k A wo) A) args s mc ms A) (F0 m pc ls [.int v]) := by
  simp only [Bool.and_eq_true, Nat.ble_eq] at hz
  refine W.widen (k := mc) (n := ms) hz.1 hz.2 ?_
  exact W.zret C0.1 C0.2.1 hr hn (fun t ht hW => ⟨⟨v, u, rfl, hp, z_zB u hK hP hD is hnd hi t ht hW⟩, hS.F ht⟩) hS.2.2 hdg hlk
theorem z_vret {post : zS → Prop} (C0 : CallFix p m c cc nL s args lw_g own) (hr : meth.sig.returnType = none) (hlk : meth.locks = false) (hK : va_K D vwCl (TYk k) s) (hP : va_P D vwCl ws H) (hD : va_D A ws) (hS : va_S A s.heap H locs) (u : zS) (hp : post u) (is : List Nat) (hnd : va_nd is = true) (hi : is.map (fun i => ws[i]?) = (wo u).map some) (hz : (cells.ble mc && slots.ble ms) = true) (hdg : decode cc pc = .ok (.return_, 1)) : W p l e R s m args below meth c H locs cells slots (MQ below (va_Qv post (zB D k A wo) A) args s mc ms A) (F0 m pc ls []) := by
  simp only [Bool.and_eq_true, Nat.ble_eq] at hz
  refine W.widen (k := mc) (n := ms) hz.1 hz.2 ?_
  exact W.vret C0.1 C0.2.1 hr (fun t ht hW => ⟨⟨u, rfl, hp, z_zB u hK hP hD is hnd hi t ht hW⟩, hS.F ht⟩) hS.2.2 hdg hlk
theorem z_qret {post : Option Nat → zS → Prop} {v : Value} {o : Option Nat} {rt : FieldType} (C0 : CallFix p m c cc nL s args lw_g own) (hr : meth.sig.returnType = some rt) (hrt : (∃ n, rt = .object n) ∨ ∃ t, rt = .array t) (hlk : meth.locks = false) (hv : v = va_rf o) (hK : va_K D vwCl (TYk k) s) (hP : va_P D vwCl ws H) (hD : va_D A ws) (hS : va_S A s.heap H locs) (u : zS) (hp : post o u) (is : List Nat) (hnd : va_nd is = true) (hi : is.map (fun i => ws[i]?) = (wo u).map some) (hz : (cells.ble mc && slots.ble ms) = true) (hdg : decode cc pc = .ok (.areturn, 1)) : W p l e R s m args below meth c H locs cells slots (MQ below (va_Qq post (zB D k A wo) A) args s mc ms A) (F0 m pc ls [v]) := by
  simp only [Bool.and_eq_true, Nat.ble_eq] at hz
  refine W.widen (k := mc) (n := ms) hz.1 hz.2 ?_
  subst hv
  exact W.aret C0.1 C0.2.1 hr hrt (va_rf_or o) (fun t ht hW => ⟨⟨o, u, rfl, hp, z_zB u hK hP hD is hnd hi t ht hW⟩, hS.F ht⟩) hS.2.2 hdg hlk
theorem lv_torf {o : Option Nat} {v : Value} (h : va_rf o = v) (kk : W p l e R s m args below meth c H locs cells slots Q (F0 m pc ls (v :: rest))) : W p l e R s m args below meth c H locs cells slots Q (F0 m pc ls (va_rf o :: rest)) := h ▸ kk
/-- behind a call that has no cells: the world stays as it is -/
theorem z_keep (hP : va_P D vwCl ws H) {H1 : Heap} (hk : ∀ q : Nat, q < H.size → ¬ va_A [] H.size q → H1[q]? = H[q]?) : va_P D vwCl ws H1 :=
  hP.kept (fun j q hq => hk q.1 (hP j q hq).lt (fun h => by
    rcases h with ⟨a, b, h⟩ | h
    · simp at h
    · exact absurd (hP j q hq).lt (Nat.not_lt.mpr h)))
theorem z_f0 (hS : va_S A H0 H locs) (hA : ∀ q, H0.size ≤ q → A q) : ∀ q, va_A [] H.size q → A q := by
  intro q h
  rcases h with ⟨a, b, h⟩ | h
  · simp at h
  · exact hA q (Nat.le_trans hS.1 h)
theorem z_bi0 {post : Int32 → zS → Prop} {a : Array Value} (hr : va_Run p l e R s m args below meth c H locs cells slots rm.cells rm.slots (F0 m pc ls st0) rest (va_Qi post (zB D k (va_A [] H.size) wo) (va_A [] H.size) a) (va_A [] H.size)) (hP : va_P D vwCl ws H) (hS : va_S A H0 H locs) (hA : ∀ q, H0.size ≤ q → A q)
    (kk : ∀ (r : Int32) (u : zS) (H1 : Heap) (locs1 : List Loc), post r u → va_P D vwCl ws H1 → va_S A H0 H1 locs1 → W p l e R s m args below meth c H1 locs1 (cells + rm.cells) (slots + rm.slots) Q (F0 m (pc + 3) ls (.int r :: rest))) : W p l e R s m args below meth c H locs cells slots Q (F0 m pc ls st0) :=
  va_calli hr hS (fun q _ h => z_f0 hS hA q h) (z_f0 hS hA) (fun r u t H1 locs1 ht hvm hw hB hz1 hk1 hS1 => kk r u H1 locs1 hw (z_keep hP hk1) hS1)
theorem z_bl0 {post : Int64 → zS → Prop} {a : Array Value} (hr : va_Run p l e R s m args below meth c H locs cells slots rm.cells rm.slots (F0 m pc ls st0) rest (va_Ql post (zB D k (va_A [] H.size) wo) (va_A [] H.size) a) (va_A [] H.size)) (hP : va_P D vwCl ws H) (hS : va_S A H0 H locs) (hA : ∀ q, H0.size ≤ q → A q)
    (kk : ∀ (r : Int64) (u : zS) (H1 : Heap) (locs1 : List Loc), post r u → va_P D vwCl ws H1 → va_S A H0 H1 locs1 → W p l e R s m args below meth c H1 locs1 (cells + rm.cells) (slots + rm.slots) Q (F0 m (pc + 3) ls (.long r :: rest))) : W p l e R s m args below meth c H locs cells slots Q (F0 m pc ls st0) :=
  va_calll hr hS (fun q _ h => z_f0 hS hA q h) (z_f0 hS hA) (fun r u t H1 locs1 ht hvm hw hB hz1 hk1 hS1 => kk r u H1 locs1 hw (z_keep hP hk1) hS1)
theorem z_p0 (hK : va_K D vwCl (TYk k) s) (hN : zN s) : PreS s H (va_Pc av (zPre D k [] H.size)) av :=
  ⟨z_blind, z_pre (A := fun _ => True) hK hN (fun j q h => by simp at h) ⟨fun i j x y h => by simp at h, fun j q h => by simp at h⟩⟩
/-- the script's ints by their places -/
theorem z_sld (hexec : p.tables.exec = Jvm.exec) (hb : c.code = cc) {b L : Nat} {xs : Nat → Int32} (hX : va_X b L xs s H0) (hbl : b < H0.size) (hbA : ¬ A b) (hS : va_S A H0 H locs) {i : Int32} (j : Nat) (hj : i.toNatClampNeg = j) (hin : vp_in i L) (hdg : decode cc pc = .ok (.iaload, 1))
    (kk : W p l e R s m args below meth c H locs cells slots Q (F0 m (pc + 1) ls (.int (xs j) :: rest))) : W p l e R s m args below meth c H locs cells slots Q (F0 m pc ls (.int i :: .ref b :: rest)) := by
  subst hj
  exact va_sld hexec hb hX hbl hbA hS hin hdg kk
end ZR
theorem zi_add {x y : Int32} (h : -2147483648 ≤ x.toInt + y.toInt ∧ x.toInt + y.toInt < 2147483648) : (x + y).toInt = x.toInt + y.toInt := by
  rw [Int32.toInt_add]
  exact Int.bmod_eq_of_le (by omega) (by omega)
theorem zi_sub {x y : Int32} (h : -2147483648 ≤ x.toInt - y.toInt ∧ x.toInt - y.toInt < 2147483648) : (x - y).toInt = x.toInt - y.toInt := by
  rw [Int32.toInt_sub]
  exact Int.bmod_eq_of_le (by omega) (by omega)
theorem zi_mul {x y : Int32} (h : -2147483648 ≤ x.toInt * y.toInt ∧ x.toInt * y.toInt < 2147483648) : (x * y).toInt = x.toInt * y.toInt := by
  rw [Int32.toInt_mul]
  exact Int.bmod_eq_of_le (by omega) (by omega)
theorem lg_clt (x y : Int64) : lg_cmp x y < 0 ↔ x < y := by
  unfold lg_cmp
  rcases Int.lt_trichotomy x.toInt y.toInt with h | h | h
  · have h1 : x < y := Int64.lt_iff_toInt_lt.mpr h
    have h2 : ¬ y < x := fun q => by have := Int64.lt_iff_toInt_lt.mp q; omega
    have h3 : ¬ x = y := fun q => by subst q; omega
    simp [h1, h2, h3]
  · have h0 : x = y := Int64.toInt_inj.mp h
    subst h0
    simp [Int64.lt_iff_toInt_lt]
  · have h1 : y < x := Int64.lt_iff_toInt_lt.mpr h
    have h2 : ¬ x < y := fun q => by have := Int64.lt_iff_toInt_lt.mp q; omega
    simp [h1, h2]
theorem lg_cgt (x y : Int64) : 0 < lg_cmp x y ↔ y < x := by
  unfold lg_cmp
  rcases Int.lt_trichotomy x.toInt y.toInt with h | h | h
  · have h1 : x < y := Int64.lt_iff_toInt_lt.mpr h
    have h2 : ¬ y < x := fun q => by have := Int64.lt_iff_toInt_lt.mp q; omega
    have h3 : ¬ x = y := fun q => by subst q; omega
    simp [h2, h3]
  · have h0 : x = y := Int64.toInt_inj.mp h
    subst h0
    simp [Int64.lt_iff_toInt_lt]
  · have h1 : y < x := Int64.lt_iff_toInt_lt.mpr h
    simp [h1]
theorem lg_ceq (x y : Int64) : lg_cmp x y = 0 ↔ x = y := by
  unfold lg_cmp
  rcases Int.lt_trichotomy x.toInt y.toInt with h | h | h
  · have h2 : ¬ y < x := fun q => by have := Int64.lt_iff_toInt_lt.mp q; omega
    have h3 : ¬ x = y := fun q => by subst q; omega
    simp [h2, h3]
  · have h0 : x = y := Int64.toInt_inj.mp h
    subst h0
    simp [Int64.lt_iff_toInt_lt]
  · have h1 : y < x := Int64.lt_iff_toInt_lt.mpr h
    have h3 : ¬ x = y := fun q => by subst q; omega
    simp [h1, h3]
theorem lg_cge (x y : Int64) : 0 ≤ lg_cmp x y ↔ ¬ x < y := by rw [← lg_clt]; exact Int32.not_lt.symm
theorem lg_cle (x y : Int64) : lg_cmp x y ≤ 0 ↔ ¬ y < x := by rw [← lg_cgt]; exact Int32.not_lt.symm
theorem z_cellEq {D : va_G} {cl : List vw_C} {ws : va_W} {H : Heap} {q0 a : Nat} {cA : ClassId} {N : Nat} {f g : Nat → Int32} (hP : va_P D cl ws H) (he : ws[q0]? = some (a, .inl (cA, N, .inl f))) (hfg : ∀ j, j < N → f j = g j) : va_P D cl (ws.set q0 (a, .inl (cA, N, .inl g))) H := by
  intro j q hq
  by_cases hj : j = q0
  · subst hj
    have hl : j < ws.length := (List.getElem?_eq_some_iff.mp he).1
    rw [List.getElem?_set_self hl] at hq
    cases hq
    have h1 := hP j _ he
    show H[a]? = some (vp_cell _ _)
    have h2 : H[a]? = some (vp_cell cA (N, .inl f)) := h1
    rw [h2, vp_cell_i, vp_cell_i]
    congr 1
    unfold arrV
    congr 1
    congr 1
    funext i
    show Value.int (f i.val) = Value.int (g i.val)
    rw [hfg i.val i.isLt]
  · rw [List.getElem?_set_ne (fun h => hj h.symm)] at hq
    exact hP j q hq
end
section
theorem inX0 : ∀ w ∈ u_ws RX0 TX0 3, w ∈ lw_g := mk_u [205, 207, 209] (by decide +kernel) (by decide +kernel)
theorem dfX0 : ∀ j, j < 3 → defaultValue (tyX0 j) = vp_V [.int 0, .null, .null] j := by decide +kernel
theorem kI_X0 : Cond.instantiable RX0 3 ∈ lw_g := mk_c1 191 (by decide +kernel) rfl
theorem kZ_X0 : Cond.initialized RX0 ∈ lw_g := mk_c1 7 (by decide +kernel) rfl
theorem inX1 : ∀ w ∈ u_ws RX1 TX1 19, w ∈ lw_g := mk_u [424, 426, 428, 430, 432, 434, 436, 438, 440, 442, 444, 446, 448, 450, 452, 454, 456, 458, 460] (by decide +kernel) (by decide +kernel)
theorem dfX1 : ∀ j, j < 19 → defaultValue (tyX1 j) = vp_V [.null, .null, .null, .null, .null, .null, .null, .null, .int 0, .int 0, .int 0, .int 0, .int 0, .int 0, .int 0, .int 0, .int 0, .int 0, .int 0] j := by decide +kernel
theorem kI_X1 : Cond.instantiable RX1 19 ∈ lw_g := mk_c2 159 (by decide +kernel) rfl
theorem kZ_X1 : Cond.initialized RX1 ∈ lw_g := mk_c1 11 (by decide +kernel) rfl
theorem inX2 : ∀ w ∈ u_ws RX2 TX2 14, w ∈ lw_g := mk_u [490, 492, 494, 496, 498, 500, 502, 504, 506, 508, 510, 512, 514, 516] (by decide +kernel) (by decide +kernel)
theorem dfX2 : ∀ j, j < 14 → defaultValue (tyX2 j) = vp_V [.null, .null, .null, .int 0, .int 0, .null, .null, .null, .int 0, .int 0, .int 0, .null, .null, .null] j := by decide +kernel
theorem kI_X2 : Cond.instantiable RX2 14 ∈ lw_g := mk_c2 225 (by decide +kernel) rfl
theorem kZ_X2 : Cond.initialized RX2 ∈ lw_g := mk_c1 12 (by decide +kernel) rfl
theorem inX3 : ∀ w ∈ u_ws RX3 TX3 6, w ∈ lw_g := mk_u [321, 323, 325, 327, 329, 331] (by decide +kernel) (by decide +kernel)
theorem dfX3 : ∀ j, j < 6 → defaultValue (tyX3 j) = vp_V [.null, .null, .null, .null, .null, .null] j := by decide +kernel
theorem kI_X3 : Cond.instantiable RX3 6 ∈ lw_g := mk_c1 27 (by decide +kernel) rfl
theorem kZ_X3 : Cond.initialized RX3 ∈ lw_g := mk_c1 2 (by decide +kernel) rfl
theorem inX4 : ∀ w ∈ u_ws RX4 TX4 13, w ∈ lw_g := mk_u [276, 278, 280, 282, 284, 286, 288, 290, 292, 294, 296, 298, 300] (by decide +kernel) (by decide +kernel)
theorem dfX4 : ∀ j, j < 13 → defaultValue (tyX4 j) = vp_V [.int 0, .null, .int 0, .null, .null, .int 0, .null, .null, .null, .int 0, .null, .null, .null] j := by decide +kernel
theorem kI_X4 : Cond.instantiable RX4 13 ∈ lw_g := mk_c1 234 (by decide +kernel) rfl
theorem kZ_X4 : Cond.initialized RX4 ∈ lw_g := mk_c1 9 (by decide +kernel) rfl
theorem inX5 : ∀ w ∈ u_ws RX5 TX5 15, w ∈ lw_g := mk_u [159, 161, 163, 165, 167, 169, 171, 173, 175, 177, 179, 181, 183, 185, 187] (by decide +kernel) (by decide +kernel)
theorem dfX5 : ∀ j, j < 15 → defaultValue (tyX5 j) = vp_V [.int 0, .null, .null, .null, .null, .null, .null, .null, .null, .null, .null, .null, .null, .int 0, .int 0] j := by decide +kernel
theorem kI_X5 : Cond.instantiable RX5 15 ∈ lw_g := mk_c1 126 (by decide +kernel) rfl
theorem kZ_X5 : Cond.initialized RX5 ∈ lw_g := mk_c1 5 (by decide +kernel) rfl
theorem inX6 : ∀ w ∈ u_ws RX6 TX6 15, w ∈ lw_g := mk_u [64, 66, 68, 70, 72, 74, 76, 78, 80, 82, 84, 86, 88, 90, 92] (by decide +kernel) (by decide +kernel)
theorem dfX6 : ∀ j, j < 15 → defaultValue (tyX6 j) = vp_V [.int 0, .null, .null, .null, .null, .null, .int 0, .null, .int 0, .null, .null, .null, .null, .null, .null] j := by decide +kernel
theorem kI_X6 : Cond.instantiable RX6 15 ∈ lw_g := mk_c1 33 (by decide +kernel) rfl
theorem kZ_X6 : Cond.initialized RX6 ∈ lw_g := mk_c1 3 (by decide +kernel) rfl
theorem inX7 : ∀ w ∈ u_ws RX7 TX7 16, w ∈ lw_g := mk_u [365, 367, 369, 371, 373, 375, 377, 379, 381, 383, 385, 387, 389, 391, 393, 395] (by decide +kernel) (by decide +kernel)
theorem dfX7 : ∀ j, j < 16 → defaultValue (tyX7 j) = vp_V [.null, .int 0, .int 0, .int 0, .null, .null, .null, .null, .int 0, .int 0, .int 0, .int 0, .int 0, .int 0, .long 0, .int 0] j := by decide +kernel
theorem kI_X7 : Cond.instantiable RX7 16 ∈ lw_g := mk_c2 96 (by decide +kernel) rfl
theorem kZ_X7 : Cond.initialized RX7 ∈ lw_g := mk_c1 10 (by decide +kernel) rfl
theorem inX8 : ∀ w ∈ u_ws RX8 TX8 6, w ∈ lw_g := mk_u [112, 114, 116, 118, 120, 122] (by decide +kernel) (by decide +kernel)
theorem dfX8 : ∀ j, j < 6 → defaultValue (tyX8 j) = vp_V [.int 0, .null, .null, .null, .null, .null] j := by decide +kernel
theorem kI_X8 : Cond.instantiable RX8 6 ∈ lw_g := mk_c1 97 (by decide +kernel) rfl
theorem kZ_X8 : Cond.initialized RX8 ∈ lw_g := mk_c1 4 (by decide +kernel) rfl
theorem inX9 : ∀ w ∈ u_ws RX9 TX9 3, w ∈ lw_g := mk_u [226, 228, 230] (by decide +kernel) (by decide +kernel)
theorem dfX9 : ∀ j, j < 3 → defaultValue (tyX9 j) = vp_V [.null, .null, .null] j := by decide +kernel
theorem kI_X9 : Cond.instantiable RX9 3 ∈ lw_g := mk_c1 213 (by decide +kernel) rfl
theorem kZ_X9 : Cond.initialized RX9 ∈ lw_g := mk_c1 8 (by decide +kernel) rfl
theorem inX10 : ∀ w ∈ u_ws RX10 TX10 6, w ∈ lw_g := mk_u [870, 872, 874, 876, 878, 880] (by decide +kernel) (by decide +kernel)
theorem dfX10 : ∀ j, j < 6 → defaultValue (tyX10 j) = vp_V [.int 0, .int 0, .null, .null, .null, .null] j := by decide +kernel
theorem kI_X10 : Cond.instantiable RX10 6 ∈ lw_g := mk_c4 119 (by decide +kernel) rfl
theorem kZ_X10 : Cond.initialized RX10 ∈ lw_g := mk_c1 15 (by decide +kernel) rfl
theorem inX11 : ∀ w ∈ u_ws RX11 TX11 6, w ∈ lw_g := mk_u [525, 527, 529, 531, 533, 535] (by decide +kernel) (by decide +kernel)
theorem dfX11 : ∀ j, j < 6 → defaultValue (tyX11 j) = vp_V [.null, .null, .null, .null, .null, .int 0] j := by decide +kernel
theorem kI_X11 : Cond.instantiable RX11 6 ∈ lw_g := mk_c1 19 (by decide +kernel) rfl
theorem kZ_X11 : Cond.initialized RX11 ∈ lw_g := mk_c1 1 (by decide +kernel) rfl
theorem inX12 : ∀ w ∈ u_ws RX12 TX12 56, w ∈ lw_g := mk_u [1308, 1310, 1312, 1314, 1316, 1318, 1320, 1322, 1324, 1326, 1328, 1330, 1332, 1334, 1336, 1338, 1340, 1342, 1344, 1346, 1348, 1350, 1352, 1354, 1356, 1358, 1360, 1362, 1364, 1366, 1368, 1370, 1372, 1374, 1376, 1378, 1380, 1382, 1384, 1386, 1388, 1390, 1392, 1394, 1396, 1398, 1400, 1402, 1404, 1406, 1408, 1410, 1412, 1414, 1416, 1418] (by decide +kernel) (by decide +kernel)
theorem dfX12 : ∀ j, j < 56 → defaultValue (tyX12 j) = vp_V [.int 0, .int 0, .null, .null, .null, .int 0, .null, .null, .null, .null, .null, .int 0, .int 0, .int 0, .int 0, .long 0, .int 0, .int 0, .int 0, .null, .int 0, .null, .null, .int 0, .null, .null, .int 0, .int 0, .null, .null, .null, .null, .int 0, .long 0, .long 0, .int 0, .int 0, .int 0, .int 0, .null, .null, .int 0, .int 0, .int 0, .int 0, .null, .null, .int 0, .int 0, .null, .null, .null, .null, .int 0, .int 0, .int 0] j := by decide +kernel
theorem kI_X12 : Cond.instantiable RX12 56 ∈ lw_g := mk_c6 46 (by decide +kernel) rfl
theorem kZ_X12 : Cond.initialized RX12 ∈ lw_g := mk_c1 13 (by decide +kernel) rfl
theorem kZ_J6 : Cond.initialized RJ6 ∈ lw_g := mk_c1 17 (by decide +kernel) rfl
theorem kZ_J7 : Cond.initialized RJ7 ∈ lw_g := mk_c1 6 (by decide +kernel) rfl
theorem kZ_J9 : Cond.initialized RJ9 ∈ lw_g := mk_c1 14 (by decide +kernel) rfl
theorem kZ_J10 : Cond.initialized RJ10 ∈ lw_g := mk_c1 16 (by decide +kernel) rfl
theorem kArr_int : Cond.arrayClass .int ∈ lw_g := mk_c1 95 (by decide +kernel) rfl
theorem kArr_long : Cond.arrayClass .long ∈ lw_g := mk_c2 223 (by decide +kernel) rfl
theorem kArr_boolean : Cond.arrayClass .boolean ∈ lw_g := mk_c6 221 (by decide +kernel) rfl
theorem kObjI : Cond.instanceMethod objectInit ∈ lw_g := mk_c1 24 (by decide +kernel) rfl
theorem kObjC : Cond.code objectInit ⟨#[0xb1]⟩ 1 none ∈ lw_g := mk_c1 25 (by decide +kernel) rfl
theorem kC_L_10 : Cond.classLink RL 10 RX12 ∈ lw_g := mk_c6 45 (by decide +kernel) rfl
theorem kC_L_7 : Cond.classLink RL 7 RX11 ∈ lw_g := mk_c1 18 (by decide +kernel) rfl
theorem kC_X0_9 : Cond.classLink RX0 9 RX10 ∈ lw_g := mk_c1 196 (by decide +kernel) rfl
theorem kC_X11_20 : Cond.classLink RX11 20 RX7 ∈ lw_g := mk_c2 95 (by decide +kernel) rfl
theorem kC_X11_27 : Cond.classLink RX11 27 RX1 ∈ lw_g := mk_c2 158 (by decide +kernel) rfl
theorem kC_X11_36 : Cond.classLink RX11 36 RX2 ∈ lw_g := mk_c2 224 (by decide +kernel) rfl
theorem kC_X11_9 : Cond.classLink RX11 9 RX3 ∈ lw_g := mk_c1 26 (by decide +kernel) rfl
theorem kC_X3_16 : Cond.classLink RX3 16 RX8 ∈ lw_g := mk_c1 96 (by decide +kernel) rfl
theorem kC_X3_23 : Cond.classLink RX3 23 RX5 ∈ lw_g := mk_c1 125 (by decide +kernel) rfl
theorem kC_X3_30 : Cond.classLink RX3 30 RX0 ∈ lw_g := mk_c1 190 (by decide +kernel) rfl
theorem kC_X3_37 : Cond.classLink RX3 37 RX9 ∈ lw_g := mk_c1 212 (by decide +kernel) rfl
theorem kC_X3_44 : Cond.classLink RX3 44 RX4 ∈ lw_g := mk_c1 233 (by decide +kernel) rfl
theorem kC_X3_7 : Cond.classLink RX3 7 RX6 ∈ lw_g := mk_c1 32 (by decide +kernel) rfl
theorem kF_X0_11 : Cond.fieldLink RX0 11 "HalfDays$Acts" "text" "[LHalfDays$Text;" ∈ lw_g := mk_c1 201 (by decide +kernel) rfl
theorem kF_X0_17 : Cond.fieldLink RX0 17 "HalfDays$Acts" "from" "[I" ∈ lw_g := mk_c1 203 (by decide +kernel) rfl
theorem kF_X0_21 : Cond.fieldLink RX0 21 "HalfDays$Acts" "texts" "I" ∈ lw_g := mk_c1 198 (by decide +kernel) rfl
theorem kF_X11_105 : Cond.fieldLink RX11 105 "HalfDays$Rolls" "entries" "I" ∈ lw_g := mk_c1 103 (by decide +kernel) rfl
theorem kF_X11_12 : Cond.fieldLink RX11 12 "HalfDays" "now" "LHalfDays$County;" ∈ lw_g := mk_c3 39 (by decide +kernel) rfl
theorem kF_X11_124 : Cond.fieldLink RX11 124 "HalfDays$People" "buses" "I" ∈ lw_g := mk_c1 56 (by decide +kernel) rfl
theorem kF_X11_137 : Cond.fieldLink RX11 137 "HalfDays$County" "marks" "LHalfDays$Marks;" ∈ lw_g := mk_c2 71 (by decide +kernel) rfl
theorem kF_X11_141 : Cond.fieldLink RX11 141 "HalfDays$Marks" "marks" "I" ∈ lw_g := mk_c1 135 (by decide +kernel) rfl
theorem kF_X11_16 : Cond.fieldLink RX11 16 "HalfDays" "images" "[LHalfDays$County;" ∈ lw_g := mk_c3 40 (by decide +kernel) rfl
theorem kF_X11_181 : Cond.fieldLink RX11 181 "HalfDays$Reader" "length" "I" ∈ lw_g := mk_c2 103 (by decide +kernel) rfl
theorem kF_X11_187 : Cond.fieldLink RX11 187 "HalfDays$County" "acts" "LHalfDays$Acts;" ∈ lw_g := mk_c2 74 (by decide +kernel) rfl
theorem kF_X11_191 : Cond.fieldLink RX11 191 "HalfDays$Acts" "texts" "I" ∈ lw_g := mk_c1 200 (by decide +kernel) rfl
theorem kF_X11_204 : Cond.fieldLink RX11 204 "HalfDays$Reader" "fault" "I" ∈ lw_g := mk_c2 105 (by decide +kernel) rfl
theorem kF_X11_23 : Cond.fieldLink RX11 23 "HalfDays" "reader" "LHalfDays$Reader;" ∈ lw_g := mk_c3 41 (by decide +kernel) rfl
theorem kF_X11_230 : Cond.fieldLink RX11 230 "HalfDays$County" "steps" "LHalfDays$Steps;" ∈ lw_g := mk_c2 77 (by decide +kernel) rfl
theorem kF_X11_263 : Cond.fieldLink RX11 263 "HalfDays$County" "lists" "LHalfDays$Lists;" ∈ lw_g := mk_c2 80 (by decide +kernel) rfl
theorem kF_X11_270 : Cond.fieldLink RX11 270 "HalfDays$Lists" "records" "I" ∈ lw_g := mk_c2 1 (by decide +kernel) rfl
theorem kF_X11_275 : Cond.fieldLink RX11 275 "HalfDays$Lists" "recordMarks" "[I" ∈ lw_g := mk_c2 4 (by decide +kernel) rfl
theorem kF_X11_281 : Cond.fieldLink RX11 281 "HalfDays$Lists" "missed" "I" ∈ lw_g := mk_c2 7 (by decide +kernel) rfl
theorem kF_X11_294 : Cond.fieldLink RX11 294 "HalfDays$Choices" "rivals" "I" ∈ lw_g := mk_c2 237 (by decide +kernel) rfl
theorem kF_X11_297 : Cond.fieldLink RX11 297 "HalfDays$Choices" "rowLength" "I" ∈ lw_g := mk_c2 235 (by decide +kernel) rfl
theorem kF_X11_315 : Cond.fieldLink RX11 315 "HalfDays$Lists" "visits" "I" ∈ lw_g := mk_c2 15 (by decide +kernel) rfl
theorem kF_X11_32 : Cond.fieldLink RX11 32 "HalfDays" "asker" "LHalfDays$Asker;" ∈ lw_g := mk_c3 42 (by decide +kernel) rfl
theorem kF_X11_331 : Cond.fieldLink RX11 331 "HalfDays$Choices" "roundBits" "I" ∈ lw_g := mk_c3 2 (by decide +kernel) rfl
theorem kF_X11_334 : Cond.fieldLink RX11 334 "HalfDays$Choices" "roundWorth" "I" ∈ lw_g := mk_c3 4 (by decide +kernel) rfl
theorem kF_X11_337 : Cond.fieldLink RX11 337 "HalfDays$Choices" "roundMinutes" "I" ∈ lw_g := mk_c3 6 (by decide +kernel) rfl
theorem kF_X11_352 : Cond.fieldLink RX11 352 "HalfDays$Lists" "drawn" "I" ∈ lw_g := mk_c2 27 (by decide +kernel) rfl
theorem kF_X11_383 : Cond.fieldLink RX11 383 "HalfDays" "refusal" "I" ∈ lw_g := mk_c3 44 (by decide +kernel) rfl
theorem kF_X11_39 : Cond.fieldLink RX11 39 "HalfDays" "choices" "LHalfDays$Choices;" ∈ lw_g := mk_c3 43 (by decide +kernel) rfl
theorem kF_X11_43 : Cond.fieldLink RX11 43 "HalfDays$County" "people" "LHalfDays$People;" ∈ lw_g := mk_c2 65 (by decide +kernel) rfl
theorem kF_X11_59 : Cond.fieldLink RX11 59 "HalfDays$People" "children" "I" ∈ lw_g := mk_c1 39 (by decide +kernel) rfl
theorem kF_X11_69 : Cond.fieldLink RX11 69 "HalfDays$People" "schools" "I" ∈ lw_g := mk_c1 52 (by decide +kernel) rfl
theorem kF_X11_86 : Cond.fieldLink RX11 86 "HalfDays$County" "rolls" "LHalfDays$Rolls;" ∈ lw_g := mk_c2 68 (by decide +kernel) rfl
theorem kF_X12_14 : Cond.fieldLink RX12 14 "HalfDaysModel" "images" "[I" ∈ lw_g := mk_c6 55 (by decide +kernel) rfl
theorem kF_X12_161 : Cond.fieldLink RX12 161 "HalfDaysModel" "known" "I" ∈ lw_g := mk_c6 57 (by decide +kernel) rfl
theorem kF_X12_17 : Cond.fieldLink RX12 17 "HalfDaysModel" "isKept" "[Z" ∈ lw_g := mk_c6 56 (by decide +kernel) rfl
theorem kF_X12_193 : Cond.fieldLink RX12 193 "HalfDaysModel" "taped" "I" ∈ lw_g := mk_c6 63 (by decide +kernel) rfl
theorem kF_X12_199 : Cond.fieldLink RX12 199 "HalfDaysModel" "to" "I" ∈ lw_g := mk_c6 65 (by decide +kernel) rfl
theorem kF_X12_202 : Cond.fieldLink RX12 202 "HalfDaysModel" "bad" "Z" ∈ lw_g := mk_c6 69 (by decide +kernel) rfl
theorem kF_X12_209 : Cond.fieldLink RX12 209 "HalfDaysModel" "from" "I" ∈ lw_g := mk_c6 64 (by decide +kernel) rfl
theorem kF_X12_21 : Cond.fieldLink RX12 21 "HalfDaysModel" "doesCount" "[Z" ∈ lw_g := mk_c6 58 (by decide +kernel) rfl
theorem kF_X12_212 : Cond.fieldLink RX12 212 "HalfDaysModel" "worth" "J" ∈ lw_g := mk_c6 67 (by decide +kernel) rfl
theorem kF_X12_222 : Cond.fieldLink RX12 222 "HalfDaysModel" "sort" "I" ∈ lw_g := mk_c6 66 (by decide +kernel) rfl
theorem kF_X12_239 : Cond.fieldLink RX12 239 "HalfDaysModel" "nCode" "I" ∈ lw_g := mk_c6 72 (by decide +kernel) rfl
theorem kF_X12_24 : Cond.fieldLink RX12 24 "HalfDaysModel" "letterOf" "[I" ∈ lw_g := mk_c6 59 (by decide +kernel) rfl
theorem kF_X12_27 : Cond.fieldLink RX12 27 "HalfDaysModel" "kindOf" "[I" ∈ lw_g := mk_c6 60 (by decide +kernel) rfl
theorem kF_X12_293 : Cond.fieldLink RX12 293 "HalfDaysModel" "nLeaves" "I" ∈ lw_g := mk_c6 75 (by decide +kernel) rfl
theorem kF_X12_30 : Cond.fieldLink RX12 30 "HalfDaysModel" "clauseOf" "[I" ∈ lw_g := mk_c6 61 (by decide +kernel) rfl
theorem kF_X12_33 : Cond.fieldLink RX12 33 "HalfDaysModel" "tape" "[I" ∈ lw_g := mk_c6 62 (by decide +kernel) rfl
theorem kF_X12_36 : Cond.fieldLink RX12 36 "HalfDaysModel" "fault" "I" ∈ lw_g := mk_c6 68 (by decide +kernel) rfl
theorem kF_X12_367 : Cond.fieldLink RX12 367 "HalfDaysModel" "nClauses" "I" ∈ lw_g := mk_c6 70 (by decide +kernel) rfl
theorem kF_X12_40 : Cond.fieldLink RX12 40 "HalfDaysModel" "nClause" "[I" ∈ lw_g := mk_c6 71 (by decide +kernel) rfl
theorem kF_X12_43 : Cond.fieldLink RX12 43 "HalfDaysModel" "nOp" "[I" ∈ lw_g := mk_c6 73 (by decide +kernel) rfl
theorem kF_X12_46 : Cond.fieldLink RX12 46 "HalfDaysModel" "nArg" "[I" ∈ lw_g := mk_c6 74 (by decide +kernel) rfl
theorem kF_X12_49 : Cond.fieldLink RX12 49 "HalfDaysModel" "pile" "[I" ∈ lw_g := mk_c6 76 (by decide +kernel) rfl
theorem kF_X12_498 : Cond.fieldLink RX12 498 "HalfDaysModel" "likes" "I" ∈ lw_g := mk_c6 99 (by decide +kernel) rfl
theorem kF_X12_501 : Cond.fieldLink RX12 501 "HalfDaysModel" "joins" "I" ∈ lw_g := mk_c6 100 (by decide +kernel) rfl
theorem kF_X12_512 : Cond.fieldLink RX12 512 "HalfDaysModel" "joinRivals" "I" ∈ lw_g := mk_c6 96 (by decide +kernel) rfl
theorem kF_X12_515 : Cond.fieldLink RX12 515 "HalfDaysModel" "hasJoin" "Z" ∈ lw_g := mk_c6 94 (by decide +kernel) rfl
theorem kF_X12_518 : Cond.fieldLink RX12 518 "HalfDaysModel" "joinMany" "I" ∈ lw_g := mk_c6 95 (by decide +kernel) rfl
theorem kF_X12_52 : Cond.fieldLink RX12 52 "HalfDaysModel" "pileAt" "[I" ∈ lw_g := mk_c6 77 (by decide +kernel) rfl
theorem kF_X12_549 : Cond.fieldLink RX12 549 "HalfDaysModel" "sealMany" "I" ∈ lw_g := mk_c6 105 (by decide +kernel) rfl
theorem kF_X12_55 : Cond.fieldLink RX12 55 "HalfDaysModel" "isOnText" "[Z" ∈ lw_g := mk_c6 80 (by decide +kernel) rfl
theorem kF_X12_552 : Cond.fieldLink RX12 552 "HalfDaysModel" "sealSum" "I" ∈ lw_g := mk_c6 106 (by decide +kernel) rfl
theorem kF_X12_555 : Cond.fieldLink RX12 555 "HalfDaysModel" "sealPlaces" "I" ∈ lw_g := mk_c6 107 (by decide +kernel) rfl
theorem kF_X12_58 : Cond.fieldLink RX12 58 "HalfDaysModel" "isStruck" "[Z" ∈ lw_g := mk_c6 81 (by decide +kernel) rfl
theorem kF_X12_61 : Cond.fieldLink RX12 61 "HalfDaysModel" "set" "[J" ∈ lw_g := mk_c6 82 (by decide +kernel) rfl
theorem kF_X12_65 : Cond.fieldLink RX12 65 "HalfDaysModel" "rest" "[J" ∈ lw_g := mk_c6 83 (by decide +kernel) rfl
theorem kF_X12_68 : Cond.fieldLink RX12 68 "HalfDaysModel" "possibleTo" "[I" ∈ lw_g := mk_c6 91 (by decide +kernel) rfl
theorem kF_X12_7 : Cond.fieldLink RX12 7 "HalfDaysModel" "row" "[I" ∈ lw_g := mk_c6 54 (by decide +kernel) rfl
theorem kF_X12_71 : Cond.fieldLink RX12 71 "HalfDaysModel" "awayTo" "[I" ∈ lw_g := mk_c6 92 (by decide +kernel) rfl
theorem kF_X12_74 : Cond.fieldLink RX12 74 "HalfDaysModel" "joinRow" "[I" ∈ lw_g := mk_c6 97 (by decide +kernel) rfl
theorem kF_X12_77 : Cond.fieldLink RX12 77 "HalfDaysModel" "joinNow" "[I" ∈ lw_g := mk_c6 98 (by decide +kernel) rfl
theorem kF_X12_80 : Cond.fieldLink RX12 80 "HalfDaysModel" "ways" "[I" ∈ lw_g := mk_c6 101 (by decide +kernel) rfl
theorem kF_X12_83 : Cond.fieldLink RX12 83 "HalfDaysModel" "possibleOf" "[I" ∈ lw_g := mk_c6 102 (by decide +kernel) rfl
theorem kF_X12_86 : Cond.fieldLink RX12 86 "HalfDaysModel" "awayOf" "[I" ∈ lw_g := mk_c6 103 (by decide +kernel) rfl
theorem kF_X12_89 : Cond.fieldLink RX12 89 "HalfDaysModel" "kindWas" "[I" ∈ lw_g := mk_c6 104 (by decide +kernel) rfl
theorem kF_X12_92 : Cond.fieldLink RX12 92 "HalfDaysModel" "thrown" "I" ∈ lw_g := mk_c6 52 (by decide +kernel) rfl
theorem kF_X12_95 : Cond.fieldLink RX12 95 "HalfDaysModel" "status" "I" ∈ lw_g := mk_c6 53 (by decide +kernel) rfl
theorem kF_X1_103 : Cond.fieldLink RX1 103 "HalfDays$Acts" "texts" "I" ∈ lw_g := mk_c1 199 (by decide +kernel) rfl
theorem kF_X1_15 : Cond.fieldLink RX1 15 "HalfDays$Asker" "struck" "[I" ∈ lw_g := mk_c2 166 (by decide +kernel) rfl
theorem kF_X1_19 : Cond.fieldLink RX1 19 "HalfDays$Asker" "kinds" "[I" ∈ lw_g := mk_c2 167 (by decide +kernel) rfl
theorem kF_X1_196 : Cond.fieldLink RX1 196 "HalfDays$Marks" "marks" "I" ∈ lw_g := mk_c1 136 (by decide +kernel) rfl
theorem kF_X1_22 : Cond.fieldLink RX1 22 "HalfDays$Asker" "awayAhead" "[I" ∈ lw_g := mk_c2 168 (by decide +kernel) rfl
theorem kF_X1_25 : Cond.fieldLink RX1 25 "HalfDays$Asker" "possibleAhead" "[I" ∈ lw_g := mk_c2 169 (by decide +kernel) rfl
theorem kF_X1_28 : Cond.fieldLink RX1 28 "HalfDays$Asker" "weekPossible" "[I" ∈ lw_g := mk_c2 170 (by decide +kernel) rfl
theorem kF_X1_31 : Cond.fieldLink RX1 31 "HalfDays$Asker" "weekAway" "[I" ∈ lw_g := mk_c2 171 (by decide +kernel) rfl
theorem kF_X1_34 : Cond.fieldLink RX1 34 "HalfDays$Asker" "county" "LHalfDays$County;" ∈ lw_g := mk_c2 164 (by decide +kernel) rfl
theorem kF_X1_38 : Cond.fieldLink RX1 38 "HalfDays$County" "marks" "LHalfDays$Marks;" ∈ lw_g := mk_c2 70 (by decide +kernel) rfl
theorem kF_X1_9 : Cond.fieldLink RX1 9 "HalfDays$Asker" "stack" "[J" ∈ lw_g := mk_c2 165 (by decide +kernel) rfl
theorem kF_X1_96 : Cond.fieldLink RX1 96 "HalfDays$County" "acts" "LHalfDays$Acts;" ∈ lw_g := mk_c2 73 (by decide +kernel) rfl
theorem kF_X2_136 : Cond.fieldLink RX2 136 "HalfDays$Lists" "drawn" "I" ∈ lw_g := mk_c2 26 (by decide +kernel) rfl
theorem kF_X2_15 : Cond.fieldLink RX2 15 "HalfDays$Choices" "rivals" "I" ∈ lw_g := mk_c2 236 (by decide +kernel) rfl
theorem kF_X2_19 : Cond.fieldLink RX2 19 "HalfDays$Choices" "like" "[I" ∈ lw_g := mk_c2 238 (by decide +kernel) rfl
theorem kF_X2_22 : Cond.fieldLink RX2 22 "HalfDays$Choices" "joinScore" "[I" ∈ lw_g := mk_c2 239 (by decide +kernel) rfl
theorem kF_X2_25 : Cond.fieldLink RX2 25 "HalfDays$Choices" "joinWays" "[I" ∈ lw_g := mk_c3 0 (by decide +kernel) rfl
theorem kF_X2_28 : Cond.fieldLink RX2 28 "HalfDays$Choices" "way" "[I" ∈ lw_g := mk_c3 7 (by decide +kernel) rfl
theorem kF_X2_31 : Cond.fieldLink RX2 31 "HalfDays$Choices" "officeWay" "[I" ∈ lw_g := mk_c3 8 (by decide +kernel) rfl
theorem kF_X2_34 : Cond.fieldLink RX2 34 "HalfDays$Choices" "bySet" "[I" ∈ lw_g := mk_c3 9 (by decide +kernel) rfl
theorem kF_X2_37 : Cond.fieldLink RX2 37 "HalfDays$County" "people" "LHalfDays$People;" ∈ lw_g := mk_c2 64 (by decide +kernel) rfl
theorem kF_X2_43 : Cond.fieldLink RX2 43 "HalfDays$Choices" "people" "LHalfDays$People;" ∈ lw_g := mk_c2 230 (by decide +kernel) rfl
theorem kF_X2_44 : Cond.fieldLink RX2 44 "HalfDays$County" "lists" "LHalfDays$Lists;" ∈ lw_g := mk_c2 79 (by decide +kernel) rfl
theorem kF_X2_48 : Cond.fieldLink RX2 48 "HalfDays$Choices" "lists" "LHalfDays$Lists;" ∈ lw_g := mk_c2 231 (by decide +kernel) rfl
theorem kF_X2_49 : Cond.fieldLink RX2 49 "HalfDays$Lists" "records" "I" ∈ lw_g := mk_c2 0 (by decide +kernel) rfl
theorem kF_X2_58 : Cond.fieldLink RX2 58 "HalfDays$Lists" "missed" "I" ∈ lw_g := mk_c2 6 (by decide +kernel) rfl
theorem kF_X2_82 : Cond.fieldLink RX2 82 "HalfDays$Choices" "rowLength" "I" ∈ lw_g := mk_c2 234 (by decide +kernel) rfl
theorem kF_X2_88 : Cond.fieldLink RX2 88 "HalfDays$Choices" "roundBits" "I" ∈ lw_g := mk_c3 1 (by decide +kernel) rfl
theorem kF_X2_9 : Cond.fieldLink RX2 9 "HalfDays$Choices" "row" "[I" ∈ lw_g := mk_c2 232 (by decide +kernel) rfl
theorem kF_X2_91 : Cond.fieldLink RX2 91 "HalfDays$Choices" "roundWorth" "I" ∈ lw_g := mk_c3 3 (by decide +kernel) rfl
theorem kF_X2_94 : Cond.fieldLink RX2 94 "HalfDays$Choices" "roundMinutes" "I" ∈ lw_g := mk_c3 5 (by decide +kernel) rfl
theorem kF_X2_97 : Cond.fieldLink RX2 97 "HalfDays$Lists" "visits" "I" ∈ lw_g := mk_c2 14 (by decide +kernel) rfl
theorem kF_X3_10 : Cond.fieldLink RX3 10 "HalfDays$County" "people" "LHalfDays$People;" ∈ lw_g := mk_c2 63 (by decide +kernel) rfl
theorem kF_X3_19 : Cond.fieldLink RX3 19 "HalfDays$County" "rolls" "LHalfDays$Rolls;" ∈ lw_g := mk_c2 67 (by decide +kernel) rfl
theorem kF_X3_26 : Cond.fieldLink RX3 26 "HalfDays$County" "marks" "LHalfDays$Marks;" ∈ lw_g := mk_c2 69 (by decide +kernel) rfl
theorem kF_X3_33 : Cond.fieldLink RX3 33 "HalfDays$County" "acts" "LHalfDays$Acts;" ∈ lw_g := mk_c2 72 (by decide +kernel) rfl
theorem kF_X3_40 : Cond.fieldLink RX3 40 "HalfDays$County" "steps" "LHalfDays$Steps;" ∈ lw_g := mk_c2 75 (by decide +kernel) rfl
theorem kF_X3_47 : Cond.fieldLink RX3 47 "HalfDays$County" "lists" "LHalfDays$Lists;" ∈ lw_g := mk_c2 78 (by decide +kernel) rfl
theorem kF_X4_15 : Cond.fieldLink RX4 15 "HalfDays$Lists" "missingChild" "[I" ∈ lw_g := mk_c2 8 (by decide +kernel) rfl
theorem kF_X4_18 : Cond.fieldLink RX4 18 "HalfDays$Lists" "missingMarks" "[I" ∈ lw_g := mk_c2 10 (by decide +kernel) rfl
theorem kF_X4_21 : Cond.fieldLink RX4 21 "HalfDays$Lists" "visitChild" "[I" ∈ lw_g := mk_c2 16 (by decide +kernel) rfl
theorem kF_X4_24 : Cond.fieldLink RX4 24 "HalfDays$Lists" "visitMinutes" "[I" ∈ lw_g := mk_c2 19 (by decide +kernel) rfl
theorem kF_X4_27 : Cond.fieldLink RX4 27 "HalfDays$Lists" "visitWorth" "[I" ∈ lw_g := mk_c2 22 (by decide +kernel) rfl
theorem kF_X4_30 : Cond.fieldLink RX4 30 "HalfDays$Lists" "drawnChild" "[I" ∈ lw_g := mk_c2 28 (by decide +kernel) rfl
theorem kF_X4_33 : Cond.fieldLink RX4 33 "HalfDays$Lists" "drawnGot" "[I" ∈ lw_g := mk_c2 30 (by decide +kernel) rfl
theorem kF_X4_36 : Cond.fieldLink RX4 36 "HalfDays$Lists" "drawnDid" "[I" ∈ lw_g := mk_c2 33 (by decide +kernel) rfl
theorem kF_X4_39 : Cond.fieldLink RX4 39 "HalfDays$Lists" "records" "I" ∈ lw_g := mk_c1 239 (by decide +kernel) rfl
theorem kF_X4_47 : Cond.fieldLink RX4 47 "HalfDays$Lists" "missed" "I" ∈ lw_g := mk_c2 5 (by decide +kernel) rfl
theorem kF_X4_50 : Cond.fieldLink RX4 50 "HalfDays$Lists" "visits" "I" ∈ lw_g := mk_c2 13 (by decide +kernel) rfl
theorem kF_X4_53 : Cond.fieldLink RX4 53 "HalfDays$Lists" "drawn" "I" ∈ lw_g := mk_c2 25 (by decide +kernel) rfl
theorem kF_X4_9 : Cond.fieldLink RX4 9 "HalfDays$Lists" "recordMarks" "[I" ∈ lw_g := mk_c2 2 (by decide +kernel) rfl
theorem kF_X5_15 : Cond.fieldLink RX5 15 "HalfDays$Marks" "child" "[I" ∈ lw_g := mk_c1 139 (by decide +kernel) rfl
theorem kF_X5_18 : Cond.fieldLink RX5 18 "HalfDays$Marks" "half" "[I" ∈ lw_g := mk_c1 141 (by decide +kernel) rfl
theorem kF_X5_21 : Cond.fieldLink RX5 21 "HalfDays$Marks" "letter" "[I" ∈ lw_g := mk_c1 144 (by decide +kernel) rfl
theorem kF_X5_24 : Cond.fieldLink RX5 24 "HalfDays$Marks" "minutes" "[I" ∈ lw_g := mk_c1 145 (by decide +kernel) rfl
theorem kF_X5_27 : Cond.fieldLink RX5 27 "HalfDays$Marks" "known" "[I" ∈ lw_g := mk_c1 148 (by decide +kernel) rfl
theorem kF_X5_30 : Cond.fieldLink RX5 30 "HalfDays$Marks" "granted" "[I" ∈ lw_g := mk_c1 149 (by decide +kernel) rfl
theorem kF_X5_33 : Cond.fieldLink RX5 33 "HalfDays$Marks" "grantedFrom" "[I" ∈ lw_g := mk_c1 151 (by decide +kernel) rfl
theorem kF_X5_36 : Cond.fieldLink RX5 36 "HalfDays$Marks" "next" "[I" ∈ lw_g := mk_c1 153 (by decide +kernel) rfl
theorem kF_X5_39 : Cond.fieldLink RX5 39 "HalfDays$Marks" "sealedMarks" "[I" ∈ lw_g := mk_c1 154 (by decide +kernel) rfl
theorem kF_X5_42 : Cond.fieldLink RX5 42 "HalfDays$Marks" "sealedSum" "[I" ∈ lw_g := mk_c1 155 (by decide +kernel) rfl
theorem kF_X5_45 : Cond.fieldLink RX5 45 "HalfDays$Marks" "sealedPlaces" "[I" ∈ lw_g := mk_c1 156 (by decide +kernel) rfl
theorem kF_X5_54 : Cond.fieldLink RX5 54 "HalfDays$Marks" "marks" "I" ∈ lw_g := mk_c1 134 (by decide +kernel) rfl
theorem kF_X5_69 : Cond.fieldLink RX5 69 "HalfDays$Marks" "daySum" "I" ∈ lw_g := mk_c1 157 (by decide +kernel) rfl
theorem kF_X5_72 : Cond.fieldLink RX5 72 "HalfDays$Marks" "dayPlaces" "I" ∈ lw_g := mk_c1 158 (by decide +kernel) rfl
theorem kF_X5_9 : Cond.fieldLink RX5 9 "HalfDays$Marks" "school" "[I" ∈ lw_g := mk_c1 137 (by decide +kernel) rfl
theorem kF_X6_15 : Cond.fieldLink RX6 15 "HalfDays$People" "carer" "[I" ∈ lw_g := mk_c1 43 (by decide +kernel) rfl
theorem kF_X6_18 : Cond.fieldLink RX6 18 "HalfDays$People" "route" "[I" ∈ lw_g := mk_c1 45 (by decide +kernel) rfl
theorem kF_X6_21 : Cond.fieldLink RX6 21 "HalfDays$People" "x" "[I" ∈ lw_g := mk_c1 47 (by decide +kernel) rfl
theorem kF_X6_24 : Cond.fieldLink RX6 24 "HalfDays$People" "y" "[I" ∈ lw_g := mk_c1 49 (by decide +kernel) rfl
theorem kF_X6_27 : Cond.fieldLink RX6 27 "HalfDays$People" "shutOn" "[I" ∈ lw_g := mk_c1 53 (by decide +kernel) rfl
theorem kF_X6_30 : Cond.fieldLink RX6 30 "HalfDays$People" "busRoute" "[I" ∈ lw_g := mk_c1 57 (by decide +kernel) rfl
theorem kF_X6_33 : Cond.fieldLink RX6 33 "HalfDays$People" "busHalf" "[I" ∈ lw_g := mk_c1 58 (by decide +kernel) rfl
theorem kF_X6_36 : Cond.fieldLink RX6 36 "HalfDays$People" "spans" "[I" ∈ lw_g := mk_c1 59 (by decide +kernel) rfl
theorem kF_X6_39 : Cond.fieldLink RX6 39 "HalfDays$People" "spanChild" "[I" ∈ lw_g := mk_c1 61 (by decide +kernel) rfl
theorem kF_X6_42 : Cond.fieldLink RX6 42 "HalfDays$People" "spanFrom" "[I" ∈ lw_g := mk_c1 62 (by decide +kernel) rfl
theorem kF_X6_45 : Cond.fieldLink RX6 45 "HalfDays$People" "spanTo" "[I" ∈ lw_g := mk_c1 63 (by decide +kernel) rfl
theorem kF_X6_48 : Cond.fieldLink RX6 48 "HalfDays$People" "children" "I" ∈ lw_g := mk_c1 38 (by decide +kernel) rfl
theorem kF_X6_52 : Cond.fieldLink RX6 52 "HalfDays$People" "schools" "I" ∈ lw_g := mk_c1 51 (by decide +kernel) rfl
theorem kF_X6_55 : Cond.fieldLink RX6 55 "HalfDays$People" "buses" "I" ∈ lw_g := mk_c1 55 (by decide +kernel) rfl
theorem kF_X6_9 : Cond.fieldLink RX6 9 "HalfDays$People" "born" "[I" ∈ lw_g := mk_c1 40 (by decide +kernel) rfl
theorem kF_X7_15 : Cond.fieldLink RX7 15 "HalfDays$Reader" "fault" "I" ∈ lw_g := mk_c2 104 (by decide +kernel) rfl
theorem kF_X7_156 : Cond.fieldLink RX7 156 "HalfDays$Reader" "number" "I" ∈ lw_g := mk_c2 122 (by decide +kernel) rfl
theorem kF_X7_163 : Cond.fieldLink RX7 163 "HalfDays$Reader" "tokenStart" "I" ∈ lw_g := mk_c2 120 (by decide +kernel) rfl
theorem kF_X7_19 : Cond.fieldLink RX7 19 "HalfDays$Reader" "key" "[I" ∈ lw_g := mk_c2 109 (by decide +kernel) rfl
theorem kF_X7_22 : Cond.fieldLink RX7 22 "HalfDays$Reader" "value" "[I" ∈ lw_g := mk_c2 111 (by decide +kernel) rfl
theorem kF_X7_25 : Cond.fieldLink RX7 25 "HalfDays$Reader" "at" "[I" ∈ lw_g := mk_c2 112 (by decide +kernel) rfl
theorem kF_X7_28 : Cond.fieldLink RX7 28 "HalfDays$Reader" "code" "[I" ∈ lw_g := mk_c2 114 (by decide +kernel) rfl
theorem kF_X7_31 : Cond.fieldLink RX7 31 "HalfDays$Reader" "length" "I" ∈ lw_g := mk_c2 102 (by decide +kernel) rfl
theorem kF_X7_34 : Cond.fieldLink RX7 34 "HalfDays$Reader" "codeLength" "I" ∈ lw_g := mk_c2 117 (by decide +kernel) rfl
theorem kF_X7_37 : Cond.fieldLink RX7 37 "HalfDays$Reader" "leaves" "I" ∈ lw_g := mk_c2 118 (by decide +kernel) rfl
theorem kF_X7_40 : Cond.fieldLink RX7 40 "HalfDays$Reader" "tokenEnd" "I" ∈ lw_g := mk_c2 121 (by decide +kernel) rfl
theorem kF_X7_46 : Cond.fieldLink RX7 46 "HalfDays$Reader" "clauses" "I" ∈ lw_g := mk_c2 107 (by decide +kernel) rfl
theorem kF_X7_52 : Cond.fieldLink RX7 52 "HalfDays$Reader" "word" "J" ∈ lw_g := mk_c2 123 (by decide +kernel) rfl
theorem kF_X7_66 : Cond.fieldLink RX7 66 "HalfDays$Reader" "tokenKind" "I" ∈ lw_g := mk_c2 119 (by decide +kernel) rfl
theorem kF_X7_9 : Cond.fieldLink RX7 9 "HalfDays$Reader" "tape" "[I" ∈ lw_g := mk_c2 101 (by decide +kernel) rfl
theorem kF_X8_15 : Cond.fieldLink RX8 15 "HalfDays$Rolls" "school" "[I" ∈ lw_g := mk_c1 105 (by decide +kernel) rfl
theorem kF_X8_18 : Cond.fieldLink RX8 18 "HalfDays$Rolls" "first" "[I" ∈ lw_g := mk_c1 106 (by decide +kernel) rfl
theorem kF_X8_21 : Cond.fieldLink RX8 21 "HalfDays$Rolls" "gone" "[I" ∈ lw_g := mk_c1 108 (by decide +kernel) rfl
theorem kF_X8_24 : Cond.fieldLink RX8 24 "HalfDays$Rolls" "whither" "[I" ∈ lw_g := mk_c1 110 (by decide +kernel) rfl
theorem kF_X8_27 : Cond.fieldLink RX8 27 "HalfDays$Rolls" "entries" "I" ∈ lw_g := mk_c1 102 (by decide +kernel) rfl
theorem kF_X8_9 : Cond.fieldLink RX8 9 "HalfDays$Rolls" "child" "[I" ∈ lw_g := mk_c1 104 (by decide +kernel) rfl
theorem kF_X9_15 : Cond.fieldLink RX9 15 "HalfDays$Steps" "paidOn" "[I" ∈ lw_g := mk_c1 222 (by decide +kernel) rfl
theorem kF_X9_18 : Cond.fieldLink RX9 18 "HalfDays$Steps" "paid" "[I" ∈ lw_g := mk_c1 224 (by decide +kernel) rfl
theorem kF_X9_9 : Cond.fieldLink RX9 9 "HalfDays$Steps" "taken" "[I" ∈ lw_g := mk_c1 219 (by decide +kernel) rfl
theorem kK_J6_265 : Cond.constant RJ6 265 1431655765 ∈ lw_g := mk_c5 180 (by decide +kernel) rfl
theorem kK_J6_266 : Cond.constant RJ6 266 858993459 ∈ lw_g := mk_c5 181 (by decide +kernel) rfl
theorem kK_J6_267 : Cond.constant RJ6 267 252645135 ∈ lw_g := mk_c5 182 (by decide +kernel) rfl
theorem kK_X11_389 : Cond.constant RX11 389 99999999 ∈ lw_g := mk_c5 56 (by decide +kernel) rfl
theorem kK_X12_13 : Cond.constant RX12 13 54202 ∈ lw_g := mk_c6 51 (by decide +kernel) rfl
theorem kL_X12_104 : Cond.constantLong RX12 104 799 ∈ lw_g := mk_c7 60 (by decide +kernel) rfl
theorem kL_X12_110 : Cond.constantLong RX12 110 3 ∈ lw_g := mk_c7 1 (by decide +kernel) rfl
theorem kL_X12_112 : Cond.constantLong RX12 112 18 ∈ lw_g := mk_c7 2 (by decide +kernel) rfl
theorem kL_X12_114 : Cond.constantLong RX12 114 (-1) ∈ lw_g := mk_c7 3 (by decide +kernel) rfl
theorem kL_X12_116 : Cond.constantLong RX12 116 7 ∈ lw_g := mk_c7 4 (by decide +kernel) rfl
theorem kL_X12_118 : Cond.constantLong RX12 118 99 ∈ lw_g := mk_c7 5 (by decide +kernel) rfl
theorem kL_X12_151 : Cond.constantLong RX12 151 25 ∈ lw_g := mk_c7 73 (by decide +kernel) rfl
theorem kL_X12_153 : Cond.constantLong RX12 153 300 ∈ lw_g := mk_c7 74 (by decide +kernel) rfl
theorem kL_X12_251 : Cond.constantLong RX12 251 20 ∈ lw_g := mk_c8 60 (by decide +kernel) rfl
theorem kL_X12_344 : Cond.constantLong RX12 344 659105125 ∈ lw_g := mk_c7 194 (by decide +kernel) rfl
theorem kL_X12_346 : Cond.constantLong RX12 346 113797 ∈ lw_g := mk_c7 199 (by decide +kernel) rfl
theorem kL_X12_348 : Cond.constantLong RX12 348 643248 ∈ lw_g := mk_c7 200 (by decide +kernel) rfl
theorem kL_X12_350 : Cond.constantLong RX12 350 206277 ∈ lw_g := mk_c7 201 (by decide +kernel) rfl
theorem kL_X12_352 : Cond.constantLong RX12 352 631476 ∈ lw_g := mk_c7 202 (by decide +kernel) rfl
theorem kL_X12_354 : Cond.constantLong RX12 354 15558 ∈ lw_g := mk_c7 203 (by decide +kernel) rfl
theorem kL_X12_484 : Cond.constantLong RX12 484 2 ∈ lw_g := mk_c8 148 (by decide +kernel) rfl
theorem kL_X12_496 : Cond.constantLong RX12 496 99999999 ∈ lw_g := mk_c8 175 (by decide +kernel) rfl
theorem kL_X12_507 : Cond.constantLong RX12 507 8 ∈ lw_g := mk_c8 184 (by decide +kernel) rfl
theorem kL_X12_524 : Cond.constantLong RX12 524 200 ∈ lw_g := mk_c8 213 (by decide +kernel) rfl
theorem kL_X12_526 : Cond.constantLong RX12 526 1000 ∈ lw_g := mk_c8 214 (by decide +kernel) rfl
theorem kL_X12_535 : Cond.constantLong RX12 535 2000 ∈ lw_g := mk_c8 219 (by decide +kernel) rfl
theorem kL_X12_543 : Cond.constantLong RX12 543 57 ∈ lw_g := mk_c9 1 (by decide +kernel) rfl
theorem kL_X12_545 : Cond.constantLong RX12 545 (-100) ∈ lw_g := mk_c9 6 (by decide +kernel) rfl
theorem kL_X12_547 : Cond.constantLong RX12 547 100 ∈ lw_g := mk_c9 7 (by decide +kernel) rfl
theorem kL_X12_98 : Cond.constantLong RX12 98 399 ∈ lw_g := mk_c7 24 (by decide +kernel) rfl
theorem kL_X7_102 : Cond.constantLong RX7 102 1936225652 ∈ lw_g := mk_c4 96 (by decide +kernel) rfl
theorem kL_X7_108 : Cond.constantLong RX7 108 7300710 ∈ lw_g := mk_c4 97 (by decide +kernel) rfl
theorem kL_X7_110 : Cond.constantLong RX7 110 126943972911973 ∈ lw_g := mk_c4 98 (by decide +kernel) rfl
theorem kL_X7_77 : Cond.constantLong RX7 77 1668244581 ∈ lw_g := mk_c4 30 (by decide +kernel) rfl
theorem kL_X7_90 : Cond.constantLong RX7 90 1937007984 ∈ lw_g := mk_c4 53 (by decide +kernel) rfl
theorem kL_X7_98 : Cond.constantLong RX7 98 1718185573 ∈ lw_g := mk_c4 94 (by decide +kernel) rfl
theorem kM_L_100 : Cond.methodLink RL 100 yX12_due ∈ lw_g := mk_c8 97 (by decide +kernel) rfl
theorem kM_L_101 : Cond.methodLink RL 101 yX11_take ∈ lw_g := mk_c4 230 (by decide +kernel) rfl
theorem kM_L_104 : Cond.methodLink RL 104 yX12_take ∈ lw_g := mk_c8 116 (by decide +kernel) rfl
theorem kM_L_105 : Cond.methodLink RL 105 yX11_stands ∈ lw_g := mk_c4 234 (by decide +kernel) rfl
theorem kM_L_108 : Cond.methodLink RL 108 yX12_stands ∈ lw_g := mk_c8 128 (by decide +kernel) rfl
theorem kM_L_109 : Cond.methodLink RL 109 yX11_pay ∈ lw_g := mk_c5 3 (by decide +kernel) rfl
theorem kM_L_112 : Cond.methodLink RL 112 yX12_pay ∈ lw_g := mk_c8 136 (by decide +kernel) rfl
theorem kM_L_113 : Cond.methodLink RL 113 yX11_fine ∈ lw_g := mk_c5 11 (by decide +kernel) rfl
theorem kM_L_116 : Cond.methodLink RL 116 yX12_fine ∈ lw_g := mk_c8 144 (by decide +kernel) rfl
theorem kM_L_117 : Cond.methodLink RL 117 yX11_off ∈ lw_g := mk_c5 15 (by decide +kernel) rfl
theorem kM_L_12 : Cond.methodLink RL 12 yX12_init ∈ lw_g := mk_c6 47 (by decide +kernel) rfl
theorem kM_L_120 : Cond.methodLink RL 120 yX12_off ∈ lw_g := mk_c8 149 (by decide +kernel) rfl
theorem kM_L_121 : Cond.methodLink RL 121 yX11_rolls ∈ lw_g := mk_c5 20 (by decide +kernel) rfl
theorem kM_L_124 : Cond.methodLink RL 124 yX12_rolls ∈ lw_g := mk_c8 153 (by decide +kernel) rfl
theorem kM_L_125 : Cond.methodLink RL 125 yX11_seen ∈ lw_g := mk_c5 38 (by decide +kernel) rfl
theorem kM_L_128 : Cond.methodLink RL 128 yX12_seen ∈ lw_g := mk_c8 167 (by decide +kernel) rfl
theorem kM_L_129 : Cond.methodLink RL 129 yX11_record ∈ lw_g := mk_c5 49 (by decide +kernel) rfl
theorem kM_L_13 : Cond.methodLink RL 13 yX11_child ∈ lw_g := mk_c3 58 (by decide +kernel) rfl
theorem kM_L_132 : Cond.methodLink RL 132 yX12_record ∈ lw_g := mk_c8 171 (by decide +kernel) rfl
theorem kM_L_133 : Cond.methodLink RL 133 yX11_missing ∈ lw_g := mk_c5 57 (by decide +kernel) rfl
theorem kM_L_136 : Cond.methodLink RL 136 yX12_missing ∈ lw_g := mk_c8 176 (by decide +kernel) rfl
theorem kM_L_137 : Cond.methodLink RL 137 yX11_join ∈ lw_g := mk_c5 64 (by decide +kernel) rfl
theorem kM_L_140 : Cond.methodLink RL 140 yX12_join ∈ lw_g := mk_c8 180 (by decide +kernel) rfl
theorem kM_L_141 : Cond.methodLink RL 141 yX11_joined ∈ lw_g := mk_c5 91 (by decide +kernel) rfl
theorem kM_L_144 : Cond.methodLink RL 144 yX12_joined ∈ lw_g := mk_c8 193 (by decide +kernel) rfl
theorem kM_L_145 : Cond.methodLink RL 145 yX11_judge ∈ lw_g := mk_c5 95 (by decide +kernel) rfl
theorem kM_L_148 : Cond.methodLink RL 148 yX12_judge ∈ lw_g := mk_c8 197 (by decide +kernel) rfl
theorem kM_L_149 : Cond.methodLink RL 149 yX11_cannot ∈ lw_g := mk_c5 103 (by decide +kernel) rfl
theorem kM_L_152 : Cond.methodLink RL 152 yX12_cannot ∈ lw_g := mk_c8 201 (by decide +kernel) rfl
theorem kM_L_153 : Cond.methodLink RL 153 yX11_visit ∈ lw_g := mk_c5 115 (by decide +kernel) rfl
theorem kM_L_156 : Cond.methodLink RL 156 yX12_visit ∈ lw_g := mk_c8 209 (by decide +kernel) rfl
theorem kM_L_157 : Cond.methodLink RL 157 yX11_round ∈ lw_g := mk_c5 119 (by decide +kernel) rfl
theorem kM_L_160 : Cond.methodLink RL 160 yX12_round ∈ lw_g := mk_c8 215 (by decide +kernel) rfl
theorem kM_L_161 : Cond.methodLink RL 161 yX11_dips ∈ lw_g := mk_c5 148 (by decide +kernel) rfl
theorem kM_L_164 : Cond.methodLink RL 164 yX12_dips ∈ lw_g := mk_c8 237 (by decide +kernel) rfl
theorem kM_L_165 : Cond.methodLink RL 165 yX11_draw ∈ lw_g := mk_c5 165 (by decide +kernel) rfl
theorem kM_L_168 : Cond.methodLink RL 168 yX12_draw ∈ lw_g := mk_c9 2 (by decide +kernel) rfl
theorem kM_L_169 : Cond.methodLink RL 169 yX11_helped ∈ lw_g := mk_c5 169 (by decide +kernel) rfl
theorem kM_L_17 : Cond.methodLink RL 17 yX12_child ∈ lw_g := mk_c6 237 (by decide +kernel) rfl
theorem kM_L_172 : Cond.methodLink RL 172 yX12_helped ∈ lw_g := mk_c9 8 (by decide +kernel) rfl
theorem kM_L_173 : Cond.methodLink RL 173 yX11_beside ∈ lw_g := mk_c5 183 (by decide +kernel) rfl
theorem kM_L_176 : Cond.methodLink RL 176 yX12_beside ∈ lw_g := mk_c9 12 (by decide +kernel) rfl
theorem kM_L_177 : Cond.methodLink RL 177 yX11_seal ∈ lw_g := mk_c5 195 (by decide +kernel) rfl
theorem kM_L_18 : Cond.methodLink RL 18 yX11_school ∈ lw_g := mk_c3 76 (by decide +kernel) rfl
theorem kM_L_180 : Cond.methodLink RL 180 yX12_seal ∈ lw_g := mk_c9 16 (by decide +kernel) rfl
theorem kM_L_181 : Cond.methodLink RL 181 yX11_alter ∈ lw_g := mk_c5 211 (by decide +kernel) rfl
theorem kM_L_184 : Cond.methodLink RL 184 yX12_alter ∈ lw_g := mk_c9 24 (by decide +kernel) rfl
theorem kM_L_185 : Cond.methodLink RL 185 yX11_found ∈ lw_g := mk_c5 219 (by decide +kernel) rfl
theorem kM_L_188 : Cond.methodLink RL 188 yX12_found ∈ lw_g := mk_c9 28 (by decide +kernel) rfl
theorem kM_L_189 : Cond.methodLink RL 189 yX11_image ∈ lw_g := mk_c5 231 (by decide +kernel) rfl
theorem kM_L_192 : Cond.methodLink RL 192 yX12_image ∈ lw_g := mk_c6 222 (by decide +kernel) rfl
theorem kM_L_193 : Cond.methodLink RL 193 yX11_back ∈ lw_g := mk_c6 33 (by decide +kernel) rfl
theorem kM_L_196 : Cond.methodLink RL 196 yX12_back ∈ lw_g := mk_c6 233 (by decide +kernel) rfl
theorem kM_L_197 : Cond.methodLink RL 197 yX11_count ∈ lw_g := mk_c6 37 (by decide +kernel) rfl
theorem kM_L_200 : Cond.methodLink RL 200 yX12_count ∈ lw_g := mk_c9 32 (by decide +kernel) rfl
theorem kM_L_201 : Cond.methodLink RL 201 yX11_status ∈ lw_g := mk_c6 41 (by decide +kernel) rfl
theorem kM_L_204 : Cond.methodLink RL 204 yX12_status ∈ lw_g := mk_c9 36 (by decide +kernel) rfl
theorem kM_L_22 : Cond.methodLink RL 22 yX12_school ∈ lw_g := mk_c7 13 (by decide +kernel) rfl
theorem kM_L_23 : Cond.methodLink RL 23 yX11_shut ∈ lw_g := mk_c3 80 (by decide +kernel) rfl
theorem kM_L_27 : Cond.methodLink RL 27 yX12_shut ∈ lw_g := mk_c7 17 (by decide +kernel) rfl
theorem kM_L_28 : Cond.methodLink RL 28 yX11_comes ∈ lw_g := mk_c3 95 (by decide +kernel) rfl
theorem kM_L_32 : Cond.methodLink RL 32 yX12_comes ∈ lw_g := mk_c7 29 (by decide +kernel) rfl
theorem kM_L_33 : Cond.methodLink RL 33 yX11_goes ∈ lw_g := mk_c3 111 (by decide +kernel) rfl
theorem kM_L_37 : Cond.methodLink RL 37 yX12_goes ∈ lw_g := mk_c7 41 (by decide +kernel) rfl
theorem kM_L_38 : Cond.methodLink RL 38 yX11_isOn ∈ lw_g := mk_c3 115 (by decide +kernel) rfl
theorem kM_L_41 : Cond.methodLink RL 41 yX12_isOn ∈ lw_g := mk_c7 45 (by decide +kernel) rfl
theorem kM_L_42 : Cond.methodLink RL 42 yX11_failed ∈ lw_g := mk_c3 133 (by decide +kernel) rfl
theorem kM_L_45 : Cond.methodLink RL 45 yX12_failed ∈ lw_g := mk_c7 53 (by decide +kernel) rfl
theorem kM_L_46 : Cond.methodLink RL 46 yX11_has ∈ lw_g := mk_c3 148 (by decide +kernel) rfl
theorem kM_L_49 : Cond.methodLink RL 49 yX12_has ∈ lw_g := mk_c7 65 (by decide +kernel) rfl
theorem kM_L_50 : Cond.methodLink RL 50 yX11_mark ∈ lw_g := mk_c3 156 (by decide +kernel) rfl
theorem kM_L_54 : Cond.methodLink RL 54 yX12_mark ∈ lw_g := mk_c7 69 (by decide +kernel) rfl
theorem kM_L_55 : Cond.methodLink RL 55 yX11_appeal ∈ lw_g := mk_c3 168 (by decide +kernel) rfl
theorem kM_L_58 : Cond.methodLink RL 58 yX12_appeal ∈ lw_g := mk_c7 78 (by decide +kernel) rfl
theorem kM_L_59 : Cond.methodLink RL 59 yX11_tells ∈ lw_g := mk_c3 176 (by decide +kernel) rfl
theorem kM_L_63 : Cond.methodLink RL 63 yX12_tells ∈ lw_g := mk_c7 86 (by decide +kernel) rfl
theorem kM_L_64 : Cond.methodLink RL 64 yX11_sees ∈ lw_g := mk_c3 235 (by decide +kernel) rfl
theorem kM_L_67 : Cond.methodLink RL 67 yX12_sees ∈ lw_g := mk_c7 139 (by decide +kernel) rfl
theorem kM_L_68 : Cond.methodLink RL 68 yX11_feed ∈ lw_g := mk_c4 1 (by decide +kernel) rfl
theorem kM_L_71 : Cond.methodLink RL 71 yX12_feed ∈ lw_g := mk_c7 143 (by decide +kernel) rfl
theorem kM_L_72 : Cond.methodLink RL 72 yX11_end ∈ lw_g := mk_c4 9 (by decide +kernel) rfl
theorem kM_L_76 : Cond.methodLink RL 76 yX12_end ∈ lw_g := mk_c7 151 (by decide +kernel) rfl
theorem kM_L_77 : Cond.methodLink RL 77 yX11_act ∈ lw_g := mk_c4 13 (by decide +kernel) rfl
theorem kM_L_80 : Cond.methodLink RL 80 yX12_act ∈ lw_g := mk_c7 159 (by decide +kernel) rfl
theorem kM_L_81 : Cond.methodLink RL 81 yX11_fault ∈ lw_g := mk_c4 167 (by decide +kernel) rfl
theorem kM_L_84 : Cond.methodLink RL 84 yX12_fault ∈ lw_g := mk_c7 155 (by decide +kernel) rfl
theorem kM_L_85 : Cond.methodLink RL 85 yX11_force ∈ lw_g := mk_c4 171 (by decide +kernel) rfl
theorem kM_L_88 : Cond.methodLink RL 88 yX12_force ∈ lw_g := mk_c8 74 (by decide +kernel) rfl
theorem kM_L_89 : Cond.methodLink RL 89 yX11_rate ∈ lw_g := mk_c4 180 (by decide +kernel) rfl
theorem kM_L_9 : Cond.methodLink RL 9 yX11_init ∈ lw_g := mk_c1 20 (by decide +kernel) rfl
theorem kM_L_92 : Cond.methodLink RL 92 yX12_rate ∈ lw_g := mk_c8 78 (by decide +kernel) rfl
theorem kM_L_93 : Cond.methodLink RL 93 yX11_dip ∈ lw_g := mk_c4 203 (by decide +kernel) rfl
theorem kM_L_96 : Cond.methodLink RL 96 yX12_dip ∈ lw_g := mk_c8 93 (by decide +kernel) rfl
theorem kM_L_97 : Cond.methodLink RL 97 yX11_due ∈ lw_g := mk_c4 207 (by decide +kernel) rfl
theorem kM_X0_3 : Cond.methodLink RX0 3 objectInit ∈ lw_g := mk_c1 195 (by decide +kernel) rfl
theorem kM_X11_118 : Cond.methodLink RX11 118 yX11_isNoHalf ∈ lw_g := mk_c3 137 (by decide +kernel) rfl
theorem kM_X11_121 : Cond.methodLink RX11 121 yX6_hasFailed ∈ lw_g := mk_c3 140 (by decide +kernel) rfl
theorem kM_X11_127 : Cond.methodLink RX11 127 yX6_addBus ∈ lw_g := mk_c3 144 (by decide +kernel) rfl
theorem kM_X11_149 : Cond.methodLink RX11 149 yX5_isNoMark ∈ lw_g := mk_c3 172 (by decide +kernel) rfl
theorem kM_X11_158 : Cond.methodLink RX11 158 yX11_markThatCounts ∈ lw_g := mk_c3 180 (by decide +kernel) rfl
theorem kM_X11_184 : Cond.methodLink RX11 184 yX7_append ∈ lw_g := mk_c4 5 (by decide +kernel) rfl
theorem kM_X11_196 : Cond.methodLink RX11 196 yX7_readText ∈ lw_g := mk_c4 17 (by decide +kernel) rfl
theorem kM_X11_207 : Cond.methodLink RX11 207 yX1_isInForce ∈ lw_g := mk_c4 175 (by decide +kernel) rfl
theorem kM_X11_210 : Cond.methodLink RX11 210 yX11_areNoHalves ∈ lw_g := mk_c4 184 (by decide +kernel) rfl
theorem kM_X11_220 : Cond.methodLink RX11 220 yX11_isNoStep ∈ lw_g := mk_c4 211 (by decide +kernel) rfl
theorem kM_X11_267 : Cond.methodLink RX11 267 yX11_areNoFigures ∈ lw_g := mk_c5 53 (by decide +kernel) rfl
theorem kM_X11_29 : Cond.methodLink RX11 29 yX1_init ∈ lw_g := mk_c2 160 (by decide +kernel) rfl
theorem kM_X11_291 : Cond.methodLink RX11 291 yX2_bestJoin ∈ lw_g := mk_c5 68 (by decide +kernel) rfl
theorem kM_X11_3 : Cond.methodLink RX11 3 objectInit ∈ lw_g := mk_c1 23 (by decide +kernel) rfl
theorem kM_X11_303 : Cond.methodLink RX11 303 yX2_likeOfRow ∈ lw_g := mk_c5 99 (by decide +kernel) rfl
theorem kM_X11_306 : Cond.methodLink RX11 306 yX1_noteKinds ∈ lw_g := mk_c5 107 (by decide +kernel) rfl
theorem kM_X11_327 : Cond.methodLink RX11 327 yX2_bestRound ∈ lw_g := mk_c5 123 (by decide +kernel) rfl
theorem kM_X11_340 : Cond.methodLink RX11 340 yX1_countWeek ∈ lw_g := mk_c5 152 (by decide +kernel) rfl
theorem kM_X11_343 : Cond.methodLink RX11 343 yX1_dippingSchools ∈ lw_g := mk_c5 156 (by decide +kernel) rfl
theorem kM_X11_346 : Cond.methodLink RX11 346 yX1_schoolsLookedAt ∈ lw_g := mk_c5 164 (by decide +kernel) rfl
theorem kM_X11_361 : Cond.methodLink RX11 361 yX2_waysToDraw ∈ lw_g := mk_c5 173 (by decide +kernel) rfl
theorem kM_X11_371 : Cond.methodLink RX11 371 yX5_sealDay ∈ lw_g := mk_c5 199 (by decide +kernel) rfl
theorem kM_X11_377 : Cond.methodLink RX11 377 yX5_findAltered ∈ lw_g := mk_c5 223 (by decide +kernel) rfl
theorem kM_X11_38 : Cond.methodLink RX11 38 yX2_init ∈ lw_g := mk_c2 226 (by decide +kernel) rfl
theorem kM_X11_380 : Cond.methodLink RX11 380 yX3_becomeLike ∈ lw_g := mk_c5 235 (by decide +kernel) rfl
theorem kM_X11_47 : Cond.methodLink RX11 47 yX11_isOutside ∈ lw_g := mk_c3 62 (by decide +kernel) rfl
theorem kM_X11_51 : Cond.methodLink RX11 51 yX11_isNoPlace ∈ lw_g := mk_c3 65 (by decide +kernel) rfl
theorem kM_X11_55 : Cond.methodLink RX11 55 yX11_answer ∈ lw_g := mk_c3 68 (by decide +kernel) rfl
theorem kM_X11_65 : Cond.methodLink RX11 65 yX6_addChild ∈ lw_g := mk_c3 72 (by decide +kernel) rfl
theorem kM_X11_72 : Cond.methodLink RX11 72 yX11_isNoDay ∈ lw_g := mk_c3 84 (by decide +kernel) rfl
theorem kM_X11_76 : Cond.methodLink RX11 76 yX6_isNoSchool ∈ lw_g := mk_c3 87 (by decide +kernel) rfl
theorem kM_X11_90 : Cond.methodLink RX11 90 yX6_isNoChild ∈ lw_g := mk_c3 99 (by decide +kernel) rfl
theorem kM_X12_1 : Cond.methodLink RX12 1 objectInit ∈ lw_g := mk_c6 50 (by decide +kernel) rfl
theorem kM_X12_100 : Cond.methodLink RX12 100 yX12_in ∈ lw_g := mk_c6 226 (by decide +kernel) rfl
theorem kM_X12_106 : Cond.methodLink RX12 106 yX12_told ∈ lw_g := mk_c6 229 (by decide +kernel) rfl
theorem kM_X12_120 : Cond.methodLink RX12 120 yX12_childAt ∈ lw_g := mk_c7 6 (by decide +kernel) rfl
theorem kM_X12_123 : Cond.methodLink RX12 123 yX12_addFour ∈ lw_g := mk_c7 9 (by decide +kernel) rfl
theorem kM_X12_127 : Cond.methodLink RX12 127 yX12_isDay ∈ lw_g := mk_c7 21 (by decide +kernel) rfl
theorem kM_X12_131 : Cond.methodLink RX12 131 yX12_isSchool ∈ lw_g := mk_c7 25 (by decide +kernel) rfl
theorem kM_X12_138 : Cond.methodLink RX12 138 yX12_isChild ∈ lw_g := mk_c7 33 (by decide +kernel) rfl
theorem kM_X12_145 : Cond.methodLink RX12 145 yX12_isHalf ∈ lw_g := mk_c7 57 (by decide +kernel) rfl
theorem kM_X12_148 : Cond.methodLink RX12 148 yX12_hasFailed ∈ lw_g := mk_c7 61 (by decide +kernel) rfl
theorem kM_X12_158 : Cond.methodLink RX12 158 yX12_isMark ∈ lw_g := mk_c7 82 (by decide +kernel) rfl
theorem kM_X12_164 : Cond.methodLink RX12 164 yX12_findKinds ∈ lw_g := mk_c7 95 (by decide +kernel) rfl
theorem kM_X12_186 : Cond.methodLink RX12 186 yX12_knowBy ∈ lw_g := mk_c7 91 (by decide +kernel) rfl
theorem kM_X12_196 : Cond.methodLink RX12 196 yX12_four ∈ lw_g := mk_c7 147 (by decide +kernel) rfl
theorem kM_X12_206 : Cond.methodLink RX12 206 yX12_next ∈ lw_g := mk_c7 171 (by decide +kernel) rfl
theorem kM_X12_235 : Cond.methodLink RX12 235 yX12_must ∈ lw_g := mk_c7 204 (by decide +kernel) rfl
theorem kM_X12_261 : Cond.methodLink RX12 261 yX12_isWord ∈ lw_g := mk_c7 195 (by decide +kernel) rfl
theorem kM_X12_364 : Cond.methodLink RX12 364 yX12_headAt ∈ lw_g := mk_c7 190 (by decide +kernel) rfl
theorem kM_X12_397 : Cond.methodLink RX12 397 yX12_begin ∈ lw_g := mk_c7 167 (by decide +kernel) rfl
theorem kM_X12_400 : Cond.methodLink RX12 400 yX12_readClause ∈ lw_g := mk_c7 186 (by decide +kernel) rfl
theorem kM_X12_406 : Cond.methodLink RX12 406 yX12_readText ∈ lw_g := mk_c7 163 (by decide +kernel) rfl
theorem kM_X12_460 : Cond.methodLink RX12 460 yX12_isStep ∈ lw_g := mk_c8 101 (by decide +kernel) rfl
theorem kM_X12_509 : Cond.methodLink RX12 509 yX12_isJoin ∈ lw_g := mk_c8 185 (by decide +kernel) rfl
theorem kM_X12_537 : Cond.methodLink RX12 537 yX12_findWays ∈ lw_g := mk_c8 220 (by decide +kernel) rfl
theorem kM_X12_558 : Cond.methodLink RX12 558 yX12_addDay ∈ lw_g := mk_c9 20 (by decide +kernel) rfl
theorem kM_X1_129 : Cond.methodLink RX1 129 yJ7_fill_53178 ∈ lw_g := mk_c3 206 (by decide +kernel) rfl
theorem kM_X1_236 : Cond.methodLink RX1 236 yX1_schoolsLookedAt ∈ lw_g := mk_c5 160 (by decide +kernel) rfl
theorem kM_X1_3 : Cond.methodLink RX1 3 objectInit ∈ lw_g := mk_c2 163 (by decide +kernel) rfl
theorem kM_X2_145 : Cond.methodLink RX2 145 yJ6_bitCount_0f7a4 ∈ lw_g := mk_c5 177 (by decide +kernel) rfl
theorem kM_X2_3 : Cond.methodLink RX2 3 objectInit ∈ lw_g := mk_c2 229 (by decide +kernel) rfl
theorem kM_X2_54 : Cond.methodLink RX2 54 yX2_noteLikeness ∈ lw_g := mk_c5 72 (by decide +kernel) rfl
theorem kM_X2_65 : Cond.methodLink RX2 65 yX2_keepFirstBest ∈ lw_g := mk_c5 87 (by decide +kernel) rfl
theorem kM_X2_85 : Cond.methodLink RX2 85 yX2_noteWays ∈ lw_g := mk_c5 127 (by decide +kernel) rfl
theorem kM_X3_1 : Cond.methodLink RX3 1 objectInit ∈ lw_g := mk_c1 31 (by decide +kernel) rfl
theorem kM_X3_25 : Cond.methodLink RX3 25 yX5_init ∈ lw_g := mk_c1 127 (by decide +kernel) rfl
theorem kM_X3_39 : Cond.methodLink RX3 39 yX9_init ∈ lw_g := mk_c1 214 (by decide +kernel) rfl
theorem kM_X3_51 : Cond.methodLink RX3 51 yX6_becomeLike ∈ lw_g := mk_c5 239 (by decide +kernel) rfl
theorem kM_X3_55 : Cond.methodLink RX3 55 yX8_becomeLike ∈ lw_g := mk_c6 8 (by decide +kernel) rfl
theorem kM_X3_58 : Cond.methodLink RX3 58 yX5_becomeLike ∈ lw_g := mk_c6 13 (by decide +kernel) rfl
theorem kM_X3_61 : Cond.methodLink RX3 61 yX0_becomeLike ∈ lw_g := mk_c6 18 (by decide +kernel) rfl
theorem kM_X3_64 : Cond.methodLink RX3 64 yX9_becomeLike ∈ lw_g := mk_c6 23 (by decide +kernel) rfl
theorem kM_X3_67 : Cond.methodLink RX3 67 yX4_becomeLike ∈ lw_g := mk_c6 28 (by decide +kernel) rfl
theorem kM_X4_3 : Cond.methodLink RX4 3 objectInit ∈ lw_g := mk_c1 238 (by decide +kernel) rfl
theorem kM_X5_3 : Cond.methodLink RX5 3 objectInit ∈ lw_g := mk_c1 130 (by decide +kernel) rfl
theorem kM_X5_48 : Cond.methodLink RX5 48 yJ7_fill_53178 ∈ lw_g := mk_c1 131 (by decide +kernel) rfl
theorem kM_X5_66 : Cond.methodLink RX5 66 yX5_sumDay ∈ lw_g := mk_c5 203 (by decide +kernel) rfl
theorem kM_X6_3 : Cond.methodLink RX6 3 objectInit ∈ lw_g := mk_c1 37 (by decide +kernel) rfl
theorem kM_X7_3 : Cond.methodLink RX7 3 objectInit ∈ lw_g := mk_c2 100 (by decide +kernel) rfl
theorem kM_X7_43 : Cond.methodLink RX7 43 yX7_nextToken ∈ lw_g := mk_c4 21 (by decide +kernel) rfl
theorem kM_X7_49 : Cond.methodLink RX7 49 yX7_readHead ∈ lw_g := mk_c4 26 (by decide +kernel) rfl
theorem kM_X7_69 : Cond.methodLink RX7 69 yX7_refuseToken ∈ lw_g := mk_c4 35 (by decide +kernel) rfl
theorem kM_X8_3 : Cond.methodLink RX8 3 objectInit ∈ lw_g := mk_c1 101 (by decide +kernel) rfl
theorem kM_X9_21 : Cond.methodLink RX9 21 yJ7_fill_53178 ∈ lw_g := mk_c1 218 (by decide +kernel) rfl
theorem kM_X9_3 : Cond.methodLink RX9 3 objectInit ∈ lw_g := mk_c1 217 (by decide +kernel) rfl
theorem kN_X0_25 : Cond.methodLinkNest RX0 25 yX11_copyRow "HalfDays" ∈ lw_nest := mk_n 1222 (by decide +kernel) rfl
theorem kN_X11_11 : Cond.methodLinkNest RX11 11 yX3_init "HalfDays" ∈ lw_nest := mk_n 28 (by decide +kernel) rfl
theorem kN_X11_22 : Cond.methodLinkNest RX11 22 yX7_init "HalfDays" ∈ lw_nest := mk_n 337 (by decide +kernel) rfl
theorem kN_X3_18 : Cond.methodLinkNest RX3 18 yX8_init "HalfDays" ∈ lw_nest := mk_n 98 (by decide +kernel) rfl
theorem kN_X3_32 : Cond.methodLinkNest RX3 32 yX0_init "HalfDays" ∈ lw_nest := mk_n 192 (by decide +kernel) rfl
theorem kN_X3_46 : Cond.methodLinkNest RX3 46 yX4_init "HalfDays" ∈ lw_nest := mk_n 235 (by decide +kernel) rfl
theorem kN_X3_9 : Cond.methodLinkNest RX3 9 yX6_init "HalfDays" ∈ lw_nest := mk_n 34 (by decide +kernel) rfl
theorem kN_X4_43 : Cond.methodLinkNest RX4 43 yX11_copyRow "HalfDays" ∈ lw_nest := mk_n 1232 (by decide +kernel) rfl
theorem kN_X5_79 : Cond.methodLinkNest RX5 79 yX11_copyRow "HalfDays" ∈ lw_nest := mk_n 1217 (by decide +kernel) rfl
theorem kN_X6_58 : Cond.methodLinkNest RX6 58 yX11_copyRow "HalfDays" ∈ lw_nest := mk_n 1203 (by decide +kernel) rfl
theorem kN_X8_44 : Cond.methodLinkNest RX8 44 yX11_copyRow "HalfDays" ∈ lw_nest := mk_n 1212 (by decide +kernel) rfl
theorem kN_X9_27 : Cond.methodLinkNest RX9 27 yX11_copyRow "HalfDays" ∈ lw_nest := mk_n 1227 (by decide +kernel) rfl
theorem okI_X0_init : okI yX0_init cX0_init 1 0 := ⟨mk_c1 193 (by decide +kernel) rfl, kZ_X0, mk_c1 194 (by decide +kernel) rfl, rfl, ⟨by decide +kernel, by decide +kernel, by decide +kernel⟩⟩
theorem okI_X11_init : okI yX11_init cX11_init 1 0 := ⟨mk_c1 21 (by decide +kernel) rfl, kZ_X11, mk_c1 22 (by decide +kernel) rfl, rfl, ⟨by decide +kernel, by decide +kernel, by decide +kernel⟩⟩
theorem okI_X12_init : okI yX12_init cX12_init 1 0 := ⟨mk_c6 48 (by decide +kernel) rfl, kZ_X12, mk_c6 49 (by decide +kernel) rfl, rfl, ⟨by decide +kernel, by decide +kernel, by decide +kernel⟩⟩
theorem okI_X1_init : okI yX1_init cX1_init 2 1 := ⟨mk_c2 161 (by decide +kernel) rfl, kZ_X1, mk_c2 162 (by decide +kernel) rfl, rfl, ⟨by decide +kernel, by decide +kernel, by decide +kernel⟩⟩
theorem okI_X2_init : okI yX2_init cX2_init 2 1 := ⟨mk_c2 227 (by decide +kernel) rfl, kZ_X2, mk_c2 228 (by decide +kernel) rfl, rfl, ⟨by decide +kernel, by decide +kernel, by decide +kernel⟩⟩
theorem okI_X3_init : okI yX3_init cX3_init 1 0 := ⟨mk_c1 29 (by decide +kernel) rfl, kZ_X3, mk_c1 30 (by decide +kernel) rfl, rfl, ⟨by decide +kernel, by decide +kernel, by decide +kernel⟩⟩
theorem okI_X4_init : okI yX4_init cX4_init 1 0 := ⟨mk_c1 236 (by decide +kernel) rfl, kZ_X4, mk_c1 237 (by decide +kernel) rfl, rfl, ⟨by decide +kernel, by decide +kernel, by decide +kernel⟩⟩
theorem okI_X5_init : okI yX5_init cX5_init 1 0 := ⟨mk_c1 128 (by decide +kernel) rfl, kZ_X5, mk_c1 129 (by decide +kernel) rfl, rfl, ⟨by decide +kernel, by decide +kernel, by decide +kernel⟩⟩
theorem okI_X6_init : okI yX6_init cX6_init 1 0 := ⟨mk_c1 35 (by decide +kernel) rfl, kZ_X6, mk_c1 36 (by decide +kernel) rfl, rfl, ⟨by decide +kernel, by decide +kernel, by decide +kernel⟩⟩
theorem okI_X7_init : okI yX7_init cX7_init 1 0 := ⟨mk_c2 98 (by decide +kernel) rfl, kZ_X7, mk_c2 99 (by decide +kernel) rfl, rfl, ⟨by decide +kernel, by decide +kernel, by decide +kernel⟩⟩
theorem okI_X8_init : okI yX8_init cX8_init 1 0 := ⟨mk_c1 99 (by decide +kernel) rfl, kZ_X8, mk_c1 100 (by decide +kernel) rfl, rfl, ⟨by decide +kernel, by decide +kernel, by decide +kernel⟩⟩
theorem okI_X9_init : okI yX9_init cX9_init 1 0 := ⟨mk_c1 215 (by decide +kernel) rfl, kZ_X9, mk_c1 216 (by decide +kernel) rfl, rfl, ⟨by decide +kernel, by decide +kernel, by decide +kernel⟩⟩
theorem okS_J6_bitCount_0f7a4 : okS yJ6_bitCount_0f7a4 cJ6_bitCount_0f7a4 1 (some .int) 1 := ⟨mk_c5 178 (by decide +kernel) rfl, kZ_J6, mk_c5 179 (by decide +kernel) rfl, ⟨by decide +kernel, by decide +kernel, by decide +kernel⟩⟩
theorem okS_J7_fill_53178 : okS yJ7_fill_53178 cJ7_fill_53178 4 none 2 := ⟨mk_c1 132 (by decide +kernel) rfl, kZ_J7, mk_c1 133 (by decide +kernel) rfl, ⟨by decide +kernel, by decide +kernel, by decide +kernel⟩⟩
theorem okS_X11_areNoFigures : okS yX11_areNoFigures cX11_areNoFigures 1 (some .boolean) 1 := ⟨mk_c5 54 (by decide +kernel) rfl, kZ_X11, mk_c5 55 (by decide +kernel) rfl, ⟨by decide +kernel, by decide +kernel, by decide +kernel⟩⟩
theorem okS_X11_areNoHalves : okS yX11_areNoHalves cX11_areNoHalves 2 (some .boolean) 2 := ⟨mk_c4 185 (by decide +kernel) rfl, kZ_X11, mk_c4 186 (by decide +kernel) rfl, ⟨by decide +kernel, by decide +kernel, by decide +kernel⟩⟩
theorem okS_X11_copyRow : okS yX11_copyRow cX11_copyRow 2 none 2 := ⟨mk_c6 4 (by decide +kernel) rfl, kZ_X11, mk_c6 5 (by decide +kernel) rfl, ⟨by decide +kernel, by decide +kernel, by decide +kernel⟩⟩
theorem okS_X11_isNoDay : okS yX11_isNoDay cX11_isNoDay 1 (some .boolean) 1 := ⟨mk_c3 85 (by decide +kernel) rfl, kZ_X11, mk_c3 86 (by decide +kernel) rfl, ⟨by decide +kernel, by decide +kernel, by decide +kernel⟩⟩
theorem okS_X11_isNoHalf : okS yX11_isNoHalf cX11_isNoHalf 1 (some .boolean) 1 := ⟨mk_c3 138 (by decide +kernel) rfl, kZ_X11, mk_c3 139 (by decide +kernel) rfl, ⟨by decide +kernel, by decide +kernel, by decide +kernel⟩⟩
theorem okS_X11_isNoPlace : okS yX11_isNoPlace cX11_isNoPlace 2 (some .boolean) 2 := ⟨mk_c3 66 (by decide +kernel) rfl, kZ_X11, mk_c3 67 (by decide +kernel) rfl, ⟨by decide +kernel, by decide +kernel, by decide +kernel⟩⟩
theorem okS_X11_isNoStep : okS yX11_isNoStep cX11_isNoStep 1 (some .boolean) 1 := ⟨mk_c4 212 (by decide +kernel) rfl, kZ_X11, mk_c4 213 (by decide +kernel) rfl, ⟨by decide +kernel, by decide +kernel, by decide +kernel⟩⟩
theorem okS_X11_isOutside : okS yX11_isOutside cX11_isOutside 3 (some .boolean) 3 := ⟨mk_c3 63 (by decide +kernel) rfl, kZ_X11, mk_c3 64 (by decide +kernel) rfl, ⟨by decide +kernel, by decide +kernel, by decide +kernel⟩⟩
theorem okS_X12_childAt : okS yX12_childAt cX12_childAt 1 (some .int) 1 := ⟨mk_c7 7 (by decide +kernel) rfl, kZ_X12, mk_c7 8 (by decide +kernel) rfl, ⟨by decide +kernel, by decide +kernel, by decide +kernel⟩⟩
theorem okS_X12_in : okS yX12_in cX12_in 6 (some .boolean) 3 := ⟨mk_c6 227 (by decide +kernel) rfl, kZ_X12, mk_c6 228 (by decide +kernel) rfl, ⟨by decide +kernel, by decide +kernel, by decide +kernel⟩⟩
theorem okS_X12_isDay : okS yX12_isDay cX12_isDay 1 (some .boolean) 1 := ⟨mk_c7 22 (by decide +kernel) rfl, kZ_X12, mk_c7 23 (by decide +kernel) rfl, ⟨by decide +kernel, by decide +kernel, by decide +kernel⟩⟩
theorem okS_X12_isHalf : okS yX12_isHalf cX12_isHalf 1 (some .boolean) 1 := ⟨mk_c7 58 (by decide +kernel) rfl, kZ_X12, mk_c7 59 (by decide +kernel) rfl, ⟨by decide +kernel, by decide +kernel, by decide +kernel⟩⟩
theorem okS_X12_isStep : okS yX12_isStep cX12_isStep 1 (some .boolean) 1 := ⟨mk_c8 102 (by decide +kernel) rfl, kZ_X12, mk_c8 103 (by decide +kernel) rfl, ⟨by decide +kernel, by decide +kernel, by decide +kernel⟩⟩
theorem okV_X0_becomeLike : okV RX0 yX0_becomeLike cX0_becomeLike 3 none 1 := ⟨mk_c6 19 (by decide +kernel) rfl, mk_c6 20 (by decide +kernel) rfl, kZ_X0, mk_c6 21 (by decide +kernel) rfl, ⟨by decide +kernel, by decide +kernel, by decide +kernel⟩⟩
theorem okV_X11_act : okV RX11 yX11_act cX11_act 3 (some .int) 1 := ⟨mk_c4 14 (by decide +kernel) rfl, mk_c4 15 (by decide +kernel) rfl, kZ_X11, mk_c4 16 (by decide +kernel) rfl, ⟨by decide +kernel, by decide +kernel, by decide +kernel⟩⟩
theorem okV_X11_alter : okV RX11 yX11_alter cX11_alter 3 (some .int) 2 := ⟨mk_c5 212 (by decide +kernel) rfl, mk_c5 213 (by decide +kernel) rfl, kZ_X11, mk_c5 214 (by decide +kernel) rfl, ⟨by decide +kernel, by decide +kernel, by decide +kernel⟩⟩
theorem okV_X11_answer : okV RX11 yX11_answer cX11_answer 2 (some .int) 1 := ⟨mk_c3 70 (by decide +kernel) rfl, mk_s 0 (by decide +kernel) rfl, kZ_X11, mk_c3 71 (by decide +kernel) rfl, ⟨by decide +kernel, by decide +kernel, by decide +kernel⟩⟩
theorem okV_X11_appeal : okV RX11 yX11_appeal cX11_appeal 5 (some .int) 3 := ⟨mk_c3 169 (by decide +kernel) rfl, mk_c3 170 (by decide +kernel) rfl, kZ_X11, mk_c3 171 (by decide +kernel) rfl, ⟨by decide +kernel, by decide +kernel, by decide +kernel⟩⟩
theorem okV_X11_back : okV RX11 yX11_back cX11_back 2 (some .int) 1 := ⟨mk_c6 34 (by decide +kernel) rfl, mk_c6 35 (by decide +kernel) rfl, kZ_X11, mk_c6 36 (by decide +kernel) rfl, ⟨by decide +kernel, by decide +kernel, by decide +kernel⟩⟩
theorem okV_X11_beside : okV RX11 yX11_beside cX11_beside 5 (some .int) 2 := ⟨mk_c5 184 (by decide +kernel) rfl, mk_c5 185 (by decide +kernel) rfl, kZ_X11, mk_c5 186 (by decide +kernel) rfl, ⟨by decide +kernel, by decide +kernel, by decide +kernel⟩⟩
theorem okV_X11_cannot : okV RX11 yX11_cannot cX11_cannot 7 (some .int) 4 := ⟨mk_c5 104 (by decide +kernel) rfl, mk_c5 105 (by decide +kernel) rfl, kZ_X11, mk_c5 106 (by decide +kernel) rfl, ⟨by decide +kernel, by decide +kernel, by decide +kernel⟩⟩
theorem okV_X11_child : okV RX11 yX11_child cX11_child 7 (some .int) 5 := ⟨mk_c3 59 (by decide +kernel) rfl, mk_c3 60 (by decide +kernel) rfl, kZ_X11, mk_c3 61 (by decide +kernel) rfl, ⟨by decide +kernel, by decide +kernel, by decide +kernel⟩⟩
theorem okV_X11_comes : okV RX11 yX11_comes cX11_comes 6 (some .int) 3 := ⟨mk_c3 96 (by decide +kernel) rfl, mk_c3 97 (by decide +kernel) rfl, kZ_X11, mk_c3 98 (by decide +kernel) rfl, ⟨by decide +kernel, by decide +kernel, by decide +kernel⟩⟩
theorem okV_X11_count : okV RX11 yX11_count cX11_count 2 (some .int) 1 := ⟨mk_c6 38 (by decide +kernel) rfl, mk_c6 39 (by decide +kernel) rfl, kZ_X11, mk_c6 40 (by decide +kernel) rfl, ⟨by decide +kernel, by decide +kernel, by decide +kernel⟩⟩
theorem okV_X11_dip : okV RX11 yX11_dip cX11_dip 6 (some .int) 5 := ⟨mk_c4 204 (by decide +kernel) rfl, mk_c4 205 (by decide +kernel) rfl, kZ_X11, mk_c4 206 (by decide +kernel) rfl, ⟨by decide +kernel, by decide +kernel, by decide +kernel⟩⟩
theorem okV_X11_dips : okV RX11 yX11_dips cX11_dips 5 (some .int) 4 := ⟨mk_c5 149 (by decide +kernel) rfl, mk_c5 150 (by decide +kernel) rfl, kZ_X11, mk_c5 151 (by decide +kernel) rfl, ⟨by decide +kernel, by decide +kernel, by decide +kernel⟩⟩
theorem okV_X11_draw : okV RX11 yX11_draw cX11_draw 5 (some .int) 3 := ⟨mk_c5 166 (by decide +kernel) rfl, mk_c5 167 (by decide +kernel) rfl, kZ_X11, mk_c5 168 (by decide +kernel) rfl, ⟨by decide +kernel, by decide +kernel, by decide +kernel⟩⟩
theorem okV_X11_due : okV RX11 yX11_due cX11_due 5 (some .int) 4 := ⟨mk_c4 208 (by decide +kernel) rfl, mk_c4 209 (by decide +kernel) rfl, kZ_X11, mk_c4 210 (by decide +kernel) rfl, ⟨by decide +kernel, by decide +kernel, by decide +kernel⟩⟩
theorem okV_X11_end : okV RX11 yX11_end cX11_end 2 (some .int) 1 := ⟨mk_c4 10 (by decide +kernel) rfl, mk_c4 11 (by decide +kernel) rfl, kZ_X11, mk_c4 12 (by decide +kernel) rfl, ⟨by decide +kernel, by decide +kernel, by decide +kernel⟩⟩
theorem okV_X11_failed : okV RX11 yX11_failed cX11_failed 4 (some .int) 2 := ⟨mk_c3 134 (by decide +kernel) rfl, mk_c3 135 (by decide +kernel) rfl, kZ_X11, mk_c3 136 (by decide +kernel) rfl, ⟨by decide +kernel, by decide +kernel, by decide +kernel⟩⟩
theorem okV_X11_fault : okV RX11 yX11_fault cX11_fault 1 (some .int) 0 := ⟨mk_c4 168 (by decide +kernel) rfl, mk_c4 169 (by decide +kernel) rfl, kZ_X11, mk_c4 170 (by decide +kernel) rfl, ⟨by decide +kernel, by decide +kernel, by decide +kernel⟩⟩
theorem okV_X11_feed : okV RX11 yX11_feed cX11_feed 6 (some .int) 5 := ⟨mk_c4 2 (by decide +kernel) rfl, mk_c4 3 (by decide +kernel) rfl, kZ_X11, mk_c4 4 (by decide +kernel) rfl, ⟨by decide +kernel, by decide +kernel, by decide +kernel⟩⟩
theorem okV_X11_fine : okV RX11 yX11_fine cX11_fine 10 (some .int) 4 := ⟨mk_c5 12 (by decide +kernel) rfl, mk_c5 13 (by decide +kernel) rfl, kZ_X11, mk_c5 14 (by decide +kernel) rfl, ⟨by decide +kernel, by decide +kernel, by decide +kernel⟩⟩
theorem okV_X11_force : okV RX11 yX11_force cX11_force 4 (some .int) 3 := ⟨mk_c4 172 (by decide +kernel) rfl, mk_c4 173 (by decide +kernel) rfl, kZ_X11, mk_c4 174 (by decide +kernel) rfl, ⟨by decide +kernel, by decide +kernel, by decide +kernel⟩⟩
theorem okV_X11_found : okV RX11 yX11_found cX11_found 2 (some .int) 1 := ⟨mk_c5 220 (by decide +kernel) rfl, mk_c5 221 (by decide +kernel) rfl, kZ_X11, mk_c5 222 (by decide +kernel) rfl, ⟨by decide +kernel, by decide +kernel, by decide +kernel⟩⟩
theorem okV_X11_goes : okV RX11 yX11_goes cX11_goes 7 (some .int) 4 := ⟨mk_c3 112 (by decide +kernel) rfl, mk_c3 113 (by decide +kernel) rfl, kZ_X11, mk_c3 114 (by decide +kernel) rfl, ⟨by decide +kernel, by decide +kernel, by decide +kernel⟩⟩
theorem okV_X11_has : okV RX11 yX11_has cX11_has 6 (some .int) 4 := ⟨mk_c3 149 (by decide +kernel) rfl, mk_c3 150 (by decide +kernel) rfl, kZ_X11, mk_c3 151 (by decide +kernel) rfl, ⟨by decide +kernel, by decide +kernel, by decide +kernel⟩⟩
theorem okV_X11_helped : okV RX11 yX11_helped cX11_helped 2 (some .int) 1 := ⟨mk_c5 170 (by decide +kernel) rfl, mk_c5 171 (by decide +kernel) rfl, kZ_X11, mk_c5 172 (by decide +kernel) rfl, ⟨by decide +kernel, by decide +kernel, by decide +kernel⟩⟩
theorem okV_X11_image : okV RX11 yX11_image cX11_image 2 (some .int) 1 := ⟨mk_c5 232 (by decide +kernel) rfl, mk_c5 233 (by decide +kernel) rfl, kZ_X11, mk_c5 234 (by decide +kernel) rfl, ⟨by decide +kernel, by decide +kernel, by decide +kernel⟩⟩
theorem okV_X11_isOn : okV RX11 yX11_isOn cX11_isOn 4 (some .int) 3 := ⟨mk_c3 116 (by decide +kernel) rfl, mk_c3 117 (by decide +kernel) rfl, kZ_X11, mk_c3 118 (by decide +kernel) rfl, ⟨by decide +kernel, by decide +kernel, by decide +kernel⟩⟩
theorem okV_X11_join : okV RX11 yX11_join cX11_join 2 (some .int) 1 := ⟨mk_c5 65 (by decide +kernel) rfl, mk_c5 66 (by decide +kernel) rfl, kZ_X11, mk_c5 67 (by decide +kernel) rfl, ⟨by decide +kernel, by decide +kernel, by decide +kernel⟩⟩
theorem okV_X11_joined : okV RX11 yX11_joined cX11_joined 2 (some .int) 1 := ⟨mk_c5 92 (by decide +kernel) rfl, mk_c5 93 (by decide +kernel) rfl, kZ_X11, mk_c5 94 (by decide +kernel) rfl, ⟨by decide +kernel, by decide +kernel, by decide +kernel⟩⟩
theorem okV_X11_judge : okV RX11 yX11_judge cX11_judge 3 (some .int) 2 := ⟨mk_c5 96 (by decide +kernel) rfl, mk_c5 97 (by decide +kernel) rfl, kZ_X11, mk_c5 98 (by decide +kernel) rfl, ⟨by decide +kernel, by decide +kernel, by decide +kernel⟩⟩
theorem okV_X11_mark : okV RX11 yX11_mark cX11_mark 8 (some .int) 6 := ⟨mk_c3 157 (by decide +kernel) rfl, mk_c3 158 (by decide +kernel) rfl, kZ_X11, mk_c3 159 (by decide +kernel) rfl, ⟨by decide +kernel, by decide +kernel, by decide +kernel⟩⟩
theorem okV_X11_markThatCounts : okV RX11 yX11_markThatCounts cX11_markThatCounts 5 (some .int) 4 := ⟨mk_c3 182 (by decide +kernel) rfl, mk_s 2 (by decide +kernel) rfl, kZ_X11, mk_c3 183 (by decide +kernel) rfl, ⟨by decide +kernel, by decide +kernel, by decide +kernel⟩⟩
theorem okV_X11_missing : okV RX11 yX11_missing cX11_missing 4 (some .int) 2 := ⟨mk_c5 58 (by decide +kernel) rfl, mk_c5 59 (by decide +kernel) rfl, kZ_X11, mk_c5 60 (by decide +kernel) rfl, ⟨by decide +kernel, by decide +kernel, by decide +kernel⟩⟩
theorem okV_X11_off : okV RX11 yX11_off cX11_off 4 (some .int) 3 := ⟨mk_c5 16 (by decide +kernel) rfl, mk_c5 17 (by decide +kernel) rfl, kZ_X11, mk_c5 18 (by decide +kernel) rfl, ⟨by decide +kernel, by decide +kernel, by decide +kernel⟩⟩
theorem okV_X11_pay : okV RX11 yX11_pay cX11_pay 9 (some .int) 3 := ⟨mk_c5 4 (by decide +kernel) rfl, mk_c5 5 (by decide +kernel) rfl, kZ_X11, mk_c5 6 (by decide +kernel) rfl, ⟨by decide +kernel, by decide +kernel, by decide +kernel⟩⟩
theorem okV_X11_rate : okV RX11 yX11_rate cX11_rate 6 (some .int) 5 := ⟨mk_c4 181 (by decide +kernel) rfl, mk_c4 182 (by decide +kernel) rfl, kZ_X11, mk_c4 183 (by decide +kernel) rfl, ⟨by decide +kernel, by decide +kernel, by decide +kernel⟩⟩
theorem okV_X11_record : okV RX11 yX11_record cX11_record 3 (some .int) 1 := ⟨mk_c5 50 (by decide +kernel) rfl, mk_c5 51 (by decide +kernel) rfl, kZ_X11, mk_c5 52 (by decide +kernel) rfl, ⟨by decide +kernel, by decide +kernel, by decide +kernel⟩⟩
theorem okV_X11_rolls : okV RX11 yX11_rolls cX11_rolls 6 (some .int) 3 := ⟨mk_c5 21 (by decide +kernel) rfl, mk_c5 22 (by decide +kernel) rfl, kZ_X11, mk_c5 23 (by decide +kernel) rfl, ⟨by decide +kernel, by decide +kernel, by decide +kernel⟩⟩
theorem okV_X11_round : okV RX11 yX11_round cX11_round 5 (some .int) 4 := ⟨mk_c5 120 (by decide +kernel) rfl, mk_c5 121 (by decide +kernel) rfl, kZ_X11, mk_c5 122 (by decide +kernel) rfl, ⟨by decide +kernel, by decide +kernel, by decide +kernel⟩⟩
theorem okV_X11_school : okV RX11 yX11_school cX11_school 1 (some .int) 0 := ⟨mk_c3 77 (by decide +kernel) rfl, mk_c3 78 (by decide +kernel) rfl, kZ_X11, mk_c3 79 (by decide +kernel) rfl, ⟨by decide +kernel, by decide +kernel, by decide +kernel⟩⟩
theorem okV_X11_seal : okV RX11 yX11_seal cX11_seal 2 (some .int) 1 := ⟨mk_c5 196 (by decide +kernel) rfl, mk_c5 197 (by decide +kernel) rfl, kZ_X11, mk_c5 198 (by decide +kernel) rfl, ⟨by decide +kernel, by decide +kernel, by decide +kernel⟩⟩
theorem okV_X11_seen : okV RX11 yX11_seen cX11_seen 4 (some .int) 3 := ⟨mk_c5 39 (by decide +kernel) rfl, mk_c5 40 (by decide +kernel) rfl, kZ_X11, mk_c5 41 (by decide +kernel) rfl, ⟨by decide +kernel, by decide +kernel, by decide +kernel⟩⟩
theorem okV_X11_sees : okV RX11 yX11_sees cX11_sees 8 (some .int) 5 := ⟨mk_c3 236 (by decide +kernel) rfl, mk_c3 237 (by decide +kernel) rfl, kZ_X11, mk_c3 238 (by decide +kernel) rfl, ⟨by decide +kernel, by decide +kernel, by decide +kernel⟩⟩
theorem okV_X11_shut : okV RX11 yX11_shut cX11_shut 4 (some .int) 2 := ⟨mk_c3 81 (by decide +kernel) rfl, mk_c3 82 (by decide +kernel) rfl, kZ_X11, mk_c3 83 (by decide +kernel) rfl, ⟨by decide +kernel, by decide +kernel, by decide +kernel⟩⟩
theorem okV_X11_stands : okV RX11 yX11_stands cX11_stands 4 (some .int) 3 := ⟨mk_c4 235 (by decide +kernel) rfl, mk_c4 236 (by decide +kernel) rfl, kZ_X11, mk_c4 237 (by decide +kernel) rfl, ⟨by decide +kernel, by decide +kernel, by decide +kernel⟩⟩
theorem okV_X11_status : okV RX11 yX11_status cX11_status 1 (some .int) 0 := ⟨mk_c6 42 (by decide +kernel) rfl, mk_c6 43 (by decide +kernel) rfl, kZ_X11, mk_c6 44 (by decide +kernel) rfl, ⟨by decide +kernel, by decide +kernel, by decide +kernel⟩⟩
theorem okV_X11_take : okV RX11 yX11_take cX11_take 7 (some .int) 3 := ⟨mk_c4 231 (by decide +kernel) rfl, mk_c4 232 (by decide +kernel) rfl, kZ_X11, mk_c4 233 (by decide +kernel) rfl, ⟨by decide +kernel, by decide +kernel, by decide +kernel⟩⟩
theorem okV_X11_tells : okV RX11 yX11_tells cX11_tells 8 (some .int) 5 := ⟨mk_c3 177 (by decide +kernel) rfl, mk_c3 178 (by decide +kernel) rfl, kZ_X11, mk_c3 179 (by decide +kernel) rfl, ⟨by decide +kernel, by decide +kernel, by decide +kernel⟩⟩
theorem okV_X11_visit : okV RX11 yX11_visit cX11_visit 5 (some .int) 3 := ⟨mk_c5 116 (by decide +kernel) rfl, mk_c5 117 (by decide +kernel) rfl, kZ_X11, mk_c5 118 (by decide +kernel) rfl, ⟨by decide +kernel, by decide +kernel, by decide +kernel⟩⟩
theorem okV_X12_act : okV RX12 yX12_act cX12_act 3 (some .int) 1 := ⟨mk_c7 160 (by decide +kernel) rfl, mk_c7 161 (by decide +kernel) rfl, kZ_X12, mk_c7 162 (by decide +kernel) rfl, ⟨by decide +kernel, by decide +kernel, by decide +kernel⟩⟩
theorem okV_X12_addDay : okV RX12 yX12_addDay cX12_addDay 3 none 1 := ⟨mk_c9 22 (by decide +kernel) rfl, mk_s 100 (by decide +kernel) rfl, kZ_X12, mk_c9 23 (by decide +kernel) rfl, ⟨by decide +kernel, by decide +kernel, by decide +kernel⟩⟩
theorem okV_X12_addFour : okV RX12 yX12_addFour cX12_addFour 6 none 5 := ⟨mk_c7 11 (by decide +kernel) rfl, mk_s 39 (by decide +kernel) rfl, kZ_X12, mk_c7 12 (by decide +kernel) rfl, ⟨by decide +kernel, by decide +kernel, by decide +kernel⟩⟩
theorem okV_X12_alter : okV RX12 yX12_alter cX12_alter 3 (some .int) 2 := ⟨mk_c9 25 (by decide +kernel) rfl, mk_c9 26 (by decide +kernel) rfl, kZ_X12, mk_c9 27 (by decide +kernel) rfl, ⟨by decide +kernel, by decide +kernel, by decide +kernel⟩⟩
theorem okV_X12_appeal : okV RX12 yX12_appeal cX12_appeal 4 (some .int) 3 := ⟨mk_c7 79 (by decide +kernel) rfl, mk_c7 80 (by decide +kernel) rfl, kZ_X12, mk_c7 81 (by decide +kernel) rfl, ⟨by decide +kernel, by decide +kernel, by decide +kernel⟩⟩
theorem okV_X12_back : okV RX12 yX12_back cX12_back 3 (some .int) 1 := ⟨mk_c6 234 (by decide +kernel) rfl, mk_c6 235 (by decide +kernel) rfl, kZ_X12, mk_c6 236 (by decide +kernel) rfl, ⟨by decide +kernel, by decide +kernel, by decide +kernel⟩⟩
theorem okV_X12_begin : okV RX12 yX12_begin cX12_begin 1 none 0 := ⟨mk_c7 169 (by decide +kernel) rfl, mk_s 58 (by decide +kernel) rfl, kZ_X12, mk_c7 170 (by decide +kernel) rfl, ⟨by decide +kernel, by decide +kernel, by decide +kernel⟩⟩
theorem okV_X12_beside : okV RX12 yX12_beside cX12_beside 6 (some .int) 2 := ⟨mk_c9 13 (by decide +kernel) rfl, mk_c9 14 (by decide +kernel) rfl, kZ_X12, mk_c9 15 (by decide +kernel) rfl, ⟨by decide +kernel, by decide +kernel, by decide +kernel⟩⟩
theorem okV_X12_cannot : okV RX12 yX12_cannot cX12_cannot 8 (some .int) 4 := ⟨mk_c8 202 (by decide +kernel) rfl, mk_c8 203 (by decide +kernel) rfl, kZ_X12, mk_c8 204 (by decide +kernel) rfl, ⟨by decide +kernel, by decide +kernel, by decide +kernel⟩⟩
theorem okV_X12_child : okV RX12 yX12_child cX12_child 8 (some .int) 5 := ⟨mk_c6 238 (by decide +kernel) rfl, mk_c6 239 (by decide +kernel) rfl, kZ_X12, mk_c7 0 (by decide +kernel) rfl, ⟨by decide +kernel, by decide +kernel, by decide +kernel⟩⟩
theorem okV_X12_comes : okV RX12 yX12_comes cX12_comes 6 (some .int) 3 := ⟨mk_c7 30 (by decide +kernel) rfl, mk_c7 31 (by decide +kernel) rfl, kZ_X12, mk_c7 32 (by decide +kernel) rfl, ⟨by decide +kernel, by decide +kernel, by decide +kernel⟩⟩
theorem okV_X12_count : okV RX12 yX12_count cX12_count 2 (some .int) 1 := ⟨mk_c9 33 (by decide +kernel) rfl, mk_c9 34 (by decide +kernel) rfl, kZ_X12, mk_c9 35 (by decide +kernel) rfl, ⟨by decide +kernel, by decide +kernel, by decide +kernel⟩⟩
theorem okV_X12_dip : okV RX12 yX12_dip cX12_dip 6 (some .int) 5 := ⟨mk_c8 94 (by decide +kernel) rfl, mk_c8 95 (by decide +kernel) rfl, kZ_X12, mk_c8 96 (by decide +kernel) rfl, ⟨by decide +kernel, by decide +kernel, by decide +kernel⟩⟩
theorem okV_X12_dips : okV RX12 yX12_dips cX12_dips 17 (some .int) 4 := ⟨mk_c8 238 (by decide +kernel) rfl, mk_c8 239 (by decide +kernel) rfl, kZ_X12, mk_c9 0 (by decide +kernel) rfl, ⟨by decide +kernel, by decide +kernel, by decide +kernel⟩⟩
theorem okV_X12_draw : okV RX12 yX12_draw cX12_draw 5 (some .int) 3 := ⟨mk_c9 3 (by decide +kernel) rfl, mk_c9 4 (by decide +kernel) rfl, kZ_X12, mk_c9 5 (by decide +kernel) rfl, ⟨by decide +kernel, by decide +kernel, by decide +kernel⟩⟩
theorem okV_X12_due : okV RX12 yX12_due cX12_due 6 (some .int) 4 := ⟨mk_c8 98 (by decide +kernel) rfl, mk_c8 99 (by decide +kernel) rfl, kZ_X12, mk_c8 100 (by decide +kernel) rfl, ⟨by decide +kernel, by decide +kernel, by decide +kernel⟩⟩
theorem okV_X12_end : okV RX12 yX12_end cX12_end 2 (some .int) 1 := ⟨mk_c7 152 (by decide +kernel) rfl, mk_c7 153 (by decide +kernel) rfl, kZ_X12, mk_c7 154 (by decide +kernel) rfl, ⟨by decide +kernel, by decide +kernel, by decide +kernel⟩⟩
theorem okV_X12_failed : okV RX12 yX12_failed cX12_failed 3 (some .int) 2 := ⟨mk_c7 54 (by decide +kernel) rfl, mk_c7 55 (by decide +kernel) rfl, kZ_X12, mk_c7 56 (by decide +kernel) rfl, ⟨by decide +kernel, by decide +kernel, by decide +kernel⟩⟩
theorem okV_X12_fault : okV RX12 yX12_fault cX12_fault 1 (some .int) 0 := ⟨mk_c7 156 (by decide +kernel) rfl, mk_c7 157 (by decide +kernel) rfl, kZ_X12, mk_c7 158 (by decide +kernel) rfl, ⟨by decide +kernel, by decide +kernel, by decide +kernel⟩⟩
theorem okV_X12_feed : okV RX12 yX12_feed cX12_feed 6 (some .int) 5 := ⟨mk_c7 144 (by decide +kernel) rfl, mk_c7 145 (by decide +kernel) rfl, kZ_X12, mk_c7 146 (by decide +kernel) rfl, ⟨by decide +kernel, by decide +kernel, by decide +kernel⟩⟩
theorem okV_X12_findKinds : okV RX12 yX12_findKinds cX12_findKinds 4 none 0 := ⟨mk_c7 97 (by decide +kernel) rfl, mk_s 47 (by decide +kernel) rfl, kZ_X12, mk_c7 98 (by decide +kernel) rfl, ⟨by decide +kernel, by decide +kernel, by decide +kernel⟩⟩
theorem okV_X12_findWays : okV RX12 yX12_findWays cX12_findWays 10 none 2 := ⟨mk_c8 222 (by decide +kernel) rfl, mk_s 96 (by decide +kernel) rfl, kZ_X12, mk_c8 223 (by decide +kernel) rfl, ⟨by decide +kernel, by decide +kernel, by decide +kernel⟩⟩
theorem okV_X12_fine : okV RX12 yX12_fine cX12_fine 8 (some .int) 4 := ⟨mk_c8 145 (by decide +kernel) rfl, mk_c8 146 (by decide +kernel) rfl, kZ_X12, mk_c8 147 (by decide +kernel) rfl, ⟨by decide +kernel, by decide +kernel, by decide +kernel⟩⟩
theorem okV_X12_force : okV RX12 yX12_force cX12_force 4 (some .int) 3 := ⟨mk_c8 75 (by decide +kernel) rfl, mk_c8 76 (by decide +kernel) rfl, kZ_X12, mk_c8 77 (by decide +kernel) rfl, ⟨by decide +kernel, by decide +kernel, by decide +kernel⟩⟩
theorem okV_X12_found : okV RX12 yX12_found cX12_found 7 (some .int) 1 := ⟨mk_c9 29 (by decide +kernel) rfl, mk_c9 30 (by decide +kernel) rfl, kZ_X12, mk_c9 31 (by decide +kernel) rfl, ⟨by decide +kernel, by decide +kernel, by decide +kernel⟩⟩
theorem okV_X12_four : okV RX12 yX12_four cX12_four 3 none 1 := ⟨mk_c7 149 (by decide +kernel) rfl, mk_s 56 (by decide +kernel) rfl, kZ_X12, mk_c7 150 (by decide +kernel) rfl, ⟨by decide +kernel, by decide +kernel, by decide +kernel⟩⟩
theorem okV_X12_goes : okV RX12 yX12_goes cX12_goes 7 (some .int) 4 := ⟨mk_c7 42 (by decide +kernel) rfl, mk_c7 43 (by decide +kernel) rfl, kZ_X12, mk_c7 44 (by decide +kernel) rfl, ⟨by decide +kernel, by decide +kernel, by decide +kernel⟩⟩
theorem okV_X12_has : okV RX12 yX12_has cX12_has 6 (some .int) 4 := ⟨mk_c7 66 (by decide +kernel) rfl, mk_c7 67 (by decide +kernel) rfl, kZ_X12, mk_c7 68 (by decide +kernel) rfl, ⟨by decide +kernel, by decide +kernel, by decide +kernel⟩⟩
theorem okV_X12_hasFailed : okV RX12 yX12_hasFailed cX12_hasFailed 5 (some .boolean) 2 := ⟨mk_c7 63 (by decide +kernel) rfl, mk_s 44 (by decide +kernel) rfl, kZ_X12, mk_c7 64 (by decide +kernel) rfl, ⟨by decide +kernel, by decide +kernel, by decide +kernel⟩⟩
theorem okV_X12_headAt : okV RX12 yX12_headAt cX12_headAt 1 (some .int) 0 := ⟨mk_c7 192 (by decide +kernel) rfl, mk_s 61 (by decide +kernel) rfl, kZ_X12, mk_c7 193 (by decide +kernel) rfl, ⟨by decide +kernel, by decide +kernel, by decide +kernel⟩⟩
theorem okV_X12_helped : okV RX12 yX12_helped cX12_helped 11 (some .int) 1 := ⟨mk_c9 9 (by decide +kernel) rfl, mk_c9 10 (by decide +kernel) rfl, kZ_X12, mk_c9 11 (by decide +kernel) rfl, ⟨by decide +kernel, by decide +kernel, by decide +kernel⟩⟩
theorem okV_X12_image : okV RX12 yX12_image cX12_image 3 (some .int) 1 := ⟨mk_c6 223 (by decide +kernel) rfl, mk_c6 224 (by decide +kernel) rfl, kZ_X12, mk_c6 225 (by decide +kernel) rfl, ⟨by decide +kernel, by decide +kernel, by decide +kernel⟩⟩
theorem okV_X12_isChild : okV RX12 yX12_isChild cX12_isChild 2 (some .boolean) 1 := ⟨mk_c7 35 (by decide +kernel) rfl, mk_s 41 (by decide +kernel) rfl, kZ_X12, mk_c7 36 (by decide +kernel) rfl, ⟨by decide +kernel, by decide +kernel, by decide +kernel⟩⟩
theorem okV_X12_isJoin : okV RX12 yX12_isJoin cX12_isJoin 5 (some .boolean) 1 := ⟨mk_c8 187 (by decide +kernel) rfl, mk_s 93 (by decide +kernel) rfl, kZ_X12, mk_c8 188 (by decide +kernel) rfl, ⟨by decide +kernel, by decide +kernel, by decide +kernel⟩⟩
theorem okV_X12_isMark : okV RX12 yX12_isMark cX12_isMark 2 (some .boolean) 1 := ⟨mk_c7 84 (by decide +kernel) rfl, mk_s 45 (by decide +kernel) rfl, kZ_X12, mk_c7 85 (by decide +kernel) rfl, ⟨by decide +kernel, by decide +kernel, by decide +kernel⟩⟩
theorem okV_X12_isOn : okV RX12 yX12_isOn cX12_isOn 4 (some .int) 3 := ⟨mk_c7 46 (by decide +kernel) rfl, mk_c7 47 (by decide +kernel) rfl, kZ_X12, mk_c7 48 (by decide +kernel) rfl, ⟨by decide +kernel, by decide +kernel, by decide +kernel⟩⟩
theorem okV_X12_isSchool : okV RX12 yX12_isSchool cX12_isSchool 2 (some .boolean) 1 := ⟨mk_c7 27 (by decide +kernel) rfl, mk_s 40 (by decide +kernel) rfl, kZ_X12, mk_c7 28 (by decide +kernel) rfl, ⟨by decide +kernel, by decide +kernel, by decide +kernel⟩⟩
theorem okV_X12_isWord : okV RX12 yX12_isWord cX12_isWord 3 (some .boolean) 1 := ⟨mk_c7 197 (by decide +kernel) rfl, mk_s 62 (by decide +kernel) rfl, kZ_X12, mk_c7 198 (by decide +kernel) rfl, ⟨by decide +kernel, by decide +kernel, by decide +kernel⟩⟩
theorem okV_X12_join : okV RX12 yX12_join cX12_join 10 (some .int) 1 := ⟨mk_c8 181 (by decide +kernel) rfl, mk_c8 182 (by decide +kernel) rfl, kZ_X12, mk_c8 183 (by decide +kernel) rfl, ⟨by decide +kernel, by decide +kernel, by decide +kernel⟩⟩
theorem okV_X12_joined : okV RX12 yX12_joined cX12_joined 2 (some .int) 1 := ⟨mk_c8 194 (by decide +kernel) rfl, mk_c8 195 (by decide +kernel) rfl, kZ_X12, mk_c8 196 (by decide +kernel) rfl, ⟨by decide +kernel, by decide +kernel, by decide +kernel⟩⟩
theorem okV_X12_judge : okV RX12 yX12_judge cX12_judge 6 (some .int) 2 := ⟨mk_c8 198 (by decide +kernel) rfl, mk_c8 199 (by decide +kernel) rfl, kZ_X12, mk_c8 200 (by decide +kernel) rfl, ⟨by decide +kernel, by decide +kernel, by decide +kernel⟩⟩
theorem okV_X12_knowBy : okV RX12 yX12_knowBy cX12_knowBy 7 none 1 := ⟨mk_c7 93 (by decide +kernel) rfl, mk_s 46 (by decide +kernel) rfl, kZ_X12, mk_c7 94 (by decide +kernel) rfl, ⟨by decide +kernel, by decide +kernel, by decide +kernel⟩⟩
theorem okV_X12_mark : okV RX12 yX12_mark cX12_mark 9 (some .int) 6 := ⟨mk_c7 70 (by decide +kernel) rfl, mk_c7 71 (by decide +kernel) rfl, kZ_X12, mk_c7 72 (by decide +kernel) rfl, ⟨by decide +kernel, by decide +kernel, by decide +kernel⟩⟩
theorem okV_X12_missing : okV RX12 yX12_missing cX12_missing 4 (some .int) 2 := ⟨mk_c8 177 (by decide +kernel) rfl, mk_c8 178 (by decide +kernel) rfl, kZ_X12, mk_c8 179 (by decide +kernel) rfl, ⟨by decide +kernel, by decide +kernel, by decide +kernel⟩⟩
theorem okV_X12_must : okV RX12 yX12_must cX12_must 2 none 1 := ⟨mk_c7 206 (by decide +kernel) rfl, mk_s 63 (by decide +kernel) rfl, kZ_X12, mk_c7 207 (by decide +kernel) rfl, ⟨by decide +kernel, by decide +kernel, by decide +kernel⟩⟩
theorem okV_X12_next : okV RX12 yX12_next cX12_next 1 none 0 := ⟨mk_c7 173 (by decide +kernel) rfl, mk_s 59 (by decide +kernel) rfl, kZ_X12, mk_c7 174 (by decide +kernel) rfl, ⟨by decide +kernel, by decide +kernel, by decide +kernel⟩⟩
theorem okV_X12_off : okV RX12 yX12_off cX12_off 4 (some .int) 3 := ⟨mk_c8 150 (by decide +kernel) rfl, mk_c8 151 (by decide +kernel) rfl, kZ_X12, mk_c8 152 (by decide +kernel) rfl, ⟨by decide +kernel, by decide +kernel, by decide +kernel⟩⟩
theorem okV_X12_pay : okV RX12 yX12_pay cX12_pay 7 (some .int) 3 := ⟨mk_c8 137 (by decide +kernel) rfl, mk_c8 138 (by decide +kernel) rfl, kZ_X12, mk_c8 139 (by decide +kernel) rfl, ⟨by decide +kernel, by decide +kernel, by decide +kernel⟩⟩
theorem okV_X12_rate : okV RX12 yX12_rate cX12_rate 6 (some .int) 5 := ⟨mk_c8 79 (by decide +kernel) rfl, mk_c8 80 (by decide +kernel) rfl, kZ_X12, mk_c8 81 (by decide +kernel) rfl, ⟨by decide +kernel, by decide +kernel, by decide +kernel⟩⟩
theorem okV_X12_readClause : okV RX12 yX12_readClause cX12_readClause 4 none 0 := ⟨mk_c7 188 (by decide +kernel) rfl, mk_s 60 (by decide +kernel) rfl, kZ_X12, mk_c7 189 (by decide +kernel) rfl, ⟨by decide +kernel, by decide +kernel, by decide +kernel⟩⟩
theorem okV_X12_readText : okV RX12 yX12_readText cX12_readText 4 (some .boolean) 1 := ⟨mk_c7 165 (by decide +kernel) rfl, mk_s 57 (by decide +kernel) rfl, kZ_X12, mk_c7 166 (by decide +kernel) rfl, ⟨by decide +kernel, by decide +kernel, by decide +kernel⟩⟩
theorem okV_X12_record : okV RX12 yX12_record cX12_record 2 (some .int) 1 := ⟨mk_c8 172 (by decide +kernel) rfl, mk_c8 173 (by decide +kernel) rfl, kZ_X12, mk_c8 174 (by decide +kernel) rfl, ⟨by decide +kernel, by decide +kernel, by decide +kernel⟩⟩
theorem okV_X12_rolls : okV RX12 yX12_rolls cX12_rolls 8 (some .int) 3 := ⟨mk_c8 154 (by decide +kernel) rfl, mk_c8 155 (by decide +kernel) rfl, kZ_X12, mk_c8 156 (by decide +kernel) rfl, ⟨by decide +kernel, by decide +kernel, by decide +kernel⟩⟩
theorem okV_X12_round : okV RX12 yX12_round cX12_round 12 (some .int) 4 := ⟨mk_c8 216 (by decide +kernel) rfl, mk_c8 217 (by decide +kernel) rfl, kZ_X12, mk_c8 218 (by decide +kernel) rfl, ⟨by decide +kernel, by decide +kernel, by decide +kernel⟩⟩
theorem okV_X12_school : okV RX12 yX12_school cX12_school 1 (some .int) 0 := ⟨mk_c7 14 (by decide +kernel) rfl, mk_c7 15 (by decide +kernel) rfl, kZ_X12, mk_c7 16 (by decide +kernel) rfl, ⟨by decide +kernel, by decide +kernel, by decide +kernel⟩⟩
theorem okV_X12_seal : okV RX12 yX12_seal cX12_seal 2 (some .int) 1 := ⟨mk_c9 17 (by decide +kernel) rfl, mk_c9 18 (by decide +kernel) rfl, kZ_X12, mk_c9 19 (by decide +kernel) rfl, ⟨by decide +kernel, by decide +kernel, by decide +kernel⟩⟩
theorem okV_X12_seen : okV RX12 yX12_seen cX12_seen 8 (some .int) 3 := ⟨mk_c8 168 (by decide +kernel) rfl, mk_c8 169 (by decide +kernel) rfl, kZ_X12, mk_c8 170 (by decide +kernel) rfl, ⟨by decide +kernel, by decide +kernel, by decide +kernel⟩⟩
theorem okV_X12_sees : okV RX12 yX12_sees cX12_sees 7 (some .int) 5 := ⟨mk_c7 140 (by decide +kernel) rfl, mk_c7 141 (by decide +kernel) rfl, kZ_X12, mk_c7 142 (by decide +kernel) rfl, ⟨by decide +kernel, by decide +kernel, by decide +kernel⟩⟩
theorem okV_X12_shut : okV RX12 yX12_shut cX12_shut 3 (some .int) 2 := ⟨mk_c7 18 (by decide +kernel) rfl, mk_c7 19 (by decide +kernel) rfl, kZ_X12, mk_c7 20 (by decide +kernel) rfl, ⟨by decide +kernel, by decide +kernel, by decide +kernel⟩⟩
theorem okV_X12_stands : okV RX12 yX12_stands cX12_stands 4 (some .int) 3 := ⟨mk_c8 129 (by decide +kernel) rfl, mk_c8 130 (by decide +kernel) rfl, kZ_X12, mk_c8 131 (by decide +kernel) rfl, ⟨by decide +kernel, by decide +kernel, by decide +kernel⟩⟩
theorem okV_X12_status : okV RX12 yX12_status cX12_status 1 (some .int) 0 := ⟨mk_c9 37 (by decide +kernel) rfl, mk_c9 38 (by decide +kernel) rfl, kZ_X12, mk_c9 39 (by decide +kernel) rfl, ⟨by decide +kernel, by decide +kernel, by decide +kernel⟩⟩
theorem okV_X12_take : okV RX12 yX12_take cX12_take 4 (some .int) 3 := ⟨mk_c8 117 (by decide +kernel) rfl, mk_c8 118 (by decide +kernel) rfl, kZ_X12, mk_c8 119 (by decide +kernel) rfl, ⟨by decide +kernel, by decide +kernel, by decide +kernel⟩⟩
theorem okV_X12_tells : okV RX12 yX12_tells cX12_tells 7 (some .int) 5 := ⟨mk_c7 87 (by decide +kernel) rfl, mk_c7 88 (by decide +kernel) rfl, kZ_X12, mk_c7 89 (by decide +kernel) rfl, ⟨by decide +kernel, by decide +kernel, by decide +kernel⟩⟩
theorem okV_X12_told : okV RX12 yX12_told cX12_told 2 (some .int) 1 := ⟨mk_c6 231 (by decide +kernel) rfl, mk_s 38 (by decide +kernel) rfl, kZ_X12, mk_c6 232 (by decide +kernel) rfl, ⟨by decide +kernel, by decide +kernel, by decide +kernel⟩⟩
theorem okV_X12_visit : okV RX12 yX12_visit cX12_visit 5 (some .int) 3 := ⟨mk_c8 210 (by decide +kernel) rfl, mk_c8 211 (by decide +kernel) rfl, kZ_X12, mk_c8 212 (by decide +kernel) rfl, ⟨by decide +kernel, by decide +kernel, by decide +kernel⟩⟩
theorem okV_X1_countWeek : okV RX1 yX1_countWeek cX1_countWeek 6 none 2 := ⟨mk_c5 153 (by decide +kernel) rfl, mk_c5 154 (by decide +kernel) rfl, kZ_X1, mk_c5 155 (by decide +kernel) rfl, ⟨by decide +kernel, by decide +kernel, by decide +kernel⟩⟩
theorem okV_X1_dippingSchools : okV RX1 yX1_dippingSchools cX1_dippingSchools 14 (some .int) 1 := ⟨mk_c5 157 (by decide +kernel) rfl, mk_c5 158 (by decide +kernel) rfl, kZ_X1, mk_c5 159 (by decide +kernel) rfl, ⟨by decide +kernel, by decide +kernel, by decide +kernel⟩⟩
theorem okV_X1_isInForce : okV RX1 yX1_isInForce cX1_isInForce 5 (some .int) 3 := ⟨mk_c4 176 (by decide +kernel) rfl, mk_c4 177 (by decide +kernel) rfl, kZ_X1, mk_c4 178 (by decide +kernel) rfl, ⟨by decide +kernel, by decide +kernel, by decide +kernel⟩⟩
theorem okV_X1_noteKinds : okV RX1 yX1_noteKinds cX1_noteKinds 3 none 1 := ⟨mk_c5 108 (by decide +kernel) rfl, mk_c5 109 (by decide +kernel) rfl, kZ_X1, mk_c5 110 (by decide +kernel) rfl, ⟨by decide +kernel, by decide +kernel, by decide +kernel⟩⟩
theorem okV_X1_schoolsLookedAt : okV RX1 yX1_schoolsLookedAt cX1_schoolsLookedAt 3 (some .int) 0 := ⟨mk_c5 161 (by decide +kernel) rfl, mk_c5 162 (by decide +kernel) rfl, kZ_X1, mk_c5 163 (by decide +kernel) rfl, ⟨by decide +kernel, by decide +kernel, by decide +kernel⟩⟩
theorem okV_X2_bestJoin : okV RX2 yX2_bestJoin cX2_bestJoin 5 (some .int) 1 := ⟨mk_c5 69 (by decide +kernel) rfl, mk_c5 70 (by decide +kernel) rfl, kZ_X2, mk_c5 71 (by decide +kernel) rfl, ⟨by decide +kernel, by decide +kernel, by decide +kernel⟩⟩
theorem okV_X2_bestRound : okV RX2 yX2_bestRound cX2_bestRound 7 none 3 := ⟨mk_c5 124 (by decide +kernel) rfl, mk_c5 125 (by decide +kernel) rfl, kZ_X2, mk_c5 126 (by decide +kernel) rfl, ⟨by decide +kernel, by decide +kernel, by decide +kernel⟩⟩
theorem okV_X2_keepFirstBest : okV RX2 yX2_keepFirstBest cX2_keepFirstBest 4 none 0 := ⟨mk_c5 89 (by decide +kernel) rfl, mk_s 30 (by decide +kernel) rfl, kZ_X2, mk_c5 90 (by decide +kernel) rfl, ⟨by decide +kernel, by decide +kernel, by decide +kernel⟩⟩
theorem okV_X2_likeOfRow : okV RX2 yX2_likeOfRow cX2_likeOfRow 9 (some .int) 2 := ⟨mk_c5 100 (by decide +kernel) rfl, mk_c5 101 (by decide +kernel) rfl, kZ_X2, mk_c5 102 (by decide +kernel) rfl, ⟨by decide +kernel, by decide +kernel, by decide +kernel⟩⟩
theorem okV_X2_noteLikeness : okV RX2 yX2_noteLikeness cX2_noteLikeness 5 none 1 := ⟨mk_c5 74 (by decide +kernel) rfl, mk_s 27 (by decide +kernel) rfl, kZ_X2, mk_c5 75 (by decide +kernel) rfl, ⟨by decide +kernel, by decide +kernel, by decide +kernel⟩⟩
theorem okV_X2_noteWays : okV RX2 yX2_noteWays cX2_noteWays 6 none 2 := ⟨mk_c5 129 (by decide +kernel) rfl, mk_s 31 (by decide +kernel) rfl, kZ_X2, mk_c5 130 (by decide +kernel) rfl, ⟨by decide +kernel, by decide +kernel, by decide +kernel⟩⟩
theorem okV_X2_waysToDraw : okV RX2 yX2_waysToDraw cX2_waysToDraw 7 (some .int) 1 := ⟨mk_c5 174 (by decide +kernel) rfl, mk_c5 175 (by decide +kernel) rfl, kZ_X2, mk_c5 176 (by decide +kernel) rfl, ⟨by decide +kernel, by decide +kernel, by decide +kernel⟩⟩
theorem okV_X3_becomeLike : okV RX3 yX3_becomeLike cX3_becomeLike 2 none 1 := ⟨mk_c5 236 (by decide +kernel) rfl, mk_c5 237 (by decide +kernel) rfl, kZ_X3, mk_c5 238 (by decide +kernel) rfl, ⟨by decide +kernel, by decide +kernel, by decide +kernel⟩⟩
theorem okV_X4_becomeLike : okV RX4 yX4_becomeLike cX4_becomeLike 2 none 1 := ⟨mk_c6 29 (by decide +kernel) rfl, mk_c6 30 (by decide +kernel) rfl, kZ_X4, mk_c6 31 (by decide +kernel) rfl, ⟨by decide +kernel, by decide +kernel, by decide +kernel⟩⟩
theorem okV_X5_becomeLike : okV RX5 yX5_becomeLike cX5_becomeLike 2 none 1 := ⟨mk_c6 14 (by decide +kernel) rfl, mk_c6 15 (by decide +kernel) rfl, kZ_X5, mk_c6 16 (by decide +kernel) rfl, ⟨by decide +kernel, by decide +kernel, by decide +kernel⟩⟩
theorem okV_X5_findAltered : okV RX5 yX5_findAltered cX5_findAltered 5 (some .int) 1 := ⟨mk_c5 224 (by decide +kernel) rfl, mk_c5 225 (by decide +kernel) rfl, kZ_X5, mk_c5 226 (by decide +kernel) rfl, ⟨by decide +kernel, by decide +kernel, by decide +kernel⟩⟩
theorem okV_X5_isNoMark : okV RX5 yX5_isNoMark cX5_isNoMark 2 (some .boolean) 1 := ⟨mk_c3 173 (by decide +kernel) rfl, mk_c3 174 (by decide +kernel) rfl, kZ_X5, mk_c3 175 (by decide +kernel) rfl, ⟨by decide +kernel, by decide +kernel, by decide +kernel⟩⟩
theorem okV_X5_sealDay : okV RX5 yX5_sealDay cX5_sealDay 2 (some .int) 1 := ⟨mk_c5 200 (by decide +kernel) rfl, mk_c5 201 (by decide +kernel) rfl, kZ_X5, mk_c5 202 (by decide +kernel) rfl, ⟨by decide +kernel, by decide +kernel, by decide +kernel⟩⟩
theorem okV_X5_sumDay : okV RX5 yX5_sumDay cX5_sumDay 4 (some .int) 1 := ⟨mk_c5 205 (by decide +kernel) rfl, mk_s 35 (by decide +kernel) rfl, kZ_X5, mk_c5 206 (by decide +kernel) rfl, ⟨by decide +kernel, by decide +kernel, by decide +kernel⟩⟩
theorem okV_X6_addBus : okV RX6 yX6_addBus cX6_addBus 3 (some .int) 2 := ⟨mk_c3 145 (by decide +kernel) rfl, mk_c3 146 (by decide +kernel) rfl, kZ_X6, mk_c3 147 (by decide +kernel) rfl, ⟨by decide +kernel, by decide +kernel, by decide +kernel⟩⟩
theorem okV_X6_addChild : okV RX6 yX6_addChild cX6_addChild 6 (some .int) 5 := ⟨mk_c3 73 (by decide +kernel) rfl, mk_c3 74 (by decide +kernel) rfl, kZ_X6, mk_c3 75 (by decide +kernel) rfl, ⟨by decide +kernel, by decide +kernel, by decide +kernel⟩⟩
theorem okV_X6_becomeLike : okV RX6 yX6_becomeLike cX6_becomeLike 2 none 1 := ⟨mk_c6 0 (by decide +kernel) rfl, mk_c6 1 (by decide +kernel) rfl, kZ_X6, mk_c6 2 (by decide +kernel) rfl, ⟨by decide +kernel, by decide +kernel, by decide +kernel⟩⟩
theorem okV_X6_hasFailed : okV RX6 yX6_hasFailed cX6_hasFailed 4 (some .boolean) 2 := ⟨mk_c3 141 (by decide +kernel) rfl, mk_c3 142 (by decide +kernel) rfl, kZ_X6, mk_c3 143 (by decide +kernel) rfl, ⟨by decide +kernel, by decide +kernel, by decide +kernel⟩⟩
theorem okV_X6_isNoChild : okV RX6 yX6_isNoChild cX6_isNoChild 2 (some .boolean) 1 := ⟨mk_c3 100 (by decide +kernel) rfl, mk_c3 101 (by decide +kernel) rfl, kZ_X6, mk_c3 102 (by decide +kernel) rfl, ⟨by decide +kernel, by decide +kernel, by decide +kernel⟩⟩
theorem okV_X6_isNoSchool : okV RX6 yX6_isNoSchool cX6_isNoSchool 2 (some .boolean) 1 := ⟨mk_c3 88 (by decide +kernel) rfl, mk_c3 89 (by decide +kernel) rfl, kZ_X6, mk_c3 90 (by decide +kernel) rfl, ⟨by decide +kernel, by decide +kernel, by decide +kernel⟩⟩
theorem okV_X7_append : okV RX7 yX7_append cX7_append 3 none 1 := ⟨mk_c4 6 (by decide +kernel) rfl, mk_c4 7 (by decide +kernel) rfl, kZ_X7, mk_c4 8 (by decide +kernel) rfl, ⟨by decide +kernel, by decide +kernel, by decide +kernel⟩⟩
theorem okV_X7_nextToken : okV RX7 yX7_nextToken cX7_nextToken 2 none 0 := ⟨mk_c4 23 (by decide +kernel) rfl, mk_s 7 (by decide +kernel) rfl, kZ_X7, mk_c4 24 (by decide +kernel) rfl, ⟨by decide +kernel, by decide +kernel, by decide +kernel⟩⟩
theorem okV_X7_readHead : okV RX7 yX7_readHead cX7_readHead 2 none 0 := ⟨mk_c4 28 (by decide +kernel) rfl, mk_s 8 (by decide +kernel) rfl, kZ_X7, mk_c4 29 (by decide +kernel) rfl, ⟨by decide +kernel, by decide +kernel, by decide +kernel⟩⟩
theorem okV_X7_readText : okV RX7 yX7_readText cX7_readText 3 (some (.object "HalfDays$Text")) 0 := ⟨mk_c4 18 (by decide +kernel) rfl, mk_c4 19 (by decide +kernel) rfl, kZ_X7, mk_c4 20 (by decide +kernel) rfl, ⟨by decide +kernel, by decide +kernel, by decide +kernel⟩⟩
theorem okV_X7_refuseToken : okV RX7 yX7_refuseToken cX7_refuseToken 1 none 0 := ⟨mk_c4 37 (by decide +kernel) rfl, mk_s 10 (by decide +kernel) rfl, kZ_X7, mk_c4 38 (by decide +kernel) rfl, ⟨by decide +kernel, by decide +kernel, by decide +kernel⟩⟩
theorem okV_X8_becomeLike : okV RX8 yX8_becomeLike cX8_becomeLike 2 none 1 := ⟨mk_c6 9 (by decide +kernel) rfl, mk_c6 10 (by decide +kernel) rfl, kZ_X8, mk_c6 11 (by decide +kernel) rfl, ⟨by decide +kernel, by decide +kernel, by decide +kernel⟩⟩
theorem okV_X9_becomeLike : okV RX9 yX9_becomeLike cX9_becomeLike 2 none 1 := ⟨mk_c6 24 (by decide +kernel) rfl, mk_c6 25 (by decide +kernel) rfl, kZ_X9, mk_c6 26 (by decide +kernel) rfl, ⟨by decide +kernel, by decide +kernel, by decide +kernel⟩⟩
end
section
theorem dJ6_bitCount_0f7a4_0 : decode cJ6_bitCount_0f7a4 0 = .ok (.iload_n 0, 1) := by decide +kernel
theorem dJ6_bitCount_0f7a4_1 : decode cJ6_bitCount_0f7a4 1 = .ok (.iload_n 0, 1) := by decide +kernel
theorem dJ6_bitCount_0f7a4_2 : decode cJ6_bitCount_0f7a4 2 = .ok (.iconst 1, 1) := by decide +kernel
theorem dJ6_bitCount_0f7a4_3 : decode cJ6_bitCount_0f7a4 3 = .ok (.iushr, 1) := by decide +kernel
theorem dJ6_bitCount_0f7a4_4 : decode cJ6_bitCount_0f7a4 4 = .ok (.ldc_w 265, 3) := by decide +kernel
theorem dJ6_bitCount_0f7a4_7 : decode cJ6_bitCount_0f7a4 7 = .ok (.iand, 1) := by decide +kernel
theorem dJ6_bitCount_0f7a4_8 : decode cJ6_bitCount_0f7a4 8 = .ok (.isub, 1) := by decide +kernel
theorem dJ6_bitCount_0f7a4_9 : decode cJ6_bitCount_0f7a4 9 = .ok (.istore_n 0, 1) := by decide +kernel
theorem dJ6_bitCount_0f7a4_10 : decode cJ6_bitCount_0f7a4 10 = .ok (.iload_n 0, 1) := by decide +kernel
theorem dJ6_bitCount_0f7a4_11 : decode cJ6_bitCount_0f7a4 11 = .ok (.ldc_w 266, 3) := by decide +kernel
theorem dJ6_bitCount_0f7a4_14 : decode cJ6_bitCount_0f7a4 14 = .ok (.iand, 1) := by decide +kernel
theorem dJ6_bitCount_0f7a4_15 : decode cJ6_bitCount_0f7a4 15 = .ok (.iload_n 0, 1) := by decide +kernel
theorem dJ6_bitCount_0f7a4_16 : decode cJ6_bitCount_0f7a4 16 = .ok (.iconst 2, 1) := by decide +kernel
theorem dJ6_bitCount_0f7a4_17 : decode cJ6_bitCount_0f7a4 17 = .ok (.iushr, 1) := by decide +kernel
theorem dJ6_bitCount_0f7a4_18 : decode cJ6_bitCount_0f7a4 18 = .ok (.ldc_w 266, 3) := by decide +kernel
theorem dJ6_bitCount_0f7a4_21 : decode cJ6_bitCount_0f7a4 21 = .ok (.iand, 1) := by decide +kernel
theorem dJ6_bitCount_0f7a4_22 : decode cJ6_bitCount_0f7a4 22 = .ok (.iadd, 1) := by decide +kernel
theorem dJ6_bitCount_0f7a4_23 : decode cJ6_bitCount_0f7a4 23 = .ok (.istore_n 0, 1) := by decide +kernel
theorem dJ6_bitCount_0f7a4_24 : decode cJ6_bitCount_0f7a4 24 = .ok (.iload_n 0, 1) := by decide +kernel
theorem dJ6_bitCount_0f7a4_25 : decode cJ6_bitCount_0f7a4 25 = .ok (.iload_n 0, 1) := by decide +kernel
theorem dJ6_bitCount_0f7a4_26 : decode cJ6_bitCount_0f7a4 26 = .ok (.iconst 4, 1) := by decide +kernel
theorem dJ6_bitCount_0f7a4_27 : decode cJ6_bitCount_0f7a4 27 = .ok (.iushr, 1) := by decide +kernel
theorem dJ6_bitCount_0f7a4_28 : decode cJ6_bitCount_0f7a4 28 = .ok (.iadd, 1) := by decide +kernel
theorem dJ6_bitCount_0f7a4_29 : decode cJ6_bitCount_0f7a4 29 = .ok (.ldc_w 267, 3) := by decide +kernel
theorem dJ6_bitCount_0f7a4_32 : decode cJ6_bitCount_0f7a4 32 = .ok (.iand, 1) := by decide +kernel
theorem dJ6_bitCount_0f7a4_33 : decode cJ6_bitCount_0f7a4 33 = .ok (.istore_n 0, 1) := by decide +kernel
theorem dJ6_bitCount_0f7a4_34 : decode cJ6_bitCount_0f7a4 34 = .ok (.iload_n 0, 1) := by decide +kernel
theorem dJ6_bitCount_0f7a4_35 : decode cJ6_bitCount_0f7a4 35 = .ok (.iload_n 0, 1) := by decide +kernel
theorem dJ6_bitCount_0f7a4_36 : decode cJ6_bitCount_0f7a4 36 = .ok (.bipush 8, 2) := by decide +kernel
theorem dJ6_bitCount_0f7a4_38 : decode cJ6_bitCount_0f7a4 38 = .ok (.iushr, 1) := by decide +kernel
theorem dJ6_bitCount_0f7a4_39 : decode cJ6_bitCount_0f7a4 39 = .ok (.iadd, 1) := by decide +kernel
theorem dJ6_bitCount_0f7a4_40 : decode cJ6_bitCount_0f7a4 40 = .ok (.istore_n 0, 1) := by decide +kernel
theorem dJ6_bitCount_0f7a4_41 : decode cJ6_bitCount_0f7a4 41 = .ok (.iload_n 0, 1) := by decide +kernel
theorem dJ6_bitCount_0f7a4_42 : decode cJ6_bitCount_0f7a4 42 = .ok (.iload_n 0, 1) := by decide +kernel
theorem dJ6_bitCount_0f7a4_43 : decode cJ6_bitCount_0f7a4 43 = .ok (.bipush 16, 2) := by decide +kernel
theorem dJ6_bitCount_0f7a4_45 : decode cJ6_bitCount_0f7a4 45 = .ok (.iushr, 1) := by decide +kernel
theorem dJ6_bitCount_0f7a4_46 : decode cJ6_bitCount_0f7a4 46 = .ok (.iadd, 1) := by decide +kernel
theorem dJ6_bitCount_0f7a4_47 : decode cJ6_bitCount_0f7a4 47 = .ok (.istore_n 0, 1) := by decide +kernel
theorem dJ6_bitCount_0f7a4_48 : decode cJ6_bitCount_0f7a4 48 = .ok (.iload_n 0, 1) := by decide +kernel
theorem dJ6_bitCount_0f7a4_49 : decode cJ6_bitCount_0f7a4 49 = .ok (.bipush 63, 2) := by decide +kernel
theorem dJ6_bitCount_0f7a4_51 : decode cJ6_bitCount_0f7a4 51 = .ok (.iand, 1) := by decide +kernel
theorem dJ6_bitCount_0f7a4_52 : decode cJ6_bitCount_0f7a4 52 = .ok (.ireturn, 1) := by decide +kernel
theorem dJ7_fill_53178_0 : decode cJ7_fill_53178 0 = .ok (.iconst 0, 1) := by decide +kernel
theorem dJ7_fill_53178_1 : decode cJ7_fill_53178 1 = .ok (.istore_n 2, 1) := by decide +kernel
theorem dJ7_fill_53178_2 : decode cJ7_fill_53178 2 = .ok (.aload_n 0, 1) := by decide +kernel
theorem dJ7_fill_53178_3 : decode cJ7_fill_53178 3 = .ok (.arraylength, 1) := by decide +kernel
theorem dJ7_fill_53178_4 : decode cJ7_fill_53178 4 = .ok (.istore_n 3, 1) := by decide +kernel
theorem dJ7_fill_53178_5 : decode cJ7_fill_53178 5 = .ok (.iload_n 2, 1) := by decide +kernel
theorem dJ7_fill_53178_6 : decode cJ7_fill_53178 6 = .ok (.iload_n 3, 1) := by decide +kernel
theorem dJ7_fill_53178_7 : decode cJ7_fill_53178 7 = .ok (.if_icmp .ge 13, 3) := by decide +kernel
theorem dJ7_fill_53178_10 : decode cJ7_fill_53178 10 = .ok (.aload_n 0, 1) := by decide +kernel
theorem dJ7_fill_53178_11 : decode cJ7_fill_53178 11 = .ok (.iload_n 2, 1) := by decide +kernel
theorem dJ7_fill_53178_12 : decode cJ7_fill_53178 12 = .ok (.iload_n 1, 1) := by decide +kernel
theorem dJ7_fill_53178_13 : decode cJ7_fill_53178 13 = .ok (.iastore, 1) := by decide +kernel
theorem dJ7_fill_53178_14 : decode cJ7_fill_53178 14 = .ok (.iinc 2 1, 3) := by decide +kernel
theorem dJ7_fill_53178_17 : decode cJ7_fill_53178 17 = .ok (.goto (-12), 3) := by decide +kernel
theorem dJ7_fill_53178_20 : decode cJ7_fill_53178 20 = .ok (.return_, 1) := by decide +kernel
theorem dX0_becomeLike_0 : decode cX0_becomeLike 0 = .ok (.aload_n 0, 1) := by decide +kernel
theorem dX0_becomeLike_1 : decode cX0_becomeLike 1 = .ok (.aload_n 1, 1) := by decide +kernel
theorem dX0_becomeLike_2 : decode cX0_becomeLike 2 = .ok (.getfield 21, 3) := by decide +kernel
theorem dX0_becomeLike_5 : decode cX0_becomeLike 5 = .ok (.putfield 21, 3) := by decide +kernel
theorem dX0_becomeLike_8 : decode cX0_becomeLike 8 = .ok (.iconst 0, 1) := by decide +kernel
theorem dX0_becomeLike_9 : decode cX0_becomeLike 9 = .ok (.istore_n 2, 1) := by decide +kernel
theorem dX0_becomeLike_10 : decode cX0_becomeLike 10 = .ok (.iload_n 2, 1) := by decide +kernel
theorem dX0_becomeLike_11 : decode cX0_becomeLike 11 = .ok (.bipush 20, 2) := by decide +kernel
theorem dX0_becomeLike_13 : decode cX0_becomeLike 13 = .ok (.if_icmp .ge 21, 3) := by decide +kernel
theorem dX0_becomeLike_16 : decode cX0_becomeLike 16 = .ok (.aload_n 0, 1) := by decide +kernel
theorem dX0_becomeLike_17 : decode cX0_becomeLike 17 = .ok (.getfield 11, 3) := by decide +kernel
theorem dX0_becomeLike_20 : decode cX0_becomeLike 20 = .ok (.iload_n 2, 1) := by decide +kernel
theorem dX0_becomeLike_21 : decode cX0_becomeLike 21 = .ok (.aload_n 1, 1) := by decide +kernel
theorem dX0_becomeLike_22 : decode cX0_becomeLike 22 = .ok (.getfield 11, 3) := by decide +kernel
theorem dX0_becomeLike_25 : decode cX0_becomeLike 25 = .ok (.iload_n 2, 1) := by decide +kernel
theorem dX0_becomeLike_26 : decode cX0_becomeLike 26 = .ok (.aaload, 1) := by decide +kernel
theorem dX0_becomeLike_27 : decode cX0_becomeLike 27 = .ok (.aastore, 1) := by decide +kernel
theorem dX0_becomeLike_28 : decode cX0_becomeLike 28 = .ok (.iinc 2 1, 3) := by decide +kernel
theorem dX0_becomeLike_31 : decode cX0_becomeLike 31 = .ok (.goto (-21), 3) := by decide +kernel
theorem dX0_becomeLike_34 : decode cX0_becomeLike 34 = .ok (.aload_n 1, 1) := by decide +kernel
theorem dX0_becomeLike_35 : decode cX0_becomeLike 35 = .ok (.getfield 17, 3) := by decide +kernel
theorem dX0_becomeLike_38 : decode cX0_becomeLike 38 = .ok (.aload_n 0, 1) := by decide +kernel
theorem dX0_becomeLike_39 : decode cX0_becomeLike 39 = .ok (.getfield 17, 3) := by decide +kernel
theorem dX0_becomeLike_42 : decode cX0_becomeLike 42 = .ok (.invokestatic 25, 3) := by decide +kernel
theorem dX0_becomeLike_45 : decode cX0_becomeLike 45 = .ok (.return_, 1) := by decide +kernel
theorem dX0_init_0 : decode cX0_init 0 = .ok (.aload_n 0, 1) := by decide +kernel
theorem dX0_init_1 : decode cX0_init 1 = .ok (.invokespecial 3, 3) := by decide +kernel
theorem dX0_init_4 : decode cX0_init 4 = .ok (.aload_n 0, 1) := by decide +kernel
theorem dX0_init_5 : decode cX0_init 5 = .ok (.bipush 20, 2) := by decide +kernel
theorem dX0_init_7 : decode cX0_init 7 = .ok (.anewarray 9, 3) := by decide +kernel
theorem dX0_init_10 : decode cX0_init 10 = .ok (.putfield 11, 3) := by decide +kernel
theorem dX0_init_13 : decode cX0_init 13 = .ok (.aload_n 0, 1) := by decide +kernel
theorem dX0_init_14 : decode cX0_init 14 = .ok (.bipush 20, 2) := by decide +kernel
theorem dX0_init_16 : decode cX0_init 16 = .ok (.newarray .int, 2) := by decide +kernel
theorem dX0_init_18 : decode cX0_init 18 = .ok (.putfield 17, 3) := by decide +kernel
theorem dX0_init_21 : decode cX0_init 21 = .ok (.return_, 1) := by decide +kernel
theorem dX11_act_0 : decode cX11_act 0 = .ok (.iload_n 1, 1) := by decide +kernel
theorem dX11_act_1 : decode cX11_act 1 = .ok (.invokestatic 72, 3) := by decide +kernel
theorem dX11_act_4 : decode cX11_act 4 = .ok (.ifCond .eq 9, 3) := by decide +kernel
theorem dX11_act_7 : decode cX11_act 7 = .ok (.aload_n 0, 1) := by decide +kernel
theorem dX11_act_8 : decode cX11_act 8 = .ok (.iconst (-1), 1) := by decide +kernel
theorem dX11_act_9 : decode cX11_act 9 = .ok (.invokevirtual 55, 3) := by decide +kernel
theorem dX11_act_12 : decode cX11_act 12 = .ok (.ireturn, 1) := by decide +kernel
theorem dX11_act_13 : decode cX11_act 13 = .ok (.aload_n 0, 1) := by decide +kernel
theorem dX11_act_14 : decode cX11_act 14 = .ok (.getfield 12, 3) := by decide +kernel
theorem dX11_act_17 : decode cX11_act 17 = .ok (.getfield 187, 3) := by decide +kernel
theorem dX11_act_20 : decode cX11_act 20 = .ok (.getfield 191, 3) := by decide +kernel
theorem dX11_act_23 : decode cX11_act 23 = .ok (.bipush 20, 2) := by decide +kernel
theorem dX11_act_25 : decode cX11_act 25 = .ok (.if_icmp .lt 10, 3) := by decide +kernel
theorem dX11_act_35 : decode cX11_act 35 = .ok (.aload_n 0, 1) := by decide +kernel
theorem dX11_act_36 : decode cX11_act 36 = .ok (.getfield 23, 3) := by decide +kernel
theorem dX11_act_39 : decode cX11_act 39 = .ok (.invokevirtual 196, 3) := by decide +kernel
theorem dX11_act_42 : decode cX11_act 42 = .ok (.astore_n 2, 1) := by decide +kernel
theorem dX11_act_43 : decode cX11_act 43 = .ok (.aload_n 2, 1) := by decide +kernel
theorem dX11_act_44 : decode cX11_act 44 = .ok (.ifnonnull 10, 3) := by decide +kernel
theorem dX11_act_47 : decode cX11_act 47 = .ok (.aload_n 0, 1) := by decide +kernel
theorem dX11_act_48 : decode cX11_act 48 = .ok (.bipush (-6), 2) := by decide +kernel
theorem dX11_act_50 : decode cX11_act 50 = .ok (.invokevirtual 55, 3) := by decide +kernel
theorem dX11_act_53 : decode cX11_act 53 = .ok (.ireturn, 1) := by decide +kernel
theorem dX11_alter_0 : decode cX11_alter 0 = .ok (.iload_n 2, 1) := by decide +kernel
theorem dX11_alter_1 : decode cX11_alter 1 = .ok (.iconst 1, 1) := by decide +kernel
theorem dX11_alter_2 : decode cX11_alter 2 = .ok (.bipush 7, 2) := by decide +kernel
theorem dX11_alter_4 : decode cX11_alter 4 = .ok (.invokestatic 47, 3) := by decide +kernel
theorem dX11_alter_7 : decode cX11_alter 7 = .ok (.ifCond .eq 9, 3) := by decide +kernel
theorem dX11_alter_10 : decode cX11_alter 10 = .ok (.aload_n 0, 1) := by decide +kernel
theorem dX11_alter_11 : decode cX11_alter 11 = .ok (.iconst (-1), 1) := by decide +kernel
theorem dX11_alter_12 : decode cX11_alter 12 = .ok (.invokevirtual 55, 3) := by decide +kernel
theorem dX11_alter_15 : decode cX11_alter 15 = .ok (.ireturn, 1) := by decide +kernel
theorem dX11_alter_16 : decode cX11_alter 16 = .ok (.aload_n 0, 1) := by decide +kernel
theorem dX11_alter_17 : decode cX11_alter 17 = .ok (.getfield 12, 3) := by decide +kernel
theorem dX11_alter_20 : decode cX11_alter 20 = .ok (.getfield 137, 3) := by decide +kernel
theorem dX11_alter_23 : decode cX11_alter 23 = .ok (.iload_n 1, 1) := by decide +kernel
theorem dX11_alter_24 : decode cX11_alter 24 = .ok (.invokevirtual 149, 3) := by decide +kernel
theorem dX11_alter_27 : decode cX11_alter 27 = .ok (.ifCond .eq 10, 3) := by decide +kernel
theorem dX11_alter_30 : decode cX11_alter 30 = .ok (.aload_n 0, 1) := by decide +kernel
theorem dX11_alter_31 : decode cX11_alter 31 = .ok (.bipush (-2), 2) := by decide +kernel
theorem dX11_alter_33 : decode cX11_alter 33 = .ok (.invokevirtual 55, 3) := by decide +kernel
theorem dX11_alter_36 : decode cX11_alter 36 = .ok (.ireturn, 1) := by decide +kernel
theorem dX11_answer_0 : decode cX11_answer 0 = .ok (.aload_n 0, 1) := by decide +kernel
theorem dX11_answer_1 : decode cX11_answer 1 = .ok (.iload_n 1, 1) := by decide +kernel
theorem dX11_answer_2 : decode cX11_answer 2 = .ok (.ifCond .ge 7, 3) := by decide +kernel
theorem dX11_answer_5 : decode cX11_answer 5 = .ok (.iload_n 1, 1) := by decide +kernel
theorem dX11_answer_6 : decode cX11_answer 6 = .ok (.goto 4, 3) := by decide +kernel
theorem dX11_answer_9 : decode cX11_answer 9 = .ok (.iconst 0, 1) := by decide +kernel
theorem dX11_answer_10 : decode cX11_answer 10 = .ok (.putfield 383, 3) := by decide +kernel
theorem dX11_answer_13 : decode cX11_answer 13 = .ok (.iload_n 1, 1) := by decide +kernel
theorem dX11_answer_14 : decode cX11_answer 14 = .ok (.ireturn, 1) := by decide +kernel
theorem dX11_appeal_0 : decode cX11_appeal 0 = .ok (.aload_n 0, 1) := by decide +kernel
theorem dX11_appeal_1 : decode cX11_appeal 1 = .ok (.getfield 12, 3) := by decide +kernel
theorem dX11_appeal_4 : decode cX11_appeal 4 = .ok (.getfield 137, 3) := by decide +kernel
theorem dX11_appeal_7 : decode cX11_appeal 7 = .ok (.astore 4, 2) := by decide +kernel
theorem dX11_appeal_9 : decode cX11_appeal 9 = .ok (.iload_n 2, 1) := by decide +kernel
theorem dX11_appeal_10 : decode cX11_appeal 10 = .ok (.iconst 0, 1) := by decide +kernel
theorem dX11_appeal_11 : decode cX11_appeal 11 = .ok (.bipush 25, 2) := by decide +kernel
theorem dX11_appeal_13 : decode cX11_appeal 13 = .ok (.invokestatic 47, 3) := by decide +kernel
theorem dX11_appeal_16 : decode cX11_appeal 16 = .ok (.ifCond .ne 10, 3) := by decide +kernel
theorem dX11_appeal_19 : decode cX11_appeal 19 = .ok (.iload_n 3, 1) := by decide +kernel
theorem dX11_appeal_20 : decode cX11_appeal 20 = .ok (.invokestatic 72, 3) := by decide +kernel
theorem dX11_appeal_23 : decode cX11_appeal 23 = .ok (.ifCond .eq 9, 3) := by decide +kernel
theorem dX11_appeal_26 : decode cX11_appeal 26 = .ok (.aload_n 0, 1) := by decide +kernel
theorem dX11_appeal_27 : decode cX11_appeal 27 = .ok (.iconst (-1), 1) := by decide +kernel
theorem dX11_appeal_28 : decode cX11_appeal 28 = .ok (.invokevirtual 55, 3) := by decide +kernel
theorem dX11_appeal_31 : decode cX11_appeal 31 = .ok (.ireturn, 1) := by decide +kernel
theorem dX11_appeal_32 : decode cX11_appeal 32 = .ok (.aload 4, 2) := by decide +kernel
theorem dX11_appeal_34 : decode cX11_appeal 34 = .ok (.iload_n 1, 1) := by decide +kernel
theorem dX11_appeal_35 : decode cX11_appeal 35 = .ok (.invokevirtual 149, 3) := by decide +kernel
theorem dX11_appeal_38 : decode cX11_appeal 38 = .ok (.ifCond .eq 10, 3) := by decide +kernel
theorem dX11_appeal_41 : decode cX11_appeal 41 = .ok (.aload_n 0, 1) := by decide +kernel
theorem dX11_appeal_42 : decode cX11_appeal 42 = .ok (.bipush (-2), 2) := by decide +kernel
theorem dX11_appeal_44 : decode cX11_appeal 44 = .ok (.invokevirtual 55, 3) := by decide +kernel
theorem dX11_appeal_47 : decode cX11_appeal 47 = .ok (.ireturn, 1) := by decide +kernel
theorem dX11_areNoFigures_0 : decode cX11_areNoFigures 0 = .ok (.iload_n 0, 1) := by decide +kernel
theorem dX11_areNoFigures_1 : decode cX11_areNoFigures 1 = .ok (.iconst 0, 1) := by decide +kernel
theorem dX11_areNoFigures_2 : decode cX11_areNoFigures 2 = .ok (.ldc_w 389, 3) := by decide +kernel
theorem dX11_areNoFigures_5 : decode cX11_areNoFigures 5 = .ok (.invokestatic 47, 3) := by decide +kernel
theorem dX11_areNoFigures_8 : decode cX11_areNoFigures 8 = .ok (.ireturn, 1) := by decide +kernel
theorem dX11_areNoHalves_0 : decode cX11_areNoHalves 0 = .ok (.iload_n 0, 1) := by decide +kernel
theorem dX11_areNoHalves_1 : decode cX11_areNoHalves 1 = .ok (.ifCond .lt 15, 3) := by decide +kernel
theorem dX11_areNoHalves_4 : decode cX11_areNoHalves 4 = .ok (.iload_n 1, 1) := by decide +kernel
theorem dX11_areNoHalves_5 : decode cX11_areNoHalves 5 = .ok (.sipush 800, 3) := by decide +kernel
theorem dX11_areNoHalves_8 : decode cX11_areNoHalves 8 = .ok (.if_icmp .ge 8, 3) := by decide +kernel
theorem dX11_areNoHalves_11 : decode cX11_areNoHalves 11 = .ok (.iload_n 0, 1) := by decide +kernel
theorem dX11_areNoHalves_12 : decode cX11_areNoHalves 12 = .ok (.iload_n 1, 1) := by decide +kernel
theorem dX11_areNoHalves_13 : decode cX11_areNoHalves 13 = .ok (.if_icmp .le 7, 3) := by decide +kernel
theorem dX11_areNoHalves_16 : decode cX11_areNoHalves 16 = .ok (.iconst 1, 1) := by decide +kernel
theorem dX11_areNoHalves_17 : decode cX11_areNoHalves 17 = .ok (.goto 4, 3) := by decide +kernel
theorem dX11_areNoHalves_20 : decode cX11_areNoHalves 20 = .ok (.iconst 0, 1) := by decide +kernel
theorem dX11_areNoHalves_21 : decode cX11_areNoHalves 21 = .ok (.ireturn, 1) := by decide +kernel
theorem dX11_back_0 : decode cX11_back 0 = .ok (.iload_n 1, 1) := by decide +kernel
theorem dX11_back_1 : decode cX11_back 1 = .ok (.iconst 0, 1) := by decide +kernel
theorem dX11_back_2 : decode cX11_back 2 = .ok (.iconst 1, 1) := by decide +kernel
theorem dX11_back_3 : decode cX11_back 3 = .ok (.invokestatic 47, 3) := by decide +kernel
theorem dX11_back_6 : decode cX11_back 6 = .ok (.ifCond .eq 9, 3) := by decide +kernel
theorem dX11_back_9 : decode cX11_back 9 = .ok (.aload_n 0, 1) := by decide +kernel
theorem dX11_back_10 : decode cX11_back 10 = .ok (.iconst (-1), 1) := by decide +kernel
theorem dX11_back_11 : decode cX11_back 11 = .ok (.invokevirtual 55, 3) := by decide +kernel
theorem dX11_back_14 : decode cX11_back 14 = .ok (.ireturn, 1) := by decide +kernel
theorem dX11_back_15 : decode cX11_back 15 = .ok (.aload_n 0, 1) := by decide +kernel
theorem dX11_back_16 : decode cX11_back 16 = .ok (.getfield 16, 3) := by decide +kernel
theorem dX11_back_19 : decode cX11_back 19 = .ok (.iload_n 1, 1) := by decide +kernel
theorem dX11_back_20 : decode cX11_back 20 = .ok (.aaload, 1) := by decide +kernel
theorem dX11_back_21 : decode cX11_back 21 = .ok (.ifnonnull 10, 3) := by decide +kernel
theorem dX11_back_24 : decode cX11_back 24 = .ok (.aload_n 0, 1) := by decide +kernel
theorem dX11_back_25 : decode cX11_back 25 = .ok (.bipush (-2), 2) := by decide +kernel
theorem dX11_back_27 : decode cX11_back 27 = .ok (.invokevirtual 55, 3) := by decide +kernel
theorem dX11_back_30 : decode cX11_back 30 = .ok (.ireturn, 1) := by decide +kernel
theorem dX11_beside_0 : decode cX11_beside 0 = .ok (.iload_n 1, 1) := by decide +kernel
theorem dX11_beside_1 : decode cX11_beside 1 = .ok (.invokestatic 72, 3) := by decide +kernel
theorem dX11_beside_4 : decode cX11_beside 4 = .ok (.ifCond .ne 25, 3) := by decide +kernel
theorem dX11_beside_7 : decode cX11_beside 7 = .ok (.iload_n 2, 1) := by decide +kernel
theorem dX11_beside_8 : decode cX11_beside 8 = .ok (.invokestatic 72, 3) := by decide +kernel
theorem dX11_beside_11 : decode cX11_beside 11 = .ok (.ifCond .ne 18, 3) := by decide +kernel
theorem dX11_beside_14 : decode cX11_beside 14 = .ok (.aload_n 0, 1) := by decide +kernel
theorem dX11_beside_15 : decode cX11_beside 15 = .ok (.getfield 12, 3) := by decide +kernel
theorem dX11_beside_18 : decode cX11_beside 18 = .ok (.getfield 187, 3) := by decide +kernel
theorem dX11_beside_21 : decode cX11_beside 21 = .ok (.getfield 191, 3) := by decide +kernel
theorem dX11_beside_24 : decode cX11_beside 24 = .ok (.bipush 20, 2) := by decide +kernel
theorem dX11_beside_26 : decode cX11_beside 26 = .ok (.if_icmp .lt 5, 3) := by decide +kernel
theorem dX11_beside_29 : decode cX11_beside 29 = .ok (.iconst (-1), 1) := by decide +kernel
theorem dX11_beside_30 : decode cX11_beside 30 = .ok (.ireturn, 1) := by decide +kernel
theorem dX11_beside_31 : decode cX11_beside 31 = .ok (.aload_n 0, 1) := by decide +kernel
theorem dX11_beside_32 : decode cX11_beside 32 = .ok (.getfield 23, 3) := by decide +kernel
theorem dX11_beside_35 : decode cX11_beside 35 = .ok (.invokevirtual 196, 3) := by decide +kernel
theorem dX11_beside_38 : decode cX11_beside 38 = .ok (.astore_n 3, 1) := by decide +kernel
theorem dX11_beside_39 : decode cX11_beside 39 = .ok (.aload_n 3, 1) := by decide +kernel
theorem dX11_beside_40 : decode cX11_beside 40 = .ok (.ifnonnull 5, 3) := by decide +kernel
theorem dX11_beside_43 : decode cX11_beside 43 = .ok (.iconst (-1), 1) := by decide +kernel
theorem dX11_beside_44 : decode cX11_beside 44 = .ok (.ireturn, 1) := by decide +kernel
theorem dX11_cannot_0 : decode cX11_cannot 0 = .ok (.iload_n 1, 1) := by decide +kernel
theorem dX11_cannot_1 : decode cX11_cannot 1 = .ok (.iload_n 2, 1) := by decide +kernel
theorem dX11_cannot_2 : decode cX11_cannot 2 = .ok (.invokestatic 210, 3) := by decide +kernel
theorem dX11_cannot_5 : decode cX11_cannot 5 = .ok (.ifCond .ne 10, 3) := by decide +kernel
theorem dX11_cannot_8 : decode cX11_cannot 8 = .ok (.iload_n 3, 1) := by decide +kernel
theorem dX11_cannot_9 : decode cX11_cannot 9 = .ok (.invokestatic 72, 3) := by decide +kernel
theorem dX11_cannot_12 : decode cX11_cannot 12 = .ok (.ifCond .eq 5, 3) := by decide +kernel
theorem dX11_cannot_15 : decode cX11_cannot 15 = .ok (.iconst (-1), 1) := by decide +kernel
theorem dX11_cannot_16 : decode cX11_cannot 16 = .ok (.ireturn, 1) := by decide +kernel
theorem dX11_cannot_17 : decode cX11_cannot 17 = .ok (.aload_n 0, 1) := by decide +kernel
theorem dX11_cannot_18 : decode cX11_cannot 18 = .ok (.getfield 32, 3) := by decide +kernel
theorem dX11_cannot_21 : decode cX11_cannot 21 = .ok (.iload_n 3, 1) := by decide +kernel
theorem dX11_cannot_22 : decode cX11_cannot 22 = .ok (.invokevirtual 306, 3) := by decide +kernel
theorem dX11_cannot_25 : decode cX11_cannot 25 = .ok (.iconst 0, 1) := by decide +kernel
theorem dX11_cannot_26 : decode cX11_cannot 26 = .ok (.istore 5, 2) := by decide +kernel
theorem dX11_cannot_28 : decode cX11_cannot 28 = .ok (.iconst 0, 1) := by decide +kernel
theorem dX11_cannot_29 : decode cX11_cannot 29 = .ok (.istore 6, 2) := by decide +kernel
theorem dX11_cannot_31 : decode cX11_cannot 31 = .ok (.iload 6, 2) := by decide +kernel
theorem dX11_cannot_33 : decode cX11_cannot 33 = .ok (.aload_n 0, 1) := by decide +kernel
theorem dX11_cannot_34 : decode cX11_cannot 34 = .ok (.getfield 12, 3) := by decide +kernel
theorem dX11_cannot_37 : decode cX11_cannot 37 = .ok (.getfield 137, 3) := by decide +kernel
theorem dX11_cannot_40 : decode cX11_cannot 40 = .ok (.getfield 141, 3) := by decide +kernel
theorem dX11_cannot_43 : decode cX11_cannot 43 = .ok (.if_icmp .ge 55, 3) := by decide +kernel
theorem dX11_cannot_98 : decode cX11_cannot 98 = .ok (.iload 4, 2) := by decide +kernel
theorem dX11_cannot_100 : decode cX11_cannot 100 = .ok (.iconst (-1), 1) := by decide +kernel
theorem dX11_cannot_101 : decode cX11_cannot 101 = .ok (.if_icmp .ne 8, 3) := by decide +kernel
theorem dX11_cannot_104 : decode cX11_cannot 104 = .ok (.iload 5, 2) := by decide +kernel
theorem dX11_cannot_106 : decode cX11_cannot 106 = .ok (.goto 4, 3) := by decide +kernel
theorem dX11_cannot_109 : decode cX11_cannot 109 = .ok (.iconst (-1), 1) := by decide +kernel
theorem dX11_cannot_110 : decode cX11_cannot 110 = .ok (.ireturn, 1) := by decide +kernel
theorem dX11_child_0 : decode cX11_child 0 = .ok (.aload_n 0, 1) := by decide +kernel
theorem dX11_child_1 : decode cX11_child 1 = .ok (.getfield 12, 3) := by decide +kernel
theorem dX11_child_4 : decode cX11_child 4 = .ok (.getfield 43, 3) := by decide +kernel
theorem dX11_child_7 : decode cX11_child 7 = .ok (.astore 6, 2) := by decide +kernel
theorem dX11_child_9 : decode cX11_child 9 = .ok (.iload_n 1, 1) := by decide +kernel
theorem dX11_child_10 : decode cX11_child 10 = .ok (.iconst 3, 1) := by decide +kernel
theorem dX11_child_11 : decode cX11_child 11 = .ok (.bipush 18, 2) := by decide +kernel
theorem dX11_child_13 : decode cX11_child 13 = .ok (.invokestatic 47, 3) := by decide +kernel
theorem dX11_child_16 : decode cX11_child 16 = .ok (.ifCond .ne 23, 3) := by decide +kernel
theorem dX11_child_19 : decode cX11_child 19 = .ok (.iload_n 3, 1) := by decide +kernel
theorem dX11_child_20 : decode cX11_child 20 = .ok (.iconst (-1), 1) := by decide +kernel
theorem dX11_child_21 : decode cX11_child 21 = .ok (.bipush 7, 2) := by decide +kernel
theorem dX11_child_23 : decode cX11_child 23 = .ok (.invokestatic 47, 3) := by decide +kernel
theorem dX11_child_26 : decode cX11_child 26 = .ok (.ifCond .ne 13, 3) := by decide +kernel
theorem dX11_child_29 : decode cX11_child 29 = .ok (.iload 4, 2) := by decide +kernel
theorem dX11_child_31 : decode cX11_child 31 = .ok (.iload 5, 2) := by decide +kernel
theorem dX11_child_33 : decode cX11_child 33 = .ok (.invokestatic 51, 3) := by decide +kernel
theorem dX11_child_36 : decode cX11_child 36 = .ok (.ifCond .eq 9, 3) := by decide +kernel
theorem dX11_child_39 : decode cX11_child 39 = .ok (.aload_n 0, 1) := by decide +kernel
theorem dX11_child_40 : decode cX11_child 40 = .ok (.iconst (-1), 1) := by decide +kernel
theorem dX11_child_41 : decode cX11_child 41 = .ok (.invokevirtual 55, 3) := by decide +kernel
theorem dX11_child_44 : decode cX11_child 44 = .ok (.ireturn, 1) := by decide +kernel
theorem dX11_child_45 : decode cX11_child 45 = .ok (.aload 6, 2) := by decide +kernel
theorem dX11_child_47 : decode cX11_child 47 = .ok (.getfield 59, 3) := by decide +kernel
theorem dX11_child_50 : decode cX11_child 50 = .ok (.bipush 40, 2) := by decide +kernel
theorem dX11_child_52 : decode cX11_child 52 = .ok (.if_icmp .lt 10, 3) := by decide +kernel
theorem dX11_child_62 : decode cX11_child 62 = .ok (.aload_n 0, 1) := by decide +kernel
theorem dX11_child_63 : decode cX11_child 63 = .ok (.aload 6, 2) := by decide +kernel
theorem dX11_child_65 : decode cX11_child 65 = .ok (.iload_n 1, 1) := by decide +kernel
theorem dX11_child_66 : decode cX11_child 66 = .ok (.iload_n 2, 1) := by decide +kernel
theorem dX11_child_67 : decode cX11_child 67 = .ok (.iload_n 3, 1) := by decide +kernel
theorem dX11_child_68 : decode cX11_child 68 = .ok (.iload 4, 2) := by decide +kernel
theorem dX11_child_70 : decode cX11_child 70 = .ok (.iload 5, 2) := by decide +kernel
theorem dX11_child_72 : decode cX11_child 72 = .ok (.invokevirtual 65, 3) := by decide +kernel
theorem dX11_child_75 : decode cX11_child 75 = .ok (.invokevirtual 55, 3) := by decide +kernel
theorem dX11_child_78 : decode cX11_child 78 = .ok (.ireturn, 1) := by decide +kernel
theorem dX11_comes_0 : decode cX11_comes 0 = .ok (.aload_n 0, 1) := by decide +kernel
theorem dX11_comes_1 : decode cX11_comes 1 = .ok (.getfield 12, 3) := by decide +kernel
theorem dX11_comes_4 : decode cX11_comes 4 = .ok (.getfield 86, 3) := by decide +kernel
theorem dX11_comes_7 : decode cX11_comes 7 = .ok (.astore 4, 2) := by decide +kernel
theorem dX11_comes_9 : decode cX11_comes 9 = .ok (.iload_n 3, 1) := by decide +kernel
theorem dX11_comes_10 : decode cX11_comes 10 = .ok (.invokestatic 72, 3) := by decide +kernel
theorem dX11_comes_13 : decode cX11_comes 13 = .ok (.ifCond .eq 9, 3) := by decide +kernel
theorem dX11_comes_16 : decode cX11_comes 16 = .ok (.aload_n 0, 1) := by decide +kernel
theorem dX11_comes_17 : decode cX11_comes 17 = .ok (.iconst (-1), 1) := by decide +kernel
theorem dX11_comes_18 : decode cX11_comes 18 = .ok (.invokevirtual 55, 3) := by decide +kernel
theorem dX11_comes_21 : decode cX11_comes 21 = .ok (.ireturn, 1) := by decide +kernel
theorem dX11_comes_22 : decode cX11_comes 22 = .ok (.aload_n 0, 1) := by decide +kernel
theorem dX11_comes_23 : decode cX11_comes 23 = .ok (.getfield 12, 3) := by decide +kernel
theorem dX11_comes_26 : decode cX11_comes 26 = .ok (.getfield 43, 3) := by decide +kernel
theorem dX11_comes_29 : decode cX11_comes 29 = .ok (.iload_n 1, 1) := by decide +kernel
theorem dX11_comes_30 : decode cX11_comes 30 = .ok (.invokevirtual 90, 3) := by decide +kernel
theorem dX11_comes_33 : decode cX11_comes 33 = .ok (.ifCond .ne 17, 3) := by decide +kernel
theorem dX11_comes_50 : decode cX11_comes 50 = .ok (.aload_n 0, 1) := by decide +kernel
theorem dX11_comes_51 : decode cX11_comes 51 = .ok (.bipush (-2), 2) := by decide +kernel
theorem dX11_comes_53 : decode cX11_comes 53 = .ok (.invokevirtual 55, 3) := by decide +kernel
theorem dX11_comes_56 : decode cX11_comes 56 = .ok (.ireturn, 1) := by decide +kernel
theorem dX11_copyRow_0 : decode cX11_copyRow 0 = .ok (.aload_n 0, 1) := by decide +kernel
theorem dX11_copyRow_1 : decode cX11_copyRow 1 = .ok (.iconst 0, 1) := by decide +kernel
theorem dX11_copyRow_2 : decode cX11_copyRow 2 = .ok (.aload_n 1, 1) := by decide +kernel
theorem dX11_copyRow_3 : decode cX11_copyRow 3 = .ok (.iconst 0, 1) := by decide +kernel
theorem dX11_copyRow_4 : decode cX11_copyRow 4 = .ok (.aload_n 0, 1) := by decide +kernel
theorem dX11_copyRow_5 : decode cX11_copyRow 5 = .ok (.arraylength, 1) := by decide +kernel
theorem dX11_copyRow_6 : decode cX11_copyRow 6 = .ok (.aload_n 1, 1) := by decide +kernel
theorem dX11_copyRow_7 : decode cX11_copyRow 7 = .ok (.arraylength, 1) := by decide +kernel
theorem dX11_copyRow_8 : decode cX11_copyRow 8 = .ok (.invokestatic 390, 3) := by decide +kernel
theorem dX11_copyRow_11 : decode cX11_copyRow 11 = .ok (.invokestatic 395, 3) := by decide +kernel
theorem dX11_copyRow_14 : decode cX11_copyRow 14 = .ok (.return_, 1) := by decide +kernel
theorem dX11_count_0 : decode cX11_count 0 = .ok (.iload_n 1, 1) := by decide +kernel
theorem dX11_count_1 : decode cX11_count 1 = .ok (.tableswitch 162 0 9 #[55, 66, 77, 88, 99, 110, 121, 132, 143, 154], 55) := by decide +kernel
theorem dX11_count_56 : decode cX11_count 56 = .ok (.aload_n 0, 1) := by decide +kernel
theorem dX11_count_57 : decode cX11_count 57 = .ok (.getfield 12, 3) := by decide +kernel
theorem dX11_count_60 : decode cX11_count 60 = .ok (.getfield 43, 3) := by decide +kernel
theorem dX11_count_63 : decode cX11_count 63 = .ok (.getfield 59, 3) := by decide +kernel
theorem dX11_count_66 : decode cX11_count 66 = .ok (.ireturn, 1) := by decide +kernel
theorem dX11_count_67 : decode cX11_count 67 = .ok (.aload_n 0, 1) := by decide +kernel
theorem dX11_count_68 : decode cX11_count 68 = .ok (.getfield 12, 3) := by decide +kernel
theorem dX11_count_71 : decode cX11_count 71 = .ok (.getfield 43, 3) := by decide +kernel
theorem dX11_count_74 : decode cX11_count 74 = .ok (.getfield 69, 3) := by decide +kernel
theorem dX11_count_77 : decode cX11_count 77 = .ok (.ireturn, 1) := by decide +kernel
theorem dX11_count_78 : decode cX11_count 78 = .ok (.aload_n 0, 1) := by decide +kernel
theorem dX11_count_79 : decode cX11_count 79 = .ok (.getfield 12, 3) := by decide +kernel
theorem dX11_count_82 : decode cX11_count 82 = .ok (.getfield 86, 3) := by decide +kernel
theorem dX11_count_85 : decode cX11_count 85 = .ok (.getfield 105, 3) := by decide +kernel
theorem dX11_count_88 : decode cX11_count 88 = .ok (.ireturn, 1) := by decide +kernel
theorem dX11_count_89 : decode cX11_count 89 = .ok (.aload_n 0, 1) := by decide +kernel
theorem dX11_count_90 : decode cX11_count 90 = .ok (.getfield 12, 3) := by decide +kernel
theorem dX11_count_93 : decode cX11_count 93 = .ok (.getfield 137, 3) := by decide +kernel
theorem dX11_count_96 : decode cX11_count 96 = .ok (.getfield 141, 3) := by decide +kernel
theorem dX11_count_99 : decode cX11_count 99 = .ok (.ireturn, 1) := by decide +kernel
theorem dX11_count_100 : decode cX11_count 100 = .ok (.aload_n 0, 1) := by decide +kernel
theorem dX11_count_101 : decode cX11_count 101 = .ok (.getfield 12, 3) := by decide +kernel
theorem dX11_count_104 : decode cX11_count 104 = .ok (.getfield 187, 3) := by decide +kernel
theorem dX11_count_107 : decode cX11_count 107 = .ok (.getfield 191, 3) := by decide +kernel
theorem dX11_count_110 : decode cX11_count 110 = .ok (.ireturn, 1) := by decide +kernel
theorem dX11_count_111 : decode cX11_count 111 = .ok (.aload_n 0, 1) := by decide +kernel
theorem dX11_count_112 : decode cX11_count 112 = .ok (.getfield 12, 3) := by decide +kernel
theorem dX11_count_115 : decode cX11_count 115 = .ok (.getfield 263, 3) := by decide +kernel
theorem dX11_count_118 : decode cX11_count 118 = .ok (.getfield 270, 3) := by decide +kernel
theorem dX11_count_121 : decode cX11_count 121 = .ok (.ireturn, 1) := by decide +kernel
theorem dX11_count_122 : decode cX11_count 122 = .ok (.aload_n 0, 1) := by decide +kernel
theorem dX11_count_123 : decode cX11_count 123 = .ok (.getfield 12, 3) := by decide +kernel
theorem dX11_count_126 : decode cX11_count 126 = .ok (.getfield 263, 3) := by decide +kernel
theorem dX11_count_129 : decode cX11_count 129 = .ok (.getfield 281, 3) := by decide +kernel
theorem dX11_count_132 : decode cX11_count 132 = .ok (.ireturn, 1) := by decide +kernel
theorem dX11_count_133 : decode cX11_count 133 = .ok (.aload_n 0, 1) := by decide +kernel
theorem dX11_count_134 : decode cX11_count 134 = .ok (.getfield 12, 3) := by decide +kernel
theorem dX11_count_137 : decode cX11_count 137 = .ok (.getfield 263, 3) := by decide +kernel
theorem dX11_count_140 : decode cX11_count 140 = .ok (.getfield 315, 3) := by decide +kernel
theorem dX11_count_143 : decode cX11_count 143 = .ok (.ireturn, 1) := by decide +kernel
theorem dX11_count_144 : decode cX11_count 144 = .ok (.aload_n 0, 1) := by decide +kernel
theorem dX11_count_145 : decode cX11_count 145 = .ok (.getfield 12, 3) := by decide +kernel
theorem dX11_count_148 : decode cX11_count 148 = .ok (.getfield 263, 3) := by decide +kernel
theorem dX11_count_151 : decode cX11_count 151 = .ok (.getfield 352, 3) := by decide +kernel
theorem dX11_count_154 : decode cX11_count 154 = .ok (.ireturn, 1) := by decide +kernel
theorem dX11_count_155 : decode cX11_count 155 = .ok (.aload_n 0, 1) := by decide +kernel
theorem dX11_count_156 : decode cX11_count 156 = .ok (.getfield 23, 3) := by decide +kernel
theorem dX11_count_159 : decode cX11_count 159 = .ok (.getfield 181, 3) := by decide +kernel
theorem dX11_count_162 : decode cX11_count 162 = .ok (.ireturn, 1) := by decide +kernel
theorem dX11_count_163 : decode cX11_count 163 = .ok (.iconst (-1), 1) := by decide +kernel
theorem dX11_count_164 : decode cX11_count 164 = .ok (.ireturn, 1) := by decide +kernel
theorem dX11_dip_0 : decode cX11_dip 0 = .ok (.iload_n 2, 1) := by decide +kernel
theorem dX11_dip_1 : decode cX11_dip 1 = .ok (.iload_n 3, 1) := by decide +kernel
theorem dX11_dip_2 : decode cX11_dip 2 = .ok (.invokestatic 210, 3) := by decide +kernel
theorem dX11_dip_5 : decode cX11_dip 5 = .ok (.ifCond .ne 25, 3) := by decide +kernel
theorem dX11_dip_8 : decode cX11_dip 8 = .ok (.iload 4, 2) := by decide +kernel
theorem dX11_dip_10 : decode cX11_dip 10 = .ok (.invokestatic 72, 3) := by decide +kernel
theorem dX11_dip_13 : decode cX11_dip 13 = .ok (.ifCond .ne 17, 3) := by decide +kernel
theorem dX11_dip_16 : decode cX11_dip 16 = .ok (.aload_n 0, 1) := by decide +kernel
theorem dX11_dip_17 : decode cX11_dip 17 = .ok (.getfield 12, 3) := by decide +kernel
theorem dX11_dip_20 : decode cX11_dip 20 = .ok (.getfield 43, 3) := by decide +kernel
theorem dX11_dip_23 : decode cX11_dip 23 = .ok (.iload_n 1, 1) := by decide +kernel
theorem dX11_dip_24 : decode cX11_dip 24 = .ok (.invokevirtual 76, 3) := by decide +kernel
theorem dX11_dip_27 : decode cX11_dip 27 = .ok (.ifCond .eq 5, 3) := by decide +kernel
theorem dX11_dip_30 : decode cX11_dip 30 = .ok (.iconst (-1), 1) := by decide +kernel
theorem dX11_dip_31 : decode cX11_dip 31 = .ok (.ireturn, 1) := by decide +kernel
theorem dX11_dips_0 : decode cX11_dips 0 = .ok (.iload_n 1, 1) := by decide +kernel
theorem dX11_dips_1 : decode cX11_dips 1 = .ok (.iconst 0, 1) := by decide +kernel
theorem dX11_dips_2 : decode cX11_dips 2 = .ok (.bipush 57, 2) := by decide +kernel
theorem dX11_dips_4 : decode cX11_dips 4 = .ok (.invokestatic 47, 3) := by decide +kernel
theorem dX11_dips_7 : decode cX11_dips 7 = .ok (.ifCond .ne 30, 3) := by decide +kernel
theorem dX11_dips_10 : decode cX11_dips 10 = .ok (.iload_n 2, 1) := by decide +kernel
theorem dX11_dips_11 : decode cX11_dips 11 = .ok (.invokestatic 72, 3) := by decide +kernel
theorem dX11_dips_14 : decode cX11_dips 14 = .ok (.ifCond .ne 23, 3) := by decide +kernel
theorem dX11_dips_17 : decode cX11_dips 17 = .ok (.iload_n 3, 1) := by decide +kernel
theorem dX11_dips_18 : decode cX11_dips 18 = .ok (.iconst 1, 1) := by decide +kernel
theorem dX11_dips_19 : decode cX11_dips 19 = .ok (.bipush 20, 2) := by decide +kernel
theorem dX11_dips_21 : decode cX11_dips 21 = .ok (.invokestatic 47, 3) := by decide +kernel
theorem dX11_dips_24 : decode cX11_dips 24 = .ok (.ifCond .ne 13, 3) := by decide +kernel
theorem dX11_dips_27 : decode cX11_dips 27 = .ok (.iload 4, 2) := by decide +kernel
theorem dX11_dips_29 : decode cX11_dips 29 = .ok (.iconst 0, 1) := by decide +kernel
theorem dX11_dips_30 : decode cX11_dips 30 = .ok (.iconst 1, 1) := by decide +kernel
theorem dX11_dips_31 : decode cX11_dips 31 = .ok (.invokestatic 47, 3) := by decide +kernel
theorem dX11_dips_34 : decode cX11_dips 34 = .ok (.ifCond .eq 5, 3) := by decide +kernel
theorem dX11_dips_37 : decode cX11_dips 37 = .ok (.iconst (-1), 1) := by decide +kernel
theorem dX11_dips_38 : decode cX11_dips 38 = .ok (.ireturn, 1) := by decide +kernel
theorem dX11_dips_39 : decode cX11_dips 39 = .ok (.aload_n 0, 1) := by decide +kernel
theorem dX11_dips_40 : decode cX11_dips 40 = .ok (.getfield 32, 3) := by decide +kernel
theorem dX11_dips_43 : decode cX11_dips 43 = .ok (.iload_n 1, 1) := by decide +kernel
theorem dX11_dips_44 : decode cX11_dips 44 = .ok (.iload_n 2, 1) := by decide +kernel
theorem dX11_dips_45 : decode cX11_dips 45 = .ok (.invokevirtual 340, 3) := by decide +kernel
theorem dX11_dips_48 : decode cX11_dips 48 = .ok (.iload 4, 2) := by decide +kernel
theorem dX11_dips_50 : decode cX11_dips 50 = .ok (.ifCond .ne 14, 3) := by decide +kernel
theorem dX11_dips_53 : decode cX11_dips 53 = .ok (.aload_n 0, 1) := by decide +kernel
theorem dX11_dips_54 : decode cX11_dips 54 = .ok (.getfield 32, 3) := by decide +kernel
theorem dX11_dips_57 : decode cX11_dips 57 = .ok (.iload_n 3, 1) := by decide +kernel
theorem dX11_dips_58 : decode cX11_dips 58 = .ok (.invokevirtual 343, 3) := by decide +kernel
theorem dX11_dips_61 : decode cX11_dips 61 = .ok (.goto 10, 3) := by decide +kernel
theorem dX11_dips_64 : decode cX11_dips 64 = .ok (.aload_n 0, 1) := by decide +kernel
theorem dX11_dips_65 : decode cX11_dips 65 = .ok (.getfield 32, 3) := by decide +kernel
theorem dX11_dips_68 : decode cX11_dips 68 = .ok (.invokevirtual 346, 3) := by decide +kernel
theorem dX11_dips_71 : decode cX11_dips 71 = .ok (.ireturn, 1) := by decide +kernel
theorem dX11_draw_0 : decode cX11_draw 0 = .ok (.aload_n 0, 1) := by decide +kernel
theorem dX11_draw_1 : decode cX11_draw 1 = .ok (.getfield 12, 3) := by decide +kernel
theorem dX11_draw_4 : decode cX11_draw 4 = .ok (.getfield 263, 3) := by decide +kernel
theorem dX11_draw_7 : decode cX11_draw 7 = .ok (.astore 4, 2) := by decide +kernel
theorem dX11_draw_9 : decode cX11_draw 9 = .ok (.iload_n 2, 1) := by decide +kernel
theorem dX11_draw_10 : decode cX11_draw 10 = .ok (.iconst 0, 1) := by decide +kernel
theorem dX11_draw_11 : decode cX11_draw 11 = .ok (.iconst 1, 1) := by decide +kernel
theorem dX11_draw_12 : decode cX11_draw 12 = .ok (.invokestatic 47, 3) := by decide +kernel
theorem dX11_draw_15 : decode cX11_draw 15 = .ok (.ifCond .ne 14, 3) := by decide +kernel
theorem dX11_draw_18 : decode cX11_draw 18 = .ok (.iload_n 3, 1) := by decide +kernel
theorem dX11_draw_19 : decode cX11_draw 19 = .ok (.bipush (-100), 2) := by decide +kernel
theorem dX11_draw_21 : decode cX11_draw 21 = .ok (.bipush 100, 2) := by decide +kernel
theorem dX11_draw_23 : decode cX11_draw 23 = .ok (.invokestatic 47, 3) := by decide +kernel
theorem dX11_draw_26 : decode cX11_draw 26 = .ok (.ifCond .eq 9, 3) := by decide +kernel
theorem dX11_draw_29 : decode cX11_draw 29 = .ok (.aload_n 0, 1) := by decide +kernel
theorem dX11_draw_30 : decode cX11_draw 30 = .ok (.iconst (-1), 1) := by decide +kernel
theorem dX11_draw_31 : decode cX11_draw 31 = .ok (.invokevirtual 55, 3) := by decide +kernel
theorem dX11_draw_34 : decode cX11_draw 34 = .ok (.ireturn, 1) := by decide +kernel
theorem dX11_draw_35 : decode cX11_draw 35 = .ok (.aload_n 0, 1) := by decide +kernel
theorem dX11_draw_36 : decode cX11_draw 36 = .ok (.getfield 12, 3) := by decide +kernel
theorem dX11_draw_39 : decode cX11_draw 39 = .ok (.getfield 43, 3) := by decide +kernel
theorem dX11_draw_42 : decode cX11_draw 42 = .ok (.iload_n 1, 1) := by decide +kernel
theorem dX11_draw_43 : decode cX11_draw 43 = .ok (.invokevirtual 90, 3) := by decide +kernel
theorem dX11_draw_46 : decode cX11_draw 46 = .ok (.ifCond .eq 10, 3) := by decide +kernel
theorem dX11_draw_49 : decode cX11_draw 49 = .ok (.aload_n 0, 1) := by decide +kernel
theorem dX11_draw_50 : decode cX11_draw 50 = .ok (.bipush (-2), 2) := by decide +kernel
theorem dX11_draw_52 : decode cX11_draw 52 = .ok (.invokevirtual 55, 3) := by decide +kernel
theorem dX11_draw_55 : decode cX11_draw 55 = .ok (.ireturn, 1) := by decide +kernel
theorem dX11_due_0 : decode cX11_due 0 = .ok (.iload_n 2, 1) := by decide +kernel
theorem dX11_due_1 : decode cX11_due 1 = .ok (.invokestatic 220, 3) := by decide +kernel
theorem dX11_due_4 : decode cX11_due 4 = .ok (.ifCond .ne 32, 3) := by decide +kernel
theorem dX11_due_7 : decode cX11_due 7 = .ok (.iload_n 3, 1) := by decide +kernel
theorem dX11_due_8 : decode cX11_due 8 = .ok (.invokestatic 72, 3) := by decide +kernel
theorem dX11_due_11 : decode cX11_due 11 = .ok (.ifCond .ne 25, 3) := by decide +kernel
theorem dX11_due_14 : decode cX11_due 14 = .ok (.iload 4, 2) := by decide +kernel
theorem dX11_due_16 : decode cX11_due 16 = .ok (.invokestatic 72, 3) := by decide +kernel
theorem dX11_due_19 : decode cX11_due 19 = .ok (.ifCond .ne 17, 3) := by decide +kernel
theorem dX11_due_22 : decode cX11_due 22 = .ok (.aload_n 0, 1) := by decide +kernel
theorem dX11_due_23 : decode cX11_due 23 = .ok (.getfield 12, 3) := by decide +kernel
theorem dX11_due_26 : decode cX11_due 26 = .ok (.getfield 43, 3) := by decide +kernel
theorem dX11_due_29 : decode cX11_due 29 = .ok (.iload_n 1, 1) := by decide +kernel
theorem dX11_due_30 : decode cX11_due 30 = .ok (.invokevirtual 90, 3) := by decide +kernel
theorem dX11_due_33 : decode cX11_due 33 = .ok (.ifCond .eq 5, 3) := by decide +kernel
theorem dX11_due_36 : decode cX11_due 36 = .ok (.iconst (-1), 1) := by decide +kernel
theorem dX11_due_37 : decode cX11_due 37 = .ok (.ireturn, 1) := by decide +kernel
theorem dX11_end_0 : decode cX11_end 0 = .ok (.iload_n 1, 1) := by decide +kernel
theorem dX11_end_1 : decode cX11_end 1 = .ok (.iconst 0, 1) := by decide +kernel
theorem dX11_end_2 : decode cX11_end 2 = .ok (.aload_n 0, 1) := by decide +kernel
theorem dX11_end_3 : decode cX11_end 3 = .ok (.getfield 23, 3) := by decide +kernel
theorem dX11_end_6 : decode cX11_end 6 = .ok (.getfield 181, 3) := by decide +kernel
theorem dX11_end_9 : decode cX11_end 9 = .ok (.invokestatic 47, 3) := by decide +kernel
theorem dX11_end_12 : decode cX11_end 12 = .ok (.ifCond .eq 5, 3) := by decide +kernel
theorem dX11_end_15 : decode cX11_end 15 = .ok (.iconst (-1), 1) := by decide +kernel
theorem dX11_end_16 : decode cX11_end 16 = .ok (.ireturn, 1) := by decide +kernel
theorem dX11_end_17 : decode cX11_end 17 = .ok (.aload_n 0, 1) := by decide +kernel
theorem dX11_end_18 : decode cX11_end 18 = .ok (.getfield 23, 3) := by decide +kernel
theorem dX11_end_21 : decode cX11_end 21 = .ok (.iload_n 1, 1) := by decide +kernel
theorem dX11_end_22 : decode cX11_end 22 = .ok (.putfield 181, 3) := by decide +kernel
theorem dX11_end_25 : decode cX11_end 25 = .ok (.iload_n 1, 1) := by decide +kernel
theorem dX11_end_26 : decode cX11_end 26 = .ok (.ireturn, 1) := by decide +kernel
theorem dX11_failed_0 : decode cX11_failed 0 = .ok (.aload_n 0, 1) := by decide +kernel
theorem dX11_failed_1 : decode cX11_failed 1 = .ok (.getfield 12, 3) := by decide +kernel
theorem dX11_failed_4 : decode cX11_failed 4 = .ok (.getfield 43, 3) := by decide +kernel
theorem dX11_failed_7 : decode cX11_failed 7 = .ok (.astore_n 3, 1) := by decide +kernel
theorem dX11_failed_8 : decode cX11_failed 8 = .ok (.iload_n 1, 1) := by decide +kernel
theorem dX11_failed_9 : decode cX11_failed 9 = .ok (.iconst 0, 1) := by decide +kernel
theorem dX11_failed_10 : decode cX11_failed 10 = .ok (.bipush 7, 2) := by decide +kernel
theorem dX11_failed_12 : decode cX11_failed 12 = .ok (.invokestatic 47, 3) := by decide +kernel
theorem dX11_failed_15 : decode cX11_failed 15 = .ok (.ifCond .ne 10, 3) := by decide +kernel
theorem dX11_failed_18 : decode cX11_failed 18 = .ok (.iload_n 2, 1) := by decide +kernel
theorem dX11_failed_19 : decode cX11_failed 19 = .ok (.invokestatic 118, 3) := by decide +kernel
theorem dX11_failed_22 : decode cX11_failed 22 = .ok (.ifCond .eq 9, 3) := by decide +kernel
theorem dX11_failed_25 : decode cX11_failed 25 = .ok (.aload_n 0, 1) := by decide +kernel
theorem dX11_failed_26 : decode cX11_failed 26 = .ok (.iconst (-1), 1) := by decide +kernel
theorem dX11_failed_27 : decode cX11_failed 27 = .ok (.invokevirtual 55, 3) := by decide +kernel
theorem dX11_failed_30 : decode cX11_failed 30 = .ok (.ireturn, 1) := by decide +kernel
theorem dX11_failed_31 : decode cX11_failed 31 = .ok (.aload_n 3, 1) := by decide +kernel
theorem dX11_failed_32 : decode cX11_failed 32 = .ok (.iload_n 1, 1) := by decide +kernel
theorem dX11_failed_33 : decode cX11_failed 33 = .ok (.iload_n 2, 1) := by decide +kernel
theorem dX11_failed_34 : decode cX11_failed 34 = .ok (.invokevirtual 121, 3) := by decide +kernel
theorem dX11_failed_37 : decode cX11_failed 37 = .ok (.ifCond .eq 10, 3) := by decide +kernel
theorem dX11_failed_47 : decode cX11_failed 47 = .ok (.aload_n 3, 1) := by decide +kernel
theorem dX11_failed_48 : decode cX11_failed 48 = .ok (.getfield 124, 3) := by decide +kernel
theorem dX11_failed_51 : decode cX11_failed 51 = .ok (.bipush 60, 2) := by decide +kernel
theorem dX11_failed_53 : decode cX11_failed 53 = .ok (.if_icmp .lt 10, 3) := by decide +kernel
theorem dX11_failed_63 : decode cX11_failed 63 = .ok (.aload_n 0, 1) := by decide +kernel
theorem dX11_failed_64 : decode cX11_failed 64 = .ok (.aload_n 3, 1) := by decide +kernel
theorem dX11_failed_65 : decode cX11_failed 65 = .ok (.iload_n 1, 1) := by decide +kernel
theorem dX11_failed_66 : decode cX11_failed 66 = .ok (.iload_n 2, 1) := by decide +kernel
theorem dX11_failed_67 : decode cX11_failed 67 = .ok (.invokevirtual 127, 3) := by decide +kernel
theorem dX11_failed_70 : decode cX11_failed 70 = .ok (.invokevirtual 55, 3) := by decide +kernel
theorem dX11_failed_73 : decode cX11_failed 73 = .ok (.ireturn, 1) := by decide +kernel
theorem dX11_fault_0 : decode cX11_fault 0 = .ok (.aload_n 0, 1) := by decide +kernel
theorem dX11_fault_1 : decode cX11_fault 1 = .ok (.getfield 23, 3) := by decide +kernel
theorem dX11_fault_4 : decode cX11_fault 4 = .ok (.getfield 204, 3) := by decide +kernel
theorem dX11_fault_7 : decode cX11_fault 7 = .ok (.ireturn, 1) := by decide +kernel
theorem dX11_feed_0 : decode cX11_feed 0 = .ok (.aload_n 0, 1) := by decide +kernel
theorem dX11_feed_1 : decode cX11_feed 1 = .ok (.getfield 23, 3) := by decide +kernel
theorem dX11_feed_4 : decode cX11_feed 4 = .ok (.getfield 181, 3) := by decide +kernel
theorem dX11_feed_7 : decode cX11_feed 7 = .ok (.sipush 380, 3) := by decide +kernel
theorem dX11_feed_10 : decode cX11_feed 10 = .ok (.if_icmp .le 5, 3) := by decide +kernel
theorem dX11_feed_15 : decode cX11_feed 15 = .ok (.aload_n 0, 1) := by decide +kernel
theorem dX11_feed_16 : decode cX11_feed 16 = .ok (.getfield 23, 3) := by decide +kernel
theorem dX11_feed_19 : decode cX11_feed 19 = .ok (.iload_n 1, 1) := by decide +kernel
theorem dX11_feed_20 : decode cX11_feed 20 = .ok (.invokevirtual 184, 3) := by decide +kernel
theorem dX11_feed_23 : decode cX11_feed 23 = .ok (.aload_n 0, 1) := by decide +kernel
theorem dX11_feed_24 : decode cX11_feed 24 = .ok (.getfield 23, 3) := by decide +kernel
theorem dX11_feed_27 : decode cX11_feed 27 = .ok (.iload_n 2, 1) := by decide +kernel
theorem dX11_feed_28 : decode cX11_feed 28 = .ok (.invokevirtual 184, 3) := by decide +kernel
theorem dX11_feed_31 : decode cX11_feed 31 = .ok (.aload_n 0, 1) := by decide +kernel
theorem dX11_feed_32 : decode cX11_feed 32 = .ok (.getfield 23, 3) := by decide +kernel
theorem dX11_feed_35 : decode cX11_feed 35 = .ok (.iload_n 3, 1) := by decide +kernel
theorem dX11_feed_36 : decode cX11_feed 36 = .ok (.invokevirtual 184, 3) := by decide +kernel
theorem dX11_feed_39 : decode cX11_feed 39 = .ok (.aload_n 0, 1) := by decide +kernel
theorem dX11_feed_40 : decode cX11_feed 40 = .ok (.getfield 23, 3) := by decide +kernel
theorem dX11_feed_43 : decode cX11_feed 43 = .ok (.iload 4, 2) := by decide +kernel
theorem dX11_feed_45 : decode cX11_feed 45 = .ok (.invokevirtual 184, 3) := by decide +kernel
theorem dX11_feed_48 : decode cX11_feed 48 = .ok (.aload_n 0, 1) := by decide +kernel
theorem dX11_feed_49 : decode cX11_feed 49 = .ok (.getfield 23, 3) := by decide +kernel
theorem dX11_feed_52 : decode cX11_feed 52 = .ok (.iload 5, 2) := by decide +kernel
theorem dX11_feed_54 : decode cX11_feed 54 = .ok (.invokevirtual 184, 3) := by decide +kernel
theorem dX11_feed_57 : decode cX11_feed 57 = .ok (.aload_n 0, 1) := by decide +kernel
theorem dX11_feed_58 : decode cX11_feed 58 = .ok (.getfield 23, 3) := by decide +kernel
theorem dX11_feed_61 : decode cX11_feed 61 = .ok (.getfield 181, 3) := by decide +kernel
theorem dX11_feed_64 : decode cX11_feed 64 = .ok (.ireturn, 1) := by decide +kernel
theorem dX11_fine_0 : decode cX11_fine 0 = .ok (.iload_n 2, 1) := by decide +kernel
theorem dX11_fine_1 : decode cX11_fine 1 = .ok (.invokestatic 220, 3) := by decide +kernel
theorem dX11_fine_4 : decode cX11_fine 4 = .ok (.ifCond .ne 34, 3) := by decide +kernel
theorem dX11_fine_7 : decode cX11_fine 7 = .ok (.iload_n 3, 1) := by decide +kernel
theorem dX11_fine_8 : decode cX11_fine 8 = .ok (.invokestatic 72, 3) := by decide +kernel
theorem dX11_fine_11 : decode cX11_fine 11 = .ok (.ifCond .ne 27, 3) := by decide +kernel
theorem dX11_fine_14 : decode cX11_fine 14 = .ok (.iload 4, 2) := by decide +kernel
theorem dX11_fine_16 : decode cX11_fine 16 = .ok (.iconst 0, 1) := by decide +kernel
theorem dX11_fine_17 : decode cX11_fine 17 = .ok (.iconst 2, 1) := by decide +kernel
theorem dX11_fine_18 : decode cX11_fine 18 = .ok (.invokestatic 47, 3) := by decide +kernel
theorem dX11_fine_21 : decode cX11_fine 21 = .ok (.ifCond .ne 17, 3) := by decide +kernel
theorem dX11_fine_24 : decode cX11_fine 24 = .ok (.aload_n 0, 1) := by decide +kernel
theorem dX11_fine_25 : decode cX11_fine 25 = .ok (.getfield 12, 3) := by decide +kernel
theorem dX11_fine_28 : decode cX11_fine 28 = .ok (.getfield 43, 3) := by decide +kernel
theorem dX11_fine_31 : decode cX11_fine 31 = .ok (.iload_n 1, 1) := by decide +kernel
theorem dX11_fine_32 : decode cX11_fine 32 = .ok (.invokevirtual 90, 3) := by decide +kernel
theorem dX11_fine_35 : decode cX11_fine 35 = .ok (.ifCond .eq 5, 3) := by decide +kernel
theorem dX11_fine_38 : decode cX11_fine 38 = .ok (.iconst (-1), 1) := by decide +kernel
theorem dX11_fine_39 : decode cX11_fine 39 = .ok (.ireturn, 1) := by decide +kernel
theorem dX11_force_0 : decode cX11_force 0 = .ok (.iload_n 3, 1) := by decide +kernel
theorem dX11_force_1 : decode cX11_force 1 = .ok (.invokestatic 72, 3) := by decide +kernel
theorem dX11_force_4 : decode cX11_force 4 = .ok (.ifCond .eq 5, 3) := by decide +kernel
theorem dX11_force_7 : decode cX11_force 7 = .ok (.iconst (-1), 1) := by decide +kernel
theorem dX11_force_8 : decode cX11_force 8 = .ok (.ireturn, 1) := by decide +kernel
theorem dX11_force_9 : decode cX11_force 9 = .ok (.aload_n 0, 1) := by decide +kernel
theorem dX11_force_10 : decode cX11_force 10 = .ok (.getfield 32, 3) := by decide +kernel
theorem dX11_force_13 : decode cX11_force 13 = .ok (.iload_n 1, 1) := by decide +kernel
theorem dX11_force_14 : decode cX11_force 14 = .ok (.iload_n 2, 1) := by decide +kernel
theorem dX11_force_15 : decode cX11_force 15 = .ok (.iload_n 3, 1) := by decide +kernel
theorem dX11_force_16 : decode cX11_force 16 = .ok (.invokevirtual 207, 3) := by decide +kernel
theorem dX11_force_19 : decode cX11_force 19 = .ok (.ireturn, 1) := by decide +kernel
theorem dX11_found_0 : decode cX11_found 0 = .ok (.iload_n 1, 1) := by decide +kernel
theorem dX11_found_1 : decode cX11_found 1 = .ok (.invokestatic 72, 3) := by decide +kernel
theorem dX11_found_4 : decode cX11_found 4 = .ok (.ifCond .eq 8, 3) := by decide +kernel
theorem dX11_found_7 : decode cX11_found 7 = .ok (.bipush (-3), 2) := by decide +kernel
theorem dX11_found_9 : decode cX11_found 9 = .ok (.goto 14, 3) := by decide +kernel
theorem dX11_found_12 : decode cX11_found 12 = .ok (.aload_n 0, 1) := by decide +kernel
theorem dX11_found_13 : decode cX11_found 13 = .ok (.getfield 12, 3) := by decide +kernel
theorem dX11_found_16 : decode cX11_found 16 = .ok (.getfield 137, 3) := by decide +kernel
theorem dX11_found_19 : decode cX11_found 19 = .ok (.iload_n 1, 1) := by decide +kernel
theorem dX11_found_20 : decode cX11_found 20 = .ok (.invokevirtual 377, 3) := by decide +kernel
theorem dX11_found_23 : decode cX11_found 23 = .ok (.ireturn, 1) := by decide +kernel
theorem dX11_goes_0 : decode cX11_goes 0 = .ok (.aload_n 0, 1) := by decide +kernel
theorem dX11_goes_1 : decode cX11_goes 1 = .ok (.getfield 12, 3) := by decide +kernel
theorem dX11_goes_4 : decode cX11_goes 4 = .ok (.getfield 86, 3) := by decide +kernel
theorem dX11_goes_7 : decode cX11_goes 7 = .ok (.astore 5, 2) := by decide +kernel
theorem dX11_goes_9 : decode cX11_goes 9 = .ok (.iload_n 3, 1) := by decide +kernel
theorem dX11_goes_10 : decode cX11_goes 10 = .ok (.invokestatic 72, 3) := by decide +kernel
theorem dX11_goes_13 : decode cX11_goes 13 = .ok (.ifCond .ne 24, 3) := by decide +kernel
theorem dX11_goes_16 : decode cX11_goes 16 = .ok (.iload 4, 2) := by decide +kernel
theorem dX11_goes_18 : decode cX11_goes 18 = .ok (.iconst (-1), 1) := by decide +kernel
theorem dX11_goes_19 : decode cX11_goes 19 = .ok (.if_icmp .eq 24, 3) := by decide +kernel
theorem dX11_goes_22 : decode cX11_goes 22 = .ok (.aload_n 0, 1) := by decide +kernel
theorem dX11_goes_23 : decode cX11_goes 23 = .ok (.getfield 12, 3) := by decide +kernel
theorem dX11_goes_26 : decode cX11_goes 26 = .ok (.getfield 43, 3) := by decide +kernel
theorem dX11_goes_29 : decode cX11_goes 29 = .ok (.iload 4, 2) := by decide +kernel
theorem dX11_goes_31 : decode cX11_goes 31 = .ok (.invokevirtual 76, 3) := by decide +kernel
theorem dX11_goes_34 : decode cX11_goes 34 = .ok (.ifCond .eq 9, 3) := by decide +kernel
theorem dX11_goes_37 : decode cX11_goes 37 = .ok (.aload_n 0, 1) := by decide +kernel
theorem dX11_goes_38 : decode cX11_goes 38 = .ok (.iconst (-1), 1) := by decide +kernel
theorem dX11_goes_39 : decode cX11_goes 39 = .ok (.invokevirtual 55, 3) := by decide +kernel
theorem dX11_goes_42 : decode cX11_goes 42 = .ok (.ireturn, 1) := by decide +kernel
theorem dX11_goes_43 : decode cX11_goes 43 = .ok (.aload_n 0, 1) := by decide +kernel
theorem dX11_goes_44 : decode cX11_goes 44 = .ok (.getfield 12, 3) := by decide +kernel
theorem dX11_goes_47 : decode cX11_goes 47 = .ok (.getfield 43, 3) := by decide +kernel
theorem dX11_goes_50 : decode cX11_goes 50 = .ok (.iload_n 1, 1) := by decide +kernel
theorem dX11_goes_51 : decode cX11_goes 51 = .ok (.invokevirtual 90, 3) := by decide +kernel
theorem dX11_goes_54 : decode cX11_goes 54 = .ok (.ifCond .ne 17, 3) := by decide +kernel
theorem dX11_goes_71 : decode cX11_goes 71 = .ok (.aload_n 0, 1) := by decide +kernel
theorem dX11_goes_72 : decode cX11_goes 72 = .ok (.bipush (-2), 2) := by decide +kernel
theorem dX11_goes_74 : decode cX11_goes 74 = .ok (.invokevirtual 55, 3) := by decide +kernel
theorem dX11_goes_77 : decode cX11_goes 77 = .ok (.ireturn, 1) := by decide +kernel
theorem dX11_has_0 : decode cX11_has 0 = .ok (.aload_n 0, 1) := by decide +kernel
theorem dX11_has_1 : decode cX11_has 1 = .ok (.getfield 12, 3) := by decide +kernel
theorem dX11_has_4 : decode cX11_has 4 = .ok (.getfield 43, 3) := by decide +kernel
theorem dX11_has_7 : decode cX11_has 7 = .ok (.astore 5, 2) := by decide +kernel
theorem dX11_has_9 : decode cX11_has 9 = .ok (.iload_n 2, 1) := by decide +kernel
theorem dX11_has_10 : decode cX11_has 10 = .ok (.iconst 0, 1) := by decide +kernel
theorem dX11_has_11 : decode cX11_has 11 = .ok (.iconst 1, 1) := by decide +kernel
theorem dX11_has_12 : decode cX11_has 12 = .ok (.invokestatic 47, 3) := by decide +kernel
theorem dX11_has_15 : decode cX11_has 15 = .ok (.ifCond .ne 24, 3) := by decide +kernel
theorem dX11_has_18 : decode cX11_has 18 = .ok (.iload_n 3, 1) := by decide +kernel
theorem dX11_has_19 : decode cX11_has 19 = .ok (.invokestatic 72, 3) := by decide +kernel
theorem dX11_has_22 : decode cX11_has 22 = .ok (.ifCond .ne 17, 3) := by decide +kernel
theorem dX11_has_25 : decode cX11_has 25 = .ok (.iload 4, 2) := by decide +kernel
theorem dX11_has_27 : decode cX11_has 27 = .ok (.invokestatic 72, 3) := by decide +kernel
theorem dX11_has_30 : decode cX11_has 30 = .ok (.ifCond .ne 9, 3) := by decide +kernel
theorem dX11_has_33 : decode cX11_has 33 = .ok (.iload_n 3, 1) := by decide +kernel
theorem dX11_has_34 : decode cX11_has 34 = .ok (.iload 4, 2) := by decide +kernel
theorem dX11_has_36 : decode cX11_has 36 = .ok (.if_icmp .le 9, 3) := by decide +kernel
theorem dX11_has_39 : decode cX11_has 39 = .ok (.aload_n 0, 1) := by decide +kernel
theorem dX11_has_40 : decode cX11_has 40 = .ok (.iconst (-1), 1) := by decide +kernel
theorem dX11_has_41 : decode cX11_has 41 = .ok (.invokevirtual 55, 3) := by decide +kernel
theorem dX11_has_44 : decode cX11_has 44 = .ok (.ireturn, 1) := by decide +kernel
theorem dX11_has_45 : decode cX11_has 45 = .ok (.aload 5, 2) := by decide +kernel
theorem dX11_has_47 : decode cX11_has 47 = .ok (.iload_n 1, 1) := by decide +kernel
theorem dX11_has_48 : decode cX11_has 48 = .ok (.invokevirtual 90, 3) := by decide +kernel
theorem dX11_has_51 : decode cX11_has 51 = .ok (.ifCond .eq 10, 3) := by decide +kernel
theorem dX11_has_54 : decode cX11_has 54 = .ok (.aload_n 0, 1) := by decide +kernel
theorem dX11_has_55 : decode cX11_has 55 = .ok (.bipush (-2), 2) := by decide +kernel
theorem dX11_has_57 : decode cX11_has 57 = .ok (.invokevirtual 55, 3) := by decide +kernel
theorem dX11_has_60 : decode cX11_has 60 = .ok (.ireturn, 1) := by decide +kernel
theorem dX11_helped_0 : decode cX11_helped 0 = .ok (.iload_n 1, 1) := by decide +kernel
theorem dX11_helped_1 : decode cX11_helped 1 = .ok (.iconst 0, 1) := by decide +kernel
theorem dX11_helped_2 : decode cX11_helped 2 = .ok (.iconst 1, 1) := by decide +kernel
theorem dX11_helped_3 : decode cX11_helped 3 = .ok (.invokestatic 47, 3) := by decide +kernel
theorem dX11_helped_6 : decode cX11_helped 6 = .ok (.ifCond .eq 7, 3) := by decide +kernel
theorem dX11_helped_9 : decode cX11_helped 9 = .ok (.iconst (-1), 1) := by decide +kernel
theorem dX11_helped_10 : decode cX11_helped 10 = .ok (.goto 19, 3) := by decide +kernel
theorem dX11_helped_13 : decode cX11_helped 13 = .ok (.aload_n 0, 1) := by decide +kernel
theorem dX11_helped_14 : decode cX11_helped 14 = .ok (.getfield 39, 3) := by decide +kernel
theorem dX11_helped_17 : decode cX11_helped 17 = .ok (.iload_n 1, 1) := by decide +kernel
theorem dX11_helped_18 : decode cX11_helped 18 = .ok (.ifCond .ne 7, 3) := by decide +kernel
theorem dX11_helped_21 : decode cX11_helped 21 = .ok (.iconst 1, 1) := by decide +kernel
theorem dX11_helped_22 : decode cX11_helped 22 = .ok (.goto 4, 3) := by decide +kernel
theorem dX11_helped_25 : decode cX11_helped 25 = .ok (.iconst 0, 1) := by decide +kernel
theorem dX11_helped_26 : decode cX11_helped 26 = .ok (.invokevirtual 361, 3) := by decide +kernel
theorem dX11_helped_29 : decode cX11_helped 29 = .ok (.ireturn, 1) := by decide +kernel
theorem dX11_image_0 : decode cX11_image 0 = .ok (.iload_n 1, 1) := by decide +kernel
theorem dX11_image_1 : decode cX11_image 1 = .ok (.iconst 0, 1) := by decide +kernel
theorem dX11_image_2 : decode cX11_image 2 = .ok (.iconst 1, 1) := by decide +kernel
theorem dX11_image_3 : decode cX11_image 3 = .ok (.invokestatic 47, 3) := by decide +kernel
theorem dX11_image_6 : decode cX11_image 6 = .ok (.ifCond .eq 9, 3) := by decide +kernel
theorem dX11_image_9 : decode cX11_image 9 = .ok (.aload_n 0, 1) := by decide +kernel
theorem dX11_image_10 : decode cX11_image 10 = .ok (.iconst (-1), 1) := by decide +kernel
theorem dX11_image_11 : decode cX11_image 11 = .ok (.invokevirtual 55, 3) := by decide +kernel
theorem dX11_image_14 : decode cX11_image 14 = .ok (.ireturn, 1) := by decide +kernel
theorem dX11_image_15 : decode cX11_image 15 = .ok (.aload_n 0, 1) := by decide +kernel
theorem dX11_image_16 : decode cX11_image 16 = .ok (.getfield 16, 3) := by decide +kernel
theorem dX11_image_19 : decode cX11_image 19 = .ok (.iload_n 1, 1) := by decide +kernel
theorem dX11_image_20 : decode cX11_image 20 = .ok (.aaload, 1) := by decide +kernel
theorem dX11_image_21 : decode cX11_image 21 = .ok (.ifnonnull 16, 3) := by decide +kernel
theorem dX11_image_24 : decode cX11_image 24 = .ok (.aload_n 0, 1) := by decide +kernel
theorem dX11_image_25 : decode cX11_image 25 = .ok (.getfield 16, 3) := by decide +kernel
theorem dX11_image_28 : decode cX11_image 28 = .ok (.iload_n 1, 1) := by decide +kernel
theorem dX11_image_29 : decode cX11_image 29 = .ok (.new 9, 3) := by decide +kernel
theorem dX11_image_32 : decode cX11_image 32 = .ok (.dup, 1) := by decide +kernel
theorem dX11_image_33 : decode cX11_image 33 = .ok (.invokespecial 11, 3) := by decide +kernel
theorem dX11_image_36 : decode cX11_image 36 = .ok (.aastore, 1) := by decide +kernel
theorem dX11_image_37 : decode cX11_image 37 = .ok (.aload_n 0, 1) := by decide +kernel
theorem dX11_image_38 : decode cX11_image 38 = .ok (.getfield 16, 3) := by decide +kernel
theorem dX11_image_41 : decode cX11_image 41 = .ok (.iload_n 1, 1) := by decide +kernel
theorem dX11_image_42 : decode cX11_image 42 = .ok (.aaload, 1) := by decide +kernel
theorem dX11_image_43 : decode cX11_image 43 = .ok (.aload_n 0, 1) := by decide +kernel
theorem dX11_image_44 : decode cX11_image 44 = .ok (.getfield 12, 3) := by decide +kernel
theorem dX11_image_47 : decode cX11_image 47 = .ok (.invokevirtual 380, 3) := by decide +kernel
theorem dX11_image_50 : decode cX11_image 50 = .ok (.aload_n 0, 1) := by decide +kernel
theorem dX11_image_51 : decode cX11_image 51 = .ok (.iconst 0, 1) := by decide +kernel
theorem dX11_image_52 : decode cX11_image 52 = .ok (.invokevirtual 55, 3) := by decide +kernel
theorem dX11_image_55 : decode cX11_image 55 = .ok (.ireturn, 1) := by decide +kernel
theorem dX11_init_0 : decode cX11_init 0 = .ok (.aload_n 0, 1) := by decide +kernel
theorem dX11_init_1 : decode cX11_init 1 = .ok (.invokespecial 3, 3) := by decide +kernel
theorem dX11_init_4 : decode cX11_init 4 = .ok (.aload_n 0, 1) := by decide +kernel
theorem dX11_init_5 : decode cX11_init 5 = .ok (.new 9, 3) := by decide +kernel
theorem dX11_init_8 : decode cX11_init 8 = .ok (.dup, 1) := by decide +kernel
theorem dX11_init_9 : decode cX11_init 9 = .ok (.invokespecial 11, 3) := by decide +kernel
theorem dX11_init_12 : decode cX11_init 12 = .ok (.putfield 12, 3) := by decide +kernel
theorem dX11_init_15 : decode cX11_init 15 = .ok (.aload_n 0, 1) := by decide +kernel
theorem dX11_init_16 : decode cX11_init 16 = .ok (.iconst 2, 1) := by decide +kernel
theorem dX11_init_17 : decode cX11_init 17 = .ok (.anewarray 9, 3) := by decide +kernel
theorem dX11_init_20 : decode cX11_init 20 = .ok (.putfield 16, 3) := by decide +kernel
theorem dX11_init_23 : decode cX11_init 23 = .ok (.aload_n 0, 1) := by decide +kernel
theorem dX11_init_24 : decode cX11_init 24 = .ok (.new 20, 3) := by decide +kernel
theorem dX11_init_27 : decode cX11_init 27 = .ok (.dup, 1) := by decide +kernel
theorem dX11_init_28 : decode cX11_init 28 = .ok (.invokespecial 22, 3) := by decide +kernel
theorem dX11_init_31 : decode cX11_init 31 = .ok (.putfield 23, 3) := by decide +kernel
theorem dX11_init_34 : decode cX11_init 34 = .ok (.aload_n 0, 1) := by decide +kernel
theorem dX11_init_35 : decode cX11_init 35 = .ok (.new 27, 3) := by decide +kernel
theorem dX11_init_38 : decode cX11_init 38 = .ok (.dup, 1) := by decide +kernel
theorem dX11_init_39 : decode cX11_init 39 = .ok (.aload_n 0, 1) := by decide +kernel
theorem dX11_init_40 : decode cX11_init 40 = .ok (.getfield 12, 3) := by decide +kernel
theorem dX11_init_43 : decode cX11_init 43 = .ok (.invokespecial 29, 3) := by decide +kernel
theorem dX11_init_46 : decode cX11_init 46 = .ok (.putfield 32, 3) := by decide +kernel
theorem dX11_init_49 : decode cX11_init 49 = .ok (.aload_n 0, 1) := by decide +kernel
theorem dX11_init_50 : decode cX11_init 50 = .ok (.new 36, 3) := by decide +kernel
theorem dX11_init_53 : decode cX11_init 53 = .ok (.dup, 1) := by decide +kernel
theorem dX11_init_54 : decode cX11_init 54 = .ok (.aload_n 0, 1) := by decide +kernel
theorem dX11_init_55 : decode cX11_init 55 = .ok (.getfield 12, 3) := by decide +kernel
theorem dX11_init_58 : decode cX11_init 58 = .ok (.invokespecial 38, 3) := by decide +kernel
theorem dX11_init_61 : decode cX11_init 61 = .ok (.putfield 39, 3) := by decide +kernel
theorem dX11_init_64 : decode cX11_init 64 = .ok (.return_, 1) := by decide +kernel
theorem dX11_isNoDay_0 : decode cX11_isNoDay 0 = .ok (.iload_n 0, 1) := by decide +kernel
theorem dX11_isNoDay_1 : decode cX11_isNoDay 1 = .ok (.ifCond .lt 10, 3) := by decide +kernel
theorem dX11_isNoDay_4 : decode cX11_isNoDay 4 = .ok (.iload_n 0, 1) := by decide +kernel
theorem dX11_isNoDay_5 : decode cX11_isNoDay 5 = .ok (.sipush 400, 3) := by decide +kernel
theorem dX11_isNoDay_8 : decode cX11_isNoDay 8 = .ok (.if_icmp .lt 7, 3) := by decide +kernel
theorem dX11_isNoDay_11 : decode cX11_isNoDay 11 = .ok (.iconst 1, 1) := by decide +kernel
theorem dX11_isNoDay_12 : decode cX11_isNoDay 12 = .ok (.goto 4, 3) := by decide +kernel
theorem dX11_isNoDay_15 : decode cX11_isNoDay 15 = .ok (.iconst 0, 1) := by decide +kernel
theorem dX11_isNoDay_16 : decode cX11_isNoDay 16 = .ok (.ireturn, 1) := by decide +kernel
theorem dX11_isNoHalf_0 : decode cX11_isNoHalf 0 = .ok (.iload_n 0, 1) := by decide +kernel
theorem dX11_isNoHalf_1 : decode cX11_isNoHalf 1 = .ok (.ifCond .lt 10, 3) := by decide +kernel
theorem dX11_isNoHalf_4 : decode cX11_isNoHalf 4 = .ok (.iload_n 0, 1) := by decide +kernel
theorem dX11_isNoHalf_5 : decode cX11_isNoHalf 5 = .ok (.sipush 800, 3) := by decide +kernel
theorem dX11_isNoHalf_8 : decode cX11_isNoHalf 8 = .ok (.if_icmp .lt 7, 3) := by decide +kernel
theorem dX11_isNoHalf_11 : decode cX11_isNoHalf 11 = .ok (.iconst 1, 1) := by decide +kernel
theorem dX11_isNoHalf_12 : decode cX11_isNoHalf 12 = .ok (.goto 4, 3) := by decide +kernel
theorem dX11_isNoHalf_15 : decode cX11_isNoHalf 15 = .ok (.iconst 0, 1) := by decide +kernel
theorem dX11_isNoHalf_16 : decode cX11_isNoHalf 16 = .ok (.ireturn, 1) := by decide +kernel
theorem dX11_isNoPlace_0 : decode cX11_isNoPlace 0 = .ok (.iload_n 0, 1) := by decide +kernel
theorem dX11_isNoPlace_1 : decode cX11_isNoPlace 1 = .ok (.iconst 0, 1) := by decide +kernel
theorem dX11_isNoPlace_2 : decode cX11_isNoPlace 2 = .ok (.bipush 99, 2) := by decide +kernel
theorem dX11_isNoPlace_4 : decode cX11_isNoPlace 4 = .ok (.invokestatic 47, 3) := by decide +kernel
theorem dX11_isNoPlace_7 : decode cX11_isNoPlace 7 = .ok (.ifCond .ne 13, 3) := by decide +kernel
theorem dX11_isNoPlace_10 : decode cX11_isNoPlace 10 = .ok (.iload_n 1, 1) := by decide +kernel
theorem dX11_isNoPlace_11 : decode cX11_isNoPlace 11 = .ok (.iconst 0, 1) := by decide +kernel
theorem dX11_isNoPlace_12 : decode cX11_isNoPlace 12 = .ok (.bipush 99, 2) := by decide +kernel
theorem dX11_isNoPlace_14 : decode cX11_isNoPlace 14 = .ok (.invokestatic 47, 3) := by decide +kernel
theorem dX11_isNoPlace_17 : decode cX11_isNoPlace 17 = .ok (.ifCond .eq 7, 3) := by decide +kernel
theorem dX11_isNoPlace_20 : decode cX11_isNoPlace 20 = .ok (.iconst 1, 1) := by decide +kernel
theorem dX11_isNoPlace_21 : decode cX11_isNoPlace 21 = .ok (.goto 4, 3) := by decide +kernel
theorem dX11_isNoPlace_24 : decode cX11_isNoPlace 24 = .ok (.iconst 0, 1) := by decide +kernel
theorem dX11_isNoPlace_25 : decode cX11_isNoPlace 25 = .ok (.ireturn, 1) := by decide +kernel
theorem dX11_isNoStep_0 : decode cX11_isNoStep 0 = .ok (.iload_n 0, 1) := by decide +kernel
theorem dX11_isNoStep_1 : decode cX11_isNoStep 1 = .ok (.ifCond .lt 8, 3) := by decide +kernel
theorem dX11_isNoStep_4 : decode cX11_isNoStep 4 = .ok (.iload_n 0, 1) := by decide +kernel
theorem dX11_isNoStep_5 : decode cX11_isNoStep 5 = .ok (.iconst 4, 1) := by decide +kernel
theorem dX11_isNoStep_6 : decode cX11_isNoStep 6 = .ok (.if_icmp .lt 7, 3) := by decide +kernel
theorem dX11_isNoStep_9 : decode cX11_isNoStep 9 = .ok (.iconst 1, 1) := by decide +kernel
theorem dX11_isNoStep_10 : decode cX11_isNoStep 10 = .ok (.goto 4, 3) := by decide +kernel
theorem dX11_isNoStep_13 : decode cX11_isNoStep 13 = .ok (.iconst 0, 1) := by decide +kernel
theorem dX11_isNoStep_14 : decode cX11_isNoStep 14 = .ok (.ireturn, 1) := by decide +kernel
theorem dX11_isOn_0 : decode cX11_isOn 0 = .ok (.iload_n 3, 1) := by decide +kernel
theorem dX11_isOn_1 : decode cX11_isOn 1 = .ok (.invokestatic 72, 3) := by decide +kernel
theorem dX11_isOn_4 : decode cX11_isOn 4 = .ok (.ifCond .ne 31, 3) := by decide +kernel
theorem dX11_isOn_7 : decode cX11_isOn 7 = .ok (.aload_n 0, 1) := by decide +kernel
theorem dX11_isOn_8 : decode cX11_isOn 8 = .ok (.getfield 12, 3) := by decide +kernel
theorem dX11_isOn_11 : decode cX11_isOn 11 = .ok (.getfield 43, 3) := by decide +kernel
theorem dX11_isOn_14 : decode cX11_isOn 14 = .ok (.iload_n 1, 1) := by decide +kernel
theorem dX11_isOn_15 : decode cX11_isOn 15 = .ok (.invokevirtual 90, 3) := by decide +kernel
theorem dX11_isOn_18 : decode cX11_isOn 18 = .ok (.ifCond .ne 17, 3) := by decide +kernel
theorem dX11_isOn_35 : decode cX11_isOn 35 = .ok (.iconst (-1), 1) := by decide +kernel
theorem dX11_isOn_36 : decode cX11_isOn 36 = .ok (.ireturn, 1) := by decide +kernel
theorem dX11_isOutside_0 : decode cX11_isOutside 0 = .ok (.iload_n 0, 1) := by decide +kernel
theorem dX11_isOutside_1 : decode cX11_isOutside 1 = .ok (.iload_n 1, 1) := by decide +kernel
theorem dX11_isOutside_2 : decode cX11_isOutside 2 = .ok (.if_icmp .lt 8, 3) := by decide +kernel
theorem dX11_isOutside_5 : decode cX11_isOutside 5 = .ok (.iload_n 0, 1) := by decide +kernel
theorem dX11_isOutside_6 : decode cX11_isOutside 6 = .ok (.iload_n 2, 1) := by decide +kernel
theorem dX11_isOutside_7 : decode cX11_isOutside 7 = .ok (.if_icmp .le 7, 3) := by decide +kernel
theorem dX11_isOutside_10 : decode cX11_isOutside 10 = .ok (.iconst 1, 1) := by decide +kernel
theorem dX11_isOutside_11 : decode cX11_isOutside 11 = .ok (.goto 4, 3) := by decide +kernel
theorem dX11_isOutside_14 : decode cX11_isOutside 14 = .ok (.iconst 0, 1) := by decide +kernel
theorem dX11_isOutside_15 : decode cX11_isOutside 15 = .ok (.ireturn, 1) := by decide +kernel
theorem dX11_join_0 : decode cX11_join 0 = .ok (.iload_n 1, 1) := by decide +kernel
theorem dX11_join_1 : decode cX11_join 1 = .ok (.iconst 0, 1) := by decide +kernel
theorem dX11_join_2 : decode cX11_join 2 = .ok (.bipush 8, 2) := by decide +kernel
theorem dX11_join_4 : decode cX11_join 4 = .ok (.invokestatic 47, 3) := by decide +kernel
theorem dX11_join_7 : decode cX11_join 7 = .ok (.ifCond .eq 5, 3) := by decide +kernel
theorem dX11_join_10 : decode cX11_join 10 = .ok (.iconst (-1), 1) := by decide +kernel
theorem dX11_join_11 : decode cX11_join 11 = .ok (.ireturn, 1) := by decide +kernel
theorem dX11_join_12 : decode cX11_join 12 = .ok (.aload_n 0, 1) := by decide +kernel
theorem dX11_join_13 : decode cX11_join 13 = .ok (.getfield 39, 3) := by decide +kernel
theorem dX11_join_16 : decode cX11_join 16 = .ok (.iload_n 1, 1) := by decide +kernel
theorem dX11_join_17 : decode cX11_join 17 = .ok (.invokevirtual 291, 3) := by decide +kernel
theorem dX11_join_20 : decode cX11_join 20 = .ok (.ireturn, 1) := by decide +kernel
theorem dX11_joined_0 : decode cX11_joined 0 = .ok (.iload_n 1, 1) := by decide +kernel
theorem dX11_joined_1 : decode cX11_joined 1 = .ok (.iconst (-1), 1) := by decide +kernel
theorem dX11_joined_2 : decode cX11_joined 2 = .ok (.if_icmp .ne 11, 3) := by decide +kernel
theorem dX11_joined_5 : decode cX11_joined 5 = .ok (.aload_n 0, 1) := by decide +kernel
theorem dX11_joined_6 : decode cX11_joined 6 = .ok (.getfield 39, 3) := by decide +kernel
theorem dX11_joined_9 : decode cX11_joined 9 = .ok (.getfield 294, 3) := by decide +kernel
theorem dX11_joined_12 : decode cX11_joined 12 = .ok (.ireturn, 1) := by decide +kernel
theorem dX11_joined_13 : decode cX11_joined 13 = .ok (.iload_n 1, 1) := by decide +kernel
theorem dX11_joined_14 : decode cX11_joined 14 = .ok (.iconst 0, 1) := by decide +kernel
theorem dX11_joined_15 : decode cX11_joined 15 = .ok (.aload_n 0, 1) := by decide +kernel
theorem dX11_joined_16 : decode cX11_joined 16 = .ok (.getfield 39, 3) := by decide +kernel
theorem dX11_joined_19 : decode cX11_joined 19 = .ok (.getfield 297, 3) := by decide +kernel
theorem dX11_joined_22 : decode cX11_joined 22 = .ok (.iconst 1, 1) := by decide +kernel
theorem dX11_joined_23 : decode cX11_joined 23 = .ok (.isub, 1) := by decide +kernel
theorem dX11_joined_24 : decode cX11_joined 24 = .ok (.invokestatic 47, 3) := by decide +kernel
theorem dX11_joined_27 : decode cX11_joined 27 = .ok (.ifCond .eq 7, 3) := by decide +kernel
theorem dX11_joined_30 : decode cX11_joined 30 = .ok (.iconst (-1), 1) := by decide +kernel
theorem dX11_joined_31 : decode cX11_joined 31 = .ok (.goto 12, 3) := by decide +kernel
theorem dX11_joined_43 : decode cX11_joined 43 = .ok (.ireturn, 1) := by decide +kernel
theorem dX11_judge_0 : decode cX11_judge 0 = .ok (.iload_n 1, 1) := by decide +kernel
theorem dX11_judge_1 : decode cX11_judge 1 = .ok (.ifCond .lt 13, 3) := by decide +kernel
theorem dX11_judge_4 : decode cX11_judge 4 = .ok (.iload_n 2, 1) := by decide +kernel
theorem dX11_judge_5 : decode cX11_judge 5 = .ok (.iconst 0, 1) := by decide +kernel
theorem dX11_judge_6 : decode cX11_judge 6 = .ok (.bipush 8, 2) := by decide +kernel
theorem dX11_judge_8 : decode cX11_judge 8 = .ok (.invokestatic 47, 3) := by decide +kernel
theorem dX11_judge_11 : decode cX11_judge 11 = .ok (.ifCond .eq 5, 3) := by decide +kernel
theorem dX11_judge_14 : decode cX11_judge 14 = .ok (.iconst (-1), 1) := by decide +kernel
theorem dX11_judge_15 : decode cX11_judge 15 = .ok (.ireturn, 1) := by decide +kernel
theorem dX11_judge_16 : decode cX11_judge 16 = .ok (.aload_n 0, 1) := by decide +kernel
theorem dX11_judge_17 : decode cX11_judge 17 = .ok (.getfield 39, 3) := by decide +kernel
theorem dX11_judge_20 : decode cX11_judge 20 = .ok (.iload_n 1, 1) := by decide +kernel
theorem dX11_judge_21 : decode cX11_judge 21 = .ok (.iload_n 2, 1) := by decide +kernel
theorem dX11_judge_22 : decode cX11_judge 22 = .ok (.invokevirtual 303, 3) := by decide +kernel
theorem dX11_judge_25 : decode cX11_judge 25 = .ok (.ireturn, 1) := by decide +kernel
theorem dX11_mark_0 : decode cX11_mark 0 = .ok (.iload_n 3, 1) := by decide +kernel
theorem dX11_mark_1 : decode cX11_mark 1 = .ok (.invokestatic 118, 3) := by decide +kernel
theorem dX11_mark_4 : decode cX11_mark 4 = .ok (.ifCond .ne 34, 3) := by decide +kernel
theorem dX11_mark_7 : decode cX11_mark 7 = .ok (.iload 4, 2) := by decide +kernel
theorem dX11_mark_9 : decode cX11_mark 9 = .ok (.iconst 0, 1) := by decide +kernel
theorem dX11_mark_10 : decode cX11_mark 10 = .ok (.bipush 25, 2) := by decide +kernel
theorem dX11_mark_12 : decode cX11_mark 12 = .ok (.invokestatic 47, 3) := by decide +kernel
theorem dX11_mark_15 : decode cX11_mark 15 = .ok (.ifCond .ne 23, 3) := by decide +kernel
theorem dX11_mark_18 : decode cX11_mark 18 = .ok (.iload 5, 2) := by decide +kernel
theorem dX11_mark_20 : decode cX11_mark 20 = .ok (.iconst 0, 1) := by decide +kernel
theorem dX11_mark_21 : decode cX11_mark 21 = .ok (.sipush 300, 3) := by decide +kernel
theorem dX11_mark_24 : decode cX11_mark 24 = .ok (.invokestatic 47, 3) := by decide +kernel
theorem dX11_mark_27 : decode cX11_mark 27 = .ok (.ifCond .ne 11, 3) := by decide +kernel
theorem dX11_mark_30 : decode cX11_mark 30 = .ok (.iload 6, 2) := by decide +kernel
theorem dX11_mark_32 : decode cX11_mark 32 = .ok (.invokestatic 72, 3) := by decide +kernel
theorem dX11_mark_35 : decode cX11_mark 35 = .ok (.ifCond .eq 9, 3) := by decide +kernel
theorem dX11_mark_38 : decode cX11_mark 38 = .ok (.aload_n 0, 1) := by decide +kernel
theorem dX11_mark_39 : decode cX11_mark 39 = .ok (.iconst (-1), 1) := by decide +kernel
theorem dX11_mark_40 : decode cX11_mark 40 = .ok (.invokevirtual 55, 3) := by decide +kernel
theorem dX11_mark_43 : decode cX11_mark 43 = .ok (.ireturn, 1) := by decide +kernel
theorem dX11_mark_44 : decode cX11_mark 44 = .ok (.aload_n 0, 1) := by decide +kernel
theorem dX11_mark_45 : decode cX11_mark 45 = .ok (.getfield 12, 3) := by decide +kernel
theorem dX11_mark_48 : decode cX11_mark 48 = .ok (.getfield 43, 3) := by decide +kernel
theorem dX11_mark_51 : decode cX11_mark 51 = .ok (.iload_n 2, 1) := by decide +kernel
theorem dX11_mark_52 : decode cX11_mark 52 = .ok (.invokevirtual 90, 3) := by decide +kernel
theorem dX11_mark_55 : decode cX11_mark 55 = .ok (.ifCond .ne 17, 3) := by decide +kernel
theorem dX11_mark_72 : decode cX11_mark 72 = .ok (.aload_n 0, 1) := by decide +kernel
theorem dX11_mark_73 : decode cX11_mark 73 = .ok (.bipush (-2), 2) := by decide +kernel
theorem dX11_mark_75 : decode cX11_mark 75 = .ok (.invokevirtual 55, 3) := by decide +kernel
theorem dX11_mark_78 : decode cX11_mark 78 = .ok (.ireturn, 1) := by decide +kernel
theorem dX11_markThatCounts_0 : decode cX11_markThatCounts 0 = .ok (.iload_n 3, 1) := by decide +kernel
theorem dX11_markThatCounts_1 : decode cX11_markThatCounts 1 = .ok (.invokestatic 118, 3) := by decide +kernel
theorem dX11_markThatCounts_4 : decode cX11_markThatCounts 4 = .ok (.ifCond .ne 39, 3) := by decide +kernel
theorem dX11_markThatCounts_7 : decode cX11_markThatCounts 7 = .ok (.iload 4, 2) := by decide +kernel
theorem dX11_markThatCounts_9 : decode cX11_markThatCounts 9 = .ok (.invokestatic 72, 3) := by decide +kernel
theorem dX11_markThatCounts_12 : decode cX11_markThatCounts 12 = .ok (.ifCond .ne 31, 3) := by decide +kernel
theorem dX11_markThatCounts_15 : decode cX11_markThatCounts 15 = .ok (.aload_n 0, 1) := by decide +kernel
theorem dX11_markThatCounts_16 : decode cX11_markThatCounts 16 = .ok (.getfield 12, 3) := by decide +kernel
theorem dX11_markThatCounts_19 : decode cX11_markThatCounts 19 = .ok (.getfield 43, 3) := by decide +kernel
theorem dX11_markThatCounts_22 : decode cX11_markThatCounts 22 = .ok (.iload_n 2, 1) := by decide +kernel
theorem dX11_markThatCounts_23 : decode cX11_markThatCounts 23 = .ok (.invokevirtual 90, 3) := by decide +kernel
theorem dX11_markThatCounts_26 : decode cX11_markThatCounts 26 = .ok (.ifCond .ne 17, 3) := by decide +kernel
theorem dX11_markThatCounts_43 : decode cX11_markThatCounts 43 = .ok (.iconst (-1), 1) := by decide +kernel
theorem dX11_markThatCounts_44 : decode cX11_markThatCounts 44 = .ok (.ireturn, 1) := by decide +kernel
theorem dX11_missing_0 : decode cX11_missing 0 = .ok (.aload_n 0, 1) := by decide +kernel
theorem dX11_missing_1 : decode cX11_missing 1 = .ok (.getfield 12, 3) := by decide +kernel
theorem dX11_missing_4 : decode cX11_missing 4 = .ok (.getfield 263, 3) := by decide +kernel
theorem dX11_missing_7 : decode cX11_missing 7 = .ok (.astore_n 3, 1) := by decide +kernel
theorem dX11_missing_8 : decode cX11_missing 8 = .ok (.iload_n 2, 1) := by decide +kernel
theorem dX11_missing_9 : decode cX11_missing 9 = .ok (.invokestatic 267, 3) := by decide +kernel
theorem dX11_missing_12 : decode cX11_missing 12 = .ok (.ifCond .eq 9, 3) := by decide +kernel
theorem dX11_missing_15 : decode cX11_missing 15 = .ok (.aload_n 0, 1) := by decide +kernel
theorem dX11_missing_16 : decode cX11_missing 16 = .ok (.iconst (-1), 1) := by decide +kernel
theorem dX11_missing_17 : decode cX11_missing 17 = .ok (.invokevirtual 55, 3) := by decide +kernel
theorem dX11_missing_20 : decode cX11_missing 20 = .ok (.ireturn, 1) := by decide +kernel
theorem dX11_missing_21 : decode cX11_missing 21 = .ok (.aload_n 0, 1) := by decide +kernel
theorem dX11_missing_22 : decode cX11_missing 22 = .ok (.getfield 12, 3) := by decide +kernel
theorem dX11_missing_25 : decode cX11_missing 25 = .ok (.getfield 43, 3) := by decide +kernel
theorem dX11_missing_28 : decode cX11_missing 28 = .ok (.iload_n 1, 1) := by decide +kernel
theorem dX11_missing_29 : decode cX11_missing 29 = .ok (.invokevirtual 90, 3) := by decide +kernel
theorem dX11_missing_32 : decode cX11_missing 32 = .ok (.ifCond .eq 10, 3) := by decide +kernel
theorem dX11_missing_35 : decode cX11_missing 35 = .ok (.aload_n 0, 1) := by decide +kernel
theorem dX11_missing_36 : decode cX11_missing 36 = .ok (.bipush (-2), 2) := by decide +kernel
theorem dX11_missing_38 : decode cX11_missing 38 = .ok (.invokevirtual 55, 3) := by decide +kernel
theorem dX11_missing_41 : decode cX11_missing 41 = .ok (.ireturn, 1) := by decide +kernel
theorem dX11_off_0 : decode cX11_off 0 = .ok (.iload_n 2, 1) := by decide +kernel
theorem dX11_off_1 : decode cX11_off 1 = .ok (.invokestatic 72, 3) := by decide +kernel
theorem dX11_off_4 : decode cX11_off 4 = .ok (.ifCond .ne 24, 3) := by decide +kernel
theorem dX11_off_7 : decode cX11_off 7 = .ok (.iload_n 3, 1) := by decide +kernel
theorem dX11_off_8 : decode cX11_off 8 = .ok (.invokestatic 72, 3) := by decide +kernel
theorem dX11_off_11 : decode cX11_off 11 = .ok (.ifCond .ne 17, 3) := by decide +kernel
theorem dX11_off_14 : decode cX11_off 14 = .ok (.aload_n 0, 1) := by decide +kernel
theorem dX11_off_15 : decode cX11_off 15 = .ok (.getfield 12, 3) := by decide +kernel
theorem dX11_off_18 : decode cX11_off 18 = .ok (.getfield 43, 3) := by decide +kernel
theorem dX11_off_21 : decode cX11_off 21 = .ok (.iload_n 1, 1) := by decide +kernel
theorem dX11_off_22 : decode cX11_off 22 = .ok (.invokevirtual 90, 3) := by decide +kernel
theorem dX11_off_25 : decode cX11_off 25 = .ok (.ifCond .eq 5, 3) := by decide +kernel
theorem dX11_off_28 : decode cX11_off 28 = .ok (.iconst (-1), 1) := by decide +kernel
theorem dX11_off_29 : decode cX11_off 29 = .ok (.ireturn, 1) := by decide +kernel
theorem dX11_pay_0 : decode cX11_pay 0 = .ok (.aload_n 0, 1) := by decide +kernel
theorem dX11_pay_1 : decode cX11_pay 1 = .ok (.getfield 12, 3) := by decide +kernel
theorem dX11_pay_4 : decode cX11_pay 4 = .ok (.getfield 230, 3) := by decide +kernel
theorem dX11_pay_7 : decode cX11_pay 7 = .ok (.astore 4, 2) := by decide +kernel
theorem dX11_pay_9 : decode cX11_pay 9 = .ok (.iload_n 2, 1) := by decide +kernel
theorem dX11_pay_10 : decode cX11_pay 10 = .ok (.invokestatic 220, 3) := by decide +kernel
theorem dX11_pay_13 : decode cX11_pay 13 = .ok (.ifCond .ne 10, 3) := by decide +kernel
theorem dX11_pay_16 : decode cX11_pay 16 = .ok (.iload_n 3, 1) := by decide +kernel
theorem dX11_pay_17 : decode cX11_pay 17 = .ok (.invokestatic 72, 3) := by decide +kernel
theorem dX11_pay_20 : decode cX11_pay 20 = .ok (.ifCond .eq 9, 3) := by decide +kernel
theorem dX11_pay_23 : decode cX11_pay 23 = .ok (.aload_n 0, 1) := by decide +kernel
theorem dX11_pay_24 : decode cX11_pay 24 = .ok (.iconst (-1), 1) := by decide +kernel
theorem dX11_pay_25 : decode cX11_pay 25 = .ok (.invokevirtual 55, 3) := by decide +kernel
theorem dX11_pay_28 : decode cX11_pay 28 = .ok (.ireturn, 1) := by decide +kernel
theorem dX11_pay_29 : decode cX11_pay 29 = .ok (.aload_n 0, 1) := by decide +kernel
theorem dX11_pay_30 : decode cX11_pay 30 = .ok (.getfield 12, 3) := by decide +kernel
theorem dX11_pay_33 : decode cX11_pay 33 = .ok (.getfield 43, 3) := by decide +kernel
theorem dX11_pay_36 : decode cX11_pay 36 = .ok (.iload_n 1, 1) := by decide +kernel
theorem dX11_pay_37 : decode cX11_pay 37 = .ok (.invokevirtual 90, 3) := by decide +kernel
theorem dX11_pay_40 : decode cX11_pay 40 = .ok (.ifCond .eq 10, 3) := by decide +kernel
theorem dX11_pay_43 : decode cX11_pay 43 = .ok (.aload_n 0, 1) := by decide +kernel
theorem dX11_pay_44 : decode cX11_pay 44 = .ok (.bipush (-2), 2) := by decide +kernel
theorem dX11_pay_46 : decode cX11_pay 46 = .ok (.invokevirtual 55, 3) := by decide +kernel
theorem dX11_pay_49 : decode cX11_pay 49 = .ok (.ireturn, 1) := by decide +kernel
theorem dX11_rate_0 : decode cX11_rate 0 = .ok (.iload_n 2, 1) := by decide +kernel
theorem dX11_rate_1 : decode cX11_rate 1 = .ok (.iload_n 3, 1) := by decide +kernel
theorem dX11_rate_2 : decode cX11_rate 2 = .ok (.invokestatic 210, 3) := by decide +kernel
theorem dX11_rate_5 : decode cX11_rate 5 = .ok (.ifCond .ne 25, 3) := by decide +kernel
theorem dX11_rate_8 : decode cX11_rate 8 = .ok (.iload 4, 2) := by decide +kernel
theorem dX11_rate_10 : decode cX11_rate 10 = .ok (.invokestatic 72, 3) := by decide +kernel
theorem dX11_rate_13 : decode cX11_rate 13 = .ok (.ifCond .ne 17, 3) := by decide +kernel
theorem dX11_rate_16 : decode cX11_rate 16 = .ok (.aload_n 0, 1) := by decide +kernel
theorem dX11_rate_17 : decode cX11_rate 17 = .ok (.getfield 12, 3) := by decide +kernel
theorem dX11_rate_20 : decode cX11_rate 20 = .ok (.getfield 43, 3) := by decide +kernel
theorem dX11_rate_23 : decode cX11_rate 23 = .ok (.iload_n 1, 1) := by decide +kernel
theorem dX11_rate_24 : decode cX11_rate 24 = .ok (.invokevirtual 90, 3) := by decide +kernel
theorem dX11_rate_27 : decode cX11_rate 27 = .ok (.ifCond .eq 5, 3) := by decide +kernel
theorem dX11_rate_30 : decode cX11_rate 30 = .ok (.iconst (-1), 1) := by decide +kernel
theorem dX11_rate_31 : decode cX11_rate 31 = .ok (.ireturn, 1) := by decide +kernel
theorem dX11_record_0 : decode cX11_record 0 = .ok (.aload_n 0, 1) := by decide +kernel
theorem dX11_record_1 : decode cX11_record 1 = .ok (.getfield 12, 3) := by decide +kernel
theorem dX11_record_4 : decode cX11_record 4 = .ok (.getfield 263, 3) := by decide +kernel
theorem dX11_record_7 : decode cX11_record 7 = .ok (.astore_n 2, 1) := by decide +kernel
theorem dX11_record_8 : decode cX11_record 8 = .ok (.iload_n 1, 1) := by decide +kernel
theorem dX11_record_9 : decode cX11_record 9 = .ok (.invokestatic 267, 3) := by decide +kernel
theorem dX11_record_12 : decode cX11_record 12 = .ok (.ifCond .eq 9, 3) := by decide +kernel
theorem dX11_record_15 : decode cX11_record 15 = .ok (.aload_n 0, 1) := by decide +kernel
theorem dX11_record_16 : decode cX11_record 16 = .ok (.iconst (-1), 1) := by decide +kernel
theorem dX11_record_17 : decode cX11_record 17 = .ok (.invokevirtual 55, 3) := by decide +kernel
theorem dX11_record_20 : decode cX11_record 20 = .ok (.ireturn, 1) := by decide +kernel
theorem dX11_record_21 : decode cX11_record 21 = .ok (.aload_n 2, 1) := by decide +kernel
theorem dX11_record_22 : decode cX11_record 22 = .ok (.getfield 270, 3) := by decide +kernel
theorem dX11_record_25 : decode cX11_record 25 = .ok (.bipush 6, 2) := by decide +kernel
theorem dX11_record_27 : decode cX11_record 27 = .ok (.if_icmp .lt 10, 3) := by decide +kernel
theorem dX11_record_37 : decode cX11_record 37 = .ok (.aload_n 2, 1) := by decide +kernel
theorem dX11_record_38 : decode cX11_record 38 = .ok (.getfield 275, 3) := by decide +kernel
theorem dX11_record_41 : decode cX11_record 41 = .ok (.aload_n 2, 1) := by decide +kernel
theorem dX11_record_42 : decode cX11_record 42 = .ok (.getfield 270, 3) := by decide +kernel
theorem dX11_record_45 : decode cX11_record 45 = .ok (.iload_n 1, 1) := by decide +kernel
theorem dX11_record_46 : decode cX11_record 46 = .ok (.iastore, 1) := by decide +kernel
theorem dX11_record_47 : decode cX11_record 47 = .ok (.aload_n 2, 1) := by decide +kernel
theorem dX11_record_48 : decode cX11_record 48 = .ok (.dup, 1) := by decide +kernel
theorem dX11_record_49 : decode cX11_record 49 = .ok (.getfield 270, 3) := by decide +kernel
theorem dX11_record_52 : decode cX11_record 52 = .ok (.iconst 1, 1) := by decide +kernel
theorem dX11_record_53 : decode cX11_record 53 = .ok (.iadd, 1) := by decide +kernel
theorem dX11_record_54 : decode cX11_record 54 = .ok (.putfield 270, 3) := by decide +kernel
theorem dX11_record_57 : decode cX11_record 57 = .ok (.aload_n 0, 1) := by decide +kernel
theorem dX11_record_58 : decode cX11_record 58 = .ok (.aload_n 2, 1) := by decide +kernel
theorem dX11_record_59 : decode cX11_record 59 = .ok (.getfield 270, 3) := by decide +kernel
theorem dX11_record_62 : decode cX11_record 62 = .ok (.invokevirtual 55, 3) := by decide +kernel
theorem dX11_record_65 : decode cX11_record 65 = .ok (.ireturn, 1) := by decide +kernel
theorem dX11_rolls_0 : decode cX11_rolls 0 = .ok (.iload_n 1, 1) := by decide +kernel
theorem dX11_rolls_1 : decode cX11_rolls 1 = .ok (.invokestatic 72, 3) := by decide +kernel
theorem dX11_rolls_4 : decode cX11_rolls 4 = .ok (.ifCond .ne 12, 3) := by decide +kernel
theorem dX11_rolls_7 : decode cX11_rolls 7 = .ok (.iload_n 2, 1) := by decide +kernel
theorem dX11_rolls_8 : decode cX11_rolls 8 = .ok (.iconst 0, 1) := by decide +kernel
theorem dX11_rolls_9 : decode cX11_rolls 9 = .ok (.iconst 2, 1) := by decide +kernel
theorem dX11_rolls_10 : decode cX11_rolls 10 = .ok (.invokestatic 47, 3) := by decide +kernel
theorem dX11_rolls_13 : decode cX11_rolls 13 = .ok (.ifCond .eq 5, 3) := by decide +kernel
theorem dX11_rolls_16 : decode cX11_rolls 16 = .ok (.iconst (-1), 1) := by decide +kernel
theorem dX11_rolls_17 : decode cX11_rolls 17 = .ok (.ireturn, 1) := by decide +kernel
theorem dX11_rolls_18 : decode cX11_rolls 18 = .ok (.iconst 0, 1) := by decide +kernel
theorem dX11_rolls_19 : decode cX11_rolls 19 = .ok (.istore 4, 2) := by decide +kernel
theorem dX11_rolls_21 : decode cX11_rolls 21 = .ok (.iconst 0, 1) := by decide +kernel
theorem dX11_rolls_22 : decode cX11_rolls 22 = .ok (.istore 5, 2) := by decide +kernel
theorem dX11_rolls_24 : decode cX11_rolls 24 = .ok (.iload 5, 2) := by decide +kernel
theorem dX11_rolls_26 : decode cX11_rolls 26 = .ok (.aload_n 0, 1) := by decide +kernel
theorem dX11_rolls_27 : decode cX11_rolls 27 = .ok (.getfield 12, 3) := by decide +kernel
theorem dX11_rolls_30 : decode cX11_rolls 30 = .ok (.getfield 43, 3) := by decide +kernel
theorem dX11_rolls_33 : decode cX11_rolls 33 = .ok (.getfield 59, 3) := by decide +kernel
theorem dX11_rolls_36 : decode cX11_rolls 36 = .ok (.if_icmp .ge 35, 3) := by decide +kernel
theorem dX11_rolls_71 : decode cX11_rolls 71 = .ok (.iload_n 3, 1) := by decide +kernel
theorem dX11_rolls_72 : decode cX11_rolls 72 = .ok (.iconst (-1), 1) := by decide +kernel
theorem dX11_rolls_73 : decode cX11_rolls 73 = .ok (.if_icmp .ne 8, 3) := by decide +kernel
theorem dX11_rolls_76 : decode cX11_rolls 76 = .ok (.iload 4, 2) := by decide +kernel
theorem dX11_rolls_78 : decode cX11_rolls 78 = .ok (.goto 4, 3) := by decide +kernel
theorem dX11_rolls_81 : decode cX11_rolls 81 = .ok (.iconst (-1), 1) := by decide +kernel
theorem dX11_rolls_82 : decode cX11_rolls 82 = .ok (.ireturn, 1) := by decide +kernel
theorem dX11_round_0 : decode cX11_round 0 = .ok (.iload_n 1, 1) := by decide +kernel
theorem dX11_round_1 : decode cX11_round 1 = .ok (.iload_n 2, 1) := by decide +kernel
theorem dX11_round_2 : decode cX11_round 2 = .ok (.invokestatic 51, 3) := by decide +kernel
theorem dX11_round_5 : decode cX11_round 5 = .ok (.ifCond .ne 24, 3) := by decide +kernel
theorem dX11_round_8 : decode cX11_round 8 = .ok (.iload_n 3, 1) := by decide +kernel
theorem dX11_round_9 : decode cX11_round 9 = .ok (.iconst 0, 1) := by decide +kernel
theorem dX11_round_10 : decode cX11_round 10 = .ok (.sipush 2000, 3) := by decide +kernel
theorem dX11_round_13 : decode cX11_round 13 = .ok (.invokestatic 47, 3) := by decide +kernel
theorem dX11_round_16 : decode cX11_round 16 = .ok (.ifCond .ne 13, 3) := by decide +kernel
theorem dX11_round_19 : decode cX11_round 19 = .ok (.iload 4, 2) := by decide +kernel
theorem dX11_round_21 : decode cX11_round 21 = .ok (.iconst 0, 1) := by decide +kernel
theorem dX11_round_22 : decode cX11_round 22 = .ok (.iconst 2, 1) := by decide +kernel
theorem dX11_round_23 : decode cX11_round 23 = .ok (.invokestatic 47, 3) := by decide +kernel
theorem dX11_round_26 : decode cX11_round 26 = .ok (.ifCond .eq 5, 3) := by decide +kernel
theorem dX11_round_29 : decode cX11_round 29 = .ok (.iconst (-1), 1) := by decide +kernel
theorem dX11_round_30 : decode cX11_round 30 = .ok (.ireturn, 1) := by decide +kernel
theorem dX11_round_31 : decode cX11_round 31 = .ok (.aload_n 0, 1) := by decide +kernel
theorem dX11_round_32 : decode cX11_round 32 = .ok (.getfield 39, 3) := by decide +kernel
theorem dX11_round_35 : decode cX11_round 35 = .ok (.iload_n 1, 1) := by decide +kernel
theorem dX11_round_36 : decode cX11_round 36 = .ok (.iload_n 2, 1) := by decide +kernel
theorem dX11_round_37 : decode cX11_round 37 = .ok (.iload_n 3, 1) := by decide +kernel
theorem dX11_round_38 : decode cX11_round 38 = .ok (.invokevirtual 327, 3) := by decide +kernel
theorem dX11_round_41 : decode cX11_round 41 = .ok (.iload 4, 2) := by decide +kernel
theorem dX11_round_43 : decode cX11_round 43 = .ok (.ifCond .ne 13, 3) := by decide +kernel
theorem dX11_round_46 : decode cX11_round 46 = .ok (.aload_n 0, 1) := by decide +kernel
theorem dX11_round_47 : decode cX11_round 47 = .ok (.getfield 39, 3) := by decide +kernel
theorem dX11_round_50 : decode cX11_round 50 = .ok (.getfield 331, 3) := by decide +kernel
theorem dX11_round_53 : decode cX11_round 53 = .ok (.goto 26, 3) := by decide +kernel
theorem dX11_round_56 : decode cX11_round 56 = .ok (.iload 4, 2) := by decide +kernel
theorem dX11_round_58 : decode cX11_round 58 = .ok (.iconst 1, 1) := by decide +kernel
theorem dX11_round_59 : decode cX11_round 59 = .ok (.if_icmp .ne 13, 3) := by decide +kernel
theorem dX11_round_62 : decode cX11_round 62 = .ok (.aload_n 0, 1) := by decide +kernel
theorem dX11_round_63 : decode cX11_round 63 = .ok (.getfield 39, 3) := by decide +kernel
theorem dX11_round_66 : decode cX11_round 66 = .ok (.getfield 334, 3) := by decide +kernel
theorem dX11_round_69 : decode cX11_round 69 = .ok (.goto 10, 3) := by decide +kernel
theorem dX11_round_72 : decode cX11_round 72 = .ok (.aload_n 0, 1) := by decide +kernel
theorem dX11_round_73 : decode cX11_round 73 = .ok (.getfield 39, 3) := by decide +kernel
theorem dX11_round_76 : decode cX11_round 76 = .ok (.getfield 337, 3) := by decide +kernel
theorem dX11_round_79 : decode cX11_round 79 = .ok (.ireturn, 1) := by decide +kernel
theorem dX11_school_0 : decode cX11_school 0 = .ok (.aload_n 0, 1) := by decide +kernel
theorem dX11_school_1 : decode cX11_school 1 = .ok (.getfield 12, 3) := by decide +kernel
theorem dX11_school_4 : decode cX11_school 4 = .ok (.getfield 43, 3) := by decide +kernel
theorem dX11_school_7 : decode cX11_school 7 = .ok (.getfield 69, 3) := by decide +kernel
theorem dX11_school_10 : decode cX11_school 10 = .ok (.iconst 5, 1) := by decide +kernel
theorem dX11_school_11 : decode cX11_school 11 = .ok (.if_icmp .lt 10, 3) := by decide +kernel
theorem dX11_school_21 : decode cX11_school 21 = .ok (.aload_n 0, 1) := by decide +kernel
theorem dX11_school_22 : decode cX11_school 22 = .ok (.getfield 12, 3) := by decide +kernel
theorem dX11_school_25 : decode cX11_school 25 = .ok (.getfield 43, 3) := by decide +kernel
theorem dX11_school_28 : decode cX11_school 28 = .ok (.dup, 1) := by decide +kernel
theorem dX11_school_29 : decode cX11_school 29 = .ok (.getfield 69, 3) := by decide +kernel
theorem dX11_school_32 : decode cX11_school 32 = .ok (.iconst 1, 1) := by decide +kernel
theorem dX11_school_33 : decode cX11_school 33 = .ok (.iadd, 1) := by decide +kernel
theorem dX11_school_34 : decode cX11_school 34 = .ok (.putfield 69, 3) := by decide +kernel
theorem dX11_school_37 : decode cX11_school 37 = .ok (.aload_n 0, 1) := by decide +kernel
theorem dX11_school_38 : decode cX11_school 38 = .ok (.aload_n 0, 1) := by decide +kernel
theorem dX11_school_39 : decode cX11_school 39 = .ok (.getfield 12, 3) := by decide +kernel
theorem dX11_school_42 : decode cX11_school 42 = .ok (.getfield 43, 3) := by decide +kernel
theorem dX11_school_45 : decode cX11_school 45 = .ok (.getfield 69, 3) := by decide +kernel
theorem dX11_school_48 : decode cX11_school 48 = .ok (.iconst 1, 1) := by decide +kernel
theorem dX11_school_49 : decode cX11_school 49 = .ok (.isub, 1) := by decide +kernel
theorem dX11_school_50 : decode cX11_school 50 = .ok (.invokevirtual 55, 3) := by decide +kernel
theorem dX11_school_53 : decode cX11_school 53 = .ok (.ireturn, 1) := by decide +kernel
theorem dX11_seal_0 : decode cX11_seal 0 = .ok (.iload_n 1, 1) := by decide +kernel
theorem dX11_seal_1 : decode cX11_seal 1 = .ok (.invokestatic 72, 3) := by decide +kernel
theorem dX11_seal_4 : decode cX11_seal 4 = .ok (.ifCond .eq 9, 3) := by decide +kernel
theorem dX11_seal_7 : decode cX11_seal 7 = .ok (.aload_n 0, 1) := by decide +kernel
theorem dX11_seal_8 : decode cX11_seal 8 = .ok (.iconst (-1), 1) := by decide +kernel
theorem dX11_seal_9 : decode cX11_seal 9 = .ok (.invokevirtual 55, 3) := by decide +kernel
theorem dX11_seal_12 : decode cX11_seal 12 = .ok (.ireturn, 1) := by decide +kernel
theorem dX11_seal_13 : decode cX11_seal 13 = .ok (.aload_n 0, 1) := by decide +kernel
theorem dX11_seal_14 : decode cX11_seal 14 = .ok (.aload_n 0, 1) := by decide +kernel
theorem dX11_seal_15 : decode cX11_seal 15 = .ok (.getfield 12, 3) := by decide +kernel
theorem dX11_seal_18 : decode cX11_seal 18 = .ok (.getfield 137, 3) := by decide +kernel
theorem dX11_seal_21 : decode cX11_seal 21 = .ok (.iload_n 1, 1) := by decide +kernel
theorem dX11_seal_22 : decode cX11_seal 22 = .ok (.invokevirtual 371, 3) := by decide +kernel
theorem dX11_seal_25 : decode cX11_seal 25 = .ok (.invokevirtual 55, 3) := by decide +kernel
theorem dX11_seal_28 : decode cX11_seal 28 = .ok (.ireturn, 1) := by decide +kernel
theorem dX11_seen_0 : decode cX11_seen 0 = .ok (.iload_n 2, 1) := by decide +kernel
theorem dX11_seen_1 : decode cX11_seen 1 = .ok (.invokestatic 72, 3) := by decide +kernel
theorem dX11_seen_4 : decode cX11_seen 4 = .ok (.ifCond .ne 24, 3) := by decide +kernel
theorem dX11_seen_7 : decode cX11_seen 7 = .ok (.iload_n 3, 1) := by decide +kernel
theorem dX11_seen_8 : decode cX11_seen 8 = .ok (.invokestatic 72, 3) := by decide +kernel
theorem dX11_seen_11 : decode cX11_seen 11 = .ok (.ifCond .ne 17, 3) := by decide +kernel
theorem dX11_seen_14 : decode cX11_seen 14 = .ok (.aload_n 0, 1) := by decide +kernel
theorem dX11_seen_15 : decode cX11_seen 15 = .ok (.getfield 12, 3) := by decide +kernel
theorem dX11_seen_18 : decode cX11_seen 18 = .ok (.getfield 43, 3) := by decide +kernel
theorem dX11_seen_21 : decode cX11_seen 21 = .ok (.iload_n 1, 1) := by decide +kernel
theorem dX11_seen_22 : decode cX11_seen 22 = .ok (.invokevirtual 90, 3) := by decide +kernel
theorem dX11_seen_25 : decode cX11_seen 25 = .ok (.ifCond .eq 5, 3) := by decide +kernel
theorem dX11_seen_28 : decode cX11_seen 28 = .ok (.iconst (-1), 1) := by decide +kernel
theorem dX11_seen_29 : decode cX11_seen 29 = .ok (.ireturn, 1) := by decide +kernel
theorem dX11_sees_0 : decode cX11_sees 0 = .ok (.iload_n 1, 1) := by decide +kernel
theorem dX11_sees_1 : decode cX11_sees 1 = .ok (.iconst 0, 1) := by decide +kernel
theorem dX11_sees_2 : decode cX11_sees 2 = .ok (.iconst 3, 1) := by decide +kernel
theorem dX11_sees_3 : decode cX11_sees 3 = .ok (.invokestatic 47, 3) := by decide +kernel
theorem dX11_sees_6 : decode cX11_sees 6 = .ok (.ifCond .eq 5, 3) := by decide +kernel
theorem dX11_sees_9 : decode cX11_sees 9 = .ok (.iconst (-1), 1) := by decide +kernel
theorem dX11_sees_10 : decode cX11_sees 10 = .ok (.ireturn, 1) := by decide +kernel
theorem dX11_sees_11 : decode cX11_sees 11 = .ok (.aload_n 0, 1) := by decide +kernel
theorem dX11_sees_12 : decode cX11_sees 12 = .ok (.iload_n 2, 1) := by decide +kernel
theorem dX11_sees_13 : decode cX11_sees 13 = .ok (.iload_n 3, 1) := by decide +kernel
theorem dX11_sees_14 : decode cX11_sees 14 = .ok (.iload 4, 2) := by decide +kernel
theorem dX11_sees_16 : decode cX11_sees 16 = .ok (.iload 5, 2) := by decide +kernel
theorem dX11_sees_18 : decode cX11_sees 18 = .ok (.invokevirtual 158, 3) := by decide +kernel
theorem dX11_sees_21 : decode cX11_sees 21 = .ok (.istore 6, 2) := by decide +kernel
theorem dX11_sees_23 : decode cX11_sees 23 = .ok (.iload 6, 2) := by decide +kernel
theorem dX11_sees_25 : decode cX11_sees 25 = .ok (.iconst (-1), 1) := by decide +kernel
theorem dX11_sees_26 : decode cX11_sees 26 = .ok (.if_icmp .ne 5, 3) := by decide +kernel
theorem dX11_sees_29 : decode cX11_sees 29 = .ok (.iconst (-1), 1) := by decide +kernel
theorem dX11_sees_30 : decode cX11_sees 30 = .ok (.ireturn, 1) := by decide +kernel
theorem dX11_shut_0 : decode cX11_shut 0 = .ok (.aload_n 0, 1) := by decide +kernel
theorem dX11_shut_1 : decode cX11_shut 1 = .ok (.getfield 12, 3) := by decide +kernel
theorem dX11_shut_4 : decode cX11_shut 4 = .ok (.getfield 43, 3) := by decide +kernel
theorem dX11_shut_7 : decode cX11_shut 7 = .ok (.astore_n 3, 1) := by decide +kernel
theorem dX11_shut_8 : decode cX11_shut 8 = .ok (.iload_n 2, 1) := by decide +kernel
theorem dX11_shut_9 : decode cX11_shut 9 = .ok (.invokestatic 72, 3) := by decide +kernel
theorem dX11_shut_12 : decode cX11_shut 12 = .ok (.ifCond .eq 9, 3) := by decide +kernel
theorem dX11_shut_15 : decode cX11_shut 15 = .ok (.aload_n 0, 1) := by decide +kernel
theorem dX11_shut_16 : decode cX11_shut 16 = .ok (.iconst (-1), 1) := by decide +kernel
theorem dX11_shut_17 : decode cX11_shut 17 = .ok (.invokevirtual 55, 3) := by decide +kernel
theorem dX11_shut_20 : decode cX11_shut 20 = .ok (.ireturn, 1) := by decide +kernel
theorem dX11_shut_21 : decode cX11_shut 21 = .ok (.aload_n 3, 1) := by decide +kernel
theorem dX11_shut_22 : decode cX11_shut 22 = .ok (.iload_n 1, 1) := by decide +kernel
theorem dX11_shut_23 : decode cX11_shut 23 = .ok (.invokevirtual 76, 3) := by decide +kernel
theorem dX11_shut_26 : decode cX11_shut 26 = .ok (.ifCond .eq 10, 3) := by decide +kernel
theorem dX11_shut_29 : decode cX11_shut 29 = .ok (.aload_n 0, 1) := by decide +kernel
theorem dX11_shut_30 : decode cX11_shut 30 = .ok (.bipush (-2), 2) := by decide +kernel
theorem dX11_shut_32 : decode cX11_shut 32 = .ok (.invokevirtual 55, 3) := by decide +kernel
theorem dX11_shut_35 : decode cX11_shut 35 = .ok (.ireturn, 1) := by decide +kernel
theorem dX11_stands_0 : decode cX11_stands 0 = .ok (.iload_n 2, 1) := by decide +kernel
theorem dX11_stands_1 : decode cX11_stands 1 = .ok (.invokestatic 220, 3) := by decide +kernel
theorem dX11_stands_4 : decode cX11_stands 4 = .ok (.ifCond .ne 24, 3) := by decide +kernel
theorem dX11_stands_7 : decode cX11_stands 7 = .ok (.iload_n 3, 1) := by decide +kernel
theorem dX11_stands_8 : decode cX11_stands 8 = .ok (.invokestatic 72, 3) := by decide +kernel
theorem dX11_stands_11 : decode cX11_stands 11 = .ok (.ifCond .ne 17, 3) := by decide +kernel
theorem dX11_stands_14 : decode cX11_stands 14 = .ok (.aload_n 0, 1) := by decide +kernel
theorem dX11_stands_15 : decode cX11_stands 15 = .ok (.getfield 12, 3) := by decide +kernel
theorem dX11_stands_18 : decode cX11_stands 18 = .ok (.getfield 43, 3) := by decide +kernel
theorem dX11_stands_21 : decode cX11_stands 21 = .ok (.iload_n 1, 1) := by decide +kernel
theorem dX11_stands_22 : decode cX11_stands 22 = .ok (.invokevirtual 90, 3) := by decide +kernel
theorem dX11_stands_25 : decode cX11_stands 25 = .ok (.ifCond .eq 5, 3) := by decide +kernel
theorem dX11_stands_28 : decode cX11_stands 28 = .ok (.iconst (-1), 1) := by decide +kernel
theorem dX11_stands_29 : decode cX11_stands 29 = .ok (.ireturn, 1) := by decide +kernel
theorem dX11_status_0 : decode cX11_status 0 = .ok (.aload_n 0, 1) := by decide +kernel
theorem dX11_status_1 : decode cX11_status 1 = .ok (.getfield 383, 3) := by decide +kernel
theorem dX11_status_4 : decode cX11_status 4 = .ok (.ireturn, 1) := by decide +kernel
theorem dX11_take_0 : decode cX11_take 0 = .ok (.aload_n 0, 1) := by decide +kernel
theorem dX11_take_1 : decode cX11_take 1 = .ok (.getfield 12, 3) := by decide +kernel
theorem dX11_take_4 : decode cX11_take 4 = .ok (.getfield 230, 3) := by decide +kernel
theorem dX11_take_7 : decode cX11_take 7 = .ok (.astore 4, 2) := by decide +kernel
theorem dX11_take_9 : decode cX11_take 9 = .ok (.iload_n 2, 1) := by decide +kernel
theorem dX11_take_10 : decode cX11_take 10 = .ok (.invokestatic 220, 3) := by decide +kernel
theorem dX11_take_13 : decode cX11_take 13 = .ok (.ifCond .ne 10, 3) := by decide +kernel
theorem dX11_take_16 : decode cX11_take 16 = .ok (.iload_n 3, 1) := by decide +kernel
theorem dX11_take_17 : decode cX11_take 17 = .ok (.invokestatic 72, 3) := by decide +kernel
theorem dX11_take_20 : decode cX11_take 20 = .ok (.ifCond .eq 9, 3) := by decide +kernel
theorem dX11_take_23 : decode cX11_take 23 = .ok (.aload_n 0, 1) := by decide +kernel
theorem dX11_take_24 : decode cX11_take 24 = .ok (.iconst (-1), 1) := by decide +kernel
theorem dX11_take_25 : decode cX11_take 25 = .ok (.invokevirtual 55, 3) := by decide +kernel
theorem dX11_take_28 : decode cX11_take 28 = .ok (.ireturn, 1) := by decide +kernel
theorem dX11_take_29 : decode cX11_take 29 = .ok (.aload_n 0, 1) := by decide +kernel
theorem dX11_take_30 : decode cX11_take 30 = .ok (.getfield 12, 3) := by decide +kernel
theorem dX11_take_33 : decode cX11_take 33 = .ok (.getfield 43, 3) := by decide +kernel
theorem dX11_take_36 : decode cX11_take 36 = .ok (.iload_n 1, 1) := by decide +kernel
theorem dX11_take_37 : decode cX11_take 37 = .ok (.invokevirtual 90, 3) := by decide +kernel
theorem dX11_take_40 : decode cX11_take 40 = .ok (.ifCond .eq 10, 3) := by decide +kernel
theorem dX11_take_43 : decode cX11_take 43 = .ok (.aload_n 0, 1) := by decide +kernel
theorem dX11_take_44 : decode cX11_take 44 = .ok (.bipush (-2), 2) := by decide +kernel
theorem dX11_take_46 : decode cX11_take 46 = .ok (.invokevirtual 55, 3) := by decide +kernel
theorem dX11_take_49 : decode cX11_take 49 = .ok (.ireturn, 1) := by decide +kernel
theorem dX11_tells_0 : decode cX11_tells 0 = .ok (.iload 5, 2) := by decide +kernel
theorem dX11_tells_2 : decode cX11_tells 2 = .ok (.iconst 0, 1) := by decide +kernel
theorem dX11_tells_3 : decode cX11_tells 3 = .ok (.iconst 4, 1) := by decide +kernel
theorem dX11_tells_4 : decode cX11_tells 4 = .ok (.invokestatic 47, 3) := by decide +kernel
theorem dX11_tells_7 : decode cX11_tells 7 = .ok (.ifCond .eq 5, 3) := by decide +kernel
theorem dX11_tells_10 : decode cX11_tells 10 = .ok (.iconst (-1), 1) := by decide +kernel
theorem dX11_tells_11 : decode cX11_tells 11 = .ok (.ireturn, 1) := by decide +kernel
theorem dX11_tells_12 : decode cX11_tells 12 = .ok (.aload_n 0, 1) := by decide +kernel
theorem dX11_tells_13 : decode cX11_tells 13 = .ok (.iload_n 1, 1) := by decide +kernel
theorem dX11_tells_14 : decode cX11_tells 14 = .ok (.iload_n 2, 1) := by decide +kernel
theorem dX11_tells_15 : decode cX11_tells 15 = .ok (.iload_n 3, 1) := by decide +kernel
theorem dX11_tells_16 : decode cX11_tells 16 = .ok (.iload 4, 2) := by decide +kernel
theorem dX11_tells_18 : decode cX11_tells 18 = .ok (.invokevirtual 158, 3) := by decide +kernel
theorem dX11_tells_21 : decode cX11_tells 21 = .ok (.istore 6, 2) := by decide +kernel
theorem dX11_tells_23 : decode cX11_tells 23 = .ok (.iload 6, 2) := by decide +kernel
theorem dX11_tells_25 : decode cX11_tells 25 = .ok (.iconst (-1), 1) := by decide +kernel
theorem dX11_tells_26 : decode cX11_tells 26 = .ok (.if_icmp .eq 8, 3) := by decide +kernel
theorem dX11_tells_34 : decode cX11_tells 34 = .ok (.iload 6, 2) := by decide +kernel
theorem dX11_tells_36 : decode cX11_tells 36 = .ok (.ireturn, 1) := by decide +kernel
theorem dX11_visit_0 : decode cX11_visit 0 = .ok (.aload_n 0, 1) := by decide +kernel
theorem dX11_visit_1 : decode cX11_visit 1 = .ok (.getfield 12, 3) := by decide +kernel
theorem dX11_visit_4 : decode cX11_visit 4 = .ok (.getfield 263, 3) := by decide +kernel
theorem dX11_visit_7 : decode cX11_visit 7 = .ok (.astore 4, 2) := by decide +kernel
theorem dX11_visit_9 : decode cX11_visit 9 = .ok (.iload_n 2, 1) := by decide +kernel
theorem dX11_visit_10 : decode cX11_visit 10 = .ok (.iconst 1, 1) := by decide +kernel
theorem dX11_visit_11 : decode cX11_visit 11 = .ok (.sipush 200, 3) := by decide +kernel
theorem dX11_visit_14 : decode cX11_visit 14 = .ok (.invokestatic 47, 3) := by decide +kernel
theorem dX11_visit_17 : decode cX11_visit 17 = .ok (.ifCond .ne 14, 3) := by decide +kernel
theorem dX11_visit_20 : decode cX11_visit 20 = .ok (.iload_n 3, 1) := by decide +kernel
theorem dX11_visit_21 : decode cX11_visit 21 = .ok (.iconst 1, 1) := by decide +kernel
theorem dX11_visit_22 : decode cX11_visit 22 = .ok (.sipush 1000, 3) := by decide +kernel
theorem dX11_visit_25 : decode cX11_visit 25 = .ok (.invokestatic 47, 3) := by decide +kernel
theorem dX11_visit_28 : decode cX11_visit 28 = .ok (.ifCond .eq 9, 3) := by decide +kernel
theorem dX11_visit_31 : decode cX11_visit 31 = .ok (.aload_n 0, 1) := by decide +kernel
theorem dX11_visit_32 : decode cX11_visit 32 = .ok (.iconst (-1), 1) := by decide +kernel
theorem dX11_visit_33 : decode cX11_visit 33 = .ok (.invokevirtual 55, 3) := by decide +kernel
theorem dX11_visit_36 : decode cX11_visit 36 = .ok (.ireturn, 1) := by decide +kernel
theorem dX11_visit_37 : decode cX11_visit 37 = .ok (.aload_n 0, 1) := by decide +kernel
theorem dX11_visit_38 : decode cX11_visit 38 = .ok (.getfield 12, 3) := by decide +kernel
theorem dX11_visit_41 : decode cX11_visit 41 = .ok (.getfield 43, 3) := by decide +kernel
theorem dX11_visit_44 : decode cX11_visit 44 = .ok (.iload_n 1, 1) := by decide +kernel
theorem dX11_visit_45 : decode cX11_visit 45 = .ok (.invokevirtual 90, 3) := by decide +kernel
theorem dX11_visit_48 : decode cX11_visit 48 = .ok (.ifCond .eq 10, 3) := by decide +kernel
theorem dX11_visit_51 : decode cX11_visit 51 = .ok (.aload_n 0, 1) := by decide +kernel
theorem dX11_visit_52 : decode cX11_visit 52 = .ok (.bipush (-2), 2) := by decide +kernel
theorem dX11_visit_54 : decode cX11_visit 54 = .ok (.invokevirtual 55, 3) := by decide +kernel
theorem dX11_visit_57 : decode cX11_visit 57 = .ok (.ireturn, 1) := by decide +kernel
theorem dX12_act_0 : decode cX12_act 0 = .ok (.aload_n 0, 1) := by decide +kernel
theorem dX12_act_1 : decode cX12_act 1 = .ok (.iconst 0, 1) := by decide +kernel
theorem dX12_act_2 : decode cX12_act 2 = .ok (.putfield 92, 3) := by decide +kernel
theorem dX12_act_5 : decode cX12_act 5 = .ok (.iload_n 1, 1) := by decide +kernel
theorem dX12_act_6 : decode cX12_act 6 = .ok (.invokestatic 127, 3) := by decide +kernel
theorem dX12_act_9 : decode cX12_act 9 = .ok (.ifCond .eq 14, 3) := by decide +kernel
theorem dX12_act_12 : decode cX12_act 12 = .ok (.aload_n 0, 1) := by decide +kernel
theorem dX12_act_13 : decode cX12_act 13 = .ok (.getfield 7, 3) := by decide +kernel
theorem dX12_act_16 : decode cX12_act 16 = .ok (.iconst 4, 1) := by decide +kernel
theorem dX12_act_17 : decode cX12_act 17 = .ok (.iaload, 1) := by decide +kernel
theorem dX12_act_18 : decode cX12_act 18 = .ok (.bipush 20, 2) := by decide +kernel
theorem dX12_act_20 : decode cX12_act 20 = .ok (.if_icmp .ne 26, 3) := by decide +kernel
theorem dX12_act_23 : decode cX12_act 23 = .ok (.aload_n 0, 1) := by decide +kernel
theorem dX12_act_24 : decode cX12_act 24 = .ok (.iconst 0, 1) := by decide +kernel
theorem dX12_act_25 : decode cX12_act 25 = .ok (.putfield 193, 3) := by decide +kernel
theorem dX12_act_28 : decode cX12_act 28 = .ok (.aload_n 0, 1) := by decide +kernel
theorem dX12_act_29 : decode cX12_act 29 = .ok (.iload_n 1, 1) := by decide +kernel
theorem dX12_act_30 : decode cX12_act 30 = .ok (.invokestatic 127, 3) := by decide +kernel
theorem dX12_act_33 : decode cX12_act 33 = .ok (.ifCond .eq 8, 3) := by decide +kernel
theorem dX12_act_36 : decode cX12_act 36 = .ok (.bipush (-5), 2) := by decide +kernel
theorem dX12_act_38 : decode cX12_act 38 = .ok (.goto 4, 3) := by decide +kernel
theorem dX12_act_41 : decode cX12_act 41 = .ok (.iconst (-1), 1) := by decide +kernel
theorem dX12_act_42 : decode cX12_act 42 = .ok (.invokevirtual 106, 3) := by decide +kernel
theorem dX12_act_45 : decode cX12_act 45 = .ok (.ireturn, 1) := by decide +kernel
theorem dX12_act_46 : decode cX12_act 46 = .ok (.aload_n 0, 1) := by decide +kernel
theorem dX12_act_47 : decode cX12_act 47 = .ok (.iload_n 1, 1) := by decide +kernel
theorem dX12_act_48 : decode cX12_act 48 = .ok (.invokevirtual 406, 3) := by decide +kernel
theorem dX12_act_51 : decode cX12_act 51 = .ok (.istore_n 2, 1) := by decide +kernel
theorem dX12_act_52 : decode cX12_act 52 = .ok (.aload_n 0, 1) := by decide +kernel
theorem dX12_act_53 : decode cX12_act 53 = .ok (.iconst 0, 1) := by decide +kernel
theorem dX12_act_54 : decode cX12_act 54 = .ok (.putfield 193, 3) := by decide +kernel
theorem dX12_act_57 : decode cX12_act 57 = .ok (.aload_n 0, 1) := by decide +kernel
theorem dX12_act_58 : decode cX12_act 58 = .ok (.iload_n 2, 1) := by decide +kernel
theorem dX12_act_59 : decode cX12_act 59 = .ok (.ifCond .eq 14, 3) := by decide +kernel
theorem dX12_act_73 : decode cX12_act 73 = .ok (.bipush (-6), 2) := by decide +kernel
theorem dX12_act_75 : decode cX12_act 75 = .ok (.invokevirtual 106, 3) := by decide +kernel
theorem dX12_act_78 : decode cX12_act 78 = .ok (.ireturn, 1) := by decide +kernel
theorem dX12_addDay_0 : decode cX12_addDay 0 = .ok (.aload_n 0, 1) := by decide +kernel
theorem dX12_addDay_1 : decode cX12_addDay 1 = .ok (.iconst 0, 1) := by decide +kernel
theorem dX12_addDay_2 : decode cX12_addDay 2 = .ok (.putfield 549, 3) := by decide +kernel
theorem dX12_addDay_5 : decode cX12_addDay 5 = .ok (.aload_n 0, 1) := by decide +kernel
theorem dX12_addDay_6 : decode cX12_addDay 6 = .ok (.iconst 0, 1) := by decide +kernel
theorem dX12_addDay_7 : decode cX12_addDay 7 = .ok (.putfield 552, 3) := by decide +kernel
theorem dX12_addDay_10 : decode cX12_addDay 10 = .ok (.aload_n 0, 1) := by decide +kernel
theorem dX12_addDay_11 : decode cX12_addDay 11 = .ok (.iconst 0, 1) := by decide +kernel
theorem dX12_addDay_12 : decode cX12_addDay 12 = .ok (.putfield 555, 3) := by decide +kernel
theorem dX12_addDay_15 : decode cX12_addDay 15 = .ok (.iconst 0, 1) := by decide +kernel
theorem dX12_addDay_16 : decode cX12_addDay 16 = .ok (.istore_n 2, 1) := by decide +kernel
theorem dX12_addDay_17 : decode cX12_addDay 17 = .ok (.iload_n 2, 1) := by decide +kernel
theorem dX12_addDay_18 : decode cX12_addDay 18 = .ok (.aload_n 0, 1) := by decide +kernel
theorem dX12_addDay_19 : decode cX12_addDay 19 = .ok (.getfield 7, 3) := by decide +kernel
theorem dX12_addDay_22 : decode cX12_addDay 22 = .ok (.iconst 3, 1) := by decide +kernel
theorem dX12_addDay_23 : decode cX12_addDay 23 = .ok (.iaload, 1) := by decide +kernel
theorem dX12_addDay_24 : decode cX12_addDay 24 = .ok (.if_icmp .ge 81, 3) := by decide +kernel
theorem dX12_addDay_105 : decode cX12_addDay 105 = .ok (.return_, 1) := by decide +kernel
theorem dX12_addFour_0 : decode cX12_addFour 0 = .ok (.aload_n 0, 1) := by decide +kernel
theorem dX12_addFour_1 : decode cX12_addFour 1 = .ok (.getfield 7, 3) := by decide +kernel
theorem dX12_addFour_4 : decode cX12_addFour 4 = .ok (.iload_n 1, 1) := by decide +kernel
theorem dX12_addFour_5 : decode cX12_addFour 5 = .ok (.iload_n 2, 1) := by decide +kernel
theorem dX12_addFour_6 : decode cX12_addFour 6 = .ok (.iastore, 1) := by decide +kernel
theorem dX12_addFour_7 : decode cX12_addFour 7 = .ok (.aload_n 0, 1) := by decide +kernel
theorem dX12_addFour_8 : decode cX12_addFour 8 = .ok (.getfield 7, 3) := by decide +kernel
theorem dX12_addFour_11 : decode cX12_addFour 11 = .ok (.iload_n 1, 1) := by decide +kernel
theorem dX12_addFour_12 : decode cX12_addFour 12 = .ok (.iconst 1, 1) := by decide +kernel
theorem dX12_addFour_13 : decode cX12_addFour 13 = .ok (.iadd, 1) := by decide +kernel
theorem dX12_addFour_14 : decode cX12_addFour 14 = .ok (.iload_n 3, 1) := by decide +kernel
theorem dX12_addFour_15 : decode cX12_addFour 15 = .ok (.iastore, 1) := by decide +kernel
theorem dX12_addFour_16 : decode cX12_addFour 16 = .ok (.aload_n 0, 1) := by decide +kernel
theorem dX12_addFour_17 : decode cX12_addFour 17 = .ok (.getfield 7, 3) := by decide +kernel
theorem dX12_addFour_20 : decode cX12_addFour 20 = .ok (.iload_n 1, 1) := by decide +kernel
theorem dX12_addFour_21 : decode cX12_addFour 21 = .ok (.iconst 2, 1) := by decide +kernel
theorem dX12_addFour_22 : decode cX12_addFour 22 = .ok (.iadd, 1) := by decide +kernel
theorem dX12_addFour_23 : decode cX12_addFour 23 = .ok (.iload 4, 2) := by decide +kernel
theorem dX12_addFour_25 : decode cX12_addFour 25 = .ok (.iastore, 1) := by decide +kernel
theorem dX12_addFour_26 : decode cX12_addFour 26 = .ok (.aload_n 0, 1) := by decide +kernel
theorem dX12_addFour_27 : decode cX12_addFour 27 = .ok (.getfield 7, 3) := by decide +kernel
theorem dX12_addFour_30 : decode cX12_addFour 30 = .ok (.iload_n 1, 1) := by decide +kernel
theorem dX12_addFour_31 : decode cX12_addFour 31 = .ok (.iconst 3, 1) := by decide +kernel
theorem dX12_addFour_32 : decode cX12_addFour 32 = .ok (.iadd, 1) := by decide +kernel
theorem dX12_addFour_33 : decode cX12_addFour 33 = .ok (.iload 5, 2) := by decide +kernel
theorem dX12_addFour_35 : decode cX12_addFour 35 = .ok (.iastore, 1) := by decide +kernel
theorem dX12_addFour_36 : decode cX12_addFour 36 = .ok (.return_, 1) := by decide +kernel
theorem dX12_alter_0 : decode cX12_alter 0 = .ok (.aload_n 0, 1) := by decide +kernel
theorem dX12_alter_1 : decode cX12_alter 1 = .ok (.iconst 0, 1) := by decide +kernel
theorem dX12_alter_2 : decode cX12_alter 2 = .ok (.putfield 92, 3) := by decide +kernel
theorem dX12_alter_5 : decode cX12_alter 5 = .ok (.iload_n 2, 1) := by decide +kernel
theorem dX12_alter_6 : decode cX12_alter 6 = .ok (.i2l, 1) := by decide +kernel
theorem dX12_alter_7 : decode cX12_alter 7 = .ok (.lconst 1, 1) := by decide +kernel
theorem dX12_alter_8 : decode cX12_alter 8 = .ok (.ldc2_w 116, 3) := by decide +kernel
theorem dX12_alter_11 : decode cX12_alter 11 = .ok (.invokestatic 100, 3) := by decide +kernel
theorem dX12_alter_14 : decode cX12_alter 14 = .ok (.ifCond .ne 9, 3) := by decide +kernel
theorem dX12_alter_17 : decode cX12_alter 17 = .ok (.aload_n 0, 1) := by decide +kernel
theorem dX12_alter_18 : decode cX12_alter 18 = .ok (.iconst (-1), 1) := by decide +kernel
theorem dX12_alter_19 : decode cX12_alter 19 = .ok (.invokevirtual 106, 3) := by decide +kernel
theorem dX12_alter_22 : decode cX12_alter 22 = .ok (.ireturn, 1) := by decide +kernel
theorem dX12_alter_23 : decode cX12_alter 23 = .ok (.aload_n 0, 1) := by decide +kernel
theorem dX12_alter_24 : decode cX12_alter 24 = .ok (.iload_n 1, 1) := by decide +kernel
theorem dX12_alter_25 : decode cX12_alter 25 = .ok (.invokevirtual 158, 3) := by decide +kernel
theorem dX12_alter_28 : decode cX12_alter 28 = .ok (.ifCond .ne 10, 3) := by decide +kernel
theorem dX12_alter_31 : decode cX12_alter 31 = .ok (.aload_n 0, 1) := by decide +kernel
theorem dX12_alter_32 : decode cX12_alter 32 = .ok (.bipush (-2), 2) := by decide +kernel
theorem dX12_alter_34 : decode cX12_alter 34 = .ok (.invokevirtual 106, 3) := by decide +kernel
theorem dX12_alter_37 : decode cX12_alter 37 = .ok (.ireturn, 1) := by decide +kernel
theorem dX12_appeal_0 : decode cX12_appeal 0 = .ok (.aload_n 0, 1) := by decide +kernel
theorem dX12_appeal_1 : decode cX12_appeal 1 = .ok (.iconst 0, 1) := by decide +kernel
theorem dX12_appeal_2 : decode cX12_appeal 2 = .ok (.putfield 92, 3) := by decide +kernel
theorem dX12_appeal_5 : decode cX12_appeal 5 = .ok (.iload_n 2, 1) := by decide +kernel
theorem dX12_appeal_6 : decode cX12_appeal 6 = .ok (.i2l, 1) := by decide +kernel
theorem dX12_appeal_7 : decode cX12_appeal 7 = .ok (.lconst 0, 1) := by decide +kernel
theorem dX12_appeal_8 : decode cX12_appeal 8 = .ok (.ldc2_w 151, 3) := by decide +kernel
theorem dX12_appeal_11 : decode cX12_appeal 11 = .ok (.invokestatic 100, 3) := by decide +kernel
theorem dX12_appeal_14 : decode cX12_appeal 14 = .ok (.ifCond .eq 10, 3) := by decide +kernel
theorem dX12_appeal_17 : decode cX12_appeal 17 = .ok (.iload_n 3, 1) := by decide +kernel
theorem dX12_appeal_18 : decode cX12_appeal 18 = .ok (.invokestatic 127, 3) := by decide +kernel
theorem dX12_appeal_21 : decode cX12_appeal 21 = .ok (.ifCond .ne 9, 3) := by decide +kernel
theorem dX12_appeal_24 : decode cX12_appeal 24 = .ok (.aload_n 0, 1) := by decide +kernel
theorem dX12_appeal_25 : decode cX12_appeal 25 = .ok (.iconst (-1), 1) := by decide +kernel
theorem dX12_appeal_26 : decode cX12_appeal 26 = .ok (.invokevirtual 106, 3) := by decide +kernel
theorem dX12_appeal_29 : decode cX12_appeal 29 = .ok (.ireturn, 1) := by decide +kernel
theorem dX12_appeal_30 : decode cX12_appeal 30 = .ok (.aload_n 0, 1) := by decide +kernel
theorem dX12_appeal_31 : decode cX12_appeal 31 = .ok (.iload_n 1, 1) := by decide +kernel
theorem dX12_appeal_32 : decode cX12_appeal 32 = .ok (.invokevirtual 158, 3) := by decide +kernel
theorem dX12_appeal_35 : decode cX12_appeal 35 = .ok (.ifCond .ne 10, 3) := by decide +kernel
theorem dX12_appeal_38 : decode cX12_appeal 38 = .ok (.aload_n 0, 1) := by decide +kernel
theorem dX12_appeal_39 : decode cX12_appeal 39 = .ok (.bipush (-2), 2) := by decide +kernel
theorem dX12_appeal_41 : decode cX12_appeal 41 = .ok (.invokevirtual 106, 3) := by decide +kernel
theorem dX12_appeal_44 : decode cX12_appeal 44 = .ok (.ireturn, 1) := by decide +kernel
theorem dX12_back_0 : decode cX12_back 0 = .ok (.aload_n 0, 1) := by decide +kernel
theorem dX12_back_1 : decode cX12_back 1 = .ok (.iconst 0, 1) := by decide +kernel
theorem dX12_back_2 : decode cX12_back 2 = .ok (.putfield 92, 3) := by decide +kernel
theorem dX12_back_5 : decode cX12_back 5 = .ok (.iload_n 1, 1) := by decide +kernel
theorem dX12_back_6 : decode cX12_back 6 = .ok (.i2l, 1) := by decide +kernel
theorem dX12_back_7 : decode cX12_back 7 = .ok (.lconst 0, 1) := by decide +kernel
theorem dX12_back_8 : decode cX12_back 8 = .ok (.lconst 1, 1) := by decide +kernel
theorem dX12_back_9 : decode cX12_back 9 = .ok (.invokestatic 100, 3) := by decide +kernel
theorem dX12_back_12 : decode cX12_back 12 = .ok (.ifCond .ne 9, 3) := by decide +kernel
theorem dX12_back_15 : decode cX12_back 15 = .ok (.aload_n 0, 1) := by decide +kernel
theorem dX12_back_16 : decode cX12_back 16 = .ok (.iconst (-1), 1) := by decide +kernel
theorem dX12_back_17 : decode cX12_back 17 = .ok (.invokevirtual 106, 3) := by decide +kernel
theorem dX12_back_20 : decode cX12_back 20 = .ok (.ireturn, 1) := by decide +kernel
theorem dX12_back_21 : decode cX12_back 21 = .ok (.aload_n 0, 1) := by decide +kernel
theorem dX12_back_22 : decode cX12_back 22 = .ok (.getfield 17, 3) := by decide +kernel
theorem dX12_back_25 : decode cX12_back 25 = .ok (.iload_n 1, 1) := by decide +kernel
theorem dX12_back_26 : decode cX12_back 26 = .ok (.baload, 1) := by decide +kernel
theorem dX12_back_27 : decode cX12_back 27 = .ok (.ifCond .ne 10, 3) := by decide +kernel
theorem dX12_back_30 : decode cX12_back 30 = .ok (.aload_n 0, 1) := by decide +kernel
theorem dX12_back_31 : decode cX12_back 31 = .ok (.bipush (-2), 2) := by decide +kernel
theorem dX12_back_33 : decode cX12_back 33 = .ok (.invokevirtual 106, 3) := by decide +kernel
theorem dX12_back_36 : decode cX12_back 36 = .ok (.ireturn, 1) := by decide +kernel
theorem dX12_begin_0 : decode cX12_begin 0 = .ok (.aload_n 0, 1) := by decide +kernel
theorem dX12_begin_1 : decode cX12_begin 1 = .ok (.iconst 0, 1) := by decide +kernel
theorem dX12_begin_2 : decode cX12_begin 2 = .ok (.putfield 199, 3) := by decide +kernel
theorem dX12_begin_5 : decode cX12_begin 5 = .ok (.aload_n 0, 1) := by decide +kernel
theorem dX12_begin_6 : decode cX12_begin 6 = .ok (.iconst 0, 1) := by decide +kernel
theorem dX12_begin_7 : decode cX12_begin 7 = .ok (.putfield 202, 3) := by decide +kernel
theorem dX12_begin_10 : decode cX12_begin 10 = .ok (.aload_n 0, 1) := by decide +kernel
theorem dX12_begin_11 : decode cX12_begin 11 = .ok (.iconst (-1), 1) := by decide +kernel
theorem dX12_begin_12 : decode cX12_begin 12 = .ok (.putfield 36, 3) := by decide +kernel
theorem dX12_begin_15 : decode cX12_begin 15 = .ok (.aload_n 0, 1) := by decide +kernel
theorem dX12_begin_16 : decode cX12_begin 16 = .ok (.invokevirtual 206, 3) := by decide +kernel
theorem dX12_begin_19 : decode cX12_begin 19 = .ok (.return_, 1) := by decide +kernel
theorem dX12_beside_0 : decode cX12_beside 0 = .ok (.aload_n 0, 1) := by decide +kernel
theorem dX12_beside_1 : decode cX12_beside 1 = .ok (.iconst 0, 1) := by decide +kernel
theorem dX12_beside_2 : decode cX12_beside 2 = .ok (.putfield 92, 3) := by decide +kernel
theorem dX12_beside_5 : decode cX12_beside 5 = .ok (.iload_n 1, 1) := by decide +kernel
theorem dX12_beside_6 : decode cX12_beside 6 = .ok (.invokestatic 127, 3) := by decide +kernel
theorem dX12_beside_9 : decode cX12_beside 9 = .ok (.ifCond .eq 21, 3) := by decide +kernel
theorem dX12_beside_12 : decode cX12_beside 12 = .ok (.iload_n 2, 1) := by decide +kernel
theorem dX12_beside_13 : decode cX12_beside 13 = .ok (.invokestatic 127, 3) := by decide +kernel
theorem dX12_beside_16 : decode cX12_beside 16 = .ok (.ifCond .eq 14, 3) := by decide +kernel
theorem dX12_beside_19 : decode cX12_beside 19 = .ok (.aload_n 0, 1) := by decide +kernel
theorem dX12_beside_20 : decode cX12_beside 20 = .ok (.getfield 7, 3) := by decide +kernel
theorem dX12_beside_23 : decode cX12_beside 23 = .ok (.iconst 4, 1) := by decide +kernel
theorem dX12_beside_24 : decode cX12_beside 24 = .ok (.iaload, 1) := by decide +kernel
theorem dX12_beside_25 : decode cX12_beside 25 = .ok (.bipush 20, 2) := by decide +kernel
theorem dX12_beside_27 : decode cX12_beside 27 = .ok (.if_icmp .ne 10, 3) := by decide +kernel
theorem dX12_beside_30 : decode cX12_beside 30 = .ok (.aload_n 0, 1) := by decide +kernel
theorem dX12_beside_31 : decode cX12_beside 31 = .ok (.iconst 0, 1) := by decide +kernel
theorem dX12_beside_32 : decode cX12_beside 32 = .ok (.putfield 193, 3) := by decide +kernel
theorem dX12_beside_35 : decode cX12_beside 35 = .ok (.iconst (-1), 1) := by decide +kernel
theorem dX12_beside_36 : decode cX12_beside 36 = .ok (.ireturn, 1) := by decide +kernel
theorem dX12_beside_37 : decode cX12_beside 37 = .ok (.aload_n 0, 1) := by decide +kernel
theorem dX12_beside_38 : decode cX12_beside 38 = .ok (.iload_n 1, 1) := by decide +kernel
theorem dX12_beside_39 : decode cX12_beside 39 = .ok (.invokevirtual 406, 3) := by decide +kernel
theorem dX12_beside_42 : decode cX12_beside 42 = .ok (.istore_n 3, 1) := by decide +kernel
theorem dX12_beside_43 : decode cX12_beside 43 = .ok (.aload_n 0, 1) := by decide +kernel
theorem dX12_beside_44 : decode cX12_beside 44 = .ok (.iconst 0, 1) := by decide +kernel
theorem dX12_beside_45 : decode cX12_beside 45 = .ok (.putfield 193, 3) := by decide +kernel
theorem dX12_beside_48 : decode cX12_beside 48 = .ok (.iload_n 3, 1) := by decide +kernel
theorem dX12_beside_49 : decode cX12_beside 49 = .ok (.ifCond .ne 5, 3) := by decide +kernel
theorem dX12_beside_52 : decode cX12_beside 52 = .ok (.iconst (-1), 1) := by decide +kernel
theorem dX12_beside_53 : decode cX12_beside 53 = .ok (.ireturn, 1) := by decide +kernel
theorem dX12_cannot_0 : decode cX12_cannot 0 = .ok (.aload_n 0, 1) := by decide +kernel
theorem dX12_cannot_1 : decode cX12_cannot 1 = .ok (.iconst 0, 1) := by decide +kernel
theorem dX12_cannot_2 : decode cX12_cannot 2 = .ok (.putfield 92, 3) := by decide +kernel
theorem dX12_cannot_5 : decode cX12_cannot 5 = .ok (.iload_n 2, 1) := by decide +kernel
theorem dX12_cannot_6 : decode cX12_cannot 6 = .ok (.invokestatic 145, 3) := by decide +kernel
theorem dX12_cannot_9 : decode cX12_cannot 9 = .ok (.ifCond .eq 21, 3) := by decide +kernel
theorem dX12_cannot_12 : decode cX12_cannot 12 = .ok (.iload_n 1, 1) := by decide +kernel
theorem dX12_cannot_13 : decode cX12_cannot 13 = .ok (.i2l, 1) := by decide +kernel
theorem dX12_cannot_14 : decode cX12_cannot 14 = .ok (.lconst 0, 1) := by decide +kernel
theorem dX12_cannot_15 : decode cX12_cannot 15 = .ok (.iload_n 2, 1) := by decide +kernel
theorem dX12_cannot_16 : decode cX12_cannot 16 = .ok (.i2l, 1) := by decide +kernel
theorem dX12_cannot_17 : decode cX12_cannot 17 = .ok (.invokestatic 100, 3) := by decide +kernel
theorem dX12_cannot_20 : decode cX12_cannot 20 = .ok (.ifCond .eq 10, 3) := by decide +kernel
theorem dX12_cannot_23 : decode cX12_cannot 23 = .ok (.iload_n 3, 1) := by decide +kernel
theorem dX12_cannot_24 : decode cX12_cannot 24 = .ok (.invokestatic 127, 3) := by decide +kernel
theorem dX12_cannot_27 : decode cX12_cannot 27 = .ok (.ifCond .ne 5, 3) := by decide +kernel
theorem dX12_cannot_30 : decode cX12_cannot 30 = .ok (.iconst (-1), 1) := by decide +kernel
theorem dX12_cannot_31 : decode cX12_cannot 31 = .ok (.ireturn, 1) := by decide +kernel
theorem dX12_cannot_32 : decode cX12_cannot 32 = .ok (.aload_n 0, 1) := by decide +kernel
theorem dX12_cannot_33 : decode cX12_cannot 33 = .ok (.iload_n 3, 1) := by decide +kernel
theorem dX12_cannot_34 : decode cX12_cannot 34 = .ok (.invokevirtual 186, 3) := by decide +kernel
theorem dX12_cannot_37 : decode cX12_cannot 37 = .ok (.iconst 0, 1) := by decide +kernel
theorem dX12_cannot_38 : decode cX12_cannot 38 = .ok (.istore 5, 2) := by decide +kernel
theorem dX12_cannot_40 : decode cX12_cannot 40 = .ok (.iconst (-1), 1) := by decide +kernel
theorem dX12_cannot_41 : decode cX12_cannot 41 = .ok (.istore 6, 2) := by decide +kernel
theorem dX12_cannot_43 : decode cX12_cannot 43 = .ok (.iconst 0, 1) := by decide +kernel
theorem dX12_cannot_44 : decode cX12_cannot 44 = .ok (.istore 7, 2) := by decide +kernel
theorem dX12_cannot_46 : decode cX12_cannot 46 = .ok (.iload 7, 2) := by decide +kernel
theorem dX12_cannot_48 : decode cX12_cannot 48 = .ok (.aload_n 0, 1) := by decide +kernel
theorem dX12_cannot_49 : decode cX12_cannot 49 = .ok (.getfield 7, 3) := by decide +kernel
theorem dX12_cannot_52 : decode cX12_cannot 52 = .ok (.iconst 3, 1) := by decide +kernel
theorem dX12_cannot_53 : decode cX12_cannot 53 = .ok (.iaload, 1) := by decide +kernel
theorem dX12_cannot_54 : decode cX12_cannot 54 = .ok (.if_icmp .ge 60, 3) := by decide +kernel
theorem dX12_cannot_114 : decode cX12_cannot 114 = .ok (.iload 4, 2) := by decide +kernel
theorem dX12_cannot_116 : decode cX12_cannot 116 = .ok (.iconst (-1), 1) := by decide +kernel
theorem dX12_cannot_117 : decode cX12_cannot 117 = .ok (.if_icmp .ne 8, 3) := by decide +kernel
theorem dX12_cannot_120 : decode cX12_cannot 120 = .ok (.iload 5, 2) := by decide +kernel
theorem dX12_cannot_122 : decode cX12_cannot 122 = .ok (.goto 5, 3) := by decide +kernel
theorem dX12_cannot_125 : decode cX12_cannot 125 = .ok (.iload 6, 2) := by decide +kernel
theorem dX12_cannot_127 : decode cX12_cannot 127 = .ok (.ireturn, 1) := by decide +kernel
theorem dX12_child_0 : decode cX12_child 0 = .ok (.aload_n 0, 1) := by decide +kernel
theorem dX12_child_1 : decode cX12_child 1 = .ok (.iconst 0, 1) := by decide +kernel
theorem dX12_child_2 : decode cX12_child 2 = .ok (.putfield 92, 3) := by decide +kernel
theorem dX12_child_5 : decode cX12_child 5 = .ok (.iload_n 1, 1) := by decide +kernel
theorem dX12_child_6 : decode cX12_child 6 = .ok (.i2l, 1) := by decide +kernel
theorem dX12_child_7 : decode cX12_child 7 = .ok (.ldc2_w 110, 3) := by decide +kernel
theorem dX12_child_10 : decode cX12_child 10 = .ok (.ldc2_w 112, 3) := by decide +kernel
theorem dX12_child_13 : decode cX12_child 13 = .ok (.invokestatic 100, 3) := by decide +kernel
theorem dX12_child_16 : decode cX12_child 16 = .ok (.ifCond .eq 43, 3) := by decide +kernel
theorem dX12_child_19 : decode cX12_child 19 = .ok (.iload_n 3, 1) := by decide +kernel
theorem dX12_child_20 : decode cX12_child 20 = .ok (.i2l, 1) := by decide +kernel
theorem dX12_child_21 : decode cX12_child 21 = .ok (.ldc2_w 114, 3) := by decide +kernel
theorem dX12_child_24 : decode cX12_child 24 = .ok (.ldc2_w 116, 3) := by decide +kernel
theorem dX12_child_27 : decode cX12_child 27 = .ok (.invokestatic 100, 3) := by decide +kernel
theorem dX12_child_30 : decode cX12_child 30 = .ok (.ifCond .eq 29, 3) := by decide +kernel
theorem dX12_child_33 : decode cX12_child 33 = .ok (.iload 4, 2) := by decide +kernel
theorem dX12_child_35 : decode cX12_child 35 = .ok (.i2l, 1) := by decide +kernel
theorem dX12_child_36 : decode cX12_child 36 = .ok (.lconst 0, 1) := by decide +kernel
theorem dX12_child_37 : decode cX12_child 37 = .ok (.ldc2_w 118, 3) := by decide +kernel
theorem dX12_child_40 : decode cX12_child 40 = .ok (.invokestatic 100, 3) := by decide +kernel
theorem dX12_child_43 : decode cX12_child 43 = .ok (.ifCond .eq 16, 3) := by decide +kernel
theorem dX12_child_46 : decode cX12_child 46 = .ok (.iload 5, 2) := by decide +kernel
theorem dX12_child_48 : decode cX12_child 48 = .ok (.i2l, 1) := by decide +kernel
theorem dX12_child_49 : decode cX12_child 49 = .ok (.lconst 0, 1) := by decide +kernel
theorem dX12_child_50 : decode cX12_child 50 = .ok (.ldc2_w 118, 3) := by decide +kernel
theorem dX12_child_53 : decode cX12_child 53 = .ok (.invokestatic 100, 3) := by decide +kernel
theorem dX12_child_56 : decode cX12_child 56 = .ok (.ifCond .ne 9, 3) := by decide +kernel
theorem dX12_child_59 : decode cX12_child 59 = .ok (.aload_n 0, 1) := by decide +kernel
theorem dX12_child_60 : decode cX12_child 60 = .ok (.iconst (-1), 1) := by decide +kernel
theorem dX12_child_61 : decode cX12_child 61 = .ok (.invokevirtual 106, 3) := by decide +kernel
theorem dX12_child_64 : decode cX12_child 64 = .ok (.ireturn, 1) := by decide +kernel
theorem dX12_child_65 : decode cX12_child 65 = .ok (.aload_n 0, 1) := by decide +kernel
theorem dX12_child_66 : decode cX12_child 66 = .ok (.getfield 7, 3) := by decide +kernel
theorem dX12_child_69 : decode cX12_child 69 = .ok (.iconst 0, 1) := by decide +kernel
theorem dX12_child_70 : decode cX12_child 70 = .ok (.iaload, 1) := by decide +kernel
theorem dX12_child_71 : decode cX12_child 71 = .ok (.bipush 40, 2) := by decide +kernel
theorem dX12_child_73 : decode cX12_child 73 = .ok (.if_icmp .ne 10, 3) := by decide +kernel
theorem dX12_child_83 : decode cX12_child 83 = .ok (.aload_n 0, 1) := by decide +kernel
theorem dX12_child_84 : decode cX12_child 84 = .ok (.getfield 7, 3) := by decide +kernel
theorem dX12_child_87 : decode cX12_child 87 = .ok (.iconst 0, 1) := by decide +kernel
theorem dX12_child_88 : decode cX12_child 88 = .ok (.iaload, 1) := by decide +kernel
theorem dX12_child_89 : decode cX12_child 89 = .ok (.invokestatic 120, 3) := by decide +kernel
theorem dX12_child_92 : decode cX12_child 92 = .ok (.istore 6, 2) := by decide +kernel
theorem dX12_child_94 : decode cX12_child 94 = .ok (.aload_n 0, 1) := by decide +kernel
theorem dX12_child_95 : decode cX12_child 95 = .ok (.iload 6, 2) := by decide +kernel
theorem dX12_child_97 : decode cX12_child 97 = .ok (.iload_n 1, 1) := by decide +kernel
theorem dX12_child_98 : decode cX12_child 98 = .ok (.iload_n 2, 1) := by decide +kernel
theorem dX12_child_99 : decode cX12_child 99 = .ok (.ifCond .eq 7, 3) := by decide +kernel
theorem dX12_child_102 : decode cX12_child 102 = .ok (.iconst 1, 1) := by decide +kernel
theorem dX12_child_103 : decode cX12_child 103 = .ok (.goto 4, 3) := by decide +kernel
theorem dX12_child_106 : decode cX12_child 106 = .ok (.iconst 0, 1) := by decide +kernel
theorem dX12_child_107 : decode cX12_child 107 = .ok (.iload_n 3, 1) := by decide +kernel
theorem dX12_child_108 : decode cX12_child 108 = .ok (.iload 4, 2) := by decide +kernel
theorem dX12_child_110 : decode cX12_child 110 = .ok (.invokevirtual 123, 3) := by decide +kernel
theorem dX12_child_113 : decode cX12_child 113 = .ok (.aload_n 0, 1) := by decide +kernel
theorem dX12_child_114 : decode cX12_child 114 = .ok (.getfield 7, 3) := by decide +kernel
theorem dX12_child_117 : decode cX12_child 117 = .ok (.iload 6, 2) := by decide +kernel
theorem dX12_child_119 : decode cX12_child 119 = .ok (.iconst 4, 1) := by decide +kernel
theorem dX12_child_120 : decode cX12_child 120 = .ok (.iadd, 1) := by decide +kernel
theorem dX12_child_121 : decode cX12_child 121 = .ok (.iload 5, 2) := by decide +kernel
theorem dX12_child_123 : decode cX12_child 123 = .ok (.iastore, 1) := by decide +kernel
theorem dX12_child_124 : decode cX12_child 124 = .ok (.iconst 5, 1) := by decide +kernel
theorem dX12_child_125 : decode cX12_child 125 = .ok (.istore 7, 2) := by decide +kernel
theorem dX12_child_127 : decode cX12_child 127 = .ok (.iload 7, 2) := by decide +kernel
theorem dX12_child_129 : decode cX12_child 129 = .ok (.bipush 17, 2) := by decide +kernel
theorem dX12_child_131 : decode cX12_child 131 = .ok (.if_icmp .ge 31, 3) := by decide +kernel
theorem dX12_child_134 : decode cX12_child 134 = .ok (.aload_n 0, 1) := by decide +kernel
theorem dX12_child_135 : decode cX12_child 135 = .ok (.getfield 7, 3) := by decide +kernel
theorem dX12_child_138 : decode cX12_child 138 = .ok (.iload 6, 2) := by decide +kernel
theorem dX12_child_140 : decode cX12_child 140 = .ok (.iload 7, 2) := by decide +kernel
theorem dX12_child_142 : decode cX12_child 142 = .ok (.iadd, 1) := by decide +kernel
theorem dX12_child_143 : decode cX12_child 143 = .ok (.iload 7, 2) := by decide +kernel
theorem dX12_child_145 : decode cX12_child 145 = .ok (.bipush 13, 2) := by decide +kernel
theorem dX12_child_147 : decode cX12_child 147 = .ok (.if_icmp .ge 7, 3) := by decide +kernel
theorem dX12_child_150 : decode cX12_child 150 = .ok (.iconst (-1), 1) := by decide +kernel
theorem dX12_child_151 : decode cX12_child 151 = .ok (.goto 4, 3) := by decide +kernel
theorem dX12_child_154 : decode cX12_child 154 = .ok (.iconst 0, 1) := by decide +kernel
theorem dX12_child_155 : decode cX12_child 155 = .ok (.iastore, 1) := by decide +kernel
theorem dX12_child_156 : decode cX12_child 156 = .ok (.iinc 7 1, 3) := by decide +kernel
theorem dX12_child_159 : decode cX12_child 159 = .ok (.goto (-32), 3) := by decide +kernel
theorem dX12_child_162 : decode cX12_child 162 = .ok (.aload_n 0, 1) := by decide +kernel
theorem dX12_child_163 : decode cX12_child 163 = .ok (.getfield 7, 3) := by decide +kernel
theorem dX12_child_166 : decode cX12_child 166 = .ok (.iconst 0, 1) := by decide +kernel
theorem dX12_child_167 : decode cX12_child 167 = .ok (.dup2, 1) := by decide +kernel
theorem dX12_child_168 : decode cX12_child 168 = .ok (.iaload, 1) := by decide +kernel
theorem dX12_child_169 : decode cX12_child 169 = .ok (.iconst 1, 1) := by decide +kernel
theorem dX12_child_170 : decode cX12_child 170 = .ok (.iadd, 1) := by decide +kernel
theorem dX12_child_171 : decode cX12_child 171 = .ok (.iastore, 1) := by decide +kernel
theorem dX12_child_172 : decode cX12_child 172 = .ok (.aload_n 0, 1) := by decide +kernel
theorem dX12_child_173 : decode cX12_child 173 = .ok (.aload_n 0, 1) := by decide +kernel
theorem dX12_child_174 : decode cX12_child 174 = .ok (.getfield 7, 3) := by decide +kernel
theorem dX12_child_177 : decode cX12_child 177 = .ok (.iconst 0, 1) := by decide +kernel
theorem dX12_child_178 : decode cX12_child 178 = .ok (.iaload, 1) := by decide +kernel
theorem dX12_child_179 : decode cX12_child 179 = .ok (.iconst 1, 1) := by decide +kernel
theorem dX12_child_180 : decode cX12_child 180 = .ok (.isub, 1) := by decide +kernel
theorem dX12_child_181 : decode cX12_child 181 = .ok (.invokevirtual 106, 3) := by decide +kernel
theorem dX12_child_184 : decode cX12_child 184 = .ok (.ireturn, 1) := by decide +kernel
theorem dX12_childAt_0 : decode cX12_childAt 0 = .ok (.bipush 20, 2) := by decide +kernel
theorem dX12_childAt_2 : decode cX12_childAt 2 = .ok (.bipush 17, 2) := by decide +kernel
theorem dX12_childAt_4 : decode cX12_childAt 4 = .ok (.iload_n 0, 1) := by decide +kernel
theorem dX12_childAt_5 : decode cX12_childAt 5 = .ok (.imul, 1) := by decide +kernel
theorem dX12_childAt_6 : decode cX12_childAt 6 = .ok (.iadd, 1) := by decide +kernel
theorem dX12_childAt_7 : decode cX12_childAt 7 = .ok (.ireturn, 1) := by decide +kernel
theorem dX12_comes_0 : decode cX12_comes 0 = .ok (.aload_n 0, 1) := by decide +kernel
theorem dX12_comes_1 : decode cX12_comes 1 = .ok (.iconst 0, 1) := by decide +kernel
theorem dX12_comes_2 : decode cX12_comes 2 = .ok (.putfield 92, 3) := by decide +kernel
theorem dX12_comes_5 : decode cX12_comes 5 = .ok (.iload_n 3, 1) := by decide +kernel
theorem dX12_comes_6 : decode cX12_comes 6 = .ok (.invokestatic 127, 3) := by decide +kernel
theorem dX12_comes_9 : decode cX12_comes 9 = .ok (.ifCond .ne 9, 3) := by decide +kernel
theorem dX12_comes_12 : decode cX12_comes 12 = .ok (.aload_n 0, 1) := by decide +kernel
theorem dX12_comes_13 : decode cX12_comes 13 = .ok (.iconst (-1), 1) := by decide +kernel
theorem dX12_comes_14 : decode cX12_comes 14 = .ok (.invokevirtual 106, 3) := by decide +kernel
theorem dX12_comes_17 : decode cX12_comes 17 = .ok (.ireturn, 1) := by decide +kernel
theorem dX12_comes_18 : decode cX12_comes 18 = .ok (.aload_n 0, 1) := by decide +kernel
theorem dX12_comes_19 : decode cX12_comes 19 = .ok (.iload_n 1, 1) := by decide +kernel
theorem dX12_comes_20 : decode cX12_comes 20 = .ok (.invokevirtual 138, 3) := by decide +kernel
theorem dX12_comes_23 : decode cX12_comes 23 = .ok (.ifCond .eq 11, 3) := by decide +kernel
theorem dX12_comes_34 : decode cX12_comes 34 = .ok (.aload_n 0, 1) := by decide +kernel
theorem dX12_comes_35 : decode cX12_comes 35 = .ok (.bipush (-2), 2) := by decide +kernel
theorem dX12_comes_37 : decode cX12_comes 37 = .ok (.invokevirtual 106, 3) := by decide +kernel
theorem dX12_comes_40 : decode cX12_comes 40 = .ok (.ireturn, 1) := by decide +kernel
theorem dX12_count_0 : decode cX12_count 0 = .ok (.aload_n 0, 1) := by decide +kernel
theorem dX12_count_1 : decode cX12_count 1 = .ok (.iconst 0, 1) := by decide +kernel
theorem dX12_count_2 : decode cX12_count 2 = .ok (.putfield 92, 3) := by decide +kernel
theorem dX12_count_5 : decode cX12_count 5 = .ok (.iload_n 1, 1) := by decide +kernel
theorem dX12_count_6 : decode cX12_count 6 = .ok (.tableswitch 125 0 9 #[54, 61, 68, 75, 82, 89, 96, 104, 112, 120], 54) := by decide +kernel
theorem dX12_count_60 : decode cX12_count 60 = .ok (.aload_n 0, 1) := by decide +kernel
theorem dX12_count_61 : decode cX12_count 61 = .ok (.getfield 7, 3) := by decide +kernel
theorem dX12_count_64 : decode cX12_count 64 = .ok (.iconst 0, 1) := by decide +kernel
theorem dX12_count_65 : decode cX12_count 65 = .ok (.iaload, 1) := by decide +kernel
theorem dX12_count_66 : decode cX12_count 66 = .ok (.ireturn, 1) := by decide +kernel
theorem dX12_count_67 : decode cX12_count 67 = .ok (.aload_n 0, 1) := by decide +kernel
theorem dX12_count_68 : decode cX12_count 68 = .ok (.getfield 7, 3) := by decide +kernel
theorem dX12_count_71 : decode cX12_count 71 = .ok (.iconst 1, 1) := by decide +kernel
theorem dX12_count_72 : decode cX12_count 72 = .ok (.iaload, 1) := by decide +kernel
theorem dX12_count_73 : decode cX12_count 73 = .ok (.ireturn, 1) := by decide +kernel
theorem dX12_count_74 : decode cX12_count 74 = .ok (.aload_n 0, 1) := by decide +kernel
theorem dX12_count_75 : decode cX12_count 75 = .ok (.getfield 7, 3) := by decide +kernel
theorem dX12_count_78 : decode cX12_count 78 = .ok (.iconst 2, 1) := by decide +kernel
theorem dX12_count_79 : decode cX12_count 79 = .ok (.iaload, 1) := by decide +kernel
theorem dX12_count_80 : decode cX12_count 80 = .ok (.ireturn, 1) := by decide +kernel
theorem dX12_count_81 : decode cX12_count 81 = .ok (.aload_n 0, 1) := by decide +kernel
theorem dX12_count_82 : decode cX12_count 82 = .ok (.getfield 7, 3) := by decide +kernel
theorem dX12_count_85 : decode cX12_count 85 = .ok (.iconst 3, 1) := by decide +kernel
theorem dX12_count_86 : decode cX12_count 86 = .ok (.iaload, 1) := by decide +kernel
theorem dX12_count_87 : decode cX12_count 87 = .ok (.ireturn, 1) := by decide +kernel
theorem dX12_count_88 : decode cX12_count 88 = .ok (.aload_n 0, 1) := by decide +kernel
theorem dX12_count_89 : decode cX12_count 89 = .ok (.getfield 7, 3) := by decide +kernel
theorem dX12_count_92 : decode cX12_count 92 = .ok (.iconst 4, 1) := by decide +kernel
theorem dX12_count_93 : decode cX12_count 93 = .ok (.iaload, 1) := by decide +kernel
theorem dX12_count_94 : decode cX12_count 94 = .ok (.ireturn, 1) := by decide +kernel
theorem dX12_count_95 : decode cX12_count 95 = .ok (.aload_n 0, 1) := by decide +kernel
theorem dX12_count_96 : decode cX12_count 96 = .ok (.getfield 7, 3) := by decide +kernel
theorem dX12_count_99 : decode cX12_count 99 = .ok (.iconst 5, 1) := by decide +kernel
theorem dX12_count_100 : decode cX12_count 100 = .ok (.iaload, 1) := by decide +kernel
theorem dX12_count_101 : decode cX12_count 101 = .ok (.ireturn, 1) := by decide +kernel
theorem dX12_count_102 : decode cX12_count 102 = .ok (.aload_n 0, 1) := by decide +kernel
theorem dX12_count_103 : decode cX12_count 103 = .ok (.getfield 7, 3) := by decide +kernel
theorem dX12_count_106 : decode cX12_count 106 = .ok (.bipush 6, 2) := by decide +kernel
theorem dX12_count_108 : decode cX12_count 108 = .ok (.iaload, 1) := by decide +kernel
theorem dX12_count_109 : decode cX12_count 109 = .ok (.ireturn, 1) := by decide +kernel
theorem dX12_count_110 : decode cX12_count 110 = .ok (.aload_n 0, 1) := by decide +kernel
theorem dX12_count_111 : decode cX12_count 111 = .ok (.getfield 7, 3) := by decide +kernel
theorem dX12_count_114 : decode cX12_count 114 = .ok (.bipush 7, 2) := by decide +kernel
theorem dX12_count_116 : decode cX12_count 116 = .ok (.iaload, 1) := by decide +kernel
theorem dX12_count_117 : decode cX12_count 117 = .ok (.ireturn, 1) := by decide +kernel
theorem dX12_count_118 : decode cX12_count 118 = .ok (.aload_n 0, 1) := by decide +kernel
theorem dX12_count_119 : decode cX12_count 119 = .ok (.getfield 7, 3) := by decide +kernel
theorem dX12_count_122 : decode cX12_count 122 = .ok (.bipush 8, 2) := by decide +kernel
theorem dX12_count_124 : decode cX12_count 124 = .ok (.iaload, 1) := by decide +kernel
theorem dX12_count_125 : decode cX12_count 125 = .ok (.ireturn, 1) := by decide +kernel
theorem dX12_count_126 : decode cX12_count 126 = .ok (.aload_n 0, 1) := by decide +kernel
theorem dX12_count_127 : decode cX12_count 127 = .ok (.getfield 193, 3) := by decide +kernel
theorem dX12_count_130 : decode cX12_count 130 = .ok (.ireturn, 1) := by decide +kernel
theorem dX12_count_131 : decode cX12_count 131 = .ok (.iconst (-1), 1) := by decide +kernel
theorem dX12_count_132 : decode cX12_count 132 = .ok (.ireturn, 1) := by decide +kernel
theorem dX12_dip_0 : decode cX12_dip 0 = .ok (.aload_n 0, 1) := by decide +kernel
theorem dX12_dip_1 : decode cX12_dip 1 = .ok (.iconst 0, 1) := by decide +kernel
theorem dX12_dip_2 : decode cX12_dip 2 = .ok (.putfield 92, 3) := by decide +kernel
theorem dX12_dip_5 : decode cX12_dip 5 = .ok (.aload_n 0, 1) := by decide +kernel
theorem dX12_dip_6 : decode cX12_dip 6 = .ok (.iload_n 1, 1) := by decide +kernel
theorem dX12_dip_7 : decode cX12_dip 7 = .ok (.invokevirtual 131, 3) := by decide +kernel
theorem dX12_dip_10 : decode cX12_dip 10 = .ok (.ifCond .eq 42, 3) := by decide +kernel
theorem dX12_dip_52 : decode cX12_dip 52 = .ok (.iconst (-1), 1) := by decide +kernel
theorem dX12_dip_53 : decode cX12_dip 53 = .ok (.ireturn, 1) := by decide +kernel
theorem dX12_dips_0 : decode cX12_dips 0 = .ok (.aload_n 0, 1) := by decide +kernel
theorem dX12_dips_1 : decode cX12_dips 1 = .ok (.iconst 0, 1) := by decide +kernel
theorem dX12_dips_2 : decode cX12_dips 2 = .ok (.putfield 92, 3) := by decide +kernel
theorem dX12_dips_5 : decode cX12_dips 5 = .ok (.iload_n 1, 1) := by decide +kernel
theorem dX12_dips_6 : decode cX12_dips 6 = .ok (.i2l, 1) := by decide +kernel
theorem dX12_dips_7 : decode cX12_dips 7 = .ok (.lconst 0, 1) := by decide +kernel
theorem dX12_dips_8 : decode cX12_dips 8 = .ok (.ldc2_w 543, 3) := by decide +kernel
theorem dX12_dips_11 : decode cX12_dips 11 = .ok (.invokestatic 100, 3) := by decide +kernel
theorem dX12_dips_14 : decode cX12_dips 14 = .ok (.ifCond .eq 33, 3) := by decide +kernel
theorem dX12_dips_17 : decode cX12_dips 17 = .ok (.iload_n 2, 1) := by decide +kernel
theorem dX12_dips_18 : decode cX12_dips 18 = .ok (.invokestatic 127, 3) := by decide +kernel
theorem dX12_dips_21 : decode cX12_dips 21 = .ok (.ifCond .eq 26, 3) := by decide +kernel
theorem dX12_dips_24 : decode cX12_dips 24 = .ok (.iload_n 3, 1) := by decide +kernel
theorem dX12_dips_25 : decode cX12_dips 25 = .ok (.i2l, 1) := by decide +kernel
theorem dX12_dips_26 : decode cX12_dips 26 = .ok (.lconst 1, 1) := by decide +kernel
theorem dX12_dips_27 : decode cX12_dips 27 = .ok (.ldc2_w 251, 3) := by decide +kernel
theorem dX12_dips_30 : decode cX12_dips 30 = .ok (.invokestatic 100, 3) := by decide +kernel
theorem dX12_dips_33 : decode cX12_dips 33 = .ok (.ifCond .eq 14, 3) := by decide +kernel
theorem dX12_dips_36 : decode cX12_dips 36 = .ok (.iload 4, 2) := by decide +kernel
theorem dX12_dips_38 : decode cX12_dips 38 = .ok (.i2l, 1) := by decide +kernel
theorem dX12_dips_39 : decode cX12_dips 39 = .ok (.lconst 0, 1) := by decide +kernel
theorem dX12_dips_40 : decode cX12_dips 40 = .ok (.lconst 1, 1) := by decide +kernel
theorem dX12_dips_41 : decode cX12_dips 41 = .ok (.invokestatic 100, 3) := by decide +kernel
theorem dX12_dips_44 : decode cX12_dips 44 = .ok (.ifCond .ne 5, 3) := by decide +kernel
theorem dX12_dips_47 : decode cX12_dips 47 = .ok (.iconst (-1), 1) := by decide +kernel
theorem dX12_dips_48 : decode cX12_dips 48 = .ok (.ireturn, 1) := by decide +kernel
theorem dX12_dips_49 : decode cX12_dips 49 = .ok (.aload_n 0, 1) := by decide +kernel
theorem dX12_dips_50 : decode cX12_dips 50 = .ok (.iload_n 2, 1) := by decide +kernel
theorem dX12_dips_51 : decode cX12_dips 51 = .ok (.invokevirtual 186, 3) := by decide +kernel
theorem dX12_dips_54 : decode cX12_dips 54 = .ok (.iconst 0, 1) := by decide +kernel
theorem dX12_dips_55 : decode cX12_dips 55 = .ok (.istore 5, 2) := by decide +kernel
theorem dX12_dips_57 : decode cX12_dips 57 = .ok (.lconst 0, 1) := by decide +kernel
theorem dX12_dips_58 : decode cX12_dips 58 = .ok (.lstore 6, 2) := by decide +kernel
theorem dX12_dips_60 : decode cX12_dips 60 = .ok (.lconst 0, 1) := by decide +kernel
theorem dX12_dips_61 : decode cX12_dips 61 = .ok (.lstore 8, 2) := by decide +kernel
theorem dX12_dips_63 : decode cX12_dips 63 = .ok (.iconst 0, 1) := by decide +kernel
theorem dX12_dips_64 : decode cX12_dips 64 = .ok (.istore 10, 2) := by decide +kernel
theorem dX12_dips_66 : decode cX12_dips 66 = .ok (.iload 10, 2) := by decide +kernel
theorem dX12_dips_68 : decode cX12_dips 68 = .ok (.aload_n 0, 1) := by decide +kernel
theorem dX12_dips_69 : decode cX12_dips 69 = .ok (.getfield 7, 3) := by decide +kernel
theorem dX12_dips_72 : decode cX12_dips 72 = .ok (.iconst 1, 1) := by decide +kernel
theorem dX12_dips_73 : decode cX12_dips 73 = .ok (.iaload, 1) := by decide +kernel
theorem dX12_dips_74 : decode cX12_dips 74 = .ok (.if_icmp .ge 86, 3) := by decide +kernel
theorem dX12_dips_160 : decode cX12_dips 160 = .ok (.iload 4, 2) := by decide +kernel
theorem dX12_dips_162 : decode cX12_dips 162 = .ok (.iconst 1, 1) := by decide +kernel
theorem dX12_dips_163 : decode cX12_dips 163 = .ok (.if_icmp .ne 6, 3) := by decide +kernel
theorem dX12_dips_166 : decode cX12_dips 166 = .ok (.iload 5, 2) := by decide +kernel
theorem dX12_dips_168 : decode cX12_dips 168 = .ok (.ireturn, 1) := by decide +kernel
theorem dX12_dips_169 : decode cX12_dips 169 = .ok (.iconst 0, 1) := by decide +kernel
theorem dX12_dips_170 : decode cX12_dips 170 = .ok (.istore 10, 2) := by decide +kernel
theorem dX12_dips_172 : decode cX12_dips 172 = .ok (.iconst 0, 1) := by decide +kernel
theorem dX12_dips_173 : decode cX12_dips 173 = .ok (.istore 11, 2) := by decide +kernel
theorem dX12_dips_175 : decode cX12_dips 175 = .ok (.iload 11, 2) := by decide +kernel
theorem dX12_dips_177 : decode cX12_dips 177 = .ok (.aload_n 0, 1) := by decide +kernel
theorem dX12_dips_178 : decode cX12_dips 178 = .ok (.getfield 7, 3) := by decide +kernel
theorem dX12_dips_181 : decode cX12_dips 181 = .ok (.iconst 1, 1) := by decide +kernel
theorem dX12_dips_182 : decode cX12_dips 182 = .ok (.iaload, 1) := by decide +kernel
theorem dX12_dips_183 : decode cX12_dips 183 = .ok (.if_icmp .ge 118, 3) := by decide +kernel
theorem dX12_dips_301 : decode cX12_dips 301 = .ok (.iload 10, 2) := by decide +kernel
theorem dX12_dips_303 : decode cX12_dips 303 = .ok (.ireturn, 1) := by decide +kernel
theorem dX12_draw_0 : decode cX12_draw 0 = .ok (.aload_n 0, 1) := by decide +kernel
theorem dX12_draw_1 : decode cX12_draw 1 = .ok (.iconst 0, 1) := by decide +kernel
theorem dX12_draw_2 : decode cX12_draw 2 = .ok (.putfield 92, 3) := by decide +kernel
theorem dX12_draw_5 : decode cX12_draw 5 = .ok (.iload_n 2, 1) := by decide +kernel
theorem dX12_draw_6 : decode cX12_draw 6 = .ok (.i2l, 1) := by decide +kernel
theorem dX12_draw_7 : decode cX12_draw 7 = .ok (.lconst 0, 1) := by decide +kernel
theorem dX12_draw_8 : decode cX12_draw 8 = .ok (.lconst 1, 1) := by decide +kernel
theorem dX12_draw_9 : decode cX12_draw 9 = .ok (.invokestatic 100, 3) := by decide +kernel
theorem dX12_draw_12 : decode cX12_draw 12 = .ok (.ifCond .eq 17, 3) := by decide +kernel
theorem dX12_draw_15 : decode cX12_draw 15 = .ok (.iload_n 3, 1) := by decide +kernel
theorem dX12_draw_16 : decode cX12_draw 16 = .ok (.i2l, 1) := by decide +kernel
theorem dX12_draw_17 : decode cX12_draw 17 = .ok (.ldc2_w 545, 3) := by decide +kernel
theorem dX12_draw_20 : decode cX12_draw 20 = .ok (.ldc2_w 547, 3) := by decide +kernel
theorem dX12_draw_23 : decode cX12_draw 23 = .ok (.invokestatic 100, 3) := by decide +kernel
theorem dX12_draw_26 : decode cX12_draw 26 = .ok (.ifCond .ne 9, 3) := by decide +kernel
theorem dX12_draw_29 : decode cX12_draw 29 = .ok (.aload_n 0, 1) := by decide +kernel
theorem dX12_draw_30 : decode cX12_draw 30 = .ok (.iconst (-1), 1) := by decide +kernel
theorem dX12_draw_31 : decode cX12_draw 31 = .ok (.invokevirtual 106, 3) := by decide +kernel
theorem dX12_draw_34 : decode cX12_draw 34 = .ok (.ireturn, 1) := by decide +kernel
theorem dX12_draw_35 : decode cX12_draw 35 = .ok (.aload_n 0, 1) := by decide +kernel
theorem dX12_draw_36 : decode cX12_draw 36 = .ok (.iload_n 1, 1) := by decide +kernel
theorem dX12_draw_37 : decode cX12_draw 37 = .ok (.invokevirtual 138, 3) := by decide +kernel
theorem dX12_draw_40 : decode cX12_draw 40 = .ok (.ifCond .ne 10, 3) := by decide +kernel
theorem dX12_draw_43 : decode cX12_draw 43 = .ok (.aload_n 0, 1) := by decide +kernel
theorem dX12_draw_44 : decode cX12_draw 44 = .ok (.bipush (-2), 2) := by decide +kernel
theorem dX12_draw_46 : decode cX12_draw 46 = .ok (.invokevirtual 106, 3) := by decide +kernel
theorem dX12_draw_49 : decode cX12_draw 49 = .ok (.ireturn, 1) := by decide +kernel
theorem dX12_due_0 : decode cX12_due 0 = .ok (.aload_n 0, 1) := by decide +kernel
theorem dX12_due_1 : decode cX12_due 1 = .ok (.iconst 0, 1) := by decide +kernel
theorem dX12_due_2 : decode cX12_due 2 = .ok (.putfield 92, 3) := by decide +kernel
theorem dX12_due_5 : decode cX12_due 5 = .ok (.aload_n 0, 1) := by decide +kernel
theorem dX12_due_6 : decode cX12_due 6 = .ok (.iload_n 1, 1) := by decide +kernel
theorem dX12_due_7 : decode cX12_due 7 = .ok (.invokevirtual 138, 3) := by decide +kernel
theorem dX12_due_10 : decode cX12_due 10 = .ok (.ifCond .eq 25, 3) := by decide +kernel
theorem dX12_due_35 : decode cX12_due 35 = .ok (.iconst (-1), 1) := by decide +kernel
theorem dX12_due_36 : decode cX12_due 36 = .ok (.ireturn, 1) := by decide +kernel
theorem dX12_end_0 : decode cX12_end 0 = .ok (.aload_n 0, 1) := by decide +kernel
theorem dX12_end_1 : decode cX12_end 1 = .ok (.iconst 0, 1) := by decide +kernel
theorem dX12_end_2 : decode cX12_end 2 = .ok (.putfield 92, 3) := by decide +kernel
theorem dX12_end_5 : decode cX12_end 5 = .ok (.iload_n 1, 1) := by decide +kernel
theorem dX12_end_6 : decode cX12_end 6 = .ok (.ifCond .lt 11, 3) := by decide +kernel
theorem dX12_end_9 : decode cX12_end 9 = .ok (.iload_n 1, 1) := by decide +kernel
theorem dX12_end_10 : decode cX12_end 10 = .ok (.aload_n 0, 1) := by decide +kernel
theorem dX12_end_11 : decode cX12_end 11 = .ok (.getfield 193, 3) := by decide +kernel
theorem dX12_end_14 : decode cX12_end 14 = .ok (.if_icmp .le 5, 3) := by decide +kernel
theorem dX12_end_17 : decode cX12_end 17 = .ok (.iconst (-1), 1) := by decide +kernel
theorem dX12_end_18 : decode cX12_end 18 = .ok (.ireturn, 1) := by decide +kernel
theorem dX12_end_19 : decode cX12_end 19 = .ok (.aload_n 0, 1) := by decide +kernel
theorem dX12_end_20 : decode cX12_end 20 = .ok (.iload_n 1, 1) := by decide +kernel
theorem dX12_end_21 : decode cX12_end 21 = .ok (.putfield 193, 3) := by decide +kernel
theorem dX12_end_24 : decode cX12_end 24 = .ok (.iload_n 1, 1) := by decide +kernel
theorem dX12_end_25 : decode cX12_end 25 = .ok (.ireturn, 1) := by decide +kernel
theorem dX12_failed_0 : decode cX12_failed 0 = .ok (.aload_n 0, 1) := by decide +kernel
theorem dX12_failed_1 : decode cX12_failed 1 = .ok (.iconst 0, 1) := by decide +kernel
theorem dX12_failed_2 : decode cX12_failed 2 = .ok (.putfield 92, 3) := by decide +kernel
theorem dX12_failed_5 : decode cX12_failed 5 = .ok (.iload_n 1, 1) := by decide +kernel
theorem dX12_failed_6 : decode cX12_failed 6 = .ok (.i2l, 1) := by decide +kernel
theorem dX12_failed_7 : decode cX12_failed 7 = .ok (.lconst 0, 1) := by decide +kernel
theorem dX12_failed_8 : decode cX12_failed 8 = .ok (.ldc2_w 116, 3) := by decide +kernel
theorem dX12_failed_11 : decode cX12_failed 11 = .ok (.invokestatic 100, 3) := by decide +kernel
theorem dX12_failed_14 : decode cX12_failed 14 = .ok (.ifCond .eq 10, 3) := by decide +kernel
theorem dX12_failed_17 : decode cX12_failed 17 = .ok (.iload_n 2, 1) := by decide +kernel
theorem dX12_failed_18 : decode cX12_failed 18 = .ok (.invokestatic 145, 3) := by decide +kernel
theorem dX12_failed_21 : decode cX12_failed 21 = .ok (.ifCond .ne 9, 3) := by decide +kernel
theorem dX12_failed_24 : decode cX12_failed 24 = .ok (.aload_n 0, 1) := by decide +kernel
theorem dX12_failed_25 : decode cX12_failed 25 = .ok (.iconst (-1), 1) := by decide +kernel
theorem dX12_failed_26 : decode cX12_failed 26 = .ok (.invokevirtual 106, 3) := by decide +kernel
theorem dX12_failed_29 : decode cX12_failed 29 = .ok (.ireturn, 1) := by decide +kernel
theorem dX12_failed_30 : decode cX12_failed 30 = .ok (.aload_n 0, 1) := by decide +kernel
theorem dX12_failed_31 : decode cX12_failed 31 = .ok (.iload_n 1, 1) := by decide +kernel
theorem dX12_failed_32 : decode cX12_failed 32 = .ok (.iload_n 2, 1) := by decide +kernel
theorem dX12_failed_33 : decode cX12_failed 33 = .ok (.invokevirtual 148, 3) := by decide +kernel
theorem dX12_failed_36 : decode cX12_failed 36 = .ok (.ifCond .eq 10, 3) := by decide +kernel
theorem dX12_failed_46 : decode cX12_failed 46 = .ok (.aload_n 0, 1) := by decide +kernel
theorem dX12_failed_47 : decode cX12_failed 47 = .ok (.getfield 7, 3) := by decide +kernel
theorem dX12_failed_50 : decode cX12_failed 50 = .ok (.bipush 9, 2) := by decide +kernel
theorem dX12_failed_52 : decode cX12_failed 52 = .ok (.iaload, 1) := by decide +kernel
theorem dX12_failed_53 : decode cX12_failed 53 = .ok (.bipush 60, 2) := by decide +kernel
theorem dX12_failed_55 : decode cX12_failed 55 = .ok (.if_icmp .ne 10, 3) := by decide +kernel
theorem dX12_failed_65 : decode cX12_failed 65 = .ok (.aload_n 0, 1) := by decide +kernel
theorem dX12_failed_66 : decode cX12_failed 66 = .ok (.getfield 7, 3) := by decide +kernel
theorem dX12_failed_69 : decode cX12_failed 69 = .ok (.sipush 3300, 3) := by decide +kernel
theorem dX12_failed_72 : decode cX12_failed 72 = .ok (.iconst 2, 1) := by decide +kernel
theorem dX12_failed_73 : decode cX12_failed 73 = .ok (.aload_n 0, 1) := by decide +kernel
theorem dX12_failed_74 : decode cX12_failed 74 = .ok (.getfield 7, 3) := by decide +kernel
theorem dX12_failed_77 : decode cX12_failed 77 = .ok (.bipush 9, 2) := by decide +kernel
theorem dX12_failed_79 : decode cX12_failed 79 = .ok (.iaload, 1) := by decide +kernel
theorem dX12_failed_80 : decode cX12_failed 80 = .ok (.imul, 1) := by decide +kernel
theorem dX12_failed_81 : decode cX12_failed 81 = .ok (.iadd, 1) := by decide +kernel
theorem dX12_failed_82 : decode cX12_failed 82 = .ok (.iload_n 1, 1) := by decide +kernel
theorem dX12_failed_83 : decode cX12_failed 83 = .ok (.iastore, 1) := by decide +kernel
theorem dX12_failed_84 : decode cX12_failed 84 = .ok (.aload_n 0, 1) := by decide +kernel
theorem dX12_failed_85 : decode cX12_failed 85 = .ok (.getfield 7, 3) := by decide +kernel
theorem dX12_failed_88 : decode cX12_failed 88 = .ok (.sipush 3300, 3) := by decide +kernel
theorem dX12_failed_91 : decode cX12_failed 91 = .ok (.iconst 2, 1) := by decide +kernel
theorem dX12_failed_92 : decode cX12_failed 92 = .ok (.aload_n 0, 1) := by decide +kernel
theorem dX12_failed_93 : decode cX12_failed 93 = .ok (.getfield 7, 3) := by decide +kernel
theorem dX12_failed_96 : decode cX12_failed 96 = .ok (.bipush 9, 2) := by decide +kernel
theorem dX12_failed_98 : decode cX12_failed 98 = .ok (.iaload, 1) := by decide +kernel
theorem dX12_failed_99 : decode cX12_failed 99 = .ok (.imul, 1) := by decide +kernel
theorem dX12_failed_100 : decode cX12_failed 100 = .ok (.iadd, 1) := by decide +kernel
theorem dX12_failed_101 : decode cX12_failed 101 = .ok (.iconst 1, 1) := by decide +kernel
theorem dX12_failed_102 : decode cX12_failed 102 = .ok (.iadd, 1) := by decide +kernel
theorem dX12_failed_103 : decode cX12_failed 103 = .ok (.iload_n 2, 1) := by decide +kernel
theorem dX12_failed_104 : decode cX12_failed 104 = .ok (.iastore, 1) := by decide +kernel
theorem dX12_failed_105 : decode cX12_failed 105 = .ok (.aload_n 0, 1) := by decide +kernel
theorem dX12_failed_106 : decode cX12_failed 106 = .ok (.getfield 7, 3) := by decide +kernel
theorem dX12_failed_109 : decode cX12_failed 109 = .ok (.bipush 9, 2) := by decide +kernel
theorem dX12_failed_111 : decode cX12_failed 111 = .ok (.dup2, 1) := by decide +kernel
theorem dX12_failed_112 : decode cX12_failed 112 = .ok (.iaload, 1) := by decide +kernel
theorem dX12_failed_113 : decode cX12_failed 113 = .ok (.iconst 1, 1) := by decide +kernel
theorem dX12_failed_114 : decode cX12_failed 114 = .ok (.iadd, 1) := by decide +kernel
theorem dX12_failed_115 : decode cX12_failed 115 = .ok (.iastore, 1) := by decide +kernel
theorem dX12_failed_116 : decode cX12_failed 116 = .ok (.aload_n 0, 1) := by decide +kernel
theorem dX12_failed_117 : decode cX12_failed 117 = .ok (.aload_n 0, 1) := by decide +kernel
theorem dX12_failed_118 : decode cX12_failed 118 = .ok (.getfield 7, 3) := by decide +kernel
theorem dX12_failed_121 : decode cX12_failed 121 = .ok (.bipush 9, 2) := by decide +kernel
theorem dX12_failed_123 : decode cX12_failed 123 = .ok (.iaload, 1) := by decide +kernel
theorem dX12_failed_124 : decode cX12_failed 124 = .ok (.invokevirtual 106, 3) := by decide +kernel
theorem dX12_failed_127 : decode cX12_failed 127 = .ok (.ireturn, 1) := by decide +kernel
theorem dX12_fault_0 : decode cX12_fault 0 = .ok (.aload_n 0, 1) := by decide +kernel
theorem dX12_fault_1 : decode cX12_fault 1 = .ok (.iconst 0, 1) := by decide +kernel
theorem dX12_fault_2 : decode cX12_fault 2 = .ok (.putfield 92, 3) := by decide +kernel
theorem dX12_fault_5 : decode cX12_fault 5 = .ok (.aload_n 0, 1) := by decide +kernel
theorem dX12_fault_6 : decode cX12_fault 6 = .ok (.getfield 36, 3) := by decide +kernel
theorem dX12_fault_9 : decode cX12_fault 9 = .ok (.ireturn, 1) := by decide +kernel
theorem dX12_feed_0 : decode cX12_feed 0 = .ok (.aload_n 0, 1) := by decide +kernel
theorem dX12_feed_1 : decode cX12_feed 1 = .ok (.iconst 0, 1) := by decide +kernel
theorem dX12_feed_2 : decode cX12_feed 2 = .ok (.putfield 92, 3) := by decide +kernel
theorem dX12_feed_5 : decode cX12_feed 5 = .ok (.aload_n 0, 1) := by decide +kernel
theorem dX12_feed_6 : decode cX12_feed 6 = .ok (.getfield 193, 3) := by decide +kernel
theorem dX12_feed_9 : decode cX12_feed 9 = .ok (.bipush 20, 2) := by decide +kernel
theorem dX12_feed_11 : decode cX12_feed 11 = .ok (.iadd, 1) := by decide +kernel
theorem dX12_feed_12 : decode cX12_feed 12 = .ok (.sipush 400, 3) := by decide +kernel
theorem dX12_feed_15 : decode cX12_feed 15 = .ok (.if_icmp .le 5, 3) := by decide +kernel
theorem dX12_feed_20 : decode cX12_feed 20 = .ok (.aload_n 0, 1) := by decide +kernel
theorem dX12_feed_21 : decode cX12_feed 21 = .ok (.iload_n 1, 1) := by decide +kernel
theorem dX12_feed_22 : decode cX12_feed 22 = .ok (.invokevirtual 196, 3) := by decide +kernel
theorem dX12_feed_25 : decode cX12_feed 25 = .ok (.aload_n 0, 1) := by decide +kernel
theorem dX12_feed_26 : decode cX12_feed 26 = .ok (.iload_n 2, 1) := by decide +kernel
theorem dX12_feed_27 : decode cX12_feed 27 = .ok (.invokevirtual 196, 3) := by decide +kernel
theorem dX12_feed_30 : decode cX12_feed 30 = .ok (.aload_n 0, 1) := by decide +kernel
theorem dX12_feed_31 : decode cX12_feed 31 = .ok (.iload_n 3, 1) := by decide +kernel
theorem dX12_feed_32 : decode cX12_feed 32 = .ok (.invokevirtual 196, 3) := by decide +kernel
theorem dX12_feed_35 : decode cX12_feed 35 = .ok (.aload_n 0, 1) := by decide +kernel
theorem dX12_feed_36 : decode cX12_feed 36 = .ok (.iload 4, 2) := by decide +kernel
theorem dX12_feed_38 : decode cX12_feed 38 = .ok (.invokevirtual 196, 3) := by decide +kernel
theorem dX12_feed_41 : decode cX12_feed 41 = .ok (.aload_n 0, 1) := by decide +kernel
theorem dX12_feed_42 : decode cX12_feed 42 = .ok (.iload 5, 2) := by decide +kernel
theorem dX12_feed_44 : decode cX12_feed 44 = .ok (.invokevirtual 196, 3) := by decide +kernel
theorem dX12_feed_47 : decode cX12_feed 47 = .ok (.aload_n 0, 1) := by decide +kernel
theorem dX12_feed_48 : decode cX12_feed 48 = .ok (.getfield 193, 3) := by decide +kernel
theorem dX12_feed_51 : decode cX12_feed 51 = .ok (.ireturn, 1) := by decide +kernel
theorem dX12_findKinds_0 : decode cX12_findKinds 0 = .ok (.iconst 0, 1) := by decide +kernel
theorem dX12_findKinds_1 : decode cX12_findKinds 1 = .ok (.istore_n 1, 1) := by decide +kernel
theorem dX12_findKinds_2 : decode cX12_findKinds 2 = .ok (.iload_n 1, 1) := by decide +kernel
theorem dX12_findKinds_3 : decode cX12_findKinds 3 = .ok (.aload_n 0, 1) := by decide +kernel
theorem dX12_findKinds_4 : decode cX12_findKinds 4 = .ok (.getfield 7, 3) := by decide +kernel
theorem dX12_findKinds_7 : decode cX12_findKinds 7 = .ok (.iconst 3, 1) := by decide +kernel
theorem dX12_findKinds_8 : decode cX12_findKinds 8 = .ok (.iaload, 1) := by decide +kernel
theorem dX12_findKinds_9 : decode cX12_findKinds 9 = .ok (.if_icmp .ge 146, 3) := by decide +kernel
theorem dX12_findKinds_155 : decode cX12_findKinds 155 = .ok (.return_, 1) := by decide +kernel
theorem dX12_findWays_0 : decode cX12_findWays 0 = .ok (.aload_n 0, 1) := by decide +kernel
theorem dX12_findWays_1 : decode cX12_findWays 1 = .ok (.getfield 7, 3) := by decide +kernel
theorem dX12_findWays_4 : decode cX12_findWays 4 = .ok (.bipush 7, 2) := by decide +kernel
theorem dX12_findWays_6 : decode cX12_findWays 6 = .ok (.iaload, 1) := by decide +kernel
theorem dX12_findWays_7 : decode cX12_findWays 7 = .ok (.istore_n 3, 1) := by decide +kernel
theorem dX12_findWays_8 : decode cX12_findWays 8 = .ok (.iconst 1, 1) := by decide +kernel
theorem dX12_findWays_9 : decode cX12_findWays 9 = .ok (.istore 4, 2) := by decide +kernel
theorem dX12_findWays_11 : decode cX12_findWays 11 = .ok (.iload 4, 2) := by decide +kernel
theorem dX12_findWays_13 : decode cX12_findWays 13 = .ok (.iconst 1, 1) := by decide +kernel
theorem dX12_findWays_14 : decode cX12_findWays 14 = .ok (.iload_n 3, 1) := by decide +kernel
theorem dX12_findWays_15 : decode cX12_findWays 15 = .ok (.ishl, 1) := by decide +kernel
theorem dX12_findWays_16 : decode cX12_findWays 16 = .ok (.if_icmp .ge 154, 3) := by decide +kernel
theorem dX12_findWays_170 : decode cX12_findWays 170 = .ok (.return_, 1) := by decide +kernel
theorem dX12_fine_0 : decode cX12_fine 0 = .ok (.aload_n 0, 1) := by decide +kernel
theorem dX12_fine_1 : decode cX12_fine 1 = .ok (.iconst 0, 1) := by decide +kernel
theorem dX12_fine_2 : decode cX12_fine 2 = .ok (.putfield 92, 3) := by decide +kernel
theorem dX12_fine_5 : decode cX12_fine 5 = .ok (.aload_n 0, 1) := by decide +kernel
theorem dX12_fine_6 : decode cX12_fine 6 = .ok (.iload_n 1, 1) := by decide +kernel
theorem dX12_fine_7 : decode cX12_fine 7 = .ok (.invokevirtual 138, 3) := by decide +kernel
theorem dX12_fine_10 : decode cX12_fine 10 = .ok (.ifCond .eq 50, 3) := by decide +kernel
theorem dX12_fine_60 : decode cX12_fine 60 = .ok (.iconst (-1), 1) := by decide +kernel
theorem dX12_fine_61 : decode cX12_fine 61 = .ok (.ireturn, 1) := by decide +kernel
theorem dX12_force_0 : decode cX12_force 0 = .ok (.aload_n 0, 1) := by decide +kernel
theorem dX12_force_1 : decode cX12_force 1 = .ok (.iconst 0, 1) := by decide +kernel
theorem dX12_force_2 : decode cX12_force 2 = .ok (.putfield 92, 3) := by decide +kernel
theorem dX12_force_5 : decode cX12_force 5 = .ok (.iload_n 1, 1) := by decide +kernel
theorem dX12_force_6 : decode cX12_force 6 = .ok (.i2l, 1) := by decide +kernel
theorem dX12_force_7 : decode cX12_force 7 = .ok (.lconst 0, 1) := by decide +kernel
theorem dX12_force_8 : decode cX12_force 8 = .ok (.aload_n 0, 1) := by decide +kernel
theorem dX12_force_9 : decode cX12_force 9 = .ok (.getfield 7, 3) := by decide +kernel
theorem dX12_force_12 : decode cX12_force 12 = .ok (.iconst 4, 1) := by decide +kernel
theorem dX12_force_13 : decode cX12_force 13 = .ok (.iaload, 1) := by decide +kernel
theorem dX12_force_14 : decode cX12_force 14 = .ok (.i2l, 1) := by decide +kernel
theorem dX12_force_15 : decode cX12_force 15 = .ok (.lconst 1, 1) := by decide +kernel
theorem dX12_force_16 : decode cX12_force 16 = .ok (.lsub, 1) := by decide +kernel
theorem dX12_force_17 : decode cX12_force 17 = .ok (.invokestatic 100, 3) := by decide +kernel
theorem dX12_force_20 : decode cX12_force 20 = .ok (.ifCond .eq 33, 3) := by decide +kernel
theorem dX12_force_53 : decode cX12_force 53 = .ok (.iconst (-1), 1) := by decide +kernel
theorem dX12_force_54 : decode cX12_force 54 = .ok (.ireturn, 1) := by decide +kernel
theorem dX12_found_0 : decode cX12_found 0 = .ok (.aload_n 0, 1) := by decide +kernel
theorem dX12_found_1 : decode cX12_found 1 = .ok (.iconst 0, 1) := by decide +kernel
theorem dX12_found_2 : decode cX12_found 2 = .ok (.putfield 92, 3) := by decide +kernel
theorem dX12_found_5 : decode cX12_found 5 = .ok (.iload_n 1, 1) := by decide +kernel
theorem dX12_found_6 : decode cX12_found 6 = .ok (.invokestatic 127, 3) := by decide +kernel
theorem dX12_found_9 : decode cX12_found 9 = .ok (.ifCond .eq 18, 3) := by decide +kernel
theorem dX12_found_12 : decode cX12_found 12 = .ok (.aload_n 0, 1) := by decide +kernel
theorem dX12_found_13 : decode cX12_found 13 = .ok (.getfield 7, 3) := by decide +kernel
theorem dX12_found_16 : decode cX12_found 16 = .ok (.sipush 7061, 3) := by decide +kernel
theorem dX12_found_19 : decode cX12_found 19 = .ok (.iconst 4, 1) := by decide +kernel
theorem dX12_found_20 : decode cX12_found 20 = .ok (.iload_n 1, 1) := by decide +kernel
theorem dX12_found_21 : decode cX12_found 21 = .ok (.imul, 1) := by decide +kernel
theorem dX12_found_22 : decode cX12_found 22 = .ok (.iadd, 1) := by decide +kernel
theorem dX12_found_23 : decode cX12_found 23 = .ok (.iaload, 1) := by decide +kernel
theorem dX12_found_24 : decode cX12_found 24 = .ok (.ifCond .ne 6, 3) := by decide +kernel
theorem dX12_found_27 : decode cX12_found 27 = .ok (.bipush (-3), 2) := by decide +kernel
theorem dX12_found_29 : decode cX12_found 29 = .ok (.ireturn, 1) := by decide +kernel
theorem dX12_four_0 : decode cX12_four 0 = .ok (.bipush 24, 2) := by decide +kernel
theorem dX12_four_2 : decode cX12_four 2 = .ok (.istore_n 2, 1) := by decide +kernel
theorem dX12_four_3 : decode cX12_four 3 = .ok (.iload_n 2, 1) := by decide +kernel
theorem dX12_four_4 : decode cX12_four 4 = .ok (.ifCond .lt 35, 3) := by decide +kernel
theorem dX12_four_7 : decode cX12_four 7 = .ok (.aload_n 0, 1) := by decide +kernel
theorem dX12_four_8 : decode cX12_four 8 = .ok (.getfield 33, 3) := by decide +kernel
theorem dX12_four_11 : decode cX12_four 11 = .ok (.aload_n 0, 1) := by decide +kernel
theorem dX12_four_12 : decode cX12_four 12 = .ok (.getfield 193, 3) := by decide +kernel
theorem dX12_four_15 : decode cX12_four 15 = .ok (.iload_n 1, 1) := by decide +kernel
theorem dX12_four_16 : decode cX12_four 16 = .ok (.iload_n 2, 1) := by decide +kernel
theorem dX12_four_17 : decode cX12_four 17 = .ok (.ishr, 1) := by decide +kernel
theorem dX12_four_18 : decode cX12_four 18 = .ok (.sipush 255, 3) := by decide +kernel
theorem dX12_four_21 : decode cX12_four 21 = .ok (.iand, 1) := by decide +kernel
theorem dX12_four_22 : decode cX12_four 22 = .ok (.iastore, 1) := by decide +kernel
theorem dX12_four_23 : decode cX12_four 23 = .ok (.aload_n 0, 1) := by decide +kernel
theorem dX12_four_24 : decode cX12_four 24 = .ok (.dup, 1) := by decide +kernel
theorem dX12_four_25 : decode cX12_four 25 = .ok (.getfield 193, 3) := by decide +kernel
theorem dX12_four_28 : decode cX12_four 28 = .ok (.iconst 1, 1) := by decide +kernel
theorem dX12_four_29 : decode cX12_four 29 = .ok (.iadd, 1) := by decide +kernel
theorem dX12_four_30 : decode cX12_four 30 = .ok (.putfield 193, 3) := by decide +kernel
theorem dX12_four_33 : decode cX12_four 33 = .ok (.iinc 2 (-8), 3) := by decide +kernel
theorem dX12_four_36 : decode cX12_four 36 = .ok (.goto (-33), 3) := by decide +kernel
theorem dX12_four_39 : decode cX12_four 39 = .ok (.return_, 1) := by decide +kernel
theorem dX12_goes_0 : decode cX12_goes 0 = .ok (.aload_n 0, 1) := by decide +kernel
theorem dX12_goes_1 : decode cX12_goes 1 = .ok (.iconst 0, 1) := by decide +kernel
theorem dX12_goes_2 : decode cX12_goes 2 = .ok (.putfield 92, 3) := by decide +kernel
theorem dX12_goes_5 : decode cX12_goes 5 = .ok (.iload_n 3, 1) := by decide +kernel
theorem dX12_goes_6 : decode cX12_goes 6 = .ok (.invokestatic 127, 3) := by decide +kernel
theorem dX12_goes_9 : decode cX12_goes 9 = .ok (.ifCond .eq 18, 3) := by decide +kernel
theorem dX12_goes_12 : decode cX12_goes 12 = .ok (.iload 4, 2) := by decide +kernel
theorem dX12_goes_14 : decode cX12_goes 14 = .ok (.iconst (-1), 1) := by decide +kernel
theorem dX12_goes_15 : decode cX12_goes 15 = .ok (.if_icmp .eq 18, 3) := by decide +kernel
theorem dX12_goes_18 : decode cX12_goes 18 = .ok (.aload_n 0, 1) := by decide +kernel
theorem dX12_goes_19 : decode cX12_goes 19 = .ok (.iload 4, 2) := by decide +kernel
theorem dX12_goes_21 : decode cX12_goes 21 = .ok (.invokevirtual 131, 3) := by decide +kernel
theorem dX12_goes_24 : decode cX12_goes 24 = .ok (.ifCond .ne 9, 3) := by decide +kernel
theorem dX12_goes_27 : decode cX12_goes 27 = .ok (.aload_n 0, 1) := by decide +kernel
theorem dX12_goes_28 : decode cX12_goes 28 = .ok (.iconst (-1), 1) := by decide +kernel
theorem dX12_goes_29 : decode cX12_goes 29 = .ok (.invokevirtual 106, 3) := by decide +kernel
theorem dX12_goes_32 : decode cX12_goes 32 = .ok (.ireturn, 1) := by decide +kernel
theorem dX12_goes_33 : decode cX12_goes 33 = .ok (.aload_n 0, 1) := by decide +kernel
theorem dX12_goes_34 : decode cX12_goes 34 = .ok (.iload_n 1, 1) := by decide +kernel
theorem dX12_goes_35 : decode cX12_goes 35 = .ok (.invokevirtual 138, 3) := by decide +kernel
theorem dX12_goes_38 : decode cX12_goes 38 = .ok (.ifCond .eq 11, 3) := by decide +kernel
theorem dX12_goes_49 : decode cX12_goes 49 = .ok (.aload_n 0, 1) := by decide +kernel
theorem dX12_goes_50 : decode cX12_goes 50 = .ok (.bipush (-2), 2) := by decide +kernel
theorem dX12_goes_52 : decode cX12_goes 52 = .ok (.invokevirtual 106, 3) := by decide +kernel
theorem dX12_goes_55 : decode cX12_goes 55 = .ok (.ireturn, 1) := by decide +kernel
theorem dX12_has_0 : decode cX12_has 0 = .ok (.aload_n 0, 1) := by decide +kernel
theorem dX12_has_1 : decode cX12_has 1 = .ok (.iconst 0, 1) := by decide +kernel
theorem dX12_has_2 : decode cX12_has 2 = .ok (.putfield 92, 3) := by decide +kernel
theorem dX12_has_5 : decode cX12_has 5 = .ok (.iload_n 2, 1) := by decide +kernel
theorem dX12_has_6 : decode cX12_has 6 = .ok (.i2l, 1) := by decide +kernel
theorem dX12_has_7 : decode cX12_has 7 = .ok (.lconst 0, 1) := by decide +kernel
theorem dX12_has_8 : decode cX12_has 8 = .ok (.lconst 1, 1) := by decide +kernel
theorem dX12_has_9 : decode cX12_has 9 = .ok (.invokestatic 100, 3) := by decide +kernel
theorem dX12_has_12 : decode cX12_has 12 = .ok (.ifCond .eq 23, 3) := by decide +kernel
theorem dX12_has_15 : decode cX12_has 15 = .ok (.iload 4, 2) := by decide +kernel
theorem dX12_has_17 : decode cX12_has 17 = .ok (.invokestatic 127, 3) := by decide +kernel
theorem dX12_has_20 : decode cX12_has 20 = .ok (.ifCond .eq 15, 3) := by decide +kernel
theorem dX12_has_23 : decode cX12_has 23 = .ok (.iload_n 3, 1) := by decide +kernel
theorem dX12_has_24 : decode cX12_has 24 = .ok (.i2l, 1) := by decide +kernel
theorem dX12_has_25 : decode cX12_has 25 = .ok (.lconst 0, 1) := by decide +kernel
theorem dX12_has_26 : decode cX12_has 26 = .ok (.iload 4, 2) := by decide +kernel
theorem dX12_has_28 : decode cX12_has 28 = .ok (.i2l, 1) := by decide +kernel
theorem dX12_has_29 : decode cX12_has 29 = .ok (.invokestatic 100, 3) := by decide +kernel
theorem dX12_has_32 : decode cX12_has 32 = .ok (.ifCond .ne 9, 3) := by decide +kernel
theorem dX12_has_35 : decode cX12_has 35 = .ok (.aload_n 0, 1) := by decide +kernel
theorem dX12_has_36 : decode cX12_has 36 = .ok (.iconst (-1), 1) := by decide +kernel
theorem dX12_has_37 : decode cX12_has 37 = .ok (.invokevirtual 106, 3) := by decide +kernel
theorem dX12_has_40 : decode cX12_has 40 = .ok (.ireturn, 1) := by decide +kernel
theorem dX12_has_41 : decode cX12_has 41 = .ok (.aload_n 0, 1) := by decide +kernel
theorem dX12_has_42 : decode cX12_has 42 = .ok (.iload_n 1, 1) := by decide +kernel
theorem dX12_has_43 : decode cX12_has 43 = .ok (.invokevirtual 138, 3) := by decide +kernel
theorem dX12_has_46 : decode cX12_has 46 = .ok (.ifCond .ne 10, 3) := by decide +kernel
theorem dX12_has_49 : decode cX12_has 49 = .ok (.aload_n 0, 1) := by decide +kernel
theorem dX12_has_50 : decode cX12_has 50 = .ok (.bipush (-2), 2) := by decide +kernel
theorem dX12_has_52 : decode cX12_has 52 = .ok (.invokevirtual 106, 3) := by decide +kernel
theorem dX12_has_55 : decode cX12_has 55 = .ok (.ireturn, 1) := by decide +kernel
theorem dX12_hasFailed_0 : decode cX12_hasFailed 0 = .ok (.iconst 0, 1) := by decide +kernel
theorem dX12_hasFailed_1 : decode cX12_hasFailed 1 = .ok (.istore_n 3, 1) := by decide +kernel
theorem dX12_hasFailed_2 : decode cX12_hasFailed 2 = .ok (.iconst 0, 1) := by decide +kernel
theorem dX12_hasFailed_3 : decode cX12_hasFailed 3 = .ok (.istore 4, 2) := by decide +kernel
theorem dX12_hasFailed_5 : decode cX12_hasFailed 5 = .ok (.iload 4, 2) := by decide +kernel
theorem dX12_hasFailed_7 : decode cX12_hasFailed 7 = .ok (.aload_n 0, 1) := by decide +kernel
theorem dX12_hasFailed_8 : decode cX12_hasFailed 8 = .ok (.getfield 7, 3) := by decide +kernel
theorem dX12_hasFailed_11 : decode cX12_hasFailed 11 = .ok (.bipush 9, 2) := by decide +kernel
theorem dX12_hasFailed_13 : decode cX12_hasFailed 13 = .ok (.iaload, 1) := by decide +kernel
theorem dX12_hasFailed_14 : decode cX12_hasFailed 14 = .ok (.if_icmp .ge 55, 3) := by decide +kernel
theorem dX12_hasFailed_69 : decode cX12_hasFailed 69 = .ok (.iload_n 3, 1) := by decide +kernel
theorem dX12_hasFailed_70 : decode cX12_hasFailed 70 = .ok (.ireturn, 1) := by decide +kernel
theorem dX12_headAt_0 : decode cX12_headAt 0 = .ok (.aload_n 0, 1) := by decide +kernel
theorem dX12_headAt_1 : decode cX12_headAt 1 = .ok (.ldc2_w 344, 3) := by decide +kernel
theorem dX12_headAt_4 : decode cX12_headAt 4 = .ok (.invokevirtual 261, 3) := by decide +kernel
theorem dX12_headAt_7 : decode cX12_headAt 7 = .ok (.ifCond .ne 23, 3) := by decide +kernel
theorem dX12_headAt_10 : decode cX12_headAt 10 = .ok (.aload_n 0, 1) := by decide +kernel
theorem dX12_headAt_11 : decode cX12_headAt 11 = .ok (.ldc2_w 346, 3) := by decide +kernel
theorem dX12_headAt_14 : decode cX12_headAt 14 = .ok (.invokevirtual 261, 3) := by decide +kernel
theorem dX12_headAt_17 : decode cX12_headAt 17 = .ok (.ifCond .ne 13, 3) := by decide +kernel
theorem dX12_headAt_20 : decode cX12_headAt 20 = .ok (.aload_n 0, 1) := by decide +kernel
theorem dX12_headAt_21 : decode cX12_headAt 21 = .ok (.ldc2_w 348, 3) := by decide +kernel
theorem dX12_headAt_24 : decode cX12_headAt 24 = .ok (.invokevirtual 261, 3) := by decide +kernel
theorem dX12_headAt_27 : decode cX12_headAt 27 = .ok (.ifCond .eq 33, 3) := by decide +kernel
theorem dX12_headAt_60 : decode cX12_headAt 60 = .ok (.aload_n 0, 1) := by decide +kernel
theorem dX12_headAt_61 : decode cX12_headAt 61 = .ok (.ldc2_w 350, 3) := by decide +kernel
theorem dX12_headAt_64 : decode cX12_headAt 64 = .ok (.invokevirtual 261, 3) := by decide +kernel
theorem dX12_headAt_67 : decode cX12_headAt 67 = .ok (.ifCond .eq 7, 3) := by decide +kernel
theorem dX12_headAt_74 : decode cX12_headAt 74 = .ok (.aload_n 0, 1) := by decide +kernel
theorem dX12_headAt_75 : decode cX12_headAt 75 = .ok (.ldc2_w 352, 3) := by decide +kernel
theorem dX12_headAt_78 : decode cX12_headAt 78 = .ok (.invokevirtual 261, 3) := by decide +kernel
theorem dX12_headAt_81 : decode cX12_headAt 81 = .ok (.ifCond .eq 7, 3) := by decide +kernel
theorem dX12_headAt_88 : decode cX12_headAt 88 = .ok (.aload_n 0, 1) := by decide +kernel
theorem dX12_headAt_89 : decode cX12_headAt 89 = .ok (.ldc2_w 354, 3) := by decide +kernel
theorem dX12_headAt_92 : decode cX12_headAt 92 = .ok (.invokevirtual 261, 3) := by decide +kernel
theorem dX12_headAt_95 : decode cX12_headAt 95 = .ok (.ifCond .eq 7, 3) := by decide +kernel
theorem dX12_headAt_102 : decode cX12_headAt 102 = .ok (.iconst (-1), 1) := by decide +kernel
theorem dX12_headAt_103 : decode cX12_headAt 103 = .ok (.ireturn, 1) := by decide +kernel
theorem dX12_helped_0 : decode cX12_helped 0 = .ok (.aload_n 0, 1) := by decide +kernel
theorem dX12_helped_1 : decode cX12_helped 1 = .ok (.iconst 0, 1) := by decide +kernel
theorem dX12_helped_2 : decode cX12_helped 2 = .ok (.putfield 92, 3) := by decide +kernel
theorem dX12_helped_5 : decode cX12_helped 5 = .ok (.iload_n 1, 1) := by decide +kernel
theorem dX12_helped_6 : decode cX12_helped 6 = .ok (.i2l, 1) := by decide +kernel
theorem dX12_helped_7 : decode cX12_helped 7 = .ok (.lconst 0, 1) := by decide +kernel
theorem dX12_helped_8 : decode cX12_helped 8 = .ok (.lconst 1, 1) := by decide +kernel
theorem dX12_helped_9 : decode cX12_helped 9 = .ok (.invokestatic 100, 3) := by decide +kernel
theorem dX12_helped_12 : decode cX12_helped 12 = .ok (.ifCond .ne 5, 3) := by decide +kernel
theorem dX12_helped_15 : decode cX12_helped 15 = .ok (.iconst (-1), 1) := by decide +kernel
theorem dX12_helped_16 : decode cX12_helped 16 = .ok (.ireturn, 1) := by decide +kernel
theorem dX12_helped_17 : decode cX12_helped 17 = .ok (.aload_n 0, 1) := by decide +kernel
theorem dX12_helped_18 : decode cX12_helped 18 = .ok (.getfield 7, 3) := by decide +kernel
theorem dX12_helped_21 : decode cX12_helped 21 = .ok (.bipush 8, 2) := by decide +kernel
theorem dX12_helped_23 : decode cX12_helped 23 = .ok (.iaload, 1) := by decide +kernel
theorem dX12_helped_24 : decode cX12_helped 24 = .ok (.istore_n 2, 1) := by decide +kernel
theorem dX12_helped_25 : decode cX12_helped 25 = .ok (.iconst 0, 1) := by decide +kernel
theorem dX12_helped_26 : decode cX12_helped 26 = .ok (.istore_n 3, 1) := by decide +kernel
theorem dX12_helped_27 : decode cX12_helped 27 = .ok (.iconst 0, 1) := by decide +kernel
theorem dX12_helped_28 : decode cX12_helped 28 = .ok (.istore 4, 2) := by decide +kernel
theorem dX12_helped_30 : decode cX12_helped 30 = .ok (.iconst 0, 1) := by decide +kernel
theorem dX12_helped_31 : decode cX12_helped 31 = .ok (.istore 5, 2) := by decide +kernel
theorem dX12_helped_33 : decode cX12_helped 33 = .ok (.iload 5, 2) := by decide +kernel
theorem dX12_helped_35 : decode cX12_helped 35 = .ok (.iload_n 2, 1) := by decide +kernel
theorem dX12_helped_36 : decode cX12_helped 36 = .ok (.if_icmp .ge 63, 3) := by decide +kernel
theorem dX12_helped_99 : decode cX12_helped 99 = .ok (.iconst 0, 1) := by decide +kernel
theorem dX12_helped_100 : decode cX12_helped 100 = .ok (.istore 5, 2) := by decide +kernel
theorem dX12_helped_102 : decode cX12_helped 102 = .ok (.iconst 0, 1) := by decide +kernel
theorem dX12_helped_103 : decode cX12_helped 103 = .ok (.istore 6, 2) := by decide +kernel
theorem dX12_helped_105 : decode cX12_helped 105 = .ok (.iconst 0, 1) := by decide +kernel
theorem dX12_helped_106 : decode cX12_helped 106 = .ok (.istore 7, 2) := by decide +kernel
theorem dX12_helped_108 : decode cX12_helped 108 = .ok (.iload 7, 2) := by decide +kernel
theorem dX12_helped_110 : decode cX12_helped 110 = .ok (.iconst 1, 1) := by decide +kernel
theorem dX12_helped_111 : decode cX12_helped 111 = .ok (.iload_n 2, 1) := by decide +kernel
theorem dX12_helped_112 : decode cX12_helped 112 = .ok (.ishl, 1) := by decide +kernel
theorem dX12_helped_113 : decode cX12_helped 113 = .ok (.if_icmp .ge 109, 3) := by decide +kernel
theorem dX12_helped_116 : decode cX12_helped 116 = .ok (.iconst 0, 1) := by decide +kernel
theorem dX12_helped_117 : decode cX12_helped 117 = .ok (.istore 8, 2) := by decide +kernel
theorem dX12_helped_119 : decode cX12_helped 119 = .ok (.iconst 0, 1) := by decide +kernel
theorem dX12_helped_120 : decode cX12_helped 120 = .ok (.istore 9, 2) := by decide +kernel
theorem dX12_helped_122 : decode cX12_helped 122 = .ok (.iconst 0, 1) := by decide +kernel
theorem dX12_helped_123 : decode cX12_helped 123 = .ok (.istore 10, 2) := by decide +kernel
theorem dX12_helped_125 : decode cX12_helped 125 = .ok (.iload 10, 2) := by decide +kernel
theorem dX12_helped_127 : decode cX12_helped 127 = .ok (.iload_n 2, 1) := by decide +kernel
theorem dX12_helped_128 : decode cX12_helped 128 = .ok (.if_icmp .ge 49, 3) := by decide +kernel
theorem dX12_helped_177 : decode cX12_helped 177 = .ok (.iload 5, 2) := by decide +kernel
theorem dX12_helped_179 : decode cX12_helped 179 = .ok (.iload 8, 2) := by decide +kernel
theorem dX12_helped_181 : decode cX12_helped 181 = .ok (.iload_n 3, 1) := by decide +kernel
theorem dX12_helped_182 : decode cX12_helped 182 = .ok (.if_icmp .ne 7, 3) := by decide +kernel
theorem dX12_helped_185 : decode cX12_helped 185 = .ok (.iconst 1, 1) := by decide +kernel
theorem dX12_helped_186 : decode cX12_helped 186 = .ok (.goto 4, 3) := by decide +kernel
theorem dX12_helped_190 : decode cX12_helped 190 = .ok (.iadd, 1) := by decide +kernel
theorem dX12_helped_191 : decode cX12_helped 191 = .ok (.istore 5, 2) := by decide +kernel
theorem dX12_helped_193 : decode cX12_helped 193 = .ok (.iload 6, 2) := by decide +kernel
theorem dX12_helped_195 : decode cX12_helped 195 = .ok (.iload 8, 2) := by decide +kernel
theorem dX12_helped_197 : decode cX12_helped 197 = .ok (.iload_n 3, 1) := by decide +kernel
theorem dX12_helped_198 : decode cX12_helped 198 = .ok (.if_icmp .ne 14, 3) := by decide +kernel
theorem dX12_helped_201 : decode cX12_helped 201 = .ok (.iload 9, 2) := by decide +kernel
theorem dX12_helped_203 : decode cX12_helped 203 = .ok (.iload 4, 2) := by decide +kernel
theorem dX12_helped_205 : decode cX12_helped 205 = .ok (.if_icmp .lt 7, 3) := by decide +kernel
theorem dX12_helped_208 : decode cX12_helped 208 = .ok (.iconst 1, 1) := by decide +kernel
theorem dX12_helped_209 : decode cX12_helped 209 = .ok (.goto 4, 3) := by decide +kernel
theorem dX12_helped_213 : decode cX12_helped 213 = .ok (.iadd, 1) := by decide +kernel
theorem dX12_helped_214 : decode cX12_helped 214 = .ok (.istore 6, 2) := by decide +kernel
theorem dX12_helped_216 : decode cX12_helped 216 = .ok (.iinc 7 1, 3) := by decide +kernel
theorem dX12_helped_219 : decode cX12_helped 219 = .ok (.goto (-111), 3) := by decide +kernel
theorem dX12_helped_222 : decode cX12_helped 222 = .ok (.iload_n 1, 1) := by decide +kernel
theorem dX12_helped_223 : decode cX12_helped 223 = .ok (.ifCond .ne 8, 3) := by decide +kernel
theorem dX12_helped_226 : decode cX12_helped 226 = .ok (.iload 6, 2) := by decide +kernel
theorem dX12_helped_228 : decode cX12_helped 228 = .ok (.goto 5, 3) := by decide +kernel
theorem dX12_helped_231 : decode cX12_helped 231 = .ok (.iload 5, 2) := by decide +kernel
theorem dX12_helped_233 : decode cX12_helped 233 = .ok (.ireturn, 1) := by decide +kernel
theorem dX12_image_0 : decode cX12_image 0 = .ok (.aload_n 0, 1) := by decide +kernel
theorem dX12_image_1 : decode cX12_image 1 = .ok (.iconst 0, 1) := by decide +kernel
theorem dX12_image_2 : decode cX12_image 2 = .ok (.putfield 92, 3) := by decide +kernel
theorem dX12_image_5 : decode cX12_image 5 = .ok (.iload_n 1, 1) := by decide +kernel
theorem dX12_image_6 : decode cX12_image 6 = .ok (.i2l, 1) := by decide +kernel
theorem dX12_image_7 : decode cX12_image 7 = .ok (.lconst 0, 1) := by decide +kernel
theorem dX12_image_8 : decode cX12_image 8 = .ok (.lconst 1, 1) := by decide +kernel
theorem dX12_image_9 : decode cX12_image 9 = .ok (.invokestatic 100, 3) := by decide +kernel
theorem dX12_image_12 : decode cX12_image 12 = .ok (.ifCond .ne 9, 3) := by decide +kernel
theorem dX12_image_15 : decode cX12_image 15 = .ok (.aload_n 0, 1) := by decide +kernel
theorem dX12_image_16 : decode cX12_image 16 = .ok (.iconst (-1), 1) := by decide +kernel
theorem dX12_image_17 : decode cX12_image 17 = .ok (.invokevirtual 106, 3) := by decide +kernel
theorem dX12_image_20 : decode cX12_image 20 = .ok (.ireturn, 1) := by decide +kernel
theorem dX12_image_21 : decode cX12_image 21 = .ok (.iconst 0, 1) := by decide +kernel
theorem dX12_image_22 : decode cX12_image 22 = .ok (.istore_n 2, 1) := by decide +kernel
theorem dX12_image_23 : decode cX12_image 23 = .ok (.iload_n 2, 1) := by decide +kernel
theorem dX12_image_24 : decode cX12_image 24 = .ok (.sipush 27101, 3) := by decide +kernel
theorem dX12_image_27 : decode cX12_image 27 = .ok (.if_icmp .ge 27, 3) := by decide +kernel
theorem dX12_image_30 : decode cX12_image 30 = .ok (.aload_n 0, 1) := by decide +kernel
theorem dX12_image_31 : decode cX12_image 31 = .ok (.getfield 14, 3) := by decide +kernel
theorem dX12_image_34 : decode cX12_image 34 = .ok (.sipush 27101, 3) := by decide +kernel
theorem dX12_image_37 : decode cX12_image 37 = .ok (.iload_n 1, 1) := by decide +kernel
theorem dX12_image_38 : decode cX12_image 38 = .ok (.imul, 1) := by decide +kernel
theorem dX12_image_39 : decode cX12_image 39 = .ok (.iload_n 2, 1) := by decide +kernel
theorem dX12_image_40 : decode cX12_image 40 = .ok (.iadd, 1) := by decide +kernel
theorem dX12_image_41 : decode cX12_image 41 = .ok (.aload_n 0, 1) := by decide +kernel
theorem dX12_image_42 : decode cX12_image 42 = .ok (.getfield 7, 3) := by decide +kernel
theorem dX12_image_45 : decode cX12_image 45 = .ok (.iload_n 2, 1) := by decide +kernel
theorem dX12_image_46 : decode cX12_image 46 = .ok (.iaload, 1) := by decide +kernel
theorem dX12_image_47 : decode cX12_image 47 = .ok (.iastore, 1) := by decide +kernel
theorem dX12_image_48 : decode cX12_image 48 = .ok (.iinc 2 1, 3) := by decide +kernel
theorem dX12_image_51 : decode cX12_image 51 = .ok (.goto (-28), 3) := by decide +kernel
theorem dX12_image_54 : decode cX12_image 54 = .ok (.aload_n 0, 1) := by decide +kernel
theorem dX12_image_55 : decode cX12_image 55 = .ok (.getfield 17, 3) := by decide +kernel
theorem dX12_image_58 : decode cX12_image 58 = .ok (.iload_n 1, 1) := by decide +kernel
theorem dX12_image_59 : decode cX12_image 59 = .ok (.iconst 1, 1) := by decide +kernel
theorem dX12_image_60 : decode cX12_image 60 = .ok (.bastore, 1) := by decide +kernel
theorem dX12_image_61 : decode cX12_image 61 = .ok (.aload_n 0, 1) := by decide +kernel
theorem dX12_image_62 : decode cX12_image 62 = .ok (.iconst 0, 1) := by decide +kernel
theorem dX12_image_63 : decode cX12_image 63 = .ok (.invokevirtual 106, 3) := by decide +kernel
theorem dX12_image_66 : decode cX12_image 66 = .ok (.ireturn, 1) := by decide +kernel
theorem dX12_in_0 : decode cX12_in 0 = .ok (.lload_n 0, 1) := by decide +kernel
theorem dX12_in_1 : decode cX12_in 1 = .ok (.lload_n 2, 1) := by decide +kernel
theorem dX12_in_2 : decode cX12_in 2 = .ok (.lcmp, 1) := by decide +kernel
theorem dX12_in_3 : decode cX12_in 3 = .ok (.ifCond .lt 14, 3) := by decide +kernel
theorem dX12_in_6 : decode cX12_in 6 = .ok (.lload_n 0, 1) := by decide +kernel
theorem dX12_in_7 : decode cX12_in 7 = .ok (.lload 4, 2) := by decide +kernel
theorem dX12_in_9 : decode cX12_in 9 = .ok (.lcmp, 1) := by decide +kernel
theorem dX12_in_10 : decode cX12_in 10 = .ok (.ifCond .gt 7, 3) := by decide +kernel
theorem dX12_in_13 : decode cX12_in 13 = .ok (.iconst 1, 1) := by decide +kernel
theorem dX12_in_14 : decode cX12_in 14 = .ok (.goto 4, 3) := by decide +kernel
theorem dX12_in_17 : decode cX12_in 17 = .ok (.iconst 0, 1) := by decide +kernel
theorem dX12_in_18 : decode cX12_in 18 = .ok (.ireturn, 1) := by decide +kernel
theorem dX12_init_0 : decode cX12_init 0 = .ok (.aload_n 0, 1) := by decide +kernel
theorem dX12_init_1 : decode cX12_init 1 = .ok (.invokespecial 1, 3) := by decide +kernel
theorem dX12_init_4 : decode cX12_init 4 = .ok (.aload_n 0, 1) := by decide +kernel
theorem dX12_init_5 : decode cX12_init 5 = .ok (.sipush 27101, 3) := by decide +kernel
theorem dX12_init_8 : decode cX12_init 8 = .ok (.newarray .int, 2) := by decide +kernel
theorem dX12_init_10 : decode cX12_init 10 = .ok (.putfield 7, 3) := by decide +kernel
theorem dX12_init_13 : decode cX12_init 13 = .ok (.aload_n 0, 1) := by decide +kernel
theorem dX12_init_14 : decode cX12_init 14 = .ok (.ldc 13, 2) := by decide +kernel
theorem dX12_init_16 : decode cX12_init 16 = .ok (.newarray .int, 2) := by decide +kernel
theorem dX12_init_18 : decode cX12_init 18 = .ok (.putfield 14, 3) := by decide +kernel
theorem dX12_init_21 : decode cX12_init 21 = .ok (.aload_n 0, 1) := by decide +kernel
theorem dX12_init_22 : decode cX12_init 22 = .ok (.iconst 2, 1) := by decide +kernel
theorem dX12_init_23 : decode cX12_init 23 = .ok (.newarray .boolean, 2) := by decide +kernel
theorem dX12_init_25 : decode cX12_init 25 = .ok (.putfield 17, 3) := by decide +kernel
theorem dX12_init_28 : decode cX12_init 28 = .ok (.aload_n 0, 1) := by decide +kernel
theorem dX12_init_29 : decode cX12_init 29 = .ok (.sipush 400, 3) := by decide +kernel
theorem dX12_init_32 : decode cX12_init 32 = .ok (.newarray .boolean, 2) := by decide +kernel
theorem dX12_init_34 : decode cX12_init 34 = .ok (.putfield 21, 3) := by decide +kernel
theorem dX12_init_37 : decode cX12_init 37 = .ok (.aload_n 0, 1) := by decide +kernel
theorem dX12_init_38 : decode cX12_init 38 = .ok (.sipush 400, 3) := by decide +kernel
theorem dX12_init_41 : decode cX12_init 41 = .ok (.newarray .int, 2) := by decide +kernel
theorem dX12_init_43 : decode cX12_init 43 = .ok (.putfield 24, 3) := by decide +kernel
theorem dX12_init_46 : decode cX12_init 46 = .ok (.aload_n 0, 1) := by decide +kernel
theorem dX12_init_47 : decode cX12_init 47 = .ok (.sipush 400, 3) := by decide +kernel
theorem dX12_init_50 : decode cX12_init 50 = .ok (.newarray .int, 2) := by decide +kernel
theorem dX12_init_52 : decode cX12_init 52 = .ok (.putfield 27, 3) := by decide +kernel
theorem dX12_init_55 : decode cX12_init 55 = .ok (.aload_n 0, 1) := by decide +kernel
theorem dX12_init_56 : decode cX12_init 56 = .ok (.sipush 400, 3) := by decide +kernel
theorem dX12_init_59 : decode cX12_init 59 = .ok (.newarray .int, 2) := by decide +kernel
theorem dX12_init_61 : decode cX12_init 61 = .ok (.putfield 30, 3) := by decide +kernel
theorem dX12_init_64 : decode cX12_init 64 = .ok (.aload_n 0, 1) := by decide +kernel
theorem dX12_init_65 : decode cX12_init 65 = .ok (.sipush 400, 3) := by decide +kernel
theorem dX12_init_68 : decode cX12_init 68 = .ok (.newarray .int, 2) := by decide +kernel
theorem dX12_init_70 : decode cX12_init 70 = .ok (.putfield 33, 3) := by decide +kernel
theorem dX12_init_73 : decode cX12_init 73 = .ok (.aload_n 0, 1) := by decide +kernel
theorem dX12_init_74 : decode cX12_init 74 = .ok (.iconst (-1), 1) := by decide +kernel
theorem dX12_init_75 : decode cX12_init 75 = .ok (.putfield 36, 3) := by decide +kernel
theorem dX12_init_78 : decode cX12_init 78 = .ok (.aload_n 0, 1) := by decide +kernel
theorem dX12_init_79 : decode cX12_init 79 = .ok (.bipush 120, 2) := by decide +kernel
theorem dX12_init_81 : decode cX12_init 81 = .ok (.newarray .int, 2) := by decide +kernel
theorem dX12_init_83 : decode cX12_init 83 = .ok (.putfield 40, 3) := by decide +kernel
theorem dX12_init_86 : decode cX12_init 86 = .ok (.aload_n 0, 1) := by decide +kernel
theorem dX12_init_87 : decode cX12_init 87 = .ok (.sipush 400, 3) := by decide +kernel
theorem dX12_init_90 : decode cX12_init 90 = .ok (.newarray .int, 2) := by decide +kernel
theorem dX12_init_92 : decode cX12_init 92 = .ok (.putfield 43, 3) := by decide +kernel
theorem dX12_init_95 : decode cX12_init 95 = .ok (.aload_n 0, 1) := by decide +kernel
theorem dX12_init_96 : decode cX12_init 96 = .ok (.sipush 400, 3) := by decide +kernel
theorem dX12_init_99 : decode cX12_init 99 = .ok (.newarray .int, 2) := by decide +kernel
theorem dX12_init_101 : decode cX12_init 101 = .ok (.putfield 46, 3) := by decide +kernel
theorem dX12_init_104 : decode cX12_init 104 = .ok (.aload_n 0, 1) := by decide +kernel
theorem dX12_init_105 : decode cX12_init 105 = .ok (.sipush 400, 3) := by decide +kernel
theorem dX12_init_108 : decode cX12_init 108 = .ok (.newarray .int, 2) := by decide +kernel
theorem dX12_init_110 : decode cX12_init 110 = .ok (.putfield 49, 3) := by decide +kernel
theorem dX12_init_113 : decode cX12_init 113 = .ok (.aload_n 0, 1) := by decide +kernel
theorem dX12_init_114 : decode cX12_init 114 = .ok (.sipush 400, 3) := by decide +kernel
theorem dX12_init_117 : decode cX12_init 117 = .ok (.newarray .int, 2) := by decide +kernel
theorem dX12_init_119 : decode cX12_init 119 = .ok (.putfield 52, 3) := by decide +kernel
theorem dX12_init_122 : decode cX12_init 122 = .ok (.aload_n 0, 1) := by decide +kernel
theorem dX12_init_123 : decode cX12_init 123 = .ok (.bipush 20, 2) := by decide +kernel
theorem dX12_init_125 : decode cX12_init 125 = .ok (.newarray .boolean, 2) := by decide +kernel
theorem dX12_init_127 : decode cX12_init 127 = .ok (.putfield 55, 3) := by decide +kernel
theorem dX12_init_130 : decode cX12_init 130 = .ok (.aload_n 0, 1) := by decide +kernel
theorem dX12_init_131 : decode cX12_init 131 = .ok (.sipush 240, 3) := by decide +kernel
theorem dX12_init_134 : decode cX12_init 134 = .ok (.newarray .boolean, 2) := by decide +kernel
theorem dX12_init_136 : decode cX12_init 136 = .ok (.putfield 58, 3) := by decide +kernel
theorem dX12_init_139 : decode cX12_init 139 = .ok (.aload_n 0, 1) := by decide +kernel
theorem dX12_init_140 : decode cX12_init 140 = .ok (.bipush 16, 2) := by decide +kernel
theorem dX12_init_142 : decode cX12_init 142 = .ok (.newarray .long, 2) := by decide +kernel
theorem dX12_init_144 : decode cX12_init 144 = .ok (.putfield 61, 3) := by decide +kernel
theorem dX12_init_147 : decode cX12_init 147 = .ok (.aload_n 0, 1) := by decide +kernel
theorem dX12_init_148 : decode cX12_init 148 = .ok (.sipush 400, 3) := by decide +kernel
theorem dX12_init_151 : decode cX12_init 151 = .ok (.newarray .long, 2) := by decide +kernel
theorem dX12_init_153 : decode cX12_init 153 = .ok (.putfield 65, 3) := by decide +kernel
theorem dX12_init_156 : decode cX12_init 156 = .ok (.aload_n 0, 1) := by decide +kernel
theorem dX12_init_157 : decode cX12_init 157 = .ok (.sipush 401, 3) := by decide +kernel
theorem dX12_init_160 : decode cX12_init 160 = .ok (.newarray .int, 2) := by decide +kernel
theorem dX12_init_162 : decode cX12_init 162 = .ok (.putfield 68, 3) := by decide +kernel
theorem dX12_init_165 : decode cX12_init 165 = .ok (.aload_n 0, 1) := by decide +kernel
theorem dX12_init_166 : decode cX12_init 166 = .ok (.sipush 401, 3) := by decide +kernel
theorem dX12_init_169 : decode cX12_init 169 = .ok (.newarray .int, 2) := by decide +kernel
theorem dX12_init_171 : decode cX12_init 171 = .ok (.putfield 71, 3) := by decide +kernel
theorem dX12_init_174 : decode cX12_init 174 = .ok (.aload_n 0, 1) := by decide +kernel
theorem dX12_init_175 : decode cX12_init 175 = .ok (.bipush 6, 2) := by decide +kernel
theorem dX12_init_177 : decode cX12_init 177 = .ok (.newarray .int, 2) := by decide +kernel
theorem dX12_init_179 : decode cX12_init 179 = .ok (.putfield 74, 3) := by decide +kernel
theorem dX12_init_182 : decode cX12_init 182 = .ok (.aload_n 0, 1) := by decide +kernel
theorem dX12_init_183 : decode cX12_init 183 = .ok (.bipush 6, 2) := by decide +kernel
theorem dX12_init_185 : decode cX12_init 185 = .ok (.newarray .int, 2) := by decide +kernel
theorem dX12_init_187 : decode cX12_init 187 = .ok (.putfield 77, 3) := by decide +kernel
theorem dX12_init_190 : decode cX12_init 190 = .ok (.aload_n 0, 1) := by decide +kernel
theorem dX12_init_191 : decode cX12_init 191 = .ok (.sipush 4608, 3) := by decide +kernel
theorem dX12_init_194 : decode cX12_init 194 = .ok (.newarray .int, 2) := by decide +kernel
theorem dX12_init_196 : decode cX12_init 196 = .ok (.putfield 80, 3) := by decide +kernel
theorem dX12_init_199 : decode cX12_init 199 = .ok (.aload_n 0, 1) := by decide +kernel
theorem dX12_init_200 : decode cX12_init 200 = .ok (.iconst 5, 1) := by decide +kernel
theorem dX12_init_201 : decode cX12_init 201 = .ok (.newarray .int, 2) := by decide +kernel
theorem dX12_init_203 : decode cX12_init 203 = .ok (.putfield 83, 3) := by decide +kernel
theorem dX12_init_206 : decode cX12_init 206 = .ok (.aload_n 0, 1) := by decide +kernel
theorem dX12_init_207 : decode cX12_init 207 = .ok (.iconst 5, 1) := by decide +kernel
theorem dX12_init_208 : decode cX12_init 208 = .ok (.newarray .int, 2) := by decide +kernel
theorem dX12_init_210 : decode cX12_init 210 = .ok (.putfield 86, 3) := by decide +kernel
theorem dX12_init_213 : decode cX12_init 213 = .ok (.aload_n 0, 1) := by decide +kernel
theorem dX12_init_214 : decode cX12_init 214 = .ok (.sipush 400, 3) := by decide +kernel
theorem dX12_init_217 : decode cX12_init 217 = .ok (.newarray .int, 2) := by decide +kernel
theorem dX12_init_219 : decode cX12_init 219 = .ok (.putfield 89, 3) := by decide +kernel
theorem dX12_init_222 : decode cX12_init 222 = .ok (.return_, 1) := by decide +kernel
theorem dX12_isChild_0 : decode cX12_isChild 0 = .ok (.iload_n 1, 1) := by decide +kernel
theorem dX12_isChild_1 : decode cX12_isChild 1 = .ok (.i2l, 1) := by decide +kernel
theorem dX12_isChild_2 : decode cX12_isChild 2 = .ok (.lconst 0, 1) := by decide +kernel
theorem dX12_isChild_3 : decode cX12_isChild 3 = .ok (.aload_n 0, 1) := by decide +kernel
theorem dX12_isChild_4 : decode cX12_isChild 4 = .ok (.getfield 7, 3) := by decide +kernel
theorem dX12_isChild_7 : decode cX12_isChild 7 = .ok (.iconst 0, 1) := by decide +kernel
theorem dX12_isChild_8 : decode cX12_isChild 8 = .ok (.iaload, 1) := by decide +kernel
theorem dX12_isChild_9 : decode cX12_isChild 9 = .ok (.i2l, 1) := by decide +kernel
theorem dX12_isChild_10 : decode cX12_isChild 10 = .ok (.lconst 1, 1) := by decide +kernel
theorem dX12_isChild_11 : decode cX12_isChild 11 = .ok (.lsub, 1) := by decide +kernel
theorem dX12_isChild_12 : decode cX12_isChild 12 = .ok (.invokestatic 100, 3) := by decide +kernel
theorem dX12_isChild_15 : decode cX12_isChild 15 = .ok (.ireturn, 1) := by decide +kernel
theorem dX12_isDay_0 : decode cX12_isDay 0 = .ok (.iload_n 0, 1) := by decide +kernel
theorem dX12_isDay_1 : decode cX12_isDay 1 = .ok (.i2l, 1) := by decide +kernel
theorem dX12_isDay_2 : decode cX12_isDay 2 = .ok (.lconst 0, 1) := by decide +kernel
theorem dX12_isDay_3 : decode cX12_isDay 3 = .ok (.ldc2_w 98, 3) := by decide +kernel
theorem dX12_isDay_6 : decode cX12_isDay 6 = .ok (.invokestatic 100, 3) := by decide +kernel
theorem dX12_isDay_9 : decode cX12_isDay 9 = .ok (.ireturn, 1) := by decide +kernel
theorem dX12_isHalf_0 : decode cX12_isHalf 0 = .ok (.iload_n 0, 1) := by decide +kernel
theorem dX12_isHalf_1 : decode cX12_isHalf 1 = .ok (.i2l, 1) := by decide +kernel
theorem dX12_isHalf_2 : decode cX12_isHalf 2 = .ok (.lconst 0, 1) := by decide +kernel
theorem dX12_isHalf_3 : decode cX12_isHalf 3 = .ok (.ldc2_w 104, 3) := by decide +kernel
theorem dX12_isHalf_6 : decode cX12_isHalf 6 = .ok (.invokestatic 100, 3) := by decide +kernel
theorem dX12_isHalf_9 : decode cX12_isHalf 9 = .ok (.ireturn, 1) := by decide +kernel
theorem dX12_isJoin_0 : decode cX12_isJoin 0 = .ok (.aload_n 0, 1) := by decide +kernel
theorem dX12_isJoin_1 : decode cX12_isJoin 1 = .ok (.iconst 0, 1) := by decide +kernel
theorem dX12_isJoin_2 : decode cX12_isJoin 2 = .ok (.putfield 498, 3) := by decide +kernel
theorem dX12_isJoin_5 : decode cX12_isJoin 5 = .ok (.aload_n 0, 1) := by decide +kernel
theorem dX12_isJoin_6 : decode cX12_isJoin 6 = .ok (.iconst 0, 1) := by decide +kernel
theorem dX12_isJoin_7 : decode cX12_isJoin 7 = .ok (.putfield 501, 3) := by decide +kernel
theorem dX12_isJoin_10 : decode cX12_isJoin 10 = .ok (.iconst 0, 1) := by decide +kernel
theorem dX12_isJoin_11 : decode cX12_isJoin 11 = .ok (.istore_n 2, 1) := by decide +kernel
theorem dX12_isJoin_12 : decode cX12_isJoin 12 = .ok (.iconst 0, 1) := by decide +kernel
theorem dX12_isJoin_13 : decode cX12_isJoin 13 = .ok (.istore_n 3, 1) := by decide +kernel
theorem dX12_isJoin_14 : decode cX12_isJoin 14 = .ok (.iload_n 3, 1) := by decide +kernel
theorem dX12_isJoin_15 : decode cX12_isJoin 15 = .ok (.aload_n 0, 1) := by decide +kernel
theorem dX12_isJoin_16 : decode cX12_isJoin 16 = .ok (.getfield 7, 3) := by decide +kernel
theorem dX12_isJoin_19 : decode cX12_isJoin 19 = .ok (.bipush 6, 2) := by decide +kernel
theorem dX12_isJoin_21 : decode cX12_isJoin 21 = .ok (.iaload, 1) := by decide +kernel
theorem dX12_isJoin_22 : decode cX12_isJoin 22 = .ok (.if_icmp .ge 90, 3) := by decide +kernel
theorem dX12_isJoin_112 : decode cX12_isJoin 112 = .ok (.iconst 1, 1) := by decide +kernel
theorem dX12_isJoin_113 : decode cX12_isJoin 113 = .ok (.ireturn, 1) := by decide +kernel
theorem dX12_isMark_0 : decode cX12_isMark 0 = .ok (.iload_n 1, 1) := by decide +kernel
theorem dX12_isMark_1 : decode cX12_isMark 1 = .ok (.i2l, 1) := by decide +kernel
theorem dX12_isMark_2 : decode cX12_isMark 2 = .ok (.lconst 0, 1) := by decide +kernel
theorem dX12_isMark_3 : decode cX12_isMark 3 = .ok (.aload_n 0, 1) := by decide +kernel
theorem dX12_isMark_4 : decode cX12_isMark 4 = .ok (.getfield 7, 3) := by decide +kernel
theorem dX12_isMark_7 : decode cX12_isMark 7 = .ok (.iconst 3, 1) := by decide +kernel
theorem dX12_isMark_8 : decode cX12_isMark 8 = .ok (.iaload, 1) := by decide +kernel
theorem dX12_isMark_9 : decode cX12_isMark 9 = .ok (.i2l, 1) := by decide +kernel
theorem dX12_isMark_10 : decode cX12_isMark 10 = .ok (.lconst 1, 1) := by decide +kernel
theorem dX12_isMark_11 : decode cX12_isMark 11 = .ok (.lsub, 1) := by decide +kernel
theorem dX12_isMark_12 : decode cX12_isMark 12 = .ok (.invokestatic 100, 3) := by decide +kernel
theorem dX12_isMark_15 : decode cX12_isMark 15 = .ok (.ireturn, 1) := by decide +kernel
theorem dX12_isOn_0 : decode cX12_isOn 0 = .ok (.aload_n 0, 1) := by decide +kernel
theorem dX12_isOn_1 : decode cX12_isOn 1 = .ok (.iconst 0, 1) := by decide +kernel
theorem dX12_isOn_2 : decode cX12_isOn 2 = .ok (.putfield 92, 3) := by decide +kernel
theorem dX12_isOn_5 : decode cX12_isOn 5 = .ok (.aload_n 0, 1) := by decide +kernel
theorem dX12_isOn_6 : decode cX12_isOn 6 = .ok (.iload_n 1, 1) := by decide +kernel
theorem dX12_isOn_7 : decode cX12_isOn 7 = .ok (.invokevirtual 138, 3) := by decide +kernel
theorem dX12_isOn_10 : decode cX12_isOn 10 = .ok (.ifCond .eq 36, 3) := by decide +kernel
theorem dX12_isOn_46 : decode cX12_isOn 46 = .ok (.iconst (-1), 1) := by decide +kernel
theorem dX12_isOn_47 : decode cX12_isOn 47 = .ok (.ireturn, 1) := by decide +kernel
theorem dX12_isSchool_0 : decode cX12_isSchool 0 = .ok (.iload_n 1, 1) := by decide +kernel
theorem dX12_isSchool_1 : decode cX12_isSchool 1 = .ok (.i2l, 1) := by decide +kernel
theorem dX12_isSchool_2 : decode cX12_isSchool 2 = .ok (.lconst 0, 1) := by decide +kernel
theorem dX12_isSchool_3 : decode cX12_isSchool 3 = .ok (.aload_n 0, 1) := by decide +kernel
theorem dX12_isSchool_4 : decode cX12_isSchool 4 = .ok (.getfield 7, 3) := by decide +kernel
theorem dX12_isSchool_7 : decode cX12_isSchool 7 = .ok (.iconst 1, 1) := by decide +kernel
theorem dX12_isSchool_8 : decode cX12_isSchool 8 = .ok (.iaload, 1) := by decide +kernel
theorem dX12_isSchool_9 : decode cX12_isSchool 9 = .ok (.i2l, 1) := by decide +kernel
theorem dX12_isSchool_10 : decode cX12_isSchool 10 = .ok (.lconst 1, 1) := by decide +kernel
theorem dX12_isSchool_11 : decode cX12_isSchool 11 = .ok (.lsub, 1) := by decide +kernel
theorem dX12_isSchool_12 : decode cX12_isSchool 12 = .ok (.invokestatic 100, 3) := by decide +kernel
theorem dX12_isSchool_15 : decode cX12_isSchool 15 = .ok (.ireturn, 1) := by decide +kernel
theorem dX12_isStep_0 : decode cX12_isStep 0 = .ok (.iload_n 0, 1) := by decide +kernel
theorem dX12_isStep_1 : decode cX12_isStep 1 = .ok (.i2l, 1) := by decide +kernel
theorem dX12_isStep_2 : decode cX12_isStep 2 = .ok (.lconst 0, 1) := by decide +kernel
theorem dX12_isStep_3 : decode cX12_isStep 3 = .ok (.ldc2_w 110, 3) := by decide +kernel
theorem dX12_isStep_6 : decode cX12_isStep 6 = .ok (.invokestatic 100, 3) := by decide +kernel
theorem dX12_isStep_9 : decode cX12_isStep 9 = .ok (.ireturn, 1) := by decide +kernel
theorem dX12_isWord_0 : decode cX12_isWord 0 = .ok (.aload_n 0, 1) := by decide +kernel
theorem dX12_isWord_1 : decode cX12_isWord 1 = .ok (.getfield 222, 3) := by decide +kernel
theorem dX12_isWord_4 : decode cX12_isWord 4 = .ok (.iconst 1, 1) := by decide +kernel
theorem dX12_isWord_5 : decode cX12_isWord 5 = .ok (.if_icmp .ne 16, 3) := by decide +kernel
theorem dX12_isWord_21 : decode cX12_isWord 21 = .ok (.iconst 0, 1) := by decide +kernel
theorem dX12_isWord_22 : decode cX12_isWord 22 = .ok (.ireturn, 1) := by decide +kernel
theorem dX12_join_0 : decode cX12_join 0 = .ok (.aload_n 0, 1) := by decide +kernel
theorem dX12_join_1 : decode cX12_join 1 = .ok (.iconst 0, 1) := by decide +kernel
theorem dX12_join_2 : decode cX12_join 2 = .ok (.putfield 92, 3) := by decide +kernel
theorem dX12_join_5 : decode cX12_join 5 = .ok (.iload_n 1, 1) := by decide +kernel
theorem dX12_join_6 : decode cX12_join 6 = .ok (.i2l, 1) := by decide +kernel
theorem dX12_join_7 : decode cX12_join 7 = .ok (.lconst 0, 1) := by decide +kernel
theorem dX12_join_8 : decode cX12_join 8 = .ok (.ldc2_w 507, 3) := by decide +kernel
theorem dX12_join_11 : decode cX12_join 11 = .ok (.invokestatic 100, 3) := by decide +kernel
theorem dX12_join_14 : decode cX12_join 14 = .ok (.ifCond .ne 5, 3) := by decide +kernel
theorem dX12_join_17 : decode cX12_join 17 = .ok (.iconst (-1), 1) := by decide +kernel
theorem dX12_join_18 : decode cX12_join 18 = .ok (.ireturn, 1) := by decide +kernel
theorem dX12_join_19 : decode cX12_join 19 = .ok (.aload_n 0, 1) := by decide +kernel
theorem dX12_join_20 : decode cX12_join 20 = .ok (.getfield 7, 3) := by decide +kernel
theorem dX12_join_23 : decode cX12_join 23 = .ok (.bipush 6, 2) := by decide +kernel
theorem dX12_join_25 : decode cX12_join 25 = .ok (.iaload, 1) := by decide +kernel
theorem dX12_join_26 : decode cX12_join 26 = .ok (.istore_n 2, 1) := by decide +kernel
theorem dX12_join_27 : decode cX12_join 27 = .ok (.aload_n 0, 1) := by decide +kernel
theorem dX12_join_28 : decode cX12_join 28 = .ok (.getfield 7, 3) := by decide +kernel
theorem dX12_join_31 : decode cX12_join 31 = .ok (.iconst 5, 1) := by decide +kernel
theorem dX12_join_32 : decode cX12_join 32 = .ok (.iaload, 1) := by decide +kernel
theorem dX12_join_33 : decode cX12_join 33 = .ok (.iconst 1, 1) := by decide +kernel
theorem dX12_join_34 : decode cX12_join 34 = .ok (.iadd, 1) := by decide +kernel
theorem dX12_join_35 : decode cX12_join 35 = .ok (.istore_n 3, 1) := by decide +kernel
theorem dX12_join_36 : decode cX12_join 36 = .ok (.iconst 1, 1) := by decide +kernel
theorem dX12_join_37 : decode cX12_join 37 = .ok (.istore 4, 2) := by decide +kernel
theorem dX12_join_39 : decode cX12_join 39 = .ok (.iconst 0, 1) := by decide +kernel
theorem dX12_join_40 : decode cX12_join 40 = .ok (.istore 5, 2) := by decide +kernel
theorem dX12_join_42 : decode cX12_join 42 = .ok (.iload 5, 2) := by decide +kernel
theorem dX12_join_44 : decode cX12_join 44 = .ok (.iload_n 2, 1) := by decide +kernel
theorem dX12_join_45 : decode cX12_join 45 = .ok (.if_icmp .ge 15, 3) := by decide +kernel
theorem dX12_join_60 : decode cX12_join 60 = .ok (.iconst (-1), 1) := by decide +kernel
theorem dX12_join_61 : decode cX12_join 61 = .ok (.istore 5, 2) := by decide +kernel
theorem dX12_join_63 : decode cX12_join 63 = .ok (.iconst 0, 1) := by decide +kernel
theorem dX12_join_64 : decode cX12_join 64 = .ok (.istore 6, 2) := by decide +kernel
theorem dX12_join_66 : decode cX12_join 66 = .ok (.iconst 0, 1) := by decide +kernel
theorem dX12_join_67 : decode cX12_join 67 = .ok (.istore 7, 2) := by decide +kernel
theorem dX12_join_69 : decode cX12_join 69 = .ok (.iload 7, 2) := by decide +kernel
theorem dX12_join_71 : decode cX12_join 71 = .ok (.iload 4, 2) := by decide +kernel
theorem dX12_join_73 : decode cX12_join 73 = .ok (.if_icmp .ge 173, 3) := by decide +kernel
theorem dX12_join_76 : decode cX12_join 76 = .ok (.iload 7, 2) := by decide +kernel
theorem dX12_join_78 : decode cX12_join 78 = .ok (.istore 8, 2) := by decide +kernel
theorem dX12_join_80 : decode cX12_join 80 = .ok (.iload_n 2, 1) := by decide +kernel
theorem dX12_join_81 : decode cX12_join 81 = .ok (.iconst 1, 1) := by decide +kernel
theorem dX12_join_82 : decode cX12_join 82 = .ok (.isub, 1) := by decide +kernel
theorem dX12_join_83 : decode cX12_join 83 = .ok (.istore 9, 2) := by decide +kernel
theorem dX12_join_85 : decode cX12_join 85 = .ok (.iload 9, 2) := by decide +kernel
theorem dX12_join_87 : decode cX12_join 87 = .ok (.ifCond .lt 40, 3) := by decide +kernel
theorem dX12_join_127 : decode cX12_join 127 = .ok (.aload_n 0, 1) := by decide +kernel
theorem dX12_join_128 : decode cX12_join 128 = .ok (.iload_n 1, 1) := by decide +kernel
theorem dX12_join_129 : decode cX12_join 129 = .ok (.invokevirtual 509, 3) := by decide +kernel
theorem dX12_join_132 : decode cX12_join 132 = .ok (.ifCond .eq 108, 3) := by decide +kernel
theorem dX12_join_135 : decode cX12_join 135 = .ok (.aload_n 0, 1) := by decide +kernel
theorem dX12_join_136 : decode cX12_join 136 = .ok (.getfield 498, 3) := by decide +kernel
theorem dX12_join_139 : decode cX12_join 139 = .ok (.iload 5, 2) := by decide +kernel
theorem dX12_join_141 : decode cX12_join 141 = .ok (.if_icmp .gt 21, 3) := by decide +kernel
theorem dX12_join_162 : decode cX12_join 162 = .ok (.aload_n 0, 1) := by decide +kernel
theorem dX12_join_163 : decode cX12_join 163 = .ok (.getfield 498, 3) := by decide +kernel
theorem dX12_join_166 : decode cX12_join 166 = .ok (.istore 5, 2) := by decide +kernel
theorem dX12_join_168 : decode cX12_join 168 = .ok (.aload_n 0, 1) := by decide +kernel
theorem dX12_join_169 : decode cX12_join 169 = .ok (.getfield 501, 3) := by decide +kernel
theorem dX12_join_172 : decode cX12_join 172 = .ok (.istore 6, 2) := by decide +kernel
theorem dX12_join_174 : decode cX12_join 174 = .ok (.aload_n 0, 1) := by decide +kernel
theorem dX12_join_175 : decode cX12_join 175 = .ok (.iconst 0, 1) := by decide +kernel
theorem dX12_join_176 : decode cX12_join 176 = .ok (.putfield 512, 3) := by decide +kernel
theorem dX12_join_179 : decode cX12_join 179 = .ok (.iconst 0, 1) := by decide +kernel
theorem dX12_join_180 : decode cX12_join 180 = .ok (.istore 9, 2) := by decide +kernel
theorem dX12_join_182 : decode cX12_join 182 = .ok (.iload 9, 2) := by decide +kernel
theorem dX12_join_184 : decode cX12_join 184 = .ok (.iload_n 2, 1) := by decide +kernel
theorem dX12_join_185 : decode cX12_join 185 = .ok (.if_icmp .ge 23, 3) := by decide +kernel
theorem dX12_join_208 : decode cX12_join 208 = .ok (.aload_n 0, 1) := by decide +kernel
theorem dX12_join_209 : decode cX12_join 209 = .ok (.dup, 1) := by decide +kernel
theorem dX12_join_210 : decode cX12_join 210 = .ok (.getfield 512, 3) := by decide +kernel
theorem dX12_join_213 : decode cX12_join 213 = .ok (.aload_n 0, 1) := by decide +kernel
theorem dX12_join_214 : decode cX12_join 214 = .ok (.getfield 498, 3) := by decide +kernel
theorem dX12_join_217 : decode cX12_join 217 = .ok (.iload 5, 2) := by decide +kernel
theorem dX12_join_219 : decode cX12_join 219 = .ok (.if_icmp .ne 16, 3) := by decide +kernel
theorem dX12_join_222 : decode cX12_join 222 = .ok (.aload_n 0, 1) := by decide +kernel
theorem dX12_join_223 : decode cX12_join 223 = .ok (.getfield 501, 3) := by decide +kernel
theorem dX12_join_226 : decode cX12_join 226 = .ok (.iload 6, 2) := by decide +kernel
theorem dX12_join_228 : decode cX12_join 228 = .ok (.if_icmp .ne 7, 3) := by decide +kernel
theorem dX12_join_231 : decode cX12_join 231 = .ok (.iconst 1, 1) := by decide +kernel
theorem dX12_join_232 : decode cX12_join 232 = .ok (.goto 4, 3) := by decide +kernel
theorem dX12_join_236 : decode cX12_join 236 = .ok (.iadd, 1) := by decide +kernel
theorem dX12_join_237 : decode cX12_join 237 = .ok (.putfield 512, 3) := by decide +kernel
theorem dX12_join_240 : decode cX12_join 240 = .ok (.iinc 7 1, 3) := by decide +kernel
theorem dX12_join_243 : decode cX12_join 243 = .ok (.goto (-174), 3) := by decide +kernel
theorem dX12_join_246 : decode cX12_join 246 = .ok (.aload_n 0, 1) := by decide +kernel
theorem dX12_join_247 : decode cX12_join 247 = .ok (.iconst 1, 1) := by decide +kernel
theorem dX12_join_248 : decode cX12_join 248 = .ok (.putfield 515, 3) := by decide +kernel
theorem dX12_join_251 : decode cX12_join 251 = .ok (.aload_n 0, 1) := by decide +kernel
theorem dX12_join_252 : decode cX12_join 252 = .ok (.iload_n 2, 1) := by decide +kernel
theorem dX12_join_253 : decode cX12_join 253 = .ok (.putfield 518, 3) := by decide +kernel
theorem dX12_join_256 : decode cX12_join 256 = .ok (.iload 5, 2) := by decide +kernel
theorem dX12_join_258 : decode cX12_join 258 = .ok (.ireturn, 1) := by decide +kernel
theorem dX12_joined_0 : decode cX12_joined 0 = .ok (.aload_n 0, 1) := by decide +kernel
theorem dX12_joined_1 : decode cX12_joined 1 = .ok (.iconst 0, 1) := by decide +kernel
theorem dX12_joined_2 : decode cX12_joined 2 = .ok (.putfield 92, 3) := by decide +kernel
theorem dX12_joined_5 : decode cX12_joined 5 = .ok (.aload_n 0, 1) := by decide +kernel
theorem dX12_joined_6 : decode cX12_joined 6 = .ok (.getfield 515, 3) := by decide +kernel
theorem dX12_joined_9 : decode cX12_joined 9 = .ok (.ifCond .ne 7, 3) := by decide +kernel
theorem dX12_joined_12 : decode cX12_joined 12 = .ok (.iconst (-1), 1) := by decide +kernel
theorem dX12_joined_13 : decode cX12_joined 13 = .ok (.goto 41, 3) := by decide +kernel
theorem dX12_joined_54 : decode cX12_joined 54 = .ok (.ireturn, 1) := by decide +kernel
theorem dX12_judge_0 : decode cX12_judge 0 = .ok (.aload_n 0, 1) := by decide +kernel
theorem dX12_judge_1 : decode cX12_judge 1 = .ok (.iconst 0, 1) := by decide +kernel
theorem dX12_judge_2 : decode cX12_judge 2 = .ok (.putfield 92, 3) := by decide +kernel
theorem dX12_judge_5 : decode cX12_judge 5 = .ok (.iconst 1, 1) := by decide +kernel
theorem dX12_judge_6 : decode cX12_judge 6 = .ok (.istore_n 3, 1) := by decide +kernel
theorem dX12_judge_7 : decode cX12_judge 7 = .ok (.iconst 0, 1) := by decide +kernel
theorem dX12_judge_8 : decode cX12_judge 8 = .ok (.istore 4, 2) := by decide +kernel
theorem dX12_judge_10 : decode cX12_judge 10 = .ok (.iload 4, 2) := by decide +kernel
theorem dX12_judge_12 : decode cX12_judge 12 = .ok (.aload_n 0, 1) := by decide +kernel
theorem dX12_judge_13 : decode cX12_judge 13 = .ok (.getfield 7, 3) := by decide +kernel
theorem dX12_judge_16 : decode cX12_judge 16 = .ok (.bipush 6, 2) := by decide +kernel
theorem dX12_judge_18 : decode cX12_judge 18 = .ok (.iaload, 1) := by decide +kernel
theorem dX12_judge_19 : decode cX12_judge 19 = .ok (.if_icmp .ge 14, 3) := by decide +kernel
theorem dX12_judge_33 : decode cX12_judge 33 = .ok (.iload_n 1, 1) := by decide +kernel
theorem dX12_judge_34 : decode cX12_judge 34 = .ok (.i2l, 1) := by decide +kernel
theorem dX12_judge_35 : decode cX12_judge 35 = .ok (.lconst 0, 1) := by decide +kernel
theorem dX12_judge_36 : decode cX12_judge 36 = .ok (.iload_n 3, 1) := by decide +kernel
theorem dX12_judge_37 : decode cX12_judge 37 = .ok (.i2l, 1) := by decide +kernel
theorem dX12_judge_38 : decode cX12_judge 38 = .ok (.lconst 1, 1) := by decide +kernel
theorem dX12_judge_39 : decode cX12_judge 39 = .ok (.lsub, 1) := by decide +kernel
theorem dX12_judge_40 : decode cX12_judge 40 = .ok (.invokestatic 100, 3) := by decide +kernel
theorem dX12_judge_43 : decode cX12_judge 43 = .ok (.ifCond .eq 15, 3) := by decide +kernel
theorem dX12_judge_46 : decode cX12_judge 46 = .ok (.iload_n 2, 1) := by decide +kernel
theorem dX12_judge_47 : decode cX12_judge 47 = .ok (.i2l, 1) := by decide +kernel
theorem dX12_judge_48 : decode cX12_judge 48 = .ok (.lconst 0, 1) := by decide +kernel
theorem dX12_judge_49 : decode cX12_judge 49 = .ok (.ldc2_w 507, 3) := by decide +kernel
theorem dX12_judge_52 : decode cX12_judge 52 = .ok (.invokestatic 100, 3) := by decide +kernel
theorem dX12_judge_55 : decode cX12_judge 55 = .ok (.ifCond .ne 5, 3) := by decide +kernel
theorem dX12_judge_58 : decode cX12_judge 58 = .ok (.iconst (-1), 1) := by decide +kernel
theorem dX12_judge_59 : decode cX12_judge 59 = .ok (.ireturn, 1) := by decide +kernel
theorem dX12_judge_60 : decode cX12_judge 60 = .ok (.iload_n 1, 1) := by decide +kernel
theorem dX12_judge_61 : decode cX12_judge 61 = .ok (.istore 4, 2) := by decide +kernel
theorem dX12_judge_63 : decode cX12_judge 63 = .ok (.iconst 0, 1) := by decide +kernel
theorem dX12_judge_64 : decode cX12_judge 64 = .ok (.istore 5, 2) := by decide +kernel
theorem dX12_judge_66 : decode cX12_judge 66 = .ok (.iload 5, 2) := by decide +kernel
theorem dX12_judge_68 : decode cX12_judge 68 = .ok (.aload_n 0, 1) := by decide +kernel
theorem dX12_judge_69 : decode cX12_judge 69 = .ok (.getfield 7, 3) := by decide +kernel
theorem dX12_judge_72 : decode cX12_judge 72 = .ok (.bipush 6, 2) := by decide +kernel
theorem dX12_judge_74 : decode cX12_judge 74 = .ok (.iaload, 1) := by decide +kernel
theorem dX12_judge_75 : decode cX12_judge 75 = .ok (.if_icmp .ge 30, 3) := by decide +kernel
theorem dX12_judge_105 : decode cX12_judge 105 = .ok (.aload_n 0, 1) := by decide +kernel
theorem dX12_judge_106 : decode cX12_judge 106 = .ok (.iload_n 2, 1) := by decide +kernel
theorem dX12_judge_107 : decode cX12_judge 107 = .ok (.invokevirtual 509, 3) := by decide +kernel
theorem dX12_judge_110 : decode cX12_judge 110 = .ok (.ifCond .eq 10, 3) := by decide +kernel
theorem dX12_judge_113 : decode cX12_judge 113 = .ok (.aload_n 0, 1) := by decide +kernel
theorem dX12_judge_114 : decode cX12_judge 114 = .ok (.getfield 498, 3) := by decide +kernel
theorem dX12_judge_117 : decode cX12_judge 117 = .ok (.goto 4, 3) := by decide +kernel
theorem dX12_judge_121 : decode cX12_judge 121 = .ok (.ireturn, 1) := by decide +kernel
theorem dX12_knowBy_0 : decode cX12_knowBy 0 = .ok (.aload_n 0, 1) := by decide +kernel
theorem dX12_knowBy_1 : decode cX12_knowBy 1 = .ok (.iload_n 1, 1) := by decide +kernel
theorem dX12_knowBy_2 : decode cX12_knowBy 2 = .ok (.putfield 161, 3) := by decide +kernel
theorem dX12_knowBy_5 : decode cX12_knowBy 5 = .ok (.iconst 0, 1) := by decide +kernel
theorem dX12_knowBy_6 : decode cX12_knowBy 6 = .ok (.istore_n 2, 1) := by decide +kernel
theorem dX12_knowBy_7 : decode cX12_knowBy 7 = .ok (.iload_n 2, 1) := by decide +kernel
theorem dX12_knowBy_8 : decode cX12_knowBy 8 = .ok (.aload_n 0, 1) := by decide +kernel
theorem dX12_knowBy_9 : decode cX12_knowBy 9 = .ok (.getfield 7, 3) := by decide +kernel
theorem dX12_knowBy_12 : decode cX12_knowBy 12 = .ok (.iconst 3, 1) := by decide +kernel
theorem dX12_knowBy_13 : decode cX12_knowBy 13 = .ok (.iaload, 1) := by decide +kernel
theorem dX12_knowBy_14 : decode cX12_knowBy 14 = .ok (.if_icmp .ge 229, 3) := by decide +kernel
theorem dX12_knowBy_243 : decode cX12_knowBy 243 = .ok (.aload_n 0, 1) := by decide +kernel
theorem dX12_knowBy_244 : decode cX12_knowBy 244 = .ok (.invokevirtual 164, 3) := by decide +kernel
theorem dX12_knowBy_247 : decode cX12_knowBy 247 = .ok (.return_, 1) := by decide +kernel
theorem dX12_mark_0 : decode cX12_mark 0 = .ok (.aload_n 0, 1) := by decide +kernel
theorem dX12_mark_1 : decode cX12_mark 1 = .ok (.iconst 0, 1) := by decide +kernel
theorem dX12_mark_2 : decode cX12_mark 2 = .ok (.putfield 92, 3) := by decide +kernel
theorem dX12_mark_5 : decode cX12_mark 5 = .ok (.iload_n 3, 1) := by decide +kernel
theorem dX12_mark_6 : decode cX12_mark 6 = .ok (.invokestatic 145, 3) := by decide +kernel
theorem dX12_mark_9 : decode cX12_mark 9 = .ok (.ifCond .eq 37, 3) := by decide +kernel
theorem dX12_mark_12 : decode cX12_mark 12 = .ok (.iload 4, 2) := by decide +kernel
theorem dX12_mark_14 : decode cX12_mark 14 = .ok (.i2l, 1) := by decide +kernel
theorem dX12_mark_15 : decode cX12_mark 15 = .ok (.lconst 0, 1) := by decide +kernel
theorem dX12_mark_16 : decode cX12_mark 16 = .ok (.ldc2_w 151, 3) := by decide +kernel
theorem dX12_mark_19 : decode cX12_mark 19 = .ok (.invokestatic 100, 3) := by decide +kernel
theorem dX12_mark_22 : decode cX12_mark 22 = .ok (.ifCond .eq 24, 3) := by decide +kernel
theorem dX12_mark_25 : decode cX12_mark 25 = .ok (.iload 5, 2) := by decide +kernel
theorem dX12_mark_27 : decode cX12_mark 27 = .ok (.i2l, 1) := by decide +kernel
theorem dX12_mark_28 : decode cX12_mark 28 = .ok (.lconst 0, 1) := by decide +kernel
theorem dX12_mark_29 : decode cX12_mark 29 = .ok (.ldc2_w 153, 3) := by decide +kernel
theorem dX12_mark_32 : decode cX12_mark 32 = .ok (.invokestatic 100, 3) := by decide +kernel
theorem dX12_mark_35 : decode cX12_mark 35 = .ok (.ifCond .eq 11, 3) := by decide +kernel
theorem dX12_mark_38 : decode cX12_mark 38 = .ok (.iload 6, 2) := by decide +kernel
theorem dX12_mark_40 : decode cX12_mark 40 = .ok (.invokestatic 127, 3) := by decide +kernel
theorem dX12_mark_43 : decode cX12_mark 43 = .ok (.ifCond .ne 9, 3) := by decide +kernel
theorem dX12_mark_46 : decode cX12_mark 46 = .ok (.aload_n 0, 1) := by decide +kernel
theorem dX12_mark_47 : decode cX12_mark 47 = .ok (.iconst (-1), 1) := by decide +kernel
theorem dX12_mark_48 : decode cX12_mark 48 = .ok (.invokevirtual 106, 3) := by decide +kernel
theorem dX12_mark_51 : decode cX12_mark 51 = .ok (.ireturn, 1) := by decide +kernel
theorem dX12_mark_52 : decode cX12_mark 52 = .ok (.aload_n 0, 1) := by decide +kernel
theorem dX12_mark_53 : decode cX12_mark 53 = .ok (.iload_n 1, 1) := by decide +kernel
theorem dX12_mark_54 : decode cX12_mark 54 = .ok (.invokevirtual 131, 3) := by decide +kernel
theorem dX12_mark_57 : decode cX12_mark 57 = .ok (.ifCond .eq 11, 3) := by decide +kernel
theorem dX12_mark_68 : decode cX12_mark 68 = .ok (.aload_n 0, 1) := by decide +kernel
theorem dX12_mark_69 : decode cX12_mark 69 = .ok (.bipush (-2), 2) := by decide +kernel
theorem dX12_mark_71 : decode cX12_mark 71 = .ok (.invokevirtual 106, 3) := by decide +kernel
theorem dX12_mark_74 : decode cX12_mark 74 = .ok (.ireturn, 1) := by decide +kernel
theorem dX12_missing_0 : decode cX12_missing 0 = .ok (.aload_n 0, 1) := by decide +kernel
theorem dX12_missing_1 : decode cX12_missing 1 = .ok (.iconst 0, 1) := by decide +kernel
theorem dX12_missing_2 : decode cX12_missing 2 = .ok (.putfield 92, 3) := by decide +kernel
theorem dX12_missing_5 : decode cX12_missing 5 = .ok (.iload_n 2, 1) := by decide +kernel
theorem dX12_missing_6 : decode cX12_missing 6 = .ok (.i2l, 1) := by decide +kernel
theorem dX12_missing_7 : decode cX12_missing 7 = .ok (.lconst 0, 1) := by decide +kernel
theorem dX12_missing_8 : decode cX12_missing 8 = .ok (.ldc2_w 496, 3) := by decide +kernel
theorem dX12_missing_11 : decode cX12_missing 11 = .ok (.invokestatic 100, 3) := by decide +kernel
theorem dX12_missing_14 : decode cX12_missing 14 = .ok (.ifCond .ne 9, 3) := by decide +kernel
theorem dX12_missing_17 : decode cX12_missing 17 = .ok (.aload_n 0, 1) := by decide +kernel
theorem dX12_missing_18 : decode cX12_missing 18 = .ok (.iconst (-1), 1) := by decide +kernel
theorem dX12_missing_19 : decode cX12_missing 19 = .ok (.invokevirtual 106, 3) := by decide +kernel
theorem dX12_missing_22 : decode cX12_missing 22 = .ok (.ireturn, 1) := by decide +kernel
theorem dX12_missing_23 : decode cX12_missing 23 = .ok (.aload_n 0, 1) := by decide +kernel
theorem dX12_missing_24 : decode cX12_missing 24 = .ok (.iload_n 1, 1) := by decide +kernel
theorem dX12_missing_25 : decode cX12_missing 25 = .ok (.invokevirtual 138, 3) := by decide +kernel
theorem dX12_missing_28 : decode cX12_missing 28 = .ok (.ifCond .ne 10, 3) := by decide +kernel
theorem dX12_missing_31 : decode cX12_missing 31 = .ok (.aload_n 0, 1) := by decide +kernel
theorem dX12_missing_32 : decode cX12_missing 32 = .ok (.bipush (-2), 2) := by decide +kernel
theorem dX12_missing_34 : decode cX12_missing 34 = .ok (.invokevirtual 106, 3) := by decide +kernel
theorem dX12_missing_37 : decode cX12_missing 37 = .ok (.ireturn, 1) := by decide +kernel
theorem dX12_must_0 : decode cX12_must 0 = .ok (.aload_n 0, 1) := by decide +kernel
theorem dX12_must_1 : decode cX12_must 1 = .ok (.getfield 202, 3) := by decide +kernel
theorem dX12_must_4 : decode cX12_must 4 = .ok (.ifCond .ne 20, 3) := by decide +kernel
theorem dX12_must_7 : decode cX12_must 7 = .ok (.iload_n 1, 1) := by decide +kernel
theorem dX12_must_8 : decode cX12_must 8 = .ok (.ifCond .ne 16, 3) := by decide +kernel
theorem dX12_must_11 : decode cX12_must 11 = .ok (.aload_n 0, 1) := by decide +kernel
theorem dX12_must_12 : decode cX12_must 12 = .ok (.iconst 1, 1) := by decide +kernel
theorem dX12_must_13 : decode cX12_must 13 = .ok (.putfield 202, 3) := by decide +kernel
theorem dX12_must_16 : decode cX12_must 16 = .ok (.aload_n 0, 1) := by decide +kernel
theorem dX12_must_17 : decode cX12_must 17 = .ok (.aload_n 0, 1) := by decide +kernel
theorem dX12_must_18 : decode cX12_must 18 = .ok (.getfield 209, 3) := by decide +kernel
theorem dX12_must_21 : decode cX12_must 21 = .ok (.putfield 36, 3) := by decide +kernel
theorem dX12_must_24 : decode cX12_must 24 = .ok (.aload_n 0, 1) := by decide +kernel
theorem dX12_must_25 : decode cX12_must 25 = .ok (.getfield 202, 3) := by decide +kernel
theorem dX12_must_28 : decode cX12_must 28 = .ok (.ifCond .ne 7, 3) := by decide +kernel
theorem dX12_must_35 : decode cX12_must 35 = .ok (.return_, 1) := by decide +kernel
theorem dX12_next_0 : decode cX12_next 0 = .ok (.aload_n 0, 1) := by decide +kernel
theorem dX12_next_1 : decode cX12_next 1 = .ok (.aload_n 0, 1) := by decide +kernel
theorem dX12_next_2 : decode cX12_next 2 = .ok (.getfield 199, 3) := by decide +kernel
theorem dX12_next_5 : decode cX12_next 5 = .ok (.putfield 209, 3) := by decide +kernel
theorem dX12_next_8 : decode cX12_next 8 = .ok (.aload_n 0, 1) := by decide +kernel
theorem dX12_next_9 : decode cX12_next 9 = .ok (.getfield 209, 3) := by decide +kernel
theorem dX12_next_12 : decode cX12_next 12 = .ok (.aload_n 0, 1) := by decide +kernel
theorem dX12_next_13 : decode cX12_next 13 = .ok (.getfield 193, 3) := by decide +kernel
theorem dX12_next_16 : decode cX12_next 16 = .ok (.if_icmp .ge 30, 3) := by decide +kernel
theorem dX12_next_46 : decode cX12_next 46 = .ok (.aload_n 0, 1) := by decide +kernel
theorem dX12_next_47 : decode cX12_next 47 = .ok (.aload_n 0, 1) := by decide +kernel
theorem dX12_next_48 : decode cX12_next 48 = .ok (.getfield 209, 3) := by decide +kernel
theorem dX12_next_51 : decode cX12_next 51 = .ok (.putfield 199, 3) := by decide +kernel
theorem dX12_next_54 : decode cX12_next 54 = .ok (.aload_n 0, 1) := by decide +kernel
theorem dX12_next_55 : decode cX12_next 55 = .ok (.lconst 0, 1) := by decide +kernel
theorem dX12_next_56 : decode cX12_next 56 = .ok (.putfield 212, 3) := by decide +kernel
theorem dX12_next_59 : decode cX12_next 59 = .ok (.aload_n 0, 1) := by decide +kernel
theorem dX12_next_60 : decode cX12_next 60 = .ok (.aload_n 0, 1) := by decide +kernel
theorem dX12_next_61 : decode cX12_next 61 = .ok (.getfield 209, 3) := by decide +kernel
theorem dX12_next_64 : decode cX12_next 64 = .ok (.aload_n 0, 1) := by decide +kernel
theorem dX12_next_65 : decode cX12_next 65 = .ok (.getfield 193, 3) := by decide +kernel
theorem dX12_next_68 : decode cX12_next 68 = .ok (.if_icmp .ne 7, 3) := by decide +kernel
theorem dX12_next_71 : decode cX12_next 71 = .ok (.iconst 0, 1) := by decide +kernel
theorem dX12_next_72 : decode cX12_next 72 = .ok (.goto 42, 3) := by decide +kernel
theorem dX12_next_114 : decode cX12_next 114 = .ok (.putfield 222, 3) := by decide +kernel
theorem dX12_next_117 : decode cX12_next 117 = .ok (.aload_n 0, 1) := by decide +kernel
theorem dX12_next_118 : decode cX12_next 118 = .ok (.getfield 222, 3) := by decide +kernel
theorem dX12_next_121 : decode cX12_next 121 = .ok (.iconst 3, 1) := by decide +kernel
theorem dX12_next_122 : decode cX12_next 122 = .ok (.if_icmp .ne 27, 3) := by decide +kernel
theorem dX12_next_149 : decode cX12_next 149 = .ok (.aload_n 0, 1) := by decide +kernel
theorem dX12_next_150 : decode cX12_next 150 = .ok (.getfield 222, 3) := by decide +kernel
theorem dX12_next_153 : decode cX12_next 153 = .ok (.iconst 1, 1) := by decide +kernel
theorem dX12_next_154 : decode cX12_next 154 = .ok (.if_icmp .ne 89, 3) := by decide +kernel
theorem dX12_next_243 : decode cX12_next 243 = .ok (.aload_n 0, 1) := by decide +kernel
theorem dX12_next_244 : decode cX12_next 244 = .ok (.getfield 222, 3) := by decide +kernel
theorem dX12_next_247 : decode cX12_next 247 = .ok (.iconst 2, 1) := by decide +kernel
theorem dX12_next_248 : decode cX12_next 248 = .ok (.if_icmp .ne 87, 3) := by decide +kernel
theorem dX12_next_335 : decode cX12_next 335 = .ok (.return_, 1) := by decide +kernel
theorem dX12_off_0 : decode cX12_off 0 = .ok (.aload_n 0, 1) := by decide +kernel
theorem dX12_off_1 : decode cX12_off 1 = .ok (.iconst 0, 1) := by decide +kernel
theorem dX12_off_2 : decode cX12_off 2 = .ok (.putfield 92, 3) := by decide +kernel
theorem dX12_off_5 : decode cX12_off 5 = .ok (.aload_n 0, 1) := by decide +kernel
theorem dX12_off_6 : decode cX12_off 6 = .ok (.iload_n 1, 1) := by decide +kernel
theorem dX12_off_7 : decode cX12_off 7 = .ok (.invokevirtual 138, 3) := by decide +kernel
theorem dX12_off_10 : decode cX12_off 10 = .ok (.ifCond .eq 17, 3) := by decide +kernel
theorem dX12_off_27 : decode cX12_off 27 = .ok (.iconst (-1), 1) := by decide +kernel
theorem dX12_off_28 : decode cX12_off 28 = .ok (.ireturn, 1) := by decide +kernel
theorem dX12_pay_0 : decode cX12_pay 0 = .ok (.aload_n 0, 1) := by decide +kernel
theorem dX12_pay_1 : decode cX12_pay 1 = .ok (.iconst 0, 1) := by decide +kernel
theorem dX12_pay_2 : decode cX12_pay 2 = .ok (.putfield 92, 3) := by decide +kernel
theorem dX12_pay_5 : decode cX12_pay 5 = .ok (.iload_n 2, 1) := by decide +kernel
theorem dX12_pay_6 : decode cX12_pay 6 = .ok (.invokestatic 460, 3) := by decide +kernel
theorem dX12_pay_9 : decode cX12_pay 9 = .ok (.ifCond .eq 10, 3) := by decide +kernel
theorem dX12_pay_12 : decode cX12_pay 12 = .ok (.iload_n 3, 1) := by decide +kernel
theorem dX12_pay_13 : decode cX12_pay 13 = .ok (.invokestatic 127, 3) := by decide +kernel
theorem dX12_pay_16 : decode cX12_pay 16 = .ok (.ifCond .ne 9, 3) := by decide +kernel
theorem dX12_pay_19 : decode cX12_pay 19 = .ok (.aload_n 0, 1) := by decide +kernel
theorem dX12_pay_20 : decode cX12_pay 20 = .ok (.iconst (-1), 1) := by decide +kernel
theorem dX12_pay_21 : decode cX12_pay 21 = .ok (.invokevirtual 106, 3) := by decide +kernel
theorem dX12_pay_24 : decode cX12_pay 24 = .ok (.ireturn, 1) := by decide +kernel
theorem dX12_pay_25 : decode cX12_pay 25 = .ok (.aload_n 0, 1) := by decide +kernel
theorem dX12_pay_26 : decode cX12_pay 26 = .ok (.iload_n 1, 1) := by decide +kernel
theorem dX12_pay_27 : decode cX12_pay 27 = .ok (.invokevirtual 138, 3) := by decide +kernel
theorem dX12_pay_30 : decode cX12_pay 30 = .ok (.ifCond .ne 10, 3) := by decide +kernel
theorem dX12_pay_33 : decode cX12_pay 33 = .ok (.aload_n 0, 1) := by decide +kernel
theorem dX12_pay_34 : decode cX12_pay 34 = .ok (.bipush (-2), 2) := by decide +kernel
theorem dX12_pay_36 : decode cX12_pay 36 = .ok (.invokevirtual 106, 3) := by decide +kernel
theorem dX12_pay_39 : decode cX12_pay 39 = .ok (.ireturn, 1) := by decide +kernel
theorem dX12_rate_0 : decode cX12_rate 0 = .ok (.aload_n 0, 1) := by decide +kernel
theorem dX12_rate_1 : decode cX12_rate 1 = .ok (.iconst 0, 1) := by decide +kernel
theorem dX12_rate_2 : decode cX12_rate 2 = .ok (.putfield 92, 3) := by decide +kernel
theorem dX12_rate_5 : decode cX12_rate 5 = .ok (.aload_n 0, 1) := by decide +kernel
theorem dX12_rate_6 : decode cX12_rate 6 = .ok (.iload_n 1, 1) := by decide +kernel
theorem dX12_rate_7 : decode cX12_rate 7 = .ok (.invokevirtual 138, 3) := by decide +kernel
theorem dX12_rate_10 : decode cX12_rate 10 = .ok (.ifCond .eq 42, 3) := by decide +kernel
theorem dX12_rate_52 : decode cX12_rate 52 = .ok (.iconst (-1), 1) := by decide +kernel
theorem dX12_rate_53 : decode cX12_rate 53 = .ok (.ireturn, 1) := by decide +kernel
theorem dX12_readClause_0 : decode cX12_readClause 0 = .ok (.aload_n 0, 1) := by decide +kernel
theorem dX12_readClause_1 : decode cX12_readClause 1 = .ok (.invokevirtual 364, 3) := by decide +kernel
theorem dX12_readClause_4 : decode cX12_readClause 4 = .ok (.istore_n 1, 1) := by decide +kernel
theorem dX12_readClause_5 : decode cX12_readClause 5 = .ok (.aload_n 0, 1) := by decide +kernel
theorem dX12_readClause_6 : decode cX12_readClause 6 = .ok (.iload_n 1, 1) := by decide +kernel
theorem dX12_readClause_7 : decode cX12_readClause 7 = .ok (.iconst (-1), 1) := by decide +kernel
theorem dX12_readClause_8 : decode cX12_readClause 8 = .ok (.if_icmp .eq 16, 3) := by decide +kernel
theorem dX12_readClause_24 : decode cX12_readClause 24 = .ok (.iconst 0, 1) := by decide +kernel
theorem dX12_readClause_25 : decode cX12_readClause 25 = .ok (.invokevirtual 235, 3) := by decide +kernel
theorem dX12_readClause_28 : decode cX12_readClause 28 = .ok (.aload_n 0, 1) := by decide +kernel
theorem dX12_readClause_29 : decode cX12_readClause 29 = .ok (.getfield 202, 3) := by decide +kernel
theorem dX12_readClause_32 : decode cX12_readClause 32 = .ok (.ifCond .eq 4, 3) := by decide +kernel
theorem dX12_readClause_35 : decode cX12_readClause 35 = .ok (.return_, 1) := by decide +kernel
theorem dX12_readText_0 : decode cX12_readText 0 = .ok (.aload_n 0, 1) := by decide +kernel
theorem dX12_readText_1 : decode cX12_readText 1 = .ok (.invokevirtual 397, 3) := by decide +kernel
theorem dX12_readText_4 : decode cX12_readText 4 = .ok (.aload_n 0, 1) := by decide +kernel
theorem dX12_readText_5 : decode cX12_readText 5 = .ok (.iconst 0, 1) := by decide +kernel
theorem dX12_readText_6 : decode cX12_readText 6 = .ok (.putfield 367, 3) := by decide +kernel
theorem dX12_readText_9 : decode cX12_readText 9 = .ok (.aload_n 0, 1) := by decide +kernel
theorem dX12_readText_10 : decode cX12_readText 10 = .ok (.iconst 0, 1) := by decide +kernel
theorem dX12_readText_11 : decode cX12_readText 11 = .ok (.putfield 239, 3) := by decide +kernel
theorem dX12_readText_14 : decode cX12_readText 14 = .ok (.aload_n 0, 1) := by decide +kernel
theorem dX12_readText_15 : decode cX12_readText 15 = .ok (.iconst 0, 1) := by decide +kernel
theorem dX12_readText_16 : decode cX12_readText 16 = .ok (.putfield 293, 3) := by decide +kernel
theorem dX12_readText_19 : decode cX12_readText 19 = .ok (.aload_n 0, 1) := by decide +kernel
theorem dX12_readText_20 : decode cX12_readText 20 = .ok (.invokevirtual 400, 3) := by decide +kernel
theorem dX12_readText_23 : decode cX12_readText 23 = .ok (.aload_n 0, 1) := by decide +kernel
theorem dX12_readText_24 : decode cX12_readText 24 = .ok (.getfield 202, 3) := by decide +kernel
theorem dX12_readText_27 : decode cX12_readText 27 = .ok (.ifCond .ne 23, 3) := by decide +kernel
theorem dX12_readText_50 : decode cX12_readText 50 = .ok (.aload_n 0, 1) := by decide +kernel
theorem dX12_readText_51 : decode cX12_readText 51 = .ok (.getfield 202, 3) := by decide +kernel
theorem dX12_readText_54 : decode cX12_readText 54 = .ok (.ifCond .ne 15, 3) := by decide +kernel
theorem dX12_readText_69 : decode cX12_readText 69 = .ok (.aload_n 0, 1) := by decide +kernel
theorem dX12_readText_70 : decode cX12_readText 70 = .ok (.getfield 202, 3) := by decide +kernel
theorem dX12_readText_73 : decode cX12_readText 73 = .ok (.ifCond .eq 5, 3) := by decide +kernel
theorem dX12_readText_76 : decode cX12_readText 76 = .ok (.iconst 0, 1) := by decide +kernel
theorem dX12_readText_77 : decode cX12_readText 77 = .ok (.ireturn, 1) := by decide +kernel
theorem dX12_record_0 : decode cX12_record 0 = .ok (.aload_n 0, 1) := by decide +kernel
theorem dX12_record_1 : decode cX12_record 1 = .ok (.iconst 0, 1) := by decide +kernel
theorem dX12_record_2 : decode cX12_record 2 = .ok (.putfield 92, 3) := by decide +kernel
theorem dX12_record_5 : decode cX12_record 5 = .ok (.iload_n 1, 1) := by decide +kernel
theorem dX12_record_6 : decode cX12_record 6 = .ok (.i2l, 1) := by decide +kernel
theorem dX12_record_7 : decode cX12_record 7 = .ok (.lconst 0, 1) := by decide +kernel
theorem dX12_record_8 : decode cX12_record 8 = .ok (.ldc2_w 496, 3) := by decide +kernel
theorem dX12_record_11 : decode cX12_record 11 = .ok (.invokestatic 100, 3) := by decide +kernel
theorem dX12_record_14 : decode cX12_record 14 = .ok (.ifCond .ne 9, 3) := by decide +kernel
theorem dX12_record_17 : decode cX12_record 17 = .ok (.aload_n 0, 1) := by decide +kernel
theorem dX12_record_18 : decode cX12_record 18 = .ok (.iconst (-1), 1) := by decide +kernel
theorem dX12_record_19 : decode cX12_record 19 = .ok (.invokevirtual 106, 3) := by decide +kernel
theorem dX12_record_22 : decode cX12_record 22 = .ok (.ireturn, 1) := by decide +kernel
theorem dX12_record_23 : decode cX12_record 23 = .ok (.aload_n 0, 1) := by decide +kernel
theorem dX12_record_24 : decode cX12_record 24 = .ok (.getfield 7, 3) := by decide +kernel
theorem dX12_record_27 : decode cX12_record 27 = .ok (.iconst 5, 1) := by decide +kernel
theorem dX12_record_28 : decode cX12_record 28 = .ok (.iaload, 1) := by decide +kernel
theorem dX12_record_29 : decode cX12_record 29 = .ok (.bipush 6, 2) := by decide +kernel
theorem dX12_record_31 : decode cX12_record 31 = .ok (.if_icmp .ne 10, 3) := by decide +kernel
theorem dX12_record_41 : decode cX12_record 41 = .ok (.aload_n 0, 1) := by decide +kernel
theorem dX12_record_42 : decode cX12_record 42 = .ok (.getfield 7, 3) := by decide +kernel
theorem dX12_record_45 : decode cX12_record 45 = .ok (.sipush 6980, 3) := by decide +kernel
theorem dX12_record_48 : decode cX12_record 48 = .ok (.aload_n 0, 1) := by decide +kernel
theorem dX12_record_49 : decode cX12_record 49 = .ok (.getfield 7, 3) := by decide +kernel
theorem dX12_record_52 : decode cX12_record 52 = .ok (.iconst 5, 1) := by decide +kernel
theorem dX12_record_53 : decode cX12_record 53 = .ok (.iaload, 1) := by decide +kernel
theorem dX12_record_54 : decode cX12_record 54 = .ok (.iadd, 1) := by decide +kernel
theorem dX12_record_55 : decode cX12_record 55 = .ok (.iload_n 1, 1) := by decide +kernel
theorem dX12_record_56 : decode cX12_record 56 = .ok (.iastore, 1) := by decide +kernel
theorem dX12_record_57 : decode cX12_record 57 = .ok (.aload_n 0, 1) := by decide +kernel
theorem dX12_record_58 : decode cX12_record 58 = .ok (.getfield 7, 3) := by decide +kernel
theorem dX12_record_61 : decode cX12_record 61 = .ok (.iconst 5, 1) := by decide +kernel
theorem dX12_record_62 : decode cX12_record 62 = .ok (.dup2, 1) := by decide +kernel
theorem dX12_record_63 : decode cX12_record 63 = .ok (.iaload, 1) := by decide +kernel
theorem dX12_record_64 : decode cX12_record 64 = .ok (.iconst 1, 1) := by decide +kernel
theorem dX12_record_65 : decode cX12_record 65 = .ok (.iadd, 1) := by decide +kernel
theorem dX12_record_66 : decode cX12_record 66 = .ok (.iastore, 1) := by decide +kernel
theorem dX12_record_67 : decode cX12_record 67 = .ok (.aload_n 0, 1) := by decide +kernel
theorem dX12_record_68 : decode cX12_record 68 = .ok (.aload_n 0, 1) := by decide +kernel
theorem dX12_record_69 : decode cX12_record 69 = .ok (.getfield 7, 3) := by decide +kernel
theorem dX12_record_72 : decode cX12_record 72 = .ok (.iconst 5, 1) := by decide +kernel
theorem dX12_record_73 : decode cX12_record 73 = .ok (.iaload, 1) := by decide +kernel
theorem dX12_record_74 : decode cX12_record 74 = .ok (.invokevirtual 106, 3) := by decide +kernel
theorem dX12_record_77 : decode cX12_record 77 = .ok (.ireturn, 1) := by decide +kernel
theorem dX12_rolls_0 : decode cX12_rolls 0 = .ok (.aload_n 0, 1) := by decide +kernel
theorem dX12_rolls_1 : decode cX12_rolls 1 = .ok (.iconst 0, 1) := by decide +kernel
theorem dX12_rolls_2 : decode cX12_rolls 2 = .ok (.putfield 92, 3) := by decide +kernel
theorem dX12_rolls_5 : decode cX12_rolls 5 = .ok (.iload_n 1, 1) := by decide +kernel
theorem dX12_rolls_6 : decode cX12_rolls 6 = .ok (.invokestatic 127, 3) := by decide +kernel
theorem dX12_rolls_9 : decode cX12_rolls 9 = .ok (.ifCond .eq 15, 3) := by decide +kernel
theorem dX12_rolls_12 : decode cX12_rolls 12 = .ok (.iload_n 2, 1) := by decide +kernel
theorem dX12_rolls_13 : decode cX12_rolls 13 = .ok (.i2l, 1) := by decide +kernel
theorem dX12_rolls_14 : decode cX12_rolls 14 = .ok (.lconst 0, 1) := by decide +kernel
theorem dX12_rolls_15 : decode cX12_rolls 15 = .ok (.ldc2_w 484, 3) := by decide +kernel
theorem dX12_rolls_18 : decode cX12_rolls 18 = .ok (.invokestatic 100, 3) := by decide +kernel
theorem dX12_rolls_21 : decode cX12_rolls 21 = .ok (.ifCond .ne 5, 3) := by decide +kernel
theorem dX12_rolls_24 : decode cX12_rolls 24 = .ok (.iconst (-1), 1) := by decide +kernel
theorem dX12_rolls_25 : decode cX12_rolls 25 = .ok (.ireturn, 1) := by decide +kernel
theorem dX12_rolls_26 : decode cX12_rolls 26 = .ok (.iconst 0, 1) := by decide +kernel
theorem dX12_rolls_27 : decode cX12_rolls 27 = .ok (.istore 4, 2) := by decide +kernel
theorem dX12_rolls_29 : decode cX12_rolls 29 = .ok (.iconst (-1), 1) := by decide +kernel
theorem dX12_rolls_30 : decode cX12_rolls 30 = .ok (.istore 5, 2) := by decide +kernel
theorem dX12_rolls_32 : decode cX12_rolls 32 = .ok (.iconst 0, 1) := by decide +kernel
theorem dX12_rolls_33 : decode cX12_rolls 33 = .ok (.istore 6, 2) := by decide +kernel
theorem dX12_rolls_35 : decode cX12_rolls 35 = .ok (.iload 6, 2) := by decide +kernel
theorem dX12_rolls_37 : decode cX12_rolls 37 = .ok (.aload_n 0, 1) := by decide +kernel
theorem dX12_rolls_38 : decode cX12_rolls 38 = .ok (.getfield 7, 3) := by decide +kernel
theorem dX12_rolls_41 : decode cX12_rolls 41 = .ok (.iconst 0, 1) := by decide +kernel
theorem dX12_rolls_42 : decode cX12_rolls 42 = .ok (.iaload, 1) := by decide +kernel
theorem dX12_rolls_43 : decode cX12_rolls 43 = .ok (.if_icmp .ge 123, 3) := by decide +kernel
theorem dX12_rolls_166 : decode cX12_rolls 166 = .ok (.iload_n 3, 1) := by decide +kernel
theorem dX12_rolls_167 : decode cX12_rolls 167 = .ok (.iconst (-1), 1) := by decide +kernel
theorem dX12_rolls_168 : decode cX12_rolls 168 = .ok (.if_icmp .ne 8, 3) := by decide +kernel
theorem dX12_rolls_171 : decode cX12_rolls 171 = .ok (.iload 4, 2) := by decide +kernel
theorem dX12_rolls_173 : decode cX12_rolls 173 = .ok (.goto 5, 3) := by decide +kernel
theorem dX12_rolls_176 : decode cX12_rolls 176 = .ok (.iload 5, 2) := by decide +kernel
theorem dX12_rolls_178 : decode cX12_rolls 178 = .ok (.ireturn, 1) := by decide +kernel
theorem dX12_round_0 : decode cX12_round 0 = .ok (.aload_n 0, 1) := by decide +kernel
theorem dX12_round_1 : decode cX12_round 1 = .ok (.iconst 0, 1) := by decide +kernel
theorem dX12_round_2 : decode cX12_round 2 = .ok (.putfield 92, 3) := by decide +kernel
theorem dX12_round_5 : decode cX12_round 5 = .ok (.iload_n 1, 1) := by decide +kernel
theorem dX12_round_6 : decode cX12_round 6 = .ok (.i2l, 1) := by decide +kernel
theorem dX12_round_7 : decode cX12_round 7 = .ok (.lconst 0, 1) := by decide +kernel
theorem dX12_round_8 : decode cX12_round 8 = .ok (.ldc2_w 118, 3) := by decide +kernel
theorem dX12_round_11 : decode cX12_round 11 = .ok (.invokestatic 100, 3) := by decide +kernel
theorem dX12_round_14 : decode cX12_round 14 = .ok (.ifCond .eq 40, 3) := by decide +kernel
theorem dX12_round_17 : decode cX12_round 17 = .ok (.iload_n 2, 1) := by decide +kernel
theorem dX12_round_18 : decode cX12_round 18 = .ok (.i2l, 1) := by decide +kernel
theorem dX12_round_19 : decode cX12_round 19 = .ok (.lconst 0, 1) := by decide +kernel
theorem dX12_round_20 : decode cX12_round 20 = .ok (.ldc2_w 118, 3) := by decide +kernel
theorem dX12_round_23 : decode cX12_round 23 = .ok (.invokestatic 100, 3) := by decide +kernel
theorem dX12_round_26 : decode cX12_round 26 = .ok (.ifCond .eq 28, 3) := by decide +kernel
theorem dX12_round_29 : decode cX12_round 29 = .ok (.iload_n 3, 1) := by decide +kernel
theorem dX12_round_30 : decode cX12_round 30 = .ok (.i2l, 1) := by decide +kernel
theorem dX12_round_31 : decode cX12_round 31 = .ok (.lconst 0, 1) := by decide +kernel
theorem dX12_round_32 : decode cX12_round 32 = .ok (.ldc2_w 535, 3) := by decide +kernel
theorem dX12_round_35 : decode cX12_round 35 = .ok (.invokestatic 100, 3) := by decide +kernel
theorem dX12_round_38 : decode cX12_round 38 = .ok (.ifCond .eq 16, 3) := by decide +kernel
theorem dX12_round_41 : decode cX12_round 41 = .ok (.iload 4, 2) := by decide +kernel
theorem dX12_round_43 : decode cX12_round 43 = .ok (.i2l, 1) := by decide +kernel
theorem dX12_round_44 : decode cX12_round 44 = .ok (.lconst 0, 1) := by decide +kernel
theorem dX12_round_45 : decode cX12_round 45 = .ok (.ldc2_w 484, 3) := by decide +kernel
theorem dX12_round_48 : decode cX12_round 48 = .ok (.invokestatic 100, 3) := by decide +kernel
theorem dX12_round_51 : decode cX12_round 51 = .ok (.ifCond .ne 5, 3) := by decide +kernel
theorem dX12_round_54 : decode cX12_round 54 = .ok (.iconst (-1), 1) := by decide +kernel
theorem dX12_round_55 : decode cX12_round 55 = .ok (.ireturn, 1) := by decide +kernel
theorem dX12_round_56 : decode cX12_round 56 = .ok (.aload_n 0, 1) := by decide +kernel
theorem dX12_round_57 : decode cX12_round 57 = .ok (.iload_n 1, 1) := by decide +kernel
theorem dX12_round_58 : decode cX12_round 58 = .ok (.iload_n 2, 1) := by decide +kernel
theorem dX12_round_59 : decode cX12_round 59 = .ok (.invokevirtual 537, 3) := by decide +kernel
theorem dX12_round_62 : decode cX12_round 62 = .ok (.iconst 0, 1) := by decide +kernel
theorem dX12_round_63 : decode cX12_round 63 = .ok (.istore 5, 2) := by decide +kernel
theorem dX12_round_65 : decode cX12_round 65 = .ok (.iconst 0, 1) := by decide +kernel
theorem dX12_round_66 : decode cX12_round 66 = .ok (.istore 6, 2) := by decide +kernel
theorem dX12_round_68 : decode cX12_round 68 = .ok (.iconst 0, 1) := by decide +kernel
theorem dX12_round_69 : decode cX12_round 69 = .ok (.istore 7, 2) := by decide +kernel
theorem dX12_round_71 : decode cX12_round 71 = .ok (.iconst 1, 1) := by decide +kernel
theorem dX12_round_72 : decode cX12_round 72 = .ok (.istore 8, 2) := by decide +kernel
theorem dX12_round_74 : decode cX12_round 74 = .ok (.iload 8, 2) := by decide +kernel
theorem dX12_round_76 : decode cX12_round 76 = .ok (.iconst 1, 1) := by decide +kernel
theorem dX12_round_77 : decode cX12_round 77 = .ok (.aload_n 0, 1) := by decide +kernel
theorem dX12_round_78 : decode cX12_round 78 = .ok (.getfield 7, 3) := by decide +kernel
theorem dX12_round_81 : decode cX12_round 81 = .ok (.bipush 7, 2) := by decide +kernel
theorem dX12_round_83 : decode cX12_round 83 = .ok (.iaload, 1) := by decide +kernel
theorem dX12_round_84 : decode cX12_round 84 = .ok (.ishl, 1) := by decide +kernel
theorem dX12_round_85 : decode cX12_round 85 = .ok (.if_icmp .ge 110, 3) := by decide +kernel
theorem dX12_round_195 : decode cX12_round 195 = .ok (.iload 4, 2) := by decide +kernel
theorem dX12_round_197 : decode cX12_round 197 = .ok (.ifCond .ne 8, 3) := by decide +kernel
theorem dX12_round_200 : decode cX12_round 200 = .ok (.iload 5, 2) := by decide +kernel
theorem dX12_round_202 : decode cX12_round 202 = .ok (.goto 16, 3) := by decide +kernel
theorem dX12_round_205 : decode cX12_round 205 = .ok (.iload 4, 2) := by decide +kernel
theorem dX12_round_207 : decode cX12_round 207 = .ok (.iconst 1, 1) := by decide +kernel
theorem dX12_round_208 : decode cX12_round 208 = .ok (.if_icmp .ne 8, 3) := by decide +kernel
theorem dX12_round_211 : decode cX12_round 211 = .ok (.iload 6, 2) := by decide +kernel
theorem dX12_round_213 : decode cX12_round 213 = .ok (.goto 5, 3) := by decide +kernel
theorem dX12_round_216 : decode cX12_round 216 = .ok (.iload 7, 2) := by decide +kernel
theorem dX12_round_218 : decode cX12_round 218 = .ok (.ireturn, 1) := by decide +kernel
theorem dX12_school_0 : decode cX12_school 0 = .ok (.aload_n 0, 1) := by decide +kernel
theorem dX12_school_1 : decode cX12_school 1 = .ok (.iconst 0, 1) := by decide +kernel
theorem dX12_school_2 : decode cX12_school 2 = .ok (.putfield 92, 3) := by decide +kernel
theorem dX12_school_5 : decode cX12_school 5 = .ok (.aload_n 0, 1) := by decide +kernel
theorem dX12_school_6 : decode cX12_school 6 = .ok (.getfield 7, 3) := by decide +kernel
theorem dX12_school_9 : decode cX12_school 9 = .ok (.iconst 1, 1) := by decide +kernel
theorem dX12_school_10 : decode cX12_school 10 = .ok (.iaload, 1) := by decide +kernel
theorem dX12_school_11 : decode cX12_school 11 = .ok (.iconst 5, 1) := by decide +kernel
theorem dX12_school_12 : decode cX12_school 12 = .ok (.if_icmp .ne 10, 3) := by decide +kernel
theorem dX12_school_22 : decode cX12_school 22 = .ok (.aload_n 0, 1) := by decide +kernel
theorem dX12_school_23 : decode cX12_school 23 = .ok (.getfield 7, 3) := by decide +kernel
theorem dX12_school_26 : decode cX12_school 26 = .ok (.iconst 1, 1) := by decide +kernel
theorem dX12_school_27 : decode cX12_school 27 = .ok (.dup2, 1) := by decide +kernel
theorem dX12_school_28 : decode cX12_school 28 = .ok (.iaload, 1) := by decide +kernel
theorem dX12_school_29 : decode cX12_school 29 = .ok (.iconst 1, 1) := by decide +kernel
theorem dX12_school_30 : decode cX12_school 30 = .ok (.iadd, 1) := by decide +kernel
theorem dX12_school_31 : decode cX12_school 31 = .ok (.iastore, 1) := by decide +kernel
theorem dX12_school_32 : decode cX12_school 32 = .ok (.aload_n 0, 1) := by decide +kernel
theorem dX12_school_33 : decode cX12_school 33 = .ok (.aload_n 0, 1) := by decide +kernel
theorem dX12_school_34 : decode cX12_school 34 = .ok (.getfield 7, 3) := by decide +kernel
theorem dX12_school_37 : decode cX12_school 37 = .ok (.iconst 1, 1) := by decide +kernel
theorem dX12_school_38 : decode cX12_school 38 = .ok (.iaload, 1) := by decide +kernel
theorem dX12_school_39 : decode cX12_school 39 = .ok (.iconst 1, 1) := by decide +kernel
theorem dX12_school_40 : decode cX12_school 40 = .ok (.isub, 1) := by decide +kernel
theorem dX12_school_41 : decode cX12_school 41 = .ok (.invokevirtual 106, 3) := by decide +kernel
theorem dX12_school_44 : decode cX12_school 44 = .ok (.ireturn, 1) := by decide +kernel
theorem dX12_seal_0 : decode cX12_seal 0 = .ok (.aload_n 0, 1) := by decide +kernel
theorem dX12_seal_1 : decode cX12_seal 1 = .ok (.iconst 0, 1) := by decide +kernel
theorem dX12_seal_2 : decode cX12_seal 2 = .ok (.putfield 92, 3) := by decide +kernel
theorem dX12_seal_5 : decode cX12_seal 5 = .ok (.iload_n 1, 1) := by decide +kernel
theorem dX12_seal_6 : decode cX12_seal 6 = .ok (.invokestatic 127, 3) := by decide +kernel
theorem dX12_seal_9 : decode cX12_seal 9 = .ok (.ifCond .ne 9, 3) := by decide +kernel
theorem dX12_seal_12 : decode cX12_seal 12 = .ok (.aload_n 0, 1) := by decide +kernel
theorem dX12_seal_13 : decode cX12_seal 13 = .ok (.iconst (-1), 1) := by decide +kernel
theorem dX12_seal_14 : decode cX12_seal 14 = .ok (.invokevirtual 106, 3) := by decide +kernel
theorem dX12_seal_17 : decode cX12_seal 17 = .ok (.ireturn, 1) := by decide +kernel
theorem dX12_seal_18 : decode cX12_seal 18 = .ok (.aload_n 0, 1) := by decide +kernel
theorem dX12_seal_19 : decode cX12_seal 19 = .ok (.iload_n 1, 1) := by decide +kernel
theorem dX12_seal_20 : decode cX12_seal 20 = .ok (.invokevirtual 558, 3) := by decide +kernel
theorem dX12_seal_23 : decode cX12_seal 23 = .ok (.aload_n 0, 1) := by decide +kernel
theorem dX12_seal_24 : decode cX12_seal 24 = .ok (.sipush 7061, 3) := by decide +kernel
theorem dX12_seal_27 : decode cX12_seal 27 = .ok (.iconst 4, 1) := by decide +kernel
theorem dX12_seal_28 : decode cX12_seal 28 = .ok (.iload_n 1, 1) := by decide +kernel
theorem dX12_seal_29 : decode cX12_seal 29 = .ok (.imul, 1) := by decide +kernel
theorem dX12_seal_30 : decode cX12_seal 30 = .ok (.iadd, 1) := by decide +kernel
theorem dX12_seal_31 : decode cX12_seal 31 = .ok (.iconst 1, 1) := by decide +kernel
theorem dX12_seal_32 : decode cX12_seal 32 = .ok (.aload_n 0, 1) := by decide +kernel
theorem dX12_seal_33 : decode cX12_seal 33 = .ok (.getfield 549, 3) := by decide +kernel
theorem dX12_seal_36 : decode cX12_seal 36 = .ok (.aload_n 0, 1) := by decide +kernel
theorem dX12_seal_37 : decode cX12_seal 37 = .ok (.getfield 552, 3) := by decide +kernel
theorem dX12_seal_40 : decode cX12_seal 40 = .ok (.aload_n 0, 1) := by decide +kernel
theorem dX12_seal_41 : decode cX12_seal 41 = .ok (.getfield 555, 3) := by decide +kernel
theorem dX12_seal_44 : decode cX12_seal 44 = .ok (.invokevirtual 123, 3) := by decide +kernel
theorem dX12_seal_47 : decode cX12_seal 47 = .ok (.aload_n 0, 1) := by decide +kernel
theorem dX12_seal_48 : decode cX12_seal 48 = .ok (.aload_n 0, 1) := by decide +kernel
theorem dX12_seal_49 : decode cX12_seal 49 = .ok (.getfield 549, 3) := by decide +kernel
theorem dX12_seal_52 : decode cX12_seal 52 = .ok (.invokevirtual 106, 3) := by decide +kernel
theorem dX12_seal_55 : decode cX12_seal 55 = .ok (.ireturn, 1) := by decide +kernel
theorem dX12_seen_0 : decode cX12_seen 0 = .ok (.aload_n 0, 1) := by decide +kernel
theorem dX12_seen_1 : decode cX12_seen 1 = .ok (.iconst 0, 1) := by decide +kernel
theorem dX12_seen_2 : decode cX12_seen 2 = .ok (.putfield 92, 3) := by decide +kernel
theorem dX12_seen_5 : decode cX12_seen 5 = .ok (.aload_n 0, 1) := by decide +kernel
theorem dX12_seen_6 : decode cX12_seen 6 = .ok (.iload_n 1, 1) := by decide +kernel
theorem dX12_seen_7 : decode cX12_seen 7 = .ok (.invokevirtual 138, 3) := by decide +kernel
theorem dX12_seen_10 : decode cX12_seen 10 = .ok (.ifCond .eq 17, 3) := by decide +kernel
theorem dX12_seen_27 : decode cX12_seen 27 = .ok (.iconst (-1), 1) := by decide +kernel
theorem dX12_seen_28 : decode cX12_seen 28 = .ok (.ireturn, 1) := by decide +kernel
theorem dX12_sees_0 : decode cX12_sees 0 = .ok (.aload_n 0, 1) := by decide +kernel
theorem dX12_sees_1 : decode cX12_sees 1 = .ok (.iconst 0, 1) := by decide +kernel
theorem dX12_sees_2 : decode cX12_sees 2 = .ok (.putfield 92, 3) := by decide +kernel
theorem dX12_sees_5 : decode cX12_sees 5 = .ok (.iload_n 1, 1) := by decide +kernel
theorem dX12_sees_6 : decode cX12_sees 6 = .ok (.i2l, 1) := by decide +kernel
theorem dX12_sees_7 : decode cX12_sees 7 = .ok (.lconst 0, 1) := by decide +kernel
theorem dX12_sees_8 : decode cX12_sees 8 = .ok (.ldc2_w 110, 3) := by decide +kernel
theorem dX12_sees_11 : decode cX12_sees 11 = .ok (.invokestatic 100, 3) := by decide +kernel
theorem dX12_sees_14 : decode cX12_sees 14 = .ok (.ifCond .eq 35, 3) := by decide +kernel
theorem dX12_sees_17 : decode cX12_sees 17 = .ok (.aload_n 0, 1) := by decide +kernel
theorem dX12_sees_18 : decode cX12_sees 18 = .ok (.iload_n 2, 1) := by decide +kernel
theorem dX12_sees_19 : decode cX12_sees 19 = .ok (.invokevirtual 131, 3) := by decide +kernel
theorem dX12_sees_22 : decode cX12_sees 22 = .ok (.ifCond .eq 27, 3) := by decide +kernel
theorem dX12_sees_49 : decode cX12_sees 49 = .ok (.iconst (-1), 1) := by decide +kernel
theorem dX12_sees_50 : decode cX12_sees 50 = .ok (.ireturn, 1) := by decide +kernel
theorem dX12_shut_0 : decode cX12_shut 0 = .ok (.aload_n 0, 1) := by decide +kernel
theorem dX12_shut_1 : decode cX12_shut 1 = .ok (.iconst 0, 1) := by decide +kernel
theorem dX12_shut_2 : decode cX12_shut 2 = .ok (.putfield 92, 3) := by decide +kernel
theorem dX12_shut_5 : decode cX12_shut 5 = .ok (.iload_n 2, 1) := by decide +kernel
theorem dX12_shut_6 : decode cX12_shut 6 = .ok (.invokestatic 127, 3) := by decide +kernel
theorem dX12_shut_9 : decode cX12_shut 9 = .ok (.ifCond .ne 9, 3) := by decide +kernel
theorem dX12_shut_12 : decode cX12_shut 12 = .ok (.aload_n 0, 1) := by decide +kernel
theorem dX12_shut_13 : decode cX12_shut 13 = .ok (.iconst (-1), 1) := by decide +kernel
theorem dX12_shut_14 : decode cX12_shut 14 = .ok (.invokevirtual 106, 3) := by decide +kernel
theorem dX12_shut_17 : decode cX12_shut 17 = .ok (.ireturn, 1) := by decide +kernel
theorem dX12_shut_18 : decode cX12_shut 18 = .ok (.aload_n 0, 1) := by decide +kernel
theorem dX12_shut_19 : decode cX12_shut 19 = .ok (.iload_n 1, 1) := by decide +kernel
theorem dX12_shut_20 : decode cX12_shut 20 = .ok (.invokevirtual 131, 3) := by decide +kernel
theorem dX12_shut_23 : decode cX12_shut 23 = .ok (.ifCond .ne 10, 3) := by decide +kernel
theorem dX12_shut_26 : decode cX12_shut 26 = .ok (.aload_n 0, 1) := by decide +kernel
theorem dX12_shut_27 : decode cX12_shut 27 = .ok (.bipush (-2), 2) := by decide +kernel
theorem dX12_shut_29 : decode cX12_shut 29 = .ok (.invokevirtual 106, 3) := by decide +kernel
theorem dX12_shut_32 : decode cX12_shut 32 = .ok (.ireturn, 1) := by decide +kernel
theorem dX12_stands_0 : decode cX12_stands 0 = .ok (.aload_n 0, 1) := by decide +kernel
theorem dX12_stands_1 : decode cX12_stands 1 = .ok (.iconst 0, 1) := by decide +kernel
theorem dX12_stands_2 : decode cX12_stands 2 = .ok (.putfield 92, 3) := by decide +kernel
theorem dX12_stands_5 : decode cX12_stands 5 = .ok (.aload_n 0, 1) := by decide +kernel
theorem dX12_stands_6 : decode cX12_stands 6 = .ok (.iload_n 1, 1) := by decide +kernel
theorem dX12_stands_7 : decode cX12_stands 7 = .ok (.invokevirtual 138, 3) := by decide +kernel
theorem dX12_stands_10 : decode cX12_stands 10 = .ok (.ifCond .eq 35, 3) := by decide +kernel
theorem dX12_stands_45 : decode cX12_stands 45 = .ok (.iconst (-1), 1) := by decide +kernel
theorem dX12_stands_46 : decode cX12_stands 46 = .ok (.ireturn, 1) := by decide +kernel
theorem dX12_status_0 : decode cX12_status 0 = .ok (.aload_n 0, 1) := by decide +kernel
theorem dX12_status_1 : decode cX12_status 1 = .ok (.iconst 0, 1) := by decide +kernel
theorem dX12_status_2 : decode cX12_status 2 = .ok (.putfield 92, 3) := by decide +kernel
theorem dX12_status_5 : decode cX12_status 5 = .ok (.aload_n 0, 1) := by decide +kernel
theorem dX12_status_6 : decode cX12_status 6 = .ok (.getfield 95, 3) := by decide +kernel
theorem dX12_status_9 : decode cX12_status 9 = .ok (.ireturn, 1) := by decide +kernel
theorem dX12_take_0 : decode cX12_take 0 = .ok (.aload_n 0, 1) := by decide +kernel
theorem dX12_take_1 : decode cX12_take 1 = .ok (.iconst 0, 1) := by decide +kernel
theorem dX12_take_2 : decode cX12_take 2 = .ok (.putfield 92, 3) := by decide +kernel
theorem dX12_take_5 : decode cX12_take 5 = .ok (.iload_n 2, 1) := by decide +kernel
theorem dX12_take_6 : decode cX12_take 6 = .ok (.invokestatic 460, 3) := by decide +kernel
theorem dX12_take_9 : decode cX12_take 9 = .ok (.ifCond .eq 10, 3) := by decide +kernel
theorem dX12_take_12 : decode cX12_take 12 = .ok (.iload_n 3, 1) := by decide +kernel
theorem dX12_take_13 : decode cX12_take 13 = .ok (.invokestatic 127, 3) := by decide +kernel
theorem dX12_take_16 : decode cX12_take 16 = .ok (.ifCond .ne 9, 3) := by decide +kernel
theorem dX12_take_19 : decode cX12_take 19 = .ok (.aload_n 0, 1) := by decide +kernel
theorem dX12_take_20 : decode cX12_take 20 = .ok (.iconst (-1), 1) := by decide +kernel
theorem dX12_take_21 : decode cX12_take 21 = .ok (.invokevirtual 106, 3) := by decide +kernel
theorem dX12_take_24 : decode cX12_take 24 = .ok (.ireturn, 1) := by decide +kernel
theorem dX12_take_25 : decode cX12_take 25 = .ok (.aload_n 0, 1) := by decide +kernel
theorem dX12_take_26 : decode cX12_take 26 = .ok (.iload_n 1, 1) := by decide +kernel
theorem dX12_take_27 : decode cX12_take 27 = .ok (.invokevirtual 138, 3) := by decide +kernel
theorem dX12_take_30 : decode cX12_take 30 = .ok (.ifCond .ne 10, 3) := by decide +kernel
theorem dX12_take_33 : decode cX12_take 33 = .ok (.aload_n 0, 1) := by decide +kernel
theorem dX12_take_34 : decode cX12_take 34 = .ok (.bipush (-2), 2) := by decide +kernel
theorem dX12_take_36 : decode cX12_take 36 = .ok (.invokevirtual 106, 3) := by decide +kernel
theorem dX12_take_39 : decode cX12_take 39 = .ok (.ireturn, 1) := by decide +kernel
theorem dX12_tells_0 : decode cX12_tells 0 = .ok (.aload_n 0, 1) := by decide +kernel
theorem dX12_tells_1 : decode cX12_tells 1 = .ok (.iconst 0, 1) := by decide +kernel
theorem dX12_tells_2 : decode cX12_tells 2 = .ok (.putfield 92, 3) := by decide +kernel
theorem dX12_tells_5 : decode cX12_tells 5 = .ok (.aload_n 0, 1) := by decide +kernel
theorem dX12_tells_6 : decode cX12_tells 6 = .ok (.iload_n 1, 1) := by decide +kernel
theorem dX12_tells_7 : decode cX12_tells 7 = .ok (.invokevirtual 131, 3) := by decide +kernel
theorem dX12_tells_10 : decode cX12_tells 10 = .ok (.ifCond .eq 39, 3) := by decide +kernel
theorem dX12_tells_49 : decode cX12_tells 49 = .ok (.iconst (-1), 1) := by decide +kernel
theorem dX12_tells_50 : decode cX12_tells 50 = .ok (.ireturn, 1) := by decide +kernel
theorem dX12_told_0 : decode cX12_told 0 = .ok (.aload_n 0, 1) := by decide +kernel
theorem dX12_told_1 : decode cX12_told 1 = .ok (.iload_n 1, 1) := by decide +kernel
theorem dX12_told_2 : decode cX12_told 2 = .ok (.ifCond .ge 7, 3) := by decide +kernel
theorem dX12_told_5 : decode cX12_told 5 = .ok (.iload_n 1, 1) := by decide +kernel
theorem dX12_told_6 : decode cX12_told 6 = .ok (.goto 4, 3) := by decide +kernel
theorem dX12_told_9 : decode cX12_told 9 = .ok (.iconst 0, 1) := by decide +kernel
theorem dX12_told_10 : decode cX12_told 10 = .ok (.putfield 95, 3) := by decide +kernel
theorem dX12_told_13 : decode cX12_told 13 = .ok (.iload_n 1, 1) := by decide +kernel
theorem dX12_told_14 : decode cX12_told 14 = .ok (.ireturn, 1) := by decide +kernel
theorem dX12_visit_0 : decode cX12_visit 0 = .ok (.aload_n 0, 1) := by decide +kernel
theorem dX12_visit_1 : decode cX12_visit 1 = .ok (.iconst 0, 1) := by decide +kernel
theorem dX12_visit_2 : decode cX12_visit 2 = .ok (.putfield 92, 3) := by decide +kernel
theorem dX12_visit_5 : decode cX12_visit 5 = .ok (.iload_n 2, 1) := by decide +kernel
theorem dX12_visit_6 : decode cX12_visit 6 = .ok (.i2l, 1) := by decide +kernel
theorem dX12_visit_7 : decode cX12_visit 7 = .ok (.lconst 1, 1) := by decide +kernel
theorem dX12_visit_8 : decode cX12_visit 8 = .ok (.ldc2_w 524, 3) := by decide +kernel
theorem dX12_visit_11 : decode cX12_visit 11 = .ok (.invokestatic 100, 3) := by decide +kernel
theorem dX12_visit_14 : decode cX12_visit 14 = .ok (.ifCond .eq 15, 3) := by decide +kernel
theorem dX12_visit_17 : decode cX12_visit 17 = .ok (.iload_n 3, 1) := by decide +kernel
theorem dX12_visit_18 : decode cX12_visit 18 = .ok (.i2l, 1) := by decide +kernel
theorem dX12_visit_19 : decode cX12_visit 19 = .ok (.lconst 1, 1) := by decide +kernel
theorem dX12_visit_20 : decode cX12_visit 20 = .ok (.ldc2_w 526, 3) := by decide +kernel
theorem dX12_visit_23 : decode cX12_visit 23 = .ok (.invokestatic 100, 3) := by decide +kernel
theorem dX12_visit_26 : decode cX12_visit 26 = .ok (.ifCond .ne 9, 3) := by decide +kernel
theorem dX12_visit_29 : decode cX12_visit 29 = .ok (.aload_n 0, 1) := by decide +kernel
theorem dX12_visit_30 : decode cX12_visit 30 = .ok (.iconst (-1), 1) := by decide +kernel
theorem dX12_visit_31 : decode cX12_visit 31 = .ok (.invokevirtual 106, 3) := by decide +kernel
theorem dX12_visit_34 : decode cX12_visit 34 = .ok (.ireturn, 1) := by decide +kernel
theorem dX12_visit_35 : decode cX12_visit 35 = .ok (.aload_n 0, 1) := by decide +kernel
theorem dX12_visit_36 : decode cX12_visit 36 = .ok (.iload_n 1, 1) := by decide +kernel
theorem dX12_visit_37 : decode cX12_visit 37 = .ok (.invokevirtual 138, 3) := by decide +kernel
theorem dX12_visit_40 : decode cX12_visit 40 = .ok (.ifCond .ne 10, 3) := by decide +kernel
theorem dX12_visit_43 : decode cX12_visit 43 = .ok (.aload_n 0, 1) := by decide +kernel
theorem dX12_visit_44 : decode cX12_visit 44 = .ok (.bipush (-2), 2) := by decide +kernel
theorem dX12_visit_46 : decode cX12_visit 46 = .ok (.invokevirtual 106, 3) := by decide +kernel
theorem dX12_visit_49 : decode cX12_visit 49 = .ok (.ireturn, 1) := by decide +kernel
theorem dX1_countWeek_0 : decode cX1_countWeek 0 = .ok (.aload_n 0, 1) := by decide +kernel
theorem dX1_countWeek_1 : decode cX1_countWeek 1 = .ok (.getfield 34, 3) := by decide +kernel
theorem dX1_countWeek_4 : decode cX1_countWeek 4 = .ok (.getfield 38, 3) := by decide +kernel
theorem dX1_countWeek_7 : decode cX1_countWeek 7 = .ok (.astore_n 3, 1) := by decide +kernel
theorem dX1_countWeek_8 : decode cX1_countWeek 8 = .ok (.aload_n 0, 1) := by decide +kernel
theorem dX1_countWeek_9 : decode cX1_countWeek 9 = .ok (.getfield 28, 3) := by decide +kernel
theorem dX1_countWeek_12 : decode cX1_countWeek 12 = .ok (.iconst 0, 1) := by decide +kernel
theorem dX1_countWeek_13 : decode cX1_countWeek 13 = .ok (.invokestatic 129, 3) := by decide +kernel
theorem dX1_countWeek_16 : decode cX1_countWeek 16 = .ok (.aload_n 0, 1) := by decide +kernel
theorem dX1_countWeek_17 : decode cX1_countWeek 17 = .ok (.getfield 31, 3) := by decide +kernel
theorem dX1_countWeek_20 : decode cX1_countWeek 20 = .ok (.iconst 0, 1) := by decide +kernel
theorem dX1_countWeek_21 : decode cX1_countWeek 21 = .ok (.invokestatic 129, 3) := by decide +kernel
theorem dX1_countWeek_24 : decode cX1_countWeek 24 = .ok (.iconst 0, 1) := by decide +kernel
theorem dX1_countWeek_25 : decode cX1_countWeek 25 = .ok (.istore 4, 2) := by decide +kernel
theorem dX1_countWeek_27 : decode cX1_countWeek 27 = .ok (.iload 4, 2) := by decide +kernel
theorem dX1_countWeek_29 : decode cX1_countWeek 29 = .ok (.aload_n 3, 1) := by decide +kernel
theorem dX1_countWeek_30 : decode cX1_countWeek 30 = .ok (.getfield 196, 3) := by decide +kernel
theorem dX1_countWeek_33 : decode cX1_countWeek 33 = .ok (.if_icmp .ge 94, 3) := by decide +kernel
theorem dX1_countWeek_127 : decode cX1_countWeek 127 = .ok (.return_, 1) := by decide +kernel
theorem dX1_dippingSchools_0 : decode cX1_dippingSchools 0 = .ok (.lconst 0, 1) := by decide +kernel
theorem dX1_dippingSchools_1 : decode cX1_dippingSchools 1 = .ok (.lstore_n 2, 1) := by decide +kernel
theorem dX1_dippingSchools_2 : decode cX1_dippingSchools 2 = .ok (.lconst 0, 1) := by decide +kernel
theorem dX1_dippingSchools_3 : decode cX1_dippingSchools 3 = .ok (.lstore 4, 2) := by decide +kernel
theorem dX1_dippingSchools_5 : decode cX1_dippingSchools 5 = .ok (.iconst 0, 1) := by decide +kernel
theorem dX1_dippingSchools_6 : decode cX1_dippingSchools 6 = .ok (.istore 6, 2) := by decide +kernel
theorem dX1_dippingSchools_8 : decode cX1_dippingSchools 8 = .ok (.iload 6, 2) := by decide +kernel
theorem dX1_dippingSchools_10 : decode cX1_dippingSchools 10 = .ok (.iconst 5, 1) := by decide +kernel
theorem dX1_dippingSchools_11 : decode cX1_dippingSchools 11 = .ok (.if_icmp .ge 33, 3) := by decide +kernel
theorem dX1_dippingSchools_14 : decode cX1_dippingSchools 14 = .ok (.lload_n 2, 1) := by decide +kernel
theorem dX1_dippingSchools_15 : decode cX1_dippingSchools 15 = .ok (.aload_n 0, 1) := by decide +kernel
theorem dX1_dippingSchools_16 : decode cX1_dippingSchools 16 = .ok (.getfield 28, 3) := by decide +kernel
theorem dX1_dippingSchools_19 : decode cX1_dippingSchools 19 = .ok (.iload 6, 2) := by decide +kernel
theorem dX1_dippingSchools_21 : decode cX1_dippingSchools 21 = .ok (.iaload, 1) := by decide +kernel
theorem dX1_dippingSchools_22 : decode cX1_dippingSchools 22 = .ok (.i2l, 1) := by decide +kernel
theorem dX1_dippingSchools_23 : decode cX1_dippingSchools 23 = .ok (.ladd, 1) := by decide +kernel
theorem dX1_dippingSchools_24 : decode cX1_dippingSchools 24 = .ok (.lstore_n 2, 1) := by decide +kernel
theorem dX1_dippingSchools_25 : decode cX1_dippingSchools 25 = .ok (.lload 4, 2) := by decide +kernel
theorem dX1_dippingSchools_27 : decode cX1_dippingSchools 27 = .ok (.aload_n 0, 1) := by decide +kernel
theorem dX1_dippingSchools_28 : decode cX1_dippingSchools 28 = .ok (.getfield 31, 3) := by decide +kernel
theorem dX1_dippingSchools_31 : decode cX1_dippingSchools 31 = .ok (.iload 6, 2) := by decide +kernel
theorem dX1_dippingSchools_33 : decode cX1_dippingSchools 33 = .ok (.iaload, 1) := by decide +kernel
theorem dX1_dippingSchools_34 : decode cX1_dippingSchools 34 = .ok (.i2l, 1) := by decide +kernel
theorem dX1_dippingSchools_35 : decode cX1_dippingSchools 35 = .ok (.ladd, 1) := by decide +kernel
theorem dX1_dippingSchools_36 : decode cX1_dippingSchools 36 = .ok (.lstore 4, 2) := by decide +kernel
theorem dX1_dippingSchools_38 : decode cX1_dippingSchools 38 = .ok (.iinc 6 1, 3) := by decide +kernel
theorem dX1_dippingSchools_41 : decode cX1_dippingSchools 41 = .ok (.goto (-33), 3) := by decide +kernel
theorem dX1_dippingSchools_44 : decode cX1_dippingSchools 44 = .ok (.iload_n 1, 1) := by decide +kernel
theorem dX1_dippingSchools_45 : decode cX1_dippingSchools 45 = .ok (.i2l, 1) := by decide +kernel
theorem dX1_dippingSchools_46 : decode cX1_dippingSchools 46 = .ok (.iload_n 1, 1) := by decide +kernel
theorem dX1_dippingSchools_47 : decode cX1_dippingSchools 47 = .ok (.i2l, 1) := by decide +kernel
theorem dX1_dippingSchools_48 : decode cX1_dippingSchools 48 = .ok (.lmul, 1) := by decide +kernel
theorem dX1_dippingSchools_49 : decode cX1_dippingSchools 49 = .ok (.aload_n 0, 1) := by decide +kernel
theorem dX1_dippingSchools_50 : decode cX1_dippingSchools 50 = .ok (.invokevirtual 236, 3) := by decide +kernel
theorem dX1_dippingSchools_53 : decode cX1_dippingSchools 53 = .ok (.i2l, 1) := by decide +kernel
theorem dX1_dippingSchools_54 : decode cX1_dippingSchools 54 = .ok (.lmul, 1) := by decide +kernel
theorem dX1_dippingSchools_55 : decode cX1_dippingSchools 55 = .ok (.lstore 6, 2) := by decide +kernel
theorem dX1_dippingSchools_57 : decode cX1_dippingSchools 57 = .ok (.iconst 0, 1) := by decide +kernel
theorem dX1_dippingSchools_58 : decode cX1_dippingSchools 58 = .ok (.istore 8, 2) := by decide +kernel
theorem dX1_dippingSchools_60 : decode cX1_dippingSchools 60 = .ok (.iconst 0, 1) := by decide +kernel
theorem dX1_dippingSchools_61 : decode cX1_dippingSchools 61 = .ok (.istore 9, 2) := by decide +kernel
theorem dX1_dippingSchools_63 : decode cX1_dippingSchools 63 = .ok (.iload 9, 2) := by decide +kernel
theorem dX1_dippingSchools_65 : decode cX1_dippingSchools 65 = .ok (.iconst 5, 1) := by decide +kernel
theorem dX1_dippingSchools_66 : decode cX1_dippingSchools 66 = .ok (.if_icmp .ge 96, 3) := by decide +kernel
theorem dX1_dippingSchools_69 : decode cX1_dippingSchools 69 = .ok (.aload_n 0, 1) := by decide +kernel
theorem dX1_dippingSchools_70 : decode cX1_dippingSchools 70 = .ok (.getfield 31, 3) := by decide +kernel
theorem dX1_dippingSchools_73 : decode cX1_dippingSchools 73 = .ok (.iload 9, 2) := by decide +kernel
theorem dX1_dippingSchools_75 : decode cX1_dippingSchools 75 = .ok (.iaload, 1) := by decide +kernel
theorem dX1_dippingSchools_76 : decode cX1_dippingSchools 76 = .ok (.i2l, 1) := by decide +kernel
theorem dX1_dippingSchools_77 : decode cX1_dippingSchools 77 = .ok (.lload_n 2, 1) := by decide +kernel
theorem dX1_dippingSchools_78 : decode cX1_dippingSchools 78 = .ok (.lmul, 1) := by decide +kernel
theorem dX1_dippingSchools_79 : decode cX1_dippingSchools 79 = .ok (.aload_n 0, 1) := by decide +kernel
theorem dX1_dippingSchools_80 : decode cX1_dippingSchools 80 = .ok (.getfield 28, 3) := by decide +kernel
theorem dX1_dippingSchools_83 : decode cX1_dippingSchools 83 = .ok (.iload 9, 2) := by decide +kernel
theorem dX1_dippingSchools_85 : decode cX1_dippingSchools 85 = .ok (.iaload, 1) := by decide +kernel
theorem dX1_dippingSchools_86 : decode cX1_dippingSchools 86 = .ok (.i2l, 1) := by decide +kernel
theorem dX1_dippingSchools_87 : decode cX1_dippingSchools 87 = .ok (.lload 4, 2) := by decide +kernel
theorem dX1_dippingSchools_89 : decode cX1_dippingSchools 89 = .ok (.lmul, 1) := by decide +kernel
theorem dX1_dippingSchools_90 : decode cX1_dippingSchools 90 = .ok (.lsub, 1) := by decide +kernel
theorem dX1_dippingSchools_91 : decode cX1_dippingSchools 91 = .ok (.lstore 10, 2) := by decide +kernel
theorem dX1_dippingSchools_93 : decode cX1_dippingSchools 93 = .ok (.aload_n 0, 1) := by decide +kernel
theorem dX1_dippingSchools_94 : decode cX1_dippingSchools 94 = .ok (.getfield 28, 3) := by decide +kernel
theorem dX1_dippingSchools_97 : decode cX1_dippingSchools 97 = .ok (.iload 9, 2) := by decide +kernel
theorem dX1_dippingSchools_99 : decode cX1_dippingSchools 99 = .ok (.iaload, 1) := by decide +kernel
theorem dX1_dippingSchools_100 : decode cX1_dippingSchools 100 = .ok (.i2l, 1) := by decide +kernel
theorem dX1_dippingSchools_101 : decode cX1_dippingSchools 101 = .ok (.lload 4, 2) := by decide +kernel
theorem dX1_dippingSchools_103 : decode cX1_dippingSchools 103 = .ok (.lmul, 1) := by decide +kernel
theorem dX1_dippingSchools_104 : decode cX1_dippingSchools 104 = .ok (.lload_n 2, 1) := by decide +kernel
theorem dX1_dippingSchools_105 : decode cX1_dippingSchools 105 = .ok (.aload_n 0, 1) := by decide +kernel
theorem dX1_dippingSchools_106 : decode cX1_dippingSchools 106 = .ok (.getfield 28, 3) := by decide +kernel
theorem dX1_dippingSchools_109 : decode cX1_dippingSchools 109 = .ok (.iload 9, 2) := by decide +kernel
theorem dX1_dippingSchools_111 : decode cX1_dippingSchools 111 = .ok (.iaload, 1) := by decide +kernel
theorem dX1_dippingSchools_112 : decode cX1_dippingSchools 112 = .ok (.i2l, 1) := by decide +kernel
theorem dX1_dippingSchools_113 : decode cX1_dippingSchools 113 = .ok (.lsub, 1) := by decide +kernel
theorem dX1_dippingSchools_114 : decode cX1_dippingSchools 114 = .ok (.lmul, 1) := by decide +kernel
theorem dX1_dippingSchools_115 : decode cX1_dippingSchools 115 = .ok (.lload_n 2, 1) := by decide +kernel
theorem dX1_dippingSchools_116 : decode cX1_dippingSchools 116 = .ok (.lload 4, 2) := by decide +kernel
theorem dX1_dippingSchools_118 : decode cX1_dippingSchools 118 = .ok (.lsub, 1) := by decide +kernel
theorem dX1_dippingSchools_119 : decode cX1_dippingSchools 119 = .ok (.lmul, 1) := by decide +kernel
theorem dX1_dippingSchools_120 : decode cX1_dippingSchools 120 = .ok (.lstore 12, 2) := by decide +kernel
theorem dX1_dippingSchools_122 : decode cX1_dippingSchools 122 = .ok (.lload 10, 2) := by decide +kernel
theorem dX1_dippingSchools_124 : decode cX1_dippingSchools 124 = .ok (.lconst 0, 1) := by decide +kernel
theorem dX1_dippingSchools_125 : decode cX1_dippingSchools 125 = .ok (.lcmp, 1) := by decide +kernel
theorem dX1_dippingSchools_126 : decode cX1_dippingSchools 126 = .ok (.ifCond .le 30, 3) := by decide +kernel
theorem dX1_dippingSchools_156 : decode cX1_dippingSchools 156 = .ok (.iinc 9 1, 3) := by decide +kernel
theorem dX1_dippingSchools_159 : decode cX1_dippingSchools 159 = .ok (.goto (-96), 3) := by decide +kernel
theorem dX1_dippingSchools_162 : decode cX1_dippingSchools 162 = .ok (.iload 8, 2) := by decide +kernel
theorem dX1_dippingSchools_164 : decode cX1_dippingSchools 164 = .ok (.ireturn, 1) := by decide +kernel
theorem dX1_init_0 : decode cX1_init 0 = .ok (.aload_n 0, 1) := by decide +kernel
theorem dX1_init_1 : decode cX1_init 1 = .ok (.invokespecial 3, 3) := by decide +kernel
theorem dX1_init_4 : decode cX1_init 4 = .ok (.aload_n 0, 1) := by decide +kernel
theorem dX1_init_5 : decode cX1_init 5 = .ok (.bipush 51, 2) := by decide +kernel
theorem dX1_init_7 : decode cX1_init 7 = .ok (.newarray .long, 2) := by decide +kernel
theorem dX1_init_9 : decode cX1_init 9 = .ok (.putfield 9, 3) := by decide +kernel
theorem dX1_init_12 : decode cX1_init 12 = .ok (.aload_n 0, 1) := by decide +kernel
theorem dX1_init_13 : decode cX1_init 13 = .ok (.bipush 20, 2) := by decide +kernel
theorem dX1_init_15 : decode cX1_init 15 = .ok (.newarray .int, 2) := by decide +kernel
theorem dX1_init_17 : decode cX1_init 17 = .ok (.putfield 15, 3) := by decide +kernel
theorem dX1_init_20 : decode cX1_init 20 = .ok (.aload_n 0, 1) := by decide +kernel
theorem dX1_init_21 : decode cX1_init 21 = .ok (.sipush 400, 3) := by decide +kernel
theorem dX1_init_24 : decode cX1_init 24 = .ok (.newarray .int, 2) := by decide +kernel
theorem dX1_init_26 : decode cX1_init 26 = .ok (.putfield 19, 3) := by decide +kernel
theorem dX1_init_29 : decode cX1_init 29 = .ok (.aload_n 0, 1) := by decide +kernel
theorem dX1_init_30 : decode cX1_init 30 = .ok (.sipush 401, 3) := by decide +kernel
theorem dX1_init_33 : decode cX1_init 33 = .ok (.newarray .int, 2) := by decide +kernel
theorem dX1_init_35 : decode cX1_init 35 = .ok (.putfield 22, 3) := by decide +kernel
theorem dX1_init_38 : decode cX1_init 38 = .ok (.aload_n 0, 1) := by decide +kernel
theorem dX1_init_39 : decode cX1_init 39 = .ok (.sipush 401, 3) := by decide +kernel
theorem dX1_init_42 : decode cX1_init 42 = .ok (.newarray .int, 2) := by decide +kernel
theorem dX1_init_44 : decode cX1_init 44 = .ok (.putfield 25, 3) := by decide +kernel
theorem dX1_init_47 : decode cX1_init 47 = .ok (.aload_n 0, 1) := by decide +kernel
theorem dX1_init_48 : decode cX1_init 48 = .ok (.iconst 5, 1) := by decide +kernel
theorem dX1_init_49 : decode cX1_init 49 = .ok (.newarray .int, 2) := by decide +kernel
theorem dX1_init_51 : decode cX1_init 51 = .ok (.putfield 28, 3) := by decide +kernel
theorem dX1_init_54 : decode cX1_init 54 = .ok (.aload_n 0, 1) := by decide +kernel
theorem dX1_init_55 : decode cX1_init 55 = .ok (.iconst 5, 1) := by decide +kernel
theorem dX1_init_56 : decode cX1_init 56 = .ok (.newarray .int, 2) := by decide +kernel
theorem dX1_init_58 : decode cX1_init 58 = .ok (.putfield 31, 3) := by decide +kernel
theorem dX1_init_61 : decode cX1_init 61 = .ok (.aload_n 0, 1) := by decide +kernel
theorem dX1_init_62 : decode cX1_init 62 = .ok (.aload_n 1, 1) := by decide +kernel
theorem dX1_init_63 : decode cX1_init 63 = .ok (.putfield 34, 3) := by decide +kernel
theorem dX1_init_66 : decode cX1_init 66 = .ok (.return_, 1) := by decide +kernel
theorem dX1_isInForce_0 : decode cX1_isInForce 0 = .ok (.aload_n 0, 1) := by decide +kernel
theorem dX1_isInForce_1 : decode cX1_isInForce 1 = .ok (.getfield 34, 3) := by decide +kernel
theorem dX1_isInForce_4 : decode cX1_isInForce 4 = .ok (.getfield 96, 3) := by decide +kernel
theorem dX1_isInForce_7 : decode cX1_isInForce 7 = .ok (.astore 4, 2) := by decide +kernel
theorem dX1_isInForce_9 : decode cX1_isInForce 9 = .ok (.iload_n 1, 1) := by decide +kernel
theorem dX1_isInForce_10 : decode cX1_isInForce 10 = .ok (.ifCond .lt 42, 3) := by decide +kernel
theorem dX1_isInForce_13 : decode cX1_isInForce 13 = .ok (.iload_n 1, 1) := by decide +kernel
theorem dX1_isInForce_14 : decode cX1_isInForce 14 = .ok (.aload 4, 2) := by decide +kernel
theorem dX1_isInForce_16 : decode cX1_isInForce 16 = .ok (.getfield 103, 3) := by decide +kernel
theorem dX1_isInForce_19 : decode cX1_isInForce 19 = .ok (.if_icmp .ge 33, 3) := by decide +kernel
theorem dX1_isInForce_52 : decode cX1_isInForce 52 = .ok (.iconst (-1), 1) := by decide +kernel
theorem dX1_isInForce_53 : decode cX1_isInForce 53 = .ok (.ireturn, 1) := by decide +kernel
theorem dX1_noteKinds_0 : decode cX1_noteKinds 0 = .ok (.iconst 0, 1) := by decide +kernel
theorem dX1_noteKinds_1 : decode cX1_noteKinds 1 = .ok (.istore_n 2, 1) := by decide +kernel
theorem dX1_noteKinds_2 : decode cX1_noteKinds 2 = .ok (.iload_n 2, 1) := by decide +kernel
theorem dX1_noteKinds_3 : decode cX1_noteKinds 3 = .ok (.aload_n 0, 1) := by decide +kernel
theorem dX1_noteKinds_4 : decode cX1_noteKinds 4 = .ok (.getfield 34, 3) := by decide +kernel
theorem dX1_noteKinds_7 : decode cX1_noteKinds 7 = .ok (.getfield 38, 3) := by decide +kernel
theorem dX1_noteKinds_10 : decode cX1_noteKinds 10 = .ok (.getfield 196, 3) := by decide +kernel
theorem dX1_noteKinds_13 : decode cX1_noteKinds 13 = .ok (.if_icmp .ge 40, 3) := by decide +kernel
theorem dX1_noteKinds_53 : decode cX1_noteKinds 53 = .ok (.return_, 1) := by decide +kernel
theorem dX1_schoolsLookedAt_0 : decode cX1_schoolsLookedAt 0 = .ok (.iconst 0, 1) := by decide +kernel
theorem dX1_schoolsLookedAt_1 : decode cX1_schoolsLookedAt 1 = .ok (.istore_n 1, 1) := by decide +kernel
theorem dX1_schoolsLookedAt_2 : decode cX1_schoolsLookedAt 2 = .ok (.iconst 0, 1) := by decide +kernel
theorem dX1_schoolsLookedAt_3 : decode cX1_schoolsLookedAt 3 = .ok (.istore_n 2, 1) := by decide +kernel
theorem dX1_schoolsLookedAt_4 : decode cX1_schoolsLookedAt 4 = .ok (.iload_n 2, 1) := by decide +kernel
theorem dX1_schoolsLookedAt_5 : decode cX1_schoolsLookedAt 5 = .ok (.iconst 5, 1) := by decide +kernel
theorem dX1_schoolsLookedAt_6 : decode cX1_schoolsLookedAt 6 = .ok (.if_icmp .ge 26, 3) := by decide +kernel
theorem dX1_schoolsLookedAt_9 : decode cX1_schoolsLookedAt 9 = .ok (.iload_n 1, 1) := by decide +kernel
theorem dX1_schoolsLookedAt_10 : decode cX1_schoolsLookedAt 10 = .ok (.aload_n 0, 1) := by decide +kernel
theorem dX1_schoolsLookedAt_11 : decode cX1_schoolsLookedAt 11 = .ok (.getfield 28, 3) := by decide +kernel
theorem dX1_schoolsLookedAt_14 : decode cX1_schoolsLookedAt 14 = .ok (.iload_n 2, 1) := by decide +kernel
theorem dX1_schoolsLookedAt_15 : decode cX1_schoolsLookedAt 15 = .ok (.iaload, 1) := by decide +kernel
theorem dX1_schoolsLookedAt_16 : decode cX1_schoolsLookedAt 16 = .ok (.ifCond .le 7, 3) := by decide +kernel
theorem dX1_schoolsLookedAt_23 : decode cX1_schoolsLookedAt 23 = .ok (.iconst 0, 1) := by decide +kernel
theorem dX1_schoolsLookedAt_24 : decode cX1_schoolsLookedAt 24 = .ok (.iadd, 1) := by decide +kernel
theorem dX1_schoolsLookedAt_25 : decode cX1_schoolsLookedAt 25 = .ok (.istore_n 1, 1) := by decide +kernel
theorem dX1_schoolsLookedAt_26 : decode cX1_schoolsLookedAt 26 = .ok (.iinc 2 1, 3) := by decide +kernel
theorem dX1_schoolsLookedAt_29 : decode cX1_schoolsLookedAt 29 = .ok (.goto (-25), 3) := by decide +kernel
theorem dX1_schoolsLookedAt_32 : decode cX1_schoolsLookedAt 32 = .ok (.iload_n 1, 1) := by decide +kernel
theorem dX1_schoolsLookedAt_33 : decode cX1_schoolsLookedAt 33 = .ok (.ireturn, 1) := by decide +kernel
theorem dX2_bestJoin_0 : decode cX2_bestJoin 0 = .ok (.iconst 1, 1) := by decide +kernel
theorem dX2_bestJoin_1 : decode cX2_bestJoin 1 = .ok (.aload_n 0, 1) := by decide +kernel
theorem dX2_bestJoin_2 : decode cX2_bestJoin 2 = .ok (.getfield 48, 3) := by decide +kernel
theorem dX2_bestJoin_5 : decode cX2_bestJoin 5 = .ok (.getfield 49, 3) := by decide +kernel
theorem dX2_bestJoin_8 : decode cX2_bestJoin 8 = .ok (.ishl, 1) := by decide +kernel
theorem dX2_bestJoin_9 : decode cX2_bestJoin 9 = .ok (.istore_n 2, 1) := by decide +kernel
theorem dX2_bestJoin_10 : decode cX2_bestJoin 10 = .ok (.aload_n 0, 1) := by decide +kernel
theorem dX2_bestJoin_11 : decode cX2_bestJoin 11 = .ok (.iload_n 1, 1) := by decide +kernel
theorem dX2_bestJoin_12 : decode cX2_bestJoin 12 = .ok (.invokevirtual 54, 3) := by decide +kernel
theorem dX2_bestJoin_15 : decode cX2_bestJoin 15 = .ok (.iconst 0, 1) := by decide +kernel
theorem dX2_bestJoin_16 : decode cX2_bestJoin 16 = .ok (.istore_n 3, 1) := by decide +kernel
theorem dX2_bestJoin_17 : decode cX2_bestJoin 17 = .ok (.iload_n 3, 1) := by decide +kernel
theorem dX2_bestJoin_18 : decode cX2_bestJoin 18 = .ok (.iload_n 2, 1) := by decide +kernel
theorem dX2_bestJoin_19 : decode cX2_bestJoin 19 = .ok (.if_icmp .ge 45, 3) := by decide +kernel
theorem dX2_bestJoin_22 : decode cX2_bestJoin 22 = .ok (.aload_n 0, 1) := by decide +kernel
theorem dX2_bestJoin_23 : decode cX2_bestJoin 23 = .ok (.getfield 22, 3) := by decide +kernel
theorem dX2_bestJoin_26 : decode cX2_bestJoin 26 = .ok (.aload_n 0, 1) := by decide +kernel
theorem dX2_bestJoin_27 : decode cX2_bestJoin 27 = .ok (.getfield 48, 3) := by decide +kernel
theorem dX2_bestJoin_30 : decode cX2_bestJoin 30 = .ok (.getfield 58, 3) := by decide +kernel
theorem dX2_bestJoin_33 : decode cX2_bestJoin 33 = .ok (.bipush 64, 2) := by decide +kernel
theorem dX2_bestJoin_35 : decode cX2_bestJoin 35 = .ok (.imul, 1) := by decide +kernel
theorem dX2_bestJoin_36 : decode cX2_bestJoin 36 = .ok (.iload_n 3, 1) := by decide +kernel
theorem dX2_bestJoin_37 : decode cX2_bestJoin 37 = .ok (.iadd, 1) := by decide +kernel
theorem dX2_bestJoin_38 : decode cX2_bestJoin 38 = .ok (.iconst 0, 1) := by decide +kernel
theorem dX2_bestJoin_39 : decode cX2_bestJoin 39 = .ok (.iastore, 1) := by decide +kernel
theorem dX2_bestJoin_40 : decode cX2_bestJoin 40 = .ok (.aload_n 0, 1) := by decide +kernel
theorem dX2_bestJoin_41 : decode cX2_bestJoin 41 = .ok (.getfield 25, 3) := by decide +kernel
theorem dX2_bestJoin_44 : decode cX2_bestJoin 44 = .ok (.aload_n 0, 1) := by decide +kernel
theorem dX2_bestJoin_45 : decode cX2_bestJoin 45 = .ok (.getfield 48, 3) := by decide +kernel
theorem dX2_bestJoin_48 : decode cX2_bestJoin 48 = .ok (.getfield 58, 3) := by decide +kernel
theorem dX2_bestJoin_51 : decode cX2_bestJoin 51 = .ok (.bipush 64, 2) := by decide +kernel
theorem dX2_bestJoin_53 : decode cX2_bestJoin 53 = .ok (.imul, 1) := by decide +kernel
theorem dX2_bestJoin_54 : decode cX2_bestJoin 54 = .ok (.iload_n 3, 1) := by decide +kernel
theorem dX2_bestJoin_55 : decode cX2_bestJoin 55 = .ok (.iadd, 1) := by decide +kernel
theorem dX2_bestJoin_56 : decode cX2_bestJoin 56 = .ok (.iconst 1, 1) := by decide +kernel
theorem dX2_bestJoin_57 : decode cX2_bestJoin 57 = .ok (.iastore, 1) := by decide +kernel
theorem dX2_bestJoin_58 : decode cX2_bestJoin 58 = .ok (.iinc 3 1, 3) := by decide +kernel
theorem dX2_bestJoin_61 : decode cX2_bestJoin 61 = .ok (.goto (-44), 3) := by decide +kernel
theorem dX2_bestJoin_64 : decode cX2_bestJoin 64 = .ok (.aload_n 0, 1) := by decide +kernel
theorem dX2_bestJoin_65 : decode cX2_bestJoin 65 = .ok (.getfield 48, 3) := by decide +kernel
theorem dX2_bestJoin_68 : decode cX2_bestJoin 68 = .ok (.getfield 58, 3) := by decide +kernel
theorem dX2_bestJoin_71 : decode cX2_bestJoin 71 = .ok (.iconst 1, 1) := by decide +kernel
theorem dX2_bestJoin_72 : decode cX2_bestJoin 72 = .ok (.isub, 1) := by decide +kernel
theorem dX2_bestJoin_73 : decode cX2_bestJoin 73 = .ok (.istore_n 3, 1) := by decide +kernel
theorem dX2_bestJoin_74 : decode cX2_bestJoin 74 = .ok (.iload_n 3, 1) := by decide +kernel
theorem dX2_bestJoin_75 : decode cX2_bestJoin 75 = .ok (.ifCond .lt 31, 3) := by decide +kernel
theorem dX2_bestJoin_106 : decode cX2_bestJoin 106 = .ok (.aload_n 0, 1) := by decide +kernel
theorem dX2_bestJoin_107 : decode cX2_bestJoin 107 = .ok (.invokevirtual 65, 3) := by decide +kernel
theorem dX2_bestJoin_110 : decode cX2_bestJoin 110 = .ok (.aload_n 0, 1) := by decide +kernel
theorem dX2_bestJoin_111 : decode cX2_bestJoin 111 = .ok (.getfield 22, 3) := by decide +kernel
theorem dX2_bestJoin_114 : decode cX2_bestJoin 114 = .ok (.iconst 0, 1) := by decide +kernel
theorem dX2_bestJoin_115 : decode cX2_bestJoin 115 = .ok (.iaload, 1) := by decide +kernel
theorem dX2_bestJoin_116 : decode cX2_bestJoin 116 = .ok (.bipush 8, 2) := by decide +kernel
theorem dX2_bestJoin_118 : decode cX2_bestJoin 118 = .ok (.idiv, 1) := by decide +kernel
theorem dX2_bestJoin_119 : decode cX2_bestJoin 119 = .ok (.ireturn, 1) := by decide +kernel
theorem dX2_bestRound_0 : decode cX2_bestRound 0 = .ok (.aload_n 0, 1) := by decide +kernel
theorem dX2_bestRound_1 : decode cX2_bestRound 1 = .ok (.iload_n 1, 1) := by decide +kernel
theorem dX2_bestRound_2 : decode cX2_bestRound 2 = .ok (.iload_n 2, 1) := by decide +kernel
theorem dX2_bestRound_3 : decode cX2_bestRound 3 = .ok (.invokevirtual 85, 3) := by decide +kernel
theorem dX2_bestRound_6 : decode cX2_bestRound 6 = .ok (.aload_n 0, 1) := by decide +kernel
theorem dX2_bestRound_7 : decode cX2_bestRound 7 = .ok (.iconst 0, 1) := by decide +kernel
theorem dX2_bestRound_8 : decode cX2_bestRound 8 = .ok (.putfield 88, 3) := by decide +kernel
theorem dX2_bestRound_11 : decode cX2_bestRound 11 = .ok (.aload_n 0, 1) := by decide +kernel
theorem dX2_bestRound_12 : decode cX2_bestRound 12 = .ok (.iconst 0, 1) := by decide +kernel
theorem dX2_bestRound_13 : decode cX2_bestRound 13 = .ok (.putfield 91, 3) := by decide +kernel
theorem dX2_bestRound_16 : decode cX2_bestRound 16 = .ok (.aload_n 0, 1) := by decide +kernel
theorem dX2_bestRound_17 : decode cX2_bestRound 17 = .ok (.iconst 0, 1) := by decide +kernel
theorem dX2_bestRound_18 : decode cX2_bestRound 18 = .ok (.putfield 94, 3) := by decide +kernel
theorem dX2_bestRound_21 : decode cX2_bestRound 21 = .ok (.iconst 1, 1) := by decide +kernel
theorem dX2_bestRound_22 : decode cX2_bestRound 22 = .ok (.istore 4, 2) := by decide +kernel
theorem dX2_bestRound_24 : decode cX2_bestRound 24 = .ok (.iload 4, 2) := by decide +kernel
theorem dX2_bestRound_26 : decode cX2_bestRound 26 = .ok (.iconst 1, 1) := by decide +kernel
theorem dX2_bestRound_27 : decode cX2_bestRound 27 = .ok (.aload_n 0, 1) := by decide +kernel
theorem dX2_bestRound_28 : decode cX2_bestRound 28 = .ok (.getfield 48, 3) := by decide +kernel
theorem dX2_bestRound_31 : decode cX2_bestRound 31 = .ok (.getfield 97, 3) := by decide +kernel
theorem dX2_bestRound_34 : decode cX2_bestRound 34 = .ok (.ishl, 1) := by decide +kernel
theorem dX2_bestRound_35 : decode cX2_bestRound 35 = .ok (.if_icmp .ge 80, 3) := by decide +kernel
theorem dX2_bestRound_115 : decode cX2_bestRound 115 = .ok (.return_, 1) := by decide +kernel
theorem dX2_init_0 : decode cX2_init 0 = .ok (.aload_n 0, 1) := by decide +kernel
theorem dX2_init_1 : decode cX2_init 1 = .ok (.invokespecial 3, 3) := by decide +kernel
theorem dX2_init_4 : decode cX2_init 4 = .ok (.aload_n 0, 1) := by decide +kernel
theorem dX2_init_5 : decode cX2_init 5 = .ok (.bipush 6, 2) := by decide +kernel
theorem dX2_init_7 : decode cX2_init 7 = .ok (.newarray .int, 2) := by decide +kernel
theorem dX2_init_9 : decode cX2_init 9 = .ok (.putfield 9, 3) := by decide +kernel
theorem dX2_init_12 : decode cX2_init 12 = .ok (.aload_n 0, 1) := by decide +kernel
theorem dX2_init_13 : decode cX2_init 13 = .ok (.iconst (-1), 1) := by decide +kernel
theorem dX2_init_14 : decode cX2_init 14 = .ok (.putfield 15, 3) := by decide +kernel
theorem dX2_init_17 : decode cX2_init 17 = .ok (.aload_n 0, 1) := by decide +kernel
theorem dX2_init_18 : decode cX2_init 18 = .ok (.bipush 36, 2) := by decide +kernel
theorem dX2_init_20 : decode cX2_init 20 = .ok (.newarray .int, 2) := by decide +kernel
theorem dX2_init_22 : decode cX2_init 22 = .ok (.putfield 19, 3) := by decide +kernel
theorem dX2_init_25 : decode cX2_init 25 = .ok (.aload_n 0, 1) := by decide +kernel
theorem dX2_init_26 : decode cX2_init 26 = .ok (.sipush 448, 3) := by decide +kernel
theorem dX2_init_29 : decode cX2_init 29 = .ok (.newarray .int, 2) := by decide +kernel
theorem dX2_init_31 : decode cX2_init 31 = .ok (.putfield 22, 3) := by decide +kernel
theorem dX2_init_34 : decode cX2_init 34 = .ok (.aload_n 0, 1) := by decide +kernel
theorem dX2_init_35 : decode cX2_init 35 = .ok (.sipush 448, 3) := by decide +kernel
theorem dX2_init_38 : decode cX2_init 38 = .ok (.newarray .int, 2) := by decide +kernel
theorem dX2_init_40 : decode cX2_init 40 = .ok (.putfield 25, 3) := by decide +kernel
theorem dX2_init_43 : decode cX2_init 43 = .ok (.aload_n 0, 1) := by decide +kernel
theorem dX2_init_44 : decode cX2_init 44 = .ok (.bipush 81, 2) := by decide +kernel
theorem dX2_init_46 : decode cX2_init 46 = .ok (.newarray .int, 2) := by decide +kernel
theorem dX2_init_48 : decode cX2_init 48 = .ok (.putfield 28, 3) := by decide +kernel
theorem dX2_init_51 : decode cX2_init 51 = .ok (.aload_n 0, 1) := by decide +kernel
theorem dX2_init_52 : decode cX2_init 52 = .ok (.bipush 9, 2) := by decide +kernel
theorem dX2_init_54 : decode cX2_init 54 = .ok (.newarray .int, 2) := by decide +kernel
theorem dX2_init_56 : decode cX2_init 56 = .ok (.putfield 31, 3) := by decide +kernel
theorem dX2_init_59 : decode cX2_init 59 = .ok (.aload_n 0, 1) := by decide +kernel
theorem dX2_init_60 : decode cX2_init 60 = .ok (.sipush 4608, 3) := by decide +kernel
theorem dX2_init_63 : decode cX2_init 63 = .ok (.newarray .int, 2) := by decide +kernel
theorem dX2_init_65 : decode cX2_init 65 = .ok (.putfield 34, 3) := by decide +kernel
theorem dX2_init_68 : decode cX2_init 68 = .ok (.aload_n 0, 1) := by decide +kernel
theorem dX2_init_69 : decode cX2_init 69 = .ok (.aload_n 1, 1) := by decide +kernel
theorem dX2_init_70 : decode cX2_init 70 = .ok (.getfield 37, 3) := by decide +kernel
theorem dX2_init_73 : decode cX2_init 73 = .ok (.putfield 43, 3) := by decide +kernel
theorem dX2_init_76 : decode cX2_init 76 = .ok (.aload_n 0, 1) := by decide +kernel
theorem dX2_init_77 : decode cX2_init 77 = .ok (.aload_n 1, 1) := by decide +kernel
theorem dX2_init_78 : decode cX2_init 78 = .ok (.getfield 44, 3) := by decide +kernel
theorem dX2_init_81 : decode cX2_init 81 = .ok (.putfield 48, 3) := by decide +kernel
theorem dX2_init_84 : decode cX2_init 84 = .ok (.return_, 1) := by decide +kernel
theorem dX2_keepFirstBest_0 : decode cX2_keepFirstBest 0 = .ok (.iconst 0, 1) := by decide +kernel
theorem dX2_keepFirstBest_1 : decode cX2_keepFirstBest 1 = .ok (.istore_n 1, 1) := by decide +kernel
theorem dX2_keepFirstBest_2 : decode cX2_keepFirstBest 2 = .ok (.iconst 0, 1) := by decide +kernel
theorem dX2_keepFirstBest_3 : decode cX2_keepFirstBest 3 = .ok (.istore_n 2, 1) := by decide +kernel
theorem dX2_keepFirstBest_4 : decode cX2_keepFirstBest 4 = .ok (.iload_n 2, 1) := by decide +kernel
theorem dX2_keepFirstBest_5 : decode cX2_keepFirstBest 5 = .ok (.aload_n 0, 1) := by decide +kernel
theorem dX2_keepFirstBest_6 : decode cX2_keepFirstBest 6 = .ok (.getfield 48, 3) := by decide +kernel
theorem dX2_keepFirstBest_9 : decode cX2_keepFirstBest 9 = .ok (.getfield 58, 3) := by decide +kernel
theorem dX2_keepFirstBest_12 : decode cX2_keepFirstBest 12 = .ok (.if_icmp .ge 98, 3) := by decide +kernel
theorem dX2_keepFirstBest_110 : decode cX2_keepFirstBest 110 = .ok (.aload_n 0, 1) := by decide +kernel
theorem dX2_keepFirstBest_111 : decode cX2_keepFirstBest 111 = .ok (.aload_n 0, 1) := by decide +kernel
theorem dX2_keepFirstBest_112 : decode cX2_keepFirstBest 112 = .ok (.getfield 48, 3) := by decide +kernel
theorem dX2_keepFirstBest_115 : decode cX2_keepFirstBest 115 = .ok (.getfield 58, 3) := by decide +kernel
theorem dX2_keepFirstBest_118 : decode cX2_keepFirstBest 118 = .ok (.putfield 82, 3) := by decide +kernel
theorem dX2_keepFirstBest_121 : decode cX2_keepFirstBest 121 = .ok (.aload_n 0, 1) := by decide +kernel
theorem dX2_keepFirstBest_122 : decode cX2_keepFirstBest 122 = .ok (.aload_n 0, 1) := by decide +kernel
theorem dX2_keepFirstBest_123 : decode cX2_keepFirstBest 123 = .ok (.getfield 25, 3) := by decide +kernel
theorem dX2_keepFirstBest_126 : decode cX2_keepFirstBest 126 = .ok (.iconst 0, 1) := by decide +kernel
theorem dX2_keepFirstBest_127 : decode cX2_keepFirstBest 127 = .ok (.iaload, 1) := by decide +kernel
theorem dX2_keepFirstBest_128 : decode cX2_keepFirstBest 128 = .ok (.putfield 15, 3) := by decide +kernel
theorem dX2_keepFirstBest_131 : decode cX2_keepFirstBest 131 = .ok (.return_, 1) := by decide +kernel
theorem dX2_likeOfRow_0 : decode cX2_likeOfRow 0 = .ok (.iload_n 1, 1) := by decide +kernel
theorem dX2_likeOfRow_1 : decode cX2_likeOfRow 1 = .ok (.istore_n 3, 1) := by decide +kernel
theorem dX2_likeOfRow_2 : decode cX2_likeOfRow 2 = .ok (.iconst 0, 1) := by decide +kernel
theorem dX2_likeOfRow_3 : decode cX2_likeOfRow 3 = .ok (.istore 4, 2) := by decide +kernel
theorem dX2_likeOfRow_5 : decode cX2_likeOfRow 5 = .ok (.iconst 0, 1) := by decide +kernel
theorem dX2_likeOfRow_6 : decode cX2_likeOfRow 6 = .ok (.istore 5, 2) := by decide +kernel
theorem dX2_likeOfRow_8 : decode cX2_likeOfRow 8 = .ok (.iconst 0, 1) := by decide +kernel
theorem dX2_likeOfRow_9 : decode cX2_likeOfRow 9 = .ok (.istore 6, 2) := by decide +kernel
theorem dX2_likeOfRow_11 : decode cX2_likeOfRow 11 = .ok (.iload 6, 2) := by decide +kernel
theorem dX2_likeOfRow_13 : decode cX2_likeOfRow 13 = .ok (.aload_n 0, 1) := by decide +kernel
theorem dX2_likeOfRow_14 : decode cX2_likeOfRow 14 = .ok (.getfield 48, 3) := by decide +kernel
theorem dX2_likeOfRow_17 : decode cX2_likeOfRow 17 = .ok (.getfield 58, 3) := by decide +kernel
theorem dX2_likeOfRow_20 : decode cX2_likeOfRow 20 = .ok (.if_icmp .ge 105, 3) := by decide +kernel
theorem dX2_likeOfRow_125 : decode cX2_likeOfRow 125 = .ok (.iload_n 3, 1) := by decide +kernel
theorem dX2_likeOfRow_126 : decode cX2_likeOfRow 126 = .ok (.ifCond .ne 8, 3) := by decide +kernel
theorem dX2_likeOfRow_129 : decode cX2_likeOfRow 129 = .ok (.iload 5, 2) := by decide +kernel
theorem dX2_likeOfRow_131 : decode cX2_likeOfRow 131 = .ok (.goto 4, 3) := by decide +kernel
theorem dX2_likeOfRow_134 : decode cX2_likeOfRow 134 = .ok (.iconst (-1), 1) := by decide +kernel
theorem dX2_likeOfRow_135 : decode cX2_likeOfRow 135 = .ok (.ireturn, 1) := by decide +kernel
theorem dX2_noteLikeness_0 : decode cX2_noteLikeness 0 = .ok (.iconst 0, 1) := by decide +kernel
theorem dX2_noteLikeness_1 : decode cX2_noteLikeness 1 = .ok (.istore_n 2, 1) := by decide +kernel
theorem dX2_noteLikeness_2 : decode cX2_noteLikeness 2 = .ok (.iload_n 2, 1) := by decide +kernel
theorem dX2_noteLikeness_3 : decode cX2_noteLikeness 3 = .ok (.aload_n 0, 1) := by decide +kernel
theorem dX2_noteLikeness_4 : decode cX2_noteLikeness 4 = .ok (.getfield 48, 3) := by decide +kernel
theorem dX2_noteLikeness_7 : decode cX2_noteLikeness 7 = .ok (.getfield 58, 3) := by decide +kernel
theorem dX2_noteLikeness_10 : decode cX2_noteLikeness 10 = .ok (.if_icmp .ge 74, 3) := by decide +kernel
theorem dX2_noteLikeness_84 : decode cX2_noteLikeness 84 = .ok (.return_, 1) := by decide +kernel
theorem dX2_noteWays_0 : decode cX2_noteWays 0 = .ok (.iconst 0, 1) := by decide +kernel
theorem dX2_noteWays_1 : decode cX2_noteWays 1 = .ok (.istore_n 3, 1) := by decide +kernel
theorem dX2_noteWays_2 : decode cX2_noteWays 2 = .ok (.iload_n 3, 1) := by decide +kernel
theorem dX2_noteWays_3 : decode cX2_noteWays 3 = .ok (.aload_n 0, 1) := by decide +kernel
theorem dX2_noteWays_4 : decode cX2_noteWays 4 = .ok (.getfield 48, 3) := by decide +kernel
theorem dX2_noteWays_7 : decode cX2_noteWays 7 = .ok (.getfield 97, 3) := by decide +kernel
theorem dX2_noteWays_10 : decode cX2_noteWays 10 = .ok (.if_icmp .ge 92, 3) := by decide +kernel
theorem dX2_noteWays_102 : decode cX2_noteWays 102 = .ok (.return_, 1) := by decide +kernel
theorem dX2_waysToDraw_0 : decode cX2_waysToDraw 0 = .ok (.iconst 0, 1) := by decide +kernel
theorem dX2_waysToDraw_1 : decode cX2_waysToDraw 1 = .ok (.istore_n 2, 1) := by decide +kernel
theorem dX2_waysToDraw_2 : decode cX2_waysToDraw 2 = .ok (.aload_n 0, 1) := by decide +kernel
theorem dX2_waysToDraw_3 : decode cX2_waysToDraw 3 = .ok (.getfield 34, 3) := by decide +kernel
theorem dX2_waysToDraw_6 : decode cX2_waysToDraw 6 = .ok (.iconst 0, 1) := by decide +kernel
theorem dX2_waysToDraw_7 : decode cX2_waysToDraw 7 = .ok (.iconst 0, 1) := by decide +kernel
theorem dX2_waysToDraw_8 : decode cX2_waysToDraw 8 = .ok (.iastore, 1) := by decide +kernel
theorem dX2_waysToDraw_9 : decode cX2_waysToDraw 9 = .ok (.iconst 0, 1) := by decide +kernel
theorem dX2_waysToDraw_10 : decode cX2_waysToDraw 10 = .ok (.istore_n 3, 1) := by decide +kernel
theorem dX2_waysToDraw_11 : decode cX2_waysToDraw 11 = .ok (.iload_n 3, 1) := by decide +kernel
theorem dX2_waysToDraw_12 : decode cX2_waysToDraw 12 = .ok (.aload_n 0, 1) := by decide +kernel
theorem dX2_waysToDraw_13 : decode cX2_waysToDraw 13 = .ok (.getfield 48, 3) := by decide +kernel
theorem dX2_waysToDraw_16 : decode cX2_waysToDraw 16 = .ok (.getfield 136, 3) := by decide +kernel
theorem dX2_waysToDraw_19 : decode cX2_waysToDraw 19 = .ok (.if_icmp .ge 68, 3) := by decide +kernel
theorem dX2_waysToDraw_87 : decode cX2_waysToDraw 87 = .ok (.iload_n 2, 1) := by decide +kernel
theorem dX2_waysToDraw_88 : decode cX2_waysToDraw 88 = .ok (.invokestatic 145, 3) := by decide +kernel
theorem dX2_waysToDraw_91 : decode cX2_waysToDraw 91 = .ok (.istore_n 3, 1) := by decide +kernel
theorem dX2_waysToDraw_92 : decode cX2_waysToDraw 92 = .ok (.aload_n 0, 1) := by decide +kernel
theorem dX2_waysToDraw_93 : decode cX2_waysToDraw 93 = .ok (.getfield 34, 3) := by decide +kernel
theorem dX2_waysToDraw_96 : decode cX2_waysToDraw 96 = .ok (.iload_n 2, 1) := by decide +kernel
theorem dX2_waysToDraw_97 : decode cX2_waysToDraw 97 = .ok (.iaload, 1) := by decide +kernel
theorem dX2_waysToDraw_98 : decode cX2_waysToDraw 98 = .ok (.istore 4, 2) := by decide +kernel
theorem dX2_waysToDraw_100 : decode cX2_waysToDraw 100 = .ok (.iconst 0, 1) := by decide +kernel
theorem dX2_waysToDraw_101 : decode cX2_waysToDraw 101 = .ok (.istore 5, 2) := by decide +kernel
theorem dX2_waysToDraw_103 : decode cX2_waysToDraw 103 = .ok (.iconst 0, 1) := by decide +kernel
theorem dX2_waysToDraw_104 : decode cX2_waysToDraw 104 = .ok (.istore 6, 2) := by decide +kernel
theorem dX2_waysToDraw_106 : decode cX2_waysToDraw 106 = .ok (.iload 6, 2) := by decide +kernel
theorem dX2_waysToDraw_108 : decode cX2_waysToDraw 108 = .ok (.iconst 1, 1) := by decide +kernel
theorem dX2_waysToDraw_109 : decode cX2_waysToDraw 109 = .ok (.aload_n 0, 1) := by decide +kernel
theorem dX2_waysToDraw_110 : decode cX2_waysToDraw 110 = .ok (.getfield 48, 3) := by decide +kernel
theorem dX2_waysToDraw_113 : decode cX2_waysToDraw 113 = .ok (.getfield 136, 3) := by decide +kernel
theorem dX2_waysToDraw_116 : decode cX2_waysToDraw 116 = .ok (.ishl, 1) := by decide +kernel
theorem dX2_waysToDraw_117 : decode cX2_waysToDraw 117 = .ok (.if_icmp .ge 37, 3) := by decide +kernel
theorem dX2_waysToDraw_120 : decode cX2_waysToDraw 120 = .ok (.iload_n 1, 1) := by decide +kernel
theorem dX2_waysToDraw_121 : decode cX2_waysToDraw 121 = .ok (.ifCond .eq 15, 3) := by decide +kernel
theorem dX2_waysToDraw_124 : decode cX2_waysToDraw 124 = .ok (.aload_n 0, 1) := by decide +kernel
theorem dX2_waysToDraw_125 : decode cX2_waysToDraw 125 = .ok (.getfield 34, 3) := by decide +kernel
theorem dX2_waysToDraw_128 : decode cX2_waysToDraw 128 = .ok (.iload 6, 2) := by decide +kernel
theorem dX2_waysToDraw_130 : decode cX2_waysToDraw 130 = .ok (.iaload, 1) := by decide +kernel
theorem dX2_waysToDraw_131 : decode cX2_waysToDraw 131 = .ok (.iload 4, 2) := by decide +kernel
theorem dX2_waysToDraw_133 : decode cX2_waysToDraw 133 = .ok (.if_icmp .lt 15, 3) := by decide +kernel
theorem dX2_waysToDraw_136 : decode cX2_waysToDraw 136 = .ok (.iload 6, 2) := by decide +kernel
theorem dX2_waysToDraw_138 : decode cX2_waysToDraw 138 = .ok (.invokestatic 145, 3) := by decide +kernel
theorem dX2_waysToDraw_141 : decode cX2_waysToDraw 141 = .ok (.iload_n 3, 1) := by decide +kernel
theorem dX2_waysToDraw_142 : decode cX2_waysToDraw 142 = .ok (.if_icmp .ne 6, 3) := by decide +kernel
theorem dX2_waysToDraw_145 : decode cX2_waysToDraw 145 = .ok (.iinc 5 1, 3) := by decide +kernel
theorem dX2_waysToDraw_148 : decode cX2_waysToDraw 148 = .ok (.iinc 6 1, 3) := by decide +kernel
theorem dX2_waysToDraw_151 : decode cX2_waysToDraw 151 = .ok (.goto (-45), 3) := by decide +kernel
theorem dX2_waysToDraw_154 : decode cX2_waysToDraw 154 = .ok (.iload 5, 2) := by decide +kernel
theorem dX2_waysToDraw_156 : decode cX2_waysToDraw 156 = .ok (.ireturn, 1) := by decide +kernel
theorem dX3_becomeLike_0 : decode cX3_becomeLike 0 = .ok (.aload_n 0, 1) := by decide +kernel
theorem dX3_becomeLike_1 : decode cX3_becomeLike 1 = .ok (.getfield 10, 3) := by decide +kernel
theorem dX3_becomeLike_4 : decode cX3_becomeLike 4 = .ok (.aload_n 1, 1) := by decide +kernel
theorem dX3_becomeLike_5 : decode cX3_becomeLike 5 = .ok (.getfield 10, 3) := by decide +kernel
theorem dX3_becomeLike_8 : decode cX3_becomeLike 8 = .ok (.invokevirtual 51, 3) := by decide +kernel
theorem dX3_becomeLike_11 : decode cX3_becomeLike 11 = .ok (.aload_n 0, 1) := by decide +kernel
theorem dX3_becomeLike_12 : decode cX3_becomeLike 12 = .ok (.getfield 19, 3) := by decide +kernel
theorem dX3_becomeLike_15 : decode cX3_becomeLike 15 = .ok (.aload_n 1, 1) := by decide +kernel
theorem dX3_becomeLike_16 : decode cX3_becomeLike 16 = .ok (.getfield 19, 3) := by decide +kernel
theorem dX3_becomeLike_19 : decode cX3_becomeLike 19 = .ok (.invokevirtual 55, 3) := by decide +kernel
theorem dX3_becomeLike_22 : decode cX3_becomeLike 22 = .ok (.aload_n 0, 1) := by decide +kernel
theorem dX3_becomeLike_23 : decode cX3_becomeLike 23 = .ok (.getfield 26, 3) := by decide +kernel
theorem dX3_becomeLike_26 : decode cX3_becomeLike 26 = .ok (.aload_n 1, 1) := by decide +kernel
theorem dX3_becomeLike_27 : decode cX3_becomeLike 27 = .ok (.getfield 26, 3) := by decide +kernel
theorem dX3_becomeLike_30 : decode cX3_becomeLike 30 = .ok (.invokevirtual 58, 3) := by decide +kernel
theorem dX3_becomeLike_33 : decode cX3_becomeLike 33 = .ok (.aload_n 0, 1) := by decide +kernel
theorem dX3_becomeLike_34 : decode cX3_becomeLike 34 = .ok (.getfield 33, 3) := by decide +kernel
theorem dX3_becomeLike_37 : decode cX3_becomeLike 37 = .ok (.aload_n 1, 1) := by decide +kernel
theorem dX3_becomeLike_38 : decode cX3_becomeLike 38 = .ok (.getfield 33, 3) := by decide +kernel
theorem dX3_becomeLike_41 : decode cX3_becomeLike 41 = .ok (.invokevirtual 61, 3) := by decide +kernel
theorem dX3_becomeLike_44 : decode cX3_becomeLike 44 = .ok (.aload_n 0, 1) := by decide +kernel
theorem dX3_becomeLike_45 : decode cX3_becomeLike 45 = .ok (.getfield 40, 3) := by decide +kernel
theorem dX3_becomeLike_48 : decode cX3_becomeLike 48 = .ok (.aload_n 1, 1) := by decide +kernel
theorem dX3_becomeLike_49 : decode cX3_becomeLike 49 = .ok (.getfield 40, 3) := by decide +kernel
theorem dX3_becomeLike_52 : decode cX3_becomeLike 52 = .ok (.invokevirtual 64, 3) := by decide +kernel
theorem dX3_becomeLike_55 : decode cX3_becomeLike 55 = .ok (.aload_n 0, 1) := by decide +kernel
theorem dX3_becomeLike_56 : decode cX3_becomeLike 56 = .ok (.getfield 47, 3) := by decide +kernel
theorem dX3_becomeLike_59 : decode cX3_becomeLike 59 = .ok (.aload_n 1, 1) := by decide +kernel
theorem dX3_becomeLike_60 : decode cX3_becomeLike 60 = .ok (.getfield 47, 3) := by decide +kernel
theorem dX3_becomeLike_63 : decode cX3_becomeLike 63 = .ok (.invokevirtual 67, 3) := by decide +kernel
theorem dX3_becomeLike_66 : decode cX3_becomeLike 66 = .ok (.return_, 1) := by decide +kernel
theorem dX3_init_0 : decode cX3_init 0 = .ok (.aload_n 0, 1) := by decide +kernel
theorem dX3_init_1 : decode cX3_init 1 = .ok (.invokespecial 1, 3) := by decide +kernel
theorem dX3_init_4 : decode cX3_init 4 = .ok (.aload_n 0, 1) := by decide +kernel
theorem dX3_init_5 : decode cX3_init 5 = .ok (.new 7, 3) := by decide +kernel
theorem dX3_init_8 : decode cX3_init 8 = .ok (.dup, 1) := by decide +kernel
theorem dX3_init_9 : decode cX3_init 9 = .ok (.invokespecial 9, 3) := by decide +kernel
theorem dX3_init_12 : decode cX3_init 12 = .ok (.putfield 10, 3) := by decide +kernel
theorem dX3_init_15 : decode cX3_init 15 = .ok (.aload_n 0, 1) := by decide +kernel
theorem dX3_init_16 : decode cX3_init 16 = .ok (.new 16, 3) := by decide +kernel
theorem dX3_init_19 : decode cX3_init 19 = .ok (.dup, 1) := by decide +kernel
theorem dX3_init_20 : decode cX3_init 20 = .ok (.invokespecial 18, 3) := by decide +kernel
theorem dX3_init_23 : decode cX3_init 23 = .ok (.putfield 19, 3) := by decide +kernel
theorem dX3_init_26 : decode cX3_init 26 = .ok (.aload_n 0, 1) := by decide +kernel
theorem dX3_init_27 : decode cX3_init 27 = .ok (.new 23, 3) := by decide +kernel
theorem dX3_init_30 : decode cX3_init 30 = .ok (.dup, 1) := by decide +kernel
theorem dX3_init_31 : decode cX3_init 31 = .ok (.invokespecial 25, 3) := by decide +kernel
theorem dX3_init_34 : decode cX3_init 34 = .ok (.putfield 26, 3) := by decide +kernel
theorem dX3_init_37 : decode cX3_init 37 = .ok (.aload_n 0, 1) := by decide +kernel
theorem dX3_init_38 : decode cX3_init 38 = .ok (.new 30, 3) := by decide +kernel
theorem dX3_init_41 : decode cX3_init 41 = .ok (.dup, 1) := by decide +kernel
theorem dX3_init_42 : decode cX3_init 42 = .ok (.invokespecial 32, 3) := by decide +kernel
theorem dX3_init_45 : decode cX3_init 45 = .ok (.putfield 33, 3) := by decide +kernel
theorem dX3_init_48 : decode cX3_init 48 = .ok (.aload_n 0, 1) := by decide +kernel
theorem dX3_init_49 : decode cX3_init 49 = .ok (.new 37, 3) := by decide +kernel
theorem dX3_init_52 : decode cX3_init 52 = .ok (.dup, 1) := by decide +kernel
theorem dX3_init_53 : decode cX3_init 53 = .ok (.invokespecial 39, 3) := by decide +kernel
theorem dX3_init_56 : decode cX3_init 56 = .ok (.putfield 40, 3) := by decide +kernel
theorem dX3_init_59 : decode cX3_init 59 = .ok (.aload_n 0, 1) := by decide +kernel
theorem dX3_init_60 : decode cX3_init 60 = .ok (.new 44, 3) := by decide +kernel
theorem dX3_init_63 : decode cX3_init 63 = .ok (.dup, 1) := by decide +kernel
theorem dX3_init_64 : decode cX3_init 64 = .ok (.invokespecial 46, 3) := by decide +kernel
theorem dX3_init_67 : decode cX3_init 67 = .ok (.putfield 47, 3) := by decide +kernel
theorem dX3_init_70 : decode cX3_init 70 = .ok (.return_, 1) := by decide +kernel
theorem dX4_becomeLike_0 : decode cX4_becomeLike 0 = .ok (.aload_n 0, 1) := by decide +kernel
theorem dX4_becomeLike_1 : decode cX4_becomeLike 1 = .ok (.aload_n 1, 1) := by decide +kernel
theorem dX4_becomeLike_2 : decode cX4_becomeLike 2 = .ok (.getfield 39, 3) := by decide +kernel
theorem dX4_becomeLike_5 : decode cX4_becomeLike 5 = .ok (.putfield 39, 3) := by decide +kernel
theorem dX4_becomeLike_8 : decode cX4_becomeLike 8 = .ok (.aload_n 1, 1) := by decide +kernel
theorem dX4_becomeLike_9 : decode cX4_becomeLike 9 = .ok (.getfield 9, 3) := by decide +kernel
theorem dX4_becomeLike_12 : decode cX4_becomeLike 12 = .ok (.aload_n 0, 1) := by decide +kernel
theorem dX4_becomeLike_13 : decode cX4_becomeLike 13 = .ok (.getfield 9, 3) := by decide +kernel
theorem dX4_becomeLike_16 : decode cX4_becomeLike 16 = .ok (.invokestatic 43, 3) := by decide +kernel
theorem dX4_becomeLike_19 : decode cX4_becomeLike 19 = .ok (.aload_n 0, 1) := by decide +kernel
theorem dX4_becomeLike_20 : decode cX4_becomeLike 20 = .ok (.aload_n 1, 1) := by decide +kernel
theorem dX4_becomeLike_21 : decode cX4_becomeLike 21 = .ok (.getfield 47, 3) := by decide +kernel
theorem dX4_becomeLike_24 : decode cX4_becomeLike 24 = .ok (.putfield 47, 3) := by decide +kernel
theorem dX4_becomeLike_27 : decode cX4_becomeLike 27 = .ok (.aload_n 1, 1) := by decide +kernel
theorem dX4_becomeLike_28 : decode cX4_becomeLike 28 = .ok (.getfield 15, 3) := by decide +kernel
theorem dX4_becomeLike_31 : decode cX4_becomeLike 31 = .ok (.aload_n 0, 1) := by decide +kernel
theorem dX4_becomeLike_32 : decode cX4_becomeLike 32 = .ok (.getfield 15, 3) := by decide +kernel
theorem dX4_becomeLike_35 : decode cX4_becomeLike 35 = .ok (.invokestatic 43, 3) := by decide +kernel
theorem dX4_becomeLike_38 : decode cX4_becomeLike 38 = .ok (.aload_n 1, 1) := by decide +kernel
theorem dX4_becomeLike_39 : decode cX4_becomeLike 39 = .ok (.getfield 18, 3) := by decide +kernel
theorem dX4_becomeLike_42 : decode cX4_becomeLike 42 = .ok (.aload_n 0, 1) := by decide +kernel
theorem dX4_becomeLike_43 : decode cX4_becomeLike 43 = .ok (.getfield 18, 3) := by decide +kernel
theorem dX4_becomeLike_46 : decode cX4_becomeLike 46 = .ok (.invokestatic 43, 3) := by decide +kernel
theorem dX4_becomeLike_49 : decode cX4_becomeLike 49 = .ok (.aload_n 0, 1) := by decide +kernel
theorem dX4_becomeLike_50 : decode cX4_becomeLike 50 = .ok (.aload_n 1, 1) := by decide +kernel
theorem dX4_becomeLike_51 : decode cX4_becomeLike 51 = .ok (.getfield 50, 3) := by decide +kernel
theorem dX4_becomeLike_54 : decode cX4_becomeLike 54 = .ok (.putfield 50, 3) := by decide +kernel
theorem dX4_becomeLike_57 : decode cX4_becomeLike 57 = .ok (.aload_n 1, 1) := by decide +kernel
theorem dX4_becomeLike_58 : decode cX4_becomeLike 58 = .ok (.getfield 21, 3) := by decide +kernel
theorem dX4_becomeLike_61 : decode cX4_becomeLike 61 = .ok (.aload_n 0, 1) := by decide +kernel
theorem dX4_becomeLike_62 : decode cX4_becomeLike 62 = .ok (.getfield 21, 3) := by decide +kernel
theorem dX4_becomeLike_65 : decode cX4_becomeLike 65 = .ok (.invokestatic 43, 3) := by decide +kernel
theorem dX4_becomeLike_68 : decode cX4_becomeLike 68 = .ok (.aload_n 1, 1) := by decide +kernel
theorem dX4_becomeLike_69 : decode cX4_becomeLike 69 = .ok (.getfield 24, 3) := by decide +kernel
theorem dX4_becomeLike_72 : decode cX4_becomeLike 72 = .ok (.aload_n 0, 1) := by decide +kernel
theorem dX4_becomeLike_73 : decode cX4_becomeLike 73 = .ok (.getfield 24, 3) := by decide +kernel
theorem dX4_becomeLike_76 : decode cX4_becomeLike 76 = .ok (.invokestatic 43, 3) := by decide +kernel
theorem dX4_becomeLike_79 : decode cX4_becomeLike 79 = .ok (.aload_n 1, 1) := by decide +kernel
theorem dX4_becomeLike_80 : decode cX4_becomeLike 80 = .ok (.getfield 27, 3) := by decide +kernel
theorem dX4_becomeLike_83 : decode cX4_becomeLike 83 = .ok (.aload_n 0, 1) := by decide +kernel
theorem dX4_becomeLike_84 : decode cX4_becomeLike 84 = .ok (.getfield 27, 3) := by decide +kernel
theorem dX4_becomeLike_87 : decode cX4_becomeLike 87 = .ok (.invokestatic 43, 3) := by decide +kernel
theorem dX4_becomeLike_90 : decode cX4_becomeLike 90 = .ok (.aload_n 0, 1) := by decide +kernel
theorem dX4_becomeLike_91 : decode cX4_becomeLike 91 = .ok (.aload_n 1, 1) := by decide +kernel
theorem dX4_becomeLike_92 : decode cX4_becomeLike 92 = .ok (.getfield 53, 3) := by decide +kernel
theorem dX4_becomeLike_95 : decode cX4_becomeLike 95 = .ok (.putfield 53, 3) := by decide +kernel
theorem dX4_becomeLike_98 : decode cX4_becomeLike 98 = .ok (.aload_n 1, 1) := by decide +kernel
theorem dX4_becomeLike_99 : decode cX4_becomeLike 99 = .ok (.getfield 30, 3) := by decide +kernel
theorem dX4_becomeLike_102 : decode cX4_becomeLike 102 = .ok (.aload_n 0, 1) := by decide +kernel
theorem dX4_becomeLike_103 : decode cX4_becomeLike 103 = .ok (.getfield 30, 3) := by decide +kernel
theorem dX4_becomeLike_106 : decode cX4_becomeLike 106 = .ok (.invokestatic 43, 3) := by decide +kernel
theorem dX4_becomeLike_109 : decode cX4_becomeLike 109 = .ok (.aload_n 1, 1) := by decide +kernel
theorem dX4_becomeLike_110 : decode cX4_becomeLike 110 = .ok (.getfield 33, 3) := by decide +kernel
theorem dX4_becomeLike_113 : decode cX4_becomeLike 113 = .ok (.aload_n 0, 1) := by decide +kernel
theorem dX4_becomeLike_114 : decode cX4_becomeLike 114 = .ok (.getfield 33, 3) := by decide +kernel
theorem dX4_becomeLike_117 : decode cX4_becomeLike 117 = .ok (.invokestatic 43, 3) := by decide +kernel
theorem dX4_becomeLike_120 : decode cX4_becomeLike 120 = .ok (.aload_n 1, 1) := by decide +kernel
theorem dX4_becomeLike_121 : decode cX4_becomeLike 121 = .ok (.getfield 36, 3) := by decide +kernel
theorem dX4_becomeLike_124 : decode cX4_becomeLike 124 = .ok (.aload_n 0, 1) := by decide +kernel
theorem dX4_becomeLike_125 : decode cX4_becomeLike 125 = .ok (.getfield 36, 3) := by decide +kernel
theorem dX4_becomeLike_128 : decode cX4_becomeLike 128 = .ok (.invokestatic 43, 3) := by decide +kernel
theorem dX4_becomeLike_131 : decode cX4_becomeLike 131 = .ok (.return_, 1) := by decide +kernel
theorem dX4_init_0 : decode cX4_init 0 = .ok (.aload_n 0, 1) := by decide +kernel
theorem dX4_init_1 : decode cX4_init 1 = .ok (.invokespecial 3, 3) := by decide +kernel
theorem dX4_init_4 : decode cX4_init 4 = .ok (.aload_n 0, 1) := by decide +kernel
theorem dX4_init_5 : decode cX4_init 5 = .ok (.bipush 6, 2) := by decide +kernel
theorem dX4_init_7 : decode cX4_init 7 = .ok (.newarray .int, 2) := by decide +kernel
theorem dX4_init_9 : decode cX4_init 9 = .ok (.putfield 9, 3) := by decide +kernel
theorem dX4_init_12 : decode cX4_init 12 = .ok (.aload_n 0, 1) := by decide +kernel
theorem dX4_init_13 : decode cX4_init 13 = .ok (.bipush 6, 2) := by decide +kernel
theorem dX4_init_15 : decode cX4_init 15 = .ok (.newarray .int, 2) := by decide +kernel
theorem dX4_init_17 : decode cX4_init 17 = .ok (.putfield 15, 3) := by decide +kernel
theorem dX4_init_20 : decode cX4_init 20 = .ok (.aload_n 0, 1) := by decide +kernel
theorem dX4_init_21 : decode cX4_init 21 = .ok (.bipush 6, 2) := by decide +kernel
theorem dX4_init_23 : decode cX4_init 23 = .ok (.newarray .int, 2) := by decide +kernel
theorem dX4_init_25 : decode cX4_init 25 = .ok (.putfield 18, 3) := by decide +kernel
theorem dX4_init_28 : decode cX4_init 28 = .ok (.aload_n 0, 1) := by decide +kernel
theorem dX4_init_29 : decode cX4_init 29 = .ok (.bipush 9, 2) := by decide +kernel
theorem dX4_init_31 : decode cX4_init 31 = .ok (.newarray .int, 2) := by decide +kernel
theorem dX4_init_33 : decode cX4_init 33 = .ok (.putfield 21, 3) := by decide +kernel
theorem dX4_init_36 : decode cX4_init 36 = .ok (.aload_n 0, 1) := by decide +kernel
theorem dX4_init_37 : decode cX4_init 37 = .ok (.bipush 9, 2) := by decide +kernel
theorem dX4_init_39 : decode cX4_init 39 = .ok (.newarray .int, 2) := by decide +kernel
theorem dX4_init_41 : decode cX4_init 41 = .ok (.putfield 24, 3) := by decide +kernel
theorem dX4_init_44 : decode cX4_init 44 = .ok (.aload_n 0, 1) := by decide +kernel
theorem dX4_init_45 : decode cX4_init 45 = .ok (.bipush 9, 2) := by decide +kernel
theorem dX4_init_47 : decode cX4_init 47 = .ok (.newarray .int, 2) := by decide +kernel
theorem dX4_init_49 : decode cX4_init 49 = .ok (.putfield 27, 3) := by decide +kernel
theorem dX4_init_52 : decode cX4_init 52 = .ok (.aload_n 0, 1) := by decide +kernel
theorem dX4_init_53 : decode cX4_init 53 = .ok (.bipush 12, 2) := by decide +kernel
theorem dX4_init_55 : decode cX4_init 55 = .ok (.newarray .int, 2) := by decide +kernel
theorem dX4_init_57 : decode cX4_init 57 = .ok (.putfield 30, 3) := by decide +kernel
theorem dX4_init_60 : decode cX4_init 60 = .ok (.aload_n 0, 1) := by decide +kernel
theorem dX4_init_61 : decode cX4_init 61 = .ok (.bipush 12, 2) := by decide +kernel
theorem dX4_init_63 : decode cX4_init 63 = .ok (.newarray .int, 2) := by decide +kernel
theorem dX4_init_65 : decode cX4_init 65 = .ok (.putfield 33, 3) := by decide +kernel
theorem dX4_init_68 : decode cX4_init 68 = .ok (.aload_n 0, 1) := by decide +kernel
theorem dX4_init_69 : decode cX4_init 69 = .ok (.bipush 12, 2) := by decide +kernel
theorem dX4_init_71 : decode cX4_init 71 = .ok (.newarray .int, 2) := by decide +kernel
theorem dX4_init_73 : decode cX4_init 73 = .ok (.putfield 36, 3) := by decide +kernel
theorem dX4_init_76 : decode cX4_init 76 = .ok (.return_, 1) := by decide +kernel
theorem dX5_becomeLike_0 : decode cX5_becomeLike 0 = .ok (.aload_n 0, 1) := by decide +kernel
theorem dX5_becomeLike_1 : decode cX5_becomeLike 1 = .ok (.aload_n 1, 1) := by decide +kernel
theorem dX5_becomeLike_2 : decode cX5_becomeLike 2 = .ok (.getfield 54, 3) := by decide +kernel
theorem dX5_becomeLike_5 : decode cX5_becomeLike 5 = .ok (.putfield 54, 3) := by decide +kernel
theorem dX5_becomeLike_8 : decode cX5_becomeLike 8 = .ok (.aload_n 1, 1) := by decide +kernel
theorem dX5_becomeLike_9 : decode cX5_becomeLike 9 = .ok (.getfield 9, 3) := by decide +kernel
theorem dX5_becomeLike_12 : decode cX5_becomeLike 12 = .ok (.aload_n 0, 1) := by decide +kernel
theorem dX5_becomeLike_13 : decode cX5_becomeLike 13 = .ok (.getfield 9, 3) := by decide +kernel
theorem dX5_becomeLike_16 : decode cX5_becomeLike 16 = .ok (.invokestatic 79, 3) := by decide +kernel
theorem dX5_becomeLike_19 : decode cX5_becomeLike 19 = .ok (.aload_n 1, 1) := by decide +kernel
theorem dX5_becomeLike_20 : decode cX5_becomeLike 20 = .ok (.getfield 15, 3) := by decide +kernel
theorem dX5_becomeLike_23 : decode cX5_becomeLike 23 = .ok (.aload_n 0, 1) := by decide +kernel
theorem dX5_becomeLike_24 : decode cX5_becomeLike 24 = .ok (.getfield 15, 3) := by decide +kernel
theorem dX5_becomeLike_27 : decode cX5_becomeLike 27 = .ok (.invokestatic 79, 3) := by decide +kernel
theorem dX5_becomeLike_30 : decode cX5_becomeLike 30 = .ok (.aload_n 1, 1) := by decide +kernel
theorem dX5_becomeLike_31 : decode cX5_becomeLike 31 = .ok (.getfield 18, 3) := by decide +kernel
theorem dX5_becomeLike_34 : decode cX5_becomeLike 34 = .ok (.aload_n 0, 1) := by decide +kernel
theorem dX5_becomeLike_35 : decode cX5_becomeLike 35 = .ok (.getfield 18, 3) := by decide +kernel
theorem dX5_becomeLike_38 : decode cX5_becomeLike 38 = .ok (.invokestatic 79, 3) := by decide +kernel
theorem dX5_becomeLike_41 : decode cX5_becomeLike 41 = .ok (.aload_n 1, 1) := by decide +kernel
theorem dX5_becomeLike_42 : decode cX5_becomeLike 42 = .ok (.getfield 21, 3) := by decide +kernel
theorem dX5_becomeLike_45 : decode cX5_becomeLike 45 = .ok (.aload_n 0, 1) := by decide +kernel
theorem dX5_becomeLike_46 : decode cX5_becomeLike 46 = .ok (.getfield 21, 3) := by decide +kernel
theorem dX5_becomeLike_49 : decode cX5_becomeLike 49 = .ok (.invokestatic 79, 3) := by decide +kernel
theorem dX5_becomeLike_52 : decode cX5_becomeLike 52 = .ok (.aload_n 1, 1) := by decide +kernel
theorem dX5_becomeLike_53 : decode cX5_becomeLike 53 = .ok (.getfield 24, 3) := by decide +kernel
theorem dX5_becomeLike_56 : decode cX5_becomeLike 56 = .ok (.aload_n 0, 1) := by decide +kernel
theorem dX5_becomeLike_57 : decode cX5_becomeLike 57 = .ok (.getfield 24, 3) := by decide +kernel
theorem dX5_becomeLike_60 : decode cX5_becomeLike 60 = .ok (.invokestatic 79, 3) := by decide +kernel
theorem dX5_becomeLike_63 : decode cX5_becomeLike 63 = .ok (.aload_n 1, 1) := by decide +kernel
theorem dX5_becomeLike_64 : decode cX5_becomeLike 64 = .ok (.getfield 27, 3) := by decide +kernel
theorem dX5_becomeLike_67 : decode cX5_becomeLike 67 = .ok (.aload_n 0, 1) := by decide +kernel
theorem dX5_becomeLike_68 : decode cX5_becomeLike 68 = .ok (.getfield 27, 3) := by decide +kernel
theorem dX5_becomeLike_71 : decode cX5_becomeLike 71 = .ok (.invokestatic 79, 3) := by decide +kernel
theorem dX5_becomeLike_74 : decode cX5_becomeLike 74 = .ok (.aload_n 1, 1) := by decide +kernel
theorem dX5_becomeLike_75 : decode cX5_becomeLike 75 = .ok (.getfield 30, 3) := by decide +kernel
theorem dX5_becomeLike_78 : decode cX5_becomeLike 78 = .ok (.aload_n 0, 1) := by decide +kernel
theorem dX5_becomeLike_79 : decode cX5_becomeLike 79 = .ok (.getfield 30, 3) := by decide +kernel
theorem dX5_becomeLike_82 : decode cX5_becomeLike 82 = .ok (.invokestatic 79, 3) := by decide +kernel
theorem dX5_becomeLike_85 : decode cX5_becomeLike 85 = .ok (.aload_n 1, 1) := by decide +kernel
theorem dX5_becomeLike_86 : decode cX5_becomeLike 86 = .ok (.getfield 33, 3) := by decide +kernel
theorem dX5_becomeLike_89 : decode cX5_becomeLike 89 = .ok (.aload_n 0, 1) := by decide +kernel
theorem dX5_becomeLike_90 : decode cX5_becomeLike 90 = .ok (.getfield 33, 3) := by decide +kernel
theorem dX5_becomeLike_93 : decode cX5_becomeLike 93 = .ok (.invokestatic 79, 3) := by decide +kernel
theorem dX5_becomeLike_96 : decode cX5_becomeLike 96 = .ok (.aload_n 1, 1) := by decide +kernel
theorem dX5_becomeLike_97 : decode cX5_becomeLike 97 = .ok (.getfield 36, 3) := by decide +kernel
theorem dX5_becomeLike_100 : decode cX5_becomeLike 100 = .ok (.aload_n 0, 1) := by decide +kernel
theorem dX5_becomeLike_101 : decode cX5_becomeLike 101 = .ok (.getfield 36, 3) := by decide +kernel
theorem dX5_becomeLike_104 : decode cX5_becomeLike 104 = .ok (.invokestatic 79, 3) := by decide +kernel
theorem dX5_becomeLike_107 : decode cX5_becomeLike 107 = .ok (.aload_n 1, 1) := by decide +kernel
theorem dX5_becomeLike_108 : decode cX5_becomeLike 108 = .ok (.getfield 39, 3) := by decide +kernel
theorem dX5_becomeLike_111 : decode cX5_becomeLike 111 = .ok (.aload_n 0, 1) := by decide +kernel
theorem dX5_becomeLike_112 : decode cX5_becomeLike 112 = .ok (.getfield 39, 3) := by decide +kernel
theorem dX5_becomeLike_115 : decode cX5_becomeLike 115 = .ok (.invokestatic 79, 3) := by decide +kernel
theorem dX5_becomeLike_118 : decode cX5_becomeLike 118 = .ok (.aload_n 1, 1) := by decide +kernel
theorem dX5_becomeLike_119 : decode cX5_becomeLike 119 = .ok (.getfield 42, 3) := by decide +kernel
theorem dX5_becomeLike_122 : decode cX5_becomeLike 122 = .ok (.aload_n 0, 1) := by decide +kernel
theorem dX5_becomeLike_123 : decode cX5_becomeLike 123 = .ok (.getfield 42, 3) := by decide +kernel
theorem dX5_becomeLike_126 : decode cX5_becomeLike 126 = .ok (.invokestatic 79, 3) := by decide +kernel
theorem dX5_becomeLike_129 : decode cX5_becomeLike 129 = .ok (.aload_n 1, 1) := by decide +kernel
theorem dX5_becomeLike_130 : decode cX5_becomeLike 130 = .ok (.getfield 45, 3) := by decide +kernel
theorem dX5_becomeLike_133 : decode cX5_becomeLike 133 = .ok (.aload_n 0, 1) := by decide +kernel
theorem dX5_becomeLike_134 : decode cX5_becomeLike 134 = .ok (.getfield 45, 3) := by decide +kernel
theorem dX5_becomeLike_137 : decode cX5_becomeLike 137 = .ok (.invokestatic 79, 3) := by decide +kernel
theorem dX5_becomeLike_140 : decode cX5_becomeLike 140 = .ok (.return_, 1) := by decide +kernel
theorem dX5_findAltered_0 : decode cX5_findAltered 0 = .ok (.aload_n 0, 1) := by decide +kernel
theorem dX5_findAltered_1 : decode cX5_findAltered 1 = .ok (.getfield 39, 3) := by decide +kernel
theorem dX5_findAltered_4 : decode cX5_findAltered 4 = .ok (.iload_n 1, 1) := by decide +kernel
theorem dX5_findAltered_5 : decode cX5_findAltered 5 = .ok (.iaload, 1) := by decide +kernel
theorem dX5_findAltered_6 : decode cX5_findAltered 6 = .ok (.iconst (-1), 1) := by decide +kernel
theorem dX5_findAltered_7 : decode cX5_findAltered 7 = .ok (.if_icmp .ne 6, 3) := by decide +kernel
theorem dX5_findAltered_10 : decode cX5_findAltered 10 = .ok (.bipush (-3), 2) := by decide +kernel
theorem dX5_findAltered_12 : decode cX5_findAltered 12 = .ok (.ireturn, 1) := by decide +kernel
theorem dX5_init_0 : decode cX5_init 0 = .ok (.aload_n 0, 1) := by decide +kernel
theorem dX5_init_1 : decode cX5_init 1 = .ok (.invokespecial 3, 3) := by decide +kernel
theorem dX5_init_4 : decode cX5_init 4 = .ok (.aload_n 0, 1) := by decide +kernel
theorem dX5_init_5 : decode cX5_init 5 = .ok (.sipush 400, 3) := by decide +kernel
theorem dX5_init_8 : decode cX5_init 8 = .ok (.newarray .int, 2) := by decide +kernel
theorem dX5_init_10 : decode cX5_init 10 = .ok (.putfield 9, 3) := by decide +kernel
theorem dX5_init_13 : decode cX5_init 13 = .ok (.aload_n 0, 1) := by decide +kernel
theorem dX5_init_14 : decode cX5_init 14 = .ok (.sipush 400, 3) := by decide +kernel
theorem dX5_init_17 : decode cX5_init 17 = .ok (.newarray .int, 2) := by decide +kernel
theorem dX5_init_19 : decode cX5_init 19 = .ok (.putfield 15, 3) := by decide +kernel
theorem dX5_init_22 : decode cX5_init 22 = .ok (.aload_n 0, 1) := by decide +kernel
theorem dX5_init_23 : decode cX5_init 23 = .ok (.sipush 400, 3) := by decide +kernel
theorem dX5_init_26 : decode cX5_init 26 = .ok (.newarray .int, 2) := by decide +kernel
theorem dX5_init_28 : decode cX5_init 28 = .ok (.putfield 18, 3) := by decide +kernel
theorem dX5_init_31 : decode cX5_init 31 = .ok (.aload_n 0, 1) := by decide +kernel
theorem dX5_init_32 : decode cX5_init 32 = .ok (.sipush 400, 3) := by decide +kernel
theorem dX5_init_35 : decode cX5_init 35 = .ok (.newarray .int, 2) := by decide +kernel
theorem dX5_init_37 : decode cX5_init 37 = .ok (.putfield 21, 3) := by decide +kernel
theorem dX5_init_40 : decode cX5_init 40 = .ok (.aload_n 0, 1) := by decide +kernel
theorem dX5_init_41 : decode cX5_init 41 = .ok (.sipush 400, 3) := by decide +kernel
theorem dX5_init_44 : decode cX5_init 44 = .ok (.newarray .int, 2) := by decide +kernel
theorem dX5_init_46 : decode cX5_init 46 = .ok (.putfield 24, 3) := by decide +kernel
theorem dX5_init_49 : decode cX5_init 49 = .ok (.aload_n 0, 1) := by decide +kernel
theorem dX5_init_50 : decode cX5_init 50 = .ok (.sipush 400, 3) := by decide +kernel
theorem dX5_init_53 : decode cX5_init 53 = .ok (.newarray .int, 2) := by decide +kernel
theorem dX5_init_55 : decode cX5_init 55 = .ok (.putfield 27, 3) := by decide +kernel
theorem dX5_init_58 : decode cX5_init 58 = .ok (.aload_n 0, 1) := by decide +kernel
theorem dX5_init_59 : decode cX5_init 59 = .ok (.sipush 400, 3) := by decide +kernel
theorem dX5_init_62 : decode cX5_init 62 = .ok (.newarray .int, 2) := by decide +kernel
theorem dX5_init_64 : decode cX5_init 64 = .ok (.putfield 30, 3) := by decide +kernel
theorem dX5_init_67 : decode cX5_init 67 = .ok (.aload_n 0, 1) := by decide +kernel
theorem dX5_init_68 : decode cX5_init 68 = .ok (.sipush 400, 3) := by decide +kernel
theorem dX5_init_71 : decode cX5_init 71 = .ok (.newarray .int, 2) := by decide +kernel
theorem dX5_init_73 : decode cX5_init 73 = .ok (.putfield 33, 3) := by decide +kernel
theorem dX5_init_76 : decode cX5_init 76 = .ok (.aload_n 0, 1) := by decide +kernel
theorem dX5_init_77 : decode cX5_init 77 = .ok (.sipush 400, 3) := by decide +kernel
theorem dX5_init_80 : decode cX5_init 80 = .ok (.newarray .int, 2) := by decide +kernel
theorem dX5_init_82 : decode cX5_init 82 = .ok (.putfield 36, 3) := by decide +kernel
theorem dX5_init_85 : decode cX5_init 85 = .ok (.aload_n 0, 1) := by decide +kernel
theorem dX5_init_86 : decode cX5_init 86 = .ok (.sipush 400, 3) := by decide +kernel
theorem dX5_init_89 : decode cX5_init 89 = .ok (.newarray .int, 2) := by decide +kernel
theorem dX5_init_91 : decode cX5_init 91 = .ok (.putfield 39, 3) := by decide +kernel
theorem dX5_init_94 : decode cX5_init 94 = .ok (.aload_n 0, 1) := by decide +kernel
theorem dX5_init_95 : decode cX5_init 95 = .ok (.sipush 400, 3) := by decide +kernel
theorem dX5_init_98 : decode cX5_init 98 = .ok (.newarray .int, 2) := by decide +kernel
theorem dX5_init_100 : decode cX5_init 100 = .ok (.putfield 42, 3) := by decide +kernel
theorem dX5_init_103 : decode cX5_init 103 = .ok (.aload_n 0, 1) := by decide +kernel
theorem dX5_init_104 : decode cX5_init 104 = .ok (.sipush 400, 3) := by decide +kernel
theorem dX5_init_107 : decode cX5_init 107 = .ok (.newarray .int, 2) := by decide +kernel
theorem dX5_init_109 : decode cX5_init 109 = .ok (.putfield 45, 3) := by decide +kernel
theorem dX5_init_112 : decode cX5_init 112 = .ok (.aload_n 0, 1) := by decide +kernel
theorem dX5_init_113 : decode cX5_init 113 = .ok (.getfield 39, 3) := by decide +kernel
theorem dX5_init_116 : decode cX5_init 116 = .ok (.iconst (-1), 1) := by decide +kernel
theorem dX5_init_117 : decode cX5_init 117 = .ok (.invokestatic 48, 3) := by decide +kernel
theorem dX5_init_120 : decode cX5_init 120 = .ok (.return_, 1) := by decide +kernel
theorem dX5_isNoMark_0 : decode cX5_isNoMark 0 = .ok (.iload_n 1, 1) := by decide +kernel
theorem dX5_isNoMark_1 : decode cX5_isNoMark 1 = .ok (.ifCond .lt 11, 3) := by decide +kernel
theorem dX5_isNoMark_4 : decode cX5_isNoMark 4 = .ok (.iload_n 1, 1) := by decide +kernel
theorem dX5_isNoMark_5 : decode cX5_isNoMark 5 = .ok (.aload_n 0, 1) := by decide +kernel
theorem dX5_isNoMark_6 : decode cX5_isNoMark 6 = .ok (.getfield 54, 3) := by decide +kernel
theorem dX5_isNoMark_9 : decode cX5_isNoMark 9 = .ok (.if_icmp .lt 7, 3) := by decide +kernel
theorem dX5_isNoMark_12 : decode cX5_isNoMark 12 = .ok (.iconst 1, 1) := by decide +kernel
theorem dX5_isNoMark_13 : decode cX5_isNoMark 13 = .ok (.goto 4, 3) := by decide +kernel
theorem dX5_isNoMark_17 : decode cX5_isNoMark 17 = .ok (.ireturn, 1) := by decide +kernel
theorem dX5_sealDay_0 : decode cX5_sealDay 0 = .ok (.aload_n 0, 1) := by decide +kernel
theorem dX5_sealDay_1 : decode cX5_sealDay 1 = .ok (.getfield 39, 3) := by decide +kernel
theorem dX5_sealDay_4 : decode cX5_sealDay 4 = .ok (.iload_n 1, 1) := by decide +kernel
theorem dX5_sealDay_5 : decode cX5_sealDay 5 = .ok (.aload_n 0, 1) := by decide +kernel
theorem dX5_sealDay_6 : decode cX5_sealDay 6 = .ok (.iload_n 1, 1) := by decide +kernel
theorem dX5_sealDay_7 : decode cX5_sealDay 7 = .ok (.invokevirtual 66, 3) := by decide +kernel
theorem dX5_sealDay_10 : decode cX5_sealDay 10 = .ok (.iastore, 1) := by decide +kernel
theorem dX5_sealDay_11 : decode cX5_sealDay 11 = .ok (.aload_n 0, 1) := by decide +kernel
theorem dX5_sealDay_12 : decode cX5_sealDay 12 = .ok (.getfield 42, 3) := by decide +kernel
theorem dX5_sealDay_15 : decode cX5_sealDay 15 = .ok (.iload_n 1, 1) := by decide +kernel
theorem dX5_sealDay_16 : decode cX5_sealDay 16 = .ok (.aload_n 0, 1) := by decide +kernel
theorem dX5_sealDay_17 : decode cX5_sealDay 17 = .ok (.getfield 69, 3) := by decide +kernel
theorem dX5_sealDay_20 : decode cX5_sealDay 20 = .ok (.iastore, 1) := by decide +kernel
theorem dX5_sealDay_21 : decode cX5_sealDay 21 = .ok (.aload_n 0, 1) := by decide +kernel
theorem dX5_sealDay_22 : decode cX5_sealDay 22 = .ok (.getfield 45, 3) := by decide +kernel
theorem dX5_sealDay_25 : decode cX5_sealDay 25 = .ok (.iload_n 1, 1) := by decide +kernel
theorem dX5_sealDay_26 : decode cX5_sealDay 26 = .ok (.aload_n 0, 1) := by decide +kernel
theorem dX5_sealDay_27 : decode cX5_sealDay 27 = .ok (.getfield 72, 3) := by decide +kernel
theorem dX5_sealDay_30 : decode cX5_sealDay 30 = .ok (.iastore, 1) := by decide +kernel
theorem dX5_sealDay_31 : decode cX5_sealDay 31 = .ok (.aload_n 0, 1) := by decide +kernel
theorem dX5_sealDay_32 : decode cX5_sealDay 32 = .ok (.getfield 39, 3) := by decide +kernel
theorem dX5_sealDay_35 : decode cX5_sealDay 35 = .ok (.iload_n 1, 1) := by decide +kernel
theorem dX5_sealDay_36 : decode cX5_sealDay 36 = .ok (.iaload, 1) := by decide +kernel
theorem dX5_sealDay_37 : decode cX5_sealDay 37 = .ok (.ireturn, 1) := by decide +kernel
theorem dX5_sumDay_0 : decode cX5_sumDay 0 = .ok (.iconst 0, 1) := by decide +kernel
theorem dX5_sumDay_1 : decode cX5_sumDay 1 = .ok (.istore_n 2, 1) := by decide +kernel
theorem dX5_sumDay_2 : decode cX5_sumDay 2 = .ok (.aload_n 0, 1) := by decide +kernel
theorem dX5_sumDay_3 : decode cX5_sumDay 3 = .ok (.iconst 0, 1) := by decide +kernel
theorem dX5_sumDay_4 : decode cX5_sumDay 4 = .ok (.putfield 69, 3) := by decide +kernel
theorem dX5_sumDay_7 : decode cX5_sumDay 7 = .ok (.aload_n 0, 1) := by decide +kernel
theorem dX5_sumDay_8 : decode cX5_sumDay 8 = .ok (.iconst 0, 1) := by decide +kernel
theorem dX5_sumDay_9 : decode cX5_sumDay 9 = .ok (.putfield 72, 3) := by decide +kernel
theorem dX5_sumDay_12 : decode cX5_sumDay 12 = .ok (.iconst 0, 1) := by decide +kernel
theorem dX5_sumDay_13 : decode cX5_sumDay 13 = .ok (.istore_n 3, 1) := by decide +kernel
theorem dX5_sumDay_14 : decode cX5_sumDay 14 = .ok (.iload_n 3, 1) := by decide +kernel
theorem dX5_sumDay_15 : decode cX5_sumDay 15 = .ok (.aload_n 0, 1) := by decide +kernel
theorem dX5_sumDay_16 : decode cX5_sumDay 16 = .ok (.getfield 54, 3) := by decide +kernel
theorem dX5_sumDay_19 : decode cX5_sumDay 19 = .ok (.if_icmp .ge 54, 3) := by decide +kernel
theorem dX5_sumDay_73 : decode cX5_sumDay 73 = .ok (.iload_n 2, 1) := by decide +kernel
theorem dX5_sumDay_74 : decode cX5_sumDay 74 = .ok (.ireturn, 1) := by decide +kernel
theorem dX6_addBus_0 : decode cX6_addBus 0 = .ok (.aload_n 0, 1) := by decide +kernel
theorem dX6_addBus_1 : decode cX6_addBus 1 = .ok (.getfield 30, 3) := by decide +kernel
theorem dX6_addBus_4 : decode cX6_addBus 4 = .ok (.aload_n 0, 1) := by decide +kernel
theorem dX6_addBus_5 : decode cX6_addBus 5 = .ok (.getfield 55, 3) := by decide +kernel
theorem dX6_addBus_8 : decode cX6_addBus 8 = .ok (.iload_n 1, 1) := by decide +kernel
theorem dX6_addBus_9 : decode cX6_addBus 9 = .ok (.iastore, 1) := by decide +kernel
theorem dX6_addBus_10 : decode cX6_addBus 10 = .ok (.aload_n 0, 1) := by decide +kernel
theorem dX6_addBus_11 : decode cX6_addBus 11 = .ok (.getfield 33, 3) := by decide +kernel
theorem dX6_addBus_14 : decode cX6_addBus 14 = .ok (.aload_n 0, 1) := by decide +kernel
theorem dX6_addBus_15 : decode cX6_addBus 15 = .ok (.getfield 55, 3) := by decide +kernel
theorem dX6_addBus_18 : decode cX6_addBus 18 = .ok (.iload_n 2, 1) := by decide +kernel
theorem dX6_addBus_19 : decode cX6_addBus 19 = .ok (.iastore, 1) := by decide +kernel
theorem dX6_addBus_20 : decode cX6_addBus 20 = .ok (.aload_n 0, 1) := by decide +kernel
theorem dX6_addBus_21 : decode cX6_addBus 21 = .ok (.dup, 1) := by decide +kernel
theorem dX6_addBus_22 : decode cX6_addBus 22 = .ok (.getfield 55, 3) := by decide +kernel
theorem dX6_addBus_25 : decode cX6_addBus 25 = .ok (.iconst 1, 1) := by decide +kernel
theorem dX6_addBus_26 : decode cX6_addBus 26 = .ok (.iadd, 1) := by decide +kernel
theorem dX6_addBus_27 : decode cX6_addBus 27 = .ok (.putfield 55, 3) := by decide +kernel
theorem dX6_addBus_30 : decode cX6_addBus 30 = .ok (.aload_n 0, 1) := by decide +kernel
theorem dX6_addBus_31 : decode cX6_addBus 31 = .ok (.getfield 55, 3) := by decide +kernel
theorem dX6_addBus_34 : decode cX6_addBus 34 = .ok (.ireturn, 1) := by decide +kernel
theorem dX6_addChild_0 : decode cX6_addChild 0 = .ok (.aload_n 0, 1) := by decide +kernel
theorem dX6_addChild_1 : decode cX6_addChild 1 = .ok (.getfield 9, 3) := by decide +kernel
theorem dX6_addChild_4 : decode cX6_addChild 4 = .ok (.aload_n 0, 1) := by decide +kernel
theorem dX6_addChild_5 : decode cX6_addChild 5 = .ok (.getfield 48, 3) := by decide +kernel
theorem dX6_addChild_8 : decode cX6_addChild 8 = .ok (.iload_n 1, 1) := by decide +kernel
theorem dX6_addChild_9 : decode cX6_addChild 9 = .ok (.iastore, 1) := by decide +kernel
theorem dX6_addChild_10 : decode cX6_addChild 10 = .ok (.aload_n 0, 1) := by decide +kernel
theorem dX6_addChild_11 : decode cX6_addChild 11 = .ok (.getfield 15, 3) := by decide +kernel
theorem dX6_addChild_14 : decode cX6_addChild 14 = .ok (.aload_n 0, 1) := by decide +kernel
theorem dX6_addChild_15 : decode cX6_addChild 15 = .ok (.getfield 48, 3) := by decide +kernel
theorem dX6_addChild_18 : decode cX6_addChild 18 = .ok (.iload_n 2, 1) := by decide +kernel
theorem dX6_addChild_19 : decode cX6_addChild 19 = .ok (.ifCond .eq 7, 3) := by decide +kernel
theorem dX6_addChild_22 : decode cX6_addChild 22 = .ok (.iconst 1, 1) := by decide +kernel
theorem dX6_addChild_23 : decode cX6_addChild 23 = .ok (.goto 4, 3) := by decide +kernel
theorem dX6_addChild_26 : decode cX6_addChild 26 = .ok (.iconst 0, 1) := by decide +kernel
theorem dX6_addChild_27 : decode cX6_addChild 27 = .ok (.iastore, 1) := by decide +kernel
theorem dX6_addChild_28 : decode cX6_addChild 28 = .ok (.aload_n 0, 1) := by decide +kernel
theorem dX6_addChild_29 : decode cX6_addChild 29 = .ok (.getfield 18, 3) := by decide +kernel
theorem dX6_addChild_32 : decode cX6_addChild 32 = .ok (.aload_n 0, 1) := by decide +kernel
theorem dX6_addChild_33 : decode cX6_addChild 33 = .ok (.getfield 48, 3) := by decide +kernel
theorem dX6_addChild_36 : decode cX6_addChild 36 = .ok (.iload_n 3, 1) := by decide +kernel
theorem dX6_addChild_37 : decode cX6_addChild 37 = .ok (.iastore, 1) := by decide +kernel
theorem dX6_addChild_38 : decode cX6_addChild 38 = .ok (.aload_n 0, 1) := by decide +kernel
theorem dX6_addChild_39 : decode cX6_addChild 39 = .ok (.getfield 21, 3) := by decide +kernel
theorem dX6_addChild_42 : decode cX6_addChild 42 = .ok (.aload_n 0, 1) := by decide +kernel
theorem dX6_addChild_43 : decode cX6_addChild 43 = .ok (.getfield 48, 3) := by decide +kernel
theorem dX6_addChild_46 : decode cX6_addChild 46 = .ok (.iload 4, 2) := by decide +kernel
theorem dX6_addChild_48 : decode cX6_addChild 48 = .ok (.iastore, 1) := by decide +kernel
theorem dX6_addChild_49 : decode cX6_addChild 49 = .ok (.aload_n 0, 1) := by decide +kernel
theorem dX6_addChild_50 : decode cX6_addChild 50 = .ok (.getfield 24, 3) := by decide +kernel
theorem dX6_addChild_53 : decode cX6_addChild 53 = .ok (.aload_n 0, 1) := by decide +kernel
theorem dX6_addChild_54 : decode cX6_addChild 54 = .ok (.getfield 48, 3) := by decide +kernel
theorem dX6_addChild_57 : decode cX6_addChild 57 = .ok (.iload 5, 2) := by decide +kernel
theorem dX6_addChild_59 : decode cX6_addChild 59 = .ok (.iastore, 1) := by decide +kernel
theorem dX6_addChild_60 : decode cX6_addChild 60 = .ok (.aload_n 0, 1) := by decide +kernel
theorem dX6_addChild_61 : decode cX6_addChild 61 = .ok (.dup, 1) := by decide +kernel
theorem dX6_addChild_62 : decode cX6_addChild 62 = .ok (.getfield 48, 3) := by decide +kernel
theorem dX6_addChild_65 : decode cX6_addChild 65 = .ok (.iconst 1, 1) := by decide +kernel
theorem dX6_addChild_66 : decode cX6_addChild 66 = .ok (.iadd, 1) := by decide +kernel
theorem dX6_addChild_67 : decode cX6_addChild 67 = .ok (.putfield 48, 3) := by decide +kernel
theorem dX6_addChild_70 : decode cX6_addChild 70 = .ok (.aload_n 0, 1) := by decide +kernel
theorem dX6_addChild_71 : decode cX6_addChild 71 = .ok (.getfield 48, 3) := by decide +kernel
theorem dX6_addChild_74 : decode cX6_addChild 74 = .ok (.iconst 1, 1) := by decide +kernel
theorem dX6_addChild_75 : decode cX6_addChild 75 = .ok (.isub, 1) := by decide +kernel
theorem dX6_addChild_76 : decode cX6_addChild 76 = .ok (.ireturn, 1) := by decide +kernel
theorem dX6_becomeLike_0 : decode cX6_becomeLike 0 = .ok (.aload_n 0, 1) := by decide +kernel
theorem dX6_becomeLike_1 : decode cX6_becomeLike 1 = .ok (.aload_n 1, 1) := by decide +kernel
theorem dX6_becomeLike_2 : decode cX6_becomeLike 2 = .ok (.getfield 48, 3) := by decide +kernel
theorem dX6_becomeLike_5 : decode cX6_becomeLike 5 = .ok (.putfield 48, 3) := by decide +kernel
theorem dX6_becomeLike_8 : decode cX6_becomeLike 8 = .ok (.aload_n 1, 1) := by decide +kernel
theorem dX6_becomeLike_9 : decode cX6_becomeLike 9 = .ok (.getfield 9, 3) := by decide +kernel
theorem dX6_becomeLike_12 : decode cX6_becomeLike 12 = .ok (.aload_n 0, 1) := by decide +kernel
theorem dX6_becomeLike_13 : decode cX6_becomeLike 13 = .ok (.getfield 9, 3) := by decide +kernel
theorem dX6_becomeLike_16 : decode cX6_becomeLike 16 = .ok (.invokestatic 58, 3) := by decide +kernel
theorem dX6_becomeLike_19 : decode cX6_becomeLike 19 = .ok (.aload_n 1, 1) := by decide +kernel
theorem dX6_becomeLike_20 : decode cX6_becomeLike 20 = .ok (.getfield 15, 3) := by decide +kernel
theorem dX6_becomeLike_23 : decode cX6_becomeLike 23 = .ok (.aload_n 0, 1) := by decide +kernel
theorem dX6_becomeLike_24 : decode cX6_becomeLike 24 = .ok (.getfield 15, 3) := by decide +kernel
theorem dX6_becomeLike_27 : decode cX6_becomeLike 27 = .ok (.invokestatic 58, 3) := by decide +kernel
theorem dX6_becomeLike_30 : decode cX6_becomeLike 30 = .ok (.aload_n 1, 1) := by decide +kernel
theorem dX6_becomeLike_31 : decode cX6_becomeLike 31 = .ok (.getfield 18, 3) := by decide +kernel
theorem dX6_becomeLike_34 : decode cX6_becomeLike 34 = .ok (.aload_n 0, 1) := by decide +kernel
theorem dX6_becomeLike_35 : decode cX6_becomeLike 35 = .ok (.getfield 18, 3) := by decide +kernel
theorem dX6_becomeLike_38 : decode cX6_becomeLike 38 = .ok (.invokestatic 58, 3) := by decide +kernel
theorem dX6_becomeLike_41 : decode cX6_becomeLike 41 = .ok (.aload_n 1, 1) := by decide +kernel
theorem dX6_becomeLike_42 : decode cX6_becomeLike 42 = .ok (.getfield 21, 3) := by decide +kernel
theorem dX6_becomeLike_45 : decode cX6_becomeLike 45 = .ok (.aload_n 0, 1) := by decide +kernel
theorem dX6_becomeLike_46 : decode cX6_becomeLike 46 = .ok (.getfield 21, 3) := by decide +kernel
theorem dX6_becomeLike_49 : decode cX6_becomeLike 49 = .ok (.invokestatic 58, 3) := by decide +kernel
theorem dX6_becomeLike_52 : decode cX6_becomeLike 52 = .ok (.aload_n 1, 1) := by decide +kernel
theorem dX6_becomeLike_53 : decode cX6_becomeLike 53 = .ok (.getfield 24, 3) := by decide +kernel
theorem dX6_becomeLike_56 : decode cX6_becomeLike 56 = .ok (.aload_n 0, 1) := by decide +kernel
theorem dX6_becomeLike_57 : decode cX6_becomeLike 57 = .ok (.getfield 24, 3) := by decide +kernel
theorem dX6_becomeLike_60 : decode cX6_becomeLike 60 = .ok (.invokestatic 58, 3) := by decide +kernel
theorem dX6_becomeLike_63 : decode cX6_becomeLike 63 = .ok (.aload_n 0, 1) := by decide +kernel
theorem dX6_becomeLike_64 : decode cX6_becomeLike 64 = .ok (.aload_n 1, 1) := by decide +kernel
theorem dX6_becomeLike_65 : decode cX6_becomeLike 65 = .ok (.getfield 52, 3) := by decide +kernel
theorem dX6_becomeLike_68 : decode cX6_becomeLike 68 = .ok (.putfield 52, 3) := by decide +kernel
theorem dX6_becomeLike_71 : decode cX6_becomeLike 71 = .ok (.aload_n 1, 1) := by decide +kernel
theorem dX6_becomeLike_72 : decode cX6_becomeLike 72 = .ok (.getfield 27, 3) := by decide +kernel
theorem dX6_becomeLike_75 : decode cX6_becomeLike 75 = .ok (.aload_n 0, 1) := by decide +kernel
theorem dX6_becomeLike_76 : decode cX6_becomeLike 76 = .ok (.getfield 27, 3) := by decide +kernel
theorem dX6_becomeLike_79 : decode cX6_becomeLike 79 = .ok (.invokestatic 58, 3) := by decide +kernel
theorem dX6_becomeLike_82 : decode cX6_becomeLike 82 = .ok (.aload_n 0, 1) := by decide +kernel
theorem dX6_becomeLike_83 : decode cX6_becomeLike 83 = .ok (.aload_n 1, 1) := by decide +kernel
theorem dX6_becomeLike_84 : decode cX6_becomeLike 84 = .ok (.getfield 55, 3) := by decide +kernel
theorem dX6_becomeLike_87 : decode cX6_becomeLike 87 = .ok (.putfield 55, 3) := by decide +kernel
theorem dX6_becomeLike_90 : decode cX6_becomeLike 90 = .ok (.aload_n 1, 1) := by decide +kernel
theorem dX6_becomeLike_91 : decode cX6_becomeLike 91 = .ok (.getfield 30, 3) := by decide +kernel
theorem dX6_becomeLike_94 : decode cX6_becomeLike 94 = .ok (.aload_n 0, 1) := by decide +kernel
theorem dX6_becomeLike_95 : decode cX6_becomeLike 95 = .ok (.getfield 30, 3) := by decide +kernel
theorem dX6_becomeLike_98 : decode cX6_becomeLike 98 = .ok (.invokestatic 58, 3) := by decide +kernel
theorem dX6_becomeLike_101 : decode cX6_becomeLike 101 = .ok (.aload_n 1, 1) := by decide +kernel
theorem dX6_becomeLike_102 : decode cX6_becomeLike 102 = .ok (.getfield 33, 3) := by decide +kernel
theorem dX6_becomeLike_105 : decode cX6_becomeLike 105 = .ok (.aload_n 0, 1) := by decide +kernel
theorem dX6_becomeLike_106 : decode cX6_becomeLike 106 = .ok (.getfield 33, 3) := by decide +kernel
theorem dX6_becomeLike_109 : decode cX6_becomeLike 109 = .ok (.invokestatic 58, 3) := by decide +kernel
theorem dX6_becomeLike_112 : decode cX6_becomeLike 112 = .ok (.aload_n 1, 1) := by decide +kernel
theorem dX6_becomeLike_113 : decode cX6_becomeLike 113 = .ok (.getfield 36, 3) := by decide +kernel
theorem dX6_becomeLike_116 : decode cX6_becomeLike 116 = .ok (.aload_n 0, 1) := by decide +kernel
theorem dX6_becomeLike_117 : decode cX6_becomeLike 117 = .ok (.getfield 36, 3) := by decide +kernel
theorem dX6_becomeLike_120 : decode cX6_becomeLike 120 = .ok (.invokestatic 58, 3) := by decide +kernel
theorem dX6_becomeLike_123 : decode cX6_becomeLike 123 = .ok (.aload_n 1, 1) := by decide +kernel
theorem dX6_becomeLike_124 : decode cX6_becomeLike 124 = .ok (.getfield 39, 3) := by decide +kernel
theorem dX6_becomeLike_127 : decode cX6_becomeLike 127 = .ok (.aload_n 0, 1) := by decide +kernel
theorem dX6_becomeLike_128 : decode cX6_becomeLike 128 = .ok (.getfield 39, 3) := by decide +kernel
theorem dX6_becomeLike_131 : decode cX6_becomeLike 131 = .ok (.invokestatic 58, 3) := by decide +kernel
theorem dX6_becomeLike_134 : decode cX6_becomeLike 134 = .ok (.aload_n 1, 1) := by decide +kernel
theorem dX6_becomeLike_135 : decode cX6_becomeLike 135 = .ok (.getfield 42, 3) := by decide +kernel
theorem dX6_becomeLike_138 : decode cX6_becomeLike 138 = .ok (.aload_n 0, 1) := by decide +kernel
theorem dX6_becomeLike_139 : decode cX6_becomeLike 139 = .ok (.getfield 42, 3) := by decide +kernel
theorem dX6_becomeLike_142 : decode cX6_becomeLike 142 = .ok (.invokestatic 58, 3) := by decide +kernel
theorem dX6_becomeLike_145 : decode cX6_becomeLike 145 = .ok (.aload_n 1, 1) := by decide +kernel
theorem dX6_becomeLike_146 : decode cX6_becomeLike 146 = .ok (.getfield 45, 3) := by decide +kernel
theorem dX6_becomeLike_149 : decode cX6_becomeLike 149 = .ok (.aload_n 0, 1) := by decide +kernel
theorem dX6_becomeLike_150 : decode cX6_becomeLike 150 = .ok (.getfield 45, 3) := by decide +kernel
theorem dX6_becomeLike_153 : decode cX6_becomeLike 153 = .ok (.invokestatic 58, 3) := by decide +kernel
theorem dX6_becomeLike_156 : decode cX6_becomeLike 156 = .ok (.return_, 1) := by decide +kernel
theorem dX6_hasFailed_0 : decode cX6_hasFailed 0 = .ok (.iconst 0, 1) := by decide +kernel
theorem dX6_hasFailed_1 : decode cX6_hasFailed 1 = .ok (.istore_n 3, 1) := by decide +kernel
theorem dX6_hasFailed_2 : decode cX6_hasFailed 2 = .ok (.iload_n 3, 1) := by decide +kernel
theorem dX6_hasFailed_3 : decode cX6_hasFailed 3 = .ok (.aload_n 0, 1) := by decide +kernel
theorem dX6_hasFailed_4 : decode cX6_hasFailed 4 = .ok (.getfield 55, 3) := by decide +kernel
theorem dX6_hasFailed_7 : decode cX6_hasFailed 7 = .ok (.if_icmp .ge 31, 3) := by decide +kernel
theorem dX6_hasFailed_38 : decode cX6_hasFailed 38 = .ok (.iconst 0, 1) := by decide +kernel
theorem dX6_hasFailed_39 : decode cX6_hasFailed 39 = .ok (.ireturn, 1) := by decide +kernel
theorem dX6_init_0 : decode cX6_init 0 = .ok (.aload_n 0, 1) := by decide +kernel
theorem dX6_init_1 : decode cX6_init 1 = .ok (.invokespecial 3, 3) := by decide +kernel
theorem dX6_init_4 : decode cX6_init 4 = .ok (.aload_n 0, 1) := by decide +kernel
theorem dX6_init_5 : decode cX6_init 5 = .ok (.bipush 40, 2) := by decide +kernel
theorem dX6_init_7 : decode cX6_init 7 = .ok (.newarray .int, 2) := by decide +kernel
theorem dX6_init_9 : decode cX6_init 9 = .ok (.putfield 9, 3) := by decide +kernel
theorem dX6_init_12 : decode cX6_init 12 = .ok (.aload_n 0, 1) := by decide +kernel
theorem dX6_init_13 : decode cX6_init 13 = .ok (.bipush 40, 2) := by decide +kernel
theorem dX6_init_15 : decode cX6_init 15 = .ok (.newarray .int, 2) := by decide +kernel
theorem dX6_init_17 : decode cX6_init 17 = .ok (.putfield 15, 3) := by decide +kernel
theorem dX6_init_20 : decode cX6_init 20 = .ok (.aload_n 0, 1) := by decide +kernel
theorem dX6_init_21 : decode cX6_init 21 = .ok (.bipush 40, 2) := by decide +kernel
theorem dX6_init_23 : decode cX6_init 23 = .ok (.newarray .int, 2) := by decide +kernel
theorem dX6_init_25 : decode cX6_init 25 = .ok (.putfield 18, 3) := by decide +kernel
theorem dX6_init_28 : decode cX6_init 28 = .ok (.aload_n 0, 1) := by decide +kernel
theorem dX6_init_29 : decode cX6_init 29 = .ok (.bipush 40, 2) := by decide +kernel
theorem dX6_init_31 : decode cX6_init 31 = .ok (.newarray .int, 2) := by decide +kernel
theorem dX6_init_33 : decode cX6_init 33 = .ok (.putfield 21, 3) := by decide +kernel
theorem dX6_init_36 : decode cX6_init 36 = .ok (.aload_n 0, 1) := by decide +kernel
theorem dX6_init_37 : decode cX6_init 37 = .ok (.bipush 40, 2) := by decide +kernel
theorem dX6_init_39 : decode cX6_init 39 = .ok (.newarray .int, 2) := by decide +kernel
theorem dX6_init_41 : decode cX6_init 41 = .ok (.putfield 24, 3) := by decide +kernel
theorem dX6_init_44 : decode cX6_init 44 = .ok (.aload_n 0, 1) := by decide +kernel
theorem dX6_init_45 : decode cX6_init 45 = .ok (.sipush 400, 3) := by decide +kernel
theorem dX6_init_48 : decode cX6_init 48 = .ok (.newarray .int, 2) := by decide +kernel
theorem dX6_init_50 : decode cX6_init 50 = .ok (.putfield 27, 3) := by decide +kernel
theorem dX6_init_53 : decode cX6_init 53 = .ok (.aload_n 0, 1) := by decide +kernel
theorem dX6_init_54 : decode cX6_init 54 = .ok (.bipush 60, 2) := by decide +kernel
theorem dX6_init_56 : decode cX6_init 56 = .ok (.newarray .int, 2) := by decide +kernel
theorem dX6_init_58 : decode cX6_init 58 = .ok (.putfield 30, 3) := by decide +kernel
theorem dX6_init_61 : decode cX6_init 61 = .ok (.aload_n 0, 1) := by decide +kernel
theorem dX6_init_62 : decode cX6_init 62 = .ok (.bipush 60, 2) := by decide +kernel
theorem dX6_init_64 : decode cX6_init 64 = .ok (.newarray .int, 2) := by decide +kernel
theorem dX6_init_66 : decode cX6_init 66 = .ok (.putfield 33, 3) := by decide +kernel
theorem dX6_init_69 : decode cX6_init 69 = .ok (.aload_n 0, 1) := by decide +kernel
theorem dX6_init_70 : decode cX6_init 70 = .ok (.iconst 2, 1) := by decide +kernel
theorem dX6_init_71 : decode cX6_init 71 = .ok (.newarray .int, 2) := by decide +kernel
theorem dX6_init_73 : decode cX6_init 73 = .ok (.putfield 36, 3) := by decide +kernel
theorem dX6_init_76 : decode cX6_init 76 = .ok (.aload_n 0, 1) := by decide +kernel
theorem dX6_init_77 : decode cX6_init 77 = .ok (.bipush 120, 2) := by decide +kernel
theorem dX6_init_79 : decode cX6_init 79 = .ok (.newarray .int, 2) := by decide +kernel
theorem dX6_init_81 : decode cX6_init 81 = .ok (.putfield 39, 3) := by decide +kernel
theorem dX6_init_84 : decode cX6_init 84 = .ok (.aload_n 0, 1) := by decide +kernel
theorem dX6_init_85 : decode cX6_init 85 = .ok (.bipush 120, 2) := by decide +kernel
theorem dX6_init_87 : decode cX6_init 87 = .ok (.newarray .int, 2) := by decide +kernel
theorem dX6_init_89 : decode cX6_init 89 = .ok (.putfield 42, 3) := by decide +kernel
theorem dX6_init_92 : decode cX6_init 92 = .ok (.aload_n 0, 1) := by decide +kernel
theorem dX6_init_93 : decode cX6_init 93 = .ok (.bipush 120, 2) := by decide +kernel
theorem dX6_init_95 : decode cX6_init 95 = .ok (.newarray .int, 2) := by decide +kernel
theorem dX6_init_97 : decode cX6_init 97 = .ok (.putfield 45, 3) := by decide +kernel
theorem dX6_init_100 : decode cX6_init 100 = .ok (.return_, 1) := by decide +kernel
theorem dX6_isNoChild_0 : decode cX6_isNoChild 0 = .ok (.iload_n 1, 1) := by decide +kernel
theorem dX6_isNoChild_1 : decode cX6_isNoChild 1 = .ok (.ifCond .lt 11, 3) := by decide +kernel
theorem dX6_isNoChild_4 : decode cX6_isNoChild 4 = .ok (.iload_n 1, 1) := by decide +kernel
theorem dX6_isNoChild_5 : decode cX6_isNoChild 5 = .ok (.aload_n 0, 1) := by decide +kernel
theorem dX6_isNoChild_6 : decode cX6_isNoChild 6 = .ok (.getfield 48, 3) := by decide +kernel
theorem dX6_isNoChild_9 : decode cX6_isNoChild 9 = .ok (.if_icmp .lt 7, 3) := by decide +kernel
theorem dX6_isNoChild_12 : decode cX6_isNoChild 12 = .ok (.iconst 1, 1) := by decide +kernel
theorem dX6_isNoChild_13 : decode cX6_isNoChild 13 = .ok (.goto 4, 3) := by decide +kernel
theorem dX6_isNoChild_17 : decode cX6_isNoChild 17 = .ok (.ireturn, 1) := by decide +kernel
theorem dX6_isNoSchool_0 : decode cX6_isNoSchool 0 = .ok (.iload_n 1, 1) := by decide +kernel
theorem dX6_isNoSchool_1 : decode cX6_isNoSchool 1 = .ok (.ifCond .lt 11, 3) := by decide +kernel
theorem dX6_isNoSchool_4 : decode cX6_isNoSchool 4 = .ok (.iload_n 1, 1) := by decide +kernel
theorem dX6_isNoSchool_5 : decode cX6_isNoSchool 5 = .ok (.aload_n 0, 1) := by decide +kernel
theorem dX6_isNoSchool_6 : decode cX6_isNoSchool 6 = .ok (.getfield 52, 3) := by decide +kernel
theorem dX6_isNoSchool_9 : decode cX6_isNoSchool 9 = .ok (.if_icmp .lt 7, 3) := by decide +kernel
theorem dX6_isNoSchool_12 : decode cX6_isNoSchool 12 = .ok (.iconst 1, 1) := by decide +kernel
theorem dX6_isNoSchool_13 : decode cX6_isNoSchool 13 = .ok (.goto 4, 3) := by decide +kernel
theorem dX6_isNoSchool_17 : decode cX6_isNoSchool 17 = .ok (.ireturn, 1) := by decide +kernel
theorem dX7_append_0 : decode cX7_append 0 = .ok (.bipush 24, 2) := by decide +kernel
theorem dX7_append_2 : decode cX7_append 2 = .ok (.istore_n 2, 1) := by decide +kernel
theorem dX7_append_3 : decode cX7_append 3 = .ok (.iload_n 2, 1) := by decide +kernel
theorem dX7_append_4 : decode cX7_append 4 = .ok (.ifCond .lt 45, 3) := by decide +kernel
theorem dX7_append_7 : decode cX7_append 7 = .ok (.aload_n 0, 1) := by decide +kernel
theorem dX7_append_8 : decode cX7_append 8 = .ok (.getfield 31, 3) := by decide +kernel
theorem dX7_append_11 : decode cX7_append 11 = .ok (.sipush 400, 3) := by decide +kernel
theorem dX7_append_14 : decode cX7_append 14 = .ok (.if_icmp .ge 35, 3) := by decide +kernel
theorem dX7_append_17 : decode cX7_append 17 = .ok (.aload_n 0, 1) := by decide +kernel
theorem dX7_append_18 : decode cX7_append 18 = .ok (.getfield 9, 3) := by decide +kernel
theorem dX7_append_21 : decode cX7_append 21 = .ok (.aload_n 0, 1) := by decide +kernel
theorem dX7_append_22 : decode cX7_append 22 = .ok (.getfield 31, 3) := by decide +kernel
theorem dX7_append_25 : decode cX7_append 25 = .ok (.iload_n 1, 1) := by decide +kernel
theorem dX7_append_26 : decode cX7_append 26 = .ok (.iload_n 2, 1) := by decide +kernel
theorem dX7_append_27 : decode cX7_append 27 = .ok (.ishr, 1) := by decide +kernel
theorem dX7_append_28 : decode cX7_append 28 = .ok (.sipush 255, 3) := by decide +kernel
theorem dX7_append_31 : decode cX7_append 31 = .ok (.iand, 1) := by decide +kernel
theorem dX7_append_32 : decode cX7_append 32 = .ok (.iastore, 1) := by decide +kernel
theorem dX7_append_33 : decode cX7_append 33 = .ok (.aload_n 0, 1) := by decide +kernel
theorem dX7_append_34 : decode cX7_append 34 = .ok (.dup, 1) := by decide +kernel
theorem dX7_append_35 : decode cX7_append 35 = .ok (.getfield 31, 3) := by decide +kernel
theorem dX7_append_38 : decode cX7_append 38 = .ok (.iconst 1, 1) := by decide +kernel
theorem dX7_append_39 : decode cX7_append 39 = .ok (.iadd, 1) := by decide +kernel
theorem dX7_append_40 : decode cX7_append 40 = .ok (.putfield 31, 3) := by decide +kernel
theorem dX7_append_43 : decode cX7_append 43 = .ok (.iinc 2 (-8), 3) := by decide +kernel
theorem dX7_append_46 : decode cX7_append 46 = .ok (.goto (-43), 3) := by decide +kernel
theorem dX7_append_49 : decode cX7_append 49 = .ok (.return_, 1) := by decide +kernel
theorem dX7_init_0 : decode cX7_init 0 = .ok (.aload_n 0, 1) := by decide +kernel
theorem dX7_init_1 : decode cX7_init 1 = .ok (.invokespecial 3, 3) := by decide +kernel
theorem dX7_init_4 : decode cX7_init 4 = .ok (.aload_n 0, 1) := by decide +kernel
theorem dX7_init_5 : decode cX7_init 5 = .ok (.sipush 400, 3) := by decide +kernel
theorem dX7_init_8 : decode cX7_init 8 = .ok (.newarray .int, 2) := by decide +kernel
theorem dX7_init_10 : decode cX7_init 10 = .ok (.putfield 9, 3) := by decide +kernel
theorem dX7_init_13 : decode cX7_init 13 = .ok (.aload_n 0, 1) := by decide +kernel
theorem dX7_init_14 : decode cX7_init 14 = .ok (.iconst (-1), 1) := by decide +kernel
theorem dX7_init_15 : decode cX7_init 15 = .ok (.putfield 15, 3) := by decide +kernel
theorem dX7_init_18 : decode cX7_init 18 = .ok (.aload_n 0, 1) := by decide +kernel
theorem dX7_init_19 : decode cX7_init 19 = .ok (.bipush 12, 2) := by decide +kernel
theorem dX7_init_21 : decode cX7_init 21 = .ok (.newarray .int, 2) := by decide +kernel
theorem dX7_init_23 : decode cX7_init 23 = .ok (.putfield 19, 3) := by decide +kernel
theorem dX7_init_26 : decode cX7_init 26 = .ok (.aload_n 0, 1) := by decide +kernel
theorem dX7_init_27 : decode cX7_init 27 = .ok (.bipush 12, 2) := by decide +kernel
theorem dX7_init_29 : decode cX7_init 29 = .ok (.newarray .int, 2) := by decide +kernel
theorem dX7_init_31 : decode cX7_init 31 = .ok (.putfield 22, 3) := by decide +kernel
theorem dX7_init_34 : decode cX7_init 34 = .ok (.aload_n 0, 1) := by decide +kernel
theorem dX7_init_35 : decode cX7_init 35 = .ok (.bipush 25, 2) := by decide +kernel
theorem dX7_init_37 : decode cX7_init 37 = .ok (.newarray .int, 2) := by decide +kernel
theorem dX7_init_39 : decode cX7_init 39 = .ok (.putfield 25, 3) := by decide +kernel
theorem dX7_init_42 : decode cX7_init 42 = .ok (.aload_n 0, 1) := by decide +kernel
theorem dX7_init_43 : decode cX7_init 43 = .ok (.sipush 400, 3) := by decide +kernel
theorem dX7_init_46 : decode cX7_init 46 = .ok (.newarray .int, 2) := by decide +kernel
theorem dX7_init_48 : decode cX7_init 48 = .ok (.putfield 28, 3) := by decide +kernel
theorem dX7_init_51 : decode cX7_init 51 = .ok (.return_, 1) := by decide +kernel
theorem dX7_nextToken_0 : decode cX7_nextToken 0 = .ok (.aload_n 0, 1) := by decide +kernel
theorem dX7_nextToken_1 : decode cX7_nextToken 1 = .ok (.getfield 40, 3) := by decide +kernel
theorem dX7_nextToken_4 : decode cX7_nextToken 4 = .ok (.istore_n 1, 1) := by decide +kernel
theorem dX7_nextToken_5 : decode cX7_nextToken 5 = .ok (.iload_n 1, 1) := by decide +kernel
theorem dX7_nextToken_6 : decode cX7_nextToken 6 = .ok (.aload_n 0, 1) := by decide +kernel
theorem dX7_nextToken_7 : decode cX7_nextToken 7 = .ok (.getfield 31, 3) := by decide +kernel
theorem dX7_nextToken_10 : decode cX7_nextToken 10 = .ok (.if_icmp .ge 20, 3) := by decide +kernel
theorem dX7_nextToken_30 : decode cX7_nextToken 30 = .ok (.aload_n 0, 1) := by decide +kernel
theorem dX7_nextToken_31 : decode cX7_nextToken 31 = .ok (.iload_n 1, 1) := by decide +kernel
theorem dX7_nextToken_32 : decode cX7_nextToken 32 = .ok (.putfield 163, 3) := by decide +kernel
theorem dX7_nextToken_35 : decode cX7_nextToken 35 = .ok (.aload_n 0, 1) := by decide +kernel
theorem dX7_nextToken_36 : decode cX7_nextToken 36 = .ok (.lconst 0, 1) := by decide +kernel
theorem dX7_nextToken_37 : decode cX7_nextToken 37 = .ok (.putfield 52, 3) := by decide +kernel
theorem dX7_nextToken_40 : decode cX7_nextToken 40 = .ok (.aload_n 0, 1) := by decide +kernel
theorem dX7_nextToken_41 : decode cX7_nextToken 41 = .ok (.iconst 0, 1) := by decide +kernel
theorem dX7_nextToken_42 : decode cX7_nextToken 42 = .ok (.putfield 156, 3) := by decide +kernel
theorem dX7_nextToken_45 : decode cX7_nextToken 45 = .ok (.iload_n 1, 1) := by decide +kernel
theorem dX7_nextToken_46 : decode cX7_nextToken 46 = .ok (.aload_n 0, 1) := by decide +kernel
theorem dX7_nextToken_47 : decode cX7_nextToken 47 = .ok (.getfield 31, 3) := by decide +kernel
theorem dX7_nextToken_50 : decode cX7_nextToken 50 = .ok (.if_icmp .lt 11, 3) := by decide +kernel
theorem dX7_nextToken_53 : decode cX7_nextToken 53 = .ok (.aload_n 0, 1) := by decide +kernel
theorem dX7_nextToken_54 : decode cX7_nextToken 54 = .ok (.iconst 0, 1) := by decide +kernel
theorem dX7_nextToken_55 : decode cX7_nextToken 55 = .ok (.putfield 66, 3) := by decide +kernel
theorem dX7_nextToken_58 : decode cX7_nextToken 58 = .ok (.goto 208, 3) := by decide +kernel
theorem dX7_nextToken_266 : decode cX7_nextToken 266 = .ok (.aload_n 0, 1) := by decide +kernel
theorem dX7_nextToken_267 : decode cX7_nextToken 267 = .ok (.iload_n 1, 1) := by decide +kernel
theorem dX7_nextToken_268 : decode cX7_nextToken 268 = .ok (.putfield 40, 3) := by decide +kernel
theorem dX7_nextToken_271 : decode cX7_nextToken 271 = .ok (.return_, 1) := by decide +kernel
theorem dX7_readHead_0 : decode cX7_readHead 0 = .ok (.aload_n 0, 1) := by decide +kernel
theorem dX7_readHead_1 : decode cX7_readHead 1 = .ok (.getfield 52, 3) := by decide +kernel
theorem dX7_readHead_4 : decode cX7_readHead 4 = .ok (.ldc2_w 77, 3) := by decide +kernel
theorem dX7_readHead_7 : decode cX7_readHead 7 = .ok (.lcmp, 1) := by decide +kernel
theorem dX7_readHead_8 : decode cX7_readHead 8 = .ok (.ifCond .ne 26, 3) := by decide +kernel
theorem dX7_readHead_34 : decode cX7_readHead 34 = .ok (.aload_n 0, 1) := by decide +kernel
theorem dX7_readHead_35 : decode cX7_readHead 35 = .ok (.getfield 52, 3) := by decide +kernel
theorem dX7_readHead_38 : decode cX7_readHead 38 = .ok (.ldc2_w 90, 3) := by decide +kernel
theorem dX7_readHead_41 : decode cX7_readHead 41 = .ok (.lcmp, 1) := by decide +kernel
theorem dX7_readHead_42 : decode cX7_readHead 42 = .ok (.ifCond .ne 16, 3) := by decide +kernel
theorem dX7_readHead_58 : decode cX7_readHead 58 = .ok (.aload_n 0, 1) := by decide +kernel
theorem dX7_readHead_59 : decode cX7_readHead 59 = .ok (.getfield 52, 3) := by decide +kernel
theorem dX7_readHead_62 : decode cX7_readHead 62 = .ok (.ldc2_w 98, 3) := by decide +kernel
theorem dX7_readHead_65 : decode cX7_readHead 65 = .ok (.lcmp, 1) := by decide +kernel
theorem dX7_readHead_66 : decode cX7_readHead 66 = .ok (.ifCond .ne 16, 3) := by decide +kernel
theorem dX7_readHead_82 : decode cX7_readHead 82 = .ok (.aload_n 0, 1) := by decide +kernel
theorem dX7_readHead_83 : decode cX7_readHead 83 = .ok (.getfield 52, 3) := by decide +kernel
theorem dX7_readHead_86 : decode cX7_readHead 86 = .ok (.ldc2_w 102, 3) := by decide +kernel
theorem dX7_readHead_89 : decode cX7_readHead 89 = .ok (.lcmp, 1) := by decide +kernel
theorem dX7_readHead_90 : decode cX7_readHead 90 = .ok (.ifCond .ne 34, 3) := by decide +kernel
theorem dX7_readHead_124 : decode cX7_readHead 124 = .ok (.aload_n 0, 1) := by decide +kernel
theorem dX7_readHead_125 : decode cX7_readHead 125 = .ok (.getfield 52, 3) := by decide +kernel
theorem dX7_readHead_128 : decode cX7_readHead 128 = .ok (.ldc2_w 108, 3) := by decide +kernel
theorem dX7_readHead_131 : decode cX7_readHead 131 = .ok (.lcmp, 1) := by decide +kernel
theorem dX7_readHead_132 : decode cX7_readHead 132 = .ok (.ifCond .ne 18, 3) := by decide +kernel
theorem dX7_readHead_150 : decode cX7_readHead 150 = .ok (.aload_n 0, 1) := by decide +kernel
theorem dX7_readHead_151 : decode cX7_readHead 151 = .ok (.getfield 52, 3) := by decide +kernel
theorem dX7_readHead_154 : decode cX7_readHead 154 = .ok (.ldc2_w 110, 3) := by decide +kernel
theorem dX7_readHead_157 : decode cX7_readHead 157 = .ok (.lcmp, 1) := by decide +kernel
theorem dX7_readHead_158 : decode cX7_readHead 158 = .ok (.ifCond .ne 44, 3) := by decide +kernel
theorem dX7_readHead_202 : decode cX7_readHead 202 = .ok (.aload_n 0, 1) := by decide +kernel
theorem dX7_readHead_203 : decode cX7_readHead 203 = .ok (.invokevirtual 69, 3) := by decide +kernel
theorem dX7_readHead_206 : decode cX7_readHead 206 = .ok (.return_, 1) := by decide +kernel
theorem dX7_readText_0 : decode cX7_readText 0 = .ok (.aload_n 0, 1) := by decide +kernel
theorem dX7_readText_1 : decode cX7_readText 1 = .ok (.iconst (-1), 1) := by decide +kernel
theorem dX7_readText_2 : decode cX7_readText 2 = .ok (.putfield 15, 3) := by decide +kernel
theorem dX7_readText_5 : decode cX7_readText 5 = .ok (.aload_n 0, 1) := by decide +kernel
theorem dX7_readText_6 : decode cX7_readText 6 = .ok (.iconst 0, 1) := by decide +kernel
theorem dX7_readText_7 : decode cX7_readText 7 = .ok (.putfield 34, 3) := by decide +kernel
theorem dX7_readText_10 : decode cX7_readText 10 = .ok (.aload_n 0, 1) := by decide +kernel
theorem dX7_readText_11 : decode cX7_readText 11 = .ok (.iconst 0, 1) := by decide +kernel
theorem dX7_readText_12 : decode cX7_readText 12 = .ok (.putfield 37, 3) := by decide +kernel
theorem dX7_readText_15 : decode cX7_readText 15 = .ok (.aload_n 0, 1) := by decide +kernel
theorem dX7_readText_16 : decode cX7_readText 16 = .ok (.iconst 0, 1) := by decide +kernel
theorem dX7_readText_17 : decode cX7_readText 17 = .ok (.putfield 40, 3) := by decide +kernel
theorem dX7_readText_20 : decode cX7_readText 20 = .ok (.aload_n 0, 1) := by decide +kernel
theorem dX7_readText_21 : decode cX7_readText 21 = .ok (.invokevirtual 43, 3) := by decide +kernel
theorem dX7_readText_24 : decode cX7_readText 24 = .ok (.iconst 1, 1) := by decide +kernel
theorem dX7_readText_25 : decode cX7_readText 25 = .ok (.istore_n 1, 1) := by decide +kernel
theorem dX7_readText_26 : decode cX7_readText 26 = .ok (.iconst 0, 1) := by decide +kernel
theorem dX7_readText_27 : decode cX7_readText 27 = .ok (.istore_n 2, 1) := by decide +kernel
theorem dX7_readText_28 : decode cX7_readText 28 = .ok (.iload_n 2, 1) := by decide +kernel
theorem dX7_readText_29 : decode cX7_readText 29 = .ok (.bipush 12, 2) := by decide +kernel
theorem dX7_readText_31 : decode cX7_readText 31 = .ok (.if_icmp .ge 154, 3) := by decide +kernel
theorem dX7_readText_34 : decode cX7_readText 34 = .ok (.iload_n 1, 1) := by decide +kernel
theorem dX7_readText_35 : decode cX7_readText 35 = .ok (.ifCond .eq 150, 3) := by decide +kernel
theorem dX7_readText_38 : decode cX7_readText 38 = .ok (.aload_n 0, 1) := by decide +kernel
theorem dX7_readText_39 : decode cX7_readText 39 = .ok (.iload_n 2, 1) := by decide +kernel
theorem dX7_readText_40 : decode cX7_readText 40 = .ok (.putfield 46, 3) := by decide +kernel
theorem dX7_readText_43 : decode cX7_readText 43 = .ok (.aload_n 0, 1) := by decide +kernel
theorem dX7_readText_44 : decode cX7_readText 44 = .ok (.getfield 25, 3) := by decide +kernel
theorem dX7_readText_47 : decode cX7_readText 47 = .ok (.iconst 2, 1) := by decide +kernel
theorem dX7_readText_48 : decode cX7_readText 48 = .ok (.iload_n 2, 1) := by decide +kernel
theorem dX7_readText_49 : decode cX7_readText 49 = .ok (.imul, 1) := by decide +kernel
theorem dX7_readText_50 : decode cX7_readText 50 = .ok (.aload_n 0, 1) := by decide +kernel
theorem dX7_readText_51 : decode cX7_readText 51 = .ok (.getfield 34, 3) := by decide +kernel
theorem dX7_readText_54 : decode cX7_readText 54 = .ok (.iastore, 1) := by decide +kernel
theorem dX7_readText_55 : decode cX7_readText 55 = .ok (.aload_n 0, 1) := by decide +kernel
theorem dX7_readText_56 : decode cX7_readText 56 = .ok (.invokevirtual 49, 3) := by decide +kernel
theorem dX7_readText_59 : decode cX7_readText 59 = .ok (.aload_n 0, 1) := by decide +kernel
theorem dX7_readText_60 : decode cX7_readText 60 = .ok (.getfield 25, 3) := by decide +kernel
theorem dX7_readText_63 : decode cX7_readText 63 = .ok (.iconst 2, 1) := by decide +kernel
theorem dX7_readText_64 : decode cX7_readText 64 = .ok (.iload_n 2, 1) := by decide +kernel
theorem dX7_readText_65 : decode cX7_readText 65 = .ok (.imul, 1) := by decide +kernel
theorem dX7_readText_66 : decode cX7_readText 66 = .ok (.iconst 1, 1) := by decide +kernel
theorem dX7_readText_67 : decode cX7_readText 67 = .ok (.iadd, 1) := by decide +kernel
theorem dX7_readText_68 : decode cX7_readText 68 = .ok (.aload_n 0, 1) := by decide +kernel
theorem dX7_readText_69 : decode cX7_readText 69 = .ok (.getfield 34, 3) := by decide +kernel
theorem dX7_readText_72 : decode cX7_readText 72 = .ok (.iastore, 1) := by decide +kernel
theorem dX7_readText_73 : decode cX7_readText 73 = .ok (.aload_n 0, 1) := by decide +kernel
theorem dX7_readText_74 : decode cX7_readText 74 = .ok (.getfield 15, 3) := by decide +kernel
theorem dX7_readText_77 : decode cX7_readText 77 = .ok (.iconst (-1), 1) := by decide +kernel
theorem dX7_readText_78 : decode cX7_readText 78 = .ok (.if_icmp .ne 35, 3) := by decide +kernel
theorem dX7_readText_113 : decode cX7_readText 113 = .ok (.aload_n 0, 1) := by decide +kernel
theorem dX7_readText_114 : decode cX7_readText 114 = .ok (.getfield 25, 3) := by decide +kernel
theorem dX7_readText_117 : decode cX7_readText 117 = .ok (.iconst 2, 1) := by decide +kernel
theorem dX7_readText_118 : decode cX7_readText 118 = .ok (.iload_n 2, 1) := by decide +kernel
theorem dX7_readText_119 : decode cX7_readText 119 = .ok (.imul, 1) := by decide +kernel
theorem dX7_readText_120 : decode cX7_readText 120 = .ok (.iconst 2, 1) := by decide +kernel
theorem dX7_readText_121 : decode cX7_readText 121 = .ok (.iadd, 1) := by decide +kernel
theorem dX7_readText_122 : decode cX7_readText 122 = .ok (.aload_n 0, 1) := by decide +kernel
theorem dX7_readText_123 : decode cX7_readText 123 = .ok (.getfield 34, 3) := by decide +kernel
theorem dX7_readText_126 : decode cX7_readText 126 = .ok (.iastore, 1) := by decide +kernel
theorem dX7_readText_127 : decode cX7_readText 127 = .ok (.aload_n 0, 1) := by decide +kernel
theorem dX7_readText_128 : decode cX7_readText 128 = .ok (.iload_n 2, 1) := by decide +kernel
theorem dX7_readText_129 : decode cX7_readText 129 = .ok (.iconst 1, 1) := by decide +kernel
theorem dX7_readText_130 : decode cX7_readText 130 = .ok (.iadd, 1) := by decide +kernel
theorem dX7_readText_131 : decode cX7_readText 131 = .ok (.putfield 46, 3) := by decide +kernel
theorem dX7_readText_134 : decode cX7_readText 134 = .ok (.aload_n 0, 1) := by decide +kernel
theorem dX7_readText_135 : decode cX7_readText 135 = .ok (.getfield 15, 3) := by decide +kernel
theorem dX7_readText_138 : decode cX7_readText 138 = .ok (.iconst (-1), 1) := by decide +kernel
theorem dX7_readText_139 : decode cX7_readText 139 = .ok (.if_icmp .ne 16, 3) := by decide +kernel
theorem dX7_readText_155 : decode cX7_readText 155 = .ok (.iconst 0, 1) := by decide +kernel
theorem dX7_readText_156 : decode cX7_readText 156 = .ok (.istore_n 1, 1) := by decide +kernel
theorem dX7_readText_157 : decode cX7_readText 157 = .ok (.iload_n 1, 1) := by decide +kernel
theorem dX7_readText_158 : decode cX7_readText 158 = .ok (.ifCond .eq 10, 3) := by decide +kernel
theorem dX7_readText_168 : decode cX7_readText 168 = .ok (.aload_n 0, 1) := by decide +kernel
theorem dX7_readText_169 : decode cX7_readText 169 = .ok (.getfield 66, 3) := by decide +kernel
theorem dX7_readText_172 : decode cX7_readText 172 = .ok (.ifCond .eq 7, 3) := by decide +kernel
theorem dX7_readText_179 : decode cX7_readText 179 = .ok (.iinc 2 1, 3) := by decide +kernel
theorem dX7_readText_182 : decode cX7_readText 182 = .ok (.goto (-154), 3) := by decide +kernel
theorem dX7_readText_185 : decode cX7_readText 185 = .ok (.iload_n 1, 1) := by decide +kernel
theorem dX7_readText_186 : decode cX7_readText 186 = .ok (.ifCond .eq 7, 3) := by decide +kernel
theorem dX7_readText_193 : decode cX7_readText 193 = .ok (.aload_n 0, 1) := by decide +kernel
theorem dX7_readText_194 : decode cX7_readText 194 = .ok (.iconst 0, 1) := by decide +kernel
theorem dX7_readText_195 : decode cX7_readText 195 = .ok (.putfield 31, 3) := by decide +kernel
theorem dX7_readText_198 : decode cX7_readText 198 = .ok (.aload_n 0, 1) := by decide +kernel
theorem dX7_readText_199 : decode cX7_readText 199 = .ok (.getfield 15, 3) := by decide +kernel
theorem dX7_readText_202 : decode cX7_readText 202 = .ok (.iconst (-1), 1) := by decide +kernel
theorem dX7_readText_203 : decode cX7_readText 203 = .ok (.if_icmp .ne 14, 3) := by decide +kernel
theorem dX7_readText_217 : decode cX7_readText 217 = .ok (.aconst_null, 1) := by decide +kernel
theorem dX7_readText_218 : decode cX7_readText 218 = .ok (.areturn, 1) := by decide +kernel
theorem dX7_refuseToken_0 : decode cX7_refuseToken 0 = .ok (.aload_n 0, 1) := by decide +kernel
theorem dX7_refuseToken_1 : decode cX7_refuseToken 1 = .ok (.getfield 15, 3) := by decide +kernel
theorem dX7_refuseToken_4 : decode cX7_refuseToken 4 = .ok (.iconst (-1), 1) := by decide +kernel
theorem dX7_refuseToken_5 : decode cX7_refuseToken 5 = .ok (.if_icmp .ne 11, 3) := by decide +kernel
theorem dX7_refuseToken_8 : decode cX7_refuseToken 8 = .ok (.aload_n 0, 1) := by decide +kernel
theorem dX7_refuseToken_9 : decode cX7_refuseToken 9 = .ok (.aload_n 0, 1) := by decide +kernel
theorem dX7_refuseToken_10 : decode cX7_refuseToken 10 = .ok (.getfield 163, 3) := by decide +kernel
theorem dX7_refuseToken_13 : decode cX7_refuseToken 13 = .ok (.putfield 15, 3) := by decide +kernel
theorem dX7_refuseToken_16 : decode cX7_refuseToken 16 = .ok (.return_, 1) := by decide +kernel
theorem dX8_becomeLike_0 : decode cX8_becomeLike 0 = .ok (.aload_n 0, 1) := by decide +kernel
theorem dX8_becomeLike_1 : decode cX8_becomeLike 1 = .ok (.aload_n 1, 1) := by decide +kernel
theorem dX8_becomeLike_2 : decode cX8_becomeLike 2 = .ok (.getfield 27, 3) := by decide +kernel
theorem dX8_becomeLike_5 : decode cX8_becomeLike 5 = .ok (.putfield 27, 3) := by decide +kernel
theorem dX8_becomeLike_8 : decode cX8_becomeLike 8 = .ok (.aload_n 1, 1) := by decide +kernel
theorem dX8_becomeLike_9 : decode cX8_becomeLike 9 = .ok (.getfield 9, 3) := by decide +kernel
theorem dX8_becomeLike_12 : decode cX8_becomeLike 12 = .ok (.aload_n 0, 1) := by decide +kernel
theorem dX8_becomeLike_13 : decode cX8_becomeLike 13 = .ok (.getfield 9, 3) := by decide +kernel
theorem dX8_becomeLike_16 : decode cX8_becomeLike 16 = .ok (.invokestatic 44, 3) := by decide +kernel
theorem dX8_becomeLike_19 : decode cX8_becomeLike 19 = .ok (.aload_n 1, 1) := by decide +kernel
theorem dX8_becomeLike_20 : decode cX8_becomeLike 20 = .ok (.getfield 15, 3) := by decide +kernel
theorem dX8_becomeLike_23 : decode cX8_becomeLike 23 = .ok (.aload_n 0, 1) := by decide +kernel
theorem dX8_becomeLike_24 : decode cX8_becomeLike 24 = .ok (.getfield 15, 3) := by decide +kernel
theorem dX8_becomeLike_27 : decode cX8_becomeLike 27 = .ok (.invokestatic 44, 3) := by decide +kernel
theorem dX8_becomeLike_30 : decode cX8_becomeLike 30 = .ok (.aload_n 1, 1) := by decide +kernel
theorem dX8_becomeLike_31 : decode cX8_becomeLike 31 = .ok (.getfield 18, 3) := by decide +kernel
theorem dX8_becomeLike_34 : decode cX8_becomeLike 34 = .ok (.aload_n 0, 1) := by decide +kernel
theorem dX8_becomeLike_35 : decode cX8_becomeLike 35 = .ok (.getfield 18, 3) := by decide +kernel
theorem dX8_becomeLike_38 : decode cX8_becomeLike 38 = .ok (.invokestatic 44, 3) := by decide +kernel
theorem dX8_becomeLike_41 : decode cX8_becomeLike 41 = .ok (.aload_n 1, 1) := by decide +kernel
theorem dX8_becomeLike_42 : decode cX8_becomeLike 42 = .ok (.getfield 21, 3) := by decide +kernel
theorem dX8_becomeLike_45 : decode cX8_becomeLike 45 = .ok (.aload_n 0, 1) := by decide +kernel
theorem dX8_becomeLike_46 : decode cX8_becomeLike 46 = .ok (.getfield 21, 3) := by decide +kernel
theorem dX8_becomeLike_49 : decode cX8_becomeLike 49 = .ok (.invokestatic 44, 3) := by decide +kernel
theorem dX8_becomeLike_52 : decode cX8_becomeLike 52 = .ok (.aload_n 1, 1) := by decide +kernel
theorem dX8_becomeLike_53 : decode cX8_becomeLike 53 = .ok (.getfield 24, 3) := by decide +kernel
theorem dX8_becomeLike_56 : decode cX8_becomeLike 56 = .ok (.aload_n 0, 1) := by decide +kernel
theorem dX8_becomeLike_57 : decode cX8_becomeLike 57 = .ok (.getfield 24, 3) := by decide +kernel
theorem dX8_becomeLike_60 : decode cX8_becomeLike 60 = .ok (.invokestatic 44, 3) := by decide +kernel
theorem dX8_becomeLike_63 : decode cX8_becomeLike 63 = .ok (.return_, 1) := by decide +kernel
theorem dX8_init_0 : decode cX8_init 0 = .ok (.aload_n 0, 1) := by decide +kernel
theorem dX8_init_1 : decode cX8_init 1 = .ok (.invokespecial 3, 3) := by decide +kernel
theorem dX8_init_4 : decode cX8_init 4 = .ok (.aload_n 0, 1) := by decide +kernel
theorem dX8_init_5 : decode cX8_init 5 = .ok (.bipush 120, 2) := by decide +kernel
theorem dX8_init_7 : decode cX8_init 7 = .ok (.newarray .int, 2) := by decide +kernel
theorem dX8_init_9 : decode cX8_init 9 = .ok (.putfield 9, 3) := by decide +kernel
theorem dX8_init_12 : decode cX8_init 12 = .ok (.aload_n 0, 1) := by decide +kernel
theorem dX8_init_13 : decode cX8_init 13 = .ok (.bipush 120, 2) := by decide +kernel
theorem dX8_init_15 : decode cX8_init 15 = .ok (.newarray .int, 2) := by decide +kernel
theorem dX8_init_17 : decode cX8_init 17 = .ok (.putfield 15, 3) := by decide +kernel
theorem dX8_init_20 : decode cX8_init 20 = .ok (.aload_n 0, 1) := by decide +kernel
theorem dX8_init_21 : decode cX8_init 21 = .ok (.bipush 120, 2) := by decide +kernel
theorem dX8_init_23 : decode cX8_init 23 = .ok (.newarray .int, 2) := by decide +kernel
theorem dX8_init_25 : decode cX8_init 25 = .ok (.putfield 18, 3) := by decide +kernel
theorem dX8_init_28 : decode cX8_init 28 = .ok (.aload_n 0, 1) := by decide +kernel
theorem dX8_init_29 : decode cX8_init 29 = .ok (.bipush 120, 2) := by decide +kernel
theorem dX8_init_31 : decode cX8_init 31 = .ok (.newarray .int, 2) := by decide +kernel
theorem dX8_init_33 : decode cX8_init 33 = .ok (.putfield 21, 3) := by decide +kernel
theorem dX8_init_36 : decode cX8_init 36 = .ok (.aload_n 0, 1) := by decide +kernel
theorem dX8_init_37 : decode cX8_init 37 = .ok (.bipush 120, 2) := by decide +kernel
theorem dX8_init_39 : decode cX8_init 39 = .ok (.newarray .int, 2) := by decide +kernel
theorem dX8_init_41 : decode cX8_init 41 = .ok (.putfield 24, 3) := by decide +kernel
theorem dX8_init_44 : decode cX8_init 44 = .ok (.return_, 1) := by decide +kernel
theorem dX9_becomeLike_0 : decode cX9_becomeLike 0 = .ok (.aload_n 1, 1) := by decide +kernel
theorem dX9_becomeLike_1 : decode cX9_becomeLike 1 = .ok (.getfield 9, 3) := by decide +kernel
theorem dX9_becomeLike_4 : decode cX9_becomeLike 4 = .ok (.aload_n 0, 1) := by decide +kernel
theorem dX9_becomeLike_5 : decode cX9_becomeLike 5 = .ok (.getfield 9, 3) := by decide +kernel
theorem dX9_becomeLike_8 : decode cX9_becomeLike 8 = .ok (.invokestatic 27, 3) := by decide +kernel
theorem dX9_becomeLike_11 : decode cX9_becomeLike 11 = .ok (.aload_n 1, 1) := by decide +kernel
theorem dX9_becomeLike_12 : decode cX9_becomeLike 12 = .ok (.getfield 15, 3) := by decide +kernel
theorem dX9_becomeLike_15 : decode cX9_becomeLike 15 = .ok (.aload_n 0, 1) := by decide +kernel
theorem dX9_becomeLike_16 : decode cX9_becomeLike 16 = .ok (.getfield 15, 3) := by decide +kernel
theorem dX9_becomeLike_19 : decode cX9_becomeLike 19 = .ok (.invokestatic 27, 3) := by decide +kernel
theorem dX9_becomeLike_22 : decode cX9_becomeLike 22 = .ok (.aload_n 1, 1) := by decide +kernel
theorem dX9_becomeLike_23 : decode cX9_becomeLike 23 = .ok (.getfield 18, 3) := by decide +kernel
theorem dX9_becomeLike_26 : decode cX9_becomeLike 26 = .ok (.aload_n 0, 1) := by decide +kernel
theorem dX9_becomeLike_27 : decode cX9_becomeLike 27 = .ok (.getfield 18, 3) := by decide +kernel
theorem dX9_becomeLike_30 : decode cX9_becomeLike 30 = .ok (.invokestatic 27, 3) := by decide +kernel
theorem dX9_becomeLike_33 : decode cX9_becomeLike 33 = .ok (.return_, 1) := by decide +kernel
theorem dX9_init_0 : decode cX9_init 0 = .ok (.aload_n 0, 1) := by decide +kernel
theorem dX9_init_1 : decode cX9_init 1 = .ok (.invokespecial 3, 3) := by decide +kernel
theorem dX9_init_4 : decode cX9_init 4 = .ok (.aload_n 0, 1) := by decide +kernel
theorem dX9_init_5 : decode cX9_init 5 = .ok (.sipush 160, 3) := by decide +kernel
theorem dX9_init_8 : decode cX9_init 8 = .ok (.newarray .int, 2) := by decide +kernel
theorem dX9_init_10 : decode cX9_init 10 = .ok (.putfield 9, 3) := by decide +kernel
theorem dX9_init_13 : decode cX9_init 13 = .ok (.aload_n 0, 1) := by decide +kernel
theorem dX9_init_14 : decode cX9_init 14 = .ok (.sipush 160, 3) := by decide +kernel
theorem dX9_init_17 : decode cX9_init 17 = .ok (.newarray .int, 2) := by decide +kernel
theorem dX9_init_19 : decode cX9_init 19 = .ok (.putfield 15, 3) := by decide +kernel
theorem dX9_init_22 : decode cX9_init 22 = .ok (.aload_n 0, 1) := by decide +kernel
theorem dX9_init_23 : decode cX9_init 23 = .ok (.sipush 160, 3) := by decide +kernel
theorem dX9_init_26 : decode cX9_init 26 = .ok (.newarray .int, 2) := by decide +kernel
theorem dX9_init_28 : decode cX9_init 28 = .ok (.putfield 18, 3) := by decide +kernel
theorem dX9_init_31 : decode cX9_init 31 = .ok (.aload_n 0, 1) := by decide +kernel
theorem dX9_init_32 : decode cX9_init 32 = .ok (.getfield 9, 3) := by decide +kernel
theorem dX9_init_35 : decode cX9_init 35 = .ok (.iconst (-1), 1) := by decide +kernel
theorem dX9_init_36 : decode cX9_init 36 = .ok (.invokestatic 21, 3) := by decide +kernel
theorem dX9_init_39 : decode cX9_init 39 = .ok (.aload_n 0, 1) := by decide +kernel
theorem dX9_init_40 : decode cX9_init 40 = .ok (.getfield 15, 3) := by decide +kernel
theorem dX9_init_43 : decode cX9_init 43 = .ok (.iconst (-1), 1) := by decide +kernel
theorem dX9_init_44 : decode cX9_init 44 = .ok (.invokestatic 21, 3) := by decide +kernel
theorem dX9_init_47 : decode cX9_init 47 = .ok (.return_, 1) := by decide +kernel
end
section
/-! Arrays.fill and copyRow, by hand: loops over a whole row -/
set_option maxHeartbeats 4000000 in
set_option maxRecDepth 100000 in
theorem c_fill (l : Launch) (D : va_G) (k : Nat → ClassId) (q_0 : Nat) (x_0 : Int32) (f_0 : Nat → Int32) (n_0 : Nat) (hn : n_0 < 2 ^ 31) : zMv l yJ7_fill_53178 cJ7_fill_53178 4 none ({ frames := 0, cells := 0, slots := 0, locals := 0 }) D k [.ref q_0, .int x_0] [(q_0, .inl (k 0, n_0, .inl f_0))] (fun u => u.1 = 0) (fun u => [(q_0, .inl (k 0, n_0, .inl (fun _ => x_0)))]) := by
  refine zMv_of (own := RJ7) (by decide +kernel) rfl (Nat.le_of_ble_eq_true rfl) ?_
  intro p e s m args below meth c A ls C0 hr hlk hin hP hD hS hA hK hN hl
  have hx := C0.1
  have hb := C0.2.1
  have hl : lv_has ls 4 [(0, .ref q_0), (1, .int x_0)] := hl
  have loop : ∀ (r i : Nat) (f : Nat → Int32) (H : Heap) (locs : List Loc) (ls : Array Slot), i + r = n_0 → (∀ j, j < i → f j = x_0) → va_P D vwCl [(q_0, .inl (k 0, n_0, .inl f))] H → va_D A [(q_0, .inl (k 0, n_0, .inl f))] → va_S A s.heap H locs → lv_has ls 4 [(0, .ref q_0), (1, .int x_0), (2, .int (nI i)), (3, .int (nI n_0))] → W p l e { frames := 0, cells := 0, slots := 0, locals := 0 } s m args below meth c H locs 0 0 (MQ below (va_Qv (fun u : zS => u.1 = 0) (zB D k A (fun u => [(q_0, .inl (k 0, n_0, .inl (fun _ => x_0)))])) A) args s 0 0 A) (F0 m 5 ls []) := by
    intro r
    induction r with
    | zero =>
      intro i f H locs ls hi hf hP hD hS hl
      refine lv_iload_n hx hb dJ7_fill_53178_5 rfl (lv_at hl 2 rfl) ?_
      refine lv_iload_n hx hb dJ7_fill_53178_6 rfl (lv_at hl 3 rfl) ?_
      refine lv_icmp_ge (tgt := 20) hx hb dJ7_fill_53178_7 (by decide) (fun _ => ?_) (fun c1 => absurd (nI_le (by omega) (by omega)) c1)
      have hP2 := z_cellEq (g := fun _ => x_0) hP (q0 := 0) rfl (fun j hj => hf j (by omega))
      have hD2 : va_D A [(q_0, .inl (k 0, n_0, .inl (fun _ => x_0)))] := hD.set (p := 0) rfl
      exact z_vret (ws := [(q_0, .inl (k 0, n_0, .inl (fun _ => x_0)))]) C0 hr hlk hK hP2 hD2 hS (0, fun _ => 0) rfl [0] rfl rfl rfl dJ7_fill_53178_20
    | succ r ih =>
      intro i f H locs ls hi hf hP hD hS hl
      refine lv_iload_n hx hb dJ7_fill_53178_5 rfl (lv_at hl 2 rfl) ?_
      refine lv_iload_n hx hb dJ7_fill_53178_6 rfl (lv_at hl 3 rfl) ?_
      refine lv_icmp_ge (tgt := 20) hx hb dJ7_fill_53178_7 (by decide) (fun c1 => absurd c1 (nI_ge (by omega) (by omega))) (fun _ => ?_)
      refine lv_aload_n hx hb dJ7_fill_53178_10 rfl (lv_at hl 0 rfl) ?_
      refine lv_iload_n hx hb dJ7_fill_53178_11 rfl (lv_at hl 2 rfl) ?_
      refine lv_iload_n hx hb dJ7_fill_53178_12 rfl (lv_at hl 1 rfl) ?_
      refine va_iast hx hb hK hP hD hS 0 0 rfl rfl (vp_in_nI (by omega) (by omega)) dJ7_fill_53178_13 (fun H locs hP hD hS => ?_)
      rw [nI_clamp (by omega)] at hP hD
      refine lv_iinc (v := nI (i + 1)) (lv' := [(2, .int (nI (i + 1))), (0, .ref q_0), (1, .int x_0), (3, .int (nI n_0))]) hx hb dJ7_fill_53178_14 hl (k := 2) rfl (nI_1 i) (by decide) rfl (fun ls hl => ?_)
      refine lv_goto (tgt := 5) hx hb dJ7_fill_53178_17 (by decide) ?_
      exact ih (i + 1) (upd f i x_0) H locs ls (by omega) (fun j hj => by
        by_cases h : j = i
        · subst h; exact pk_us
        · rw [pk_un h]; exact hf j (by omega)) hP hD hS (lv_sub hl [1, 2, 0, 3] rfl)
  refine lv_iconst (v := 0) hx hb dJ7_fill_53178_0 (by decide) ?_
  refine lv_istore_n (lv' := [(2, .int 0), (0, .ref q_0), (1, .int x_0)]) hx hb dJ7_fill_53178_1 rfl hl (by decide) rfl (fun ls hl => ?_)
  refine lv_aload_n hx hb dJ7_fill_53178_2 rfl (lv_at hl 1 rfl) ?_
  refine va_alen (v := nI n_0) (ty := .int) hx hb hK hP 0 0 rfl rfl rfl dJ7_fill_53178_3 ?_
  refine lv_istore_n (lv' := [(3, .int (nI n_0)), (2, .int 0), (0, .ref q_0), (1, .int x_0)]) hx hb dJ7_fill_53178_4 rfl hl (by decide) rfl (fun ls hl => ?_)
  exact loop n_0 0 f_0 _ _ ls (by omega) (fun j hj => absurd hj (Nat.not_lt_zero j)) hP hD hS (lv_sub hl [2, 3, 1, 0] rfl)
theorem kMinL : Cond.methodLink RX11 390 Lib.Math.min.name ∈ lw_g := mk_k 1206 (by decide +kernel) rfl
theorem kMinS : Cond.static Lib.Math.min.name ∈ lw_g := mk_k 611 (by decide +kernel) rfl
theorem kMinC : Cond.code Lib.Math.min.name Lib.Math.min.code 2 (some .int) ∈ lw_g := mk_k 612 (by decide +kernel) rfl
theorem kAcpL : Cond.methodLink RX11 395 arraycopyName ∈ lw_g := mk_k 1207 (by decide +kernel) rfl
theorem kAcpN : Cond.native arraycopyName ∈ lw_g := mk_k 857 (by decide +kernel) rfl
theorem kAcpS : Cond.static arraycopyName ∈ lw_g := mk_k 856 (by decide +kernel) rfl
set_option maxHeartbeats 4000000 in
set_option maxRecDepth 100000 in
theorem c_copyRow (l : Launch) (D : va_G) (k : Nat → ClassId) (q_0 q_1 : Nat) (f_0 f_1 : Nat → Int32) (n_0 : Nat) (hn : n_0 < 2 ^ 31) : zMv l yX11_copyRow cX11_copyRow 2 none ({ frames := 1, cells := 0, slots := 0, locals := 60 }) D k [.ref q_0, .ref q_1] [(q_0, .inl (k 0, n_0, .inl f_0)), (q_1, .inl (k 0, n_0, .inl f_1))] (fun u => u.1 = 0) (fun u => [(q_0, .inl (k 0, n_0, .inl f_0)), (q_1, .inl (k 0, n_0, .inl f_0))]) := by
  refine zMv_of (own := RX11) (by decide +kernel) rfl (Nat.le_of_ble_eq_true rfl) ?_
  intro p e s m args below meth c A ls C0 hr hlk hin hP hD hS hA hK hN hl
  have hx := C0.1
  have hb := C0.2.1
  have hml := C0.2.2.1
  have hown := C0.2.2.2.1
  have hts := C0.2.2.2.2
  have hl : lv_has ls 2 [(0, .ref q_0), (1, .ref q_1)] := hl
  refine lv_aload_n hx hb dX11_copyRow_0 rfl (lv_at hl 0 rfl) ?_
  refine lv_iconst (v := 0) hx hb dX11_copyRow_1 (by decide) ?_
  refine lv_aload_n hx hb dX11_copyRow_2 rfl (lv_at hl 1 rfl) ?_
  refine lv_iconst (v := 0) hx hb dX11_copyRow_3 (by decide) ?_
  refine lv_aload_n hx hb dX11_copyRow_4 rfl (lv_at hl 0 rfl) ?_
  refine va_alen (v := nI n_0) (ty := .int) hx hb hK hP 0 0 rfl rfl rfl dX11_copyRow_5 ?_
  refine lv_aload_n hx hb dX11_copyRow_6 rfl (lv_at hl 1 rfl) ?_
  refine va_alen (v := nI n_0) (ty := .int) hx hb hK hP 1 0 rfl rfl rfl dX11_copyRow_7 ?_
  refine va_mmin hx hb (by rw [hml]; exact hl.1.symm) hown (hts _ kMinL) (hts _ kMinS) (hts _ kZ_J9) (hts _ kMinC) (Nat.le_of_ble_eq_true rfl) (Nat.le_of_ble_eq_true rfl) (Nat.le_of_ble_eq_true rfl) (Nat.le_of_ble_eq_true rfl) dX11_copyRow_8 ?_
  refine lv_toc (v := nI n_0) (by simp) ?_
  refine va_copyi (ty := .int) hx hb (by rw [hml]; exact hl.1.symm) hown (hts _ kAcpL) (hts _ kAcpN) (hts _ kAcpS) (hts _ kZ_J10) hK hP hD hS 0 1 0 0 rfl rfl rfl rfl rfl (by decide) (by decide) (nI_pos hn) (by rw [nI_clamp hn]; simp) (by rw [nI_clamp hn]; simp) (fun i _ => rfl) (Nat.le_of_ble_eq_true rfl) (by decide) dX11_copyRow_11 (fun H locs hP hD hS => ?_)
  have hP2 := z_cellEq (g := f_0) hP (q0 := 1) rfl (fun j hj => by
    rw [nI_clamp hn]
    show va_cpy f_0 f_1 0 0 n_0 j = f_0 j
    rw [pk_cpy_in (Nat.zero_le j) (by omega)]
    congr 1
    omega)
  have hP2 : va_P D vwCl [(q_0, .inl (k 0, n_0, .inl f_0)), (q_1, .inl (k 0, n_0, .inl f_0))] H := hP2
  have hD2 : va_D A [(q_0, .inl (k 0, n_0, .inl f_0)), (q_1, .inl (k 0, n_0, .inl f_0))] := hD.set (p := 1) rfl
  exact z_vret C0 hr hlk hK hP2 hD2 hS (0, fun _ => 0) rfl [0, 1] rfl rfl rfl dX11_copyRow_14
end
section
set_option maxHeartbeats 4000000 in
set_option maxRecDepth 100000 in
theorem c_X11_image_1 (l : Launch) (D : va_G) (k : Nat → ClassId) (q_0 : Nat) (q_1 : Nat) (q_2 : Nat) (q_3 : Nat) (q_4 : Nat) (q_5 : Nat) (q_6 : Nat) (q_7 : Nat) (q_8 : Nat) (q_9 : Nat) (q_10 : Nat) (q_11 : Nat) (q_12 : Nat) (q_13 : Nat) (q_14 : Nat) (q_15 : Nat) (q_16 : Nat) (q_17 : Nat) (q_18 : Nat) (q_19 : Nat) (q_20 : Nat) (q_21 : Nat) (q_22 : Nat) (q_23 : Nat) (q_24 : Nat) (q_25 : Nat) (q_26 : Nat) (q_27 : Nat) (q_28 : Nat) (q_29 : Nat) (q_30 : Nat) (q_31 : Nat) (q_32 : Nat) (q_33 : Nat) (q_34 : Nat) (q_35 : Nat) (q_36 : Nat) (q_37 : Nat) (q_38 : Nat) (q_39 : Nat) (q_40 : Nat) (q_41 : Nat) (q_42 : Nat) (q_43 : Nat) (q_44 : Nat) (q_45 : Nat) (q_46 : Nat) (q_47 : Nat) (q_48 : Nat) (q_49 : Nat) (q_50 : Nat) (q_51 : Nat) (q_52 : Nat) (q_53 : Nat) (q_54 : Nat) (x_0 : Int32) (x_1 : Int32) (x_2 : Int32) (x_3 : Int32) (f_0 : Nat → Int32) (f_1 : Nat → Int32) (f_2 : Nat → Int32) (f_3 : Nat → Int32) (f_4 : Nat → Int32) (f_5 : Nat → Int32) (f_6 : Nat → Int32) (f_7 : Nat → Int32) (f_8 : Nat → Int32) (f_9 : Nat → Int32) (f_10 : Nat → Int32) (f_11 : Nat → Int32) (f_12 : Nat → Int32) (f_13 : Nat → Int32) (f_14 : Nat → Int32) (f_15 : Nat → Int32) (f_16 : Nat → Int32) (f_17 : Nat → Int32) (f_18 : Nat → Int32) (f_19 : Nat → Int32) (f_20 : Nat → Int32) (f_21 : Nat → Int32) (f_22 : Nat → Int32) (f_23 : Nat → Int32) (f_24 : Nat → Int32) (f_25 : Nat → Int32) (f_26 : Nat → Int32) (f_27 : Nat → Int32) (f_28 : Nat → Int32) (f_29 : Nat → Int32) (f_30 : Nat → Int32) (f_31 : Nat → Int32) (f_32 : Nat → Int32) (f_33 : Nat → Int32) (f_34 : Nat → Int32) (f_35 : Nat → Int32) (f_36 : Nat → Int32) (f_37 : Nat → Int32) (f_38 : Nat → Int32) (f_39 : Nat → Int32) (f_40 : Nat → Int32) (f_41 : Nat → Int32) : zMi l yX11_image cX11_image 2 (some .int) ({ frames := 4, cells := 50, slots := 7144, locals := 124 }) D k [.ref q_0, .int x_0] [(q_0, .inr (11, [.ref q_2, .ref q_1, .ref q_52, .ref q_53, .ref q_54, .int x_1])), (q_1, .inl (k 4, 2, .inr (.inr (.inr (.inr (fun _ => none)))))), (q_2, .inr (3, [.ref q_3, .ref q_16, .ref q_22, .ref q_35, .ref q_38, .ref q_42])), (q_3, .inr (6, [.int 0, .ref q_4, .ref q_5, .ref q_6, .ref q_7, .ref q_8, .int 0, .ref q_9, .int 0, .ref q_10, .ref q_11, .ref q_12, .ref q_13, .ref q_14, .ref q_15])), (q_4, .inl (k 0, 40, .inl f_0)), (q_5, .inl (k 0, 40, .inl f_1)), (q_6, .inl (k 0, 40, .inl f_2)), (q_7, .inl (k 0, 40, .inl f_3)), (q_8, .inl (k 0, 40, .inl f_4)), (q_9, .inl (k 0, 400, .inl f_5)), (q_10, .inl (k 0, 60, .inl f_6)), (q_11, .inl (k 0, 60, .inl f_7)), (q_12, .inl (k 0, 2, .inl f_8)), (q_13, .inl (k 0, 120, .inl f_9)), (q_14, .inl (k 0, 120, .inl f_10)), (q_15, .inl (k 0, 120, .inl f_11)), (q_16, .inr (8, [.int 0, .ref q_17, .ref q_18, .ref q_19, .ref q_20, .ref q_21])), (q_17, .inl (k 0, 120, .inl f_12)), (q_18, .inl (k 0, 120, .inl f_13)), (q_19, .inl (k 0, 120, .inl f_14)), (q_20, .inl (k 0, 120, .inl f_15)), (q_21, .inl (k 0, 120, .inl f_16)), (q_22, .inr (5, [.int 0, .ref q_23, .ref q_24, .ref q_25, .ref q_26, .ref q_27, .ref q_28, .ref q_29, .ref q_30, .ref q_31, .ref q_32, .ref q_33, .ref q_34, .int x_2, .int x_3])), (q_23, .inl (k 0, 400, .inl f_17)), (q_24, .inl (k 0, 400, .inl f_18)), (q_25, .inl (k 0, 400, .inl f_19)), (q_26, .inl (k 0, 400, .inl f_20)), (q_27, .inl (k 0, 400, .inl f_21)), (q_28, .inl (k 0, 400, .inl f_22)), (q_29, .inl (k 0, 400, .inl f_23)), (q_30, .inl (k 0, 400, .inl f_24)), (q_31, .inl (k 0, 400, .inl f_25)), (q_32, .inl (k 0, 400, .inl f_26)), (q_33, .inl (k 0, 400, .inl f_27)), (q_34, .inl (k 0, 400, .inl f_28)), (q_35, .inr (0, [.int 0, .ref q_36, .ref q_37])), (q_36, .inl (k 3, 20, .inr (.inr (.inr (.inr (fun _ => none)))))), (q_37, .inl (k 0, 20, .inl f_29)), (q_38, .inr (9, [.ref q_39, .ref q_40, .ref q_41])), (q_39, .inl (k 0, 160, .inl f_30)), (q_40, .inl (k 0, 160, .inl f_31)), (q_41, .inl (k 0, 160, .inl f_32)), (q_42, .inr (4, [.int 0, .ref q_43, .int 0, .ref q_44, .ref q_45, .int 0, .ref q_46, .ref q_47, .ref q_48, .int 0, .ref q_49, .ref q_50, .ref q_51])), (q_43, .inl (k 0, 6, .inl f_33)), (q_44, .inl (k 0, 6, .inl f_34)), (q_45, .inl (k 0, 6, .inl f_35)), (q_46, .inl (k 0, 9, .inl f_36)), (q_47, .inl (k 0, 9, .inl f_37)), (q_48, .inl (k 0, 9, .inl f_38)), (q_49, .inl (k 0, 12, .inl f_39)), (q_50, .inl (k 0, 12, .inl f_40)), (q_51, .inl (k 0, 12, .inl f_41))] (fun r u => (u.1 = 0 ∧ r = (-1) ∧ ((((x_0 < 0) ∨ (¬ x_0 < 0 ∧ ¬ x_0 ≤ 1))))) ∨ (u.1 = 1 ∧ r = 0 ∧ ((((¬ x_0 < 0 ∧ x_0 ≤ 1)))))) (fun u => []) := by
  refine zMi_of (own := RX11) (by decide +kernel) rfl (Nat.le_of_ble_eq_true rfl) ?_
  intro p e s m args below meth c A ls C0 hr hlk hin hP hD hS hA hK hN hl
  have hx := C0.1
  have hb := C0.2.1
  have hml := C0.2.2.1
  have hown := C0.2.2.2.1
  have hts := C0.2.2.2.2
  have hl : lv_has ls 2 [(0, .ref q_0), (1, .int x_0)] := hl
  have hP : va_P D vwCl [(q_0, .inr (11, [.ref q_2, .ref q_1, .ref q_52, .ref q_53, .ref q_54, .int x_1])), (q_1, .inl (k 4, 2, .inr (.inr (.inr (.inr (fun _ => none)))))), (q_2, .inr (3, [.ref q_3, .ref q_16, .ref q_22, .ref q_35, .ref q_38, .ref q_42])), (q_3, .inr (6, [.int 0, .ref q_4, .ref q_5, .ref q_6, .ref q_7, .ref q_8, .int 0, .ref q_9, .int 0, .ref q_10, .ref q_11, .ref q_12, .ref q_13, .ref q_14, .ref q_15])), (q_4, .inl (k 0, 40, .inl f_0)), (q_5, .inl (k 0, 40, .inl f_1)), (q_6, .inl (k 0, 40, .inl f_2)), (q_7, .inl (k 0, 40, .inl f_3)), (q_8, .inl (k 0, 40, .inl f_4)), (q_9, .inl (k 0, 400, .inl f_5)), (q_10, .inl (k 0, 60, .inl f_6)), (q_11, .inl (k 0, 60, .inl f_7)), (q_12, .inl (k 0, 2, .inl f_8)), (q_13, .inl (k 0, 120, .inl f_9)), (q_14, .inl (k 0, 120, .inl f_10)), (q_15, .inl (k 0, 120, .inl f_11)), (q_16, .inr (8, [.int 0, .ref q_17, .ref q_18, .ref q_19, .ref q_20, .ref q_21])), (q_17, .inl (k 0, 120, .inl f_12)), (q_18, .inl (k 0, 120, .inl f_13)), (q_19, .inl (k 0, 120, .inl f_14)), (q_20, .inl (k 0, 120, .inl f_15)), (q_21, .inl (k 0, 120, .inl f_16)), (q_22, .inr (5, [.int 0, .ref q_23, .ref q_24, .ref q_25, .ref q_26, .ref q_27, .ref q_28, .ref q_29, .ref q_30, .ref q_31, .ref q_32, .ref q_33, .ref q_34, .int x_2, .int x_3])), (q_23, .inl (k 0, 400, .inl f_17)), (q_24, .inl (k 0, 400, .inl f_18)), (q_25, .inl (k 0, 400, .inl f_19)), (q_26, .inl (k 0, 400, .inl f_20)), (q_27, .inl (k 0, 400, .inl f_21)), (q_28, .inl (k 0, 400, .inl f_22)), (q_29, .inl (k 0, 400, .inl f_23)), (q_30, .inl (k 0, 400, .inl f_24)), (q_31, .inl (k 0, 400, .inl f_25)), (q_32, .inl (k 0, 400, .inl f_26)), (q_33, .inl (k 0, 400, .inl f_27)), (q_34, .inl (k 0, 400, .inl f_28)), (q_35, .inr (0, [.int 0, .ref q_36, .ref q_37])), (q_36, .inl (k 3, 20, .inr (.inr (.inr (.inr (fun _ => none)))))), (q_37, .inl (k 0, 20, .inl f_29)), (q_38, .inr (9, [.ref q_39, .ref q_40, .ref q_41])), (q_39, .inl (k 0, 160, .inl f_30)), (q_40, .inl (k 0, 160, .inl f_31)), (q_41, .inl (k 0, 160, .inl f_32)), (q_42, .inr (4, [.int 0, .ref q_43, .int 0, .ref q_44, .ref q_45, .int 0, .ref q_46, .ref q_47, .ref q_48, .int 0, .ref q_49, .ref q_50, .ref q_51])), (q_43, .inl (k 0, 6, .inl f_33)), (q_44, .inl (k 0, 6, .inl f_34)), (q_45, .inl (k 0, 6, .inl f_35)), (q_46, .inl (k 0, 9, .inl f_36)), (q_47, .inl (k 0, 9, .inl f_37)), (q_48, .inl (k 0, 9, .inl f_38)), (q_49, .inl (k 0, 12, .inl f_39)), (q_50, .inl (k 0, 12, .inl f_40)), (q_51, .inl (k 0, 12, .inl f_41))] s.heap := hP
  refine lv_iload_n hx hb dX11_image_0 rfl (lv_at hl 1 rfl) ?_
  refine lv_iconst (v := 0) hx hb dX11_image_1 (by decide) ?_
  refine lv_iconst (v := 1) hx hb dX11_image_2 (by decide) ?_
  refine z_bi0 (z_runS (As := [.int x_0, .int 0, .int 1]) (rest := []) C0 (c_X11_isOutside_1 l D k x_0 0 1 _) okS_X11_isOutside kM_X11_47 rfl (z_p0 hK hN) rfl hl.1 rfl (Nat.le_of_ble_eq_true rfl) dX11_image_3 rfl) hP hS hA (fun r1 u1 H locs hw1 hP hS => ?_)
  obtain ⟨i1, a1⟩ := u1
  dsimp only at hw1
  rcases hw1 with ⟨rfl, rfl, c1⟩ | ⟨rfl, rfl, c1⟩
  · refine lv_if_eq (tgt := 15) hx hb dX11_image_6 (by decide) (fun c2 => absurd c2 (by decide)) (fun _ => ?_)
    refine lv_aload_n hx hb dX11_image_9 rfl (lv_at hl 0 rfl) ?_
    refine lv_iconst (v := (-1)) hx hb dX11_image_10 (by decide) ?_
    refine z_bi (wr := [(q_1, .inl (k 4, 2, .inr (.inr (.inr (.inr (fun _ => none)))))), (q_2, .inr (3, [.ref q_3, .ref q_16, .ref q_22, .ref q_35, .ref q_38, .ref q_42])), (q_3, .inr (6, [.int 0, .ref q_4, .ref q_5, .ref q_6, .ref q_7, .ref q_8, .int 0, .ref q_9, .int 0, .ref q_10, .ref q_11, .ref q_12, .ref q_13, .ref q_14, .ref q_15])), (q_4, .inl (k 0, 40, .inl f_0)), (q_5, .inl (k 0, 40, .inl f_1)), (q_6, .inl (k 0, 40, .inl f_2)), (q_7, .inl (k 0, 40, .inl f_3)), (q_8, .inl (k 0, 40, .inl f_4)), (q_9, .inl (k 0, 400, .inl f_5)), (q_10, .inl (k 0, 60, .inl f_6)), (q_11, .inl (k 0, 60, .inl f_7)), (q_12, .inl (k 0, 2, .inl f_8)), (q_13, .inl (k 0, 120, .inl f_9)), (q_14, .inl (k 0, 120, .inl f_10)), (q_15, .inl (k 0, 120, .inl f_11)), (q_16, .inr (8, [.int 0, .ref q_17, .ref q_18, .ref q_19, .ref q_20, .ref q_21])), (q_17, .inl (k 0, 120, .inl f_12)), (q_18, .inl (k 0, 120, .inl f_13)), (q_19, .inl (k 0, 120, .inl f_14)), (q_20, .inl (k 0, 120, .inl f_15)), (q_21, .inl (k 0, 120, .inl f_16)), (q_22, .inr (5, [.int 0, .ref q_23, .ref q_24, .ref q_25, .ref q_26, .ref q_27, .ref q_28, .ref q_29, .ref q_30, .ref q_31, .ref q_32, .ref q_33, .ref q_34, .int x_2, .int x_3])), (q_23, .inl (k 0, 400, .inl f_17)), (q_24, .inl (k 0, 400, .inl f_18)), (q_25, .inl (k 0, 400, .inl f_19)), (q_26, .inl (k 0, 400, .inl f_20)), (q_27, .inl (k 0, 400, .inl f_21)), (q_28, .inl (k 0, 400, .inl f_22)), (q_29, .inl (k 0, 400, .inl f_23)), (q_30, .inl (k 0, 400, .inl f_24)), (q_31, .inl (k 0, 400, .inl f_25)), (q_32, .inl (k 0, 400, .inl f_26)), (q_33, .inl (k 0, 400, .inl f_27)), (q_34, .inl (k 0, 400, .inl f_28)), (q_35, .inr (0, [.int 0, .ref q_36, .ref q_37])), (q_36, .inl (k 3, 20, .inr (.inr (.inr (.inr (fun _ => none)))))), (q_37, .inl (k 0, 20, .inl f_29)), (q_38, .inr (9, [.ref q_39, .ref q_40, .ref q_41])), (q_39, .inl (k 0, 160, .inl f_30)), (q_40, .inl (k 0, 160, .inl f_31)), (q_41, .inl (k 0, 160, .inl f_32)), (q_42, .inr (4, [.int 0, .ref q_43, .int 0, .ref q_44, .ref q_45, .int 0, .ref q_46, .ref q_47, .ref q_48, .int 0, .ref q_49, .ref q_50, .ref q_51])), (q_43, .inl (k 0, 6, .inl f_33)), (q_44, .inl (k 0, 6, .inl f_34)), (q_45, .inl (k 0, 6, .inl f_35)), (q_46, .inl (k 0, 9, .inl f_36)), (q_47, .inl (k 0, 9, .inl f_37)), (q_48, .inl (k 0, 9, .inl f_38)), (q_49, .inl (k 0, 12, .inl f_39)), (q_50, .inl (k 0, 12, .inl f_40)), (q_51, .inl (k 0, 12, .inl f_41))]) (z_runV (C := RX11) (As := [.int (-1)]) (rest := []) C0 (c_X11_answer_1 l D k q_0 q_2 q_1 q_52 q_53 q_54 x_1 _) okV_X11_answer kM_X11_55 rfl (z_pV (q0 := 0) hK hN hP hD [0] rfl rfl rfl rfl rfl) rfl hl.1 rfl (Nat.le_of_ble_eq_true rfl) dX11_image_11 rfl) hP hD hS hA [0] [1, 2, 3, 4, 5, 6, 7, 8, 9, 10, 11, 12, 13, 14, 15, 16, 17, 18, 19, 20, 21, 22, 23, 24, 25, 26, 27, 28, 29, 30, 31, 32, 33, 34, 35, 36, 37, 38, 39, 40, 41, 42, 43, 44, 45, 46, 47, 48, 49, 50, 51] rfl rfl rfl rfl (fun r3 u3 H locs hw3 hP hD hS => ?_)
    obtain ⟨i3, a3⟩ := u3
    dsimp only at hw3
    obtain ⟨rfl, rfl⟩ := hw3
    have hP : va_P D vwCl [(q_1, .inl (k 4, 2, .inr (.inr (.inr (.inr (fun _ => none)))))), (q_2, .inr (3, [.ref q_3, .ref q_16, .ref q_22, .ref q_35, .ref q_38, .ref q_42])), (q_3, .inr (6, [.int 0, .ref q_4, .ref q_5, .ref q_6, .ref q_7, .ref q_8, .int 0, .ref q_9, .int 0, .ref q_10, .ref q_11, .ref q_12, .ref q_13, .ref q_14, .ref q_15])), (q_4, .inl (k 0, 40, .inl f_0)), (q_5, .inl (k 0, 40, .inl f_1)), (q_6, .inl (k 0, 40, .inl f_2)), (q_7, .inl (k 0, 40, .inl f_3)), (q_8, .inl (k 0, 40, .inl f_4)), (q_9, .inl (k 0, 400, .inl f_5)), (q_10, .inl (k 0, 60, .inl f_6)), (q_11, .inl (k 0, 60, .inl f_7)), (q_12, .inl (k 0, 2, .inl f_8)), (q_13, .inl (k 0, 120, .inl f_9)), (q_14, .inl (k 0, 120, .inl f_10)), (q_15, .inl (k 0, 120, .inl f_11)), (q_16, .inr (8, [.int 0, .ref q_17, .ref q_18, .ref q_19, .ref q_20, .ref q_21])), (q_17, .inl (k 0, 120, .inl f_12)), (q_18, .inl (k 0, 120, .inl f_13)), (q_19, .inl (k 0, 120, .inl f_14)), (q_20, .inl (k 0, 120, .inl f_15)), (q_21, .inl (k 0, 120, .inl f_16)), (q_22, .inr (5, [.int 0, .ref q_23, .ref q_24, .ref q_25, .ref q_26, .ref q_27, .ref q_28, .ref q_29, .ref q_30, .ref q_31, .ref q_32, .ref q_33, .ref q_34, .int x_2, .int x_3])), (q_23, .inl (k 0, 400, .inl f_17)), (q_24, .inl (k 0, 400, .inl f_18)), (q_25, .inl (k 0, 400, .inl f_19)), (q_26, .inl (k 0, 400, .inl f_20)), (q_27, .inl (k 0, 400, .inl f_21)), (q_28, .inl (k 0, 400, .inl f_22)), (q_29, .inl (k 0, 400, .inl f_23)), (q_30, .inl (k 0, 400, .inl f_24)), (q_31, .inl (k 0, 400, .inl f_25)), (q_32, .inl (k 0, 400, .inl f_26)), (q_33, .inl (k 0, 400, .inl f_27)), (q_34, .inl (k 0, 400, .inl f_28)), (q_35, .inr (0, [.int 0, .ref q_36, .ref q_37])), (q_36, .inl (k 3, 20, .inr (.inr (.inr (.inr (fun _ => none)))))), (q_37, .inl (k 0, 20, .inl f_29)), (q_38, .inr (9, [.ref q_39, .ref q_40, .ref q_41])), (q_39, .inl (k 0, 160, .inl f_30)), (q_40, .inl (k 0, 160, .inl f_31)), (q_41, .inl (k 0, 160, .inl f_32)), (q_42, .inr (4, [.int 0, .ref q_43, .int 0, .ref q_44, .ref q_45, .int 0, .ref q_46, .ref q_47, .ref q_48, .int 0, .ref q_49, .ref q_50, .ref q_51])), (q_43, .inl (k 0, 6, .inl f_33)), (q_44, .inl (k 0, 6, .inl f_34)), (q_45, .inl (k 0, 6, .inl f_35)), (q_46, .inl (k 0, 9, .inl f_36)), (q_47, .inl (k 0, 9, .inl f_37)), (q_48, .inl (k 0, 9, .inl f_38)), (q_49, .inl (k 0, 12, .inl f_39)), (q_50, .inl (k 0, 12, .inl f_40)), (q_51, .inl (k 0, 12, .inl f_41)), (q_0, .inr (11, [.ref q_2, .ref q_1, .ref q_52, .ref q_53, .ref q_54, .int (-1)]))] H := hP
    have hD : va_D A [(q_1, .inl (k 4, 2, .inr (.inr (.inr (.inr (fun _ => none)))))), (q_2, .inr (3, [.ref q_3, .ref q_16, .ref q_22, .ref q_35, .ref q_38, .ref q_42])), (q_3, .inr (6, [.int 0, .ref q_4, .ref q_5, .ref q_6, .ref q_7, .ref q_8, .int 0, .ref q_9, .int 0, .ref q_10, .ref q_11, .ref q_12, .ref q_13, .ref q_14, .ref q_15])), (q_4, .inl (k 0, 40, .inl f_0)), (q_5, .inl (k 0, 40, .inl f_1)), (q_6, .inl (k 0, 40, .inl f_2)), (q_7, .inl (k 0, 40, .inl f_3)), (q_8, .inl (k 0, 40, .inl f_4)), (q_9, .inl (k 0, 400, .inl f_5)), (q_10, .inl (k 0, 60, .inl f_6)), (q_11, .inl (k 0, 60, .inl f_7)), (q_12, .inl (k 0, 2, .inl f_8)), (q_13, .inl (k 0, 120, .inl f_9)), (q_14, .inl (k 0, 120, .inl f_10)), (q_15, .inl (k 0, 120, .inl f_11)), (q_16, .inr (8, [.int 0, .ref q_17, .ref q_18, .ref q_19, .ref q_20, .ref q_21])), (q_17, .inl (k 0, 120, .inl f_12)), (q_18, .inl (k 0, 120, .inl f_13)), (q_19, .inl (k 0, 120, .inl f_14)), (q_20, .inl (k 0, 120, .inl f_15)), (q_21, .inl (k 0, 120, .inl f_16)), (q_22, .inr (5, [.int 0, .ref q_23, .ref q_24, .ref q_25, .ref q_26, .ref q_27, .ref q_28, .ref q_29, .ref q_30, .ref q_31, .ref q_32, .ref q_33, .ref q_34, .int x_2, .int x_3])), (q_23, .inl (k 0, 400, .inl f_17)), (q_24, .inl (k 0, 400, .inl f_18)), (q_25, .inl (k 0, 400, .inl f_19)), (q_26, .inl (k 0, 400, .inl f_20)), (q_27, .inl (k 0, 400, .inl f_21)), (q_28, .inl (k 0, 400, .inl f_22)), (q_29, .inl (k 0, 400, .inl f_23)), (q_30, .inl (k 0, 400, .inl f_24)), (q_31, .inl (k 0, 400, .inl f_25)), (q_32, .inl (k 0, 400, .inl f_26)), (q_33, .inl (k 0, 400, .inl f_27)), (q_34, .inl (k 0, 400, .inl f_28)), (q_35, .inr (0, [.int 0, .ref q_36, .ref q_37])), (q_36, .inl (k 3, 20, .inr (.inr (.inr (.inr (fun _ => none)))))), (q_37, .inl (k 0, 20, .inl f_29)), (q_38, .inr (9, [.ref q_39, .ref q_40, .ref q_41])), (q_39, .inl (k 0, 160, .inl f_30)), (q_40, .inl (k 0, 160, .inl f_31)), (q_41, .inl (k 0, 160, .inl f_32)), (q_42, .inr (4, [.int 0, .ref q_43, .int 0, .ref q_44, .ref q_45, .int 0, .ref q_46, .ref q_47, .ref q_48, .int 0, .ref q_49, .ref q_50, .ref q_51])), (q_43, .inl (k 0, 6, .inl f_33)), (q_44, .inl (k 0, 6, .inl f_34)), (q_45, .inl (k 0, 6, .inl f_35)), (q_46, .inl (k 0, 9, .inl f_36)), (q_47, .inl (k 0, 9, .inl f_37)), (q_48, .inl (k 0, 9, .inl f_38)), (q_49, .inl (k 0, 12, .inl f_39)), (q_50, .inl (k 0, 12, .inl f_40)), (q_51, .inl (k 0, 12, .inl f_41)), (q_0, .inr (11, [.ref q_2, .ref q_1, .ref q_52, .ref q_53, .ref q_54, .int (-1)]))] := hD
    exact z_iret C0 hr hlk rfl hK hP hD hS (0, fun _ => 0) (Or.inl ⟨rfl, rfl, c1⟩) [] rfl rfl rfl dX11_image_14
  · refine lv_if_eq (tgt := 15) hx hb dX11_image_6 (by decide) (fun _ => ?_) (fun c4 => absurd (by decide) c4)
    refine lv_aload_n hx hb dX11_image_15 rfl (lv_at hl 0 rfl) ?_
    refine va_get (D := D) (ci := 11) (v := .ref q_1) (C := RX11) (T := TX11) (N := 6) hx hb hts inX11 hown hK hP 0 rfl rfl 1 (by decide) (hts _ kF_X11_16) (fun _ h9 => h9) rfl dX11_image_16 ?_
    refine lv_iload_n hx hb dX11_image_19 rfl (lv_at hl 1 rfl) ?_
    refine va_aldq hx hb hK hP 1 4 rfl rfl (by have bA0 := Int32.le_toInt x_0; have bB0 := Int32.toInt_lt x_0; revert c1; simp only [vp_in_iff, Int32.lt_iff_toInt_lt, Int32.le_iff_toInt_le, Int64.lt_iff_toInt_lt, Int64.le_iff_toInt_le, Int32.toInt_toInt64, ← Int32.toInt_inj, ← Int64.toInt_inj, Int32.reduceToInt, Int64.reduceToInt] <;> omega) dX11_image_20 ?_
    refine lv_torf (v := .null) rfl ?_
    refine lv_ifnonnullN hx hb dX11_image_21 ?_
    refine lv_aload_n hx hb dX11_image_24 rfl (lv_at hl 0 rfl) ?_
    refine va_get (D := D) (ci := 11) (v := .ref q_1) (C := RX11) (T := TX11) (N := 6) hx hb hts inX11 hown hK hP 0 rfl rfl 1 (by decide) (hts _ kF_X11_16) (fun _ h9 => h9) rfl dX11_image_25 ?_
    refine lv_iload_n hx hb dX11_image_28 rfl (lv_at hl 1 rfl) ?_
    refine va_new (ci := 3) (fs := [.null, .null, .null, .null, .null, .null]) (C := RX3) (T := TX3) (N := 6) hx hb hts inX3 tyX3 tyX3_ok hown (hts _ kC_X11_9) (hts _ kI_X3) (hts _ kZ_X3) hK hP hD hS hA rfl dfX3 (Nat.le_of_ble_eq_true rfl) (Nat.le_of_ble_eq_true rfl) dX11_image_29 (fun q5 H hP hD hS => ?_)
    have hP : va_P D vwCl [(q_0, .inr (11, [.ref q_2, .ref q_1, .ref q_52, .ref q_53, .ref q_54, .int x_1])), (q_1, .inl (k 4, 2, .inr (.inr (.inr (.inr (fun _ => none)))))), (q_2, .inr (3, [.ref q_3, .ref q_16, .ref q_22, .ref q_35, .ref q_38, .ref q_42])), (q_3, .inr (6, [.int 0, .ref q_4, .ref q_5, .ref q_6, .ref q_7, .ref q_8, .int 0, .ref q_9, .int 0, .ref q_10, .ref q_11, .ref q_12, .ref q_13, .ref q_14, .ref q_15])), (q_4, .inl (k 0, 40, .inl f_0)), (q_5, .inl (k 0, 40, .inl f_1)), (q_6, .inl (k 0, 40, .inl f_2)), (q_7, .inl (k 0, 40, .inl f_3)), (q_8, .inl (k 0, 40, .inl f_4)), (q_9, .inl (k 0, 400, .inl f_5)), (q_10, .inl (k 0, 60, .inl f_6)), (q_11, .inl (k 0, 60, .inl f_7)), (q_12, .inl (k 0, 2, .inl f_8)), (q_13, .inl (k 0, 120, .inl f_9)), (q_14, .inl (k 0, 120, .inl f_10)), (q_15, .inl (k 0, 120, .inl f_11)), (q_16, .inr (8, [.int 0, .ref q_17, .ref q_18, .ref q_19, .ref q_20, .ref q_21])), (q_17, .inl (k 0, 120, .inl f_12)), (q_18, .inl (k 0, 120, .inl f_13)), (q_19, .inl (k 0, 120, .inl f_14)), (q_20, .inl (k 0, 120, .inl f_15)), (q_21, .inl (k 0, 120, .inl f_16)), (q_22, .inr (5, [.int 0, .ref q_23, .ref q_24, .ref q_25, .ref q_26, .ref q_27, .ref q_28, .ref q_29, .ref q_30, .ref q_31, .ref q_32, .ref q_33, .ref q_34, .int x_2, .int x_3])), (q_23, .inl (k 0, 400, .inl f_17)), (q_24, .inl (k 0, 400, .inl f_18)), (q_25, .inl (k 0, 400, .inl f_19)), (q_26, .inl (k 0, 400, .inl f_20)), (q_27, .inl (k 0, 400, .inl f_21)), (q_28, .inl (k 0, 400, .inl f_22)), (q_29, .inl (k 0, 400, .inl f_23)), (q_30, .inl (k 0, 400, .inl f_24)), (q_31, .inl (k 0, 400, .inl f_25)), (q_32, .inl (k 0, 400, .inl f_26)), (q_33, .inl (k 0, 400, .inl f_27)), (q_34, .inl (k 0, 400, .inl f_28)), (q_35, .inr (0, [.int 0, .ref q_36, .ref q_37])), (q_36, .inl (k 3, 20, .inr (.inr (.inr (.inr (fun _ => none)))))), (q_37, .inl (k 0, 20, .inl f_29)), (q_38, .inr (9, [.ref q_39, .ref q_40, .ref q_41])), (q_39, .inl (k 0, 160, .inl f_30)), (q_40, .inl (k 0, 160, .inl f_31)), (q_41, .inl (k 0, 160, .inl f_32)), (q_42, .inr (4, [.int 0, .ref q_43, .int 0, .ref q_44, .ref q_45, .int 0, .ref q_46, .ref q_47, .ref q_48, .int 0, .ref q_49, .ref q_50, .ref q_51])), (q_43, .inl (k 0, 6, .inl f_33)), (q_44, .inl (k 0, 6, .inl f_34)), (q_45, .inl (k 0, 6, .inl f_35)), (q_46, .inl (k 0, 9, .inl f_36)), (q_47, .inl (k 0, 9, .inl f_37)), (q_48, .inl (k 0, 9, .inl f_38)), (q_49, .inl (k 0, 12, .inl f_39)), (q_50, .inl (k 0, 12, .inl f_40)), (q_51, .inl (k 0, 12, .inl f_41)), (q5, .inr (3, [.null, .null, .null, .null, .null, .null]))] H := hP
    have hD : va_D A [(q_0, .inr (11, [.ref q_2, .ref q_1, .ref q_52, .ref q_53, .ref q_54, .int x_1])), (q_1, .inl (k 4, 2, .inr (.inr (.inr (.inr (fun _ => none)))))), (q_2, .inr (3, [.ref q_3, .ref q_16, .ref q_22, .ref q_35, .ref q_38, .ref q_42])), (q_3, .inr (6, [.int 0, .ref q_4, .ref q_5, .ref q_6, .ref q_7, .ref q_8, .int 0, .ref q_9, .int 0, .ref q_10, .ref q_11, .ref q_12, .ref q_13, .ref q_14, .ref q_15])), (q_4, .inl (k 0, 40, .inl f_0)), (q_5, .inl (k 0, 40, .inl f_1)), (q_6, .inl (k 0, 40, .inl f_2)), (q_7, .inl (k 0, 40, .inl f_3)), (q_8, .inl (k 0, 40, .inl f_4)), (q_9, .inl (k 0, 400, .inl f_5)), (q_10, .inl (k 0, 60, .inl f_6)), (q_11, .inl (k 0, 60, .inl f_7)), (q_12, .inl (k 0, 2, .inl f_8)), (q_13, .inl (k 0, 120, .inl f_9)), (q_14, .inl (k 0, 120, .inl f_10)), (q_15, .inl (k 0, 120, .inl f_11)), (q_16, .inr (8, [.int 0, .ref q_17, .ref q_18, .ref q_19, .ref q_20, .ref q_21])), (q_17, .inl (k 0, 120, .inl f_12)), (q_18, .inl (k 0, 120, .inl f_13)), (q_19, .inl (k 0, 120, .inl f_14)), (q_20, .inl (k 0, 120, .inl f_15)), (q_21, .inl (k 0, 120, .inl f_16)), (q_22, .inr (5, [.int 0, .ref q_23, .ref q_24, .ref q_25, .ref q_26, .ref q_27, .ref q_28, .ref q_29, .ref q_30, .ref q_31, .ref q_32, .ref q_33, .ref q_34, .int x_2, .int x_3])), (q_23, .inl (k 0, 400, .inl f_17)), (q_24, .inl (k 0, 400, .inl f_18)), (q_25, .inl (k 0, 400, .inl f_19)), (q_26, .inl (k 0, 400, .inl f_20)), (q_27, .inl (k 0, 400, .inl f_21)), (q_28, .inl (k 0, 400, .inl f_22)), (q_29, .inl (k 0, 400, .inl f_23)), (q_30, .inl (k 0, 400, .inl f_24)), (q_31, .inl (k 0, 400, .inl f_25)), (q_32, .inl (k 0, 400, .inl f_26)), (q_33, .inl (k 0, 400, .inl f_27)), (q_34, .inl (k 0, 400, .inl f_28)), (q_35, .inr (0, [.int 0, .ref q_36, .ref q_37])), (q_36, .inl (k 3, 20, .inr (.inr (.inr (.inr (fun _ => none)))))), (q_37, .inl (k 0, 20, .inl f_29)), (q_38, .inr (9, [.ref q_39, .ref q_40, .ref q_41])), (q_39, .inl (k 0, 160, .inl f_30)), (q_40, .inl (k 0, 160, .inl f_31)), (q_41, .inl (k 0, 160, .inl f_32)), (q_42, .inr (4, [.int 0, .ref q_43, .int 0, .ref q_44, .ref q_45, .int 0, .ref q_46, .ref q_47, .ref q_48, .int 0, .ref q_49, .ref q_50, .ref q_51])), (q_43, .inl (k 0, 6, .inl f_33)), (q_44, .inl (k 0, 6, .inl f_34)), (q_45, .inl (k 0, 6, .inl f_35)), (q_46, .inl (k 0, 9, .inl f_36)), (q_47, .inl (k 0, 9, .inl f_37)), (q_48, .inl (k 0, 9, .inl f_38)), (q_49, .inl (k 0, 12, .inl f_39)), (q_50, .inl (k 0, 12, .inl f_40)), (q_51, .inl (k 0, 12, .inl f_41)), (q5, .inr (3, [.null, .null, .null, .null, .null, .null]))] := hD
    refine lv_dup hx hb dX11_image_32 rfl ?_
    refine z_bv (wr := [(q_0, .inr (11, [.ref q_2, .ref q_1, .ref q_52, .ref q_53, .ref q_54, .int x_1])), (q_1, .inl (k 4, 2, .inr (.inr (.inr (.inr (fun _ => none)))))), (q_2, .inr (3, [.ref q_3, .ref q_16, .ref q_22, .ref q_35, .ref q_38, .ref q_42])), (q_3, .inr (6, [.int 0, .ref q_4, .ref q_5, .ref q_6, .ref q_7, .ref q_8, .int 0, .ref q_9, .int 0, .ref q_10, .ref q_11, .ref q_12, .ref q_13, .ref q_14, .ref q_15])), (q_4, .inl (k 0, 40, .inl f_0)), (q_5, .inl (k 0, 40, .inl f_1)), (q_6, .inl (k 0, 40, .inl f_2)), (q_7, .inl (k 0, 40, .inl f_3)), (q_8, .inl (k 0, 40, .inl f_4)), (q_9, .inl (k 0, 400, .inl f_5)), (q_10, .inl (k 0, 60, .inl f_6)), (q_11, .inl (k 0, 60, .inl f_7)), (q_12, .inl (k 0, 2, .inl f_8)), (q_13, .inl (k 0, 120, .inl f_9)), (q_14, .inl (k 0, 120, .inl f_10)), (q_15, .inl (k 0, 120, .inl f_11)), (q_16, .inr (8, [.int 0, .ref q_17, .ref q_18, .ref q_19, .ref q_20, .ref q_21])), (q_17, .inl (k 0, 120, .inl f_12)), (q_18, .inl (k 0, 120, .inl f_13)), (q_19, .inl (k 0, 120, .inl f_14)), (q_20, .inl (k 0, 120, .inl f_15)), (q_21, .inl (k 0, 120, .inl f_16)), (q_22, .inr (5, [.int 0, .ref q_23, .ref q_24, .ref q_25, .ref q_26, .ref q_27, .ref q_28, .ref q_29, .ref q_30, .ref q_31, .ref q_32, .ref q_33, .ref q_34, .int x_2, .int x_3])), (q_23, .inl (k 0, 400, .inl f_17)), (q_24, .inl (k 0, 400, .inl f_18)), (q_25, .inl (k 0, 400, .inl f_19)), (q_26, .inl (k 0, 400, .inl f_20)), (q_27, .inl (k 0, 400, .inl f_21)), (q_28, .inl (k 0, 400, .inl f_22)), (q_29, .inl (k 0, 400, .inl f_23)), (q_30, .inl (k 0, 400, .inl f_24)), (q_31, .inl (k 0, 400, .inl f_25)), (q_32, .inl (k 0, 400, .inl f_26)), (q_33, .inl (k 0, 400, .inl f_27)), (q_34, .inl (k 0, 400, .inl f_28)), (q_35, .inr (0, [.int 0, .ref q_36, .ref q_37])), (q_36, .inl (k 3, 20, .inr (.inr (.inr (.inr (fun _ => none)))))), (q_37, .inl (k 0, 20, .inl f_29)), (q_38, .inr (9, [.ref q_39, .ref q_40, .ref q_41])), (q_39, .inl (k 0, 160, .inl f_30)), (q_40, .inl (k 0, 160, .inl f_31)), (q_41, .inl (k 0, 160, .inl f_32)), (q_42, .inr (4, [.int 0, .ref q_43, .int 0, .ref q_44, .ref q_45, .int 0, .ref q_46, .ref q_47, .ref q_48, .int 0, .ref q_49, .ref q_50, .ref q_51])), (q_43, .inl (k 0, 6, .inl f_33)), (q_44, .inl (k 0, 6, .inl f_34)), (q_45, .inl (k 0, 6, .inl f_35)), (q_46, .inl (k 0, 9, .inl f_36)), (q_47, .inl (k 0, 9, .inl f_37)), (q_48, .inl (k 0, 9, .inl f_38)), (q_49, .inl (k 0, 12, .inl f_39)), (q_50, .inl (k 0, 12, .inl f_40)), (q_51, .inl (k 0, 12, .inl f_41))]) (z_runIN (As := []) (rest := [.ref q5, .int x_0, .ref q_1]) C0 hN (c_X3_init_1 l D k q5 _) okI_X3_init kN_X11_11 rfl (z_pS hK hN hP hD [52] rfl rfl) rfl hl.1 rfl (Nat.le_of_ble_eq_true rfl) dX11_image_33 rfl) hP hD hS hA [52] [0, 1, 2, 3, 4, 5, 6, 7, 8, 9, 10, 11, 12, 13, 14, 15, 16, 17, 18, 19, 20, 21, 22, 23, 24, 25, 26, 27, 28, 29, 30, 31, 32, 33, 34, 35, 36, 37, 38, 39, 40, 41, 42, 43, 44, 45, 46, 47, 48, 49, 50, 51] rfl rfl rfl rfl (fun u6 H locs hw6 hP hD hS => ?_)
    obtain ⟨i6, a6⟩ := u6
    dsimp only at hw6
    obtain rfl := hw6
    have hP : va_P D vwCl [(q_0, .inr (11, [.ref q_2, .ref q_1, .ref q_52, .ref q_53, .ref q_54, .int x_1])), (q_1, .inl (k 4, 2, .inr (.inr (.inr (.inr (fun _ => none)))))), (q_2, .inr (3, [.ref q_3, .ref q_16, .ref q_22, .ref q_35, .ref q_38, .ref q_42])), (q_3, .inr (6, [.int 0, .ref q_4, .ref q_5, .ref q_6, .ref q_7, .ref q_8, .int 0, .ref q_9, .int 0, .ref q_10, .ref q_11, .ref q_12, .ref q_13, .ref q_14, .ref q_15])), (q_4, .inl (k 0, 40, .inl f_0)), (q_5, .inl (k 0, 40, .inl f_1)), (q_6, .inl (k 0, 40, .inl f_2)), (q_7, .inl (k 0, 40, .inl f_3)), (q_8, .inl (k 0, 40, .inl f_4)), (q_9, .inl (k 0, 400, .inl f_5)), (q_10, .inl (k 0, 60, .inl f_6)), (q_11, .inl (k 0, 60, .inl f_7)), (q_12, .inl (k 0, 2, .inl f_8)), (q_13, .inl (k 0, 120, .inl f_9)), (q_14, .inl (k 0, 120, .inl f_10)), (q_15, .inl (k 0, 120, .inl f_11)), (q_16, .inr (8, [.int 0, .ref q_17, .ref q_18, .ref q_19, .ref q_20, .ref q_21])), (q_17, .inl (k 0, 120, .inl f_12)), (q_18, .inl (k 0, 120, .inl f_13)), (q_19, .inl (k 0, 120, .inl f_14)), (q_20, .inl (k 0, 120, .inl f_15)), (q_21, .inl (k 0, 120, .inl f_16)), (q_22, .inr (5, [.int 0, .ref q_23, .ref q_24, .ref q_25, .ref q_26, .ref q_27, .ref q_28, .ref q_29, .ref q_30, .ref q_31, .ref q_32, .ref q_33, .ref q_34, .int x_2, .int x_3])), (q_23, .inl (k 0, 400, .inl f_17)), (q_24, .inl (k 0, 400, .inl f_18)), (q_25, .inl (k 0, 400, .inl f_19)), (q_26, .inl (k 0, 400, .inl f_20)), (q_27, .inl (k 0, 400, .inl f_21)), (q_28, .inl (k 0, 400, .inl f_22)), (q_29, .inl (k 0, 400, .inl f_23)), (q_30, .inl (k 0, 400, .inl f_24)), (q_31, .inl (k 0, 400, .inl f_25)), (q_32, .inl (k 0, 400, .inl f_26)), (q_33, .inl (k 0, 400, .inl f_27)), (q_34, .inl (k 0, 400, .inl f_28)), (q_35, .inr (0, [.int 0, .ref q_36, .ref q_37])), (q_36, .inl (k 3, 20, .inr (.inr (.inr (.inr (fun _ => none)))))), (q_37, .inl (k 0, 20, .inl f_29)), (q_38, .inr (9, [.ref q_39, .ref q_40, .ref q_41])), (q_39, .inl (k 0, 160, .inl f_30)), (q_40, .inl (k 0, 160, .inl f_31)), (q_41, .inl (k 0, 160, .inl f_32)), (q_42, .inr (4, [.int 0, .ref q_43, .int 0, .ref q_44, .ref q_45, .int 0, .ref q_46, .ref q_47, .ref q_48, .int 0, .ref q_49, .ref q_50, .ref q_51])), (q_43, .inl (k 0, 6, .inl f_33)), (q_44, .inl (k 0, 6, .inl f_34)), (q_45, .inl (k 0, 6, .inl f_35)), (q_46, .inl (k 0, 9, .inl f_36)), (q_47, .inl (k 0, 9, .inl f_37)), (q_48, .inl (k 0, 9, .inl f_38)), (q_49, .inl (k 0, 12, .inl f_39)), (q_50, .inl (k 0, 12, .inl f_40)), (q_51, .inl (k 0, 12, .inl f_41)), (q5, .inr (3, [.ref (a6 0), .ref (a6 13), .ref (a6 19), .ref (a6 32), .ref (a6 35), .ref (a6 39)])), ((a6 0), .inr (6, [.int 0, .ref (a6 1), .ref (a6 2), .ref (a6 3), .ref (a6 4), .ref (a6 5), .int 0, .ref (a6 6), .int 0, .ref (a6 7), .ref (a6 8), .ref (a6 9), .ref (a6 10), .ref (a6 11), .ref (a6 12)])), ((a6 1), .inl (k 0, 40, .inl (fun _ => 0))), ((a6 2), .inl (k 0, 40, .inl (fun _ => 0))), ((a6 3), .inl (k 0, 40, .inl (fun _ => 0))), ((a6 4), .inl (k 0, 40, .inl (fun _ => 0))), ((a6 5), .inl (k 0, 40, .inl (fun _ => 0))), ((a6 6), .inl (k 0, 400, .inl (fun _ => 0))), ((a6 7), .inl (k 0, 60, .inl (fun _ => 0))), ((a6 8), .inl (k 0, 60, .inl (fun _ => 0))), ((a6 9), .inl (k 0, 2, .inl (fun _ => 0))), ((a6 10), .inl (k 0, 120, .inl (fun _ => 0))), ((a6 11), .inl (k 0, 120, .inl (fun _ => 0))), ((a6 12), .inl (k 0, 120, .inl (fun _ => 0))), ((a6 13), .inr (8, [.int 0, .ref (a6 14), .ref (a6 15), .ref (a6 16), .ref (a6 17), .ref (a6 18)])), ((a6 14), .inl (k 0, 120, .inl (fun _ => 0))), ((a6 15), .inl (k 0, 120, .inl (fun _ => 0))), ((a6 16), .inl (k 0, 120, .inl (fun _ => 0))), ((a6 17), .inl (k 0, 120, .inl (fun _ => 0))), ((a6 18), .inl (k 0, 120, .inl (fun _ => 0))), ((a6 19), .inr (5, [.int 0, .ref (a6 20), .ref (a6 21), .ref (a6 22), .ref (a6 23), .ref (a6 24), .ref (a6 25), .ref (a6 26), .ref (a6 27), .ref (a6 28), .ref (a6 29), .ref (a6 30), .ref (a6 31), .int 0, .int 0])), ((a6 20), .inl (k 0, 400, .inl (fun _ => 0))), ((a6 21), .inl (k 0, 400, .inl (fun _ => 0))), ((a6 22), .inl (k 0, 400, .inl (fun _ => 0))), ((a6 23), .inl (k 0, 400, .inl (fun _ => 0))), ((a6 24), .inl (k 0, 400, .inl (fun _ => 0))), ((a6 25), .inl (k 0, 400, .inl (fun _ => 0))), ((a6 26), .inl (k 0, 400, .inl (fun _ => 0))), ((a6 27), .inl (k 0, 400, .inl (fun _ => 0))), ((a6 28), .inl (k 0, 400, .inl (fun _ => 0))), ((a6 29), .inl (k 0, 400, .inl (fun _ => (-1)))), ((a6 30), .inl (k 0, 400, .inl (fun _ => 0))), ((a6 31), .inl (k 0, 400, .inl (fun _ => 0))), ((a6 32), .inr (0, [.int 0, .ref (a6 33), .ref (a6 34)])), ((a6 33), .inl (k 3, 20, .inr (.inr (.inr (.inr (fun _ => none)))))), ((a6 34), .inl (k 0, 20, .inl (fun _ => 0))), ((a6 35), .inr (9, [.ref (a6 36), .ref (a6 37), .ref (a6 38)])), ((a6 36), .inl (k 0, 160, .inl (fun _ => (-1)))), ((a6 37), .inl (k 0, 160, .inl (fun _ => (-1)))), ((a6 38), .inl (k 0, 160, .inl (fun _ => 0))), ((a6 39), .inr (4, [.int 0, .ref (a6 40), .int 0, .ref (a6 41), .ref (a6 42), .int 0, .ref (a6 43), .ref (a6 44), .ref (a6 45), .int 0, .ref (a6 46), .ref (a6 47), .ref (a6 48)])), ((a6 40), .inl (k 0, 6, .inl (fun _ => 0))), ((a6 41), .inl (k 0, 6, .inl (fun _ => 0))), ((a6 42), .inl (k 0, 6, .inl (fun _ => 0))), ((a6 43), .inl (k 0, 9, .inl (fun _ => 0))), ((a6 44), .inl (k 0, 9, .inl (fun _ => 0))), ((a6 45), .inl (k 0, 9, .inl (fun _ => 0))), ((a6 46), .inl (k 0, 12, .inl (fun _ => 0))), ((a6 47), .inl (k 0, 12, .inl (fun _ => 0))), ((a6 48), .inl (k 0, 12, .inl (fun _ => 0)))] H := hP
    have hD : va_D A [(q_0, .inr (11, [.ref q_2, .ref q_1, .ref q_52, .ref q_53, .ref q_54, .int x_1])), (q_1, .inl (k 4, 2, .inr (.inr (.inr (.inr (fun _ => none)))))), (q_2, .inr (3, [.ref q_3, .ref q_16, .ref q_22, .ref q_35, .ref q_38, .ref q_42])), (q_3, .inr (6, [.int 0, .ref q_4, .ref q_5, .ref q_6, .ref q_7, .ref q_8, .int 0, .ref q_9, .int 0, .ref q_10, .ref q_11, .ref q_12, .ref q_13, .ref q_14, .ref q_15])), (q_4, .inl (k 0, 40, .inl f_0)), (q_5, .inl (k 0, 40, .inl f_1)), (q_6, .inl (k 0, 40, .inl f_2)), (q_7, .inl (k 0, 40, .inl f_3)), (q_8, .inl (k 0, 40, .inl f_4)), (q_9, .inl (k 0, 400, .inl f_5)), (q_10, .inl (k 0, 60, .inl f_6)), (q_11, .inl (k 0, 60, .inl f_7)), (q_12, .inl (k 0, 2, .inl f_8)), (q_13, .inl (k 0, 120, .inl f_9)), (q_14, .inl (k 0, 120, .inl f_10)), (q_15, .inl (k 0, 120, .inl f_11)), (q_16, .inr (8, [.int 0, .ref q_17, .ref q_18, .ref q_19, .ref q_20, .ref q_21])), (q_17, .inl (k 0, 120, .inl f_12)), (q_18, .inl (k 0, 120, .inl f_13)), (q_19, .inl (k 0, 120, .inl f_14)), (q_20, .inl (k 0, 120, .inl f_15)), (q_21, .inl (k 0, 120, .inl f_16)), (q_22, .inr (5, [.int 0, .ref q_23, .ref q_24, .ref q_25, .ref q_26, .ref q_27, .ref q_28, .ref q_29, .ref q_30, .ref q_31, .ref q_32, .ref q_33, .ref q_34, .int x_2, .int x_3])), (q_23, .inl (k 0, 400, .inl f_17)), (q_24, .inl (k 0, 400, .inl f_18)), (q_25, .inl (k 0, 400, .inl f_19)), (q_26, .inl (k 0, 400, .inl f_20)), (q_27, .inl (k 0, 400, .inl f_21)), (q_28, .inl (k 0, 400, .inl f_22)), (q_29, .inl (k 0, 400, .inl f_23)), (q_30, .inl (k 0, 400, .inl f_24)), (q_31, .inl (k 0, 400, .inl f_25)), (q_32, .inl (k 0, 400, .inl f_26)), (q_33, .inl (k 0, 400, .inl f_27)), (q_34, .inl (k 0, 400, .inl f_28)), (q_35, .inr (0, [.int 0, .ref q_36, .ref q_37])), (q_36, .inl (k 3, 20, .inr (.inr (.inr (.inr (fun _ => none)))))), (q_37, .inl (k 0, 20, .inl f_29)), (q_38, .inr (9, [.ref q_39, .ref q_40, .ref q_41])), (q_39, .inl (k 0, 160, .inl f_30)), (q_40, .inl (k 0, 160, .inl f_31)), (q_41, .inl (k 0, 160, .inl f_32)), (q_42, .inr (4, [.int 0, .ref q_43, .int 0, .ref q_44, .ref q_45, .int 0, .ref q_46, .ref q_47, .ref q_48, .int 0, .ref q_49, .ref q_50, .ref q_51])), (q_43, .inl (k 0, 6, .inl f_33)), (q_44, .inl (k 0, 6, .inl f_34)), (q_45, .inl (k 0, 6, .inl f_35)), (q_46, .inl (k 0, 9, .inl f_36)), (q_47, .inl (k 0, 9, .inl f_37)), (q_48, .inl (k 0, 9, .inl f_38)), (q_49, .inl (k 0, 12, .inl f_39)), (q_50, .inl (k 0, 12, .inl f_40)), (q_51, .inl (k 0, 12, .inl f_41)), (q5, .inr (3, [.ref (a6 0), .ref (a6 13), .ref (a6 19), .ref (a6 32), .ref (a6 35), .ref (a6 39)])), ((a6 0), .inr (6, [.int 0, .ref (a6 1), .ref (a6 2), .ref (a6 3), .ref (a6 4), .ref (a6 5), .int 0, .ref (a6 6), .int 0, .ref (a6 7), .ref (a6 8), .ref (a6 9), .ref (a6 10), .ref (a6 11), .ref (a6 12)])), ((a6 1), .inl (k 0, 40, .inl (fun _ => 0))), ((a6 2), .inl (k 0, 40, .inl (fun _ => 0))), ((a6 3), .inl (k 0, 40, .inl (fun _ => 0))), ((a6 4), .inl (k 0, 40, .inl (fun _ => 0))), ((a6 5), .inl (k 0, 40, .inl (fun _ => 0))), ((a6 6), .inl (k 0, 400, .inl (fun _ => 0))), ((a6 7), .inl (k 0, 60, .inl (fun _ => 0))), ((a6 8), .inl (k 0, 60, .inl (fun _ => 0))), ((a6 9), .inl (k 0, 2, .inl (fun _ => 0))), ((a6 10), .inl (k 0, 120, .inl (fun _ => 0))), ((a6 11), .inl (k 0, 120, .inl (fun _ => 0))), ((a6 12), .inl (k 0, 120, .inl (fun _ => 0))), ((a6 13), .inr (8, [.int 0, .ref (a6 14), .ref (a6 15), .ref (a6 16), .ref (a6 17), .ref (a6 18)])), ((a6 14), .inl (k 0, 120, .inl (fun _ => 0))), ((a6 15), .inl (k 0, 120, .inl (fun _ => 0))), ((a6 16), .inl (k 0, 120, .inl (fun _ => 0))), ((a6 17), .inl (k 0, 120, .inl (fun _ => 0))), ((a6 18), .inl (k 0, 120, .inl (fun _ => 0))), ((a6 19), .inr (5, [.int 0, .ref (a6 20), .ref (a6 21), .ref (a6 22), .ref (a6 23), .ref (a6 24), .ref (a6 25), .ref (a6 26), .ref (a6 27), .ref (a6 28), .ref (a6 29), .ref (a6 30), .ref (a6 31), .int 0, .int 0])), ((a6 20), .inl (k 0, 400, .inl (fun _ => 0))), ((a6 21), .inl (k 0, 400, .inl (fun _ => 0))), ((a6 22), .inl (k 0, 400, .inl (fun _ => 0))), ((a6 23), .inl (k 0, 400, .inl (fun _ => 0))), ((a6 24), .inl (k 0, 400, .inl (fun _ => 0))), ((a6 25), .inl (k 0, 400, .inl (fun _ => 0))), ((a6 26), .inl (k 0, 400, .inl (fun _ => 0))), ((a6 27), .inl (k 0, 400, .inl (fun _ => 0))), ((a6 28), .inl (k 0, 400, .inl (fun _ => 0))), ((a6 29), .inl (k 0, 400, .inl (fun _ => (-1)))), ((a6 30), .inl (k 0, 400, .inl (fun _ => 0))), ((a6 31), .inl (k 0, 400, .inl (fun _ => 0))), ((a6 32), .inr (0, [.int 0, .ref (a6 33), .ref (a6 34)])), ((a6 33), .inl (k 3, 20, .inr (.inr (.inr (.inr (fun _ => none)))))), ((a6 34), .inl (k 0, 20, .inl (fun _ => 0))), ((a6 35), .inr (9, [.ref (a6 36), .ref (a6 37), .ref (a6 38)])), ((a6 36), .inl (k 0, 160, .inl (fun _ => (-1)))), ((a6 37), .inl (k 0, 160, .inl (fun _ => (-1)))), ((a6 38), .inl (k 0, 160, .inl (fun _ => 0))), ((a6 39), .inr (4, [.int 0, .ref (a6 40), .int 0, .ref (a6 41), .ref (a6 42), .int 0, .ref (a6 43), .ref (a6 44), .ref (a6 45), .int 0, .ref (a6 46), .ref (a6 47), .ref (a6 48)])), ((a6 40), .inl (k 0, 6, .inl (fun _ => 0))), ((a6 41), .inl (k 0, 6, .inl (fun _ => 0))), ((a6 42), .inl (k 0, 6, .inl (fun _ => 0))), ((a6 43), .inl (k 0, 9, .inl (fun _ => 0))), ((a6 44), .inl (k 0, 9, .inl (fun _ => 0))), ((a6 45), .inl (k 0, 9, .inl (fun _ => 0))), ((a6 46), .inl (k 0, 12, .inl (fun _ => 0))), ((a6 47), .inl (k 0, 12, .inl (fun _ => 0))), ((a6 48), .inl (k 0, 12, .inl (fun _ => 0)))] := hD
    refine va_astq (r := (RX3, TX3, 6)) hx hb hK hP hD hS 1 4 52 3 rfl rfl rfl rfl (by have bA0 := Int32.le_toInt x_0; have bB0 := Int32.toInt_lt x_0; revert c1; simp only [vp_in_iff, Int32.lt_iff_toInt_lt, Int32.le_iff_toInt_le, Int64.lt_iff_toInt_lt, Int64.le_iff_toInt_le, Int32.toInt_toInt64, ← Int32.toInt_inj, ← Int64.toInt_inj, Int32.reduceToInt, Int64.reduceToInt] <;> omega) dX11_image_36 (fun H locs hP hD hS => ?_)
    have hP : va_P D vwCl [(q_0, .inr (11, [.ref q_2, .ref q_1, .ref q_52, .ref q_53, .ref q_54, .int x_1])), (q_1, .inl (k 4, 2, .inr (.inr (.inr (.inr (va_up (fun _ => none) (Int32.toNatClampNeg x_0) (some q5))))))), (q_2, .inr (3, [.ref q_3, .ref q_16, .ref q_22, .ref q_35, .ref q_38, .ref q_42])), (q_3, .inr (6, [.int 0, .ref q_4, .ref q_5, .ref q_6, .ref q_7, .ref q_8, .int 0, .ref q_9, .int 0, .ref q_10, .ref q_11, .ref q_12, .ref q_13, .ref q_14, .ref q_15])), (q_4, .inl (k 0, 40, .inl f_0)), (q_5, .inl (k 0, 40, .inl f_1)), (q_6, .inl (k 0, 40, .inl f_2)), (q_7, .inl (k 0, 40, .inl f_3)), (q_8, .inl (k 0, 40, .inl f_4)), (q_9, .inl (k 0, 400, .inl f_5)), (q_10, .inl (k 0, 60, .inl f_6)), (q_11, .inl (k 0, 60, .inl f_7)), (q_12, .inl (k 0, 2, .inl f_8)), (q_13, .inl (k 0, 120, .inl f_9)), (q_14, .inl (k 0, 120, .inl f_10)), (q_15, .inl (k 0, 120, .inl f_11)), (q_16, .inr (8, [.int 0, .ref q_17, .ref q_18, .ref q_19, .ref q_20, .ref q_21])), (q_17, .inl (k 0, 120, .inl f_12)), (q_18, .inl (k 0, 120, .inl f_13)), (q_19, .inl (k 0, 120, .inl f_14)), (q_20, .inl (k 0, 120, .inl f_15)), (q_21, .inl (k 0, 120, .inl f_16)), (q_22, .inr (5, [.int 0, .ref q_23, .ref q_24, .ref q_25, .ref q_26, .ref q_27, .ref q_28, .ref q_29, .ref q_30, .ref q_31, .ref q_32, .ref q_33, .ref q_34, .int x_2, .int x_3])), (q_23, .inl (k 0, 400, .inl f_17)), (q_24, .inl (k 0, 400, .inl f_18)), (q_25, .inl (k 0, 400, .inl f_19)), (q_26, .inl (k 0, 400, .inl f_20)), (q_27, .inl (k 0, 400, .inl f_21)), (q_28, .inl (k 0, 400, .inl f_22)), (q_29, .inl (k 0, 400, .inl f_23)), (q_30, .inl (k 0, 400, .inl f_24)), (q_31, .inl (k 0, 400, .inl f_25)), (q_32, .inl (k 0, 400, .inl f_26)), (q_33, .inl (k 0, 400, .inl f_27)), (q_34, .inl (k 0, 400, .inl f_28)), (q_35, .inr (0, [.int 0, .ref q_36, .ref q_37])), (q_36, .inl (k 3, 20, .inr (.inr (.inr (.inr (fun _ => none)))))), (q_37, .inl (k 0, 20, .inl f_29)), (q_38, .inr (9, [.ref q_39, .ref q_40, .ref q_41])), (q_39, .inl (k 0, 160, .inl f_30)), (q_40, .inl (k 0, 160, .inl f_31)), (q_41, .inl (k 0, 160, .inl f_32)), (q_42, .inr (4, [.int 0, .ref q_43, .int 0, .ref q_44, .ref q_45, .int 0, .ref q_46, .ref q_47, .ref q_48, .int 0, .ref q_49, .ref q_50, .ref q_51])), (q_43, .inl (k 0, 6, .inl f_33)), (q_44, .inl (k 0, 6, .inl f_34)), (q_45, .inl (k 0, 6, .inl f_35)), (q_46, .inl (k 0, 9, .inl f_36)), (q_47, .inl (k 0, 9, .inl f_37)), (q_48, .inl (k 0, 9, .inl f_38)), (q_49, .inl (k 0, 12, .inl f_39)), (q_50, .inl (k 0, 12, .inl f_40)), (q_51, .inl (k 0, 12, .inl f_41)), (q5, .inr (3, [.ref (a6 0), .ref (a6 13), .ref (a6 19), .ref (a6 32), .ref (a6 35), .ref (a6 39)])), ((a6 0), .inr (6, [.int 0, .ref (a6 1), .ref (a6 2), .ref (a6 3), .ref (a6 4), .ref (a6 5), .int 0, .ref (a6 6), .int 0, .ref (a6 7), .ref (a6 8), .ref (a6 9), .ref (a6 10), .ref (a6 11), .ref (a6 12)])), ((a6 1), .inl (k 0, 40, .inl (fun _ => 0))), ((a6 2), .inl (k 0, 40, .inl (fun _ => 0))), ((a6 3), .inl (k 0, 40, .inl (fun _ => 0))), ((a6 4), .inl (k 0, 40, .inl (fun _ => 0))), ((a6 5), .inl (k 0, 40, .inl (fun _ => 0))), ((a6 6), .inl (k 0, 400, .inl (fun _ => 0))), ((a6 7), .inl (k 0, 60, .inl (fun _ => 0))), ((a6 8), .inl (k 0, 60, .inl (fun _ => 0))), ((a6 9), .inl (k 0, 2, .inl (fun _ => 0))), ((a6 10), .inl (k 0, 120, .inl (fun _ => 0))), ((a6 11), .inl (k 0, 120, .inl (fun _ => 0))), ((a6 12), .inl (k 0, 120, .inl (fun _ => 0))), ((a6 13), .inr (8, [.int 0, .ref (a6 14), .ref (a6 15), .ref (a6 16), .ref (a6 17), .ref (a6 18)])), ((a6 14), .inl (k 0, 120, .inl (fun _ => 0))), ((a6 15), .inl (k 0, 120, .inl (fun _ => 0))), ((a6 16), .inl (k 0, 120, .inl (fun _ => 0))), ((a6 17), .inl (k 0, 120, .inl (fun _ => 0))), ((a6 18), .inl (k 0, 120, .inl (fun _ => 0))), ((a6 19), .inr (5, [.int 0, .ref (a6 20), .ref (a6 21), .ref (a6 22), .ref (a6 23), .ref (a6 24), .ref (a6 25), .ref (a6 26), .ref (a6 27), .ref (a6 28), .ref (a6 29), .ref (a6 30), .ref (a6 31), .int 0, .int 0])), ((a6 20), .inl (k 0, 400, .inl (fun _ => 0))), ((a6 21), .inl (k 0, 400, .inl (fun _ => 0))), ((a6 22), .inl (k 0, 400, .inl (fun _ => 0))), ((a6 23), .inl (k 0, 400, .inl (fun _ => 0))), ((a6 24), .inl (k 0, 400, .inl (fun _ => 0))), ((a6 25), .inl (k 0, 400, .inl (fun _ => 0))), ((a6 26), .inl (k 0, 400, .inl (fun _ => 0))), ((a6 27), .inl (k 0, 400, .inl (fun _ => 0))), ((a6 28), .inl (k 0, 400, .inl (fun _ => 0))), ((a6 29), .inl (k 0, 400, .inl (fun _ => (-1)))), ((a6 30), .inl (k 0, 400, .inl (fun _ => 0))), ((a6 31), .inl (k 0, 400, .inl (fun _ => 0))), ((a6 32), .inr (0, [.int 0, .ref (a6 33), .ref (a6 34)])), ((a6 33), .inl (k 3, 20, .inr (.inr (.inr (.inr (fun _ => none)))))), ((a6 34), .inl (k 0, 20, .inl (fun _ => 0))), ((a6 35), .inr (9, [.ref (a6 36), .ref (a6 37), .ref (a6 38)])), ((a6 36), .inl (k 0, 160, .inl (fun _ => (-1)))), ((a6 37), .inl (k 0, 160, .inl (fun _ => (-1)))), ((a6 38), .inl (k 0, 160, .inl (fun _ => 0))), ((a6 39), .inr (4, [.int 0, .ref (a6 40), .int 0, .ref (a6 41), .ref (a6 42), .int 0, .ref (a6 43), .ref (a6 44), .ref (a6 45), .int 0, .ref (a6 46), .ref (a6 47), .ref (a6 48)])), ((a6 40), .inl (k 0, 6, .inl (fun _ => 0))), ((a6 41), .inl (k 0, 6, .inl (fun _ => 0))), ((a6 42), .inl (k 0, 6, .inl (fun _ => 0))), ((a6 43), .inl (k 0, 9, .inl (fun _ => 0))), ((a6 44), .inl (k 0, 9, .inl (fun _ => 0))), ((a6 45), .inl (k 0, 9, .inl (fun _ => 0))), ((a6 46), .inl (k 0, 12, .inl (fun _ => 0))), ((a6 47), .inl (k 0, 12, .inl (fun _ => 0))), ((a6 48), .inl (k 0, 12, .inl (fun _ => 0)))] H := hP
    have hD : va_D A [(q_0, .inr (11, [.ref q_2, .ref q_1, .ref q_52, .ref q_53, .ref q_54, .int x_1])), (q_1, .inl (k 4, 2, .inr (.inr (.inr (.inr (va_up (fun _ => none) (Int32.toNatClampNeg x_0) (some q5))))))), (q_2, .inr (3, [.ref q_3, .ref q_16, .ref q_22, .ref q_35, .ref q_38, .ref q_42])), (q_3, .inr (6, [.int 0, .ref q_4, .ref q_5, .ref q_6, .ref q_7, .ref q_8, .int 0, .ref q_9, .int 0, .ref q_10, .ref q_11, .ref q_12, .ref q_13, .ref q_14, .ref q_15])), (q_4, .inl (k 0, 40, .inl f_0)), (q_5, .inl (k 0, 40, .inl f_1)), (q_6, .inl (k 0, 40, .inl f_2)), (q_7, .inl (k 0, 40, .inl f_3)), (q_8, .inl (k 0, 40, .inl f_4)), (q_9, .inl (k 0, 400, .inl f_5)), (q_10, .inl (k 0, 60, .inl f_6)), (q_11, .inl (k 0, 60, .inl f_7)), (q_12, .inl (k 0, 2, .inl f_8)), (q_13, .inl (k 0, 120, .inl f_9)), (q_14, .inl (k 0, 120, .inl f_10)), (q_15, .inl (k 0, 120, .inl f_11)), (q_16, .inr (8, [.int 0, .ref q_17, .ref q_18, .ref q_19, .ref q_20, .ref q_21])), (q_17, .inl (k 0, 120, .inl f_12)), (q_18, .inl (k 0, 120, .inl f_13)), (q_19, .inl (k 0, 120, .inl f_14)), (q_20, .inl (k 0, 120, .inl f_15)), (q_21, .inl (k 0, 120, .inl f_16)), (q_22, .inr (5, [.int 0, .ref q_23, .ref q_24, .ref q_25, .ref q_26, .ref q_27, .ref q_28, .ref q_29, .ref q_30, .ref q_31, .ref q_32, .ref q_33, .ref q_34, .int x_2, .int x_3])), (q_23, .inl (k 0, 400, .inl f_17)), (q_24, .inl (k 0, 400, .inl f_18)), (q_25, .inl (k 0, 400, .inl f_19)), (q_26, .inl (k 0, 400, .inl f_20)), (q_27, .inl (k 0, 400, .inl f_21)), (q_28, .inl (k 0, 400, .inl f_22)), (q_29, .inl (k 0, 400, .inl f_23)), (q_30, .inl (k 0, 400, .inl f_24)), (q_31, .inl (k 0, 400, .inl f_25)), (q_32, .inl (k 0, 400, .inl f_26)), (q_33, .inl (k 0, 400, .inl f_27)), (q_34, .inl (k 0, 400, .inl f_28)), (q_35, .inr (0, [.int 0, .ref q_36, .ref q_37])), (q_36, .inl (k 3, 20, .inr (.inr (.inr (.inr (fun _ => none)))))), (q_37, .inl (k 0, 20, .inl f_29)), (q_38, .inr (9, [.ref q_39, .ref q_40, .ref q_41])), (q_39, .inl (k 0, 160, .inl f_30)), (q_40, .inl (k 0, 160, .inl f_31)), (q_41, .inl (k 0, 160, .inl f_32)), (q_42, .inr (4, [.int 0, .ref q_43, .int 0, .ref q_44, .ref q_45, .int 0, .ref q_46, .ref q_47, .ref q_48, .int 0, .ref q_49, .ref q_50, .ref q_51])), (q_43, .inl (k 0, 6, .inl f_33)), (q_44, .inl (k 0, 6, .inl f_34)), (q_45, .inl (k 0, 6, .inl f_35)), (q_46, .inl (k 0, 9, .inl f_36)), (q_47, .inl (k 0, 9, .inl f_37)), (q_48, .inl (k 0, 9, .inl f_38)), (q_49, .inl (k 0, 12, .inl f_39)), (q_50, .inl (k 0, 12, .inl f_40)), (q_51, .inl (k 0, 12, .inl f_41)), (q5, .inr (3, [.ref (a6 0), .ref (a6 13), .ref (a6 19), .ref (a6 32), .ref (a6 35), .ref (a6 39)])), ((a6 0), .inr (6, [.int 0, .ref (a6 1), .ref (a6 2), .ref (a6 3), .ref (a6 4), .ref (a6 5), .int 0, .ref (a6 6), .int 0, .ref (a6 7), .ref (a6 8), .ref (a6 9), .ref (a6 10), .ref (a6 11), .ref (a6 12)])), ((a6 1), .inl (k 0, 40, .inl (fun _ => 0))), ((a6 2), .inl (k 0, 40, .inl (fun _ => 0))), ((a6 3), .inl (k 0, 40, .inl (fun _ => 0))), ((a6 4), .inl (k 0, 40, .inl (fun _ => 0))), ((a6 5), .inl (k 0, 40, .inl (fun _ => 0))), ((a6 6), .inl (k 0, 400, .inl (fun _ => 0))), ((a6 7), .inl (k 0, 60, .inl (fun _ => 0))), ((a6 8), .inl (k 0, 60, .inl (fun _ => 0))), ((a6 9), .inl (k 0, 2, .inl (fun _ => 0))), ((a6 10), .inl (k 0, 120, .inl (fun _ => 0))), ((a6 11), .inl (k 0, 120, .inl (fun _ => 0))), ((a6 12), .inl (k 0, 120, .inl (fun _ => 0))), ((a6 13), .inr (8, [.int 0, .ref (a6 14), .ref (a6 15), .ref (a6 16), .ref (a6 17), .ref (a6 18)])), ((a6 14), .inl (k 0, 120, .inl (fun _ => 0))), ((a6 15), .inl (k 0, 120, .inl (fun _ => 0))), ((a6 16), .inl (k 0, 120, .inl (fun _ => 0))), ((a6 17), .inl (k 0, 120, .inl (fun _ => 0))), ((a6 18), .inl (k 0, 120, .inl (fun _ => 0))), ((a6 19), .inr (5, [.int 0, .ref (a6 20), .ref (a6 21), .ref (a6 22), .ref (a6 23), .ref (a6 24), .ref (a6 25), .ref (a6 26), .ref (a6 27), .ref (a6 28), .ref (a6 29), .ref (a6 30), .ref (a6 31), .int 0, .int 0])), ((a6 20), .inl (k 0, 400, .inl (fun _ => 0))), ((a6 21), .inl (k 0, 400, .inl (fun _ => 0))), ((a6 22), .inl (k 0, 400, .inl (fun _ => 0))), ((a6 23), .inl (k 0, 400, .inl (fun _ => 0))), ((a6 24), .inl (k 0, 400, .inl (fun _ => 0))), ((a6 25), .inl (k 0, 400, .inl (fun _ => 0))), ((a6 26), .inl (k 0, 400, .inl (fun _ => 0))), ((a6 27), .inl (k 0, 400, .inl (fun _ => 0))), ((a6 28), .inl (k 0, 400, .inl (fun _ => 0))), ((a6 29), .inl (k 0, 400, .inl (fun _ => (-1)))), ((a6 30), .inl (k 0, 400, .inl (fun _ => 0))), ((a6 31), .inl (k 0, 400, .inl (fun _ => 0))), ((a6 32), .inr (0, [.int 0, .ref (a6 33), .ref (a6 34)])), ((a6 33), .inl (k 3, 20, .inr (.inr (.inr (.inr (fun _ => none)))))), ((a6 34), .inl (k 0, 20, .inl (fun _ => 0))), ((a6 35), .inr (9, [.ref (a6 36), .ref (a6 37), .ref (a6 38)])), ((a6 36), .inl (k 0, 160, .inl (fun _ => (-1)))), ((a6 37), .inl (k 0, 160, .inl (fun _ => (-1)))), ((a6 38), .inl (k 0, 160, .inl (fun _ => 0))), ((a6 39), .inr (4, [.int 0, .ref (a6 40), .int 0, .ref (a6 41), .ref (a6 42), .int 0, .ref (a6 43), .ref (a6 44), .ref (a6 45), .int 0, .ref (a6 46), .ref (a6 47), .ref (a6 48)])), ((a6 40), .inl (k 0, 6, .inl (fun _ => 0))), ((a6 41), .inl (k 0, 6, .inl (fun _ => 0))), ((a6 42), .inl (k 0, 6, .inl (fun _ => 0))), ((a6 43), .inl (k 0, 9, .inl (fun _ => 0))), ((a6 44), .inl (k 0, 9, .inl (fun _ => 0))), ((a6 45), .inl (k 0, 9, .inl (fun _ => 0))), ((a6 46), .inl (k 0, 12, .inl (fun _ => 0))), ((a6 47), .inl (k 0, 12, .inl (fun _ => 0))), ((a6 48), .inl (k 0, 12, .inl (fun _ => 0)))] := hD
    refine lv_aload_n hx hb dX11_image_37 rfl (lv_at hl 0 rfl) ?_
    refine va_get (D := D) (ci := 11) (v := .ref q_1) (C := RX11) (T := TX11) (N := 6) hx hb hts inX11 hown hK hP 0 rfl rfl 1 (by decide) (hts _ kF_X11_16) (fun _ h9 => h9) rfl dX11_image_38 ?_
    refine lv_iload_n hx hb dX11_image_41 rfl (lv_at hl 1 rfl) ?_
    refine va_aldq hx hb hK hP 1 4 rfl rfl (by have bA0 := Int32.le_toInt x_0; have bB0 := Int32.toInt_lt x_0; revert c1; simp only [vp_in_iff, Int32.lt_iff_toInt_lt, Int32.le_iff_toInt_le, Int64.lt_iff_toInt_lt, Int64.le_iff_toInt_le, Int32.toInt_toInt64, ← Int32.toInt_inj, ← Int64.toInt_inj, Int32.reduceToInt, Int64.reduceToInt] <;> omega) dX11_image_42 ?_
    refine lv_torf (v := .ref q5) (by rw [va_up_self]; rfl) ?_
    refine lv_aload_n hx hb dX11_image_43 rfl (lv_at hl 0 rfl) ?_
    refine va_get (D := D) (ci := 11) (v := .ref q_2) (C := RX11) (T := TX11) (N := 6) hx hb hts inX11 hown hK hP 0 rfl rfl 0 (by decide) (hts _ kF_X11_12) (fun _ h9 => h9) rfl dX11_image_44 ?_
    refine z_bv (wr := [(q_0, .inr (11, [.ref q_2, .ref q_1, .ref q_52, .ref q_53, .ref q_54, .int x_1])), (q_1, .inl (k 4, 2, .inr (.inr (.inr (.inr (va_up (fun _ => none) (Int32.toNatClampNeg x_0) (some q5)))))))]) (z_runV (C := RX3) (As := [.ref q_2]) (rest := []) C0 (c_X3_becomeLike_1 l D k q5 q_2 q_3 (a6 0) q_4 (a6 1) q_5 (a6 2) q_6 (a6 3) q_7 (a6 4) q_8 (a6 5) q_9 (a6 6) q_10 (a6 7) q_11 (a6 8) q_12 (a6 9) q_13 (a6 10) q_14 (a6 11) q_15 (a6 12) q_16 (a6 13) q_17 (a6 14) q_18 (a6 15) q_19 (a6 16) q_20 (a6 17) q_21 (a6 18) q_22 (a6 19) q_23 (a6 20) q_24 (a6 21) q_25 (a6 22) q_26 (a6 23) q_27 (a6 24) q_28 (a6 25) q_29 (a6 26) q_30 (a6 27) q_31 (a6 28) q_32 (a6 29) q_33 (a6 30) q_34 (a6 31) q_35 (a6 32) q_36 (a6 33) q_37 (a6 34) q_38 (a6 35) q_39 (a6 36) q_40 (a6 37) q_41 (a6 38) q_42 (a6 39) q_43 (a6 40) q_44 (a6 41) q_45 (a6 42) q_46 (a6 43) q_47 (a6 44) q_48 (a6 45) q_49 (a6 46) q_50 (a6 47) q_51 (a6 48) 0 0 0 0 x_2 x_3 0 0 0 0 0 0 0 0 f_0 (fun _ => 0) f_1 (fun _ => 0) f_2 (fun _ => 0) f_3 (fun _ => 0) f_4 (fun _ => 0) f_5 (fun _ => 0) f_6 (fun _ => 0) f_7 (fun _ => 0) f_8 (fun _ => 0) f_9 (fun _ => 0) f_10 (fun _ => 0) f_11 (fun _ => 0) f_12 (fun _ => 0) f_13 (fun _ => 0) f_14 (fun _ => 0) f_15 (fun _ => 0) f_16 (fun _ => 0) f_17 (fun _ => 0) f_18 (fun _ => 0) f_19 (fun _ => 0) f_20 (fun _ => 0) f_21 (fun _ => 0) f_22 (fun _ => 0) f_23 (fun _ => 0) f_24 (fun _ => 0) f_25 (fun _ => 0) f_26 (fun _ => (-1)) f_27 (fun _ => 0) f_28 (fun _ => 0) (fun _ => none) f_29 (fun _ => 0) f_30 (fun _ => (-1)) f_31 (fun _ => (-1)) f_32 (fun _ => 0) f_33 (fun _ => 0) f_34 (fun _ => 0) f_35 (fun _ => 0) f_36 (fun _ => 0) f_37 (fun _ => 0) f_38 (fun _ => 0) f_39 (fun _ => 0) f_40 (fun _ => 0) f_41 (fun _ => 0) _) okV_X3_becomeLike kM_X11_380 rfl (z_pV (q0 := 52) hK hN hP hD [52, 2, 3, 53, 4, 54, 5, 55, 6, 56, 7, 57, 8, 58, 9, 59, 10, 60, 11, 61, 12, 62, 13, 63, 14, 64, 15, 65, 16, 66, 17, 67, 18, 68, 19, 69, 20, 70, 21, 71, 22, 72, 23, 73, 24, 74, 25, 75, 26, 76, 27, 77, 28, 78, 29, 79, 30, 80, 31, 81, 32, 82, 33, 83, 34, 84, 35, 85, 36, 86, 37, 87, 38, 88, 39, 89, 40, 90, 41, 91, 42, 92, 43, 93, 44, 94, 45, 95, 46, 96, 47, 97, 48, 98, 49, 99, 50, 100, 51, 101] rfl rfl rfl rfl rfl) rfl hl.1 rfl (Nat.le_of_ble_eq_true rfl) dX11_image_47 rfl) hP hD hS hA [52, 2, 3, 53, 4, 54, 5, 55, 6, 56, 7, 57, 8, 58, 9, 59, 10, 60, 11, 61, 12, 62, 13, 63, 14, 64, 15, 65, 16, 66, 17, 67, 18, 68, 19, 69, 20, 70, 21, 71, 22, 72, 23, 73, 24, 74, 25, 75, 26, 76, 27, 77, 28, 78, 29, 79, 30, 80, 31, 81, 32, 82, 33, 83, 34, 84, 35, 85, 36, 86, 37, 87, 38, 88, 39, 89, 40, 90, 41, 91, 42, 92, 43, 93, 44, 94, 45, 95, 46, 96, 47, 97, 48, 98, 49, 99, 50, 100, 51, 101] [0, 1] rfl rfl rfl rfl (fun u7 H locs hw7 hP hD hS => ?_)
    obtain ⟨i7, a7⟩ := u7
    dsimp only at hw7
    obtain rfl := hw7
    have hP : va_P D vwCl [(q_0, .inr (11, [.ref q_2, .ref q_1, .ref q_52, .ref q_53, .ref q_54, .int x_1])), (q_1, .inl (k 4, 2, .inr (.inr (.inr (.inr (va_up (fun _ => none) (Int32.toNatClampNeg x_0) (some q5))))))), (q5, .inr (3, [.ref (a6 0), .ref (a6 13), .ref (a6 19), .ref (a6 32), .ref (a6 35), .ref (a6 39)])), (q_2, .inr (3, [.ref q_3, .ref q_16, .ref q_22, .ref q_35, .ref q_38, .ref q_42])), (q_3, .inr (6, [.int 0, .ref q_4, .ref q_5, .ref q_6, .ref q_7, .ref q_8, .int 0, .ref q_9, .int 0, .ref q_10, .ref q_11, .ref q_12, .ref q_13, .ref q_14, .ref q_15])), ((a6 0), .inr (6, [.int 0, .ref (a6 1), .ref (a6 2), .ref (a6 3), .ref (a6 4), .ref (a6 5), .int 0, .ref (a6 6), .int 0, .ref (a6 7), .ref (a6 8), .ref (a6 9), .ref (a6 10), .ref (a6 11), .ref (a6 12)])), (q_4, .inl (k 0, 40, .inl f_0)), ((a6 1), .inl (k 0, 40, .inl f_0)), (q_5, .inl (k 0, 40, .inl f_1)), ((a6 2), .inl (k 0, 40, .inl f_1)), (q_6, .inl (k 0, 40, .inl f_2)), ((a6 3), .inl (k 0, 40, .inl f_2)), (q_7, .inl (k 0, 40, .inl f_3)), ((a6 4), .inl (k 0, 40, .inl f_3)), (q_8, .inl (k 0, 40, .inl f_4)), ((a6 5), .inl (k 0, 40, .inl f_4)), (q_9, .inl (k 0, 400, .inl f_5)), ((a6 6), .inl (k 0, 400, .inl f_5)), (q_10, .inl (k 0, 60, .inl f_6)), ((a6 7), .inl (k 0, 60, .inl f_6)), (q_11, .inl (k 0, 60, .inl f_7)), ((a6 8), .inl (k 0, 60, .inl f_7)), (q_12, .inl (k 0, 2, .inl f_8)), ((a6 9), .inl (k 0, 2, .inl f_8)), (q_13, .inl (k 0, 120, .inl f_9)), ((a6 10), .inl (k 0, 120, .inl f_9)), (q_14, .inl (k 0, 120, .inl f_10)), ((a6 11), .inl (k 0, 120, .inl f_10)), (q_15, .inl (k 0, 120, .inl f_11)), ((a6 12), .inl (k 0, 120, .inl f_11)), (q_16, .inr (8, [.int 0, .ref q_17, .ref q_18, .ref q_19, .ref q_20, .ref q_21])), ((a6 13), .inr (8, [.int 0, .ref (a6 14), .ref (a6 15), .ref (a6 16), .ref (a6 17), .ref (a6 18)])), (q_17, .inl (k 0, 120, .inl f_12)), ((a6 14), .inl (k 0, 120, .inl f_12)), (q_18, .inl (k 0, 120, .inl f_13)), ((a6 15), .inl (k 0, 120, .inl f_13)), (q_19, .inl (k 0, 120, .inl f_14)), ((a6 16), .inl (k 0, 120, .inl f_14)), (q_20, .inl (k 0, 120, .inl f_15)), ((a6 17), .inl (k 0, 120, .inl f_15)), (q_21, .inl (k 0, 120, .inl f_16)), ((a6 18), .inl (k 0, 120, .inl f_16)), (q_22, .inr (5, [.int 0, .ref q_23, .ref q_24, .ref q_25, .ref q_26, .ref q_27, .ref q_28, .ref q_29, .ref q_30, .ref q_31, .ref q_32, .ref q_33, .ref q_34, .int x_2, .int x_3])), ((a6 19), .inr (5, [.int 0, .ref (a6 20), .ref (a6 21), .ref (a6 22), .ref (a6 23), .ref (a6 24), .ref (a6 25), .ref (a6 26), .ref (a6 27), .ref (a6 28), .ref (a6 29), .ref (a6 30), .ref (a6 31), .int 0, .int 0])), (q_23, .inl (k 0, 400, .inl f_17)), ((a6 20), .inl (k 0, 400, .inl f_17)), (q_24, .inl (k 0, 400, .inl f_18)), ((a6 21), .inl (k 0, 400, .inl f_18)), (q_25, .inl (k 0, 400, .inl f_19)), ((a6 22), .inl (k 0, 400, .inl f_19)), (q_26, .inl (k 0, 400, .inl f_20)), ((a6 23), .inl (k 0, 400, .inl f_20)), (q_27, .inl (k 0, 400, .inl f_21)), ((a6 24), .inl (k 0, 400, .inl f_21)), (q_28, .inl (k 0, 400, .inl f_22)), ((a6 25), .inl (k 0, 400, .inl f_22)), (q_29, .inl (k 0, 400, .inl f_23)), ((a6 26), .inl (k 0, 400, .inl f_23)), (q_30, .inl (k 0, 400, .inl f_24)), ((a6 27), .inl (k 0, 400, .inl f_24)), (q_31, .inl (k 0, 400, .inl f_25)), ((a6 28), .inl (k 0, 400, .inl f_25)), (q_32, .inl (k 0, 400, .inl f_26)), ((a6 29), .inl (k 0, 400, .inl f_26)), (q_33, .inl (k 0, 400, .inl f_27)), ((a6 30), .inl (k 0, 400, .inl f_27)), (q_34, .inl (k 0, 400, .inl f_28)), ((a6 31), .inl (k 0, 400, .inl f_28)), (q_35, .inr (0, [.int 0, .ref q_36, .ref q_37])), ((a6 32), .inr (0, [.int 0, .ref (a6 33), .ref (a6 34)])), (q_36, .inl (k 3, 20, .inr (.inr (.inr (.inr (fun _ => none)))))), ((a6 33), .inl (k 3, 20, .inr (.inr (.inr (.inr (va_up (va_up (va_up (va_up (va_up (va_up (va_up (va_up (va_up (va_up (va_up (va_up (va_up (va_up (va_up (va_up (va_up (va_up (va_up (va_up (fun _ => none) 0 none) 1 none) 2 none) 3 none) 4 none) 5 none) 6 none) 7 none) 8 none) 9 none) 10 none) 11 none) 12 none) 13 none) 14 none) 15 none) 16 none) 17 none) 18 none) 19 none)))))), (q_37, .inl (k 0, 20, .inl f_29)), ((a6 34), .inl (k 0, 20, .inl f_29)), (q_38, .inr (9, [.ref q_39, .ref q_40, .ref q_41])), ((a6 35), .inr (9, [.ref (a6 36), .ref (a6 37), .ref (a6 38)])), (q_39, .inl (k 0, 160, .inl f_30)), ((a6 36), .inl (k 0, 160, .inl f_30)), (q_40, .inl (k 0, 160, .inl f_31)), ((a6 37), .inl (k 0, 160, .inl f_31)), (q_41, .inl (k 0, 160, .inl f_32)), ((a6 38), .inl (k 0, 160, .inl f_32)), (q_42, .inr (4, [.int 0, .ref q_43, .int 0, .ref q_44, .ref q_45, .int 0, .ref q_46, .ref q_47, .ref q_48, .int 0, .ref q_49, .ref q_50, .ref q_51])), ((a6 39), .inr (4, [.int 0, .ref (a6 40), .int 0, .ref (a6 41), .ref (a6 42), .int 0, .ref (a6 43), .ref (a6 44), .ref (a6 45), .int 0, .ref (a6 46), .ref (a6 47), .ref (a6 48)])), (q_43, .inl (k 0, 6, .inl f_33)), ((a6 40), .inl (k 0, 6, .inl f_33)), (q_44, .inl (k 0, 6, .inl f_34)), ((a6 41), .inl (k 0, 6, .inl f_34)), (q_45, .inl (k 0, 6, .inl f_35)), ((a6 42), .inl (k 0, 6, .inl f_35)), (q_46, .inl (k 0, 9, .inl f_36)), ((a6 43), .inl (k 0, 9, .inl f_36)), (q_47, .inl (k 0, 9, .inl f_37)), ((a6 44), .inl (k 0, 9, .inl f_37)), (q_48, .inl (k 0, 9, .inl f_38)), ((a6 45), .inl (k 0, 9, .inl f_38)), (q_49, .inl (k 0, 12, .inl f_39)), ((a6 46), .inl (k 0, 12, .inl f_39)), (q_50, .inl (k 0, 12, .inl f_40)), ((a6 47), .inl (k 0, 12, .inl f_40)), (q_51, .inl (k 0, 12, .inl f_41)), ((a6 48), .inl (k 0, 12, .inl f_41))] H := hP
    have hD : va_D A [(q_0, .inr (11, [.ref q_2, .ref q_1, .ref q_52, .ref q_53, .ref q_54, .int x_1])), (q_1, .inl (k 4, 2, .inr (.inr (.inr (.inr (va_up (fun _ => none) (Int32.toNatClampNeg x_0) (some q5))))))), (q5, .inr (3, [.ref (a6 0), .ref (a6 13), .ref (a6 19), .ref (a6 32), .ref (a6 35), .ref (a6 39)])), (q_2, .inr (3, [.ref q_3, .ref q_16, .ref q_22, .ref q_35, .ref q_38, .ref q_42])), (q_3, .inr (6, [.int 0, .ref q_4, .ref q_5, .ref q_6, .ref q_7, .ref q_8, .int 0, .ref q_9, .int 0, .ref q_10, .ref q_11, .ref q_12, .ref q_13, .ref q_14, .ref q_15])), ((a6 0), .inr (6, [.int 0, .ref (a6 1), .ref (a6 2), .ref (a6 3), .ref (a6 4), .ref (a6 5), .int 0, .ref (a6 6), .int 0, .ref (a6 7), .ref (a6 8), .ref (a6 9), .ref (a6 10), .ref (a6 11), .ref (a6 12)])), (q_4, .inl (k 0, 40, .inl f_0)), ((a6 1), .inl (k 0, 40, .inl f_0)), (q_5, .inl (k 0, 40, .inl f_1)), ((a6 2), .inl (k 0, 40, .inl f_1)), (q_6, .inl (k 0, 40, .inl f_2)), ((a6 3), .inl (k 0, 40, .inl f_2)), (q_7, .inl (k 0, 40, .inl f_3)), ((a6 4), .inl (k 0, 40, .inl f_3)), (q_8, .inl (k 0, 40, .inl f_4)), ((a6 5), .inl (k 0, 40, .inl f_4)), (q_9, .inl (k 0, 400, .inl f_5)), ((a6 6), .inl (k 0, 400, .inl f_5)), (q_10, .inl (k 0, 60, .inl f_6)), ((a6 7), .inl (k 0, 60, .inl f_6)), (q_11, .inl (k 0, 60, .inl f_7)), ((a6 8), .inl (k 0, 60, .inl f_7)), (q_12, .inl (k 0, 2, .inl f_8)), ((a6 9), .inl (k 0, 2, .inl f_8)), (q_13, .inl (k 0, 120, .inl f_9)), ((a6 10), .inl (k 0, 120, .inl f_9)), (q_14, .inl (k 0, 120, .inl f_10)), ((a6 11), .inl (k 0, 120, .inl f_10)), (q_15, .inl (k 0, 120, .inl f_11)), ((a6 12), .inl (k 0, 120, .inl f_11)), (q_16, .inr (8, [.int 0, .ref q_17, .ref q_18, .ref q_19, .ref q_20, .ref q_21])), ((a6 13), .inr (8, [.int 0, .ref (a6 14), .ref (a6 15), .ref (a6 16), .ref (a6 17), .ref (a6 18)])), (q_17, .inl (k 0, 120, .inl f_12)), ((a6 14), .inl (k 0, 120, .inl f_12)), (q_18, .inl (k 0, 120, .inl f_13)), ((a6 15), .inl (k 0, 120, .inl f_13)), (q_19, .inl (k 0, 120, .inl f_14)), ((a6 16), .inl (k 0, 120, .inl f_14)), (q_20, .inl (k 0, 120, .inl f_15)), ((a6 17), .inl (k 0, 120, .inl f_15)), (q_21, .inl (k 0, 120, .inl f_16)), ((a6 18), .inl (k 0, 120, .inl f_16)), (q_22, .inr (5, [.int 0, .ref q_23, .ref q_24, .ref q_25, .ref q_26, .ref q_27, .ref q_28, .ref q_29, .ref q_30, .ref q_31, .ref q_32, .ref q_33, .ref q_34, .int x_2, .int x_3])), ((a6 19), .inr (5, [.int 0, .ref (a6 20), .ref (a6 21), .ref (a6 22), .ref (a6 23), .ref (a6 24), .ref (a6 25), .ref (a6 26), .ref (a6 27), .ref (a6 28), .ref (a6 29), .ref (a6 30), .ref (a6 31), .int 0, .int 0])), (q_23, .inl (k 0, 400, .inl f_17)), ((a6 20), .inl (k 0, 400, .inl f_17)), (q_24, .inl (k 0, 400, .inl f_18)), ((a6 21), .inl (k 0, 400, .inl f_18)), (q_25, .inl (k 0, 400, .inl f_19)), ((a6 22), .inl (k 0, 400, .inl f_19)), (q_26, .inl (k 0, 400, .inl f_20)), ((a6 23), .inl (k 0, 400, .inl f_20)), (q_27, .inl (k 0, 400, .inl f_21)), ((a6 24), .inl (k 0, 400, .inl f_21)), (q_28, .inl (k 0, 400, .inl f_22)), ((a6 25), .inl (k 0, 400, .inl f_22)), (q_29, .inl (k 0, 400, .inl f_23)), ((a6 26), .inl (k 0, 400, .inl f_23)), (q_30, .inl (k 0, 400, .inl f_24)), ((a6 27), .inl (k 0, 400, .inl f_24)), (q_31, .inl (k 0, 400, .inl f_25)), ((a6 28), .inl (k 0, 400, .inl f_25)), (q_32, .inl (k 0, 400, .inl f_26)), ((a6 29), .inl (k 0, 400, .inl f_26)), (q_33, .inl (k 0, 400, .inl f_27)), ((a6 30), .inl (k 0, 400, .inl f_27)), (q_34, .inl (k 0, 400, .inl f_28)), ((a6 31), .inl (k 0, 400, .inl f_28)), (q_35, .inr (0, [.int 0, .ref q_36, .ref q_37])), ((a6 32), .inr (0, [.int 0, .ref (a6 33), .ref (a6 34)])), (q_36, .inl (k 3, 20, .inr (.inr (.inr (.inr (fun _ => none)))))), ((a6 33), .inl (k 3, 20, .inr (.inr (.inr (.inr (va_up (va_up (va_up (va_up (va_up (va_up (va_up (va_up (va_up (va_up (va_up (va_up (va_up (va_up (va_up (va_up (va_up (va_up (va_up (va_up (fun _ => none) 0 none) 1 none) 2 none) 3 none) 4 none) 5 none) 6 none) 7 none) 8 none) 9 none) 10 none) 11 none) 12 none) 13 none) 14 none) 15 none) 16 none) 17 none) 18 none) 19 none)))))), (q_37, .inl (k 0, 20, .inl f_29)), ((a6 34), .inl (k 0, 20, .inl f_29)), (q_38, .inr (9, [.ref q_39, .ref q_40, .ref q_41])), ((a6 35), .inr (9, [.ref (a6 36), .ref (a6 37), .ref (a6 38)])), (q_39, .inl (k 0, 160, .inl f_30)), ((a6 36), .inl (k 0, 160, .inl f_30)), (q_40, .inl (k 0, 160, .inl f_31)), ((a6 37), .inl (k 0, 160, .inl f_31)), (q_41, .inl (k 0, 160, .inl f_32)), ((a6 38), .inl (k 0, 160, .inl f_32)), (q_42, .inr (4, [.int 0, .ref q_43, .int 0, .ref q_44, .ref q_45, .int 0, .ref q_46, .ref q_47, .ref q_48, .int 0, .ref q_49, .ref q_50, .ref q_51])), ((a6 39), .inr (4, [.int 0, .ref (a6 40), .int 0, .ref (a6 41), .ref (a6 42), .int 0, .ref (a6 43), .ref (a6 44), .ref (a6 45), .int 0, .ref (a6 46), .ref (a6 47), .ref (a6 48)])), (q_43, .inl (k 0, 6, .inl f_33)), ((a6 40), .inl (k 0, 6, .inl f_33)), (q_44, .inl (k 0, 6, .inl f_34)), ((a6 41), .inl (k 0, 6, .inl f_34)), (q_45, .inl (k 0, 6, .inl f_35)), ((a6 42), .inl (k 0, 6, .inl f_35)), (q_46, .inl (k 0, 9, .inl f_36)), ((a6 43), .inl (k 0, 9, .inl f_36)), (q_47, .inl (k 0, 9, .inl f_37)), ((a6 44), .inl (k 0, 9, .inl f_37)), (q_48, .inl (k 0, 9, .inl f_38)), ((a6 45), .inl (k 0, 9, .inl f_38)), (q_49, .inl (k 0, 12, .inl f_39)), ((a6 46), .inl (k 0, 12, .inl f_39)), (q_50, .inl (k 0, 12, .inl f_40)), ((a6 47), .inl (k 0, 12, .inl f_40)), (q_51, .inl (k 0, 12, .inl f_41)), ((a6 48), .inl (k 0, 12, .inl f_41))] := hD
    refine lv_aload_n hx hb dX11_image_50 rfl (lv_at hl 0 rfl) ?_
    refine lv_iconst (v := 0) hx hb dX11_image_51 (by decide) ?_
    refine z_bi (wr := [(q_1, .inl (k 4, 2, .inr (.inr (.inr (.inr (va_up (fun _ => none) (Int32.toNatClampNeg x_0) (some q5))))))), (q5, .inr (3, [.ref (a6 0), .ref (a6 13), .ref (a6 19), .ref (a6 32), .ref (a6 35), .ref (a6 39)])), (q_2, .inr (3, [.ref q_3, .ref q_16, .ref q_22, .ref q_35, .ref q_38, .ref q_42])), (q_3, .inr (6, [.int 0, .ref q_4, .ref q_5, .ref q_6, .ref q_7, .ref q_8, .int 0, .ref q_9, .int 0, .ref q_10, .ref q_11, .ref q_12, .ref q_13, .ref q_14, .ref q_15])), ((a6 0), .inr (6, [.int 0, .ref (a6 1), .ref (a6 2), .ref (a6 3), .ref (a6 4), .ref (a6 5), .int 0, .ref (a6 6), .int 0, .ref (a6 7), .ref (a6 8), .ref (a6 9), .ref (a6 10), .ref (a6 11), .ref (a6 12)])), (q_4, .inl (k 0, 40, .inl f_0)), ((a6 1), .inl (k 0, 40, .inl f_0)), (q_5, .inl (k 0, 40, .inl f_1)), ((a6 2), .inl (k 0, 40, .inl f_1)), (q_6, .inl (k 0, 40, .inl f_2)), ((a6 3), .inl (k 0, 40, .inl f_2)), (q_7, .inl (k 0, 40, .inl f_3)), ((a6 4), .inl (k 0, 40, .inl f_3)), (q_8, .inl (k 0, 40, .inl f_4)), ((a6 5), .inl (k 0, 40, .inl f_4)), (q_9, .inl (k 0, 400, .inl f_5)), ((a6 6), .inl (k 0, 400, .inl f_5)), (q_10, .inl (k 0, 60, .inl f_6)), ((a6 7), .inl (k 0, 60, .inl f_6)), (q_11, .inl (k 0, 60, .inl f_7)), ((a6 8), .inl (k 0, 60, .inl f_7)), (q_12, .inl (k 0, 2, .inl f_8)), ((a6 9), .inl (k 0, 2, .inl f_8)), (q_13, .inl (k 0, 120, .inl f_9)), ((a6 10), .inl (k 0, 120, .inl f_9)), (q_14, .inl (k 0, 120, .inl f_10)), ((a6 11), .inl (k 0, 120, .inl f_10)), (q_15, .inl (k 0, 120, .inl f_11)), ((a6 12), .inl (k 0, 120, .inl f_11)), (q_16, .inr (8, [.int 0, .ref q_17, .ref q_18, .ref q_19, .ref q_20, .ref q_21])), ((a6 13), .inr (8, [.int 0, .ref (a6 14), .ref (a6 15), .ref (a6 16), .ref (a6 17), .ref (a6 18)])), (q_17, .inl (k 0, 120, .inl f_12)), ((a6 14), .inl (k 0, 120, .inl f_12)), (q_18, .inl (k 0, 120, .inl f_13)), ((a6 15), .inl (k 0, 120, .inl f_13)), (q_19, .inl (k 0, 120, .inl f_14)), ((a6 16), .inl (k 0, 120, .inl f_14)), (q_20, .inl (k 0, 120, .inl f_15)), ((a6 17), .inl (k 0, 120, .inl f_15)), (q_21, .inl (k 0, 120, .inl f_16)), ((a6 18), .inl (k 0, 120, .inl f_16)), (q_22, .inr (5, [.int 0, .ref q_23, .ref q_24, .ref q_25, .ref q_26, .ref q_27, .ref q_28, .ref q_29, .ref q_30, .ref q_31, .ref q_32, .ref q_33, .ref q_34, .int x_2, .int x_3])), ((a6 19), .inr (5, [.int 0, .ref (a6 20), .ref (a6 21), .ref (a6 22), .ref (a6 23), .ref (a6 24), .ref (a6 25), .ref (a6 26), .ref (a6 27), .ref (a6 28), .ref (a6 29), .ref (a6 30), .ref (a6 31), .int 0, .int 0])), (q_23, .inl (k 0, 400, .inl f_17)), ((a6 20), .inl (k 0, 400, .inl f_17)), (q_24, .inl (k 0, 400, .inl f_18)), ((a6 21), .inl (k 0, 400, .inl f_18)), (q_25, .inl (k 0, 400, .inl f_19)), ((a6 22), .inl (k 0, 400, .inl f_19)), (q_26, .inl (k 0, 400, .inl f_20)), ((a6 23), .inl (k 0, 400, .inl f_20)), (q_27, .inl (k 0, 400, .inl f_21)), ((a6 24), .inl (k 0, 400, .inl f_21)), (q_28, .inl (k 0, 400, .inl f_22)), ((a6 25), .inl (k 0, 400, .inl f_22)), (q_29, .inl (k 0, 400, .inl f_23)), ((a6 26), .inl (k 0, 400, .inl f_23)), (q_30, .inl (k 0, 400, .inl f_24)), ((a6 27), .inl (k 0, 400, .inl f_24)), (q_31, .inl (k 0, 400, .inl f_25)), ((a6 28), .inl (k 0, 400, .inl f_25)), (q_32, .inl (k 0, 400, .inl f_26)), ((a6 29), .inl (k 0, 400, .inl f_26)), (q_33, .inl (k 0, 400, .inl f_27)), ((a6 30), .inl (k 0, 400, .inl f_27)), (q_34, .inl (k 0, 400, .inl f_28)), ((a6 31), .inl (k 0, 400, .inl f_28)), (q_35, .inr (0, [.int 0, .ref q_36, .ref q_37])), ((a6 32), .inr (0, [.int 0, .ref (a6 33), .ref (a6 34)])), (q_36, .inl (k 3, 20, .inr (.inr (.inr (.inr (fun _ => none)))))), ((a6 33), .inl (k 3, 20, .inr (.inr (.inr (.inr (va_up (va_up (va_up (va_up (va_up (va_up (va_up (va_up (va_up (va_up (va_up (va_up (va_up (va_up (va_up (va_up (va_up (va_up (va_up (va_up (fun _ => none) 0 none) 1 none) 2 none) 3 none) 4 none) 5 none) 6 none) 7 none) 8 none) 9 none) 10 none) 11 none) 12 none) 13 none) 14 none) 15 none) 16 none) 17 none) 18 none) 19 none)))))), (q_37, .inl (k 0, 20, .inl f_29)), ((a6 34), .inl (k 0, 20, .inl f_29)), (q_38, .inr (9, [.ref q_39, .ref q_40, .ref q_41])), ((a6 35), .inr (9, [.ref (a6 36), .ref (a6 37), .ref (a6 38)])), (q_39, .inl (k 0, 160, .inl f_30)), ((a6 36), .inl (k 0, 160, .inl f_30)), (q_40, .inl (k 0, 160, .inl f_31)), ((a6 37), .inl (k 0, 160, .inl f_31)), (q_41, .inl (k 0, 160, .inl f_32)), ((a6 38), .inl (k 0, 160, .inl f_32)), (q_42, .inr (4, [.int 0, .ref q_43, .int 0, .ref q_44, .ref q_45, .int 0, .ref q_46, .ref q_47, .ref q_48, .int 0, .ref q_49, .ref q_50, .ref q_51])), ((a6 39), .inr (4, [.int 0, .ref (a6 40), .int 0, .ref (a6 41), .ref (a6 42), .int 0, .ref (a6 43), .ref (a6 44), .ref (a6 45), .int 0, .ref (a6 46), .ref (a6 47), .ref (a6 48)])), (q_43, .inl (k 0, 6, .inl f_33)), ((a6 40), .inl (k 0, 6, .inl f_33)), (q_44, .inl (k 0, 6, .inl f_34)), ((a6 41), .inl (k 0, 6, .inl f_34)), (q_45, .inl (k 0, 6, .inl f_35)), ((a6 42), .inl (k 0, 6, .inl f_35)), (q_46, .inl (k 0, 9, .inl f_36)), ((a6 43), .inl (k 0, 9, .inl f_36)), (q_47, .inl (k 0, 9, .inl f_37)), ((a6 44), .inl (k 0, 9, .inl f_37)), (q_48, .inl (k 0, 9, .inl f_38)), ((a6 45), .inl (k 0, 9, .inl f_38)), (q_49, .inl (k 0, 12, .inl f_39)), ((a6 46), .inl (k 0, 12, .inl f_39)), (q_50, .inl (k 0, 12, .inl f_40)), ((a6 47), .inl (k 0, 12, .inl f_40)), (q_51, .inl (k 0, 12, .inl f_41)), ((a6 48), .inl (k 0, 12, .inl f_41))]) (z_runV (C := RX11) (As := [.int 0]) (rest := []) C0 (c_X11_answer_2 l D k q_0 q_2 q_1 q_52 q_53 q_54 x_1 _) okV_X11_answer kM_X11_55 rfl (z_pV (q0 := 0) hK hN hP hD [0] rfl rfl rfl rfl rfl) rfl hl.1 rfl (Nat.le_of_ble_eq_true rfl) dX11_image_52 rfl) hP hD hS hA [0] [1, 2, 3, 4, 5, 6, 7, 8, 9, 10, 11, 12, 13, 14, 15, 16, 17, 18, 19, 20, 21, 22, 23, 24, 25, 26, 27, 28, 29, 30, 31, 32, 33, 34, 35, 36, 37, 38, 39, 40, 41, 42, 43, 44, 45, 46, 47, 48, 49, 50, 51, 52, 53, 54, 55, 56, 57, 58, 59, 60, 61, 62, 63, 64, 65, 66, 67, 68, 69, 70, 71, 72, 73, 74, 75, 76, 77, 78, 79, 80, 81, 82, 83, 84, 85, 86, 87, 88, 89, 90, 91, 92, 93, 94, 95, 96, 97, 98, 99, 100, 101] rfl rfl rfl rfl (fun r8 u8 H locs hw8 hP hD hS => ?_)
    obtain ⟨i8, a8⟩ := u8
    dsimp only at hw8
    obtain ⟨rfl, rfl⟩ := hw8
    have hP : va_P D vwCl [(q_1, .inl (k 4, 2, .inr (.inr (.inr (.inr (va_up (fun _ => none) (Int32.toNatClampNeg x_0) (some q5))))))), (q5, .inr (3, [.ref (a6 0), .ref (a6 13), .ref (a6 19), .ref (a6 32), .ref (a6 35), .ref (a6 39)])), (q_2, .inr (3, [.ref q_3, .ref q_16, .ref q_22, .ref q_35, .ref q_38, .ref q_42])), (q_3, .inr (6, [.int 0, .ref q_4, .ref q_5, .ref q_6, .ref q_7, .ref q_8, .int 0, .ref q_9, .int 0, .ref q_10, .ref q_11, .ref q_12, .ref q_13, .ref q_14, .ref q_15])), ((a6 0), .inr (6, [.int 0, .ref (a6 1), .ref (a6 2), .ref (a6 3), .ref (a6 4), .ref (a6 5), .int 0, .ref (a6 6), .int 0, .ref (a6 7), .ref (a6 8), .ref (a6 9), .ref (a6 10), .ref (a6 11), .ref (a6 12)])), (q_4, .inl (k 0, 40, .inl f_0)), ((a6 1), .inl (k 0, 40, .inl f_0)), (q_5, .inl (k 0, 40, .inl f_1)), ((a6 2), .inl (k 0, 40, .inl f_1)), (q_6, .inl (k 0, 40, .inl f_2)), ((a6 3), .inl (k 0, 40, .inl f_2)), (q_7, .inl (k 0, 40, .inl f_3)), ((a6 4), .inl (k 0, 40, .inl f_3)), (q_8, .inl (k 0, 40, .inl f_4)), ((a6 5), .inl (k 0, 40, .inl f_4)), (q_9, .inl (k 0, 400, .inl f_5)), ((a6 6), .inl (k 0, 400, .inl f_5)), (q_10, .inl (k 0, 60, .inl f_6)), ((a6 7), .inl (k 0, 60, .inl f_6)), (q_11, .inl (k 0, 60, .inl f_7)), ((a6 8), .inl (k 0, 60, .inl f_7)), (q_12, .inl (k 0, 2, .inl f_8)), ((a6 9), .inl (k 0, 2, .inl f_8)), (q_13, .inl (k 0, 120, .inl f_9)), ((a6 10), .inl (k 0, 120, .inl f_9)), (q_14, .inl (k 0, 120, .inl f_10)), ((a6 11), .inl (k 0, 120, .inl f_10)), (q_15, .inl (k 0, 120, .inl f_11)), ((a6 12), .inl (k 0, 120, .inl f_11)), (q_16, .inr (8, [.int 0, .ref q_17, .ref q_18, .ref q_19, .ref q_20, .ref q_21])), ((a6 13), .inr (8, [.int 0, .ref (a6 14), .ref (a6 15), .ref (a6 16), .ref (a6 17), .ref (a6 18)])), (q_17, .inl (k 0, 120, .inl f_12)), ((a6 14), .inl (k 0, 120, .inl f_12)), (q_18, .inl (k 0, 120, .inl f_13)), ((a6 15), .inl (k 0, 120, .inl f_13)), (q_19, .inl (k 0, 120, .inl f_14)), ((a6 16), .inl (k 0, 120, .inl f_14)), (q_20, .inl (k 0, 120, .inl f_15)), ((a6 17), .inl (k 0, 120, .inl f_15)), (q_21, .inl (k 0, 120, .inl f_16)), ((a6 18), .inl (k 0, 120, .inl f_16)), (q_22, .inr (5, [.int 0, .ref q_23, .ref q_24, .ref q_25, .ref q_26, .ref q_27, .ref q_28, .ref q_29, .ref q_30, .ref q_31, .ref q_32, .ref q_33, .ref q_34, .int x_2, .int x_3])), ((a6 19), .inr (5, [.int 0, .ref (a6 20), .ref (a6 21), .ref (a6 22), .ref (a6 23), .ref (a6 24), .ref (a6 25), .ref (a6 26), .ref (a6 27), .ref (a6 28), .ref (a6 29), .ref (a6 30), .ref (a6 31), .int 0, .int 0])), (q_23, .inl (k 0, 400, .inl f_17)), ((a6 20), .inl (k 0, 400, .inl f_17)), (q_24, .inl (k 0, 400, .inl f_18)), ((a6 21), .inl (k 0, 400, .inl f_18)), (q_25, .inl (k 0, 400, .inl f_19)), ((a6 22), .inl (k 0, 400, .inl f_19)), (q_26, .inl (k 0, 400, .inl f_20)), ((a6 23), .inl (k 0, 400, .inl f_20)), (q_27, .inl (k 0, 400, .inl f_21)), ((a6 24), .inl (k 0, 400, .inl f_21)), (q_28, .inl (k 0, 400, .inl f_22)), ((a6 25), .inl (k 0, 400, .inl f_22)), (q_29, .inl (k 0, 400, .inl f_23)), ((a6 26), .inl (k 0, 400, .inl f_23)), (q_30, .inl (k 0, 400, .inl f_24)), ((a6 27), .inl (k 0, 400, .inl f_24)), (q_31, .inl (k 0, 400, .inl f_25)), ((a6 28), .inl (k 0, 400, .inl f_25)), (q_32, .inl (k 0, 400, .inl f_26)), ((a6 29), .inl (k 0, 400, .inl f_26)), (q_33, .inl (k 0, 400, .inl f_27)), ((a6 30), .inl (k 0, 400, .inl f_27)), (q_34, .inl (k 0, 400, .inl f_28)), ((a6 31), .inl (k 0, 400, .inl f_28)), (q_35, .inr (0, [.int 0, .ref q_36, .ref q_37])), ((a6 32), .inr (0, [.int 0, .ref (a6 33), .ref (a6 34)])), (q_36, .inl (k 3, 20, .inr (.inr (.inr (.inr (fun _ => none)))))), ((a6 33), .inl (k 3, 20, .inr (.inr (.inr (.inr (va_up (va_up (va_up (va_up (va_up (va_up (va_up (va_up (va_up (va_up (va_up (va_up (va_up (va_up (va_up (va_up (va_up (va_up (va_up (va_up (fun _ => none) 0 none) 1 none) 2 none) 3 none) 4 none) 5 none) 6 none) 7 none) 8 none) 9 none) 10 none) 11 none) 12 none) 13 none) 14 none) 15 none) 16 none) 17 none) 18 none) 19 none)))))), (q_37, .inl (k 0, 20, .inl f_29)), ((a6 34), .inl (k 0, 20, .inl f_29)), (q_38, .inr (9, [.ref q_39, .ref q_40, .ref q_41])), ((a6 35), .inr (9, [.ref (a6 36), .ref (a6 37), .ref (a6 38)])), (q_39, .inl (k 0, 160, .inl f_30)), ((a6 36), .inl (k 0, 160, .inl f_30)), (q_40, .inl (k 0, 160, .inl f_31)), ((a6 37), .inl (k 0, 160, .inl f_31)), (q_41, .inl (k 0, 160, .inl f_32)), ((a6 38), .inl (k 0, 160, .inl f_32)), (q_42, .inr (4, [.int 0, .ref q_43, .int 0, .ref q_44, .ref q_45, .int 0, .ref q_46, .ref q_47, .ref q_48, .int 0, .ref q_49, .ref q_50, .ref q_51])), ((a6 39), .inr (4, [.int 0, .ref (a6 40), .int 0, .ref (a6 41), .ref (a6 42), .int 0, .ref (a6 43), .ref (a6 44), .ref (a6 45), .int 0, .ref (a6 46), .ref (a6 47), .ref (a6 48)])), (q_43, .inl (k 0, 6, .inl f_33)), ((a6 40), .inl (k 0, 6, .inl f_33)), (q_44, .inl (k 0, 6, .inl f_34)), ((a6 41), .inl (k 0, 6, .inl f_34)), (q_45, .inl (k 0, 6, .inl f_35)), ((a6 42), .inl (k 0, 6, .inl f_35)), (q_46, .inl (k 0, 9, .inl f_36)), ((a6 43), .inl (k 0, 9, .inl f_36)), (q_47, .inl (k 0, 9, .inl f_37)), ((a6 44), .inl (k 0, 9, .inl f_37)), (q_48, .inl (k 0, 9, .inl f_38)), ((a6 45), .inl (k 0, 9, .inl f_38)), (q_49, .inl (k 0, 12, .inl f_39)), ((a6 46), .inl (k 0, 12, .inl f_39)), (q_50, .inl (k 0, 12, .inl f_40)), ((a6 47), .inl (k 0, 12, .inl f_40)), (q_51, .inl (k 0, 12, .inl f_41)), ((a6 48), .inl (k 0, 12, .inl f_41)), (q_0, .inr (11, [.ref q_2, .ref q_1, .ref q_52, .ref q_53, .ref q_54, .int 0]))] H := hP
    have hD : va_D A [(q_1, .inl (k 4, 2, .inr (.inr (.inr (.inr (va_up (fun _ => none) (Int32.toNatClampNeg x_0) (some q5))))))), (q5, .inr (3, [.ref (a6 0), .ref (a6 13), .ref (a6 19), .ref (a6 32), .ref (a6 35), .ref (a6 39)])), (q_2, .inr (3, [.ref q_3, .ref q_16, .ref q_22, .ref q_35, .ref q_38, .ref q_42])), (q_3, .inr (6, [.int 0, .ref q_4, .ref q_5, .ref q_6, .ref q_7, .ref q_8, .int 0, .ref q_9, .int 0, .ref q_10, .ref q_11, .ref q_12, .ref q_13, .ref q_14, .ref q_15])), ((a6 0), .inr (6, [.int 0, .ref (a6 1), .ref (a6 2), .ref (a6 3), .ref (a6 4), .ref (a6 5), .int 0, .ref (a6 6), .int 0, .ref (a6 7), .ref (a6 8), .ref (a6 9), .ref (a6 10), .ref (a6 11), .ref (a6 12)])), (q_4, .inl (k 0, 40, .inl f_0)), ((a6 1), .inl (k 0, 40, .inl f_0)), (q_5, .inl (k 0, 40, .inl f_1)), ((a6 2), .inl (k 0, 40, .inl f_1)), (q_6, .inl (k 0, 40, .inl f_2)), ((a6 3), .inl (k 0, 40, .inl f_2)), (q_7, .inl (k 0, 40, .inl f_3)), ((a6 4), .inl (k 0, 40, .inl f_3)), (q_8, .inl (k 0, 40, .inl f_4)), ((a6 5), .inl (k 0, 40, .inl f_4)), (q_9, .inl (k 0, 400, .inl f_5)), ((a6 6), .inl (k 0, 400, .inl f_5)), (q_10, .inl (k 0, 60, .inl f_6)), ((a6 7), .inl (k 0, 60, .inl f_6)), (q_11, .inl (k 0, 60, .inl f_7)), ((a6 8), .inl (k 0, 60, .inl f_7)), (q_12, .inl (k 0, 2, .inl f_8)), ((a6 9), .inl (k 0, 2, .inl f_8)), (q_13, .inl (k 0, 120, .inl f_9)), ((a6 10), .inl (k 0, 120, .inl f_9)), (q_14, .inl (k 0, 120, .inl f_10)), ((a6 11), .inl (k 0, 120, .inl f_10)), (q_15, .inl (k 0, 120, .inl f_11)), ((a6 12), .inl (k 0, 120, .inl f_11)), (q_16, .inr (8, [.int 0, .ref q_17, .ref q_18, .ref q_19, .ref q_20, .ref q_21])), ((a6 13), .inr (8, [.int 0, .ref (a6 14), .ref (a6 15), .ref (a6 16), .ref (a6 17), .ref (a6 18)])), (q_17, .inl (k 0, 120, .inl f_12)), ((a6 14), .inl (k 0, 120, .inl f_12)), (q_18, .inl (k 0, 120, .inl f_13)), ((a6 15), .inl (k 0, 120, .inl f_13)), (q_19, .inl (k 0, 120, .inl f_14)), ((a6 16), .inl (k 0, 120, .inl f_14)), (q_20, .inl (k 0, 120, .inl f_15)), ((a6 17), .inl (k 0, 120, .inl f_15)), (q_21, .inl (k 0, 120, .inl f_16)), ((a6 18), .inl (k 0, 120, .inl f_16)), (q_22, .inr (5, [.int 0, .ref q_23, .ref q_24, .ref q_25, .ref q_26, .ref q_27, .ref q_28, .ref q_29, .ref q_30, .ref q_31, .ref q_32, .ref q_33, .ref q_34, .int x_2, .int x_3])), ((a6 19), .inr (5, [.int 0, .ref (a6 20), .ref (a6 21), .ref (a6 22), .ref (a6 23), .ref (a6 24), .ref (a6 25), .ref (a6 26), .ref (a6 27), .ref (a6 28), .ref (a6 29), .ref (a6 30), .ref (a6 31), .int 0, .int 0])), (q_23, .inl (k 0, 400, .inl f_17)), ((a6 20), .inl (k 0, 400, .inl f_17)), (q_24, .inl (k 0, 400, .inl f_18)), ((a6 21), .inl (k 0, 400, .inl f_18)), (q_25, .inl (k 0, 400, .inl f_19)), ((a6 22), .inl (k 0, 400, .inl f_19)), (q_26, .inl (k 0, 400, .inl f_20)), ((a6 23), .inl (k 0, 400, .inl f_20)), (q_27, .inl (k 0, 400, .inl f_21)), ((a6 24), .inl (k 0, 400, .inl f_21)), (q_28, .inl (k 0, 400, .inl f_22)), ((a6 25), .inl (k 0, 400, .inl f_22)), (q_29, .inl (k 0, 400, .inl f_23)), ((a6 26), .inl (k 0, 400, .inl f_23)), (q_30, .inl (k 0, 400, .inl f_24)), ((a6 27), .inl (k 0, 400, .inl f_24)), (q_31, .inl (k 0, 400, .inl f_25)), ((a6 28), .inl (k 0, 400, .inl f_25)), (q_32, .inl (k 0, 400, .inl f_26)), ((a6 29), .inl (k 0, 400, .inl f_26)), (q_33, .inl (k 0, 400, .inl f_27)), ((a6 30), .inl (k 0, 400, .inl f_27)), (q_34, .inl (k 0, 400, .inl f_28)), ((a6 31), .inl (k 0, 400, .inl f_28)), (q_35, .inr (0, [.int 0, .ref q_36, .ref q_37])), ((a6 32), .inr (0, [.int 0, .ref (a6 33), .ref (a6 34)])), (q_36, .inl (k 3, 20, .inr (.inr (.inr (.inr (fun _ => none)))))), ((a6 33), .inl (k 3, 20, .inr (.inr (.inr (.inr (va_up (va_up (va_up (va_up (va_up (va_up (va_up (va_up (va_up (va_up (va_up (va_up (va_up (va_up (va_up (va_up (va_up (va_up (va_up (va_up (fun _ => none) 0 none) 1 none) 2 none) 3 none) 4 none) 5 none) 6 none) 7 none) 8 none) 9 none) 10 none) 11 none) 12 none) 13 none) 14 none) 15 none) 16 none) 17 none) 18 none) 19 none)))))), (q_37, .inl (k 0, 20, .inl f_29)), ((a6 34), .inl (k 0, 20, .inl f_29)), (q_38, .inr (9, [.ref q_39, .ref q_40, .ref q_41])), ((a6 35), .inr (9, [.ref (a6 36), .ref (a6 37), .ref (a6 38)])), (q_39, .inl (k 0, 160, .inl f_30)), ((a6 36), .inl (k 0, 160, .inl f_30)), (q_40, .inl (k 0, 160, .inl f_31)), ((a6 37), .inl (k 0, 160, .inl f_31)), (q_41, .inl (k 0, 160, .inl f_32)), ((a6 38), .inl (k 0, 160, .inl f_32)), (q_42, .inr (4, [.int 0, .ref q_43, .int 0, .ref q_44, .ref q_45, .int 0, .ref q_46, .ref q_47, .ref q_48, .int 0, .ref q_49, .ref q_50, .ref q_51])), ((a6 39), .inr (4, [.int 0, .ref (a6 40), .int 0, .ref (a6 41), .ref (a6 42), .int 0, .ref (a6 43), .ref (a6 44), .ref (a6 45), .int 0, .ref (a6 46), .ref (a6 47), .ref (a6 48)])), (q_43, .inl (k 0, 6, .inl f_33)), ((a6 40), .inl (k 0, 6, .inl f_33)), (q_44, .inl (k 0, 6, .inl f_34)), ((a6 41), .inl (k 0, 6, .inl f_34)), (q_45, .inl (k 0, 6, .inl f_35)), ((a6 42), .inl (k 0, 6, .inl f_35)), (q_46, .inl (k 0, 9, .inl f_36)), ((a6 43), .inl (k 0, 9, .inl f_36)), (q_47, .inl (k 0, 9, .inl f_37)), ((a6 44), .inl (k 0, 9, .inl f_37)), (q_48, .inl (k 0, 9, .inl f_38)), ((a6 45), .inl (k 0, 9, .inl f_38)), (q_49, .inl (k 0, 12, .inl f_39)), ((a6 46), .inl (k 0, 12, .inl f_39)), (q_50, .inl (k 0, 12, .inl f_40)), ((a6 47), .inl (k 0, 12, .inl f_40)), (q_51, .inl (k 0, 12, .inl f_41)), ((a6 48), .inl (k 0, 12, .inl f_41)), (q_0, .inr (11, [.ref q_2, .ref q_1, .ref q_52, .ref q_53, .ref q_54, .int 0]))] := hD
    exact z_iret C0 hr hlk rfl hK hP hD hS (1, fun _ => 0) (Or.inr (⟨rfl, rfl, c1⟩)) [] rfl rfl rfl dX11_image_55

set_option maxHeartbeats 4000000 in
set_option maxRecDepth 100000 in
theorem c_X12_image_1 (l : Launch) (D : va_G) (k : Nat → ClassId) (q_0 : Nat) (q_1 : Nat) (q_2 : Nat) (q_3 : Nat) (q_4 : Nat) (q_5 : Nat) (q_6 : Nat) (q_7 : Nat) (q_8 : Nat) (q_9 : Nat) (q_10 : Nat) (q_11 : Nat) (q_12 : Nat) (q_13 : Nat) (q_14 : Nat) (q_15 : Nat) (q_16 : Nat) (q_17 : Nat) (q_18 : Nat) (q_19 : Nat) (q_20 : Nat) (q_21 : Nat) (q_22 : Nat) (q_23 : Nat) (q_24 : Nat) (q_25 : Nat) (x_0 : Int32) (x_1 : Int32) (x_2 : Int32) (x_3 : Int32) (x_4 : Int32) (x_5 : Int32) (x_6 : Int32) (x_7 : Int32) (g_8 : Int64) (x_9 : Int32) (x_10 : Int32) (x_11 : Int32) (x_12 : Int32) (x_13 : Int32) (x_14 : Int32) (x_15 : Int32) (x_16 : Int32) (g_17 : Int64) (g_18 : Int64) (x_19 : Int32) (x_20 : Int32) (x_21 : Int32) (x_22 : Int32) (x_23 : Int32) (x_24 : Int32) (x_25 : Int32) (x_26 : Int32) (x_27 : Int32) (x_28 : Int32) (x_29 : Int32) (x_30 : Int32) (x_31 : Int32) (f_0 : Nat → Int32) (f_1 : Nat → Int32) : zMi l yX12_image cX12_image 3 (some .int) ({ frames := 1, cells := 0, slots := 0, locals := 25 }) D k [.ref q_0, .int x_0] [(q_0, .inr (12, [.int x_1, .int x_2, .ref q_2, .ref q_3, .ref q_1, .int x_3, .ref q_4, .ref q_5, .ref q_6, .ref q_7, .ref q_8, .int x_4, .int x_5, .int x_6, .int x_7, .long g_8, .int x_9, .int x_10, .int x_11, .ref q_9, .int x_12, .ref q_10, .ref q_11, .int x_13, .ref q_12, .ref q_13, .int x_14, .int x_15, .ref q_14, .ref q_15, .ref q_16, .ref q_17, .int x_16, .long g_17, .long g_18, .int x_19, .int x_20, .int x_21, .int x_22, .ref q_18, .ref q_19, .int x_23, .int x_24, .int x_25, .int x_26, .ref q_20, .ref q_21, .int x_27, .int x_28, .ref q_22, .ref q_23, .ref q_24, .ref q_25, .int x_29, .int x_30, .int x_31])), (q_1, .inl (k 2, 2, .inl f_0)), (q_2, .inl (k 0, 27101, .inl (fun _ => 0))), (q_3, .inl (k 0, 54202, .inl f_1))] (fun r u => (u.1 = 0 ∧ r = (-1) ∧ (((((Int32.toInt64 x_0) < 0) ∨ (¬ (Int32.toInt64 x_0) < 0 ∧ (1 : Int64) < (Int32.toInt64 x_0)))))) ∨ (u.1 = 1 ∧ r = 0 ∧ ((((¬ (Int32.toInt64 x_0) < 0 ∧ ¬ (1 : Int64) < (Int32.toInt64 x_0))))))) (fun u => []) := by
  refine zMi_of (own := RX12) (by decide +kernel) rfl (Nat.le_of_ble_eq_true rfl) ?_
  intro p e s m args below meth c A ls C0 hr hlk hin hP hD hS hA hK hN hl
  have hx := C0.1
  have hb := C0.2.1
  have hml := C0.2.2.1
  have hown := C0.2.2.2.1
  have hts := C0.2.2.2.2
  have hl : lv_has ls 3 [(0, .ref q_0), (1, .int x_0)] := hl
  have hP : va_P D vwCl [(q_0, .inr (12, [.int x_1, .int x_2, .ref q_2, .ref q_3, .ref q_1, .int x_3, .ref q_4, .ref q_5, .ref q_6, .ref q_7, .ref q_8, .int x_4, .int x_5, .int x_6, .int x_7, .long g_8, .int x_9, .int x_10, .int x_11, .ref q_9, .int x_12, .ref q_10, .ref q_11, .int x_13, .ref q_12, .ref q_13, .int x_14, .int x_15, .ref q_14, .ref q_15, .ref q_16, .ref q_17, .int x_16, .long g_17, .long g_18, .int x_19, .int x_20, .int x_21, .int x_22, .ref q_18, .ref q_19, .int x_23, .int x_24, .int x_25, .int x_26, .ref q_20, .ref q_21, .int x_27, .int x_28, .ref q_22, .ref q_23, .ref q_24, .ref q_25, .int x_29, .int x_30, .int x_31])), (q_1, .inl (k 2, 2, .inl f_0)), (q_2, .inl (k 0, 27101, .inl (fun _ => 0))), (q_3, .inl (k 0, 54202, .inl f_1))] s.heap := hP
  refine lv_aload_n hx hb dX12_image_0 rfl (lv_at hl 0 rfl) ?_
  refine lv_iconst (v := 0) hx hb dX12_image_1 (by decide) ?_
  refine va_put (D := D) (ci := 12) (v := .int 0) (ty := .int) (C := RX12) (T := TX12) (N := 56) hx hb hts inX12 tyX12 tyX12_ok nmX12 hown hK hP hD hS 0 rfl rfl 0 (by decide) (hts _ kF_X12_92) (fun _ h9 => h9) rfl (by decide +kernel) rfl rfl (Nat.le_of_ble_eq_true rfl) dX12_image_2 (fun H locs hP hD hS => ?_)
  have hP : va_P D vwCl [(q_0, .inr (12, [.int 0, .int x_2, .ref q_2, .ref q_3, .ref q_1, .int x_3, .ref q_4, .ref q_5, .ref q_6, .ref q_7, .ref q_8, .int x_4, .int x_5, .int x_6, .int x_7, .long g_8, .int x_9, .int x_10, .int x_11, .ref q_9, .int x_12, .ref q_10, .ref q_11, .int x_13, .ref q_12, .ref q_13, .int x_14, .int x_15, .ref q_14, .ref q_15, .ref q_16, .ref q_17, .int x_16, .long g_17, .long g_18, .int x_19, .int x_20, .int x_21, .int x_22, .ref q_18, .ref q_19, .int x_23, .int x_24, .int x_25, .int x_26, .ref q_20, .ref q_21, .int x_27, .int x_28, .ref q_22, .ref q_23, .ref q_24, .ref q_25, .int x_29, .int x_30, .int x_31])), (q_1, .inl (k 2, 2, .inl f_0)), (q_2, .inl (k 0, 27101, .inl (fun _ => 0))), (q_3, .inl (k 0, 54202, .inl f_1))] H := hP
  have hD : va_D A [(q_0, .inr (12, [.int 0, .int x_2, .ref q_2, .ref q_3, .ref q_1, .int x_3, .ref q_4, .ref q_5, .ref q_6, .ref q_7, .ref q_8, .int x_4, .int x_5, .int x_6, .int x_7, .long g_8, .int x_9, .int x_10, .int x_11, .ref q_9, .int x_12, .ref q_10, .ref q_11, .int x_13, .ref q_12, .ref q_13, .int x_14, .int x_15, .ref q_14, .ref q_15, .ref q_16, .ref q_17, .int x_16, .long g_17, .long g_18, .int x_19, .int x_20, .int x_21, .int x_22, .ref q_18, .ref q_19, .int x_23, .int x_24, .int x_25, .int x_26, .ref q_20, .ref q_21, .int x_27, .int x_28, .ref q_22, .ref q_23, .ref q_24, .ref q_25, .int x_29, .int x_30, .int x_31])), (q_1, .inl (k 2, 2, .inl f_0)), (q_2, .inl (k 0, 27101, .inl (fun _ => 0))), (q_3, .inl (k 0, 54202, .inl f_1))] := hD
  refine lv_iload_n hx hb dX12_image_5 rfl (lv_at hl 1 rfl) ?_
  refine lv_i2l (v := (Int32.toInt64 x_0)) hx hb dX12_image_6 rfl ?_
  refine lv_lconst (v := 0) hx hb dX12_image_7 (by decide) ?_
  refine lv_lconst (v := 1) hx hb dX12_image_8 (by decide) ?_
  refine z_bi0 (z_runS (As := [.long (Int32.toInt64 x_0), .long 0, .long 1]) (rest := []) C0 (c_X12_in_1 l D k (Int32.toInt64 x_0) 0 1 _) okS_X12_in kM_X12_100 rfl (z_p0 hK hN) rfl hl.1 rfl (Nat.le_of_ble_eq_true rfl) dX12_image_9 rfl) hP hS hA (fun r1 u1 H locs hw1 hP hS => ?_)
  obtain ⟨i1, a1⟩ := u1
  dsimp only at hw1
  rcases hw1 with ⟨rfl, rfl, c1⟩ | ⟨rfl, rfl, c1⟩
  · refine lv_if_ne (tgt := 21) hx hb dX12_image_12 (by decide) (fun c2 => absurd (by decide) c2) (fun _ => ?_)
    refine lv_aload_n hx hb dX12_image_15 rfl (lv_at hl 0 rfl) ?_
    refine lv_iconst (v := (-1)) hx hb dX12_image_16 (by decide) ?_
    refine z_bi (wr := [(q_1, .inl (k 2, 2, .inl f_0)), (q_2, .inl (k 0, 27101, .inl (fun _ => 0))), (q_3, .inl (k 0, 54202, .inl f_1))]) (z_runV (C := RX12) (As := [.int (-1)]) (rest := []) C0 (c_X12_told_1 l D k q_0 q_2 q_3 q_1 q_4 q_5 q_6 q_7 q_8 q_9 q_10 q_11 q_12 q_13 q_14 q_15 q_16 q_17 q_18 q_19 q_20 q_21 q_22 q_23 q_24 q_25 0 x_2 x_3 x_4 x_5 x_6 x_7 g_8 x_9 x_10 x_11 x_12 x_13 x_14 x_15 x_16 g_17 g_18 x_19 x_20 x_21 x_22 x_23 x_24 x_25 x_26 x_27 x_28 x_29 x_30 x_31 _) okV_X12_told kM_X12_106 rfl (z_pV (q0 := 0) hK hN hP hD [0] rfl rfl rfl rfl rfl) rfl hl.1 rfl (Nat.le_of_ble_eq_true rfl) dX12_image_17 rfl) hP hD hS hA [0] [1, 2, 3] rfl rfl rfl rfl (fun r3 u3 H locs hw3 hP hD hS => ?_)
    obtain ⟨i3, a3⟩ := u3
    dsimp only at hw3
    obtain ⟨rfl, rfl⟩ := hw3
    have hP : va_P D vwCl [(q_1, .inl (k 2, 2, .inl f_0)), (q_2, .inl (k 0, 27101, .inl (fun _ => 0))), (q_3, .inl (k 0, 54202, .inl f_1)), (q_0, .inr (12, [.int 0, .int (-1), .ref q_2, .ref q_3, .ref q_1, .int x_3, .ref q_4, .ref q_5, .ref q_6, .ref q_7, .ref q_8, .int x_4, .int x_5, .int x_6, .int x_7, .long g_8, .int x_9, .int x_10, .int x_11, .ref q_9, .int x_12, .ref q_10, .ref q_11, .int x_13, .ref q_12, .ref q_13, .int x_14, .int x_15, .ref q_14, .ref q_15, .ref q_16, .ref q_17, .int x_16, .long g_17, .long g_18, .int x_19, .int x_20, .int x_21, .int x_22, .ref q_18, .ref q_19, .int x_23, .int x_24, .int x_25, .int x_26, .ref q_20, .ref q_21, .int x_27, .int x_28, .ref q_22, .ref q_23, .ref q_24, .ref q_25, .int x_29, .int x_30, .int x_31]))] H := hP
    have hD : va_D A [(q_1, .inl (k 2, 2, .inl f_0)), (q_2, .inl (k 0, 27101, .inl (fun _ => 0))), (q_3, .inl (k 0, 54202, .inl f_1)), (q_0, .inr (12, [.int 0, .int (-1), .ref q_2, .ref q_3, .ref q_1, .int x_3, .ref q_4, .ref q_5, .ref q_6, .ref q_7, .ref q_8, .int x_4, .int x_5, .int x_6, .int x_7, .long g_8, .int x_9, .int x_10, .int x_11, .ref q_9, .int x_12, .ref q_10, .ref q_11, .int x_13, .ref q_12, .ref q_13, .int x_14, .int x_15, .ref q_14, .ref q_15, .ref q_16, .ref q_17, .int x_16, .long g_17, .long g_18, .int x_19, .int x_20, .int x_21, .int x_22, .ref q_18, .ref q_19, .int x_23, .int x_24, .int x_25, .int x_26, .ref q_20, .ref q_21, .int x_27, .int x_28, .ref q_22, .ref q_23, .ref q_24, .ref q_25, .int x_29, .int x_30, .int x_31]))] := hD
    exact z_iret C0 hr hlk rfl hK hP hD hS (0, fun _ => 0) (Or.inl ⟨rfl, rfl, c1⟩) [] rfl rfl rfl dX12_image_20
  · refine lv_if_ne (tgt := 21) hx hb dX12_image_12 (by decide) (fun _ => ?_) (fun c4 => absurd c4 (by decide))
    refine lv_iconst (v := 0) hx hb dX12_image_21 (by decide) ?_
    refine lv_istore_n (lv' := [(2, .int 0), (0, .ref q_0), (1, .int x_0)]) hx hb dX12_image_22 rfl hl (by decide) rfl (fun ls hl => ?_)
    have loop7 : ∀ (r i5 : Nat) (F6 : Nat → Int32) (H : Heap) (locs : List Loc) (ls : Array Slot), i5 + r = 27101 → va_P D vwCl [(q_0, .inr (12, [.int 0, .int x_2, .ref q_2, .ref q_3, .ref q_1, .int x_3, .ref q_4, .ref q_5, .ref q_6, .ref q_7, .ref q_8, .int x_4, .int x_5, .int x_6, .int x_7, .long g_8, .int x_9, .int x_10, .int x_11, .ref q_9, .int x_12, .ref q_10, .ref q_11, .int x_13, .ref q_12, .ref q_13, .int x_14, .int x_15, .ref q_14, .ref q_15, .ref q_16, .ref q_17, .int x_16, .long g_17, .long g_18, .int x_19, .int x_20, .int x_21, .int x_22, .ref q_18, .ref q_19, .int x_23, .int x_24, .int x_25, .int x_26, .ref q_20, .ref q_21, .int x_27, .int x_28, .ref q_22, .ref q_23, .ref q_24, .ref q_25, .int x_29, .int x_30, .int x_31])), (q_1, .inl (k 2, 2, .inl f_0)), (q_2, .inl (k 0, 27101, .inl (fun _ => 0))), (q_3, .inl (k 0, 54202, .inl F6))] H → va_D A [(q_0, .inr (12, [.int 0, .int x_2, .ref q_2, .ref q_3, .ref q_1, .int x_3, .ref q_4, .ref q_5, .ref q_6, .ref q_7, .ref q_8, .int x_4, .int x_5, .int x_6, .int x_7, .long g_8, .int x_9, .int x_10, .int x_11, .ref q_9, .int x_12, .ref q_10, .ref q_11, .int x_13, .ref q_12, .ref q_13, .int x_14, .int x_15, .ref q_14, .ref q_15, .ref q_16, .ref q_17, .int x_16, .long g_17, .long g_18, .int x_19, .int x_20, .int x_21, .int x_22, .ref q_18, .ref q_19, .int x_23, .int x_24, .int x_25, .int x_26, .ref q_20, .ref q_21, .int x_27, .int x_28, .ref q_22, .ref q_23, .ref q_24, .ref q_25, .int x_29, .int x_30, .int x_31])), (q_1, .inl (k 2, 2, .inl f_0)), (q_2, .inl (k 0, 27101, .inl (fun _ => 0))), (q_3, .inl (k 0, 54202, .inl F6))] → va_S A s.heap H locs → lv_has ls 3 [(2, .int (nI i5)), (0, .ref q_0), (1, .int x_0)] → W p l e { frames := 1, cells := 0, slots := 0, locals := 25 } s m args below meth c H locs 0 0 (MQ below (va_Qi (fun (r : Int32) (u : zS) => (u.1 = 0 ∧ r = (-1) ∧ (((((Int32.toInt64 x_0) < 0) ∨ (¬ (Int32.toInt64 x_0) < 0 ∧ (1 : Int64) < (Int32.toInt64 x_0)))))) ∨ (u.1 = 1 ∧ r = 0 ∧ ((((¬ (Int32.toInt64 x_0) < 0 ∧ ¬ (1 : Int64) < (Int32.toInt64 x_0))))))) (zB D k A (fun (u : zS) => [])) A) args s 0 0 A) (F0 m 23 ls []) := by
      intro r
      induction r with
      | zero =>
        intro i5 F6 H locs ls hi8 hP hD hS hl
        have hI9 : (nI i5).toInt = (i5 : Int) := nI_toInt (by omega)
        refine lv_iload_n hx hb dX12_image_23 rfl (lv_at hl 0 rfl) ?_
        refine lv_sipush (v := 27101) hx hb dX12_image_24 (by decide) ?_
        refine lv_icmp_ge (tgt := 54) hx hb dX12_image_27 (by decide) (fun c10 => ?_) (fun c10 => ?_)
        · refine lv_aload_n hx hb dX12_image_54 rfl (lv_at hl 1 rfl) ?_
          refine va_get (D := D) (ci := 12) (v := .ref q_1) (C := RX12) (T := TX12) (N := 56) hx hb hts inX12 hown hK hP 0 rfl rfl 4 (by decide) (hts _ kF_X12_17) (fun _ h9 => h9) rfl dX12_image_55 ?_
          refine lv_iload_n hx hb dX12_image_58 rfl (lv_at hl 2 rfl) ?_
          refine lv_iconst (v := 1) hx hb dX12_image_59 (by decide) ?_
          refine va_zast hx hb hK hP hD hS 1 2 rfl rfl (by have bA0 := Int32.le_toInt x_0; have bB0 := Int32.toInt_lt x_0; revert c1; simp only [vp_in_iff, Int32.lt_iff_toInt_lt, Int32.le_iff_toInt_le, Int64.lt_iff_toInt_lt, Int64.le_iff_toInt_le, Int32.toInt_toInt64, ← Int32.toInt_inj, ← Int64.toInt_inj, Int32.reduceToInt, Int64.reduceToInt] <;> omega) dX12_image_60 (fun H locs hP hD hS => ?_)
          have hP : va_P D vwCl [(q_0, .inr (12, [.int 0, .int x_2, .ref q_2, .ref q_3, .ref q_1, .int x_3, .ref q_4, .ref q_5, .ref q_6, .ref q_7, .ref q_8, .int x_4, .int x_5, .int x_6, .int x_7, .long g_8, .int x_9, .int x_10, .int x_11, .ref q_9, .int x_12, .ref q_10, .ref q_11, .int x_13, .ref q_12, .ref q_13, .int x_14, .int x_15, .ref q_14, .ref q_15, .ref q_16, .ref q_17, .int x_16, .long g_17, .long g_18, .int x_19, .int x_20, .int x_21, .int x_22, .ref q_18, .ref q_19, .int x_23, .int x_24, .int x_25, .int x_26, .ref q_20, .ref q_21, .int x_27, .int x_28, .ref q_22, .ref q_23, .ref q_24, .ref q_25, .int x_29, .int x_30, .int x_31])), (q_1, .inl (k 2, 2, .inl (upd f_0 (Int32.toNatClampNeg x_0) 1))), (q_2, .inl (k 0, 27101, .inl (fun _ => 0))), (q_3, .inl (k 0, 54202, .inl F6))] H := hP
          have hD : va_D A [(q_0, .inr (12, [.int 0, .int x_2, .ref q_2, .ref q_3, .ref q_1, .int x_3, .ref q_4, .ref q_5, .ref q_6, .ref q_7, .ref q_8, .int x_4, .int x_5, .int x_6, .int x_7, .long g_8, .int x_9, .int x_10, .int x_11, .ref q_9, .int x_12, .ref q_10, .ref q_11, .int x_13, .ref q_12, .ref q_13, .int x_14, .int x_15, .ref q_14, .ref q_15, .ref q_16, .ref q_17, .int x_16, .long g_17, .long g_18, .int x_19, .int x_20, .int x_21, .int x_22, .ref q_18, .ref q_19, .int x_23, .int x_24, .int x_25, .int x_26, .ref q_20, .ref q_21, .int x_27, .int x_28, .ref q_22, .ref q_23, .ref q_24, .ref q_25, .int x_29, .int x_30, .int x_31])), (q_1, .inl (k 2, 2, .inl (upd f_0 (Int32.toNatClampNeg x_0) 1))), (q_2, .inl (k 0, 27101, .inl (fun _ => 0))), (q_3, .inl (k 0, 54202, .inl F6))] := hD
          refine lv_aload_n hx hb dX12_image_61 rfl (lv_at hl 1 rfl) ?_
          refine lv_iconst (v := 0) hx hb dX12_image_62 (by decide) ?_
          refine z_bi (wr := [(q_1, .inl (k 2, 2, .inl (upd f_0 (Int32.toNatClampNeg x_0) 1))), (q_2, .inl (k 0, 27101, .inl (fun _ => 0))), (q_3, .inl (k 0, 54202, .inl F6))]) (z_runV (C := RX12) (As := [.int 0]) (rest := []) C0 (c_X12_told_2 l D k q_0 q_2 q_3 q_1 q_4 q_5 q_6 q_7 q_8 q_9 q_10 q_11 q_12 q_13 q_14 q_15 q_16 q_17 q_18 q_19 q_20 q_21 q_22 q_23 q_24 q_25 0 x_2 x_3 x_4 x_5 x_6 x_7 g_8 x_9 x_10 x_11 x_12 x_13 x_14 x_15 x_16 g_17 g_18 x_19 x_20 x_21 x_22 x_23 x_24 x_25 x_26 x_27 x_28 x_29 x_30 x_31 _) okV_X12_told kM_X12_106 rfl (z_pV (q0 := 0) hK hN hP hD [0] rfl rfl rfl rfl rfl) rfl hl.1 rfl (Nat.le_of_ble_eq_true rfl) dX12_image_63 rfl) hP hD hS hA [0] [1, 2, 3] rfl rfl rfl rfl (fun r11 u11 H locs hw11 hP hD hS => ?_)
          obtain ⟨i11, a11⟩ := u11
          dsimp only at hw11
          obtain ⟨rfl, rfl⟩ := hw11
          have hP : va_P D vwCl [(q_1, .inl (k 2, 2, .inl (upd f_0 (Int32.toNatClampNeg x_0) 1))), (q_2, .inl (k 0, 27101, .inl (fun _ => 0))), (q_3, .inl (k 0, 54202, .inl F6)), (q_0, .inr (12, [.int 0, .int 0, .ref q_2, .ref q_3, .ref q_1, .int x_3, .ref q_4, .ref q_5, .ref q_6, .ref q_7, .ref q_8, .int x_4, .int x_5, .int x_6, .int x_7, .long g_8, .int x_9, .int x_10, .int x_11, .ref q_9, .int x_12, .ref q_10, .ref q_11, .int x_13, .ref q_12, .ref q_13, .int x_14, .int x_15, .ref q_14, .ref q_15, .ref q_16, .ref q_17, .int x_16, .long g_17, .long g_18, .int x_19, .int x_20, .int x_21, .int x_22, .ref q_18, .ref q_19, .int x_23, .int x_24, .int x_25, .int x_26, .ref q_20, .ref q_21, .int x_27, .int x_28, .ref q_22, .ref q_23, .ref q_24, .ref q_25, .int x_29, .int x_30, .int x_31]))] H := hP
          have hD : va_D A [(q_1, .inl (k 2, 2, .inl (upd f_0 (Int32.toNatClampNeg x_0) 1))), (q_2, .inl (k 0, 27101, .inl (fun _ => 0))), (q_3, .inl (k 0, 54202, .inl F6)), (q_0, .inr (12, [.int 0, .int 0, .ref q_2, .ref q_3, .ref q_1, .int x_3, .ref q_4, .ref q_5, .ref q_6, .ref q_7, .ref q_8, .int x_4, .int x_5, .int x_6, .int x_7, .long g_8, .int x_9, .int x_10, .int x_11, .ref q_9, .int x_12, .ref q_10, .ref q_11, .int x_13, .ref q_12, .ref q_13, .int x_14, .int x_15, .ref q_14, .ref q_15, .ref q_16, .ref q_17, .int x_16, .long g_17, .long g_18, .int x_19, .int x_20, .int x_21, .int x_22, .ref q_18, .ref q_19, .int x_23, .int x_24, .int x_25, .int x_26, .ref q_20, .ref q_21, .int x_27, .int x_28, .ref q_22, .ref q_23, .ref q_24, .ref q_25, .int x_29, .int x_30, .int x_31]))] := hD
          exact z_iret C0 hr hlk rfl hK hP hD hS (1, fun _ => 0) (Or.inr (⟨rfl, rfl, c1⟩)) [] rfl rfl rfl dX12_image_66
        · exact (show False by have bA0 := Int32.le_toInt (nI i5); have bB0 := Int32.toInt_lt (nI i5); revert hi8 hI9 c10; simp only [vp_in_iff, Int32.lt_iff_toInt_lt, Int32.le_iff_toInt_le, Int64.lt_iff_toInt_lt, Int64.le_iff_toInt_le, Int32.toInt_toInt64, ← Int32.toInt_inj, ← Int64.toInt_inj, Int32.reduceToInt, Int64.reduceToInt] <;> omega).elim
      | succ r ih =>
        intro i5 F6 H locs ls hi8 hP hD hS hl
        have hI9 : (nI i5).toInt = (i5 : Int) := nI_toInt (by omega)
        refine lv_iload_n hx hb dX12_image_23 rfl (lv_at hl 0 rfl) ?_
        refine lv_sipush (v := 27101) hx hb dX12_image_24 (by decide) ?_
        refine lv_icmp_ge (tgt := 54) hx hb dX12_image_27 (by decide) (fun c12 => ?_) (fun c12 => ?_)
        · exact (show False by have bA0 := Int32.le_toInt (nI i5); have bB0 := Int32.toInt_lt (nI i5); revert hi8 hI9 c12; simp only [vp_in_iff, Int32.lt_iff_toInt_lt, Int32.le_iff_toInt_le, Int64.lt_iff_toInt_lt, Int64.le_iff_toInt_le, Int32.toInt_toInt64, ← Int32.toInt_inj, ← Int64.toInt_inj, Int32.reduceToInt, Int64.reduceToInt] <;> omega).elim
        · refine lv_aload_n hx hb dX12_image_30 rfl (lv_at hl 1 rfl) ?_
          refine va_get (D := D) (ci := 12) (v := .ref q_3) (C := RX12) (T := TX12) (N := 56) hx hb hts inX12 hown hK hP 0 rfl rfl 3 (by decide) (hts _ kF_X12_14) (fun _ h9 => h9) rfl dX12_image_31 ?_
          refine lv_sipush (v := 27101) hx hb dX12_image_34 (by decide) ?_
          refine lv_iload_n hx hb dX12_image_37 rfl (lv_at hl 2 rfl) ?_
          refine lv_imul hx hb dX12_image_38 ?_
          have e13 : Int32.toInt (27101 * x_0) = Int32.toInt (27101 : Int32) * Int32.toInt x_0 := zi_mul (by have bA0 := Int32.le_toInt x_0; have bB0 := Int32.toInt_lt x_0; revert c1; simp only [vp_in_iff, Int32.lt_iff_toInt_lt, Int32.le_iff_toInt_le, Int64.lt_iff_toInt_lt, Int64.le_iff_toInt_le, Int32.toInt_toInt64, ← Int32.toInt_inj, ← Int64.toInt_inj, Int32.reduceToInt, Int64.reduceToInt] <;> omega)
          refine lv_iload_n hx hb dX12_image_39 rfl (lv_at hl 0 rfl) ?_
          refine lv_iadd hx hb dX12_image_40 ?_
          have e14 : Int32.toInt ((27101 * x_0) + (nI i5)) = Int32.toInt (27101 * x_0) + Int32.toInt (nI i5) := zi_add (by have bA0 := Int32.le_toInt (27101 * x_0); have bB0 := Int32.toInt_lt (27101 * x_0); have bA1 := Int32.le_toInt (nI i5); have bB1 := Int32.toInt_lt (nI i5); have bA2 := Int32.le_toInt x_0; have bB2 := Int32.toInt_lt x_0; revert c1 hi8 hI9 c12 e13; simp only [vp_in_iff, Int32.lt_iff_toInt_lt, Int32.le_iff_toInt_le, Int64.lt_iff_toInt_lt, Int64.le_iff_toInt_le, Int32.toInt_toInt64, ← Int32.toInt_inj, ← Int64.toInt_inj, Int32.reduceToInt, Int64.reduceToInt] <;> omega)
          refine lv_aload_n hx hb dX12_image_41 rfl (lv_at hl 1 rfl) ?_
          refine va_get (D := D) (ci := 12) (v := .ref q_2) (C := RX12) (T := TX12) (N := 56) hx hb hts inX12 hown hK hP 0 rfl rfl 2 (by decide) (hts _ kF_X12_7) (fun _ h9 => h9) rfl dX12_image_42 ?_
          refine lv_iload_n hx hb dX12_image_45 rfl (lv_at hl 0 rfl) ?_
          refine va_iald hx hb hK hP 2 0 rfl rfl (by have bA0 := Int32.le_toInt ((27101 * x_0) + (nI i5)); have bB0 := Int32.toInt_lt ((27101 * x_0) + (nI i5)); have bA1 := Int32.le_toInt (27101 * x_0); have bB1 := Int32.toInt_lt (27101 * x_0); have bA2 := Int32.le_toInt (nI i5); have bB2 := Int32.toInt_lt (nI i5); have bA3 := Int32.le_toInt x_0; have bB3 := Int32.toInt_lt x_0; revert hi8 hI9 c12 e14 c1 e13; simp only [vp_in_iff, Int32.lt_iff_toInt_lt, Int32.le_iff_toInt_le, Int64.lt_iff_toInt_lt, Int64.le_iff_toInt_le, Int32.toInt_toInt64, ← Int32.toInt_inj, ← Int64.toInt_inj, Int32.reduceToInt, Int64.reduceToInt] <;> omega) dX12_image_46 ?_
          refine lv_toc (v := 0) rfl ?_
          refine va_iast hx hb hK hP hD hS 3 0 rfl rfl (by have bA0 := Int32.le_toInt ((27101 * x_0) + (nI i5)); have bB0 := Int32.toInt_lt ((27101 * x_0) + (nI i5)); have bA1 := Int32.le_toInt (27101 * x_0); have bB1 := Int32.toInt_lt (27101 * x_0); have bA2 := Int32.le_toInt (nI i5); have bB2 := Int32.toInt_lt (nI i5); have bA3 := Int32.le_toInt x_0; have bB3 := Int32.toInt_lt x_0; revert c1 hi8 hI9 c12 e13 e14; simp only [vp_in_iff, Int32.lt_iff_toInt_lt, Int32.le_iff_toInt_le, Int64.lt_iff_toInt_lt, Int64.le_iff_toInt_le, Int32.toInt_toInt64, ← Int32.toInt_inj, ← Int64.toInt_inj, Int32.reduceToInt, Int64.reduceToInt] <;> omega) dX12_image_47 (fun H locs hP hD hS => ?_)
          have hP : va_P D vwCl [(q_0, .inr (12, [.int 0, .int x_2, .ref q_2, .ref q_3, .ref q_1, .int x_3, .ref q_4, .ref q_5, .ref q_6, .ref q_7, .ref q_8, .int x_4, .int x_5, .int x_6, .int x_7, .long g_8, .int x_9, .int x_10, .int x_11, .ref q_9, .int x_12, .ref q_10, .ref q_11, .int x_13, .ref q_12, .ref q_13, .int x_14, .int x_15, .ref q_14, .ref q_15, .ref q_16, .ref q_17, .int x_16, .long g_17, .long g_18, .int x_19, .int x_20, .int x_21, .int x_22, .ref q_18, .ref q_19, .int x_23, .int x_24, .int x_25, .int x_26, .ref q_20, .ref q_21, .int x_27, .int x_28, .ref q_22, .ref q_23, .ref q_24, .ref q_25, .int x_29, .int x_30, .int x_31])), (q_1, .inl (k 2, 2, .inl f_0)), (q_2, .inl (k 0, 27101, .inl (fun _ => 0))), (q_3, .inl (k 0, 54202, .inl (upd F6 (Int32.toNatClampNeg ((27101 * x_0) + (nI i5))) 0)))] H := hP
          have hD : va_D A [(q_0, .inr (12, [.int 0, .int x_2, .ref q_2, .ref q_3, .ref q_1, .int x_3, .ref q_4, .ref q_5, .ref q_6, .ref q_7, .ref q_8, .int x_4, .int x_5, .int x_6, .int x_7, .long g_8, .int x_9, .int x_10, .int x_11, .ref q_9, .int x_12, .ref q_10, .ref q_11, .int x_13, .ref q_12, .ref q_13, .int x_14, .int x_15, .ref q_14, .ref q_15, .ref q_16, .ref q_17, .int x_16, .long g_17, .long g_18, .int x_19, .int x_20, .int x_21, .int x_22, .ref q_18, .ref q_19, .int x_23, .int x_24, .int x_25, .int x_26, .ref q_20, .ref q_21, .int x_27, .int x_28, .ref q_22, .ref q_23, .ref q_24, .ref q_25, .int x_29, .int x_30, .int x_31])), (q_1, .inl (k 2, 2, .inl f_0)), (q_2, .inl (k 0, 27101, .inl (fun _ => 0))), (q_3, .inl (k 0, 54202, .inl (upd F6 (Int32.toNatClampNeg ((27101 * x_0) + (nI i5))) 0)))] := hD
          refine lv_iinc (v := (nI (i5 + 1))) (lv' := [(2, .int (nI (i5 + 1))), (0, .ref q_0), (1, .int x_0)]) hx hb dX12_image_48 hl (k := 0) rfl (nI_1 i5) (by decide) rfl (fun ls hl => ?_)
          refine lv_goto (tgt := 23) hx hb dX12_image_51 (by decide) ?_
          exact ih (i5 + 1) (upd F6 (Int32.toNatClampNeg ((27101 * x_0) + (nI i5))) 0) _ _ ls (by omega) hP hD hS (lv_sub hl [0, 1, 2] rfl)
    exact loop7 27101 0 f_1 _ _ _ (by omega) hP hD hS hl

set_option maxHeartbeats 4000000 in
set_option maxRecDepth 100000 in
theorem c_X11_back_1 (l : Launch) (D : va_G) (k : Nat → ClassId) (q_0 : Nat) (q_1 : Nat) (q_2 : Nat) (q_3 : Nat) (q_4 : Nat) (q_5 : Nat) (x_0 : Int32) (x_1 : Int32) : zMi l yX11_back cX11_back 2 (some .int) ({ frames := 1, cells := 0, slots := 0, locals := 22 }) D k [.ref q_0, .int x_0] [(q_0, .inr (11, [.ref q_2, .ref q_1, .ref q_3, .ref q_4, .ref q_5, .int x_1])), (q_1, .inl (k 4, 2, .inr (.inr (.inr (.inr (fun _ => none))))))] (fun r u => (u.1 = 0 ∧ r = (-1) ∧ ((((x_0 < 0) ∨ (¬ x_0 < 0 ∧ ¬ x_0 ≤ 1))))) ∨ (u.1 = 1 ∧ r = (-2) ∧ ((((¬ x_0 < 0 ∧ x_0 ≤ 1)))))) (fun u => []) := by
  refine zMi_of (own := RX11) (by decide +kernel) rfl (Nat.le_of_ble_eq_true rfl) ?_
  intro p e s m args below meth c A ls C0 hr hlk hin hP hD hS hA hK hN hl
  have hx := C0.1
  have hb := C0.2.1
  have hml := C0.2.2.1
  have hown := C0.2.2.2.1
  have hts := C0.2.2.2.2
  have hl : lv_has ls 2 [(0, .ref q_0), (1, .int x_0)] := hl
  have hP : va_P D vwCl [(q_0, .inr (11, [.ref q_2, .ref q_1, .ref q_3, .ref q_4, .ref q_5, .int x_1])), (q_1, .inl (k 4, 2, .inr (.inr (.inr (.inr (fun _ => none))))))] s.heap := hP
  refine lv_iload_n hx hb dX11_back_0 rfl (lv_at hl 1 rfl) ?_
  refine lv_iconst (v := 0) hx hb dX11_back_1 (by decide) ?_
  refine lv_iconst (v := 1) hx hb dX11_back_2 (by decide) ?_
  refine z_bi0 (z_runS (As := [.int x_0, .int 0, .int 1]) (rest := []) C0 (c_X11_isOutside_1 l D k x_0 0 1 _) okS_X11_isOutside kM_X11_47 rfl (z_p0 hK hN) rfl hl.1 rfl (Nat.le_of_ble_eq_true rfl) dX11_back_3 rfl) hP hS hA (fun r1 u1 H locs hw1 hP hS => ?_)
  obtain ⟨i1, a1⟩ := u1
  dsimp only at hw1
  rcases hw1 with ⟨rfl, rfl, c1⟩ | ⟨rfl, rfl, c1⟩
  · refine lv_if_eq (tgt := 15) hx hb dX11_back_6 (by decide) (fun c2 => absurd c2 (by decide)) (fun _ => ?_)
    refine lv_aload_n hx hb dX11_back_9 rfl (lv_at hl 0 rfl) ?_
    refine lv_iconst (v := (-1)) hx hb dX11_back_10 (by decide) ?_
    refine z_bi (wr := [(q_1, .inl (k 4, 2, .inr (.inr (.inr (.inr (fun _ => none))))))]) (z_runV (C := RX11) (As := [.int (-1)]) (rest := []) C0 (c_X11_answer_1 l D k q_0 q_2 q_1 q_3 q_4 q_5 x_1 _) okV_X11_answer kM_X11_55 rfl (z_pV (q0 := 0) hK hN hP hD [0] rfl rfl rfl rfl rfl) rfl hl.1 rfl (Nat.le_of_ble_eq_true rfl) dX11_back_11 rfl) hP hD hS hA [0] [1] rfl rfl rfl rfl (fun r3 u3 H locs hw3 hP hD hS => ?_)
    obtain ⟨i3, a3⟩ := u3
    dsimp only at hw3
    obtain ⟨rfl, rfl⟩ := hw3
    have hP : va_P D vwCl [(q_1, .inl (k 4, 2, .inr (.inr (.inr (.inr (fun _ => none)))))), (q_0, .inr (11, [.ref q_2, .ref q_1, .ref q_3, .ref q_4, .ref q_5, .int (-1)]))] H := hP
    have hD : va_D A [(q_1, .inl (k 4, 2, .inr (.inr (.inr (.inr (fun _ => none)))))), (q_0, .inr (11, [.ref q_2, .ref q_1, .ref q_3, .ref q_4, .ref q_5, .int (-1)]))] := hD
    exact z_iret C0 hr hlk rfl hK hP hD hS (0, fun _ => 0) (Or.inl ⟨rfl, rfl, c1⟩) [] rfl rfl rfl dX11_back_14
  · refine lv_if_eq (tgt := 15) hx hb dX11_back_6 (by decide) (fun _ => ?_) (fun c4 => absurd (by decide) c4)
    refine lv_aload_n hx hb dX11_back_15 rfl (lv_at hl 0 rfl) ?_
    refine va_get (D := D) (ci := 11) (v := .ref q_1) (C := RX11) (T := TX11) (N := 6) hx hb hts inX11 hown hK hP 0 rfl rfl 1 (by decide) (hts _ kF_X11_16) (fun _ h9 => h9) rfl dX11_back_16 ?_
    refine lv_iload_n hx hb dX11_back_19 rfl (lv_at hl 1 rfl) ?_
    refine va_aldq hx hb hK hP 1 4 rfl rfl (by have bA0 := Int32.le_toInt x_0; have bB0 := Int32.toInt_lt x_0; revert c1; simp only [vp_in_iff, Int32.lt_iff_toInt_lt, Int32.le_iff_toInt_le, Int64.lt_iff_toInt_lt, Int64.le_iff_toInt_le, Int32.toInt_toInt64, ← Int32.toInt_inj, ← Int64.toInt_inj, Int32.reduceToInt, Int64.reduceToInt] <;> omega) dX11_back_20 ?_
    refine lv_torf (v := .null) rfl ?_
    refine lv_ifnonnullN hx hb dX11_back_21 ?_
    refine lv_aload_n hx hb dX11_back_24 rfl (lv_at hl 0 rfl) ?_
    refine lv_bipush (v := (-2)) hx hb dX11_back_25 (by decide) ?_
    refine z_bi (wr := [(q_1, .inl (k 4, 2, .inr (.inr (.inr (.inr (fun _ => none))))))]) (z_runV (C := RX11) (As := [.int (-2)]) (rest := []) C0 (c_X11_answer_3 l D k q_0 q_2 q_1 q_3 q_4 q_5 x_1 _) okV_X11_answer kM_X11_55 rfl (z_pV (q0 := 0) hK hN hP hD [0] rfl rfl rfl rfl rfl) rfl hl.1 rfl (Nat.le_of_ble_eq_true rfl) dX11_back_27 rfl) hP hD hS hA [0] [1] rfl rfl rfl rfl (fun r5 u5 H locs hw5 hP hD hS => ?_)
    obtain ⟨i5, a5⟩ := u5
    dsimp only at hw5
    obtain ⟨rfl, rfl⟩ := hw5
    have hP : va_P D vwCl [(q_1, .inl (k 4, 2, .inr (.inr (.inr (.inr (fun _ => none)))))), (q_0, .inr (11, [.ref q_2, .ref q_1, .ref q_3, .ref q_4, .ref q_5, .int (-2)]))] H := hP
    have hD : va_D A [(q_1, .inl (k 4, 2, .inr (.inr (.inr (.inr (fun _ => none)))))), (q_0, .inr (11, [.ref q_2, .ref q_1, .ref q_3, .ref q_4, .ref q_5, .int (-2)]))] := hD
    exact z_iret C0 hr hlk rfl hK hP hD hS (1, fun _ => 0) (Or.inr (⟨rfl, rfl, c1⟩)) [] rfl rfl rfl dX11_back_30

set_option maxHeartbeats 4000000 in
set_option maxRecDepth 100000 in
theorem c_X12_back_1 (l : Launch) (D : va_G) (k : Nat → ClassId) (q_0 : Nat) (q_1 : Nat) (q_2 : Nat) (q_3 : Nat) (q_4 : Nat) (q_5 : Nat) (q_6 : Nat) (q_7 : Nat) (q_8 : Nat) (q_9 : Nat) (q_10 : Nat) (q_11 : Nat) (q_12 : Nat) (q_13 : Nat) (q_14 : Nat) (q_15 : Nat) (q_16 : Nat) (q_17 : Nat) (q_18 : Nat) (q_19 : Nat) (q_20 : Nat) (q_21 : Nat) (q_22 : Nat) (q_23 : Nat) (q_24 : Nat) (q_25 : Nat) (x_0 : Int32) (x_1 : Int32) (x_2 : Int32) (x_3 : Int32) (x_4 : Int32) (x_5 : Int32) (x_6 : Int32) (x_7 : Int32) (g_8 : Int64) (x_9 : Int32) (x_10 : Int32) (x_11 : Int32) (x_12 : Int32) (x_13 : Int32) (x_14 : Int32) (x_15 : Int32) (x_16 : Int32) (g_17 : Int64) (g_18 : Int64) (x_19 : Int32) (x_20 : Int32) (x_21 : Int32) (x_22 : Int32) (x_23 : Int32) (x_24 : Int32) (x_25 : Int32) (x_26 : Int32) (x_27 : Int32) (x_28 : Int32) (x_29 : Int32) (x_30 : Int32) (x_31 : Int32) : zMi l yX12_back cX12_back 3 (some .int) ({ frames := 1, cells := 0, slots := 0, locals := 25 }) D k [.ref q_0, .int x_0] [(q_0, .inr (12, [.int x_1, .int x_2, .ref q_2, .ref q_3, .ref q_1, .int x_3, .ref q_4, .ref q_5, .ref q_6, .ref q_7, .ref q_8, .int x_4, .int x_5, .int x_6, .int x_7, .long g_8, .int x_9, .int x_10, .int x_11, .ref q_9, .int x_12, .ref q_10, .ref q_11, .int x_13, .ref q_12, .ref q_13, .int x_14, .int x_15, .ref q_14, .ref q_15, .ref q_16, .ref q_17, .int x_16, .long g_17, .long g_18, .int x_19, .int x_20, .int x_21, .int x_22, .ref q_18, .ref q_19, .int x_23, .int x_24, .int x_25, .int x_26, .ref q_20, .ref q_21, .int x_27, .int x_28, .ref q_22, .ref q_23, .ref q_24, .ref q_25, .int x_29, .int x_30, .int x_31])), (q_1, .inl (k 2, 2, .inl (fun _ => 0)))] (fun r u => (u.1 = 0 ∧ r = (-1) ∧ (((((Int32.toInt64 x_0) < 0) ∨ (¬ (Int32.toInt64 x_0) < 0 ∧ (1 : Int64) < (Int32.toInt64 x_0)))))) ∨ (u.1 = 1 ∧ r = (-2) ∧ ((((¬ (Int32.toInt64 x_0) < 0 ∧ ¬ (1 : Int64) < (Int32.toInt64 x_0))))))) (fun u => []) := by
  refine zMi_of (own := RX12) (by decide +kernel) rfl (Nat.le_of_ble_eq_true rfl) ?_
  intro p e s m args below meth c A ls C0 hr hlk hin hP hD hS hA hK hN hl
  have hx := C0.1
  have hb := C0.2.1
  have hml := C0.2.2.1
  have hown := C0.2.2.2.1
  have hts := C0.2.2.2.2
  have hl : lv_has ls 3 [(0, .ref q_0), (1, .int x_0)] := hl
  have hP : va_P D vwCl [(q_0, .inr (12, [.int x_1, .int x_2, .ref q_2, .ref q_3, .ref q_1, .int x_3, .ref q_4, .ref q_5, .ref q_6, .ref q_7, .ref q_8, .int x_4, .int x_5, .int x_6, .int x_7, .long g_8, .int x_9, .int x_10, .int x_11, .ref q_9, .int x_12, .ref q_10, .ref q_11, .int x_13, .ref q_12, .ref q_13, .int x_14, .int x_15, .ref q_14, .ref q_15, .ref q_16, .ref q_17, .int x_16, .long g_17, .long g_18, .int x_19, .int x_20, .int x_21, .int x_22, .ref q_18, .ref q_19, .int x_23, .int x_24, .int x_25, .int x_26, .ref q_20, .ref q_21, .int x_27, .int x_28, .ref q_22, .ref q_23, .ref q_24, .ref q_25, .int x_29, .int x_30, .int x_31])), (q_1, .inl (k 2, 2, .inl (fun _ => 0)))] s.heap := hP
  refine lv_aload_n hx hb dX12_back_0 rfl (lv_at hl 0 rfl) ?_
  refine lv_iconst (v := 0) hx hb dX12_back_1 (by decide) ?_
  refine va_put (D := D) (ci := 12) (v := .int 0) (ty := .int) (C := RX12) (T := TX12) (N := 56) hx hb hts inX12 tyX12 tyX12_ok nmX12 hown hK hP hD hS 0 rfl rfl 0 (by decide) (hts _ kF_X12_92) (fun _ h9 => h9) rfl (by decide +kernel) rfl rfl (Nat.le_of_ble_eq_true rfl) dX12_back_2 (fun H locs hP hD hS => ?_)
  have hP : va_P D vwCl [(q_0, .inr (12, [.int 0, .int x_2, .ref q_2, .ref q_3, .ref q_1, .int x_3, .ref q_4, .ref q_5, .ref q_6, .ref q_7, .ref q_8, .int x_4, .int x_5, .int x_6, .int x_7, .long g_8, .int x_9, .int x_10, .int x_11, .ref q_9, .int x_12, .ref q_10, .ref q_11, .int x_13, .ref q_12, .ref q_13, .int x_14, .int x_15, .ref q_14, .ref q_15, .ref q_16, .ref q_17, .int x_16, .long g_17, .long g_18, .int x_19, .int x_20, .int x_21, .int x_22, .ref q_18, .ref q_19, .int x_23, .int x_24, .int x_25, .int x_26, .ref q_20, .ref q_21, .int x_27, .int x_28, .ref q_22, .ref q_23, .ref q_24, .ref q_25, .int x_29, .int x_30, .int x_31])), (q_1, .inl (k 2, 2, .inl (fun _ => 0)))] H := hP
  have hD : va_D A [(q_0, .inr (12, [.int 0, .int x_2, .ref q_2, .ref q_3, .ref q_1, .int x_3, .ref q_4, .ref q_5, .ref q_6, .ref q_7, .ref q_8, .int x_4, .int x_5, .int x_6, .int x_7, .long g_8, .int x_9, .int x_10, .int x_11, .ref q_9, .int x_12, .ref q_10, .ref q_11, .int x_13, .ref q_12, .ref q_13, .int x_14, .int x_15, .ref q_14, .ref q_15, .ref q_16, .ref q_17, .int x_16, .long g_17, .long g_18, .int x_19, .int x_20, .int x_21, .int x_22, .ref q_18, .ref q_19, .int x_23, .int x_24, .int x_25, .int x_26, .ref q_20, .ref q_21, .int x_27, .int x_28, .ref q_22, .ref q_23, .ref q_24, .ref q_25, .int x_29, .int x_30, .int x_31])), (q_1, .inl (k 2, 2, .inl (fun _ => 0)))] := hD
  refine lv_iload_n hx hb dX12_back_5 rfl (lv_at hl 1 rfl) ?_
  refine lv_i2l (v := (Int32.toInt64 x_0)) hx hb dX12_back_6 rfl ?_
  refine lv_lconst (v := 0) hx hb dX12_back_7 (by decide) ?_
  refine lv_lconst (v := 1) hx hb dX12_back_8 (by decide) ?_
  refine z_bi0 (z_runS (As := [.long (Int32.toInt64 x_0), .long 0, .long 1]) (rest := []) C0 (c_X12_in_1 l D k (Int32.toInt64 x_0) 0 1 _) okS_X12_in kM_X12_100 rfl (z_p0 hK hN) rfl hl.1 rfl (Nat.le_of_ble_eq_true rfl) dX12_back_9 rfl) hP hS hA (fun r1 u1 H locs hw1 hP hS => ?_)
  obtain ⟨i1, a1⟩ := u1
  dsimp only at hw1
  rcases hw1 with ⟨rfl, rfl, c1⟩ | ⟨rfl, rfl, c1⟩
  · refine lv_if_ne (tgt := 21) hx hb dX12_back_12 (by decide) (fun c2 => absurd (by decide) c2) (fun _ => ?_)
    refine lv_aload_n hx hb dX12_back_15 rfl (lv_at hl 0 rfl) ?_
    refine lv_iconst (v := (-1)) hx hb dX12_back_16 (by decide) ?_
    refine z_bi (wr := [(q_1, .inl (k 2, 2, .inl (fun _ => 0)))]) (z_runV (C := RX12) (As := [.int (-1)]) (rest := []) C0 (c_X12_told_1 l D k q_0 q_2 q_3 q_1 q_4 q_5 q_6 q_7 q_8 q_9 q_10 q_11 q_12 q_13 q_14 q_15 q_16 q_17 q_18 q_19 q_20 q_21 q_22 q_23 q_24 q_25 0 x_2 x_3 x_4 x_5 x_6 x_7 g_8 x_9 x_10 x_11 x_12 x_13 x_14 x_15 x_16 g_17 g_18 x_19 x_20 x_21 x_22 x_23 x_24 x_25 x_26 x_27 x_28 x_29 x_30 x_31 _) okV_X12_told kM_X12_106 rfl (z_pV (q0 := 0) hK hN hP hD [0] rfl rfl rfl rfl rfl) rfl hl.1 rfl (Nat.le_of_ble_eq_true rfl) dX12_back_17 rfl) hP hD hS hA [0] [1] rfl rfl rfl rfl (fun r3 u3 H locs hw3 hP hD hS => ?_)
    obtain ⟨i3, a3⟩ := u3
    dsimp only at hw3
    obtain ⟨rfl, rfl⟩ := hw3
    have hP : va_P D vwCl [(q_1, .inl (k 2, 2, .inl (fun _ => 0))), (q_0, .inr (12, [.int 0, .int (-1), .ref q_2, .ref q_3, .ref q_1, .int x_3, .ref q_4, .ref q_5, .ref q_6, .ref q_7, .ref q_8, .int x_4, .int x_5, .int x_6, .int x_7, .long g_8, .int x_9, .int x_10, .int x_11, .ref q_9, .int x_12, .ref q_10, .ref q_11, .int x_13, .ref q_12, .ref q_13, .int x_14, .int x_15, .ref q_14, .ref q_15, .ref q_16, .ref q_17, .int x_16, .long g_17, .long g_18, .int x_19, .int x_20, .int x_21, .int x_22, .ref q_18, .ref q_19, .int x_23, .int x_24, .int x_25, .int x_26, .ref q_20, .ref q_21, .int x_27, .int x_28, .ref q_22, .ref q_23, .ref q_24, .ref q_25, .int x_29, .int x_30, .int x_31]))] H := hP
    have hD : va_D A [(q_1, .inl (k 2, 2, .inl (fun _ => 0))), (q_0, .inr (12, [.int 0, .int (-1), .ref q_2, .ref q_3, .ref q_1, .int x_3, .ref q_4, .ref q_5, .ref q_6, .ref q_7, .ref q_8, .int x_4, .int x_5, .int x_6, .int x_7, .long g_8, .int x_9, .int x_10, .int x_11, .ref q_9, .int x_12, .ref q_10, .ref q_11, .int x_13, .ref q_12, .ref q_13, .int x_14, .int x_15, .ref q_14, .ref q_15, .ref q_16, .ref q_17, .int x_16, .long g_17, .long g_18, .int x_19, .int x_20, .int x_21, .int x_22, .ref q_18, .ref q_19, .int x_23, .int x_24, .int x_25, .int x_26, .ref q_20, .ref q_21, .int x_27, .int x_28, .ref q_22, .ref q_23, .ref q_24, .ref q_25, .int x_29, .int x_30, .int x_31]))] := hD
    exact z_iret C0 hr hlk rfl hK hP hD hS (0, fun _ => 0) (Or.inl ⟨rfl, rfl, c1⟩) [] rfl rfl rfl dX12_back_20
  · refine lv_if_ne (tgt := 21) hx hb dX12_back_12 (by decide) (fun _ => ?_) (fun c4 => absurd c4 (by decide))
    refine lv_aload_n hx hb dX12_back_21 rfl (lv_at hl 0 rfl) ?_
    refine va_get (D := D) (ci := 12) (v := .ref q_1) (C := RX12) (T := TX12) (N := 56) hx hb hts inX12 hown hK hP 0 rfl rfl 4 (by decide) (hts _ kF_X12_17) (fun _ h9 => h9) rfl dX12_back_22 ?_
    refine lv_iload_n hx hb dX12_back_25 rfl (lv_at hl 1 rfl) ?_
    refine va_zald hx hb hK hP 1 2 rfl rfl (by have bA0 := Int32.le_toInt x_0; have bB0 := Int32.toInt_lt x_0; revert c1; simp only [vp_in_iff, Int32.lt_iff_toInt_lt, Int32.le_iff_toInt_le, Int64.lt_iff_toInt_lt, Int64.le_iff_toInt_le, Int32.toInt_toInt64, ← Int32.toInt_inj, ← Int64.toInt_inj, Int32.reduceToInt, Int64.reduceToInt] <;> omega) dX12_back_26 ?_
    refine lv_toc (v := 0) rfl ?_
    refine lv_if_ne (tgt := 37) hx hb dX12_back_27 (by decide) (fun c5 => absurd (by decide) c5) (fun _ => ?_)
    refine lv_aload_n hx hb dX12_back_30 rfl (lv_at hl 0 rfl) ?_
    refine lv_bipush (v := (-2)) hx hb dX12_back_31 (by decide) ?_
    refine z_bi (wr := [(q_1, .inl (k 2, 2, .inl (fun _ => 0)))]) (z_runV (C := RX12) (As := [.int (-2)]) (rest := []) C0 (c_X12_told_3 l D k q_0 q_2 q_3 q_1 q_4 q_5 q_6 q_7 q_8 q_9 q_10 q_11 q_12 q_13 q_14 q_15 q_16 q_17 q_18 q_19 q_20 q_21 q_22 q_23 q_24 q_25 0 x_2 x_3 x_4 x_5 x_6 x_7 g_8 x_9 x_10 x_11 x_12 x_13 x_14 x_15 x_16 g_17 g_18 x_19 x_20 x_21 x_22 x_23 x_24 x_25 x_26 x_27 x_28 x_29 x_30 x_31 _) okV_X12_told kM_X12_106 rfl (z_pV (q0 := 0) hK hN hP hD [0] rfl rfl rfl rfl rfl) rfl hl.1 rfl (Nat.le_of_ble_eq_true rfl) dX12_back_33 rfl) hP hD hS hA [0] [1] rfl rfl rfl rfl (fun r6 u6 H locs hw6 hP hD hS => ?_)
    obtain ⟨i6, a6⟩ := u6
    dsimp only at hw6
    obtain ⟨rfl, rfl⟩ := hw6
    have hP : va_P D vwCl [(q_1, .inl (k 2, 2, .inl (fun _ => 0))), (q_0, .inr (12, [.int 0, .int (-2), .ref q_2, .ref q_3, .ref q_1, .int x_3, .ref q_4, .ref q_5, .ref q_6, .ref q_7, .ref q_8, .int x_4, .int x_5, .int x_6, .int x_7, .long g_8, .int x_9, .int x_10, .int x_11, .ref q_9, .int x_12, .ref q_10, .ref q_11, .int x_13, .ref q_12, .ref q_13, .int x_14, .int x_15, .ref q_14, .ref q_15, .ref q_16, .ref q_17, .int x_16, .long g_17, .long g_18, .int x_19, .int x_20, .int x_21, .int x_22, .ref q_18, .ref q_19, .int x_23, .int x_24, .int x_25, .int x_26, .ref q_20, .ref q_21, .int x_27, .int x_28, .ref q_22, .ref q_23, .ref q_24, .ref q_25, .int x_29, .int x_30, .int x_31]))] H := hP
    have hD : va_D A [(q_1, .inl (k 2, 2, .inl (fun _ => 0))), (q_0, .inr (12, [.int 0, .int (-2), .ref q_2, .ref q_3, .ref q_1, .int x_3, .ref q_4, .ref q_5, .ref q_6, .ref q_7, .ref q_8, .int x_4, .int x_5, .int x_6, .int x_7, .long g_8, .int x_9, .int x_10, .int x_11, .ref q_9, .int x_12, .ref q_10, .ref q_11, .int x_13, .ref q_12, .ref q_13, .int x_14, .int x_15, .ref q_14, .ref q_15, .ref q_16, .ref q_17, .int x_16, .long g_17, .long g_18, .int x_19, .int x_20, .int x_21, .int x_22, .ref q_18, .ref q_19, .int x_23, .int x_24, .int x_25, .int x_26, .ref q_20, .ref q_21, .int x_27, .int x_28, .ref q_22, .ref q_23, .ref q_24, .ref q_25, .int x_29, .int x_30, .int x_31]))] := hD
    exact z_iret C0 hr hlk rfl hK hP hD hS (1, fun _ => 0) (Or.inr (⟨rfl, rfl, c1⟩)) [] rfl rfl rfl dX12_back_36

set_option maxHeartbeats 4000000 in
set_option maxRecDepth 100000 in
theorem c_X11_count_1 (l : Launch) (D : va_G) (k : Nat → ClassId) (q_0 : Nat) (q_1 : Nat) (q_2 : Nat) (q_3 : Nat) (q_4 : Nat) (q_5 : Nat) (q_6 : Nat) (q_7 : Nat) (q_8 : Nat) (q_9 : Nat) (q_10 : Nat) (q_11 : Nat) (q_12 : Nat) (q_13 : Nat) (q_14 : Nat) (q_15 : Nat) (q_16 : Nat) (q_17 : Nat) (q_18 : Nat) (q_19 : Nat) (q_20 : Nat) (q_21 : Nat) (q_22 : Nat) (q_23 : Nat) (q_24 : Nat) (q_25 : Nat) (q_26 : Nat) (q_27 : Nat) (q_28 : Nat) (q_29 : Nat) (q_30 : Nat) (q_31 : Nat) (q_32 : Nat) (q_33 : Nat) (q_34 : Nat) (q_35 : Nat) (q_36 : Nat) (q_37 : Nat) (q_38 : Nat) (q_39 : Nat) (q_40 : Nat) (q_41 : Nat) (q_42 : Nat) (q_43 : Nat) (q_44 : Nat) (q_45 : Nat) (q_46 : Nat) (q_47 : Nat) (q_48 : Nat) (q_49 : Nat) (q_50 : Nat) (q_51 : Nat) (q_52 : Nat) (q_53 : Nat) (q_54 : Nat) (q_55 : Nat) (q_56 : Nat) (x_0 : Int32) (x_1 : Int32) (x_2 : Int32) (x_3 : Int32) (x_4 : Int32) (x_5 : Int32) (x_6 : Int32) (x_7 : Int32) (x_8 : Int32) (x_9 : Int32) (x_10 : Int32) (x_11 : Int32) (x_12 : Int32) (g_13 : Int64) (x_14 : Int32) : zMi l yX11_count cX11_count 2 (some .int) ({ frames := 0, cells := 0, slots := 0, locals := 0 }) D k [.ref q_0, .int x_0] [(q_0, .inr (11, [.ref q_1, .ref q_8, .ref q_7, .ref q_9, .ref q_10, .int x_1])), (q_1, .inr (3, [.ref q_2, .ref q_3, .ref q_4, .ref q_5, .ref q_11, .ref q_6])), (q_2, .inr (6, [.int 0, .ref q_12, .ref q_13, .ref q_14, .ref q_15, .ref q_16, .int 0, .ref q_17, .int x_2, .ref q_18, .ref q_19, .ref q_20, .ref q_21, .ref q_22, .ref q_23])), (q_3, .inr (8, [.int 0, .ref q_24, .ref q_25, .ref q_26, .ref q_27, .ref q_28])), (q_4, .inr (5, [.int 0, .ref q_29, .ref q_30, .ref q_31, .ref q_32, .ref q_33, .ref q_34, .ref q_35, .ref q_36, .ref q_37, .ref q_38, .ref q_39, .ref q_40, .int x_3, .int x_4])), (q_5, .inr (0, [.int 0, .ref q_41, .ref q_42])), (q_6, .inr (4, [.int 0, .ref q_43, .int 0, .ref q_44, .ref q_45, .int 0, .ref q_46, .ref q_47, .ref q_48, .int 0, .ref q_49, .ref q_50, .ref q_51])), (q_7, .inr (7, [.ref q_52, .int 0, .int x_5, .int x_6, .ref q_53, .ref q_54, .ref q_55, .ref q_56, .int x_7, .int x_8, .int x_9, .int x_10, .int x_11, .int x_12, .long g_13, .int x_14]))] (fun r u => (u.1 = 0 ∧ r = 0 ∧ ((x_0 = 0) ∨ (¬ x_0 = 0 ∧ x_0 = 1) ∨ (¬ x_0 = 0 ∧ ¬ x_0 = 1 ∧ x_0 = 2) ∨ (¬ x_0 = 0 ∧ ¬ x_0 = 1 ∧ ¬ x_0 = 2 ∧ x_0 = 3) ∨ (¬ x_0 = 0 ∧ ¬ x_0 = 1 ∧ ¬ x_0 = 2 ∧ ¬ x_0 = 3 ∧ x_0 = 4) ∨ (¬ x_0 = 0 ∧ ¬ x_0 = 1 ∧ ¬ x_0 = 2 ∧ ¬ x_0 = 3 ∧ ¬ x_0 = 4 ∧ x_0 = 5) ∨ (¬ x_0 = 0 ∧ ¬ x_0 = 1 ∧ ¬ x_0 = 2 ∧ ¬ x_0 = 3 ∧ ¬ x_0 = 4 ∧ ¬ x_0 = 5 ∧ x_0 = 6) ∨ (¬ x_0 = 0 ∧ ¬ x_0 = 1 ∧ ¬ x_0 = 2 ∧ ¬ x_0 = 3 ∧ ¬ x_0 = 4 ∧ ¬ x_0 = 5 ∧ ¬ x_0 = 6 ∧ x_0 = 7) ∨ (¬ x_0 = 0 ∧ ¬ x_0 = 1 ∧ ¬ x_0 = 2 ∧ ¬ x_0 = 3 ∧ ¬ x_0 = 4 ∧ ¬ x_0 = 5 ∧ ¬ x_0 = 6 ∧ ¬ x_0 = 7 ∧ x_0 = 8) ∨ (¬ x_0 = 0 ∧ ¬ x_0 = 1 ∧ ¬ x_0 = 2 ∧ ¬ x_0 = 3 ∧ ¬ x_0 = 4 ∧ ¬ x_0 = 5 ∧ ¬ x_0 = 6 ∧ ¬ x_0 = 7 ∧ ¬ x_0 = 8 ∧ x_0 = 9))) ∨ (u.1 = 1 ∧ r = (-1) ∧ ((¬ x_0 = 0 ∧ ¬ x_0 = 1 ∧ ¬ x_0 = 2 ∧ ¬ x_0 = 3 ∧ ¬ x_0 = 4 ∧ ¬ x_0 = 5 ∧ ¬ x_0 = 6 ∧ ¬ x_0 = 7 ∧ ¬ x_0 = 8 ∧ ¬ x_0 = 9)))) (fun u => []) := by
  refine zMi_of (own := RX11) (by decide +kernel) rfl (Nat.le_of_ble_eq_true rfl) ?_
  intro p e s m args below meth c A ls C0 hr hlk hin hP hD hS hA hK hN hl
  have hx := C0.1
  have hb := C0.2.1
  have hml := C0.2.2.1
  have hown := C0.2.2.2.1
  have hts := C0.2.2.2.2
  have hl : lv_has ls 2 [(0, .ref q_0), (1, .int x_0)] := hl
  have hP : va_P D vwCl [(q_0, .inr (11, [.ref q_1, .ref q_8, .ref q_7, .ref q_9, .ref q_10, .int x_1])), (q_1, .inr (3, [.ref q_2, .ref q_3, .ref q_4, .ref q_5, .ref q_11, .ref q_6])), (q_2, .inr (6, [.int 0, .ref q_12, .ref q_13, .ref q_14, .ref q_15, .ref q_16, .int 0, .ref q_17, .int x_2, .ref q_18, .ref q_19, .ref q_20, .ref q_21, .ref q_22, .ref q_23])), (q_3, .inr (8, [.int 0, .ref q_24, .ref q_25, .ref q_26, .ref q_27, .ref q_28])), (q_4, .inr (5, [.int 0, .ref q_29, .ref q_30, .ref q_31, .ref q_32, .ref q_33, .ref q_34, .ref q_35, .ref q_36, .ref q_37, .ref q_38, .ref q_39, .ref q_40, .int x_3, .int x_4])), (q_5, .inr (0, [.int 0, .ref q_41, .ref q_42])), (q_6, .inr (4, [.int 0, .ref q_43, .int 0, .ref q_44, .ref q_45, .int 0, .ref q_46, .ref q_47, .ref q_48, .int 0, .ref q_49, .ref q_50, .ref q_51])), (q_7, .inr (7, [.ref q_52, .int 0, .int x_5, .int x_6, .ref q_53, .ref q_54, .ref q_55, .ref q_56, .int x_7, .int x_8, .int x_9, .int x_10, .int x_11, .int x_12, .long g_13, .int x_14]))] s.heap := hP
  refine lv_iload_n hx hb dX11_count_0 rfl (lv_at hl 1 rfl) ?_
  by_cases c1 : x_0 = 0
  · refine lv_tableIn (off := 55) (tgt := 56) hx hb dX11_count_1 (by rw [c1]; decide) (by rw [c1]; decide) (by rw [c1]; rfl) (by decide) ?_
    refine lv_aload_n hx hb dX11_count_56 rfl (lv_at hl 0 rfl) ?_
    refine va_get (D := D) (ci := 11) (v := .ref q_1) (C := RX11) (T := TX11) (N := 6) hx hb hts inX11 hown hK hP 0 rfl rfl 0 (by decide) (hts _ kF_X11_12) (fun _ h9 => h9) rfl dX11_count_57 ?_
    refine va_get (D := D) (ci := 3) (v := .ref q_2) (C := RX3) (T := TX3) (N := 6) hx hb hts inX3 hown hK hP 1 rfl rfl 0 (by decide) (hts _ kF_X11_43) (fun _ h9 => h9) rfl dX11_count_60 ?_
    refine va_get (D := D) (ci := 6) (v := .int 0) (C := RX6) (T := TX6) (N := 15) hx hb hts inX6 hown hK hP 2 rfl rfl 0 (by decide) (hts _ kF_X11_59) (fun _ h9 => h9) rfl dX11_count_63 ?_
    exact z_iret C0 hr hlk rfl hK hP hD hS (0, fun _ => 0) (Or.inl ⟨rfl, rfl, (Or.inl c1)⟩) [] rfl rfl rfl dX11_count_66
  · by_cases c2 : x_0 = 1
    · refine lv_tableIn (off := 66) (tgt := 67) hx hb dX11_count_1 (by rw [c2]; decide) (by rw [c2]; decide) (by rw [c2]; rfl) (by decide) ?_
      refine lv_aload_n hx hb dX11_count_67 rfl (lv_at hl 0 rfl) ?_
      refine va_get (D := D) (ci := 11) (v := .ref q_1) (C := RX11) (T := TX11) (N := 6) hx hb hts inX11 hown hK hP 0 rfl rfl 0 (by decide) (hts _ kF_X11_12) (fun _ h9 => h9) rfl dX11_count_68 ?_
      refine va_get (D := D) (ci := 3) (v := .ref q_2) (C := RX3) (T := TX3) (N := 6) hx hb hts inX3 hown hK hP 1 rfl rfl 0 (by decide) (hts _ kF_X11_43) (fun _ h9 => h9) rfl dX11_count_71 ?_
      refine va_get (D := D) (ci := 6) (v := .int 0) (C := RX6) (T := TX6) (N := 15) hx hb hts inX6 hown hK hP 2 rfl rfl 6 (by decide) (hts _ kF_X11_69) (fun _ h9 => h9) rfl dX11_count_74 ?_
      exact z_iret C0 hr hlk rfl hK hP hD hS (0, fun _ => 0) (Or.inl ⟨rfl, rfl, (Or.inr (Or.inl (⟨c1, c2⟩)))⟩) [] rfl rfl rfl dX11_count_77
    · by_cases c3 : x_0 = 2
      · refine lv_tableIn (off := 77) (tgt := 78) hx hb dX11_count_1 (by rw [c3]; decide) (by rw [c3]; decide) (by rw [c3]; rfl) (by decide) ?_
        refine lv_aload_n hx hb dX11_count_78 rfl (lv_at hl 0 rfl) ?_
        refine va_get (D := D) (ci := 11) (v := .ref q_1) (C := RX11) (T := TX11) (N := 6) hx hb hts inX11 hown hK hP 0 rfl rfl 0 (by decide) (hts _ kF_X11_12) (fun _ h9 => h9) rfl dX11_count_79 ?_
        refine va_get (D := D) (ci := 3) (v := .ref q_3) (C := RX3) (T := TX3) (N := 6) hx hb hts inX3 hown hK hP 1 rfl rfl 1 (by decide) (hts _ kF_X11_86) (fun _ h9 => h9) rfl dX11_count_82 ?_
        refine va_get (D := D) (ci := 8) (v := .int 0) (C := RX8) (T := TX8) (N := 6) hx hb hts inX8 hown hK hP 3 rfl rfl 0 (by decide) (hts _ kF_X11_105) (fun _ h9 => h9) rfl dX11_count_85 ?_
        exact z_iret C0 hr hlk rfl hK hP hD hS (0, fun _ => 0) (Or.inl ⟨rfl, rfl, (Or.inr (Or.inr (Or.inl (⟨c1, c2, c3⟩))))⟩) [] rfl rfl rfl dX11_count_88
      · by_cases c4 : x_0 = 3
        · refine lv_tableIn (off := 88) (tgt := 89) hx hb dX11_count_1 (by rw [c4]; decide) (by rw [c4]; decide) (by rw [c4]; rfl) (by decide) ?_
          refine lv_aload_n hx hb dX11_count_89 rfl (lv_at hl 0 rfl) ?_
          refine va_get (D := D) (ci := 11) (v := .ref q_1) (C := RX11) (T := TX11) (N := 6) hx hb hts inX11 hown hK hP 0 rfl rfl 0 (by decide) (hts _ kF_X11_12) (fun _ h9 => h9) rfl dX11_count_90 ?_
          refine va_get (D := D) (ci := 3) (v := .ref q_4) (C := RX3) (T := TX3) (N := 6) hx hb hts inX3 hown hK hP 1 rfl rfl 2 (by decide) (hts _ kF_X11_137) (fun _ h9 => h9) rfl dX11_count_93 ?_
          refine va_get (D := D) (ci := 5) (v := .int 0) (C := RX5) (T := TX5) (N := 15) hx hb hts inX5 hown hK hP 4 rfl rfl 0 (by decide) (hts _ kF_X11_141) (fun _ h9 => h9) rfl dX11_count_96 ?_
          exact z_iret C0 hr hlk rfl hK hP hD hS (0, fun _ => 0) (Or.inl ⟨rfl, rfl, (Or.inr (Or.inr (Or.inr (Or.inl (⟨c1, c2, c3, c4⟩)))))⟩) [] rfl rfl rfl dX11_count_99
        · by_cases c5 : x_0 = 4
          · refine lv_tableIn (off := 99) (tgt := 100) hx hb dX11_count_1 (by rw [c5]; decide) (by rw [c5]; decide) (by rw [c5]; rfl) (by decide) ?_
            refine lv_aload_n hx hb dX11_count_100 rfl (lv_at hl 0 rfl) ?_
            refine va_get (D := D) (ci := 11) (v := .ref q_1) (C := RX11) (T := TX11) (N := 6) hx hb hts inX11 hown hK hP 0 rfl rfl 0 (by decide) (hts _ kF_X11_12) (fun _ h9 => h9) rfl dX11_count_101 ?_
            refine va_get (D := D) (ci := 3) (v := .ref q_5) (C := RX3) (T := TX3) (N := 6) hx hb hts inX3 hown hK hP 1 rfl rfl 3 (by decide) (hts _ kF_X11_187) (fun _ h9 => h9) rfl dX11_count_104 ?_
            refine va_get (D := D) (ci := 0) (v := .int 0) (C := RX0) (T := TX0) (N := 3) hx hb hts inX0 hown hK hP 5 rfl rfl 0 (by decide) (hts _ kF_X11_191) (fun _ h9 => h9) rfl dX11_count_107 ?_
            exact z_iret C0 hr hlk rfl hK hP hD hS (0, fun _ => 0) (Or.inl ⟨rfl, rfl, (Or.inr (Or.inr (Or.inr (Or.inr (Or.inl (⟨c1, c2, c3, c4, c5⟩))))))⟩) [] rfl rfl rfl dX11_count_110
          · by_cases c6 : x_0 = 5
            · refine lv_tableIn (off := 110) (tgt := 111) hx hb dX11_count_1 (by rw [c6]; decide) (by rw [c6]; decide) (by rw [c6]; rfl) (by decide) ?_
              refine lv_aload_n hx hb dX11_count_111 rfl (lv_at hl 0 rfl) ?_
              refine va_get (D := D) (ci := 11) (v := .ref q_1) (C := RX11) (T := TX11) (N := 6) hx hb hts inX11 hown hK hP 0 rfl rfl 0 (by decide) (hts _ kF_X11_12) (fun _ h9 => h9) rfl dX11_count_112 ?_
              refine va_get (D := D) (ci := 3) (v := .ref q_6) (C := RX3) (T := TX3) (N := 6) hx hb hts inX3 hown hK hP 1 rfl rfl 5 (by decide) (hts _ kF_X11_263) (fun _ h9 => h9) rfl dX11_count_115 ?_
              refine va_get (D := D) (ci := 4) (v := .int 0) (C := RX4) (T := TX4) (N := 13) hx hb hts inX4 hown hK hP 6 rfl rfl 0 (by decide) (hts _ kF_X11_270) (fun _ h9 => h9) rfl dX11_count_118 ?_
              exact z_iret C0 hr hlk rfl hK hP hD hS (0, fun _ => 0) (Or.inl ⟨rfl, rfl, (Or.inr (Or.inr (Or.inr (Or.inr (Or.inr (Or.inl (⟨c1, c2, c3, c4, c5, c6⟩)))))))⟩) [] rfl rfl rfl dX11_count_121
            · by_cases c7 : x_0 = 6
              · refine lv_tableIn (off := 121) (tgt := 122) hx hb dX11_count_1 (by rw [c7]; decide) (by rw [c7]; decide) (by rw [c7]; rfl) (by decide) ?_
                refine lv_aload_n hx hb dX11_count_122 rfl (lv_at hl 0 rfl) ?_
                refine va_get (D := D) (ci := 11) (v := .ref q_1) (C := RX11) (T := TX11) (N := 6) hx hb hts inX11 hown hK hP 0 rfl rfl 0 (by decide) (hts _ kF_X11_12) (fun _ h9 => h9) rfl dX11_count_123 ?_
                refine va_get (D := D) (ci := 3) (v := .ref q_6) (C := RX3) (T := TX3) (N := 6) hx hb hts inX3 hown hK hP 1 rfl rfl 5 (by decide) (hts _ kF_X11_263) (fun _ h9 => h9) rfl dX11_count_126 ?_
                refine va_get (D := D) (ci := 4) (v := .int 0) (C := RX4) (T := TX4) (N := 13) hx hb hts inX4 hown hK hP 6 rfl rfl 2 (by decide) (hts _ kF_X11_281) (fun _ h9 => h9) rfl dX11_count_129 ?_
                exact z_iret C0 hr hlk rfl hK hP hD hS (0, fun _ => 0) (Or.inl ⟨rfl, rfl, (Or.inr (Or.inr (Or.inr (Or.inr (Or.inr (Or.inr (Or.inl (⟨c1, c2, c3, c4, c5, c6, c7⟩))))))))⟩) [] rfl rfl rfl dX11_count_132
              · by_cases c8 : x_0 = 7
                · refine lv_tableIn (off := 132) (tgt := 133) hx hb dX11_count_1 (by rw [c8]; decide) (by rw [c8]; decide) (by rw [c8]; rfl) (by decide) ?_
                  refine lv_aload_n hx hb dX11_count_133 rfl (lv_at hl 0 rfl) ?_
                  refine va_get (D := D) (ci := 11) (v := .ref q_1) (C := RX11) (T := TX11) (N := 6) hx hb hts inX11 hown hK hP 0 rfl rfl 0 (by decide) (hts _ kF_X11_12) (fun _ h9 => h9) rfl dX11_count_134 ?_
                  refine va_get (D := D) (ci := 3) (v := .ref q_6) (C := RX3) (T := TX3) (N := 6) hx hb hts inX3 hown hK hP 1 rfl rfl 5 (by decide) (hts _ kF_X11_263) (fun _ h9 => h9) rfl dX11_count_137 ?_
                  refine va_get (D := D) (ci := 4) (v := .int 0) (C := RX4) (T := TX4) (N := 13) hx hb hts inX4 hown hK hP 6 rfl rfl 5 (by decide) (hts _ kF_X11_315) (fun _ h9 => h9) rfl dX11_count_140 ?_
                  exact z_iret C0 hr hlk rfl hK hP hD hS (0, fun _ => 0) (Or.inl ⟨rfl, rfl, (Or.inr (Or.inr (Or.inr (Or.inr (Or.inr (Or.inr (Or.inr (Or.inl (⟨c1, c2, c3, c4, c5, c6, c7, c8⟩)))))))))⟩) [] rfl rfl rfl dX11_count_143
                · by_cases c9 : x_0 = 8
                  · refine lv_tableIn (off := 143) (tgt := 144) hx hb dX11_count_1 (by rw [c9]; decide) (by rw [c9]; decide) (by rw [c9]; rfl) (by decide) ?_
                    refine lv_aload_n hx hb dX11_count_144 rfl (lv_at hl 0 rfl) ?_
                    refine va_get (D := D) (ci := 11) (v := .ref q_1) (C := RX11) (T := TX11) (N := 6) hx hb hts inX11 hown hK hP 0 rfl rfl 0 (by decide) (hts _ kF_X11_12) (fun _ h9 => h9) rfl dX11_count_145 ?_
                    refine va_get (D := D) (ci := 3) (v := .ref q_6) (C := RX3) (T := TX3) (N := 6) hx hb hts inX3 hown hK hP 1 rfl rfl 5 (by decide) (hts _ kF_X11_263) (fun _ h9 => h9) rfl dX11_count_148 ?_
                    refine va_get (D := D) (ci := 4) (v := .int 0) (C := RX4) (T := TX4) (N := 13) hx hb hts inX4 hown hK hP 6 rfl rfl 9 (by decide) (hts _ kF_X11_352) (fun _ h9 => h9) rfl dX11_count_151 ?_
                    exact z_iret C0 hr hlk rfl hK hP hD hS (0, fun _ => 0) (Or.inl ⟨rfl, rfl, (Or.inr (Or.inr (Or.inr (Or.inr (Or.inr (Or.inr (Or.inr (Or.inr (Or.inl (⟨c1, c2, c3, c4, c5, c6, c7, c8, c9⟩))))))))))⟩) [] rfl rfl rfl dX11_count_154
                  · by_cases c10 : x_0 = 9
                    · refine lv_tableIn (off := 154) (tgt := 155) hx hb dX11_count_1 (by rw [c10]; decide) (by rw [c10]; decide) (by rw [c10]; rfl) (by decide) ?_
                      refine lv_aload_n hx hb dX11_count_155 rfl (lv_at hl 0 rfl) ?_
                      refine va_get (D := D) (ci := 11) (v := .ref q_7) (C := RX11) (T := TX11) (N := 6) hx hb hts inX11 hown hK hP 0 rfl rfl 2 (by decide) (hts _ kF_X11_23) (fun _ h9 => h9) rfl dX11_count_156 ?_
                      refine va_get (D := D) (ci := 7) (v := .int 0) (C := RX7) (T := TX7) (N := 16) hx hb hts inX7 hown hK hP 7 rfl rfl 1 (by decide) (hts _ kF_X11_181) (fun _ h9 => h9) rfl dX11_count_159 ?_
                      exact z_iret C0 hr hlk rfl hK hP hD hS (0, fun _ => 0) (Or.inl ⟨rfl, rfl, (Or.inr (Or.inr (Or.inr (Or.inr (Or.inr (Or.inr (Or.inr (Or.inr (Or.inr (⟨c1, c2, c3, c4, c5, c6, c7, c8, c9, c10⟩))))))))))⟩) [] rfl rfl rfl dX11_count_162
                    · refine lv_tableOut (tgt := 163) hx hb dX11_count_1 (by have bA0 := Int32.le_toInt x_0; have bB0 := Int32.toInt_lt x_0; revert c1 c2 c3 c4 c5 c6 c7 c8 c9 c10; simp only [vp_in_iff, Int32.lt_iff_toInt_lt, Int32.le_iff_toInt_le, Int64.lt_iff_toInt_lt, Int64.le_iff_toInt_le, Int32.toInt_toInt64, ← Int32.toInt_inj, ← Int64.toInt_inj, Int32.reduceToInt, Int64.reduceToInt] <;> omega) (by decide) ?_
                      refine lv_iconst (v := (-1)) hx hb dX11_count_163 (by decide) ?_
                      exact z_iret C0 hr hlk rfl hK hP hD hS (1, fun _ => 0) (Or.inr (⟨rfl, rfl, ⟨c1, c2, c3, c4, c5, c6, c7, c8, c9, c10⟩⟩)) [] rfl rfl rfl dX11_count_164

set_option maxHeartbeats 4000000 in
set_option maxRecDepth 100000 in
theorem c_X12_count_1 (l : Launch) (D : va_G) (k : Nat → ClassId) (q_0 : Nat) (q_1 : Nat) (q_2 : Nat) (q_3 : Nat) (q_4 : Nat) (q_5 : Nat) (q_6 : Nat) (q_7 : Nat) (q_8 : Nat) (q_9 : Nat) (q_10 : Nat) (q_11 : Nat) (q_12 : Nat) (q_13 : Nat) (q_14 : Nat) (q_15 : Nat) (q_16 : Nat) (q_17 : Nat) (q_18 : Nat) (q_19 : Nat) (q_20 : Nat) (q_21 : Nat) (q_22 : Nat) (q_23 : Nat) (q_24 : Nat) (q_25 : Nat) (x_0 : Int32) (x_1 : Int32) (x_2 : Int32) (x_3 : Int32) (x_4 : Int32) (x_5 : Int32) (x_6 : Int32) (g_7 : Int64) (x_8 : Int32) (x_9 : Int32) (x_10 : Int32) (x_11 : Int32) (x_12 : Int32) (x_13 : Int32) (x_14 : Int32) (x_15 : Int32) (g_16 : Int64) (g_17 : Int64) (x_18 : Int32) (x_19 : Int32) (x_20 : Int32) (x_21 : Int32) (x_22 : Int32) (x_23 : Int32) (x_24 : Int32) (x_25 : Int32) (x_26 : Int32) (x_27 : Int32) (x_28 : Int32) (x_29 : Int32) (x_30 : Int32) : zMi l yX12_count cX12_count 2 (some .int) ({ frames := 0, cells := 0, slots := 0, locals := 0 }) D k [.ref q_0, .int x_0] [(q_0, .inr (12, [.int x_1, .int x_2, .ref q_1, .ref q_2, .ref q_3, .int x_3, .ref q_4, .ref q_5, .ref q_6, .ref q_7, .ref q_8, .int 0, .int x_4, .int x_5, .int x_6, .long g_7, .int x_8, .int x_9, .int x_10, .ref q_9, .int x_11, .ref q_10, .ref q_11, .int x_12, .ref q_12, .ref q_13, .int x_13, .int x_14, .ref q_14, .ref q_15, .ref q_16, .ref q_17, .int x_15, .long g_16, .long g_17, .int x_18, .int x_19, .int x_20, .int x_21, .ref q_18, .ref q_19, .int x_22, .int x_23, .int x_24, .int x_25, .ref q_20, .ref q_21, .int x_26, .int x_27, .ref q_22, .ref q_23, .ref q_24, .ref q_25, .int x_28, .int x_29, .int x_30])), (q_1, .inl (k 0, 27101, .inl (fun _ => 0)))] (fun r u => (u.1 = 0 ∧ r = 0 ∧ ((x_0 = 0) ∨ (¬ x_0 = 0 ∧ x_0 = 1) ∨ (¬ x_0 = 0 ∧ ¬ x_0 = 1 ∧ x_0 = 2) ∨ (¬ x_0 = 0 ∧ ¬ x_0 = 1 ∧ ¬ x_0 = 2 ∧ x_0 = 3) ∨ (¬ x_0 = 0 ∧ ¬ x_0 = 1 ∧ ¬ x_0 = 2 ∧ ¬ x_0 = 3 ∧ x_0 = 4) ∨ (¬ x_0 = 0 ∧ ¬ x_0 = 1 ∧ ¬ x_0 = 2 ∧ ¬ x_0 = 3 ∧ ¬ x_0 = 4 ∧ x_0 = 5) ∨ (¬ x_0 = 0 ∧ ¬ x_0 = 1 ∧ ¬ x_0 = 2 ∧ ¬ x_0 = 3 ∧ ¬ x_0 = 4 ∧ ¬ x_0 = 5 ∧ x_0 = 6) ∨ (¬ x_0 = 0 ∧ ¬ x_0 = 1 ∧ ¬ x_0 = 2 ∧ ¬ x_0 = 3 ∧ ¬ x_0 = 4 ∧ ¬ x_0 = 5 ∧ ¬ x_0 = 6 ∧ x_0 = 7) ∨ (¬ x_0 = 0 ∧ ¬ x_0 = 1 ∧ ¬ x_0 = 2 ∧ ¬ x_0 = 3 ∧ ¬ x_0 = 4 ∧ ¬ x_0 = 5 ∧ ¬ x_0 = 6 ∧ ¬ x_0 = 7 ∧ x_0 = 8) ∨ (¬ x_0 = 0 ∧ ¬ x_0 = 1 ∧ ¬ x_0 = 2 ∧ ¬ x_0 = 3 ∧ ¬ x_0 = 4 ∧ ¬ x_0 = 5 ∧ ¬ x_0 = 6 ∧ ¬ x_0 = 7 ∧ ¬ x_0 = 8 ∧ x_0 = 9))) ∨ (u.1 = 1 ∧ r = (-1) ∧ ((¬ x_0 = 0 ∧ ¬ x_0 = 1 ∧ ¬ x_0 = 2 ∧ ¬ x_0 = 3 ∧ ¬ x_0 = 4 ∧ ¬ x_0 = 5 ∧ ¬ x_0 = 6 ∧ ¬ x_0 = 7 ∧ ¬ x_0 = 8 ∧ ¬ x_0 = 9)))) (fun u => []) := by
  refine zMi_of (own := RX12) (by decide +kernel) rfl (Nat.le_of_ble_eq_true rfl) ?_
  intro p e s m args below meth c A ls C0 hr hlk hin hP hD hS hA hK hN hl
  have hx := C0.1
  have hb := C0.2.1
  have hml := C0.2.2.1
  have hown := C0.2.2.2.1
  have hts := C0.2.2.2.2
  have hl : lv_has ls 2 [(0, .ref q_0), (1, .int x_0)] := hl
  have hP : va_P D vwCl [(q_0, .inr (12, [.int x_1, .int x_2, .ref q_1, .ref q_2, .ref q_3, .int x_3, .ref q_4, .ref q_5, .ref q_6, .ref q_7, .ref q_8, .int 0, .int x_4, .int x_5, .int x_6, .long g_7, .int x_8, .int x_9, .int x_10, .ref q_9, .int x_11, .ref q_10, .ref q_11, .int x_12, .ref q_12, .ref q_13, .int x_13, .int x_14, .ref q_14, .ref q_15, .ref q_16, .ref q_17, .int x_15, .long g_16, .long g_17, .int x_18, .int x_19, .int x_20, .int x_21, .ref q_18, .ref q_19, .int x_22, .int x_23, .int x_24, .int x_25, .ref q_20, .ref q_21, .int x_26, .int x_27, .ref q_22, .ref q_23, .ref q_24, .ref q_25, .int x_28, .int x_29, .int x_30])), (q_1, .inl (k 0, 27101, .inl (fun _ => 0)))] s.heap := hP
  refine lv_aload_n hx hb dX12_count_0 rfl (lv_at hl 0 rfl) ?_
  refine lv_iconst (v := 0) hx hb dX12_count_1 (by decide) ?_
  refine va_put (D := D) (ci := 12) (v := .int 0) (ty := .int) (C := RX12) (T := TX12) (N := 56) hx hb hts inX12 tyX12 tyX12_ok nmX12 hown hK hP hD hS 0 rfl rfl 0 (by decide) (hts _ kF_X12_92) (fun _ h9 => h9) rfl (by decide +kernel) rfl rfl (Nat.le_of_ble_eq_true rfl) dX12_count_2 (fun H locs hP hD hS => ?_)
  have hP : va_P D vwCl [(q_0, .inr (12, [.int 0, .int x_2, .ref q_1, .ref q_2, .ref q_3, .int x_3, .ref q_4, .ref q_5, .ref q_6, .ref q_7, .ref q_8, .int 0, .int x_4, .int x_5, .int x_6, .long g_7, .int x_8, .int x_9, .int x_10, .ref q_9, .int x_11, .ref q_10, .ref q_11, .int x_12, .ref q_12, .ref q_13, .int x_13, .int x_14, .ref q_14, .ref q_15, .ref q_16, .ref q_17, .int x_15, .long g_16, .long g_17, .int x_18, .int x_19, .int x_20, .int x_21, .ref q_18, .ref q_19, .int x_22, .int x_23, .int x_24, .int x_25, .ref q_20, .ref q_21, .int x_26, .int x_27, .ref q_22, .ref q_23, .ref q_24, .ref q_25, .int x_28, .int x_29, .int x_30])), (q_1, .inl (k 0, 27101, .inl (fun _ => 0)))] H := hP
  have hD : va_D A [(q_0, .inr (12, [.int 0, .int x_2, .ref q_1, .ref q_2, .ref q_3, .int x_3, .ref q_4, .ref q_5, .ref q_6, .ref q_7, .ref q_8, .int 0, .int x_4, .int x_5, .int x_6, .long g_7, .int x_8, .int x_9, .int x_10, .ref q_9, .int x_11, .ref q_10, .ref q_11, .int x_12, .ref q_12, .ref q_13, .int x_13, .int x_14, .ref q_14, .ref q_15, .ref q_16, .ref q_17, .int x_15, .long g_16, .long g_17, .int x_18, .int x_19, .int x_20, .int x_21, .ref q_18, .ref q_19, .int x_22, .int x_23, .int x_24, .int x_25, .ref q_20, .ref q_21, .int x_26, .int x_27, .ref q_22, .ref q_23, .ref q_24, .ref q_25, .int x_28, .int x_29, .int x_30])), (q_1, .inl (k 0, 27101, .inl (fun _ => 0)))] := hD
  refine lv_iload_n hx hb dX12_count_5 rfl (lv_at hl 1 rfl) ?_
  by_cases c1 : x_0 = 0
  · refine lv_tableIn (off := 54) (tgt := 60) hx hb dX12_count_6 (by rw [c1]; decide) (by rw [c1]; decide) (by rw [c1]; rfl) (by decide) ?_
    refine lv_aload_n hx hb dX12_count_60 rfl (lv_at hl 0 rfl) ?_
    refine va_get (D := D) (ci := 12) (v := .ref q_1) (C := RX12) (T := TX12) (N := 56) hx hb hts inX12 hown hK hP 0 rfl rfl 2 (by decide) (hts _ kF_X12_7) (fun _ h9 => h9) rfl dX12_count_61 ?_
    refine lv_iconst (v := 0) hx hb dX12_count_64 (by decide) ?_
    refine va_iald hx hb hK hP 1 0 rfl rfl (by unfold vp_in; decide) dX12_count_65 ?_
    refine lv_toc (v := 0) rfl ?_
    exact z_iret C0 hr hlk rfl hK hP hD hS (0, fun _ => 0) (Or.inl ⟨rfl, rfl, (Or.inl c1)⟩) [] rfl rfl rfl dX12_count_66
  · by_cases c2 : x_0 = 1
    · refine lv_tableIn (off := 61) (tgt := 67) hx hb dX12_count_6 (by rw [c2]; decide) (by rw [c2]; decide) (by rw [c2]; rfl) (by decide) ?_
      refine lv_aload_n hx hb dX12_count_67 rfl (lv_at hl 0 rfl) ?_
      refine va_get (D := D) (ci := 12) (v := .ref q_1) (C := RX12) (T := TX12) (N := 56) hx hb hts inX12 hown hK hP 0 rfl rfl 2 (by decide) (hts _ kF_X12_7) (fun _ h9 => h9) rfl dX12_count_68 ?_
      refine lv_iconst (v := 1) hx hb dX12_count_71 (by decide) ?_
      refine va_iald hx hb hK hP 1 0 rfl rfl (by unfold vp_in; decide) dX12_count_72 ?_
      refine lv_toc (v := 0) rfl ?_
      exact z_iret C0 hr hlk rfl hK hP hD hS (0, fun _ => 0) (Or.inl ⟨rfl, rfl, (Or.inr (Or.inl (⟨c1, c2⟩)))⟩) [] rfl rfl rfl dX12_count_73
    · by_cases c3 : x_0 = 2
      · refine lv_tableIn (off := 68) (tgt := 74) hx hb dX12_count_6 (by rw [c3]; decide) (by rw [c3]; decide) (by rw [c3]; rfl) (by decide) ?_
        refine lv_aload_n hx hb dX12_count_74 rfl (lv_at hl 0 rfl) ?_
        refine va_get (D := D) (ci := 12) (v := .ref q_1) (C := RX12) (T := TX12) (N := 56) hx hb hts inX12 hown hK hP 0 rfl rfl 2 (by decide) (hts _ kF_X12_7) (fun _ h9 => h9) rfl dX12_count_75 ?_
        refine lv_iconst (v := 2) hx hb dX12_count_78 (by decide) ?_
        refine va_iald hx hb hK hP 1 0 rfl rfl (by unfold vp_in; decide) dX12_count_79 ?_
        refine lv_toc (v := 0) rfl ?_
        exact z_iret C0 hr hlk rfl hK hP hD hS (0, fun _ => 0) (Or.inl ⟨rfl, rfl, (Or.inr (Or.inr (Or.inl (⟨c1, c2, c3⟩))))⟩) [] rfl rfl rfl dX12_count_80
      · by_cases c4 : x_0 = 3
        · refine lv_tableIn (off := 75) (tgt := 81) hx hb dX12_count_6 (by rw [c4]; decide) (by rw [c4]; decide) (by rw [c4]; rfl) (by decide) ?_
          refine lv_aload_n hx hb dX12_count_81 rfl (lv_at hl 0 rfl) ?_
          refine va_get (D := D) (ci := 12) (v := .ref q_1) (C := RX12) (T := TX12) (N := 56) hx hb hts inX12 hown hK hP 0 rfl rfl 2 (by decide) (hts _ kF_X12_7) (fun _ h9 => h9) rfl dX12_count_82 ?_
          refine lv_iconst (v := 3) hx hb dX12_count_85 (by decide) ?_
          refine va_iald hx hb hK hP 1 0 rfl rfl (by unfold vp_in; decide) dX12_count_86 ?_
          refine lv_toc (v := 0) rfl ?_
          exact z_iret C0 hr hlk rfl hK hP hD hS (0, fun _ => 0) (Or.inl ⟨rfl, rfl, (Or.inr (Or.inr (Or.inr (Or.inl (⟨c1, c2, c3, c4⟩)))))⟩) [] rfl rfl rfl dX12_count_87
        · by_cases c5 : x_0 = 4
          · refine lv_tableIn (off := 82) (tgt := 88) hx hb dX12_count_6 (by rw [c5]; decide) (by rw [c5]; decide) (by rw [c5]; rfl) (by decide) ?_
            refine lv_aload_n hx hb dX12_count_88 rfl (lv_at hl 0 rfl) ?_
            refine va_get (D := D) (ci := 12) (v := .ref q_1) (C := RX12) (T := TX12) (N := 56) hx hb hts inX12 hown hK hP 0 rfl rfl 2 (by decide) (hts _ kF_X12_7) (fun _ h9 => h9) rfl dX12_count_89 ?_
            refine lv_iconst (v := 4) hx hb dX12_count_92 (by decide) ?_
            refine va_iald hx hb hK hP 1 0 rfl rfl (by unfold vp_in; decide) dX12_count_93 ?_
            refine lv_toc (v := 0) rfl ?_
            exact z_iret C0 hr hlk rfl hK hP hD hS (0, fun _ => 0) (Or.inl ⟨rfl, rfl, (Or.inr (Or.inr (Or.inr (Or.inr (Or.inl (⟨c1, c2, c3, c4, c5⟩))))))⟩) [] rfl rfl rfl dX12_count_94
          · by_cases c6 : x_0 = 5
            · refine lv_tableIn (off := 89) (tgt := 95) hx hb dX12_count_6 (by rw [c6]; decide) (by rw [c6]; decide) (by rw [c6]; rfl) (by decide) ?_
              refine lv_aload_n hx hb dX12_count_95 rfl (lv_at hl 0 rfl) ?_
              refine va_get (D := D) (ci := 12) (v := .ref q_1) (C := RX12) (T := TX12) (N := 56) hx hb hts inX12 hown hK hP 0 rfl rfl 2 (by decide) (hts _ kF_X12_7) (fun _ h9 => h9) rfl dX12_count_96 ?_
              refine lv_iconst (v := 5) hx hb dX12_count_99 (by decide) ?_
              refine va_iald hx hb hK hP 1 0 rfl rfl (by unfold vp_in; decide) dX12_count_100 ?_
              refine lv_toc (v := 0) rfl ?_
              exact z_iret C0 hr hlk rfl hK hP hD hS (0, fun _ => 0) (Or.inl ⟨rfl, rfl, (Or.inr (Or.inr (Or.inr (Or.inr (Or.inr (Or.inl (⟨c1, c2, c3, c4, c5, c6⟩)))))))⟩) [] rfl rfl rfl dX12_count_101
            · by_cases c7 : x_0 = 6
              · refine lv_tableIn (off := 96) (tgt := 102) hx hb dX12_count_6 (by rw [c7]; decide) (by rw [c7]; decide) (by rw [c7]; rfl) (by decide) ?_
                refine lv_aload_n hx hb dX12_count_102 rfl (lv_at hl 0 rfl) ?_
                refine va_get (D := D) (ci := 12) (v := .ref q_1) (C := RX12) (T := TX12) (N := 56) hx hb hts inX12 hown hK hP 0 rfl rfl 2 (by decide) (hts _ kF_X12_7) (fun _ h9 => h9) rfl dX12_count_103 ?_
                refine lv_bipush (v := 6) hx hb dX12_count_106 (by decide) ?_
                refine va_iald hx hb hK hP 1 0 rfl rfl (by unfold vp_in; decide) dX12_count_108 ?_
                refine lv_toc (v := 0) rfl ?_
                exact z_iret C0 hr hlk rfl hK hP hD hS (0, fun _ => 0) (Or.inl ⟨rfl, rfl, (Or.inr (Or.inr (Or.inr (Or.inr (Or.inr (Or.inr (Or.inl (⟨c1, c2, c3, c4, c5, c6, c7⟩))))))))⟩) [] rfl rfl rfl dX12_count_109
              · by_cases c8 : x_0 = 7
                · refine lv_tableIn (off := 104) (tgt := 110) hx hb dX12_count_6 (by rw [c8]; decide) (by rw [c8]; decide) (by rw [c8]; rfl) (by decide) ?_
                  refine lv_aload_n hx hb dX12_count_110 rfl (lv_at hl 0 rfl) ?_
                  refine va_get (D := D) (ci := 12) (v := .ref q_1) (C := RX12) (T := TX12) (N := 56) hx hb hts inX12 hown hK hP 0 rfl rfl 2 (by decide) (hts _ kF_X12_7) (fun _ h9 => h9) rfl dX12_count_111 ?_
                  refine lv_bipush (v := 7) hx hb dX12_count_114 (by decide) ?_
                  refine va_iald hx hb hK hP 1 0 rfl rfl (by unfold vp_in; decide) dX12_count_116 ?_
                  refine lv_toc (v := 0) rfl ?_
                  exact z_iret C0 hr hlk rfl hK hP hD hS (0, fun _ => 0) (Or.inl ⟨rfl, rfl, (Or.inr (Or.inr (Or.inr (Or.inr (Or.inr (Or.inr (Or.inr (Or.inl (⟨c1, c2, c3, c4, c5, c6, c7, c8⟩)))))))))⟩) [] rfl rfl rfl dX12_count_117
                · by_cases c9 : x_0 = 8
                  · refine lv_tableIn (off := 112) (tgt := 118) hx hb dX12_count_6 (by rw [c9]; decide) (by rw [c9]; decide) (by rw [c9]; rfl) (by decide) ?_
                    refine lv_aload_n hx hb dX12_count_118 rfl (lv_at hl 0 rfl) ?_
                    refine va_get (D := D) (ci := 12) (v := .ref q_1) (C := RX12) (T := TX12) (N := 56) hx hb hts inX12 hown hK hP 0 rfl rfl 2 (by decide) (hts _ kF_X12_7) (fun _ h9 => h9) rfl dX12_count_119 ?_
                    refine lv_bipush (v := 8) hx hb dX12_count_122 (by decide) ?_
                    refine va_iald hx hb hK hP 1 0 rfl rfl (by unfold vp_in; decide) dX12_count_124 ?_
                    refine lv_toc (v := 0) rfl ?_
                    exact z_iret C0 hr hlk rfl hK hP hD hS (0, fun _ => 0) (Or.inl ⟨rfl, rfl, (Or.inr (Or.inr (Or.inr (Or.inr (Or.inr (Or.inr (Or.inr (Or.inr (Or.inl (⟨c1, c2, c3, c4, c5, c6, c7, c8, c9⟩))))))))))⟩) [] rfl rfl rfl dX12_count_125
                  · by_cases c10 : x_0 = 9
                    · refine lv_tableIn (off := 120) (tgt := 126) hx hb dX12_count_6 (by rw [c10]; decide) (by rw [c10]; decide) (by rw [c10]; rfl) (by decide) ?_
                      refine lv_aload_n hx hb dX12_count_126 rfl (lv_at hl 0 rfl) ?_
                      refine va_get (D := D) (ci := 12) (v := .int 0) (C := RX12) (T := TX12) (N := 56) hx hb hts inX12 hown hK hP 0 rfl rfl 11 (by decide) (hts _ kF_X12_193) (fun _ h9 => h9) rfl dX12_count_127 ?_
                      exact z_iret C0 hr hlk rfl hK hP hD hS (0, fun _ => 0) (Or.inl ⟨rfl, rfl, (Or.inr (Or.inr (Or.inr (Or.inr (Or.inr (Or.inr (Or.inr (Or.inr (Or.inr (⟨c1, c2, c3, c4, c5, c6, c7, c8, c9, c10⟩))))))))))⟩) [] rfl rfl rfl dX12_count_130
                    · refine lv_tableOut (tgt := 131) hx hb dX12_count_6 (by have bA0 := Int32.le_toInt x_0; have bB0 := Int32.toInt_lt x_0; revert c1 c2 c3 c4 c5 c6 c7 c8 c9 c10; simp only [vp_in_iff, Int32.lt_iff_toInt_lt, Int32.le_iff_toInt_le, Int64.lt_iff_toInt_lt, Int64.le_iff_toInt_le, Int32.toInt_toInt64, ← Int32.toInt_inj, ← Int64.toInt_inj, Int32.reduceToInt, Int64.reduceToInt] <;> omega) (by decide) ?_
                      refine lv_iconst (v := (-1)) hx hb dX12_count_131 (by decide) ?_
                      exact z_iret C0 hr hlk rfl hK hP hD hS (1, fun _ => 0) (Or.inr (⟨rfl, rfl, ⟨c1, c2, c3, c4, c5, c6, c7, c8, c9, c10⟩⟩)) [] rfl rfl rfl dX12_count_132

set_option maxHeartbeats 4000000 in
set_option maxRecDepth 100000 in
theorem c_X11_status_1 (l : Launch) (D : va_G) (k : Nat → ClassId) (q_0 : Nat) (q_1 : Nat) (q_2 : Nat) (q_3 : Nat) (q_4 : Nat) (q_5 : Nat) : zMi l yX11_status cX11_status 1 (some .int) ({ frames := 0, cells := 0, slots := 0, locals := 0 }) D k [.ref q_0] [(q_0, .inr (11, [.ref q_1, .ref q_2, .ref q_3, .ref q_4, .ref q_5, .int 0]))] (fun r u => u.1 = 0 ∧ r = 0) (fun u => []) := by
  refine zMi_of (own := RX11) (by decide +kernel) rfl (Nat.le_of_ble_eq_true rfl) ?_
  intro p e s m args below meth c A ls C0 hr hlk hin hP hD hS hA hK hN hl
  have hx := C0.1
  have hb := C0.2.1
  have hml := C0.2.2.1
  have hown := C0.2.2.2.1
  have hts := C0.2.2.2.2
  have hl : lv_has ls 1 [(0, .ref q_0)] := hl
  have hP : va_P D vwCl [(q_0, .inr (11, [.ref q_1, .ref q_2, .ref q_3, .ref q_4, .ref q_5, .int 0]))] s.heap := hP
  refine lv_aload_n hx hb dX11_status_0 rfl (lv_at hl 0 rfl) ?_
  refine va_get (D := D) (ci := 11) (v := .int 0) (C := RX11) (T := TX11) (N := 6) hx hb hts inX11 hown hK hP 0 rfl rfl 5 (by decide) (hts _ kF_X11_383) (fun _ h9 => h9) rfl dX11_status_1 ?_
  exact z_iret C0 hr hlk rfl hK hP hD hS (0, fun _ => 0) ⟨rfl, rfl⟩ [] rfl rfl rfl dX11_status_4

set_option maxHeartbeats 4000000 in
set_option maxRecDepth 100000 in
theorem c_X12_status_1 (l : Launch) (D : va_G) (k : Nat → ClassId) (q_0 : Nat) (q_1 : Nat) (q_2 : Nat) (q_3 : Nat) (q_4 : Nat) (q_5 : Nat) (q_6 : Nat) (q_7 : Nat) (q_8 : Nat) (q_9 : Nat) (q_10 : Nat) (q_11 : Nat) (q_12 : Nat) (q_13 : Nat) (q_14 : Nat) (q_15 : Nat) (q_16 : Nat) (q_17 : Nat) (q_18 : Nat) (q_19 : Nat) (q_20 : Nat) (q_21 : Nat) (q_22 : Nat) (q_23 : Nat) (q_24 : Nat) (q_25 : Nat) (x_0 : Int32) (x_1 : Int32) (x_2 : Int32) (x_3 : Int32) (x_4 : Int32) (x_5 : Int32) (g_6 : Int64) (x_7 : Int32) (x_8 : Int32) (x_9 : Int32) (x_10 : Int32) (x_11 : Int32) (x_12 : Int32) (x_13 : Int32) (x_14 : Int32) (g_15 : Int64) (g_16 : Int64) (x_17 : Int32) (x_18 : Int32) (x_19 : Int32) (x_20 : Int32) (x_21 : Int32) (x_22 : Int32) (x_23 : Int32) (x_24 : Int32) (x_25 : Int32) (x_26 : Int32) (x_27 : Int32) (x_28 : Int32) (x_29 : Int32) : zMi l yX12_status cX12_status 1 (some .int) ({ frames := 0, cells := 0, slots := 0, locals := 0 }) D k [.ref q_0] [(q_0, .inr (12, [.int x_0, .int 0, .ref q_1, .ref q_2, .ref q_3, .int x_1, .ref q_4, .ref q_5, .ref q_6, .ref q_7, .ref q_8, .int x_2, .int x_3, .int x_4, .int x_5, .long g_6, .int x_7, .int x_8, .int x_9, .ref q_9, .int x_10, .ref q_10, .ref q_11, .int x_11, .ref q_12, .ref q_13, .int x_12, .int x_13, .ref q_14, .ref q_15, .ref q_16, .ref q_17, .int x_14, .long g_15, .long g_16, .int x_17, .int x_18, .int x_19, .int x_20, .ref q_18, .ref q_19, .int x_21, .int x_22, .int x_23, .int x_24, .ref q_20, .ref q_21, .int x_25, .int x_26, .ref q_22, .ref q_23, .ref q_24, .ref q_25, .int x_27, .int x_28, .int x_29]))] (fun r u => u.1 = 0 ∧ r = 0) (fun u => []) := by
  refine zMi_of (own := RX12) (by decide +kernel) rfl (Nat.le_of_ble_eq_true rfl) ?_
  intro p e s m args below meth c A ls C0 hr hlk hin hP hD hS hA hK hN hl
  have hx := C0.1
  have hb := C0.2.1
  have hml := C0.2.2.1
  have hown := C0.2.2.2.1
  have hts := C0.2.2.2.2
  have hl : lv_has ls 1 [(0, .ref q_0)] := hl
  have hP : va_P D vwCl [(q_0, .inr (12, [.int x_0, .int 0, .ref q_1, .ref q_2, .ref q_3, .int x_1, .ref q_4, .ref q_5, .ref q_6, .ref q_7, .ref q_8, .int x_2, .int x_3, .int x_4, .int x_5, .long g_6, .int x_7, .int x_8, .int x_9, .ref q_9, .int x_10, .ref q_10, .ref q_11, .int x_11, .ref q_12, .ref q_13, .int x_12, .int x_13, .ref q_14, .ref q_15, .ref q_16, .ref q_17, .int x_14, .long g_15, .long g_16, .int x_17, .int x_18, .int x_19, .int x_20, .ref q_18, .ref q_19, .int x_21, .int x_22, .int x_23, .int x_24, .ref q_20, .ref q_21, .int x_25, .int x_26, .ref q_22, .ref q_23, .ref q_24, .ref q_25, .int x_27, .int x_28, .int x_29]))] s.heap := hP
  refine lv_aload_n hx hb dX12_status_0 rfl (lv_at hl 0 rfl) ?_
  refine lv_iconst (v := 0) hx hb dX12_status_1 (by decide) ?_
  refine va_put (D := D) (ci := 12) (v := .int 0) (ty := .int) (C := RX12) (T := TX12) (N := 56) hx hb hts inX12 tyX12 tyX12_ok nmX12 hown hK hP hD hS 0 rfl rfl 0 (by decide) (hts _ kF_X12_92) (fun _ h9 => h9) rfl (by decide +kernel) rfl rfl (Nat.le_of_ble_eq_true rfl) dX12_status_2 (fun H locs hP hD hS => ?_)
  have hP : va_P D vwCl [(q_0, .inr (12, [.int 0, .int 0, .ref q_1, .ref q_2, .ref q_3, .int x_1, .ref q_4, .ref q_5, .ref q_6, .ref q_7, .ref q_8, .int x_2, .int x_3, .int x_4, .int x_5, .long g_6, .int x_7, .int x_8, .int x_9, .ref q_9, .int x_10, .ref q_10, .ref q_11, .int x_11, .ref q_12, .ref q_13, .int x_12, .int x_13, .ref q_14, .ref q_15, .ref q_16, .ref q_17, .int x_14, .long g_15, .long g_16, .int x_17, .int x_18, .int x_19, .int x_20, .ref q_18, .ref q_19, .int x_21, .int x_22, .int x_23, .int x_24, .ref q_20, .ref q_21, .int x_25, .int x_26, .ref q_22, .ref q_23, .ref q_24, .ref q_25, .int x_27, .int x_28, .int x_29]))] H := hP
  have hD : va_D A [(q_0, .inr (12, [.int 0, .int 0, .ref q_1, .ref q_2, .ref q_3, .int x_1, .ref q_4, .ref q_5, .ref q_6, .ref q_7, .ref q_8, .int x_2, .int x_3, .int x_4, .int x_5, .long g_6, .int x_7, .int x_8, .int x_9, .ref q_9, .int x_10, .ref q_10, .ref q_11, .int x_11, .ref q_12, .ref q_13, .int x_12, .int x_13, .ref q_14, .ref q_15, .ref q_16, .ref q_17, .int x_14, .long g_15, .long g_16, .int x_17, .int x_18, .int x_19, .int x_20, .ref q_18, .ref q_19, .int x_21, .int x_22, .int x_23, .int x_24, .ref q_20, .ref q_21, .int x_25, .int x_26, .ref q_22, .ref q_23, .ref q_24, .ref q_25, .int x_27, .int x_28, .int x_29]))] := hD
  refine lv_aload_n hx hb dX12_status_5 rfl (lv_at hl 0 rfl) ?_
  refine va_get (D := D) (ci := 12) (v := .int 0) (C := RX12) (T := TX12) (N := 56) hx hb hts inX12 hown hK hP 0 rfl rfl 1 (by decide) (hts _ kF_X12_95) (fun _ h9 => h9) rfl dX12_status_6 ?_
  exact z_iret C0 hr hlk rfl hK hP hD hS (0, fun _ => 0) ⟨rfl, rfl⟩ [] rfl rfl rfl dX12_status_9
end
