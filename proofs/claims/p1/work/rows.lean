section
-- ===== PART A: goes FIRST, ahead of the names: the tables' words, and 'selects' of the private methods out of them =====
/-- a private method of a class that the tables say can be made, by its rows of tables_1 -/
def lw_okq (q : MethodName × Nat) : Prop := (q.1.cls ≠ "java/lang/invoke/MethodHandle" ∧ q.1.cls ≠ "java/lang/invoke/VarHandle") ∧ Cond.instantiable q.1.cls q.2 ∈ tables_1 ∧ Cond.privateMethod q.1 ∈ tables_1 ∧ Cond.instanceMethod q.1 ∈ tables_1
theorem lw_p0 : lw_okq (⟨"HalfDays", "answer", "(I)I"⟩, 6) := ⟨⟨by decide +kernel, by decide +kernel⟩, List.mem_of_getElem? (i := 19) (by decide +kernel), List.mem_of_getElem? (i := 549) (by decide +kernel), List.mem_of_getElem? (i := 550) (by decide +kernel)⟩
theorem lw_p1 : lw_okq (⟨"HalfDays$Rolls", "isListedWithin", "(IIII)Z"⟩, 6) := ⟨⟨by decide +kernel, by decide +kernel⟩, List.mem_of_getElem? (i := 97) (by decide +kernel), List.mem_of_getElem? (i := 604) (by decide +kernel), List.mem_of_getElem? (i := 605) (by decide +kernel)⟩
theorem lw_p2 : lw_okq (⟨"HalfDays", "markThatCounts", "(IIII)I"⟩, 6) := ⟨⟨by decide +kernel, by decide +kernel⟩, List.mem_of_getElem? (i := 19) (by decide +kernel), List.mem_of_getElem? (i := 661) (by decide +kernel), List.mem_of_getElem? (i := 662) (by decide +kernel)⟩
theorem lw_p3 : lw_okq (⟨"HalfDays$Asker", "strikeClauses", "(I)V"⟩, 19) := ⟨⟨by decide +kernel, by decide +kernel⟩, List.mem_of_getElem? (i := 399) (by decide +kernel), List.mem_of_getElem? (i := 683) (by decide +kernel), List.mem_of_getElem? (i := 684) (by decide +kernel)⟩
theorem lw_p4 : lw_okq (⟨"HalfDays$Asker", "isHolding", "(LHalfDays$Text;I)Z"⟩, 19) := ⟨⟨by decide +kernel, by decide +kernel⟩, List.mem_of_getElem? (i := 399) (by decide +kernel), List.mem_of_getElem? (i := 688) (by decide +kernel), List.mem_of_getElem? (i := 689) (by decide +kernel)⟩
theorem lw_p5 : lw_okq (⟨"HalfDays$Asker", "reckon", "([III)J"⟩, 19) := ⟨⟨by decide +kernel, by decide +kernel⟩, List.mem_of_getElem? (i := 399) (by decide +kernel), List.mem_of_getElem? (i := 692) (by decide +kernel), List.mem_of_getElem? (i := 693) (by decide +kernel)⟩
theorem lw_p6 : lw_okq (⟨"HalfDays$Asker", "wordsValue", "(I)I"⟩, 19) := ⟨⟨by decide +kernel, by decide +kernel⟩, List.mem_of_getElem? (i := 399) (by decide +kernel), List.mem_of_getElem? (i := 697) (by decide +kernel), List.mem_of_getElem? (i := 698) (by decide +kernel)⟩
theorem lw_p7 : lw_okq (⟨"HalfDays$Reader", "nextToken", "()V"⟩, 16) := ⟨⟨by decide +kernel, by decide +kernel⟩, List.mem_of_getElem? (i := 336) (by decide +kernel), List.mem_of_getElem? (i := 742) (by decide +kernel), List.mem_of_getElem? (i := 743) (by decide +kernel)⟩
theorem lw_p8 : lw_okq (⟨"HalfDays$Reader", "readHead", "()V"⟩, 16) := ⟨⟨by decide +kernel, by decide +kernel⟩, List.mem_of_getElem? (i := 336) (by decide +kernel), List.mem_of_getElem? (i := 747) (by decide +kernel), List.mem_of_getElem? (i := 748) (by decide +kernel)⟩
theorem lw_p9 : lw_okq (⟨"HalfDays$Reader", "takeLetter", "()I"⟩, 16) := ⟨⟨by decide +kernel, by decide +kernel⟩, List.mem_of_getElem? (i := 336) (by decide +kernel), List.mem_of_getElem? (i := 752) (by decide +kernel), List.mem_of_getElem? (i := 753) (by decide +kernel)⟩
theorem lw_p10 : lw_okq (⟨"HalfDays$Reader", "refuseToken", "()V"⟩, 16) := ⟨⟨by decide +kernel, by decide +kernel⟩, List.mem_of_getElem? (i := 336) (by decide +kernel), List.mem_of_getElem? (i := 756) (by decide +kernel), List.mem_of_getElem? (i := 757) (by decide +kernel)⟩
theorem lw_p11 : lw_okq (⟨"HalfDays$Reader", "takeKind", "()I"⟩, 16) := ⟨⟨by decide +kernel, by decide +kernel⟩, List.mem_of_getElem? (i := 336) (by decide +kernel), List.mem_of_getElem? (i := 760) (by decide +kernel), List.mem_of_getElem? (i := 761) (by decide +kernel)⟩
theorem lw_p12 : lw_okq (⟨"HalfDays$Reader", "wordAmong", "([J)I"⟩, 16) := ⟨⟨by decide +kernel, by decide +kernel⟩, List.mem_of_getElem? (i := 336) (by decide +kernel), List.mem_of_getElem? (i := 766) (by decide +kernel), List.mem_of_getElem? (i := 767) (by decide +kernel)⟩
theorem lw_p13 : lw_okq (⟨"HalfDays$Reader", "putHead", "(II)V"⟩, 16) := ⟨⟨by decide +kernel, by decide +kernel⟩, List.mem_of_getElem? (i := 336) (by decide +kernel), List.mem_of_getElem? (i := 770) (by decide +kernel), List.mem_of_getElem? (i := 771) (by decide +kernel)⟩
theorem lw_p14 : lw_okq (⟨"HalfDays$Reader", "readStepHead", "(IJ)V"⟩, 16) := ⟨⟨by decide +kernel, by decide +kernel⟩, List.mem_of_getElem? (i := 336) (by decide +kernel), List.mem_of_getElem? (i := 776) (by decide +kernel), List.mem_of_getElem? (i := 777) (by decide +kernel)⟩
theorem lw_p15 : lw_okq (⟨"HalfDays$Reader", "takeNumber", "(II)I"⟩, 16) := ⟨⟨by decide +kernel, by decide +kernel⟩, List.mem_of_getElem? (i := 336) (by decide +kernel), List.mem_of_getElem? (i := 780) (by decide +kernel), List.mem_of_getElem? (i := 781) (by decide +kernel)⟩
def lw_privs_1 : List (MethodName × Nat) := [(⟨"HalfDays", "answer", "(I)I"⟩, 6), (⟨"HalfDays$Rolls", "isListedWithin", "(IIII)Z"⟩, 6), (⟨"HalfDays", "markThatCounts", "(IIII)I"⟩, 6), (⟨"HalfDays$Asker", "strikeClauses", "(I)V"⟩, 19), (⟨"HalfDays$Asker", "isHolding", "(LHalfDays$Text;I)Z"⟩, 19), (⟨"HalfDays$Asker", "reckon", "([III)J"⟩, 19), (⟨"HalfDays$Asker", "wordsValue", "(I)I"⟩, 19), (⟨"HalfDays$Reader", "nextToken", "()V"⟩, 16), (⟨"HalfDays$Reader", "readHead", "()V"⟩, 16), (⟨"HalfDays$Reader", "takeLetter", "()I"⟩, 16), (⟨"HalfDays$Reader", "refuseToken", "()V"⟩, 16), (⟨"HalfDays$Reader", "takeKind", "()I"⟩, 16), (⟨"HalfDays$Reader", "wordAmong", "([J)I"⟩, 16), (⟨"HalfDays$Reader", "putHead", "(II)V"⟩, 16), (⟨"HalfDays$Reader", "readStepHead", "(IJ)V"⟩, 16), (⟨"HalfDays$Reader", "takeNumber", "(II)I"⟩, 16)]
theorem lw_r1 : ∀ q ∈ lw_privs_1, lw_okq q := List.forall_mem_cons.mpr ⟨lw_p0, List.forall_mem_cons.mpr ⟨lw_p1, List.forall_mem_cons.mpr ⟨lw_p2, List.forall_mem_cons.mpr ⟨lw_p3, List.forall_mem_cons.mpr ⟨lw_p4, List.forall_mem_cons.mpr ⟨lw_p5, List.forall_mem_cons.mpr ⟨lw_p6, List.forall_mem_cons.mpr ⟨lw_p7, List.forall_mem_cons.mpr ⟨lw_p8, List.forall_mem_cons.mpr ⟨lw_p9, List.forall_mem_cons.mpr ⟨lw_p10, List.forall_mem_cons.mpr ⟨lw_p11, List.forall_mem_cons.mpr ⟨lw_p12, List.forall_mem_cons.mpr ⟨lw_p13, List.forall_mem_cons.mpr ⟨lw_p14, List.forall_mem_cons.mpr ⟨lw_p15, fun _ h => absurd h List.not_mem_nil⟩⟩⟩⟩⟩⟩⟩⟩⟩⟩⟩⟩⟩⟩⟩⟩
theorem lw_p16 : lw_okq (⟨"HalfDays$Reader", "readSum", "(I)V"⟩, 16) := ⟨⟨by decide +kernel, by decide +kernel⟩, List.mem_of_getElem? (i := 336) (by decide +kernel), List.mem_of_getElem? (i := 785) (by decide +kernel), List.mem_of_getElem? (i := 786) (by decide +kernel)⟩
theorem lw_p17 : lw_okq (⟨"HalfDays$Reader", "readPart", "(I)V"⟩, 16) := ⟨⟨by decide +kernel, by decide +kernel⟩, List.mem_of_getElem? (i := 336) (by decide +kernel), List.mem_of_getElem? (i := 789) (by decide +kernel), List.mem_of_getElem? (i := 790) (by decide +kernel)⟩
theorem lw_p18 : lw_okq (⟨"HalfDays$Reader", "readLeaf", "(II)V"⟩, 16) := ⟨⟨by decide +kernel, by decide +kernel⟩, List.mem_of_getElem? (i := 336) (by decide +kernel), List.mem_of_getElem? (i := 795) (by decide +kernel), List.mem_of_getElem? (i := 796) (by decide +kernel)⟩
theorem lw_p19 : lw_okq (⟨"HalfDays$Reader", "emit", "(II)V"⟩, 16) := ⟨⟨by decide +kernel, by decide +kernel⟩, List.mem_of_getElem? (i := 336) (by decide +kernel), List.mem_of_getElem? (i := 799) (by decide +kernel), List.mem_of_getElem? (i := 800) (by decide +kernel)⟩
theorem lw_p20 : lw_okq (⟨"HalfDays$Reader", "isSign", "(I)Z"⟩, 16) := ⟨⟨by decide +kernel, by decide +kernel⟩, List.mem_of_getElem? (i := 336) (by decide +kernel), List.mem_of_getElem? (i := 803) (by decide +kernel), List.mem_of_getElem? (i := 804) (by decide +kernel)⟩
theorem lw_p21 : lw_okq (⟨"HalfDays$Reader", "closeBracket", "(I)V"⟩, 16) := ⟨⟨by decide +kernel, by decide +kernel⟩, List.mem_of_getElem? (i := 336) (by decide +kernel), List.mem_of_getElem? (i := 807) (by decide +kernel), List.mem_of_getElem? (i := 808) (by decide +kernel)⟩
theorem lw_p22 : lw_okq (⟨"HalfDays$Reader", "takeWord", "(J)V"⟩, 16) := ⟨⟨by decide +kernel, by decide +kernel⟩, List.mem_of_getElem? (i := 336) (by decide +kernel), List.mem_of_getElem? (i := 811) (by decide +kernel), List.mem_of_getElem? (i := 812) (by decide +kernel)⟩
theorem lw_p23 : lw_okq (⟨"HalfDays$Reader", "readTest", "(I)V"⟩, 16) := ⟨⟨by decide +kernel, by decide +kernel⟩, List.mem_of_getElem? (i := 336) (by decide +kernel), List.mem_of_getElem? (i := 822) (by decide +kernel), List.mem_of_getElem? (i := 823) (by decide +kernel)⟩
theorem lw_p24 : lw_okq (⟨"HalfDays$Reader", "readPlain", "(I)V"⟩, 16) := ⟨⟨by decide +kernel, by decide +kernel⟩, List.mem_of_getElem? (i := 336) (by decide +kernel), List.mem_of_getElem? (i := 826) (by decide +kernel), List.mem_of_getElem? (i := 827) (by decide +kernel)⟩
theorem lw_p25 : lw_okq (⟨"HalfDays$Reader", "landJump", "(I)V"⟩, 16) := ⟨⟨by decide +kernel, by decide +kernel⟩, List.mem_of_getElem? (i := 336) (by decide +kernel), List.mem_of_getElem? (i := 833) (by decide +kernel), List.mem_of_getElem? (i := 834) (by decide +kernel)⟩
theorem lw_p26 : lw_okq (⟨"HalfDays$Asker", "awayWithin", "(II)I"⟩, 19) := ⟨⟨by decide +kernel, by decide +kernel⟩, List.mem_of_getElem? (i := 399) (by decide +kernel), List.mem_of_getElem? (i := 947) (by decide +kernel), List.mem_of_getElem? (i := 948) (by decide +kernel)⟩
theorem lw_p27 : lw_okq (⟨"HalfDays$Choices", "noteLikeness", "(I)V"⟩, 14) := ⟨⟨by decide +kernel, by decide +kernel⟩, List.mem_of_getElem? (i := 465) (by decide +kernel), List.mem_of_getElem? (i := 1033) (by decide +kernel), List.mem_of_getElem? (i := 1034) (by decide +kernel)⟩
theorem lw_p28 : lw_okq (⟨"HalfDays$Choices", "weighJoins", "(II)V"⟩, 14) := ⟨⟨by decide +kernel, by decide +kernel⟩, List.mem_of_getElem? (i := 465) (by decide +kernel), List.mem_of_getElem? (i := 1040) (by decide +kernel), List.mem_of_getElem? (i := 1041) (by decide +kernel)⟩
theorem lw_p29 : lw_okq (⟨"HalfDays$Choices", "scoreWith", "(III)I"⟩, 14) := ⟨⟨by decide +kernel, by decide +kernel⟩, List.mem_of_getElem? (i := 465) (by decide +kernel), List.mem_of_getElem? (i := 1044) (by decide +kernel), List.mem_of_getElem? (i := 1045) (by decide +kernel)⟩
theorem lw_p30 : lw_okq (⟨"HalfDays$Choices", "keepFirstBest", "()V"⟩, 14) := ⟨⟨by decide +kernel, by decide +kernel⟩, List.mem_of_getElem? (i := 465) (by decide +kernel), List.mem_of_getElem? (i := 1048) (by decide +kernel), List.mem_of_getElem? (i := 1049) (by decide +kernel)⟩
theorem lw_p31 : lw_okq (⟨"HalfDays$Choices", "noteWays", "(II)V"⟩, 14) := ⟨⟨by decide +kernel, by decide +kernel⟩, List.mem_of_getElem? (i := 465) (by decide +kernel), List.mem_of_getElem? (i := 1088) (by decide +kernel), List.mem_of_getElem? (i := 1089) (by decide +kernel)⟩
def lw_privs_2 : List (MethodName × Nat) := [(⟨"HalfDays$Reader", "readSum", "(I)V"⟩, 16), (⟨"HalfDays$Reader", "readPart", "(I)V"⟩, 16), (⟨"HalfDays$Reader", "readLeaf", "(II)V"⟩, 16), (⟨"HalfDays$Reader", "emit", "(II)V"⟩, 16), (⟨"HalfDays$Reader", "isSign", "(I)Z"⟩, 16), (⟨"HalfDays$Reader", "closeBracket", "(I)V"⟩, 16), (⟨"HalfDays$Reader", "takeWord", "(J)V"⟩, 16), (⟨"HalfDays$Reader", "readTest", "(I)V"⟩, 16), (⟨"HalfDays$Reader", "readPlain", "(I)V"⟩, 16), (⟨"HalfDays$Reader", "landJump", "(I)V"⟩, 16), (⟨"HalfDays$Asker", "awayWithin", "(II)I"⟩, 19), (⟨"HalfDays$Choices", "noteLikeness", "(I)V"⟩, 14), (⟨"HalfDays$Choices", "weighJoins", "(II)V"⟩, 14), (⟨"HalfDays$Choices", "scoreWith", "(III)I"⟩, 14), (⟨"HalfDays$Choices", "keepFirstBest", "()V"⟩, 14), (⟨"HalfDays$Choices", "noteWays", "(II)V"⟩, 14)]
theorem lw_r2 : ∀ q ∈ lw_privs_2, lw_okq q := List.forall_mem_cons.mpr ⟨lw_p16, List.forall_mem_cons.mpr ⟨lw_p17, List.forall_mem_cons.mpr ⟨lw_p18, List.forall_mem_cons.mpr ⟨lw_p19, List.forall_mem_cons.mpr ⟨lw_p20, List.forall_mem_cons.mpr ⟨lw_p21, List.forall_mem_cons.mpr ⟨lw_p22, List.forall_mem_cons.mpr ⟨lw_p23, List.forall_mem_cons.mpr ⟨lw_p24, List.forall_mem_cons.mpr ⟨lw_p25, List.forall_mem_cons.mpr ⟨lw_p26, List.forall_mem_cons.mpr ⟨lw_p27, List.forall_mem_cons.mpr ⟨lw_p28, List.forall_mem_cons.mpr ⟨lw_p29, List.forall_mem_cons.mpr ⟨lw_p30, List.forall_mem_cons.mpr ⟨lw_p31, fun _ h => absurd h List.not_mem_nil⟩⟩⟩⟩⟩⟩⟩⟩⟩⟩⟩⟩⟩⟩⟩⟩
theorem lw_p32 : lw_okq (⟨"HalfDays$Choices", "wayFrom", "(III)I"⟩, 14) := ⟨⟨by decide +kernel, by decide +kernel⟩, List.mem_of_getElem? (i := 465) (by decide +kernel), List.mem_of_getElem? (i := 1092) (by decide +kernel), List.mem_of_getElem? (i := 1093) (by decide +kernel)⟩
theorem lw_p33 : lw_okq (⟨"HalfDays$Choices", "fewestMinutes", "(I)I"⟩, 14) := ⟨⟨by decide +kernel, by decide +kernel⟩, List.mem_of_getElem? (i := 465) (by decide +kernel), List.mem_of_getElem? (i := 1099) (by decide +kernel), List.mem_of_getElem? (i := 1100) (by decide +kernel)⟩
theorem lw_p34 : lw_okq (⟨"HalfDays$Choices", "worthOf", "(I)I"⟩, 14) := ⟨⟨by decide +kernel, by decide +kernel⟩, List.mem_of_getElem? (i := 465) (by decide +kernel), List.mem_of_getElem? (i := 1105) (by decide +kernel), List.mem_of_getElem? (i := 1106) (by decide +kernel)⟩
theorem lw_p35 : lw_okq (⟨"HalfDays$Marks", "sumDay", "(I)I"⟩, 15) := ⟨⟨by decide +kernel, by decide +kernel⟩, List.mem_of_getElem? (i := 126) (by decide +kernel), List.mem_of_getElem? (i := 1164) (by decide +kernel), List.mem_of_getElem? (i := 1165) (by decide +kernel)⟩
theorem lw_p36 : lw_okq (⟨"HalfDays$Marks", "numberOf", "(I)I"⟩, 15) := ⟨⟨by decide +kernel, by decide +kernel⟩, List.mem_of_getElem? (i := 126) (by decide +kernel), List.mem_of_getElem? (i := 1168) (by decide +kernel), List.mem_of_getElem? (i := 1169) (by decide +kernel)⟩
theorem lw_p37 : lw_okq (⟨"HalfDays$Marks", "markAtPlace", "(II)I"⟩, 15) := ⟨⟨by decide +kernel, by decide +kernel⟩, List.mem_of_getElem? (i := 126) (by decide +kernel), List.mem_of_getElem? (i := 1188) (by decide +kernel), List.mem_of_getElem? (i := 1189) (by decide +kernel)⟩
theorem lw_p38 : lw_okq (⟨"HalfDaysModel", "told", "(I)I"⟩, 56) := ⟨⟨by decide +kernel, by decide +kernel⟩, List.mem_of_getElem? (i := 1246) (by decide +kernel), List.mem_of_getElem? (i := 1430) (by decide +kernel), List.mem_of_getElem? (i := 1431) (by decide +kernel)⟩
theorem lw_p39 : lw_okq (⟨"HalfDaysModel", "addFour", "(IIIII)V"⟩, 56) := ⟨⟨by decide +kernel, by decide +kernel⟩, List.mem_of_getElem? (i := 1246) (by decide +kernel), List.mem_of_getElem? (i := 1450) (by decide +kernel), List.mem_of_getElem? (i := 1451) (by decide +kernel)⟩
theorem lw_p40 : lw_okq (⟨"HalfDaysModel", "isSchool", "(I)Z"⟩, 56) := ⟨⟨by decide +kernel, by decide +kernel⟩, List.mem_of_getElem? (i := 1246) (by decide +kernel), List.mem_of_getElem? (i := 1466) (by decide +kernel), List.mem_of_getElem? (i := 1467) (by decide +kernel)⟩
theorem lw_p41 : lw_okq (⟨"HalfDaysModel", "isChild", "(I)Z"⟩, 56) := ⟨⟨by decide +kernel, by decide +kernel⟩, List.mem_of_getElem? (i := 1246) (by decide +kernel), List.mem_of_getElem? (i := 1474) (by decide +kernel), List.mem_of_getElem? (i := 1475) (by decide +kernel)⟩
theorem lw_p42 : lw_okq (⟨"HalfDaysModel", "isOnRoll", "(II)Z"⟩, 56) := ⟨⟨by decide +kernel, by decide +kernel⟩, List.mem_of_getElem? (i := 1246) (by decide +kernel), List.mem_of_getElem? (i := 1478) (by decide +kernel), List.mem_of_getElem? (i := 1479) (by decide +kernel)⟩
theorem lw_p43 : lw_okq (⟨"HalfDaysModel", "isOnSchool", "(III)Z"⟩, 56) := ⟨⟨by decide +kernel, by decide +kernel⟩, List.mem_of_getElem? (i := 1246) (by decide +kernel), List.mem_of_getElem? (i := 1490) (by decide +kernel), List.mem_of_getElem? (i := 1491) (by decide +kernel)⟩
theorem lw_p44 : lw_okq (⟨"HalfDaysModel", "hasFailed", "(II)Z"⟩, 56) := ⟨⟨by decide +kernel, by decide +kernel⟩, List.mem_of_getElem? (i := 1246) (by decide +kernel), List.mem_of_getElem? (i := 1502) (by decide +kernel), List.mem_of_getElem? (i := 1503) (by decide +kernel)⟩
theorem lw_p45 : lw_okq (⟨"HalfDaysModel", "isMark", "(I)Z"⟩, 56) := ⟨⟨by decide +kernel, by decide +kernel⟩, List.mem_of_getElem? (i := 1246) (by decide +kernel), List.mem_of_getElem? (i := 1523) (by decide +kernel), List.mem_of_getElem? (i := 1524) (by decide +kernel)⟩
theorem lw_p46 : lw_okq (⟨"HalfDaysModel", "knowBy", "(I)V"⟩, 56) := ⟨⟨by decide +kernel, by decide +kernel⟩, List.mem_of_getElem? (i := 1246) (by decide +kernel), List.mem_of_getElem? (i := 1532) (by decide +kernel), List.mem_of_getElem? (i := 1533) (by decide +kernel)⟩
theorem lw_p47 : lw_okq (⟨"HalfDaysModel", "findKinds", "()V"⟩, 56) := ⟨⟨by decide +kernel, by decide +kernel⟩, List.mem_of_getElem? (i := 1246) (by decide +kernel), List.mem_of_getElem? (i := 1536) (by decide +kernel), List.mem_of_getElem? (i := 1537) (by decide +kernel)⟩
def lw_privs_3 : List (MethodName × Nat) := [(⟨"HalfDays$Choices", "wayFrom", "(III)I"⟩, 14), (⟨"HalfDays$Choices", "fewestMinutes", "(I)I"⟩, 14), (⟨"HalfDays$Choices", "worthOf", "(I)I"⟩, 14), (⟨"HalfDays$Marks", "sumDay", "(I)I"⟩, 15), (⟨"HalfDays$Marks", "numberOf", "(I)I"⟩, 15), (⟨"HalfDays$Marks", "markAtPlace", "(II)I"⟩, 15), (⟨"HalfDaysModel", "told", "(I)I"⟩, 56), (⟨"HalfDaysModel", "addFour", "(IIIII)V"⟩, 56), (⟨"HalfDaysModel", "isSchool", "(I)Z"⟩, 56), (⟨"HalfDaysModel", "isChild", "(I)Z"⟩, 56), (⟨"HalfDaysModel", "isOnRoll", "(II)Z"⟩, 56), (⟨"HalfDaysModel", "isOnSchool", "(III)Z"⟩, 56), (⟨"HalfDaysModel", "hasFailed", "(II)Z"⟩, 56), (⟨"HalfDaysModel", "isMark", "(I)Z"⟩, 56), (⟨"HalfDaysModel", "knowBy", "(I)V"⟩, 56), (⟨"HalfDaysModel", "findKinds", "()V"⟩, 56)]
theorem lw_r3 : ∀ q ∈ lw_privs_3, lw_okq q := List.forall_mem_cons.mpr ⟨lw_p32, List.forall_mem_cons.mpr ⟨lw_p33, List.forall_mem_cons.mpr ⟨lw_p34, List.forall_mem_cons.mpr ⟨lw_p35, List.forall_mem_cons.mpr ⟨lw_p36, List.forall_mem_cons.mpr ⟨lw_p37, List.forall_mem_cons.mpr ⟨lw_p38, List.forall_mem_cons.mpr ⟨lw_p39, List.forall_mem_cons.mpr ⟨lw_p40, List.forall_mem_cons.mpr ⟨lw_p41, List.forall_mem_cons.mpr ⟨lw_p42, List.forall_mem_cons.mpr ⟨lw_p43, List.forall_mem_cons.mpr ⟨lw_p44, List.forall_mem_cons.mpr ⟨lw_p45, List.forall_mem_cons.mpr ⟨lw_p46, List.forall_mem_cons.mpr ⟨lw_p47, fun _ h => absurd h List.not_mem_nil⟩⟩⟩⟩⟩⟩⟩⟩⟩⟩⟩⟩⟩⟩⟩⟩
theorem lw_p48 : lw_okq (⟨"HalfDaysModel", "findForce", "(I)V"⟩, 56) := ⟨⟨by decide +kernel, by decide +kernel⟩, List.mem_of_getElem? (i := 1246) (by decide +kernel), List.mem_of_getElem? (i := 1540) (by decide +kernel), List.mem_of_getElem? (i := 1541) (by decide +kernel)⟩
theorem lw_p49 : lw_okq (⟨"HalfDaysModel", "setFor", "(II)V"⟩, 56) := ⟨⟨by decide +kernel, by decide +kernel⟩, List.mem_of_getElem? (i := 1246) (by decide +kernel), List.mem_of_getElem? (i := 1550) (by decide +kernel), List.mem_of_getElem? (i := 1551) (by decide +kernel)⟩
theorem lw_p50 : lw_okq (⟨"HalfDaysModel", "hasOn", "(III)Z"⟩, 56) := ⟨⟨by decide +kernel, by decide +kernel⟩, List.mem_of_getElem? (i := 1246) (by decide +kernel), List.mem_of_getElem? (i := 1554) (by decide +kernel), List.mem_of_getElem? (i := 1555) (by decide +kernel)⟩
theorem lw_p51 : lw_okq (⟨"HalfDaysModel", "find", "(III)Z"⟩, 56) := ⟨⟨by decide +kernel, by decide +kernel⟩, List.mem_of_getElem? (i := 1246) (by decide +kernel), List.mem_of_getElem? (i := 1558) (by decide +kernel), List.mem_of_getElem? (i := 1559) (by decide +kernel)⟩
theorem lw_p52 : lw_okq (⟨"HalfDaysModel", "isSo", "(II)Z"⟩, 56) := ⟨⟨by decide +kernel, by decide +kernel⟩, List.mem_of_getElem? (i := 1246) (by decide +kernel), List.mem_of_getElem? (i := 1562) (by decide +kernel), List.mem_of_getElem? (i := 1563) (by decide +kernel)⟩
theorem lw_p53 : lw_okq (⟨"HalfDaysModel", "run", "(III)V"⟩, 56) := ⟨⟨by decide +kernel, by decide +kernel⟩, List.mem_of_getElem? (i := 1246) (by decide +kernel), List.mem_of_getElem? (i := 1566) (by decide +kernel), List.mem_of_getElem? (i := 1567) (by decide +kernel)⟩
theorem lw_p54 : lw_okq (⟨"HalfDaysModel", "reckon", "(IJJ)J"⟩, 56) := ⟨⟨by decide +kernel, by decide +kernel⟩, List.mem_of_getElem? (i := 1246) (by decide +kernel), List.mem_of_getElem? (i := 1570) (by decide +kernel), List.mem_of_getElem? (i := 1571) (by decide +kernel)⟩
theorem lw_p55 : lw_okq (⟨"HalfDaysModel", "countsIn", "(III)I"⟩, 56) := ⟨⟨by decide +kernel, by decide +kernel⟩, List.mem_of_getElem? (i := 1246) (by decide +kernel), List.mem_of_getElem? (i := 1576) (by decide +kernel), List.mem_of_getElem? (i := 1577) (by decide +kernel)⟩
theorem lw_p56 : lw_okq (⟨"HalfDaysModel", "four", "(I)V"⟩, 56) := ⟨⟨by decide +kernel, by decide +kernel⟩, List.mem_of_getElem? (i := 1246) (by decide +kernel), List.mem_of_getElem? (i := 1588) (by decide +kernel), List.mem_of_getElem? (i := 1589) (by decide +kernel)⟩
theorem lw_p57 : lw_okq (⟨"HalfDaysModel", "readText", "(I)Z"⟩, 56) := ⟨⟨by decide +kernel, by decide +kernel⟩, List.mem_of_getElem? (i := 1246) (by decide +kernel), List.mem_of_getElem? (i := 1604) (by decide +kernel), List.mem_of_getElem? (i := 1605) (by decide +kernel)⟩
theorem lw_p58 : lw_okq (⟨"HalfDaysModel", "begin", "()V"⟩, 56) := ⟨⟨by decide +kernel, by decide +kernel⟩, List.mem_of_getElem? (i := 1246) (by decide +kernel), List.mem_of_getElem? (i := 1608) (by decide +kernel), List.mem_of_getElem? (i := 1609) (by decide +kernel)⟩
theorem lw_p59 : lw_okq (⟨"HalfDaysModel", "next", "()V"⟩, 56) := ⟨⟨by decide +kernel, by decide +kernel⟩, List.mem_of_getElem? (i := 1246) (by decide +kernel), List.mem_of_getElem? (i := 1612) (by decide +kernel), List.mem_of_getElem? (i := 1613) (by decide +kernel)⟩
theorem lw_p60 : lw_okq (⟨"HalfDaysModel", "readClause", "()V"⟩, 56) := ⟨⟨by decide +kernel, by decide +kernel⟩, List.mem_of_getElem? (i := 1246) (by decide +kernel), List.mem_of_getElem? (i := 1627) (by decide +kernel), List.mem_of_getElem? (i := 1628) (by decide +kernel)⟩
theorem lw_p61 : lw_okq (⟨"HalfDaysModel", "headAt", "()I"⟩, 56) := ⟨⟨by decide +kernel, by decide +kernel⟩, List.mem_of_getElem? (i := 1246) (by decide +kernel), List.mem_of_getElem? (i := 1631) (by decide +kernel), List.mem_of_getElem? (i := 1632) (by decide +kernel)⟩
theorem lw_p62 : lw_okq (⟨"HalfDaysModel", "isWord", "(J)Z"⟩, 56) := ⟨⟨by decide +kernel, by decide +kernel⟩, List.mem_of_getElem? (i := 1246) (by decide +kernel), List.mem_of_getElem? (i := 1636) (by decide +kernel), List.mem_of_getElem? (i := 1637) (by decide +kernel)⟩
theorem lw_p63 : lw_okq (⟨"HalfDaysModel", "must", "(Z)V"⟩, 56) := ⟨⟨by decide +kernel, by decide +kernel⟩, List.mem_of_getElem? (i := 1246) (by decide +kernel), List.mem_of_getElem? (i := 1645) (by decide +kernel), List.mem_of_getElem? (i := 1646) (by decide +kernel)⟩
def lw_privs_4 : List (MethodName × Nat) := [(⟨"HalfDaysModel", "findForce", "(I)V"⟩, 56), (⟨"HalfDaysModel", "setFor", "(II)V"⟩, 56), (⟨"HalfDaysModel", "hasOn", "(III)Z"⟩, 56), (⟨"HalfDaysModel", "find", "(III)Z"⟩, 56), (⟨"HalfDaysModel", "isSo", "(II)Z"⟩, 56), (⟨"HalfDaysModel", "run", "(III)V"⟩, 56), (⟨"HalfDaysModel", "reckon", "(IJJ)J"⟩, 56), (⟨"HalfDaysModel", "countsIn", "(III)I"⟩, 56), (⟨"HalfDaysModel", "four", "(I)V"⟩, 56), (⟨"HalfDaysModel", "readText", "(I)Z"⟩, 56), (⟨"HalfDaysModel", "begin", "()V"⟩, 56), (⟨"HalfDaysModel", "next", "()V"⟩, 56), (⟨"HalfDaysModel", "readClause", "()V"⟩, 56), (⟨"HalfDaysModel", "headAt", "()I"⟩, 56), (⟨"HalfDaysModel", "isWord", "(J)Z"⟩, 56), (⟨"HalfDaysModel", "must", "(Z)V"⟩, 56)]
theorem lw_r4 : ∀ q ∈ lw_privs_4, lw_okq q := List.forall_mem_cons.mpr ⟨lw_p48, List.forall_mem_cons.mpr ⟨lw_p49, List.forall_mem_cons.mpr ⟨lw_p50, List.forall_mem_cons.mpr ⟨lw_p51, List.forall_mem_cons.mpr ⟨lw_p52, List.forall_mem_cons.mpr ⟨lw_p53, List.forall_mem_cons.mpr ⟨lw_p54, List.forall_mem_cons.mpr ⟨lw_p55, List.forall_mem_cons.mpr ⟨lw_p56, List.forall_mem_cons.mpr ⟨lw_p57, List.forall_mem_cons.mpr ⟨lw_p58, List.forall_mem_cons.mpr ⟨lw_p59, List.forall_mem_cons.mpr ⟨lw_p60, List.forall_mem_cons.mpr ⟨lw_p61, List.forall_mem_cons.mpr ⟨lw_p62, List.forall_mem_cons.mpr ⟨lw_p63, fun _ h => absurd h List.not_mem_nil⟩⟩⟩⟩⟩⟩⟩⟩⟩⟩⟩⟩⟩⟩⟩⟩
theorem lw_p64 : lw_okq (⟨"HalfDaysModel", "number", "(JJ)I"⟩, 56) := ⟨⟨by decide +kernel, by decide +kernel⟩, List.mem_of_getElem? (i := 1246) (by decide +kernel), List.mem_of_getElem? (i := 1650) (by decide +kernel), List.mem_of_getElem? (i := 1651) (by decide +kernel)⟩
theorem lw_p65 : lw_okq (⟨"HalfDaysModel", "letter", "()I"⟩, 56) := ⟨⟨by decide +kernel, by decide +kernel⟩, List.mem_of_getElem? (i := 1246) (by decide +kernel), List.mem_of_getElem? (i := 1656) (by decide +kernel), List.mem_of_getElem? (i := 1657) (by decide +kernel)⟩
theorem lw_p66 : lw_okq (⟨"HalfDaysModel", "kind", "()I"⟩, 56) := ⟨⟨by decide +kernel, by decide +kernel⟩, List.mem_of_getElem? (i := 1246) (by decide +kernel), List.mem_of_getElem? (i := 1660) (by decide +kernel), List.mem_of_getElem? (i := 1661) (by decide +kernel)⟩
theorem lw_p67 : lw_okq (⟨"HalfDaysModel", "readExpression", "(Z)V"⟩, 56) := ⟨⟨by decide +kernel, by decide +kernel⟩, List.mem_of_getElem? (i := 1246) (by decide +kernel), List.mem_of_getElem? (i := 1669) (by decide +kernel), List.mem_of_getElem? (i := 1670) (by decide +kernel)⟩
theorem lw_p68 : lw_okq (⟨"HalfDaysModel", "readPlain", "()I"⟩, 56) := ⟨⟨by decide +kernel, by decide +kernel⟩, List.mem_of_getElem? (i := 1246) (by decide +kernel), List.mem_of_getElem? (i := 1673) (by decide +kernel), List.mem_of_getElem? (i := 1674) (by decide +kernel)⟩
theorem lw_p69 : lw_okq (⟨"HalfDaysModel", "push", "(II)V"⟩, 56) := ⟨⟨by decide +kernel, by decide +kernel⟩, List.mem_of_getElem? (i := 1246) (by decide +kernel), List.mem_of_getElem? (i := 1678) (by decide +kernel), List.mem_of_getElem? (i := 1679) (by decide +kernel)⟩
theorem lw_p70 : lw_okq (⟨"HalfDaysModel", "isSign", "(I)Z"⟩, 56) := ⟨⟨by decide +kernel, by decide +kernel⟩, List.mem_of_getElem? (i := 1246) (by decide +kernel), List.mem_of_getElem? (i := 1682) (by decide +kernel), List.mem_of_getElem? (i := 1683) (by decide +kernel)⟩
theorem lw_p71 : lw_okq (⟨"HalfDaysModel", "open", "(I)V"⟩, 56) := ⟨⟨by decide +kernel, by decide +kernel⟩, List.mem_of_getElem? (i := 1246) (by decide +kernel), List.mem_of_getElem? (i := 1686) (by decide +kernel), List.mem_of_getElem? (i := 1687) (by decide +kernel)⟩
theorem lw_p72 : lw_okq (⟨"HalfDaysModel", "plainAt", "()I"⟩, 56) := ⟨⟨by decide +kernel, by decide +kernel⟩, List.mem_of_getElem? (i := 1246) (by decide +kernel), List.mem_of_getElem? (i := 1690) (by decide +kernel), List.mem_of_getElem? (i := 1691) (by decide +kernel)⟩
theorem lw_p73 : lw_okq (⟨"HalfDaysModel", "leaf", "(ZII)V"⟩, 56) := ⟨⟨by decide +kernel, by decide +kernel⟩, List.mem_of_getElem? (i := 1246) (by decide +kernel), List.mem_of_getElem? (i := 1698) (by decide +kernel), List.mem_of_getElem? (i := 1699) (by decide +kernel)⟩
theorem lw_p74 : lw_okq (⟨"HalfDaysModel", "emit", "(II)V"⟩, 56) := ⟨⟨by decide +kernel, by decide +kernel⟩, List.mem_of_getElem? (i := 1246) (by decide +kernel), List.mem_of_getElem? (i := 1702) (by decide +kernel), List.mem_of_getElem? (i := 1703) (by decide +kernel)⟩
theorem lw_p75 : lw_okq (⟨"HalfDaysModel", "readPart", "()I"⟩, 56) := ⟨⟨by decide +kernel, by decide +kernel⟩, List.mem_of_getElem? (i := 1246) (by decide +kernel), List.mem_of_getElem? (i := 1706) (by decide +kernel), List.mem_of_getElem? (i := 1707) (by decide +kernel)⟩
theorem lw_p76 : lw_okq (⟨"HalfDaysModel", "partAt", "()I"⟩, 56) := ⟨⟨by decide +kernel, by decide +kernel⟩, List.mem_of_getElem? (i := 1246) (by decide +kernel), List.mem_of_getElem? (i := 1710) (by decide +kernel), List.mem_of_getElem? (i := 1711) (by decide +kernel)⟩
theorem lw_p77 : lw_okq (⟨"HalfDaysModel", "behindSum", "(Z)I"⟩, 56) := ⟨⟨by decide +kernel, by decide +kernel⟩, List.mem_of_getElem? (i := 1246) (by decide +kernel), List.mem_of_getElem? (i := 1722) (by decide +kernel), List.mem_of_getElem? (i := 1723) (by decide +kernel)⟩
theorem lw_p78 : lw_okq (⟨"HalfDaysModel", "settle", "(I)V"⟩, 56) := ⟨⟨by decide +kernel, by decide +kernel⟩, List.mem_of_getElem? (i := 1246) (by decide +kernel), List.mem_of_getElem? (i := 1729) (by decide +kernel), List.mem_of_getElem? (i := 1730) (by decide +kernel)⟩
theorem lw_p79 : lw_okq (⟨"HalfDaysModel", "inner", "()I"⟩, 56) := ⟨⟨by decide +kernel, by decide +kernel⟩, List.mem_of_getElem? (i := 1246) (by decide +kernel), List.mem_of_getElem? (i := 1733) (by decide +kernel), List.mem_of_getElem? (i := 1734) (by decide +kernel)⟩
def lw_privs_5 : List (MethodName × Nat) := [(⟨"HalfDaysModel", "number", "(JJ)I"⟩, 56), (⟨"HalfDaysModel", "letter", "()I"⟩, 56), (⟨"HalfDaysModel", "kind", "()I"⟩, 56), (⟨"HalfDaysModel", "readExpression", "(Z)V"⟩, 56), (⟨"HalfDaysModel", "readPlain", "()I"⟩, 56), (⟨"HalfDaysModel", "push", "(II)V"⟩, 56), (⟨"HalfDaysModel", "isSign", "(I)Z"⟩, 56), (⟨"HalfDaysModel", "open", "(I)V"⟩, 56), (⟨"HalfDaysModel", "plainAt", "()I"⟩, 56), (⟨"HalfDaysModel", "leaf", "(ZII)V"⟩, 56), (⟨"HalfDaysModel", "emit", "(II)V"⟩, 56), (⟨"HalfDaysModel", "readPart", "()I"⟩, 56), (⟨"HalfDaysModel", "partAt", "()I"⟩, 56), (⟨"HalfDaysModel", "behindSum", "(Z)I"⟩, 56), (⟨"HalfDaysModel", "settle", "(I)V"⟩, 56), (⟨"HalfDaysModel", "inner", "()I"⟩, 56)]
theorem lw_r5 : ∀ q ∈ lw_privs_5, lw_okq q := List.forall_mem_cons.mpr ⟨lw_p64, List.forall_mem_cons.mpr ⟨lw_p65, List.forall_mem_cons.mpr ⟨lw_p66, List.forall_mem_cons.mpr ⟨lw_p67, List.forall_mem_cons.mpr ⟨lw_p68, List.forall_mem_cons.mpr ⟨lw_p69, List.forall_mem_cons.mpr ⟨lw_p70, List.forall_mem_cons.mpr ⟨lw_p71, List.forall_mem_cons.mpr ⟨lw_p72, List.forall_mem_cons.mpr ⟨lw_p73, List.forall_mem_cons.mpr ⟨lw_p74, List.forall_mem_cons.mpr ⟨lw_p75, List.forall_mem_cons.mpr ⟨lw_p76, List.forall_mem_cons.mpr ⟨lw_p77, List.forall_mem_cons.mpr ⟨lw_p78, List.forall_mem_cons.mpr ⟨lw_p79, fun _ h => absurd h List.not_mem_nil⟩⟩⟩⟩⟩⟩⟩⟩⟩⟩⟩⟩⟩⟩⟩⟩
theorem lw_p80 : lw_okq (⟨"HalfDaysModel", "isCompared", "()Z"⟩, 56) := ⟨⟨by decide +kernel, by decide +kernel⟩, List.mem_of_getElem? (i := 1246) (by decide +kernel), List.mem_of_getElem? (i := 1737) (by decide +kernel), List.mem_of_getElem? (i := 1738) (by decide +kernel)⟩
theorem lw_p81 : lw_okq (⟨"HalfDaysModel", "behindTest", "()I"⟩, 56) := ⟨⟨by decide +kernel, by decide +kernel⟩, List.mem_of_getElem? (i := 1246) (by decide +kernel), List.mem_of_getElem? (i := 1745) (by decide +kernel), List.mem_of_getElem? (i := 1746) (by decide +kernel)⟩
theorem lw_p82 : lw_okq (⟨"HalfDaysModel", "addUp", "(IIII)V"⟩, 56) := ⟨⟨by decide +kernel, by decide +kernel⟩, List.mem_of_getElem? (i := 1246) (by decide +kernel), List.mem_of_getElem? (i := 1763) (by decide +kernel), List.mem_of_getElem? (i := 1764) (by decide +kernel)⟩
theorem lw_p83 : lw_okq (⟨"HalfDaysModel", "tellRate", "(I)I"⟩, 56) := ⟨⟨by decide +kernel, by decide +kernel⟩, List.mem_of_getElem? (i := 1246) (by decide +kernel), List.mem_of_getElem? (i := 1767) (by decide +kernel), List.mem_of_getElem? (i := 1768) (by decide +kernel)⟩
theorem lw_p84 : lw_okq (⟨"HalfDaysModel", "findSessions", "(I)V"⟩, 56) := ⟨⟨by decide +kernel, by decide +kernel⟩, List.mem_of_getElem? (i := 1246) (by decide +kernel), List.mem_of_getElem? (i := 1785) (by decide +kernel), List.mem_of_getElem? (i := 1786) (by decide +kernel)⟩
theorem lw_p85 : lw_okq (⟨"HalfDaysModel", "dueOf", "(III)I"⟩, 56) := ⟨⟨by decide +kernel, by decide +kernel⟩, List.mem_of_getElem? (i := 1246) (by decide +kernel), List.mem_of_getElem? (i := 1789) (by decide +kernel), List.mem_of_getElem? (i := 1790) (by decide +kernel)⟩
theorem lw_p86 : lw_okq (⟨"HalfDaysModel", "setDay", "(II)V"⟩, 56) := ⟨⟨by decide +kernel, by decide +kernel⟩, List.mem_of_getElem? (i := 1246) (by decide +kernel), List.mem_of_getElem? (i := 1793) (by decide +kernel), List.mem_of_getElem? (i := 1794) (by decide +kernel)⟩
theorem lw_p87 : lw_okq (⟨"HalfDaysModel", "takenOn", "(II)I"⟩, 56) := ⟨⟨by decide +kernel, by decide +kernel⟩, List.mem_of_getElem? (i := 1246) (by decide +kernel), List.mem_of_getElem? (i := 1801) (by decide +kernel), List.mem_of_getElem? (i := 1802) (by decide +kernel)⟩
theorem lw_p88 : lw_okq (⟨"HalfDaysModel", "dueFrom", "(II)I"⟩, 56) := ⟨⟨by decide +kernel, by decide +kernel⟩, List.mem_of_getElem? (i := 1246) (by decide +kernel), List.mem_of_getElem? (i := 1805) (by decide +kernel), List.mem_of_getElem? (i := 1806) (by decide +kernel)⟩
theorem lw_p89 : lw_okq (⟨"HalfDaysModel", "doesStand", "(III)Z"⟩, 56) := ⟨⟨by decide +kernel, by decide +kernel⟩, List.mem_of_getElem? (i := 1246) (by decide +kernel), List.mem_of_getElem? (i := 1813) (by decide +kernel), List.mem_of_getElem? (i := 1814) (by decide +kernel)⟩
theorem lw_p90 : lw_okq (⟨"HalfDaysModel", "fineOf", "(II)I"⟩, 56) := ⟨⟨by decide +kernel, by decide +kernel⟩, List.mem_of_getElem? (i := 1246) (by decide +kernel), List.mem_of_getElem? (i := 1821) (by decide +kernel), List.mem_of_getElem? (i := 1822) (by decide +kernel)⟩
theorem lw_p91 : lw_okq (⟨"HalfDaysModel", "rollsOf", "(II)I"⟩, 56) := ⟨⟨by decide +kernel, by decide +kernel⟩, List.mem_of_getElem? (i := 1246) (by decide +kernel), List.mem_of_getElem? (i := 1840) (by decide +kernel), List.mem_of_getElem? (i := 1841) (by decide +kernel)⟩
theorem lw_p92 : lw_okq (⟨"HalfDaysModel", "isLost", "(II)Z"⟩, 56) := ⟨⟨by decide +kernel, by decide +kernel⟩, List.mem_of_getElem? (i := 1246) (by decide +kernel), List.mem_of_getElem? (i := 1844) (by decide +kernel), List.mem_of_getElem? (i := 1845) (by decide +kernel)⟩
theorem lw_p93 : lw_okq (⟨"HalfDaysModel", "isJoin", "(I)Z"⟩, 56) := ⟨⟨by decide +kernel, by decide +kernel⟩, List.mem_of_getElem? (i := 1246) (by decide +kernel), List.mem_of_getElem? (i := 1866) (by decide +kernel), List.mem_of_getElem? (i := 1867) (by decide +kernel)⟩
theorem lw_p94 : lw_okq (⟨"HalfDaysModel", "likeOf", "(II)I"⟩, 56) := ⟨⟨by decide +kernel, by decide +kernel⟩, List.mem_of_getElem? (i := 1246) (by decide +kernel), List.mem_of_getElem? (i := 1870) (by decide +kernel), List.mem_of_getElem? (i := 1871) (by decide +kernel)⟩
theorem lw_p95 : lw_okq (⟨"HalfDaysModel", "cannotBe", "(I)Z"⟩, 56) := ⟨⟨by decide +kernel, by decide +kernel⟩, List.mem_of_getElem? (i := 1246) (by decide +kernel), List.mem_of_getElem? (i := 1886) (by decide +kernel), List.mem_of_getElem? (i := 1887) (by decide +kernel)⟩
def lw_privs_6 : List (MethodName × Nat) := [(⟨"HalfDaysModel", "isCompared", "()Z"⟩, 56), (⟨"HalfDaysModel", "behindTest", "()I"⟩, 56), (⟨"HalfDaysModel", "addUp", "(IIII)V"⟩, 56), (⟨"HalfDaysModel", "tellRate", "(I)I"⟩, 56), (⟨"HalfDaysModel", "findSessions", "(I)V"⟩, 56), (⟨"HalfDaysModel", "dueOf", "(III)I"⟩, 56), (⟨"HalfDaysModel", "setDay", "(II)V"⟩, 56), (⟨"HalfDaysModel", "takenOn", "(II)I"⟩, 56), (⟨"HalfDaysModel", "dueFrom", "(II)I"⟩, 56), (⟨"HalfDaysModel", "doesStand", "(III)Z"⟩, 56), (⟨"HalfDaysModel", "fineOf", "(II)I"⟩, 56), (⟨"HalfDaysModel", "rollsOf", "(II)I"⟩, 56), (⟨"HalfDaysModel", "isLost", "(II)Z"⟩, 56), (⟨"HalfDaysModel", "isJoin", "(I)Z"⟩, 56), (⟨"HalfDaysModel", "likeOf", "(II)I"⟩, 56), (⟨"HalfDaysModel", "cannotBe", "(I)Z"⟩, 56)]
theorem lw_r6 : ∀ q ∈ lw_privs_6, lw_okq q := List.forall_mem_cons.mpr ⟨lw_p80, List.forall_mem_cons.mpr ⟨lw_p81, List.forall_mem_cons.mpr ⟨lw_p82, List.forall_mem_cons.mpr ⟨lw_p83, List.forall_mem_cons.mpr ⟨lw_p84, List.forall_mem_cons.mpr ⟨lw_p85, List.forall_mem_cons.mpr ⟨lw_p86, List.forall_mem_cons.mpr ⟨lw_p87, List.forall_mem_cons.mpr ⟨lw_p88, List.forall_mem_cons.mpr ⟨lw_p89, List.forall_mem_cons.mpr ⟨lw_p90, List.forall_mem_cons.mpr ⟨lw_p91, List.forall_mem_cons.mpr ⟨lw_p92, List.forall_mem_cons.mpr ⟨lw_p93, List.forall_mem_cons.mpr ⟨lw_p94, List.forall_mem_cons.mpr ⟨lw_p95, fun _ h => absurd h List.not_mem_nil⟩⟩⟩⟩⟩⟩⟩⟩⟩⟩⟩⟩⟩⟩⟩⟩
theorem lw_p96 : lw_okq (⟨"HalfDaysModel", "findWays", "(II)V"⟩, 56) := ⟨⟨by decide +kernel, by decide +kernel⟩, List.mem_of_getElem? (i := 1246) (by decide +kernel), List.mem_of_getElem? (i := 1901) (by decide +kernel), List.mem_of_getElem? (i := 1902) (by decide +kernel)⟩
theorem lw_p97 : lw_okq (⟨"HalfDaysModel", "far", "(III)I"⟩, 56) := ⟨⟨by decide +kernel, by decide +kernel⟩, List.mem_of_getElem? (i := 1246) (by decide +kernel), List.mem_of_getElem? (i := 1905) (by decide +kernel), List.mem_of_getElem? (i := 1906) (by decide +kernel)⟩
theorem lw_p98 : lw_okq (⟨"HalfDaysModel", "between", "(II)I"⟩, 56) := ⟨⟨by decide +kernel, by decide +kernel⟩, List.mem_of_getElem? (i := 1246) (by decide +kernel), List.mem_of_getElem? (i := 1910) (by decide +kernel), List.mem_of_getElem? (i := 1911) (by decide +kernel)⟩
theorem lw_p99 : lw_okq (⟨"HalfDaysModel", "minutesOf", "(III)I"⟩, 56) := ⟨⟨by decide +kernel, by decide +kernel⟩, List.mem_of_getElem? (i := 1246) (by decide +kernel), List.mem_of_getElem? (i := 1914) (by decide +kernel), List.mem_of_getElem? (i := 1915) (by decide +kernel)⟩
theorem lw_p100 : lw_okq (⟨"HalfDaysModel", "addDay", "(I)V"⟩, 56) := ⟨⟨by decide +kernel, by decide +kernel⟩, List.mem_of_getElem? (i := 1246) (by decide +kernel), List.mem_of_getElem? (i := 1941) (by decide +kernel), List.mem_of_getElem? (i := 1942) (by decide +kernel)⟩
def lw_privs_7 : List (MethodName × Nat) := [(⟨"HalfDaysModel", "findWays", "(II)V"⟩, 56), (⟨"HalfDaysModel", "far", "(III)I"⟩, 56), (⟨"HalfDaysModel", "between", "(II)I"⟩, 56), (⟨"HalfDaysModel", "minutesOf", "(III)I"⟩, 56), (⟨"HalfDaysModel", "addDay", "(I)V"⟩, 56)]
theorem lw_r7 : ∀ q ∈ lw_privs_7, lw_okq q := List.forall_mem_cons.mpr ⟨lw_p96, List.forall_mem_cons.mpr ⟨lw_p97, List.forall_mem_cons.mpr ⟨lw_p98, List.forall_mem_cons.mpr ⟨lw_p99, List.forall_mem_cons.mpr ⟨lw_p100, fun _ h => absurd h List.not_mem_nil⟩⟩⟩⟩⟩
def lw_privs : List (MethodName × Nat) := lw_privs_1 ++ (lw_privs_2 ++ (lw_privs_3 ++ (lw_privs_4 ++ (lw_privs_5 ++ (lw_privs_6 ++ (lw_privs_7))))))
def lw_tbl : List Cond := k2_sels lw_privs ++ tables_1
theorem lw_privs_ok : ∀ q ∈ lw_privs, lw_okq q := by
  show ∀ q ∈ lw_privs_1 ++ (lw_privs_2 ++ (lw_privs_3 ++ (lw_privs_4 ++ (lw_privs_5 ++ (lw_privs_6 ++ (lw_privs_7)))))), lw_okq q
  exact List.forall_mem_append.mpr ⟨lw_r1, List.forall_mem_append.mpr ⟨lw_r2, List.forall_mem_append.mpr ⟨lw_r3, List.forall_mem_append.mpr ⟨lw_r4, List.forall_mem_append.mpr ⟨lw_r5, List.forall_mem_append.mpr ⟨lw_r6, lw_r7⟩⟩⟩⟩⟩⟩
end
section
def RX0 : String := "HalfDays$Acts"
def TX0 : u_T := fun k => match k with
  | 0 => ("HalfDays$Acts", "texts", "I", false)
  | 1 => ("HalfDays$Acts", "text", "[LHalfDays$Text;", true)
  | _ => ("HalfDays$Acts", "from", "[I", true)
def tyX0 : Nat → FieldType := fun k => match k with
  | 0 => .int
  | 1 => .array (.object "HalfDays$Text")
  | _ => .array .int
abbrev wsX00 : List Cond := u_ws RX0 TX0 3
theorem nmX0 : ∀ a, a < 3 → ∀ b, b < 3 → a ≠ b → (TX0 a).2.1 ≠ (TX0 b).2.1 := by decide +kernel
theorem tyX0_ok : ∀ k, k < 3 → parseFieldDescriptor (TX0 k).2.2.1 = some (tyX0 k) := by decide +kernel
def RX1 : String := "HalfDays$Asker"
def TX1 : u_T := fun k => match k with
  | 0 => ("HalfDays$Asker", "county", "LHalfDays$County;", true)
  | 1 => ("HalfDays$Asker", "stack", "[J", true)
  | 2 => ("HalfDays$Asker", "struck", "[I", true)
  | 3 => ("HalfDays$Asker", "kinds", "[I", true)
  | 4 => ("HalfDays$Asker", "awayAhead", "[I", true)
  | 5 => ("HalfDays$Asker", "possibleAhead", "[I", true)
  | 6 => ("HalfDays$Asker", "weekPossible", "[I", true)
  | 7 => ("HalfDays$Asker", "weekAway", "[I", true)
  | 8 => ("HalfDays$Asker", "askedChild", "I", false)
  | 9 => ("HalfDays$Asker", "askedHalf", "I", false)
  | 10 => ("HalfDays$Asker", "askedMinutes", "I", false)
  | 11 => ("HalfDays$Asker", "askedSchool", "I", false)
  | 12 => ("HalfDays$Asker", "sessionsAsked", "Z", false)
  | 13 => ("HalfDays$Asker", "possible", "I", false)
  | 14 => ("HalfDays$Asker", "away", "I", false)
  | 15 => ("HalfDays$Asker", "textFound", "I", false)
  | 16 => ("HalfDays$Asker", "clauseFound", "I", false)
  | 17 => ("HalfDays$Asker", "sum", "I", false)
  | _ => ("HalfDays$Asker", "value", "I", false)
def tyX1 : Nat → FieldType := fun k => match k with
  | 0 => .object "HalfDays$County"
  | 1 => .array .long
  | 2 => .array .int
  | 3 => .array .int
  | 4 => .array .int
  | 5 => .array .int
  | 6 => .array .int
  | 7 => .array .int
  | 8 => .int
  | 9 => .int
  | 10 => .int
  | 11 => .int
  | 12 => .boolean
  | 13 => .int
  | 14 => .int
  | 15 => .int
  | 16 => .int
  | 17 => .int
  | _ => .int
abbrev wsX10 : List Cond := u_ws RX1 TX1 19
theorem nmX1 : ∀ a, a < 19 → ∀ b, b < 19 → a ≠ b → (TX1 a).2.1 ≠ (TX1 b).2.1 := by decide +kernel
theorem tyX1_ok : ∀ k, k < 19 → parseFieldDescriptor (TX1 k).2.2.1 = some (tyX1 k) := by decide +kernel
def RX2 : String := "HalfDays$Choices"
def TX2 : u_T := fun k => match k with
  | 0 => ("HalfDays$Choices", "people", "LHalfDays$People;", true)
  | 1 => ("HalfDays$Choices", "lists", "LHalfDays$Lists;", true)
  | 2 => ("HalfDays$Choices", "row", "[I", true)
  | 3 => ("HalfDays$Choices", "rowLength", "I", false)
  | 4 => ("HalfDays$Choices", "rivals", "I", false)
  | 5 => ("HalfDays$Choices", "like", "[I", true)
  | 6 => ("HalfDays$Choices", "joinScore", "[I", true)
  | 7 => ("HalfDays$Choices", "joinWays", "[I", true)
  | 8 => ("HalfDays$Choices", "roundBits", "I", false)
  | 9 => ("HalfDays$Choices", "roundWorth", "I", false)
  | 10 => ("HalfDays$Choices", "roundMinutes", "I", false)
  | 11 => ("HalfDays$Choices", "way", "[I", true)
  | 12 => ("HalfDays$Choices", "officeWay", "[I", true)
  | _ => ("HalfDays$Choices", "bySet", "[I", true)
def tyX2 : Nat → FieldType := fun k => match k with
  | 0 => .object "HalfDays$People"
  | 1 => .object "HalfDays$Lists"
  | 2 => .array .int
  | 3 => .int
  | 4 => .int
  | 5 => .array .int
  | 6 => .array .int
  | 7 => .array .int
  | 8 => .int
  | 9 => .int
  | 10 => .int
  | 11 => .array .int
  | 12 => .array .int
  | _ => .array .int
abbrev wsX20 : List Cond := u_ws RX2 TX2 14
theorem nmX2 : ∀ a, a < 14 → ∀ b, b < 14 → a ≠ b → (TX2 a).2.1 ≠ (TX2 b).2.1 := by decide +kernel
theorem tyX2_ok : ∀ k, k < 14 → parseFieldDescriptor (TX2 k).2.2.1 = some (tyX2 k) := by decide +kernel
def RX3 : String := "HalfDays$County"
def TX3 : u_T := fun k => match k with
  | 0 => ("HalfDays$County", "people", "LHalfDays$People;", true)
  | 1 => ("HalfDays$County", "rolls", "LHalfDays$Rolls;", true)
  | 2 => ("HalfDays$County", "marks", "LHalfDays$Marks;", true)
  | 3 => ("HalfDays$County", "acts", "LHalfDays$Acts;", true)
  | 4 => ("HalfDays$County", "steps", "LHalfDays$Steps;", true)
  | _ => ("HalfDays$County", "lists", "LHalfDays$Lists;", true)
def tyX3 : Nat → FieldType := fun k => match k with
  | 0 => .object "HalfDays$People"
  | 1 => .object "HalfDays$Rolls"
  | 2 => .object "HalfDays$Marks"
  | 3 => .object "HalfDays$Acts"
  | 4 => .object "HalfDays$Steps"
  | _ => .object "HalfDays$Lists"
abbrev wsX30 : List Cond := u_ws RX3 TX3 6
theorem nmX3 : ∀ a, a < 6 → ∀ b, b < 6 → a ≠ b → (TX3 a).2.1 ≠ (TX3 b).2.1 := by decide +kernel
theorem tyX3_ok : ∀ k, k < 6 → parseFieldDescriptor (TX3 k).2.2.1 = some (tyX3 k) := by decide +kernel
def RX4 : String := "HalfDays$Lists"
def TX4 : u_T := fun k => match k with
  | 0 => ("HalfDays$Lists", "records", "I", false)
  | 1 => ("HalfDays$Lists", "recordMarks", "[I", true)
  | 2 => ("HalfDays$Lists", "missed", "I", false)
  | 3 => ("HalfDays$Lists", "missingChild", "[I", true)
  | 4 => ("HalfDays$Lists", "missingMarks", "[I", true)
  | 5 => ("HalfDays$Lists", "visits", "I", false)
  | 6 => ("HalfDays$Lists", "visitChild", "[I", true)
  | 7 => ("HalfDays$Lists", "visitMinutes", "[I", true)
  | 8 => ("HalfDays$Lists", "visitWorth", "[I", true)
  | 9 => ("HalfDays$Lists", "drawn", "I", false)
  | 10 => ("HalfDays$Lists", "drawnChild", "[I", true)
  | 11 => ("HalfDays$Lists", "drawnGot", "[I", true)
  | _ => ("HalfDays$Lists", "drawnDid", "[I", true)
def tyX4 : Nat → FieldType := fun k => match k with
  | 0 => .int
  | 1 => .array .int
  | 2 => .int
  | 3 => .array .int
  | 4 => .array .int
  | 5 => .int
  | 6 => .array .int
  | 7 => .array .int
  | 8 => .array .int
  | 9 => .int
  | 10 => .array .int
  | 11 => .array .int
  | _ => .array .int
abbrev wsX40 : List Cond := u_ws RX4 TX4 13
theorem nmX4 : ∀ a, a < 13 → ∀ b, b < 13 → a ≠ b → (TX4 a).2.1 ≠ (TX4 b).2.1 := by decide +kernel
theorem tyX4_ok : ∀ k, k < 13 → parseFieldDescriptor (TX4 k).2.2.1 = some (tyX4 k) := by decide +kernel
def RX5 : String := "HalfDays$Marks"
def TX5 : u_T := fun k => match k with
  | 0 => ("HalfDays$Marks", "marks", "I", false)
  | 1 => ("HalfDays$Marks", "school", "[I", true)
  | 2 => ("HalfDays$Marks", "child", "[I", true)
  | 3 => ("HalfDays$Marks", "half", "[I", true)
  | 4 => ("HalfDays$Marks", "letter", "[I", true)
  | 5 => ("HalfDays$Marks", "minutes", "[I", true)
  | 6 => ("HalfDays$Marks", "known", "[I", true)
  | 7 => ("HalfDays$Marks", "granted", "[I", true)
  | 8 => ("HalfDays$Marks", "grantedFrom", "[I", true)
  | 9 => ("HalfDays$Marks", "next", "[I", true)
  | 10 => ("HalfDays$Marks", "sealedMarks", "[I", true)
  | 11 => ("HalfDays$Marks", "sealedSum", "[I", true)
  | 12 => ("HalfDays$Marks", "sealedPlaces", "[I", true)
  | 13 => ("HalfDays$Marks", "daySum", "I", false)
  | _ => ("HalfDays$Marks", "dayPlaces", "I", false)
def tyX5 : Nat → FieldType := fun k => match k with
  | 0 => .int
  | 1 => .array .int
  | 2 => .array .int
  | 3 => .array .int
  | 4 => .array .int
  | 5 => .array .int
  | 6 => .array .int
  | 7 => .array .int
  | 8 => .array .int
  | 9 => .array .int
  | 10 => .array .int
  | 11 => .array .int
  | 12 => .array .int
  | 13 => .int
  | _ => .int
abbrev wsX50 : List Cond := u_ws RX5 TX5 15
theorem nmX5 : ∀ a, a < 15 → ∀ b, b < 15 → a ≠ b → (TX5 a).2.1 ≠ (TX5 b).2.1 := by decide +kernel
theorem tyX5_ok : ∀ k, k < 15 → parseFieldDescriptor (TX5 k).2.2.1 = some (tyX5 k) := by decide +kernel
def RX6 : String := "HalfDays$People"
def TX6 : u_T := fun k => match k with
  | 0 => ("HalfDays$People", "children", "I", false)
  | 1 => ("HalfDays$People", "born", "[I", true)
  | 2 => ("HalfDays$People", "carer", "[I", true)
  | 3 => ("HalfDays$People", "route", "[I", true)
  | 4 => ("HalfDays$People", "x", "[I", true)
  | 5 => ("HalfDays$People", "y", "[I", true)
  | 6 => ("HalfDays$People", "schools", "I", false)
  | 7 => ("HalfDays$People", "shutOn", "[I", true)
  | 8 => ("HalfDays$People", "buses", "I", false)
  | 9 => ("HalfDays$People", "busRoute", "[I", true)
  | 10 => ("HalfDays$People", "busHalf", "[I", true)
  | 11 => ("HalfDays$People", "spans", "[I", true)
  | 12 => ("HalfDays$People", "spanChild", "[I", true)
  | 13 => ("HalfDays$People", "spanFrom", "[I", true)
  | _ => ("HalfDays$People", "spanTo", "[I", true)
def tyX6 : Nat → FieldType := fun k => match k with
  | 0 => .int
  | 1 => .array .int
  | 2 => .array .int
  | 3 => .array .int
  | 4 => .array .int
  | 5 => .array .int
  | 6 => .int
  | 7 => .array .int
  | 8 => .int
  | 9 => .array .int
  | 10 => .array .int
  | 11 => .array .int
  | 12 => .array .int
  | 13 => .array .int
  | _ => .array .int
abbrev wsX60 : List Cond := u_ws RX6 TX6 15
theorem nmX6 : ∀ a, a < 15 → ∀ b, b < 15 → a ≠ b → (TX6 a).2.1 ≠ (TX6 b).2.1 := by decide +kernel
theorem tyX6_ok : ∀ k, k < 15 → parseFieldDescriptor (TX6 k).2.2.1 = some (tyX6 k) := by decide +kernel
def RX7 : String := "HalfDays$Reader"
def TX7 : u_T := fun k => match k with
  | 0 => ("HalfDays$Reader", "tape", "[I", true)
  | 1 => ("HalfDays$Reader", "length", "I", false)
  | 2 => ("HalfDays$Reader", "fault", "I", false)
  | 3 => ("HalfDays$Reader", "clauses", "I", false)
  | 4 => ("HalfDays$Reader", "key", "[I", true)
  | 5 => ("HalfDays$Reader", "value", "[I", true)
  | 6 => ("HalfDays$Reader", "at", "[I", true)
  | 7 => ("HalfDays$Reader", "code", "[I", true)
  | 8 => ("HalfDays$Reader", "codeLength", "I", false)
  | 9 => ("HalfDays$Reader", "leaves", "I", false)
  | 10 => ("HalfDays$Reader", "tokenKind", "I", false)
  | 11 => ("HalfDays$Reader", "tokenStart", "I", false)
  | 12 => ("HalfDays$Reader", "tokenEnd", "I", false)
  | 13 => ("HalfDays$Reader", "number", "I", false)
  | 14 => ("HalfDays$Reader", "word", "J", false)
  | _ => ("HalfDays$Reader", "sign", "I", false)
def tyX7 : Nat → FieldType := fun k => match k with
  | 0 => .array .int
  | 1 => .int
  | 2 => .int
  | 3 => .int
  | 4 => .array .int
  | 5 => .array .int
  | 6 => .array .int
  | 7 => .array .int
  | 8 => .int
  | 9 => .int
  | 10 => .int
  | 11 => .int
  | 12 => .int
  | 13 => .int
  | 14 => .long
  | _ => .int
abbrev wsX70 : List Cond := u_ws RX7 TX7 16
theorem nmX7 : ∀ a, a < 16 → ∀ b, b < 16 → a ≠ b → (TX7 a).2.1 ≠ (TX7 b).2.1 := by decide +kernel
theorem tyX7_ok : ∀ k, k < 16 → parseFieldDescriptor (TX7 k).2.2.1 = some (tyX7 k) := by decide +kernel
def RX8 : String := "HalfDays$Rolls"
def TX8 : u_T := fun k => match k with
  | 0 => ("HalfDays$Rolls", "entries", "I", false)
  | 1 => ("HalfDays$Rolls", "child", "[I", true)
  | 2 => ("HalfDays$Rolls", "school", "[I", true)
  | 3 => ("HalfDays$Rolls", "first", "[I", true)
  | 4 => ("HalfDays$Rolls", "gone", "[I", true)
  | _ => ("HalfDays$Rolls", "whither", "[I", true)
def tyX8 : Nat → FieldType := fun k => match k with
  | 0 => .int
  | 1 => .array .int
  | 2 => .array .int
  | 3 => .array .int
  | 4 => .array .int
  | _ => .array .int
abbrev wsX80 : List Cond := u_ws RX8 TX8 6
theorem nmX8 : ∀ a, a < 6 → ∀ b, b < 6 → a ≠ b → (TX8 a).2.1 ≠ (TX8 b).2.1 := by decide +kernel
theorem tyX8_ok : ∀ k, k < 6 → parseFieldDescriptor (TX8 k).2.2.1 = some (tyX8 k) := by decide +kernel
def RX9 : String := "HalfDays$Steps"
def TX9 : u_T := fun k => match k with
  | 0 => ("HalfDays$Steps", "taken", "[I", true)
  | 1 => ("HalfDays$Steps", "paidOn", "[I", true)
  | _ => ("HalfDays$Steps", "paid", "[I", true)
def tyX9 : Nat → FieldType := fun k => match k with
  | 0 => .array .int
  | 1 => .array .int
  | _ => .array .int
abbrev wsX90 : List Cond := u_ws RX9 TX9 3
theorem nmX9 : ∀ a, a < 3 → ∀ b, b < 3 → a ≠ b → (TX9 a).2.1 ≠ (TX9 b).2.1 := by decide +kernel
theorem tyX9_ok : ∀ k, k < 3 → parseFieldDescriptor (TX9 k).2.2.1 = some (tyX9 k) := by decide +kernel
def RX10 : String := "HalfDays$Text"
def TX10 : u_T := fun k => match k with
  | 0 => ("HalfDays$Text", "clauses", "I", true)
  | 1 => ("HalfDays$Text", "strikes", "I", true)
  | 2 => ("HalfDays$Text", "key", "[I", true)
  | 3 => ("HalfDays$Text", "value", "[I", true)
  | 4 => ("HalfDays$Text", "at", "[I", true)
  | _ => ("HalfDays$Text", "code", "[I", true)
def tyX10 : Nat → FieldType := fun k => match k with
  | 0 => .int
  | 1 => .int
  | 2 => .array .int
  | 3 => .array .int
  | 4 => .array .int
  | _ => .array .int
abbrev wsX100 : List Cond := u_ws RX10 TX10 6
theorem nmX10 : ∀ a, a < 6 → ∀ b, b < 6 → a ≠ b → (TX10 a).2.1 ≠ (TX10 b).2.1 := by decide +kernel
theorem tyX10_ok : ∀ k, k < 6 → parseFieldDescriptor (TX10 k).2.2.1 = some (tyX10 k) := by decide +kernel
def RX11 : String := "HalfDays"
def TX11 : u_T := fun k => match k with
  | 0 => ("HalfDays", "now", "LHalfDays$County;", true)
  | 1 => ("HalfDays", "images", "[LHalfDays$County;", true)
  | 2 => ("HalfDays", "reader", "LHalfDays$Reader;", true)
  | 3 => ("HalfDays", "asker", "LHalfDays$Asker;", true)
  | 4 => ("HalfDays", "choices", "LHalfDays$Choices;", true)
  | _ => ("HalfDays", "refusal", "I", false)
def tyX11 : Nat → FieldType := fun k => match k with
  | 0 => .object "HalfDays$County"
  | 1 => .array (.object "HalfDays$County")
  | 2 => .object "HalfDays$Reader"
  | 3 => .object "HalfDays$Asker"
  | 4 => .object "HalfDays$Choices"
  | _ => .int
abbrev wsX110 : List Cond := u_ws RX11 TX11 6
theorem nmX11 : ∀ a, a < 6 → ∀ b, b < 6 → a ≠ b → (TX11 a).2.1 ≠ (TX11 b).2.1 := by decide +kernel
theorem tyX11_ok : ∀ k, k < 6 → parseFieldDescriptor (TX11 k).2.2.1 = some (tyX11 k) := by decide +kernel
def RX12 : String := "HalfDaysModel"
def TX12 : u_T := fun k => match k with
  | 0 => ("HalfDaysModel", "thrown", "I", false)
  | 1 => ("HalfDaysModel", "status", "I", false)
  | 2 => ("HalfDaysModel", "row", "[I", true)
  | 3 => ("HalfDaysModel", "images", "[I", true)
  | 4 => ("HalfDaysModel", "isKept", "[Z", true)
  | 5 => ("HalfDaysModel", "known", "I", false)
  | 6 => ("HalfDaysModel", "doesCount", "[Z", true)
  | 7 => ("HalfDaysModel", "letterOf", "[I", true)
  | 8 => ("HalfDaysModel", "kindOf", "[I", true)
  | 9 => ("HalfDaysModel", "clauseOf", "[I", true)
  | 10 => ("HalfDaysModel", "tape", "[I", true)
  | 11 => ("HalfDaysModel", "taped", "I", false)
  | 12 => ("HalfDaysModel", "from", "I", false)
  | 13 => ("HalfDaysModel", "to", "I", false)
  | 14 => ("HalfDaysModel", "sort", "I", false)
  | 15 => ("HalfDaysModel", "worth", "J", false)
  | 16 => ("HalfDaysModel", "fault", "I", false)
  | 17 => ("HalfDaysModel", "bad", "Z", false)
  | 18 => ("HalfDaysModel", "nClauses", "I", false)
  | 19 => ("HalfDaysModel", "nClause", "[I", true)
  | 20 => ("HalfDaysModel", "nCode", "I", false)
  | 21 => ("HalfDaysModel", "nOp", "[I", true)
  | 22 => ("HalfDaysModel", "nArg", "[I", true)
  | 23 => ("HalfDaysModel", "nLeaves", "I", false)
  | 24 => ("HalfDaysModel", "pile", "[I", true)
  | 25 => ("HalfDaysModel", "pileAt", "[I", true)
  | 26 => ("HalfDaysModel", "piled", "I", false)
  | 27 => ("HalfDaysModel", "opened", "I", false)
  | 28 => ("HalfDaysModel", "isOnText", "[Z", true)
  | 29 => ("HalfDaysModel", "isStruck", "[Z", true)
  | 30 => ("HalfDaysModel", "set", "[J", true)
  | 31 => ("HalfDaysModel", "rest", "[J", true)
  | 32 => ("HalfDaysModel", "broken", "Z", false)
  | 33 => ("HalfDaysModel", "value", "J", false)
  | 34 => ("HalfDaysModel", "sum", "J", false)
  | 35 => ("HalfDaysModel", "second", "I", false)
  | 36 => ("HalfDaysModel", "by", "I", false)
  | 37 => ("HalfDaysModel", "possible", "I", false)
  | 38 => ("HalfDaysModel", "away", "I", false)
  | 39 => ("HalfDaysModel", "possibleTo", "[I", true)
  | 40 => ("HalfDaysModel", "awayTo", "[I", true)
  | 41 => ("HalfDaysModel", "quick", "I", false)
  | 42 => ("HalfDaysModel", "hasJoin", "Z", false)
  | 43 => ("HalfDaysModel", "joinMany", "I", false)
  | 44 => ("HalfDaysModel", "joinRivals", "I", false)
  | 45 => ("HalfDaysModel", "joinRow", "[I", true)
  | 46 => ("HalfDaysModel", "joinNow", "[I", true)
  | 47 => ("HalfDaysModel", "likes", "I", false)
  | 48 => ("HalfDaysModel", "joins", "I", false)
  | 49 => ("HalfDaysModel", "ways", "[I", true)
  | 50 => ("HalfDaysModel", "possibleOf", "[I", true)
  | 51 => ("HalfDaysModel", "awayOf", "[I", true)
  | 52 => ("HalfDaysModel", "kindWas", "[I", true)
  | 53 => ("HalfDaysModel", "sealMany", "I", false)
  | 54 => ("HalfDaysModel", "sealSum", "I", false)
  | _ => ("HalfDaysModel", "sealPlaces", "I", false)
def tyX12 : Nat → FieldType := fun k => match k with
  | 0 => .int
  | 1 => .int
  | 2 => .array .int
  | 3 => .array .int
  | 4 => .array .boolean
  | 5 => .int
  | 6 => .array .boolean
  | 7 => .array .int
  | 8 => .array .int
  | 9 => .array .int
  | 10 => .array .int
  | 11 => .int
  | 12 => .int
  | 13 => .int
  | 14 => .int
  | 15 => .long
  | 16 => .int
  | 17 => .boolean
  | 18 => .int
  | 19 => .array .int
  | 20 => .int
  | 21 => .array .int
  | 22 => .array .int
  | 23 => .int
  | 24 => .array .int
  | 25 => .array .int
  | 26 => .int
  | 27 => .int
  | 28 => .array .boolean
  | 29 => .array .boolean
  | 30 => .array .long
  | 31 => .array .long
  | 32 => .boolean
  | 33 => .long
  | 34 => .long
  | 35 => .int
  | 36 => .int
  | 37 => .int
  | 38 => .int
  | 39 => .array .int
  | 40 => .array .int
  | 41 => .int
  | 42 => .boolean
  | 43 => .int
  | 44 => .int
  | 45 => .array .int
  | 46 => .array .int
  | 47 => .int
  | 48 => .int
  | 49 => .array .int
  | 50 => .array .int
  | 51 => .array .int
  | 52 => .array .int
  | 53 => .int
  | 54 => .int
  | _ => .int
abbrev wsX120 : List Cond := u_ws RX12 TX12 56
theorem nmX12 : ∀ a, a < 56 → ∀ b, b < 56 → a ≠ b → (TX12 a).2.1 ≠ (TX12 b).2.1 := by decide +kernel
theorem tyX12_ok : ∀ k, k < 56 → parseFieldDescriptor (TX12 k).2.2.1 = some (tyX12 k) := by decide +kernel
def RJ6 : String := "java/lang/Integer"
def RJ9 : String := "java/lang/Math"
def RJ10 : String := "java/lang/System"
def RJ7 : String := "java/util/Arrays"
def RL : String := "HalfDaysLaw"
abbrev cX0_init : ByteArray := prog_2_method_1_code
def yX0_init : MethodName := ⟨RX0, "<init>", "()V"⟩
abbrev cX0_addText : ByteArray := prog_2_method_2_code
def yX0_addText : MethodName := ⟨RX0, "addText", "(LHalfDays$Text;I)V"⟩
abbrev cX0_dropLastText : ByteArray := prog_2_method_3_code
def yX0_dropLastText : MethodName := ⟨RX0, "dropLastText", "()V"⟩
abbrev cX0_becomeLike : ByteArray := prog_2_method_4_code
def yX0_becomeLike : MethodName := ⟨RX0, "becomeLike", "(LHalfDays$Acts;)V"⟩
abbrev cX1_init : ByteArray := prog_3_method_1_code
def yX1_init : MethodName := ⟨RX1, "<init>", "(LHalfDays$County;)V"⟩
abbrev cX1_askOfMark : ByteArray := prog_3_method_2_code
def yX1_askOfMark : MethodName := ⟨RX1, "askOfMark", "(I)V"⟩
abbrev cX1_askOfDay : ByteArray := prog_3_method_3_code
def yX1_askOfDay : MethodName := ⟨RX1, "askOfDay", "(II)V"⟩
abbrev cX1_kindOf : ByteArray := prog_3_method_4_code
def yX1_kindOf : MethodName := ⟨RX1, "kindOf", "(II)I"⟩
abbrev cX1_clauseThatCounts : ByteArray := prog_3_method_5_code
def yX1_clauseThatCounts : MethodName := ⟨RX1, "clauseThatCounts", "()I"⟩
abbrev cX1_findLastThatHolds : ByteArray := prog_3_method_6_code
def yX1_findLastThatHolds : MethodName := ⟨RX1, "findLastThatHolds", "(I)Z"⟩
abbrev cX1_strikeClauses : ByteArray := prog_3_method_7_code
def yX1_strikeClauses : MethodName := ⟨RX1, "strikeClauses", "(I)V"⟩
abbrev cX1_isInForce : ByteArray := prog_3_method_8_code
def yX1_isInForce : MethodName := ⟨RX1, "isInForce", "(III)I"⟩
abbrev cX1_isHolding : ByteArray := prog_3_method_9_code
def yX1_isHolding : MethodName := ⟨RX1, "isHolding", "(LHalfDays$Text;I)Z"⟩
abbrev cX1_reckon : ByteArray := prog_3_method_10_code
def yX1_reckon : MethodName := ⟨RX1, "reckon", "([III)J"⟩
abbrev cX1_joinTwo : ByteArray := prog_3_method_11_code
def yX1_joinTwo : MethodName := ⟨RX1, "joinTwo", "(IJJ)J"⟩
abbrev cX1_wordsValue : ByteArray := prog_3_method_12_code
def yX1_wordsValue : MethodName := ⟨RX1, "wordsValue", "(I)I"⟩
abbrev cX1_tallyDays : ByteArray := prog_3_method_13_code
def yX1_tallyDays : MethodName := ⟨RX1, "tallyDays", "(II)V"⟩
abbrev cX1_awayWithin : ByteArray := prog_3_method_14_code
def yX1_awayWithin : MethodName := ⟨RX1, "awayWithin", "(II)I"⟩
abbrev cX1_firstDueDay : ByteArray := prog_3_method_15_code
def yX1_firstDueDay : MethodName := ⟨RX1, "firstDueDay", "(IIII)I"⟩
abbrev cX1_isStanding : ByteArray := prog_3_method_16_code
def yX1_isStanding : MethodName := ⟨RX1, "isStanding", "(III)Z"⟩
abbrev cX1_wholeFine : ByteArray := prog_3_method_17_code
def yX1_wholeFine : MethodName := ⟨RX1, "wholeFine", "(III)I"⟩
abbrev cX1_countSessions : ByteArray := prog_3_method_18_code
def yX1_countSessions : MethodName := ⟨RX1, "countSessions", "(IIIII)V"⟩
abbrev cX1_rateNumber : ByteArray := prog_3_method_19_code
def yX1_rateNumber : MethodName := ⟨RX1, "rateNumber", "(I)I"⟩
abbrev cX1_greatestDivisor : ByteArray := prog_3_method_20_code
def yX1_greatestDivisor : MethodName := ⟨RX1, "greatestDivisor", "(II)I"⟩
abbrev cX1_lastSeen : ByteArray := prog_3_method_21_code
def yX1_lastSeen : MethodName := ⟨RX1, "lastSeen", "(III)I"⟩
abbrev cX1_isThere : ByteArray := prog_3_method_22_code
def yX1_isThere : MethodName := ⟨RX1, "isThere", "(I)Z"⟩
abbrev cX1_noteKinds : ByteArray := prog_3_method_23_code
def yX1_noteKinds : MethodName := ⟨RX1, "noteKinds", "(I)V"⟩
abbrev cX1_countChangedKinds : ByteArray := prog_3_method_24_code
def yX1_countChangedKinds : MethodName := ⟨RX1, "countChangedKinds", "(I)I"⟩
abbrev cX1_isImpossible : ByteArray := prog_3_method_25_code
def yX1_isImpossible : MethodName := ⟨RX1, "isImpossible", "(I)Z"⟩
abbrev cX1_countWeek : ByteArray := prog_3_method_26_code
def yX1_countWeek : MethodName := ⟨RX1, "countWeek", "(II)V"⟩
abbrev cX1_schoolsLookedAt : ByteArray := prog_3_method_27_code
def yX1_schoolsLookedAt : MethodName := ⟨RX1, "schoolsLookedAt", "()I"⟩
abbrev cX1_dippingSchools : ByteArray := prog_3_method_28_code
def yX1_dippingSchools : MethodName := ⟨RX1, "dippingSchools", "(I)I"⟩
abbrev cX2_init : ByteArray := prog_4_method_1_code
def yX2_init : MethodName := ⟨RX2, "<init>", "(LHalfDays$County;)V"⟩
abbrev cX2_figuresAlike : ByteArray := prog_4_method_2_code
def yX2_figuresAlike : MethodName := ⟨RX2, "figuresAlike", "(II)I"⟩
abbrev cX2_bestJoin : ByteArray := prog_4_method_3_code
def yX2_bestJoin : MethodName := ⟨RX2, "bestJoin", "(I)I"⟩
abbrev cX2_noteLikeness : ByteArray := prog_4_method_4_code
def yX2_noteLikeness : MethodName := ⟨RX2, "noteLikeness", "(I)V"⟩
abbrev cX2_weighJoins : ByteArray := prog_4_method_5_code
def yX2_weighJoins : MethodName := ⟨RX2, "weighJoins", "(II)V"⟩
abbrev cX2_scoreWith : ByteArray := prog_4_method_6_code
def yX2_scoreWith : MethodName := ⟨RX2, "scoreWith", "(III)I"⟩
abbrev cX2_keepFirstBest : ByteArray := prog_4_method_7_code
def yX2_keepFirstBest : MethodName := ⟨RX2, "keepFirstBest", "()V"⟩
abbrev cX2_likeOfRow : ByteArray := prog_4_method_8_code
def yX2_likeOfRow : MethodName := ⟨RX2, "likeOfRow", "(II)I"⟩
abbrev cX2_bestRound : ByteArray := prog_4_method_9_code
def yX2_bestRound : MethodName := ⟨RX2, "bestRound", "(III)V"⟩
abbrev cX2_noteWays : ByteArray := prog_4_method_10_code
def yX2_noteWays : MethodName := ⟨RX2, "noteWays", "(II)V"⟩
abbrev cX2_fewestMinutes : ByteArray := prog_4_method_11_code
def yX2_fewestMinutes : MethodName := ⟨RX2, "fewestMinutes", "(I)I"⟩
abbrev cX2_wayFrom : ByteArray := prog_4_method_12_code
def yX2_wayFrom : MethodName := ⟨RX2, "wayFrom", "(III)I"⟩
abbrev cX2_worthOf : ByteArray := prog_4_method_13_code
def yX2_worthOf : MethodName := ⟨RX2, "worthOf", "(I)I"⟩
abbrev cX2_waysToDraw : ByteArray := prog_4_method_14_code
def yX2_waysToDraw : MethodName := ⟨RX2, "waysToDraw", "(Z)I"⟩
abbrev cX3_init : ByteArray := prog_5_method_1_code
def yX3_init : MethodName := ⟨RX3, "<init>", "()V"⟩
abbrev cX3_becomeLike : ByteArray := prog_5_method_2_code
def yX3_becomeLike : MethodName := ⟨RX3, "becomeLike", "(LHalfDays$County;)V"⟩
abbrev cX3_isOddOnRolls : ByteArray := prog_5_method_3_code
def yX3_isOddOnRolls : MethodName := ⟨RX3, "isOddOnRolls", "(III)Z"⟩
abbrev cX4_init : ByteArray := prog_6_method_1_code
def yX4_init : MethodName := ⟨RX4, "<init>", "()V"⟩
abbrev cX4_becomeLike : ByteArray := prog_6_method_2_code
def yX4_becomeLike : MethodName := ⟨RX4, "becomeLike", "(LHalfDays$Lists;)V"⟩
abbrev cX5_init : ByteArray := prog_7_method_1_code
def yX5_init : MethodName := ⟨RX5, "<init>", "()V"⟩
abbrev cX5_isNoMark : ByteArray := prog_7_method_2_code
def yX5_isNoMark : MethodName := ⟨RX5, "isNoMark", "(I)Z"⟩
abbrev cX5_addMark : ByteArray := prog_7_method_3_code
def yX5_addMark : MethodName := ⟨RX5, "addMark", "(IIIIII)I"⟩
abbrev cX5_latestKnown : ByteArray := prog_7_method_4_code
def yX5_latestKnown : MethodName := ⟨RX5, "latestKnown", "(IIII)I"⟩
abbrev cX5_countsAsKnown : ByteArray := prog_7_method_5_code
def yX5_countsAsKnown : MethodName := ⟨RX5, "countsAsKnown", "(II)Z"⟩
abbrev cX5_letterAsKnown : ByteArray := prog_7_method_6_code
def yX5_letterAsKnown : MethodName := ⟨RX5, "letterAsKnown", "(II)I"⟩
abbrev cX5_numberOf : ByteArray := prog_7_method_7_code
def yX5_numberOf : MethodName := ⟨RX5, "numberOf", "(I)I"⟩
abbrev cX5_turnBits : ByteArray := prog_7_method_8_code
def yX5_turnBits : MethodName := ⟨RX5, "turnBits", "(II)I"⟩
abbrev cX5_sealDay : ByteArray := prog_7_method_9_code
def yX5_sealDay : MethodName := ⟨RX5, "sealDay", "(I)I"⟩
abbrev cX5_sumDay : ByteArray := prog_7_method_10_code
def yX5_sumDay : MethodName := ⟨RX5, "sumDay", "(I)I"⟩
abbrev cX5_findAltered : ByteArray := prog_7_method_11_code
def yX5_findAltered : MethodName := ⟨RX5, "findAltered", "(I)I"⟩
abbrev cX5_markAtPlace : ByteArray := prog_7_method_12_code
def yX5_markAtPlace : MethodName := ⟨RX5, "markAtPlace", "(II)I"⟩
abbrev cX5_becomeLike : ByteArray := prog_7_method_13_code
def yX5_becomeLike : MethodName := ⟨RX5, "becomeLike", "(LHalfDays$Marks;)V"⟩
abbrev cX6_init : ByteArray := prog_8_method_1_code
def yX6_init : MethodName := ⟨RX6, "<init>", "()V"⟩
abbrev cX6_isNoChild : ByteArray := prog_8_method_2_code
def yX6_isNoChild : MethodName := ⟨RX6, "isNoChild", "(I)Z"⟩
abbrev cX6_isNoSchool : ByteArray := prog_8_method_3_code
def yX6_isNoSchool : MethodName := ⟨RX6, "isNoSchool", "(I)Z"⟩
abbrev cX6_addChild : ByteArray := prog_8_method_4_code
def yX6_addChild : MethodName := ⟨RX6, "addChild", "(IZIII)I"⟩
abbrev cX6_isShut : ByteArray := prog_8_method_5_code
def yX6_isShut : MethodName := ⟨RX6, "isShut", "(II)Z"⟩
abbrev cX6_hasFailed : ByteArray := prog_8_method_6_code
def yX6_hasFailed : MethodName := ⟨RX6, "hasFailed", "(II)Z"⟩
abbrev cX6_addBus : ByteArray := prog_8_method_7_code
def yX6_addBus : MethodName := ⟨RX6, "addBus", "(II)I"⟩
abbrev cX6_isWithin : ByteArray := prog_8_method_8_code
def yX6_isWithin : MethodName := ⟨RX6, "isWithin", "(III)Z"⟩
abbrev cX6_addSpan : ByteArray := prog_8_method_9_code
def yX6_addSpan : MethodName := ⟨RX6, "addSpan", "(IIII)I"⟩
abbrev cX6_becomeLike : ByteArray := prog_8_method_10_code
def yX6_becomeLike : MethodName := ⟨RX6, "becomeLike", "(LHalfDays$People;)V"⟩
abbrev cX7_init : ByteArray := prog_9_method_1_code
def yX7_init : MethodName := ⟨RX7, "<init>", "()V"⟩
abbrev cX7_append : ByteArray := prog_9_method_2_code
def yX7_append : MethodName := ⟨RX7, "append", "(I)V"⟩
abbrev cX7_readText : ByteArray := prog_9_method_3_code
def yX7_readText : MethodName := ⟨RX7, "readText", "()LHalfDays$Text;"⟩
abbrev cX7_readHead : ByteArray := prog_9_method_4_code
def yX7_readHead : MethodName := ⟨RX7, "readHead", "()V"⟩
abbrev cX7_readStepHead : ByteArray := prog_9_method_5_code
def yX7_readStepHead : MethodName := ⟨RX7, "readStepHead", "(IJ)V"⟩
abbrev cX7_putHead : ByteArray := prog_9_method_6_code
def yX7_putHead : MethodName := ⟨RX7, "putHead", "(II)V"⟩
abbrev cX7_readTest : ByteArray := prog_9_method_7_code
def yX7_readTest : MethodName := ⟨RX7, "readTest", "(I)V"⟩
abbrev cX7_readPlain : ByteArray := prog_9_method_8_code
def yX7_readPlain : MethodName := ⟨RX7, "readPlain", "(I)V"⟩
abbrev cX7_readSum : ByteArray := prog_9_method_9_code
def yX7_readSum : MethodName := ⟨RX7, "readSum", "(I)V"⟩
abbrev cX7_readPart : ByteArray := prog_9_method_10_code
def yX7_readPart : MethodName := ⟨RX7, "readPart", "(I)V"⟩
abbrev cX7_readLeaf : ByteArray := prog_9_method_11_code
def yX7_readLeaf : MethodName := ⟨RX7, "readLeaf", "(II)V"⟩
abbrev cX7_closeBracket : ByteArray := prog_9_method_12_code
def yX7_closeBracket : MethodName := ⟨RX7, "closeBracket", "(I)V"⟩
abbrev cX7_emit : ByteArray := prog_9_method_13_code
def yX7_emit : MethodName := ⟨RX7, "emit", "(II)V"⟩
abbrev cX7_landJump : ByteArray := prog_9_method_14_code
def yX7_landJump : MethodName := ⟨RX7, "landJump", "(I)V"⟩
abbrev cX7_takeNumber : ByteArray := prog_9_method_15_code
def yX7_takeNumber : MethodName := ⟨RX7, "takeNumber", "(II)I"⟩
abbrev cX7_takeLetter : ByteArray := prog_9_method_16_code
def yX7_takeLetter : MethodName := ⟨RX7, "takeLetter", "()I"⟩
abbrev cX7_takeKind : ByteArray := prog_9_method_17_code
def yX7_takeKind : MethodName := ⟨RX7, "takeKind", "()I"⟩
abbrev cX7_takeWord : ByteArray := prog_9_method_18_code
def yX7_takeWord : MethodName := ⟨RX7, "takeWord", "(J)V"⟩
abbrev cX7_wordAmong : ByteArray := prog_9_method_19_code
def yX7_wordAmong : MethodName := ⟨RX7, "wordAmong", "([J)I"⟩
abbrev cX7_isSign : ByteArray := prog_9_method_20_code
def yX7_isSign : MethodName := ⟨RX7, "isSign", "(I)Z"⟩
abbrev cX7_refuseToken : ByteArray := prog_9_method_21_code
def yX7_refuseToken : MethodName := ⟨RX7, "refuseToken", "()V"⟩
abbrev cX7_nextToken : ByteArray := prog_9_method_22_code
def yX7_nextToken : MethodName := ⟨RX7, "nextToken", "()V"⟩
abbrev cX8_init : ByteArray := prog_10_method_1_code
def yX8_init : MethodName := ⟨RX8, "<init>", "()V"⟩
abbrev cX8_addEntry : ByteArray := prog_10_method_2_code
def yX8_addEntry : MethodName := ⟨RX8, "addEntry", "(III)I"⟩
abbrev cX8_latestOf : ByteArray := prog_10_method_3_code
def yX8_latestOf : MethodName := ⟨RX8, "latestOf", "(II)I"⟩
abbrev cX8_isListed : ByteArray := prog_10_method_4_code
def yX8_isListed : MethodName := ⟨RX8, "isListed", "(III)Z"⟩
abbrev cX8_isListedWithin : ByteArray := prog_10_method_5_code
def yX8_isListedWithin : MethodName := ⟨RX8, "isListedWithin", "(IIII)Z"⟩
abbrev cX8_schoolsOf : ByteArray := prog_10_method_6_code
def yX8_schoolsOf : MethodName := ⟨RX8, "schoolsOf", "(II)I"⟩
abbrev cX8_isLost : ByteArray := prog_10_method_7_code
def yX8_isLost : MethodName := ⟨RX8, "isLost", "(II)Z"⟩
abbrev cX8_becomeLike : ByteArray := prog_10_method_8_code
def yX8_becomeLike : MethodName := ⟨RX8, "becomeLike", "(LHalfDays$Rolls;)V"⟩
abbrev cX9_init : ByteArray := prog_11_method_1_code
def yX9_init : MethodName := ⟨RX9, "<init>", "()V"⟩
abbrev cX9_becomeLike : ByteArray := prog_11_method_2_code
def yX9_becomeLike : MethodName := ⟨RX9, "becomeLike", "(LHalfDays$Steps;)V"⟩
abbrev cX10_init : ByteArray := prog_12_method_1_code
def yX10_init : MethodName := ⟨RX10, "<init>", "(LHalfDays$Reader;)V"⟩
abbrev cX11_init : ByteArray := prog_1_method_1_code
def yX11_init : MethodName := ⟨RX11, "<init>", "()V"⟩
abbrev cX11_child : ByteArray := prog_1_method_2_code
def yX11_child : MethodName := ⟨RX11, "child", "(IZIII)I"⟩
abbrev cX11_school : ByteArray := prog_1_method_3_code
def yX11_school : MethodName := ⟨RX11, "school", "()I"⟩
abbrev cX11_shut : ByteArray := prog_1_method_4_code
def yX11_shut : MethodName := ⟨RX11, "shut", "(II)I"⟩
abbrev cX11_comes : ByteArray := prog_1_method_5_code
def yX11_comes : MethodName := ⟨RX11, "comes", "(III)I"⟩
abbrev cX11_goes : ByteArray := prog_1_method_6_code
def yX11_goes : MethodName := ⟨RX11, "goes", "(IIII)I"⟩
abbrev cX11_isOn : ByteArray := prog_1_method_7_code
def yX11_isOn : MethodName := ⟨RX11, "isOn", "(III)I"⟩
abbrev cX11_failed : ByteArray := prog_1_method_8_code
def yX11_failed : MethodName := ⟨RX11, "failed", "(II)I"⟩
abbrev cX11_has : ByteArray := prog_1_method_9_code
def yX11_has : MethodName := ⟨RX11, "has", "(IIII)I"⟩
abbrev cX11_mark : ByteArray := prog_1_method_10_code
def yX11_mark : MethodName := ⟨RX11, "mark", "(IIIIII)I"⟩
abbrev cX11_appeal : ByteArray := prog_1_method_11_code
def yX11_appeal : MethodName := ⟨RX11, "appeal", "(III)I"⟩
abbrev cX11_tells : ByteArray := prog_1_method_12_code
def yX11_tells : MethodName := ⟨RX11, "tells", "(IIIII)I"⟩
abbrev cX11_sees : ByteArray := prog_1_method_13_code
def yX11_sees : MethodName := ⟨RX11, "sees", "(IIIII)I"⟩
abbrev cX11_feed : ByteArray := prog_1_method_14_code
def yX11_feed : MethodName := ⟨RX11, "feed", "(IIIII)I"⟩
abbrev cX11_end : ByteArray := prog_1_method_15_code
def yX11_end : MethodName := ⟨RX11, "end", "(I)I"⟩
abbrev cX11_act : ByteArray := prog_1_method_16_code
def yX11_act : MethodName := ⟨RX11, "act", "(I)I"⟩
abbrev cX11_fault : ByteArray := prog_1_method_17_code
def yX11_fault : MethodName := ⟨RX11, "fault", "()I"⟩
abbrev cX11_force : ByteArray := prog_1_method_18_code
def yX11_force : MethodName := ⟨RX11, "force", "(III)I"⟩
abbrev cX11_rate : ByteArray := prog_1_method_19_code
def yX11_rate : MethodName := ⟨RX11, "rate", "(IIIII)I"⟩
abbrev cX11_dip : ByteArray := prog_1_method_20_code
def yX11_dip : MethodName := ⟨RX11, "dip", "(IIIII)I"⟩
abbrev cX11_due : ByteArray := prog_1_method_21_code
def yX11_due : MethodName := ⟨RX11, "due", "(IIII)I"⟩
abbrev cX11_take : ByteArray := prog_1_method_22_code
def yX11_take : MethodName := ⟨RX11, "take", "(III)I"⟩
abbrev cX11_stands : ByteArray := prog_1_method_23_code
def yX11_stands : MethodName := ⟨RX11, "stands", "(III)I"⟩
abbrev cX11_pay : ByteArray := prog_1_method_24_code
def yX11_pay : MethodName := ⟨RX11, "pay", "(III)I"⟩
abbrev cX11_fine : ByteArray := prog_1_method_25_code
def yX11_fine : MethodName := ⟨RX11, "fine", "(IIII)I"⟩
abbrev cX11_off : ByteArray := prog_1_method_26_code
def yX11_off : MethodName := ⟨RX11, "off", "(III)I"⟩
abbrev cX11_rolls : ByteArray := prog_1_method_27_code
def yX11_rolls : MethodName := ⟨RX11, "rolls", "(III)I"⟩
abbrev cX11_seen : ByteArray := prog_1_method_28_code
def yX11_seen : MethodName := ⟨RX11, "seen", "(III)I"⟩
abbrev cX11_record : ByteArray := prog_1_method_29_code
def yX11_record : MethodName := ⟨RX11, "record", "(I)I"⟩
abbrev cX11_missing : ByteArray := prog_1_method_30_code
def yX11_missing : MethodName := ⟨RX11, "missing", "(II)I"⟩
abbrev cX11_join : ByteArray := prog_1_method_31_code
def yX11_join : MethodName := ⟨RX11, "join", "(I)I"⟩
abbrev cX11_joined : ByteArray := prog_1_method_32_code
def yX11_joined : MethodName := ⟨RX11, "joined", "(I)I"⟩
abbrev cX11_judge : ByteArray := prog_1_method_33_code
def yX11_judge : MethodName := ⟨RX11, "judge", "(II)I"⟩
abbrev cX11_cannot : ByteArray := prog_1_method_34_code
def yX11_cannot : MethodName := ⟨RX11, "cannot", "(IIII)I"⟩
abbrev cX11_visit : ByteArray := prog_1_method_35_code
def yX11_visit : MethodName := ⟨RX11, "visit", "(III)I"⟩
abbrev cX11_round : ByteArray := prog_1_method_36_code
def yX11_round : MethodName := ⟨RX11, "round", "(IIII)I"⟩
abbrev cX11_dips : ByteArray := prog_1_method_37_code
def yX11_dips : MethodName := ⟨RX11, "dips", "(IIII)I"⟩
abbrev cX11_draw : ByteArray := prog_1_method_38_code
def yX11_draw : MethodName := ⟨RX11, "draw", "(III)I"⟩
abbrev cX11_helped : ByteArray := prog_1_method_39_code
def yX11_helped : MethodName := ⟨RX11, "helped", "(I)I"⟩
abbrev cX11_beside : ByteArray := prog_1_method_40_code
def yX11_beside : MethodName := ⟨RX11, "beside", "(II)I"⟩
abbrev cX11_seal : ByteArray := prog_1_method_41_code
def yX11_seal : MethodName := ⟨RX11, "seal", "(I)I"⟩
abbrev cX11_alter : ByteArray := prog_1_method_42_code
def yX11_alter : MethodName := ⟨RX11, "alter", "(II)I"⟩
abbrev cX11_found : ByteArray := prog_1_method_43_code
def yX11_found : MethodName := ⟨RX11, "found", "(I)I"⟩
abbrev cX11_image : ByteArray := prog_1_method_44_code
def yX11_image : MethodName := ⟨RX11, "image", "(I)I"⟩
abbrev cX11_back : ByteArray := prog_1_method_45_code
def yX11_back : MethodName := ⟨RX11, "back", "(I)I"⟩
abbrev cX11_count : ByteArray := prog_1_method_46_code
def yX11_count : MethodName := ⟨RX11, "count", "(I)I"⟩
abbrev cX11_status : ByteArray := prog_1_method_47_code
def yX11_status : MethodName := ⟨RX11, "status", "()I"⟩
abbrev cX11_answer : ByteArray := prog_1_method_48_code
def yX11_answer : MethodName := ⟨RX11, "answer", "(I)I"⟩
abbrev cX11_markThatCounts : ByteArray := prog_1_method_49_code
def yX11_markThatCounts : MethodName := ⟨RX11, "markThatCounts", "(IIII)I"⟩
abbrev cX11_isOutside : ByteArray := prog_1_method_50_code
def yX11_isOutside : MethodName := ⟨RX11, "isOutside", "(III)Z"⟩
abbrev cX11_isNoDay : ByteArray := prog_1_method_51_code
def yX11_isNoDay : MethodName := ⟨RX11, "isNoDay", "(I)Z"⟩
abbrev cX11_isNoHalf : ByteArray := prog_1_method_52_code
def yX11_isNoHalf : MethodName := ⟨RX11, "isNoHalf", "(I)Z"⟩
abbrev cX11_areNoHalves : ByteArray := prog_1_method_53_code
def yX11_areNoHalves : MethodName := ⟨RX11, "areNoHalves", "(II)Z"⟩
abbrev cX11_isNoStep : ByteArray := prog_1_method_54_code
def yX11_isNoStep : MethodName := ⟨RX11, "isNoStep", "(I)Z"⟩
abbrev cX11_isNoPlace : ByteArray := prog_1_method_55_code
def yX11_isNoPlace : MethodName := ⟨RX11, "isNoPlace", "(II)Z"⟩
abbrev cX11_areNoFigures : ByteArray := prog_1_method_56_code
def yX11_areNoFigures : MethodName := ⟨RX11, "areNoFigures", "(I)Z"⟩
abbrev cX11_isAmong : ByteArray := prog_1_method_57_code
def yX11_isAmong : MethodName := ⟨RX11, "isAmong", "([III)Z"⟩
abbrev cX11_copyRow : ByteArray := prog_1_method_58_code
def yX11_copyRow : MethodName := ⟨RX11, "copyRow", "([I[I)V"⟩
abbrev cX12_init : ByteArray := prog_14_method_1_code
def yX12_init : MethodName := ⟨RX12, "<init>", "()V"⟩
abbrev cX12_in : ByteArray := prog_14_method_3_code
def yX12_in : MethodName := ⟨RX12, "in", "(JJJ)Z"⟩
abbrev cX12_told : ByteArray := prog_14_method_4_code
def yX12_told : MethodName := ⟨RX12, "told", "(I)I"⟩
abbrev cX12_isDay : ByteArray := prog_14_method_5_code
def yX12_isDay : MethodName := ⟨RX12, "isDay", "(I)Z"⟩
abbrev cX12_isHalf : ByteArray := prog_14_method_6_code
def yX12_isHalf : MethodName := ⟨RX12, "isHalf", "(I)Z"⟩
abbrev cX12_image : ByteArray := prog_14_method_7_code
def yX12_image : MethodName := ⟨RX12, "image", "(I)I"⟩
abbrev cX12_back : ByteArray := prog_14_method_8_code
def yX12_back : MethodName := ⟨RX12, "back", "(I)I"⟩
abbrev cX12_addFour : ByteArray := prog_14_method_9_code
def yX12_addFour : MethodName := ⟨RX12, "addFour", "(IIIII)V"⟩
abbrev cX12_isChild : ByteArray := prog_14_method_10_code
def yX12_isChild : MethodName := ⟨RX12, "isChild", "(I)Z"⟩
abbrev cX12_isSchool : ByteArray := prog_14_method_11_code
def yX12_isSchool : MethodName := ⟨RX12, "isSchool", "(I)Z"⟩
abbrev cX12_childAt : ByteArray := prog_14_method_12_code
def yX12_childAt : MethodName := ⟨RX12, "childAt", "(I)I"⟩
abbrev cX12_child : ByteArray := prog_14_method_13_code
def yX12_child : MethodName := ⟨RX12, "child", "(IZIII)I"⟩
abbrev cX12_school : ByteArray := prog_14_method_14_code
def yX12_school : MethodName := ⟨RX12, "school", "()I"⟩
abbrev cX12_shut : ByteArray := prog_14_method_15_code
def yX12_shut : MethodName := ⟨RX12, "shut", "(II)I"⟩
abbrev cX12_isOnRoll : ByteArray := prog_14_method_16_code
def yX12_isOnRoll : MethodName := ⟨RX12, "isOnRoll", "(II)Z"⟩
abbrev cX12_isOnSchool : ByteArray := prog_14_method_17_code
def yX12_isOnSchool : MethodName := ⟨RX12, "isOnSchool", "(III)Z"⟩
abbrev cX12_comes : ByteArray := prog_14_method_18_code
def yX12_comes : MethodName := ⟨RX12, "comes", "(III)I"⟩
abbrev cX12_goes : ByteArray := prog_14_method_19_code
def yX12_goes : MethodName := ⟨RX12, "goes", "(IIII)I"⟩
abbrev cX12_isOn : ByteArray := prog_14_method_20_code
def yX12_isOn : MethodName := ⟨RX12, "isOn", "(III)I"⟩
abbrev cX12_failed : ByteArray := prog_14_method_21_code
def yX12_failed : MethodName := ⟨RX12, "failed", "(II)I"⟩
abbrev cX12_hasFailed : ByteArray := prog_14_method_22_code
def yX12_hasFailed : MethodName := ⟨RX12, "hasFailed", "(II)Z"⟩
abbrev cX12_has : ByteArray := prog_14_method_23_code
def yX12_has : MethodName := ⟨RX12, "has", "(IIII)I"⟩
abbrev cX12_hasOn : ByteArray := prog_14_method_24_code
def yX12_hasOn : MethodName := ⟨RX12, "hasOn", "(III)Z"⟩
abbrev cX12_markAt : ByteArray := prog_14_method_25_code
def yX12_markAt : MethodName := ⟨RX12, "markAt", "(I)I"⟩
abbrev cX12_isMark : ByteArray := prog_14_method_26_code
def yX12_isMark : MethodName := ⟨RX12, "isMark", "(I)Z"⟩
abbrev cX12_mark : ByteArray := prog_14_method_27_code
def yX12_mark : MethodName := ⟨RX12, "mark", "(IIIIII)I"⟩
abbrev cX12_appeal : ByteArray := prog_14_method_28_code
def yX12_appeal : MethodName := ⟨RX12, "appeal", "(III)I"⟩
abbrev cX12_knowBy : ByteArray := prog_14_method_29_code
def yX12_knowBy : MethodName := ⟨RX12, "knowBy", "(I)V"⟩
abbrev cX12_findKinds : ByteArray := prog_14_method_30_code
def yX12_findKinds : MethodName := ⟨RX12, "findKinds", "()V"⟩
abbrev cX12_countsIn : ByteArray := prog_14_method_31_code
def yX12_countsIn : MethodName := ⟨RX12, "countsIn", "(III)I"⟩
abbrev cX12_tells : ByteArray := prog_14_method_32_code
def yX12_tells : MethodName := ⟨RX12, "tells", "(IIIII)I"⟩
abbrev cX12_sees : ByteArray := prog_14_method_33_code
def yX12_sees : MethodName := ⟨RX12, "sees", "(IIIII)I"⟩
abbrev cX12_four : ByteArray := prog_14_method_34_code
def yX12_four : MethodName := ⟨RX12, "four", "(I)V"⟩
abbrev cX12_feed : ByteArray := prog_14_method_35_code
def yX12_feed : MethodName := ⟨RX12, "feed", "(IIIII)I"⟩
abbrev cX12_end : ByteArray := prog_14_method_36_code
def yX12_end : MethodName := ⟨RX12, "end", "(I)I"⟩
abbrev cX12_isSmall : ByteArray := prog_14_method_37_code
def yX12_isSmall : MethodName := ⟨RX12, "isSmall", "(I)Z"⟩
abbrev cX12_isDigit : ByteArray := prog_14_method_38_code
def yX12_isDigit : MethodName := ⟨RX12, "isDigit", "(I)Z"⟩
abbrev cX12_begin : ByteArray := prog_14_method_39_code
def yX12_begin : MethodName := ⟨RX12, "begin", "()V"⟩
abbrev cX12_next : ByteArray := prog_14_method_40_code
def yX12_next : MethodName := ⟨RX12, "next", "()V"⟩
abbrev cX12_isWord : ByteArray := prog_14_method_41_code
def yX12_isWord : MethodName := ⟨RX12, "isWord", "(J)Z"⟩
abbrev cX12_isSign : ByteArray := prog_14_method_42_code
def yX12_isSign : MethodName := ⟨RX12, "isSign", "(I)Z"⟩
abbrev cX12_must : ByteArray := prog_14_method_43_code
def yX12_must : MethodName := ⟨RX12, "must", "(Z)V"⟩
abbrev cX12_number : ByteArray := prog_14_method_44_code
def yX12_number : MethodName := ⟨RX12, "number", "(JJ)I"⟩
abbrev cX12_fault : ByteArray := prog_14_method_45_code
def yX12_fault : MethodName := ⟨RX12, "fault", "()I"⟩
abbrev cX12_emit : ByteArray := prog_14_method_46_code
def yX12_emit : MethodName := ⟨RX12, "emit", "(II)V"⟩
abbrev cX12_push : ByteArray := prog_14_method_47_code
def yX12_push : MethodName := ⟨RX12, "push", "(II)V"⟩
abbrev cX12_binds : ByteArray := prog_14_method_48_code
def yX12_binds : MethodName := ⟨RX12, "binds", "(I)I"⟩
abbrev cX12_settle : ByteArray := prog_14_method_49_code
def yX12_settle : MethodName := ⟨RX12, "settle", "(I)V"⟩
abbrev cX12_inner : ByteArray := prog_14_method_50_code
def yX12_inner : MethodName := ⟨RX12, "inner", "()I"⟩
abbrev cX12_isCompared : ByteArray := prog_14_method_51_code
def yX12_isCompared : MethodName := ⟨RX12, "isCompared", "()Z"⟩
abbrev cX12_partAt : ByteArray := prog_14_method_52_code
def yX12_partAt : MethodName := ⟨RX12, "partAt", "()I"⟩
abbrev cX12_plainAt : ByteArray := prog_14_method_53_code
def yX12_plainAt : MethodName := ⟨RX12, "plainAt", "()I"⟩
abbrev cX12_open : ByteArray := prog_14_method_54_code
def yX12_open : MethodName := ⟨RX12, "open", "(I)V"⟩
abbrev cX12_leaf : ByteArray := prog_14_method_55_code
def yX12_leaf : MethodName := ⟨RX12, "leaf", "(ZII)V"⟩
abbrev cX12_readPart : ByteArray := prog_14_method_56_code
def yX12_readPart : MethodName := ⟨RX12, "readPart", "()I"⟩
abbrev cX12_readPlain : ByteArray := prog_14_method_57_code
def yX12_readPlain : MethodName := ⟨RX12, "readPlain", "()I"⟩
abbrev cX12_behindSum : ByteArray := prog_14_method_58_code
def yX12_behindSum : MethodName := ⟨RX12, "behindSum", "(Z)I"⟩
abbrev cX12_behindTest : ByteArray := prog_14_method_59_code
def yX12_behindTest : MethodName := ⟨RX12, "behindTest", "()I"⟩
abbrev cX12_readExpression : ByteArray := prog_14_method_60_code
def yX12_readExpression : MethodName := ⟨RX12, "readExpression", "(Z)V"⟩
abbrev cX12_headAt : ByteArray := prog_14_method_61_code
def yX12_headAt : MethodName := ⟨RX12, "headAt", "()I"⟩
abbrev cX12_letter : ByteArray := prog_14_method_62_code
def yX12_letter : MethodName := ⟨RX12, "letter", "()I"⟩
abbrev cX12_kind : ByteArray := prog_14_method_63_code
def yX12_kind : MethodName := ⟨RX12, "kind", "()I"⟩
abbrev cX12_readClause : ByteArray := prog_14_method_64_code
def yX12_readClause : MethodName := ⟨RX12, "readClause", "()V"⟩
abbrev cX12_readText : ByteArray := prog_14_method_65_code
def yX12_readText : MethodName := ⟨RX12, "readText", "(I)Z"⟩
abbrev cX12_act : ByteArray := prog_14_method_66_code
def yX12_act : MethodName := ⟨RX12, "act", "(I)I"⟩
abbrev cX12_textAt : ByteArray := prog_14_method_67_code
def yX12_textAt : MethodName := ⟨RX12, "textAt", "(I)I"⟩
abbrev cX12_clauseAt : ByteArray := prog_14_method_68_code
def yX12_clauseAt : MethodName := ⟨RX12, "clauseAt", "(II)I"⟩
abbrev cX12_findForce : ByteArray := prog_14_method_69_code
def yX12_findForce : MethodName := ⟨RX12, "findForce", "(I)V"⟩
abbrev cX12_force : ByteArray := prog_14_method_70_code
def yX12_force : MethodName := ⟨RX12, "force", "(III)I"⟩
abbrev cX12_setFor : ByteArray := prog_14_method_71_code
def yX12_setFor : MethodName := ⟨RX12, "setFor", "(II)V"⟩
abbrev cX12_reckon : ByteArray := prog_14_method_72_code
def yX12_reckon : MethodName := ⟨RX12, "reckon", "(IJJ)J"⟩
abbrev cX12_run : ByteArray := prog_14_method_73_code
def yX12_run : MethodName := ⟨RX12, "run", "(III)V"⟩
abbrev cX12_find : ByteArray := prog_14_method_74_code
def yX12_find : MethodName := ⟨RX12, "find", "(III)Z"⟩
abbrev cX12_isSo : ByteArray := prog_14_method_75_code
def yX12_isSo : MethodName := ⟨RX12, "isSo", "(II)Z"⟩
abbrev cX12_common : ByteArray := prog_14_method_76_code
def yX12_common : MethodName := ⟨RX12, "common", "(JJ)J"⟩
abbrev cX12_addUp : ByteArray := prog_14_method_77_code
def yX12_addUp : MethodName := ⟨RX12, "addUp", "(IIII)V"⟩
abbrev cX12_tellRate : ByteArray := prog_14_method_78_code
def yX12_tellRate : MethodName := ⟨RX12, "tellRate", "(I)I"⟩
abbrev cX12_rate : ByteArray := prog_14_method_79_code
def yX12_rate : MethodName := ⟨RX12, "rate", "(IIIII)I"⟩
abbrev cX12_dip : ByteArray := prog_14_method_80_code
def yX12_dip : MethodName := ⟨RX12, "dip", "(IIIII)I"⟩
abbrev cX12_findSessions : ByteArray := prog_14_method_81_code
def yX12_findSessions : MethodName := ⟨RX12, "findSessions", "(I)V"⟩
abbrev cX12_setDay : ByteArray := prog_14_method_82_code
def yX12_setDay : MethodName := ⟨RX12, "setDay", "(II)V"⟩
abbrev cX12_dueOf : ByteArray := prog_14_method_83_code
def yX12_dueOf : MethodName := ⟨RX12, "dueOf", "(III)I"⟩
abbrev cX12_isStep : ByteArray := prog_14_method_84_code
def yX12_isStep : MethodName := ⟨RX12, "isStep", "(I)Z"⟩
abbrev cX12_due : ByteArray := prog_14_method_85_code
def yX12_due : MethodName := ⟨RX12, "due", "(IIII)I"⟩
abbrev cX12_takenOn : ByteArray := prog_14_method_86_code
def yX12_takenOn : MethodName := ⟨RX12, "takenOn", "(II)I"⟩
abbrev cX12_dueFrom : ByteArray := prog_14_method_87_code
def yX12_dueFrom : MethodName := ⟨RX12, "dueFrom", "(II)I"⟩
abbrev cX12_take : ByteArray := prog_14_method_88_code
def yX12_take : MethodName := ⟨RX12, "take", "(III)I"⟩
abbrev cX12_doesStand : ByteArray := prog_14_method_89_code
def yX12_doesStand : MethodName := ⟨RX12, "doesStand", "(III)Z"⟩
abbrev cX12_stands : ByteArray := prog_14_method_90_code
def yX12_stands : MethodName := ⟨RX12, "stands", "(III)I"⟩
abbrev cX12_fineOf : ByteArray := prog_14_method_91_code
def yX12_fineOf : MethodName := ⟨RX12, "fineOf", "(II)I"⟩
abbrev cX12_pay : ByteArray := prog_14_method_92_code
def yX12_pay : MethodName := ⟨RX12, "pay", "(III)I"⟩
abbrev cX12_fine : ByteArray := prog_14_method_93_code
def yX12_fine : MethodName := ⟨RX12, "fine", "(IIII)I"⟩
abbrev cX12_off : ByteArray := prog_14_method_94_code
def yX12_off : MethodName := ⟨RX12, "off", "(III)I"⟩
abbrev cX12_rollsOf : ByteArray := prog_14_method_95_code
def yX12_rollsOf : MethodName := ⟨RX12, "rollsOf", "(II)I"⟩
abbrev cX12_isLost : ByteArray := prog_14_method_96_code
def yX12_isLost : MethodName := ⟨RX12, "isLost", "(II)Z"⟩
abbrev cX12_rolls : ByteArray := prog_14_method_97_code
def yX12_rolls : MethodName := ⟨RX12, "rolls", "(III)I"⟩
abbrev cX12_seen : ByteArray := prog_14_method_98_code
def yX12_seen : MethodName := ⟨RX12, "seen", "(III)I"⟩
abbrev cX12_record : ByteArray := prog_14_method_99_code
def yX12_record : MethodName := ⟨RX12, "record", "(I)I"⟩
abbrev cX12_missing : ByteArray := prog_14_method_100_code
def yX12_missing : MethodName := ⟨RX12, "missing", "(II)I"⟩
abbrev cX12_likeOf : ByteArray := prog_14_method_101_code
def yX12_likeOf : MethodName := ⟨RX12, "likeOf", "(II)I"⟩
abbrev cX12_isJoin : ByteArray := prog_14_method_102_code
def yX12_isJoin : MethodName := ⟨RX12, "isJoin", "(I)Z"⟩
abbrev cX12_join : ByteArray := prog_14_method_103_code
def yX12_join : MethodName := ⟨RX12, "join", "(I)I"⟩
abbrev cX12_joined : ByteArray := prog_14_method_104_code
def yX12_joined : MethodName := ⟨RX12, "joined", "(I)I"⟩
abbrev cX12_judge : ByteArray := prog_14_method_105_code
def yX12_judge : MethodName := ⟨RX12, "judge", "(II)I"⟩
abbrev cX12_cannotBe : ByteArray := prog_14_method_106_code
def yX12_cannotBe : MethodName := ⟨RX12, "cannotBe", "(I)Z"⟩
abbrev cX12_cannot : ByteArray := prog_14_method_107_code
def yX12_cannot : MethodName := ⟨RX12, "cannot", "(IIII)I"⟩
abbrev cX12_visit : ByteArray := prog_14_method_108_code
def yX12_visit : MethodName := ⟨RX12, "visit", "(III)I"⟩
abbrev cX12_far : ByteArray := prog_14_method_109_code
def yX12_far : MethodName := ⟨RX12, "far", "(III)I"⟩
abbrev cX12_between : ByteArray := prog_14_method_110_code
def yX12_between : MethodName := ⟨RX12, "between", "(II)I"⟩
abbrev cX12_minutesOf : ByteArray := prog_14_method_111_code
def yX12_minutesOf : MethodName := ⟨RX12, "minutesOf", "(III)I"⟩
abbrev cX12_findWays : ByteArray := prog_14_method_112_code
def yX12_findWays : MethodName := ⟨RX12, "findWays", "(II)V"⟩
abbrev cX12_round : ByteArray := prog_14_method_113_code
def yX12_round : MethodName := ⟨RX12, "round", "(IIII)I"⟩
abbrev cX12_dips : ByteArray := prog_14_method_114_code
def yX12_dips : MethodName := ⟨RX12, "dips", "(IIII)I"⟩
abbrev cX12_draw : ByteArray := prog_14_method_115_code
def yX12_draw : MethodName := ⟨RX12, "draw", "(III)I"⟩
abbrev cX12_helped : ByteArray := prog_14_method_116_code
def yX12_helped : MethodName := ⟨RX12, "helped", "(I)I"⟩
abbrev cX12_beside : ByteArray := prog_14_method_117_code
def yX12_beside : MethodName := ⟨RX12, "beside", "(II)I"⟩
abbrev cX12_addDay : ByteArray := prog_14_method_118_code
def yX12_addDay : MethodName := ⟨RX12, "addDay", "(I)V"⟩
abbrev cX12_seal : ByteArray := prog_14_method_119_code
def yX12_seal : MethodName := ⟨RX12, "seal", "(I)I"⟩
abbrev cX12_alter : ByteArray := prog_14_method_120_code
def yX12_alter : MethodName := ⟨RX12, "alter", "(II)I"⟩
abbrev cX12_found : ByteArray := prog_14_method_121_code
def yX12_found : MethodName := ⟨RX12, "found", "(I)I"⟩
abbrev cX12_count : ByteArray := prog_14_method_122_code
def yX12_count : MethodName := ⟨RX12, "count", "(I)I"⟩
abbrev cX12_status : ByteArray := prog_14_method_123_code
def yX12_status : MethodName := ⟨RX12, "status", "()I"⟩
abbrev cJ6_bitCount_0f7a4 : ByteArray := prog_16_method_49_code
def yJ6_bitCount_0f7a4 : MethodName := ⟨RJ6, "bitCount", "(I)I"⟩
abbrev cJ9_abs_0f7a4 : ByteArray := prog_17_method_59_code
def yJ9_abs_0f7a4 : MethodName := ⟨RJ9, "abs", "(I)I"⟩
abbrev cJ9_max_7cf53 : ByteArray := prog_17_method_65_code
def yJ9_max_7cf53 : MethodName := ⟨RJ9, "max", "(II)I"⟩
abbrev cJ9_min_7cf53 : ByteArray := prog_17_method_69_code
def yJ9_min_7cf53 : MethodName := ⟨RJ9, "min", "(II)I"⟩
abbrev cJ7_fill_53178 : ByteArray := prog_19_method_103_code
def yJ7_fill_53178 : MethodName := ⟨RJ7, "fill", "([II)V"⟩
abbrev cJ7_copyOf_59c91 : ByteArray := prog_19_method_123_code
def yJ7_copyOf_59c91 : MethodName := ⟨RJ7, "copyOf", "([II)[I"⟩
abbrev vwCl : List vw_C := [(RX0, TX0, 3), (RX1, TX1, 19), (RX2, TX2, 14), (RX3, TX3, 6), (RX4, TX4, 13), (RX5, TX5, 15), (RX6, TX6, 15), (RX7, TX7, 16), (RX8, TX8, 6), (RX9, TX9, 3), (RX10, TX10, 6), (RX11, TX11, 6), (RX12, TX12, 56)]
end
section
/-! the words that every contract takes: the tables' good ones, whole -/
def lw_g : List Cond := lw_tbl.filter goodWord
theorem lw_g_sub {w : Cond} (h : w ∈ lw_g) : w ∈ lw_tbl := (List.mem_filter.mp h).1
theorem lw_g_good : ∀ w ∈ lw_g, goodWord w = true := fun _ h => (List.mem_filter.mp h).2
theorem mk_k {w : Cond} (i : Nat) (h : tables_1[i]? = some w) (hg : goodWord w = true) : w ∈ lw_g := List.mem_filter.mpr ⟨List.mem_append_right _ (List.mem_of_getElem? h), hg⟩
theorem mk_s {w : Cond} (i : Nat) (h : (k2_sels lw_privs)[i]? = some w) (hg : goodWord w = true) : w ∈ lw_g := List.mem_filter.mpr ⟨List.mem_append_left _ (List.mem_of_getElem? h), hg⟩
theorem mk_u {C : String} {T : u_T} {N : Nat} (ps : List Nat) (hp : u_ws C T N = ps.filterMap (fun i => tables_1[i]?)) (hg : (u_ws C T N).all goodWord = true) : ∀ w ∈ u_ws C T N, w ∈ lw_g := by
  intro w hw
  have h1 := List.all_eq_true.mp hg w hw
  rw [hp] at hw
  obtain ⟨i, -, hi⟩ := List.mem_filterMap.mp hw
  exact mk_k i hi h1
/-- the words that hold by warming alone -/
def zz_nestB : Cond → Bool
  | .methodLinkNest .. => true
  | .fieldLinkNest .. => true
  | _ => false
def lw_nest : List Cond := tables_1.filter zz_nestB
theorem mk_n {w : Cond} (i : Nat) (h : tables_1[i]? = some w) (hg : zz_nestB w = true) : w ∈ lw_nest := List.mem_filter.mpr ⟨List.mem_of_getElem? h, hg⟩
def zN (U : State) : Prop := (∀ w ∈ lw_nest, va_Nw w U) ∧ va_AO "HalfDays$Text" U ∧ va_AO "HalfDays$County" U
theorem zN.warm {s U : State} (hW : s.WarmedH U.vm) (h : zN s) : zN U := by
  refine ⟨fun w hw => ?_, h.2.1.moved hW.alike, h.2.2.moved hW.alike⟩
  have h1 := h.1 w hw
  have h2 := (List.mem_filter.mp hw).2
  cases w with
  | methodLinkNest a i x hh => exact va_Nw.warmM hW h1
  | fieldLinkNest a i b n d hh => exact va_Nw.warmF hW h1
  | _ => cases h2
abbrev TYk (k : Nat → ClassId) : List (ClassId × FieldType) := [(k 0, .int), (k 1, .long), (k 2, .boolean), (k 3, .object "HalfDays$Text"), (k 4, .object "HalfDays$County")]
def zPre (D : va_G) (k : Nat → ClassId) (ws : va_W) (sz : Nat) (U : State) : Prop := U.heap.size = sz ∧ va_P D vwCl ws U.heap ∧ va_K D vwCl (TYk k) U ∧ va_D (fun _ => True) ws ∧ zN U
abbrev zS : Type := Nat × (Nat → Nat)
def zB (D : va_G) (k : Nat → ClassId) (A : Nat → Prop) (wo : zS → va_W) (u : zS) (t : State) : Prop := va_P D vwCl (wo u) t.heap ∧ va_K D vwCl (TYk k) t ∧ va_D A (wo u)
/-- a contract: from any heap that holds ws, the method returns an int -/
def zMi (l : Launch) (y : MethodName) (cc : ByteArray) (n : Nat) (ret : Option FieldType) (rm : Room) (D : va_G) (k : Nat → ClassId) (av : List Value) (ws : va_W) (post : Int32 → zS → Prop) (wo : zS → va_W) : Prop :=
  ∀ sz : Nat, Met l y (Cond.code y cc n ret :: lw_g) rm (va_Pc av (zPre D k ws sz)) (va_Qi post (zB D k (va_A ws sz) wo) (va_A ws sz)) rm.cells rm.slots (va_A ws sz)
def zMl (l : Launch) (y : MethodName) (cc : ByteArray) (n : Nat) (ret : Option FieldType) (rm : Room) (D : va_G) (k : Nat → ClassId) (av : List Value) (ws : va_W) (post : Int64 → zS → Prop) (wo : zS → va_W) : Prop :=
  ∀ sz : Nat, Met l y (Cond.code y cc n ret :: lw_g) rm (va_Pc av (zPre D k ws sz)) (va_Ql post (zB D k (va_A ws sz) wo) (va_A ws sz)) rm.cells rm.slots (va_A ws sz)
def zMv (l : Launch) (y : MethodName) (cc : ByteArray) (n : Nat) (ret : Option FieldType) (rm : Room) (D : va_G) (k : Nat → ClassId) (av : List Value) (ws : va_W) (post : zS → Prop) (wo : zS → va_W) : Prop :=
  ∀ sz : Nat, Met l y (Cond.code y cc n ret :: lw_g) rm (va_Pc av (zPre D k ws sz)) (va_Qv post (zB D k (va_A ws sz) wo) (va_A ws sz)) rm.cells rm.slots (va_A ws sz)
def zMq (l : Launch) (y : MethodName) (cc : ByteArray) (n : Nat) (ret : Option FieldType) (rm : Room) (D : va_G) (k : Nat → ClassId) (av : List Value) (ws : va_W) (post : Option Nat → zS → Prop) (wo : zS → va_W) : Prop :=
  ∀ sz : Nat, Met l y (Cond.code y cc n ret :: lw_g) rm (va_Pc av (zPre D k ws sz)) (va_Qq post (zB D k (va_A ws sz) wo) (va_A ws sz)) rm.cells rm.slots (va_A ws sz)
def okd (y : MethodName) (n : Nat) : Prop := y.cls ≠ "java/lang/invoke/MethodHandle" ∧ y.cls ≠ "java/lang/invoke/VarHandle" ∧ (parseMethodDescriptor y.desc).map (fun d => d.parameters.length) = some n
def okV (C : String) (y : MethodName) (cc : ByteArray) (maxL : Nat) (ret : Option FieldType) (n : Nat) : Prop := Cond.instanceMethod y ∈ lw_g ∧ Cond.selects C y y ∈ lw_g ∧ Cond.initialized y.cls ∈ lw_g ∧ Cond.code y cc maxL ret ∈ lw_g ∧ okd y n
def okS (y : MethodName) (cc : ByteArray) (maxL : Nat) (ret : Option FieldType) (n : Nat) : Prop := Cond.static y ∈ lw_g ∧ Cond.initialized y.cls ∈ lw_g ∧ Cond.code y cc maxL ret ∈ lw_g ∧ okd y n
def okI (y : MethodName) (cc : ByteArray) (maxL : Nat) (n : Nat) : Prop := Cond.instanceMethod y ∈ lw_g ∧ Cond.initialized y.cls ∈ lw_g ∧ Cond.code y cc maxL none ∈ lw_g ∧ y.name = "<init>" ∧ okd y n
theorem z_good {y : MethodName} {cc : ByteArray} {maxL : Nat} {ret : Option FieldType} (h : Cond.code y cc maxL ret ∈ lw_g) : GoodIn lw_g (Cond.code y cc maxL ret :: lw_g) := by
  intro w hw
  rcases List.mem_cons.mp hw with rfl | hw
  · exact ⟨h, good_of_word (lw_g_good _ h)⟩
  · exact ⟨hw, good_of_word (lw_g_good _ hw)⟩
theorem z_sub {D : va_G} {cl : List vw_C} {ws wc : va_W} {H : Heap} (hP : va_P D cl ws H) (isC : List Nat) (hC : isC.map (fun i => ws[i]?) = wc.map some) : va_P D cl wc H := by
  intro j q hq
  have h1 : (isC.map (fun i => ws[i]?))[j]? = some (some q) := by rw [hC, List.getElem?_map, hq]; rfl
  rw [List.getElem?_map] at h1
  cases hi : isC[j]? with
  | none => rw [hi] at h1; cases h1
  | some i => rw [hi] at h1; exact hP i q (Option.some.inj h1)
theorem z_blind {D : va_G} {k : Nat → ClassId} {av : List Value} {ws : va_W} {sz : Nat} : FrameBlind (va_Pc av (zPre D k ws sz)) := by
  intro a U g mk q
  obtain ⟨q0, q1, qP, qK, qD, qN⟩ := q
  exact ⟨q0, q1, qP, va_K.moved (u := U) (U := U.calling g mk a) (Vm.Alike.refl U.vm) qK, qD, zN.warm (U := U.calling g mk a) (State.WarmedH.refl U) qN⟩
theorem z_pre {D : va_G} {k : Nat → ClassId} {av : List Value} {wc : va_W} {s : State} {H : Heap} {A : Nat → Prop} (hK : va_K D vwCl (TYk k) s) (hN : zN s) (hP : va_P D vwCl wc H) (hD : va_D A wc) : ∀ U : State, U.heap = H → s.WarmedH U.vm → va_Pc av (zPre D k wc H.size) av.toArray U :=
  fun U hU hW => ⟨rfl, by rw [hU], by rw [hU]; exact hP, va_K.moved hW.alike hK, hD.weaken (fun _ _ _ _ => trivial), hN.warm hW⟩
theorem z_RA {U : State} {c1 c2 : ClassId} {ty : FieldType} (h1 : va_RA U c1 ty) (h2 : va_RA U c2 ty) : c1 = c2 := by
  cases ty with
  | object C =>
    obtain ⟨_, _, -, -, -, h1⟩ := h1
    obtain ⟨_, _, -, -, -, h2⟩ := h2
    exact Option.some.inj (h1.symm.trans h2)
  | _ => exact Option.some.inj (h1.symm.trans h2)
section ZZ
variable {p : Program} {l : Launch} {e : Env} {R : Room} {s : State} {m : MethodId} {args : Array Value} {below : List Frame} {meth : Method} {c : Code} {H H0 : Heap} {locs : List Loc} {cells slots : Nat} {Q : State → Prop}
variable {cc bytes : ByteArray} {pc index maxL nL n : Nat} {ls : Array Slot} {rest st0 As : List Value} {D : va_G} {k : Nat → ClassId} {A : Nat → Prop} {ws wc wr : va_W} {wo : zS → va_W} {y : MethodName} {ret : Option FieldType} {rm : Room} {own C host : String} {b : Addr} {av : List Value}
theorem lv_toc {x v : Int32} (h : x = v) (kk : W p l e R s m args below meth c H locs cells slots Q (F0 m pc ls (.int v :: rest))) : W p l e R s m args below meth c H locs cells slots Q (F0 m pc ls (.int x :: rest)) := h ▸ kk
theorem lv_tocl {x v : Int64} (h : x = v) (kk : W p l e R s m args below meth c H locs cells slots Q (F0 m pc ls (.long v :: rest))) : W p l e R s m args below meth c H locs cells slots Q (F0 m pc ls (.long x :: rest)) := h ▸ kk
/-- a call's run -/
theorem z_runV {Pc : Array Value → State → Prop} {Qc : Array Value → State → Outcome → State → Prop} {free : Addr → Prop} (C0 : CallFix p m c cc nL s args lw_g own) (hM : Met l y (Cond.code y bytes maxL ret :: lw_g) rm Pc Qc rm.cells rm.slots free) (ok : okV C y bytes maxL ret n) (hlink : Cond.methodLink own index y ∈ lw_g) (hR : ((rm.frames + 1).ble R.frames && (8 + (maxL + 11) + rm.locals).ble R.locals) = true)
    (hp : PreV s H C b Pc As) (hn : As.length = n) (hsize : ls.size = nL) (hst : st0 = As.reverse ++ .ref b :: rest) (hW : (rest.map fun v => v.category).sum ≤ 8) (hdg : decode cc pc = .ok (.invokevirtual index, 3)) (hf : ((cells + rm.cells).ble R.cells && (slots + rm.slots).ble R.slots) = true) :
    va_Run p l e R s m args below meth c H locs cells slots rm.cells rm.slots (F0 m pc ls st0) rest (Qc (Value.ref b :: As).toArray) free := by
  obtain ⟨k1, k2, k3, k4, kd⟩ := ok
  have hts := C0.2.2.2.2
  simp only [Bool.and_eq_true, Nat.ble_eq] at hR hf
  exact va_runV C0 hM ⟨callB_of n hts (z_good k4) rfl rfl rfl (hts _ k3) (hts _ hlink) kd hR, hts _ k1, hts _ k2⟩ hp rfl hn hsize hst (lv_room hW) hdg hf
theorem z_runVN {Pc : Array Value → State → Prop} {Qc : Array Value → State → Outcome → State → Prop} {free : Addr → Prop} (C0 : CallFix p m c cc nL s args lw_g own) (hN : zN s) (hM : Met l y (Cond.code y bytes maxL ret :: lw_g) rm Pc Qc rm.cells rm.slots free) (ok : okV C y bytes maxL ret n) (hlink : Cond.methodLinkNest own index y host ∈ lw_nest) (hR : ((rm.frames + 1).ble R.frames && (8 + (maxL + 11) + rm.locals).ble R.locals) = true)
    (hp : PreV s H C b Pc As) (hn : As.length = n) (hsize : ls.size = nL) (hst : st0 = As.reverse ++ .ref b :: rest) (hW : (rest.map fun v => v.category).sum ≤ 8) (hdg : decode cc pc = .ok (.invokevirtual index, 3)) (hf : ((cells + rm.cells).ble R.cells && (slots + rm.slots).ble R.slots) = true) :
    va_Run p l e R s m args below meth c H locs cells slots rm.cells rm.slots (F0 m pc ls st0) rest (Qc (Value.ref b :: As).toArray) free := by
  obtain ⟨k1, k2, k3, k4, kd⟩ := ok
  have hts := C0.2.2.2.2
  simp only [Bool.and_eq_true, Nat.ble_eq] at hR hf
  exact va_runVN C0 hM ⟨va_cnB n hts (z_good k4) rfl rfl rfl (hN.1 _ hlink) (hts _ k3) kd hR, hts _ k1, hts _ k2⟩ hp rfl hn hsize hst (lv_room hW) hdg hf
theorem z_runS {Pc : Array Value → State → Prop} {Qc : Array Value → State → Outcome → State → Prop} {free : Addr → Prop} (C0 : CallFix p m c cc nL s args lw_g own) (hM : Met l y (Cond.code y bytes maxL ret :: lw_g) rm Pc Qc rm.cells rm.slots free) (ok : okS y bytes maxL ret n) (hlink : Cond.methodLink own index y ∈ lw_g) (hR : ((rm.frames + 1).ble R.frames && (8 + (maxL + 11) + rm.locals).ble R.locals) = true)
    (hp : PreS s H Pc As) (hn : As.length = n) (hsize : ls.size = nL) (hst : st0 = As.reverse ++ rest) (hW : (rest.map fun v => v.category).sum ≤ 8) (hdg : decode cc pc = .ok (.invokestatic index, 3)) (hf : ((cells + rm.cells).ble R.cells && (slots + rm.slots).ble R.slots) = true) :
    va_Run p l e R s m args below meth c H locs cells slots rm.cells rm.slots (F0 m pc ls st0) rest (Qc As.toArray) free := by
  obtain ⟨k1, k3, k4, kd⟩ := ok
  have hts := C0.2.2.2.2
  simp only [Bool.and_eq_true, Nat.ble_eq] at hR hf
  exact va_runS C0 hM ⟨callB_of n hts (z_good k4) rfl rfl rfl (hts _ k3) (hts _ hlink) kd hR, hts _ k1⟩ hp rfl hn hsize hst (lv_room hW) hdg hf
theorem z_runSN {Pc : Array Value → State → Prop} {Qc : Array Value → State → Outcome → State → Prop} {free : Addr → Prop} (C0 : CallFix p m c cc nL s args lw_g own) (hN : zN s) (hM : Met l y (Cond.code y bytes maxL ret :: lw_g) rm Pc Qc rm.cells rm.slots free) (ok : okS y bytes maxL ret n) (hlink : Cond.methodLinkNest own index y host ∈ lw_nest) (hR : ((rm.frames + 1).ble R.frames && (8 + (maxL + 11) + rm.locals).ble R.locals) = true)
    (hp : PreS s H Pc As) (hn : As.length = n) (hsize : ls.size = nL) (hst : st0 = As.reverse ++ rest) (hW : (rest.map fun v => v.category).sum ≤ 8) (hdg : decode cc pc = .ok (.invokestatic index, 3)) (hf : ((cells + rm.cells).ble R.cells && (slots + rm.slots).ble R.slots) = true) :
    va_Run p l e R s m args below meth c H locs cells slots rm.cells rm.slots (F0 m pc ls st0) rest (Qc As.toArray) free := by
  obtain ⟨k1, k3, k4, kd⟩ := ok
  have hts := C0.2.2.2.2
  simp only [Bool.and_eq_true, Nat.ble_eq] at hR hf
  exact va_runSN C0 hM ⟨va_cnB n hts (z_good k4) rfl rfl rfl (hN.1 _ hlink) (hts _ k3) kd hR, hts _ k1, trivial⟩ hp rfl hn hsize hst (lv_room hW) hdg hf
theorem z_runI {Pc : Array Value → State → Prop} {Qc : Array Value → State → Outcome → State → Prop} {free : Addr → Prop} (C0 : CallFix p m c cc nL s args lw_g own) (hM : Met l y (Cond.code y bytes maxL none :: lw_g) rm Pc Qc rm.cells rm.slots free) (ok : okI y bytes maxL n) (hlink : Cond.methodLink own index y ∈ lw_g) (hR : ((rm.frames + 1).ble R.frames && (8 + (maxL + 11) + rm.locals).ble R.locals) = true)
    (hp : PreS s H Pc (.ref b :: As)) (hn : As.length = n) (hsize : ls.size = nL) (hst : st0 = As.reverse ++ .ref b :: rest) (hW : (rest.map fun v => v.category).sum ≤ 8) (hdg : decode cc pc = .ok (.invokespecial index, 3)) (hf : ((cells + rm.cells).ble R.cells && (slots + rm.slots).ble R.slots) = true) :
    va_Run p l e R s m args below meth c H locs cells slots rm.cells rm.slots (F0 m pc ls st0) rest (Qc (Value.ref b :: As).toArray) free := by
  obtain ⟨k1, k3, k4, ky, kd⟩ := ok
  have hts := C0.2.2.2.2
  simp only [Bool.and_eq_true, Nat.ble_eq] at hR hf
  exact va_runI C0 hM ⟨callB_of n hts (z_good k4) rfl rfl rfl (hts _ k3) (hts _ hlink) kd hR, ky, hts _ k1⟩ hp rfl hn hsize hst (lv_room hW) hdg hf
theorem z_runIN {Pc : Array Value → State → Prop} {Qc : Array Value → State → Outcome → State → Prop} {free : Addr → Prop} (C0 : CallFix p m c cc nL s args lw_g own) (hN : zN s) (hM : Met l y (Cond.code y bytes maxL none :: lw_g) rm Pc Qc rm.cells rm.slots free) (ok : okI y bytes maxL n) (hlink : Cond.methodLinkNest own index y host ∈ lw_nest) (hR : ((rm.frames + 1).ble R.frames && (8 + (maxL + 11) + rm.locals).ble R.locals) = true)
    (hp : PreS s H Pc (.ref b :: As)) (hn : As.length = n) (hsize : ls.size = nL) (hst : st0 = As.reverse ++ .ref b :: rest) (hW : (rest.map fun v => v.category).sum ≤ 8) (hdg : decode cc pc = .ok (.invokespecial index, 3)) (hf : ((cells + rm.cells).ble R.cells && (slots + rm.slots).ble R.slots) = true) :
    va_Run p l e R s m args below meth c H locs cells slots rm.cells rm.slots (F0 m pc ls st0) rest (Qc (Value.ref b :: As).toArray) free := by
  obtain ⟨k1, k3, k4, ky, kd⟩ := ok
  have hts := C0.2.2.2.2
  simp only [Bool.and_eq_true, Nat.ble_eq] at hR hf
  exact va_runIN C0 hM ⟨va_cnB n hts (z_good k4) rfl rfl rfl (hN.1 _ hlink) (hts _ k3) kd hR, ky, hts _ k1⟩ hp rfl hn hsize hst (lv_room hW) hdg hf
/-- what a call's start wants: its cells out of the caller's -/
theorem z_pS (hK : va_K D vwCl (TYk k) s) (hN : zN s) (hP : va_P D vwCl ws H) (hD : va_D A ws) (isC : List Nat) (hn : va_nd isC = true) (hC : isC.map (fun i => ws[i]?) = wc.map some) : PreS s H (va_Pc av (zPre D k wc H.size)) av :=
  ⟨z_blind, z_pre hK hN (z_sub hP isC hC) (hD.sub isC hn hC)⟩
theorem z_pV {ci q0 : Nat} {r : vw_C} {fs : List Value} (hK : va_K D vwCl (TYk k) s) (hN : zN s) (hP : va_P D vwCl ws H) (hD : va_D A ws) (isC : List Nat) (hn : va_nd isC = true) (hC : isC.map (fun i => ws[i]?) = wc.map some) (he : ws[q0]? = some (b, .inr (ci, fs))) (hc : vwCl[ci]? = some r) (hr : r.1 = C) : PreV s H C b (va_Pc (.ref b :: As) (zPre D k wc H.size)) As :=
  ⟨z_blind, by rw [← hr]; exact va_recv hK hP hc he, z_pre hK hN (z_sub hP isC hC) (hD.sub isC hn hC)⟩
/-- behind a call -/
theorem z_bi {post : Int32 → zS → Prop} {a : Array Value} (hr : va_Run p l e R s m args below meth c H locs cells slots rm.cells rm.slots (F0 m pc ls st0) rest (va_Qi post (zB D k (va_A wc H.size) wo) (va_A wc H.size) a) (va_A wc H.size)) (hP : va_P D vwCl ws H) (hD : va_D A ws) (hS : va_S A H0 H locs) (hA : ∀ q, H0.size ≤ q → A q) (isC isR : List Nat) (hC : isC.map (fun i => ws[i]?) = wc.map some) (hR : isR.map (fun i => ws[i]?) = wr.map some) (hn : va_nd isR = true) (hdis : isR.all (fun i => !isC.contains i) = true)
    (kk : ∀ (r : Int32) (u : zS) (H1 : Heap) (locs1 : List Loc), post r u → va_P D vwCl (wr ++ wo u) H1 → va_D A (wr ++ wo u) → va_S A H0 H1 locs1 → W p l e R s m args below meth c H1 locs1 (cells + rm.cells) (slots + rm.slots) Q (F0 m (pc + 3) ls (.int r :: rest))) : W p l e R s m args below meth c H locs cells slots Q (F0 m pc ls st0) := by
  have hF := va_free (wc := wc) hD hS hA isC hC
  refine va_calli hr hS (fun q _ h => hF q h) hF (fun r u t H1 locs1 ht hvm hw hB hz1 hk1 hS1 => ?_)
  obtain ⟨hP1, hK1, hD1⟩ := hB
  rw [ht] at hP1
  obtain ⟨hP2, hD2⟩ := va_join (wr := wr) hP hD isC isR hC hR hn (fun i hi => by have := List.all_eq_true.mp hdis i hi; simpa using this) hk1 hF hP1 hD1
  exact kk r u H1 locs1 hw hP2 hD2 hS1
theorem z_bl {post : Int64 → zS → Prop} {a : Array Value} (hr : va_Run p l e R s m args below meth c H locs cells slots rm.cells rm.slots (F0 m pc ls st0) rest (va_Ql post (zB D k (va_A wc H.size) wo) (va_A wc H.size) a) (va_A wc H.size)) (hP : va_P D vwCl ws H) (hD : va_D A ws) (hS : va_S A H0 H locs) (hA : ∀ q, H0.size ≤ q → A q) (isC isR : List Nat) (hC : isC.map (fun i => ws[i]?) = wc.map some) (hR : isR.map (fun i => ws[i]?) = wr.map some) (hn : va_nd isR = true) (hdis : isR.all (fun i => !isC.contains i) = true)
    (kk : ∀ (r : Int64) (u : zS) (H1 : Heap) (locs1 : List Loc), post r u → va_P D vwCl (wr ++ wo u) H1 → va_D A (wr ++ wo u) → va_S A H0 H1 locs1 → W p l e R s m args below meth c H1 locs1 (cells + rm.cells) (slots + rm.slots) Q (F0 m (pc + 3) ls (.long r :: rest))) : W p l e R s m args below meth c H locs cells slots Q (F0 m pc ls st0) := by
  have hF := va_free (wc := wc) hD hS hA isC hC
  refine va_calll hr hS (fun q _ h => hF q h) hF (fun r u t H1 locs1 ht hvm hw hB hz1 hk1 hS1 => ?_)
  obtain ⟨hP1, hK1, hD1⟩ := hB
  rw [ht] at hP1
  obtain ⟨hP2, hD2⟩ := va_join (wr := wr) hP hD isC isR hC hR hn (fun i hi => by have := List.all_eq_true.mp hdis i hi; simpa using this) hk1 hF hP1 hD1
  exact kk r u H1 locs1 hw hP2 hD2 hS1
theorem z_bv {post : zS → Prop} {a : Array Value} (hr : va_Run p l e R s m args below meth c H locs cells slots rm.cells rm.slots (F0 m pc ls st0) rest (va_Qv post (zB D k (va_A wc H.size) wo) (va_A wc H.size) a) (va_A wc H.size)) (hP : va_P D vwCl ws H) (hD : va_D A ws) (hS : va_S A H0 H locs) (hA : ∀ q, H0.size ≤ q → A q) (isC isR : List Nat) (hC : isC.map (fun i => ws[i]?) = wc.map some) (hR : isR.map (fun i => ws[i]?) = wr.map some) (hn : va_nd isR = true) (hdis : isR.all (fun i => !isC.contains i) = true)
    (kk : ∀ (u : zS) (H1 : Heap) (locs1 : List Loc), post u → va_P D vwCl (wr ++ wo u) H1 → va_D A (wr ++ wo u) → va_S A H0 H1 locs1 → W p l e R s m args below meth c H1 locs1 (cells + rm.cells) (slots + rm.slots) Q (F0 m (pc + 3) ls rest)) : W p l e R s m args below meth c H locs cells slots Q (F0 m pc ls st0) := by
  have hF := va_free (wc := wc) hD hS hA isC hC
  refine va_callv hr hS (fun q _ h => hF q h) hF (fun u t H1 locs1 ht hvm hw hB hz1 hk1 hS1 => ?_)
  obtain ⟨hP1, hK1, hD1⟩ := hB
  rw [ht] at hP1
  obtain ⟨hP2, hD2⟩ := va_join (wr := wr) hP hD isC isR hC hR hn (fun i hi => by have := List.all_eq_true.mp hdis i hi; simpa using this) hk1 hF hP1 hD1
  exact kk u H1 locs1 hw hP2 hD2 hS1
theorem z_bq {post : Option Nat → zS → Prop} {a : Array Value} (hr : va_Run p l e R s m args below meth c H locs cells slots rm.cells rm.slots (F0 m pc ls st0) rest (va_Qq post (zB D k (va_A wc H.size) wo) (va_A wc H.size) a) (va_A wc H.size)) (hP : va_P D vwCl ws H) (hD : va_D A ws) (hS : va_S A H0 H locs) (hA : ∀ q, H0.size ≤ q → A q) (isC isR : List Nat) (hC : isC.map (fun i => ws[i]?) = wc.map some) (hR : isR.map (fun i => ws[i]?) = wr.map some) (hn : va_nd isR = true) (hdis : isR.all (fun i => !isC.contains i) = true)
    (kk : ∀ (r : Option Nat) (u : zS) (H1 : Heap) (locs1 : List Loc), post r u → va_P D vwCl (wr ++ wo u) H1 → va_D A (wr ++ wo u) → va_S A H0 H1 locs1 → W p l e R s m args below meth c H1 locs1 (cells + rm.cells) (slots + rm.slots) Q (F0 m (pc + 3) ls (va_rf r :: rest))) : W p l e R s m args below meth c H locs cells slots Q (F0 m pc ls st0) := by
  have hF := va_free (wc := wc) hD hS hA isC hC
  refine va_callq hr hS (fun q _ h => hF q h) hF (fun r u t H1 locs1 ht hvm hw hB hz1 hk1 hS1 => ?_)
  obtain ⟨hP1, hK1, hD1⟩ := hB
  rw [ht] at hP1
  obtain ⟨hP2, hD2⟩ := va_join (wr := wr) hP hD isC isR hC hR hn (fun i hi => by have := List.all_eq_true.mp hdis i hi; simpa using this) hk1 hF hP1 hD1
  exact kk r u H1 locs1 hw hP2 hD2 hS1
/-- new arrays are of the classes that the tables have -/
theorem z_newa {atype : ArrayType} (hexec : p.tables.exec = Jvm.exec) (hb : c.code = cc) (harr : (Cond.arrayClass (newarray.typeOf atype)).before args s = true) {ty : FieldType} (hty : newarray.typeOf atype = ty) (t0 : Nat) {kt : ClassId} (ht : (TYk k)[t0]? = some (kt, ty)) (hK : va_K D vwCl (TYk k) s) (hP : va_P D vwCl ws H) (hD : va_D A ws) (hS : va_S A H0 H locs) (hA : ∀ q, H0.size ≤ q → A q)
    {n : Int32} {N' : Nat} {a0 : vp_A} (ha : ∀ cA : ClassId, vp_cell cA a0 = arrV cA N' (fun _ => defaultValue ty)) (hn : ¬ n < 0) (hN : n.toNatClampNeg = N') (hbytes : N' * componentBytes ty ≤ 536870912) (hcells : cells + 1 ≤ R.cells) (hslots : slots + N' ≤ R.slots) (hdg : decode cc pc = .ok (.newarray atype, 2))
    (kk : ∀ (q : Nat) (H1 : Heap), va_P D vwCl (ws ++ [(q, .inl (kt, a0))]) H1 → va_D A (ws ++ [(q, .inl (kt, a0))]) → va_S A H0 H1 locs → W p l e R s m args below meth c H1 locs (cells + 1) (slots + N') Q (F0 m (pc + 2) ls (.ref q :: rest))) : W p l e R s m args below meth c H locs cells slots Q (F0 m pc ls (.int n :: rest)) := by
  refine va_newa hexec hb harr hty hK hP hD hS hA ha hn hN hbytes hcells hslots hdg (fun q cA H1 hK1 hP1 hD1 hS1 => ?_)
  have e1 := z_RA (hK1.2 5 (cA, ty) rfl).2 (hK.2 t0 _ ht).2
  subst e1
  exact kk q H1 hP1 hD1 hS1
theorem z_newq {index : Nat} (hexec : p.tables.exec = Jvm.exec) (hb : c.code = cc) (hown : s.vm.findClass own = some m.cls) (hclink : (Cond.classLink own index C).before args s = true) (hover : va_AO C s) (t0 : Nat) {kt : ClassId} (ht : (TYk k)[t0]? = some (kt, .object C)) (hK : va_K D vwCl (TYk k) s) (hP : va_P D vwCl ws H) (hD : va_D A ws) (hS : va_S A H0 H locs) (hA : ∀ q, H0.size ≤ q → A q)
    {n : Int32} {N' : Nat} (hn : ¬ n < 0) (hN : n.toNatClampNeg = N') (hbytes : N' * 4 ≤ 536870912) (hcells : cells + 1 ≤ R.cells) (hslots : slots + N' ≤ R.slots) (hdg : decode cc pc = .ok (.anewarray index, 3))
    (kk : ∀ (q : Nat) (H1 : Heap), va_P D vwCl (ws ++ [(q, .inl (kt, N', .inr (.inr (.inr (.inr (fun _ => none))))))]) H1 → va_D A (ws ++ [(q, .inl (kt, N', .inr (.inr (.inr (.inr (fun _ => none))))))]) → va_S A H0 H1 locs → W p l e R s m args below meth c H1 locs (cells + 1) (slots + N') Q (F0 m (pc + 3) ls (.ref q :: rest))) : W p l e R s m args below meth c H locs cells slots Q (F0 m pc ls (.int n :: rest)) := by
  refine va_newq hexec hb hown hclink hover hK hP hD hS hA hn hN hbytes hcells hslots hdg (fun q cA H1 hK1 hP1 hD1 hS1 => ?_)
  have e1 := z_RA (hK1.2 5 (cA, .object C) rfl).2 (hK.2 t0 _ ht).2
  subst e1
  exact kk q H1 hP1 hD1 hS1
end ZZ
end
section
/-! entries, returns, pure calls, comparisons of longs -/
def zBody (l : Launch) (y : MethodName) (cc : ByteArray) (n : Nat) (ret : Option FieldType) (rm : Room) (D : va_G) (k : Nat → ClassId) (av : List Value) (ws : va_W) (own : String) (Qq : (Nat → Prop) → Array Value → State → Outcome → State → Prop) : Prop :=
  ∀ (p : Program) (e : Env) (s : State) (m : MethodId) (args : Array Value) (below : List Frame) (meth : Method) (c : Code) (A : Nat → Prop) (ls : Array Slot), CallFix p m c cc n s args lw_g own → meth.sig.returnType = ret → meth.locks = false → meth.name = y.name → va_P D vwCl ws s.heap → va_D A ws → va_S A s.heap s.heap [] → (∀ q, s.heap.size ≤ q → A q) → va_K D vwCl (TYk k) s → zN s → lv_has ls n (lv_args 0 av) → W p l e rm s m args below meth c s.heap [] 0 0 (MQ below (Qq A) args s rm.cells rm.slots A) (F0 m 0 ls [])
section ZO
variable {l : Launch} {y : MethodName} {cc : ByteArray} {n : Nat} {ret : Option FieldType} {rm : Room} {D : va_G} {k : Nat → ClassId} {av : List Value} {ws : va_W} {own : String}
theorem z_of {Qq : (Nat → Prop) → Array Value → State → Outcome → State → Prop} (hy : plainName y.cls = true) (ho : y.cls = own) (hle : (lg_sl av).length ≤ n) (body : zBody l y cc n ret rm D k av ws own Qq) (sz : Nat) : Met l y (Cond.code y cc n ret :: lw_g) rm (va_Pc av (zPre D k ws sz)) (Qq (va_A ws sz)) rm.cells rm.slots (va_A ws sz) := by
  refine Met.ofW (cc := cc) (maxL := n) (ret := ret) hy rfl ?_
  intro p e s m args below meth c s₁ B hml hv
  obtain ⟨rfl, hsz, hP, hK, hD0, hN⟩ := hv
  have hts0 := atoms_spec (ws := Cond.code y cc n ret :: lw_g) B.pre
  have hown : s.vm.findClass own = some m.cls := by rw [← ho]; exact findClass_of_methodNamed B.named
  subst hsz
  have hl := lv_entry av (n := n) hle
  rw [lg_entry_eq]
  exact body p e s m _ below meth c _ _ ⟨B.exec, B.bytes, hml, hown, fun w h => hts0 w (List.mem_cons_of_mem _ h)⟩ B.returns B.notSynchronized (name_of_methodNamed B.named B.method).1 hP hD0.self va_S.rf (fun q h => Or.inr h) hK hN hl
theorem zMi_of {post : Int32 → zS → Prop} {wo : zS → va_W} (hy : plainName y.cls = true) (ho : y.cls = own) (hle : (lg_sl av).length ≤ n) (body : zBody l y cc n ret rm D k av ws own (fun A => va_Qi post (zB D k A wo) A)) : zMi l y cc n ret rm D k av ws post wo := fun sz => z_of (Qq := fun A => va_Qi post (zB D k A wo) A) hy ho hle body sz
theorem zMl_of {post : Int64 → zS → Prop} {wo : zS → va_W} (hy : plainName y.cls = true) (ho : y.cls = own) (hle : (lg_sl av).length ≤ n) (body : zBody l y cc n ret rm D k av ws own (fun A => va_Ql post (zB D k A wo) A)) : zMl l y cc n ret rm D k av ws post wo := fun sz => z_of (Qq := fun A => va_Ql post (zB D k A wo) A) hy ho hle body sz
theorem zMv_of {post : zS → Prop} {wo : zS → va_W} (hy : plainName y.cls = true) (ho : y.cls = own) (hle : (lg_sl av).length ≤ n) (body : zBody l y cc n ret rm D k av ws own (fun A => va_Qv post (zB D k A wo) A)) : zMv l y cc n ret rm D k av ws post wo := fun sz => z_of (Qq := fun A => va_Qv post (zB D k A wo) A) hy ho hle body sz
theorem zMq_of {post : Option Nat → zS → Prop} {wo : zS → va_W} (hy : plainName y.cls = true) (ho : y.cls = own) (hle : (lg_sl av).length ≤ n) (body : zBody l y cc n ret rm D k av ws own (fun A => va_Qq post (zB D k A wo) A)) : zMq l y cc n ret rm D k av ws post wo := fun sz => z_of (Qq := fun A => va_Qq post (zB D k A wo) A) hy ho hle body sz
end ZO
section ZR
variable {p : Program} {l : Launch} {e : Env} {R : Room} {s : State} {m : MethodId} {args : Array Value} {below : List Frame} {meth : Method} {c : Code} {H H0 : Heap} {locs : List Loc} {cells slots mc ms : Nat} {Q : State → Prop}
variable {cc bytes : ByteArray} {pc index maxL nL n : Nat} {ls : Array Slot} {rest st0 As : List Value} {D : va_G} {k : Nat → ClassId} {A : Nat → Prop} {ws wc wr : va_W} {wo : zS → va_W} {y : MethodName} {ret : Option FieldType} {rm : Room} {own C host : String} {b : Addr} {av : List Value}
theorem z_zB (u : zS) (hK : va_K D vwCl (TYk k) s) (hP : va_P D vwCl ws H) (hD : va_D A ws) (is : List Nat) (hn : va_nd is = true) (hi : is.map (fun i => ws[i]?) = (wo u).map some) (t : State) (ht : t.heap = H) (hW : s.WarmedH t.vm) : zB D k A wo u t :=
  ⟨by rw [ht]; exact z_sub hP is hi, va_K.moved hW.alike hK, hD.sub is hn hi⟩
theorem z_iret {post : Int32 → zS → Prop} {v : Int32} {ty : FieldType} (C0 : CallFix p m c cc nL s args lw_g own) (hr : meth.sig.returnType = some ty) (hlk : meth.locks = false) (hn : narrow ty (.int v) = .int v) (hK : va_K D vwCl (TYk k) s) (hP : va_P D vwCl ws H) (hD : va_D A ws) (hS : va_S A s.heap H locs) (u : zS) (hp : post v u) (is : List Nat) (hnd : va_nd is = true) (hi : is.map (fun i => ws[i]?) = (wo u).map some) (hz : (cells.ble mc && slots.ble ms) = true) (hdg : decode cc pc = .ok (.ireturn, 1)) : W p l e R s m args below meth c H locs cells slots (MQ below (va_Qi post (zB D k A wo) A) args s mc ms A) (F0 m pc ls [.int v]) := by
  simp only [Bool.and_eq_true, Nat.ble_eq] at hz
  refine W.widen (k := mc) (n := ms) hz.1 hz.2 ?_
  exact W.zret C0.1 C0.2.1 hr hn (fun t ht hW => ⟨⟨v, u, rfl, hp, z_zB u hK hP hD is hnd hi t ht hW⟩, hS.F ht⟩) hS.2.2 hdg hlk
theorem z_vret {post : zS → Prop} (C0 : CallFix p m c cc nL s args lw_g own) (hr : meth.sig.returnType = none) (hlk : meth.locks = false) (hK : va_K D vwCl (TYk k) s) (hP : va_P D vwCl ws H) (hD : va_D A ws) (hS : va_S A s.heap H locs) (u : zS) (hp : post u) (is : List Nat) (hnd : va_nd is = true) (hi : is.map (fun i => ws[i]?) = (wo u).map some) (hz : (cells.ble mc && slots.ble ms) = true) (hdg : decode cc pc = .ok (.return_, 1)) : W p l e R s m args below meth c H locs cells slots (MQ below (va_Qv post (zB D k A wo) A) args s mc ms A) (F0 m pc ls []) := by
  simp only [Bool.and_eq_true, Nat.ble_eq] at hz
  refine W.widen (k := mc) (n := ms) hz.1 hz.2 ?_
  exact W.vret C0.1 C0.2.1 hr (fun t ht hW => ⟨⟨u, rfl, hp, z_zB u hK hP hD is hnd hi t ht hW⟩, hS.F ht⟩) hS.2.2 hdg hlk
theorem z_qret {post : Option Nat → zS → Prop} {v : Value} {o : Option Nat} {rt : FieldType} (C0 : CallFix p m c cc nL s args lw_g own) (hr : meth.sig.returnType = some rt) (hrt : (∃ n, rt = .object n) ∨ ∃ t, rt = .array t) (hlk : meth.locks = false) (hv : v = va_rf o) (hK : va_K D vwCl (TYk k) s) (hP : va_P D vwCl ws H) (hD : va_D A ws) (hS : va_S A s.heap H locs) (u : zS) (hp : post o u) (is : List Nat) (hnd : va_nd is = true) (hi : is.map (fun i => ws[i]?) = (wo u).map some) (hz : (cells.ble mc && slots.ble ms) = true) (hdg : decode cc pc = .ok (.areturn, 1)) : W p l e R s m args below meth c H locs cells slots (MQ below (va_Qq post (zB D k A wo) A) args s mc ms A) (F0 m pc ls [v]) := by
  simp only [Bool.and_eq_true, Nat.ble_eq] at hz
  refine W.widen (k := mc) (n := ms) hz.1 hz.2 ?_
  subst hv
  exact W.aret C0.1 C0.2.1 hr hrt (va_rf_or o) (fun t ht hW => ⟨⟨o, u, rfl, hp, z_zB u hK hP hD is hnd hi t ht hW⟩, hS.F ht⟩) hS.2.2 hdg hlk
/-- behind a call that has no cells: the world stays as it is -/
theorem z_keep (hP : va_P D vwCl ws H) {H1 : Heap} (hk : ∀ q : Nat, q < H.size → ¬ va_A [] H.size q → H1[q]? = H[q]?) : va_P D vwCl ws H1 :=
  hP.kept (fun j q hq => hk q.1 (hP j q hq).lt (fun h => by
    rcases h with ⟨a, b, h⟩ | h
    · simp at h
    · exact absurd (hP j q hq).lt (Nat.not_lt.mpr h)))
theorem z_f0 (hS : va_S A H0 H locs) (hA : ∀ q, H0.size ≤ q → A q) : ∀ q, va_A [] H.size q → A q := by
  intro q h
  rcases h with ⟨a, b, h⟩ | h
  · simp at h
  · exact hA q (Nat.le_trans hS.1 h)
theorem z_bi0 {post : Int32 → zS → Prop} {a : Array Value} (hr : va_Run p l e R s m args below meth c H locs cells slots rm.cells rm.slots (F0 m pc ls st0) rest (va_Qi post (zB D k (va_A [] H.size) wo) (va_A [] H.size) a) (va_A [] H.size)) (hP : va_P D vwCl ws H) (hS : va_S A H0 H locs) (hA : ∀ q, H0.size ≤ q → A q)
    (kk : ∀ (r : Int32) (u : zS) (H1 : Heap) (locs1 : List Loc), post r u → va_P D vwCl ws H1 → va_S A H0 H1 locs1 → W p l e R s m args below meth c H1 locs1 (cells + rm.cells) (slots + rm.slots) Q (F0 m (pc + 3) ls (.int r :: rest))) : W p l e R s m args below meth c H locs cells slots Q (F0 m pc ls st0) :=
  va_calli hr hS (fun q _ h => z_f0 hS hA q h) (z_f0 hS hA) (fun r u t H1 locs1 ht hvm hw hB hz1 hk1 hS1 => kk r u H1 locs1 hw (z_keep hP hk1) hS1)
theorem z_bl0 {post : Int64 → zS → Prop} {a : Array Value} (hr : va_Run p l e R s m args below meth c H locs cells slots rm.cells rm.slots (F0 m pc ls st0) rest (va_Ql post (zB D k (va_A [] H.size) wo) (va_A [] H.size) a) (va_A [] H.size)) (hP : va_P D vwCl ws H) (hS : va_S A H0 H locs) (hA : ∀ q, H0.size ≤ q → A q)
    (kk : ∀ (r : Int64) (u : zS) (H1 : Heap) (locs1 : List Loc), post r u → va_P D vwCl ws H1 → va_S A H0 H1 locs1 → W p l e R s m args below meth c H1 locs1 (cells + rm.cells) (slots + rm.slots) Q (F0 m (pc + 3) ls (.long r :: rest))) : W p l e R s m args below meth c H locs cells slots Q (F0 m pc ls st0) :=
  va_calll hr hS (fun q _ h => z_f0 hS hA q h) (z_f0 hS hA) (fun r u t H1 locs1 ht hvm hw hB hz1 hk1 hS1 => kk r u H1 locs1 hw (z_keep hP hk1) hS1)
theorem z_p0 (hK : va_K D vwCl (TYk k) s) (hN : zN s) : PreS s H (va_Pc av (zPre D k [] H.size)) av :=
  ⟨z_blind, z_pre (A := fun _ => True) hK hN (fun j q h => by simp at h) ⟨fun i j x y h => by simp at h, fun j q h => by simp at h⟩⟩
/-- the script's ints by their places -/
theorem z_sld (hexec : p.tables.exec = Jvm.exec) (hb : c.code = cc) {b L : Nat} {xs : Nat → Int32} (hX : va_X b L xs s H0) (hbl : b < H0.size) (hbA : ¬ A b) (hS : va_S A H0 H locs) {i : Int32} (j : Nat) (hj : i.toNatClampNeg = j) (hin : vp_in i L) (hdg : decode cc pc = .ok (.iaload, 1))
    (kk : W p l e R s m args below meth c H locs cells slots Q (F0 m (pc + 1) ls (.int (xs j) :: rest))) : W p l e R s m args below meth c H locs cells slots Q (F0 m pc ls (.int i :: .ref b :: rest)) := by
  subst hj
  exact va_sld hexec hb hX hbl hbA hS hin hdg kk
end ZR
theorem lg_clt (x y : Int64) : lg_cmp x y < 0 ↔ x < y := by
  unfold lg_cmp
  rcases Int.lt_trichotomy x.toInt y.toInt with h | h | h
  · have h1 : x < y := Int64.lt_iff_toInt_lt.mpr h
    have h2 : ¬ y < x := fun q => by have := Int64.lt_iff_toInt_lt.mp q; omega
    have h3 : ¬ x = y := fun q => by subst q; omega
    simp [h1, h2, h3]
  · have h0 : x = y := Int64.toInt_inj.mp h
    subst h0
    simp [Int64.lt_iff_toInt_lt]
  · have h1 : y < x := Int64.lt_iff_toInt_lt.mpr h
    have h2 : ¬ x < y := fun q => by have := Int64.lt_iff_toInt_lt.mp q; omega
    simp [h1, h2]
theorem lg_cgt (x y : Int64) : 0 < lg_cmp x y ↔ y < x := by
  unfold lg_cmp
  rcases Int.lt_trichotomy x.toInt y.toInt with h | h | h
  · have h1 : x < y := Int64.lt_iff_toInt_lt.mpr h
    have h2 : ¬ y < x := fun q => by have := Int64.lt_iff_toInt_lt.mp q; omega
    have h3 : ¬ x = y := fun q => by subst q; omega
    simp [h2, h3]
  · have h0 : x = y := Int64.toInt_inj.mp h
    subst h0
    simp [Int64.lt_iff_toInt_lt]
  · have h1 : y < x := Int64.lt_iff_toInt_lt.mpr h
    simp [h1]
theorem lg_ceq (x y : Int64) : lg_cmp x y = 0 ↔ x = y := by
  unfold lg_cmp
  rcases Int.lt_trichotomy x.toInt y.toInt with h | h | h
  · have h2 : ¬ y < x := fun q => by have := Int64.lt_iff_toInt_lt.mp q; omega
    have h3 : ¬ x = y := fun q => by subst q; omega
    simp [h2, h3]
  · have h0 : x = y := Int64.toInt_inj.mp h
    subst h0
    simp [Int64.lt_iff_toInt_lt]
  · have h1 : y < x := Int64.lt_iff_toInt_lt.mpr h
    have h3 : ¬ x = y := fun q => by subst q; omega
    simp [h1, h3]
theorem lg_cge (x y : Int64) : 0 ≤ lg_cmp x y ↔ ¬ x < y := by rw [← lg_clt]; exact Int32.not_lt.symm
theorem lg_cle (x y : Int64) : lg_cmp x y ≤ 0 ↔ ¬ y < x := by rw [← lg_cgt]; exact Int32.not_lt.symm
theorem z_cellEq {D : va_G} {cl : List vw_C} {ws : va_W} {H : Heap} {q0 a : Nat} {cA : ClassId} {N : Nat} {f g : Nat → Int32} (hP : va_P D cl ws H) (he : ws[q0]? = some (a, .inl (cA, N, .inl f))) (hfg : ∀ j, j < N → f j = g j) : va_P D cl (ws.set q0 (a, .inl (cA, N, .inl g))) H := by
  intro j q hq
  by_cases hj : j = q0
  · subst hj
    have hl : j < ws.length := (List.getElem?_eq_some_iff.mp he).1
    rw [List.getElem?_set_self hl] at hq
    cases hq
    have h1 := hP j _ he
    show H[a]? = some (vp_cell _ _)
    have h2 : H[a]? = some (vp_cell cA (N, .inl f)) := h1
    rw [h2, vp_cell_i, vp_cell_i]
    congr 1
    unfold arrV
    congr 1
    congr 1
    funext i
    show Value.int (f i.val) = Value.int (g i.val)
    rw [hfg i.val i.isLt]
  · rw [List.getElem?_set_ne (fun h => hj h.symm)] at hq
    exact hP j q hq
end
section
theorem inX0 : ∀ w ∈ u_ws RX0 TX0 3, w ∈ lw_g := mk_u [205, 207, 209] (by decide +kernel) (by decide +kernel)
theorem dfX0 : ∀ j, j < 3 → defaultValue (tyX0 j) = vp_V [.int 0, .null, .null] j := by decide +kernel
theorem kI_X0 : Cond.instantiable RX0 3 ∈ lw_g := mk_k 191 (by decide +kernel) rfl
theorem kZ_X0 : Cond.initialized RX0 ∈ lw_g := mk_k 7 (by decide +kernel) rfl
theorem inX1 : ∀ w ∈ u_ws RX1 TX1 19, w ∈ lw_g := mk_u [424, 426, 428, 430, 432, 434, 436, 438, 440, 442, 444, 446, 448, 450, 452, 454, 456, 458, 460] (by decide +kernel) (by decide +kernel)
theorem dfX1 : ∀ j, j < 19 → defaultValue (tyX1 j) = vp_V [.null, .null, .null, .null, .null, .null, .null, .null, .int 0, .int 0, .int 0, .int 0, .int 0, .int 0, .int 0, .int 0, .int 0, .int 0, .int 0] j := by decide +kernel
theorem kI_X1 : Cond.instantiable RX1 19 ∈ lw_g := mk_k 399 (by decide +kernel) rfl
theorem kZ_X1 : Cond.initialized RX1 ∈ lw_g := mk_k 11 (by decide +kernel) rfl
theorem inX2 : ∀ w ∈ u_ws RX2 TX2 14, w ∈ lw_g := mk_u [490, 492, 494, 496, 498, 500, 502, 504, 506, 508, 510, 512, 514, 516] (by decide +kernel) (by decide +kernel)
theorem dfX2 : ∀ j, j < 14 → defaultValue (tyX2 j) = vp_V [.null, .null, .null, .int 0, .int 0, .null, .null, .null, .int 0, .int 0, .int 0, .null, .null, .null] j := by decide +kernel
theorem kI_X2 : Cond.instantiable RX2 14 ∈ lw_g := mk_k 465 (by decide +kernel) rfl
theorem kZ_X2 : Cond.initialized RX2 ∈ lw_g := mk_k 12 (by decide +kernel) rfl
theorem inX3 : ∀ w ∈ u_ws RX3 TX3 6, w ∈ lw_g := mk_u [321, 323, 325, 327, 329, 331] (by decide +kernel) (by decide +kernel)
theorem dfX3 : ∀ j, j < 6 → defaultValue (tyX3 j) = vp_V [.null, .null, .null, .null, .null, .null] j := by decide +kernel
theorem kI_X3 : Cond.instantiable RX3 6 ∈ lw_g := mk_k 27 (by decide +kernel) rfl
theorem kZ_X3 : Cond.initialized RX3 ∈ lw_g := mk_k 2 (by decide +kernel) rfl
theorem inX4 : ∀ w ∈ u_ws RX4 TX4 13, w ∈ lw_g := mk_u [276, 278, 280, 282, 284, 286, 288, 290, 292, 294, 296, 298, 300] (by decide +kernel) (by decide +kernel)
theorem dfX4 : ∀ j, j < 13 → defaultValue (tyX4 j) = vp_V [.int 0, .null, .int 0, .null, .null, .int 0, .null, .null, .null, .int 0, .null, .null, .null] j := by decide +kernel
theorem kI_X4 : Cond.instantiable RX4 13 ∈ lw_g := mk_k 234 (by decide +kernel) rfl
theorem kZ_X4 : Cond.initialized RX4 ∈ lw_g := mk_k 9 (by decide +kernel) rfl
theorem inX5 : ∀ w ∈ u_ws RX5 TX5 15, w ∈ lw_g := mk_u [159, 161, 163, 165, 167, 169, 171, 173, 175, 177, 179, 181, 183, 185, 187] (by decide +kernel) (by decide +kernel)
theorem dfX5 : ∀ j, j < 15 → defaultValue (tyX5 j) = vp_V [.int 0, .null, .null, .null, .null, .null, .null, .null, .null, .null, .null, .null, .null, .int 0, .int 0] j := by decide +kernel
theorem kI_X5 : Cond.instantiable RX5 15 ∈ lw_g := mk_k 126 (by decide +kernel) rfl
theorem kZ_X5 : Cond.initialized RX5 ∈ lw_g := mk_k 5 (by decide +kernel) rfl
theorem inX6 : ∀ w ∈ u_ws RX6 TX6 15, w ∈ lw_g := mk_u [64, 66, 68, 70, 72, 74, 76, 78, 80, 82, 84, 86, 88, 90, 92] (by decide +kernel) (by decide +kernel)
theorem dfX6 : ∀ j, j < 15 → defaultValue (tyX6 j) = vp_V [.int 0, .null, .null, .null, .null, .null, .int 0, .null, .int 0, .null, .null, .null, .null, .null, .null] j := by decide +kernel
theorem kI_X6 : Cond.instantiable RX6 15 ∈ lw_g := mk_k 33 (by decide +kernel) rfl
theorem kZ_X6 : Cond.initialized RX6 ∈ lw_g := mk_k 3 (by decide +kernel) rfl
theorem inX7 : ∀ w ∈ u_ws RX7 TX7 16, w ∈ lw_g := mk_u [365, 367, 369, 371, 373, 375, 377, 379, 381, 383, 385, 387, 389, 391, 393, 395] (by decide +kernel) (by decide +kernel)
theorem dfX7 : ∀ j, j < 16 → defaultValue (tyX7 j) = vp_V [.null, .int 0, .int 0, .int 0, .null, .null, .null, .null, .int 0, .int 0, .int 0, .int 0, .int 0, .int 0, .long 0, .int 0] j := by decide +kernel
theorem kI_X7 : Cond.instantiable RX7 16 ∈ lw_g := mk_k 336 (by decide +kernel) rfl
theorem kZ_X7 : Cond.initialized RX7 ∈ lw_g := mk_k 10 (by decide +kernel) rfl
theorem inX8 : ∀ w ∈ u_ws RX8 TX8 6, w ∈ lw_g := mk_u [112, 114, 116, 118, 120, 122] (by decide +kernel) (by decide +kernel)
theorem dfX8 : ∀ j, j < 6 → defaultValue (tyX8 j) = vp_V [.int 0, .null, .null, .null, .null, .null] j := by decide +kernel
theorem kI_X8 : Cond.instantiable RX8 6 ∈ lw_g := mk_k 97 (by decide +kernel) rfl
theorem kZ_X8 : Cond.initialized RX8 ∈ lw_g := mk_k 4 (by decide +kernel) rfl
theorem inX9 : ∀ w ∈ u_ws RX9 TX9 3, w ∈ lw_g := mk_u [226, 228, 230] (by decide +kernel) (by decide +kernel)
theorem dfX9 : ∀ j, j < 3 → defaultValue (tyX9 j) = vp_V [.null, .null, .null] j := by decide +kernel
theorem kI_X9 : Cond.instantiable RX9 3 ∈ lw_g := mk_k 213 (by decide +kernel) rfl
theorem kZ_X9 : Cond.initialized RX9 ∈ lw_g := mk_k 8 (by decide +kernel) rfl
theorem inX10 : ∀ w ∈ u_ws RX10 TX10 6, w ∈ lw_g := mk_u [870, 872, 874, 876, 878, 880] (by decide +kernel) (by decide +kernel)
theorem dfX10 : ∀ j, j < 6 → defaultValue (tyX10 j) = vp_V [.int 0, .int 0, .null, .null, .null, .null] j := by decide +kernel
theorem kI_X10 : Cond.instantiable RX10 6 ∈ lw_g := mk_k 839 (by decide +kernel) rfl
theorem kZ_X10 : Cond.initialized RX10 ∈ lw_g := mk_k 15 (by decide +kernel) rfl
theorem inX11 : ∀ w ∈ u_ws RX11 TX11 6, w ∈ lw_g := mk_u [525, 527, 529, 531, 533, 535] (by decide +kernel) (by decide +kernel)
theorem dfX11 : ∀ j, j < 6 → defaultValue (tyX11 j) = vp_V [.null, .null, .null, .null, .null, .int 0] j := by decide +kernel
theorem kI_X11 : Cond.instantiable RX11 6 ∈ lw_g := mk_k 19 (by decide +kernel) rfl
theorem kZ_X11 : Cond.initialized RX11 ∈ lw_g := mk_k 1 (by decide +kernel) rfl
theorem inX12 : ∀ w ∈ u_ws RX12 TX12 56, w ∈ lw_g := mk_u [1308, 1310, 1312, 1314, 1316, 1318, 1320, 1322, 1324, 1326, 1328, 1330, 1332, 1334, 1336, 1338, 1340, 1342, 1344, 1346, 1348, 1350, 1352, 1354, 1356, 1358, 1360, 1362, 1364, 1366, 1368, 1370, 1372, 1374, 1376, 1378, 1380, 1382, 1384, 1386, 1388, 1390, 1392, 1394, 1396, 1398, 1400, 1402, 1404, 1406, 1408, 1410, 1412, 1414, 1416, 1418] (by decide +kernel) (by decide +kernel)
theorem dfX12 : ∀ j, j < 56 → defaultValue (tyX12 j) = vp_V [.int 0, .int 0, .null, .null, .null, .int 0, .null, .null, .null, .null, .null, .int 0, .int 0, .int 0, .int 0, .long 0, .int 0, .int 0, .int 0, .null, .int 0, .null, .null, .int 0, .null, .null, .int 0, .int 0, .null, .null, .null, .null, .int 0, .long 0, .long 0, .int 0, .int 0, .int 0, .int 0, .null, .null, .int 0, .int 0, .int 0, .int 0, .null, .null, .int 0, .int 0, .null, .null, .null, .null, .int 0, .int 0, .int 0] j := by decide +kernel
theorem kI_X12 : Cond.instantiable RX12 56 ∈ lw_g := mk_k 1246 (by decide +kernel) rfl
theorem kZ_X12 : Cond.initialized RX12 ∈ lw_g := mk_k 13 (by decide +kernel) rfl
theorem kZ_J6 : Cond.initialized RJ6 ∈ lw_g := mk_k 17 (by decide +kernel) rfl
theorem kZ_J7 : Cond.initialized RJ7 ∈ lw_g := mk_k 6 (by decide +kernel) rfl
theorem kZ_J9 : Cond.initialized RJ9 ∈ lw_g := mk_k 14 (by decide +kernel) rfl
theorem kZ_J10 : Cond.initialized RJ10 ∈ lw_g := mk_k 16 (by decide +kernel) rfl
theorem kArr_int : Cond.arrayClass .int ∈ lw_g := mk_k 95 (by decide +kernel) rfl
theorem kArr_long : Cond.arrayClass .long ∈ lw_g := mk_k 463 (by decide +kernel) rfl
theorem kArr_boolean : Cond.arrayClass .boolean ∈ lw_g := mk_k 1421 (by decide +kernel) rfl
theorem kObjI : Cond.instanceMethod objectInit ∈ lw_g := mk_k 24 (by decide +kernel) rfl
theorem kObjC : Cond.code objectInit ⟨#[0xb1]⟩ 1 none ∈ lw_g := mk_k 25 (by decide +kernel) rfl
theorem kC_X0_9 : Cond.classLink RX0 9 RX10 ∈ lw_g := mk_k 196 (by decide +kernel) rfl
theorem kC_X11_20 : Cond.classLink RX11 20 RX7 ∈ lw_g := mk_k 335 (by decide +kernel) rfl
theorem kC_X11_27 : Cond.classLink RX11 27 RX1 ∈ lw_g := mk_k 398 (by decide +kernel) rfl
theorem kC_X11_36 : Cond.classLink RX11 36 RX2 ∈ lw_g := mk_k 464 (by decide +kernel) rfl
theorem kC_X11_9 : Cond.classLink RX11 9 RX3 ∈ lw_g := mk_k 26 (by decide +kernel) rfl
theorem kC_X3_16 : Cond.classLink RX3 16 RX8 ∈ lw_g := mk_k 96 (by decide +kernel) rfl
theorem kC_X3_23 : Cond.classLink RX3 23 RX5 ∈ lw_g := mk_k 125 (by decide +kernel) rfl
theorem kC_X3_30 : Cond.classLink RX3 30 RX0 ∈ lw_g := mk_k 190 (by decide +kernel) rfl
theorem kC_X3_37 : Cond.classLink RX3 37 RX9 ∈ lw_g := mk_k 212 (by decide +kernel) rfl
theorem kC_X3_44 : Cond.classLink RX3 44 RX4 ∈ lw_g := mk_k 233 (by decide +kernel) rfl
theorem kC_X3_7 : Cond.classLink RX3 7 RX6 ∈ lw_g := mk_k 32 (by decide +kernel) rfl
theorem kF_X0_11 : Cond.fieldLink RX0 11 "HalfDays$Acts" "text" "[LHalfDays$Text;" ∈ lw_g := mk_k 201 (by decide +kernel) rfl
theorem kF_X0_17 : Cond.fieldLink RX0 17 "HalfDays$Acts" "from" "[I" ∈ lw_g := mk_k 203 (by decide +kernel) rfl
theorem kF_X11_12 : Cond.fieldLink RX11 12 "HalfDays" "now" "LHalfDays$County;" ∈ lw_g := mk_k 519 (by decide +kernel) rfl
theorem kF_X11_16 : Cond.fieldLink RX11 16 "HalfDays" "images" "[LHalfDays$County;" ∈ lw_g := mk_k 520 (by decide +kernel) rfl
theorem kF_X11_23 : Cond.fieldLink RX11 23 "HalfDays" "reader" "LHalfDays$Reader;" ∈ lw_g := mk_k 521 (by decide +kernel) rfl
theorem kF_X11_32 : Cond.fieldLink RX11 32 "HalfDays" "asker" "LHalfDays$Asker;" ∈ lw_g := mk_k 522 (by decide +kernel) rfl
theorem kF_X11_383 : Cond.fieldLink RX11 383 "HalfDays" "refusal" "I" ∈ lw_g := mk_k 524 (by decide +kernel) rfl
theorem kF_X11_39 : Cond.fieldLink RX11 39 "HalfDays" "choices" "LHalfDays$Choices;" ∈ lw_g := mk_k 523 (by decide +kernel) rfl
theorem kF_X11_43 : Cond.fieldLink RX11 43 "HalfDays$County" "people" "LHalfDays$People;" ∈ lw_g := mk_k 305 (by decide +kernel) rfl
theorem kF_X11_59 : Cond.fieldLink RX11 59 "HalfDays$People" "children" "I" ∈ lw_g := mk_k 39 (by decide +kernel) rfl
theorem kF_X12_14 : Cond.fieldLink RX12 14 "HalfDaysModel" "images" "[I" ∈ lw_g := mk_k 1255 (by decide +kernel) rfl
theorem kF_X12_17 : Cond.fieldLink RX12 17 "HalfDaysModel" "isKept" "[Z" ∈ lw_g := mk_k 1256 (by decide +kernel) rfl
theorem kF_X12_21 : Cond.fieldLink RX12 21 "HalfDaysModel" "doesCount" "[Z" ∈ lw_g := mk_k 1258 (by decide +kernel) rfl
theorem kF_X12_24 : Cond.fieldLink RX12 24 "HalfDaysModel" "letterOf" "[I" ∈ lw_g := mk_k 1259 (by decide +kernel) rfl
theorem kF_X12_27 : Cond.fieldLink RX12 27 "HalfDaysModel" "kindOf" "[I" ∈ lw_g := mk_k 1260 (by decide +kernel) rfl
theorem kF_X12_30 : Cond.fieldLink RX12 30 "HalfDaysModel" "clauseOf" "[I" ∈ lw_g := mk_k 1261 (by decide +kernel) rfl
theorem kF_X12_33 : Cond.fieldLink RX12 33 "HalfDaysModel" "tape" "[I" ∈ lw_g := mk_k 1262 (by decide +kernel) rfl
theorem kF_X12_36 : Cond.fieldLink RX12 36 "HalfDaysModel" "fault" "I" ∈ lw_g := mk_k 1268 (by decide +kernel) rfl
theorem kF_X12_40 : Cond.fieldLink RX12 40 "HalfDaysModel" "nClause" "[I" ∈ lw_g := mk_k 1271 (by decide +kernel) rfl
theorem kF_X12_43 : Cond.fieldLink RX12 43 "HalfDaysModel" "nOp" "[I" ∈ lw_g := mk_k 1273 (by decide +kernel) rfl
theorem kF_X12_46 : Cond.fieldLink RX12 46 "HalfDaysModel" "nArg" "[I" ∈ lw_g := mk_k 1274 (by decide +kernel) rfl
theorem kF_X12_49 : Cond.fieldLink RX12 49 "HalfDaysModel" "pile" "[I" ∈ lw_g := mk_k 1276 (by decide +kernel) rfl
theorem kF_X12_52 : Cond.fieldLink RX12 52 "HalfDaysModel" "pileAt" "[I" ∈ lw_g := mk_k 1277 (by decide +kernel) rfl
theorem kF_X12_55 : Cond.fieldLink RX12 55 "HalfDaysModel" "isOnText" "[Z" ∈ lw_g := mk_k 1280 (by decide +kernel) rfl
theorem kF_X12_58 : Cond.fieldLink RX12 58 "HalfDaysModel" "isStruck" "[Z" ∈ lw_g := mk_k 1281 (by decide +kernel) rfl
theorem kF_X12_61 : Cond.fieldLink RX12 61 "HalfDaysModel" "set" "[J" ∈ lw_g := mk_k 1282 (by decide +kernel) rfl
theorem kF_X12_65 : Cond.fieldLink RX12 65 "HalfDaysModel" "rest" "[J" ∈ lw_g := mk_k 1283 (by decide +kernel) rfl
theorem kF_X12_68 : Cond.fieldLink RX12 68 "HalfDaysModel" "possibleTo" "[I" ∈ lw_g := mk_k 1291 (by decide +kernel) rfl
theorem kF_X12_7 : Cond.fieldLink RX12 7 "HalfDaysModel" "row" "[I" ∈ lw_g := mk_k 1254 (by decide +kernel) rfl
theorem kF_X12_71 : Cond.fieldLink RX12 71 "HalfDaysModel" "awayTo" "[I" ∈ lw_g := mk_k 1292 (by decide +kernel) rfl
theorem kF_X12_74 : Cond.fieldLink RX12 74 "HalfDaysModel" "joinRow" "[I" ∈ lw_g := mk_k 1297 (by decide +kernel) rfl
theorem kF_X12_77 : Cond.fieldLink RX12 77 "HalfDaysModel" "joinNow" "[I" ∈ lw_g := mk_k 1298 (by decide +kernel) rfl
theorem kF_X12_80 : Cond.fieldLink RX12 80 "HalfDaysModel" "ways" "[I" ∈ lw_g := mk_k 1301 (by decide +kernel) rfl
theorem kF_X12_83 : Cond.fieldLink RX12 83 "HalfDaysModel" "possibleOf" "[I" ∈ lw_g := mk_k 1302 (by decide +kernel) rfl
theorem kF_X12_86 : Cond.fieldLink RX12 86 "HalfDaysModel" "awayOf" "[I" ∈ lw_g := mk_k 1303 (by decide +kernel) rfl
theorem kF_X12_89 : Cond.fieldLink RX12 89 "HalfDaysModel" "kindWas" "[I" ∈ lw_g := mk_k 1304 (by decide +kernel) rfl
theorem kF_X12_92 : Cond.fieldLink RX12 92 "HalfDaysModel" "thrown" "I" ∈ lw_g := mk_k 1252 (by decide +kernel) rfl
theorem kF_X12_95 : Cond.fieldLink RX12 95 "HalfDaysModel" "status" "I" ∈ lw_g := mk_k 1253 (by decide +kernel) rfl
theorem kF_X1_15 : Cond.fieldLink RX1 15 "HalfDays$Asker" "struck" "[I" ∈ lw_g := mk_k 406 (by decide +kernel) rfl
theorem kF_X1_19 : Cond.fieldLink RX1 19 "HalfDays$Asker" "kinds" "[I" ∈ lw_g := mk_k 407 (by decide +kernel) rfl
theorem kF_X1_22 : Cond.fieldLink RX1 22 "HalfDays$Asker" "awayAhead" "[I" ∈ lw_g := mk_k 408 (by decide +kernel) rfl
theorem kF_X1_25 : Cond.fieldLink RX1 25 "HalfDays$Asker" "possibleAhead" "[I" ∈ lw_g := mk_k 409 (by decide +kernel) rfl
theorem kF_X1_28 : Cond.fieldLink RX1 28 "HalfDays$Asker" "weekPossible" "[I" ∈ lw_g := mk_k 410 (by decide +kernel) rfl
theorem kF_X1_31 : Cond.fieldLink RX1 31 "HalfDays$Asker" "weekAway" "[I" ∈ lw_g := mk_k 411 (by decide +kernel) rfl
theorem kF_X1_34 : Cond.fieldLink RX1 34 "HalfDays$Asker" "county" "LHalfDays$County;" ∈ lw_g := mk_k 404 (by decide +kernel) rfl
theorem kF_X1_9 : Cond.fieldLink RX1 9 "HalfDays$Asker" "stack" "[J" ∈ lw_g := mk_k 405 (by decide +kernel) rfl
theorem kF_X2_15 : Cond.fieldLink RX2 15 "HalfDays$Choices" "rivals" "I" ∈ lw_g := mk_k 476 (by decide +kernel) rfl
theorem kF_X2_19 : Cond.fieldLink RX2 19 "HalfDays$Choices" "like" "[I" ∈ lw_g := mk_k 478 (by decide +kernel) rfl
theorem kF_X2_22 : Cond.fieldLink RX2 22 "HalfDays$Choices" "joinScore" "[I" ∈ lw_g := mk_k 479 (by decide +kernel) rfl
theorem kF_X2_25 : Cond.fieldLink RX2 25 "HalfDays$Choices" "joinWays" "[I" ∈ lw_g := mk_k 480 (by decide +kernel) rfl
theorem kF_X2_28 : Cond.fieldLink RX2 28 "HalfDays$Choices" "way" "[I" ∈ lw_g := mk_k 487 (by decide +kernel) rfl
theorem kF_X2_31 : Cond.fieldLink RX2 31 "HalfDays$Choices" "officeWay" "[I" ∈ lw_g := mk_k 488 (by decide +kernel) rfl
theorem kF_X2_34 : Cond.fieldLink RX2 34 "HalfDays$Choices" "bySet" "[I" ∈ lw_g := mk_k 489 (by decide +kernel) rfl
theorem kF_X2_37 : Cond.fieldLink RX2 37 "HalfDays$County" "people" "LHalfDays$People;" ∈ lw_g := mk_k 304 (by decide +kernel) rfl
theorem kF_X2_43 : Cond.fieldLink RX2 43 "HalfDays$Choices" "people" "LHalfDays$People;" ∈ lw_g := mk_k 470 (by decide +kernel) rfl
theorem kF_X2_44 : Cond.fieldLink RX2 44 "HalfDays$County" "lists" "LHalfDays$Lists;" ∈ lw_g := mk_k 319 (by decide +kernel) rfl
theorem kF_X2_48 : Cond.fieldLink RX2 48 "HalfDays$Choices" "lists" "LHalfDays$Lists;" ∈ lw_g := mk_k 471 (by decide +kernel) rfl
theorem kF_X2_9 : Cond.fieldLink RX2 9 "HalfDays$Choices" "row" "[I" ∈ lw_g := mk_k 472 (by decide +kernel) rfl
theorem kF_X3_10 : Cond.fieldLink RX3 10 "HalfDays$County" "people" "LHalfDays$People;" ∈ lw_g := mk_k 303 (by decide +kernel) rfl
theorem kF_X3_19 : Cond.fieldLink RX3 19 "HalfDays$County" "rolls" "LHalfDays$Rolls;" ∈ lw_g := mk_k 307 (by decide +kernel) rfl
theorem kF_X3_26 : Cond.fieldLink RX3 26 "HalfDays$County" "marks" "LHalfDays$Marks;" ∈ lw_g := mk_k 309 (by decide +kernel) rfl
theorem kF_X3_33 : Cond.fieldLink RX3 33 "HalfDays$County" "acts" "LHalfDays$Acts;" ∈ lw_g := mk_k 312 (by decide +kernel) rfl
theorem kF_X3_40 : Cond.fieldLink RX3 40 "HalfDays$County" "steps" "LHalfDays$Steps;" ∈ lw_g := mk_k 315 (by decide +kernel) rfl
theorem kF_X3_47 : Cond.fieldLink RX3 47 "HalfDays$County" "lists" "LHalfDays$Lists;" ∈ lw_g := mk_k 318 (by decide +kernel) rfl
theorem kF_X4_15 : Cond.fieldLink RX4 15 "HalfDays$Lists" "missingChild" "[I" ∈ lw_g := mk_k 248 (by decide +kernel) rfl
theorem kF_X4_18 : Cond.fieldLink RX4 18 "HalfDays$Lists" "missingMarks" "[I" ∈ lw_g := mk_k 250 (by decide +kernel) rfl
theorem kF_X4_21 : Cond.fieldLink RX4 21 "HalfDays$Lists" "visitChild" "[I" ∈ lw_g := mk_k 256 (by decide +kernel) rfl
theorem kF_X4_24 : Cond.fieldLink RX4 24 "HalfDays$Lists" "visitMinutes" "[I" ∈ lw_g := mk_k 259 (by decide +kernel) rfl
theorem kF_X4_27 : Cond.fieldLink RX4 27 "HalfDays$Lists" "visitWorth" "[I" ∈ lw_g := mk_k 262 (by decide +kernel) rfl
theorem kF_X4_30 : Cond.fieldLink RX4 30 "HalfDays$Lists" "drawnChild" "[I" ∈ lw_g := mk_k 268 (by decide +kernel) rfl
theorem kF_X4_33 : Cond.fieldLink RX4 33 "HalfDays$Lists" "drawnGot" "[I" ∈ lw_g := mk_k 270 (by decide +kernel) rfl
theorem kF_X4_36 : Cond.fieldLink RX4 36 "HalfDays$Lists" "drawnDid" "[I" ∈ lw_g := mk_k 273 (by decide +kernel) rfl
theorem kF_X4_9 : Cond.fieldLink RX4 9 "HalfDays$Lists" "recordMarks" "[I" ∈ lw_g := mk_k 242 (by decide +kernel) rfl
theorem kF_X5_15 : Cond.fieldLink RX5 15 "HalfDays$Marks" "child" "[I" ∈ lw_g := mk_k 139 (by decide +kernel) rfl
theorem kF_X5_18 : Cond.fieldLink RX5 18 "HalfDays$Marks" "half" "[I" ∈ lw_g := mk_k 141 (by decide +kernel) rfl
theorem kF_X5_21 : Cond.fieldLink RX5 21 "HalfDays$Marks" "letter" "[I" ∈ lw_g := mk_k 144 (by decide +kernel) rfl
theorem kF_X5_24 : Cond.fieldLink RX5 24 "HalfDays$Marks" "minutes" "[I" ∈ lw_g := mk_k 145 (by decide +kernel) rfl
theorem kF_X5_27 : Cond.fieldLink RX5 27 "HalfDays$Marks" "known" "[I" ∈ lw_g := mk_k 148 (by decide +kernel) rfl
theorem kF_X5_30 : Cond.fieldLink RX5 30 "HalfDays$Marks" "granted" "[I" ∈ lw_g := mk_k 149 (by decide +kernel) rfl
theorem kF_X5_33 : Cond.fieldLink RX5 33 "HalfDays$Marks" "grantedFrom" "[I" ∈ lw_g := mk_k 151 (by decide +kernel) rfl
theorem kF_X5_36 : Cond.fieldLink RX5 36 "HalfDays$Marks" "next" "[I" ∈ lw_g := mk_k 153 (by decide +kernel) rfl
theorem kF_X5_39 : Cond.fieldLink RX5 39 "HalfDays$Marks" "sealedMarks" "[I" ∈ lw_g := mk_k 154 (by decide +kernel) rfl
theorem kF_X5_42 : Cond.fieldLink RX5 42 "HalfDays$Marks" "sealedSum" "[I" ∈ lw_g := mk_k 155 (by decide +kernel) rfl
theorem kF_X5_45 : Cond.fieldLink RX5 45 "HalfDays$Marks" "sealedPlaces" "[I" ∈ lw_g := mk_k 156 (by decide +kernel) rfl
theorem kF_X5_9 : Cond.fieldLink RX5 9 "HalfDays$Marks" "school" "[I" ∈ lw_g := mk_k 137 (by decide +kernel) rfl
theorem kF_X6_15 : Cond.fieldLink RX6 15 "HalfDays$People" "carer" "[I" ∈ lw_g := mk_k 43 (by decide +kernel) rfl
theorem kF_X6_18 : Cond.fieldLink RX6 18 "HalfDays$People" "route" "[I" ∈ lw_g := mk_k 45 (by decide +kernel) rfl
theorem kF_X6_21 : Cond.fieldLink RX6 21 "HalfDays$People" "x" "[I" ∈ lw_g := mk_k 47 (by decide +kernel) rfl
theorem kF_X6_24 : Cond.fieldLink RX6 24 "HalfDays$People" "y" "[I" ∈ lw_g := mk_k 49 (by decide +kernel) rfl
theorem kF_X6_27 : Cond.fieldLink RX6 27 "HalfDays$People" "shutOn" "[I" ∈ lw_g := mk_k 53 (by decide +kernel) rfl
theorem kF_X6_30 : Cond.fieldLink RX6 30 "HalfDays$People" "busRoute" "[I" ∈ lw_g := mk_k 57 (by decide +kernel) rfl
theorem kF_X6_33 : Cond.fieldLink RX6 33 "HalfDays$People" "busHalf" "[I" ∈ lw_g := mk_k 58 (by decide +kernel) rfl
theorem kF_X6_36 : Cond.fieldLink RX6 36 "HalfDays$People" "spans" "[I" ∈ lw_g := mk_k 59 (by decide +kernel) rfl
theorem kF_X6_39 : Cond.fieldLink RX6 39 "HalfDays$People" "spanChild" "[I" ∈ lw_g := mk_k 61 (by decide +kernel) rfl
theorem kF_X6_42 : Cond.fieldLink RX6 42 "HalfDays$People" "spanFrom" "[I" ∈ lw_g := mk_k 62 (by decide +kernel) rfl
theorem kF_X6_45 : Cond.fieldLink RX6 45 "HalfDays$People" "spanTo" "[I" ∈ lw_g := mk_k 63 (by decide +kernel) rfl
theorem kF_X6_48 : Cond.fieldLink RX6 48 "HalfDays$People" "children" "I" ∈ lw_g := mk_k 38 (by decide +kernel) rfl
theorem kF_X6_9 : Cond.fieldLink RX6 9 "HalfDays$People" "born" "[I" ∈ lw_g := mk_k 40 (by decide +kernel) rfl
theorem kF_X7_15 : Cond.fieldLink RX7 15 "HalfDays$Reader" "fault" "I" ∈ lw_g := mk_k 344 (by decide +kernel) rfl
theorem kF_X7_19 : Cond.fieldLink RX7 19 "HalfDays$Reader" "key" "[I" ∈ lw_g := mk_k 349 (by decide +kernel) rfl
theorem kF_X7_22 : Cond.fieldLink RX7 22 "HalfDays$Reader" "value" "[I" ∈ lw_g := mk_k 351 (by decide +kernel) rfl
theorem kF_X7_25 : Cond.fieldLink RX7 25 "HalfDays$Reader" "at" "[I" ∈ lw_g := mk_k 352 (by decide +kernel) rfl
theorem kF_X7_28 : Cond.fieldLink RX7 28 "HalfDays$Reader" "code" "[I" ∈ lw_g := mk_k 354 (by decide +kernel) rfl
theorem kF_X7_9 : Cond.fieldLink RX7 9 "HalfDays$Reader" "tape" "[I" ∈ lw_g := mk_k 341 (by decide +kernel) rfl
theorem kF_X8_15 : Cond.fieldLink RX8 15 "HalfDays$Rolls" "school" "[I" ∈ lw_g := mk_k 105 (by decide +kernel) rfl
theorem kF_X8_18 : Cond.fieldLink RX8 18 "HalfDays$Rolls" "first" "[I" ∈ lw_g := mk_k 106 (by decide +kernel) rfl
theorem kF_X8_21 : Cond.fieldLink RX8 21 "HalfDays$Rolls" "gone" "[I" ∈ lw_g := mk_k 108 (by decide +kernel) rfl
theorem kF_X8_24 : Cond.fieldLink RX8 24 "HalfDays$Rolls" "whither" "[I" ∈ lw_g := mk_k 110 (by decide +kernel) rfl
theorem kF_X8_9 : Cond.fieldLink RX8 9 "HalfDays$Rolls" "child" "[I" ∈ lw_g := mk_k 104 (by decide +kernel) rfl
theorem kF_X9_15 : Cond.fieldLink RX9 15 "HalfDays$Steps" "paidOn" "[I" ∈ lw_g := mk_k 222 (by decide +kernel) rfl
theorem kF_X9_18 : Cond.fieldLink RX9 18 "HalfDays$Steps" "paid" "[I" ∈ lw_g := mk_k 224 (by decide +kernel) rfl
theorem kF_X9_9 : Cond.fieldLink RX9 9 "HalfDays$Steps" "taken" "[I" ∈ lw_g := mk_k 219 (by decide +kernel) rfl
theorem kK_X12_13 : Cond.constant RX12 13 54202 ∈ lw_g := mk_k 1251 (by decide +kernel) rfl
theorem kL_X12_110 : Cond.constantLong RX12 110 3 ∈ lw_g := mk_k 1441 (by decide +kernel) rfl
theorem kL_X12_112 : Cond.constantLong RX12 112 18 ∈ lw_g := mk_k 1442 (by decide +kernel) rfl
theorem kL_X12_114 : Cond.constantLong RX12 114 (-1) ∈ lw_g := mk_k 1443 (by decide +kernel) rfl
theorem kL_X12_116 : Cond.constantLong RX12 116 7 ∈ lw_g := mk_k 1444 (by decide +kernel) rfl
theorem kL_X12_118 : Cond.constantLong RX12 118 99 ∈ lw_g := mk_k 1445 (by decide +kernel) rfl
theorem kM_X0_3 : Cond.methodLink RX0 3 objectInit ∈ lw_g := mk_k 195 (by decide +kernel) rfl
theorem kM_X11_29 : Cond.methodLink RX11 29 yX1_init ∈ lw_g := mk_k 400 (by decide +kernel) rfl
theorem kM_X11_3 : Cond.methodLink RX11 3 objectInit ∈ lw_g := mk_k 23 (by decide +kernel) rfl
theorem kM_X11_38 : Cond.methodLink RX11 38 yX2_init ∈ lw_g := mk_k 466 (by decide +kernel) rfl
theorem kM_X11_47 : Cond.methodLink RX11 47 yX11_isOutside ∈ lw_g := mk_k 542 (by decide +kernel) rfl
theorem kM_X11_51 : Cond.methodLink RX11 51 yX11_isNoPlace ∈ lw_g := mk_k 545 (by decide +kernel) rfl
theorem kM_X11_55 : Cond.methodLink RX11 55 yX11_answer ∈ lw_g := mk_k 548 (by decide +kernel) rfl
theorem kM_X11_65 : Cond.methodLink RX11 65 yX6_addChild ∈ lw_g := mk_k 552 (by decide +kernel) rfl
theorem kM_X12_1 : Cond.methodLink RX12 1 objectInit ∈ lw_g := mk_k 1250 (by decide +kernel) rfl
theorem kM_X12_100 : Cond.methodLink RX12 100 yX12_in ∈ lw_g := mk_k 1426 (by decide +kernel) rfl
theorem kM_X12_106 : Cond.methodLink RX12 106 yX12_told ∈ lw_g := mk_k 1429 (by decide +kernel) rfl
theorem kM_X12_120 : Cond.methodLink RX12 120 yX12_childAt ∈ lw_g := mk_k 1446 (by decide +kernel) rfl
theorem kM_X12_123 : Cond.methodLink RX12 123 yX12_addFour ∈ lw_g := mk_k 1449 (by decide +kernel) rfl
theorem kM_X1_3 : Cond.methodLink RX1 3 objectInit ∈ lw_g := mk_k 403 (by decide +kernel) rfl
theorem kM_X2_3 : Cond.methodLink RX2 3 objectInit ∈ lw_g := mk_k 469 (by decide +kernel) rfl
theorem kM_X3_1 : Cond.methodLink RX3 1 objectInit ∈ lw_g := mk_k 31 (by decide +kernel) rfl
theorem kM_X3_25 : Cond.methodLink RX3 25 yX5_init ∈ lw_g := mk_k 127 (by decide +kernel) rfl
theorem kM_X3_39 : Cond.methodLink RX3 39 yX9_init ∈ lw_g := mk_k 214 (by decide +kernel) rfl
theorem kM_X4_3 : Cond.methodLink RX4 3 objectInit ∈ lw_g := mk_k 238 (by decide +kernel) rfl
theorem kM_X5_3 : Cond.methodLink RX5 3 objectInit ∈ lw_g := mk_k 130 (by decide +kernel) rfl
theorem kM_X5_48 : Cond.methodLink RX5 48 yJ7_fill_53178 ∈ lw_g := mk_k 131 (by decide +kernel) rfl
theorem kM_X6_3 : Cond.methodLink RX6 3 objectInit ∈ lw_g := mk_k 37 (by decide +kernel) rfl
theorem kM_X7_3 : Cond.methodLink RX7 3 objectInit ∈ lw_g := mk_k 340 (by decide +kernel) rfl
theorem kM_X8_3 : Cond.methodLink RX8 3 objectInit ∈ lw_g := mk_k 101 (by decide +kernel) rfl
theorem kM_X9_21 : Cond.methodLink RX9 21 yJ7_fill_53178 ∈ lw_g := mk_k 218 (by decide +kernel) rfl
theorem kM_X9_3 : Cond.methodLink RX9 3 objectInit ∈ lw_g := mk_k 217 (by decide +kernel) rfl
theorem kN_X11_11 : Cond.methodLinkNest RX11 11 yX3_init "HalfDays" ∈ lw_nest := mk_n 28 (by decide +kernel) rfl
theorem kN_X11_22 : Cond.methodLinkNest RX11 22 yX7_init "HalfDays" ∈ lw_nest := mk_n 337 (by decide +kernel) rfl
theorem kN_X3_18 : Cond.methodLinkNest RX3 18 yX8_init "HalfDays" ∈ lw_nest := mk_n 98 (by decide +kernel) rfl
theorem kN_X3_32 : Cond.methodLinkNest RX3 32 yX0_init "HalfDays" ∈ lw_nest := mk_n 192 (by decide +kernel) rfl
theorem kN_X3_46 : Cond.methodLinkNest RX3 46 yX4_init "HalfDays" ∈ lw_nest := mk_n 235 (by decide +kernel) rfl
theorem kN_X3_9 : Cond.methodLinkNest RX3 9 yX6_init "HalfDays" ∈ lw_nest := mk_n 34 (by decide +kernel) rfl
theorem okI_X0_init : okI yX0_init cX0_init 1 0 := ⟨mk_k 193 (by decide +kernel) rfl, kZ_X0, mk_k 194 (by decide +kernel) rfl, rfl, ⟨by decide +kernel, by decide +kernel, by decide +kernel⟩⟩
theorem okI_X1_init : okI yX1_init cX1_init 2 1 := ⟨mk_k 401 (by decide +kernel) rfl, kZ_X1, mk_k 402 (by decide +kernel) rfl, rfl, ⟨by decide +kernel, by decide +kernel, by decide +kernel⟩⟩
theorem okI_X2_init : okI yX2_init cX2_init 2 1 := ⟨mk_k 467 (by decide +kernel) rfl, kZ_X2, mk_k 468 (by decide +kernel) rfl, rfl, ⟨by decide +kernel, by decide +kernel, by decide +kernel⟩⟩
theorem okI_X3_init : okI yX3_init cX3_init 1 0 := ⟨mk_k 29 (by decide +kernel) rfl, kZ_X3, mk_k 30 (by decide +kernel) rfl, rfl, ⟨by decide +kernel, by decide +kernel, by decide +kernel⟩⟩
theorem okI_X4_init : okI yX4_init cX4_init 1 0 := ⟨mk_k 236 (by decide +kernel) rfl, kZ_X4, mk_k 237 (by decide +kernel) rfl, rfl, ⟨by decide +kernel, by decide +kernel, by decide +kernel⟩⟩
theorem okI_X5_init : okI yX5_init cX5_init 1 0 := ⟨mk_k 128 (by decide +kernel) rfl, kZ_X5, mk_k 129 (by decide +kernel) rfl, rfl, ⟨by decide +kernel, by decide +kernel, by decide +kernel⟩⟩
theorem okI_X6_init : okI yX6_init cX6_init 1 0 := ⟨mk_k 35 (by decide +kernel) rfl, kZ_X6, mk_k 36 (by decide +kernel) rfl, rfl, ⟨by decide +kernel, by decide +kernel, by decide +kernel⟩⟩
theorem okI_X7_init : okI yX7_init cX7_init 1 0 := ⟨mk_k 338 (by decide +kernel) rfl, kZ_X7, mk_k 339 (by decide +kernel) rfl, rfl, ⟨by decide +kernel, by decide +kernel, by decide +kernel⟩⟩
theorem okI_X8_init : okI yX8_init cX8_init 1 0 := ⟨mk_k 99 (by decide +kernel) rfl, kZ_X8, mk_k 100 (by decide +kernel) rfl, rfl, ⟨by decide +kernel, by decide +kernel, by decide +kernel⟩⟩
theorem okI_X9_init : okI yX9_init cX9_init 1 0 := ⟨mk_k 215 (by decide +kernel) rfl, kZ_X9, mk_k 216 (by decide +kernel) rfl, rfl, ⟨by decide +kernel, by decide +kernel, by decide +kernel⟩⟩
theorem okS_J7_fill_53178 : okS yJ7_fill_53178 cJ7_fill_53178 4 none 2 := ⟨mk_k 132 (by decide +kernel) rfl, kZ_J7, mk_k 133 (by decide +kernel) rfl, ⟨by decide +kernel, by decide +kernel, by decide +kernel⟩⟩
theorem okS_X11_isNoPlace : okS yX11_isNoPlace cX11_isNoPlace 2 (some .boolean) 2 := ⟨mk_k 546 (by decide +kernel) rfl, kZ_X11, mk_k 547 (by decide +kernel) rfl, ⟨by decide +kernel, by decide +kernel, by decide +kernel⟩⟩
theorem okS_X11_isOutside : okS yX11_isOutside cX11_isOutside 3 (some .boolean) 3 := ⟨mk_k 543 (by decide +kernel) rfl, kZ_X11, mk_k 544 (by decide +kernel) rfl, ⟨by decide +kernel, by decide +kernel, by decide +kernel⟩⟩
theorem okS_X12_childAt : okS yX12_childAt cX12_childAt 1 (some .int) 1 := ⟨mk_k 1447 (by decide +kernel) rfl, kZ_X12, mk_k 1448 (by decide +kernel) rfl, ⟨by decide +kernel, by decide +kernel, by decide +kernel⟩⟩
theorem okS_X12_in : okS yX12_in cX12_in 6 (some .boolean) 3 := ⟨mk_k 1427 (by decide +kernel) rfl, kZ_X12, mk_k 1428 (by decide +kernel) rfl, ⟨by decide +kernel, by decide +kernel, by decide +kernel⟩⟩
theorem okV_X11_answer : okV RX11 yX11_answer cX11_answer 2 (some .int) 1 := ⟨mk_k 550 (by decide +kernel) rfl, mk_s 0 (by decide +kernel) rfl, kZ_X11, mk_k 551 (by decide +kernel) rfl, ⟨by decide +kernel, by decide +kernel, by decide +kernel⟩⟩
theorem okV_X12_addFour : okV RX12 yX12_addFour cX12_addFour 6 none 5 := ⟨mk_k 1451 (by decide +kernel) rfl, mk_s 39 (by decide +kernel) rfl, kZ_X12, mk_k 1452 (by decide +kernel) rfl, ⟨by decide +kernel, by decide +kernel, by decide +kernel⟩⟩
theorem okV_X12_told : okV RX12 yX12_told cX12_told 2 (some .int) 1 := ⟨mk_k 1431 (by decide +kernel) rfl, mk_s 38 (by decide +kernel) rfl, kZ_X12, mk_k 1432 (by decide +kernel) rfl, ⟨by decide +kernel, by decide +kernel, by decide +kernel⟩⟩
theorem okV_X6_addChild : okV RX6 yX6_addChild cX6_addChild 6 (some .int) 5 := ⟨mk_k 553 (by decide +kernel) rfl, mk_k 554 (by decide +kernel) rfl, kZ_X6, mk_k 555 (by decide +kernel) rfl, ⟨by decide +kernel, by decide +kernel, by decide +kernel⟩⟩
end
section
theorem dJ7_fill_53178_0 : decode cJ7_fill_53178 0 = .ok (.iconst 0, 1) := by decide +kernel
theorem dJ7_fill_53178_1 : decode cJ7_fill_53178 1 = .ok (.istore_n 2, 1) := by decide +kernel
theorem dJ7_fill_53178_2 : decode cJ7_fill_53178 2 = .ok (.aload_n 0, 1) := by decide +kernel
theorem dJ7_fill_53178_3 : decode cJ7_fill_53178 3 = .ok (.arraylength, 1) := by decide +kernel
theorem dJ7_fill_53178_4 : decode cJ7_fill_53178 4 = .ok (.istore_n 3, 1) := by decide +kernel
theorem dJ7_fill_53178_5 : decode cJ7_fill_53178 5 = .ok (.iload_n 2, 1) := by decide +kernel
theorem dJ7_fill_53178_6 : decode cJ7_fill_53178 6 = .ok (.iload_n 3, 1) := by decide +kernel
theorem dJ7_fill_53178_7 : decode cJ7_fill_53178 7 = .ok (.if_icmp .ge 13, 3) := by decide +kernel
theorem dJ7_fill_53178_10 : decode cJ7_fill_53178 10 = .ok (.aload_n 0, 1) := by decide +kernel
theorem dJ7_fill_53178_11 : decode cJ7_fill_53178 11 = .ok (.iload_n 2, 1) := by decide +kernel
theorem dJ7_fill_53178_12 : decode cJ7_fill_53178 12 = .ok (.iload_n 1, 1) := by decide +kernel
theorem dJ7_fill_53178_13 : decode cJ7_fill_53178 13 = .ok (.iastore, 1) := by decide +kernel
theorem dJ7_fill_53178_14 : decode cJ7_fill_53178 14 = .ok (.iinc 2 1, 3) := by decide +kernel
theorem dJ7_fill_53178_17 : decode cJ7_fill_53178 17 = .ok (.goto (-12), 3) := by decide +kernel
theorem dJ7_fill_53178_20 : decode cJ7_fill_53178 20 = .ok (.return_, 1) := by decide +kernel
theorem dX0_init_0 : decode cX0_init 0 = .ok (.aload_n 0, 1) := by decide +kernel
theorem dX0_init_1 : decode cX0_init 1 = .ok (.invokespecial 3, 3) := by decide +kernel
theorem dX0_init_4 : decode cX0_init 4 = .ok (.aload_n 0, 1) := by decide +kernel
theorem dX0_init_5 : decode cX0_init 5 = .ok (.bipush 20, 2) := by decide +kernel
theorem dX0_init_7 : decode cX0_init 7 = .ok (.anewarray 9, 3) := by decide +kernel
theorem dX0_init_10 : decode cX0_init 10 = .ok (.putfield 11, 3) := by decide +kernel
theorem dX0_init_13 : decode cX0_init 13 = .ok (.aload_n 0, 1) := by decide +kernel
theorem dX0_init_14 : decode cX0_init 14 = .ok (.bipush 20, 2) := by decide +kernel
theorem dX0_init_16 : decode cX0_init 16 = .ok (.newarray .int, 2) := by decide +kernel
theorem dX0_init_18 : decode cX0_init 18 = .ok (.putfield 17, 3) := by decide +kernel
theorem dX0_init_21 : decode cX0_init 21 = .ok (.return_, 1) := by decide +kernel
theorem dX11_answer_0 : decode cX11_answer 0 = .ok (.aload_n 0, 1) := by decide +kernel
theorem dX11_answer_1 : decode cX11_answer 1 = .ok (.iload_n 1, 1) := by decide +kernel
theorem dX11_answer_2 : decode cX11_answer 2 = .ok (.ifCond .ge 7, 3) := by decide +kernel
theorem dX11_answer_5 : decode cX11_answer 5 = .ok (.iload_n 1, 1) := by decide +kernel
theorem dX11_answer_6 : decode cX11_answer 6 = .ok (.goto 4, 3) := by decide +kernel
theorem dX11_answer_9 : decode cX11_answer 9 = .ok (.iconst 0, 1) := by decide +kernel
theorem dX11_answer_10 : decode cX11_answer 10 = .ok (.putfield 383, 3) := by decide +kernel
theorem dX11_answer_13 : decode cX11_answer 13 = .ok (.iload_n 1, 1) := by decide +kernel
theorem dX11_answer_14 : decode cX11_answer 14 = .ok (.ireturn, 1) := by decide +kernel
theorem dX11_child_0 : decode cX11_child 0 = .ok (.aload_n 0, 1) := by decide +kernel
theorem dX11_child_1 : decode cX11_child 1 = .ok (.getfield 12, 3) := by decide +kernel
theorem dX11_child_4 : decode cX11_child 4 = .ok (.getfield 43, 3) := by decide +kernel
theorem dX11_child_7 : decode cX11_child 7 = .ok (.astore 6, 2) := by decide +kernel
theorem dX11_child_9 : decode cX11_child 9 = .ok (.iload_n 1, 1) := by decide +kernel
theorem dX11_child_10 : decode cX11_child 10 = .ok (.iconst 3, 1) := by decide +kernel
theorem dX11_child_11 : decode cX11_child 11 = .ok (.bipush 18, 2) := by decide +kernel
theorem dX11_child_13 : decode cX11_child 13 = .ok (.invokestatic 47, 3) := by decide +kernel
theorem dX11_child_16 : decode cX11_child 16 = .ok (.ifCond .ne 23, 3) := by decide +kernel
theorem dX11_child_19 : decode cX11_child 19 = .ok (.iload_n 3, 1) := by decide +kernel
theorem dX11_child_20 : decode cX11_child 20 = .ok (.iconst (-1), 1) := by decide +kernel
theorem dX11_child_21 : decode cX11_child 21 = .ok (.bipush 7, 2) := by decide +kernel
theorem dX11_child_23 : decode cX11_child 23 = .ok (.invokestatic 47, 3) := by decide +kernel
theorem dX11_child_26 : decode cX11_child 26 = .ok (.ifCond .ne 13, 3) := by decide +kernel
theorem dX11_child_29 : decode cX11_child 29 = .ok (.iload 4, 2) := by decide +kernel
theorem dX11_child_31 : decode cX11_child 31 = .ok (.iload 5, 2) := by decide +kernel
theorem dX11_child_33 : decode cX11_child 33 = .ok (.invokestatic 51, 3) := by decide +kernel
theorem dX11_child_36 : decode cX11_child 36 = .ok (.ifCond .eq 9, 3) := by decide +kernel
theorem dX11_child_39 : decode cX11_child 39 = .ok (.aload_n 0, 1) := by decide +kernel
theorem dX11_child_40 : decode cX11_child 40 = .ok (.iconst (-1), 1) := by decide +kernel
theorem dX11_child_41 : decode cX11_child 41 = .ok (.invokevirtual 55, 3) := by decide +kernel
theorem dX11_child_44 : decode cX11_child 44 = .ok (.ireturn, 1) := by decide +kernel
theorem dX11_child_45 : decode cX11_child 45 = .ok (.aload 6, 2) := by decide +kernel
theorem dX11_child_47 : decode cX11_child 47 = .ok (.getfield 59, 3) := by decide +kernel
theorem dX11_child_50 : decode cX11_child 50 = .ok (.bipush 40, 2) := by decide +kernel
theorem dX11_child_52 : decode cX11_child 52 = .ok (.if_icmp .lt 10, 3) := by decide +kernel
theorem dX11_child_62 : decode cX11_child 62 = .ok (.aload_n 0, 1) := by decide +kernel
theorem dX11_child_63 : decode cX11_child 63 = .ok (.aload 6, 2) := by decide +kernel
theorem dX11_child_65 : decode cX11_child 65 = .ok (.iload_n 1, 1) := by decide +kernel
theorem dX11_child_66 : decode cX11_child 66 = .ok (.iload_n 2, 1) := by decide +kernel
theorem dX11_child_67 : decode cX11_child 67 = .ok (.iload_n 3, 1) := by decide +kernel
theorem dX11_child_68 : decode cX11_child 68 = .ok (.iload 4, 2) := by decide +kernel
theorem dX11_child_70 : decode cX11_child 70 = .ok (.iload 5, 2) := by decide +kernel
theorem dX11_child_72 : decode cX11_child 72 = .ok (.invokevirtual 65, 3) := by decide +kernel
theorem dX11_child_75 : decode cX11_child 75 = .ok (.invokevirtual 55, 3) := by decide +kernel
theorem dX11_child_78 : decode cX11_child 78 = .ok (.ireturn, 1) := by decide +kernel
theorem dX11_copyRow_0 : decode cX11_copyRow 0 = .ok (.aload_n 0, 1) := by decide +kernel
theorem dX11_copyRow_1 : decode cX11_copyRow 1 = .ok (.iconst 0, 1) := by decide +kernel
theorem dX11_copyRow_2 : decode cX11_copyRow 2 = .ok (.aload_n 1, 1) := by decide +kernel
theorem dX11_copyRow_3 : decode cX11_copyRow 3 = .ok (.iconst 0, 1) := by decide +kernel
theorem dX11_copyRow_4 : decode cX11_copyRow 4 = .ok (.aload_n 0, 1) := by decide +kernel
theorem dX11_copyRow_5 : decode cX11_copyRow 5 = .ok (.arraylength, 1) := by decide +kernel
theorem dX11_copyRow_6 : decode cX11_copyRow 6 = .ok (.aload_n 1, 1) := by decide +kernel
theorem dX11_copyRow_7 : decode cX11_copyRow 7 = .ok (.arraylength, 1) := by decide +kernel
theorem dX11_copyRow_8 : decode cX11_copyRow 8 = .ok (.invokestatic 390, 3) := by decide +kernel
theorem dX11_copyRow_11 : decode cX11_copyRow 11 = .ok (.invokestatic 395, 3) := by decide +kernel
theorem dX11_copyRow_14 : decode cX11_copyRow 14 = .ok (.return_, 1) := by decide +kernel
theorem dX11_init_0 : decode cX11_init 0 = .ok (.aload_n 0, 1) := by decide +kernel
theorem dX11_init_1 : decode cX11_init 1 = .ok (.invokespecial 3, 3) := by decide +kernel
theorem dX11_init_4 : decode cX11_init 4 = .ok (.aload_n 0, 1) := by decide +kernel
theorem dX11_init_5 : decode cX11_init 5 = .ok (.new 9, 3) := by decide +kernel
theorem dX11_init_8 : decode cX11_init 8 = .ok (.dup, 1) := by decide +kernel
theorem dX11_init_9 : decode cX11_init 9 = .ok (.invokespecial 11, 3) := by decide +kernel
theorem dX11_init_12 : decode cX11_init 12 = .ok (.putfield 12, 3) := by decide +kernel
theorem dX11_init_15 : decode cX11_init 15 = .ok (.aload_n 0, 1) := by decide +kernel
theorem dX11_init_16 : decode cX11_init 16 = .ok (.iconst 2, 1) := by decide +kernel
theorem dX11_init_17 : decode cX11_init 17 = .ok (.anewarray 9, 3) := by decide +kernel
theorem dX11_init_20 : decode cX11_init 20 = .ok (.putfield 16, 3) := by decide +kernel
theorem dX11_init_23 : decode cX11_init 23 = .ok (.aload_n 0, 1) := by decide +kernel
theorem dX11_init_24 : decode cX11_init 24 = .ok (.new 20, 3) := by decide +kernel
theorem dX11_init_27 : decode cX11_init 27 = .ok (.dup, 1) := by decide +kernel
theorem dX11_init_28 : decode cX11_init 28 = .ok (.invokespecial 22, 3) := by decide +kernel
theorem dX11_init_31 : decode cX11_init 31 = .ok (.putfield 23, 3) := by decide +kernel
theorem dX11_init_34 : decode cX11_init 34 = .ok (.aload_n 0, 1) := by decide +kernel
theorem dX11_init_35 : decode cX11_init 35 = .ok (.new 27, 3) := by decide +kernel
theorem dX11_init_38 : decode cX11_init 38 = .ok (.dup, 1) := by decide +kernel
theorem dX11_init_39 : decode cX11_init 39 = .ok (.aload_n 0, 1) := by decide +kernel
theorem dX11_init_40 : decode cX11_init 40 = .ok (.getfield 12, 3) := by decide +kernel
theorem dX11_init_43 : decode cX11_init 43 = .ok (.invokespecial 29, 3) := by decide +kernel
theorem dX11_init_46 : decode cX11_init 46 = .ok (.putfield 32, 3) := by decide +kernel
theorem dX11_init_49 : decode cX11_init 49 = .ok (.aload_n 0, 1) := by decide +kernel
theorem dX11_init_50 : decode cX11_init 50 = .ok (.new 36, 3) := by decide +kernel
theorem dX11_init_53 : decode cX11_init 53 = .ok (.dup, 1) := by decide +kernel
theorem dX11_init_54 : decode cX11_init 54 = .ok (.aload_n 0, 1) := by decide +kernel
theorem dX11_init_55 : decode cX11_init 55 = .ok (.getfield 12, 3) := by decide +kernel
theorem dX11_init_58 : decode cX11_init 58 = .ok (.invokespecial 38, 3) := by decide +kernel
theorem dX11_init_61 : decode cX11_init 61 = .ok (.putfield 39, 3) := by decide +kernel
theorem dX11_init_64 : decode cX11_init 64 = .ok (.return_, 1) := by decide +kernel
theorem dX11_isNoPlace_0 : decode cX11_isNoPlace 0 = .ok (.iload_n 0, 1) := by decide +kernel
theorem dX11_isNoPlace_1 : decode cX11_isNoPlace 1 = .ok (.iconst 0, 1) := by decide +kernel
theorem dX11_isNoPlace_2 : decode cX11_isNoPlace 2 = .ok (.bipush 99, 2) := by decide +kernel
theorem dX11_isNoPlace_4 : decode cX11_isNoPlace 4 = .ok (.invokestatic 47, 3) := by decide +kernel
theorem dX11_isNoPlace_7 : decode cX11_isNoPlace 7 = .ok (.ifCond .ne 13, 3) := by decide +kernel
theorem dX11_isNoPlace_10 : decode cX11_isNoPlace 10 = .ok (.iload_n 1, 1) := by decide +kernel
theorem dX11_isNoPlace_11 : decode cX11_isNoPlace 11 = .ok (.iconst 0, 1) := by decide +kernel
theorem dX11_isNoPlace_12 : decode cX11_isNoPlace 12 = .ok (.bipush 99, 2) := by decide +kernel
theorem dX11_isNoPlace_14 : decode cX11_isNoPlace 14 = .ok (.invokestatic 47, 3) := by decide +kernel
theorem dX11_isNoPlace_17 : decode cX11_isNoPlace 17 = .ok (.ifCond .eq 7, 3) := by decide +kernel
theorem dX11_isNoPlace_20 : decode cX11_isNoPlace 20 = .ok (.iconst 1, 1) := by decide +kernel
theorem dX11_isNoPlace_21 : decode cX11_isNoPlace 21 = .ok (.goto 4, 3) := by decide +kernel
theorem dX11_isNoPlace_24 : decode cX11_isNoPlace 24 = .ok (.iconst 0, 1) := by decide +kernel
theorem dX11_isNoPlace_25 : decode cX11_isNoPlace 25 = .ok (.ireturn, 1) := by decide +kernel
theorem dX11_isOutside_0 : decode cX11_isOutside 0 = .ok (.iload_n 0, 1) := by decide +kernel
theorem dX11_isOutside_1 : decode cX11_isOutside 1 = .ok (.iload_n 1, 1) := by decide +kernel
theorem dX11_isOutside_2 : decode cX11_isOutside 2 = .ok (.if_icmp .lt 8, 3) := by decide +kernel
theorem dX11_isOutside_5 : decode cX11_isOutside 5 = .ok (.iload_n 0, 1) := by decide +kernel
theorem dX11_isOutside_6 : decode cX11_isOutside 6 = .ok (.iload_n 2, 1) := by decide +kernel
theorem dX11_isOutside_7 : decode cX11_isOutside 7 = .ok (.if_icmp .le 7, 3) := by decide +kernel
theorem dX11_isOutside_10 : decode cX11_isOutside 10 = .ok (.iconst 1, 1) := by decide +kernel
theorem dX11_isOutside_11 : decode cX11_isOutside 11 = .ok (.goto 4, 3) := by decide +kernel
theorem dX11_isOutside_14 : decode cX11_isOutside 14 = .ok (.iconst 0, 1) := by decide +kernel
theorem dX11_isOutside_15 : decode cX11_isOutside 15 = .ok (.ireturn, 1) := by decide +kernel
theorem dX12_addFour_0 : decode cX12_addFour 0 = .ok (.aload_n 0, 1) := by decide +kernel
theorem dX12_addFour_1 : decode cX12_addFour 1 = .ok (.getfield 7, 3) := by decide +kernel
theorem dX12_addFour_4 : decode cX12_addFour 4 = .ok (.iload_n 1, 1) := by decide +kernel
theorem dX12_addFour_5 : decode cX12_addFour 5 = .ok (.iload_n 2, 1) := by decide +kernel
theorem dX12_addFour_6 : decode cX12_addFour 6 = .ok (.iastore, 1) := by decide +kernel
theorem dX12_addFour_7 : decode cX12_addFour 7 = .ok (.aload_n 0, 1) := by decide +kernel
theorem dX12_addFour_8 : decode cX12_addFour 8 = .ok (.getfield 7, 3) := by decide +kernel
theorem dX12_addFour_11 : decode cX12_addFour 11 = .ok (.iload_n 1, 1) := by decide +kernel
theorem dX12_addFour_12 : decode cX12_addFour 12 = .ok (.iconst 1, 1) := by decide +kernel
theorem dX12_addFour_13 : decode cX12_addFour 13 = .ok (.iadd, 1) := by decide +kernel
theorem dX12_addFour_14 : decode cX12_addFour 14 = .ok (.iload_n 3, 1) := by decide +kernel
theorem dX12_addFour_15 : decode cX12_addFour 15 = .ok (.iastore, 1) := by decide +kernel
theorem dX12_addFour_16 : decode cX12_addFour 16 = .ok (.aload_n 0, 1) := by decide +kernel
theorem dX12_addFour_17 : decode cX12_addFour 17 = .ok (.getfield 7, 3) := by decide +kernel
theorem dX12_addFour_20 : decode cX12_addFour 20 = .ok (.iload_n 1, 1) := by decide +kernel
theorem dX12_addFour_21 : decode cX12_addFour 21 = .ok (.iconst 2, 1) := by decide +kernel
theorem dX12_addFour_22 : decode cX12_addFour 22 = .ok (.iadd, 1) := by decide +kernel
theorem dX12_addFour_23 : decode cX12_addFour 23 = .ok (.iload 4, 2) := by decide +kernel
theorem dX12_addFour_25 : decode cX12_addFour 25 = .ok (.iastore, 1) := by decide +kernel
theorem dX12_addFour_26 : decode cX12_addFour 26 = .ok (.aload_n 0, 1) := by decide +kernel
theorem dX12_addFour_27 : decode cX12_addFour 27 = .ok (.getfield 7, 3) := by decide +kernel
theorem dX12_addFour_30 : decode cX12_addFour 30 = .ok (.iload_n 1, 1) := by decide +kernel
theorem dX12_addFour_31 : decode cX12_addFour 31 = .ok (.iconst 3, 1) := by decide +kernel
theorem dX12_addFour_32 : decode cX12_addFour 32 = .ok (.iadd, 1) := by decide +kernel
theorem dX12_addFour_33 : decode cX12_addFour 33 = .ok (.iload 5, 2) := by decide +kernel
theorem dX12_addFour_35 : decode cX12_addFour 35 = .ok (.iastore, 1) := by decide +kernel
theorem dX12_addFour_36 : decode cX12_addFour 36 = .ok (.return_, 1) := by decide +kernel
theorem dX12_child_0 : decode cX12_child 0 = .ok (.aload_n 0, 1) := by decide +kernel
theorem dX12_child_1 : decode cX12_child 1 = .ok (.iconst 0, 1) := by decide +kernel
theorem dX12_child_2 : decode cX12_child 2 = .ok (.putfield 92, 3) := by decide +kernel
theorem dX12_child_5 : decode cX12_child 5 = .ok (.iload_n 1, 1) := by decide +kernel
theorem dX12_child_6 : decode cX12_child 6 = .ok (.i2l, 1) := by decide +kernel
theorem dX12_child_7 : decode cX12_child 7 = .ok (.ldc2_w 110, 3) := by decide +kernel
theorem dX12_child_10 : decode cX12_child 10 = .ok (.ldc2_w 112, 3) := by decide +kernel
theorem dX12_child_13 : decode cX12_child 13 = .ok (.invokestatic 100, 3) := by decide +kernel
theorem dX12_child_16 : decode cX12_child 16 = .ok (.ifCond .eq 43, 3) := by decide +kernel
theorem dX12_child_19 : decode cX12_child 19 = .ok (.iload_n 3, 1) := by decide +kernel
theorem dX12_child_20 : decode cX12_child 20 = .ok (.i2l, 1) := by decide +kernel
theorem dX12_child_21 : decode cX12_child 21 = .ok (.ldc2_w 114, 3) := by decide +kernel
theorem dX12_child_24 : decode cX12_child 24 = .ok (.ldc2_w 116, 3) := by decide +kernel
theorem dX12_child_27 : decode cX12_child 27 = .ok (.invokestatic 100, 3) := by decide +kernel
theorem dX12_child_30 : decode cX12_child 30 = .ok (.ifCond .eq 29, 3) := by decide +kernel
theorem dX12_child_33 : decode cX12_child 33 = .ok (.iload 4, 2) := by decide +kernel
theorem dX12_child_35 : decode cX12_child 35 = .ok (.i2l, 1) := by decide +kernel
theorem dX12_child_36 : decode cX12_child 36 = .ok (.lconst 0, 1) := by decide +kernel
theorem dX12_child_37 : decode cX12_child 37 = .ok (.ldc2_w 118, 3) := by decide +kernel
theorem dX12_child_40 : decode cX12_child 40 = .ok (.invokestatic 100, 3) := by decide +kernel
theorem dX12_child_43 : decode cX12_child 43 = .ok (.ifCond .eq 16, 3) := by decide +kernel
theorem dX12_child_46 : decode cX12_child 46 = .ok (.iload 5, 2) := by decide +kernel
theorem dX12_child_48 : decode cX12_child 48 = .ok (.i2l, 1) := by decide +kernel
theorem dX12_child_49 : decode cX12_child 49 = .ok (.lconst 0, 1) := by decide +kernel
theorem dX12_child_50 : decode cX12_child 50 = .ok (.ldc2_w 118, 3) := by decide +kernel
theorem dX12_child_53 : decode cX12_child 53 = .ok (.invokestatic 100, 3) := by decide +kernel
theorem dX12_child_56 : decode cX12_child 56 = .ok (.ifCond .ne 9, 3) := by decide +kernel
theorem dX12_child_59 : decode cX12_child 59 = .ok (.aload_n 0, 1) := by decide +kernel
theorem dX12_child_60 : decode cX12_child 60 = .ok (.iconst (-1), 1) := by decide +kernel
theorem dX12_child_61 : decode cX12_child 61 = .ok (.invokevirtual 106, 3) := by decide +kernel
theorem dX12_child_64 : decode cX12_child 64 = .ok (.ireturn, 1) := by decide +kernel
theorem dX12_child_65 : decode cX12_child 65 = .ok (.aload_n 0, 1) := by decide +kernel
theorem dX12_child_66 : decode cX12_child 66 = .ok (.getfield 7, 3) := by decide +kernel
theorem dX12_child_69 : decode cX12_child 69 = .ok (.iconst 0, 1) := by decide +kernel
theorem dX12_child_70 : decode cX12_child 70 = .ok (.iaload, 1) := by decide +kernel
theorem dX12_child_71 : decode cX12_child 71 = .ok (.bipush 40, 2) := by decide +kernel
theorem dX12_child_73 : decode cX12_child 73 = .ok (.if_icmp .ne 10, 3) := by decide +kernel
theorem dX12_child_83 : decode cX12_child 83 = .ok (.aload_n 0, 1) := by decide +kernel
theorem dX12_child_84 : decode cX12_child 84 = .ok (.getfield 7, 3) := by decide +kernel
theorem dX12_child_87 : decode cX12_child 87 = .ok (.iconst 0, 1) := by decide +kernel
theorem dX12_child_88 : decode cX12_child 88 = .ok (.iaload, 1) := by decide +kernel
theorem dX12_child_89 : decode cX12_child 89 = .ok (.invokestatic 120, 3) := by decide +kernel
theorem dX12_child_92 : decode cX12_child 92 = .ok (.istore 6, 2) := by decide +kernel
theorem dX12_child_94 : decode cX12_child 94 = .ok (.aload_n 0, 1) := by decide +kernel
theorem dX12_child_95 : decode cX12_child 95 = .ok (.iload 6, 2) := by decide +kernel
theorem dX12_child_97 : decode cX12_child 97 = .ok (.iload_n 1, 1) := by decide +kernel
theorem dX12_child_98 : decode cX12_child 98 = .ok (.iload_n 2, 1) := by decide +kernel
theorem dX12_child_99 : decode cX12_child 99 = .ok (.ifCond .eq 7, 3) := by decide +kernel
theorem dX12_child_102 : decode cX12_child 102 = .ok (.iconst 1, 1) := by decide +kernel
theorem dX12_child_103 : decode cX12_child 103 = .ok (.goto 4, 3) := by decide +kernel
theorem dX12_child_106 : decode cX12_child 106 = .ok (.iconst 0, 1) := by decide +kernel
theorem dX12_child_107 : decode cX12_child 107 = .ok (.iload_n 3, 1) := by decide +kernel
theorem dX12_child_108 : decode cX12_child 108 = .ok (.iload 4, 2) := by decide +kernel
theorem dX12_child_110 : decode cX12_child 110 = .ok (.invokevirtual 123, 3) := by decide +kernel
theorem dX12_child_113 : decode cX12_child 113 = .ok (.aload_n 0, 1) := by decide +kernel
theorem dX12_child_114 : decode cX12_child 114 = .ok (.getfield 7, 3) := by decide +kernel
theorem dX12_child_117 : decode cX12_child 117 = .ok (.iload 6, 2) := by decide +kernel
theorem dX12_child_119 : decode cX12_child 119 = .ok (.iconst 4, 1) := by decide +kernel
theorem dX12_child_120 : decode cX12_child 120 = .ok (.iadd, 1) := by decide +kernel
theorem dX12_child_121 : decode cX12_child 121 = .ok (.iload 5, 2) := by decide +kernel
theorem dX12_child_123 : decode cX12_child 123 = .ok (.iastore, 1) := by decide +kernel
theorem dX12_child_124 : decode cX12_child 124 = .ok (.iconst 5, 1) := by decide +kernel
theorem dX12_child_125 : decode cX12_child 125 = .ok (.istore 7, 2) := by decide +kernel
theorem dX12_child_127 : decode cX12_child 127 = .ok (.iload 7, 2) := by decide +kernel
theorem dX12_child_129 : decode cX12_child 129 = .ok (.bipush 17, 2) := by decide +kernel
theorem dX12_child_131 : decode cX12_child 131 = .ok (.if_icmp .ge 31, 3) := by decide +kernel
theorem dX12_child_134 : decode cX12_child 134 = .ok (.aload_n 0, 1) := by decide +kernel
theorem dX12_child_135 : decode cX12_child 135 = .ok (.getfield 7, 3) := by decide +kernel
theorem dX12_child_138 : decode cX12_child 138 = .ok (.iload 6, 2) := by decide +kernel
theorem dX12_child_140 : decode cX12_child 140 = .ok (.iload 7, 2) := by decide +kernel
theorem dX12_child_142 : decode cX12_child 142 = .ok (.iadd, 1) := by decide +kernel
theorem dX12_child_143 : decode cX12_child 143 = .ok (.iload 7, 2) := by decide +kernel
theorem dX12_child_145 : decode cX12_child 145 = .ok (.bipush 13, 2) := by decide +kernel
theorem dX12_child_147 : decode cX12_child 147 = .ok (.if_icmp .ge 7, 3) := by decide +kernel
theorem dX12_child_150 : decode cX12_child 150 = .ok (.iconst (-1), 1) := by decide +kernel
theorem dX12_child_151 : decode cX12_child 151 = .ok (.goto 4, 3) := by decide +kernel
theorem dX12_child_154 : decode cX12_child 154 = .ok (.iconst 0, 1) := by decide +kernel
theorem dX12_child_155 : decode cX12_child 155 = .ok (.iastore, 1) := by decide +kernel
theorem dX12_child_156 : decode cX12_child 156 = .ok (.iinc 7 1, 3) := by decide +kernel
theorem dX12_child_159 : decode cX12_child 159 = .ok (.goto (-32), 3) := by decide +kernel
theorem dX12_child_162 : decode cX12_child 162 = .ok (.aload_n 0, 1) := by decide +kernel
theorem dX12_child_163 : decode cX12_child 163 = .ok (.getfield 7, 3) := by decide +kernel
theorem dX12_child_166 : decode cX12_child 166 = .ok (.iconst 0, 1) := by decide +kernel
theorem dX12_child_167 : decode cX12_child 167 = .ok (.dup2, 1) := by decide +kernel
theorem dX12_child_168 : decode cX12_child 168 = .ok (.iaload, 1) := by decide +kernel
theorem dX12_child_169 : decode cX12_child 169 = .ok (.iconst 1, 1) := by decide +kernel
theorem dX12_child_170 : decode cX12_child 170 = .ok (.iadd, 1) := by decide +kernel
theorem dX12_child_171 : decode cX12_child 171 = .ok (.iastore, 1) := by decide +kernel
theorem dX12_child_172 : decode cX12_child 172 = .ok (.aload_n 0, 1) := by decide +kernel
theorem dX12_child_173 : decode cX12_child 173 = .ok (.aload_n 0, 1) := by decide +kernel
theorem dX12_child_174 : decode cX12_child 174 = .ok (.getfield 7, 3) := by decide +kernel
theorem dX12_child_177 : decode cX12_child 177 = .ok (.iconst 0, 1) := by decide +kernel
theorem dX12_child_178 : decode cX12_child 178 = .ok (.iaload, 1) := by decide +kernel
theorem dX12_child_179 : decode cX12_child 179 = .ok (.iconst 1, 1) := by decide +kernel
theorem dX12_child_180 : decode cX12_child 180 = .ok (.isub, 1) := by decide +kernel
theorem dX12_child_181 : decode cX12_child 181 = .ok (.invokevirtual 106, 3) := by decide +kernel
theorem dX12_child_184 : decode cX12_child 184 = .ok (.ireturn, 1) := by decide +kernel
theorem dX12_childAt_0 : decode cX12_childAt 0 = .ok (.bipush 20, 2) := by decide +kernel
theorem dX12_childAt_2 : decode cX12_childAt 2 = .ok (.bipush 17, 2) := by decide +kernel
theorem dX12_childAt_4 : decode cX12_childAt 4 = .ok (.iload_n 0, 1) := by decide +kernel
theorem dX12_childAt_5 : decode cX12_childAt 5 = .ok (.imul, 1) := by decide +kernel
theorem dX12_childAt_6 : decode cX12_childAt 6 = .ok (.iadd, 1) := by decide +kernel
theorem dX12_childAt_7 : decode cX12_childAt 7 = .ok (.ireturn, 1) := by decide +kernel
theorem dX12_in_0 : decode cX12_in 0 = .ok (.lload_n 0, 1) := by decide +kernel
theorem dX12_in_1 : decode cX12_in 1 = .ok (.lload_n 2, 1) := by decide +kernel
theorem dX12_in_2 : decode cX12_in 2 = .ok (.lcmp, 1) := by decide +kernel
theorem dX12_in_3 : decode cX12_in 3 = .ok (.ifCond .lt 14, 3) := by decide +kernel
theorem dX12_in_6 : decode cX12_in 6 = .ok (.lload_n 0, 1) := by decide +kernel
theorem dX12_in_7 : decode cX12_in 7 = .ok (.lload 4, 2) := by decide +kernel
theorem dX12_in_9 : decode cX12_in 9 = .ok (.lcmp, 1) := by decide +kernel
theorem dX12_in_10 : decode cX12_in 10 = .ok (.ifCond .gt 7, 3) := by decide +kernel
theorem dX12_in_13 : decode cX12_in 13 = .ok (.iconst 1, 1) := by decide +kernel
theorem dX12_in_14 : decode cX12_in 14 = .ok (.goto 4, 3) := by decide +kernel
theorem dX12_in_17 : decode cX12_in 17 = .ok (.iconst 0, 1) := by decide +kernel
theorem dX12_in_18 : decode cX12_in 18 = .ok (.ireturn, 1) := by decide +kernel
theorem dX12_init_0 : decode cX12_init 0 = .ok (.aload_n 0, 1) := by decide +kernel
theorem dX12_init_1 : decode cX12_init 1 = .ok (.invokespecial 1, 3) := by decide +kernel
theorem dX12_init_4 : decode cX12_init 4 = .ok (.aload_n 0, 1) := by decide +kernel
theorem dX12_init_5 : decode cX12_init 5 = .ok (.sipush 27101, 3) := by decide +kernel
theorem dX12_init_8 : decode cX12_init 8 = .ok (.newarray .int, 2) := by decide +kernel
theorem dX12_init_10 : decode cX12_init 10 = .ok (.putfield 7, 3) := by decide +kernel
theorem dX12_init_13 : decode cX12_init 13 = .ok (.aload_n 0, 1) := by decide +kernel
theorem dX12_init_14 : decode cX12_init 14 = .ok (.ldc 13, 2) := by decide +kernel
theorem dX12_init_16 : decode cX12_init 16 = .ok (.newarray .int, 2) := by decide +kernel
theorem dX12_init_18 : decode cX12_init 18 = .ok (.putfield 14, 3) := by decide +kernel
theorem dX12_init_21 : decode cX12_init 21 = .ok (.aload_n 0, 1) := by decide +kernel
theorem dX12_init_22 : decode cX12_init 22 = .ok (.iconst 2, 1) := by decide +kernel
theorem dX12_init_23 : decode cX12_init 23 = .ok (.newarray .boolean, 2) := by decide +kernel
theorem dX12_init_25 : decode cX12_init 25 = .ok (.putfield 17, 3) := by decide +kernel
theorem dX12_init_28 : decode cX12_init 28 = .ok (.aload_n 0, 1) := by decide +kernel
theorem dX12_init_29 : decode cX12_init 29 = .ok (.sipush 400, 3) := by decide +kernel
theorem dX12_init_32 : decode cX12_init 32 = .ok (.newarray .boolean, 2) := by decide +kernel
theorem dX12_init_34 : decode cX12_init 34 = .ok (.putfield 21, 3) := by decide +kernel
theorem dX12_init_37 : decode cX12_init 37 = .ok (.aload_n 0, 1) := by decide +kernel
theorem dX12_init_38 : decode cX12_init 38 = .ok (.sipush 400, 3) := by decide +kernel
theorem dX12_init_41 : decode cX12_init 41 = .ok (.newarray .int, 2) := by decide +kernel
theorem dX12_init_43 : decode cX12_init 43 = .ok (.putfield 24, 3) := by decide +kernel
theorem dX12_init_46 : decode cX12_init 46 = .ok (.aload_n 0, 1) := by decide +kernel
theorem dX12_init_47 : decode cX12_init 47 = .ok (.sipush 400, 3) := by decide +kernel
theorem dX12_init_50 : decode cX12_init 50 = .ok (.newarray .int, 2) := by decide +kernel
theorem dX12_init_52 : decode cX12_init 52 = .ok (.putfield 27, 3) := by decide +kernel
theorem dX12_init_55 : decode cX12_init 55 = .ok (.aload_n 0, 1) := by decide +kernel
theorem dX12_init_56 : decode cX12_init 56 = .ok (.sipush 400, 3) := by decide +kernel
theorem dX12_init_59 : decode cX12_init 59 = .ok (.newarray .int, 2) := by decide +kernel
theorem dX12_init_61 : decode cX12_init 61 = .ok (.putfield 30, 3) := by decide +kernel
theorem dX12_init_64 : decode cX12_init 64 = .ok (.aload_n 0, 1) := by decide +kernel
theorem dX12_init_65 : decode cX12_init 65 = .ok (.sipush 400, 3) := by decide +kernel
theorem dX12_init_68 : decode cX12_init 68 = .ok (.newarray .int, 2) := by decide +kernel
theorem dX12_init_70 : decode cX12_init 70 = .ok (.putfield 33, 3) := by decide +kernel
theorem dX12_init_73 : decode cX12_init 73 = .ok (.aload_n 0, 1) := by decide +kernel
theorem dX12_init_74 : decode cX12_init 74 = .ok (.iconst (-1), 1) := by decide +kernel
theorem dX12_init_75 : decode cX12_init 75 = .ok (.putfield 36, 3) := by decide +kernel
theorem dX12_init_78 : decode cX12_init 78 = .ok (.aload_n 0, 1) := by decide +kernel
theorem dX12_init_79 : decode cX12_init 79 = .ok (.bipush 120, 2) := by decide +kernel
theorem dX12_init_81 : decode cX12_init 81 = .ok (.newarray .int, 2) := by decide +kernel
theorem dX12_init_83 : decode cX12_init 83 = .ok (.putfield 40, 3) := by decide +kernel
theorem dX12_init_86 : decode cX12_init 86 = .ok (.aload_n 0, 1) := by decide +kernel
theorem dX12_init_87 : decode cX12_init 87 = .ok (.sipush 400, 3) := by decide +kernel
theorem dX12_init_90 : decode cX12_init 90 = .ok (.newarray .int, 2) := by decide +kernel
theorem dX12_init_92 : decode cX12_init 92 = .ok (.putfield 43, 3) := by decide +kernel
theorem dX12_init_95 : decode cX12_init 95 = .ok (.aload_n 0, 1) := by decide +kernel
theorem dX12_init_96 : decode cX12_init 96 = .ok (.sipush 400, 3) := by decide +kernel
theorem dX12_init_99 : decode cX12_init 99 = .ok (.newarray .int, 2) := by decide +kernel
theorem dX12_init_101 : decode cX12_init 101 = .ok (.putfield 46, 3) := by decide +kernel
theorem dX12_init_104 : decode cX12_init 104 = .ok (.aload_n 0, 1) := by decide +kernel
theorem dX12_init_105 : decode cX12_init 105 = .ok (.sipush 400, 3) := by decide +kernel
theorem dX12_init_108 : decode cX12_init 108 = .ok (.newarray .int, 2) := by decide +kernel
theorem dX12_init_110 : decode cX12_init 110 = .ok (.putfield 49, 3) := by decide +kernel
theorem dX12_init_113 : decode cX12_init 113 = .ok (.aload_n 0, 1) := by decide +kernel
theorem dX12_init_114 : decode cX12_init 114 = .ok (.sipush 400, 3) := by decide +kernel
theorem dX12_init_117 : decode cX12_init 117 = .ok (.newarray .int, 2) := by decide +kernel
theorem dX12_init_119 : decode cX12_init 119 = .ok (.putfield 52, 3) := by decide +kernel
theorem dX12_init_122 : decode cX12_init 122 = .ok (.aload_n 0, 1) := by decide +kernel
theorem dX12_init_123 : decode cX12_init 123 = .ok (.bipush 20, 2) := by decide +kernel
theorem dX12_init_125 : decode cX12_init 125 = .ok (.newarray .boolean, 2) := by decide +kernel
theorem dX12_init_127 : decode cX12_init 127 = .ok (.putfield 55, 3) := by decide +kernel
theorem dX12_init_130 : decode cX12_init 130 = .ok (.aload_n 0, 1) := by decide +kernel
theorem dX12_init_131 : decode cX12_init 131 = .ok (.sipush 240, 3) := by decide +kernel
theorem dX12_init_134 : decode cX12_init 134 = .ok (.newarray .boolean, 2) := by decide +kernel
theorem dX12_init_136 : decode cX12_init 136 = .ok (.putfield 58, 3) := by decide +kernel
theorem dX12_init_139 : decode cX12_init 139 = .ok (.aload_n 0, 1) := by decide +kernel
theorem dX12_init_140 : decode cX12_init 140 = .ok (.bipush 16, 2) := by decide +kernel
theorem dX12_init_142 : decode cX12_init 142 = .ok (.newarray .long, 2) := by decide +kernel
theorem dX12_init_144 : decode cX12_init 144 = .ok (.putfield 61, 3) := by decide +kernel
theorem dX12_init_147 : decode cX12_init 147 = .ok (.aload_n 0, 1) := by decide +kernel
theorem dX12_init_148 : decode cX12_init 148 = .ok (.sipush 400, 3) := by decide +kernel
theorem dX12_init_151 : decode cX12_init 151 = .ok (.newarray .long, 2) := by decide +kernel
theorem dX12_init_153 : decode cX12_init 153 = .ok (.putfield 65, 3) := by decide +kernel
theorem dX12_init_156 : decode cX12_init 156 = .ok (.aload_n 0, 1) := by decide +kernel
theorem dX12_init_157 : decode cX12_init 157 = .ok (.sipush 401, 3) := by decide +kernel
theorem dX12_init_160 : decode cX12_init 160 = .ok (.newarray .int, 2) := by decide +kernel
theorem dX12_init_162 : decode cX12_init 162 = .ok (.putfield 68, 3) := by decide +kernel
theorem dX12_init_165 : decode cX12_init 165 = .ok (.aload_n 0, 1) := by decide +kernel
theorem dX12_init_166 : decode cX12_init 166 = .ok (.sipush 401, 3) := by decide +kernel
theorem dX12_init_169 : decode cX12_init 169 = .ok (.newarray .int, 2) := by decide +kernel
theorem dX12_init_171 : decode cX12_init 171 = .ok (.putfield 71, 3) := by decide +kernel
theorem dX12_init_174 : decode cX12_init 174 = .ok (.aload_n 0, 1) := by decide +kernel
theorem dX12_init_175 : decode cX12_init 175 = .ok (.bipush 6, 2) := by decide +kernel
theorem dX12_init_177 : decode cX12_init 177 = .ok (.newarray .int, 2) := by decide +kernel
theorem dX12_init_179 : decode cX12_init 179 = .ok (.putfield 74, 3) := by decide +kernel
theorem dX12_init_182 : decode cX12_init 182 = .ok (.aload_n 0, 1) := by decide +kernel
theorem dX12_init_183 : decode cX12_init 183 = .ok (.bipush 6, 2) := by decide +kernel
theorem dX12_init_185 : decode cX12_init 185 = .ok (.newarray .int, 2) := by decide +kernel
theorem dX12_init_187 : decode cX12_init 187 = .ok (.putfield 77, 3) := by decide +kernel
theorem dX12_init_190 : decode cX12_init 190 = .ok (.aload_n 0, 1) := by decide +kernel
theorem dX12_init_191 : decode cX12_init 191 = .ok (.sipush 4608, 3) := by decide +kernel
theorem dX12_init_194 : decode cX12_init 194 = .ok (.newarray .int, 2) := by decide +kernel
theorem dX12_init_196 : decode cX12_init 196 = .ok (.putfield 80, 3) := by decide +kernel
theorem dX12_init_199 : decode cX12_init 199 = .ok (.aload_n 0, 1) := by decide +kernel
theorem dX12_init_200 : decode cX12_init 200 = .ok (.iconst 5, 1) := by decide +kernel
theorem dX12_init_201 : decode cX12_init 201 = .ok (.newarray .int, 2) := by decide +kernel
theorem dX12_init_203 : decode cX12_init 203 = .ok (.putfield 83, 3) := by decide +kernel
theorem dX12_init_206 : decode cX12_init 206 = .ok (.aload_n 0, 1) := by decide +kernel
theorem dX12_init_207 : decode cX12_init 207 = .ok (.iconst 5, 1) := by decide +kernel
theorem dX12_init_208 : decode cX12_init 208 = .ok (.newarray .int, 2) := by decide +kernel
theorem dX12_init_210 : decode cX12_init 210 = .ok (.putfield 86, 3) := by decide +kernel
theorem dX12_init_213 : decode cX12_init 213 = .ok (.aload_n 0, 1) := by decide +kernel
theorem dX12_init_214 : decode cX12_init 214 = .ok (.sipush 400, 3) := by decide +kernel
theorem dX12_init_217 : decode cX12_init 217 = .ok (.newarray .int, 2) := by decide +kernel
theorem dX12_init_219 : decode cX12_init 219 = .ok (.putfield 89, 3) := by decide +kernel
theorem dX12_init_222 : decode cX12_init 222 = .ok (.return_, 1) := by decide +kernel
theorem dX12_told_0 : decode cX12_told 0 = .ok (.aload_n 0, 1) := by decide +kernel
theorem dX12_told_1 : decode cX12_told 1 = .ok (.iload_n 1, 1) := by decide +kernel
theorem dX12_told_2 : decode cX12_told 2 = .ok (.ifCond .ge 7, 3) := by decide +kernel
theorem dX12_told_5 : decode cX12_told 5 = .ok (.iload_n 1, 1) := by decide +kernel
theorem dX12_told_6 : decode cX12_told 6 = .ok (.goto 4, 3) := by decide +kernel
theorem dX12_told_9 : decode cX12_told 9 = .ok (.iconst 0, 1) := by decide +kernel
theorem dX12_told_10 : decode cX12_told 10 = .ok (.putfield 95, 3) := by decide +kernel
theorem dX12_told_13 : decode cX12_told 13 = .ok (.iload_n 1, 1) := by decide +kernel
theorem dX12_told_14 : decode cX12_told 14 = .ok (.ireturn, 1) := by decide +kernel
theorem dX1_init_0 : decode cX1_init 0 = .ok (.aload_n 0, 1) := by decide +kernel
theorem dX1_init_1 : decode cX1_init 1 = .ok (.invokespecial 3, 3) := by decide +kernel
theorem dX1_init_4 : decode cX1_init 4 = .ok (.aload_n 0, 1) := by decide +kernel
theorem dX1_init_5 : decode cX1_init 5 = .ok (.bipush 51, 2) := by decide +kernel
theorem dX1_init_7 : decode cX1_init 7 = .ok (.newarray .long, 2) := by decide +kernel
theorem dX1_init_9 : decode cX1_init 9 = .ok (.putfield 9, 3) := by decide +kernel
theorem dX1_init_12 : decode cX1_init 12 = .ok (.aload_n 0, 1) := by decide +kernel
theorem dX1_init_13 : decode cX1_init 13 = .ok (.bipush 20, 2) := by decide +kernel
theorem dX1_init_15 : decode cX1_init 15 = .ok (.newarray .int, 2) := by decide +kernel
theorem dX1_init_17 : decode cX1_init 17 = .ok (.putfield 15, 3) := by decide +kernel
theorem dX1_init_20 : decode cX1_init 20 = .ok (.aload_n 0, 1) := by decide +kernel
theorem dX1_init_21 : decode cX1_init 21 = .ok (.sipush 400, 3) := by decide +kernel
theorem dX1_init_24 : decode cX1_init 24 = .ok (.newarray .int, 2) := by decide +kernel
theorem dX1_init_26 : decode cX1_init 26 = .ok (.putfield 19, 3) := by decide +kernel
theorem dX1_init_29 : decode cX1_init 29 = .ok (.aload_n 0, 1) := by decide +kernel
theorem dX1_init_30 : decode cX1_init 30 = .ok (.sipush 401, 3) := by decide +kernel
theorem dX1_init_33 : decode cX1_init 33 = .ok (.newarray .int, 2) := by decide +kernel
theorem dX1_init_35 : decode cX1_init 35 = .ok (.putfield 22, 3) := by decide +kernel
theorem dX1_init_38 : decode cX1_init 38 = .ok (.aload_n 0, 1) := by decide +kernel
theorem dX1_init_39 : decode cX1_init 39 = .ok (.sipush 401, 3) := by decide +kernel
theorem dX1_init_42 : decode cX1_init 42 = .ok (.newarray .int, 2) := by decide +kernel
theorem dX1_init_44 : decode cX1_init 44 = .ok (.putfield 25, 3) := by decide +kernel
theorem dX1_init_47 : decode cX1_init 47 = .ok (.aload_n 0, 1) := by decide +kernel
theorem dX1_init_48 : decode cX1_init 48 = .ok (.iconst 5, 1) := by decide +kernel
theorem dX1_init_49 : decode cX1_init 49 = .ok (.newarray .int, 2) := by decide +kernel
theorem dX1_init_51 : decode cX1_init 51 = .ok (.putfield 28, 3) := by decide +kernel
theorem dX1_init_54 : decode cX1_init 54 = .ok (.aload_n 0, 1) := by decide +kernel
theorem dX1_init_55 : decode cX1_init 55 = .ok (.iconst 5, 1) := by decide +kernel
theorem dX1_init_56 : decode cX1_init 56 = .ok (.newarray .int, 2) := by decide +kernel
theorem dX1_init_58 : decode cX1_init 58 = .ok (.putfield 31, 3) := by decide +kernel
theorem dX1_init_61 : decode cX1_init 61 = .ok (.aload_n 0, 1) := by decide +kernel
theorem dX1_init_62 : decode cX1_init 62 = .ok (.aload_n 1, 1) := by decide +kernel
theorem dX1_init_63 : decode cX1_init 63 = .ok (.putfield 34, 3) := by decide +kernel
theorem dX1_init_66 : decode cX1_init 66 = .ok (.return_, 1) := by decide +kernel
theorem dX2_init_0 : decode cX2_init 0 = .ok (.aload_n 0, 1) := by decide +kernel
theorem dX2_init_1 : decode cX2_init 1 = .ok (.invokespecial 3, 3) := by decide +kernel
theorem dX2_init_4 : decode cX2_init 4 = .ok (.aload_n 0, 1) := by decide +kernel
theorem dX2_init_5 : decode cX2_init 5 = .ok (.bipush 6, 2) := by decide +kernel
theorem dX2_init_7 : decode cX2_init 7 = .ok (.newarray .int, 2) := by decide +kernel
theorem dX2_init_9 : decode cX2_init 9 = .ok (.putfield 9, 3) := by decide +kernel
theorem dX2_init_12 : decode cX2_init 12 = .ok (.aload_n 0, 1) := by decide +kernel
theorem dX2_init_13 : decode cX2_init 13 = .ok (.iconst (-1), 1) := by decide +kernel
theorem dX2_init_14 : decode cX2_init 14 = .ok (.putfield 15, 3) := by decide +kernel
theorem dX2_init_17 : decode cX2_init 17 = .ok (.aload_n 0, 1) := by decide +kernel
theorem dX2_init_18 : decode cX2_init 18 = .ok (.bipush 36, 2) := by decide +kernel
theorem dX2_init_20 : decode cX2_init 20 = .ok (.newarray .int, 2) := by decide +kernel
theorem dX2_init_22 : decode cX2_init 22 = .ok (.putfield 19, 3) := by decide +kernel
theorem dX2_init_25 : decode cX2_init 25 = .ok (.aload_n 0, 1) := by decide +kernel
theorem dX2_init_26 : decode cX2_init 26 = .ok (.sipush 448, 3) := by decide +kernel
theorem dX2_init_29 : decode cX2_init 29 = .ok (.newarray .int, 2) := by decide +kernel
theorem dX2_init_31 : decode cX2_init 31 = .ok (.putfield 22, 3) := by decide +kernel
theorem dX2_init_34 : decode cX2_init 34 = .ok (.aload_n 0, 1) := by decide +kernel
theorem dX2_init_35 : decode cX2_init 35 = .ok (.sipush 448, 3) := by decide +kernel
theorem dX2_init_38 : decode cX2_init 38 = .ok (.newarray .int, 2) := by decide +kernel
theorem dX2_init_40 : decode cX2_init 40 = .ok (.putfield 25, 3) := by decide +kernel
theorem dX2_init_43 : decode cX2_init 43 = .ok (.aload_n 0, 1) := by decide +kernel
theorem dX2_init_44 : decode cX2_init 44 = .ok (.bipush 81, 2) := by decide +kernel
theorem dX2_init_46 : decode cX2_init 46 = .ok (.newarray .int, 2) := by decide +kernel
theorem dX2_init_48 : decode cX2_init 48 = .ok (.putfield 28, 3) := by decide +kernel
theorem dX2_init_51 : decode cX2_init 51 = .ok (.aload_n 0, 1) := by decide +kernel
theorem dX2_init_52 : decode cX2_init 52 = .ok (.bipush 9, 2) := by decide +kernel
theorem dX2_init_54 : decode cX2_init 54 = .ok (.newarray .int, 2) := by decide +kernel
theorem dX2_init_56 : decode cX2_init 56 = .ok (.putfield 31, 3) := by decide +kernel
theorem dX2_init_59 : decode cX2_init 59 = .ok (.aload_n 0, 1) := by decide +kernel
theorem dX2_init_60 : decode cX2_init 60 = .ok (.sipush 4608, 3) := by decide +kernel
theorem dX2_init_63 : decode cX2_init 63 = .ok (.newarray .int, 2) := by decide +kernel
theorem dX2_init_65 : decode cX2_init 65 = .ok (.putfield 34, 3) := by decide +kernel
theorem dX2_init_68 : decode cX2_init 68 = .ok (.aload_n 0, 1) := by decide +kernel
theorem dX2_init_69 : decode cX2_init 69 = .ok (.aload_n 1, 1) := by decide +kernel
theorem dX2_init_70 : decode cX2_init 70 = .ok (.getfield 37, 3) := by decide +kernel
theorem dX2_init_73 : decode cX2_init 73 = .ok (.putfield 43, 3) := by decide +kernel
theorem dX2_init_76 : decode cX2_init 76 = .ok (.aload_n 0, 1) := by decide +kernel
theorem dX2_init_77 : decode cX2_init 77 = .ok (.aload_n 1, 1) := by decide +kernel
theorem dX2_init_78 : decode cX2_init 78 = .ok (.getfield 44, 3) := by decide +kernel
theorem dX2_init_81 : decode cX2_init 81 = .ok (.putfield 48, 3) := by decide +kernel
theorem dX2_init_84 : decode cX2_init 84 = .ok (.return_, 1) := by decide +kernel
theorem dX3_init_0 : decode cX3_init 0 = .ok (.aload_n 0, 1) := by decide +kernel
theorem dX3_init_1 : decode cX3_init 1 = .ok (.invokespecial 1, 3) := by decide +kernel
theorem dX3_init_4 : decode cX3_init 4 = .ok (.aload_n 0, 1) := by decide +kernel
theorem dX3_init_5 : decode cX3_init 5 = .ok (.new 7, 3) := by decide +kernel
theorem dX3_init_8 : decode cX3_init 8 = .ok (.dup, 1) := by decide +kernel
theorem dX3_init_9 : decode cX3_init 9 = .ok (.invokespecial 9, 3) := by decide +kernel
theorem dX3_init_12 : decode cX3_init 12 = .ok (.putfield 10, 3) := by decide +kernel
theorem dX3_init_15 : decode cX3_init 15 = .ok (.aload_n 0, 1) := by decide +kernel
theorem dX3_init_16 : decode cX3_init 16 = .ok (.new 16, 3) := by decide +kernel
theorem dX3_init_19 : decode cX3_init 19 = .ok (.dup, 1) := by decide +kernel
theorem dX3_init_20 : decode cX3_init 20 = .ok (.invokespecial 18, 3) := by decide +kernel
theorem dX3_init_23 : decode cX3_init 23 = .ok (.putfield 19, 3) := by decide +kernel
theorem dX3_init_26 : decode cX3_init 26 = .ok (.aload_n 0, 1) := by decide +kernel
theorem dX3_init_27 : decode cX3_init 27 = .ok (.new 23, 3) := by decide +kernel
theorem dX3_init_30 : decode cX3_init 30 = .ok (.dup, 1) := by decide +kernel
theorem dX3_init_31 : decode cX3_init 31 = .ok (.invokespecial 25, 3) := by decide +kernel
theorem dX3_init_34 : decode cX3_init 34 = .ok (.putfield 26, 3) := by decide +kernel
theorem dX3_init_37 : decode cX3_init 37 = .ok (.aload_n 0, 1) := by decide +kernel
theorem dX3_init_38 : decode cX3_init 38 = .ok (.new 30, 3) := by decide +kernel
theorem dX3_init_41 : decode cX3_init 41 = .ok (.dup, 1) := by decide +kernel
theorem dX3_init_42 : decode cX3_init 42 = .ok (.invokespecial 32, 3) := by decide +kernel
theorem dX3_init_45 : decode cX3_init 45 = .ok (.putfield 33, 3) := by decide +kernel
theorem dX3_init_48 : decode cX3_init 48 = .ok (.aload_n 0, 1) := by decide +kernel
theorem dX3_init_49 : decode cX3_init 49 = .ok (.new 37, 3) := by decide +kernel
theorem dX3_init_52 : decode cX3_init 52 = .ok (.dup, 1) := by decide +kernel
theorem dX3_init_53 : decode cX3_init 53 = .ok (.invokespecial 39, 3) := by decide +kernel
theorem dX3_init_56 : decode cX3_init 56 = .ok (.putfield 40, 3) := by decide +kernel
theorem dX3_init_59 : decode cX3_init 59 = .ok (.aload_n 0, 1) := by decide +kernel
theorem dX3_init_60 : decode cX3_init 60 = .ok (.new 44, 3) := by decide +kernel
theorem dX3_init_63 : decode cX3_init 63 = .ok (.dup, 1) := by decide +kernel
theorem dX3_init_64 : decode cX3_init 64 = .ok (.invokespecial 46, 3) := by decide +kernel
theorem dX3_init_67 : decode cX3_init 67 = .ok (.putfield 47, 3) := by decide +kernel
theorem dX3_init_70 : decode cX3_init 70 = .ok (.return_, 1) := by decide +kernel
theorem dX4_init_0 : decode cX4_init 0 = .ok (.aload_n 0, 1) := by decide +kernel
theorem dX4_init_1 : decode cX4_init 1 = .ok (.invokespecial 3, 3) := by decide +kernel
theorem dX4_init_4 : decode cX4_init 4 = .ok (.aload_n 0, 1) := by decide +kernel
theorem dX4_init_5 : decode cX4_init 5 = .ok (.bipush 6, 2) := by decide +kernel
theorem dX4_init_7 : decode cX4_init 7 = .ok (.newarray .int, 2) := by decide +kernel
theorem dX4_init_9 : decode cX4_init 9 = .ok (.putfield 9, 3) := by decide +kernel
theorem dX4_init_12 : decode cX4_init 12 = .ok (.aload_n 0, 1) := by decide +kernel
theorem dX4_init_13 : decode cX4_init 13 = .ok (.bipush 6, 2) := by decide +kernel
theorem dX4_init_15 : decode cX4_init 15 = .ok (.newarray .int, 2) := by decide +kernel
theorem dX4_init_17 : decode cX4_init 17 = .ok (.putfield 15, 3) := by decide +kernel
theorem dX4_init_20 : decode cX4_init 20 = .ok (.aload_n 0, 1) := by decide +kernel
theorem dX4_init_21 : decode cX4_init 21 = .ok (.bipush 6, 2) := by decide +kernel
theorem dX4_init_23 : decode cX4_init 23 = .ok (.newarray .int, 2) := by decide +kernel
theorem dX4_init_25 : decode cX4_init 25 = .ok (.putfield 18, 3) := by decide +kernel
theorem dX4_init_28 : decode cX4_init 28 = .ok (.aload_n 0, 1) := by decide +kernel
theorem dX4_init_29 : decode cX4_init 29 = .ok (.bipush 9, 2) := by decide +kernel
theorem dX4_init_31 : decode cX4_init 31 = .ok (.newarray .int, 2) := by decide +kernel
theorem dX4_init_33 : decode cX4_init 33 = .ok (.putfield 21, 3) := by decide +kernel
theorem dX4_init_36 : decode cX4_init 36 = .ok (.aload_n 0, 1) := by decide +kernel
theorem dX4_init_37 : decode cX4_init 37 = .ok (.bipush 9, 2) := by decide +kernel
theorem dX4_init_39 : decode cX4_init 39 = .ok (.newarray .int, 2) := by decide +kernel
theorem dX4_init_41 : decode cX4_init 41 = .ok (.putfield 24, 3) := by decide +kernel
theorem dX4_init_44 : decode cX4_init 44 = .ok (.aload_n 0, 1) := by decide +kernel
theorem dX4_init_45 : decode cX4_init 45 = .ok (.bipush 9, 2) := by decide +kernel
theorem dX4_init_47 : decode cX4_init 47 = .ok (.newarray .int, 2) := by decide +kernel
theorem dX4_init_49 : decode cX4_init 49 = .ok (.putfield 27, 3) := by decide +kernel
theorem dX4_init_52 : decode cX4_init 52 = .ok (.aload_n 0, 1) := by decide +kernel
theorem dX4_init_53 : decode cX4_init 53 = .ok (.bipush 12, 2) := by decide +kernel
theorem dX4_init_55 : decode cX4_init 55 = .ok (.newarray .int, 2) := by decide +kernel
theorem dX4_init_57 : decode cX4_init 57 = .ok (.putfield 30, 3) := by decide +kernel
theorem dX4_init_60 : decode cX4_init 60 = .ok (.aload_n 0, 1) := by decide +kernel
theorem dX4_init_61 : decode cX4_init 61 = .ok (.bipush 12, 2) := by decide +kernel
theorem dX4_init_63 : decode cX4_init 63 = .ok (.newarray .int, 2) := by decide +kernel
theorem dX4_init_65 : decode cX4_init 65 = .ok (.putfield 33, 3) := by decide +kernel
theorem dX4_init_68 : decode cX4_init 68 = .ok (.aload_n 0, 1) := by decide +kernel
theorem dX4_init_69 : decode cX4_init 69 = .ok (.bipush 12, 2) := by decide +kernel
theorem dX4_init_71 : decode cX4_init 71 = .ok (.newarray .int, 2) := by decide +kernel
theorem dX4_init_73 : decode cX4_init 73 = .ok (.putfield 36, 3) := by decide +kernel
theorem dX4_init_76 : decode cX4_init 76 = .ok (.return_, 1) := by decide +kernel
theorem dX5_init_0 : decode cX5_init 0 = .ok (.aload_n 0, 1) := by decide +kernel
theorem dX5_init_1 : decode cX5_init 1 = .ok (.invokespecial 3, 3) := by decide +kernel
theorem dX5_init_4 : decode cX5_init 4 = .ok (.aload_n 0, 1) := by decide +kernel
theorem dX5_init_5 : decode cX5_init 5 = .ok (.sipush 400, 3) := by decide +kernel
theorem dX5_init_8 : decode cX5_init 8 = .ok (.newarray .int, 2) := by decide +kernel
theorem dX5_init_10 : decode cX5_init 10 = .ok (.putfield 9, 3) := by decide +kernel
theorem dX5_init_13 : decode cX5_init 13 = .ok (.aload_n 0, 1) := by decide +kernel
theorem dX5_init_14 : decode cX5_init 14 = .ok (.sipush 400, 3) := by decide +kernel
theorem dX5_init_17 : decode cX5_init 17 = .ok (.newarray .int, 2) := by decide +kernel
theorem dX5_init_19 : decode cX5_init 19 = .ok (.putfield 15, 3) := by decide +kernel
theorem dX5_init_22 : decode cX5_init 22 = .ok (.aload_n 0, 1) := by decide +kernel
theorem dX5_init_23 : decode cX5_init 23 = .ok (.sipush 400, 3) := by decide +kernel
theorem dX5_init_26 : decode cX5_init 26 = .ok (.newarray .int, 2) := by decide +kernel
theorem dX5_init_28 : decode cX5_init 28 = .ok (.putfield 18, 3) := by decide +kernel
theorem dX5_init_31 : decode cX5_init 31 = .ok (.aload_n 0, 1) := by decide +kernel
theorem dX5_init_32 : decode cX5_init 32 = .ok (.sipush 400, 3) := by decide +kernel
theorem dX5_init_35 : decode cX5_init 35 = .ok (.newarray .int, 2) := by decide +kernel
theorem dX5_init_37 : decode cX5_init 37 = .ok (.putfield 21, 3) := by decide +kernel
theorem dX5_init_40 : decode cX5_init 40 = .ok (.aload_n 0, 1) := by decide +kernel
theorem dX5_init_41 : decode cX5_init 41 = .ok (.sipush 400, 3) := by decide +kernel
theorem dX5_init_44 : decode cX5_init 44 = .ok (.newarray .int, 2) := by decide +kernel
theorem dX5_init_46 : decode cX5_init 46 = .ok (.putfield 24, 3) := by decide +kernel
theorem dX5_init_49 : decode cX5_init 49 = .ok (.aload_n 0, 1) := by decide +kernel
theorem dX5_init_50 : decode cX5_init 50 = .ok (.sipush 400, 3) := by decide +kernel
theorem dX5_init_53 : decode cX5_init 53 = .ok (.newarray .int, 2) := by decide +kernel
theorem dX5_init_55 : decode cX5_init 55 = .ok (.putfield 27, 3) := by decide +kernel
theorem dX5_init_58 : decode cX5_init 58 = .ok (.aload_n 0, 1) := by decide +kernel
theorem dX5_init_59 : decode cX5_init 59 = .ok (.sipush 400, 3) := by decide +kernel
theorem dX5_init_62 : decode cX5_init 62 = .ok (.newarray .int, 2) := by decide +kernel
theorem dX5_init_64 : decode cX5_init 64 = .ok (.putfield 30, 3) := by decide +kernel
theorem dX5_init_67 : decode cX5_init 67 = .ok (.aload_n 0, 1) := by decide +kernel
theorem dX5_init_68 : decode cX5_init 68 = .ok (.sipush 400, 3) := by decide +kernel
theorem dX5_init_71 : decode cX5_init 71 = .ok (.newarray .int, 2) := by decide +kernel
theorem dX5_init_73 : decode cX5_init 73 = .ok (.putfield 33, 3) := by decide +kernel
theorem dX5_init_76 : decode cX5_init 76 = .ok (.aload_n 0, 1) := by decide +kernel
theorem dX5_init_77 : decode cX5_init 77 = .ok (.sipush 400, 3) := by decide +kernel
theorem dX5_init_80 : decode cX5_init 80 = .ok (.newarray .int, 2) := by decide +kernel
theorem dX5_init_82 : decode cX5_init 82 = .ok (.putfield 36, 3) := by decide +kernel
theorem dX5_init_85 : decode cX5_init 85 = .ok (.aload_n 0, 1) := by decide +kernel
theorem dX5_init_86 : decode cX5_init 86 = .ok (.sipush 400, 3) := by decide +kernel
theorem dX5_init_89 : decode cX5_init 89 = .ok (.newarray .int, 2) := by decide +kernel
theorem dX5_init_91 : decode cX5_init 91 = .ok (.putfield 39, 3) := by decide +kernel
theorem dX5_init_94 : decode cX5_init 94 = .ok (.aload_n 0, 1) := by decide +kernel
theorem dX5_init_95 : decode cX5_init 95 = .ok (.sipush 400, 3) := by decide +kernel
theorem dX5_init_98 : decode cX5_init 98 = .ok (.newarray .int, 2) := by decide +kernel
theorem dX5_init_100 : decode cX5_init 100 = .ok (.putfield 42, 3) := by decide +kernel
theorem dX5_init_103 : decode cX5_init 103 = .ok (.aload_n 0, 1) := by decide +kernel
theorem dX5_init_104 : decode cX5_init 104 = .ok (.sipush 400, 3) := by decide +kernel
theorem dX5_init_107 : decode cX5_init 107 = .ok (.newarray .int, 2) := by decide +kernel
theorem dX5_init_109 : decode cX5_init 109 = .ok (.putfield 45, 3) := by decide +kernel
theorem dX5_init_112 : decode cX5_init 112 = .ok (.aload_n 0, 1) := by decide +kernel
theorem dX5_init_113 : decode cX5_init 113 = .ok (.getfield 39, 3) := by decide +kernel
theorem dX5_init_116 : decode cX5_init 116 = .ok (.iconst (-1), 1) := by decide +kernel
theorem dX5_init_117 : decode cX5_init 117 = .ok (.invokestatic 48, 3) := by decide +kernel
theorem dX5_init_120 : decode cX5_init 120 = .ok (.return_, 1) := by decide +kernel
theorem dX6_addChild_0 : decode cX6_addChild 0 = .ok (.aload_n 0, 1) := by decide +kernel
theorem dX6_addChild_1 : decode cX6_addChild 1 = .ok (.getfield 9, 3) := by decide +kernel
theorem dX6_addChild_4 : decode cX6_addChild 4 = .ok (.aload_n 0, 1) := by decide +kernel
theorem dX6_addChild_5 : decode cX6_addChild 5 = .ok (.getfield 48, 3) := by decide +kernel
theorem dX6_addChild_8 : decode cX6_addChild 8 = .ok (.iload_n 1, 1) := by decide +kernel
theorem dX6_addChild_9 : decode cX6_addChild 9 = .ok (.iastore, 1) := by decide +kernel
theorem dX6_addChild_10 : decode cX6_addChild 10 = .ok (.aload_n 0, 1) := by decide +kernel
theorem dX6_addChild_11 : decode cX6_addChild 11 = .ok (.getfield 15, 3) := by decide +kernel
theorem dX6_addChild_14 : decode cX6_addChild 14 = .ok (.aload_n 0, 1) := by decide +kernel
theorem dX6_addChild_15 : decode cX6_addChild 15 = .ok (.getfield 48, 3) := by decide +kernel
theorem dX6_addChild_18 : decode cX6_addChild 18 = .ok (.iload_n 2, 1) := by decide +kernel
theorem dX6_addChild_19 : decode cX6_addChild 19 = .ok (.ifCond .eq 7, 3) := by decide +kernel
theorem dX6_addChild_22 : decode cX6_addChild 22 = .ok (.iconst 1, 1) := by decide +kernel
theorem dX6_addChild_23 : decode cX6_addChild 23 = .ok (.goto 4, 3) := by decide +kernel
theorem dX6_addChild_26 : decode cX6_addChild 26 = .ok (.iconst 0, 1) := by decide +kernel
theorem dX6_addChild_27 : decode cX6_addChild 27 = .ok (.iastore, 1) := by decide +kernel
theorem dX6_addChild_28 : decode cX6_addChild 28 = .ok (.aload_n 0, 1) := by decide +kernel
theorem dX6_addChild_29 : decode cX6_addChild 29 = .ok (.getfield 18, 3) := by decide +kernel
theorem dX6_addChild_32 : decode cX6_addChild 32 = .ok (.aload_n 0, 1) := by decide +kernel
theorem dX6_addChild_33 : decode cX6_addChild 33 = .ok (.getfield 48, 3) := by decide +kernel
theorem dX6_addChild_36 : decode cX6_addChild 36 = .ok (.iload_n 3, 1) := by decide +kernel
theorem dX6_addChild_37 : decode cX6_addChild 37 = .ok (.iastore, 1) := by decide +kernel
theorem dX6_addChild_38 : decode cX6_addChild 38 = .ok (.aload_n 0, 1) := by decide +kernel
theorem dX6_addChild_39 : decode cX6_addChild 39 = .ok (.getfield 21, 3) := by decide +kernel
theorem dX6_addChild_42 : decode cX6_addChild 42 = .ok (.aload_n 0, 1) := by decide +kernel
theorem dX6_addChild_43 : decode cX6_addChild 43 = .ok (.getfield 48, 3) := by decide +kernel
theorem dX6_addChild_46 : decode cX6_addChild 46 = .ok (.iload 4, 2) := by decide +kernel
theorem dX6_addChild_48 : decode cX6_addChild 48 = .ok (.iastore, 1) := by decide +kernel
theorem dX6_addChild_49 : decode cX6_addChild 49 = .ok (.aload_n 0, 1) := by decide +kernel
theorem dX6_addChild_50 : decode cX6_addChild 50 = .ok (.getfield 24, 3) := by decide +kernel
theorem dX6_addChild_53 : decode cX6_addChild 53 = .ok (.aload_n 0, 1) := by decide +kernel
theorem dX6_addChild_54 : decode cX6_addChild 54 = .ok (.getfield 48, 3) := by decide +kernel
theorem dX6_addChild_57 : decode cX6_addChild 57 = .ok (.iload 5, 2) := by decide +kernel
theorem dX6_addChild_59 : decode cX6_addChild 59 = .ok (.iastore, 1) := by decide +kernel
theorem dX6_addChild_60 : decode cX6_addChild 60 = .ok (.aload_n 0, 1) := by decide +kernel
theorem dX6_addChild_61 : decode cX6_addChild 61 = .ok (.dup, 1) := by decide +kernel
theorem dX6_addChild_62 : decode cX6_addChild 62 = .ok (.getfield 48, 3) := by decide +kernel
theorem dX6_addChild_65 : decode cX6_addChild 65 = .ok (.iconst 1, 1) := by decide +kernel
theorem dX6_addChild_66 : decode cX6_addChild 66 = .ok (.iadd, 1) := by decide +kernel
theorem dX6_addChild_67 : decode cX6_addChild 67 = .ok (.putfield 48, 3) := by decide +kernel
theorem dX6_addChild_70 : decode cX6_addChild 70 = .ok (.aload_n 0, 1) := by decide +kernel
theorem dX6_addChild_71 : decode cX6_addChild 71 = .ok (.getfield 48, 3) := by decide +kernel
theorem dX6_addChild_74 : decode cX6_addChild 74 = .ok (.iconst 1, 1) := by decide +kernel
theorem dX6_addChild_75 : decode cX6_addChild 75 = .ok (.isub, 1) := by decide +kernel
theorem dX6_addChild_76 : decode cX6_addChild 76 = .ok (.ireturn, 1) := by decide +kernel
theorem dX6_init_0 : decode cX6_init 0 = .ok (.aload_n 0, 1) := by decide +kernel
theorem dX6_init_1 : decode cX6_init 1 = .ok (.invokespecial 3, 3) := by decide +kernel
theorem dX6_init_4 : decode cX6_init 4 = .ok (.aload_n 0, 1) := by decide +kernel
theorem dX6_init_5 : decode cX6_init 5 = .ok (.bipush 40, 2) := by decide +kernel
theorem dX6_init_7 : decode cX6_init 7 = .ok (.newarray .int, 2) := by decide +kernel
theorem dX6_init_9 : decode cX6_init 9 = .ok (.putfield 9, 3) := by decide +kernel
theorem dX6_init_12 : decode cX6_init 12 = .ok (.aload_n 0, 1) := by decide +kernel
theorem dX6_init_13 : decode cX6_init 13 = .ok (.bipush 40, 2) := by decide +kernel
theorem dX6_init_15 : decode cX6_init 15 = .ok (.newarray .int, 2) := by decide +kernel
theorem dX6_init_17 : decode cX6_init 17 = .ok (.putfield 15, 3) := by decide +kernel
theorem dX6_init_20 : decode cX6_init 20 = .ok (.aload_n 0, 1) := by decide +kernel
theorem dX6_init_21 : decode cX6_init 21 = .ok (.bipush 40, 2) := by decide +kernel
theorem dX6_init_23 : decode cX6_init 23 = .ok (.newarray .int, 2) := by decide +kernel
theorem dX6_init_25 : decode cX6_init 25 = .ok (.putfield 18, 3) := by decide +kernel
theorem dX6_init_28 : decode cX6_init 28 = .ok (.aload_n 0, 1) := by decide +kernel
theorem dX6_init_29 : decode cX6_init 29 = .ok (.bipush 40, 2) := by decide +kernel
theorem dX6_init_31 : decode cX6_init 31 = .ok (.newarray .int, 2) := by decide +kernel
theorem dX6_init_33 : decode cX6_init 33 = .ok (.putfield 21, 3) := by decide +kernel
theorem dX6_init_36 : decode cX6_init 36 = .ok (.aload_n 0, 1) := by decide +kernel
theorem dX6_init_37 : decode cX6_init 37 = .ok (.bipush 40, 2) := by decide +kernel
theorem dX6_init_39 : decode cX6_init 39 = .ok (.newarray .int, 2) := by decide +kernel
theorem dX6_init_41 : decode cX6_init 41 = .ok (.putfield 24, 3) := by decide +kernel
theorem dX6_init_44 : decode cX6_init 44 = .ok (.aload_n 0, 1) := by decide +kernel
theorem dX6_init_45 : decode cX6_init 45 = .ok (.sipush 400, 3) := by decide +kernel
theorem dX6_init_48 : decode cX6_init 48 = .ok (.newarray .int, 2) := by decide +kernel
theorem dX6_init_50 : decode cX6_init 50 = .ok (.putfield 27, 3) := by decide +kernel
theorem dX6_init_53 : decode cX6_init 53 = .ok (.aload_n 0, 1) := by decide +kernel
theorem dX6_init_54 : decode cX6_init 54 = .ok (.bipush 60, 2) := by decide +kernel
theorem dX6_init_56 : decode cX6_init 56 = .ok (.newarray .int, 2) := by decide +kernel
theorem dX6_init_58 : decode cX6_init 58 = .ok (.putfield 30, 3) := by decide +kernel
theorem dX6_init_61 : decode cX6_init 61 = .ok (.aload_n 0, 1) := by decide +kernel
theorem dX6_init_62 : decode cX6_init 62 = .ok (.bipush 60, 2) := by decide +kernel
theorem dX6_init_64 : decode cX6_init 64 = .ok (.newarray .int, 2) := by decide +kernel
theorem dX6_init_66 : decode cX6_init 66 = .ok (.putfield 33, 3) := by decide +kernel
theorem dX6_init_69 : decode cX6_init 69 = .ok (.aload_n 0, 1) := by decide +kernel
theorem dX6_init_70 : decode cX6_init 70 = .ok (.iconst 2, 1) := by decide +kernel
theorem dX6_init_71 : decode cX6_init 71 = .ok (.newarray .int, 2) := by decide +kernel
theorem dX6_init_73 : decode cX6_init 73 = .ok (.putfield 36, 3) := by decide +kernel
theorem dX6_init_76 : decode cX6_init 76 = .ok (.aload_n 0, 1) := by decide +kernel
theorem dX6_init_77 : decode cX6_init 77 = .ok (.bipush 120, 2) := by decide +kernel
theorem dX6_init_79 : decode cX6_init 79 = .ok (.newarray .int, 2) := by decide +kernel
theorem dX6_init_81 : decode cX6_init 81 = .ok (.putfield 39, 3) := by decide +kernel
theorem dX6_init_84 : decode cX6_init 84 = .ok (.aload_n 0, 1) := by decide +kernel
theorem dX6_init_85 : decode cX6_init 85 = .ok (.bipush 120, 2) := by decide +kernel
theorem dX6_init_87 : decode cX6_init 87 = .ok (.newarray .int, 2) := by decide +kernel
theorem dX6_init_89 : decode cX6_init 89 = .ok (.putfield 42, 3) := by decide +kernel
theorem dX6_init_92 : decode cX6_init 92 = .ok (.aload_n 0, 1) := by decide +kernel
theorem dX6_init_93 : decode cX6_init 93 = .ok (.bipush 120, 2) := by decide +kernel
theorem dX6_init_95 : decode cX6_init 95 = .ok (.newarray .int, 2) := by decide +kernel
theorem dX6_init_97 : decode cX6_init 97 = .ok (.putfield 45, 3) := by decide +kernel
theorem dX6_init_100 : decode cX6_init 100 = .ok (.return_, 1) := by decide +kernel
theorem dX7_init_0 : decode cX7_init 0 = .ok (.aload_n 0, 1) := by decide +kernel
theorem dX7_init_1 : decode cX7_init 1 = .ok (.invokespecial 3, 3) := by decide +kernel
theorem dX7_init_4 : decode cX7_init 4 = .ok (.aload_n 0, 1) := by decide +kernel
theorem dX7_init_5 : decode cX7_init 5 = .ok (.sipush 400, 3) := by decide +kernel
theorem dX7_init_8 : decode cX7_init 8 = .ok (.newarray .int, 2) := by decide +kernel
theorem dX7_init_10 : decode cX7_init 10 = .ok (.putfield 9, 3) := by decide +kernel
theorem dX7_init_13 : decode cX7_init 13 = .ok (.aload_n 0, 1) := by decide +kernel
theorem dX7_init_14 : decode cX7_init 14 = .ok (.iconst (-1), 1) := by decide +kernel
theorem dX7_init_15 : decode cX7_init 15 = .ok (.putfield 15, 3) := by decide +kernel
theorem dX7_init_18 : decode cX7_init 18 = .ok (.aload_n 0, 1) := by decide +kernel
theorem dX7_init_19 : decode cX7_init 19 = .ok (.bipush 12, 2) := by decide +kernel
theorem dX7_init_21 : decode cX7_init 21 = .ok (.newarray .int, 2) := by decide +kernel
theorem dX7_init_23 : decode cX7_init 23 = .ok (.putfield 19, 3) := by decide +kernel
theorem dX7_init_26 : decode cX7_init 26 = .ok (.aload_n 0, 1) := by decide +kernel
theorem dX7_init_27 : decode cX7_init 27 = .ok (.bipush 12, 2) := by decide +kernel
theorem dX7_init_29 : decode cX7_init 29 = .ok (.newarray .int, 2) := by decide +kernel
theorem dX7_init_31 : decode cX7_init 31 = .ok (.putfield 22, 3) := by decide +kernel
theorem dX7_init_34 : decode cX7_init 34 = .ok (.aload_n 0, 1) := by decide +kernel
theorem dX7_init_35 : decode cX7_init 35 = .ok (.bipush 25, 2) := by decide +kernel
theorem dX7_init_37 : decode cX7_init 37 = .ok (.newarray .int, 2) := by decide +kernel
theorem dX7_init_39 : decode cX7_init 39 = .ok (.putfield 25, 3) := by decide +kernel
theorem dX7_init_42 : decode cX7_init 42 = .ok (.aload_n 0, 1) := by decide +kernel
theorem dX7_init_43 : decode cX7_init 43 = .ok (.sipush 400, 3) := by decide +kernel
theorem dX7_init_46 : decode cX7_init 46 = .ok (.newarray .int, 2) := by decide +kernel
theorem dX7_init_48 : decode cX7_init 48 = .ok (.putfield 28, 3) := by decide +kernel
theorem dX7_init_51 : decode cX7_init 51 = .ok (.return_, 1) := by decide +kernel
theorem dX8_init_0 : decode cX8_init 0 = .ok (.aload_n 0, 1) := by decide +kernel
theorem dX8_init_1 : decode cX8_init 1 = .ok (.invokespecial 3, 3) := by decide +kernel
theorem dX8_init_4 : decode cX8_init 4 = .ok (.aload_n 0, 1) := by decide +kernel
theorem dX8_init_5 : decode cX8_init 5 = .ok (.bipush 120, 2) := by decide +kernel
theorem dX8_init_7 : decode cX8_init 7 = .ok (.newarray .int, 2) := by decide +kernel
theorem dX8_init_9 : decode cX8_init 9 = .ok (.putfield 9, 3) := by decide +kernel
theorem dX8_init_12 : decode cX8_init 12 = .ok (.aload_n 0, 1) := by decide +kernel
theorem dX8_init_13 : decode cX8_init 13 = .ok (.bipush 120, 2) := by decide +kernel
theorem dX8_init_15 : decode cX8_init 15 = .ok (.newarray .int, 2) := by decide +kernel
theorem dX8_init_17 : decode cX8_init 17 = .ok (.putfield 15, 3) := by decide +kernel
theorem dX8_init_20 : decode cX8_init 20 = .ok (.aload_n 0, 1) := by decide +kernel
theorem dX8_init_21 : decode cX8_init 21 = .ok (.bipush 120, 2) := by decide +kernel
theorem dX8_init_23 : decode cX8_init 23 = .ok (.newarray .int, 2) := by decide +kernel
theorem dX8_init_25 : decode cX8_init 25 = .ok (.putfield 18, 3) := by decide +kernel
theorem dX8_init_28 : decode cX8_init 28 = .ok (.aload_n 0, 1) := by decide +kernel
theorem dX8_init_29 : decode cX8_init 29 = .ok (.bipush 120, 2) := by decide +kernel
theorem dX8_init_31 : decode cX8_init 31 = .ok (.newarray .int, 2) := by decide +kernel
theorem dX8_init_33 : decode cX8_init 33 = .ok (.putfield 21, 3) := by decide +kernel
theorem dX8_init_36 : decode cX8_init 36 = .ok (.aload_n 0, 1) := by decide +kernel
theorem dX8_init_37 : decode cX8_init 37 = .ok (.bipush 120, 2) := by decide +kernel
theorem dX8_init_39 : decode cX8_init 39 = .ok (.newarray .int, 2) := by decide +kernel
theorem dX8_init_41 : decode cX8_init 41 = .ok (.putfield 24, 3) := by decide +kernel
theorem dX8_init_44 : decode cX8_init 44 = .ok (.return_, 1) := by decide +kernel
theorem dX9_init_0 : decode cX9_init 0 = .ok (.aload_n 0, 1) := by decide +kernel
theorem dX9_init_1 : decode cX9_init 1 = .ok (.invokespecial 3, 3) := by decide +kernel
theorem dX9_init_4 : decode cX9_init 4 = .ok (.aload_n 0, 1) := by decide +kernel
theorem dX9_init_5 : decode cX9_init 5 = .ok (.sipush 160, 3) := by decide +kernel
theorem dX9_init_8 : decode cX9_init 8 = .ok (.newarray .int, 2) := by decide +kernel
theorem dX9_init_10 : decode cX9_init 10 = .ok (.putfield 9, 3) := by decide +kernel
theorem dX9_init_13 : decode cX9_init 13 = .ok (.aload_n 0, 1) := by decide +kernel
theorem dX9_init_14 : decode cX9_init 14 = .ok (.sipush 160, 3) := by decide +kernel
theorem dX9_init_17 : decode cX9_init 17 = .ok (.newarray .int, 2) := by decide +kernel
theorem dX9_init_19 : decode cX9_init 19 = .ok (.putfield 15, 3) := by decide +kernel
theorem dX9_init_22 : decode cX9_init 22 = .ok (.aload_n 0, 1) := by decide +kernel
theorem dX9_init_23 : decode cX9_init 23 = .ok (.sipush 160, 3) := by decide +kernel
theorem dX9_init_26 : decode cX9_init 26 = .ok (.newarray .int, 2) := by decide +kernel
theorem dX9_init_28 : decode cX9_init 28 = .ok (.putfield 18, 3) := by decide +kernel
theorem dX9_init_31 : decode cX9_init 31 = .ok (.aload_n 0, 1) := by decide +kernel
theorem dX9_init_32 : decode cX9_init 32 = .ok (.getfield 9, 3) := by decide +kernel
theorem dX9_init_35 : decode cX9_init 35 = .ok (.iconst (-1), 1) := by decide +kernel
theorem dX9_init_36 : decode cX9_init 36 = .ok (.invokestatic 21, 3) := by decide +kernel
theorem dX9_init_39 : decode cX9_init 39 = .ok (.aload_n 0, 1) := by decide +kernel
theorem dX9_init_40 : decode cX9_init 40 = .ok (.getfield 15, 3) := by decide +kernel
theorem dX9_init_43 : decode cX9_init 43 = .ok (.iconst (-1), 1) := by decide +kernel
theorem dX9_init_44 : decode cX9_init 44 = .ok (.invokestatic 21, 3) := by decide +kernel
theorem dX9_init_47 : decode cX9_init 47 = .ok (.return_, 1) := by decide +kernel
end
section
/-! Arrays.fill and copyRow, by hand: loops over a whole row -/
set_option maxHeartbeats 4000000 in
set_option maxRecDepth 100000 in
theorem c_fill (l : Launch) (D : va_G) (k : Nat → ClassId) (q_0 : Nat) (x_0 : Int32) (f_0 : Nat → Int32) (n_0 : Nat) (hn : n_0 < 2 ^ 31) : zMv l yJ7_fill_53178 cJ7_fill_53178 4 none ({ frames := 0, cells := 0, slots := 0, locals := 0 }) D k [.ref q_0, .int x_0] [(q_0, .inl (k 0, n_0, .inl f_0))] (fun u => u.1 = 0) (fun u => [(q_0, .inl (k 0, n_0, .inl (fun _ => x_0)))]) := by
  refine zMv_of (own := RJ7) (by decide +kernel) rfl (Nat.le_of_ble_eq_true rfl) ?_
  intro p e s m args below meth c A ls C0 hr hlk hin hP hD hS hA hK hN hl
  have hx := C0.1
  have hb := C0.2.1
  have hl : lv_has ls 4 [(0, .ref q_0), (1, .int x_0)] := hl
  have loop : ∀ (r i : Nat) (f : Nat → Int32) (H : Heap) (locs : List Loc) (ls : Array Slot), i + r = n_0 → (∀ j, j < i → f j = x_0) → va_P D vwCl [(q_0, .inl (k 0, n_0, .inl f))] H → va_D A [(q_0, .inl (k 0, n_0, .inl f))] → va_S A s.heap H locs → lv_has ls 4 [(0, .ref q_0), (1, .int x_0), (2, .int (nI i)), (3, .int (nI n_0))] → W p l e { frames := 0, cells := 0, slots := 0, locals := 0 } s m args below meth c H locs 0 0 (MQ below (va_Qv (fun u : zS => u.1 = 0) (zB D k A (fun u => [(q_0, .inl (k 0, n_0, .inl (fun _ => x_0)))])) A) args s 0 0 A) (F0 m 5 ls []) := by
    intro r
    induction r with
    | zero =>
      intro i f H locs ls hi hf hP hD hS hl
      refine lv_iload_n hx hb dJ7_fill_53178_5 rfl (lv_at hl 2 rfl) ?_
      refine lv_iload_n hx hb dJ7_fill_53178_6 rfl (lv_at hl 3 rfl) ?_
      refine lv_icmp_ge (tgt := 20) hx hb dJ7_fill_53178_7 (by decide) (fun _ => ?_) (fun c1 => absurd (nI_le (by omega) (by omega)) c1)
      have hP2 := z_cellEq (g := fun _ => x_0) hP (q0 := 0) rfl (fun j hj => hf j (by omega))
      have hD2 : va_D A [(q_0, .inl (k 0, n_0, .inl (fun _ => x_0)))] := hD.set (p := 0) rfl
      exact z_vret (ws := [(q_0, .inl (k 0, n_0, .inl (fun _ => x_0)))]) C0 hr hlk hK hP2 hD2 hS (0, fun _ => 0) rfl [0] rfl rfl rfl dJ7_fill_53178_20
    | succ r ih =>
      intro i f H locs ls hi hf hP hD hS hl
      refine lv_iload_n hx hb dJ7_fill_53178_5 rfl (lv_at hl 2 rfl) ?_
      refine lv_iload_n hx hb dJ7_fill_53178_6 rfl (lv_at hl 3 rfl) ?_
      refine lv_icmp_ge (tgt := 20) hx hb dJ7_fill_53178_7 (by decide) (fun c1 => absurd c1 (nI_ge (by omega) (by omega))) (fun _ => ?_)
      refine lv_aload_n hx hb dJ7_fill_53178_10 rfl (lv_at hl 0 rfl) ?_
      refine lv_iload_n hx hb dJ7_fill_53178_11 rfl (lv_at hl 2 rfl) ?_
      refine lv_iload_n hx hb dJ7_fill_53178_12 rfl (lv_at hl 1 rfl) ?_
      refine va_iast hx hb hK hP hD hS 0 0 rfl rfl (vp_in_nI (by omega) (by omega)) dJ7_fill_53178_13 (fun H locs hP hD hS => ?_)
      rw [nI_clamp (by omega)] at hP hD
      refine lv_iinc (v := nI (i + 1)) (lv' := [(2, .int (nI (i + 1))), (0, .ref q_0), (1, .int x_0), (3, .int (nI n_0))]) hx hb dJ7_fill_53178_14 hl (k := 2) rfl (nI_1 i) (by decide) rfl (fun ls hl => ?_)
      refine lv_goto (tgt := 5) hx hb dJ7_fill_53178_17 (by decide) ?_
      exact ih (i + 1) (upd f i x_0) H locs ls (by omega) (fun j hj => by
        by_cases h : j = i
        · subst h; exact pk_us
        · rw [pk_un h]; exact hf j (by omega)) hP hD hS (lv_sub hl [1, 2, 0, 3] rfl)
  refine lv_iconst (v := 0) hx hb dJ7_fill_53178_0 (by decide) ?_
  refine lv_istore_n (lv' := [(2, .int 0), (0, .ref q_0), (1, .int x_0)]) hx hb dJ7_fill_53178_1 rfl hl (by decide) rfl (fun ls hl => ?_)
  refine lv_aload_n hx hb dJ7_fill_53178_2 rfl (lv_at hl 1 rfl) ?_
  refine va_alen (v := nI n_0) (ty := .int) hx hb hK hP 0 0 rfl rfl rfl dJ7_fill_53178_3 ?_
  refine lv_istore_n (lv' := [(3, .int (nI n_0)), (2, .int 0), (0, .ref q_0), (1, .int x_0)]) hx hb dJ7_fill_53178_4 rfl hl (by decide) rfl (fun ls hl => ?_)
  exact loop n_0 0 f_0 _ _ ls (by omega) (fun j hj => absurd hj (Nat.not_lt_zero j)) hP hD hS (lv_sub hl [2, 3, 1, 0] rfl)
theorem kMinL : Cond.methodLink RX11 390 Lib.Math.min.name ∈ lw_g := mk_k 1206 (by decide +kernel) rfl
theorem kMinS : Cond.static Lib.Math.min.name ∈ lw_g := mk_k 611 (by decide +kernel) rfl
theorem kMinC : Cond.code Lib.Math.min.name Lib.Math.min.code 2 (some .int) ∈ lw_g := mk_k 612 (by decide +kernel) rfl
theorem kAcpL : Cond.methodLink RX11 395 arraycopyName ∈ lw_g := mk_k 1207 (by decide +kernel) rfl
theorem kAcpN : Cond.native arraycopyName ∈ lw_g := mk_k 857 (by decide +kernel) rfl
theorem kAcpS : Cond.static arraycopyName ∈ lw_g := mk_k 856 (by decide +kernel) rfl
set_option maxHeartbeats 4000000 in
set_option maxRecDepth 100000 in
theorem c_copyRow (l : Launch) (D : va_G) (k : Nat → ClassId) (q_0 q_1 : Nat) (f_0 f_1 : Nat → Int32) (n_0 : Nat) (hn : n_0 < 2 ^ 31) : zMv l yX11_copyRow cX11_copyRow 2 none ({ frames := 1, cells := 0, slots := 0, locals := 60 }) D k [.ref q_0, .ref q_1] [(q_0, .inl (k 0, n_0, .inl f_0)), (q_1, .inl (k 0, n_0, .inl f_1))] (fun u => u.1 = 0) (fun u => [(q_0, .inl (k 0, n_0, .inl f_0)), (q_1, .inl (k 0, n_0, .inl f_0))]) := by
  refine zMv_of (own := RX11) (by decide +kernel) rfl (Nat.le_of_ble_eq_true rfl) ?_
  intro p e s m args below meth c A ls C0 hr hlk hin hP hD hS hA hK hN hl
  have hx := C0.1
  have hb := C0.2.1
  have hml := C0.2.2.1
  have hown := C0.2.2.2.1
  have hts := C0.2.2.2.2
  have hl : lv_has ls 2 [(0, .ref q_0), (1, .ref q_1)] := hl
  refine lv_aload_n hx hb dX11_copyRow_0 rfl (lv_at hl 0 rfl) ?_
  refine lv_iconst (v := 0) hx hb dX11_copyRow_1 (by decide) ?_
  refine lv_aload_n hx hb dX11_copyRow_2 rfl (lv_at hl 1 rfl) ?_
  refine lv_iconst (v := 0) hx hb dX11_copyRow_3 (by decide) ?_
  refine lv_aload_n hx hb dX11_copyRow_4 rfl (lv_at hl 0 rfl) ?_
  refine va_alen (v := nI n_0) (ty := .int) hx hb hK hP 0 0 rfl rfl rfl dX11_copyRow_5 ?_
  refine lv_aload_n hx hb dX11_copyRow_6 rfl (lv_at hl 1 rfl) ?_
  refine va_alen (v := nI n_0) (ty := .int) hx hb hK hP 1 0 rfl rfl rfl dX11_copyRow_7 ?_
  refine va_mmin hx hb (by rw [hml]; exact hl.1.symm) hown (hts _ kMinL) (hts _ kMinS) (hts _ kZ_J9) (hts _ kMinC) (Nat.le_of_ble_eq_true rfl) (Nat.le_of_ble_eq_true rfl) (Nat.le_of_ble_eq_true rfl) (Nat.le_of_ble_eq_true rfl) dX11_copyRow_8 ?_
  refine lv_toc (v := nI n_0) (by simp) ?_
  refine va_copyi (ty := .int) hx hb (by rw [hml]; exact hl.1.symm) hown (hts _ kAcpL) (hts _ kAcpN) (hts _ kAcpS) (hts _ kZ_J10) hK hP hD hS 0 1 0 0 rfl rfl rfl rfl rfl (by decide) (by decide) (nI_pos hn) (by rw [nI_clamp hn]; simp) (by rw [nI_clamp hn]; simp) (fun i _ => rfl) (Nat.le_of_ble_eq_true rfl) (by decide) dX11_copyRow_11 (fun H locs hP hD hS => ?_)
  have hP2 := z_cellEq (g := f_0) hP (q0 := 1) rfl (fun j hj => by
    rw [nI_clamp hn]
    show va_cpy f_0 f_1 0 0 n_0 j = f_0 j
    rw [pk_cpy_in (Nat.zero_le j) (by omega)]
    congr 1
    omega)
  have hP2 : va_P D vwCl [(q_0, .inl (k 0, n_0, .inl f_0)), (q_1, .inl (k 0, n_0, .inl f_0))] H := hP2
  have hD2 : va_D A [(q_0, .inl (k 0, n_0, .inl f_0)), (q_1, .inl (k 0, n_0, .inl f_0))] := hD.set (p := 1) rfl
  exact z_vret C0 hr hlk hK hP2 hD2 hS (0, fun _ => 0) rfl [0, 1] rfl rfl rfl dX11_copyRow_14
end
section
set_option maxHeartbeats 4000000 in
set_option maxRecDepth 100000 in
theorem c_X11_isOutside_1 (l : Launch) (D : va_G) (k : Nat → ClassId) (x_0 : Int32) (x_1 : Int32) (x_2 : Int32) : zMi l yX11_isOutside cX11_isOutside 3 (some .boolean) ({ frames := 0, cells := 0, slots := 0, locals := 0 }) D k [.int x_0, .int x_1, .int x_2] [] (fun r u => (u.1 = 0 ∧ r = 1 ∧ ((x_0 < x_1) ∨ (¬ x_0 < x_1 ∧ ¬ x_0 ≤ x_2))) ∨ (u.1 = 1 ∧ r = 0 ∧ ((¬ x_0 < x_1 ∧ x_0 ≤ x_2)))) (fun u => []) := by
  refine zMi_of (own := RX11) (by decide +kernel) rfl (Nat.le_of_ble_eq_true rfl) ?_
  intro p e s m args below meth c A ls C0 hr hlk hin hP hD hS hA hK hN hl
  have hx := C0.1
  have hb := C0.2.1
  have hml := C0.2.2.1
  have hown := C0.2.2.2.1
  have hts := C0.2.2.2.2
  have hl : lv_has ls 3 [(0, .int x_0), (1, .int x_1), (2, .int x_2)] := hl
  have hP : va_P D vwCl [] s.heap := hP
  refine lv_iload_n hx hb dX11_isOutside_0 rfl (lv_at hl 0 rfl) ?_
  refine lv_iload_n hx hb dX11_isOutside_1 rfl (lv_at hl 1 rfl) ?_
  refine lv_icmp_lt (tgt := 10) hx hb dX11_isOutside_2 (by decide) (fun c1 => ?_) (fun c1 => ?_)
  · refine lv_iconst (v := 1) hx hb dX11_isOutside_10 (by decide) ?_
    refine lv_goto (tgt := 15) hx hb dX11_isOutside_11 (by decide) ?_
    exact z_iret C0 hr hlk rfl hK hP hD hS (0, fun _ => 0) (Or.inl ⟨rfl, rfl, (Or.inl c1)⟩) [] rfl rfl rfl dX11_isOutside_15
  · refine lv_iload_n hx hb dX11_isOutside_5 rfl (lv_at hl 0 rfl) ?_
    refine lv_iload_n hx hb dX11_isOutside_6 rfl (lv_at hl 2 rfl) ?_
    refine lv_icmp_le (tgt := 14) hx hb dX11_isOutside_7 (by decide) (fun c2 => ?_) (fun c2 => ?_)
    · refine lv_iconst (v := 0) hx hb dX11_isOutside_14 (by decide) ?_
      exact z_iret C0 hr hlk rfl hK hP hD hS (1, fun _ => 0) (Or.inr (⟨rfl, rfl, ⟨c1, c2⟩⟩)) [] rfl rfl rfl dX11_isOutside_15
    · refine lv_iconst (v := 1) hx hb dX11_isOutside_10 (by decide) ?_
      refine lv_goto (tgt := 15) hx hb dX11_isOutside_11 (by decide) ?_
      exact z_iret C0 hr hlk rfl hK hP hD hS (0, fun _ => 0) (Or.inl ⟨rfl, rfl, (Or.inr (⟨c1, c2⟩))⟩) [] rfl rfl rfl dX11_isOutside_15

set_option maxHeartbeats 4000000 in
set_option maxRecDepth 100000 in
theorem c_X11_answer_1 (l : Launch) (D : va_G) (k : Nat → ClassId) (q_0 : Nat) (q_1 : Nat) (q_2 : Nat) (q_3 : Nat) (q_4 : Nat) (q_5 : Nat) (x_0 : Int32) : zMi l yX11_answer cX11_answer 2 (some .int) ({ frames := 0, cells := 0, slots := 0, locals := 0 }) D k [.ref q_0, .int (-1)] [(q_0, .inr (11, [.ref q_1, .ref q_2, .ref q_3, .ref q_4, .ref q_5, .int x_0]))] (fun r u => u.1 = 0 ∧ r = (-1)) (fun u => [(q_0, .inr (11, [.ref q_1, .ref q_2, .ref q_3, .ref q_4, .ref q_5, .int (-1)]))]) := by
  refine zMi_of (own := RX11) (by decide +kernel) rfl (Nat.le_of_ble_eq_true rfl) ?_
  intro p e s m args below meth c A ls C0 hr hlk hin hP hD hS hA hK hN hl
  have hx := C0.1
  have hb := C0.2.1
  have hml := C0.2.2.1
  have hown := C0.2.2.2.1
  have hts := C0.2.2.2.2
  have hl : lv_has ls 2 [(0, .ref q_0), (1, .int (-1))] := hl
  have hP : va_P D vwCl [(q_0, .inr (11, [.ref q_1, .ref q_2, .ref q_3, .ref q_4, .ref q_5, .int x_0]))] s.heap := hP
  refine lv_aload_n hx hb dX11_answer_0 rfl (lv_at hl 0 rfl) ?_
  refine lv_iload_n hx hb dX11_answer_1 rfl (lv_at hl 1 rfl) ?_
  refine lv_if_ge (tgt := 9) hx hb dX11_answer_2 (by decide) (fun c1 => absurd c1 (by decide)) (fun _ => ?_)
  refine lv_iload_n hx hb dX11_answer_5 rfl (lv_at hl 1 rfl) ?_
  refine lv_goto (tgt := 10) hx hb dX11_answer_6 (by decide) ?_
  refine va_put (D := D) (ci := 11) (v := .int (-1)) (ty := .int) (C := RX11) (T := TX11) (N := 6) hx hb hts inX11 tyX11 tyX11_ok nmX11 hown hK hP hD hS 0 rfl rfl 5 (by decide) (hts _ kF_X11_383) (fun _ h9 => h9) rfl (by decide +kernel) rfl rfl (Nat.le_of_ble_eq_true rfl) dX11_answer_10 (fun H locs hP hD hS => ?_)
  have hP : va_P D vwCl [(q_0, .inr (11, [.ref q_1, .ref q_2, .ref q_3, .ref q_4, .ref q_5, .int (-1)]))] H := hP
  have hD : va_D A [(q_0, .inr (11, [.ref q_1, .ref q_2, .ref q_3, .ref q_4, .ref q_5, .int (-1)]))] := hD
  refine lv_iload_n hx hb dX11_answer_13 rfl (lv_at hl 1 rfl) ?_
  exact z_iret C0 hr hlk rfl hK hP hD hS (0, fun _ => 0) ⟨rfl, rfl⟩ [0] rfl rfl rfl dX11_answer_14

set_option maxHeartbeats 4000000 in
set_option maxRecDepth 100000 in
theorem c_X11_isNoPlace_1 (l : Launch) (D : va_G) (k : Nat → ClassId) (x_0 : Int32) (x_1 : Int32) : zMi l yX11_isNoPlace cX11_isNoPlace 2 (some .boolean) ({ frames := 1, cells := 0, slots := 0, locals := 22 }) D k [.int x_0, .int x_1] [] (fun r u => (u.1 = 0 ∧ r = 1 ∧ ((((x_0 < 0) ∨ (¬ x_0 < 0 ∧ ¬ x_0 ≤ 99))) ∨ (((¬ x_0 < 0 ∧ x_0 ≤ 99)) ∧ ((x_1 < 0) ∨ (¬ x_1 < 0 ∧ ¬ x_1 ≤ 99))))) ∨ (u.1 = 1 ∧ r = 0 ∧ ((((¬ x_0 < 0 ∧ x_0 ≤ 99)) ∧ ((¬ x_1 < 0 ∧ x_1 ≤ 99)))))) (fun u => []) := by
  refine zMi_of (own := RX11) (by decide +kernel) rfl (Nat.le_of_ble_eq_true rfl) ?_
  intro p e s m args below meth c A ls C0 hr hlk hin hP hD hS hA hK hN hl
  have hx := C0.1
  have hb := C0.2.1
  have hml := C0.2.2.1
  have hown := C0.2.2.2.1
  have hts := C0.2.2.2.2
  have hl : lv_has ls 2 [(0, .int x_0), (1, .int x_1)] := hl
  have hP : va_P D vwCl [] s.heap := hP
  refine lv_iload_n hx hb dX11_isNoPlace_0 rfl (lv_at hl 0 rfl) ?_
  refine lv_iconst (v := 0) hx hb dX11_isNoPlace_1 (by decide) ?_
  refine lv_bipush (v := 99) hx hb dX11_isNoPlace_2 (by decide) ?_
  refine z_bi0 (z_runS (As := [.int x_0, .int 0, .int 99]) (rest := []) C0 (c_X11_isOutside_1 l D k x_0 0 99 _) okS_X11_isOutside kM_X11_47 rfl (z_p0 hK hN) rfl hl.1 rfl (Nat.le_of_ble_eq_true rfl) dX11_isNoPlace_4 rfl) hP hS hA (fun r1 u1 H locs hw1 hP hS => ?_)
  obtain ⟨i1, a1⟩ := u1
  dsimp only at hw1
  rcases hw1 with ⟨rfl, rfl, c1⟩ | ⟨rfl, rfl, c1⟩
  · refine lv_if_ne (tgt := 20) hx hb dX11_isNoPlace_7 (by decide) (fun _ => ?_) (fun c2 => absurd c2 (by decide))
    refine lv_iconst (v := 1) hx hb dX11_isNoPlace_20 (by decide) ?_
    refine lv_goto (tgt := 25) hx hb dX11_isNoPlace_21 (by decide) ?_
    exact z_iret C0 hr hlk rfl hK hP hD hS (0, fun _ => 0) (Or.inl ⟨rfl, rfl, (Or.inl c1)⟩) [] rfl rfl rfl dX11_isNoPlace_25
  · refine lv_if_ne (tgt := 20) hx hb dX11_isNoPlace_7 (by decide) (fun c3 => absurd (by decide) c3) (fun _ => ?_)
    refine lv_iload_n hx hb dX11_isNoPlace_10 rfl (lv_at hl 1 rfl) ?_
    refine lv_iconst (v := 0) hx hb dX11_isNoPlace_11 (by decide) ?_
    refine lv_bipush (v := 99) hx hb dX11_isNoPlace_12 (by decide) ?_
    refine z_bi0 (z_runS (As := [.int x_1, .int 0, .int 99]) (rest := []) C0 (c_X11_isOutside_1 l D k x_1 0 99 _) okS_X11_isOutside kM_X11_47 rfl (z_p0 hK hN) rfl hl.1 rfl (Nat.le_of_ble_eq_true rfl) dX11_isNoPlace_14 rfl) hP hS hA (fun r4 u4 H locs hw4 hP hS => ?_)
    obtain ⟨i4, a4⟩ := u4
    dsimp only at hw4
    rcases hw4 with ⟨rfl, rfl, c4⟩ | ⟨rfl, rfl, c4⟩
    · refine lv_if_eq (tgt := 24) hx hb dX11_isNoPlace_17 (by decide) (fun c5 => absurd c5 (by decide)) (fun _ => ?_)
      refine lv_iconst (v := 1) hx hb dX11_isNoPlace_20 (by decide) ?_
      refine lv_goto (tgt := 25) hx hb dX11_isNoPlace_21 (by decide) ?_
      exact z_iret C0 hr hlk rfl hK hP hD hS (0, fun _ => 0) (Or.inl ⟨rfl, rfl, (Or.inr (⟨c1, c4⟩))⟩) [] rfl rfl rfl dX11_isNoPlace_25
    · refine lv_if_eq (tgt := 24) hx hb dX11_isNoPlace_17 (by decide) (fun _ => ?_) (fun c6 => absurd (by decide) c6)
      refine lv_iconst (v := 0) hx hb dX11_isNoPlace_24 (by decide) ?_
      exact z_iret C0 hr hlk rfl hK hP hD hS (1, fun _ => 0) (Or.inr (⟨rfl, rfl, ⟨c1, c4⟩⟩)) [] rfl rfl rfl dX11_isNoPlace_25

set_option maxHeartbeats 4000000 in
set_option maxRecDepth 100000 in
theorem c_X6_addChild_1 (l : Launch) (D : va_G) (k : Nat → ClassId) (q_0 : Nat) (q_1 : Nat) (q_2 : Nat) (q_3 : Nat) (q_4 : Nat) (q_5 : Nat) (q_6 : Nat) (q_7 : Nat) (q_8 : Nat) (q_9 : Nat) (q_10 : Nat) (q_11 : Nat) (q_12 : Nat) (x_0 : Int32) (x_1 : Int32) (x_2 : Int32) (x_3 : Int32) (x_4 : Int32) (x_5 : Int32) (x_6 : Int32) (f_0 : Nat → Int32) (f_1 : Nat → Int32) (f_2 : Nat → Int32) (f_3 : Nat → Int32) (f_4 : Nat → Int32) : zMi l yX6_addChild cX6_addChild 6 (some .int) ({ frames := 0, cells := 0, slots := 0, locals := 0 }) D k [.ref q_0, .int x_0, .int x_1, .int x_2, .int x_3, .int x_4] [(q_0, .inr (6, [.int 0, .ref q_1, .ref q_2, .ref q_3, .ref q_4, .ref q_5, .int x_5, .ref q_6, .int x_6, .ref q_7, .ref q_8, .ref q_9, .ref q_10, .ref q_11, .ref q_12])), (q_1, .inl (k 0, 40, .inl f_0)), (q_2, .inl (k 0, 40, .inl f_1)), (q_3, .inl (k 0, 40, .inl f_2)), (q_4, .inl (k 0, 40, .inl f_3)), (q_5, .inl (k 0, 40, .inl f_4))] (fun r u => (u.1 = 0 ∧ r = 0 ∧ ((x_1 = 0))) ∨ (u.1 = 1 ∧ r = 0 ∧ ((¬ x_1 = 0)))) (fun u => match u.1 with | 0 => [(q_0, .inr (6, [.int 1, .ref q_1, .ref q_2, .ref q_3, .ref q_4, .ref q_5, .int x_5, .ref q_6, .int x_6, .ref q_7, .ref q_8, .ref q_9, .ref q_10, .ref q_11, .ref q_12])), (q_1, .inl (k 0, 40, .inl (upd f_0 0 x_0))), (q_2, .inl (k 0, 40, .inl (upd f_1 0 0))), (q_3, .inl (k 0, 40, .inl (upd f_2 0 x_2))), (q_4, .inl (k 0, 40, .inl (upd f_3 0 x_3))), (q_5, .inl (k 0, 40, .inl (upd f_4 0 x_4)))] | _ => [(q_0, .inr (6, [.int 1, .ref q_1, .ref q_2, .ref q_3, .ref q_4, .ref q_5, .int x_5, .ref q_6, .int x_6, .ref q_7, .ref q_8, .ref q_9, .ref q_10, .ref q_11, .ref q_12])), (q_1, .inl (k 0, 40, .inl (upd f_0 0 x_0))), (q_2, .inl (k 0, 40, .inl (upd f_1 0 1))), (q_3, .inl (k 0, 40, .inl (upd f_2 0 x_2))), (q_4, .inl (k 0, 40, .inl (upd f_3 0 x_3))), (q_5, .inl (k 0, 40, .inl (upd f_4 0 x_4)))]) := by
  refine zMi_of (own := RX6) (by decide +kernel) rfl (Nat.le_of_ble_eq_true rfl) ?_
  intro p e s m args below meth c A ls C0 hr hlk hin hP hD hS hA hK hN hl
  have hx := C0.1
  have hb := C0.2.1
  have hml := C0.2.2.1
  have hown := C0.2.2.2.1
  have hts := C0.2.2.2.2
  have hl : lv_has ls 6 [(0, .ref q_0), (1, .int x_0), (2, .int x_1), (3, .int x_2), (4, .int x_3), (5, .int x_4)] := hl
  have hP : va_P D vwCl [(q_0, .inr (6, [.int 0, .ref q_1, .ref q_2, .ref q_3, .ref q_4, .ref q_5, .int x_5, .ref q_6, .int x_6, .ref q_7, .ref q_8, .ref q_9, .ref q_10, .ref q_11, .ref q_12])), (q_1, .inl (k 0, 40, .inl f_0)), (q_2, .inl (k 0, 40, .inl f_1)), (q_3, .inl (k 0, 40, .inl f_2)), (q_4, .inl (k 0, 40, .inl f_3)), (q_5, .inl (k 0, 40, .inl f_4))] s.heap := hP
  refine lv_aload_n hx hb dX6_addChild_0 rfl (lv_at hl 0 rfl) ?_
  refine va_get (D := D) (ci := 6) (v := .ref q_1) (C := RX6) (T := TX6) (N := 15) hx hb hts inX6 hown hK hP 0 rfl rfl 1 (by decide) (hts _ kF_X6_9) (fun _ h9 => h9) rfl dX6_addChild_1 ?_
  refine lv_aload_n hx hb dX6_addChild_4 rfl (lv_at hl 0 rfl) ?_
  refine va_get (D := D) (ci := 6) (v := .int 0) (C := RX6) (T := TX6) (N := 15) hx hb hts inX6 hown hK hP 0 rfl rfl 0 (by decide) (hts _ kF_X6_48) (fun _ h9 => h9) rfl dX6_addChild_5 ?_
  refine lv_iload_n hx hb dX6_addChild_8 rfl (lv_at hl 1 rfl) ?_
  refine va_iast hx hb hK hP hD hS 1 0 rfl rfl (by unfold vp_in; decide) dX6_addChild_9 (fun H locs hP hD hS => ?_)
  have hP : va_P D vwCl [(q_0, .inr (6, [.int 0, .ref q_1, .ref q_2, .ref q_3, .ref q_4, .ref q_5, .int x_5, .ref q_6, .int x_6, .ref q_7, .ref q_8, .ref q_9, .ref q_10, .ref q_11, .ref q_12])), (q_1, .inl (k 0, 40, .inl (upd f_0 0 x_0))), (q_2, .inl (k 0, 40, .inl f_1)), (q_3, .inl (k 0, 40, .inl f_2)), (q_4, .inl (k 0, 40, .inl f_3)), (q_5, .inl (k 0, 40, .inl f_4))] H := hP
  have hD : va_D A [(q_0, .inr (6, [.int 0, .ref q_1, .ref q_2, .ref q_3, .ref q_4, .ref q_5, .int x_5, .ref q_6, .int x_6, .ref q_7, .ref q_8, .ref q_9, .ref q_10, .ref q_11, .ref q_12])), (q_1, .inl (k 0, 40, .inl (upd f_0 0 x_0))), (q_2, .inl (k 0, 40, .inl f_1)), (q_3, .inl (k 0, 40, .inl f_2)), (q_4, .inl (k 0, 40, .inl f_3)), (q_5, .inl (k 0, 40, .inl f_4))] := hD
  refine lv_aload_n hx hb dX6_addChild_10 rfl (lv_at hl 0 rfl) ?_
  refine va_get (D := D) (ci := 6) (v := .ref q_2) (C := RX6) (T := TX6) (N := 15) hx hb hts inX6 hown hK hP 0 rfl rfl 2 (by decide) (hts _ kF_X6_15) (fun _ h9 => h9) rfl dX6_addChild_11 ?_
  refine lv_aload_n hx hb dX6_addChild_14 rfl (lv_at hl 0 rfl) ?_
  refine va_get (D := D) (ci := 6) (v := .int 0) (C := RX6) (T := TX6) (N := 15) hx hb hts inX6 hown hK hP 0 rfl rfl 0 (by decide) (hts _ kF_X6_48) (fun _ h9 => h9) rfl dX6_addChild_15 ?_
  refine lv_iload_n hx hb dX6_addChild_18 rfl (lv_at hl 2 rfl) ?_
  refine lv_if_eq (tgt := 26) hx hb dX6_addChild_19 (by decide) (fun c1 => ?_) (fun c1 => ?_)
  · refine lv_iconst (v := 0) hx hb dX6_addChild_26 (by decide) ?_
    refine va_iast hx hb hK hP hD hS 2 0 rfl rfl (by unfold vp_in; decide) dX6_addChild_27 (fun H locs hP hD hS => ?_)
    have hP : va_P D vwCl [(q_0, .inr (6, [.int 0, .ref q_1, .ref q_2, .ref q_3, .ref q_4, .ref q_5, .int x_5, .ref q_6, .int x_6, .ref q_7, .ref q_8, .ref q_9, .ref q_10, .ref q_11, .ref q_12])), (q_1, .inl (k 0, 40, .inl (upd f_0 0 x_0))), (q_2, .inl (k 0, 40, .inl (upd f_1 0 0))), (q_3, .inl (k 0, 40, .inl f_2)), (q_4, .inl (k 0, 40, .inl f_3)), (q_5, .inl (k 0, 40, .inl f_4))] H := hP
    have hD : va_D A [(q_0, .inr (6, [.int 0, .ref q_1, .ref q_2, .ref q_3, .ref q_4, .ref q_5, .int x_5, .ref q_6, .int x_6, .ref q_7, .ref q_8, .ref q_9, .ref q_10, .ref q_11, .ref q_12])), (q_1, .inl (k 0, 40, .inl (upd f_0 0 x_0))), (q_2, .inl (k 0, 40, .inl (upd f_1 0 0))), (q_3, .inl (k 0, 40, .inl f_2)), (q_4, .inl (k 0, 40, .inl f_3)), (q_5, .inl (k 0, 40, .inl f_4))] := hD
    refine lv_aload_n hx hb dX6_addChild_28 rfl (lv_at hl 0 rfl) ?_
    refine va_get (D := D) (ci := 6) (v := .ref q_3) (C := RX6) (T := TX6) (N := 15) hx hb hts inX6 hown hK hP 0 rfl rfl 3 (by decide) (hts _ kF_X6_18) (fun _ h9 => h9) rfl dX6_addChild_29 ?_
    refine lv_aload_n hx hb dX6_addChild_32 rfl (lv_at hl 0 rfl) ?_
    refine va_get (D := D) (ci := 6) (v := .int 0) (C := RX6) (T := TX6) (N := 15) hx hb hts inX6 hown hK hP 0 rfl rfl 0 (by decide) (hts _ kF_X6_48) (fun _ h9 => h9) rfl dX6_addChild_33 ?_
    refine lv_iload_n hx hb dX6_addChild_36 rfl (lv_at hl 3 rfl) ?_
    refine va_iast hx hb hK hP hD hS 3 0 rfl rfl (by unfold vp_in; decide) dX6_addChild_37 (fun H locs hP hD hS => ?_)
    have hP : va_P D vwCl [(q_0, .inr (6, [.int 0, .ref q_1, .ref q_2, .ref q_3, .ref q_4, .ref q_5, .int x_5, .ref q_6, .int x_6, .ref q_7, .ref q_8, .ref q_9, .ref q_10, .ref q_11, .ref q_12])), (q_1, .inl (k 0, 40, .inl (upd f_0 0 x_0))), (q_2, .inl (k 0, 40, .inl (upd f_1 0 0))), (q_3, .inl (k 0, 40, .inl (upd f_2 0 x_2))), (q_4, .inl (k 0, 40, .inl f_3)), (q_5, .inl (k 0, 40, .inl f_4))] H := hP
    have hD : va_D A [(q_0, .inr (6, [.int 0, .ref q_1, .ref q_2, .ref q_3, .ref q_4, .ref q_5, .int x_5, .ref q_6, .int x_6, .ref q_7, .ref q_8, .ref q_9, .ref q_10, .ref q_11, .ref q_12])), (q_1, .inl (k 0, 40, .inl (upd f_0 0 x_0))), (q_2, .inl (k 0, 40, .inl (upd f_1 0 0))), (q_3, .inl (k 0, 40, .inl (upd f_2 0 x_2))), (q_4, .inl (k 0, 40, .inl f_3)), (q_5, .inl (k 0, 40, .inl f_4))] := hD
    refine lv_aload_n hx hb dX6_addChild_38 rfl (lv_at hl 0 rfl) ?_
    refine va_get (D := D) (ci := 6) (v := .ref q_4) (C := RX6) (T := TX6) (N := 15) hx hb hts inX6 hown hK hP 0 rfl rfl 4 (by decide) (hts _ kF_X6_21) (fun _ h9 => h9) rfl dX6_addChild_39 ?_
    refine lv_aload_n hx hb dX6_addChild_42 rfl (lv_at hl 0 rfl) ?_
    refine va_get (D := D) (ci := 6) (v := .int 0) (C := RX6) (T := TX6) (N := 15) hx hb hts inX6 hown hK hP 0 rfl rfl 0 (by decide) (hts _ kF_X6_48) (fun _ h9 => h9) rfl dX6_addChild_43 ?_
    refine lv_iload hx hb dX6_addChild_46 (lv_at hl 4 rfl) ?_
    refine va_iast hx hb hK hP hD hS 4 0 rfl rfl (by unfold vp_in; decide) dX6_addChild_48 (fun H locs hP hD hS => ?_)
    have hP : va_P D vwCl [(q_0, .inr (6, [.int 0, .ref q_1, .ref q_2, .ref q_3, .ref q_4, .ref q_5, .int x_5, .ref q_6, .int x_6, .ref q_7, .ref q_8, .ref q_9, .ref q_10, .ref q_11, .ref q_12])), (q_1, .inl (k 0, 40, .inl (upd f_0 0 x_0))), (q_2, .inl (k 0, 40, .inl (upd f_1 0 0))), (q_3, .inl (k 0, 40, .inl (upd f_2 0 x_2))), (q_4, .inl (k 0, 40, .inl (upd f_3 0 x_3))), (q_5, .inl (k 0, 40, .inl f_4))] H := hP
    have hD : va_D A [(q_0, .inr (6, [.int 0, .ref q_1, .ref q_2, .ref q_3, .ref q_4, .ref q_5, .int x_5, .ref q_6, .int x_6, .ref q_7, .ref q_8, .ref q_9, .ref q_10, .ref q_11, .ref q_12])), (q_1, .inl (k 0, 40, .inl (upd f_0 0 x_0))), (q_2, .inl (k 0, 40, .inl (upd f_1 0 0))), (q_3, .inl (k 0, 40, .inl (upd f_2 0 x_2))), (q_4, .inl (k 0, 40, .inl (upd f_3 0 x_3))), (q_5, .inl (k 0, 40, .inl f_4))] := hD
    refine lv_aload_n hx hb dX6_addChild_49 rfl (lv_at hl 0 rfl) ?_
    refine va_get (D := D) (ci := 6) (v := .ref q_5) (C := RX6) (T := TX6) (N := 15) hx hb hts inX6 hown hK hP 0 rfl rfl 5 (by decide) (hts _ kF_X6_24) (fun _ h9 => h9) rfl dX6_addChild_50 ?_
    refine lv_aload_n hx hb dX6_addChild_53 rfl (lv_at hl 0 rfl) ?_
    refine va_get (D := D) (ci := 6) (v := .int 0) (C := RX6) (T := TX6) (N := 15) hx hb hts inX6 hown hK hP 0 rfl rfl 0 (by decide) (hts _ kF_X6_48) (fun _ h9 => h9) rfl dX6_addChild_54 ?_
    refine lv_iload hx hb dX6_addChild_57 (lv_at hl 5 rfl) ?_
    refine va_iast hx hb hK hP hD hS 5 0 rfl rfl (by unfold vp_in; decide) dX6_addChild_59 (fun H locs hP hD hS => ?_)
    have hP : va_P D vwCl [(q_0, .inr (6, [.int 0, .ref q_1, .ref q_2, .ref q_3, .ref q_4, .ref q_5, .int x_5, .ref q_6, .int x_6, .ref q_7, .ref q_8, .ref q_9, .ref q_10, .ref q_11, .ref q_12])), (q_1, .inl (k 0, 40, .inl (upd f_0 0 x_0))), (q_2, .inl (k 0, 40, .inl (upd f_1 0 0))), (q_3, .inl (k 0, 40, .inl (upd f_2 0 x_2))), (q_4, .inl (k 0, 40, .inl (upd f_3 0 x_3))), (q_5, .inl (k 0, 40, .inl (upd f_4 0 x_4)))] H := hP
    have hD : va_D A [(q_0, .inr (6, [.int 0, .ref q_1, .ref q_2, .ref q_3, .ref q_4, .ref q_5, .int x_5, .ref q_6, .int x_6, .ref q_7, .ref q_8, .ref q_9, .ref q_10, .ref q_11, .ref q_12])), (q_1, .inl (k 0, 40, .inl (upd f_0 0 x_0))), (q_2, .inl (k 0, 40, .inl (upd f_1 0 0))), (q_3, .inl (k 0, 40, .inl (upd f_2 0 x_2))), (q_4, .inl (k 0, 40, .inl (upd f_3 0 x_3))), (q_5, .inl (k 0, 40, .inl (upd f_4 0 x_4)))] := hD
    refine lv_aload_n hx hb dX6_addChild_60 rfl (lv_at hl 0 rfl) ?_
    refine lv_dup hx hb dX6_addChild_61 rfl ?_
    refine va_get (D := D) (ci := 6) (v := .int 0) (C := RX6) (T := TX6) (N := 15) hx hb hts inX6 hown hK hP 0 rfl rfl 0 (by decide) (hts _ kF_X6_48) (fun _ h9 => h9) rfl dX6_addChild_62 ?_
    refine lv_iconst (v := 1) hx hb dX6_addChild_65 (by decide) ?_
    refine lv_iadd hx hb dX6_addChild_66 ?_
    refine lv_toc (v := 1) (by decide) ?_
    refine va_put (D := D) (ci := 6) (v := .int 1) (ty := .int) (C := RX6) (T := TX6) (N := 15) hx hb hts inX6 tyX6 tyX6_ok nmX6 hown hK hP hD hS 0 rfl rfl 0 (by decide) (hts _ kF_X6_48) (fun _ h9 => h9) rfl (by decide +kernel) rfl rfl (Nat.le_of_ble_eq_true rfl) dX6_addChild_67 (fun H locs hP hD hS => ?_)
    have hP : va_P D vwCl [(q_0, .inr (6, [.int 1, .ref q_1, .ref q_2, .ref q_3, .ref q_4, .ref q_5, .int x_5, .ref q_6, .int x_6, .ref q_7, .ref q_8, .ref q_9, .ref q_10, .ref q_11, .ref q_12])), (q_1, .inl (k 0, 40, .inl (upd f_0 0 x_0))), (q_2, .inl (k 0, 40, .inl (upd f_1 0 0))), (q_3, .inl (k 0, 40, .inl (upd f_2 0 x_2))), (q_4, .inl (k 0, 40, .inl (upd f_3 0 x_3))), (q_5, .inl (k 0, 40, .inl (upd f_4 0 x_4)))] H := hP
    have hD : va_D A [(q_0, .inr (6, [.int 1, .ref q_1, .ref q_2, .ref q_3, .ref q_4, .ref q_5, .int x_5, .ref q_6, .int x_6, .ref q_7, .ref q_8, .ref q_9, .ref q_10, .ref q_11, .ref q_12])), (q_1, .inl (k 0, 40, .inl (upd f_0 0 x_0))), (q_2, .inl (k 0, 40, .inl (upd f_1 0 0))), (q_3, .inl (k 0, 40, .inl (upd f_2 0 x_2))), (q_4, .inl (k 0, 40, .inl (upd f_3 0 x_3))), (q_5, .inl (k 0, 40, .inl (upd f_4 0 x_4)))] := hD
    refine lv_aload_n hx hb dX6_addChild_70 rfl (lv_at hl 0 rfl) ?_
    refine va_get (D := D) (ci := 6) (v := .int 1) (C := RX6) (T := TX6) (N := 15) hx hb hts inX6 hown hK hP 0 rfl rfl 0 (by decide) (hts _ kF_X6_48) (fun _ h9 => h9) rfl dX6_addChild_71 ?_
    refine lv_iconst (v := 1) hx hb dX6_addChild_74 (by decide) ?_
    refine lv_isub hx hb dX6_addChild_75 ?_
    refine lv_toc (v := 0) (by decide) ?_
    exact z_iret C0 hr hlk rfl hK hP hD hS (0, fun _ => 0) (Or.inl ⟨rfl, rfl, c1⟩) [0, 1, 2, 3, 4, 5] rfl rfl rfl dX6_addChild_76
  · refine lv_iconst (v := 1) hx hb dX6_addChild_22 (by decide) ?_
    refine lv_goto (tgt := 27) hx hb dX6_addChild_23 (by decide) ?_
    refine va_iast hx hb hK hP hD hS 2 0 rfl rfl (by unfold vp_in; decide) dX6_addChild_27 (fun H locs hP hD hS => ?_)
    have hP : va_P D vwCl [(q_0, .inr (6, [.int 0, .ref q_1, .ref q_2, .ref q_3, .ref q_4, .ref q_5, .int x_5, .ref q_6, .int x_6, .ref q_7, .ref q_8, .ref q_9, .ref q_10, .ref q_11, .ref q_12])), (q_1, .inl (k 0, 40, .inl (upd f_0 0 x_0))), (q_2, .inl (k 0, 40, .inl (upd f_1 0 1))), (q_3, .inl (k 0, 40, .inl f_2)), (q_4, .inl (k 0, 40, .inl f_3)), (q_5, .inl (k 0, 40, .inl f_4))] H := hP
    have hD : va_D A [(q_0, .inr (6, [.int 0, .ref q_1, .ref q_2, .ref q_3, .ref q_4, .ref q_5, .int x_5, .ref q_6, .int x_6, .ref q_7, .ref q_8, .ref q_9, .ref q_10, .ref q_11, .ref q_12])), (q_1, .inl (k 0, 40, .inl (upd f_0 0 x_0))), (q_2, .inl (k 0, 40, .inl (upd f_1 0 1))), (q_3, .inl (k 0, 40, .inl f_2)), (q_4, .inl (k 0, 40, .inl f_3)), (q_5, .inl (k 0, 40, .inl f_4))] := hD
    refine lv_aload_n hx hb dX6_addChild_28 rfl (lv_at hl 0 rfl) ?_
    refine va_get (D := D) (ci := 6) (v := .ref q_3) (C := RX6) (T := TX6) (N := 15) hx hb hts inX6 hown hK hP 0 rfl rfl 3 (by decide) (hts _ kF_X6_18) (fun _ h9 => h9) rfl dX6_addChild_29 ?_
    refine lv_aload_n hx hb dX6_addChild_32 rfl (lv_at hl 0 rfl) ?_
    refine va_get (D := D) (ci := 6) (v := .int 0) (C := RX6) (T := TX6) (N := 15) hx hb hts inX6 hown hK hP 0 rfl rfl 0 (by decide) (hts _ kF_X6_48) (fun _ h9 => h9) rfl dX6_addChild_33 ?_
    refine lv_iload_n hx hb dX6_addChild_36 rfl (lv_at hl 3 rfl) ?_
    refine va_iast hx hb hK hP hD hS 3 0 rfl rfl (by unfold vp_in; decide) dX6_addChild_37 (fun H locs hP hD hS => ?_)
    have hP : va_P D vwCl [(q_0, .inr (6, [.int 0, .ref q_1, .ref q_2, .ref q_3, .ref q_4, .ref q_5, .int x_5, .ref q_6, .int x_6, .ref q_7, .ref q_8, .ref q_9, .ref q_10, .ref q_11, .ref q_12])), (q_1, .inl (k 0, 40, .inl (upd f_0 0 x_0))), (q_2, .inl (k 0, 40, .inl (upd f_1 0 1))), (q_3, .inl (k 0, 40, .inl (upd f_2 0 x_2))), (q_4, .inl (k 0, 40, .inl f_3)), (q_5, .inl (k 0, 40, .inl f_4))] H := hP
    have hD : va_D A [(q_0, .inr (6, [.int 0, .ref q_1, .ref q_2, .ref q_3, .ref q_4, .ref q_5, .int x_5, .ref q_6, .int x_6, .ref q_7, .ref q_8, .ref q_9, .ref q_10, .ref q_11, .ref q_12])), (q_1, .inl (k 0, 40, .inl (upd f_0 0 x_0))), (q_2, .inl (k 0, 40, .inl (upd f_1 0 1))), (q_3, .inl (k 0, 40, .inl (upd f_2 0 x_2))), (q_4, .inl (k 0, 40, .inl f_3)), (q_5, .inl (k 0, 40, .inl f_4))] := hD
    refine lv_aload_n hx hb dX6_addChild_38 rfl (lv_at hl 0 rfl) ?_
    refine va_get (D := D) (ci := 6) (v := .ref q_4) (C := RX6) (T := TX6) (N := 15) hx hb hts inX6 hown hK hP 0 rfl rfl 4 (by decide) (hts _ kF_X6_21) (fun _ h9 => h9) rfl dX6_addChild_39 ?_
    refine lv_aload_n hx hb dX6_addChild_42 rfl (lv_at hl 0 rfl) ?_
    refine va_get (D := D) (ci := 6) (v := .int 0) (C := RX6) (T := TX6) (N := 15) hx hb hts inX6 hown hK hP 0 rfl rfl 0 (by decide) (hts _ kF_X6_48) (fun _ h9 => h9) rfl dX6_addChild_43 ?_
    refine lv_iload hx hb dX6_addChild_46 (lv_at hl 4 rfl) ?_
    refine va_iast hx hb hK hP hD hS 4 0 rfl rfl (by unfold vp_in; decide) dX6_addChild_48 (fun H locs hP hD hS => ?_)
    have hP : va_P D vwCl [(q_0, .inr (6, [.int 0, .ref q_1, .ref q_2, .ref q_3, .ref q_4, .ref q_5, .int x_5, .ref q_6, .int x_6, .ref q_7, .ref q_8, .ref q_9, .ref q_10, .ref q_11, .ref q_12])), (q_1, .inl (k 0, 40, .inl (upd f_0 0 x_0))), (q_2, .inl (k 0, 40, .inl (upd f_1 0 1))), (q_3, .inl (k 0, 40, .inl (upd f_2 0 x_2))), (q_4, .inl (k 0, 40, .inl (upd f_3 0 x_3))), (q_5, .inl (k 0, 40, .inl f_4))] H := hP
    have hD : va_D A [(q_0, .inr (6, [.int 0, .ref q_1, .ref q_2, .ref q_3, .ref q_4, .ref q_5, .int x_5, .ref q_6, .int x_6, .ref q_7, .ref q_8, .ref q_9, .ref q_10, .ref q_11, .ref q_12])), (q_1, .inl (k 0, 40, .inl (upd f_0 0 x_0))), (q_2, .inl (k 0, 40, .inl (upd f_1 0 1))), (q_3, .inl (k 0, 40, .inl (upd f_2 0 x_2))), (q_4, .inl (k 0, 40, .inl (upd f_3 0 x_3))), (q_5, .inl (k 0, 40, .inl f_4))] := hD
    refine lv_aload_n hx hb dX6_addChild_49 rfl (lv_at hl 0 rfl) ?_
    refine va_get (D := D) (ci := 6) (v := .ref q_5) (C := RX6) (T := TX6) (N := 15) hx hb hts inX6 hown hK hP 0 rfl rfl 5 (by decide) (hts _ kF_X6_24) (fun _ h9 => h9) rfl dX6_addChild_50 ?_
    refine lv_aload_n hx hb dX6_addChild_53 rfl (lv_at hl 0 rfl) ?_
    refine va_get (D := D) (ci := 6) (v := .int 0) (C := RX6) (T := TX6) (N := 15) hx hb hts inX6 hown hK hP 0 rfl rfl 0 (by decide) (hts _ kF_X6_48) (fun _ h9 => h9) rfl dX6_addChild_54 ?_
    refine lv_iload hx hb dX6_addChild_57 (lv_at hl 5 rfl) ?_
    refine va_iast hx hb hK hP hD hS 5 0 rfl rfl (by unfold vp_in; decide) dX6_addChild_59 (fun H locs hP hD hS => ?_)
    have hP : va_P D vwCl [(q_0, .inr (6, [.int 0, .ref q_1, .ref q_2, .ref q_3, .ref q_4, .ref q_5, .int x_5, .ref q_6, .int x_6, .ref q_7, .ref q_8, .ref q_9, .ref q_10, .ref q_11, .ref q_12])), (q_1, .inl (k 0, 40, .inl (upd f_0 0 x_0))), (q_2, .inl (k 0, 40, .inl (upd f_1 0 1))), (q_3, .inl (k 0, 40, .inl (upd f_2 0 x_2))), (q_4, .inl (k 0, 40, .inl (upd f_3 0 x_3))), (q_5, .inl (k 0, 40, .inl (upd f_4 0 x_4)))] H := hP
    have hD : va_D A [(q_0, .inr (6, [.int 0, .ref q_1, .ref q_2, .ref q_3, .ref q_4, .ref q_5, .int x_5, .ref q_6, .int x_6, .ref q_7, .ref q_8, .ref q_9, .ref q_10, .ref q_11, .ref q_12])), (q_1, .inl (k 0, 40, .inl (upd f_0 0 x_0))), (q_2, .inl (k 0, 40, .inl (upd f_1 0 1))), (q_3, .inl (k 0, 40, .inl (upd f_2 0 x_2))), (q_4, .inl (k 0, 40, .inl (upd f_3 0 x_3))), (q_5, .inl (k 0, 40, .inl (upd f_4 0 x_4)))] := hD
    refine lv_aload_n hx hb dX6_addChild_60 rfl (lv_at hl 0 rfl) ?_
    refine lv_dup hx hb dX6_addChild_61 rfl ?_
    refine va_get (D := D) (ci := 6) (v := .int 0) (C := RX6) (T := TX6) (N := 15) hx hb hts inX6 hown hK hP 0 rfl rfl 0 (by decide) (hts _ kF_X6_48) (fun _ h9 => h9) rfl dX6_addChild_62 ?_
    refine lv_iconst (v := 1) hx hb dX6_addChild_65 (by decide) ?_
    refine lv_iadd hx hb dX6_addChild_66 ?_
    refine lv_toc (v := 1) (by decide) ?_
    refine va_put (D := D) (ci := 6) (v := .int 1) (ty := .int) (C := RX6) (T := TX6) (N := 15) hx hb hts inX6 tyX6 tyX6_ok nmX6 hown hK hP hD hS 0 rfl rfl 0 (by decide) (hts _ kF_X6_48) (fun _ h9 => h9) rfl (by decide +kernel) rfl rfl (Nat.le_of_ble_eq_true rfl) dX6_addChild_67 (fun H locs hP hD hS => ?_)
    have hP : va_P D vwCl [(q_0, .inr (6, [.int 1, .ref q_1, .ref q_2, .ref q_3, .ref q_4, .ref q_5, .int x_5, .ref q_6, .int x_6, .ref q_7, .ref q_8, .ref q_9, .ref q_10, .ref q_11, .ref q_12])), (q_1, .inl (k 0, 40, .inl (upd f_0 0 x_0))), (q_2, .inl (k 0, 40, .inl (upd f_1 0 1))), (q_3, .inl (k 0, 40, .inl (upd f_2 0 x_2))), (q_4, .inl (k 0, 40, .inl (upd f_3 0 x_3))), (q_5, .inl (k 0, 40, .inl (upd f_4 0 x_4)))] H := hP
    have hD : va_D A [(q_0, .inr (6, [.int 1, .ref q_1, .ref q_2, .ref q_3, .ref q_4, .ref q_5, .int x_5, .ref q_6, .int x_6, .ref q_7, .ref q_8, .ref q_9, .ref q_10, .ref q_11, .ref q_12])), (q_1, .inl (k 0, 40, .inl (upd f_0 0 x_0))), (q_2, .inl (k 0, 40, .inl (upd f_1 0 1))), (q_3, .inl (k 0, 40, .inl (upd f_2 0 x_2))), (q_4, .inl (k 0, 40, .inl (upd f_3 0 x_3))), (q_5, .inl (k 0, 40, .inl (upd f_4 0 x_4)))] := hD
    refine lv_aload_n hx hb dX6_addChild_70 rfl (lv_at hl 0 rfl) ?_
    refine va_get (D := D) (ci := 6) (v := .int 1) (C := RX6) (T := TX6) (N := 15) hx hb hts inX6 hown hK hP 0 rfl rfl 0 (by decide) (hts _ kF_X6_48) (fun _ h9 => h9) rfl dX6_addChild_71 ?_
    refine lv_iconst (v := 1) hx hb dX6_addChild_74 (by decide) ?_
    refine lv_isub hx hb dX6_addChild_75 ?_
    refine lv_toc (v := 0) (by decide) ?_
    exact z_iret C0 hr hlk rfl hK hP hD hS (1, fun _ => 0) (Or.inr (⟨rfl, rfl, c1⟩)) [0, 1, 2, 3, 4, 5] rfl rfl rfl dX6_addChild_76

set_option maxHeartbeats 4000000 in
set_option maxRecDepth 100000 in
theorem c_X11_answer_2 (l : Launch) (D : va_G) (k : Nat → ClassId) (q_0 : Nat) (q_1 : Nat) (q_2 : Nat) (q_3 : Nat) (q_4 : Nat) (q_5 : Nat) (x_0 : Int32) : zMi l yX11_answer cX11_answer 2 (some .int) ({ frames := 0, cells := 0, slots := 0, locals := 0 }) D k [.ref q_0, .int 0] [(q_0, .inr (11, [.ref q_1, .ref q_2, .ref q_3, .ref q_4, .ref q_5, .int x_0]))] (fun r u => u.1 = 0 ∧ r = 0) (fun u => [(q_0, .inr (11, [.ref q_1, .ref q_2, .ref q_3, .ref q_4, .ref q_5, .int 0]))]) := by
  refine zMi_of (own := RX11) (by decide +kernel) rfl (Nat.le_of_ble_eq_true rfl) ?_
  intro p e s m args below meth c A ls C0 hr hlk hin hP hD hS hA hK hN hl
  have hx := C0.1
  have hb := C0.2.1
  have hml := C0.2.2.1
  have hown := C0.2.2.2.1
  have hts := C0.2.2.2.2
  have hl : lv_has ls 2 [(0, .ref q_0), (1, .int 0)] := hl
  have hP : va_P D vwCl [(q_0, .inr (11, [.ref q_1, .ref q_2, .ref q_3, .ref q_4, .ref q_5, .int x_0]))] s.heap := hP
  refine lv_aload_n hx hb dX11_answer_0 rfl (lv_at hl 0 rfl) ?_
  refine lv_iload_n hx hb dX11_answer_1 rfl (lv_at hl 1 rfl) ?_
  refine lv_if_ge (tgt := 9) hx hb dX11_answer_2 (by decide) (fun _ => ?_) (fun c1 => absurd (by decide) c1)
  refine lv_iconst (v := 0) hx hb dX11_answer_9 (by decide) ?_
  refine va_put (D := D) (ci := 11) (v := .int 0) (ty := .int) (C := RX11) (T := TX11) (N := 6) hx hb hts inX11 tyX11 tyX11_ok nmX11 hown hK hP hD hS 0 rfl rfl 5 (by decide) (hts _ kF_X11_383) (fun _ h9 => h9) rfl (by decide +kernel) rfl rfl (Nat.le_of_ble_eq_true rfl) dX11_answer_10 (fun H locs hP hD hS => ?_)
  have hP : va_P D vwCl [(q_0, .inr (11, [.ref q_1, .ref q_2, .ref q_3, .ref q_4, .ref q_5, .int 0]))] H := hP
  have hD : va_D A [(q_0, .inr (11, [.ref q_1, .ref q_2, .ref q_3, .ref q_4, .ref q_5, .int 0]))] := hD
  refine lv_iload_n hx hb dX11_answer_13 rfl (lv_at hl 1 rfl) ?_
  exact z_iret C0 hr hlk rfl hK hP hD hS (0, fun _ => 0) ⟨rfl, rfl⟩ [0] rfl rfl rfl dX11_answer_14

set_option maxHeartbeats 4000000 in
set_option maxRecDepth 100000 in
theorem c_X11_child_1 (l : Launch) (D : va_G) (k : Nat → ClassId) (q_0 : Nat) (q_1 : Nat) (q_2 : Nat) (q_3 : Nat) (q_4 : Nat) (q_5 : Nat) (q_6 : Nat) (q_7 : Nat) (q_8 : Nat) (q_9 : Nat) (q_10 : Nat) (q_11 : Nat) (q_12 : Nat) (q_13 : Nat) (q_14 : Nat) (q_15 : Nat) (q_16 : Nat) (q_17 : Nat) (q_18 : Nat) (q_19 : Nat) (q_20 : Nat) (q_21 : Nat) (q_22 : Nat) (q_23 : Nat) (x_0 : Int32) (x_1 : Int32) (x_2 : Int32) (x_3 : Int32) (x_4 : Int32) (x_5 : Int32) (x_6 : Int32) (x_7 : Int32) (f_0 : Nat → Int32) (f_1 : Nat → Int32) (f_2 : Nat → Int32) (f_3 : Nat → Int32) (f_4 : Nat → Int32) : zMi l yX11_child cX11_child 7 (some .int) ({ frames := 2, cells := 0, slots := 0, locals := 43 }) D k [.ref q_0, .int x_0, .int x_1, .int x_2, .int x_3, .int x_4] [(q_0, .inr (11, [.ref q_1, .ref q_8, .ref q_9, .ref q_10, .ref q_11, .int x_5])), (q_1, .inr (3, [.ref q_2, .ref q_12, .ref q_13, .ref q_14, .ref q_15, .ref q_16])), (q_2, .inr (6, [.int 0, .ref q_3, .ref q_4, .ref q_5, .ref q_6, .ref q_7, .int x_6, .ref q_17, .int x_7, .ref q_18, .ref q_19, .ref q_20, .ref q_21, .ref q_22, .ref q_23])), (q_3, .inl (k 0, 40, .inl f_0)), (q_4, .inl (k 0, 40, .inl f_1)), (q_5, .inl (k 0, 40, .inl f_2)), (q_6, .inl (k 0, 40, .inl f_3)), (q_7, .inl (k 0, 40, .inl f_4))] (fun r u => (u.1 = 0 ∧ r = (-1) ∧ ((((x_0 < 3) ∨ (¬ x_0 < 3 ∧ ¬ x_0 ≤ 18))) ∨ (((¬ x_0 < 3 ∧ x_0 ≤ 18)) ∧ ((x_2 < (-1)) ∨ (¬ x_2 < (-1) ∧ ¬ x_2 ≤ 7))) ∨ (((¬ x_0 < 3 ∧ x_0 ≤ 18)) ∧ ((¬ x_2 < (-1) ∧ x_2 ≤ 7)) ∧ ((((x_3 < 0) ∨ (¬ x_3 < 0 ∧ ¬ x_3 ≤ 99))) ∨ (((¬ x_3 < 0 ∧ x_3 ≤ 99)) ∧ ((x_4 < 0) ∨ (¬ x_4 < 0 ∧ ¬ x_4 ≤ 99))))))) ∨ (u.1 = 1 ∧ r = 0 ∧ ((((¬ x_0 < 3 ∧ x_0 ≤ 18)) ∧ ((¬ x_2 < (-1) ∧ x_2 ≤ 7)) ∧ ((((¬ x_3 < 0 ∧ x_3 ≤ 99)) ∧ ((¬ x_4 < 0 ∧ x_4 ≤ 99)))) ∧ x_1 = 0) ∨ (((¬ x_0 < 3 ∧ x_0 ≤ 18)) ∧ ((¬ x_2 < (-1) ∧ x_2 ≤ 7)) ∧ ((((¬ x_3 < 0 ∧ x_3 ≤ 99)) ∧ ((¬ x_4 < 0 ∧ x_4 ≤ 99)))) ∧ ¬ x_1 = 0)))) (fun u => []) := by
  refine zMi_of (own := RX11) (by decide +kernel) rfl (Nat.le_of_ble_eq_true rfl) ?_
  intro p e s m args below meth c A ls C0 hr hlk hin hP hD hS hA hK hN hl
  have hx := C0.1
  have hb := C0.2.1
  have hml := C0.2.2.1
  have hown := C0.2.2.2.1
  have hts := C0.2.2.2.2
  have hl : lv_has ls 7 [(0, .ref q_0), (1, .int x_0), (2, .int x_1), (3, .int x_2), (4, .int x_3), (5, .int x_4)] := hl
  have hP : va_P D vwCl [(q_0, .inr (11, [.ref q_1, .ref q_8, .ref q_9, .ref q_10, .ref q_11, .int x_5])), (q_1, .inr (3, [.ref q_2, .ref q_12, .ref q_13, .ref q_14, .ref q_15, .ref q_16])), (q_2, .inr (6, [.int 0, .ref q_3, .ref q_4, .ref q_5, .ref q_6, .ref q_7, .int x_6, .ref q_17, .int x_7, .ref q_18, .ref q_19, .ref q_20, .ref q_21, .ref q_22, .ref q_23])), (q_3, .inl (k 0, 40, .inl f_0)), (q_4, .inl (k 0, 40, .inl f_1)), (q_5, .inl (k 0, 40, .inl f_2)), (q_6, .inl (k 0, 40, .inl f_3)), (q_7, .inl (k 0, 40, .inl f_4))] s.heap := hP
  refine lv_aload_n hx hb dX11_child_0 rfl (lv_at hl 0 rfl) ?_
  refine va_get (D := D) (ci := 11) (v := .ref q_1) (C := RX11) (T := TX11) (N := 6) hx hb hts inX11 hown hK hP 0 rfl rfl 0 (by decide) (hts _ kF_X11_12) (fun _ h9 => h9) rfl dX11_child_1 ?_
  refine va_get (D := D) (ci := 3) (v := .ref q_2) (C := RX3) (T := TX3) (N := 6) hx hb hts inX3 hown hK hP 1 rfl rfl 0 (by decide) (hts _ kF_X11_43) (fun _ h9 => h9) rfl dX11_child_4 ?_
  refine lv_astore (lv' := [(6, .ref q_2), (0, .ref q_0), (1, .int x_0), (2, .int x_1), (3, .int x_2), (4, .int x_3), (5, .int x_4)]) hx hb dX11_child_7 hl (by decide) rfl (fun ls hl => ?_)
  refine lv_iload_n hx hb dX11_child_9 rfl (lv_at hl 2 rfl) ?_
  refine lv_iconst (v := 3) hx hb dX11_child_10 (by decide) ?_
  refine lv_bipush (v := 18) hx hb dX11_child_11 (by decide) ?_
  refine z_bi0 (z_runS (As := [.int x_0, .int 3, .int 18]) (rest := []) C0 (c_X11_isOutside_1 l D k x_0 3 18 _) okS_X11_isOutside kM_X11_47 rfl (z_p0 hK hN) rfl hl.1 rfl (Nat.le_of_ble_eq_true rfl) dX11_child_13 rfl) hP hS hA (fun r1 u1 H locs hw1 hP hS => ?_)
  obtain ⟨i1, a1⟩ := u1
  dsimp only at hw1
  rcases hw1 with ⟨rfl, rfl, c1⟩ | ⟨rfl, rfl, c1⟩
  · refine lv_if_ne (tgt := 39) hx hb dX11_child_16 (by decide) (fun _ => ?_) (fun c2 => absurd c2 (by decide))
    refine lv_aload_n hx hb dX11_child_39 rfl (lv_at hl 1 rfl) ?_
    refine lv_iconst (v := (-1)) hx hb dX11_child_40 (by decide) ?_
    refine z_bi (wr := [(q_1, .inr (3, [.ref q_2, .ref q_12, .ref q_13, .ref q_14, .ref q_15, .ref q_16])), (q_2, .inr (6, [.int 0, .ref q_3, .ref q_4, .ref q_5, .ref q_6, .ref q_7, .int x_6, .ref q_17, .int x_7, .ref q_18, .ref q_19, .ref q_20, .ref q_21, .ref q_22, .ref q_23])), (q_3, .inl (k 0, 40, .inl f_0)), (q_4, .inl (k 0, 40, .inl f_1)), (q_5, .inl (k 0, 40, .inl f_2)), (q_6, .inl (k 0, 40, .inl f_3)), (q_7, .inl (k 0, 40, .inl f_4))]) (z_runV (C := RX11) (As := [.int (-1)]) (rest := []) C0 (c_X11_answer_1 l D k q_0 q_1 q_8 q_9 q_10 q_11 x_5 _) okV_X11_answer kM_X11_55 rfl (z_pV (q0 := 0) hK hN hP hD [0] rfl rfl rfl rfl rfl) rfl hl.1 rfl (Nat.le_of_ble_eq_true rfl) dX11_child_41 rfl) hP hD hS hA [0] [1, 2, 3, 4, 5, 6, 7] rfl rfl rfl rfl (fun r3 u3 H locs hw3 hP hD hS => ?_)
    obtain ⟨i3, a3⟩ := u3
    dsimp only at hw3
    obtain ⟨rfl, rfl⟩ := hw3
    have hP : va_P D vwCl [(q_1, .inr (3, [.ref q_2, .ref q_12, .ref q_13, .ref q_14, .ref q_15, .ref q_16])), (q_2, .inr (6, [.int 0, .ref q_3, .ref q_4, .ref q_5, .ref q_6, .ref q_7, .int x_6, .ref q_17, .int x_7, .ref q_18, .ref q_19, .ref q_20, .ref q_21, .ref q_22, .ref q_23])), (q_3, .inl (k 0, 40, .inl f_0)), (q_4, .inl (k 0, 40, .inl f_1)), (q_5, .inl (k 0, 40, .inl f_2)), (q_6, .inl (k 0, 40, .inl f_3)), (q_7, .inl (k 0, 40, .inl f_4)), (q_0, .inr (11, [.ref q_1, .ref q_8, .ref q_9, .ref q_10, .ref q_11, .int (-1)]))] H := hP
    have hD : va_D A [(q_1, .inr (3, [.ref q_2, .ref q_12, .ref q_13, .ref q_14, .ref q_15, .ref q_16])), (q_2, .inr (6, [.int 0, .ref q_3, .ref q_4, .ref q_5, .ref q_6, .ref q_7, .int x_6, .ref q_17, .int x_7, .ref q_18, .ref q_19, .ref q_20, .ref q_21, .ref q_22, .ref q_23])), (q_3, .inl (k 0, 40, .inl f_0)), (q_4, .inl (k 0, 40, .inl f_1)), (q_5, .inl (k 0, 40, .inl f_2)), (q_6, .inl (k 0, 40, .inl f_3)), (q_7, .inl (k 0, 40, .inl f_4)), (q_0, .inr (11, [.ref q_1, .ref q_8, .ref q_9, .ref q_10, .ref q_11, .int (-1)]))] := hD
    exact z_iret C0 hr hlk rfl hK hP hD hS (0, fun _ => 0) (Or.inl ⟨rfl, rfl, (Or.inl c1)⟩) [] rfl rfl rfl dX11_child_44
  · refine lv_if_ne (tgt := 39) hx hb dX11_child_16 (by decide) (fun c4 => absurd (by decide) c4) (fun _ => ?_)
    refine lv_iload_n hx hb dX11_child_19 rfl (lv_at hl 4 rfl) ?_
    refine lv_iconst (v := (-1)) hx hb dX11_child_20 (by decide) ?_
    refine lv_bipush (v := 7) hx hb dX11_child_21 (by decide) ?_
    refine z_bi0 (z_runS (As := [.int x_2, .int (-1), .int 7]) (rest := []) C0 (c_X11_isOutside_1 l D k x_2 (-1) 7 _) okS_X11_isOutside kM_X11_47 rfl (z_p0 hK hN) rfl hl.1 rfl (Nat.le_of_ble_eq_true rfl) dX11_child_23 rfl) hP hS hA (fun r5 u5 H locs hw5 hP hS => ?_)
    obtain ⟨i5, a5⟩ := u5
    dsimp only at hw5
    rcases hw5 with ⟨rfl, rfl, c5⟩ | ⟨rfl, rfl, c5⟩
    · refine lv_if_ne (tgt := 39) hx hb dX11_child_26 (by decide) (fun _ => ?_) (fun c6 => absurd c6 (by decide))
      refine lv_aload_n hx hb dX11_child_39 rfl (lv_at hl 1 rfl) ?_
      refine lv_iconst (v := (-1)) hx hb dX11_child_40 (by decide) ?_
      refine z_bi (wr := [(q_1, .inr (3, [.ref q_2, .ref q_12, .ref q_13, .ref q_14, .ref q_15, .ref q_16])), (q_2, .inr (6, [.int 0, .ref q_3, .ref q_4, .ref q_5, .ref q_6, .ref q_7, .int x_6, .ref q_17, .int x_7, .ref q_18, .ref q_19, .ref q_20, .ref q_21, .ref q_22, .ref q_23])), (q_3, .inl (k 0, 40, .inl f_0)), (q_4, .inl (k 0, 40, .inl f_1)), (q_5, .inl (k 0, 40, .inl f_2)), (q_6, .inl (k 0, 40, .inl f_3)), (q_7, .inl (k 0, 40, .inl f_4))]) (z_runV (C := RX11) (As := [.int (-1)]) (rest := []) C0 (c_X11_answer_1 l D k q_0 q_1 q_8 q_9 q_10 q_11 x_5 _) okV_X11_answer kM_X11_55 rfl (z_pV (q0 := 0) hK hN hP hD [0] rfl rfl rfl rfl rfl) rfl hl.1 rfl (Nat.le_of_ble_eq_true rfl) dX11_child_41 rfl) hP hD hS hA [0] [1, 2, 3, 4, 5, 6, 7] rfl rfl rfl rfl (fun r7 u7 H locs hw7 hP hD hS => ?_)
      obtain ⟨i7, a7⟩ := u7
      dsimp only at hw7
      obtain ⟨rfl, rfl⟩ := hw7
      have hP : va_P D vwCl [(q_1, .inr (3, [.ref q_2, .ref q_12, .ref q_13, .ref q_14, .ref q_15, .ref q_16])), (q_2, .inr (6, [.int 0, .ref q_3, .ref q_4, .ref q_5, .ref q_6, .ref q_7, .int x_6, .ref q_17, .int x_7, .ref q_18, .ref q_19, .ref q_20, .ref q_21, .ref q_22, .ref q_23])), (q_3, .inl (k 0, 40, .inl f_0)), (q_4, .inl (k 0, 40, .inl f_1)), (q_5, .inl (k 0, 40, .inl f_2)), (q_6, .inl (k 0, 40, .inl f_3)), (q_7, .inl (k 0, 40, .inl f_4)), (q_0, .inr (11, [.ref q_1, .ref q_8, .ref q_9, .ref q_10, .ref q_11, .int (-1)]))] H := hP
      have hD : va_D A [(q_1, .inr (3, [.ref q_2, .ref q_12, .ref q_13, .ref q_14, .ref q_15, .ref q_16])), (q_2, .inr (6, [.int 0, .ref q_3, .ref q_4, .ref q_5, .ref q_6, .ref q_7, .int x_6, .ref q_17, .int x_7, .ref q_18, .ref q_19, .ref q_20, .ref q_21, .ref q_22, .ref q_23])), (q_3, .inl (k 0, 40, .inl f_0)), (q_4, .inl (k 0, 40, .inl f_1)), (q_5, .inl (k 0, 40, .inl f_2)), (q_6, .inl (k 0, 40, .inl f_3)), (q_7, .inl (k 0, 40, .inl f_4)), (q_0, .inr (11, [.ref q_1, .ref q_8, .ref q_9, .ref q_10, .ref q_11, .int (-1)]))] := hD
      exact z_iret C0 hr hlk rfl hK hP hD hS (0, fun _ => 0) (Or.inl ⟨rfl, rfl, (Or.inr (Or.inl (⟨c1, c5⟩)))⟩) [] rfl rfl rfl dX11_child_44
    · refine lv_if_ne (tgt := 39) hx hb dX11_child_26 (by decide) (fun c8 => absurd (by decide) c8) (fun _ => ?_)
      refine lv_iload hx hb dX11_child_29 (lv_at hl 5 rfl) ?_
      refine lv_iload hx hb dX11_child_31 (lv_at hl 6 rfl) ?_
      refine z_bi0 (z_runS (As := [.int x_3, .int x_4]) (rest := []) C0 (c_X11_isNoPlace_1 l D k x_3 x_4 _) okS_X11_isNoPlace kM_X11_51 rfl (z_p0 hK hN) rfl hl.1 rfl (Nat.le_of_ble_eq_true rfl) dX11_child_33 rfl) hP hS hA (fun r9 u9 H locs hw9 hP hS => ?_)
      obtain ⟨i9, a9⟩ := u9
      dsimp only at hw9
      rcases hw9 with ⟨rfl, rfl, c9⟩ | ⟨rfl, rfl, c9⟩
      · refine lv_if_eq (tgt := 45) hx hb dX11_child_36 (by decide) (fun c10 => absurd c10 (by decide)) (fun _ => ?_)
        refine lv_aload_n hx hb dX11_child_39 rfl (lv_at hl 1 rfl) ?_
        refine lv_iconst (v := (-1)) hx hb dX11_child_40 (by decide) ?_
        refine z_bi (wr := [(q_1, .inr (3, [.ref q_2, .ref q_12, .ref q_13, .ref q_14, .ref q_15, .ref q_16])), (q_2, .inr (6, [.int 0, .ref q_3, .ref q_4, .ref q_5, .ref q_6, .ref q_7, .int x_6, .ref q_17, .int x_7, .ref q_18, .ref q_19, .ref q_20, .ref q_21, .ref q_22, .ref q_23])), (q_3, .inl (k 0, 40, .inl f_0)), (q_4, .inl (k 0, 40, .inl f_1)), (q_5, .inl (k 0, 40, .inl f_2)), (q_6, .inl (k 0, 40, .inl f_3)), (q_7, .inl (k 0, 40, .inl f_4))]) (z_runV (C := RX11) (As := [.int (-1)]) (rest := []) C0 (c_X11_answer_1 l D k q_0 q_1 q_8 q_9 q_10 q_11 x_5 _) okV_X11_answer kM_X11_55 rfl (z_pV (q0 := 0) hK hN hP hD [0] rfl rfl rfl rfl rfl) rfl hl.1 rfl (Nat.le_of_ble_eq_true rfl) dX11_child_41 rfl) hP hD hS hA [0] [1, 2, 3, 4, 5, 6, 7] rfl rfl rfl rfl (fun r11 u11 H locs hw11 hP hD hS => ?_)
        obtain ⟨i11, a11⟩ := u11
        dsimp only at hw11
        obtain ⟨rfl, rfl⟩ := hw11
        have hP : va_P D vwCl [(q_1, .inr (3, [.ref q_2, .ref q_12, .ref q_13, .ref q_14, .ref q_15, .ref q_16])), (q_2, .inr (6, [.int 0, .ref q_3, .ref q_4, .ref q_5, .ref q_6, .ref q_7, .int x_6, .ref q_17, .int x_7, .ref q_18, .ref q_19, .ref q_20, .ref q_21, .ref q_22, .ref q_23])), (q_3, .inl (k 0, 40, .inl f_0)), (q_4, .inl (k 0, 40, .inl f_1)), (q_5, .inl (k 0, 40, .inl f_2)), (q_6, .inl (k 0, 40, .inl f_3)), (q_7, .inl (k 0, 40, .inl f_4)), (q_0, .inr (11, [.ref q_1, .ref q_8, .ref q_9, .ref q_10, .ref q_11, .int (-1)]))] H := hP
        have hD : va_D A [(q_1, .inr (3, [.ref q_2, .ref q_12, .ref q_13, .ref q_14, .ref q_15, .ref q_16])), (q_2, .inr (6, [.int 0, .ref q_3, .ref q_4, .ref q_5, .ref q_6, .ref q_7, .int x_6, .ref q_17, .int x_7, .ref q_18, .ref q_19, .ref q_20, .ref q_21, .ref q_22, .ref q_23])), (q_3, .inl (k 0, 40, .inl f_0)), (q_4, .inl (k 0, 40, .inl f_1)), (q_5, .inl (k 0, 40, .inl f_2)), (q_6, .inl (k 0, 40, .inl f_3)), (q_7, .inl (k 0, 40, .inl f_4)), (q_0, .inr (11, [.ref q_1, .ref q_8, .ref q_9, .ref q_10, .ref q_11, .int (-1)]))] := hD
        exact z_iret C0 hr hlk rfl hK hP hD hS (0, fun _ => 0) (Or.inl ⟨rfl, rfl, (Or.inr (Or.inr (⟨c1, c5, c9⟩)))⟩) [] rfl rfl rfl dX11_child_44
      · refine lv_if_eq (tgt := 45) hx hb dX11_child_36 (by decide) (fun _ => ?_) (fun c12 => absurd (by decide) c12)
        refine lv_aload hx hb dX11_child_45 (lv_at hl 0 rfl) ?_
        refine va_get (D := D) (ci := 6) (v := .int 0) (C := RX6) (T := TX6) (N := 15) hx hb hts inX6 hown hK hP 2 rfl rfl 0 (by decide) (hts _ kF_X11_59) (fun _ h9 => h9) rfl dX11_child_47 ?_
        refine lv_bipush (v := 40) hx hb dX11_child_50 (by decide) ?_
        refine lv_icmp_lt (tgt := 62) hx hb dX11_child_52 (by decide) (fun _ => ?_) (fun c13 => absurd (by decide) c13)
        refine lv_aload_n hx hb dX11_child_62 rfl (lv_at hl 1 rfl) ?_
        refine lv_aload hx hb dX11_child_63 (lv_at hl 0 rfl) ?_
        refine lv_iload_n hx hb dX11_child_65 rfl (lv_at hl 2 rfl) ?_
        refine lv_iload_n hx hb dX11_child_66 rfl (lv_at hl 3 rfl) ?_
        refine lv_iload_n hx hb dX11_child_67 rfl (lv_at hl 4 rfl) ?_
        refine lv_iload hx hb dX11_child_68 (lv_at hl 5 rfl) ?_
        refine lv_iload hx hb dX11_child_70 (lv_at hl 6 rfl) ?_
        refine z_bi (wr := [(q_0, .inr (11, [.ref q_1, .ref q_8, .ref q_9, .ref q_10, .ref q_11, .int x_5])), (q_1, .inr (3, [.ref q_2, .ref q_12, .ref q_13, .ref q_14, .ref q_15, .ref q_16]))]) (z_runV (C := RX6) (As := [.int x_0, .int x_1, .int x_2, .int x_3, .int x_4]) (rest := [.ref q_0]) C0 (c_X6_addChild_1 l D k q_2 q_3 q_4 q_5 q_6 q_7 q_17 q_18 q_19 q_20 q_21 q_22 q_23 x_0 x_1 x_2 x_3 x_4 x_6 x_7 f_0 f_1 f_2 f_3 f_4 _) okV_X6_addChild kM_X11_65 rfl (z_pV (q0 := 2) hK hN hP hD [2, 3, 4, 5, 6, 7] rfl rfl rfl rfl rfl) rfl hl.1 rfl (Nat.le_of_ble_eq_true rfl) dX11_child_72 rfl) hP hD hS hA [2, 3, 4, 5, 6, 7] [0, 1] rfl rfl rfl rfl (fun r14 u14 H locs hw14 hP hD hS => ?_)
        obtain ⟨i14, a14⟩ := u14
        dsimp only at hw14
        rcases hw14 with ⟨rfl, rfl, c14⟩ | ⟨rfl, rfl, c14⟩
        · have hP : va_P D vwCl [(q_0, .inr (11, [.ref q_1, .ref q_8, .ref q_9, .ref q_10, .ref q_11, .int x_5])), (q_1, .inr (3, [.ref q_2, .ref q_12, .ref q_13, .ref q_14, .ref q_15, .ref q_16])), (q_2, .inr (6, [.int 1, .ref q_3, .ref q_4, .ref q_5, .ref q_6, .ref q_7, .int x_6, .ref q_17, .int x_7, .ref q_18, .ref q_19, .ref q_20, .ref q_21, .ref q_22, .ref q_23])), (q_3, .inl (k 0, 40, .inl (upd f_0 0 x_0))), (q_4, .inl (k 0, 40, .inl (upd f_1 0 0))), (q_5, .inl (k 0, 40, .inl (upd f_2 0 x_2))), (q_6, .inl (k 0, 40, .inl (upd f_3 0 x_3))), (q_7, .inl (k 0, 40, .inl (upd f_4 0 x_4)))] H := hP
          have hD : va_D A [(q_0, .inr (11, [.ref q_1, .ref q_8, .ref q_9, .ref q_10, .ref q_11, .int x_5])), (q_1, .inr (3, [.ref q_2, .ref q_12, .ref q_13, .ref q_14, .ref q_15, .ref q_16])), (q_2, .inr (6, [.int 1, .ref q_3, .ref q_4, .ref q_5, .ref q_6, .ref q_7, .int x_6, .ref q_17, .int x_7, .ref q_18, .ref q_19, .ref q_20, .ref q_21, .ref q_22, .ref q_23])), (q_3, .inl (k 0, 40, .inl (upd f_0 0 x_0))), (q_4, .inl (k 0, 40, .inl (upd f_1 0 0))), (q_5, .inl (k 0, 40, .inl (upd f_2 0 x_2))), (q_6, .inl (k 0, 40, .inl (upd f_3 0 x_3))), (q_7, .inl (k 0, 40, .inl (upd f_4 0 x_4)))] := hD
          refine z_bi (wr := [(q_1, .inr (3, [.ref q_2, .ref q_12, .ref q_13, .ref q_14, .ref q_15, .ref q_16])), (q_2, .inr (6, [.int 1, .ref q_3, .ref q_4, .ref q_5, .ref q_6, .ref q_7, .int x_6, .ref q_17, .int x_7, .ref q_18, .ref q_19, .ref q_20, .ref q_21, .ref q_22, .ref q_23])), (q_3, .inl (k 0, 40, .inl (upd f_0 0 x_0))), (q_4, .inl (k 0, 40, .inl (upd f_1 0 0))), (q_5, .inl (k 0, 40, .inl (upd f_2 0 x_2))), (q_6, .inl (k 0, 40, .inl (upd f_3 0 x_3))), (q_7, .inl (k 0, 40, .inl (upd f_4 0 x_4)))]) (z_runV (C := RX11) (As := [.int 0]) (rest := []) C0 (c_X11_answer_2 l D k q_0 q_1 q_8 q_9 q_10 q_11 x_5 _) okV_X11_answer kM_X11_55 rfl (z_pV (q0 := 0) hK hN hP hD [0] rfl rfl rfl rfl rfl) rfl hl.1 rfl (Nat.le_of_ble_eq_true rfl) dX11_child_75 rfl) hP hD hS hA [0] [1, 2, 3, 4, 5, 6, 7] rfl rfl rfl rfl (fun r15 u15 H locs hw15 hP hD hS => ?_)
          obtain ⟨i15, a15⟩ := u15
          dsimp only at hw15
          obtain ⟨rfl, rfl⟩ := hw15
          have hP : va_P D vwCl [(q_1, .inr (3, [.ref q_2, .ref q_12, .ref q_13, .ref q_14, .ref q_15, .ref q_16])), (q_2, .inr (6, [.int 1, .ref q_3, .ref q_4, .ref q_5, .ref q_6, .ref q_7, .int x_6, .ref q_17, .int x_7, .ref q_18, .ref q_19, .ref q_20, .ref q_21, .ref q_22, .ref q_23])), (q_3, .inl (k 0, 40, .inl (upd f_0 0 x_0))), (q_4, .inl (k 0, 40, .inl (upd f_1 0 0))), (q_5, .inl (k 0, 40, .inl (upd f_2 0 x_2))), (q_6, .inl (k 0, 40, .inl (upd f_3 0 x_3))), (q_7, .inl (k 0, 40, .inl (upd f_4 0 x_4))), (q_0, .inr (11, [.ref q_1, .ref q_8, .ref q_9, .ref q_10, .ref q_11, .int 0]))] H := hP
          have hD : va_D A [(q_1, .inr (3, [.ref q_2, .ref q_12, .ref q_13, .ref q_14, .ref q_15, .ref q_16])), (q_2, .inr (6, [.int 1, .ref q_3, .ref q_4, .ref q_5, .ref q_6, .ref q_7, .int x_6, .ref q_17, .int x_7, .ref q_18, .ref q_19, .ref q_20, .ref q_21, .ref q_22, .ref q_23])), (q_3, .inl (k 0, 40, .inl (upd f_0 0 x_0))), (q_4, .inl (k 0, 40, .inl (upd f_1 0 0))), (q_5, .inl (k 0, 40, .inl (upd f_2 0 x_2))), (q_6, .inl (k 0, 40, .inl (upd f_3 0 x_3))), (q_7, .inl (k 0, 40, .inl (upd f_4 0 x_4))), (q_0, .inr (11, [.ref q_1, .ref q_8, .ref q_9, .ref q_10, .ref q_11, .int 0]))] := hD
          exact z_iret C0 hr hlk rfl hK hP hD hS (1, fun _ => 0) (Or.inr (⟨rfl, rfl, (Or.inl (⟨c1, c5, c9, c14⟩))⟩)) [] rfl rfl rfl dX11_child_78
        · have hP : va_P D vwCl [(q_0, .inr (11, [.ref q_1, .ref q_8, .ref q_9, .ref q_10, .ref q_11, .int x_5])), (q_1, .inr (3, [.ref q_2, .ref q_12, .ref q_13, .ref q_14, .ref q_15, .ref q_16])), (q_2, .inr (6, [.int 1, .ref q_3, .ref q_4, .ref q_5, .ref q_6, .ref q_7, .int x_6, .ref q_17, .int x_7, .ref q_18, .ref q_19, .ref q_20, .ref q_21, .ref q_22, .ref q_23])), (q_3, .inl (k 0, 40, .inl (upd f_0 0 x_0))), (q_4, .inl (k 0, 40, .inl (upd f_1 0 1))), (q_5, .inl (k 0, 40, .inl (upd f_2 0 x_2))), (q_6, .inl (k 0, 40, .inl (upd f_3 0 x_3))), (q_7, .inl (k 0, 40, .inl (upd f_4 0 x_4)))] H := hP
          have hD : va_D A [(q_0, .inr (11, [.ref q_1, .ref q_8, .ref q_9, .ref q_10, .ref q_11, .int x_5])), (q_1, .inr (3, [.ref q_2, .ref q_12, .ref q_13, .ref q_14, .ref q_15, .ref q_16])), (q_2, .inr (6, [.int 1, .ref q_3, .ref q_4, .ref q_5, .ref q_6, .ref q_7, .int x_6, .ref q_17, .int x_7, .ref q_18, .ref q_19, .ref q_20, .ref q_21, .ref q_22, .ref q_23])), (q_3, .inl (k 0, 40, .inl (upd f_0 0 x_0))), (q_4, .inl (k 0, 40, .inl (upd f_1 0 1))), (q_5, .inl (k 0, 40, .inl (upd f_2 0 x_2))), (q_6, .inl (k 0, 40, .inl (upd f_3 0 x_3))), (q_7, .inl (k 0, 40, .inl (upd f_4 0 x_4)))] := hD
          refine z_bi (wr := [(q_1, .inr (3, [.ref q_2, .ref q_12, .ref q_13, .ref q_14, .ref q_15, .ref q_16])), (q_2, .inr (6, [.int 1, .ref q_3, .ref q_4, .ref q_5, .ref q_6, .ref q_7, .int x_6, .ref q_17, .int x_7, .ref q_18, .ref q_19, .ref q_20, .ref q_21, .ref q_22, .ref q_23])), (q_3, .inl (k 0, 40, .inl (upd f_0 0 x_0))), (q_4, .inl (k 0, 40, .inl (upd f_1 0 1))), (q_5, .inl (k 0, 40, .inl (upd f_2 0 x_2))), (q_6, .inl (k 0, 40, .inl (upd f_3 0 x_3))), (q_7, .inl (k 0, 40, .inl (upd f_4 0 x_4)))]) (z_runV (C := RX11) (As := [.int 0]) (rest := []) C0 (c_X11_answer_2 l D k q_0 q_1 q_8 q_9 q_10 q_11 x_5 _) okV_X11_answer kM_X11_55 rfl (z_pV (q0 := 0) hK hN hP hD [0] rfl rfl rfl rfl rfl) rfl hl.1 rfl (Nat.le_of_ble_eq_true rfl) dX11_child_75 rfl) hP hD hS hA [0] [1, 2, 3, 4, 5, 6, 7] rfl rfl rfl rfl (fun r16 u16 H locs hw16 hP hD hS => ?_)
          obtain ⟨i16, a16⟩ := u16
          dsimp only at hw16
          obtain ⟨rfl, rfl⟩ := hw16
          have hP : va_P D vwCl [(q_1, .inr (3, [.ref q_2, .ref q_12, .ref q_13, .ref q_14, .ref q_15, .ref q_16])), (q_2, .inr (6, [.int 1, .ref q_3, .ref q_4, .ref q_5, .ref q_6, .ref q_7, .int x_6, .ref q_17, .int x_7, .ref q_18, .ref q_19, .ref q_20, .ref q_21, .ref q_22, .ref q_23])), (q_3, .inl (k 0, 40, .inl (upd f_0 0 x_0))), (q_4, .inl (k 0, 40, .inl (upd f_1 0 1))), (q_5, .inl (k 0, 40, .inl (upd f_2 0 x_2))), (q_6, .inl (k 0, 40, .inl (upd f_3 0 x_3))), (q_7, .inl (k 0, 40, .inl (upd f_4 0 x_4))), (q_0, .inr (11, [.ref q_1, .ref q_8, .ref q_9, .ref q_10, .ref q_11, .int 0]))] H := hP
          have hD : va_D A [(q_1, .inr (3, [.ref q_2, .ref q_12, .ref q_13, .ref q_14, .ref q_15, .ref q_16])), (q_2, .inr (6, [.int 1, .ref q_3, .ref q_4, .ref q_5, .ref q_6, .ref q_7, .int x_6, .ref q_17, .int x_7, .ref q_18, .ref q_19, .ref q_20, .ref q_21, .ref q_22, .ref q_23])), (q_3, .inl (k 0, 40, .inl (upd f_0 0 x_0))), (q_4, .inl (k 0, 40, .inl (upd f_1 0 1))), (q_5, .inl (k 0, 40, .inl (upd f_2 0 x_2))), (q_6, .inl (k 0, 40, .inl (upd f_3 0 x_3))), (q_7, .inl (k 0, 40, .inl (upd f_4 0 x_4))), (q_0, .inr (11, [.ref q_1, .ref q_8, .ref q_9, .ref q_10, .ref q_11, .int 0]))] := hD
          exact z_iret C0 hr hlk rfl hK hP hD hS (1, fun _ => 0) (Or.inr (⟨rfl, rfl, (Or.inr (⟨c1, c5, c9, c14⟩))⟩)) [] rfl rfl rfl dX11_child_78

set_option maxHeartbeats 4000000 in
set_option maxRecDepth 100000 in
theorem c_X12_in_1 (l : Launch) (D : va_G) (k : Nat → ClassId) (g_0 : Int64) (g_1 : Int64) (g_2 : Int64) : zMi l yX12_in cX12_in 6 (some .boolean) ({ frames := 0, cells := 0, slots := 0, locals := 0 }) D k [.long g_0, .long g_1, .long g_2] [] (fun r u => (u.1 = 0 ∧ r = 0 ∧ ((g_0 < g_1) ∨ (¬ g_0 < g_1 ∧ g_2 < g_0))) ∨ (u.1 = 1 ∧ r = 1 ∧ ((¬ g_0 < g_1 ∧ ¬ g_2 < g_0)))) (fun u => []) := by
  refine zMi_of (own := RX12) (by decide +kernel) rfl (Nat.le_of_ble_eq_true rfl) ?_
  intro p e s m args below meth c A ls C0 hr hlk hin hP hD hS hA hK hN hl
  have hx := C0.1
  have hb := C0.2.1
  have hml := C0.2.2.1
  have hown := C0.2.2.2.1
  have hts := C0.2.2.2.2
  have hl : lv_has ls 6 [(0, .long g_0), (2, .long g_1), (4, .long g_2)] := hl
  have hP : va_P D vwCl [] s.heap := hP
  refine lv_lload_n hx hb dX12_in_0 rfl (lv_at hl 0 rfl) ?_
  refine lv_lload_n hx hb dX12_in_1 rfl (lv_at hl 1 rfl) ?_
  refine W.lcmp hx hb dX12_in_2 ?_
  refine lv_if_lt (tgt := 17) hx hb dX12_in_3 (by decide) (fun c1 => ?_) (fun c1 => ?_)
  · have c1 : g_0 < g_1 := (lg_clt _ _).mp c1
    refine lv_iconst (v := 0) hx hb dX12_in_17 (by decide) ?_
    exact z_iret C0 hr hlk rfl hK hP hD hS (0, fun _ => 0) (Or.inl ⟨rfl, rfl, (Or.inl c1)⟩) [] rfl rfl rfl dX12_in_18
  · have c1 : ¬ g_0 < g_1 := fun q => c1 ((lg_clt _ _).mpr q)
    refine lv_lload_n hx hb dX12_in_6 rfl (lv_at hl 0 rfl) ?_
    refine lv_lload hx hb dX12_in_7 (lv_at hl 2 rfl) ?_
    refine W.lcmp hx hb dX12_in_9 ?_
    refine lv_if_gt (tgt := 17) hx hb dX12_in_10 (by decide) (fun c2 => ?_) (fun c2 => ?_)
    · have c2 : g_2 < g_0 := (lg_cgt _ _).mp c2
      refine lv_iconst (v := 0) hx hb dX12_in_17 (by decide) ?_
      exact z_iret C0 hr hlk rfl hK hP hD hS (0, fun _ => 0) (Or.inl ⟨rfl, rfl, (Or.inr (⟨c1, c2⟩))⟩) [] rfl rfl rfl dX12_in_18
    · have c2 : ¬ g_2 < g_0 := fun q => c2 ((lg_cgt _ _).mpr q)
      refine lv_iconst (v := 1) hx hb dX12_in_13 (by decide) ?_
      refine lv_goto (tgt := 18) hx hb dX12_in_14 (by decide) ?_
      exact z_iret C0 hr hlk rfl hK hP hD hS (1, fun _ => 0) (Or.inr (⟨rfl, rfl, ⟨c1, c2⟩⟩)) [] rfl rfl rfl dX12_in_18

set_option maxHeartbeats 4000000 in
set_option maxRecDepth 100000 in
theorem c_X12_told_1 (l : Launch) (D : va_G) (k : Nat → ClassId) (q_0 : Nat) (q_1 : Nat) (q_2 : Nat) (q_3 : Nat) (q_4 : Nat) (q_5 : Nat) (q_6 : Nat) (q_7 : Nat) (q_8 : Nat) (q_9 : Nat) (q_10 : Nat) (q_11 : Nat) (q_12 : Nat) (q_13 : Nat) (q_14 : Nat) (q_15 : Nat) (q_16 : Nat) (q_17 : Nat) (q_18 : Nat) (q_19 : Nat) (q_20 : Nat) (q_21 : Nat) (q_22 : Nat) (q_23 : Nat) (q_24 : Nat) (q_25 : Nat) (x_0 : Int32) (x_1 : Int32) (x_2 : Int32) (x_3 : Int32) (x_4 : Int32) (x_5 : Int32) (x_6 : Int32) (g_7 : Int64) (x_8 : Int32) (x_9 : Int32) (x_10 : Int32) (x_11 : Int32) (x_12 : Int32) (x_13 : Int32) (x_14 : Int32) (x_15 : Int32) (g_16 : Int64) (g_17 : Int64) (x_18 : Int32) (x_19 : Int32) (x_20 : Int32) (x_21 : Int32) (x_22 : Int32) (x_23 : Int32) (x_24 : Int32) (x_25 : Int32) (x_26 : Int32) (x_27 : Int32) (x_28 : Int32) (x_29 : Int32) (x_30 : Int32) : zMi l yX12_told cX12_told 2 (some .int) ({ frames := 0, cells := 0, slots := 0, locals := 0 }) D k [.ref q_0, .int (-1)] [(q_0, .inr (12, [.int x_0, .int x_1, .ref q_1, .ref q_2, .ref q_3, .int x_2, .ref q_4, .ref q_5, .ref q_6, .ref q_7, .ref q_8, .int x_3, .int x_4, .int x_5, .int x_6, .long g_7, .int x_8, .int x_9, .int x_10, .ref q_9, .int x_11, .ref q_10, .ref q_11, .int x_12, .ref q_12, .ref q_13, .int x_13, .int x_14, .ref q_14, .ref q_15, .ref q_16, .ref q_17, .int x_15, .long g_16, .long g_17, .int x_18, .int x_19, .int x_20, .int x_21, .ref q_18, .ref q_19, .int x_22, .int x_23, .int x_24, .int x_25, .ref q_20, .ref q_21, .int x_26, .int x_27, .ref q_22, .ref q_23, .ref q_24, .ref q_25, .int x_28, .int x_29, .int x_30]))] (fun r u => u.1 = 0 ∧ r = (-1)) (fun u => [(q_0, .inr (12, [.int x_0, .int (-1), .ref q_1, .ref q_2, .ref q_3, .int x_2, .ref q_4, .ref q_5, .ref q_6, .ref q_7, .ref q_8, .int x_3, .int x_4, .int x_5, .int x_6, .long g_7, .int x_8, .int x_9, .int x_10, .ref q_9, .int x_11, .ref q_10, .ref q_11, .int x_12, .ref q_12, .ref q_13, .int x_13, .int x_14, .ref q_14, .ref q_15, .ref q_16, .ref q_17, .int x_15, .long g_16, .long g_17, .int x_18, .int x_19, .int x_20, .int x_21, .ref q_18, .ref q_19, .int x_22, .int x_23, .int x_24, .int x_25, .ref q_20, .ref q_21, .int x_26, .int x_27, .ref q_22, .ref q_23, .ref q_24, .ref q_25, .int x_28, .int x_29, .int x_30]))]) := by
  refine zMi_of (own := RX12) (by decide +kernel) rfl (Nat.le_of_ble_eq_true rfl) ?_
  intro p e s m args below meth c A ls C0 hr hlk hin hP hD hS hA hK hN hl
  have hx := C0.1
  have hb := C0.2.1
  have hml := C0.2.2.1
  have hown := C0.2.2.2.1
  have hts := C0.2.2.2.2
  have hl : lv_has ls 2 [(0, .ref q_0), (1, .int (-1))] := hl
  have hP : va_P D vwCl [(q_0, .inr (12, [.int x_0, .int x_1, .ref q_1, .ref q_2, .ref q_3, .int x_2, .ref q_4, .ref q_5, .ref q_6, .ref q_7, .ref q_8, .int x_3, .int x_4, .int x_5, .int x_6, .long g_7, .int x_8, .int x_9, .int x_10, .ref q_9, .int x_11, .ref q_10, .ref q_11, .int x_12, .ref q_12, .ref q_13, .int x_13, .int x_14, .ref q_14, .ref q_15, .ref q_16, .ref q_17, .int x_15, .long g_16, .long g_17, .int x_18, .int x_19, .int x_20, .int x_21, .ref q_18, .ref q_19, .int x_22, .int x_23, .int x_24, .int x_25, .ref q_20, .ref q_21, .int x_26, .int x_27, .ref q_22, .ref q_23, .ref q_24, .ref q_25, .int x_28, .int x_29, .int x_30]))] s.heap := hP
  refine lv_aload_n hx hb dX12_told_0 rfl (lv_at hl 0 rfl) ?_
  refine lv_iload_n hx hb dX12_told_1 rfl (lv_at hl 1 rfl) ?_
  refine lv_if_ge (tgt := 9) hx hb dX12_told_2 (by decide) (fun c1 => absurd c1 (by decide)) (fun _ => ?_)
  refine lv_iload_n hx hb dX12_told_5 rfl (lv_at hl 1 rfl) ?_
  refine lv_goto (tgt := 10) hx hb dX12_told_6 (by decide) ?_
  refine va_put (D := D) (ci := 12) (v := .int (-1)) (ty := .int) (C := RX12) (T := TX12) (N := 56) hx hb hts inX12 tyX12 tyX12_ok nmX12 hown hK hP hD hS 0 rfl rfl 1 (by decide) (hts _ kF_X12_95) (fun _ h9 => h9) rfl (by decide +kernel) rfl rfl (Nat.le_of_ble_eq_true rfl) dX12_told_10 (fun H locs hP hD hS => ?_)
  have hP : va_P D vwCl [(q_0, .inr (12, [.int x_0, .int (-1), .ref q_1, .ref q_2, .ref q_3, .int x_2, .ref q_4, .ref q_5, .ref q_6, .ref q_7, .ref q_8, .int x_3, .int x_4, .int x_5, .int x_6, .long g_7, .int x_8, .int x_9, .int x_10, .ref q_9, .int x_11, .ref q_10, .ref q_11, .int x_12, .ref q_12, .ref q_13, .int x_13, .int x_14, .ref q_14, .ref q_15, .ref q_16, .ref q_17, .int x_15, .long g_16, .long g_17, .int x_18, .int x_19, .int x_20, .int x_21, .ref q_18, .ref q_19, .int x_22, .int x_23, .int x_24, .int x_25, .ref q_20, .ref q_21, .int x_26, .int x_27, .ref q_22, .ref q_23, .ref q_24, .ref q_25, .int x_28, .int x_29, .int x_30]))] H := hP
  have hD : va_D A [(q_0, .inr (12, [.int x_0, .int (-1), .ref q_1, .ref q_2, .ref q_3, .int x_2, .ref q_4, .ref q_5, .ref q_6, .ref q_7, .ref q_8, .int x_3, .int x_4, .int x_5, .int x_6, .long g_7, .int x_8, .int x_9, .int x_10, .ref q_9, .int x_11, .ref q_10, .ref q_11, .int x_12, .ref q_12, .ref q_13, .int x_13, .int x_14, .ref q_14, .ref q_15, .ref q_16, .ref q_17, .int x_15, .long g_16, .long g_17, .int x_18, .int x_19, .int x_20, .int x_21, .ref q_18, .ref q_19, .int x_22, .int x_23, .int x_24, .int x_25, .ref q_20, .ref q_21, .int x_26, .int x_27, .ref q_22, .ref q_23, .ref q_24, .ref q_25, .int x_28, .int x_29, .int x_30]))] := hD
  refine lv_iload_n hx hb dX12_told_13 rfl (lv_at hl 1 rfl) ?_
  exact z_iret C0 hr hlk rfl hK hP hD hS (0, fun _ => 0) ⟨rfl, rfl⟩ [0] rfl rfl rfl dX12_told_14

set_option maxHeartbeats 4000000 in
set_option maxRecDepth 100000 in
theorem c_X12_childAt_1 (l : Launch) (D : va_G) (k : Nat → ClassId) : zMi l yX12_childAt cX12_childAt 1 (some .int) ({ frames := 0, cells := 0, slots := 0, locals := 0 }) D k [.int 0] [] (fun r u => u.1 = 0 ∧ r = 20) (fun u => []) := by
  refine zMi_of (own := RX12) (by decide +kernel) rfl (Nat.le_of_ble_eq_true rfl) ?_
  intro p e s m args below meth c A ls C0 hr hlk hin hP hD hS hA hK hN hl
  have hx := C0.1
  have hb := C0.2.1
  have hml := C0.2.2.1
  have hown := C0.2.2.2.1
  have hts := C0.2.2.2.2
  have hl : lv_has ls 1 [(0, .int 0)] := hl
  have hP : va_P D vwCl [] s.heap := hP
  refine lv_bipush (v := 20) hx hb dX12_childAt_0 (by decide) ?_
  refine lv_bipush (v := 17) hx hb dX12_childAt_2 (by decide) ?_
  refine lv_iload_n hx hb dX12_childAt_4 rfl (lv_at hl 0 rfl) ?_
  refine lv_imul hx hb dX12_childAt_5 ?_
  refine lv_toc (v := 0) (by decide) ?_
  refine lv_iadd hx hb dX12_childAt_6 ?_
  refine lv_toc (v := 20) (by decide) ?_
  exact z_iret C0 hr hlk rfl hK hP hD hS (0, fun _ => 0) ⟨rfl, rfl⟩ [] rfl rfl rfl dX12_childAt_7

set_option maxHeartbeats 4000000 in
set_option maxRecDepth 100000 in
theorem c_X12_addFour_1 (l : Launch) (D : va_G) (k : Nat → ClassId) (q_0 : Nat) (q_1 : Nat) (q_2 : Nat) (q_3 : Nat) (q_4 : Nat) (q_5 : Nat) (q_6 : Nat) (q_7 : Nat) (q_8 : Nat) (q_9 : Nat) (q_10 : Nat) (q_11 : Nat) (q_12 : Nat) (q_13 : Nat) (q_14 : Nat) (q_15 : Nat) (q_16 : Nat) (q_17 : Nat) (q_18 : Nat) (q_19 : Nat) (q_20 : Nat) (q_21 : Nat) (q_22 : Nat) (q_23 : Nat) (q_24 : Nat) (q_25 : Nat) (x_0 : Int32) (x_1 : Int32) (x_2 : Int32) (x_3 : Int32) (x_4 : Int32) (x_5 : Int32) (x_6 : Int32) (x_7 : Int32) (x_8 : Int32) (x_9 : Int32) (g_10 : Int64) (x_11 : Int32) (x_12 : Int32) (x_13 : Int32) (x_14 : Int32) (x_15 : Int32) (x_16 : Int32) (x_17 : Int32) (x_18 : Int32) (g_19 : Int64) (g_20 : Int64) (x_21 : Int32) (x_22 : Int32) (x_23 : Int32) (x_24 : Int32) (x_25 : Int32) (x_26 : Int32) (x_27 : Int32) (x_28 : Int32) (x_29 : Int32) (x_30 : Int32) (x_31 : Int32) (x_32 : Int32) (x_33 : Int32) (f_0 : Nat → Int32) : zMv l yX12_addFour cX12_addFour 6 none ({ frames := 0, cells := 0, slots := 0, locals := 0 }) D k [.ref q_0, .int 20, .int x_0, .int 0, .int x_1, .int x_2] [(q_0, .inr (12, [.int x_3, .int x_4, .ref q_1, .ref q_2, .ref q_3, .int x_5, .ref q_4, .ref q_5, .ref q_6, .ref q_7, .ref q_8, .int x_6, .int x_7, .int x_8, .int x_9, .long g_10, .int x_11, .int x_12, .int x_13, .ref q_9, .int x_14, .ref q_10, .ref q_11, .int x_15, .ref q_12, .ref q_13, .int x_16, .int x_17, .ref q_14, .ref q_15, .ref q_16, .ref q_17, .int x_18, .long g_19, .long g_20, .int x_21, .int x_22, .int x_23, .int x_24, .ref q_18, .ref q_19, .int x_25, .int x_26, .int x_27, .int x_28, .ref q_20, .ref q_21, .int x_29, .int x_30, .ref q_22, .ref q_23, .ref q_24, .ref q_25, .int x_31, .int x_32, .int x_33])), (q_1, .inl (k 0, 27101, .inl f_0))] (fun u => u.1 = 0) (fun u => [(q_0, .inr (12, [.int x_3, .int x_4, .ref q_1, .ref q_2, .ref q_3, .int x_5, .ref q_4, .ref q_5, .ref q_6, .ref q_7, .ref q_8, .int x_6, .int x_7, .int x_8, .int x_9, .long g_10, .int x_11, .int x_12, .int x_13, .ref q_9, .int x_14, .ref q_10, .ref q_11, .int x_15, .ref q_12, .ref q_13, .int x_16, .int x_17, .ref q_14, .ref q_15, .ref q_16, .ref q_17, .int x_18, .long g_19, .long g_20, .int x_21, .int x_22, .int x_23, .int x_24, .ref q_18, .ref q_19, .int x_25, .int x_26, .int x_27, .int x_28, .ref q_20, .ref q_21, .int x_29, .int x_30, .ref q_22, .ref q_23, .ref q_24, .ref q_25, .int x_31, .int x_32, .int x_33])), (q_1, .inl (k 0, 27101, .inl (upd (upd (upd (upd f_0 20 x_0) 21 0) 22 x_1) 23 x_2)))]) := by
  refine zMv_of (own := RX12) (by decide +kernel) rfl (Nat.le_of_ble_eq_true rfl) ?_
  intro p e s m args below meth c A ls C0 hr hlk hin hP hD hS hA hK hN hl
  have hx := C0.1
  have hb := C0.2.1
  have hml := C0.2.2.1
  have hown := C0.2.2.2.1
  have hts := C0.2.2.2.2
  have hl : lv_has ls 6 [(0, .ref q_0), (1, .int 20), (2, .int x_0), (3, .int 0), (4, .int x_1), (5, .int x_2)] := hl
  have hP : va_P D vwCl [(q_0, .inr (12, [.int x_3, .int x_4, .ref q_1, .ref q_2, .ref q_3, .int x_5, .ref q_4, .ref q_5, .ref q_6, .ref q_7, .ref q_8, .int x_6, .int x_7, .int x_8, .int x_9, .long g_10, .int x_11, .int x_12, .int x_13, .ref q_9, .int x_14, .ref q_10, .ref q_11, .int x_15, .ref q_12, .ref q_13, .int x_16, .int x_17, .ref q_14, .ref q_15, .ref q_16, .ref q_17, .int x_18, .long g_19, .long g_20, .int x_21, .int x_22, .int x_23, .int x_24, .ref q_18, .ref q_19, .int x_25, .int x_26, .int x_27, .int x_28, .ref q_20, .ref q_21, .int x_29, .int x_30, .ref q_22, .ref q_23, .ref q_24, .ref q_25, .int x_31, .int x_32, .int x_33])), (q_1, .inl (k 0, 27101, .inl f_0))] s.heap := hP
  refine lv_aload_n hx hb dX12_addFour_0 rfl (lv_at hl 0 rfl) ?_
  refine va_get (D := D) (ci := 12) (v := .ref q_1) (C := RX12) (T := TX12) (N := 56) hx hb hts inX12 hown hK hP 0 rfl rfl 2 (by decide) (hts _ kF_X12_7) (fun _ h9 => h9) rfl dX12_addFour_1 ?_
  refine lv_iload_n hx hb dX12_addFour_4 rfl (lv_at hl 1 rfl) ?_
  refine lv_iload_n hx hb dX12_addFour_5 rfl (lv_at hl 2 rfl) ?_
  refine va_iast hx hb hK hP hD hS 1 0 rfl rfl (by unfold vp_in; decide) dX12_addFour_6 (fun H locs hP hD hS => ?_)
  have hP : va_P D vwCl [(q_0, .inr (12, [.int x_3, .int x_4, .ref q_1, .ref q_2, .ref q_3, .int x_5, .ref q_4, .ref q_5, .ref q_6, .ref q_7, .ref q_8, .int x_6, .int x_7, .int x_8, .int x_9, .long g_10, .int x_11, .int x_12, .int x_13, .ref q_9, .int x_14, .ref q_10, .ref q_11, .int x_15, .ref q_12, .ref q_13, .int x_16, .int x_17, .ref q_14, .ref q_15, .ref q_16, .ref q_17, .int x_18, .long g_19, .long g_20, .int x_21, .int x_22, .int x_23, .int x_24, .ref q_18, .ref q_19, .int x_25, .int x_26, .int x_27, .int x_28, .ref q_20, .ref q_21, .int x_29, .int x_30, .ref q_22, .ref q_23, .ref q_24, .ref q_25, .int x_31, .int x_32, .int x_33])), (q_1, .inl (k 0, 27101, .inl (upd f_0 20 x_0)))] H := hP
  have hD : va_D A [(q_0, .inr (12, [.int x_3, .int x_4, .ref q_1, .ref q_2, .ref q_3, .int x_5, .ref q_4, .ref q_5, .ref q_6, .ref q_7, .ref q_8, .int x_6, .int x_7, .int x_8, .int x_9, .long g_10, .int x_11, .int x_12, .int x_13, .ref q_9, .int x_14, .ref q_10, .ref q_11, .int x_15, .ref q_12, .ref q_13, .int x_16, .int x_17, .ref q_14, .ref q_15, .ref q_16, .ref q_17, .int x_18, .long g_19, .long g_20, .int x_21, .int x_22, .int x_23, .int x_24, .ref q_18, .ref q_19, .int x_25, .int x_26, .int x_27, .int x_28, .ref q_20, .ref q_21, .int x_29, .int x_30, .ref q_22, .ref q_23, .ref q_24, .ref q_25, .int x_31, .int x_32, .int x_33])), (q_1, .inl (k 0, 27101, .inl (upd f_0 20 x_0)))] := hD
  refine lv_aload_n hx hb dX12_addFour_7 rfl (lv_at hl 0 rfl) ?_
  refine va_get (D := D) (ci := 12) (v := .ref q_1) (C := RX12) (T := TX12) (N := 56) hx hb hts inX12 hown hK hP 0 rfl rfl 2 (by decide) (hts _ kF_X12_7) (fun _ h9 => h9) rfl dX12_addFour_8 ?_
  refine lv_iload_n hx hb dX12_addFour_11 rfl (lv_at hl 1 rfl) ?_
  refine lv_iconst (v := 1) hx hb dX12_addFour_12 (by decide) ?_
  refine lv_iadd hx hb dX12_addFour_13 ?_
  refine lv_toc (v := 21) (by decide) ?_
  refine lv_iload_n hx hb dX12_addFour_14 rfl (lv_at hl 3 rfl) ?_
  refine va_iast hx hb hK hP hD hS 1 0 rfl rfl (by unfold vp_in; decide) dX12_addFour_15 (fun H locs hP hD hS => ?_)
  have hP : va_P D vwCl [(q_0, .inr (12, [.int x_3, .int x_4, .ref q_1, .ref q_2, .ref q_3, .int x_5, .ref q_4, .ref q_5, .ref q_6, .ref q_7, .ref q_8, .int x_6, .int x_7, .int x_8, .int x_9, .long g_10, .int x_11, .int x_12, .int x_13, .ref q_9, .int x_14, .ref q_10, .ref q_11, .int x_15, .ref q_12, .ref q_13, .int x_16, .int x_17, .ref q_14, .ref q_15, .ref q_16, .ref q_17, .int x_18, .long g_19, .long g_20, .int x_21, .int x_22, .int x_23, .int x_24, .ref q_18, .ref q_19, .int x_25, .int x_26, .int x_27, .int x_28, .ref q_20, .ref q_21, .int x_29, .int x_30, .ref q_22, .ref q_23, .ref q_24, .ref q_25, .int x_31, .int x_32, .int x_33])), (q_1, .inl (k 0, 27101, .inl (upd (upd f_0 20 x_0) 21 0)))] H := hP
  have hD : va_D A [(q_0, .inr (12, [.int x_3, .int x_4, .ref q_1, .ref q_2, .ref q_3, .int x_5, .ref q_4, .ref q_5, .ref q_6, .ref q_7, .ref q_8, .int x_6, .int x_7, .int x_8, .int x_9, .long g_10, .int x_11, .int x_12, .int x_13, .ref q_9, .int x_14, .ref q_10, .ref q_11, .int x_15, .ref q_12, .ref q_13, .int x_16, .int x_17, .ref q_14, .ref q_15, .ref q_16, .ref q_17, .int x_18, .long g_19, .long g_20, .int x_21, .int x_22, .int x_23, .int x_24, .ref q_18, .ref q_19, .int x_25, .int x_26, .int x_27, .int x_28, .ref q_20, .ref q_21, .int x_29, .int x_30, .ref q_22, .ref q_23, .ref q_24, .ref q_25, .int x_31, .int x_32, .int x_33])), (q_1, .inl (k 0, 27101, .inl (upd (upd f_0 20 x_0) 21 0)))] := hD
  refine lv_aload_n hx hb dX12_addFour_16 rfl (lv_at hl 0 rfl) ?_
  refine va_get (D := D) (ci := 12) (v := .ref q_1) (C := RX12) (T := TX12) (N := 56) hx hb hts inX12 hown hK hP 0 rfl rfl 2 (by decide) (hts _ kF_X12_7) (fun _ h9 => h9) rfl dX12_addFour_17 ?_
  refine lv_iload_n hx hb dX12_addFour_20 rfl (lv_at hl 1 rfl) ?_
  refine lv_iconst (v := 2) hx hb dX12_addFour_21 (by decide) ?_
  refine lv_iadd hx hb dX12_addFour_22 ?_
  refine lv_toc (v := 22) (by decide) ?_
  refine lv_iload hx hb dX12_addFour_23 (lv_at hl 4 rfl) ?_
  refine va_iast hx hb hK hP hD hS 1 0 rfl rfl (by unfold vp_in; decide) dX12_addFour_25 (fun H locs hP hD hS => ?_)
  have hP : va_P D vwCl [(q_0, .inr (12, [.int x_3, .int x_4, .ref q_1, .ref q_2, .ref q_3, .int x_5, .ref q_4, .ref q_5, .ref q_6, .ref q_7, .ref q_8, .int x_6, .int x_7, .int x_8, .int x_9, .long g_10, .int x_11, .int x_12, .int x_13, .ref q_9, .int x_14, .ref q_10, .ref q_11, .int x_15, .ref q_12, .ref q_13, .int x_16, .int x_17, .ref q_14, .ref q_15, .ref q_16, .ref q_17, .int x_18, .long g_19, .long g_20, .int x_21, .int x_22, .int x_23, .int x_24, .ref q_18, .ref q_19, .int x_25, .int x_26, .int x_27, .int x_28, .ref q_20, .ref q_21, .int x_29, .int x_30, .ref q_22, .ref q_23, .ref q_24, .ref q_25, .int x_31, .int x_32, .int x_33])), (q_1, .inl (k 0, 27101, .inl (upd (upd (upd f_0 20 x_0) 21 0) 22 x_1)))] H := hP
  have hD : va_D A [(q_0, .inr (12, [.int x_3, .int x_4, .ref q_1, .ref q_2, .ref q_3, .int x_5, .ref q_4, .ref q_5, .ref q_6, .ref q_7, .ref q_8, .int x_6, .int x_7, .int x_8, .int x_9, .long g_10, .int x_11, .int x_12, .int x_13, .ref q_9, .int x_14, .ref q_10, .ref q_11, .int x_15, .ref q_12, .ref q_13, .int x_16, .int x_17, .ref q_14, .ref q_15, .ref q_16, .ref q_17, .int x_18, .long g_19, .long g_20, .int x_21, .int x_22, .int x_23, .int x_24, .ref q_18, .ref q_19, .int x_25, .int x_26, .int x_27, .int x_28, .ref q_20, .ref q_21, .int x_29, .int x_30, .ref q_22, .ref q_23, .ref q_24, .ref q_25, .int x_31, .int x_32, .int x_33])), (q_1, .inl (k 0, 27101, .inl (upd (upd (upd f_0 20 x_0) 21 0) 22 x_1)))] := hD
  refine lv_aload_n hx hb dX12_addFour_26 rfl (lv_at hl 0 rfl) ?_
  refine va_get (D := D) (ci := 12) (v := .ref q_1) (C := RX12) (T := TX12) (N := 56) hx hb hts inX12 hown hK hP 0 rfl rfl 2 (by decide) (hts _ kF_X12_7) (fun _ h9 => h9) rfl dX12_addFour_27 ?_
  refine lv_iload_n hx hb dX12_addFour_30 rfl (lv_at hl 1 rfl) ?_
  refine lv_iconst (v := 3) hx hb dX12_addFour_31 (by decide) ?_
  refine lv_iadd hx hb dX12_addFour_32 ?_
  refine lv_toc (v := 23) (by decide) ?_
  refine lv_iload hx hb dX12_addFour_33 (lv_at hl 5 rfl) ?_
  refine va_iast hx hb hK hP hD hS 1 0 rfl rfl (by unfold vp_in; decide) dX12_addFour_35 (fun H locs hP hD hS => ?_)
  have hP : va_P D vwCl [(q_0, .inr (12, [.int x_3, .int x_4, .ref q_1, .ref q_2, .ref q_3, .int x_5, .ref q_4, .ref q_5, .ref q_6, .ref q_7, .ref q_8, .int x_6, .int x_7, .int x_8, .int x_9, .long g_10, .int x_11, .int x_12, .int x_13, .ref q_9, .int x_14, .ref q_10, .ref q_11, .int x_15, .ref q_12, .ref q_13, .int x_16, .int x_17, .ref q_14, .ref q_15, .ref q_16, .ref q_17, .int x_18, .long g_19, .long g_20, .int x_21, .int x_22, .int x_23, .int x_24, .ref q_18, .ref q_19, .int x_25, .int x_26, .int x_27, .int x_28, .ref q_20, .ref q_21, .int x_29, .int x_30, .ref q_22, .ref q_23, .ref q_24, .ref q_25, .int x_31, .int x_32, .int x_33])), (q_1, .inl (k 0, 27101, .inl (upd (upd (upd (upd f_0 20 x_0) 21 0) 22 x_1) 23 x_2)))] H := hP
  have hD : va_D A [(q_0, .inr (12, [.int x_3, .int x_4, .ref q_1, .ref q_2, .ref q_3, .int x_5, .ref q_4, .ref q_5, .ref q_6, .ref q_7, .ref q_8, .int x_6, .int x_7, .int x_8, .int x_9, .long g_10, .int x_11, .int x_12, .int x_13, .ref q_9, .int x_14, .ref q_10, .ref q_11, .int x_15, .ref q_12, .ref q_13, .int x_16, .int x_17, .ref q_14, .ref q_15, .ref q_16, .ref q_17, .int x_18, .long g_19, .long g_20, .int x_21, .int x_22, .int x_23, .int x_24, .ref q_18, .ref q_19, .int x_25, .int x_26, .int x_27, .int x_28, .ref q_20, .ref q_21, .int x_29, .int x_30, .ref q_22, .ref q_23, .ref q_24, .ref q_25, .int x_31, .int x_32, .int x_33])), (q_1, .inl (k 0, 27101, .inl (upd (upd (upd (upd f_0 20 x_0) 21 0) 22 x_1) 23 x_2)))] := hD
  exact z_vret C0 hr hlk hK hP hD hS (0, fun _ => 0) rfl [0, 1] rfl rfl rfl dX12_addFour_36

set_option maxHeartbeats 4000000 in
set_option maxRecDepth 100000 in
theorem c_X12_told_2 (l : Launch) (D : va_G) (k : Nat → ClassId) (q_0 : Nat) (q_1 : Nat) (q_2 : Nat) (q_3 : Nat) (q_4 : Nat) (q_5 : Nat) (q_6 : Nat) (q_7 : Nat) (q_8 : Nat) (q_9 : Nat) (q_10 : Nat) (q_11 : Nat) (q_12 : Nat) (q_13 : Nat) (q_14 : Nat) (q_15 : Nat) (q_16 : Nat) (q_17 : Nat) (q_18 : Nat) (q_19 : Nat) (q_20 : Nat) (q_21 : Nat) (q_22 : Nat) (q_23 : Nat) (q_24 : Nat) (q_25 : Nat) (x_0 : Int32) (x_1 : Int32) (x_2 : Int32) (x_3 : Int32) (x_4 : Int32) (x_5 : Int32) (x_6 : Int32) (g_7 : Int64) (x_8 : Int32) (x_9 : Int32) (x_10 : Int32) (x_11 : Int32) (x_12 : Int32) (x_13 : Int32) (x_14 : Int32) (x_15 : Int32) (g_16 : Int64) (g_17 : Int64) (x_18 : Int32) (x_19 : Int32) (x_20 : Int32) (x_21 : Int32) (x_22 : Int32) (x_23 : Int32) (x_24 : Int32) (x_25 : Int32) (x_26 : Int32) (x_27 : Int32) (x_28 : Int32) (x_29 : Int32) (x_30 : Int32) : zMi l yX12_told cX12_told 2 (some .int) ({ frames := 0, cells := 0, slots := 0, locals := 0 }) D k [.ref q_0, .int 0] [(q_0, .inr (12, [.int x_0, .int x_1, .ref q_1, .ref q_2, .ref q_3, .int x_2, .ref q_4, .ref q_5, .ref q_6, .ref q_7, .ref q_8, .int x_3, .int x_4, .int x_5, .int x_6, .long g_7, .int x_8, .int x_9, .int x_10, .ref q_9, .int x_11, .ref q_10, .ref q_11, .int x_12, .ref q_12, .ref q_13, .int x_13, .int x_14, .ref q_14, .ref q_15, .ref q_16, .ref q_17, .int x_15, .long g_16, .long g_17, .int x_18, .int x_19, .int x_20, .int x_21, .ref q_18, .ref q_19, .int x_22, .int x_23, .int x_24, .int x_25, .ref q_20, .ref q_21, .int x_26, .int x_27, .ref q_22, .ref q_23, .ref q_24, .ref q_25, .int x_28, .int x_29, .int x_30]))] (fun r u => u.1 = 0 ∧ r = 0) (fun u => [(q_0, .inr (12, [.int x_0, .int 0, .ref q_1, .ref q_2, .ref q_3, .int x_2, .ref q_4, .ref q_5, .ref q_6, .ref q_7, .ref q_8, .int x_3, .int x_4, .int x_5, .int x_6, .long g_7, .int x_8, .int x_9, .int x_10, .ref q_9, .int x_11, .ref q_10, .ref q_11, .int x_12, .ref q_12, .ref q_13, .int x_13, .int x_14, .ref q_14, .ref q_15, .ref q_16, .ref q_17, .int x_15, .long g_16, .long g_17, .int x_18, .int x_19, .int x_20, .int x_21, .ref q_18, .ref q_19, .int x_22, .int x_23, .int x_24, .int x_25, .ref q_20, .ref q_21, .int x_26, .int x_27, .ref q_22, .ref q_23, .ref q_24, .ref q_25, .int x_28, .int x_29, .int x_30]))]) := by
  refine zMi_of (own := RX12) (by decide +kernel) rfl (Nat.le_of_ble_eq_true rfl) ?_
  intro p e s m args below meth c A ls C0 hr hlk hin hP hD hS hA hK hN hl
  have hx := C0.1
  have hb := C0.2.1
  have hml := C0.2.2.1
  have hown := C0.2.2.2.1
  have hts := C0.2.2.2.2
  have hl : lv_has ls 2 [(0, .ref q_0), (1, .int 0)] := hl
  have hP : va_P D vwCl [(q_0, .inr (12, [.int x_0, .int x_1, .ref q_1, .ref q_2, .ref q_3, .int x_2, .ref q_4, .ref q_5, .ref q_6, .ref q_7, .ref q_8, .int x_3, .int x_4, .int x_5, .int x_6, .long g_7, .int x_8, .int x_9, .int x_10, .ref q_9, .int x_11, .ref q_10, .ref q_11, .int x_12, .ref q_12, .ref q_13, .int x_13, .int x_14, .ref q_14, .ref q_15, .ref q_16, .ref q_17, .int x_15, .long g_16, .long g_17, .int x_18, .int x_19, .int x_20, .int x_21, .ref q_18, .ref q_19, .int x_22, .int x_23, .int x_24, .int x_25, .ref q_20, .ref q_21, .int x_26, .int x_27, .ref q_22, .ref q_23, .ref q_24, .ref q_25, .int x_28, .int x_29, .int x_30]))] s.heap := hP
  refine lv_aload_n hx hb dX12_told_0 rfl (lv_at hl 0 rfl) ?_
  refine lv_iload_n hx hb dX12_told_1 rfl (lv_at hl 1 rfl) ?_
  refine lv_if_ge (tgt := 9) hx hb dX12_told_2 (by decide) (fun _ => ?_) (fun c1 => absurd (by decide) c1)
  refine lv_iconst (v := 0) hx hb dX12_told_9 (by decide) ?_
  refine va_put (D := D) (ci := 12) (v := .int 0) (ty := .int) (C := RX12) (T := TX12) (N := 56) hx hb hts inX12 tyX12 tyX12_ok nmX12 hown hK hP hD hS 0 rfl rfl 1 (by decide) (hts _ kF_X12_95) (fun _ h9 => h9) rfl (by decide +kernel) rfl rfl (Nat.le_of_ble_eq_true rfl) dX12_told_10 (fun H locs hP hD hS => ?_)
  have hP : va_P D vwCl [(q_0, .inr (12, [.int x_0, .int 0, .ref q_1, .ref q_2, .ref q_3, .int x_2, .ref q_4, .ref q_5, .ref q_6, .ref q_7, .ref q_8, .int x_3, .int x_4, .int x_5, .int x_6, .long g_7, .int x_8, .int x_9, .int x_10, .ref q_9, .int x_11, .ref q_10, .ref q_11, .int x_12, .ref q_12, .ref q_13, .int x_13, .int x_14, .ref q_14, .ref q_15, .ref q_16, .ref q_17, .int x_15, .long g_16, .long g_17, .int x_18, .int x_19, .int x_20, .int x_21, .ref q_18, .ref q_19, .int x_22, .int x_23, .int x_24, .int x_25, .ref q_20, .ref q_21, .int x_26, .int x_27, .ref q_22, .ref q_23, .ref q_24, .ref q_25, .int x_28, .int x_29, .int x_30]))] H := hP
  have hD : va_D A [(q_0, .inr (12, [.int x_0, .int 0, .ref q_1, .ref q_2, .ref q_3, .int x_2, .ref q_4, .ref q_5, .ref q_6, .ref q_7, .ref q_8, .int x_3, .int x_4, .int x_5, .int x_6, .long g_7, .int x_8, .int x_9, .int x_10, .ref q_9, .int x_11, .ref q_10, .ref q_11, .int x_12, .ref q_12, .ref q_13, .int x_13, .int x_14, .ref q_14, .ref q_15, .ref q_16, .ref q_17, .int x_15, .long g_16, .long g_17, .int x_18, .int x_19, .int x_20, .int x_21, .ref q_18, .ref q_19, .int x_22, .int x_23, .int x_24, .int x_25, .ref q_20, .ref q_21, .int x_26, .int x_27, .ref q_22, .ref q_23, .ref q_24, .ref q_25, .int x_28, .int x_29, .int x_30]))] := hD
  refine lv_iload_n hx hb dX12_told_13 rfl (lv_at hl 1 rfl) ?_
  exact z_iret C0 hr hlk rfl hK hP hD hS (0, fun _ => 0) ⟨rfl, rfl⟩ [0] rfl rfl rfl dX12_told_14

set_option maxHeartbeats 4000000 in
set_option maxRecDepth 100000 in
theorem c_X12_addFour_2 (l : Launch) (D : va_G) (k : Nat → ClassId) (q_0 : Nat) (q_1 : Nat) (q_2 : Nat) (q_3 : Nat) (q_4 : Nat) (q_5 : Nat) (q_6 : Nat) (q_7 : Nat) (q_8 : Nat) (q_9 : Nat) (q_10 : Nat) (q_11 : Nat) (q_12 : Nat) (q_13 : Nat) (q_14 : Nat) (q_15 : Nat) (q_16 : Nat) (q_17 : Nat) (q_18 : Nat) (q_19 : Nat) (q_20 : Nat) (q_21 : Nat) (q_22 : Nat) (q_23 : Nat) (q_24 : Nat) (q_25 : Nat) (x_0 : Int32) (x_1 : Int32) (x_2 : Int32) (x_3 : Int32) (x_4 : Int32) (x_5 : Int32) (x_6 : Int32) (x_7 : Int32) (x_8 : Int32) (x_9 : Int32) (g_10 : Int64) (x_11 : Int32) (x_12 : Int32) (x_13 : Int32) (x_14 : Int32) (x_15 : Int32) (x_16 : Int32) (x_17 : Int32) (x_18 : Int32) (g_19 : Int64) (g_20 : Int64) (x_21 : Int32) (x_22 : Int32) (x_23 : Int32) (x_24 : Int32) (x_25 : Int32) (x_26 : Int32) (x_27 : Int32) (x_28 : Int32) (x_29 : Int32) (x_30 : Int32) (x_31 : Int32) (x_32 : Int32) (x_33 : Int32) (f_0 : Nat → Int32) : zMv l yX12_addFour cX12_addFour 6 none ({ frames := 0, cells := 0, slots := 0, locals := 0 }) D k [.ref q_0, .int 20, .int x_0, .int 1, .int x_1, .int x_2] [(q_0, .inr (12, [.int x_3, .int x_4, .ref q_1, .ref q_2, .ref q_3, .int x_5, .ref q_4, .ref q_5, .ref q_6, .ref q_7, .ref q_8, .int x_6, .int x_7, .int x_8, .int x_9, .long g_10, .int x_11, .int x_12, .int x_13, .ref q_9, .int x_14, .ref q_10, .ref q_11, .int x_15, .ref q_12, .ref q_13, .int x_16, .int x_17, .ref q_14, .ref q_15, .ref q_16, .ref q_17, .int x_18, .long g_19, .long g_20, .int x_21, .int x_22, .int x_23, .int x_24, .ref q_18, .ref q_19, .int x_25, .int x_26, .int x_27, .int x_28, .ref q_20, .ref q_21, .int x_29, .int x_30, .ref q_22, .ref q_23, .ref q_24, .ref q_25, .int x_31, .int x_32, .int x_33])), (q_1, .inl (k 0, 27101, .inl f_0))] (fun u => u.1 = 0) (fun u => [(q_0, .inr (12, [.int x_3, .int x_4, .ref q_1, .ref q_2, .ref q_3, .int x_5, .ref q_4, .ref q_5, .ref q_6, .ref q_7, .ref q_8, .int x_6, .int x_7, .int x_8, .int x_9, .long g_10, .int x_11, .int x_12, .int x_13, .ref q_9, .int x_14, .ref q_10, .ref q_11, .int x_15, .ref q_12, .ref q_13, .int x_16, .int x_17, .ref q_14, .ref q_15, .ref q_16, .ref q_17, .int x_18, .long g_19, .long g_20, .int x_21, .int x_22, .int x_23, .int x_24, .ref q_18, .ref q_19, .int x_25, .int x_26, .int x_27, .int x_28, .ref q_20, .ref q_21, .int x_29, .int x_30, .ref q_22, .ref q_23, .ref q_24, .ref q_25, .int x_31, .int x_32, .int x_33])), (q_1, .inl (k 0, 27101, .inl (upd (upd (upd (upd f_0 20 x_0) 21 1) 22 x_1) 23 x_2)))]) := by
  refine zMv_of (own := RX12) (by decide +kernel) rfl (Nat.le_of_ble_eq_true rfl) ?_
  intro p e s m args below meth c A ls C0 hr hlk hin hP hD hS hA hK hN hl
  have hx := C0.1
  have hb := C0.2.1
  have hml := C0.2.2.1
  have hown := C0.2.2.2.1
  have hts := C0.2.2.2.2
  have hl : lv_has ls 6 [(0, .ref q_0), (1, .int 20), (2, .int x_0), (3, .int 1), (4, .int x_1), (5, .int x_2)] := hl
  have hP : va_P D vwCl [(q_0, .inr (12, [.int x_3, .int x_4, .ref q_1, .ref q_2, .ref q_3, .int x_5, .ref q_4, .ref q_5, .ref q_6, .ref q_7, .ref q_8, .int x_6, .int x_7, .int x_8, .int x_9, .long g_10, .int x_11, .int x_12, .int x_13, .ref q_9, .int x_14, .ref q_10, .ref q_11, .int x_15, .ref q_12, .ref q_13, .int x_16, .int x_17, .ref q_14, .ref q_15, .ref q_16, .ref q_17, .int x_18, .long g_19, .long g_20, .int x_21, .int x_22, .int x_23, .int x_24, .ref q_18, .ref q_19, .int x_25, .int x_26, .int x_27, .int x_28, .ref q_20, .ref q_21, .int x_29, .int x_30, .ref q_22, .ref q_23, .ref q_24, .ref q_25, .int x_31, .int x_32, .int x_33])), (q_1, .inl (k 0, 27101, .inl f_0))] s.heap := hP
  refine lv_aload_n hx hb dX12_addFour_0 rfl (lv_at hl 0 rfl) ?_
  refine va_get (D := D) (ci := 12) (v := .ref q_1) (C := RX12) (T := TX12) (N := 56) hx hb hts inX12 hown hK hP 0 rfl rfl 2 (by decide) (hts _ kF_X12_7) (fun _ h9 => h9) rfl dX12_addFour_1 ?_
  refine lv_iload_n hx hb dX12_addFour_4 rfl (lv_at hl 1 rfl) ?_
  refine lv_iload_n hx hb dX12_addFour_5 rfl (lv_at hl 2 rfl) ?_
  refine va_iast hx hb hK hP hD hS 1 0 rfl rfl (by unfold vp_in; decide) dX12_addFour_6 (fun H locs hP hD hS => ?_)
  have hP : va_P D vwCl [(q_0, .inr (12, [.int x_3, .int x_4, .ref q_1, .ref q_2, .ref q_3, .int x_5, .ref q_4, .ref q_5, .ref q_6, .ref q_7, .ref q_8, .int x_6, .int x_7, .int x_8, .int x_9, .long g_10, .int x_11, .int x_12, .int x_13, .ref q_9, .int x_14, .ref q_10, .ref q_11, .int x_15, .ref q_12, .ref q_13, .int x_16, .int x_17, .ref q_14, .ref q_15, .ref q_16, .ref q_17, .int x_18, .long g_19, .long g_20, .int x_21, .int x_22, .int x_23, .int x_24, .ref q_18, .ref q_19, .int x_25, .int x_26, .int x_27, .int x_28, .ref q_20, .ref q_21, .int x_29, .int x_30, .ref q_22, .ref q_23, .ref q_24, .ref q_25, .int x_31, .int x_32, .int x_33])), (q_1, .inl (k 0, 27101, .inl (upd f_0 20 x_0)))] H := hP
  have hD : va_D A [(q_0, .inr (12, [.int x_3, .int x_4, .ref q_1, .ref q_2, .ref q_3, .int x_5, .ref q_4, .ref q_5, .ref q_6, .ref q_7, .ref q_8, .int x_6, .int x_7, .int x_8, .int x_9, .long g_10, .int x_11, .int x_12, .int x_13, .ref q_9, .int x_14, .ref q_10, .ref q_11, .int x_15, .ref q_12, .ref q_13, .int x_16, .int x_17, .ref q_14, .ref q_15, .ref q_16, .ref q_17, .int x_18, .long g_19, .long g_20, .int x_21, .int x_22, .int x_23, .int x_24, .ref q_18, .ref q_19, .int x_25, .int x_26, .int x_27, .int x_28, .ref q_20, .ref q_21, .int x_29, .int x_30, .ref q_22, .ref q_23, .ref q_24, .ref q_25, .int x_31, .int x_32, .int x_33])), (q_1, .inl (k 0, 27101, .inl (upd f_0 20 x_0)))] := hD
  refine lv_aload_n hx hb dX12_addFour_7 rfl (lv_at hl 0 rfl) ?_
  refine va_get (D := D) (ci := 12) (v := .ref q_1) (C := RX12) (T := TX12) (N := 56) hx hb hts inX12 hown hK hP 0 rfl rfl 2 (by decide) (hts _ kF_X12_7) (fun _ h9 => h9) rfl dX12_addFour_8 ?_
  refine lv_iload_n hx hb dX12_addFour_11 rfl (lv_at hl 1 rfl) ?_
  refine lv_iconst (v := 1) hx hb dX12_addFour_12 (by decide) ?_
  refine lv_iadd hx hb dX12_addFour_13 ?_
  refine lv_toc (v := 21) (by decide) ?_
  refine lv_iload_n hx hb dX12_addFour_14 rfl (lv_at hl 3 rfl) ?_
  refine va_iast hx hb hK hP hD hS 1 0 rfl rfl (by unfold vp_in; decide) dX12_addFour_15 (fun H locs hP hD hS => ?_)
  have hP : va_P D vwCl [(q_0, .inr (12, [.int x_3, .int x_4, .ref q_1, .ref q_2, .ref q_3, .int x_5, .ref q_4, .ref q_5, .ref q_6, .ref q_7, .ref q_8, .int x_6, .int x_7, .int x_8, .int x_9, .long g_10, .int x_11, .int x_12, .int x_13, .ref q_9, .int x_14, .ref q_10, .ref q_11, .int x_15, .ref q_12, .ref q_13, .int x_16, .int x_17, .ref q_14, .ref q_15, .ref q_16, .ref q_17, .int x_18, .long g_19, .long g_20, .int x_21, .int x_22, .int x_23, .int x_24, .ref q_18, .ref q_19, .int x_25, .int x_26, .int x_27, .int x_28, .ref q_20, .ref q_21, .int x_29, .int x_30, .ref q_22, .ref q_23, .ref q_24, .ref q_25, .int x_31, .int x_32, .int x_33])), (q_1, .inl (k 0, 27101, .inl (upd (upd f_0 20 x_0) 21 1)))] H := hP
  have hD : va_D A [(q_0, .inr (12, [.int x_3, .int x_4, .ref q_1, .ref q_2, .ref q_3, .int x_5, .ref q_4, .ref q_5, .ref q_6, .ref q_7, .ref q_8, .int x_6, .int x_7, .int x_8, .int x_9, .long g_10, .int x_11, .int x_12, .int x_13, .ref q_9, .int x_14, .ref q_10, .ref q_11, .int x_15, .ref q_12, .ref q_13, .int x_16, .int x_17, .ref q_14, .ref q_15, .ref q_16, .ref q_17, .int x_18, .long g_19, .long g_20, .int x_21, .int x_22, .int x_23, .int x_24, .ref q_18, .ref q_19, .int x_25, .int x_26, .int x_27, .int x_28, .ref q_20, .ref q_21, .int x_29, .int x_30, .ref q_22, .ref q_23, .ref q_24, .ref q_25, .int x_31, .int x_32, .int x_33])), (q_1, .inl (k 0, 27101, .inl (upd (upd f_0 20 x_0) 21 1)))] := hD
  refine lv_aload_n hx hb dX12_addFour_16 rfl (lv_at hl 0 rfl) ?_
  refine va_get (D := D) (ci := 12) (v := .ref q_1) (C := RX12) (T := TX12) (N := 56) hx hb hts inX12 hown hK hP 0 rfl rfl 2 (by decide) (hts _ kF_X12_7) (fun _ h9 => h9) rfl dX12_addFour_17 ?_
  refine lv_iload_n hx hb dX12_addFour_20 rfl (lv_at hl 1 rfl) ?_
  refine lv_iconst (v := 2) hx hb dX12_addFour_21 (by decide) ?_
  refine lv_iadd hx hb dX12_addFour_22 ?_
  refine lv_toc (v := 22) (by decide) ?_
  refine lv_iload hx hb dX12_addFour_23 (lv_at hl 4 rfl) ?_
  refine va_iast hx hb hK hP hD hS 1 0 rfl rfl (by unfold vp_in; decide) dX12_addFour_25 (fun H locs hP hD hS => ?_)
  have hP : va_P D vwCl [(q_0, .inr (12, [.int x_3, .int x_4, .ref q_1, .ref q_2, .ref q_3, .int x_5, .ref q_4, .ref q_5, .ref q_6, .ref q_7, .ref q_8, .int x_6, .int x_7, .int x_8, .int x_9, .long g_10, .int x_11, .int x_12, .int x_13, .ref q_9, .int x_14, .ref q_10, .ref q_11, .int x_15, .ref q_12, .ref q_13, .int x_16, .int x_17, .ref q_14, .ref q_15, .ref q_16, .ref q_17, .int x_18, .long g_19, .long g_20, .int x_21, .int x_22, .int x_23, .int x_24, .ref q_18, .ref q_19, .int x_25, .int x_26, .int x_27, .int x_28, .ref q_20, .ref q_21, .int x_29, .int x_30, .ref q_22, .ref q_23, .ref q_24, .ref q_25, .int x_31, .int x_32, .int x_33])), (q_1, .inl (k 0, 27101, .inl (upd (upd (upd f_0 20 x_0) 21 1) 22 x_1)))] H := hP
  have hD : va_D A [(q_0, .inr (12, [.int x_3, .int x_4, .ref q_1, .ref q_2, .ref q_3, .int x_5, .ref q_4, .ref q_5, .ref q_6, .ref q_7, .ref q_8, .int x_6, .int x_7, .int x_8, .int x_9, .long g_10, .int x_11, .int x_12, .int x_13, .ref q_9, .int x_14, .ref q_10, .ref q_11, .int x_15, .ref q_12, .ref q_13, .int x_16, .int x_17, .ref q_14, .ref q_15, .ref q_16, .ref q_17, .int x_18, .long g_19, .long g_20, .int x_21, .int x_22, .int x_23, .int x_24, .ref q_18, .ref q_19, .int x_25, .int x_26, .int x_27, .int x_28, .ref q_20, .ref q_21, .int x_29, .int x_30, .ref q_22, .ref q_23, .ref q_24, .ref q_25, .int x_31, .int x_32, .int x_33])), (q_1, .inl (k 0, 27101, .inl (upd (upd (upd f_0 20 x_0) 21 1) 22 x_1)))] := hD
  refine lv_aload_n hx hb dX12_addFour_26 rfl (lv_at hl 0 rfl) ?_
  refine va_get (D := D) (ci := 12) (v := .ref q_1) (C := RX12) (T := TX12) (N := 56) hx hb hts inX12 hown hK hP 0 rfl rfl 2 (by decide) (hts _ kF_X12_7) (fun _ h9 => h9) rfl dX12_addFour_27 ?_
  refine lv_iload_n hx hb dX12_addFour_30 rfl (lv_at hl 1 rfl) ?_
  refine lv_iconst (v := 3) hx hb dX12_addFour_31 (by decide) ?_
  refine lv_iadd hx hb dX12_addFour_32 ?_
  refine lv_toc (v := 23) (by decide) ?_
  refine lv_iload hx hb dX12_addFour_33 (lv_at hl 5 rfl) ?_
  refine va_iast hx hb hK hP hD hS 1 0 rfl rfl (by unfold vp_in; decide) dX12_addFour_35 (fun H locs hP hD hS => ?_)
  have hP : va_P D vwCl [(q_0, .inr (12, [.int x_3, .int x_4, .ref q_1, .ref q_2, .ref q_3, .int x_5, .ref q_4, .ref q_5, .ref q_6, .ref q_7, .ref q_8, .int x_6, .int x_7, .int x_8, .int x_9, .long g_10, .int x_11, .int x_12, .int x_13, .ref q_9, .int x_14, .ref q_10, .ref q_11, .int x_15, .ref q_12, .ref q_13, .int x_16, .int x_17, .ref q_14, .ref q_15, .ref q_16, .ref q_17, .int x_18, .long g_19, .long g_20, .int x_21, .int x_22, .int x_23, .int x_24, .ref q_18, .ref q_19, .int x_25, .int x_26, .int x_27, .int x_28, .ref q_20, .ref q_21, .int x_29, .int x_30, .ref q_22, .ref q_23, .ref q_24, .ref q_25, .int x_31, .int x_32, .int x_33])), (q_1, .inl (k 0, 27101, .inl (upd (upd (upd (upd f_0 20 x_0) 21 1) 22 x_1) 23 x_2)))] H := hP
  have hD : va_D A [(q_0, .inr (12, [.int x_3, .int x_4, .ref q_1, .ref q_2, .ref q_3, .int x_5, .ref q_4, .ref q_5, .ref q_6, .ref q_7, .ref q_8, .int x_6, .int x_7, .int x_8, .int x_9, .long g_10, .int x_11, .int x_12, .int x_13, .ref q_9, .int x_14, .ref q_10, .ref q_11, .int x_15, .ref q_12, .ref q_13, .int x_16, .int x_17, .ref q_14, .ref q_15, .ref q_16, .ref q_17, .int x_18, .long g_19, .long g_20, .int x_21, .int x_22, .int x_23, .int x_24, .ref q_18, .ref q_19, .int x_25, .int x_26, .int x_27, .int x_28, .ref q_20, .ref q_21, .int x_29, .int x_30, .ref q_22, .ref q_23, .ref q_24, .ref q_25, .int x_31, .int x_32, .int x_33])), (q_1, .inl (k 0, 27101, .inl (upd (upd (upd (upd f_0 20 x_0) 21 1) 22 x_1) 23 x_2)))] := hD
  exact z_vret C0 hr hlk hK hP hD hS (0, fun _ => 0) rfl [0, 1] rfl rfl rfl dX12_addFour_36

set_option maxHeartbeats 4000000 in
set_option maxRecDepth 100000 in
theorem c_X12_child_1 (l : Launch) (D : va_G) (k : Nat → ClassId) (q_0 : Nat) (q_1 : Nat) (q_2 : Nat) (q_3 : Nat) (q_4 : Nat) (q_5 : Nat) (q_6 : Nat) (q_7 : Nat) (q_8 : Nat) (q_9 : Nat) (q_10 : Nat) (q_11 : Nat) (q_12 : Nat) (q_13 : Nat) (q_14 : Nat) (q_15 : Nat) (q_16 : Nat) (q_17 : Nat) (q_18 : Nat) (q_19 : Nat) (q_20 : Nat) (q_21 : Nat) (q_22 : Nat) (q_23 : Nat) (q_24 : Nat) (q_25 : Nat) (x_0 : Int32) (x_1 : Int32) (x_2 : Int32) (x_3 : Int32) (x_4 : Int32) (x_5 : Int32) (x_6 : Int32) (x_7 : Int32) (x_8 : Int32) (x_9 : Int32) (x_10 : Int32) (x_11 : Int32) (g_12 : Int64) (x_13 : Int32) (x_14 : Int32) (x_15 : Int32) (x_16 : Int32) (x_17 : Int32) (x_18 : Int32) (x_19 : Int32) (x_20 : Int32) (g_21 : Int64) (g_22 : Int64) (x_23 : Int32) (x_24 : Int32) (x_25 : Int32) (x_26 : Int32) (x_27 : Int32) (x_28 : Int32) (x_29 : Int32) (x_30 : Int32) (x_31 : Int32) (x_32 : Int32) (x_33 : Int32) (x_34 : Int32) (x_35 : Int32) : zMi l yX12_child cX12_child 8 (some .int) ({ frames := 1, cells := 0, slots := 0, locals := 25 }) D k [.ref q_0, .int x_0, .int x_1, .int x_2, .int x_3, .int x_4] [(q_0, .inr (12, [.int x_5, .int x_6, .ref q_1, .ref q_2, .ref q_3, .int x_7, .ref q_4, .ref q_5, .ref q_6, .ref q_7, .ref q_8, .int x_8, .int x_9, .int x_10, .int x_11, .long g_12, .int x_13, .int x_14, .int x_15, .ref q_9, .int x_16, .ref q_10, .ref q_11, .int x_17, .ref q_12, .ref q_13, .int x_18, .int x_19, .ref q_14, .ref q_15, .ref q_16, .ref q_17, .int x_20, .long g_21, .long g_22, .int x_23, .int x_24, .int x_25, .int x_26, .ref q_18, .ref q_19, .int x_27, .int x_28, .int x_29, .int x_30, .ref q_20, .ref q_21, .int x_31, .int x_32, .ref q_22, .ref q_23, .ref q_24, .ref q_25, .int x_33, .int x_34, .int x_35])), (q_1, .inl (k 0, 27101, .inl (fun _ => 0)))] (fun r u => (u.1 = 0 ∧ r = (-1) ∧ (((((Int32.toInt64 x_0) < 3) ∨ (¬ (Int32.toInt64 x_0) < 3 ∧ (18 : Int64) < (Int32.toInt64 x_0)))) ∨ (((¬ (Int32.toInt64 x_0) < 3 ∧ ¬ (18 : Int64) < (Int32.toInt64 x_0))) ∧ (((Int32.toInt64 x_2) < (-1)) ∨ (¬ (Int32.toInt64 x_2) < (-1) ∧ (7 : Int64) < (Int32.toInt64 x_2)))) ∨ (((¬ (Int32.toInt64 x_0) < 3 ∧ ¬ (18 : Int64) < (Int32.toInt64 x_0))) ∧ ((¬ (Int32.toInt64 x_2) < (-1) ∧ ¬ (7 : Int64) < (Int32.toInt64 x_2))) ∧ (((Int32.toInt64 x_3) < 0) ∨ (¬ (Int32.toInt64 x_3) < 0 ∧ (99 : Int64) < (Int32.toInt64 x_3)))) ∨ (((¬ (Int32.toInt64 x_0) < 3 ∧ ¬ (18 : Int64) < (Int32.toInt64 x_0))) ∧ ((¬ (Int32.toInt64 x_2) < (-1) ∧ ¬ (7 : Int64) < (Int32.toInt64 x_2))) ∧ ((¬ (Int32.toInt64 x_3) < 0 ∧ ¬ (99 : Int64) < (Int32.toInt64 x_3))) ∧ (((Int32.toInt64 x_4) < 0) ∨ (¬ (Int32.toInt64 x_4) < 0 ∧ (99 : Int64) < (Int32.toInt64 x_4)))))) ∨ (u.1 = 1 ∧ r = 0 ∧ ((((¬ (Int32.toInt64 x_0) < 3 ∧ ¬ (18 : Int64) < (Int32.toInt64 x_0))) ∧ ((¬ (Int32.toInt64 x_2) < (-1) ∧ ¬ (7 : Int64) < (Int32.toInt64 x_2))) ∧ ((¬ (Int32.toInt64 x_3) < 0 ∧ ¬ (99 : Int64) < (Int32.toInt64 x_3))) ∧ ((¬ (Int32.toInt64 x_4) < 0 ∧ ¬ (99 : Int64) < (Int32.toInt64 x_4))) ∧ x_1 = 0) ∨ (((¬ (Int32.toInt64 x_0) < 3 ∧ ¬ (18 : Int64) < (Int32.toInt64 x_0))) ∧ ((¬ (Int32.toInt64 x_2) < (-1) ∧ ¬ (7 : Int64) < (Int32.toInt64 x_2))) ∧ ((¬ (Int32.toInt64 x_3) < 0 ∧ ¬ (99 : Int64) < (Int32.toInt64 x_3))) ∧ ((¬ (Int32.toInt64 x_4) < 0 ∧ ¬ (99 : Int64) < (Int32.toInt64 x_4))) ∧ ¬ x_1 = 0)))) (fun u => []) := by
  refine zMi_of (own := RX12) (by decide +kernel) rfl (Nat.le_of_ble_eq_true rfl) ?_
  intro p e s m args below meth c A ls C0 hr hlk hin hP hD hS hA hK hN hl
  have hx := C0.1
  have hb := C0.2.1
  have hml := C0.2.2.1
  have hown := C0.2.2.2.1
  have hts := C0.2.2.2.2
  have hl : lv_has ls 8 [(0, .ref q_0), (1, .int x_0), (2, .int x_1), (3, .int x_2), (4, .int x_3), (5, .int x_4)] := hl
  have hP : va_P D vwCl [(q_0, .inr (12, [.int x_5, .int x_6, .ref q_1, .ref q_2, .ref q_3, .int x_7, .ref q_4, .ref q_5, .ref q_6, .ref q_7, .ref q_8, .int x_8, .int x_9, .int x_10, .int x_11, .long g_12, .int x_13, .int x_14, .int x_15, .ref q_9, .int x_16, .ref q_10, .ref q_11, .int x_17, .ref q_12, .ref q_13, .int x_18, .int x_19, .ref q_14, .ref q_15, .ref q_16, .ref q_17, .int x_20, .long g_21, .long g_22, .int x_23, .int x_24, .int x_25, .int x_26, .ref q_18, .ref q_19, .int x_27, .int x_28, .int x_29, .int x_30, .ref q_20, .ref q_21, .int x_31, .int x_32, .ref q_22, .ref q_23, .ref q_24, .ref q_25, .int x_33, .int x_34, .int x_35])), (q_1, .inl (k 0, 27101, .inl (fun _ => 0)))] s.heap := hP
  refine lv_aload_n hx hb dX12_child_0 rfl (lv_at hl 0 rfl) ?_
  refine lv_iconst (v := 0) hx hb dX12_child_1 (by decide) ?_
  refine va_put (D := D) (ci := 12) (v := .int 0) (ty := .int) (C := RX12) (T := TX12) (N := 56) hx hb hts inX12 tyX12 tyX12_ok nmX12 hown hK hP hD hS 0 rfl rfl 0 (by decide) (hts _ kF_X12_92) (fun _ h9 => h9) rfl (by decide +kernel) rfl rfl (Nat.le_of_ble_eq_true rfl) dX12_child_2 (fun H locs hP hD hS => ?_)
  have hP : va_P D vwCl [(q_0, .inr (12, [.int 0, .int x_6, .ref q_1, .ref q_2, .ref q_3, .int x_7, .ref q_4, .ref q_5, .ref q_6, .ref q_7, .ref q_8, .int x_8, .int x_9, .int x_10, .int x_11, .long g_12, .int x_13, .int x_14, .int x_15, .ref q_9, .int x_16, .ref q_10, .ref q_11, .int x_17, .ref q_12, .ref q_13, .int x_18, .int x_19, .ref q_14, .ref q_15, .ref q_16, .ref q_17, .int x_20, .long g_21, .long g_22, .int x_23, .int x_24, .int x_25, .int x_26, .ref q_18, .ref q_19, .int x_27, .int x_28, .int x_29, .int x_30, .ref q_20, .ref q_21, .int x_31, .int x_32, .ref q_22, .ref q_23, .ref q_24, .ref q_25, .int x_33, .int x_34, .int x_35])), (q_1, .inl (k 0, 27101, .inl (fun _ => 0)))] H := hP
  have hD : va_D A [(q_0, .inr (12, [.int 0, .int x_6, .ref q_1, .ref q_2, .ref q_3, .int x_7, .ref q_4, .ref q_5, .ref q_6, .ref q_7, .ref q_8, .int x_8, .int x_9, .int x_10, .int x_11, .long g_12, .int x_13, .int x_14, .int x_15, .ref q_9, .int x_16, .ref q_10, .ref q_11, .int x_17, .ref q_12, .ref q_13, .int x_18, .int x_19, .ref q_14, .ref q_15, .ref q_16, .ref q_17, .int x_20, .long g_21, .long g_22, .int x_23, .int x_24, .int x_25, .int x_26, .ref q_18, .ref q_19, .int x_27, .int x_28, .int x_29, .int x_30, .ref q_20, .ref q_21, .int x_31, .int x_32, .ref q_22, .ref q_23, .ref q_24, .ref q_25, .int x_33, .int x_34, .int x_35])), (q_1, .inl (k 0, 27101, .inl (fun _ => 0)))] := hD
  refine lv_iload_n hx hb dX12_child_5 rfl (lv_at hl 1 rfl) ?_
  refine lv_i2l (v := (Int32.toInt64 x_0)) hx hb dX12_child_6 rfl ?_
  refine lv_ldc2 hx hb hown (hts _ kL_X12_110) dX12_child_7 ?_
  refine lv_ldc2 hx hb hown (hts _ kL_X12_112) dX12_child_10 ?_
  refine z_bi0 (z_runS (As := [.long (Int32.toInt64 x_0), .long 3, .long 18]) (rest := []) C0 (c_X12_in_1 l D k (Int32.toInt64 x_0) 3 18 _) okS_X12_in kM_X12_100 rfl (z_p0 hK hN) rfl hl.1 rfl (Nat.le_of_ble_eq_true rfl) dX12_child_13 rfl) hP hS hA (fun r1 u1 H locs hw1 hP hS => ?_)
  obtain ⟨i1, a1⟩ := u1
  dsimp only at hw1
  rcases hw1 with ⟨rfl, rfl, c1⟩ | ⟨rfl, rfl, c1⟩
  · refine lv_if_eq (tgt := 59) hx hb dX12_child_16 (by decide) (fun _ => ?_) (fun c2 => absurd (by decide) c2)
    refine lv_aload_n hx hb dX12_child_59 rfl (lv_at hl 0 rfl) ?_
    refine lv_iconst (v := (-1)) hx hb dX12_child_60 (by decide) ?_
    refine z_bi (wr := [(q_1, .inl (k 0, 27101, .inl (fun _ => 0)))]) (z_runV (C := RX12) (As := [.int (-1)]) (rest := []) C0 (c_X12_told_1 l D k q_0 q_1 q_2 q_3 q_4 q_5 q_6 q_7 q_8 q_9 q_10 q_11 q_12 q_13 q_14 q_15 q_16 q_17 q_18 q_19 q_20 q_21 q_22 q_23 q_24 q_25 0 x_6 x_7 x_8 x_9 x_10 x_11 g_12 x_13 x_14 x_15 x_16 x_17 x_18 x_19 x_20 g_21 g_22 x_23 x_24 x_25 x_26 x_27 x_28 x_29 x_30 x_31 x_32 x_33 x_34 x_35 _) okV_X12_told kM_X12_106 rfl (z_pV (q0 := 0) hK hN hP hD [0] rfl rfl rfl rfl rfl) rfl hl.1 rfl (Nat.le_of_ble_eq_true rfl) dX12_child_61 rfl) hP hD hS hA [0] [1] rfl rfl rfl rfl (fun r3 u3 H locs hw3 hP hD hS => ?_)
    obtain ⟨i3, a3⟩ := u3
    dsimp only at hw3
    obtain ⟨rfl, rfl⟩ := hw3
    have hP : va_P D vwCl [(q_1, .inl (k 0, 27101, .inl (fun _ => 0))), (q_0, .inr (12, [.int 0, .int (-1), .ref q_1, .ref q_2, .ref q_3, .int x_7, .ref q_4, .ref q_5, .ref q_6, .ref q_7, .ref q_8, .int x_8, .int x_9, .int x_10, .int x_11, .long g_12, .int x_13, .int x_14, .int x_15, .ref q_9, .int x_16, .ref q_10, .ref q_11, .int x_17, .ref q_12, .ref q_13, .int x_18, .int x_19, .ref q_14, .ref q_15, .ref q_16, .ref q_17, .int x_20, .long g_21, .long g_22, .int x_23, .int x_24, .int x_25, .int x_26, .ref q_18, .ref q_19, .int x_27, .int x_28, .int x_29, .int x_30, .ref q_20, .ref q_21, .int x_31, .int x_32, .ref q_22, .ref q_23, .ref q_24, .ref q_25, .int x_33, .int x_34, .int x_35]))] H := hP
    have hD : va_D A [(q_1, .inl (k 0, 27101, .inl (fun _ => 0))), (q_0, .inr (12, [.int 0, .int (-1), .ref q_1, .ref q_2, .ref q_3, .int x_7, .ref q_4, .ref q_5, .ref q_6, .ref q_7, .ref q_8, .int x_8, .int x_9, .int x_10, .int x_11, .long g_12, .int x_13, .int x_14, .int x_15, .ref q_9, .int x_16, .ref q_10, .ref q_11, .int x_17, .ref q_12, .ref q_13, .int x_18, .int x_19, .ref q_14, .ref q_15, .ref q_16, .ref q_17, .int x_20, .long g_21, .long g_22, .int x_23, .int x_24, .int x_25, .int x_26, .ref q_18, .ref q_19, .int x_27, .int x_28, .int x_29, .int x_30, .ref q_20, .ref q_21, .int x_31, .int x_32, .ref q_22, .ref q_23, .ref q_24, .ref q_25, .int x_33, .int x_34, .int x_35]))] := hD
    exact z_iret C0 hr hlk rfl hK hP hD hS (0, fun _ => 0) (Or.inl ⟨rfl, rfl, (Or.inl c1)⟩) [] rfl rfl rfl dX12_child_64
  · refine lv_if_eq (tgt := 59) hx hb dX12_child_16 (by decide) (fun c4 => absurd c4 (by decide)) (fun _ => ?_)
    refine lv_iload_n hx hb dX12_child_19 rfl (lv_at hl 3 rfl) ?_
    refine lv_i2l (v := (Int32.toInt64 x_2)) hx hb dX12_child_20 rfl ?_
    refine lv_ldc2 hx hb hown (hts _ kL_X12_114) dX12_child_21 ?_
    refine lv_ldc2 hx hb hown (hts _ kL_X12_116) dX12_child_24 ?_
    refine z_bi0 (z_runS (As := [.long (Int32.toInt64 x_2), .long (-1), .long 7]) (rest := []) C0 (c_X12_in_1 l D k (Int32.toInt64 x_2) (-1) 7 _) okS_X12_in kM_X12_100 rfl (z_p0 hK hN) rfl hl.1 rfl (Nat.le_of_ble_eq_true rfl) dX12_child_27 rfl) hP hS hA (fun r5 u5 H locs hw5 hP hS => ?_)
    obtain ⟨i5, a5⟩ := u5
    dsimp only at hw5
    rcases hw5 with ⟨rfl, rfl, c5⟩ | ⟨rfl, rfl, c5⟩
    · refine lv_if_eq (tgt := 59) hx hb dX12_child_30 (by decide) (fun _ => ?_) (fun c6 => absurd (by decide) c6)
      refine lv_aload_n hx hb dX12_child_59 rfl (lv_at hl 0 rfl) ?_
      refine lv_iconst (v := (-1)) hx hb dX12_child_60 (by decide) ?_
      refine z_bi (wr := [(q_1, .inl (k 0, 27101, .inl (fun _ => 0)))]) (z_runV (C := RX12) (As := [.int (-1)]) (rest := []) C0 (c_X12_told_1 l D k q_0 q_1 q_2 q_3 q_4 q_5 q_6 q_7 q_8 q_9 q_10 q_11 q_12 q_13 q_14 q_15 q_16 q_17 q_18 q_19 q_20 q_21 q_22 q_23 q_24 q_25 0 x_6 x_7 x_8 x_9 x_10 x_11 g_12 x_13 x_14 x_15 x_16 x_17 x_18 x_19 x_20 g_21 g_22 x_23 x_24 x_25 x_26 x_27 x_28 x_29 x_30 x_31 x_32 x_33 x_34 x_35 _) okV_X12_told kM_X12_106 rfl (z_pV (q0 := 0) hK hN hP hD [0] rfl rfl rfl rfl rfl) rfl hl.1 rfl (Nat.le_of_ble_eq_true rfl) dX12_child_61 rfl) hP hD hS hA [0] [1] rfl rfl rfl rfl (fun r7 u7 H locs hw7 hP hD hS => ?_)
      obtain ⟨i7, a7⟩ := u7
      dsimp only at hw7
      obtain ⟨rfl, rfl⟩ := hw7
      have hP : va_P D vwCl [(q_1, .inl (k 0, 27101, .inl (fun _ => 0))), (q_0, .inr (12, [.int 0, .int (-1), .ref q_1, .ref q_2, .ref q_3, .int x_7, .ref q_4, .ref q_5, .ref q_6, .ref q_7, .ref q_8, .int x_8, .int x_9, .int x_10, .int x_11, .long g_12, .int x_13, .int x_14, .int x_15, .ref q_9, .int x_16, .ref q_10, .ref q_11, .int x_17, .ref q_12, .ref q_13, .int x_18, .int x_19, .ref q_14, .ref q_15, .ref q_16, .ref q_17, .int x_20, .long g_21, .long g_22, .int x_23, .int x_24, .int x_25, .int x_26, .ref q_18, .ref q_19, .int x_27, .int x_28, .int x_29, .int x_30, .ref q_20, .ref q_21, .int x_31, .int x_32, .ref q_22, .ref q_23, .ref q_24, .ref q_25, .int x_33, .int x_34, .int x_35]))] H := hP
      have hD : va_D A [(q_1, .inl (k 0, 27101, .inl (fun _ => 0))), (q_0, .inr (12, [.int 0, .int (-1), .ref q_1, .ref q_2, .ref q_3, .int x_7, .ref q_4, .ref q_5, .ref q_6, .ref q_7, .ref q_8, .int x_8, .int x_9, .int x_10, .int x_11, .long g_12, .int x_13, .int x_14, .int x_15, .ref q_9, .int x_16, .ref q_10, .ref q_11, .int x_17, .ref q_12, .ref q_13, .int x_18, .int x_19, .ref q_14, .ref q_15, .ref q_16, .ref q_17, .int x_20, .long g_21, .long g_22, .int x_23, .int x_24, .int x_25, .int x_26, .ref q_18, .ref q_19, .int x_27, .int x_28, .int x_29, .int x_30, .ref q_20, .ref q_21, .int x_31, .int x_32, .ref q_22, .ref q_23, .ref q_24, .ref q_25, .int x_33, .int x_34, .int x_35]))] := hD
      exact z_iret C0 hr hlk rfl hK hP hD hS (0, fun _ => 0) (Or.inl ⟨rfl, rfl, (Or.inr (Or.inl (⟨c1, c5⟩)))⟩) [] rfl rfl rfl dX12_child_64
    · refine lv_if_eq (tgt := 59) hx hb dX12_child_30 (by decide) (fun c8 => absurd c8 (by decide)) (fun _ => ?_)
      refine lv_iload hx hb dX12_child_33 (lv_at hl 4 rfl) ?_
      refine lv_i2l (v := (Int32.toInt64 x_3)) hx hb dX12_child_35 rfl ?_
      refine lv_lconst (v := 0) hx hb dX12_child_36 (by decide) ?_
      refine lv_ldc2 hx hb hown (hts _ kL_X12_118) dX12_child_37 ?_
      refine z_bi0 (z_runS (As := [.long (Int32.toInt64 x_3), .long 0, .long 99]) (rest := []) C0 (c_X12_in_1 l D k (Int32.toInt64 x_3) 0 99 _) okS_X12_in kM_X12_100 rfl (z_p0 hK hN) rfl hl.1 rfl (Nat.le_of_ble_eq_true rfl) dX12_child_40 rfl) hP hS hA (fun r9 u9 H locs hw9 hP hS => ?_)
      obtain ⟨i9, a9⟩ := u9
      dsimp only at hw9
      rcases hw9 with ⟨rfl, rfl, c9⟩ | ⟨rfl, rfl, c9⟩
      · refine lv_if_eq (tgt := 59) hx hb dX12_child_43 (by decide) (fun _ => ?_) (fun c10 => absurd (by decide) c10)
        refine lv_aload_n hx hb dX12_child_59 rfl (lv_at hl 0 rfl) ?_
        refine lv_iconst (v := (-1)) hx hb dX12_child_60 (by decide) ?_
        refine z_bi (wr := [(q_1, .inl (k 0, 27101, .inl (fun _ => 0)))]) (z_runV (C := RX12) (As := [.int (-1)]) (rest := []) C0 (c_X12_told_1 l D k q_0 q_1 q_2 q_3 q_4 q_5 q_6 q_7 q_8 q_9 q_10 q_11 q_12 q_13 q_14 q_15 q_16 q_17 q_18 q_19 q_20 q_21 q_22 q_23 q_24 q_25 0 x_6 x_7 x_8 x_9 x_10 x_11 g_12 x_13 x_14 x_15 x_16 x_17 x_18 x_19 x_20 g_21 g_22 x_23 x_24 x_25 x_26 x_27 x_28 x_29 x_30 x_31 x_32 x_33 x_34 x_35 _) okV_X12_told kM_X12_106 rfl (z_pV (q0 := 0) hK hN hP hD [0] rfl rfl rfl rfl rfl) rfl hl.1 rfl (Nat.le_of_ble_eq_true rfl) dX12_child_61 rfl) hP hD hS hA [0] [1] rfl rfl rfl rfl (fun r11 u11 H locs hw11 hP hD hS => ?_)
        obtain ⟨i11, a11⟩ := u11
        dsimp only at hw11
        obtain ⟨rfl, rfl⟩ := hw11
        have hP : va_P D vwCl [(q_1, .inl (k 0, 27101, .inl (fun _ => 0))), (q_0, .inr (12, [.int 0, .int (-1), .ref q_1, .ref q_2, .ref q_3, .int x_7, .ref q_4, .ref q_5, .ref q_6, .ref q_7, .ref q_8, .int x_8, .int x_9, .int x_10, .int x_11, .long g_12, .int x_13, .int x_14, .int x_15, .ref q_9, .int x_16, .ref q_10, .ref q_11, .int x_17, .ref q_12, .ref q_13, .int x_18, .int x_19, .ref q_14, .ref q_15, .ref q_16, .ref q_17, .int x_20, .long g_21, .long g_22, .int x_23, .int x_24, .int x_25, .int x_26, .ref q_18, .ref q_19, .int x_27, .int x_28, .int x_29, .int x_30, .ref q_20, .ref q_21, .int x_31, .int x_32, .ref q_22, .ref q_23, .ref q_24, .ref q_25, .int x_33, .int x_34, .int x_35]))] H := hP
        have hD : va_D A [(q_1, .inl (k 0, 27101, .inl (fun _ => 0))), (q_0, .inr (12, [.int 0, .int (-1), .ref q_1, .ref q_2, .ref q_3, .int x_7, .ref q_4, .ref q_5, .ref q_6, .ref q_7, .ref q_8, .int x_8, .int x_9, .int x_10, .int x_11, .long g_12, .int x_13, .int x_14, .int x_15, .ref q_9, .int x_16, .ref q_10, .ref q_11, .int x_17, .ref q_12, .ref q_13, .int x_18, .int x_19, .ref q_14, .ref q_15, .ref q_16, .ref q_17, .int x_20, .long g_21, .long g_22, .int x_23, .int x_24, .int x_25, .int x_26, .ref q_18, .ref q_19, .int x_27, .int x_28, .int x_29, .int x_30, .ref q_20, .ref q_21, .int x_31, .int x_32, .ref q_22, .ref q_23, .ref q_24, .ref q_25, .int x_33, .int x_34, .int x_35]))] := hD
        exact z_iret C0 hr hlk rfl hK hP hD hS (0, fun _ => 0) (Or.inl ⟨rfl, rfl, (Or.inr (Or.inr (Or.inl (⟨c1, c5, c9⟩))))⟩) [] rfl rfl rfl dX12_child_64
      · refine lv_if_eq (tgt := 59) hx hb dX12_child_43 (by decide) (fun c12 => absurd c12 (by decide)) (fun _ => ?_)
        refine lv_iload hx hb dX12_child_46 (lv_at hl 5 rfl) ?_
        refine lv_i2l (v := (Int32.toInt64 x_4)) hx hb dX12_child_48 rfl ?_
        refine lv_lconst (v := 0) hx hb dX12_child_49 (by decide) ?_
        refine lv_ldc2 hx hb hown (hts _ kL_X12_118) dX12_child_50 ?_
        refine z_bi0 (z_runS (As := [.long (Int32.toInt64 x_4), .long 0, .long 99]) (rest := []) C0 (c_X12_in_1 l D k (Int32.toInt64 x_4) 0 99 _) okS_X12_in kM_X12_100 rfl (z_p0 hK hN) rfl hl.1 rfl (Nat.le_of_ble_eq_true rfl) dX12_child_53 rfl) hP hS hA (fun r13 u13 H locs hw13 hP hS => ?_)
        obtain ⟨i13, a13⟩ := u13
        dsimp only at hw13
        rcases hw13 with ⟨rfl, rfl, c13⟩ | ⟨rfl, rfl, c13⟩
        · refine lv_if_ne (tgt := 65) hx hb dX12_child_56 (by decide) (fun c14 => absurd (by decide) c14) (fun _ => ?_)
          refine lv_aload_n hx hb dX12_child_59 rfl (lv_at hl 0 rfl) ?_
          refine lv_iconst (v := (-1)) hx hb dX12_child_60 (by decide) ?_
          refine z_bi (wr := [(q_1, .inl (k 0, 27101, .inl (fun _ => 0)))]) (z_runV (C := RX12) (As := [.int (-1)]) (rest := []) C0 (c_X12_told_1 l D k q_0 q_1 q_2 q_3 q_4 q_5 q_6 q_7 q_8 q_9 q_10 q_11 q_12 q_13 q_14 q_15 q_16 q_17 q_18 q_19 q_20 q_21 q_22 q_23 q_24 q_25 0 x_6 x_7 x_8 x_9 x_10 x_11 g_12 x_13 x_14 x_15 x_16 x_17 x_18 x_19 x_20 g_21 g_22 x_23 x_24 x_25 x_26 x_27 x_28 x_29 x_30 x_31 x_32 x_33 x_34 x_35 _) okV_X12_told kM_X12_106 rfl (z_pV (q0 := 0) hK hN hP hD [0] rfl rfl rfl rfl rfl) rfl hl.1 rfl (Nat.le_of_ble_eq_true rfl) dX12_child_61 rfl) hP hD hS hA [0] [1] rfl rfl rfl rfl (fun r15 u15 H locs hw15 hP hD hS => ?_)
          obtain ⟨i15, a15⟩ := u15
          dsimp only at hw15
          obtain ⟨rfl, rfl⟩ := hw15
          have hP : va_P D vwCl [(q_1, .inl (k 0, 27101, .inl (fun _ => 0))), (q_0, .inr (12, [.int 0, .int (-1), .ref q_1, .ref q_2, .ref q_3, .int x_7, .ref q_4, .ref q_5, .ref q_6, .ref q_7, .ref q_8, .int x_8, .int x_9, .int x_10, .int x_11, .long g_12, .int x_13, .int x_14, .int x_15, .ref q_9, .int x_16, .ref q_10, .ref q_11, .int x_17, .ref q_12, .ref q_13, .int x_18, .int x_19, .ref q_14, .ref q_15, .ref q_16, .ref q_17, .int x_20, .long g_21, .long g_22, .int x_23, .int x_24, .int x_25, .int x_26, .ref q_18, .ref q_19, .int x_27, .int x_28, .int x_29, .int x_30, .ref q_20, .ref q_21, .int x_31, .int x_32, .ref q_22, .ref q_23, .ref q_24, .ref q_25, .int x_33, .int x_34, .int x_35]))] H := hP
          have hD : va_D A [(q_1, .inl (k 0, 27101, .inl (fun _ => 0))), (q_0, .inr (12, [.int 0, .int (-1), .ref q_1, .ref q_2, .ref q_3, .int x_7, .ref q_4, .ref q_5, .ref q_6, .ref q_7, .ref q_8, .int x_8, .int x_9, .int x_10, .int x_11, .long g_12, .int x_13, .int x_14, .int x_15, .ref q_9, .int x_16, .ref q_10, .ref q_11, .int x_17, .ref q_12, .ref q_13, .int x_18, .int x_19, .ref q_14, .ref q_15, .ref q_16, .ref q_17, .int x_20, .long g_21, .long g_22, .int x_23, .int x_24, .int x_25, .int x_26, .ref q_18, .ref q_19, .int x_27, .int x_28, .int x_29, .int x_30, .ref q_20, .ref q_21, .int x_31, .int x_32, .ref q_22, .ref q_23, .ref q_24, .ref q_25, .int x_33, .int x_34, .int x_35]))] := hD
          exact z_iret C0 hr hlk rfl hK hP hD hS (0, fun _ => 0) (Or.inl ⟨rfl, rfl, (Or.inr (Or.inr (Or.inr (⟨c1, c5, c9, c13⟩))))⟩) [] rfl rfl rfl dX12_child_64
        · refine lv_if_ne (tgt := 65) hx hb dX12_child_56 (by decide) (fun _ => ?_) (fun c16 => absurd c16 (by decide))
          refine lv_aload_n hx hb dX12_child_65 rfl (lv_at hl 0 rfl) ?_
          refine va_get (D := D) (ci := 12) (v := .ref q_1) (C := RX12) (T := TX12) (N := 56) hx hb hts inX12 hown hK hP 0 rfl rfl 2 (by decide) (hts _ kF_X12_7) (fun _ h9 => h9) rfl dX12_child_66 ?_
          refine lv_iconst (v := 0) hx hb dX12_child_69 (by decide) ?_
          refine va_iald hx hb hK hP 1 0 rfl rfl (by unfold vp_in; decide) dX12_child_70 ?_
          refine lv_toc (v := 0) rfl ?_
          refine lv_bipush (v := 40) hx hb dX12_child_71 (by decide) ?_
          refine lv_icmp_ne (tgt := 83) hx hb dX12_child_73 (by decide) (fun _ => ?_) (fun c17 => absurd c17 (by decide))
          refine lv_aload_n hx hb dX12_child_83 rfl (lv_at hl 0 rfl) ?_
          refine va_get (D := D) (ci := 12) (v := .ref q_1) (C := RX12) (T := TX12) (N := 56) hx hb hts inX12 hown hK hP 0 rfl rfl 2 (by decide) (hts _ kF_X12_7) (fun _ h9 => h9) rfl dX12_child_84 ?_
          refine lv_iconst (v := 0) hx hb dX12_child_87 (by decide) ?_
          refine va_iald hx hb hK hP 1 0 rfl rfl (by unfold vp_in; decide) dX12_child_88 ?_
          refine lv_toc (v := 0) rfl ?_
          refine z_bi0 (z_runS (As := [.int 0]) (rest := []) C0 (c_X12_childAt_1 l D k _) okS_X12_childAt kM_X12_120 rfl (z_p0 hK hN) rfl hl.1 rfl (Nat.le_of_ble_eq_true rfl) dX12_child_89 rfl) hP hS hA (fun r18 u18 H locs hw18 hP hS => ?_)
          obtain ⟨i18, a18⟩ := u18
          dsimp only at hw18
          obtain ⟨rfl, rfl⟩ := hw18
          refine lv_istore (lv' := [(6, .int 20), (0, .ref q_0), (1, .int x_0), (2, .int x_1), (3, .int x_2), (4, .int x_3), (5, .int x_4)]) hx hb dX12_child_92 hl (by decide) rfl (fun ls hl => ?_)
          refine lv_aload_n hx hb dX12_child_94 rfl (lv_at hl 1 rfl) ?_
          refine lv_iload hx hb dX12_child_95 (lv_at hl 0 rfl) ?_
          refine lv_iload_n hx hb dX12_child_97 rfl (lv_at hl 2 rfl) ?_
          refine lv_iload_n hx hb dX12_child_98 rfl (lv_at hl 3 rfl) ?_
          refine lv_if_eq (tgt := 106) hx hb dX12_child_99 (by decide) (fun c19 => ?_) (fun c19 => ?_)
          · refine lv_iconst (v := 0) hx hb dX12_child_106 (by decide) ?_
            refine lv_iload_n hx hb dX12_child_107 rfl (lv_at hl 4 rfl) ?_
            refine lv_iload hx hb dX12_child_108 (lv_at hl 5 rfl) ?_
            refine z_bv (wr := []) (z_runV (C := RX12) (As := [.int 20, .int x_0, .int 0, .int x_2, .int x_3]) (rest := []) C0 (c_X12_addFour_1 l D k q_0 q_1 q_2 q_3 q_4 q_5 q_6 q_7 q_8 q_9 q_10 q_11 q_12 q_13 q_14 q_15 q_16 q_17 q_18 q_19 q_20 q_21 q_22 q_23 q_24 q_25 x_0 x_2 x_3 0 x_6 x_7 x_8 x_9 x_10 x_11 g_12 x_13 x_14 x_15 x_16 x_17 x_18 x_19 x_20 g_21 g_22 x_23 x_24 x_25 x_26 x_27 x_28 x_29 x_30 x_31 x_32 x_33 x_34 x_35 (fun _ => 0) _) okV_X12_addFour kM_X12_123 rfl (z_pV (q0 := 0) hK hN hP hD [0, 1] rfl rfl rfl rfl rfl) rfl hl.1 rfl (Nat.le_of_ble_eq_true rfl) dX12_child_110 rfl) hP hD hS hA [0, 1] [] rfl rfl rfl rfl (fun u20 H locs hw20 hP hD hS => ?_)
            obtain ⟨i20, a20⟩ := u20
            dsimp only at hw20
            obtain rfl := hw20
            have hP : va_P D vwCl [(q_0, .inr (12, [.int 0, .int x_6, .ref q_1, .ref q_2, .ref q_3, .int x_7, .ref q_4, .ref q_5, .ref q_6, .ref q_7, .ref q_8, .int x_8, .int x_9, .int x_10, .int x_11, .long g_12, .int x_13, .int x_14, .int x_15, .ref q_9, .int x_16, .ref q_10, .ref q_11, .int x_17, .ref q_12, .ref q_13, .int x_18, .int x_19, .ref q_14, .ref q_15, .ref q_16, .ref q_17, .int x_20, .long g_21, .long g_22, .int x_23, .int x_24, .int x_25, .int x_26, .ref q_18, .ref q_19, .int x_27, .int x_28, .int x_29, .int x_30, .ref q_20, .ref q_21, .int x_31, .int x_32, .ref q_22, .ref q_23, .ref q_24, .ref q_25, .int x_33, .int x_34, .int x_35])), (q_1, .inl (k 0, 27101, .inl (upd (upd (upd (upd (fun _ => 0) 20 x_0) 21 0) 22 x_2) 23 x_3)))] H := hP
            have hD : va_D A [(q_0, .inr (12, [.int 0, .int x_6, .ref q_1, .ref q_2, .ref q_3, .int x_7, .ref q_4, .ref q_5, .ref q_6, .ref q_7, .ref q_8, .int x_8, .int x_9, .int x_10, .int x_11, .long g_12, .int x_13, .int x_14, .int x_15, .ref q_9, .int x_16, .ref q_10, .ref q_11, .int x_17, .ref q_12, .ref q_13, .int x_18, .int x_19, .ref q_14, .ref q_15, .ref q_16, .ref q_17, .int x_20, .long g_21, .long g_22, .int x_23, .int x_24, .int x_25, .int x_26, .ref q_18, .ref q_19, .int x_27, .int x_28, .int x_29, .int x_30, .ref q_20, .ref q_21, .int x_31, .int x_32, .ref q_22, .ref q_23, .ref q_24, .ref q_25, .int x_33, .int x_34, .int x_35])), (q_1, .inl (k 0, 27101, .inl (upd (upd (upd (upd (fun _ => 0) 20 x_0) 21 0) 22 x_2) 23 x_3)))] := hD
            refine lv_aload_n hx hb dX12_child_113 rfl (lv_at hl 1 rfl) ?_
            refine va_get (D := D) (ci := 12) (v := .ref q_1) (C := RX12) (T := TX12) (N := 56) hx hb hts inX12 hown hK hP 0 rfl rfl 2 (by decide) (hts _ kF_X12_7) (fun _ h9 => h9) rfl dX12_child_114 ?_
            refine lv_iload hx hb dX12_child_117 (lv_at hl 0 rfl) ?_
            refine lv_iconst (v := 4) hx hb dX12_child_119 (by decide) ?_
            refine lv_iadd hx hb dX12_child_120 ?_
            refine lv_toc (v := 24) (by decide) ?_
            refine lv_iload hx hb dX12_child_121 (lv_at hl 6 rfl) ?_
            refine va_iast hx hb hK hP hD hS 1 0 rfl rfl (by unfold vp_in; decide) dX12_child_123 (fun H locs hP hD hS => ?_)
            have hP : va_P D vwCl [(q_0, .inr (12, [.int 0, .int x_6, .ref q_1, .ref q_2, .ref q_3, .int x_7, .ref q_4, .ref q_5, .ref q_6, .ref q_7, .ref q_8, .int x_8, .int x_9, .int x_10, .int x_11, .long g_12, .int x_13, .int x_14, .int x_15, .ref q_9, .int x_16, .ref q_10, .ref q_11, .int x_17, .ref q_12, .ref q_13, .int x_18, .int x_19, .ref q_14, .ref q_15, .ref q_16, .ref q_17, .int x_20, .long g_21, .long g_22, .int x_23, .int x_24, .int x_25, .int x_26, .ref q_18, .ref q_19, .int x_27, .int x_28, .int x_29, .int x_30, .ref q_20, .ref q_21, .int x_31, .int x_32, .ref q_22, .ref q_23, .ref q_24, .ref q_25, .int x_33, .int x_34, .int x_35])), (q_1, .inl (k 0, 27101, .inl (upd (upd (upd (upd (upd (fun _ => 0) 20 x_0) 21 0) 22 x_2) 23 x_3) 24 x_4)))] H := hP
            have hD : va_D A [(q_0, .inr (12, [.int 0, .int x_6, .ref q_1, .ref q_2, .ref q_3, .int x_7, .ref q_4, .ref q_5, .ref q_6, .ref q_7, .ref q_8, .int x_8, .int x_9, .int x_10, .int x_11, .long g_12, .int x_13, .int x_14, .int x_15, .ref q_9, .int x_16, .ref q_10, .ref q_11, .int x_17, .ref q_12, .ref q_13, .int x_18, .int x_19, .ref q_14, .ref q_15, .ref q_16, .ref q_17, .int x_20, .long g_21, .long g_22, .int x_23, .int x_24, .int x_25, .int x_26, .ref q_18, .ref q_19, .int x_27, .int x_28, .int x_29, .int x_30, .ref q_20, .ref q_21, .int x_31, .int x_32, .ref q_22, .ref q_23, .ref q_24, .ref q_25, .int x_33, .int x_34, .int x_35])), (q_1, .inl (k 0, 27101, .inl (upd (upd (upd (upd (upd (fun _ => 0) 20 x_0) 21 0) 22 x_2) 23 x_3) 24 x_4)))] := hD
            refine lv_iconst (v := 5) hx hb dX12_child_124 (by decide) ?_
            refine lv_istore (lv' := [(7, .int 5), (6, .int 20), (0, .ref q_0), (1, .int x_0), (2, .int x_1), (3, .int x_2), (4, .int x_3), (5, .int x_4)]) hx hb dX12_child_125 hl (by decide) rfl (fun ls hl => ?_)
            refine lv_iload hx hb dX12_child_127 (lv_at hl 0 rfl) ?_
            refine lv_bipush (v := 17) hx hb dX12_child_129 (by decide) ?_
            refine lv_icmp_ge (tgt := 162) hx hb dX12_child_131 (by decide) (fun c21 => absurd c21 (by decide)) (fun _ => ?_)
            refine lv_aload_n hx hb dX12_child_134 rfl (lv_at hl 2 rfl) ?_
            refine va_get (D := D) (ci := 12) (v := .ref q_1) (C := RX12) (T := TX12) (N := 56) hx hb hts inX12 hown hK hP 0 rfl rfl 2 (by decide) (hts _ kF_X12_7) (fun _ h9 => h9) rfl dX12_child_135 ?_
            refine lv_iload hx hb dX12_child_138 (lv_at hl 1 rfl) ?_
            refine lv_iload hx hb dX12_child_140 (lv_at hl 0 rfl) ?_
            refine lv_iadd hx hb dX12_child_142 ?_
            refine lv_toc (v := 25) (by decide) ?_
            refine lv_iload hx hb dX12_child_143 (lv_at hl 0 rfl) ?_
            refine lv_bipush (v := 13) hx hb dX12_child_145 (by decide) ?_
            refine lv_icmp_ge (tgt := 154) hx hb dX12_child_147 (by decide) (fun c22 => absurd c22 (by decide)) (fun _ => ?_)
            refine lv_iconst (v := (-1)) hx hb dX12_child_150 (by decide) ?_
            refine lv_goto (tgt := 155) hx hb dX12_child_151 (by decide) ?_
            refine va_iast hx hb hK hP hD hS 1 0 rfl rfl (by unfold vp_in; decide) dX12_child_155 (fun H locs hP hD hS => ?_)
            have hP : va_P D vwCl [(q_0, .inr (12, [.int 0, .int x_6, .ref q_1, .ref q_2, .ref q_3, .int x_7, .ref q_4, .ref q_5, .ref q_6, .ref q_7, .ref q_8, .int x_8, .int x_9, .int x_10, .int x_11, .long g_12, .int x_13, .int x_14, .int x_15, .ref q_9, .int x_16, .ref q_10, .ref q_11, .int x_17, .ref q_12, .ref q_13, .int x_18, .int x_19, .ref q_14, .ref q_15, .ref q_16, .ref q_17, .int x_20, .long g_21, .long g_22, .int x_23, .int x_24, .int x_25, .int x_26, .ref q_18, .ref q_19, .int x_27, .int x_28, .int x_29, .int x_30, .ref q_20, .ref q_21, .int x_31, .int x_32, .ref q_22, .ref q_23, .ref q_24, .ref q_25, .int x_33, .int x_34, .int x_35])), (q_1, .inl (k 0, 27101, .inl (upd (upd (upd (upd (upd (upd (fun _ => 0) 20 x_0) 21 0) 22 x_2) 23 x_3) 24 x_4) 25 (-1))))] H := hP
            have hD : va_D A [(q_0, .inr (12, [.int 0, .int x_6, .ref q_1, .ref q_2, .ref q_3, .int x_7, .ref q_4, .ref q_5, .ref q_6, .ref q_7, .ref q_8, .int x_8, .int x_9, .int x_10, .int x_11, .long g_12, .int x_13, .int x_14, .int x_15, .ref q_9, .int x_16, .ref q_10, .ref q_11, .int x_17, .ref q_12, .ref q_13, .int x_18, .int x_19, .ref q_14, .ref q_15, .ref q_16, .ref q_17, .int x_20, .long g_21, .long g_22, .int x_23, .int x_24, .int x_25, .int x_26, .ref q_18, .ref q_19, .int x_27, .int x_28, .int x_29, .int x_30, .ref q_20, .ref q_21, .int x_31, .int x_32, .ref q_22, .ref q_23, .ref q_24, .ref q_25, .int x_33, .int x_34, .int x_35])), (q_1, .inl (k 0, 27101, .inl (upd (upd (upd (upd (upd (upd (fun _ => 0) 20 x_0) 21 0) 22 x_2) 23 x_3) 24 x_4) 25 (-1))))] := hD
            refine lv_iinc (v := 6) (lv' := [(7, .int 6), (6, .int 20), (0, .ref q_0), (1, .int x_0), (2, .int x_1), (3, .int x_2), (4, .int x_3), (5, .int x_4)]) hx hb dX12_child_156 hl (k := 0) rfl (by decide) (by decide) rfl (fun ls hl => ?_)
            refine lv_goto (tgt := 127) hx hb dX12_child_159 (by decide) ?_
            refine lv_iload hx hb dX12_child_127 (lv_at hl 0 rfl) ?_
            refine lv_bipush (v := 17) hx hb dX12_child_129 (by decide) ?_
            refine lv_icmp_ge (tgt := 162) hx hb dX12_child_131 (by decide) (fun c23 => absurd c23 (by decide)) (fun _ => ?_)
            refine lv_aload_n hx hb dX12_child_134 rfl (lv_at hl 2 rfl) ?_
            refine va_get (D := D) (ci := 12) (v := .ref q_1) (C := RX12) (T := TX12) (N := 56) hx hb hts inX12 hown hK hP 0 rfl rfl 2 (by decide) (hts _ kF_X12_7) (fun _ h9 => h9) rfl dX12_child_135 ?_
            refine lv_iload hx hb dX12_child_138 (lv_at hl 1 rfl) ?_
            refine lv_iload hx hb dX12_child_140 (lv_at hl 0 rfl) ?_
            refine lv_iadd hx hb dX12_child_142 ?_
            refine lv_toc (v := 26) (by decide) ?_
            refine lv_iload hx hb dX12_child_143 (lv_at hl 0 rfl) ?_
            refine lv_bipush (v := 13) hx hb dX12_child_145 (by decide) ?_
            refine lv_icmp_ge (tgt := 154) hx hb dX12_child_147 (by decide) (fun c24 => absurd c24 (by decide)) (fun _ => ?_)
            refine lv_iconst (v := (-1)) hx hb dX12_child_150 (by decide) ?_
            refine lv_goto (tgt := 155) hx hb dX12_child_151 (by decide) ?_
            refine va_iast hx hb hK hP hD hS 1 0 rfl rfl (by unfold vp_in; decide) dX12_child_155 (fun H locs hP hD hS => ?_)
            have hP : va_P D vwCl [(q_0, .inr (12, [.int 0, .int x_6, .ref q_1, .ref q_2, .ref q_3, .int x_7, .ref q_4, .ref q_5, .ref q_6, .ref q_7, .ref q_8, .int x_8, .int x_9, .int x_10, .int x_11, .long g_12, .int x_13, .int x_14, .int x_15, .ref q_9, .int x_16, .ref q_10, .ref q_11, .int x_17, .ref q_12, .ref q_13, .int x_18, .int x_19, .ref q_14, .ref q_15, .ref q_16, .ref q_17, .int x_20, .long g_21, .long g_22, .int x_23, .int x_24, .int x_25, .int x_26, .ref q_18, .ref q_19, .int x_27, .int x_28, .int x_29, .int x_30, .ref q_20, .ref q_21, .int x_31, .int x_32, .ref q_22, .ref q_23, .ref q_24, .ref q_25, .int x_33, .int x_34, .int x_35])), (q_1, .inl (k 0, 27101, .inl (upd (upd (upd (upd (upd (upd (upd (fun _ => 0) 20 x_0) 21 0) 22 x_2) 23 x_3) 24 x_4) 25 (-1)) 26 (-1))))] H := hP
            have hD : va_D A [(q_0, .inr (12, [.int 0, .int x_6, .ref q_1, .ref q_2, .ref q_3, .int x_7, .ref q_4, .ref q_5, .ref q_6, .ref q_7, .ref q_8, .int x_8, .int x_9, .int x_10, .int x_11, .long g_12, .int x_13, .int x_14, .int x_15, .ref q_9, .int x_16, .ref q_10, .ref q_11, .int x_17, .ref q_12, .ref q_13, .int x_18, .int x_19, .ref q_14, .ref q_15, .ref q_16, .ref q_17, .int x_20, .long g_21, .long g_22, .int x_23, .int x_24, .int x_25, .int x_26, .ref q_18, .ref q_19, .int x_27, .int x_28, .int x_29, .int x_30, .ref q_20, .ref q_21, .int x_31, .int x_32, .ref q_22, .ref q_23, .ref q_24, .ref q_25, .int x_33, .int x_34, .int x_35])), (q_1, .inl (k 0, 27101, .inl (upd (upd (upd (upd (upd (upd (upd (fun _ => 0) 20 x_0) 21 0) 22 x_2) 23 x_3) 24 x_4) 25 (-1)) 26 (-1))))] := hD
            refine lv_iinc (v := 7) (lv' := [(7, .int 7), (6, .int 20), (0, .ref q_0), (1, .int x_0), (2, .int x_1), (3, .int x_2), (4, .int x_3), (5, .int x_4)]) hx hb dX12_child_156 hl (k := 0) rfl (by decide) (by decide) rfl (fun ls hl => ?_)
            refine lv_goto (tgt := 127) hx hb dX12_child_159 (by decide) ?_
            refine lv_iload hx hb dX12_child_127 (lv_at hl 0 rfl) ?_
            refine lv_bipush (v := 17) hx hb dX12_child_129 (by decide) ?_
            refine lv_icmp_ge (tgt := 162) hx hb dX12_child_131 (by decide) (fun c25 => absurd c25 (by decide)) (fun _ => ?_)
            refine lv_aload_n hx hb dX12_child_134 rfl (lv_at hl 2 rfl) ?_
            refine va_get (D := D) (ci := 12) (v := .ref q_1) (C := RX12) (T := TX12) (N := 56) hx hb hts inX12 hown hK hP 0 rfl rfl 2 (by decide) (hts _ kF_X12_7) (fun _ h9 => h9) rfl dX12_child_135 ?_
            refine lv_iload hx hb dX12_child_138 (lv_at hl 1 rfl) ?_
            refine lv_iload hx hb dX12_child_140 (lv_at hl 0 rfl) ?_
            refine lv_iadd hx hb dX12_child_142 ?_
            refine lv_toc (v := 27) (by decide) ?_
            refine lv_iload hx hb dX12_child_143 (lv_at hl 0 rfl) ?_
            refine lv_bipush (v := 13) hx hb dX12_child_145 (by decide) ?_
            refine lv_icmp_ge (tgt := 154) hx hb dX12_child_147 (by decide) (fun c26 => absurd c26 (by decide)) (fun _ => ?_)
            refine lv_iconst (v := (-1)) hx hb dX12_child_150 (by decide) ?_
            refine lv_goto (tgt := 155) hx hb dX12_child_151 (by decide) ?_
            refine va_iast hx hb hK hP hD hS 1 0 rfl rfl (by unfold vp_in; decide) dX12_child_155 (fun H locs hP hD hS => ?_)
            have hP : va_P D vwCl [(q_0, .inr (12, [.int 0, .int x_6, .ref q_1, .ref q_2, .ref q_3, .int x_7, .ref q_4, .ref q_5, .ref q_6, .ref q_7, .ref q_8, .int x_8, .int x_9, .int x_10, .int x_11, .long g_12, .int x_13, .int x_14, .int x_15, .ref q_9, .int x_16, .ref q_10, .ref q_11, .int x_17, .ref q_12, .ref q_13, .int x_18, .int x_19, .ref q_14, .ref q_15, .ref q_16, .ref q_17, .int x_20, .long g_21, .long g_22, .int x_23, .int x_24, .int x_25, .int x_26, .ref q_18, .ref q_19, .int x_27, .int x_28, .int x_29, .int x_30, .ref q_20, .ref q_21, .int x_31, .int x_32, .ref q_22, .ref q_23, .ref q_24, .ref q_25, .int x_33, .int x_34, .int x_35])), (q_1, .inl (k 0, 27101, .inl (upd (upd (upd (upd (upd (upd (upd (upd (fun _ => 0) 20 x_0) 21 0) 22 x_2) 23 x_3) 24 x_4) 25 (-1)) 26 (-1)) 27 (-1))))] H := hP
            have hD : va_D A [(q_0, .inr (12, [.int 0, .int x_6, .ref q_1, .ref q_2, .ref q_3, .int x_7, .ref q_4, .ref q_5, .ref q_6, .ref q_7, .ref q_8, .int x_8, .int x_9, .int x_10, .int x_11, .long g_12, .int x_13, .int x_14, .int x_15, .ref q_9, .int x_16, .ref q_10, .ref q_11, .int x_17, .ref q_12, .ref q_13, .int x_18, .int x_19, .ref q_14, .ref q_15, .ref q_16, .ref q_17, .int x_20, .long g_21, .long g_22, .int x_23, .int x_24, .int x_25, .int x_26, .ref q_18, .ref q_19, .int x_27, .int x_28, .int x_29, .int x_30, .ref q_20, .ref q_21, .int x_31, .int x_32, .ref q_22, .ref q_23, .ref q_24, .ref q_25, .int x_33, .int x_34, .int x_35])), (q_1, .inl (k 0, 27101, .inl (upd (upd (upd (upd (upd (upd (upd (upd (fun _ => 0) 20 x_0) 21 0) 22 x_2) 23 x_3) 24 x_4) 25 (-1)) 26 (-1)) 27 (-1))))] := hD
            refine lv_iinc (v := 8) (lv' := [(7, .int 8), (6, .int 20), (0, .ref q_0), (1, .int x_0), (2, .int x_1), (3, .int x_2), (4, .int x_3), (5, .int x_4)]) hx hb dX12_child_156 hl (k := 0) rfl (by decide) (by decide) rfl (fun ls hl => ?_)
            refine lv_goto (tgt := 127) hx hb dX12_child_159 (by decide) ?_
            refine lv_iload hx hb dX12_child_127 (lv_at hl 0 rfl) ?_
            refine lv_bipush (v := 17) hx hb dX12_child_129 (by decide) ?_
            refine lv_icmp_ge (tgt := 162) hx hb dX12_child_131 (by decide) (fun c27 => absurd c27 (by decide)) (fun _ => ?_)
            refine lv_aload_n hx hb dX12_child_134 rfl (lv_at hl 2 rfl) ?_
            refine va_get (D := D) (ci := 12) (v := .ref q_1) (C := RX12) (T := TX12) (N := 56) hx hb hts inX12 hown hK hP 0 rfl rfl 2 (by decide) (hts _ kF_X12_7) (fun _ h9 => h9) rfl dX12_child_135 ?_
            refine lv_iload hx hb dX12_child_138 (lv_at hl 1 rfl) ?_
            refine lv_iload hx hb dX12_child_140 (lv_at hl 0 rfl) ?_
            refine lv_iadd hx hb dX12_child_142 ?_
            refine lv_toc (v := 28) (by decide) ?_
            refine lv_iload hx hb dX12_child_143 (lv_at hl 0 rfl) ?_
            refine lv_bipush (v := 13) hx hb dX12_child_145 (by decide) ?_
            refine lv_icmp_ge (tgt := 154) hx hb dX12_child_147 (by decide) (fun c28 => absurd c28 (by decide)) (fun _ => ?_)
            refine lv_iconst (v := (-1)) hx hb dX12_child_150 (by decide) ?_
            refine lv_goto (tgt := 155) hx hb dX12_child_151 (by decide) ?_
            refine va_iast hx hb hK hP hD hS 1 0 rfl rfl (by unfold vp_in; decide) dX12_child_155 (fun H locs hP hD hS => ?_)
            have hP : va_P D vwCl [(q_0, .inr (12, [.int 0, .int x_6, .ref q_1, .ref q_2, .ref q_3, .int x_7, .ref q_4, .ref q_5, .ref q_6, .ref q_7, .ref q_8, .int x_8, .int x_9, .int x_10, .int x_11, .long g_12, .int x_13, .int x_14, .int x_15, .ref q_9, .int x_16, .ref q_10, .ref q_11, .int x_17, .ref q_12, .ref q_13, .int x_18, .int x_19, .ref q_14, .ref q_15, .ref q_16, .ref q_17, .int x_20, .long g_21, .long g_22, .int x_23, .int x_24, .int x_25, .int x_26, .ref q_18, .ref q_19, .int x_27, .int x_28, .int x_29, .int x_30, .ref q_20, .ref q_21, .int x_31, .int x_32, .ref q_22, .ref q_23, .ref q_24, .ref q_25, .int x_33, .int x_34, .int x_35])), (q_1, .inl (k 0, 27101, .inl (upd (upd (upd (upd (upd (upd (upd (upd (upd (fun _ => 0) 20 x_0) 21 0) 22 x_2) 23 x_3) 24 x_4) 25 (-1)) 26 (-1)) 27 (-1)) 28 (-1))))] H := hP
            have hD : va_D A [(q_0, .inr (12, [.int 0, .int x_6, .ref q_1, .ref q_2, .ref q_3, .int x_7, .ref q_4, .ref q_5, .ref q_6, .ref q_7, .ref q_8, .int x_8, .int x_9, .int x_10, .int x_11, .long g_12, .int x_13, .int x_14, .int x_15, .ref q_9, .int x_16, .ref q_10, .ref q_11, .int x_17, .ref q_12, .ref q_13, .int x_18, .int x_19, .ref q_14, .ref q_15, .ref q_16, .ref q_17, .int x_20, .long g_21, .long g_22, .int x_23, .int x_24, .int x_25, .int x_26, .ref q_18, .ref q_19, .int x_27, .int x_28, .int x_29, .int x_30, .ref q_20, .ref q_21, .int x_31, .int x_32, .ref q_22, .ref q_23, .ref q_24, .ref q_25, .int x_33, .int x_34, .int x_35])), (q_1, .inl (k 0, 27101, .inl (upd (upd (upd (upd (upd (upd (upd (upd (upd (fun _ => 0) 20 x_0) 21 0) 22 x_2) 23 x_3) 24 x_4) 25 (-1)) 26 (-1)) 27 (-1)) 28 (-1))))] := hD
            refine lv_iinc (v := 9) (lv' := [(7, .int 9), (6, .int 20), (0, .ref q_0), (1, .int x_0), (2, .int x_1), (3, .int x_2), (4, .int x_3), (5, .int x_4)]) hx hb dX12_child_156 hl (k := 0) rfl (by decide) (by decide) rfl (fun ls hl => ?_)
            refine lv_goto (tgt := 127) hx hb dX12_child_159 (by decide) ?_
            refine lv_iload hx hb dX12_child_127 (lv_at hl 0 rfl) ?_
            refine lv_bipush (v := 17) hx hb dX12_child_129 (by decide) ?_
            refine lv_icmp_ge (tgt := 162) hx hb dX12_child_131 (by decide) (fun c29 => absurd c29 (by decide)) (fun _ => ?_)
            refine lv_aload_n hx hb dX12_child_134 rfl (lv_at hl 2 rfl) ?_
            refine va_get (D := D) (ci := 12) (v := .ref q_1) (C := RX12) (T := TX12) (N := 56) hx hb hts inX12 hown hK hP 0 rfl rfl 2 (by decide) (hts _ kF_X12_7) (fun _ h9 => h9) rfl dX12_child_135 ?_
            refine lv_iload hx hb dX12_child_138 (lv_at hl 1 rfl) ?_
            refine lv_iload hx hb dX12_child_140 (lv_at hl 0 rfl) ?_
            refine lv_iadd hx hb dX12_child_142 ?_
            refine lv_toc (v := 29) (by decide) ?_
            refine lv_iload hx hb dX12_child_143 (lv_at hl 0 rfl) ?_
            refine lv_bipush (v := 13) hx hb dX12_child_145 (by decide) ?_
            refine lv_icmp_ge (tgt := 154) hx hb dX12_child_147 (by decide) (fun c30 => absurd c30 (by decide)) (fun _ => ?_)
            refine lv_iconst (v := (-1)) hx hb dX12_child_150 (by decide) ?_
            refine lv_goto (tgt := 155) hx hb dX12_child_151 (by decide) ?_
            refine va_iast hx hb hK hP hD hS 1 0 rfl rfl (by unfold vp_in; decide) dX12_child_155 (fun H locs hP hD hS => ?_)
            have hP : va_P D vwCl [(q_0, .inr (12, [.int 0, .int x_6, .ref q_1, .ref q_2, .ref q_3, .int x_7, .ref q_4, .ref q_5, .ref q_6, .ref q_7, .ref q_8, .int x_8, .int x_9, .int x_10, .int x_11, .long g_12, .int x_13, .int x_14, .int x_15, .ref q_9, .int x_16, .ref q_10, .ref q_11, .int x_17, .ref q_12, .ref q_13, .int x_18, .int x_19, .ref q_14, .ref q_15, .ref q_16, .ref q_17, .int x_20, .long g_21, .long g_22, .int x_23, .int x_24, .int x_25, .int x_26, .ref q_18, .ref q_19, .int x_27, .int x_28, .int x_29, .int x_30, .ref q_20, .ref q_21, .int x_31, .int x_32, .ref q_22, .ref q_23, .ref q_24, .ref q_25, .int x_33, .int x_34, .int x_35])), (q_1, .inl (k 0, 27101, .inl (upd (upd (upd (upd (upd (upd (upd (upd (upd (upd (fun _ => 0) 20 x_0) 21 0) 22 x_2) 23 x_3) 24 x_4) 25 (-1)) 26 (-1)) 27 (-1)) 28 (-1)) 29 (-1))))] H := hP
            have hD : va_D A [(q_0, .inr (12, [.int 0, .int x_6, .ref q_1, .ref q_2, .ref q_3, .int x_7, .ref q_4, .ref q_5, .ref q_6, .ref q_7, .ref q_8, .int x_8, .int x_9, .int x_10, .int x_11, .long g_12, .int x_13, .int x_14, .int x_15, .ref q_9, .int x_16, .ref q_10, .ref q_11, .int x_17, .ref q_12, .ref q_13, .int x_18, .int x_19, .ref q_14, .ref q_15, .ref q_16, .ref q_17, .int x_20, .long g_21, .long g_22, .int x_23, .int x_24, .int x_25, .int x_26, .ref q_18, .ref q_19, .int x_27, .int x_28, .int x_29, .int x_30, .ref q_20, .ref q_21, .int x_31, .int x_32, .ref q_22, .ref q_23, .ref q_24, .ref q_25, .int x_33, .int x_34, .int x_35])), (q_1, .inl (k 0, 27101, .inl (upd (upd (upd (upd (upd (upd (upd (upd (upd (upd (fun _ => 0) 20 x_0) 21 0) 22 x_2) 23 x_3) 24 x_4) 25 (-1)) 26 (-1)) 27 (-1)) 28 (-1)) 29 (-1))))] := hD
            refine lv_iinc (v := 10) (lv' := [(7, .int 10), (6, .int 20), (0, .ref q_0), (1, .int x_0), (2, .int x_1), (3, .int x_2), (4, .int x_3), (5, .int x_4)]) hx hb dX12_child_156 hl (k := 0) rfl (by decide) (by decide) rfl (fun ls hl => ?_)
            refine lv_goto (tgt := 127) hx hb dX12_child_159 (by decide) ?_
            refine lv_iload hx hb dX12_child_127 (lv_at hl 0 rfl) ?_
            refine lv_bipush (v := 17) hx hb dX12_child_129 (by decide) ?_
            refine lv_icmp_ge (tgt := 162) hx hb dX12_child_131 (by decide) (fun c31 => absurd c31 (by decide)) (fun _ => ?_)
            refine lv_aload_n hx hb dX12_child_134 rfl (lv_at hl 2 rfl) ?_
            refine va_get (D := D) (ci := 12) (v := .ref q_1) (C := RX12) (T := TX12) (N := 56) hx hb hts inX12 hown hK hP 0 rfl rfl 2 (by decide) (hts _ kF_X12_7) (fun _ h9 => h9) rfl dX12_child_135 ?_
            refine lv_iload hx hb dX12_child_138 (lv_at hl 1 rfl) ?_
            refine lv_iload hx hb dX12_child_140 (lv_at hl 0 rfl) ?_
            refine lv_iadd hx hb dX12_child_142 ?_
            refine lv_toc (v := 30) (by decide) ?_
            refine lv_iload hx hb dX12_child_143 (lv_at hl 0 rfl) ?_
            refine lv_bipush (v := 13) hx hb dX12_child_145 (by decide) ?_
            refine lv_icmp_ge (tgt := 154) hx hb dX12_child_147 (by decide) (fun c32 => absurd c32 (by decide)) (fun _ => ?_)
            refine lv_iconst (v := (-1)) hx hb dX12_child_150 (by decide) ?_
            refine lv_goto (tgt := 155) hx hb dX12_child_151 (by decide) ?_
            refine va_iast hx hb hK hP hD hS 1 0 rfl rfl (by unfold vp_in; decide) dX12_child_155 (fun H locs hP hD hS => ?_)
            have hP : va_P D vwCl [(q_0, .inr (12, [.int 0, .int x_6, .ref q_1, .ref q_2, .ref q_3, .int x_7, .ref q_4, .ref q_5, .ref q_6, .ref q_7, .ref q_8, .int x_8, .int x_9, .int x_10, .int x_11, .long g_12, .int x_13, .int x_14, .int x_15, .ref q_9, .int x_16, .ref q_10, .ref q_11, .int x_17, .ref q_12, .ref q_13, .int x_18, .int x_19, .ref q_14, .ref q_15, .ref q_16, .ref q_17, .int x_20, .long g_21, .long g_22, .int x_23, .int x_24, .int x_25, .int x_26, .ref q_18, .ref q_19, .int x_27, .int x_28, .int x_29, .int x_30, .ref q_20, .ref q_21, .int x_31, .int x_32, .ref q_22, .ref q_23, .ref q_24, .ref q_25, .int x_33, .int x_34, .int x_35])), (q_1, .inl (k 0, 27101, .inl (upd (upd (upd (upd (upd (upd (upd (upd (upd (upd (upd (fun _ => 0) 20 x_0) 21 0) 22 x_2) 23 x_3) 24 x_4) 25 (-1)) 26 (-1)) 27 (-1)) 28 (-1)) 29 (-1)) 30 (-1))))] H := hP
            have hD : va_D A [(q_0, .inr (12, [.int 0, .int x_6, .ref q_1, .ref q_2, .ref q_3, .int x_7, .ref q_4, .ref q_5, .ref q_6, .ref q_7, .ref q_8, .int x_8, .int x_9, .int x_10, .int x_11, .long g_12, .int x_13, .int x_14, .int x_15, .ref q_9, .int x_16, .ref q_10, .ref q_11, .int x_17, .ref q_12, .ref q_13, .int x_18, .int x_19, .ref q_14, .ref q_15, .ref q_16, .ref q_17, .int x_20, .long g_21, .long g_22, .int x_23, .int x_24, .int x_25, .int x_26, .ref q_18, .ref q_19, .int x_27, .int x_28, .int x_29, .int x_30, .ref q_20, .ref q_21, .int x_31, .int x_32, .ref q_22, .ref q_23, .ref q_24, .ref q_25, .int x_33, .int x_34, .int x_35])), (q_1, .inl (k 0, 27101, .inl (upd (upd (upd (upd (upd (upd (upd (upd (upd (upd (upd (fun _ => 0) 20 x_0) 21 0) 22 x_2) 23 x_3) 24 x_4) 25 (-1)) 26 (-1)) 27 (-1)) 28 (-1)) 29 (-1)) 30 (-1))))] := hD
            refine lv_iinc (v := 11) (lv' := [(7, .int 11), (6, .int 20), (0, .ref q_0), (1, .int x_0), (2, .int x_1), (3, .int x_2), (4, .int x_3), (5, .int x_4)]) hx hb dX12_child_156 hl (k := 0) rfl (by decide) (by decide) rfl (fun ls hl => ?_)
            refine lv_goto (tgt := 127) hx hb dX12_child_159 (by decide) ?_
            refine lv_iload hx hb dX12_child_127 (lv_at hl 0 rfl) ?_
            refine lv_bipush (v := 17) hx hb dX12_child_129 (by decide) ?_
            refine lv_icmp_ge (tgt := 162) hx hb dX12_child_131 (by decide) (fun c33 => absurd c33 (by decide)) (fun _ => ?_)
            refine lv_aload_n hx hb dX12_child_134 rfl (lv_at hl 2 rfl) ?_
            refine va_get (D := D) (ci := 12) (v := .ref q_1) (C := RX12) (T := TX12) (N := 56) hx hb hts inX12 hown hK hP 0 rfl rfl 2 (by decide) (hts _ kF_X12_7) (fun _ h9 => h9) rfl dX12_child_135 ?_
            refine lv_iload hx hb dX12_child_138 (lv_at hl 1 rfl) ?_
            refine lv_iload hx hb dX12_child_140 (lv_at hl 0 rfl) ?_
            refine lv_iadd hx hb dX12_child_142 ?_
            refine lv_toc (v := 31) (by decide) ?_
            refine lv_iload hx hb dX12_child_143 (lv_at hl 0 rfl) ?_
            refine lv_bipush (v := 13) hx hb dX12_child_145 (by decide) ?_
            refine lv_icmp_ge (tgt := 154) hx hb dX12_child_147 (by decide) (fun c34 => absurd c34 (by decide)) (fun _ => ?_)
            refine lv_iconst (v := (-1)) hx hb dX12_child_150 (by decide) ?_
            refine lv_goto (tgt := 155) hx hb dX12_child_151 (by decide) ?_
            refine va_iast hx hb hK hP hD hS 1 0 rfl rfl (by unfold vp_in; decide) dX12_child_155 (fun H locs hP hD hS => ?_)
            have hP : va_P D vwCl [(q_0, .inr (12, [.int 0, .int x_6, .ref q_1, .ref q_2, .ref q_3, .int x_7, .ref q_4, .ref q_5, .ref q_6, .ref q_7, .ref q_8, .int x_8, .int x_9, .int x_10, .int x_11, .long g_12, .int x_13, .int x_14, .int x_15, .ref q_9, .int x_16, .ref q_10, .ref q_11, .int x_17, .ref q_12, .ref q_13, .int x_18, .int x_19, .ref q_14, .ref q_15, .ref q_16, .ref q_17, .int x_20, .long g_21, .long g_22, .int x_23, .int x_24, .int x_25, .int x_26, .ref q_18, .ref q_19, .int x_27, .int x_28, .int x_29, .int x_30, .ref q_20, .ref q_21, .int x_31, .int x_32, .ref q_22, .ref q_23, .ref q_24, .ref q_25, .int x_33, .int x_34, .int x_35])), (q_1, .inl (k 0, 27101, .inl (upd (upd (upd (upd (upd (upd (upd (upd (upd (upd (upd (upd (fun _ => 0) 20 x_0) 21 0) 22 x_2) 23 x_3) 24 x_4) 25 (-1)) 26 (-1)) 27 (-1)) 28 (-1)) 29 (-1)) 30 (-1)) 31 (-1))))] H := hP
            have hD : va_D A [(q_0, .inr (12, [.int 0, .int x_6, .ref q_1, .ref q_2, .ref q_3, .int x_7, .ref q_4, .ref q_5, .ref q_6, .ref q_7, .ref q_8, .int x_8, .int x_9, .int x_10, .int x_11, .long g_12, .int x_13, .int x_14, .int x_15, .ref q_9, .int x_16, .ref q_10, .ref q_11, .int x_17, .ref q_12, .ref q_13, .int x_18, .int x_19, .ref q_14, .ref q_15, .ref q_16, .ref q_17, .int x_20, .long g_21, .long g_22, .int x_23, .int x_24, .int x_25, .int x_26, .ref q_18, .ref q_19, .int x_27, .int x_28, .int x_29, .int x_30, .ref q_20, .ref q_21, .int x_31, .int x_32, .ref q_22, .ref q_23, .ref q_24, .ref q_25, .int x_33, .int x_34, .int x_35])), (q_1, .inl (k 0, 27101, .inl (upd (upd (upd (upd (upd (upd (upd (upd (upd (upd (upd (upd (fun _ => 0) 20 x_0) 21 0) 22 x_2) 23 x_3) 24 x_4) 25 (-1)) 26 (-1)) 27 (-1)) 28 (-1)) 29 (-1)) 30 (-1)) 31 (-1))))] := hD
            refine lv_iinc (v := 12) (lv' := [(7, .int 12), (6, .int 20), (0, .ref q_0), (1, .int x_0), (2, .int x_1), (3, .int x_2), (4, .int x_3), (5, .int x_4)]) hx hb dX12_child_156 hl (k := 0) rfl (by decide) (by decide) rfl (fun ls hl => ?_)
            refine lv_goto (tgt := 127) hx hb dX12_child_159 (by decide) ?_
            refine lv_iload hx hb dX12_child_127 (lv_at hl 0 rfl) ?_
            refine lv_bipush (v := 17) hx hb dX12_child_129 (by decide) ?_
            refine lv_icmp_ge (tgt := 162) hx hb dX12_child_131 (by decide) (fun c35 => absurd c35 (by decide)) (fun _ => ?_)
            refine lv_aload_n hx hb dX12_child_134 rfl (lv_at hl 2 rfl) ?_
            refine va_get (D := D) (ci := 12) (v := .ref q_1) (C := RX12) (T := TX12) (N := 56) hx hb hts inX12 hown hK hP 0 rfl rfl 2 (by decide) (hts _ kF_X12_7) (fun _ h9 => h9) rfl dX12_child_135 ?_
            refine lv_iload hx hb dX12_child_138 (lv_at hl 1 rfl) ?_
            refine lv_iload hx hb dX12_child_140 (lv_at hl 0 rfl) ?_
            refine lv_iadd hx hb dX12_child_142 ?_
            refine lv_toc (v := 32) (by decide) ?_
            refine lv_iload hx hb dX12_child_143 (lv_at hl 0 rfl) ?_
            refine lv_bipush (v := 13) hx hb dX12_child_145 (by decide) ?_
            refine lv_icmp_ge (tgt := 154) hx hb dX12_child_147 (by decide) (fun c36 => absurd c36 (by decide)) (fun _ => ?_)
            refine lv_iconst (v := (-1)) hx hb dX12_child_150 (by decide) ?_
            refine lv_goto (tgt := 155) hx hb dX12_child_151 (by decide) ?_
            refine va_iast hx hb hK hP hD hS 1 0 rfl rfl (by unfold vp_in; decide) dX12_child_155 (fun H locs hP hD hS => ?_)
            have hP : va_P D vwCl [(q_0, .inr (12, [.int 0, .int x_6, .ref q_1, .ref q_2, .ref q_3, .int x_7, .ref q_4, .ref q_5, .ref q_6, .ref q_7, .ref q_8, .int x_8, .int x_9, .int x_10, .int x_11, .long g_12, .int x_13, .int x_14, .int x_15, .ref q_9, .int x_16, .ref q_10, .ref q_11, .int x_17, .ref q_12, .ref q_13, .int x_18, .int x_19, .ref q_14, .ref q_15, .ref q_16, .ref q_17, .int x_20, .long g_21, .long g_22, .int x_23, .int x_24, .int x_25, .int x_26, .ref q_18, .ref q_19, .int x_27, .int x_28, .int x_29, .int x_30, .ref q_20, .ref q_21, .int x_31, .int x_32, .ref q_22, .ref q_23, .ref q_24, .ref q_25, .int x_33, .int x_34, .int x_35])), (q_1, .inl (k 0, 27101, .inl (upd (upd (upd (upd (upd (upd (upd (upd (upd (upd (upd (upd (upd (fun _ => 0) 20 x_0) 21 0) 22 x_2) 23 x_3) 24 x_4) 25 (-1)) 26 (-1)) 27 (-1)) 28 (-1)) 29 (-1)) 30 (-1)) 31 (-1)) 32 (-1))))] H := hP
            have hD : va_D A [(q_0, .inr (12, [.int 0, .int x_6, .ref q_1, .ref q_2, .ref q_3, .int x_7, .ref q_4, .ref q_5, .ref q_6, .ref q_7, .ref q_8, .int x_8, .int x_9, .int x_10, .int x_11, .long g_12, .int x_13, .int x_14, .int x_15, .ref q_9, .int x_16, .ref q_10, .ref q_11, .int x_17, .ref q_12, .ref q_13, .int x_18, .int x_19, .ref q_14, .ref q_15, .ref q_16, .ref q_17, .int x_20, .long g_21, .long g_22, .int x_23, .int x_24, .int x_25, .int x_26, .ref q_18, .ref q_19, .int x_27, .int x_28, .int x_29, .int x_30, .ref q_20, .ref q_21, .int x_31, .int x_32, .ref q_22, .ref q_23, .ref q_24, .ref q_25, .int x_33, .int x_34, .int x_35])), (q_1, .inl (k 0, 27101, .inl (upd (upd (upd (upd (upd (upd (upd (upd (upd (upd (upd (upd (upd (fun _ => 0) 20 x_0) 21 0) 22 x_2) 23 x_3) 24 x_4) 25 (-1)) 26 (-1)) 27 (-1)) 28 (-1)) 29 (-1)) 30 (-1)) 31 (-1)) 32 (-1))))] := hD
            refine lv_iinc (v := 13) (lv' := [(7, .int 13), (6, .int 20), (0, .ref q_0), (1, .int x_0), (2, .int x_1), (3, .int x_2), (4, .int x_3), (5, .int x_4)]) hx hb dX12_child_156 hl (k := 0) rfl (by decide) (by decide) rfl (fun ls hl => ?_)
            refine lv_goto (tgt := 127) hx hb dX12_child_159 (by decide) ?_
            refine lv_iload hx hb dX12_child_127 (lv_at hl 0 rfl) ?_
            refine lv_bipush (v := 17) hx hb dX12_child_129 (by decide) ?_
            refine lv_icmp_ge (tgt := 162) hx hb dX12_child_131 (by decide) (fun c37 => absurd c37 (by decide)) (fun _ => ?_)
            refine lv_aload_n hx hb dX12_child_134 rfl (lv_at hl 2 rfl) ?_
            refine va_get (D := D) (ci := 12) (v := .ref q_1) (C := RX12) (T := TX12) (N := 56) hx hb hts inX12 hown hK hP 0 rfl rfl 2 (by decide) (hts _ kF_X12_7) (fun _ h9 => h9) rfl dX12_child_135 ?_
            refine lv_iload hx hb dX12_child_138 (lv_at hl 1 rfl) ?_
            refine lv_iload hx hb dX12_child_140 (lv_at hl 0 rfl) ?_
            refine lv_iadd hx hb dX12_child_142 ?_
            refine lv_toc (v := 33) (by decide) ?_
            refine lv_iload hx hb dX12_child_143 (lv_at hl 0 rfl) ?_
            refine lv_bipush (v := 13) hx hb dX12_child_145 (by decide) ?_
            refine lv_icmp_ge (tgt := 154) hx hb dX12_child_147 (by decide) (fun _ => ?_) (fun c38 => absurd (by decide) c38)
            refine lv_iconst (v := 0) hx hb dX12_child_154 (by decide) ?_
            refine va_iast hx hb hK hP hD hS 1 0 rfl rfl (by unfold vp_in; decide) dX12_child_155 (fun H locs hP hD hS => ?_)
            have hP : va_P D vwCl [(q_0, .inr (12, [.int 0, .int x_6, .ref q_1, .ref q_2, .ref q_3, .int x_7, .ref q_4, .ref q_5, .ref q_6, .ref q_7, .ref q_8, .int x_8, .int x_9, .int x_10, .int x_11, .long g_12, .int x_13, .int x_14, .int x_15, .ref q_9, .int x_16, .ref q_10, .ref q_11, .int x_17, .ref q_12, .ref q_13, .int x_18, .int x_19, .ref q_14, .ref q_15, .ref q_16, .ref q_17, .int x_20, .long g_21, .long g_22, .int x_23, .int x_24, .int x_25, .int x_26, .ref q_18, .ref q_19, .int x_27, .int x_28, .int x_29, .int x_30, .ref q_20, .ref q_21, .int x_31, .int x_32, .ref q_22, .ref q_23, .ref q_24, .ref q_25, .int x_33, .int x_34, .int x_35])), (q_1, .inl (k 0, 27101, .inl (upd (upd (upd (upd (upd (upd (upd (upd (upd (upd (upd (upd (upd (upd (fun _ => 0) 20 x_0) 21 0) 22 x_2) 23 x_3) 24 x_4) 25 (-1)) 26 (-1)) 27 (-1)) 28 (-1)) 29 (-1)) 30 (-1)) 31 (-1)) 32 (-1)) 33 0)))] H := hP
            have hD : va_D A [(q_0, .inr (12, [.int 0, .int x_6, .ref q_1, .ref q_2, .ref q_3, .int x_7, .ref q_4, .ref q_5, .ref q_6, .ref q_7, .ref q_8, .int x_8, .int x_9, .int x_10, .int x_11, .long g_12, .int x_13, .int x_14, .int x_15, .ref q_9, .int x_16, .ref q_10, .ref q_11, .int x_17, .ref q_12, .ref q_13, .int x_18, .int x_19, .ref q_14, .ref q_15, .ref q_16, .ref q_17, .int x_20, .long g_21, .long g_22, .int x_23, .int x_24, .int x_25, .int x_26, .ref q_18, .ref q_19, .int x_27, .int x_28, .int x_29, .int x_30, .ref q_20, .ref q_21, .int x_31, .int x_32, .ref q_22, .ref q_23, .ref q_24, .ref q_25, .int x_33, .int x_34, .int x_35])), (q_1, .inl (k 0, 27101, .inl (upd (upd (upd (upd (upd (upd (upd (upd (upd (upd (upd (upd (upd (upd (fun _ => 0) 20 x_0) 21 0) 22 x_2) 23 x_3) 24 x_4) 25 (-1)) 26 (-1)) 27 (-1)) 28 (-1)) 29 (-1)) 30 (-1)) 31 (-1)) 32 (-1)) 33 0)))] := hD
            refine lv_iinc (v := 14) (lv' := [(7, .int 14), (6, .int 20), (0, .ref q_0), (1, .int x_0), (2, .int x_1), (3, .int x_2), (4, .int x_3), (5, .int x_4)]) hx hb dX12_child_156 hl (k := 0) rfl (by decide) (by decide) rfl (fun ls hl => ?_)
            refine lv_goto (tgt := 127) hx hb dX12_child_159 (by decide) ?_
            refine lv_iload hx hb dX12_child_127 (lv_at hl 0 rfl) ?_
            refine lv_bipush (v := 17) hx hb dX12_child_129 (by decide) ?_
            refine lv_icmp_ge (tgt := 162) hx hb dX12_child_131 (by decide) (fun c39 => absurd c39 (by decide)) (fun _ => ?_)
            refine lv_aload_n hx hb dX12_child_134 rfl (lv_at hl 2 rfl) ?_
            refine va_get (D := D) (ci := 12) (v := .ref q_1) (C := RX12) (T := TX12) (N := 56) hx hb hts inX12 hown hK hP 0 rfl rfl 2 (by decide) (hts _ kF_X12_7) (fun _ h9 => h9) rfl dX12_child_135 ?_
            refine lv_iload hx hb dX12_child_138 (lv_at hl 1 rfl) ?_
            refine lv_iload hx hb dX12_child_140 (lv_at hl 0 rfl) ?_
            refine lv_iadd hx hb dX12_child_142 ?_
            refine lv_toc (v := 34) (by decide) ?_
            refine lv_iload hx hb dX12_child_143 (lv_at hl 0 rfl) ?_
            refine lv_bipush (v := 13) hx hb dX12_child_145 (by decide) ?_
            refine lv_icmp_ge (tgt := 154) hx hb dX12_child_147 (by decide) (fun _ => ?_) (fun c40 => absurd (by decide) c40)
            refine lv_iconst (v := 0) hx hb dX12_child_154 (by decide) ?_
            refine va_iast hx hb hK hP hD hS 1 0 rfl rfl (by unfold vp_in; decide) dX12_child_155 (fun H locs hP hD hS => ?_)
            have hP : va_P D vwCl [(q_0, .inr (12, [.int 0, .int x_6, .ref q_1, .ref q_2, .ref q_3, .int x_7, .ref q_4, .ref q_5, .ref q_6, .ref q_7, .ref q_8, .int x_8, .int x_9, .int x_10, .int x_11, .long g_12, .int x_13, .int x_14, .int x_15, .ref q_9, .int x_16, .ref q_10, .ref q_11, .int x_17, .ref q_12, .ref q_13, .int x_18, .int x_19, .ref q_14, .ref q_15, .ref q_16, .ref q_17, .int x_20, .long g_21, .long g_22, .int x_23, .int x_24, .int x_25, .int x_26, .ref q_18, .ref q_19, .int x_27, .int x_28, .int x_29, .int x_30, .ref q_20, .ref q_21, .int x_31, .int x_32, .ref q_22, .ref q_23, .ref q_24, .ref q_25, .int x_33, .int x_34, .int x_35])), (q_1, .inl (k 0, 27101, .inl (upd (upd (upd (upd (upd (upd (upd (upd (upd (upd (upd (upd (upd (upd (upd (fun _ => 0) 20 x_0) 21 0) 22 x_2) 23 x_3) 24 x_4) 25 (-1)) 26 (-1)) 27 (-1)) 28 (-1)) 29 (-1)) 30 (-1)) 31 (-1)) 32 (-1)) 33 0) 34 0)))] H := hP
            have hD : va_D A [(q_0, .inr (12, [.int 0, .int x_6, .ref q_1, .ref q_2, .ref q_3, .int x_7, .ref q_4, .ref q_5, .ref q_6, .ref q_7, .ref q_8, .int x_8, .int x_9, .int x_10, .int x_11, .long g_12, .int x_13, .int x_14, .int x_15, .ref q_9, .int x_16, .ref q_10, .ref q_11, .int x_17, .ref q_12, .ref q_13, .int x_18, .int x_19, .ref q_14, .ref q_15, .ref q_16, .ref q_17, .int x_20, .long g_21, .long g_22, .int x_23, .int x_24, .int x_25, .int x_26, .ref q_18, .ref q_19, .int x_27, .int x_28, .int x_29, .int x_30, .ref q_20, .ref q_21, .int x_31, .int x_32, .ref q_22, .ref q_23, .ref q_24, .ref q_25, .int x_33, .int x_34, .int x_35])), (q_1, .inl (k 0, 27101, .inl (upd (upd (upd (upd (upd (upd (upd (upd (upd (upd (upd (upd (upd (upd (upd (fun _ => 0) 20 x_0) 21 0) 22 x_2) 23 x_3) 24 x_4) 25 (-1)) 26 (-1)) 27 (-1)) 28 (-1)) 29 (-1)) 30 (-1)) 31 (-1)) 32 (-1)) 33 0) 34 0)))] := hD
            refine lv_iinc (v := 15) (lv' := [(7, .int 15), (6, .int 20), (0, .ref q_0), (1, .int x_0), (2, .int x_1), (3, .int x_2), (4, .int x_3), (5, .int x_4)]) hx hb dX12_child_156 hl (k := 0) rfl (by decide) (by decide) rfl (fun ls hl => ?_)
            refine lv_goto (tgt := 127) hx hb dX12_child_159 (by decide) ?_
            refine lv_iload hx hb dX12_child_127 (lv_at hl 0 rfl) ?_
            refine lv_bipush (v := 17) hx hb dX12_child_129 (by decide) ?_
            refine lv_icmp_ge (tgt := 162) hx hb dX12_child_131 (by decide) (fun c41 => absurd c41 (by decide)) (fun _ => ?_)
            refine lv_aload_n hx hb dX12_child_134 rfl (lv_at hl 2 rfl) ?_
            refine va_get (D := D) (ci := 12) (v := .ref q_1) (C := RX12) (T := TX12) (N := 56) hx hb hts inX12 hown hK hP 0 rfl rfl 2 (by decide) (hts _ kF_X12_7) (fun _ h9 => h9) rfl dX12_child_135 ?_
            refine lv_iload hx hb dX12_child_138 (lv_at hl 1 rfl) ?_
            refine lv_iload hx hb dX12_child_140 (lv_at hl 0 rfl) ?_
            refine lv_iadd hx hb dX12_child_142 ?_
            refine lv_toc (v := 35) (by decide) ?_
            refine lv_iload hx hb dX12_child_143 (lv_at hl 0 rfl) ?_
            refine lv_bipush (v := 13) hx hb dX12_child_145 (by decide) ?_
            refine lv_icmp_ge (tgt := 154) hx hb dX12_child_147 (by decide) (fun _ => ?_) (fun c42 => absurd (by decide) c42)
            refine lv_iconst (v := 0) hx hb dX12_child_154 (by decide) ?_
            refine va_iast hx hb hK hP hD hS 1 0 rfl rfl (by unfold vp_in; decide) dX12_child_155 (fun H locs hP hD hS => ?_)
            have hP : va_P D vwCl [(q_0, .inr (12, [.int 0, .int x_6, .ref q_1, .ref q_2, .ref q_3, .int x_7, .ref q_4, .ref q_5, .ref q_6, .ref q_7, .ref q_8, .int x_8, .int x_9, .int x_10, .int x_11, .long g_12, .int x_13, .int x_14, .int x_15, .ref q_9, .int x_16, .ref q_10, .ref q_11, .int x_17, .ref q_12, .ref q_13, .int x_18, .int x_19, .ref q_14, .ref q_15, .ref q_16, .ref q_17, .int x_20, .long g_21, .long g_22, .int x_23, .int x_24, .int x_25, .int x_26, .ref q_18, .ref q_19, .int x_27, .int x_28, .int x_29, .int x_30, .ref q_20, .ref q_21, .int x_31, .int x_32, .ref q_22, .ref q_23, .ref q_24, .ref q_25, .int x_33, .int x_34, .int x_35])), (q_1, .inl (k 0, 27101, .inl (upd (upd (upd (upd (upd (upd (upd (upd (upd (upd (upd (upd (upd (upd (upd (upd (fun _ => 0) 20 x_0) 21 0) 22 x_2) 23 x_3) 24 x_4) 25 (-1)) 26 (-1)) 27 (-1)) 28 (-1)) 29 (-1)) 30 (-1)) 31 (-1)) 32 (-1)) 33 0) 34 0) 35 0)))] H := hP
            have hD : va_D A [(q_0, .inr (12, [.int 0, .int x_6, .ref q_1, .ref q_2, .ref q_3, .int x_7, .ref q_4, .ref q_5, .ref q_6, .ref q_7, .ref q_8, .int x_8, .int x_9, .int x_10, .int x_11, .long g_12, .int x_13, .int x_14, .int x_15, .ref q_9, .int x_16, .ref q_10, .ref q_11, .int x_17, .ref q_12, .ref q_13, .int x_18, .int x_19, .ref q_14, .ref q_15, .ref q_16, .ref q_17, .int x_20, .long g_21, .long g_22, .int x_23, .int x_24, .int x_25, .int x_26, .ref q_18, .ref q_19, .int x_27, .int x_28, .int x_29, .int x_30, .ref q_20, .ref q_21, .int x_31, .int x_32, .ref q_22, .ref q_23, .ref q_24, .ref q_25, .int x_33, .int x_34, .int x_35])), (q_1, .inl (k 0, 27101, .inl (upd (upd (upd (upd (upd (upd (upd (upd (upd (upd (upd (upd (upd (upd (upd (upd (fun _ => 0) 20 x_0) 21 0) 22 x_2) 23 x_3) 24 x_4) 25 (-1)) 26 (-1)) 27 (-1)) 28 (-1)) 29 (-1)) 30 (-1)) 31 (-1)) 32 (-1)) 33 0) 34 0) 35 0)))] := hD
            refine lv_iinc (v := 16) (lv' := [(7, .int 16), (6, .int 20), (0, .ref q_0), (1, .int x_0), (2, .int x_1), (3, .int x_2), (4, .int x_3), (5, .int x_4)]) hx hb dX12_child_156 hl (k := 0) rfl (by decide) (by decide) rfl (fun ls hl => ?_)
            refine lv_goto (tgt := 127) hx hb dX12_child_159 (by decide) ?_
            refine lv_iload hx hb dX12_child_127 (lv_at hl 0 rfl) ?_
            refine lv_bipush (v := 17) hx hb dX12_child_129 (by decide) ?_
            refine lv_icmp_ge (tgt := 162) hx hb dX12_child_131 (by decide) (fun c43 => absurd c43 (by decide)) (fun _ => ?_)
            refine lv_aload_n hx hb dX12_child_134 rfl (lv_at hl 2 rfl) ?_
            refine va_get (D := D) (ci := 12) (v := .ref q_1) (C := RX12) (T := TX12) (N := 56) hx hb hts inX12 hown hK hP 0 rfl rfl 2 (by decide) (hts _ kF_X12_7) (fun _ h9 => h9) rfl dX12_child_135 ?_
            refine lv_iload hx hb dX12_child_138 (lv_at hl 1 rfl) ?_
            refine lv_iload hx hb dX12_child_140 (lv_at hl 0 rfl) ?_
            refine lv_iadd hx hb dX12_child_142 ?_
            refine lv_toc (v := 36) (by decide) ?_
            refine lv_iload hx hb dX12_child_143 (lv_at hl 0 rfl) ?_
            refine lv_bipush (v := 13) hx hb dX12_child_145 (by decide) ?_
            refine lv_icmp_ge (tgt := 154) hx hb dX12_child_147 (by decide) (fun _ => ?_) (fun c44 => absurd (by decide) c44)
            refine lv_iconst (v := 0) hx hb dX12_child_154 (by decide) ?_
            refine va_iast hx hb hK hP hD hS 1 0 rfl rfl (by unfold vp_in; decide) dX12_child_155 (fun H locs hP hD hS => ?_)
            have hP : va_P D vwCl [(q_0, .inr (12, [.int 0, .int x_6, .ref q_1, .ref q_2, .ref q_3, .int x_7, .ref q_4, .ref q_5, .ref q_6, .ref q_7, .ref q_8, .int x_8, .int x_9, .int x_10, .int x_11, .long g_12, .int x_13, .int x_14, .int x_15, .ref q_9, .int x_16, .ref q_10, .ref q_11, .int x_17, .ref q_12, .ref q_13, .int x_18, .int x_19, .ref q_14, .ref q_15, .ref q_16, .ref q_17, .int x_20, .long g_21, .long g_22, .int x_23, .int x_24, .int x_25, .int x_26, .ref q_18, .ref q_19, .int x_27, .int x_28, .int x_29, .int x_30, .ref q_20, .ref q_21, .int x_31, .int x_32, .ref q_22, .ref q_23, .ref q_24, .ref q_25, .int x_33, .int x_34, .int x_35])), (q_1, .inl (k 0, 27101, .inl (upd (upd (upd (upd (upd (upd (upd (upd (upd (upd (upd (upd (upd (upd (upd (upd (upd (fun _ => 0) 20 x_0) 21 0) 22 x_2) 23 x_3) 24 x_4) 25 (-1)) 26 (-1)) 27 (-1)) 28 (-1)) 29 (-1)) 30 (-1)) 31 (-1)) 32 (-1)) 33 0) 34 0) 35 0) 36 0)))] H := hP
            have hD : va_D A [(q_0, .inr (12, [.int 0, .int x_6, .ref q_1, .ref q_2, .ref q_3, .int x_7, .ref q_4, .ref q_5, .ref q_6, .ref q_7, .ref q_8, .int x_8, .int x_9, .int x_10, .int x_11, .long g_12, .int x_13, .int x_14, .int x_15, .ref q_9, .int x_16, .ref q_10, .ref q_11, .int x_17, .ref q_12, .ref q_13, .int x_18, .int x_19, .ref q_14, .ref q_15, .ref q_16, .ref q_17, .int x_20, .long g_21, .long g_22, .int x_23, .int x_24, .int x_25, .int x_26, .ref q_18, .ref q_19, .int x_27, .int x_28, .int x_29, .int x_30, .ref q_20, .ref q_21, .int x_31, .int x_32, .ref q_22, .ref q_23, .ref q_24, .ref q_25, .int x_33, .int x_34, .int x_35])), (q_1, .inl (k 0, 27101, .inl (upd (upd (upd (upd (upd (upd (upd (upd (upd (upd (upd (upd (upd (upd (upd (upd (upd (fun _ => 0) 20 x_0) 21 0) 22 x_2) 23 x_3) 24 x_4) 25 (-1)) 26 (-1)) 27 (-1)) 28 (-1)) 29 (-1)) 30 (-1)) 31 (-1)) 32 (-1)) 33 0) 34 0) 35 0) 36 0)))] := hD
            refine lv_iinc (v := 17) (lv' := [(7, .int 17), (6, .int 20), (0, .ref q_0), (1, .int x_0), (2, .int x_1), (3, .int x_2), (4, .int x_3), (5, .int x_4)]) hx hb dX12_child_156 hl (k := 0) rfl (by decide) (by decide) rfl (fun ls hl => ?_)
            refine lv_goto (tgt := 127) hx hb dX12_child_159 (by decide) ?_
            refine lv_iload hx hb dX12_child_127 (lv_at hl 0 rfl) ?_
            refine lv_bipush (v := 17) hx hb dX12_child_129 (by decide) ?_
            refine lv_icmp_ge (tgt := 162) hx hb dX12_child_131 (by decide) (fun _ => ?_) (fun c45 => absurd (by decide) c45)
            refine lv_aload_n hx hb dX12_child_162 rfl (lv_at hl 2 rfl) ?_
            refine va_get (D := D) (ci := 12) (v := .ref q_1) (C := RX12) (T := TX12) (N := 56) hx hb hts inX12 hown hK hP 0 rfl rfl 2 (by decide) (hts _ kF_X12_7) (fun _ h9 => h9) rfl dX12_child_163 ?_
            refine lv_iconst (v := 0) hx hb dX12_child_166 (by decide) ?_
            refine lv_dup2_11 hx hb dX12_child_167 rfl rfl ?_
            refine va_iald hx hb hK hP 1 0 rfl rfl (by unfold vp_in; decide) dX12_child_168 ?_
            refine lv_toc (v := 0) rfl ?_
            refine lv_iconst (v := 1) hx hb dX12_child_169 (by decide) ?_
            refine lv_iadd hx hb dX12_child_170 ?_
            refine lv_toc (v := 1) (by decide) ?_
            refine va_iast hx hb hK hP hD hS 1 0 rfl rfl (by unfold vp_in; decide) dX12_child_171 (fun H locs hP hD hS => ?_)
            have hP : va_P D vwCl [(q_0, .inr (12, [.int 0, .int x_6, .ref q_1, .ref q_2, .ref q_3, .int x_7, .ref q_4, .ref q_5, .ref q_6, .ref q_7, .ref q_8, .int x_8, .int x_9, .int x_10, .int x_11, .long g_12, .int x_13, .int x_14, .int x_15, .ref q_9, .int x_16, .ref q_10, .ref q_11, .int x_17, .ref q_12, .ref q_13, .int x_18, .int x_19, .ref q_14, .ref q_15, .ref q_16, .ref q_17, .int x_20, .long g_21, .long g_22, .int x_23, .int x_24, .int x_25, .int x_26, .ref q_18, .ref q_19, .int x_27, .int x_28, .int x_29, .int x_30, .ref q_20, .ref q_21, .int x_31, .int x_32, .ref q_22, .ref q_23, .ref q_24, .ref q_25, .int x_33, .int x_34, .int x_35])), (q_1, .inl (k 0, 27101, .inl (upd (upd (upd (upd (upd (upd (upd (upd (upd (upd (upd (upd (upd (upd (upd (upd (upd (upd (fun _ => 0) 20 x_0) 21 0) 22 x_2) 23 x_3) 24 x_4) 25 (-1)) 26 (-1)) 27 (-1)) 28 (-1)) 29 (-1)) 30 (-1)) 31 (-1)) 32 (-1)) 33 0) 34 0) 35 0) 36 0) 0 1)))] H := hP
            have hD : va_D A [(q_0, .inr (12, [.int 0, .int x_6, .ref q_1, .ref q_2, .ref q_3, .int x_7, .ref q_4, .ref q_5, .ref q_6, .ref q_7, .ref q_8, .int x_8, .int x_9, .int x_10, .int x_11, .long g_12, .int x_13, .int x_14, .int x_15, .ref q_9, .int x_16, .ref q_10, .ref q_11, .int x_17, .ref q_12, .ref q_13, .int x_18, .int x_19, .ref q_14, .ref q_15, .ref q_16, .ref q_17, .int x_20, .long g_21, .long g_22, .int x_23, .int x_24, .int x_25, .int x_26, .ref q_18, .ref q_19, .int x_27, .int x_28, .int x_29, .int x_30, .ref q_20, .ref q_21, .int x_31, .int x_32, .ref q_22, .ref q_23, .ref q_24, .ref q_25, .int x_33, .int x_34, .int x_35])), (q_1, .inl (k 0, 27101, .inl (upd (upd (upd (upd (upd (upd (upd (upd (upd (upd (upd (upd (upd (upd (upd (upd (upd (upd (fun _ => 0) 20 x_0) 21 0) 22 x_2) 23 x_3) 24 x_4) 25 (-1)) 26 (-1)) 27 (-1)) 28 (-1)) 29 (-1)) 30 (-1)) 31 (-1)) 32 (-1)) 33 0) 34 0) 35 0) 36 0) 0 1)))] := hD
            refine lv_aload_n hx hb dX12_child_172 rfl (lv_at hl 2 rfl) ?_
            refine lv_aload_n hx hb dX12_child_173 rfl (lv_at hl 2 rfl) ?_
            refine va_get (D := D) (ci := 12) (v := .ref q_1) (C := RX12) (T := TX12) (N := 56) hx hb hts inX12 hown hK hP 0 rfl rfl 2 (by decide) (hts _ kF_X12_7) (fun _ h9 => h9) rfl dX12_child_174 ?_
            refine lv_iconst (v := 0) hx hb dX12_child_177 (by decide) ?_
            refine va_iald hx hb hK hP 1 0 rfl rfl (by unfold vp_in; decide) dX12_child_178 ?_
            refine lv_toc (v := 1) rfl ?_
            refine lv_iconst (v := 1) hx hb dX12_child_179 (by decide) ?_
            refine lv_isub hx hb dX12_child_180 ?_
            refine lv_toc (v := 0) (by decide) ?_
            refine z_bi (wr := [(q_1, .inl (k 0, 27101, .inl (upd (upd (upd (upd (upd (upd (upd (upd (upd (upd (upd (upd (upd (upd (upd (upd (upd (upd (fun _ => 0) 20 x_0) 21 0) 22 x_2) 23 x_3) 24 x_4) 25 (-1)) 26 (-1)) 27 (-1)) 28 (-1)) 29 (-1)) 30 (-1)) 31 (-1)) 32 (-1)) 33 0) 34 0) 35 0) 36 0) 0 1)))]) (z_runV (C := RX12) (As := [.int 0]) (rest := []) C0 (c_X12_told_2 l D k q_0 q_1 q_2 q_3 q_4 q_5 q_6 q_7 q_8 q_9 q_10 q_11 q_12 q_13 q_14 q_15 q_16 q_17 q_18 q_19 q_20 q_21 q_22 q_23 q_24 q_25 0 x_6 x_7 x_8 x_9 x_10 x_11 g_12 x_13 x_14 x_15 x_16 x_17 x_18 x_19 x_20 g_21 g_22 x_23 x_24 x_25 x_26 x_27 x_28 x_29 x_30 x_31 x_32 x_33 x_34 x_35 _) okV_X12_told kM_X12_106 rfl (z_pV (q0 := 0) hK hN hP hD [0] rfl rfl rfl rfl rfl) rfl hl.1 rfl (Nat.le_of_ble_eq_true rfl) dX12_child_181 rfl) hP hD hS hA [0] [1] rfl rfl rfl rfl (fun r46 u46 H locs hw46 hP hD hS => ?_)
            obtain ⟨i46, a46⟩ := u46
            dsimp only at hw46
            obtain ⟨rfl, rfl⟩ := hw46
            have hP : va_P D vwCl [(q_1, .inl (k 0, 27101, .inl (upd (upd (upd (upd (upd (upd (upd (upd (upd (upd (upd (upd (upd (upd (upd (upd (upd (upd (fun _ => 0) 20 x_0) 21 0) 22 x_2) 23 x_3) 24 x_4) 25 (-1)) 26 (-1)) 27 (-1)) 28 (-1)) 29 (-1)) 30 (-1)) 31 (-1)) 32 (-1)) 33 0) 34 0) 35 0) 36 0) 0 1))), (q_0, .inr (12, [.int 0, .int 0, .ref q_1, .ref q_2, .ref q_3, .int x_7, .ref q_4, .ref q_5, .ref q_6, .ref q_7, .ref q_8, .int x_8, .int x_9, .int x_10, .int x_11, .long g_12, .int x_13, .int x_14, .int x_15, .ref q_9, .int x_16, .ref q_10, .ref q_11, .int x_17, .ref q_12, .ref q_13, .int x_18, .int x_19, .ref q_14, .ref q_15, .ref q_16, .ref q_17, .int x_20, .long g_21, .long g_22, .int x_23, .int x_24, .int x_25, .int x_26, .ref q_18, .ref q_19, .int x_27, .int x_28, .int x_29, .int x_30, .ref q_20, .ref q_21, .int x_31, .int x_32, .ref q_22, .ref q_23, .ref q_24, .ref q_25, .int x_33, .int x_34, .int x_35]))] H := hP
            have hD : va_D A [(q_1, .inl (k 0, 27101, .inl (upd (upd (upd (upd (upd (upd (upd (upd (upd (upd (upd (upd (upd (upd (upd (upd (upd (upd (fun _ => 0) 20 x_0) 21 0) 22 x_2) 23 x_3) 24 x_4) 25 (-1)) 26 (-1)) 27 (-1)) 28 (-1)) 29 (-1)) 30 (-1)) 31 (-1)) 32 (-1)) 33 0) 34 0) 35 0) 36 0) 0 1))), (q_0, .inr (12, [.int 0, .int 0, .ref q_1, .ref q_2, .ref q_3, .int x_7, .ref q_4, .ref q_5, .ref q_6, .ref q_7, .ref q_8, .int x_8, .int x_9, .int x_10, .int x_11, .long g_12, .int x_13, .int x_14, .int x_15, .ref q_9, .int x_16, .ref q_10, .ref q_11, .int x_17, .ref q_12, .ref q_13, .int x_18, .int x_19, .ref q_14, .ref q_15, .ref q_16, .ref q_17, .int x_20, .long g_21, .long g_22, .int x_23, .int x_24, .int x_25, .int x_26, .ref q_18, .ref q_19, .int x_27, .int x_28, .int x_29, .int x_30, .ref q_20, .ref q_21, .int x_31, .int x_32, .ref q_22, .ref q_23, .ref q_24, .ref q_25, .int x_33, .int x_34, .int x_35]))] := hD
            exact z_iret C0 hr hlk rfl hK hP hD hS (1, fun _ => 0) (Or.inr (⟨rfl, rfl, (Or.inl (⟨c1, c5, c9, c13, c19⟩))⟩)) [] rfl rfl rfl dX12_child_184
          · refine lv_iconst (v := 1) hx hb dX12_child_102 (by decide) ?_
            refine lv_goto (tgt := 107) hx hb dX12_child_103 (by decide) ?_
            refine lv_iload_n hx hb dX12_child_107 rfl (lv_at hl 4 rfl) ?_
            refine lv_iload hx hb dX12_child_108 (lv_at hl 5 rfl) ?_
            refine z_bv (wr := []) (z_runV (C := RX12) (As := [.int 20, .int x_0, .int 1, .int x_2, .int x_3]) (rest := []) C0 (c_X12_addFour_2 l D k q_0 q_1 q_2 q_3 q_4 q_5 q_6 q_7 q_8 q_9 q_10 q_11 q_12 q_13 q_14 q_15 q_16 q_17 q_18 q_19 q_20 q_21 q_22 q_23 q_24 q_25 x_0 x_2 x_3 0 x_6 x_7 x_8 x_9 x_10 x_11 g_12 x_13 x_14 x_15 x_16 x_17 x_18 x_19 x_20 g_21 g_22 x_23 x_24 x_25 x_26 x_27 x_28 x_29 x_30 x_31 x_32 x_33 x_34 x_35 (fun _ => 0) _) okV_X12_addFour kM_X12_123 rfl (z_pV (q0 := 0) hK hN hP hD [0, 1] rfl rfl rfl rfl rfl) rfl hl.1 rfl (Nat.le_of_ble_eq_true rfl) dX12_child_110 rfl) hP hD hS hA [0, 1] [] rfl rfl rfl rfl (fun u47 H locs hw47 hP hD hS => ?_)
            obtain ⟨i47, a47⟩ := u47
            dsimp only at hw47
            obtain rfl := hw47
            have hP : va_P D vwCl [(q_0, .inr (12, [.int 0, .int x_6, .ref q_1, .ref q_2, .ref q_3, .int x_7, .ref q_4, .ref q_5, .ref q_6, .ref q_7, .ref q_8, .int x_8, .int x_9, .int x_10, .int x_11, .long g_12, .int x_13, .int x_14, .int x_15, .ref q_9, .int x_16, .ref q_10, .ref q_11, .int x_17, .ref q_12, .ref q_13, .int x_18, .int x_19, .ref q_14, .ref q_15, .ref q_16, .ref q_17, .int x_20, .long g_21, .long g_22, .int x_23, .int x_24, .int x_25, .int x_26, .ref q_18, .ref q_19, .int x_27, .int x_28, .int x_29, .int x_30, .ref q_20, .ref q_21, .int x_31, .int x_32, .ref q_22, .ref q_23, .ref q_24, .ref q_25, .int x_33, .int x_34, .int x_35])), (q_1, .inl (k 0, 27101, .inl (upd (upd (upd (upd (fun _ => 0) 20 x_0) 21 1) 22 x_2) 23 x_3)))] H := hP
            have hD : va_D A [(q_0, .inr (12, [.int 0, .int x_6, .ref q_1, .ref q_2, .ref q_3, .int x_7, .ref q_4, .ref q_5, .ref q_6, .ref q_7, .ref q_8, .int x_8, .int x_9, .int x_10, .int x_11, .long g_12, .int x_13, .int x_14, .int x_15, .ref q_9, .int x_16, .ref q_10, .ref q_11, .int x_17, .ref q_12, .ref q_13, .int x_18, .int x_19, .ref q_14, .ref q_15, .ref q_16, .ref q_17, .int x_20, .long g_21, .long g_22, .int x_23, .int x_24, .int x_25, .int x_26, .ref q_18, .ref q_19, .int x_27, .int x_28, .int x_29, .int x_30, .ref q_20, .ref q_21, .int x_31, .int x_32, .ref q_22, .ref q_23, .ref q_24, .ref q_25, .int x_33, .int x_34, .int x_35])), (q_1, .inl (k 0, 27101, .inl (upd (upd (upd (upd (fun _ => 0) 20 x_0) 21 1) 22 x_2) 23 x_3)))] := hD
            refine lv_aload_n hx hb dX12_child_113 rfl (lv_at hl 1 rfl) ?_
            refine va_get (D := D) (ci := 12) (v := .ref q_1) (C := RX12) (T := TX12) (N := 56) hx hb hts inX12 hown hK hP 0 rfl rfl 2 (by decide) (hts _ kF_X12_7) (fun _ h9 => h9) rfl dX12_child_114 ?_
            refine lv_iload hx hb dX12_child_117 (lv_at hl 0 rfl) ?_
            refine lv_iconst (v := 4) hx hb dX12_child_119 (by decide) ?_
            refine lv_iadd hx hb dX12_child_120 ?_
            refine lv_toc (v := 24) (by decide) ?_
            refine lv_iload hx hb dX12_child_121 (lv_at hl 6 rfl) ?_
            refine va_iast hx hb hK hP hD hS 1 0 rfl rfl (by unfold vp_in; decide) dX12_child_123 (fun H locs hP hD hS => ?_)
            have hP : va_P D vwCl [(q_0, .inr (12, [.int 0, .int x_6, .ref q_1, .ref q_2, .ref q_3, .int x_7, .ref q_4, .ref q_5, .ref q_6, .ref q_7, .ref q_8, .int x_8, .int x_9, .int x_10, .int x_11, .long g_12, .int x_13, .int x_14, .int x_15, .ref q_9, .int x_16, .ref q_10, .ref q_11, .int x_17, .ref q_12, .ref q_13, .int x_18, .int x_19, .ref q_14, .ref q_15, .ref q_16, .ref q_17, .int x_20, .long g_21, .long g_22, .int x_23, .int x_24, .int x_25, .int x_26, .ref q_18, .ref q_19, .int x_27, .int x_28, .int x_29, .int x_30, .ref q_20, .ref q_21, .int x_31, .int x_32, .ref q_22, .ref q_23, .ref q_24, .ref q_25, .int x_33, .int x_34, .int x_35])), (q_1, .inl (k 0, 27101, .inl (upd (upd (upd (upd (upd (fun _ => 0) 20 x_0) 21 1) 22 x_2) 23 x_3) 24 x_4)))] H := hP
            have hD : va_D A [(q_0, .inr (12, [.int 0, .int x_6, .ref q_1, .ref q_2, .ref q_3, .int x_7, .ref q_4, .ref q_5, .ref q_6, .ref q_7, .ref q_8, .int x_8, .int x_9, .int x_10, .int x_11, .long g_12, .int x_13, .int x_14, .int x_15, .ref q_9, .int x_16, .ref q_10, .ref q_11, .int x_17, .ref q_12, .ref q_13, .int x_18, .int x_19, .ref q_14, .ref q_15, .ref q_16, .ref q_17, .int x_20, .long g_21, .long g_22, .int x_23, .int x_24, .int x_25, .int x_26, .ref q_18, .ref q_19, .int x_27, .int x_28, .int x_29, .int x_30, .ref q_20, .ref q_21, .int x_31, .int x_32, .ref q_22, .ref q_23, .ref q_24, .ref q_25, .int x_33, .int x_34, .int x_35])), (q_1, .inl (k 0, 27101, .inl (upd (upd (upd (upd (upd (fun _ => 0) 20 x_0) 21 1) 22 x_2) 23 x_3) 24 x_4)))] := hD
            refine lv_iconst (v := 5) hx hb dX12_child_124 (by decide) ?_
            refine lv_istore (lv' := [(7, .int 5), (6, .int 20), (0, .ref q_0), (1, .int x_0), (2, .int x_1), (3, .int x_2), (4, .int x_3), (5, .int x_4)]) hx hb dX12_child_125 hl (by decide) rfl (fun ls hl => ?_)
            refine lv_iload hx hb dX12_child_127 (lv_at hl 0 rfl) ?_
            refine lv_bipush (v := 17) hx hb dX12_child_129 (by decide) ?_
            refine lv_icmp_ge (tgt := 162) hx hb dX12_child_131 (by decide) (fun c48 => absurd c48 (by decide)) (fun _ => ?_)
            refine lv_aload_n hx hb dX12_child_134 rfl (lv_at hl 2 rfl) ?_
            refine va_get (D := D) (ci := 12) (v := .ref q_1) (C := RX12) (T := TX12) (N := 56) hx hb hts inX12 hown hK hP 0 rfl rfl 2 (by decide) (hts _ kF_X12_7) (fun _ h9 => h9) rfl dX12_child_135 ?_
            refine lv_iload hx hb dX12_child_138 (lv_at hl 1 rfl) ?_
            refine lv_iload hx hb dX12_child_140 (lv_at hl 0 rfl) ?_
            refine lv_iadd hx hb dX12_child_142 ?_
            refine lv_toc (v := 25) (by decide) ?_
            refine lv_iload hx hb dX12_child_143 (lv_at hl 0 rfl) ?_
            refine lv_bipush (v := 13) hx hb dX12_child_145 (by decide) ?_
            refine lv_icmp_ge (tgt := 154) hx hb dX12_child_147 (by decide) (fun c49 => absurd c49 (by decide)) (fun _ => ?_)
            refine lv_iconst (v := (-1)) hx hb dX12_child_150 (by decide) ?_
            refine lv_goto (tgt := 155) hx hb dX12_child_151 (by decide) ?_
            refine va_iast hx hb hK hP hD hS 1 0 rfl rfl (by unfold vp_in; decide) dX12_child_155 (fun H locs hP hD hS => ?_)
            have hP : va_P D vwCl [(q_0, .inr (12, [.int 0, .int x_6, .ref q_1, .ref q_2, .ref q_3, .int x_7, .ref q_4, .ref q_5, .ref q_6, .ref q_7, .ref q_8, .int x_8, .int x_9, .int x_10, .int x_11, .long g_12, .int x_13, .int x_14, .int x_15, .ref q_9, .int x_16, .ref q_10, .ref q_11, .int x_17, .ref q_12, .ref q_13, .int x_18, .int x_19, .ref q_14, .ref q_15, .ref q_16, .ref q_17, .int x_20, .long g_21, .long g_22, .int x_23, .int x_24, .int x_25, .int x_26, .ref q_18, .ref q_19, .int x_27, .int x_28, .int x_29, .int x_30, .ref q_20, .ref q_21, .int x_31, .int x_32, .ref q_22, .ref q_23, .ref q_24, .ref q_25, .int x_33, .int x_34, .int x_35])), (q_1, .inl (k 0, 27101, .inl (upd (upd (upd (upd (upd (upd (fun _ => 0) 20 x_0) 21 1) 22 x_2) 23 x_3) 24 x_4) 25 (-1))))] H := hP
            have hD : va_D A [(q_0, .inr (12, [.int 0, .int x_6, .ref q_1, .ref q_2, .ref q_3, .int x_7, .ref q_4, .ref q_5, .ref q_6, .ref q_7, .ref q_8, .int x_8, .int x_9, .int x_10, .int x_11, .long g_12, .int x_13, .int x_14, .int x_15, .ref q_9, .int x_16, .ref q_10, .ref q_11, .int x_17, .ref q_12, .ref q_13, .int x_18, .int x_19, .ref q_14, .ref q_15, .ref q_16, .ref q_17, .int x_20, .long g_21, .long g_22, .int x_23, .int x_24, .int x_25, .int x_26, .ref q_18, .ref q_19, .int x_27, .int x_28, .int x_29, .int x_30, .ref q_20, .ref q_21, .int x_31, .int x_32, .ref q_22, .ref q_23, .ref q_24, .ref q_25, .int x_33, .int x_34, .int x_35])), (q_1, .inl (k 0, 27101, .inl (upd (upd (upd (upd (upd (upd (fun _ => 0) 20 x_0) 21 1) 22 x_2) 23 x_3) 24 x_4) 25 (-1))))] := hD
            refine lv_iinc (v := 6) (lv' := [(7, .int 6), (6, .int 20), (0, .ref q_0), (1, .int x_0), (2, .int x_1), (3, .int x_2), (4, .int x_3), (5, .int x_4)]) hx hb dX12_child_156 hl (k := 0) rfl (by decide) (by decide) rfl (fun ls hl => ?_)
            refine lv_goto (tgt := 127) hx hb dX12_child_159 (by decide) ?_
            refine lv_iload hx hb dX12_child_127 (lv_at hl 0 rfl) ?_
            refine lv_bipush (v := 17) hx hb dX12_child_129 (by decide) ?_
            refine lv_icmp_ge (tgt := 162) hx hb dX12_child_131 (by decide) (fun c50 => absurd c50 (by decide)) (fun _ => ?_)
            refine lv_aload_n hx hb dX12_child_134 rfl (lv_at hl 2 rfl) ?_
            refine va_get (D := D) (ci := 12) (v := .ref q_1) (C := RX12) (T := TX12) (N := 56) hx hb hts inX12 hown hK hP 0 rfl rfl 2 (by decide) (hts _ kF_X12_7) (fun _ h9 => h9) rfl dX12_child_135 ?_
            refine lv_iload hx hb dX12_child_138 (lv_at hl 1 rfl) ?_
            refine lv_iload hx hb dX12_child_140 (lv_at hl 0 rfl) ?_
            refine lv_iadd hx hb dX12_child_142 ?_
            refine lv_toc (v := 26) (by decide) ?_
            refine lv_iload hx hb dX12_child_143 (lv_at hl 0 rfl) ?_
            refine lv_bipush (v := 13) hx hb dX12_child_145 (by decide) ?_
            refine lv_icmp_ge (tgt := 154) hx hb dX12_child_147 (by decide) (fun c51 => absurd c51 (by decide)) (fun _ => ?_)
            refine lv_iconst (v := (-1)) hx hb dX12_child_150 (by decide) ?_
            refine lv_goto (tgt := 155) hx hb dX12_child_151 (by decide) ?_
            refine va_iast hx hb hK hP hD hS 1 0 rfl rfl (by unfold vp_in; decide) dX12_child_155 (fun H locs hP hD hS => ?_)
            have hP : va_P D vwCl [(q_0, .inr (12, [.int 0, .int x_6, .ref q_1, .ref q_2, .ref q_3, .int x_7, .ref q_4, .ref q_5, .ref q_6, .ref q_7, .ref q_8, .int x_8, .int x_9, .int x_10, .int x_11, .long g_12, .int x_13, .int x_14, .int x_15, .ref q_9, .int x_16, .ref q_10, .ref q_11, .int x_17, .ref q_12, .ref q_13, .int x_18, .int x_19, .ref q_14, .ref q_15, .ref q_16, .ref q_17, .int x_20, .long g_21, .long g_22, .int x_23, .int x_24, .int x_25, .int x_26, .ref q_18, .ref q_19, .int x_27, .int x_28, .int x_29, .int x_30, .ref q_20, .ref q_21, .int x_31, .int x_32, .ref q_22, .ref q_23, .ref q_24, .ref q_25, .int x_33, .int x_34, .int x_35])), (q_1, .inl (k 0, 27101, .inl (upd (upd (upd (upd (upd (upd (upd (fun _ => 0) 20 x_0) 21 1) 22 x_2) 23 x_3) 24 x_4) 25 (-1)) 26 (-1))))] H := hP
            have hD : va_D A [(q_0, .inr (12, [.int 0, .int x_6, .ref q_1, .ref q_2, .ref q_3, .int x_7, .ref q_4, .ref q_5, .ref q_6, .ref q_7, .ref q_8, .int x_8, .int x_9, .int x_10, .int x_11, .long g_12, .int x_13, .int x_14, .int x_15, .ref q_9, .int x_16, .ref q_10, .ref q_11, .int x_17, .ref q_12, .ref q_13, .int x_18, .int x_19, .ref q_14, .ref q_15, .ref q_16, .ref q_17, .int x_20, .long g_21, .long g_22, .int x_23, .int x_24, .int x_25, .int x_26, .ref q_18, .ref q_19, .int x_27, .int x_28, .int x_29, .int x_30, .ref q_20, .ref q_21, .int x_31, .int x_32, .ref q_22, .ref q_23, .ref q_24, .ref q_25, .int x_33, .int x_34, .int x_35])), (q_1, .inl (k 0, 27101, .inl (upd (upd (upd (upd (upd (upd (upd (fun _ => 0) 20 x_0) 21 1) 22 x_2) 23 x_3) 24 x_4) 25 (-1)) 26 (-1))))] := hD
            refine lv_iinc (v := 7) (lv' := [(7, .int 7), (6, .int 20), (0, .ref q_0), (1, .int x_0), (2, .int x_1), (3, .int x_2), (4, .int x_3), (5, .int x_4)]) hx hb dX12_child_156 hl (k := 0) rfl (by decide) (by decide) rfl (fun ls hl => ?_)
            refine lv_goto (tgt := 127) hx hb dX12_child_159 (by decide) ?_
            refine lv_iload hx hb dX12_child_127 (lv_at hl 0 rfl) ?_
            refine lv_bipush (v := 17) hx hb dX12_child_129 (by decide) ?_
            refine lv_icmp_ge (tgt := 162) hx hb dX12_child_131 (by decide) (fun c52 => absurd c52 (by decide)) (fun _ => ?_)
            refine lv_aload_n hx hb dX12_child_134 rfl (lv_at hl 2 rfl) ?_
            refine va_get (D := D) (ci := 12) (v := .ref q_1) (C := RX12) (T := TX12) (N := 56) hx hb hts inX12 hown hK hP 0 rfl rfl 2 (by decide) (hts _ kF_X12_7) (fun _ h9 => h9) rfl dX12_child_135 ?_
            refine lv_iload hx hb dX12_child_138 (lv_at hl 1 rfl) ?_
            refine lv_iload hx hb dX12_child_140 (lv_at hl 0 rfl) ?_
            refine lv_iadd hx hb dX12_child_142 ?_
            refine lv_toc (v := 27) (by decide) ?_
            refine lv_iload hx hb dX12_child_143 (lv_at hl 0 rfl) ?_
            refine lv_bipush (v := 13) hx hb dX12_child_145 (by decide) ?_
            refine lv_icmp_ge (tgt := 154) hx hb dX12_child_147 (by decide) (fun c53 => absurd c53 (by decide)) (fun _ => ?_)
            refine lv_iconst (v := (-1)) hx hb dX12_child_150 (by decide) ?_
            refine lv_goto (tgt := 155) hx hb dX12_child_151 (by decide) ?_
            refine va_iast hx hb hK hP hD hS 1 0 rfl rfl (by unfold vp_in; decide) dX12_child_155 (fun H locs hP hD hS => ?_)
            have hP : va_P D vwCl [(q_0, .inr (12, [.int 0, .int x_6, .ref q_1, .ref q_2, .ref q_3, .int x_7, .ref q_4, .ref q_5, .ref q_6, .ref q_7, .ref q_8, .int x_8, .int x_9, .int x_10, .int x_11, .long g_12, .int x_13, .int x_14, .int x_15, .ref q_9, .int x_16, .ref q_10, .ref q_11, .int x_17, .ref q_12, .ref q_13, .int x_18, .int x_19, .ref q_14, .ref q_15, .ref q_16, .ref q_17, .int x_20, .long g_21, .long g_22, .int x_23, .int x_24, .int x_25, .int x_26, .ref q_18, .ref q_19, .int x_27, .int x_28, .int x_29, .int x_30, .ref q_20, .ref q_21, .int x_31, .int x_32, .ref q_22, .ref q_23, .ref q_24, .ref q_25, .int x_33, .int x_34, .int x_35])), (q_1, .inl (k 0, 27101, .inl (upd (upd (upd (upd (upd (upd (upd (upd (fun _ => 0) 20 x_0) 21 1) 22 x_2) 23 x_3) 24 x_4) 25 (-1)) 26 (-1)) 27 (-1))))] H := hP
            have hD : va_D A [(q_0, .inr (12, [.int 0, .int x_6, .ref q_1, .ref q_2, .ref q_3, .int x_7, .ref q_4, .ref q_5, .ref q_6, .ref q_7, .ref q_8, .int x_8, .int x_9, .int x_10, .int x_11, .long g_12, .int x_13, .int x_14, .int x_15, .ref q_9, .int x_16, .ref q_10, .ref q_11, .int x_17, .ref q_12, .ref q_13, .int x_18, .int x_19, .ref q_14, .ref q_15, .ref q_16, .ref q_17, .int x_20, .long g_21, .long g_22, .int x_23, .int x_24, .int x_25, .int x_26, .ref q_18, .ref q_19, .int x_27, .int x_28, .int x_29, .int x_30, .ref q_20, .ref q_21, .int x_31, .int x_32, .ref q_22, .ref q_23, .ref q_24, .ref q_25, .int x_33, .int x_34, .int x_35])), (q_1, .inl (k 0, 27101, .inl (upd (upd (upd (upd (upd (upd (upd (upd (fun _ => 0) 20 x_0) 21 1) 22 x_2) 23 x_3) 24 x_4) 25 (-1)) 26 (-1)) 27 (-1))))] := hD
            refine lv_iinc (v := 8) (lv' := [(7, .int 8), (6, .int 20), (0, .ref q_0), (1, .int x_0), (2, .int x_1), (3, .int x_2), (4, .int x_3), (5, .int x_4)]) hx hb dX12_child_156 hl (k := 0) rfl (by decide) (by decide) rfl (fun ls hl => ?_)
            refine lv_goto (tgt := 127) hx hb dX12_child_159 (by decide) ?_
            refine lv_iload hx hb dX12_child_127 (lv_at hl 0 rfl) ?_
            refine lv_bipush (v := 17) hx hb dX12_child_129 (by decide) ?_
            refine lv_icmp_ge (tgt := 162) hx hb dX12_child_131 (by decide) (fun c54 => absurd c54 (by decide)) (fun _ => ?_)
            refine lv_aload_n hx hb dX12_child_134 rfl (lv_at hl 2 rfl) ?_
            refine va_get (D := D) (ci := 12) (v := .ref q_1) (C := RX12) (T := TX12) (N := 56) hx hb hts inX12 hown hK hP 0 rfl rfl 2 (by decide) (hts _ kF_X12_7) (fun _ h9 => h9) rfl dX12_child_135 ?_
            refine lv_iload hx hb dX12_child_138 (lv_at hl 1 rfl) ?_
            refine lv_iload hx hb dX12_child_140 (lv_at hl 0 rfl) ?_
            refine lv_iadd hx hb dX12_child_142 ?_
            refine lv_toc (v := 28) (by decide) ?_
            refine lv_iload hx hb dX12_child_143 (lv_at hl 0 rfl) ?_
            refine lv_bipush (v := 13) hx hb dX12_child_145 (by decide) ?_
            refine lv_icmp_ge (tgt := 154) hx hb dX12_child_147 (by decide) (fun c55 => absurd c55 (by decide)) (fun _ => ?_)
            refine lv_iconst (v := (-1)) hx hb dX12_child_150 (by decide) ?_
            refine lv_goto (tgt := 155) hx hb dX12_child_151 (by decide) ?_
            refine va_iast hx hb hK hP hD hS 1 0 rfl rfl (by unfold vp_in; decide) dX12_child_155 (fun H locs hP hD hS => ?_)
            have hP : va_P D vwCl [(q_0, .inr (12, [.int 0, .int x_6, .ref q_1, .ref q_2, .ref q_3, .int x_7, .ref q_4, .ref q_5, .ref q_6, .ref q_7, .ref q_8, .int x_8, .int x_9, .int x_10, .int x_11, .long g_12, .int x_13, .int x_14, .int x_15, .ref q_9, .int x_16, .ref q_10, .ref q_11, .int x_17, .ref q_12, .ref q_13, .int x_18, .int x_19, .ref q_14, .ref q_15, .ref q_16, .ref q_17, .int x_20, .long g_21, .long g_22, .int x_23, .int x_24, .int x_25, .int x_26, .ref q_18, .ref q_19, .int x_27, .int x_28, .int x_29, .int x_30, .ref q_20, .ref q_21, .int x_31, .int x_32, .ref q_22, .ref q_23, .ref q_24, .ref q_25, .int x_33, .int x_34, .int x_35])), (q_1, .inl (k 0, 27101, .inl (upd (upd (upd (upd (upd (upd (upd (upd (upd (fun _ => 0) 20 x_0) 21 1) 22 x_2) 23 x_3) 24 x_4) 25 (-1)) 26 (-1)) 27 (-1)) 28 (-1))))] H := hP
            have hD : va_D A [(q_0, .inr (12, [.int 0, .int x_6, .ref q_1, .ref q_2, .ref q_3, .int x_7, .ref q_4, .ref q_5, .ref q_6, .ref q_7, .ref q_8, .int x_8, .int x_9, .int x_10, .int x_11, .long g_12, .int x_13, .int x_14, .int x_15, .ref q_9, .int x_16, .ref q_10, .ref q_11, .int x_17, .ref q_12, .ref q_13, .int x_18, .int x_19, .ref q_14, .ref q_15, .ref q_16, .ref q_17, .int x_20, .long g_21, .long g_22, .int x_23, .int x_24, .int x_25, .int x_26, .ref q_18, .ref q_19, .int x_27, .int x_28, .int x_29, .int x_30, .ref q_20, .ref q_21, .int x_31, .int x_32, .ref q_22, .ref q_23, .ref q_24, .ref q_25, .int x_33, .int x_34, .int x_35])), (q_1, .inl (k 0, 27101, .inl (upd (upd (upd (upd (upd (upd (upd (upd (upd (fun _ => 0) 20 x_0) 21 1) 22 x_2) 23 x_3) 24 x_4) 25 (-1)) 26 (-1)) 27 (-1)) 28 (-1))))] := hD
            refine lv_iinc (v := 9) (lv' := [(7, .int 9), (6, .int 20), (0, .ref q_0), (1, .int x_0), (2, .int x_1), (3, .int x_2), (4, .int x_3), (5, .int x_4)]) hx hb dX12_child_156 hl (k := 0) rfl (by decide) (by decide) rfl (fun ls hl => ?_)
            refine lv_goto (tgt := 127) hx hb dX12_child_159 (by decide) ?_
            refine lv_iload hx hb dX12_child_127 (lv_at hl 0 rfl) ?_
            refine lv_bipush (v := 17) hx hb dX12_child_129 (by decide) ?_
            refine lv_icmp_ge (tgt := 162) hx hb dX12_child_131 (by decide) (fun c56 => absurd c56 (by decide)) (fun _ => ?_)
            refine lv_aload_n hx hb dX12_child_134 rfl (lv_at hl 2 rfl) ?_
            refine va_get (D := D) (ci := 12) (v := .ref q_1) (C := RX12) (T := TX12) (N := 56) hx hb hts inX12 hown hK hP 0 rfl rfl 2 (by decide) (hts _ kF_X12_7) (fun _ h9 => h9) rfl dX12_child_135 ?_
            refine lv_iload hx hb dX12_child_138 (lv_at hl 1 rfl) ?_
            refine lv_iload hx hb dX12_child_140 (lv_at hl 0 rfl) ?_
            refine lv_iadd hx hb dX12_child_142 ?_
            refine lv_toc (v := 29) (by decide) ?_
            refine lv_iload hx hb dX12_child_143 (lv_at hl 0 rfl) ?_
            refine lv_bipush (v := 13) hx hb dX12_child_145 (by decide) ?_
            refine lv_icmp_ge (tgt := 154) hx hb dX12_child_147 (by decide) (fun c57 => absurd c57 (by decide)) (fun _ => ?_)
            refine lv_iconst (v := (-1)) hx hb dX12_child_150 (by decide) ?_
            refine lv_goto (tgt := 155) hx hb dX12_child_151 (by decide) ?_
            refine va_iast hx hb hK hP hD hS 1 0 rfl rfl (by unfold vp_in; decide) dX12_child_155 (fun H locs hP hD hS => ?_)
            have hP : va_P D vwCl [(q_0, .inr (12, [.int 0, .int x_6, .ref q_1, .ref q_2, .ref q_3, .int x_7, .ref q_4, .ref q_5, .ref q_6, .ref q_7, .ref q_8, .int x_8, .int x_9, .int x_10, .int x_11, .long g_12, .int x_13, .int x_14, .int x_15, .ref q_9, .int x_16, .ref q_10, .ref q_11, .int x_17, .ref q_12, .ref q_13, .int x_18, .int x_19, .ref q_14, .ref q_15, .ref q_16, .ref q_17, .int x_20, .long g_21, .long g_22, .int x_23, .int x_24, .int x_25, .int x_26, .ref q_18, .ref q_19, .int x_27, .int x_28, .int x_29, .int x_30, .ref q_20, .ref q_21, .int x_31, .int x_32, .ref q_22, .ref q_23, .ref q_24, .ref q_25, .int x_33, .int x_34, .int x_35])), (q_1, .inl (k 0, 27101, .inl (upd (upd (upd (upd (upd (upd (upd (upd (upd (upd (fun _ => 0) 20 x_0) 21 1) 22 x_2) 23 x_3) 24 x_4) 25 (-1)) 26 (-1)) 27 (-1)) 28 (-1)) 29 (-1))))] H := hP
            have hD : va_D A [(q_0, .inr (12, [.int 0, .int x_6, .ref q_1, .ref q_2, .ref q_3, .int x_7, .ref q_4, .ref q_5, .ref q_6, .ref q_7, .ref q_8, .int x_8, .int x_9, .int x_10, .int x_11, .long g_12, .int x_13, .int x_14, .int x_15, .ref q_9, .int x_16, .ref q_10, .ref q_11, .int x_17, .ref q_12, .ref q_13, .int x_18, .int x_19, .ref q_14, .ref q_15, .ref q_16, .ref q_17, .int x_20, .long g_21, .long g_22, .int x_23, .int x_24, .int x_25, .int x_26, .ref q_18, .ref q_19, .int x_27, .int x_28, .int x_29, .int x_30, .ref q_20, .ref q_21, .int x_31, .int x_32, .ref q_22, .ref q_23, .ref q_24, .ref q_25, .int x_33, .int x_34, .int x_35])), (q_1, .inl (k 0, 27101, .inl (upd (upd (upd (upd (upd (upd (upd (upd (upd (upd (fun _ => 0) 20 x_0) 21 1) 22 x_2) 23 x_3) 24 x_4) 25 (-1)) 26 (-1)) 27 (-1)) 28 (-1)) 29 (-1))))] := hD
            refine lv_iinc (v := 10) (lv' := [(7, .int 10), (6, .int 20), (0, .ref q_0), (1, .int x_0), (2, .int x_1), (3, .int x_2), (4, .int x_3), (5, .int x_4)]) hx hb dX12_child_156 hl (k := 0) rfl (by decide) (by decide) rfl (fun ls hl => ?_)
            refine lv_goto (tgt := 127) hx hb dX12_child_159 (by decide) ?_
            refine lv_iload hx hb dX12_child_127 (lv_at hl 0 rfl) ?_
            refine lv_bipush (v := 17) hx hb dX12_child_129 (by decide) ?_
            refine lv_icmp_ge (tgt := 162) hx hb dX12_child_131 (by decide) (fun c58 => absurd c58 (by decide)) (fun _ => ?_)
            refine lv_aload_n hx hb dX12_child_134 rfl (lv_at hl 2 rfl) ?_
            refine va_get (D := D) (ci := 12) (v := .ref q_1) (C := RX12) (T := TX12) (N := 56) hx hb hts inX12 hown hK hP 0 rfl rfl 2 (by decide) (hts _ kF_X12_7) (fun _ h9 => h9) rfl dX12_child_135 ?_
            refine lv_iload hx hb dX12_child_138 (lv_at hl 1 rfl) ?_
            refine lv_iload hx hb dX12_child_140 (lv_at hl 0 rfl) ?_
            refine lv_iadd hx hb dX12_child_142 ?_
            refine lv_toc (v := 30) (by decide) ?_
            refine lv_iload hx hb dX12_child_143 (lv_at hl 0 rfl) ?_
            refine lv_bipush (v := 13) hx hb dX12_child_145 (by decide) ?_
            refine lv_icmp_ge (tgt := 154) hx hb dX12_child_147 (by decide) (fun c59 => absurd c59 (by decide)) (fun _ => ?_)
            refine lv_iconst (v := (-1)) hx hb dX12_child_150 (by decide) ?_
            refine lv_goto (tgt := 155) hx hb dX12_child_151 (by decide) ?_
            refine va_iast hx hb hK hP hD hS 1 0 rfl rfl (by unfold vp_in; decide) dX12_child_155 (fun H locs hP hD hS => ?_)
            have hP : va_P D vwCl [(q_0, .inr (12, [.int 0, .int x_6, .ref q_1, .ref q_2, .ref q_3, .int x_7, .ref q_4, .ref q_5, .ref q_6, .ref q_7, .ref q_8, .int x_8, .int x_9, .int x_10, .int x_11, .long g_12, .int x_13, .int x_14, .int x_15, .ref q_9, .int x_16, .ref q_10, .ref q_11, .int x_17, .ref q_12, .ref q_13, .int x_18, .int x_19, .ref q_14, .ref q_15, .ref q_16, .ref q_17, .int x_20, .long g_21, .long g_22, .int x_23, .int x_24, .int x_25, .int x_26, .ref q_18, .ref q_19, .int x_27, .int x_28, .int x_29, .int x_30, .ref q_20, .ref q_21, .int x_31, .int x_32, .ref q_22, .ref q_23, .ref q_24, .ref q_25, .int x_33, .int x_34, .int x_35])), (q_1, .inl (k 0, 27101, .inl (upd (upd (upd (upd (upd (upd (upd (upd (upd (upd (upd (fun _ => 0) 20 x_0) 21 1) 22 x_2) 23 x_3) 24 x_4) 25 (-1)) 26 (-1)) 27 (-1)) 28 (-1)) 29 (-1)) 30 (-1))))] H := hP
            have hD : va_D A [(q_0, .inr (12, [.int 0, .int x_6, .ref q_1, .ref q_2, .ref q_3, .int x_7, .ref q_4, .ref q_5, .ref q_6, .ref q_7, .ref q_8, .int x_8, .int x_9, .int x_10, .int x_11, .long g_12, .int x_13, .int x_14, .int x_15, .ref q_9, .int x_16, .ref q_10, .ref q_11, .int x_17, .ref q_12, .ref q_13, .int x_18, .int x_19, .ref q_14, .ref q_15, .ref q_16, .ref q_17, .int x_20, .long g_21, .long g_22, .int x_23, .int x_24, .int x_25, .int x_26, .ref q_18, .ref q_19, .int x_27, .int x_28, .int x_29, .int x_30, .ref q_20, .ref q_21, .int x_31, .int x_32, .ref q_22, .ref q_23, .ref q_24, .ref q_25, .int x_33, .int x_34, .int x_35])), (q_1, .inl (k 0, 27101, .inl (upd (upd (upd (upd (upd (upd (upd (upd (upd (upd (upd (fun _ => 0) 20 x_0) 21 1) 22 x_2) 23 x_3) 24 x_4) 25 (-1)) 26 (-1)) 27 (-1)) 28 (-1)) 29 (-1)) 30 (-1))))] := hD
            refine lv_iinc (v := 11) (lv' := [(7, .int 11), (6, .int 20), (0, .ref q_0), (1, .int x_0), (2, .int x_1), (3, .int x_2), (4, .int x_3), (5, .int x_4)]) hx hb dX12_child_156 hl (k := 0) rfl (by decide) (by decide) rfl (fun ls hl => ?_)
            refine lv_goto (tgt := 127) hx hb dX12_child_159 (by decide) ?_
            refine lv_iload hx hb dX12_child_127 (lv_at hl 0 rfl) ?_
            refine lv_bipush (v := 17) hx hb dX12_child_129 (by decide) ?_
            refine lv_icmp_ge (tgt := 162) hx hb dX12_child_131 (by decide) (fun c60 => absurd c60 (by decide)) (fun _ => ?_)
            refine lv_aload_n hx hb dX12_child_134 rfl (lv_at hl 2 rfl) ?_
            refine va_get (D := D) (ci := 12) (v := .ref q_1) (C := RX12) (T := TX12) (N := 56) hx hb hts inX12 hown hK hP 0 rfl rfl 2 (by decide) (hts _ kF_X12_7) (fun _ h9 => h9) rfl dX12_child_135 ?_
            refine lv_iload hx hb dX12_child_138 (lv_at hl 1 rfl) ?_
            refine lv_iload hx hb dX12_child_140 (lv_at hl 0 rfl) ?_
            refine lv_iadd hx hb dX12_child_142 ?_
            refine lv_toc (v := 31) (by decide) ?_
            refine lv_iload hx hb dX12_child_143 (lv_at hl 0 rfl) ?_
            refine lv_bipush (v := 13) hx hb dX12_child_145 (by decide) ?_
            refine lv_icmp_ge (tgt := 154) hx hb dX12_child_147 (by decide) (fun c61 => absurd c61 (by decide)) (fun _ => ?_)
            refine lv_iconst (v := (-1)) hx hb dX12_child_150 (by decide) ?_
            refine lv_goto (tgt := 155) hx hb dX12_child_151 (by decide) ?_
            refine va_iast hx hb hK hP hD hS 1 0 rfl rfl (by unfold vp_in; decide) dX12_child_155 (fun H locs hP hD hS => ?_)
            have hP : va_P D vwCl [(q_0, .inr (12, [.int 0, .int x_6, .ref q_1, .ref q_2, .ref q_3, .int x_7, .ref q_4, .ref q_5, .ref q_6, .ref q_7, .ref q_8, .int x_8, .int x_9, .int x_10, .int x_11, .long g_12, .int x_13, .int x_14, .int x_15, .ref q_9, .int x_16, .ref q_10, .ref q_11, .int x_17, .ref q_12, .ref q_13, .int x_18, .int x_19, .ref q_14, .ref q_15, .ref q_16, .ref q_17, .int x_20, .long g_21, .long g_22, .int x_23, .int x_24, .int x_25, .int x_26, .ref q_18, .ref q_19, .int x_27, .int x_28, .int x_29, .int x_30, .ref q_20, .ref q_21, .int x_31, .int x_32, .ref q_22, .ref q_23, .ref q_24, .ref q_25, .int x_33, .int x_34, .int x_35])), (q_1, .inl (k 0, 27101, .inl (upd (upd (upd (upd (upd (upd (upd (upd (upd (upd (upd (upd (fun _ => 0) 20 x_0) 21 1) 22 x_2) 23 x_3) 24 x_4) 25 (-1)) 26 (-1)) 27 (-1)) 28 (-1)) 29 (-1)) 30 (-1)) 31 (-1))))] H := hP
            have hD : va_D A [(q_0, .inr (12, [.int 0, .int x_6, .ref q_1, .ref q_2, .ref q_3, .int x_7, .ref q_4, .ref q_5, .ref q_6, .ref q_7, .ref q_8, .int x_8, .int x_9, .int x_10, .int x_11, .long g_12, .int x_13, .int x_14, .int x_15, .ref q_9, .int x_16, .ref q_10, .ref q_11, .int x_17, .ref q_12, .ref q_13, .int x_18, .int x_19, .ref q_14, .ref q_15, .ref q_16, .ref q_17, .int x_20, .long g_21, .long g_22, .int x_23, .int x_24, .int x_25, .int x_26, .ref q_18, .ref q_19, .int x_27, .int x_28, .int x_29, .int x_30, .ref q_20, .ref q_21, .int x_31, .int x_32, .ref q_22, .ref q_23, .ref q_24, .ref q_25, .int x_33, .int x_34, .int x_35])), (q_1, .inl (k 0, 27101, .inl (upd (upd (upd (upd (upd (upd (upd (upd (upd (upd (upd (upd (fun _ => 0) 20 x_0) 21 1) 22 x_2) 23 x_3) 24 x_4) 25 (-1)) 26 (-1)) 27 (-1)) 28 (-1)) 29 (-1)) 30 (-1)) 31 (-1))))] := hD
            refine lv_iinc (v := 12) (lv' := [(7, .int 12), (6, .int 20), (0, .ref q_0), (1, .int x_0), (2, .int x_1), (3, .int x_2), (4, .int x_3), (5, .int x_4)]) hx hb dX12_child_156 hl (k := 0) rfl (by decide) (by decide) rfl (fun ls hl => ?_)
            refine lv_goto (tgt := 127) hx hb dX12_child_159 (by decide) ?_
            refine lv_iload hx hb dX12_child_127 (lv_at hl 0 rfl) ?_
            refine lv_bipush (v := 17) hx hb dX12_child_129 (by decide) ?_
            refine lv_icmp_ge (tgt := 162) hx hb dX12_child_131 (by decide) (fun c62 => absurd c62 (by decide)) (fun _ => ?_)
            refine lv_aload_n hx hb dX12_child_134 rfl (lv_at hl 2 rfl) ?_
            refine va_get (D := D) (ci := 12) (v := .ref q_1) (C := RX12) (T := TX12) (N := 56) hx hb hts inX12 hown hK hP 0 rfl rfl 2 (by decide) (hts _ kF_X12_7) (fun _ h9 => h9) rfl dX12_child_135 ?_
            refine lv_iload hx hb dX12_child_138 (lv_at hl 1 rfl) ?_
            refine lv_iload hx hb dX12_child_140 (lv_at hl 0 rfl) ?_
            refine lv_iadd hx hb dX12_child_142 ?_
            refine lv_toc (v := 32) (by decide) ?_
            refine lv_iload hx hb dX12_child_143 (lv_at hl 0 rfl) ?_
            refine lv_bipush (v := 13) hx hb dX12_child_145 (by decide) ?_
            refine lv_icmp_ge (tgt := 154) hx hb dX12_child_147 (by decide) (fun c63 => absurd c63 (by decide)) (fun _ => ?_)
            refine lv_iconst (v := (-1)) hx hb dX12_child_150 (by decide) ?_
            refine lv_goto (tgt := 155) hx hb dX12_child_151 (by decide) ?_
            refine va_iast hx hb hK hP hD hS 1 0 rfl rfl (by unfold vp_in; decide) dX12_child_155 (fun H locs hP hD hS => ?_)
            have hP : va_P D vwCl [(q_0, .inr (12, [.int 0, .int x_6, .ref q_1, .ref q_2, .ref q_3, .int x_7, .ref q_4, .ref q_5, .ref q_6, .ref q_7, .ref q_8, .int x_8, .int x_9, .int x_10, .int x_11, .long g_12, .int x_13, .int x_14, .int x_15, .ref q_9, .int x_16, .ref q_10, .ref q_11, .int x_17, .ref q_12, .ref q_13, .int x_18, .int x_19, .ref q_14, .ref q_15, .ref q_16, .ref q_17, .int x_20, .long g_21, .long g_22, .int x_23, .int x_24, .int x_25, .int x_26, .ref q_18, .ref q_19, .int x_27, .int x_28, .int x_29, .int x_30, .ref q_20, .ref q_21, .int x_31, .int x_32, .ref q_22, .ref q_23, .ref q_24, .ref q_25, .int x_33, .int x_34, .int x_35])), (q_1, .inl (k 0, 27101, .inl (upd (upd (upd (upd (upd (upd (upd (upd (upd (upd (upd (upd (upd (fun _ => 0) 20 x_0) 21 1) 22 x_2) 23 x_3) 24 x_4) 25 (-1)) 26 (-1)) 27 (-1)) 28 (-1)) 29 (-1)) 30 (-1)) 31 (-1)) 32 (-1))))] H := hP
            have hD : va_D A [(q_0, .inr (12, [.int 0, .int x_6, .ref q_1, .ref q_2, .ref q_3, .int x_7, .ref q_4, .ref q_5, .ref q_6, .ref q_7, .ref q_8, .int x_8, .int x_9, .int x_10, .int x_11, .long g_12, .int x_13, .int x_14, .int x_15, .ref q_9, .int x_16, .ref q_10, .ref q_11, .int x_17, .ref q_12, .ref q_13, .int x_18, .int x_19, .ref q_14, .ref q_15, .ref q_16, .ref q_17, .int x_20, .long g_21, .long g_22, .int x_23, .int x_24, .int x_25, .int x_26, .ref q_18, .ref q_19, .int x_27, .int x_28, .int x_29, .int x_30, .ref q_20, .ref q_21, .int x_31, .int x_32, .ref q_22, .ref q_23, .ref q_24, .ref q_25, .int x_33, .int x_34, .int x_35])), (q_1, .inl (k 0, 27101, .inl (upd (upd (upd (upd (upd (upd (upd (upd (upd (upd (upd (upd (upd (fun _ => 0) 20 x_0) 21 1) 22 x_2) 23 x_3) 24 x_4) 25 (-1)) 26 (-1)) 27 (-1)) 28 (-1)) 29 (-1)) 30 (-1)) 31 (-1)) 32 (-1))))] := hD
            refine lv_iinc (v := 13) (lv' := [(7, .int 13), (6, .int 20), (0, .ref q_0), (1, .int x_0), (2, .int x_1), (3, .int x_2), (4, .int x_3), (5, .int x_4)]) hx hb dX12_child_156 hl (k := 0) rfl (by decide) (by decide) rfl (fun ls hl => ?_)
            refine lv_goto (tgt := 127) hx hb dX12_child_159 (by decide) ?_
            refine lv_iload hx hb dX12_child_127 (lv_at hl 0 rfl) ?_
            refine lv_bipush (v := 17) hx hb dX12_child_129 (by decide) ?_
            refine lv_icmp_ge (tgt := 162) hx hb dX12_child_131 (by decide) (fun c64 => absurd c64 (by decide)) (fun _ => ?_)
            refine lv_aload_n hx hb dX12_child_134 rfl (lv_at hl 2 rfl) ?_
            refine va_get (D := D) (ci := 12) (v := .ref q_1) (C := RX12) (T := TX12) (N := 56) hx hb hts inX12 hown hK hP 0 rfl rfl 2 (by decide) (hts _ kF_X12_7) (fun _ h9 => h9) rfl dX12_child_135 ?_
            refine lv_iload hx hb dX12_child_138 (lv_at hl 1 rfl) ?_
            refine lv_iload hx hb dX12_child_140 (lv_at hl 0 rfl) ?_
            refine lv_iadd hx hb dX12_child_142 ?_
            refine lv_toc (v := 33) (by decide) ?_
            refine lv_iload hx hb dX12_child_143 (lv_at hl 0 rfl) ?_
            refine lv_bipush (v := 13) hx hb dX12_child_145 (by decide) ?_
            refine lv_icmp_ge (tgt := 154) hx hb dX12_child_147 (by decide) (fun _ => ?_) (fun c65 => absurd (by decide) c65)
            refine lv_iconst (v := 0) hx hb dX12_child_154 (by decide) ?_
            refine va_iast hx hb hK hP hD hS 1 0 rfl rfl (by unfold vp_in; decide) dX12_child_155 (fun H locs hP hD hS => ?_)
            have hP : va_P D vwCl [(q_0, .inr (12, [.int 0, .int x_6, .ref q_1, .ref q_2, .ref q_3, .int x_7, .ref q_4, .ref q_5, .ref q_6, .ref q_7, .ref q_8, .int x_8, .int x_9, .int x_10, .int x_11, .long g_12, .int x_13, .int x_14, .int x_15, .ref q_9, .int x_16, .ref q_10, .ref q_11, .int x_17, .ref q_12, .ref q_13, .int x_18, .int x_19, .ref q_14, .ref q_15, .ref q_16, .ref q_17, .int x_20, .long g_21, .long g_22, .int x_23, .int x_24, .int x_25, .int x_26, .ref q_18, .ref q_19, .int x_27, .int x_28, .int x_29, .int x_30, .ref q_20, .ref q_21, .int x_31, .int x_32, .ref q_22, .ref q_23, .ref q_24, .ref q_25, .int x_33, .int x_34, .int x_35])), (q_1, .inl (k 0, 27101, .inl (upd (upd (upd (upd (upd (upd (upd (upd (upd (upd (upd (upd (upd (upd (fun _ => 0) 20 x_0) 21 1) 22 x_2) 23 x_3) 24 x_4) 25 (-1)) 26 (-1)) 27 (-1)) 28 (-1)) 29 (-1)) 30 (-1)) 31 (-1)) 32 (-1)) 33 0)))] H := hP
            have hD : va_D A [(q_0, .inr (12, [.int 0, .int x_6, .ref q_1, .ref q_2, .ref q_3, .int x_7, .ref q_4, .ref q_5, .ref q_6, .ref q_7, .ref q_8, .int x_8, .int x_9, .int x_10, .int x_11, .long g_12, .int x_13, .int x_14, .int x_15, .ref q_9, .int x_16, .ref q_10, .ref q_11, .int x_17, .ref q_12, .ref q_13, .int x_18, .int x_19, .ref q_14, .ref q_15, .ref q_16, .ref q_17, .int x_20, .long g_21, .long g_22, .int x_23, .int x_24, .int x_25, .int x_26, .ref q_18, .ref q_19, .int x_27, .int x_28, .int x_29, .int x_30, .ref q_20, .ref q_21, .int x_31, .int x_32, .ref q_22, .ref q_23, .ref q_24, .ref q_25, .int x_33, .int x_34, .int x_35])), (q_1, .inl (k 0, 27101, .inl (upd (upd (upd (upd (upd (upd (upd (upd (upd (upd (upd (upd (upd (upd (fun _ => 0) 20 x_0) 21 1) 22 x_2) 23 x_3) 24 x_4) 25 (-1)) 26 (-1)) 27 (-1)) 28 (-1)) 29 (-1)) 30 (-1)) 31 (-1)) 32 (-1)) 33 0)))] := hD
            refine lv_iinc (v := 14) (lv' := [(7, .int 14), (6, .int 20), (0, .ref q_0), (1, .int x_0), (2, .int x_1), (3, .int x_2), (4, .int x_3), (5, .int x_4)]) hx hb dX12_child_156 hl (k := 0) rfl (by decide) (by decide) rfl (fun ls hl => ?_)
            refine lv_goto (tgt := 127) hx hb dX12_child_159 (by decide) ?_
            refine lv_iload hx hb dX12_child_127 (lv_at hl 0 rfl) ?_
            refine lv_bipush (v := 17) hx hb dX12_child_129 (by decide) ?_
            refine lv_icmp_ge (tgt := 162) hx hb dX12_child_131 (by decide) (fun c66 => absurd c66 (by decide)) (fun _ => ?_)
            refine lv_aload_n hx hb dX12_child_134 rfl (lv_at hl 2 rfl) ?_
            refine va_get (D := D) (ci := 12) (v := .ref q_1) (C := RX12) (T := TX12) (N := 56) hx hb hts inX12 hown hK hP 0 rfl rfl 2 (by decide) (hts _ kF_X12_7) (fun _ h9 => h9) rfl dX12_child_135 ?_
            refine lv_iload hx hb dX12_child_138 (lv_at hl 1 rfl) ?_
            refine lv_iload hx hb dX12_child_140 (lv_at hl 0 rfl) ?_
            refine lv_iadd hx hb dX12_child_142 ?_
            refine lv_toc (v := 34) (by decide) ?_
            refine lv_iload hx hb dX12_child_143 (lv_at hl 0 rfl) ?_
            refine lv_bipush (v := 13) hx hb dX12_child_145 (by decide) ?_
            refine lv_icmp_ge (tgt := 154) hx hb dX12_child_147 (by decide) (fun _ => ?_) (fun c67 => absurd (by decide) c67)
            refine lv_iconst (v := 0) hx hb dX12_child_154 (by decide) ?_
            refine va_iast hx hb hK hP hD hS 1 0 rfl rfl (by unfold vp_in; decide) dX12_child_155 (fun H locs hP hD hS => ?_)
            have hP : va_P D vwCl [(q_0, .inr (12, [.int 0, .int x_6, .ref q_1, .ref q_2, .ref q_3, .int x_7, .ref q_4, .ref q_5, .ref q_6, .ref q_7, .ref q_8, .int x_8, .int x_9, .int x_10, .int x_11, .long g_12, .int x_13, .int x_14, .int x_15, .ref q_9, .int x_16, .ref q_10, .ref q_11, .int x_17, .ref q_12, .ref q_13, .int x_18, .int x_19, .ref q_14, .ref q_15, .ref q_16, .ref q_17, .int x_20, .long g_21, .long g_22, .int x_23, .int x_24, .int x_25, .int x_26, .ref q_18, .ref q_19, .int x_27, .int x_28, .int x_29, .int x_30, .ref q_20, .ref q_21, .int x_31, .int x_32, .ref q_22, .ref q_23, .ref q_24, .ref q_25, .int x_33, .int x_34, .int x_35])), (q_1, .inl (k 0, 27101, .inl (upd (upd (upd (upd (upd (upd (upd (upd (upd (upd (upd (upd (upd (upd (upd (fun _ => 0) 20 x_0) 21 1) 22 x_2) 23 x_3) 24 x_4) 25 (-1)) 26 (-1)) 27 (-1)) 28 (-1)) 29 (-1)) 30 (-1)) 31 (-1)) 32 (-1)) 33 0) 34 0)))] H := hP
            have hD : va_D A [(q_0, .inr (12, [.int 0, .int x_6, .ref q_1, .ref q_2, .ref q_3, .int x_7, .ref q_4, .ref q_5, .ref q_6, .ref q_7, .ref q_8, .int x_8, .int x_9, .int x_10, .int x_11, .long g_12, .int x_13, .int x_14, .int x_15, .ref q_9, .int x_16, .ref q_10, .ref q_11, .int x_17, .ref q_12, .ref q_13, .int x_18, .int x_19, .ref q_14, .ref q_15, .ref q_16, .ref q_17, .int x_20, .long g_21, .long g_22, .int x_23, .int x_24, .int x_25, .int x_26, .ref q_18, .ref q_19, .int x_27, .int x_28, .int x_29, .int x_30, .ref q_20, .ref q_21, .int x_31, .int x_32, .ref q_22, .ref q_23, .ref q_24, .ref q_25, .int x_33, .int x_34, .int x_35])), (q_1, .inl (k 0, 27101, .inl (upd (upd (upd (upd (upd (upd (upd (upd (upd (upd (upd (upd (upd (upd (upd (fun _ => 0) 20 x_0) 21 1) 22 x_2) 23 x_3) 24 x_4) 25 (-1)) 26 (-1)) 27 (-1)) 28 (-1)) 29 (-1)) 30 (-1)) 31 (-1)) 32 (-1)) 33 0) 34 0)))] := hD
            refine lv_iinc (v := 15) (lv' := [(7, .int 15), (6, .int 20), (0, .ref q_0), (1, .int x_0), (2, .int x_1), (3, .int x_2), (4, .int x_3), (5, .int x_4)]) hx hb dX12_child_156 hl (k := 0) rfl (by decide) (by decide) rfl (fun ls hl => ?_)
            refine lv_goto (tgt := 127) hx hb dX12_child_159 (by decide) ?_
            refine lv_iload hx hb dX12_child_127 (lv_at hl 0 rfl) ?_
            refine lv_bipush (v := 17) hx hb dX12_child_129 (by decide) ?_
            refine lv_icmp_ge (tgt := 162) hx hb dX12_child_131 (by decide) (fun c68 => absurd c68 (by decide)) (fun _ => ?_)
            refine lv_aload_n hx hb dX12_child_134 rfl (lv_at hl 2 rfl) ?_
            refine va_get (D := D) (ci := 12) (v := .ref q_1) (C := RX12) (T := TX12) (N := 56) hx hb hts inX12 hown hK hP 0 rfl rfl 2 (by decide) (hts _ kF_X12_7) (fun _ h9 => h9) rfl dX12_child_135 ?_
            refine lv_iload hx hb dX12_child_138 (lv_at hl 1 rfl) ?_
            refine lv_iload hx hb dX12_child_140 (lv_at hl 0 rfl) ?_
            refine lv_iadd hx hb dX12_child_142 ?_
            refine lv_toc (v := 35) (by decide) ?_
            refine lv_iload hx hb dX12_child_143 (lv_at hl 0 rfl) ?_
            refine lv_bipush (v := 13) hx hb dX12_child_145 (by decide) ?_
            refine lv_icmp_ge (tgt := 154) hx hb dX12_child_147 (by decide) (fun _ => ?_) (fun c69 => absurd (by decide) c69)
            refine lv_iconst (v := 0) hx hb dX12_child_154 (by decide) ?_
            refine va_iast hx hb hK hP hD hS 1 0 rfl rfl (by unfold vp_in; decide) dX12_child_155 (fun H locs hP hD hS => ?_)
            have hP : va_P D vwCl [(q_0, .inr (12, [.int 0, .int x_6, .ref q_1, .ref q_2, .ref q_3, .int x_7, .ref q_4, .ref q_5, .ref q_6, .ref q_7, .ref q_8, .int x_8, .int x_9, .int x_10, .int x_11, .long g_12, .int x_13, .int x_14, .int x_15, .ref q_9, .int x_16, .ref q_10, .ref q_11, .int x_17, .ref q_12, .ref q_13, .int x_18, .int x_19, .ref q_14, .ref q_15, .ref q_16, .ref q_17, .int x_20, .long g_21, .long g_22, .int x_23, .int x_24, .int x_25, .int x_26, .ref q_18, .ref q_19, .int x_27, .int x_28, .int x_29, .int x_30, .ref q_20, .ref q_21, .int x_31, .int x_32, .ref q_22, .ref q_23, .ref q_24, .ref q_25, .int x_33, .int x_34, .int x_35])), (q_1, .inl (k 0, 27101, .inl (upd (upd (upd (upd (upd (upd (upd (upd (upd (upd (upd (upd (upd (upd (upd (upd (fun _ => 0) 20 x_0) 21 1) 22 x_2) 23 x_3) 24 x_4) 25 (-1)) 26 (-1)) 27 (-1)) 28 (-1)) 29 (-1)) 30 (-1)) 31 (-1)) 32 (-1)) 33 0) 34 0) 35 0)))] H := hP
            have hD : va_D A [(q_0, .inr (12, [.int 0, .int x_6, .ref q_1, .ref q_2, .ref q_3, .int x_7, .ref q_4, .ref q_5, .ref q_6, .ref q_7, .ref q_8, .int x_8, .int x_9, .int x_10, .int x_11, .long g_12, .int x_13, .int x_14, .int x_15, .ref q_9, .int x_16, .ref q_10, .ref q_11, .int x_17, .ref q_12, .ref q_13, .int x_18, .int x_19, .ref q_14, .ref q_15, .ref q_16, .ref q_17, .int x_20, .long g_21, .long g_22, .int x_23, .int x_24, .int x_25, .int x_26, .ref q_18, .ref q_19, .int x_27, .int x_28, .int x_29, .int x_30, .ref q_20, .ref q_21, .int x_31, .int x_32, .ref q_22, .ref q_23, .ref q_24, .ref q_25, .int x_33, .int x_34, .int x_35])), (q_1, .inl (k 0, 27101, .inl (upd (upd (upd (upd (upd (upd (upd (upd (upd (upd (upd (upd (upd (upd (upd (upd (fun _ => 0) 20 x_0) 21 1) 22 x_2) 23 x_3) 24 x_4) 25 (-1)) 26 (-1)) 27 (-1)) 28 (-1)) 29 (-1)) 30 (-1)) 31 (-1)) 32 (-1)) 33 0) 34 0) 35 0)))] := hD
            refine lv_iinc (v := 16) (lv' := [(7, .int 16), (6, .int 20), (0, .ref q_0), (1, .int x_0), (2, .int x_1), (3, .int x_2), (4, .int x_3), (5, .int x_4)]) hx hb dX12_child_156 hl (k := 0) rfl (by decide) (by decide) rfl (fun ls hl => ?_)
            refine lv_goto (tgt := 127) hx hb dX12_child_159 (by decide) ?_
            refine lv_iload hx hb dX12_child_127 (lv_at hl 0 rfl) ?_
            refine lv_bipush (v := 17) hx hb dX12_child_129 (by decide) ?_
            refine lv_icmp_ge (tgt := 162) hx hb dX12_child_131 (by decide) (fun c70 => absurd c70 (by decide)) (fun _ => ?_)
            refine lv_aload_n hx hb dX12_child_134 rfl (lv_at hl 2 rfl) ?_
            refine va_get (D := D) (ci := 12) (v := .ref q_1) (C := RX12) (T := TX12) (N := 56) hx hb hts inX12 hown hK hP 0 rfl rfl 2 (by decide) (hts _ kF_X12_7) (fun _ h9 => h9) rfl dX12_child_135 ?_
            refine lv_iload hx hb dX12_child_138 (lv_at hl 1 rfl) ?_
            refine lv_iload hx hb dX12_child_140 (lv_at hl 0 rfl) ?_
            refine lv_iadd hx hb dX12_child_142 ?_
            refine lv_toc (v := 36) (by decide) ?_
            refine lv_iload hx hb dX12_child_143 (lv_at hl 0 rfl) ?_
            refine lv_bipush (v := 13) hx hb dX12_child_145 (by decide) ?_
            refine lv_icmp_ge (tgt := 154) hx hb dX12_child_147 (by decide) (fun _ => ?_) (fun c71 => absurd (by decide) c71)
            refine lv_iconst (v := 0) hx hb dX12_child_154 (by decide) ?_
            refine va_iast hx hb hK hP hD hS 1 0 rfl rfl (by unfold vp_in; decide) dX12_child_155 (fun H locs hP hD hS => ?_)
            have hP : va_P D vwCl [(q_0, .inr (12, [.int 0, .int x_6, .ref q_1, .ref q_2, .ref q_3, .int x_7, .ref q_4, .ref q_5, .ref q_6, .ref q_7, .ref q_8, .int x_8, .int x_9, .int x_10, .int x_11, .long g_12, .int x_13, .int x_14, .int x_15, .ref q_9, .int x_16, .ref q_10, .ref q_11, .int x_17, .ref q_12, .ref q_13, .int x_18, .int x_19, .ref q_14, .ref q_15, .ref q_16, .ref q_17, .int x_20, .long g_21, .long g_22, .int x_23, .int x_24, .int x_25, .int x_26, .ref q_18, .ref q_19, .int x_27, .int x_28, .int x_29, .int x_30, .ref q_20, .ref q_21, .int x_31, .int x_32, .ref q_22, .ref q_23, .ref q_24, .ref q_25, .int x_33, .int x_34, .int x_35])), (q_1, .inl (k 0, 27101, .inl (upd (upd (upd (upd (upd (upd (upd (upd (upd (upd (upd (upd (upd (upd (upd (upd (upd (fun _ => 0) 20 x_0) 21 1) 22 x_2) 23 x_3) 24 x_4) 25 (-1)) 26 (-1)) 27 (-1)) 28 (-1)) 29 (-1)) 30 (-1)) 31 (-1)) 32 (-1)) 33 0) 34 0) 35 0) 36 0)))] H := hP
            have hD : va_D A [(q_0, .inr (12, [.int 0, .int x_6, .ref q_1, .ref q_2, .ref q_3, .int x_7, .ref q_4, .ref q_5, .ref q_6, .ref q_7, .ref q_8, .int x_8, .int x_9, .int x_10, .int x_11, .long g_12, .int x_13, .int x_14, .int x_15, .ref q_9, .int x_16, .ref q_10, .ref q_11, .int x_17, .ref q_12, .ref q_13, .int x_18, .int x_19, .ref q_14, .ref q_15, .ref q_16, .ref q_17, .int x_20, .long g_21, .long g_22, .int x_23, .int x_24, .int x_25, .int x_26, .ref q_18, .ref q_19, .int x_27, .int x_28, .int x_29, .int x_30, .ref q_20, .ref q_21, .int x_31, .int x_32, .ref q_22, .ref q_23, .ref q_24, .ref q_25, .int x_33, .int x_34, .int x_35])), (q_1, .inl (k 0, 27101, .inl (upd (upd (upd (upd (upd (upd (upd (upd (upd (upd (upd (upd (upd (upd (upd (upd (upd (fun _ => 0) 20 x_0) 21 1) 22 x_2) 23 x_3) 24 x_4) 25 (-1)) 26 (-1)) 27 (-1)) 28 (-1)) 29 (-1)) 30 (-1)) 31 (-1)) 32 (-1)) 33 0) 34 0) 35 0) 36 0)))] := hD
            refine lv_iinc (v := 17) (lv' := [(7, .int 17), (6, .int 20), (0, .ref q_0), (1, .int x_0), (2, .int x_1), (3, .int x_2), (4, .int x_3), (5, .int x_4)]) hx hb dX12_child_156 hl (k := 0) rfl (by decide) (by decide) rfl (fun ls hl => ?_)
            refine lv_goto (tgt := 127) hx hb dX12_child_159 (by decide) ?_
            refine lv_iload hx hb dX12_child_127 (lv_at hl 0 rfl) ?_
            refine lv_bipush (v := 17) hx hb dX12_child_129 (by decide) ?_
            refine lv_icmp_ge (tgt := 162) hx hb dX12_child_131 (by decide) (fun _ => ?_) (fun c72 => absurd (by decide) c72)
            refine lv_aload_n hx hb dX12_child_162 rfl (lv_at hl 2 rfl) ?_
            refine va_get (D := D) (ci := 12) (v := .ref q_1) (C := RX12) (T := TX12) (N := 56) hx hb hts inX12 hown hK hP 0 rfl rfl 2 (by decide) (hts _ kF_X12_7) (fun _ h9 => h9) rfl dX12_child_163 ?_
            refine lv_iconst (v := 0) hx hb dX12_child_166 (by decide) ?_
            refine lv_dup2_11 hx hb dX12_child_167 rfl rfl ?_
            refine va_iald hx hb hK hP 1 0 rfl rfl (by unfold vp_in; decide) dX12_child_168 ?_
            refine lv_toc (v := 0) rfl ?_
            refine lv_iconst (v := 1) hx hb dX12_child_169 (by decide) ?_
            refine lv_iadd hx hb dX12_child_170 ?_
            refine lv_toc (v := 1) (by decide) ?_
            refine va_iast hx hb hK hP hD hS 1 0 rfl rfl (by unfold vp_in; decide) dX12_child_171 (fun H locs hP hD hS => ?_)
            have hP : va_P D vwCl [(q_0, .inr (12, [.int 0, .int x_6, .ref q_1, .ref q_2, .ref q_3, .int x_7, .ref q_4, .ref q_5, .ref q_6, .ref q_7, .ref q_8, .int x_8, .int x_9, .int x_10, .int x_11, .long g_12, .int x_13, .int x_14, .int x_15, .ref q_9, .int x_16, .ref q_10, .ref q_11, .int x_17, .ref q_12, .ref q_13, .int x_18, .int x_19, .ref q_14, .ref q_15, .ref q_16, .ref q_17, .int x_20, .long g_21, .long g_22, .int x_23, .int x_24, .int x_25, .int x_26, .ref q_18, .ref q_19, .int x_27, .int x_28, .int x_29, .int x_30, .ref q_20, .ref q_21, .int x_31, .int x_32, .ref q_22, .ref q_23, .ref q_24, .ref q_25, .int x_33, .int x_34, .int x_35])), (q_1, .inl (k 0, 27101, .inl (upd (upd (upd (upd (upd (upd (upd (upd (upd (upd (upd (upd (upd (upd (upd (upd (upd (upd (fun _ => 0) 20 x_0) 21 1) 22 x_2) 23 x_3) 24 x_4) 25 (-1)) 26 (-1)) 27 (-1)) 28 (-1)) 29 (-1)) 30 (-1)) 31 (-1)) 32 (-1)) 33 0) 34 0) 35 0) 36 0) 0 1)))] H := hP
            have hD : va_D A [(q_0, .inr (12, [.int 0, .int x_6, .ref q_1, .ref q_2, .ref q_3, .int x_7, .ref q_4, .ref q_5, .ref q_6, .ref q_7, .ref q_8, .int x_8, .int x_9, .int x_10, .int x_11, .long g_12, .int x_13, .int x_14, .int x_15, .ref q_9, .int x_16, .ref q_10, .ref q_11, .int x_17, .ref q_12, .ref q_13, .int x_18, .int x_19, .ref q_14, .ref q_15, .ref q_16, .ref q_17, .int x_20, .long g_21, .long g_22, .int x_23, .int x_24, .int x_25, .int x_26, .ref q_18, .ref q_19, .int x_27, .int x_28, .int x_29, .int x_30, .ref q_20, .ref q_21, .int x_31, .int x_32, .ref q_22, .ref q_23, .ref q_24, .ref q_25, .int x_33, .int x_34, .int x_35])), (q_1, .inl (k 0, 27101, .inl (upd (upd (upd (upd (upd (upd (upd (upd (upd (upd (upd (upd (upd (upd (upd (upd (upd (upd (fun _ => 0) 20 x_0) 21 1) 22 x_2) 23 x_3) 24 x_4) 25 (-1)) 26 (-1)) 27 (-1)) 28 (-1)) 29 (-1)) 30 (-1)) 31 (-1)) 32 (-1)) 33 0) 34 0) 35 0) 36 0) 0 1)))] := hD
            refine lv_aload_n hx hb dX12_child_172 rfl (lv_at hl 2 rfl) ?_
            refine lv_aload_n hx hb dX12_child_173 rfl (lv_at hl 2 rfl) ?_
            refine va_get (D := D) (ci := 12) (v := .ref q_1) (C := RX12) (T := TX12) (N := 56) hx hb hts inX12 hown hK hP 0 rfl rfl 2 (by decide) (hts _ kF_X12_7) (fun _ h9 => h9) rfl dX12_child_174 ?_
            refine lv_iconst (v := 0) hx hb dX12_child_177 (by decide) ?_
            refine va_iald hx hb hK hP 1 0 rfl rfl (by unfold vp_in; decide) dX12_child_178 ?_
            refine lv_toc (v := 1) rfl ?_
            refine lv_iconst (v := 1) hx hb dX12_child_179 (by decide) ?_
            refine lv_isub hx hb dX12_child_180 ?_
            refine lv_toc (v := 0) (by decide) ?_
            refine z_bi (wr := [(q_1, .inl (k 0, 27101, .inl (upd (upd (upd (upd (upd (upd (upd (upd (upd (upd (upd (upd (upd (upd (upd (upd (upd (upd (fun _ => 0) 20 x_0) 21 1) 22 x_2) 23 x_3) 24 x_4) 25 (-1)) 26 (-1)) 27 (-1)) 28 (-1)) 29 (-1)) 30 (-1)) 31 (-1)) 32 (-1)) 33 0) 34 0) 35 0) 36 0) 0 1)))]) (z_runV (C := RX12) (As := [.int 0]) (rest := []) C0 (c_X12_told_2 l D k q_0 q_1 q_2 q_3 q_4 q_5 q_6 q_7 q_8 q_9 q_10 q_11 q_12 q_13 q_14 q_15 q_16 q_17 q_18 q_19 q_20 q_21 q_22 q_23 q_24 q_25 0 x_6 x_7 x_8 x_9 x_10 x_11 g_12 x_13 x_14 x_15 x_16 x_17 x_18 x_19 x_20 g_21 g_22 x_23 x_24 x_25 x_26 x_27 x_28 x_29 x_30 x_31 x_32 x_33 x_34 x_35 _) okV_X12_told kM_X12_106 rfl (z_pV (q0 := 0) hK hN hP hD [0] rfl rfl rfl rfl rfl) rfl hl.1 rfl (Nat.le_of_ble_eq_true rfl) dX12_child_181 rfl) hP hD hS hA [0] [1] rfl rfl rfl rfl (fun r73 u73 H locs hw73 hP hD hS => ?_)
            obtain ⟨i73, a73⟩ := u73
            dsimp only at hw73
            obtain ⟨rfl, rfl⟩ := hw73
            have hP : va_P D vwCl [(q_1, .inl (k 0, 27101, .inl (upd (upd (upd (upd (upd (upd (upd (upd (upd (upd (upd (upd (upd (upd (upd (upd (upd (upd (fun _ => 0) 20 x_0) 21 1) 22 x_2) 23 x_3) 24 x_4) 25 (-1)) 26 (-1)) 27 (-1)) 28 (-1)) 29 (-1)) 30 (-1)) 31 (-1)) 32 (-1)) 33 0) 34 0) 35 0) 36 0) 0 1))), (q_0, .inr (12, [.int 0, .int 0, .ref q_1, .ref q_2, .ref q_3, .int x_7, .ref q_4, .ref q_5, .ref q_6, .ref q_7, .ref q_8, .int x_8, .int x_9, .int x_10, .int x_11, .long g_12, .int x_13, .int x_14, .int x_15, .ref q_9, .int x_16, .ref q_10, .ref q_11, .int x_17, .ref q_12, .ref q_13, .int x_18, .int x_19, .ref q_14, .ref q_15, .ref q_16, .ref q_17, .int x_20, .long g_21, .long g_22, .int x_23, .int x_24, .int x_25, .int x_26, .ref q_18, .ref q_19, .int x_27, .int x_28, .int x_29, .int x_30, .ref q_20, .ref q_21, .int x_31, .int x_32, .ref q_22, .ref q_23, .ref q_24, .ref q_25, .int x_33, .int x_34, .int x_35]))] H := hP
            have hD : va_D A [(q_1, .inl (k 0, 27101, .inl (upd (upd (upd (upd (upd (upd (upd (upd (upd (upd (upd (upd (upd (upd (upd (upd (upd (upd (fun _ => 0) 20 x_0) 21 1) 22 x_2) 23 x_3) 24 x_4) 25 (-1)) 26 (-1)) 27 (-1)) 28 (-1)) 29 (-1)) 30 (-1)) 31 (-1)) 32 (-1)) 33 0) 34 0) 35 0) 36 0) 0 1))), (q_0, .inr (12, [.int 0, .int 0, .ref q_1, .ref q_2, .ref q_3, .int x_7, .ref q_4, .ref q_5, .ref q_6, .ref q_7, .ref q_8, .int x_8, .int x_9, .int x_10, .int x_11, .long g_12, .int x_13, .int x_14, .int x_15, .ref q_9, .int x_16, .ref q_10, .ref q_11, .int x_17, .ref q_12, .ref q_13, .int x_18, .int x_19, .ref q_14, .ref q_15, .ref q_16, .ref q_17, .int x_20, .long g_21, .long g_22, .int x_23, .int x_24, .int x_25, .int x_26, .ref q_18, .ref q_19, .int x_27, .int x_28, .int x_29, .int x_30, .ref q_20, .ref q_21, .int x_31, .int x_32, .ref q_22, .ref q_23, .ref q_24, .ref q_25, .int x_33, .int x_34, .int x_35]))] := hD
            exact z_iret C0 hr hlk rfl hK hP hD hS (1, fun _ => 0) (Or.inr (⟨rfl, rfl, (Or.inr (⟨c1, c5, c9, c13, c19⟩))⟩)) [] rfl rfl rfl dX12_child_184
end
section
theorem zz_t : True := trivial
end
