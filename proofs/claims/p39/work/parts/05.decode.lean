def zDecB (c : ByteArray) (l : List (Nat × (Jvm.ClassFile.Instr × Nat))) : Bool := l.all (fun x => decide (decode c x.1 = .ok x.2))
theorem zDec_at {c : ByteArray} {l : List (Nat × (Jvm.ClassFile.Instr × Nat))} (h : zDecB c l = true) (n : Nat) {p : Nat} {i : Jvm.ClassFile.Instr × Nat} (e : l[n]? = some (p, i)) : decode c p = .ok i :=
  of_decide_eq_true (List.all_eq_true.mp h (p, i) (List.mem_of_getElem? e))
theorem zB_dJ6_bitCount_0f7a4_0 : zDecB cJ6_bitCount_0f7a4 [(0, .iload_n 0, 1), (1, .iload_n 0, 1), (2, .iconst 1, 1), (3, .iushr, 1), (4, .ldc_w 265, 3), (7, .iand, 1), (8, .isub, 1), (9, .istore_n 0, 1), (10, .iload_n 0, 1), (11, .ldc_w 266, 3), (14, .iand, 1), (15, .iload_n 0, 1), (16, .iconst 2, 1), (17, .iushr, 1), (18, .ldc_w 266, 3), (21, .iand, 1), (22, .iadd, 1), (23, .istore_n 0, 1), (24, .iload_n 0, 1), (25, .iload_n 0, 1), (26, .iconst 4, 1), (27, .iushr, 1), (28, .iadd, 1), (29, .ldc_w 267, 3), (32, .iand, 1), (33, .istore_n 0, 1), (34, .iload_n 0, 1), (35, .iload_n 0, 1), (36, .bipush 8, 2), (38, .iushr, 1), (39, .iadd, 1), (40, .istore_n 0, 1), (41, .iload_n 0, 1), (42, .iload_n 0, 1), (43, .bipush 16, 2), (45, .iushr, 1), (46, .iadd, 1), (47, .istore_n 0, 1), (48, .iload_n 0, 1), (49, .bipush 63, 2)] = true := by decide +kernel
theorem dJ6_bitCount_0f7a4_0 : decode cJ6_bitCount_0f7a4 0 = .ok (.iload_n 0, 1) := zDec_at zB_dJ6_bitCount_0f7a4_0 0 rfl
theorem dJ6_bitCount_0f7a4_1 : decode cJ6_bitCount_0f7a4 1 = .ok (.iload_n 0, 1) := zDec_at zB_dJ6_bitCount_0f7a4_0 1 rfl
theorem dJ6_bitCount_0f7a4_2 : decode cJ6_bitCount_0f7a4 2 = .ok (.iconst 1, 1) := zDec_at zB_dJ6_bitCount_0f7a4_0 2 rfl
theorem dJ6_bitCount_0f7a4_3 : decode cJ6_bitCount_0f7a4 3 = .ok (.iushr, 1) := zDec_at zB_dJ6_bitCount_0f7a4_0 3 rfl
theorem dJ6_bitCount_0f7a4_4 : decode cJ6_bitCount_0f7a4 4 = .ok (.ldc_w 265, 3) := zDec_at zB_dJ6_bitCount_0f7a4_0 4 rfl
theorem dJ6_bitCount_0f7a4_7 : decode cJ6_bitCount_0f7a4 7 = .ok (.iand, 1) := zDec_at zB_dJ6_bitCount_0f7a4_0 5 rfl
theorem dJ6_bitCount_0f7a4_8 : decode cJ6_bitCount_0f7a4 8 = .ok (.isub, 1) := zDec_at zB_dJ6_bitCount_0f7a4_0 6 rfl
theorem dJ6_bitCount_0f7a4_9 : decode cJ6_bitCount_0f7a4 9 = .ok (.istore_n 0, 1) := zDec_at zB_dJ6_bitCount_0f7a4_0 7 rfl
theorem dJ6_bitCount_0f7a4_10 : decode cJ6_bitCount_0f7a4 10 = .ok (.iload_n 0, 1) := zDec_at zB_dJ6_bitCount_0f7a4_0 8 rfl
theorem dJ6_bitCount_0f7a4_11 : decode cJ6_bitCount_0f7a4 11 = .ok (.ldc_w 266, 3) := zDec_at zB_dJ6_bitCount_0f7a4_0 9 rfl
theorem dJ6_bitCount_0f7a4_14 : decode cJ6_bitCount_0f7a4 14 = .ok (.iand, 1) := zDec_at zB_dJ6_bitCount_0f7a4_0 10 rfl
theorem dJ6_bitCount_0f7a4_15 : decode cJ6_bitCount_0f7a4 15 = .ok (.iload_n 0, 1) := zDec_at zB_dJ6_bitCount_0f7a4_0 11 rfl
theorem dJ6_bitCount_0f7a4_16 : decode cJ6_bitCount_0f7a4 16 = .ok (.iconst 2, 1) := zDec_at zB_dJ6_bitCount_0f7a4_0 12 rfl
theorem dJ6_bitCount_0f7a4_17 : decode cJ6_bitCount_0f7a4 17 = .ok (.iushr, 1) := zDec_at zB_dJ6_bitCount_0f7a4_0 13 rfl
theorem dJ6_bitCount_0f7a4_18 : decode cJ6_bitCount_0f7a4 18 = .ok (.ldc_w 266, 3) := zDec_at zB_dJ6_bitCount_0f7a4_0 14 rfl
theorem dJ6_bitCount_0f7a4_21 : decode cJ6_bitCount_0f7a4 21 = .ok (.iand, 1) := zDec_at zB_dJ6_bitCount_0f7a4_0 15 rfl
theorem dJ6_bitCount_0f7a4_22 : decode cJ6_bitCount_0f7a4 22 = .ok (.iadd, 1) := zDec_at zB_dJ6_bitCount_0f7a4_0 16 rfl
theorem dJ6_bitCount_0f7a4_23 : decode cJ6_bitCount_0f7a4 23 = .ok (.istore_n 0, 1) := zDec_at zB_dJ6_bitCount_0f7a4_0 17 rfl
theorem dJ6_bitCount_0f7a4_24 : decode cJ6_bitCount_0f7a4 24 = .ok (.iload_n 0, 1) := zDec_at zB_dJ6_bitCount_0f7a4_0 18 rfl
theorem dJ6_bitCount_0f7a4_25 : decode cJ6_bitCount_0f7a4 25 = .ok (.iload_n 0, 1) := zDec_at zB_dJ6_bitCount_0f7a4_0 19 rfl
theorem dJ6_bitCount_0f7a4_26 : decode cJ6_bitCount_0f7a4 26 = .ok (.iconst 4, 1) := zDec_at zB_dJ6_bitCount_0f7a4_0 20 rfl
theorem dJ6_bitCount_0f7a4_27 : decode cJ6_bitCount_0f7a4 27 = .ok (.iushr, 1) := zDec_at zB_dJ6_bitCount_0f7a4_0 21 rfl
theorem dJ6_bitCount_0f7a4_28 : decode cJ6_bitCount_0f7a4 28 = .ok (.iadd, 1) := zDec_at zB_dJ6_bitCount_0f7a4_0 22 rfl
theorem dJ6_bitCount_0f7a4_29 : decode cJ6_bitCount_0f7a4 29 = .ok (.ldc_w 267, 3) := zDec_at zB_dJ6_bitCount_0f7a4_0 23 rfl
theorem dJ6_bitCount_0f7a4_32 : decode cJ6_bitCount_0f7a4 32 = .ok (.iand, 1) := zDec_at zB_dJ6_bitCount_0f7a4_0 24 rfl
theorem dJ6_bitCount_0f7a4_33 : decode cJ6_bitCount_0f7a4 33 = .ok (.istore_n 0, 1) := zDec_at zB_dJ6_bitCount_0f7a4_0 25 rfl
theorem dJ6_bitCount_0f7a4_34 : decode cJ6_bitCount_0f7a4 34 = .ok (.iload_n 0, 1) := zDec_at zB_dJ6_bitCount_0f7a4_0 26 rfl
theorem dJ6_bitCount_0f7a4_35 : decode cJ6_bitCount_0f7a4 35 = .ok (.iload_n 0, 1) := zDec_at zB_dJ6_bitCount_0f7a4_0 27 rfl
theorem dJ6_bitCount_0f7a4_36 : decode cJ6_bitCount_0f7a4 36 = .ok (.bipush 8, 2) := zDec_at zB_dJ6_bitCount_0f7a4_0 28 rfl
theorem dJ6_bitCount_0f7a4_38 : decode cJ6_bitCount_0f7a4 38 = .ok (.iushr, 1) := zDec_at zB_dJ6_bitCount_0f7a4_0 29 rfl
theorem dJ6_bitCount_0f7a4_39 : decode cJ6_bitCount_0f7a4 39 = .ok (.iadd, 1) := zDec_at zB_dJ6_bitCount_0f7a4_0 30 rfl
theorem dJ6_bitCount_0f7a4_40 : decode cJ6_bitCount_0f7a4 40 = .ok (.istore_n 0, 1) := zDec_at zB_dJ6_bitCount_0f7a4_0 31 rfl
theorem dJ6_bitCount_0f7a4_41 : decode cJ6_bitCount_0f7a4 41 = .ok (.iload_n 0, 1) := zDec_at zB_dJ6_bitCount_0f7a4_0 32 rfl
theorem dJ6_bitCount_0f7a4_42 : decode cJ6_bitCount_0f7a4 42 = .ok (.iload_n 0, 1) := zDec_at zB_dJ6_bitCount_0f7a4_0 33 rfl
theorem dJ6_bitCount_0f7a4_43 : decode cJ6_bitCount_0f7a4 43 = .ok (.bipush 16, 2) := zDec_at zB_dJ6_bitCount_0f7a4_0 34 rfl
theorem dJ6_bitCount_0f7a4_45 : decode cJ6_bitCount_0f7a4 45 = .ok (.iushr, 1) := zDec_at zB_dJ6_bitCount_0f7a4_0 35 rfl
theorem dJ6_bitCount_0f7a4_46 : decode cJ6_bitCount_0f7a4 46 = .ok (.iadd, 1) := zDec_at zB_dJ6_bitCount_0f7a4_0 36 rfl
theorem dJ6_bitCount_0f7a4_47 : decode cJ6_bitCount_0f7a4 47 = .ok (.istore_n 0, 1) := zDec_at zB_dJ6_bitCount_0f7a4_0 37 rfl
theorem dJ6_bitCount_0f7a4_48 : decode cJ6_bitCount_0f7a4 48 = .ok (.iload_n 0, 1) := zDec_at zB_dJ6_bitCount_0f7a4_0 38 rfl
theorem dJ6_bitCount_0f7a4_49 : decode cJ6_bitCount_0f7a4 49 = .ok (.bipush 63, 2) := zDec_at zB_dJ6_bitCount_0f7a4_0 39 rfl
theorem dJ6_bitCount_0f7a4_51 : decode cJ6_bitCount_0f7a4 51 = .ok (.iand, 1) := by decide +kernel
theorem dJ6_bitCount_0f7a4_52 : decode cJ6_bitCount_0f7a4 52 = .ok (.ireturn, 1) := by decide +kernel
theorem zB_dJ7_copyOf_59c91_0 : zDecB cJ7_copyOf_59c91 [(0, .iload_n 1, 1), (1, .aload_n 0, 1), (2, .arraylength, 1), (3, .if_icmp .ne 11, 3), (6, .aload_n 0, 1), (7, .invokevirtual 316, 3), (10, .checkcast 317, 3), (13, .areturn, 1), (14, .iload_n 1, 1), (15, .newarray .int, 2), (17, .astore_n 2, 1), (18, .aload_n 0, 1), (19, .iconst 0, 1), (20, .aload_n 2, 1), (21, .iconst 0, 1), (22, .aload_n 0, 1), (23, .arraylength, 1), (24, .iload_n 1, 1), (25, .invokestatic 304, 3), (28, .invokestatic 150, 3), (31, .aload_n 2, 1), (32, .areturn, 1)] = true := by decide +kernel
theorem dJ7_copyOf_59c91_0 : decode cJ7_copyOf_59c91 0 = .ok (.iload_n 1, 1) := zDec_at zB_dJ7_copyOf_59c91_0 0 rfl
theorem dJ7_copyOf_59c91_1 : decode cJ7_copyOf_59c91 1 = .ok (.aload_n 0, 1) := zDec_at zB_dJ7_copyOf_59c91_0 1 rfl
theorem dJ7_copyOf_59c91_2 : decode cJ7_copyOf_59c91 2 = .ok (.arraylength, 1) := zDec_at zB_dJ7_copyOf_59c91_0 2 rfl
theorem dJ7_copyOf_59c91_3 : decode cJ7_copyOf_59c91 3 = .ok (.if_icmp .ne 11, 3) := zDec_at zB_dJ7_copyOf_59c91_0 3 rfl
theorem dJ7_copyOf_59c91_6 : decode cJ7_copyOf_59c91 6 = .ok (.aload_n 0, 1) := zDec_at zB_dJ7_copyOf_59c91_0 4 rfl
theorem dJ7_copyOf_59c91_7 : decode cJ7_copyOf_59c91 7 = .ok (.invokevirtual 316, 3) := zDec_at zB_dJ7_copyOf_59c91_0 5 rfl
theorem dJ7_copyOf_59c91_10 : decode cJ7_copyOf_59c91 10 = .ok (.checkcast 317, 3) := zDec_at zB_dJ7_copyOf_59c91_0 6 rfl
theorem dJ7_copyOf_59c91_13 : decode cJ7_copyOf_59c91 13 = .ok (.areturn, 1) := zDec_at zB_dJ7_copyOf_59c91_0 7 rfl
theorem dJ7_copyOf_59c91_14 : decode cJ7_copyOf_59c91 14 = .ok (.iload_n 1, 1) := zDec_at zB_dJ7_copyOf_59c91_0 8 rfl
theorem dJ7_copyOf_59c91_15 : decode cJ7_copyOf_59c91 15 = .ok (.newarray .int, 2) := zDec_at zB_dJ7_copyOf_59c91_0 9 rfl
theorem dJ7_copyOf_59c91_17 : decode cJ7_copyOf_59c91 17 = .ok (.astore_n 2, 1) := zDec_at zB_dJ7_copyOf_59c91_0 10 rfl
theorem dJ7_copyOf_59c91_18 : decode cJ7_copyOf_59c91 18 = .ok (.aload_n 0, 1) := zDec_at zB_dJ7_copyOf_59c91_0 11 rfl
theorem dJ7_copyOf_59c91_19 : decode cJ7_copyOf_59c91 19 = .ok (.iconst 0, 1) := zDec_at zB_dJ7_copyOf_59c91_0 12 rfl
theorem dJ7_copyOf_59c91_20 : decode cJ7_copyOf_59c91 20 = .ok (.aload_n 2, 1) := zDec_at zB_dJ7_copyOf_59c91_0 13 rfl
theorem dJ7_copyOf_59c91_21 : decode cJ7_copyOf_59c91 21 = .ok (.iconst 0, 1) := zDec_at zB_dJ7_copyOf_59c91_0 14 rfl
theorem dJ7_copyOf_59c91_22 : decode cJ7_copyOf_59c91 22 = .ok (.aload_n 0, 1) := zDec_at zB_dJ7_copyOf_59c91_0 15 rfl
theorem dJ7_copyOf_59c91_23 : decode cJ7_copyOf_59c91 23 = .ok (.arraylength, 1) := zDec_at zB_dJ7_copyOf_59c91_0 16 rfl
theorem dJ7_copyOf_59c91_24 : decode cJ7_copyOf_59c91 24 = .ok (.iload_n 1, 1) := zDec_at zB_dJ7_copyOf_59c91_0 17 rfl
theorem dJ7_copyOf_59c91_25 : decode cJ7_copyOf_59c91 25 = .ok (.invokestatic 304, 3) := zDec_at zB_dJ7_copyOf_59c91_0 18 rfl
theorem dJ7_copyOf_59c91_28 : decode cJ7_copyOf_59c91 28 = .ok (.invokestatic 150, 3) := zDec_at zB_dJ7_copyOf_59c91_0 19 rfl
theorem dJ7_copyOf_59c91_31 : decode cJ7_copyOf_59c91 31 = .ok (.aload_n 2, 1) := zDec_at zB_dJ7_copyOf_59c91_0 20 rfl
theorem dJ7_copyOf_59c91_32 : decode cJ7_copyOf_59c91 32 = .ok (.areturn, 1) := zDec_at zB_dJ7_copyOf_59c91_0 21 rfl
theorem zB_dJ7_fill_53178_0 : zDecB cJ7_fill_53178 [(0, .iconst 0, 1), (1, .istore_n 2, 1), (2, .aload_n 0, 1), (3, .arraylength, 1), (4, .istore_n 3, 1), (5, .iload_n 2, 1), (6, .iload_n 3, 1), (7, .if_icmp .ge 13, 3), (10, .aload_n 0, 1), (11, .iload_n 2, 1), (12, .iload_n 1, 1), (13, .iastore, 1), (14, .iinc 2 1, 3), (17, .goto (-12), 3), (20, .return_, 1)] = true := by decide +kernel
theorem dJ7_fill_53178_0 : decode cJ7_fill_53178 0 = .ok (.iconst 0, 1) := zDec_at zB_dJ7_fill_53178_0 0 rfl
theorem dJ7_fill_53178_1 : decode cJ7_fill_53178 1 = .ok (.istore_n 2, 1) := zDec_at zB_dJ7_fill_53178_0 1 rfl
theorem dJ7_fill_53178_2 : decode cJ7_fill_53178 2 = .ok (.aload_n 0, 1) := zDec_at zB_dJ7_fill_53178_0 2 rfl
theorem dJ7_fill_53178_3 : decode cJ7_fill_53178 3 = .ok (.arraylength, 1) := zDec_at zB_dJ7_fill_53178_0 3 rfl
theorem dJ7_fill_53178_4 : decode cJ7_fill_53178 4 = .ok (.istore_n 3, 1) := zDec_at zB_dJ7_fill_53178_0 4 rfl
theorem dJ7_fill_53178_5 : decode cJ7_fill_53178 5 = .ok (.iload_n 2, 1) := zDec_at zB_dJ7_fill_53178_0 5 rfl
theorem dJ7_fill_53178_6 : decode cJ7_fill_53178 6 = .ok (.iload_n 3, 1) := zDec_at zB_dJ7_fill_53178_0 6 rfl
theorem dJ7_fill_53178_7 : decode cJ7_fill_53178 7 = .ok (.if_icmp .ge 13, 3) := zDec_at zB_dJ7_fill_53178_0 7 rfl
theorem dJ7_fill_53178_10 : decode cJ7_fill_53178 10 = .ok (.aload_n 0, 1) := zDec_at zB_dJ7_fill_53178_0 8 rfl
theorem dJ7_fill_53178_11 : decode cJ7_fill_53178 11 = .ok (.iload_n 2, 1) := zDec_at zB_dJ7_fill_53178_0 9 rfl
theorem dJ7_fill_53178_12 : decode cJ7_fill_53178 12 = .ok (.iload_n 1, 1) := zDec_at zB_dJ7_fill_53178_0 10 rfl
theorem dJ7_fill_53178_13 : decode cJ7_fill_53178 13 = .ok (.iastore, 1) := zDec_at zB_dJ7_fill_53178_0 11 rfl
theorem dJ7_fill_53178_14 : decode cJ7_fill_53178 14 = .ok (.iinc 2 1, 3) := zDec_at zB_dJ7_fill_53178_0 12 rfl
theorem dJ7_fill_53178_17 : decode cJ7_fill_53178 17 = .ok (.goto (-12), 3) := zDec_at zB_dJ7_fill_53178_0 13 rfl
theorem dJ7_fill_53178_20 : decode cJ7_fill_53178 20 = .ok (.return_, 1) := zDec_at zB_dJ7_fill_53178_0 14 rfl
theorem zB_dX0_addText_0 : zDecB cX0_addText [(0, .aload_n 0, 1), (1, .getfield 11, 3), (4, .aload_n 0, 1), (5, .getfield 21, 3), (8, .aload_n 1, 1), (9, .aastore, 1), (10, .aload_n 0, 1), (11, .getfield 17, 3), (14, .aload_n 0, 1), (15, .getfield 21, 3), (18, .iload_n 2, 1), (19, .iastore, 1), (20, .aload_n 0, 1), (21, .dup, 1), (22, .getfield 21, 3), (25, .iconst 1, 1), (26, .iadd, 1), (27, .putfield 21, 3), (30, .return_, 1)] = true := by decide +kernel
theorem dX0_addText_0 : decode cX0_addText 0 = .ok (.aload_n 0, 1) := zDec_at zB_dX0_addText_0 0 rfl
theorem dX0_addText_1 : decode cX0_addText 1 = .ok (.getfield 11, 3) := zDec_at zB_dX0_addText_0 1 rfl
theorem dX0_addText_4 : decode cX0_addText 4 = .ok (.aload_n 0, 1) := zDec_at zB_dX0_addText_0 2 rfl
theorem dX0_addText_5 : decode cX0_addText 5 = .ok (.getfield 21, 3) := zDec_at zB_dX0_addText_0 3 rfl
theorem dX0_addText_8 : decode cX0_addText 8 = .ok (.aload_n 1, 1) := zDec_at zB_dX0_addText_0 4 rfl
theorem dX0_addText_9 : decode cX0_addText 9 = .ok (.aastore, 1) := zDec_at zB_dX0_addText_0 5 rfl
theorem dX0_addText_10 : decode cX0_addText 10 = .ok (.aload_n 0, 1) := zDec_at zB_dX0_addText_0 6 rfl
theorem dX0_addText_11 : decode cX0_addText 11 = .ok (.getfield 17, 3) := zDec_at zB_dX0_addText_0 7 rfl
theorem dX0_addText_14 : decode cX0_addText 14 = .ok (.aload_n 0, 1) := zDec_at zB_dX0_addText_0 8 rfl
theorem dX0_addText_15 : decode cX0_addText 15 = .ok (.getfield 21, 3) := zDec_at zB_dX0_addText_0 9 rfl
theorem dX0_addText_18 : decode cX0_addText 18 = .ok (.iload_n 2, 1) := zDec_at zB_dX0_addText_0 10 rfl
theorem dX0_addText_19 : decode cX0_addText 19 = .ok (.iastore, 1) := zDec_at zB_dX0_addText_0 11 rfl
theorem dX0_addText_20 : decode cX0_addText 20 = .ok (.aload_n 0, 1) := zDec_at zB_dX0_addText_0 12 rfl
theorem dX0_addText_21 : decode cX0_addText 21 = .ok (.dup, 1) := zDec_at zB_dX0_addText_0 13 rfl
theorem dX0_addText_22 : decode cX0_addText 22 = .ok (.getfield 21, 3) := zDec_at zB_dX0_addText_0 14 rfl
theorem dX0_addText_25 : decode cX0_addText 25 = .ok (.iconst 1, 1) := zDec_at zB_dX0_addText_0 15 rfl
theorem dX0_addText_26 : decode cX0_addText 26 = .ok (.iadd, 1) := zDec_at zB_dX0_addText_0 16 rfl
theorem dX0_addText_27 : decode cX0_addText 27 = .ok (.putfield 21, 3) := zDec_at zB_dX0_addText_0 17 rfl
theorem dX0_addText_30 : decode cX0_addText 30 = .ok (.return_, 1) := zDec_at zB_dX0_addText_0 18 rfl
theorem zB_dX0_becomeLike_0 : zDecB cX0_becomeLike [(0, .aload_n 0, 1), (1, .aload_n 1, 1), (2, .getfield 21, 3), (5, .putfield 21, 3), (8, .iconst 0, 1), (9, .istore_n 2, 1), (10, .iload_n 2, 1), (11, .bipush 20, 2), (13, .if_icmp .ge 21, 3), (16, .aload_n 0, 1), (17, .getfield 11, 3), (20, .iload_n 2, 1), (21, .aload_n 1, 1), (22, .getfield 11, 3), (25, .iload_n 2, 1), (26, .aaload, 1), (27, .aastore, 1), (28, .iinc 2 1, 3), (31, .goto (-21), 3), (34, .aload_n 1, 1), (35, .getfield 17, 3), (38, .aload_n 0, 1), (39, .getfield 17, 3), (42, .invokestatic 25, 3), (45, .return_, 1)] = true := by decide +kernel
theorem dX0_becomeLike_0 : decode cX0_becomeLike 0 = .ok (.aload_n 0, 1) := zDec_at zB_dX0_becomeLike_0 0 rfl
theorem dX0_becomeLike_1 : decode cX0_becomeLike 1 = .ok (.aload_n 1, 1) := zDec_at zB_dX0_becomeLike_0 1 rfl
theorem dX0_becomeLike_2 : decode cX0_becomeLike 2 = .ok (.getfield 21, 3) := zDec_at zB_dX0_becomeLike_0 2 rfl
theorem dX0_becomeLike_5 : decode cX0_becomeLike 5 = .ok (.putfield 21, 3) := zDec_at zB_dX0_becomeLike_0 3 rfl
theorem dX0_becomeLike_8 : decode cX0_becomeLike 8 = .ok (.iconst 0, 1) := zDec_at zB_dX0_becomeLike_0 4 rfl
theorem dX0_becomeLike_9 : decode cX0_becomeLike 9 = .ok (.istore_n 2, 1) := zDec_at zB_dX0_becomeLike_0 5 rfl
theorem dX0_becomeLike_10 : decode cX0_becomeLike 10 = .ok (.iload_n 2, 1) := zDec_at zB_dX0_becomeLike_0 6 rfl
theorem dX0_becomeLike_11 : decode cX0_becomeLike 11 = .ok (.bipush 20, 2) := zDec_at zB_dX0_becomeLike_0 7 rfl
theorem dX0_becomeLike_13 : decode cX0_becomeLike 13 = .ok (.if_icmp .ge 21, 3) := zDec_at zB_dX0_becomeLike_0 8 rfl
theorem dX0_becomeLike_16 : decode cX0_becomeLike 16 = .ok (.aload_n 0, 1) := zDec_at zB_dX0_becomeLike_0 9 rfl
theorem dX0_becomeLike_17 : decode cX0_becomeLike 17 = .ok (.getfield 11, 3) := zDec_at zB_dX0_becomeLike_0 10 rfl
theorem dX0_becomeLike_20 : decode cX0_becomeLike 20 = .ok (.iload_n 2, 1) := zDec_at zB_dX0_becomeLike_0 11 rfl
theorem dX0_becomeLike_21 : decode cX0_becomeLike 21 = .ok (.aload_n 1, 1) := zDec_at zB_dX0_becomeLike_0 12 rfl
theorem dX0_becomeLike_22 : decode cX0_becomeLike 22 = .ok (.getfield 11, 3) := zDec_at zB_dX0_becomeLike_0 13 rfl
theorem dX0_becomeLike_25 : decode cX0_becomeLike 25 = .ok (.iload_n 2, 1) := zDec_at zB_dX0_becomeLike_0 14 rfl
theorem dX0_becomeLike_26 : decode cX0_becomeLike 26 = .ok (.aaload, 1) := zDec_at zB_dX0_becomeLike_0 15 rfl
theorem dX0_becomeLike_27 : decode cX0_becomeLike 27 = .ok (.aastore, 1) := zDec_at zB_dX0_becomeLike_0 16 rfl
theorem dX0_becomeLike_28 : decode cX0_becomeLike 28 = .ok (.iinc 2 1, 3) := zDec_at zB_dX0_becomeLike_0 17 rfl
theorem dX0_becomeLike_31 : decode cX0_becomeLike 31 = .ok (.goto (-21), 3) := zDec_at zB_dX0_becomeLike_0 18 rfl
theorem dX0_becomeLike_34 : decode cX0_becomeLike 34 = .ok (.aload_n 1, 1) := zDec_at zB_dX0_becomeLike_0 19 rfl
theorem dX0_becomeLike_35 : decode cX0_becomeLike 35 = .ok (.getfield 17, 3) := zDec_at zB_dX0_becomeLike_0 20 rfl
theorem dX0_becomeLike_38 : decode cX0_becomeLike 38 = .ok (.aload_n 0, 1) := zDec_at zB_dX0_becomeLike_0 21 rfl
theorem dX0_becomeLike_39 : decode cX0_becomeLike 39 = .ok (.getfield 17, 3) := zDec_at zB_dX0_becomeLike_0 22 rfl
theorem dX0_becomeLike_42 : decode cX0_becomeLike 42 = .ok (.invokestatic 25, 3) := zDec_at zB_dX0_becomeLike_0 23 rfl
theorem dX0_becomeLike_45 : decode cX0_becomeLike 45 = .ok (.return_, 1) := zDec_at zB_dX0_becomeLike_0 24 rfl
theorem zB_dX0_dropLastText_0 : zDecB cX0_dropLastText [(0, .aload_n 0, 1), (1, .dup, 1), (2, .getfield 21, 3), (5, .iconst 1, 1), (6, .isub, 1), (7, .putfield 21, 3), (10, .aload_n 0, 1), (11, .getfield 11, 3), (14, .aload_n 0, 1), (15, .getfield 21, 3), (18, .aconst_null, 1), (19, .aastore, 1), (20, .return_, 1)] = true := by decide +kernel
theorem dX0_dropLastText_0 : decode cX0_dropLastText 0 = .ok (.aload_n 0, 1) := zDec_at zB_dX0_dropLastText_0 0 rfl
theorem dX0_dropLastText_1 : decode cX0_dropLastText 1 = .ok (.dup, 1) := zDec_at zB_dX0_dropLastText_0 1 rfl
theorem dX0_dropLastText_2 : decode cX0_dropLastText 2 = .ok (.getfield 21, 3) := zDec_at zB_dX0_dropLastText_0 2 rfl
theorem dX0_dropLastText_5 : decode cX0_dropLastText 5 = .ok (.iconst 1, 1) := zDec_at zB_dX0_dropLastText_0 3 rfl
theorem dX0_dropLastText_6 : decode cX0_dropLastText 6 = .ok (.isub, 1) := zDec_at zB_dX0_dropLastText_0 4 rfl
theorem dX0_dropLastText_7 : decode cX0_dropLastText 7 = .ok (.putfield 21, 3) := zDec_at zB_dX0_dropLastText_0 5 rfl
theorem dX0_dropLastText_10 : decode cX0_dropLastText 10 = .ok (.aload_n 0, 1) := zDec_at zB_dX0_dropLastText_0 6 rfl
theorem dX0_dropLastText_11 : decode cX0_dropLastText 11 = .ok (.getfield 11, 3) := zDec_at zB_dX0_dropLastText_0 7 rfl
theorem dX0_dropLastText_14 : decode cX0_dropLastText 14 = .ok (.aload_n 0, 1) := zDec_at zB_dX0_dropLastText_0 8 rfl
theorem dX0_dropLastText_15 : decode cX0_dropLastText 15 = .ok (.getfield 21, 3) := zDec_at zB_dX0_dropLastText_0 9 rfl
theorem dX0_dropLastText_18 : decode cX0_dropLastText 18 = .ok (.aconst_null, 1) := zDec_at zB_dX0_dropLastText_0 10 rfl
theorem dX0_dropLastText_19 : decode cX0_dropLastText 19 = .ok (.aastore, 1) := zDec_at zB_dX0_dropLastText_0 11 rfl
theorem dX0_dropLastText_20 : decode cX0_dropLastText 20 = .ok (.return_, 1) := zDec_at zB_dX0_dropLastText_0 12 rfl
theorem zB_dX0_init_0 : zDecB cX0_init [(0, .aload_n 0, 1), (1, .invokespecial 3, 3), (4, .aload_n 0, 1), (5, .bipush 20, 2), (7, .anewarray 9, 3), (10, .putfield 11, 3), (13, .aload_n 0, 1), (14, .bipush 20, 2), (16, .newarray .int, 2), (18, .putfield 17, 3), (21, .return_, 1)] = true := by decide +kernel
theorem dX0_init_0 : decode cX0_init 0 = .ok (.aload_n 0, 1) := zDec_at zB_dX0_init_0 0 rfl
theorem dX0_init_1 : decode cX0_init 1 = .ok (.invokespecial 3, 3) := zDec_at zB_dX0_init_0 1 rfl
theorem dX0_init_4 : decode cX0_init 4 = .ok (.aload_n 0, 1) := zDec_at zB_dX0_init_0 2 rfl
theorem dX0_init_5 : decode cX0_init 5 = .ok (.bipush 20, 2) := zDec_at zB_dX0_init_0 3 rfl
theorem dX0_init_7 : decode cX0_init 7 = .ok (.anewarray 9, 3) := zDec_at zB_dX0_init_0 4 rfl
theorem dX0_init_10 : decode cX0_init 10 = .ok (.putfield 11, 3) := zDec_at zB_dX0_init_0 5 rfl
theorem dX0_init_13 : decode cX0_init 13 = .ok (.aload_n 0, 1) := zDec_at zB_dX0_init_0 6 rfl
theorem dX0_init_14 : decode cX0_init 14 = .ok (.bipush 20, 2) := zDec_at zB_dX0_init_0 7 rfl
theorem dX0_init_16 : decode cX0_init 16 = .ok (.newarray .int, 2) := zDec_at zB_dX0_init_0 8 rfl
theorem dX0_init_18 : decode cX0_init 18 = .ok (.putfield 17, 3) := zDec_at zB_dX0_init_0 9 rfl
theorem dX0_init_21 : decode cX0_init 21 = .ok (.return_, 1) := zDec_at zB_dX0_init_0 10 rfl
theorem zB_dX10_init_0 : zDecB cX10_init [(0, .aload_n 0, 1), (1, .invokespecial 3, 3), (4, .aload_n 0, 1), (5, .aload_n 1, 1), (6, .getfield 9, 3), (9, .putfield 15, 3), (12, .aload_n 0, 1), (13, .aload_n 1, 1), (14, .getfield 18, 3), (17, .aload_n 0, 1), (18, .getfield 15, 3), (21, .invokestatic 22, 3), (24, .putfield 28, 3), (27, .aload_n 0, 1), (28, .aload_n 1, 1), (29, .getfield 29, 3), (32, .aload_n 0, 1), (33, .getfield 15, 3), (36, .invokestatic 22, 3), (39, .putfield 32, 3), (42, .aload_n 0, 1), (43, .aload_n 1, 1), (44, .getfield 33, 3), (47, .iconst 2, 1), (48, .aload_n 0, 1), (49, .getfield 15, 3), (52, .imul, 1), (53, .iconst 1, 1), (54, .iadd, 1), (55, .invokestatic 22, 3), (58, .putfield 36, 3), (61, .aload_n 0, 1), (62, .aload_n 1, 1), (63, .getfield 37, 3), (66, .aload_n 1, 1), (67, .getfield 40, 3), (70, .invokestatic 22, 3), (73, .putfield 43, 3), (76, .iconst 0, 1), (77, .istore_n 2, 1)] = true := by decide +kernel
theorem dX10_init_0 : decode cX10_init 0 = .ok (.aload_n 0, 1) := zDec_at zB_dX10_init_0 0 rfl
theorem dX10_init_1 : decode cX10_init 1 = .ok (.invokespecial 3, 3) := zDec_at zB_dX10_init_0 1 rfl
theorem dX10_init_4 : decode cX10_init 4 = .ok (.aload_n 0, 1) := zDec_at zB_dX10_init_0 2 rfl
theorem dX10_init_5 : decode cX10_init 5 = .ok (.aload_n 1, 1) := zDec_at zB_dX10_init_0 3 rfl
theorem dX10_init_6 : decode cX10_init 6 = .ok (.getfield 9, 3) := zDec_at zB_dX10_init_0 4 rfl
theorem dX10_init_9 : decode cX10_init 9 = .ok (.putfield 15, 3) := zDec_at zB_dX10_init_0 5 rfl
theorem dX10_init_12 : decode cX10_init 12 = .ok (.aload_n 0, 1) := zDec_at zB_dX10_init_0 6 rfl
theorem dX10_init_13 : decode cX10_init 13 = .ok (.aload_n 1, 1) := zDec_at zB_dX10_init_0 7 rfl
theorem dX10_init_14 : decode cX10_init 14 = .ok (.getfield 18, 3) := zDec_at zB_dX10_init_0 8 rfl
theorem dX10_init_17 : decode cX10_init 17 = .ok (.aload_n 0, 1) := zDec_at zB_dX10_init_0 9 rfl
theorem dX10_init_18 : decode cX10_init 18 = .ok (.getfield 15, 3) := zDec_at zB_dX10_init_0 10 rfl
theorem dX10_init_21 : decode cX10_init 21 = .ok (.invokestatic 22, 3) := zDec_at zB_dX10_init_0 11 rfl
theorem dX10_init_24 : decode cX10_init 24 = .ok (.putfield 28, 3) := zDec_at zB_dX10_init_0 12 rfl
theorem dX10_init_27 : decode cX10_init 27 = .ok (.aload_n 0, 1) := zDec_at zB_dX10_init_0 13 rfl
theorem dX10_init_28 : decode cX10_init 28 = .ok (.aload_n 1, 1) := zDec_at zB_dX10_init_0 14 rfl
theorem dX10_init_29 : decode cX10_init 29 = .ok (.getfield 29, 3) := zDec_at zB_dX10_init_0 15 rfl
theorem dX10_init_32 : decode cX10_init 32 = .ok (.aload_n 0, 1) := zDec_at zB_dX10_init_0 16 rfl
theorem dX10_init_33 : decode cX10_init 33 = .ok (.getfield 15, 3) := zDec_at zB_dX10_init_0 17 rfl
theorem dX10_init_36 : decode cX10_init 36 = .ok (.invokestatic 22, 3) := zDec_at zB_dX10_init_0 18 rfl
theorem dX10_init_39 : decode cX10_init 39 = .ok (.putfield 32, 3) := zDec_at zB_dX10_init_0 19 rfl
theorem dX10_init_42 : decode cX10_init 42 = .ok (.aload_n 0, 1) := zDec_at zB_dX10_init_0 20 rfl
theorem dX10_init_43 : decode cX10_init 43 = .ok (.aload_n 1, 1) := zDec_at zB_dX10_init_0 21 rfl
theorem dX10_init_44 : decode cX10_init 44 = .ok (.getfield 33, 3) := zDec_at zB_dX10_init_0 22 rfl
theorem dX10_init_47 : decode cX10_init 47 = .ok (.iconst 2, 1) := zDec_at zB_dX10_init_0 23 rfl
theorem dX10_init_48 : decode cX10_init 48 = .ok (.aload_n 0, 1) := zDec_at zB_dX10_init_0 24 rfl
theorem dX10_init_49 : decode cX10_init 49 = .ok (.getfield 15, 3) := zDec_at zB_dX10_init_0 25 rfl
theorem dX10_init_52 : decode cX10_init 52 = .ok (.imul, 1) := zDec_at zB_dX10_init_0 26 rfl
theorem dX10_init_53 : decode cX10_init 53 = .ok (.iconst 1, 1) := zDec_at zB_dX10_init_0 27 rfl
theorem dX10_init_54 : decode cX10_init 54 = .ok (.iadd, 1) := zDec_at zB_dX10_init_0 28 rfl
theorem dX10_init_55 : decode cX10_init 55 = .ok (.invokestatic 22, 3) := zDec_at zB_dX10_init_0 29 rfl
theorem dX10_init_58 : decode cX10_init 58 = .ok (.putfield 36, 3) := zDec_at zB_dX10_init_0 30 rfl
theorem dX10_init_61 : decode cX10_init 61 = .ok (.aload_n 0, 1) := zDec_at zB_dX10_init_0 31 rfl
theorem dX10_init_62 : decode cX10_init 62 = .ok (.aload_n 1, 1) := zDec_at zB_dX10_init_0 32 rfl
theorem dX10_init_63 : decode cX10_init 63 = .ok (.getfield 37, 3) := zDec_at zB_dX10_init_0 33 rfl
theorem dX10_init_66 : decode cX10_init 66 = .ok (.aload_n 1, 1) := zDec_at zB_dX10_init_0 34 rfl
theorem dX10_init_67 : decode cX10_init 67 = .ok (.getfield 40, 3) := zDec_at zB_dX10_init_0 35 rfl
theorem dX10_init_70 : decode cX10_init 70 = .ok (.invokestatic 22, 3) := zDec_at zB_dX10_init_0 36 rfl
theorem dX10_init_73 : decode cX10_init 73 = .ok (.putfield 43, 3) := zDec_at zB_dX10_init_0 37 rfl
theorem dX10_init_76 : decode cX10_init 76 = .ok (.iconst 0, 1) := zDec_at zB_dX10_init_0 38 rfl
theorem dX10_init_77 : decode cX10_init 77 = .ok (.istore_n 2, 1) := zDec_at zB_dX10_init_0 39 rfl
theorem zB_dX10_init_78 : zDecB cX10_init [(78, .iconst 0, 1), (79, .istore_n 3, 1), (80, .iload_n 3, 1), (81, .aload_n 0, 1), (82, .getfield 15, 3), (85, .if_icmp .ge 24, 3), (88, .aload_n 0, 1), (89, .getfield 28, 3), (92, .iload_n 3, 1), (93, .iaload, 1), (94, .sipush 640, 3), (97, .if_icmp .ne 6, 3), (100, .iinc 2 1, 3), (103, .iinc 3 1, 3), (106, .goto (-26), 3), (109, .aload_n 0, 1), (110, .iload_n 2, 1), (111, .putfield 44, 3), (114, .return_, 1)] = true := by decide +kernel
theorem dX10_init_78 : decode cX10_init 78 = .ok (.iconst 0, 1) := zDec_at zB_dX10_init_78 0 rfl
theorem dX10_init_79 : decode cX10_init 79 = .ok (.istore_n 3, 1) := zDec_at zB_dX10_init_78 1 rfl
theorem dX10_init_80 : decode cX10_init 80 = .ok (.iload_n 3, 1) := zDec_at zB_dX10_init_78 2 rfl
theorem dX10_init_81 : decode cX10_init 81 = .ok (.aload_n 0, 1) := zDec_at zB_dX10_init_78 3 rfl
theorem dX10_init_82 : decode cX10_init 82 = .ok (.getfield 15, 3) := zDec_at zB_dX10_init_78 4 rfl
theorem dX10_init_85 : decode cX10_init 85 = .ok (.if_icmp .ge 24, 3) := zDec_at zB_dX10_init_78 5 rfl
theorem dX10_init_88 : decode cX10_init 88 = .ok (.aload_n 0, 1) := zDec_at zB_dX10_init_78 6 rfl
theorem dX10_init_89 : decode cX10_init 89 = .ok (.getfield 28, 3) := zDec_at zB_dX10_init_78 7 rfl
theorem dX10_init_92 : decode cX10_init 92 = .ok (.iload_n 3, 1) := zDec_at zB_dX10_init_78 8 rfl
theorem dX10_init_93 : decode cX10_init 93 = .ok (.iaload, 1) := zDec_at zB_dX10_init_78 9 rfl
theorem dX10_init_94 : decode cX10_init 94 = .ok (.sipush 640, 3) := zDec_at zB_dX10_init_78 10 rfl
theorem dX10_init_97 : decode cX10_init 97 = .ok (.if_icmp .ne 6, 3) := zDec_at zB_dX10_init_78 11 rfl
theorem dX10_init_100 : decode cX10_init 100 = .ok (.iinc 2 1, 3) := zDec_at zB_dX10_init_78 12 rfl
theorem dX10_init_103 : decode cX10_init 103 = .ok (.iinc 3 1, 3) := zDec_at zB_dX10_init_78 13 rfl
theorem dX10_init_106 : decode cX10_init 106 = .ok (.goto (-26), 3) := zDec_at zB_dX10_init_78 14 rfl
theorem dX10_init_109 : decode cX10_init 109 = .ok (.aload_n 0, 1) := zDec_at zB_dX10_init_78 15 rfl
theorem dX10_init_110 : decode cX10_init 110 = .ok (.iload_n 2, 1) := zDec_at zB_dX10_init_78 16 rfl
theorem dX10_init_111 : decode cX10_init 111 = .ok (.putfield 44, 3) := zDec_at zB_dX10_init_78 17 rfl
theorem dX10_init_114 : decode cX10_init 114 = .ok (.return_, 1) := zDec_at zB_dX10_init_78 18 rfl
theorem zB_dX11_act_0 : zDecB cX11_act [(0, .iload_n 1, 1), (1, .invokestatic 72, 3), (4, .ifCond .eq 9, 3), (7, .aload_n 0, 1), (8, .iconst (-1), 1), (9, .invokevirtual 55, 3), (12, .ireturn, 1), (13, .aload_n 0, 1), (14, .getfield 12, 3), (17, .getfield 187, 3), (20, .getfield 191, 3), (23, .bipush 20, 2), (25, .if_icmp .lt 10, 3), (28, .aload_n 0, 1), (29, .bipush (-5), 2), (31, .invokevirtual 55, 3), (34, .ireturn, 1), (35, .aload_n 0, 1), (36, .getfield 23, 3), (39, .invokevirtual 196, 3), (42, .astore_n 2, 1), (43, .aload_n 2, 1), (44, .ifnonnull 10, 3), (47, .aload_n 0, 1), (48, .bipush (-6), 2), (50, .invokevirtual 55, 3), (53, .ireturn, 1), (54, .aload_n 0, 1), (55, .getfield 12, 3), (58, .getfield 187, 3), (61, .aload_n 2, 1), (62, .iload_n 1, 1), (63, .invokevirtual 200, 3), (66, .aload_n 0, 1), (67, .aload_n 0, 1), (68, .getfield 12, 3), (71, .getfield 187, 3), (74, .getfield 191, 3), (77, .iconst 1, 1), (78, .isub, 1)] = true := by decide +kernel
theorem dX11_act_0 : decode cX11_act 0 = .ok (.iload_n 1, 1) := zDec_at zB_dX11_act_0 0 rfl
theorem dX11_act_1 : decode cX11_act 1 = .ok (.invokestatic 72, 3) := zDec_at zB_dX11_act_0 1 rfl
theorem dX11_act_4 : decode cX11_act 4 = .ok (.ifCond .eq 9, 3) := zDec_at zB_dX11_act_0 2 rfl
theorem dX11_act_7 : decode cX11_act 7 = .ok (.aload_n 0, 1) := zDec_at zB_dX11_act_0 3 rfl
theorem dX11_act_8 : decode cX11_act 8 = .ok (.iconst (-1), 1) := zDec_at zB_dX11_act_0 4 rfl
theorem dX11_act_9 : decode cX11_act 9 = .ok (.invokevirtual 55, 3) := zDec_at zB_dX11_act_0 5 rfl
theorem dX11_act_12 : decode cX11_act 12 = .ok (.ireturn, 1) := zDec_at zB_dX11_act_0 6 rfl
theorem dX11_act_13 : decode cX11_act 13 = .ok (.aload_n 0, 1) := zDec_at zB_dX11_act_0 7 rfl
theorem dX11_act_14 : decode cX11_act 14 = .ok (.getfield 12, 3) := zDec_at zB_dX11_act_0 8 rfl
theorem dX11_act_17 : decode cX11_act 17 = .ok (.getfield 187, 3) := zDec_at zB_dX11_act_0 9 rfl
theorem dX11_act_20 : decode cX11_act 20 = .ok (.getfield 191, 3) := zDec_at zB_dX11_act_0 10 rfl
theorem dX11_act_23 : decode cX11_act 23 = .ok (.bipush 20, 2) := zDec_at zB_dX11_act_0 11 rfl
theorem dX11_act_25 : decode cX11_act 25 = .ok (.if_icmp .lt 10, 3) := zDec_at zB_dX11_act_0 12 rfl
theorem dX11_act_28 : decode cX11_act 28 = .ok (.aload_n 0, 1) := zDec_at zB_dX11_act_0 13 rfl
theorem dX11_act_29 : decode cX11_act 29 = .ok (.bipush (-5), 2) := zDec_at zB_dX11_act_0 14 rfl
theorem dX11_act_31 : decode cX11_act 31 = .ok (.invokevirtual 55, 3) := zDec_at zB_dX11_act_0 15 rfl
theorem dX11_act_34 : decode cX11_act 34 = .ok (.ireturn, 1) := zDec_at zB_dX11_act_0 16 rfl
theorem dX11_act_35 : decode cX11_act 35 = .ok (.aload_n 0, 1) := zDec_at zB_dX11_act_0 17 rfl
theorem dX11_act_36 : decode cX11_act 36 = .ok (.getfield 23, 3) := zDec_at zB_dX11_act_0 18 rfl
theorem dX11_act_39 : decode cX11_act 39 = .ok (.invokevirtual 196, 3) := zDec_at zB_dX11_act_0 19 rfl
theorem dX11_act_42 : decode cX11_act 42 = .ok (.astore_n 2, 1) := zDec_at zB_dX11_act_0 20 rfl
theorem dX11_act_43 : decode cX11_act 43 = .ok (.aload_n 2, 1) := zDec_at zB_dX11_act_0 21 rfl
theorem dX11_act_44 : decode cX11_act 44 = .ok (.ifnonnull 10, 3) := zDec_at zB_dX11_act_0 22 rfl
theorem dX11_act_47 : decode cX11_act 47 = .ok (.aload_n 0, 1) := zDec_at zB_dX11_act_0 23 rfl
theorem dX11_act_48 : decode cX11_act 48 = .ok (.bipush (-6), 2) := zDec_at zB_dX11_act_0 24 rfl
theorem dX11_act_50 : decode cX11_act 50 = .ok (.invokevirtual 55, 3) := zDec_at zB_dX11_act_0 25 rfl
theorem dX11_act_53 : decode cX11_act 53 = .ok (.ireturn, 1) := zDec_at zB_dX11_act_0 26 rfl
theorem dX11_act_54 : decode cX11_act 54 = .ok (.aload_n 0, 1) := zDec_at zB_dX11_act_0 27 rfl
theorem dX11_act_55 : decode cX11_act 55 = .ok (.getfield 12, 3) := zDec_at zB_dX11_act_0 28 rfl
theorem dX11_act_58 : decode cX11_act 58 = .ok (.getfield 187, 3) := zDec_at zB_dX11_act_0 29 rfl
theorem dX11_act_61 : decode cX11_act 61 = .ok (.aload_n 2, 1) := zDec_at zB_dX11_act_0 30 rfl
theorem dX11_act_62 : decode cX11_act 62 = .ok (.iload_n 1, 1) := zDec_at zB_dX11_act_0 31 rfl
theorem dX11_act_63 : decode cX11_act 63 = .ok (.invokevirtual 200, 3) := zDec_at zB_dX11_act_0 32 rfl
theorem dX11_act_66 : decode cX11_act 66 = .ok (.aload_n 0, 1) := zDec_at zB_dX11_act_0 33 rfl
theorem dX11_act_67 : decode cX11_act 67 = .ok (.aload_n 0, 1) := zDec_at zB_dX11_act_0 34 rfl
theorem dX11_act_68 : decode cX11_act 68 = .ok (.getfield 12, 3) := zDec_at zB_dX11_act_0 35 rfl
theorem dX11_act_71 : decode cX11_act 71 = .ok (.getfield 187, 3) := zDec_at zB_dX11_act_0 36 rfl
theorem dX11_act_74 : decode cX11_act 74 = .ok (.getfield 191, 3) := zDec_at zB_dX11_act_0 37 rfl
theorem dX11_act_77 : decode cX11_act 77 = .ok (.iconst 1, 1) := zDec_at zB_dX11_act_0 38 rfl
theorem dX11_act_78 : decode cX11_act 78 = .ok (.isub, 1) := zDec_at zB_dX11_act_0 39 rfl
theorem dX11_act_79 : decode cX11_act 79 = .ok (.invokevirtual 55, 3) := by decide +kernel
theorem dX11_act_82 : decode cX11_act 82 = .ok (.ireturn, 1) := by decide +kernel
theorem zB_dX11_alter_0 : zDecB cX11_alter [(0, .iload_n 2, 1), (1, .iconst 1, 1), (2, .bipush 7, 2), (4, .invokestatic 47, 3), (7, .ifCond .eq 9, 3), (10, .aload_n 0, 1), (11, .iconst (-1), 1), (12, .invokevirtual 55, 3), (15, .ireturn, 1), (16, .aload_n 0, 1), (17, .getfield 12, 3), (20, .getfield 137, 3), (23, .iload_n 1, 1), (24, .invokevirtual 149, 3), (27, .ifCond .eq 10, 3), (30, .aload_n 0, 1), (31, .bipush (-2), 2), (33, .invokevirtual 55, 3), (36, .ireturn, 1), (37, .aload_n 0, 1), (38, .aload_n 0, 1), (39, .getfield 12, 3), (42, .getfield 137, 3), (45, .iload_n 1, 1), (46, .iload_n 2, 1), (47, .invokevirtual 374, 3), (50, .invokevirtual 55, 3), (53, .ireturn, 1)] = true := by decide +kernel
theorem dX11_alter_0 : decode cX11_alter 0 = .ok (.iload_n 2, 1) := zDec_at zB_dX11_alter_0 0 rfl
theorem dX11_alter_1 : decode cX11_alter 1 = .ok (.iconst 1, 1) := zDec_at zB_dX11_alter_0 1 rfl
theorem dX11_alter_2 : decode cX11_alter 2 = .ok (.bipush 7, 2) := zDec_at zB_dX11_alter_0 2 rfl
theorem dX11_alter_4 : decode cX11_alter 4 = .ok (.invokestatic 47, 3) := zDec_at zB_dX11_alter_0 3 rfl
theorem dX11_alter_7 : decode cX11_alter 7 = .ok (.ifCond .eq 9, 3) := zDec_at zB_dX11_alter_0 4 rfl
theorem dX11_alter_10 : decode cX11_alter 10 = .ok (.aload_n 0, 1) := zDec_at zB_dX11_alter_0 5 rfl
theorem dX11_alter_11 : decode cX11_alter 11 = .ok (.iconst (-1), 1) := zDec_at zB_dX11_alter_0 6 rfl
theorem dX11_alter_12 : decode cX11_alter 12 = .ok (.invokevirtual 55, 3) := zDec_at zB_dX11_alter_0 7 rfl
theorem dX11_alter_15 : decode cX11_alter 15 = .ok (.ireturn, 1) := zDec_at zB_dX11_alter_0 8 rfl
theorem dX11_alter_16 : decode cX11_alter 16 = .ok (.aload_n 0, 1) := zDec_at zB_dX11_alter_0 9 rfl
theorem dX11_alter_17 : decode cX11_alter 17 = .ok (.getfield 12, 3) := zDec_at zB_dX11_alter_0 10 rfl
theorem dX11_alter_20 : decode cX11_alter 20 = .ok (.getfield 137, 3) := zDec_at zB_dX11_alter_0 11 rfl
theorem dX11_alter_23 : decode cX11_alter 23 = .ok (.iload_n 1, 1) := zDec_at zB_dX11_alter_0 12 rfl
theorem dX11_alter_24 : decode cX11_alter 24 = .ok (.invokevirtual 149, 3) := zDec_at zB_dX11_alter_0 13 rfl
theorem dX11_alter_27 : decode cX11_alter 27 = .ok (.ifCond .eq 10, 3) := zDec_at zB_dX11_alter_0 14 rfl
theorem dX11_alter_30 : decode cX11_alter 30 = .ok (.aload_n 0, 1) := zDec_at zB_dX11_alter_0 15 rfl
theorem dX11_alter_31 : decode cX11_alter 31 = .ok (.bipush (-2), 2) := zDec_at zB_dX11_alter_0 16 rfl
theorem dX11_alter_33 : decode cX11_alter 33 = .ok (.invokevirtual 55, 3) := zDec_at zB_dX11_alter_0 17 rfl
theorem dX11_alter_36 : decode cX11_alter 36 = .ok (.ireturn, 1) := zDec_at zB_dX11_alter_0 18 rfl
theorem dX11_alter_37 : decode cX11_alter 37 = .ok (.aload_n 0, 1) := zDec_at zB_dX11_alter_0 19 rfl
theorem dX11_alter_38 : decode cX11_alter 38 = .ok (.aload_n 0, 1) := zDec_at zB_dX11_alter_0 20 rfl
theorem dX11_alter_39 : decode cX11_alter 39 = .ok (.getfield 12, 3) := zDec_at zB_dX11_alter_0 21 rfl
theorem dX11_alter_42 : decode cX11_alter 42 = .ok (.getfield 137, 3) := zDec_at zB_dX11_alter_0 22 rfl
theorem dX11_alter_45 : decode cX11_alter 45 = .ok (.iload_n 1, 1) := zDec_at zB_dX11_alter_0 23 rfl
theorem dX11_alter_46 : decode cX11_alter 46 = .ok (.iload_n 2, 1) := zDec_at zB_dX11_alter_0 24 rfl
theorem dX11_alter_47 : decode cX11_alter 47 = .ok (.invokevirtual 374, 3) := zDec_at zB_dX11_alter_0 25 rfl
theorem dX11_alter_50 : decode cX11_alter 50 = .ok (.invokevirtual 55, 3) := zDec_at zB_dX11_alter_0 26 rfl
theorem dX11_alter_53 : decode cX11_alter 53 = .ok (.ireturn, 1) := zDec_at zB_dX11_alter_0 27 rfl
theorem zB_dX11_answer_0 : zDecB cX11_answer [(0, .aload_n 0, 1), (1, .iload_n 1, 1), (2, .ifCond .ge 7, 3), (5, .iload_n 1, 1), (6, .goto 4, 3), (9, .iconst 0, 1), (10, .putfield 383, 3), (13, .iload_n 1, 1), (14, .ireturn, 1)] = true := by decide +kernel
theorem dX11_answer_0 : decode cX11_answer 0 = .ok (.aload_n 0, 1) := zDec_at zB_dX11_answer_0 0 rfl
theorem dX11_answer_1 : decode cX11_answer 1 = .ok (.iload_n 1, 1) := zDec_at zB_dX11_answer_0 1 rfl
theorem dX11_answer_2 : decode cX11_answer 2 = .ok (.ifCond .ge 7, 3) := zDec_at zB_dX11_answer_0 2 rfl
theorem dX11_answer_5 : decode cX11_answer 5 = .ok (.iload_n 1, 1) := zDec_at zB_dX11_answer_0 3 rfl
theorem dX11_answer_6 : decode cX11_answer 6 = .ok (.goto 4, 3) := zDec_at zB_dX11_answer_0 4 rfl
theorem dX11_answer_9 : decode cX11_answer 9 = .ok (.iconst 0, 1) := zDec_at zB_dX11_answer_0 5 rfl
theorem dX11_answer_10 : decode cX11_answer 10 = .ok (.putfield 383, 3) := zDec_at zB_dX11_answer_0 6 rfl
theorem dX11_answer_13 : decode cX11_answer 13 = .ok (.iload_n 1, 1) := zDec_at zB_dX11_answer_0 7 rfl
theorem dX11_answer_14 : decode cX11_answer 14 = .ok (.ireturn, 1) := zDec_at zB_dX11_answer_0 8 rfl
theorem zB_dX11_appeal_0 : zDecB cX11_appeal [(0, .aload_n 0, 1), (1, .getfield 12, 3), (4, .getfield 137, 3), (7, .astore 4, 2), (9, .iload_n 2, 1), (10, .iconst 0, 1), (11, .bipush 25, 2), (13, .invokestatic 47, 3), (16, .ifCond .ne 10, 3), (19, .iload_n 3, 1), (20, .invokestatic 72, 3), (23, .ifCond .eq 9, 3), (26, .aload_n 0, 1), (27, .iconst (-1), 1), (28, .invokevirtual 55, 3), (31, .ireturn, 1), (32, .aload 4, 2), (34, .iload_n 1, 1), (35, .invokevirtual 149, 3), (38, .ifCond .eq 10, 3), (41, .aload_n 0, 1), (42, .bipush (-2), 2), (44, .invokevirtual 55, 3), (47, .ireturn, 1), (48, .aload 4, 2), (50, .getfield 152, 3), (53, .iload_n 1, 1), (54, .iaload, 1), (55, .iconst (-1), 1), (56, .if_icmp .eq 10, 3), (59, .aload_n 0, 1), (60, .bipush (-4), 2), (62, .invokevirtual 55, 3), (65, .ireturn, 1), (66, .aload 4, 2), (68, .getfield 155, 3), (71, .iload_n 1, 1), (72, .iload_n 2, 1), (73, .iastore, 1), (74, .aload 4, 2)] = true := by decide +kernel
theorem dX11_appeal_0 : decode cX11_appeal 0 = .ok (.aload_n 0, 1) := zDec_at zB_dX11_appeal_0 0 rfl
theorem dX11_appeal_1 : decode cX11_appeal 1 = .ok (.getfield 12, 3) := zDec_at zB_dX11_appeal_0 1 rfl
theorem dX11_appeal_4 : decode cX11_appeal 4 = .ok (.getfield 137, 3) := zDec_at zB_dX11_appeal_0 2 rfl
theorem dX11_appeal_7 : decode cX11_appeal 7 = .ok (.astore 4, 2) := zDec_at zB_dX11_appeal_0 3 rfl
theorem dX11_appeal_9 : decode cX11_appeal 9 = .ok (.iload_n 2, 1) := zDec_at zB_dX11_appeal_0 4 rfl
theorem dX11_appeal_10 : decode cX11_appeal 10 = .ok (.iconst 0, 1) := zDec_at zB_dX11_appeal_0 5 rfl
theorem dX11_appeal_11 : decode cX11_appeal 11 = .ok (.bipush 25, 2) := zDec_at zB_dX11_appeal_0 6 rfl
theorem dX11_appeal_13 : decode cX11_appeal 13 = .ok (.invokestatic 47, 3) := zDec_at zB_dX11_appeal_0 7 rfl
theorem dX11_appeal_16 : decode cX11_appeal 16 = .ok (.ifCond .ne 10, 3) := zDec_at zB_dX11_appeal_0 8 rfl
theorem dX11_appeal_19 : decode cX11_appeal 19 = .ok (.iload_n 3, 1) := zDec_at zB_dX11_appeal_0 9 rfl
theorem dX11_appeal_20 : decode cX11_appeal 20 = .ok (.invokestatic 72, 3) := zDec_at zB_dX11_appeal_0 10 rfl
theorem dX11_appeal_23 : decode cX11_appeal 23 = .ok (.ifCond .eq 9, 3) := zDec_at zB_dX11_appeal_0 11 rfl
theorem dX11_appeal_26 : decode cX11_appeal 26 = .ok (.aload_n 0, 1) := zDec_at zB_dX11_appeal_0 12 rfl
theorem dX11_appeal_27 : decode cX11_appeal 27 = .ok (.iconst (-1), 1) := zDec_at zB_dX11_appeal_0 13 rfl
theorem dX11_appeal_28 : decode cX11_appeal 28 = .ok (.invokevirtual 55, 3) := zDec_at zB_dX11_appeal_0 14 rfl
theorem dX11_appeal_31 : decode cX11_appeal 31 = .ok (.ireturn, 1) := zDec_at zB_dX11_appeal_0 15 rfl
theorem dX11_appeal_32 : decode cX11_appeal 32 = .ok (.aload 4, 2) := zDec_at zB_dX11_appeal_0 16 rfl
theorem dX11_appeal_34 : decode cX11_appeal 34 = .ok (.iload_n 1, 1) := zDec_at zB_dX11_appeal_0 17 rfl
theorem dX11_appeal_35 : decode cX11_appeal 35 = .ok (.invokevirtual 149, 3) := zDec_at zB_dX11_appeal_0 18 rfl
theorem dX11_appeal_38 : decode cX11_appeal 38 = .ok (.ifCond .eq 10, 3) := zDec_at zB_dX11_appeal_0 19 rfl
theorem dX11_appeal_41 : decode cX11_appeal 41 = .ok (.aload_n 0, 1) := zDec_at zB_dX11_appeal_0 20 rfl
theorem dX11_appeal_42 : decode cX11_appeal 42 = .ok (.bipush (-2), 2) := zDec_at zB_dX11_appeal_0 21 rfl
theorem dX11_appeal_44 : decode cX11_appeal 44 = .ok (.invokevirtual 55, 3) := zDec_at zB_dX11_appeal_0 22 rfl
theorem dX11_appeal_47 : decode cX11_appeal 47 = .ok (.ireturn, 1) := zDec_at zB_dX11_appeal_0 23 rfl
theorem dX11_appeal_48 : decode cX11_appeal 48 = .ok (.aload 4, 2) := zDec_at zB_dX11_appeal_0 24 rfl
theorem dX11_appeal_50 : decode cX11_appeal 50 = .ok (.getfield 152, 3) := zDec_at zB_dX11_appeal_0 25 rfl
theorem dX11_appeal_53 : decode cX11_appeal 53 = .ok (.iload_n 1, 1) := zDec_at zB_dX11_appeal_0 26 rfl
theorem dX11_appeal_54 : decode cX11_appeal 54 = .ok (.iaload, 1) := zDec_at zB_dX11_appeal_0 27 rfl
theorem dX11_appeal_55 : decode cX11_appeal 55 = .ok (.iconst (-1), 1) := zDec_at zB_dX11_appeal_0 28 rfl
theorem dX11_appeal_56 : decode cX11_appeal 56 = .ok (.if_icmp .eq 10, 3) := zDec_at zB_dX11_appeal_0 29 rfl
theorem dX11_appeal_59 : decode cX11_appeal 59 = .ok (.aload_n 0, 1) := zDec_at zB_dX11_appeal_0 30 rfl
theorem dX11_appeal_60 : decode cX11_appeal 60 = .ok (.bipush (-4), 2) := zDec_at zB_dX11_appeal_0 31 rfl
theorem dX11_appeal_62 : decode cX11_appeal 62 = .ok (.invokevirtual 55, 3) := zDec_at zB_dX11_appeal_0 32 rfl
theorem dX11_appeal_65 : decode cX11_appeal 65 = .ok (.ireturn, 1) := zDec_at zB_dX11_appeal_0 33 rfl
theorem dX11_appeal_66 : decode cX11_appeal 66 = .ok (.aload 4, 2) := zDec_at zB_dX11_appeal_0 34 rfl
theorem dX11_appeal_68 : decode cX11_appeal 68 = .ok (.getfield 155, 3) := zDec_at zB_dX11_appeal_0 35 rfl
theorem dX11_appeal_71 : decode cX11_appeal 71 = .ok (.iload_n 1, 1) := zDec_at zB_dX11_appeal_0 36 rfl
theorem dX11_appeal_72 : decode cX11_appeal 72 = .ok (.iload_n 2, 1) := zDec_at zB_dX11_appeal_0 37 rfl
theorem dX11_appeal_73 : decode cX11_appeal 73 = .ok (.iastore, 1) := zDec_at zB_dX11_appeal_0 38 rfl
theorem dX11_appeal_74 : decode cX11_appeal 74 = .ok (.aload 4, 2) := zDec_at zB_dX11_appeal_0 39 rfl
theorem zB_dX11_appeal_76 : zDecB cX11_appeal [(76, .getfield 152, 3), (79, .iload_n 1, 1), (80, .iload_n 3, 1), (81, .iastore, 1), (82, .aload_n 0, 1), (83, .iconst 0, 1), (84, .invokevirtual 55, 3), (87, .ireturn, 1)] = true := by decide +kernel
theorem dX11_appeal_76 : decode cX11_appeal 76 = .ok (.getfield 152, 3) := zDec_at zB_dX11_appeal_76 0 rfl
theorem dX11_appeal_79 : decode cX11_appeal 79 = .ok (.iload_n 1, 1) := zDec_at zB_dX11_appeal_76 1 rfl
theorem dX11_appeal_80 : decode cX11_appeal 80 = .ok (.iload_n 3, 1) := zDec_at zB_dX11_appeal_76 2 rfl
theorem dX11_appeal_81 : decode cX11_appeal 81 = .ok (.iastore, 1) := zDec_at zB_dX11_appeal_76 3 rfl
theorem dX11_appeal_82 : decode cX11_appeal 82 = .ok (.aload_n 0, 1) := zDec_at zB_dX11_appeal_76 4 rfl
theorem dX11_appeal_83 : decode cX11_appeal 83 = .ok (.iconst 0, 1) := zDec_at zB_dX11_appeal_76 5 rfl
theorem dX11_appeal_84 : decode cX11_appeal 84 = .ok (.invokevirtual 55, 3) := zDec_at zB_dX11_appeal_76 6 rfl
theorem dX11_appeal_87 : decode cX11_appeal 87 = .ok (.ireturn, 1) := zDec_at zB_dX11_appeal_76 7 rfl
theorem zB_dX11_areNoFigures_0 : zDecB cX11_areNoFigures [(0, .iload_n 0, 1), (1, .iconst 0, 1), (2, .ldc_w 389, 3), (5, .invokestatic 47, 3), (8, .ireturn, 1)] = true := by decide +kernel
theorem dX11_areNoFigures_0 : decode cX11_areNoFigures 0 = .ok (.iload_n 0, 1) := zDec_at zB_dX11_areNoFigures_0 0 rfl
theorem dX11_areNoFigures_1 : decode cX11_areNoFigures 1 = .ok (.iconst 0, 1) := zDec_at zB_dX11_areNoFigures_0 1 rfl
theorem dX11_areNoFigures_2 : decode cX11_areNoFigures 2 = .ok (.ldc_w 389, 3) := zDec_at zB_dX11_areNoFigures_0 2 rfl
theorem dX11_areNoFigures_5 : decode cX11_areNoFigures 5 = .ok (.invokestatic 47, 3) := zDec_at zB_dX11_areNoFigures_0 3 rfl
theorem dX11_areNoFigures_8 : decode cX11_areNoFigures 8 = .ok (.ireturn, 1) := zDec_at zB_dX11_areNoFigures_0 4 rfl
theorem zB_dX11_areNoHalves_0 : zDecB cX11_areNoHalves [(0, .iload_n 0, 1), (1, .ifCond .lt 15, 3), (4, .iload_n 1, 1), (5, .sipush 800, 3), (8, .if_icmp .ge 8, 3), (11, .iload_n 0, 1), (12, .iload_n 1, 1), (13, .if_icmp .le 7, 3), (16, .iconst 1, 1), (17, .goto 4, 3), (20, .iconst 0, 1), (21, .ireturn, 1)] = true := by decide +kernel
theorem dX11_areNoHalves_0 : decode cX11_areNoHalves 0 = .ok (.iload_n 0, 1) := zDec_at zB_dX11_areNoHalves_0 0 rfl
theorem dX11_areNoHalves_1 : decode cX11_areNoHalves 1 = .ok (.ifCond .lt 15, 3) := zDec_at zB_dX11_areNoHalves_0 1 rfl
theorem dX11_areNoHalves_4 : decode cX11_areNoHalves 4 = .ok (.iload_n 1, 1) := zDec_at zB_dX11_areNoHalves_0 2 rfl
theorem dX11_areNoHalves_5 : decode cX11_areNoHalves 5 = .ok (.sipush 800, 3) := zDec_at zB_dX11_areNoHalves_0 3 rfl
theorem dX11_areNoHalves_8 : decode cX11_areNoHalves 8 = .ok (.if_icmp .ge 8, 3) := zDec_at zB_dX11_areNoHalves_0 4 rfl
theorem dX11_areNoHalves_11 : decode cX11_areNoHalves 11 = .ok (.iload_n 0, 1) := zDec_at zB_dX11_areNoHalves_0 5 rfl
theorem dX11_areNoHalves_12 : decode cX11_areNoHalves 12 = .ok (.iload_n 1, 1) := zDec_at zB_dX11_areNoHalves_0 6 rfl
theorem dX11_areNoHalves_13 : decode cX11_areNoHalves 13 = .ok (.if_icmp .le 7, 3) := zDec_at zB_dX11_areNoHalves_0 7 rfl
theorem dX11_areNoHalves_16 : decode cX11_areNoHalves 16 = .ok (.iconst 1, 1) := zDec_at zB_dX11_areNoHalves_0 8 rfl
theorem dX11_areNoHalves_17 : decode cX11_areNoHalves 17 = .ok (.goto 4, 3) := zDec_at zB_dX11_areNoHalves_0 9 rfl
theorem dX11_areNoHalves_20 : decode cX11_areNoHalves 20 = .ok (.iconst 0, 1) := zDec_at zB_dX11_areNoHalves_0 10 rfl
theorem dX11_areNoHalves_21 : decode cX11_areNoHalves 21 = .ok (.ireturn, 1) := zDec_at zB_dX11_areNoHalves_0 11 rfl
theorem zB_dX11_back_0 : zDecB cX11_back [(0, .iload_n 1, 1), (1, .iconst 0, 1), (2, .iconst 1, 1), (3, .invokestatic 47, 3), (6, .ifCond .eq 9, 3), (9, .aload_n 0, 1), (10, .iconst (-1), 1), (11, .invokevirtual 55, 3), (14, .ireturn, 1), (15, .aload_n 0, 1), (16, .getfield 16, 3), (19, .iload_n 1, 1), (20, .aaload, 1), (21, .ifnonnull 10, 3), (24, .aload_n 0, 1), (25, .bipush (-2), 2), (27, .invokevirtual 55, 3), (30, .ireturn, 1), (31, .aload_n 0, 1), (32, .getfield 12, 3), (35, .aload_n 0, 1), (36, .getfield 16, 3), (39, .iload_n 1, 1), (40, .aaload, 1), (41, .invokevirtual 380, 3), (44, .aload_n 0, 1), (45, .iconst 0, 1), (46, .invokevirtual 55, 3), (49, .ireturn, 1)] = true := by decide +kernel
theorem dX11_back_0 : decode cX11_back 0 = .ok (.iload_n 1, 1) := zDec_at zB_dX11_back_0 0 rfl
theorem dX11_back_1 : decode cX11_back 1 = .ok (.iconst 0, 1) := zDec_at zB_dX11_back_0 1 rfl
theorem dX11_back_2 : decode cX11_back 2 = .ok (.iconst 1, 1) := zDec_at zB_dX11_back_0 2 rfl
theorem dX11_back_3 : decode cX11_back 3 = .ok (.invokestatic 47, 3) := zDec_at zB_dX11_back_0 3 rfl
theorem dX11_back_6 : decode cX11_back 6 = .ok (.ifCond .eq 9, 3) := zDec_at zB_dX11_back_0 4 rfl
theorem dX11_back_9 : decode cX11_back 9 = .ok (.aload_n 0, 1) := zDec_at zB_dX11_back_0 5 rfl
theorem dX11_back_10 : decode cX11_back 10 = .ok (.iconst (-1), 1) := zDec_at zB_dX11_back_0 6 rfl
theorem dX11_back_11 : decode cX11_back 11 = .ok (.invokevirtual 55, 3) := zDec_at zB_dX11_back_0 7 rfl
theorem dX11_back_14 : decode cX11_back 14 = .ok (.ireturn, 1) := zDec_at zB_dX11_back_0 8 rfl
theorem dX11_back_15 : decode cX11_back 15 = .ok (.aload_n 0, 1) := zDec_at zB_dX11_back_0 9 rfl
theorem dX11_back_16 : decode cX11_back 16 = .ok (.getfield 16, 3) := zDec_at zB_dX11_back_0 10 rfl
theorem dX11_back_19 : decode cX11_back 19 = .ok (.iload_n 1, 1) := zDec_at zB_dX11_back_0 11 rfl
theorem dX11_back_20 : decode cX11_back 20 = .ok (.aaload, 1) := zDec_at zB_dX11_back_0 12 rfl
theorem dX11_back_21 : decode cX11_back 21 = .ok (.ifnonnull 10, 3) := zDec_at zB_dX11_back_0 13 rfl
theorem dX11_back_24 : decode cX11_back 24 = .ok (.aload_n 0, 1) := zDec_at zB_dX11_back_0 14 rfl
theorem dX11_back_25 : decode cX11_back 25 = .ok (.bipush (-2), 2) := zDec_at zB_dX11_back_0 15 rfl
theorem dX11_back_27 : decode cX11_back 27 = .ok (.invokevirtual 55, 3) := zDec_at zB_dX11_back_0 16 rfl
theorem dX11_back_30 : decode cX11_back 30 = .ok (.ireturn, 1) := zDec_at zB_dX11_back_0 17 rfl
theorem dX11_back_31 : decode cX11_back 31 = .ok (.aload_n 0, 1) := zDec_at zB_dX11_back_0 18 rfl
theorem dX11_back_32 : decode cX11_back 32 = .ok (.getfield 12, 3) := zDec_at zB_dX11_back_0 19 rfl
theorem dX11_back_35 : decode cX11_back 35 = .ok (.aload_n 0, 1) := zDec_at zB_dX11_back_0 20 rfl
theorem dX11_back_36 : decode cX11_back 36 = .ok (.getfield 16, 3) := zDec_at zB_dX11_back_0 21 rfl
theorem dX11_back_39 : decode cX11_back 39 = .ok (.iload_n 1, 1) := zDec_at zB_dX11_back_0 22 rfl
theorem dX11_back_40 : decode cX11_back 40 = .ok (.aaload, 1) := zDec_at zB_dX11_back_0 23 rfl
theorem dX11_back_41 : decode cX11_back 41 = .ok (.invokevirtual 380, 3) := zDec_at zB_dX11_back_0 24 rfl
theorem dX11_back_44 : decode cX11_back 44 = .ok (.aload_n 0, 1) := zDec_at zB_dX11_back_0 25 rfl
theorem dX11_back_45 : decode cX11_back 45 = .ok (.iconst 0, 1) := zDec_at zB_dX11_back_0 26 rfl
theorem dX11_back_46 : decode cX11_back 46 = .ok (.invokevirtual 55, 3) := zDec_at zB_dX11_back_0 27 rfl
theorem dX11_back_49 : decode cX11_back 49 = .ok (.ireturn, 1) := zDec_at zB_dX11_back_0 28 rfl
theorem zB_dX11_beside_0 : zDecB cX11_beside [(0, .iload_n 1, 1), (1, .invokestatic 72, 3), (4, .ifCond .ne 25, 3), (7, .iload_n 2, 1), (8, .invokestatic 72, 3), (11, .ifCond .ne 18, 3), (14, .aload_n 0, 1), (15, .getfield 12, 3), (18, .getfield 187, 3), (21, .getfield 191, 3), (24, .bipush 20, 2), (26, .if_icmp .lt 5, 3), (29, .iconst (-1), 1), (30, .ireturn, 1), (31, .aload_n 0, 1), (32, .getfield 23, 3), (35, .invokevirtual 196, 3), (38, .astore_n 3, 1), (39, .aload_n 3, 1), (40, .ifnonnull 5, 3), (43, .iconst (-1), 1), (44, .ireturn, 1), (45, .aload_n 0, 1), (46, .getfield 32, 3), (49, .iload_n 2, 1), (50, .invokevirtual 306, 3), (53, .aload_n 0, 1), (54, .getfield 12, 3), (57, .getfield 187, 3), (60, .aload_n 3, 1), (61, .iload_n 1, 1), (62, .invokevirtual 200, 3), (65, .aload_n 0, 1), (66, .getfield 32, 3), (69, .iload_n 2, 1), (70, .invokevirtual 365, 3), (73, .istore 4, 2), (75, .aload_n 0, 1), (76, .getfield 12, 3), (79, .getfield 187, 3)] = true := by decide +kernel
theorem dX11_beside_0 : decode cX11_beside 0 = .ok (.iload_n 1, 1) := zDec_at zB_dX11_beside_0 0 rfl
theorem dX11_beside_1 : decode cX11_beside 1 = .ok (.invokestatic 72, 3) := zDec_at zB_dX11_beside_0 1 rfl
theorem dX11_beside_4 : decode cX11_beside 4 = .ok (.ifCond .ne 25, 3) := zDec_at zB_dX11_beside_0 2 rfl
theorem dX11_beside_7 : decode cX11_beside 7 = .ok (.iload_n 2, 1) := zDec_at zB_dX11_beside_0 3 rfl
theorem dX11_beside_8 : decode cX11_beside 8 = .ok (.invokestatic 72, 3) := zDec_at zB_dX11_beside_0 4 rfl
theorem dX11_beside_11 : decode cX11_beside 11 = .ok (.ifCond .ne 18, 3) := zDec_at zB_dX11_beside_0 5 rfl
theorem dX11_beside_14 : decode cX11_beside 14 = .ok (.aload_n 0, 1) := zDec_at zB_dX11_beside_0 6 rfl
theorem dX11_beside_15 : decode cX11_beside 15 = .ok (.getfield 12, 3) := zDec_at zB_dX11_beside_0 7 rfl
theorem dX11_beside_18 : decode cX11_beside 18 = .ok (.getfield 187, 3) := zDec_at zB_dX11_beside_0 8 rfl
theorem dX11_beside_21 : decode cX11_beside 21 = .ok (.getfield 191, 3) := zDec_at zB_dX11_beside_0 9 rfl
theorem dX11_beside_24 : decode cX11_beside 24 = .ok (.bipush 20, 2) := zDec_at zB_dX11_beside_0 10 rfl
theorem dX11_beside_26 : decode cX11_beside 26 = .ok (.if_icmp .lt 5, 3) := zDec_at zB_dX11_beside_0 11 rfl
theorem dX11_beside_29 : decode cX11_beside 29 = .ok (.iconst (-1), 1) := zDec_at zB_dX11_beside_0 12 rfl
theorem dX11_beside_30 : decode cX11_beside 30 = .ok (.ireturn, 1) := zDec_at zB_dX11_beside_0 13 rfl
theorem dX11_beside_31 : decode cX11_beside 31 = .ok (.aload_n 0, 1) := zDec_at zB_dX11_beside_0 14 rfl
theorem dX11_beside_32 : decode cX11_beside 32 = .ok (.getfield 23, 3) := zDec_at zB_dX11_beside_0 15 rfl
theorem dX11_beside_35 : decode cX11_beside 35 = .ok (.invokevirtual 196, 3) := zDec_at zB_dX11_beside_0 16 rfl
theorem dX11_beside_38 : decode cX11_beside 38 = .ok (.astore_n 3, 1) := zDec_at zB_dX11_beside_0 17 rfl
theorem dX11_beside_39 : decode cX11_beside 39 = .ok (.aload_n 3, 1) := zDec_at zB_dX11_beside_0 18 rfl
theorem dX11_beside_40 : decode cX11_beside 40 = .ok (.ifnonnull 5, 3) := zDec_at zB_dX11_beside_0 19 rfl
theorem dX11_beside_43 : decode cX11_beside 43 = .ok (.iconst (-1), 1) := zDec_at zB_dX11_beside_0 20 rfl
theorem dX11_beside_44 : decode cX11_beside 44 = .ok (.ireturn, 1) := zDec_at zB_dX11_beside_0 21 rfl
theorem dX11_beside_45 : decode cX11_beside 45 = .ok (.aload_n 0, 1) := zDec_at zB_dX11_beside_0 22 rfl
theorem dX11_beside_46 : decode cX11_beside 46 = .ok (.getfield 32, 3) := zDec_at zB_dX11_beside_0 23 rfl
theorem dX11_beside_49 : decode cX11_beside 49 = .ok (.iload_n 2, 1) := zDec_at zB_dX11_beside_0 24 rfl
theorem dX11_beside_50 : decode cX11_beside 50 = .ok (.invokevirtual 306, 3) := zDec_at zB_dX11_beside_0 25 rfl
theorem dX11_beside_53 : decode cX11_beside 53 = .ok (.aload_n 0, 1) := zDec_at zB_dX11_beside_0 26 rfl
theorem dX11_beside_54 : decode cX11_beside 54 = .ok (.getfield 12, 3) := zDec_at zB_dX11_beside_0 27 rfl
theorem dX11_beside_57 : decode cX11_beside 57 = .ok (.getfield 187, 3) := zDec_at zB_dX11_beside_0 28 rfl
theorem dX11_beside_60 : decode cX11_beside 60 = .ok (.aload_n 3, 1) := zDec_at zB_dX11_beside_0 29 rfl
theorem dX11_beside_61 : decode cX11_beside 61 = .ok (.iload_n 1, 1) := zDec_at zB_dX11_beside_0 30 rfl
theorem dX11_beside_62 : decode cX11_beside 62 = .ok (.invokevirtual 200, 3) := zDec_at zB_dX11_beside_0 31 rfl
theorem dX11_beside_65 : decode cX11_beside 65 = .ok (.aload_n 0, 1) := zDec_at zB_dX11_beside_0 32 rfl
theorem dX11_beside_66 : decode cX11_beside 66 = .ok (.getfield 32, 3) := zDec_at zB_dX11_beside_0 33 rfl
theorem dX11_beside_69 : decode cX11_beside 69 = .ok (.iload_n 2, 1) := zDec_at zB_dX11_beside_0 34 rfl
theorem dX11_beside_70 : decode cX11_beside 70 = .ok (.invokevirtual 365, 3) := zDec_at zB_dX11_beside_0 35 rfl
theorem dX11_beside_73 : decode cX11_beside 73 = .ok (.istore 4, 2) := zDec_at zB_dX11_beside_0 36 rfl
theorem dX11_beside_75 : decode cX11_beside 75 = .ok (.aload_n 0, 1) := zDec_at zB_dX11_beside_0 37 rfl
theorem dX11_beside_76 : decode cX11_beside 76 = .ok (.getfield 12, 3) := zDec_at zB_dX11_beside_0 38 rfl
theorem dX11_beside_79 : decode cX11_beside 79 = .ok (.getfield 187, 3) := zDec_at zB_dX11_beside_0 39 rfl
theorem zB_dX11_beside_82 : zDecB cX11_beside [(82, .invokevirtual 368, 3), (85, .iload 4, 2), (87, .ireturn, 1)] = true := by decide +kernel
theorem dX11_beside_82 : decode cX11_beside 82 = .ok (.invokevirtual 368, 3) := zDec_at zB_dX11_beside_82 0 rfl
theorem dX11_beside_85 : decode cX11_beside 85 = .ok (.iload 4, 2) := zDec_at zB_dX11_beside_82 1 rfl
theorem dX11_beside_87 : decode cX11_beside 87 = .ok (.ireturn, 1) := zDec_at zB_dX11_beside_82 2 rfl
theorem zB_dX11_cannot_0 : zDecB cX11_cannot [(0, .iload_n 1, 1), (1, .iload_n 2, 1), (2, .invokestatic 210, 3), (5, .ifCond .ne 10, 3), (8, .iload_n 3, 1), (9, .invokestatic 72, 3), (12, .ifCond .eq 5, 3), (15, .iconst (-1), 1), (16, .ireturn, 1), (17, .aload_n 0, 1), (18, .getfield 32, 3), (21, .iload_n 3, 1), (22, .invokevirtual 306, 3), (25, .iconst 0, 1), (26, .istore 5, 2), (28, .iconst 0, 1), (29, .istore 6, 2), (31, .iload 6, 2), (33, .aload_n 0, 1), (34, .getfield 12, 3), (37, .getfield 137, 3), (40, .getfield 141, 3), (43, .if_icmp .ge 55, 3), (46, .aload_n 0, 1), (47, .getfield 12, 3), (50, .getfield 137, 3), (53, .getfield 309, 3), (56, .iload 6, 2), (58, .iaload, 1), (59, .iload_n 1, 1), (60, .iload_n 2, 1), (61, .invokestatic 47, 3), (64, .ifCond .ne 28, 3), (67, .aload_n 0, 1), (68, .getfield 32, 3), (71, .iload 6, 2), (73, .invokevirtual 312, 3), (76, .ifCond .eq 16, 3), (79, .iload 5, 2), (81, .iload 4, 2)] = true := by decide +kernel
theorem dX11_cannot_0 : decode cX11_cannot 0 = .ok (.iload_n 1, 1) := zDec_at zB_dX11_cannot_0 0 rfl
theorem dX11_cannot_1 : decode cX11_cannot 1 = .ok (.iload_n 2, 1) := zDec_at zB_dX11_cannot_0 1 rfl
theorem dX11_cannot_2 : decode cX11_cannot 2 = .ok (.invokestatic 210, 3) := zDec_at zB_dX11_cannot_0 2 rfl
theorem dX11_cannot_5 : decode cX11_cannot 5 = .ok (.ifCond .ne 10, 3) := zDec_at zB_dX11_cannot_0 3 rfl
theorem dX11_cannot_8 : decode cX11_cannot 8 = .ok (.iload_n 3, 1) := zDec_at zB_dX11_cannot_0 4 rfl
theorem dX11_cannot_9 : decode cX11_cannot 9 = .ok (.invokestatic 72, 3) := zDec_at zB_dX11_cannot_0 5 rfl
theorem dX11_cannot_12 : decode cX11_cannot 12 = .ok (.ifCond .eq 5, 3) := zDec_at zB_dX11_cannot_0 6 rfl
theorem dX11_cannot_15 : decode cX11_cannot 15 = .ok (.iconst (-1), 1) := zDec_at zB_dX11_cannot_0 7 rfl
theorem dX11_cannot_16 : decode cX11_cannot 16 = .ok (.ireturn, 1) := zDec_at zB_dX11_cannot_0 8 rfl
theorem dX11_cannot_17 : decode cX11_cannot 17 = .ok (.aload_n 0, 1) := zDec_at zB_dX11_cannot_0 9 rfl
theorem dX11_cannot_18 : decode cX11_cannot 18 = .ok (.getfield 32, 3) := zDec_at zB_dX11_cannot_0 10 rfl
theorem dX11_cannot_21 : decode cX11_cannot 21 = .ok (.iload_n 3, 1) := zDec_at zB_dX11_cannot_0 11 rfl
theorem dX11_cannot_22 : decode cX11_cannot 22 = .ok (.invokevirtual 306, 3) := zDec_at zB_dX11_cannot_0 12 rfl
theorem dX11_cannot_25 : decode cX11_cannot 25 = .ok (.iconst 0, 1) := zDec_at zB_dX11_cannot_0 13 rfl
theorem dX11_cannot_26 : decode cX11_cannot 26 = .ok (.istore 5, 2) := zDec_at zB_dX11_cannot_0 14 rfl
theorem dX11_cannot_28 : decode cX11_cannot 28 = .ok (.iconst 0, 1) := zDec_at zB_dX11_cannot_0 15 rfl
theorem dX11_cannot_29 : decode cX11_cannot 29 = .ok (.istore 6, 2) := zDec_at zB_dX11_cannot_0 16 rfl
theorem dX11_cannot_31 : decode cX11_cannot 31 = .ok (.iload 6, 2) := zDec_at zB_dX11_cannot_0 17 rfl
theorem dX11_cannot_33 : decode cX11_cannot 33 = .ok (.aload_n 0, 1) := zDec_at zB_dX11_cannot_0 18 rfl
theorem dX11_cannot_34 : decode cX11_cannot 34 = .ok (.getfield 12, 3) := zDec_at zB_dX11_cannot_0 19 rfl
theorem dX11_cannot_37 : decode cX11_cannot 37 = .ok (.getfield 137, 3) := zDec_at zB_dX11_cannot_0 20 rfl
theorem dX11_cannot_40 : decode cX11_cannot 40 = .ok (.getfield 141, 3) := zDec_at zB_dX11_cannot_0 21 rfl
theorem dX11_cannot_43 : decode cX11_cannot 43 = .ok (.if_icmp .ge 55, 3) := zDec_at zB_dX11_cannot_0 22 rfl
theorem dX11_cannot_46 : decode cX11_cannot 46 = .ok (.aload_n 0, 1) := zDec_at zB_dX11_cannot_0 23 rfl
theorem dX11_cannot_47 : decode cX11_cannot 47 = .ok (.getfield 12, 3) := zDec_at zB_dX11_cannot_0 24 rfl
theorem dX11_cannot_50 : decode cX11_cannot 50 = .ok (.getfield 137, 3) := zDec_at zB_dX11_cannot_0 25 rfl
theorem dX11_cannot_53 : decode cX11_cannot 53 = .ok (.getfield 309, 3) := zDec_at zB_dX11_cannot_0 26 rfl
theorem dX11_cannot_56 : decode cX11_cannot 56 = .ok (.iload 6, 2) := zDec_at zB_dX11_cannot_0 27 rfl
theorem dX11_cannot_58 : decode cX11_cannot 58 = .ok (.iaload, 1) := zDec_at zB_dX11_cannot_0 28 rfl
theorem dX11_cannot_59 : decode cX11_cannot 59 = .ok (.iload_n 1, 1) := zDec_at zB_dX11_cannot_0 29 rfl
theorem dX11_cannot_60 : decode cX11_cannot 60 = .ok (.iload_n 2, 1) := zDec_at zB_dX11_cannot_0 30 rfl
theorem dX11_cannot_61 : decode cX11_cannot 61 = .ok (.invokestatic 47, 3) := zDec_at zB_dX11_cannot_0 31 rfl
theorem dX11_cannot_64 : decode cX11_cannot 64 = .ok (.ifCond .ne 28, 3) := zDec_at zB_dX11_cannot_0 32 rfl
theorem dX11_cannot_67 : decode cX11_cannot 67 = .ok (.aload_n 0, 1) := zDec_at zB_dX11_cannot_0 33 rfl
theorem dX11_cannot_68 : decode cX11_cannot 68 = .ok (.getfield 32, 3) := zDec_at zB_dX11_cannot_0 34 rfl
theorem dX11_cannot_71 : decode cX11_cannot 71 = .ok (.iload 6, 2) := zDec_at zB_dX11_cannot_0 35 rfl
theorem dX11_cannot_73 : decode cX11_cannot 73 = .ok (.invokevirtual 312, 3) := zDec_at zB_dX11_cannot_0 36 rfl
theorem dX11_cannot_76 : decode cX11_cannot 76 = .ok (.ifCond .eq 16, 3) := zDec_at zB_dX11_cannot_0 37 rfl
theorem dX11_cannot_79 : decode cX11_cannot 79 = .ok (.iload 5, 2) := zDec_at zB_dX11_cannot_0 38 rfl
theorem dX11_cannot_81 : decode cX11_cannot 81 = .ok (.iload 4, 2) := zDec_at zB_dX11_cannot_0 39 rfl
theorem zB_dX11_cannot_83 : zDecB cX11_cannot [(83, .if_icmp .ne 6, 3), (86, .iload 6, 2), (88, .ireturn, 1), (89, .iinc 5 1, 3), (92, .iinc 6 1, 3), (95, .goto (-64), 3), (98, .iload 4, 2), (100, .iconst (-1), 1), (101, .if_icmp .ne 8, 3), (104, .iload 5, 2), (106, .goto 4, 3), (109, .iconst (-1), 1), (110, .ireturn, 1)] = true := by decide +kernel
theorem dX11_cannot_83 : decode cX11_cannot 83 = .ok (.if_icmp .ne 6, 3) := zDec_at zB_dX11_cannot_83 0 rfl
theorem dX11_cannot_86 : decode cX11_cannot 86 = .ok (.iload 6, 2) := zDec_at zB_dX11_cannot_83 1 rfl
theorem dX11_cannot_88 : decode cX11_cannot 88 = .ok (.ireturn, 1) := zDec_at zB_dX11_cannot_83 2 rfl
theorem dX11_cannot_89 : decode cX11_cannot 89 = .ok (.iinc 5 1, 3) := zDec_at zB_dX11_cannot_83 3 rfl
theorem dX11_cannot_92 : decode cX11_cannot 92 = .ok (.iinc 6 1, 3) := zDec_at zB_dX11_cannot_83 4 rfl
theorem dX11_cannot_95 : decode cX11_cannot 95 = .ok (.goto (-64), 3) := zDec_at zB_dX11_cannot_83 5 rfl
theorem dX11_cannot_98 : decode cX11_cannot 98 = .ok (.iload 4, 2) := zDec_at zB_dX11_cannot_83 6 rfl
theorem dX11_cannot_100 : decode cX11_cannot 100 = .ok (.iconst (-1), 1) := zDec_at zB_dX11_cannot_83 7 rfl
theorem dX11_cannot_101 : decode cX11_cannot 101 = .ok (.if_icmp .ne 8, 3) := zDec_at zB_dX11_cannot_83 8 rfl
theorem dX11_cannot_104 : decode cX11_cannot 104 = .ok (.iload 5, 2) := zDec_at zB_dX11_cannot_83 9 rfl
theorem dX11_cannot_106 : decode cX11_cannot 106 = .ok (.goto 4, 3) := zDec_at zB_dX11_cannot_83 10 rfl
theorem dX11_cannot_109 : decode cX11_cannot 109 = .ok (.iconst (-1), 1) := zDec_at zB_dX11_cannot_83 11 rfl
theorem dX11_cannot_110 : decode cX11_cannot 110 = .ok (.ireturn, 1) := zDec_at zB_dX11_cannot_83 12 rfl
theorem zB_dX11_child_0 : zDecB cX11_child [(0, .aload_n 0, 1), (1, .getfield 12, 3), (4, .getfield 43, 3), (7, .astore 6, 2), (9, .iload_n 1, 1), (10, .iconst 3, 1), (11, .bipush 18, 2), (13, .invokestatic 47, 3), (16, .ifCond .ne 23, 3), (19, .iload_n 3, 1), (20, .iconst (-1), 1), (21, .bipush 7, 2), (23, .invokestatic 47, 3), (26, .ifCond .ne 13, 3), (29, .iload 4, 2), (31, .iload 5, 2), (33, .invokestatic 51, 3), (36, .ifCond .eq 9, 3), (39, .aload_n 0, 1), (40, .iconst (-1), 1), (41, .invokevirtual 55, 3), (44, .ireturn, 1), (45, .aload 6, 2), (47, .getfield 59, 3), (50, .bipush 40, 2), (52, .if_icmp .lt 10, 3), (55, .aload_n 0, 1), (56, .bipush (-5), 2), (58, .invokevirtual 55, 3), (61, .ireturn, 1), (62, .aload_n 0, 1), (63, .aload 6, 2), (65, .iload_n 1, 1), (66, .iload_n 2, 1), (67, .iload_n 3, 1), (68, .iload 4, 2), (70, .iload 5, 2), (72, .invokevirtual 65, 3), (75, .invokevirtual 55, 3), (78, .ireturn, 1)] = true := by decide +kernel
theorem dX11_child_0 : decode cX11_child 0 = .ok (.aload_n 0, 1) := zDec_at zB_dX11_child_0 0 rfl
theorem dX11_child_1 : decode cX11_child 1 = .ok (.getfield 12, 3) := zDec_at zB_dX11_child_0 1 rfl
theorem dX11_child_4 : decode cX11_child 4 = .ok (.getfield 43, 3) := zDec_at zB_dX11_child_0 2 rfl
theorem dX11_child_7 : decode cX11_child 7 = .ok (.astore 6, 2) := zDec_at zB_dX11_child_0 3 rfl
theorem dX11_child_9 : decode cX11_child 9 = .ok (.iload_n 1, 1) := zDec_at zB_dX11_child_0 4 rfl
theorem dX11_child_10 : decode cX11_child 10 = .ok (.iconst 3, 1) := zDec_at zB_dX11_child_0 5 rfl
theorem dX11_child_11 : decode cX11_child 11 = .ok (.bipush 18, 2) := zDec_at zB_dX11_child_0 6 rfl
theorem dX11_child_13 : decode cX11_child 13 = .ok (.invokestatic 47, 3) := zDec_at zB_dX11_child_0 7 rfl
theorem dX11_child_16 : decode cX11_child 16 = .ok (.ifCond .ne 23, 3) := zDec_at zB_dX11_child_0 8 rfl
theorem dX11_child_19 : decode cX11_child 19 = .ok (.iload_n 3, 1) := zDec_at zB_dX11_child_0 9 rfl
theorem dX11_child_20 : decode cX11_child 20 = .ok (.iconst (-1), 1) := zDec_at zB_dX11_child_0 10 rfl
theorem dX11_child_21 : decode cX11_child 21 = .ok (.bipush 7, 2) := zDec_at zB_dX11_child_0 11 rfl
theorem dX11_child_23 : decode cX11_child 23 = .ok (.invokestatic 47, 3) := zDec_at zB_dX11_child_0 12 rfl
theorem dX11_child_26 : decode cX11_child 26 = .ok (.ifCond .ne 13, 3) := zDec_at zB_dX11_child_0 13 rfl
theorem dX11_child_29 : decode cX11_child 29 = .ok (.iload 4, 2) := zDec_at zB_dX11_child_0 14 rfl
theorem dX11_child_31 : decode cX11_child 31 = .ok (.iload 5, 2) := zDec_at zB_dX11_child_0 15 rfl
theorem dX11_child_33 : decode cX11_child 33 = .ok (.invokestatic 51, 3) := zDec_at zB_dX11_child_0 16 rfl
theorem dX11_child_36 : decode cX11_child 36 = .ok (.ifCond .eq 9, 3) := zDec_at zB_dX11_child_0 17 rfl
theorem dX11_child_39 : decode cX11_child 39 = .ok (.aload_n 0, 1) := zDec_at zB_dX11_child_0 18 rfl
theorem dX11_child_40 : decode cX11_child 40 = .ok (.iconst (-1), 1) := zDec_at zB_dX11_child_0 19 rfl
theorem dX11_child_41 : decode cX11_child 41 = .ok (.invokevirtual 55, 3) := zDec_at zB_dX11_child_0 20 rfl
theorem dX11_child_44 : decode cX11_child 44 = .ok (.ireturn, 1) := zDec_at zB_dX11_child_0 21 rfl
theorem dX11_child_45 : decode cX11_child 45 = .ok (.aload 6, 2) := zDec_at zB_dX11_child_0 22 rfl
theorem dX11_child_47 : decode cX11_child 47 = .ok (.getfield 59, 3) := zDec_at zB_dX11_child_0 23 rfl
theorem dX11_child_50 : decode cX11_child 50 = .ok (.bipush 40, 2) := zDec_at zB_dX11_child_0 24 rfl
theorem dX11_child_52 : decode cX11_child 52 = .ok (.if_icmp .lt 10, 3) := zDec_at zB_dX11_child_0 25 rfl
theorem dX11_child_55 : decode cX11_child 55 = .ok (.aload_n 0, 1) := zDec_at zB_dX11_child_0 26 rfl
theorem dX11_child_56 : decode cX11_child 56 = .ok (.bipush (-5), 2) := zDec_at zB_dX11_child_0 27 rfl
theorem dX11_child_58 : decode cX11_child 58 = .ok (.invokevirtual 55, 3) := zDec_at zB_dX11_child_0 28 rfl
theorem dX11_child_61 : decode cX11_child 61 = .ok (.ireturn, 1) := zDec_at zB_dX11_child_0 29 rfl
theorem dX11_child_62 : decode cX11_child 62 = .ok (.aload_n 0, 1) := zDec_at zB_dX11_child_0 30 rfl
theorem dX11_child_63 : decode cX11_child 63 = .ok (.aload 6, 2) := zDec_at zB_dX11_child_0 31 rfl
theorem dX11_child_65 : decode cX11_child 65 = .ok (.iload_n 1, 1) := zDec_at zB_dX11_child_0 32 rfl
theorem dX11_child_66 : decode cX11_child 66 = .ok (.iload_n 2, 1) := zDec_at zB_dX11_child_0 33 rfl
theorem dX11_child_67 : decode cX11_child 67 = .ok (.iload_n 3, 1) := zDec_at zB_dX11_child_0 34 rfl
theorem dX11_child_68 : decode cX11_child 68 = .ok (.iload 4, 2) := zDec_at zB_dX11_child_0 35 rfl
theorem dX11_child_70 : decode cX11_child 70 = .ok (.iload 5, 2) := zDec_at zB_dX11_child_0 36 rfl
theorem dX11_child_72 : decode cX11_child 72 = .ok (.invokevirtual 65, 3) := zDec_at zB_dX11_child_0 37 rfl
theorem dX11_child_75 : decode cX11_child 75 = .ok (.invokevirtual 55, 3) := zDec_at zB_dX11_child_0 38 rfl
theorem dX11_child_78 : decode cX11_child 78 = .ok (.ireturn, 1) := zDec_at zB_dX11_child_0 39 rfl
theorem zB_dX11_comes_0 : zDecB cX11_comes [(0, .aload_n 0, 1), (1, .getfield 12, 3), (4, .getfield 86, 3), (7, .astore 4, 2), (9, .iload_n 3, 1), (10, .invokestatic 72, 3), (13, .ifCond .eq 9, 3), (16, .aload_n 0, 1), (17, .iconst (-1), 1), (18, .invokevirtual 55, 3), (21, .ireturn, 1), (22, .aload_n 0, 1), (23, .getfield 12, 3), (26, .getfield 43, 3), (29, .iload_n 1, 1), (30, .invokevirtual 90, 3), (33, .ifCond .ne 17, 3), (36, .aload_n 0, 1), (37, .getfield 12, 3), (40, .getfield 43, 3), (43, .iload_n 2, 1), (44, .invokevirtual 76, 3), (47, .ifCond .eq 10, 3), (50, .aload_n 0, 1), (51, .bipush (-2), 2), (53, .invokevirtual 55, 3), (56, .ireturn, 1), (57, .aload 4, 2), (59, .iload_n 1, 1), (60, .iload_n 2, 1), (61, .invokevirtual 93, 3), (64, .istore 5, 2), (66, .iload 5, 2), (68, .iconst (-1), 1), (69, .if_icmp .eq 34, 3), (72, .aload 4, 2), (74, .getfield 99, 3), (77, .iload 5, 2), (79, .iaload, 1), (80, .iload_n 3, 1)] = true := by decide +kernel
theorem dX11_comes_0 : decode cX11_comes 0 = .ok (.aload_n 0, 1) := zDec_at zB_dX11_comes_0 0 rfl
theorem dX11_comes_1 : decode cX11_comes 1 = .ok (.getfield 12, 3) := zDec_at zB_dX11_comes_0 1 rfl
theorem dX11_comes_4 : decode cX11_comes 4 = .ok (.getfield 86, 3) := zDec_at zB_dX11_comes_0 2 rfl
theorem dX11_comes_7 : decode cX11_comes 7 = .ok (.astore 4, 2) := zDec_at zB_dX11_comes_0 3 rfl
theorem dX11_comes_9 : decode cX11_comes 9 = .ok (.iload_n 3, 1) := zDec_at zB_dX11_comes_0 4 rfl
theorem dX11_comes_10 : decode cX11_comes 10 = .ok (.invokestatic 72, 3) := zDec_at zB_dX11_comes_0 5 rfl
theorem dX11_comes_13 : decode cX11_comes 13 = .ok (.ifCond .eq 9, 3) := zDec_at zB_dX11_comes_0 6 rfl
theorem dX11_comes_16 : decode cX11_comes 16 = .ok (.aload_n 0, 1) := zDec_at zB_dX11_comes_0 7 rfl
theorem dX11_comes_17 : decode cX11_comes 17 = .ok (.iconst (-1), 1) := zDec_at zB_dX11_comes_0 8 rfl
theorem dX11_comes_18 : decode cX11_comes 18 = .ok (.invokevirtual 55, 3) := zDec_at zB_dX11_comes_0 9 rfl
theorem dX11_comes_21 : decode cX11_comes 21 = .ok (.ireturn, 1) := zDec_at zB_dX11_comes_0 10 rfl
theorem dX11_comes_22 : decode cX11_comes 22 = .ok (.aload_n 0, 1) := zDec_at zB_dX11_comes_0 11 rfl
theorem dX11_comes_23 : decode cX11_comes 23 = .ok (.getfield 12, 3) := zDec_at zB_dX11_comes_0 12 rfl
theorem dX11_comes_26 : decode cX11_comes 26 = .ok (.getfield 43, 3) := zDec_at zB_dX11_comes_0 13 rfl
theorem dX11_comes_29 : decode cX11_comes 29 = .ok (.iload_n 1, 1) := zDec_at zB_dX11_comes_0 14 rfl
theorem dX11_comes_30 : decode cX11_comes 30 = .ok (.invokevirtual 90, 3) := zDec_at zB_dX11_comes_0 15 rfl
theorem dX11_comes_33 : decode cX11_comes 33 = .ok (.ifCond .ne 17, 3) := zDec_at zB_dX11_comes_0 16 rfl
theorem dX11_comes_36 : decode cX11_comes 36 = .ok (.aload_n 0, 1) := zDec_at zB_dX11_comes_0 17 rfl
theorem dX11_comes_37 : decode cX11_comes 37 = .ok (.getfield 12, 3) := zDec_at zB_dX11_comes_0 18 rfl
theorem dX11_comes_40 : decode cX11_comes 40 = .ok (.getfield 43, 3) := zDec_at zB_dX11_comes_0 19 rfl
theorem dX11_comes_43 : decode cX11_comes 43 = .ok (.iload_n 2, 1) := zDec_at zB_dX11_comes_0 20 rfl
theorem dX11_comes_44 : decode cX11_comes 44 = .ok (.invokevirtual 76, 3) := zDec_at zB_dX11_comes_0 21 rfl
theorem dX11_comes_47 : decode cX11_comes 47 = .ok (.ifCond .eq 10, 3) := zDec_at zB_dX11_comes_0 22 rfl
theorem dX11_comes_50 : decode cX11_comes 50 = .ok (.aload_n 0, 1) := zDec_at zB_dX11_comes_0 23 rfl
theorem dX11_comes_51 : decode cX11_comes 51 = .ok (.bipush (-2), 2) := zDec_at zB_dX11_comes_0 24 rfl
theorem dX11_comes_53 : decode cX11_comes 53 = .ok (.invokevirtual 55, 3) := zDec_at zB_dX11_comes_0 25 rfl
theorem dX11_comes_56 : decode cX11_comes 56 = .ok (.ireturn, 1) := zDec_at zB_dX11_comes_0 26 rfl
theorem dX11_comes_57 : decode cX11_comes 57 = .ok (.aload 4, 2) := zDec_at zB_dX11_comes_0 27 rfl
theorem dX11_comes_59 : decode cX11_comes 59 = .ok (.iload_n 1, 1) := zDec_at zB_dX11_comes_0 28 rfl
theorem dX11_comes_60 : decode cX11_comes 60 = .ok (.iload_n 2, 1) := zDec_at zB_dX11_comes_0 29 rfl
theorem dX11_comes_61 : decode cX11_comes 61 = .ok (.invokevirtual 93, 3) := zDec_at zB_dX11_comes_0 30 rfl
theorem dX11_comes_64 : decode cX11_comes 64 = .ok (.istore 5, 2) := zDec_at zB_dX11_comes_0 31 rfl
theorem dX11_comes_66 : decode cX11_comes 66 = .ok (.iload 5, 2) := zDec_at zB_dX11_comes_0 32 rfl
theorem dX11_comes_68 : decode cX11_comes 68 = .ok (.iconst (-1), 1) := zDec_at zB_dX11_comes_0 33 rfl
theorem dX11_comes_69 : decode cX11_comes 69 = .ok (.if_icmp .eq 34, 3) := zDec_at zB_dX11_comes_0 34 rfl
theorem dX11_comes_72 : decode cX11_comes 72 = .ok (.aload 4, 2) := zDec_at zB_dX11_comes_0 35 rfl
theorem dX11_comes_74 : decode cX11_comes 74 = .ok (.getfield 99, 3) := zDec_at zB_dX11_comes_0 36 rfl
theorem dX11_comes_77 : decode cX11_comes 77 = .ok (.iload 5, 2) := zDec_at zB_dX11_comes_0 37 rfl
theorem dX11_comes_79 : decode cX11_comes 79 = .ok (.iaload, 1) := zDec_at zB_dX11_comes_0 38 rfl
theorem dX11_comes_80 : decode cX11_comes 80 = .ok (.iload_n 3, 1) := zDec_at zB_dX11_comes_0 39 rfl
theorem zB_dX11_comes_81 : zDecB cX11_comes [(81, .if_icmp .ge 15, 3), (84, .aload 4, 2), (86, .getfield 102, 3), (89, .iload 5, 2), (91, .iaload, 1), (92, .iload_n 3, 1), (93, .if_icmp .le 10, 3), (96, .aload_n 0, 1), (97, .bipush (-3), 2), (99, .invokevirtual 55, 3), (102, .ireturn, 1), (103, .aload 4, 2), (105, .getfield 105, 3), (108, .bipush 120, 2), (110, .if_icmp .lt 10, 3), (113, .aload_n 0, 1), (114, .bipush (-5), 2), (116, .invokevirtual 55, 3), (119, .ireturn, 1), (120, .aload_n 0, 1), (121, .aload 4, 2), (123, .iload_n 1, 1), (124, .iload_n 2, 1), (125, .iload_n 3, 1), (126, .invokevirtual 108, 3), (129, .invokevirtual 55, 3), (132, .ireturn, 1)] = true := by decide +kernel
theorem dX11_comes_81 : decode cX11_comes 81 = .ok (.if_icmp .ge 15, 3) := zDec_at zB_dX11_comes_81 0 rfl
theorem dX11_comes_84 : decode cX11_comes 84 = .ok (.aload 4, 2) := zDec_at zB_dX11_comes_81 1 rfl
theorem dX11_comes_86 : decode cX11_comes 86 = .ok (.getfield 102, 3) := zDec_at zB_dX11_comes_81 2 rfl
theorem dX11_comes_89 : decode cX11_comes 89 = .ok (.iload 5, 2) := zDec_at zB_dX11_comes_81 3 rfl
theorem dX11_comes_91 : decode cX11_comes 91 = .ok (.iaload, 1) := zDec_at zB_dX11_comes_81 4 rfl
theorem dX11_comes_92 : decode cX11_comes 92 = .ok (.iload_n 3, 1) := zDec_at zB_dX11_comes_81 5 rfl
theorem dX11_comes_93 : decode cX11_comes 93 = .ok (.if_icmp .le 10, 3) := zDec_at zB_dX11_comes_81 6 rfl
theorem dX11_comes_96 : decode cX11_comes 96 = .ok (.aload_n 0, 1) := zDec_at zB_dX11_comes_81 7 rfl
theorem dX11_comes_97 : decode cX11_comes 97 = .ok (.bipush (-3), 2) := zDec_at zB_dX11_comes_81 8 rfl
theorem dX11_comes_99 : decode cX11_comes 99 = .ok (.invokevirtual 55, 3) := zDec_at zB_dX11_comes_81 9 rfl
theorem dX11_comes_102 : decode cX11_comes 102 = .ok (.ireturn, 1) := zDec_at zB_dX11_comes_81 10 rfl
theorem dX11_comes_103 : decode cX11_comes 103 = .ok (.aload 4, 2) := zDec_at zB_dX11_comes_81 11 rfl
theorem dX11_comes_105 : decode cX11_comes 105 = .ok (.getfield 105, 3) := zDec_at zB_dX11_comes_81 12 rfl
theorem dX11_comes_108 : decode cX11_comes 108 = .ok (.bipush 120, 2) := zDec_at zB_dX11_comes_81 13 rfl
theorem dX11_comes_110 : decode cX11_comes 110 = .ok (.if_icmp .lt 10, 3) := zDec_at zB_dX11_comes_81 14 rfl
theorem dX11_comes_113 : decode cX11_comes 113 = .ok (.aload_n 0, 1) := zDec_at zB_dX11_comes_81 15 rfl
theorem dX11_comes_114 : decode cX11_comes 114 = .ok (.bipush (-5), 2) := zDec_at zB_dX11_comes_81 16 rfl
theorem dX11_comes_116 : decode cX11_comes 116 = .ok (.invokevirtual 55, 3) := zDec_at zB_dX11_comes_81 17 rfl
theorem dX11_comes_119 : decode cX11_comes 119 = .ok (.ireturn, 1) := zDec_at zB_dX11_comes_81 18 rfl
theorem dX11_comes_120 : decode cX11_comes 120 = .ok (.aload_n 0, 1) := zDec_at zB_dX11_comes_81 19 rfl
theorem dX11_comes_121 : decode cX11_comes 121 = .ok (.aload 4, 2) := zDec_at zB_dX11_comes_81 20 rfl
theorem dX11_comes_123 : decode cX11_comes 123 = .ok (.iload_n 1, 1) := zDec_at zB_dX11_comes_81 21 rfl
theorem dX11_comes_124 : decode cX11_comes 124 = .ok (.iload_n 2, 1) := zDec_at zB_dX11_comes_81 22 rfl
theorem dX11_comes_125 : decode cX11_comes 125 = .ok (.iload_n 3, 1) := zDec_at zB_dX11_comes_81 23 rfl
theorem dX11_comes_126 : decode cX11_comes 126 = .ok (.invokevirtual 108, 3) := zDec_at zB_dX11_comes_81 24 rfl
theorem dX11_comes_129 : decode cX11_comes 129 = .ok (.invokevirtual 55, 3) := zDec_at zB_dX11_comes_81 25 rfl
theorem dX11_comes_132 : decode cX11_comes 132 = .ok (.ireturn, 1) := zDec_at zB_dX11_comes_81 26 rfl
theorem zB_dX11_copyRow_0 : zDecB cX11_copyRow [(0, .aload_n 0, 1), (1, .iconst 0, 1), (2, .aload_n 1, 1), (3, .iconst 0, 1), (4, .aload_n 0, 1), (5, .arraylength, 1), (6, .aload_n 1, 1), (7, .arraylength, 1), (8, .invokestatic 390, 3), (11, .invokestatic 395, 3), (14, .return_, 1)] = true := by decide +kernel
theorem dX11_copyRow_0 : decode cX11_copyRow 0 = .ok (.aload_n 0, 1) := zDec_at zB_dX11_copyRow_0 0 rfl
theorem dX11_copyRow_1 : decode cX11_copyRow 1 = .ok (.iconst 0, 1) := zDec_at zB_dX11_copyRow_0 1 rfl
theorem dX11_copyRow_2 : decode cX11_copyRow 2 = .ok (.aload_n 1, 1) := zDec_at zB_dX11_copyRow_0 2 rfl
theorem dX11_copyRow_3 : decode cX11_copyRow 3 = .ok (.iconst 0, 1) := zDec_at zB_dX11_copyRow_0 3 rfl
theorem dX11_copyRow_4 : decode cX11_copyRow 4 = .ok (.aload_n 0, 1) := zDec_at zB_dX11_copyRow_0 4 rfl
theorem dX11_copyRow_5 : decode cX11_copyRow 5 = .ok (.arraylength, 1) := zDec_at zB_dX11_copyRow_0 5 rfl
theorem dX11_copyRow_6 : decode cX11_copyRow 6 = .ok (.aload_n 1, 1) := zDec_at zB_dX11_copyRow_0 6 rfl
theorem dX11_copyRow_7 : decode cX11_copyRow 7 = .ok (.arraylength, 1) := zDec_at zB_dX11_copyRow_0 7 rfl
theorem dX11_copyRow_8 : decode cX11_copyRow 8 = .ok (.invokestatic 390, 3) := zDec_at zB_dX11_copyRow_0 8 rfl
theorem dX11_copyRow_11 : decode cX11_copyRow 11 = .ok (.invokestatic 395, 3) := zDec_at zB_dX11_copyRow_0 9 rfl
theorem dX11_copyRow_14 : decode cX11_copyRow 14 = .ok (.return_, 1) := zDec_at zB_dX11_copyRow_0 10 rfl
theorem zB_dX11_count_0 : zDecB cX11_count [(0, .iload_n 1, 1), (1, .tableswitch 162 0 9 #[55, 66, 77, 88, 99, 110, 121, 132, 143, 154], 55), (56, .aload_n 0, 1), (57, .getfield 12, 3), (60, .getfield 43, 3), (63, .getfield 59, 3), (66, .ireturn, 1), (67, .aload_n 0, 1), (68, .getfield 12, 3), (71, .getfield 43, 3), (74, .getfield 69, 3), (77, .ireturn, 1), (78, .aload_n 0, 1), (79, .getfield 12, 3), (82, .getfield 86, 3), (85, .getfield 105, 3), (88, .ireturn, 1), (89, .aload_n 0, 1), (90, .getfield 12, 3), (93, .getfield 137, 3), (96, .getfield 141, 3), (99, .ireturn, 1), (100, .aload_n 0, 1), (101, .getfield 12, 3), (104, .getfield 187, 3), (107, .getfield 191, 3), (110, .ireturn, 1), (111, .aload_n 0, 1), (112, .getfield 12, 3), (115, .getfield 263, 3), (118, .getfield 270, 3), (121, .ireturn, 1), (122, .aload_n 0, 1), (123, .getfield 12, 3), (126, .getfield 263, 3), (129, .getfield 281, 3), (132, .ireturn, 1), (133, .aload_n 0, 1), (134, .getfield 12, 3), (137, .getfield 263, 3)] = true := by decide +kernel
theorem dX11_count_0 : decode cX11_count 0 = .ok (.iload_n 1, 1) := zDec_at zB_dX11_count_0 0 rfl
theorem dX11_count_1 : decode cX11_count 1 = .ok (.tableswitch 162 0 9 #[55, 66, 77, 88, 99, 110, 121, 132, 143, 154], 55) := zDec_at zB_dX11_count_0 1 rfl
theorem dX11_count_56 : decode cX11_count 56 = .ok (.aload_n 0, 1) := zDec_at zB_dX11_count_0 2 rfl
theorem dX11_count_57 : decode cX11_count 57 = .ok (.getfield 12, 3) := zDec_at zB_dX11_count_0 3 rfl
theorem dX11_count_60 : decode cX11_count 60 = .ok (.getfield 43, 3) := zDec_at zB_dX11_count_0 4 rfl
theorem dX11_count_63 : decode cX11_count 63 = .ok (.getfield 59, 3) := zDec_at zB_dX11_count_0 5 rfl
theorem dX11_count_66 : decode cX11_count 66 = .ok (.ireturn, 1) := zDec_at zB_dX11_count_0 6 rfl
theorem dX11_count_67 : decode cX11_count 67 = .ok (.aload_n 0, 1) := zDec_at zB_dX11_count_0 7 rfl
theorem dX11_count_68 : decode cX11_count 68 = .ok (.getfield 12, 3) := zDec_at zB_dX11_count_0 8 rfl
theorem dX11_count_71 : decode cX11_count 71 = .ok (.getfield 43, 3) := zDec_at zB_dX11_count_0 9 rfl
theorem dX11_count_74 : decode cX11_count 74 = .ok (.getfield 69, 3) := zDec_at zB_dX11_count_0 10 rfl
theorem dX11_count_77 : decode cX11_count 77 = .ok (.ireturn, 1) := zDec_at zB_dX11_count_0 11 rfl
theorem dX11_count_78 : decode cX11_count 78 = .ok (.aload_n 0, 1) := zDec_at zB_dX11_count_0 12 rfl
theorem dX11_count_79 : decode cX11_count 79 = .ok (.getfield 12, 3) := zDec_at zB_dX11_count_0 13 rfl
theorem dX11_count_82 : decode cX11_count 82 = .ok (.getfield 86, 3) := zDec_at zB_dX11_count_0 14 rfl
theorem dX11_count_85 : decode cX11_count 85 = .ok (.getfield 105, 3) := zDec_at zB_dX11_count_0 15 rfl
theorem dX11_count_88 : decode cX11_count 88 = .ok (.ireturn, 1) := zDec_at zB_dX11_count_0 16 rfl
theorem dX11_count_89 : decode cX11_count 89 = .ok (.aload_n 0, 1) := zDec_at zB_dX11_count_0 17 rfl
theorem dX11_count_90 : decode cX11_count 90 = .ok (.getfield 12, 3) := zDec_at zB_dX11_count_0 18 rfl
theorem dX11_count_93 : decode cX11_count 93 = .ok (.getfield 137, 3) := zDec_at zB_dX11_count_0 19 rfl
theorem dX11_count_96 : decode cX11_count 96 = .ok (.getfield 141, 3) := zDec_at zB_dX11_count_0 20 rfl
theorem dX11_count_99 : decode cX11_count 99 = .ok (.ireturn, 1) := zDec_at zB_dX11_count_0 21 rfl
theorem dX11_count_100 : decode cX11_count 100 = .ok (.aload_n 0, 1) := zDec_at zB_dX11_count_0 22 rfl
theorem dX11_count_101 : decode cX11_count 101 = .ok (.getfield 12, 3) := zDec_at zB_dX11_count_0 23 rfl
theorem dX11_count_104 : decode cX11_count 104 = .ok (.getfield 187, 3) := zDec_at zB_dX11_count_0 24 rfl
theorem dX11_count_107 : decode cX11_count 107 = .ok (.getfield 191, 3) := zDec_at zB_dX11_count_0 25 rfl
theorem dX11_count_110 : decode cX11_count 110 = .ok (.ireturn, 1) := zDec_at zB_dX11_count_0 26 rfl
theorem dX11_count_111 : decode cX11_count 111 = .ok (.aload_n 0, 1) := zDec_at zB_dX11_count_0 27 rfl
theorem dX11_count_112 : decode cX11_count 112 = .ok (.getfield 12, 3) := zDec_at zB_dX11_count_0 28 rfl
theorem dX11_count_115 : decode cX11_count 115 = .ok (.getfield 263, 3) := zDec_at zB_dX11_count_0 29 rfl
theorem dX11_count_118 : decode cX11_count 118 = .ok (.getfield 270, 3) := zDec_at zB_dX11_count_0 30 rfl
theorem dX11_count_121 : decode cX11_count 121 = .ok (.ireturn, 1) := zDec_at zB_dX11_count_0 31 rfl
theorem dX11_count_122 : decode cX11_count 122 = .ok (.aload_n 0, 1) := zDec_at zB_dX11_count_0 32 rfl
theorem dX11_count_123 : decode cX11_count 123 = .ok (.getfield 12, 3) := zDec_at zB_dX11_count_0 33 rfl
theorem dX11_count_126 : decode cX11_count 126 = .ok (.getfield 263, 3) := zDec_at zB_dX11_count_0 34 rfl
theorem dX11_count_129 : decode cX11_count 129 = .ok (.getfield 281, 3) := zDec_at zB_dX11_count_0 35 rfl
theorem dX11_count_132 : decode cX11_count 132 = .ok (.ireturn, 1) := zDec_at zB_dX11_count_0 36 rfl
theorem dX11_count_133 : decode cX11_count 133 = .ok (.aload_n 0, 1) := zDec_at zB_dX11_count_0 37 rfl
theorem dX11_count_134 : decode cX11_count 134 = .ok (.getfield 12, 3) := zDec_at zB_dX11_count_0 38 rfl
theorem dX11_count_137 : decode cX11_count 137 = .ok (.getfield 263, 3) := zDec_at zB_dX11_count_0 39 rfl
theorem zB_dX11_count_140 : zDecB cX11_count [(140, .getfield 315, 3), (143, .ireturn, 1), (144, .aload_n 0, 1), (145, .getfield 12, 3), (148, .getfield 263, 3), (151, .getfield 352, 3), (154, .ireturn, 1), (155, .aload_n 0, 1), (156, .getfield 23, 3), (159, .getfield 181, 3), (162, .ireturn, 1), (163, .iconst (-1), 1), (164, .ireturn, 1)] = true := by decide +kernel
theorem dX11_count_140 : decode cX11_count 140 = .ok (.getfield 315, 3) := zDec_at zB_dX11_count_140 0 rfl
theorem dX11_count_143 : decode cX11_count 143 = .ok (.ireturn, 1) := zDec_at zB_dX11_count_140 1 rfl
theorem dX11_count_144 : decode cX11_count 144 = .ok (.aload_n 0, 1) := zDec_at zB_dX11_count_140 2 rfl
theorem dX11_count_145 : decode cX11_count 145 = .ok (.getfield 12, 3) := zDec_at zB_dX11_count_140 3 rfl
theorem dX11_count_148 : decode cX11_count 148 = .ok (.getfield 263, 3) := zDec_at zB_dX11_count_140 4 rfl
theorem dX11_count_151 : decode cX11_count 151 = .ok (.getfield 352, 3) := zDec_at zB_dX11_count_140 5 rfl
theorem dX11_count_154 : decode cX11_count 154 = .ok (.ireturn, 1) := zDec_at zB_dX11_count_140 6 rfl
theorem dX11_count_155 : decode cX11_count 155 = .ok (.aload_n 0, 1) := zDec_at zB_dX11_count_140 7 rfl
theorem dX11_count_156 : decode cX11_count 156 = .ok (.getfield 23, 3) := zDec_at zB_dX11_count_140 8 rfl
theorem dX11_count_159 : decode cX11_count 159 = .ok (.getfield 181, 3) := zDec_at zB_dX11_count_140 9 rfl
theorem dX11_count_162 : decode cX11_count 162 = .ok (.ireturn, 1) := zDec_at zB_dX11_count_140 10 rfl
theorem dX11_count_163 : decode cX11_count 163 = .ok (.iconst (-1), 1) := zDec_at zB_dX11_count_140 11 rfl
theorem dX11_count_164 : decode cX11_count 164 = .ok (.ireturn, 1) := zDec_at zB_dX11_count_140 12 rfl
theorem zB_dX11_dip_0 : zDecB cX11_dip [(0, .iload_n 2, 1), (1, .iload_n 3, 1), (2, .invokestatic 210, 3), (5, .ifCond .ne 25, 3), (8, .iload 4, 2), (10, .invokestatic 72, 3), (13, .ifCond .ne 17, 3), (16, .aload_n 0, 1), (17, .getfield 12, 3), (20, .getfield 43, 3), (23, .iload_n 1, 1), (24, .invokevirtual 76, 3), (27, .ifCond .eq 5, 3), (30, .iconst (-1), 1), (31, .ireturn, 1), (32, .aload_n 0, 1), (33, .getfield 32, 3), (36, .iload_n 1, 1), (37, .iconst (-1), 1), (38, .iload_n 2, 1), (39, .iload_n 3, 1), (40, .iload 4, 2), (42, .invokevirtual 213, 3), (45, .aload_n 0, 1), (46, .getfield 32, 3), (49, .iload 5, 2), (51, .invokevirtual 217, 3), (54, .ireturn, 1)] = true := by decide +kernel
theorem dX11_dip_0 : decode cX11_dip 0 = .ok (.iload_n 2, 1) := zDec_at zB_dX11_dip_0 0 rfl
theorem dX11_dip_1 : decode cX11_dip 1 = .ok (.iload_n 3, 1) := zDec_at zB_dX11_dip_0 1 rfl
theorem dX11_dip_2 : decode cX11_dip 2 = .ok (.invokestatic 210, 3) := zDec_at zB_dX11_dip_0 2 rfl
theorem dX11_dip_5 : decode cX11_dip 5 = .ok (.ifCond .ne 25, 3) := zDec_at zB_dX11_dip_0 3 rfl
theorem dX11_dip_8 : decode cX11_dip 8 = .ok (.iload 4, 2) := zDec_at zB_dX11_dip_0 4 rfl
theorem dX11_dip_10 : decode cX11_dip 10 = .ok (.invokestatic 72, 3) := zDec_at zB_dX11_dip_0 5 rfl
theorem dX11_dip_13 : decode cX11_dip 13 = .ok (.ifCond .ne 17, 3) := zDec_at zB_dX11_dip_0 6 rfl
theorem dX11_dip_16 : decode cX11_dip 16 = .ok (.aload_n 0, 1) := zDec_at zB_dX11_dip_0 7 rfl
theorem dX11_dip_17 : decode cX11_dip 17 = .ok (.getfield 12, 3) := zDec_at zB_dX11_dip_0 8 rfl
theorem dX11_dip_20 : decode cX11_dip 20 = .ok (.getfield 43, 3) := zDec_at zB_dX11_dip_0 9 rfl
theorem dX11_dip_23 : decode cX11_dip 23 = .ok (.iload_n 1, 1) := zDec_at zB_dX11_dip_0 10 rfl
theorem dX11_dip_24 : decode cX11_dip 24 = .ok (.invokevirtual 76, 3) := zDec_at zB_dX11_dip_0 11 rfl
theorem dX11_dip_27 : decode cX11_dip 27 = .ok (.ifCond .eq 5, 3) := zDec_at zB_dX11_dip_0 12 rfl
theorem dX11_dip_30 : decode cX11_dip 30 = .ok (.iconst (-1), 1) := zDec_at zB_dX11_dip_0 13 rfl
theorem dX11_dip_31 : decode cX11_dip 31 = .ok (.ireturn, 1) := zDec_at zB_dX11_dip_0 14 rfl
theorem dX11_dip_32 : decode cX11_dip 32 = .ok (.aload_n 0, 1) := zDec_at zB_dX11_dip_0 15 rfl
theorem dX11_dip_33 : decode cX11_dip 33 = .ok (.getfield 32, 3) := zDec_at zB_dX11_dip_0 16 rfl
theorem dX11_dip_36 : decode cX11_dip 36 = .ok (.iload_n 1, 1) := zDec_at zB_dX11_dip_0 17 rfl
theorem dX11_dip_37 : decode cX11_dip 37 = .ok (.iconst (-1), 1) := zDec_at zB_dX11_dip_0 18 rfl
theorem dX11_dip_38 : decode cX11_dip 38 = .ok (.iload_n 2, 1) := zDec_at zB_dX11_dip_0 19 rfl
theorem dX11_dip_39 : decode cX11_dip 39 = .ok (.iload_n 3, 1) := zDec_at zB_dX11_dip_0 20 rfl
theorem dX11_dip_40 : decode cX11_dip 40 = .ok (.iload 4, 2) := zDec_at zB_dX11_dip_0 21 rfl
theorem dX11_dip_42 : decode cX11_dip 42 = .ok (.invokevirtual 213, 3) := zDec_at zB_dX11_dip_0 22 rfl
theorem dX11_dip_45 : decode cX11_dip 45 = .ok (.aload_n 0, 1) := zDec_at zB_dX11_dip_0 23 rfl
theorem dX11_dip_46 : decode cX11_dip 46 = .ok (.getfield 32, 3) := zDec_at zB_dX11_dip_0 24 rfl
theorem dX11_dip_49 : decode cX11_dip 49 = .ok (.iload 5, 2) := zDec_at zB_dX11_dip_0 25 rfl
theorem dX11_dip_51 : decode cX11_dip 51 = .ok (.invokevirtual 217, 3) := zDec_at zB_dX11_dip_0 26 rfl
theorem dX11_dip_54 : decode cX11_dip 54 = .ok (.ireturn, 1) := zDec_at zB_dX11_dip_0 27 rfl
theorem zB_dX11_dips_0 : zDecB cX11_dips [(0, .iload_n 1, 1), (1, .iconst 0, 1), (2, .bipush 57, 2), (4, .invokestatic 47, 3), (7, .ifCond .ne 30, 3), (10, .iload_n 2, 1), (11, .invokestatic 72, 3), (14, .ifCond .ne 23, 3), (17, .iload_n 3, 1), (18, .iconst 1, 1), (19, .bipush 20, 2), (21, .invokestatic 47, 3), (24, .ifCond .ne 13, 3), (27, .iload 4, 2), (29, .iconst 0, 1), (30, .iconst 1, 1), (31, .invokestatic 47, 3), (34, .ifCond .eq 5, 3), (37, .iconst (-1), 1), (38, .ireturn, 1), (39, .aload_n 0, 1), (40, .getfield 32, 3), (43, .iload_n 1, 1), (44, .iload_n 2, 1), (45, .invokevirtual 340, 3), (48, .iload 4, 2), (50, .ifCond .ne 14, 3), (53, .aload_n 0, 1), (54, .getfield 32, 3), (57, .iload_n 3, 1), (58, .invokevirtual 343, 3), (61, .goto 10, 3), (64, .aload_n 0, 1), (65, .getfield 32, 3), (68, .invokevirtual 346, 3), (71, .ireturn, 1)] = true := by decide +kernel
theorem dX11_dips_0 : decode cX11_dips 0 = .ok (.iload_n 1, 1) := zDec_at zB_dX11_dips_0 0 rfl
theorem dX11_dips_1 : decode cX11_dips 1 = .ok (.iconst 0, 1) := zDec_at zB_dX11_dips_0 1 rfl
theorem dX11_dips_2 : decode cX11_dips 2 = .ok (.bipush 57, 2) := zDec_at zB_dX11_dips_0 2 rfl
theorem dX11_dips_4 : decode cX11_dips 4 = .ok (.invokestatic 47, 3) := zDec_at zB_dX11_dips_0 3 rfl
theorem dX11_dips_7 : decode cX11_dips 7 = .ok (.ifCond .ne 30, 3) := zDec_at zB_dX11_dips_0 4 rfl
theorem dX11_dips_10 : decode cX11_dips 10 = .ok (.iload_n 2, 1) := zDec_at zB_dX11_dips_0 5 rfl
theorem dX11_dips_11 : decode cX11_dips 11 = .ok (.invokestatic 72, 3) := zDec_at zB_dX11_dips_0 6 rfl
theorem dX11_dips_14 : decode cX11_dips 14 = .ok (.ifCond .ne 23, 3) := zDec_at zB_dX11_dips_0 7 rfl
theorem dX11_dips_17 : decode cX11_dips 17 = .ok (.iload_n 3, 1) := zDec_at zB_dX11_dips_0 8 rfl
theorem dX11_dips_18 : decode cX11_dips 18 = .ok (.iconst 1, 1) := zDec_at zB_dX11_dips_0 9 rfl
theorem dX11_dips_19 : decode cX11_dips 19 = .ok (.bipush 20, 2) := zDec_at zB_dX11_dips_0 10 rfl
theorem dX11_dips_21 : decode cX11_dips 21 = .ok (.invokestatic 47, 3) := zDec_at zB_dX11_dips_0 11 rfl
theorem dX11_dips_24 : decode cX11_dips 24 = .ok (.ifCond .ne 13, 3) := zDec_at zB_dX11_dips_0 12 rfl
theorem dX11_dips_27 : decode cX11_dips 27 = .ok (.iload 4, 2) := zDec_at zB_dX11_dips_0 13 rfl
theorem dX11_dips_29 : decode cX11_dips 29 = .ok (.iconst 0, 1) := zDec_at zB_dX11_dips_0 14 rfl
theorem dX11_dips_30 : decode cX11_dips 30 = .ok (.iconst 1, 1) := zDec_at zB_dX11_dips_0 15 rfl
theorem dX11_dips_31 : decode cX11_dips 31 = .ok (.invokestatic 47, 3) := zDec_at zB_dX11_dips_0 16 rfl
theorem dX11_dips_34 : decode cX11_dips 34 = .ok (.ifCond .eq 5, 3) := zDec_at zB_dX11_dips_0 17 rfl
theorem dX11_dips_37 : decode cX11_dips 37 = .ok (.iconst (-1), 1) := zDec_at zB_dX11_dips_0 18 rfl
theorem dX11_dips_38 : decode cX11_dips 38 = .ok (.ireturn, 1) := zDec_at zB_dX11_dips_0 19 rfl
theorem dX11_dips_39 : decode cX11_dips 39 = .ok (.aload_n 0, 1) := zDec_at zB_dX11_dips_0 20 rfl
theorem dX11_dips_40 : decode cX11_dips 40 = .ok (.getfield 32, 3) := zDec_at zB_dX11_dips_0 21 rfl
theorem dX11_dips_43 : decode cX11_dips 43 = .ok (.iload_n 1, 1) := zDec_at zB_dX11_dips_0 22 rfl
theorem dX11_dips_44 : decode cX11_dips 44 = .ok (.iload_n 2, 1) := zDec_at zB_dX11_dips_0 23 rfl
theorem dX11_dips_45 : decode cX11_dips 45 = .ok (.invokevirtual 340, 3) := zDec_at zB_dX11_dips_0 24 rfl
theorem dX11_dips_48 : decode cX11_dips 48 = .ok (.iload 4, 2) := zDec_at zB_dX11_dips_0 25 rfl
theorem dX11_dips_50 : decode cX11_dips 50 = .ok (.ifCond .ne 14, 3) := zDec_at zB_dX11_dips_0 26 rfl
theorem dX11_dips_53 : decode cX11_dips 53 = .ok (.aload_n 0, 1) := zDec_at zB_dX11_dips_0 27 rfl
theorem dX11_dips_54 : decode cX11_dips 54 = .ok (.getfield 32, 3) := zDec_at zB_dX11_dips_0 28 rfl
theorem dX11_dips_57 : decode cX11_dips 57 = .ok (.iload_n 3, 1) := zDec_at zB_dX11_dips_0 29 rfl
theorem dX11_dips_58 : decode cX11_dips 58 = .ok (.invokevirtual 343, 3) := zDec_at zB_dX11_dips_0 30 rfl
theorem dX11_dips_61 : decode cX11_dips 61 = .ok (.goto 10, 3) := zDec_at zB_dX11_dips_0 31 rfl
theorem dX11_dips_64 : decode cX11_dips 64 = .ok (.aload_n 0, 1) := zDec_at zB_dX11_dips_0 32 rfl
theorem dX11_dips_65 : decode cX11_dips 65 = .ok (.getfield 32, 3) := zDec_at zB_dX11_dips_0 33 rfl
theorem dX11_dips_68 : decode cX11_dips 68 = .ok (.invokevirtual 346, 3) := zDec_at zB_dX11_dips_0 34 rfl
theorem dX11_dips_71 : decode cX11_dips 71 = .ok (.ireturn, 1) := zDec_at zB_dX11_dips_0 35 rfl
theorem zB_dX11_draw_0 : zDecB cX11_draw [(0, .aload_n 0, 1), (1, .getfield 12, 3), (4, .getfield 263, 3), (7, .astore 4, 2), (9, .iload_n 2, 1), (10, .iconst 0, 1), (11, .iconst 1, 1), (12, .invokestatic 47, 3), (15, .ifCond .ne 14, 3), (18, .iload_n 3, 1), (19, .bipush (-100), 2), (21, .bipush 100, 2), (23, .invokestatic 47, 3), (26, .ifCond .eq 9, 3), (29, .aload_n 0, 1), (30, .iconst (-1), 1), (31, .invokevirtual 55, 3), (34, .ireturn, 1), (35, .aload_n 0, 1), (36, .getfield 12, 3), (39, .getfield 43, 3), (42, .iload_n 1, 1), (43, .invokevirtual 90, 3), (46, .ifCond .eq 10, 3), (49, .aload_n 0, 1), (50, .bipush (-2), 2), (52, .invokevirtual 55, 3), (55, .ireturn, 1), (56, .aload 4, 2), (58, .getfield 349, 3), (61, .aload 4, 2), (63, .getfield 352, 3), (66, .iload_n 1, 1), (67, .invokestatic 284, 3), (70, .ifCond .eq 10, 3), (73, .aload_n 0, 1), (74, .bipush (-4), 2), (76, .invokevirtual 55, 3), (79, .ireturn, 1), (80, .aload 4, 2)] = true := by decide +kernel
theorem dX11_draw_0 : decode cX11_draw 0 = .ok (.aload_n 0, 1) := zDec_at zB_dX11_draw_0 0 rfl
theorem dX11_draw_1 : decode cX11_draw 1 = .ok (.getfield 12, 3) := zDec_at zB_dX11_draw_0 1 rfl
theorem dX11_draw_4 : decode cX11_draw 4 = .ok (.getfield 263, 3) := zDec_at zB_dX11_draw_0 2 rfl
theorem dX11_draw_7 : decode cX11_draw 7 = .ok (.astore 4, 2) := zDec_at zB_dX11_draw_0 3 rfl
theorem dX11_draw_9 : decode cX11_draw 9 = .ok (.iload_n 2, 1) := zDec_at zB_dX11_draw_0 4 rfl
theorem dX11_draw_10 : decode cX11_draw 10 = .ok (.iconst 0, 1) := zDec_at zB_dX11_draw_0 5 rfl
theorem dX11_draw_11 : decode cX11_draw 11 = .ok (.iconst 1, 1) := zDec_at zB_dX11_draw_0 6 rfl
theorem dX11_draw_12 : decode cX11_draw 12 = .ok (.invokestatic 47, 3) := zDec_at zB_dX11_draw_0 7 rfl
theorem dX11_draw_15 : decode cX11_draw 15 = .ok (.ifCond .ne 14, 3) := zDec_at zB_dX11_draw_0 8 rfl
theorem dX11_draw_18 : decode cX11_draw 18 = .ok (.iload_n 3, 1) := zDec_at zB_dX11_draw_0 9 rfl
theorem dX11_draw_19 : decode cX11_draw 19 = .ok (.bipush (-100), 2) := zDec_at zB_dX11_draw_0 10 rfl
theorem dX11_draw_21 : decode cX11_draw 21 = .ok (.bipush 100, 2) := zDec_at zB_dX11_draw_0 11 rfl
theorem dX11_draw_23 : decode cX11_draw 23 = .ok (.invokestatic 47, 3) := zDec_at zB_dX11_draw_0 12 rfl
theorem dX11_draw_26 : decode cX11_draw 26 = .ok (.ifCond .eq 9, 3) := zDec_at zB_dX11_draw_0 13 rfl
theorem dX11_draw_29 : decode cX11_draw 29 = .ok (.aload_n 0, 1) := zDec_at zB_dX11_draw_0 14 rfl
theorem dX11_draw_30 : decode cX11_draw 30 = .ok (.iconst (-1), 1) := zDec_at zB_dX11_draw_0 15 rfl
theorem dX11_draw_31 : decode cX11_draw 31 = .ok (.invokevirtual 55, 3) := zDec_at zB_dX11_draw_0 16 rfl
theorem dX11_draw_34 : decode cX11_draw 34 = .ok (.ireturn, 1) := zDec_at zB_dX11_draw_0 17 rfl
theorem dX11_draw_35 : decode cX11_draw 35 = .ok (.aload_n 0, 1) := zDec_at zB_dX11_draw_0 18 rfl
theorem dX11_draw_36 : decode cX11_draw 36 = .ok (.getfield 12, 3) := zDec_at zB_dX11_draw_0 19 rfl
theorem dX11_draw_39 : decode cX11_draw 39 = .ok (.getfield 43, 3) := zDec_at zB_dX11_draw_0 20 rfl
theorem dX11_draw_42 : decode cX11_draw 42 = .ok (.iload_n 1, 1) := zDec_at zB_dX11_draw_0 21 rfl
theorem dX11_draw_43 : decode cX11_draw 43 = .ok (.invokevirtual 90, 3) := zDec_at zB_dX11_draw_0 22 rfl
theorem dX11_draw_46 : decode cX11_draw 46 = .ok (.ifCond .eq 10, 3) := zDec_at zB_dX11_draw_0 23 rfl
theorem dX11_draw_49 : decode cX11_draw 49 = .ok (.aload_n 0, 1) := zDec_at zB_dX11_draw_0 24 rfl
theorem dX11_draw_50 : decode cX11_draw 50 = .ok (.bipush (-2), 2) := zDec_at zB_dX11_draw_0 25 rfl
theorem dX11_draw_52 : decode cX11_draw 52 = .ok (.invokevirtual 55, 3) := zDec_at zB_dX11_draw_0 26 rfl
theorem dX11_draw_55 : decode cX11_draw 55 = .ok (.ireturn, 1) := zDec_at zB_dX11_draw_0 27 rfl
theorem dX11_draw_56 : decode cX11_draw 56 = .ok (.aload 4, 2) := zDec_at zB_dX11_draw_0 28 rfl
theorem dX11_draw_58 : decode cX11_draw 58 = .ok (.getfield 349, 3) := zDec_at zB_dX11_draw_0 29 rfl
theorem dX11_draw_61 : decode cX11_draw 61 = .ok (.aload 4, 2) := zDec_at zB_dX11_draw_0 30 rfl
theorem dX11_draw_63 : decode cX11_draw 63 = .ok (.getfield 352, 3) := zDec_at zB_dX11_draw_0 31 rfl
theorem dX11_draw_66 : decode cX11_draw 66 = .ok (.iload_n 1, 1) := zDec_at zB_dX11_draw_0 32 rfl
theorem dX11_draw_67 : decode cX11_draw 67 = .ok (.invokestatic 284, 3) := zDec_at zB_dX11_draw_0 33 rfl
theorem dX11_draw_70 : decode cX11_draw 70 = .ok (.ifCond .eq 10, 3) := zDec_at zB_dX11_draw_0 34 rfl
theorem dX11_draw_73 : decode cX11_draw 73 = .ok (.aload_n 0, 1) := zDec_at zB_dX11_draw_0 35 rfl
theorem dX11_draw_74 : decode cX11_draw 74 = .ok (.bipush (-4), 2) := zDec_at zB_dX11_draw_0 36 rfl
theorem dX11_draw_76 : decode cX11_draw 76 = .ok (.invokevirtual 55, 3) := zDec_at zB_dX11_draw_0 37 rfl
theorem dX11_draw_79 : decode cX11_draw 79 = .ok (.ireturn, 1) := zDec_at zB_dX11_draw_0 38 rfl
theorem dX11_draw_80 : decode cX11_draw 80 = .ok (.aload 4, 2) := zDec_at zB_dX11_draw_0 39 rfl
theorem zB_dX11_draw_82 : zDecB cX11_draw [(82, .getfield 352, 3), (85, .bipush 12, 2), (87, .if_icmp .lt 10, 3), (90, .aload_n 0, 1), (91, .bipush (-5), 2), (93, .invokevirtual 55, 3), (96, .ireturn, 1), (97, .aload 4, 2), (99, .getfield 349, 3), (102, .aload 4, 2), (104, .getfield 352, 3), (107, .iload_n 1, 1), (108, .iastore, 1), (109, .aload 4, 2), (111, .getfield 355, 3), (114, .aload 4, 2), (116, .getfield 352, 3), (119, .iload_n 2, 1), (120, .iastore, 1), (121, .aload 4, 2), (123, .getfield 358, 3), (126, .aload 4, 2), (128, .getfield 352, 3), (131, .iload_n 3, 1), (132, .iastore, 1), (133, .aload 4, 2), (135, .dup, 1), (136, .getfield 352, 3), (139, .iconst 1, 1), (140, .iadd, 1), (141, .putfield 352, 3), (144, .aload_n 0, 1), (145, .aload 4, 2), (147, .getfield 352, 3), (150, .invokevirtual 55, 3), (153, .ireturn, 1)] = true := by decide +kernel
theorem dX11_draw_82 : decode cX11_draw 82 = .ok (.getfield 352, 3) := zDec_at zB_dX11_draw_82 0 rfl
theorem dX11_draw_85 : decode cX11_draw 85 = .ok (.bipush 12, 2) := zDec_at zB_dX11_draw_82 1 rfl
theorem dX11_draw_87 : decode cX11_draw 87 = .ok (.if_icmp .lt 10, 3) := zDec_at zB_dX11_draw_82 2 rfl
theorem dX11_draw_90 : decode cX11_draw 90 = .ok (.aload_n 0, 1) := zDec_at zB_dX11_draw_82 3 rfl
theorem dX11_draw_91 : decode cX11_draw 91 = .ok (.bipush (-5), 2) := zDec_at zB_dX11_draw_82 4 rfl
theorem dX11_draw_93 : decode cX11_draw 93 = .ok (.invokevirtual 55, 3) := zDec_at zB_dX11_draw_82 5 rfl
theorem dX11_draw_96 : decode cX11_draw 96 = .ok (.ireturn, 1) := zDec_at zB_dX11_draw_82 6 rfl
theorem dX11_draw_97 : decode cX11_draw 97 = .ok (.aload 4, 2) := zDec_at zB_dX11_draw_82 7 rfl
theorem dX11_draw_99 : decode cX11_draw 99 = .ok (.getfield 349, 3) := zDec_at zB_dX11_draw_82 8 rfl
theorem dX11_draw_102 : decode cX11_draw 102 = .ok (.aload 4, 2) := zDec_at zB_dX11_draw_82 9 rfl
theorem dX11_draw_104 : decode cX11_draw 104 = .ok (.getfield 352, 3) := zDec_at zB_dX11_draw_82 10 rfl
theorem dX11_draw_107 : decode cX11_draw 107 = .ok (.iload_n 1, 1) := zDec_at zB_dX11_draw_82 11 rfl
theorem dX11_draw_108 : decode cX11_draw 108 = .ok (.iastore, 1) := zDec_at zB_dX11_draw_82 12 rfl
theorem dX11_draw_109 : decode cX11_draw 109 = .ok (.aload 4, 2) := zDec_at zB_dX11_draw_82 13 rfl
theorem dX11_draw_111 : decode cX11_draw 111 = .ok (.getfield 355, 3) := zDec_at zB_dX11_draw_82 14 rfl
theorem dX11_draw_114 : decode cX11_draw 114 = .ok (.aload 4, 2) := zDec_at zB_dX11_draw_82 15 rfl
theorem dX11_draw_116 : decode cX11_draw 116 = .ok (.getfield 352, 3) := zDec_at zB_dX11_draw_82 16 rfl
theorem dX11_draw_119 : decode cX11_draw 119 = .ok (.iload_n 2, 1) := zDec_at zB_dX11_draw_82 17 rfl
theorem dX11_draw_120 : decode cX11_draw 120 = .ok (.iastore, 1) := zDec_at zB_dX11_draw_82 18 rfl
theorem dX11_draw_121 : decode cX11_draw 121 = .ok (.aload 4, 2) := zDec_at zB_dX11_draw_82 19 rfl
theorem dX11_draw_123 : decode cX11_draw 123 = .ok (.getfield 358, 3) := zDec_at zB_dX11_draw_82 20 rfl
theorem dX11_draw_126 : decode cX11_draw 126 = .ok (.aload 4, 2) := zDec_at zB_dX11_draw_82 21 rfl
theorem dX11_draw_128 : decode cX11_draw 128 = .ok (.getfield 352, 3) := zDec_at zB_dX11_draw_82 22 rfl
theorem dX11_draw_131 : decode cX11_draw 131 = .ok (.iload_n 3, 1) := zDec_at zB_dX11_draw_82 23 rfl
theorem dX11_draw_132 : decode cX11_draw 132 = .ok (.iastore, 1) := zDec_at zB_dX11_draw_82 24 rfl
theorem dX11_draw_133 : decode cX11_draw 133 = .ok (.aload 4, 2) := zDec_at zB_dX11_draw_82 25 rfl
theorem dX11_draw_135 : decode cX11_draw 135 = .ok (.dup, 1) := zDec_at zB_dX11_draw_82 26 rfl
theorem dX11_draw_136 : decode cX11_draw 136 = .ok (.getfield 352, 3) := zDec_at zB_dX11_draw_82 27 rfl
theorem dX11_draw_139 : decode cX11_draw 139 = .ok (.iconst 1, 1) := zDec_at zB_dX11_draw_82 28 rfl
theorem dX11_draw_140 : decode cX11_draw 140 = .ok (.iadd, 1) := zDec_at zB_dX11_draw_82 29 rfl
theorem dX11_draw_141 : decode cX11_draw 141 = .ok (.putfield 352, 3) := zDec_at zB_dX11_draw_82 30 rfl
theorem dX11_draw_144 : decode cX11_draw 144 = .ok (.aload_n 0, 1) := zDec_at zB_dX11_draw_82 31 rfl
theorem dX11_draw_145 : decode cX11_draw 145 = .ok (.aload 4, 2) := zDec_at zB_dX11_draw_82 32 rfl
theorem dX11_draw_147 : decode cX11_draw 147 = .ok (.getfield 352, 3) := zDec_at zB_dX11_draw_82 33 rfl
theorem dX11_draw_150 : decode cX11_draw 150 = .ok (.invokevirtual 55, 3) := zDec_at zB_dX11_draw_82 34 rfl
theorem dX11_draw_153 : decode cX11_draw 153 = .ok (.ireturn, 1) := zDec_at zB_dX11_draw_82 35 rfl
theorem zB_dX11_due_0 : zDecB cX11_due [(0, .iload_n 2, 1), (1, .invokestatic 220, 3), (4, .ifCond .ne 32, 3), (7, .iload_n 3, 1), (8, .invokestatic 72, 3), (11, .ifCond .ne 25, 3), (14, .iload 4, 2), (16, .invokestatic 72, 3), (19, .ifCond .ne 17, 3), (22, .aload_n 0, 1), (23, .getfield 12, 3), (26, .getfield 43, 3), (29, .iload_n 1, 1), (30, .invokevirtual 90, 3), (33, .ifCond .eq 5, 3), (36, .iconst (-1), 1), (37, .ireturn, 1), (38, .aload_n 0, 1), (39, .getfield 32, 3), (42, .iload_n 1, 1), (43, .iload 4, 2), (45, .invokevirtual 223, 3), (48, .aload_n 0, 1), (49, .getfield 32, 3), (52, .iload_n 1, 1), (53, .iload_n 2, 1), (54, .iload_n 3, 1), (55, .sipush 399, 3), (58, .invokevirtual 227, 3), (61, .ireturn, 1)] = true := by decide +kernel
theorem dX11_due_0 : decode cX11_due 0 = .ok (.iload_n 2, 1) := zDec_at zB_dX11_due_0 0 rfl
theorem dX11_due_1 : decode cX11_due 1 = .ok (.invokestatic 220, 3) := zDec_at zB_dX11_due_0 1 rfl
theorem dX11_due_4 : decode cX11_due 4 = .ok (.ifCond .ne 32, 3) := zDec_at zB_dX11_due_0 2 rfl
theorem dX11_due_7 : decode cX11_due 7 = .ok (.iload_n 3, 1) := zDec_at zB_dX11_due_0 3 rfl
theorem dX11_due_8 : decode cX11_due 8 = .ok (.invokestatic 72, 3) := zDec_at zB_dX11_due_0 4 rfl
theorem dX11_due_11 : decode cX11_due 11 = .ok (.ifCond .ne 25, 3) := zDec_at zB_dX11_due_0 5 rfl
theorem dX11_due_14 : decode cX11_due 14 = .ok (.iload 4, 2) := zDec_at zB_dX11_due_0 6 rfl
theorem dX11_due_16 : decode cX11_due 16 = .ok (.invokestatic 72, 3) := zDec_at zB_dX11_due_0 7 rfl
theorem dX11_due_19 : decode cX11_due 19 = .ok (.ifCond .ne 17, 3) := zDec_at zB_dX11_due_0 8 rfl
theorem dX11_due_22 : decode cX11_due 22 = .ok (.aload_n 0, 1) := zDec_at zB_dX11_due_0 9 rfl
theorem dX11_due_23 : decode cX11_due 23 = .ok (.getfield 12, 3) := zDec_at zB_dX11_due_0 10 rfl
theorem dX11_due_26 : decode cX11_due 26 = .ok (.getfield 43, 3) := zDec_at zB_dX11_due_0 11 rfl
theorem dX11_due_29 : decode cX11_due 29 = .ok (.iload_n 1, 1) := zDec_at zB_dX11_due_0 12 rfl
theorem dX11_due_30 : decode cX11_due 30 = .ok (.invokevirtual 90, 3) := zDec_at zB_dX11_due_0 13 rfl
theorem dX11_due_33 : decode cX11_due 33 = .ok (.ifCond .eq 5, 3) := zDec_at zB_dX11_due_0 14 rfl
theorem dX11_due_36 : decode cX11_due 36 = .ok (.iconst (-1), 1) := zDec_at zB_dX11_due_0 15 rfl
theorem dX11_due_37 : decode cX11_due 37 = .ok (.ireturn, 1) := zDec_at zB_dX11_due_0 16 rfl
theorem dX11_due_38 : decode cX11_due 38 = .ok (.aload_n 0, 1) := zDec_at zB_dX11_due_0 17 rfl
theorem dX11_due_39 : decode cX11_due 39 = .ok (.getfield 32, 3) := zDec_at zB_dX11_due_0 18 rfl
theorem dX11_due_42 : decode cX11_due 42 = .ok (.iload_n 1, 1) := zDec_at zB_dX11_due_0 19 rfl
theorem dX11_due_43 : decode cX11_due 43 = .ok (.iload 4, 2) := zDec_at zB_dX11_due_0 20 rfl
theorem dX11_due_45 : decode cX11_due 45 = .ok (.invokevirtual 223, 3) := zDec_at zB_dX11_due_0 21 rfl
theorem dX11_due_48 : decode cX11_due 48 = .ok (.aload_n 0, 1) := zDec_at zB_dX11_due_0 22 rfl
theorem dX11_due_49 : decode cX11_due 49 = .ok (.getfield 32, 3) := zDec_at zB_dX11_due_0 23 rfl
theorem dX11_due_52 : decode cX11_due 52 = .ok (.iload_n 1, 1) := zDec_at zB_dX11_due_0 24 rfl
theorem dX11_due_53 : decode cX11_due 53 = .ok (.iload_n 2, 1) := zDec_at zB_dX11_due_0 25 rfl
theorem dX11_due_54 : decode cX11_due 54 = .ok (.iload_n 3, 1) := zDec_at zB_dX11_due_0 26 rfl
theorem dX11_due_55 : decode cX11_due 55 = .ok (.sipush 399, 3) := zDec_at zB_dX11_due_0 27 rfl
theorem dX11_due_58 : decode cX11_due 58 = .ok (.invokevirtual 227, 3) := zDec_at zB_dX11_due_0 28 rfl
theorem dX11_due_61 : decode cX11_due 61 = .ok (.ireturn, 1) := zDec_at zB_dX11_due_0 29 rfl
theorem zB_dX11_end_0 : zDecB cX11_end [(0, .iload_n 1, 1), (1, .iconst 0, 1), (2, .aload_n 0, 1), (3, .getfield 23, 3), (6, .getfield 181, 3), (9, .invokestatic 47, 3), (12, .ifCond .eq 5, 3), (15, .iconst (-1), 1), (16, .ireturn, 1), (17, .aload_n 0, 1), (18, .getfield 23, 3), (21, .iload_n 1, 1), (22, .putfield 181, 3), (25, .iload_n 1, 1), (26, .ireturn, 1)] = true := by decide +kernel
theorem dX11_end_0 : decode cX11_end 0 = .ok (.iload_n 1, 1) := zDec_at zB_dX11_end_0 0 rfl
theorem dX11_end_1 : decode cX11_end 1 = .ok (.iconst 0, 1) := zDec_at zB_dX11_end_0 1 rfl
theorem dX11_end_2 : decode cX11_end 2 = .ok (.aload_n 0, 1) := zDec_at zB_dX11_end_0 2 rfl
theorem dX11_end_3 : decode cX11_end 3 = .ok (.getfield 23, 3) := zDec_at zB_dX11_end_0 3 rfl
theorem dX11_end_6 : decode cX11_end 6 = .ok (.getfield 181, 3) := zDec_at zB_dX11_end_0 4 rfl
theorem dX11_end_9 : decode cX11_end 9 = .ok (.invokestatic 47, 3) := zDec_at zB_dX11_end_0 5 rfl
theorem dX11_end_12 : decode cX11_end 12 = .ok (.ifCond .eq 5, 3) := zDec_at zB_dX11_end_0 6 rfl
theorem dX11_end_15 : decode cX11_end 15 = .ok (.iconst (-1), 1) := zDec_at zB_dX11_end_0 7 rfl
theorem dX11_end_16 : decode cX11_end 16 = .ok (.ireturn, 1) := zDec_at zB_dX11_end_0 8 rfl
theorem dX11_end_17 : decode cX11_end 17 = .ok (.aload_n 0, 1) := zDec_at zB_dX11_end_0 9 rfl
theorem dX11_end_18 : decode cX11_end 18 = .ok (.getfield 23, 3) := zDec_at zB_dX11_end_0 10 rfl
theorem dX11_end_21 : decode cX11_end 21 = .ok (.iload_n 1, 1) := zDec_at zB_dX11_end_0 11 rfl
theorem dX11_end_22 : decode cX11_end 22 = .ok (.putfield 181, 3) := zDec_at zB_dX11_end_0 12 rfl
theorem dX11_end_25 : decode cX11_end 25 = .ok (.iload_n 1, 1) := zDec_at zB_dX11_end_0 13 rfl
theorem dX11_end_26 : decode cX11_end 26 = .ok (.ireturn, 1) := zDec_at zB_dX11_end_0 14 rfl
theorem zB_dX11_failed_0 : zDecB cX11_failed [(0, .aload_n 0, 1), (1, .getfield 12, 3), (4, .getfield 43, 3), (7, .astore_n 3, 1), (8, .iload_n 1, 1), (9, .iconst 0, 1), (10, .bipush 7, 2), (12, .invokestatic 47, 3), (15, .ifCond .ne 10, 3), (18, .iload_n 2, 1), (19, .invokestatic 118, 3), (22, .ifCond .eq 9, 3), (25, .aload_n 0, 1), (26, .iconst (-1), 1), (27, .invokevirtual 55, 3), (30, .ireturn, 1), (31, .aload_n 3, 1), (32, .iload_n 1, 1), (33, .iload_n 2, 1), (34, .invokevirtual 121, 3), (37, .ifCond .eq 10, 3), (40, .aload_n 0, 1), (41, .bipush (-4), 2), (43, .invokevirtual 55, 3), (46, .ireturn, 1), (47, .aload_n 3, 1), (48, .getfield 124, 3), (51, .bipush 60, 2), (53, .if_icmp .lt 10, 3), (56, .aload_n 0, 1), (57, .bipush (-5), 2), (59, .invokevirtual 55, 3), (62, .ireturn, 1), (63, .aload_n 0, 1), (64, .aload_n 3, 1), (65, .iload_n 1, 1), (66, .iload_n 2, 1), (67, .invokevirtual 127, 3), (70, .invokevirtual 55, 3), (73, .ireturn, 1)] = true := by decide +kernel
theorem dX11_failed_0 : decode cX11_failed 0 = .ok (.aload_n 0, 1) := zDec_at zB_dX11_failed_0 0 rfl
theorem dX11_failed_1 : decode cX11_failed 1 = .ok (.getfield 12, 3) := zDec_at zB_dX11_failed_0 1 rfl
theorem dX11_failed_4 : decode cX11_failed 4 = .ok (.getfield 43, 3) := zDec_at zB_dX11_failed_0 2 rfl
theorem dX11_failed_7 : decode cX11_failed 7 = .ok (.astore_n 3, 1) := zDec_at zB_dX11_failed_0 3 rfl
theorem dX11_failed_8 : decode cX11_failed 8 = .ok (.iload_n 1, 1) := zDec_at zB_dX11_failed_0 4 rfl
theorem dX11_failed_9 : decode cX11_failed 9 = .ok (.iconst 0, 1) := zDec_at zB_dX11_failed_0 5 rfl
theorem dX11_failed_10 : decode cX11_failed 10 = .ok (.bipush 7, 2) := zDec_at zB_dX11_failed_0 6 rfl
theorem dX11_failed_12 : decode cX11_failed 12 = .ok (.invokestatic 47, 3) := zDec_at zB_dX11_failed_0 7 rfl
theorem dX11_failed_15 : decode cX11_failed 15 = .ok (.ifCond .ne 10, 3) := zDec_at zB_dX11_failed_0 8 rfl
theorem dX11_failed_18 : decode cX11_failed 18 = .ok (.iload_n 2, 1) := zDec_at zB_dX11_failed_0 9 rfl
theorem dX11_failed_19 : decode cX11_failed 19 = .ok (.invokestatic 118, 3) := zDec_at zB_dX11_failed_0 10 rfl
theorem dX11_failed_22 : decode cX11_failed 22 = .ok (.ifCond .eq 9, 3) := zDec_at zB_dX11_failed_0 11 rfl
theorem dX11_failed_25 : decode cX11_failed 25 = .ok (.aload_n 0, 1) := zDec_at zB_dX11_failed_0 12 rfl
theorem dX11_failed_26 : decode cX11_failed 26 = .ok (.iconst (-1), 1) := zDec_at zB_dX11_failed_0 13 rfl
theorem dX11_failed_27 : decode cX11_failed 27 = .ok (.invokevirtual 55, 3) := zDec_at zB_dX11_failed_0 14 rfl
theorem dX11_failed_30 : decode cX11_failed 30 = .ok (.ireturn, 1) := zDec_at zB_dX11_failed_0 15 rfl
theorem dX11_failed_31 : decode cX11_failed 31 = .ok (.aload_n 3, 1) := zDec_at zB_dX11_failed_0 16 rfl
theorem dX11_failed_32 : decode cX11_failed 32 = .ok (.iload_n 1, 1) := zDec_at zB_dX11_failed_0 17 rfl
theorem dX11_failed_33 : decode cX11_failed 33 = .ok (.iload_n 2, 1) := zDec_at zB_dX11_failed_0 18 rfl
theorem dX11_failed_34 : decode cX11_failed 34 = .ok (.invokevirtual 121, 3) := zDec_at zB_dX11_failed_0 19 rfl
theorem dX11_failed_37 : decode cX11_failed 37 = .ok (.ifCond .eq 10, 3) := zDec_at zB_dX11_failed_0 20 rfl
theorem dX11_failed_40 : decode cX11_failed 40 = .ok (.aload_n 0, 1) := zDec_at zB_dX11_failed_0 21 rfl
theorem dX11_failed_41 : decode cX11_failed 41 = .ok (.bipush (-4), 2) := zDec_at zB_dX11_failed_0 22 rfl
theorem dX11_failed_43 : decode cX11_failed 43 = .ok (.invokevirtual 55, 3) := zDec_at zB_dX11_failed_0 23 rfl
theorem dX11_failed_46 : decode cX11_failed 46 = .ok (.ireturn, 1) := zDec_at zB_dX11_failed_0 24 rfl
theorem dX11_failed_47 : decode cX11_failed 47 = .ok (.aload_n 3, 1) := zDec_at zB_dX11_failed_0 25 rfl
theorem dX11_failed_48 : decode cX11_failed 48 = .ok (.getfield 124, 3) := zDec_at zB_dX11_failed_0 26 rfl
theorem dX11_failed_51 : decode cX11_failed 51 = .ok (.bipush 60, 2) := zDec_at zB_dX11_failed_0 27 rfl
theorem dX11_failed_53 : decode cX11_failed 53 = .ok (.if_icmp .lt 10, 3) := zDec_at zB_dX11_failed_0 28 rfl
theorem dX11_failed_56 : decode cX11_failed 56 = .ok (.aload_n 0, 1) := zDec_at zB_dX11_failed_0 29 rfl
theorem dX11_failed_57 : decode cX11_failed 57 = .ok (.bipush (-5), 2) := zDec_at zB_dX11_failed_0 30 rfl
theorem dX11_failed_59 : decode cX11_failed 59 = .ok (.invokevirtual 55, 3) := zDec_at zB_dX11_failed_0 31 rfl
theorem dX11_failed_62 : decode cX11_failed 62 = .ok (.ireturn, 1) := zDec_at zB_dX11_failed_0 32 rfl
theorem dX11_failed_63 : decode cX11_failed 63 = .ok (.aload_n 0, 1) := zDec_at zB_dX11_failed_0 33 rfl
theorem dX11_failed_64 : decode cX11_failed 64 = .ok (.aload_n 3, 1) := zDec_at zB_dX11_failed_0 34 rfl
theorem dX11_failed_65 : decode cX11_failed 65 = .ok (.iload_n 1, 1) := zDec_at zB_dX11_failed_0 35 rfl
theorem dX11_failed_66 : decode cX11_failed 66 = .ok (.iload_n 2, 1) := zDec_at zB_dX11_failed_0 36 rfl
theorem dX11_failed_67 : decode cX11_failed 67 = .ok (.invokevirtual 127, 3) := zDec_at zB_dX11_failed_0 37 rfl
theorem dX11_failed_70 : decode cX11_failed 70 = .ok (.invokevirtual 55, 3) := zDec_at zB_dX11_failed_0 38 rfl
theorem dX11_failed_73 : decode cX11_failed 73 = .ok (.ireturn, 1) := zDec_at zB_dX11_failed_0 39 rfl
theorem zB_dX11_fault_0 : zDecB cX11_fault [(0, .aload_n 0, 1), (1, .getfield 23, 3), (4, .getfield 204, 3), (7, .ireturn, 1)] = true := by decide +kernel
theorem dX11_fault_0 : decode cX11_fault 0 = .ok (.aload_n 0, 1) := zDec_at zB_dX11_fault_0 0 rfl
theorem dX11_fault_1 : decode cX11_fault 1 = .ok (.getfield 23, 3) := zDec_at zB_dX11_fault_0 1 rfl
theorem dX11_fault_4 : decode cX11_fault 4 = .ok (.getfield 204, 3) := zDec_at zB_dX11_fault_0 2 rfl
theorem dX11_fault_7 : decode cX11_fault 7 = .ok (.ireturn, 1) := zDec_at zB_dX11_fault_0 3 rfl
theorem zB_dX11_feed_0 : zDecB cX11_feed [(0, .aload_n 0, 1), (1, .getfield 23, 3), (4, .getfield 181, 3), (7, .sipush 380, 3), (10, .if_icmp .le 5, 3), (13, .iconst (-1), 1), (14, .ireturn, 1), (15, .aload_n 0, 1), (16, .getfield 23, 3), (19, .iload_n 1, 1), (20, .invokevirtual 184, 3), (23, .aload_n 0, 1), (24, .getfield 23, 3), (27, .iload_n 2, 1), (28, .invokevirtual 184, 3), (31, .aload_n 0, 1), (32, .getfield 23, 3), (35, .iload_n 3, 1), (36, .invokevirtual 184, 3), (39, .aload_n 0, 1), (40, .getfield 23, 3), (43, .iload 4, 2), (45, .invokevirtual 184, 3), (48, .aload_n 0, 1), (49, .getfield 23, 3), (52, .iload 5, 2), (54, .invokevirtual 184, 3), (57, .aload_n 0, 1), (58, .getfield 23, 3), (61, .getfield 181, 3), (64, .ireturn, 1)] = true := by decide +kernel
theorem dX11_feed_0 : decode cX11_feed 0 = .ok (.aload_n 0, 1) := zDec_at zB_dX11_feed_0 0 rfl
theorem dX11_feed_1 : decode cX11_feed 1 = .ok (.getfield 23, 3) := zDec_at zB_dX11_feed_0 1 rfl
theorem dX11_feed_4 : decode cX11_feed 4 = .ok (.getfield 181, 3) := zDec_at zB_dX11_feed_0 2 rfl
theorem dX11_feed_7 : decode cX11_feed 7 = .ok (.sipush 380, 3) := zDec_at zB_dX11_feed_0 3 rfl
theorem dX11_feed_10 : decode cX11_feed 10 = .ok (.if_icmp .le 5, 3) := zDec_at zB_dX11_feed_0 4 rfl
theorem dX11_feed_13 : decode cX11_feed 13 = .ok (.iconst (-1), 1) := zDec_at zB_dX11_feed_0 5 rfl
theorem dX11_feed_14 : decode cX11_feed 14 = .ok (.ireturn, 1) := zDec_at zB_dX11_feed_0 6 rfl
theorem dX11_feed_15 : decode cX11_feed 15 = .ok (.aload_n 0, 1) := zDec_at zB_dX11_feed_0 7 rfl
theorem dX11_feed_16 : decode cX11_feed 16 = .ok (.getfield 23, 3) := zDec_at zB_dX11_feed_0 8 rfl
theorem dX11_feed_19 : decode cX11_feed 19 = .ok (.iload_n 1, 1) := zDec_at zB_dX11_feed_0 9 rfl
theorem dX11_feed_20 : decode cX11_feed 20 = .ok (.invokevirtual 184, 3) := zDec_at zB_dX11_feed_0 10 rfl
theorem dX11_feed_23 : decode cX11_feed 23 = .ok (.aload_n 0, 1) := zDec_at zB_dX11_feed_0 11 rfl
theorem dX11_feed_24 : decode cX11_feed 24 = .ok (.getfield 23, 3) := zDec_at zB_dX11_feed_0 12 rfl
theorem dX11_feed_27 : decode cX11_feed 27 = .ok (.iload_n 2, 1) := zDec_at zB_dX11_feed_0 13 rfl
theorem dX11_feed_28 : decode cX11_feed 28 = .ok (.invokevirtual 184, 3) := zDec_at zB_dX11_feed_0 14 rfl
theorem dX11_feed_31 : decode cX11_feed 31 = .ok (.aload_n 0, 1) := zDec_at zB_dX11_feed_0 15 rfl
theorem dX11_feed_32 : decode cX11_feed 32 = .ok (.getfield 23, 3) := zDec_at zB_dX11_feed_0 16 rfl
theorem dX11_feed_35 : decode cX11_feed 35 = .ok (.iload_n 3, 1) := zDec_at zB_dX11_feed_0 17 rfl
theorem dX11_feed_36 : decode cX11_feed 36 = .ok (.invokevirtual 184, 3) := zDec_at zB_dX11_feed_0 18 rfl
theorem dX11_feed_39 : decode cX11_feed 39 = .ok (.aload_n 0, 1) := zDec_at zB_dX11_feed_0 19 rfl
theorem dX11_feed_40 : decode cX11_feed 40 = .ok (.getfield 23, 3) := zDec_at zB_dX11_feed_0 20 rfl
theorem dX11_feed_43 : decode cX11_feed 43 = .ok (.iload 4, 2) := zDec_at zB_dX11_feed_0 21 rfl
theorem dX11_feed_45 : decode cX11_feed 45 = .ok (.invokevirtual 184, 3) := zDec_at zB_dX11_feed_0 22 rfl
theorem dX11_feed_48 : decode cX11_feed 48 = .ok (.aload_n 0, 1) := zDec_at zB_dX11_feed_0 23 rfl
theorem dX11_feed_49 : decode cX11_feed 49 = .ok (.getfield 23, 3) := zDec_at zB_dX11_feed_0 24 rfl
theorem dX11_feed_52 : decode cX11_feed 52 = .ok (.iload 5, 2) := zDec_at zB_dX11_feed_0 25 rfl
theorem dX11_feed_54 : decode cX11_feed 54 = .ok (.invokevirtual 184, 3) := zDec_at zB_dX11_feed_0 26 rfl
theorem dX11_feed_57 : decode cX11_feed 57 = .ok (.aload_n 0, 1) := zDec_at zB_dX11_feed_0 27 rfl
theorem dX11_feed_58 : decode cX11_feed 58 = .ok (.getfield 23, 3) := zDec_at zB_dX11_feed_0 28 rfl
theorem dX11_feed_61 : decode cX11_feed 61 = .ok (.getfield 181, 3) := zDec_at zB_dX11_feed_0 29 rfl
theorem dX11_feed_64 : decode cX11_feed 64 = .ok (.ireturn, 1) := zDec_at zB_dX11_feed_0 30 rfl
theorem zB_dX11_fine_0 : zDecB cX11_fine [(0, .iload_n 2, 1), (1, .invokestatic 220, 3), (4, .ifCond .ne 34, 3), (7, .iload_n 3, 1), (8, .invokestatic 72, 3), (11, .ifCond .ne 27, 3), (14, .iload 4, 2), (16, .iconst 0, 1), (17, .iconst 2, 1), (18, .invokestatic 47, 3), (21, .ifCond .ne 17, 3), (24, .aload_n 0, 1), (25, .getfield 12, 3), (28, .getfield 43, 3), (31, .iload_n 1, 1), (32, .invokevirtual 90, 3), (35, .ifCond .eq 5, 3), (38, .iconst (-1), 1), (39, .ireturn, 1), (40, .aload_n 0, 1), (41, .getfield 12, 3), (44, .getfield 230, 3), (47, .astore 5, 2), (49, .iload_n 1, 1), (50, .iconst 4, 1), (51, .imul, 1), (52, .iload_n 2, 1), (53, .iadd, 1), (54, .istore 6, 2), (56, .aload 5, 2), (58, .getfield 234, 3), (61, .iload 6, 2), (63, .iaload, 1), (64, .istore 7, 2), (66, .iload 7, 2), (68, .iconst (-1), 1), (69, .if_icmp .eq 9, 3), (72, .iload 7, 2), (74, .iload_n 3, 1), (75, .if_icmp .le 5, 3)] = true := by decide +kernel
theorem dX11_fine_0 : decode cX11_fine 0 = .ok (.iload_n 2, 1) := zDec_at zB_dX11_fine_0 0 rfl
theorem dX11_fine_1 : decode cX11_fine 1 = .ok (.invokestatic 220, 3) := zDec_at zB_dX11_fine_0 1 rfl
theorem dX11_fine_4 : decode cX11_fine 4 = .ok (.ifCond .ne 34, 3) := zDec_at zB_dX11_fine_0 2 rfl
theorem dX11_fine_7 : decode cX11_fine 7 = .ok (.iload_n 3, 1) := zDec_at zB_dX11_fine_0 3 rfl
theorem dX11_fine_8 : decode cX11_fine 8 = .ok (.invokestatic 72, 3) := zDec_at zB_dX11_fine_0 4 rfl
theorem dX11_fine_11 : decode cX11_fine 11 = .ok (.ifCond .ne 27, 3) := zDec_at zB_dX11_fine_0 5 rfl
theorem dX11_fine_14 : decode cX11_fine 14 = .ok (.iload 4, 2) := zDec_at zB_dX11_fine_0 6 rfl
theorem dX11_fine_16 : decode cX11_fine 16 = .ok (.iconst 0, 1) := zDec_at zB_dX11_fine_0 7 rfl
theorem dX11_fine_17 : decode cX11_fine 17 = .ok (.iconst 2, 1) := zDec_at zB_dX11_fine_0 8 rfl
theorem dX11_fine_18 : decode cX11_fine 18 = .ok (.invokestatic 47, 3) := zDec_at zB_dX11_fine_0 9 rfl
theorem dX11_fine_21 : decode cX11_fine 21 = .ok (.ifCond .ne 17, 3) := zDec_at zB_dX11_fine_0 10 rfl
theorem dX11_fine_24 : decode cX11_fine 24 = .ok (.aload_n 0, 1) := zDec_at zB_dX11_fine_0 11 rfl
theorem dX11_fine_25 : decode cX11_fine 25 = .ok (.getfield 12, 3) := zDec_at zB_dX11_fine_0 12 rfl
theorem dX11_fine_28 : decode cX11_fine 28 = .ok (.getfield 43, 3) := zDec_at zB_dX11_fine_0 13 rfl
theorem dX11_fine_31 : decode cX11_fine 31 = .ok (.iload_n 1, 1) := zDec_at zB_dX11_fine_0 14 rfl
theorem dX11_fine_32 : decode cX11_fine 32 = .ok (.invokevirtual 90, 3) := zDec_at zB_dX11_fine_0 15 rfl
theorem dX11_fine_35 : decode cX11_fine 35 = .ok (.ifCond .eq 5, 3) := zDec_at zB_dX11_fine_0 16 rfl
theorem dX11_fine_38 : decode cX11_fine 38 = .ok (.iconst (-1), 1) := zDec_at zB_dX11_fine_0 17 rfl
theorem dX11_fine_39 : decode cX11_fine 39 = .ok (.ireturn, 1) := zDec_at zB_dX11_fine_0 18 rfl
theorem dX11_fine_40 : decode cX11_fine 40 = .ok (.aload_n 0, 1) := zDec_at zB_dX11_fine_0 19 rfl
theorem dX11_fine_41 : decode cX11_fine 41 = .ok (.getfield 12, 3) := zDec_at zB_dX11_fine_0 20 rfl
theorem dX11_fine_44 : decode cX11_fine 44 = .ok (.getfield 230, 3) := zDec_at zB_dX11_fine_0 21 rfl
theorem dX11_fine_47 : decode cX11_fine 47 = .ok (.astore 5, 2) := zDec_at zB_dX11_fine_0 22 rfl
theorem dX11_fine_49 : decode cX11_fine 49 = .ok (.iload_n 1, 1) := zDec_at zB_dX11_fine_0 23 rfl
theorem dX11_fine_50 : decode cX11_fine 50 = .ok (.iconst 4, 1) := zDec_at zB_dX11_fine_0 24 rfl
theorem dX11_fine_51 : decode cX11_fine 51 = .ok (.imul, 1) := zDec_at zB_dX11_fine_0 25 rfl
theorem dX11_fine_52 : decode cX11_fine 52 = .ok (.iload_n 2, 1) := zDec_at zB_dX11_fine_0 26 rfl
theorem dX11_fine_53 : decode cX11_fine 53 = .ok (.iadd, 1) := zDec_at zB_dX11_fine_0 27 rfl
theorem dX11_fine_54 : decode cX11_fine 54 = .ok (.istore 6, 2) := zDec_at zB_dX11_fine_0 28 rfl
theorem dX11_fine_56 : decode cX11_fine 56 = .ok (.aload 5, 2) := zDec_at zB_dX11_fine_0 29 rfl
theorem dX11_fine_58 : decode cX11_fine 58 = .ok (.getfield 234, 3) := zDec_at zB_dX11_fine_0 30 rfl
theorem dX11_fine_61 : decode cX11_fine 61 = .ok (.iload 6, 2) := zDec_at zB_dX11_fine_0 31 rfl
theorem dX11_fine_63 : decode cX11_fine 63 = .ok (.iaload, 1) := zDec_at zB_dX11_fine_0 32 rfl
theorem dX11_fine_64 : decode cX11_fine 64 = .ok (.istore 7, 2) := zDec_at zB_dX11_fine_0 33 rfl
theorem dX11_fine_66 : decode cX11_fine 66 = .ok (.iload 7, 2) := zDec_at zB_dX11_fine_0 34 rfl
theorem dX11_fine_68 : decode cX11_fine 68 = .ok (.iconst (-1), 1) := zDec_at zB_dX11_fine_0 35 rfl
theorem dX11_fine_69 : decode cX11_fine 69 = .ok (.if_icmp .eq 9, 3) := zDec_at zB_dX11_fine_0 36 rfl
theorem dX11_fine_72 : decode cX11_fine 72 = .ok (.iload 7, 2) := zDec_at zB_dX11_fine_0 37 rfl
theorem dX11_fine_74 : decode cX11_fine 74 = .ok (.iload_n 3, 1) := zDec_at zB_dX11_fine_0 38 rfl
theorem dX11_fine_75 : decode cX11_fine 75 = .ok (.if_icmp .le 5, 3) := zDec_at zB_dX11_fine_0 39 rfl
theorem zB_dX11_fine_78 : zDecB cX11_fine [(78, .iconst (-1), 1), (79, .ireturn, 1), (80, .iload 4, 2), (82, .ifCond .le 96, 3), (85, .aload_n 0, 1), (86, .getfield 32, 3), (89, .iload_n 1, 1), (90, .iload_n 3, 1), (91, .invokevirtual 223, 3), (94, .aload_n 0, 1), (95, .getfield 32, 3), (98, .iload_n 1, 1), (99, .iload_n 2, 1), (100, .iload_n 3, 1), (101, .invokevirtual 239, 3), (104, .istore 8, 2), (106, .aload 5, 2), (108, .getfield 242, 3), (111, .iload 6, 2), (113, .iaload, 1), (114, .iconst (-1), 1), (115, .if_icmp .eq 19, 3), (118, .aload 5, 2), (120, .getfield 242, 3), (123, .iload 6, 2), (125, .iaload, 1), (126, .iload_n 3, 1), (127, .if_icmp .gt 7, 3), (130, .iconst 1, 1), (131, .goto 4, 3), (134, .iconst 0, 1), (135, .istore 9, 2), (137, .iload 4, 2), (139, .iconst 2, 1), (140, .if_icmp .ne 26, 3), (143, .iload 9, 2), (145, .ifCond .eq 19, 3), (148, .iload 8, 2), (150, .ifCond .ne 14, 3), (153, .aload 5, 2)] = true := by decide +kernel
theorem dX11_fine_78 : decode cX11_fine 78 = .ok (.iconst (-1), 1) := zDec_at zB_dX11_fine_78 0 rfl
theorem dX11_fine_79 : decode cX11_fine 79 = .ok (.ireturn, 1) := zDec_at zB_dX11_fine_78 1 rfl
theorem dX11_fine_80 : decode cX11_fine 80 = .ok (.iload 4, 2) := zDec_at zB_dX11_fine_78 2 rfl
theorem dX11_fine_82 : decode cX11_fine 82 = .ok (.ifCond .le 96, 3) := zDec_at zB_dX11_fine_78 3 rfl
theorem dX11_fine_85 : decode cX11_fine 85 = .ok (.aload_n 0, 1) := zDec_at zB_dX11_fine_78 4 rfl
theorem dX11_fine_86 : decode cX11_fine 86 = .ok (.getfield 32, 3) := zDec_at zB_dX11_fine_78 5 rfl
theorem dX11_fine_89 : decode cX11_fine 89 = .ok (.iload_n 1, 1) := zDec_at zB_dX11_fine_78 6 rfl
theorem dX11_fine_90 : decode cX11_fine 90 = .ok (.iload_n 3, 1) := zDec_at zB_dX11_fine_78 7 rfl
theorem dX11_fine_91 : decode cX11_fine 91 = .ok (.invokevirtual 223, 3) := zDec_at zB_dX11_fine_78 8 rfl
theorem dX11_fine_94 : decode cX11_fine 94 = .ok (.aload_n 0, 1) := zDec_at zB_dX11_fine_78 9 rfl
theorem dX11_fine_95 : decode cX11_fine 95 = .ok (.getfield 32, 3) := zDec_at zB_dX11_fine_78 10 rfl
theorem dX11_fine_98 : decode cX11_fine 98 = .ok (.iload_n 1, 1) := zDec_at zB_dX11_fine_78 11 rfl
theorem dX11_fine_99 : decode cX11_fine 99 = .ok (.iload_n 2, 1) := zDec_at zB_dX11_fine_78 12 rfl
theorem dX11_fine_100 : decode cX11_fine 100 = .ok (.iload_n 3, 1) := zDec_at zB_dX11_fine_78 13 rfl
theorem dX11_fine_101 : decode cX11_fine 101 = .ok (.invokevirtual 239, 3) := zDec_at zB_dX11_fine_78 14 rfl
theorem dX11_fine_104 : decode cX11_fine 104 = .ok (.istore 8, 2) := zDec_at zB_dX11_fine_78 15 rfl
theorem dX11_fine_106 : decode cX11_fine 106 = .ok (.aload 5, 2) := zDec_at zB_dX11_fine_78 16 rfl
theorem dX11_fine_108 : decode cX11_fine 108 = .ok (.getfield 242, 3) := zDec_at zB_dX11_fine_78 17 rfl
theorem dX11_fine_111 : decode cX11_fine 111 = .ok (.iload 6, 2) := zDec_at zB_dX11_fine_78 18 rfl
theorem dX11_fine_113 : decode cX11_fine 113 = .ok (.iaload, 1) := zDec_at zB_dX11_fine_78 19 rfl
theorem dX11_fine_114 : decode cX11_fine 114 = .ok (.iconst (-1), 1) := zDec_at zB_dX11_fine_78 20 rfl
theorem dX11_fine_115 : decode cX11_fine 115 = .ok (.if_icmp .eq 19, 3) := zDec_at zB_dX11_fine_78 21 rfl
theorem dX11_fine_118 : decode cX11_fine 118 = .ok (.aload 5, 2) := zDec_at zB_dX11_fine_78 22 rfl
theorem dX11_fine_120 : decode cX11_fine 120 = .ok (.getfield 242, 3) := zDec_at zB_dX11_fine_78 23 rfl
theorem dX11_fine_123 : decode cX11_fine 123 = .ok (.iload 6, 2) := zDec_at zB_dX11_fine_78 24 rfl
theorem dX11_fine_125 : decode cX11_fine 125 = .ok (.iaload, 1) := zDec_at zB_dX11_fine_78 25 rfl
theorem dX11_fine_126 : decode cX11_fine 126 = .ok (.iload_n 3, 1) := zDec_at zB_dX11_fine_78 26 rfl
theorem dX11_fine_127 : decode cX11_fine 127 = .ok (.if_icmp .gt 7, 3) := zDec_at zB_dX11_fine_78 27 rfl
theorem dX11_fine_130 : decode cX11_fine 130 = .ok (.iconst 1, 1) := zDec_at zB_dX11_fine_78 28 rfl
theorem dX11_fine_131 : decode cX11_fine 131 = .ok (.goto 4, 3) := zDec_at zB_dX11_fine_78 29 rfl
theorem dX11_fine_134 : decode cX11_fine 134 = .ok (.iconst 0, 1) := zDec_at zB_dX11_fine_78 30 rfl
theorem dX11_fine_135 : decode cX11_fine 135 = .ok (.istore 9, 2) := zDec_at zB_dX11_fine_78 31 rfl
theorem dX11_fine_137 : decode cX11_fine 137 = .ok (.iload 4, 2) := zDec_at zB_dX11_fine_78 32 rfl
theorem dX11_fine_139 : decode cX11_fine 139 = .ok (.iconst 2, 1) := zDec_at zB_dX11_fine_78 33 rfl
theorem dX11_fine_140 : decode cX11_fine 140 = .ok (.if_icmp .ne 26, 3) := zDec_at zB_dX11_fine_78 34 rfl
theorem dX11_fine_143 : decode cX11_fine 143 = .ok (.iload 9, 2) := zDec_at zB_dX11_fine_78 35 rfl
theorem dX11_fine_145 : decode cX11_fine 145 = .ok (.ifCond .eq 19, 3) := zDec_at zB_dX11_fine_78 36 rfl
theorem dX11_fine_148 : decode cX11_fine 148 = .ok (.iload 8, 2) := zDec_at zB_dX11_fine_78 37 rfl
theorem dX11_fine_150 : decode cX11_fine 150 = .ok (.ifCond .ne 14, 3) := zDec_at zB_dX11_fine_78 38 rfl
theorem dX11_fine_153 : decode cX11_fine 153 = .ok (.aload 5, 2) := zDec_at zB_dX11_fine_78 39 rfl
theorem zB_dX11_fine_155 : zDecB cX11_fine [(155, .getfield 251, 3), (158, .iload 6, 2), (160, .iaload, 1), (161, .goto 4, 3), (164, .iconst 0, 1), (165, .ireturn, 1), (166, .iload 9, 2), (168, .ifCond .ne 8, 3), (171, .iload 8, 2), (173, .ifCond .ne 5, 3), (176, .iconst 0, 1), (177, .ireturn, 1), (178, .aload_n 0, 1), (179, .getfield 32, 3), (182, .iload_n 1, 1), (183, .iload 7, 2), (185, .invokevirtual 223, 3), (188, .aload_n 0, 1), (189, .getfield 32, 3), (192, .iload_n 1, 1), (193, .iload_n 2, 1), (194, .iload 7, 2), (196, .invokevirtual 245, 3), (199, .ireturn, 1)] = true := by decide +kernel
theorem dX11_fine_155 : decode cX11_fine 155 = .ok (.getfield 251, 3) := zDec_at zB_dX11_fine_155 0 rfl
theorem dX11_fine_158 : decode cX11_fine 158 = .ok (.iload 6, 2) := zDec_at zB_dX11_fine_155 1 rfl
theorem dX11_fine_160 : decode cX11_fine 160 = .ok (.iaload, 1) := zDec_at zB_dX11_fine_155 2 rfl
theorem dX11_fine_161 : decode cX11_fine 161 = .ok (.goto 4, 3) := zDec_at zB_dX11_fine_155 3 rfl
theorem dX11_fine_164 : decode cX11_fine 164 = .ok (.iconst 0, 1) := zDec_at zB_dX11_fine_155 4 rfl
theorem dX11_fine_165 : decode cX11_fine 165 = .ok (.ireturn, 1) := zDec_at zB_dX11_fine_155 5 rfl
theorem dX11_fine_166 : decode cX11_fine 166 = .ok (.iload 9, 2) := zDec_at zB_dX11_fine_155 6 rfl
theorem dX11_fine_168 : decode cX11_fine 168 = .ok (.ifCond .ne 8, 3) := zDec_at zB_dX11_fine_155 7 rfl
theorem dX11_fine_171 : decode cX11_fine 171 = .ok (.iload 8, 2) := zDec_at zB_dX11_fine_155 8 rfl
theorem dX11_fine_173 : decode cX11_fine 173 = .ok (.ifCond .ne 5, 3) := zDec_at zB_dX11_fine_155 9 rfl
theorem dX11_fine_176 : decode cX11_fine 176 = .ok (.iconst 0, 1) := zDec_at zB_dX11_fine_155 10 rfl
theorem dX11_fine_177 : decode cX11_fine 177 = .ok (.ireturn, 1) := zDec_at zB_dX11_fine_155 11 rfl
theorem dX11_fine_178 : decode cX11_fine 178 = .ok (.aload_n 0, 1) := zDec_at zB_dX11_fine_155 12 rfl
theorem dX11_fine_179 : decode cX11_fine 179 = .ok (.getfield 32, 3) := zDec_at zB_dX11_fine_155 13 rfl
theorem dX11_fine_182 : decode cX11_fine 182 = .ok (.iload_n 1, 1) := zDec_at zB_dX11_fine_155 14 rfl
theorem dX11_fine_183 : decode cX11_fine 183 = .ok (.iload 7, 2) := zDec_at zB_dX11_fine_155 15 rfl
theorem dX11_fine_185 : decode cX11_fine 185 = .ok (.invokevirtual 223, 3) := zDec_at zB_dX11_fine_155 16 rfl
theorem dX11_fine_188 : decode cX11_fine 188 = .ok (.aload_n 0, 1) := zDec_at zB_dX11_fine_155 17 rfl
theorem dX11_fine_189 : decode cX11_fine 189 = .ok (.getfield 32, 3) := zDec_at zB_dX11_fine_155 18 rfl
theorem dX11_fine_192 : decode cX11_fine 192 = .ok (.iload_n 1, 1) := zDec_at zB_dX11_fine_155 19 rfl
theorem dX11_fine_193 : decode cX11_fine 193 = .ok (.iload_n 2, 1) := zDec_at zB_dX11_fine_155 20 rfl
theorem dX11_fine_194 : decode cX11_fine 194 = .ok (.iload 7, 2) := zDec_at zB_dX11_fine_155 21 rfl
theorem dX11_fine_196 : decode cX11_fine 196 = .ok (.invokevirtual 245, 3) := zDec_at zB_dX11_fine_155 22 rfl
theorem dX11_fine_199 : decode cX11_fine 199 = .ok (.ireturn, 1) := zDec_at zB_dX11_fine_155 23 rfl
theorem zB_dX11_force_0 : zDecB cX11_force [(0, .iload_n 3, 1), (1, .invokestatic 72, 3), (4, .ifCond .eq 5, 3), (7, .iconst (-1), 1), (8, .ireturn, 1), (9, .aload_n 0, 1), (10, .getfield 32, 3), (13, .iload_n 1, 1), (14, .iload_n 2, 1), (15, .iload_n 3, 1), (16, .invokevirtual 207, 3), (19, .ireturn, 1)] = true := by decide +kernel
theorem dX11_force_0 : decode cX11_force 0 = .ok (.iload_n 3, 1) := zDec_at zB_dX11_force_0 0 rfl
theorem dX11_force_1 : decode cX11_force 1 = .ok (.invokestatic 72, 3) := zDec_at zB_dX11_force_0 1 rfl
theorem dX11_force_4 : decode cX11_force 4 = .ok (.ifCond .eq 5, 3) := zDec_at zB_dX11_force_0 2 rfl
theorem dX11_force_7 : decode cX11_force 7 = .ok (.iconst (-1), 1) := zDec_at zB_dX11_force_0 3 rfl
theorem dX11_force_8 : decode cX11_force 8 = .ok (.ireturn, 1) := zDec_at zB_dX11_force_0 4 rfl
theorem dX11_force_9 : decode cX11_force 9 = .ok (.aload_n 0, 1) := zDec_at zB_dX11_force_0 5 rfl
theorem dX11_force_10 : decode cX11_force 10 = .ok (.getfield 32, 3) := zDec_at zB_dX11_force_0 6 rfl
theorem dX11_force_13 : decode cX11_force 13 = .ok (.iload_n 1, 1) := zDec_at zB_dX11_force_0 7 rfl
theorem dX11_force_14 : decode cX11_force 14 = .ok (.iload_n 2, 1) := zDec_at zB_dX11_force_0 8 rfl
theorem dX11_force_15 : decode cX11_force 15 = .ok (.iload_n 3, 1) := zDec_at zB_dX11_force_0 9 rfl
theorem dX11_force_16 : decode cX11_force 16 = .ok (.invokevirtual 207, 3) := zDec_at zB_dX11_force_0 10 rfl
theorem dX11_force_19 : decode cX11_force 19 = .ok (.ireturn, 1) := zDec_at zB_dX11_force_0 11 rfl
theorem zB_dX11_found_0 : zDecB cX11_found [(0, .iload_n 1, 1), (1, .invokestatic 72, 3), (4, .ifCond .eq 8, 3), (7, .bipush (-3), 2), (9, .goto 14, 3), (12, .aload_n 0, 1), (13, .getfield 12, 3), (16, .getfield 137, 3), (19, .iload_n 1, 1), (20, .invokevirtual 377, 3), (23, .ireturn, 1)] = true := by decide +kernel
theorem dX11_found_0 : decode cX11_found 0 = .ok (.iload_n 1, 1) := zDec_at zB_dX11_found_0 0 rfl
theorem dX11_found_1 : decode cX11_found 1 = .ok (.invokestatic 72, 3) := zDec_at zB_dX11_found_0 1 rfl
theorem dX11_found_4 : decode cX11_found 4 = .ok (.ifCond .eq 8, 3) := zDec_at zB_dX11_found_0 2 rfl
theorem dX11_found_7 : decode cX11_found 7 = .ok (.bipush (-3), 2) := zDec_at zB_dX11_found_0 3 rfl
theorem dX11_found_9 : decode cX11_found 9 = .ok (.goto 14, 3) := zDec_at zB_dX11_found_0 4 rfl
theorem dX11_found_12 : decode cX11_found 12 = .ok (.aload_n 0, 1) := zDec_at zB_dX11_found_0 5 rfl
theorem dX11_found_13 : decode cX11_found 13 = .ok (.getfield 12, 3) := zDec_at zB_dX11_found_0 6 rfl
theorem dX11_found_16 : decode cX11_found 16 = .ok (.getfield 137, 3) := zDec_at zB_dX11_found_0 7 rfl
theorem dX11_found_19 : decode cX11_found 19 = .ok (.iload_n 1, 1) := zDec_at zB_dX11_found_0 8 rfl
theorem dX11_found_20 : decode cX11_found 20 = .ok (.invokevirtual 377, 3) := zDec_at zB_dX11_found_0 9 rfl
theorem dX11_found_23 : decode cX11_found 23 = .ok (.ireturn, 1) := zDec_at zB_dX11_found_0 10 rfl
theorem zB_dX11_goes_0 : zDecB cX11_goes [(0, .aload_n 0, 1), (1, .getfield 12, 3), (4, .getfield 86, 3), (7, .astore 5, 2), (9, .iload_n 3, 1), (10, .invokestatic 72, 3), (13, .ifCond .ne 24, 3), (16, .iload 4, 2), (18, .iconst (-1), 1), (19, .if_icmp .eq 24, 3), (22, .aload_n 0, 1), (23, .getfield 12, 3), (26, .getfield 43, 3), (29, .iload 4, 2), (31, .invokevirtual 76, 3), (34, .ifCond .eq 9, 3), (37, .aload_n 0, 1), (38, .iconst (-1), 1), (39, .invokevirtual 55, 3), (42, .ireturn, 1), (43, .aload_n 0, 1), (44, .getfield 12, 3), (47, .getfield 43, 3), (50, .iload_n 1, 1), (51, .invokevirtual 90, 3), (54, .ifCond .ne 17, 3), (57, .aload_n 0, 1), (58, .getfield 12, 3), (61, .getfield 43, 3), (64, .iload_n 2, 1), (65, .invokevirtual 76, 3), (68, .ifCond .eq 10, 3), (71, .aload_n 0, 1), (72, .bipush (-2), 2), (74, .invokevirtual 55, 3), (77, .ireturn, 1), (78, .aload 5, 2), (80, .iload_n 1, 1), (81, .iload_n 2, 1), (82, .invokevirtual 93, 3)] = true := by decide +kernel
theorem dX11_goes_0 : decode cX11_goes 0 = .ok (.aload_n 0, 1) := zDec_at zB_dX11_goes_0 0 rfl
theorem dX11_goes_1 : decode cX11_goes 1 = .ok (.getfield 12, 3) := zDec_at zB_dX11_goes_0 1 rfl
theorem dX11_goes_4 : decode cX11_goes 4 = .ok (.getfield 86, 3) := zDec_at zB_dX11_goes_0 2 rfl
theorem dX11_goes_7 : decode cX11_goes 7 = .ok (.astore 5, 2) := zDec_at zB_dX11_goes_0 3 rfl
theorem dX11_goes_9 : decode cX11_goes 9 = .ok (.iload_n 3, 1) := zDec_at zB_dX11_goes_0 4 rfl
theorem dX11_goes_10 : decode cX11_goes 10 = .ok (.invokestatic 72, 3) := zDec_at zB_dX11_goes_0 5 rfl
theorem dX11_goes_13 : decode cX11_goes 13 = .ok (.ifCond .ne 24, 3) := zDec_at zB_dX11_goes_0 6 rfl
theorem dX11_goes_16 : decode cX11_goes 16 = .ok (.iload 4, 2) := zDec_at zB_dX11_goes_0 7 rfl
theorem dX11_goes_18 : decode cX11_goes 18 = .ok (.iconst (-1), 1) := zDec_at zB_dX11_goes_0 8 rfl
theorem dX11_goes_19 : decode cX11_goes 19 = .ok (.if_icmp .eq 24, 3) := zDec_at zB_dX11_goes_0 9 rfl
theorem dX11_goes_22 : decode cX11_goes 22 = .ok (.aload_n 0, 1) := zDec_at zB_dX11_goes_0 10 rfl
theorem dX11_goes_23 : decode cX11_goes 23 = .ok (.getfield 12, 3) := zDec_at zB_dX11_goes_0 11 rfl
theorem dX11_goes_26 : decode cX11_goes 26 = .ok (.getfield 43, 3) := zDec_at zB_dX11_goes_0 12 rfl
theorem dX11_goes_29 : decode cX11_goes 29 = .ok (.iload 4, 2) := zDec_at zB_dX11_goes_0 13 rfl
theorem dX11_goes_31 : decode cX11_goes 31 = .ok (.invokevirtual 76, 3) := zDec_at zB_dX11_goes_0 14 rfl
theorem dX11_goes_34 : decode cX11_goes 34 = .ok (.ifCond .eq 9, 3) := zDec_at zB_dX11_goes_0 15 rfl
theorem dX11_goes_37 : decode cX11_goes 37 = .ok (.aload_n 0, 1) := zDec_at zB_dX11_goes_0 16 rfl
theorem dX11_goes_38 : decode cX11_goes 38 = .ok (.iconst (-1), 1) := zDec_at zB_dX11_goes_0 17 rfl
theorem dX11_goes_39 : decode cX11_goes 39 = .ok (.invokevirtual 55, 3) := zDec_at zB_dX11_goes_0 18 rfl
theorem dX11_goes_42 : decode cX11_goes 42 = .ok (.ireturn, 1) := zDec_at zB_dX11_goes_0 19 rfl
theorem dX11_goes_43 : decode cX11_goes 43 = .ok (.aload_n 0, 1) := zDec_at zB_dX11_goes_0 20 rfl
theorem dX11_goes_44 : decode cX11_goes 44 = .ok (.getfield 12, 3) := zDec_at zB_dX11_goes_0 21 rfl
theorem dX11_goes_47 : decode cX11_goes 47 = .ok (.getfield 43, 3) := zDec_at zB_dX11_goes_0 22 rfl
theorem dX11_goes_50 : decode cX11_goes 50 = .ok (.iload_n 1, 1) := zDec_at zB_dX11_goes_0 23 rfl
theorem dX11_goes_51 : decode cX11_goes 51 = .ok (.invokevirtual 90, 3) := zDec_at zB_dX11_goes_0 24 rfl
theorem dX11_goes_54 : decode cX11_goes 54 = .ok (.ifCond .ne 17, 3) := zDec_at zB_dX11_goes_0 25 rfl
theorem dX11_goes_57 : decode cX11_goes 57 = .ok (.aload_n 0, 1) := zDec_at zB_dX11_goes_0 26 rfl
theorem dX11_goes_58 : decode cX11_goes 58 = .ok (.getfield 12, 3) := zDec_at zB_dX11_goes_0 27 rfl
theorem dX11_goes_61 : decode cX11_goes 61 = .ok (.getfield 43, 3) := zDec_at zB_dX11_goes_0 28 rfl
theorem dX11_goes_64 : decode cX11_goes 64 = .ok (.iload_n 2, 1) := zDec_at zB_dX11_goes_0 29 rfl
theorem dX11_goes_65 : decode cX11_goes 65 = .ok (.invokevirtual 76, 3) := zDec_at zB_dX11_goes_0 30 rfl
theorem dX11_goes_68 : decode cX11_goes 68 = .ok (.ifCond .eq 10, 3) := zDec_at zB_dX11_goes_0 31 rfl
theorem dX11_goes_71 : decode cX11_goes 71 = .ok (.aload_n 0, 1) := zDec_at zB_dX11_goes_0 32 rfl
theorem dX11_goes_72 : decode cX11_goes 72 = .ok (.bipush (-2), 2) := zDec_at zB_dX11_goes_0 33 rfl
theorem dX11_goes_74 : decode cX11_goes 74 = .ok (.invokevirtual 55, 3) := zDec_at zB_dX11_goes_0 34 rfl
theorem dX11_goes_77 : decode cX11_goes 77 = .ok (.ireturn, 1) := zDec_at zB_dX11_goes_0 35 rfl
theorem dX11_goes_78 : decode cX11_goes 78 = .ok (.aload 5, 2) := zDec_at zB_dX11_goes_0 36 rfl
theorem dX11_goes_80 : decode cX11_goes 80 = .ok (.iload_n 1, 1) := zDec_at zB_dX11_goes_0 37 rfl
theorem dX11_goes_81 : decode cX11_goes 81 = .ok (.iload_n 2, 1) := zDec_at zB_dX11_goes_0 38 rfl
theorem dX11_goes_82 : decode cX11_goes 82 = .ok (.invokevirtual 93, 3) := zDec_at zB_dX11_goes_0 39 rfl
theorem zB_dX11_goes_85 : zDecB cX11_goes [(85, .istore 6, 2), (87, .iload 6, 2), (89, .iconst (-1), 1), (90, .if_icmp .eq 29, 3), (93, .aload 5, 2), (95, .getfield 102, 3), (98, .iload 6, 2), (100, .iaload, 1), (101, .sipush 400, 3), (104, .if_icmp .ne 15, 3), (107, .iload_n 3, 1), (108, .aload 5, 2), (110, .getfield 99, 3), (113, .iload 6, 2), (115, .iaload, 1), (116, .if_icmp .ge 10, 3), (119, .aload_n 0, 1), (120, .bipush (-3), 2), (122, .invokevirtual 55, 3), (125, .ireturn, 1), (126, .aload 5, 2), (128, .getfield 102, 3), (131, .iload 6, 2), (133, .iload_n 3, 1), (134, .iastore, 1), (135, .aload 5, 2), (137, .getfield 112, 3), (140, .iload 6, 2), (142, .iload 4, 2), (144, .iastore, 1), (145, .aload_n 0, 1), (146, .iconst 0, 1), (147, .invokevirtual 55, 3), (150, .ireturn, 1)] = true := by decide +kernel
theorem dX11_goes_85 : decode cX11_goes 85 = .ok (.istore 6, 2) := zDec_at zB_dX11_goes_85 0 rfl
theorem dX11_goes_87 : decode cX11_goes 87 = .ok (.iload 6, 2) := zDec_at zB_dX11_goes_85 1 rfl
theorem dX11_goes_89 : decode cX11_goes 89 = .ok (.iconst (-1), 1) := zDec_at zB_dX11_goes_85 2 rfl
theorem dX11_goes_90 : decode cX11_goes 90 = .ok (.if_icmp .eq 29, 3) := zDec_at zB_dX11_goes_85 3 rfl
theorem dX11_goes_93 : decode cX11_goes 93 = .ok (.aload 5, 2) := zDec_at zB_dX11_goes_85 4 rfl
theorem dX11_goes_95 : decode cX11_goes 95 = .ok (.getfield 102, 3) := zDec_at zB_dX11_goes_85 5 rfl
theorem dX11_goes_98 : decode cX11_goes 98 = .ok (.iload 6, 2) := zDec_at zB_dX11_goes_85 6 rfl
theorem dX11_goes_100 : decode cX11_goes 100 = .ok (.iaload, 1) := zDec_at zB_dX11_goes_85 7 rfl
theorem dX11_goes_101 : decode cX11_goes 101 = .ok (.sipush 400, 3) := zDec_at zB_dX11_goes_85 8 rfl
theorem dX11_goes_104 : decode cX11_goes 104 = .ok (.if_icmp .ne 15, 3) := zDec_at zB_dX11_goes_85 9 rfl
theorem dX11_goes_107 : decode cX11_goes 107 = .ok (.iload_n 3, 1) := zDec_at zB_dX11_goes_85 10 rfl
theorem dX11_goes_108 : decode cX11_goes 108 = .ok (.aload 5, 2) := zDec_at zB_dX11_goes_85 11 rfl
theorem dX11_goes_110 : decode cX11_goes 110 = .ok (.getfield 99, 3) := zDec_at zB_dX11_goes_85 12 rfl
theorem dX11_goes_113 : decode cX11_goes 113 = .ok (.iload 6, 2) := zDec_at zB_dX11_goes_85 13 rfl
theorem dX11_goes_115 : decode cX11_goes 115 = .ok (.iaload, 1) := zDec_at zB_dX11_goes_85 14 rfl
theorem dX11_goes_116 : decode cX11_goes 116 = .ok (.if_icmp .ge 10, 3) := zDec_at zB_dX11_goes_85 15 rfl
theorem dX11_goes_119 : decode cX11_goes 119 = .ok (.aload_n 0, 1) := zDec_at zB_dX11_goes_85 16 rfl
theorem dX11_goes_120 : decode cX11_goes 120 = .ok (.bipush (-3), 2) := zDec_at zB_dX11_goes_85 17 rfl
theorem dX11_goes_122 : decode cX11_goes 122 = .ok (.invokevirtual 55, 3) := zDec_at zB_dX11_goes_85 18 rfl
theorem dX11_goes_125 : decode cX11_goes 125 = .ok (.ireturn, 1) := zDec_at zB_dX11_goes_85 19 rfl
theorem dX11_goes_126 : decode cX11_goes 126 = .ok (.aload 5, 2) := zDec_at zB_dX11_goes_85 20 rfl
theorem dX11_goes_128 : decode cX11_goes 128 = .ok (.getfield 102, 3) := zDec_at zB_dX11_goes_85 21 rfl
theorem dX11_goes_131 : decode cX11_goes 131 = .ok (.iload 6, 2) := zDec_at zB_dX11_goes_85 22 rfl
theorem dX11_goes_133 : decode cX11_goes 133 = .ok (.iload_n 3, 1) := zDec_at zB_dX11_goes_85 23 rfl
theorem dX11_goes_134 : decode cX11_goes 134 = .ok (.iastore, 1) := zDec_at zB_dX11_goes_85 24 rfl
theorem dX11_goes_135 : decode cX11_goes 135 = .ok (.aload 5, 2) := zDec_at zB_dX11_goes_85 25 rfl
theorem dX11_goes_137 : decode cX11_goes 137 = .ok (.getfield 112, 3) := zDec_at zB_dX11_goes_85 26 rfl
theorem dX11_goes_140 : decode cX11_goes 140 = .ok (.iload 6, 2) := zDec_at zB_dX11_goes_85 27 rfl
theorem dX11_goes_142 : decode cX11_goes 142 = .ok (.iload 4, 2) := zDec_at zB_dX11_goes_85 28 rfl
theorem dX11_goes_144 : decode cX11_goes 144 = .ok (.iastore, 1) := zDec_at zB_dX11_goes_85 29 rfl
theorem dX11_goes_145 : decode cX11_goes 145 = .ok (.aload_n 0, 1) := zDec_at zB_dX11_goes_85 30 rfl
theorem dX11_goes_146 : decode cX11_goes 146 = .ok (.iconst 0, 1) := zDec_at zB_dX11_goes_85 31 rfl
theorem dX11_goes_147 : decode cX11_goes 147 = .ok (.invokevirtual 55, 3) := zDec_at zB_dX11_goes_85 32 rfl
theorem dX11_goes_150 : decode cX11_goes 150 = .ok (.ireturn, 1) := zDec_at zB_dX11_goes_85 33 rfl
theorem zB_dX11_has_0 : zDecB cX11_has [(0, .aload_n 0, 1), (1, .getfield 12, 3), (4, .getfield 43, 3), (7, .astore 5, 2), (9, .iload_n 2, 1), (10, .iconst 0, 1), (11, .iconst 1, 1), (12, .invokestatic 47, 3), (15, .ifCond .ne 24, 3), (18, .iload_n 3, 1), (19, .invokestatic 72, 3), (22, .ifCond .ne 17, 3), (25, .iload 4, 2), (27, .invokestatic 72, 3), (30, .ifCond .ne 9, 3), (33, .iload_n 3, 1), (34, .iload 4, 2), (36, .if_icmp .le 9, 3), (39, .aload_n 0, 1), (40, .iconst (-1), 1), (41, .invokevirtual 55, 3), (44, .ireturn, 1), (45, .aload 5, 2), (47, .iload_n 1, 1), (48, .invokevirtual 90, 3), (51, .ifCond .eq 10, 3), (54, .aload_n 0, 1), (55, .bipush (-2), 2), (57, .invokevirtual 55, 3), (60, .ireturn, 1), (61, .aload 5, 2), (63, .getfield 130, 3), (66, .iload_n 2, 1), (67, .iaload, 1), (68, .bipush 60, 2), (70, .if_icmp .lt 10, 3), (73, .aload_n 0, 1), (74, .bipush (-5), 2), (76, .invokevirtual 55, 3), (79, .ireturn, 1)] = true := by decide +kernel
theorem dX11_has_0 : decode cX11_has 0 = .ok (.aload_n 0, 1) := zDec_at zB_dX11_has_0 0 rfl
theorem dX11_has_1 : decode cX11_has 1 = .ok (.getfield 12, 3) := zDec_at zB_dX11_has_0 1 rfl
theorem dX11_has_4 : decode cX11_has 4 = .ok (.getfield 43, 3) := zDec_at zB_dX11_has_0 2 rfl
theorem dX11_has_7 : decode cX11_has 7 = .ok (.astore 5, 2) := zDec_at zB_dX11_has_0 3 rfl
theorem dX11_has_9 : decode cX11_has 9 = .ok (.iload_n 2, 1) := zDec_at zB_dX11_has_0 4 rfl
theorem dX11_has_10 : decode cX11_has 10 = .ok (.iconst 0, 1) := zDec_at zB_dX11_has_0 5 rfl
theorem dX11_has_11 : decode cX11_has 11 = .ok (.iconst 1, 1) := zDec_at zB_dX11_has_0 6 rfl
theorem dX11_has_12 : decode cX11_has 12 = .ok (.invokestatic 47, 3) := zDec_at zB_dX11_has_0 7 rfl
theorem dX11_has_15 : decode cX11_has 15 = .ok (.ifCond .ne 24, 3) := zDec_at zB_dX11_has_0 8 rfl
theorem dX11_has_18 : decode cX11_has 18 = .ok (.iload_n 3, 1) := zDec_at zB_dX11_has_0 9 rfl
theorem dX11_has_19 : decode cX11_has 19 = .ok (.invokestatic 72, 3) := zDec_at zB_dX11_has_0 10 rfl
theorem dX11_has_22 : decode cX11_has 22 = .ok (.ifCond .ne 17, 3) := zDec_at zB_dX11_has_0 11 rfl
theorem dX11_has_25 : decode cX11_has 25 = .ok (.iload 4, 2) := zDec_at zB_dX11_has_0 12 rfl
theorem dX11_has_27 : decode cX11_has 27 = .ok (.invokestatic 72, 3) := zDec_at zB_dX11_has_0 13 rfl
theorem dX11_has_30 : decode cX11_has 30 = .ok (.ifCond .ne 9, 3) := zDec_at zB_dX11_has_0 14 rfl
theorem dX11_has_33 : decode cX11_has 33 = .ok (.iload_n 3, 1) := zDec_at zB_dX11_has_0 15 rfl
theorem dX11_has_34 : decode cX11_has 34 = .ok (.iload 4, 2) := zDec_at zB_dX11_has_0 16 rfl
theorem dX11_has_36 : decode cX11_has 36 = .ok (.if_icmp .le 9, 3) := zDec_at zB_dX11_has_0 17 rfl
theorem dX11_has_39 : decode cX11_has 39 = .ok (.aload_n 0, 1) := zDec_at zB_dX11_has_0 18 rfl
theorem dX11_has_40 : decode cX11_has 40 = .ok (.iconst (-1), 1) := zDec_at zB_dX11_has_0 19 rfl
theorem dX11_has_41 : decode cX11_has 41 = .ok (.invokevirtual 55, 3) := zDec_at zB_dX11_has_0 20 rfl
theorem dX11_has_44 : decode cX11_has 44 = .ok (.ireturn, 1) := zDec_at zB_dX11_has_0 21 rfl
theorem dX11_has_45 : decode cX11_has 45 = .ok (.aload 5, 2) := zDec_at zB_dX11_has_0 22 rfl
theorem dX11_has_47 : decode cX11_has 47 = .ok (.iload_n 1, 1) := zDec_at zB_dX11_has_0 23 rfl
theorem dX11_has_48 : decode cX11_has 48 = .ok (.invokevirtual 90, 3) := zDec_at zB_dX11_has_0 24 rfl
theorem dX11_has_51 : decode cX11_has 51 = .ok (.ifCond .eq 10, 3) := zDec_at zB_dX11_has_0 25 rfl
theorem dX11_has_54 : decode cX11_has 54 = .ok (.aload_n 0, 1) := zDec_at zB_dX11_has_0 26 rfl
theorem dX11_has_55 : decode cX11_has 55 = .ok (.bipush (-2), 2) := zDec_at zB_dX11_has_0 27 rfl
theorem dX11_has_57 : decode cX11_has 57 = .ok (.invokevirtual 55, 3) := zDec_at zB_dX11_has_0 28 rfl
theorem dX11_has_60 : decode cX11_has 60 = .ok (.ireturn, 1) := zDec_at zB_dX11_has_0 29 rfl
theorem dX11_has_61 : decode cX11_has 61 = .ok (.aload 5, 2) := zDec_at zB_dX11_has_0 30 rfl
theorem dX11_has_63 : decode cX11_has 63 = .ok (.getfield 130, 3) := zDec_at zB_dX11_has_0 31 rfl
theorem dX11_has_66 : decode cX11_has 66 = .ok (.iload_n 2, 1) := zDec_at zB_dX11_has_0 32 rfl
theorem dX11_has_67 : decode cX11_has 67 = .ok (.iaload, 1) := zDec_at zB_dX11_has_0 33 rfl
theorem dX11_has_68 : decode cX11_has 68 = .ok (.bipush 60, 2) := zDec_at zB_dX11_has_0 34 rfl
theorem dX11_has_70 : decode cX11_has 70 = .ok (.if_icmp .lt 10, 3) := zDec_at zB_dX11_has_0 35 rfl
theorem dX11_has_73 : decode cX11_has 73 = .ok (.aload_n 0, 1) := zDec_at zB_dX11_has_0 36 rfl
theorem dX11_has_74 : decode cX11_has 74 = .ok (.bipush (-5), 2) := zDec_at zB_dX11_has_0 37 rfl
theorem dX11_has_76 : decode cX11_has 76 = .ok (.invokevirtual 55, 3) := zDec_at zB_dX11_has_0 38 rfl
theorem dX11_has_79 : decode cX11_has 79 = .ok (.ireturn, 1) := zDec_at zB_dX11_has_0 39 rfl
theorem zB_dX11_has_80 : zDecB cX11_has [(80, .aload_n 0, 1), (81, .aload 5, 2), (83, .iload_n 1, 1), (84, .iload_n 2, 1), (85, .iload_n 3, 1), (86, .iload 4, 2), (88, .invokevirtual 133, 3), (91, .invokevirtual 55, 3), (94, .ireturn, 1)] = true := by decide +kernel
theorem dX11_has_80 : decode cX11_has 80 = .ok (.aload_n 0, 1) := zDec_at zB_dX11_has_80 0 rfl
theorem dX11_has_81 : decode cX11_has 81 = .ok (.aload 5, 2) := zDec_at zB_dX11_has_80 1 rfl
theorem dX11_has_83 : decode cX11_has 83 = .ok (.iload_n 1, 1) := zDec_at zB_dX11_has_80 2 rfl
theorem dX11_has_84 : decode cX11_has 84 = .ok (.iload_n 2, 1) := zDec_at zB_dX11_has_80 3 rfl
theorem dX11_has_85 : decode cX11_has 85 = .ok (.iload_n 3, 1) := zDec_at zB_dX11_has_80 4 rfl
theorem dX11_has_86 : decode cX11_has 86 = .ok (.iload 4, 2) := zDec_at zB_dX11_has_80 5 rfl
theorem dX11_has_88 : decode cX11_has 88 = .ok (.invokevirtual 133, 3) := zDec_at zB_dX11_has_80 6 rfl
theorem dX11_has_91 : decode cX11_has 91 = .ok (.invokevirtual 55, 3) := zDec_at zB_dX11_has_80 7 rfl
theorem dX11_has_94 : decode cX11_has 94 = .ok (.ireturn, 1) := zDec_at zB_dX11_has_80 8 rfl
theorem zB_dX11_helped_0 : zDecB cX11_helped [(0, .iload_n 1, 1), (1, .iconst 0, 1), (2, .iconst 1, 1), (3, .invokestatic 47, 3), (6, .ifCond .eq 7, 3), (9, .iconst (-1), 1), (10, .goto 19, 3), (13, .aload_n 0, 1), (14, .getfield 39, 3), (17, .iload_n 1, 1), (18, .ifCond .ne 7, 3), (21, .iconst 1, 1), (22, .goto 4, 3), (25, .iconst 0, 1), (26, .invokevirtual 361, 3), (29, .ireturn, 1)] = true := by decide +kernel
theorem dX11_helped_0 : decode cX11_helped 0 = .ok (.iload_n 1, 1) := zDec_at zB_dX11_helped_0 0 rfl
theorem dX11_helped_1 : decode cX11_helped 1 = .ok (.iconst 0, 1) := zDec_at zB_dX11_helped_0 1 rfl
theorem dX11_helped_2 : decode cX11_helped 2 = .ok (.iconst 1, 1) := zDec_at zB_dX11_helped_0 2 rfl
theorem dX11_helped_3 : decode cX11_helped 3 = .ok (.invokestatic 47, 3) := zDec_at zB_dX11_helped_0 3 rfl
theorem dX11_helped_6 : decode cX11_helped 6 = .ok (.ifCond .eq 7, 3) := zDec_at zB_dX11_helped_0 4 rfl
theorem dX11_helped_9 : decode cX11_helped 9 = .ok (.iconst (-1), 1) := zDec_at zB_dX11_helped_0 5 rfl
theorem dX11_helped_10 : decode cX11_helped 10 = .ok (.goto 19, 3) := zDec_at zB_dX11_helped_0 6 rfl
theorem dX11_helped_13 : decode cX11_helped 13 = .ok (.aload_n 0, 1) := zDec_at zB_dX11_helped_0 7 rfl
theorem dX11_helped_14 : decode cX11_helped 14 = .ok (.getfield 39, 3) := zDec_at zB_dX11_helped_0 8 rfl
theorem dX11_helped_17 : decode cX11_helped 17 = .ok (.iload_n 1, 1) := zDec_at zB_dX11_helped_0 9 rfl
theorem dX11_helped_18 : decode cX11_helped 18 = .ok (.ifCond .ne 7, 3) := zDec_at zB_dX11_helped_0 10 rfl
theorem dX11_helped_21 : decode cX11_helped 21 = .ok (.iconst 1, 1) := zDec_at zB_dX11_helped_0 11 rfl
theorem dX11_helped_22 : decode cX11_helped 22 = .ok (.goto 4, 3) := zDec_at zB_dX11_helped_0 12 rfl
theorem dX11_helped_25 : decode cX11_helped 25 = .ok (.iconst 0, 1) := zDec_at zB_dX11_helped_0 13 rfl
theorem dX11_helped_26 : decode cX11_helped 26 = .ok (.invokevirtual 361, 3) := zDec_at zB_dX11_helped_0 14 rfl
theorem dX11_helped_29 : decode cX11_helped 29 = .ok (.ireturn, 1) := zDec_at zB_dX11_helped_0 15 rfl
theorem zB_dX11_image_0 : zDecB cX11_image [(0, .iload_n 1, 1), (1, .iconst 0, 1), (2, .iconst 1, 1), (3, .invokestatic 47, 3), (6, .ifCond .eq 9, 3), (9, .aload_n 0, 1), (10, .iconst (-1), 1), (11, .invokevirtual 55, 3), (14, .ireturn, 1), (15, .aload_n 0, 1), (16, .getfield 16, 3), (19, .iload_n 1, 1), (20, .aaload, 1), (21, .ifnonnull 16, 3), (24, .aload_n 0, 1), (25, .getfield 16, 3), (28, .iload_n 1, 1), (29, .new 9, 3), (32, .dup, 1), (33, .invokespecial 11, 3), (36, .aastore, 1), (37, .aload_n 0, 1), (38, .getfield 16, 3), (41, .iload_n 1, 1), (42, .aaload, 1), (43, .aload_n 0, 1), (44, .getfield 12, 3), (47, .invokevirtual 380, 3), (50, .aload_n 0, 1), (51, .iconst 0, 1), (52, .invokevirtual 55, 3), (55, .ireturn, 1)] = true := by decide +kernel
theorem dX11_image_0 : decode cX11_image 0 = .ok (.iload_n 1, 1) := zDec_at zB_dX11_image_0 0 rfl
theorem dX11_image_1 : decode cX11_image 1 = .ok (.iconst 0, 1) := zDec_at zB_dX11_image_0 1 rfl
theorem dX11_image_2 : decode cX11_image 2 = .ok (.iconst 1, 1) := zDec_at zB_dX11_image_0 2 rfl
theorem dX11_image_3 : decode cX11_image 3 = .ok (.invokestatic 47, 3) := zDec_at zB_dX11_image_0 3 rfl
theorem dX11_image_6 : decode cX11_image 6 = .ok (.ifCond .eq 9, 3) := zDec_at zB_dX11_image_0 4 rfl
theorem dX11_image_9 : decode cX11_image 9 = .ok (.aload_n 0, 1) := zDec_at zB_dX11_image_0 5 rfl
theorem dX11_image_10 : decode cX11_image 10 = .ok (.iconst (-1), 1) := zDec_at zB_dX11_image_0 6 rfl
theorem dX11_image_11 : decode cX11_image 11 = .ok (.invokevirtual 55, 3) := zDec_at zB_dX11_image_0 7 rfl
theorem dX11_image_14 : decode cX11_image 14 = .ok (.ireturn, 1) := zDec_at zB_dX11_image_0 8 rfl
theorem dX11_image_15 : decode cX11_image 15 = .ok (.aload_n 0, 1) := zDec_at zB_dX11_image_0 9 rfl
theorem dX11_image_16 : decode cX11_image 16 = .ok (.getfield 16, 3) := zDec_at zB_dX11_image_0 10 rfl
theorem dX11_image_19 : decode cX11_image 19 = .ok (.iload_n 1, 1) := zDec_at zB_dX11_image_0 11 rfl
theorem dX11_image_20 : decode cX11_image 20 = .ok (.aaload, 1) := zDec_at zB_dX11_image_0 12 rfl
theorem dX11_image_21 : decode cX11_image 21 = .ok (.ifnonnull 16, 3) := zDec_at zB_dX11_image_0 13 rfl
theorem dX11_image_24 : decode cX11_image 24 = .ok (.aload_n 0, 1) := zDec_at zB_dX11_image_0 14 rfl
theorem dX11_image_25 : decode cX11_image 25 = .ok (.getfield 16, 3) := zDec_at zB_dX11_image_0 15 rfl
theorem dX11_image_28 : decode cX11_image 28 = .ok (.iload_n 1, 1) := zDec_at zB_dX11_image_0 16 rfl
theorem dX11_image_29 : decode cX11_image 29 = .ok (.new 9, 3) := zDec_at zB_dX11_image_0 17 rfl
theorem dX11_image_32 : decode cX11_image 32 = .ok (.dup, 1) := zDec_at zB_dX11_image_0 18 rfl
theorem dX11_image_33 : decode cX11_image 33 = .ok (.invokespecial 11, 3) := zDec_at zB_dX11_image_0 19 rfl
theorem dX11_image_36 : decode cX11_image 36 = .ok (.aastore, 1) := zDec_at zB_dX11_image_0 20 rfl
theorem dX11_image_37 : decode cX11_image 37 = .ok (.aload_n 0, 1) := zDec_at zB_dX11_image_0 21 rfl
theorem dX11_image_38 : decode cX11_image 38 = .ok (.getfield 16, 3) := zDec_at zB_dX11_image_0 22 rfl
theorem dX11_image_41 : decode cX11_image 41 = .ok (.iload_n 1, 1) := zDec_at zB_dX11_image_0 23 rfl
theorem dX11_image_42 : decode cX11_image 42 = .ok (.aaload, 1) := zDec_at zB_dX11_image_0 24 rfl
theorem dX11_image_43 : decode cX11_image 43 = .ok (.aload_n 0, 1) := zDec_at zB_dX11_image_0 25 rfl
theorem dX11_image_44 : decode cX11_image 44 = .ok (.getfield 12, 3) := zDec_at zB_dX11_image_0 26 rfl
theorem dX11_image_47 : decode cX11_image 47 = .ok (.invokevirtual 380, 3) := zDec_at zB_dX11_image_0 27 rfl
theorem dX11_image_50 : decode cX11_image 50 = .ok (.aload_n 0, 1) := zDec_at zB_dX11_image_0 28 rfl
theorem dX11_image_51 : decode cX11_image 51 = .ok (.iconst 0, 1) := zDec_at zB_dX11_image_0 29 rfl
theorem dX11_image_52 : decode cX11_image 52 = .ok (.invokevirtual 55, 3) := zDec_at zB_dX11_image_0 30 rfl
theorem dX11_image_55 : decode cX11_image 55 = .ok (.ireturn, 1) := zDec_at zB_dX11_image_0 31 rfl
theorem zB_dX11_isAmong_0 : zDecB cX11_isAmong [(0, .iconst 0, 1), (1, .istore_n 3, 1), (2, .iload_n 3, 1), (3, .iload_n 1, 1), (4, .if_icmp .ge 24, 3), (7, .iload_n 3, 1), (8, .aload_n 0, 1), (9, .arraylength, 1), (10, .if_icmp .ge 18, 3), (13, .aload_n 0, 1), (14, .iload_n 3, 1), (15, .iaload, 1), (16, .iload_n 2, 1), (17, .if_icmp .ne 5, 3), (20, .iconst 1, 1), (21, .ireturn, 1), (22, .iinc 3 1, 3), (25, .goto (-23), 3), (28, .iconst 0, 1), (29, .ireturn, 1)] = true := by decide +kernel
theorem dX11_isAmong_0 : decode cX11_isAmong 0 = .ok (.iconst 0, 1) := zDec_at zB_dX11_isAmong_0 0 rfl
theorem dX11_isAmong_1 : decode cX11_isAmong 1 = .ok (.istore_n 3, 1) := zDec_at zB_dX11_isAmong_0 1 rfl
theorem dX11_isAmong_2 : decode cX11_isAmong 2 = .ok (.iload_n 3, 1) := zDec_at zB_dX11_isAmong_0 2 rfl
theorem dX11_isAmong_3 : decode cX11_isAmong 3 = .ok (.iload_n 1, 1) := zDec_at zB_dX11_isAmong_0 3 rfl
theorem dX11_isAmong_4 : decode cX11_isAmong 4 = .ok (.if_icmp .ge 24, 3) := zDec_at zB_dX11_isAmong_0 4 rfl
theorem dX11_isAmong_7 : decode cX11_isAmong 7 = .ok (.iload_n 3, 1) := zDec_at zB_dX11_isAmong_0 5 rfl
theorem dX11_isAmong_8 : decode cX11_isAmong 8 = .ok (.aload_n 0, 1) := zDec_at zB_dX11_isAmong_0 6 rfl
theorem dX11_isAmong_9 : decode cX11_isAmong 9 = .ok (.arraylength, 1) := zDec_at zB_dX11_isAmong_0 7 rfl
theorem dX11_isAmong_10 : decode cX11_isAmong 10 = .ok (.if_icmp .ge 18, 3) := zDec_at zB_dX11_isAmong_0 8 rfl
theorem dX11_isAmong_13 : decode cX11_isAmong 13 = .ok (.aload_n 0, 1) := zDec_at zB_dX11_isAmong_0 9 rfl
theorem dX11_isAmong_14 : decode cX11_isAmong 14 = .ok (.iload_n 3, 1) := zDec_at zB_dX11_isAmong_0 10 rfl
theorem dX11_isAmong_15 : decode cX11_isAmong 15 = .ok (.iaload, 1) := zDec_at zB_dX11_isAmong_0 11 rfl
theorem dX11_isAmong_16 : decode cX11_isAmong 16 = .ok (.iload_n 2, 1) := zDec_at zB_dX11_isAmong_0 12 rfl
theorem dX11_isAmong_17 : decode cX11_isAmong 17 = .ok (.if_icmp .ne 5, 3) := zDec_at zB_dX11_isAmong_0 13 rfl
theorem dX11_isAmong_20 : decode cX11_isAmong 20 = .ok (.iconst 1, 1) := zDec_at zB_dX11_isAmong_0 14 rfl
theorem dX11_isAmong_21 : decode cX11_isAmong 21 = .ok (.ireturn, 1) := zDec_at zB_dX11_isAmong_0 15 rfl
theorem dX11_isAmong_22 : decode cX11_isAmong 22 = .ok (.iinc 3 1, 3) := zDec_at zB_dX11_isAmong_0 16 rfl
theorem dX11_isAmong_25 : decode cX11_isAmong 25 = .ok (.goto (-23), 3) := zDec_at zB_dX11_isAmong_0 17 rfl
theorem dX11_isAmong_28 : decode cX11_isAmong 28 = .ok (.iconst 0, 1) := zDec_at zB_dX11_isAmong_0 18 rfl
theorem dX11_isAmong_29 : decode cX11_isAmong 29 = .ok (.ireturn, 1) := zDec_at zB_dX11_isAmong_0 19 rfl
theorem zB_dX11_isNoDay_0 : zDecB cX11_isNoDay [(0, .iload_n 0, 1), (1, .ifCond .lt 10, 3), (4, .iload_n 0, 1), (5, .sipush 400, 3), (8, .if_icmp .lt 7, 3), (11, .iconst 1, 1), (12, .goto 4, 3), (15, .iconst 0, 1), (16, .ireturn, 1)] = true := by decide +kernel
theorem dX11_isNoDay_0 : decode cX11_isNoDay 0 = .ok (.iload_n 0, 1) := zDec_at zB_dX11_isNoDay_0 0 rfl
theorem dX11_isNoDay_1 : decode cX11_isNoDay 1 = .ok (.ifCond .lt 10, 3) := zDec_at zB_dX11_isNoDay_0 1 rfl
theorem dX11_isNoDay_4 : decode cX11_isNoDay 4 = .ok (.iload_n 0, 1) := zDec_at zB_dX11_isNoDay_0 2 rfl
theorem dX11_isNoDay_5 : decode cX11_isNoDay 5 = .ok (.sipush 400, 3) := zDec_at zB_dX11_isNoDay_0 3 rfl
theorem dX11_isNoDay_8 : decode cX11_isNoDay 8 = .ok (.if_icmp .lt 7, 3) := zDec_at zB_dX11_isNoDay_0 4 rfl
theorem dX11_isNoDay_11 : decode cX11_isNoDay 11 = .ok (.iconst 1, 1) := zDec_at zB_dX11_isNoDay_0 5 rfl
theorem dX11_isNoDay_12 : decode cX11_isNoDay 12 = .ok (.goto 4, 3) := zDec_at zB_dX11_isNoDay_0 6 rfl
theorem dX11_isNoDay_15 : decode cX11_isNoDay 15 = .ok (.iconst 0, 1) := zDec_at zB_dX11_isNoDay_0 7 rfl
theorem dX11_isNoDay_16 : decode cX11_isNoDay 16 = .ok (.ireturn, 1) := zDec_at zB_dX11_isNoDay_0 8 rfl
theorem zB_dX11_isNoHalf_0 : zDecB cX11_isNoHalf [(0, .iload_n 0, 1), (1, .ifCond .lt 10, 3), (4, .iload_n 0, 1), (5, .sipush 800, 3), (8, .if_icmp .lt 7, 3), (11, .iconst 1, 1), (12, .goto 4, 3), (15, .iconst 0, 1), (16, .ireturn, 1)] = true := by decide +kernel
theorem dX11_isNoHalf_0 : decode cX11_isNoHalf 0 = .ok (.iload_n 0, 1) := zDec_at zB_dX11_isNoHalf_0 0 rfl
theorem dX11_isNoHalf_1 : decode cX11_isNoHalf 1 = .ok (.ifCond .lt 10, 3) := zDec_at zB_dX11_isNoHalf_0 1 rfl
theorem dX11_isNoHalf_4 : decode cX11_isNoHalf 4 = .ok (.iload_n 0, 1) := zDec_at zB_dX11_isNoHalf_0 2 rfl
theorem dX11_isNoHalf_5 : decode cX11_isNoHalf 5 = .ok (.sipush 800, 3) := zDec_at zB_dX11_isNoHalf_0 3 rfl
theorem dX11_isNoHalf_8 : decode cX11_isNoHalf 8 = .ok (.if_icmp .lt 7, 3) := zDec_at zB_dX11_isNoHalf_0 4 rfl
theorem dX11_isNoHalf_11 : decode cX11_isNoHalf 11 = .ok (.iconst 1, 1) := zDec_at zB_dX11_isNoHalf_0 5 rfl
theorem dX11_isNoHalf_12 : decode cX11_isNoHalf 12 = .ok (.goto 4, 3) := zDec_at zB_dX11_isNoHalf_0 6 rfl
theorem dX11_isNoHalf_15 : decode cX11_isNoHalf 15 = .ok (.iconst 0, 1) := zDec_at zB_dX11_isNoHalf_0 7 rfl
theorem dX11_isNoHalf_16 : decode cX11_isNoHalf 16 = .ok (.ireturn, 1) := zDec_at zB_dX11_isNoHalf_0 8 rfl
theorem zB_dX11_isNoPlace_0 : zDecB cX11_isNoPlace [(0, .iload_n 0, 1), (1, .iconst 0, 1), (2, .bipush 99, 2), (4, .invokestatic 47, 3), (7, .ifCond .ne 13, 3), (10, .iload_n 1, 1), (11, .iconst 0, 1), (12, .bipush 99, 2), (14, .invokestatic 47, 3), (17, .ifCond .eq 7, 3), (20, .iconst 1, 1), (21, .goto 4, 3), (24, .iconst 0, 1), (25, .ireturn, 1)] = true := by decide +kernel
theorem dX11_isNoPlace_0 : decode cX11_isNoPlace 0 = .ok (.iload_n 0, 1) := zDec_at zB_dX11_isNoPlace_0 0 rfl
theorem dX11_isNoPlace_1 : decode cX11_isNoPlace 1 = .ok (.iconst 0, 1) := zDec_at zB_dX11_isNoPlace_0 1 rfl
theorem dX11_isNoPlace_2 : decode cX11_isNoPlace 2 = .ok (.bipush 99, 2) := zDec_at zB_dX11_isNoPlace_0 2 rfl
theorem dX11_isNoPlace_4 : decode cX11_isNoPlace 4 = .ok (.invokestatic 47, 3) := zDec_at zB_dX11_isNoPlace_0 3 rfl
theorem dX11_isNoPlace_7 : decode cX11_isNoPlace 7 = .ok (.ifCond .ne 13, 3) := zDec_at zB_dX11_isNoPlace_0 4 rfl
theorem dX11_isNoPlace_10 : decode cX11_isNoPlace 10 = .ok (.iload_n 1, 1) := zDec_at zB_dX11_isNoPlace_0 5 rfl
theorem dX11_isNoPlace_11 : decode cX11_isNoPlace 11 = .ok (.iconst 0, 1) := zDec_at zB_dX11_isNoPlace_0 6 rfl
theorem dX11_isNoPlace_12 : decode cX11_isNoPlace 12 = .ok (.bipush 99, 2) := zDec_at zB_dX11_isNoPlace_0 7 rfl
theorem dX11_isNoPlace_14 : decode cX11_isNoPlace 14 = .ok (.invokestatic 47, 3) := zDec_at zB_dX11_isNoPlace_0 8 rfl
theorem dX11_isNoPlace_17 : decode cX11_isNoPlace 17 = .ok (.ifCond .eq 7, 3) := zDec_at zB_dX11_isNoPlace_0 9 rfl
theorem dX11_isNoPlace_20 : decode cX11_isNoPlace 20 = .ok (.iconst 1, 1) := zDec_at zB_dX11_isNoPlace_0 10 rfl
theorem dX11_isNoPlace_21 : decode cX11_isNoPlace 21 = .ok (.goto 4, 3) := zDec_at zB_dX11_isNoPlace_0 11 rfl
theorem dX11_isNoPlace_24 : decode cX11_isNoPlace 24 = .ok (.iconst 0, 1) := zDec_at zB_dX11_isNoPlace_0 12 rfl
theorem dX11_isNoPlace_25 : decode cX11_isNoPlace 25 = .ok (.ireturn, 1) := zDec_at zB_dX11_isNoPlace_0 13 rfl
theorem zB_dX11_isNoStep_0 : zDecB cX11_isNoStep [(0, .iload_n 0, 1), (1, .ifCond .lt 8, 3), (4, .iload_n 0, 1), (5, .iconst 4, 1), (6, .if_icmp .lt 7, 3), (9, .iconst 1, 1), (10, .goto 4, 3), (13, .iconst 0, 1), (14, .ireturn, 1)] = true := by decide +kernel
theorem dX11_isNoStep_0 : decode cX11_isNoStep 0 = .ok (.iload_n 0, 1) := zDec_at zB_dX11_isNoStep_0 0 rfl
theorem dX11_isNoStep_1 : decode cX11_isNoStep 1 = .ok (.ifCond .lt 8, 3) := zDec_at zB_dX11_isNoStep_0 1 rfl
theorem dX11_isNoStep_4 : decode cX11_isNoStep 4 = .ok (.iload_n 0, 1) := zDec_at zB_dX11_isNoStep_0 2 rfl
theorem dX11_isNoStep_5 : decode cX11_isNoStep 5 = .ok (.iconst 4, 1) := zDec_at zB_dX11_isNoStep_0 3 rfl
theorem dX11_isNoStep_6 : decode cX11_isNoStep 6 = .ok (.if_icmp .lt 7, 3) := zDec_at zB_dX11_isNoStep_0 4 rfl
theorem dX11_isNoStep_9 : decode cX11_isNoStep 9 = .ok (.iconst 1, 1) := zDec_at zB_dX11_isNoStep_0 5 rfl
theorem dX11_isNoStep_10 : decode cX11_isNoStep 10 = .ok (.goto 4, 3) := zDec_at zB_dX11_isNoStep_0 6 rfl
theorem dX11_isNoStep_13 : decode cX11_isNoStep 13 = .ok (.iconst 0, 1) := zDec_at zB_dX11_isNoStep_0 7 rfl
theorem dX11_isNoStep_14 : decode cX11_isNoStep 14 = .ok (.ireturn, 1) := zDec_at zB_dX11_isNoStep_0 8 rfl
theorem zB_dX11_isOn_0 : zDecB cX11_isOn [(0, .iload_n 3, 1), (1, .invokestatic 72, 3), (4, .ifCond .ne 31, 3), (7, .aload_n 0, 1), (8, .getfield 12, 3), (11, .getfield 43, 3), (14, .iload_n 1, 1), (15, .invokevirtual 90, 3), (18, .ifCond .ne 17, 3), (21, .aload_n 0, 1), (22, .getfield 12, 3), (25, .getfield 43, 3), (28, .iload_n 2, 1), (29, .invokevirtual 76, 3), (32, .ifCond .eq 5, 3), (35, .iconst (-1), 1), (36, .ireturn, 1), (37, .aload_n 0, 1), (38, .getfield 12, 3), (41, .getfield 86, 3), (44, .iload_n 1, 1), (45, .iload_n 2, 1), (46, .iload_n 3, 1), (47, .invokevirtual 115, 3), (50, .ifCond .eq 7, 3), (53, .iconst 1, 1), (54, .goto 4, 3), (57, .iconst 0, 1), (58, .ireturn, 1)] = true := by decide +kernel
theorem dX11_isOn_0 : decode cX11_isOn 0 = .ok (.iload_n 3, 1) := zDec_at zB_dX11_isOn_0 0 rfl
theorem dX11_isOn_1 : decode cX11_isOn 1 = .ok (.invokestatic 72, 3) := zDec_at zB_dX11_isOn_0 1 rfl
theorem dX11_isOn_4 : decode cX11_isOn 4 = .ok (.ifCond .ne 31, 3) := zDec_at zB_dX11_isOn_0 2 rfl
theorem dX11_isOn_7 : decode cX11_isOn 7 = .ok (.aload_n 0, 1) := zDec_at zB_dX11_isOn_0 3 rfl
theorem dX11_isOn_8 : decode cX11_isOn 8 = .ok (.getfield 12, 3) := zDec_at zB_dX11_isOn_0 4 rfl
theorem dX11_isOn_11 : decode cX11_isOn 11 = .ok (.getfield 43, 3) := zDec_at zB_dX11_isOn_0 5 rfl
theorem dX11_isOn_14 : decode cX11_isOn 14 = .ok (.iload_n 1, 1) := zDec_at zB_dX11_isOn_0 6 rfl
theorem dX11_isOn_15 : decode cX11_isOn 15 = .ok (.invokevirtual 90, 3) := zDec_at zB_dX11_isOn_0 7 rfl
theorem dX11_isOn_18 : decode cX11_isOn 18 = .ok (.ifCond .ne 17, 3) := zDec_at zB_dX11_isOn_0 8 rfl
theorem dX11_isOn_21 : decode cX11_isOn 21 = .ok (.aload_n 0, 1) := zDec_at zB_dX11_isOn_0 9 rfl
theorem dX11_isOn_22 : decode cX11_isOn 22 = .ok (.getfield 12, 3) := zDec_at zB_dX11_isOn_0 10 rfl
theorem dX11_isOn_25 : decode cX11_isOn 25 = .ok (.getfield 43, 3) := zDec_at zB_dX11_isOn_0 11 rfl
theorem dX11_isOn_28 : decode cX11_isOn 28 = .ok (.iload_n 2, 1) := zDec_at zB_dX11_isOn_0 12 rfl
theorem dX11_isOn_29 : decode cX11_isOn 29 = .ok (.invokevirtual 76, 3) := zDec_at zB_dX11_isOn_0 13 rfl
theorem dX11_isOn_32 : decode cX11_isOn 32 = .ok (.ifCond .eq 5, 3) := zDec_at zB_dX11_isOn_0 14 rfl
theorem dX11_isOn_35 : decode cX11_isOn 35 = .ok (.iconst (-1), 1) := zDec_at zB_dX11_isOn_0 15 rfl
theorem dX11_isOn_36 : decode cX11_isOn 36 = .ok (.ireturn, 1) := zDec_at zB_dX11_isOn_0 16 rfl
theorem dX11_isOn_37 : decode cX11_isOn 37 = .ok (.aload_n 0, 1) := zDec_at zB_dX11_isOn_0 17 rfl
theorem dX11_isOn_38 : decode cX11_isOn 38 = .ok (.getfield 12, 3) := zDec_at zB_dX11_isOn_0 18 rfl
theorem dX11_isOn_41 : decode cX11_isOn 41 = .ok (.getfield 86, 3) := zDec_at zB_dX11_isOn_0 19 rfl
theorem dX11_isOn_44 : decode cX11_isOn 44 = .ok (.iload_n 1, 1) := zDec_at zB_dX11_isOn_0 20 rfl
theorem dX11_isOn_45 : decode cX11_isOn 45 = .ok (.iload_n 2, 1) := zDec_at zB_dX11_isOn_0 21 rfl
theorem dX11_isOn_46 : decode cX11_isOn 46 = .ok (.iload_n 3, 1) := zDec_at zB_dX11_isOn_0 22 rfl
theorem dX11_isOn_47 : decode cX11_isOn 47 = .ok (.invokevirtual 115, 3) := zDec_at zB_dX11_isOn_0 23 rfl
theorem dX11_isOn_50 : decode cX11_isOn 50 = .ok (.ifCond .eq 7, 3) := zDec_at zB_dX11_isOn_0 24 rfl
theorem dX11_isOn_53 : decode cX11_isOn 53 = .ok (.iconst 1, 1) := zDec_at zB_dX11_isOn_0 25 rfl
theorem dX11_isOn_54 : decode cX11_isOn 54 = .ok (.goto 4, 3) := zDec_at zB_dX11_isOn_0 26 rfl
theorem dX11_isOn_57 : decode cX11_isOn 57 = .ok (.iconst 0, 1) := zDec_at zB_dX11_isOn_0 27 rfl
theorem dX11_isOn_58 : decode cX11_isOn 58 = .ok (.ireturn, 1) := zDec_at zB_dX11_isOn_0 28 rfl
theorem zB_dX11_isOutside_0 : zDecB cX11_isOutside [(0, .iload_n 0, 1), (1, .iload_n 1, 1), (2, .if_icmp .lt 8, 3), (5, .iload_n 0, 1), (6, .iload_n 2, 1), (7, .if_icmp .le 7, 3), (10, .iconst 1, 1), (11, .goto 4, 3), (14, .iconst 0, 1), (15, .ireturn, 1)] = true := by decide +kernel
theorem dX11_isOutside_0 : decode cX11_isOutside 0 = .ok (.iload_n 0, 1) := zDec_at zB_dX11_isOutside_0 0 rfl
theorem dX11_isOutside_1 : decode cX11_isOutside 1 = .ok (.iload_n 1, 1) := zDec_at zB_dX11_isOutside_0 1 rfl
theorem dX11_isOutside_2 : decode cX11_isOutside 2 = .ok (.if_icmp .lt 8, 3) := zDec_at zB_dX11_isOutside_0 2 rfl
theorem dX11_isOutside_5 : decode cX11_isOutside 5 = .ok (.iload_n 0, 1) := zDec_at zB_dX11_isOutside_0 3 rfl
theorem dX11_isOutside_6 : decode cX11_isOutside 6 = .ok (.iload_n 2, 1) := zDec_at zB_dX11_isOutside_0 4 rfl
theorem dX11_isOutside_7 : decode cX11_isOutside 7 = .ok (.if_icmp .le 7, 3) := zDec_at zB_dX11_isOutside_0 5 rfl
theorem dX11_isOutside_10 : decode cX11_isOutside 10 = .ok (.iconst 1, 1) := zDec_at zB_dX11_isOutside_0 6 rfl
theorem dX11_isOutside_11 : decode cX11_isOutside 11 = .ok (.goto 4, 3) := zDec_at zB_dX11_isOutside_0 7 rfl
theorem dX11_isOutside_14 : decode cX11_isOutside 14 = .ok (.iconst 0, 1) := zDec_at zB_dX11_isOutside_0 8 rfl
theorem dX11_isOutside_15 : decode cX11_isOutside 15 = .ok (.ireturn, 1) := zDec_at zB_dX11_isOutside_0 9 rfl
theorem zB_dX11_join_0 : zDecB cX11_join [(0, .iload_n 1, 1), (1, .iconst 0, 1), (2, .bipush 8, 2), (4, .invokestatic 47, 3), (7, .ifCond .eq 5, 3), (10, .iconst (-1), 1), (11, .ireturn, 1), (12, .aload_n 0, 1), (13, .getfield 39, 3), (16, .iload_n 1, 1), (17, .invokevirtual 291, 3), (20, .ireturn, 1)] = true := by decide +kernel
theorem dX11_join_0 : decode cX11_join 0 = .ok (.iload_n 1, 1) := zDec_at zB_dX11_join_0 0 rfl
theorem dX11_join_1 : decode cX11_join 1 = .ok (.iconst 0, 1) := zDec_at zB_dX11_join_0 1 rfl
theorem dX11_join_2 : decode cX11_join 2 = .ok (.bipush 8, 2) := zDec_at zB_dX11_join_0 2 rfl
theorem dX11_join_4 : decode cX11_join 4 = .ok (.invokestatic 47, 3) := zDec_at zB_dX11_join_0 3 rfl
theorem dX11_join_7 : decode cX11_join 7 = .ok (.ifCond .eq 5, 3) := zDec_at zB_dX11_join_0 4 rfl
theorem dX11_join_10 : decode cX11_join 10 = .ok (.iconst (-1), 1) := zDec_at zB_dX11_join_0 5 rfl
theorem dX11_join_11 : decode cX11_join 11 = .ok (.ireturn, 1) := zDec_at zB_dX11_join_0 6 rfl
theorem dX11_join_12 : decode cX11_join 12 = .ok (.aload_n 0, 1) := zDec_at zB_dX11_join_0 7 rfl
theorem dX11_join_13 : decode cX11_join 13 = .ok (.getfield 39, 3) := zDec_at zB_dX11_join_0 8 rfl
theorem dX11_join_16 : decode cX11_join 16 = .ok (.iload_n 1, 1) := zDec_at zB_dX11_join_0 9 rfl
theorem dX11_join_17 : decode cX11_join 17 = .ok (.invokevirtual 291, 3) := zDec_at zB_dX11_join_0 10 rfl
theorem dX11_join_20 : decode cX11_join 20 = .ok (.ireturn, 1) := zDec_at zB_dX11_join_0 11 rfl
theorem zB_dX11_joined_0 : zDecB cX11_joined [(0, .iload_n 1, 1), (1, .iconst (-1), 1), (2, .if_icmp .ne 11, 3), (5, .aload_n 0, 1), (6, .getfield 39, 3), (9, .getfield 294, 3), (12, .ireturn, 1), (13, .iload_n 1, 1), (14, .iconst 0, 1), (15, .aload_n 0, 1), (16, .getfield 39, 3), (19, .getfield 297, 3), (22, .iconst 1, 1), (23, .isub, 1), (24, .invokestatic 47, 3), (27, .ifCond .eq 7, 3), (30, .iconst (-1), 1), (31, .goto 12, 3), (34, .aload_n 0, 1), (35, .getfield 39, 3), (38, .getfield 300, 3), (41, .iload_n 1, 1), (42, .iaload, 1), (43, .ireturn, 1)] = true := by decide +kernel
theorem dX11_joined_0 : decode cX11_joined 0 = .ok (.iload_n 1, 1) := zDec_at zB_dX11_joined_0 0 rfl
theorem dX11_joined_1 : decode cX11_joined 1 = .ok (.iconst (-1), 1) := zDec_at zB_dX11_joined_0 1 rfl
theorem dX11_joined_2 : decode cX11_joined 2 = .ok (.if_icmp .ne 11, 3) := zDec_at zB_dX11_joined_0 2 rfl
theorem dX11_joined_5 : decode cX11_joined 5 = .ok (.aload_n 0, 1) := zDec_at zB_dX11_joined_0 3 rfl
theorem dX11_joined_6 : decode cX11_joined 6 = .ok (.getfield 39, 3) := zDec_at zB_dX11_joined_0 4 rfl
theorem dX11_joined_9 : decode cX11_joined 9 = .ok (.getfield 294, 3) := zDec_at zB_dX11_joined_0 5 rfl
theorem dX11_joined_12 : decode cX11_joined 12 = .ok (.ireturn, 1) := zDec_at zB_dX11_joined_0 6 rfl
theorem dX11_joined_13 : decode cX11_joined 13 = .ok (.iload_n 1, 1) := zDec_at zB_dX11_joined_0 7 rfl
theorem dX11_joined_14 : decode cX11_joined 14 = .ok (.iconst 0, 1) := zDec_at zB_dX11_joined_0 8 rfl
theorem dX11_joined_15 : decode cX11_joined 15 = .ok (.aload_n 0, 1) := zDec_at zB_dX11_joined_0 9 rfl
theorem dX11_joined_16 : decode cX11_joined 16 = .ok (.getfield 39, 3) := zDec_at zB_dX11_joined_0 10 rfl
theorem dX11_joined_19 : decode cX11_joined 19 = .ok (.getfield 297, 3) := zDec_at zB_dX11_joined_0 11 rfl
theorem dX11_joined_22 : decode cX11_joined 22 = .ok (.iconst 1, 1) := zDec_at zB_dX11_joined_0 12 rfl
theorem dX11_joined_23 : decode cX11_joined 23 = .ok (.isub, 1) := zDec_at zB_dX11_joined_0 13 rfl
theorem dX11_joined_24 : decode cX11_joined 24 = .ok (.invokestatic 47, 3) := zDec_at zB_dX11_joined_0 14 rfl
theorem dX11_joined_27 : decode cX11_joined 27 = .ok (.ifCond .eq 7, 3) := zDec_at zB_dX11_joined_0 15 rfl
theorem dX11_joined_30 : decode cX11_joined 30 = .ok (.iconst (-1), 1) := zDec_at zB_dX11_joined_0 16 rfl
theorem dX11_joined_31 : decode cX11_joined 31 = .ok (.goto 12, 3) := zDec_at zB_dX11_joined_0 17 rfl
theorem dX11_joined_34 : decode cX11_joined 34 = .ok (.aload_n 0, 1) := zDec_at zB_dX11_joined_0 18 rfl
theorem dX11_joined_35 : decode cX11_joined 35 = .ok (.getfield 39, 3) := zDec_at zB_dX11_joined_0 19 rfl
theorem dX11_joined_38 : decode cX11_joined 38 = .ok (.getfield 300, 3) := zDec_at zB_dX11_joined_0 20 rfl
theorem dX11_joined_41 : decode cX11_joined 41 = .ok (.iload_n 1, 1) := zDec_at zB_dX11_joined_0 21 rfl
theorem dX11_joined_42 : decode cX11_joined 42 = .ok (.iaload, 1) := zDec_at zB_dX11_joined_0 22 rfl
theorem dX11_joined_43 : decode cX11_joined 43 = .ok (.ireturn, 1) := zDec_at zB_dX11_joined_0 23 rfl
theorem zB_dX11_judge_0 : zDecB cX11_judge [(0, .iload_n 1, 1), (1, .ifCond .lt 13, 3), (4, .iload_n 2, 1), (5, .iconst 0, 1), (6, .bipush 8, 2), (8, .invokestatic 47, 3), (11, .ifCond .eq 5, 3), (14, .iconst (-1), 1), (15, .ireturn, 1), (16, .aload_n 0, 1), (17, .getfield 39, 3), (20, .iload_n 1, 1), (21, .iload_n 2, 1), (22, .invokevirtual 303, 3), (25, .ireturn, 1)] = true := by decide +kernel
theorem dX11_judge_0 : decode cX11_judge 0 = .ok (.iload_n 1, 1) := zDec_at zB_dX11_judge_0 0 rfl
theorem dX11_judge_1 : decode cX11_judge 1 = .ok (.ifCond .lt 13, 3) := zDec_at zB_dX11_judge_0 1 rfl
theorem dX11_judge_4 : decode cX11_judge 4 = .ok (.iload_n 2, 1) := zDec_at zB_dX11_judge_0 2 rfl
theorem dX11_judge_5 : decode cX11_judge 5 = .ok (.iconst 0, 1) := zDec_at zB_dX11_judge_0 3 rfl
theorem dX11_judge_6 : decode cX11_judge 6 = .ok (.bipush 8, 2) := zDec_at zB_dX11_judge_0 4 rfl
theorem dX11_judge_8 : decode cX11_judge 8 = .ok (.invokestatic 47, 3) := zDec_at zB_dX11_judge_0 5 rfl
theorem dX11_judge_11 : decode cX11_judge 11 = .ok (.ifCond .eq 5, 3) := zDec_at zB_dX11_judge_0 6 rfl
theorem dX11_judge_14 : decode cX11_judge 14 = .ok (.iconst (-1), 1) := zDec_at zB_dX11_judge_0 7 rfl
theorem dX11_judge_15 : decode cX11_judge 15 = .ok (.ireturn, 1) := zDec_at zB_dX11_judge_0 8 rfl
theorem dX11_judge_16 : decode cX11_judge 16 = .ok (.aload_n 0, 1) := zDec_at zB_dX11_judge_0 9 rfl
theorem dX11_judge_17 : decode cX11_judge 17 = .ok (.getfield 39, 3) := zDec_at zB_dX11_judge_0 10 rfl
theorem dX11_judge_20 : decode cX11_judge 20 = .ok (.iload_n 1, 1) := zDec_at zB_dX11_judge_0 11 rfl
theorem dX11_judge_21 : decode cX11_judge 21 = .ok (.iload_n 2, 1) := zDec_at zB_dX11_judge_0 12 rfl
theorem dX11_judge_22 : decode cX11_judge 22 = .ok (.invokevirtual 303, 3) := zDec_at zB_dX11_judge_0 13 rfl
theorem dX11_judge_25 : decode cX11_judge 25 = .ok (.ireturn, 1) := zDec_at zB_dX11_judge_0 14 rfl
theorem zB_dX11_mark_0 : zDecB cX11_mark [(0, .iload_n 3, 1), (1, .invokestatic 118, 3), (4, .ifCond .ne 34, 3), (7, .iload 4, 2), (9, .iconst 0, 1), (10, .bipush 25, 2), (12, .invokestatic 47, 3), (15, .ifCond .ne 23, 3), (18, .iload 5, 2), (20, .iconst 0, 1), (21, .sipush 300, 3), (24, .invokestatic 47, 3), (27, .ifCond .ne 11, 3), (30, .iload 6, 2), (32, .invokestatic 72, 3), (35, .ifCond .eq 9, 3), (38, .aload_n 0, 1), (39, .iconst (-1), 1), (40, .invokevirtual 55, 3), (43, .ireturn, 1), (44, .aload_n 0, 1), (45, .getfield 12, 3), (48, .getfield 43, 3), (51, .iload_n 2, 1), (52, .invokevirtual 90, 3), (55, .ifCond .ne 17, 3), (58, .aload_n 0, 1), (59, .getfield 12, 3), (62, .getfield 43, 3), (65, .iload_n 1, 1), (66, .invokevirtual 76, 3), (69, .ifCond .eq 10, 3), (72, .aload_n 0, 1), (73, .bipush (-2), 2), (75, .invokevirtual 55, 3), (78, .ireturn, 1), (79, .iload_n 3, 1), (80, .iconst 2, 1), (81, .idiv, 1), (82, .istore 7, 2)] = true := by decide +kernel
theorem dX11_mark_0 : decode cX11_mark 0 = .ok (.iload_n 3, 1) := zDec_at zB_dX11_mark_0 0 rfl
theorem dX11_mark_1 : decode cX11_mark 1 = .ok (.invokestatic 118, 3) := zDec_at zB_dX11_mark_0 1 rfl
theorem dX11_mark_4 : decode cX11_mark 4 = .ok (.ifCond .ne 34, 3) := zDec_at zB_dX11_mark_0 2 rfl
theorem dX11_mark_7 : decode cX11_mark 7 = .ok (.iload 4, 2) := zDec_at zB_dX11_mark_0 3 rfl
theorem dX11_mark_9 : decode cX11_mark 9 = .ok (.iconst 0, 1) := zDec_at zB_dX11_mark_0 4 rfl
theorem dX11_mark_10 : decode cX11_mark 10 = .ok (.bipush 25, 2) := zDec_at zB_dX11_mark_0 5 rfl
theorem dX11_mark_12 : decode cX11_mark 12 = .ok (.invokestatic 47, 3) := zDec_at zB_dX11_mark_0 6 rfl
theorem dX11_mark_15 : decode cX11_mark 15 = .ok (.ifCond .ne 23, 3) := zDec_at zB_dX11_mark_0 7 rfl
theorem dX11_mark_18 : decode cX11_mark 18 = .ok (.iload 5, 2) := zDec_at zB_dX11_mark_0 8 rfl
theorem dX11_mark_20 : decode cX11_mark 20 = .ok (.iconst 0, 1) := zDec_at zB_dX11_mark_0 9 rfl
theorem dX11_mark_21 : decode cX11_mark 21 = .ok (.sipush 300, 3) := zDec_at zB_dX11_mark_0 10 rfl
theorem dX11_mark_24 : decode cX11_mark 24 = .ok (.invokestatic 47, 3) := zDec_at zB_dX11_mark_0 11 rfl
theorem dX11_mark_27 : decode cX11_mark 27 = .ok (.ifCond .ne 11, 3) := zDec_at zB_dX11_mark_0 12 rfl
theorem dX11_mark_30 : decode cX11_mark 30 = .ok (.iload 6, 2) := zDec_at zB_dX11_mark_0 13 rfl
theorem dX11_mark_32 : decode cX11_mark 32 = .ok (.invokestatic 72, 3) := zDec_at zB_dX11_mark_0 14 rfl
theorem dX11_mark_35 : decode cX11_mark 35 = .ok (.ifCond .eq 9, 3) := zDec_at zB_dX11_mark_0 15 rfl
theorem dX11_mark_38 : decode cX11_mark 38 = .ok (.aload_n 0, 1) := zDec_at zB_dX11_mark_0 16 rfl
theorem dX11_mark_39 : decode cX11_mark 39 = .ok (.iconst (-1), 1) := zDec_at zB_dX11_mark_0 17 rfl
theorem dX11_mark_40 : decode cX11_mark 40 = .ok (.invokevirtual 55, 3) := zDec_at zB_dX11_mark_0 18 rfl
theorem dX11_mark_43 : decode cX11_mark 43 = .ok (.ireturn, 1) := zDec_at zB_dX11_mark_0 19 rfl
theorem dX11_mark_44 : decode cX11_mark 44 = .ok (.aload_n 0, 1) := zDec_at zB_dX11_mark_0 20 rfl
theorem dX11_mark_45 : decode cX11_mark 45 = .ok (.getfield 12, 3) := zDec_at zB_dX11_mark_0 21 rfl
theorem dX11_mark_48 : decode cX11_mark 48 = .ok (.getfield 43, 3) := zDec_at zB_dX11_mark_0 22 rfl
theorem dX11_mark_51 : decode cX11_mark 51 = .ok (.iload_n 2, 1) := zDec_at zB_dX11_mark_0 23 rfl
theorem dX11_mark_52 : decode cX11_mark 52 = .ok (.invokevirtual 90, 3) := zDec_at zB_dX11_mark_0 24 rfl
theorem dX11_mark_55 : decode cX11_mark 55 = .ok (.ifCond .ne 17, 3) := zDec_at zB_dX11_mark_0 25 rfl
theorem dX11_mark_58 : decode cX11_mark 58 = .ok (.aload_n 0, 1) := zDec_at zB_dX11_mark_0 26 rfl
theorem dX11_mark_59 : decode cX11_mark 59 = .ok (.getfield 12, 3) := zDec_at zB_dX11_mark_0 27 rfl
theorem dX11_mark_62 : decode cX11_mark 62 = .ok (.getfield 43, 3) := zDec_at zB_dX11_mark_0 28 rfl
theorem dX11_mark_65 : decode cX11_mark 65 = .ok (.iload_n 1, 1) := zDec_at zB_dX11_mark_0 29 rfl
theorem dX11_mark_66 : decode cX11_mark 66 = .ok (.invokevirtual 76, 3) := zDec_at zB_dX11_mark_0 30 rfl
theorem dX11_mark_69 : decode cX11_mark 69 = .ok (.ifCond .eq 10, 3) := zDec_at zB_dX11_mark_0 31 rfl
theorem dX11_mark_72 : decode cX11_mark 72 = .ok (.aload_n 0, 1) := zDec_at zB_dX11_mark_0 32 rfl
theorem dX11_mark_73 : decode cX11_mark 73 = .ok (.bipush (-2), 2) := zDec_at zB_dX11_mark_0 33 rfl
theorem dX11_mark_75 : decode cX11_mark 75 = .ok (.invokevirtual 55, 3) := zDec_at zB_dX11_mark_0 34 rfl
theorem dX11_mark_78 : decode cX11_mark 78 = .ok (.ireturn, 1) := zDec_at zB_dX11_mark_0 35 rfl
theorem dX11_mark_79 : decode cX11_mark 79 = .ok (.iload_n 3, 1) := zDec_at zB_dX11_mark_0 36 rfl
theorem dX11_mark_80 : decode cX11_mark 80 = .ok (.iconst 2, 1) := zDec_at zB_dX11_mark_0 37 rfl
theorem dX11_mark_81 : decode cX11_mark 81 = .ok (.idiv, 1) := zDec_at zB_dX11_mark_0 38 rfl
theorem dX11_mark_82 : decode cX11_mark 82 = .ok (.istore 7, 2) := zDec_at zB_dX11_mark_0 39 rfl
theorem zB_dX11_mark_84 : zDecB cX11_mark [(84, .iload 7, 2), (86, .bipush 7, 2), (88, .irem, 1), (89, .iconst 5, 1), (90, .if_icmp .ge 36, 3), (93, .aload_n 0, 1), (94, .getfield 12, 3), (97, .getfield 43, 3), (100, .iload_n 1, 1), (101, .iload 7, 2), (103, .invokevirtual 79, 3), (106, .ifCond .ne 20, 3), (109, .aload_n 0, 1), (110, .getfield 12, 3), (113, .getfield 86, 3), (116, .iload_n 2, 1), (117, .iload_n 1, 1), (118, .iload 7, 2), (120, .invokevirtual 115, 3), (123, .ifCond .ne 10, 3), (126, .aload_n 0, 1), (127, .bipush (-3), 2), (129, .invokevirtual 55, 3), (132, .ireturn, 1), (133, .aload_n 0, 1), (134, .getfield 12, 3), (137, .getfield 137, 3), (140, .getfield 141, 3), (143, .sipush 400, 3), (146, .if_icmp .lt 10, 3), (149, .aload_n 0, 1), (150, .bipush (-5), 2), (152, .invokevirtual 55, 3), (155, .ireturn, 1), (156, .aload_n 0, 1), (157, .aload_n 0, 1), (158, .getfield 12, 3), (161, .getfield 137, 3), (164, .iload_n 1, 1), (165, .iload_n 2, 1)] = true := by decide +kernel
theorem dX11_mark_84 : decode cX11_mark 84 = .ok (.iload 7, 2) := zDec_at zB_dX11_mark_84 0 rfl
theorem dX11_mark_86 : decode cX11_mark 86 = .ok (.bipush 7, 2) := zDec_at zB_dX11_mark_84 1 rfl
theorem dX11_mark_88 : decode cX11_mark 88 = .ok (.irem, 1) := zDec_at zB_dX11_mark_84 2 rfl
theorem dX11_mark_89 : decode cX11_mark 89 = .ok (.iconst 5, 1) := zDec_at zB_dX11_mark_84 3 rfl
theorem dX11_mark_90 : decode cX11_mark 90 = .ok (.if_icmp .ge 36, 3) := zDec_at zB_dX11_mark_84 4 rfl
theorem dX11_mark_93 : decode cX11_mark 93 = .ok (.aload_n 0, 1) := zDec_at zB_dX11_mark_84 5 rfl
theorem dX11_mark_94 : decode cX11_mark 94 = .ok (.getfield 12, 3) := zDec_at zB_dX11_mark_84 6 rfl
theorem dX11_mark_97 : decode cX11_mark 97 = .ok (.getfield 43, 3) := zDec_at zB_dX11_mark_84 7 rfl
theorem dX11_mark_100 : decode cX11_mark 100 = .ok (.iload_n 1, 1) := zDec_at zB_dX11_mark_84 8 rfl
theorem dX11_mark_101 : decode cX11_mark 101 = .ok (.iload 7, 2) := zDec_at zB_dX11_mark_84 9 rfl
theorem dX11_mark_103 : decode cX11_mark 103 = .ok (.invokevirtual 79, 3) := zDec_at zB_dX11_mark_84 10 rfl
theorem dX11_mark_106 : decode cX11_mark 106 = .ok (.ifCond .ne 20, 3) := zDec_at zB_dX11_mark_84 11 rfl
theorem dX11_mark_109 : decode cX11_mark 109 = .ok (.aload_n 0, 1) := zDec_at zB_dX11_mark_84 12 rfl
theorem dX11_mark_110 : decode cX11_mark 110 = .ok (.getfield 12, 3) := zDec_at zB_dX11_mark_84 13 rfl
theorem dX11_mark_113 : decode cX11_mark 113 = .ok (.getfield 86, 3) := zDec_at zB_dX11_mark_84 14 rfl
theorem dX11_mark_116 : decode cX11_mark 116 = .ok (.iload_n 2, 1) := zDec_at zB_dX11_mark_84 15 rfl
theorem dX11_mark_117 : decode cX11_mark 117 = .ok (.iload_n 1, 1) := zDec_at zB_dX11_mark_84 16 rfl
theorem dX11_mark_118 : decode cX11_mark 118 = .ok (.iload 7, 2) := zDec_at zB_dX11_mark_84 17 rfl
theorem dX11_mark_120 : decode cX11_mark 120 = .ok (.invokevirtual 115, 3) := zDec_at zB_dX11_mark_84 18 rfl
theorem dX11_mark_123 : decode cX11_mark 123 = .ok (.ifCond .ne 10, 3) := zDec_at zB_dX11_mark_84 19 rfl
theorem dX11_mark_126 : decode cX11_mark 126 = .ok (.aload_n 0, 1) := zDec_at zB_dX11_mark_84 20 rfl
theorem dX11_mark_127 : decode cX11_mark 127 = .ok (.bipush (-3), 2) := zDec_at zB_dX11_mark_84 21 rfl
theorem dX11_mark_129 : decode cX11_mark 129 = .ok (.invokevirtual 55, 3) := zDec_at zB_dX11_mark_84 22 rfl
theorem dX11_mark_132 : decode cX11_mark 132 = .ok (.ireturn, 1) := zDec_at zB_dX11_mark_84 23 rfl
theorem dX11_mark_133 : decode cX11_mark 133 = .ok (.aload_n 0, 1) := zDec_at zB_dX11_mark_84 24 rfl
theorem dX11_mark_134 : decode cX11_mark 134 = .ok (.getfield 12, 3) := zDec_at zB_dX11_mark_84 25 rfl
theorem dX11_mark_137 : decode cX11_mark 137 = .ok (.getfield 137, 3) := zDec_at zB_dX11_mark_84 26 rfl
theorem dX11_mark_140 : decode cX11_mark 140 = .ok (.getfield 141, 3) := zDec_at zB_dX11_mark_84 27 rfl
theorem dX11_mark_143 : decode cX11_mark 143 = .ok (.sipush 400, 3) := zDec_at zB_dX11_mark_84 28 rfl
theorem dX11_mark_146 : decode cX11_mark 146 = .ok (.if_icmp .lt 10, 3) := zDec_at zB_dX11_mark_84 29 rfl
theorem dX11_mark_149 : decode cX11_mark 149 = .ok (.aload_n 0, 1) := zDec_at zB_dX11_mark_84 30 rfl
theorem dX11_mark_150 : decode cX11_mark 150 = .ok (.bipush (-5), 2) := zDec_at zB_dX11_mark_84 31 rfl
theorem dX11_mark_152 : decode cX11_mark 152 = .ok (.invokevirtual 55, 3) := zDec_at zB_dX11_mark_84 32 rfl
theorem dX11_mark_155 : decode cX11_mark 155 = .ok (.ireturn, 1) := zDec_at zB_dX11_mark_84 33 rfl
theorem dX11_mark_156 : decode cX11_mark 156 = .ok (.aload_n 0, 1) := zDec_at zB_dX11_mark_84 34 rfl
theorem dX11_mark_157 : decode cX11_mark 157 = .ok (.aload_n 0, 1) := zDec_at zB_dX11_mark_84 35 rfl
theorem dX11_mark_158 : decode cX11_mark 158 = .ok (.getfield 12, 3) := zDec_at zB_dX11_mark_84 36 rfl
theorem dX11_mark_161 : decode cX11_mark 161 = .ok (.getfield 137, 3) := zDec_at zB_dX11_mark_84 37 rfl
theorem dX11_mark_164 : decode cX11_mark 164 = .ok (.iload_n 1, 1) := zDec_at zB_dX11_mark_84 38 rfl
theorem dX11_mark_165 : decode cX11_mark 165 = .ok (.iload_n 2, 1) := zDec_at zB_dX11_mark_84 39 rfl
theorem zB_dX11_mark_166 : zDecB cX11_mark [(166, .iload_n 3, 1), (167, .iload 4, 2), (169, .iload 5, 2), (171, .iload 6, 2), (173, .invokevirtual 145, 3), (176, .invokevirtual 55, 3), (179, .ireturn, 1)] = true := by decide +kernel
theorem dX11_mark_166 : decode cX11_mark 166 = .ok (.iload_n 3, 1) := zDec_at zB_dX11_mark_166 0 rfl
theorem dX11_mark_167 : decode cX11_mark 167 = .ok (.iload 4, 2) := zDec_at zB_dX11_mark_166 1 rfl
theorem dX11_mark_169 : decode cX11_mark 169 = .ok (.iload 5, 2) := zDec_at zB_dX11_mark_166 2 rfl
theorem dX11_mark_171 : decode cX11_mark 171 = .ok (.iload 6, 2) := zDec_at zB_dX11_mark_166 3 rfl
theorem dX11_mark_173 : decode cX11_mark 173 = .ok (.invokevirtual 145, 3) := zDec_at zB_dX11_mark_166 4 rfl
theorem dX11_mark_176 : decode cX11_mark 176 = .ok (.invokevirtual 55, 3) := zDec_at zB_dX11_mark_166 5 rfl
theorem dX11_mark_179 : decode cX11_mark 179 = .ok (.ireturn, 1) := zDec_at zB_dX11_mark_166 6 rfl
theorem zB_dX11_markThatCounts_0 : zDecB cX11_markThatCounts [(0, .iload_n 3, 1), (1, .invokestatic 118, 3), (4, .ifCond .ne 39, 3), (7, .iload 4, 2), (9, .invokestatic 72, 3), (12, .ifCond .ne 31, 3), (15, .aload_n 0, 1), (16, .getfield 12, 3), (19, .getfield 43, 3), (22, .iload_n 2, 1), (23, .invokevirtual 90, 3), (26, .ifCond .ne 17, 3), (29, .aload_n 0, 1), (30, .getfield 12, 3), (33, .getfield 43, 3), (36, .iload_n 1, 1), (37, .invokevirtual 76, 3), (40, .ifCond .eq 5, 3), (43, .iconst (-1), 1), (44, .ireturn, 1), (45, .aload_n 0, 1), (46, .getfield 12, 3), (49, .getfield 137, 3), (52, .iload_n 1, 1), (53, .iload_n 2, 1), (54, .iload_n 3, 1), (55, .iload 4, 2), (57, .invokevirtual 386, 3), (60, .ireturn, 1)] = true := by decide +kernel
theorem dX11_markThatCounts_0 : decode cX11_markThatCounts 0 = .ok (.iload_n 3, 1) := zDec_at zB_dX11_markThatCounts_0 0 rfl
theorem dX11_markThatCounts_1 : decode cX11_markThatCounts 1 = .ok (.invokestatic 118, 3) := zDec_at zB_dX11_markThatCounts_0 1 rfl
theorem dX11_markThatCounts_4 : decode cX11_markThatCounts 4 = .ok (.ifCond .ne 39, 3) := zDec_at zB_dX11_markThatCounts_0 2 rfl
theorem dX11_markThatCounts_7 : decode cX11_markThatCounts 7 = .ok (.iload 4, 2) := zDec_at zB_dX11_markThatCounts_0 3 rfl
theorem dX11_markThatCounts_9 : decode cX11_markThatCounts 9 = .ok (.invokestatic 72, 3) := zDec_at zB_dX11_markThatCounts_0 4 rfl
theorem dX11_markThatCounts_12 : decode cX11_markThatCounts 12 = .ok (.ifCond .ne 31, 3) := zDec_at zB_dX11_markThatCounts_0 5 rfl
theorem dX11_markThatCounts_15 : decode cX11_markThatCounts 15 = .ok (.aload_n 0, 1) := zDec_at zB_dX11_markThatCounts_0 6 rfl
theorem dX11_markThatCounts_16 : decode cX11_markThatCounts 16 = .ok (.getfield 12, 3) := zDec_at zB_dX11_markThatCounts_0 7 rfl
theorem dX11_markThatCounts_19 : decode cX11_markThatCounts 19 = .ok (.getfield 43, 3) := zDec_at zB_dX11_markThatCounts_0 8 rfl
theorem dX11_markThatCounts_22 : decode cX11_markThatCounts 22 = .ok (.iload_n 2, 1) := zDec_at zB_dX11_markThatCounts_0 9 rfl
theorem dX11_markThatCounts_23 : decode cX11_markThatCounts 23 = .ok (.invokevirtual 90, 3) := zDec_at zB_dX11_markThatCounts_0 10 rfl
theorem dX11_markThatCounts_26 : decode cX11_markThatCounts 26 = .ok (.ifCond .ne 17, 3) := zDec_at zB_dX11_markThatCounts_0 11 rfl
theorem dX11_markThatCounts_29 : decode cX11_markThatCounts 29 = .ok (.aload_n 0, 1) := zDec_at zB_dX11_markThatCounts_0 12 rfl
theorem dX11_markThatCounts_30 : decode cX11_markThatCounts 30 = .ok (.getfield 12, 3) := zDec_at zB_dX11_markThatCounts_0 13 rfl
theorem dX11_markThatCounts_33 : decode cX11_markThatCounts 33 = .ok (.getfield 43, 3) := zDec_at zB_dX11_markThatCounts_0 14 rfl
theorem dX11_markThatCounts_36 : decode cX11_markThatCounts 36 = .ok (.iload_n 1, 1) := zDec_at zB_dX11_markThatCounts_0 15 rfl
theorem dX11_markThatCounts_37 : decode cX11_markThatCounts 37 = .ok (.invokevirtual 76, 3) := zDec_at zB_dX11_markThatCounts_0 16 rfl
theorem dX11_markThatCounts_40 : decode cX11_markThatCounts 40 = .ok (.ifCond .eq 5, 3) := zDec_at zB_dX11_markThatCounts_0 17 rfl
theorem dX11_markThatCounts_43 : decode cX11_markThatCounts 43 = .ok (.iconst (-1), 1) := zDec_at zB_dX11_markThatCounts_0 18 rfl
theorem dX11_markThatCounts_44 : decode cX11_markThatCounts 44 = .ok (.ireturn, 1) := zDec_at zB_dX11_markThatCounts_0 19 rfl
theorem dX11_markThatCounts_45 : decode cX11_markThatCounts 45 = .ok (.aload_n 0, 1) := zDec_at zB_dX11_markThatCounts_0 20 rfl
theorem dX11_markThatCounts_46 : decode cX11_markThatCounts 46 = .ok (.getfield 12, 3) := zDec_at zB_dX11_markThatCounts_0 21 rfl
theorem dX11_markThatCounts_49 : decode cX11_markThatCounts 49 = .ok (.getfield 137, 3) := zDec_at zB_dX11_markThatCounts_0 22 rfl
theorem dX11_markThatCounts_52 : decode cX11_markThatCounts 52 = .ok (.iload_n 1, 1) := zDec_at zB_dX11_markThatCounts_0 23 rfl
theorem dX11_markThatCounts_53 : decode cX11_markThatCounts 53 = .ok (.iload_n 2, 1) := zDec_at zB_dX11_markThatCounts_0 24 rfl
theorem dX11_markThatCounts_54 : decode cX11_markThatCounts 54 = .ok (.iload_n 3, 1) := zDec_at zB_dX11_markThatCounts_0 25 rfl
theorem dX11_markThatCounts_55 : decode cX11_markThatCounts 55 = .ok (.iload 4, 2) := zDec_at zB_dX11_markThatCounts_0 26 rfl
theorem dX11_markThatCounts_57 : decode cX11_markThatCounts 57 = .ok (.invokevirtual 386, 3) := zDec_at zB_dX11_markThatCounts_0 27 rfl
theorem dX11_markThatCounts_60 : decode cX11_markThatCounts 60 = .ok (.ireturn, 1) := zDec_at zB_dX11_markThatCounts_0 28 rfl
theorem zB_dX11_missing_0 : zDecB cX11_missing [(0, .aload_n 0, 1), (1, .getfield 12, 3), (4, .getfield 263, 3), (7, .astore_n 3, 1), (8, .iload_n 2, 1), (9, .invokestatic 267, 3), (12, .ifCond .eq 9, 3), (15, .aload_n 0, 1), (16, .iconst (-1), 1), (17, .invokevirtual 55, 3), (20, .ireturn, 1), (21, .aload_n 0, 1), (22, .getfield 12, 3), (25, .getfield 43, 3), (28, .iload_n 1, 1), (29, .invokevirtual 90, 3), (32, .ifCond .eq 10, 3), (35, .aload_n 0, 1), (36, .bipush (-2), 2), (38, .invokevirtual 55, 3), (41, .ireturn, 1), (42, .aload_n 3, 1), (43, .getfield 278, 3), (46, .aload_n 3, 1), (47, .getfield 281, 3), (50, .iload_n 1, 1), (51, .invokestatic 284, 3), (54, .ifCond .eq 10, 3), (57, .aload_n 0, 1), (58, .bipush (-4), 2), (60, .invokevirtual 55, 3), (63, .ireturn, 1), (64, .aload_n 3, 1), (65, .getfield 281, 3), (68, .bipush 6, 2), (70, .if_icmp .lt 10, 3), (73, .aload_n 0, 1), (74, .bipush (-5), 2), (76, .invokevirtual 55, 3), (79, .ireturn, 1)] = true := by decide +kernel
theorem dX11_missing_0 : decode cX11_missing 0 = .ok (.aload_n 0, 1) := zDec_at zB_dX11_missing_0 0 rfl
theorem dX11_missing_1 : decode cX11_missing 1 = .ok (.getfield 12, 3) := zDec_at zB_dX11_missing_0 1 rfl
theorem dX11_missing_4 : decode cX11_missing 4 = .ok (.getfield 263, 3) := zDec_at zB_dX11_missing_0 2 rfl
theorem dX11_missing_7 : decode cX11_missing 7 = .ok (.astore_n 3, 1) := zDec_at zB_dX11_missing_0 3 rfl
theorem dX11_missing_8 : decode cX11_missing 8 = .ok (.iload_n 2, 1) := zDec_at zB_dX11_missing_0 4 rfl
theorem dX11_missing_9 : decode cX11_missing 9 = .ok (.invokestatic 267, 3) := zDec_at zB_dX11_missing_0 5 rfl
theorem dX11_missing_12 : decode cX11_missing 12 = .ok (.ifCond .eq 9, 3) := zDec_at zB_dX11_missing_0 6 rfl
theorem dX11_missing_15 : decode cX11_missing 15 = .ok (.aload_n 0, 1) := zDec_at zB_dX11_missing_0 7 rfl
theorem dX11_missing_16 : decode cX11_missing 16 = .ok (.iconst (-1), 1) := zDec_at zB_dX11_missing_0 8 rfl
theorem dX11_missing_17 : decode cX11_missing 17 = .ok (.invokevirtual 55, 3) := zDec_at zB_dX11_missing_0 9 rfl
theorem dX11_missing_20 : decode cX11_missing 20 = .ok (.ireturn, 1) := zDec_at zB_dX11_missing_0 10 rfl
theorem dX11_missing_21 : decode cX11_missing 21 = .ok (.aload_n 0, 1) := zDec_at zB_dX11_missing_0 11 rfl
theorem dX11_missing_22 : decode cX11_missing 22 = .ok (.getfield 12, 3) := zDec_at zB_dX11_missing_0 12 rfl
theorem dX11_missing_25 : decode cX11_missing 25 = .ok (.getfield 43, 3) := zDec_at zB_dX11_missing_0 13 rfl
theorem dX11_missing_28 : decode cX11_missing 28 = .ok (.iload_n 1, 1) := zDec_at zB_dX11_missing_0 14 rfl
theorem dX11_missing_29 : decode cX11_missing 29 = .ok (.invokevirtual 90, 3) := zDec_at zB_dX11_missing_0 15 rfl
theorem dX11_missing_32 : decode cX11_missing 32 = .ok (.ifCond .eq 10, 3) := zDec_at zB_dX11_missing_0 16 rfl
theorem dX11_missing_35 : decode cX11_missing 35 = .ok (.aload_n 0, 1) := zDec_at zB_dX11_missing_0 17 rfl
theorem dX11_missing_36 : decode cX11_missing 36 = .ok (.bipush (-2), 2) := zDec_at zB_dX11_missing_0 18 rfl
theorem dX11_missing_38 : decode cX11_missing 38 = .ok (.invokevirtual 55, 3) := zDec_at zB_dX11_missing_0 19 rfl
theorem dX11_missing_41 : decode cX11_missing 41 = .ok (.ireturn, 1) := zDec_at zB_dX11_missing_0 20 rfl
theorem dX11_missing_42 : decode cX11_missing 42 = .ok (.aload_n 3, 1) := zDec_at zB_dX11_missing_0 21 rfl
theorem dX11_missing_43 : decode cX11_missing 43 = .ok (.getfield 278, 3) := zDec_at zB_dX11_missing_0 22 rfl
theorem dX11_missing_46 : decode cX11_missing 46 = .ok (.aload_n 3, 1) := zDec_at zB_dX11_missing_0 23 rfl
theorem dX11_missing_47 : decode cX11_missing 47 = .ok (.getfield 281, 3) := zDec_at zB_dX11_missing_0 24 rfl
theorem dX11_missing_50 : decode cX11_missing 50 = .ok (.iload_n 1, 1) := zDec_at zB_dX11_missing_0 25 rfl
theorem dX11_missing_51 : decode cX11_missing 51 = .ok (.invokestatic 284, 3) := zDec_at zB_dX11_missing_0 26 rfl
theorem dX11_missing_54 : decode cX11_missing 54 = .ok (.ifCond .eq 10, 3) := zDec_at zB_dX11_missing_0 27 rfl
theorem dX11_missing_57 : decode cX11_missing 57 = .ok (.aload_n 0, 1) := zDec_at zB_dX11_missing_0 28 rfl
theorem dX11_missing_58 : decode cX11_missing 58 = .ok (.bipush (-4), 2) := zDec_at zB_dX11_missing_0 29 rfl
theorem dX11_missing_60 : decode cX11_missing 60 = .ok (.invokevirtual 55, 3) := zDec_at zB_dX11_missing_0 30 rfl
theorem dX11_missing_63 : decode cX11_missing 63 = .ok (.ireturn, 1) := zDec_at zB_dX11_missing_0 31 rfl
theorem dX11_missing_64 : decode cX11_missing 64 = .ok (.aload_n 3, 1) := zDec_at zB_dX11_missing_0 32 rfl
theorem dX11_missing_65 : decode cX11_missing 65 = .ok (.getfield 281, 3) := zDec_at zB_dX11_missing_0 33 rfl
theorem dX11_missing_68 : decode cX11_missing 68 = .ok (.bipush 6, 2) := zDec_at zB_dX11_missing_0 34 rfl
theorem dX11_missing_70 : decode cX11_missing 70 = .ok (.if_icmp .lt 10, 3) := zDec_at zB_dX11_missing_0 35 rfl
theorem dX11_missing_73 : decode cX11_missing 73 = .ok (.aload_n 0, 1) := zDec_at zB_dX11_missing_0 36 rfl
theorem dX11_missing_74 : decode cX11_missing 74 = .ok (.bipush (-5), 2) := zDec_at zB_dX11_missing_0 37 rfl
theorem dX11_missing_76 : decode cX11_missing 76 = .ok (.invokevirtual 55, 3) := zDec_at zB_dX11_missing_0 38 rfl
theorem dX11_missing_79 : decode cX11_missing 79 = .ok (.ireturn, 1) := zDec_at zB_dX11_missing_0 39 rfl
theorem zB_dX11_missing_80 : zDecB cX11_missing [(80, .aload_n 3, 1), (81, .getfield 278, 3), (84, .aload_n 3, 1), (85, .getfield 281, 3), (88, .iload_n 1, 1), (89, .iastore, 1), (90, .aload_n 3, 1), (91, .getfield 288, 3), (94, .aload_n 3, 1), (95, .getfield 281, 3), (98, .iload_n 2, 1), (99, .iastore, 1), (100, .aload_n 3, 1), (101, .dup, 1), (102, .getfield 281, 3), (105, .iconst 1, 1), (106, .iadd, 1), (107, .putfield 281, 3), (110, .aload_n 0, 1), (111, .aload_n 3, 1), (112, .getfield 281, 3), (115, .invokevirtual 55, 3), (118, .ireturn, 1)] = true := by decide +kernel
theorem dX11_missing_80 : decode cX11_missing 80 = .ok (.aload_n 3, 1) := zDec_at zB_dX11_missing_80 0 rfl
theorem dX11_missing_81 : decode cX11_missing 81 = .ok (.getfield 278, 3) := zDec_at zB_dX11_missing_80 1 rfl
theorem dX11_missing_84 : decode cX11_missing 84 = .ok (.aload_n 3, 1) := zDec_at zB_dX11_missing_80 2 rfl
theorem dX11_missing_85 : decode cX11_missing 85 = .ok (.getfield 281, 3) := zDec_at zB_dX11_missing_80 3 rfl
theorem dX11_missing_88 : decode cX11_missing 88 = .ok (.iload_n 1, 1) := zDec_at zB_dX11_missing_80 4 rfl
theorem dX11_missing_89 : decode cX11_missing 89 = .ok (.iastore, 1) := zDec_at zB_dX11_missing_80 5 rfl
theorem dX11_missing_90 : decode cX11_missing 90 = .ok (.aload_n 3, 1) := zDec_at zB_dX11_missing_80 6 rfl
theorem dX11_missing_91 : decode cX11_missing 91 = .ok (.getfield 288, 3) := zDec_at zB_dX11_missing_80 7 rfl
theorem dX11_missing_94 : decode cX11_missing 94 = .ok (.aload_n 3, 1) := zDec_at zB_dX11_missing_80 8 rfl
theorem dX11_missing_95 : decode cX11_missing 95 = .ok (.getfield 281, 3) := zDec_at zB_dX11_missing_80 9 rfl
theorem dX11_missing_98 : decode cX11_missing 98 = .ok (.iload_n 2, 1) := zDec_at zB_dX11_missing_80 10 rfl
theorem dX11_missing_99 : decode cX11_missing 99 = .ok (.iastore, 1) := zDec_at zB_dX11_missing_80 11 rfl
theorem dX11_missing_100 : decode cX11_missing 100 = .ok (.aload_n 3, 1) := zDec_at zB_dX11_missing_80 12 rfl
theorem dX11_missing_101 : decode cX11_missing 101 = .ok (.dup, 1) := zDec_at zB_dX11_missing_80 13 rfl
theorem dX11_missing_102 : decode cX11_missing 102 = .ok (.getfield 281, 3) := zDec_at zB_dX11_missing_80 14 rfl
theorem dX11_missing_105 : decode cX11_missing 105 = .ok (.iconst 1, 1) := zDec_at zB_dX11_missing_80 15 rfl
theorem dX11_missing_106 : decode cX11_missing 106 = .ok (.iadd, 1) := zDec_at zB_dX11_missing_80 16 rfl
theorem dX11_missing_107 : decode cX11_missing 107 = .ok (.putfield 281, 3) := zDec_at zB_dX11_missing_80 17 rfl
theorem dX11_missing_110 : decode cX11_missing 110 = .ok (.aload_n 0, 1) := zDec_at zB_dX11_missing_80 18 rfl
theorem dX11_missing_111 : decode cX11_missing 111 = .ok (.aload_n 3, 1) := zDec_at zB_dX11_missing_80 19 rfl
theorem dX11_missing_112 : decode cX11_missing 112 = .ok (.getfield 281, 3) := zDec_at zB_dX11_missing_80 20 rfl
theorem dX11_missing_115 : decode cX11_missing 115 = .ok (.invokevirtual 55, 3) := zDec_at zB_dX11_missing_80 21 rfl
theorem dX11_missing_118 : decode cX11_missing 118 = .ok (.ireturn, 1) := zDec_at zB_dX11_missing_80 22 rfl
theorem zB_dX11_off_0 : zDecB cX11_off [(0, .iload_n 2, 1), (1, .invokestatic 72, 3), (4, .ifCond .ne 24, 3), (7, .iload_n 3, 1), (8, .invokestatic 72, 3), (11, .ifCond .ne 17, 3), (14, .aload_n 0, 1), (15, .getfield 12, 3), (18, .getfield 43, 3), (21, .iload_n 1, 1), (22, .invokevirtual 90, 3), (25, .ifCond .eq 5, 3), (28, .iconst (-1), 1), (29, .ireturn, 1), (30, .aload_n 0, 1), (31, .getfield 32, 3), (34, .iload_n 1, 1), (35, .iload_n 3, 1), (36, .invokevirtual 223, 3), (39, .aload_n 0, 1), (40, .getfield 32, 3), (43, .iload_n 1, 1), (44, .iload_n 2, 1), (45, .invokevirtual 254, 3), (48, .aload_n 0, 1), (49, .getfield 32, 3), (52, .sipush 512, 3), (55, .invokevirtual 178, 3), (58, .ifCond .eq 7, 3), (61, .iconst 1, 1), (62, .goto 4, 3), (65, .iconst 0, 1), (66, .ireturn, 1)] = true := by decide +kernel
theorem dX11_off_0 : decode cX11_off 0 = .ok (.iload_n 2, 1) := zDec_at zB_dX11_off_0 0 rfl
theorem dX11_off_1 : decode cX11_off 1 = .ok (.invokestatic 72, 3) := zDec_at zB_dX11_off_0 1 rfl
theorem dX11_off_4 : decode cX11_off 4 = .ok (.ifCond .ne 24, 3) := zDec_at zB_dX11_off_0 2 rfl
theorem dX11_off_7 : decode cX11_off 7 = .ok (.iload_n 3, 1) := zDec_at zB_dX11_off_0 3 rfl
theorem dX11_off_8 : decode cX11_off 8 = .ok (.invokestatic 72, 3) := zDec_at zB_dX11_off_0 4 rfl
theorem dX11_off_11 : decode cX11_off 11 = .ok (.ifCond .ne 17, 3) := zDec_at zB_dX11_off_0 5 rfl
theorem dX11_off_14 : decode cX11_off 14 = .ok (.aload_n 0, 1) := zDec_at zB_dX11_off_0 6 rfl
theorem dX11_off_15 : decode cX11_off 15 = .ok (.getfield 12, 3) := zDec_at zB_dX11_off_0 7 rfl
theorem dX11_off_18 : decode cX11_off 18 = .ok (.getfield 43, 3) := zDec_at zB_dX11_off_0 8 rfl
theorem dX11_off_21 : decode cX11_off 21 = .ok (.iload_n 1, 1) := zDec_at zB_dX11_off_0 9 rfl
theorem dX11_off_22 : decode cX11_off 22 = .ok (.invokevirtual 90, 3) := zDec_at zB_dX11_off_0 10 rfl
theorem dX11_off_25 : decode cX11_off 25 = .ok (.ifCond .eq 5, 3) := zDec_at zB_dX11_off_0 11 rfl
theorem dX11_off_28 : decode cX11_off 28 = .ok (.iconst (-1), 1) := zDec_at zB_dX11_off_0 12 rfl
theorem dX11_off_29 : decode cX11_off 29 = .ok (.ireturn, 1) := zDec_at zB_dX11_off_0 13 rfl
theorem dX11_off_30 : decode cX11_off 30 = .ok (.aload_n 0, 1) := zDec_at zB_dX11_off_0 14 rfl
theorem dX11_off_31 : decode cX11_off 31 = .ok (.getfield 32, 3) := zDec_at zB_dX11_off_0 15 rfl
theorem dX11_off_34 : decode cX11_off 34 = .ok (.iload_n 1, 1) := zDec_at zB_dX11_off_0 16 rfl
theorem dX11_off_35 : decode cX11_off 35 = .ok (.iload_n 3, 1) := zDec_at zB_dX11_off_0 17 rfl
theorem dX11_off_36 : decode cX11_off 36 = .ok (.invokevirtual 223, 3) := zDec_at zB_dX11_off_0 18 rfl
theorem dX11_off_39 : decode cX11_off 39 = .ok (.aload_n 0, 1) := zDec_at zB_dX11_off_0 19 rfl
theorem dX11_off_40 : decode cX11_off 40 = .ok (.getfield 32, 3) := zDec_at zB_dX11_off_0 20 rfl
theorem dX11_off_43 : decode cX11_off 43 = .ok (.iload_n 1, 1) := zDec_at zB_dX11_off_0 21 rfl
theorem dX11_off_44 : decode cX11_off 44 = .ok (.iload_n 2, 1) := zDec_at zB_dX11_off_0 22 rfl
theorem dX11_off_45 : decode cX11_off 45 = .ok (.invokevirtual 254, 3) := zDec_at zB_dX11_off_0 23 rfl
theorem dX11_off_48 : decode cX11_off 48 = .ok (.aload_n 0, 1) := zDec_at zB_dX11_off_0 24 rfl
theorem dX11_off_49 : decode cX11_off 49 = .ok (.getfield 32, 3) := zDec_at zB_dX11_off_0 25 rfl
theorem dX11_off_52 : decode cX11_off 52 = .ok (.sipush 512, 3) := zDec_at zB_dX11_off_0 26 rfl
theorem dX11_off_55 : decode cX11_off 55 = .ok (.invokevirtual 178, 3) := zDec_at zB_dX11_off_0 27 rfl
theorem dX11_off_58 : decode cX11_off 58 = .ok (.ifCond .eq 7, 3) := zDec_at zB_dX11_off_0 28 rfl
theorem dX11_off_61 : decode cX11_off 61 = .ok (.iconst 1, 1) := zDec_at zB_dX11_off_0 29 rfl
theorem dX11_off_62 : decode cX11_off 62 = .ok (.goto 4, 3) := zDec_at zB_dX11_off_0 30 rfl
theorem dX11_off_65 : decode cX11_off 65 = .ok (.iconst 0, 1) := zDec_at zB_dX11_off_0 31 rfl
theorem dX11_off_66 : decode cX11_off 66 = .ok (.ireturn, 1) := zDec_at zB_dX11_off_0 32 rfl
theorem zB_dX11_pay_0 : zDecB cX11_pay [(0, .aload_n 0, 1), (1, .getfield 12, 3), (4, .getfield 230, 3), (7, .astore 4, 2), (9, .iload_n 2, 1), (10, .invokestatic 220, 3), (13, .ifCond .ne 10, 3), (16, .iload_n 3, 1), (17, .invokestatic 72, 3), (20, .ifCond .eq 9, 3), (23, .aload_n 0, 1), (24, .iconst (-1), 1), (25, .invokevirtual 55, 3), (28, .ireturn, 1), (29, .aload_n 0, 1), (30, .getfield 12, 3), (33, .getfield 43, 3), (36, .iload_n 1, 1), (37, .invokevirtual 90, 3), (40, .ifCond .eq 10, 3), (43, .aload_n 0, 1), (44, .bipush (-2), 2), (46, .invokevirtual 55, 3), (49, .ireturn, 1), (50, .iload_n 1, 1), (51, .iconst 4, 1), (52, .imul, 1), (53, .iload_n 2, 1), (54, .iadd, 1), (55, .istore 5, 2), (57, .aload 4, 2), (59, .getfield 234, 3), (62, .iload 5, 2), (64, .iaload, 1), (65, .istore 6, 2), (67, .iload 6, 2), (69, .iconst (-1), 1), (70, .if_icmp .eq 9, 3), (73, .iload 6, 2), (75, .iload_n 3, 1)] = true := by decide +kernel
theorem dX11_pay_0 : decode cX11_pay 0 = .ok (.aload_n 0, 1) := zDec_at zB_dX11_pay_0 0 rfl
theorem dX11_pay_1 : decode cX11_pay 1 = .ok (.getfield 12, 3) := zDec_at zB_dX11_pay_0 1 rfl
theorem dX11_pay_4 : decode cX11_pay 4 = .ok (.getfield 230, 3) := zDec_at zB_dX11_pay_0 2 rfl
theorem dX11_pay_7 : decode cX11_pay 7 = .ok (.astore 4, 2) := zDec_at zB_dX11_pay_0 3 rfl
theorem dX11_pay_9 : decode cX11_pay 9 = .ok (.iload_n 2, 1) := zDec_at zB_dX11_pay_0 4 rfl
theorem dX11_pay_10 : decode cX11_pay 10 = .ok (.invokestatic 220, 3) := zDec_at zB_dX11_pay_0 5 rfl
theorem dX11_pay_13 : decode cX11_pay 13 = .ok (.ifCond .ne 10, 3) := zDec_at zB_dX11_pay_0 6 rfl
theorem dX11_pay_16 : decode cX11_pay 16 = .ok (.iload_n 3, 1) := zDec_at zB_dX11_pay_0 7 rfl
theorem dX11_pay_17 : decode cX11_pay 17 = .ok (.invokestatic 72, 3) := zDec_at zB_dX11_pay_0 8 rfl
theorem dX11_pay_20 : decode cX11_pay 20 = .ok (.ifCond .eq 9, 3) := zDec_at zB_dX11_pay_0 9 rfl
theorem dX11_pay_23 : decode cX11_pay 23 = .ok (.aload_n 0, 1) := zDec_at zB_dX11_pay_0 10 rfl
theorem dX11_pay_24 : decode cX11_pay 24 = .ok (.iconst (-1), 1) := zDec_at zB_dX11_pay_0 11 rfl
theorem dX11_pay_25 : decode cX11_pay 25 = .ok (.invokevirtual 55, 3) := zDec_at zB_dX11_pay_0 12 rfl
theorem dX11_pay_28 : decode cX11_pay 28 = .ok (.ireturn, 1) := zDec_at zB_dX11_pay_0 13 rfl
theorem dX11_pay_29 : decode cX11_pay 29 = .ok (.aload_n 0, 1) := zDec_at zB_dX11_pay_0 14 rfl
theorem dX11_pay_30 : decode cX11_pay 30 = .ok (.getfield 12, 3) := zDec_at zB_dX11_pay_0 15 rfl
theorem dX11_pay_33 : decode cX11_pay 33 = .ok (.getfield 43, 3) := zDec_at zB_dX11_pay_0 16 rfl
theorem dX11_pay_36 : decode cX11_pay 36 = .ok (.iload_n 1, 1) := zDec_at zB_dX11_pay_0 17 rfl
theorem dX11_pay_37 : decode cX11_pay 37 = .ok (.invokevirtual 90, 3) := zDec_at zB_dX11_pay_0 18 rfl
theorem dX11_pay_40 : decode cX11_pay 40 = .ok (.ifCond .eq 10, 3) := zDec_at zB_dX11_pay_0 19 rfl
theorem dX11_pay_43 : decode cX11_pay 43 = .ok (.aload_n 0, 1) := zDec_at zB_dX11_pay_0 20 rfl
theorem dX11_pay_44 : decode cX11_pay 44 = .ok (.bipush (-2), 2) := zDec_at zB_dX11_pay_0 21 rfl
theorem dX11_pay_46 : decode cX11_pay 46 = .ok (.invokevirtual 55, 3) := zDec_at zB_dX11_pay_0 22 rfl
theorem dX11_pay_49 : decode cX11_pay 49 = .ok (.ireturn, 1) := zDec_at zB_dX11_pay_0 23 rfl
theorem dX11_pay_50 : decode cX11_pay 50 = .ok (.iload_n 1, 1) := zDec_at zB_dX11_pay_0 24 rfl
theorem dX11_pay_51 : decode cX11_pay 51 = .ok (.iconst 4, 1) := zDec_at zB_dX11_pay_0 25 rfl
theorem dX11_pay_52 : decode cX11_pay 52 = .ok (.imul, 1) := zDec_at zB_dX11_pay_0 26 rfl
theorem dX11_pay_53 : decode cX11_pay 53 = .ok (.iload_n 2, 1) := zDec_at zB_dX11_pay_0 27 rfl
theorem dX11_pay_54 : decode cX11_pay 54 = .ok (.iadd, 1) := zDec_at zB_dX11_pay_0 28 rfl
theorem dX11_pay_55 : decode cX11_pay 55 = .ok (.istore 5, 2) := zDec_at zB_dX11_pay_0 29 rfl
theorem dX11_pay_57 : decode cX11_pay 57 = .ok (.aload 4, 2) := zDec_at zB_dX11_pay_0 30 rfl
theorem dX11_pay_59 : decode cX11_pay 59 = .ok (.getfield 234, 3) := zDec_at zB_dX11_pay_0 31 rfl
theorem dX11_pay_62 : decode cX11_pay 62 = .ok (.iload 5, 2) := zDec_at zB_dX11_pay_0 32 rfl
theorem dX11_pay_64 : decode cX11_pay 64 = .ok (.iaload, 1) := zDec_at zB_dX11_pay_0 33 rfl
theorem dX11_pay_65 : decode cX11_pay 65 = .ok (.istore 6, 2) := zDec_at zB_dX11_pay_0 34 rfl
theorem dX11_pay_67 : decode cX11_pay 67 = .ok (.iload 6, 2) := zDec_at zB_dX11_pay_0 35 rfl
theorem dX11_pay_69 : decode cX11_pay 69 = .ok (.iconst (-1), 1) := zDec_at zB_dX11_pay_0 36 rfl
theorem dX11_pay_70 : decode cX11_pay 70 = .ok (.if_icmp .eq 9, 3) := zDec_at zB_dX11_pay_0 37 rfl
theorem dX11_pay_73 : decode cX11_pay 73 = .ok (.iload 6, 2) := zDec_at zB_dX11_pay_0 38 rfl
theorem dX11_pay_75 : decode cX11_pay 75 = .ok (.iload_n 3, 1) := zDec_at zB_dX11_pay_0 39 rfl
theorem zB_dX11_pay_76 : zDecB cX11_pay [(76, .if_icmp .le 10, 3), (79, .aload_n 0, 1), (80, .bipush (-3), 2), (82, .invokevirtual 55, 3), (85, .ireturn, 1), (86, .aload 4, 2), (88, .getfield 242, 3), (91, .iload 5, 2), (93, .iaload, 1), (94, .iconst (-1), 1), (95, .if_icmp .eq 10, 3), (98, .aload_n 0, 1), (99, .bipush (-4), 2), (101, .invokevirtual 55, 3), (104, .ireturn, 1), (105, .aload_n 0, 1), (106, .getfield 32, 3), (109, .iload_n 1, 1), (110, .iload 6, 2), (112, .invokevirtual 223, 3), (115, .aload_n 0, 1), (116, .getfield 32, 3), (119, .iload_n 1, 1), (120, .iload_n 2, 1), (121, .iload 6, 2), (123, .invokevirtual 245, 3), (126, .istore 7, 2), (128, .iload_n 3, 1), (129, .iload 6, 2), (131, .isub, 1), (132, .aload_n 0, 1), (133, .getfield 32, 3), (136, .getfield 248, 3), (139, .if_icmp .ge 7, 3), (142, .iconst 1, 1), (143, .goto 4, 3), (146, .iconst 0, 1), (147, .istore 8, 2), (149, .aload 4, 2), (151, .getfield 242, 3)] = true := by decide +kernel
theorem dX11_pay_76 : decode cX11_pay 76 = .ok (.if_icmp .le 10, 3) := zDec_at zB_dX11_pay_76 0 rfl
theorem dX11_pay_79 : decode cX11_pay 79 = .ok (.aload_n 0, 1) := zDec_at zB_dX11_pay_76 1 rfl
theorem dX11_pay_80 : decode cX11_pay 80 = .ok (.bipush (-3), 2) := zDec_at zB_dX11_pay_76 2 rfl
theorem dX11_pay_82 : decode cX11_pay 82 = .ok (.invokevirtual 55, 3) := zDec_at zB_dX11_pay_76 3 rfl
theorem dX11_pay_85 : decode cX11_pay 85 = .ok (.ireturn, 1) := zDec_at zB_dX11_pay_76 4 rfl
theorem dX11_pay_86 : decode cX11_pay 86 = .ok (.aload 4, 2) := zDec_at zB_dX11_pay_76 5 rfl
theorem dX11_pay_88 : decode cX11_pay 88 = .ok (.getfield 242, 3) := zDec_at zB_dX11_pay_76 6 rfl
theorem dX11_pay_91 : decode cX11_pay 91 = .ok (.iload 5, 2) := zDec_at zB_dX11_pay_76 7 rfl
theorem dX11_pay_93 : decode cX11_pay 93 = .ok (.iaload, 1) := zDec_at zB_dX11_pay_76 8 rfl
theorem dX11_pay_94 : decode cX11_pay 94 = .ok (.iconst (-1), 1) := zDec_at zB_dX11_pay_76 9 rfl
theorem dX11_pay_95 : decode cX11_pay 95 = .ok (.if_icmp .eq 10, 3) := zDec_at zB_dX11_pay_76 10 rfl
theorem dX11_pay_98 : decode cX11_pay 98 = .ok (.aload_n 0, 1) := zDec_at zB_dX11_pay_76 11 rfl
theorem dX11_pay_99 : decode cX11_pay 99 = .ok (.bipush (-4), 2) := zDec_at zB_dX11_pay_76 12 rfl
theorem dX11_pay_101 : decode cX11_pay 101 = .ok (.invokevirtual 55, 3) := zDec_at zB_dX11_pay_76 13 rfl
theorem dX11_pay_104 : decode cX11_pay 104 = .ok (.ireturn, 1) := zDec_at zB_dX11_pay_76 14 rfl
theorem dX11_pay_105 : decode cX11_pay 105 = .ok (.aload_n 0, 1) := zDec_at zB_dX11_pay_76 15 rfl
theorem dX11_pay_106 : decode cX11_pay 106 = .ok (.getfield 32, 3) := zDec_at zB_dX11_pay_76 16 rfl
theorem dX11_pay_109 : decode cX11_pay 109 = .ok (.iload_n 1, 1) := zDec_at zB_dX11_pay_76 17 rfl
theorem dX11_pay_110 : decode cX11_pay 110 = .ok (.iload 6, 2) := zDec_at zB_dX11_pay_76 18 rfl
theorem dX11_pay_112 : decode cX11_pay 112 = .ok (.invokevirtual 223, 3) := zDec_at zB_dX11_pay_76 19 rfl
theorem dX11_pay_115 : decode cX11_pay 115 = .ok (.aload_n 0, 1) := zDec_at zB_dX11_pay_76 20 rfl
theorem dX11_pay_116 : decode cX11_pay 116 = .ok (.getfield 32, 3) := zDec_at zB_dX11_pay_76 21 rfl
theorem dX11_pay_119 : decode cX11_pay 119 = .ok (.iload_n 1, 1) := zDec_at zB_dX11_pay_76 22 rfl
theorem dX11_pay_120 : decode cX11_pay 120 = .ok (.iload_n 2, 1) := zDec_at zB_dX11_pay_76 23 rfl
theorem dX11_pay_121 : decode cX11_pay 121 = .ok (.iload 6, 2) := zDec_at zB_dX11_pay_76 24 rfl
theorem dX11_pay_123 : decode cX11_pay 123 = .ok (.invokevirtual 245, 3) := zDec_at zB_dX11_pay_76 25 rfl
theorem dX11_pay_126 : decode cX11_pay 126 = .ok (.istore 7, 2) := zDec_at zB_dX11_pay_76 26 rfl
theorem dX11_pay_128 : decode cX11_pay 128 = .ok (.iload_n 3, 1) := zDec_at zB_dX11_pay_76 27 rfl
theorem dX11_pay_129 : decode cX11_pay 129 = .ok (.iload 6, 2) := zDec_at zB_dX11_pay_76 28 rfl
theorem dX11_pay_131 : decode cX11_pay 131 = .ok (.isub, 1) := zDec_at zB_dX11_pay_76 29 rfl
theorem dX11_pay_132 : decode cX11_pay 132 = .ok (.aload_n 0, 1) := zDec_at zB_dX11_pay_76 30 rfl
theorem dX11_pay_133 : decode cX11_pay 133 = .ok (.getfield 32, 3) := zDec_at zB_dX11_pay_76 31 rfl
theorem dX11_pay_136 : decode cX11_pay 136 = .ok (.getfield 248, 3) := zDec_at zB_dX11_pay_76 32 rfl
theorem dX11_pay_139 : decode cX11_pay 139 = .ok (.if_icmp .ge 7, 3) := zDec_at zB_dX11_pay_76 33 rfl
theorem dX11_pay_142 : decode cX11_pay 142 = .ok (.iconst 1, 1) := zDec_at zB_dX11_pay_76 34 rfl
theorem dX11_pay_143 : decode cX11_pay 143 = .ok (.goto 4, 3) := zDec_at zB_dX11_pay_76 35 rfl
theorem dX11_pay_146 : decode cX11_pay 146 = .ok (.iconst 0, 1) := zDec_at zB_dX11_pay_76 36 rfl
theorem dX11_pay_147 : decode cX11_pay 147 = .ok (.istore 8, 2) := zDec_at zB_dX11_pay_76 37 rfl
theorem dX11_pay_149 : decode cX11_pay 149 = .ok (.aload 4, 2) := zDec_at zB_dX11_pay_76 38 rfl
theorem dX11_pay_151 : decode cX11_pay 151 = .ok (.getfield 242, 3) := zDec_at zB_dX11_pay_76 39 rfl
theorem zB_dX11_pay_154 : zDecB cX11_pay [(154, .iload 5, 2), (156, .iload_n 3, 1), (157, .iastore, 1), (158, .aload 4, 2), (160, .getfield 251, 3), (163, .iload 5, 2), (165, .iload 8, 2), (167, .ifCond .eq 10, 3), (170, .iload 7, 2), (172, .iconst 2, 1), (173, .idiv, 1), (174, .goto 5, 3), (177, .iload 7, 2), (179, .iastore, 1), (180, .aload_n 0, 1), (181, .aload 4, 2), (183, .getfield 251, 3), (186, .iload 5, 2), (188, .iaload, 1), (189, .invokevirtual 55, 3), (192, .ireturn, 1)] = true := by decide +kernel
theorem dX11_pay_154 : decode cX11_pay 154 = .ok (.iload 5, 2) := zDec_at zB_dX11_pay_154 0 rfl
theorem dX11_pay_156 : decode cX11_pay 156 = .ok (.iload_n 3, 1) := zDec_at zB_dX11_pay_154 1 rfl
theorem dX11_pay_157 : decode cX11_pay 157 = .ok (.iastore, 1) := zDec_at zB_dX11_pay_154 2 rfl
theorem dX11_pay_158 : decode cX11_pay 158 = .ok (.aload 4, 2) := zDec_at zB_dX11_pay_154 3 rfl
theorem dX11_pay_160 : decode cX11_pay 160 = .ok (.getfield 251, 3) := zDec_at zB_dX11_pay_154 4 rfl
theorem dX11_pay_163 : decode cX11_pay 163 = .ok (.iload 5, 2) := zDec_at zB_dX11_pay_154 5 rfl
theorem dX11_pay_165 : decode cX11_pay 165 = .ok (.iload 8, 2) := zDec_at zB_dX11_pay_154 6 rfl
theorem dX11_pay_167 : decode cX11_pay 167 = .ok (.ifCond .eq 10, 3) := zDec_at zB_dX11_pay_154 7 rfl
theorem dX11_pay_170 : decode cX11_pay 170 = .ok (.iload 7, 2) := zDec_at zB_dX11_pay_154 8 rfl
theorem dX11_pay_172 : decode cX11_pay 172 = .ok (.iconst 2, 1) := zDec_at zB_dX11_pay_154 9 rfl
theorem dX11_pay_173 : decode cX11_pay 173 = .ok (.idiv, 1) := zDec_at zB_dX11_pay_154 10 rfl
theorem dX11_pay_174 : decode cX11_pay 174 = .ok (.goto 5, 3) := zDec_at zB_dX11_pay_154 11 rfl
theorem dX11_pay_177 : decode cX11_pay 177 = .ok (.iload 7, 2) := zDec_at zB_dX11_pay_154 12 rfl
theorem dX11_pay_179 : decode cX11_pay 179 = .ok (.iastore, 1) := zDec_at zB_dX11_pay_154 13 rfl
theorem dX11_pay_180 : decode cX11_pay 180 = .ok (.aload_n 0, 1) := zDec_at zB_dX11_pay_154 14 rfl
theorem dX11_pay_181 : decode cX11_pay 181 = .ok (.aload 4, 2) := zDec_at zB_dX11_pay_154 15 rfl
theorem dX11_pay_183 : decode cX11_pay 183 = .ok (.getfield 251, 3) := zDec_at zB_dX11_pay_154 16 rfl
theorem dX11_pay_186 : decode cX11_pay 186 = .ok (.iload 5, 2) := zDec_at zB_dX11_pay_154 17 rfl
theorem dX11_pay_188 : decode cX11_pay 188 = .ok (.iaload, 1) := zDec_at zB_dX11_pay_154 18 rfl
theorem dX11_pay_189 : decode cX11_pay 189 = .ok (.invokevirtual 55, 3) := zDec_at zB_dX11_pay_154 19 rfl
theorem dX11_pay_192 : decode cX11_pay 192 = .ok (.ireturn, 1) := zDec_at zB_dX11_pay_154 20 rfl
theorem zB_dX11_rate_0 : zDecB cX11_rate [(0, .iload_n 2, 1), (1, .iload_n 3, 1), (2, .invokestatic 210, 3), (5, .ifCond .ne 25, 3), (8, .iload 4, 2), (10, .invokestatic 72, 3), (13, .ifCond .ne 17, 3), (16, .aload_n 0, 1), (17, .getfield 12, 3), (20, .getfield 43, 3), (23, .iload_n 1, 1), (24, .invokevirtual 90, 3), (27, .ifCond .eq 5, 3), (30, .iconst (-1), 1), (31, .ireturn, 1), (32, .aload_n 0, 1), (33, .getfield 32, 3), (36, .iconst (-1), 1), (37, .iload_n 1, 1), (38, .iload_n 2, 1), (39, .iload_n 3, 1), (40, .iload 4, 2), (42, .invokevirtual 213, 3), (45, .aload_n 0, 1), (46, .getfield 32, 3), (49, .iload 5, 2), (51, .invokevirtual 217, 3), (54, .ireturn, 1)] = true := by decide +kernel
theorem dX11_rate_0 : decode cX11_rate 0 = .ok (.iload_n 2, 1) := zDec_at zB_dX11_rate_0 0 rfl
theorem dX11_rate_1 : decode cX11_rate 1 = .ok (.iload_n 3, 1) := zDec_at zB_dX11_rate_0 1 rfl
theorem dX11_rate_2 : decode cX11_rate 2 = .ok (.invokestatic 210, 3) := zDec_at zB_dX11_rate_0 2 rfl
theorem dX11_rate_5 : decode cX11_rate 5 = .ok (.ifCond .ne 25, 3) := zDec_at zB_dX11_rate_0 3 rfl
theorem dX11_rate_8 : decode cX11_rate 8 = .ok (.iload 4, 2) := zDec_at zB_dX11_rate_0 4 rfl
theorem dX11_rate_10 : decode cX11_rate 10 = .ok (.invokestatic 72, 3) := zDec_at zB_dX11_rate_0 5 rfl
theorem dX11_rate_13 : decode cX11_rate 13 = .ok (.ifCond .ne 17, 3) := zDec_at zB_dX11_rate_0 6 rfl
theorem dX11_rate_16 : decode cX11_rate 16 = .ok (.aload_n 0, 1) := zDec_at zB_dX11_rate_0 7 rfl
theorem dX11_rate_17 : decode cX11_rate 17 = .ok (.getfield 12, 3) := zDec_at zB_dX11_rate_0 8 rfl
theorem dX11_rate_20 : decode cX11_rate 20 = .ok (.getfield 43, 3) := zDec_at zB_dX11_rate_0 9 rfl
theorem dX11_rate_23 : decode cX11_rate 23 = .ok (.iload_n 1, 1) := zDec_at zB_dX11_rate_0 10 rfl
theorem dX11_rate_24 : decode cX11_rate 24 = .ok (.invokevirtual 90, 3) := zDec_at zB_dX11_rate_0 11 rfl
theorem dX11_rate_27 : decode cX11_rate 27 = .ok (.ifCond .eq 5, 3) := zDec_at zB_dX11_rate_0 12 rfl
theorem dX11_rate_30 : decode cX11_rate 30 = .ok (.iconst (-1), 1) := zDec_at zB_dX11_rate_0 13 rfl
theorem dX11_rate_31 : decode cX11_rate 31 = .ok (.ireturn, 1) := zDec_at zB_dX11_rate_0 14 rfl
theorem dX11_rate_32 : decode cX11_rate 32 = .ok (.aload_n 0, 1) := zDec_at zB_dX11_rate_0 15 rfl
theorem dX11_rate_33 : decode cX11_rate 33 = .ok (.getfield 32, 3) := zDec_at zB_dX11_rate_0 16 rfl
theorem dX11_rate_36 : decode cX11_rate 36 = .ok (.iconst (-1), 1) := zDec_at zB_dX11_rate_0 17 rfl
theorem dX11_rate_37 : decode cX11_rate 37 = .ok (.iload_n 1, 1) := zDec_at zB_dX11_rate_0 18 rfl
theorem dX11_rate_38 : decode cX11_rate 38 = .ok (.iload_n 2, 1) := zDec_at zB_dX11_rate_0 19 rfl
theorem dX11_rate_39 : decode cX11_rate 39 = .ok (.iload_n 3, 1) := zDec_at zB_dX11_rate_0 20 rfl
theorem dX11_rate_40 : decode cX11_rate 40 = .ok (.iload 4, 2) := zDec_at zB_dX11_rate_0 21 rfl
theorem dX11_rate_42 : decode cX11_rate 42 = .ok (.invokevirtual 213, 3) := zDec_at zB_dX11_rate_0 22 rfl
theorem dX11_rate_45 : decode cX11_rate 45 = .ok (.aload_n 0, 1) := zDec_at zB_dX11_rate_0 23 rfl
theorem dX11_rate_46 : decode cX11_rate 46 = .ok (.getfield 32, 3) := zDec_at zB_dX11_rate_0 24 rfl
theorem dX11_rate_49 : decode cX11_rate 49 = .ok (.iload 5, 2) := zDec_at zB_dX11_rate_0 25 rfl
theorem dX11_rate_51 : decode cX11_rate 51 = .ok (.invokevirtual 217, 3) := zDec_at zB_dX11_rate_0 26 rfl
theorem dX11_rate_54 : decode cX11_rate 54 = .ok (.ireturn, 1) := zDec_at zB_dX11_rate_0 27 rfl
theorem zB_dX11_record_0 : zDecB cX11_record [(0, .aload_n 0, 1), (1, .getfield 12, 3), (4, .getfield 263, 3), (7, .astore_n 2, 1), (8, .iload_n 1, 1), (9, .invokestatic 267, 3), (12, .ifCond .eq 9, 3), (15, .aload_n 0, 1), (16, .iconst (-1), 1), (17, .invokevirtual 55, 3), (20, .ireturn, 1), (21, .aload_n 2, 1), (22, .getfield 270, 3), (25, .bipush 6, 2), (27, .if_icmp .lt 10, 3), (30, .aload_n 0, 1), (31, .bipush (-5), 2), (33, .invokevirtual 55, 3), (36, .ireturn, 1), (37, .aload_n 2, 1), (38, .getfield 275, 3), (41, .aload_n 2, 1), (42, .getfield 270, 3), (45, .iload_n 1, 1), (46, .iastore, 1), (47, .aload_n 2, 1), (48, .dup, 1), (49, .getfield 270, 3), (52, .iconst 1, 1), (53, .iadd, 1), (54, .putfield 270, 3), (57, .aload_n 0, 1), (58, .aload_n 2, 1), (59, .getfield 270, 3), (62, .invokevirtual 55, 3), (65, .ireturn, 1)] = true := by decide +kernel
theorem dX11_record_0 : decode cX11_record 0 = .ok (.aload_n 0, 1) := zDec_at zB_dX11_record_0 0 rfl
theorem dX11_record_1 : decode cX11_record 1 = .ok (.getfield 12, 3) := zDec_at zB_dX11_record_0 1 rfl
theorem dX11_record_4 : decode cX11_record 4 = .ok (.getfield 263, 3) := zDec_at zB_dX11_record_0 2 rfl
theorem dX11_record_7 : decode cX11_record 7 = .ok (.astore_n 2, 1) := zDec_at zB_dX11_record_0 3 rfl
theorem dX11_record_8 : decode cX11_record 8 = .ok (.iload_n 1, 1) := zDec_at zB_dX11_record_0 4 rfl
theorem dX11_record_9 : decode cX11_record 9 = .ok (.invokestatic 267, 3) := zDec_at zB_dX11_record_0 5 rfl
theorem dX11_record_12 : decode cX11_record 12 = .ok (.ifCond .eq 9, 3) := zDec_at zB_dX11_record_0 6 rfl
theorem dX11_record_15 : decode cX11_record 15 = .ok (.aload_n 0, 1) := zDec_at zB_dX11_record_0 7 rfl
theorem dX11_record_16 : decode cX11_record 16 = .ok (.iconst (-1), 1) := zDec_at zB_dX11_record_0 8 rfl
theorem dX11_record_17 : decode cX11_record 17 = .ok (.invokevirtual 55, 3) := zDec_at zB_dX11_record_0 9 rfl
theorem dX11_record_20 : decode cX11_record 20 = .ok (.ireturn, 1) := zDec_at zB_dX11_record_0 10 rfl
theorem dX11_record_21 : decode cX11_record 21 = .ok (.aload_n 2, 1) := zDec_at zB_dX11_record_0 11 rfl
theorem dX11_record_22 : decode cX11_record 22 = .ok (.getfield 270, 3) := zDec_at zB_dX11_record_0 12 rfl
theorem dX11_record_25 : decode cX11_record 25 = .ok (.bipush 6, 2) := zDec_at zB_dX11_record_0 13 rfl
theorem dX11_record_27 : decode cX11_record 27 = .ok (.if_icmp .lt 10, 3) := zDec_at zB_dX11_record_0 14 rfl
theorem dX11_record_30 : decode cX11_record 30 = .ok (.aload_n 0, 1) := zDec_at zB_dX11_record_0 15 rfl
theorem dX11_record_31 : decode cX11_record 31 = .ok (.bipush (-5), 2) := zDec_at zB_dX11_record_0 16 rfl
theorem dX11_record_33 : decode cX11_record 33 = .ok (.invokevirtual 55, 3) := zDec_at zB_dX11_record_0 17 rfl
theorem dX11_record_36 : decode cX11_record 36 = .ok (.ireturn, 1) := zDec_at zB_dX11_record_0 18 rfl
theorem dX11_record_37 : decode cX11_record 37 = .ok (.aload_n 2, 1) := zDec_at zB_dX11_record_0 19 rfl
theorem dX11_record_38 : decode cX11_record 38 = .ok (.getfield 275, 3) := zDec_at zB_dX11_record_0 20 rfl
theorem dX11_record_41 : decode cX11_record 41 = .ok (.aload_n 2, 1) := zDec_at zB_dX11_record_0 21 rfl
theorem dX11_record_42 : decode cX11_record 42 = .ok (.getfield 270, 3) := zDec_at zB_dX11_record_0 22 rfl
theorem dX11_record_45 : decode cX11_record 45 = .ok (.iload_n 1, 1) := zDec_at zB_dX11_record_0 23 rfl
theorem dX11_record_46 : decode cX11_record 46 = .ok (.iastore, 1) := zDec_at zB_dX11_record_0 24 rfl
theorem dX11_record_47 : decode cX11_record 47 = .ok (.aload_n 2, 1) := zDec_at zB_dX11_record_0 25 rfl
theorem dX11_record_48 : decode cX11_record 48 = .ok (.dup, 1) := zDec_at zB_dX11_record_0 26 rfl
theorem dX11_record_49 : decode cX11_record 49 = .ok (.getfield 270, 3) := zDec_at zB_dX11_record_0 27 rfl
theorem dX11_record_52 : decode cX11_record 52 = .ok (.iconst 1, 1) := zDec_at zB_dX11_record_0 28 rfl
theorem dX11_record_53 : decode cX11_record 53 = .ok (.iadd, 1) := zDec_at zB_dX11_record_0 29 rfl
theorem dX11_record_54 : decode cX11_record 54 = .ok (.putfield 270, 3) := zDec_at zB_dX11_record_0 30 rfl
theorem dX11_record_57 : decode cX11_record 57 = .ok (.aload_n 0, 1) := zDec_at zB_dX11_record_0 31 rfl
theorem dX11_record_58 : decode cX11_record 58 = .ok (.aload_n 2, 1) := zDec_at zB_dX11_record_0 32 rfl
theorem dX11_record_59 : decode cX11_record 59 = .ok (.getfield 270, 3) := zDec_at zB_dX11_record_0 33 rfl
theorem dX11_record_62 : decode cX11_record 62 = .ok (.invokevirtual 55, 3) := zDec_at zB_dX11_record_0 34 rfl
theorem dX11_record_65 : decode cX11_record 65 = .ok (.ireturn, 1) := zDec_at zB_dX11_record_0 35 rfl
theorem zB_dX11_rolls_0 : zDecB cX11_rolls [(0, .iload_n 1, 1), (1, .invokestatic 72, 3), (4, .ifCond .ne 12, 3), (7, .iload_n 2, 1), (8, .iconst 0, 1), (9, .iconst 2, 1), (10, .invokestatic 47, 3), (13, .ifCond .eq 5, 3), (16, .iconst (-1), 1), (17, .ireturn, 1), (18, .iconst 0, 1), (19, .istore 4, 2), (21, .iconst 0, 1), (22, .istore 5, 2), (24, .iload 5, 2), (26, .aload_n 0, 1), (27, .getfield 12, 3), (30, .getfield 43, 3), (33, .getfield 59, 3), (36, .if_icmp .ge 35, 3), (39, .aload_n 0, 1), (40, .getfield 12, 3), (43, .iload 5, 2), (45, .iload_n 1, 1), (46, .iload_n 2, 1), (47, .invokevirtual 257, 3), (50, .ifCond .eq 15, 3), (53, .iload 4, 2), (55, .iload_n 3, 1), (56, .if_icmp .ne 6, 3), (59, .iload 5, 2), (61, .ireturn, 1), (62, .iinc 4 1, 3), (65, .iinc 5 1, 3), (68, .goto (-44), 3), (71, .iload_n 3, 1), (72, .iconst (-1), 1), (73, .if_icmp .ne 8, 3), (76, .iload 4, 2), (78, .goto 4, 3)] = true := by decide +kernel
theorem dX11_rolls_0 : decode cX11_rolls 0 = .ok (.iload_n 1, 1) := zDec_at zB_dX11_rolls_0 0 rfl
theorem dX11_rolls_1 : decode cX11_rolls 1 = .ok (.invokestatic 72, 3) := zDec_at zB_dX11_rolls_0 1 rfl
theorem dX11_rolls_4 : decode cX11_rolls 4 = .ok (.ifCond .ne 12, 3) := zDec_at zB_dX11_rolls_0 2 rfl
theorem dX11_rolls_7 : decode cX11_rolls 7 = .ok (.iload_n 2, 1) := zDec_at zB_dX11_rolls_0 3 rfl
theorem dX11_rolls_8 : decode cX11_rolls 8 = .ok (.iconst 0, 1) := zDec_at zB_dX11_rolls_0 4 rfl
theorem dX11_rolls_9 : decode cX11_rolls 9 = .ok (.iconst 2, 1) := zDec_at zB_dX11_rolls_0 5 rfl
theorem dX11_rolls_10 : decode cX11_rolls 10 = .ok (.invokestatic 47, 3) := zDec_at zB_dX11_rolls_0 6 rfl
theorem dX11_rolls_13 : decode cX11_rolls 13 = .ok (.ifCond .eq 5, 3) := zDec_at zB_dX11_rolls_0 7 rfl
theorem dX11_rolls_16 : decode cX11_rolls 16 = .ok (.iconst (-1), 1) := zDec_at zB_dX11_rolls_0 8 rfl
theorem dX11_rolls_17 : decode cX11_rolls 17 = .ok (.ireturn, 1) := zDec_at zB_dX11_rolls_0 9 rfl
theorem dX11_rolls_18 : decode cX11_rolls 18 = .ok (.iconst 0, 1) := zDec_at zB_dX11_rolls_0 10 rfl
theorem dX11_rolls_19 : decode cX11_rolls 19 = .ok (.istore 4, 2) := zDec_at zB_dX11_rolls_0 11 rfl
theorem dX11_rolls_21 : decode cX11_rolls 21 = .ok (.iconst 0, 1) := zDec_at zB_dX11_rolls_0 12 rfl
theorem dX11_rolls_22 : decode cX11_rolls 22 = .ok (.istore 5, 2) := zDec_at zB_dX11_rolls_0 13 rfl
theorem dX11_rolls_24 : decode cX11_rolls 24 = .ok (.iload 5, 2) := zDec_at zB_dX11_rolls_0 14 rfl
theorem dX11_rolls_26 : decode cX11_rolls 26 = .ok (.aload_n 0, 1) := zDec_at zB_dX11_rolls_0 15 rfl
theorem dX11_rolls_27 : decode cX11_rolls 27 = .ok (.getfield 12, 3) := zDec_at zB_dX11_rolls_0 16 rfl
theorem dX11_rolls_30 : decode cX11_rolls 30 = .ok (.getfield 43, 3) := zDec_at zB_dX11_rolls_0 17 rfl
theorem dX11_rolls_33 : decode cX11_rolls 33 = .ok (.getfield 59, 3) := zDec_at zB_dX11_rolls_0 18 rfl
theorem dX11_rolls_36 : decode cX11_rolls 36 = .ok (.if_icmp .ge 35, 3) := zDec_at zB_dX11_rolls_0 19 rfl
theorem dX11_rolls_39 : decode cX11_rolls 39 = .ok (.aload_n 0, 1) := zDec_at zB_dX11_rolls_0 20 rfl
theorem dX11_rolls_40 : decode cX11_rolls 40 = .ok (.getfield 12, 3) := zDec_at zB_dX11_rolls_0 21 rfl
theorem dX11_rolls_43 : decode cX11_rolls 43 = .ok (.iload 5, 2) := zDec_at zB_dX11_rolls_0 22 rfl
theorem dX11_rolls_45 : decode cX11_rolls 45 = .ok (.iload_n 1, 1) := zDec_at zB_dX11_rolls_0 23 rfl
theorem dX11_rolls_46 : decode cX11_rolls 46 = .ok (.iload_n 2, 1) := zDec_at zB_dX11_rolls_0 24 rfl
theorem dX11_rolls_47 : decode cX11_rolls 47 = .ok (.invokevirtual 257, 3) := zDec_at zB_dX11_rolls_0 25 rfl
theorem dX11_rolls_50 : decode cX11_rolls 50 = .ok (.ifCond .eq 15, 3) := zDec_at zB_dX11_rolls_0 26 rfl
theorem dX11_rolls_53 : decode cX11_rolls 53 = .ok (.iload 4, 2) := zDec_at zB_dX11_rolls_0 27 rfl
theorem dX11_rolls_55 : decode cX11_rolls 55 = .ok (.iload_n 3, 1) := zDec_at zB_dX11_rolls_0 28 rfl
theorem dX11_rolls_56 : decode cX11_rolls 56 = .ok (.if_icmp .ne 6, 3) := zDec_at zB_dX11_rolls_0 29 rfl
theorem dX11_rolls_59 : decode cX11_rolls 59 = .ok (.iload 5, 2) := zDec_at zB_dX11_rolls_0 30 rfl
theorem dX11_rolls_61 : decode cX11_rolls 61 = .ok (.ireturn, 1) := zDec_at zB_dX11_rolls_0 31 rfl
theorem dX11_rolls_62 : decode cX11_rolls 62 = .ok (.iinc 4 1, 3) := zDec_at zB_dX11_rolls_0 32 rfl
theorem dX11_rolls_65 : decode cX11_rolls 65 = .ok (.iinc 5 1, 3) := zDec_at zB_dX11_rolls_0 33 rfl
theorem dX11_rolls_68 : decode cX11_rolls 68 = .ok (.goto (-44), 3) := zDec_at zB_dX11_rolls_0 34 rfl
theorem dX11_rolls_71 : decode cX11_rolls 71 = .ok (.iload_n 3, 1) := zDec_at zB_dX11_rolls_0 35 rfl
theorem dX11_rolls_72 : decode cX11_rolls 72 = .ok (.iconst (-1), 1) := zDec_at zB_dX11_rolls_0 36 rfl
theorem dX11_rolls_73 : decode cX11_rolls 73 = .ok (.if_icmp .ne 8, 3) := zDec_at zB_dX11_rolls_0 37 rfl
theorem dX11_rolls_76 : decode cX11_rolls 76 = .ok (.iload 4, 2) := zDec_at zB_dX11_rolls_0 38 rfl
theorem dX11_rolls_78 : decode cX11_rolls 78 = .ok (.goto 4, 3) := zDec_at zB_dX11_rolls_0 39 rfl
theorem dX11_rolls_81 : decode cX11_rolls 81 = .ok (.iconst (-1), 1) := by decide +kernel
theorem dX11_rolls_82 : decode cX11_rolls 82 = .ok (.ireturn, 1) := by decide +kernel
theorem zB_dX11_round_0 : zDecB cX11_round [(0, .iload_n 1, 1), (1, .iload_n 2, 1), (2, .invokestatic 51, 3), (5, .ifCond .ne 24, 3), (8, .iload_n 3, 1), (9, .iconst 0, 1), (10, .sipush 2000, 3), (13, .invokestatic 47, 3), (16, .ifCond .ne 13, 3), (19, .iload 4, 2), (21, .iconst 0, 1), (22, .iconst 2, 1), (23, .invokestatic 47, 3), (26, .ifCond .eq 5, 3), (29, .iconst (-1), 1), (30, .ireturn, 1), (31, .aload_n 0, 1), (32, .getfield 39, 3), (35, .iload_n 1, 1), (36, .iload_n 2, 1), (37, .iload_n 3, 1), (38, .invokevirtual 327, 3), (41, .iload 4, 2), (43, .ifCond .ne 13, 3), (46, .aload_n 0, 1), (47, .getfield 39, 3), (50, .getfield 331, 3), (53, .goto 26, 3), (56, .iload 4, 2), (58, .iconst 1, 1), (59, .if_icmp .ne 13, 3), (62, .aload_n 0, 1), (63, .getfield 39, 3), (66, .getfield 334, 3), (69, .goto 10, 3), (72, .aload_n 0, 1), (73, .getfield 39, 3), (76, .getfield 337, 3), (79, .ireturn, 1)] = true := by decide +kernel
theorem dX11_round_0 : decode cX11_round 0 = .ok (.iload_n 1, 1) := zDec_at zB_dX11_round_0 0 rfl
theorem dX11_round_1 : decode cX11_round 1 = .ok (.iload_n 2, 1) := zDec_at zB_dX11_round_0 1 rfl
theorem dX11_round_2 : decode cX11_round 2 = .ok (.invokestatic 51, 3) := zDec_at zB_dX11_round_0 2 rfl
theorem dX11_round_5 : decode cX11_round 5 = .ok (.ifCond .ne 24, 3) := zDec_at zB_dX11_round_0 3 rfl
theorem dX11_round_8 : decode cX11_round 8 = .ok (.iload_n 3, 1) := zDec_at zB_dX11_round_0 4 rfl
theorem dX11_round_9 : decode cX11_round 9 = .ok (.iconst 0, 1) := zDec_at zB_dX11_round_0 5 rfl
theorem dX11_round_10 : decode cX11_round 10 = .ok (.sipush 2000, 3) := zDec_at zB_dX11_round_0 6 rfl
theorem dX11_round_13 : decode cX11_round 13 = .ok (.invokestatic 47, 3) := zDec_at zB_dX11_round_0 7 rfl
theorem dX11_round_16 : decode cX11_round 16 = .ok (.ifCond .ne 13, 3) := zDec_at zB_dX11_round_0 8 rfl
theorem dX11_round_19 : decode cX11_round 19 = .ok (.iload 4, 2) := zDec_at zB_dX11_round_0 9 rfl
theorem dX11_round_21 : decode cX11_round 21 = .ok (.iconst 0, 1) := zDec_at zB_dX11_round_0 10 rfl
theorem dX11_round_22 : decode cX11_round 22 = .ok (.iconst 2, 1) := zDec_at zB_dX11_round_0 11 rfl
theorem dX11_round_23 : decode cX11_round 23 = .ok (.invokestatic 47, 3) := zDec_at zB_dX11_round_0 12 rfl
theorem dX11_round_26 : decode cX11_round 26 = .ok (.ifCond .eq 5, 3) := zDec_at zB_dX11_round_0 13 rfl
theorem dX11_round_29 : decode cX11_round 29 = .ok (.iconst (-1), 1) := zDec_at zB_dX11_round_0 14 rfl
theorem dX11_round_30 : decode cX11_round 30 = .ok (.ireturn, 1) := zDec_at zB_dX11_round_0 15 rfl
theorem dX11_round_31 : decode cX11_round 31 = .ok (.aload_n 0, 1) := zDec_at zB_dX11_round_0 16 rfl
theorem dX11_round_32 : decode cX11_round 32 = .ok (.getfield 39, 3) := zDec_at zB_dX11_round_0 17 rfl
theorem dX11_round_35 : decode cX11_round 35 = .ok (.iload_n 1, 1) := zDec_at zB_dX11_round_0 18 rfl
theorem dX11_round_36 : decode cX11_round 36 = .ok (.iload_n 2, 1) := zDec_at zB_dX11_round_0 19 rfl
theorem dX11_round_37 : decode cX11_round 37 = .ok (.iload_n 3, 1) := zDec_at zB_dX11_round_0 20 rfl
theorem dX11_round_38 : decode cX11_round 38 = .ok (.invokevirtual 327, 3) := zDec_at zB_dX11_round_0 21 rfl
theorem dX11_round_41 : decode cX11_round 41 = .ok (.iload 4, 2) := zDec_at zB_dX11_round_0 22 rfl
theorem dX11_round_43 : decode cX11_round 43 = .ok (.ifCond .ne 13, 3) := zDec_at zB_dX11_round_0 23 rfl
theorem dX11_round_46 : decode cX11_round 46 = .ok (.aload_n 0, 1) := zDec_at zB_dX11_round_0 24 rfl
theorem dX11_round_47 : decode cX11_round 47 = .ok (.getfield 39, 3) := zDec_at zB_dX11_round_0 25 rfl
theorem dX11_round_50 : decode cX11_round 50 = .ok (.getfield 331, 3) := zDec_at zB_dX11_round_0 26 rfl
theorem dX11_round_53 : decode cX11_round 53 = .ok (.goto 26, 3) := zDec_at zB_dX11_round_0 27 rfl
theorem dX11_round_56 : decode cX11_round 56 = .ok (.iload 4, 2) := zDec_at zB_dX11_round_0 28 rfl
theorem dX11_round_58 : decode cX11_round 58 = .ok (.iconst 1, 1) := zDec_at zB_dX11_round_0 29 rfl
theorem dX11_round_59 : decode cX11_round 59 = .ok (.if_icmp .ne 13, 3) := zDec_at zB_dX11_round_0 30 rfl
theorem dX11_round_62 : decode cX11_round 62 = .ok (.aload_n 0, 1) := zDec_at zB_dX11_round_0 31 rfl
theorem dX11_round_63 : decode cX11_round 63 = .ok (.getfield 39, 3) := zDec_at zB_dX11_round_0 32 rfl
theorem dX11_round_66 : decode cX11_round 66 = .ok (.getfield 334, 3) := zDec_at zB_dX11_round_0 33 rfl
theorem dX11_round_69 : decode cX11_round 69 = .ok (.goto 10, 3) := zDec_at zB_dX11_round_0 34 rfl
theorem dX11_round_72 : decode cX11_round 72 = .ok (.aload_n 0, 1) := zDec_at zB_dX11_round_0 35 rfl
theorem dX11_round_73 : decode cX11_round 73 = .ok (.getfield 39, 3) := zDec_at zB_dX11_round_0 36 rfl
theorem dX11_round_76 : decode cX11_round 76 = .ok (.getfield 337, 3) := zDec_at zB_dX11_round_0 37 rfl
theorem dX11_round_79 : decode cX11_round 79 = .ok (.ireturn, 1) := zDec_at zB_dX11_round_0 38 rfl
theorem zB_dX11_school_0 : zDecB cX11_school [(0, .aload_n 0, 1), (1, .getfield 12, 3), (4, .getfield 43, 3), (7, .getfield 69, 3), (10, .iconst 5, 1), (11, .if_icmp .lt 10, 3), (14, .aload_n 0, 1), (15, .bipush (-5), 2), (17, .invokevirtual 55, 3), (20, .ireturn, 1), (21, .aload_n 0, 1), (22, .getfield 12, 3), (25, .getfield 43, 3), (28, .dup, 1), (29, .getfield 69, 3), (32, .iconst 1, 1), (33, .iadd, 1), (34, .putfield 69, 3), (37, .aload_n 0, 1), (38, .aload_n 0, 1), (39, .getfield 12, 3), (42, .getfield 43, 3), (45, .getfield 69, 3), (48, .iconst 1, 1), (49, .isub, 1), (50, .invokevirtual 55, 3), (53, .ireturn, 1)] = true := by decide +kernel
theorem dX11_school_0 : decode cX11_school 0 = .ok (.aload_n 0, 1) := zDec_at zB_dX11_school_0 0 rfl
theorem dX11_school_1 : decode cX11_school 1 = .ok (.getfield 12, 3) := zDec_at zB_dX11_school_0 1 rfl
theorem dX11_school_4 : decode cX11_school 4 = .ok (.getfield 43, 3) := zDec_at zB_dX11_school_0 2 rfl
theorem dX11_school_7 : decode cX11_school 7 = .ok (.getfield 69, 3) := zDec_at zB_dX11_school_0 3 rfl
theorem dX11_school_10 : decode cX11_school 10 = .ok (.iconst 5, 1) := zDec_at zB_dX11_school_0 4 rfl
theorem dX11_school_11 : decode cX11_school 11 = .ok (.if_icmp .lt 10, 3) := zDec_at zB_dX11_school_0 5 rfl
theorem dX11_school_14 : decode cX11_school 14 = .ok (.aload_n 0, 1) := zDec_at zB_dX11_school_0 6 rfl
theorem dX11_school_15 : decode cX11_school 15 = .ok (.bipush (-5), 2) := zDec_at zB_dX11_school_0 7 rfl
theorem dX11_school_17 : decode cX11_school 17 = .ok (.invokevirtual 55, 3) := zDec_at zB_dX11_school_0 8 rfl
theorem dX11_school_20 : decode cX11_school 20 = .ok (.ireturn, 1) := zDec_at zB_dX11_school_0 9 rfl
theorem dX11_school_21 : decode cX11_school 21 = .ok (.aload_n 0, 1) := zDec_at zB_dX11_school_0 10 rfl
theorem dX11_school_22 : decode cX11_school 22 = .ok (.getfield 12, 3) := zDec_at zB_dX11_school_0 11 rfl
theorem dX11_school_25 : decode cX11_school 25 = .ok (.getfield 43, 3) := zDec_at zB_dX11_school_0 12 rfl
theorem dX11_school_28 : decode cX11_school 28 = .ok (.dup, 1) := zDec_at zB_dX11_school_0 13 rfl
theorem dX11_school_29 : decode cX11_school 29 = .ok (.getfield 69, 3) := zDec_at zB_dX11_school_0 14 rfl
theorem dX11_school_32 : decode cX11_school 32 = .ok (.iconst 1, 1) := zDec_at zB_dX11_school_0 15 rfl
theorem dX11_school_33 : decode cX11_school 33 = .ok (.iadd, 1) := zDec_at zB_dX11_school_0 16 rfl
theorem dX11_school_34 : decode cX11_school 34 = .ok (.putfield 69, 3) := zDec_at zB_dX11_school_0 17 rfl
theorem dX11_school_37 : decode cX11_school 37 = .ok (.aload_n 0, 1) := zDec_at zB_dX11_school_0 18 rfl
theorem dX11_school_38 : decode cX11_school 38 = .ok (.aload_n 0, 1) := zDec_at zB_dX11_school_0 19 rfl
theorem dX11_school_39 : decode cX11_school 39 = .ok (.getfield 12, 3) := zDec_at zB_dX11_school_0 20 rfl
theorem dX11_school_42 : decode cX11_school 42 = .ok (.getfield 43, 3) := zDec_at zB_dX11_school_0 21 rfl
theorem dX11_school_45 : decode cX11_school 45 = .ok (.getfield 69, 3) := zDec_at zB_dX11_school_0 22 rfl
theorem dX11_school_48 : decode cX11_school 48 = .ok (.iconst 1, 1) := zDec_at zB_dX11_school_0 23 rfl
theorem dX11_school_49 : decode cX11_school 49 = .ok (.isub, 1) := zDec_at zB_dX11_school_0 24 rfl
theorem dX11_school_50 : decode cX11_school 50 = .ok (.invokevirtual 55, 3) := zDec_at zB_dX11_school_0 25 rfl
theorem dX11_school_53 : decode cX11_school 53 = .ok (.ireturn, 1) := zDec_at zB_dX11_school_0 26 rfl
theorem zB_dX11_seal_0 : zDecB cX11_seal [(0, .iload_n 1, 1), (1, .invokestatic 72, 3), (4, .ifCond .eq 9, 3), (7, .aload_n 0, 1), (8, .iconst (-1), 1), (9, .invokevirtual 55, 3), (12, .ireturn, 1), (13, .aload_n 0, 1), (14, .aload_n 0, 1), (15, .getfield 12, 3), (18, .getfield 137, 3), (21, .iload_n 1, 1), (22, .invokevirtual 371, 3), (25, .invokevirtual 55, 3), (28, .ireturn, 1)] = true := by decide +kernel
theorem dX11_seal_0 : decode cX11_seal 0 = .ok (.iload_n 1, 1) := zDec_at zB_dX11_seal_0 0 rfl
theorem dX11_seal_1 : decode cX11_seal 1 = .ok (.invokestatic 72, 3) := zDec_at zB_dX11_seal_0 1 rfl
theorem dX11_seal_4 : decode cX11_seal 4 = .ok (.ifCond .eq 9, 3) := zDec_at zB_dX11_seal_0 2 rfl
theorem dX11_seal_7 : decode cX11_seal 7 = .ok (.aload_n 0, 1) := zDec_at zB_dX11_seal_0 3 rfl
theorem dX11_seal_8 : decode cX11_seal 8 = .ok (.iconst (-1), 1) := zDec_at zB_dX11_seal_0 4 rfl
theorem dX11_seal_9 : decode cX11_seal 9 = .ok (.invokevirtual 55, 3) := zDec_at zB_dX11_seal_0 5 rfl
theorem dX11_seal_12 : decode cX11_seal 12 = .ok (.ireturn, 1) := zDec_at zB_dX11_seal_0 6 rfl
theorem dX11_seal_13 : decode cX11_seal 13 = .ok (.aload_n 0, 1) := zDec_at zB_dX11_seal_0 7 rfl
theorem dX11_seal_14 : decode cX11_seal 14 = .ok (.aload_n 0, 1) := zDec_at zB_dX11_seal_0 8 rfl
theorem dX11_seal_15 : decode cX11_seal 15 = .ok (.getfield 12, 3) := zDec_at zB_dX11_seal_0 9 rfl
theorem dX11_seal_18 : decode cX11_seal 18 = .ok (.getfield 137, 3) := zDec_at zB_dX11_seal_0 10 rfl
theorem dX11_seal_21 : decode cX11_seal 21 = .ok (.iload_n 1, 1) := zDec_at zB_dX11_seal_0 11 rfl
theorem dX11_seal_22 : decode cX11_seal 22 = .ok (.invokevirtual 371, 3) := zDec_at zB_dX11_seal_0 12 rfl
theorem dX11_seal_25 : decode cX11_seal 25 = .ok (.invokevirtual 55, 3) := zDec_at zB_dX11_seal_0 13 rfl
theorem dX11_seal_28 : decode cX11_seal 28 = .ok (.ireturn, 1) := zDec_at zB_dX11_seal_0 14 rfl
theorem zB_dX11_seen_0 : zDecB cX11_seen [(0, .iload_n 2, 1), (1, .invokestatic 72, 3), (4, .ifCond .ne 24, 3), (7, .iload_n 3, 1), (8, .invokestatic 72, 3), (11, .ifCond .ne 17, 3), (14, .aload_n 0, 1), (15, .getfield 12, 3), (18, .getfield 43, 3), (21, .iload_n 1, 1), (22, .invokevirtual 90, 3), (25, .ifCond .eq 5, 3), (28, .iconst (-1), 1), (29, .ireturn, 1), (30, .aload_n 0, 1), (31, .getfield 32, 3), (34, .iload_n 1, 1), (35, .iload_n 2, 1), (36, .iload_n 3, 1), (37, .invokevirtual 260, 3), (40, .ireturn, 1)] = true := by decide +kernel
theorem dX11_seen_0 : decode cX11_seen 0 = .ok (.iload_n 2, 1) := zDec_at zB_dX11_seen_0 0 rfl
theorem dX11_seen_1 : decode cX11_seen 1 = .ok (.invokestatic 72, 3) := zDec_at zB_dX11_seen_0 1 rfl
theorem dX11_seen_4 : decode cX11_seen 4 = .ok (.ifCond .ne 24, 3) := zDec_at zB_dX11_seen_0 2 rfl
theorem dX11_seen_7 : decode cX11_seen 7 = .ok (.iload_n 3, 1) := zDec_at zB_dX11_seen_0 3 rfl
theorem dX11_seen_8 : decode cX11_seen 8 = .ok (.invokestatic 72, 3) := zDec_at zB_dX11_seen_0 4 rfl
theorem dX11_seen_11 : decode cX11_seen 11 = .ok (.ifCond .ne 17, 3) := zDec_at zB_dX11_seen_0 5 rfl
theorem dX11_seen_14 : decode cX11_seen 14 = .ok (.aload_n 0, 1) := zDec_at zB_dX11_seen_0 6 rfl
theorem dX11_seen_15 : decode cX11_seen 15 = .ok (.getfield 12, 3) := zDec_at zB_dX11_seen_0 7 rfl
theorem dX11_seen_18 : decode cX11_seen 18 = .ok (.getfield 43, 3) := zDec_at zB_dX11_seen_0 8 rfl
theorem dX11_seen_21 : decode cX11_seen 21 = .ok (.iload_n 1, 1) := zDec_at zB_dX11_seen_0 9 rfl
theorem dX11_seen_22 : decode cX11_seen 22 = .ok (.invokevirtual 90, 3) := zDec_at zB_dX11_seen_0 10 rfl
theorem dX11_seen_25 : decode cX11_seen 25 = .ok (.ifCond .eq 5, 3) := zDec_at zB_dX11_seen_0 11 rfl
theorem dX11_seen_28 : decode cX11_seen 28 = .ok (.iconst (-1), 1) := zDec_at zB_dX11_seen_0 12 rfl
theorem dX11_seen_29 : decode cX11_seen 29 = .ok (.ireturn, 1) := zDec_at zB_dX11_seen_0 13 rfl
theorem dX11_seen_30 : decode cX11_seen 30 = .ok (.aload_n 0, 1) := zDec_at zB_dX11_seen_0 14 rfl
theorem dX11_seen_31 : decode cX11_seen 31 = .ok (.getfield 32, 3) := zDec_at zB_dX11_seen_0 15 rfl
theorem dX11_seen_34 : decode cX11_seen 34 = .ok (.iload_n 1, 1) := zDec_at zB_dX11_seen_0 16 rfl
theorem dX11_seen_35 : decode cX11_seen 35 = .ok (.iload_n 2, 1) := zDec_at zB_dX11_seen_0 17 rfl
theorem dX11_seen_36 : decode cX11_seen 36 = .ok (.iload_n 3, 1) := zDec_at zB_dX11_seen_0 18 rfl
theorem dX11_seen_37 : decode cX11_seen 37 = .ok (.invokevirtual 260, 3) := zDec_at zB_dX11_seen_0 19 rfl
theorem dX11_seen_40 : decode cX11_seen 40 = .ok (.ireturn, 1) := zDec_at zB_dX11_seen_0 20 rfl
theorem zB_dX11_sees_0 : zDecB cX11_sees [(0, .iload_n 1, 1), (1, .iconst 0, 1), (2, .iconst 3, 1), (3, .invokestatic 47, 3), (6, .ifCond .eq 5, 3), (9, .iconst (-1), 1), (10, .ireturn, 1), (11, .aload_n 0, 1), (12, .iload_n 2, 1), (13, .iload_n 3, 1), (14, .iload 4, 2), (16, .iload 5, 2), (18, .invokevirtual 158, 3), (21, .istore 6, 2), (23, .iload 6, 2), (25, .iconst (-1), 1), (26, .if_icmp .ne 5, 3), (29, .iconst (-1), 1), (30, .ireturn, 1), (31, .aload_n 0, 1), (32, .getfield 12, 3), (35, .getfield 137, 3), (38, .iload 6, 2), (40, .iload 5, 2), (42, .invokevirtual 161, 3), (45, .istore 7, 2), (47, .aload_n 0, 1), (48, .getfield 32, 3), (51, .iload 6, 2), (53, .invokevirtual 174, 3), (56, .aload_n 0, 1), (57, .getfield 32, 3), (60, .sipush 384, 3), (63, .iload 7, 2), (65, .iconst 4, 1), (66, .imul, 1), (67, .iadd, 1), (68, .iload_n 1, 1), (69, .iadd, 1), (70, .invokevirtual 178, 3)] = true := by decide +kernel
theorem dX11_sees_0 : decode cX11_sees 0 = .ok (.iload_n 1, 1) := zDec_at zB_dX11_sees_0 0 rfl
theorem dX11_sees_1 : decode cX11_sees 1 = .ok (.iconst 0, 1) := zDec_at zB_dX11_sees_0 1 rfl
theorem dX11_sees_2 : decode cX11_sees 2 = .ok (.iconst 3, 1) := zDec_at zB_dX11_sees_0 2 rfl
theorem dX11_sees_3 : decode cX11_sees 3 = .ok (.invokestatic 47, 3) := zDec_at zB_dX11_sees_0 3 rfl
theorem dX11_sees_6 : decode cX11_sees 6 = .ok (.ifCond .eq 5, 3) := zDec_at zB_dX11_sees_0 4 rfl
theorem dX11_sees_9 : decode cX11_sees 9 = .ok (.iconst (-1), 1) := zDec_at zB_dX11_sees_0 5 rfl
theorem dX11_sees_10 : decode cX11_sees 10 = .ok (.ireturn, 1) := zDec_at zB_dX11_sees_0 6 rfl
theorem dX11_sees_11 : decode cX11_sees 11 = .ok (.aload_n 0, 1) := zDec_at zB_dX11_sees_0 7 rfl
theorem dX11_sees_12 : decode cX11_sees 12 = .ok (.iload_n 2, 1) := zDec_at zB_dX11_sees_0 8 rfl
theorem dX11_sees_13 : decode cX11_sees 13 = .ok (.iload_n 3, 1) := zDec_at zB_dX11_sees_0 9 rfl
theorem dX11_sees_14 : decode cX11_sees 14 = .ok (.iload 4, 2) := zDec_at zB_dX11_sees_0 10 rfl
theorem dX11_sees_16 : decode cX11_sees 16 = .ok (.iload 5, 2) := zDec_at zB_dX11_sees_0 11 rfl
theorem dX11_sees_18 : decode cX11_sees 18 = .ok (.invokevirtual 158, 3) := zDec_at zB_dX11_sees_0 12 rfl
theorem dX11_sees_21 : decode cX11_sees 21 = .ok (.istore 6, 2) := zDec_at zB_dX11_sees_0 13 rfl
theorem dX11_sees_23 : decode cX11_sees 23 = .ok (.iload 6, 2) := zDec_at zB_dX11_sees_0 14 rfl
theorem dX11_sees_25 : decode cX11_sees 25 = .ok (.iconst (-1), 1) := zDec_at zB_dX11_sees_0 15 rfl
theorem dX11_sees_26 : decode cX11_sees 26 = .ok (.if_icmp .ne 5, 3) := zDec_at zB_dX11_sees_0 16 rfl
theorem dX11_sees_29 : decode cX11_sees 29 = .ok (.iconst (-1), 1) := zDec_at zB_dX11_sees_0 17 rfl
theorem dX11_sees_30 : decode cX11_sees 30 = .ok (.ireturn, 1) := zDec_at zB_dX11_sees_0 18 rfl
theorem dX11_sees_31 : decode cX11_sees 31 = .ok (.aload_n 0, 1) := zDec_at zB_dX11_sees_0 19 rfl
theorem dX11_sees_32 : decode cX11_sees 32 = .ok (.getfield 12, 3) := zDec_at zB_dX11_sees_0 20 rfl
theorem dX11_sees_35 : decode cX11_sees 35 = .ok (.getfield 137, 3) := zDec_at zB_dX11_sees_0 21 rfl
theorem dX11_sees_38 : decode cX11_sees 38 = .ok (.iload 6, 2) := zDec_at zB_dX11_sees_0 22 rfl
theorem dX11_sees_40 : decode cX11_sees 40 = .ok (.iload 5, 2) := zDec_at zB_dX11_sees_0 23 rfl
theorem dX11_sees_42 : decode cX11_sees 42 = .ok (.invokevirtual 161, 3) := zDec_at zB_dX11_sees_0 24 rfl
theorem dX11_sees_45 : decode cX11_sees 45 = .ok (.istore 7, 2) := zDec_at zB_dX11_sees_0 25 rfl
theorem dX11_sees_47 : decode cX11_sees 47 = .ok (.aload_n 0, 1) := zDec_at zB_dX11_sees_0 26 rfl
theorem dX11_sees_48 : decode cX11_sees 48 = .ok (.getfield 32, 3) := zDec_at zB_dX11_sees_0 27 rfl
theorem dX11_sees_51 : decode cX11_sees 51 = .ok (.iload 6, 2) := zDec_at zB_dX11_sees_0 28 rfl
theorem dX11_sees_53 : decode cX11_sees 53 = .ok (.invokevirtual 174, 3) := zDec_at zB_dX11_sees_0 29 rfl
theorem dX11_sees_56 : decode cX11_sees 56 = .ok (.aload_n 0, 1) := zDec_at zB_dX11_sees_0 30 rfl
theorem dX11_sees_57 : decode cX11_sees 57 = .ok (.getfield 32, 3) := zDec_at zB_dX11_sees_0 31 rfl
theorem dX11_sees_60 : decode cX11_sees 60 = .ok (.sipush 384, 3) := zDec_at zB_dX11_sees_0 32 rfl
theorem dX11_sees_63 : decode cX11_sees 63 = .ok (.iload 7, 2) := zDec_at zB_dX11_sees_0 33 rfl
theorem dX11_sees_65 : decode cX11_sees 65 = .ok (.iconst 4, 1) := zDec_at zB_dX11_sees_0 34 rfl
theorem dX11_sees_66 : decode cX11_sees 66 = .ok (.imul, 1) := zDec_at zB_dX11_sees_0 35 rfl
theorem dX11_sees_67 : decode cX11_sees 67 = .ok (.iadd, 1) := zDec_at zB_dX11_sees_0 36 rfl
theorem dX11_sees_68 : decode cX11_sees 68 = .ok (.iload_n 1, 1) := zDec_at zB_dX11_sees_0 37 rfl
theorem dX11_sees_69 : decode cX11_sees 69 = .ok (.iadd, 1) := zDec_at zB_dX11_sees_0 38 rfl
theorem dX11_sees_70 : decode cX11_sees 70 = .ok (.invokevirtual 178, 3) := zDec_at zB_dX11_sees_0 39 rfl
theorem zB_dX11_sees_73 : zDecB cX11_sees [(73, .ifCond .eq 8, 3), (76, .bipush (-3), 2), (78, .goto 5, 3), (81, .iload 7, 2), (83, .ireturn, 1)] = true := by decide +kernel
theorem dX11_sees_73 : decode cX11_sees 73 = .ok (.ifCond .eq 8, 3) := zDec_at zB_dX11_sees_73 0 rfl
theorem dX11_sees_76 : decode cX11_sees 76 = .ok (.bipush (-3), 2) := zDec_at zB_dX11_sees_73 1 rfl
theorem dX11_sees_78 : decode cX11_sees 78 = .ok (.goto 5, 3) := zDec_at zB_dX11_sees_73 2 rfl
theorem dX11_sees_81 : decode cX11_sees 81 = .ok (.iload 7, 2) := zDec_at zB_dX11_sees_73 3 rfl
theorem dX11_sees_83 : decode cX11_sees 83 = .ok (.ireturn, 1) := zDec_at zB_dX11_sees_73 4 rfl
theorem zB_dX11_shut_0 : zDecB cX11_shut [(0, .aload_n 0, 1), (1, .getfield 12, 3), (4, .getfield 43, 3), (7, .astore_n 3, 1), (8, .iload_n 2, 1), (9, .invokestatic 72, 3), (12, .ifCond .eq 9, 3), (15, .aload_n 0, 1), (16, .iconst (-1), 1), (17, .invokevirtual 55, 3), (20, .ireturn, 1), (21, .aload_n 3, 1), (22, .iload_n 1, 1), (23, .invokevirtual 76, 3), (26, .ifCond .eq 10, 3), (29, .aload_n 0, 1), (30, .bipush (-2), 2), (32, .invokevirtual 55, 3), (35, .ireturn, 1), (36, .aload_n 3, 1), (37, .iload_n 1, 1), (38, .iload_n 2, 1), (39, .invokevirtual 79, 3), (42, .ifCond .eq 10, 3), (45, .aload_n 0, 1), (46, .bipush (-4), 2), (48, .invokevirtual 55, 3), (51, .ireturn, 1), (52, .aload_n 3, 1), (53, .getfield 82, 3), (56, .iload_n 2, 1), (57, .dup2, 1), (58, .iaload, 1), (59, .iconst 1, 1), (60, .iload_n 1, 1), (61, .ishl, 1), (62, .ior, 1), (63, .iastore, 1), (64, .aload_n 0, 1), (65, .iconst 0, 1)] = true := by decide +kernel
theorem dX11_shut_0 : decode cX11_shut 0 = .ok (.aload_n 0, 1) := zDec_at zB_dX11_shut_0 0 rfl
theorem dX11_shut_1 : decode cX11_shut 1 = .ok (.getfield 12, 3) := zDec_at zB_dX11_shut_0 1 rfl
theorem dX11_shut_4 : decode cX11_shut 4 = .ok (.getfield 43, 3) := zDec_at zB_dX11_shut_0 2 rfl
theorem dX11_shut_7 : decode cX11_shut 7 = .ok (.astore_n 3, 1) := zDec_at zB_dX11_shut_0 3 rfl
theorem dX11_shut_8 : decode cX11_shut 8 = .ok (.iload_n 2, 1) := zDec_at zB_dX11_shut_0 4 rfl
theorem dX11_shut_9 : decode cX11_shut 9 = .ok (.invokestatic 72, 3) := zDec_at zB_dX11_shut_0 5 rfl
theorem dX11_shut_12 : decode cX11_shut 12 = .ok (.ifCond .eq 9, 3) := zDec_at zB_dX11_shut_0 6 rfl
theorem dX11_shut_15 : decode cX11_shut 15 = .ok (.aload_n 0, 1) := zDec_at zB_dX11_shut_0 7 rfl
theorem dX11_shut_16 : decode cX11_shut 16 = .ok (.iconst (-1), 1) := zDec_at zB_dX11_shut_0 8 rfl
theorem dX11_shut_17 : decode cX11_shut 17 = .ok (.invokevirtual 55, 3) := zDec_at zB_dX11_shut_0 9 rfl
theorem dX11_shut_20 : decode cX11_shut 20 = .ok (.ireturn, 1) := zDec_at zB_dX11_shut_0 10 rfl
theorem dX11_shut_21 : decode cX11_shut 21 = .ok (.aload_n 3, 1) := zDec_at zB_dX11_shut_0 11 rfl
theorem dX11_shut_22 : decode cX11_shut 22 = .ok (.iload_n 1, 1) := zDec_at zB_dX11_shut_0 12 rfl
theorem dX11_shut_23 : decode cX11_shut 23 = .ok (.invokevirtual 76, 3) := zDec_at zB_dX11_shut_0 13 rfl
theorem dX11_shut_26 : decode cX11_shut 26 = .ok (.ifCond .eq 10, 3) := zDec_at zB_dX11_shut_0 14 rfl
theorem dX11_shut_29 : decode cX11_shut 29 = .ok (.aload_n 0, 1) := zDec_at zB_dX11_shut_0 15 rfl
theorem dX11_shut_30 : decode cX11_shut 30 = .ok (.bipush (-2), 2) := zDec_at zB_dX11_shut_0 16 rfl
theorem dX11_shut_32 : decode cX11_shut 32 = .ok (.invokevirtual 55, 3) := zDec_at zB_dX11_shut_0 17 rfl
theorem dX11_shut_35 : decode cX11_shut 35 = .ok (.ireturn, 1) := zDec_at zB_dX11_shut_0 18 rfl
theorem dX11_shut_36 : decode cX11_shut 36 = .ok (.aload_n 3, 1) := zDec_at zB_dX11_shut_0 19 rfl
theorem dX11_shut_37 : decode cX11_shut 37 = .ok (.iload_n 1, 1) := zDec_at zB_dX11_shut_0 20 rfl
theorem dX11_shut_38 : decode cX11_shut 38 = .ok (.iload_n 2, 1) := zDec_at zB_dX11_shut_0 21 rfl
theorem dX11_shut_39 : decode cX11_shut 39 = .ok (.invokevirtual 79, 3) := zDec_at zB_dX11_shut_0 22 rfl
theorem dX11_shut_42 : decode cX11_shut 42 = .ok (.ifCond .eq 10, 3) := zDec_at zB_dX11_shut_0 23 rfl
theorem dX11_shut_45 : decode cX11_shut 45 = .ok (.aload_n 0, 1) := zDec_at zB_dX11_shut_0 24 rfl
theorem dX11_shut_46 : decode cX11_shut 46 = .ok (.bipush (-4), 2) := zDec_at zB_dX11_shut_0 25 rfl
theorem dX11_shut_48 : decode cX11_shut 48 = .ok (.invokevirtual 55, 3) := zDec_at zB_dX11_shut_0 26 rfl
theorem dX11_shut_51 : decode cX11_shut 51 = .ok (.ireturn, 1) := zDec_at zB_dX11_shut_0 27 rfl
theorem dX11_shut_52 : decode cX11_shut 52 = .ok (.aload_n 3, 1) := zDec_at zB_dX11_shut_0 28 rfl
theorem dX11_shut_53 : decode cX11_shut 53 = .ok (.getfield 82, 3) := zDec_at zB_dX11_shut_0 29 rfl
theorem dX11_shut_56 : decode cX11_shut 56 = .ok (.iload_n 2, 1) := zDec_at zB_dX11_shut_0 30 rfl
theorem dX11_shut_57 : decode cX11_shut 57 = .ok (.dup2, 1) := zDec_at zB_dX11_shut_0 31 rfl
theorem dX11_shut_58 : decode cX11_shut 58 = .ok (.iaload, 1) := zDec_at zB_dX11_shut_0 32 rfl
theorem dX11_shut_59 : decode cX11_shut 59 = .ok (.iconst 1, 1) := zDec_at zB_dX11_shut_0 33 rfl
theorem dX11_shut_60 : decode cX11_shut 60 = .ok (.iload_n 1, 1) := zDec_at zB_dX11_shut_0 34 rfl
theorem dX11_shut_61 : decode cX11_shut 61 = .ok (.ishl, 1) := zDec_at zB_dX11_shut_0 35 rfl
theorem dX11_shut_62 : decode cX11_shut 62 = .ok (.ior, 1) := zDec_at zB_dX11_shut_0 36 rfl
theorem dX11_shut_63 : decode cX11_shut 63 = .ok (.iastore, 1) := zDec_at zB_dX11_shut_0 37 rfl
theorem dX11_shut_64 : decode cX11_shut 64 = .ok (.aload_n 0, 1) := zDec_at zB_dX11_shut_0 38 rfl
theorem dX11_shut_65 : decode cX11_shut 65 = .ok (.iconst 0, 1) := zDec_at zB_dX11_shut_0 39 rfl
theorem dX11_shut_66 : decode cX11_shut 66 = .ok (.invokevirtual 55, 3) := by decide +kernel
theorem dX11_shut_69 : decode cX11_shut 69 = .ok (.ireturn, 1) := by decide +kernel
theorem zB_dX11_stands_0 : zDecB cX11_stands [(0, .iload_n 2, 1), (1, .invokestatic 220, 3), (4, .ifCond .ne 24, 3), (7, .iload_n 3, 1), (8, .invokestatic 72, 3), (11, .ifCond .ne 17, 3), (14, .aload_n 0, 1), (15, .getfield 12, 3), (18, .getfield 43, 3), (21, .iload_n 1, 1), (22, .invokevirtual 90, 3), (25, .ifCond .eq 5, 3), (28, .iconst (-1), 1), (29, .ireturn, 1), (30, .aload_n 0, 1), (31, .getfield 32, 3), (34, .iload_n 1, 1), (35, .iload_n 3, 1), (36, .invokevirtual 223, 3), (39, .aload_n 0, 1), (40, .getfield 32, 3), (43, .iload_n 1, 1), (44, .iload_n 2, 1), (45, .iload_n 3, 1), (46, .invokevirtual 239, 3), (49, .ifCond .eq 7, 3), (52, .iconst 1, 1), (53, .goto 4, 3), (56, .iconst 0, 1), (57, .ireturn, 1)] = true := by decide +kernel
theorem dX11_stands_0 : decode cX11_stands 0 = .ok (.iload_n 2, 1) := zDec_at zB_dX11_stands_0 0 rfl
theorem dX11_stands_1 : decode cX11_stands 1 = .ok (.invokestatic 220, 3) := zDec_at zB_dX11_stands_0 1 rfl
theorem dX11_stands_4 : decode cX11_stands 4 = .ok (.ifCond .ne 24, 3) := zDec_at zB_dX11_stands_0 2 rfl
theorem dX11_stands_7 : decode cX11_stands 7 = .ok (.iload_n 3, 1) := zDec_at zB_dX11_stands_0 3 rfl
theorem dX11_stands_8 : decode cX11_stands 8 = .ok (.invokestatic 72, 3) := zDec_at zB_dX11_stands_0 4 rfl
theorem dX11_stands_11 : decode cX11_stands 11 = .ok (.ifCond .ne 17, 3) := zDec_at zB_dX11_stands_0 5 rfl
theorem dX11_stands_14 : decode cX11_stands 14 = .ok (.aload_n 0, 1) := zDec_at zB_dX11_stands_0 6 rfl
theorem dX11_stands_15 : decode cX11_stands 15 = .ok (.getfield 12, 3) := zDec_at zB_dX11_stands_0 7 rfl
theorem dX11_stands_18 : decode cX11_stands 18 = .ok (.getfield 43, 3) := zDec_at zB_dX11_stands_0 8 rfl
theorem dX11_stands_21 : decode cX11_stands 21 = .ok (.iload_n 1, 1) := zDec_at zB_dX11_stands_0 9 rfl
theorem dX11_stands_22 : decode cX11_stands 22 = .ok (.invokevirtual 90, 3) := zDec_at zB_dX11_stands_0 10 rfl
theorem dX11_stands_25 : decode cX11_stands 25 = .ok (.ifCond .eq 5, 3) := zDec_at zB_dX11_stands_0 11 rfl
theorem dX11_stands_28 : decode cX11_stands 28 = .ok (.iconst (-1), 1) := zDec_at zB_dX11_stands_0 12 rfl
theorem dX11_stands_29 : decode cX11_stands 29 = .ok (.ireturn, 1) := zDec_at zB_dX11_stands_0 13 rfl
theorem dX11_stands_30 : decode cX11_stands 30 = .ok (.aload_n 0, 1) := zDec_at zB_dX11_stands_0 14 rfl
theorem dX11_stands_31 : decode cX11_stands 31 = .ok (.getfield 32, 3) := zDec_at zB_dX11_stands_0 15 rfl
theorem dX11_stands_34 : decode cX11_stands 34 = .ok (.iload_n 1, 1) := zDec_at zB_dX11_stands_0 16 rfl
theorem dX11_stands_35 : decode cX11_stands 35 = .ok (.iload_n 3, 1) := zDec_at zB_dX11_stands_0 17 rfl
theorem dX11_stands_36 : decode cX11_stands 36 = .ok (.invokevirtual 223, 3) := zDec_at zB_dX11_stands_0 18 rfl
theorem dX11_stands_39 : decode cX11_stands 39 = .ok (.aload_n 0, 1) := zDec_at zB_dX11_stands_0 19 rfl
theorem dX11_stands_40 : decode cX11_stands 40 = .ok (.getfield 32, 3) := zDec_at zB_dX11_stands_0 20 rfl
theorem dX11_stands_43 : decode cX11_stands 43 = .ok (.iload_n 1, 1) := zDec_at zB_dX11_stands_0 21 rfl
theorem dX11_stands_44 : decode cX11_stands 44 = .ok (.iload_n 2, 1) := zDec_at zB_dX11_stands_0 22 rfl
theorem dX11_stands_45 : decode cX11_stands 45 = .ok (.iload_n 3, 1) := zDec_at zB_dX11_stands_0 23 rfl
theorem dX11_stands_46 : decode cX11_stands 46 = .ok (.invokevirtual 239, 3) := zDec_at zB_dX11_stands_0 24 rfl
theorem dX11_stands_49 : decode cX11_stands 49 = .ok (.ifCond .eq 7, 3) := zDec_at zB_dX11_stands_0 25 rfl
theorem dX11_stands_52 : decode cX11_stands 52 = .ok (.iconst 1, 1) := zDec_at zB_dX11_stands_0 26 rfl
theorem dX11_stands_53 : decode cX11_stands 53 = .ok (.goto 4, 3) := zDec_at zB_dX11_stands_0 27 rfl
theorem dX11_stands_56 : decode cX11_stands 56 = .ok (.iconst 0, 1) := zDec_at zB_dX11_stands_0 28 rfl
theorem dX11_stands_57 : decode cX11_stands 57 = .ok (.ireturn, 1) := zDec_at zB_dX11_stands_0 29 rfl
theorem zB_dX11_status_0 : zDecB cX11_status [(0, .aload_n 0, 1), (1, .getfield 383, 3), (4, .ireturn, 1)] = true := by decide +kernel
theorem dX11_status_0 : decode cX11_status 0 = .ok (.aload_n 0, 1) := zDec_at zB_dX11_status_0 0 rfl
theorem dX11_status_1 : decode cX11_status 1 = .ok (.getfield 383, 3) := zDec_at zB_dX11_status_0 1 rfl
theorem dX11_status_4 : decode cX11_status 4 = .ok (.ireturn, 1) := zDec_at zB_dX11_status_0 2 rfl
theorem zB_dX11_take_0 : zDecB cX11_take [(0, .aload_n 0, 1), (1, .getfield 12, 3), (4, .getfield 230, 3), (7, .astore 4, 2), (9, .iload_n 2, 1), (10, .invokestatic 220, 3), (13, .ifCond .ne 10, 3), (16, .iload_n 3, 1), (17, .invokestatic 72, 3), (20, .ifCond .eq 9, 3), (23, .aload_n 0, 1), (24, .iconst (-1), 1), (25, .invokevirtual 55, 3), (28, .ireturn, 1), (29, .aload_n 0, 1), (30, .getfield 12, 3), (33, .getfield 43, 3), (36, .iload_n 1, 1), (37, .invokevirtual 90, 3), (40, .ifCond .eq 10, 3), (43, .aload_n 0, 1), (44, .bipush (-2), 2), (46, .invokevirtual 55, 3), (49, .ireturn, 1), (50, .iload_n 1, 1), (51, .iconst 4, 1), (52, .imul, 1), (53, .iload_n 2, 1), (54, .iadd, 1), (55, .istore 5, 2), (57, .iload_n 2, 1), (58, .ifCond .ne 7, 3), (61, .iconst (-1), 1), (62, .goto 13, 3), (65, .aload 4, 2), (67, .getfield 234, 3), (70, .iload 5, 2), (72, .iconst 1, 1), (73, .isub, 1), (74, .iaload, 1)] = true := by decide +kernel
theorem dX11_take_0 : decode cX11_take 0 = .ok (.aload_n 0, 1) := zDec_at zB_dX11_take_0 0 rfl
theorem dX11_take_1 : decode cX11_take 1 = .ok (.getfield 12, 3) := zDec_at zB_dX11_take_0 1 rfl
theorem dX11_take_4 : decode cX11_take 4 = .ok (.getfield 230, 3) := zDec_at zB_dX11_take_0 2 rfl
theorem dX11_take_7 : decode cX11_take 7 = .ok (.astore 4, 2) := zDec_at zB_dX11_take_0 3 rfl
theorem dX11_take_9 : decode cX11_take 9 = .ok (.iload_n 2, 1) := zDec_at zB_dX11_take_0 4 rfl
theorem dX11_take_10 : decode cX11_take 10 = .ok (.invokestatic 220, 3) := zDec_at zB_dX11_take_0 5 rfl
theorem dX11_take_13 : decode cX11_take 13 = .ok (.ifCond .ne 10, 3) := zDec_at zB_dX11_take_0 6 rfl
theorem dX11_take_16 : decode cX11_take 16 = .ok (.iload_n 3, 1) := zDec_at zB_dX11_take_0 7 rfl
theorem dX11_take_17 : decode cX11_take 17 = .ok (.invokestatic 72, 3) := zDec_at zB_dX11_take_0 8 rfl
theorem dX11_take_20 : decode cX11_take 20 = .ok (.ifCond .eq 9, 3) := zDec_at zB_dX11_take_0 9 rfl
theorem dX11_take_23 : decode cX11_take 23 = .ok (.aload_n 0, 1) := zDec_at zB_dX11_take_0 10 rfl
theorem dX11_take_24 : decode cX11_take 24 = .ok (.iconst (-1), 1) := zDec_at zB_dX11_take_0 11 rfl
theorem dX11_take_25 : decode cX11_take 25 = .ok (.invokevirtual 55, 3) := zDec_at zB_dX11_take_0 12 rfl
theorem dX11_take_28 : decode cX11_take 28 = .ok (.ireturn, 1) := zDec_at zB_dX11_take_0 13 rfl
theorem dX11_take_29 : decode cX11_take 29 = .ok (.aload_n 0, 1) := zDec_at zB_dX11_take_0 14 rfl
theorem dX11_take_30 : decode cX11_take 30 = .ok (.getfield 12, 3) := zDec_at zB_dX11_take_0 15 rfl
theorem dX11_take_33 : decode cX11_take 33 = .ok (.getfield 43, 3) := zDec_at zB_dX11_take_0 16 rfl
theorem dX11_take_36 : decode cX11_take 36 = .ok (.iload_n 1, 1) := zDec_at zB_dX11_take_0 17 rfl
theorem dX11_take_37 : decode cX11_take 37 = .ok (.invokevirtual 90, 3) := zDec_at zB_dX11_take_0 18 rfl
theorem dX11_take_40 : decode cX11_take 40 = .ok (.ifCond .eq 10, 3) := zDec_at zB_dX11_take_0 19 rfl
theorem dX11_take_43 : decode cX11_take 43 = .ok (.aload_n 0, 1) := zDec_at zB_dX11_take_0 20 rfl
theorem dX11_take_44 : decode cX11_take 44 = .ok (.bipush (-2), 2) := zDec_at zB_dX11_take_0 21 rfl
theorem dX11_take_46 : decode cX11_take 46 = .ok (.invokevirtual 55, 3) := zDec_at zB_dX11_take_0 22 rfl
theorem dX11_take_49 : decode cX11_take 49 = .ok (.ireturn, 1) := zDec_at zB_dX11_take_0 23 rfl
theorem dX11_take_50 : decode cX11_take 50 = .ok (.iload_n 1, 1) := zDec_at zB_dX11_take_0 24 rfl
theorem dX11_take_51 : decode cX11_take 51 = .ok (.iconst 4, 1) := zDec_at zB_dX11_take_0 25 rfl
theorem dX11_take_52 : decode cX11_take 52 = .ok (.imul, 1) := zDec_at zB_dX11_take_0 26 rfl
theorem dX11_take_53 : decode cX11_take 53 = .ok (.iload_n 2, 1) := zDec_at zB_dX11_take_0 27 rfl
theorem dX11_take_54 : decode cX11_take 54 = .ok (.iadd, 1) := zDec_at zB_dX11_take_0 28 rfl
theorem dX11_take_55 : decode cX11_take 55 = .ok (.istore 5, 2) := zDec_at zB_dX11_take_0 29 rfl
theorem dX11_take_57 : decode cX11_take 57 = .ok (.iload_n 2, 1) := zDec_at zB_dX11_take_0 30 rfl
theorem dX11_take_58 : decode cX11_take 58 = .ok (.ifCond .ne 7, 3) := zDec_at zB_dX11_take_0 31 rfl
theorem dX11_take_61 : decode cX11_take 61 = .ok (.iconst (-1), 1) := zDec_at zB_dX11_take_0 32 rfl
theorem dX11_take_62 : decode cX11_take 62 = .ok (.goto 13, 3) := zDec_at zB_dX11_take_0 33 rfl
theorem dX11_take_65 : decode cX11_take 65 = .ok (.aload 4, 2) := zDec_at zB_dX11_take_0 34 rfl
theorem dX11_take_67 : decode cX11_take 67 = .ok (.getfield 234, 3) := zDec_at zB_dX11_take_0 35 rfl
theorem dX11_take_70 : decode cX11_take 70 = .ok (.iload 5, 2) := zDec_at zB_dX11_take_0 36 rfl
theorem dX11_take_72 : decode cX11_take 72 = .ok (.iconst 1, 1) := zDec_at zB_dX11_take_0 37 rfl
theorem dX11_take_73 : decode cX11_take 73 = .ok (.isub, 1) := zDec_at zB_dX11_take_0 38 rfl
theorem dX11_take_74 : decode cX11_take 74 = .ok (.iaload, 1) := zDec_at zB_dX11_take_0 39 rfl
theorem zB_dX11_take_75 : zDecB cX11_take [(75, .istore 6, 2), (77, .iload_n 2, 1), (78, .ifCond .le 16, 3), (81, .iload 6, 2), (83, .iconst (-1), 1), (84, .if_icmp .ne 10, 3), (87, .aload_n 0, 1), (88, .bipush (-3), 2), (90, .invokevirtual 55, 3), (93, .ireturn, 1), (94, .aload_n 0, 1), (95, .getfield 32, 3), (98, .iload_n 1, 1), (99, .iload_n 3, 1), (100, .invokevirtual 223, 3), (103, .aload_n 0, 1), (104, .getfield 32, 3), (107, .iload_n 1, 1), (108, .iload_n 2, 1), (109, .iload 6, 2), (111, .iconst 1, 1), (112, .iadd, 1), (113, .iload_n 3, 1), (114, .invokevirtual 227, 3), (117, .iconst (-1), 1), (118, .if_icmp .ne 10, 3), (121, .aload_n 0, 1), (122, .bipush (-3), 2), (124, .invokevirtual 55, 3), (127, .ireturn, 1), (128, .aload 4, 2), (130, .getfield 234, 3), (133, .iload 5, 2), (135, .iaload, 1), (136, .iconst (-1), 1), (137, .if_icmp .eq 10, 3), (140, .aload_n 0, 1), (141, .bipush (-4), 2), (143, .invokevirtual 55, 3), (146, .ireturn, 1)] = true := by decide +kernel
theorem dX11_take_75 : decode cX11_take 75 = .ok (.istore 6, 2) := zDec_at zB_dX11_take_75 0 rfl
theorem dX11_take_77 : decode cX11_take 77 = .ok (.iload_n 2, 1) := zDec_at zB_dX11_take_75 1 rfl
theorem dX11_take_78 : decode cX11_take 78 = .ok (.ifCond .le 16, 3) := zDec_at zB_dX11_take_75 2 rfl
theorem dX11_take_81 : decode cX11_take 81 = .ok (.iload 6, 2) := zDec_at zB_dX11_take_75 3 rfl
theorem dX11_take_83 : decode cX11_take 83 = .ok (.iconst (-1), 1) := zDec_at zB_dX11_take_75 4 rfl
theorem dX11_take_84 : decode cX11_take 84 = .ok (.if_icmp .ne 10, 3) := zDec_at zB_dX11_take_75 5 rfl
theorem dX11_take_87 : decode cX11_take 87 = .ok (.aload_n 0, 1) := zDec_at zB_dX11_take_75 6 rfl
theorem dX11_take_88 : decode cX11_take 88 = .ok (.bipush (-3), 2) := zDec_at zB_dX11_take_75 7 rfl
theorem dX11_take_90 : decode cX11_take 90 = .ok (.invokevirtual 55, 3) := zDec_at zB_dX11_take_75 8 rfl
theorem dX11_take_93 : decode cX11_take 93 = .ok (.ireturn, 1) := zDec_at zB_dX11_take_75 9 rfl
theorem dX11_take_94 : decode cX11_take 94 = .ok (.aload_n 0, 1) := zDec_at zB_dX11_take_75 10 rfl
theorem dX11_take_95 : decode cX11_take 95 = .ok (.getfield 32, 3) := zDec_at zB_dX11_take_75 11 rfl
theorem dX11_take_98 : decode cX11_take 98 = .ok (.iload_n 1, 1) := zDec_at zB_dX11_take_75 12 rfl
theorem dX11_take_99 : decode cX11_take 99 = .ok (.iload_n 3, 1) := zDec_at zB_dX11_take_75 13 rfl
theorem dX11_take_100 : decode cX11_take 100 = .ok (.invokevirtual 223, 3) := zDec_at zB_dX11_take_75 14 rfl
theorem dX11_take_103 : decode cX11_take 103 = .ok (.aload_n 0, 1) := zDec_at zB_dX11_take_75 15 rfl
theorem dX11_take_104 : decode cX11_take 104 = .ok (.getfield 32, 3) := zDec_at zB_dX11_take_75 16 rfl
theorem dX11_take_107 : decode cX11_take 107 = .ok (.iload_n 1, 1) := zDec_at zB_dX11_take_75 17 rfl
theorem dX11_take_108 : decode cX11_take 108 = .ok (.iload_n 2, 1) := zDec_at zB_dX11_take_75 18 rfl
theorem dX11_take_109 : decode cX11_take 109 = .ok (.iload 6, 2) := zDec_at zB_dX11_take_75 19 rfl
theorem dX11_take_111 : decode cX11_take 111 = .ok (.iconst 1, 1) := zDec_at zB_dX11_take_75 20 rfl
theorem dX11_take_112 : decode cX11_take 112 = .ok (.iadd, 1) := zDec_at zB_dX11_take_75 21 rfl
theorem dX11_take_113 : decode cX11_take 113 = .ok (.iload_n 3, 1) := zDec_at zB_dX11_take_75 22 rfl
theorem dX11_take_114 : decode cX11_take 114 = .ok (.invokevirtual 227, 3) := zDec_at zB_dX11_take_75 23 rfl
theorem dX11_take_117 : decode cX11_take 117 = .ok (.iconst (-1), 1) := zDec_at zB_dX11_take_75 24 rfl
theorem dX11_take_118 : decode cX11_take 118 = .ok (.if_icmp .ne 10, 3) := zDec_at zB_dX11_take_75 25 rfl
theorem dX11_take_121 : decode cX11_take 121 = .ok (.aload_n 0, 1) := zDec_at zB_dX11_take_75 26 rfl
theorem dX11_take_122 : decode cX11_take 122 = .ok (.bipush (-3), 2) := zDec_at zB_dX11_take_75 27 rfl
theorem dX11_take_124 : decode cX11_take 124 = .ok (.invokevirtual 55, 3) := zDec_at zB_dX11_take_75 28 rfl
theorem dX11_take_127 : decode cX11_take 127 = .ok (.ireturn, 1) := zDec_at zB_dX11_take_75 29 rfl
theorem dX11_take_128 : decode cX11_take 128 = .ok (.aload 4, 2) := zDec_at zB_dX11_take_75 30 rfl
theorem dX11_take_130 : decode cX11_take 130 = .ok (.getfield 234, 3) := zDec_at zB_dX11_take_75 31 rfl
theorem dX11_take_133 : decode cX11_take 133 = .ok (.iload 5, 2) := zDec_at zB_dX11_take_75 32 rfl
theorem dX11_take_135 : decode cX11_take 135 = .ok (.iaload, 1) := zDec_at zB_dX11_take_75 33 rfl
theorem dX11_take_136 : decode cX11_take 136 = .ok (.iconst (-1), 1) := zDec_at zB_dX11_take_75 34 rfl
theorem dX11_take_137 : decode cX11_take 137 = .ok (.if_icmp .eq 10, 3) := zDec_at zB_dX11_take_75 35 rfl
theorem dX11_take_140 : decode cX11_take 140 = .ok (.aload_n 0, 1) := zDec_at zB_dX11_take_75 36 rfl
theorem dX11_take_141 : decode cX11_take 141 = .ok (.bipush (-4), 2) := zDec_at zB_dX11_take_75 37 rfl
theorem dX11_take_143 : decode cX11_take 143 = .ok (.invokevirtual 55, 3) := zDec_at zB_dX11_take_75 38 rfl
theorem dX11_take_146 : decode cX11_take 146 = .ok (.ireturn, 1) := zDec_at zB_dX11_take_75 39 rfl
theorem zB_dX11_take_147 : zDecB cX11_take [(147, .aload 4, 2), (149, .getfield 234, 3), (152, .iload 5, 2), (154, .iload_n 3, 1), (155, .iastore, 1), (156, .aload_n 0, 1), (157, .iconst 0, 1), (158, .invokevirtual 55, 3), (161, .ireturn, 1)] = true := by decide +kernel
theorem dX11_take_147 : decode cX11_take 147 = .ok (.aload 4, 2) := zDec_at zB_dX11_take_147 0 rfl
theorem dX11_take_149 : decode cX11_take 149 = .ok (.getfield 234, 3) := zDec_at zB_dX11_take_147 1 rfl
theorem dX11_take_152 : decode cX11_take 152 = .ok (.iload 5, 2) := zDec_at zB_dX11_take_147 2 rfl
theorem dX11_take_154 : decode cX11_take 154 = .ok (.iload_n 3, 1) := zDec_at zB_dX11_take_147 3 rfl
theorem dX11_take_155 : decode cX11_take 155 = .ok (.iastore, 1) := zDec_at zB_dX11_take_147 4 rfl
theorem dX11_take_156 : decode cX11_take 156 = .ok (.aload_n 0, 1) := zDec_at zB_dX11_take_147 5 rfl
theorem dX11_take_157 : decode cX11_take 157 = .ok (.iconst 0, 1) := zDec_at zB_dX11_take_147 6 rfl
theorem dX11_take_158 : decode cX11_take 158 = .ok (.invokevirtual 55, 3) := zDec_at zB_dX11_take_147 7 rfl
theorem dX11_take_161 : decode cX11_take 161 = .ok (.ireturn, 1) := zDec_at zB_dX11_take_147 8 rfl
theorem zB_dX11_tells_0 : zDecB cX11_tells [(0, .iload 5, 2), (2, .iconst 0, 1), (3, .iconst 4, 1), (4, .invokestatic 47, 3), (7, .ifCond .eq 5, 3), (10, .iconst (-1), 1), (11, .ireturn, 1), (12, .aload_n 0, 1), (13, .iload_n 1, 1), (14, .iload_n 2, 1), (15, .iload_n 3, 1), (16, .iload 4, 2), (18, .invokevirtual 158, 3), (21, .istore 6, 2), (23, .iload 6, 2), (25, .iconst (-1), 1), (26, .if_icmp .eq 8, 3), (29, .iload 5, 2), (31, .ifCond .ne 6, 3), (34, .iload 6, 2), (36, .ireturn, 1), (37, .iload 5, 2), (39, .iconst 1, 1), (40, .if_icmp .ne 18, 3), (43, .aload_n 0, 1), (44, .getfield 12, 3), (47, .getfield 137, 3), (50, .iload 6, 2), (52, .iload 4, 2), (54, .invokevirtual 161, 3), (57, .ireturn, 1), (58, .iload 5, 2), (60, .iconst 2, 1), (61, .if_icmp .ne 17, 3), (64, .aload_n 0, 1), (65, .getfield 12, 3), (68, .getfield 137, 3), (71, .getfield 164, 3), (74, .iload 6, 2), (76, .iaload, 1)] = true := by decide +kernel
theorem dX11_tells_0 : decode cX11_tells 0 = .ok (.iload 5, 2) := zDec_at zB_dX11_tells_0 0 rfl
theorem dX11_tells_2 : decode cX11_tells 2 = .ok (.iconst 0, 1) := zDec_at zB_dX11_tells_0 1 rfl
theorem dX11_tells_3 : decode cX11_tells 3 = .ok (.iconst 4, 1) := zDec_at zB_dX11_tells_0 2 rfl
theorem dX11_tells_4 : decode cX11_tells 4 = .ok (.invokestatic 47, 3) := zDec_at zB_dX11_tells_0 3 rfl
theorem dX11_tells_7 : decode cX11_tells 7 = .ok (.ifCond .eq 5, 3) := zDec_at zB_dX11_tells_0 4 rfl
theorem dX11_tells_10 : decode cX11_tells 10 = .ok (.iconst (-1), 1) := zDec_at zB_dX11_tells_0 5 rfl
theorem dX11_tells_11 : decode cX11_tells 11 = .ok (.ireturn, 1) := zDec_at zB_dX11_tells_0 6 rfl
theorem dX11_tells_12 : decode cX11_tells 12 = .ok (.aload_n 0, 1) := zDec_at zB_dX11_tells_0 7 rfl
theorem dX11_tells_13 : decode cX11_tells 13 = .ok (.iload_n 1, 1) := zDec_at zB_dX11_tells_0 8 rfl
theorem dX11_tells_14 : decode cX11_tells 14 = .ok (.iload_n 2, 1) := zDec_at zB_dX11_tells_0 9 rfl
theorem dX11_tells_15 : decode cX11_tells 15 = .ok (.iload_n 3, 1) := zDec_at zB_dX11_tells_0 10 rfl
theorem dX11_tells_16 : decode cX11_tells 16 = .ok (.iload 4, 2) := zDec_at zB_dX11_tells_0 11 rfl
theorem dX11_tells_18 : decode cX11_tells 18 = .ok (.invokevirtual 158, 3) := zDec_at zB_dX11_tells_0 12 rfl
theorem dX11_tells_21 : decode cX11_tells 21 = .ok (.istore 6, 2) := zDec_at zB_dX11_tells_0 13 rfl
theorem dX11_tells_23 : decode cX11_tells 23 = .ok (.iload 6, 2) := zDec_at zB_dX11_tells_0 14 rfl
theorem dX11_tells_25 : decode cX11_tells 25 = .ok (.iconst (-1), 1) := zDec_at zB_dX11_tells_0 15 rfl
theorem dX11_tells_26 : decode cX11_tells 26 = .ok (.if_icmp .eq 8, 3) := zDec_at zB_dX11_tells_0 16 rfl
theorem dX11_tells_29 : decode cX11_tells 29 = .ok (.iload 5, 2) := zDec_at zB_dX11_tells_0 17 rfl
theorem dX11_tells_31 : decode cX11_tells 31 = .ok (.ifCond .ne 6, 3) := zDec_at zB_dX11_tells_0 18 rfl
theorem dX11_tells_34 : decode cX11_tells 34 = .ok (.iload 6, 2) := zDec_at zB_dX11_tells_0 19 rfl
theorem dX11_tells_36 : decode cX11_tells 36 = .ok (.ireturn, 1) := zDec_at zB_dX11_tells_0 20 rfl
theorem dX11_tells_37 : decode cX11_tells 37 = .ok (.iload 5, 2) := zDec_at zB_dX11_tells_0 21 rfl
theorem dX11_tells_39 : decode cX11_tells 39 = .ok (.iconst 1, 1) := zDec_at zB_dX11_tells_0 22 rfl
theorem dX11_tells_40 : decode cX11_tells 40 = .ok (.if_icmp .ne 18, 3) := zDec_at zB_dX11_tells_0 23 rfl
theorem dX11_tells_43 : decode cX11_tells 43 = .ok (.aload_n 0, 1) := zDec_at zB_dX11_tells_0 24 rfl
theorem dX11_tells_44 : decode cX11_tells 44 = .ok (.getfield 12, 3) := zDec_at zB_dX11_tells_0 25 rfl
theorem dX11_tells_47 : decode cX11_tells 47 = .ok (.getfield 137, 3) := zDec_at zB_dX11_tells_0 26 rfl
theorem dX11_tells_50 : decode cX11_tells 50 = .ok (.iload 6, 2) := zDec_at zB_dX11_tells_0 27 rfl
theorem dX11_tells_52 : decode cX11_tells 52 = .ok (.iload 4, 2) := zDec_at zB_dX11_tells_0 28 rfl
theorem dX11_tells_54 : decode cX11_tells 54 = .ok (.invokevirtual 161, 3) := zDec_at zB_dX11_tells_0 29 rfl
theorem dX11_tells_57 : decode cX11_tells 57 = .ok (.ireturn, 1) := zDec_at zB_dX11_tells_0 30 rfl
theorem dX11_tells_58 : decode cX11_tells 58 = .ok (.iload 5, 2) := zDec_at zB_dX11_tells_0 31 rfl
theorem dX11_tells_60 : decode cX11_tells 60 = .ok (.iconst 2, 1) := zDec_at zB_dX11_tells_0 32 rfl
theorem dX11_tells_61 : decode cX11_tells 61 = .ok (.if_icmp .ne 17, 3) := zDec_at zB_dX11_tells_0 33 rfl
theorem dX11_tells_64 : decode cX11_tells 64 = .ok (.aload_n 0, 1) := zDec_at zB_dX11_tells_0 34 rfl
theorem dX11_tells_65 : decode cX11_tells 65 = .ok (.getfield 12, 3) := zDec_at zB_dX11_tells_0 35 rfl
theorem dX11_tells_68 : decode cX11_tells 68 = .ok (.getfield 137, 3) := zDec_at zB_dX11_tells_0 36 rfl
theorem dX11_tells_71 : decode cX11_tells 71 = .ok (.getfield 164, 3) := zDec_at zB_dX11_tells_0 37 rfl
theorem dX11_tells_74 : decode cX11_tells 74 = .ok (.iload 6, 2) := zDec_at zB_dX11_tells_0 38 rfl
theorem dX11_tells_76 : decode cX11_tells 76 = .ok (.iaload, 1) := zDec_at zB_dX11_tells_0 39 rfl
theorem zB_dX11_tells_77 : zDecB cX11_tells [(77, .ireturn, 1), (78, .aload_n 0, 1), (79, .getfield 32, 3), (82, .iload 6, 2), (84, .iload 4, 2), (86, .invokevirtual 167, 3), (89, .istore 7, 2), (91, .iload 5, 2), (93, .iconst 3, 1), (94, .if_icmp .ne 8, 3), (97, .iload 7, 2), (99, .goto 10, 3), (102, .aload_n 0, 1), (103, .getfield 32, 3), (106, .invokevirtual 170, 3), (109, .ireturn, 1)] = true := by decide +kernel
theorem dX11_tells_77 : decode cX11_tells 77 = .ok (.ireturn, 1) := zDec_at zB_dX11_tells_77 0 rfl
theorem dX11_tells_78 : decode cX11_tells 78 = .ok (.aload_n 0, 1) := zDec_at zB_dX11_tells_77 1 rfl
theorem dX11_tells_79 : decode cX11_tells 79 = .ok (.getfield 32, 3) := zDec_at zB_dX11_tells_77 2 rfl
theorem dX11_tells_82 : decode cX11_tells 82 = .ok (.iload 6, 2) := zDec_at zB_dX11_tells_77 3 rfl
theorem dX11_tells_84 : decode cX11_tells 84 = .ok (.iload 4, 2) := zDec_at zB_dX11_tells_77 4 rfl
theorem dX11_tells_86 : decode cX11_tells 86 = .ok (.invokevirtual 167, 3) := zDec_at zB_dX11_tells_77 5 rfl
theorem dX11_tells_89 : decode cX11_tells 89 = .ok (.istore 7, 2) := zDec_at zB_dX11_tells_77 6 rfl
theorem dX11_tells_91 : decode cX11_tells 91 = .ok (.iload 5, 2) := zDec_at zB_dX11_tells_77 7 rfl
theorem dX11_tells_93 : decode cX11_tells 93 = .ok (.iconst 3, 1) := zDec_at zB_dX11_tells_77 8 rfl
theorem dX11_tells_94 : decode cX11_tells 94 = .ok (.if_icmp .ne 8, 3) := zDec_at zB_dX11_tells_77 9 rfl
theorem dX11_tells_97 : decode cX11_tells 97 = .ok (.iload 7, 2) := zDec_at zB_dX11_tells_77 10 rfl
theorem dX11_tells_99 : decode cX11_tells 99 = .ok (.goto 10, 3) := zDec_at zB_dX11_tells_77 11 rfl
theorem dX11_tells_102 : decode cX11_tells 102 = .ok (.aload_n 0, 1) := zDec_at zB_dX11_tells_77 12 rfl
theorem dX11_tells_103 : decode cX11_tells 103 = .ok (.getfield 32, 3) := zDec_at zB_dX11_tells_77 13 rfl
theorem dX11_tells_106 : decode cX11_tells 106 = .ok (.invokevirtual 170, 3) := zDec_at zB_dX11_tells_77 14 rfl
theorem dX11_tells_109 : decode cX11_tells 109 = .ok (.ireturn, 1) := zDec_at zB_dX11_tells_77 15 rfl
theorem zB_dX11_visit_0 : zDecB cX11_visit [(0, .aload_n 0, 1), (1, .getfield 12, 3), (4, .getfield 263, 3), (7, .astore 4, 2), (9, .iload_n 2, 1), (10, .iconst 1, 1), (11, .sipush 200, 3), (14, .invokestatic 47, 3), (17, .ifCond .ne 14, 3), (20, .iload_n 3, 1), (21, .iconst 1, 1), (22, .sipush 1000, 3), (25, .invokestatic 47, 3), (28, .ifCond .eq 9, 3), (31, .aload_n 0, 1), (32, .iconst (-1), 1), (33, .invokevirtual 55, 3), (36, .ireturn, 1), (37, .aload_n 0, 1), (38, .getfield 12, 3), (41, .getfield 43, 3), (44, .iload_n 1, 1), (45, .invokevirtual 90, 3), (48, .ifCond .eq 10, 3), (51, .aload_n 0, 1), (52, .bipush (-2), 2), (54, .invokevirtual 55, 3), (57, .ireturn, 1), (58, .aload 4, 2), (60, .getfield 315, 3), (63, .bipush 9, 2), (65, .if_icmp .lt 10, 3), (68, .aload_n 0, 1), (69, .bipush (-5), 2), (71, .invokevirtual 55, 3), (74, .ireturn, 1), (75, .aload 4, 2), (77, .getfield 318, 3), (80, .aload 4, 2), (82, .getfield 315, 3)] = true := by decide +kernel
theorem dX11_visit_0 : decode cX11_visit 0 = .ok (.aload_n 0, 1) := zDec_at zB_dX11_visit_0 0 rfl
theorem dX11_visit_1 : decode cX11_visit 1 = .ok (.getfield 12, 3) := zDec_at zB_dX11_visit_0 1 rfl
theorem dX11_visit_4 : decode cX11_visit 4 = .ok (.getfield 263, 3) := zDec_at zB_dX11_visit_0 2 rfl
theorem dX11_visit_7 : decode cX11_visit 7 = .ok (.astore 4, 2) := zDec_at zB_dX11_visit_0 3 rfl
theorem dX11_visit_9 : decode cX11_visit 9 = .ok (.iload_n 2, 1) := zDec_at zB_dX11_visit_0 4 rfl
theorem dX11_visit_10 : decode cX11_visit 10 = .ok (.iconst 1, 1) := zDec_at zB_dX11_visit_0 5 rfl
theorem dX11_visit_11 : decode cX11_visit 11 = .ok (.sipush 200, 3) := zDec_at zB_dX11_visit_0 6 rfl
theorem dX11_visit_14 : decode cX11_visit 14 = .ok (.invokestatic 47, 3) := zDec_at zB_dX11_visit_0 7 rfl
theorem dX11_visit_17 : decode cX11_visit 17 = .ok (.ifCond .ne 14, 3) := zDec_at zB_dX11_visit_0 8 rfl
theorem dX11_visit_20 : decode cX11_visit 20 = .ok (.iload_n 3, 1) := zDec_at zB_dX11_visit_0 9 rfl
theorem dX11_visit_21 : decode cX11_visit 21 = .ok (.iconst 1, 1) := zDec_at zB_dX11_visit_0 10 rfl
theorem dX11_visit_22 : decode cX11_visit 22 = .ok (.sipush 1000, 3) := zDec_at zB_dX11_visit_0 11 rfl
theorem dX11_visit_25 : decode cX11_visit 25 = .ok (.invokestatic 47, 3) := zDec_at zB_dX11_visit_0 12 rfl
theorem dX11_visit_28 : decode cX11_visit 28 = .ok (.ifCond .eq 9, 3) := zDec_at zB_dX11_visit_0 13 rfl
theorem dX11_visit_31 : decode cX11_visit 31 = .ok (.aload_n 0, 1) := zDec_at zB_dX11_visit_0 14 rfl
theorem dX11_visit_32 : decode cX11_visit 32 = .ok (.iconst (-1), 1) := zDec_at zB_dX11_visit_0 15 rfl
theorem dX11_visit_33 : decode cX11_visit 33 = .ok (.invokevirtual 55, 3) := zDec_at zB_dX11_visit_0 16 rfl
theorem dX11_visit_36 : decode cX11_visit 36 = .ok (.ireturn, 1) := zDec_at zB_dX11_visit_0 17 rfl
theorem dX11_visit_37 : decode cX11_visit 37 = .ok (.aload_n 0, 1) := zDec_at zB_dX11_visit_0 18 rfl
theorem dX11_visit_38 : decode cX11_visit 38 = .ok (.getfield 12, 3) := zDec_at zB_dX11_visit_0 19 rfl
theorem dX11_visit_41 : decode cX11_visit 41 = .ok (.getfield 43, 3) := zDec_at zB_dX11_visit_0 20 rfl
theorem dX11_visit_44 : decode cX11_visit 44 = .ok (.iload_n 1, 1) := zDec_at zB_dX11_visit_0 21 rfl
theorem dX11_visit_45 : decode cX11_visit 45 = .ok (.invokevirtual 90, 3) := zDec_at zB_dX11_visit_0 22 rfl
theorem dX11_visit_48 : decode cX11_visit 48 = .ok (.ifCond .eq 10, 3) := zDec_at zB_dX11_visit_0 23 rfl
theorem dX11_visit_51 : decode cX11_visit 51 = .ok (.aload_n 0, 1) := zDec_at zB_dX11_visit_0 24 rfl
theorem dX11_visit_52 : decode cX11_visit 52 = .ok (.bipush (-2), 2) := zDec_at zB_dX11_visit_0 25 rfl
theorem dX11_visit_54 : decode cX11_visit 54 = .ok (.invokevirtual 55, 3) := zDec_at zB_dX11_visit_0 26 rfl
theorem dX11_visit_57 : decode cX11_visit 57 = .ok (.ireturn, 1) := zDec_at zB_dX11_visit_0 27 rfl
theorem dX11_visit_58 : decode cX11_visit 58 = .ok (.aload 4, 2) := zDec_at zB_dX11_visit_0 28 rfl
theorem dX11_visit_60 : decode cX11_visit 60 = .ok (.getfield 315, 3) := zDec_at zB_dX11_visit_0 29 rfl
theorem dX11_visit_63 : decode cX11_visit 63 = .ok (.bipush 9, 2) := zDec_at zB_dX11_visit_0 30 rfl
theorem dX11_visit_65 : decode cX11_visit 65 = .ok (.if_icmp .lt 10, 3) := zDec_at zB_dX11_visit_0 31 rfl
theorem dX11_visit_68 : decode cX11_visit 68 = .ok (.aload_n 0, 1) := zDec_at zB_dX11_visit_0 32 rfl
theorem dX11_visit_69 : decode cX11_visit 69 = .ok (.bipush (-5), 2) := zDec_at zB_dX11_visit_0 33 rfl
theorem dX11_visit_71 : decode cX11_visit 71 = .ok (.invokevirtual 55, 3) := zDec_at zB_dX11_visit_0 34 rfl
theorem dX11_visit_74 : decode cX11_visit 74 = .ok (.ireturn, 1) := zDec_at zB_dX11_visit_0 35 rfl
theorem dX11_visit_75 : decode cX11_visit 75 = .ok (.aload 4, 2) := zDec_at zB_dX11_visit_0 36 rfl
theorem dX11_visit_77 : decode cX11_visit 77 = .ok (.getfield 318, 3) := zDec_at zB_dX11_visit_0 37 rfl
theorem dX11_visit_80 : decode cX11_visit 80 = .ok (.aload 4, 2) := zDec_at zB_dX11_visit_0 38 rfl
theorem dX11_visit_82 : decode cX11_visit 82 = .ok (.getfield 315, 3) := zDec_at zB_dX11_visit_0 39 rfl
theorem zB_dX11_visit_85 : zDecB cX11_visit [(85, .iload_n 1, 1), (86, .iastore, 1), (87, .aload 4, 2), (89, .getfield 321, 3), (92, .aload 4, 2), (94, .getfield 315, 3), (97, .iload_n 2, 1), (98, .iastore, 1), (99, .aload 4, 2), (101, .getfield 324, 3), (104, .aload 4, 2), (106, .getfield 315, 3), (109, .iload_n 3, 1), (110, .iastore, 1), (111, .aload 4, 2), (113, .dup, 1), (114, .getfield 315, 3), (117, .iconst 1, 1), (118, .iadd, 1), (119, .putfield 315, 3), (122, .aload_n 0, 1), (123, .aload 4, 2), (125, .getfield 315, 3), (128, .invokevirtual 55, 3), (131, .ireturn, 1)] = true := by decide +kernel
theorem dX11_visit_85 : decode cX11_visit 85 = .ok (.iload_n 1, 1) := zDec_at zB_dX11_visit_85 0 rfl
theorem dX11_visit_86 : decode cX11_visit 86 = .ok (.iastore, 1) := zDec_at zB_dX11_visit_85 1 rfl
theorem dX11_visit_87 : decode cX11_visit 87 = .ok (.aload 4, 2) := zDec_at zB_dX11_visit_85 2 rfl
theorem dX11_visit_89 : decode cX11_visit 89 = .ok (.getfield 321, 3) := zDec_at zB_dX11_visit_85 3 rfl
theorem dX11_visit_92 : decode cX11_visit 92 = .ok (.aload 4, 2) := zDec_at zB_dX11_visit_85 4 rfl
theorem dX11_visit_94 : decode cX11_visit 94 = .ok (.getfield 315, 3) := zDec_at zB_dX11_visit_85 5 rfl
theorem dX11_visit_97 : decode cX11_visit 97 = .ok (.iload_n 2, 1) := zDec_at zB_dX11_visit_85 6 rfl
theorem dX11_visit_98 : decode cX11_visit 98 = .ok (.iastore, 1) := zDec_at zB_dX11_visit_85 7 rfl
theorem dX11_visit_99 : decode cX11_visit 99 = .ok (.aload 4, 2) := zDec_at zB_dX11_visit_85 8 rfl
theorem dX11_visit_101 : decode cX11_visit 101 = .ok (.getfield 324, 3) := zDec_at zB_dX11_visit_85 9 rfl
theorem dX11_visit_104 : decode cX11_visit 104 = .ok (.aload 4, 2) := zDec_at zB_dX11_visit_85 10 rfl
theorem dX11_visit_106 : decode cX11_visit 106 = .ok (.getfield 315, 3) := zDec_at zB_dX11_visit_85 11 rfl
theorem dX11_visit_109 : decode cX11_visit 109 = .ok (.iload_n 3, 1) := zDec_at zB_dX11_visit_85 12 rfl
theorem dX11_visit_110 : decode cX11_visit 110 = .ok (.iastore, 1) := zDec_at zB_dX11_visit_85 13 rfl
theorem dX11_visit_111 : decode cX11_visit 111 = .ok (.aload 4, 2) := zDec_at zB_dX11_visit_85 14 rfl
theorem dX11_visit_113 : decode cX11_visit 113 = .ok (.dup, 1) := zDec_at zB_dX11_visit_85 15 rfl
theorem dX11_visit_114 : decode cX11_visit 114 = .ok (.getfield 315, 3) := zDec_at zB_dX11_visit_85 16 rfl
theorem dX11_visit_117 : decode cX11_visit 117 = .ok (.iconst 1, 1) := zDec_at zB_dX11_visit_85 17 rfl
theorem dX11_visit_118 : decode cX11_visit 118 = .ok (.iadd, 1) := zDec_at zB_dX11_visit_85 18 rfl
theorem dX11_visit_119 : decode cX11_visit 119 = .ok (.putfield 315, 3) := zDec_at zB_dX11_visit_85 19 rfl
theorem dX11_visit_122 : decode cX11_visit 122 = .ok (.aload_n 0, 1) := zDec_at zB_dX11_visit_85 20 rfl
theorem dX11_visit_123 : decode cX11_visit 123 = .ok (.aload 4, 2) := zDec_at zB_dX11_visit_85 21 rfl
theorem dX11_visit_125 : decode cX11_visit 125 = .ok (.getfield 315, 3) := zDec_at zB_dX11_visit_85 22 rfl
theorem dX11_visit_128 : decode cX11_visit 128 = .ok (.invokevirtual 55, 3) := zDec_at zB_dX11_visit_85 23 rfl
theorem dX11_visit_131 : decode cX11_visit 131 = .ok (.ireturn, 1) := zDec_at zB_dX11_visit_85 24 rfl
theorem zB_dX1_askOfDay_0 : zDecB cX1_askOfDay [(0, .aload_n 0, 1), (1, .iload_n 1, 1), (2, .putfield 49, 3), (5, .aload_n 0, 1), (6, .iconst 2, 1), (7, .iload_n 2, 1), (8, .imul, 1), (9, .putfield 56, 3), (12, .aload_n 0, 1), (13, .iconst 0, 1), (14, .putfield 62, 3), (17, .aload_n 0, 1), (18, .iconst 0, 1), (19, .putfield 68, 3), (22, .aload_n 0, 1), (23, .iconst 1, 1), (24, .putfield 71, 3), (27, .return_, 1)] = true := by decide +kernel
theorem dX1_askOfDay_0 : decode cX1_askOfDay 0 = .ok (.aload_n 0, 1) := zDec_at zB_dX1_askOfDay_0 0 rfl
theorem dX1_askOfDay_1 : decode cX1_askOfDay 1 = .ok (.iload_n 1, 1) := zDec_at zB_dX1_askOfDay_0 1 rfl
theorem dX1_askOfDay_2 : decode cX1_askOfDay 2 = .ok (.putfield 49, 3) := zDec_at zB_dX1_askOfDay_0 2 rfl
theorem dX1_askOfDay_5 : decode cX1_askOfDay 5 = .ok (.aload_n 0, 1) := zDec_at zB_dX1_askOfDay_0 3 rfl
theorem dX1_askOfDay_6 : decode cX1_askOfDay 6 = .ok (.iconst 2, 1) := zDec_at zB_dX1_askOfDay_0 4 rfl
theorem dX1_askOfDay_7 : decode cX1_askOfDay 7 = .ok (.iload_n 2, 1) := zDec_at zB_dX1_askOfDay_0 5 rfl
theorem dX1_askOfDay_8 : decode cX1_askOfDay 8 = .ok (.imul, 1) := zDec_at zB_dX1_askOfDay_0 6 rfl
theorem dX1_askOfDay_9 : decode cX1_askOfDay 9 = .ok (.putfield 56, 3) := zDec_at zB_dX1_askOfDay_0 7 rfl
theorem dX1_askOfDay_12 : decode cX1_askOfDay 12 = .ok (.aload_n 0, 1) := zDec_at zB_dX1_askOfDay_0 8 rfl
theorem dX1_askOfDay_13 : decode cX1_askOfDay 13 = .ok (.iconst 0, 1) := zDec_at zB_dX1_askOfDay_0 9 rfl
theorem dX1_askOfDay_14 : decode cX1_askOfDay 14 = .ok (.putfield 62, 3) := zDec_at zB_dX1_askOfDay_0 10 rfl
theorem dX1_askOfDay_17 : decode cX1_askOfDay 17 = .ok (.aload_n 0, 1) := zDec_at zB_dX1_askOfDay_0 11 rfl
theorem dX1_askOfDay_18 : decode cX1_askOfDay 18 = .ok (.iconst 0, 1) := zDec_at zB_dX1_askOfDay_0 12 rfl
theorem dX1_askOfDay_19 : decode cX1_askOfDay 19 = .ok (.putfield 68, 3) := zDec_at zB_dX1_askOfDay_0 13 rfl
theorem dX1_askOfDay_22 : decode cX1_askOfDay 22 = .ok (.aload_n 0, 1) := zDec_at zB_dX1_askOfDay_0 14 rfl
theorem dX1_askOfDay_23 : decode cX1_askOfDay 23 = .ok (.iconst 1, 1) := zDec_at zB_dX1_askOfDay_0 15 rfl
theorem dX1_askOfDay_24 : decode cX1_askOfDay 24 = .ok (.putfield 71, 3) := zDec_at zB_dX1_askOfDay_0 16 rfl
theorem dX1_askOfDay_27 : decode cX1_askOfDay 27 = .ok (.return_, 1) := zDec_at zB_dX1_askOfDay_0 17 rfl
theorem zB_dX1_askOfMark_0 : zDecB cX1_askOfMark [(0, .aload_n 0, 1), (1, .aload_n 0, 1), (2, .getfield 34, 3), (5, .getfield 38, 3), (8, .getfield 44, 3), (11, .iload_n 1, 1), (12, .iaload, 1), (13, .putfield 49, 3), (16, .aload_n 0, 1), (17, .aload_n 0, 1), (18, .getfield 34, 3), (21, .getfield 38, 3), (24, .getfield 53, 3), (27, .iload_n 1, 1), (28, .iaload, 1), (29, .putfield 56, 3), (32, .aload_n 0, 1), (33, .aload_n 0, 1), (34, .getfield 34, 3), (37, .getfield 38, 3), (40, .getfield 59, 3), (43, .iload_n 1, 1), (44, .iaload, 1), (45, .putfield 62, 3), (48, .aload_n 0, 1), (49, .aload_n 0, 1), (50, .getfield 34, 3), (53, .getfield 38, 3), (56, .getfield 65, 3), (59, .iload_n 1, 1), (60, .iaload, 1), (61, .putfield 68, 3), (64, .aload_n 0, 1), (65, .iconst 0, 1), (66, .putfield 71, 3), (69, .return_, 1)] = true := by decide +kernel
theorem dX1_askOfMark_0 : decode cX1_askOfMark 0 = .ok (.aload_n 0, 1) := zDec_at zB_dX1_askOfMark_0 0 rfl
theorem dX1_askOfMark_1 : decode cX1_askOfMark 1 = .ok (.aload_n 0, 1) := zDec_at zB_dX1_askOfMark_0 1 rfl
theorem dX1_askOfMark_2 : decode cX1_askOfMark 2 = .ok (.getfield 34, 3) := zDec_at zB_dX1_askOfMark_0 2 rfl
theorem dX1_askOfMark_5 : decode cX1_askOfMark 5 = .ok (.getfield 38, 3) := zDec_at zB_dX1_askOfMark_0 3 rfl
theorem dX1_askOfMark_8 : decode cX1_askOfMark 8 = .ok (.getfield 44, 3) := zDec_at zB_dX1_askOfMark_0 4 rfl
theorem dX1_askOfMark_11 : decode cX1_askOfMark 11 = .ok (.iload_n 1, 1) := zDec_at zB_dX1_askOfMark_0 5 rfl
theorem dX1_askOfMark_12 : decode cX1_askOfMark 12 = .ok (.iaload, 1) := zDec_at zB_dX1_askOfMark_0 6 rfl
theorem dX1_askOfMark_13 : decode cX1_askOfMark 13 = .ok (.putfield 49, 3) := zDec_at zB_dX1_askOfMark_0 7 rfl
theorem dX1_askOfMark_16 : decode cX1_askOfMark 16 = .ok (.aload_n 0, 1) := zDec_at zB_dX1_askOfMark_0 8 rfl
theorem dX1_askOfMark_17 : decode cX1_askOfMark 17 = .ok (.aload_n 0, 1) := zDec_at zB_dX1_askOfMark_0 9 rfl
theorem dX1_askOfMark_18 : decode cX1_askOfMark 18 = .ok (.getfield 34, 3) := zDec_at zB_dX1_askOfMark_0 10 rfl
theorem dX1_askOfMark_21 : decode cX1_askOfMark 21 = .ok (.getfield 38, 3) := zDec_at zB_dX1_askOfMark_0 11 rfl
theorem dX1_askOfMark_24 : decode cX1_askOfMark 24 = .ok (.getfield 53, 3) := zDec_at zB_dX1_askOfMark_0 12 rfl
theorem dX1_askOfMark_27 : decode cX1_askOfMark 27 = .ok (.iload_n 1, 1) := zDec_at zB_dX1_askOfMark_0 13 rfl
theorem dX1_askOfMark_28 : decode cX1_askOfMark 28 = .ok (.iaload, 1) := zDec_at zB_dX1_askOfMark_0 14 rfl
theorem dX1_askOfMark_29 : decode cX1_askOfMark 29 = .ok (.putfield 56, 3) := zDec_at zB_dX1_askOfMark_0 15 rfl
theorem dX1_askOfMark_32 : decode cX1_askOfMark 32 = .ok (.aload_n 0, 1) := zDec_at zB_dX1_askOfMark_0 16 rfl
theorem dX1_askOfMark_33 : decode cX1_askOfMark 33 = .ok (.aload_n 0, 1) := zDec_at zB_dX1_askOfMark_0 17 rfl
theorem dX1_askOfMark_34 : decode cX1_askOfMark 34 = .ok (.getfield 34, 3) := zDec_at zB_dX1_askOfMark_0 18 rfl
theorem dX1_askOfMark_37 : decode cX1_askOfMark 37 = .ok (.getfield 38, 3) := zDec_at zB_dX1_askOfMark_0 19 rfl
theorem dX1_askOfMark_40 : decode cX1_askOfMark 40 = .ok (.getfield 59, 3) := zDec_at zB_dX1_askOfMark_0 20 rfl
theorem dX1_askOfMark_43 : decode cX1_askOfMark 43 = .ok (.iload_n 1, 1) := zDec_at zB_dX1_askOfMark_0 21 rfl
theorem dX1_askOfMark_44 : decode cX1_askOfMark 44 = .ok (.iaload, 1) := zDec_at zB_dX1_askOfMark_0 22 rfl
theorem dX1_askOfMark_45 : decode cX1_askOfMark 45 = .ok (.putfield 62, 3) := zDec_at zB_dX1_askOfMark_0 23 rfl
theorem dX1_askOfMark_48 : decode cX1_askOfMark 48 = .ok (.aload_n 0, 1) := zDec_at zB_dX1_askOfMark_0 24 rfl
theorem dX1_askOfMark_49 : decode cX1_askOfMark 49 = .ok (.aload_n 0, 1) := zDec_at zB_dX1_askOfMark_0 25 rfl
theorem dX1_askOfMark_50 : decode cX1_askOfMark 50 = .ok (.getfield 34, 3) := zDec_at zB_dX1_askOfMark_0 26 rfl
theorem dX1_askOfMark_53 : decode cX1_askOfMark 53 = .ok (.getfield 38, 3) := zDec_at zB_dX1_askOfMark_0 27 rfl
theorem dX1_askOfMark_56 : decode cX1_askOfMark 56 = .ok (.getfield 65, 3) := zDec_at zB_dX1_askOfMark_0 28 rfl
theorem dX1_askOfMark_59 : decode cX1_askOfMark 59 = .ok (.iload_n 1, 1) := zDec_at zB_dX1_askOfMark_0 29 rfl
theorem dX1_askOfMark_60 : decode cX1_askOfMark 60 = .ok (.iaload, 1) := zDec_at zB_dX1_askOfMark_0 30 rfl
theorem dX1_askOfMark_61 : decode cX1_askOfMark 61 = .ok (.putfield 68, 3) := zDec_at zB_dX1_askOfMark_0 31 rfl
theorem dX1_askOfMark_64 : decode cX1_askOfMark 64 = .ok (.aload_n 0, 1) := zDec_at zB_dX1_askOfMark_0 32 rfl
theorem dX1_askOfMark_65 : decode cX1_askOfMark 65 = .ok (.iconst 0, 1) := zDec_at zB_dX1_askOfMark_0 33 rfl
theorem dX1_askOfMark_66 : decode cX1_askOfMark 66 = .ok (.putfield 71, 3) := zDec_at zB_dX1_askOfMark_0 34 rfl
theorem dX1_askOfMark_69 : decode cX1_askOfMark 69 = .ok (.return_, 1) := zDec_at zB_dX1_askOfMark_0 35 rfl
theorem zB_dX1_awayWithin_0 : zDecB cX1_awayWithin [(0, .aload_n 0, 1), (1, .getfield 22, 3), (4, .iload_n 2, 1), (5, .iconst 1, 1), (6, .iadd, 1), (7, .iaload, 1), (8, .aload_n 0, 1), (9, .getfield 22, 3), (12, .iconst 0, 1), (13, .iload_n 1, 1), (14, .invokestatic 161, 3), (17, .iaload, 1), (18, .isub, 1), (19, .ireturn, 1)] = true := by decide +kernel
theorem dX1_awayWithin_0 : decode cX1_awayWithin 0 = .ok (.aload_n 0, 1) := zDec_at zB_dX1_awayWithin_0 0 rfl
theorem dX1_awayWithin_1 : decode cX1_awayWithin 1 = .ok (.getfield 22, 3) := zDec_at zB_dX1_awayWithin_0 1 rfl
theorem dX1_awayWithin_4 : decode cX1_awayWithin 4 = .ok (.iload_n 2, 1) := zDec_at zB_dX1_awayWithin_0 2 rfl
theorem dX1_awayWithin_5 : decode cX1_awayWithin 5 = .ok (.iconst 1, 1) := zDec_at zB_dX1_awayWithin_0 3 rfl
theorem dX1_awayWithin_6 : decode cX1_awayWithin 6 = .ok (.iadd, 1) := zDec_at zB_dX1_awayWithin_0 4 rfl
theorem dX1_awayWithin_7 : decode cX1_awayWithin 7 = .ok (.iaload, 1) := zDec_at zB_dX1_awayWithin_0 5 rfl
theorem dX1_awayWithin_8 : decode cX1_awayWithin 8 = .ok (.aload_n 0, 1) := zDec_at zB_dX1_awayWithin_0 6 rfl
theorem dX1_awayWithin_9 : decode cX1_awayWithin 9 = .ok (.getfield 22, 3) := zDec_at zB_dX1_awayWithin_0 7 rfl
theorem dX1_awayWithin_12 : decode cX1_awayWithin 12 = .ok (.iconst 0, 1) := zDec_at zB_dX1_awayWithin_0 8 rfl
theorem dX1_awayWithin_13 : decode cX1_awayWithin 13 = .ok (.iload_n 1, 1) := zDec_at zB_dX1_awayWithin_0 9 rfl
theorem dX1_awayWithin_14 : decode cX1_awayWithin 14 = .ok (.invokestatic 161, 3) := zDec_at zB_dX1_awayWithin_0 10 rfl
theorem dX1_awayWithin_17 : decode cX1_awayWithin 17 = .ok (.iaload, 1) := zDec_at zB_dX1_awayWithin_0 11 rfl
theorem dX1_awayWithin_18 : decode cX1_awayWithin 18 = .ok (.isub, 1) := zDec_at zB_dX1_awayWithin_0 12 rfl
theorem dX1_awayWithin_19 : decode cX1_awayWithin 19 = .ok (.ireturn, 1) := zDec_at zB_dX1_awayWithin_0 13 rfl
theorem zB_dX1_clauseThatCounts_0 : zDecB cX1_clauseThatCounts [(0, .aload_n 0, 1), (1, .getfield 90, 3), (4, .iconst (-1), 1), (5, .if_icmp .ne 7, 3), (8, .iconst (-1), 1), (9, .goto 15, 3), (12, .aload_n 0, 1), (13, .getfield 90, 3), (16, .bipush 12, 2), (18, .imul, 1), (19, .aload_n 0, 1), (20, .getfield 93, 3), (23, .iadd, 1), (24, .ireturn, 1)] = true := by decide +kernel
theorem dX1_clauseThatCounts_0 : decode cX1_clauseThatCounts 0 = .ok (.aload_n 0, 1) := zDec_at zB_dX1_clauseThatCounts_0 0 rfl
theorem dX1_clauseThatCounts_1 : decode cX1_clauseThatCounts 1 = .ok (.getfield 90, 3) := zDec_at zB_dX1_clauseThatCounts_0 1 rfl
theorem dX1_clauseThatCounts_4 : decode cX1_clauseThatCounts 4 = .ok (.iconst (-1), 1) := zDec_at zB_dX1_clauseThatCounts_0 2 rfl
theorem dX1_clauseThatCounts_5 : decode cX1_clauseThatCounts 5 = .ok (.if_icmp .ne 7, 3) := zDec_at zB_dX1_clauseThatCounts_0 3 rfl
theorem dX1_clauseThatCounts_8 : decode cX1_clauseThatCounts 8 = .ok (.iconst (-1), 1) := zDec_at zB_dX1_clauseThatCounts_0 4 rfl
theorem dX1_clauseThatCounts_9 : decode cX1_clauseThatCounts 9 = .ok (.goto 15, 3) := zDec_at zB_dX1_clauseThatCounts_0 5 rfl
theorem dX1_clauseThatCounts_12 : decode cX1_clauseThatCounts 12 = .ok (.aload_n 0, 1) := zDec_at zB_dX1_clauseThatCounts_0 6 rfl
theorem dX1_clauseThatCounts_13 : decode cX1_clauseThatCounts 13 = .ok (.getfield 90, 3) := zDec_at zB_dX1_clauseThatCounts_0 7 rfl
theorem dX1_clauseThatCounts_16 : decode cX1_clauseThatCounts 16 = .ok (.bipush 12, 2) := zDec_at zB_dX1_clauseThatCounts_0 8 rfl
theorem dX1_clauseThatCounts_18 : decode cX1_clauseThatCounts 18 = .ok (.imul, 1) := zDec_at zB_dX1_clauseThatCounts_0 9 rfl
theorem dX1_clauseThatCounts_19 : decode cX1_clauseThatCounts 19 = .ok (.aload_n 0, 1) := zDec_at zB_dX1_clauseThatCounts_0 10 rfl
theorem dX1_clauseThatCounts_20 : decode cX1_clauseThatCounts 20 = .ok (.getfield 93, 3) := zDec_at zB_dX1_clauseThatCounts_0 11 rfl
theorem dX1_clauseThatCounts_23 : decode cX1_clauseThatCounts 23 = .ok (.iadd, 1) := zDec_at zB_dX1_clauseThatCounts_0 12 rfl
theorem dX1_clauseThatCounts_24 : decode cX1_clauseThatCounts 24 = .ok (.ireturn, 1) := zDec_at zB_dX1_clauseThatCounts_0 13 rfl
theorem zB_dX1_countChangedKinds_0 : zDecB cX1_countChangedKinds [(0, .iconst 0, 1), (1, .istore_n 2, 1), (2, .iconst 0, 1), (3, .istore_n 3, 1), (4, .iload_n 3, 1), (5, .aload_n 0, 1), (6, .getfield 34, 3), (9, .getfield 38, 3), (12, .getfield 196, 3), (15, .if_icmp .ge 37, 3), (18, .aload_n 0, 1), (19, .getfield 19, 3), (22, .iload_n 3, 1), (23, .iaload, 1), (24, .iconst (-1), 1), (25, .if_icmp .eq 21, 3), (28, .aload_n 0, 1), (29, .getfield 19, 3), (32, .iload_n 3, 1), (33, .iaload, 1), (34, .aload_n 0, 1), (35, .iload_n 3, 1), (36, .iload_n 1, 1), (37, .invokevirtual 201, 3), (40, .if_icmp .eq 6, 3), (43, .iinc 2 1, 3), (46, .iinc 3 1, 3), (49, .goto (-45), 3), (52, .iload_n 2, 1), (53, .ireturn, 1)] = true := by decide +kernel
theorem dX1_countChangedKinds_0 : decode cX1_countChangedKinds 0 = .ok (.iconst 0, 1) := zDec_at zB_dX1_countChangedKinds_0 0 rfl
theorem dX1_countChangedKinds_1 : decode cX1_countChangedKinds 1 = .ok (.istore_n 2, 1) := zDec_at zB_dX1_countChangedKinds_0 1 rfl
theorem dX1_countChangedKinds_2 : decode cX1_countChangedKinds 2 = .ok (.iconst 0, 1) := zDec_at zB_dX1_countChangedKinds_0 2 rfl
theorem dX1_countChangedKinds_3 : decode cX1_countChangedKinds 3 = .ok (.istore_n 3, 1) := zDec_at zB_dX1_countChangedKinds_0 3 rfl
theorem dX1_countChangedKinds_4 : decode cX1_countChangedKinds 4 = .ok (.iload_n 3, 1) := zDec_at zB_dX1_countChangedKinds_0 4 rfl
theorem dX1_countChangedKinds_5 : decode cX1_countChangedKinds 5 = .ok (.aload_n 0, 1) := zDec_at zB_dX1_countChangedKinds_0 5 rfl
theorem dX1_countChangedKinds_6 : decode cX1_countChangedKinds 6 = .ok (.getfield 34, 3) := zDec_at zB_dX1_countChangedKinds_0 6 rfl
theorem dX1_countChangedKinds_9 : decode cX1_countChangedKinds 9 = .ok (.getfield 38, 3) := zDec_at zB_dX1_countChangedKinds_0 7 rfl
theorem dX1_countChangedKinds_12 : decode cX1_countChangedKinds 12 = .ok (.getfield 196, 3) := zDec_at zB_dX1_countChangedKinds_0 8 rfl
theorem dX1_countChangedKinds_15 : decode cX1_countChangedKinds 15 = .ok (.if_icmp .ge 37, 3) := zDec_at zB_dX1_countChangedKinds_0 9 rfl
theorem dX1_countChangedKinds_18 : decode cX1_countChangedKinds 18 = .ok (.aload_n 0, 1) := zDec_at zB_dX1_countChangedKinds_0 10 rfl
theorem dX1_countChangedKinds_19 : decode cX1_countChangedKinds 19 = .ok (.getfield 19, 3) := zDec_at zB_dX1_countChangedKinds_0 11 rfl
theorem dX1_countChangedKinds_22 : decode cX1_countChangedKinds 22 = .ok (.iload_n 3, 1) := zDec_at zB_dX1_countChangedKinds_0 12 rfl
theorem dX1_countChangedKinds_23 : decode cX1_countChangedKinds 23 = .ok (.iaload, 1) := zDec_at zB_dX1_countChangedKinds_0 13 rfl
theorem dX1_countChangedKinds_24 : decode cX1_countChangedKinds 24 = .ok (.iconst (-1), 1) := zDec_at zB_dX1_countChangedKinds_0 14 rfl
theorem dX1_countChangedKinds_25 : decode cX1_countChangedKinds 25 = .ok (.if_icmp .eq 21, 3) := zDec_at zB_dX1_countChangedKinds_0 15 rfl
theorem dX1_countChangedKinds_28 : decode cX1_countChangedKinds 28 = .ok (.aload_n 0, 1) := zDec_at zB_dX1_countChangedKinds_0 16 rfl
theorem dX1_countChangedKinds_29 : decode cX1_countChangedKinds 29 = .ok (.getfield 19, 3) := zDec_at zB_dX1_countChangedKinds_0 17 rfl
theorem dX1_countChangedKinds_32 : decode cX1_countChangedKinds 32 = .ok (.iload_n 3, 1) := zDec_at zB_dX1_countChangedKinds_0 18 rfl
theorem dX1_countChangedKinds_33 : decode cX1_countChangedKinds 33 = .ok (.iaload, 1) := zDec_at zB_dX1_countChangedKinds_0 19 rfl
theorem dX1_countChangedKinds_34 : decode cX1_countChangedKinds 34 = .ok (.aload_n 0, 1) := zDec_at zB_dX1_countChangedKinds_0 20 rfl
theorem dX1_countChangedKinds_35 : decode cX1_countChangedKinds 35 = .ok (.iload_n 3, 1) := zDec_at zB_dX1_countChangedKinds_0 21 rfl
theorem dX1_countChangedKinds_36 : decode cX1_countChangedKinds 36 = .ok (.iload_n 1, 1) := zDec_at zB_dX1_countChangedKinds_0 22 rfl
theorem dX1_countChangedKinds_37 : decode cX1_countChangedKinds 37 = .ok (.invokevirtual 201, 3) := zDec_at zB_dX1_countChangedKinds_0 23 rfl
theorem dX1_countChangedKinds_40 : decode cX1_countChangedKinds 40 = .ok (.if_icmp .eq 6, 3) := zDec_at zB_dX1_countChangedKinds_0 24 rfl
theorem dX1_countChangedKinds_43 : decode cX1_countChangedKinds 43 = .ok (.iinc 2 1, 3) := zDec_at zB_dX1_countChangedKinds_0 25 rfl
theorem dX1_countChangedKinds_46 : decode cX1_countChangedKinds 46 = .ok (.iinc 3 1, 3) := zDec_at zB_dX1_countChangedKinds_0 26 rfl
theorem dX1_countChangedKinds_49 : decode cX1_countChangedKinds 49 = .ok (.goto (-45), 3) := zDec_at zB_dX1_countChangedKinds_0 27 rfl
theorem dX1_countChangedKinds_52 : decode cX1_countChangedKinds 52 = .ok (.iload_n 2, 1) := zDec_at zB_dX1_countChangedKinds_0 28 rfl
theorem dX1_countChangedKinds_53 : decode cX1_countChangedKinds 53 = .ok (.ireturn, 1) := zDec_at zB_dX1_countChangedKinds_0 29 rfl
theorem zB_dX1_countSessions_0 : zDecB cX1_countSessions [(0, .aload_n 0, 1), (1, .getfield 34, 3), (4, .getfield 38, 3), (7, .astore 6, 2), (9, .aload_n 0, 1), (10, .iconst 0, 1), (11, .putfield 224, 3), (14, .aload_n 0, 1), (15, .iconst 0, 1), (16, .putfield 227, 3), (19, .iconst 0, 1), (20, .istore 7, 2), (22, .iload 7, 2), (24, .aload 6, 2), (26, .getfield 196, 3), (29, .if_icmp .ge 122, 3), (32, .iload_n 1, 1), (33, .iconst (-1), 1), (34, .if_icmp .eq 15, 3), (37, .aload 6, 2), (39, .getfield 65, 3), (42, .iload 7, 2), (44, .iaload, 1), (45, .iload_n 1, 1), (46, .if_icmp .ne 99, 3), (49, .iload_n 2, 1), (50, .iconst (-1), 1), (51, .if_icmp .eq 15, 3), (54, .aload 6, 2), (56, .getfield 44, 3), (59, .iload 7, 2), (61, .iaload, 1), (62, .iload_n 2, 1), (63, .if_icmp .ne 82, 3), (66, .aload 6, 2), (68, .getfield 53, 3), (71, .iload 7, 2), (73, .iaload, 1), (74, .iload_n 3, 1), (75, .iload 4, 2)] = true := by decide +kernel
theorem dX1_countSessions_0 : decode cX1_countSessions 0 = .ok (.aload_n 0, 1) := zDec_at zB_dX1_countSessions_0 0 rfl
theorem dX1_countSessions_1 : decode cX1_countSessions 1 = .ok (.getfield 34, 3) := zDec_at zB_dX1_countSessions_0 1 rfl
theorem dX1_countSessions_4 : decode cX1_countSessions 4 = .ok (.getfield 38, 3) := zDec_at zB_dX1_countSessions_0 2 rfl
theorem dX1_countSessions_7 : decode cX1_countSessions 7 = .ok (.astore 6, 2) := zDec_at zB_dX1_countSessions_0 3 rfl
theorem dX1_countSessions_9 : decode cX1_countSessions 9 = .ok (.aload_n 0, 1) := zDec_at zB_dX1_countSessions_0 4 rfl
theorem dX1_countSessions_10 : decode cX1_countSessions 10 = .ok (.iconst 0, 1) := zDec_at zB_dX1_countSessions_0 5 rfl
theorem dX1_countSessions_11 : decode cX1_countSessions 11 = .ok (.putfield 224, 3) := zDec_at zB_dX1_countSessions_0 6 rfl
theorem dX1_countSessions_14 : decode cX1_countSessions 14 = .ok (.aload_n 0, 1) := zDec_at zB_dX1_countSessions_0 7 rfl
theorem dX1_countSessions_15 : decode cX1_countSessions 15 = .ok (.iconst 0, 1) := zDec_at zB_dX1_countSessions_0 8 rfl
theorem dX1_countSessions_16 : decode cX1_countSessions 16 = .ok (.putfield 227, 3) := zDec_at zB_dX1_countSessions_0 9 rfl
theorem dX1_countSessions_19 : decode cX1_countSessions 19 = .ok (.iconst 0, 1) := zDec_at zB_dX1_countSessions_0 10 rfl
theorem dX1_countSessions_20 : decode cX1_countSessions 20 = .ok (.istore 7, 2) := zDec_at zB_dX1_countSessions_0 11 rfl
theorem dX1_countSessions_22 : decode cX1_countSessions 22 = .ok (.iload 7, 2) := zDec_at zB_dX1_countSessions_0 12 rfl
theorem dX1_countSessions_24 : decode cX1_countSessions 24 = .ok (.aload 6, 2) := zDec_at zB_dX1_countSessions_0 13 rfl
theorem dX1_countSessions_26 : decode cX1_countSessions 26 = .ok (.getfield 196, 3) := zDec_at zB_dX1_countSessions_0 14 rfl
theorem dX1_countSessions_29 : decode cX1_countSessions 29 = .ok (.if_icmp .ge 122, 3) := zDec_at zB_dX1_countSessions_0 15 rfl
theorem dX1_countSessions_32 : decode cX1_countSessions 32 = .ok (.iload_n 1, 1) := zDec_at zB_dX1_countSessions_0 16 rfl
theorem dX1_countSessions_33 : decode cX1_countSessions 33 = .ok (.iconst (-1), 1) := zDec_at zB_dX1_countSessions_0 17 rfl
theorem dX1_countSessions_34 : decode cX1_countSessions 34 = .ok (.if_icmp .eq 15, 3) := zDec_at zB_dX1_countSessions_0 18 rfl
theorem dX1_countSessions_37 : decode cX1_countSessions 37 = .ok (.aload 6, 2) := zDec_at zB_dX1_countSessions_0 19 rfl
theorem dX1_countSessions_39 : decode cX1_countSessions 39 = .ok (.getfield 65, 3) := zDec_at zB_dX1_countSessions_0 20 rfl
theorem dX1_countSessions_42 : decode cX1_countSessions 42 = .ok (.iload 7, 2) := zDec_at zB_dX1_countSessions_0 21 rfl
theorem dX1_countSessions_44 : decode cX1_countSessions 44 = .ok (.iaload, 1) := zDec_at zB_dX1_countSessions_0 22 rfl
theorem dX1_countSessions_45 : decode cX1_countSessions 45 = .ok (.iload_n 1, 1) := zDec_at zB_dX1_countSessions_0 23 rfl
theorem dX1_countSessions_46 : decode cX1_countSessions 46 = .ok (.if_icmp .ne 99, 3) := zDec_at zB_dX1_countSessions_0 24 rfl
theorem dX1_countSessions_49 : decode cX1_countSessions 49 = .ok (.iload_n 2, 1) := zDec_at zB_dX1_countSessions_0 25 rfl
theorem dX1_countSessions_50 : decode cX1_countSessions 50 = .ok (.iconst (-1), 1) := zDec_at zB_dX1_countSessions_0 26 rfl
theorem dX1_countSessions_51 : decode cX1_countSessions 51 = .ok (.if_icmp .eq 15, 3) := zDec_at zB_dX1_countSessions_0 27 rfl
theorem dX1_countSessions_54 : decode cX1_countSessions 54 = .ok (.aload 6, 2) := zDec_at zB_dX1_countSessions_0 28 rfl
theorem dX1_countSessions_56 : decode cX1_countSessions 56 = .ok (.getfield 44, 3) := zDec_at zB_dX1_countSessions_0 29 rfl
theorem dX1_countSessions_59 : decode cX1_countSessions 59 = .ok (.iload 7, 2) := zDec_at zB_dX1_countSessions_0 30 rfl
theorem dX1_countSessions_61 : decode cX1_countSessions 61 = .ok (.iaload, 1) := zDec_at zB_dX1_countSessions_0 31 rfl
theorem dX1_countSessions_62 : decode cX1_countSessions 62 = .ok (.iload_n 2, 1) := zDec_at zB_dX1_countSessions_0 32 rfl
theorem dX1_countSessions_63 : decode cX1_countSessions 63 = .ok (.if_icmp .ne 82, 3) := zDec_at zB_dX1_countSessions_0 33 rfl
theorem dX1_countSessions_66 : decode cX1_countSessions 66 = .ok (.aload 6, 2) := zDec_at zB_dX1_countSessions_0 34 rfl
theorem dX1_countSessions_68 : decode cX1_countSessions 68 = .ok (.getfield 53, 3) := zDec_at zB_dX1_countSessions_0 35 rfl
theorem dX1_countSessions_71 : decode cX1_countSessions 71 = .ok (.iload 7, 2) := zDec_at zB_dX1_countSessions_0 36 rfl
theorem dX1_countSessions_73 : decode cX1_countSessions 73 = .ok (.iaload, 1) := zDec_at zB_dX1_countSessions_0 37 rfl
theorem dX1_countSessions_74 : decode cX1_countSessions 74 = .ok (.iload_n 3, 1) := zDec_at zB_dX1_countSessions_0 38 rfl
theorem dX1_countSessions_75 : decode cX1_countSessions 75 = .ok (.iload 4, 2) := zDec_at zB_dX1_countSessions_0 39 rfl
theorem zB_dX1_countSessions_77 : zDecB cX1_countSessions [(77, .invokestatic 138, 3), (80, .ifCond .ne 65, 3), (83, .aload 6, 2), (85, .iload 7, 2), (87, .iload 5, 2), (89, .invokevirtual 198, 3), (92, .ifCond .eq 53, 3), (95, .aload_n 0, 1), (96, .iload 7, 2), (98, .iload 5, 2), (100, .invokevirtual 201, 3), (103, .istore 8, 2), (105, .aload_n 0, 1), (106, .dup, 1), (107, .getfield 227, 3), (110, .iload 8, 2), (112, .iconst 3, 1), (113, .if_icmp .ne 7, 3), (116, .iconst 1, 1), (117, .goto 4, 3), (120, .iconst 0, 1), (121, .iadd, 1), (122, .putfield 227, 3), (125, .aload_n 0, 1), (126, .dup, 1), (127, .getfield 224, 3), (130, .iload 8, 2), (132, .iconst 4, 1), (133, .if_icmp .ne 7, 3), (136, .iconst 0, 1), (137, .goto 4, 3), (140, .iconst 1, 1), (141, .iadd, 1), (142, .putfield 224, 3), (145, .iinc 7 1, 3), (148, .goto (-126), 3), (151, .return_, 1)] = true := by decide +kernel
theorem dX1_countSessions_77 : decode cX1_countSessions 77 = .ok (.invokestatic 138, 3) := zDec_at zB_dX1_countSessions_77 0 rfl
theorem dX1_countSessions_80 : decode cX1_countSessions 80 = .ok (.ifCond .ne 65, 3) := zDec_at zB_dX1_countSessions_77 1 rfl
theorem dX1_countSessions_83 : decode cX1_countSessions 83 = .ok (.aload 6, 2) := zDec_at zB_dX1_countSessions_77 2 rfl
theorem dX1_countSessions_85 : decode cX1_countSessions 85 = .ok (.iload 7, 2) := zDec_at zB_dX1_countSessions_77 3 rfl
theorem dX1_countSessions_87 : decode cX1_countSessions 87 = .ok (.iload 5, 2) := zDec_at zB_dX1_countSessions_77 4 rfl
theorem dX1_countSessions_89 : decode cX1_countSessions 89 = .ok (.invokevirtual 198, 3) := zDec_at zB_dX1_countSessions_77 5 rfl
theorem dX1_countSessions_92 : decode cX1_countSessions 92 = .ok (.ifCond .eq 53, 3) := zDec_at zB_dX1_countSessions_77 6 rfl
theorem dX1_countSessions_95 : decode cX1_countSessions 95 = .ok (.aload_n 0, 1) := zDec_at zB_dX1_countSessions_77 7 rfl
theorem dX1_countSessions_96 : decode cX1_countSessions 96 = .ok (.iload 7, 2) := zDec_at zB_dX1_countSessions_77 8 rfl
theorem dX1_countSessions_98 : decode cX1_countSessions 98 = .ok (.iload 5, 2) := zDec_at zB_dX1_countSessions_77 9 rfl
theorem dX1_countSessions_100 : decode cX1_countSessions 100 = .ok (.invokevirtual 201, 3) := zDec_at zB_dX1_countSessions_77 10 rfl
theorem dX1_countSessions_103 : decode cX1_countSessions 103 = .ok (.istore 8, 2) := zDec_at zB_dX1_countSessions_77 11 rfl
theorem dX1_countSessions_105 : decode cX1_countSessions 105 = .ok (.aload_n 0, 1) := zDec_at zB_dX1_countSessions_77 12 rfl
theorem dX1_countSessions_106 : decode cX1_countSessions 106 = .ok (.dup, 1) := zDec_at zB_dX1_countSessions_77 13 rfl
theorem dX1_countSessions_107 : decode cX1_countSessions 107 = .ok (.getfield 227, 3) := zDec_at zB_dX1_countSessions_77 14 rfl
theorem dX1_countSessions_110 : decode cX1_countSessions 110 = .ok (.iload 8, 2) := zDec_at zB_dX1_countSessions_77 15 rfl
theorem dX1_countSessions_112 : decode cX1_countSessions 112 = .ok (.iconst 3, 1) := zDec_at zB_dX1_countSessions_77 16 rfl
theorem dX1_countSessions_113 : decode cX1_countSessions 113 = .ok (.if_icmp .ne 7, 3) := zDec_at zB_dX1_countSessions_77 17 rfl
theorem dX1_countSessions_116 : decode cX1_countSessions 116 = .ok (.iconst 1, 1) := zDec_at zB_dX1_countSessions_77 18 rfl
theorem dX1_countSessions_117 : decode cX1_countSessions 117 = .ok (.goto 4, 3) := zDec_at zB_dX1_countSessions_77 19 rfl
theorem dX1_countSessions_120 : decode cX1_countSessions 120 = .ok (.iconst 0, 1) := zDec_at zB_dX1_countSessions_77 20 rfl
theorem dX1_countSessions_121 : decode cX1_countSessions 121 = .ok (.iadd, 1) := zDec_at zB_dX1_countSessions_77 21 rfl
theorem dX1_countSessions_122 : decode cX1_countSessions 122 = .ok (.putfield 227, 3) := zDec_at zB_dX1_countSessions_77 22 rfl
theorem dX1_countSessions_125 : decode cX1_countSessions 125 = .ok (.aload_n 0, 1) := zDec_at zB_dX1_countSessions_77 23 rfl
theorem dX1_countSessions_126 : decode cX1_countSessions 126 = .ok (.dup, 1) := zDec_at zB_dX1_countSessions_77 24 rfl
theorem dX1_countSessions_127 : decode cX1_countSessions 127 = .ok (.getfield 224, 3) := zDec_at zB_dX1_countSessions_77 25 rfl
theorem dX1_countSessions_130 : decode cX1_countSessions 130 = .ok (.iload 8, 2) := zDec_at zB_dX1_countSessions_77 26 rfl
theorem dX1_countSessions_132 : decode cX1_countSessions 132 = .ok (.iconst 4, 1) := zDec_at zB_dX1_countSessions_77 27 rfl
theorem dX1_countSessions_133 : decode cX1_countSessions 133 = .ok (.if_icmp .ne 7, 3) := zDec_at zB_dX1_countSessions_77 28 rfl
theorem dX1_countSessions_136 : decode cX1_countSessions 136 = .ok (.iconst 0, 1) := zDec_at zB_dX1_countSessions_77 29 rfl
theorem dX1_countSessions_137 : decode cX1_countSessions 137 = .ok (.goto 4, 3) := zDec_at zB_dX1_countSessions_77 30 rfl
theorem dX1_countSessions_140 : decode cX1_countSessions 140 = .ok (.iconst 1, 1) := zDec_at zB_dX1_countSessions_77 31 rfl
theorem dX1_countSessions_141 : decode cX1_countSessions 141 = .ok (.iadd, 1) := zDec_at zB_dX1_countSessions_77 32 rfl
theorem dX1_countSessions_142 : decode cX1_countSessions 142 = .ok (.putfield 224, 3) := zDec_at zB_dX1_countSessions_77 33 rfl
theorem dX1_countSessions_145 : decode cX1_countSessions 145 = .ok (.iinc 7 1, 3) := zDec_at zB_dX1_countSessions_77 34 rfl
theorem dX1_countSessions_148 : decode cX1_countSessions 148 = .ok (.goto (-126), 3) := zDec_at zB_dX1_countSessions_77 35 rfl
theorem dX1_countSessions_151 : decode cX1_countSessions 151 = .ok (.return_, 1) := zDec_at zB_dX1_countSessions_77 36 rfl
theorem zB_dX1_countWeek_0 : zDecB cX1_countWeek [(0, .aload_n 0, 1), (1, .getfield 34, 3), (4, .getfield 38, 3), (7, .astore_n 3, 1), (8, .aload_n 0, 1), (9, .getfield 28, 3), (12, .iconst 0, 1), (13, .invokestatic 129, 3), (16, .aload_n 0, 1), (17, .getfield 31, 3), (20, .iconst 0, 1), (21, .invokestatic 129, 3), (24, .iconst 0, 1), (25, .istore 4, 2), (27, .iload 4, 2), (29, .aload_n 3, 1), (30, .getfield 196, 3), (33, .if_icmp .ge 94, 3), (36, .aload_n 3, 1), (37, .getfield 53, 3), (40, .iload 4, 2), (42, .iaload, 1), (43, .bipush 14, 2), (45, .idiv, 1), (46, .iload_n 1, 1), (47, .if_icmp .ne 74, 3), (50, .aload_n 3, 1), (51, .iload 4, 2), (53, .iload_n 2, 1), (54, .invokevirtual 198, 3), (57, .ifCond .eq 64, 3), (60, .aload_n 0, 1), (61, .iload 4, 2), (63, .iload_n 2, 1), (64, .invokevirtual 201, 3), (67, .istore 5, 2), (69, .aload_n 0, 1), (70, .getfield 31, 3), (73, .aload_n 3, 1), (74, .getfield 65, 3)] = true := by decide +kernel
theorem dX1_countWeek_0 : decode cX1_countWeek 0 = .ok (.aload_n 0, 1) := zDec_at zB_dX1_countWeek_0 0 rfl
theorem dX1_countWeek_1 : decode cX1_countWeek 1 = .ok (.getfield 34, 3) := zDec_at zB_dX1_countWeek_0 1 rfl
theorem dX1_countWeek_4 : decode cX1_countWeek 4 = .ok (.getfield 38, 3) := zDec_at zB_dX1_countWeek_0 2 rfl
theorem dX1_countWeek_7 : decode cX1_countWeek 7 = .ok (.astore_n 3, 1) := zDec_at zB_dX1_countWeek_0 3 rfl
theorem dX1_countWeek_8 : decode cX1_countWeek 8 = .ok (.aload_n 0, 1) := zDec_at zB_dX1_countWeek_0 4 rfl
theorem dX1_countWeek_9 : decode cX1_countWeek 9 = .ok (.getfield 28, 3) := zDec_at zB_dX1_countWeek_0 5 rfl
theorem dX1_countWeek_12 : decode cX1_countWeek 12 = .ok (.iconst 0, 1) := zDec_at zB_dX1_countWeek_0 6 rfl
theorem dX1_countWeek_13 : decode cX1_countWeek 13 = .ok (.invokestatic 129, 3) := zDec_at zB_dX1_countWeek_0 7 rfl
theorem dX1_countWeek_16 : decode cX1_countWeek 16 = .ok (.aload_n 0, 1) := zDec_at zB_dX1_countWeek_0 8 rfl
theorem dX1_countWeek_17 : decode cX1_countWeek 17 = .ok (.getfield 31, 3) := zDec_at zB_dX1_countWeek_0 9 rfl
theorem dX1_countWeek_20 : decode cX1_countWeek 20 = .ok (.iconst 0, 1) := zDec_at zB_dX1_countWeek_0 10 rfl
theorem dX1_countWeek_21 : decode cX1_countWeek 21 = .ok (.invokestatic 129, 3) := zDec_at zB_dX1_countWeek_0 11 rfl
theorem dX1_countWeek_24 : decode cX1_countWeek 24 = .ok (.iconst 0, 1) := zDec_at zB_dX1_countWeek_0 12 rfl
theorem dX1_countWeek_25 : decode cX1_countWeek 25 = .ok (.istore 4, 2) := zDec_at zB_dX1_countWeek_0 13 rfl
theorem dX1_countWeek_27 : decode cX1_countWeek 27 = .ok (.iload 4, 2) := zDec_at zB_dX1_countWeek_0 14 rfl
theorem dX1_countWeek_29 : decode cX1_countWeek 29 = .ok (.aload_n 3, 1) := zDec_at zB_dX1_countWeek_0 15 rfl
theorem dX1_countWeek_30 : decode cX1_countWeek 30 = .ok (.getfield 196, 3) := zDec_at zB_dX1_countWeek_0 16 rfl
theorem dX1_countWeek_33 : decode cX1_countWeek 33 = .ok (.if_icmp .ge 94, 3) := zDec_at zB_dX1_countWeek_0 17 rfl
theorem dX1_countWeek_36 : decode cX1_countWeek 36 = .ok (.aload_n 3, 1) := zDec_at zB_dX1_countWeek_0 18 rfl
theorem dX1_countWeek_37 : decode cX1_countWeek 37 = .ok (.getfield 53, 3) := zDec_at zB_dX1_countWeek_0 19 rfl
theorem dX1_countWeek_40 : decode cX1_countWeek 40 = .ok (.iload 4, 2) := zDec_at zB_dX1_countWeek_0 20 rfl
theorem dX1_countWeek_42 : decode cX1_countWeek 42 = .ok (.iaload, 1) := zDec_at zB_dX1_countWeek_0 21 rfl
theorem dX1_countWeek_43 : decode cX1_countWeek 43 = .ok (.bipush 14, 2) := zDec_at zB_dX1_countWeek_0 22 rfl
theorem dX1_countWeek_45 : decode cX1_countWeek 45 = .ok (.idiv, 1) := zDec_at zB_dX1_countWeek_0 23 rfl
theorem dX1_countWeek_46 : decode cX1_countWeek 46 = .ok (.iload_n 1, 1) := zDec_at zB_dX1_countWeek_0 24 rfl
theorem dX1_countWeek_47 : decode cX1_countWeek 47 = .ok (.if_icmp .ne 74, 3) := zDec_at zB_dX1_countWeek_0 25 rfl
theorem dX1_countWeek_50 : decode cX1_countWeek 50 = .ok (.aload_n 3, 1) := zDec_at zB_dX1_countWeek_0 26 rfl
theorem dX1_countWeek_51 : decode cX1_countWeek 51 = .ok (.iload 4, 2) := zDec_at zB_dX1_countWeek_0 27 rfl
theorem dX1_countWeek_53 : decode cX1_countWeek 53 = .ok (.iload_n 2, 1) := zDec_at zB_dX1_countWeek_0 28 rfl
theorem dX1_countWeek_54 : decode cX1_countWeek 54 = .ok (.invokevirtual 198, 3) := zDec_at zB_dX1_countWeek_0 29 rfl
theorem dX1_countWeek_57 : decode cX1_countWeek 57 = .ok (.ifCond .eq 64, 3) := zDec_at zB_dX1_countWeek_0 30 rfl
theorem dX1_countWeek_60 : decode cX1_countWeek 60 = .ok (.aload_n 0, 1) := zDec_at zB_dX1_countWeek_0 31 rfl
theorem dX1_countWeek_61 : decode cX1_countWeek 61 = .ok (.iload 4, 2) := zDec_at zB_dX1_countWeek_0 32 rfl
theorem dX1_countWeek_63 : decode cX1_countWeek 63 = .ok (.iload_n 2, 1) := zDec_at zB_dX1_countWeek_0 33 rfl
theorem dX1_countWeek_64 : decode cX1_countWeek 64 = .ok (.invokevirtual 201, 3) := zDec_at zB_dX1_countWeek_0 34 rfl
theorem dX1_countWeek_67 : decode cX1_countWeek 67 = .ok (.istore 5, 2) := zDec_at zB_dX1_countWeek_0 35 rfl
theorem dX1_countWeek_69 : decode cX1_countWeek 69 = .ok (.aload_n 0, 1) := zDec_at zB_dX1_countWeek_0 36 rfl
theorem dX1_countWeek_70 : decode cX1_countWeek 70 = .ok (.getfield 31, 3) := zDec_at zB_dX1_countWeek_0 37 rfl
theorem dX1_countWeek_73 : decode cX1_countWeek 73 = .ok (.aload_n 3, 1) := zDec_at zB_dX1_countWeek_0 38 rfl
theorem dX1_countWeek_74 : decode cX1_countWeek 74 = .ok (.getfield 65, 3) := zDec_at zB_dX1_countWeek_0 39 rfl
theorem zB_dX1_countWeek_77 : zDecB cX1_countWeek [(77, .iload 4, 2), (79, .iaload, 1), (80, .dup2, 1), (81, .iaload, 1), (82, .iload 5, 2), (84, .iconst 3, 1), (85, .if_icmp .ne 7, 3), (88, .iconst 1, 1), (89, .goto 4, 3), (92, .iconst 0, 1), (93, .iadd, 1), (94, .iastore, 1), (95, .aload_n 0, 1), (96, .getfield 28, 3), (99, .aload_n 3, 1), (100, .getfield 65, 3), (103, .iload 4, 2), (105, .iaload, 1), (106, .dup2, 1), (107, .iaload, 1), (108, .iload 5, 2), (110, .iconst 4, 1), (111, .if_icmp .ne 7, 3), (114, .iconst 0, 1), (115, .goto 4, 3), (118, .iconst 1, 1), (119, .iadd, 1), (120, .iastore, 1), (121, .iinc 4 1, 3), (124, .goto (-97), 3), (127, .return_, 1)] = true := by decide +kernel
theorem dX1_countWeek_77 : decode cX1_countWeek 77 = .ok (.iload 4, 2) := zDec_at zB_dX1_countWeek_77 0 rfl
theorem dX1_countWeek_79 : decode cX1_countWeek 79 = .ok (.iaload, 1) := zDec_at zB_dX1_countWeek_77 1 rfl
theorem dX1_countWeek_80 : decode cX1_countWeek 80 = .ok (.dup2, 1) := zDec_at zB_dX1_countWeek_77 2 rfl
theorem dX1_countWeek_81 : decode cX1_countWeek 81 = .ok (.iaload, 1) := zDec_at zB_dX1_countWeek_77 3 rfl
theorem dX1_countWeek_82 : decode cX1_countWeek 82 = .ok (.iload 5, 2) := zDec_at zB_dX1_countWeek_77 4 rfl
theorem dX1_countWeek_84 : decode cX1_countWeek 84 = .ok (.iconst 3, 1) := zDec_at zB_dX1_countWeek_77 5 rfl
theorem dX1_countWeek_85 : decode cX1_countWeek 85 = .ok (.if_icmp .ne 7, 3) := zDec_at zB_dX1_countWeek_77 6 rfl
theorem dX1_countWeek_88 : decode cX1_countWeek 88 = .ok (.iconst 1, 1) := zDec_at zB_dX1_countWeek_77 7 rfl
theorem dX1_countWeek_89 : decode cX1_countWeek 89 = .ok (.goto 4, 3) := zDec_at zB_dX1_countWeek_77 8 rfl
theorem dX1_countWeek_92 : decode cX1_countWeek 92 = .ok (.iconst 0, 1) := zDec_at zB_dX1_countWeek_77 9 rfl
theorem dX1_countWeek_93 : decode cX1_countWeek 93 = .ok (.iadd, 1) := zDec_at zB_dX1_countWeek_77 10 rfl
theorem dX1_countWeek_94 : decode cX1_countWeek 94 = .ok (.iastore, 1) := zDec_at zB_dX1_countWeek_77 11 rfl
theorem dX1_countWeek_95 : decode cX1_countWeek 95 = .ok (.aload_n 0, 1) := zDec_at zB_dX1_countWeek_77 12 rfl
theorem dX1_countWeek_96 : decode cX1_countWeek 96 = .ok (.getfield 28, 3) := zDec_at zB_dX1_countWeek_77 13 rfl
theorem dX1_countWeek_99 : decode cX1_countWeek 99 = .ok (.aload_n 3, 1) := zDec_at zB_dX1_countWeek_77 14 rfl
theorem dX1_countWeek_100 : decode cX1_countWeek 100 = .ok (.getfield 65, 3) := zDec_at zB_dX1_countWeek_77 15 rfl
theorem dX1_countWeek_103 : decode cX1_countWeek 103 = .ok (.iload 4, 2) := zDec_at zB_dX1_countWeek_77 16 rfl
theorem dX1_countWeek_105 : decode cX1_countWeek 105 = .ok (.iaload, 1) := zDec_at zB_dX1_countWeek_77 17 rfl
theorem dX1_countWeek_106 : decode cX1_countWeek 106 = .ok (.dup2, 1) := zDec_at zB_dX1_countWeek_77 18 rfl
theorem dX1_countWeek_107 : decode cX1_countWeek 107 = .ok (.iaload, 1) := zDec_at zB_dX1_countWeek_77 19 rfl
theorem dX1_countWeek_108 : decode cX1_countWeek 108 = .ok (.iload 5, 2) := zDec_at zB_dX1_countWeek_77 20 rfl
theorem dX1_countWeek_110 : decode cX1_countWeek 110 = .ok (.iconst 4, 1) := zDec_at zB_dX1_countWeek_77 21 rfl
theorem dX1_countWeek_111 : decode cX1_countWeek 111 = .ok (.if_icmp .ne 7, 3) := zDec_at zB_dX1_countWeek_77 22 rfl
theorem dX1_countWeek_114 : decode cX1_countWeek 114 = .ok (.iconst 0, 1) := zDec_at zB_dX1_countWeek_77 23 rfl
theorem dX1_countWeek_115 : decode cX1_countWeek 115 = .ok (.goto 4, 3) := zDec_at zB_dX1_countWeek_77 24 rfl
theorem dX1_countWeek_118 : decode cX1_countWeek 118 = .ok (.iconst 1, 1) := zDec_at zB_dX1_countWeek_77 25 rfl
theorem dX1_countWeek_119 : decode cX1_countWeek 119 = .ok (.iadd, 1) := zDec_at zB_dX1_countWeek_77 26 rfl
theorem dX1_countWeek_120 : decode cX1_countWeek 120 = .ok (.iastore, 1) := zDec_at zB_dX1_countWeek_77 27 rfl
theorem dX1_countWeek_121 : decode cX1_countWeek 121 = .ok (.iinc 4 1, 3) := zDec_at zB_dX1_countWeek_77 28 rfl
theorem dX1_countWeek_124 : decode cX1_countWeek 124 = .ok (.goto (-97), 3) := zDec_at zB_dX1_countWeek_77 29 rfl
theorem dX1_countWeek_127 : decode cX1_countWeek 127 = .ok (.return_, 1) := zDec_at zB_dX1_countWeek_77 30 rfl
theorem zB_dX1_dippingSchools_0 : zDecB cX1_dippingSchools [(0, .lconst 0, 1), (1, .lstore_n 2, 1), (2, .lconst 0, 1), (3, .lstore 4, 2), (5, .iconst 0, 1), (6, .istore 6, 2), (8, .iload 6, 2), (10, .iconst 5, 1), (11, .if_icmp .ge 33, 3), (14, .lload_n 2, 1), (15, .aload_n 0, 1), (16, .getfield 28, 3), (19, .iload 6, 2), (21, .iaload, 1), (22, .i2l, 1), (23, .ladd, 1), (24, .lstore_n 2, 1), (25, .lload 4, 2), (27, .aload_n 0, 1), (28, .getfield 31, 3), (31, .iload 6, 2), (33, .iaload, 1), (34, .i2l, 1), (35, .ladd, 1), (36, .lstore 4, 2), (38, .iinc 6 1, 3), (41, .goto (-33), 3), (44, .iload_n 1, 1), (45, .i2l, 1), (46, .iload_n 1, 1), (47, .i2l, 1), (48, .lmul, 1), (49, .aload_n 0, 1), (50, .invokevirtual 236, 3), (53, .i2l, 1), (54, .lmul, 1), (55, .lstore 6, 2), (57, .iconst 0, 1), (58, .istore 8, 2), (60, .iconst 0, 1)] = true := by decide +kernel
theorem dX1_dippingSchools_0 : decode cX1_dippingSchools 0 = .ok (.lconst 0, 1) := zDec_at zB_dX1_dippingSchools_0 0 rfl
theorem dX1_dippingSchools_1 : decode cX1_dippingSchools 1 = .ok (.lstore_n 2, 1) := zDec_at zB_dX1_dippingSchools_0 1 rfl
theorem dX1_dippingSchools_2 : decode cX1_dippingSchools 2 = .ok (.lconst 0, 1) := zDec_at zB_dX1_dippingSchools_0 2 rfl
theorem dX1_dippingSchools_3 : decode cX1_dippingSchools 3 = .ok (.lstore 4, 2) := zDec_at zB_dX1_dippingSchools_0 3 rfl
theorem dX1_dippingSchools_5 : decode cX1_dippingSchools 5 = .ok (.iconst 0, 1) := zDec_at zB_dX1_dippingSchools_0 4 rfl
theorem dX1_dippingSchools_6 : decode cX1_dippingSchools 6 = .ok (.istore 6, 2) := zDec_at zB_dX1_dippingSchools_0 5 rfl
theorem dX1_dippingSchools_8 : decode cX1_dippingSchools 8 = .ok (.iload 6, 2) := zDec_at zB_dX1_dippingSchools_0 6 rfl
theorem dX1_dippingSchools_10 : decode cX1_dippingSchools 10 = .ok (.iconst 5, 1) := zDec_at zB_dX1_dippingSchools_0 7 rfl
theorem dX1_dippingSchools_11 : decode cX1_dippingSchools 11 = .ok (.if_icmp .ge 33, 3) := zDec_at zB_dX1_dippingSchools_0 8 rfl
theorem dX1_dippingSchools_14 : decode cX1_dippingSchools 14 = .ok (.lload_n 2, 1) := zDec_at zB_dX1_dippingSchools_0 9 rfl
theorem dX1_dippingSchools_15 : decode cX1_dippingSchools 15 = .ok (.aload_n 0, 1) := zDec_at zB_dX1_dippingSchools_0 10 rfl
theorem dX1_dippingSchools_16 : decode cX1_dippingSchools 16 = .ok (.getfield 28, 3) := zDec_at zB_dX1_dippingSchools_0 11 rfl
theorem dX1_dippingSchools_19 : decode cX1_dippingSchools 19 = .ok (.iload 6, 2) := zDec_at zB_dX1_dippingSchools_0 12 rfl
theorem dX1_dippingSchools_21 : decode cX1_dippingSchools 21 = .ok (.iaload, 1) := zDec_at zB_dX1_dippingSchools_0 13 rfl
theorem dX1_dippingSchools_22 : decode cX1_dippingSchools 22 = .ok (.i2l, 1) := zDec_at zB_dX1_dippingSchools_0 14 rfl
theorem dX1_dippingSchools_23 : decode cX1_dippingSchools 23 = .ok (.ladd, 1) := zDec_at zB_dX1_dippingSchools_0 15 rfl
theorem dX1_dippingSchools_24 : decode cX1_dippingSchools 24 = .ok (.lstore_n 2, 1) := zDec_at zB_dX1_dippingSchools_0 16 rfl
theorem dX1_dippingSchools_25 : decode cX1_dippingSchools 25 = .ok (.lload 4, 2) := zDec_at zB_dX1_dippingSchools_0 17 rfl
theorem dX1_dippingSchools_27 : decode cX1_dippingSchools 27 = .ok (.aload_n 0, 1) := zDec_at zB_dX1_dippingSchools_0 18 rfl
theorem dX1_dippingSchools_28 : decode cX1_dippingSchools 28 = .ok (.getfield 31, 3) := zDec_at zB_dX1_dippingSchools_0 19 rfl
theorem dX1_dippingSchools_31 : decode cX1_dippingSchools 31 = .ok (.iload 6, 2) := zDec_at zB_dX1_dippingSchools_0 20 rfl
theorem dX1_dippingSchools_33 : decode cX1_dippingSchools 33 = .ok (.iaload, 1) := zDec_at zB_dX1_dippingSchools_0 21 rfl
theorem dX1_dippingSchools_34 : decode cX1_dippingSchools 34 = .ok (.i2l, 1) := zDec_at zB_dX1_dippingSchools_0 22 rfl
theorem dX1_dippingSchools_35 : decode cX1_dippingSchools 35 = .ok (.ladd, 1) := zDec_at zB_dX1_dippingSchools_0 23 rfl
theorem dX1_dippingSchools_36 : decode cX1_dippingSchools 36 = .ok (.lstore 4, 2) := zDec_at zB_dX1_dippingSchools_0 24 rfl
theorem dX1_dippingSchools_38 : decode cX1_dippingSchools 38 = .ok (.iinc 6 1, 3) := zDec_at zB_dX1_dippingSchools_0 25 rfl
theorem dX1_dippingSchools_41 : decode cX1_dippingSchools 41 = .ok (.goto (-33), 3) := zDec_at zB_dX1_dippingSchools_0 26 rfl
theorem dX1_dippingSchools_44 : decode cX1_dippingSchools 44 = .ok (.iload_n 1, 1) := zDec_at zB_dX1_dippingSchools_0 27 rfl
theorem dX1_dippingSchools_45 : decode cX1_dippingSchools 45 = .ok (.i2l, 1) := zDec_at zB_dX1_dippingSchools_0 28 rfl
theorem dX1_dippingSchools_46 : decode cX1_dippingSchools 46 = .ok (.iload_n 1, 1) := zDec_at zB_dX1_dippingSchools_0 29 rfl
theorem dX1_dippingSchools_47 : decode cX1_dippingSchools 47 = .ok (.i2l, 1) := zDec_at zB_dX1_dippingSchools_0 30 rfl
theorem dX1_dippingSchools_48 : decode cX1_dippingSchools 48 = .ok (.lmul, 1) := zDec_at zB_dX1_dippingSchools_0 31 rfl
theorem dX1_dippingSchools_49 : decode cX1_dippingSchools 49 = .ok (.aload_n 0, 1) := zDec_at zB_dX1_dippingSchools_0 32 rfl
theorem dX1_dippingSchools_50 : decode cX1_dippingSchools 50 = .ok (.invokevirtual 236, 3) := zDec_at zB_dX1_dippingSchools_0 33 rfl
theorem dX1_dippingSchools_53 : decode cX1_dippingSchools 53 = .ok (.i2l, 1) := zDec_at zB_dX1_dippingSchools_0 34 rfl
theorem dX1_dippingSchools_54 : decode cX1_dippingSchools 54 = .ok (.lmul, 1) := zDec_at zB_dX1_dippingSchools_0 35 rfl
theorem dX1_dippingSchools_55 : decode cX1_dippingSchools 55 = .ok (.lstore 6, 2) := zDec_at zB_dX1_dippingSchools_0 36 rfl
theorem dX1_dippingSchools_57 : decode cX1_dippingSchools 57 = .ok (.iconst 0, 1) := zDec_at zB_dX1_dippingSchools_0 37 rfl
theorem dX1_dippingSchools_58 : decode cX1_dippingSchools 58 = .ok (.istore 8, 2) := zDec_at zB_dX1_dippingSchools_0 38 rfl
theorem dX1_dippingSchools_60 : decode cX1_dippingSchools 60 = .ok (.iconst 0, 1) := zDec_at zB_dX1_dippingSchools_0 39 rfl
theorem zB_dX1_dippingSchools_61 : zDecB cX1_dippingSchools [(61, .istore 9, 2), (63, .iload 9, 2), (65, .iconst 5, 1), (66, .if_icmp .ge 96, 3), (69, .aload_n 0, 1), (70, .getfield 31, 3), (73, .iload 9, 2), (75, .iaload, 1), (76, .i2l, 1), (77, .lload_n 2, 1), (78, .lmul, 1), (79, .aload_n 0, 1), (80, .getfield 28, 3), (83, .iload 9, 2), (85, .iaload, 1), (86, .i2l, 1), (87, .lload 4, 2), (89, .lmul, 1), (90, .lsub, 1), (91, .lstore 10, 2), (93, .aload_n 0, 1), (94, .getfield 28, 3), (97, .iload 9, 2), (99, .iaload, 1), (100, .i2l, 1), (101, .lload 4, 2), (103, .lmul, 1), (104, .lload_n 2, 1), (105, .aload_n 0, 1), (106, .getfield 28, 3), (109, .iload 9, 2), (111, .iaload, 1), (112, .i2l, 1), (113, .lsub, 1), (114, .lmul, 1), (115, .lload_n 2, 1), (116, .lload 4, 2), (118, .lsub, 1), (119, .lmul, 1), (120, .lstore 12, 2)] = true := by decide +kernel
theorem dX1_dippingSchools_61 : decode cX1_dippingSchools 61 = .ok (.istore 9, 2) := zDec_at zB_dX1_dippingSchools_61 0 rfl
theorem dX1_dippingSchools_63 : decode cX1_dippingSchools 63 = .ok (.iload 9, 2) := zDec_at zB_dX1_dippingSchools_61 1 rfl
theorem dX1_dippingSchools_65 : decode cX1_dippingSchools 65 = .ok (.iconst 5, 1) := zDec_at zB_dX1_dippingSchools_61 2 rfl
theorem dX1_dippingSchools_66 : decode cX1_dippingSchools 66 = .ok (.if_icmp .ge 96, 3) := zDec_at zB_dX1_dippingSchools_61 3 rfl
theorem dX1_dippingSchools_69 : decode cX1_dippingSchools 69 = .ok (.aload_n 0, 1) := zDec_at zB_dX1_dippingSchools_61 4 rfl
theorem dX1_dippingSchools_70 : decode cX1_dippingSchools 70 = .ok (.getfield 31, 3) := zDec_at zB_dX1_dippingSchools_61 5 rfl
theorem dX1_dippingSchools_73 : decode cX1_dippingSchools 73 = .ok (.iload 9, 2) := zDec_at zB_dX1_dippingSchools_61 6 rfl
theorem dX1_dippingSchools_75 : decode cX1_dippingSchools 75 = .ok (.iaload, 1) := zDec_at zB_dX1_dippingSchools_61 7 rfl
theorem dX1_dippingSchools_76 : decode cX1_dippingSchools 76 = .ok (.i2l, 1) := zDec_at zB_dX1_dippingSchools_61 8 rfl
theorem dX1_dippingSchools_77 : decode cX1_dippingSchools 77 = .ok (.lload_n 2, 1) := zDec_at zB_dX1_dippingSchools_61 9 rfl
theorem dX1_dippingSchools_78 : decode cX1_dippingSchools 78 = .ok (.lmul, 1) := zDec_at zB_dX1_dippingSchools_61 10 rfl
theorem dX1_dippingSchools_79 : decode cX1_dippingSchools 79 = .ok (.aload_n 0, 1) := zDec_at zB_dX1_dippingSchools_61 11 rfl
theorem dX1_dippingSchools_80 : decode cX1_dippingSchools 80 = .ok (.getfield 28, 3) := zDec_at zB_dX1_dippingSchools_61 12 rfl
theorem dX1_dippingSchools_83 : decode cX1_dippingSchools 83 = .ok (.iload 9, 2) := zDec_at zB_dX1_dippingSchools_61 13 rfl
theorem dX1_dippingSchools_85 : decode cX1_dippingSchools 85 = .ok (.iaload, 1) := zDec_at zB_dX1_dippingSchools_61 14 rfl
theorem dX1_dippingSchools_86 : decode cX1_dippingSchools 86 = .ok (.i2l, 1) := zDec_at zB_dX1_dippingSchools_61 15 rfl
theorem dX1_dippingSchools_87 : decode cX1_dippingSchools 87 = .ok (.lload 4, 2) := zDec_at zB_dX1_dippingSchools_61 16 rfl
theorem dX1_dippingSchools_89 : decode cX1_dippingSchools 89 = .ok (.lmul, 1) := zDec_at zB_dX1_dippingSchools_61 17 rfl
theorem dX1_dippingSchools_90 : decode cX1_dippingSchools 90 = .ok (.lsub, 1) := zDec_at zB_dX1_dippingSchools_61 18 rfl
theorem dX1_dippingSchools_91 : decode cX1_dippingSchools 91 = .ok (.lstore 10, 2) := zDec_at zB_dX1_dippingSchools_61 19 rfl
theorem dX1_dippingSchools_93 : decode cX1_dippingSchools 93 = .ok (.aload_n 0, 1) := zDec_at zB_dX1_dippingSchools_61 20 rfl
theorem dX1_dippingSchools_94 : decode cX1_dippingSchools 94 = .ok (.getfield 28, 3) := zDec_at zB_dX1_dippingSchools_61 21 rfl
theorem dX1_dippingSchools_97 : decode cX1_dippingSchools 97 = .ok (.iload 9, 2) := zDec_at zB_dX1_dippingSchools_61 22 rfl
theorem dX1_dippingSchools_99 : decode cX1_dippingSchools 99 = .ok (.iaload, 1) := zDec_at zB_dX1_dippingSchools_61 23 rfl
theorem dX1_dippingSchools_100 : decode cX1_dippingSchools 100 = .ok (.i2l, 1) := zDec_at zB_dX1_dippingSchools_61 24 rfl
theorem dX1_dippingSchools_101 : decode cX1_dippingSchools 101 = .ok (.lload 4, 2) := zDec_at zB_dX1_dippingSchools_61 25 rfl
theorem dX1_dippingSchools_103 : decode cX1_dippingSchools 103 = .ok (.lmul, 1) := zDec_at zB_dX1_dippingSchools_61 26 rfl
theorem dX1_dippingSchools_104 : decode cX1_dippingSchools 104 = .ok (.lload_n 2, 1) := zDec_at zB_dX1_dippingSchools_61 27 rfl
theorem dX1_dippingSchools_105 : decode cX1_dippingSchools 105 = .ok (.aload_n 0, 1) := zDec_at zB_dX1_dippingSchools_61 28 rfl
theorem dX1_dippingSchools_106 : decode cX1_dippingSchools 106 = .ok (.getfield 28, 3) := zDec_at zB_dX1_dippingSchools_61 29 rfl
theorem dX1_dippingSchools_109 : decode cX1_dippingSchools 109 = .ok (.iload 9, 2) := zDec_at zB_dX1_dippingSchools_61 30 rfl
theorem dX1_dippingSchools_111 : decode cX1_dippingSchools 111 = .ok (.iaload, 1) := zDec_at zB_dX1_dippingSchools_61 31 rfl
theorem dX1_dippingSchools_112 : decode cX1_dippingSchools 112 = .ok (.i2l, 1) := zDec_at zB_dX1_dippingSchools_61 32 rfl
theorem dX1_dippingSchools_113 : decode cX1_dippingSchools 113 = .ok (.lsub, 1) := zDec_at zB_dX1_dippingSchools_61 33 rfl
theorem dX1_dippingSchools_114 : decode cX1_dippingSchools 114 = .ok (.lmul, 1) := zDec_at zB_dX1_dippingSchools_61 34 rfl
theorem dX1_dippingSchools_115 : decode cX1_dippingSchools 115 = .ok (.lload_n 2, 1) := zDec_at zB_dX1_dippingSchools_61 35 rfl
theorem dX1_dippingSchools_116 : decode cX1_dippingSchools 116 = .ok (.lload 4, 2) := zDec_at zB_dX1_dippingSchools_61 36 rfl
theorem dX1_dippingSchools_118 : decode cX1_dippingSchools 118 = .ok (.lsub, 1) := zDec_at zB_dX1_dippingSchools_61 37 rfl
theorem dX1_dippingSchools_119 : decode cX1_dippingSchools 119 = .ok (.lmul, 1) := zDec_at zB_dX1_dippingSchools_61 38 rfl
theorem dX1_dippingSchools_120 : decode cX1_dippingSchools 120 = .ok (.lstore 12, 2) := zDec_at zB_dX1_dippingSchools_61 39 rfl
theorem zB_dX1_dippingSchools_122 : zDecB cX1_dippingSchools [(122, .lload 10, 2), (124, .lconst 0, 1), (125, .lcmp, 1), (126, .ifCond .le 30, 3), (129, .lload 10, 2), (131, .lload 10, 2), (133, .lmul, 1), (134, .lload_n 2, 1), (135, .lconst 1, 1), (136, .lsub, 1), (137, .lmul, 1), (138, .lload 6, 2), (140, .lload 12, 2), (142, .lmul, 1), (143, .lcmp, 1), (144, .ifCond .le 12, 3), (147, .iload 8, 2), (149, .iconst 1, 1), (150, .iload 9, 2), (152, .ishl, 1), (153, .ior, 1), (154, .istore 8, 2), (156, .iinc 9 1, 3), (159, .goto (-96), 3), (162, .iload 8, 2), (164, .ireturn, 1)] = true := by decide +kernel
theorem dX1_dippingSchools_122 : decode cX1_dippingSchools 122 = .ok (.lload 10, 2) := zDec_at zB_dX1_dippingSchools_122 0 rfl
theorem dX1_dippingSchools_124 : decode cX1_dippingSchools 124 = .ok (.lconst 0, 1) := zDec_at zB_dX1_dippingSchools_122 1 rfl
theorem dX1_dippingSchools_125 : decode cX1_dippingSchools 125 = .ok (.lcmp, 1) := zDec_at zB_dX1_dippingSchools_122 2 rfl
theorem dX1_dippingSchools_126 : decode cX1_dippingSchools 126 = .ok (.ifCond .le 30, 3) := zDec_at zB_dX1_dippingSchools_122 3 rfl
theorem dX1_dippingSchools_129 : decode cX1_dippingSchools 129 = .ok (.lload 10, 2) := zDec_at zB_dX1_dippingSchools_122 4 rfl
theorem dX1_dippingSchools_131 : decode cX1_dippingSchools 131 = .ok (.lload 10, 2) := zDec_at zB_dX1_dippingSchools_122 5 rfl
theorem dX1_dippingSchools_133 : decode cX1_dippingSchools 133 = .ok (.lmul, 1) := zDec_at zB_dX1_dippingSchools_122 6 rfl
theorem dX1_dippingSchools_134 : decode cX1_dippingSchools 134 = .ok (.lload_n 2, 1) := zDec_at zB_dX1_dippingSchools_122 7 rfl
theorem dX1_dippingSchools_135 : decode cX1_dippingSchools 135 = .ok (.lconst 1, 1) := zDec_at zB_dX1_dippingSchools_122 8 rfl
theorem dX1_dippingSchools_136 : decode cX1_dippingSchools 136 = .ok (.lsub, 1) := zDec_at zB_dX1_dippingSchools_122 9 rfl
theorem dX1_dippingSchools_137 : decode cX1_dippingSchools 137 = .ok (.lmul, 1) := zDec_at zB_dX1_dippingSchools_122 10 rfl
theorem dX1_dippingSchools_138 : decode cX1_dippingSchools 138 = .ok (.lload 6, 2) := zDec_at zB_dX1_dippingSchools_122 11 rfl
theorem dX1_dippingSchools_140 : decode cX1_dippingSchools 140 = .ok (.lload 12, 2) := zDec_at zB_dX1_dippingSchools_122 12 rfl
theorem dX1_dippingSchools_142 : decode cX1_dippingSchools 142 = .ok (.lmul, 1) := zDec_at zB_dX1_dippingSchools_122 13 rfl
theorem dX1_dippingSchools_143 : decode cX1_dippingSchools 143 = .ok (.lcmp, 1) := zDec_at zB_dX1_dippingSchools_122 14 rfl
theorem dX1_dippingSchools_144 : decode cX1_dippingSchools 144 = .ok (.ifCond .le 12, 3) := zDec_at zB_dX1_dippingSchools_122 15 rfl
theorem dX1_dippingSchools_147 : decode cX1_dippingSchools 147 = .ok (.iload 8, 2) := zDec_at zB_dX1_dippingSchools_122 16 rfl
theorem dX1_dippingSchools_149 : decode cX1_dippingSchools 149 = .ok (.iconst 1, 1) := zDec_at zB_dX1_dippingSchools_122 17 rfl
theorem dX1_dippingSchools_150 : decode cX1_dippingSchools 150 = .ok (.iload 9, 2) := zDec_at zB_dX1_dippingSchools_122 18 rfl
theorem dX1_dippingSchools_152 : decode cX1_dippingSchools 152 = .ok (.ishl, 1) := zDec_at zB_dX1_dippingSchools_122 19 rfl
theorem dX1_dippingSchools_153 : decode cX1_dippingSchools 153 = .ok (.ior, 1) := zDec_at zB_dX1_dippingSchools_122 20 rfl
theorem dX1_dippingSchools_154 : decode cX1_dippingSchools 154 = .ok (.istore 8, 2) := zDec_at zB_dX1_dippingSchools_122 21 rfl
theorem dX1_dippingSchools_156 : decode cX1_dippingSchools 156 = .ok (.iinc 9 1, 3) := zDec_at zB_dX1_dippingSchools_122 22 rfl
theorem dX1_dippingSchools_159 : decode cX1_dippingSchools 159 = .ok (.goto (-96), 3) := zDec_at zB_dX1_dippingSchools_122 23 rfl
theorem dX1_dippingSchools_162 : decode cX1_dippingSchools 162 = .ok (.iload 8, 2) := zDec_at zB_dX1_dippingSchools_122 24 rfl
theorem dX1_dippingSchools_164 : decode cX1_dippingSchools 164 = .ok (.ireturn, 1) := zDec_at zB_dX1_dippingSchools_122 25 rfl
theorem zB_dX1_findLastThatHolds_0 : zDecB cX1_findLastThatHolds [(0, .aload_n 0, 1), (1, .getfield 34, 3), (4, .getfield 96, 3), (7, .astore_n 2, 1), (8, .aload_n 0, 1), (9, .getfield 56, 3), (12, .iconst 2, 1), (13, .idiv, 1), (14, .istore_n 3, 1), (15, .aload_n 0, 1), (16, .iload_n 3, 1), (17, .invokevirtual 100, 3), (20, .aload_n 2, 1), (21, .getfield 103, 3), (24, .iconst 1, 1), (25, .isub, 1), (26, .istore 4, 2), (28, .iload 4, 2), (30, .ifCond .lt 121, 3), (33, .aload_n 2, 1), (34, .getfield 108, 3), (37, .iload 4, 2), (39, .aaload, 1), (40, .astore 5, 2), (42, .aload 5, 2), (44, .ifnull 101, 3), (47, .aload_n 2, 1), (48, .getfield 112, 3), (51, .iload 4, 2), (53, .iaload, 1), (54, .iload_n 3, 1), (55, .if_icmp .le 6, 3), (58, .goto 87, 3), (61, .aload 5, 2), (63, .getfield 115, 3), (66, .iconst 1, 1), (67, .isub, 1), (68, .istore 6, 2), (70, .iload 6, 2), (72, .ifCond .lt 73, 3)] = true := by decide +kernel
theorem dX1_findLastThatHolds_0 : decode cX1_findLastThatHolds 0 = .ok (.aload_n 0, 1) := zDec_at zB_dX1_findLastThatHolds_0 0 rfl
theorem dX1_findLastThatHolds_1 : decode cX1_findLastThatHolds 1 = .ok (.getfield 34, 3) := zDec_at zB_dX1_findLastThatHolds_0 1 rfl
theorem dX1_findLastThatHolds_4 : decode cX1_findLastThatHolds 4 = .ok (.getfield 96, 3) := zDec_at zB_dX1_findLastThatHolds_0 2 rfl
theorem dX1_findLastThatHolds_7 : decode cX1_findLastThatHolds 7 = .ok (.astore_n 2, 1) := zDec_at zB_dX1_findLastThatHolds_0 3 rfl
theorem dX1_findLastThatHolds_8 : decode cX1_findLastThatHolds 8 = .ok (.aload_n 0, 1) := zDec_at zB_dX1_findLastThatHolds_0 4 rfl
theorem dX1_findLastThatHolds_9 : decode cX1_findLastThatHolds 9 = .ok (.getfield 56, 3) := zDec_at zB_dX1_findLastThatHolds_0 5 rfl
theorem dX1_findLastThatHolds_12 : decode cX1_findLastThatHolds 12 = .ok (.iconst 2, 1) := zDec_at zB_dX1_findLastThatHolds_0 6 rfl
theorem dX1_findLastThatHolds_13 : decode cX1_findLastThatHolds 13 = .ok (.idiv, 1) := zDec_at zB_dX1_findLastThatHolds_0 7 rfl
theorem dX1_findLastThatHolds_14 : decode cX1_findLastThatHolds 14 = .ok (.istore_n 3, 1) := zDec_at zB_dX1_findLastThatHolds_0 8 rfl
theorem dX1_findLastThatHolds_15 : decode cX1_findLastThatHolds 15 = .ok (.aload_n 0, 1) := zDec_at zB_dX1_findLastThatHolds_0 9 rfl
theorem dX1_findLastThatHolds_16 : decode cX1_findLastThatHolds 16 = .ok (.iload_n 3, 1) := zDec_at zB_dX1_findLastThatHolds_0 10 rfl
theorem dX1_findLastThatHolds_17 : decode cX1_findLastThatHolds 17 = .ok (.invokevirtual 100, 3) := zDec_at zB_dX1_findLastThatHolds_0 11 rfl
theorem dX1_findLastThatHolds_20 : decode cX1_findLastThatHolds 20 = .ok (.aload_n 2, 1) := zDec_at zB_dX1_findLastThatHolds_0 12 rfl
theorem dX1_findLastThatHolds_21 : decode cX1_findLastThatHolds 21 = .ok (.getfield 103, 3) := zDec_at zB_dX1_findLastThatHolds_0 13 rfl
theorem dX1_findLastThatHolds_24 : decode cX1_findLastThatHolds 24 = .ok (.iconst 1, 1) := zDec_at zB_dX1_findLastThatHolds_0 14 rfl
theorem dX1_findLastThatHolds_25 : decode cX1_findLastThatHolds 25 = .ok (.isub, 1) := zDec_at zB_dX1_findLastThatHolds_0 15 rfl
theorem dX1_findLastThatHolds_26 : decode cX1_findLastThatHolds 26 = .ok (.istore 4, 2) := zDec_at zB_dX1_findLastThatHolds_0 16 rfl
theorem dX1_findLastThatHolds_28 : decode cX1_findLastThatHolds 28 = .ok (.iload 4, 2) := zDec_at zB_dX1_findLastThatHolds_0 17 rfl
theorem dX1_findLastThatHolds_30 : decode cX1_findLastThatHolds 30 = .ok (.ifCond .lt 121, 3) := zDec_at zB_dX1_findLastThatHolds_0 18 rfl
theorem dX1_findLastThatHolds_33 : decode cX1_findLastThatHolds 33 = .ok (.aload_n 2, 1) := zDec_at zB_dX1_findLastThatHolds_0 19 rfl
theorem dX1_findLastThatHolds_34 : decode cX1_findLastThatHolds 34 = .ok (.getfield 108, 3) := zDec_at zB_dX1_findLastThatHolds_0 20 rfl
theorem dX1_findLastThatHolds_37 : decode cX1_findLastThatHolds 37 = .ok (.iload 4, 2) := zDec_at zB_dX1_findLastThatHolds_0 21 rfl
theorem dX1_findLastThatHolds_39 : decode cX1_findLastThatHolds 39 = .ok (.aaload, 1) := zDec_at zB_dX1_findLastThatHolds_0 22 rfl
theorem dX1_findLastThatHolds_40 : decode cX1_findLastThatHolds 40 = .ok (.astore 5, 2) := zDec_at zB_dX1_findLastThatHolds_0 23 rfl
theorem dX1_findLastThatHolds_42 : decode cX1_findLastThatHolds 42 = .ok (.aload 5, 2) := zDec_at zB_dX1_findLastThatHolds_0 24 rfl
theorem dX1_findLastThatHolds_44 : decode cX1_findLastThatHolds 44 = .ok (.ifnull 101, 3) := zDec_at zB_dX1_findLastThatHolds_0 25 rfl
theorem dX1_findLastThatHolds_47 : decode cX1_findLastThatHolds 47 = .ok (.aload_n 2, 1) := zDec_at zB_dX1_findLastThatHolds_0 26 rfl
theorem dX1_findLastThatHolds_48 : decode cX1_findLastThatHolds 48 = .ok (.getfield 112, 3) := zDec_at zB_dX1_findLastThatHolds_0 27 rfl
theorem dX1_findLastThatHolds_51 : decode cX1_findLastThatHolds 51 = .ok (.iload 4, 2) := zDec_at zB_dX1_findLastThatHolds_0 28 rfl
theorem dX1_findLastThatHolds_53 : decode cX1_findLastThatHolds 53 = .ok (.iaload, 1) := zDec_at zB_dX1_findLastThatHolds_0 29 rfl
theorem dX1_findLastThatHolds_54 : decode cX1_findLastThatHolds 54 = .ok (.iload_n 3, 1) := zDec_at zB_dX1_findLastThatHolds_0 30 rfl
theorem dX1_findLastThatHolds_55 : decode cX1_findLastThatHolds 55 = .ok (.if_icmp .le 6, 3) := zDec_at zB_dX1_findLastThatHolds_0 31 rfl
theorem dX1_findLastThatHolds_58 : decode cX1_findLastThatHolds 58 = .ok (.goto 87, 3) := zDec_at zB_dX1_findLastThatHolds_0 32 rfl
theorem dX1_findLastThatHolds_61 : decode cX1_findLastThatHolds 61 = .ok (.aload 5, 2) := zDec_at zB_dX1_findLastThatHolds_0 33 rfl
theorem dX1_findLastThatHolds_63 : decode cX1_findLastThatHolds 63 = .ok (.getfield 115, 3) := zDec_at zB_dX1_findLastThatHolds_0 34 rfl
theorem dX1_findLastThatHolds_66 : decode cX1_findLastThatHolds 66 = .ok (.iconst 1, 1) := zDec_at zB_dX1_findLastThatHolds_0 35 rfl
theorem dX1_findLastThatHolds_67 : decode cX1_findLastThatHolds 67 = .ok (.isub, 1) := zDec_at zB_dX1_findLastThatHolds_0 36 rfl
theorem dX1_findLastThatHolds_68 : decode cX1_findLastThatHolds 68 = .ok (.istore 6, 2) := zDec_at zB_dX1_findLastThatHolds_0 37 rfl
theorem dX1_findLastThatHolds_70 : decode cX1_findLastThatHolds 70 = .ok (.iload 6, 2) := zDec_at zB_dX1_findLastThatHolds_0 38 rfl
theorem dX1_findLastThatHolds_72 : decode cX1_findLastThatHolds 72 = .ok (.ifCond .lt 73, 3) := zDec_at zB_dX1_findLastThatHolds_0 39 rfl
theorem zB_dX1_findLastThatHolds_75 : zDecB cX1_findLastThatHolds [(75, .aload 5, 2), (77, .getfield 120, 3), (80, .iload 6, 2), (82, .iaload, 1), (83, .iload_n 1, 1), (84, .if_icmp .ne 55, 3), (87, .aload_n 0, 1), (88, .getfield 15, 3), (91, .iload 4, 2), (93, .iaload, 1), (94, .iload 6, 2), (96, .ishr, 1), (97, .iconst 1, 1), (98, .iand, 1), (99, .ifCond .ne 40, 3), (102, .aload_n 0, 1), (103, .aload 5, 2), (105, .iload 6, 2), (107, .invokevirtual 123, 3), (110, .ifCond .eq 29, 3), (113, .aload_n 0, 1), (114, .iload 4, 2), (116, .putfield 90, 3), (119, .aload_n 0, 1), (120, .iload 6, 2), (122, .putfield 93, 3), (125, .aload_n 0, 1), (126, .aload 5, 2), (128, .getfield 127, 3), (131, .iload 6, 2), (133, .iaload, 1), (134, .putfield 87, 3), (137, .iconst 1, 1), (138, .ireturn, 1), (139, .iinc 6 (-1), 3), (142, .goto (-72), 3), (145, .iinc 4 (-1), 3), (148, .goto (-120), 3), (151, .aload_n 0, 1), (152, .iconst (-1), 1)] = true := by decide +kernel
theorem dX1_findLastThatHolds_75 : decode cX1_findLastThatHolds 75 = .ok (.aload 5, 2) := zDec_at zB_dX1_findLastThatHolds_75 0 rfl
theorem dX1_findLastThatHolds_77 : decode cX1_findLastThatHolds 77 = .ok (.getfield 120, 3) := zDec_at zB_dX1_findLastThatHolds_75 1 rfl
theorem dX1_findLastThatHolds_80 : decode cX1_findLastThatHolds 80 = .ok (.iload 6, 2) := zDec_at zB_dX1_findLastThatHolds_75 2 rfl
theorem dX1_findLastThatHolds_82 : decode cX1_findLastThatHolds 82 = .ok (.iaload, 1) := zDec_at zB_dX1_findLastThatHolds_75 3 rfl
theorem dX1_findLastThatHolds_83 : decode cX1_findLastThatHolds 83 = .ok (.iload_n 1, 1) := zDec_at zB_dX1_findLastThatHolds_75 4 rfl
theorem dX1_findLastThatHolds_84 : decode cX1_findLastThatHolds 84 = .ok (.if_icmp .ne 55, 3) := zDec_at zB_dX1_findLastThatHolds_75 5 rfl
theorem dX1_findLastThatHolds_87 : decode cX1_findLastThatHolds 87 = .ok (.aload_n 0, 1) := zDec_at zB_dX1_findLastThatHolds_75 6 rfl
theorem dX1_findLastThatHolds_88 : decode cX1_findLastThatHolds 88 = .ok (.getfield 15, 3) := zDec_at zB_dX1_findLastThatHolds_75 7 rfl
theorem dX1_findLastThatHolds_91 : decode cX1_findLastThatHolds 91 = .ok (.iload 4, 2) := zDec_at zB_dX1_findLastThatHolds_75 8 rfl
theorem dX1_findLastThatHolds_93 : decode cX1_findLastThatHolds 93 = .ok (.iaload, 1) := zDec_at zB_dX1_findLastThatHolds_75 9 rfl
theorem dX1_findLastThatHolds_94 : decode cX1_findLastThatHolds 94 = .ok (.iload 6, 2) := zDec_at zB_dX1_findLastThatHolds_75 10 rfl
theorem dX1_findLastThatHolds_96 : decode cX1_findLastThatHolds 96 = .ok (.ishr, 1) := zDec_at zB_dX1_findLastThatHolds_75 11 rfl
theorem dX1_findLastThatHolds_97 : decode cX1_findLastThatHolds 97 = .ok (.iconst 1, 1) := zDec_at zB_dX1_findLastThatHolds_75 12 rfl
theorem dX1_findLastThatHolds_98 : decode cX1_findLastThatHolds 98 = .ok (.iand, 1) := zDec_at zB_dX1_findLastThatHolds_75 13 rfl
theorem dX1_findLastThatHolds_99 : decode cX1_findLastThatHolds 99 = .ok (.ifCond .ne 40, 3) := zDec_at zB_dX1_findLastThatHolds_75 14 rfl
theorem dX1_findLastThatHolds_102 : decode cX1_findLastThatHolds 102 = .ok (.aload_n 0, 1) := zDec_at zB_dX1_findLastThatHolds_75 15 rfl
theorem dX1_findLastThatHolds_103 : decode cX1_findLastThatHolds 103 = .ok (.aload 5, 2) := zDec_at zB_dX1_findLastThatHolds_75 16 rfl
theorem dX1_findLastThatHolds_105 : decode cX1_findLastThatHolds 105 = .ok (.iload 6, 2) := zDec_at zB_dX1_findLastThatHolds_75 17 rfl
theorem dX1_findLastThatHolds_107 : decode cX1_findLastThatHolds 107 = .ok (.invokevirtual 123, 3) := zDec_at zB_dX1_findLastThatHolds_75 18 rfl
theorem dX1_findLastThatHolds_110 : decode cX1_findLastThatHolds 110 = .ok (.ifCond .eq 29, 3) := zDec_at zB_dX1_findLastThatHolds_75 19 rfl
theorem dX1_findLastThatHolds_113 : decode cX1_findLastThatHolds 113 = .ok (.aload_n 0, 1) := zDec_at zB_dX1_findLastThatHolds_75 20 rfl
theorem dX1_findLastThatHolds_114 : decode cX1_findLastThatHolds 114 = .ok (.iload 4, 2) := zDec_at zB_dX1_findLastThatHolds_75 21 rfl
theorem dX1_findLastThatHolds_116 : decode cX1_findLastThatHolds 116 = .ok (.putfield 90, 3) := zDec_at zB_dX1_findLastThatHolds_75 22 rfl
theorem dX1_findLastThatHolds_119 : decode cX1_findLastThatHolds 119 = .ok (.aload_n 0, 1) := zDec_at zB_dX1_findLastThatHolds_75 23 rfl
theorem dX1_findLastThatHolds_120 : decode cX1_findLastThatHolds 120 = .ok (.iload 6, 2) := zDec_at zB_dX1_findLastThatHolds_75 24 rfl
theorem dX1_findLastThatHolds_122 : decode cX1_findLastThatHolds 122 = .ok (.putfield 93, 3) := zDec_at zB_dX1_findLastThatHolds_75 25 rfl
theorem dX1_findLastThatHolds_125 : decode cX1_findLastThatHolds 125 = .ok (.aload_n 0, 1) := zDec_at zB_dX1_findLastThatHolds_75 26 rfl
theorem dX1_findLastThatHolds_126 : decode cX1_findLastThatHolds 126 = .ok (.aload 5, 2) := zDec_at zB_dX1_findLastThatHolds_75 27 rfl
theorem dX1_findLastThatHolds_128 : decode cX1_findLastThatHolds 128 = .ok (.getfield 127, 3) := zDec_at zB_dX1_findLastThatHolds_75 28 rfl
theorem dX1_findLastThatHolds_131 : decode cX1_findLastThatHolds 131 = .ok (.iload 6, 2) := zDec_at zB_dX1_findLastThatHolds_75 29 rfl
theorem dX1_findLastThatHolds_133 : decode cX1_findLastThatHolds 133 = .ok (.iaload, 1) := zDec_at zB_dX1_findLastThatHolds_75 30 rfl
theorem dX1_findLastThatHolds_134 : decode cX1_findLastThatHolds 134 = .ok (.putfield 87, 3) := zDec_at zB_dX1_findLastThatHolds_75 31 rfl
theorem dX1_findLastThatHolds_137 : decode cX1_findLastThatHolds 137 = .ok (.iconst 1, 1) := zDec_at zB_dX1_findLastThatHolds_75 32 rfl
theorem dX1_findLastThatHolds_138 : decode cX1_findLastThatHolds 138 = .ok (.ireturn, 1) := zDec_at zB_dX1_findLastThatHolds_75 33 rfl
theorem dX1_findLastThatHolds_139 : decode cX1_findLastThatHolds 139 = .ok (.iinc 6 (-1), 3) := zDec_at zB_dX1_findLastThatHolds_75 34 rfl
theorem dX1_findLastThatHolds_142 : decode cX1_findLastThatHolds 142 = .ok (.goto (-72), 3) := zDec_at zB_dX1_findLastThatHolds_75 35 rfl
theorem dX1_findLastThatHolds_145 : decode cX1_findLastThatHolds 145 = .ok (.iinc 4 (-1), 3) := zDec_at zB_dX1_findLastThatHolds_75 36 rfl
theorem dX1_findLastThatHolds_148 : decode cX1_findLastThatHolds 148 = .ok (.goto (-120), 3) := zDec_at zB_dX1_findLastThatHolds_75 37 rfl
theorem dX1_findLastThatHolds_151 : decode cX1_findLastThatHolds 151 = .ok (.aload_n 0, 1) := zDec_at zB_dX1_findLastThatHolds_75 38 rfl
theorem dX1_findLastThatHolds_152 : decode cX1_findLastThatHolds 152 = .ok (.iconst (-1), 1) := zDec_at zB_dX1_findLastThatHolds_75 39 rfl
theorem zB_dX1_findLastThatHolds_153 : zDecB cX1_findLastThatHolds [(153, .putfield 90, 3), (156, .aload_n 0, 1), (157, .iconst 0, 1), (158, .putfield 87, 3), (161, .iconst 0, 1), (162, .ireturn, 1)] = true := by decide +kernel
theorem dX1_findLastThatHolds_153 : decode cX1_findLastThatHolds 153 = .ok (.putfield 90, 3) := zDec_at zB_dX1_findLastThatHolds_153 0 rfl
theorem dX1_findLastThatHolds_156 : decode cX1_findLastThatHolds 156 = .ok (.aload_n 0, 1) := zDec_at zB_dX1_findLastThatHolds_153 1 rfl
theorem dX1_findLastThatHolds_157 : decode cX1_findLastThatHolds 157 = .ok (.iconst 0, 1) := zDec_at zB_dX1_findLastThatHolds_153 2 rfl
theorem dX1_findLastThatHolds_158 : decode cX1_findLastThatHolds 158 = .ok (.putfield 87, 3) := zDec_at zB_dX1_findLastThatHolds_153 3 rfl
theorem dX1_findLastThatHolds_161 : decode cX1_findLastThatHolds 161 = .ok (.iconst 0, 1) := zDec_at zB_dX1_findLastThatHolds_153 4 rfl
theorem dX1_findLastThatHolds_162 : decode cX1_findLastThatHolds 162 = .ok (.ireturn, 1) := zDec_at zB_dX1_findLastThatHolds_153 5 rfl
theorem zB_dX1_firstDueDay_0 : zDecB cX1_firstDueDay [(0, .iload_n 3, 1), (1, .istore 5, 2), (3, .iload 5, 2), (5, .iload 4, 2), (7, .if_icmp .gt 79, 3), (10, .aload_n 0, 1), (11, .getfield 25, 3), (14, .iload 5, 2), (16, .iconst 1, 1), (17, .iadd, 1), (18, .iaload, 1), (19, .aload_n 0, 1), (20, .getfield 25, 3), (23, .iload 5, 2), (25, .iaload, 1), (26, .if_icmp .le 54, 3), (29, .aload_n 0, 1), (30, .iload_n 1, 1), (31, .iload 5, 2), (33, .invokevirtual 204, 3), (36, .aload_n 0, 1), (37, .sipush 128, 3), (40, .iload_n 2, 1), (41, .iadd, 1), (42, .invokevirtual 83, 3), (45, .ifCond .eq 35, 3), (48, .aload_n 0, 1), (49, .getfield 152, 3), (52, .ifCond .le 28, 3), (55, .aload_n 0, 1), (56, .iload 5, 2), (58, .aload_n 0, 1), (59, .getfield 87, 3), (62, .isub, 1), (63, .iconst 1, 1), (64, .iadd, 1), (65, .iload 5, 2), (67, .invokevirtual 208, 3), (70, .aload_n 0, 1), (71, .getfield 152, 3)] = true := by decide +kernel
theorem dX1_firstDueDay_0 : decode cX1_firstDueDay 0 = .ok (.iload_n 3, 1) := zDec_at zB_dX1_firstDueDay_0 0 rfl
theorem dX1_firstDueDay_1 : decode cX1_firstDueDay 1 = .ok (.istore 5, 2) := zDec_at zB_dX1_firstDueDay_0 1 rfl
theorem dX1_firstDueDay_3 : decode cX1_firstDueDay 3 = .ok (.iload 5, 2) := zDec_at zB_dX1_firstDueDay_0 2 rfl
theorem dX1_firstDueDay_5 : decode cX1_firstDueDay 5 = .ok (.iload 4, 2) := zDec_at zB_dX1_firstDueDay_0 3 rfl
theorem dX1_firstDueDay_7 : decode cX1_firstDueDay 7 = .ok (.if_icmp .gt 79, 3) := zDec_at zB_dX1_firstDueDay_0 4 rfl
theorem dX1_firstDueDay_10 : decode cX1_firstDueDay 10 = .ok (.aload_n 0, 1) := zDec_at zB_dX1_firstDueDay_0 5 rfl
theorem dX1_firstDueDay_11 : decode cX1_firstDueDay 11 = .ok (.getfield 25, 3) := zDec_at zB_dX1_firstDueDay_0 6 rfl
theorem dX1_firstDueDay_14 : decode cX1_firstDueDay 14 = .ok (.iload 5, 2) := zDec_at zB_dX1_firstDueDay_0 7 rfl
theorem dX1_firstDueDay_16 : decode cX1_firstDueDay 16 = .ok (.iconst 1, 1) := zDec_at zB_dX1_firstDueDay_0 8 rfl
theorem dX1_firstDueDay_17 : decode cX1_firstDueDay 17 = .ok (.iadd, 1) := zDec_at zB_dX1_firstDueDay_0 9 rfl
theorem dX1_firstDueDay_18 : decode cX1_firstDueDay 18 = .ok (.iaload, 1) := zDec_at zB_dX1_firstDueDay_0 10 rfl
theorem dX1_firstDueDay_19 : decode cX1_firstDueDay 19 = .ok (.aload_n 0, 1) := zDec_at zB_dX1_firstDueDay_0 11 rfl
theorem dX1_firstDueDay_20 : decode cX1_firstDueDay 20 = .ok (.getfield 25, 3) := zDec_at zB_dX1_firstDueDay_0 12 rfl
theorem dX1_firstDueDay_23 : decode cX1_firstDueDay 23 = .ok (.iload 5, 2) := zDec_at zB_dX1_firstDueDay_0 13 rfl
theorem dX1_firstDueDay_25 : decode cX1_firstDueDay 25 = .ok (.iaload, 1) := zDec_at zB_dX1_firstDueDay_0 14 rfl
theorem dX1_firstDueDay_26 : decode cX1_firstDueDay 26 = .ok (.if_icmp .le 54, 3) := zDec_at zB_dX1_firstDueDay_0 15 rfl
theorem dX1_firstDueDay_29 : decode cX1_firstDueDay 29 = .ok (.aload_n 0, 1) := zDec_at zB_dX1_firstDueDay_0 16 rfl
theorem dX1_firstDueDay_30 : decode cX1_firstDueDay 30 = .ok (.iload_n 1, 1) := zDec_at zB_dX1_firstDueDay_0 17 rfl
theorem dX1_firstDueDay_31 : decode cX1_firstDueDay 31 = .ok (.iload 5, 2) := zDec_at zB_dX1_firstDueDay_0 18 rfl
theorem dX1_firstDueDay_33 : decode cX1_firstDueDay 33 = .ok (.invokevirtual 204, 3) := zDec_at zB_dX1_firstDueDay_0 19 rfl
theorem dX1_firstDueDay_36 : decode cX1_firstDueDay 36 = .ok (.aload_n 0, 1) := zDec_at zB_dX1_firstDueDay_0 20 rfl
theorem dX1_firstDueDay_37 : decode cX1_firstDueDay 37 = .ok (.sipush 128, 3) := zDec_at zB_dX1_firstDueDay_0 21 rfl
theorem dX1_firstDueDay_40 : decode cX1_firstDueDay 40 = .ok (.iload_n 2, 1) := zDec_at zB_dX1_firstDueDay_0 22 rfl
theorem dX1_firstDueDay_41 : decode cX1_firstDueDay 41 = .ok (.iadd, 1) := zDec_at zB_dX1_firstDueDay_0 23 rfl
theorem dX1_firstDueDay_42 : decode cX1_firstDueDay 42 = .ok (.invokevirtual 83, 3) := zDec_at zB_dX1_firstDueDay_0 24 rfl
theorem dX1_firstDueDay_45 : decode cX1_firstDueDay 45 = .ok (.ifCond .eq 35, 3) := zDec_at zB_dX1_firstDueDay_0 25 rfl
theorem dX1_firstDueDay_48 : decode cX1_firstDueDay 48 = .ok (.aload_n 0, 1) := zDec_at zB_dX1_firstDueDay_0 26 rfl
theorem dX1_firstDueDay_49 : decode cX1_firstDueDay 49 = .ok (.getfield 152, 3) := zDec_at zB_dX1_firstDueDay_0 27 rfl
theorem dX1_firstDueDay_52 : decode cX1_firstDueDay 52 = .ok (.ifCond .le 28, 3) := zDec_at zB_dX1_firstDueDay_0 28 rfl
theorem dX1_firstDueDay_55 : decode cX1_firstDueDay 55 = .ok (.aload_n 0, 1) := zDec_at zB_dX1_firstDueDay_0 29 rfl
theorem dX1_firstDueDay_56 : decode cX1_firstDueDay 56 = .ok (.iload 5, 2) := zDec_at zB_dX1_firstDueDay_0 30 rfl
theorem dX1_firstDueDay_58 : decode cX1_firstDueDay 58 = .ok (.aload_n 0, 1) := zDec_at zB_dX1_firstDueDay_0 31 rfl
theorem dX1_firstDueDay_59 : decode cX1_firstDueDay 59 = .ok (.getfield 87, 3) := zDec_at zB_dX1_firstDueDay_0 32 rfl
theorem dX1_firstDueDay_62 : decode cX1_firstDueDay 62 = .ok (.isub, 1) := zDec_at zB_dX1_firstDueDay_0 33 rfl
theorem dX1_firstDueDay_63 : decode cX1_firstDueDay 63 = .ok (.iconst 1, 1) := zDec_at zB_dX1_firstDueDay_0 34 rfl
theorem dX1_firstDueDay_64 : decode cX1_firstDueDay 64 = .ok (.iadd, 1) := zDec_at zB_dX1_firstDueDay_0 35 rfl
theorem dX1_firstDueDay_65 : decode cX1_firstDueDay 65 = .ok (.iload 5, 2) := zDec_at zB_dX1_firstDueDay_0 36 rfl
theorem dX1_firstDueDay_67 : decode cX1_firstDueDay 67 = .ok (.invokevirtual 208, 3) := zDec_at zB_dX1_firstDueDay_0 37 rfl
theorem dX1_firstDueDay_70 : decode cX1_firstDueDay 70 = .ok (.aload_n 0, 1) := zDec_at zB_dX1_firstDueDay_0 38 rfl
theorem dX1_firstDueDay_71 : decode cX1_firstDueDay 71 = .ok (.getfield 152, 3) := zDec_at zB_dX1_firstDueDay_0 39 rfl
theorem zB_dX1_firstDueDay_74 : zDecB cX1_firstDueDay [(74, .if_icmp .lt 6, 3), (77, .iload 5, 2), (79, .ireturn, 1), (80, .iinc 5 1, 3), (83, .goto (-80), 3), (86, .iconst (-1), 1), (87, .ireturn, 1)] = true := by decide +kernel
theorem dX1_firstDueDay_74 : decode cX1_firstDueDay 74 = .ok (.if_icmp .lt 6, 3) := zDec_at zB_dX1_firstDueDay_74 0 rfl
theorem dX1_firstDueDay_77 : decode cX1_firstDueDay 77 = .ok (.iload 5, 2) := zDec_at zB_dX1_firstDueDay_74 1 rfl
theorem dX1_firstDueDay_79 : decode cX1_firstDueDay 79 = .ok (.ireturn, 1) := zDec_at zB_dX1_firstDueDay_74 2 rfl
theorem dX1_firstDueDay_80 : decode cX1_firstDueDay 80 = .ok (.iinc 5 1, 3) := zDec_at zB_dX1_firstDueDay_74 3 rfl
theorem dX1_firstDueDay_83 : decode cX1_firstDueDay 83 = .ok (.goto (-80), 3) := zDec_at zB_dX1_firstDueDay_74 4 rfl
theorem dX1_firstDueDay_86 : decode cX1_firstDueDay 86 = .ok (.iconst (-1), 1) := zDec_at zB_dX1_firstDueDay_74 5 rfl
theorem dX1_firstDueDay_87 : decode cX1_firstDueDay 87 = .ok (.ireturn, 1) := zDec_at zB_dX1_firstDueDay_74 6 rfl
theorem zB_dX1_greatestDivisor_0 : zDecB cX1_greatestDivisor [(0, .iload_n 0, 1), (1, .istore_n 2, 1), (2, .iload_n 1, 1), (3, .istore_n 3, 1), (4, .iconst 0, 1), (5, .istore 4, 2), (7, .iload 4, 2), (9, .sipush 400, 3), (12, .if_icmp .ge 23, 3), (15, .iload_n 3, 1), (16, .ifCond .eq 19, 3), (19, .iload_n 2, 1), (20, .iload_n 3, 1), (21, .irem, 1), (22, .istore 5, 2), (24, .iload_n 3, 1), (25, .istore_n 2, 1), (26, .iload 5, 2), (28, .istore_n 3, 1), (29, .iinc 4 1, 3), (32, .goto (-25), 3), (35, .iload_n 2, 1), (36, .ireturn, 1)] = true := by decide +kernel
theorem dX1_greatestDivisor_0 : decode cX1_greatestDivisor 0 = .ok (.iload_n 0, 1) := zDec_at zB_dX1_greatestDivisor_0 0 rfl
theorem dX1_greatestDivisor_1 : decode cX1_greatestDivisor 1 = .ok (.istore_n 2, 1) := zDec_at zB_dX1_greatestDivisor_0 1 rfl
theorem dX1_greatestDivisor_2 : decode cX1_greatestDivisor 2 = .ok (.iload_n 1, 1) := zDec_at zB_dX1_greatestDivisor_0 2 rfl
theorem dX1_greatestDivisor_3 : decode cX1_greatestDivisor 3 = .ok (.istore_n 3, 1) := zDec_at zB_dX1_greatestDivisor_0 3 rfl
theorem dX1_greatestDivisor_4 : decode cX1_greatestDivisor 4 = .ok (.iconst 0, 1) := zDec_at zB_dX1_greatestDivisor_0 4 rfl
theorem dX1_greatestDivisor_5 : decode cX1_greatestDivisor 5 = .ok (.istore 4, 2) := zDec_at zB_dX1_greatestDivisor_0 5 rfl
theorem dX1_greatestDivisor_7 : decode cX1_greatestDivisor 7 = .ok (.iload 4, 2) := zDec_at zB_dX1_greatestDivisor_0 6 rfl
theorem dX1_greatestDivisor_9 : decode cX1_greatestDivisor 9 = .ok (.sipush 400, 3) := zDec_at zB_dX1_greatestDivisor_0 7 rfl
theorem dX1_greatestDivisor_12 : decode cX1_greatestDivisor 12 = .ok (.if_icmp .ge 23, 3) := zDec_at zB_dX1_greatestDivisor_0 8 rfl
theorem dX1_greatestDivisor_15 : decode cX1_greatestDivisor 15 = .ok (.iload_n 3, 1) := zDec_at zB_dX1_greatestDivisor_0 9 rfl
theorem dX1_greatestDivisor_16 : decode cX1_greatestDivisor 16 = .ok (.ifCond .eq 19, 3) := zDec_at zB_dX1_greatestDivisor_0 10 rfl
theorem dX1_greatestDivisor_19 : decode cX1_greatestDivisor 19 = .ok (.iload_n 2, 1) := zDec_at zB_dX1_greatestDivisor_0 11 rfl
theorem dX1_greatestDivisor_20 : decode cX1_greatestDivisor 20 = .ok (.iload_n 3, 1) := zDec_at zB_dX1_greatestDivisor_0 12 rfl
theorem dX1_greatestDivisor_21 : decode cX1_greatestDivisor 21 = .ok (.irem, 1) := zDec_at zB_dX1_greatestDivisor_0 13 rfl
theorem dX1_greatestDivisor_22 : decode cX1_greatestDivisor 22 = .ok (.istore 5, 2) := zDec_at zB_dX1_greatestDivisor_0 14 rfl
theorem dX1_greatestDivisor_24 : decode cX1_greatestDivisor 24 = .ok (.iload_n 3, 1) := zDec_at zB_dX1_greatestDivisor_0 15 rfl
theorem dX1_greatestDivisor_25 : decode cX1_greatestDivisor 25 = .ok (.istore_n 2, 1) := zDec_at zB_dX1_greatestDivisor_0 16 rfl
theorem dX1_greatestDivisor_26 : decode cX1_greatestDivisor 26 = .ok (.iload 5, 2) := zDec_at zB_dX1_greatestDivisor_0 17 rfl
theorem dX1_greatestDivisor_28 : decode cX1_greatestDivisor 28 = .ok (.istore_n 3, 1) := zDec_at zB_dX1_greatestDivisor_0 18 rfl
theorem dX1_greatestDivisor_29 : decode cX1_greatestDivisor 29 = .ok (.iinc 4 1, 3) := zDec_at zB_dX1_greatestDivisor_0 19 rfl
theorem dX1_greatestDivisor_32 : decode cX1_greatestDivisor 32 = .ok (.goto (-25), 3) := zDec_at zB_dX1_greatestDivisor_0 20 rfl
theorem dX1_greatestDivisor_35 : decode cX1_greatestDivisor 35 = .ok (.iload_n 2, 1) := zDec_at zB_dX1_greatestDivisor_0 21 rfl
theorem dX1_greatestDivisor_36 : decode cX1_greatestDivisor 36 = .ok (.ireturn, 1) := zDec_at zB_dX1_greatestDivisor_0 22 rfl
theorem zB_dX1_isHolding_0 : zDecB cX1_isHolding [(0, .aload_n 1, 1), (1, .getfield 142, 3), (4, .iconst 2, 1), (5, .iload_n 2, 1), (6, .imul, 1), (7, .iaload, 1), (8, .istore_n 3, 1), (9, .aload_n 1, 1), (10, .getfield 142, 3), (13, .iconst 2, 1), (14, .iload_n 2, 1), (15, .imul, 1), (16, .iconst 1, 1), (17, .iadd, 1), (18, .iaload, 1), (19, .istore 4, 2), (21, .aload_n 1, 1), (22, .getfield 142, 3), (25, .iconst 2, 1), (26, .iload_n 2, 1), (27, .imul, 1), (28, .iconst 2, 1), (29, .iadd, 1), (30, .iaload, 1), (31, .istore 5, 2), (33, .iload 4, 2), (35, .iload 5, 2), (37, .if_icmp .ge 22, 3), (40, .aload_n 0, 1), (41, .aload_n 1, 1), (42, .getfield 145, 3), (45, .iload 4, 2), (47, .iload 5, 2), (49, .invokevirtual 148, 3), (52, .lconst 1, 1), (53, .lcmp, 1), (54, .ifCond .eq 5, 3), (57, .iconst 0, 1), (58, .ireturn, 1), (59, .iload_n 3, 1)] = true := by decide +kernel
theorem dX1_isHolding_0 : decode cX1_isHolding 0 = .ok (.aload_n 1, 1) := zDec_at zB_dX1_isHolding_0 0 rfl
theorem dX1_isHolding_1 : decode cX1_isHolding 1 = .ok (.getfield 142, 3) := zDec_at zB_dX1_isHolding_0 1 rfl
theorem dX1_isHolding_4 : decode cX1_isHolding 4 = .ok (.iconst 2, 1) := zDec_at zB_dX1_isHolding_0 2 rfl
theorem dX1_isHolding_5 : decode cX1_isHolding 5 = .ok (.iload_n 2, 1) := zDec_at zB_dX1_isHolding_0 3 rfl
theorem dX1_isHolding_6 : decode cX1_isHolding 6 = .ok (.imul, 1) := zDec_at zB_dX1_isHolding_0 4 rfl
theorem dX1_isHolding_7 : decode cX1_isHolding 7 = .ok (.iaload, 1) := zDec_at zB_dX1_isHolding_0 5 rfl
theorem dX1_isHolding_8 : decode cX1_isHolding 8 = .ok (.istore_n 3, 1) := zDec_at zB_dX1_isHolding_0 6 rfl
theorem dX1_isHolding_9 : decode cX1_isHolding 9 = .ok (.aload_n 1, 1) := zDec_at zB_dX1_isHolding_0 7 rfl
theorem dX1_isHolding_10 : decode cX1_isHolding 10 = .ok (.getfield 142, 3) := zDec_at zB_dX1_isHolding_0 8 rfl
theorem dX1_isHolding_13 : decode cX1_isHolding 13 = .ok (.iconst 2, 1) := zDec_at zB_dX1_isHolding_0 9 rfl
theorem dX1_isHolding_14 : decode cX1_isHolding 14 = .ok (.iload_n 2, 1) := zDec_at zB_dX1_isHolding_0 10 rfl
theorem dX1_isHolding_15 : decode cX1_isHolding 15 = .ok (.imul, 1) := zDec_at zB_dX1_isHolding_0 11 rfl
theorem dX1_isHolding_16 : decode cX1_isHolding 16 = .ok (.iconst 1, 1) := zDec_at zB_dX1_isHolding_0 12 rfl
theorem dX1_isHolding_17 : decode cX1_isHolding 17 = .ok (.iadd, 1) := zDec_at zB_dX1_isHolding_0 13 rfl
theorem dX1_isHolding_18 : decode cX1_isHolding 18 = .ok (.iaload, 1) := zDec_at zB_dX1_isHolding_0 14 rfl
theorem dX1_isHolding_19 : decode cX1_isHolding 19 = .ok (.istore 4, 2) := zDec_at zB_dX1_isHolding_0 15 rfl
theorem dX1_isHolding_21 : decode cX1_isHolding 21 = .ok (.aload_n 1, 1) := zDec_at zB_dX1_isHolding_0 16 rfl
theorem dX1_isHolding_22 : decode cX1_isHolding 22 = .ok (.getfield 142, 3) := zDec_at zB_dX1_isHolding_0 17 rfl
theorem dX1_isHolding_25 : decode cX1_isHolding 25 = .ok (.iconst 2, 1) := zDec_at zB_dX1_isHolding_0 18 rfl
theorem dX1_isHolding_26 : decode cX1_isHolding 26 = .ok (.iload_n 2, 1) := zDec_at zB_dX1_isHolding_0 19 rfl
theorem dX1_isHolding_27 : decode cX1_isHolding 27 = .ok (.imul, 1) := zDec_at zB_dX1_isHolding_0 20 rfl
theorem dX1_isHolding_28 : decode cX1_isHolding 28 = .ok (.iconst 2, 1) := zDec_at zB_dX1_isHolding_0 21 rfl
theorem dX1_isHolding_29 : decode cX1_isHolding 29 = .ok (.iadd, 1) := zDec_at zB_dX1_isHolding_0 22 rfl
theorem dX1_isHolding_30 : decode cX1_isHolding 30 = .ok (.iaload, 1) := zDec_at zB_dX1_isHolding_0 23 rfl
theorem dX1_isHolding_31 : decode cX1_isHolding 31 = .ok (.istore 5, 2) := zDec_at zB_dX1_isHolding_0 24 rfl
theorem dX1_isHolding_33 : decode cX1_isHolding 33 = .ok (.iload 4, 2) := zDec_at zB_dX1_isHolding_0 25 rfl
theorem dX1_isHolding_35 : decode cX1_isHolding 35 = .ok (.iload 5, 2) := zDec_at zB_dX1_isHolding_0 26 rfl
theorem dX1_isHolding_37 : decode cX1_isHolding 37 = .ok (.if_icmp .ge 22, 3) := zDec_at zB_dX1_isHolding_0 27 rfl
theorem dX1_isHolding_40 : decode cX1_isHolding 40 = .ok (.aload_n 0, 1) := zDec_at zB_dX1_isHolding_0 28 rfl
theorem dX1_isHolding_41 : decode cX1_isHolding 41 = .ok (.aload_n 1, 1) := zDec_at zB_dX1_isHolding_0 29 rfl
theorem dX1_isHolding_42 : decode cX1_isHolding 42 = .ok (.getfield 145, 3) := zDec_at zB_dX1_isHolding_0 30 rfl
theorem dX1_isHolding_45 : decode cX1_isHolding 45 = .ok (.iload 4, 2) := zDec_at zB_dX1_isHolding_0 31 rfl
theorem dX1_isHolding_47 : decode cX1_isHolding 47 = .ok (.iload 5, 2) := zDec_at zB_dX1_isHolding_0 32 rfl
theorem dX1_isHolding_49 : decode cX1_isHolding 49 = .ok (.invokevirtual 148, 3) := zDec_at zB_dX1_isHolding_0 33 rfl
theorem dX1_isHolding_52 : decode cX1_isHolding 52 = .ok (.lconst 1, 1) := zDec_at zB_dX1_isHolding_0 34 rfl
theorem dX1_isHolding_53 : decode cX1_isHolding 53 = .ok (.lcmp, 1) := zDec_at zB_dX1_isHolding_0 35 rfl
theorem dX1_isHolding_54 : decode cX1_isHolding 54 = .ok (.ifCond .eq 5, 3) := zDec_at zB_dX1_isHolding_0 36 rfl
theorem dX1_isHolding_57 : decode cX1_isHolding 57 = .ok (.iconst 0, 1) := zDec_at zB_dX1_isHolding_0 37 rfl
theorem dX1_isHolding_58 : decode cX1_isHolding 58 = .ok (.ireturn, 1) := zDec_at zB_dX1_isHolding_0 38 rfl
theorem dX1_isHolding_59 : decode cX1_isHolding 59 = .ok (.iload_n 3, 1) := zDec_at zB_dX1_isHolding_0 39 rfl
theorem zB_dX1_isHolding_60 : zDecB cX1_isHolding [(60, .iload 4, 2), (62, .if_icmp .ne 5, 3), (65, .iconst 1, 1), (66, .ireturn, 1), (67, .aload_n 0, 1), (68, .aload_n 1, 1), (69, .getfield 145, 3), (72, .iload_n 3, 1), (73, .iload 4, 2), (75, .invokevirtual 148, 3), (78, .lstore 6, 2), (80, .aload_n 0, 1), (81, .lload 6, 2), (83, .l2i, 1), (84, .putfield 152, 3), (87, .lload 6, 2), (89, .ldc2_w 155, 3), (92, .lcmp, 1), (93, .ifCond .eq 7, 3), (96, .iconst 1, 1), (97, .goto 4, 3), (100, .iconst 0, 1), (101, .ireturn, 1)] = true := by decide +kernel
theorem dX1_isHolding_60 : decode cX1_isHolding 60 = .ok (.iload 4, 2) := zDec_at zB_dX1_isHolding_60 0 rfl
theorem dX1_isHolding_62 : decode cX1_isHolding 62 = .ok (.if_icmp .ne 5, 3) := zDec_at zB_dX1_isHolding_60 1 rfl
theorem dX1_isHolding_65 : decode cX1_isHolding 65 = .ok (.iconst 1, 1) := zDec_at zB_dX1_isHolding_60 2 rfl
theorem dX1_isHolding_66 : decode cX1_isHolding 66 = .ok (.ireturn, 1) := zDec_at zB_dX1_isHolding_60 3 rfl
theorem dX1_isHolding_67 : decode cX1_isHolding 67 = .ok (.aload_n 0, 1) := zDec_at zB_dX1_isHolding_60 4 rfl
theorem dX1_isHolding_68 : decode cX1_isHolding 68 = .ok (.aload_n 1, 1) := zDec_at zB_dX1_isHolding_60 5 rfl
theorem dX1_isHolding_69 : decode cX1_isHolding 69 = .ok (.getfield 145, 3) := zDec_at zB_dX1_isHolding_60 6 rfl
theorem dX1_isHolding_72 : decode cX1_isHolding 72 = .ok (.iload_n 3, 1) := zDec_at zB_dX1_isHolding_60 7 rfl
theorem dX1_isHolding_73 : decode cX1_isHolding 73 = .ok (.iload 4, 2) := zDec_at zB_dX1_isHolding_60 8 rfl
theorem dX1_isHolding_75 : decode cX1_isHolding 75 = .ok (.invokevirtual 148, 3) := zDec_at zB_dX1_isHolding_60 9 rfl
theorem dX1_isHolding_78 : decode cX1_isHolding 78 = .ok (.lstore 6, 2) := zDec_at zB_dX1_isHolding_60 10 rfl
theorem dX1_isHolding_80 : decode cX1_isHolding 80 = .ok (.aload_n 0, 1) := zDec_at zB_dX1_isHolding_60 11 rfl
theorem dX1_isHolding_81 : decode cX1_isHolding 81 = .ok (.lload 6, 2) := zDec_at zB_dX1_isHolding_60 12 rfl
theorem dX1_isHolding_83 : decode cX1_isHolding 83 = .ok (.l2i, 1) := zDec_at zB_dX1_isHolding_60 13 rfl
theorem dX1_isHolding_84 : decode cX1_isHolding 84 = .ok (.putfield 152, 3) := zDec_at zB_dX1_isHolding_60 14 rfl
theorem dX1_isHolding_87 : decode cX1_isHolding 87 = .ok (.lload 6, 2) := zDec_at zB_dX1_isHolding_60 15 rfl
theorem dX1_isHolding_89 : decode cX1_isHolding 89 = .ok (.ldc2_w 155, 3) := zDec_at zB_dX1_isHolding_60 16 rfl
theorem dX1_isHolding_92 : decode cX1_isHolding 92 = .ok (.lcmp, 1) := zDec_at zB_dX1_isHolding_60 17 rfl
theorem dX1_isHolding_93 : decode cX1_isHolding 93 = .ok (.ifCond .eq 7, 3) := zDec_at zB_dX1_isHolding_60 18 rfl
theorem dX1_isHolding_96 : decode cX1_isHolding 96 = .ok (.iconst 1, 1) := zDec_at zB_dX1_isHolding_60 19 rfl
theorem dX1_isHolding_97 : decode cX1_isHolding 97 = .ok (.goto 4, 3) := zDec_at zB_dX1_isHolding_60 20 rfl
theorem dX1_isHolding_100 : decode cX1_isHolding 100 = .ok (.iconst 0, 1) := zDec_at zB_dX1_isHolding_60 21 rfl
theorem dX1_isHolding_101 : decode cX1_isHolding 101 = .ok (.ireturn, 1) := zDec_at zB_dX1_isHolding_60 22 rfl
theorem zB_dX1_isImpossible_0 : zDecB cX1_isImpossible [(0, .aload_n 0, 1), (1, .getfield 34, 3), (4, .getfield 38, 3), (7, .astore_n 2, 1), (8, .aload_n 0, 1), (9, .getfield 19, 3), (12, .iload_n 1, 1), (13, .iaload, 1), (14, .invokestatic 233, 3), (17, .ifCond .ne 5, 3), (20, .iconst 0, 1), (21, .ireturn, 1), (22, .aload_n 2, 1), (23, .getfield 44, 3), (26, .iload_n 1, 1), (27, .iaload, 1), (28, .istore_n 3, 1), (29, .aload_n 2, 1), (30, .getfield 53, 3), (33, .iload_n 1, 1), (34, .iaload, 1), (35, .istore 4, 2), (37, .aload_n 0, 1), (38, .getfield 19, 3), (41, .iload_n 1, 1), (42, .iaload, 1), (43, .ifCond .ne 41, 3), (46, .aload_n 2, 1), (47, .getfield 59, 3), (50, .iload_n 1, 1), (51, .iaload, 1), (52, .ifCond .ne 32, 3), (55, .aload_n 0, 1), (56, .getfield 34, 3), (59, .getfield 174, 3), (62, .aload_n 0, 1), (63, .getfield 34, 3), (66, .getfield 174, 3), (69, .getfield 189, 3), (72, .iload_n 3, 1)] = true := by decide +kernel
theorem dX1_isImpossible_0 : decode cX1_isImpossible 0 = .ok (.aload_n 0, 1) := zDec_at zB_dX1_isImpossible_0 0 rfl
theorem dX1_isImpossible_1 : decode cX1_isImpossible 1 = .ok (.getfield 34, 3) := zDec_at zB_dX1_isImpossible_0 1 rfl
theorem dX1_isImpossible_4 : decode cX1_isImpossible 4 = .ok (.getfield 38, 3) := zDec_at zB_dX1_isImpossible_0 2 rfl
theorem dX1_isImpossible_7 : decode cX1_isImpossible 7 = .ok (.astore_n 2, 1) := zDec_at zB_dX1_isImpossible_0 3 rfl
theorem dX1_isImpossible_8 : decode cX1_isImpossible 8 = .ok (.aload_n 0, 1) := zDec_at zB_dX1_isImpossible_0 4 rfl
theorem dX1_isImpossible_9 : decode cX1_isImpossible 9 = .ok (.getfield 19, 3) := zDec_at zB_dX1_isImpossible_0 5 rfl
theorem dX1_isImpossible_12 : decode cX1_isImpossible 12 = .ok (.iload_n 1, 1) := zDec_at zB_dX1_isImpossible_0 6 rfl
theorem dX1_isImpossible_13 : decode cX1_isImpossible 13 = .ok (.iaload, 1) := zDec_at zB_dX1_isImpossible_0 7 rfl
theorem dX1_isImpossible_14 : decode cX1_isImpossible 14 = .ok (.invokestatic 233, 3) := zDec_at zB_dX1_isImpossible_0 8 rfl
theorem dX1_isImpossible_17 : decode cX1_isImpossible 17 = .ok (.ifCond .ne 5, 3) := zDec_at zB_dX1_isImpossible_0 9 rfl
theorem dX1_isImpossible_20 : decode cX1_isImpossible 20 = .ok (.iconst 0, 1) := zDec_at zB_dX1_isImpossible_0 10 rfl
theorem dX1_isImpossible_21 : decode cX1_isImpossible 21 = .ok (.ireturn, 1) := zDec_at zB_dX1_isImpossible_0 11 rfl
theorem dX1_isImpossible_22 : decode cX1_isImpossible 22 = .ok (.aload_n 2, 1) := zDec_at zB_dX1_isImpossible_0 12 rfl
theorem dX1_isImpossible_23 : decode cX1_isImpossible 23 = .ok (.getfield 44, 3) := zDec_at zB_dX1_isImpossible_0 13 rfl
theorem dX1_isImpossible_26 : decode cX1_isImpossible 26 = .ok (.iload_n 1, 1) := zDec_at zB_dX1_isImpossible_0 14 rfl
theorem dX1_isImpossible_27 : decode cX1_isImpossible 27 = .ok (.iaload, 1) := zDec_at zB_dX1_isImpossible_0 15 rfl
theorem dX1_isImpossible_28 : decode cX1_isImpossible 28 = .ok (.istore_n 3, 1) := zDec_at zB_dX1_isImpossible_0 16 rfl
theorem dX1_isImpossible_29 : decode cX1_isImpossible 29 = .ok (.aload_n 2, 1) := zDec_at zB_dX1_isImpossible_0 17 rfl
theorem dX1_isImpossible_30 : decode cX1_isImpossible 30 = .ok (.getfield 53, 3) := zDec_at zB_dX1_isImpossible_0 18 rfl
theorem dX1_isImpossible_33 : decode cX1_isImpossible 33 = .ok (.iload_n 1, 1) := zDec_at zB_dX1_isImpossible_0 19 rfl
theorem dX1_isImpossible_34 : decode cX1_isImpossible 34 = .ok (.iaload, 1) := zDec_at zB_dX1_isImpossible_0 20 rfl
theorem dX1_isImpossible_35 : decode cX1_isImpossible 35 = .ok (.istore 4, 2) := zDec_at zB_dX1_isImpossible_0 21 rfl
theorem dX1_isImpossible_37 : decode cX1_isImpossible 37 = .ok (.aload_n 0, 1) := zDec_at zB_dX1_isImpossible_0 22 rfl
theorem dX1_isImpossible_38 : decode cX1_isImpossible 38 = .ok (.getfield 19, 3) := zDec_at zB_dX1_isImpossible_0 23 rfl
theorem dX1_isImpossible_41 : decode cX1_isImpossible 41 = .ok (.iload_n 1, 1) := zDec_at zB_dX1_isImpossible_0 24 rfl
theorem dX1_isImpossible_42 : decode cX1_isImpossible 42 = .ok (.iaload, 1) := zDec_at zB_dX1_isImpossible_0 25 rfl
theorem dX1_isImpossible_43 : decode cX1_isImpossible 43 = .ok (.ifCond .ne 41, 3) := zDec_at zB_dX1_isImpossible_0 26 rfl
theorem dX1_isImpossible_46 : decode cX1_isImpossible 46 = .ok (.aload_n 2, 1) := zDec_at zB_dX1_isImpossible_0 27 rfl
theorem dX1_isImpossible_47 : decode cX1_isImpossible 47 = .ok (.getfield 59, 3) := zDec_at zB_dX1_isImpossible_0 28 rfl
theorem dX1_isImpossible_50 : decode cX1_isImpossible 50 = .ok (.iload_n 1, 1) := zDec_at zB_dX1_isImpossible_0 29 rfl
theorem dX1_isImpossible_51 : decode cX1_isImpossible 51 = .ok (.iaload, 1) := zDec_at zB_dX1_isImpossible_0 30 rfl
theorem dX1_isImpossible_52 : decode cX1_isImpossible 52 = .ok (.ifCond .ne 32, 3) := zDec_at zB_dX1_isImpossible_0 31 rfl
theorem dX1_isImpossible_55 : decode cX1_isImpossible 55 = .ok (.aload_n 0, 1) := zDec_at zB_dX1_isImpossible_0 32 rfl
theorem dX1_isImpossible_56 : decode cX1_isImpossible 56 = .ok (.getfield 34, 3) := zDec_at zB_dX1_isImpossible_0 33 rfl
theorem dX1_isImpossible_59 : decode cX1_isImpossible 59 = .ok (.getfield 174, 3) := zDec_at zB_dX1_isImpossible_0 34 rfl
theorem dX1_isImpossible_62 : decode cX1_isImpossible 62 = .ok (.aload_n 0, 1) := zDec_at zB_dX1_isImpossible_0 35 rfl
theorem dX1_isImpossible_63 : decode cX1_isImpossible 63 = .ok (.getfield 34, 3) := zDec_at zB_dX1_isImpossible_0 36 rfl
theorem dX1_isImpossible_66 : decode cX1_isImpossible 66 = .ok (.getfield 174, 3) := zDec_at zB_dX1_isImpossible_0 37 rfl
theorem dX1_isImpossible_69 : decode cX1_isImpossible 69 = .ok (.getfield 189, 3) := zDec_at zB_dX1_isImpossible_0 38 rfl
theorem dX1_isImpossible_72 : decode cX1_isImpossible 72 = .ok (.iload_n 3, 1) := zDec_at zB_dX1_isImpossible_0 39 rfl
theorem zB_dX1_isImpossible_73 : zDecB cX1_isImpossible [(73, .iaload, 1), (74, .iload 4, 2), (76, .invokevirtual 192, 3), (79, .ifCond .eq 5, 3), (82, .iconst 1, 1), (83, .ireturn, 1), (84, .iconst 0, 1), (85, .istore 5, 2), (87, .iload 5, 2), (89, .aload_n 2, 1), (90, .getfield 196, 3), (93, .if_icmp .ge 63, 3), (96, .aload_n 2, 1), (97, .getfield 53, 3), (100, .iload 5, 2), (102, .iaload, 1), (103, .iload 4, 2), (105, .if_icmp .ne 45, 3), (108, .aload_n 2, 1), (109, .getfield 44, 3), (112, .iload 5, 2), (114, .iaload, 1), (115, .iload_n 3, 1), (116, .if_icmp .ne 34, 3), (119, .aload_n 0, 1), (120, .getfield 19, 3), (123, .iload 5, 2), (125, .iaload, 1), (126, .invokestatic 233, 3), (129, .ifCond .eq 21, 3), (132, .aload_n 2, 1), (133, .getfield 65, 3), (136, .iload 5, 2), (138, .iaload, 1), (139, .aload_n 2, 1), (140, .getfield 65, 3), (143, .iload_n 1, 1), (144, .iaload, 1), (145, .if_icmp .eq 5, 3), (148, .iconst 1, 1)] = true := by decide +kernel
theorem dX1_isImpossible_73 : decode cX1_isImpossible 73 = .ok (.iaload, 1) := zDec_at zB_dX1_isImpossible_73 0 rfl
theorem dX1_isImpossible_74 : decode cX1_isImpossible 74 = .ok (.iload 4, 2) := zDec_at zB_dX1_isImpossible_73 1 rfl
theorem dX1_isImpossible_76 : decode cX1_isImpossible 76 = .ok (.invokevirtual 192, 3) := zDec_at zB_dX1_isImpossible_73 2 rfl
theorem dX1_isImpossible_79 : decode cX1_isImpossible 79 = .ok (.ifCond .eq 5, 3) := zDec_at zB_dX1_isImpossible_73 3 rfl
theorem dX1_isImpossible_82 : decode cX1_isImpossible 82 = .ok (.iconst 1, 1) := zDec_at zB_dX1_isImpossible_73 4 rfl
theorem dX1_isImpossible_83 : decode cX1_isImpossible 83 = .ok (.ireturn, 1) := zDec_at zB_dX1_isImpossible_73 5 rfl
theorem dX1_isImpossible_84 : decode cX1_isImpossible 84 = .ok (.iconst 0, 1) := zDec_at zB_dX1_isImpossible_73 6 rfl
theorem dX1_isImpossible_85 : decode cX1_isImpossible 85 = .ok (.istore 5, 2) := zDec_at zB_dX1_isImpossible_73 7 rfl
theorem dX1_isImpossible_87 : decode cX1_isImpossible 87 = .ok (.iload 5, 2) := zDec_at zB_dX1_isImpossible_73 8 rfl
theorem dX1_isImpossible_89 : decode cX1_isImpossible 89 = .ok (.aload_n 2, 1) := zDec_at zB_dX1_isImpossible_73 9 rfl
theorem dX1_isImpossible_90 : decode cX1_isImpossible 90 = .ok (.getfield 196, 3) := zDec_at zB_dX1_isImpossible_73 10 rfl
theorem dX1_isImpossible_93 : decode cX1_isImpossible 93 = .ok (.if_icmp .ge 63, 3) := zDec_at zB_dX1_isImpossible_73 11 rfl
theorem dX1_isImpossible_96 : decode cX1_isImpossible 96 = .ok (.aload_n 2, 1) := zDec_at zB_dX1_isImpossible_73 12 rfl
theorem dX1_isImpossible_97 : decode cX1_isImpossible 97 = .ok (.getfield 53, 3) := zDec_at zB_dX1_isImpossible_73 13 rfl
theorem dX1_isImpossible_100 : decode cX1_isImpossible 100 = .ok (.iload 5, 2) := zDec_at zB_dX1_isImpossible_73 14 rfl
theorem dX1_isImpossible_102 : decode cX1_isImpossible 102 = .ok (.iaload, 1) := zDec_at zB_dX1_isImpossible_73 15 rfl
theorem dX1_isImpossible_103 : decode cX1_isImpossible 103 = .ok (.iload 4, 2) := zDec_at zB_dX1_isImpossible_73 16 rfl
theorem dX1_isImpossible_105 : decode cX1_isImpossible 105 = .ok (.if_icmp .ne 45, 3) := zDec_at zB_dX1_isImpossible_73 17 rfl
theorem dX1_isImpossible_108 : decode cX1_isImpossible 108 = .ok (.aload_n 2, 1) := zDec_at zB_dX1_isImpossible_73 18 rfl
theorem dX1_isImpossible_109 : decode cX1_isImpossible 109 = .ok (.getfield 44, 3) := zDec_at zB_dX1_isImpossible_73 19 rfl
theorem dX1_isImpossible_112 : decode cX1_isImpossible 112 = .ok (.iload 5, 2) := zDec_at zB_dX1_isImpossible_73 20 rfl
theorem dX1_isImpossible_114 : decode cX1_isImpossible 114 = .ok (.iaload, 1) := zDec_at zB_dX1_isImpossible_73 21 rfl
theorem dX1_isImpossible_115 : decode cX1_isImpossible 115 = .ok (.iload_n 3, 1) := zDec_at zB_dX1_isImpossible_73 22 rfl
theorem dX1_isImpossible_116 : decode cX1_isImpossible 116 = .ok (.if_icmp .ne 34, 3) := zDec_at zB_dX1_isImpossible_73 23 rfl
theorem dX1_isImpossible_119 : decode cX1_isImpossible 119 = .ok (.aload_n 0, 1) := zDec_at zB_dX1_isImpossible_73 24 rfl
theorem dX1_isImpossible_120 : decode cX1_isImpossible 120 = .ok (.getfield 19, 3) := zDec_at zB_dX1_isImpossible_73 25 rfl
theorem dX1_isImpossible_123 : decode cX1_isImpossible 123 = .ok (.iload 5, 2) := zDec_at zB_dX1_isImpossible_73 26 rfl
theorem dX1_isImpossible_125 : decode cX1_isImpossible 125 = .ok (.iaload, 1) := zDec_at zB_dX1_isImpossible_73 27 rfl
theorem dX1_isImpossible_126 : decode cX1_isImpossible 126 = .ok (.invokestatic 233, 3) := zDec_at zB_dX1_isImpossible_73 28 rfl
theorem dX1_isImpossible_129 : decode cX1_isImpossible 129 = .ok (.ifCond .eq 21, 3) := zDec_at zB_dX1_isImpossible_73 29 rfl
theorem dX1_isImpossible_132 : decode cX1_isImpossible 132 = .ok (.aload_n 2, 1) := zDec_at zB_dX1_isImpossible_73 30 rfl
theorem dX1_isImpossible_133 : decode cX1_isImpossible 133 = .ok (.getfield 65, 3) := zDec_at zB_dX1_isImpossible_73 31 rfl
theorem dX1_isImpossible_136 : decode cX1_isImpossible 136 = .ok (.iload 5, 2) := zDec_at zB_dX1_isImpossible_73 32 rfl
theorem dX1_isImpossible_138 : decode cX1_isImpossible 138 = .ok (.iaload, 1) := zDec_at zB_dX1_isImpossible_73 33 rfl
theorem dX1_isImpossible_139 : decode cX1_isImpossible 139 = .ok (.aload_n 2, 1) := zDec_at zB_dX1_isImpossible_73 34 rfl
theorem dX1_isImpossible_140 : decode cX1_isImpossible 140 = .ok (.getfield 65, 3) := zDec_at zB_dX1_isImpossible_73 35 rfl
theorem dX1_isImpossible_143 : decode cX1_isImpossible 143 = .ok (.iload_n 1, 1) := zDec_at zB_dX1_isImpossible_73 36 rfl
theorem dX1_isImpossible_144 : decode cX1_isImpossible 144 = .ok (.iaload, 1) := zDec_at zB_dX1_isImpossible_73 37 rfl
theorem dX1_isImpossible_145 : decode cX1_isImpossible 145 = .ok (.if_icmp .eq 5, 3) := zDec_at zB_dX1_isImpossible_73 38 rfl
theorem dX1_isImpossible_148 : decode cX1_isImpossible 148 = .ok (.iconst 1, 1) := zDec_at zB_dX1_isImpossible_73 39 rfl
theorem zB_dX1_isImpossible_149 : zDecB cX1_isImpossible [(149, .ireturn, 1), (150, .iinc 5 1, 3), (153, .goto (-66), 3), (156, .iconst 0, 1), (157, .ireturn, 1)] = true := by decide +kernel
theorem dX1_isImpossible_149 : decode cX1_isImpossible 149 = .ok (.ireturn, 1) := zDec_at zB_dX1_isImpossible_149 0 rfl
theorem dX1_isImpossible_150 : decode cX1_isImpossible 150 = .ok (.iinc 5 1, 3) := zDec_at zB_dX1_isImpossible_149 1 rfl
theorem dX1_isImpossible_153 : decode cX1_isImpossible 153 = .ok (.goto (-66), 3) := zDec_at zB_dX1_isImpossible_149 2 rfl
theorem dX1_isImpossible_156 : decode cX1_isImpossible 156 = .ok (.iconst 0, 1) := zDec_at zB_dX1_isImpossible_149 3 rfl
theorem dX1_isImpossible_157 : decode cX1_isImpossible 157 = .ok (.ireturn, 1) := zDec_at zB_dX1_isImpossible_149 4 rfl
theorem zB_dX1_isInForce_0 : zDecB cX1_isInForce [(0, .aload_n 0, 1), (1, .getfield 34, 3), (4, .getfield 96, 3), (7, .astore 4, 2), (9, .iload_n 1, 1), (10, .ifCond .lt 42, 3), (13, .iload_n 1, 1), (14, .aload 4, 2), (16, .getfield 103, 3), (19, .if_icmp .ge 33, 3), (22, .aload 4, 2), (24, .getfield 108, 3), (27, .iload_n 1, 1), (28, .aaload, 1), (29, .ifnull 23, 3), (32, .iload_n 2, 1), (33, .iconst 0, 1), (34, .aload 4, 2), (36, .getfield 108, 3), (39, .iload_n 1, 1), (40, .aaload, 1), (41, .getfield 115, 3), (44, .iconst 1, 1), (45, .isub, 1), (46, .invokestatic 138, 3), (49, .ifCond .eq 5, 3), (52, .iconst (-1), 1), (53, .ireturn, 1), (54, .aload_n 0, 1), (55, .iload_n 3, 1), (56, .invokevirtual 100, 3), (59, .aload 4, 2), (61, .getfield 112, 3), (64, .iload_n 1, 1), (65, .iaload, 1), (66, .iload_n 3, 1), (67, .if_icmp .gt 20, 3), (70, .aload_n 0, 1), (71, .getfield 15, 3), (74, .iload_n 1, 1)] = true := by decide +kernel
theorem dX1_isInForce_0 : decode cX1_isInForce 0 = .ok (.aload_n 0, 1) := zDec_at zB_dX1_isInForce_0 0 rfl
theorem dX1_isInForce_1 : decode cX1_isInForce 1 = .ok (.getfield 34, 3) := zDec_at zB_dX1_isInForce_0 1 rfl
theorem dX1_isInForce_4 : decode cX1_isInForce 4 = .ok (.getfield 96, 3) := zDec_at zB_dX1_isInForce_0 2 rfl
theorem dX1_isInForce_7 : decode cX1_isInForce 7 = .ok (.astore 4, 2) := zDec_at zB_dX1_isInForce_0 3 rfl
theorem dX1_isInForce_9 : decode cX1_isInForce 9 = .ok (.iload_n 1, 1) := zDec_at zB_dX1_isInForce_0 4 rfl
theorem dX1_isInForce_10 : decode cX1_isInForce 10 = .ok (.ifCond .lt 42, 3) := zDec_at zB_dX1_isInForce_0 5 rfl
theorem dX1_isInForce_13 : decode cX1_isInForce 13 = .ok (.iload_n 1, 1) := zDec_at zB_dX1_isInForce_0 6 rfl
theorem dX1_isInForce_14 : decode cX1_isInForce 14 = .ok (.aload 4, 2) := zDec_at zB_dX1_isInForce_0 7 rfl
theorem dX1_isInForce_16 : decode cX1_isInForce 16 = .ok (.getfield 103, 3) := zDec_at zB_dX1_isInForce_0 8 rfl
theorem dX1_isInForce_19 : decode cX1_isInForce 19 = .ok (.if_icmp .ge 33, 3) := zDec_at zB_dX1_isInForce_0 9 rfl
theorem dX1_isInForce_22 : decode cX1_isInForce 22 = .ok (.aload 4, 2) := zDec_at zB_dX1_isInForce_0 10 rfl
theorem dX1_isInForce_24 : decode cX1_isInForce 24 = .ok (.getfield 108, 3) := zDec_at zB_dX1_isInForce_0 11 rfl
theorem dX1_isInForce_27 : decode cX1_isInForce 27 = .ok (.iload_n 1, 1) := zDec_at zB_dX1_isInForce_0 12 rfl
theorem dX1_isInForce_28 : decode cX1_isInForce 28 = .ok (.aaload, 1) := zDec_at zB_dX1_isInForce_0 13 rfl
theorem dX1_isInForce_29 : decode cX1_isInForce 29 = .ok (.ifnull 23, 3) := zDec_at zB_dX1_isInForce_0 14 rfl
theorem dX1_isInForce_32 : decode cX1_isInForce 32 = .ok (.iload_n 2, 1) := zDec_at zB_dX1_isInForce_0 15 rfl
theorem dX1_isInForce_33 : decode cX1_isInForce 33 = .ok (.iconst 0, 1) := zDec_at zB_dX1_isInForce_0 16 rfl
theorem dX1_isInForce_34 : decode cX1_isInForce 34 = .ok (.aload 4, 2) := zDec_at zB_dX1_isInForce_0 17 rfl
theorem dX1_isInForce_36 : decode cX1_isInForce 36 = .ok (.getfield 108, 3) := zDec_at zB_dX1_isInForce_0 18 rfl
theorem dX1_isInForce_39 : decode cX1_isInForce 39 = .ok (.iload_n 1, 1) := zDec_at zB_dX1_isInForce_0 19 rfl
theorem dX1_isInForce_40 : decode cX1_isInForce 40 = .ok (.aaload, 1) := zDec_at zB_dX1_isInForce_0 20 rfl
theorem dX1_isInForce_41 : decode cX1_isInForce 41 = .ok (.getfield 115, 3) := zDec_at zB_dX1_isInForce_0 21 rfl
theorem dX1_isInForce_44 : decode cX1_isInForce 44 = .ok (.iconst 1, 1) := zDec_at zB_dX1_isInForce_0 22 rfl
theorem dX1_isInForce_45 : decode cX1_isInForce 45 = .ok (.isub, 1) := zDec_at zB_dX1_isInForce_0 23 rfl
theorem dX1_isInForce_46 : decode cX1_isInForce 46 = .ok (.invokestatic 138, 3) := zDec_at zB_dX1_isInForce_0 24 rfl
theorem dX1_isInForce_49 : decode cX1_isInForce 49 = .ok (.ifCond .eq 5, 3) := zDec_at zB_dX1_isInForce_0 25 rfl
theorem dX1_isInForce_52 : decode cX1_isInForce 52 = .ok (.iconst (-1), 1) := zDec_at zB_dX1_isInForce_0 26 rfl
theorem dX1_isInForce_53 : decode cX1_isInForce 53 = .ok (.ireturn, 1) := zDec_at zB_dX1_isInForce_0 27 rfl
theorem dX1_isInForce_54 : decode cX1_isInForce 54 = .ok (.aload_n 0, 1) := zDec_at zB_dX1_isInForce_0 28 rfl
theorem dX1_isInForce_55 : decode cX1_isInForce 55 = .ok (.iload_n 3, 1) := zDec_at zB_dX1_isInForce_0 29 rfl
theorem dX1_isInForce_56 : decode cX1_isInForce 56 = .ok (.invokevirtual 100, 3) := zDec_at zB_dX1_isInForce_0 30 rfl
theorem dX1_isInForce_59 : decode cX1_isInForce 59 = .ok (.aload 4, 2) := zDec_at zB_dX1_isInForce_0 31 rfl
theorem dX1_isInForce_61 : decode cX1_isInForce 61 = .ok (.getfield 112, 3) := zDec_at zB_dX1_isInForce_0 32 rfl
theorem dX1_isInForce_64 : decode cX1_isInForce 64 = .ok (.iload_n 1, 1) := zDec_at zB_dX1_isInForce_0 33 rfl
theorem dX1_isInForce_65 : decode cX1_isInForce 65 = .ok (.iaload, 1) := zDec_at zB_dX1_isInForce_0 34 rfl
theorem dX1_isInForce_66 : decode cX1_isInForce 66 = .ok (.iload_n 3, 1) := zDec_at zB_dX1_isInForce_0 35 rfl
theorem dX1_isInForce_67 : decode cX1_isInForce 67 = .ok (.if_icmp .gt 20, 3) := zDec_at zB_dX1_isInForce_0 36 rfl
theorem dX1_isInForce_70 : decode cX1_isInForce 70 = .ok (.aload_n 0, 1) := zDec_at zB_dX1_isInForce_0 37 rfl
theorem dX1_isInForce_71 : decode cX1_isInForce 71 = .ok (.getfield 15, 3) := zDec_at zB_dX1_isInForce_0 38 rfl
theorem dX1_isInForce_74 : decode cX1_isInForce 74 = .ok (.iload_n 1, 1) := zDec_at zB_dX1_isInForce_0 39 rfl
theorem zB_dX1_isInForce_75 : zDecB cX1_isInForce [(75, .iaload, 1), (76, .iload_n 2, 1), (77, .ishr, 1), (78, .iconst 1, 1), (79, .iand, 1), (80, .ifCond .ne 7, 3), (83, .iconst 1, 1), (84, .goto 4, 3), (87, .iconst 0, 1), (88, .ireturn, 1)] = true := by decide +kernel
theorem dX1_isInForce_75 : decode cX1_isInForce 75 = .ok (.iaload, 1) := zDec_at zB_dX1_isInForce_75 0 rfl
theorem dX1_isInForce_76 : decode cX1_isInForce 76 = .ok (.iload_n 2, 1) := zDec_at zB_dX1_isInForce_75 1 rfl
theorem dX1_isInForce_77 : decode cX1_isInForce 77 = .ok (.ishr, 1) := zDec_at zB_dX1_isInForce_75 2 rfl
theorem dX1_isInForce_78 : decode cX1_isInForce 78 = .ok (.iconst 1, 1) := zDec_at zB_dX1_isInForce_75 3 rfl
theorem dX1_isInForce_79 : decode cX1_isInForce 79 = .ok (.iand, 1) := zDec_at zB_dX1_isInForce_75 4 rfl
theorem dX1_isInForce_80 : decode cX1_isInForce 80 = .ok (.ifCond .ne 7, 3) := zDec_at zB_dX1_isInForce_75 5 rfl
theorem dX1_isInForce_83 : decode cX1_isInForce 83 = .ok (.iconst 1, 1) := zDec_at zB_dX1_isInForce_75 6 rfl
theorem dX1_isInForce_84 : decode cX1_isInForce 84 = .ok (.goto 4, 3) := zDec_at zB_dX1_isInForce_75 7 rfl
theorem dX1_isInForce_87 : decode cX1_isInForce 87 = .ok (.iconst 0, 1) := zDec_at zB_dX1_isInForce_75 8 rfl
theorem dX1_isInForce_88 : decode cX1_isInForce 88 = .ok (.ireturn, 1) := zDec_at zB_dX1_isInForce_75 9 rfl
theorem zB_dX1_isStanding_0 : zDecB cX1_isStanding [(0, .iconst (-1), 1), (1, .istore 4, 2), (3, .iconst 0, 1), (4, .istore 5, 2), (6, .iload 5, 2), (8, .iload_n 2, 1), (9, .if_icmp .gt 63, 3), (12, .aload_n 0, 1), (13, .getfield 34, 3), (16, .getfield 211, 3), (19, .getfield 215, 3), (22, .iload_n 1, 1), (23, .iconst 4, 1), (24, .imul, 1), (25, .iload 5, 2), (27, .iadd, 1), (28, .iaload, 1), (29, .istore 6, 2), (31, .iload 6, 2), (33, .iconst (-1), 1), (34, .if_icmp .eq 26, 3), (37, .iload 6, 2), (39, .iload_n 3, 1), (40, .if_icmp .gt 20, 3), (43, .aload_n 0, 1), (44, .iload_n 1, 1), (45, .iload 5, 2), (47, .iload 4, 2), (49, .iconst 1, 1), (50, .iadd, 1), (51, .iload 6, 2), (53, .invokevirtual 220, 3), (56, .iconst (-1), 1), (57, .if_icmp .ne 5, 3), (60, .iconst 0, 1), (61, .ireturn, 1), (62, .iload 6, 2), (64, .istore 4, 2), (66, .iinc 5 1, 3), (69, .goto (-63), 3)] = true := by decide +kernel
theorem dX1_isStanding_0 : decode cX1_isStanding 0 = .ok (.iconst (-1), 1) := zDec_at zB_dX1_isStanding_0 0 rfl
theorem dX1_isStanding_1 : decode cX1_isStanding 1 = .ok (.istore 4, 2) := zDec_at zB_dX1_isStanding_0 1 rfl
theorem dX1_isStanding_3 : decode cX1_isStanding 3 = .ok (.iconst 0, 1) := zDec_at zB_dX1_isStanding_0 2 rfl
theorem dX1_isStanding_4 : decode cX1_isStanding 4 = .ok (.istore 5, 2) := zDec_at zB_dX1_isStanding_0 3 rfl
theorem dX1_isStanding_6 : decode cX1_isStanding 6 = .ok (.iload 5, 2) := zDec_at zB_dX1_isStanding_0 4 rfl
theorem dX1_isStanding_8 : decode cX1_isStanding 8 = .ok (.iload_n 2, 1) := zDec_at zB_dX1_isStanding_0 5 rfl
theorem dX1_isStanding_9 : decode cX1_isStanding 9 = .ok (.if_icmp .gt 63, 3) := zDec_at zB_dX1_isStanding_0 6 rfl
theorem dX1_isStanding_12 : decode cX1_isStanding 12 = .ok (.aload_n 0, 1) := zDec_at zB_dX1_isStanding_0 7 rfl
theorem dX1_isStanding_13 : decode cX1_isStanding 13 = .ok (.getfield 34, 3) := zDec_at zB_dX1_isStanding_0 8 rfl
theorem dX1_isStanding_16 : decode cX1_isStanding 16 = .ok (.getfield 211, 3) := zDec_at zB_dX1_isStanding_0 9 rfl
theorem dX1_isStanding_19 : decode cX1_isStanding 19 = .ok (.getfield 215, 3) := zDec_at zB_dX1_isStanding_0 10 rfl
theorem dX1_isStanding_22 : decode cX1_isStanding 22 = .ok (.iload_n 1, 1) := zDec_at zB_dX1_isStanding_0 11 rfl
theorem dX1_isStanding_23 : decode cX1_isStanding 23 = .ok (.iconst 4, 1) := zDec_at zB_dX1_isStanding_0 12 rfl
theorem dX1_isStanding_24 : decode cX1_isStanding 24 = .ok (.imul, 1) := zDec_at zB_dX1_isStanding_0 13 rfl
theorem dX1_isStanding_25 : decode cX1_isStanding 25 = .ok (.iload 5, 2) := zDec_at zB_dX1_isStanding_0 14 rfl
theorem dX1_isStanding_27 : decode cX1_isStanding 27 = .ok (.iadd, 1) := zDec_at zB_dX1_isStanding_0 15 rfl
theorem dX1_isStanding_28 : decode cX1_isStanding 28 = .ok (.iaload, 1) := zDec_at zB_dX1_isStanding_0 16 rfl
theorem dX1_isStanding_29 : decode cX1_isStanding 29 = .ok (.istore 6, 2) := zDec_at zB_dX1_isStanding_0 17 rfl
theorem dX1_isStanding_31 : decode cX1_isStanding 31 = .ok (.iload 6, 2) := zDec_at zB_dX1_isStanding_0 18 rfl
theorem dX1_isStanding_33 : decode cX1_isStanding 33 = .ok (.iconst (-1), 1) := zDec_at zB_dX1_isStanding_0 19 rfl
theorem dX1_isStanding_34 : decode cX1_isStanding 34 = .ok (.if_icmp .eq 26, 3) := zDec_at zB_dX1_isStanding_0 20 rfl
theorem dX1_isStanding_37 : decode cX1_isStanding 37 = .ok (.iload 6, 2) := zDec_at zB_dX1_isStanding_0 21 rfl
theorem dX1_isStanding_39 : decode cX1_isStanding 39 = .ok (.iload_n 3, 1) := zDec_at zB_dX1_isStanding_0 22 rfl
theorem dX1_isStanding_40 : decode cX1_isStanding 40 = .ok (.if_icmp .gt 20, 3) := zDec_at zB_dX1_isStanding_0 23 rfl
theorem dX1_isStanding_43 : decode cX1_isStanding 43 = .ok (.aload_n 0, 1) := zDec_at zB_dX1_isStanding_0 24 rfl
theorem dX1_isStanding_44 : decode cX1_isStanding 44 = .ok (.iload_n 1, 1) := zDec_at zB_dX1_isStanding_0 25 rfl
theorem dX1_isStanding_45 : decode cX1_isStanding 45 = .ok (.iload 5, 2) := zDec_at zB_dX1_isStanding_0 26 rfl
theorem dX1_isStanding_47 : decode cX1_isStanding 47 = .ok (.iload 4, 2) := zDec_at zB_dX1_isStanding_0 27 rfl
theorem dX1_isStanding_49 : decode cX1_isStanding 49 = .ok (.iconst 1, 1) := zDec_at zB_dX1_isStanding_0 28 rfl
theorem dX1_isStanding_50 : decode cX1_isStanding 50 = .ok (.iadd, 1) := zDec_at zB_dX1_isStanding_0 29 rfl
theorem dX1_isStanding_51 : decode cX1_isStanding 51 = .ok (.iload 6, 2) := zDec_at zB_dX1_isStanding_0 30 rfl
theorem dX1_isStanding_53 : decode cX1_isStanding 53 = .ok (.invokevirtual 220, 3) := zDec_at zB_dX1_isStanding_0 31 rfl
theorem dX1_isStanding_56 : decode cX1_isStanding 56 = .ok (.iconst (-1), 1) := zDec_at zB_dX1_isStanding_0 32 rfl
theorem dX1_isStanding_57 : decode cX1_isStanding 57 = .ok (.if_icmp .ne 5, 3) := zDec_at zB_dX1_isStanding_0 33 rfl
theorem dX1_isStanding_60 : decode cX1_isStanding 60 = .ok (.iconst 0, 1) := zDec_at zB_dX1_isStanding_0 34 rfl
theorem dX1_isStanding_61 : decode cX1_isStanding 61 = .ok (.ireturn, 1) := zDec_at zB_dX1_isStanding_0 35 rfl
theorem dX1_isStanding_62 : decode cX1_isStanding 62 = .ok (.iload 6, 2) := zDec_at zB_dX1_isStanding_0 36 rfl
theorem dX1_isStanding_64 : decode cX1_isStanding 64 = .ok (.istore 4, 2) := zDec_at zB_dX1_isStanding_0 37 rfl
theorem dX1_isStanding_66 : decode cX1_isStanding 66 = .ok (.iinc 5 1, 3) := zDec_at zB_dX1_isStanding_0 38 rfl
theorem dX1_isStanding_69 : decode cX1_isStanding 69 = .ok (.goto (-63), 3) := zDec_at zB_dX1_isStanding_0 39 rfl
theorem dX1_isStanding_72 : decode cX1_isStanding 72 = .ok (.iconst 1, 1) := by decide +kernel
theorem dX1_isStanding_73 : decode cX1_isStanding 73 = .ok (.ireturn, 1) := by decide +kernel
theorem zB_dX1_isThere_0 : zDecB cX1_isThere [(0, .iload_n 0, 1), (1, .ifCond .eq 8, 3), (4, .iload_n 0, 1), (5, .iconst 1, 1), (6, .if_icmp .ne 7, 3), (9, .iconst 1, 1), (10, .goto 4, 3), (13, .iconst 0, 1), (14, .ireturn, 1)] = true := by decide +kernel
theorem dX1_isThere_0 : decode cX1_isThere 0 = .ok (.iload_n 0, 1) := zDec_at zB_dX1_isThere_0 0 rfl
theorem dX1_isThere_1 : decode cX1_isThere 1 = .ok (.ifCond .eq 8, 3) := zDec_at zB_dX1_isThere_0 1 rfl
theorem dX1_isThere_4 : decode cX1_isThere 4 = .ok (.iload_n 0, 1) := zDec_at zB_dX1_isThere_0 2 rfl
theorem dX1_isThere_5 : decode cX1_isThere 5 = .ok (.iconst 1, 1) := zDec_at zB_dX1_isThere_0 3 rfl
theorem dX1_isThere_6 : decode cX1_isThere 6 = .ok (.if_icmp .ne 7, 3) := zDec_at zB_dX1_isThere_0 4 rfl
theorem dX1_isThere_9 : decode cX1_isThere 9 = .ok (.iconst 1, 1) := zDec_at zB_dX1_isThere_0 5 rfl
theorem dX1_isThere_10 : decode cX1_isThere 10 = .ok (.goto 4, 3) := zDec_at zB_dX1_isThere_0 6 rfl
theorem dX1_isThere_13 : decode cX1_isThere 13 = .ok (.iconst 0, 1) := zDec_at zB_dX1_isThere_0 7 rfl
theorem dX1_isThere_14 : decode cX1_isThere 14 = .ok (.ireturn, 1) := zDec_at zB_dX1_isThere_0 8 rfl
theorem zB_dX1_joinTwo_0 : zDecB cX1_joinTwo [(0, .iload_n 0, 1), (1, .tableswitch 103 2 8 #[79, 87, 95, 103, 43, 55, 67], 43), (44, .lload_n 1, 1), (45, .lload_n 3, 1), (46, .lcmp, 1), (47, .ifCond .ge 7, 3), (50, .lconst 1, 1), (51, .goto 4, 3), (54, .lconst 0, 1), (55, .lreturn, 1), (56, .lload_n 1, 1), (57, .lload_n 3, 1), (58, .lcmp, 1), (59, .ifCond .le 7, 3), (62, .lconst 1, 1), (63, .goto 4, 3), (66, .lconst 0, 1), (67, .lreturn, 1), (68, .lload_n 1, 1), (69, .lload_n 3, 1), (70, .lcmp, 1), (71, .ifCond .ne 7, 3), (74, .lconst 1, 1), (75, .goto 4, 3), (78, .lconst 0, 1), (79, .lreturn, 1), (80, .lload_n 1, 1), (81, .lload_n 3, 1), (82, .ladd, 1), (83, .lstore 5, 2), (85, .goto 36, 3), (88, .lload_n 1, 1), (89, .lload_n 3, 1), (90, .lsub, 1), (91, .lstore 5, 2), (93, .goto 28, 3), (96, .lload_n 1, 1), (97, .lload_n 3, 1), (98, .lmul, 1), (99, .lstore 5, 2)] = true := by decide +kernel
theorem dX1_joinTwo_0 : decode cX1_joinTwo 0 = .ok (.iload_n 0, 1) := zDec_at zB_dX1_joinTwo_0 0 rfl
theorem dX1_joinTwo_1 : decode cX1_joinTwo 1 = .ok (.tableswitch 103 2 8 #[79, 87, 95, 103, 43, 55, 67], 43) := zDec_at zB_dX1_joinTwo_0 1 rfl
theorem dX1_joinTwo_44 : decode cX1_joinTwo 44 = .ok (.lload_n 1, 1) := zDec_at zB_dX1_joinTwo_0 2 rfl
theorem dX1_joinTwo_45 : decode cX1_joinTwo 45 = .ok (.lload_n 3, 1) := zDec_at zB_dX1_joinTwo_0 3 rfl
theorem dX1_joinTwo_46 : decode cX1_joinTwo 46 = .ok (.lcmp, 1) := zDec_at zB_dX1_joinTwo_0 4 rfl
theorem dX1_joinTwo_47 : decode cX1_joinTwo 47 = .ok (.ifCond .ge 7, 3) := zDec_at zB_dX1_joinTwo_0 5 rfl
theorem dX1_joinTwo_50 : decode cX1_joinTwo 50 = .ok (.lconst 1, 1) := zDec_at zB_dX1_joinTwo_0 6 rfl
theorem dX1_joinTwo_51 : decode cX1_joinTwo 51 = .ok (.goto 4, 3) := zDec_at zB_dX1_joinTwo_0 7 rfl
theorem dX1_joinTwo_54 : decode cX1_joinTwo 54 = .ok (.lconst 0, 1) := zDec_at zB_dX1_joinTwo_0 8 rfl
theorem dX1_joinTwo_55 : decode cX1_joinTwo 55 = .ok (.lreturn, 1) := zDec_at zB_dX1_joinTwo_0 9 rfl
theorem dX1_joinTwo_56 : decode cX1_joinTwo 56 = .ok (.lload_n 1, 1) := zDec_at zB_dX1_joinTwo_0 10 rfl
theorem dX1_joinTwo_57 : decode cX1_joinTwo 57 = .ok (.lload_n 3, 1) := zDec_at zB_dX1_joinTwo_0 11 rfl
theorem dX1_joinTwo_58 : decode cX1_joinTwo 58 = .ok (.lcmp, 1) := zDec_at zB_dX1_joinTwo_0 12 rfl
theorem dX1_joinTwo_59 : decode cX1_joinTwo 59 = .ok (.ifCond .le 7, 3) := zDec_at zB_dX1_joinTwo_0 13 rfl
theorem dX1_joinTwo_62 : decode cX1_joinTwo 62 = .ok (.lconst 1, 1) := zDec_at zB_dX1_joinTwo_0 14 rfl
theorem dX1_joinTwo_63 : decode cX1_joinTwo 63 = .ok (.goto 4, 3) := zDec_at zB_dX1_joinTwo_0 15 rfl
theorem dX1_joinTwo_66 : decode cX1_joinTwo 66 = .ok (.lconst 0, 1) := zDec_at zB_dX1_joinTwo_0 16 rfl
theorem dX1_joinTwo_67 : decode cX1_joinTwo 67 = .ok (.lreturn, 1) := zDec_at zB_dX1_joinTwo_0 17 rfl
theorem dX1_joinTwo_68 : decode cX1_joinTwo 68 = .ok (.lload_n 1, 1) := zDec_at zB_dX1_joinTwo_0 18 rfl
theorem dX1_joinTwo_69 : decode cX1_joinTwo 69 = .ok (.lload_n 3, 1) := zDec_at zB_dX1_joinTwo_0 19 rfl
theorem dX1_joinTwo_70 : decode cX1_joinTwo 70 = .ok (.lcmp, 1) := zDec_at zB_dX1_joinTwo_0 20 rfl
theorem dX1_joinTwo_71 : decode cX1_joinTwo 71 = .ok (.ifCond .ne 7, 3) := zDec_at zB_dX1_joinTwo_0 21 rfl
theorem dX1_joinTwo_74 : decode cX1_joinTwo 74 = .ok (.lconst 1, 1) := zDec_at zB_dX1_joinTwo_0 22 rfl
theorem dX1_joinTwo_75 : decode cX1_joinTwo 75 = .ok (.goto 4, 3) := zDec_at zB_dX1_joinTwo_0 23 rfl
theorem dX1_joinTwo_78 : decode cX1_joinTwo 78 = .ok (.lconst 0, 1) := zDec_at zB_dX1_joinTwo_0 24 rfl
theorem dX1_joinTwo_79 : decode cX1_joinTwo 79 = .ok (.lreturn, 1) := zDec_at zB_dX1_joinTwo_0 25 rfl
theorem dX1_joinTwo_80 : decode cX1_joinTwo 80 = .ok (.lload_n 1, 1) := zDec_at zB_dX1_joinTwo_0 26 rfl
theorem dX1_joinTwo_81 : decode cX1_joinTwo 81 = .ok (.lload_n 3, 1) := zDec_at zB_dX1_joinTwo_0 27 rfl
theorem dX1_joinTwo_82 : decode cX1_joinTwo 82 = .ok (.ladd, 1) := zDec_at zB_dX1_joinTwo_0 28 rfl
theorem dX1_joinTwo_83 : decode cX1_joinTwo 83 = .ok (.lstore 5, 2) := zDec_at zB_dX1_joinTwo_0 29 rfl
theorem dX1_joinTwo_85 : decode cX1_joinTwo 85 = .ok (.goto 36, 3) := zDec_at zB_dX1_joinTwo_0 30 rfl
theorem dX1_joinTwo_88 : decode cX1_joinTwo 88 = .ok (.lload_n 1, 1) := zDec_at zB_dX1_joinTwo_0 31 rfl
theorem dX1_joinTwo_89 : decode cX1_joinTwo 89 = .ok (.lload_n 3, 1) := zDec_at zB_dX1_joinTwo_0 32 rfl
theorem dX1_joinTwo_90 : decode cX1_joinTwo 90 = .ok (.lsub, 1) := zDec_at zB_dX1_joinTwo_0 33 rfl
theorem dX1_joinTwo_91 : decode cX1_joinTwo 91 = .ok (.lstore 5, 2) := zDec_at zB_dX1_joinTwo_0 34 rfl
theorem dX1_joinTwo_93 : decode cX1_joinTwo 93 = .ok (.goto 28, 3) := zDec_at zB_dX1_joinTwo_0 35 rfl
theorem dX1_joinTwo_96 : decode cX1_joinTwo 96 = .ok (.lload_n 1, 1) := zDec_at zB_dX1_joinTwo_0 36 rfl
theorem dX1_joinTwo_97 : decode cX1_joinTwo 97 = .ok (.lload_n 3, 1) := zDec_at zB_dX1_joinTwo_0 37 rfl
theorem dX1_joinTwo_98 : decode cX1_joinTwo 98 = .ok (.lmul, 1) := zDec_at zB_dX1_joinTwo_0 38 rfl
theorem dX1_joinTwo_99 : decode cX1_joinTwo 99 = .ok (.lstore 5, 2) := zDec_at zB_dX1_joinTwo_0 39 rfl
theorem zB_dX1_joinTwo_101 : zDecB cX1_joinTwo [(101, .goto 20, 3), (104, .lload_n 3, 1), (105, .lconst 0, 1), (106, .lcmp, 1), (107, .ifCond .ne 9, 3), (110, .ldc2_w 155, 3), (113, .goto 6, 3), (116, .lload_n 1, 1), (117, .lload_n 3, 1), (118, .ldiv, 1), (119, .lstore 5, 2), (121, .lload 5, 2), (123, .ldc2_w 170, 3), (126, .lcmp, 1), (127, .ifCond .gt 12, 3), (130, .lload 5, 2), (132, .ldc2_w 172, 3), (135, .lcmp, 1), (136, .ifCond .ge 9, 3), (139, .ldc2_w 155, 3), (142, .goto 5, 3), (145, .lload 5, 2), (147, .lreturn, 1)] = true := by decide +kernel
theorem dX1_joinTwo_101 : decode cX1_joinTwo 101 = .ok (.goto 20, 3) := zDec_at zB_dX1_joinTwo_101 0 rfl
theorem dX1_joinTwo_104 : decode cX1_joinTwo 104 = .ok (.lload_n 3, 1) := zDec_at zB_dX1_joinTwo_101 1 rfl
theorem dX1_joinTwo_105 : decode cX1_joinTwo 105 = .ok (.lconst 0, 1) := zDec_at zB_dX1_joinTwo_101 2 rfl
theorem dX1_joinTwo_106 : decode cX1_joinTwo 106 = .ok (.lcmp, 1) := zDec_at zB_dX1_joinTwo_101 3 rfl
theorem dX1_joinTwo_107 : decode cX1_joinTwo 107 = .ok (.ifCond .ne 9, 3) := zDec_at zB_dX1_joinTwo_101 4 rfl
theorem dX1_joinTwo_110 : decode cX1_joinTwo 110 = .ok (.ldc2_w 155, 3) := zDec_at zB_dX1_joinTwo_101 5 rfl
theorem dX1_joinTwo_113 : decode cX1_joinTwo 113 = .ok (.goto 6, 3) := zDec_at zB_dX1_joinTwo_101 6 rfl
theorem dX1_joinTwo_116 : decode cX1_joinTwo 116 = .ok (.lload_n 1, 1) := zDec_at zB_dX1_joinTwo_101 7 rfl
theorem dX1_joinTwo_117 : decode cX1_joinTwo 117 = .ok (.lload_n 3, 1) := zDec_at zB_dX1_joinTwo_101 8 rfl
theorem dX1_joinTwo_118 : decode cX1_joinTwo 118 = .ok (.ldiv, 1) := zDec_at zB_dX1_joinTwo_101 9 rfl
theorem dX1_joinTwo_119 : decode cX1_joinTwo 119 = .ok (.lstore 5, 2) := zDec_at zB_dX1_joinTwo_101 10 rfl
theorem dX1_joinTwo_121 : decode cX1_joinTwo 121 = .ok (.lload 5, 2) := zDec_at zB_dX1_joinTwo_101 11 rfl
theorem dX1_joinTwo_123 : decode cX1_joinTwo 123 = .ok (.ldc2_w 170, 3) := zDec_at zB_dX1_joinTwo_101 12 rfl
theorem dX1_joinTwo_126 : decode cX1_joinTwo 126 = .ok (.lcmp, 1) := zDec_at zB_dX1_joinTwo_101 13 rfl
theorem dX1_joinTwo_127 : decode cX1_joinTwo 127 = .ok (.ifCond .gt 12, 3) := zDec_at zB_dX1_joinTwo_101 14 rfl
theorem dX1_joinTwo_130 : decode cX1_joinTwo 130 = .ok (.lload 5, 2) := zDec_at zB_dX1_joinTwo_101 15 rfl
theorem dX1_joinTwo_132 : decode cX1_joinTwo 132 = .ok (.ldc2_w 172, 3) := zDec_at zB_dX1_joinTwo_101 16 rfl
theorem dX1_joinTwo_135 : decode cX1_joinTwo 135 = .ok (.lcmp, 1) := zDec_at zB_dX1_joinTwo_101 17 rfl
theorem dX1_joinTwo_136 : decode cX1_joinTwo 136 = .ok (.ifCond .ge 9, 3) := zDec_at zB_dX1_joinTwo_101 18 rfl
theorem dX1_joinTwo_139 : decode cX1_joinTwo 139 = .ok (.ldc2_w 155, 3) := zDec_at zB_dX1_joinTwo_101 19 rfl
theorem dX1_joinTwo_142 : decode cX1_joinTwo 142 = .ok (.goto 5, 3) := zDec_at zB_dX1_joinTwo_101 20 rfl
theorem dX1_joinTwo_145 : decode cX1_joinTwo 145 = .ok (.lload 5, 2) := zDec_at zB_dX1_joinTwo_101 21 rfl
theorem dX1_joinTwo_147 : decode cX1_joinTwo 147 = .ok (.lreturn, 1) := zDec_at zB_dX1_joinTwo_101 22 rfl
theorem zB_dX1_kindOf_0 : zDecB cX1_kindOf [(0, .aload_n 0, 1), (1, .iload_n 1, 1), (2, .invokevirtual 75, 3), (5, .aload_n 0, 1), (6, .iconst 0, 1), (7, .aload_n 0, 1), (8, .getfield 34, 3), (11, .getfield 38, 3), (14, .iload_n 1, 1), (15, .iload_n 2, 1), (16, .invokevirtual 79, 3), (19, .iadd, 1), (20, .invokevirtual 83, 3), (23, .ifCond .eq 10, 3), (26, .aload_n 0, 1), (27, .getfield 87, 3), (30, .goto 4, 3), (33, .iconst 4, 1), (34, .ireturn, 1)] = true := by decide +kernel
theorem dX1_kindOf_0 : decode cX1_kindOf 0 = .ok (.aload_n 0, 1) := zDec_at zB_dX1_kindOf_0 0 rfl
theorem dX1_kindOf_1 : decode cX1_kindOf 1 = .ok (.iload_n 1, 1) := zDec_at zB_dX1_kindOf_0 1 rfl
theorem dX1_kindOf_2 : decode cX1_kindOf 2 = .ok (.invokevirtual 75, 3) := zDec_at zB_dX1_kindOf_0 2 rfl
theorem dX1_kindOf_5 : decode cX1_kindOf 5 = .ok (.aload_n 0, 1) := zDec_at zB_dX1_kindOf_0 3 rfl
theorem dX1_kindOf_6 : decode cX1_kindOf 6 = .ok (.iconst 0, 1) := zDec_at zB_dX1_kindOf_0 4 rfl
theorem dX1_kindOf_7 : decode cX1_kindOf 7 = .ok (.aload_n 0, 1) := zDec_at zB_dX1_kindOf_0 5 rfl
theorem dX1_kindOf_8 : decode cX1_kindOf 8 = .ok (.getfield 34, 3) := zDec_at zB_dX1_kindOf_0 6 rfl
theorem dX1_kindOf_11 : decode cX1_kindOf 11 = .ok (.getfield 38, 3) := zDec_at zB_dX1_kindOf_0 7 rfl
theorem dX1_kindOf_14 : decode cX1_kindOf 14 = .ok (.iload_n 1, 1) := zDec_at zB_dX1_kindOf_0 8 rfl
theorem dX1_kindOf_15 : decode cX1_kindOf 15 = .ok (.iload_n 2, 1) := zDec_at zB_dX1_kindOf_0 9 rfl
theorem dX1_kindOf_16 : decode cX1_kindOf 16 = .ok (.invokevirtual 79, 3) := zDec_at zB_dX1_kindOf_0 10 rfl
theorem dX1_kindOf_19 : decode cX1_kindOf 19 = .ok (.iadd, 1) := zDec_at zB_dX1_kindOf_0 11 rfl
theorem dX1_kindOf_20 : decode cX1_kindOf 20 = .ok (.invokevirtual 83, 3) := zDec_at zB_dX1_kindOf_0 12 rfl
theorem dX1_kindOf_23 : decode cX1_kindOf 23 = .ok (.ifCond .eq 10, 3) := zDec_at zB_dX1_kindOf_0 13 rfl
theorem dX1_kindOf_26 : decode cX1_kindOf 26 = .ok (.aload_n 0, 1) := zDec_at zB_dX1_kindOf_0 14 rfl
theorem dX1_kindOf_27 : decode cX1_kindOf 27 = .ok (.getfield 87, 3) := zDec_at zB_dX1_kindOf_0 15 rfl
theorem dX1_kindOf_30 : decode cX1_kindOf 30 = .ok (.goto 4, 3) := zDec_at zB_dX1_kindOf_0 16 rfl
theorem dX1_kindOf_33 : decode cX1_kindOf 33 = .ok (.iconst 4, 1) := zDec_at zB_dX1_kindOf_0 17 rfl
theorem dX1_kindOf_34 : decode cX1_kindOf 34 = .ok (.ireturn, 1) := zDec_at zB_dX1_kindOf_0 18 rfl
theorem zB_dX1_lastSeen_0 : zDecB cX1_lastSeen [(0, .aload_n 0, 1), (1, .getfield 34, 3), (4, .getfield 38, 3), (7, .astore 4, 2), (9, .iconst (-1), 1), (10, .istore 5, 2), (12, .iconst 0, 1), (13, .istore 6, 2), (15, .iload 6, 2), (17, .aload 4, 2), (19, .getfield 196, 3), (22, .if_icmp .ge 74, 3), (25, .aload 4, 2), (27, .getfield 53, 3), (30, .iload 6, 2), (32, .iaload, 1), (33, .istore 7, 2), (35, .aload 4, 2), (37, .getfield 44, 3), (40, .iload 6, 2), (42, .iaload, 1), (43, .iload_n 1, 1), (44, .if_icmp .ne 46, 3), (47, .iload 7, 2), (49, .iload 5, 2), (51, .if_icmp .le 39, 3), (54, .iload 7, 2), (56, .iconst 2, 1), (57, .idiv, 1), (58, .iload_n 2, 1), (59, .if_icmp .gt 31, 3), (62, .aload 4, 2), (64, .iload 6, 2), (66, .iload_n 3, 1), (67, .invokevirtual 198, 3), (70, .ifCond .eq 20, 3), (73, .aload_n 0, 1), (74, .iload 6, 2), (76, .iload_n 3, 1), (77, .invokevirtual 201, 3)] = true := by decide +kernel
theorem dX1_lastSeen_0 : decode cX1_lastSeen 0 = .ok (.aload_n 0, 1) := zDec_at zB_dX1_lastSeen_0 0 rfl
theorem dX1_lastSeen_1 : decode cX1_lastSeen 1 = .ok (.getfield 34, 3) := zDec_at zB_dX1_lastSeen_0 1 rfl
theorem dX1_lastSeen_4 : decode cX1_lastSeen 4 = .ok (.getfield 38, 3) := zDec_at zB_dX1_lastSeen_0 2 rfl
theorem dX1_lastSeen_7 : decode cX1_lastSeen 7 = .ok (.astore 4, 2) := zDec_at zB_dX1_lastSeen_0 3 rfl
theorem dX1_lastSeen_9 : decode cX1_lastSeen 9 = .ok (.iconst (-1), 1) := zDec_at zB_dX1_lastSeen_0 4 rfl
theorem dX1_lastSeen_10 : decode cX1_lastSeen 10 = .ok (.istore 5, 2) := zDec_at zB_dX1_lastSeen_0 5 rfl
theorem dX1_lastSeen_12 : decode cX1_lastSeen 12 = .ok (.iconst 0, 1) := zDec_at zB_dX1_lastSeen_0 6 rfl
theorem dX1_lastSeen_13 : decode cX1_lastSeen 13 = .ok (.istore 6, 2) := zDec_at zB_dX1_lastSeen_0 7 rfl
theorem dX1_lastSeen_15 : decode cX1_lastSeen 15 = .ok (.iload 6, 2) := zDec_at zB_dX1_lastSeen_0 8 rfl
theorem dX1_lastSeen_17 : decode cX1_lastSeen 17 = .ok (.aload 4, 2) := zDec_at zB_dX1_lastSeen_0 9 rfl
theorem dX1_lastSeen_19 : decode cX1_lastSeen 19 = .ok (.getfield 196, 3) := zDec_at zB_dX1_lastSeen_0 10 rfl
theorem dX1_lastSeen_22 : decode cX1_lastSeen 22 = .ok (.if_icmp .ge 74, 3) := zDec_at zB_dX1_lastSeen_0 11 rfl
theorem dX1_lastSeen_25 : decode cX1_lastSeen 25 = .ok (.aload 4, 2) := zDec_at zB_dX1_lastSeen_0 12 rfl
theorem dX1_lastSeen_27 : decode cX1_lastSeen 27 = .ok (.getfield 53, 3) := zDec_at zB_dX1_lastSeen_0 13 rfl
theorem dX1_lastSeen_30 : decode cX1_lastSeen 30 = .ok (.iload 6, 2) := zDec_at zB_dX1_lastSeen_0 14 rfl
theorem dX1_lastSeen_32 : decode cX1_lastSeen 32 = .ok (.iaload, 1) := zDec_at zB_dX1_lastSeen_0 15 rfl
theorem dX1_lastSeen_33 : decode cX1_lastSeen 33 = .ok (.istore 7, 2) := zDec_at zB_dX1_lastSeen_0 16 rfl
theorem dX1_lastSeen_35 : decode cX1_lastSeen 35 = .ok (.aload 4, 2) := zDec_at zB_dX1_lastSeen_0 17 rfl
theorem dX1_lastSeen_37 : decode cX1_lastSeen 37 = .ok (.getfield 44, 3) := zDec_at zB_dX1_lastSeen_0 18 rfl
theorem dX1_lastSeen_40 : decode cX1_lastSeen 40 = .ok (.iload 6, 2) := zDec_at zB_dX1_lastSeen_0 19 rfl
theorem dX1_lastSeen_42 : decode cX1_lastSeen 42 = .ok (.iaload, 1) := zDec_at zB_dX1_lastSeen_0 20 rfl
theorem dX1_lastSeen_43 : decode cX1_lastSeen 43 = .ok (.iload_n 1, 1) := zDec_at zB_dX1_lastSeen_0 21 rfl
theorem dX1_lastSeen_44 : decode cX1_lastSeen 44 = .ok (.if_icmp .ne 46, 3) := zDec_at zB_dX1_lastSeen_0 22 rfl
theorem dX1_lastSeen_47 : decode cX1_lastSeen 47 = .ok (.iload 7, 2) := zDec_at zB_dX1_lastSeen_0 23 rfl
theorem dX1_lastSeen_49 : decode cX1_lastSeen 49 = .ok (.iload 5, 2) := zDec_at zB_dX1_lastSeen_0 24 rfl
theorem dX1_lastSeen_51 : decode cX1_lastSeen 51 = .ok (.if_icmp .le 39, 3) := zDec_at zB_dX1_lastSeen_0 25 rfl
theorem dX1_lastSeen_54 : decode cX1_lastSeen 54 = .ok (.iload 7, 2) := zDec_at zB_dX1_lastSeen_0 26 rfl
theorem dX1_lastSeen_56 : decode cX1_lastSeen 56 = .ok (.iconst 2, 1) := zDec_at zB_dX1_lastSeen_0 27 rfl
theorem dX1_lastSeen_57 : decode cX1_lastSeen 57 = .ok (.idiv, 1) := zDec_at zB_dX1_lastSeen_0 28 rfl
theorem dX1_lastSeen_58 : decode cX1_lastSeen 58 = .ok (.iload_n 2, 1) := zDec_at zB_dX1_lastSeen_0 29 rfl
theorem dX1_lastSeen_59 : decode cX1_lastSeen 59 = .ok (.if_icmp .gt 31, 3) := zDec_at zB_dX1_lastSeen_0 30 rfl
theorem dX1_lastSeen_62 : decode cX1_lastSeen 62 = .ok (.aload 4, 2) := zDec_at zB_dX1_lastSeen_0 31 rfl
theorem dX1_lastSeen_64 : decode cX1_lastSeen 64 = .ok (.iload 6, 2) := zDec_at zB_dX1_lastSeen_0 32 rfl
theorem dX1_lastSeen_66 : decode cX1_lastSeen 66 = .ok (.iload_n 3, 1) := zDec_at zB_dX1_lastSeen_0 33 rfl
theorem dX1_lastSeen_67 : decode cX1_lastSeen 67 = .ok (.invokevirtual 198, 3) := zDec_at zB_dX1_lastSeen_0 34 rfl
theorem dX1_lastSeen_70 : decode cX1_lastSeen 70 = .ok (.ifCond .eq 20, 3) := zDec_at zB_dX1_lastSeen_0 35 rfl
theorem dX1_lastSeen_73 : decode cX1_lastSeen 73 = .ok (.aload_n 0, 1) := zDec_at zB_dX1_lastSeen_0 36 rfl
theorem dX1_lastSeen_74 : decode cX1_lastSeen 74 = .ok (.iload 6, 2) := zDec_at zB_dX1_lastSeen_0 37 rfl
theorem dX1_lastSeen_76 : decode cX1_lastSeen 76 = .ok (.iload_n 3, 1) := zDec_at zB_dX1_lastSeen_0 38 rfl
theorem dX1_lastSeen_77 : decode cX1_lastSeen 77 = .ok (.invokevirtual 201, 3) := zDec_at zB_dX1_lastSeen_0 39 rfl
theorem zB_dX1_lastSeen_80 : zDecB cX1_lastSeen [(80, .invokestatic 233, 3), (83, .ifCond .eq 7, 3), (86, .iload 7, 2), (88, .istore 5, 2), (90, .iinc 6 1, 3), (93, .goto (-78), 3), (96, .iload 5, 2), (98, .ireturn, 1)] = true := by decide +kernel
theorem dX1_lastSeen_80 : decode cX1_lastSeen 80 = .ok (.invokestatic 233, 3) := zDec_at zB_dX1_lastSeen_80 0 rfl
theorem dX1_lastSeen_83 : decode cX1_lastSeen 83 = .ok (.ifCond .eq 7, 3) := zDec_at zB_dX1_lastSeen_80 1 rfl
theorem dX1_lastSeen_86 : decode cX1_lastSeen 86 = .ok (.iload 7, 2) := zDec_at zB_dX1_lastSeen_80 2 rfl
theorem dX1_lastSeen_88 : decode cX1_lastSeen 88 = .ok (.istore 5, 2) := zDec_at zB_dX1_lastSeen_80 3 rfl
theorem dX1_lastSeen_90 : decode cX1_lastSeen 90 = .ok (.iinc 6 1, 3) := zDec_at zB_dX1_lastSeen_80 4 rfl
theorem dX1_lastSeen_93 : decode cX1_lastSeen 93 = .ok (.goto (-78), 3) := zDec_at zB_dX1_lastSeen_80 5 rfl
theorem dX1_lastSeen_96 : decode cX1_lastSeen 96 = .ok (.iload 5, 2) := zDec_at zB_dX1_lastSeen_80 6 rfl
theorem dX1_lastSeen_98 : decode cX1_lastSeen 98 = .ok (.ireturn, 1) := zDec_at zB_dX1_lastSeen_80 7 rfl
theorem zB_dX1_noteKinds_0 : zDecB cX1_noteKinds [(0, .iconst 0, 1), (1, .istore_n 2, 1), (2, .iload_n 2, 1), (3, .aload_n 0, 1), (4, .getfield 34, 3), (7, .getfield 38, 3), (10, .getfield 196, 3), (13, .if_icmp .ge 40, 3), (16, .aload_n 0, 1), (17, .getfield 19, 3), (20, .iload_n 2, 1), (21, .aload_n 0, 1), (22, .getfield 34, 3), (25, .getfield 38, 3), (28, .iload_n 2, 1), (29, .iload_n 1, 1), (30, .invokevirtual 198, 3), (33, .ifCond .eq 12, 3), (36, .aload_n 0, 1), (37, .iload_n 2, 1), (38, .iload_n 1, 1), (39, .invokevirtual 201, 3), (42, .goto 4, 3), (45, .iconst (-1), 1), (46, .iastore, 1), (47, .iinc 2 1, 3), (50, .goto (-48), 3), (53, .return_, 1)] = true := by decide +kernel
theorem dX1_noteKinds_0 : decode cX1_noteKinds 0 = .ok (.iconst 0, 1) := zDec_at zB_dX1_noteKinds_0 0 rfl
theorem dX1_noteKinds_1 : decode cX1_noteKinds 1 = .ok (.istore_n 2, 1) := zDec_at zB_dX1_noteKinds_0 1 rfl
theorem dX1_noteKinds_2 : decode cX1_noteKinds 2 = .ok (.iload_n 2, 1) := zDec_at zB_dX1_noteKinds_0 2 rfl
theorem dX1_noteKinds_3 : decode cX1_noteKinds 3 = .ok (.aload_n 0, 1) := zDec_at zB_dX1_noteKinds_0 3 rfl
theorem dX1_noteKinds_4 : decode cX1_noteKinds 4 = .ok (.getfield 34, 3) := zDec_at zB_dX1_noteKinds_0 4 rfl
theorem dX1_noteKinds_7 : decode cX1_noteKinds 7 = .ok (.getfield 38, 3) := zDec_at zB_dX1_noteKinds_0 5 rfl
theorem dX1_noteKinds_10 : decode cX1_noteKinds 10 = .ok (.getfield 196, 3) := zDec_at zB_dX1_noteKinds_0 6 rfl
theorem dX1_noteKinds_13 : decode cX1_noteKinds 13 = .ok (.if_icmp .ge 40, 3) := zDec_at zB_dX1_noteKinds_0 7 rfl
theorem dX1_noteKinds_16 : decode cX1_noteKinds 16 = .ok (.aload_n 0, 1) := zDec_at zB_dX1_noteKinds_0 8 rfl
theorem dX1_noteKinds_17 : decode cX1_noteKinds 17 = .ok (.getfield 19, 3) := zDec_at zB_dX1_noteKinds_0 9 rfl
theorem dX1_noteKinds_20 : decode cX1_noteKinds 20 = .ok (.iload_n 2, 1) := zDec_at zB_dX1_noteKinds_0 10 rfl
theorem dX1_noteKinds_21 : decode cX1_noteKinds 21 = .ok (.aload_n 0, 1) := zDec_at zB_dX1_noteKinds_0 11 rfl
theorem dX1_noteKinds_22 : decode cX1_noteKinds 22 = .ok (.getfield 34, 3) := zDec_at zB_dX1_noteKinds_0 12 rfl
theorem dX1_noteKinds_25 : decode cX1_noteKinds 25 = .ok (.getfield 38, 3) := zDec_at zB_dX1_noteKinds_0 13 rfl
theorem dX1_noteKinds_28 : decode cX1_noteKinds 28 = .ok (.iload_n 2, 1) := zDec_at zB_dX1_noteKinds_0 14 rfl
theorem dX1_noteKinds_29 : decode cX1_noteKinds 29 = .ok (.iload_n 1, 1) := zDec_at zB_dX1_noteKinds_0 15 rfl
theorem dX1_noteKinds_30 : decode cX1_noteKinds 30 = .ok (.invokevirtual 198, 3) := zDec_at zB_dX1_noteKinds_0 16 rfl
theorem dX1_noteKinds_33 : decode cX1_noteKinds 33 = .ok (.ifCond .eq 12, 3) := zDec_at zB_dX1_noteKinds_0 17 rfl
theorem dX1_noteKinds_36 : decode cX1_noteKinds 36 = .ok (.aload_n 0, 1) := zDec_at zB_dX1_noteKinds_0 18 rfl
theorem dX1_noteKinds_37 : decode cX1_noteKinds 37 = .ok (.iload_n 2, 1) := zDec_at zB_dX1_noteKinds_0 19 rfl
theorem dX1_noteKinds_38 : decode cX1_noteKinds 38 = .ok (.iload_n 1, 1) := zDec_at zB_dX1_noteKinds_0 20 rfl
theorem dX1_noteKinds_39 : decode cX1_noteKinds 39 = .ok (.invokevirtual 201, 3) := zDec_at zB_dX1_noteKinds_0 21 rfl
theorem dX1_noteKinds_42 : decode cX1_noteKinds 42 = .ok (.goto 4, 3) := zDec_at zB_dX1_noteKinds_0 22 rfl
theorem dX1_noteKinds_45 : decode cX1_noteKinds 45 = .ok (.iconst (-1), 1) := zDec_at zB_dX1_noteKinds_0 23 rfl
theorem dX1_noteKinds_46 : decode cX1_noteKinds 46 = .ok (.iastore, 1) := zDec_at zB_dX1_noteKinds_0 24 rfl
theorem dX1_noteKinds_47 : decode cX1_noteKinds 47 = .ok (.iinc 2 1, 3) := zDec_at zB_dX1_noteKinds_0 25 rfl
theorem dX1_noteKinds_50 : decode cX1_noteKinds 50 = .ok (.goto (-48), 3) := zDec_at zB_dX1_noteKinds_0 26 rfl
theorem dX1_noteKinds_53 : decode cX1_noteKinds 53 = .ok (.return_, 1) := zDec_at zB_dX1_noteKinds_0 27 rfl
theorem zB_dX1_rateNumber_0 : zDecB cX1_rateNumber [(0, .aload_n 0, 1), (1, .getfield 227, 3), (4, .aload_n 0, 1), (5, .getfield 224, 3), (8, .invokestatic 230, 3), (11, .istore_n 2, 1), (12, .iload_n 1, 1), (13, .tableswitch 71 0 3 #[31, 36, 41, 56], 31), (44, .aload_n 0, 1), (45, .getfield 224, 3), (48, .ireturn, 1), (49, .aload_n 0, 1), (50, .getfield 227, 3), (53, .ireturn, 1), (54, .iload_n 2, 1), (55, .ifCond .ne 7, 3), (58, .iconst 0, 1), (59, .goto 9, 3), (62, .aload_n 0, 1), (63, .getfield 227, 3), (66, .iload_n 2, 1), (67, .idiv, 1), (68, .ireturn, 1), (69, .iload_n 2, 1), (70, .ifCond .ne 7, 3), (73, .iconst 1, 1), (74, .goto 9, 3), (77, .aload_n 0, 1), (78, .getfield 224, 3), (81, .iload_n 2, 1), (82, .idiv, 1), (83, .ireturn, 1), (84, .iconst (-1), 1), (85, .ireturn, 1)] = true := by decide +kernel
theorem dX1_rateNumber_0 : decode cX1_rateNumber 0 = .ok (.aload_n 0, 1) := zDec_at zB_dX1_rateNumber_0 0 rfl
theorem dX1_rateNumber_1 : decode cX1_rateNumber 1 = .ok (.getfield 227, 3) := zDec_at zB_dX1_rateNumber_0 1 rfl
theorem dX1_rateNumber_4 : decode cX1_rateNumber 4 = .ok (.aload_n 0, 1) := zDec_at zB_dX1_rateNumber_0 2 rfl
theorem dX1_rateNumber_5 : decode cX1_rateNumber 5 = .ok (.getfield 224, 3) := zDec_at zB_dX1_rateNumber_0 3 rfl
theorem dX1_rateNumber_8 : decode cX1_rateNumber 8 = .ok (.invokestatic 230, 3) := zDec_at zB_dX1_rateNumber_0 4 rfl
theorem dX1_rateNumber_11 : decode cX1_rateNumber 11 = .ok (.istore_n 2, 1) := zDec_at zB_dX1_rateNumber_0 5 rfl
theorem dX1_rateNumber_12 : decode cX1_rateNumber 12 = .ok (.iload_n 1, 1) := zDec_at zB_dX1_rateNumber_0 6 rfl
theorem dX1_rateNumber_13 : decode cX1_rateNumber 13 = .ok (.tableswitch 71 0 3 #[31, 36, 41, 56], 31) := zDec_at zB_dX1_rateNumber_0 7 rfl
theorem dX1_rateNumber_44 : decode cX1_rateNumber 44 = .ok (.aload_n 0, 1) := zDec_at zB_dX1_rateNumber_0 8 rfl
theorem dX1_rateNumber_45 : decode cX1_rateNumber 45 = .ok (.getfield 224, 3) := zDec_at zB_dX1_rateNumber_0 9 rfl
theorem dX1_rateNumber_48 : decode cX1_rateNumber 48 = .ok (.ireturn, 1) := zDec_at zB_dX1_rateNumber_0 10 rfl
theorem dX1_rateNumber_49 : decode cX1_rateNumber 49 = .ok (.aload_n 0, 1) := zDec_at zB_dX1_rateNumber_0 11 rfl
theorem dX1_rateNumber_50 : decode cX1_rateNumber 50 = .ok (.getfield 227, 3) := zDec_at zB_dX1_rateNumber_0 12 rfl
theorem dX1_rateNumber_53 : decode cX1_rateNumber 53 = .ok (.ireturn, 1) := zDec_at zB_dX1_rateNumber_0 13 rfl
theorem dX1_rateNumber_54 : decode cX1_rateNumber 54 = .ok (.iload_n 2, 1) := zDec_at zB_dX1_rateNumber_0 14 rfl
theorem dX1_rateNumber_55 : decode cX1_rateNumber 55 = .ok (.ifCond .ne 7, 3) := zDec_at zB_dX1_rateNumber_0 15 rfl
theorem dX1_rateNumber_58 : decode cX1_rateNumber 58 = .ok (.iconst 0, 1) := zDec_at zB_dX1_rateNumber_0 16 rfl
theorem dX1_rateNumber_59 : decode cX1_rateNumber 59 = .ok (.goto 9, 3) := zDec_at zB_dX1_rateNumber_0 17 rfl
theorem dX1_rateNumber_62 : decode cX1_rateNumber 62 = .ok (.aload_n 0, 1) := zDec_at zB_dX1_rateNumber_0 18 rfl
theorem dX1_rateNumber_63 : decode cX1_rateNumber 63 = .ok (.getfield 227, 3) := zDec_at zB_dX1_rateNumber_0 19 rfl
theorem dX1_rateNumber_66 : decode cX1_rateNumber 66 = .ok (.iload_n 2, 1) := zDec_at zB_dX1_rateNumber_0 20 rfl
theorem dX1_rateNumber_67 : decode cX1_rateNumber 67 = .ok (.idiv, 1) := zDec_at zB_dX1_rateNumber_0 21 rfl
theorem dX1_rateNumber_68 : decode cX1_rateNumber 68 = .ok (.ireturn, 1) := zDec_at zB_dX1_rateNumber_0 22 rfl
theorem dX1_rateNumber_69 : decode cX1_rateNumber 69 = .ok (.iload_n 2, 1) := zDec_at zB_dX1_rateNumber_0 23 rfl
theorem dX1_rateNumber_70 : decode cX1_rateNumber 70 = .ok (.ifCond .ne 7, 3) := zDec_at zB_dX1_rateNumber_0 24 rfl
theorem dX1_rateNumber_73 : decode cX1_rateNumber 73 = .ok (.iconst 1, 1) := zDec_at zB_dX1_rateNumber_0 25 rfl
theorem dX1_rateNumber_74 : decode cX1_rateNumber 74 = .ok (.goto 9, 3) := zDec_at zB_dX1_rateNumber_0 26 rfl
theorem dX1_rateNumber_77 : decode cX1_rateNumber 77 = .ok (.aload_n 0, 1) := zDec_at zB_dX1_rateNumber_0 27 rfl
theorem dX1_rateNumber_78 : decode cX1_rateNumber 78 = .ok (.getfield 224, 3) := zDec_at zB_dX1_rateNumber_0 28 rfl
theorem dX1_rateNumber_81 : decode cX1_rateNumber 81 = .ok (.iload_n 2, 1) := zDec_at zB_dX1_rateNumber_0 29 rfl
theorem dX1_rateNumber_82 : decode cX1_rateNumber 82 = .ok (.idiv, 1) := zDec_at zB_dX1_rateNumber_0 30 rfl
theorem dX1_rateNumber_83 : decode cX1_rateNumber 83 = .ok (.ireturn, 1) := zDec_at zB_dX1_rateNumber_0 31 rfl
theorem dX1_rateNumber_84 : decode cX1_rateNumber 84 = .ok (.iconst (-1), 1) := zDec_at zB_dX1_rateNumber_0 32 rfl
theorem dX1_rateNumber_85 : decode cX1_rateNumber 85 = .ok (.ireturn, 1) := zDec_at zB_dX1_rateNumber_0 33 rfl
theorem zB_dX1_reckon_0 : zDecB cX1_reckon [(0, .iconst 0, 1), (1, .istore 4, 2), (3, .iload_n 2, 1), (4, .istore 5, 2), (6, .iload 5, 2), (8, .iload_n 3, 1), (9, .if_icmp .ge 244, 3), (12, .aload_n 1, 1), (13, .iload 5, 2), (15, .iaload, 1), (16, .sipush 255, 3), (19, .iand, 1), (20, .istore 6, 2), (22, .aload_n 1, 1), (23, .iload 5, 2), (25, .iaload, 1), (26, .bipush 8, 2), (28, .ishr, 1), (29, .istore 7, 2), (31, .iload 6, 2), (33, .ifCond .eq 9, 3), (36, .iload 6, 2), (38, .iconst 1, 1), (39, .if_icmp .ne 48, 3), (42, .iload 4, 2), (44, .aload_n 0, 1), (45, .getfield 9, 3), (48, .arraylength, 1), (49, .if_icmp .lt 7, 3), (52, .ldc2_w 155, 3), (55, .lreturn, 1), (56, .aload_n 0, 1), (57, .getfield 9, 3), (60, .iload 4, 2), (62, .iload 6, 2), (64, .ifCond .ne 9, 3), (67, .iload 7, 2), (69, .i2l, 1), (70, .goto 10, 3), (73, .aload_n 0, 1)] = true := by decide +kernel
theorem dX1_reckon_0 : decode cX1_reckon 0 = .ok (.iconst 0, 1) := zDec_at zB_dX1_reckon_0 0 rfl
theorem dX1_reckon_1 : decode cX1_reckon 1 = .ok (.istore 4, 2) := zDec_at zB_dX1_reckon_0 1 rfl
theorem dX1_reckon_3 : decode cX1_reckon 3 = .ok (.iload_n 2, 1) := zDec_at zB_dX1_reckon_0 2 rfl
theorem dX1_reckon_4 : decode cX1_reckon 4 = .ok (.istore 5, 2) := zDec_at zB_dX1_reckon_0 3 rfl
theorem dX1_reckon_6 : decode cX1_reckon 6 = .ok (.iload 5, 2) := zDec_at zB_dX1_reckon_0 4 rfl
theorem dX1_reckon_8 : decode cX1_reckon 8 = .ok (.iload_n 3, 1) := zDec_at zB_dX1_reckon_0 5 rfl
theorem dX1_reckon_9 : decode cX1_reckon 9 = .ok (.if_icmp .ge 244, 3) := zDec_at zB_dX1_reckon_0 6 rfl
theorem dX1_reckon_12 : decode cX1_reckon 12 = .ok (.aload_n 1, 1) := zDec_at zB_dX1_reckon_0 7 rfl
theorem dX1_reckon_13 : decode cX1_reckon 13 = .ok (.iload 5, 2) := zDec_at zB_dX1_reckon_0 8 rfl
theorem dX1_reckon_15 : decode cX1_reckon 15 = .ok (.iaload, 1) := zDec_at zB_dX1_reckon_0 9 rfl
theorem dX1_reckon_16 : decode cX1_reckon 16 = .ok (.sipush 255, 3) := zDec_at zB_dX1_reckon_0 10 rfl
theorem dX1_reckon_19 : decode cX1_reckon 19 = .ok (.iand, 1) := zDec_at zB_dX1_reckon_0 11 rfl
theorem dX1_reckon_20 : decode cX1_reckon 20 = .ok (.istore 6, 2) := zDec_at zB_dX1_reckon_0 12 rfl
theorem dX1_reckon_22 : decode cX1_reckon 22 = .ok (.aload_n 1, 1) := zDec_at zB_dX1_reckon_0 13 rfl
theorem dX1_reckon_23 : decode cX1_reckon 23 = .ok (.iload 5, 2) := zDec_at zB_dX1_reckon_0 14 rfl
theorem dX1_reckon_25 : decode cX1_reckon 25 = .ok (.iaload, 1) := zDec_at zB_dX1_reckon_0 15 rfl
theorem dX1_reckon_26 : decode cX1_reckon 26 = .ok (.bipush 8, 2) := zDec_at zB_dX1_reckon_0 16 rfl
theorem dX1_reckon_28 : decode cX1_reckon 28 = .ok (.ishr, 1) := zDec_at zB_dX1_reckon_0 17 rfl
theorem dX1_reckon_29 : decode cX1_reckon 29 = .ok (.istore 7, 2) := zDec_at zB_dX1_reckon_0 18 rfl
theorem dX1_reckon_31 : decode cX1_reckon 31 = .ok (.iload 6, 2) := zDec_at zB_dX1_reckon_0 19 rfl
theorem dX1_reckon_33 : decode cX1_reckon 33 = .ok (.ifCond .eq 9, 3) := zDec_at zB_dX1_reckon_0 20 rfl
theorem dX1_reckon_36 : decode cX1_reckon 36 = .ok (.iload 6, 2) := zDec_at zB_dX1_reckon_0 21 rfl
theorem dX1_reckon_38 : decode cX1_reckon 38 = .ok (.iconst 1, 1) := zDec_at zB_dX1_reckon_0 22 rfl
theorem dX1_reckon_39 : decode cX1_reckon 39 = .ok (.if_icmp .ne 48, 3) := zDec_at zB_dX1_reckon_0 23 rfl
theorem dX1_reckon_42 : decode cX1_reckon 42 = .ok (.iload 4, 2) := zDec_at zB_dX1_reckon_0 24 rfl
theorem dX1_reckon_44 : decode cX1_reckon 44 = .ok (.aload_n 0, 1) := zDec_at zB_dX1_reckon_0 25 rfl
theorem dX1_reckon_45 : decode cX1_reckon 45 = .ok (.getfield 9, 3) := zDec_at zB_dX1_reckon_0 26 rfl
theorem dX1_reckon_48 : decode cX1_reckon 48 = .ok (.arraylength, 1) := zDec_at zB_dX1_reckon_0 27 rfl
theorem dX1_reckon_49 : decode cX1_reckon 49 = .ok (.if_icmp .lt 7, 3) := zDec_at zB_dX1_reckon_0 28 rfl
theorem dX1_reckon_52 : decode cX1_reckon 52 = .ok (.ldc2_w 155, 3) := zDec_at zB_dX1_reckon_0 29 rfl
theorem dX1_reckon_55 : decode cX1_reckon 55 = .ok (.lreturn, 1) := zDec_at zB_dX1_reckon_0 30 rfl
theorem dX1_reckon_56 : decode cX1_reckon 56 = .ok (.aload_n 0, 1) := zDec_at zB_dX1_reckon_0 31 rfl
theorem dX1_reckon_57 : decode cX1_reckon 57 = .ok (.getfield 9, 3) := zDec_at zB_dX1_reckon_0 32 rfl
theorem dX1_reckon_60 : decode cX1_reckon 60 = .ok (.iload 4, 2) := zDec_at zB_dX1_reckon_0 33 rfl
theorem dX1_reckon_62 : decode cX1_reckon 62 = .ok (.iload 6, 2) := zDec_at zB_dX1_reckon_0 34 rfl
theorem dX1_reckon_64 : decode cX1_reckon 64 = .ok (.ifCond .ne 9, 3) := zDec_at zB_dX1_reckon_0 35 rfl
theorem dX1_reckon_67 : decode cX1_reckon 67 = .ok (.iload 7, 2) := zDec_at zB_dX1_reckon_0 36 rfl
theorem dX1_reckon_69 : decode cX1_reckon 69 = .ok (.i2l, 1) := zDec_at zB_dX1_reckon_0 37 rfl
theorem dX1_reckon_70 : decode cX1_reckon 70 = .ok (.goto 10, 3) := zDec_at zB_dX1_reckon_0 38 rfl
theorem dX1_reckon_73 : decode cX1_reckon 73 = .ok (.aload_n 0, 1) := zDec_at zB_dX1_reckon_0 39 rfl
theorem zB_dX1_reckon_74 : zDecB cX1_reckon [(74, .iload 7, 2), (76, .invokevirtual 157, 3), (79, .i2l, 1), (80, .lastore, 1), (81, .iinc 4 1, 3), (84, .goto 163, 3), (87, .iload 4, 2), (89, .iconst 1, 1), (90, .if_icmp .ge 7, 3), (93, .ldc2_w 155, 3), (96, .lreturn, 1), (97, .iload 6, 2), (99, .bipush 9, 2), (101, .if_icmp .ne 26, 3), (104, .aload_n 0, 1), (105, .getfield 9, 3), (108, .iload 4, 2), (110, .iconst 1, 1), (111, .isub, 1), (112, .lconst 1, 1), (113, .aload_n 0, 1), (114, .getfield 9, 3), (117, .iload 4, 2), (119, .iconst 1, 1), (120, .isub, 1), (121, .laload, 1), (122, .lsub, 1), (123, .lastore, 1), (124, .goto 123, 3), (127, .iload 6, 2), (129, .bipush 10, 2), (131, .if_icmp .eq 10, 3), (134, .iload 6, 2), (136, .bipush 11, 2), (138, .if_icmp .ne 49, 3), (141, .aload_n 0, 1), (142, .getfield 9, 3), (145, .iload 4, 2), (147, .iconst 1, 1), (148, .isub, 1)] = true := by decide +kernel
theorem dX1_reckon_74 : decode cX1_reckon 74 = .ok (.iload 7, 2) := zDec_at zB_dX1_reckon_74 0 rfl
theorem dX1_reckon_76 : decode cX1_reckon 76 = .ok (.invokevirtual 157, 3) := zDec_at zB_dX1_reckon_74 1 rfl
theorem dX1_reckon_79 : decode cX1_reckon 79 = .ok (.i2l, 1) := zDec_at zB_dX1_reckon_74 2 rfl
theorem dX1_reckon_80 : decode cX1_reckon 80 = .ok (.lastore, 1) := zDec_at zB_dX1_reckon_74 3 rfl
theorem dX1_reckon_81 : decode cX1_reckon 81 = .ok (.iinc 4 1, 3) := zDec_at zB_dX1_reckon_74 4 rfl
theorem dX1_reckon_84 : decode cX1_reckon 84 = .ok (.goto 163, 3) := zDec_at zB_dX1_reckon_74 5 rfl
theorem dX1_reckon_87 : decode cX1_reckon 87 = .ok (.iload 4, 2) := zDec_at zB_dX1_reckon_74 6 rfl
theorem dX1_reckon_89 : decode cX1_reckon 89 = .ok (.iconst 1, 1) := zDec_at zB_dX1_reckon_74 7 rfl
theorem dX1_reckon_90 : decode cX1_reckon 90 = .ok (.if_icmp .ge 7, 3) := zDec_at zB_dX1_reckon_74 8 rfl
theorem dX1_reckon_93 : decode cX1_reckon 93 = .ok (.ldc2_w 155, 3) := zDec_at zB_dX1_reckon_74 9 rfl
theorem dX1_reckon_96 : decode cX1_reckon 96 = .ok (.lreturn, 1) := zDec_at zB_dX1_reckon_74 10 rfl
theorem dX1_reckon_97 : decode cX1_reckon 97 = .ok (.iload 6, 2) := zDec_at zB_dX1_reckon_74 11 rfl
theorem dX1_reckon_99 : decode cX1_reckon 99 = .ok (.bipush 9, 2) := zDec_at zB_dX1_reckon_74 12 rfl
theorem dX1_reckon_101 : decode cX1_reckon 101 = .ok (.if_icmp .ne 26, 3) := zDec_at zB_dX1_reckon_74 13 rfl
theorem dX1_reckon_104 : decode cX1_reckon 104 = .ok (.aload_n 0, 1) := zDec_at zB_dX1_reckon_74 14 rfl
theorem dX1_reckon_105 : decode cX1_reckon 105 = .ok (.getfield 9, 3) := zDec_at zB_dX1_reckon_74 15 rfl
theorem dX1_reckon_108 : decode cX1_reckon 108 = .ok (.iload 4, 2) := zDec_at zB_dX1_reckon_74 16 rfl
theorem dX1_reckon_110 : decode cX1_reckon 110 = .ok (.iconst 1, 1) := zDec_at zB_dX1_reckon_74 17 rfl
theorem dX1_reckon_111 : decode cX1_reckon 111 = .ok (.isub, 1) := zDec_at zB_dX1_reckon_74 18 rfl
theorem dX1_reckon_112 : decode cX1_reckon 112 = .ok (.lconst 1, 1) := zDec_at zB_dX1_reckon_74 19 rfl
theorem dX1_reckon_113 : decode cX1_reckon 113 = .ok (.aload_n 0, 1) := zDec_at zB_dX1_reckon_74 20 rfl
theorem dX1_reckon_114 : decode cX1_reckon 114 = .ok (.getfield 9, 3) := zDec_at zB_dX1_reckon_74 21 rfl
theorem dX1_reckon_117 : decode cX1_reckon 117 = .ok (.iload 4, 2) := zDec_at zB_dX1_reckon_74 22 rfl
theorem dX1_reckon_119 : decode cX1_reckon 119 = .ok (.iconst 1, 1) := zDec_at zB_dX1_reckon_74 23 rfl
theorem dX1_reckon_120 : decode cX1_reckon 120 = .ok (.isub, 1) := zDec_at zB_dX1_reckon_74 24 rfl
theorem dX1_reckon_121 : decode cX1_reckon 121 = .ok (.laload, 1) := zDec_at zB_dX1_reckon_74 25 rfl
theorem dX1_reckon_122 : decode cX1_reckon 122 = .ok (.lsub, 1) := zDec_at zB_dX1_reckon_74 26 rfl
theorem dX1_reckon_123 : decode cX1_reckon 123 = .ok (.lastore, 1) := zDec_at zB_dX1_reckon_74 27 rfl
theorem dX1_reckon_124 : decode cX1_reckon 124 = .ok (.goto 123, 3) := zDec_at zB_dX1_reckon_74 28 rfl
theorem dX1_reckon_127 : decode cX1_reckon 127 = .ok (.iload 6, 2) := zDec_at zB_dX1_reckon_74 29 rfl
theorem dX1_reckon_129 : decode cX1_reckon 129 = .ok (.bipush 10, 2) := zDec_at zB_dX1_reckon_74 30 rfl
theorem dX1_reckon_131 : decode cX1_reckon 131 = .ok (.if_icmp .eq 10, 3) := zDec_at zB_dX1_reckon_74 31 rfl
theorem dX1_reckon_134 : decode cX1_reckon 134 = .ok (.iload 6, 2) := zDec_at zB_dX1_reckon_74 32 rfl
theorem dX1_reckon_136 : decode cX1_reckon 136 = .ok (.bipush 11, 2) := zDec_at zB_dX1_reckon_74 33 rfl
theorem dX1_reckon_138 : decode cX1_reckon 138 = .ok (.if_icmp .ne 49, 3) := zDec_at zB_dX1_reckon_74 34 rfl
theorem dX1_reckon_141 : decode cX1_reckon 141 = .ok (.aload_n 0, 1) := zDec_at zB_dX1_reckon_74 35 rfl
theorem dX1_reckon_142 : decode cX1_reckon 142 = .ok (.getfield 9, 3) := zDec_at zB_dX1_reckon_74 36 rfl
theorem dX1_reckon_145 : decode cX1_reckon 145 = .ok (.iload 4, 2) := zDec_at zB_dX1_reckon_74 37 rfl
theorem dX1_reckon_147 : decode cX1_reckon 147 = .ok (.iconst 1, 1) := zDec_at zB_dX1_reckon_74 38 rfl
theorem dX1_reckon_148 : decode cX1_reckon 148 = .ok (.isub, 1) := zDec_at zB_dX1_reckon_74 39 rfl
theorem zB_dX1_reckon_149 : zDecB cX1_reckon [(149, .laload, 1), (150, .iload 6, 2), (152, .bipush 11, 2), (154, .if_icmp .ne 7, 3), (157, .iconst 1, 1), (158, .goto 4, 3), (161, .iconst 0, 1), (162, .i2l, 1), (163, .lcmp, 1), (164, .ifCond .ne 17, 3), (167, .iload 5, 2), (169, .iload 7, 2), (171, .iconst 1, 1), (172, .isub, 1), (173, .invokestatic 161, 3), (176, .istore 5, 2), (178, .goto 69, 3), (181, .iinc 4 (-1), 3), (184, .goto 63, 3), (187, .iinc 4 (-1), 3), (190, .iload 4, 2), (192, .iconst 1, 1), (193, .if_icmp .ge 7, 3), (196, .ldc2_w 155, 3), (199, .lreturn, 1), (200, .iload 6, 2), (202, .aload_n 0, 1), (203, .getfield 9, 3), (206, .iload 4, 2), (208, .iconst 1, 1), (209, .isub, 1), (210, .laload, 1), (211, .aload_n 0, 1), (212, .getfield 9, 3), (215, .iload 4, 2), (217, .laload, 1), (218, .invokestatic 166, 3), (221, .lstore 8, 2), (223, .lload 8, 2), (225, .ldc2_w 155, 3)] = true := by decide +kernel
theorem dX1_reckon_149 : decode cX1_reckon 149 = .ok (.laload, 1) := zDec_at zB_dX1_reckon_149 0 rfl
theorem dX1_reckon_150 : decode cX1_reckon 150 = .ok (.iload 6, 2) := zDec_at zB_dX1_reckon_149 1 rfl
theorem dX1_reckon_152 : decode cX1_reckon 152 = .ok (.bipush 11, 2) := zDec_at zB_dX1_reckon_149 2 rfl
theorem dX1_reckon_154 : decode cX1_reckon 154 = .ok (.if_icmp .ne 7, 3) := zDec_at zB_dX1_reckon_149 3 rfl
theorem dX1_reckon_157 : decode cX1_reckon 157 = .ok (.iconst 1, 1) := zDec_at zB_dX1_reckon_149 4 rfl
theorem dX1_reckon_158 : decode cX1_reckon 158 = .ok (.goto 4, 3) := zDec_at zB_dX1_reckon_149 5 rfl
theorem dX1_reckon_161 : decode cX1_reckon 161 = .ok (.iconst 0, 1) := zDec_at zB_dX1_reckon_149 6 rfl
theorem dX1_reckon_162 : decode cX1_reckon 162 = .ok (.i2l, 1) := zDec_at zB_dX1_reckon_149 7 rfl
theorem dX1_reckon_163 : decode cX1_reckon 163 = .ok (.lcmp, 1) := zDec_at zB_dX1_reckon_149 8 rfl
theorem dX1_reckon_164 : decode cX1_reckon 164 = .ok (.ifCond .ne 17, 3) := zDec_at zB_dX1_reckon_149 9 rfl
theorem dX1_reckon_167 : decode cX1_reckon 167 = .ok (.iload 5, 2) := zDec_at zB_dX1_reckon_149 10 rfl
theorem dX1_reckon_169 : decode cX1_reckon 169 = .ok (.iload 7, 2) := zDec_at zB_dX1_reckon_149 11 rfl
theorem dX1_reckon_171 : decode cX1_reckon 171 = .ok (.iconst 1, 1) := zDec_at zB_dX1_reckon_149 12 rfl
theorem dX1_reckon_172 : decode cX1_reckon 172 = .ok (.isub, 1) := zDec_at zB_dX1_reckon_149 13 rfl
theorem dX1_reckon_173 : decode cX1_reckon 173 = .ok (.invokestatic 161, 3) := zDec_at zB_dX1_reckon_149 14 rfl
theorem dX1_reckon_176 : decode cX1_reckon 176 = .ok (.istore 5, 2) := zDec_at zB_dX1_reckon_149 15 rfl
theorem dX1_reckon_178 : decode cX1_reckon 178 = .ok (.goto 69, 3) := zDec_at zB_dX1_reckon_149 16 rfl
theorem dX1_reckon_181 : decode cX1_reckon 181 = .ok (.iinc 4 (-1), 3) := zDec_at zB_dX1_reckon_149 17 rfl
theorem dX1_reckon_184 : decode cX1_reckon 184 = .ok (.goto 63, 3) := zDec_at zB_dX1_reckon_149 18 rfl
theorem dX1_reckon_187 : decode cX1_reckon 187 = .ok (.iinc 4 (-1), 3) := zDec_at zB_dX1_reckon_149 19 rfl
theorem dX1_reckon_190 : decode cX1_reckon 190 = .ok (.iload 4, 2) := zDec_at zB_dX1_reckon_149 20 rfl
theorem dX1_reckon_192 : decode cX1_reckon 192 = .ok (.iconst 1, 1) := zDec_at zB_dX1_reckon_149 21 rfl
theorem dX1_reckon_193 : decode cX1_reckon 193 = .ok (.if_icmp .ge 7, 3) := zDec_at zB_dX1_reckon_149 22 rfl
theorem dX1_reckon_196 : decode cX1_reckon 196 = .ok (.ldc2_w 155, 3) := zDec_at zB_dX1_reckon_149 23 rfl
theorem dX1_reckon_199 : decode cX1_reckon 199 = .ok (.lreturn, 1) := zDec_at zB_dX1_reckon_149 24 rfl
theorem dX1_reckon_200 : decode cX1_reckon 200 = .ok (.iload 6, 2) := zDec_at zB_dX1_reckon_149 25 rfl
theorem dX1_reckon_202 : decode cX1_reckon 202 = .ok (.aload_n 0, 1) := zDec_at zB_dX1_reckon_149 26 rfl
theorem dX1_reckon_203 : decode cX1_reckon 203 = .ok (.getfield 9, 3) := zDec_at zB_dX1_reckon_149 27 rfl
theorem dX1_reckon_206 : decode cX1_reckon 206 = .ok (.iload 4, 2) := zDec_at zB_dX1_reckon_149 28 rfl
theorem dX1_reckon_208 : decode cX1_reckon 208 = .ok (.iconst 1, 1) := zDec_at zB_dX1_reckon_149 29 rfl
theorem dX1_reckon_209 : decode cX1_reckon 209 = .ok (.isub, 1) := zDec_at zB_dX1_reckon_149 30 rfl
theorem dX1_reckon_210 : decode cX1_reckon 210 = .ok (.laload, 1) := zDec_at zB_dX1_reckon_149 31 rfl
theorem dX1_reckon_211 : decode cX1_reckon 211 = .ok (.aload_n 0, 1) := zDec_at zB_dX1_reckon_149 32 rfl
theorem dX1_reckon_212 : decode cX1_reckon 212 = .ok (.getfield 9, 3) := zDec_at zB_dX1_reckon_149 33 rfl
theorem dX1_reckon_215 : decode cX1_reckon 215 = .ok (.iload 4, 2) := zDec_at zB_dX1_reckon_149 34 rfl
theorem dX1_reckon_217 : decode cX1_reckon 217 = .ok (.laload, 1) := zDec_at zB_dX1_reckon_149 35 rfl
theorem dX1_reckon_218 : decode cX1_reckon 218 = .ok (.invokestatic 166, 3) := zDec_at zB_dX1_reckon_149 36 rfl
theorem dX1_reckon_221 : decode cX1_reckon 221 = .ok (.lstore 8, 2) := zDec_at zB_dX1_reckon_149 37 rfl
theorem dX1_reckon_223 : decode cX1_reckon 223 = .ok (.lload 8, 2) := zDec_at zB_dX1_reckon_149 38 rfl
theorem dX1_reckon_225 : decode cX1_reckon 225 = .ok (.ldc2_w 155, 3) := zDec_at zB_dX1_reckon_149 39 rfl
theorem zB_dX1_reckon_228 : zDecB cX1_reckon [(228, .lcmp, 1), (229, .ifCond .ne 7, 3), (232, .ldc2_w 155, 3), (235, .lreturn, 1), (236, .aload_n 0, 1), (237, .getfield 9, 3), (240, .iload 4, 2), (242, .iconst 1, 1), (243, .isub, 1), (244, .lload 8, 2), (246, .lastore, 1), (247, .iinc 5 1, 3), (250, .goto (-244), 3), (253, .iload 4, 2), (255, .iconst 1, 1), (256, .if_icmp .ne 12, 3), (259, .aload_n 0, 1), (260, .getfield 9, 3), (263, .iconst 0, 1), (264, .laload, 1), (265, .goto 6, 3), (268, .ldc2_w 155, 3), (271, .lreturn, 1)] = true := by decide +kernel
theorem dX1_reckon_228 : decode cX1_reckon 228 = .ok (.lcmp, 1) := zDec_at zB_dX1_reckon_228 0 rfl
theorem dX1_reckon_229 : decode cX1_reckon 229 = .ok (.ifCond .ne 7, 3) := zDec_at zB_dX1_reckon_228 1 rfl
theorem dX1_reckon_232 : decode cX1_reckon 232 = .ok (.ldc2_w 155, 3) := zDec_at zB_dX1_reckon_228 2 rfl
theorem dX1_reckon_235 : decode cX1_reckon 235 = .ok (.lreturn, 1) := zDec_at zB_dX1_reckon_228 3 rfl
theorem dX1_reckon_236 : decode cX1_reckon 236 = .ok (.aload_n 0, 1) := zDec_at zB_dX1_reckon_228 4 rfl
theorem dX1_reckon_237 : decode cX1_reckon 237 = .ok (.getfield 9, 3) := zDec_at zB_dX1_reckon_228 5 rfl
theorem dX1_reckon_240 : decode cX1_reckon 240 = .ok (.iload 4, 2) := zDec_at zB_dX1_reckon_228 6 rfl
theorem dX1_reckon_242 : decode cX1_reckon 242 = .ok (.iconst 1, 1) := zDec_at zB_dX1_reckon_228 7 rfl
theorem dX1_reckon_243 : decode cX1_reckon 243 = .ok (.isub, 1) := zDec_at zB_dX1_reckon_228 8 rfl
theorem dX1_reckon_244 : decode cX1_reckon 244 = .ok (.lload 8, 2) := zDec_at zB_dX1_reckon_228 9 rfl
theorem dX1_reckon_246 : decode cX1_reckon 246 = .ok (.lastore, 1) := zDec_at zB_dX1_reckon_228 10 rfl
theorem dX1_reckon_247 : decode cX1_reckon 247 = .ok (.iinc 5 1, 3) := zDec_at zB_dX1_reckon_228 11 rfl
theorem dX1_reckon_250 : decode cX1_reckon 250 = .ok (.goto (-244), 3) := zDec_at zB_dX1_reckon_228 12 rfl
theorem dX1_reckon_253 : decode cX1_reckon 253 = .ok (.iload 4, 2) := zDec_at zB_dX1_reckon_228 13 rfl
theorem dX1_reckon_255 : decode cX1_reckon 255 = .ok (.iconst 1, 1) := zDec_at zB_dX1_reckon_228 14 rfl
theorem dX1_reckon_256 : decode cX1_reckon 256 = .ok (.if_icmp .ne 12, 3) := zDec_at zB_dX1_reckon_228 15 rfl
theorem dX1_reckon_259 : decode cX1_reckon 259 = .ok (.aload_n 0, 1) := zDec_at zB_dX1_reckon_228 16 rfl
theorem dX1_reckon_260 : decode cX1_reckon 260 = .ok (.getfield 9, 3) := zDec_at zB_dX1_reckon_228 17 rfl
theorem dX1_reckon_263 : decode cX1_reckon 263 = .ok (.iconst 0, 1) := zDec_at zB_dX1_reckon_228 18 rfl
theorem dX1_reckon_264 : decode cX1_reckon 264 = .ok (.laload, 1) := zDec_at zB_dX1_reckon_228 19 rfl
theorem dX1_reckon_265 : decode cX1_reckon 265 = .ok (.goto 6, 3) := zDec_at zB_dX1_reckon_228 20 rfl
theorem dX1_reckon_268 : decode cX1_reckon 268 = .ok (.ldc2_w 155, 3) := zDec_at zB_dX1_reckon_228 21 rfl
theorem dX1_reckon_271 : decode cX1_reckon 271 = .ok (.lreturn, 1) := zDec_at zB_dX1_reckon_228 22 rfl
theorem zB_dX1_schoolsLookedAt_0 : zDecB cX1_schoolsLookedAt [(0, .iconst 0, 1), (1, .istore_n 1, 1), (2, .iconst 0, 1), (3, .istore_n 2, 1), (4, .iload_n 2, 1), (5, .iconst 5, 1), (6, .if_icmp .ge 26, 3), (9, .iload_n 1, 1), (10, .aload_n 0, 1), (11, .getfield 28, 3), (14, .iload_n 2, 1), (15, .iaload, 1), (16, .ifCond .le 7, 3), (19, .iconst 1, 1), (20, .goto 4, 3), (23, .iconst 0, 1), (24, .iadd, 1), (25, .istore_n 1, 1), (26, .iinc 2 1, 3), (29, .goto (-25), 3), (32, .iload_n 1, 1), (33, .ireturn, 1)] = true := by decide +kernel
theorem dX1_schoolsLookedAt_0 : decode cX1_schoolsLookedAt 0 = .ok (.iconst 0, 1) := zDec_at zB_dX1_schoolsLookedAt_0 0 rfl
theorem dX1_schoolsLookedAt_1 : decode cX1_schoolsLookedAt 1 = .ok (.istore_n 1, 1) := zDec_at zB_dX1_schoolsLookedAt_0 1 rfl
theorem dX1_schoolsLookedAt_2 : decode cX1_schoolsLookedAt 2 = .ok (.iconst 0, 1) := zDec_at zB_dX1_schoolsLookedAt_0 2 rfl
theorem dX1_schoolsLookedAt_3 : decode cX1_schoolsLookedAt 3 = .ok (.istore_n 2, 1) := zDec_at zB_dX1_schoolsLookedAt_0 3 rfl
theorem dX1_schoolsLookedAt_4 : decode cX1_schoolsLookedAt 4 = .ok (.iload_n 2, 1) := zDec_at zB_dX1_schoolsLookedAt_0 4 rfl
theorem dX1_schoolsLookedAt_5 : decode cX1_schoolsLookedAt 5 = .ok (.iconst 5, 1) := zDec_at zB_dX1_schoolsLookedAt_0 5 rfl
theorem dX1_schoolsLookedAt_6 : decode cX1_schoolsLookedAt 6 = .ok (.if_icmp .ge 26, 3) := zDec_at zB_dX1_schoolsLookedAt_0 6 rfl
theorem dX1_schoolsLookedAt_9 : decode cX1_schoolsLookedAt 9 = .ok (.iload_n 1, 1) := zDec_at zB_dX1_schoolsLookedAt_0 7 rfl
theorem dX1_schoolsLookedAt_10 : decode cX1_schoolsLookedAt 10 = .ok (.aload_n 0, 1) := zDec_at zB_dX1_schoolsLookedAt_0 8 rfl
theorem dX1_schoolsLookedAt_11 : decode cX1_schoolsLookedAt 11 = .ok (.getfield 28, 3) := zDec_at zB_dX1_schoolsLookedAt_0 9 rfl
theorem dX1_schoolsLookedAt_14 : decode cX1_schoolsLookedAt 14 = .ok (.iload_n 2, 1) := zDec_at zB_dX1_schoolsLookedAt_0 10 rfl
theorem dX1_schoolsLookedAt_15 : decode cX1_schoolsLookedAt 15 = .ok (.iaload, 1) := zDec_at zB_dX1_schoolsLookedAt_0 11 rfl
theorem dX1_schoolsLookedAt_16 : decode cX1_schoolsLookedAt 16 = .ok (.ifCond .le 7, 3) := zDec_at zB_dX1_schoolsLookedAt_0 12 rfl
theorem dX1_schoolsLookedAt_19 : decode cX1_schoolsLookedAt 19 = .ok (.iconst 1, 1) := zDec_at zB_dX1_schoolsLookedAt_0 13 rfl
theorem dX1_schoolsLookedAt_20 : decode cX1_schoolsLookedAt 20 = .ok (.goto 4, 3) := zDec_at zB_dX1_schoolsLookedAt_0 14 rfl
theorem dX1_schoolsLookedAt_23 : decode cX1_schoolsLookedAt 23 = .ok (.iconst 0, 1) := zDec_at zB_dX1_schoolsLookedAt_0 15 rfl
theorem dX1_schoolsLookedAt_24 : decode cX1_schoolsLookedAt 24 = .ok (.iadd, 1) := zDec_at zB_dX1_schoolsLookedAt_0 16 rfl
theorem dX1_schoolsLookedAt_25 : decode cX1_schoolsLookedAt 25 = .ok (.istore_n 1, 1) := zDec_at zB_dX1_schoolsLookedAt_0 17 rfl
theorem dX1_schoolsLookedAt_26 : decode cX1_schoolsLookedAt 26 = .ok (.iinc 2 1, 3) := zDec_at zB_dX1_schoolsLookedAt_0 18 rfl
theorem dX1_schoolsLookedAt_29 : decode cX1_schoolsLookedAt 29 = .ok (.goto (-25), 3) := zDec_at zB_dX1_schoolsLookedAt_0 19 rfl
theorem dX1_schoolsLookedAt_32 : decode cX1_schoolsLookedAt 32 = .ok (.iload_n 1, 1) := zDec_at zB_dX1_schoolsLookedAt_0 20 rfl
theorem dX1_schoolsLookedAt_33 : decode cX1_schoolsLookedAt 33 = .ok (.ireturn, 1) := zDec_at zB_dX1_schoolsLookedAt_0 21 rfl
theorem zB_dX1_strikeClauses_0 : zDecB cX1_strikeClauses [(0, .aload_n 0, 1), (1, .getfield 34, 3), (4, .getfield 96, 3), (7, .astore_n 2, 1), (8, .aload_n 0, 1), (9, .getfield 15, 3), (12, .iconst 0, 1), (13, .invokestatic 129, 3), (16, .aload_n 2, 1), (17, .getfield 103, 3), (20, .iconst 1, 1), (21, .isub, 1), (22, .istore_n 3, 1), (23, .iload_n 3, 1), (24, .ifCond .lt 132, 3), (27, .aload_n 2, 1), (28, .getfield 108, 3), (31, .iload_n 3, 1), (32, .aaload, 1), (33, .astore 4, 2), (35, .aload 4, 2), (37, .ifnull 113, 3), (40, .aload 4, 2), (42, .getfield 135, 3), (45, .ifCond .eq 105, 3), (48, .aload_n 2, 1), (49, .getfield 112, 3), (52, .iload_n 3, 1), (53, .iaload, 1), (54, .iload_n 1, 1), (55, .if_icmp .le 6, 3), (58, .goto 92, 3), (61, .iconst 0, 1), (62, .istore 5, 2), (64, .iload 5, 2), (66, .aload 4, 2), (68, .getfield 115, 3), (71, .if_icmp .ge 79, 3), (74, .aload 4, 2), (76, .getfield 127, 3)] = true := by decide +kernel
theorem dX1_strikeClauses_0 : decode cX1_strikeClauses 0 = .ok (.aload_n 0, 1) := zDec_at zB_dX1_strikeClauses_0 0 rfl
theorem dX1_strikeClauses_1 : decode cX1_strikeClauses 1 = .ok (.getfield 34, 3) := zDec_at zB_dX1_strikeClauses_0 1 rfl
theorem dX1_strikeClauses_4 : decode cX1_strikeClauses 4 = .ok (.getfield 96, 3) := zDec_at zB_dX1_strikeClauses_0 2 rfl
theorem dX1_strikeClauses_7 : decode cX1_strikeClauses 7 = .ok (.astore_n 2, 1) := zDec_at zB_dX1_strikeClauses_0 3 rfl
theorem dX1_strikeClauses_8 : decode cX1_strikeClauses 8 = .ok (.aload_n 0, 1) := zDec_at zB_dX1_strikeClauses_0 4 rfl
theorem dX1_strikeClauses_9 : decode cX1_strikeClauses 9 = .ok (.getfield 15, 3) := zDec_at zB_dX1_strikeClauses_0 5 rfl
theorem dX1_strikeClauses_12 : decode cX1_strikeClauses 12 = .ok (.iconst 0, 1) := zDec_at zB_dX1_strikeClauses_0 6 rfl
theorem dX1_strikeClauses_13 : decode cX1_strikeClauses 13 = .ok (.invokestatic 129, 3) := zDec_at zB_dX1_strikeClauses_0 7 rfl
theorem dX1_strikeClauses_16 : decode cX1_strikeClauses 16 = .ok (.aload_n 2, 1) := zDec_at zB_dX1_strikeClauses_0 8 rfl
theorem dX1_strikeClauses_17 : decode cX1_strikeClauses 17 = .ok (.getfield 103, 3) := zDec_at zB_dX1_strikeClauses_0 9 rfl
theorem dX1_strikeClauses_20 : decode cX1_strikeClauses 20 = .ok (.iconst 1, 1) := zDec_at zB_dX1_strikeClauses_0 10 rfl
theorem dX1_strikeClauses_21 : decode cX1_strikeClauses 21 = .ok (.isub, 1) := zDec_at zB_dX1_strikeClauses_0 11 rfl
theorem dX1_strikeClauses_22 : decode cX1_strikeClauses 22 = .ok (.istore_n 3, 1) := zDec_at zB_dX1_strikeClauses_0 12 rfl
theorem dX1_strikeClauses_23 : decode cX1_strikeClauses 23 = .ok (.iload_n 3, 1) := zDec_at zB_dX1_strikeClauses_0 13 rfl
theorem dX1_strikeClauses_24 : decode cX1_strikeClauses 24 = .ok (.ifCond .lt 132, 3) := zDec_at zB_dX1_strikeClauses_0 14 rfl
theorem dX1_strikeClauses_27 : decode cX1_strikeClauses 27 = .ok (.aload_n 2, 1) := zDec_at zB_dX1_strikeClauses_0 15 rfl
theorem dX1_strikeClauses_28 : decode cX1_strikeClauses 28 = .ok (.getfield 108, 3) := zDec_at zB_dX1_strikeClauses_0 16 rfl
theorem dX1_strikeClauses_31 : decode cX1_strikeClauses 31 = .ok (.iload_n 3, 1) := zDec_at zB_dX1_strikeClauses_0 17 rfl
theorem dX1_strikeClauses_32 : decode cX1_strikeClauses 32 = .ok (.aaload, 1) := zDec_at zB_dX1_strikeClauses_0 18 rfl
theorem dX1_strikeClauses_33 : decode cX1_strikeClauses 33 = .ok (.astore 4, 2) := zDec_at zB_dX1_strikeClauses_0 19 rfl
theorem dX1_strikeClauses_35 : decode cX1_strikeClauses 35 = .ok (.aload 4, 2) := zDec_at zB_dX1_strikeClauses_0 20 rfl
theorem dX1_strikeClauses_37 : decode cX1_strikeClauses 37 = .ok (.ifnull 113, 3) := zDec_at zB_dX1_strikeClauses_0 21 rfl
theorem dX1_strikeClauses_40 : decode cX1_strikeClauses 40 = .ok (.aload 4, 2) := zDec_at zB_dX1_strikeClauses_0 22 rfl
theorem dX1_strikeClauses_42 : decode cX1_strikeClauses 42 = .ok (.getfield 135, 3) := zDec_at zB_dX1_strikeClauses_0 23 rfl
theorem dX1_strikeClauses_45 : decode cX1_strikeClauses 45 = .ok (.ifCond .eq 105, 3) := zDec_at zB_dX1_strikeClauses_0 24 rfl
theorem dX1_strikeClauses_48 : decode cX1_strikeClauses 48 = .ok (.aload_n 2, 1) := zDec_at zB_dX1_strikeClauses_0 25 rfl
theorem dX1_strikeClauses_49 : decode cX1_strikeClauses 49 = .ok (.getfield 112, 3) := zDec_at zB_dX1_strikeClauses_0 26 rfl
theorem dX1_strikeClauses_52 : decode cX1_strikeClauses 52 = .ok (.iload_n 3, 1) := zDec_at zB_dX1_strikeClauses_0 27 rfl
theorem dX1_strikeClauses_53 : decode cX1_strikeClauses 53 = .ok (.iaload, 1) := zDec_at zB_dX1_strikeClauses_0 28 rfl
theorem dX1_strikeClauses_54 : decode cX1_strikeClauses 54 = .ok (.iload_n 1, 1) := zDec_at zB_dX1_strikeClauses_0 29 rfl
theorem dX1_strikeClauses_55 : decode cX1_strikeClauses 55 = .ok (.if_icmp .le 6, 3) := zDec_at zB_dX1_strikeClauses_0 30 rfl
theorem dX1_strikeClauses_58 : decode cX1_strikeClauses 58 = .ok (.goto 92, 3) := zDec_at zB_dX1_strikeClauses_0 31 rfl
theorem dX1_strikeClauses_61 : decode cX1_strikeClauses 61 = .ok (.iconst 0, 1) := zDec_at zB_dX1_strikeClauses_0 32 rfl
theorem dX1_strikeClauses_62 : decode cX1_strikeClauses 62 = .ok (.istore 5, 2) := zDec_at zB_dX1_strikeClauses_0 33 rfl
theorem dX1_strikeClauses_64 : decode cX1_strikeClauses 64 = .ok (.iload 5, 2) := zDec_at zB_dX1_strikeClauses_0 34 rfl
theorem dX1_strikeClauses_66 : decode cX1_strikeClauses 66 = .ok (.aload 4, 2) := zDec_at zB_dX1_strikeClauses_0 35 rfl
theorem dX1_strikeClauses_68 : decode cX1_strikeClauses 68 = .ok (.getfield 115, 3) := zDec_at zB_dX1_strikeClauses_0 36 rfl
theorem dX1_strikeClauses_71 : decode cX1_strikeClauses 71 = .ok (.if_icmp .ge 79, 3) := zDec_at zB_dX1_strikeClauses_0 37 rfl
theorem dX1_strikeClauses_74 : decode cX1_strikeClauses 74 = .ok (.aload 4, 2) := zDec_at zB_dX1_strikeClauses_0 38 rfl
theorem dX1_strikeClauses_76 : decode cX1_strikeClauses 76 = .ok (.getfield 127, 3) := zDec_at zB_dX1_strikeClauses_0 39 rfl
theorem zB_dX1_strikeClauses_79 : zDecB cX1_strikeClauses [(79, .iload 5, 2), (81, .iaload, 1), (82, .bipush 12, 2), (84, .idiv, 1), (85, .istore 6, 2), (87, .aload 4, 2), (89, .getfield 120, 3), (92, .iload 5, 2), (94, .iaload, 1), (95, .sipush 640, 3), (98, .if_icmp .ne 46, 3), (101, .aload_n 0, 1), (102, .getfield 15, 3), (105, .iload_n 3, 1), (106, .iaload, 1), (107, .iload 5, 2), (109, .ishr, 1), (110, .iconst 1, 1), (111, .iand, 1), (112, .ifCond .ne 32, 3), (115, .iload 6, 2), (117, .iload_n 3, 1), (118, .if_icmp .ge 26, 3), (121, .aload_n 0, 1), (122, .getfield 15, 3), (125, .iload 6, 2), (127, .dup2, 1), (128, .iaload, 1), (129, .iconst 1, 1), (130, .aload 4, 2), (132, .getfield 127, 3), (135, .iload 5, 2), (137, .iaload, 1), (138, .bipush 12, 2), (140, .irem, 1), (141, .ishl, 1), (142, .ior, 1), (143, .iastore, 1), (144, .iinc 5 1, 3), (147, .goto (-83), 3)] = true := by decide +kernel
theorem dX1_strikeClauses_79 : decode cX1_strikeClauses 79 = .ok (.iload 5, 2) := zDec_at zB_dX1_strikeClauses_79 0 rfl
theorem dX1_strikeClauses_81 : decode cX1_strikeClauses 81 = .ok (.iaload, 1) := zDec_at zB_dX1_strikeClauses_79 1 rfl
theorem dX1_strikeClauses_82 : decode cX1_strikeClauses 82 = .ok (.bipush 12, 2) := zDec_at zB_dX1_strikeClauses_79 2 rfl
theorem dX1_strikeClauses_84 : decode cX1_strikeClauses 84 = .ok (.idiv, 1) := zDec_at zB_dX1_strikeClauses_79 3 rfl
theorem dX1_strikeClauses_85 : decode cX1_strikeClauses 85 = .ok (.istore 6, 2) := zDec_at zB_dX1_strikeClauses_79 4 rfl
theorem dX1_strikeClauses_87 : decode cX1_strikeClauses 87 = .ok (.aload 4, 2) := zDec_at zB_dX1_strikeClauses_79 5 rfl
theorem dX1_strikeClauses_89 : decode cX1_strikeClauses 89 = .ok (.getfield 120, 3) := zDec_at zB_dX1_strikeClauses_79 6 rfl
theorem dX1_strikeClauses_92 : decode cX1_strikeClauses 92 = .ok (.iload 5, 2) := zDec_at zB_dX1_strikeClauses_79 7 rfl
theorem dX1_strikeClauses_94 : decode cX1_strikeClauses 94 = .ok (.iaload, 1) := zDec_at zB_dX1_strikeClauses_79 8 rfl
theorem dX1_strikeClauses_95 : decode cX1_strikeClauses 95 = .ok (.sipush 640, 3) := zDec_at zB_dX1_strikeClauses_79 9 rfl
theorem dX1_strikeClauses_98 : decode cX1_strikeClauses 98 = .ok (.if_icmp .ne 46, 3) := zDec_at zB_dX1_strikeClauses_79 10 rfl
theorem dX1_strikeClauses_101 : decode cX1_strikeClauses 101 = .ok (.aload_n 0, 1) := zDec_at zB_dX1_strikeClauses_79 11 rfl
theorem dX1_strikeClauses_102 : decode cX1_strikeClauses 102 = .ok (.getfield 15, 3) := zDec_at zB_dX1_strikeClauses_79 12 rfl
theorem dX1_strikeClauses_105 : decode cX1_strikeClauses 105 = .ok (.iload_n 3, 1) := zDec_at zB_dX1_strikeClauses_79 13 rfl
theorem dX1_strikeClauses_106 : decode cX1_strikeClauses 106 = .ok (.iaload, 1) := zDec_at zB_dX1_strikeClauses_79 14 rfl
theorem dX1_strikeClauses_107 : decode cX1_strikeClauses 107 = .ok (.iload 5, 2) := zDec_at zB_dX1_strikeClauses_79 15 rfl
theorem dX1_strikeClauses_109 : decode cX1_strikeClauses 109 = .ok (.ishr, 1) := zDec_at zB_dX1_strikeClauses_79 16 rfl
theorem dX1_strikeClauses_110 : decode cX1_strikeClauses 110 = .ok (.iconst 1, 1) := zDec_at zB_dX1_strikeClauses_79 17 rfl
theorem dX1_strikeClauses_111 : decode cX1_strikeClauses 111 = .ok (.iand, 1) := zDec_at zB_dX1_strikeClauses_79 18 rfl
theorem dX1_strikeClauses_112 : decode cX1_strikeClauses 112 = .ok (.ifCond .ne 32, 3) := zDec_at zB_dX1_strikeClauses_79 19 rfl
theorem dX1_strikeClauses_115 : decode cX1_strikeClauses 115 = .ok (.iload 6, 2) := zDec_at zB_dX1_strikeClauses_79 20 rfl
theorem dX1_strikeClauses_117 : decode cX1_strikeClauses 117 = .ok (.iload_n 3, 1) := zDec_at zB_dX1_strikeClauses_79 21 rfl
theorem dX1_strikeClauses_118 : decode cX1_strikeClauses 118 = .ok (.if_icmp .ge 26, 3) := zDec_at zB_dX1_strikeClauses_79 22 rfl
theorem dX1_strikeClauses_121 : decode cX1_strikeClauses 121 = .ok (.aload_n 0, 1) := zDec_at zB_dX1_strikeClauses_79 23 rfl
theorem dX1_strikeClauses_122 : decode cX1_strikeClauses 122 = .ok (.getfield 15, 3) := zDec_at zB_dX1_strikeClauses_79 24 rfl
theorem dX1_strikeClauses_125 : decode cX1_strikeClauses 125 = .ok (.iload 6, 2) := zDec_at zB_dX1_strikeClauses_79 25 rfl
theorem dX1_strikeClauses_127 : decode cX1_strikeClauses 127 = .ok (.dup2, 1) := zDec_at zB_dX1_strikeClauses_79 26 rfl
theorem dX1_strikeClauses_128 : decode cX1_strikeClauses 128 = .ok (.iaload, 1) := zDec_at zB_dX1_strikeClauses_79 27 rfl
theorem dX1_strikeClauses_129 : decode cX1_strikeClauses 129 = .ok (.iconst 1, 1) := zDec_at zB_dX1_strikeClauses_79 28 rfl
theorem dX1_strikeClauses_130 : decode cX1_strikeClauses 130 = .ok (.aload 4, 2) := zDec_at zB_dX1_strikeClauses_79 29 rfl
theorem dX1_strikeClauses_132 : decode cX1_strikeClauses 132 = .ok (.getfield 127, 3) := zDec_at zB_dX1_strikeClauses_79 30 rfl
theorem dX1_strikeClauses_135 : decode cX1_strikeClauses 135 = .ok (.iload 5, 2) := zDec_at zB_dX1_strikeClauses_79 31 rfl
theorem dX1_strikeClauses_137 : decode cX1_strikeClauses 137 = .ok (.iaload, 1) := zDec_at zB_dX1_strikeClauses_79 32 rfl
theorem dX1_strikeClauses_138 : decode cX1_strikeClauses 138 = .ok (.bipush 12, 2) := zDec_at zB_dX1_strikeClauses_79 33 rfl
theorem dX1_strikeClauses_140 : decode cX1_strikeClauses 140 = .ok (.irem, 1) := zDec_at zB_dX1_strikeClauses_79 34 rfl
theorem dX1_strikeClauses_141 : decode cX1_strikeClauses 141 = .ok (.ishl, 1) := zDec_at zB_dX1_strikeClauses_79 35 rfl
theorem dX1_strikeClauses_142 : decode cX1_strikeClauses 142 = .ok (.ior, 1) := zDec_at zB_dX1_strikeClauses_79 36 rfl
theorem dX1_strikeClauses_143 : decode cX1_strikeClauses 143 = .ok (.iastore, 1) := zDec_at zB_dX1_strikeClauses_79 37 rfl
theorem dX1_strikeClauses_144 : decode cX1_strikeClauses 144 = .ok (.iinc 5 1, 3) := zDec_at zB_dX1_strikeClauses_79 38 rfl
theorem dX1_strikeClauses_147 : decode cX1_strikeClauses 147 = .ok (.goto (-83), 3) := zDec_at zB_dX1_strikeClauses_79 39 rfl
theorem zB_dX1_strikeClauses_150 : zDecB cX1_strikeClauses [(150, .iinc 3 (-1), 3), (153, .goto (-130), 3), (156, .return_, 1)] = true := by decide +kernel
theorem dX1_strikeClauses_150 : decode cX1_strikeClauses 150 = .ok (.iinc 3 (-1), 3) := zDec_at zB_dX1_strikeClauses_150 0 rfl
theorem dX1_strikeClauses_153 : decode cX1_strikeClauses 153 = .ok (.goto (-130), 3) := zDec_at zB_dX1_strikeClauses_150 1 rfl
theorem dX1_strikeClauses_156 : decode cX1_strikeClauses 156 = .ok (.return_, 1) := zDec_at zB_dX1_strikeClauses_150 2 rfl
theorem zB_dX1_tallyDays_0 : zDecB cX1_tallyDays [(0, .aload_n 0, 1), (1, .getfield 34, 3), (4, .getfield 38, 3), (7, .astore_n 3, 1), (8, .aload_n 0, 1), (9, .getfield 22, 3), (12, .iconst 0, 1), (13, .invokestatic 129, 3), (16, .aload_n 0, 1), (17, .getfield 25, 3), (20, .iconst 0, 1), (21, .invokestatic 129, 3), (24, .iconst 0, 1), (25, .istore 4, 2), (27, .iload 4, 2), (29, .aload_n 3, 1), (30, .getfield 196, 3), (33, .if_icmp .ge 94, 3), (36, .aload_n 3, 1), (37, .getfield 44, 3), (40, .iload 4, 2), (42, .iaload, 1), (43, .iload_n 1, 1), (44, .if_icmp .ne 77, 3), (47, .aload_n 3, 1), (48, .iload 4, 2), (50, .iload_n 2, 1), (51, .invokevirtual 198, 3), (54, .ifCond .eq 67, 3), (57, .aload_n 0, 1), (58, .iload 4, 2), (60, .iload_n 2, 1), (61, .invokevirtual 201, 3), (64, .istore 5, 2), (66, .aload_n 3, 1), (67, .getfield 53, 3), (70, .iload 4, 2), (72, .iaload, 1), (73, .iconst 2, 1), (74, .idiv, 1)] = true := by decide +kernel
theorem dX1_tallyDays_0 : decode cX1_tallyDays 0 = .ok (.aload_n 0, 1) := zDec_at zB_dX1_tallyDays_0 0 rfl
theorem dX1_tallyDays_1 : decode cX1_tallyDays 1 = .ok (.getfield 34, 3) := zDec_at zB_dX1_tallyDays_0 1 rfl
theorem dX1_tallyDays_4 : decode cX1_tallyDays 4 = .ok (.getfield 38, 3) := zDec_at zB_dX1_tallyDays_0 2 rfl
theorem dX1_tallyDays_7 : decode cX1_tallyDays 7 = .ok (.astore_n 3, 1) := zDec_at zB_dX1_tallyDays_0 3 rfl
theorem dX1_tallyDays_8 : decode cX1_tallyDays 8 = .ok (.aload_n 0, 1) := zDec_at zB_dX1_tallyDays_0 4 rfl
theorem dX1_tallyDays_9 : decode cX1_tallyDays 9 = .ok (.getfield 22, 3) := zDec_at zB_dX1_tallyDays_0 5 rfl
theorem dX1_tallyDays_12 : decode cX1_tallyDays 12 = .ok (.iconst 0, 1) := zDec_at zB_dX1_tallyDays_0 6 rfl
theorem dX1_tallyDays_13 : decode cX1_tallyDays 13 = .ok (.invokestatic 129, 3) := zDec_at zB_dX1_tallyDays_0 7 rfl
theorem dX1_tallyDays_16 : decode cX1_tallyDays 16 = .ok (.aload_n 0, 1) := zDec_at zB_dX1_tallyDays_0 8 rfl
theorem dX1_tallyDays_17 : decode cX1_tallyDays 17 = .ok (.getfield 25, 3) := zDec_at zB_dX1_tallyDays_0 9 rfl
theorem dX1_tallyDays_20 : decode cX1_tallyDays 20 = .ok (.iconst 0, 1) := zDec_at zB_dX1_tallyDays_0 10 rfl
theorem dX1_tallyDays_21 : decode cX1_tallyDays 21 = .ok (.invokestatic 129, 3) := zDec_at zB_dX1_tallyDays_0 11 rfl
theorem dX1_tallyDays_24 : decode cX1_tallyDays 24 = .ok (.iconst 0, 1) := zDec_at zB_dX1_tallyDays_0 12 rfl
theorem dX1_tallyDays_25 : decode cX1_tallyDays 25 = .ok (.istore 4, 2) := zDec_at zB_dX1_tallyDays_0 13 rfl
theorem dX1_tallyDays_27 : decode cX1_tallyDays 27 = .ok (.iload 4, 2) := zDec_at zB_dX1_tallyDays_0 14 rfl
theorem dX1_tallyDays_29 : decode cX1_tallyDays 29 = .ok (.aload_n 3, 1) := zDec_at zB_dX1_tallyDays_0 15 rfl
theorem dX1_tallyDays_30 : decode cX1_tallyDays 30 = .ok (.getfield 196, 3) := zDec_at zB_dX1_tallyDays_0 16 rfl
theorem dX1_tallyDays_33 : decode cX1_tallyDays 33 = .ok (.if_icmp .ge 94, 3) := zDec_at zB_dX1_tallyDays_0 17 rfl
theorem dX1_tallyDays_36 : decode cX1_tallyDays 36 = .ok (.aload_n 3, 1) := zDec_at zB_dX1_tallyDays_0 18 rfl
theorem dX1_tallyDays_37 : decode cX1_tallyDays 37 = .ok (.getfield 44, 3) := zDec_at zB_dX1_tallyDays_0 19 rfl
theorem dX1_tallyDays_40 : decode cX1_tallyDays 40 = .ok (.iload 4, 2) := zDec_at zB_dX1_tallyDays_0 20 rfl
theorem dX1_tallyDays_42 : decode cX1_tallyDays 42 = .ok (.iaload, 1) := zDec_at zB_dX1_tallyDays_0 21 rfl
theorem dX1_tallyDays_43 : decode cX1_tallyDays 43 = .ok (.iload_n 1, 1) := zDec_at zB_dX1_tallyDays_0 22 rfl
theorem dX1_tallyDays_44 : decode cX1_tallyDays 44 = .ok (.if_icmp .ne 77, 3) := zDec_at zB_dX1_tallyDays_0 23 rfl
theorem dX1_tallyDays_47 : decode cX1_tallyDays 47 = .ok (.aload_n 3, 1) := zDec_at zB_dX1_tallyDays_0 24 rfl
theorem dX1_tallyDays_48 : decode cX1_tallyDays 48 = .ok (.iload 4, 2) := zDec_at zB_dX1_tallyDays_0 25 rfl
theorem dX1_tallyDays_50 : decode cX1_tallyDays 50 = .ok (.iload_n 2, 1) := zDec_at zB_dX1_tallyDays_0 26 rfl
theorem dX1_tallyDays_51 : decode cX1_tallyDays 51 = .ok (.invokevirtual 198, 3) := zDec_at zB_dX1_tallyDays_0 27 rfl
theorem dX1_tallyDays_54 : decode cX1_tallyDays 54 = .ok (.ifCond .eq 67, 3) := zDec_at zB_dX1_tallyDays_0 28 rfl
theorem dX1_tallyDays_57 : decode cX1_tallyDays 57 = .ok (.aload_n 0, 1) := zDec_at zB_dX1_tallyDays_0 29 rfl
theorem dX1_tallyDays_58 : decode cX1_tallyDays 58 = .ok (.iload 4, 2) := zDec_at zB_dX1_tallyDays_0 30 rfl
theorem dX1_tallyDays_60 : decode cX1_tallyDays 60 = .ok (.iload_n 2, 1) := zDec_at zB_dX1_tallyDays_0 31 rfl
theorem dX1_tallyDays_61 : decode cX1_tallyDays 61 = .ok (.invokevirtual 201, 3) := zDec_at zB_dX1_tallyDays_0 32 rfl
theorem dX1_tallyDays_64 : decode cX1_tallyDays 64 = .ok (.istore 5, 2) := zDec_at zB_dX1_tallyDays_0 33 rfl
theorem dX1_tallyDays_66 : decode cX1_tallyDays 66 = .ok (.aload_n 3, 1) := zDec_at zB_dX1_tallyDays_0 34 rfl
theorem dX1_tallyDays_67 : decode cX1_tallyDays 67 = .ok (.getfield 53, 3) := zDec_at zB_dX1_tallyDays_0 35 rfl
theorem dX1_tallyDays_70 : decode cX1_tallyDays 70 = .ok (.iload 4, 2) := zDec_at zB_dX1_tallyDays_0 36 rfl
theorem dX1_tallyDays_72 : decode cX1_tallyDays 72 = .ok (.iaload, 1) := zDec_at zB_dX1_tallyDays_0 37 rfl
theorem dX1_tallyDays_73 : decode cX1_tallyDays 73 = .ok (.iconst 2, 1) := zDec_at zB_dX1_tallyDays_0 38 rfl
theorem dX1_tallyDays_74 : decode cX1_tallyDays 74 = .ok (.idiv, 1) := zDec_at zB_dX1_tallyDays_0 39 rfl
theorem zB_dX1_tallyDays_75 : zDecB cX1_tallyDays [(75, .iconst 1, 1), (76, .iadd, 1), (77, .istore 6, 2), (79, .aload_n 0, 1), (80, .getfield 22, 3), (83, .iload 6, 2), (85, .dup2, 1), (86, .iaload, 1), (87, .iload 5, 2), (89, .iconst 3, 1), (90, .if_icmp .ne 7, 3), (93, .iconst 1, 1), (94, .goto 4, 3), (97, .iconst 0, 1), (98, .iadd, 1), (99, .iastore, 1), (100, .aload_n 0, 1), (101, .getfield 25, 3), (104, .iload 6, 2), (106, .dup2, 1), (107, .iaload, 1), (108, .iload 5, 2), (110, .iconst 4, 1), (111, .if_icmp .ne 7, 3), (114, .iconst 0, 1), (115, .goto 4, 3), (118, .iconst 1, 1), (119, .iadd, 1), (120, .iastore, 1), (121, .iinc 4 1, 3), (124, .goto (-97), 3), (127, .iconst 1, 1), (128, .istore 4, 2), (130, .iload 4, 2), (132, .sipush 400, 3), (135, .if_icmp .gt 47, 3), (138, .aload_n 0, 1), (139, .getfield 22, 3), (142, .iload 4, 2), (144, .dup2, 1)] = true := by decide +kernel
theorem dX1_tallyDays_75 : decode cX1_tallyDays 75 = .ok (.iconst 1, 1) := zDec_at zB_dX1_tallyDays_75 0 rfl
theorem dX1_tallyDays_76 : decode cX1_tallyDays 76 = .ok (.iadd, 1) := zDec_at zB_dX1_tallyDays_75 1 rfl
theorem dX1_tallyDays_77 : decode cX1_tallyDays 77 = .ok (.istore 6, 2) := zDec_at zB_dX1_tallyDays_75 2 rfl
theorem dX1_tallyDays_79 : decode cX1_tallyDays 79 = .ok (.aload_n 0, 1) := zDec_at zB_dX1_tallyDays_75 3 rfl
theorem dX1_tallyDays_80 : decode cX1_tallyDays 80 = .ok (.getfield 22, 3) := zDec_at zB_dX1_tallyDays_75 4 rfl
theorem dX1_tallyDays_83 : decode cX1_tallyDays 83 = .ok (.iload 6, 2) := zDec_at zB_dX1_tallyDays_75 5 rfl
theorem dX1_tallyDays_85 : decode cX1_tallyDays 85 = .ok (.dup2, 1) := zDec_at zB_dX1_tallyDays_75 6 rfl
theorem dX1_tallyDays_86 : decode cX1_tallyDays 86 = .ok (.iaload, 1) := zDec_at zB_dX1_tallyDays_75 7 rfl
theorem dX1_tallyDays_87 : decode cX1_tallyDays 87 = .ok (.iload 5, 2) := zDec_at zB_dX1_tallyDays_75 8 rfl
theorem dX1_tallyDays_89 : decode cX1_tallyDays 89 = .ok (.iconst 3, 1) := zDec_at zB_dX1_tallyDays_75 9 rfl
theorem dX1_tallyDays_90 : decode cX1_tallyDays 90 = .ok (.if_icmp .ne 7, 3) := zDec_at zB_dX1_tallyDays_75 10 rfl
theorem dX1_tallyDays_93 : decode cX1_tallyDays 93 = .ok (.iconst 1, 1) := zDec_at zB_dX1_tallyDays_75 11 rfl
theorem dX1_tallyDays_94 : decode cX1_tallyDays 94 = .ok (.goto 4, 3) := zDec_at zB_dX1_tallyDays_75 12 rfl
theorem dX1_tallyDays_97 : decode cX1_tallyDays 97 = .ok (.iconst 0, 1) := zDec_at zB_dX1_tallyDays_75 13 rfl
theorem dX1_tallyDays_98 : decode cX1_tallyDays 98 = .ok (.iadd, 1) := zDec_at zB_dX1_tallyDays_75 14 rfl
theorem dX1_tallyDays_99 : decode cX1_tallyDays 99 = .ok (.iastore, 1) := zDec_at zB_dX1_tallyDays_75 15 rfl
theorem dX1_tallyDays_100 : decode cX1_tallyDays 100 = .ok (.aload_n 0, 1) := zDec_at zB_dX1_tallyDays_75 16 rfl
theorem dX1_tallyDays_101 : decode cX1_tallyDays 101 = .ok (.getfield 25, 3) := zDec_at zB_dX1_tallyDays_75 17 rfl
theorem dX1_tallyDays_104 : decode cX1_tallyDays 104 = .ok (.iload 6, 2) := zDec_at zB_dX1_tallyDays_75 18 rfl
theorem dX1_tallyDays_106 : decode cX1_tallyDays 106 = .ok (.dup2, 1) := zDec_at zB_dX1_tallyDays_75 19 rfl
theorem dX1_tallyDays_107 : decode cX1_tallyDays 107 = .ok (.iaload, 1) := zDec_at zB_dX1_tallyDays_75 20 rfl
theorem dX1_tallyDays_108 : decode cX1_tallyDays 108 = .ok (.iload 5, 2) := zDec_at zB_dX1_tallyDays_75 21 rfl
theorem dX1_tallyDays_110 : decode cX1_tallyDays 110 = .ok (.iconst 4, 1) := zDec_at zB_dX1_tallyDays_75 22 rfl
theorem dX1_tallyDays_111 : decode cX1_tallyDays 111 = .ok (.if_icmp .ne 7, 3) := zDec_at zB_dX1_tallyDays_75 23 rfl
theorem dX1_tallyDays_114 : decode cX1_tallyDays 114 = .ok (.iconst 0, 1) := zDec_at zB_dX1_tallyDays_75 24 rfl
theorem dX1_tallyDays_115 : decode cX1_tallyDays 115 = .ok (.goto 4, 3) := zDec_at zB_dX1_tallyDays_75 25 rfl
theorem dX1_tallyDays_118 : decode cX1_tallyDays 118 = .ok (.iconst 1, 1) := zDec_at zB_dX1_tallyDays_75 26 rfl
theorem dX1_tallyDays_119 : decode cX1_tallyDays 119 = .ok (.iadd, 1) := zDec_at zB_dX1_tallyDays_75 27 rfl
theorem dX1_tallyDays_120 : decode cX1_tallyDays 120 = .ok (.iastore, 1) := zDec_at zB_dX1_tallyDays_75 28 rfl
theorem dX1_tallyDays_121 : decode cX1_tallyDays 121 = .ok (.iinc 4 1, 3) := zDec_at zB_dX1_tallyDays_75 29 rfl
theorem dX1_tallyDays_124 : decode cX1_tallyDays 124 = .ok (.goto (-97), 3) := zDec_at zB_dX1_tallyDays_75 30 rfl
theorem dX1_tallyDays_127 : decode cX1_tallyDays 127 = .ok (.iconst 1, 1) := zDec_at zB_dX1_tallyDays_75 31 rfl
theorem dX1_tallyDays_128 : decode cX1_tallyDays 128 = .ok (.istore 4, 2) := zDec_at zB_dX1_tallyDays_75 32 rfl
theorem dX1_tallyDays_130 : decode cX1_tallyDays 130 = .ok (.iload 4, 2) := zDec_at zB_dX1_tallyDays_75 33 rfl
theorem dX1_tallyDays_132 : decode cX1_tallyDays 132 = .ok (.sipush 400, 3) := zDec_at zB_dX1_tallyDays_75 34 rfl
theorem dX1_tallyDays_135 : decode cX1_tallyDays 135 = .ok (.if_icmp .gt 47, 3) := zDec_at zB_dX1_tallyDays_75 35 rfl
theorem dX1_tallyDays_138 : decode cX1_tallyDays 138 = .ok (.aload_n 0, 1) := zDec_at zB_dX1_tallyDays_75 36 rfl
theorem dX1_tallyDays_139 : decode cX1_tallyDays 139 = .ok (.getfield 22, 3) := zDec_at zB_dX1_tallyDays_75 37 rfl
theorem dX1_tallyDays_142 : decode cX1_tallyDays 142 = .ok (.iload 4, 2) := zDec_at zB_dX1_tallyDays_75 38 rfl
theorem dX1_tallyDays_144 : decode cX1_tallyDays 144 = .ok (.dup2, 1) := zDec_at zB_dX1_tallyDays_75 39 rfl
theorem zB_dX1_tallyDays_145 : zDecB cX1_tallyDays [(145, .iaload, 1), (146, .aload_n 0, 1), (147, .getfield 22, 3), (150, .iload 4, 2), (152, .iconst 1, 1), (153, .isub, 1), (154, .iaload, 1), (155, .iadd, 1), (156, .iastore, 1), (157, .aload_n 0, 1), (158, .getfield 25, 3), (161, .iload 4, 2), (163, .dup2, 1), (164, .iaload, 1), (165, .aload_n 0, 1), (166, .getfield 25, 3), (169, .iload 4, 2), (171, .iconst 1, 1), (172, .isub, 1), (173, .iaload, 1), (174, .iadd, 1), (175, .iastore, 1), (176, .iinc 4 1, 3), (179, .goto (-49), 3), (182, .return_, 1)] = true := by decide +kernel
theorem dX1_tallyDays_145 : decode cX1_tallyDays 145 = .ok (.iaload, 1) := zDec_at zB_dX1_tallyDays_145 0 rfl
theorem dX1_tallyDays_146 : decode cX1_tallyDays 146 = .ok (.aload_n 0, 1) := zDec_at zB_dX1_tallyDays_145 1 rfl
theorem dX1_tallyDays_147 : decode cX1_tallyDays 147 = .ok (.getfield 22, 3) := zDec_at zB_dX1_tallyDays_145 2 rfl
theorem dX1_tallyDays_150 : decode cX1_tallyDays 150 = .ok (.iload 4, 2) := zDec_at zB_dX1_tallyDays_145 3 rfl
theorem dX1_tallyDays_152 : decode cX1_tallyDays 152 = .ok (.iconst 1, 1) := zDec_at zB_dX1_tallyDays_145 4 rfl
theorem dX1_tallyDays_153 : decode cX1_tallyDays 153 = .ok (.isub, 1) := zDec_at zB_dX1_tallyDays_145 5 rfl
theorem dX1_tallyDays_154 : decode cX1_tallyDays 154 = .ok (.iaload, 1) := zDec_at zB_dX1_tallyDays_145 6 rfl
theorem dX1_tallyDays_155 : decode cX1_tallyDays 155 = .ok (.iadd, 1) := zDec_at zB_dX1_tallyDays_145 7 rfl
theorem dX1_tallyDays_156 : decode cX1_tallyDays 156 = .ok (.iastore, 1) := zDec_at zB_dX1_tallyDays_145 8 rfl
theorem dX1_tallyDays_157 : decode cX1_tallyDays 157 = .ok (.aload_n 0, 1) := zDec_at zB_dX1_tallyDays_145 9 rfl
theorem dX1_tallyDays_158 : decode cX1_tallyDays 158 = .ok (.getfield 25, 3) := zDec_at zB_dX1_tallyDays_145 10 rfl
theorem dX1_tallyDays_161 : decode cX1_tallyDays 161 = .ok (.iload 4, 2) := zDec_at zB_dX1_tallyDays_145 11 rfl
theorem dX1_tallyDays_163 : decode cX1_tallyDays 163 = .ok (.dup2, 1) := zDec_at zB_dX1_tallyDays_145 12 rfl
theorem dX1_tallyDays_164 : decode cX1_tallyDays 164 = .ok (.iaload, 1) := zDec_at zB_dX1_tallyDays_145 13 rfl
theorem dX1_tallyDays_165 : decode cX1_tallyDays 165 = .ok (.aload_n 0, 1) := zDec_at zB_dX1_tallyDays_145 14 rfl
theorem dX1_tallyDays_166 : decode cX1_tallyDays 166 = .ok (.getfield 25, 3) := zDec_at zB_dX1_tallyDays_145 15 rfl
theorem dX1_tallyDays_169 : decode cX1_tallyDays 169 = .ok (.iload 4, 2) := zDec_at zB_dX1_tallyDays_145 16 rfl
theorem dX1_tallyDays_171 : decode cX1_tallyDays 171 = .ok (.iconst 1, 1) := zDec_at zB_dX1_tallyDays_145 17 rfl
theorem dX1_tallyDays_172 : decode cX1_tallyDays 172 = .ok (.isub, 1) := zDec_at zB_dX1_tallyDays_145 18 rfl
theorem dX1_tallyDays_173 : decode cX1_tallyDays 173 = .ok (.iaload, 1) := zDec_at zB_dX1_tallyDays_145 19 rfl
theorem dX1_tallyDays_174 : decode cX1_tallyDays 174 = .ok (.iadd, 1) := zDec_at zB_dX1_tallyDays_145 20 rfl
theorem dX1_tallyDays_175 : decode cX1_tallyDays 175 = .ok (.iastore, 1) := zDec_at zB_dX1_tallyDays_145 21 rfl
theorem dX1_tallyDays_176 : decode cX1_tallyDays 176 = .ok (.iinc 4 1, 3) := zDec_at zB_dX1_tallyDays_145 22 rfl
theorem dX1_tallyDays_179 : decode cX1_tallyDays 179 = .ok (.goto (-49), 3) := zDec_at zB_dX1_tallyDays_145 23 rfl
theorem dX1_tallyDays_182 : decode cX1_tallyDays 182 = .ok (.return_, 1) := zDec_at zB_dX1_tallyDays_145 24 rfl
theorem zB_dX1_wholeFine_0 : zDecB cX1_wholeFine [(0, .aload_n 0, 1), (1, .iload_n 1, 1), (2, .iload_n 3, 1), (3, .invokevirtual 204, 3), (6, .aload_n 0, 1), (7, .sipush 256, 3), (10, .iload_n 2, 1), (11, .iadd, 1), (12, .invokevirtual 83, 3), (15, .ifCond .eq 14, 3), (18, .iconst 0, 1), (19, .aload_n 0, 1), (20, .getfield 152, 3), (23, .invokestatic 161, 3), (26, .goto 4, 3), (29, .iconst 0, 1), (30, .ireturn, 1)] = true := by decide +kernel
theorem dX1_wholeFine_0 : decode cX1_wholeFine 0 = .ok (.aload_n 0, 1) := zDec_at zB_dX1_wholeFine_0 0 rfl
theorem dX1_wholeFine_1 : decode cX1_wholeFine 1 = .ok (.iload_n 1, 1) := zDec_at zB_dX1_wholeFine_0 1 rfl
theorem dX1_wholeFine_2 : decode cX1_wholeFine 2 = .ok (.iload_n 3, 1) := zDec_at zB_dX1_wholeFine_0 2 rfl
theorem dX1_wholeFine_3 : decode cX1_wholeFine 3 = .ok (.invokevirtual 204, 3) := zDec_at zB_dX1_wholeFine_0 3 rfl
theorem dX1_wholeFine_6 : decode cX1_wholeFine 6 = .ok (.aload_n 0, 1) := zDec_at zB_dX1_wholeFine_0 4 rfl
theorem dX1_wholeFine_7 : decode cX1_wholeFine 7 = .ok (.sipush 256, 3) := zDec_at zB_dX1_wholeFine_0 5 rfl
theorem dX1_wholeFine_10 : decode cX1_wholeFine 10 = .ok (.iload_n 2, 1) := zDec_at zB_dX1_wholeFine_0 6 rfl
theorem dX1_wholeFine_11 : decode cX1_wholeFine 11 = .ok (.iadd, 1) := zDec_at zB_dX1_wholeFine_0 7 rfl
theorem dX1_wholeFine_12 : decode cX1_wholeFine 12 = .ok (.invokevirtual 83, 3) := zDec_at zB_dX1_wholeFine_0 8 rfl
theorem dX1_wholeFine_15 : decode cX1_wholeFine 15 = .ok (.ifCond .eq 14, 3) := zDec_at zB_dX1_wholeFine_0 9 rfl
theorem dX1_wholeFine_18 : decode cX1_wholeFine 18 = .ok (.iconst 0, 1) := zDec_at zB_dX1_wholeFine_0 10 rfl
theorem dX1_wholeFine_19 : decode cX1_wholeFine 19 = .ok (.aload_n 0, 1) := zDec_at zB_dX1_wholeFine_0 11 rfl
theorem dX1_wholeFine_20 : decode cX1_wholeFine 20 = .ok (.getfield 152, 3) := zDec_at zB_dX1_wholeFine_0 12 rfl
theorem dX1_wholeFine_23 : decode cX1_wholeFine 23 = .ok (.invokestatic 161, 3) := zDec_at zB_dX1_wholeFine_0 13 rfl
theorem dX1_wholeFine_26 : decode cX1_wholeFine 26 = .ok (.goto 4, 3) := zDec_at zB_dX1_wholeFine_0 14 rfl
theorem dX1_wholeFine_29 : decode cX1_wholeFine 29 = .ok (.iconst 0, 1) := zDec_at zB_dX1_wholeFine_0 15 rfl
theorem dX1_wholeFine_30 : decode cX1_wholeFine 30 = .ok (.ireturn, 1) := zDec_at zB_dX1_wholeFine_0 16 rfl
theorem zB_dX1_wordsValue_0 : zDecB cX1_wordsValue [(0, .aload_n 0, 1), (1, .getfield 34, 3), (4, .getfield 174, 3), (7, .astore_n 2, 1), (8, .aload_n 0, 1), (9, .getfield 56, 3), (12, .iconst 2, 1), (13, .idiv, 1), (14, .istore_n 3, 1), (15, .iload_n 1, 1), (16, .tableswitch 213 0 10 #[60, 70, 75, 82, 84, 89, 94, 126, 158, 168, 187], 60), (76, .aload_n 2, 1), (77, .getfield 178, 3), (80, .aload_n 0, 1), (81, .getfield 49, 3), (84, .iaload, 1), (85, .ireturn, 1), (86, .aload_n 0, 1), (87, .getfield 62, 3), (90, .ireturn, 1), (91, .aload_n 0, 1), (92, .getfield 56, 3), (95, .iconst 2, 1), (96, .irem, 1), (97, .ireturn, 1), (98, .iload_n 3, 1), (99, .ireturn, 1), (100, .iload_n 3, 1), (101, .bipush 7, 2), (103, .idiv, 1), (104, .ireturn, 1), (105, .aload_n 0, 1), (106, .getfield 68, 3), (109, .ireturn, 1), (110, .aload_n 0, 1), (111, .getfield 71, 3), (114, .ifCond .eq 26, 3), (117, .aload_n 0, 1), (118, .getfield 22, 3), (121, .iload_n 3, 1)] = true := by decide +kernel
theorem dX1_wordsValue_0 : decode cX1_wordsValue 0 = .ok (.aload_n 0, 1) := zDec_at zB_dX1_wordsValue_0 0 rfl
theorem dX1_wordsValue_1 : decode cX1_wordsValue 1 = .ok (.getfield 34, 3) := zDec_at zB_dX1_wordsValue_0 1 rfl
theorem dX1_wordsValue_4 : decode cX1_wordsValue 4 = .ok (.getfield 174, 3) := zDec_at zB_dX1_wordsValue_0 2 rfl
theorem dX1_wordsValue_7 : decode cX1_wordsValue 7 = .ok (.astore_n 2, 1) := zDec_at zB_dX1_wordsValue_0 3 rfl
theorem dX1_wordsValue_8 : decode cX1_wordsValue 8 = .ok (.aload_n 0, 1) := zDec_at zB_dX1_wordsValue_0 4 rfl
theorem dX1_wordsValue_9 : decode cX1_wordsValue 9 = .ok (.getfield 56, 3) := zDec_at zB_dX1_wordsValue_0 5 rfl
theorem dX1_wordsValue_12 : decode cX1_wordsValue 12 = .ok (.iconst 2, 1) := zDec_at zB_dX1_wordsValue_0 6 rfl
theorem dX1_wordsValue_13 : decode cX1_wordsValue 13 = .ok (.idiv, 1) := zDec_at zB_dX1_wordsValue_0 7 rfl
theorem dX1_wordsValue_14 : decode cX1_wordsValue 14 = .ok (.istore_n 3, 1) := zDec_at zB_dX1_wordsValue_0 8 rfl
theorem dX1_wordsValue_15 : decode cX1_wordsValue 15 = .ok (.iload_n 1, 1) := zDec_at zB_dX1_wordsValue_0 9 rfl
theorem dX1_wordsValue_16 : decode cX1_wordsValue 16 = .ok (.tableswitch 213 0 10 #[60, 70, 75, 82, 84, 89, 94, 126, 158, 168, 187], 60) := zDec_at zB_dX1_wordsValue_0 10 rfl
theorem dX1_wordsValue_76 : decode cX1_wordsValue 76 = .ok (.aload_n 2, 1) := zDec_at zB_dX1_wordsValue_0 11 rfl
theorem dX1_wordsValue_77 : decode cX1_wordsValue 77 = .ok (.getfield 178, 3) := zDec_at zB_dX1_wordsValue_0 12 rfl
theorem dX1_wordsValue_80 : decode cX1_wordsValue 80 = .ok (.aload_n 0, 1) := zDec_at zB_dX1_wordsValue_0 13 rfl
theorem dX1_wordsValue_81 : decode cX1_wordsValue 81 = .ok (.getfield 49, 3) := zDec_at zB_dX1_wordsValue_0 14 rfl
theorem dX1_wordsValue_84 : decode cX1_wordsValue 84 = .ok (.iaload, 1) := zDec_at zB_dX1_wordsValue_0 15 rfl
theorem dX1_wordsValue_85 : decode cX1_wordsValue 85 = .ok (.ireturn, 1) := zDec_at zB_dX1_wordsValue_0 16 rfl
theorem dX1_wordsValue_86 : decode cX1_wordsValue 86 = .ok (.aload_n 0, 1) := zDec_at zB_dX1_wordsValue_0 17 rfl
theorem dX1_wordsValue_87 : decode cX1_wordsValue 87 = .ok (.getfield 62, 3) := zDec_at zB_dX1_wordsValue_0 18 rfl
theorem dX1_wordsValue_90 : decode cX1_wordsValue 90 = .ok (.ireturn, 1) := zDec_at zB_dX1_wordsValue_0 19 rfl
theorem dX1_wordsValue_91 : decode cX1_wordsValue 91 = .ok (.aload_n 0, 1) := zDec_at zB_dX1_wordsValue_0 20 rfl
theorem dX1_wordsValue_92 : decode cX1_wordsValue 92 = .ok (.getfield 56, 3) := zDec_at zB_dX1_wordsValue_0 21 rfl
theorem dX1_wordsValue_95 : decode cX1_wordsValue 95 = .ok (.iconst 2, 1) := zDec_at zB_dX1_wordsValue_0 22 rfl
theorem dX1_wordsValue_96 : decode cX1_wordsValue 96 = .ok (.irem, 1) := zDec_at zB_dX1_wordsValue_0 23 rfl
theorem dX1_wordsValue_97 : decode cX1_wordsValue 97 = .ok (.ireturn, 1) := zDec_at zB_dX1_wordsValue_0 24 rfl
theorem dX1_wordsValue_98 : decode cX1_wordsValue 98 = .ok (.iload_n 3, 1) := zDec_at zB_dX1_wordsValue_0 25 rfl
theorem dX1_wordsValue_99 : decode cX1_wordsValue 99 = .ok (.ireturn, 1) := zDec_at zB_dX1_wordsValue_0 26 rfl
theorem dX1_wordsValue_100 : decode cX1_wordsValue 100 = .ok (.iload_n 3, 1) := zDec_at zB_dX1_wordsValue_0 27 rfl
theorem dX1_wordsValue_101 : decode cX1_wordsValue 101 = .ok (.bipush 7, 2) := zDec_at zB_dX1_wordsValue_0 28 rfl
theorem dX1_wordsValue_103 : decode cX1_wordsValue 103 = .ok (.idiv, 1) := zDec_at zB_dX1_wordsValue_0 29 rfl
theorem dX1_wordsValue_104 : decode cX1_wordsValue 104 = .ok (.ireturn, 1) := zDec_at zB_dX1_wordsValue_0 30 rfl
theorem dX1_wordsValue_105 : decode cX1_wordsValue 105 = .ok (.aload_n 0, 1) := zDec_at zB_dX1_wordsValue_0 31 rfl
theorem dX1_wordsValue_106 : decode cX1_wordsValue 106 = .ok (.getfield 68, 3) := zDec_at zB_dX1_wordsValue_0 32 rfl
theorem dX1_wordsValue_109 : decode cX1_wordsValue 109 = .ok (.ireturn, 1) := zDec_at zB_dX1_wordsValue_0 33 rfl
theorem dX1_wordsValue_110 : decode cX1_wordsValue 110 = .ok (.aload_n 0, 1) := zDec_at zB_dX1_wordsValue_0 34 rfl
theorem dX1_wordsValue_111 : decode cX1_wordsValue 111 = .ok (.getfield 71, 3) := zDec_at zB_dX1_wordsValue_0 35 rfl
theorem dX1_wordsValue_114 : decode cX1_wordsValue 114 = .ok (.ifCond .eq 26, 3) := zDec_at zB_dX1_wordsValue_0 36 rfl
theorem dX1_wordsValue_117 : decode cX1_wordsValue 117 = .ok (.aload_n 0, 1) := zDec_at zB_dX1_wordsValue_0 37 rfl
theorem dX1_wordsValue_118 : decode cX1_wordsValue 118 = .ok (.getfield 22, 3) := zDec_at zB_dX1_wordsValue_0 38 rfl
theorem dX1_wordsValue_121 : decode cX1_wordsValue 121 = .ok (.iload_n 3, 1) := zDec_at zB_dX1_wordsValue_0 39 rfl
theorem zB_dX1_wordsValue_122 : zDecB cX1_wordsValue [(122, .iaload, 1), (123, .aload_n 0, 1), (124, .getfield 22, 3), (127, .iconst 0, 1), (128, .iload_n 3, 1), (129, .bipush 84, 2), (131, .isub, 1), (132, .invokestatic 161, 3), (135, .iaload, 1), (136, .isub, 1), (137, .goto 4, 3), (140, .iconst 0, 1), (141, .ireturn, 1), (142, .aload_n 0, 1), (143, .getfield 71, 3), (146, .ifCond .eq 26, 3), (149, .aload_n 0, 1), (150, .getfield 25, 3), (153, .iload_n 3, 1), (154, .iaload, 1), (155, .aload_n 0, 1), (156, .getfield 25, 3), (159, .iconst 0, 1), (160, .iload_n 3, 1), (161, .bipush 84, 2), (163, .isub, 1), (164, .invokestatic 161, 3), (167, .iaload, 1), (168, .isub, 1), (169, .goto 4, 3), (172, .iconst 0, 1), (173, .ireturn, 1), (174, .aload_n 2, 1), (175, .getfield 183, 3), (178, .aload_n 0, 1), (179, .getfield 49, 3), (182, .iaload, 1), (183, .ireturn, 1), (184, .aload_n 2, 1), (185, .aload_n 0, 1)] = true := by decide +kernel
theorem dX1_wordsValue_122 : decode cX1_wordsValue 122 = .ok (.iaload, 1) := zDec_at zB_dX1_wordsValue_122 0 rfl
theorem dX1_wordsValue_123 : decode cX1_wordsValue 123 = .ok (.aload_n 0, 1) := zDec_at zB_dX1_wordsValue_122 1 rfl
theorem dX1_wordsValue_124 : decode cX1_wordsValue 124 = .ok (.getfield 22, 3) := zDec_at zB_dX1_wordsValue_122 2 rfl
theorem dX1_wordsValue_127 : decode cX1_wordsValue 127 = .ok (.iconst 0, 1) := zDec_at zB_dX1_wordsValue_122 3 rfl
theorem dX1_wordsValue_128 : decode cX1_wordsValue 128 = .ok (.iload_n 3, 1) := zDec_at zB_dX1_wordsValue_122 4 rfl
theorem dX1_wordsValue_129 : decode cX1_wordsValue 129 = .ok (.bipush 84, 2) := zDec_at zB_dX1_wordsValue_122 5 rfl
theorem dX1_wordsValue_131 : decode cX1_wordsValue 131 = .ok (.isub, 1) := zDec_at zB_dX1_wordsValue_122 6 rfl
theorem dX1_wordsValue_132 : decode cX1_wordsValue 132 = .ok (.invokestatic 161, 3) := zDec_at zB_dX1_wordsValue_122 7 rfl
theorem dX1_wordsValue_135 : decode cX1_wordsValue 135 = .ok (.iaload, 1) := zDec_at zB_dX1_wordsValue_122 8 rfl
theorem dX1_wordsValue_136 : decode cX1_wordsValue 136 = .ok (.isub, 1) := zDec_at zB_dX1_wordsValue_122 9 rfl
theorem dX1_wordsValue_137 : decode cX1_wordsValue 137 = .ok (.goto 4, 3) := zDec_at zB_dX1_wordsValue_122 10 rfl
theorem dX1_wordsValue_140 : decode cX1_wordsValue 140 = .ok (.iconst 0, 1) := zDec_at zB_dX1_wordsValue_122 11 rfl
theorem dX1_wordsValue_141 : decode cX1_wordsValue 141 = .ok (.ireturn, 1) := zDec_at zB_dX1_wordsValue_122 12 rfl
theorem dX1_wordsValue_142 : decode cX1_wordsValue 142 = .ok (.aload_n 0, 1) := zDec_at zB_dX1_wordsValue_122 13 rfl
theorem dX1_wordsValue_143 : decode cX1_wordsValue 143 = .ok (.getfield 71, 3) := zDec_at zB_dX1_wordsValue_122 14 rfl
theorem dX1_wordsValue_146 : decode cX1_wordsValue 146 = .ok (.ifCond .eq 26, 3) := zDec_at zB_dX1_wordsValue_122 15 rfl
theorem dX1_wordsValue_149 : decode cX1_wordsValue 149 = .ok (.aload_n 0, 1) := zDec_at zB_dX1_wordsValue_122 16 rfl
theorem dX1_wordsValue_150 : decode cX1_wordsValue 150 = .ok (.getfield 25, 3) := zDec_at zB_dX1_wordsValue_122 17 rfl
theorem dX1_wordsValue_153 : decode cX1_wordsValue 153 = .ok (.iload_n 3, 1) := zDec_at zB_dX1_wordsValue_122 18 rfl
theorem dX1_wordsValue_154 : decode cX1_wordsValue 154 = .ok (.iaload, 1) := zDec_at zB_dX1_wordsValue_122 19 rfl
theorem dX1_wordsValue_155 : decode cX1_wordsValue 155 = .ok (.aload_n 0, 1) := zDec_at zB_dX1_wordsValue_122 20 rfl
theorem dX1_wordsValue_156 : decode cX1_wordsValue 156 = .ok (.getfield 25, 3) := zDec_at zB_dX1_wordsValue_122 21 rfl
theorem dX1_wordsValue_159 : decode cX1_wordsValue 159 = .ok (.iconst 0, 1) := zDec_at zB_dX1_wordsValue_122 22 rfl
theorem dX1_wordsValue_160 : decode cX1_wordsValue 160 = .ok (.iload_n 3, 1) := zDec_at zB_dX1_wordsValue_122 23 rfl
theorem dX1_wordsValue_161 : decode cX1_wordsValue 161 = .ok (.bipush 84, 2) := zDec_at zB_dX1_wordsValue_122 24 rfl
theorem dX1_wordsValue_163 : decode cX1_wordsValue 163 = .ok (.isub, 1) := zDec_at zB_dX1_wordsValue_122 25 rfl
theorem dX1_wordsValue_164 : decode cX1_wordsValue 164 = .ok (.invokestatic 161, 3) := zDec_at zB_dX1_wordsValue_122 26 rfl
theorem dX1_wordsValue_167 : decode cX1_wordsValue 167 = .ok (.iaload, 1) := zDec_at zB_dX1_wordsValue_122 27 rfl
theorem dX1_wordsValue_168 : decode cX1_wordsValue 168 = .ok (.isub, 1) := zDec_at zB_dX1_wordsValue_122 28 rfl
theorem dX1_wordsValue_169 : decode cX1_wordsValue 169 = .ok (.goto 4, 3) := zDec_at zB_dX1_wordsValue_122 29 rfl
theorem dX1_wordsValue_172 : decode cX1_wordsValue 172 = .ok (.iconst 0, 1) := zDec_at zB_dX1_wordsValue_122 30 rfl
theorem dX1_wordsValue_173 : decode cX1_wordsValue 173 = .ok (.ireturn, 1) := zDec_at zB_dX1_wordsValue_122 31 rfl
theorem dX1_wordsValue_174 : decode cX1_wordsValue 174 = .ok (.aload_n 2, 1) := zDec_at zB_dX1_wordsValue_122 32 rfl
theorem dX1_wordsValue_175 : decode cX1_wordsValue 175 = .ok (.getfield 183, 3) := zDec_at zB_dX1_wordsValue_122 33 rfl
theorem dX1_wordsValue_178 : decode cX1_wordsValue 178 = .ok (.aload_n 0, 1) := zDec_at zB_dX1_wordsValue_122 34 rfl
theorem dX1_wordsValue_179 : decode cX1_wordsValue 179 = .ok (.getfield 49, 3) := zDec_at zB_dX1_wordsValue_122 35 rfl
theorem dX1_wordsValue_182 : decode cX1_wordsValue 182 = .ok (.iaload, 1) := zDec_at zB_dX1_wordsValue_122 36 rfl
theorem dX1_wordsValue_183 : decode cX1_wordsValue 183 = .ok (.ireturn, 1) := zDec_at zB_dX1_wordsValue_122 37 rfl
theorem dX1_wordsValue_184 : decode cX1_wordsValue 184 = .ok (.aload_n 2, 1) := zDec_at zB_dX1_wordsValue_122 38 rfl
theorem dX1_wordsValue_185 : decode cX1_wordsValue 185 = .ok (.aload_n 0, 1) := zDec_at zB_dX1_wordsValue_122 39 rfl
theorem zB_dX1_wordsValue_186 : zDecB cX1_wordsValue [(186, .getfield 49, 3), (189, .iconst 0, 1), (190, .iload_n 3, 1), (191, .invokevirtual 186, 3), (194, .ifCond .eq 7, 3), (197, .iconst 1, 1), (198, .goto 4, 3), (201, .iconst 0, 1), (202, .ireturn, 1), (203, .aload_n 2, 1), (204, .aload_n 2, 1), (205, .getfield 189, 3), (208, .aload_n 0, 1), (209, .getfield 49, 3), (212, .iaload, 1), (213, .aload_n 0, 1), (214, .getfield 56, 3), (217, .invokevirtual 192, 3), (220, .ifCond .eq 7, 3), (223, .iconst 1, 1), (224, .goto 4, 3), (227, .iconst 0, 1), (228, .ireturn, 1), (229, .aload_n 2, 1), (230, .aload_n 0, 1), (231, .getfield 49, 3), (234, .iconst 1, 1), (235, .iload_n 3, 1), (236, .invokevirtual 186, 3), (239, .ifCond .eq 7, 3), (242, .iconst 1, 1), (243, .goto 4, 3), (246, .iconst 0, 1), (247, .ireturn, 1)] = true := by decide +kernel
theorem dX1_wordsValue_186 : decode cX1_wordsValue 186 = .ok (.getfield 49, 3) := zDec_at zB_dX1_wordsValue_186 0 rfl
theorem dX1_wordsValue_189 : decode cX1_wordsValue 189 = .ok (.iconst 0, 1) := zDec_at zB_dX1_wordsValue_186 1 rfl
theorem dX1_wordsValue_190 : decode cX1_wordsValue 190 = .ok (.iload_n 3, 1) := zDec_at zB_dX1_wordsValue_186 2 rfl
theorem dX1_wordsValue_191 : decode cX1_wordsValue 191 = .ok (.invokevirtual 186, 3) := zDec_at zB_dX1_wordsValue_186 3 rfl
theorem dX1_wordsValue_194 : decode cX1_wordsValue 194 = .ok (.ifCond .eq 7, 3) := zDec_at zB_dX1_wordsValue_186 4 rfl
theorem dX1_wordsValue_197 : decode cX1_wordsValue 197 = .ok (.iconst 1, 1) := zDec_at zB_dX1_wordsValue_186 5 rfl
theorem dX1_wordsValue_198 : decode cX1_wordsValue 198 = .ok (.goto 4, 3) := zDec_at zB_dX1_wordsValue_186 6 rfl
theorem dX1_wordsValue_201 : decode cX1_wordsValue 201 = .ok (.iconst 0, 1) := zDec_at zB_dX1_wordsValue_186 7 rfl
theorem dX1_wordsValue_202 : decode cX1_wordsValue 202 = .ok (.ireturn, 1) := zDec_at zB_dX1_wordsValue_186 8 rfl
theorem dX1_wordsValue_203 : decode cX1_wordsValue 203 = .ok (.aload_n 2, 1) := zDec_at zB_dX1_wordsValue_186 9 rfl
theorem dX1_wordsValue_204 : decode cX1_wordsValue 204 = .ok (.aload_n 2, 1) := zDec_at zB_dX1_wordsValue_186 10 rfl
theorem dX1_wordsValue_205 : decode cX1_wordsValue 205 = .ok (.getfield 189, 3) := zDec_at zB_dX1_wordsValue_186 11 rfl
theorem dX1_wordsValue_208 : decode cX1_wordsValue 208 = .ok (.aload_n 0, 1) := zDec_at zB_dX1_wordsValue_186 12 rfl
theorem dX1_wordsValue_209 : decode cX1_wordsValue 209 = .ok (.getfield 49, 3) := zDec_at zB_dX1_wordsValue_186 13 rfl
theorem dX1_wordsValue_212 : decode cX1_wordsValue 212 = .ok (.iaload, 1) := zDec_at zB_dX1_wordsValue_186 14 rfl
theorem dX1_wordsValue_213 : decode cX1_wordsValue 213 = .ok (.aload_n 0, 1) := zDec_at zB_dX1_wordsValue_186 15 rfl
theorem dX1_wordsValue_214 : decode cX1_wordsValue 214 = .ok (.getfield 56, 3) := zDec_at zB_dX1_wordsValue_186 16 rfl
theorem dX1_wordsValue_217 : decode cX1_wordsValue 217 = .ok (.invokevirtual 192, 3) := zDec_at zB_dX1_wordsValue_186 17 rfl
theorem dX1_wordsValue_220 : decode cX1_wordsValue 220 = .ok (.ifCond .eq 7, 3) := zDec_at zB_dX1_wordsValue_186 18 rfl
theorem dX1_wordsValue_223 : decode cX1_wordsValue 223 = .ok (.iconst 1, 1) := zDec_at zB_dX1_wordsValue_186 19 rfl
theorem dX1_wordsValue_224 : decode cX1_wordsValue 224 = .ok (.goto 4, 3) := zDec_at zB_dX1_wordsValue_186 20 rfl
theorem dX1_wordsValue_227 : decode cX1_wordsValue 227 = .ok (.iconst 0, 1) := zDec_at zB_dX1_wordsValue_186 21 rfl
theorem dX1_wordsValue_228 : decode cX1_wordsValue 228 = .ok (.ireturn, 1) := zDec_at zB_dX1_wordsValue_186 22 rfl
theorem dX1_wordsValue_229 : decode cX1_wordsValue 229 = .ok (.aload_n 2, 1) := zDec_at zB_dX1_wordsValue_186 23 rfl
theorem dX1_wordsValue_230 : decode cX1_wordsValue 230 = .ok (.aload_n 0, 1) := zDec_at zB_dX1_wordsValue_186 24 rfl
theorem dX1_wordsValue_231 : decode cX1_wordsValue 231 = .ok (.getfield 49, 3) := zDec_at zB_dX1_wordsValue_186 25 rfl
theorem dX1_wordsValue_234 : decode cX1_wordsValue 234 = .ok (.iconst 1, 1) := zDec_at zB_dX1_wordsValue_186 26 rfl
theorem dX1_wordsValue_235 : decode cX1_wordsValue 235 = .ok (.iload_n 3, 1) := zDec_at zB_dX1_wordsValue_186 27 rfl
theorem dX1_wordsValue_236 : decode cX1_wordsValue 236 = .ok (.invokevirtual 186, 3) := zDec_at zB_dX1_wordsValue_186 28 rfl
theorem dX1_wordsValue_239 : decode cX1_wordsValue 239 = .ok (.ifCond .eq 7, 3) := zDec_at zB_dX1_wordsValue_186 29 rfl
theorem dX1_wordsValue_242 : decode cX1_wordsValue 242 = .ok (.iconst 1, 1) := zDec_at zB_dX1_wordsValue_186 30 rfl
theorem dX1_wordsValue_243 : decode cX1_wordsValue 243 = .ok (.goto 4, 3) := zDec_at zB_dX1_wordsValue_186 31 rfl
theorem dX1_wordsValue_246 : decode cX1_wordsValue 246 = .ok (.iconst 0, 1) := zDec_at zB_dX1_wordsValue_186 32 rfl
theorem dX1_wordsValue_247 : decode cX1_wordsValue 247 = .ok (.ireturn, 1) := zDec_at zB_dX1_wordsValue_186 33 rfl
theorem zB_dX2_bestJoin_0 : zDecB cX2_bestJoin [(0, .iconst 1, 1), (1, .aload_n 0, 1), (2, .getfield 48, 3), (5, .getfield 49, 3), (8, .ishl, 1), (9, .istore_n 2, 1), (10, .aload_n 0, 1), (11, .iload_n 1, 1), (12, .invokevirtual 54, 3), (15, .iconst 0, 1), (16, .istore_n 3, 1), (17, .iload_n 3, 1), (18, .iload_n 2, 1), (19, .if_icmp .ge 45, 3), (22, .aload_n 0, 1), (23, .getfield 22, 3), (26, .aload_n 0, 1), (27, .getfield 48, 3), (30, .getfield 58, 3), (33, .bipush 64, 2), (35, .imul, 1), (36, .iload_n 3, 1), (37, .iadd, 1), (38, .iconst 0, 1), (39, .iastore, 1), (40, .aload_n 0, 1), (41, .getfield 25, 3), (44, .aload_n 0, 1), (45, .getfield 48, 3), (48, .getfield 58, 3), (51, .bipush 64, 2), (53, .imul, 1), (54, .iload_n 3, 1), (55, .iadd, 1), (56, .iconst 1, 1), (57, .iastore, 1), (58, .iinc 3 1, 3), (61, .goto (-44), 3), (64, .aload_n 0, 1), (65, .getfield 48, 3)] = true := by decide +kernel
theorem dX2_bestJoin_0 : decode cX2_bestJoin 0 = .ok (.iconst 1, 1) := zDec_at zB_dX2_bestJoin_0 0 rfl
theorem dX2_bestJoin_1 : decode cX2_bestJoin 1 = .ok (.aload_n 0, 1) := zDec_at zB_dX2_bestJoin_0 1 rfl
theorem dX2_bestJoin_2 : decode cX2_bestJoin 2 = .ok (.getfield 48, 3) := zDec_at zB_dX2_bestJoin_0 2 rfl
theorem dX2_bestJoin_5 : decode cX2_bestJoin 5 = .ok (.getfield 49, 3) := zDec_at zB_dX2_bestJoin_0 3 rfl
theorem dX2_bestJoin_8 : decode cX2_bestJoin 8 = .ok (.ishl, 1) := zDec_at zB_dX2_bestJoin_0 4 rfl
theorem dX2_bestJoin_9 : decode cX2_bestJoin 9 = .ok (.istore_n 2, 1) := zDec_at zB_dX2_bestJoin_0 5 rfl
theorem dX2_bestJoin_10 : decode cX2_bestJoin 10 = .ok (.aload_n 0, 1) := zDec_at zB_dX2_bestJoin_0 6 rfl
theorem dX2_bestJoin_11 : decode cX2_bestJoin 11 = .ok (.iload_n 1, 1) := zDec_at zB_dX2_bestJoin_0 7 rfl
theorem dX2_bestJoin_12 : decode cX2_bestJoin 12 = .ok (.invokevirtual 54, 3) := zDec_at zB_dX2_bestJoin_0 8 rfl
theorem dX2_bestJoin_15 : decode cX2_bestJoin 15 = .ok (.iconst 0, 1) := zDec_at zB_dX2_bestJoin_0 9 rfl
theorem dX2_bestJoin_16 : decode cX2_bestJoin 16 = .ok (.istore_n 3, 1) := zDec_at zB_dX2_bestJoin_0 10 rfl
theorem dX2_bestJoin_17 : decode cX2_bestJoin 17 = .ok (.iload_n 3, 1) := zDec_at zB_dX2_bestJoin_0 11 rfl
theorem dX2_bestJoin_18 : decode cX2_bestJoin 18 = .ok (.iload_n 2, 1) := zDec_at zB_dX2_bestJoin_0 12 rfl
theorem dX2_bestJoin_19 : decode cX2_bestJoin 19 = .ok (.if_icmp .ge 45, 3) := zDec_at zB_dX2_bestJoin_0 13 rfl
theorem dX2_bestJoin_22 : decode cX2_bestJoin 22 = .ok (.aload_n 0, 1) := zDec_at zB_dX2_bestJoin_0 14 rfl
theorem dX2_bestJoin_23 : decode cX2_bestJoin 23 = .ok (.getfield 22, 3) := zDec_at zB_dX2_bestJoin_0 15 rfl
theorem dX2_bestJoin_26 : decode cX2_bestJoin 26 = .ok (.aload_n 0, 1) := zDec_at zB_dX2_bestJoin_0 16 rfl
theorem dX2_bestJoin_27 : decode cX2_bestJoin 27 = .ok (.getfield 48, 3) := zDec_at zB_dX2_bestJoin_0 17 rfl
theorem dX2_bestJoin_30 : decode cX2_bestJoin 30 = .ok (.getfield 58, 3) := zDec_at zB_dX2_bestJoin_0 18 rfl
theorem dX2_bestJoin_33 : decode cX2_bestJoin 33 = .ok (.bipush 64, 2) := zDec_at zB_dX2_bestJoin_0 19 rfl
theorem dX2_bestJoin_35 : decode cX2_bestJoin 35 = .ok (.imul, 1) := zDec_at zB_dX2_bestJoin_0 20 rfl
theorem dX2_bestJoin_36 : decode cX2_bestJoin 36 = .ok (.iload_n 3, 1) := zDec_at zB_dX2_bestJoin_0 21 rfl
theorem dX2_bestJoin_37 : decode cX2_bestJoin 37 = .ok (.iadd, 1) := zDec_at zB_dX2_bestJoin_0 22 rfl
theorem dX2_bestJoin_38 : decode cX2_bestJoin 38 = .ok (.iconst 0, 1) := zDec_at zB_dX2_bestJoin_0 23 rfl
theorem dX2_bestJoin_39 : decode cX2_bestJoin 39 = .ok (.iastore, 1) := zDec_at zB_dX2_bestJoin_0 24 rfl
theorem dX2_bestJoin_40 : decode cX2_bestJoin 40 = .ok (.aload_n 0, 1) := zDec_at zB_dX2_bestJoin_0 25 rfl
theorem dX2_bestJoin_41 : decode cX2_bestJoin 41 = .ok (.getfield 25, 3) := zDec_at zB_dX2_bestJoin_0 26 rfl
theorem dX2_bestJoin_44 : decode cX2_bestJoin 44 = .ok (.aload_n 0, 1) := zDec_at zB_dX2_bestJoin_0 27 rfl
theorem dX2_bestJoin_45 : decode cX2_bestJoin 45 = .ok (.getfield 48, 3) := zDec_at zB_dX2_bestJoin_0 28 rfl
theorem dX2_bestJoin_48 : decode cX2_bestJoin 48 = .ok (.getfield 58, 3) := zDec_at zB_dX2_bestJoin_0 29 rfl
theorem dX2_bestJoin_51 : decode cX2_bestJoin 51 = .ok (.bipush 64, 2) := zDec_at zB_dX2_bestJoin_0 30 rfl
theorem dX2_bestJoin_53 : decode cX2_bestJoin 53 = .ok (.imul, 1) := zDec_at zB_dX2_bestJoin_0 31 rfl
theorem dX2_bestJoin_54 : decode cX2_bestJoin 54 = .ok (.iload_n 3, 1) := zDec_at zB_dX2_bestJoin_0 32 rfl
theorem dX2_bestJoin_55 : decode cX2_bestJoin 55 = .ok (.iadd, 1) := zDec_at zB_dX2_bestJoin_0 33 rfl
theorem dX2_bestJoin_56 : decode cX2_bestJoin 56 = .ok (.iconst 1, 1) := zDec_at zB_dX2_bestJoin_0 34 rfl
theorem dX2_bestJoin_57 : decode cX2_bestJoin 57 = .ok (.iastore, 1) := zDec_at zB_dX2_bestJoin_0 35 rfl
theorem dX2_bestJoin_58 : decode cX2_bestJoin 58 = .ok (.iinc 3 1, 3) := zDec_at zB_dX2_bestJoin_0 36 rfl
theorem dX2_bestJoin_61 : decode cX2_bestJoin 61 = .ok (.goto (-44), 3) := zDec_at zB_dX2_bestJoin_0 37 rfl
theorem dX2_bestJoin_64 : decode cX2_bestJoin 64 = .ok (.aload_n 0, 1) := zDec_at zB_dX2_bestJoin_0 38 rfl
theorem dX2_bestJoin_65 : decode cX2_bestJoin 65 = .ok (.getfield 48, 3) := zDec_at zB_dX2_bestJoin_0 39 rfl
theorem zB_dX2_bestJoin_68 : zDecB cX2_bestJoin [(68, .getfield 58, 3), (71, .iconst 1, 1), (72, .isub, 1), (73, .istore_n 3, 1), (74, .iload_n 3, 1), (75, .ifCond .lt 31, 3), (78, .iconst 0, 1), (79, .istore 4, 2), (81, .iload 4, 2), (83, .iload_n 2, 1), (84, .if_icmp .ge 16, 3), (87, .aload_n 0, 1), (88, .iload_n 3, 1), (89, .iload 4, 2), (91, .invokevirtual 61, 3), (94, .iinc 4 1, 3), (97, .goto (-16), 3), (100, .iinc 3 (-1), 3), (103, .goto (-29), 3), (106, .aload_n 0, 1), (107, .invokevirtual 65, 3), (110, .aload_n 0, 1), (111, .getfield 22, 3), (114, .iconst 0, 1), (115, .iaload, 1), (116, .bipush 8, 2), (118, .idiv, 1), (119, .ireturn, 1)] = true := by decide +kernel
theorem dX2_bestJoin_68 : decode cX2_bestJoin 68 = .ok (.getfield 58, 3) := zDec_at zB_dX2_bestJoin_68 0 rfl
theorem dX2_bestJoin_71 : decode cX2_bestJoin 71 = .ok (.iconst 1, 1) := zDec_at zB_dX2_bestJoin_68 1 rfl
theorem dX2_bestJoin_72 : decode cX2_bestJoin 72 = .ok (.isub, 1) := zDec_at zB_dX2_bestJoin_68 2 rfl
theorem dX2_bestJoin_73 : decode cX2_bestJoin 73 = .ok (.istore_n 3, 1) := zDec_at zB_dX2_bestJoin_68 3 rfl
theorem dX2_bestJoin_74 : decode cX2_bestJoin 74 = .ok (.iload_n 3, 1) := zDec_at zB_dX2_bestJoin_68 4 rfl
theorem dX2_bestJoin_75 : decode cX2_bestJoin 75 = .ok (.ifCond .lt 31, 3) := zDec_at zB_dX2_bestJoin_68 5 rfl
theorem dX2_bestJoin_78 : decode cX2_bestJoin 78 = .ok (.iconst 0, 1) := zDec_at zB_dX2_bestJoin_68 6 rfl
theorem dX2_bestJoin_79 : decode cX2_bestJoin 79 = .ok (.istore 4, 2) := zDec_at zB_dX2_bestJoin_68 7 rfl
theorem dX2_bestJoin_81 : decode cX2_bestJoin 81 = .ok (.iload 4, 2) := zDec_at zB_dX2_bestJoin_68 8 rfl
theorem dX2_bestJoin_83 : decode cX2_bestJoin 83 = .ok (.iload_n 2, 1) := zDec_at zB_dX2_bestJoin_68 9 rfl
theorem dX2_bestJoin_84 : decode cX2_bestJoin 84 = .ok (.if_icmp .ge 16, 3) := zDec_at zB_dX2_bestJoin_68 10 rfl
theorem dX2_bestJoin_87 : decode cX2_bestJoin 87 = .ok (.aload_n 0, 1) := zDec_at zB_dX2_bestJoin_68 11 rfl
theorem dX2_bestJoin_88 : decode cX2_bestJoin 88 = .ok (.iload_n 3, 1) := zDec_at zB_dX2_bestJoin_68 12 rfl
theorem dX2_bestJoin_89 : decode cX2_bestJoin 89 = .ok (.iload 4, 2) := zDec_at zB_dX2_bestJoin_68 13 rfl
theorem dX2_bestJoin_91 : decode cX2_bestJoin 91 = .ok (.invokevirtual 61, 3) := zDec_at zB_dX2_bestJoin_68 14 rfl
theorem dX2_bestJoin_94 : decode cX2_bestJoin 94 = .ok (.iinc 4 1, 3) := zDec_at zB_dX2_bestJoin_68 15 rfl
theorem dX2_bestJoin_97 : decode cX2_bestJoin 97 = .ok (.goto (-16), 3) := zDec_at zB_dX2_bestJoin_68 16 rfl
theorem dX2_bestJoin_100 : decode cX2_bestJoin 100 = .ok (.iinc 3 (-1), 3) := zDec_at zB_dX2_bestJoin_68 17 rfl
theorem dX2_bestJoin_103 : decode cX2_bestJoin 103 = .ok (.goto (-29), 3) := zDec_at zB_dX2_bestJoin_68 18 rfl
theorem dX2_bestJoin_106 : decode cX2_bestJoin 106 = .ok (.aload_n 0, 1) := zDec_at zB_dX2_bestJoin_68 19 rfl
theorem dX2_bestJoin_107 : decode cX2_bestJoin 107 = .ok (.invokevirtual 65, 3) := zDec_at zB_dX2_bestJoin_68 20 rfl
theorem dX2_bestJoin_110 : decode cX2_bestJoin 110 = .ok (.aload_n 0, 1) := zDec_at zB_dX2_bestJoin_68 21 rfl
theorem dX2_bestJoin_111 : decode cX2_bestJoin 111 = .ok (.getfield 22, 3) := zDec_at zB_dX2_bestJoin_68 22 rfl
theorem dX2_bestJoin_114 : decode cX2_bestJoin 114 = .ok (.iconst 0, 1) := zDec_at zB_dX2_bestJoin_68 23 rfl
theorem dX2_bestJoin_115 : decode cX2_bestJoin 115 = .ok (.iaload, 1) := zDec_at zB_dX2_bestJoin_68 24 rfl
theorem dX2_bestJoin_116 : decode cX2_bestJoin 116 = .ok (.bipush 8, 2) := zDec_at zB_dX2_bestJoin_68 25 rfl
theorem dX2_bestJoin_118 : decode cX2_bestJoin 118 = .ok (.idiv, 1) := zDec_at zB_dX2_bestJoin_68 26 rfl
theorem dX2_bestJoin_119 : decode cX2_bestJoin 119 = .ok (.ireturn, 1) := zDec_at zB_dX2_bestJoin_68 27 rfl
theorem zB_dX2_bestRound_0 : zDecB cX2_bestRound [(0, .aload_n 0, 1), (1, .iload_n 1, 1), (2, .iload_n 2, 1), (3, .invokevirtual 85, 3), (6, .aload_n 0, 1), (7, .iconst 0, 1), (8, .putfield 88, 3), (11, .aload_n 0, 1), (12, .iconst 0, 1), (13, .putfield 91, 3), (16, .aload_n 0, 1), (17, .iconst 0, 1), (18, .putfield 94, 3), (21, .iconst 1, 1), (22, .istore 4, 2), (24, .iload 4, 2), (26, .iconst 1, 1), (27, .aload_n 0, 1), (28, .getfield 48, 3), (31, .getfield 97, 3), (34, .ishl, 1), (35, .if_icmp .ge 80, 3), (38, .aload_n 0, 1), (39, .iload 4, 2), (41, .invokevirtual 100, 3), (44, .istore 5, 2), (46, .iload 5, 2), (48, .iload_n 3, 1), (49, .if_icmp .gt 12, 3), (52, .aload_n 0, 1), (53, .iload 4, 2), (55, .invokevirtual 104, 3), (58, .goto 4, 3), (61, .iconst (-1), 1), (62, .istore 6, 2), (64, .iload 6, 2), (66, .aload_n 0, 1), (67, .getfield 91, 3), (70, .if_icmp .gt 21, 3), (73, .iload 6, 2)] = true := by decide +kernel
theorem dX2_bestRound_0 : decode cX2_bestRound 0 = .ok (.aload_n 0, 1) := zDec_at zB_dX2_bestRound_0 0 rfl
theorem dX2_bestRound_1 : decode cX2_bestRound 1 = .ok (.iload_n 1, 1) := zDec_at zB_dX2_bestRound_0 1 rfl
theorem dX2_bestRound_2 : decode cX2_bestRound 2 = .ok (.iload_n 2, 1) := zDec_at zB_dX2_bestRound_0 2 rfl
theorem dX2_bestRound_3 : decode cX2_bestRound 3 = .ok (.invokevirtual 85, 3) := zDec_at zB_dX2_bestRound_0 3 rfl
theorem dX2_bestRound_6 : decode cX2_bestRound 6 = .ok (.aload_n 0, 1) := zDec_at zB_dX2_bestRound_0 4 rfl
theorem dX2_bestRound_7 : decode cX2_bestRound 7 = .ok (.iconst 0, 1) := zDec_at zB_dX2_bestRound_0 5 rfl
theorem dX2_bestRound_8 : decode cX2_bestRound 8 = .ok (.putfield 88, 3) := zDec_at zB_dX2_bestRound_0 6 rfl
theorem dX2_bestRound_11 : decode cX2_bestRound 11 = .ok (.aload_n 0, 1) := zDec_at zB_dX2_bestRound_0 7 rfl
theorem dX2_bestRound_12 : decode cX2_bestRound 12 = .ok (.iconst 0, 1) := zDec_at zB_dX2_bestRound_0 8 rfl
theorem dX2_bestRound_13 : decode cX2_bestRound 13 = .ok (.putfield 91, 3) := zDec_at zB_dX2_bestRound_0 9 rfl
theorem dX2_bestRound_16 : decode cX2_bestRound 16 = .ok (.aload_n 0, 1) := zDec_at zB_dX2_bestRound_0 10 rfl
theorem dX2_bestRound_17 : decode cX2_bestRound 17 = .ok (.iconst 0, 1) := zDec_at zB_dX2_bestRound_0 11 rfl
theorem dX2_bestRound_18 : decode cX2_bestRound 18 = .ok (.putfield 94, 3) := zDec_at zB_dX2_bestRound_0 12 rfl
theorem dX2_bestRound_21 : decode cX2_bestRound 21 = .ok (.iconst 1, 1) := zDec_at zB_dX2_bestRound_0 13 rfl
theorem dX2_bestRound_22 : decode cX2_bestRound 22 = .ok (.istore 4, 2) := zDec_at zB_dX2_bestRound_0 14 rfl
theorem dX2_bestRound_24 : decode cX2_bestRound 24 = .ok (.iload 4, 2) := zDec_at zB_dX2_bestRound_0 15 rfl
theorem dX2_bestRound_26 : decode cX2_bestRound 26 = .ok (.iconst 1, 1) := zDec_at zB_dX2_bestRound_0 16 rfl
theorem dX2_bestRound_27 : decode cX2_bestRound 27 = .ok (.aload_n 0, 1) := zDec_at zB_dX2_bestRound_0 17 rfl
theorem dX2_bestRound_28 : decode cX2_bestRound 28 = .ok (.getfield 48, 3) := zDec_at zB_dX2_bestRound_0 18 rfl
theorem dX2_bestRound_31 : decode cX2_bestRound 31 = .ok (.getfield 97, 3) := zDec_at zB_dX2_bestRound_0 19 rfl
theorem dX2_bestRound_34 : decode cX2_bestRound 34 = .ok (.ishl, 1) := zDec_at zB_dX2_bestRound_0 20 rfl
theorem dX2_bestRound_35 : decode cX2_bestRound 35 = .ok (.if_icmp .ge 80, 3) := zDec_at zB_dX2_bestRound_0 21 rfl
theorem dX2_bestRound_38 : decode cX2_bestRound 38 = .ok (.aload_n 0, 1) := zDec_at zB_dX2_bestRound_0 22 rfl
theorem dX2_bestRound_39 : decode cX2_bestRound 39 = .ok (.iload 4, 2) := zDec_at zB_dX2_bestRound_0 23 rfl
theorem dX2_bestRound_41 : decode cX2_bestRound 41 = .ok (.invokevirtual 100, 3) := zDec_at zB_dX2_bestRound_0 24 rfl
theorem dX2_bestRound_44 : decode cX2_bestRound 44 = .ok (.istore 5, 2) := zDec_at zB_dX2_bestRound_0 25 rfl
theorem dX2_bestRound_46 : decode cX2_bestRound 46 = .ok (.iload 5, 2) := zDec_at zB_dX2_bestRound_0 26 rfl
theorem dX2_bestRound_48 : decode cX2_bestRound 48 = .ok (.iload_n 3, 1) := zDec_at zB_dX2_bestRound_0 27 rfl
theorem dX2_bestRound_49 : decode cX2_bestRound 49 = .ok (.if_icmp .gt 12, 3) := zDec_at zB_dX2_bestRound_0 28 rfl
theorem dX2_bestRound_52 : decode cX2_bestRound 52 = .ok (.aload_n 0, 1) := zDec_at zB_dX2_bestRound_0 29 rfl
theorem dX2_bestRound_53 : decode cX2_bestRound 53 = .ok (.iload 4, 2) := zDec_at zB_dX2_bestRound_0 30 rfl
theorem dX2_bestRound_55 : decode cX2_bestRound 55 = .ok (.invokevirtual 104, 3) := zDec_at zB_dX2_bestRound_0 31 rfl
theorem dX2_bestRound_58 : decode cX2_bestRound 58 = .ok (.goto 4, 3) := zDec_at zB_dX2_bestRound_0 32 rfl
theorem dX2_bestRound_61 : decode cX2_bestRound 61 = .ok (.iconst (-1), 1) := zDec_at zB_dX2_bestRound_0 33 rfl
theorem dX2_bestRound_62 : decode cX2_bestRound 62 = .ok (.istore 6, 2) := zDec_at zB_dX2_bestRound_0 34 rfl
theorem dX2_bestRound_64 : decode cX2_bestRound 64 = .ok (.iload 6, 2) := zDec_at zB_dX2_bestRound_0 35 rfl
theorem dX2_bestRound_66 : decode cX2_bestRound 66 = .ok (.aload_n 0, 1) := zDec_at zB_dX2_bestRound_0 36 rfl
theorem dX2_bestRound_67 : decode cX2_bestRound 67 = .ok (.getfield 91, 3) := zDec_at zB_dX2_bestRound_0 37 rfl
theorem dX2_bestRound_70 : decode cX2_bestRound 70 = .ok (.if_icmp .gt 21, 3) := zDec_at zB_dX2_bestRound_0 38 rfl
theorem dX2_bestRound_73 : decode cX2_bestRound 73 = .ok (.iload 6, 2) := zDec_at zB_dX2_bestRound_0 39 rfl
theorem zB_dX2_bestRound_75 : zDecB cX2_bestRound [(75, .aload_n 0, 1), (76, .getfield 91, 3), (79, .if_icmp .ne 30, 3), (82, .iload 5, 2), (84, .aload_n 0, 1), (85, .getfield 94, 3), (88, .if_icmp .ge 21, 3), (91, .aload_n 0, 1), (92, .iload 4, 2), (94, .putfield 88, 3), (97, .aload_n 0, 1), (98, .iload 6, 2), (100, .putfield 91, 3), (103, .aload_n 0, 1), (104, .iload 5, 2), (106, .putfield 94, 3), (109, .iinc 4 1, 3), (112, .goto (-88), 3), (115, .return_, 1)] = true := by decide +kernel
theorem dX2_bestRound_75 : decode cX2_bestRound 75 = .ok (.aload_n 0, 1) := zDec_at zB_dX2_bestRound_75 0 rfl
theorem dX2_bestRound_76 : decode cX2_bestRound 76 = .ok (.getfield 91, 3) := zDec_at zB_dX2_bestRound_75 1 rfl
theorem dX2_bestRound_79 : decode cX2_bestRound 79 = .ok (.if_icmp .ne 30, 3) := zDec_at zB_dX2_bestRound_75 2 rfl
theorem dX2_bestRound_82 : decode cX2_bestRound 82 = .ok (.iload 5, 2) := zDec_at zB_dX2_bestRound_75 3 rfl
theorem dX2_bestRound_84 : decode cX2_bestRound 84 = .ok (.aload_n 0, 1) := zDec_at zB_dX2_bestRound_75 4 rfl
theorem dX2_bestRound_85 : decode cX2_bestRound 85 = .ok (.getfield 94, 3) := zDec_at zB_dX2_bestRound_75 5 rfl
theorem dX2_bestRound_88 : decode cX2_bestRound 88 = .ok (.if_icmp .ge 21, 3) := zDec_at zB_dX2_bestRound_75 6 rfl
theorem dX2_bestRound_91 : decode cX2_bestRound 91 = .ok (.aload_n 0, 1) := zDec_at zB_dX2_bestRound_75 7 rfl
theorem dX2_bestRound_92 : decode cX2_bestRound 92 = .ok (.iload 4, 2) := zDec_at zB_dX2_bestRound_75 8 rfl
theorem dX2_bestRound_94 : decode cX2_bestRound 94 = .ok (.putfield 88, 3) := zDec_at zB_dX2_bestRound_75 9 rfl
theorem dX2_bestRound_97 : decode cX2_bestRound 97 = .ok (.aload_n 0, 1) := zDec_at zB_dX2_bestRound_75 10 rfl
theorem dX2_bestRound_98 : decode cX2_bestRound 98 = .ok (.iload 6, 2) := zDec_at zB_dX2_bestRound_75 11 rfl
theorem dX2_bestRound_100 : decode cX2_bestRound 100 = .ok (.putfield 91, 3) := zDec_at zB_dX2_bestRound_75 12 rfl
theorem dX2_bestRound_103 : decode cX2_bestRound 103 = .ok (.aload_n 0, 1) := zDec_at zB_dX2_bestRound_75 13 rfl
theorem dX2_bestRound_104 : decode cX2_bestRound 104 = .ok (.iload 5, 2) := zDec_at zB_dX2_bestRound_75 14 rfl
theorem dX2_bestRound_106 : decode cX2_bestRound 106 = .ok (.putfield 94, 3) := zDec_at zB_dX2_bestRound_75 15 rfl
theorem dX2_bestRound_109 : decode cX2_bestRound 109 = .ok (.iinc 4 1, 3) := zDec_at zB_dX2_bestRound_75 16 rfl
theorem dX2_bestRound_112 : decode cX2_bestRound 112 = .ok (.goto (-88), 3) := zDec_at zB_dX2_bestRound_75 17 rfl
theorem dX2_bestRound_115 : decode cX2_bestRound 115 = .ok (.return_, 1) := zDec_at zB_dX2_bestRound_75 18 rfl
theorem zB_dX2_fewestMinutes_0 : zDecB cX2_fewestMinutes [(0, .ldc 121, 2), (2, .istore_n 2, 1), (3, .iconst 0, 1), (4, .istore_n 3, 1), (5, .iload_n 3, 1), (6, .aload_n 0, 1), (7, .getfield 48, 3), (10, .getfield 97, 3), (13, .if_icmp .ge 167, 3), (16, .iload_n 1, 1), (17, .iconst 1, 1), (18, .iload_n 3, 1), (19, .ishl, 1), (20, .ixor, 1), (21, .istore 4, 2), (23, .iload 4, 2), (25, .iload_n 1, 1), (26, .if_icmp .le 6, 3), (29, .goto 145, 3), (32, .iload 4, 2), (34, .ifCond .ne 12, 3), (37, .aload_n 0, 1), (38, .getfield 31, 3), (41, .iload_n 3, 1), (42, .iaload, 1), (43, .goto 5, 3), (46, .ldc 121, 2), (48, .istore 5, 2), (50, .iload 4, 2), (52, .istore 6, 2), (54, .iconst 0, 1), (55, .istore 7, 2), (57, .iload 7, 2), (59, .bipush 9, 2), (61, .if_icmp .ge 72, 3), (64, .iload 6, 2), (66, .ifCond .eq 67, 3), (69, .iload 6, 2), (71, .iconst 1, 1), (72, .iand, 1)] = true := by decide +kernel
theorem dX2_fewestMinutes_0 : decode cX2_fewestMinutes 0 = .ok (.ldc 121, 2) := zDec_at zB_dX2_fewestMinutes_0 0 rfl
theorem dX2_fewestMinutes_2 : decode cX2_fewestMinutes 2 = .ok (.istore_n 2, 1) := zDec_at zB_dX2_fewestMinutes_0 1 rfl
theorem dX2_fewestMinutes_3 : decode cX2_fewestMinutes 3 = .ok (.iconst 0, 1) := zDec_at zB_dX2_fewestMinutes_0 2 rfl
theorem dX2_fewestMinutes_4 : decode cX2_fewestMinutes 4 = .ok (.istore_n 3, 1) := zDec_at zB_dX2_fewestMinutes_0 3 rfl
theorem dX2_fewestMinutes_5 : decode cX2_fewestMinutes 5 = .ok (.iload_n 3, 1) := zDec_at zB_dX2_fewestMinutes_0 4 rfl
theorem dX2_fewestMinutes_6 : decode cX2_fewestMinutes 6 = .ok (.aload_n 0, 1) := zDec_at zB_dX2_fewestMinutes_0 5 rfl
theorem dX2_fewestMinutes_7 : decode cX2_fewestMinutes 7 = .ok (.getfield 48, 3) := zDec_at zB_dX2_fewestMinutes_0 6 rfl
theorem dX2_fewestMinutes_10 : decode cX2_fewestMinutes 10 = .ok (.getfield 97, 3) := zDec_at zB_dX2_fewestMinutes_0 7 rfl
theorem dX2_fewestMinutes_13 : decode cX2_fewestMinutes 13 = .ok (.if_icmp .ge 167, 3) := zDec_at zB_dX2_fewestMinutes_0 8 rfl
theorem dX2_fewestMinutes_16 : decode cX2_fewestMinutes 16 = .ok (.iload_n 1, 1) := zDec_at zB_dX2_fewestMinutes_0 9 rfl
theorem dX2_fewestMinutes_17 : decode cX2_fewestMinutes 17 = .ok (.iconst 1, 1) := zDec_at zB_dX2_fewestMinutes_0 10 rfl
theorem dX2_fewestMinutes_18 : decode cX2_fewestMinutes 18 = .ok (.iload_n 3, 1) := zDec_at zB_dX2_fewestMinutes_0 11 rfl
theorem dX2_fewestMinutes_19 : decode cX2_fewestMinutes 19 = .ok (.ishl, 1) := zDec_at zB_dX2_fewestMinutes_0 12 rfl
theorem dX2_fewestMinutes_20 : decode cX2_fewestMinutes 20 = .ok (.ixor, 1) := zDec_at zB_dX2_fewestMinutes_0 13 rfl
theorem dX2_fewestMinutes_21 : decode cX2_fewestMinutes 21 = .ok (.istore 4, 2) := zDec_at zB_dX2_fewestMinutes_0 14 rfl
theorem dX2_fewestMinutes_23 : decode cX2_fewestMinutes 23 = .ok (.iload 4, 2) := zDec_at zB_dX2_fewestMinutes_0 15 rfl
theorem dX2_fewestMinutes_25 : decode cX2_fewestMinutes 25 = .ok (.iload_n 1, 1) := zDec_at zB_dX2_fewestMinutes_0 16 rfl
theorem dX2_fewestMinutes_26 : decode cX2_fewestMinutes 26 = .ok (.if_icmp .le 6, 3) := zDec_at zB_dX2_fewestMinutes_0 17 rfl
theorem dX2_fewestMinutes_29 : decode cX2_fewestMinutes 29 = .ok (.goto 145, 3) := zDec_at zB_dX2_fewestMinutes_0 18 rfl
theorem dX2_fewestMinutes_32 : decode cX2_fewestMinutes 32 = .ok (.iload 4, 2) := zDec_at zB_dX2_fewestMinutes_0 19 rfl
theorem dX2_fewestMinutes_34 : decode cX2_fewestMinutes 34 = .ok (.ifCond .ne 12, 3) := zDec_at zB_dX2_fewestMinutes_0 20 rfl
theorem dX2_fewestMinutes_37 : decode cX2_fewestMinutes 37 = .ok (.aload_n 0, 1) := zDec_at zB_dX2_fewestMinutes_0 21 rfl
theorem dX2_fewestMinutes_38 : decode cX2_fewestMinutes 38 = .ok (.getfield 31, 3) := zDec_at zB_dX2_fewestMinutes_0 22 rfl
theorem dX2_fewestMinutes_41 : decode cX2_fewestMinutes 41 = .ok (.iload_n 3, 1) := zDec_at zB_dX2_fewestMinutes_0 23 rfl
theorem dX2_fewestMinutes_42 : decode cX2_fewestMinutes 42 = .ok (.iaload, 1) := zDec_at zB_dX2_fewestMinutes_0 24 rfl
theorem dX2_fewestMinutes_43 : decode cX2_fewestMinutes 43 = .ok (.goto 5, 3) := zDec_at zB_dX2_fewestMinutes_0 25 rfl
theorem dX2_fewestMinutes_46 : decode cX2_fewestMinutes 46 = .ok (.ldc 121, 2) := zDec_at zB_dX2_fewestMinutes_0 26 rfl
theorem dX2_fewestMinutes_48 : decode cX2_fewestMinutes 48 = .ok (.istore 5, 2) := zDec_at zB_dX2_fewestMinutes_0 27 rfl
theorem dX2_fewestMinutes_50 : decode cX2_fewestMinutes 50 = .ok (.iload 4, 2) := zDec_at zB_dX2_fewestMinutes_0 28 rfl
theorem dX2_fewestMinutes_52 : decode cX2_fewestMinutes 52 = .ok (.istore 6, 2) := zDec_at zB_dX2_fewestMinutes_0 29 rfl
theorem dX2_fewestMinutes_54 : decode cX2_fewestMinutes 54 = .ok (.iconst 0, 1) := zDec_at zB_dX2_fewestMinutes_0 30 rfl
theorem dX2_fewestMinutes_55 : decode cX2_fewestMinutes 55 = .ok (.istore 7, 2) := zDec_at zB_dX2_fewestMinutes_0 31 rfl
theorem dX2_fewestMinutes_57 : decode cX2_fewestMinutes 57 = .ok (.iload 7, 2) := zDec_at zB_dX2_fewestMinutes_0 32 rfl
theorem dX2_fewestMinutes_59 : decode cX2_fewestMinutes 59 = .ok (.bipush 9, 2) := zDec_at zB_dX2_fewestMinutes_0 33 rfl
theorem dX2_fewestMinutes_61 : decode cX2_fewestMinutes 61 = .ok (.if_icmp .ge 72, 3) := zDec_at zB_dX2_fewestMinutes_0 34 rfl
theorem dX2_fewestMinutes_64 : decode cX2_fewestMinutes 64 = .ok (.iload 6, 2) := zDec_at zB_dX2_fewestMinutes_0 35 rfl
theorem dX2_fewestMinutes_66 : decode cX2_fewestMinutes 66 = .ok (.ifCond .eq 67, 3) := zDec_at zB_dX2_fewestMinutes_0 36 rfl
theorem dX2_fewestMinutes_69 : decode cX2_fewestMinutes 69 = .ok (.iload 6, 2) := zDec_at zB_dX2_fewestMinutes_0 37 rfl
theorem dX2_fewestMinutes_71 : decode cX2_fewestMinutes 71 = .ok (.iconst 1, 1) := zDec_at zB_dX2_fewestMinutes_0 38 rfl
theorem dX2_fewestMinutes_72 : decode cX2_fewestMinutes 72 = .ok (.iand, 1) := zDec_at zB_dX2_fewestMinutes_0 39 rfl
theorem zB_dX2_fewestMinutes_73 : zDecB cX2_fewestMinutes [(73, .iconst 1, 1), (74, .if_icmp .ne 47, 3), (77, .aload_n 0, 1), (78, .getfield 34, 3), (81, .iload 4, 2), (83, .bipush 9, 2), (85, .imul, 1), (86, .iload 7, 2), (88, .iadd, 1), (89, .iaload, 1), (90, .aload_n 0, 1), (91, .getfield 28, 3), (94, .iload 7, 2), (96, .bipush 9, 2), (98, .imul, 1), (99, .iload_n 3, 1), (100, .iadd, 1), (101, .iaload, 1), (102, .iadd, 1), (103, .istore 8, 2), (105, .iload 8, 2), (107, .iload 5, 2), (109, .if_icmp .ge 8, 3), (112, .iload 8, 2), (114, .goto 5, 3), (117, .iload 5, 2), (119, .istore 5, 2), (121, .iload 6, 2), (123, .iconst 1, 1), (124, .ishr, 1), (125, .istore 6, 2), (127, .iinc 7 1, 3), (130, .goto (-73), 3), (133, .iload 5, 2), (135, .aload_n 0, 1), (136, .getfield 48, 3), (139, .getfield 122, 3), (142, .iload_n 3, 1), (143, .iaload, 1), (144, .iadd, 1)] = true := by decide +kernel
theorem dX2_fewestMinutes_73 : decode cX2_fewestMinutes 73 = .ok (.iconst 1, 1) := zDec_at zB_dX2_fewestMinutes_73 0 rfl
theorem dX2_fewestMinutes_74 : decode cX2_fewestMinutes 74 = .ok (.if_icmp .ne 47, 3) := zDec_at zB_dX2_fewestMinutes_73 1 rfl
theorem dX2_fewestMinutes_77 : decode cX2_fewestMinutes 77 = .ok (.aload_n 0, 1) := zDec_at zB_dX2_fewestMinutes_73 2 rfl
theorem dX2_fewestMinutes_78 : decode cX2_fewestMinutes 78 = .ok (.getfield 34, 3) := zDec_at zB_dX2_fewestMinutes_73 3 rfl
theorem dX2_fewestMinutes_81 : decode cX2_fewestMinutes 81 = .ok (.iload 4, 2) := zDec_at zB_dX2_fewestMinutes_73 4 rfl
theorem dX2_fewestMinutes_83 : decode cX2_fewestMinutes 83 = .ok (.bipush 9, 2) := zDec_at zB_dX2_fewestMinutes_73 5 rfl
theorem dX2_fewestMinutes_85 : decode cX2_fewestMinutes 85 = .ok (.imul, 1) := zDec_at zB_dX2_fewestMinutes_73 6 rfl
theorem dX2_fewestMinutes_86 : decode cX2_fewestMinutes 86 = .ok (.iload 7, 2) := zDec_at zB_dX2_fewestMinutes_73 7 rfl
theorem dX2_fewestMinutes_88 : decode cX2_fewestMinutes 88 = .ok (.iadd, 1) := zDec_at zB_dX2_fewestMinutes_73 8 rfl
theorem dX2_fewestMinutes_89 : decode cX2_fewestMinutes 89 = .ok (.iaload, 1) := zDec_at zB_dX2_fewestMinutes_73 9 rfl
theorem dX2_fewestMinutes_90 : decode cX2_fewestMinutes 90 = .ok (.aload_n 0, 1) := zDec_at zB_dX2_fewestMinutes_73 10 rfl
theorem dX2_fewestMinutes_91 : decode cX2_fewestMinutes 91 = .ok (.getfield 28, 3) := zDec_at zB_dX2_fewestMinutes_73 11 rfl
theorem dX2_fewestMinutes_94 : decode cX2_fewestMinutes 94 = .ok (.iload 7, 2) := zDec_at zB_dX2_fewestMinutes_73 12 rfl
theorem dX2_fewestMinutes_96 : decode cX2_fewestMinutes 96 = .ok (.bipush 9, 2) := zDec_at zB_dX2_fewestMinutes_73 13 rfl
theorem dX2_fewestMinutes_98 : decode cX2_fewestMinutes 98 = .ok (.imul, 1) := zDec_at zB_dX2_fewestMinutes_73 14 rfl
theorem dX2_fewestMinutes_99 : decode cX2_fewestMinutes 99 = .ok (.iload_n 3, 1) := zDec_at zB_dX2_fewestMinutes_73 15 rfl
theorem dX2_fewestMinutes_100 : decode cX2_fewestMinutes 100 = .ok (.iadd, 1) := zDec_at zB_dX2_fewestMinutes_73 16 rfl
theorem dX2_fewestMinutes_101 : decode cX2_fewestMinutes 101 = .ok (.iaload, 1) := zDec_at zB_dX2_fewestMinutes_73 17 rfl
theorem dX2_fewestMinutes_102 : decode cX2_fewestMinutes 102 = .ok (.iadd, 1) := zDec_at zB_dX2_fewestMinutes_73 18 rfl
theorem dX2_fewestMinutes_103 : decode cX2_fewestMinutes 103 = .ok (.istore 8, 2) := zDec_at zB_dX2_fewestMinutes_73 19 rfl
theorem dX2_fewestMinutes_105 : decode cX2_fewestMinutes 105 = .ok (.iload 8, 2) := zDec_at zB_dX2_fewestMinutes_73 20 rfl
theorem dX2_fewestMinutes_107 : decode cX2_fewestMinutes 107 = .ok (.iload 5, 2) := zDec_at zB_dX2_fewestMinutes_73 21 rfl
theorem dX2_fewestMinutes_109 : decode cX2_fewestMinutes 109 = .ok (.if_icmp .ge 8, 3) := zDec_at zB_dX2_fewestMinutes_73 22 rfl
theorem dX2_fewestMinutes_112 : decode cX2_fewestMinutes 112 = .ok (.iload 8, 2) := zDec_at zB_dX2_fewestMinutes_73 23 rfl
theorem dX2_fewestMinutes_114 : decode cX2_fewestMinutes 114 = .ok (.goto 5, 3) := zDec_at zB_dX2_fewestMinutes_73 24 rfl
theorem dX2_fewestMinutes_117 : decode cX2_fewestMinutes 117 = .ok (.iload 5, 2) := zDec_at zB_dX2_fewestMinutes_73 25 rfl
theorem dX2_fewestMinutes_119 : decode cX2_fewestMinutes 119 = .ok (.istore 5, 2) := zDec_at zB_dX2_fewestMinutes_73 26 rfl
theorem dX2_fewestMinutes_121 : decode cX2_fewestMinutes 121 = .ok (.iload 6, 2) := zDec_at zB_dX2_fewestMinutes_73 27 rfl
theorem dX2_fewestMinutes_123 : decode cX2_fewestMinutes 123 = .ok (.iconst 1, 1) := zDec_at zB_dX2_fewestMinutes_73 28 rfl
theorem dX2_fewestMinutes_124 : decode cX2_fewestMinutes 124 = .ok (.ishr, 1) := zDec_at zB_dX2_fewestMinutes_73 29 rfl
theorem dX2_fewestMinutes_125 : decode cX2_fewestMinutes 125 = .ok (.istore 6, 2) := zDec_at zB_dX2_fewestMinutes_73 30 rfl
theorem dX2_fewestMinutes_127 : decode cX2_fewestMinutes 127 = .ok (.iinc 7 1, 3) := zDec_at zB_dX2_fewestMinutes_73 31 rfl
theorem dX2_fewestMinutes_130 : decode cX2_fewestMinutes 130 = .ok (.goto (-73), 3) := zDec_at zB_dX2_fewestMinutes_73 32 rfl
theorem dX2_fewestMinutes_133 : decode cX2_fewestMinutes 133 = .ok (.iload 5, 2) := zDec_at zB_dX2_fewestMinutes_73 33 rfl
theorem dX2_fewestMinutes_135 : decode cX2_fewestMinutes 135 = .ok (.aload_n 0, 1) := zDec_at zB_dX2_fewestMinutes_73 34 rfl
theorem dX2_fewestMinutes_136 : decode cX2_fewestMinutes 136 = .ok (.getfield 48, 3) := zDec_at zB_dX2_fewestMinutes_73 35 rfl
theorem dX2_fewestMinutes_139 : decode cX2_fewestMinutes 139 = .ok (.getfield 122, 3) := zDec_at zB_dX2_fewestMinutes_73 36 rfl
theorem dX2_fewestMinutes_142 : decode cX2_fewestMinutes 142 = .ok (.iload_n 3, 1) := zDec_at zB_dX2_fewestMinutes_73 37 rfl
theorem dX2_fewestMinutes_143 : decode cX2_fewestMinutes 143 = .ok (.iaload, 1) := zDec_at zB_dX2_fewestMinutes_73 38 rfl
theorem dX2_fewestMinutes_144 : decode cX2_fewestMinutes 144 = .ok (.iadd, 1) := zDec_at zB_dX2_fewestMinutes_73 39 rfl
theorem zB_dX2_fewestMinutes_145 : zDecB cX2_fewestMinutes [(145, .istore 7, 2), (147, .aload_n 0, 1), (148, .getfield 34, 3), (151, .iload_n 1, 1), (152, .bipush 9, 2), (154, .imul, 1), (155, .iload_n 3, 1), (156, .iadd, 1), (157, .iload 7, 2), (159, .iastore, 1), (160, .iload_n 2, 1), (161, .iload 7, 2), (163, .aload_n 0, 1), (164, .getfield 31, 3), (167, .iload_n 3, 1), (168, .iaload, 1), (169, .iadd, 1), (170, .invokestatic 125, 3), (173, .istore_n 2, 1), (174, .iinc 3 1, 3), (177, .goto (-172), 3), (180, .iload_n 2, 1), (181, .ireturn, 1)] = true := by decide +kernel
theorem dX2_fewestMinutes_145 : decode cX2_fewestMinutes 145 = .ok (.istore 7, 2) := zDec_at zB_dX2_fewestMinutes_145 0 rfl
theorem dX2_fewestMinutes_147 : decode cX2_fewestMinutes 147 = .ok (.aload_n 0, 1) := zDec_at zB_dX2_fewestMinutes_145 1 rfl
theorem dX2_fewestMinutes_148 : decode cX2_fewestMinutes 148 = .ok (.getfield 34, 3) := zDec_at zB_dX2_fewestMinutes_145 2 rfl
theorem dX2_fewestMinutes_151 : decode cX2_fewestMinutes 151 = .ok (.iload_n 1, 1) := zDec_at zB_dX2_fewestMinutes_145 3 rfl
theorem dX2_fewestMinutes_152 : decode cX2_fewestMinutes 152 = .ok (.bipush 9, 2) := zDec_at zB_dX2_fewestMinutes_145 4 rfl
theorem dX2_fewestMinutes_154 : decode cX2_fewestMinutes 154 = .ok (.imul, 1) := zDec_at zB_dX2_fewestMinutes_145 5 rfl
theorem dX2_fewestMinutes_155 : decode cX2_fewestMinutes 155 = .ok (.iload_n 3, 1) := zDec_at zB_dX2_fewestMinutes_145 6 rfl
theorem dX2_fewestMinutes_156 : decode cX2_fewestMinutes 156 = .ok (.iadd, 1) := zDec_at zB_dX2_fewestMinutes_145 7 rfl
theorem dX2_fewestMinutes_157 : decode cX2_fewestMinutes 157 = .ok (.iload 7, 2) := zDec_at zB_dX2_fewestMinutes_145 8 rfl
theorem dX2_fewestMinutes_159 : decode cX2_fewestMinutes 159 = .ok (.iastore, 1) := zDec_at zB_dX2_fewestMinutes_145 9 rfl
theorem dX2_fewestMinutes_160 : decode cX2_fewestMinutes 160 = .ok (.iload_n 2, 1) := zDec_at zB_dX2_fewestMinutes_145 10 rfl
theorem dX2_fewestMinutes_161 : decode cX2_fewestMinutes 161 = .ok (.iload 7, 2) := zDec_at zB_dX2_fewestMinutes_145 11 rfl
theorem dX2_fewestMinutes_163 : decode cX2_fewestMinutes 163 = .ok (.aload_n 0, 1) := zDec_at zB_dX2_fewestMinutes_145 12 rfl
theorem dX2_fewestMinutes_164 : decode cX2_fewestMinutes 164 = .ok (.getfield 31, 3) := zDec_at zB_dX2_fewestMinutes_145 13 rfl
theorem dX2_fewestMinutes_167 : decode cX2_fewestMinutes 167 = .ok (.iload_n 3, 1) := zDec_at zB_dX2_fewestMinutes_145 14 rfl
theorem dX2_fewestMinutes_168 : decode cX2_fewestMinutes 168 = .ok (.iaload, 1) := zDec_at zB_dX2_fewestMinutes_145 15 rfl
theorem dX2_fewestMinutes_169 : decode cX2_fewestMinutes 169 = .ok (.iadd, 1) := zDec_at zB_dX2_fewestMinutes_145 16 rfl
theorem dX2_fewestMinutes_170 : decode cX2_fewestMinutes 170 = .ok (.invokestatic 125, 3) := zDec_at zB_dX2_fewestMinutes_145 17 rfl
theorem dX2_fewestMinutes_173 : decode cX2_fewestMinutes 173 = .ok (.istore_n 2, 1) := zDec_at zB_dX2_fewestMinutes_145 18 rfl
theorem dX2_fewestMinutes_174 : decode cX2_fewestMinutes 174 = .ok (.iinc 3 1, 3) := zDec_at zB_dX2_fewestMinutes_145 19 rfl
theorem dX2_fewestMinutes_177 : decode cX2_fewestMinutes 177 = .ok (.goto (-172), 3) := zDec_at zB_dX2_fewestMinutes_145 20 rfl
theorem dX2_fewestMinutes_180 : decode cX2_fewestMinutes 180 = .ok (.iload_n 2, 1) := zDec_at zB_dX2_fewestMinutes_145 21 rfl
theorem dX2_fewestMinutes_181 : decode cX2_fewestMinutes 181 = .ok (.ireturn, 1) := zDec_at zB_dX2_fewestMinutes_145 22 rfl
theorem zB_dX2_figuresAlike_0 : zDecB cX2_figuresAlike [(0, .iconst 0, 1), (1, .istore_n 2, 1), (2, .iload_n 0, 1), (3, .istore_n 3, 1), (4, .iload_n 1, 1), (5, .istore 4, 2), (7, .iconst 0, 1), (8, .istore 5, 2), (10, .iload 5, 2), (12, .bipush 8, 2), (14, .if_icmp .ge 41, 3), (17, .iload_n 2, 1), (18, .iload_n 3, 1), (19, .bipush 10, 2), (21, .irem, 1), (22, .iload 4, 2), (24, .bipush 10, 2), (26, .irem, 1), (27, .if_icmp .ne 7, 3), (30, .iconst 1, 1), (31, .goto 4, 3), (34, .iconst 0, 1), (35, .iadd, 1), (36, .istore_n 2, 1), (37, .iload_n 3, 1), (38, .bipush 10, 2), (40, .idiv, 1), (41, .istore_n 3, 1), (42, .iload 4, 2), (44, .bipush 10, 2), (46, .idiv, 1), (47, .istore 4, 2), (49, .iinc 5 1, 3), (52, .goto (-42), 3), (55, .iload_n 2, 1), (56, .ireturn, 1)] = true := by decide +kernel
theorem dX2_figuresAlike_0 : decode cX2_figuresAlike 0 = .ok (.iconst 0, 1) := zDec_at zB_dX2_figuresAlike_0 0 rfl
theorem dX2_figuresAlike_1 : decode cX2_figuresAlike 1 = .ok (.istore_n 2, 1) := zDec_at zB_dX2_figuresAlike_0 1 rfl
theorem dX2_figuresAlike_2 : decode cX2_figuresAlike 2 = .ok (.iload_n 0, 1) := zDec_at zB_dX2_figuresAlike_0 2 rfl
theorem dX2_figuresAlike_3 : decode cX2_figuresAlike 3 = .ok (.istore_n 3, 1) := zDec_at zB_dX2_figuresAlike_0 3 rfl
theorem dX2_figuresAlike_4 : decode cX2_figuresAlike 4 = .ok (.iload_n 1, 1) := zDec_at zB_dX2_figuresAlike_0 4 rfl
theorem dX2_figuresAlike_5 : decode cX2_figuresAlike 5 = .ok (.istore 4, 2) := zDec_at zB_dX2_figuresAlike_0 5 rfl
theorem dX2_figuresAlike_7 : decode cX2_figuresAlike 7 = .ok (.iconst 0, 1) := zDec_at zB_dX2_figuresAlike_0 6 rfl
theorem dX2_figuresAlike_8 : decode cX2_figuresAlike 8 = .ok (.istore 5, 2) := zDec_at zB_dX2_figuresAlike_0 7 rfl
theorem dX2_figuresAlike_10 : decode cX2_figuresAlike 10 = .ok (.iload 5, 2) := zDec_at zB_dX2_figuresAlike_0 8 rfl
theorem dX2_figuresAlike_12 : decode cX2_figuresAlike 12 = .ok (.bipush 8, 2) := zDec_at zB_dX2_figuresAlike_0 9 rfl
theorem dX2_figuresAlike_14 : decode cX2_figuresAlike 14 = .ok (.if_icmp .ge 41, 3) := zDec_at zB_dX2_figuresAlike_0 10 rfl
theorem dX2_figuresAlike_17 : decode cX2_figuresAlike 17 = .ok (.iload_n 2, 1) := zDec_at zB_dX2_figuresAlike_0 11 rfl
theorem dX2_figuresAlike_18 : decode cX2_figuresAlike 18 = .ok (.iload_n 3, 1) := zDec_at zB_dX2_figuresAlike_0 12 rfl
theorem dX2_figuresAlike_19 : decode cX2_figuresAlike 19 = .ok (.bipush 10, 2) := zDec_at zB_dX2_figuresAlike_0 13 rfl
theorem dX2_figuresAlike_21 : decode cX2_figuresAlike 21 = .ok (.irem, 1) := zDec_at zB_dX2_figuresAlike_0 14 rfl
theorem dX2_figuresAlike_22 : decode cX2_figuresAlike 22 = .ok (.iload 4, 2) := zDec_at zB_dX2_figuresAlike_0 15 rfl
theorem dX2_figuresAlike_24 : decode cX2_figuresAlike 24 = .ok (.bipush 10, 2) := zDec_at zB_dX2_figuresAlike_0 16 rfl
theorem dX2_figuresAlike_26 : decode cX2_figuresAlike 26 = .ok (.irem, 1) := zDec_at zB_dX2_figuresAlike_0 17 rfl
theorem dX2_figuresAlike_27 : decode cX2_figuresAlike 27 = .ok (.if_icmp .ne 7, 3) := zDec_at zB_dX2_figuresAlike_0 18 rfl
theorem dX2_figuresAlike_30 : decode cX2_figuresAlike 30 = .ok (.iconst 1, 1) := zDec_at zB_dX2_figuresAlike_0 19 rfl
theorem dX2_figuresAlike_31 : decode cX2_figuresAlike 31 = .ok (.goto 4, 3) := zDec_at zB_dX2_figuresAlike_0 20 rfl
theorem dX2_figuresAlike_34 : decode cX2_figuresAlike 34 = .ok (.iconst 0, 1) := zDec_at zB_dX2_figuresAlike_0 21 rfl
theorem dX2_figuresAlike_35 : decode cX2_figuresAlike 35 = .ok (.iadd, 1) := zDec_at zB_dX2_figuresAlike_0 22 rfl
theorem dX2_figuresAlike_36 : decode cX2_figuresAlike 36 = .ok (.istore_n 2, 1) := zDec_at zB_dX2_figuresAlike_0 23 rfl
theorem dX2_figuresAlike_37 : decode cX2_figuresAlike 37 = .ok (.iload_n 3, 1) := zDec_at zB_dX2_figuresAlike_0 24 rfl
theorem dX2_figuresAlike_38 : decode cX2_figuresAlike 38 = .ok (.bipush 10, 2) := zDec_at zB_dX2_figuresAlike_0 25 rfl
theorem dX2_figuresAlike_40 : decode cX2_figuresAlike 40 = .ok (.idiv, 1) := zDec_at zB_dX2_figuresAlike_0 26 rfl
theorem dX2_figuresAlike_41 : decode cX2_figuresAlike 41 = .ok (.istore_n 3, 1) := zDec_at zB_dX2_figuresAlike_0 27 rfl
theorem dX2_figuresAlike_42 : decode cX2_figuresAlike 42 = .ok (.iload 4, 2) := zDec_at zB_dX2_figuresAlike_0 28 rfl
theorem dX2_figuresAlike_44 : decode cX2_figuresAlike 44 = .ok (.bipush 10, 2) := zDec_at zB_dX2_figuresAlike_0 29 rfl
theorem dX2_figuresAlike_46 : decode cX2_figuresAlike 46 = .ok (.idiv, 1) := zDec_at zB_dX2_figuresAlike_0 30 rfl
theorem dX2_figuresAlike_47 : decode cX2_figuresAlike 47 = .ok (.istore 4, 2) := zDec_at zB_dX2_figuresAlike_0 31 rfl
theorem dX2_figuresAlike_49 : decode cX2_figuresAlike 49 = .ok (.iinc 5 1, 3) := zDec_at zB_dX2_figuresAlike_0 32 rfl
theorem dX2_figuresAlike_52 : decode cX2_figuresAlike 52 = .ok (.goto (-42), 3) := zDec_at zB_dX2_figuresAlike_0 33 rfl
theorem dX2_figuresAlike_55 : decode cX2_figuresAlike 55 = .ok (.iload_n 2, 1) := zDec_at zB_dX2_figuresAlike_0 34 rfl
theorem dX2_figuresAlike_56 : decode cX2_figuresAlike 56 = .ok (.ireturn, 1) := zDec_at zB_dX2_figuresAlike_0 35 rfl
theorem zB_dX2_keepFirstBest_0 : zDecB cX2_keepFirstBest [(0, .iconst 0, 1), (1, .istore_n 1, 1), (2, .iconst 0, 1), (3, .istore_n 2, 1), (4, .iload_n 2, 1), (5, .aload_n 0, 1), (6, .getfield 48, 3), (9, .getfield 58, 3), (12, .if_icmp .ge 98, 3), (15, .aload_n 0, 1), (16, .getfield 9, 3), (19, .iload_n 2, 1), (20, .iconst (-1), 1), (21, .iastore, 1), (22, .iconst 0, 1), (23, .istore_n 3, 1), (24, .iload_n 3, 1), (25, .aload_n 0, 1), (26, .getfield 48, 3), (29, .getfield 49, 3), (32, .if_icmp .ge 47, 3), (35, .aload_n 0, 1), (36, .getfield 9, 3), (39, .iload_n 2, 1), (40, .iaload, 1), (41, .iconst (-1), 1), (42, .if_icmp .ne 37, 3), (45, .aload_n 0, 1), (46, .iload_n 2, 1), (47, .iload_n 1, 1), (48, .iload_n 3, 1), (49, .invokevirtual 78, 3), (52, .aload_n 0, 1), (53, .getfield 22, 3), (56, .iload_n 2, 1), (57, .bipush 64, 2), (59, .imul, 1), (60, .iload_n 1, 1), (61, .iadd, 1), (62, .iaload, 1)] = true := by decide +kernel
theorem dX2_keepFirstBest_0 : decode cX2_keepFirstBest 0 = .ok (.iconst 0, 1) := zDec_at zB_dX2_keepFirstBest_0 0 rfl
theorem dX2_keepFirstBest_1 : decode cX2_keepFirstBest 1 = .ok (.istore_n 1, 1) := zDec_at zB_dX2_keepFirstBest_0 1 rfl
theorem dX2_keepFirstBest_2 : decode cX2_keepFirstBest 2 = .ok (.iconst 0, 1) := zDec_at zB_dX2_keepFirstBest_0 2 rfl
theorem dX2_keepFirstBest_3 : decode cX2_keepFirstBest 3 = .ok (.istore_n 2, 1) := zDec_at zB_dX2_keepFirstBest_0 3 rfl
theorem dX2_keepFirstBest_4 : decode cX2_keepFirstBest 4 = .ok (.iload_n 2, 1) := zDec_at zB_dX2_keepFirstBest_0 4 rfl
theorem dX2_keepFirstBest_5 : decode cX2_keepFirstBest 5 = .ok (.aload_n 0, 1) := zDec_at zB_dX2_keepFirstBest_0 5 rfl
theorem dX2_keepFirstBest_6 : decode cX2_keepFirstBest 6 = .ok (.getfield 48, 3) := zDec_at zB_dX2_keepFirstBest_0 6 rfl
theorem dX2_keepFirstBest_9 : decode cX2_keepFirstBest 9 = .ok (.getfield 58, 3) := zDec_at zB_dX2_keepFirstBest_0 7 rfl
theorem dX2_keepFirstBest_12 : decode cX2_keepFirstBest 12 = .ok (.if_icmp .ge 98, 3) := zDec_at zB_dX2_keepFirstBest_0 8 rfl
theorem dX2_keepFirstBest_15 : decode cX2_keepFirstBest 15 = .ok (.aload_n 0, 1) := zDec_at zB_dX2_keepFirstBest_0 9 rfl
theorem dX2_keepFirstBest_16 : decode cX2_keepFirstBest 16 = .ok (.getfield 9, 3) := zDec_at zB_dX2_keepFirstBest_0 10 rfl
theorem dX2_keepFirstBest_19 : decode cX2_keepFirstBest 19 = .ok (.iload_n 2, 1) := zDec_at zB_dX2_keepFirstBest_0 11 rfl
theorem dX2_keepFirstBest_20 : decode cX2_keepFirstBest 20 = .ok (.iconst (-1), 1) := zDec_at zB_dX2_keepFirstBest_0 12 rfl
theorem dX2_keepFirstBest_21 : decode cX2_keepFirstBest 21 = .ok (.iastore, 1) := zDec_at zB_dX2_keepFirstBest_0 13 rfl
theorem dX2_keepFirstBest_22 : decode cX2_keepFirstBest 22 = .ok (.iconst 0, 1) := zDec_at zB_dX2_keepFirstBest_0 14 rfl
theorem dX2_keepFirstBest_23 : decode cX2_keepFirstBest 23 = .ok (.istore_n 3, 1) := zDec_at zB_dX2_keepFirstBest_0 15 rfl
theorem dX2_keepFirstBest_24 : decode cX2_keepFirstBest 24 = .ok (.iload_n 3, 1) := zDec_at zB_dX2_keepFirstBest_0 16 rfl
theorem dX2_keepFirstBest_25 : decode cX2_keepFirstBest 25 = .ok (.aload_n 0, 1) := zDec_at zB_dX2_keepFirstBest_0 17 rfl
theorem dX2_keepFirstBest_26 : decode cX2_keepFirstBest 26 = .ok (.getfield 48, 3) := zDec_at zB_dX2_keepFirstBest_0 18 rfl
theorem dX2_keepFirstBest_29 : decode cX2_keepFirstBest 29 = .ok (.getfield 49, 3) := zDec_at zB_dX2_keepFirstBest_0 19 rfl
theorem dX2_keepFirstBest_32 : decode cX2_keepFirstBest 32 = .ok (.if_icmp .ge 47, 3) := zDec_at zB_dX2_keepFirstBest_0 20 rfl
theorem dX2_keepFirstBest_35 : decode cX2_keepFirstBest 35 = .ok (.aload_n 0, 1) := zDec_at zB_dX2_keepFirstBest_0 21 rfl
theorem dX2_keepFirstBest_36 : decode cX2_keepFirstBest 36 = .ok (.getfield 9, 3) := zDec_at zB_dX2_keepFirstBest_0 22 rfl
theorem dX2_keepFirstBest_39 : decode cX2_keepFirstBest 39 = .ok (.iload_n 2, 1) := zDec_at zB_dX2_keepFirstBest_0 23 rfl
theorem dX2_keepFirstBest_40 : decode cX2_keepFirstBest 40 = .ok (.iaload, 1) := zDec_at zB_dX2_keepFirstBest_0 24 rfl
theorem dX2_keepFirstBest_41 : decode cX2_keepFirstBest 41 = .ok (.iconst (-1), 1) := zDec_at zB_dX2_keepFirstBest_0 25 rfl
theorem dX2_keepFirstBest_42 : decode cX2_keepFirstBest 42 = .ok (.if_icmp .ne 37, 3) := zDec_at zB_dX2_keepFirstBest_0 26 rfl
theorem dX2_keepFirstBest_45 : decode cX2_keepFirstBest 45 = .ok (.aload_n 0, 1) := zDec_at zB_dX2_keepFirstBest_0 27 rfl
theorem dX2_keepFirstBest_46 : decode cX2_keepFirstBest 46 = .ok (.iload_n 2, 1) := zDec_at zB_dX2_keepFirstBest_0 28 rfl
theorem dX2_keepFirstBest_47 : decode cX2_keepFirstBest 47 = .ok (.iload_n 1, 1) := zDec_at zB_dX2_keepFirstBest_0 29 rfl
theorem dX2_keepFirstBest_48 : decode cX2_keepFirstBest 48 = .ok (.iload_n 3, 1) := zDec_at zB_dX2_keepFirstBest_0 30 rfl
theorem dX2_keepFirstBest_49 : decode cX2_keepFirstBest 49 = .ok (.invokevirtual 78, 3) := zDec_at zB_dX2_keepFirstBest_0 31 rfl
theorem dX2_keepFirstBest_52 : decode cX2_keepFirstBest 52 = .ok (.aload_n 0, 1) := zDec_at zB_dX2_keepFirstBest_0 32 rfl
theorem dX2_keepFirstBest_53 : decode cX2_keepFirstBest 53 = .ok (.getfield 22, 3) := zDec_at zB_dX2_keepFirstBest_0 33 rfl
theorem dX2_keepFirstBest_56 : decode cX2_keepFirstBest 56 = .ok (.iload_n 2, 1) := zDec_at zB_dX2_keepFirstBest_0 34 rfl
theorem dX2_keepFirstBest_57 : decode cX2_keepFirstBest 57 = .ok (.bipush 64, 2) := zDec_at zB_dX2_keepFirstBest_0 35 rfl
theorem dX2_keepFirstBest_59 : decode cX2_keepFirstBest 59 = .ok (.imul, 1) := zDec_at zB_dX2_keepFirstBest_0 36 rfl
theorem dX2_keepFirstBest_60 : decode cX2_keepFirstBest 60 = .ok (.iload_n 1, 1) := zDec_at zB_dX2_keepFirstBest_0 37 rfl
theorem dX2_keepFirstBest_61 : decode cX2_keepFirstBest 61 = .ok (.iadd, 1) := zDec_at zB_dX2_keepFirstBest_0 38 rfl
theorem dX2_keepFirstBest_62 : decode cX2_keepFirstBest 62 = .ok (.iaload, 1) := zDec_at zB_dX2_keepFirstBest_0 39 rfl
theorem zB_dX2_keepFirstBest_63 : zDecB cX2_keepFirstBest [(63, .if_icmp .ne 10, 3), (66, .aload_n 0, 1), (67, .getfield 9, 3), (70, .iload_n 2, 1), (71, .iload_n 3, 1), (72, .iastore, 1), (73, .iinc 3 1, 3), (76, .goto (-52), 3), (79, .iload_n 1, 1), (80, .aload_n 0, 1), (81, .getfield 9, 3), (84, .iload_n 2, 1), (85, .iaload, 1), (86, .iconst (-1), 1), (87, .if_icmp .ne 7, 3), (90, .iconst 0, 1), (91, .goto 11, 3), (94, .iconst 1, 1), (95, .aload_n 0, 1), (96, .getfield 9, 3), (99, .iload_n 2, 1), (100, .iaload, 1), (101, .ishl, 1), (102, .ior, 1), (103, .istore_n 1, 1), (104, .iinc 2 1, 3), (107, .goto (-103), 3), (110, .aload_n 0, 1), (111, .aload_n 0, 1), (112, .getfield 48, 3), (115, .getfield 58, 3), (118, .putfield 82, 3), (121, .aload_n 0, 1), (122, .aload_n 0, 1), (123, .getfield 25, 3), (126, .iconst 0, 1), (127, .iaload, 1), (128, .putfield 15, 3), (131, .return_, 1)] = true := by decide +kernel
theorem dX2_keepFirstBest_63 : decode cX2_keepFirstBest 63 = .ok (.if_icmp .ne 10, 3) := zDec_at zB_dX2_keepFirstBest_63 0 rfl
theorem dX2_keepFirstBest_66 : decode cX2_keepFirstBest 66 = .ok (.aload_n 0, 1) := zDec_at zB_dX2_keepFirstBest_63 1 rfl
theorem dX2_keepFirstBest_67 : decode cX2_keepFirstBest 67 = .ok (.getfield 9, 3) := zDec_at zB_dX2_keepFirstBest_63 2 rfl
theorem dX2_keepFirstBest_70 : decode cX2_keepFirstBest 70 = .ok (.iload_n 2, 1) := zDec_at zB_dX2_keepFirstBest_63 3 rfl
theorem dX2_keepFirstBest_71 : decode cX2_keepFirstBest 71 = .ok (.iload_n 3, 1) := zDec_at zB_dX2_keepFirstBest_63 4 rfl
theorem dX2_keepFirstBest_72 : decode cX2_keepFirstBest 72 = .ok (.iastore, 1) := zDec_at zB_dX2_keepFirstBest_63 5 rfl
theorem dX2_keepFirstBest_73 : decode cX2_keepFirstBest 73 = .ok (.iinc 3 1, 3) := zDec_at zB_dX2_keepFirstBest_63 6 rfl
theorem dX2_keepFirstBest_76 : decode cX2_keepFirstBest 76 = .ok (.goto (-52), 3) := zDec_at zB_dX2_keepFirstBest_63 7 rfl
theorem dX2_keepFirstBest_79 : decode cX2_keepFirstBest 79 = .ok (.iload_n 1, 1) := zDec_at zB_dX2_keepFirstBest_63 8 rfl
theorem dX2_keepFirstBest_80 : decode cX2_keepFirstBest 80 = .ok (.aload_n 0, 1) := zDec_at zB_dX2_keepFirstBest_63 9 rfl
theorem dX2_keepFirstBest_81 : decode cX2_keepFirstBest 81 = .ok (.getfield 9, 3) := zDec_at zB_dX2_keepFirstBest_63 10 rfl
theorem dX2_keepFirstBest_84 : decode cX2_keepFirstBest 84 = .ok (.iload_n 2, 1) := zDec_at zB_dX2_keepFirstBest_63 11 rfl
theorem dX2_keepFirstBest_85 : decode cX2_keepFirstBest 85 = .ok (.iaload, 1) := zDec_at zB_dX2_keepFirstBest_63 12 rfl
theorem dX2_keepFirstBest_86 : decode cX2_keepFirstBest 86 = .ok (.iconst (-1), 1) := zDec_at zB_dX2_keepFirstBest_63 13 rfl
theorem dX2_keepFirstBest_87 : decode cX2_keepFirstBest 87 = .ok (.if_icmp .ne 7, 3) := zDec_at zB_dX2_keepFirstBest_63 14 rfl
theorem dX2_keepFirstBest_90 : decode cX2_keepFirstBest 90 = .ok (.iconst 0, 1) := zDec_at zB_dX2_keepFirstBest_63 15 rfl
theorem dX2_keepFirstBest_91 : decode cX2_keepFirstBest 91 = .ok (.goto 11, 3) := zDec_at zB_dX2_keepFirstBest_63 16 rfl
theorem dX2_keepFirstBest_94 : decode cX2_keepFirstBest 94 = .ok (.iconst 1, 1) := zDec_at zB_dX2_keepFirstBest_63 17 rfl
theorem dX2_keepFirstBest_95 : decode cX2_keepFirstBest 95 = .ok (.aload_n 0, 1) := zDec_at zB_dX2_keepFirstBest_63 18 rfl
theorem dX2_keepFirstBest_96 : decode cX2_keepFirstBest 96 = .ok (.getfield 9, 3) := zDec_at zB_dX2_keepFirstBest_63 19 rfl
theorem dX2_keepFirstBest_99 : decode cX2_keepFirstBest 99 = .ok (.iload_n 2, 1) := zDec_at zB_dX2_keepFirstBest_63 20 rfl
theorem dX2_keepFirstBest_100 : decode cX2_keepFirstBest 100 = .ok (.iaload, 1) := zDec_at zB_dX2_keepFirstBest_63 21 rfl
theorem dX2_keepFirstBest_101 : decode cX2_keepFirstBest 101 = .ok (.ishl, 1) := zDec_at zB_dX2_keepFirstBest_63 22 rfl
theorem dX2_keepFirstBest_102 : decode cX2_keepFirstBest 102 = .ok (.ior, 1) := zDec_at zB_dX2_keepFirstBest_63 23 rfl
theorem dX2_keepFirstBest_103 : decode cX2_keepFirstBest 103 = .ok (.istore_n 1, 1) := zDec_at zB_dX2_keepFirstBest_63 24 rfl
theorem dX2_keepFirstBest_104 : decode cX2_keepFirstBest 104 = .ok (.iinc 2 1, 3) := zDec_at zB_dX2_keepFirstBest_63 25 rfl
theorem dX2_keepFirstBest_107 : decode cX2_keepFirstBest 107 = .ok (.goto (-103), 3) := zDec_at zB_dX2_keepFirstBest_63 26 rfl
theorem dX2_keepFirstBest_110 : decode cX2_keepFirstBest 110 = .ok (.aload_n 0, 1) := zDec_at zB_dX2_keepFirstBest_63 27 rfl
theorem dX2_keepFirstBest_111 : decode cX2_keepFirstBest 111 = .ok (.aload_n 0, 1) := zDec_at zB_dX2_keepFirstBest_63 28 rfl
theorem dX2_keepFirstBest_112 : decode cX2_keepFirstBest 112 = .ok (.getfield 48, 3) := zDec_at zB_dX2_keepFirstBest_63 29 rfl
theorem dX2_keepFirstBest_115 : decode cX2_keepFirstBest 115 = .ok (.getfield 58, 3) := zDec_at zB_dX2_keepFirstBest_63 30 rfl
theorem dX2_keepFirstBest_118 : decode cX2_keepFirstBest 118 = .ok (.putfield 82, 3) := zDec_at zB_dX2_keepFirstBest_63 31 rfl
theorem dX2_keepFirstBest_121 : decode cX2_keepFirstBest 121 = .ok (.aload_n 0, 1) := zDec_at zB_dX2_keepFirstBest_63 32 rfl
theorem dX2_keepFirstBest_122 : decode cX2_keepFirstBest 122 = .ok (.aload_n 0, 1) := zDec_at zB_dX2_keepFirstBest_63 33 rfl
theorem dX2_keepFirstBest_123 : decode cX2_keepFirstBest 123 = .ok (.getfield 25, 3) := zDec_at zB_dX2_keepFirstBest_63 34 rfl
theorem dX2_keepFirstBest_126 : decode cX2_keepFirstBest 126 = .ok (.iconst 0, 1) := zDec_at zB_dX2_keepFirstBest_63 35 rfl
theorem dX2_keepFirstBest_127 : decode cX2_keepFirstBest 127 = .ok (.iaload, 1) := zDec_at zB_dX2_keepFirstBest_63 36 rfl
theorem dX2_keepFirstBest_128 : decode cX2_keepFirstBest 128 = .ok (.putfield 15, 3) := zDec_at zB_dX2_keepFirstBest_63 37 rfl
theorem dX2_keepFirstBest_131 : decode cX2_keepFirstBest 131 = .ok (.return_, 1) := zDec_at zB_dX2_keepFirstBest_63 38 rfl
theorem zB_dX2_likeOfRow_0 : zDecB cX2_likeOfRow [(0, .iload_n 1, 1), (1, .istore_n 3, 1), (2, .iconst 0, 1), (3, .istore 4, 2), (5, .iconst 0, 1), (6, .istore 5, 2), (8, .iconst 0, 1), (9, .istore 6, 2), (11, .iload 6, 2), (13, .aload_n 0, 1), (14, .getfield 48, 3), (17, .getfield 58, 3), (20, .if_icmp .ge 105, 3), (23, .iload_n 3, 1), (24, .bipush 7, 2), (26, .irem, 1), (27, .iconst 1, 1), (28, .isub, 1), (29, .istore 7, 2), (31, .iload_n 3, 1), (32, .bipush 7, 2), (34, .idiv, 1), (35, .istore_n 3, 1), (36, .iload 7, 2), (38, .iconst (-1), 1), (39, .if_icmp .ne 6, 3), (42, .goto 77, 3), (45, .iload 7, 2), (47, .aload_n 0, 1), (48, .getfield 48, 3), (51, .getfield 49, 3), (54, .if_icmp .ge 14, 3), (57, .iload 4, 2), (59, .iload 7, 2), (61, .ishr, 1), (62, .iconst 1, 1), (63, .iand, 1), (64, .iconst 1, 1), (65, .if_icmp .ne 5, 3), (68, .iconst (-1), 1)] = true := by decide +kernel
theorem dX2_likeOfRow_0 : decode cX2_likeOfRow 0 = .ok (.iload_n 1, 1) := zDec_at zB_dX2_likeOfRow_0 0 rfl
theorem dX2_likeOfRow_1 : decode cX2_likeOfRow 1 = .ok (.istore_n 3, 1) := zDec_at zB_dX2_likeOfRow_0 1 rfl
theorem dX2_likeOfRow_2 : decode cX2_likeOfRow 2 = .ok (.iconst 0, 1) := zDec_at zB_dX2_likeOfRow_0 2 rfl
theorem dX2_likeOfRow_3 : decode cX2_likeOfRow 3 = .ok (.istore 4, 2) := zDec_at zB_dX2_likeOfRow_0 3 rfl
theorem dX2_likeOfRow_5 : decode cX2_likeOfRow 5 = .ok (.iconst 0, 1) := zDec_at zB_dX2_likeOfRow_0 4 rfl
theorem dX2_likeOfRow_6 : decode cX2_likeOfRow 6 = .ok (.istore 5, 2) := zDec_at zB_dX2_likeOfRow_0 5 rfl
theorem dX2_likeOfRow_8 : decode cX2_likeOfRow 8 = .ok (.iconst 0, 1) := zDec_at zB_dX2_likeOfRow_0 6 rfl
theorem dX2_likeOfRow_9 : decode cX2_likeOfRow 9 = .ok (.istore 6, 2) := zDec_at zB_dX2_likeOfRow_0 7 rfl
theorem dX2_likeOfRow_11 : decode cX2_likeOfRow 11 = .ok (.iload 6, 2) := zDec_at zB_dX2_likeOfRow_0 8 rfl
theorem dX2_likeOfRow_13 : decode cX2_likeOfRow 13 = .ok (.aload_n 0, 1) := zDec_at zB_dX2_likeOfRow_0 9 rfl
theorem dX2_likeOfRow_14 : decode cX2_likeOfRow 14 = .ok (.getfield 48, 3) := zDec_at zB_dX2_likeOfRow_0 10 rfl
theorem dX2_likeOfRow_17 : decode cX2_likeOfRow 17 = .ok (.getfield 58, 3) := zDec_at zB_dX2_likeOfRow_0 11 rfl
theorem dX2_likeOfRow_20 : decode cX2_likeOfRow 20 = .ok (.if_icmp .ge 105, 3) := zDec_at zB_dX2_likeOfRow_0 12 rfl
theorem dX2_likeOfRow_23 : decode cX2_likeOfRow 23 = .ok (.iload_n 3, 1) := zDec_at zB_dX2_likeOfRow_0 13 rfl
theorem dX2_likeOfRow_24 : decode cX2_likeOfRow 24 = .ok (.bipush 7, 2) := zDec_at zB_dX2_likeOfRow_0 14 rfl
theorem dX2_likeOfRow_26 : decode cX2_likeOfRow 26 = .ok (.irem, 1) := zDec_at zB_dX2_likeOfRow_0 15 rfl
theorem dX2_likeOfRow_27 : decode cX2_likeOfRow 27 = .ok (.iconst 1, 1) := zDec_at zB_dX2_likeOfRow_0 16 rfl
theorem dX2_likeOfRow_28 : decode cX2_likeOfRow 28 = .ok (.isub, 1) := zDec_at zB_dX2_likeOfRow_0 17 rfl
theorem dX2_likeOfRow_29 : decode cX2_likeOfRow 29 = .ok (.istore 7, 2) := zDec_at zB_dX2_likeOfRow_0 18 rfl
theorem dX2_likeOfRow_31 : decode cX2_likeOfRow 31 = .ok (.iload_n 3, 1) := zDec_at zB_dX2_likeOfRow_0 19 rfl
theorem dX2_likeOfRow_32 : decode cX2_likeOfRow 32 = .ok (.bipush 7, 2) := zDec_at zB_dX2_likeOfRow_0 20 rfl
theorem dX2_likeOfRow_34 : decode cX2_likeOfRow 34 = .ok (.idiv, 1) := zDec_at zB_dX2_likeOfRow_0 21 rfl
theorem dX2_likeOfRow_35 : decode cX2_likeOfRow 35 = .ok (.istore_n 3, 1) := zDec_at zB_dX2_likeOfRow_0 22 rfl
theorem dX2_likeOfRow_36 : decode cX2_likeOfRow 36 = .ok (.iload 7, 2) := zDec_at zB_dX2_likeOfRow_0 23 rfl
theorem dX2_likeOfRow_38 : decode cX2_likeOfRow 38 = .ok (.iconst (-1), 1) := zDec_at zB_dX2_likeOfRow_0 24 rfl
theorem dX2_likeOfRow_39 : decode cX2_likeOfRow 39 = .ok (.if_icmp .ne 6, 3) := zDec_at zB_dX2_likeOfRow_0 25 rfl
theorem dX2_likeOfRow_42 : decode cX2_likeOfRow 42 = .ok (.goto 77, 3) := zDec_at zB_dX2_likeOfRow_0 26 rfl
theorem dX2_likeOfRow_45 : decode cX2_likeOfRow 45 = .ok (.iload 7, 2) := zDec_at zB_dX2_likeOfRow_0 27 rfl
theorem dX2_likeOfRow_47 : decode cX2_likeOfRow 47 = .ok (.aload_n 0, 1) := zDec_at zB_dX2_likeOfRow_0 28 rfl
theorem dX2_likeOfRow_48 : decode cX2_likeOfRow 48 = .ok (.getfield 48, 3) := zDec_at zB_dX2_likeOfRow_0 29 rfl
theorem dX2_likeOfRow_51 : decode cX2_likeOfRow 51 = .ok (.getfield 49, 3) := zDec_at zB_dX2_likeOfRow_0 30 rfl
theorem dX2_likeOfRow_54 : decode cX2_likeOfRow 54 = .ok (.if_icmp .ge 14, 3) := zDec_at zB_dX2_likeOfRow_0 31 rfl
theorem dX2_likeOfRow_57 : decode cX2_likeOfRow 57 = .ok (.iload 4, 2) := zDec_at zB_dX2_likeOfRow_0 32 rfl
theorem dX2_likeOfRow_59 : decode cX2_likeOfRow 59 = .ok (.iload 7, 2) := zDec_at zB_dX2_likeOfRow_0 33 rfl
theorem dX2_likeOfRow_61 : decode cX2_likeOfRow 61 = .ok (.ishr, 1) := zDec_at zB_dX2_likeOfRow_0 34 rfl
theorem dX2_likeOfRow_62 : decode cX2_likeOfRow 62 = .ok (.iconst 1, 1) := zDec_at zB_dX2_likeOfRow_0 35 rfl
theorem dX2_likeOfRow_63 : decode cX2_likeOfRow 63 = .ok (.iand, 1) := zDec_at zB_dX2_likeOfRow_0 36 rfl
theorem dX2_likeOfRow_64 : decode cX2_likeOfRow 64 = .ok (.iconst 1, 1) := zDec_at zB_dX2_likeOfRow_0 37 rfl
theorem dX2_likeOfRow_65 : decode cX2_likeOfRow 65 = .ok (.if_icmp .ne 5, 3) := zDec_at zB_dX2_likeOfRow_0 38 rfl
theorem dX2_likeOfRow_68 : decode cX2_likeOfRow 68 = .ok (.iconst (-1), 1) := zDec_at zB_dX2_likeOfRow_0 39 rfl
theorem zB_dX2_likeOfRow_69 : zDecB cX2_likeOfRow [(69, .ireturn, 1), (70, .aload_n 0, 1), (71, .getfield 48, 3), (74, .getfield 68, 3), (77, .iload 6, 2), (79, .iaload, 1), (80, .aload_n 0, 1), (81, .getfield 48, 3), (84, .getfield 71, 3), (87, .iload 7, 2), (89, .iaload, 1), (90, .invokestatic 74, 3), (93, .istore 8, 2), (95, .iload 8, 2), (97, .iload_n 2, 1), (98, .if_icmp .ge 5, 3), (101, .iconst (-1), 1), (102, .ireturn, 1), (103, .iload 4, 2), (105, .iconst 1, 1), (106, .iload 7, 2), (108, .ishl, 1), (109, .ior, 1), (110, .istore 4, 2), (112, .iload 5, 2), (114, .iload 8, 2), (116, .iadd, 1), (117, .istore 5, 2), (119, .iinc 6 1, 3), (122, .goto (-111), 3), (125, .iload_n 3, 1), (126, .ifCond .ne 8, 3), (129, .iload 5, 2), (131, .goto 4, 3), (134, .iconst (-1), 1), (135, .ireturn, 1)] = true := by decide +kernel
theorem dX2_likeOfRow_69 : decode cX2_likeOfRow 69 = .ok (.ireturn, 1) := zDec_at zB_dX2_likeOfRow_69 0 rfl
theorem dX2_likeOfRow_70 : decode cX2_likeOfRow 70 = .ok (.aload_n 0, 1) := zDec_at zB_dX2_likeOfRow_69 1 rfl
theorem dX2_likeOfRow_71 : decode cX2_likeOfRow 71 = .ok (.getfield 48, 3) := zDec_at zB_dX2_likeOfRow_69 2 rfl
theorem dX2_likeOfRow_74 : decode cX2_likeOfRow 74 = .ok (.getfield 68, 3) := zDec_at zB_dX2_likeOfRow_69 3 rfl
theorem dX2_likeOfRow_77 : decode cX2_likeOfRow 77 = .ok (.iload 6, 2) := zDec_at zB_dX2_likeOfRow_69 4 rfl
theorem dX2_likeOfRow_79 : decode cX2_likeOfRow 79 = .ok (.iaload, 1) := zDec_at zB_dX2_likeOfRow_69 5 rfl
theorem dX2_likeOfRow_80 : decode cX2_likeOfRow 80 = .ok (.aload_n 0, 1) := zDec_at zB_dX2_likeOfRow_69 6 rfl
theorem dX2_likeOfRow_81 : decode cX2_likeOfRow 81 = .ok (.getfield 48, 3) := zDec_at zB_dX2_likeOfRow_69 7 rfl
theorem dX2_likeOfRow_84 : decode cX2_likeOfRow 84 = .ok (.getfield 71, 3) := zDec_at zB_dX2_likeOfRow_69 8 rfl
theorem dX2_likeOfRow_87 : decode cX2_likeOfRow 87 = .ok (.iload 7, 2) := zDec_at zB_dX2_likeOfRow_69 9 rfl
theorem dX2_likeOfRow_89 : decode cX2_likeOfRow 89 = .ok (.iaload, 1) := zDec_at zB_dX2_likeOfRow_69 10 rfl
theorem dX2_likeOfRow_90 : decode cX2_likeOfRow 90 = .ok (.invokestatic 74, 3) := zDec_at zB_dX2_likeOfRow_69 11 rfl
theorem dX2_likeOfRow_93 : decode cX2_likeOfRow 93 = .ok (.istore 8, 2) := zDec_at zB_dX2_likeOfRow_69 12 rfl
theorem dX2_likeOfRow_95 : decode cX2_likeOfRow 95 = .ok (.iload 8, 2) := zDec_at zB_dX2_likeOfRow_69 13 rfl
theorem dX2_likeOfRow_97 : decode cX2_likeOfRow 97 = .ok (.iload_n 2, 1) := zDec_at zB_dX2_likeOfRow_69 14 rfl
theorem dX2_likeOfRow_98 : decode cX2_likeOfRow 98 = .ok (.if_icmp .ge 5, 3) := zDec_at zB_dX2_likeOfRow_69 15 rfl
theorem dX2_likeOfRow_101 : decode cX2_likeOfRow 101 = .ok (.iconst (-1), 1) := zDec_at zB_dX2_likeOfRow_69 16 rfl
theorem dX2_likeOfRow_102 : decode cX2_likeOfRow 102 = .ok (.ireturn, 1) := zDec_at zB_dX2_likeOfRow_69 17 rfl
theorem dX2_likeOfRow_103 : decode cX2_likeOfRow 103 = .ok (.iload 4, 2) := zDec_at zB_dX2_likeOfRow_69 18 rfl
theorem dX2_likeOfRow_105 : decode cX2_likeOfRow 105 = .ok (.iconst 1, 1) := zDec_at zB_dX2_likeOfRow_69 19 rfl
theorem dX2_likeOfRow_106 : decode cX2_likeOfRow 106 = .ok (.iload 7, 2) := zDec_at zB_dX2_likeOfRow_69 20 rfl
theorem dX2_likeOfRow_108 : decode cX2_likeOfRow 108 = .ok (.ishl, 1) := zDec_at zB_dX2_likeOfRow_69 21 rfl
theorem dX2_likeOfRow_109 : decode cX2_likeOfRow 109 = .ok (.ior, 1) := zDec_at zB_dX2_likeOfRow_69 22 rfl
theorem dX2_likeOfRow_110 : decode cX2_likeOfRow 110 = .ok (.istore 4, 2) := zDec_at zB_dX2_likeOfRow_69 23 rfl
theorem dX2_likeOfRow_112 : decode cX2_likeOfRow 112 = .ok (.iload 5, 2) := zDec_at zB_dX2_likeOfRow_69 24 rfl
theorem dX2_likeOfRow_114 : decode cX2_likeOfRow 114 = .ok (.iload 8, 2) := zDec_at zB_dX2_likeOfRow_69 25 rfl
theorem dX2_likeOfRow_116 : decode cX2_likeOfRow 116 = .ok (.iadd, 1) := zDec_at zB_dX2_likeOfRow_69 26 rfl
theorem dX2_likeOfRow_117 : decode cX2_likeOfRow 117 = .ok (.istore 5, 2) := zDec_at zB_dX2_likeOfRow_69 27 rfl
theorem dX2_likeOfRow_119 : decode cX2_likeOfRow 119 = .ok (.iinc 6 1, 3) := zDec_at zB_dX2_likeOfRow_69 28 rfl
theorem dX2_likeOfRow_122 : decode cX2_likeOfRow 122 = .ok (.goto (-111), 3) := zDec_at zB_dX2_likeOfRow_69 29 rfl
theorem dX2_likeOfRow_125 : decode cX2_likeOfRow 125 = .ok (.iload_n 3, 1) := zDec_at zB_dX2_likeOfRow_69 30 rfl
theorem dX2_likeOfRow_126 : decode cX2_likeOfRow 126 = .ok (.ifCond .ne 8, 3) := zDec_at zB_dX2_likeOfRow_69 31 rfl
theorem dX2_likeOfRow_129 : decode cX2_likeOfRow 129 = .ok (.iload 5, 2) := zDec_at zB_dX2_likeOfRow_69 32 rfl
theorem dX2_likeOfRow_131 : decode cX2_likeOfRow 131 = .ok (.goto 4, 3) := zDec_at zB_dX2_likeOfRow_69 33 rfl
theorem dX2_likeOfRow_134 : decode cX2_likeOfRow 134 = .ok (.iconst (-1), 1) := zDec_at zB_dX2_likeOfRow_69 34 rfl
theorem dX2_likeOfRow_135 : decode cX2_likeOfRow 135 = .ok (.ireturn, 1) := zDec_at zB_dX2_likeOfRow_69 35 rfl
theorem zB_dX2_noteLikeness_0 : zDecB cX2_noteLikeness [(0, .iconst 0, 1), (1, .istore_n 2, 1), (2, .iload_n 2, 1), (3, .aload_n 0, 1), (4, .getfield 48, 3), (7, .getfield 58, 3), (10, .if_icmp .ge 74, 3), (13, .iconst 0, 1), (14, .istore_n 3, 1), (15, .iload_n 3, 1), (16, .aload_n 0, 1), (17, .getfield 48, 3), (20, .getfield 49, 3), (23, .if_icmp .ge 55, 3), (26, .aload_n 0, 1), (27, .getfield 48, 3), (30, .getfield 68, 3), (33, .iload_n 2, 1), (34, .iaload, 1), (35, .aload_n 0, 1), (36, .getfield 48, 3), (39, .getfield 71, 3), (42, .iload_n 3, 1), (43, .iaload, 1), (44, .invokestatic 74, 3), (47, .istore 4, 2), (49, .aload_n 0, 1), (50, .getfield 19, 3), (53, .iload_n 2, 1), (54, .bipush 6, 2), (56, .imul, 1), (57, .iload_n 3, 1), (58, .iadd, 1), (59, .iload 4, 2), (61, .iload_n 1, 1), (62, .if_icmp .ge 7, 3), (65, .iconst (-1), 1), (66, .goto 5, 3), (69, .iload 4, 2), (71, .iastore, 1)] = true := by decide +kernel
theorem dX2_noteLikeness_0 : decode cX2_noteLikeness 0 = .ok (.iconst 0, 1) := zDec_at zB_dX2_noteLikeness_0 0 rfl
theorem dX2_noteLikeness_1 : decode cX2_noteLikeness 1 = .ok (.istore_n 2, 1) := zDec_at zB_dX2_noteLikeness_0 1 rfl
theorem dX2_noteLikeness_2 : decode cX2_noteLikeness 2 = .ok (.iload_n 2, 1) := zDec_at zB_dX2_noteLikeness_0 2 rfl
theorem dX2_noteLikeness_3 : decode cX2_noteLikeness 3 = .ok (.aload_n 0, 1) := zDec_at zB_dX2_noteLikeness_0 3 rfl
theorem dX2_noteLikeness_4 : decode cX2_noteLikeness 4 = .ok (.getfield 48, 3) := zDec_at zB_dX2_noteLikeness_0 4 rfl
theorem dX2_noteLikeness_7 : decode cX2_noteLikeness 7 = .ok (.getfield 58, 3) := zDec_at zB_dX2_noteLikeness_0 5 rfl
theorem dX2_noteLikeness_10 : decode cX2_noteLikeness 10 = .ok (.if_icmp .ge 74, 3) := zDec_at zB_dX2_noteLikeness_0 6 rfl
theorem dX2_noteLikeness_13 : decode cX2_noteLikeness 13 = .ok (.iconst 0, 1) := zDec_at zB_dX2_noteLikeness_0 7 rfl
theorem dX2_noteLikeness_14 : decode cX2_noteLikeness 14 = .ok (.istore_n 3, 1) := zDec_at zB_dX2_noteLikeness_0 8 rfl
theorem dX2_noteLikeness_15 : decode cX2_noteLikeness 15 = .ok (.iload_n 3, 1) := zDec_at zB_dX2_noteLikeness_0 9 rfl
theorem dX2_noteLikeness_16 : decode cX2_noteLikeness 16 = .ok (.aload_n 0, 1) := zDec_at zB_dX2_noteLikeness_0 10 rfl
theorem dX2_noteLikeness_17 : decode cX2_noteLikeness 17 = .ok (.getfield 48, 3) := zDec_at zB_dX2_noteLikeness_0 11 rfl
theorem dX2_noteLikeness_20 : decode cX2_noteLikeness 20 = .ok (.getfield 49, 3) := zDec_at zB_dX2_noteLikeness_0 12 rfl
theorem dX2_noteLikeness_23 : decode cX2_noteLikeness 23 = .ok (.if_icmp .ge 55, 3) := zDec_at zB_dX2_noteLikeness_0 13 rfl
theorem dX2_noteLikeness_26 : decode cX2_noteLikeness 26 = .ok (.aload_n 0, 1) := zDec_at zB_dX2_noteLikeness_0 14 rfl
theorem dX2_noteLikeness_27 : decode cX2_noteLikeness 27 = .ok (.getfield 48, 3) := zDec_at zB_dX2_noteLikeness_0 15 rfl
theorem dX2_noteLikeness_30 : decode cX2_noteLikeness 30 = .ok (.getfield 68, 3) := zDec_at zB_dX2_noteLikeness_0 16 rfl
theorem dX2_noteLikeness_33 : decode cX2_noteLikeness 33 = .ok (.iload_n 2, 1) := zDec_at zB_dX2_noteLikeness_0 17 rfl
theorem dX2_noteLikeness_34 : decode cX2_noteLikeness 34 = .ok (.iaload, 1) := zDec_at zB_dX2_noteLikeness_0 18 rfl
theorem dX2_noteLikeness_35 : decode cX2_noteLikeness 35 = .ok (.aload_n 0, 1) := zDec_at zB_dX2_noteLikeness_0 19 rfl
theorem dX2_noteLikeness_36 : decode cX2_noteLikeness 36 = .ok (.getfield 48, 3) := zDec_at zB_dX2_noteLikeness_0 20 rfl
theorem dX2_noteLikeness_39 : decode cX2_noteLikeness 39 = .ok (.getfield 71, 3) := zDec_at zB_dX2_noteLikeness_0 21 rfl
theorem dX2_noteLikeness_42 : decode cX2_noteLikeness 42 = .ok (.iload_n 3, 1) := zDec_at zB_dX2_noteLikeness_0 22 rfl
theorem dX2_noteLikeness_43 : decode cX2_noteLikeness 43 = .ok (.iaload, 1) := zDec_at zB_dX2_noteLikeness_0 23 rfl
theorem dX2_noteLikeness_44 : decode cX2_noteLikeness 44 = .ok (.invokestatic 74, 3) := zDec_at zB_dX2_noteLikeness_0 24 rfl
theorem dX2_noteLikeness_47 : decode cX2_noteLikeness 47 = .ok (.istore 4, 2) := zDec_at zB_dX2_noteLikeness_0 25 rfl
theorem dX2_noteLikeness_49 : decode cX2_noteLikeness 49 = .ok (.aload_n 0, 1) := zDec_at zB_dX2_noteLikeness_0 26 rfl
theorem dX2_noteLikeness_50 : decode cX2_noteLikeness 50 = .ok (.getfield 19, 3) := zDec_at zB_dX2_noteLikeness_0 27 rfl
theorem dX2_noteLikeness_53 : decode cX2_noteLikeness 53 = .ok (.iload_n 2, 1) := zDec_at zB_dX2_noteLikeness_0 28 rfl
theorem dX2_noteLikeness_54 : decode cX2_noteLikeness 54 = .ok (.bipush 6, 2) := zDec_at zB_dX2_noteLikeness_0 29 rfl
theorem dX2_noteLikeness_56 : decode cX2_noteLikeness 56 = .ok (.imul, 1) := zDec_at zB_dX2_noteLikeness_0 30 rfl
theorem dX2_noteLikeness_57 : decode cX2_noteLikeness 57 = .ok (.iload_n 3, 1) := zDec_at zB_dX2_noteLikeness_0 31 rfl
theorem dX2_noteLikeness_58 : decode cX2_noteLikeness 58 = .ok (.iadd, 1) := zDec_at zB_dX2_noteLikeness_0 32 rfl
theorem dX2_noteLikeness_59 : decode cX2_noteLikeness 59 = .ok (.iload 4, 2) := zDec_at zB_dX2_noteLikeness_0 33 rfl
theorem dX2_noteLikeness_61 : decode cX2_noteLikeness 61 = .ok (.iload_n 1, 1) := zDec_at zB_dX2_noteLikeness_0 34 rfl
theorem dX2_noteLikeness_62 : decode cX2_noteLikeness 62 = .ok (.if_icmp .ge 7, 3) := zDec_at zB_dX2_noteLikeness_0 35 rfl
theorem dX2_noteLikeness_65 : decode cX2_noteLikeness 65 = .ok (.iconst (-1), 1) := zDec_at zB_dX2_noteLikeness_0 36 rfl
theorem dX2_noteLikeness_66 : decode cX2_noteLikeness 66 = .ok (.goto 5, 3) := zDec_at zB_dX2_noteLikeness_0 37 rfl
theorem dX2_noteLikeness_69 : decode cX2_noteLikeness 69 = .ok (.iload 4, 2) := zDec_at zB_dX2_noteLikeness_0 38 rfl
theorem dX2_noteLikeness_71 : decode cX2_noteLikeness 71 = .ok (.iastore, 1) := zDec_at zB_dX2_noteLikeness_0 39 rfl
theorem zB_dX2_noteLikeness_72 : zDecB cX2_noteLikeness [(72, .iinc 3 1, 3), (75, .goto (-60), 3), (78, .iinc 2 1, 3), (81, .goto (-79), 3), (84, .return_, 1)] = true := by decide +kernel
theorem dX2_noteLikeness_72 : decode cX2_noteLikeness 72 = .ok (.iinc 3 1, 3) := zDec_at zB_dX2_noteLikeness_72 0 rfl
theorem dX2_noteLikeness_75 : decode cX2_noteLikeness 75 = .ok (.goto (-60), 3) := zDec_at zB_dX2_noteLikeness_72 1 rfl
theorem dX2_noteLikeness_78 : decode cX2_noteLikeness 78 = .ok (.iinc 2 1, 3) := zDec_at zB_dX2_noteLikeness_72 2 rfl
theorem dX2_noteLikeness_81 : decode cX2_noteLikeness 81 = .ok (.goto (-79), 3) := zDec_at zB_dX2_noteLikeness_72 3 rfl
theorem dX2_noteLikeness_84 : decode cX2_noteLikeness 84 = .ok (.return_, 1) := zDec_at zB_dX2_noteLikeness_72 4 rfl
theorem zB_dX2_noteWays_0 : zDecB cX2_noteWays [(0, .iconst 0, 1), (1, .istore_n 3, 1), (2, .iload_n 3, 1), (3, .aload_n 0, 1), (4, .getfield 48, 3), (7, .getfield 97, 3), (10, .if_icmp .ge 92, 3), (13, .aload_n 0, 1), (14, .getfield 31, 3), (17, .iload_n 3, 1), (18, .aload_n 0, 1), (19, .iload_n 3, 1), (20, .iload_n 1, 1), (21, .iload_n 2, 1), (22, .invokevirtual 107, 3), (25, .iastore, 1), (26, .aload_n 0, 1), (27, .getfield 48, 3), (30, .getfield 110, 3), (33, .iload_n 3, 1), (34, .iaload, 1), (35, .istore 4, 2), (37, .iconst 0, 1), (38, .istore 5, 2), (40, .iload 5, 2), (42, .aload_n 0, 1), (43, .getfield 48, 3), (46, .getfield 97, 3), (49, .if_icmp .ge 47, 3), (52, .aload_n 0, 1), (53, .getfield 28, 3), (56, .iload_n 3, 1), (57, .bipush 9, 2), (59, .imul, 1), (60, .iload 5, 2), (62, .iadd, 1), (63, .aload_n 0, 1), (64, .iload 5, 2), (66, .aload_n 0, 1), (67, .getfield 43, 3)] = true := by decide +kernel
theorem dX2_noteWays_0 : decode cX2_noteWays 0 = .ok (.iconst 0, 1) := zDec_at zB_dX2_noteWays_0 0 rfl
theorem dX2_noteWays_1 : decode cX2_noteWays 1 = .ok (.istore_n 3, 1) := zDec_at zB_dX2_noteWays_0 1 rfl
theorem dX2_noteWays_2 : decode cX2_noteWays 2 = .ok (.iload_n 3, 1) := zDec_at zB_dX2_noteWays_0 2 rfl
theorem dX2_noteWays_3 : decode cX2_noteWays 3 = .ok (.aload_n 0, 1) := zDec_at zB_dX2_noteWays_0 3 rfl
theorem dX2_noteWays_4 : decode cX2_noteWays 4 = .ok (.getfield 48, 3) := zDec_at zB_dX2_noteWays_0 4 rfl
theorem dX2_noteWays_7 : decode cX2_noteWays 7 = .ok (.getfield 97, 3) := zDec_at zB_dX2_noteWays_0 5 rfl
theorem dX2_noteWays_10 : decode cX2_noteWays 10 = .ok (.if_icmp .ge 92, 3) := zDec_at zB_dX2_noteWays_0 6 rfl
theorem dX2_noteWays_13 : decode cX2_noteWays 13 = .ok (.aload_n 0, 1) := zDec_at zB_dX2_noteWays_0 7 rfl
theorem dX2_noteWays_14 : decode cX2_noteWays 14 = .ok (.getfield 31, 3) := zDec_at zB_dX2_noteWays_0 8 rfl
theorem dX2_noteWays_17 : decode cX2_noteWays 17 = .ok (.iload_n 3, 1) := zDec_at zB_dX2_noteWays_0 9 rfl
theorem dX2_noteWays_18 : decode cX2_noteWays 18 = .ok (.aload_n 0, 1) := zDec_at zB_dX2_noteWays_0 10 rfl
theorem dX2_noteWays_19 : decode cX2_noteWays 19 = .ok (.iload_n 3, 1) := zDec_at zB_dX2_noteWays_0 11 rfl
theorem dX2_noteWays_20 : decode cX2_noteWays 20 = .ok (.iload_n 1, 1) := zDec_at zB_dX2_noteWays_0 12 rfl
theorem dX2_noteWays_21 : decode cX2_noteWays 21 = .ok (.iload_n 2, 1) := zDec_at zB_dX2_noteWays_0 13 rfl
theorem dX2_noteWays_22 : decode cX2_noteWays 22 = .ok (.invokevirtual 107, 3) := zDec_at zB_dX2_noteWays_0 14 rfl
theorem dX2_noteWays_25 : decode cX2_noteWays 25 = .ok (.iastore, 1) := zDec_at zB_dX2_noteWays_0 15 rfl
theorem dX2_noteWays_26 : decode cX2_noteWays 26 = .ok (.aload_n 0, 1) := zDec_at zB_dX2_noteWays_0 16 rfl
theorem dX2_noteWays_27 : decode cX2_noteWays 27 = .ok (.getfield 48, 3) := zDec_at zB_dX2_noteWays_0 17 rfl
theorem dX2_noteWays_30 : decode cX2_noteWays 30 = .ok (.getfield 110, 3) := zDec_at zB_dX2_noteWays_0 18 rfl
theorem dX2_noteWays_33 : decode cX2_noteWays 33 = .ok (.iload_n 3, 1) := zDec_at zB_dX2_noteWays_0 19 rfl
theorem dX2_noteWays_34 : decode cX2_noteWays 34 = .ok (.iaload, 1) := zDec_at zB_dX2_noteWays_0 20 rfl
theorem dX2_noteWays_35 : decode cX2_noteWays 35 = .ok (.istore 4, 2) := zDec_at zB_dX2_noteWays_0 21 rfl
theorem dX2_noteWays_37 : decode cX2_noteWays 37 = .ok (.iconst 0, 1) := zDec_at zB_dX2_noteWays_0 22 rfl
theorem dX2_noteWays_38 : decode cX2_noteWays 38 = .ok (.istore 5, 2) := zDec_at zB_dX2_noteWays_0 23 rfl
theorem dX2_noteWays_40 : decode cX2_noteWays 40 = .ok (.iload 5, 2) := zDec_at zB_dX2_noteWays_0 24 rfl
theorem dX2_noteWays_42 : decode cX2_noteWays 42 = .ok (.aload_n 0, 1) := zDec_at zB_dX2_noteWays_0 25 rfl
theorem dX2_noteWays_43 : decode cX2_noteWays 43 = .ok (.getfield 48, 3) := zDec_at zB_dX2_noteWays_0 26 rfl
theorem dX2_noteWays_46 : decode cX2_noteWays 46 = .ok (.getfield 97, 3) := zDec_at zB_dX2_noteWays_0 27 rfl
theorem dX2_noteWays_49 : decode cX2_noteWays 49 = .ok (.if_icmp .ge 47, 3) := zDec_at zB_dX2_noteWays_0 28 rfl
theorem dX2_noteWays_52 : decode cX2_noteWays 52 = .ok (.aload_n 0, 1) := zDec_at zB_dX2_noteWays_0 29 rfl
theorem dX2_noteWays_53 : decode cX2_noteWays 53 = .ok (.getfield 28, 3) := zDec_at zB_dX2_noteWays_0 30 rfl
theorem dX2_noteWays_56 : decode cX2_noteWays 56 = .ok (.iload_n 3, 1) := zDec_at zB_dX2_noteWays_0 31 rfl
theorem dX2_noteWays_57 : decode cX2_noteWays 57 = .ok (.bipush 9, 2) := zDec_at zB_dX2_noteWays_0 32 rfl
theorem dX2_noteWays_59 : decode cX2_noteWays 59 = .ok (.imul, 1) := zDec_at zB_dX2_noteWays_0 33 rfl
theorem dX2_noteWays_60 : decode cX2_noteWays 60 = .ok (.iload 5, 2) := zDec_at zB_dX2_noteWays_0 34 rfl
theorem dX2_noteWays_62 : decode cX2_noteWays 62 = .ok (.iadd, 1) := zDec_at zB_dX2_noteWays_0 35 rfl
theorem dX2_noteWays_63 : decode cX2_noteWays 63 = .ok (.aload_n 0, 1) := zDec_at zB_dX2_noteWays_0 36 rfl
theorem dX2_noteWays_64 : decode cX2_noteWays 64 = .ok (.iload 5, 2) := zDec_at zB_dX2_noteWays_0 37 rfl
theorem dX2_noteWays_66 : decode cX2_noteWays 66 = .ok (.aload_n 0, 1) := zDec_at zB_dX2_noteWays_0 38 rfl
theorem dX2_noteWays_67 : decode cX2_noteWays 67 = .ok (.getfield 43, 3) := zDec_at zB_dX2_noteWays_0 39 rfl
theorem zB_dX2_noteWays_70 : zDecB cX2_noteWays [(70, .getfield 113, 3), (73, .iload 4, 2), (75, .iaload, 1), (76, .aload_n 0, 1), (77, .getfield 43, 3), (80, .getfield 118, 3), (83, .iload 4, 2), (85, .iaload, 1), (86, .invokevirtual 107, 3), (89, .iastore, 1), (90, .iinc 5 1, 3), (93, .goto (-53), 3), (96, .iinc 3 1, 3), (99, .goto (-97), 3), (102, .return_, 1)] = true := by decide +kernel
theorem dX2_noteWays_70 : decode cX2_noteWays 70 = .ok (.getfield 113, 3) := zDec_at zB_dX2_noteWays_70 0 rfl
theorem dX2_noteWays_73 : decode cX2_noteWays 73 = .ok (.iload 4, 2) := zDec_at zB_dX2_noteWays_70 1 rfl
theorem dX2_noteWays_75 : decode cX2_noteWays 75 = .ok (.iaload, 1) := zDec_at zB_dX2_noteWays_70 2 rfl
theorem dX2_noteWays_76 : decode cX2_noteWays 76 = .ok (.aload_n 0, 1) := zDec_at zB_dX2_noteWays_70 3 rfl
theorem dX2_noteWays_77 : decode cX2_noteWays 77 = .ok (.getfield 43, 3) := zDec_at zB_dX2_noteWays_70 4 rfl
theorem dX2_noteWays_80 : decode cX2_noteWays 80 = .ok (.getfield 118, 3) := zDec_at zB_dX2_noteWays_70 5 rfl
theorem dX2_noteWays_83 : decode cX2_noteWays 83 = .ok (.iload 4, 2) := zDec_at zB_dX2_noteWays_70 6 rfl
theorem dX2_noteWays_85 : decode cX2_noteWays 85 = .ok (.iaload, 1) := zDec_at zB_dX2_noteWays_70 7 rfl
theorem dX2_noteWays_86 : decode cX2_noteWays 86 = .ok (.invokevirtual 107, 3) := zDec_at zB_dX2_noteWays_70 8 rfl
theorem dX2_noteWays_89 : decode cX2_noteWays 89 = .ok (.iastore, 1) := zDec_at zB_dX2_noteWays_70 9 rfl
theorem dX2_noteWays_90 : decode cX2_noteWays 90 = .ok (.iinc 5 1, 3) := zDec_at zB_dX2_noteWays_70 10 rfl
theorem dX2_noteWays_93 : decode cX2_noteWays 93 = .ok (.goto (-53), 3) := zDec_at zB_dX2_noteWays_70 11 rfl
theorem dX2_noteWays_96 : decode cX2_noteWays 96 = .ok (.iinc 3 1, 3) := zDec_at zB_dX2_noteWays_70 12 rfl
theorem dX2_noteWays_99 : decode cX2_noteWays 99 = .ok (.goto (-97), 3) := zDec_at zB_dX2_noteWays_70 13 rfl
theorem dX2_noteWays_102 : decode cX2_noteWays 102 = .ok (.return_, 1) := zDec_at zB_dX2_noteWays_70 14 rfl
theorem zB_dX2_scoreWith_0 : zDecB cX2_scoreWith [(0, .iload_n 2, 1), (1, .iload_n 3, 1), (2, .ishr, 1), (3, .iconst 1, 1), (4, .iand, 1), (5, .iconst 1, 1), (6, .if_icmp .eq 18, 3), (9, .aload_n 0, 1), (10, .getfield 19, 3), (13, .iload_n 1, 1), (14, .bipush 6, 2), (16, .imul, 1), (17, .iload_n 3, 1), (18, .iadd, 1), (19, .iaload, 1), (20, .iconst (-1), 1), (21, .if_icmp .ne 5, 3), (24, .iconst (-1), 1), (25, .ireturn, 1), (26, .aload_n 0, 1), (27, .getfield 22, 3), (30, .iload_n 1, 1), (31, .iconst 1, 1), (32, .iadd, 1), (33, .bipush 64, 2), (35, .imul, 1), (36, .iload_n 2, 1), (37, .iconst 1, 1), (38, .iload_n 3, 1), (39, .ishl, 1), (40, .ior, 1), (41, .iadd, 1), (42, .iaload, 1), (43, .aload_n 0, 1), (44, .getfield 19, 3), (47, .iload_n 1, 1), (48, .bipush 6, 2), (50, .imul, 1), (51, .iload_n 3, 1), (52, .iadd, 1)] = true := by decide +kernel
theorem dX2_scoreWith_0 : decode cX2_scoreWith 0 = .ok (.iload_n 2, 1) := zDec_at zB_dX2_scoreWith_0 0 rfl
theorem dX2_scoreWith_1 : decode cX2_scoreWith 1 = .ok (.iload_n 3, 1) := zDec_at zB_dX2_scoreWith_0 1 rfl
theorem dX2_scoreWith_2 : decode cX2_scoreWith 2 = .ok (.ishr, 1) := zDec_at zB_dX2_scoreWith_0 2 rfl
theorem dX2_scoreWith_3 : decode cX2_scoreWith 3 = .ok (.iconst 1, 1) := zDec_at zB_dX2_scoreWith_0 3 rfl
theorem dX2_scoreWith_4 : decode cX2_scoreWith 4 = .ok (.iand, 1) := zDec_at zB_dX2_scoreWith_0 4 rfl
theorem dX2_scoreWith_5 : decode cX2_scoreWith 5 = .ok (.iconst 1, 1) := zDec_at zB_dX2_scoreWith_0 5 rfl
theorem dX2_scoreWith_6 : decode cX2_scoreWith 6 = .ok (.if_icmp .eq 18, 3) := zDec_at zB_dX2_scoreWith_0 6 rfl
theorem dX2_scoreWith_9 : decode cX2_scoreWith 9 = .ok (.aload_n 0, 1) := zDec_at zB_dX2_scoreWith_0 7 rfl
theorem dX2_scoreWith_10 : decode cX2_scoreWith 10 = .ok (.getfield 19, 3) := zDec_at zB_dX2_scoreWith_0 8 rfl
theorem dX2_scoreWith_13 : decode cX2_scoreWith 13 = .ok (.iload_n 1, 1) := zDec_at zB_dX2_scoreWith_0 9 rfl
theorem dX2_scoreWith_14 : decode cX2_scoreWith 14 = .ok (.bipush 6, 2) := zDec_at zB_dX2_scoreWith_0 10 rfl
theorem dX2_scoreWith_16 : decode cX2_scoreWith 16 = .ok (.imul, 1) := zDec_at zB_dX2_scoreWith_0 11 rfl
theorem dX2_scoreWith_17 : decode cX2_scoreWith 17 = .ok (.iload_n 3, 1) := zDec_at zB_dX2_scoreWith_0 12 rfl
theorem dX2_scoreWith_18 : decode cX2_scoreWith 18 = .ok (.iadd, 1) := zDec_at zB_dX2_scoreWith_0 13 rfl
theorem dX2_scoreWith_19 : decode cX2_scoreWith 19 = .ok (.iaload, 1) := zDec_at zB_dX2_scoreWith_0 14 rfl
theorem dX2_scoreWith_20 : decode cX2_scoreWith 20 = .ok (.iconst (-1), 1) := zDec_at zB_dX2_scoreWith_0 15 rfl
theorem dX2_scoreWith_21 : decode cX2_scoreWith 21 = .ok (.if_icmp .ne 5, 3) := zDec_at zB_dX2_scoreWith_0 16 rfl
theorem dX2_scoreWith_24 : decode cX2_scoreWith 24 = .ok (.iconst (-1), 1) := zDec_at zB_dX2_scoreWith_0 17 rfl
theorem dX2_scoreWith_25 : decode cX2_scoreWith 25 = .ok (.ireturn, 1) := zDec_at zB_dX2_scoreWith_0 18 rfl
theorem dX2_scoreWith_26 : decode cX2_scoreWith 26 = .ok (.aload_n 0, 1) := zDec_at zB_dX2_scoreWith_0 19 rfl
theorem dX2_scoreWith_27 : decode cX2_scoreWith 27 = .ok (.getfield 22, 3) := zDec_at zB_dX2_scoreWith_0 20 rfl
theorem dX2_scoreWith_30 : decode cX2_scoreWith 30 = .ok (.iload_n 1, 1) := zDec_at zB_dX2_scoreWith_0 21 rfl
theorem dX2_scoreWith_31 : decode cX2_scoreWith 31 = .ok (.iconst 1, 1) := zDec_at zB_dX2_scoreWith_0 22 rfl
theorem dX2_scoreWith_32 : decode cX2_scoreWith 32 = .ok (.iadd, 1) := zDec_at zB_dX2_scoreWith_0 23 rfl
theorem dX2_scoreWith_33 : decode cX2_scoreWith 33 = .ok (.bipush 64, 2) := zDec_at zB_dX2_scoreWith_0 24 rfl
theorem dX2_scoreWith_35 : decode cX2_scoreWith 35 = .ok (.imul, 1) := zDec_at zB_dX2_scoreWith_0 25 rfl
theorem dX2_scoreWith_36 : decode cX2_scoreWith 36 = .ok (.iload_n 2, 1) := zDec_at zB_dX2_scoreWith_0 26 rfl
theorem dX2_scoreWith_37 : decode cX2_scoreWith 37 = .ok (.iconst 1, 1) := zDec_at zB_dX2_scoreWith_0 27 rfl
theorem dX2_scoreWith_38 : decode cX2_scoreWith 38 = .ok (.iload_n 3, 1) := zDec_at zB_dX2_scoreWith_0 28 rfl
theorem dX2_scoreWith_39 : decode cX2_scoreWith 39 = .ok (.ishl, 1) := zDec_at zB_dX2_scoreWith_0 29 rfl
theorem dX2_scoreWith_40 : decode cX2_scoreWith 40 = .ok (.ior, 1) := zDec_at zB_dX2_scoreWith_0 30 rfl
theorem dX2_scoreWith_41 : decode cX2_scoreWith 41 = .ok (.iadd, 1) := zDec_at zB_dX2_scoreWith_0 31 rfl
theorem dX2_scoreWith_42 : decode cX2_scoreWith 42 = .ok (.iaload, 1) := zDec_at zB_dX2_scoreWith_0 32 rfl
theorem dX2_scoreWith_43 : decode cX2_scoreWith 43 = .ok (.aload_n 0, 1) := zDec_at zB_dX2_scoreWith_0 33 rfl
theorem dX2_scoreWith_44 : decode cX2_scoreWith 44 = .ok (.getfield 19, 3) := zDec_at zB_dX2_scoreWith_0 34 rfl
theorem dX2_scoreWith_47 : decode cX2_scoreWith 47 = .ok (.iload_n 1, 1) := zDec_at zB_dX2_scoreWith_0 35 rfl
theorem dX2_scoreWith_48 : decode cX2_scoreWith 48 = .ok (.bipush 6, 2) := zDec_at zB_dX2_scoreWith_0 36 rfl
theorem dX2_scoreWith_50 : decode cX2_scoreWith 50 = .ok (.imul, 1) := zDec_at zB_dX2_scoreWith_0 37 rfl
theorem dX2_scoreWith_51 : decode cX2_scoreWith 51 = .ok (.iload_n 3, 1) := zDec_at zB_dX2_scoreWith_0 38 rfl
theorem dX2_scoreWith_52 : decode cX2_scoreWith 52 = .ok (.iadd, 1) := zDec_at zB_dX2_scoreWith_0 39 rfl
theorem zB_dX2_scoreWith_53 : zDecB cX2_scoreWith [(53, .iaload, 1), (54, .bipush 8, 2), (56, .imul, 1), (57, .iadd, 1), (58, .iconst 1, 1), (59, .iadd, 1), (60, .ireturn, 1)] = true := by decide +kernel
theorem dX2_scoreWith_53 : decode cX2_scoreWith 53 = .ok (.iaload, 1) := zDec_at zB_dX2_scoreWith_53 0 rfl
theorem dX2_scoreWith_54 : decode cX2_scoreWith 54 = .ok (.bipush 8, 2) := zDec_at zB_dX2_scoreWith_53 1 rfl
theorem dX2_scoreWith_56 : decode cX2_scoreWith 56 = .ok (.imul, 1) := zDec_at zB_dX2_scoreWith_53 2 rfl
theorem dX2_scoreWith_57 : decode cX2_scoreWith 57 = .ok (.iadd, 1) := zDec_at zB_dX2_scoreWith_53 3 rfl
theorem dX2_scoreWith_58 : decode cX2_scoreWith 58 = .ok (.iconst 1, 1) := zDec_at zB_dX2_scoreWith_53 4 rfl
theorem dX2_scoreWith_59 : decode cX2_scoreWith 59 = .ok (.iadd, 1) := zDec_at zB_dX2_scoreWith_53 5 rfl
theorem dX2_scoreWith_60 : decode cX2_scoreWith 60 = .ok (.ireturn, 1) := zDec_at zB_dX2_scoreWith_53 6 rfl
theorem zB_dX2_wayFrom_0 : zDecB cX2_wayFrom [(0, .aload_n 0, 1), (1, .getfield 48, 3), (4, .getfield 110, 3), (7, .iload_n 1, 1), (8, .iaload, 1), (9, .istore 4, 2), (11, .aload_n 0, 1), (12, .getfield 43, 3), (15, .getfield 113, 3), (18, .iload 4, 2), (20, .iaload, 1), (21, .iload_n 2, 1), (22, .isub, 1), (23, .invokestatic 130, 3), (26, .aload_n 0, 1), (27, .getfield 43, 3), (30, .getfield 118, 3), (33, .iload 4, 2), (35, .iaload, 1), (36, .iload_n 3, 1), (37, .isub, 1), (38, .invokestatic 130, 3), (41, .iadd, 1), (42, .ireturn, 1)] = true := by decide +kernel
theorem dX2_wayFrom_0 : decode cX2_wayFrom 0 = .ok (.aload_n 0, 1) := zDec_at zB_dX2_wayFrom_0 0 rfl
theorem dX2_wayFrom_1 : decode cX2_wayFrom 1 = .ok (.getfield 48, 3) := zDec_at zB_dX2_wayFrom_0 1 rfl
theorem dX2_wayFrom_4 : decode cX2_wayFrom 4 = .ok (.getfield 110, 3) := zDec_at zB_dX2_wayFrom_0 2 rfl
theorem dX2_wayFrom_7 : decode cX2_wayFrom 7 = .ok (.iload_n 1, 1) := zDec_at zB_dX2_wayFrom_0 3 rfl
theorem dX2_wayFrom_8 : decode cX2_wayFrom 8 = .ok (.iaload, 1) := zDec_at zB_dX2_wayFrom_0 4 rfl
theorem dX2_wayFrom_9 : decode cX2_wayFrom 9 = .ok (.istore 4, 2) := zDec_at zB_dX2_wayFrom_0 5 rfl
theorem dX2_wayFrom_11 : decode cX2_wayFrom 11 = .ok (.aload_n 0, 1) := zDec_at zB_dX2_wayFrom_0 6 rfl
theorem dX2_wayFrom_12 : decode cX2_wayFrom 12 = .ok (.getfield 43, 3) := zDec_at zB_dX2_wayFrom_0 7 rfl
theorem dX2_wayFrom_15 : decode cX2_wayFrom 15 = .ok (.getfield 113, 3) := zDec_at zB_dX2_wayFrom_0 8 rfl
theorem dX2_wayFrom_18 : decode cX2_wayFrom 18 = .ok (.iload 4, 2) := zDec_at zB_dX2_wayFrom_0 9 rfl
theorem dX2_wayFrom_20 : decode cX2_wayFrom 20 = .ok (.iaload, 1) := zDec_at zB_dX2_wayFrom_0 10 rfl
theorem dX2_wayFrom_21 : decode cX2_wayFrom 21 = .ok (.iload_n 2, 1) := zDec_at zB_dX2_wayFrom_0 11 rfl
theorem dX2_wayFrom_22 : decode cX2_wayFrom 22 = .ok (.isub, 1) := zDec_at zB_dX2_wayFrom_0 12 rfl
theorem dX2_wayFrom_23 : decode cX2_wayFrom 23 = .ok (.invokestatic 130, 3) := zDec_at zB_dX2_wayFrom_0 13 rfl
theorem dX2_wayFrom_26 : decode cX2_wayFrom 26 = .ok (.aload_n 0, 1) := zDec_at zB_dX2_wayFrom_0 14 rfl
theorem dX2_wayFrom_27 : decode cX2_wayFrom 27 = .ok (.getfield 43, 3) := zDec_at zB_dX2_wayFrom_0 15 rfl
theorem dX2_wayFrom_30 : decode cX2_wayFrom 30 = .ok (.getfield 118, 3) := zDec_at zB_dX2_wayFrom_0 16 rfl
theorem dX2_wayFrom_33 : decode cX2_wayFrom 33 = .ok (.iload 4, 2) := zDec_at zB_dX2_wayFrom_0 17 rfl
theorem dX2_wayFrom_35 : decode cX2_wayFrom 35 = .ok (.iaload, 1) := zDec_at zB_dX2_wayFrom_0 18 rfl
theorem dX2_wayFrom_36 : decode cX2_wayFrom 36 = .ok (.iload_n 3, 1) := zDec_at zB_dX2_wayFrom_0 19 rfl
theorem dX2_wayFrom_37 : decode cX2_wayFrom 37 = .ok (.isub, 1) := zDec_at zB_dX2_wayFrom_0 20 rfl
theorem dX2_wayFrom_38 : decode cX2_wayFrom 38 = .ok (.invokestatic 130, 3) := zDec_at zB_dX2_wayFrom_0 21 rfl
theorem dX2_wayFrom_41 : decode cX2_wayFrom 41 = .ok (.iadd, 1) := zDec_at zB_dX2_wayFrom_0 22 rfl
theorem dX2_wayFrom_42 : decode cX2_wayFrom 42 = .ok (.ireturn, 1) := zDec_at zB_dX2_wayFrom_0 23 rfl
theorem zB_dX2_waysToDraw_0 : zDecB cX2_waysToDraw [(0, .iconst 0, 1), (1, .istore_n 2, 1), (2, .aload_n 0, 1), (3, .getfield 34, 3), (6, .iconst 0, 1), (7, .iconst 0, 1), (8, .iastore, 1), (9, .iconst 0, 1), (10, .istore_n 3, 1), (11, .iload_n 3, 1), (12, .aload_n 0, 1), (13, .getfield 48, 3), (16, .getfield 136, 3), (19, .if_icmp .ge 68, 3), (22, .iload_n 2, 1), (23, .aload_n 0, 1), (24, .getfield 48, 3), (27, .getfield 139, 3), (30, .iload_n 3, 1), (31, .iaload, 1), (32, .iload_n 3, 1), (33, .ishl, 1), (34, .ior, 1), (35, .istore_n 2, 1), (36, .iconst 0, 1), (37, .istore 4, 2), (39, .iload 4, 2), (41, .iconst 1, 1), (42, .iload_n 3, 1), (43, .ishl, 1), (44, .if_icmp .ge 37, 3), (47, .aload_n 0, 1), (48, .getfield 34, 3), (51, .iconst 1, 1), (52, .iload_n 3, 1), (53, .ishl, 1), (54, .iload 4, 2), (56, .ior, 1), (57, .aload_n 0, 1), (58, .getfield 34, 3)] = true := by decide +kernel
theorem dX2_waysToDraw_0 : decode cX2_waysToDraw 0 = .ok (.iconst 0, 1) := zDec_at zB_dX2_waysToDraw_0 0 rfl
theorem dX2_waysToDraw_1 : decode cX2_waysToDraw 1 = .ok (.istore_n 2, 1) := zDec_at zB_dX2_waysToDraw_0 1 rfl
theorem dX2_waysToDraw_2 : decode cX2_waysToDraw 2 = .ok (.aload_n 0, 1) := zDec_at zB_dX2_waysToDraw_0 2 rfl
theorem dX2_waysToDraw_3 : decode cX2_waysToDraw 3 = .ok (.getfield 34, 3) := zDec_at zB_dX2_waysToDraw_0 3 rfl
theorem dX2_waysToDraw_6 : decode cX2_waysToDraw 6 = .ok (.iconst 0, 1) := zDec_at zB_dX2_waysToDraw_0 4 rfl
theorem dX2_waysToDraw_7 : decode cX2_waysToDraw 7 = .ok (.iconst 0, 1) := zDec_at zB_dX2_waysToDraw_0 5 rfl
theorem dX2_waysToDraw_8 : decode cX2_waysToDraw 8 = .ok (.iastore, 1) := zDec_at zB_dX2_waysToDraw_0 6 rfl
theorem dX2_waysToDraw_9 : decode cX2_waysToDraw 9 = .ok (.iconst 0, 1) := zDec_at zB_dX2_waysToDraw_0 7 rfl
theorem dX2_waysToDraw_10 : decode cX2_waysToDraw 10 = .ok (.istore_n 3, 1) := zDec_at zB_dX2_waysToDraw_0 8 rfl
theorem dX2_waysToDraw_11 : decode cX2_waysToDraw 11 = .ok (.iload_n 3, 1) := zDec_at zB_dX2_waysToDraw_0 9 rfl
theorem dX2_waysToDraw_12 : decode cX2_waysToDraw 12 = .ok (.aload_n 0, 1) := zDec_at zB_dX2_waysToDraw_0 10 rfl
theorem dX2_waysToDraw_13 : decode cX2_waysToDraw 13 = .ok (.getfield 48, 3) := zDec_at zB_dX2_waysToDraw_0 11 rfl
theorem dX2_waysToDraw_16 : decode cX2_waysToDraw 16 = .ok (.getfield 136, 3) := zDec_at zB_dX2_waysToDraw_0 12 rfl
theorem dX2_waysToDraw_19 : decode cX2_waysToDraw 19 = .ok (.if_icmp .ge 68, 3) := zDec_at zB_dX2_waysToDraw_0 13 rfl
theorem dX2_waysToDraw_22 : decode cX2_waysToDraw 22 = .ok (.iload_n 2, 1) := zDec_at zB_dX2_waysToDraw_0 14 rfl
theorem dX2_waysToDraw_23 : decode cX2_waysToDraw 23 = .ok (.aload_n 0, 1) := zDec_at zB_dX2_waysToDraw_0 15 rfl
theorem dX2_waysToDraw_24 : decode cX2_waysToDraw 24 = .ok (.getfield 48, 3) := zDec_at zB_dX2_waysToDraw_0 16 rfl
theorem dX2_waysToDraw_27 : decode cX2_waysToDraw 27 = .ok (.getfield 139, 3) := zDec_at zB_dX2_waysToDraw_0 17 rfl
theorem dX2_waysToDraw_30 : decode cX2_waysToDraw 30 = .ok (.iload_n 3, 1) := zDec_at zB_dX2_waysToDraw_0 18 rfl
theorem dX2_waysToDraw_31 : decode cX2_waysToDraw 31 = .ok (.iaload, 1) := zDec_at zB_dX2_waysToDraw_0 19 rfl
theorem dX2_waysToDraw_32 : decode cX2_waysToDraw 32 = .ok (.iload_n 3, 1) := zDec_at zB_dX2_waysToDraw_0 20 rfl
theorem dX2_waysToDraw_33 : decode cX2_waysToDraw 33 = .ok (.ishl, 1) := zDec_at zB_dX2_waysToDraw_0 21 rfl
theorem dX2_waysToDraw_34 : decode cX2_waysToDraw 34 = .ok (.ior, 1) := zDec_at zB_dX2_waysToDraw_0 22 rfl
theorem dX2_waysToDraw_35 : decode cX2_waysToDraw 35 = .ok (.istore_n 2, 1) := zDec_at zB_dX2_waysToDraw_0 23 rfl
theorem dX2_waysToDraw_36 : decode cX2_waysToDraw 36 = .ok (.iconst 0, 1) := zDec_at zB_dX2_waysToDraw_0 24 rfl
theorem dX2_waysToDraw_37 : decode cX2_waysToDraw 37 = .ok (.istore 4, 2) := zDec_at zB_dX2_waysToDraw_0 25 rfl
theorem dX2_waysToDraw_39 : decode cX2_waysToDraw 39 = .ok (.iload 4, 2) := zDec_at zB_dX2_waysToDraw_0 26 rfl
theorem dX2_waysToDraw_41 : decode cX2_waysToDraw 41 = .ok (.iconst 1, 1) := zDec_at zB_dX2_waysToDraw_0 27 rfl
theorem dX2_waysToDraw_42 : decode cX2_waysToDraw 42 = .ok (.iload_n 3, 1) := zDec_at zB_dX2_waysToDraw_0 28 rfl
theorem dX2_waysToDraw_43 : decode cX2_waysToDraw 43 = .ok (.ishl, 1) := zDec_at zB_dX2_waysToDraw_0 29 rfl
theorem dX2_waysToDraw_44 : decode cX2_waysToDraw 44 = .ok (.if_icmp .ge 37, 3) := zDec_at zB_dX2_waysToDraw_0 30 rfl
theorem dX2_waysToDraw_47 : decode cX2_waysToDraw 47 = .ok (.aload_n 0, 1) := zDec_at zB_dX2_waysToDraw_0 31 rfl
theorem dX2_waysToDraw_48 : decode cX2_waysToDraw 48 = .ok (.getfield 34, 3) := zDec_at zB_dX2_waysToDraw_0 32 rfl
theorem dX2_waysToDraw_51 : decode cX2_waysToDraw 51 = .ok (.iconst 1, 1) := zDec_at zB_dX2_waysToDraw_0 33 rfl
theorem dX2_waysToDraw_52 : decode cX2_waysToDraw 52 = .ok (.iload_n 3, 1) := zDec_at zB_dX2_waysToDraw_0 34 rfl
theorem dX2_waysToDraw_53 : decode cX2_waysToDraw 53 = .ok (.ishl, 1) := zDec_at zB_dX2_waysToDraw_0 35 rfl
theorem dX2_waysToDraw_54 : decode cX2_waysToDraw 54 = .ok (.iload 4, 2) := zDec_at zB_dX2_waysToDraw_0 36 rfl
theorem dX2_waysToDraw_56 : decode cX2_waysToDraw 56 = .ok (.ior, 1) := zDec_at zB_dX2_waysToDraw_0 37 rfl
theorem dX2_waysToDraw_57 : decode cX2_waysToDraw 57 = .ok (.aload_n 0, 1) := zDec_at zB_dX2_waysToDraw_0 38 rfl
theorem dX2_waysToDraw_58 : decode cX2_waysToDraw 58 = .ok (.getfield 34, 3) := zDec_at zB_dX2_waysToDraw_0 39 rfl
theorem zB_dX2_waysToDraw_61 : zDecB cX2_waysToDraw [(61, .iload 4, 2), (63, .iaload, 1), (64, .aload_n 0, 1), (65, .getfield 48, 3), (68, .getfield 142, 3), (71, .iload_n 3, 1), (72, .iaload, 1), (73, .iadd, 1), (74, .iastore, 1), (75, .iinc 4 1, 3), (78, .goto (-39), 3), (81, .iinc 3 1, 3), (84, .goto (-73), 3), (87, .iload_n 2, 1), (88, .invokestatic 145, 3), (91, .istore_n 3, 1), (92, .aload_n 0, 1), (93, .getfield 34, 3), (96, .iload_n 2, 1), (97, .iaload, 1), (98, .istore 4, 2), (100, .iconst 0, 1), (101, .istore 5, 2), (103, .iconst 0, 1), (104, .istore 6, 2), (106, .iload 6, 2), (108, .iconst 1, 1), (109, .aload_n 0, 1), (110, .getfield 48, 3), (113, .getfield 136, 3), (116, .ishl, 1), (117, .if_icmp .ge 37, 3), (120, .iload_n 1, 1), (121, .ifCond .eq 15, 3), (124, .aload_n 0, 1), (125, .getfield 34, 3), (128, .iload 6, 2), (130, .iaload, 1), (131, .iload 4, 2), (133, .if_icmp .lt 15, 3)] = true := by decide +kernel
theorem dX2_waysToDraw_61 : decode cX2_waysToDraw 61 = .ok (.iload 4, 2) := zDec_at zB_dX2_waysToDraw_61 0 rfl
theorem dX2_waysToDraw_63 : decode cX2_waysToDraw 63 = .ok (.iaload, 1) := zDec_at zB_dX2_waysToDraw_61 1 rfl
theorem dX2_waysToDraw_64 : decode cX2_waysToDraw 64 = .ok (.aload_n 0, 1) := zDec_at zB_dX2_waysToDraw_61 2 rfl
theorem dX2_waysToDraw_65 : decode cX2_waysToDraw 65 = .ok (.getfield 48, 3) := zDec_at zB_dX2_waysToDraw_61 3 rfl
theorem dX2_waysToDraw_68 : decode cX2_waysToDraw 68 = .ok (.getfield 142, 3) := zDec_at zB_dX2_waysToDraw_61 4 rfl
theorem dX2_waysToDraw_71 : decode cX2_waysToDraw 71 = .ok (.iload_n 3, 1) := zDec_at zB_dX2_waysToDraw_61 5 rfl
theorem dX2_waysToDraw_72 : decode cX2_waysToDraw 72 = .ok (.iaload, 1) := zDec_at zB_dX2_waysToDraw_61 6 rfl
theorem dX2_waysToDraw_73 : decode cX2_waysToDraw 73 = .ok (.iadd, 1) := zDec_at zB_dX2_waysToDraw_61 7 rfl
theorem dX2_waysToDraw_74 : decode cX2_waysToDraw 74 = .ok (.iastore, 1) := zDec_at zB_dX2_waysToDraw_61 8 rfl
theorem dX2_waysToDraw_75 : decode cX2_waysToDraw 75 = .ok (.iinc 4 1, 3) := zDec_at zB_dX2_waysToDraw_61 9 rfl
theorem dX2_waysToDraw_78 : decode cX2_waysToDraw 78 = .ok (.goto (-39), 3) := zDec_at zB_dX2_waysToDraw_61 10 rfl
theorem dX2_waysToDraw_81 : decode cX2_waysToDraw 81 = .ok (.iinc 3 1, 3) := zDec_at zB_dX2_waysToDraw_61 11 rfl
theorem dX2_waysToDraw_84 : decode cX2_waysToDraw 84 = .ok (.goto (-73), 3) := zDec_at zB_dX2_waysToDraw_61 12 rfl
theorem dX2_waysToDraw_87 : decode cX2_waysToDraw 87 = .ok (.iload_n 2, 1) := zDec_at zB_dX2_waysToDraw_61 13 rfl
theorem dX2_waysToDraw_88 : decode cX2_waysToDraw 88 = .ok (.invokestatic 145, 3) := zDec_at zB_dX2_waysToDraw_61 14 rfl
theorem dX2_waysToDraw_91 : decode cX2_waysToDraw 91 = .ok (.istore_n 3, 1) := zDec_at zB_dX2_waysToDraw_61 15 rfl
theorem dX2_waysToDraw_92 : decode cX2_waysToDraw 92 = .ok (.aload_n 0, 1) := zDec_at zB_dX2_waysToDraw_61 16 rfl
theorem dX2_waysToDraw_93 : decode cX2_waysToDraw 93 = .ok (.getfield 34, 3) := zDec_at zB_dX2_waysToDraw_61 17 rfl
theorem dX2_waysToDraw_96 : decode cX2_waysToDraw 96 = .ok (.iload_n 2, 1) := zDec_at zB_dX2_waysToDraw_61 18 rfl
theorem dX2_waysToDraw_97 : decode cX2_waysToDraw 97 = .ok (.iaload, 1) := zDec_at zB_dX2_waysToDraw_61 19 rfl
theorem dX2_waysToDraw_98 : decode cX2_waysToDraw 98 = .ok (.istore 4, 2) := zDec_at zB_dX2_waysToDraw_61 20 rfl
theorem dX2_waysToDraw_100 : decode cX2_waysToDraw 100 = .ok (.iconst 0, 1) := zDec_at zB_dX2_waysToDraw_61 21 rfl
theorem dX2_waysToDraw_101 : decode cX2_waysToDraw 101 = .ok (.istore 5, 2) := zDec_at zB_dX2_waysToDraw_61 22 rfl
theorem dX2_waysToDraw_103 : decode cX2_waysToDraw 103 = .ok (.iconst 0, 1) := zDec_at zB_dX2_waysToDraw_61 23 rfl
theorem dX2_waysToDraw_104 : decode cX2_waysToDraw 104 = .ok (.istore 6, 2) := zDec_at zB_dX2_waysToDraw_61 24 rfl
theorem dX2_waysToDraw_106 : decode cX2_waysToDraw 106 = .ok (.iload 6, 2) := zDec_at zB_dX2_waysToDraw_61 25 rfl
theorem dX2_waysToDraw_108 : decode cX2_waysToDraw 108 = .ok (.iconst 1, 1) := zDec_at zB_dX2_waysToDraw_61 26 rfl
theorem dX2_waysToDraw_109 : decode cX2_waysToDraw 109 = .ok (.aload_n 0, 1) := zDec_at zB_dX2_waysToDraw_61 27 rfl
theorem dX2_waysToDraw_110 : decode cX2_waysToDraw 110 = .ok (.getfield 48, 3) := zDec_at zB_dX2_waysToDraw_61 28 rfl
theorem dX2_waysToDraw_113 : decode cX2_waysToDraw 113 = .ok (.getfield 136, 3) := zDec_at zB_dX2_waysToDraw_61 29 rfl
theorem dX2_waysToDraw_116 : decode cX2_waysToDraw 116 = .ok (.ishl, 1) := zDec_at zB_dX2_waysToDraw_61 30 rfl
theorem dX2_waysToDraw_117 : decode cX2_waysToDraw 117 = .ok (.if_icmp .ge 37, 3) := zDec_at zB_dX2_waysToDraw_61 31 rfl
theorem dX2_waysToDraw_120 : decode cX2_waysToDraw 120 = .ok (.iload_n 1, 1) := zDec_at zB_dX2_waysToDraw_61 32 rfl
theorem dX2_waysToDraw_121 : decode cX2_waysToDraw 121 = .ok (.ifCond .eq 15, 3) := zDec_at zB_dX2_waysToDraw_61 33 rfl
theorem dX2_waysToDraw_124 : decode cX2_waysToDraw 124 = .ok (.aload_n 0, 1) := zDec_at zB_dX2_waysToDraw_61 34 rfl
theorem dX2_waysToDraw_125 : decode cX2_waysToDraw 125 = .ok (.getfield 34, 3) := zDec_at zB_dX2_waysToDraw_61 35 rfl
theorem dX2_waysToDraw_128 : decode cX2_waysToDraw 128 = .ok (.iload 6, 2) := zDec_at zB_dX2_waysToDraw_61 36 rfl
theorem dX2_waysToDraw_130 : decode cX2_waysToDraw 130 = .ok (.iaload, 1) := zDec_at zB_dX2_waysToDraw_61 37 rfl
theorem dX2_waysToDraw_131 : decode cX2_waysToDraw 131 = .ok (.iload 4, 2) := zDec_at zB_dX2_waysToDraw_61 38 rfl
theorem dX2_waysToDraw_133 : decode cX2_waysToDraw 133 = .ok (.if_icmp .lt 15, 3) := zDec_at zB_dX2_waysToDraw_61 39 rfl
theorem zB_dX2_waysToDraw_136 : zDecB cX2_waysToDraw [(136, .iload 6, 2), (138, .invokestatic 145, 3), (141, .iload_n 3, 1), (142, .if_icmp .ne 6, 3), (145, .iinc 5 1, 3), (148, .iinc 6 1, 3), (151, .goto (-45), 3), (154, .iload 5, 2), (156, .ireturn, 1)] = true := by decide +kernel
theorem dX2_waysToDraw_136 : decode cX2_waysToDraw 136 = .ok (.iload 6, 2) := zDec_at zB_dX2_waysToDraw_136 0 rfl
theorem dX2_waysToDraw_138 : decode cX2_waysToDraw 138 = .ok (.invokestatic 145, 3) := zDec_at zB_dX2_waysToDraw_136 1 rfl
theorem dX2_waysToDraw_141 : decode cX2_waysToDraw 141 = .ok (.iload_n 3, 1) := zDec_at zB_dX2_waysToDraw_136 2 rfl
theorem dX2_waysToDraw_142 : decode cX2_waysToDraw 142 = .ok (.if_icmp .ne 6, 3) := zDec_at zB_dX2_waysToDraw_136 3 rfl
theorem dX2_waysToDraw_145 : decode cX2_waysToDraw 145 = .ok (.iinc 5 1, 3) := zDec_at zB_dX2_waysToDraw_136 4 rfl
theorem dX2_waysToDraw_148 : decode cX2_waysToDraw 148 = .ok (.iinc 6 1, 3) := zDec_at zB_dX2_waysToDraw_136 5 rfl
theorem dX2_waysToDraw_151 : decode cX2_waysToDraw 151 = .ok (.goto (-45), 3) := zDec_at zB_dX2_waysToDraw_136 6 rfl
theorem dX2_waysToDraw_154 : decode cX2_waysToDraw 154 = .ok (.iload 5, 2) := zDec_at zB_dX2_waysToDraw_136 7 rfl
theorem dX2_waysToDraw_156 : decode cX2_waysToDraw 156 = .ok (.ireturn, 1) := zDec_at zB_dX2_waysToDraw_136 8 rfl
theorem zB_dX2_weighJoins_0 : zDecB cX2_weighJoins [(0, .iload_n 1, 1), (1, .bipush 64, 2), (3, .imul, 1), (4, .iload_n 2, 1), (5, .iadd, 1), (6, .istore_n 3, 1), (7, .aload_n 0, 1), (8, .getfield 22, 3), (11, .iload_n 3, 1), (12, .bipush 64, 2), (14, .iadd, 1), (15, .iaload, 1), (16, .istore 4, 2), (18, .aload_n 0, 1), (19, .getfield 25, 3), (22, .iload_n 3, 1), (23, .bipush 64, 2), (25, .iadd, 1), (26, .iaload, 1), (27, .istore 5, 2), (29, .iconst 0, 1), (30, .istore 6, 2), (32, .iload 6, 2), (34, .aload_n 0, 1), (35, .getfield 48, 3), (38, .getfield 49, 3), (41, .if_icmp .ge 63, 3), (44, .aload_n 0, 1), (45, .iload_n 1, 1), (46, .iload_n 2, 1), (47, .iload 6, 2), (49, .invokevirtual 78, 3), (52, .istore 7, 2), (54, .iload 7, 2), (56, .iload 4, 2), (58, .if_icmp .le 10, 3), (61, .iload 7, 2), (63, .istore 4, 2), (65, .iconst 0, 1), (66, .istore 5, 2)] = true := by decide +kernel
theorem dX2_weighJoins_0 : decode cX2_weighJoins 0 = .ok (.iload_n 1, 1) := zDec_at zB_dX2_weighJoins_0 0 rfl
theorem dX2_weighJoins_1 : decode cX2_weighJoins 1 = .ok (.bipush 64, 2) := zDec_at zB_dX2_weighJoins_0 1 rfl
theorem dX2_weighJoins_3 : decode cX2_weighJoins 3 = .ok (.imul, 1) := zDec_at zB_dX2_weighJoins_0 2 rfl
theorem dX2_weighJoins_4 : decode cX2_weighJoins 4 = .ok (.iload_n 2, 1) := zDec_at zB_dX2_weighJoins_0 3 rfl
theorem dX2_weighJoins_5 : decode cX2_weighJoins 5 = .ok (.iadd, 1) := zDec_at zB_dX2_weighJoins_0 4 rfl
theorem dX2_weighJoins_6 : decode cX2_weighJoins 6 = .ok (.istore_n 3, 1) := zDec_at zB_dX2_weighJoins_0 5 rfl
theorem dX2_weighJoins_7 : decode cX2_weighJoins 7 = .ok (.aload_n 0, 1) := zDec_at zB_dX2_weighJoins_0 6 rfl
theorem dX2_weighJoins_8 : decode cX2_weighJoins 8 = .ok (.getfield 22, 3) := zDec_at zB_dX2_weighJoins_0 7 rfl
theorem dX2_weighJoins_11 : decode cX2_weighJoins 11 = .ok (.iload_n 3, 1) := zDec_at zB_dX2_weighJoins_0 8 rfl
theorem dX2_weighJoins_12 : decode cX2_weighJoins 12 = .ok (.bipush 64, 2) := zDec_at zB_dX2_weighJoins_0 9 rfl
theorem dX2_weighJoins_14 : decode cX2_weighJoins 14 = .ok (.iadd, 1) := zDec_at zB_dX2_weighJoins_0 10 rfl
theorem dX2_weighJoins_15 : decode cX2_weighJoins 15 = .ok (.iaload, 1) := zDec_at zB_dX2_weighJoins_0 11 rfl
theorem dX2_weighJoins_16 : decode cX2_weighJoins 16 = .ok (.istore 4, 2) := zDec_at zB_dX2_weighJoins_0 12 rfl
theorem dX2_weighJoins_18 : decode cX2_weighJoins 18 = .ok (.aload_n 0, 1) := zDec_at zB_dX2_weighJoins_0 13 rfl
theorem dX2_weighJoins_19 : decode cX2_weighJoins 19 = .ok (.getfield 25, 3) := zDec_at zB_dX2_weighJoins_0 14 rfl
theorem dX2_weighJoins_22 : decode cX2_weighJoins 22 = .ok (.iload_n 3, 1) := zDec_at zB_dX2_weighJoins_0 15 rfl
theorem dX2_weighJoins_23 : decode cX2_weighJoins 23 = .ok (.bipush 64, 2) := zDec_at zB_dX2_weighJoins_0 16 rfl
theorem dX2_weighJoins_25 : decode cX2_weighJoins 25 = .ok (.iadd, 1) := zDec_at zB_dX2_weighJoins_0 17 rfl
theorem dX2_weighJoins_26 : decode cX2_weighJoins 26 = .ok (.iaload, 1) := zDec_at zB_dX2_weighJoins_0 18 rfl
theorem dX2_weighJoins_27 : decode cX2_weighJoins 27 = .ok (.istore 5, 2) := zDec_at zB_dX2_weighJoins_0 19 rfl
theorem dX2_weighJoins_29 : decode cX2_weighJoins 29 = .ok (.iconst 0, 1) := zDec_at zB_dX2_weighJoins_0 20 rfl
theorem dX2_weighJoins_30 : decode cX2_weighJoins 30 = .ok (.istore 6, 2) := zDec_at zB_dX2_weighJoins_0 21 rfl
theorem dX2_weighJoins_32 : decode cX2_weighJoins 32 = .ok (.iload 6, 2) := zDec_at zB_dX2_weighJoins_0 22 rfl
theorem dX2_weighJoins_34 : decode cX2_weighJoins 34 = .ok (.aload_n 0, 1) := zDec_at zB_dX2_weighJoins_0 23 rfl
theorem dX2_weighJoins_35 : decode cX2_weighJoins 35 = .ok (.getfield 48, 3) := zDec_at zB_dX2_weighJoins_0 24 rfl
theorem dX2_weighJoins_38 : decode cX2_weighJoins 38 = .ok (.getfield 49, 3) := zDec_at zB_dX2_weighJoins_0 25 rfl
theorem dX2_weighJoins_41 : decode cX2_weighJoins 41 = .ok (.if_icmp .ge 63, 3) := zDec_at zB_dX2_weighJoins_0 26 rfl
theorem dX2_weighJoins_44 : decode cX2_weighJoins 44 = .ok (.aload_n 0, 1) := zDec_at zB_dX2_weighJoins_0 27 rfl
theorem dX2_weighJoins_45 : decode cX2_weighJoins 45 = .ok (.iload_n 1, 1) := zDec_at zB_dX2_weighJoins_0 28 rfl
theorem dX2_weighJoins_46 : decode cX2_weighJoins 46 = .ok (.iload_n 2, 1) := zDec_at zB_dX2_weighJoins_0 29 rfl
theorem dX2_weighJoins_47 : decode cX2_weighJoins 47 = .ok (.iload 6, 2) := zDec_at zB_dX2_weighJoins_0 30 rfl
theorem dX2_weighJoins_49 : decode cX2_weighJoins 49 = .ok (.invokevirtual 78, 3) := zDec_at zB_dX2_weighJoins_0 31 rfl
theorem dX2_weighJoins_52 : decode cX2_weighJoins 52 = .ok (.istore 7, 2) := zDec_at zB_dX2_weighJoins_0 32 rfl
theorem dX2_weighJoins_54 : decode cX2_weighJoins 54 = .ok (.iload 7, 2) := zDec_at zB_dX2_weighJoins_0 33 rfl
theorem dX2_weighJoins_56 : decode cX2_weighJoins 56 = .ok (.iload 4, 2) := zDec_at zB_dX2_weighJoins_0 34 rfl
theorem dX2_weighJoins_58 : decode cX2_weighJoins 58 = .ok (.if_icmp .le 10, 3) := zDec_at zB_dX2_weighJoins_0 35 rfl
theorem dX2_weighJoins_61 : decode cX2_weighJoins 61 = .ok (.iload 7, 2) := zDec_at zB_dX2_weighJoins_0 36 rfl
theorem dX2_weighJoins_63 : decode cX2_weighJoins 63 = .ok (.istore 4, 2) := zDec_at zB_dX2_weighJoins_0 37 rfl
theorem dX2_weighJoins_65 : decode cX2_weighJoins 65 = .ok (.iconst 0, 1) := zDec_at zB_dX2_weighJoins_0 38 rfl
theorem dX2_weighJoins_66 : decode cX2_weighJoins 66 = .ok (.istore 5, 2) := zDec_at zB_dX2_weighJoins_0 39 rfl
theorem zB_dX2_weighJoins_68 : zDecB cX2_weighJoins [(68, .iload 7, 2), (70, .iload 4, 2), (72, .if_icmp .ne 26, 3), (75, .iload 5, 2), (77, .aload_n 0, 1), (78, .getfield 25, 3), (81, .iload_n 1, 1), (82, .iconst 1, 1), (83, .iadd, 1), (84, .bipush 64, 2), (86, .imul, 1), (87, .iload_n 2, 1), (88, .iconst 1, 1), (89, .iload 6, 2), (91, .ishl, 1), (92, .ior, 1), (93, .iadd, 1), (94, .iaload, 1), (95, .iadd, 1), (96, .istore 5, 2), (98, .iinc 6 1, 3), (101, .goto (-69), 3), (104, .aload_n 0, 1), (105, .getfield 22, 3), (108, .iload_n 3, 1), (109, .iload 4, 2), (111, .iastore, 1), (112, .aload_n 0, 1), (113, .getfield 25, 3), (116, .iload_n 3, 1), (117, .iload 5, 2), (119, .iastore, 1), (120, .return_, 1)] = true := by decide +kernel
theorem dX2_weighJoins_68 : decode cX2_weighJoins 68 = .ok (.iload 7, 2) := zDec_at zB_dX2_weighJoins_68 0 rfl
theorem dX2_weighJoins_70 : decode cX2_weighJoins 70 = .ok (.iload 4, 2) := zDec_at zB_dX2_weighJoins_68 1 rfl
theorem dX2_weighJoins_72 : decode cX2_weighJoins 72 = .ok (.if_icmp .ne 26, 3) := zDec_at zB_dX2_weighJoins_68 2 rfl
theorem dX2_weighJoins_75 : decode cX2_weighJoins 75 = .ok (.iload 5, 2) := zDec_at zB_dX2_weighJoins_68 3 rfl
theorem dX2_weighJoins_77 : decode cX2_weighJoins 77 = .ok (.aload_n 0, 1) := zDec_at zB_dX2_weighJoins_68 4 rfl
theorem dX2_weighJoins_78 : decode cX2_weighJoins 78 = .ok (.getfield 25, 3) := zDec_at zB_dX2_weighJoins_68 5 rfl
theorem dX2_weighJoins_81 : decode cX2_weighJoins 81 = .ok (.iload_n 1, 1) := zDec_at zB_dX2_weighJoins_68 6 rfl
theorem dX2_weighJoins_82 : decode cX2_weighJoins 82 = .ok (.iconst 1, 1) := zDec_at zB_dX2_weighJoins_68 7 rfl
theorem dX2_weighJoins_83 : decode cX2_weighJoins 83 = .ok (.iadd, 1) := zDec_at zB_dX2_weighJoins_68 8 rfl
theorem dX2_weighJoins_84 : decode cX2_weighJoins 84 = .ok (.bipush 64, 2) := zDec_at zB_dX2_weighJoins_68 9 rfl
theorem dX2_weighJoins_86 : decode cX2_weighJoins 86 = .ok (.imul, 1) := zDec_at zB_dX2_weighJoins_68 10 rfl
theorem dX2_weighJoins_87 : decode cX2_weighJoins 87 = .ok (.iload_n 2, 1) := zDec_at zB_dX2_weighJoins_68 11 rfl
theorem dX2_weighJoins_88 : decode cX2_weighJoins 88 = .ok (.iconst 1, 1) := zDec_at zB_dX2_weighJoins_68 12 rfl
theorem dX2_weighJoins_89 : decode cX2_weighJoins 89 = .ok (.iload 6, 2) := zDec_at zB_dX2_weighJoins_68 13 rfl
theorem dX2_weighJoins_91 : decode cX2_weighJoins 91 = .ok (.ishl, 1) := zDec_at zB_dX2_weighJoins_68 14 rfl
theorem dX2_weighJoins_92 : decode cX2_weighJoins 92 = .ok (.ior, 1) := zDec_at zB_dX2_weighJoins_68 15 rfl
theorem dX2_weighJoins_93 : decode cX2_weighJoins 93 = .ok (.iadd, 1) := zDec_at zB_dX2_weighJoins_68 16 rfl
theorem dX2_weighJoins_94 : decode cX2_weighJoins 94 = .ok (.iaload, 1) := zDec_at zB_dX2_weighJoins_68 17 rfl
theorem dX2_weighJoins_95 : decode cX2_weighJoins 95 = .ok (.iadd, 1) := zDec_at zB_dX2_weighJoins_68 18 rfl
theorem dX2_weighJoins_96 : decode cX2_weighJoins 96 = .ok (.istore 5, 2) := zDec_at zB_dX2_weighJoins_68 19 rfl
theorem dX2_weighJoins_98 : decode cX2_weighJoins 98 = .ok (.iinc 6 1, 3) := zDec_at zB_dX2_weighJoins_68 20 rfl
theorem dX2_weighJoins_101 : decode cX2_weighJoins 101 = .ok (.goto (-69), 3) := zDec_at zB_dX2_weighJoins_68 21 rfl
theorem dX2_weighJoins_104 : decode cX2_weighJoins 104 = .ok (.aload_n 0, 1) := zDec_at zB_dX2_weighJoins_68 22 rfl
theorem dX2_weighJoins_105 : decode cX2_weighJoins 105 = .ok (.getfield 22, 3) := zDec_at zB_dX2_weighJoins_68 23 rfl
theorem dX2_weighJoins_108 : decode cX2_weighJoins 108 = .ok (.iload_n 3, 1) := zDec_at zB_dX2_weighJoins_68 24 rfl
theorem dX2_weighJoins_109 : decode cX2_weighJoins 109 = .ok (.iload 4, 2) := zDec_at zB_dX2_weighJoins_68 25 rfl
theorem dX2_weighJoins_111 : decode cX2_weighJoins 111 = .ok (.iastore, 1) := zDec_at zB_dX2_weighJoins_68 26 rfl
theorem dX2_weighJoins_112 : decode cX2_weighJoins 112 = .ok (.aload_n 0, 1) := zDec_at zB_dX2_weighJoins_68 27 rfl
theorem dX2_weighJoins_113 : decode cX2_weighJoins 113 = .ok (.getfield 25, 3) := zDec_at zB_dX2_weighJoins_68 28 rfl
theorem dX2_weighJoins_116 : decode cX2_weighJoins 116 = .ok (.iload_n 3, 1) := zDec_at zB_dX2_weighJoins_68 29 rfl
theorem dX2_weighJoins_117 : decode cX2_weighJoins 117 = .ok (.iload 5, 2) := zDec_at zB_dX2_weighJoins_68 30 rfl
theorem dX2_weighJoins_119 : decode cX2_weighJoins 119 = .ok (.iastore, 1) := zDec_at zB_dX2_weighJoins_68 31 rfl
theorem dX2_weighJoins_120 : decode cX2_weighJoins 120 = .ok (.return_, 1) := zDec_at zB_dX2_weighJoins_68 32 rfl
theorem zB_dX2_worthOf_0 : zDecB cX2_worthOf [(0, .iconst 0, 1), (1, .istore_n 2, 1), (2, .iconst 0, 1), (3, .istore_n 3, 1), (4, .iload_n 3, 1), (5, .aload_n 0, 1), (6, .getfield 48, 3), (9, .getfield 97, 3), (12, .if_icmp .ge 27, 3), (15, .iload_n 2, 1), (16, .iload_n 1, 1), (17, .iload_n 3, 1), (18, .ishr, 1), (19, .iconst 1, 1), (20, .iand, 1), (21, .aload_n 0, 1), (22, .getfield 48, 3), (25, .getfield 133, 3), (28, .iload_n 3, 1), (29, .iaload, 1), (30, .imul, 1), (31, .iadd, 1), (32, .istore_n 2, 1), (33, .iinc 3 1, 3), (36, .goto (-32), 3), (39, .iload_n 2, 1), (40, .ireturn, 1)] = true := by decide +kernel
theorem dX2_worthOf_0 : decode cX2_worthOf 0 = .ok (.iconst 0, 1) := zDec_at zB_dX2_worthOf_0 0 rfl
theorem dX2_worthOf_1 : decode cX2_worthOf 1 = .ok (.istore_n 2, 1) := zDec_at zB_dX2_worthOf_0 1 rfl
theorem dX2_worthOf_2 : decode cX2_worthOf 2 = .ok (.iconst 0, 1) := zDec_at zB_dX2_worthOf_0 2 rfl
theorem dX2_worthOf_3 : decode cX2_worthOf 3 = .ok (.istore_n 3, 1) := zDec_at zB_dX2_worthOf_0 3 rfl
theorem dX2_worthOf_4 : decode cX2_worthOf 4 = .ok (.iload_n 3, 1) := zDec_at zB_dX2_worthOf_0 4 rfl
theorem dX2_worthOf_5 : decode cX2_worthOf 5 = .ok (.aload_n 0, 1) := zDec_at zB_dX2_worthOf_0 5 rfl
theorem dX2_worthOf_6 : decode cX2_worthOf 6 = .ok (.getfield 48, 3) := zDec_at zB_dX2_worthOf_0 6 rfl
theorem dX2_worthOf_9 : decode cX2_worthOf 9 = .ok (.getfield 97, 3) := zDec_at zB_dX2_worthOf_0 7 rfl
theorem dX2_worthOf_12 : decode cX2_worthOf 12 = .ok (.if_icmp .ge 27, 3) := zDec_at zB_dX2_worthOf_0 8 rfl
theorem dX2_worthOf_15 : decode cX2_worthOf 15 = .ok (.iload_n 2, 1) := zDec_at zB_dX2_worthOf_0 9 rfl
theorem dX2_worthOf_16 : decode cX2_worthOf 16 = .ok (.iload_n 1, 1) := zDec_at zB_dX2_worthOf_0 10 rfl
theorem dX2_worthOf_17 : decode cX2_worthOf 17 = .ok (.iload_n 3, 1) := zDec_at zB_dX2_worthOf_0 11 rfl
theorem dX2_worthOf_18 : decode cX2_worthOf 18 = .ok (.ishr, 1) := zDec_at zB_dX2_worthOf_0 12 rfl
theorem dX2_worthOf_19 : decode cX2_worthOf 19 = .ok (.iconst 1, 1) := zDec_at zB_dX2_worthOf_0 13 rfl
theorem dX2_worthOf_20 : decode cX2_worthOf 20 = .ok (.iand, 1) := zDec_at zB_dX2_worthOf_0 14 rfl
theorem dX2_worthOf_21 : decode cX2_worthOf 21 = .ok (.aload_n 0, 1) := zDec_at zB_dX2_worthOf_0 15 rfl
theorem dX2_worthOf_22 : decode cX2_worthOf 22 = .ok (.getfield 48, 3) := zDec_at zB_dX2_worthOf_0 16 rfl
theorem dX2_worthOf_25 : decode cX2_worthOf 25 = .ok (.getfield 133, 3) := zDec_at zB_dX2_worthOf_0 17 rfl
theorem dX2_worthOf_28 : decode cX2_worthOf 28 = .ok (.iload_n 3, 1) := zDec_at zB_dX2_worthOf_0 18 rfl
theorem dX2_worthOf_29 : decode cX2_worthOf 29 = .ok (.iaload, 1) := zDec_at zB_dX2_worthOf_0 19 rfl
theorem dX2_worthOf_30 : decode cX2_worthOf 30 = .ok (.imul, 1) := zDec_at zB_dX2_worthOf_0 20 rfl
theorem dX2_worthOf_31 : decode cX2_worthOf 31 = .ok (.iadd, 1) := zDec_at zB_dX2_worthOf_0 21 rfl
theorem dX2_worthOf_32 : decode cX2_worthOf 32 = .ok (.istore_n 2, 1) := zDec_at zB_dX2_worthOf_0 22 rfl
theorem dX2_worthOf_33 : decode cX2_worthOf 33 = .ok (.iinc 3 1, 3) := zDec_at zB_dX2_worthOf_0 23 rfl
theorem dX2_worthOf_36 : decode cX2_worthOf 36 = .ok (.goto (-32), 3) := zDec_at zB_dX2_worthOf_0 24 rfl
theorem dX2_worthOf_39 : decode cX2_worthOf 39 = .ok (.iload_n 2, 1) := zDec_at zB_dX2_worthOf_0 25 rfl
theorem dX2_worthOf_40 : decode cX2_worthOf 40 = .ok (.ireturn, 1) := zDec_at zB_dX2_worthOf_0 26 rfl
theorem zB_dX3_becomeLike_0 : zDecB cX3_becomeLike [(0, .aload_n 0, 1), (1, .getfield 10, 3), (4, .aload_n 1, 1), (5, .getfield 10, 3), (8, .invokevirtual 51, 3), (11, .aload_n 0, 1), (12, .getfield 19, 3), (15, .aload_n 1, 1), (16, .getfield 19, 3), (19, .invokevirtual 55, 3), (22, .aload_n 0, 1), (23, .getfield 26, 3), (26, .aload_n 1, 1), (27, .getfield 26, 3), (30, .invokevirtual 58, 3), (33, .aload_n 0, 1), (34, .getfield 33, 3), (37, .aload_n 1, 1), (38, .getfield 33, 3), (41, .invokevirtual 61, 3), (44, .aload_n 0, 1), (45, .getfield 40, 3), (48, .aload_n 1, 1), (49, .getfield 40, 3), (52, .invokevirtual 64, 3), (55, .aload_n 0, 1), (56, .getfield 47, 3), (59, .aload_n 1, 1), (60, .getfield 47, 3), (63, .invokevirtual 67, 3), (66, .return_, 1)] = true := by decide +kernel
theorem dX3_becomeLike_0 : decode cX3_becomeLike 0 = .ok (.aload_n 0, 1) := zDec_at zB_dX3_becomeLike_0 0 rfl
theorem dX3_becomeLike_1 : decode cX3_becomeLike 1 = .ok (.getfield 10, 3) := zDec_at zB_dX3_becomeLike_0 1 rfl
theorem dX3_becomeLike_4 : decode cX3_becomeLike 4 = .ok (.aload_n 1, 1) := zDec_at zB_dX3_becomeLike_0 2 rfl
theorem dX3_becomeLike_5 : decode cX3_becomeLike 5 = .ok (.getfield 10, 3) := zDec_at zB_dX3_becomeLike_0 3 rfl
theorem dX3_becomeLike_8 : decode cX3_becomeLike 8 = .ok (.invokevirtual 51, 3) := zDec_at zB_dX3_becomeLike_0 4 rfl
theorem dX3_becomeLike_11 : decode cX3_becomeLike 11 = .ok (.aload_n 0, 1) := zDec_at zB_dX3_becomeLike_0 5 rfl
theorem dX3_becomeLike_12 : decode cX3_becomeLike 12 = .ok (.getfield 19, 3) := zDec_at zB_dX3_becomeLike_0 6 rfl
theorem dX3_becomeLike_15 : decode cX3_becomeLike 15 = .ok (.aload_n 1, 1) := zDec_at zB_dX3_becomeLike_0 7 rfl
theorem dX3_becomeLike_16 : decode cX3_becomeLike 16 = .ok (.getfield 19, 3) := zDec_at zB_dX3_becomeLike_0 8 rfl
theorem dX3_becomeLike_19 : decode cX3_becomeLike 19 = .ok (.invokevirtual 55, 3) := zDec_at zB_dX3_becomeLike_0 9 rfl
theorem dX3_becomeLike_22 : decode cX3_becomeLike 22 = .ok (.aload_n 0, 1) := zDec_at zB_dX3_becomeLike_0 10 rfl
theorem dX3_becomeLike_23 : decode cX3_becomeLike 23 = .ok (.getfield 26, 3) := zDec_at zB_dX3_becomeLike_0 11 rfl
theorem dX3_becomeLike_26 : decode cX3_becomeLike 26 = .ok (.aload_n 1, 1) := zDec_at zB_dX3_becomeLike_0 12 rfl
theorem dX3_becomeLike_27 : decode cX3_becomeLike 27 = .ok (.getfield 26, 3) := zDec_at zB_dX3_becomeLike_0 13 rfl
theorem dX3_becomeLike_30 : decode cX3_becomeLike 30 = .ok (.invokevirtual 58, 3) := zDec_at zB_dX3_becomeLike_0 14 rfl
theorem dX3_becomeLike_33 : decode cX3_becomeLike 33 = .ok (.aload_n 0, 1) := zDec_at zB_dX3_becomeLike_0 15 rfl
theorem dX3_becomeLike_34 : decode cX3_becomeLike 34 = .ok (.getfield 33, 3) := zDec_at zB_dX3_becomeLike_0 16 rfl
theorem dX3_becomeLike_37 : decode cX3_becomeLike 37 = .ok (.aload_n 1, 1) := zDec_at zB_dX3_becomeLike_0 17 rfl
theorem dX3_becomeLike_38 : decode cX3_becomeLike 38 = .ok (.getfield 33, 3) := zDec_at zB_dX3_becomeLike_0 18 rfl
theorem dX3_becomeLike_41 : decode cX3_becomeLike 41 = .ok (.invokevirtual 61, 3) := zDec_at zB_dX3_becomeLike_0 19 rfl
theorem dX3_becomeLike_44 : decode cX3_becomeLike 44 = .ok (.aload_n 0, 1) := zDec_at zB_dX3_becomeLike_0 20 rfl
theorem dX3_becomeLike_45 : decode cX3_becomeLike 45 = .ok (.getfield 40, 3) := zDec_at zB_dX3_becomeLike_0 21 rfl
theorem dX3_becomeLike_48 : decode cX3_becomeLike 48 = .ok (.aload_n 1, 1) := zDec_at zB_dX3_becomeLike_0 22 rfl
theorem dX3_becomeLike_49 : decode cX3_becomeLike 49 = .ok (.getfield 40, 3) := zDec_at zB_dX3_becomeLike_0 23 rfl
theorem dX3_becomeLike_52 : decode cX3_becomeLike 52 = .ok (.invokevirtual 64, 3) := zDec_at zB_dX3_becomeLike_0 24 rfl
theorem dX3_becomeLike_55 : decode cX3_becomeLike 55 = .ok (.aload_n 0, 1) := zDec_at zB_dX3_becomeLike_0 25 rfl
theorem dX3_becomeLike_56 : decode cX3_becomeLike 56 = .ok (.getfield 47, 3) := zDec_at zB_dX3_becomeLike_0 26 rfl
theorem dX3_becomeLike_59 : decode cX3_becomeLike 59 = .ok (.aload_n 1, 1) := zDec_at zB_dX3_becomeLike_0 27 rfl
theorem dX3_becomeLike_60 : decode cX3_becomeLike 60 = .ok (.getfield 47, 3) := zDec_at zB_dX3_becomeLike_0 28 rfl
theorem dX3_becomeLike_63 : decode cX3_becomeLike 63 = .ok (.invokevirtual 67, 3) := zDec_at zB_dX3_becomeLike_0 29 rfl
theorem dX3_becomeLike_66 : decode cX3_becomeLike 66 = .ok (.return_, 1) := zDec_at zB_dX3_becomeLike_0 30 rfl
theorem zB_dX3_init_0 : zDecB cX3_init [(0, .aload_n 0, 1), (1, .invokespecial 1, 3), (4, .aload_n 0, 1), (5, .new 7, 3), (8, .dup, 1), (9, .invokespecial 9, 3), (12, .putfield 10, 3), (15, .aload_n 0, 1), (16, .new 16, 3), (19, .dup, 1), (20, .invokespecial 18, 3), (23, .putfield 19, 3), (26, .aload_n 0, 1), (27, .new 23, 3), (30, .dup, 1), (31, .invokespecial 25, 3), (34, .putfield 26, 3), (37, .aload_n 0, 1), (38, .new 30, 3), (41, .dup, 1), (42, .invokespecial 32, 3), (45, .putfield 33, 3), (48, .aload_n 0, 1), (49, .new 37, 3), (52, .dup, 1), (53, .invokespecial 39, 3), (56, .putfield 40, 3), (59, .aload_n 0, 1), (60, .new 44, 3), (63, .dup, 1), (64, .invokespecial 46, 3), (67, .putfield 47, 3), (70, .return_, 1)] = true := by decide +kernel
theorem dX3_init_0 : decode cX3_init 0 = .ok (.aload_n 0, 1) := zDec_at zB_dX3_init_0 0 rfl
theorem dX3_init_1 : decode cX3_init 1 = .ok (.invokespecial 1, 3) := zDec_at zB_dX3_init_0 1 rfl
theorem dX3_init_4 : decode cX3_init 4 = .ok (.aload_n 0, 1) := zDec_at zB_dX3_init_0 2 rfl
theorem dX3_init_5 : decode cX3_init 5 = .ok (.new 7, 3) := zDec_at zB_dX3_init_0 3 rfl
theorem dX3_init_8 : decode cX3_init 8 = .ok (.dup, 1) := zDec_at zB_dX3_init_0 4 rfl
theorem dX3_init_9 : decode cX3_init 9 = .ok (.invokespecial 9, 3) := zDec_at zB_dX3_init_0 5 rfl
theorem dX3_init_12 : decode cX3_init 12 = .ok (.putfield 10, 3) := zDec_at zB_dX3_init_0 6 rfl
theorem dX3_init_15 : decode cX3_init 15 = .ok (.aload_n 0, 1) := zDec_at zB_dX3_init_0 7 rfl
theorem dX3_init_16 : decode cX3_init 16 = .ok (.new 16, 3) := zDec_at zB_dX3_init_0 8 rfl
theorem dX3_init_19 : decode cX3_init 19 = .ok (.dup, 1) := zDec_at zB_dX3_init_0 9 rfl
theorem dX3_init_20 : decode cX3_init 20 = .ok (.invokespecial 18, 3) := zDec_at zB_dX3_init_0 10 rfl
theorem dX3_init_23 : decode cX3_init 23 = .ok (.putfield 19, 3) := zDec_at zB_dX3_init_0 11 rfl
theorem dX3_init_26 : decode cX3_init 26 = .ok (.aload_n 0, 1) := zDec_at zB_dX3_init_0 12 rfl
theorem dX3_init_27 : decode cX3_init 27 = .ok (.new 23, 3) := zDec_at zB_dX3_init_0 13 rfl
theorem dX3_init_30 : decode cX3_init 30 = .ok (.dup, 1) := zDec_at zB_dX3_init_0 14 rfl
theorem dX3_init_31 : decode cX3_init 31 = .ok (.invokespecial 25, 3) := zDec_at zB_dX3_init_0 15 rfl
theorem dX3_init_34 : decode cX3_init 34 = .ok (.putfield 26, 3) := zDec_at zB_dX3_init_0 16 rfl
theorem dX3_init_37 : decode cX3_init 37 = .ok (.aload_n 0, 1) := zDec_at zB_dX3_init_0 17 rfl
theorem dX3_init_38 : decode cX3_init 38 = .ok (.new 30, 3) := zDec_at zB_dX3_init_0 18 rfl
theorem dX3_init_41 : decode cX3_init 41 = .ok (.dup, 1) := zDec_at zB_dX3_init_0 19 rfl
theorem dX3_init_42 : decode cX3_init 42 = .ok (.invokespecial 32, 3) := zDec_at zB_dX3_init_0 20 rfl
theorem dX3_init_45 : decode cX3_init 45 = .ok (.putfield 33, 3) := zDec_at zB_dX3_init_0 21 rfl
theorem dX3_init_48 : decode cX3_init 48 = .ok (.aload_n 0, 1) := zDec_at zB_dX3_init_0 22 rfl
theorem dX3_init_49 : decode cX3_init 49 = .ok (.new 37, 3) := zDec_at zB_dX3_init_0 23 rfl
theorem dX3_init_52 : decode cX3_init 52 = .ok (.dup, 1) := zDec_at zB_dX3_init_0 24 rfl
theorem dX3_init_53 : decode cX3_init 53 = .ok (.invokespecial 39, 3) := zDec_at zB_dX3_init_0 25 rfl
theorem dX3_init_56 : decode cX3_init 56 = .ok (.putfield 40, 3) := zDec_at zB_dX3_init_0 26 rfl
theorem dX3_init_59 : decode cX3_init 59 = .ok (.aload_n 0, 1) := zDec_at zB_dX3_init_0 27 rfl
theorem dX3_init_60 : decode cX3_init 60 = .ok (.new 44, 3) := zDec_at zB_dX3_init_0 28 rfl
theorem dX3_init_63 : decode cX3_init 63 = .ok (.dup, 1) := zDec_at zB_dX3_init_0 29 rfl
theorem dX3_init_64 : decode cX3_init 64 = .ok (.invokespecial 46, 3) := zDec_at zB_dX3_init_0 30 rfl
theorem dX3_init_67 : decode cX3_init 67 = .ok (.putfield 47, 3) := zDec_at zB_dX3_init_0 31 rfl
theorem dX3_init_70 : decode cX3_init 70 = .ok (.return_, 1) := zDec_at zB_dX3_init_0 32 rfl
theorem zB_dX3_isOddOnRolls_0 : zDecB cX3_isOddOnRolls [(0, .iload_n 3, 1), (1, .iconst 2, 1), (2, .if_icmp .ne 13, 3), (5, .aload_n 0, 1), (6, .getfield 19, 3), (9, .iload_n 1, 1), (10, .iload_n 2, 1), (11, .invokevirtual 70, 3), (14, .ireturn, 1), (15, .aload_n 0, 1), (16, .getfield 19, 3), (19, .iload_n 1, 1), (20, .iload_n 2, 1), (21, .invokevirtual 74, 3), (24, .istore 4, 2), (26, .iload_n 3, 1), (27, .iconst 1, 1), (28, .if_icmp .ne 15, 3), (31, .iload 4, 2), (33, .iconst 1, 1), (34, .if_icmp .le 7, 3), (37, .iconst 1, 1), (38, .goto 4, 3), (41, .iconst 0, 1), (42, .ireturn, 1), (43, .iload 4, 2), (45, .ifCond .ne 38, 3), (48, .aload_n 0, 1), (49, .getfield 10, 3), (52, .getfield 78, 3), (55, .iload_n 1, 1), (56, .iaload, 1), (57, .iconst 5, 1), (58, .bipush 16, 2), (60, .invokestatic 82, 3), (63, .ifCond .ne 20, 3), (66, .aload_n 0, 1), (67, .getfield 10, 3), (70, .iload_n 1, 1), (71, .iconst 1, 1)] = true := by decide +kernel
theorem dX3_isOddOnRolls_0 : decode cX3_isOddOnRolls 0 = .ok (.iload_n 3, 1) := zDec_at zB_dX3_isOddOnRolls_0 0 rfl
theorem dX3_isOddOnRolls_1 : decode cX3_isOddOnRolls 1 = .ok (.iconst 2, 1) := zDec_at zB_dX3_isOddOnRolls_0 1 rfl
theorem dX3_isOddOnRolls_2 : decode cX3_isOddOnRolls 2 = .ok (.if_icmp .ne 13, 3) := zDec_at zB_dX3_isOddOnRolls_0 2 rfl
theorem dX3_isOddOnRolls_5 : decode cX3_isOddOnRolls 5 = .ok (.aload_n 0, 1) := zDec_at zB_dX3_isOddOnRolls_0 3 rfl
theorem dX3_isOddOnRolls_6 : decode cX3_isOddOnRolls 6 = .ok (.getfield 19, 3) := zDec_at zB_dX3_isOddOnRolls_0 4 rfl
theorem dX3_isOddOnRolls_9 : decode cX3_isOddOnRolls 9 = .ok (.iload_n 1, 1) := zDec_at zB_dX3_isOddOnRolls_0 5 rfl
theorem dX3_isOddOnRolls_10 : decode cX3_isOddOnRolls 10 = .ok (.iload_n 2, 1) := zDec_at zB_dX3_isOddOnRolls_0 6 rfl
theorem dX3_isOddOnRolls_11 : decode cX3_isOddOnRolls 11 = .ok (.invokevirtual 70, 3) := zDec_at zB_dX3_isOddOnRolls_0 7 rfl
theorem dX3_isOddOnRolls_14 : decode cX3_isOddOnRolls 14 = .ok (.ireturn, 1) := zDec_at zB_dX3_isOddOnRolls_0 8 rfl
theorem dX3_isOddOnRolls_15 : decode cX3_isOddOnRolls 15 = .ok (.aload_n 0, 1) := zDec_at zB_dX3_isOddOnRolls_0 9 rfl
theorem dX3_isOddOnRolls_16 : decode cX3_isOddOnRolls 16 = .ok (.getfield 19, 3) := zDec_at zB_dX3_isOddOnRolls_0 10 rfl
theorem dX3_isOddOnRolls_19 : decode cX3_isOddOnRolls 19 = .ok (.iload_n 1, 1) := zDec_at zB_dX3_isOddOnRolls_0 11 rfl
theorem dX3_isOddOnRolls_20 : decode cX3_isOddOnRolls 20 = .ok (.iload_n 2, 1) := zDec_at zB_dX3_isOddOnRolls_0 12 rfl
theorem dX3_isOddOnRolls_21 : decode cX3_isOddOnRolls 21 = .ok (.invokevirtual 74, 3) := zDec_at zB_dX3_isOddOnRolls_0 13 rfl
theorem dX3_isOddOnRolls_24 : decode cX3_isOddOnRolls 24 = .ok (.istore 4, 2) := zDec_at zB_dX3_isOddOnRolls_0 14 rfl
theorem dX3_isOddOnRolls_26 : decode cX3_isOddOnRolls 26 = .ok (.iload_n 3, 1) := zDec_at zB_dX3_isOddOnRolls_0 15 rfl
theorem dX3_isOddOnRolls_27 : decode cX3_isOddOnRolls 27 = .ok (.iconst 1, 1) := zDec_at zB_dX3_isOddOnRolls_0 16 rfl
theorem dX3_isOddOnRolls_28 : decode cX3_isOddOnRolls 28 = .ok (.if_icmp .ne 15, 3) := zDec_at zB_dX3_isOddOnRolls_0 17 rfl
theorem dX3_isOddOnRolls_31 : decode cX3_isOddOnRolls 31 = .ok (.iload 4, 2) := zDec_at zB_dX3_isOddOnRolls_0 18 rfl
theorem dX3_isOddOnRolls_33 : decode cX3_isOddOnRolls 33 = .ok (.iconst 1, 1) := zDec_at zB_dX3_isOddOnRolls_0 19 rfl
theorem dX3_isOddOnRolls_34 : decode cX3_isOddOnRolls 34 = .ok (.if_icmp .le 7, 3) := zDec_at zB_dX3_isOddOnRolls_0 20 rfl
theorem dX3_isOddOnRolls_37 : decode cX3_isOddOnRolls 37 = .ok (.iconst 1, 1) := zDec_at zB_dX3_isOddOnRolls_0 21 rfl
theorem dX3_isOddOnRolls_38 : decode cX3_isOddOnRolls 38 = .ok (.goto 4, 3) := zDec_at zB_dX3_isOddOnRolls_0 22 rfl
theorem dX3_isOddOnRolls_41 : decode cX3_isOddOnRolls 41 = .ok (.iconst 0, 1) := zDec_at zB_dX3_isOddOnRolls_0 23 rfl
theorem dX3_isOddOnRolls_42 : decode cX3_isOddOnRolls 42 = .ok (.ireturn, 1) := zDec_at zB_dX3_isOddOnRolls_0 24 rfl
theorem dX3_isOddOnRolls_43 : decode cX3_isOddOnRolls 43 = .ok (.iload 4, 2) := zDec_at zB_dX3_isOddOnRolls_0 25 rfl
theorem dX3_isOddOnRolls_45 : decode cX3_isOddOnRolls 45 = .ok (.ifCond .ne 38, 3) := zDec_at zB_dX3_isOddOnRolls_0 26 rfl
theorem dX3_isOddOnRolls_48 : decode cX3_isOddOnRolls 48 = .ok (.aload_n 0, 1) := zDec_at zB_dX3_isOddOnRolls_0 27 rfl
theorem dX3_isOddOnRolls_49 : decode cX3_isOddOnRolls 49 = .ok (.getfield 10, 3) := zDec_at zB_dX3_isOddOnRolls_0 28 rfl
theorem dX3_isOddOnRolls_52 : decode cX3_isOddOnRolls 52 = .ok (.getfield 78, 3) := zDec_at zB_dX3_isOddOnRolls_0 29 rfl
theorem dX3_isOddOnRolls_55 : decode cX3_isOddOnRolls 55 = .ok (.iload_n 1, 1) := zDec_at zB_dX3_isOddOnRolls_0 30 rfl
theorem dX3_isOddOnRolls_56 : decode cX3_isOddOnRolls 56 = .ok (.iaload, 1) := zDec_at zB_dX3_isOddOnRolls_0 31 rfl
theorem dX3_isOddOnRolls_57 : decode cX3_isOddOnRolls 57 = .ok (.iconst 5, 1) := zDec_at zB_dX3_isOddOnRolls_0 32 rfl
theorem dX3_isOddOnRolls_58 : decode cX3_isOddOnRolls 58 = .ok (.bipush 16, 2) := zDec_at zB_dX3_isOddOnRolls_0 33 rfl
theorem dX3_isOddOnRolls_60 : decode cX3_isOddOnRolls 60 = .ok (.invokestatic 82, 3) := zDec_at zB_dX3_isOddOnRolls_0 34 rfl
theorem dX3_isOddOnRolls_63 : decode cX3_isOddOnRolls 63 = .ok (.ifCond .ne 20, 3) := zDec_at zB_dX3_isOddOnRolls_0 35 rfl
theorem dX3_isOddOnRolls_66 : decode cX3_isOddOnRolls 66 = .ok (.aload_n 0, 1) := zDec_at zB_dX3_isOddOnRolls_0 36 rfl
theorem dX3_isOddOnRolls_67 : decode cX3_isOddOnRolls 67 = .ok (.getfield 10, 3) := zDec_at zB_dX3_isOddOnRolls_0 37 rfl
theorem dX3_isOddOnRolls_70 : decode cX3_isOddOnRolls 70 = .ok (.iload_n 1, 1) := zDec_at zB_dX3_isOddOnRolls_0 38 rfl
theorem dX3_isOddOnRolls_71 : decode cX3_isOddOnRolls 71 = .ok (.iconst 1, 1) := zDec_at zB_dX3_isOddOnRolls_0 39 rfl
theorem zB_dX3_isOddOnRolls_72 : zDecB cX3_isOddOnRolls [(72, .iload_n 2, 1), (73, .invokevirtual 88, 3), (76, .ifCond .ne 7, 3), (79, .iconst 1, 1), (80, .goto 4, 3), (83, .iconst 0, 1), (84, .ireturn, 1)] = true := by decide +kernel
theorem dX3_isOddOnRolls_72 : decode cX3_isOddOnRolls 72 = .ok (.iload_n 2, 1) := zDec_at zB_dX3_isOddOnRolls_72 0 rfl
theorem dX3_isOddOnRolls_73 : decode cX3_isOddOnRolls 73 = .ok (.invokevirtual 88, 3) := zDec_at zB_dX3_isOddOnRolls_72 1 rfl
theorem dX3_isOddOnRolls_76 : decode cX3_isOddOnRolls 76 = .ok (.ifCond .ne 7, 3) := zDec_at zB_dX3_isOddOnRolls_72 2 rfl
theorem dX3_isOddOnRolls_79 : decode cX3_isOddOnRolls 79 = .ok (.iconst 1, 1) := zDec_at zB_dX3_isOddOnRolls_72 3 rfl
theorem dX3_isOddOnRolls_80 : decode cX3_isOddOnRolls 80 = .ok (.goto 4, 3) := zDec_at zB_dX3_isOddOnRolls_72 4 rfl
theorem dX3_isOddOnRolls_83 : decode cX3_isOddOnRolls 83 = .ok (.iconst 0, 1) := zDec_at zB_dX3_isOddOnRolls_72 5 rfl
theorem dX3_isOddOnRolls_84 : decode cX3_isOddOnRolls 84 = .ok (.ireturn, 1) := zDec_at zB_dX3_isOddOnRolls_72 6 rfl
theorem zB_dX4_becomeLike_0 : zDecB cX4_becomeLike [(0, .aload_n 0, 1), (1, .aload_n 1, 1), (2, .getfield 39, 3), (5, .putfield 39, 3), (8, .aload_n 1, 1), (9, .getfield 9, 3), (12, .aload_n 0, 1), (13, .getfield 9, 3), (16, .invokestatic 43, 3), (19, .aload_n 0, 1), (20, .aload_n 1, 1), (21, .getfield 47, 3), (24, .putfield 47, 3), (27, .aload_n 1, 1), (28, .getfield 15, 3), (31, .aload_n 0, 1), (32, .getfield 15, 3), (35, .invokestatic 43, 3), (38, .aload_n 1, 1), (39, .getfield 18, 3), (42, .aload_n 0, 1), (43, .getfield 18, 3), (46, .invokestatic 43, 3), (49, .aload_n 0, 1), (50, .aload_n 1, 1), (51, .getfield 50, 3), (54, .putfield 50, 3), (57, .aload_n 1, 1), (58, .getfield 21, 3), (61, .aload_n 0, 1), (62, .getfield 21, 3), (65, .invokestatic 43, 3), (68, .aload_n 1, 1), (69, .getfield 24, 3), (72, .aload_n 0, 1), (73, .getfield 24, 3), (76, .invokestatic 43, 3), (79, .aload_n 1, 1), (80, .getfield 27, 3), (83, .aload_n 0, 1)] = true := by decide +kernel
theorem dX4_becomeLike_0 : decode cX4_becomeLike 0 = .ok (.aload_n 0, 1) := zDec_at zB_dX4_becomeLike_0 0 rfl
theorem dX4_becomeLike_1 : decode cX4_becomeLike 1 = .ok (.aload_n 1, 1) := zDec_at zB_dX4_becomeLike_0 1 rfl
theorem dX4_becomeLike_2 : decode cX4_becomeLike 2 = .ok (.getfield 39, 3) := zDec_at zB_dX4_becomeLike_0 2 rfl
theorem dX4_becomeLike_5 : decode cX4_becomeLike 5 = .ok (.putfield 39, 3) := zDec_at zB_dX4_becomeLike_0 3 rfl
theorem dX4_becomeLike_8 : decode cX4_becomeLike 8 = .ok (.aload_n 1, 1) := zDec_at zB_dX4_becomeLike_0 4 rfl
theorem dX4_becomeLike_9 : decode cX4_becomeLike 9 = .ok (.getfield 9, 3) := zDec_at zB_dX4_becomeLike_0 5 rfl
theorem dX4_becomeLike_12 : decode cX4_becomeLike 12 = .ok (.aload_n 0, 1) := zDec_at zB_dX4_becomeLike_0 6 rfl
theorem dX4_becomeLike_13 : decode cX4_becomeLike 13 = .ok (.getfield 9, 3) := zDec_at zB_dX4_becomeLike_0 7 rfl
theorem dX4_becomeLike_16 : decode cX4_becomeLike 16 = .ok (.invokestatic 43, 3) := zDec_at zB_dX4_becomeLike_0 8 rfl
theorem dX4_becomeLike_19 : decode cX4_becomeLike 19 = .ok (.aload_n 0, 1) := zDec_at zB_dX4_becomeLike_0 9 rfl
theorem dX4_becomeLike_20 : decode cX4_becomeLike 20 = .ok (.aload_n 1, 1) := zDec_at zB_dX4_becomeLike_0 10 rfl
theorem dX4_becomeLike_21 : decode cX4_becomeLike 21 = .ok (.getfield 47, 3) := zDec_at zB_dX4_becomeLike_0 11 rfl
theorem dX4_becomeLike_24 : decode cX4_becomeLike 24 = .ok (.putfield 47, 3) := zDec_at zB_dX4_becomeLike_0 12 rfl
theorem dX4_becomeLike_27 : decode cX4_becomeLike 27 = .ok (.aload_n 1, 1) := zDec_at zB_dX4_becomeLike_0 13 rfl
theorem dX4_becomeLike_28 : decode cX4_becomeLike 28 = .ok (.getfield 15, 3) := zDec_at zB_dX4_becomeLike_0 14 rfl
theorem dX4_becomeLike_31 : decode cX4_becomeLike 31 = .ok (.aload_n 0, 1) := zDec_at zB_dX4_becomeLike_0 15 rfl
theorem dX4_becomeLike_32 : decode cX4_becomeLike 32 = .ok (.getfield 15, 3) := zDec_at zB_dX4_becomeLike_0 16 rfl
theorem dX4_becomeLike_35 : decode cX4_becomeLike 35 = .ok (.invokestatic 43, 3) := zDec_at zB_dX4_becomeLike_0 17 rfl
theorem dX4_becomeLike_38 : decode cX4_becomeLike 38 = .ok (.aload_n 1, 1) := zDec_at zB_dX4_becomeLike_0 18 rfl
theorem dX4_becomeLike_39 : decode cX4_becomeLike 39 = .ok (.getfield 18, 3) := zDec_at zB_dX4_becomeLike_0 19 rfl
theorem dX4_becomeLike_42 : decode cX4_becomeLike 42 = .ok (.aload_n 0, 1) := zDec_at zB_dX4_becomeLike_0 20 rfl
theorem dX4_becomeLike_43 : decode cX4_becomeLike 43 = .ok (.getfield 18, 3) := zDec_at zB_dX4_becomeLike_0 21 rfl
theorem dX4_becomeLike_46 : decode cX4_becomeLike 46 = .ok (.invokestatic 43, 3) := zDec_at zB_dX4_becomeLike_0 22 rfl
theorem dX4_becomeLike_49 : decode cX4_becomeLike 49 = .ok (.aload_n 0, 1) := zDec_at zB_dX4_becomeLike_0 23 rfl
theorem dX4_becomeLike_50 : decode cX4_becomeLike 50 = .ok (.aload_n 1, 1) := zDec_at zB_dX4_becomeLike_0 24 rfl
theorem dX4_becomeLike_51 : decode cX4_becomeLike 51 = .ok (.getfield 50, 3) := zDec_at zB_dX4_becomeLike_0 25 rfl
theorem dX4_becomeLike_54 : decode cX4_becomeLike 54 = .ok (.putfield 50, 3) := zDec_at zB_dX4_becomeLike_0 26 rfl
theorem dX4_becomeLike_57 : decode cX4_becomeLike 57 = .ok (.aload_n 1, 1) := zDec_at zB_dX4_becomeLike_0 27 rfl
theorem dX4_becomeLike_58 : decode cX4_becomeLike 58 = .ok (.getfield 21, 3) := zDec_at zB_dX4_becomeLike_0 28 rfl
theorem dX4_becomeLike_61 : decode cX4_becomeLike 61 = .ok (.aload_n 0, 1) := zDec_at zB_dX4_becomeLike_0 29 rfl
theorem dX4_becomeLike_62 : decode cX4_becomeLike 62 = .ok (.getfield 21, 3) := zDec_at zB_dX4_becomeLike_0 30 rfl
theorem dX4_becomeLike_65 : decode cX4_becomeLike 65 = .ok (.invokestatic 43, 3) := zDec_at zB_dX4_becomeLike_0 31 rfl
theorem dX4_becomeLike_68 : decode cX4_becomeLike 68 = .ok (.aload_n 1, 1) := zDec_at zB_dX4_becomeLike_0 32 rfl
theorem dX4_becomeLike_69 : decode cX4_becomeLike 69 = .ok (.getfield 24, 3) := zDec_at zB_dX4_becomeLike_0 33 rfl
theorem dX4_becomeLike_72 : decode cX4_becomeLike 72 = .ok (.aload_n 0, 1) := zDec_at zB_dX4_becomeLike_0 34 rfl
theorem dX4_becomeLike_73 : decode cX4_becomeLike 73 = .ok (.getfield 24, 3) := zDec_at zB_dX4_becomeLike_0 35 rfl
theorem dX4_becomeLike_76 : decode cX4_becomeLike 76 = .ok (.invokestatic 43, 3) := zDec_at zB_dX4_becomeLike_0 36 rfl
theorem dX4_becomeLike_79 : decode cX4_becomeLike 79 = .ok (.aload_n 1, 1) := zDec_at zB_dX4_becomeLike_0 37 rfl
theorem dX4_becomeLike_80 : decode cX4_becomeLike 80 = .ok (.getfield 27, 3) := zDec_at zB_dX4_becomeLike_0 38 rfl
theorem dX4_becomeLike_83 : decode cX4_becomeLike 83 = .ok (.aload_n 0, 1) := zDec_at zB_dX4_becomeLike_0 39 rfl
theorem zB_dX4_becomeLike_84 : zDecB cX4_becomeLike [(84, .getfield 27, 3), (87, .invokestatic 43, 3), (90, .aload_n 0, 1), (91, .aload_n 1, 1), (92, .getfield 53, 3), (95, .putfield 53, 3), (98, .aload_n 1, 1), (99, .getfield 30, 3), (102, .aload_n 0, 1), (103, .getfield 30, 3), (106, .invokestatic 43, 3), (109, .aload_n 1, 1), (110, .getfield 33, 3), (113, .aload_n 0, 1), (114, .getfield 33, 3), (117, .invokestatic 43, 3), (120, .aload_n 1, 1), (121, .getfield 36, 3), (124, .aload_n 0, 1), (125, .getfield 36, 3), (128, .invokestatic 43, 3), (131, .return_, 1)] = true := by decide +kernel
theorem dX4_becomeLike_84 : decode cX4_becomeLike 84 = .ok (.getfield 27, 3) := zDec_at zB_dX4_becomeLike_84 0 rfl
theorem dX4_becomeLike_87 : decode cX4_becomeLike 87 = .ok (.invokestatic 43, 3) := zDec_at zB_dX4_becomeLike_84 1 rfl
theorem dX4_becomeLike_90 : decode cX4_becomeLike 90 = .ok (.aload_n 0, 1) := zDec_at zB_dX4_becomeLike_84 2 rfl
theorem dX4_becomeLike_91 : decode cX4_becomeLike 91 = .ok (.aload_n 1, 1) := zDec_at zB_dX4_becomeLike_84 3 rfl
theorem dX4_becomeLike_92 : decode cX4_becomeLike 92 = .ok (.getfield 53, 3) := zDec_at zB_dX4_becomeLike_84 4 rfl
theorem dX4_becomeLike_95 : decode cX4_becomeLike 95 = .ok (.putfield 53, 3) := zDec_at zB_dX4_becomeLike_84 5 rfl
theorem dX4_becomeLike_98 : decode cX4_becomeLike 98 = .ok (.aload_n 1, 1) := zDec_at zB_dX4_becomeLike_84 6 rfl
theorem dX4_becomeLike_99 : decode cX4_becomeLike 99 = .ok (.getfield 30, 3) := zDec_at zB_dX4_becomeLike_84 7 rfl
theorem dX4_becomeLike_102 : decode cX4_becomeLike 102 = .ok (.aload_n 0, 1) := zDec_at zB_dX4_becomeLike_84 8 rfl
theorem dX4_becomeLike_103 : decode cX4_becomeLike 103 = .ok (.getfield 30, 3) := zDec_at zB_dX4_becomeLike_84 9 rfl
theorem dX4_becomeLike_106 : decode cX4_becomeLike 106 = .ok (.invokestatic 43, 3) := zDec_at zB_dX4_becomeLike_84 10 rfl
theorem dX4_becomeLike_109 : decode cX4_becomeLike 109 = .ok (.aload_n 1, 1) := zDec_at zB_dX4_becomeLike_84 11 rfl
theorem dX4_becomeLike_110 : decode cX4_becomeLike 110 = .ok (.getfield 33, 3) := zDec_at zB_dX4_becomeLike_84 12 rfl
theorem dX4_becomeLike_113 : decode cX4_becomeLike 113 = .ok (.aload_n 0, 1) := zDec_at zB_dX4_becomeLike_84 13 rfl
theorem dX4_becomeLike_114 : decode cX4_becomeLike 114 = .ok (.getfield 33, 3) := zDec_at zB_dX4_becomeLike_84 14 rfl
theorem dX4_becomeLike_117 : decode cX4_becomeLike 117 = .ok (.invokestatic 43, 3) := zDec_at zB_dX4_becomeLike_84 15 rfl
theorem dX4_becomeLike_120 : decode cX4_becomeLike 120 = .ok (.aload_n 1, 1) := zDec_at zB_dX4_becomeLike_84 16 rfl
theorem dX4_becomeLike_121 : decode cX4_becomeLike 121 = .ok (.getfield 36, 3) := zDec_at zB_dX4_becomeLike_84 17 rfl
theorem dX4_becomeLike_124 : decode cX4_becomeLike 124 = .ok (.aload_n 0, 1) := zDec_at zB_dX4_becomeLike_84 18 rfl
theorem dX4_becomeLike_125 : decode cX4_becomeLike 125 = .ok (.getfield 36, 3) := zDec_at zB_dX4_becomeLike_84 19 rfl
theorem dX4_becomeLike_128 : decode cX4_becomeLike 128 = .ok (.invokestatic 43, 3) := zDec_at zB_dX4_becomeLike_84 20 rfl
theorem dX4_becomeLike_131 : decode cX4_becomeLike 131 = .ok (.return_, 1) := zDec_at zB_dX4_becomeLike_84 21 rfl
theorem zB_dX4_init_0 : zDecB cX4_init [(0, .aload_n 0, 1), (1, .invokespecial 3, 3), (4, .aload_n 0, 1), (5, .bipush 6, 2), (7, .newarray .int, 2), (9, .putfield 9, 3), (12, .aload_n 0, 1), (13, .bipush 6, 2), (15, .newarray .int, 2), (17, .putfield 15, 3), (20, .aload_n 0, 1), (21, .bipush 6, 2), (23, .newarray .int, 2), (25, .putfield 18, 3), (28, .aload_n 0, 1), (29, .bipush 9, 2), (31, .newarray .int, 2), (33, .putfield 21, 3), (36, .aload_n 0, 1), (37, .bipush 9, 2), (39, .newarray .int, 2), (41, .putfield 24, 3), (44, .aload_n 0, 1), (45, .bipush 9, 2), (47, .newarray .int, 2), (49, .putfield 27, 3), (52, .aload_n 0, 1), (53, .bipush 12, 2), (55, .newarray .int, 2), (57, .putfield 30, 3), (60, .aload_n 0, 1), (61, .bipush 12, 2), (63, .newarray .int, 2), (65, .putfield 33, 3), (68, .aload_n 0, 1), (69, .bipush 12, 2), (71, .newarray .int, 2), (73, .putfield 36, 3), (76, .return_, 1)] = true := by decide +kernel
theorem dX4_init_0 : decode cX4_init 0 = .ok (.aload_n 0, 1) := zDec_at zB_dX4_init_0 0 rfl
theorem dX4_init_1 : decode cX4_init 1 = .ok (.invokespecial 3, 3) := zDec_at zB_dX4_init_0 1 rfl
theorem dX4_init_4 : decode cX4_init 4 = .ok (.aload_n 0, 1) := zDec_at zB_dX4_init_0 2 rfl
theorem dX4_init_5 : decode cX4_init 5 = .ok (.bipush 6, 2) := zDec_at zB_dX4_init_0 3 rfl
theorem dX4_init_7 : decode cX4_init 7 = .ok (.newarray .int, 2) := zDec_at zB_dX4_init_0 4 rfl
theorem dX4_init_9 : decode cX4_init 9 = .ok (.putfield 9, 3) := zDec_at zB_dX4_init_0 5 rfl
theorem dX4_init_12 : decode cX4_init 12 = .ok (.aload_n 0, 1) := zDec_at zB_dX4_init_0 6 rfl
theorem dX4_init_13 : decode cX4_init 13 = .ok (.bipush 6, 2) := zDec_at zB_dX4_init_0 7 rfl
theorem dX4_init_15 : decode cX4_init 15 = .ok (.newarray .int, 2) := zDec_at zB_dX4_init_0 8 rfl
theorem dX4_init_17 : decode cX4_init 17 = .ok (.putfield 15, 3) := zDec_at zB_dX4_init_0 9 rfl
theorem dX4_init_20 : decode cX4_init 20 = .ok (.aload_n 0, 1) := zDec_at zB_dX4_init_0 10 rfl
theorem dX4_init_21 : decode cX4_init 21 = .ok (.bipush 6, 2) := zDec_at zB_dX4_init_0 11 rfl
theorem dX4_init_23 : decode cX4_init 23 = .ok (.newarray .int, 2) := zDec_at zB_dX4_init_0 12 rfl
theorem dX4_init_25 : decode cX4_init 25 = .ok (.putfield 18, 3) := zDec_at zB_dX4_init_0 13 rfl
theorem dX4_init_28 : decode cX4_init 28 = .ok (.aload_n 0, 1) := zDec_at zB_dX4_init_0 14 rfl
theorem dX4_init_29 : decode cX4_init 29 = .ok (.bipush 9, 2) := zDec_at zB_dX4_init_0 15 rfl
theorem dX4_init_31 : decode cX4_init 31 = .ok (.newarray .int, 2) := zDec_at zB_dX4_init_0 16 rfl
theorem dX4_init_33 : decode cX4_init 33 = .ok (.putfield 21, 3) := zDec_at zB_dX4_init_0 17 rfl
theorem dX4_init_36 : decode cX4_init 36 = .ok (.aload_n 0, 1) := zDec_at zB_dX4_init_0 18 rfl
theorem dX4_init_37 : decode cX4_init 37 = .ok (.bipush 9, 2) := zDec_at zB_dX4_init_0 19 rfl
theorem dX4_init_39 : decode cX4_init 39 = .ok (.newarray .int, 2) := zDec_at zB_dX4_init_0 20 rfl
theorem dX4_init_41 : decode cX4_init 41 = .ok (.putfield 24, 3) := zDec_at zB_dX4_init_0 21 rfl
theorem dX4_init_44 : decode cX4_init 44 = .ok (.aload_n 0, 1) := zDec_at zB_dX4_init_0 22 rfl
theorem dX4_init_45 : decode cX4_init 45 = .ok (.bipush 9, 2) := zDec_at zB_dX4_init_0 23 rfl
theorem dX4_init_47 : decode cX4_init 47 = .ok (.newarray .int, 2) := zDec_at zB_dX4_init_0 24 rfl
theorem dX4_init_49 : decode cX4_init 49 = .ok (.putfield 27, 3) := zDec_at zB_dX4_init_0 25 rfl
theorem dX4_init_52 : decode cX4_init 52 = .ok (.aload_n 0, 1) := zDec_at zB_dX4_init_0 26 rfl
theorem dX4_init_53 : decode cX4_init 53 = .ok (.bipush 12, 2) := zDec_at zB_dX4_init_0 27 rfl
theorem dX4_init_55 : decode cX4_init 55 = .ok (.newarray .int, 2) := zDec_at zB_dX4_init_0 28 rfl
theorem dX4_init_57 : decode cX4_init 57 = .ok (.putfield 30, 3) := zDec_at zB_dX4_init_0 29 rfl
theorem dX4_init_60 : decode cX4_init 60 = .ok (.aload_n 0, 1) := zDec_at zB_dX4_init_0 30 rfl
theorem dX4_init_61 : decode cX4_init 61 = .ok (.bipush 12, 2) := zDec_at zB_dX4_init_0 31 rfl
theorem dX4_init_63 : decode cX4_init 63 = .ok (.newarray .int, 2) := zDec_at zB_dX4_init_0 32 rfl
theorem dX4_init_65 : decode cX4_init 65 = .ok (.putfield 33, 3) := zDec_at zB_dX4_init_0 33 rfl
theorem dX4_init_68 : decode cX4_init 68 = .ok (.aload_n 0, 1) := zDec_at zB_dX4_init_0 34 rfl
theorem dX4_init_69 : decode cX4_init 69 = .ok (.bipush 12, 2) := zDec_at zB_dX4_init_0 35 rfl
theorem dX4_init_71 : decode cX4_init 71 = .ok (.newarray .int, 2) := zDec_at zB_dX4_init_0 36 rfl
theorem dX4_init_73 : decode cX4_init 73 = .ok (.putfield 36, 3) := zDec_at zB_dX4_init_0 37 rfl
theorem dX4_init_76 : decode cX4_init 76 = .ok (.return_, 1) := zDec_at zB_dX4_init_0 38 rfl
theorem zB_dX5_addMark_0 : zDecB cX5_addMark [(0, .aload_n 0, 1), (1, .iload_n 1, 1), (2, .iload_n 2, 1), (3, .iload_n 3, 1), (4, .sipush 400, 3), (7, .invokevirtual 58, 3), (10, .istore 7, 2), (12, .iload 7, 2), (14, .iconst (-1), 1), (15, .if_icmp .eq 14, 3), (18, .aload_n 0, 1), (19, .getfield 36, 3), (22, .iload 7, 2), (24, .aload_n 0, 1), (25, .getfield 54, 3), (28, .iastore, 1), (29, .aload_n 0, 1), (30, .getfield 9, 3), (33, .aload_n 0, 1), (34, .getfield 54, 3), (37, .iload_n 1, 1), (38, .iastore, 1), (39, .aload_n 0, 1), (40, .getfield 15, 3), (43, .aload_n 0, 1), (44, .getfield 54, 3), (47, .iload_n 2, 1), (48, .iastore, 1), (49, .aload_n 0, 1), (50, .getfield 18, 3), (53, .aload_n 0, 1), (54, .getfield 54, 3), (57, .iload_n 3, 1), (58, .iastore, 1), (59, .aload_n 0, 1), (60, .getfield 21, 3), (63, .aload_n 0, 1), (64, .getfield 54, 3), (67, .iload 4, 2), (69, .iastore, 1)] = true := by decide +kernel
theorem dX5_addMark_0 : decode cX5_addMark 0 = .ok (.aload_n 0, 1) := zDec_at zB_dX5_addMark_0 0 rfl
theorem dX5_addMark_1 : decode cX5_addMark 1 = .ok (.iload_n 1, 1) := zDec_at zB_dX5_addMark_0 1 rfl
theorem dX5_addMark_2 : decode cX5_addMark 2 = .ok (.iload_n 2, 1) := zDec_at zB_dX5_addMark_0 2 rfl
theorem dX5_addMark_3 : decode cX5_addMark 3 = .ok (.iload_n 3, 1) := zDec_at zB_dX5_addMark_0 3 rfl
theorem dX5_addMark_4 : decode cX5_addMark 4 = .ok (.sipush 400, 3) := zDec_at zB_dX5_addMark_0 4 rfl
theorem dX5_addMark_7 : decode cX5_addMark 7 = .ok (.invokevirtual 58, 3) := zDec_at zB_dX5_addMark_0 5 rfl
theorem dX5_addMark_10 : decode cX5_addMark 10 = .ok (.istore 7, 2) := zDec_at zB_dX5_addMark_0 6 rfl
theorem dX5_addMark_12 : decode cX5_addMark 12 = .ok (.iload 7, 2) := zDec_at zB_dX5_addMark_0 7 rfl
theorem dX5_addMark_14 : decode cX5_addMark 14 = .ok (.iconst (-1), 1) := zDec_at zB_dX5_addMark_0 8 rfl
theorem dX5_addMark_15 : decode cX5_addMark 15 = .ok (.if_icmp .eq 14, 3) := zDec_at zB_dX5_addMark_0 9 rfl
theorem dX5_addMark_18 : decode cX5_addMark 18 = .ok (.aload_n 0, 1) := zDec_at zB_dX5_addMark_0 10 rfl
theorem dX5_addMark_19 : decode cX5_addMark 19 = .ok (.getfield 36, 3) := zDec_at zB_dX5_addMark_0 11 rfl
theorem dX5_addMark_22 : decode cX5_addMark 22 = .ok (.iload 7, 2) := zDec_at zB_dX5_addMark_0 12 rfl
theorem dX5_addMark_24 : decode cX5_addMark 24 = .ok (.aload_n 0, 1) := zDec_at zB_dX5_addMark_0 13 rfl
theorem dX5_addMark_25 : decode cX5_addMark 25 = .ok (.getfield 54, 3) := zDec_at zB_dX5_addMark_0 14 rfl
theorem dX5_addMark_28 : decode cX5_addMark 28 = .ok (.iastore, 1) := zDec_at zB_dX5_addMark_0 15 rfl
theorem dX5_addMark_29 : decode cX5_addMark 29 = .ok (.aload_n 0, 1) := zDec_at zB_dX5_addMark_0 16 rfl
theorem dX5_addMark_30 : decode cX5_addMark 30 = .ok (.getfield 9, 3) := zDec_at zB_dX5_addMark_0 17 rfl
theorem dX5_addMark_33 : decode cX5_addMark 33 = .ok (.aload_n 0, 1) := zDec_at zB_dX5_addMark_0 18 rfl
theorem dX5_addMark_34 : decode cX5_addMark 34 = .ok (.getfield 54, 3) := zDec_at zB_dX5_addMark_0 19 rfl
theorem dX5_addMark_37 : decode cX5_addMark 37 = .ok (.iload_n 1, 1) := zDec_at zB_dX5_addMark_0 20 rfl
theorem dX5_addMark_38 : decode cX5_addMark 38 = .ok (.iastore, 1) := zDec_at zB_dX5_addMark_0 21 rfl
theorem dX5_addMark_39 : decode cX5_addMark 39 = .ok (.aload_n 0, 1) := zDec_at zB_dX5_addMark_0 22 rfl
theorem dX5_addMark_40 : decode cX5_addMark 40 = .ok (.getfield 15, 3) := zDec_at zB_dX5_addMark_0 23 rfl
theorem dX5_addMark_43 : decode cX5_addMark 43 = .ok (.aload_n 0, 1) := zDec_at zB_dX5_addMark_0 24 rfl
theorem dX5_addMark_44 : decode cX5_addMark 44 = .ok (.getfield 54, 3) := zDec_at zB_dX5_addMark_0 25 rfl
theorem dX5_addMark_47 : decode cX5_addMark 47 = .ok (.iload_n 2, 1) := zDec_at zB_dX5_addMark_0 26 rfl
theorem dX5_addMark_48 : decode cX5_addMark 48 = .ok (.iastore, 1) := zDec_at zB_dX5_addMark_0 27 rfl
theorem dX5_addMark_49 : decode cX5_addMark 49 = .ok (.aload_n 0, 1) := zDec_at zB_dX5_addMark_0 28 rfl
theorem dX5_addMark_50 : decode cX5_addMark 50 = .ok (.getfield 18, 3) := zDec_at zB_dX5_addMark_0 29 rfl
theorem dX5_addMark_53 : decode cX5_addMark 53 = .ok (.aload_n 0, 1) := zDec_at zB_dX5_addMark_0 30 rfl
theorem dX5_addMark_54 : decode cX5_addMark 54 = .ok (.getfield 54, 3) := zDec_at zB_dX5_addMark_0 31 rfl
theorem dX5_addMark_57 : decode cX5_addMark 57 = .ok (.iload_n 3, 1) := zDec_at zB_dX5_addMark_0 32 rfl
theorem dX5_addMark_58 : decode cX5_addMark 58 = .ok (.iastore, 1) := zDec_at zB_dX5_addMark_0 33 rfl
theorem dX5_addMark_59 : decode cX5_addMark 59 = .ok (.aload_n 0, 1) := zDec_at zB_dX5_addMark_0 34 rfl
theorem dX5_addMark_60 : decode cX5_addMark 60 = .ok (.getfield 21, 3) := zDec_at zB_dX5_addMark_0 35 rfl
theorem dX5_addMark_63 : decode cX5_addMark 63 = .ok (.aload_n 0, 1) := zDec_at zB_dX5_addMark_0 36 rfl
theorem dX5_addMark_64 : decode cX5_addMark 64 = .ok (.getfield 54, 3) := zDec_at zB_dX5_addMark_0 37 rfl
theorem dX5_addMark_67 : decode cX5_addMark 67 = .ok (.iload 4, 2) := zDec_at zB_dX5_addMark_0 38 rfl
theorem dX5_addMark_69 : decode cX5_addMark 69 = .ok (.iastore, 1) := zDec_at zB_dX5_addMark_0 39 rfl
theorem zB_dX5_addMark_70 : zDecB cX5_addMark [(70, .aload_n 0, 1), (71, .getfield 24, 3), (74, .aload_n 0, 1), (75, .getfield 54, 3), (78, .iload 5, 2), (80, .iastore, 1), (81, .aload_n 0, 1), (82, .getfield 27, 3), (85, .aload_n 0, 1), (86, .getfield 54, 3), (89, .iload 6, 2), (91, .iastore, 1), (92, .aload_n 0, 1), (93, .getfield 33, 3), (96, .aload_n 0, 1), (97, .getfield 54, 3), (100, .iconst (-1), 1), (101, .iastore, 1), (102, .aload_n 0, 1), (103, .getfield 36, 3), (106, .aload_n 0, 1), (107, .getfield 54, 3), (110, .iconst (-1), 1), (111, .iastore, 1), (112, .aload_n 0, 1), (113, .dup, 1), (114, .getfield 54, 3), (117, .iconst 1, 1), (118, .iadd, 1), (119, .putfield 54, 3), (122, .aload_n 0, 1), (123, .getfield 54, 3), (126, .iconst 1, 1), (127, .isub, 1), (128, .ireturn, 1)] = true := by decide +kernel
theorem dX5_addMark_70 : decode cX5_addMark 70 = .ok (.aload_n 0, 1) := zDec_at zB_dX5_addMark_70 0 rfl
theorem dX5_addMark_71 : decode cX5_addMark 71 = .ok (.getfield 24, 3) := zDec_at zB_dX5_addMark_70 1 rfl
theorem dX5_addMark_74 : decode cX5_addMark 74 = .ok (.aload_n 0, 1) := zDec_at zB_dX5_addMark_70 2 rfl
theorem dX5_addMark_75 : decode cX5_addMark 75 = .ok (.getfield 54, 3) := zDec_at zB_dX5_addMark_70 3 rfl
theorem dX5_addMark_78 : decode cX5_addMark 78 = .ok (.iload 5, 2) := zDec_at zB_dX5_addMark_70 4 rfl
theorem dX5_addMark_80 : decode cX5_addMark 80 = .ok (.iastore, 1) := zDec_at zB_dX5_addMark_70 5 rfl
theorem dX5_addMark_81 : decode cX5_addMark 81 = .ok (.aload_n 0, 1) := zDec_at zB_dX5_addMark_70 6 rfl
theorem dX5_addMark_82 : decode cX5_addMark 82 = .ok (.getfield 27, 3) := zDec_at zB_dX5_addMark_70 7 rfl
theorem dX5_addMark_85 : decode cX5_addMark 85 = .ok (.aload_n 0, 1) := zDec_at zB_dX5_addMark_70 8 rfl
theorem dX5_addMark_86 : decode cX5_addMark 86 = .ok (.getfield 54, 3) := zDec_at zB_dX5_addMark_70 9 rfl
theorem dX5_addMark_89 : decode cX5_addMark 89 = .ok (.iload 6, 2) := zDec_at zB_dX5_addMark_70 10 rfl
theorem dX5_addMark_91 : decode cX5_addMark 91 = .ok (.iastore, 1) := zDec_at zB_dX5_addMark_70 11 rfl
theorem dX5_addMark_92 : decode cX5_addMark 92 = .ok (.aload_n 0, 1) := zDec_at zB_dX5_addMark_70 12 rfl
theorem dX5_addMark_93 : decode cX5_addMark 93 = .ok (.getfield 33, 3) := zDec_at zB_dX5_addMark_70 13 rfl
theorem dX5_addMark_96 : decode cX5_addMark 96 = .ok (.aload_n 0, 1) := zDec_at zB_dX5_addMark_70 14 rfl
theorem dX5_addMark_97 : decode cX5_addMark 97 = .ok (.getfield 54, 3) := zDec_at zB_dX5_addMark_70 15 rfl
theorem dX5_addMark_100 : decode cX5_addMark 100 = .ok (.iconst (-1), 1) := zDec_at zB_dX5_addMark_70 16 rfl
theorem dX5_addMark_101 : decode cX5_addMark 101 = .ok (.iastore, 1) := zDec_at zB_dX5_addMark_70 17 rfl
theorem dX5_addMark_102 : decode cX5_addMark 102 = .ok (.aload_n 0, 1) := zDec_at zB_dX5_addMark_70 18 rfl
theorem dX5_addMark_103 : decode cX5_addMark 103 = .ok (.getfield 36, 3) := zDec_at zB_dX5_addMark_70 19 rfl
theorem dX5_addMark_106 : decode cX5_addMark 106 = .ok (.aload_n 0, 1) := zDec_at zB_dX5_addMark_70 20 rfl
theorem dX5_addMark_107 : decode cX5_addMark 107 = .ok (.getfield 54, 3) := zDec_at zB_dX5_addMark_70 21 rfl
theorem dX5_addMark_110 : decode cX5_addMark 110 = .ok (.iconst (-1), 1) := zDec_at zB_dX5_addMark_70 22 rfl
theorem dX5_addMark_111 : decode cX5_addMark 111 = .ok (.iastore, 1) := zDec_at zB_dX5_addMark_70 23 rfl
theorem dX5_addMark_112 : decode cX5_addMark 112 = .ok (.aload_n 0, 1) := zDec_at zB_dX5_addMark_70 24 rfl
theorem dX5_addMark_113 : decode cX5_addMark 113 = .ok (.dup, 1) := zDec_at zB_dX5_addMark_70 25 rfl
theorem dX5_addMark_114 : decode cX5_addMark 114 = .ok (.getfield 54, 3) := zDec_at zB_dX5_addMark_70 26 rfl
theorem dX5_addMark_117 : decode cX5_addMark 117 = .ok (.iconst 1, 1) := zDec_at zB_dX5_addMark_70 27 rfl
theorem dX5_addMark_118 : decode cX5_addMark 118 = .ok (.iadd, 1) := zDec_at zB_dX5_addMark_70 28 rfl
theorem dX5_addMark_119 : decode cX5_addMark 119 = .ok (.putfield 54, 3) := zDec_at zB_dX5_addMark_70 29 rfl
theorem dX5_addMark_122 : decode cX5_addMark 122 = .ok (.aload_n 0, 1) := zDec_at zB_dX5_addMark_70 30 rfl
theorem dX5_addMark_123 : decode cX5_addMark 123 = .ok (.getfield 54, 3) := zDec_at zB_dX5_addMark_70 31 rfl
theorem dX5_addMark_126 : decode cX5_addMark 126 = .ok (.iconst 1, 1) := zDec_at zB_dX5_addMark_70 32 rfl
theorem dX5_addMark_127 : decode cX5_addMark 127 = .ok (.isub, 1) := zDec_at zB_dX5_addMark_70 33 rfl
theorem dX5_addMark_128 : decode cX5_addMark 128 = .ok (.ireturn, 1) := zDec_at zB_dX5_addMark_70 34 rfl
theorem zB_dX5_becomeLike_0 : zDecB cX5_becomeLike [(0, .aload_n 0, 1), (1, .aload_n 1, 1), (2, .getfield 54, 3), (5, .putfield 54, 3), (8, .aload_n 1, 1), (9, .getfield 9, 3), (12, .aload_n 0, 1), (13, .getfield 9, 3), (16, .invokestatic 79, 3), (19, .aload_n 1, 1), (20, .getfield 15, 3), (23, .aload_n 0, 1), (24, .getfield 15, 3), (27, .invokestatic 79, 3), (30, .aload_n 1, 1), (31, .getfield 18, 3), (34, .aload_n 0, 1), (35, .getfield 18, 3), (38, .invokestatic 79, 3), (41, .aload_n 1, 1), (42, .getfield 21, 3), (45, .aload_n 0, 1), (46, .getfield 21, 3), (49, .invokestatic 79, 3), (52, .aload_n 1, 1), (53, .getfield 24, 3), (56, .aload_n 0, 1), (57, .getfield 24, 3), (60, .invokestatic 79, 3), (63, .aload_n 1, 1), (64, .getfield 27, 3), (67, .aload_n 0, 1), (68, .getfield 27, 3), (71, .invokestatic 79, 3), (74, .aload_n 1, 1), (75, .getfield 30, 3), (78, .aload_n 0, 1), (79, .getfield 30, 3), (82, .invokestatic 79, 3), (85, .aload_n 1, 1)] = true := by decide +kernel
theorem dX5_becomeLike_0 : decode cX5_becomeLike 0 = .ok (.aload_n 0, 1) := zDec_at zB_dX5_becomeLike_0 0 rfl
theorem dX5_becomeLike_1 : decode cX5_becomeLike 1 = .ok (.aload_n 1, 1) := zDec_at zB_dX5_becomeLike_0 1 rfl
theorem dX5_becomeLike_2 : decode cX5_becomeLike 2 = .ok (.getfield 54, 3) := zDec_at zB_dX5_becomeLike_0 2 rfl
theorem dX5_becomeLike_5 : decode cX5_becomeLike 5 = .ok (.putfield 54, 3) := zDec_at zB_dX5_becomeLike_0 3 rfl
theorem dX5_becomeLike_8 : decode cX5_becomeLike 8 = .ok (.aload_n 1, 1) := zDec_at zB_dX5_becomeLike_0 4 rfl
theorem dX5_becomeLike_9 : decode cX5_becomeLike 9 = .ok (.getfield 9, 3) := zDec_at zB_dX5_becomeLike_0 5 rfl
theorem dX5_becomeLike_12 : decode cX5_becomeLike 12 = .ok (.aload_n 0, 1) := zDec_at zB_dX5_becomeLike_0 6 rfl
theorem dX5_becomeLike_13 : decode cX5_becomeLike 13 = .ok (.getfield 9, 3) := zDec_at zB_dX5_becomeLike_0 7 rfl
theorem dX5_becomeLike_16 : decode cX5_becomeLike 16 = .ok (.invokestatic 79, 3) := zDec_at zB_dX5_becomeLike_0 8 rfl
theorem dX5_becomeLike_19 : decode cX5_becomeLike 19 = .ok (.aload_n 1, 1) := zDec_at zB_dX5_becomeLike_0 9 rfl
theorem dX5_becomeLike_20 : decode cX5_becomeLike 20 = .ok (.getfield 15, 3) := zDec_at zB_dX5_becomeLike_0 10 rfl
theorem dX5_becomeLike_23 : decode cX5_becomeLike 23 = .ok (.aload_n 0, 1) := zDec_at zB_dX5_becomeLike_0 11 rfl
theorem dX5_becomeLike_24 : decode cX5_becomeLike 24 = .ok (.getfield 15, 3) := zDec_at zB_dX5_becomeLike_0 12 rfl
theorem dX5_becomeLike_27 : decode cX5_becomeLike 27 = .ok (.invokestatic 79, 3) := zDec_at zB_dX5_becomeLike_0 13 rfl
theorem dX5_becomeLike_30 : decode cX5_becomeLike 30 = .ok (.aload_n 1, 1) := zDec_at zB_dX5_becomeLike_0 14 rfl
theorem dX5_becomeLike_31 : decode cX5_becomeLike 31 = .ok (.getfield 18, 3) := zDec_at zB_dX5_becomeLike_0 15 rfl
theorem dX5_becomeLike_34 : decode cX5_becomeLike 34 = .ok (.aload_n 0, 1) := zDec_at zB_dX5_becomeLike_0 16 rfl
theorem dX5_becomeLike_35 : decode cX5_becomeLike 35 = .ok (.getfield 18, 3) := zDec_at zB_dX5_becomeLike_0 17 rfl
theorem dX5_becomeLike_38 : decode cX5_becomeLike 38 = .ok (.invokestatic 79, 3) := zDec_at zB_dX5_becomeLike_0 18 rfl
theorem dX5_becomeLike_41 : decode cX5_becomeLike 41 = .ok (.aload_n 1, 1) := zDec_at zB_dX5_becomeLike_0 19 rfl
theorem dX5_becomeLike_42 : decode cX5_becomeLike 42 = .ok (.getfield 21, 3) := zDec_at zB_dX5_becomeLike_0 20 rfl
theorem dX5_becomeLike_45 : decode cX5_becomeLike 45 = .ok (.aload_n 0, 1) := zDec_at zB_dX5_becomeLike_0 21 rfl
theorem dX5_becomeLike_46 : decode cX5_becomeLike 46 = .ok (.getfield 21, 3) := zDec_at zB_dX5_becomeLike_0 22 rfl
theorem dX5_becomeLike_49 : decode cX5_becomeLike 49 = .ok (.invokestatic 79, 3) := zDec_at zB_dX5_becomeLike_0 23 rfl
theorem dX5_becomeLike_52 : decode cX5_becomeLike 52 = .ok (.aload_n 1, 1) := zDec_at zB_dX5_becomeLike_0 24 rfl
theorem dX5_becomeLike_53 : decode cX5_becomeLike 53 = .ok (.getfield 24, 3) := zDec_at zB_dX5_becomeLike_0 25 rfl
theorem dX5_becomeLike_56 : decode cX5_becomeLike 56 = .ok (.aload_n 0, 1) := zDec_at zB_dX5_becomeLike_0 26 rfl
theorem dX5_becomeLike_57 : decode cX5_becomeLike 57 = .ok (.getfield 24, 3) := zDec_at zB_dX5_becomeLike_0 27 rfl
theorem dX5_becomeLike_60 : decode cX5_becomeLike 60 = .ok (.invokestatic 79, 3) := zDec_at zB_dX5_becomeLike_0 28 rfl
theorem dX5_becomeLike_63 : decode cX5_becomeLike 63 = .ok (.aload_n 1, 1) := zDec_at zB_dX5_becomeLike_0 29 rfl
theorem dX5_becomeLike_64 : decode cX5_becomeLike 64 = .ok (.getfield 27, 3) := zDec_at zB_dX5_becomeLike_0 30 rfl
theorem dX5_becomeLike_67 : decode cX5_becomeLike 67 = .ok (.aload_n 0, 1) := zDec_at zB_dX5_becomeLike_0 31 rfl
theorem dX5_becomeLike_68 : decode cX5_becomeLike 68 = .ok (.getfield 27, 3) := zDec_at zB_dX5_becomeLike_0 32 rfl
theorem dX5_becomeLike_71 : decode cX5_becomeLike 71 = .ok (.invokestatic 79, 3) := zDec_at zB_dX5_becomeLike_0 33 rfl
theorem dX5_becomeLike_74 : decode cX5_becomeLike 74 = .ok (.aload_n 1, 1) := zDec_at zB_dX5_becomeLike_0 34 rfl
theorem dX5_becomeLike_75 : decode cX5_becomeLike 75 = .ok (.getfield 30, 3) := zDec_at zB_dX5_becomeLike_0 35 rfl
theorem dX5_becomeLike_78 : decode cX5_becomeLike 78 = .ok (.aload_n 0, 1) := zDec_at zB_dX5_becomeLike_0 36 rfl
theorem dX5_becomeLike_79 : decode cX5_becomeLike 79 = .ok (.getfield 30, 3) := zDec_at zB_dX5_becomeLike_0 37 rfl
theorem dX5_becomeLike_82 : decode cX5_becomeLike 82 = .ok (.invokestatic 79, 3) := zDec_at zB_dX5_becomeLike_0 38 rfl
theorem dX5_becomeLike_85 : decode cX5_becomeLike 85 = .ok (.aload_n 1, 1) := zDec_at zB_dX5_becomeLike_0 39 rfl
theorem zB_dX5_becomeLike_86 : zDecB cX5_becomeLike [(86, .getfield 33, 3), (89, .aload_n 0, 1), (90, .getfield 33, 3), (93, .invokestatic 79, 3), (96, .aload_n 1, 1), (97, .getfield 36, 3), (100, .aload_n 0, 1), (101, .getfield 36, 3), (104, .invokestatic 79, 3), (107, .aload_n 1, 1), (108, .getfield 39, 3), (111, .aload_n 0, 1), (112, .getfield 39, 3), (115, .invokestatic 79, 3), (118, .aload_n 1, 1), (119, .getfield 42, 3), (122, .aload_n 0, 1), (123, .getfield 42, 3), (126, .invokestatic 79, 3), (129, .aload_n 1, 1), (130, .getfield 45, 3), (133, .aload_n 0, 1), (134, .getfield 45, 3), (137, .invokestatic 79, 3), (140, .return_, 1)] = true := by decide +kernel
theorem dX5_becomeLike_86 : decode cX5_becomeLike 86 = .ok (.getfield 33, 3) := zDec_at zB_dX5_becomeLike_86 0 rfl
theorem dX5_becomeLike_89 : decode cX5_becomeLike 89 = .ok (.aload_n 0, 1) := zDec_at zB_dX5_becomeLike_86 1 rfl
theorem dX5_becomeLike_90 : decode cX5_becomeLike 90 = .ok (.getfield 33, 3) := zDec_at zB_dX5_becomeLike_86 2 rfl
theorem dX5_becomeLike_93 : decode cX5_becomeLike 93 = .ok (.invokestatic 79, 3) := zDec_at zB_dX5_becomeLike_86 3 rfl
theorem dX5_becomeLike_96 : decode cX5_becomeLike 96 = .ok (.aload_n 1, 1) := zDec_at zB_dX5_becomeLike_86 4 rfl
theorem dX5_becomeLike_97 : decode cX5_becomeLike 97 = .ok (.getfield 36, 3) := zDec_at zB_dX5_becomeLike_86 5 rfl
theorem dX5_becomeLike_100 : decode cX5_becomeLike 100 = .ok (.aload_n 0, 1) := zDec_at zB_dX5_becomeLike_86 6 rfl
theorem dX5_becomeLike_101 : decode cX5_becomeLike 101 = .ok (.getfield 36, 3) := zDec_at zB_dX5_becomeLike_86 7 rfl
theorem dX5_becomeLike_104 : decode cX5_becomeLike 104 = .ok (.invokestatic 79, 3) := zDec_at zB_dX5_becomeLike_86 8 rfl
theorem dX5_becomeLike_107 : decode cX5_becomeLike 107 = .ok (.aload_n 1, 1) := zDec_at zB_dX5_becomeLike_86 9 rfl
theorem dX5_becomeLike_108 : decode cX5_becomeLike 108 = .ok (.getfield 39, 3) := zDec_at zB_dX5_becomeLike_86 10 rfl
theorem dX5_becomeLike_111 : decode cX5_becomeLike 111 = .ok (.aload_n 0, 1) := zDec_at zB_dX5_becomeLike_86 11 rfl
theorem dX5_becomeLike_112 : decode cX5_becomeLike 112 = .ok (.getfield 39, 3) := zDec_at zB_dX5_becomeLike_86 12 rfl
theorem dX5_becomeLike_115 : decode cX5_becomeLike 115 = .ok (.invokestatic 79, 3) := zDec_at zB_dX5_becomeLike_86 13 rfl
theorem dX5_becomeLike_118 : decode cX5_becomeLike 118 = .ok (.aload_n 1, 1) := zDec_at zB_dX5_becomeLike_86 14 rfl
theorem dX5_becomeLike_119 : decode cX5_becomeLike 119 = .ok (.getfield 42, 3) := zDec_at zB_dX5_becomeLike_86 15 rfl
theorem dX5_becomeLike_122 : decode cX5_becomeLike 122 = .ok (.aload_n 0, 1) := zDec_at zB_dX5_becomeLike_86 16 rfl
theorem dX5_becomeLike_123 : decode cX5_becomeLike 123 = .ok (.getfield 42, 3) := zDec_at zB_dX5_becomeLike_86 17 rfl
theorem dX5_becomeLike_126 : decode cX5_becomeLike 126 = .ok (.invokestatic 79, 3) := zDec_at zB_dX5_becomeLike_86 18 rfl
theorem dX5_becomeLike_129 : decode cX5_becomeLike 129 = .ok (.aload_n 1, 1) := zDec_at zB_dX5_becomeLike_86 19 rfl
theorem dX5_becomeLike_130 : decode cX5_becomeLike 130 = .ok (.getfield 45, 3) := zDec_at zB_dX5_becomeLike_86 20 rfl
theorem dX5_becomeLike_133 : decode cX5_becomeLike 133 = .ok (.aload_n 0, 1) := zDec_at zB_dX5_becomeLike_86 21 rfl
theorem dX5_becomeLike_134 : decode cX5_becomeLike 134 = .ok (.getfield 45, 3) := zDec_at zB_dX5_becomeLike_86 22 rfl
theorem dX5_becomeLike_137 : decode cX5_becomeLike 137 = .ok (.invokestatic 79, 3) := zDec_at zB_dX5_becomeLike_86 23 rfl
theorem dX5_becomeLike_140 : decode cX5_becomeLike 140 = .ok (.return_, 1) := zDec_at zB_dX5_becomeLike_86 24 rfl
theorem zB_dX5_countsAsKnown_0 : zDecB cX5_countsAsKnown [(0, .aload_n 0, 1), (1, .getfield 27, 3), (4, .iload_n 1, 1), (5, .iaload, 1), (6, .iload_n 2, 1), (7, .if_icmp .le 5, 3), (10, .iconst 0, 1), (11, .ireturn, 1), (12, .aload_n 0, 1), (13, .getfield 36, 3), (16, .iload_n 1, 1), (17, .iaload, 1), (18, .istore_n 3, 1), (19, .iconst 0, 1), (20, .istore 4, 2), (22, .iload 4, 2), (24, .aload_n 0, 1), (25, .getfield 54, 3), (28, .if_icmp .ge 33, 3), (31, .iload_n 3, 1), (32, .iconst (-1), 1), (33, .if_icmp .eq 28, 3), (36, .aload_n 0, 1), (37, .getfield 27, 3), (40, .iload_n 3, 1), (41, .iaload, 1), (42, .iload_n 2, 1), (43, .if_icmp .gt 5, 3), (46, .iconst 0, 1), (47, .ireturn, 1), (48, .aload_n 0, 1), (49, .getfield 36, 3), (52, .iload_n 3, 1), (53, .iaload, 1), (54, .istore_n 3, 1), (55, .iinc 4 1, 3), (58, .goto (-36), 3), (61, .iconst 1, 1), (62, .ireturn, 1)] = true := by decide +kernel
theorem dX5_countsAsKnown_0 : decode cX5_countsAsKnown 0 = .ok (.aload_n 0, 1) := zDec_at zB_dX5_countsAsKnown_0 0 rfl
theorem dX5_countsAsKnown_1 : decode cX5_countsAsKnown 1 = .ok (.getfield 27, 3) := zDec_at zB_dX5_countsAsKnown_0 1 rfl
theorem dX5_countsAsKnown_4 : decode cX5_countsAsKnown 4 = .ok (.iload_n 1, 1) := zDec_at zB_dX5_countsAsKnown_0 2 rfl
theorem dX5_countsAsKnown_5 : decode cX5_countsAsKnown 5 = .ok (.iaload, 1) := zDec_at zB_dX5_countsAsKnown_0 3 rfl
theorem dX5_countsAsKnown_6 : decode cX5_countsAsKnown 6 = .ok (.iload_n 2, 1) := zDec_at zB_dX5_countsAsKnown_0 4 rfl
theorem dX5_countsAsKnown_7 : decode cX5_countsAsKnown 7 = .ok (.if_icmp .le 5, 3) := zDec_at zB_dX5_countsAsKnown_0 5 rfl
theorem dX5_countsAsKnown_10 : decode cX5_countsAsKnown 10 = .ok (.iconst 0, 1) := zDec_at zB_dX5_countsAsKnown_0 6 rfl
theorem dX5_countsAsKnown_11 : decode cX5_countsAsKnown 11 = .ok (.ireturn, 1) := zDec_at zB_dX5_countsAsKnown_0 7 rfl
theorem dX5_countsAsKnown_12 : decode cX5_countsAsKnown 12 = .ok (.aload_n 0, 1) := zDec_at zB_dX5_countsAsKnown_0 8 rfl
theorem dX5_countsAsKnown_13 : decode cX5_countsAsKnown 13 = .ok (.getfield 36, 3) := zDec_at zB_dX5_countsAsKnown_0 9 rfl
theorem dX5_countsAsKnown_16 : decode cX5_countsAsKnown 16 = .ok (.iload_n 1, 1) := zDec_at zB_dX5_countsAsKnown_0 10 rfl
theorem dX5_countsAsKnown_17 : decode cX5_countsAsKnown 17 = .ok (.iaload, 1) := zDec_at zB_dX5_countsAsKnown_0 11 rfl
theorem dX5_countsAsKnown_18 : decode cX5_countsAsKnown 18 = .ok (.istore_n 3, 1) := zDec_at zB_dX5_countsAsKnown_0 12 rfl
theorem dX5_countsAsKnown_19 : decode cX5_countsAsKnown 19 = .ok (.iconst 0, 1) := zDec_at zB_dX5_countsAsKnown_0 13 rfl
theorem dX5_countsAsKnown_20 : decode cX5_countsAsKnown 20 = .ok (.istore 4, 2) := zDec_at zB_dX5_countsAsKnown_0 14 rfl
theorem dX5_countsAsKnown_22 : decode cX5_countsAsKnown 22 = .ok (.iload 4, 2) := zDec_at zB_dX5_countsAsKnown_0 15 rfl
theorem dX5_countsAsKnown_24 : decode cX5_countsAsKnown 24 = .ok (.aload_n 0, 1) := zDec_at zB_dX5_countsAsKnown_0 16 rfl
theorem dX5_countsAsKnown_25 : decode cX5_countsAsKnown 25 = .ok (.getfield 54, 3) := zDec_at zB_dX5_countsAsKnown_0 17 rfl
theorem dX5_countsAsKnown_28 : decode cX5_countsAsKnown 28 = .ok (.if_icmp .ge 33, 3) := zDec_at zB_dX5_countsAsKnown_0 18 rfl
theorem dX5_countsAsKnown_31 : decode cX5_countsAsKnown 31 = .ok (.iload_n 3, 1) := zDec_at zB_dX5_countsAsKnown_0 19 rfl
theorem dX5_countsAsKnown_32 : decode cX5_countsAsKnown 32 = .ok (.iconst (-1), 1) := zDec_at zB_dX5_countsAsKnown_0 20 rfl
theorem dX5_countsAsKnown_33 : decode cX5_countsAsKnown 33 = .ok (.if_icmp .eq 28, 3) := zDec_at zB_dX5_countsAsKnown_0 21 rfl
theorem dX5_countsAsKnown_36 : decode cX5_countsAsKnown 36 = .ok (.aload_n 0, 1) := zDec_at zB_dX5_countsAsKnown_0 22 rfl
theorem dX5_countsAsKnown_37 : decode cX5_countsAsKnown 37 = .ok (.getfield 27, 3) := zDec_at zB_dX5_countsAsKnown_0 23 rfl
theorem dX5_countsAsKnown_40 : decode cX5_countsAsKnown 40 = .ok (.iload_n 3, 1) := zDec_at zB_dX5_countsAsKnown_0 24 rfl
theorem dX5_countsAsKnown_41 : decode cX5_countsAsKnown 41 = .ok (.iaload, 1) := zDec_at zB_dX5_countsAsKnown_0 25 rfl
theorem dX5_countsAsKnown_42 : decode cX5_countsAsKnown 42 = .ok (.iload_n 2, 1) := zDec_at zB_dX5_countsAsKnown_0 26 rfl
theorem dX5_countsAsKnown_43 : decode cX5_countsAsKnown 43 = .ok (.if_icmp .gt 5, 3) := zDec_at zB_dX5_countsAsKnown_0 27 rfl
theorem dX5_countsAsKnown_46 : decode cX5_countsAsKnown 46 = .ok (.iconst 0, 1) := zDec_at zB_dX5_countsAsKnown_0 28 rfl
theorem dX5_countsAsKnown_47 : decode cX5_countsAsKnown 47 = .ok (.ireturn, 1) := zDec_at zB_dX5_countsAsKnown_0 29 rfl
theorem dX5_countsAsKnown_48 : decode cX5_countsAsKnown 48 = .ok (.aload_n 0, 1) := zDec_at zB_dX5_countsAsKnown_0 30 rfl
theorem dX5_countsAsKnown_49 : decode cX5_countsAsKnown 49 = .ok (.getfield 36, 3) := zDec_at zB_dX5_countsAsKnown_0 31 rfl
theorem dX5_countsAsKnown_52 : decode cX5_countsAsKnown 52 = .ok (.iload_n 3, 1) := zDec_at zB_dX5_countsAsKnown_0 32 rfl
theorem dX5_countsAsKnown_53 : decode cX5_countsAsKnown 53 = .ok (.iaload, 1) := zDec_at zB_dX5_countsAsKnown_0 33 rfl
theorem dX5_countsAsKnown_54 : decode cX5_countsAsKnown 54 = .ok (.istore_n 3, 1) := zDec_at zB_dX5_countsAsKnown_0 34 rfl
theorem dX5_countsAsKnown_55 : decode cX5_countsAsKnown 55 = .ok (.iinc 4 1, 3) := zDec_at zB_dX5_countsAsKnown_0 35 rfl
theorem dX5_countsAsKnown_58 : decode cX5_countsAsKnown 58 = .ok (.goto (-36), 3) := zDec_at zB_dX5_countsAsKnown_0 36 rfl
theorem dX5_countsAsKnown_61 : decode cX5_countsAsKnown 61 = .ok (.iconst 1, 1) := zDec_at zB_dX5_countsAsKnown_0 37 rfl
theorem dX5_countsAsKnown_62 : decode cX5_countsAsKnown 62 = .ok (.ireturn, 1) := zDec_at zB_dX5_countsAsKnown_0 38 rfl
theorem zB_dX5_findAltered_0 : zDecB cX5_findAltered [(0, .aload_n 0, 1), (1, .getfield 39, 3), (4, .iload_n 1, 1), (5, .iaload, 1), (6, .iconst (-1), 1), (7, .if_icmp .ne 6, 3), (10, .bipush (-3), 2), (12, .ireturn, 1), (13, .aload_n 0, 1), (14, .iload_n 1, 1), (15, .invokevirtual 66, 3), (18, .istore_n 2, 1), (19, .aload_n 0, 1), (20, .getfield 69, 3), (23, .aload_n 0, 1), (24, .getfield 42, 3), (27, .iload_n 1, 1), (28, .iaload, 1), (29, .isub, 1), (30, .istore_n 3, 1), (31, .aload_n 0, 1), (32, .getfield 72, 3), (35, .aload_n 0, 1), (36, .getfield 45, 3), (39, .iload_n 1, 1), (40, .iaload, 1), (41, .isub, 1), (42, .istore 4, 2), (44, .iload_n 3, 1), (45, .ifCond .ne 10, 3), (48, .iload 4, 2), (50, .ifCond .ne 5, 3), (53, .iconst (-1), 1), (54, .ireturn, 1), (55, .iload_n 2, 1), (56, .aload_n 0, 1), (57, .getfield 39, 3), (60, .iload_n 1, 1), (61, .iaload, 1), (62, .if_icmp .gt 14, 3)] = true := by decide +kernel
theorem dX5_findAltered_0 : decode cX5_findAltered 0 = .ok (.aload_n 0, 1) := zDec_at zB_dX5_findAltered_0 0 rfl
theorem dX5_findAltered_1 : decode cX5_findAltered 1 = .ok (.getfield 39, 3) := zDec_at zB_dX5_findAltered_0 1 rfl
theorem dX5_findAltered_4 : decode cX5_findAltered 4 = .ok (.iload_n 1, 1) := zDec_at zB_dX5_findAltered_0 2 rfl
theorem dX5_findAltered_5 : decode cX5_findAltered 5 = .ok (.iaload, 1) := zDec_at zB_dX5_findAltered_0 3 rfl
theorem dX5_findAltered_6 : decode cX5_findAltered 6 = .ok (.iconst (-1), 1) := zDec_at zB_dX5_findAltered_0 4 rfl
theorem dX5_findAltered_7 : decode cX5_findAltered 7 = .ok (.if_icmp .ne 6, 3) := zDec_at zB_dX5_findAltered_0 5 rfl
theorem dX5_findAltered_10 : decode cX5_findAltered 10 = .ok (.bipush (-3), 2) := zDec_at zB_dX5_findAltered_0 6 rfl
theorem dX5_findAltered_12 : decode cX5_findAltered 12 = .ok (.ireturn, 1) := zDec_at zB_dX5_findAltered_0 7 rfl
theorem dX5_findAltered_13 : decode cX5_findAltered 13 = .ok (.aload_n 0, 1) := zDec_at zB_dX5_findAltered_0 8 rfl
theorem dX5_findAltered_14 : decode cX5_findAltered 14 = .ok (.iload_n 1, 1) := zDec_at zB_dX5_findAltered_0 9 rfl
theorem dX5_findAltered_15 : decode cX5_findAltered 15 = .ok (.invokevirtual 66, 3) := zDec_at zB_dX5_findAltered_0 10 rfl
theorem dX5_findAltered_18 : decode cX5_findAltered 18 = .ok (.istore_n 2, 1) := zDec_at zB_dX5_findAltered_0 11 rfl
theorem dX5_findAltered_19 : decode cX5_findAltered 19 = .ok (.aload_n 0, 1) := zDec_at zB_dX5_findAltered_0 12 rfl
theorem dX5_findAltered_20 : decode cX5_findAltered 20 = .ok (.getfield 69, 3) := zDec_at zB_dX5_findAltered_0 13 rfl
theorem dX5_findAltered_23 : decode cX5_findAltered 23 = .ok (.aload_n 0, 1) := zDec_at zB_dX5_findAltered_0 14 rfl
theorem dX5_findAltered_24 : decode cX5_findAltered 24 = .ok (.getfield 42, 3) := zDec_at zB_dX5_findAltered_0 15 rfl
theorem dX5_findAltered_27 : decode cX5_findAltered 27 = .ok (.iload_n 1, 1) := zDec_at zB_dX5_findAltered_0 16 rfl
theorem dX5_findAltered_28 : decode cX5_findAltered 28 = .ok (.iaload, 1) := zDec_at zB_dX5_findAltered_0 17 rfl
theorem dX5_findAltered_29 : decode cX5_findAltered 29 = .ok (.isub, 1) := zDec_at zB_dX5_findAltered_0 18 rfl
theorem dX5_findAltered_30 : decode cX5_findAltered 30 = .ok (.istore_n 3, 1) := zDec_at zB_dX5_findAltered_0 19 rfl
theorem dX5_findAltered_31 : decode cX5_findAltered 31 = .ok (.aload_n 0, 1) := zDec_at zB_dX5_findAltered_0 20 rfl
theorem dX5_findAltered_32 : decode cX5_findAltered 32 = .ok (.getfield 72, 3) := zDec_at zB_dX5_findAltered_0 21 rfl
theorem dX5_findAltered_35 : decode cX5_findAltered 35 = .ok (.aload_n 0, 1) := zDec_at zB_dX5_findAltered_0 22 rfl
theorem dX5_findAltered_36 : decode cX5_findAltered 36 = .ok (.getfield 45, 3) := zDec_at zB_dX5_findAltered_0 23 rfl
theorem dX5_findAltered_39 : decode cX5_findAltered 39 = .ok (.iload_n 1, 1) := zDec_at zB_dX5_findAltered_0 24 rfl
theorem dX5_findAltered_40 : decode cX5_findAltered 40 = .ok (.iaload, 1) := zDec_at zB_dX5_findAltered_0 25 rfl
theorem dX5_findAltered_41 : decode cX5_findAltered 41 = .ok (.isub, 1) := zDec_at zB_dX5_findAltered_0 26 rfl
theorem dX5_findAltered_42 : decode cX5_findAltered 42 = .ok (.istore 4, 2) := zDec_at zB_dX5_findAltered_0 27 rfl
theorem dX5_findAltered_44 : decode cX5_findAltered 44 = .ok (.iload_n 3, 1) := zDec_at zB_dX5_findAltered_0 28 rfl
theorem dX5_findAltered_45 : decode cX5_findAltered 45 = .ok (.ifCond .ne 10, 3) := zDec_at zB_dX5_findAltered_0 29 rfl
theorem dX5_findAltered_48 : decode cX5_findAltered 48 = .ok (.iload 4, 2) := zDec_at zB_dX5_findAltered_0 30 rfl
theorem dX5_findAltered_50 : decode cX5_findAltered 50 = .ok (.ifCond .ne 5, 3) := zDec_at zB_dX5_findAltered_0 31 rfl
theorem dX5_findAltered_53 : decode cX5_findAltered 53 = .ok (.iconst (-1), 1) := zDec_at zB_dX5_findAltered_0 32 rfl
theorem dX5_findAltered_54 : decode cX5_findAltered 54 = .ok (.ireturn, 1) := zDec_at zB_dX5_findAltered_0 33 rfl
theorem dX5_findAltered_55 : decode cX5_findAltered 55 = .ok (.iload_n 2, 1) := zDec_at zB_dX5_findAltered_0 34 rfl
theorem dX5_findAltered_56 : decode cX5_findAltered 56 = .ok (.aload_n 0, 1) := zDec_at zB_dX5_findAltered_0 35 rfl
theorem dX5_findAltered_57 : decode cX5_findAltered 57 = .ok (.getfield 39, 3) := zDec_at zB_dX5_findAltered_0 36 rfl
theorem dX5_findAltered_60 : decode cX5_findAltered 60 = .ok (.iload_n 1, 1) := zDec_at zB_dX5_findAltered_0 37 rfl
theorem dX5_findAltered_61 : decode cX5_findAltered 61 = .ok (.iaload, 1) := zDec_at zB_dX5_findAltered_0 38 rfl
theorem dX5_findAltered_62 : decode cX5_findAltered 62 = .ok (.if_icmp .gt 14, 3) := zDec_at zB_dX5_findAltered_0 39 rfl
theorem zB_dX5_findAltered_65 : zDecB cX5_findAltered [(65, .iload_n 3, 1), (66, .ifCond .eq 10, 3), (69, .iload 4, 2), (71, .iload_n 3, 1), (72, .irem, 1), (73, .ifCond .eq 6, 3), (76, .bipush (-2), 2), (78, .ireturn, 1), (79, .aload_n 0, 1), (80, .iload_n 1, 1), (81, .iload 4, 2), (83, .iload_n 3, 1), (84, .idiv, 1), (85, .invokevirtual 75, 3), (88, .ireturn, 1)] = true := by decide +kernel
theorem dX5_findAltered_65 : decode cX5_findAltered 65 = .ok (.iload_n 3, 1) := zDec_at zB_dX5_findAltered_65 0 rfl
theorem dX5_findAltered_66 : decode cX5_findAltered 66 = .ok (.ifCond .eq 10, 3) := zDec_at zB_dX5_findAltered_65 1 rfl
theorem dX5_findAltered_69 : decode cX5_findAltered 69 = .ok (.iload 4, 2) := zDec_at zB_dX5_findAltered_65 2 rfl
theorem dX5_findAltered_71 : decode cX5_findAltered 71 = .ok (.iload_n 3, 1) := zDec_at zB_dX5_findAltered_65 3 rfl
theorem dX5_findAltered_72 : decode cX5_findAltered 72 = .ok (.irem, 1) := zDec_at zB_dX5_findAltered_65 4 rfl
theorem dX5_findAltered_73 : decode cX5_findAltered 73 = .ok (.ifCond .eq 6, 3) := zDec_at zB_dX5_findAltered_65 5 rfl
theorem dX5_findAltered_76 : decode cX5_findAltered 76 = .ok (.bipush (-2), 2) := zDec_at zB_dX5_findAltered_65 6 rfl
theorem dX5_findAltered_78 : decode cX5_findAltered 78 = .ok (.ireturn, 1) := zDec_at zB_dX5_findAltered_65 7 rfl
theorem dX5_findAltered_79 : decode cX5_findAltered 79 = .ok (.aload_n 0, 1) := zDec_at zB_dX5_findAltered_65 8 rfl
theorem dX5_findAltered_80 : decode cX5_findAltered 80 = .ok (.iload_n 1, 1) := zDec_at zB_dX5_findAltered_65 9 rfl
theorem dX5_findAltered_81 : decode cX5_findAltered 81 = .ok (.iload 4, 2) := zDec_at zB_dX5_findAltered_65 10 rfl
theorem dX5_findAltered_83 : decode cX5_findAltered 83 = .ok (.iload_n 3, 1) := zDec_at zB_dX5_findAltered_65 11 rfl
theorem dX5_findAltered_84 : decode cX5_findAltered 84 = .ok (.idiv, 1) := zDec_at zB_dX5_findAltered_65 12 rfl
theorem dX5_findAltered_85 : decode cX5_findAltered 85 = .ok (.invokevirtual 75, 3) := zDec_at zB_dX5_findAltered_65 13 rfl
theorem dX5_findAltered_88 : decode cX5_findAltered 88 = .ok (.ireturn, 1) := zDec_at zB_dX5_findAltered_65 14 rfl
theorem zB_dX5_init_0 : zDecB cX5_init [(0, .aload_n 0, 1), (1, .invokespecial 3, 3), (4, .aload_n 0, 1), (5, .sipush 400, 3), (8, .newarray .int, 2), (10, .putfield 9, 3), (13, .aload_n 0, 1), (14, .sipush 400, 3), (17, .newarray .int, 2), (19, .putfield 15, 3), (22, .aload_n 0, 1), (23, .sipush 400, 3), (26, .newarray .int, 2), (28, .putfield 18, 3), (31, .aload_n 0, 1), (32, .sipush 400, 3), (35, .newarray .int, 2), (37, .putfield 21, 3), (40, .aload_n 0, 1), (41, .sipush 400, 3), (44, .newarray .int, 2), (46, .putfield 24, 3), (49, .aload_n 0, 1), (50, .sipush 400, 3), (53, .newarray .int, 2), (55, .putfield 27, 3), (58, .aload_n 0, 1), (59, .sipush 400, 3), (62, .newarray .int, 2), (64, .putfield 30, 3), (67, .aload_n 0, 1), (68, .sipush 400, 3), (71, .newarray .int, 2), (73, .putfield 33, 3), (76, .aload_n 0, 1), (77, .sipush 400, 3), (80, .newarray .int, 2), (82, .putfield 36, 3), (85, .aload_n 0, 1), (86, .sipush 400, 3)] = true := by decide +kernel
theorem dX5_init_0 : decode cX5_init 0 = .ok (.aload_n 0, 1) := zDec_at zB_dX5_init_0 0 rfl
theorem dX5_init_1 : decode cX5_init 1 = .ok (.invokespecial 3, 3) := zDec_at zB_dX5_init_0 1 rfl
theorem dX5_init_4 : decode cX5_init 4 = .ok (.aload_n 0, 1) := zDec_at zB_dX5_init_0 2 rfl
theorem dX5_init_5 : decode cX5_init 5 = .ok (.sipush 400, 3) := zDec_at zB_dX5_init_0 3 rfl
theorem dX5_init_8 : decode cX5_init 8 = .ok (.newarray .int, 2) := zDec_at zB_dX5_init_0 4 rfl
theorem dX5_init_10 : decode cX5_init 10 = .ok (.putfield 9, 3) := zDec_at zB_dX5_init_0 5 rfl
theorem dX5_init_13 : decode cX5_init 13 = .ok (.aload_n 0, 1) := zDec_at zB_dX5_init_0 6 rfl
theorem dX5_init_14 : decode cX5_init 14 = .ok (.sipush 400, 3) := zDec_at zB_dX5_init_0 7 rfl
theorem dX5_init_17 : decode cX5_init 17 = .ok (.newarray .int, 2) := zDec_at zB_dX5_init_0 8 rfl
theorem dX5_init_19 : decode cX5_init 19 = .ok (.putfield 15, 3) := zDec_at zB_dX5_init_0 9 rfl
theorem dX5_init_22 : decode cX5_init 22 = .ok (.aload_n 0, 1) := zDec_at zB_dX5_init_0 10 rfl
theorem dX5_init_23 : decode cX5_init 23 = .ok (.sipush 400, 3) := zDec_at zB_dX5_init_0 11 rfl
theorem dX5_init_26 : decode cX5_init 26 = .ok (.newarray .int, 2) := zDec_at zB_dX5_init_0 12 rfl
theorem dX5_init_28 : decode cX5_init 28 = .ok (.putfield 18, 3) := zDec_at zB_dX5_init_0 13 rfl
theorem dX5_init_31 : decode cX5_init 31 = .ok (.aload_n 0, 1) := zDec_at zB_dX5_init_0 14 rfl
theorem dX5_init_32 : decode cX5_init 32 = .ok (.sipush 400, 3) := zDec_at zB_dX5_init_0 15 rfl
theorem dX5_init_35 : decode cX5_init 35 = .ok (.newarray .int, 2) := zDec_at zB_dX5_init_0 16 rfl
theorem dX5_init_37 : decode cX5_init 37 = .ok (.putfield 21, 3) := zDec_at zB_dX5_init_0 17 rfl
theorem dX5_init_40 : decode cX5_init 40 = .ok (.aload_n 0, 1) := zDec_at zB_dX5_init_0 18 rfl
theorem dX5_init_41 : decode cX5_init 41 = .ok (.sipush 400, 3) := zDec_at zB_dX5_init_0 19 rfl
theorem dX5_init_44 : decode cX5_init 44 = .ok (.newarray .int, 2) := zDec_at zB_dX5_init_0 20 rfl
theorem dX5_init_46 : decode cX5_init 46 = .ok (.putfield 24, 3) := zDec_at zB_dX5_init_0 21 rfl
theorem dX5_init_49 : decode cX5_init 49 = .ok (.aload_n 0, 1) := zDec_at zB_dX5_init_0 22 rfl
theorem dX5_init_50 : decode cX5_init 50 = .ok (.sipush 400, 3) := zDec_at zB_dX5_init_0 23 rfl
theorem dX5_init_53 : decode cX5_init 53 = .ok (.newarray .int, 2) := zDec_at zB_dX5_init_0 24 rfl
theorem dX5_init_55 : decode cX5_init 55 = .ok (.putfield 27, 3) := zDec_at zB_dX5_init_0 25 rfl
theorem dX5_init_58 : decode cX5_init 58 = .ok (.aload_n 0, 1) := zDec_at zB_dX5_init_0 26 rfl
theorem dX5_init_59 : decode cX5_init 59 = .ok (.sipush 400, 3) := zDec_at zB_dX5_init_0 27 rfl
theorem dX5_init_62 : decode cX5_init 62 = .ok (.newarray .int, 2) := zDec_at zB_dX5_init_0 28 rfl
theorem dX5_init_64 : decode cX5_init 64 = .ok (.putfield 30, 3) := zDec_at zB_dX5_init_0 29 rfl
theorem dX5_init_67 : decode cX5_init 67 = .ok (.aload_n 0, 1) := zDec_at zB_dX5_init_0 30 rfl
theorem dX5_init_68 : decode cX5_init 68 = .ok (.sipush 400, 3) := zDec_at zB_dX5_init_0 31 rfl
theorem dX5_init_71 : decode cX5_init 71 = .ok (.newarray .int, 2) := zDec_at zB_dX5_init_0 32 rfl
theorem dX5_init_73 : decode cX5_init 73 = .ok (.putfield 33, 3) := zDec_at zB_dX5_init_0 33 rfl
theorem dX5_init_76 : decode cX5_init 76 = .ok (.aload_n 0, 1) := zDec_at zB_dX5_init_0 34 rfl
theorem dX5_init_77 : decode cX5_init 77 = .ok (.sipush 400, 3) := zDec_at zB_dX5_init_0 35 rfl
theorem dX5_init_80 : decode cX5_init 80 = .ok (.newarray .int, 2) := zDec_at zB_dX5_init_0 36 rfl
theorem dX5_init_82 : decode cX5_init 82 = .ok (.putfield 36, 3) := zDec_at zB_dX5_init_0 37 rfl
theorem dX5_init_85 : decode cX5_init 85 = .ok (.aload_n 0, 1) := zDec_at zB_dX5_init_0 38 rfl
theorem dX5_init_86 : decode cX5_init 86 = .ok (.sipush 400, 3) := zDec_at zB_dX5_init_0 39 rfl
theorem zB_dX5_init_89 : zDecB cX5_init [(89, .newarray .int, 2), (91, .putfield 39, 3), (94, .aload_n 0, 1), (95, .sipush 400, 3), (98, .newarray .int, 2), (100, .putfield 42, 3), (103, .aload_n 0, 1), (104, .sipush 400, 3), (107, .newarray .int, 2), (109, .putfield 45, 3), (112, .aload_n 0, 1), (113, .getfield 39, 3), (116, .iconst (-1), 1), (117, .invokestatic 48, 3), (120, .return_, 1)] = true := by decide +kernel
theorem dX5_init_89 : decode cX5_init 89 = .ok (.newarray .int, 2) := zDec_at zB_dX5_init_89 0 rfl
theorem dX5_init_91 : decode cX5_init 91 = .ok (.putfield 39, 3) := zDec_at zB_dX5_init_89 1 rfl
theorem dX5_init_94 : decode cX5_init 94 = .ok (.aload_n 0, 1) := zDec_at zB_dX5_init_89 2 rfl
theorem dX5_init_95 : decode cX5_init 95 = .ok (.sipush 400, 3) := zDec_at zB_dX5_init_89 3 rfl
theorem dX5_init_98 : decode cX5_init 98 = .ok (.newarray .int, 2) := zDec_at zB_dX5_init_89 4 rfl
theorem dX5_init_100 : decode cX5_init 100 = .ok (.putfield 42, 3) := zDec_at zB_dX5_init_89 5 rfl
theorem dX5_init_103 : decode cX5_init 103 = .ok (.aload_n 0, 1) := zDec_at zB_dX5_init_89 6 rfl
theorem dX5_init_104 : decode cX5_init 104 = .ok (.sipush 400, 3) := zDec_at zB_dX5_init_89 7 rfl
theorem dX5_init_107 : decode cX5_init 107 = .ok (.newarray .int, 2) := zDec_at zB_dX5_init_89 8 rfl
theorem dX5_init_109 : decode cX5_init 109 = .ok (.putfield 45, 3) := zDec_at zB_dX5_init_89 9 rfl
theorem dX5_init_112 : decode cX5_init 112 = .ok (.aload_n 0, 1) := zDec_at zB_dX5_init_89 10 rfl
theorem dX5_init_113 : decode cX5_init 113 = .ok (.getfield 39, 3) := zDec_at zB_dX5_init_89 11 rfl
theorem dX5_init_116 : decode cX5_init 116 = .ok (.iconst (-1), 1) := zDec_at zB_dX5_init_89 12 rfl
theorem dX5_init_117 : decode cX5_init 117 = .ok (.invokestatic 48, 3) := zDec_at zB_dX5_init_89 13 rfl
theorem dX5_init_120 : decode cX5_init 120 = .ok (.return_, 1) := zDec_at zB_dX5_init_89 14 rfl
theorem zB_dX5_isNoMark_0 : zDecB cX5_isNoMark [(0, .iload_n 1, 1), (1, .ifCond .lt 11, 3), (4, .iload_n 1, 1), (5, .aload_n 0, 1), (6, .getfield 54, 3), (9, .if_icmp .lt 7, 3), (12, .iconst 1, 1), (13, .goto 4, 3), (16, .iconst 0, 1), (17, .ireturn, 1)] = true := by decide +kernel
theorem dX5_isNoMark_0 : decode cX5_isNoMark 0 = .ok (.iload_n 1, 1) := zDec_at zB_dX5_isNoMark_0 0 rfl
theorem dX5_isNoMark_1 : decode cX5_isNoMark 1 = .ok (.ifCond .lt 11, 3) := zDec_at zB_dX5_isNoMark_0 1 rfl
theorem dX5_isNoMark_4 : decode cX5_isNoMark 4 = .ok (.iload_n 1, 1) := zDec_at zB_dX5_isNoMark_0 2 rfl
theorem dX5_isNoMark_5 : decode cX5_isNoMark 5 = .ok (.aload_n 0, 1) := zDec_at zB_dX5_isNoMark_0 3 rfl
theorem dX5_isNoMark_6 : decode cX5_isNoMark 6 = .ok (.getfield 54, 3) := zDec_at zB_dX5_isNoMark_0 4 rfl
theorem dX5_isNoMark_9 : decode cX5_isNoMark 9 = .ok (.if_icmp .lt 7, 3) := zDec_at zB_dX5_isNoMark_0 5 rfl
theorem dX5_isNoMark_12 : decode cX5_isNoMark 12 = .ok (.iconst 1, 1) := zDec_at zB_dX5_isNoMark_0 6 rfl
theorem dX5_isNoMark_13 : decode cX5_isNoMark 13 = .ok (.goto 4, 3) := zDec_at zB_dX5_isNoMark_0 7 rfl
theorem dX5_isNoMark_16 : decode cX5_isNoMark 16 = .ok (.iconst 0, 1) := zDec_at zB_dX5_isNoMark_0 8 rfl
theorem dX5_isNoMark_17 : decode cX5_isNoMark 17 = .ok (.ireturn, 1) := zDec_at zB_dX5_isNoMark_0 9 rfl
theorem zB_dX5_latestKnown_0 : zDecB cX5_latestKnown [(0, .aload_n 0, 1), (1, .getfield 54, 3), (4, .iconst 1, 1), (5, .isub, 1), (6, .istore 5, 2), (8, .iload 5, 2), (10, .ifCond .lt 57, 3), (13, .aload_n 0, 1), (14, .getfield 18, 3), (17, .iload 5, 2), (19, .iaload, 1), (20, .iload_n 3, 1), (21, .if_icmp .ne 40, 3), (24, .aload_n 0, 1), (25, .getfield 15, 3), (28, .iload 5, 2), (30, .iaload, 1), (31, .iload_n 2, 1), (32, .if_icmp .ne 29, 3), (35, .aload_n 0, 1), (36, .getfield 9, 3), (39, .iload 5, 2), (41, .iaload, 1), (42, .iload_n 1, 1), (43, .if_icmp .ne 18, 3), (46, .aload_n 0, 1), (47, .getfield 27, 3), (50, .iload 5, 2), (52, .iaload, 1), (53, .iload 4, 2), (55, .if_icmp .gt 6, 3), (58, .iload 5, 2), (60, .ireturn, 1), (61, .iinc 5 (-1), 3), (64, .goto (-56), 3), (67, .iconst (-1), 1), (68, .ireturn, 1)] = true := by decide +kernel
theorem dX5_latestKnown_0 : decode cX5_latestKnown 0 = .ok (.aload_n 0, 1) := zDec_at zB_dX5_latestKnown_0 0 rfl
theorem dX5_latestKnown_1 : decode cX5_latestKnown 1 = .ok (.getfield 54, 3) := zDec_at zB_dX5_latestKnown_0 1 rfl
theorem dX5_latestKnown_4 : decode cX5_latestKnown 4 = .ok (.iconst 1, 1) := zDec_at zB_dX5_latestKnown_0 2 rfl
theorem dX5_latestKnown_5 : decode cX5_latestKnown 5 = .ok (.isub, 1) := zDec_at zB_dX5_latestKnown_0 3 rfl
theorem dX5_latestKnown_6 : decode cX5_latestKnown 6 = .ok (.istore 5, 2) := zDec_at zB_dX5_latestKnown_0 4 rfl
theorem dX5_latestKnown_8 : decode cX5_latestKnown 8 = .ok (.iload 5, 2) := zDec_at zB_dX5_latestKnown_0 5 rfl
theorem dX5_latestKnown_10 : decode cX5_latestKnown 10 = .ok (.ifCond .lt 57, 3) := zDec_at zB_dX5_latestKnown_0 6 rfl
theorem dX5_latestKnown_13 : decode cX5_latestKnown 13 = .ok (.aload_n 0, 1) := zDec_at zB_dX5_latestKnown_0 7 rfl
theorem dX5_latestKnown_14 : decode cX5_latestKnown 14 = .ok (.getfield 18, 3) := zDec_at zB_dX5_latestKnown_0 8 rfl
theorem dX5_latestKnown_17 : decode cX5_latestKnown 17 = .ok (.iload 5, 2) := zDec_at zB_dX5_latestKnown_0 9 rfl
theorem dX5_latestKnown_19 : decode cX5_latestKnown 19 = .ok (.iaload, 1) := zDec_at zB_dX5_latestKnown_0 10 rfl
theorem dX5_latestKnown_20 : decode cX5_latestKnown 20 = .ok (.iload_n 3, 1) := zDec_at zB_dX5_latestKnown_0 11 rfl
theorem dX5_latestKnown_21 : decode cX5_latestKnown 21 = .ok (.if_icmp .ne 40, 3) := zDec_at zB_dX5_latestKnown_0 12 rfl
theorem dX5_latestKnown_24 : decode cX5_latestKnown 24 = .ok (.aload_n 0, 1) := zDec_at zB_dX5_latestKnown_0 13 rfl
theorem dX5_latestKnown_25 : decode cX5_latestKnown 25 = .ok (.getfield 15, 3) := zDec_at zB_dX5_latestKnown_0 14 rfl
theorem dX5_latestKnown_28 : decode cX5_latestKnown 28 = .ok (.iload 5, 2) := zDec_at zB_dX5_latestKnown_0 15 rfl
theorem dX5_latestKnown_30 : decode cX5_latestKnown 30 = .ok (.iaload, 1) := zDec_at zB_dX5_latestKnown_0 16 rfl
theorem dX5_latestKnown_31 : decode cX5_latestKnown 31 = .ok (.iload_n 2, 1) := zDec_at zB_dX5_latestKnown_0 17 rfl
theorem dX5_latestKnown_32 : decode cX5_latestKnown 32 = .ok (.if_icmp .ne 29, 3) := zDec_at zB_dX5_latestKnown_0 18 rfl
theorem dX5_latestKnown_35 : decode cX5_latestKnown 35 = .ok (.aload_n 0, 1) := zDec_at zB_dX5_latestKnown_0 19 rfl
theorem dX5_latestKnown_36 : decode cX5_latestKnown 36 = .ok (.getfield 9, 3) := zDec_at zB_dX5_latestKnown_0 20 rfl
theorem dX5_latestKnown_39 : decode cX5_latestKnown 39 = .ok (.iload 5, 2) := zDec_at zB_dX5_latestKnown_0 21 rfl
theorem dX5_latestKnown_41 : decode cX5_latestKnown 41 = .ok (.iaload, 1) := zDec_at zB_dX5_latestKnown_0 22 rfl
theorem dX5_latestKnown_42 : decode cX5_latestKnown 42 = .ok (.iload_n 1, 1) := zDec_at zB_dX5_latestKnown_0 23 rfl
theorem dX5_latestKnown_43 : decode cX5_latestKnown 43 = .ok (.if_icmp .ne 18, 3) := zDec_at zB_dX5_latestKnown_0 24 rfl
theorem dX5_latestKnown_46 : decode cX5_latestKnown 46 = .ok (.aload_n 0, 1) := zDec_at zB_dX5_latestKnown_0 25 rfl
theorem dX5_latestKnown_47 : decode cX5_latestKnown 47 = .ok (.getfield 27, 3) := zDec_at zB_dX5_latestKnown_0 26 rfl
theorem dX5_latestKnown_50 : decode cX5_latestKnown 50 = .ok (.iload 5, 2) := zDec_at zB_dX5_latestKnown_0 27 rfl
theorem dX5_latestKnown_52 : decode cX5_latestKnown 52 = .ok (.iaload, 1) := zDec_at zB_dX5_latestKnown_0 28 rfl
theorem dX5_latestKnown_53 : decode cX5_latestKnown 53 = .ok (.iload 4, 2) := zDec_at zB_dX5_latestKnown_0 29 rfl
theorem dX5_latestKnown_55 : decode cX5_latestKnown 55 = .ok (.if_icmp .gt 6, 3) := zDec_at zB_dX5_latestKnown_0 30 rfl
theorem dX5_latestKnown_58 : decode cX5_latestKnown 58 = .ok (.iload 5, 2) := zDec_at zB_dX5_latestKnown_0 31 rfl
theorem dX5_latestKnown_60 : decode cX5_latestKnown 60 = .ok (.ireturn, 1) := zDec_at zB_dX5_latestKnown_0 32 rfl
theorem dX5_latestKnown_61 : decode cX5_latestKnown 61 = .ok (.iinc 5 (-1), 3) := zDec_at zB_dX5_latestKnown_0 33 rfl
theorem dX5_latestKnown_64 : decode cX5_latestKnown 64 = .ok (.goto (-56), 3) := zDec_at zB_dX5_latestKnown_0 34 rfl
theorem dX5_latestKnown_67 : decode cX5_latestKnown 67 = .ok (.iconst (-1), 1) := zDec_at zB_dX5_latestKnown_0 35 rfl
theorem dX5_latestKnown_68 : decode cX5_latestKnown 68 = .ok (.ireturn, 1) := zDec_at zB_dX5_latestKnown_0 36 rfl
theorem zB_dX5_letterAsKnown_0 : zDecB cX5_letterAsKnown [(0, .aload_n 0, 1), (1, .getfield 33, 3), (4, .iload_n 1, 1), (5, .iaload, 1), (6, .iconst (-1), 1), (7, .if_icmp .eq 17, 3), (10, .aload_n 0, 1), (11, .getfield 33, 3), (14, .iload_n 1, 1), (15, .iaload, 1), (16, .iload_n 2, 1), (17, .if_icmp .gt 7, 3), (20, .iconst 1, 1), (21, .goto 4, 3), (24, .iconst 0, 1), (25, .istore_n 3, 1), (26, .iload_n 3, 1), (27, .ifCond .eq 12, 3), (30, .aload_n 0, 1), (31, .getfield 30, 3), (34, .iload_n 1, 1), (35, .iaload, 1), (36, .goto 9, 3), (39, .aload_n 0, 1), (40, .getfield 21, 3), (43, .iload_n 1, 1), (44, .iaload, 1), (45, .ireturn, 1)] = true := by decide +kernel
theorem dX5_letterAsKnown_0 : decode cX5_letterAsKnown 0 = .ok (.aload_n 0, 1) := zDec_at zB_dX5_letterAsKnown_0 0 rfl
theorem dX5_letterAsKnown_1 : decode cX5_letterAsKnown 1 = .ok (.getfield 33, 3) := zDec_at zB_dX5_letterAsKnown_0 1 rfl
theorem dX5_letterAsKnown_4 : decode cX5_letterAsKnown 4 = .ok (.iload_n 1, 1) := zDec_at zB_dX5_letterAsKnown_0 2 rfl
theorem dX5_letterAsKnown_5 : decode cX5_letterAsKnown 5 = .ok (.iaload, 1) := zDec_at zB_dX5_letterAsKnown_0 3 rfl
theorem dX5_letterAsKnown_6 : decode cX5_letterAsKnown 6 = .ok (.iconst (-1), 1) := zDec_at zB_dX5_letterAsKnown_0 4 rfl
theorem dX5_letterAsKnown_7 : decode cX5_letterAsKnown 7 = .ok (.if_icmp .eq 17, 3) := zDec_at zB_dX5_letterAsKnown_0 5 rfl
theorem dX5_letterAsKnown_10 : decode cX5_letterAsKnown 10 = .ok (.aload_n 0, 1) := zDec_at zB_dX5_letterAsKnown_0 6 rfl
theorem dX5_letterAsKnown_11 : decode cX5_letterAsKnown 11 = .ok (.getfield 33, 3) := zDec_at zB_dX5_letterAsKnown_0 7 rfl
theorem dX5_letterAsKnown_14 : decode cX5_letterAsKnown 14 = .ok (.iload_n 1, 1) := zDec_at zB_dX5_letterAsKnown_0 8 rfl
theorem dX5_letterAsKnown_15 : decode cX5_letterAsKnown 15 = .ok (.iaload, 1) := zDec_at zB_dX5_letterAsKnown_0 9 rfl
theorem dX5_letterAsKnown_16 : decode cX5_letterAsKnown 16 = .ok (.iload_n 2, 1) := zDec_at zB_dX5_letterAsKnown_0 10 rfl
theorem dX5_letterAsKnown_17 : decode cX5_letterAsKnown 17 = .ok (.if_icmp .gt 7, 3) := zDec_at zB_dX5_letterAsKnown_0 11 rfl
theorem dX5_letterAsKnown_20 : decode cX5_letterAsKnown 20 = .ok (.iconst 1, 1) := zDec_at zB_dX5_letterAsKnown_0 12 rfl
theorem dX5_letterAsKnown_21 : decode cX5_letterAsKnown 21 = .ok (.goto 4, 3) := zDec_at zB_dX5_letterAsKnown_0 13 rfl
theorem dX5_letterAsKnown_24 : decode cX5_letterAsKnown 24 = .ok (.iconst 0, 1) := zDec_at zB_dX5_letterAsKnown_0 14 rfl
theorem dX5_letterAsKnown_25 : decode cX5_letterAsKnown 25 = .ok (.istore_n 3, 1) := zDec_at zB_dX5_letterAsKnown_0 15 rfl
theorem dX5_letterAsKnown_26 : decode cX5_letterAsKnown 26 = .ok (.iload_n 3, 1) := zDec_at zB_dX5_letterAsKnown_0 16 rfl
theorem dX5_letterAsKnown_27 : decode cX5_letterAsKnown 27 = .ok (.ifCond .eq 12, 3) := zDec_at zB_dX5_letterAsKnown_0 17 rfl
theorem dX5_letterAsKnown_30 : decode cX5_letterAsKnown 30 = .ok (.aload_n 0, 1) := zDec_at zB_dX5_letterAsKnown_0 18 rfl
theorem dX5_letterAsKnown_31 : decode cX5_letterAsKnown 31 = .ok (.getfield 30, 3) := zDec_at zB_dX5_letterAsKnown_0 19 rfl
theorem dX5_letterAsKnown_34 : decode cX5_letterAsKnown 34 = .ok (.iload_n 1, 1) := zDec_at zB_dX5_letterAsKnown_0 20 rfl
theorem dX5_letterAsKnown_35 : decode cX5_letterAsKnown 35 = .ok (.iaload, 1) := zDec_at zB_dX5_letterAsKnown_0 21 rfl
theorem dX5_letterAsKnown_36 : decode cX5_letterAsKnown 36 = .ok (.goto 9, 3) := zDec_at zB_dX5_letterAsKnown_0 22 rfl
theorem dX5_letterAsKnown_39 : decode cX5_letterAsKnown 39 = .ok (.aload_n 0, 1) := zDec_at zB_dX5_letterAsKnown_0 23 rfl
theorem dX5_letterAsKnown_40 : decode cX5_letterAsKnown 40 = .ok (.getfield 21, 3) := zDec_at zB_dX5_letterAsKnown_0 24 rfl
theorem dX5_letterAsKnown_43 : decode cX5_letterAsKnown 43 = .ok (.iload_n 1, 1) := zDec_at zB_dX5_letterAsKnown_0 25 rfl
theorem dX5_letterAsKnown_44 : decode cX5_letterAsKnown 44 = .ok (.iaload, 1) := zDec_at zB_dX5_letterAsKnown_0 26 rfl
theorem dX5_letterAsKnown_45 : decode cX5_letterAsKnown 45 = .ok (.ireturn, 1) := zDec_at zB_dX5_letterAsKnown_0 27 rfl
theorem zB_dX5_markAtPlace_0 : zDecB cX5_markAtPlace [(0, .iconst 0, 1), (1, .istore_n 3, 1), (2, .iconst 0, 1), (3, .istore 4, 2), (5, .iload 4, 2), (7, .aload_n 0, 1), (8, .getfield 54, 3), (11, .if_icmp .ge 33, 3), (14, .aload_n 0, 1), (15, .getfield 18, 3), (18, .iload 4, 2), (20, .iaload, 1), (21, .iconst 2, 1), (22, .idiv, 1), (23, .iload_n 1, 1), (24, .if_icmp .ne 14, 3), (27, .iinc 3 1, 3), (30, .iload_n 3, 1), (31, .iload_n 2, 1), (32, .if_icmp .ne 6, 3), (35, .iload 4, 2), (37, .ireturn, 1), (38, .iinc 4 1, 3), (41, .goto (-36), 3), (44, .bipush (-2), 2), (46, .ireturn, 1)] = true := by decide +kernel
theorem dX5_markAtPlace_0 : decode cX5_markAtPlace 0 = .ok (.iconst 0, 1) := zDec_at zB_dX5_markAtPlace_0 0 rfl
theorem dX5_markAtPlace_1 : decode cX5_markAtPlace 1 = .ok (.istore_n 3, 1) := zDec_at zB_dX5_markAtPlace_0 1 rfl
theorem dX5_markAtPlace_2 : decode cX5_markAtPlace 2 = .ok (.iconst 0, 1) := zDec_at zB_dX5_markAtPlace_0 2 rfl
theorem dX5_markAtPlace_3 : decode cX5_markAtPlace 3 = .ok (.istore 4, 2) := zDec_at zB_dX5_markAtPlace_0 3 rfl
theorem dX5_markAtPlace_5 : decode cX5_markAtPlace 5 = .ok (.iload 4, 2) := zDec_at zB_dX5_markAtPlace_0 4 rfl
theorem dX5_markAtPlace_7 : decode cX5_markAtPlace 7 = .ok (.aload_n 0, 1) := zDec_at zB_dX5_markAtPlace_0 5 rfl
theorem dX5_markAtPlace_8 : decode cX5_markAtPlace 8 = .ok (.getfield 54, 3) := zDec_at zB_dX5_markAtPlace_0 6 rfl
theorem dX5_markAtPlace_11 : decode cX5_markAtPlace 11 = .ok (.if_icmp .ge 33, 3) := zDec_at zB_dX5_markAtPlace_0 7 rfl
theorem dX5_markAtPlace_14 : decode cX5_markAtPlace 14 = .ok (.aload_n 0, 1) := zDec_at zB_dX5_markAtPlace_0 8 rfl
theorem dX5_markAtPlace_15 : decode cX5_markAtPlace 15 = .ok (.getfield 18, 3) := zDec_at zB_dX5_markAtPlace_0 9 rfl
theorem dX5_markAtPlace_18 : decode cX5_markAtPlace 18 = .ok (.iload 4, 2) := zDec_at zB_dX5_markAtPlace_0 10 rfl
theorem dX5_markAtPlace_20 : decode cX5_markAtPlace 20 = .ok (.iaload, 1) := zDec_at zB_dX5_markAtPlace_0 11 rfl
theorem dX5_markAtPlace_21 : decode cX5_markAtPlace 21 = .ok (.iconst 2, 1) := zDec_at zB_dX5_markAtPlace_0 12 rfl
theorem dX5_markAtPlace_22 : decode cX5_markAtPlace 22 = .ok (.idiv, 1) := zDec_at zB_dX5_markAtPlace_0 13 rfl
theorem dX5_markAtPlace_23 : decode cX5_markAtPlace 23 = .ok (.iload_n 1, 1) := zDec_at zB_dX5_markAtPlace_0 14 rfl
theorem dX5_markAtPlace_24 : decode cX5_markAtPlace 24 = .ok (.if_icmp .ne 14, 3) := zDec_at zB_dX5_markAtPlace_0 15 rfl
theorem dX5_markAtPlace_27 : decode cX5_markAtPlace 27 = .ok (.iinc 3 1, 3) := zDec_at zB_dX5_markAtPlace_0 16 rfl
theorem dX5_markAtPlace_30 : decode cX5_markAtPlace 30 = .ok (.iload_n 3, 1) := zDec_at zB_dX5_markAtPlace_0 17 rfl
theorem dX5_markAtPlace_31 : decode cX5_markAtPlace 31 = .ok (.iload_n 2, 1) := zDec_at zB_dX5_markAtPlace_0 18 rfl
theorem dX5_markAtPlace_32 : decode cX5_markAtPlace 32 = .ok (.if_icmp .ne 6, 3) := zDec_at zB_dX5_markAtPlace_0 19 rfl
theorem dX5_markAtPlace_35 : decode cX5_markAtPlace 35 = .ok (.iload 4, 2) := zDec_at zB_dX5_markAtPlace_0 20 rfl
theorem dX5_markAtPlace_37 : decode cX5_markAtPlace 37 = .ok (.ireturn, 1) := zDec_at zB_dX5_markAtPlace_0 21 rfl
theorem dX5_markAtPlace_38 : decode cX5_markAtPlace 38 = .ok (.iinc 4 1, 3) := zDec_at zB_dX5_markAtPlace_0 22 rfl
theorem dX5_markAtPlace_41 : decode cX5_markAtPlace 41 = .ok (.goto (-36), 3) := zDec_at zB_dX5_markAtPlace_0 23 rfl
theorem dX5_markAtPlace_44 : decode cX5_markAtPlace 44 = .ok (.bipush (-2), 2) := zDec_at zB_dX5_markAtPlace_0 24 rfl
theorem dX5_markAtPlace_46 : decode cX5_markAtPlace 46 = .ok (.ireturn, 1) := zDec_at zB_dX5_markAtPlace_0 25 rfl
theorem zB_dX5_numberOf_0 : zDecB cX5_numberOf [(0, .bipush 26, 2), (2, .aload_n 0, 1), (3, .getfield 24, 3), (6, .iload_n 1, 1), (7, .iaload, 1), (8, .imul, 1), (9, .aload_n 0, 1), (10, .getfield 21, 3), (13, .iload_n 1, 1), (14, .iaload, 1), (15, .iadd, 1), (16, .ireturn, 1)] = true := by decide +kernel
theorem dX5_numberOf_0 : decode cX5_numberOf 0 = .ok (.bipush 26, 2) := zDec_at zB_dX5_numberOf_0 0 rfl
theorem dX5_numberOf_2 : decode cX5_numberOf 2 = .ok (.aload_n 0, 1) := zDec_at zB_dX5_numberOf_0 1 rfl
theorem dX5_numberOf_3 : decode cX5_numberOf 3 = .ok (.getfield 24, 3) := zDec_at zB_dX5_numberOf_0 2 rfl
theorem dX5_numberOf_6 : decode cX5_numberOf 6 = .ok (.iload_n 1, 1) := zDec_at zB_dX5_numberOf_0 3 rfl
theorem dX5_numberOf_7 : decode cX5_numberOf 7 = .ok (.iaload, 1) := zDec_at zB_dX5_numberOf_0 4 rfl
theorem dX5_numberOf_8 : decode cX5_numberOf 8 = .ok (.imul, 1) := zDec_at zB_dX5_numberOf_0 5 rfl
theorem dX5_numberOf_9 : decode cX5_numberOf 9 = .ok (.aload_n 0, 1) := zDec_at zB_dX5_numberOf_0 6 rfl
theorem dX5_numberOf_10 : decode cX5_numberOf 10 = .ok (.getfield 21, 3) := zDec_at zB_dX5_numberOf_0 7 rfl
theorem dX5_numberOf_13 : decode cX5_numberOf 13 = .ok (.iload_n 1, 1) := zDec_at zB_dX5_numberOf_0 8 rfl
theorem dX5_numberOf_14 : decode cX5_numberOf 14 = .ok (.iaload, 1) := zDec_at zB_dX5_numberOf_0 9 rfl
theorem dX5_numberOf_15 : decode cX5_numberOf 15 = .ok (.iadd, 1) := zDec_at zB_dX5_numberOf_0 10 rfl
theorem dX5_numberOf_16 : decode cX5_numberOf 16 = .ok (.ireturn, 1) := zDec_at zB_dX5_numberOf_0 11 rfl
theorem zB_dX5_sealDay_0 : zDecB cX5_sealDay [(0, .aload_n 0, 1), (1, .getfield 39, 3), (4, .iload_n 1, 1), (5, .aload_n 0, 1), (6, .iload_n 1, 1), (7, .invokevirtual 66, 3), (10, .iastore, 1), (11, .aload_n 0, 1), (12, .getfield 42, 3), (15, .iload_n 1, 1), (16, .aload_n 0, 1), (17, .getfield 69, 3), (20, .iastore, 1), (21, .aload_n 0, 1), (22, .getfield 45, 3), (25, .iload_n 1, 1), (26, .aload_n 0, 1), (27, .getfield 72, 3), (30, .iastore, 1), (31, .aload_n 0, 1), (32, .getfield 39, 3), (35, .iload_n 1, 1), (36, .iaload, 1), (37, .ireturn, 1)] = true := by decide +kernel
theorem dX5_sealDay_0 : decode cX5_sealDay 0 = .ok (.aload_n 0, 1) := zDec_at zB_dX5_sealDay_0 0 rfl
theorem dX5_sealDay_1 : decode cX5_sealDay 1 = .ok (.getfield 39, 3) := zDec_at zB_dX5_sealDay_0 1 rfl
theorem dX5_sealDay_4 : decode cX5_sealDay 4 = .ok (.iload_n 1, 1) := zDec_at zB_dX5_sealDay_0 2 rfl
theorem dX5_sealDay_5 : decode cX5_sealDay 5 = .ok (.aload_n 0, 1) := zDec_at zB_dX5_sealDay_0 3 rfl
theorem dX5_sealDay_6 : decode cX5_sealDay 6 = .ok (.iload_n 1, 1) := zDec_at zB_dX5_sealDay_0 4 rfl
theorem dX5_sealDay_7 : decode cX5_sealDay 7 = .ok (.invokevirtual 66, 3) := zDec_at zB_dX5_sealDay_0 5 rfl
theorem dX5_sealDay_10 : decode cX5_sealDay 10 = .ok (.iastore, 1) := zDec_at zB_dX5_sealDay_0 6 rfl
theorem dX5_sealDay_11 : decode cX5_sealDay 11 = .ok (.aload_n 0, 1) := zDec_at zB_dX5_sealDay_0 7 rfl
theorem dX5_sealDay_12 : decode cX5_sealDay 12 = .ok (.getfield 42, 3) := zDec_at zB_dX5_sealDay_0 8 rfl
theorem dX5_sealDay_15 : decode cX5_sealDay 15 = .ok (.iload_n 1, 1) := zDec_at zB_dX5_sealDay_0 9 rfl
theorem dX5_sealDay_16 : decode cX5_sealDay 16 = .ok (.aload_n 0, 1) := zDec_at zB_dX5_sealDay_0 10 rfl
theorem dX5_sealDay_17 : decode cX5_sealDay 17 = .ok (.getfield 69, 3) := zDec_at zB_dX5_sealDay_0 11 rfl
theorem dX5_sealDay_20 : decode cX5_sealDay 20 = .ok (.iastore, 1) := zDec_at zB_dX5_sealDay_0 12 rfl
theorem dX5_sealDay_21 : decode cX5_sealDay 21 = .ok (.aload_n 0, 1) := zDec_at zB_dX5_sealDay_0 13 rfl
theorem dX5_sealDay_22 : decode cX5_sealDay 22 = .ok (.getfield 45, 3) := zDec_at zB_dX5_sealDay_0 14 rfl
theorem dX5_sealDay_25 : decode cX5_sealDay 25 = .ok (.iload_n 1, 1) := zDec_at zB_dX5_sealDay_0 15 rfl
theorem dX5_sealDay_26 : decode cX5_sealDay 26 = .ok (.aload_n 0, 1) := zDec_at zB_dX5_sealDay_0 16 rfl
theorem dX5_sealDay_27 : decode cX5_sealDay 27 = .ok (.getfield 72, 3) := zDec_at zB_dX5_sealDay_0 17 rfl
theorem dX5_sealDay_30 : decode cX5_sealDay 30 = .ok (.iastore, 1) := zDec_at zB_dX5_sealDay_0 18 rfl
theorem dX5_sealDay_31 : decode cX5_sealDay 31 = .ok (.aload_n 0, 1) := zDec_at zB_dX5_sealDay_0 19 rfl
theorem dX5_sealDay_32 : decode cX5_sealDay 32 = .ok (.getfield 39, 3) := zDec_at zB_dX5_sealDay_0 20 rfl
theorem dX5_sealDay_35 : decode cX5_sealDay 35 = .ok (.iload_n 1, 1) := zDec_at zB_dX5_sealDay_0 21 rfl
theorem dX5_sealDay_36 : decode cX5_sealDay 36 = .ok (.iaload, 1) := zDec_at zB_dX5_sealDay_0 22 rfl
theorem dX5_sealDay_37 : decode cX5_sealDay 37 = .ok (.ireturn, 1) := zDec_at zB_dX5_sealDay_0 23 rfl
theorem zB_dX5_sumDay_0 : zDecB cX5_sumDay [(0, .iconst 0, 1), (1, .istore_n 2, 1), (2, .aload_n 0, 1), (3, .iconst 0, 1), (4, .putfield 69, 3), (7, .aload_n 0, 1), (8, .iconst 0, 1), (9, .putfield 72, 3), (12, .iconst 0, 1), (13, .istore_n 3, 1), (14, .iload_n 3, 1), (15, .aload_n 0, 1), (16, .getfield 54, 3), (19, .if_icmp .ge 54, 3), (22, .aload_n 0, 1), (23, .getfield 18, 3), (26, .iload_n 3, 1), (27, .iaload, 1), (28, .iconst 2, 1), (29, .idiv, 1), (30, .iload_n 1, 1), (31, .if_icmp .ne 36, 3), (34, .iinc 2 1, 3), (37, .aload_n 0, 1), (38, .dup, 1), (39, .getfield 69, 3), (42, .aload_n 0, 1), (43, .iload_n 3, 1), (44, .invokevirtual 62, 3), (47, .iadd, 1), (48, .putfield 69, 3), (51, .aload_n 0, 1), (52, .dup, 1), (53, .getfield 72, 3), (56, .aload_n 0, 1), (57, .iload_n 3, 1), (58, .invokevirtual 62, 3), (61, .iload_n 2, 1), (62, .imul, 1), (63, .iadd, 1)] = true := by decide +kernel
theorem dX5_sumDay_0 : decode cX5_sumDay 0 = .ok (.iconst 0, 1) := zDec_at zB_dX5_sumDay_0 0 rfl
theorem dX5_sumDay_1 : decode cX5_sumDay 1 = .ok (.istore_n 2, 1) := zDec_at zB_dX5_sumDay_0 1 rfl
theorem dX5_sumDay_2 : decode cX5_sumDay 2 = .ok (.aload_n 0, 1) := zDec_at zB_dX5_sumDay_0 2 rfl
theorem dX5_sumDay_3 : decode cX5_sumDay 3 = .ok (.iconst 0, 1) := zDec_at zB_dX5_sumDay_0 3 rfl
theorem dX5_sumDay_4 : decode cX5_sumDay 4 = .ok (.putfield 69, 3) := zDec_at zB_dX5_sumDay_0 4 rfl
theorem dX5_sumDay_7 : decode cX5_sumDay 7 = .ok (.aload_n 0, 1) := zDec_at zB_dX5_sumDay_0 5 rfl
theorem dX5_sumDay_8 : decode cX5_sumDay 8 = .ok (.iconst 0, 1) := zDec_at zB_dX5_sumDay_0 6 rfl
theorem dX5_sumDay_9 : decode cX5_sumDay 9 = .ok (.putfield 72, 3) := zDec_at zB_dX5_sumDay_0 7 rfl
theorem dX5_sumDay_12 : decode cX5_sumDay 12 = .ok (.iconst 0, 1) := zDec_at zB_dX5_sumDay_0 8 rfl
theorem dX5_sumDay_13 : decode cX5_sumDay 13 = .ok (.istore_n 3, 1) := zDec_at zB_dX5_sumDay_0 9 rfl
theorem dX5_sumDay_14 : decode cX5_sumDay 14 = .ok (.iload_n 3, 1) := zDec_at zB_dX5_sumDay_0 10 rfl
theorem dX5_sumDay_15 : decode cX5_sumDay 15 = .ok (.aload_n 0, 1) := zDec_at zB_dX5_sumDay_0 11 rfl
theorem dX5_sumDay_16 : decode cX5_sumDay 16 = .ok (.getfield 54, 3) := zDec_at zB_dX5_sumDay_0 12 rfl
theorem dX5_sumDay_19 : decode cX5_sumDay 19 = .ok (.if_icmp .ge 54, 3) := zDec_at zB_dX5_sumDay_0 13 rfl
theorem dX5_sumDay_22 : decode cX5_sumDay 22 = .ok (.aload_n 0, 1) := zDec_at zB_dX5_sumDay_0 14 rfl
theorem dX5_sumDay_23 : decode cX5_sumDay 23 = .ok (.getfield 18, 3) := zDec_at zB_dX5_sumDay_0 15 rfl
theorem dX5_sumDay_26 : decode cX5_sumDay 26 = .ok (.iload_n 3, 1) := zDec_at zB_dX5_sumDay_0 16 rfl
theorem dX5_sumDay_27 : decode cX5_sumDay 27 = .ok (.iaload, 1) := zDec_at zB_dX5_sumDay_0 17 rfl
theorem dX5_sumDay_28 : decode cX5_sumDay 28 = .ok (.iconst 2, 1) := zDec_at zB_dX5_sumDay_0 18 rfl
theorem dX5_sumDay_29 : decode cX5_sumDay 29 = .ok (.idiv, 1) := zDec_at zB_dX5_sumDay_0 19 rfl
theorem dX5_sumDay_30 : decode cX5_sumDay 30 = .ok (.iload_n 1, 1) := zDec_at zB_dX5_sumDay_0 20 rfl
theorem dX5_sumDay_31 : decode cX5_sumDay 31 = .ok (.if_icmp .ne 36, 3) := zDec_at zB_dX5_sumDay_0 21 rfl
theorem dX5_sumDay_34 : decode cX5_sumDay 34 = .ok (.iinc 2 1, 3) := zDec_at zB_dX5_sumDay_0 22 rfl
theorem dX5_sumDay_37 : decode cX5_sumDay 37 = .ok (.aload_n 0, 1) := zDec_at zB_dX5_sumDay_0 23 rfl
theorem dX5_sumDay_38 : decode cX5_sumDay 38 = .ok (.dup, 1) := zDec_at zB_dX5_sumDay_0 24 rfl
theorem dX5_sumDay_39 : decode cX5_sumDay 39 = .ok (.getfield 69, 3) := zDec_at zB_dX5_sumDay_0 25 rfl
theorem dX5_sumDay_42 : decode cX5_sumDay 42 = .ok (.aload_n 0, 1) := zDec_at zB_dX5_sumDay_0 26 rfl
theorem dX5_sumDay_43 : decode cX5_sumDay 43 = .ok (.iload_n 3, 1) := zDec_at zB_dX5_sumDay_0 27 rfl
theorem dX5_sumDay_44 : decode cX5_sumDay 44 = .ok (.invokevirtual 62, 3) := zDec_at zB_dX5_sumDay_0 28 rfl
theorem dX5_sumDay_47 : decode cX5_sumDay 47 = .ok (.iadd, 1) := zDec_at zB_dX5_sumDay_0 29 rfl
theorem dX5_sumDay_48 : decode cX5_sumDay 48 = .ok (.putfield 69, 3) := zDec_at zB_dX5_sumDay_0 30 rfl
theorem dX5_sumDay_51 : decode cX5_sumDay 51 = .ok (.aload_n 0, 1) := zDec_at zB_dX5_sumDay_0 31 rfl
theorem dX5_sumDay_52 : decode cX5_sumDay 52 = .ok (.dup, 1) := zDec_at zB_dX5_sumDay_0 32 rfl
theorem dX5_sumDay_53 : decode cX5_sumDay 53 = .ok (.getfield 72, 3) := zDec_at zB_dX5_sumDay_0 33 rfl
theorem dX5_sumDay_56 : decode cX5_sumDay 56 = .ok (.aload_n 0, 1) := zDec_at zB_dX5_sumDay_0 34 rfl
theorem dX5_sumDay_57 : decode cX5_sumDay 57 = .ok (.iload_n 3, 1) := zDec_at zB_dX5_sumDay_0 35 rfl
theorem dX5_sumDay_58 : decode cX5_sumDay 58 = .ok (.invokevirtual 62, 3) := zDec_at zB_dX5_sumDay_0 36 rfl
theorem dX5_sumDay_61 : decode cX5_sumDay 61 = .ok (.iload_n 2, 1) := zDec_at zB_dX5_sumDay_0 37 rfl
theorem dX5_sumDay_62 : decode cX5_sumDay 62 = .ok (.imul, 1) := zDec_at zB_dX5_sumDay_0 38 rfl
theorem dX5_sumDay_63 : decode cX5_sumDay 63 = .ok (.iadd, 1) := zDec_at zB_dX5_sumDay_0 39 rfl
theorem zB_dX5_sumDay_64 : zDecB cX5_sumDay [(64, .putfield 72, 3), (67, .iinc 3 1, 3), (70, .goto (-56), 3), (73, .iload_n 2, 1), (74, .ireturn, 1)] = true := by decide +kernel
theorem dX5_sumDay_64 : decode cX5_sumDay 64 = .ok (.putfield 72, 3) := zDec_at zB_dX5_sumDay_64 0 rfl
theorem dX5_sumDay_67 : decode cX5_sumDay 67 = .ok (.iinc 3 1, 3) := zDec_at zB_dX5_sumDay_64 1 rfl
theorem dX5_sumDay_70 : decode cX5_sumDay 70 = .ok (.goto (-56), 3) := zDec_at zB_dX5_sumDay_64 2 rfl
theorem dX5_sumDay_73 : decode cX5_sumDay 73 = .ok (.iload_n 2, 1) := zDec_at zB_dX5_sumDay_64 3 rfl
theorem dX5_sumDay_74 : decode cX5_sumDay 74 = .ok (.ireturn, 1) := zDec_at zB_dX5_sumDay_64 4 rfl
theorem zB_dX5_turnBits_0 : zDecB cX5_turnBits [(0, .aload_n 0, 1), (1, .iload_n 1, 1), (2, .invokevirtual 62, 3), (5, .iload_n 2, 1), (6, .ixor, 1), (7, .istore_n 3, 1), (8, .aload_n 0, 1), (9, .getfield 21, 3), (12, .iload_n 1, 1), (13, .iload_n 3, 1), (14, .bipush 26, 2), (16, .irem, 1), (17, .iastore, 1), (18, .aload_n 0, 1), (19, .getfield 24, 3), (22, .iload_n 1, 1), (23, .iload_n 3, 1), (24, .bipush 26, 2), (26, .idiv, 1), (27, .iastore, 1), (28, .iload_n 3, 1), (29, .ireturn, 1)] = true := by decide +kernel
theorem dX5_turnBits_0 : decode cX5_turnBits 0 = .ok (.aload_n 0, 1) := zDec_at zB_dX5_turnBits_0 0 rfl
theorem dX5_turnBits_1 : decode cX5_turnBits 1 = .ok (.iload_n 1, 1) := zDec_at zB_dX5_turnBits_0 1 rfl
theorem dX5_turnBits_2 : decode cX5_turnBits 2 = .ok (.invokevirtual 62, 3) := zDec_at zB_dX5_turnBits_0 2 rfl
theorem dX5_turnBits_5 : decode cX5_turnBits 5 = .ok (.iload_n 2, 1) := zDec_at zB_dX5_turnBits_0 3 rfl
theorem dX5_turnBits_6 : decode cX5_turnBits 6 = .ok (.ixor, 1) := zDec_at zB_dX5_turnBits_0 4 rfl
theorem dX5_turnBits_7 : decode cX5_turnBits 7 = .ok (.istore_n 3, 1) := zDec_at zB_dX5_turnBits_0 5 rfl
theorem dX5_turnBits_8 : decode cX5_turnBits 8 = .ok (.aload_n 0, 1) := zDec_at zB_dX5_turnBits_0 6 rfl
theorem dX5_turnBits_9 : decode cX5_turnBits 9 = .ok (.getfield 21, 3) := zDec_at zB_dX5_turnBits_0 7 rfl
theorem dX5_turnBits_12 : decode cX5_turnBits 12 = .ok (.iload_n 1, 1) := zDec_at zB_dX5_turnBits_0 8 rfl
theorem dX5_turnBits_13 : decode cX5_turnBits 13 = .ok (.iload_n 3, 1) := zDec_at zB_dX5_turnBits_0 9 rfl
theorem dX5_turnBits_14 : decode cX5_turnBits 14 = .ok (.bipush 26, 2) := zDec_at zB_dX5_turnBits_0 10 rfl
theorem dX5_turnBits_16 : decode cX5_turnBits 16 = .ok (.irem, 1) := zDec_at zB_dX5_turnBits_0 11 rfl
theorem dX5_turnBits_17 : decode cX5_turnBits 17 = .ok (.iastore, 1) := zDec_at zB_dX5_turnBits_0 12 rfl
theorem dX5_turnBits_18 : decode cX5_turnBits 18 = .ok (.aload_n 0, 1) := zDec_at zB_dX5_turnBits_0 13 rfl
theorem dX5_turnBits_19 : decode cX5_turnBits 19 = .ok (.getfield 24, 3) := zDec_at zB_dX5_turnBits_0 14 rfl
theorem dX5_turnBits_22 : decode cX5_turnBits 22 = .ok (.iload_n 1, 1) := zDec_at zB_dX5_turnBits_0 15 rfl
theorem dX5_turnBits_23 : decode cX5_turnBits 23 = .ok (.iload_n 3, 1) := zDec_at zB_dX5_turnBits_0 16 rfl
theorem dX5_turnBits_24 : decode cX5_turnBits 24 = .ok (.bipush 26, 2) := zDec_at zB_dX5_turnBits_0 17 rfl
theorem dX5_turnBits_26 : decode cX5_turnBits 26 = .ok (.idiv, 1) := zDec_at zB_dX5_turnBits_0 18 rfl
theorem dX5_turnBits_27 : decode cX5_turnBits 27 = .ok (.iastore, 1) := zDec_at zB_dX5_turnBits_0 19 rfl
theorem dX5_turnBits_28 : decode cX5_turnBits 28 = .ok (.iload_n 3, 1) := zDec_at zB_dX5_turnBits_0 20 rfl
theorem dX5_turnBits_29 : decode cX5_turnBits 29 = .ok (.ireturn, 1) := zDec_at zB_dX5_turnBits_0 21 rfl
theorem zB_dX6_addBus_0 : zDecB cX6_addBus [(0, .aload_n 0, 1), (1, .getfield 30, 3), (4, .aload_n 0, 1), (5, .getfield 55, 3), (8, .iload_n 1, 1), (9, .iastore, 1), (10, .aload_n 0, 1), (11, .getfield 33, 3), (14, .aload_n 0, 1), (15, .getfield 55, 3), (18, .iload_n 2, 1), (19, .iastore, 1), (20, .aload_n 0, 1), (21, .dup, 1), (22, .getfield 55, 3), (25, .iconst 1, 1), (26, .iadd, 1), (27, .putfield 55, 3), (30, .aload_n 0, 1), (31, .getfield 55, 3), (34, .ireturn, 1)] = true := by decide +kernel
theorem dX6_addBus_0 : decode cX6_addBus 0 = .ok (.aload_n 0, 1) := zDec_at zB_dX6_addBus_0 0 rfl
theorem dX6_addBus_1 : decode cX6_addBus 1 = .ok (.getfield 30, 3) := zDec_at zB_dX6_addBus_0 1 rfl
theorem dX6_addBus_4 : decode cX6_addBus 4 = .ok (.aload_n 0, 1) := zDec_at zB_dX6_addBus_0 2 rfl
theorem dX6_addBus_5 : decode cX6_addBus 5 = .ok (.getfield 55, 3) := zDec_at zB_dX6_addBus_0 3 rfl
theorem dX6_addBus_8 : decode cX6_addBus 8 = .ok (.iload_n 1, 1) := zDec_at zB_dX6_addBus_0 4 rfl
theorem dX6_addBus_9 : decode cX6_addBus 9 = .ok (.iastore, 1) := zDec_at zB_dX6_addBus_0 5 rfl
theorem dX6_addBus_10 : decode cX6_addBus 10 = .ok (.aload_n 0, 1) := zDec_at zB_dX6_addBus_0 6 rfl
theorem dX6_addBus_11 : decode cX6_addBus 11 = .ok (.getfield 33, 3) := zDec_at zB_dX6_addBus_0 7 rfl
theorem dX6_addBus_14 : decode cX6_addBus 14 = .ok (.aload_n 0, 1) := zDec_at zB_dX6_addBus_0 8 rfl
theorem dX6_addBus_15 : decode cX6_addBus 15 = .ok (.getfield 55, 3) := zDec_at zB_dX6_addBus_0 9 rfl
theorem dX6_addBus_18 : decode cX6_addBus 18 = .ok (.iload_n 2, 1) := zDec_at zB_dX6_addBus_0 10 rfl
theorem dX6_addBus_19 : decode cX6_addBus 19 = .ok (.iastore, 1) := zDec_at zB_dX6_addBus_0 11 rfl
theorem dX6_addBus_20 : decode cX6_addBus 20 = .ok (.aload_n 0, 1) := zDec_at zB_dX6_addBus_0 12 rfl
theorem dX6_addBus_21 : decode cX6_addBus 21 = .ok (.dup, 1) := zDec_at zB_dX6_addBus_0 13 rfl
theorem dX6_addBus_22 : decode cX6_addBus 22 = .ok (.getfield 55, 3) := zDec_at zB_dX6_addBus_0 14 rfl
theorem dX6_addBus_25 : decode cX6_addBus 25 = .ok (.iconst 1, 1) := zDec_at zB_dX6_addBus_0 15 rfl
theorem dX6_addBus_26 : decode cX6_addBus 26 = .ok (.iadd, 1) := zDec_at zB_dX6_addBus_0 16 rfl
theorem dX6_addBus_27 : decode cX6_addBus 27 = .ok (.putfield 55, 3) := zDec_at zB_dX6_addBus_0 17 rfl
theorem dX6_addBus_30 : decode cX6_addBus 30 = .ok (.aload_n 0, 1) := zDec_at zB_dX6_addBus_0 18 rfl
theorem dX6_addBus_31 : decode cX6_addBus 31 = .ok (.getfield 55, 3) := zDec_at zB_dX6_addBus_0 19 rfl
theorem dX6_addBus_34 : decode cX6_addBus 34 = .ok (.ireturn, 1) := zDec_at zB_dX6_addBus_0 20 rfl
theorem zB_dX6_addChild_0 : zDecB cX6_addChild [(0, .aload_n 0, 1), (1, .getfield 9, 3), (4, .aload_n 0, 1), (5, .getfield 48, 3), (8, .iload_n 1, 1), (9, .iastore, 1), (10, .aload_n 0, 1), (11, .getfield 15, 3), (14, .aload_n 0, 1), (15, .getfield 48, 3), (18, .iload_n 2, 1), (19, .ifCond .eq 7, 3), (22, .iconst 1, 1), (23, .goto 4, 3), (26, .iconst 0, 1), (27, .iastore, 1), (28, .aload_n 0, 1), (29, .getfield 18, 3), (32, .aload_n 0, 1), (33, .getfield 48, 3), (36, .iload_n 3, 1), (37, .iastore, 1), (38, .aload_n 0, 1), (39, .getfield 21, 3), (42, .aload_n 0, 1), (43, .getfield 48, 3), (46, .iload 4, 2), (48, .iastore, 1), (49, .aload_n 0, 1), (50, .getfield 24, 3), (53, .aload_n 0, 1), (54, .getfield 48, 3), (57, .iload 5, 2), (59, .iastore, 1), (60, .aload_n 0, 1), (61, .dup, 1), (62, .getfield 48, 3), (65, .iconst 1, 1), (66, .iadd, 1), (67, .putfield 48, 3)] = true := by decide +kernel
theorem dX6_addChild_0 : decode cX6_addChild 0 = .ok (.aload_n 0, 1) := zDec_at zB_dX6_addChild_0 0 rfl
theorem dX6_addChild_1 : decode cX6_addChild 1 = .ok (.getfield 9, 3) := zDec_at zB_dX6_addChild_0 1 rfl
theorem dX6_addChild_4 : decode cX6_addChild 4 = .ok (.aload_n 0, 1) := zDec_at zB_dX6_addChild_0 2 rfl
theorem dX6_addChild_5 : decode cX6_addChild 5 = .ok (.getfield 48, 3) := zDec_at zB_dX6_addChild_0 3 rfl
theorem dX6_addChild_8 : decode cX6_addChild 8 = .ok (.iload_n 1, 1) := zDec_at zB_dX6_addChild_0 4 rfl
theorem dX6_addChild_9 : decode cX6_addChild 9 = .ok (.iastore, 1) := zDec_at zB_dX6_addChild_0 5 rfl
theorem dX6_addChild_10 : decode cX6_addChild 10 = .ok (.aload_n 0, 1) := zDec_at zB_dX6_addChild_0 6 rfl
theorem dX6_addChild_11 : decode cX6_addChild 11 = .ok (.getfield 15, 3) := zDec_at zB_dX6_addChild_0 7 rfl
theorem dX6_addChild_14 : decode cX6_addChild 14 = .ok (.aload_n 0, 1) := zDec_at zB_dX6_addChild_0 8 rfl
theorem dX6_addChild_15 : decode cX6_addChild 15 = .ok (.getfield 48, 3) := zDec_at zB_dX6_addChild_0 9 rfl
theorem dX6_addChild_18 : decode cX6_addChild 18 = .ok (.iload_n 2, 1) := zDec_at zB_dX6_addChild_0 10 rfl
theorem dX6_addChild_19 : decode cX6_addChild 19 = .ok (.ifCond .eq 7, 3) := zDec_at zB_dX6_addChild_0 11 rfl
theorem dX6_addChild_22 : decode cX6_addChild 22 = .ok (.iconst 1, 1) := zDec_at zB_dX6_addChild_0 12 rfl
theorem dX6_addChild_23 : decode cX6_addChild 23 = .ok (.goto 4, 3) := zDec_at zB_dX6_addChild_0 13 rfl
theorem dX6_addChild_26 : decode cX6_addChild 26 = .ok (.iconst 0, 1) := zDec_at zB_dX6_addChild_0 14 rfl
theorem dX6_addChild_27 : decode cX6_addChild 27 = .ok (.iastore, 1) := zDec_at zB_dX6_addChild_0 15 rfl
theorem dX6_addChild_28 : decode cX6_addChild 28 = .ok (.aload_n 0, 1) := zDec_at zB_dX6_addChild_0 16 rfl
theorem dX6_addChild_29 : decode cX6_addChild 29 = .ok (.getfield 18, 3) := zDec_at zB_dX6_addChild_0 17 rfl
theorem dX6_addChild_32 : decode cX6_addChild 32 = .ok (.aload_n 0, 1) := zDec_at zB_dX6_addChild_0 18 rfl
theorem dX6_addChild_33 : decode cX6_addChild 33 = .ok (.getfield 48, 3) := zDec_at zB_dX6_addChild_0 19 rfl
theorem dX6_addChild_36 : decode cX6_addChild 36 = .ok (.iload_n 3, 1) := zDec_at zB_dX6_addChild_0 20 rfl
theorem dX6_addChild_37 : decode cX6_addChild 37 = .ok (.iastore, 1) := zDec_at zB_dX6_addChild_0 21 rfl
theorem dX6_addChild_38 : decode cX6_addChild 38 = .ok (.aload_n 0, 1) := zDec_at zB_dX6_addChild_0 22 rfl
theorem dX6_addChild_39 : decode cX6_addChild 39 = .ok (.getfield 21, 3) := zDec_at zB_dX6_addChild_0 23 rfl
theorem dX6_addChild_42 : decode cX6_addChild 42 = .ok (.aload_n 0, 1) := zDec_at zB_dX6_addChild_0 24 rfl
theorem dX6_addChild_43 : decode cX6_addChild 43 = .ok (.getfield 48, 3) := zDec_at zB_dX6_addChild_0 25 rfl
theorem dX6_addChild_46 : decode cX6_addChild 46 = .ok (.iload 4, 2) := zDec_at zB_dX6_addChild_0 26 rfl
theorem dX6_addChild_48 : decode cX6_addChild 48 = .ok (.iastore, 1) := zDec_at zB_dX6_addChild_0 27 rfl
theorem dX6_addChild_49 : decode cX6_addChild 49 = .ok (.aload_n 0, 1) := zDec_at zB_dX6_addChild_0 28 rfl
theorem dX6_addChild_50 : decode cX6_addChild 50 = .ok (.getfield 24, 3) := zDec_at zB_dX6_addChild_0 29 rfl
theorem dX6_addChild_53 : decode cX6_addChild 53 = .ok (.aload_n 0, 1) := zDec_at zB_dX6_addChild_0 30 rfl
theorem dX6_addChild_54 : decode cX6_addChild 54 = .ok (.getfield 48, 3) := zDec_at zB_dX6_addChild_0 31 rfl
theorem dX6_addChild_57 : decode cX6_addChild 57 = .ok (.iload 5, 2) := zDec_at zB_dX6_addChild_0 32 rfl
theorem dX6_addChild_59 : decode cX6_addChild 59 = .ok (.iastore, 1) := zDec_at zB_dX6_addChild_0 33 rfl
theorem dX6_addChild_60 : decode cX6_addChild 60 = .ok (.aload_n 0, 1) := zDec_at zB_dX6_addChild_0 34 rfl
theorem dX6_addChild_61 : decode cX6_addChild 61 = .ok (.dup, 1) := zDec_at zB_dX6_addChild_0 35 rfl
theorem dX6_addChild_62 : decode cX6_addChild 62 = .ok (.getfield 48, 3) := zDec_at zB_dX6_addChild_0 36 rfl
theorem dX6_addChild_65 : decode cX6_addChild 65 = .ok (.iconst 1, 1) := zDec_at zB_dX6_addChild_0 37 rfl
theorem dX6_addChild_66 : decode cX6_addChild 66 = .ok (.iadd, 1) := zDec_at zB_dX6_addChild_0 38 rfl
theorem dX6_addChild_67 : decode cX6_addChild 67 = .ok (.putfield 48, 3) := zDec_at zB_dX6_addChild_0 39 rfl
theorem zB_dX6_addChild_70 : zDecB cX6_addChild [(70, .aload_n 0, 1), (71, .getfield 48, 3), (74, .iconst 1, 1), (75, .isub, 1), (76, .ireturn, 1)] = true := by decide +kernel
theorem dX6_addChild_70 : decode cX6_addChild 70 = .ok (.aload_n 0, 1) := zDec_at zB_dX6_addChild_70 0 rfl
theorem dX6_addChild_71 : decode cX6_addChild 71 = .ok (.getfield 48, 3) := zDec_at zB_dX6_addChild_70 1 rfl
theorem dX6_addChild_74 : decode cX6_addChild 74 = .ok (.iconst 1, 1) := zDec_at zB_dX6_addChild_70 2 rfl
theorem dX6_addChild_75 : decode cX6_addChild 75 = .ok (.isub, 1) := zDec_at zB_dX6_addChild_70 3 rfl
theorem dX6_addChild_76 : decode cX6_addChild 76 = .ok (.ireturn, 1) := zDec_at zB_dX6_addChild_70 4 rfl
theorem zB_dX6_addSpan_0 : zDecB cX6_addSpan [(0, .iload_n 2, 1), (1, .bipush 60, 2), (3, .imul, 1), (4, .aload_n 0, 1), (5, .getfield 36, 3), (8, .iload_n 2, 1), (9, .iaload, 1), (10, .iadd, 1), (11, .istore 5, 2), (13, .aload_n 0, 1), (14, .getfield 39, 3), (17, .iload 5, 2), (19, .iload_n 1, 1), (20, .iastore, 1), (21, .aload_n 0, 1), (22, .getfield 42, 3), (25, .iload 5, 2), (27, .iload_n 3, 1), (28, .iastore, 1), (29, .aload_n 0, 1), (30, .getfield 45, 3), (33, .iload 5, 2), (35, .iload 4, 2), (37, .iastore, 1), (38, .aload_n 0, 1), (39, .getfield 36, 3), (42, .iload_n 2, 1), (43, .dup2, 1), (44, .iaload, 1), (45, .iconst 1, 1), (46, .iadd, 1), (47, .iastore, 1), (48, .aload_n 0, 1), (49, .getfield 36, 3), (52, .iload_n 2, 1), (53, .iaload, 1), (54, .ireturn, 1)] = true := by decide +kernel
theorem dX6_addSpan_0 : decode cX6_addSpan 0 = .ok (.iload_n 2, 1) := zDec_at zB_dX6_addSpan_0 0 rfl
theorem dX6_addSpan_1 : decode cX6_addSpan 1 = .ok (.bipush 60, 2) := zDec_at zB_dX6_addSpan_0 1 rfl
theorem dX6_addSpan_3 : decode cX6_addSpan 3 = .ok (.imul, 1) := zDec_at zB_dX6_addSpan_0 2 rfl
theorem dX6_addSpan_4 : decode cX6_addSpan 4 = .ok (.aload_n 0, 1) := zDec_at zB_dX6_addSpan_0 3 rfl
theorem dX6_addSpan_5 : decode cX6_addSpan 5 = .ok (.getfield 36, 3) := zDec_at zB_dX6_addSpan_0 4 rfl
theorem dX6_addSpan_8 : decode cX6_addSpan 8 = .ok (.iload_n 2, 1) := zDec_at zB_dX6_addSpan_0 5 rfl
theorem dX6_addSpan_9 : decode cX6_addSpan 9 = .ok (.iaload, 1) := zDec_at zB_dX6_addSpan_0 6 rfl
theorem dX6_addSpan_10 : decode cX6_addSpan 10 = .ok (.iadd, 1) := zDec_at zB_dX6_addSpan_0 7 rfl
theorem dX6_addSpan_11 : decode cX6_addSpan 11 = .ok (.istore 5, 2) := zDec_at zB_dX6_addSpan_0 8 rfl
theorem dX6_addSpan_13 : decode cX6_addSpan 13 = .ok (.aload_n 0, 1) := zDec_at zB_dX6_addSpan_0 9 rfl
theorem dX6_addSpan_14 : decode cX6_addSpan 14 = .ok (.getfield 39, 3) := zDec_at zB_dX6_addSpan_0 10 rfl
theorem dX6_addSpan_17 : decode cX6_addSpan 17 = .ok (.iload 5, 2) := zDec_at zB_dX6_addSpan_0 11 rfl
theorem dX6_addSpan_19 : decode cX6_addSpan 19 = .ok (.iload_n 1, 1) := zDec_at zB_dX6_addSpan_0 12 rfl
theorem dX6_addSpan_20 : decode cX6_addSpan 20 = .ok (.iastore, 1) := zDec_at zB_dX6_addSpan_0 13 rfl
theorem dX6_addSpan_21 : decode cX6_addSpan 21 = .ok (.aload_n 0, 1) := zDec_at zB_dX6_addSpan_0 14 rfl
theorem dX6_addSpan_22 : decode cX6_addSpan 22 = .ok (.getfield 42, 3) := zDec_at zB_dX6_addSpan_0 15 rfl
theorem dX6_addSpan_25 : decode cX6_addSpan 25 = .ok (.iload 5, 2) := zDec_at zB_dX6_addSpan_0 16 rfl
theorem dX6_addSpan_27 : decode cX6_addSpan 27 = .ok (.iload_n 3, 1) := zDec_at zB_dX6_addSpan_0 17 rfl
theorem dX6_addSpan_28 : decode cX6_addSpan 28 = .ok (.iastore, 1) := zDec_at zB_dX6_addSpan_0 18 rfl
theorem dX6_addSpan_29 : decode cX6_addSpan 29 = .ok (.aload_n 0, 1) := zDec_at zB_dX6_addSpan_0 19 rfl
theorem dX6_addSpan_30 : decode cX6_addSpan 30 = .ok (.getfield 45, 3) := zDec_at zB_dX6_addSpan_0 20 rfl
theorem dX6_addSpan_33 : decode cX6_addSpan 33 = .ok (.iload 5, 2) := zDec_at zB_dX6_addSpan_0 21 rfl
theorem dX6_addSpan_35 : decode cX6_addSpan 35 = .ok (.iload 4, 2) := zDec_at zB_dX6_addSpan_0 22 rfl
theorem dX6_addSpan_37 : decode cX6_addSpan 37 = .ok (.iastore, 1) := zDec_at zB_dX6_addSpan_0 23 rfl
theorem dX6_addSpan_38 : decode cX6_addSpan 38 = .ok (.aload_n 0, 1) := zDec_at zB_dX6_addSpan_0 24 rfl
theorem dX6_addSpan_39 : decode cX6_addSpan 39 = .ok (.getfield 36, 3) := zDec_at zB_dX6_addSpan_0 25 rfl
theorem dX6_addSpan_42 : decode cX6_addSpan 42 = .ok (.iload_n 2, 1) := zDec_at zB_dX6_addSpan_0 26 rfl
theorem dX6_addSpan_43 : decode cX6_addSpan 43 = .ok (.dup2, 1) := zDec_at zB_dX6_addSpan_0 27 rfl
theorem dX6_addSpan_44 : decode cX6_addSpan 44 = .ok (.iaload, 1) := zDec_at zB_dX6_addSpan_0 28 rfl
theorem dX6_addSpan_45 : decode cX6_addSpan 45 = .ok (.iconst 1, 1) := zDec_at zB_dX6_addSpan_0 29 rfl
theorem dX6_addSpan_46 : decode cX6_addSpan 46 = .ok (.iadd, 1) := zDec_at zB_dX6_addSpan_0 30 rfl
theorem dX6_addSpan_47 : decode cX6_addSpan 47 = .ok (.iastore, 1) := zDec_at zB_dX6_addSpan_0 31 rfl
theorem dX6_addSpan_48 : decode cX6_addSpan 48 = .ok (.aload_n 0, 1) := zDec_at zB_dX6_addSpan_0 32 rfl
theorem dX6_addSpan_49 : decode cX6_addSpan 49 = .ok (.getfield 36, 3) := zDec_at zB_dX6_addSpan_0 33 rfl
theorem dX6_addSpan_52 : decode cX6_addSpan 52 = .ok (.iload_n 2, 1) := zDec_at zB_dX6_addSpan_0 34 rfl
theorem dX6_addSpan_53 : decode cX6_addSpan 53 = .ok (.iaload, 1) := zDec_at zB_dX6_addSpan_0 35 rfl
theorem dX6_addSpan_54 : decode cX6_addSpan 54 = .ok (.ireturn, 1) := zDec_at zB_dX6_addSpan_0 36 rfl
theorem zB_dX6_becomeLike_0 : zDecB cX6_becomeLike [(0, .aload_n 0, 1), (1, .aload_n 1, 1), (2, .getfield 48, 3), (5, .putfield 48, 3), (8, .aload_n 1, 1), (9, .getfield 9, 3), (12, .aload_n 0, 1), (13, .getfield 9, 3), (16, .invokestatic 58, 3), (19, .aload_n 1, 1), (20, .getfield 15, 3), (23, .aload_n 0, 1), (24, .getfield 15, 3), (27, .invokestatic 58, 3), (30, .aload_n 1, 1), (31, .getfield 18, 3), (34, .aload_n 0, 1), (35, .getfield 18, 3), (38, .invokestatic 58, 3), (41, .aload_n 1, 1), (42, .getfield 21, 3), (45, .aload_n 0, 1), (46, .getfield 21, 3), (49, .invokestatic 58, 3), (52, .aload_n 1, 1), (53, .getfield 24, 3), (56, .aload_n 0, 1), (57, .getfield 24, 3), (60, .invokestatic 58, 3), (63, .aload_n 0, 1), (64, .aload_n 1, 1), (65, .getfield 52, 3), (68, .putfield 52, 3), (71, .aload_n 1, 1), (72, .getfield 27, 3), (75, .aload_n 0, 1), (76, .getfield 27, 3), (79, .invokestatic 58, 3), (82, .aload_n 0, 1), (83, .aload_n 1, 1)] = true := by decide +kernel
theorem dX6_becomeLike_0 : decode cX6_becomeLike 0 = .ok (.aload_n 0, 1) := zDec_at zB_dX6_becomeLike_0 0 rfl
theorem dX6_becomeLike_1 : decode cX6_becomeLike 1 = .ok (.aload_n 1, 1) := zDec_at zB_dX6_becomeLike_0 1 rfl
theorem dX6_becomeLike_2 : decode cX6_becomeLike 2 = .ok (.getfield 48, 3) := zDec_at zB_dX6_becomeLike_0 2 rfl
theorem dX6_becomeLike_5 : decode cX6_becomeLike 5 = .ok (.putfield 48, 3) := zDec_at zB_dX6_becomeLike_0 3 rfl
theorem dX6_becomeLike_8 : decode cX6_becomeLike 8 = .ok (.aload_n 1, 1) := zDec_at zB_dX6_becomeLike_0 4 rfl
theorem dX6_becomeLike_9 : decode cX6_becomeLike 9 = .ok (.getfield 9, 3) := zDec_at zB_dX6_becomeLike_0 5 rfl
theorem dX6_becomeLike_12 : decode cX6_becomeLike 12 = .ok (.aload_n 0, 1) := zDec_at zB_dX6_becomeLike_0 6 rfl
theorem dX6_becomeLike_13 : decode cX6_becomeLike 13 = .ok (.getfield 9, 3) := zDec_at zB_dX6_becomeLike_0 7 rfl
theorem dX6_becomeLike_16 : decode cX6_becomeLike 16 = .ok (.invokestatic 58, 3) := zDec_at zB_dX6_becomeLike_0 8 rfl
theorem dX6_becomeLike_19 : decode cX6_becomeLike 19 = .ok (.aload_n 1, 1) := zDec_at zB_dX6_becomeLike_0 9 rfl
theorem dX6_becomeLike_20 : decode cX6_becomeLike 20 = .ok (.getfield 15, 3) := zDec_at zB_dX6_becomeLike_0 10 rfl
theorem dX6_becomeLike_23 : decode cX6_becomeLike 23 = .ok (.aload_n 0, 1) := zDec_at zB_dX6_becomeLike_0 11 rfl
theorem dX6_becomeLike_24 : decode cX6_becomeLike 24 = .ok (.getfield 15, 3) := zDec_at zB_dX6_becomeLike_0 12 rfl
theorem dX6_becomeLike_27 : decode cX6_becomeLike 27 = .ok (.invokestatic 58, 3) := zDec_at zB_dX6_becomeLike_0 13 rfl
theorem dX6_becomeLike_30 : decode cX6_becomeLike 30 = .ok (.aload_n 1, 1) := zDec_at zB_dX6_becomeLike_0 14 rfl
theorem dX6_becomeLike_31 : decode cX6_becomeLike 31 = .ok (.getfield 18, 3) := zDec_at zB_dX6_becomeLike_0 15 rfl
theorem dX6_becomeLike_34 : decode cX6_becomeLike 34 = .ok (.aload_n 0, 1) := zDec_at zB_dX6_becomeLike_0 16 rfl
theorem dX6_becomeLike_35 : decode cX6_becomeLike 35 = .ok (.getfield 18, 3) := zDec_at zB_dX6_becomeLike_0 17 rfl
theorem dX6_becomeLike_38 : decode cX6_becomeLike 38 = .ok (.invokestatic 58, 3) := zDec_at zB_dX6_becomeLike_0 18 rfl
theorem dX6_becomeLike_41 : decode cX6_becomeLike 41 = .ok (.aload_n 1, 1) := zDec_at zB_dX6_becomeLike_0 19 rfl
theorem dX6_becomeLike_42 : decode cX6_becomeLike 42 = .ok (.getfield 21, 3) := zDec_at zB_dX6_becomeLike_0 20 rfl
theorem dX6_becomeLike_45 : decode cX6_becomeLike 45 = .ok (.aload_n 0, 1) := zDec_at zB_dX6_becomeLike_0 21 rfl
theorem dX6_becomeLike_46 : decode cX6_becomeLike 46 = .ok (.getfield 21, 3) := zDec_at zB_dX6_becomeLike_0 22 rfl
theorem dX6_becomeLike_49 : decode cX6_becomeLike 49 = .ok (.invokestatic 58, 3) := zDec_at zB_dX6_becomeLike_0 23 rfl
theorem dX6_becomeLike_52 : decode cX6_becomeLike 52 = .ok (.aload_n 1, 1) := zDec_at zB_dX6_becomeLike_0 24 rfl
theorem dX6_becomeLike_53 : decode cX6_becomeLike 53 = .ok (.getfield 24, 3) := zDec_at zB_dX6_becomeLike_0 25 rfl
theorem dX6_becomeLike_56 : decode cX6_becomeLike 56 = .ok (.aload_n 0, 1) := zDec_at zB_dX6_becomeLike_0 26 rfl
theorem dX6_becomeLike_57 : decode cX6_becomeLike 57 = .ok (.getfield 24, 3) := zDec_at zB_dX6_becomeLike_0 27 rfl
theorem dX6_becomeLike_60 : decode cX6_becomeLike 60 = .ok (.invokestatic 58, 3) := zDec_at zB_dX6_becomeLike_0 28 rfl
theorem dX6_becomeLike_63 : decode cX6_becomeLike 63 = .ok (.aload_n 0, 1) := zDec_at zB_dX6_becomeLike_0 29 rfl
theorem dX6_becomeLike_64 : decode cX6_becomeLike 64 = .ok (.aload_n 1, 1) := zDec_at zB_dX6_becomeLike_0 30 rfl
theorem dX6_becomeLike_65 : decode cX6_becomeLike 65 = .ok (.getfield 52, 3) := zDec_at zB_dX6_becomeLike_0 31 rfl
theorem dX6_becomeLike_68 : decode cX6_becomeLike 68 = .ok (.putfield 52, 3) := zDec_at zB_dX6_becomeLike_0 32 rfl
theorem dX6_becomeLike_71 : decode cX6_becomeLike 71 = .ok (.aload_n 1, 1) := zDec_at zB_dX6_becomeLike_0 33 rfl
theorem dX6_becomeLike_72 : decode cX6_becomeLike 72 = .ok (.getfield 27, 3) := zDec_at zB_dX6_becomeLike_0 34 rfl
theorem dX6_becomeLike_75 : decode cX6_becomeLike 75 = .ok (.aload_n 0, 1) := zDec_at zB_dX6_becomeLike_0 35 rfl
theorem dX6_becomeLike_76 : decode cX6_becomeLike 76 = .ok (.getfield 27, 3) := zDec_at zB_dX6_becomeLike_0 36 rfl
theorem dX6_becomeLike_79 : decode cX6_becomeLike 79 = .ok (.invokestatic 58, 3) := zDec_at zB_dX6_becomeLike_0 37 rfl
theorem dX6_becomeLike_82 : decode cX6_becomeLike 82 = .ok (.aload_n 0, 1) := zDec_at zB_dX6_becomeLike_0 38 rfl
theorem dX6_becomeLike_83 : decode cX6_becomeLike 83 = .ok (.aload_n 1, 1) := zDec_at zB_dX6_becomeLike_0 39 rfl
theorem zB_dX6_becomeLike_84 : zDecB cX6_becomeLike [(84, .getfield 55, 3), (87, .putfield 55, 3), (90, .aload_n 1, 1), (91, .getfield 30, 3), (94, .aload_n 0, 1), (95, .getfield 30, 3), (98, .invokestatic 58, 3), (101, .aload_n 1, 1), (102, .getfield 33, 3), (105, .aload_n 0, 1), (106, .getfield 33, 3), (109, .invokestatic 58, 3), (112, .aload_n 1, 1), (113, .getfield 36, 3), (116, .aload_n 0, 1), (117, .getfield 36, 3), (120, .invokestatic 58, 3), (123, .aload_n 1, 1), (124, .getfield 39, 3), (127, .aload_n 0, 1), (128, .getfield 39, 3), (131, .invokestatic 58, 3), (134, .aload_n 1, 1), (135, .getfield 42, 3), (138, .aload_n 0, 1), (139, .getfield 42, 3), (142, .invokestatic 58, 3), (145, .aload_n 1, 1), (146, .getfield 45, 3), (149, .aload_n 0, 1), (150, .getfield 45, 3), (153, .invokestatic 58, 3), (156, .return_, 1)] = true := by decide +kernel
theorem dX6_becomeLike_84 : decode cX6_becomeLike 84 = .ok (.getfield 55, 3) := zDec_at zB_dX6_becomeLike_84 0 rfl
theorem dX6_becomeLike_87 : decode cX6_becomeLike 87 = .ok (.putfield 55, 3) := zDec_at zB_dX6_becomeLike_84 1 rfl
theorem dX6_becomeLike_90 : decode cX6_becomeLike 90 = .ok (.aload_n 1, 1) := zDec_at zB_dX6_becomeLike_84 2 rfl
theorem dX6_becomeLike_91 : decode cX6_becomeLike 91 = .ok (.getfield 30, 3) := zDec_at zB_dX6_becomeLike_84 3 rfl
theorem dX6_becomeLike_94 : decode cX6_becomeLike 94 = .ok (.aload_n 0, 1) := zDec_at zB_dX6_becomeLike_84 4 rfl
theorem dX6_becomeLike_95 : decode cX6_becomeLike 95 = .ok (.getfield 30, 3) := zDec_at zB_dX6_becomeLike_84 5 rfl
theorem dX6_becomeLike_98 : decode cX6_becomeLike 98 = .ok (.invokestatic 58, 3) := zDec_at zB_dX6_becomeLike_84 6 rfl
theorem dX6_becomeLike_101 : decode cX6_becomeLike 101 = .ok (.aload_n 1, 1) := zDec_at zB_dX6_becomeLike_84 7 rfl
theorem dX6_becomeLike_102 : decode cX6_becomeLike 102 = .ok (.getfield 33, 3) := zDec_at zB_dX6_becomeLike_84 8 rfl
theorem dX6_becomeLike_105 : decode cX6_becomeLike 105 = .ok (.aload_n 0, 1) := zDec_at zB_dX6_becomeLike_84 9 rfl
theorem dX6_becomeLike_106 : decode cX6_becomeLike 106 = .ok (.getfield 33, 3) := zDec_at zB_dX6_becomeLike_84 10 rfl
theorem dX6_becomeLike_109 : decode cX6_becomeLike 109 = .ok (.invokestatic 58, 3) := zDec_at zB_dX6_becomeLike_84 11 rfl
theorem dX6_becomeLike_112 : decode cX6_becomeLike 112 = .ok (.aload_n 1, 1) := zDec_at zB_dX6_becomeLike_84 12 rfl
theorem dX6_becomeLike_113 : decode cX6_becomeLike 113 = .ok (.getfield 36, 3) := zDec_at zB_dX6_becomeLike_84 13 rfl
theorem dX6_becomeLike_116 : decode cX6_becomeLike 116 = .ok (.aload_n 0, 1) := zDec_at zB_dX6_becomeLike_84 14 rfl
theorem dX6_becomeLike_117 : decode cX6_becomeLike 117 = .ok (.getfield 36, 3) := zDec_at zB_dX6_becomeLike_84 15 rfl
theorem dX6_becomeLike_120 : decode cX6_becomeLike 120 = .ok (.invokestatic 58, 3) := zDec_at zB_dX6_becomeLike_84 16 rfl
theorem dX6_becomeLike_123 : decode cX6_becomeLike 123 = .ok (.aload_n 1, 1) := zDec_at zB_dX6_becomeLike_84 17 rfl
theorem dX6_becomeLike_124 : decode cX6_becomeLike 124 = .ok (.getfield 39, 3) := zDec_at zB_dX6_becomeLike_84 18 rfl
theorem dX6_becomeLike_127 : decode cX6_becomeLike 127 = .ok (.aload_n 0, 1) := zDec_at zB_dX6_becomeLike_84 19 rfl
theorem dX6_becomeLike_128 : decode cX6_becomeLike 128 = .ok (.getfield 39, 3) := zDec_at zB_dX6_becomeLike_84 20 rfl
theorem dX6_becomeLike_131 : decode cX6_becomeLike 131 = .ok (.invokestatic 58, 3) := zDec_at zB_dX6_becomeLike_84 21 rfl
theorem dX6_becomeLike_134 : decode cX6_becomeLike 134 = .ok (.aload_n 1, 1) := zDec_at zB_dX6_becomeLike_84 22 rfl
theorem dX6_becomeLike_135 : decode cX6_becomeLike 135 = .ok (.getfield 42, 3) := zDec_at zB_dX6_becomeLike_84 23 rfl
theorem dX6_becomeLike_138 : decode cX6_becomeLike 138 = .ok (.aload_n 0, 1) := zDec_at zB_dX6_becomeLike_84 24 rfl
theorem dX6_becomeLike_139 : decode cX6_becomeLike 139 = .ok (.getfield 42, 3) := zDec_at zB_dX6_becomeLike_84 25 rfl
theorem dX6_becomeLike_142 : decode cX6_becomeLike 142 = .ok (.invokestatic 58, 3) := zDec_at zB_dX6_becomeLike_84 26 rfl
theorem dX6_becomeLike_145 : decode cX6_becomeLike 145 = .ok (.aload_n 1, 1) := zDec_at zB_dX6_becomeLike_84 27 rfl
theorem dX6_becomeLike_146 : decode cX6_becomeLike 146 = .ok (.getfield 45, 3) := zDec_at zB_dX6_becomeLike_84 28 rfl
theorem dX6_becomeLike_149 : decode cX6_becomeLike 149 = .ok (.aload_n 0, 1) := zDec_at zB_dX6_becomeLike_84 29 rfl
theorem dX6_becomeLike_150 : decode cX6_becomeLike 150 = .ok (.getfield 45, 3) := zDec_at zB_dX6_becomeLike_84 30 rfl
theorem dX6_becomeLike_153 : decode cX6_becomeLike 153 = .ok (.invokestatic 58, 3) := zDec_at zB_dX6_becomeLike_84 31 rfl
theorem dX6_becomeLike_156 : decode cX6_becomeLike 156 = .ok (.return_, 1) := zDec_at zB_dX6_becomeLike_84 32 rfl
theorem zB_dX6_hasFailed_0 : zDecB cX6_hasFailed [(0, .iconst 0, 1), (1, .istore_n 3, 1), (2, .iload_n 3, 1), (3, .aload_n 0, 1), (4, .getfield 55, 3), (7, .if_icmp .ge 31, 3), (10, .aload_n 0, 1), (11, .getfield 30, 3), (14, .iload_n 3, 1), (15, .iaload, 1), (16, .iload_n 1, 1), (17, .if_icmp .ne 15, 3), (20, .aload_n 0, 1), (21, .getfield 33, 3), (24, .iload_n 3, 1), (25, .iaload, 1), (26, .iload_n 2, 1), (27, .if_icmp .ne 5, 3), (30, .iconst 1, 1), (31, .ireturn, 1), (32, .iinc 3 1, 3), (35, .goto (-33), 3), (38, .iconst 0, 1), (39, .ireturn, 1)] = true := by decide +kernel
theorem dX6_hasFailed_0 : decode cX6_hasFailed 0 = .ok (.iconst 0, 1) := zDec_at zB_dX6_hasFailed_0 0 rfl
theorem dX6_hasFailed_1 : decode cX6_hasFailed 1 = .ok (.istore_n 3, 1) := zDec_at zB_dX6_hasFailed_0 1 rfl
theorem dX6_hasFailed_2 : decode cX6_hasFailed 2 = .ok (.iload_n 3, 1) := zDec_at zB_dX6_hasFailed_0 2 rfl
theorem dX6_hasFailed_3 : decode cX6_hasFailed 3 = .ok (.aload_n 0, 1) := zDec_at zB_dX6_hasFailed_0 3 rfl
theorem dX6_hasFailed_4 : decode cX6_hasFailed 4 = .ok (.getfield 55, 3) := zDec_at zB_dX6_hasFailed_0 4 rfl
theorem dX6_hasFailed_7 : decode cX6_hasFailed 7 = .ok (.if_icmp .ge 31, 3) := zDec_at zB_dX6_hasFailed_0 5 rfl
theorem dX6_hasFailed_10 : decode cX6_hasFailed 10 = .ok (.aload_n 0, 1) := zDec_at zB_dX6_hasFailed_0 6 rfl
theorem dX6_hasFailed_11 : decode cX6_hasFailed 11 = .ok (.getfield 30, 3) := zDec_at zB_dX6_hasFailed_0 7 rfl
theorem dX6_hasFailed_14 : decode cX6_hasFailed 14 = .ok (.iload_n 3, 1) := zDec_at zB_dX6_hasFailed_0 8 rfl
theorem dX6_hasFailed_15 : decode cX6_hasFailed 15 = .ok (.iaload, 1) := zDec_at zB_dX6_hasFailed_0 9 rfl
theorem dX6_hasFailed_16 : decode cX6_hasFailed 16 = .ok (.iload_n 1, 1) := zDec_at zB_dX6_hasFailed_0 10 rfl
theorem dX6_hasFailed_17 : decode cX6_hasFailed 17 = .ok (.if_icmp .ne 15, 3) := zDec_at zB_dX6_hasFailed_0 11 rfl
theorem dX6_hasFailed_20 : decode cX6_hasFailed 20 = .ok (.aload_n 0, 1) := zDec_at zB_dX6_hasFailed_0 12 rfl
theorem dX6_hasFailed_21 : decode cX6_hasFailed 21 = .ok (.getfield 33, 3) := zDec_at zB_dX6_hasFailed_0 13 rfl
theorem dX6_hasFailed_24 : decode cX6_hasFailed 24 = .ok (.iload_n 3, 1) := zDec_at zB_dX6_hasFailed_0 14 rfl
theorem dX6_hasFailed_25 : decode cX6_hasFailed 25 = .ok (.iaload, 1) := zDec_at zB_dX6_hasFailed_0 15 rfl
theorem dX6_hasFailed_26 : decode cX6_hasFailed 26 = .ok (.iload_n 2, 1) := zDec_at zB_dX6_hasFailed_0 16 rfl
theorem dX6_hasFailed_27 : decode cX6_hasFailed 27 = .ok (.if_icmp .ne 5, 3) := zDec_at zB_dX6_hasFailed_0 17 rfl
theorem dX6_hasFailed_30 : decode cX6_hasFailed 30 = .ok (.iconst 1, 1) := zDec_at zB_dX6_hasFailed_0 18 rfl
theorem dX6_hasFailed_31 : decode cX6_hasFailed 31 = .ok (.ireturn, 1) := zDec_at zB_dX6_hasFailed_0 19 rfl
theorem dX6_hasFailed_32 : decode cX6_hasFailed 32 = .ok (.iinc 3 1, 3) := zDec_at zB_dX6_hasFailed_0 20 rfl
theorem dX6_hasFailed_35 : decode cX6_hasFailed 35 = .ok (.goto (-33), 3) := zDec_at zB_dX6_hasFailed_0 21 rfl
theorem dX6_hasFailed_38 : decode cX6_hasFailed 38 = .ok (.iconst 0, 1) := zDec_at zB_dX6_hasFailed_0 22 rfl
theorem dX6_hasFailed_39 : decode cX6_hasFailed 39 = .ok (.ireturn, 1) := zDec_at zB_dX6_hasFailed_0 23 rfl
theorem zB_dX6_init_0 : zDecB cX6_init [(0, .aload_n 0, 1), (1, .invokespecial 3, 3), (4, .aload_n 0, 1), (5, .bipush 40, 2), (7, .newarray .int, 2), (9, .putfield 9, 3), (12, .aload_n 0, 1), (13, .bipush 40, 2), (15, .newarray .int, 2), (17, .putfield 15, 3), (20, .aload_n 0, 1), (21, .bipush 40, 2), (23, .newarray .int, 2), (25, .putfield 18, 3), (28, .aload_n 0, 1), (29, .bipush 40, 2), (31, .newarray .int, 2), (33, .putfield 21, 3), (36, .aload_n 0, 1), (37, .bipush 40, 2), (39, .newarray .int, 2), (41, .putfield 24, 3), (44, .aload_n 0, 1), (45, .sipush 400, 3), (48, .newarray .int, 2), (50, .putfield 27, 3), (53, .aload_n 0, 1), (54, .bipush 60, 2), (56, .newarray .int, 2), (58, .putfield 30, 3), (61, .aload_n 0, 1), (62, .bipush 60, 2), (64, .newarray .int, 2), (66, .putfield 33, 3), (69, .aload_n 0, 1), (70, .iconst 2, 1), (71, .newarray .int, 2), (73, .putfield 36, 3), (76, .aload_n 0, 1), (77, .bipush 120, 2)] = true := by decide +kernel
theorem dX6_init_0 : decode cX6_init 0 = .ok (.aload_n 0, 1) := zDec_at zB_dX6_init_0 0 rfl
theorem dX6_init_1 : decode cX6_init 1 = .ok (.invokespecial 3, 3) := zDec_at zB_dX6_init_0 1 rfl
theorem dX6_init_4 : decode cX6_init 4 = .ok (.aload_n 0, 1) := zDec_at zB_dX6_init_0 2 rfl
theorem dX6_init_5 : decode cX6_init 5 = .ok (.bipush 40, 2) := zDec_at zB_dX6_init_0 3 rfl
theorem dX6_init_7 : decode cX6_init 7 = .ok (.newarray .int, 2) := zDec_at zB_dX6_init_0 4 rfl
theorem dX6_init_9 : decode cX6_init 9 = .ok (.putfield 9, 3) := zDec_at zB_dX6_init_0 5 rfl
theorem dX6_init_12 : decode cX6_init 12 = .ok (.aload_n 0, 1) := zDec_at zB_dX6_init_0 6 rfl
theorem dX6_init_13 : decode cX6_init 13 = .ok (.bipush 40, 2) := zDec_at zB_dX6_init_0 7 rfl
theorem dX6_init_15 : decode cX6_init 15 = .ok (.newarray .int, 2) := zDec_at zB_dX6_init_0 8 rfl
theorem dX6_init_17 : decode cX6_init 17 = .ok (.putfield 15, 3) := zDec_at zB_dX6_init_0 9 rfl
theorem dX6_init_20 : decode cX6_init 20 = .ok (.aload_n 0, 1) := zDec_at zB_dX6_init_0 10 rfl
theorem dX6_init_21 : decode cX6_init 21 = .ok (.bipush 40, 2) := zDec_at zB_dX6_init_0 11 rfl
theorem dX6_init_23 : decode cX6_init 23 = .ok (.newarray .int, 2) := zDec_at zB_dX6_init_0 12 rfl
theorem dX6_init_25 : decode cX6_init 25 = .ok (.putfield 18, 3) := zDec_at zB_dX6_init_0 13 rfl
theorem dX6_init_28 : decode cX6_init 28 = .ok (.aload_n 0, 1) := zDec_at zB_dX6_init_0 14 rfl
theorem dX6_init_29 : decode cX6_init 29 = .ok (.bipush 40, 2) := zDec_at zB_dX6_init_0 15 rfl
theorem dX6_init_31 : decode cX6_init 31 = .ok (.newarray .int, 2) := zDec_at zB_dX6_init_0 16 rfl
theorem dX6_init_33 : decode cX6_init 33 = .ok (.putfield 21, 3) := zDec_at zB_dX6_init_0 17 rfl
theorem dX6_init_36 : decode cX6_init 36 = .ok (.aload_n 0, 1) := zDec_at zB_dX6_init_0 18 rfl
theorem dX6_init_37 : decode cX6_init 37 = .ok (.bipush 40, 2) := zDec_at zB_dX6_init_0 19 rfl
theorem dX6_init_39 : decode cX6_init 39 = .ok (.newarray .int, 2) := zDec_at zB_dX6_init_0 20 rfl
theorem dX6_init_41 : decode cX6_init 41 = .ok (.putfield 24, 3) := zDec_at zB_dX6_init_0 21 rfl
theorem dX6_init_44 : decode cX6_init 44 = .ok (.aload_n 0, 1) := zDec_at zB_dX6_init_0 22 rfl
theorem dX6_init_45 : decode cX6_init 45 = .ok (.sipush 400, 3) := zDec_at zB_dX6_init_0 23 rfl
theorem dX6_init_48 : decode cX6_init 48 = .ok (.newarray .int, 2) := zDec_at zB_dX6_init_0 24 rfl
theorem dX6_init_50 : decode cX6_init 50 = .ok (.putfield 27, 3) := zDec_at zB_dX6_init_0 25 rfl
theorem dX6_init_53 : decode cX6_init 53 = .ok (.aload_n 0, 1) := zDec_at zB_dX6_init_0 26 rfl
theorem dX6_init_54 : decode cX6_init 54 = .ok (.bipush 60, 2) := zDec_at zB_dX6_init_0 27 rfl
theorem dX6_init_56 : decode cX6_init 56 = .ok (.newarray .int, 2) := zDec_at zB_dX6_init_0 28 rfl
theorem dX6_init_58 : decode cX6_init 58 = .ok (.putfield 30, 3) := zDec_at zB_dX6_init_0 29 rfl
theorem dX6_init_61 : decode cX6_init 61 = .ok (.aload_n 0, 1) := zDec_at zB_dX6_init_0 30 rfl
theorem dX6_init_62 : decode cX6_init 62 = .ok (.bipush 60, 2) := zDec_at zB_dX6_init_0 31 rfl
theorem dX6_init_64 : decode cX6_init 64 = .ok (.newarray .int, 2) := zDec_at zB_dX6_init_0 32 rfl
theorem dX6_init_66 : decode cX6_init 66 = .ok (.putfield 33, 3) := zDec_at zB_dX6_init_0 33 rfl
theorem dX6_init_69 : decode cX6_init 69 = .ok (.aload_n 0, 1) := zDec_at zB_dX6_init_0 34 rfl
theorem dX6_init_70 : decode cX6_init 70 = .ok (.iconst 2, 1) := zDec_at zB_dX6_init_0 35 rfl
theorem dX6_init_71 : decode cX6_init 71 = .ok (.newarray .int, 2) := zDec_at zB_dX6_init_0 36 rfl
theorem dX6_init_73 : decode cX6_init 73 = .ok (.putfield 36, 3) := zDec_at zB_dX6_init_0 37 rfl
theorem dX6_init_76 : decode cX6_init 76 = .ok (.aload_n 0, 1) := zDec_at zB_dX6_init_0 38 rfl
theorem dX6_init_77 : decode cX6_init 77 = .ok (.bipush 120, 2) := zDec_at zB_dX6_init_0 39 rfl
theorem zB_dX6_init_79 : zDecB cX6_init [(79, .newarray .int, 2), (81, .putfield 39, 3), (84, .aload_n 0, 1), (85, .bipush 120, 2), (87, .newarray .int, 2), (89, .putfield 42, 3), (92, .aload_n 0, 1), (93, .bipush 120, 2), (95, .newarray .int, 2), (97, .putfield 45, 3), (100, .return_, 1)] = true := by decide +kernel
theorem dX6_init_79 : decode cX6_init 79 = .ok (.newarray .int, 2) := zDec_at zB_dX6_init_79 0 rfl
theorem dX6_init_81 : decode cX6_init 81 = .ok (.putfield 39, 3) := zDec_at zB_dX6_init_79 1 rfl
theorem dX6_init_84 : decode cX6_init 84 = .ok (.aload_n 0, 1) := zDec_at zB_dX6_init_79 2 rfl
theorem dX6_init_85 : decode cX6_init 85 = .ok (.bipush 120, 2) := zDec_at zB_dX6_init_79 3 rfl
theorem dX6_init_87 : decode cX6_init 87 = .ok (.newarray .int, 2) := zDec_at zB_dX6_init_79 4 rfl
theorem dX6_init_89 : decode cX6_init 89 = .ok (.putfield 42, 3) := zDec_at zB_dX6_init_79 5 rfl
theorem dX6_init_92 : decode cX6_init 92 = .ok (.aload_n 0, 1) := zDec_at zB_dX6_init_79 6 rfl
theorem dX6_init_93 : decode cX6_init 93 = .ok (.bipush 120, 2) := zDec_at zB_dX6_init_79 7 rfl
theorem dX6_init_95 : decode cX6_init 95 = .ok (.newarray .int, 2) := zDec_at zB_dX6_init_79 8 rfl
theorem dX6_init_97 : decode cX6_init 97 = .ok (.putfield 45, 3) := zDec_at zB_dX6_init_79 9 rfl
theorem dX6_init_100 : decode cX6_init 100 = .ok (.return_, 1) := zDec_at zB_dX6_init_79 10 rfl
theorem zB_dX6_isNoChild_0 : zDecB cX6_isNoChild [(0, .iload_n 1, 1), (1, .ifCond .lt 11, 3), (4, .iload_n 1, 1), (5, .aload_n 0, 1), (6, .getfield 48, 3), (9, .if_icmp .lt 7, 3), (12, .iconst 1, 1), (13, .goto 4, 3), (16, .iconst 0, 1), (17, .ireturn, 1)] = true := by decide +kernel
theorem dX6_isNoChild_0 : decode cX6_isNoChild 0 = .ok (.iload_n 1, 1) := zDec_at zB_dX6_isNoChild_0 0 rfl
theorem dX6_isNoChild_1 : decode cX6_isNoChild 1 = .ok (.ifCond .lt 11, 3) := zDec_at zB_dX6_isNoChild_0 1 rfl
theorem dX6_isNoChild_4 : decode cX6_isNoChild 4 = .ok (.iload_n 1, 1) := zDec_at zB_dX6_isNoChild_0 2 rfl
theorem dX6_isNoChild_5 : decode cX6_isNoChild 5 = .ok (.aload_n 0, 1) := zDec_at zB_dX6_isNoChild_0 3 rfl
theorem dX6_isNoChild_6 : decode cX6_isNoChild 6 = .ok (.getfield 48, 3) := zDec_at zB_dX6_isNoChild_0 4 rfl
theorem dX6_isNoChild_9 : decode cX6_isNoChild 9 = .ok (.if_icmp .lt 7, 3) := zDec_at zB_dX6_isNoChild_0 5 rfl
theorem dX6_isNoChild_12 : decode cX6_isNoChild 12 = .ok (.iconst 1, 1) := zDec_at zB_dX6_isNoChild_0 6 rfl
theorem dX6_isNoChild_13 : decode cX6_isNoChild 13 = .ok (.goto 4, 3) := zDec_at zB_dX6_isNoChild_0 7 rfl
theorem dX6_isNoChild_16 : decode cX6_isNoChild 16 = .ok (.iconst 0, 1) := zDec_at zB_dX6_isNoChild_0 8 rfl
theorem dX6_isNoChild_17 : decode cX6_isNoChild 17 = .ok (.ireturn, 1) := zDec_at zB_dX6_isNoChild_0 9 rfl
theorem zB_dX6_isNoSchool_0 : zDecB cX6_isNoSchool [(0, .iload_n 1, 1), (1, .ifCond .lt 11, 3), (4, .iload_n 1, 1), (5, .aload_n 0, 1), (6, .getfield 52, 3), (9, .if_icmp .lt 7, 3), (12, .iconst 1, 1), (13, .goto 4, 3), (16, .iconst 0, 1), (17, .ireturn, 1)] = true := by decide +kernel
theorem dX6_isNoSchool_0 : decode cX6_isNoSchool 0 = .ok (.iload_n 1, 1) := zDec_at zB_dX6_isNoSchool_0 0 rfl
theorem dX6_isNoSchool_1 : decode cX6_isNoSchool 1 = .ok (.ifCond .lt 11, 3) := zDec_at zB_dX6_isNoSchool_0 1 rfl
theorem dX6_isNoSchool_4 : decode cX6_isNoSchool 4 = .ok (.iload_n 1, 1) := zDec_at zB_dX6_isNoSchool_0 2 rfl
theorem dX6_isNoSchool_5 : decode cX6_isNoSchool 5 = .ok (.aload_n 0, 1) := zDec_at zB_dX6_isNoSchool_0 3 rfl
theorem dX6_isNoSchool_6 : decode cX6_isNoSchool 6 = .ok (.getfield 52, 3) := zDec_at zB_dX6_isNoSchool_0 4 rfl
theorem dX6_isNoSchool_9 : decode cX6_isNoSchool 9 = .ok (.if_icmp .lt 7, 3) := zDec_at zB_dX6_isNoSchool_0 5 rfl
theorem dX6_isNoSchool_12 : decode cX6_isNoSchool 12 = .ok (.iconst 1, 1) := zDec_at zB_dX6_isNoSchool_0 6 rfl
theorem dX6_isNoSchool_13 : decode cX6_isNoSchool 13 = .ok (.goto 4, 3) := zDec_at zB_dX6_isNoSchool_0 7 rfl
theorem dX6_isNoSchool_16 : decode cX6_isNoSchool 16 = .ok (.iconst 0, 1) := zDec_at zB_dX6_isNoSchool_0 8 rfl
theorem dX6_isNoSchool_17 : decode cX6_isNoSchool 17 = .ok (.ireturn, 1) := zDec_at zB_dX6_isNoSchool_0 9 rfl
theorem zB_dX6_isShut_0 : zDecB cX6_isShut [(0, .aload_n 0, 1), (1, .getfield 27, 3), (4, .iload_n 2, 1), (5, .iaload, 1), (6, .iload_n 1, 1), (7, .ishr, 1), (8, .iconst 1, 1), (9, .iand, 1), (10, .iconst 1, 1), (11, .if_icmp .ne 7, 3), (14, .iconst 1, 1), (15, .goto 4, 3), (18, .iconst 0, 1), (19, .ireturn, 1)] = true := by decide +kernel
theorem dX6_isShut_0 : decode cX6_isShut 0 = .ok (.aload_n 0, 1) := zDec_at zB_dX6_isShut_0 0 rfl
theorem dX6_isShut_1 : decode cX6_isShut 1 = .ok (.getfield 27, 3) := zDec_at zB_dX6_isShut_0 1 rfl
theorem dX6_isShut_4 : decode cX6_isShut 4 = .ok (.iload_n 2, 1) := zDec_at zB_dX6_isShut_0 2 rfl
theorem dX6_isShut_5 : decode cX6_isShut 5 = .ok (.iaload, 1) := zDec_at zB_dX6_isShut_0 3 rfl
theorem dX6_isShut_6 : decode cX6_isShut 6 = .ok (.iload_n 1, 1) := zDec_at zB_dX6_isShut_0 4 rfl
theorem dX6_isShut_7 : decode cX6_isShut 7 = .ok (.ishr, 1) := zDec_at zB_dX6_isShut_0 5 rfl
theorem dX6_isShut_8 : decode cX6_isShut 8 = .ok (.iconst 1, 1) := zDec_at zB_dX6_isShut_0 6 rfl
theorem dX6_isShut_9 : decode cX6_isShut 9 = .ok (.iand, 1) := zDec_at zB_dX6_isShut_0 7 rfl
theorem dX6_isShut_10 : decode cX6_isShut 10 = .ok (.iconst 1, 1) := zDec_at zB_dX6_isShut_0 8 rfl
theorem dX6_isShut_11 : decode cX6_isShut 11 = .ok (.if_icmp .ne 7, 3) := zDec_at zB_dX6_isShut_0 9 rfl
theorem dX6_isShut_14 : decode cX6_isShut 14 = .ok (.iconst 1, 1) := zDec_at zB_dX6_isShut_0 10 rfl
theorem dX6_isShut_15 : decode cX6_isShut 15 = .ok (.goto 4, 3) := zDec_at zB_dX6_isShut_0 11 rfl
theorem dX6_isShut_18 : decode cX6_isShut 18 = .ok (.iconst 0, 1) := zDec_at zB_dX6_isShut_0 12 rfl
theorem dX6_isShut_19 : decode cX6_isShut 19 = .ok (.ireturn, 1) := zDec_at zB_dX6_isShut_0 13 rfl
theorem zB_dX6_isWithin_0 : zDecB cX6_isWithin [(0, .iload_n 2, 1), (1, .bipush 60, 2), (3, .imul, 1), (4, .istore 4, 2), (6, .iload 4, 2), (8, .istore 5, 2), (10, .iload 5, 2), (12, .iload 4, 2), (14, .aload_n 0, 1), (15, .getfield 36, 3), (18, .iload_n 2, 1), (19, .iaload, 1), (20, .iadd, 1), (21, .if_icmp .ge 44, 3), (24, .aload_n 0, 1), (25, .getfield 39, 3), (28, .iload 5, 2), (30, .iaload, 1), (31, .iload_n 1, 1), (32, .if_icmp .ne 27, 3), (35, .aload_n 0, 1), (36, .getfield 42, 3), (39, .iload 5, 2), (41, .iaload, 1), (42, .iload_n 3, 1), (43, .if_icmp .gt 16, 3), (46, .iload_n 3, 1), (47, .aload_n 0, 1), (48, .getfield 45, 3), (51, .iload 5, 2), (53, .iaload, 1), (54, .if_icmp .gt 5, 3), (57, .iconst 1, 1), (58, .ireturn, 1), (59, .iinc 5 1, 3), (62, .goto (-52), 3), (65, .iconst 0, 1), (66, .ireturn, 1)] = true := by decide +kernel
theorem dX6_isWithin_0 : decode cX6_isWithin 0 = .ok (.iload_n 2, 1) := zDec_at zB_dX6_isWithin_0 0 rfl
theorem dX6_isWithin_1 : decode cX6_isWithin 1 = .ok (.bipush 60, 2) := zDec_at zB_dX6_isWithin_0 1 rfl
theorem dX6_isWithin_3 : decode cX6_isWithin 3 = .ok (.imul, 1) := zDec_at zB_dX6_isWithin_0 2 rfl
theorem dX6_isWithin_4 : decode cX6_isWithin 4 = .ok (.istore 4, 2) := zDec_at zB_dX6_isWithin_0 3 rfl
theorem dX6_isWithin_6 : decode cX6_isWithin 6 = .ok (.iload 4, 2) := zDec_at zB_dX6_isWithin_0 4 rfl
theorem dX6_isWithin_8 : decode cX6_isWithin 8 = .ok (.istore 5, 2) := zDec_at zB_dX6_isWithin_0 5 rfl
theorem dX6_isWithin_10 : decode cX6_isWithin 10 = .ok (.iload 5, 2) := zDec_at zB_dX6_isWithin_0 6 rfl
theorem dX6_isWithin_12 : decode cX6_isWithin 12 = .ok (.iload 4, 2) := zDec_at zB_dX6_isWithin_0 7 rfl
theorem dX6_isWithin_14 : decode cX6_isWithin 14 = .ok (.aload_n 0, 1) := zDec_at zB_dX6_isWithin_0 8 rfl
theorem dX6_isWithin_15 : decode cX6_isWithin 15 = .ok (.getfield 36, 3) := zDec_at zB_dX6_isWithin_0 9 rfl
theorem dX6_isWithin_18 : decode cX6_isWithin 18 = .ok (.iload_n 2, 1) := zDec_at zB_dX6_isWithin_0 10 rfl
theorem dX6_isWithin_19 : decode cX6_isWithin 19 = .ok (.iaload, 1) := zDec_at zB_dX6_isWithin_0 11 rfl
theorem dX6_isWithin_20 : decode cX6_isWithin 20 = .ok (.iadd, 1) := zDec_at zB_dX6_isWithin_0 12 rfl
theorem dX6_isWithin_21 : decode cX6_isWithin 21 = .ok (.if_icmp .ge 44, 3) := zDec_at zB_dX6_isWithin_0 13 rfl
theorem dX6_isWithin_24 : decode cX6_isWithin 24 = .ok (.aload_n 0, 1) := zDec_at zB_dX6_isWithin_0 14 rfl
theorem dX6_isWithin_25 : decode cX6_isWithin 25 = .ok (.getfield 39, 3) := zDec_at zB_dX6_isWithin_0 15 rfl
theorem dX6_isWithin_28 : decode cX6_isWithin 28 = .ok (.iload 5, 2) := zDec_at zB_dX6_isWithin_0 16 rfl
theorem dX6_isWithin_30 : decode cX6_isWithin 30 = .ok (.iaload, 1) := zDec_at zB_dX6_isWithin_0 17 rfl
theorem dX6_isWithin_31 : decode cX6_isWithin 31 = .ok (.iload_n 1, 1) := zDec_at zB_dX6_isWithin_0 18 rfl
theorem dX6_isWithin_32 : decode cX6_isWithin 32 = .ok (.if_icmp .ne 27, 3) := zDec_at zB_dX6_isWithin_0 19 rfl
theorem dX6_isWithin_35 : decode cX6_isWithin 35 = .ok (.aload_n 0, 1) := zDec_at zB_dX6_isWithin_0 20 rfl
theorem dX6_isWithin_36 : decode cX6_isWithin 36 = .ok (.getfield 42, 3) := zDec_at zB_dX6_isWithin_0 21 rfl
theorem dX6_isWithin_39 : decode cX6_isWithin 39 = .ok (.iload 5, 2) := zDec_at zB_dX6_isWithin_0 22 rfl
theorem dX6_isWithin_41 : decode cX6_isWithin 41 = .ok (.iaload, 1) := zDec_at zB_dX6_isWithin_0 23 rfl
theorem dX6_isWithin_42 : decode cX6_isWithin 42 = .ok (.iload_n 3, 1) := zDec_at zB_dX6_isWithin_0 24 rfl
theorem dX6_isWithin_43 : decode cX6_isWithin 43 = .ok (.if_icmp .gt 16, 3) := zDec_at zB_dX6_isWithin_0 25 rfl
theorem dX6_isWithin_46 : decode cX6_isWithin 46 = .ok (.iload_n 3, 1) := zDec_at zB_dX6_isWithin_0 26 rfl
theorem dX6_isWithin_47 : decode cX6_isWithin 47 = .ok (.aload_n 0, 1) := zDec_at zB_dX6_isWithin_0 27 rfl
theorem dX6_isWithin_48 : decode cX6_isWithin 48 = .ok (.getfield 45, 3) := zDec_at zB_dX6_isWithin_0 28 rfl
theorem dX6_isWithin_51 : decode cX6_isWithin 51 = .ok (.iload 5, 2) := zDec_at zB_dX6_isWithin_0 29 rfl
theorem dX6_isWithin_53 : decode cX6_isWithin 53 = .ok (.iaload, 1) := zDec_at zB_dX6_isWithin_0 30 rfl
theorem dX6_isWithin_54 : decode cX6_isWithin 54 = .ok (.if_icmp .gt 5, 3) := zDec_at zB_dX6_isWithin_0 31 rfl
theorem dX6_isWithin_57 : decode cX6_isWithin 57 = .ok (.iconst 1, 1) := zDec_at zB_dX6_isWithin_0 32 rfl
theorem dX6_isWithin_58 : decode cX6_isWithin 58 = .ok (.ireturn, 1) := zDec_at zB_dX6_isWithin_0 33 rfl
theorem dX6_isWithin_59 : decode cX6_isWithin 59 = .ok (.iinc 5 1, 3) := zDec_at zB_dX6_isWithin_0 34 rfl
theorem dX6_isWithin_62 : decode cX6_isWithin 62 = .ok (.goto (-52), 3) := zDec_at zB_dX6_isWithin_0 35 rfl
theorem dX6_isWithin_65 : decode cX6_isWithin 65 = .ok (.iconst 0, 1) := zDec_at zB_dX6_isWithin_0 36 rfl
theorem dX6_isWithin_66 : decode cX6_isWithin 66 = .ok (.ireturn, 1) := zDec_at zB_dX6_isWithin_0 37 rfl
theorem zB_dX7_append_0 : zDecB cX7_append [(0, .bipush 24, 2), (2, .istore_n 2, 1), (3, .iload_n 2, 1), (4, .ifCond .lt 45, 3), (7, .aload_n 0, 1), (8, .getfield 31, 3), (11, .sipush 400, 3), (14, .if_icmp .ge 35, 3), (17, .aload_n 0, 1), (18, .getfield 9, 3), (21, .aload_n 0, 1), (22, .getfield 31, 3), (25, .iload_n 1, 1), (26, .iload_n 2, 1), (27, .ishr, 1), (28, .sipush 255, 3), (31, .iand, 1), (32, .iastore, 1), (33, .aload_n 0, 1), (34, .dup, 1), (35, .getfield 31, 3), (38, .iconst 1, 1), (39, .iadd, 1), (40, .putfield 31, 3), (43, .iinc 2 (-8), 3), (46, .goto (-43), 3), (49, .return_, 1)] = true := by decide +kernel
theorem dX7_append_0 : decode cX7_append 0 = .ok (.bipush 24, 2) := zDec_at zB_dX7_append_0 0 rfl
theorem dX7_append_2 : decode cX7_append 2 = .ok (.istore_n 2, 1) := zDec_at zB_dX7_append_0 1 rfl
theorem dX7_append_3 : decode cX7_append 3 = .ok (.iload_n 2, 1) := zDec_at zB_dX7_append_0 2 rfl
theorem dX7_append_4 : decode cX7_append 4 = .ok (.ifCond .lt 45, 3) := zDec_at zB_dX7_append_0 3 rfl
theorem dX7_append_7 : decode cX7_append 7 = .ok (.aload_n 0, 1) := zDec_at zB_dX7_append_0 4 rfl
theorem dX7_append_8 : decode cX7_append 8 = .ok (.getfield 31, 3) := zDec_at zB_dX7_append_0 5 rfl
theorem dX7_append_11 : decode cX7_append 11 = .ok (.sipush 400, 3) := zDec_at zB_dX7_append_0 6 rfl
theorem dX7_append_14 : decode cX7_append 14 = .ok (.if_icmp .ge 35, 3) := zDec_at zB_dX7_append_0 7 rfl
theorem dX7_append_17 : decode cX7_append 17 = .ok (.aload_n 0, 1) := zDec_at zB_dX7_append_0 8 rfl
theorem dX7_append_18 : decode cX7_append 18 = .ok (.getfield 9, 3) := zDec_at zB_dX7_append_0 9 rfl
theorem dX7_append_21 : decode cX7_append 21 = .ok (.aload_n 0, 1) := zDec_at zB_dX7_append_0 10 rfl
theorem dX7_append_22 : decode cX7_append 22 = .ok (.getfield 31, 3) := zDec_at zB_dX7_append_0 11 rfl
theorem dX7_append_25 : decode cX7_append 25 = .ok (.iload_n 1, 1) := zDec_at zB_dX7_append_0 12 rfl
theorem dX7_append_26 : decode cX7_append 26 = .ok (.iload_n 2, 1) := zDec_at zB_dX7_append_0 13 rfl
theorem dX7_append_27 : decode cX7_append 27 = .ok (.ishr, 1) := zDec_at zB_dX7_append_0 14 rfl
theorem dX7_append_28 : decode cX7_append 28 = .ok (.sipush 255, 3) := zDec_at zB_dX7_append_0 15 rfl
theorem dX7_append_31 : decode cX7_append 31 = .ok (.iand, 1) := zDec_at zB_dX7_append_0 16 rfl
theorem dX7_append_32 : decode cX7_append 32 = .ok (.iastore, 1) := zDec_at zB_dX7_append_0 17 rfl
theorem dX7_append_33 : decode cX7_append 33 = .ok (.aload_n 0, 1) := zDec_at zB_dX7_append_0 18 rfl
theorem dX7_append_34 : decode cX7_append 34 = .ok (.dup, 1) := zDec_at zB_dX7_append_0 19 rfl
theorem dX7_append_35 : decode cX7_append 35 = .ok (.getfield 31, 3) := zDec_at zB_dX7_append_0 20 rfl
theorem dX7_append_38 : decode cX7_append 38 = .ok (.iconst 1, 1) := zDec_at zB_dX7_append_0 21 rfl
theorem dX7_append_39 : decode cX7_append 39 = .ok (.iadd, 1) := zDec_at zB_dX7_append_0 22 rfl
theorem dX7_append_40 : decode cX7_append 40 = .ok (.putfield 31, 3) := zDec_at zB_dX7_append_0 23 rfl
theorem dX7_append_43 : decode cX7_append 43 = .ok (.iinc 2 (-8), 3) := zDec_at zB_dX7_append_0 24 rfl
theorem dX7_append_46 : decode cX7_append 46 = .ok (.goto (-43), 3) := zDec_at zB_dX7_append_0 25 rfl
theorem dX7_append_49 : decode cX7_append 49 = .ok (.return_, 1) := zDec_at zB_dX7_append_0 26 rfl
theorem zB_dX7_closeBracket_0 : zDecB cX7_closeBracket [(0, .aload_n 0, 1), (1, .getfield 15, 3), (4, .iconst (-1), 1), (5, .if_icmp .ne 18, 3), (8, .aload_n 0, 1), (9, .iload_n 1, 1), (10, .invokevirtual 62, 3), (13, .ifCond .eq 10, 3), (16, .aload_n 0, 1), (17, .invokevirtual 43, 3), (20, .goto 7, 3), (23, .aload_n 0, 1), (24, .invokevirtual 69, 3), (27, .return_, 1)] = true := by decide +kernel
theorem dX7_closeBracket_0 : decode cX7_closeBracket 0 = .ok (.aload_n 0, 1) := zDec_at zB_dX7_closeBracket_0 0 rfl
theorem dX7_closeBracket_1 : decode cX7_closeBracket 1 = .ok (.getfield 15, 3) := zDec_at zB_dX7_closeBracket_0 1 rfl
theorem dX7_closeBracket_4 : decode cX7_closeBracket 4 = .ok (.iconst (-1), 1) := zDec_at zB_dX7_closeBracket_0 2 rfl
theorem dX7_closeBracket_5 : decode cX7_closeBracket 5 = .ok (.if_icmp .ne 18, 3) := zDec_at zB_dX7_closeBracket_0 3 rfl
theorem dX7_closeBracket_8 : decode cX7_closeBracket 8 = .ok (.aload_n 0, 1) := zDec_at zB_dX7_closeBracket_0 4 rfl
theorem dX7_closeBracket_9 : decode cX7_closeBracket 9 = .ok (.iload_n 1, 1) := zDec_at zB_dX7_closeBracket_0 5 rfl
theorem dX7_closeBracket_10 : decode cX7_closeBracket 10 = .ok (.invokevirtual 62, 3) := zDec_at zB_dX7_closeBracket_0 6 rfl
theorem dX7_closeBracket_13 : decode cX7_closeBracket 13 = .ok (.ifCond .eq 10, 3) := zDec_at zB_dX7_closeBracket_0 7 rfl
theorem dX7_closeBracket_16 : decode cX7_closeBracket 16 = .ok (.aload_n 0, 1) := zDec_at zB_dX7_closeBracket_0 8 rfl
theorem dX7_closeBracket_17 : decode cX7_closeBracket 17 = .ok (.invokevirtual 43, 3) := zDec_at zB_dX7_closeBracket_0 9 rfl
theorem dX7_closeBracket_20 : decode cX7_closeBracket 20 = .ok (.goto 7, 3) := zDec_at zB_dX7_closeBracket_0 10 rfl
theorem dX7_closeBracket_23 : decode cX7_closeBracket 23 = .ok (.aload_n 0, 1) := zDec_at zB_dX7_closeBracket_0 11 rfl
theorem dX7_closeBracket_24 : decode cX7_closeBracket 24 = .ok (.invokevirtual 69, 3) := zDec_at zB_dX7_closeBracket_0 12 rfl
theorem dX7_closeBracket_27 : decode cX7_closeBracket 27 = .ok (.return_, 1) := zDec_at zB_dX7_closeBracket_0 13 rfl
theorem zB_dX7_emit_0 : zDecB cX7_emit [(0, .aload_n 0, 1), (1, .getfield 34, 3), (4, .aload_n 0, 1), (5, .getfield 28, 3), (8, .arraylength, 1), (9, .if_icmp .ge 28, 3), (12, .aload_n 0, 1), (13, .getfield 28, 3), (16, .aload_n 0, 1), (17, .getfield 34, 3), (20, .iload_n 2, 1), (21, .bipush 8, 2), (23, .ishl, 1), (24, .iload_n 1, 1), (25, .ior, 1), (26, .iastore, 1), (27, .aload_n 0, 1), (28, .dup, 1), (29, .getfield 34, 3), (32, .iconst 1, 1), (33, .iadd, 1), (34, .putfield 34, 3), (37, .return_, 1)] = true := by decide +kernel
theorem dX7_emit_0 : decode cX7_emit 0 = .ok (.aload_n 0, 1) := zDec_at zB_dX7_emit_0 0 rfl
theorem dX7_emit_1 : decode cX7_emit 1 = .ok (.getfield 34, 3) := zDec_at zB_dX7_emit_0 1 rfl
theorem dX7_emit_4 : decode cX7_emit 4 = .ok (.aload_n 0, 1) := zDec_at zB_dX7_emit_0 2 rfl
theorem dX7_emit_5 : decode cX7_emit 5 = .ok (.getfield 28, 3) := zDec_at zB_dX7_emit_0 3 rfl
theorem dX7_emit_8 : decode cX7_emit 8 = .ok (.arraylength, 1) := zDec_at zB_dX7_emit_0 4 rfl
theorem dX7_emit_9 : decode cX7_emit 9 = .ok (.if_icmp .ge 28, 3) := zDec_at zB_dX7_emit_0 5 rfl
theorem dX7_emit_12 : decode cX7_emit 12 = .ok (.aload_n 0, 1) := zDec_at zB_dX7_emit_0 6 rfl
theorem dX7_emit_13 : decode cX7_emit 13 = .ok (.getfield 28, 3) := zDec_at zB_dX7_emit_0 7 rfl
theorem dX7_emit_16 : decode cX7_emit 16 = .ok (.aload_n 0, 1) := zDec_at zB_dX7_emit_0 8 rfl
theorem dX7_emit_17 : decode cX7_emit 17 = .ok (.getfield 34, 3) := zDec_at zB_dX7_emit_0 9 rfl
theorem dX7_emit_20 : decode cX7_emit 20 = .ok (.iload_n 2, 1) := zDec_at zB_dX7_emit_0 10 rfl
theorem dX7_emit_21 : decode cX7_emit 21 = .ok (.bipush 8, 2) := zDec_at zB_dX7_emit_0 11 rfl
theorem dX7_emit_23 : decode cX7_emit 23 = .ok (.ishl, 1) := zDec_at zB_dX7_emit_0 12 rfl
theorem dX7_emit_24 : decode cX7_emit 24 = .ok (.iload_n 1, 1) := zDec_at zB_dX7_emit_0 13 rfl
theorem dX7_emit_25 : decode cX7_emit 25 = .ok (.ior, 1) := zDec_at zB_dX7_emit_0 14 rfl
theorem dX7_emit_26 : decode cX7_emit 26 = .ok (.iastore, 1) := zDec_at zB_dX7_emit_0 15 rfl
theorem dX7_emit_27 : decode cX7_emit 27 = .ok (.aload_n 0, 1) := zDec_at zB_dX7_emit_0 16 rfl
theorem dX7_emit_28 : decode cX7_emit 28 = .ok (.dup, 1) := zDec_at zB_dX7_emit_0 17 rfl
theorem dX7_emit_29 : decode cX7_emit 29 = .ok (.getfield 34, 3) := zDec_at zB_dX7_emit_0 18 rfl
theorem dX7_emit_32 : decode cX7_emit 32 = .ok (.iconst 1, 1) := zDec_at zB_dX7_emit_0 19 rfl
theorem dX7_emit_33 : decode cX7_emit 33 = .ok (.iadd, 1) := zDec_at zB_dX7_emit_0 20 rfl
theorem dX7_emit_34 : decode cX7_emit 34 = .ok (.putfield 34, 3) := zDec_at zB_dX7_emit_0 21 rfl
theorem dX7_emit_37 : decode cX7_emit 37 = .ok (.return_, 1) := zDec_at zB_dX7_emit_0 22 rfl
theorem zB_dX7_isSign_0 : zDecB cX7_isSign [(0, .aload_n 0, 1), (1, .getfield 66, 3), (4, .iconst 3, 1), (5, .if_icmp .ne 15, 3), (8, .aload_n 0, 1), (9, .getfield 169, 3), (12, .iload_n 1, 1), (13, .if_icmp .ne 7, 3), (16, .iconst 1, 1), (17, .goto 4, 3), (20, .iconst 0, 1), (21, .ireturn, 1)] = true := by decide +kernel
theorem dX7_isSign_0 : decode cX7_isSign 0 = .ok (.aload_n 0, 1) := zDec_at zB_dX7_isSign_0 0 rfl
theorem dX7_isSign_1 : decode cX7_isSign 1 = .ok (.getfield 66, 3) := zDec_at zB_dX7_isSign_0 1 rfl
theorem dX7_isSign_4 : decode cX7_isSign 4 = .ok (.iconst 3, 1) := zDec_at zB_dX7_isSign_0 2 rfl
theorem dX7_isSign_5 : decode cX7_isSign 5 = .ok (.if_icmp .ne 15, 3) := zDec_at zB_dX7_isSign_0 3 rfl
theorem dX7_isSign_8 : decode cX7_isSign 8 = .ok (.aload_n 0, 1) := zDec_at zB_dX7_isSign_0 4 rfl
theorem dX7_isSign_9 : decode cX7_isSign 9 = .ok (.getfield 169, 3) := zDec_at zB_dX7_isSign_0 5 rfl
theorem dX7_isSign_12 : decode cX7_isSign 12 = .ok (.iload_n 1, 1) := zDec_at zB_dX7_isSign_0 6 rfl
theorem dX7_isSign_13 : decode cX7_isSign 13 = .ok (.if_icmp .ne 7, 3) := zDec_at zB_dX7_isSign_0 7 rfl
theorem dX7_isSign_16 : decode cX7_isSign 16 = .ok (.iconst 1, 1) := zDec_at zB_dX7_isSign_0 8 rfl
theorem dX7_isSign_17 : decode cX7_isSign 17 = .ok (.goto 4, 3) := zDec_at zB_dX7_isSign_0 9 rfl
theorem dX7_isSign_20 : decode cX7_isSign 20 = .ok (.iconst 0, 1) := zDec_at zB_dX7_isSign_0 10 rfl
theorem dX7_isSign_21 : decode cX7_isSign 21 = .ok (.ireturn, 1) := zDec_at zB_dX7_isSign_0 11 rfl
theorem zB_dX7_landJump_0 : zDecB cX7_landJump [(0, .iload_n 1, 1), (1, .ifCond .lt 27, 3), (4, .iload_n 1, 1), (5, .aload_n 0, 1), (6, .getfield 34, 3), (9, .if_icmp .ge 19, 3), (12, .aload_n 0, 1), (13, .getfield 28, 3), (16, .iload_n 1, 1), (17, .dup2, 1), (18, .iaload, 1), (19, .aload_n 0, 1), (20, .getfield 34, 3), (23, .bipush 8, 2), (25, .ishl, 1), (26, .ior, 1), (27, .iastore, 1), (28, .return_, 1)] = true := by decide +kernel
theorem dX7_landJump_0 : decode cX7_landJump 0 = .ok (.iload_n 1, 1) := zDec_at zB_dX7_landJump_0 0 rfl
theorem dX7_landJump_1 : decode cX7_landJump 1 = .ok (.ifCond .lt 27, 3) := zDec_at zB_dX7_landJump_0 1 rfl
theorem dX7_landJump_4 : decode cX7_landJump 4 = .ok (.iload_n 1, 1) := zDec_at zB_dX7_landJump_0 2 rfl
theorem dX7_landJump_5 : decode cX7_landJump 5 = .ok (.aload_n 0, 1) := zDec_at zB_dX7_landJump_0 3 rfl
theorem dX7_landJump_6 : decode cX7_landJump 6 = .ok (.getfield 34, 3) := zDec_at zB_dX7_landJump_0 4 rfl
theorem dX7_landJump_9 : decode cX7_landJump 9 = .ok (.if_icmp .ge 19, 3) := zDec_at zB_dX7_landJump_0 5 rfl
theorem dX7_landJump_12 : decode cX7_landJump 12 = .ok (.aload_n 0, 1) := zDec_at zB_dX7_landJump_0 6 rfl
theorem dX7_landJump_13 : decode cX7_landJump 13 = .ok (.getfield 28, 3) := zDec_at zB_dX7_landJump_0 7 rfl
theorem dX7_landJump_16 : decode cX7_landJump 16 = .ok (.iload_n 1, 1) := zDec_at zB_dX7_landJump_0 8 rfl
theorem dX7_landJump_17 : decode cX7_landJump 17 = .ok (.dup2, 1) := zDec_at zB_dX7_landJump_0 9 rfl
theorem dX7_landJump_18 : decode cX7_landJump 18 = .ok (.iaload, 1) := zDec_at zB_dX7_landJump_0 10 rfl
theorem dX7_landJump_19 : decode cX7_landJump 19 = .ok (.aload_n 0, 1) := zDec_at zB_dX7_landJump_0 11 rfl
theorem dX7_landJump_20 : decode cX7_landJump 20 = .ok (.getfield 34, 3) := zDec_at zB_dX7_landJump_0 12 rfl
theorem dX7_landJump_23 : decode cX7_landJump 23 = .ok (.bipush 8, 2) := zDec_at zB_dX7_landJump_0 13 rfl
theorem dX7_landJump_25 : decode cX7_landJump 25 = .ok (.ishl, 1) := zDec_at zB_dX7_landJump_0 14 rfl
theorem dX7_landJump_26 : decode cX7_landJump 26 = .ok (.ior, 1) := zDec_at zB_dX7_landJump_0 15 rfl
theorem dX7_landJump_27 : decode cX7_landJump 27 = .ok (.iastore, 1) := zDec_at zB_dX7_landJump_0 16 rfl
theorem dX7_landJump_28 : decode cX7_landJump 28 = .ok (.return_, 1) := zDec_at zB_dX7_landJump_0 17 rfl
theorem zB_dX7_nextToken_0 : zDecB cX7_nextToken [(0, .aload_n 0, 1), (1, .getfield 40, 3), (4, .istore_n 1, 1), (5, .iload_n 1, 1), (6, .aload_n 0, 1), (7, .getfield 31, 3), (10, .if_icmp .ge 20, 3), (13, .aload_n 0, 1), (14, .getfield 9, 3), (17, .iload_n 1, 1), (18, .iaload, 1), (19, .bipush 32, 2), (21, .if_icmp .ne 9, 3), (24, .iinc 1 1, 3), (27, .goto (-22), 3), (30, .aload_n 0, 1), (31, .iload_n 1, 1), (32, .putfield 163, 3), (35, .aload_n 0, 1), (36, .lconst 0, 1), (37, .putfield 52, 3), (40, .aload_n 0, 1), (41, .iconst 0, 1), (42, .putfield 156, 3), (45, .iload_n 1, 1), (46, .aload_n 0, 1), (47, .getfield 31, 3), (50, .if_icmp .lt 11, 3), (53, .aload_n 0, 1), (54, .iconst 0, 1), (55, .putfield 66, 3), (58, .goto 208, 3), (61, .aload_n 0, 1), (62, .getfield 9, 3), (65, .iload_n 1, 1), (66, .iaload, 1), (67, .bipush 97, 2), (69, .if_icmp .lt 89, 3), (72, .aload_n 0, 1), (73, .getfield 9, 3)] = true := by decide +kernel
theorem dX7_nextToken_0 : decode cX7_nextToken 0 = .ok (.aload_n 0, 1) := zDec_at zB_dX7_nextToken_0 0 rfl
theorem dX7_nextToken_1 : decode cX7_nextToken 1 = .ok (.getfield 40, 3) := zDec_at zB_dX7_nextToken_0 1 rfl
theorem dX7_nextToken_4 : decode cX7_nextToken 4 = .ok (.istore_n 1, 1) := zDec_at zB_dX7_nextToken_0 2 rfl
theorem dX7_nextToken_5 : decode cX7_nextToken 5 = .ok (.iload_n 1, 1) := zDec_at zB_dX7_nextToken_0 3 rfl
theorem dX7_nextToken_6 : decode cX7_nextToken 6 = .ok (.aload_n 0, 1) := zDec_at zB_dX7_nextToken_0 4 rfl
theorem dX7_nextToken_7 : decode cX7_nextToken 7 = .ok (.getfield 31, 3) := zDec_at zB_dX7_nextToken_0 5 rfl
theorem dX7_nextToken_10 : decode cX7_nextToken 10 = .ok (.if_icmp .ge 20, 3) := zDec_at zB_dX7_nextToken_0 6 rfl
theorem dX7_nextToken_13 : decode cX7_nextToken 13 = .ok (.aload_n 0, 1) := zDec_at zB_dX7_nextToken_0 7 rfl
theorem dX7_nextToken_14 : decode cX7_nextToken 14 = .ok (.getfield 9, 3) := zDec_at zB_dX7_nextToken_0 8 rfl
theorem dX7_nextToken_17 : decode cX7_nextToken 17 = .ok (.iload_n 1, 1) := zDec_at zB_dX7_nextToken_0 9 rfl
theorem dX7_nextToken_18 : decode cX7_nextToken 18 = .ok (.iaload, 1) := zDec_at zB_dX7_nextToken_0 10 rfl
theorem dX7_nextToken_19 : decode cX7_nextToken 19 = .ok (.bipush 32, 2) := zDec_at zB_dX7_nextToken_0 11 rfl
theorem dX7_nextToken_21 : decode cX7_nextToken 21 = .ok (.if_icmp .ne 9, 3) := zDec_at zB_dX7_nextToken_0 12 rfl
theorem dX7_nextToken_24 : decode cX7_nextToken 24 = .ok (.iinc 1 1, 3) := zDec_at zB_dX7_nextToken_0 13 rfl
theorem dX7_nextToken_27 : decode cX7_nextToken 27 = .ok (.goto (-22), 3) := zDec_at zB_dX7_nextToken_0 14 rfl
theorem dX7_nextToken_30 : decode cX7_nextToken 30 = .ok (.aload_n 0, 1) := zDec_at zB_dX7_nextToken_0 15 rfl
theorem dX7_nextToken_31 : decode cX7_nextToken 31 = .ok (.iload_n 1, 1) := zDec_at zB_dX7_nextToken_0 16 rfl
theorem dX7_nextToken_32 : decode cX7_nextToken 32 = .ok (.putfield 163, 3) := zDec_at zB_dX7_nextToken_0 17 rfl
theorem dX7_nextToken_35 : decode cX7_nextToken 35 = .ok (.aload_n 0, 1) := zDec_at zB_dX7_nextToken_0 18 rfl
theorem dX7_nextToken_36 : decode cX7_nextToken 36 = .ok (.lconst 0, 1) := zDec_at zB_dX7_nextToken_0 19 rfl
theorem dX7_nextToken_37 : decode cX7_nextToken 37 = .ok (.putfield 52, 3) := zDec_at zB_dX7_nextToken_0 20 rfl
theorem dX7_nextToken_40 : decode cX7_nextToken 40 = .ok (.aload_n 0, 1) := zDec_at zB_dX7_nextToken_0 21 rfl
theorem dX7_nextToken_41 : decode cX7_nextToken 41 = .ok (.iconst 0, 1) := zDec_at zB_dX7_nextToken_0 22 rfl
theorem dX7_nextToken_42 : decode cX7_nextToken 42 = .ok (.putfield 156, 3) := zDec_at zB_dX7_nextToken_0 23 rfl
theorem dX7_nextToken_45 : decode cX7_nextToken 45 = .ok (.iload_n 1, 1) := zDec_at zB_dX7_nextToken_0 24 rfl
theorem dX7_nextToken_46 : decode cX7_nextToken 46 = .ok (.aload_n 0, 1) := zDec_at zB_dX7_nextToken_0 25 rfl
theorem dX7_nextToken_47 : decode cX7_nextToken 47 = .ok (.getfield 31, 3) := zDec_at zB_dX7_nextToken_0 26 rfl
theorem dX7_nextToken_50 : decode cX7_nextToken 50 = .ok (.if_icmp .lt 11, 3) := zDec_at zB_dX7_nextToken_0 27 rfl
theorem dX7_nextToken_53 : decode cX7_nextToken 53 = .ok (.aload_n 0, 1) := zDec_at zB_dX7_nextToken_0 28 rfl
theorem dX7_nextToken_54 : decode cX7_nextToken 54 = .ok (.iconst 0, 1) := zDec_at zB_dX7_nextToken_0 29 rfl
theorem dX7_nextToken_55 : decode cX7_nextToken 55 = .ok (.putfield 66, 3) := zDec_at zB_dX7_nextToken_0 30 rfl
theorem dX7_nextToken_58 : decode cX7_nextToken 58 = .ok (.goto 208, 3) := zDec_at zB_dX7_nextToken_0 31 rfl
theorem dX7_nextToken_61 : decode cX7_nextToken 61 = .ok (.aload_n 0, 1) := zDec_at zB_dX7_nextToken_0 32 rfl
theorem dX7_nextToken_62 : decode cX7_nextToken 62 = .ok (.getfield 9, 3) := zDec_at zB_dX7_nextToken_0 33 rfl
theorem dX7_nextToken_65 : decode cX7_nextToken 65 = .ok (.iload_n 1, 1) := zDec_at zB_dX7_nextToken_0 34 rfl
theorem dX7_nextToken_66 : decode cX7_nextToken 66 = .ok (.iaload, 1) := zDec_at zB_dX7_nextToken_0 35 rfl
theorem dX7_nextToken_67 : decode cX7_nextToken 67 = .ok (.bipush 97, 2) := zDec_at zB_dX7_nextToken_0 36 rfl
theorem dX7_nextToken_69 : decode cX7_nextToken 69 = .ok (.if_icmp .lt 89, 3) := zDec_at zB_dX7_nextToken_0 37 rfl
theorem dX7_nextToken_72 : decode cX7_nextToken 72 = .ok (.aload_n 0, 1) := zDec_at zB_dX7_nextToken_0 38 rfl
theorem dX7_nextToken_73 : decode cX7_nextToken 73 = .ok (.getfield 9, 3) := zDec_at zB_dX7_nextToken_0 39 rfl
theorem zB_dX7_nextToken_76 : zDecB cX7_nextToken [(76, .iload_n 1, 1), (77, .iaload, 1), (78, .bipush 122, 2), (80, .if_icmp .gt 78, 3), (83, .aload_n 0, 1), (84, .iconst 1, 1), (85, .putfield 66, 3), (88, .iload_n 1, 1), (89, .aload_n 0, 1), (90, .getfield 31, 3), (93, .if_icmp .ge 173, 3), (96, .aload_n 0, 1), (97, .getfield 9, 3), (100, .iload_n 1, 1), (101, .iaload, 1), (102, .bipush 97, 2), (104, .if_icmp .lt 162, 3), (107, .aload_n 0, 1), (108, .getfield 9, 3), (111, .iload_n 1, 1), (112, .iaload, 1), (113, .bipush 122, 2), (115, .if_icmp .gt 151, 3), (118, .aload_n 0, 1), (119, .iload_n 1, 1), (120, .aload_n 0, 1), (121, .getfield 163, 3), (124, .isub, 1), (125, .bipush 8, 2), (127, .if_icmp .ge 21, 3), (130, .aload_n 0, 1), (131, .getfield 52, 3), (134, .bipush 8, 2), (136, .lshl, 1), (137, .aload_n 0, 1), (138, .getfield 9, 3), (141, .iload_n 1, 1), (142, .iaload, 1), (143, .i2l, 1), (144, .lor, 1)] = true := by decide +kernel
theorem dX7_nextToken_76 : decode cX7_nextToken 76 = .ok (.iload_n 1, 1) := zDec_at zB_dX7_nextToken_76 0 rfl
theorem dX7_nextToken_77 : decode cX7_nextToken 77 = .ok (.iaload, 1) := zDec_at zB_dX7_nextToken_76 1 rfl
theorem dX7_nextToken_78 : decode cX7_nextToken 78 = .ok (.bipush 122, 2) := zDec_at zB_dX7_nextToken_76 2 rfl
theorem dX7_nextToken_80 : decode cX7_nextToken 80 = .ok (.if_icmp .gt 78, 3) := zDec_at zB_dX7_nextToken_76 3 rfl
theorem dX7_nextToken_83 : decode cX7_nextToken 83 = .ok (.aload_n 0, 1) := zDec_at zB_dX7_nextToken_76 4 rfl
theorem dX7_nextToken_84 : decode cX7_nextToken 84 = .ok (.iconst 1, 1) := zDec_at zB_dX7_nextToken_76 5 rfl
theorem dX7_nextToken_85 : decode cX7_nextToken 85 = .ok (.putfield 66, 3) := zDec_at zB_dX7_nextToken_76 6 rfl
theorem dX7_nextToken_88 : decode cX7_nextToken 88 = .ok (.iload_n 1, 1) := zDec_at zB_dX7_nextToken_76 7 rfl
theorem dX7_nextToken_89 : decode cX7_nextToken 89 = .ok (.aload_n 0, 1) := zDec_at zB_dX7_nextToken_76 8 rfl
theorem dX7_nextToken_90 : decode cX7_nextToken 90 = .ok (.getfield 31, 3) := zDec_at zB_dX7_nextToken_76 9 rfl
theorem dX7_nextToken_93 : decode cX7_nextToken 93 = .ok (.if_icmp .ge 173, 3) := zDec_at zB_dX7_nextToken_76 10 rfl
theorem dX7_nextToken_96 : decode cX7_nextToken 96 = .ok (.aload_n 0, 1) := zDec_at zB_dX7_nextToken_76 11 rfl
theorem dX7_nextToken_97 : decode cX7_nextToken 97 = .ok (.getfield 9, 3) := zDec_at zB_dX7_nextToken_76 12 rfl
theorem dX7_nextToken_100 : decode cX7_nextToken 100 = .ok (.iload_n 1, 1) := zDec_at zB_dX7_nextToken_76 13 rfl
theorem dX7_nextToken_101 : decode cX7_nextToken 101 = .ok (.iaload, 1) := zDec_at zB_dX7_nextToken_76 14 rfl
theorem dX7_nextToken_102 : decode cX7_nextToken 102 = .ok (.bipush 97, 2) := zDec_at zB_dX7_nextToken_76 15 rfl
theorem dX7_nextToken_104 : decode cX7_nextToken 104 = .ok (.if_icmp .lt 162, 3) := zDec_at zB_dX7_nextToken_76 16 rfl
theorem dX7_nextToken_107 : decode cX7_nextToken 107 = .ok (.aload_n 0, 1) := zDec_at zB_dX7_nextToken_76 17 rfl
theorem dX7_nextToken_108 : decode cX7_nextToken 108 = .ok (.getfield 9, 3) := zDec_at zB_dX7_nextToken_76 18 rfl
theorem dX7_nextToken_111 : decode cX7_nextToken 111 = .ok (.iload_n 1, 1) := zDec_at zB_dX7_nextToken_76 19 rfl
theorem dX7_nextToken_112 : decode cX7_nextToken 112 = .ok (.iaload, 1) := zDec_at zB_dX7_nextToken_76 20 rfl
theorem dX7_nextToken_113 : decode cX7_nextToken 113 = .ok (.bipush 122, 2) := zDec_at zB_dX7_nextToken_76 21 rfl
theorem dX7_nextToken_115 : decode cX7_nextToken 115 = .ok (.if_icmp .gt 151, 3) := zDec_at zB_dX7_nextToken_76 22 rfl
theorem dX7_nextToken_118 : decode cX7_nextToken 118 = .ok (.aload_n 0, 1) := zDec_at zB_dX7_nextToken_76 23 rfl
theorem dX7_nextToken_119 : decode cX7_nextToken 119 = .ok (.iload_n 1, 1) := zDec_at zB_dX7_nextToken_76 24 rfl
theorem dX7_nextToken_120 : decode cX7_nextToken 120 = .ok (.aload_n 0, 1) := zDec_at zB_dX7_nextToken_76 25 rfl
theorem dX7_nextToken_121 : decode cX7_nextToken 121 = .ok (.getfield 163, 3) := zDec_at zB_dX7_nextToken_76 26 rfl
theorem dX7_nextToken_124 : decode cX7_nextToken 124 = .ok (.isub, 1) := zDec_at zB_dX7_nextToken_76 27 rfl
theorem dX7_nextToken_125 : decode cX7_nextToken 125 = .ok (.bipush 8, 2) := zDec_at zB_dX7_nextToken_76 28 rfl
theorem dX7_nextToken_127 : decode cX7_nextToken 127 = .ok (.if_icmp .ge 21, 3) := zDec_at zB_dX7_nextToken_76 29 rfl
theorem dX7_nextToken_130 : decode cX7_nextToken 130 = .ok (.aload_n 0, 1) := zDec_at zB_dX7_nextToken_76 30 rfl
theorem dX7_nextToken_131 : decode cX7_nextToken 131 = .ok (.getfield 52, 3) := zDec_at zB_dX7_nextToken_76 31 rfl
theorem dX7_nextToken_134 : decode cX7_nextToken 134 = .ok (.bipush 8, 2) := zDec_at zB_dX7_nextToken_76 32 rfl
theorem dX7_nextToken_136 : decode cX7_nextToken 136 = .ok (.lshl, 1) := zDec_at zB_dX7_nextToken_76 33 rfl
theorem dX7_nextToken_137 : decode cX7_nextToken 137 = .ok (.aload_n 0, 1) := zDec_at zB_dX7_nextToken_76 34 rfl
theorem dX7_nextToken_138 : decode cX7_nextToken 138 = .ok (.getfield 9, 3) := zDec_at zB_dX7_nextToken_76 35 rfl
theorem dX7_nextToken_141 : decode cX7_nextToken 141 = .ok (.iload_n 1, 1) := zDec_at zB_dX7_nextToken_76 36 rfl
theorem dX7_nextToken_142 : decode cX7_nextToken 142 = .ok (.iaload, 1) := zDec_at zB_dX7_nextToken_76 37 rfl
theorem dX7_nextToken_143 : decode cX7_nextToken 143 = .ok (.i2l, 1) := zDec_at zB_dX7_nextToken_76 38 rfl
theorem dX7_nextToken_144 : decode cX7_nextToken 144 = .ok (.lor, 1) := zDec_at zB_dX7_nextToken_76 39 rfl
theorem zB_dX7_nextToken_145 : zDecB cX7_nextToken [(145, .goto 4, 3), (148, .lconst 0, 1), (149, .putfield 52, 3), (152, .iinc 1 1, 3), (155, .goto (-67), 3), (158, .aload_n 0, 1), (159, .getfield 9, 3), (162, .iload_n 1, 1), (163, .iaload, 1), (164, .bipush 48, 2), (166, .if_icmp .lt 82, 3), (169, .aload_n 0, 1), (170, .getfield 9, 3), (173, .iload_n 1, 1), (174, .iaload, 1), (175, .bipush 57, 2), (177, .if_icmp .gt 71, 3), (180, .aload_n 0, 1), (181, .iconst 2, 1), (182, .putfield 66, 3), (185, .iload_n 1, 1), (186, .aload_n 0, 1), (187, .getfield 31, 3), (190, .if_icmp .ge 76, 3), (193, .aload_n 0, 1), (194, .getfield 9, 3), (197, .iload_n 1, 1), (198, .iaload, 1), (199, .bipush 48, 2), (201, .if_icmp .lt 65, 3), (204, .aload_n 0, 1), (205, .getfield 9, 3), (208, .iload_n 1, 1), (209, .iaload, 1), (210, .bipush 57, 2), (212, .if_icmp .gt 54, 3), (215, .aload_n 0, 1), (216, .aload_n 0, 1), (217, .getfield 156, 3), (220, .bipush 10, 2)] = true := by decide +kernel
theorem dX7_nextToken_145 : decode cX7_nextToken 145 = .ok (.goto 4, 3) := zDec_at zB_dX7_nextToken_145 0 rfl
theorem dX7_nextToken_148 : decode cX7_nextToken 148 = .ok (.lconst 0, 1) := zDec_at zB_dX7_nextToken_145 1 rfl
theorem dX7_nextToken_149 : decode cX7_nextToken 149 = .ok (.putfield 52, 3) := zDec_at zB_dX7_nextToken_145 2 rfl
theorem dX7_nextToken_152 : decode cX7_nextToken 152 = .ok (.iinc 1 1, 3) := zDec_at zB_dX7_nextToken_145 3 rfl
theorem dX7_nextToken_155 : decode cX7_nextToken 155 = .ok (.goto (-67), 3) := zDec_at zB_dX7_nextToken_145 4 rfl
theorem dX7_nextToken_158 : decode cX7_nextToken 158 = .ok (.aload_n 0, 1) := zDec_at zB_dX7_nextToken_145 5 rfl
theorem dX7_nextToken_159 : decode cX7_nextToken 159 = .ok (.getfield 9, 3) := zDec_at zB_dX7_nextToken_145 6 rfl
theorem dX7_nextToken_162 : decode cX7_nextToken 162 = .ok (.iload_n 1, 1) := zDec_at zB_dX7_nextToken_145 7 rfl
theorem dX7_nextToken_163 : decode cX7_nextToken 163 = .ok (.iaload, 1) := zDec_at zB_dX7_nextToken_145 8 rfl
theorem dX7_nextToken_164 : decode cX7_nextToken 164 = .ok (.bipush 48, 2) := zDec_at zB_dX7_nextToken_145 9 rfl
theorem dX7_nextToken_166 : decode cX7_nextToken 166 = .ok (.if_icmp .lt 82, 3) := zDec_at zB_dX7_nextToken_145 10 rfl
theorem dX7_nextToken_169 : decode cX7_nextToken 169 = .ok (.aload_n 0, 1) := zDec_at zB_dX7_nextToken_145 11 rfl
theorem dX7_nextToken_170 : decode cX7_nextToken 170 = .ok (.getfield 9, 3) := zDec_at zB_dX7_nextToken_145 12 rfl
theorem dX7_nextToken_173 : decode cX7_nextToken 173 = .ok (.iload_n 1, 1) := zDec_at zB_dX7_nextToken_145 13 rfl
theorem dX7_nextToken_174 : decode cX7_nextToken 174 = .ok (.iaload, 1) := zDec_at zB_dX7_nextToken_145 14 rfl
theorem dX7_nextToken_175 : decode cX7_nextToken 175 = .ok (.bipush 57, 2) := zDec_at zB_dX7_nextToken_145 15 rfl
theorem dX7_nextToken_177 : decode cX7_nextToken 177 = .ok (.if_icmp .gt 71, 3) := zDec_at zB_dX7_nextToken_145 16 rfl
theorem dX7_nextToken_180 : decode cX7_nextToken 180 = .ok (.aload_n 0, 1) := zDec_at zB_dX7_nextToken_145 17 rfl
theorem dX7_nextToken_181 : decode cX7_nextToken 181 = .ok (.iconst 2, 1) := zDec_at zB_dX7_nextToken_145 18 rfl
theorem dX7_nextToken_182 : decode cX7_nextToken 182 = .ok (.putfield 66, 3) := zDec_at zB_dX7_nextToken_145 19 rfl
theorem dX7_nextToken_185 : decode cX7_nextToken 185 = .ok (.iload_n 1, 1) := zDec_at zB_dX7_nextToken_145 20 rfl
theorem dX7_nextToken_186 : decode cX7_nextToken 186 = .ok (.aload_n 0, 1) := zDec_at zB_dX7_nextToken_145 21 rfl
theorem dX7_nextToken_187 : decode cX7_nextToken 187 = .ok (.getfield 31, 3) := zDec_at zB_dX7_nextToken_145 22 rfl
theorem dX7_nextToken_190 : decode cX7_nextToken 190 = .ok (.if_icmp .ge 76, 3) := zDec_at zB_dX7_nextToken_145 23 rfl
theorem dX7_nextToken_193 : decode cX7_nextToken 193 = .ok (.aload_n 0, 1) := zDec_at zB_dX7_nextToken_145 24 rfl
theorem dX7_nextToken_194 : decode cX7_nextToken 194 = .ok (.getfield 9, 3) := zDec_at zB_dX7_nextToken_145 25 rfl
theorem dX7_nextToken_197 : decode cX7_nextToken 197 = .ok (.iload_n 1, 1) := zDec_at zB_dX7_nextToken_145 26 rfl
theorem dX7_nextToken_198 : decode cX7_nextToken 198 = .ok (.iaload, 1) := zDec_at zB_dX7_nextToken_145 27 rfl
theorem dX7_nextToken_199 : decode cX7_nextToken 199 = .ok (.bipush 48, 2) := zDec_at zB_dX7_nextToken_145 28 rfl
theorem dX7_nextToken_201 : decode cX7_nextToken 201 = .ok (.if_icmp .lt 65, 3) := zDec_at zB_dX7_nextToken_145 29 rfl
theorem dX7_nextToken_204 : decode cX7_nextToken 204 = .ok (.aload_n 0, 1) := zDec_at zB_dX7_nextToken_145 30 rfl
theorem dX7_nextToken_205 : decode cX7_nextToken 205 = .ok (.getfield 9, 3) := zDec_at zB_dX7_nextToken_145 31 rfl
theorem dX7_nextToken_208 : decode cX7_nextToken 208 = .ok (.iload_n 1, 1) := zDec_at zB_dX7_nextToken_145 32 rfl
theorem dX7_nextToken_209 : decode cX7_nextToken 209 = .ok (.iaload, 1) := zDec_at zB_dX7_nextToken_145 33 rfl
theorem dX7_nextToken_210 : decode cX7_nextToken 210 = .ok (.bipush 57, 2) := zDec_at zB_dX7_nextToken_145 34 rfl
theorem dX7_nextToken_212 : decode cX7_nextToken 212 = .ok (.if_icmp .gt 54, 3) := zDec_at zB_dX7_nextToken_145 35 rfl
theorem dX7_nextToken_215 : decode cX7_nextToken 215 = .ok (.aload_n 0, 1) := zDec_at zB_dX7_nextToken_145 36 rfl
theorem dX7_nextToken_216 : decode cX7_nextToken 216 = .ok (.aload_n 0, 1) := zDec_at zB_dX7_nextToken_145 37 rfl
theorem dX7_nextToken_217 : decode cX7_nextToken 217 = .ok (.getfield 156, 3) := zDec_at zB_dX7_nextToken_145 38 rfl
theorem dX7_nextToken_220 : decode cX7_nextToken 220 = .ok (.bipush 10, 2) := zDec_at zB_dX7_nextToken_145 39 rfl
theorem zB_dX7_nextToken_222 : zDecB cX7_nextToken [(222, .imul, 1), (223, .aload_n 0, 1), (224, .getfield 9, 3), (227, .iload_n 1, 1), (228, .iaload, 1), (229, .iadd, 1), (230, .bipush 48, 2), (232, .isub, 1), (233, .sipush 10001, 3), (236, .invokestatic 172, 3), (239, .putfield 156, 3), (242, .iinc 1 1, 3), (245, .goto (-60), 3), (248, .aload_n 0, 1), (249, .iconst 3, 1), (250, .putfield 66, 3), (253, .aload_n 0, 1), (254, .aload_n 0, 1), (255, .getfield 9, 3), (258, .iload_n 1, 1), (259, .iaload, 1), (260, .putfield 169, 3), (263, .iinc 1 1, 3), (266, .aload_n 0, 1), (267, .iload_n 1, 1), (268, .putfield 40, 3), (271, .return_, 1)] = true := by decide +kernel
theorem dX7_nextToken_222 : decode cX7_nextToken 222 = .ok (.imul, 1) := zDec_at zB_dX7_nextToken_222 0 rfl
theorem dX7_nextToken_223 : decode cX7_nextToken 223 = .ok (.aload_n 0, 1) := zDec_at zB_dX7_nextToken_222 1 rfl
theorem dX7_nextToken_224 : decode cX7_nextToken 224 = .ok (.getfield 9, 3) := zDec_at zB_dX7_nextToken_222 2 rfl
theorem dX7_nextToken_227 : decode cX7_nextToken 227 = .ok (.iload_n 1, 1) := zDec_at zB_dX7_nextToken_222 3 rfl
theorem dX7_nextToken_228 : decode cX7_nextToken 228 = .ok (.iaload, 1) := zDec_at zB_dX7_nextToken_222 4 rfl
theorem dX7_nextToken_229 : decode cX7_nextToken 229 = .ok (.iadd, 1) := zDec_at zB_dX7_nextToken_222 5 rfl
theorem dX7_nextToken_230 : decode cX7_nextToken 230 = .ok (.bipush 48, 2) := zDec_at zB_dX7_nextToken_222 6 rfl
theorem dX7_nextToken_232 : decode cX7_nextToken 232 = .ok (.isub, 1) := zDec_at zB_dX7_nextToken_222 7 rfl
theorem dX7_nextToken_233 : decode cX7_nextToken 233 = .ok (.sipush 10001, 3) := zDec_at zB_dX7_nextToken_222 8 rfl
theorem dX7_nextToken_236 : decode cX7_nextToken 236 = .ok (.invokestatic 172, 3) := zDec_at zB_dX7_nextToken_222 9 rfl
theorem dX7_nextToken_239 : decode cX7_nextToken 239 = .ok (.putfield 156, 3) := zDec_at zB_dX7_nextToken_222 10 rfl
theorem dX7_nextToken_242 : decode cX7_nextToken 242 = .ok (.iinc 1 1, 3) := zDec_at zB_dX7_nextToken_222 11 rfl
theorem dX7_nextToken_245 : decode cX7_nextToken 245 = .ok (.goto (-60), 3) := zDec_at zB_dX7_nextToken_222 12 rfl
theorem dX7_nextToken_248 : decode cX7_nextToken 248 = .ok (.aload_n 0, 1) := zDec_at zB_dX7_nextToken_222 13 rfl
theorem dX7_nextToken_249 : decode cX7_nextToken 249 = .ok (.iconst 3, 1) := zDec_at zB_dX7_nextToken_222 14 rfl
theorem dX7_nextToken_250 : decode cX7_nextToken 250 = .ok (.putfield 66, 3) := zDec_at zB_dX7_nextToken_222 15 rfl
theorem dX7_nextToken_253 : decode cX7_nextToken 253 = .ok (.aload_n 0, 1) := zDec_at zB_dX7_nextToken_222 16 rfl
theorem dX7_nextToken_254 : decode cX7_nextToken 254 = .ok (.aload_n 0, 1) := zDec_at zB_dX7_nextToken_222 17 rfl
theorem dX7_nextToken_255 : decode cX7_nextToken 255 = .ok (.getfield 9, 3) := zDec_at zB_dX7_nextToken_222 18 rfl
theorem dX7_nextToken_258 : decode cX7_nextToken 258 = .ok (.iload_n 1, 1) := zDec_at zB_dX7_nextToken_222 19 rfl
theorem dX7_nextToken_259 : decode cX7_nextToken 259 = .ok (.iaload, 1) := zDec_at zB_dX7_nextToken_222 20 rfl
theorem dX7_nextToken_260 : decode cX7_nextToken 260 = .ok (.putfield 169, 3) := zDec_at zB_dX7_nextToken_222 21 rfl
theorem dX7_nextToken_263 : decode cX7_nextToken 263 = .ok (.iinc 1 1, 3) := zDec_at zB_dX7_nextToken_222 22 rfl
theorem dX7_nextToken_266 : decode cX7_nextToken 266 = .ok (.aload_n 0, 1) := zDec_at zB_dX7_nextToken_222 23 rfl
theorem dX7_nextToken_267 : decode cX7_nextToken 267 = .ok (.iload_n 1, 1) := zDec_at zB_dX7_nextToken_222 24 rfl
theorem dX7_nextToken_268 : decode cX7_nextToken 268 = .ok (.putfield 40, 3) := zDec_at zB_dX7_nextToken_222 25 rfl
theorem dX7_nextToken_271 : decode cX7_nextToken 271 = .ok (.return_, 1) := zDec_at zB_dX7_nextToken_222 26 rfl
theorem zB_dX7_putHead_0 : zDecB cX7_putHead [(0, .aload_n 0, 1), (1, .getfield 19, 3), (4, .aload_n 0, 1), (5, .getfield 46, 3), (8, .iload_n 1, 1), (9, .iastore, 1), (10, .aload_n 0, 1), (11, .getfield 22, 3), (14, .aload_n 0, 1), (15, .getfield 46, 3), (18, .iload_n 2, 1), (19, .iastore, 1), (20, .return_, 1)] = true := by decide +kernel
theorem dX7_putHead_0 : decode cX7_putHead 0 = .ok (.aload_n 0, 1) := zDec_at zB_dX7_putHead_0 0 rfl
theorem dX7_putHead_1 : decode cX7_putHead 1 = .ok (.getfield 19, 3) := zDec_at zB_dX7_putHead_0 1 rfl
theorem dX7_putHead_4 : decode cX7_putHead 4 = .ok (.aload_n 0, 1) := zDec_at zB_dX7_putHead_0 2 rfl
theorem dX7_putHead_5 : decode cX7_putHead 5 = .ok (.getfield 46, 3) := zDec_at zB_dX7_putHead_0 3 rfl
theorem dX7_putHead_8 : decode cX7_putHead 8 = .ok (.iload_n 1, 1) := zDec_at zB_dX7_putHead_0 4 rfl
theorem dX7_putHead_9 : decode cX7_putHead 9 = .ok (.iastore, 1) := zDec_at zB_dX7_putHead_0 5 rfl
theorem dX7_putHead_10 : decode cX7_putHead 10 = .ok (.aload_n 0, 1) := zDec_at zB_dX7_putHead_0 6 rfl
theorem dX7_putHead_11 : decode cX7_putHead 11 = .ok (.getfield 22, 3) := zDec_at zB_dX7_putHead_0 7 rfl
theorem dX7_putHead_14 : decode cX7_putHead 14 = .ok (.aload_n 0, 1) := zDec_at zB_dX7_putHead_0 8 rfl
theorem dX7_putHead_15 : decode cX7_putHead 15 = .ok (.getfield 46, 3) := zDec_at zB_dX7_putHead_0 9 rfl
theorem dX7_putHead_18 : decode cX7_putHead 18 = .ok (.iload_n 2, 1) := zDec_at zB_dX7_putHead_0 10 rfl
theorem dX7_putHead_19 : decode cX7_putHead 19 = .ok (.iastore, 1) := zDec_at zB_dX7_putHead_0 11 rfl
theorem dX7_putHead_20 : decode cX7_putHead 20 = .ok (.return_, 1) := zDec_at zB_dX7_putHead_0 12 rfl
theorem zB_dX7_readHead_0 : zDecB cX7_readHead [(0, .aload_n 0, 1), (1, .getfield 52, 3), (4, .ldc2_w 77, 3), (7, .lcmp, 1), (8, .ifCond .ne 26, 3), (11, .aload_n 0, 1), (12, .invokevirtual 43, 3), (15, .aload_n 0, 1), (16, .invokevirtual 79, 3), (19, .istore_n 1, 1), (20, .aload_n 0, 1), (21, .iconst 0, 1), (22, .iload_n 1, 1), (23, .iadd, 1), (24, .aload_n 0, 1), (25, .invokevirtual 83, 3), (28, .invokevirtual 86, 3), (31, .goto 175, 3), (34, .aload_n 0, 1), (35, .getfield 52, 3), (38, .ldc2_w 90, 3), (41, .lcmp, 1), (42, .ifCond .ne 16, 3), (45, .aload_n 0, 1), (46, .sipush 128, 3), (49, .ldc2_w 92, 3), (52, .invokevirtual 94, 3), (55, .goto 151, 3), (58, .aload_n 0, 1), (59, .getfield 52, 3), (62, .ldc2_w 98, 3), (65, .lcmp, 1), (66, .ifCond .ne 16, 3), (69, .aload_n 0, 1), (70, .sipush 256, 3), (73, .ldc2_w 100, 3), (76, .invokevirtual 94, 3), (79, .goto 127, 3), (82, .aload_n 0, 1), (83, .getfield 52, 3)] = true := by decide +kernel
theorem dX7_readHead_0 : decode cX7_readHead 0 = .ok (.aload_n 0, 1) := zDec_at zB_dX7_readHead_0 0 rfl
theorem dX7_readHead_1 : decode cX7_readHead 1 = .ok (.getfield 52, 3) := zDec_at zB_dX7_readHead_0 1 rfl
theorem dX7_readHead_4 : decode cX7_readHead 4 = .ok (.ldc2_w 77, 3) := zDec_at zB_dX7_readHead_0 2 rfl
theorem dX7_readHead_7 : decode cX7_readHead 7 = .ok (.lcmp, 1) := zDec_at zB_dX7_readHead_0 3 rfl
theorem dX7_readHead_8 : decode cX7_readHead 8 = .ok (.ifCond .ne 26, 3) := zDec_at zB_dX7_readHead_0 4 rfl
theorem dX7_readHead_11 : decode cX7_readHead 11 = .ok (.aload_n 0, 1) := zDec_at zB_dX7_readHead_0 5 rfl
theorem dX7_readHead_12 : decode cX7_readHead 12 = .ok (.invokevirtual 43, 3) := zDec_at zB_dX7_readHead_0 6 rfl
theorem dX7_readHead_15 : decode cX7_readHead 15 = .ok (.aload_n 0, 1) := zDec_at zB_dX7_readHead_0 7 rfl
theorem dX7_readHead_16 : decode cX7_readHead 16 = .ok (.invokevirtual 79, 3) := zDec_at zB_dX7_readHead_0 8 rfl
theorem dX7_readHead_19 : decode cX7_readHead 19 = .ok (.istore_n 1, 1) := zDec_at zB_dX7_readHead_0 9 rfl
theorem dX7_readHead_20 : decode cX7_readHead 20 = .ok (.aload_n 0, 1) := zDec_at zB_dX7_readHead_0 10 rfl
theorem dX7_readHead_21 : decode cX7_readHead 21 = .ok (.iconst 0, 1) := zDec_at zB_dX7_readHead_0 11 rfl
theorem dX7_readHead_22 : decode cX7_readHead 22 = .ok (.iload_n 1, 1) := zDec_at zB_dX7_readHead_0 12 rfl
theorem dX7_readHead_23 : decode cX7_readHead 23 = .ok (.iadd, 1) := zDec_at zB_dX7_readHead_0 13 rfl
theorem dX7_readHead_24 : decode cX7_readHead 24 = .ok (.aload_n 0, 1) := zDec_at zB_dX7_readHead_0 14 rfl
theorem dX7_readHead_25 : decode cX7_readHead 25 = .ok (.invokevirtual 83, 3) := zDec_at zB_dX7_readHead_0 15 rfl
theorem dX7_readHead_28 : decode cX7_readHead 28 = .ok (.invokevirtual 86, 3) := zDec_at zB_dX7_readHead_0 16 rfl
theorem dX7_readHead_31 : decode cX7_readHead 31 = .ok (.goto 175, 3) := zDec_at zB_dX7_readHead_0 17 rfl
theorem dX7_readHead_34 : decode cX7_readHead 34 = .ok (.aload_n 0, 1) := zDec_at zB_dX7_readHead_0 18 rfl
theorem dX7_readHead_35 : decode cX7_readHead 35 = .ok (.getfield 52, 3) := zDec_at zB_dX7_readHead_0 19 rfl
theorem dX7_readHead_38 : decode cX7_readHead 38 = .ok (.ldc2_w 90, 3) := zDec_at zB_dX7_readHead_0 20 rfl
theorem dX7_readHead_41 : decode cX7_readHead 41 = .ok (.lcmp, 1) := zDec_at zB_dX7_readHead_0 21 rfl
theorem dX7_readHead_42 : decode cX7_readHead 42 = .ok (.ifCond .ne 16, 3) := zDec_at zB_dX7_readHead_0 22 rfl
theorem dX7_readHead_45 : decode cX7_readHead 45 = .ok (.aload_n 0, 1) := zDec_at zB_dX7_readHead_0 23 rfl
theorem dX7_readHead_46 : decode cX7_readHead 46 = .ok (.sipush 128, 3) := zDec_at zB_dX7_readHead_0 24 rfl
theorem dX7_readHead_49 : decode cX7_readHead 49 = .ok (.ldc2_w 92, 3) := zDec_at zB_dX7_readHead_0 25 rfl
theorem dX7_readHead_52 : decode cX7_readHead 52 = .ok (.invokevirtual 94, 3) := zDec_at zB_dX7_readHead_0 26 rfl
theorem dX7_readHead_55 : decode cX7_readHead 55 = .ok (.goto 151, 3) := zDec_at zB_dX7_readHead_0 27 rfl
theorem dX7_readHead_58 : decode cX7_readHead 58 = .ok (.aload_n 0, 1) := zDec_at zB_dX7_readHead_0 28 rfl
theorem dX7_readHead_59 : decode cX7_readHead 59 = .ok (.getfield 52, 3) := zDec_at zB_dX7_readHead_0 29 rfl
theorem dX7_readHead_62 : decode cX7_readHead 62 = .ok (.ldc2_w 98, 3) := zDec_at zB_dX7_readHead_0 30 rfl
theorem dX7_readHead_65 : decode cX7_readHead 65 = .ok (.lcmp, 1) := zDec_at zB_dX7_readHead_0 31 rfl
theorem dX7_readHead_66 : decode cX7_readHead 66 = .ok (.ifCond .ne 16, 3) := zDec_at zB_dX7_readHead_0 32 rfl
theorem dX7_readHead_69 : decode cX7_readHead 69 = .ok (.aload_n 0, 1) := zDec_at zB_dX7_readHead_0 33 rfl
theorem dX7_readHead_70 : decode cX7_readHead 70 = .ok (.sipush 256, 3) := zDec_at zB_dX7_readHead_0 34 rfl
theorem dX7_readHead_73 : decode cX7_readHead 73 = .ok (.ldc2_w 100, 3) := zDec_at zB_dX7_readHead_0 35 rfl
theorem dX7_readHead_76 : decode cX7_readHead 76 = .ok (.invokevirtual 94, 3) := zDec_at zB_dX7_readHead_0 36 rfl
theorem dX7_readHead_79 : decode cX7_readHead 79 = .ok (.goto 127, 3) := zDec_at zB_dX7_readHead_0 37 rfl
theorem dX7_readHead_82 : decode cX7_readHead 82 = .ok (.aload_n 0, 1) := zDec_at zB_dX7_readHead_0 38 rfl
theorem dX7_readHead_83 : decode cX7_readHead 83 = .ok (.getfield 52, 3) := zDec_at zB_dX7_readHead_0 39 rfl
theorem zB_dX7_readHead_86 : zDecB cX7_readHead [(86, .ldc2_w 102, 3), (89, .lcmp, 1), (90, .ifCond .ne 34, 3), (93, .aload_n 0, 1), (94, .invokevirtual 43, 3), (97, .aload_n 0, 1), (98, .invokevirtual 79, 3), (101, .istore_n 1, 1), (102, .aload_n 0, 1), (103, .sipush 384, 3), (106, .iload_n 1, 1), (107, .iconst 4, 1), (108, .imul, 1), (109, .iadd, 1), (110, .aload_n 0, 1), (111, .iconst 0, 1), (112, .iconst 3, 1), (113, .invokevirtual 104, 3), (116, .iadd, 1), (117, .iconst 0, 1), (118, .invokevirtual 86, 3), (121, .goto 85, 3), (124, .aload_n 0, 1), (125, .getfield 52, 3), (128, .ldc2_w 108, 3), (131, .lcmp, 1), (132, .ifCond .ne 18, 3), (135, .aload_n 0, 1), (136, .invokevirtual 43, 3), (139, .aload_n 0, 1), (140, .sipush 512, 3), (143, .iconst 0, 1), (144, .invokevirtual 86, 3), (147, .goto 59, 3), (150, .aload_n 0, 1), (151, .getfield 52, 3), (154, .ldc2_w 110, 3), (157, .lcmp, 1), (158, .ifCond .ne 44, 3), (161, .aload_n 0, 1)] = true := by decide +kernel
theorem dX7_readHead_86 : decode cX7_readHead 86 = .ok (.ldc2_w 102, 3) := zDec_at zB_dX7_readHead_86 0 rfl
theorem dX7_readHead_89 : decode cX7_readHead 89 = .ok (.lcmp, 1) := zDec_at zB_dX7_readHead_86 1 rfl
theorem dX7_readHead_90 : decode cX7_readHead 90 = .ok (.ifCond .ne 34, 3) := zDec_at zB_dX7_readHead_86 2 rfl
theorem dX7_readHead_93 : decode cX7_readHead 93 = .ok (.aload_n 0, 1) := zDec_at zB_dX7_readHead_86 3 rfl
theorem dX7_readHead_94 : decode cX7_readHead 94 = .ok (.invokevirtual 43, 3) := zDec_at zB_dX7_readHead_86 4 rfl
theorem dX7_readHead_97 : decode cX7_readHead 97 = .ok (.aload_n 0, 1) := zDec_at zB_dX7_readHead_86 5 rfl
theorem dX7_readHead_98 : decode cX7_readHead 98 = .ok (.invokevirtual 79, 3) := zDec_at zB_dX7_readHead_86 6 rfl
theorem dX7_readHead_101 : decode cX7_readHead 101 = .ok (.istore_n 1, 1) := zDec_at zB_dX7_readHead_86 7 rfl
theorem dX7_readHead_102 : decode cX7_readHead 102 = .ok (.aload_n 0, 1) := zDec_at zB_dX7_readHead_86 8 rfl
theorem dX7_readHead_103 : decode cX7_readHead 103 = .ok (.sipush 384, 3) := zDec_at zB_dX7_readHead_86 9 rfl
theorem dX7_readHead_106 : decode cX7_readHead 106 = .ok (.iload_n 1, 1) := zDec_at zB_dX7_readHead_86 10 rfl
theorem dX7_readHead_107 : decode cX7_readHead 107 = .ok (.iconst 4, 1) := zDec_at zB_dX7_readHead_86 11 rfl
theorem dX7_readHead_108 : decode cX7_readHead 108 = .ok (.imul, 1) := zDec_at zB_dX7_readHead_86 12 rfl
theorem dX7_readHead_109 : decode cX7_readHead 109 = .ok (.iadd, 1) := zDec_at zB_dX7_readHead_86 13 rfl
theorem dX7_readHead_110 : decode cX7_readHead 110 = .ok (.aload_n 0, 1) := zDec_at zB_dX7_readHead_86 14 rfl
theorem dX7_readHead_111 : decode cX7_readHead 111 = .ok (.iconst 0, 1) := zDec_at zB_dX7_readHead_86 15 rfl
theorem dX7_readHead_112 : decode cX7_readHead 112 = .ok (.iconst 3, 1) := zDec_at zB_dX7_readHead_86 16 rfl
theorem dX7_readHead_113 : decode cX7_readHead 113 = .ok (.invokevirtual 104, 3) := zDec_at zB_dX7_readHead_86 17 rfl
theorem dX7_readHead_116 : decode cX7_readHead 116 = .ok (.iadd, 1) := zDec_at zB_dX7_readHead_86 18 rfl
theorem dX7_readHead_117 : decode cX7_readHead 117 = .ok (.iconst 0, 1) := zDec_at zB_dX7_readHead_86 19 rfl
theorem dX7_readHead_118 : decode cX7_readHead 118 = .ok (.invokevirtual 86, 3) := zDec_at zB_dX7_readHead_86 20 rfl
theorem dX7_readHead_121 : decode cX7_readHead 121 = .ok (.goto 85, 3) := zDec_at zB_dX7_readHead_86 21 rfl
theorem dX7_readHead_124 : decode cX7_readHead 124 = .ok (.aload_n 0, 1) := zDec_at zB_dX7_readHead_86 22 rfl
theorem dX7_readHead_125 : decode cX7_readHead 125 = .ok (.getfield 52, 3) := zDec_at zB_dX7_readHead_86 23 rfl
theorem dX7_readHead_128 : decode cX7_readHead 128 = .ok (.ldc2_w 108, 3) := zDec_at zB_dX7_readHead_86 24 rfl
theorem dX7_readHead_131 : decode cX7_readHead 131 = .ok (.lcmp, 1) := zDec_at zB_dX7_readHead_86 25 rfl
theorem dX7_readHead_132 : decode cX7_readHead 132 = .ok (.ifCond .ne 18, 3) := zDec_at zB_dX7_readHead_86 26 rfl
theorem dX7_readHead_135 : decode cX7_readHead 135 = .ok (.aload_n 0, 1) := zDec_at zB_dX7_readHead_86 27 rfl
theorem dX7_readHead_136 : decode cX7_readHead 136 = .ok (.invokevirtual 43, 3) := zDec_at zB_dX7_readHead_86 28 rfl
theorem dX7_readHead_139 : decode cX7_readHead 139 = .ok (.aload_n 0, 1) := zDec_at zB_dX7_readHead_86 29 rfl
theorem dX7_readHead_140 : decode cX7_readHead 140 = .ok (.sipush 512, 3) := zDec_at zB_dX7_readHead_86 30 rfl
theorem dX7_readHead_143 : decode cX7_readHead 143 = .ok (.iconst 0, 1) := zDec_at zB_dX7_readHead_86 31 rfl
theorem dX7_readHead_144 : decode cX7_readHead 144 = .ok (.invokevirtual 86, 3) := zDec_at zB_dX7_readHead_86 32 rfl
theorem dX7_readHead_147 : decode cX7_readHead 147 = .ok (.goto 59, 3) := zDec_at zB_dX7_readHead_86 33 rfl
theorem dX7_readHead_150 : decode cX7_readHead 150 = .ok (.aload_n 0, 1) := zDec_at zB_dX7_readHead_86 34 rfl
theorem dX7_readHead_151 : decode cX7_readHead 151 = .ok (.getfield 52, 3) := zDec_at zB_dX7_readHead_86 35 rfl
theorem dX7_readHead_154 : decode cX7_readHead 154 = .ok (.ldc2_w 110, 3) := zDec_at zB_dX7_readHead_86 36 rfl
theorem dX7_readHead_157 : decode cX7_readHead 157 = .ok (.lcmp, 1) := zDec_at zB_dX7_readHead_86 37 rfl
theorem dX7_readHead_158 : decode cX7_readHead 158 = .ok (.ifCond .ne 44, 3) := zDec_at zB_dX7_readHead_86 38 rfl
theorem dX7_readHead_161 : decode cX7_readHead 161 = .ok (.aload_n 0, 1) := zDec_at zB_dX7_readHead_86 39 rfl
theorem zB_dX7_readHead_162 : zDecB cX7_readHead [(162, .invokevirtual 43, 3), (165, .aload_n 0, 1), (166, .iconst 0, 1), (167, .bipush 19, 2), (169, .invokevirtual 104, 3), (172, .istore_n 1, 1), (173, .aload_n 0, 1), (174, .ldc2_w 112, 3), (177, .invokevirtual 114, 3), (180, .aload_n 0, 1), (181, .sipush 640, 3), (184, .iload_n 1, 1), (185, .bipush 12, 2), (187, .imul, 1), (188, .aload_n 0, 1), (189, .iconst 0, 1), (190, .bipush 11, 2), (192, .invokevirtual 104, 3), (195, .iadd, 1), (196, .invokevirtual 86, 3), (199, .goto 7, 3), (202, .aload_n 0, 1), (203, .invokevirtual 69, 3), (206, .return_, 1)] = true := by decide +kernel
theorem dX7_readHead_162 : decode cX7_readHead 162 = .ok (.invokevirtual 43, 3) := zDec_at zB_dX7_readHead_162 0 rfl
theorem dX7_readHead_165 : decode cX7_readHead 165 = .ok (.aload_n 0, 1) := zDec_at zB_dX7_readHead_162 1 rfl
theorem dX7_readHead_166 : decode cX7_readHead 166 = .ok (.iconst 0, 1) := zDec_at zB_dX7_readHead_162 2 rfl
theorem dX7_readHead_167 : decode cX7_readHead 167 = .ok (.bipush 19, 2) := zDec_at zB_dX7_readHead_162 3 rfl
theorem dX7_readHead_169 : decode cX7_readHead 169 = .ok (.invokevirtual 104, 3) := zDec_at zB_dX7_readHead_162 4 rfl
theorem dX7_readHead_172 : decode cX7_readHead 172 = .ok (.istore_n 1, 1) := zDec_at zB_dX7_readHead_162 5 rfl
theorem dX7_readHead_173 : decode cX7_readHead 173 = .ok (.aload_n 0, 1) := zDec_at zB_dX7_readHead_162 6 rfl
theorem dX7_readHead_174 : decode cX7_readHead 174 = .ok (.ldc2_w 112, 3) := zDec_at zB_dX7_readHead_162 7 rfl
theorem dX7_readHead_177 : decode cX7_readHead 177 = .ok (.invokevirtual 114, 3) := zDec_at zB_dX7_readHead_162 8 rfl
theorem dX7_readHead_180 : decode cX7_readHead 180 = .ok (.aload_n 0, 1) := zDec_at zB_dX7_readHead_162 9 rfl
theorem dX7_readHead_181 : decode cX7_readHead 181 = .ok (.sipush 640, 3) := zDec_at zB_dX7_readHead_162 10 rfl
theorem dX7_readHead_184 : decode cX7_readHead 184 = .ok (.iload_n 1, 1) := zDec_at zB_dX7_readHead_162 11 rfl
theorem dX7_readHead_185 : decode cX7_readHead 185 = .ok (.bipush 12, 2) := zDec_at zB_dX7_readHead_162 12 rfl
theorem dX7_readHead_187 : decode cX7_readHead 187 = .ok (.imul, 1) := zDec_at zB_dX7_readHead_162 13 rfl
theorem dX7_readHead_188 : decode cX7_readHead 188 = .ok (.aload_n 0, 1) := zDec_at zB_dX7_readHead_162 14 rfl
theorem dX7_readHead_189 : decode cX7_readHead 189 = .ok (.iconst 0, 1) := zDec_at zB_dX7_readHead_162 15 rfl
theorem dX7_readHead_190 : decode cX7_readHead 190 = .ok (.bipush 11, 2) := zDec_at zB_dX7_readHead_162 16 rfl
theorem dX7_readHead_192 : decode cX7_readHead 192 = .ok (.invokevirtual 104, 3) := zDec_at zB_dX7_readHead_162 17 rfl
theorem dX7_readHead_195 : decode cX7_readHead 195 = .ok (.iadd, 1) := zDec_at zB_dX7_readHead_162 18 rfl
theorem dX7_readHead_196 : decode cX7_readHead 196 = .ok (.invokevirtual 86, 3) := zDec_at zB_dX7_readHead_162 19 rfl
theorem dX7_readHead_199 : decode cX7_readHead 199 = .ok (.goto 7, 3) := zDec_at zB_dX7_readHead_162 20 rfl
theorem dX7_readHead_202 : decode cX7_readHead 202 = .ok (.aload_n 0, 1) := zDec_at zB_dX7_readHead_162 21 rfl
theorem dX7_readHead_203 : decode cX7_readHead 203 = .ok (.invokevirtual 69, 3) := zDec_at zB_dX7_readHead_162 22 rfl
theorem dX7_readHead_206 : decode cX7_readHead 206 = .ok (.return_, 1) := zDec_at zB_dX7_readHead_162 23 rfl
theorem zB_dX7_readLeaf_0 : zDecB cX7_readLeaf [(0, .aload_n 0, 1), (1, .getfield 37, 3), (4, .bipush 50, 2), (6, .if_icmp .lt 8, 3), (9, .aload_n 0, 1), (10, .invokevirtual 69, 3), (13, .return_, 1), (14, .aload_n 0, 1), (15, .dup, 1), (16, .getfield 37, 3), (19, .iconst 1, 1), (20, .iadd, 1), (21, .putfield 37, 3), (24, .aload_n 0, 1), (25, .iload_n 1, 1), (26, .iload_n 2, 1), (27, .invokevirtual 129, 3), (30, .aload_n 0, 1), (31, .invokevirtual 43, 3), (34, .return_, 1)] = true := by decide +kernel
theorem dX7_readLeaf_0 : decode cX7_readLeaf 0 = .ok (.aload_n 0, 1) := zDec_at zB_dX7_readLeaf_0 0 rfl
theorem dX7_readLeaf_1 : decode cX7_readLeaf 1 = .ok (.getfield 37, 3) := zDec_at zB_dX7_readLeaf_0 1 rfl
theorem dX7_readLeaf_4 : decode cX7_readLeaf 4 = .ok (.bipush 50, 2) := zDec_at zB_dX7_readLeaf_0 2 rfl
theorem dX7_readLeaf_6 : decode cX7_readLeaf 6 = .ok (.if_icmp .lt 8, 3) := zDec_at zB_dX7_readLeaf_0 3 rfl
theorem dX7_readLeaf_9 : decode cX7_readLeaf 9 = .ok (.aload_n 0, 1) := zDec_at zB_dX7_readLeaf_0 4 rfl
theorem dX7_readLeaf_10 : decode cX7_readLeaf 10 = .ok (.invokevirtual 69, 3) := zDec_at zB_dX7_readLeaf_0 5 rfl
theorem dX7_readLeaf_13 : decode cX7_readLeaf 13 = .ok (.return_, 1) := zDec_at zB_dX7_readLeaf_0 6 rfl
theorem dX7_readLeaf_14 : decode cX7_readLeaf 14 = .ok (.aload_n 0, 1) := zDec_at zB_dX7_readLeaf_0 7 rfl
theorem dX7_readLeaf_15 : decode cX7_readLeaf 15 = .ok (.dup, 1) := zDec_at zB_dX7_readLeaf_0 8 rfl
theorem dX7_readLeaf_16 : decode cX7_readLeaf 16 = .ok (.getfield 37, 3) := zDec_at zB_dX7_readLeaf_0 9 rfl
theorem dX7_readLeaf_19 : decode cX7_readLeaf 19 = .ok (.iconst 1, 1) := zDec_at zB_dX7_readLeaf_0 10 rfl
theorem dX7_readLeaf_20 : decode cX7_readLeaf 20 = .ok (.iadd, 1) := zDec_at zB_dX7_readLeaf_0 11 rfl
theorem dX7_readLeaf_21 : decode cX7_readLeaf 21 = .ok (.putfield 37, 3) := zDec_at zB_dX7_readLeaf_0 12 rfl
theorem dX7_readLeaf_24 : decode cX7_readLeaf 24 = .ok (.aload_n 0, 1) := zDec_at zB_dX7_readLeaf_0 13 rfl
theorem dX7_readLeaf_25 : decode cX7_readLeaf 25 = .ok (.iload_n 1, 1) := zDec_at zB_dX7_readLeaf_0 14 rfl
theorem dX7_readLeaf_26 : decode cX7_readLeaf 26 = .ok (.iload_n 2, 1) := zDec_at zB_dX7_readLeaf_0 15 rfl
theorem dX7_readLeaf_27 : decode cX7_readLeaf 27 = .ok (.invokevirtual 129, 3) := zDec_at zB_dX7_readLeaf_0 16 rfl
theorem dX7_readLeaf_30 : decode cX7_readLeaf 30 = .ok (.aload_n 0, 1) := zDec_at zB_dX7_readLeaf_0 17 rfl
theorem dX7_readLeaf_31 : decode cX7_readLeaf 31 = .ok (.invokevirtual 43, 3) := zDec_at zB_dX7_readLeaf_0 18 rfl
theorem dX7_readLeaf_34 : decode cX7_readLeaf 34 = .ok (.return_, 1) := zDec_at zB_dX7_readLeaf_0 19 rfl
theorem zB_dX7_readPart_0 : zDecB cX7_readPart [(0, .aload_n 0, 1), (1, .getstatic 153, 3), (4, .invokevirtual 140, 3), (7, .istore_n 2, 1), (8, .iload_n 2, 1), (9, .iconst (-1), 1), (10, .if_icmp .eq 12, 3), (13, .aload_n 0, 1), (14, .iconst 1, 1), (15, .iload_n 2, 1), (16, .invokevirtual 144, 3), (19, .goto 72, 3), (22, .aload_n 0, 1), (23, .getfield 66, 3), (26, .iconst 2, 1), (27, .if_icmp .ne 25, 3), (30, .aload_n 0, 1), (31, .getfield 156, 3), (34, .sipush 10000, 3), (37, .if_icmp .gt 15, 3), (40, .aload_n 0, 1), (41, .iconst 0, 1), (42, .aload_n 0, 1), (43, .getfield 156, 3), (46, .invokevirtual 144, 3), (49, .goto 42, 3), (52, .aload_n 0, 1), (53, .bipush 91, 2), (55, .invokevirtual 62, 3), (58, .ifCond .eq 29, 3), (61, .iload_n 1, 1), (62, .bipush 8, 2), (64, .if_icmp .ge 23, 3), (67, .aload_n 0, 1), (68, .invokevirtual 43, 3), (71, .aload_n 0, 1), (72, .iload_n 1, 1), (73, .iconst 1, 1), (74, .iadd, 1), (75, .invokevirtual 118, 3)] = true := by decide +kernel
theorem dX7_readPart_0 : decode cX7_readPart 0 = .ok (.aload_n 0, 1) := zDec_at zB_dX7_readPart_0 0 rfl
theorem dX7_readPart_1 : decode cX7_readPart 1 = .ok (.getstatic 153, 3) := zDec_at zB_dX7_readPart_0 1 rfl
theorem dX7_readPart_4 : decode cX7_readPart 4 = .ok (.invokevirtual 140, 3) := zDec_at zB_dX7_readPart_0 2 rfl
theorem dX7_readPart_7 : decode cX7_readPart 7 = .ok (.istore_n 2, 1) := zDec_at zB_dX7_readPart_0 3 rfl
theorem dX7_readPart_8 : decode cX7_readPart 8 = .ok (.iload_n 2, 1) := zDec_at zB_dX7_readPart_0 4 rfl
theorem dX7_readPart_9 : decode cX7_readPart 9 = .ok (.iconst (-1), 1) := zDec_at zB_dX7_readPart_0 5 rfl
theorem dX7_readPart_10 : decode cX7_readPart 10 = .ok (.if_icmp .eq 12, 3) := zDec_at zB_dX7_readPart_0 6 rfl
theorem dX7_readPart_13 : decode cX7_readPart 13 = .ok (.aload_n 0, 1) := zDec_at zB_dX7_readPart_0 7 rfl
theorem dX7_readPart_14 : decode cX7_readPart 14 = .ok (.iconst 1, 1) := zDec_at zB_dX7_readPart_0 8 rfl
theorem dX7_readPart_15 : decode cX7_readPart 15 = .ok (.iload_n 2, 1) := zDec_at zB_dX7_readPart_0 9 rfl
theorem dX7_readPart_16 : decode cX7_readPart 16 = .ok (.invokevirtual 144, 3) := zDec_at zB_dX7_readPart_0 10 rfl
theorem dX7_readPart_19 : decode cX7_readPart 19 = .ok (.goto 72, 3) := zDec_at zB_dX7_readPart_0 11 rfl
theorem dX7_readPart_22 : decode cX7_readPart 22 = .ok (.aload_n 0, 1) := zDec_at zB_dX7_readPart_0 12 rfl
theorem dX7_readPart_23 : decode cX7_readPart 23 = .ok (.getfield 66, 3) := zDec_at zB_dX7_readPart_0 13 rfl
theorem dX7_readPart_26 : decode cX7_readPart 26 = .ok (.iconst 2, 1) := zDec_at zB_dX7_readPart_0 14 rfl
theorem dX7_readPart_27 : decode cX7_readPart 27 = .ok (.if_icmp .ne 25, 3) := zDec_at zB_dX7_readPart_0 15 rfl
theorem dX7_readPart_30 : decode cX7_readPart 30 = .ok (.aload_n 0, 1) := zDec_at zB_dX7_readPart_0 16 rfl
theorem dX7_readPart_31 : decode cX7_readPart 31 = .ok (.getfield 156, 3) := zDec_at zB_dX7_readPart_0 17 rfl
theorem dX7_readPart_34 : decode cX7_readPart 34 = .ok (.sipush 10000, 3) := zDec_at zB_dX7_readPart_0 18 rfl
theorem dX7_readPart_37 : decode cX7_readPart 37 = .ok (.if_icmp .gt 15, 3) := zDec_at zB_dX7_readPart_0 19 rfl
theorem dX7_readPart_40 : decode cX7_readPart 40 = .ok (.aload_n 0, 1) := zDec_at zB_dX7_readPart_0 20 rfl
theorem dX7_readPart_41 : decode cX7_readPart 41 = .ok (.iconst 0, 1) := zDec_at zB_dX7_readPart_0 21 rfl
theorem dX7_readPart_42 : decode cX7_readPart 42 = .ok (.aload_n 0, 1) := zDec_at zB_dX7_readPart_0 22 rfl
theorem dX7_readPart_43 : decode cX7_readPart 43 = .ok (.getfield 156, 3) := zDec_at zB_dX7_readPart_0 23 rfl
theorem dX7_readPart_46 : decode cX7_readPart 46 = .ok (.invokevirtual 144, 3) := zDec_at zB_dX7_readPart_0 24 rfl
theorem dX7_readPart_49 : decode cX7_readPart 49 = .ok (.goto 42, 3) := zDec_at zB_dX7_readPart_0 25 rfl
theorem dX7_readPart_52 : decode cX7_readPart 52 = .ok (.aload_n 0, 1) := zDec_at zB_dX7_readPart_0 26 rfl
theorem dX7_readPart_53 : decode cX7_readPart 53 = .ok (.bipush 91, 2) := zDec_at zB_dX7_readPart_0 27 rfl
theorem dX7_readPart_55 : decode cX7_readPart 55 = .ok (.invokevirtual 62, 3) := zDec_at zB_dX7_readPart_0 28 rfl
theorem dX7_readPart_58 : decode cX7_readPart 58 = .ok (.ifCond .eq 29, 3) := zDec_at zB_dX7_readPart_0 29 rfl
theorem dX7_readPart_61 : decode cX7_readPart 61 = .ok (.iload_n 1, 1) := zDec_at zB_dX7_readPart_0 30 rfl
theorem dX7_readPart_62 : decode cX7_readPart 62 = .ok (.bipush 8, 2) := zDec_at zB_dX7_readPart_0 31 rfl
theorem dX7_readPart_64 : decode cX7_readPart 64 = .ok (.if_icmp .ge 23, 3) := zDec_at zB_dX7_readPart_0 32 rfl
theorem dX7_readPart_67 : decode cX7_readPart 67 = .ok (.aload_n 0, 1) := zDec_at zB_dX7_readPart_0 33 rfl
theorem dX7_readPart_68 : decode cX7_readPart 68 = .ok (.invokevirtual 43, 3) := zDec_at zB_dX7_readPart_0 34 rfl
theorem dX7_readPart_71 : decode cX7_readPart 71 = .ok (.aload_n 0, 1) := zDec_at zB_dX7_readPart_0 35 rfl
theorem dX7_readPart_72 : decode cX7_readPart 72 = .ok (.iload_n 1, 1) := zDec_at zB_dX7_readPart_0 36 rfl
theorem dX7_readPart_73 : decode cX7_readPart 73 = .ok (.iconst 1, 1) := zDec_at zB_dX7_readPart_0 37 rfl
theorem dX7_readPart_74 : decode cX7_readPart 74 = .ok (.iadd, 1) := zDec_at zB_dX7_readPart_0 38 rfl
theorem dX7_readPart_75 : decode cX7_readPart 75 = .ok (.invokevirtual 118, 3) := zDec_at zB_dX7_readPart_0 39 rfl
theorem zB_dX7_readPart_78 : zDecB cX7_readPart [(78, .aload_n 0, 1), (79, .bipush 93, 2), (81, .invokevirtual 147, 3), (84, .goto 7, 3), (87, .aload_n 0, 1), (88, .invokevirtual 69, 3), (91, .return_, 1)] = true := by decide +kernel
theorem dX7_readPart_78 : decode cX7_readPart 78 = .ok (.aload_n 0, 1) := zDec_at zB_dX7_readPart_78 0 rfl
theorem dX7_readPart_79 : decode cX7_readPart 79 = .ok (.bipush 93, 2) := zDec_at zB_dX7_readPart_78 1 rfl
theorem dX7_readPart_81 : decode cX7_readPart 81 = .ok (.invokevirtual 147, 3) := zDec_at zB_dX7_readPart_78 2 rfl
theorem dX7_readPart_84 : decode cX7_readPart 84 = .ok (.goto 7, 3) := zDec_at zB_dX7_readPart_78 3 rfl
theorem dX7_readPart_87 : decode cX7_readPart 87 = .ok (.aload_n 0, 1) := zDec_at zB_dX7_readPart_78 4 rfl
theorem dX7_readPart_88 : decode cX7_readPart 88 = .ok (.invokevirtual 69, 3) := zDec_at zB_dX7_readPart_78 5 rfl
theorem dX7_readPart_91 : decode cX7_readPart 91 = .ok (.return_, 1) := zDec_at zB_dX7_readPart_78 6 rfl
theorem zB_dX7_readPlain_0 : zDecB cX7_readPlain [(0, .iconst 0, 1), (1, .istore_n 2, 1), (2, .iconst 0, 1), (3, .istore_n 3, 1), (4, .iload_n 3, 1), (5, .sipush 400, 3), (8, .if_icmp .ge 34, 3), (11, .aload_n 0, 1), (12, .getfield 52, 3), (15, .ldc2_w 134, 3), (18, .lcmp, 1), (19, .ifCond .ne 23, 3), (22, .iload_n 2, 1), (23, .ifCond .ne 7, 3), (26, .iconst 1, 1), (27, .goto 4, 3), (30, .iconst 0, 1), (31, .istore_n 2, 1), (32, .aload_n 0, 1), (33, .invokevirtual 43, 3), (36, .iinc 3 1, 3), (39, .goto (-35), 3), (42, .aload_n 0, 1), (43, .getstatic 136, 3), (46, .invokevirtual 140, 3), (49, .istore_n 3, 1), (50, .iload_n 3, 1), (51, .iconst (-1), 1), (52, .if_icmp .eq 15, 3), (55, .aload_n 0, 1), (56, .iconst 1, 1), (57, .bipush 8, 2), (59, .iload_n 3, 1), (60, .iadd, 1), (61, .invokevirtual 144, 3), (64, .goto 130, 3), (67, .aload_n 0, 1), (68, .bipush 40, 2), (70, .invokevirtual 62, 3), (73, .ifCond .ne 91, 3)] = true := by decide +kernel
theorem dX7_readPlain_0 : decode cX7_readPlain 0 = .ok (.iconst 0, 1) := zDec_at zB_dX7_readPlain_0 0 rfl
theorem dX7_readPlain_1 : decode cX7_readPlain 1 = .ok (.istore_n 2, 1) := zDec_at zB_dX7_readPlain_0 1 rfl
theorem dX7_readPlain_2 : decode cX7_readPlain 2 = .ok (.iconst 0, 1) := zDec_at zB_dX7_readPlain_0 2 rfl
theorem dX7_readPlain_3 : decode cX7_readPlain 3 = .ok (.istore_n 3, 1) := zDec_at zB_dX7_readPlain_0 3 rfl
theorem dX7_readPlain_4 : decode cX7_readPlain 4 = .ok (.iload_n 3, 1) := zDec_at zB_dX7_readPlain_0 4 rfl
theorem dX7_readPlain_5 : decode cX7_readPlain 5 = .ok (.sipush 400, 3) := zDec_at zB_dX7_readPlain_0 5 rfl
theorem dX7_readPlain_8 : decode cX7_readPlain 8 = .ok (.if_icmp .ge 34, 3) := zDec_at zB_dX7_readPlain_0 6 rfl
theorem dX7_readPlain_11 : decode cX7_readPlain 11 = .ok (.aload_n 0, 1) := zDec_at zB_dX7_readPlain_0 7 rfl
theorem dX7_readPlain_12 : decode cX7_readPlain 12 = .ok (.getfield 52, 3) := zDec_at zB_dX7_readPlain_0 8 rfl
theorem dX7_readPlain_15 : decode cX7_readPlain 15 = .ok (.ldc2_w 134, 3) := zDec_at zB_dX7_readPlain_0 9 rfl
theorem dX7_readPlain_18 : decode cX7_readPlain 18 = .ok (.lcmp, 1) := zDec_at zB_dX7_readPlain_0 10 rfl
theorem dX7_readPlain_19 : decode cX7_readPlain 19 = .ok (.ifCond .ne 23, 3) := zDec_at zB_dX7_readPlain_0 11 rfl
theorem dX7_readPlain_22 : decode cX7_readPlain 22 = .ok (.iload_n 2, 1) := zDec_at zB_dX7_readPlain_0 12 rfl
theorem dX7_readPlain_23 : decode cX7_readPlain 23 = .ok (.ifCond .ne 7, 3) := zDec_at zB_dX7_readPlain_0 13 rfl
theorem dX7_readPlain_26 : decode cX7_readPlain 26 = .ok (.iconst 1, 1) := zDec_at zB_dX7_readPlain_0 14 rfl
theorem dX7_readPlain_27 : decode cX7_readPlain 27 = .ok (.goto 4, 3) := zDec_at zB_dX7_readPlain_0 15 rfl
theorem dX7_readPlain_30 : decode cX7_readPlain 30 = .ok (.iconst 0, 1) := zDec_at zB_dX7_readPlain_0 16 rfl
theorem dX7_readPlain_31 : decode cX7_readPlain 31 = .ok (.istore_n 2, 1) := zDec_at zB_dX7_readPlain_0 17 rfl
theorem dX7_readPlain_32 : decode cX7_readPlain 32 = .ok (.aload_n 0, 1) := zDec_at zB_dX7_readPlain_0 18 rfl
theorem dX7_readPlain_33 : decode cX7_readPlain 33 = .ok (.invokevirtual 43, 3) := zDec_at zB_dX7_readPlain_0 19 rfl
theorem dX7_readPlain_36 : decode cX7_readPlain 36 = .ok (.iinc 3 1, 3) := zDec_at zB_dX7_readPlain_0 20 rfl
theorem dX7_readPlain_39 : decode cX7_readPlain 39 = .ok (.goto (-35), 3) := zDec_at zB_dX7_readPlain_0 21 rfl
theorem dX7_readPlain_42 : decode cX7_readPlain 42 = .ok (.aload_n 0, 1) := zDec_at zB_dX7_readPlain_0 22 rfl
theorem dX7_readPlain_43 : decode cX7_readPlain 43 = .ok (.getstatic 136, 3) := zDec_at zB_dX7_readPlain_0 23 rfl
theorem dX7_readPlain_46 : decode cX7_readPlain 46 = .ok (.invokevirtual 140, 3) := zDec_at zB_dX7_readPlain_0 24 rfl
theorem dX7_readPlain_49 : decode cX7_readPlain 49 = .ok (.istore_n 3, 1) := zDec_at zB_dX7_readPlain_0 25 rfl
theorem dX7_readPlain_50 : decode cX7_readPlain 50 = .ok (.iload_n 3, 1) := zDec_at zB_dX7_readPlain_0 26 rfl
theorem dX7_readPlain_51 : decode cX7_readPlain 51 = .ok (.iconst (-1), 1) := zDec_at zB_dX7_readPlain_0 27 rfl
theorem dX7_readPlain_52 : decode cX7_readPlain 52 = .ok (.if_icmp .eq 15, 3) := zDec_at zB_dX7_readPlain_0 28 rfl
theorem dX7_readPlain_55 : decode cX7_readPlain 55 = .ok (.aload_n 0, 1) := zDec_at zB_dX7_readPlain_0 29 rfl
theorem dX7_readPlain_56 : decode cX7_readPlain 56 = .ok (.iconst 1, 1) := zDec_at zB_dX7_readPlain_0 30 rfl
theorem dX7_readPlain_57 : decode cX7_readPlain 57 = .ok (.bipush 8, 2) := zDec_at zB_dX7_readPlain_0 31 rfl
theorem dX7_readPlain_59 : decode cX7_readPlain 59 = .ok (.iload_n 3, 1) := zDec_at zB_dX7_readPlain_0 32 rfl
theorem dX7_readPlain_60 : decode cX7_readPlain 60 = .ok (.iadd, 1) := zDec_at zB_dX7_readPlain_0 33 rfl
theorem dX7_readPlain_61 : decode cX7_readPlain 61 = .ok (.invokevirtual 144, 3) := zDec_at zB_dX7_readPlain_0 34 rfl
theorem dX7_readPlain_64 : decode cX7_readPlain 64 = .ok (.goto 130, 3) := zDec_at zB_dX7_readPlain_0 35 rfl
theorem dX7_readPlain_67 : decode cX7_readPlain 67 = .ok (.aload_n 0, 1) := zDec_at zB_dX7_readPlain_0 36 rfl
theorem dX7_readPlain_68 : decode cX7_readPlain 68 = .ok (.bipush 40, 2) := zDec_at zB_dX7_readPlain_0 37 rfl
theorem dX7_readPlain_70 : decode cX7_readPlain 70 = .ok (.invokevirtual 62, 3) := zDec_at zB_dX7_readPlain_0 38 rfl
theorem dX7_readPlain_73 : decode cX7_readPlain 73 = .ok (.ifCond .ne 91, 3) := zDec_at zB_dX7_readPlain_0 39 rfl
theorem zB_dX7_readPlain_76 : zDecB cX7_readPlain [(76, .aload_n 0, 1), (77, .iload_n 1, 1), (78, .invokevirtual 118, 3), (81, .aload_n 0, 1), (82, .bipush 60, 2), (84, .invokevirtual 62, 3), (87, .ifCond .eq 8, 3), (90, .bipush 6, 2), (92, .goto 32, 3), (95, .aload_n 0, 1), (96, .bipush 62, 2), (98, .invokevirtual 62, 3), (101, .ifCond .eq 8, 3), (104, .bipush 7, 2), (106, .goto 18, 3), (109, .aload_n 0, 1), (110, .bipush 61, 2), (112, .invokevirtual 62, 3), (115, .ifCond .eq 8, 3), (118, .bipush 8, 2), (120, .goto 4, 3), (123, .iconst (-1), 1), (124, .istore 4, 2), (126, .aload_n 0, 1), (127, .getfield 15, 3), (130, .iconst (-1), 1), (131, .if_icmp .ne 9, 3), (134, .iload 4, 2), (136, .iconst (-1), 1), (137, .if_icmp .ne 8, 3), (140, .aload_n 0, 1), (141, .invokevirtual 69, 3), (144, .return_, 1), (145, .aload_n 0, 1), (146, .invokevirtual 43, 3), (149, .aload_n 0, 1), (150, .iload_n 1, 1), (151, .invokevirtual 118, 3), (154, .aload_n 0, 1), (155, .iload 4, 2)] = true := by decide +kernel
theorem dX7_readPlain_76 : decode cX7_readPlain 76 = .ok (.aload_n 0, 1) := zDec_at zB_dX7_readPlain_76 0 rfl
theorem dX7_readPlain_77 : decode cX7_readPlain 77 = .ok (.iload_n 1, 1) := zDec_at zB_dX7_readPlain_76 1 rfl
theorem dX7_readPlain_78 : decode cX7_readPlain 78 = .ok (.invokevirtual 118, 3) := zDec_at zB_dX7_readPlain_76 2 rfl
theorem dX7_readPlain_81 : decode cX7_readPlain 81 = .ok (.aload_n 0, 1) := zDec_at zB_dX7_readPlain_76 3 rfl
theorem dX7_readPlain_82 : decode cX7_readPlain 82 = .ok (.bipush 60, 2) := zDec_at zB_dX7_readPlain_76 4 rfl
theorem dX7_readPlain_84 : decode cX7_readPlain 84 = .ok (.invokevirtual 62, 3) := zDec_at zB_dX7_readPlain_76 5 rfl
theorem dX7_readPlain_87 : decode cX7_readPlain 87 = .ok (.ifCond .eq 8, 3) := zDec_at zB_dX7_readPlain_76 6 rfl
theorem dX7_readPlain_90 : decode cX7_readPlain 90 = .ok (.bipush 6, 2) := zDec_at zB_dX7_readPlain_76 7 rfl
theorem dX7_readPlain_92 : decode cX7_readPlain 92 = .ok (.goto 32, 3) := zDec_at zB_dX7_readPlain_76 8 rfl
theorem dX7_readPlain_95 : decode cX7_readPlain 95 = .ok (.aload_n 0, 1) := zDec_at zB_dX7_readPlain_76 9 rfl
theorem dX7_readPlain_96 : decode cX7_readPlain 96 = .ok (.bipush 62, 2) := zDec_at zB_dX7_readPlain_76 10 rfl
theorem dX7_readPlain_98 : decode cX7_readPlain 98 = .ok (.invokevirtual 62, 3) := zDec_at zB_dX7_readPlain_76 11 rfl
theorem dX7_readPlain_101 : decode cX7_readPlain 101 = .ok (.ifCond .eq 8, 3) := zDec_at zB_dX7_readPlain_76 12 rfl
theorem dX7_readPlain_104 : decode cX7_readPlain 104 = .ok (.bipush 7, 2) := zDec_at zB_dX7_readPlain_76 13 rfl
theorem dX7_readPlain_106 : decode cX7_readPlain 106 = .ok (.goto 18, 3) := zDec_at zB_dX7_readPlain_76 14 rfl
theorem dX7_readPlain_109 : decode cX7_readPlain 109 = .ok (.aload_n 0, 1) := zDec_at zB_dX7_readPlain_76 15 rfl
theorem dX7_readPlain_110 : decode cX7_readPlain 110 = .ok (.bipush 61, 2) := zDec_at zB_dX7_readPlain_76 16 rfl
theorem dX7_readPlain_112 : decode cX7_readPlain 112 = .ok (.invokevirtual 62, 3) := zDec_at zB_dX7_readPlain_76 17 rfl
theorem dX7_readPlain_115 : decode cX7_readPlain 115 = .ok (.ifCond .eq 8, 3) := zDec_at zB_dX7_readPlain_76 18 rfl
theorem dX7_readPlain_118 : decode cX7_readPlain 118 = .ok (.bipush 8, 2) := zDec_at zB_dX7_readPlain_76 19 rfl
theorem dX7_readPlain_120 : decode cX7_readPlain 120 = .ok (.goto 4, 3) := zDec_at zB_dX7_readPlain_76 20 rfl
theorem dX7_readPlain_123 : decode cX7_readPlain 123 = .ok (.iconst (-1), 1) := zDec_at zB_dX7_readPlain_76 21 rfl
theorem dX7_readPlain_124 : decode cX7_readPlain 124 = .ok (.istore 4, 2) := zDec_at zB_dX7_readPlain_76 22 rfl
theorem dX7_readPlain_126 : decode cX7_readPlain 126 = .ok (.aload_n 0, 1) := zDec_at zB_dX7_readPlain_76 23 rfl
theorem dX7_readPlain_127 : decode cX7_readPlain 127 = .ok (.getfield 15, 3) := zDec_at zB_dX7_readPlain_76 24 rfl
theorem dX7_readPlain_130 : decode cX7_readPlain 130 = .ok (.iconst (-1), 1) := zDec_at zB_dX7_readPlain_76 25 rfl
theorem dX7_readPlain_131 : decode cX7_readPlain 131 = .ok (.if_icmp .ne 9, 3) := zDec_at zB_dX7_readPlain_76 26 rfl
theorem dX7_readPlain_134 : decode cX7_readPlain 134 = .ok (.iload 4, 2) := zDec_at zB_dX7_readPlain_76 27 rfl
theorem dX7_readPlain_136 : decode cX7_readPlain 136 = .ok (.iconst (-1), 1) := zDec_at zB_dX7_readPlain_76 28 rfl
theorem dX7_readPlain_137 : decode cX7_readPlain 137 = .ok (.if_icmp .ne 8, 3) := zDec_at zB_dX7_readPlain_76 29 rfl
theorem dX7_readPlain_140 : decode cX7_readPlain 140 = .ok (.aload_n 0, 1) := zDec_at zB_dX7_readPlain_76 30 rfl
theorem dX7_readPlain_141 : decode cX7_readPlain 141 = .ok (.invokevirtual 69, 3) := zDec_at zB_dX7_readPlain_76 31 rfl
theorem dX7_readPlain_144 : decode cX7_readPlain 144 = .ok (.return_, 1) := zDec_at zB_dX7_readPlain_76 32 rfl
theorem dX7_readPlain_145 : decode cX7_readPlain 145 = .ok (.aload_n 0, 1) := zDec_at zB_dX7_readPlain_76 33 rfl
theorem dX7_readPlain_146 : decode cX7_readPlain 146 = .ok (.invokevirtual 43, 3) := zDec_at zB_dX7_readPlain_76 34 rfl
theorem dX7_readPlain_149 : decode cX7_readPlain 149 = .ok (.aload_n 0, 1) := zDec_at zB_dX7_readPlain_76 35 rfl
theorem dX7_readPlain_150 : decode cX7_readPlain 150 = .ok (.iload_n 1, 1) := zDec_at zB_dX7_readPlain_76 36 rfl
theorem dX7_readPlain_151 : decode cX7_readPlain 151 = .ok (.invokevirtual 118, 3) := zDec_at zB_dX7_readPlain_76 37 rfl
theorem dX7_readPlain_154 : decode cX7_readPlain 154 = .ok (.aload_n 0, 1) := zDec_at zB_dX7_readPlain_76 38 rfl
theorem dX7_readPlain_155 : decode cX7_readPlain 155 = .ok (.iload 4, 2) := zDec_at zB_dX7_readPlain_76 39 rfl
theorem zB_dX7_readPlain_157 : zDecB cX7_readPlain [(157, .iconst 0, 1), (158, .invokevirtual 129, 3), (161, .goto 33, 3), (164, .iload_n 1, 1), (165, .bipush 8, 2), (167, .if_icmp .ge 23, 3), (170, .aload_n 0, 1), (171, .invokevirtual 43, 3), (174, .aload_n 0, 1), (175, .iload_n 1, 1), (176, .iconst 1, 1), (177, .iadd, 1), (178, .invokevirtual 58, 3), (181, .aload_n 0, 1), (182, .bipush 41, 2), (184, .invokevirtual 147, 3), (187, .goto 7, 3), (190, .aload_n 0, 1), (191, .invokevirtual 69, 3), (194, .iload_n 2, 1), (195, .ifCond .eq 10, 3), (198, .aload_n 0, 1), (199, .bipush 9, 2), (201, .iconst 0, 1), (202, .invokevirtual 129, 3), (205, .return_, 1)] = true := by decide +kernel
theorem dX7_readPlain_157 : decode cX7_readPlain 157 = .ok (.iconst 0, 1) := zDec_at zB_dX7_readPlain_157 0 rfl
theorem dX7_readPlain_158 : decode cX7_readPlain 158 = .ok (.invokevirtual 129, 3) := zDec_at zB_dX7_readPlain_157 1 rfl
theorem dX7_readPlain_161 : decode cX7_readPlain 161 = .ok (.goto 33, 3) := zDec_at zB_dX7_readPlain_157 2 rfl
theorem dX7_readPlain_164 : decode cX7_readPlain 164 = .ok (.iload_n 1, 1) := zDec_at zB_dX7_readPlain_157 3 rfl
theorem dX7_readPlain_165 : decode cX7_readPlain 165 = .ok (.bipush 8, 2) := zDec_at zB_dX7_readPlain_157 4 rfl
theorem dX7_readPlain_167 : decode cX7_readPlain 167 = .ok (.if_icmp .ge 23, 3) := zDec_at zB_dX7_readPlain_157 5 rfl
theorem dX7_readPlain_170 : decode cX7_readPlain 170 = .ok (.aload_n 0, 1) := zDec_at zB_dX7_readPlain_157 6 rfl
theorem dX7_readPlain_171 : decode cX7_readPlain 171 = .ok (.invokevirtual 43, 3) := zDec_at zB_dX7_readPlain_157 7 rfl
theorem dX7_readPlain_174 : decode cX7_readPlain 174 = .ok (.aload_n 0, 1) := zDec_at zB_dX7_readPlain_157 8 rfl
theorem dX7_readPlain_175 : decode cX7_readPlain 175 = .ok (.iload_n 1, 1) := zDec_at zB_dX7_readPlain_157 9 rfl
theorem dX7_readPlain_176 : decode cX7_readPlain 176 = .ok (.iconst 1, 1) := zDec_at zB_dX7_readPlain_157 10 rfl
theorem dX7_readPlain_177 : decode cX7_readPlain 177 = .ok (.iadd, 1) := zDec_at zB_dX7_readPlain_157 11 rfl
theorem dX7_readPlain_178 : decode cX7_readPlain 178 = .ok (.invokevirtual 58, 3) := zDec_at zB_dX7_readPlain_157 12 rfl
theorem dX7_readPlain_181 : decode cX7_readPlain 181 = .ok (.aload_n 0, 1) := zDec_at zB_dX7_readPlain_157 13 rfl
theorem dX7_readPlain_182 : decode cX7_readPlain 182 = .ok (.bipush 41, 2) := zDec_at zB_dX7_readPlain_157 14 rfl
theorem dX7_readPlain_184 : decode cX7_readPlain 184 = .ok (.invokevirtual 147, 3) := zDec_at zB_dX7_readPlain_157 15 rfl
theorem dX7_readPlain_187 : decode cX7_readPlain 187 = .ok (.goto 7, 3) := zDec_at zB_dX7_readPlain_157 16 rfl
theorem dX7_readPlain_190 : decode cX7_readPlain 190 = .ok (.aload_n 0, 1) := zDec_at zB_dX7_readPlain_157 17 rfl
theorem dX7_readPlain_191 : decode cX7_readPlain 191 = .ok (.invokevirtual 69, 3) := zDec_at zB_dX7_readPlain_157 18 rfl
theorem dX7_readPlain_194 : decode cX7_readPlain 194 = .ok (.iload_n 2, 1) := zDec_at zB_dX7_readPlain_157 19 rfl
theorem dX7_readPlain_195 : decode cX7_readPlain 195 = .ok (.ifCond .eq 10, 3) := zDec_at zB_dX7_readPlain_157 20 rfl
theorem dX7_readPlain_198 : decode cX7_readPlain 198 = .ok (.aload_n 0, 1) := zDec_at zB_dX7_readPlain_157 21 rfl
theorem dX7_readPlain_199 : decode cX7_readPlain 199 = .ok (.bipush 9, 2) := zDec_at zB_dX7_readPlain_157 22 rfl
theorem dX7_readPlain_201 : decode cX7_readPlain 201 = .ok (.iconst 0, 1) := zDec_at zB_dX7_readPlain_157 23 rfl
theorem dX7_readPlain_202 : decode cX7_readPlain 202 = .ok (.invokevirtual 129, 3) := zDec_at zB_dX7_readPlain_157 24 rfl
theorem dX7_readPlain_205 : decode cX7_readPlain 205 = .ok (.return_, 1) := zDec_at zB_dX7_readPlain_157 25 rfl
theorem zB_dX7_readStepHead_0 : zDecB cX7_readStepHead [(0, .aload_n 0, 1), (1, .invokevirtual 43, 3), (4, .aload_n 0, 1), (5, .iconst 0, 1), (6, .iconst 3, 1), (7, .invokevirtual 104, 3), (10, .istore 4, 2), (12, .aload_n 0, 1), (13, .getfield 15, 3), (16, .iconst (-1), 1), (17, .if_icmp .ne 8, 3), (20, .aload_n 0, 1), (21, .iconst 0, 1), (22, .invokevirtual 118, 3), (25, .aload_n 0, 1), (26, .lload_n 2, 1), (27, .invokevirtual 114, 3), (30, .aload_n 0, 1), (31, .iload_n 1, 1), (32, .iload 4, 2), (34, .iadd, 1), (35, .aload_n 0, 1), (36, .iconst 1, 1), (37, .sipush 400, 3), (40, .invokevirtual 104, 3), (43, .invokevirtual 86, 3), (46, .return_, 1)] = true := by decide +kernel
theorem dX7_readStepHead_0 : decode cX7_readStepHead 0 = .ok (.aload_n 0, 1) := zDec_at zB_dX7_readStepHead_0 0 rfl
theorem dX7_readStepHead_1 : decode cX7_readStepHead 1 = .ok (.invokevirtual 43, 3) := zDec_at zB_dX7_readStepHead_0 1 rfl
theorem dX7_readStepHead_4 : decode cX7_readStepHead 4 = .ok (.aload_n 0, 1) := zDec_at zB_dX7_readStepHead_0 2 rfl
theorem dX7_readStepHead_5 : decode cX7_readStepHead 5 = .ok (.iconst 0, 1) := zDec_at zB_dX7_readStepHead_0 3 rfl
theorem dX7_readStepHead_6 : decode cX7_readStepHead 6 = .ok (.iconst 3, 1) := zDec_at zB_dX7_readStepHead_0 4 rfl
theorem dX7_readStepHead_7 : decode cX7_readStepHead 7 = .ok (.invokevirtual 104, 3) := zDec_at zB_dX7_readStepHead_0 5 rfl
theorem dX7_readStepHead_10 : decode cX7_readStepHead 10 = .ok (.istore 4, 2) := zDec_at zB_dX7_readStepHead_0 6 rfl
theorem dX7_readStepHead_12 : decode cX7_readStepHead 12 = .ok (.aload_n 0, 1) := zDec_at zB_dX7_readStepHead_0 7 rfl
theorem dX7_readStepHead_13 : decode cX7_readStepHead 13 = .ok (.getfield 15, 3) := zDec_at zB_dX7_readStepHead_0 8 rfl
theorem dX7_readStepHead_16 : decode cX7_readStepHead 16 = .ok (.iconst (-1), 1) := zDec_at zB_dX7_readStepHead_0 9 rfl
theorem dX7_readStepHead_17 : decode cX7_readStepHead 17 = .ok (.if_icmp .ne 8, 3) := zDec_at zB_dX7_readStepHead_0 10 rfl
theorem dX7_readStepHead_20 : decode cX7_readStepHead 20 = .ok (.aload_n 0, 1) := zDec_at zB_dX7_readStepHead_0 11 rfl
theorem dX7_readStepHead_21 : decode cX7_readStepHead 21 = .ok (.iconst 0, 1) := zDec_at zB_dX7_readStepHead_0 12 rfl
theorem dX7_readStepHead_22 : decode cX7_readStepHead 22 = .ok (.invokevirtual 118, 3) := zDec_at zB_dX7_readStepHead_0 13 rfl
theorem dX7_readStepHead_25 : decode cX7_readStepHead 25 = .ok (.aload_n 0, 1) := zDec_at zB_dX7_readStepHead_0 14 rfl
theorem dX7_readStepHead_26 : decode cX7_readStepHead 26 = .ok (.lload_n 2, 1) := zDec_at zB_dX7_readStepHead_0 15 rfl
theorem dX7_readStepHead_27 : decode cX7_readStepHead 27 = .ok (.invokevirtual 114, 3) := zDec_at zB_dX7_readStepHead_0 16 rfl
theorem dX7_readStepHead_30 : decode cX7_readStepHead 30 = .ok (.aload_n 0, 1) := zDec_at zB_dX7_readStepHead_0 17 rfl
theorem dX7_readStepHead_31 : decode cX7_readStepHead 31 = .ok (.iload_n 1, 1) := zDec_at zB_dX7_readStepHead_0 18 rfl
theorem dX7_readStepHead_32 : decode cX7_readStepHead 32 = .ok (.iload 4, 2) := zDec_at zB_dX7_readStepHead_0 19 rfl
theorem dX7_readStepHead_34 : decode cX7_readStepHead 34 = .ok (.iadd, 1) := zDec_at zB_dX7_readStepHead_0 20 rfl
theorem dX7_readStepHead_35 : decode cX7_readStepHead 35 = .ok (.aload_n 0, 1) := zDec_at zB_dX7_readStepHead_0 21 rfl
theorem dX7_readStepHead_36 : decode cX7_readStepHead 36 = .ok (.iconst 1, 1) := zDec_at zB_dX7_readStepHead_0 22 rfl
theorem dX7_readStepHead_37 : decode cX7_readStepHead 37 = .ok (.sipush 400, 3) := zDec_at zB_dX7_readStepHead_0 23 rfl
theorem dX7_readStepHead_40 : decode cX7_readStepHead 40 = .ok (.invokevirtual 104, 3) := zDec_at zB_dX7_readStepHead_0 24 rfl
theorem dX7_readStepHead_43 : decode cX7_readStepHead 43 = .ok (.invokevirtual 86, 3) := zDec_at zB_dX7_readStepHead_0 25 rfl
theorem dX7_readStepHead_46 : decode cX7_readStepHead 46 = .ok (.return_, 1) := zDec_at zB_dX7_readStepHead_0 26 rfl
theorem zB_dX7_readSum_0 : zDecB cX7_readSum [(0, .iconst (-1), 1), (1, .istore_n 2, 1), (2, .iconst 0, 1), (3, .istore_n 3, 1), (4, .iload_n 3, 1), (5, .sipush 400, 3), (8, .if_icmp .ge 154, 3), (11, .iconst (-1), 1), (12, .istore 4, 2), (14, .iconst 0, 1), (15, .istore 5, 2), (17, .iload 5, 2), (19, .sipush 400, 3), (22, .if_icmp .ge 77, 3), (25, .aload_n 0, 1), (26, .iload_n 1, 1), (27, .invokevirtual 150, 3), (30, .iload 4, 2), (32, .iconst (-1), 1), (33, .if_icmp .eq 10, 3), (36, .aload_n 0, 1), (37, .iload 4, 2), (39, .iconst 0, 1), (40, .invokevirtual 129, 3), (43, .aload_n 0, 1), (44, .bipush 42, 2), (46, .invokevirtual 62, 3), (49, .ifCond .eq 7, 3), (52, .iconst 4, 1), (53, .goto 17, 3), (56, .aload_n 0, 1), (57, .bipush 47, 2), (59, .invokevirtual 62, 3), (62, .ifCond .eq 7, 3), (65, .iconst 5, 1), (66, .goto 4, 3), (69, .iconst (-1), 1), (70, .istore 4, 2), (72, .aload_n 0, 1), (73, .getfield 15, 3)] = true := by decide +kernel
theorem dX7_readSum_0 : decode cX7_readSum 0 = .ok (.iconst (-1), 1) := zDec_at zB_dX7_readSum_0 0 rfl
theorem dX7_readSum_1 : decode cX7_readSum 1 = .ok (.istore_n 2, 1) := zDec_at zB_dX7_readSum_0 1 rfl
theorem dX7_readSum_2 : decode cX7_readSum 2 = .ok (.iconst 0, 1) := zDec_at zB_dX7_readSum_0 2 rfl
theorem dX7_readSum_3 : decode cX7_readSum 3 = .ok (.istore_n 3, 1) := zDec_at zB_dX7_readSum_0 3 rfl
theorem dX7_readSum_4 : decode cX7_readSum 4 = .ok (.iload_n 3, 1) := zDec_at zB_dX7_readSum_0 4 rfl
theorem dX7_readSum_5 : decode cX7_readSum 5 = .ok (.sipush 400, 3) := zDec_at zB_dX7_readSum_0 5 rfl
theorem dX7_readSum_8 : decode cX7_readSum 8 = .ok (.if_icmp .ge 154, 3) := zDec_at zB_dX7_readSum_0 6 rfl
theorem dX7_readSum_11 : decode cX7_readSum 11 = .ok (.iconst (-1), 1) := zDec_at zB_dX7_readSum_0 7 rfl
theorem dX7_readSum_12 : decode cX7_readSum 12 = .ok (.istore 4, 2) := zDec_at zB_dX7_readSum_0 8 rfl
theorem dX7_readSum_14 : decode cX7_readSum 14 = .ok (.iconst 0, 1) := zDec_at zB_dX7_readSum_0 9 rfl
theorem dX7_readSum_15 : decode cX7_readSum 15 = .ok (.istore 5, 2) := zDec_at zB_dX7_readSum_0 10 rfl
theorem dX7_readSum_17 : decode cX7_readSum 17 = .ok (.iload 5, 2) := zDec_at zB_dX7_readSum_0 11 rfl
theorem dX7_readSum_19 : decode cX7_readSum 19 = .ok (.sipush 400, 3) := zDec_at zB_dX7_readSum_0 12 rfl
theorem dX7_readSum_22 : decode cX7_readSum 22 = .ok (.if_icmp .ge 77, 3) := zDec_at zB_dX7_readSum_0 13 rfl
theorem dX7_readSum_25 : decode cX7_readSum 25 = .ok (.aload_n 0, 1) := zDec_at zB_dX7_readSum_0 14 rfl
theorem dX7_readSum_26 : decode cX7_readSum 26 = .ok (.iload_n 1, 1) := zDec_at zB_dX7_readSum_0 15 rfl
theorem dX7_readSum_27 : decode cX7_readSum 27 = .ok (.invokevirtual 150, 3) := zDec_at zB_dX7_readSum_0 16 rfl
theorem dX7_readSum_30 : decode cX7_readSum 30 = .ok (.iload 4, 2) := zDec_at zB_dX7_readSum_0 17 rfl
theorem dX7_readSum_32 : decode cX7_readSum 32 = .ok (.iconst (-1), 1) := zDec_at zB_dX7_readSum_0 18 rfl
theorem dX7_readSum_33 : decode cX7_readSum 33 = .ok (.if_icmp .eq 10, 3) := zDec_at zB_dX7_readSum_0 19 rfl
theorem dX7_readSum_36 : decode cX7_readSum 36 = .ok (.aload_n 0, 1) := zDec_at zB_dX7_readSum_0 20 rfl
theorem dX7_readSum_37 : decode cX7_readSum 37 = .ok (.iload 4, 2) := zDec_at zB_dX7_readSum_0 21 rfl
theorem dX7_readSum_39 : decode cX7_readSum 39 = .ok (.iconst 0, 1) := zDec_at zB_dX7_readSum_0 22 rfl
theorem dX7_readSum_40 : decode cX7_readSum 40 = .ok (.invokevirtual 129, 3) := zDec_at zB_dX7_readSum_0 23 rfl
theorem dX7_readSum_43 : decode cX7_readSum 43 = .ok (.aload_n 0, 1) := zDec_at zB_dX7_readSum_0 24 rfl
theorem dX7_readSum_44 : decode cX7_readSum 44 = .ok (.bipush 42, 2) := zDec_at zB_dX7_readSum_0 25 rfl
theorem dX7_readSum_46 : decode cX7_readSum 46 = .ok (.invokevirtual 62, 3) := zDec_at zB_dX7_readSum_0 26 rfl
theorem dX7_readSum_49 : decode cX7_readSum 49 = .ok (.ifCond .eq 7, 3) := zDec_at zB_dX7_readSum_0 27 rfl
theorem dX7_readSum_52 : decode cX7_readSum 52 = .ok (.iconst 4, 1) := zDec_at zB_dX7_readSum_0 28 rfl
theorem dX7_readSum_53 : decode cX7_readSum 53 = .ok (.goto 17, 3) := zDec_at zB_dX7_readSum_0 29 rfl
theorem dX7_readSum_56 : decode cX7_readSum 56 = .ok (.aload_n 0, 1) := zDec_at zB_dX7_readSum_0 30 rfl
theorem dX7_readSum_57 : decode cX7_readSum 57 = .ok (.bipush 47, 2) := zDec_at zB_dX7_readSum_0 31 rfl
theorem dX7_readSum_59 : decode cX7_readSum 59 = .ok (.invokevirtual 62, 3) := zDec_at zB_dX7_readSum_0 32 rfl
theorem dX7_readSum_62 : decode cX7_readSum 62 = .ok (.ifCond .eq 7, 3) := zDec_at zB_dX7_readSum_0 33 rfl
theorem dX7_readSum_65 : decode cX7_readSum 65 = .ok (.iconst 5, 1) := zDec_at zB_dX7_readSum_0 34 rfl
theorem dX7_readSum_66 : decode cX7_readSum 66 = .ok (.goto 4, 3) := zDec_at zB_dX7_readSum_0 35 rfl
theorem dX7_readSum_69 : decode cX7_readSum 69 = .ok (.iconst (-1), 1) := zDec_at zB_dX7_readSum_0 36 rfl
theorem dX7_readSum_70 : decode cX7_readSum 70 = .ok (.istore 4, 2) := zDec_at zB_dX7_readSum_0 37 rfl
theorem dX7_readSum_72 : decode cX7_readSum 72 = .ok (.aload_n 0, 1) := zDec_at zB_dX7_readSum_0 38 rfl
theorem dX7_readSum_73 : decode cX7_readSum 73 = .ok (.getfield 15, 3) := zDec_at zB_dX7_readSum_0 39 rfl
theorem zB_dX7_readSum_76 : zDecB cX7_readSum [(76, .iconst (-1), 1), (77, .if_icmp .ne 22, 3), (80, .iload 4, 2), (82, .iconst (-1), 1), (83, .if_icmp .ne 6, 3), (86, .goto 13, 3), (89, .aload_n 0, 1), (90, .invokevirtual 43, 3), (93, .iinc 5 1, 3), (96, .goto (-79), 3), (99, .iload_n 2, 1), (100, .iconst (-1), 1), (101, .if_icmp .eq 9, 3), (104, .aload_n 0, 1), (105, .iload_n 2, 1), (106, .iconst 0, 1), (107, .invokevirtual 129, 3), (110, .aload_n 0, 1), (111, .bipush 43, 2), (113, .invokevirtual 62, 3), (116, .ifCond .eq 7, 3), (119, .iconst 2, 1), (120, .goto 17, 3), (123, .aload_n 0, 1), (124, .bipush 45, 2), (126, .invokevirtual 62, 3), (129, .ifCond .eq 7, 3), (132, .iconst 3, 1), (133, .goto 4, 3), (136, .iconst (-1), 1), (137, .istore_n 2, 1), (138, .aload_n 0, 1), (139, .getfield 15, 3), (142, .iconst (-1), 1), (143, .if_icmp .ne 8, 3), (146, .iload_n 2, 1), (147, .iconst (-1), 1), (148, .if_icmp .ne 4, 3), (151, .return_, 1), (152, .aload_n 0, 1)] = true := by decide +kernel
theorem dX7_readSum_76 : decode cX7_readSum 76 = .ok (.iconst (-1), 1) := zDec_at zB_dX7_readSum_76 0 rfl
theorem dX7_readSum_77 : decode cX7_readSum 77 = .ok (.if_icmp .ne 22, 3) := zDec_at zB_dX7_readSum_76 1 rfl
theorem dX7_readSum_80 : decode cX7_readSum 80 = .ok (.iload 4, 2) := zDec_at zB_dX7_readSum_76 2 rfl
theorem dX7_readSum_82 : decode cX7_readSum 82 = .ok (.iconst (-1), 1) := zDec_at zB_dX7_readSum_76 3 rfl
theorem dX7_readSum_83 : decode cX7_readSum 83 = .ok (.if_icmp .ne 6, 3) := zDec_at zB_dX7_readSum_76 4 rfl
theorem dX7_readSum_86 : decode cX7_readSum 86 = .ok (.goto 13, 3) := zDec_at zB_dX7_readSum_76 5 rfl
theorem dX7_readSum_89 : decode cX7_readSum 89 = .ok (.aload_n 0, 1) := zDec_at zB_dX7_readSum_76 6 rfl
theorem dX7_readSum_90 : decode cX7_readSum 90 = .ok (.invokevirtual 43, 3) := zDec_at zB_dX7_readSum_76 7 rfl
theorem dX7_readSum_93 : decode cX7_readSum 93 = .ok (.iinc 5 1, 3) := zDec_at zB_dX7_readSum_76 8 rfl
theorem dX7_readSum_96 : decode cX7_readSum 96 = .ok (.goto (-79), 3) := zDec_at zB_dX7_readSum_76 9 rfl
theorem dX7_readSum_99 : decode cX7_readSum 99 = .ok (.iload_n 2, 1) := zDec_at zB_dX7_readSum_76 10 rfl
theorem dX7_readSum_100 : decode cX7_readSum 100 = .ok (.iconst (-1), 1) := zDec_at zB_dX7_readSum_76 11 rfl
theorem dX7_readSum_101 : decode cX7_readSum 101 = .ok (.if_icmp .eq 9, 3) := zDec_at zB_dX7_readSum_76 12 rfl
theorem dX7_readSum_104 : decode cX7_readSum 104 = .ok (.aload_n 0, 1) := zDec_at zB_dX7_readSum_76 13 rfl
theorem dX7_readSum_105 : decode cX7_readSum 105 = .ok (.iload_n 2, 1) := zDec_at zB_dX7_readSum_76 14 rfl
theorem dX7_readSum_106 : decode cX7_readSum 106 = .ok (.iconst 0, 1) := zDec_at zB_dX7_readSum_76 15 rfl
theorem dX7_readSum_107 : decode cX7_readSum 107 = .ok (.invokevirtual 129, 3) := zDec_at zB_dX7_readSum_76 16 rfl
theorem dX7_readSum_110 : decode cX7_readSum 110 = .ok (.aload_n 0, 1) := zDec_at zB_dX7_readSum_76 17 rfl
theorem dX7_readSum_111 : decode cX7_readSum 111 = .ok (.bipush 43, 2) := zDec_at zB_dX7_readSum_76 18 rfl
theorem dX7_readSum_113 : decode cX7_readSum 113 = .ok (.invokevirtual 62, 3) := zDec_at zB_dX7_readSum_76 19 rfl
theorem dX7_readSum_116 : decode cX7_readSum 116 = .ok (.ifCond .eq 7, 3) := zDec_at zB_dX7_readSum_76 20 rfl
theorem dX7_readSum_119 : decode cX7_readSum 119 = .ok (.iconst 2, 1) := zDec_at zB_dX7_readSum_76 21 rfl
theorem dX7_readSum_120 : decode cX7_readSum 120 = .ok (.goto 17, 3) := zDec_at zB_dX7_readSum_76 22 rfl
theorem dX7_readSum_123 : decode cX7_readSum 123 = .ok (.aload_n 0, 1) := zDec_at zB_dX7_readSum_76 23 rfl
theorem dX7_readSum_124 : decode cX7_readSum 124 = .ok (.bipush 45, 2) := zDec_at zB_dX7_readSum_76 24 rfl
theorem dX7_readSum_126 : decode cX7_readSum 126 = .ok (.invokevirtual 62, 3) := zDec_at zB_dX7_readSum_76 25 rfl
theorem dX7_readSum_129 : decode cX7_readSum 129 = .ok (.ifCond .eq 7, 3) := zDec_at zB_dX7_readSum_76 26 rfl
theorem dX7_readSum_132 : decode cX7_readSum 132 = .ok (.iconst 3, 1) := zDec_at zB_dX7_readSum_76 27 rfl
theorem dX7_readSum_133 : decode cX7_readSum 133 = .ok (.goto 4, 3) := zDec_at zB_dX7_readSum_76 28 rfl
theorem dX7_readSum_136 : decode cX7_readSum 136 = .ok (.iconst (-1), 1) := zDec_at zB_dX7_readSum_76 29 rfl
theorem dX7_readSum_137 : decode cX7_readSum 137 = .ok (.istore_n 2, 1) := zDec_at zB_dX7_readSum_76 30 rfl
theorem dX7_readSum_138 : decode cX7_readSum 138 = .ok (.aload_n 0, 1) := zDec_at zB_dX7_readSum_76 31 rfl
theorem dX7_readSum_139 : decode cX7_readSum 139 = .ok (.getfield 15, 3) := zDec_at zB_dX7_readSum_76 32 rfl
theorem dX7_readSum_142 : decode cX7_readSum 142 = .ok (.iconst (-1), 1) := zDec_at zB_dX7_readSum_76 33 rfl
theorem dX7_readSum_143 : decode cX7_readSum 143 = .ok (.if_icmp .ne 8, 3) := zDec_at zB_dX7_readSum_76 34 rfl
theorem dX7_readSum_146 : decode cX7_readSum 146 = .ok (.iload_n 2, 1) := zDec_at zB_dX7_readSum_76 35 rfl
theorem dX7_readSum_147 : decode cX7_readSum 147 = .ok (.iconst (-1), 1) := zDec_at zB_dX7_readSum_76 36 rfl
theorem dX7_readSum_148 : decode cX7_readSum 148 = .ok (.if_icmp .ne 4, 3) := zDec_at zB_dX7_readSum_76 37 rfl
theorem dX7_readSum_151 : decode cX7_readSum 151 = .ok (.return_, 1) := zDec_at zB_dX7_readSum_76 38 rfl
theorem dX7_readSum_152 : decode cX7_readSum 152 = .ok (.aload_n 0, 1) := zDec_at zB_dX7_readSum_76 39 rfl
theorem zB_dX7_readSum_153 : zDecB cX7_readSum [(153, .invokevirtual 43, 3), (156, .iinc 3 1, 3), (159, .goto (-155), 3), (162, .return_, 1)] = true := by decide +kernel
theorem dX7_readSum_153 : decode cX7_readSum 153 = .ok (.invokevirtual 43, 3) := zDec_at zB_dX7_readSum_153 0 rfl
theorem dX7_readSum_156 : decode cX7_readSum 156 = .ok (.iinc 3 1, 3) := zDec_at zB_dX7_readSum_153 1 rfl
theorem dX7_readSum_159 : decode cX7_readSum 159 = .ok (.goto (-155), 3) := zDec_at zB_dX7_readSum_153 2 rfl
theorem dX7_readSum_162 : decode cX7_readSum 162 = .ok (.return_, 1) := zDec_at zB_dX7_readSum_153 3 rfl
theorem zB_dX7_readTest_0 : zDecB cX7_readTest [(0, .iconst (-1), 1), (1, .istore_n 2, 1), (2, .iconst 0, 1), (3, .istore_n 3, 1), (4, .iload_n 3, 1), (5, .sipush 400, 3), (8, .if_icmp .ge 120, 3), (11, .iconst (-1), 1), (12, .istore 4, 2), (14, .iconst 0, 1), (15, .istore 5, 2), (17, .iload 5, 2), (19, .sipush 400, 3), (22, .if_icmp .ge 59, 3), (25, .aload_n 0, 1), (26, .iload_n 1, 1), (27, .invokevirtual 121, 3), (30, .aload_n 0, 1), (31, .iload 4, 2), (33, .invokevirtual 124, 3), (36, .aload_n 0, 1), (37, .getfield 15, 3), (40, .iconst (-1), 1), (41, .if_icmp .ne 40, 3), (44, .aload_n 0, 1), (45, .getfield 52, 3), (48, .ldc2_w 127, 3), (51, .lcmp, 1), (52, .ifCond .eq 6, 3), (55, .goto 26, 3), (58, .aload_n 0, 1), (59, .getfield 34, 3), (62, .istore 4, 2), (64, .aload_n 0, 1), (65, .bipush 10, 2), (67, .iconst 0, 1), (68, .invokevirtual 129, 3), (71, .aload_n 0, 1), (72, .invokevirtual 43, 3), (75, .iinc 5 1, 3)] = true := by decide +kernel
theorem dX7_readTest_0 : decode cX7_readTest 0 = .ok (.iconst (-1), 1) := zDec_at zB_dX7_readTest_0 0 rfl
theorem dX7_readTest_1 : decode cX7_readTest 1 = .ok (.istore_n 2, 1) := zDec_at zB_dX7_readTest_0 1 rfl
theorem dX7_readTest_2 : decode cX7_readTest 2 = .ok (.iconst 0, 1) := zDec_at zB_dX7_readTest_0 2 rfl
theorem dX7_readTest_3 : decode cX7_readTest 3 = .ok (.istore_n 3, 1) := zDec_at zB_dX7_readTest_0 3 rfl
theorem dX7_readTest_4 : decode cX7_readTest 4 = .ok (.iload_n 3, 1) := zDec_at zB_dX7_readTest_0 4 rfl
theorem dX7_readTest_5 : decode cX7_readTest 5 = .ok (.sipush 400, 3) := zDec_at zB_dX7_readTest_0 5 rfl
theorem dX7_readTest_8 : decode cX7_readTest 8 = .ok (.if_icmp .ge 120, 3) := zDec_at zB_dX7_readTest_0 6 rfl
theorem dX7_readTest_11 : decode cX7_readTest 11 = .ok (.iconst (-1), 1) := zDec_at zB_dX7_readTest_0 7 rfl
theorem dX7_readTest_12 : decode cX7_readTest 12 = .ok (.istore 4, 2) := zDec_at zB_dX7_readTest_0 8 rfl
theorem dX7_readTest_14 : decode cX7_readTest 14 = .ok (.iconst 0, 1) := zDec_at zB_dX7_readTest_0 9 rfl
theorem dX7_readTest_15 : decode cX7_readTest 15 = .ok (.istore 5, 2) := zDec_at zB_dX7_readTest_0 10 rfl
theorem dX7_readTest_17 : decode cX7_readTest 17 = .ok (.iload 5, 2) := zDec_at zB_dX7_readTest_0 11 rfl
theorem dX7_readTest_19 : decode cX7_readTest 19 = .ok (.sipush 400, 3) := zDec_at zB_dX7_readTest_0 12 rfl
theorem dX7_readTest_22 : decode cX7_readTest 22 = .ok (.if_icmp .ge 59, 3) := zDec_at zB_dX7_readTest_0 13 rfl
theorem dX7_readTest_25 : decode cX7_readTest 25 = .ok (.aload_n 0, 1) := zDec_at zB_dX7_readTest_0 14 rfl
theorem dX7_readTest_26 : decode cX7_readTest 26 = .ok (.iload_n 1, 1) := zDec_at zB_dX7_readTest_0 15 rfl
theorem dX7_readTest_27 : decode cX7_readTest 27 = .ok (.invokevirtual 121, 3) := zDec_at zB_dX7_readTest_0 16 rfl
theorem dX7_readTest_30 : decode cX7_readTest 30 = .ok (.aload_n 0, 1) := zDec_at zB_dX7_readTest_0 17 rfl
theorem dX7_readTest_31 : decode cX7_readTest 31 = .ok (.iload 4, 2) := zDec_at zB_dX7_readTest_0 18 rfl
theorem dX7_readTest_33 : decode cX7_readTest 33 = .ok (.invokevirtual 124, 3) := zDec_at zB_dX7_readTest_0 19 rfl
theorem dX7_readTest_36 : decode cX7_readTest 36 = .ok (.aload_n 0, 1) := zDec_at zB_dX7_readTest_0 20 rfl
theorem dX7_readTest_37 : decode cX7_readTest 37 = .ok (.getfield 15, 3) := zDec_at zB_dX7_readTest_0 21 rfl
theorem dX7_readTest_40 : decode cX7_readTest 40 = .ok (.iconst (-1), 1) := zDec_at zB_dX7_readTest_0 22 rfl
theorem dX7_readTest_41 : decode cX7_readTest 41 = .ok (.if_icmp .ne 40, 3) := zDec_at zB_dX7_readTest_0 23 rfl
theorem dX7_readTest_44 : decode cX7_readTest 44 = .ok (.aload_n 0, 1) := zDec_at zB_dX7_readTest_0 24 rfl
theorem dX7_readTest_45 : decode cX7_readTest 45 = .ok (.getfield 52, 3) := zDec_at zB_dX7_readTest_0 25 rfl
theorem dX7_readTest_48 : decode cX7_readTest 48 = .ok (.ldc2_w 127, 3) := zDec_at zB_dX7_readTest_0 26 rfl
theorem dX7_readTest_51 : decode cX7_readTest 51 = .ok (.lcmp, 1) := zDec_at zB_dX7_readTest_0 27 rfl
theorem dX7_readTest_52 : decode cX7_readTest 52 = .ok (.ifCond .eq 6, 3) := zDec_at zB_dX7_readTest_0 28 rfl
theorem dX7_readTest_55 : decode cX7_readTest 55 = .ok (.goto 26, 3) := zDec_at zB_dX7_readTest_0 29 rfl
theorem dX7_readTest_58 : decode cX7_readTest 58 = .ok (.aload_n 0, 1) := zDec_at zB_dX7_readTest_0 30 rfl
theorem dX7_readTest_59 : decode cX7_readTest 59 = .ok (.getfield 34, 3) := zDec_at zB_dX7_readTest_0 31 rfl
theorem dX7_readTest_62 : decode cX7_readTest 62 = .ok (.istore 4, 2) := zDec_at zB_dX7_readTest_0 32 rfl
theorem dX7_readTest_64 : decode cX7_readTest 64 = .ok (.aload_n 0, 1) := zDec_at zB_dX7_readTest_0 33 rfl
theorem dX7_readTest_65 : decode cX7_readTest 65 = .ok (.bipush 10, 2) := zDec_at zB_dX7_readTest_0 34 rfl
theorem dX7_readTest_67 : decode cX7_readTest 67 = .ok (.iconst 0, 1) := zDec_at zB_dX7_readTest_0 35 rfl
theorem dX7_readTest_68 : decode cX7_readTest 68 = .ok (.invokevirtual 129, 3) := zDec_at zB_dX7_readTest_0 36 rfl
theorem dX7_readTest_71 : decode cX7_readTest 71 = .ok (.aload_n 0, 1) := zDec_at zB_dX7_readTest_0 37 rfl
theorem dX7_readTest_72 : decode cX7_readTest 72 = .ok (.invokevirtual 43, 3) := zDec_at zB_dX7_readTest_0 38 rfl
theorem dX7_readTest_75 : decode cX7_readTest 75 = .ok (.iinc 5 1, 3) := zDec_at zB_dX7_readTest_0 39 rfl
theorem zB_dX7_readTest_78 : zDecB cX7_readTest [(78, .goto (-61), 3), (81, .aload_n 0, 1), (82, .iload_n 2, 1), (83, .invokevirtual 124, 3), (86, .aload_n 0, 1), (87, .getfield 15, 3), (90, .iconst (-1), 1), (91, .if_icmp .ne 14, 3), (94, .aload_n 0, 1), (95, .getfield 52, 3), (98, .ldc2_w 132, 3), (101, .lcmp, 1), (102, .ifCond .eq 4, 3), (105, .return_, 1), (106, .aload_n 0, 1), (107, .getfield 34, 3), (110, .istore_n 2, 1), (111, .aload_n 0, 1), (112, .bipush 11, 2), (114, .iconst 0, 1), (115, .invokevirtual 129, 3), (118, .aload_n 0, 1), (119, .invokevirtual 43, 3), (122, .iinc 3 1, 3), (125, .goto (-121), 3), (128, .return_, 1)] = true := by decide +kernel
theorem dX7_readTest_78 : decode cX7_readTest 78 = .ok (.goto (-61), 3) := zDec_at zB_dX7_readTest_78 0 rfl
theorem dX7_readTest_81 : decode cX7_readTest 81 = .ok (.aload_n 0, 1) := zDec_at zB_dX7_readTest_78 1 rfl
theorem dX7_readTest_82 : decode cX7_readTest 82 = .ok (.iload_n 2, 1) := zDec_at zB_dX7_readTest_78 2 rfl
theorem dX7_readTest_83 : decode cX7_readTest 83 = .ok (.invokevirtual 124, 3) := zDec_at zB_dX7_readTest_78 3 rfl
theorem dX7_readTest_86 : decode cX7_readTest 86 = .ok (.aload_n 0, 1) := zDec_at zB_dX7_readTest_78 4 rfl
theorem dX7_readTest_87 : decode cX7_readTest 87 = .ok (.getfield 15, 3) := zDec_at zB_dX7_readTest_78 5 rfl
theorem dX7_readTest_90 : decode cX7_readTest 90 = .ok (.iconst (-1), 1) := zDec_at zB_dX7_readTest_78 6 rfl
theorem dX7_readTest_91 : decode cX7_readTest 91 = .ok (.if_icmp .ne 14, 3) := zDec_at zB_dX7_readTest_78 7 rfl
theorem dX7_readTest_94 : decode cX7_readTest 94 = .ok (.aload_n 0, 1) := zDec_at zB_dX7_readTest_78 8 rfl
theorem dX7_readTest_95 : decode cX7_readTest 95 = .ok (.getfield 52, 3) := zDec_at zB_dX7_readTest_78 9 rfl
theorem dX7_readTest_98 : decode cX7_readTest 98 = .ok (.ldc2_w 132, 3) := zDec_at zB_dX7_readTest_78 10 rfl
theorem dX7_readTest_101 : decode cX7_readTest 101 = .ok (.lcmp, 1) := zDec_at zB_dX7_readTest_78 11 rfl
theorem dX7_readTest_102 : decode cX7_readTest 102 = .ok (.ifCond .eq 4, 3) := zDec_at zB_dX7_readTest_78 12 rfl
theorem dX7_readTest_105 : decode cX7_readTest 105 = .ok (.return_, 1) := zDec_at zB_dX7_readTest_78 13 rfl
theorem dX7_readTest_106 : decode cX7_readTest 106 = .ok (.aload_n 0, 1) := zDec_at zB_dX7_readTest_78 14 rfl
theorem dX7_readTest_107 : decode cX7_readTest 107 = .ok (.getfield 34, 3) := zDec_at zB_dX7_readTest_78 15 rfl
theorem dX7_readTest_110 : decode cX7_readTest 110 = .ok (.istore_n 2, 1) := zDec_at zB_dX7_readTest_78 16 rfl
theorem dX7_readTest_111 : decode cX7_readTest 111 = .ok (.aload_n 0, 1) := zDec_at zB_dX7_readTest_78 17 rfl
theorem dX7_readTest_112 : decode cX7_readTest 112 = .ok (.bipush 11, 2) := zDec_at zB_dX7_readTest_78 18 rfl
theorem dX7_readTest_114 : decode cX7_readTest 114 = .ok (.iconst 0, 1) := zDec_at zB_dX7_readTest_78 19 rfl
theorem dX7_readTest_115 : decode cX7_readTest 115 = .ok (.invokevirtual 129, 3) := zDec_at zB_dX7_readTest_78 20 rfl
theorem dX7_readTest_118 : decode cX7_readTest 118 = .ok (.aload_n 0, 1) := zDec_at zB_dX7_readTest_78 21 rfl
theorem dX7_readTest_119 : decode cX7_readTest 119 = .ok (.invokevirtual 43, 3) := zDec_at zB_dX7_readTest_78 22 rfl
theorem dX7_readTest_122 : decode cX7_readTest 122 = .ok (.iinc 3 1, 3) := zDec_at zB_dX7_readTest_78 23 rfl
theorem dX7_readTest_125 : decode cX7_readTest 125 = .ok (.goto (-121), 3) := zDec_at zB_dX7_readTest_78 24 rfl
theorem dX7_readTest_128 : decode cX7_readTest 128 = .ok (.return_, 1) := zDec_at zB_dX7_readTest_78 25 rfl
theorem zB_dX7_readText_0 : zDecB cX7_readText [(0, .aload_n 0, 1), (1, .iconst (-1), 1), (2, .putfield 15, 3), (5, .aload_n 0, 1), (6, .iconst 0, 1), (7, .putfield 34, 3), (10, .aload_n 0, 1), (11, .iconst 0, 1), (12, .putfield 37, 3), (15, .aload_n 0, 1), (16, .iconst 0, 1), (17, .putfield 40, 3), (20, .aload_n 0, 1), (21, .invokevirtual 43, 3), (24, .iconst 1, 1), (25, .istore_n 1, 1), (26, .iconst 0, 1), (27, .istore_n 2, 1), (28, .iload_n 2, 1), (29, .bipush 12, 2), (31, .if_icmp .ge 154, 3), (34, .iload_n 1, 1), (35, .ifCond .eq 150, 3), (38, .aload_n 0, 1), (39, .iload_n 2, 1), (40, .putfield 46, 3), (43, .aload_n 0, 1), (44, .getfield 25, 3), (47, .iconst 2, 1), (48, .iload_n 2, 1), (49, .imul, 1), (50, .aload_n 0, 1), (51, .getfield 34, 3), (54, .iastore, 1), (55, .aload_n 0, 1), (56, .invokevirtual 49, 3), (59, .aload_n 0, 1), (60, .getfield 25, 3), (63, .iconst 2, 1), (64, .iload_n 2, 1)] = true := by decide +kernel
theorem dX7_readText_0 : decode cX7_readText 0 = .ok (.aload_n 0, 1) := zDec_at zB_dX7_readText_0 0 rfl
theorem dX7_readText_1 : decode cX7_readText 1 = .ok (.iconst (-1), 1) := zDec_at zB_dX7_readText_0 1 rfl
theorem dX7_readText_2 : decode cX7_readText 2 = .ok (.putfield 15, 3) := zDec_at zB_dX7_readText_0 2 rfl
theorem dX7_readText_5 : decode cX7_readText 5 = .ok (.aload_n 0, 1) := zDec_at zB_dX7_readText_0 3 rfl
theorem dX7_readText_6 : decode cX7_readText 6 = .ok (.iconst 0, 1) := zDec_at zB_dX7_readText_0 4 rfl
theorem dX7_readText_7 : decode cX7_readText 7 = .ok (.putfield 34, 3) := zDec_at zB_dX7_readText_0 5 rfl
theorem dX7_readText_10 : decode cX7_readText 10 = .ok (.aload_n 0, 1) := zDec_at zB_dX7_readText_0 6 rfl
theorem dX7_readText_11 : decode cX7_readText 11 = .ok (.iconst 0, 1) := zDec_at zB_dX7_readText_0 7 rfl
theorem dX7_readText_12 : decode cX7_readText 12 = .ok (.putfield 37, 3) := zDec_at zB_dX7_readText_0 8 rfl
theorem dX7_readText_15 : decode cX7_readText 15 = .ok (.aload_n 0, 1) := zDec_at zB_dX7_readText_0 9 rfl
theorem dX7_readText_16 : decode cX7_readText 16 = .ok (.iconst 0, 1) := zDec_at zB_dX7_readText_0 10 rfl
theorem dX7_readText_17 : decode cX7_readText 17 = .ok (.putfield 40, 3) := zDec_at zB_dX7_readText_0 11 rfl
theorem dX7_readText_20 : decode cX7_readText 20 = .ok (.aload_n 0, 1) := zDec_at zB_dX7_readText_0 12 rfl
theorem dX7_readText_21 : decode cX7_readText 21 = .ok (.invokevirtual 43, 3) := zDec_at zB_dX7_readText_0 13 rfl
theorem dX7_readText_24 : decode cX7_readText 24 = .ok (.iconst 1, 1) := zDec_at zB_dX7_readText_0 14 rfl
theorem dX7_readText_25 : decode cX7_readText 25 = .ok (.istore_n 1, 1) := zDec_at zB_dX7_readText_0 15 rfl
theorem dX7_readText_26 : decode cX7_readText 26 = .ok (.iconst 0, 1) := zDec_at zB_dX7_readText_0 16 rfl
theorem dX7_readText_27 : decode cX7_readText 27 = .ok (.istore_n 2, 1) := zDec_at zB_dX7_readText_0 17 rfl
theorem dX7_readText_28 : decode cX7_readText 28 = .ok (.iload_n 2, 1) := zDec_at zB_dX7_readText_0 18 rfl
theorem dX7_readText_29 : decode cX7_readText 29 = .ok (.bipush 12, 2) := zDec_at zB_dX7_readText_0 19 rfl
theorem dX7_readText_31 : decode cX7_readText 31 = .ok (.if_icmp .ge 154, 3) := zDec_at zB_dX7_readText_0 20 rfl
theorem dX7_readText_34 : decode cX7_readText 34 = .ok (.iload_n 1, 1) := zDec_at zB_dX7_readText_0 21 rfl
theorem dX7_readText_35 : decode cX7_readText 35 = .ok (.ifCond .eq 150, 3) := zDec_at zB_dX7_readText_0 22 rfl
theorem dX7_readText_38 : decode cX7_readText 38 = .ok (.aload_n 0, 1) := zDec_at zB_dX7_readText_0 23 rfl
theorem dX7_readText_39 : decode cX7_readText 39 = .ok (.iload_n 2, 1) := zDec_at zB_dX7_readText_0 24 rfl
theorem dX7_readText_40 : decode cX7_readText 40 = .ok (.putfield 46, 3) := zDec_at zB_dX7_readText_0 25 rfl
theorem dX7_readText_43 : decode cX7_readText 43 = .ok (.aload_n 0, 1) := zDec_at zB_dX7_readText_0 26 rfl
theorem dX7_readText_44 : decode cX7_readText 44 = .ok (.getfield 25, 3) := zDec_at zB_dX7_readText_0 27 rfl
theorem dX7_readText_47 : decode cX7_readText 47 = .ok (.iconst 2, 1) := zDec_at zB_dX7_readText_0 28 rfl
theorem dX7_readText_48 : decode cX7_readText 48 = .ok (.iload_n 2, 1) := zDec_at zB_dX7_readText_0 29 rfl
theorem dX7_readText_49 : decode cX7_readText 49 = .ok (.imul, 1) := zDec_at zB_dX7_readText_0 30 rfl
theorem dX7_readText_50 : decode cX7_readText 50 = .ok (.aload_n 0, 1) := zDec_at zB_dX7_readText_0 31 rfl
theorem dX7_readText_51 : decode cX7_readText 51 = .ok (.getfield 34, 3) := zDec_at zB_dX7_readText_0 32 rfl
theorem dX7_readText_54 : decode cX7_readText 54 = .ok (.iastore, 1) := zDec_at zB_dX7_readText_0 33 rfl
theorem dX7_readText_55 : decode cX7_readText 55 = .ok (.aload_n 0, 1) := zDec_at zB_dX7_readText_0 34 rfl
theorem dX7_readText_56 : decode cX7_readText 56 = .ok (.invokevirtual 49, 3) := zDec_at zB_dX7_readText_0 35 rfl
theorem dX7_readText_59 : decode cX7_readText 59 = .ok (.aload_n 0, 1) := zDec_at zB_dX7_readText_0 36 rfl
theorem dX7_readText_60 : decode cX7_readText 60 = .ok (.getfield 25, 3) := zDec_at zB_dX7_readText_0 37 rfl
theorem dX7_readText_63 : decode cX7_readText 63 = .ok (.iconst 2, 1) := zDec_at zB_dX7_readText_0 38 rfl
theorem dX7_readText_64 : decode cX7_readText 64 = .ok (.iload_n 2, 1) := zDec_at zB_dX7_readText_0 39 rfl
theorem zB_dX7_readText_65 : zDecB cX7_readText [(65, .imul, 1), (66, .iconst 1, 1), (67, .iadd, 1), (68, .aload_n 0, 1), (69, .getfield 34, 3), (72, .iastore, 1), (73, .aload_n 0, 1), (74, .getfield 15, 3), (77, .iconst (-1), 1), (78, .if_icmp .ne 35, 3), (81, .aload_n 0, 1), (82, .getfield 52, 3), (85, .ldc2_w 56, 3), (88, .lcmp, 1), (89, .ifCond .ne 24, 3), (92, .aload_n 0, 1), (93, .getfield 19, 3), (96, .iload_n 2, 1), (97, .iaload, 1), (98, .sipush 640, 3), (101, .if_icmp .eq 12, 3), (104, .aload_n 0, 1), (105, .invokevirtual 43, 3), (108, .aload_n 0, 1), (109, .iconst 0, 1), (110, .invokevirtual 58, 3), (113, .aload_n 0, 1), (114, .getfield 25, 3), (117, .iconst 2, 1), (118, .iload_n 2, 1), (119, .imul, 1), (120, .iconst 2, 1), (121, .iadd, 1), (122, .aload_n 0, 1), (123, .getfield 34, 3), (126, .iastore, 1), (127, .aload_n 0, 1), (128, .iload_n 2, 1), (129, .iconst 1, 1), (130, .iadd, 1)] = true := by decide +kernel
theorem dX7_readText_65 : decode cX7_readText 65 = .ok (.imul, 1) := zDec_at zB_dX7_readText_65 0 rfl
theorem dX7_readText_66 : decode cX7_readText 66 = .ok (.iconst 1, 1) := zDec_at zB_dX7_readText_65 1 rfl
theorem dX7_readText_67 : decode cX7_readText 67 = .ok (.iadd, 1) := zDec_at zB_dX7_readText_65 2 rfl
theorem dX7_readText_68 : decode cX7_readText 68 = .ok (.aload_n 0, 1) := zDec_at zB_dX7_readText_65 3 rfl
theorem dX7_readText_69 : decode cX7_readText 69 = .ok (.getfield 34, 3) := zDec_at zB_dX7_readText_65 4 rfl
theorem dX7_readText_72 : decode cX7_readText 72 = .ok (.iastore, 1) := zDec_at zB_dX7_readText_65 5 rfl
theorem dX7_readText_73 : decode cX7_readText 73 = .ok (.aload_n 0, 1) := zDec_at zB_dX7_readText_65 6 rfl
theorem dX7_readText_74 : decode cX7_readText 74 = .ok (.getfield 15, 3) := zDec_at zB_dX7_readText_65 7 rfl
theorem dX7_readText_77 : decode cX7_readText 77 = .ok (.iconst (-1), 1) := zDec_at zB_dX7_readText_65 8 rfl
theorem dX7_readText_78 : decode cX7_readText 78 = .ok (.if_icmp .ne 35, 3) := zDec_at zB_dX7_readText_65 9 rfl
theorem dX7_readText_81 : decode cX7_readText 81 = .ok (.aload_n 0, 1) := zDec_at zB_dX7_readText_65 10 rfl
theorem dX7_readText_82 : decode cX7_readText 82 = .ok (.getfield 52, 3) := zDec_at zB_dX7_readText_65 11 rfl
theorem dX7_readText_85 : decode cX7_readText 85 = .ok (.ldc2_w 56, 3) := zDec_at zB_dX7_readText_65 12 rfl
theorem dX7_readText_88 : decode cX7_readText 88 = .ok (.lcmp, 1) := zDec_at zB_dX7_readText_65 13 rfl
theorem dX7_readText_89 : decode cX7_readText 89 = .ok (.ifCond .ne 24, 3) := zDec_at zB_dX7_readText_65 14 rfl
theorem dX7_readText_92 : decode cX7_readText 92 = .ok (.aload_n 0, 1) := zDec_at zB_dX7_readText_65 15 rfl
theorem dX7_readText_93 : decode cX7_readText 93 = .ok (.getfield 19, 3) := zDec_at zB_dX7_readText_65 16 rfl
theorem dX7_readText_96 : decode cX7_readText 96 = .ok (.iload_n 2, 1) := zDec_at zB_dX7_readText_65 17 rfl
theorem dX7_readText_97 : decode cX7_readText 97 = .ok (.iaload, 1) := zDec_at zB_dX7_readText_65 18 rfl
theorem dX7_readText_98 : decode cX7_readText 98 = .ok (.sipush 640, 3) := zDec_at zB_dX7_readText_65 19 rfl
theorem dX7_readText_101 : decode cX7_readText 101 = .ok (.if_icmp .eq 12, 3) := zDec_at zB_dX7_readText_65 20 rfl
theorem dX7_readText_104 : decode cX7_readText 104 = .ok (.aload_n 0, 1) := zDec_at zB_dX7_readText_65 21 rfl
theorem dX7_readText_105 : decode cX7_readText 105 = .ok (.invokevirtual 43, 3) := zDec_at zB_dX7_readText_65 22 rfl
theorem dX7_readText_108 : decode cX7_readText 108 = .ok (.aload_n 0, 1) := zDec_at zB_dX7_readText_65 23 rfl
theorem dX7_readText_109 : decode cX7_readText 109 = .ok (.iconst 0, 1) := zDec_at zB_dX7_readText_65 24 rfl
theorem dX7_readText_110 : decode cX7_readText 110 = .ok (.invokevirtual 58, 3) := zDec_at zB_dX7_readText_65 25 rfl
theorem dX7_readText_113 : decode cX7_readText 113 = .ok (.aload_n 0, 1) := zDec_at zB_dX7_readText_65 26 rfl
theorem dX7_readText_114 : decode cX7_readText 114 = .ok (.getfield 25, 3) := zDec_at zB_dX7_readText_65 27 rfl
theorem dX7_readText_117 : decode cX7_readText 117 = .ok (.iconst 2, 1) := zDec_at zB_dX7_readText_65 28 rfl
theorem dX7_readText_118 : decode cX7_readText 118 = .ok (.iload_n 2, 1) := zDec_at zB_dX7_readText_65 29 rfl
theorem dX7_readText_119 : decode cX7_readText 119 = .ok (.imul, 1) := zDec_at zB_dX7_readText_65 30 rfl
theorem dX7_readText_120 : decode cX7_readText 120 = .ok (.iconst 2, 1) := zDec_at zB_dX7_readText_65 31 rfl
theorem dX7_readText_121 : decode cX7_readText 121 = .ok (.iadd, 1) := zDec_at zB_dX7_readText_65 32 rfl
theorem dX7_readText_122 : decode cX7_readText 122 = .ok (.aload_n 0, 1) := zDec_at zB_dX7_readText_65 33 rfl
theorem dX7_readText_123 : decode cX7_readText 123 = .ok (.getfield 34, 3) := zDec_at zB_dX7_readText_65 34 rfl
theorem dX7_readText_126 : decode cX7_readText 126 = .ok (.iastore, 1) := zDec_at zB_dX7_readText_65 35 rfl
theorem dX7_readText_127 : decode cX7_readText 127 = .ok (.aload_n 0, 1) := zDec_at zB_dX7_readText_65 36 rfl
theorem dX7_readText_128 : decode cX7_readText 128 = .ok (.iload_n 2, 1) := zDec_at zB_dX7_readText_65 37 rfl
theorem dX7_readText_129 : decode cX7_readText 129 = .ok (.iconst 1, 1) := zDec_at zB_dX7_readText_65 38 rfl
theorem dX7_readText_130 : decode cX7_readText 130 = .ok (.iadd, 1) := zDec_at zB_dX7_readText_65 39 rfl
theorem zB_dX7_readText_131 : zDecB cX7_readText [(131, .putfield 46, 3), (134, .aload_n 0, 1), (135, .getfield 15, 3), (138, .iconst (-1), 1), (139, .if_icmp .ne 16, 3), (142, .aload_n 0, 1), (143, .bipush 59, 2), (145, .invokevirtual 62, 3), (148, .ifCond .eq 7, 3), (151, .iconst 1, 1), (152, .goto 4, 3), (155, .iconst 0, 1), (156, .istore_n 1, 1), (157, .iload_n 1, 1), (158, .ifCond .eq 10, 3), (161, .aload_n 0, 1), (162, .invokevirtual 43, 3), (165, .goto 14, 3), (168, .aload_n 0, 1), (169, .getfield 66, 3), (172, .ifCond .eq 7, 3), (175, .aload_n 0, 1), (176, .invokevirtual 69, 3), (179, .iinc 2 1, 3), (182, .goto (-154), 3), (185, .iload_n 1, 1), (186, .ifCond .eq 7, 3), (189, .aload_n 0, 1), (190, .invokevirtual 69, 3), (193, .aload_n 0, 1), (194, .iconst 0, 1), (195, .putfield 31, 3), (198, .aload_n 0, 1), (199, .getfield 15, 3), (202, .iconst (-1), 1), (203, .if_icmp .ne 14, 3), (206, .new 72, 3), (209, .dup, 1), (210, .aload_n 0, 1), (211, .invokespecial 74, 3)] = true := by decide +kernel
theorem dX7_readText_131 : decode cX7_readText 131 = .ok (.putfield 46, 3) := zDec_at zB_dX7_readText_131 0 rfl
theorem dX7_readText_134 : decode cX7_readText 134 = .ok (.aload_n 0, 1) := zDec_at zB_dX7_readText_131 1 rfl
theorem dX7_readText_135 : decode cX7_readText 135 = .ok (.getfield 15, 3) := zDec_at zB_dX7_readText_131 2 rfl
theorem dX7_readText_138 : decode cX7_readText 138 = .ok (.iconst (-1), 1) := zDec_at zB_dX7_readText_131 3 rfl
theorem dX7_readText_139 : decode cX7_readText 139 = .ok (.if_icmp .ne 16, 3) := zDec_at zB_dX7_readText_131 4 rfl
theorem dX7_readText_142 : decode cX7_readText 142 = .ok (.aload_n 0, 1) := zDec_at zB_dX7_readText_131 5 rfl
theorem dX7_readText_143 : decode cX7_readText 143 = .ok (.bipush 59, 2) := zDec_at zB_dX7_readText_131 6 rfl
theorem dX7_readText_145 : decode cX7_readText 145 = .ok (.invokevirtual 62, 3) := zDec_at zB_dX7_readText_131 7 rfl
theorem dX7_readText_148 : decode cX7_readText 148 = .ok (.ifCond .eq 7, 3) := zDec_at zB_dX7_readText_131 8 rfl
theorem dX7_readText_151 : decode cX7_readText 151 = .ok (.iconst 1, 1) := zDec_at zB_dX7_readText_131 9 rfl
theorem dX7_readText_152 : decode cX7_readText 152 = .ok (.goto 4, 3) := zDec_at zB_dX7_readText_131 10 rfl
theorem dX7_readText_155 : decode cX7_readText 155 = .ok (.iconst 0, 1) := zDec_at zB_dX7_readText_131 11 rfl
theorem dX7_readText_156 : decode cX7_readText 156 = .ok (.istore_n 1, 1) := zDec_at zB_dX7_readText_131 12 rfl
theorem dX7_readText_157 : decode cX7_readText 157 = .ok (.iload_n 1, 1) := zDec_at zB_dX7_readText_131 13 rfl
theorem dX7_readText_158 : decode cX7_readText 158 = .ok (.ifCond .eq 10, 3) := zDec_at zB_dX7_readText_131 14 rfl
theorem dX7_readText_161 : decode cX7_readText 161 = .ok (.aload_n 0, 1) := zDec_at zB_dX7_readText_131 15 rfl
theorem dX7_readText_162 : decode cX7_readText 162 = .ok (.invokevirtual 43, 3) := zDec_at zB_dX7_readText_131 16 rfl
theorem dX7_readText_165 : decode cX7_readText 165 = .ok (.goto 14, 3) := zDec_at zB_dX7_readText_131 17 rfl
theorem dX7_readText_168 : decode cX7_readText 168 = .ok (.aload_n 0, 1) := zDec_at zB_dX7_readText_131 18 rfl
theorem dX7_readText_169 : decode cX7_readText 169 = .ok (.getfield 66, 3) := zDec_at zB_dX7_readText_131 19 rfl
theorem dX7_readText_172 : decode cX7_readText 172 = .ok (.ifCond .eq 7, 3) := zDec_at zB_dX7_readText_131 20 rfl
theorem dX7_readText_175 : decode cX7_readText 175 = .ok (.aload_n 0, 1) := zDec_at zB_dX7_readText_131 21 rfl
theorem dX7_readText_176 : decode cX7_readText 176 = .ok (.invokevirtual 69, 3) := zDec_at zB_dX7_readText_131 22 rfl
theorem dX7_readText_179 : decode cX7_readText 179 = .ok (.iinc 2 1, 3) := zDec_at zB_dX7_readText_131 23 rfl
theorem dX7_readText_182 : decode cX7_readText 182 = .ok (.goto (-154), 3) := zDec_at zB_dX7_readText_131 24 rfl
theorem dX7_readText_185 : decode cX7_readText 185 = .ok (.iload_n 1, 1) := zDec_at zB_dX7_readText_131 25 rfl
theorem dX7_readText_186 : decode cX7_readText 186 = .ok (.ifCond .eq 7, 3) := zDec_at zB_dX7_readText_131 26 rfl
theorem dX7_readText_189 : decode cX7_readText 189 = .ok (.aload_n 0, 1) := zDec_at zB_dX7_readText_131 27 rfl
theorem dX7_readText_190 : decode cX7_readText 190 = .ok (.invokevirtual 69, 3) := zDec_at zB_dX7_readText_131 28 rfl
theorem dX7_readText_193 : decode cX7_readText 193 = .ok (.aload_n 0, 1) := zDec_at zB_dX7_readText_131 29 rfl
theorem dX7_readText_194 : decode cX7_readText 194 = .ok (.iconst 0, 1) := zDec_at zB_dX7_readText_131 30 rfl
theorem dX7_readText_195 : decode cX7_readText 195 = .ok (.putfield 31, 3) := zDec_at zB_dX7_readText_131 31 rfl
theorem dX7_readText_198 : decode cX7_readText 198 = .ok (.aload_n 0, 1) := zDec_at zB_dX7_readText_131 32 rfl
theorem dX7_readText_199 : decode cX7_readText 199 = .ok (.getfield 15, 3) := zDec_at zB_dX7_readText_131 33 rfl
theorem dX7_readText_202 : decode cX7_readText 202 = .ok (.iconst (-1), 1) := zDec_at zB_dX7_readText_131 34 rfl
theorem dX7_readText_203 : decode cX7_readText 203 = .ok (.if_icmp .ne 14, 3) := zDec_at zB_dX7_readText_131 35 rfl
theorem dX7_readText_206 : decode cX7_readText 206 = .ok (.new 72, 3) := zDec_at zB_dX7_readText_131 36 rfl
theorem dX7_readText_209 : decode cX7_readText 209 = .ok (.dup, 1) := zDec_at zB_dX7_readText_131 37 rfl
theorem dX7_readText_210 : decode cX7_readText 210 = .ok (.aload_n 0, 1) := zDec_at zB_dX7_readText_131 38 rfl
theorem dX7_readText_211 : decode cX7_readText 211 = .ok (.invokespecial 74, 3) := zDec_at zB_dX7_readText_131 39 rfl
theorem zB_dX7_readText_214 : zDecB cX7_readText [(214, .goto 4, 3), (217, .aconst_null, 1), (218, .areturn, 1)] = true := by decide +kernel
theorem dX7_readText_214 : decode cX7_readText 214 = .ok (.goto 4, 3) := zDec_at zB_dX7_readText_214 0 rfl
theorem dX7_readText_217 : decode cX7_readText 217 = .ok (.aconst_null, 1) := zDec_at zB_dX7_readText_214 1 rfl
theorem dX7_readText_218 : decode cX7_readText 218 = .ok (.areturn, 1) := zDec_at zB_dX7_readText_214 2 rfl
theorem zB_dX7_refuseToken_0 : zDecB cX7_refuseToken [(0, .aload_n 0, 1), (1, .getfield 15, 3), (4, .iconst (-1), 1), (5, .if_icmp .ne 11, 3), (8, .aload_n 0, 1), (9, .aload_n 0, 1), (10, .getfield 163, 3), (13, .putfield 15, 3), (16, .return_, 1)] = true := by decide +kernel
theorem dX7_refuseToken_0 : decode cX7_refuseToken 0 = .ok (.aload_n 0, 1) := zDec_at zB_dX7_refuseToken_0 0 rfl
theorem dX7_refuseToken_1 : decode cX7_refuseToken 1 = .ok (.getfield 15, 3) := zDec_at zB_dX7_refuseToken_0 1 rfl
theorem dX7_refuseToken_4 : decode cX7_refuseToken 4 = .ok (.iconst (-1), 1) := zDec_at zB_dX7_refuseToken_0 2 rfl
theorem dX7_refuseToken_5 : decode cX7_refuseToken 5 = .ok (.if_icmp .ne 11, 3) := zDec_at zB_dX7_refuseToken_0 3 rfl
theorem dX7_refuseToken_8 : decode cX7_refuseToken 8 = .ok (.aload_n 0, 1) := zDec_at zB_dX7_refuseToken_0 4 rfl
theorem dX7_refuseToken_9 : decode cX7_refuseToken 9 = .ok (.aload_n 0, 1) := zDec_at zB_dX7_refuseToken_0 5 rfl
theorem dX7_refuseToken_10 : decode cX7_refuseToken 10 = .ok (.getfield 163, 3) := zDec_at zB_dX7_refuseToken_0 6 rfl
theorem dX7_refuseToken_13 : decode cX7_refuseToken 13 = .ok (.putfield 15, 3) := zDec_at zB_dX7_refuseToken_0 7 rfl
theorem dX7_refuseToken_16 : decode cX7_refuseToken 16 = .ok (.return_, 1) := zDec_at zB_dX7_refuseToken_0 8 rfl
theorem zB_dX7_takeKind_0 : zDecB cX7_takeKind [(0, .aload_n 0, 1), (1, .getstatic 166, 3), (4, .invokevirtual 140, 3), (7, .istore_n 1, 1), (8, .aload_n 0, 1), (9, .getfield 15, 3), (12, .iconst (-1), 1), (13, .if_icmp .ne 8, 3), (16, .iload_n 1, 1), (17, .iconst (-1), 1), (18, .if_icmp .ne 9, 3), (21, .aload_n 0, 1), (22, .invokevirtual 69, 3), (25, .iconst 0, 1), (26, .ireturn, 1), (27, .aload_n 0, 1), (28, .invokevirtual 43, 3), (31, .iload_n 1, 1), (32, .ireturn, 1)] = true := by decide +kernel
theorem dX7_takeKind_0 : decode cX7_takeKind 0 = .ok (.aload_n 0, 1) := zDec_at zB_dX7_takeKind_0 0 rfl
theorem dX7_takeKind_1 : decode cX7_takeKind 1 = .ok (.getstatic 166, 3) := zDec_at zB_dX7_takeKind_0 1 rfl
theorem dX7_takeKind_4 : decode cX7_takeKind 4 = .ok (.invokevirtual 140, 3) := zDec_at zB_dX7_takeKind_0 2 rfl
theorem dX7_takeKind_7 : decode cX7_takeKind 7 = .ok (.istore_n 1, 1) := zDec_at zB_dX7_takeKind_0 3 rfl
theorem dX7_takeKind_8 : decode cX7_takeKind 8 = .ok (.aload_n 0, 1) := zDec_at zB_dX7_takeKind_0 4 rfl
theorem dX7_takeKind_9 : decode cX7_takeKind 9 = .ok (.getfield 15, 3) := zDec_at zB_dX7_takeKind_0 5 rfl
theorem dX7_takeKind_12 : decode cX7_takeKind 12 = .ok (.iconst (-1), 1) := zDec_at zB_dX7_takeKind_0 6 rfl
theorem dX7_takeKind_13 : decode cX7_takeKind 13 = .ok (.if_icmp .ne 8, 3) := zDec_at zB_dX7_takeKind_0 7 rfl
theorem dX7_takeKind_16 : decode cX7_takeKind 16 = .ok (.iload_n 1, 1) := zDec_at zB_dX7_takeKind_0 8 rfl
theorem dX7_takeKind_17 : decode cX7_takeKind 17 = .ok (.iconst (-1), 1) := zDec_at zB_dX7_takeKind_0 9 rfl
theorem dX7_takeKind_18 : decode cX7_takeKind 18 = .ok (.if_icmp .ne 9, 3) := zDec_at zB_dX7_takeKind_0 10 rfl
theorem dX7_takeKind_21 : decode cX7_takeKind 21 = .ok (.aload_n 0, 1) := zDec_at zB_dX7_takeKind_0 11 rfl
theorem dX7_takeKind_22 : decode cX7_takeKind 22 = .ok (.invokevirtual 69, 3) := zDec_at zB_dX7_takeKind_0 12 rfl
theorem dX7_takeKind_25 : decode cX7_takeKind 25 = .ok (.iconst 0, 1) := zDec_at zB_dX7_takeKind_0 13 rfl
theorem dX7_takeKind_26 : decode cX7_takeKind 26 = .ok (.ireturn, 1) := zDec_at zB_dX7_takeKind_0 14 rfl
theorem dX7_takeKind_27 : decode cX7_takeKind 27 = .ok (.aload_n 0, 1) := zDec_at zB_dX7_takeKind_0 15 rfl
theorem dX7_takeKind_28 : decode cX7_takeKind 28 = .ok (.invokevirtual 43, 3) := zDec_at zB_dX7_takeKind_0 16 rfl
theorem dX7_takeKind_31 : decode cX7_takeKind 31 = .ok (.iload_n 1, 1) := zDec_at zB_dX7_takeKind_0 17 rfl
theorem dX7_takeKind_32 : decode cX7_takeKind 32 = .ok (.ireturn, 1) := zDec_at zB_dX7_takeKind_0 18 rfl
theorem zB_dX7_takeLetter_0 : zDecB cX7_takeLetter [(0, .aload_n 0, 1), (1, .getfield 15, 3), (4, .iconst (-1), 1), (5, .if_icmp .ne 24, 3), (8, .aload_n 0, 1), (9, .getfield 66, 3), (12, .iconst 1, 1), (13, .if_icmp .ne 16, 3), (16, .aload_n 0, 1), (17, .getfield 40, 3), (20, .aload_n 0, 1), (21, .getfield 163, 3), (24, .isub, 1), (25, .iconst 1, 1), (26, .if_icmp .eq 9, 3), (29, .aload_n 0, 1), (30, .invokevirtual 69, 3), (33, .iconst 0, 1), (34, .ireturn, 1), (35, .aload_n 0, 1), (36, .getfield 52, 3), (39, .l2i, 1), (40, .bipush 97, 2), (42, .isub, 1), (43, .istore_n 1, 1), (44, .aload_n 0, 1), (45, .invokevirtual 43, 3), (48, .iload_n 1, 1), (49, .ireturn, 1)] = true := by decide +kernel
theorem dX7_takeLetter_0 : decode cX7_takeLetter 0 = .ok (.aload_n 0, 1) := zDec_at zB_dX7_takeLetter_0 0 rfl
theorem dX7_takeLetter_1 : decode cX7_takeLetter 1 = .ok (.getfield 15, 3) := zDec_at zB_dX7_takeLetter_0 1 rfl
theorem dX7_takeLetter_4 : decode cX7_takeLetter 4 = .ok (.iconst (-1), 1) := zDec_at zB_dX7_takeLetter_0 2 rfl
theorem dX7_takeLetter_5 : decode cX7_takeLetter 5 = .ok (.if_icmp .ne 24, 3) := zDec_at zB_dX7_takeLetter_0 3 rfl
theorem dX7_takeLetter_8 : decode cX7_takeLetter 8 = .ok (.aload_n 0, 1) := zDec_at zB_dX7_takeLetter_0 4 rfl
theorem dX7_takeLetter_9 : decode cX7_takeLetter 9 = .ok (.getfield 66, 3) := zDec_at zB_dX7_takeLetter_0 5 rfl
theorem dX7_takeLetter_12 : decode cX7_takeLetter 12 = .ok (.iconst 1, 1) := zDec_at zB_dX7_takeLetter_0 6 rfl
theorem dX7_takeLetter_13 : decode cX7_takeLetter 13 = .ok (.if_icmp .ne 16, 3) := zDec_at zB_dX7_takeLetter_0 7 rfl
theorem dX7_takeLetter_16 : decode cX7_takeLetter 16 = .ok (.aload_n 0, 1) := zDec_at zB_dX7_takeLetter_0 8 rfl
theorem dX7_takeLetter_17 : decode cX7_takeLetter 17 = .ok (.getfield 40, 3) := zDec_at zB_dX7_takeLetter_0 9 rfl
theorem dX7_takeLetter_20 : decode cX7_takeLetter 20 = .ok (.aload_n 0, 1) := zDec_at zB_dX7_takeLetter_0 10 rfl
theorem dX7_takeLetter_21 : decode cX7_takeLetter 21 = .ok (.getfield 163, 3) := zDec_at zB_dX7_takeLetter_0 11 rfl
theorem dX7_takeLetter_24 : decode cX7_takeLetter 24 = .ok (.isub, 1) := zDec_at zB_dX7_takeLetter_0 12 rfl
theorem dX7_takeLetter_25 : decode cX7_takeLetter 25 = .ok (.iconst 1, 1) := zDec_at zB_dX7_takeLetter_0 13 rfl
theorem dX7_takeLetter_26 : decode cX7_takeLetter 26 = .ok (.if_icmp .eq 9, 3) := zDec_at zB_dX7_takeLetter_0 14 rfl
theorem dX7_takeLetter_29 : decode cX7_takeLetter 29 = .ok (.aload_n 0, 1) := zDec_at zB_dX7_takeLetter_0 15 rfl
theorem dX7_takeLetter_30 : decode cX7_takeLetter 30 = .ok (.invokevirtual 69, 3) := zDec_at zB_dX7_takeLetter_0 16 rfl
theorem dX7_takeLetter_33 : decode cX7_takeLetter 33 = .ok (.iconst 0, 1) := zDec_at zB_dX7_takeLetter_0 17 rfl
theorem dX7_takeLetter_34 : decode cX7_takeLetter 34 = .ok (.ireturn, 1) := zDec_at zB_dX7_takeLetter_0 18 rfl
theorem dX7_takeLetter_35 : decode cX7_takeLetter 35 = .ok (.aload_n 0, 1) := zDec_at zB_dX7_takeLetter_0 19 rfl
theorem dX7_takeLetter_36 : decode cX7_takeLetter 36 = .ok (.getfield 52, 3) := zDec_at zB_dX7_takeLetter_0 20 rfl
theorem dX7_takeLetter_39 : decode cX7_takeLetter 39 = .ok (.l2i, 1) := zDec_at zB_dX7_takeLetter_0 21 rfl
theorem dX7_takeLetter_40 : decode cX7_takeLetter 40 = .ok (.bipush 97, 2) := zDec_at zB_dX7_takeLetter_0 22 rfl
theorem dX7_takeLetter_42 : decode cX7_takeLetter 42 = .ok (.isub, 1) := zDec_at zB_dX7_takeLetter_0 23 rfl
theorem dX7_takeLetter_43 : decode cX7_takeLetter 43 = .ok (.istore_n 1, 1) := zDec_at zB_dX7_takeLetter_0 24 rfl
theorem dX7_takeLetter_44 : decode cX7_takeLetter 44 = .ok (.aload_n 0, 1) := zDec_at zB_dX7_takeLetter_0 25 rfl
theorem dX7_takeLetter_45 : decode cX7_takeLetter 45 = .ok (.invokevirtual 43, 3) := zDec_at zB_dX7_takeLetter_0 26 rfl
theorem dX7_takeLetter_48 : decode cX7_takeLetter 48 = .ok (.iload_n 1, 1) := zDec_at zB_dX7_takeLetter_0 27 rfl
theorem dX7_takeLetter_49 : decode cX7_takeLetter 49 = .ok (.ireturn, 1) := zDec_at zB_dX7_takeLetter_0 28 rfl
theorem zB_dX7_takeNumber_0 : zDecB cX7_takeNumber [(0, .aload_n 0, 1), (1, .getfield 15, 3), (4, .iconst (-1), 1), (5, .if_icmp .ne 23, 3), (8, .aload_n 0, 1), (9, .getfield 66, 3), (12, .iconst 2, 1), (13, .if_icmp .ne 15, 3), (16, .aload_n 0, 1), (17, .getfield 156, 3), (20, .iload_n 1, 1), (21, .iload_n 2, 1), (22, .invokestatic 159, 3), (25, .ifCond .eq 9, 3), (28, .aload_n 0, 1), (29, .invokevirtual 69, 3), (32, .iconst 0, 1), (33, .ireturn, 1), (34, .aload_n 0, 1), (35, .getfield 156, 3), (38, .istore_n 3, 1), (39, .aload_n 0, 1), (40, .invokevirtual 43, 3), (43, .iload_n 3, 1), (44, .ireturn, 1)] = true := by decide +kernel
theorem dX7_takeNumber_0 : decode cX7_takeNumber 0 = .ok (.aload_n 0, 1) := zDec_at zB_dX7_takeNumber_0 0 rfl
theorem dX7_takeNumber_1 : decode cX7_takeNumber 1 = .ok (.getfield 15, 3) := zDec_at zB_dX7_takeNumber_0 1 rfl
theorem dX7_takeNumber_4 : decode cX7_takeNumber 4 = .ok (.iconst (-1), 1) := zDec_at zB_dX7_takeNumber_0 2 rfl
theorem dX7_takeNumber_5 : decode cX7_takeNumber 5 = .ok (.if_icmp .ne 23, 3) := zDec_at zB_dX7_takeNumber_0 3 rfl
theorem dX7_takeNumber_8 : decode cX7_takeNumber 8 = .ok (.aload_n 0, 1) := zDec_at zB_dX7_takeNumber_0 4 rfl
theorem dX7_takeNumber_9 : decode cX7_takeNumber 9 = .ok (.getfield 66, 3) := zDec_at zB_dX7_takeNumber_0 5 rfl
theorem dX7_takeNumber_12 : decode cX7_takeNumber 12 = .ok (.iconst 2, 1) := zDec_at zB_dX7_takeNumber_0 6 rfl
theorem dX7_takeNumber_13 : decode cX7_takeNumber 13 = .ok (.if_icmp .ne 15, 3) := zDec_at zB_dX7_takeNumber_0 7 rfl
theorem dX7_takeNumber_16 : decode cX7_takeNumber 16 = .ok (.aload_n 0, 1) := zDec_at zB_dX7_takeNumber_0 8 rfl
theorem dX7_takeNumber_17 : decode cX7_takeNumber 17 = .ok (.getfield 156, 3) := zDec_at zB_dX7_takeNumber_0 9 rfl
theorem dX7_takeNumber_20 : decode cX7_takeNumber 20 = .ok (.iload_n 1, 1) := zDec_at zB_dX7_takeNumber_0 10 rfl
theorem dX7_takeNumber_21 : decode cX7_takeNumber 21 = .ok (.iload_n 2, 1) := zDec_at zB_dX7_takeNumber_0 11 rfl
theorem dX7_takeNumber_22 : decode cX7_takeNumber 22 = .ok (.invokestatic 159, 3) := zDec_at zB_dX7_takeNumber_0 12 rfl
theorem dX7_takeNumber_25 : decode cX7_takeNumber 25 = .ok (.ifCond .eq 9, 3) := zDec_at zB_dX7_takeNumber_0 13 rfl
theorem dX7_takeNumber_28 : decode cX7_takeNumber 28 = .ok (.aload_n 0, 1) := zDec_at zB_dX7_takeNumber_0 14 rfl
theorem dX7_takeNumber_29 : decode cX7_takeNumber 29 = .ok (.invokevirtual 69, 3) := zDec_at zB_dX7_takeNumber_0 15 rfl
theorem dX7_takeNumber_32 : decode cX7_takeNumber 32 = .ok (.iconst 0, 1) := zDec_at zB_dX7_takeNumber_0 16 rfl
theorem dX7_takeNumber_33 : decode cX7_takeNumber 33 = .ok (.ireturn, 1) := zDec_at zB_dX7_takeNumber_0 17 rfl
theorem dX7_takeNumber_34 : decode cX7_takeNumber 34 = .ok (.aload_n 0, 1) := zDec_at zB_dX7_takeNumber_0 18 rfl
theorem dX7_takeNumber_35 : decode cX7_takeNumber 35 = .ok (.getfield 156, 3) := zDec_at zB_dX7_takeNumber_0 19 rfl
theorem dX7_takeNumber_38 : decode cX7_takeNumber 38 = .ok (.istore_n 3, 1) := zDec_at zB_dX7_takeNumber_0 20 rfl
theorem dX7_takeNumber_39 : decode cX7_takeNumber 39 = .ok (.aload_n 0, 1) := zDec_at zB_dX7_takeNumber_0 21 rfl
theorem dX7_takeNumber_40 : decode cX7_takeNumber 40 = .ok (.invokevirtual 43, 3) := zDec_at zB_dX7_takeNumber_0 22 rfl
theorem dX7_takeNumber_43 : decode cX7_takeNumber 43 = .ok (.iload_n 3, 1) := zDec_at zB_dX7_takeNumber_0 23 rfl
theorem dX7_takeNumber_44 : decode cX7_takeNumber 44 = .ok (.ireturn, 1) := zDec_at zB_dX7_takeNumber_0 24 rfl
theorem zB_dX7_takeWord_0 : zDecB cX7_takeWord [(0, .aload_n 0, 1), (1, .getfield 15, 3), (4, .iconst (-1), 1), (5, .if_icmp .ne 19, 3), (8, .aload_n 0, 1), (9, .getfield 52, 3), (12, .lload_n 1, 1), (13, .lcmp, 1), (14, .ifCond .ne 10, 3), (17, .aload_n 0, 1), (18, .invokevirtual 43, 3), (21, .goto 7, 3), (24, .aload_n 0, 1), (25, .invokevirtual 69, 3), (28, .return_, 1)] = true := by decide +kernel
theorem dX7_takeWord_0 : decode cX7_takeWord 0 = .ok (.aload_n 0, 1) := zDec_at zB_dX7_takeWord_0 0 rfl
theorem dX7_takeWord_1 : decode cX7_takeWord 1 = .ok (.getfield 15, 3) := zDec_at zB_dX7_takeWord_0 1 rfl
theorem dX7_takeWord_4 : decode cX7_takeWord 4 = .ok (.iconst (-1), 1) := zDec_at zB_dX7_takeWord_0 2 rfl
theorem dX7_takeWord_5 : decode cX7_takeWord 5 = .ok (.if_icmp .ne 19, 3) := zDec_at zB_dX7_takeWord_0 3 rfl
theorem dX7_takeWord_8 : decode cX7_takeWord 8 = .ok (.aload_n 0, 1) := zDec_at zB_dX7_takeWord_0 4 rfl
theorem dX7_takeWord_9 : decode cX7_takeWord 9 = .ok (.getfield 52, 3) := zDec_at zB_dX7_takeWord_0 5 rfl
theorem dX7_takeWord_12 : decode cX7_takeWord 12 = .ok (.lload_n 1, 1) := zDec_at zB_dX7_takeWord_0 6 rfl
theorem dX7_takeWord_13 : decode cX7_takeWord 13 = .ok (.lcmp, 1) := zDec_at zB_dX7_takeWord_0 7 rfl
theorem dX7_takeWord_14 : decode cX7_takeWord 14 = .ok (.ifCond .ne 10, 3) := zDec_at zB_dX7_takeWord_0 8 rfl
theorem dX7_takeWord_17 : decode cX7_takeWord 17 = .ok (.aload_n 0, 1) := zDec_at zB_dX7_takeWord_0 9 rfl
theorem dX7_takeWord_18 : decode cX7_takeWord 18 = .ok (.invokevirtual 43, 3) := zDec_at zB_dX7_takeWord_0 10 rfl
theorem dX7_takeWord_21 : decode cX7_takeWord 21 = .ok (.goto 7, 3) := zDec_at zB_dX7_takeWord_0 11 rfl
theorem dX7_takeWord_24 : decode cX7_takeWord 24 = .ok (.aload_n 0, 1) := zDec_at zB_dX7_takeWord_0 12 rfl
theorem dX7_takeWord_25 : decode cX7_takeWord 25 = .ok (.invokevirtual 69, 3) := zDec_at zB_dX7_takeWord_0 13 rfl
theorem dX7_takeWord_28 : decode cX7_takeWord 28 = .ok (.return_, 1) := zDec_at zB_dX7_takeWord_0 14 rfl
theorem zB_dX7_wordAmong_0 : zDecB cX7_wordAmong [(0, .iconst 0, 1), (1, .istore_n 2, 1), (2, .iload_n 2, 1), (3, .aload_n 1, 1), (4, .arraylength, 1), (5, .if_icmp .ge 22, 3), (8, .aload_n 1, 1), (9, .iload_n 2, 1), (10, .laload, 1), (11, .aload_n 0, 1), (12, .getfield 52, 3), (15, .lcmp, 1), (16, .ifCond .ne 5, 3), (19, .iload_n 2, 1), (20, .ireturn, 1), (21, .iinc 2 1, 3), (24, .goto (-22), 3), (27, .iconst (-1), 1), (28, .ireturn, 1)] = true := by decide +kernel
theorem dX7_wordAmong_0 : decode cX7_wordAmong 0 = .ok (.iconst 0, 1) := zDec_at zB_dX7_wordAmong_0 0 rfl
theorem dX7_wordAmong_1 : decode cX7_wordAmong 1 = .ok (.istore_n 2, 1) := zDec_at zB_dX7_wordAmong_0 1 rfl
theorem dX7_wordAmong_2 : decode cX7_wordAmong 2 = .ok (.iload_n 2, 1) := zDec_at zB_dX7_wordAmong_0 2 rfl
theorem dX7_wordAmong_3 : decode cX7_wordAmong 3 = .ok (.aload_n 1, 1) := zDec_at zB_dX7_wordAmong_0 3 rfl
theorem dX7_wordAmong_4 : decode cX7_wordAmong 4 = .ok (.arraylength, 1) := zDec_at zB_dX7_wordAmong_0 4 rfl
theorem dX7_wordAmong_5 : decode cX7_wordAmong 5 = .ok (.if_icmp .ge 22, 3) := zDec_at zB_dX7_wordAmong_0 5 rfl
theorem dX7_wordAmong_8 : decode cX7_wordAmong 8 = .ok (.aload_n 1, 1) := zDec_at zB_dX7_wordAmong_0 6 rfl
theorem dX7_wordAmong_9 : decode cX7_wordAmong 9 = .ok (.iload_n 2, 1) := zDec_at zB_dX7_wordAmong_0 7 rfl
theorem dX7_wordAmong_10 : decode cX7_wordAmong 10 = .ok (.laload, 1) := zDec_at zB_dX7_wordAmong_0 8 rfl
theorem dX7_wordAmong_11 : decode cX7_wordAmong 11 = .ok (.aload_n 0, 1) := zDec_at zB_dX7_wordAmong_0 9 rfl
theorem dX7_wordAmong_12 : decode cX7_wordAmong 12 = .ok (.getfield 52, 3) := zDec_at zB_dX7_wordAmong_0 10 rfl
theorem dX7_wordAmong_15 : decode cX7_wordAmong 15 = .ok (.lcmp, 1) := zDec_at zB_dX7_wordAmong_0 11 rfl
theorem dX7_wordAmong_16 : decode cX7_wordAmong 16 = .ok (.ifCond .ne 5, 3) := zDec_at zB_dX7_wordAmong_0 12 rfl
theorem dX7_wordAmong_19 : decode cX7_wordAmong 19 = .ok (.iload_n 2, 1) := zDec_at zB_dX7_wordAmong_0 13 rfl
theorem dX7_wordAmong_20 : decode cX7_wordAmong 20 = .ok (.ireturn, 1) := zDec_at zB_dX7_wordAmong_0 14 rfl
theorem dX7_wordAmong_21 : decode cX7_wordAmong 21 = .ok (.iinc 2 1, 3) := zDec_at zB_dX7_wordAmong_0 15 rfl
theorem dX7_wordAmong_24 : decode cX7_wordAmong 24 = .ok (.goto (-22), 3) := zDec_at zB_dX7_wordAmong_0 16 rfl
theorem dX7_wordAmong_27 : decode cX7_wordAmong 27 = .ok (.iconst (-1), 1) := zDec_at zB_dX7_wordAmong_0 17 rfl
theorem dX7_wordAmong_28 : decode cX7_wordAmong 28 = .ok (.ireturn, 1) := zDec_at zB_dX7_wordAmong_0 18 rfl
theorem zB_dX8_addEntry_0 : zDecB cX8_addEntry [(0, .aload_n 0, 1), (1, .getfield 9, 3), (4, .aload_n 0, 1), (5, .getfield 27, 3), (8, .iload_n 1, 1), (9, .iastore, 1), (10, .aload_n 0, 1), (11, .getfield 15, 3), (14, .aload_n 0, 1), (15, .getfield 27, 3), (18, .iload_n 2, 1), (19, .iastore, 1), (20, .aload_n 0, 1), (21, .getfield 18, 3), (24, .aload_n 0, 1), (25, .getfield 27, 3), (28, .iload_n 3, 1), (29, .iastore, 1), (30, .aload_n 0, 1), (31, .getfield 21, 3), (34, .aload_n 0, 1), (35, .getfield 27, 3), (38, .sipush 400, 3), (41, .iastore, 1), (42, .aload_n 0, 1), (43, .getfield 24, 3), (46, .aload_n 0, 1), (47, .getfield 27, 3), (50, .iconst (-1), 1), (51, .iastore, 1), (52, .aload_n 0, 1), (53, .dup, 1), (54, .getfield 27, 3), (57, .iconst 1, 1), (58, .iadd, 1), (59, .putfield 27, 3), (62, .aload_n 0, 1), (63, .getfield 27, 3), (66, .ireturn, 1)] = true := by decide +kernel
theorem dX8_addEntry_0 : decode cX8_addEntry 0 = .ok (.aload_n 0, 1) := zDec_at zB_dX8_addEntry_0 0 rfl
theorem dX8_addEntry_1 : decode cX8_addEntry 1 = .ok (.getfield 9, 3) := zDec_at zB_dX8_addEntry_0 1 rfl
theorem dX8_addEntry_4 : decode cX8_addEntry 4 = .ok (.aload_n 0, 1) := zDec_at zB_dX8_addEntry_0 2 rfl
theorem dX8_addEntry_5 : decode cX8_addEntry 5 = .ok (.getfield 27, 3) := zDec_at zB_dX8_addEntry_0 3 rfl
theorem dX8_addEntry_8 : decode cX8_addEntry 8 = .ok (.iload_n 1, 1) := zDec_at zB_dX8_addEntry_0 4 rfl
theorem dX8_addEntry_9 : decode cX8_addEntry 9 = .ok (.iastore, 1) := zDec_at zB_dX8_addEntry_0 5 rfl
theorem dX8_addEntry_10 : decode cX8_addEntry 10 = .ok (.aload_n 0, 1) := zDec_at zB_dX8_addEntry_0 6 rfl
theorem dX8_addEntry_11 : decode cX8_addEntry 11 = .ok (.getfield 15, 3) := zDec_at zB_dX8_addEntry_0 7 rfl
theorem dX8_addEntry_14 : decode cX8_addEntry 14 = .ok (.aload_n 0, 1) := zDec_at zB_dX8_addEntry_0 8 rfl
theorem dX8_addEntry_15 : decode cX8_addEntry 15 = .ok (.getfield 27, 3) := zDec_at zB_dX8_addEntry_0 9 rfl
theorem dX8_addEntry_18 : decode cX8_addEntry 18 = .ok (.iload_n 2, 1) := zDec_at zB_dX8_addEntry_0 10 rfl
theorem dX8_addEntry_19 : decode cX8_addEntry 19 = .ok (.iastore, 1) := zDec_at zB_dX8_addEntry_0 11 rfl
theorem dX8_addEntry_20 : decode cX8_addEntry 20 = .ok (.aload_n 0, 1) := zDec_at zB_dX8_addEntry_0 12 rfl
theorem dX8_addEntry_21 : decode cX8_addEntry 21 = .ok (.getfield 18, 3) := zDec_at zB_dX8_addEntry_0 13 rfl
theorem dX8_addEntry_24 : decode cX8_addEntry 24 = .ok (.aload_n 0, 1) := zDec_at zB_dX8_addEntry_0 14 rfl
theorem dX8_addEntry_25 : decode cX8_addEntry 25 = .ok (.getfield 27, 3) := zDec_at zB_dX8_addEntry_0 15 rfl
theorem dX8_addEntry_28 : decode cX8_addEntry 28 = .ok (.iload_n 3, 1) := zDec_at zB_dX8_addEntry_0 16 rfl
theorem dX8_addEntry_29 : decode cX8_addEntry 29 = .ok (.iastore, 1) := zDec_at zB_dX8_addEntry_0 17 rfl
theorem dX8_addEntry_30 : decode cX8_addEntry 30 = .ok (.aload_n 0, 1) := zDec_at zB_dX8_addEntry_0 18 rfl
theorem dX8_addEntry_31 : decode cX8_addEntry 31 = .ok (.getfield 21, 3) := zDec_at zB_dX8_addEntry_0 19 rfl
theorem dX8_addEntry_34 : decode cX8_addEntry 34 = .ok (.aload_n 0, 1) := zDec_at zB_dX8_addEntry_0 20 rfl
theorem dX8_addEntry_35 : decode cX8_addEntry 35 = .ok (.getfield 27, 3) := zDec_at zB_dX8_addEntry_0 21 rfl
theorem dX8_addEntry_38 : decode cX8_addEntry 38 = .ok (.sipush 400, 3) := zDec_at zB_dX8_addEntry_0 22 rfl
theorem dX8_addEntry_41 : decode cX8_addEntry 41 = .ok (.iastore, 1) := zDec_at zB_dX8_addEntry_0 23 rfl
theorem dX8_addEntry_42 : decode cX8_addEntry 42 = .ok (.aload_n 0, 1) := zDec_at zB_dX8_addEntry_0 24 rfl
theorem dX8_addEntry_43 : decode cX8_addEntry 43 = .ok (.getfield 24, 3) := zDec_at zB_dX8_addEntry_0 25 rfl
theorem dX8_addEntry_46 : decode cX8_addEntry 46 = .ok (.aload_n 0, 1) := zDec_at zB_dX8_addEntry_0 26 rfl
theorem dX8_addEntry_47 : decode cX8_addEntry 47 = .ok (.getfield 27, 3) := zDec_at zB_dX8_addEntry_0 27 rfl
theorem dX8_addEntry_50 : decode cX8_addEntry 50 = .ok (.iconst (-1), 1) := zDec_at zB_dX8_addEntry_0 28 rfl
theorem dX8_addEntry_51 : decode cX8_addEntry 51 = .ok (.iastore, 1) := zDec_at zB_dX8_addEntry_0 29 rfl
theorem dX8_addEntry_52 : decode cX8_addEntry 52 = .ok (.aload_n 0, 1) := zDec_at zB_dX8_addEntry_0 30 rfl
theorem dX8_addEntry_53 : decode cX8_addEntry 53 = .ok (.dup, 1) := zDec_at zB_dX8_addEntry_0 31 rfl
theorem dX8_addEntry_54 : decode cX8_addEntry 54 = .ok (.getfield 27, 3) := zDec_at zB_dX8_addEntry_0 32 rfl
theorem dX8_addEntry_57 : decode cX8_addEntry 57 = .ok (.iconst 1, 1) := zDec_at zB_dX8_addEntry_0 33 rfl
theorem dX8_addEntry_58 : decode cX8_addEntry 58 = .ok (.iadd, 1) := zDec_at zB_dX8_addEntry_0 34 rfl
theorem dX8_addEntry_59 : decode cX8_addEntry 59 = .ok (.putfield 27, 3) := zDec_at zB_dX8_addEntry_0 35 rfl
theorem dX8_addEntry_62 : decode cX8_addEntry 62 = .ok (.aload_n 0, 1) := zDec_at zB_dX8_addEntry_0 36 rfl
theorem dX8_addEntry_63 : decode cX8_addEntry 63 = .ok (.getfield 27, 3) := zDec_at zB_dX8_addEntry_0 37 rfl
theorem dX8_addEntry_66 : decode cX8_addEntry 66 = .ok (.ireturn, 1) := zDec_at zB_dX8_addEntry_0 38 rfl
theorem zB_dX8_becomeLike_0 : zDecB cX8_becomeLike [(0, .aload_n 0, 1), (1, .aload_n 1, 1), (2, .getfield 27, 3), (5, .putfield 27, 3), (8, .aload_n 1, 1), (9, .getfield 9, 3), (12, .aload_n 0, 1), (13, .getfield 9, 3), (16, .invokestatic 44, 3), (19, .aload_n 1, 1), (20, .getfield 15, 3), (23, .aload_n 0, 1), (24, .getfield 15, 3), (27, .invokestatic 44, 3), (30, .aload_n 1, 1), (31, .getfield 18, 3), (34, .aload_n 0, 1), (35, .getfield 18, 3), (38, .invokestatic 44, 3), (41, .aload_n 1, 1), (42, .getfield 21, 3), (45, .aload_n 0, 1), (46, .getfield 21, 3), (49, .invokestatic 44, 3), (52, .aload_n 1, 1), (53, .getfield 24, 3), (56, .aload_n 0, 1), (57, .getfield 24, 3), (60, .invokestatic 44, 3), (63, .return_, 1)] = true := by decide +kernel
theorem dX8_becomeLike_0 : decode cX8_becomeLike 0 = .ok (.aload_n 0, 1) := zDec_at zB_dX8_becomeLike_0 0 rfl
theorem dX8_becomeLike_1 : decode cX8_becomeLike 1 = .ok (.aload_n 1, 1) := zDec_at zB_dX8_becomeLike_0 1 rfl
theorem dX8_becomeLike_2 : decode cX8_becomeLike 2 = .ok (.getfield 27, 3) := zDec_at zB_dX8_becomeLike_0 2 rfl
theorem dX8_becomeLike_5 : decode cX8_becomeLike 5 = .ok (.putfield 27, 3) := zDec_at zB_dX8_becomeLike_0 3 rfl
theorem dX8_becomeLike_8 : decode cX8_becomeLike 8 = .ok (.aload_n 1, 1) := zDec_at zB_dX8_becomeLike_0 4 rfl
theorem dX8_becomeLike_9 : decode cX8_becomeLike 9 = .ok (.getfield 9, 3) := zDec_at zB_dX8_becomeLike_0 5 rfl
theorem dX8_becomeLike_12 : decode cX8_becomeLike 12 = .ok (.aload_n 0, 1) := zDec_at zB_dX8_becomeLike_0 6 rfl
theorem dX8_becomeLike_13 : decode cX8_becomeLike 13 = .ok (.getfield 9, 3) := zDec_at zB_dX8_becomeLike_0 7 rfl
theorem dX8_becomeLike_16 : decode cX8_becomeLike 16 = .ok (.invokestatic 44, 3) := zDec_at zB_dX8_becomeLike_0 8 rfl
theorem dX8_becomeLike_19 : decode cX8_becomeLike 19 = .ok (.aload_n 1, 1) := zDec_at zB_dX8_becomeLike_0 9 rfl
theorem dX8_becomeLike_20 : decode cX8_becomeLike 20 = .ok (.getfield 15, 3) := zDec_at zB_dX8_becomeLike_0 10 rfl
theorem dX8_becomeLike_23 : decode cX8_becomeLike 23 = .ok (.aload_n 0, 1) := zDec_at zB_dX8_becomeLike_0 11 rfl
theorem dX8_becomeLike_24 : decode cX8_becomeLike 24 = .ok (.getfield 15, 3) := zDec_at zB_dX8_becomeLike_0 12 rfl
theorem dX8_becomeLike_27 : decode cX8_becomeLike 27 = .ok (.invokestatic 44, 3) := zDec_at zB_dX8_becomeLike_0 13 rfl
theorem dX8_becomeLike_30 : decode cX8_becomeLike 30 = .ok (.aload_n 1, 1) := zDec_at zB_dX8_becomeLike_0 14 rfl
theorem dX8_becomeLike_31 : decode cX8_becomeLike 31 = .ok (.getfield 18, 3) := zDec_at zB_dX8_becomeLike_0 15 rfl
theorem dX8_becomeLike_34 : decode cX8_becomeLike 34 = .ok (.aload_n 0, 1) := zDec_at zB_dX8_becomeLike_0 16 rfl
theorem dX8_becomeLike_35 : decode cX8_becomeLike 35 = .ok (.getfield 18, 3) := zDec_at zB_dX8_becomeLike_0 17 rfl
theorem dX8_becomeLike_38 : decode cX8_becomeLike 38 = .ok (.invokestatic 44, 3) := zDec_at zB_dX8_becomeLike_0 18 rfl
theorem dX8_becomeLike_41 : decode cX8_becomeLike 41 = .ok (.aload_n 1, 1) := zDec_at zB_dX8_becomeLike_0 19 rfl
theorem dX8_becomeLike_42 : decode cX8_becomeLike 42 = .ok (.getfield 21, 3) := zDec_at zB_dX8_becomeLike_0 20 rfl
theorem dX8_becomeLike_45 : decode cX8_becomeLike 45 = .ok (.aload_n 0, 1) := zDec_at zB_dX8_becomeLike_0 21 rfl
theorem dX8_becomeLike_46 : decode cX8_becomeLike 46 = .ok (.getfield 21, 3) := zDec_at zB_dX8_becomeLike_0 22 rfl
theorem dX8_becomeLike_49 : decode cX8_becomeLike 49 = .ok (.invokestatic 44, 3) := zDec_at zB_dX8_becomeLike_0 23 rfl
theorem dX8_becomeLike_52 : decode cX8_becomeLike 52 = .ok (.aload_n 1, 1) := zDec_at zB_dX8_becomeLike_0 24 rfl
theorem dX8_becomeLike_53 : decode cX8_becomeLike 53 = .ok (.getfield 24, 3) := zDec_at zB_dX8_becomeLike_0 25 rfl
theorem dX8_becomeLike_56 : decode cX8_becomeLike 56 = .ok (.aload_n 0, 1) := zDec_at zB_dX8_becomeLike_0 26 rfl
theorem dX8_becomeLike_57 : decode cX8_becomeLike 57 = .ok (.getfield 24, 3) := zDec_at zB_dX8_becomeLike_0 27 rfl
theorem dX8_becomeLike_60 : decode cX8_becomeLike 60 = .ok (.invokestatic 44, 3) := zDec_at zB_dX8_becomeLike_0 28 rfl
theorem dX8_becomeLike_63 : decode cX8_becomeLike 63 = .ok (.return_, 1) := zDec_at zB_dX8_becomeLike_0 29 rfl
theorem zB_dX8_init_0 : zDecB cX8_init [(0, .aload_n 0, 1), (1, .invokespecial 3, 3), (4, .aload_n 0, 1), (5, .bipush 120, 2), (7, .newarray .int, 2), (9, .putfield 9, 3), (12, .aload_n 0, 1), (13, .bipush 120, 2), (15, .newarray .int, 2), (17, .putfield 15, 3), (20, .aload_n 0, 1), (21, .bipush 120, 2), (23, .newarray .int, 2), (25, .putfield 18, 3), (28, .aload_n 0, 1), (29, .bipush 120, 2), (31, .newarray .int, 2), (33, .putfield 21, 3), (36, .aload_n 0, 1), (37, .bipush 120, 2), (39, .newarray .int, 2), (41, .putfield 24, 3), (44, .return_, 1)] = true := by decide +kernel
theorem dX8_init_0 : decode cX8_init 0 = .ok (.aload_n 0, 1) := zDec_at zB_dX8_init_0 0 rfl
theorem dX8_init_1 : decode cX8_init 1 = .ok (.invokespecial 3, 3) := zDec_at zB_dX8_init_0 1 rfl
theorem dX8_init_4 : decode cX8_init 4 = .ok (.aload_n 0, 1) := zDec_at zB_dX8_init_0 2 rfl
theorem dX8_init_5 : decode cX8_init 5 = .ok (.bipush 120, 2) := zDec_at zB_dX8_init_0 3 rfl
theorem dX8_init_7 : decode cX8_init 7 = .ok (.newarray .int, 2) := zDec_at zB_dX8_init_0 4 rfl
theorem dX8_init_9 : decode cX8_init 9 = .ok (.putfield 9, 3) := zDec_at zB_dX8_init_0 5 rfl
theorem dX8_init_12 : decode cX8_init 12 = .ok (.aload_n 0, 1) := zDec_at zB_dX8_init_0 6 rfl
theorem dX8_init_13 : decode cX8_init 13 = .ok (.bipush 120, 2) := zDec_at zB_dX8_init_0 7 rfl
theorem dX8_init_15 : decode cX8_init 15 = .ok (.newarray .int, 2) := zDec_at zB_dX8_init_0 8 rfl
theorem dX8_init_17 : decode cX8_init 17 = .ok (.putfield 15, 3) := zDec_at zB_dX8_init_0 9 rfl
theorem dX8_init_20 : decode cX8_init 20 = .ok (.aload_n 0, 1) := zDec_at zB_dX8_init_0 10 rfl
theorem dX8_init_21 : decode cX8_init 21 = .ok (.bipush 120, 2) := zDec_at zB_dX8_init_0 11 rfl
theorem dX8_init_23 : decode cX8_init 23 = .ok (.newarray .int, 2) := zDec_at zB_dX8_init_0 12 rfl
theorem dX8_init_25 : decode cX8_init 25 = .ok (.putfield 18, 3) := zDec_at zB_dX8_init_0 13 rfl
theorem dX8_init_28 : decode cX8_init 28 = .ok (.aload_n 0, 1) := zDec_at zB_dX8_init_0 14 rfl
theorem dX8_init_29 : decode cX8_init 29 = .ok (.bipush 120, 2) := zDec_at zB_dX8_init_0 15 rfl
theorem dX8_init_31 : decode cX8_init 31 = .ok (.newarray .int, 2) := zDec_at zB_dX8_init_0 16 rfl
theorem dX8_init_33 : decode cX8_init 33 = .ok (.putfield 21, 3) := zDec_at zB_dX8_init_0 17 rfl
theorem dX8_init_36 : decode cX8_init 36 = .ok (.aload_n 0, 1) := zDec_at zB_dX8_init_0 18 rfl
theorem dX8_init_37 : decode cX8_init 37 = .ok (.bipush 120, 2) := zDec_at zB_dX8_init_0 19 rfl
theorem dX8_init_39 : decode cX8_init 39 = .ok (.newarray .int, 2) := zDec_at zB_dX8_init_0 20 rfl
theorem dX8_init_41 : decode cX8_init 41 = .ok (.putfield 24, 3) := zDec_at zB_dX8_init_0 21 rfl
theorem dX8_init_44 : decode cX8_init 44 = .ok (.return_, 1) := zDec_at zB_dX8_init_0 22 rfl
theorem zB_dX8_isListed_0 : zDecB cX8_isListed [(0, .aload_n 0, 1), (1, .iload_n 1, 1), (2, .iload_n 2, 1), (3, .iload_n 3, 1), (4, .iload_n 3, 1), (5, .invokevirtual 31, 3), (8, .ireturn, 1)] = true := by decide +kernel
theorem dX8_isListed_0 : decode cX8_isListed 0 = .ok (.aload_n 0, 1) := zDec_at zB_dX8_isListed_0 0 rfl
theorem dX8_isListed_1 : decode cX8_isListed 1 = .ok (.iload_n 1, 1) := zDec_at zB_dX8_isListed_0 1 rfl
theorem dX8_isListed_2 : decode cX8_isListed 2 = .ok (.iload_n 2, 1) := zDec_at zB_dX8_isListed_0 2 rfl
theorem dX8_isListed_3 : decode cX8_isListed 3 = .ok (.iload_n 3, 1) := zDec_at zB_dX8_isListed_0 3 rfl
theorem dX8_isListed_4 : decode cX8_isListed 4 = .ok (.iload_n 3, 1) := zDec_at zB_dX8_isListed_0 4 rfl
theorem dX8_isListed_5 : decode cX8_isListed 5 = .ok (.invokevirtual 31, 3) := zDec_at zB_dX8_isListed_0 5 rfl
theorem dX8_isListed_8 : decode cX8_isListed 8 = .ok (.ireturn, 1) := zDec_at zB_dX8_isListed_0 6 rfl
theorem zB_dX8_isListedWithin_0 : zDecB cX8_isListedWithin [(0, .iconst 0, 1), (1, .istore 5, 2), (3, .iload 5, 2), (5, .aload_n 0, 1), (6, .getfield 27, 3), (9, .if_icmp .ge 61, 3), (12, .aload_n 0, 1), (13, .getfield 9, 3), (16, .iload 5, 2), (18, .iaload, 1), (19, .iload_n 1, 1), (20, .if_icmp .ne 44, 3), (23, .aload_n 0, 1), (24, .getfield 15, 3), (27, .iload 5, 2), (29, .iaload, 1), (30, .iload_n 2, 1), (31, .if_icmp .ne 33, 3), (34, .aload_n 0, 1), (35, .getfield 18, 3), (38, .iload 5, 2), (40, .iaload, 1), (41, .iload_n 3, 1), (42, .invokestatic 35, 3), (45, .aload_n 0, 1), (46, .getfield 21, 3), (49, .iload 5, 2), (51, .iaload, 1), (52, .iconst 1, 1), (53, .isub, 1), (54, .iload 4, 2), (56, .invokestatic 41, 3), (59, .if_icmp .gt 5, 3), (62, .iconst 1, 1), (63, .ireturn, 1), (64, .iinc 5 1, 3), (67, .goto (-64), 3), (70, .iconst 0, 1), (71, .ireturn, 1)] = true := by decide +kernel
theorem dX8_isListedWithin_0 : decode cX8_isListedWithin 0 = .ok (.iconst 0, 1) := zDec_at zB_dX8_isListedWithin_0 0 rfl
theorem dX8_isListedWithin_1 : decode cX8_isListedWithin 1 = .ok (.istore 5, 2) := zDec_at zB_dX8_isListedWithin_0 1 rfl
theorem dX8_isListedWithin_3 : decode cX8_isListedWithin 3 = .ok (.iload 5, 2) := zDec_at zB_dX8_isListedWithin_0 2 rfl
theorem dX8_isListedWithin_5 : decode cX8_isListedWithin 5 = .ok (.aload_n 0, 1) := zDec_at zB_dX8_isListedWithin_0 3 rfl
theorem dX8_isListedWithin_6 : decode cX8_isListedWithin 6 = .ok (.getfield 27, 3) := zDec_at zB_dX8_isListedWithin_0 4 rfl
theorem dX8_isListedWithin_9 : decode cX8_isListedWithin 9 = .ok (.if_icmp .ge 61, 3) := zDec_at zB_dX8_isListedWithin_0 5 rfl
theorem dX8_isListedWithin_12 : decode cX8_isListedWithin 12 = .ok (.aload_n 0, 1) := zDec_at zB_dX8_isListedWithin_0 6 rfl
theorem dX8_isListedWithin_13 : decode cX8_isListedWithin 13 = .ok (.getfield 9, 3) := zDec_at zB_dX8_isListedWithin_0 7 rfl
theorem dX8_isListedWithin_16 : decode cX8_isListedWithin 16 = .ok (.iload 5, 2) := zDec_at zB_dX8_isListedWithin_0 8 rfl
theorem dX8_isListedWithin_18 : decode cX8_isListedWithin 18 = .ok (.iaload, 1) := zDec_at zB_dX8_isListedWithin_0 9 rfl
theorem dX8_isListedWithin_19 : decode cX8_isListedWithin 19 = .ok (.iload_n 1, 1) := zDec_at zB_dX8_isListedWithin_0 10 rfl
theorem dX8_isListedWithin_20 : decode cX8_isListedWithin 20 = .ok (.if_icmp .ne 44, 3) := zDec_at zB_dX8_isListedWithin_0 11 rfl
theorem dX8_isListedWithin_23 : decode cX8_isListedWithin 23 = .ok (.aload_n 0, 1) := zDec_at zB_dX8_isListedWithin_0 12 rfl
theorem dX8_isListedWithin_24 : decode cX8_isListedWithin 24 = .ok (.getfield 15, 3) := zDec_at zB_dX8_isListedWithin_0 13 rfl
theorem dX8_isListedWithin_27 : decode cX8_isListedWithin 27 = .ok (.iload 5, 2) := zDec_at zB_dX8_isListedWithin_0 14 rfl
theorem dX8_isListedWithin_29 : decode cX8_isListedWithin 29 = .ok (.iaload, 1) := zDec_at zB_dX8_isListedWithin_0 15 rfl
theorem dX8_isListedWithin_30 : decode cX8_isListedWithin 30 = .ok (.iload_n 2, 1) := zDec_at zB_dX8_isListedWithin_0 16 rfl
theorem dX8_isListedWithin_31 : decode cX8_isListedWithin 31 = .ok (.if_icmp .ne 33, 3) := zDec_at zB_dX8_isListedWithin_0 17 rfl
theorem dX8_isListedWithin_34 : decode cX8_isListedWithin 34 = .ok (.aload_n 0, 1) := zDec_at zB_dX8_isListedWithin_0 18 rfl
theorem dX8_isListedWithin_35 : decode cX8_isListedWithin 35 = .ok (.getfield 18, 3) := zDec_at zB_dX8_isListedWithin_0 19 rfl
theorem dX8_isListedWithin_38 : decode cX8_isListedWithin 38 = .ok (.iload 5, 2) := zDec_at zB_dX8_isListedWithin_0 20 rfl
theorem dX8_isListedWithin_40 : decode cX8_isListedWithin 40 = .ok (.iaload, 1) := zDec_at zB_dX8_isListedWithin_0 21 rfl
theorem dX8_isListedWithin_41 : decode cX8_isListedWithin 41 = .ok (.iload_n 3, 1) := zDec_at zB_dX8_isListedWithin_0 22 rfl
theorem dX8_isListedWithin_42 : decode cX8_isListedWithin 42 = .ok (.invokestatic 35, 3) := zDec_at zB_dX8_isListedWithin_0 23 rfl
theorem dX8_isListedWithin_45 : decode cX8_isListedWithin 45 = .ok (.aload_n 0, 1) := zDec_at zB_dX8_isListedWithin_0 24 rfl
theorem dX8_isListedWithin_46 : decode cX8_isListedWithin 46 = .ok (.getfield 21, 3) := zDec_at zB_dX8_isListedWithin_0 25 rfl
theorem dX8_isListedWithin_49 : decode cX8_isListedWithin 49 = .ok (.iload 5, 2) := zDec_at zB_dX8_isListedWithin_0 26 rfl
theorem dX8_isListedWithin_51 : decode cX8_isListedWithin 51 = .ok (.iaload, 1) := zDec_at zB_dX8_isListedWithin_0 27 rfl
theorem dX8_isListedWithin_52 : decode cX8_isListedWithin 52 = .ok (.iconst 1, 1) := zDec_at zB_dX8_isListedWithin_0 28 rfl
theorem dX8_isListedWithin_53 : decode cX8_isListedWithin 53 = .ok (.isub, 1) := zDec_at zB_dX8_isListedWithin_0 29 rfl
theorem dX8_isListedWithin_54 : decode cX8_isListedWithin 54 = .ok (.iload 4, 2) := zDec_at zB_dX8_isListedWithin_0 30 rfl
theorem dX8_isListedWithin_56 : decode cX8_isListedWithin 56 = .ok (.invokestatic 41, 3) := zDec_at zB_dX8_isListedWithin_0 31 rfl
theorem dX8_isListedWithin_59 : decode cX8_isListedWithin 59 = .ok (.if_icmp .gt 5, 3) := zDec_at zB_dX8_isListedWithin_0 32 rfl
theorem dX8_isListedWithin_62 : decode cX8_isListedWithin 62 = .ok (.iconst 1, 1) := zDec_at zB_dX8_isListedWithin_0 33 rfl
theorem dX8_isListedWithin_63 : decode cX8_isListedWithin 63 = .ok (.ireturn, 1) := zDec_at zB_dX8_isListedWithin_0 34 rfl
theorem dX8_isListedWithin_64 : decode cX8_isListedWithin 64 = .ok (.iinc 5 1, 3) := zDec_at zB_dX8_isListedWithin_0 35 rfl
theorem dX8_isListedWithin_67 : decode cX8_isListedWithin 67 = .ok (.goto (-64), 3) := zDec_at zB_dX8_isListedWithin_0 36 rfl
theorem dX8_isListedWithin_70 : decode cX8_isListedWithin 70 = .ok (.iconst 0, 1) := zDec_at zB_dX8_isListedWithin_0 37 rfl
theorem dX8_isListedWithin_71 : decode cX8_isListedWithin 71 = .ok (.ireturn, 1) := zDec_at zB_dX8_isListedWithin_0 38 rfl
theorem zB_dX8_isLost_0 : zDecB cX8_isLost [(0, .iconst 0, 1), (1, .istore_n 3, 1), (2, .iload_n 3, 1), (3, .aload_n 0, 1), (4, .getfield 27, 3), (7, .if_icmp .ge 62, 3), (10, .aload_n 0, 1), (11, .getfield 9, 3), (14, .iload_n 3, 1), (15, .iaload, 1), (16, .iload_n 1, 1), (17, .if_icmp .ne 46, 3), (20, .aload_n 0, 1), (21, .getfield 21, 3), (24, .iload_n 3, 1), (25, .iaload, 1), (26, .iload_n 2, 1), (27, .if_icmp .gt 36, 3), (30, .aload_n 0, 1), (31, .getfield 24, 3), (34, .iload_n 3, 1), (35, .iaload, 1), (36, .iconst (-1), 1), (37, .if_icmp .eq 26, 3), (40, .aload_n 0, 1), (41, .iload_n 1, 1), (42, .aload_n 0, 1), (43, .getfield 24, 3), (46, .iload_n 3, 1), (47, .iaload, 1), (48, .aload_n 0, 1), (49, .getfield 21, 3), (52, .iload_n 3, 1), (53, .iaload, 1), (54, .iload_n 2, 1), (55, .invokevirtual 31, 3), (58, .ifCond .ne 5, 3), (61, .iconst 1, 1), (62, .ireturn, 1), (63, .iinc 3 1, 3)] = true := by decide +kernel
theorem dX8_isLost_0 : decode cX8_isLost 0 = .ok (.iconst 0, 1) := zDec_at zB_dX8_isLost_0 0 rfl
theorem dX8_isLost_1 : decode cX8_isLost 1 = .ok (.istore_n 3, 1) := zDec_at zB_dX8_isLost_0 1 rfl
theorem dX8_isLost_2 : decode cX8_isLost 2 = .ok (.iload_n 3, 1) := zDec_at zB_dX8_isLost_0 2 rfl
theorem dX8_isLost_3 : decode cX8_isLost 3 = .ok (.aload_n 0, 1) := zDec_at zB_dX8_isLost_0 3 rfl
theorem dX8_isLost_4 : decode cX8_isLost 4 = .ok (.getfield 27, 3) := zDec_at zB_dX8_isLost_0 4 rfl
theorem dX8_isLost_7 : decode cX8_isLost 7 = .ok (.if_icmp .ge 62, 3) := zDec_at zB_dX8_isLost_0 5 rfl
theorem dX8_isLost_10 : decode cX8_isLost 10 = .ok (.aload_n 0, 1) := zDec_at zB_dX8_isLost_0 6 rfl
theorem dX8_isLost_11 : decode cX8_isLost 11 = .ok (.getfield 9, 3) := zDec_at zB_dX8_isLost_0 7 rfl
theorem dX8_isLost_14 : decode cX8_isLost 14 = .ok (.iload_n 3, 1) := zDec_at zB_dX8_isLost_0 8 rfl
theorem dX8_isLost_15 : decode cX8_isLost 15 = .ok (.iaload, 1) := zDec_at zB_dX8_isLost_0 9 rfl
theorem dX8_isLost_16 : decode cX8_isLost 16 = .ok (.iload_n 1, 1) := zDec_at zB_dX8_isLost_0 10 rfl
theorem dX8_isLost_17 : decode cX8_isLost 17 = .ok (.if_icmp .ne 46, 3) := zDec_at zB_dX8_isLost_0 11 rfl
theorem dX8_isLost_20 : decode cX8_isLost 20 = .ok (.aload_n 0, 1) := zDec_at zB_dX8_isLost_0 12 rfl
theorem dX8_isLost_21 : decode cX8_isLost 21 = .ok (.getfield 21, 3) := zDec_at zB_dX8_isLost_0 13 rfl
theorem dX8_isLost_24 : decode cX8_isLost 24 = .ok (.iload_n 3, 1) := zDec_at zB_dX8_isLost_0 14 rfl
theorem dX8_isLost_25 : decode cX8_isLost 25 = .ok (.iaload, 1) := zDec_at zB_dX8_isLost_0 15 rfl
theorem dX8_isLost_26 : decode cX8_isLost 26 = .ok (.iload_n 2, 1) := zDec_at zB_dX8_isLost_0 16 rfl
theorem dX8_isLost_27 : decode cX8_isLost 27 = .ok (.if_icmp .gt 36, 3) := zDec_at zB_dX8_isLost_0 17 rfl
theorem dX8_isLost_30 : decode cX8_isLost 30 = .ok (.aload_n 0, 1) := zDec_at zB_dX8_isLost_0 18 rfl
theorem dX8_isLost_31 : decode cX8_isLost 31 = .ok (.getfield 24, 3) := zDec_at zB_dX8_isLost_0 19 rfl
theorem dX8_isLost_34 : decode cX8_isLost 34 = .ok (.iload_n 3, 1) := zDec_at zB_dX8_isLost_0 20 rfl
theorem dX8_isLost_35 : decode cX8_isLost 35 = .ok (.iaload, 1) := zDec_at zB_dX8_isLost_0 21 rfl
theorem dX8_isLost_36 : decode cX8_isLost 36 = .ok (.iconst (-1), 1) := zDec_at zB_dX8_isLost_0 22 rfl
theorem dX8_isLost_37 : decode cX8_isLost 37 = .ok (.if_icmp .eq 26, 3) := zDec_at zB_dX8_isLost_0 23 rfl
theorem dX8_isLost_40 : decode cX8_isLost 40 = .ok (.aload_n 0, 1) := zDec_at zB_dX8_isLost_0 24 rfl
theorem dX8_isLost_41 : decode cX8_isLost 41 = .ok (.iload_n 1, 1) := zDec_at zB_dX8_isLost_0 25 rfl
theorem dX8_isLost_42 : decode cX8_isLost 42 = .ok (.aload_n 0, 1) := zDec_at zB_dX8_isLost_0 26 rfl
theorem dX8_isLost_43 : decode cX8_isLost 43 = .ok (.getfield 24, 3) := zDec_at zB_dX8_isLost_0 27 rfl
theorem dX8_isLost_46 : decode cX8_isLost 46 = .ok (.iload_n 3, 1) := zDec_at zB_dX8_isLost_0 28 rfl
theorem dX8_isLost_47 : decode cX8_isLost 47 = .ok (.iaload, 1) := zDec_at zB_dX8_isLost_0 29 rfl
theorem dX8_isLost_48 : decode cX8_isLost 48 = .ok (.aload_n 0, 1) := zDec_at zB_dX8_isLost_0 30 rfl
theorem dX8_isLost_49 : decode cX8_isLost 49 = .ok (.getfield 21, 3) := zDec_at zB_dX8_isLost_0 31 rfl
theorem dX8_isLost_52 : decode cX8_isLost 52 = .ok (.iload_n 3, 1) := zDec_at zB_dX8_isLost_0 32 rfl
theorem dX8_isLost_53 : decode cX8_isLost 53 = .ok (.iaload, 1) := zDec_at zB_dX8_isLost_0 33 rfl
theorem dX8_isLost_54 : decode cX8_isLost 54 = .ok (.iload_n 2, 1) := zDec_at zB_dX8_isLost_0 34 rfl
theorem dX8_isLost_55 : decode cX8_isLost 55 = .ok (.invokevirtual 31, 3) := zDec_at zB_dX8_isLost_0 35 rfl
theorem dX8_isLost_58 : decode cX8_isLost 58 = .ok (.ifCond .ne 5, 3) := zDec_at zB_dX8_isLost_0 36 rfl
theorem dX8_isLost_61 : decode cX8_isLost 61 = .ok (.iconst 1, 1) := zDec_at zB_dX8_isLost_0 37 rfl
theorem dX8_isLost_62 : decode cX8_isLost 62 = .ok (.ireturn, 1) := zDec_at zB_dX8_isLost_0 38 rfl
theorem dX8_isLost_63 : decode cX8_isLost 63 = .ok (.iinc 3 1, 3) := zDec_at zB_dX8_isLost_0 39 rfl
theorem zB_dX8_isLost_66 : zDecB cX8_isLost [(66, .goto (-64), 3), (69, .iconst 0, 1), (70, .ireturn, 1)] = true := by decide +kernel
theorem dX8_isLost_66 : decode cX8_isLost 66 = .ok (.goto (-64), 3) := zDec_at zB_dX8_isLost_66 0 rfl
theorem dX8_isLost_69 : decode cX8_isLost 69 = .ok (.iconst 0, 1) := zDec_at zB_dX8_isLost_66 1 rfl
theorem dX8_isLost_70 : decode cX8_isLost 70 = .ok (.ireturn, 1) := zDec_at zB_dX8_isLost_66 2 rfl
theorem zB_dX8_latestOf_0 : zDecB cX8_latestOf [(0, .aload_n 0, 1), (1, .getfield 27, 3), (4, .iconst 1, 1), (5, .isub, 1), (6, .istore_n 3, 1), (7, .iload_n 3, 1), (8, .ifCond .lt 31, 3), (11, .aload_n 0, 1), (12, .getfield 9, 3), (15, .iload_n 3, 1), (16, .iaload, 1), (17, .iload_n 1, 1), (18, .if_icmp .ne 15, 3), (21, .aload_n 0, 1), (22, .getfield 15, 3), (25, .iload_n 3, 1), (26, .iaload, 1), (27, .iload_n 2, 1), (28, .if_icmp .ne 5, 3), (31, .iload_n 3, 1), (32, .ireturn, 1), (33, .iinc 3 (-1), 3), (36, .goto (-29), 3), (39, .iconst (-1), 1), (40, .ireturn, 1)] = true := by decide +kernel
theorem dX8_latestOf_0 : decode cX8_latestOf 0 = .ok (.aload_n 0, 1) := zDec_at zB_dX8_latestOf_0 0 rfl
theorem dX8_latestOf_1 : decode cX8_latestOf 1 = .ok (.getfield 27, 3) := zDec_at zB_dX8_latestOf_0 1 rfl
theorem dX8_latestOf_4 : decode cX8_latestOf 4 = .ok (.iconst 1, 1) := zDec_at zB_dX8_latestOf_0 2 rfl
theorem dX8_latestOf_5 : decode cX8_latestOf 5 = .ok (.isub, 1) := zDec_at zB_dX8_latestOf_0 3 rfl
theorem dX8_latestOf_6 : decode cX8_latestOf 6 = .ok (.istore_n 3, 1) := zDec_at zB_dX8_latestOf_0 4 rfl
theorem dX8_latestOf_7 : decode cX8_latestOf 7 = .ok (.iload_n 3, 1) := zDec_at zB_dX8_latestOf_0 5 rfl
theorem dX8_latestOf_8 : decode cX8_latestOf 8 = .ok (.ifCond .lt 31, 3) := zDec_at zB_dX8_latestOf_0 6 rfl
theorem dX8_latestOf_11 : decode cX8_latestOf 11 = .ok (.aload_n 0, 1) := zDec_at zB_dX8_latestOf_0 7 rfl
theorem dX8_latestOf_12 : decode cX8_latestOf 12 = .ok (.getfield 9, 3) := zDec_at zB_dX8_latestOf_0 8 rfl
theorem dX8_latestOf_15 : decode cX8_latestOf 15 = .ok (.iload_n 3, 1) := zDec_at zB_dX8_latestOf_0 9 rfl
theorem dX8_latestOf_16 : decode cX8_latestOf 16 = .ok (.iaload, 1) := zDec_at zB_dX8_latestOf_0 10 rfl
theorem dX8_latestOf_17 : decode cX8_latestOf 17 = .ok (.iload_n 1, 1) := zDec_at zB_dX8_latestOf_0 11 rfl
theorem dX8_latestOf_18 : decode cX8_latestOf 18 = .ok (.if_icmp .ne 15, 3) := zDec_at zB_dX8_latestOf_0 12 rfl
theorem dX8_latestOf_21 : decode cX8_latestOf 21 = .ok (.aload_n 0, 1) := zDec_at zB_dX8_latestOf_0 13 rfl
theorem dX8_latestOf_22 : decode cX8_latestOf 22 = .ok (.getfield 15, 3) := zDec_at zB_dX8_latestOf_0 14 rfl
theorem dX8_latestOf_25 : decode cX8_latestOf 25 = .ok (.iload_n 3, 1) := zDec_at zB_dX8_latestOf_0 15 rfl
theorem dX8_latestOf_26 : decode cX8_latestOf 26 = .ok (.iaload, 1) := zDec_at zB_dX8_latestOf_0 16 rfl
theorem dX8_latestOf_27 : decode cX8_latestOf 27 = .ok (.iload_n 2, 1) := zDec_at zB_dX8_latestOf_0 17 rfl
theorem dX8_latestOf_28 : decode cX8_latestOf 28 = .ok (.if_icmp .ne 5, 3) := zDec_at zB_dX8_latestOf_0 18 rfl
theorem dX8_latestOf_31 : decode cX8_latestOf 31 = .ok (.iload_n 3, 1) := zDec_at zB_dX8_latestOf_0 19 rfl
theorem dX8_latestOf_32 : decode cX8_latestOf 32 = .ok (.ireturn, 1) := zDec_at zB_dX8_latestOf_0 20 rfl
theorem dX8_latestOf_33 : decode cX8_latestOf 33 = .ok (.iinc 3 (-1), 3) := zDec_at zB_dX8_latestOf_0 21 rfl
theorem dX8_latestOf_36 : decode cX8_latestOf 36 = .ok (.goto (-29), 3) := zDec_at zB_dX8_latestOf_0 22 rfl
theorem dX8_latestOf_39 : decode cX8_latestOf 39 = .ok (.iconst (-1), 1) := zDec_at zB_dX8_latestOf_0 23 rfl
theorem dX8_latestOf_40 : decode cX8_latestOf 40 = .ok (.ireturn, 1) := zDec_at zB_dX8_latestOf_0 24 rfl
theorem zB_dX8_schoolsOf_0 : zDecB cX8_schoolsOf [(0, .iconst 0, 1), (1, .istore_n 3, 1), (2, .iconst 0, 1), (3, .istore 4, 2), (5, .iload 4, 2), (7, .aload_n 0, 1), (8, .getfield 27, 3), (11, .if_icmp .ge 45, 3), (14, .aload_n 0, 1), (15, .getfield 9, 3), (18, .iload 4, 2), (20, .iaload, 1), (21, .iload_n 1, 1), (22, .if_icmp .ne 28, 3), (25, .aload_n 0, 1), (26, .getfield 18, 3), (29, .iload 4, 2), (31, .iaload, 1), (32, .iload_n 2, 1), (33, .if_icmp .gt 17, 3), (36, .iload_n 2, 1), (37, .aload_n 0, 1), (38, .getfield 21, 3), (41, .iload 4, 2), (43, .iaload, 1), (44, .if_icmp .ge 6, 3), (47, .iinc 3 1, 3), (50, .iinc 4 1, 3), (53, .goto (-48), 3), (56, .iload_n 3, 1), (57, .ireturn, 1)] = true := by decide +kernel
theorem dX8_schoolsOf_0 : decode cX8_schoolsOf 0 = .ok (.iconst 0, 1) := zDec_at zB_dX8_schoolsOf_0 0 rfl
theorem dX8_schoolsOf_1 : decode cX8_schoolsOf 1 = .ok (.istore_n 3, 1) := zDec_at zB_dX8_schoolsOf_0 1 rfl
theorem dX8_schoolsOf_2 : decode cX8_schoolsOf 2 = .ok (.iconst 0, 1) := zDec_at zB_dX8_schoolsOf_0 2 rfl
theorem dX8_schoolsOf_3 : decode cX8_schoolsOf 3 = .ok (.istore 4, 2) := zDec_at zB_dX8_schoolsOf_0 3 rfl
theorem dX8_schoolsOf_5 : decode cX8_schoolsOf 5 = .ok (.iload 4, 2) := zDec_at zB_dX8_schoolsOf_0 4 rfl
theorem dX8_schoolsOf_7 : decode cX8_schoolsOf 7 = .ok (.aload_n 0, 1) := zDec_at zB_dX8_schoolsOf_0 5 rfl
theorem dX8_schoolsOf_8 : decode cX8_schoolsOf 8 = .ok (.getfield 27, 3) := zDec_at zB_dX8_schoolsOf_0 6 rfl
theorem dX8_schoolsOf_11 : decode cX8_schoolsOf 11 = .ok (.if_icmp .ge 45, 3) := zDec_at zB_dX8_schoolsOf_0 7 rfl
theorem dX8_schoolsOf_14 : decode cX8_schoolsOf 14 = .ok (.aload_n 0, 1) := zDec_at zB_dX8_schoolsOf_0 8 rfl
theorem dX8_schoolsOf_15 : decode cX8_schoolsOf 15 = .ok (.getfield 9, 3) := zDec_at zB_dX8_schoolsOf_0 9 rfl
theorem dX8_schoolsOf_18 : decode cX8_schoolsOf 18 = .ok (.iload 4, 2) := zDec_at zB_dX8_schoolsOf_0 10 rfl
theorem dX8_schoolsOf_20 : decode cX8_schoolsOf 20 = .ok (.iaload, 1) := zDec_at zB_dX8_schoolsOf_0 11 rfl
theorem dX8_schoolsOf_21 : decode cX8_schoolsOf 21 = .ok (.iload_n 1, 1) := zDec_at zB_dX8_schoolsOf_0 12 rfl
theorem dX8_schoolsOf_22 : decode cX8_schoolsOf 22 = .ok (.if_icmp .ne 28, 3) := zDec_at zB_dX8_schoolsOf_0 13 rfl
theorem dX8_schoolsOf_25 : decode cX8_schoolsOf 25 = .ok (.aload_n 0, 1) := zDec_at zB_dX8_schoolsOf_0 14 rfl
theorem dX8_schoolsOf_26 : decode cX8_schoolsOf 26 = .ok (.getfield 18, 3) := zDec_at zB_dX8_schoolsOf_0 15 rfl
theorem dX8_schoolsOf_29 : decode cX8_schoolsOf 29 = .ok (.iload 4, 2) := zDec_at zB_dX8_schoolsOf_0 16 rfl
theorem dX8_schoolsOf_31 : decode cX8_schoolsOf 31 = .ok (.iaload, 1) := zDec_at zB_dX8_schoolsOf_0 17 rfl
theorem dX8_schoolsOf_32 : decode cX8_schoolsOf 32 = .ok (.iload_n 2, 1) := zDec_at zB_dX8_schoolsOf_0 18 rfl
theorem dX8_schoolsOf_33 : decode cX8_schoolsOf 33 = .ok (.if_icmp .gt 17, 3) := zDec_at zB_dX8_schoolsOf_0 19 rfl
theorem dX8_schoolsOf_36 : decode cX8_schoolsOf 36 = .ok (.iload_n 2, 1) := zDec_at zB_dX8_schoolsOf_0 20 rfl
theorem dX8_schoolsOf_37 : decode cX8_schoolsOf 37 = .ok (.aload_n 0, 1) := zDec_at zB_dX8_schoolsOf_0 21 rfl
theorem dX8_schoolsOf_38 : decode cX8_schoolsOf 38 = .ok (.getfield 21, 3) := zDec_at zB_dX8_schoolsOf_0 22 rfl
theorem dX8_schoolsOf_41 : decode cX8_schoolsOf 41 = .ok (.iload 4, 2) := zDec_at zB_dX8_schoolsOf_0 23 rfl
theorem dX8_schoolsOf_43 : decode cX8_schoolsOf 43 = .ok (.iaload, 1) := zDec_at zB_dX8_schoolsOf_0 24 rfl
theorem dX8_schoolsOf_44 : decode cX8_schoolsOf 44 = .ok (.if_icmp .ge 6, 3) := zDec_at zB_dX8_schoolsOf_0 25 rfl
theorem dX8_schoolsOf_47 : decode cX8_schoolsOf 47 = .ok (.iinc 3 1, 3) := zDec_at zB_dX8_schoolsOf_0 26 rfl
theorem dX8_schoolsOf_50 : decode cX8_schoolsOf 50 = .ok (.iinc 4 1, 3) := zDec_at zB_dX8_schoolsOf_0 27 rfl
theorem dX8_schoolsOf_53 : decode cX8_schoolsOf 53 = .ok (.goto (-48), 3) := zDec_at zB_dX8_schoolsOf_0 28 rfl
theorem dX8_schoolsOf_56 : decode cX8_schoolsOf 56 = .ok (.iload_n 3, 1) := zDec_at zB_dX8_schoolsOf_0 29 rfl
theorem dX8_schoolsOf_57 : decode cX8_schoolsOf 57 = .ok (.ireturn, 1) := zDec_at zB_dX8_schoolsOf_0 30 rfl
theorem zB_dX9_becomeLike_0 : zDecB cX9_becomeLike [(0, .aload_n 1, 1), (1, .getfield 9, 3), (4, .aload_n 0, 1), (5, .getfield 9, 3), (8, .invokestatic 27, 3), (11, .aload_n 1, 1), (12, .getfield 15, 3), (15, .aload_n 0, 1), (16, .getfield 15, 3), (19, .invokestatic 27, 3), (22, .aload_n 1, 1), (23, .getfield 18, 3), (26, .aload_n 0, 1), (27, .getfield 18, 3), (30, .invokestatic 27, 3), (33, .return_, 1)] = true := by decide +kernel
theorem dX9_becomeLike_0 : decode cX9_becomeLike 0 = .ok (.aload_n 1, 1) := zDec_at zB_dX9_becomeLike_0 0 rfl
theorem dX9_becomeLike_1 : decode cX9_becomeLike 1 = .ok (.getfield 9, 3) := zDec_at zB_dX9_becomeLike_0 1 rfl
theorem dX9_becomeLike_4 : decode cX9_becomeLike 4 = .ok (.aload_n 0, 1) := zDec_at zB_dX9_becomeLike_0 2 rfl
theorem dX9_becomeLike_5 : decode cX9_becomeLike 5 = .ok (.getfield 9, 3) := zDec_at zB_dX9_becomeLike_0 3 rfl
theorem dX9_becomeLike_8 : decode cX9_becomeLike 8 = .ok (.invokestatic 27, 3) := zDec_at zB_dX9_becomeLike_0 4 rfl
theorem dX9_becomeLike_11 : decode cX9_becomeLike 11 = .ok (.aload_n 1, 1) := zDec_at zB_dX9_becomeLike_0 5 rfl
theorem dX9_becomeLike_12 : decode cX9_becomeLike 12 = .ok (.getfield 15, 3) := zDec_at zB_dX9_becomeLike_0 6 rfl
theorem dX9_becomeLike_15 : decode cX9_becomeLike 15 = .ok (.aload_n 0, 1) := zDec_at zB_dX9_becomeLike_0 7 rfl
theorem dX9_becomeLike_16 : decode cX9_becomeLike 16 = .ok (.getfield 15, 3) := zDec_at zB_dX9_becomeLike_0 8 rfl
theorem dX9_becomeLike_19 : decode cX9_becomeLike 19 = .ok (.invokestatic 27, 3) := zDec_at zB_dX9_becomeLike_0 9 rfl
theorem dX9_becomeLike_22 : decode cX9_becomeLike 22 = .ok (.aload_n 1, 1) := zDec_at zB_dX9_becomeLike_0 10 rfl
theorem dX9_becomeLike_23 : decode cX9_becomeLike 23 = .ok (.getfield 18, 3) := zDec_at zB_dX9_becomeLike_0 11 rfl
theorem dX9_becomeLike_26 : decode cX9_becomeLike 26 = .ok (.aload_n 0, 1) := zDec_at zB_dX9_becomeLike_0 12 rfl
theorem dX9_becomeLike_27 : decode cX9_becomeLike 27 = .ok (.getfield 18, 3) := zDec_at zB_dX9_becomeLike_0 13 rfl
theorem dX9_becomeLike_30 : decode cX9_becomeLike 30 = .ok (.invokestatic 27, 3) := zDec_at zB_dX9_becomeLike_0 14 rfl
theorem dX9_becomeLike_33 : decode cX9_becomeLike 33 = .ok (.return_, 1) := zDec_at zB_dX9_becomeLike_0 15 rfl
theorem zB_dX9_init_0 : zDecB cX9_init [(0, .aload_n 0, 1), (1, .invokespecial 3, 3), (4, .aload_n 0, 1), (5, .sipush 160, 3), (8, .newarray .int, 2), (10, .putfield 9, 3), (13, .aload_n 0, 1), (14, .sipush 160, 3), (17, .newarray .int, 2), (19, .putfield 15, 3), (22, .aload_n 0, 1), (23, .sipush 160, 3), (26, .newarray .int, 2), (28, .putfield 18, 3), (31, .aload_n 0, 1), (32, .getfield 9, 3), (35, .iconst (-1), 1), (36, .invokestatic 21, 3), (39, .aload_n 0, 1), (40, .getfield 15, 3), (43, .iconst (-1), 1), (44, .invokestatic 21, 3), (47, .return_, 1)] = true := by decide +kernel
theorem dX9_init_0 : decode cX9_init 0 = .ok (.aload_n 0, 1) := zDec_at zB_dX9_init_0 0 rfl
theorem dX9_init_1 : decode cX9_init 1 = .ok (.invokespecial 3, 3) := zDec_at zB_dX9_init_0 1 rfl
theorem dX9_init_4 : decode cX9_init 4 = .ok (.aload_n 0, 1) := zDec_at zB_dX9_init_0 2 rfl
theorem dX9_init_5 : decode cX9_init 5 = .ok (.sipush 160, 3) := zDec_at zB_dX9_init_0 3 rfl
theorem dX9_init_8 : decode cX9_init 8 = .ok (.newarray .int, 2) := zDec_at zB_dX9_init_0 4 rfl
theorem dX9_init_10 : decode cX9_init 10 = .ok (.putfield 9, 3) := zDec_at zB_dX9_init_0 5 rfl
theorem dX9_init_13 : decode cX9_init 13 = .ok (.aload_n 0, 1) := zDec_at zB_dX9_init_0 6 rfl
theorem dX9_init_14 : decode cX9_init 14 = .ok (.sipush 160, 3) := zDec_at zB_dX9_init_0 7 rfl
theorem dX9_init_17 : decode cX9_init 17 = .ok (.newarray .int, 2) := zDec_at zB_dX9_init_0 8 rfl
theorem dX9_init_19 : decode cX9_init 19 = .ok (.putfield 15, 3) := zDec_at zB_dX9_init_0 9 rfl
theorem dX9_init_22 : decode cX9_init 22 = .ok (.aload_n 0, 1) := zDec_at zB_dX9_init_0 10 rfl
theorem dX9_init_23 : decode cX9_init 23 = .ok (.sipush 160, 3) := zDec_at zB_dX9_init_0 11 rfl
theorem dX9_init_26 : decode cX9_init 26 = .ok (.newarray .int, 2) := zDec_at zB_dX9_init_0 12 rfl
theorem dX9_init_28 : decode cX9_init 28 = .ok (.putfield 18, 3) := zDec_at zB_dX9_init_0 13 rfl
theorem dX9_init_31 : decode cX9_init 31 = .ok (.aload_n 0, 1) := zDec_at zB_dX9_init_0 14 rfl
theorem dX9_init_32 : decode cX9_init 32 = .ok (.getfield 9, 3) := zDec_at zB_dX9_init_0 15 rfl
theorem dX9_init_35 : decode cX9_init 35 = .ok (.iconst (-1), 1) := zDec_at zB_dX9_init_0 16 rfl
theorem dX9_init_36 : decode cX9_init 36 = .ok (.invokestatic 21, 3) := zDec_at zB_dX9_init_0 17 rfl
theorem dX9_init_39 : decode cX9_init 39 = .ok (.aload_n 0, 1) := zDec_at zB_dX9_init_0 18 rfl
theorem dX9_init_40 : decode cX9_init 40 = .ok (.getfield 15, 3) := zDec_at zB_dX9_init_0 19 rfl
theorem dX9_init_43 : decode cX9_init 43 = .ok (.iconst (-1), 1) := zDec_at zB_dX9_init_0 20 rfl
theorem dX9_init_44 : decode cX9_init 44 = .ok (.invokestatic 21, 3) := zDec_at zB_dX9_init_0 21 rfl
theorem dX9_init_47 : decode cX9_init 47 = .ok (.return_, 1) := zDec_at zB_dX9_init_0 22 rfl
