theorem zB_dX12_addDay_0 : zDecB cX12_addDay [(0, .aload_n 0, 1), (1, .iconst 0, 1), (2, .putfield 549, 3), (5, .aload_n 0, 1), (6, .iconst 0, 1), (7, .putfield 552, 3), (10, .aload_n 0, 1), (11, .iconst 0, 1), (12, .putfield 555, 3), (15, .iconst 0, 1), (16, .istore_n 2, 1), (17, .iload_n 2, 1), (18, .aload_n 0, 1), (19, .getfield 7, 3), (22, .iconst 3, 1), (23, .iaload, 1), (24, .if_icmp .ge 81, 3), (27, .aload_n 0, 1), (28, .getfield 7, 3), (31, .iload_n 2, 1), (32, .invokestatic 155, 3), (35, .iconst 2, 1), (36, .iadd, 1), (37, .iaload, 1), (38, .iconst 2, 1), (39, .idiv, 1), (40, .iload_n 1, 1), (41, .if_icmp .ne 58, 3), (44, .aload_n 0, 1), (45, .dup, 1), (46, .getfield 549, 3), (49, .iconst 1, 1), (50, .iadd, 1), (51, .putfield 549, 3), (54, .aload_n 0, 1), (55, .dup, 1), (56, .getfield 552, 3), (59, .aload_n 0, 1), (60, .getfield 7, 3), (63, .iload_n 2, 1)] = true := by decide +kernel
theorem dX12_addDay_0 : decode cX12_addDay 0 = .ok (.aload_n 0, 1) := zDec_at zB_dX12_addDay_0 0 rfl
theorem dX12_addDay_1 : decode cX12_addDay 1 = .ok (.iconst 0, 1) := zDec_at zB_dX12_addDay_0 1 rfl
theorem dX12_addDay_2 : decode cX12_addDay 2 = .ok (.putfield 549, 3) := zDec_at zB_dX12_addDay_0 2 rfl
theorem dX12_addDay_5 : decode cX12_addDay 5 = .ok (.aload_n 0, 1) := zDec_at zB_dX12_addDay_0 3 rfl
theorem dX12_addDay_6 : decode cX12_addDay 6 = .ok (.iconst 0, 1) := zDec_at zB_dX12_addDay_0 4 rfl
theorem dX12_addDay_7 : decode cX12_addDay 7 = .ok (.putfield 552, 3) := zDec_at zB_dX12_addDay_0 5 rfl
theorem dX12_addDay_10 : decode cX12_addDay 10 = .ok (.aload_n 0, 1) := zDec_at zB_dX12_addDay_0 6 rfl
theorem dX12_addDay_11 : decode cX12_addDay 11 = .ok (.iconst 0, 1) := zDec_at zB_dX12_addDay_0 7 rfl
theorem dX12_addDay_12 : decode cX12_addDay 12 = .ok (.putfield 555, 3) := zDec_at zB_dX12_addDay_0 8 rfl
theorem dX12_addDay_15 : decode cX12_addDay 15 = .ok (.iconst 0, 1) := zDec_at zB_dX12_addDay_0 9 rfl
theorem dX12_addDay_16 : decode cX12_addDay 16 = .ok (.istore_n 2, 1) := zDec_at zB_dX12_addDay_0 10 rfl
theorem dX12_addDay_17 : decode cX12_addDay 17 = .ok (.iload_n 2, 1) := zDec_at zB_dX12_addDay_0 11 rfl
theorem dX12_addDay_18 : decode cX12_addDay 18 = .ok (.aload_n 0, 1) := zDec_at zB_dX12_addDay_0 12 rfl
theorem dX12_addDay_19 : decode cX12_addDay 19 = .ok (.getfield 7, 3) := zDec_at zB_dX12_addDay_0 13 rfl
theorem dX12_addDay_22 : decode cX12_addDay 22 = .ok (.iconst 3, 1) := zDec_at zB_dX12_addDay_0 14 rfl
theorem dX12_addDay_23 : decode cX12_addDay 23 = .ok (.iaload, 1) := zDec_at zB_dX12_addDay_0 15 rfl
theorem dX12_addDay_24 : decode cX12_addDay 24 = .ok (.if_icmp .ge 81, 3) := zDec_at zB_dX12_addDay_0 16 rfl
theorem dX12_addDay_27 : decode cX12_addDay 27 = .ok (.aload_n 0, 1) := zDec_at zB_dX12_addDay_0 17 rfl
theorem dX12_addDay_28 : decode cX12_addDay 28 = .ok (.getfield 7, 3) := zDec_at zB_dX12_addDay_0 18 rfl
theorem dX12_addDay_31 : decode cX12_addDay 31 = .ok (.iload_n 2, 1) := zDec_at zB_dX12_addDay_0 19 rfl
theorem dX12_addDay_32 : decode cX12_addDay 32 = .ok (.invokestatic 155, 3) := zDec_at zB_dX12_addDay_0 20 rfl
theorem dX12_addDay_35 : decode cX12_addDay 35 = .ok (.iconst 2, 1) := zDec_at zB_dX12_addDay_0 21 rfl
theorem dX12_addDay_36 : decode cX12_addDay 36 = .ok (.iadd, 1) := zDec_at zB_dX12_addDay_0 22 rfl
theorem dX12_addDay_37 : decode cX12_addDay 37 = .ok (.iaload, 1) := zDec_at zB_dX12_addDay_0 23 rfl
theorem dX12_addDay_38 : decode cX12_addDay 38 = .ok (.iconst 2, 1) := zDec_at zB_dX12_addDay_0 24 rfl
theorem dX12_addDay_39 : decode cX12_addDay 39 = .ok (.idiv, 1) := zDec_at zB_dX12_addDay_0 25 rfl
theorem dX12_addDay_40 : decode cX12_addDay 40 = .ok (.iload_n 1, 1) := zDec_at zB_dX12_addDay_0 26 rfl
theorem dX12_addDay_41 : decode cX12_addDay 41 = .ok (.if_icmp .ne 58, 3) := zDec_at zB_dX12_addDay_0 27 rfl
theorem dX12_addDay_44 : decode cX12_addDay 44 = .ok (.aload_n 0, 1) := zDec_at zB_dX12_addDay_0 28 rfl
theorem dX12_addDay_45 : decode cX12_addDay 45 = .ok (.dup, 1) := zDec_at zB_dX12_addDay_0 29 rfl
theorem dX12_addDay_46 : decode cX12_addDay 46 = .ok (.getfield 549, 3) := zDec_at zB_dX12_addDay_0 30 rfl
theorem dX12_addDay_49 : decode cX12_addDay 49 = .ok (.iconst 1, 1) := zDec_at zB_dX12_addDay_0 31 rfl
theorem dX12_addDay_50 : decode cX12_addDay 50 = .ok (.iadd, 1) := zDec_at zB_dX12_addDay_0 32 rfl
theorem dX12_addDay_51 : decode cX12_addDay 51 = .ok (.putfield 549, 3) := zDec_at zB_dX12_addDay_0 33 rfl
theorem dX12_addDay_54 : decode cX12_addDay 54 = .ok (.aload_n 0, 1) := zDec_at zB_dX12_addDay_0 34 rfl
theorem dX12_addDay_55 : decode cX12_addDay 55 = .ok (.dup, 1) := zDec_at zB_dX12_addDay_0 35 rfl
theorem dX12_addDay_56 : decode cX12_addDay 56 = .ok (.getfield 552, 3) := zDec_at zB_dX12_addDay_0 36 rfl
theorem dX12_addDay_59 : decode cX12_addDay 59 = .ok (.aload_n 0, 1) := zDec_at zB_dX12_addDay_0 37 rfl
theorem dX12_addDay_60 : decode cX12_addDay 60 = .ok (.getfield 7, 3) := zDec_at zB_dX12_addDay_0 38 rfl
theorem dX12_addDay_63 : decode cX12_addDay 63 = .ok (.iload_n 2, 1) := zDec_at zB_dX12_addDay_0 39 rfl
theorem zB_dX12_addDay_64 : zDecB cX12_addDay [(64, .invokestatic 155, 3), (67, .iconst 3, 1), (68, .iadd, 1), (69, .iaload, 1), (70, .iadd, 1), (71, .putfield 552, 3), (74, .aload_n 0, 1), (75, .dup, 1), (76, .getfield 555, 3), (79, .aload_n 0, 1), (80, .getfield 7, 3), (83, .iload_n 2, 1), (84, .invokestatic 155, 3), (87, .iconst 3, 1), (88, .iadd, 1), (89, .iaload, 1), (90, .aload_n 0, 1), (91, .getfield 549, 3), (94, .imul, 1), (95, .iadd, 1), (96, .putfield 555, 3), (99, .iinc 2 1, 3), (102, .goto (-85), 3), (105, .return_, 1)] = true := by decide +kernel
theorem dX12_addDay_64 : decode cX12_addDay 64 = .ok (.invokestatic 155, 3) := zDec_at zB_dX12_addDay_64 0 rfl
theorem dX12_addDay_67 : decode cX12_addDay 67 = .ok (.iconst 3, 1) := zDec_at zB_dX12_addDay_64 1 rfl
theorem dX12_addDay_68 : decode cX12_addDay 68 = .ok (.iadd, 1) := zDec_at zB_dX12_addDay_64 2 rfl
theorem dX12_addDay_69 : decode cX12_addDay 69 = .ok (.iaload, 1) := zDec_at zB_dX12_addDay_64 3 rfl
theorem dX12_addDay_70 : decode cX12_addDay 70 = .ok (.iadd, 1) := zDec_at zB_dX12_addDay_64 4 rfl
theorem dX12_addDay_71 : decode cX12_addDay 71 = .ok (.putfield 552, 3) := zDec_at zB_dX12_addDay_64 5 rfl
theorem dX12_addDay_74 : decode cX12_addDay 74 = .ok (.aload_n 0, 1) := zDec_at zB_dX12_addDay_64 6 rfl
theorem dX12_addDay_75 : decode cX12_addDay 75 = .ok (.dup, 1) := zDec_at zB_dX12_addDay_64 7 rfl
theorem dX12_addDay_76 : decode cX12_addDay 76 = .ok (.getfield 555, 3) := zDec_at zB_dX12_addDay_64 8 rfl
theorem dX12_addDay_79 : decode cX12_addDay 79 = .ok (.aload_n 0, 1) := zDec_at zB_dX12_addDay_64 9 rfl
theorem dX12_addDay_80 : decode cX12_addDay 80 = .ok (.getfield 7, 3) := zDec_at zB_dX12_addDay_64 10 rfl
theorem dX12_addDay_83 : decode cX12_addDay 83 = .ok (.iload_n 2, 1) := zDec_at zB_dX12_addDay_64 11 rfl
theorem dX12_addDay_84 : decode cX12_addDay 84 = .ok (.invokestatic 155, 3) := zDec_at zB_dX12_addDay_64 12 rfl
theorem dX12_addDay_87 : decode cX12_addDay 87 = .ok (.iconst 3, 1) := zDec_at zB_dX12_addDay_64 13 rfl
theorem dX12_addDay_88 : decode cX12_addDay 88 = .ok (.iadd, 1) := zDec_at zB_dX12_addDay_64 14 rfl
theorem dX12_addDay_89 : decode cX12_addDay 89 = .ok (.iaload, 1) := zDec_at zB_dX12_addDay_64 15 rfl
theorem dX12_addDay_90 : decode cX12_addDay 90 = .ok (.aload_n 0, 1) := zDec_at zB_dX12_addDay_64 16 rfl
theorem dX12_addDay_91 : decode cX12_addDay 91 = .ok (.getfield 549, 3) := zDec_at zB_dX12_addDay_64 17 rfl
theorem dX12_addDay_94 : decode cX12_addDay 94 = .ok (.imul, 1) := zDec_at zB_dX12_addDay_64 18 rfl
theorem dX12_addDay_95 : decode cX12_addDay 95 = .ok (.iadd, 1) := zDec_at zB_dX12_addDay_64 19 rfl
theorem dX12_addDay_96 : decode cX12_addDay 96 = .ok (.putfield 555, 3) := zDec_at zB_dX12_addDay_64 20 rfl
theorem dX12_addDay_99 : decode cX12_addDay 99 = .ok (.iinc 2 1, 3) := zDec_at zB_dX12_addDay_64 21 rfl
theorem dX12_addDay_102 : decode cX12_addDay 102 = .ok (.goto (-85), 3) := zDec_at zB_dX12_addDay_64 22 rfl
theorem dX12_addDay_105 : decode cX12_addDay 105 = .ok (.return_, 1) := zDec_at zB_dX12_addDay_64 23 rfl
theorem zB_dX12_addFour_0 : zDecB cX12_addFour [(0, .aload_n 0, 1), (1, .getfield 7, 3), (4, .iload_n 1, 1), (5, .iload_n 2, 1), (6, .iastore, 1), (7, .aload_n 0, 1), (8, .getfield 7, 3), (11, .iload_n 1, 1), (12, .iconst 1, 1), (13, .iadd, 1), (14, .iload_n 3, 1), (15, .iastore, 1), (16, .aload_n 0, 1), (17, .getfield 7, 3), (20, .iload_n 1, 1), (21, .iconst 2, 1), (22, .iadd, 1), (23, .iload 4, 2), (25, .iastore, 1), (26, .aload_n 0, 1), (27, .getfield 7, 3), (30, .iload_n 1, 1), (31, .iconst 3, 1), (32, .iadd, 1), (33, .iload 5, 2), (35, .iastore, 1), (36, .return_, 1)] = true := by decide +kernel
theorem dX12_addFour_0 : decode cX12_addFour 0 = .ok (.aload_n 0, 1) := zDec_at zB_dX12_addFour_0 0 rfl
theorem dX12_addFour_1 : decode cX12_addFour 1 = .ok (.getfield 7, 3) := zDec_at zB_dX12_addFour_0 1 rfl
theorem dX12_addFour_4 : decode cX12_addFour 4 = .ok (.iload_n 1, 1) := zDec_at zB_dX12_addFour_0 2 rfl
theorem dX12_addFour_5 : decode cX12_addFour 5 = .ok (.iload_n 2, 1) := zDec_at zB_dX12_addFour_0 3 rfl
theorem dX12_addFour_6 : decode cX12_addFour 6 = .ok (.iastore, 1) := zDec_at zB_dX12_addFour_0 4 rfl
theorem dX12_addFour_7 : decode cX12_addFour 7 = .ok (.aload_n 0, 1) := zDec_at zB_dX12_addFour_0 5 rfl
theorem dX12_addFour_8 : decode cX12_addFour 8 = .ok (.getfield 7, 3) := zDec_at zB_dX12_addFour_0 6 rfl
theorem dX12_addFour_11 : decode cX12_addFour 11 = .ok (.iload_n 1, 1) := zDec_at zB_dX12_addFour_0 7 rfl
theorem dX12_addFour_12 : decode cX12_addFour 12 = .ok (.iconst 1, 1) := zDec_at zB_dX12_addFour_0 8 rfl
theorem dX12_addFour_13 : decode cX12_addFour 13 = .ok (.iadd, 1) := zDec_at zB_dX12_addFour_0 9 rfl
theorem dX12_addFour_14 : decode cX12_addFour 14 = .ok (.iload_n 3, 1) := zDec_at zB_dX12_addFour_0 10 rfl
theorem dX12_addFour_15 : decode cX12_addFour 15 = .ok (.iastore, 1) := zDec_at zB_dX12_addFour_0 11 rfl
theorem dX12_addFour_16 : decode cX12_addFour 16 = .ok (.aload_n 0, 1) := zDec_at zB_dX12_addFour_0 12 rfl
theorem dX12_addFour_17 : decode cX12_addFour 17 = .ok (.getfield 7, 3) := zDec_at zB_dX12_addFour_0 13 rfl
theorem dX12_addFour_20 : decode cX12_addFour 20 = .ok (.iload_n 1, 1) := zDec_at zB_dX12_addFour_0 14 rfl
theorem dX12_addFour_21 : decode cX12_addFour 21 = .ok (.iconst 2, 1) := zDec_at zB_dX12_addFour_0 15 rfl
theorem dX12_addFour_22 : decode cX12_addFour 22 = .ok (.iadd, 1) := zDec_at zB_dX12_addFour_0 16 rfl
theorem dX12_addFour_23 : decode cX12_addFour 23 = .ok (.iload 4, 2) := zDec_at zB_dX12_addFour_0 17 rfl
theorem dX12_addFour_25 : decode cX12_addFour 25 = .ok (.iastore, 1) := zDec_at zB_dX12_addFour_0 18 rfl
theorem dX12_addFour_26 : decode cX12_addFour 26 = .ok (.aload_n 0, 1) := zDec_at zB_dX12_addFour_0 19 rfl
theorem dX12_addFour_27 : decode cX12_addFour 27 = .ok (.getfield 7, 3) := zDec_at zB_dX12_addFour_0 20 rfl
theorem dX12_addFour_30 : decode cX12_addFour 30 = .ok (.iload_n 1, 1) := zDec_at zB_dX12_addFour_0 21 rfl
theorem dX12_addFour_31 : decode cX12_addFour 31 = .ok (.iconst 3, 1) := zDec_at zB_dX12_addFour_0 22 rfl
theorem dX12_addFour_32 : decode cX12_addFour 32 = .ok (.iadd, 1) := zDec_at zB_dX12_addFour_0 23 rfl
theorem dX12_addFour_33 : decode cX12_addFour 33 = .ok (.iload 5, 2) := zDec_at zB_dX12_addFour_0 24 rfl
theorem dX12_addFour_35 : decode cX12_addFour 35 = .ok (.iastore, 1) := zDec_at zB_dX12_addFour_0 25 rfl
theorem dX12_addFour_36 : decode cX12_addFour 36 = .ok (.return_, 1) := zDec_at zB_dX12_addFour_0 26 rfl
theorem zB_dX12_addUp_0 : zDecB cX12_addUp [(0, .aload_n 0, 1), (1, .iconst 0, 1), (2, .putfield 440, 3), (5, .aload_n 0, 1), (6, .iconst 0, 1), (7, .putfield 443, 3), (10, .iconst 0, 1), (11, .istore 5, 2), (13, .iload 5, 2), (15, .aload_n 0, 1), (16, .getfield 7, 3), (19, .iconst 3, 1), (20, .iaload, 1), (21, .if_icmp .ge 139, 3), (24, .iload 5, 2), (26, .invokestatic 155, 3), (29, .istore 6, 2), (31, .iload_n 1, 1), (32, .iconst (-1), 1), (33, .if_icmp .eq 16, 3), (36, .aload_n 0, 1), (37, .getfield 7, 3), (40, .iload 6, 2), (42, .iconst 1, 1), (43, .iadd, 1), (44, .iaload, 1), (45, .iload_n 1, 1), (46, .if_icmp .ne 44, 3), (49, .iload_n 2, 1), (50, .iconst (-1), 1), (51, .if_icmp .eq 14, 3), (54, .aload_n 0, 1), (55, .getfield 7, 3), (58, .iload 6, 2), (60, .iaload, 1), (61, .iload_n 2, 1), (62, .if_icmp .ne 28, 3), (65, .aload_n 0, 1), (66, .getfield 7, 3), (69, .iload 6, 2)] = true := by decide +kernel
theorem dX12_addUp_0 : decode cX12_addUp 0 = .ok (.aload_n 0, 1) := zDec_at zB_dX12_addUp_0 0 rfl
theorem dX12_addUp_1 : decode cX12_addUp 1 = .ok (.iconst 0, 1) := zDec_at zB_dX12_addUp_0 1 rfl
theorem dX12_addUp_2 : decode cX12_addUp 2 = .ok (.putfield 440, 3) := zDec_at zB_dX12_addUp_0 2 rfl
theorem dX12_addUp_5 : decode cX12_addUp 5 = .ok (.aload_n 0, 1) := zDec_at zB_dX12_addUp_0 3 rfl
theorem dX12_addUp_6 : decode cX12_addUp 6 = .ok (.iconst 0, 1) := zDec_at zB_dX12_addUp_0 4 rfl
theorem dX12_addUp_7 : decode cX12_addUp 7 = .ok (.putfield 443, 3) := zDec_at zB_dX12_addUp_0 5 rfl
theorem dX12_addUp_10 : decode cX12_addUp 10 = .ok (.iconst 0, 1) := zDec_at zB_dX12_addUp_0 6 rfl
theorem dX12_addUp_11 : decode cX12_addUp 11 = .ok (.istore 5, 2) := zDec_at zB_dX12_addUp_0 7 rfl
theorem dX12_addUp_13 : decode cX12_addUp 13 = .ok (.iload 5, 2) := zDec_at zB_dX12_addUp_0 8 rfl
theorem dX12_addUp_15 : decode cX12_addUp 15 = .ok (.aload_n 0, 1) := zDec_at zB_dX12_addUp_0 9 rfl
theorem dX12_addUp_16 : decode cX12_addUp 16 = .ok (.getfield 7, 3) := zDec_at zB_dX12_addUp_0 10 rfl
theorem dX12_addUp_19 : decode cX12_addUp 19 = .ok (.iconst 3, 1) := zDec_at zB_dX12_addUp_0 11 rfl
theorem dX12_addUp_20 : decode cX12_addUp 20 = .ok (.iaload, 1) := zDec_at zB_dX12_addUp_0 12 rfl
theorem dX12_addUp_21 : decode cX12_addUp 21 = .ok (.if_icmp .ge 139, 3) := zDec_at zB_dX12_addUp_0 13 rfl
theorem dX12_addUp_24 : decode cX12_addUp 24 = .ok (.iload 5, 2) := zDec_at zB_dX12_addUp_0 14 rfl
theorem dX12_addUp_26 : decode cX12_addUp 26 = .ok (.invokestatic 155, 3) := zDec_at zB_dX12_addUp_0 15 rfl
theorem dX12_addUp_29 : decode cX12_addUp 29 = .ok (.istore 6, 2) := zDec_at zB_dX12_addUp_0 16 rfl
theorem dX12_addUp_31 : decode cX12_addUp 31 = .ok (.iload_n 1, 1) := zDec_at zB_dX12_addUp_0 17 rfl
theorem dX12_addUp_32 : decode cX12_addUp 32 = .ok (.iconst (-1), 1) := zDec_at zB_dX12_addUp_0 18 rfl
theorem dX12_addUp_33 : decode cX12_addUp 33 = .ok (.if_icmp .eq 16, 3) := zDec_at zB_dX12_addUp_0 19 rfl
theorem dX12_addUp_36 : decode cX12_addUp 36 = .ok (.aload_n 0, 1) := zDec_at zB_dX12_addUp_0 20 rfl
theorem dX12_addUp_37 : decode cX12_addUp 37 = .ok (.getfield 7, 3) := zDec_at zB_dX12_addUp_0 21 rfl
theorem dX12_addUp_40 : decode cX12_addUp 40 = .ok (.iload 6, 2) := zDec_at zB_dX12_addUp_0 22 rfl
theorem dX12_addUp_42 : decode cX12_addUp 42 = .ok (.iconst 1, 1) := zDec_at zB_dX12_addUp_0 23 rfl
theorem dX12_addUp_43 : decode cX12_addUp 43 = .ok (.iadd, 1) := zDec_at zB_dX12_addUp_0 24 rfl
theorem dX12_addUp_44 : decode cX12_addUp 44 = .ok (.iaload, 1) := zDec_at zB_dX12_addUp_0 25 rfl
theorem dX12_addUp_45 : decode cX12_addUp 45 = .ok (.iload_n 1, 1) := zDec_at zB_dX12_addUp_0 26 rfl
theorem dX12_addUp_46 : decode cX12_addUp 46 = .ok (.if_icmp .ne 44, 3) := zDec_at zB_dX12_addUp_0 27 rfl
theorem dX12_addUp_49 : decode cX12_addUp 49 = .ok (.iload_n 2, 1) := zDec_at zB_dX12_addUp_0 28 rfl
theorem dX12_addUp_50 : decode cX12_addUp 50 = .ok (.iconst (-1), 1) := zDec_at zB_dX12_addUp_0 29 rfl
theorem dX12_addUp_51 : decode cX12_addUp 51 = .ok (.if_icmp .eq 14, 3) := zDec_at zB_dX12_addUp_0 30 rfl
theorem dX12_addUp_54 : decode cX12_addUp 54 = .ok (.aload_n 0, 1) := zDec_at zB_dX12_addUp_0 31 rfl
theorem dX12_addUp_55 : decode cX12_addUp 55 = .ok (.getfield 7, 3) := zDec_at zB_dX12_addUp_0 32 rfl
theorem dX12_addUp_58 : decode cX12_addUp 58 = .ok (.iload 6, 2) := zDec_at zB_dX12_addUp_0 33 rfl
theorem dX12_addUp_60 : decode cX12_addUp 60 = .ok (.iaload, 1) := zDec_at zB_dX12_addUp_0 34 rfl
theorem dX12_addUp_61 : decode cX12_addUp 61 = .ok (.iload_n 2, 1) := zDec_at zB_dX12_addUp_0 35 rfl
theorem dX12_addUp_62 : decode cX12_addUp 62 = .ok (.if_icmp .ne 28, 3) := zDec_at zB_dX12_addUp_0 36 rfl
theorem dX12_addUp_65 : decode cX12_addUp 65 = .ok (.aload_n 0, 1) := zDec_at zB_dX12_addUp_0 37 rfl
theorem dX12_addUp_66 : decode cX12_addUp 66 = .ok (.getfield 7, 3) := zDec_at zB_dX12_addUp_0 38 rfl
theorem dX12_addUp_69 : decode cX12_addUp 69 = .ok (.iload 6, 2) := zDec_at zB_dX12_addUp_0 39 rfl
theorem zB_dX12_addUp_71 : zDecB cX12_addUp [(71, .iconst 2, 1), (72, .iadd, 1), (73, .iaload, 1), (74, .i2l, 1), (75, .iload_n 3, 1), (76, .i2l, 1), (77, .iload 4, 2), (79, .i2l, 1), (80, .invokestatic 100, 3), (83, .ifCond .eq 7, 3), (86, .iconst 1, 1), (87, .goto 4, 3), (90, .iconst 0, 1), (91, .istore 7, 2), (93, .iload 7, 2), (95, .ifCond .eq 59, 3), (98, .aload_n 0, 1), (99, .getfield 21, 3), (102, .iload 5, 2), (104, .baload, 1), (105, .ifCond .eq 49, 3), (108, .aload_n 0, 1), (109, .getfield 27, 3), (112, .iload 5, 2), (114, .iaload, 1), (115, .iconst 4, 1), (116, .if_icmp .eq 38, 3), (119, .aload_n 0, 1), (120, .dup, 1), (121, .getfield 440, 3), (124, .iconst 1, 1), (125, .iadd, 1), (126, .putfield 440, 3), (129, .aload_n 0, 1), (130, .dup, 1), (131, .getfield 443, 3), (134, .aload_n 0, 1), (135, .getfield 27, 3), (138, .iload 5, 2), (140, .iaload, 1)] = true := by decide +kernel
theorem dX12_addUp_71 : decode cX12_addUp 71 = .ok (.iconst 2, 1) := zDec_at zB_dX12_addUp_71 0 rfl
theorem dX12_addUp_72 : decode cX12_addUp 72 = .ok (.iadd, 1) := zDec_at zB_dX12_addUp_71 1 rfl
theorem dX12_addUp_73 : decode cX12_addUp 73 = .ok (.iaload, 1) := zDec_at zB_dX12_addUp_71 2 rfl
theorem dX12_addUp_74 : decode cX12_addUp 74 = .ok (.i2l, 1) := zDec_at zB_dX12_addUp_71 3 rfl
theorem dX12_addUp_75 : decode cX12_addUp 75 = .ok (.iload_n 3, 1) := zDec_at zB_dX12_addUp_71 4 rfl
theorem dX12_addUp_76 : decode cX12_addUp 76 = .ok (.i2l, 1) := zDec_at zB_dX12_addUp_71 5 rfl
theorem dX12_addUp_77 : decode cX12_addUp 77 = .ok (.iload 4, 2) := zDec_at zB_dX12_addUp_71 6 rfl
theorem dX12_addUp_79 : decode cX12_addUp 79 = .ok (.i2l, 1) := zDec_at zB_dX12_addUp_71 7 rfl
theorem dX12_addUp_80 : decode cX12_addUp 80 = .ok (.invokestatic 100, 3) := zDec_at zB_dX12_addUp_71 8 rfl
theorem dX12_addUp_83 : decode cX12_addUp 83 = .ok (.ifCond .eq 7, 3) := zDec_at zB_dX12_addUp_71 9 rfl
theorem dX12_addUp_86 : decode cX12_addUp 86 = .ok (.iconst 1, 1) := zDec_at zB_dX12_addUp_71 10 rfl
theorem dX12_addUp_87 : decode cX12_addUp 87 = .ok (.goto 4, 3) := zDec_at zB_dX12_addUp_71 11 rfl
theorem dX12_addUp_90 : decode cX12_addUp 90 = .ok (.iconst 0, 1) := zDec_at zB_dX12_addUp_71 12 rfl
theorem dX12_addUp_91 : decode cX12_addUp 91 = .ok (.istore 7, 2) := zDec_at zB_dX12_addUp_71 13 rfl
theorem dX12_addUp_93 : decode cX12_addUp 93 = .ok (.iload 7, 2) := zDec_at zB_dX12_addUp_71 14 rfl
theorem dX12_addUp_95 : decode cX12_addUp 95 = .ok (.ifCond .eq 59, 3) := zDec_at zB_dX12_addUp_71 15 rfl
theorem dX12_addUp_98 : decode cX12_addUp 98 = .ok (.aload_n 0, 1) := zDec_at zB_dX12_addUp_71 16 rfl
theorem dX12_addUp_99 : decode cX12_addUp 99 = .ok (.getfield 21, 3) := zDec_at zB_dX12_addUp_71 17 rfl
theorem dX12_addUp_102 : decode cX12_addUp 102 = .ok (.iload 5, 2) := zDec_at zB_dX12_addUp_71 18 rfl
theorem dX12_addUp_104 : decode cX12_addUp 104 = .ok (.baload, 1) := zDec_at zB_dX12_addUp_71 19 rfl
theorem dX12_addUp_105 : decode cX12_addUp 105 = .ok (.ifCond .eq 49, 3) := zDec_at zB_dX12_addUp_71 20 rfl
theorem dX12_addUp_108 : decode cX12_addUp 108 = .ok (.aload_n 0, 1) := zDec_at zB_dX12_addUp_71 21 rfl
theorem dX12_addUp_109 : decode cX12_addUp 109 = .ok (.getfield 27, 3) := zDec_at zB_dX12_addUp_71 22 rfl
theorem dX12_addUp_112 : decode cX12_addUp 112 = .ok (.iload 5, 2) := zDec_at zB_dX12_addUp_71 23 rfl
theorem dX12_addUp_114 : decode cX12_addUp 114 = .ok (.iaload, 1) := zDec_at zB_dX12_addUp_71 24 rfl
theorem dX12_addUp_115 : decode cX12_addUp 115 = .ok (.iconst 4, 1) := zDec_at zB_dX12_addUp_71 25 rfl
theorem dX12_addUp_116 : decode cX12_addUp 116 = .ok (.if_icmp .eq 38, 3) := zDec_at zB_dX12_addUp_71 26 rfl
theorem dX12_addUp_119 : decode cX12_addUp 119 = .ok (.aload_n 0, 1) := zDec_at zB_dX12_addUp_71 27 rfl
theorem dX12_addUp_120 : decode cX12_addUp 120 = .ok (.dup, 1) := zDec_at zB_dX12_addUp_71 28 rfl
theorem dX12_addUp_121 : decode cX12_addUp 121 = .ok (.getfield 440, 3) := zDec_at zB_dX12_addUp_71 29 rfl
theorem dX12_addUp_124 : decode cX12_addUp 124 = .ok (.iconst 1, 1) := zDec_at zB_dX12_addUp_71 30 rfl
theorem dX12_addUp_125 : decode cX12_addUp 125 = .ok (.iadd, 1) := zDec_at zB_dX12_addUp_71 31 rfl
theorem dX12_addUp_126 : decode cX12_addUp 126 = .ok (.putfield 440, 3) := zDec_at zB_dX12_addUp_71 32 rfl
theorem dX12_addUp_129 : decode cX12_addUp 129 = .ok (.aload_n 0, 1) := zDec_at zB_dX12_addUp_71 33 rfl
theorem dX12_addUp_130 : decode cX12_addUp 130 = .ok (.dup, 1) := zDec_at zB_dX12_addUp_71 34 rfl
theorem dX12_addUp_131 : decode cX12_addUp 131 = .ok (.getfield 443, 3) := zDec_at zB_dX12_addUp_71 35 rfl
theorem dX12_addUp_134 : decode cX12_addUp 134 = .ok (.aload_n 0, 1) := zDec_at zB_dX12_addUp_71 36 rfl
theorem dX12_addUp_135 : decode cX12_addUp 135 = .ok (.getfield 27, 3) := zDec_at zB_dX12_addUp_71 37 rfl
theorem dX12_addUp_138 : decode cX12_addUp 138 = .ok (.iload 5, 2) := zDec_at zB_dX12_addUp_71 38 rfl
theorem dX12_addUp_140 : decode cX12_addUp 140 = .ok (.iaload, 1) := zDec_at zB_dX12_addUp_71 39 rfl
theorem zB_dX12_addUp_141 : zDecB cX12_addUp [(141, .iconst 3, 1), (142, .if_icmp .ne 7, 3), (145, .iconst 1, 1), (146, .goto 4, 3), (149, .iconst 0, 1), (150, .iadd, 1), (151, .putfield 443, 3), (154, .iinc 5 1, 3), (157, .goto (-144), 3), (160, .return_, 1)] = true := by decide +kernel
theorem dX12_addUp_141 : decode cX12_addUp 141 = .ok (.iconst 3, 1) := zDec_at zB_dX12_addUp_141 0 rfl
theorem dX12_addUp_142 : decode cX12_addUp 142 = .ok (.if_icmp .ne 7, 3) := zDec_at zB_dX12_addUp_141 1 rfl
theorem dX12_addUp_145 : decode cX12_addUp 145 = .ok (.iconst 1, 1) := zDec_at zB_dX12_addUp_141 2 rfl
theorem dX12_addUp_146 : decode cX12_addUp 146 = .ok (.goto 4, 3) := zDec_at zB_dX12_addUp_141 3 rfl
theorem dX12_addUp_149 : decode cX12_addUp 149 = .ok (.iconst 0, 1) := zDec_at zB_dX12_addUp_141 4 rfl
theorem dX12_addUp_150 : decode cX12_addUp 150 = .ok (.iadd, 1) := zDec_at zB_dX12_addUp_141 5 rfl
theorem dX12_addUp_151 : decode cX12_addUp 151 = .ok (.putfield 443, 3) := zDec_at zB_dX12_addUp_141 6 rfl
theorem dX12_addUp_154 : decode cX12_addUp 154 = .ok (.iinc 5 1, 3) := zDec_at zB_dX12_addUp_141 7 rfl
theorem dX12_addUp_157 : decode cX12_addUp 157 = .ok (.goto (-144), 3) := zDec_at zB_dX12_addUp_141 8 rfl
theorem dX12_addUp_160 : decode cX12_addUp 160 = .ok (.return_, 1) := zDec_at zB_dX12_addUp_141 9 rfl
theorem zB_dX12_alter_0 : zDecB cX12_alter [(0, .aload_n 0, 1), (1, .iconst 0, 1), (2, .putfield 92, 3), (5, .iload_n 2, 1), (6, .i2l, 1), (7, .lconst 1, 1), (8, .ldc2_w 116, 3), (11, .invokestatic 100, 3), (14, .ifCond .ne 9, 3), (17, .aload_n 0, 1), (18, .iconst (-1), 1), (19, .invokevirtual 106, 3), (22, .ireturn, 1), (23, .aload_n 0, 1), (24, .iload_n 1, 1), (25, .invokevirtual 158, 3), (28, .ifCond .ne 10, 3), (31, .aload_n 0, 1), (32, .bipush (-2), 2), (34, .invokevirtual 106, 3), (37, .ireturn, 1), (38, .aload_n 0, 1), (39, .getfield 7, 3), (42, .iload_n 1, 1), (43, .invokestatic 155, 3), (46, .iconst 3, 1), (47, .iadd, 1), (48, .dup2, 1), (49, .iaload, 1), (50, .iload_n 2, 1), (51, .ixor, 1), (52, .iastore, 1), (53, .aload_n 0, 1), (54, .iconst 0, 1), (55, .putfield 95, 3), (58, .aload_n 0, 1), (59, .getfield 7, 3), (62, .iload_n 1, 1), (63, .invokestatic 155, 3), (66, .iconst 3, 1)] = true := by decide +kernel
theorem dX12_alter_0 : decode cX12_alter 0 = .ok (.aload_n 0, 1) := zDec_at zB_dX12_alter_0 0 rfl
theorem dX12_alter_1 : decode cX12_alter 1 = .ok (.iconst 0, 1) := zDec_at zB_dX12_alter_0 1 rfl
theorem dX12_alter_2 : decode cX12_alter 2 = .ok (.putfield 92, 3) := zDec_at zB_dX12_alter_0 2 rfl
theorem dX12_alter_5 : decode cX12_alter 5 = .ok (.iload_n 2, 1) := zDec_at zB_dX12_alter_0 3 rfl
theorem dX12_alter_6 : decode cX12_alter 6 = .ok (.i2l, 1) := zDec_at zB_dX12_alter_0 4 rfl
theorem dX12_alter_7 : decode cX12_alter 7 = .ok (.lconst 1, 1) := zDec_at zB_dX12_alter_0 5 rfl
theorem dX12_alter_8 : decode cX12_alter 8 = .ok (.ldc2_w 116, 3) := zDec_at zB_dX12_alter_0 6 rfl
theorem dX12_alter_11 : decode cX12_alter 11 = .ok (.invokestatic 100, 3) := zDec_at zB_dX12_alter_0 7 rfl
theorem dX12_alter_14 : decode cX12_alter 14 = .ok (.ifCond .ne 9, 3) := zDec_at zB_dX12_alter_0 8 rfl
theorem dX12_alter_17 : decode cX12_alter 17 = .ok (.aload_n 0, 1) := zDec_at zB_dX12_alter_0 9 rfl
theorem dX12_alter_18 : decode cX12_alter 18 = .ok (.iconst (-1), 1) := zDec_at zB_dX12_alter_0 10 rfl
theorem dX12_alter_19 : decode cX12_alter 19 = .ok (.invokevirtual 106, 3) := zDec_at zB_dX12_alter_0 11 rfl
theorem dX12_alter_22 : decode cX12_alter 22 = .ok (.ireturn, 1) := zDec_at zB_dX12_alter_0 12 rfl
theorem dX12_alter_23 : decode cX12_alter 23 = .ok (.aload_n 0, 1) := zDec_at zB_dX12_alter_0 13 rfl
theorem dX12_alter_24 : decode cX12_alter 24 = .ok (.iload_n 1, 1) := zDec_at zB_dX12_alter_0 14 rfl
theorem dX12_alter_25 : decode cX12_alter 25 = .ok (.invokevirtual 158, 3) := zDec_at zB_dX12_alter_0 15 rfl
theorem dX12_alter_28 : decode cX12_alter 28 = .ok (.ifCond .ne 10, 3) := zDec_at zB_dX12_alter_0 16 rfl
theorem dX12_alter_31 : decode cX12_alter 31 = .ok (.aload_n 0, 1) := zDec_at zB_dX12_alter_0 17 rfl
theorem dX12_alter_32 : decode cX12_alter 32 = .ok (.bipush (-2), 2) := zDec_at zB_dX12_alter_0 18 rfl
theorem dX12_alter_34 : decode cX12_alter 34 = .ok (.invokevirtual 106, 3) := zDec_at zB_dX12_alter_0 19 rfl
theorem dX12_alter_37 : decode cX12_alter 37 = .ok (.ireturn, 1) := zDec_at zB_dX12_alter_0 20 rfl
theorem dX12_alter_38 : decode cX12_alter 38 = .ok (.aload_n 0, 1) := zDec_at zB_dX12_alter_0 21 rfl
theorem dX12_alter_39 : decode cX12_alter 39 = .ok (.getfield 7, 3) := zDec_at zB_dX12_alter_0 22 rfl
theorem dX12_alter_42 : decode cX12_alter 42 = .ok (.iload_n 1, 1) := zDec_at zB_dX12_alter_0 23 rfl
theorem dX12_alter_43 : decode cX12_alter 43 = .ok (.invokestatic 155, 3) := zDec_at zB_dX12_alter_0 24 rfl
theorem dX12_alter_46 : decode cX12_alter 46 = .ok (.iconst 3, 1) := zDec_at zB_dX12_alter_0 25 rfl
theorem dX12_alter_47 : decode cX12_alter 47 = .ok (.iadd, 1) := zDec_at zB_dX12_alter_0 26 rfl
theorem dX12_alter_48 : decode cX12_alter 48 = .ok (.dup2, 1) := zDec_at zB_dX12_alter_0 27 rfl
theorem dX12_alter_49 : decode cX12_alter 49 = .ok (.iaload, 1) := zDec_at zB_dX12_alter_0 28 rfl
theorem dX12_alter_50 : decode cX12_alter 50 = .ok (.iload_n 2, 1) := zDec_at zB_dX12_alter_0 29 rfl
theorem dX12_alter_51 : decode cX12_alter 51 = .ok (.ixor, 1) := zDec_at zB_dX12_alter_0 30 rfl
theorem dX12_alter_52 : decode cX12_alter 52 = .ok (.iastore, 1) := zDec_at zB_dX12_alter_0 31 rfl
theorem dX12_alter_53 : decode cX12_alter 53 = .ok (.aload_n 0, 1) := zDec_at zB_dX12_alter_0 32 rfl
theorem dX12_alter_54 : decode cX12_alter 54 = .ok (.iconst 0, 1) := zDec_at zB_dX12_alter_0 33 rfl
theorem dX12_alter_55 : decode cX12_alter 55 = .ok (.putfield 95, 3) := zDec_at zB_dX12_alter_0 34 rfl
theorem dX12_alter_58 : decode cX12_alter 58 = .ok (.aload_n 0, 1) := zDec_at zB_dX12_alter_0 35 rfl
theorem dX12_alter_59 : decode cX12_alter 59 = .ok (.getfield 7, 3) := zDec_at zB_dX12_alter_0 36 rfl
theorem dX12_alter_62 : decode cX12_alter 62 = .ok (.iload_n 1, 1) := zDec_at zB_dX12_alter_0 37 rfl
theorem dX12_alter_63 : decode cX12_alter 63 = .ok (.invokestatic 155, 3) := zDec_at zB_dX12_alter_0 38 rfl
theorem dX12_alter_66 : decode cX12_alter 66 = .ok (.iconst 3, 1) := zDec_at zB_dX12_alter_0 39 rfl
theorem zB_dX12_alter_67 : zDecB cX12_alter [(67, .iadd, 1), (68, .iaload, 1), (69, .ireturn, 1)] = true := by decide +kernel
theorem dX12_alter_67 : decode cX12_alter 67 = .ok (.iadd, 1) := zDec_at zB_dX12_alter_67 0 rfl
theorem dX12_alter_68 : decode cX12_alter 68 = .ok (.iaload, 1) := zDec_at zB_dX12_alter_67 1 rfl
theorem dX12_alter_69 : decode cX12_alter 69 = .ok (.ireturn, 1) := zDec_at zB_dX12_alter_67 2 rfl
theorem zB_dX12_appeal_0 : zDecB cX12_appeal [(0, .aload_n 0, 1), (1, .iconst 0, 1), (2, .putfield 92, 3), (5, .iload_n 2, 1), (6, .i2l, 1), (7, .lconst 0, 1), (8, .ldc2_w 151, 3), (11, .invokestatic 100, 3), (14, .ifCond .eq 10, 3), (17, .iload_n 3, 1), (18, .invokestatic 127, 3), (21, .ifCond .ne 9, 3), (24, .aload_n 0, 1), (25, .iconst (-1), 1), (26, .invokevirtual 106, 3), (29, .ireturn, 1), (30, .aload_n 0, 1), (31, .iload_n 1, 1), (32, .invokevirtual 158, 3), (35, .ifCond .ne 10, 3), (38, .aload_n 0, 1), (39, .bipush (-2), 2), (41, .invokevirtual 106, 3), (44, .ireturn, 1), (45, .aload_n 0, 1), (46, .getfield 7, 3), (49, .iload_n 1, 1), (50, .invokestatic 155, 3), (53, .iconst 5, 1), (54, .iadd, 1), (55, .iaload, 1), (56, .iconst (-1), 1), (57, .if_icmp .eq 10, 3), (60, .aload_n 0, 1), (61, .bipush (-4), 2), (63, .invokevirtual 106, 3), (66, .ireturn, 1), (67, .aload_n 0, 1), (68, .getfield 7, 3), (71, .iload_n 1, 1)] = true := by decide +kernel
theorem dX12_appeal_0 : decode cX12_appeal 0 = .ok (.aload_n 0, 1) := zDec_at zB_dX12_appeal_0 0 rfl
theorem dX12_appeal_1 : decode cX12_appeal 1 = .ok (.iconst 0, 1) := zDec_at zB_dX12_appeal_0 1 rfl
theorem dX12_appeal_2 : decode cX12_appeal 2 = .ok (.putfield 92, 3) := zDec_at zB_dX12_appeal_0 2 rfl
theorem dX12_appeal_5 : decode cX12_appeal 5 = .ok (.iload_n 2, 1) := zDec_at zB_dX12_appeal_0 3 rfl
theorem dX12_appeal_6 : decode cX12_appeal 6 = .ok (.i2l, 1) := zDec_at zB_dX12_appeal_0 4 rfl
theorem dX12_appeal_7 : decode cX12_appeal 7 = .ok (.lconst 0, 1) := zDec_at zB_dX12_appeal_0 5 rfl
theorem dX12_appeal_8 : decode cX12_appeal 8 = .ok (.ldc2_w 151, 3) := zDec_at zB_dX12_appeal_0 6 rfl
theorem dX12_appeal_11 : decode cX12_appeal 11 = .ok (.invokestatic 100, 3) := zDec_at zB_dX12_appeal_0 7 rfl
theorem dX12_appeal_14 : decode cX12_appeal 14 = .ok (.ifCond .eq 10, 3) := zDec_at zB_dX12_appeal_0 8 rfl
theorem dX12_appeal_17 : decode cX12_appeal 17 = .ok (.iload_n 3, 1) := zDec_at zB_dX12_appeal_0 9 rfl
theorem dX12_appeal_18 : decode cX12_appeal 18 = .ok (.invokestatic 127, 3) := zDec_at zB_dX12_appeal_0 10 rfl
theorem dX12_appeal_21 : decode cX12_appeal 21 = .ok (.ifCond .ne 9, 3) := zDec_at zB_dX12_appeal_0 11 rfl
theorem dX12_appeal_24 : decode cX12_appeal 24 = .ok (.aload_n 0, 1) := zDec_at zB_dX12_appeal_0 12 rfl
theorem dX12_appeal_25 : decode cX12_appeal 25 = .ok (.iconst (-1), 1) := zDec_at zB_dX12_appeal_0 13 rfl
theorem dX12_appeal_26 : decode cX12_appeal 26 = .ok (.invokevirtual 106, 3) := zDec_at zB_dX12_appeal_0 14 rfl
theorem dX12_appeal_29 : decode cX12_appeal 29 = .ok (.ireturn, 1) := zDec_at zB_dX12_appeal_0 15 rfl
theorem dX12_appeal_30 : decode cX12_appeal 30 = .ok (.aload_n 0, 1) := zDec_at zB_dX12_appeal_0 16 rfl
theorem dX12_appeal_31 : decode cX12_appeal 31 = .ok (.iload_n 1, 1) := zDec_at zB_dX12_appeal_0 17 rfl
theorem dX12_appeal_32 : decode cX12_appeal 32 = .ok (.invokevirtual 158, 3) := zDec_at zB_dX12_appeal_0 18 rfl
theorem dX12_appeal_35 : decode cX12_appeal 35 = .ok (.ifCond .ne 10, 3) := zDec_at zB_dX12_appeal_0 19 rfl
theorem dX12_appeal_38 : decode cX12_appeal 38 = .ok (.aload_n 0, 1) := zDec_at zB_dX12_appeal_0 20 rfl
theorem dX12_appeal_39 : decode cX12_appeal 39 = .ok (.bipush (-2), 2) := zDec_at zB_dX12_appeal_0 21 rfl
theorem dX12_appeal_41 : decode cX12_appeal 41 = .ok (.invokevirtual 106, 3) := zDec_at zB_dX12_appeal_0 22 rfl
theorem dX12_appeal_44 : decode cX12_appeal 44 = .ok (.ireturn, 1) := zDec_at zB_dX12_appeal_0 23 rfl
theorem dX12_appeal_45 : decode cX12_appeal 45 = .ok (.aload_n 0, 1) := zDec_at zB_dX12_appeal_0 24 rfl
theorem dX12_appeal_46 : decode cX12_appeal 46 = .ok (.getfield 7, 3) := zDec_at zB_dX12_appeal_0 25 rfl
theorem dX12_appeal_49 : decode cX12_appeal 49 = .ok (.iload_n 1, 1) := zDec_at zB_dX12_appeal_0 26 rfl
theorem dX12_appeal_50 : decode cX12_appeal 50 = .ok (.invokestatic 155, 3) := zDec_at zB_dX12_appeal_0 27 rfl
theorem dX12_appeal_53 : decode cX12_appeal 53 = .ok (.iconst 5, 1) := zDec_at zB_dX12_appeal_0 28 rfl
theorem dX12_appeal_54 : decode cX12_appeal 54 = .ok (.iadd, 1) := zDec_at zB_dX12_appeal_0 29 rfl
theorem dX12_appeal_55 : decode cX12_appeal 55 = .ok (.iaload, 1) := zDec_at zB_dX12_appeal_0 30 rfl
theorem dX12_appeal_56 : decode cX12_appeal 56 = .ok (.iconst (-1), 1) := zDec_at zB_dX12_appeal_0 31 rfl
theorem dX12_appeal_57 : decode cX12_appeal 57 = .ok (.if_icmp .eq 10, 3) := zDec_at zB_dX12_appeal_0 32 rfl
theorem dX12_appeal_60 : decode cX12_appeal 60 = .ok (.aload_n 0, 1) := zDec_at zB_dX12_appeal_0 33 rfl
theorem dX12_appeal_61 : decode cX12_appeal 61 = .ok (.bipush (-4), 2) := zDec_at zB_dX12_appeal_0 34 rfl
theorem dX12_appeal_63 : decode cX12_appeal 63 = .ok (.invokevirtual 106, 3) := zDec_at zB_dX12_appeal_0 35 rfl
theorem dX12_appeal_66 : decode cX12_appeal 66 = .ok (.ireturn, 1) := zDec_at zB_dX12_appeal_0 36 rfl
theorem dX12_appeal_67 : decode cX12_appeal 67 = .ok (.aload_n 0, 1) := zDec_at zB_dX12_appeal_0 37 rfl
theorem dX12_appeal_68 : decode cX12_appeal 68 = .ok (.getfield 7, 3) := zDec_at zB_dX12_appeal_0 38 rfl
theorem dX12_appeal_71 : decode cX12_appeal 71 = .ok (.iload_n 1, 1) := zDec_at zB_dX12_appeal_0 39 rfl
theorem zB_dX12_appeal_72 : zDecB cX12_appeal [(72, .invokestatic 155, 3), (75, .iconst 5, 1), (76, .iadd, 1), (77, .iload_n 2, 1), (78, .iastore, 1), (79, .aload_n 0, 1), (80, .getfield 7, 3), (83, .iload_n 1, 1), (84, .invokestatic 155, 3), (87, .bipush 6, 2), (89, .iadd, 1), (90, .iload_n 3, 1), (91, .iastore, 1), (92, .aload_n 0, 1), (93, .iconst 0, 1), (94, .invokevirtual 106, 3), (97, .ireturn, 1)] = true := by decide +kernel
theorem dX12_appeal_72 : decode cX12_appeal 72 = .ok (.invokestatic 155, 3) := zDec_at zB_dX12_appeal_72 0 rfl
theorem dX12_appeal_75 : decode cX12_appeal 75 = .ok (.iconst 5, 1) := zDec_at zB_dX12_appeal_72 1 rfl
theorem dX12_appeal_76 : decode cX12_appeal 76 = .ok (.iadd, 1) := zDec_at zB_dX12_appeal_72 2 rfl
theorem dX12_appeal_77 : decode cX12_appeal 77 = .ok (.iload_n 2, 1) := zDec_at zB_dX12_appeal_72 3 rfl
theorem dX12_appeal_78 : decode cX12_appeal 78 = .ok (.iastore, 1) := zDec_at zB_dX12_appeal_72 4 rfl
theorem dX12_appeal_79 : decode cX12_appeal 79 = .ok (.aload_n 0, 1) := zDec_at zB_dX12_appeal_72 5 rfl
theorem dX12_appeal_80 : decode cX12_appeal 80 = .ok (.getfield 7, 3) := zDec_at zB_dX12_appeal_72 6 rfl
theorem dX12_appeal_83 : decode cX12_appeal 83 = .ok (.iload_n 1, 1) := zDec_at zB_dX12_appeal_72 7 rfl
theorem dX12_appeal_84 : decode cX12_appeal 84 = .ok (.invokestatic 155, 3) := zDec_at zB_dX12_appeal_72 8 rfl
theorem dX12_appeal_87 : decode cX12_appeal 87 = .ok (.bipush 6, 2) := zDec_at zB_dX12_appeal_72 9 rfl
theorem dX12_appeal_89 : decode cX12_appeal 89 = .ok (.iadd, 1) := zDec_at zB_dX12_appeal_72 10 rfl
theorem dX12_appeal_90 : decode cX12_appeal 90 = .ok (.iload_n 3, 1) := zDec_at zB_dX12_appeal_72 11 rfl
theorem dX12_appeal_91 : decode cX12_appeal 91 = .ok (.iastore, 1) := zDec_at zB_dX12_appeal_72 12 rfl
theorem dX12_appeal_92 : decode cX12_appeal 92 = .ok (.aload_n 0, 1) := zDec_at zB_dX12_appeal_72 13 rfl
theorem dX12_appeal_93 : decode cX12_appeal 93 = .ok (.iconst 0, 1) := zDec_at zB_dX12_appeal_72 14 rfl
theorem dX12_appeal_94 : decode cX12_appeal 94 = .ok (.invokevirtual 106, 3) := zDec_at zB_dX12_appeal_72 15 rfl
theorem dX12_appeal_97 : decode cX12_appeal 97 = .ok (.ireturn, 1) := zDec_at zB_dX12_appeal_72 16 rfl
theorem zB_dX12_back_0 : zDecB cX12_back [(0, .aload_n 0, 1), (1, .iconst 0, 1), (2, .putfield 92, 3), (5, .iload_n 1, 1), (6, .i2l, 1), (7, .lconst 0, 1), (8, .lconst 1, 1), (9, .invokestatic 100, 3), (12, .ifCond .ne 9, 3), (15, .aload_n 0, 1), (16, .iconst (-1), 1), (17, .invokevirtual 106, 3), (20, .ireturn, 1), (21, .aload_n 0, 1), (22, .getfield 17, 3), (25, .iload_n 1, 1), (26, .baload, 1), (27, .ifCond .ne 10, 3), (30, .aload_n 0, 1), (31, .bipush (-2), 2), (33, .invokevirtual 106, 3), (36, .ireturn, 1), (37, .iconst 0, 1), (38, .istore_n 2, 1), (39, .iload_n 2, 1), (40, .sipush 27101, 3), (43, .if_icmp .ge 27, 3), (46, .aload_n 0, 1), (47, .getfield 7, 3), (50, .iload_n 2, 1), (51, .aload_n 0, 1), (52, .getfield 14, 3), (55, .sipush 27101, 3), (58, .iload_n 1, 1), (59, .imul, 1), (60, .iload_n 2, 1), (61, .iadd, 1), (62, .iaload, 1), (63, .iastore, 1), (64, .iinc 2 1, 3)] = true := by decide +kernel
theorem dX12_back_0 : decode cX12_back 0 = .ok (.aload_n 0, 1) := zDec_at zB_dX12_back_0 0 rfl
theorem dX12_back_1 : decode cX12_back 1 = .ok (.iconst 0, 1) := zDec_at zB_dX12_back_0 1 rfl
theorem dX12_back_2 : decode cX12_back 2 = .ok (.putfield 92, 3) := zDec_at zB_dX12_back_0 2 rfl
theorem dX12_back_5 : decode cX12_back 5 = .ok (.iload_n 1, 1) := zDec_at zB_dX12_back_0 3 rfl
theorem dX12_back_6 : decode cX12_back 6 = .ok (.i2l, 1) := zDec_at zB_dX12_back_0 4 rfl
theorem dX12_back_7 : decode cX12_back 7 = .ok (.lconst 0, 1) := zDec_at zB_dX12_back_0 5 rfl
theorem dX12_back_8 : decode cX12_back 8 = .ok (.lconst 1, 1) := zDec_at zB_dX12_back_0 6 rfl
theorem dX12_back_9 : decode cX12_back 9 = .ok (.invokestatic 100, 3) := zDec_at zB_dX12_back_0 7 rfl
theorem dX12_back_12 : decode cX12_back 12 = .ok (.ifCond .ne 9, 3) := zDec_at zB_dX12_back_0 8 rfl
theorem dX12_back_15 : decode cX12_back 15 = .ok (.aload_n 0, 1) := zDec_at zB_dX12_back_0 9 rfl
theorem dX12_back_16 : decode cX12_back 16 = .ok (.iconst (-1), 1) := zDec_at zB_dX12_back_0 10 rfl
theorem dX12_back_17 : decode cX12_back 17 = .ok (.invokevirtual 106, 3) := zDec_at zB_dX12_back_0 11 rfl
theorem dX12_back_20 : decode cX12_back 20 = .ok (.ireturn, 1) := zDec_at zB_dX12_back_0 12 rfl
theorem dX12_back_21 : decode cX12_back 21 = .ok (.aload_n 0, 1) := zDec_at zB_dX12_back_0 13 rfl
theorem dX12_back_22 : decode cX12_back 22 = .ok (.getfield 17, 3) := zDec_at zB_dX12_back_0 14 rfl
theorem dX12_back_25 : decode cX12_back 25 = .ok (.iload_n 1, 1) := zDec_at zB_dX12_back_0 15 rfl
theorem dX12_back_26 : decode cX12_back 26 = .ok (.baload, 1) := zDec_at zB_dX12_back_0 16 rfl
theorem dX12_back_27 : decode cX12_back 27 = .ok (.ifCond .ne 10, 3) := zDec_at zB_dX12_back_0 17 rfl
theorem dX12_back_30 : decode cX12_back 30 = .ok (.aload_n 0, 1) := zDec_at zB_dX12_back_0 18 rfl
theorem dX12_back_31 : decode cX12_back 31 = .ok (.bipush (-2), 2) := zDec_at zB_dX12_back_0 19 rfl
theorem dX12_back_33 : decode cX12_back 33 = .ok (.invokevirtual 106, 3) := zDec_at zB_dX12_back_0 20 rfl
theorem dX12_back_36 : decode cX12_back 36 = .ok (.ireturn, 1) := zDec_at zB_dX12_back_0 21 rfl
theorem dX12_back_37 : decode cX12_back 37 = .ok (.iconst 0, 1) := zDec_at zB_dX12_back_0 22 rfl
theorem dX12_back_38 : decode cX12_back 38 = .ok (.istore_n 2, 1) := zDec_at zB_dX12_back_0 23 rfl
theorem dX12_back_39 : decode cX12_back 39 = .ok (.iload_n 2, 1) := zDec_at zB_dX12_back_0 24 rfl
theorem dX12_back_40 : decode cX12_back 40 = .ok (.sipush 27101, 3) := zDec_at zB_dX12_back_0 25 rfl
theorem dX12_back_43 : decode cX12_back 43 = .ok (.if_icmp .ge 27, 3) := zDec_at zB_dX12_back_0 26 rfl
theorem dX12_back_46 : decode cX12_back 46 = .ok (.aload_n 0, 1) := zDec_at zB_dX12_back_0 27 rfl
theorem dX12_back_47 : decode cX12_back 47 = .ok (.getfield 7, 3) := zDec_at zB_dX12_back_0 28 rfl
theorem dX12_back_50 : decode cX12_back 50 = .ok (.iload_n 2, 1) := zDec_at zB_dX12_back_0 29 rfl
theorem dX12_back_51 : decode cX12_back 51 = .ok (.aload_n 0, 1) := zDec_at zB_dX12_back_0 30 rfl
theorem dX12_back_52 : decode cX12_back 52 = .ok (.getfield 14, 3) := zDec_at zB_dX12_back_0 31 rfl
theorem dX12_back_55 : decode cX12_back 55 = .ok (.sipush 27101, 3) := zDec_at zB_dX12_back_0 32 rfl
theorem dX12_back_58 : decode cX12_back 58 = .ok (.iload_n 1, 1) := zDec_at zB_dX12_back_0 33 rfl
theorem dX12_back_59 : decode cX12_back 59 = .ok (.imul, 1) := zDec_at zB_dX12_back_0 34 rfl
theorem dX12_back_60 : decode cX12_back 60 = .ok (.iload_n 2, 1) := zDec_at zB_dX12_back_0 35 rfl
theorem dX12_back_61 : decode cX12_back 61 = .ok (.iadd, 1) := zDec_at zB_dX12_back_0 36 rfl
theorem dX12_back_62 : decode cX12_back 62 = .ok (.iaload, 1) := zDec_at zB_dX12_back_0 37 rfl
theorem dX12_back_63 : decode cX12_back 63 = .ok (.iastore, 1) := zDec_at zB_dX12_back_0 38 rfl
theorem dX12_back_64 : decode cX12_back 64 = .ok (.iinc 2 1, 3) := zDec_at zB_dX12_back_0 39 rfl
theorem zB_dX12_back_67 : zDecB cX12_back [(67, .goto (-28), 3), (70, .aload_n 0, 1), (71, .iconst 0, 1), (72, .invokevirtual 106, 3), (75, .ireturn, 1)] = true := by decide +kernel
theorem dX12_back_67 : decode cX12_back 67 = .ok (.goto (-28), 3) := zDec_at zB_dX12_back_67 0 rfl
theorem dX12_back_70 : decode cX12_back 70 = .ok (.aload_n 0, 1) := zDec_at zB_dX12_back_67 1 rfl
theorem dX12_back_71 : decode cX12_back 71 = .ok (.iconst 0, 1) := zDec_at zB_dX12_back_67 2 rfl
theorem dX12_back_72 : decode cX12_back 72 = .ok (.invokevirtual 106, 3) := zDec_at zB_dX12_back_67 3 rfl
theorem dX12_back_75 : decode cX12_back 75 = .ok (.ireturn, 1) := zDec_at zB_dX12_back_67 4 rfl
theorem zB_dX12_between_0 : zDecB cX12_between [(0, .aload_n 0, 1), (1, .getfield 7, 3), (4, .sipush 6998, 3), (7, .iconst 3, 1), (8, .iload_n 2, 1), (9, .imul, 1), (10, .iadd, 1), (11, .iaload, 1), (12, .invokestatic 120, 3), (15, .istore_n 3, 1), (16, .aload_n 0, 1), (17, .iload_n 1, 1), (18, .aload_n 0, 1), (19, .getfield 7, 3), (22, .iload_n 3, 1), (23, .iconst 3, 1), (24, .iadd, 1), (25, .iaload, 1), (26, .aload_n 0, 1), (27, .getfield 7, 3), (30, .iload_n 3, 1), (31, .iconst 4, 1), (32, .iadd, 1), (33, .iaload, 1), (34, .invokevirtual 528, 3), (37, .ireturn, 1)] = true := by decide +kernel
theorem dX12_between_0 : decode cX12_between 0 = .ok (.aload_n 0, 1) := zDec_at zB_dX12_between_0 0 rfl
theorem dX12_between_1 : decode cX12_between 1 = .ok (.getfield 7, 3) := zDec_at zB_dX12_between_0 1 rfl
theorem dX12_between_4 : decode cX12_between 4 = .ok (.sipush 6998, 3) := zDec_at zB_dX12_between_0 2 rfl
theorem dX12_between_7 : decode cX12_between 7 = .ok (.iconst 3, 1) := zDec_at zB_dX12_between_0 3 rfl
theorem dX12_between_8 : decode cX12_between 8 = .ok (.iload_n 2, 1) := zDec_at zB_dX12_between_0 4 rfl
theorem dX12_between_9 : decode cX12_between 9 = .ok (.imul, 1) := zDec_at zB_dX12_between_0 5 rfl
theorem dX12_between_10 : decode cX12_between 10 = .ok (.iadd, 1) := zDec_at zB_dX12_between_0 6 rfl
theorem dX12_between_11 : decode cX12_between 11 = .ok (.iaload, 1) := zDec_at zB_dX12_between_0 7 rfl
theorem dX12_between_12 : decode cX12_between 12 = .ok (.invokestatic 120, 3) := zDec_at zB_dX12_between_0 8 rfl
theorem dX12_between_15 : decode cX12_between 15 = .ok (.istore_n 3, 1) := zDec_at zB_dX12_between_0 9 rfl
theorem dX12_between_16 : decode cX12_between 16 = .ok (.aload_n 0, 1) := zDec_at zB_dX12_between_0 10 rfl
theorem dX12_between_17 : decode cX12_between 17 = .ok (.iload_n 1, 1) := zDec_at zB_dX12_between_0 11 rfl
theorem dX12_between_18 : decode cX12_between 18 = .ok (.aload_n 0, 1) := zDec_at zB_dX12_between_0 12 rfl
theorem dX12_between_19 : decode cX12_between 19 = .ok (.getfield 7, 3) := zDec_at zB_dX12_between_0 13 rfl
theorem dX12_between_22 : decode cX12_between 22 = .ok (.iload_n 3, 1) := zDec_at zB_dX12_between_0 14 rfl
theorem dX12_between_23 : decode cX12_between 23 = .ok (.iconst 3, 1) := zDec_at zB_dX12_between_0 15 rfl
theorem dX12_between_24 : decode cX12_between 24 = .ok (.iadd, 1) := zDec_at zB_dX12_between_0 16 rfl
theorem dX12_between_25 : decode cX12_between 25 = .ok (.iaload, 1) := zDec_at zB_dX12_between_0 17 rfl
theorem dX12_between_26 : decode cX12_between 26 = .ok (.aload_n 0, 1) := zDec_at zB_dX12_between_0 18 rfl
theorem dX12_between_27 : decode cX12_between 27 = .ok (.getfield 7, 3) := zDec_at zB_dX12_between_0 19 rfl
theorem dX12_between_30 : decode cX12_between 30 = .ok (.iload_n 3, 1) := zDec_at zB_dX12_between_0 20 rfl
theorem dX12_between_31 : decode cX12_between 31 = .ok (.iconst 4, 1) := zDec_at zB_dX12_between_0 21 rfl
theorem dX12_between_32 : decode cX12_between 32 = .ok (.iadd, 1) := zDec_at zB_dX12_between_0 22 rfl
theorem dX12_between_33 : decode cX12_between 33 = .ok (.iaload, 1) := zDec_at zB_dX12_between_0 23 rfl
theorem dX12_between_34 : decode cX12_between 34 = .ok (.invokevirtual 528, 3) := zDec_at zB_dX12_between_0 24 rfl
theorem dX12_between_37 : decode cX12_between 37 = .ok (.ireturn, 1) := zDec_at zB_dX12_between_0 25 rfl
theorem zB_dX12_cannot_0 : zDecB cX12_cannot [(0, .aload_n 0, 1), (1, .iconst 0, 1), (2, .putfield 92, 3), (5, .iload_n 2, 1), (6, .invokestatic 145, 3), (9, .ifCond .eq 21, 3), (12, .iload_n 1, 1), (13, .i2l, 1), (14, .lconst 0, 1), (15, .iload_n 2, 1), (16, .i2l, 1), (17, .invokestatic 100, 3), (20, .ifCond .eq 10, 3), (23, .iload_n 3, 1), (24, .invokestatic 127, 3), (27, .ifCond .ne 5, 3), (30, .iconst (-1), 1), (31, .ireturn, 1), (32, .aload_n 0, 1), (33, .iload_n 3, 1), (34, .invokevirtual 186, 3), (37, .iconst 0, 1), (38, .istore 5, 2), (40, .iconst (-1), 1), (41, .istore 6, 2), (43, .iconst 0, 1), (44, .istore 7, 2), (46, .iload 7, 2), (48, .aload_n 0, 1), (49, .getfield 7, 3), (52, .iconst 3, 1), (53, .iaload, 1), (54, .if_icmp .ge 60, 3), (57, .aload_n 0, 1), (58, .getfield 7, 3), (61, .iload 7, 2), (63, .invokestatic 155, 3), (66, .iconst 2, 1), (67, .iadd, 1), (68, .iaload, 1)] = true := by decide +kernel
theorem dX12_cannot_0 : decode cX12_cannot 0 = .ok (.aload_n 0, 1) := zDec_at zB_dX12_cannot_0 0 rfl
theorem dX12_cannot_1 : decode cX12_cannot 1 = .ok (.iconst 0, 1) := zDec_at zB_dX12_cannot_0 1 rfl
theorem dX12_cannot_2 : decode cX12_cannot 2 = .ok (.putfield 92, 3) := zDec_at zB_dX12_cannot_0 2 rfl
theorem dX12_cannot_5 : decode cX12_cannot 5 = .ok (.iload_n 2, 1) := zDec_at zB_dX12_cannot_0 3 rfl
theorem dX12_cannot_6 : decode cX12_cannot 6 = .ok (.invokestatic 145, 3) := zDec_at zB_dX12_cannot_0 4 rfl
theorem dX12_cannot_9 : decode cX12_cannot 9 = .ok (.ifCond .eq 21, 3) := zDec_at zB_dX12_cannot_0 5 rfl
theorem dX12_cannot_12 : decode cX12_cannot 12 = .ok (.iload_n 1, 1) := zDec_at zB_dX12_cannot_0 6 rfl
theorem dX12_cannot_13 : decode cX12_cannot 13 = .ok (.i2l, 1) := zDec_at zB_dX12_cannot_0 7 rfl
theorem dX12_cannot_14 : decode cX12_cannot 14 = .ok (.lconst 0, 1) := zDec_at zB_dX12_cannot_0 8 rfl
theorem dX12_cannot_15 : decode cX12_cannot 15 = .ok (.iload_n 2, 1) := zDec_at zB_dX12_cannot_0 9 rfl
theorem dX12_cannot_16 : decode cX12_cannot 16 = .ok (.i2l, 1) := zDec_at zB_dX12_cannot_0 10 rfl
theorem dX12_cannot_17 : decode cX12_cannot 17 = .ok (.invokestatic 100, 3) := zDec_at zB_dX12_cannot_0 11 rfl
theorem dX12_cannot_20 : decode cX12_cannot 20 = .ok (.ifCond .eq 10, 3) := zDec_at zB_dX12_cannot_0 12 rfl
theorem dX12_cannot_23 : decode cX12_cannot 23 = .ok (.iload_n 3, 1) := zDec_at zB_dX12_cannot_0 13 rfl
theorem dX12_cannot_24 : decode cX12_cannot 24 = .ok (.invokestatic 127, 3) := zDec_at zB_dX12_cannot_0 14 rfl
theorem dX12_cannot_27 : decode cX12_cannot 27 = .ok (.ifCond .ne 5, 3) := zDec_at zB_dX12_cannot_0 15 rfl
theorem dX12_cannot_30 : decode cX12_cannot 30 = .ok (.iconst (-1), 1) := zDec_at zB_dX12_cannot_0 16 rfl
theorem dX12_cannot_31 : decode cX12_cannot 31 = .ok (.ireturn, 1) := zDec_at zB_dX12_cannot_0 17 rfl
theorem dX12_cannot_32 : decode cX12_cannot 32 = .ok (.aload_n 0, 1) := zDec_at zB_dX12_cannot_0 18 rfl
theorem dX12_cannot_33 : decode cX12_cannot 33 = .ok (.iload_n 3, 1) := zDec_at zB_dX12_cannot_0 19 rfl
theorem dX12_cannot_34 : decode cX12_cannot 34 = .ok (.invokevirtual 186, 3) := zDec_at zB_dX12_cannot_0 20 rfl
theorem dX12_cannot_37 : decode cX12_cannot 37 = .ok (.iconst 0, 1) := zDec_at zB_dX12_cannot_0 21 rfl
theorem dX12_cannot_38 : decode cX12_cannot 38 = .ok (.istore 5, 2) := zDec_at zB_dX12_cannot_0 22 rfl
theorem dX12_cannot_40 : decode cX12_cannot 40 = .ok (.iconst (-1), 1) := zDec_at zB_dX12_cannot_0 23 rfl
theorem dX12_cannot_41 : decode cX12_cannot 41 = .ok (.istore 6, 2) := zDec_at zB_dX12_cannot_0 24 rfl
theorem dX12_cannot_43 : decode cX12_cannot 43 = .ok (.iconst 0, 1) := zDec_at zB_dX12_cannot_0 25 rfl
theorem dX12_cannot_44 : decode cX12_cannot 44 = .ok (.istore 7, 2) := zDec_at zB_dX12_cannot_0 26 rfl
theorem dX12_cannot_46 : decode cX12_cannot 46 = .ok (.iload 7, 2) := zDec_at zB_dX12_cannot_0 27 rfl
theorem dX12_cannot_48 : decode cX12_cannot 48 = .ok (.aload_n 0, 1) := zDec_at zB_dX12_cannot_0 28 rfl
theorem dX12_cannot_49 : decode cX12_cannot 49 = .ok (.getfield 7, 3) := zDec_at zB_dX12_cannot_0 29 rfl
theorem dX12_cannot_52 : decode cX12_cannot 52 = .ok (.iconst 3, 1) := zDec_at zB_dX12_cannot_0 30 rfl
theorem dX12_cannot_53 : decode cX12_cannot 53 = .ok (.iaload, 1) := zDec_at zB_dX12_cannot_0 31 rfl
theorem dX12_cannot_54 : decode cX12_cannot 54 = .ok (.if_icmp .ge 60, 3) := zDec_at zB_dX12_cannot_0 32 rfl
theorem dX12_cannot_57 : decode cX12_cannot 57 = .ok (.aload_n 0, 1) := zDec_at zB_dX12_cannot_0 33 rfl
theorem dX12_cannot_58 : decode cX12_cannot 58 = .ok (.getfield 7, 3) := zDec_at zB_dX12_cannot_0 34 rfl
theorem dX12_cannot_61 : decode cX12_cannot 61 = .ok (.iload 7, 2) := zDec_at zB_dX12_cannot_0 35 rfl
theorem dX12_cannot_63 : decode cX12_cannot 63 = .ok (.invokestatic 155, 3) := zDec_at zB_dX12_cannot_0 36 rfl
theorem dX12_cannot_66 : decode cX12_cannot 66 = .ok (.iconst 2, 1) := zDec_at zB_dX12_cannot_0 37 rfl
theorem dX12_cannot_67 : decode cX12_cannot 67 = .ok (.iadd, 1) := zDec_at zB_dX12_cannot_0 38 rfl
theorem dX12_cannot_68 : decode cX12_cannot 68 = .ok (.iaload, 1) := zDec_at zB_dX12_cannot_0 39 rfl
theorem zB_dX12_cannot_69 : zDecB cX12_cannot [(69, .i2l, 1), (70, .iload_n 1, 1), (71, .i2l, 1), (72, .iload_n 2, 1), (73, .i2l, 1), (74, .invokestatic 100, 3), (77, .ifCond .eq 31, 3), (80, .aload_n 0, 1), (81, .iload 7, 2), (83, .invokevirtual 521, 3), (86, .ifCond .eq 22, 3), (89, .iload 5, 2), (91, .iload 4, 2), (93, .if_icmp .ne 8, 3), (96, .iload 7, 2), (98, .goto 5, 3), (101, .iload 6, 2), (103, .istore 6, 2), (105, .iinc 5 1, 3), (108, .iinc 7 1, 3), (111, .goto (-65), 3), (114, .iload 4, 2), (116, .iconst (-1), 1), (117, .if_icmp .ne 8, 3), (120, .iload 5, 2), (122, .goto 5, 3), (125, .iload 6, 2), (127, .ireturn, 1)] = true := by decide +kernel
theorem dX12_cannot_69 : decode cX12_cannot 69 = .ok (.i2l, 1) := zDec_at zB_dX12_cannot_69 0 rfl
theorem dX12_cannot_70 : decode cX12_cannot 70 = .ok (.iload_n 1, 1) := zDec_at zB_dX12_cannot_69 1 rfl
theorem dX12_cannot_71 : decode cX12_cannot 71 = .ok (.i2l, 1) := zDec_at zB_dX12_cannot_69 2 rfl
theorem dX12_cannot_72 : decode cX12_cannot 72 = .ok (.iload_n 2, 1) := zDec_at zB_dX12_cannot_69 3 rfl
theorem dX12_cannot_73 : decode cX12_cannot 73 = .ok (.i2l, 1) := zDec_at zB_dX12_cannot_69 4 rfl
theorem dX12_cannot_74 : decode cX12_cannot 74 = .ok (.invokestatic 100, 3) := zDec_at zB_dX12_cannot_69 5 rfl
theorem dX12_cannot_77 : decode cX12_cannot 77 = .ok (.ifCond .eq 31, 3) := zDec_at zB_dX12_cannot_69 6 rfl
theorem dX12_cannot_80 : decode cX12_cannot 80 = .ok (.aload_n 0, 1) := zDec_at zB_dX12_cannot_69 7 rfl
theorem dX12_cannot_81 : decode cX12_cannot 81 = .ok (.iload 7, 2) := zDec_at zB_dX12_cannot_69 8 rfl
theorem dX12_cannot_83 : decode cX12_cannot 83 = .ok (.invokevirtual 521, 3) := zDec_at zB_dX12_cannot_69 9 rfl
theorem dX12_cannot_86 : decode cX12_cannot 86 = .ok (.ifCond .eq 22, 3) := zDec_at zB_dX12_cannot_69 10 rfl
theorem dX12_cannot_89 : decode cX12_cannot 89 = .ok (.iload 5, 2) := zDec_at zB_dX12_cannot_69 11 rfl
theorem dX12_cannot_91 : decode cX12_cannot 91 = .ok (.iload 4, 2) := zDec_at zB_dX12_cannot_69 12 rfl
theorem dX12_cannot_93 : decode cX12_cannot 93 = .ok (.if_icmp .ne 8, 3) := zDec_at zB_dX12_cannot_69 13 rfl
theorem dX12_cannot_96 : decode cX12_cannot 96 = .ok (.iload 7, 2) := zDec_at zB_dX12_cannot_69 14 rfl
theorem dX12_cannot_98 : decode cX12_cannot 98 = .ok (.goto 5, 3) := zDec_at zB_dX12_cannot_69 15 rfl
theorem dX12_cannot_101 : decode cX12_cannot 101 = .ok (.iload 6, 2) := zDec_at zB_dX12_cannot_69 16 rfl
theorem dX12_cannot_103 : decode cX12_cannot 103 = .ok (.istore 6, 2) := zDec_at zB_dX12_cannot_69 17 rfl
theorem dX12_cannot_105 : decode cX12_cannot 105 = .ok (.iinc 5 1, 3) := zDec_at zB_dX12_cannot_69 18 rfl
theorem dX12_cannot_108 : decode cX12_cannot 108 = .ok (.iinc 7 1, 3) := zDec_at zB_dX12_cannot_69 19 rfl
theorem dX12_cannot_111 : decode cX12_cannot 111 = .ok (.goto (-65), 3) := zDec_at zB_dX12_cannot_69 20 rfl
theorem dX12_cannot_114 : decode cX12_cannot 114 = .ok (.iload 4, 2) := zDec_at zB_dX12_cannot_69 21 rfl
theorem dX12_cannot_116 : decode cX12_cannot 116 = .ok (.iconst (-1), 1) := zDec_at zB_dX12_cannot_69 22 rfl
theorem dX12_cannot_117 : decode cX12_cannot 117 = .ok (.if_icmp .ne 8, 3) := zDec_at zB_dX12_cannot_69 23 rfl
theorem dX12_cannot_120 : decode cX12_cannot 120 = .ok (.iload 5, 2) := zDec_at zB_dX12_cannot_69 24 rfl
theorem dX12_cannot_122 : decode cX12_cannot 122 = .ok (.goto 5, 3) := zDec_at zB_dX12_cannot_69 25 rfl
theorem dX12_cannot_125 : decode cX12_cannot 125 = .ok (.iload 6, 2) := zDec_at zB_dX12_cannot_69 26 rfl
theorem dX12_cannot_127 : decode cX12_cannot 127 = .ok (.ireturn, 1) := zDec_at zB_dX12_cannot_69 27 rfl
theorem zB_dX12_cannotBe_0 : zDecB cX12_cannotBe [(0, .iload_n 1, 1), (1, .invokestatic 155, 3), (4, .istore_n 2, 1), (5, .aload_n 0, 1), (6, .getfield 21, 3), (9, .iload_n 1, 1), (10, .baload, 1), (11, .ifCond .eq 13, 3), (14, .aload_n 0, 1), (15, .getfield 27, 3), (18, .iload_n 1, 1), (19, .iaload, 1), (20, .iconst 1, 1), (21, .if_icmp .le 5, 3), (24, .iconst 0, 1), (25, .ireturn, 1), (26, .aload_n 0, 1), (27, .getfield 7, 3), (30, .aload_n 0, 1), (31, .getfield 7, 3), (34, .iload_n 2, 1), (35, .iconst 1, 1), (36, .iadd, 1), (37, .iaload, 1), (38, .invokestatic 120, 3), (41, .iconst 2, 1), (42, .iadd, 1), (43, .iaload, 1), (44, .istore_n 3, 1), (45, .iload_n 3, 1), (46, .iconst (-1), 1), (47, .if_icmp .eq 46, 3), (50, .aload_n 0, 1), (51, .iload_n 3, 1), (52, .aload_n 0, 1), (53, .getfield 7, 3), (56, .iload_n 2, 1), (57, .iconst 2, 1), (58, .iadd, 1), (59, .iaload, 1)] = true := by decide +kernel
theorem dX12_cannotBe_0 : decode cX12_cannotBe 0 = .ok (.iload_n 1, 1) := zDec_at zB_dX12_cannotBe_0 0 rfl
theorem dX12_cannotBe_1 : decode cX12_cannotBe 1 = .ok (.invokestatic 155, 3) := zDec_at zB_dX12_cannotBe_0 1 rfl
theorem dX12_cannotBe_4 : decode cX12_cannotBe 4 = .ok (.istore_n 2, 1) := zDec_at zB_dX12_cannotBe_0 2 rfl
theorem dX12_cannotBe_5 : decode cX12_cannotBe 5 = .ok (.aload_n 0, 1) := zDec_at zB_dX12_cannotBe_0 3 rfl
theorem dX12_cannotBe_6 : decode cX12_cannotBe 6 = .ok (.getfield 21, 3) := zDec_at zB_dX12_cannotBe_0 4 rfl
theorem dX12_cannotBe_9 : decode cX12_cannotBe 9 = .ok (.iload_n 1, 1) := zDec_at zB_dX12_cannotBe_0 5 rfl
theorem dX12_cannotBe_10 : decode cX12_cannotBe 10 = .ok (.baload, 1) := zDec_at zB_dX12_cannotBe_0 6 rfl
theorem dX12_cannotBe_11 : decode cX12_cannotBe 11 = .ok (.ifCond .eq 13, 3) := zDec_at zB_dX12_cannotBe_0 7 rfl
theorem dX12_cannotBe_14 : decode cX12_cannotBe 14 = .ok (.aload_n 0, 1) := zDec_at zB_dX12_cannotBe_0 8 rfl
theorem dX12_cannotBe_15 : decode cX12_cannotBe 15 = .ok (.getfield 27, 3) := zDec_at zB_dX12_cannotBe_0 9 rfl
theorem dX12_cannotBe_18 : decode cX12_cannotBe 18 = .ok (.iload_n 1, 1) := zDec_at zB_dX12_cannotBe_0 10 rfl
theorem dX12_cannotBe_19 : decode cX12_cannotBe 19 = .ok (.iaload, 1) := zDec_at zB_dX12_cannotBe_0 11 rfl
theorem dX12_cannotBe_20 : decode cX12_cannotBe 20 = .ok (.iconst 1, 1) := zDec_at zB_dX12_cannotBe_0 12 rfl
theorem dX12_cannotBe_21 : decode cX12_cannotBe 21 = .ok (.if_icmp .le 5, 3) := zDec_at zB_dX12_cannotBe_0 13 rfl
theorem dX12_cannotBe_24 : decode cX12_cannotBe 24 = .ok (.iconst 0, 1) := zDec_at zB_dX12_cannotBe_0 14 rfl
theorem dX12_cannotBe_25 : decode cX12_cannotBe 25 = .ok (.ireturn, 1) := zDec_at zB_dX12_cannotBe_0 15 rfl
theorem dX12_cannotBe_26 : decode cX12_cannotBe 26 = .ok (.aload_n 0, 1) := zDec_at zB_dX12_cannotBe_0 16 rfl
theorem dX12_cannotBe_27 : decode cX12_cannotBe 27 = .ok (.getfield 7, 3) := zDec_at zB_dX12_cannotBe_0 17 rfl
theorem dX12_cannotBe_30 : decode cX12_cannotBe 30 = .ok (.aload_n 0, 1) := zDec_at zB_dX12_cannotBe_0 18 rfl
theorem dX12_cannotBe_31 : decode cX12_cannotBe 31 = .ok (.getfield 7, 3) := zDec_at zB_dX12_cannotBe_0 19 rfl
theorem dX12_cannotBe_34 : decode cX12_cannotBe 34 = .ok (.iload_n 2, 1) := zDec_at zB_dX12_cannotBe_0 20 rfl
theorem dX12_cannotBe_35 : decode cX12_cannotBe 35 = .ok (.iconst 1, 1) := zDec_at zB_dX12_cannotBe_0 21 rfl
theorem dX12_cannotBe_36 : decode cX12_cannotBe 36 = .ok (.iadd, 1) := zDec_at zB_dX12_cannotBe_0 22 rfl
theorem dX12_cannotBe_37 : decode cX12_cannotBe 37 = .ok (.iaload, 1) := zDec_at zB_dX12_cannotBe_0 23 rfl
theorem dX12_cannotBe_38 : decode cX12_cannotBe 38 = .ok (.invokestatic 120, 3) := zDec_at zB_dX12_cannotBe_0 24 rfl
theorem dX12_cannotBe_41 : decode cX12_cannotBe 41 = .ok (.iconst 2, 1) := zDec_at zB_dX12_cannotBe_0 25 rfl
theorem dX12_cannotBe_42 : decode cX12_cannotBe 42 = .ok (.iadd, 1) := zDec_at zB_dX12_cannotBe_0 26 rfl
theorem dX12_cannotBe_43 : decode cX12_cannotBe 43 = .ok (.iaload, 1) := zDec_at zB_dX12_cannotBe_0 27 rfl
theorem dX12_cannotBe_44 : decode cX12_cannotBe 44 = .ok (.istore_n 3, 1) := zDec_at zB_dX12_cannotBe_0 28 rfl
theorem dX12_cannotBe_45 : decode cX12_cannotBe 45 = .ok (.iload_n 3, 1) := zDec_at zB_dX12_cannotBe_0 29 rfl
theorem dX12_cannotBe_46 : decode cX12_cannotBe 46 = .ok (.iconst (-1), 1) := zDec_at zB_dX12_cannotBe_0 30 rfl
theorem dX12_cannotBe_47 : decode cX12_cannotBe 47 = .ok (.if_icmp .eq 46, 3) := zDec_at zB_dX12_cannotBe_0 31 rfl
theorem dX12_cannotBe_50 : decode cX12_cannotBe 50 = .ok (.aload_n 0, 1) := zDec_at zB_dX12_cannotBe_0 32 rfl
theorem dX12_cannotBe_51 : decode cX12_cannotBe 51 = .ok (.iload_n 3, 1) := zDec_at zB_dX12_cannotBe_0 33 rfl
theorem dX12_cannotBe_52 : decode cX12_cannotBe 52 = .ok (.aload_n 0, 1) := zDec_at zB_dX12_cannotBe_0 34 rfl
theorem dX12_cannotBe_53 : decode cX12_cannotBe 53 = .ok (.getfield 7, 3) := zDec_at zB_dX12_cannotBe_0 35 rfl
theorem dX12_cannotBe_56 : decode cX12_cannotBe 56 = .ok (.iload_n 2, 1) := zDec_at zB_dX12_cannotBe_0 36 rfl
theorem dX12_cannotBe_57 : decode cX12_cannotBe 57 = .ok (.iconst 2, 1) := zDec_at zB_dX12_cannotBe_0 37 rfl
theorem dX12_cannotBe_58 : decode cX12_cannotBe 58 = .ok (.iadd, 1) := zDec_at zB_dX12_cannotBe_0 38 rfl
theorem dX12_cannotBe_59 : decode cX12_cannotBe 59 = .ok (.iaload, 1) := zDec_at zB_dX12_cannotBe_0 39 rfl
theorem zB_dX12_cannotBe_60 : zDecB cX12_cannotBe [(60, .invokevirtual 148, 3), (63, .ifCond .eq 30, 3), (66, .aload_n 0, 1), (67, .getfield 7, 3), (70, .iload_n 2, 1), (71, .iconst 3, 1), (72, .iadd, 1), (73, .iaload, 1), (74, .bipush 26, 2), (76, .idiv, 1), (77, .ifCond .ne 16, 3), (80, .aload_n 0, 1), (81, .getfield 27, 3), (84, .iload_n 1, 1), (85, .iaload, 1), (86, .ifCond .ne 7, 3), (89, .iconst 1, 1), (90, .goto 4, 3), (93, .iconst 0, 1), (94, .istore 4, 2), (96, .iconst 0, 1), (97, .istore 5, 2), (99, .iload 5, 2), (101, .aload_n 0, 1), (102, .getfield 7, 3), (105, .iconst 3, 1), (106, .iaload, 1), (107, .if_icmp .ge 105, 3), (110, .iload 5, 2), (112, .invokestatic 155, 3), (115, .istore 6, 2), (117, .iload 4, 2), (119, .ifCond .ne 80, 3), (122, .aload_n 0, 1), (123, .getfield 21, 3), (126, .iload 5, 2), (128, .baload, 1), (129, .ifCond .eq 74, 3), (132, .aload_n 0, 1), (133, .getfield 27, 3)] = true := by decide +kernel
theorem dX12_cannotBe_60 : decode cX12_cannotBe 60 = .ok (.invokevirtual 148, 3) := zDec_at zB_dX12_cannotBe_60 0 rfl
theorem dX12_cannotBe_63 : decode cX12_cannotBe 63 = .ok (.ifCond .eq 30, 3) := zDec_at zB_dX12_cannotBe_60 1 rfl
theorem dX12_cannotBe_66 : decode cX12_cannotBe 66 = .ok (.aload_n 0, 1) := zDec_at zB_dX12_cannotBe_60 2 rfl
theorem dX12_cannotBe_67 : decode cX12_cannotBe 67 = .ok (.getfield 7, 3) := zDec_at zB_dX12_cannotBe_60 3 rfl
theorem dX12_cannotBe_70 : decode cX12_cannotBe 70 = .ok (.iload_n 2, 1) := zDec_at zB_dX12_cannotBe_60 4 rfl
theorem dX12_cannotBe_71 : decode cX12_cannotBe 71 = .ok (.iconst 3, 1) := zDec_at zB_dX12_cannotBe_60 5 rfl
theorem dX12_cannotBe_72 : decode cX12_cannotBe 72 = .ok (.iadd, 1) := zDec_at zB_dX12_cannotBe_60 6 rfl
theorem dX12_cannotBe_73 : decode cX12_cannotBe 73 = .ok (.iaload, 1) := zDec_at zB_dX12_cannotBe_60 7 rfl
theorem dX12_cannotBe_74 : decode cX12_cannotBe 74 = .ok (.bipush 26, 2) := zDec_at zB_dX12_cannotBe_60 8 rfl
theorem dX12_cannotBe_76 : decode cX12_cannotBe 76 = .ok (.idiv, 1) := zDec_at zB_dX12_cannotBe_60 9 rfl
theorem dX12_cannotBe_77 : decode cX12_cannotBe 77 = .ok (.ifCond .ne 16, 3) := zDec_at zB_dX12_cannotBe_60 10 rfl
theorem dX12_cannotBe_80 : decode cX12_cannotBe 80 = .ok (.aload_n 0, 1) := zDec_at zB_dX12_cannotBe_60 11 rfl
theorem dX12_cannotBe_81 : decode cX12_cannotBe 81 = .ok (.getfield 27, 3) := zDec_at zB_dX12_cannotBe_60 12 rfl
theorem dX12_cannotBe_84 : decode cX12_cannotBe 84 = .ok (.iload_n 1, 1) := zDec_at zB_dX12_cannotBe_60 13 rfl
theorem dX12_cannotBe_85 : decode cX12_cannotBe 85 = .ok (.iaload, 1) := zDec_at zB_dX12_cannotBe_60 14 rfl
theorem dX12_cannotBe_86 : decode cX12_cannotBe 86 = .ok (.ifCond .ne 7, 3) := zDec_at zB_dX12_cannotBe_60 15 rfl
theorem dX12_cannotBe_89 : decode cX12_cannotBe 89 = .ok (.iconst 1, 1) := zDec_at zB_dX12_cannotBe_60 16 rfl
theorem dX12_cannotBe_90 : decode cX12_cannotBe 90 = .ok (.goto 4, 3) := zDec_at zB_dX12_cannotBe_60 17 rfl
theorem dX12_cannotBe_93 : decode cX12_cannotBe 93 = .ok (.iconst 0, 1) := zDec_at zB_dX12_cannotBe_60 18 rfl
theorem dX12_cannotBe_94 : decode cX12_cannotBe 94 = .ok (.istore 4, 2) := zDec_at zB_dX12_cannotBe_60 19 rfl
theorem dX12_cannotBe_96 : decode cX12_cannotBe 96 = .ok (.iconst 0, 1) := zDec_at zB_dX12_cannotBe_60 20 rfl
theorem dX12_cannotBe_97 : decode cX12_cannotBe 97 = .ok (.istore 5, 2) := zDec_at zB_dX12_cannotBe_60 21 rfl
theorem dX12_cannotBe_99 : decode cX12_cannotBe 99 = .ok (.iload 5, 2) := zDec_at zB_dX12_cannotBe_60 22 rfl
theorem dX12_cannotBe_101 : decode cX12_cannotBe 101 = .ok (.aload_n 0, 1) := zDec_at zB_dX12_cannotBe_60 23 rfl
theorem dX12_cannotBe_102 : decode cX12_cannotBe 102 = .ok (.getfield 7, 3) := zDec_at zB_dX12_cannotBe_60 24 rfl
theorem dX12_cannotBe_105 : decode cX12_cannotBe 105 = .ok (.iconst 3, 1) := zDec_at zB_dX12_cannotBe_60 25 rfl
theorem dX12_cannotBe_106 : decode cX12_cannotBe 106 = .ok (.iaload, 1) := zDec_at zB_dX12_cannotBe_60 26 rfl
theorem dX12_cannotBe_107 : decode cX12_cannotBe 107 = .ok (.if_icmp .ge 105, 3) := zDec_at zB_dX12_cannotBe_60 27 rfl
theorem dX12_cannotBe_110 : decode cX12_cannotBe 110 = .ok (.iload 5, 2) := zDec_at zB_dX12_cannotBe_60 28 rfl
theorem dX12_cannotBe_112 : decode cX12_cannotBe 112 = .ok (.invokestatic 155, 3) := zDec_at zB_dX12_cannotBe_60 29 rfl
theorem dX12_cannotBe_115 : decode cX12_cannotBe 115 = .ok (.istore 6, 2) := zDec_at zB_dX12_cannotBe_60 30 rfl
theorem dX12_cannotBe_117 : decode cX12_cannotBe 117 = .ok (.iload 4, 2) := zDec_at zB_dX12_cannotBe_60 31 rfl
theorem dX12_cannotBe_119 : decode cX12_cannotBe 119 = .ok (.ifCond .ne 80, 3) := zDec_at zB_dX12_cannotBe_60 32 rfl
theorem dX12_cannotBe_122 : decode cX12_cannotBe 122 = .ok (.aload_n 0, 1) := zDec_at zB_dX12_cannotBe_60 33 rfl
theorem dX12_cannotBe_123 : decode cX12_cannotBe 123 = .ok (.getfield 21, 3) := zDec_at zB_dX12_cannotBe_60 34 rfl
theorem dX12_cannotBe_126 : decode cX12_cannotBe 126 = .ok (.iload 5, 2) := zDec_at zB_dX12_cannotBe_60 35 rfl
theorem dX12_cannotBe_128 : decode cX12_cannotBe 128 = .ok (.baload, 1) := zDec_at zB_dX12_cannotBe_60 36 rfl
theorem dX12_cannotBe_129 : decode cX12_cannotBe 129 = .ok (.ifCond .eq 74, 3) := zDec_at zB_dX12_cannotBe_60 37 rfl
theorem dX12_cannotBe_132 : decode cX12_cannotBe 132 = .ok (.aload_n 0, 1) := zDec_at zB_dX12_cannotBe_60 38 rfl
theorem dX12_cannotBe_133 : decode cX12_cannotBe 133 = .ok (.getfield 27, 3) := zDec_at zB_dX12_cannotBe_60 39 rfl
theorem zB_dX12_cannotBe_136 : zDecB cX12_cannotBe [(136, .iload 5, 2), (138, .iaload, 1), (139, .iconst 2, 1), (140, .if_icmp .ge 63, 3), (143, .aload_n 0, 1), (144, .getfield 7, 3), (147, .iload 6, 2), (149, .iconst 1, 1), (150, .iadd, 1), (151, .iaload, 1), (152, .aload_n 0, 1), (153, .getfield 7, 3), (156, .iload_n 2, 1), (157, .iconst 1, 1), (158, .iadd, 1), (159, .iaload, 1), (160, .if_icmp .ne 43, 3), (163, .aload_n 0, 1), (164, .getfield 7, 3), (167, .iload 6, 2), (169, .iconst 2, 1), (170, .iadd, 1), (171, .iaload, 1), (172, .aload_n 0, 1), (173, .getfield 7, 3), (176, .iload_n 2, 1), (177, .iconst 2, 1), (178, .iadd, 1), (179, .iaload, 1), (180, .if_icmp .ne 23, 3), (183, .aload_n 0, 1), (184, .getfield 7, 3), (187, .iload 6, 2), (189, .iaload, 1), (190, .aload_n 0, 1), (191, .getfield 7, 3), (194, .iload_n 2, 1), (195, .iaload, 1), (196, .if_icmp .eq 7, 3), (199, .iconst 1, 1)] = true := by decide +kernel
theorem dX12_cannotBe_136 : decode cX12_cannotBe 136 = .ok (.iload 5, 2) := zDec_at zB_dX12_cannotBe_136 0 rfl
theorem dX12_cannotBe_138 : decode cX12_cannotBe 138 = .ok (.iaload, 1) := zDec_at zB_dX12_cannotBe_136 1 rfl
theorem dX12_cannotBe_139 : decode cX12_cannotBe 139 = .ok (.iconst 2, 1) := zDec_at zB_dX12_cannotBe_136 2 rfl
theorem dX12_cannotBe_140 : decode cX12_cannotBe 140 = .ok (.if_icmp .ge 63, 3) := zDec_at zB_dX12_cannotBe_136 3 rfl
theorem dX12_cannotBe_143 : decode cX12_cannotBe 143 = .ok (.aload_n 0, 1) := zDec_at zB_dX12_cannotBe_136 4 rfl
theorem dX12_cannotBe_144 : decode cX12_cannotBe 144 = .ok (.getfield 7, 3) := zDec_at zB_dX12_cannotBe_136 5 rfl
theorem dX12_cannotBe_147 : decode cX12_cannotBe 147 = .ok (.iload 6, 2) := zDec_at zB_dX12_cannotBe_136 6 rfl
theorem dX12_cannotBe_149 : decode cX12_cannotBe 149 = .ok (.iconst 1, 1) := zDec_at zB_dX12_cannotBe_136 7 rfl
theorem dX12_cannotBe_150 : decode cX12_cannotBe 150 = .ok (.iadd, 1) := zDec_at zB_dX12_cannotBe_136 8 rfl
theorem dX12_cannotBe_151 : decode cX12_cannotBe 151 = .ok (.iaload, 1) := zDec_at zB_dX12_cannotBe_136 9 rfl
theorem dX12_cannotBe_152 : decode cX12_cannotBe 152 = .ok (.aload_n 0, 1) := zDec_at zB_dX12_cannotBe_136 10 rfl
theorem dX12_cannotBe_153 : decode cX12_cannotBe 153 = .ok (.getfield 7, 3) := zDec_at zB_dX12_cannotBe_136 11 rfl
theorem dX12_cannotBe_156 : decode cX12_cannotBe 156 = .ok (.iload_n 2, 1) := zDec_at zB_dX12_cannotBe_136 12 rfl
theorem dX12_cannotBe_157 : decode cX12_cannotBe 157 = .ok (.iconst 1, 1) := zDec_at zB_dX12_cannotBe_136 13 rfl
theorem dX12_cannotBe_158 : decode cX12_cannotBe 158 = .ok (.iadd, 1) := zDec_at zB_dX12_cannotBe_136 14 rfl
theorem dX12_cannotBe_159 : decode cX12_cannotBe 159 = .ok (.iaload, 1) := zDec_at zB_dX12_cannotBe_136 15 rfl
theorem dX12_cannotBe_160 : decode cX12_cannotBe 160 = .ok (.if_icmp .ne 43, 3) := zDec_at zB_dX12_cannotBe_136 16 rfl
theorem dX12_cannotBe_163 : decode cX12_cannotBe 163 = .ok (.aload_n 0, 1) := zDec_at zB_dX12_cannotBe_136 17 rfl
theorem dX12_cannotBe_164 : decode cX12_cannotBe 164 = .ok (.getfield 7, 3) := zDec_at zB_dX12_cannotBe_136 18 rfl
theorem dX12_cannotBe_167 : decode cX12_cannotBe 167 = .ok (.iload 6, 2) := zDec_at zB_dX12_cannotBe_136 19 rfl
theorem dX12_cannotBe_169 : decode cX12_cannotBe 169 = .ok (.iconst 2, 1) := zDec_at zB_dX12_cannotBe_136 20 rfl
theorem dX12_cannotBe_170 : decode cX12_cannotBe 170 = .ok (.iadd, 1) := zDec_at zB_dX12_cannotBe_136 21 rfl
theorem dX12_cannotBe_171 : decode cX12_cannotBe 171 = .ok (.iaload, 1) := zDec_at zB_dX12_cannotBe_136 22 rfl
theorem dX12_cannotBe_172 : decode cX12_cannotBe 172 = .ok (.aload_n 0, 1) := zDec_at zB_dX12_cannotBe_136 23 rfl
theorem dX12_cannotBe_173 : decode cX12_cannotBe 173 = .ok (.getfield 7, 3) := zDec_at zB_dX12_cannotBe_136 24 rfl
theorem dX12_cannotBe_176 : decode cX12_cannotBe 176 = .ok (.iload_n 2, 1) := zDec_at zB_dX12_cannotBe_136 25 rfl
theorem dX12_cannotBe_177 : decode cX12_cannotBe 177 = .ok (.iconst 2, 1) := zDec_at zB_dX12_cannotBe_136 26 rfl
theorem dX12_cannotBe_178 : decode cX12_cannotBe 178 = .ok (.iadd, 1) := zDec_at zB_dX12_cannotBe_136 27 rfl
theorem dX12_cannotBe_179 : decode cX12_cannotBe 179 = .ok (.iaload, 1) := zDec_at zB_dX12_cannotBe_136 28 rfl
theorem dX12_cannotBe_180 : decode cX12_cannotBe 180 = .ok (.if_icmp .ne 23, 3) := zDec_at zB_dX12_cannotBe_136 29 rfl
theorem dX12_cannotBe_183 : decode cX12_cannotBe 183 = .ok (.aload_n 0, 1) := zDec_at zB_dX12_cannotBe_136 30 rfl
theorem dX12_cannotBe_184 : decode cX12_cannotBe 184 = .ok (.getfield 7, 3) := zDec_at zB_dX12_cannotBe_136 31 rfl
theorem dX12_cannotBe_187 : decode cX12_cannotBe 187 = .ok (.iload 6, 2) := zDec_at zB_dX12_cannotBe_136 32 rfl
theorem dX12_cannotBe_189 : decode cX12_cannotBe 189 = .ok (.iaload, 1) := zDec_at zB_dX12_cannotBe_136 33 rfl
theorem dX12_cannotBe_190 : decode cX12_cannotBe 190 = .ok (.aload_n 0, 1) := zDec_at zB_dX12_cannotBe_136 34 rfl
theorem dX12_cannotBe_191 : decode cX12_cannotBe 191 = .ok (.getfield 7, 3) := zDec_at zB_dX12_cannotBe_136 35 rfl
theorem dX12_cannotBe_194 : decode cX12_cannotBe 194 = .ok (.iload_n 2, 1) := zDec_at zB_dX12_cannotBe_136 36 rfl
theorem dX12_cannotBe_195 : decode cX12_cannotBe 195 = .ok (.iaload, 1) := zDec_at zB_dX12_cannotBe_136 37 rfl
theorem dX12_cannotBe_196 : decode cX12_cannotBe 196 = .ok (.if_icmp .eq 7, 3) := zDec_at zB_dX12_cannotBe_136 38 rfl
theorem dX12_cannotBe_199 : decode cX12_cannotBe 199 = .ok (.iconst 1, 1) := zDec_at zB_dX12_cannotBe_136 39 rfl
theorem zB_dX12_cannotBe_200 : zDecB cX12_cannotBe [(200, .goto 4, 3), (203, .iconst 0, 1), (204, .istore 4, 2), (206, .iinc 5 1, 3), (209, .goto (-110), 3), (212, .iload 4, 2), (214, .ireturn, 1)] = true := by decide +kernel
theorem dX12_cannotBe_200 : decode cX12_cannotBe 200 = .ok (.goto 4, 3) := zDec_at zB_dX12_cannotBe_200 0 rfl
theorem dX12_cannotBe_203 : decode cX12_cannotBe 203 = .ok (.iconst 0, 1) := zDec_at zB_dX12_cannotBe_200 1 rfl
theorem dX12_cannotBe_204 : decode cX12_cannotBe 204 = .ok (.istore 4, 2) := zDec_at zB_dX12_cannotBe_200 2 rfl
theorem dX12_cannotBe_206 : decode cX12_cannotBe 206 = .ok (.iinc 5 1, 3) := zDec_at zB_dX12_cannotBe_200 3 rfl
theorem dX12_cannotBe_209 : decode cX12_cannotBe 209 = .ok (.goto (-110), 3) := zDec_at zB_dX12_cannotBe_200 4 rfl
theorem dX12_cannotBe_212 : decode cX12_cannotBe 212 = .ok (.iload 4, 2) := zDec_at zB_dX12_cannotBe_200 5 rfl
theorem dX12_cannotBe_214 : decode cX12_cannotBe 214 = .ok (.ireturn, 1) := zDec_at zB_dX12_cannotBe_200 6 rfl
theorem zB_dX12_child_0 : zDecB cX12_child [(0, .aload_n 0, 1), (1, .iconst 0, 1), (2, .putfield 92, 3), (5, .iload_n 1, 1), (6, .i2l, 1), (7, .ldc2_w 110, 3), (10, .ldc2_w 112, 3), (13, .invokestatic 100, 3), (16, .ifCond .eq 43, 3), (19, .iload_n 3, 1), (20, .i2l, 1), (21, .ldc2_w 114, 3), (24, .ldc2_w 116, 3), (27, .invokestatic 100, 3), (30, .ifCond .eq 29, 3), (33, .iload 4, 2), (35, .i2l, 1), (36, .lconst 0, 1), (37, .ldc2_w 118, 3), (40, .invokestatic 100, 3), (43, .ifCond .eq 16, 3), (46, .iload 5, 2), (48, .i2l, 1), (49, .lconst 0, 1), (50, .ldc2_w 118, 3), (53, .invokestatic 100, 3), (56, .ifCond .ne 9, 3), (59, .aload_n 0, 1), (60, .iconst (-1), 1), (61, .invokevirtual 106, 3), (64, .ireturn, 1), (65, .aload_n 0, 1), (66, .getfield 7, 3), (69, .iconst 0, 1), (70, .iaload, 1), (71, .bipush 40, 2), (73, .if_icmp .ne 10, 3), (76, .aload_n 0, 1), (77, .bipush (-5), 2), (79, .invokevirtual 106, 3)] = true := by decide +kernel
theorem dX12_child_0 : decode cX12_child 0 = .ok (.aload_n 0, 1) := zDec_at zB_dX12_child_0 0 rfl
theorem dX12_child_1 : decode cX12_child 1 = .ok (.iconst 0, 1) := zDec_at zB_dX12_child_0 1 rfl
theorem dX12_child_2 : decode cX12_child 2 = .ok (.putfield 92, 3) := zDec_at zB_dX12_child_0 2 rfl
theorem dX12_child_5 : decode cX12_child 5 = .ok (.iload_n 1, 1) := zDec_at zB_dX12_child_0 3 rfl
theorem dX12_child_6 : decode cX12_child 6 = .ok (.i2l, 1) := zDec_at zB_dX12_child_0 4 rfl
theorem dX12_child_7 : decode cX12_child 7 = .ok (.ldc2_w 110, 3) := zDec_at zB_dX12_child_0 5 rfl
theorem dX12_child_10 : decode cX12_child 10 = .ok (.ldc2_w 112, 3) := zDec_at zB_dX12_child_0 6 rfl
theorem dX12_child_13 : decode cX12_child 13 = .ok (.invokestatic 100, 3) := zDec_at zB_dX12_child_0 7 rfl
theorem dX12_child_16 : decode cX12_child 16 = .ok (.ifCond .eq 43, 3) := zDec_at zB_dX12_child_0 8 rfl
theorem dX12_child_19 : decode cX12_child 19 = .ok (.iload_n 3, 1) := zDec_at zB_dX12_child_0 9 rfl
theorem dX12_child_20 : decode cX12_child 20 = .ok (.i2l, 1) := zDec_at zB_dX12_child_0 10 rfl
theorem dX12_child_21 : decode cX12_child 21 = .ok (.ldc2_w 114, 3) := zDec_at zB_dX12_child_0 11 rfl
theorem dX12_child_24 : decode cX12_child 24 = .ok (.ldc2_w 116, 3) := zDec_at zB_dX12_child_0 12 rfl
theorem dX12_child_27 : decode cX12_child 27 = .ok (.invokestatic 100, 3) := zDec_at zB_dX12_child_0 13 rfl
theorem dX12_child_30 : decode cX12_child 30 = .ok (.ifCond .eq 29, 3) := zDec_at zB_dX12_child_0 14 rfl
theorem dX12_child_33 : decode cX12_child 33 = .ok (.iload 4, 2) := zDec_at zB_dX12_child_0 15 rfl
theorem dX12_child_35 : decode cX12_child 35 = .ok (.i2l, 1) := zDec_at zB_dX12_child_0 16 rfl
theorem dX12_child_36 : decode cX12_child 36 = .ok (.lconst 0, 1) := zDec_at zB_dX12_child_0 17 rfl
theorem dX12_child_37 : decode cX12_child 37 = .ok (.ldc2_w 118, 3) := zDec_at zB_dX12_child_0 18 rfl
theorem dX12_child_40 : decode cX12_child 40 = .ok (.invokestatic 100, 3) := zDec_at zB_dX12_child_0 19 rfl
theorem dX12_child_43 : decode cX12_child 43 = .ok (.ifCond .eq 16, 3) := zDec_at zB_dX12_child_0 20 rfl
theorem dX12_child_46 : decode cX12_child 46 = .ok (.iload 5, 2) := zDec_at zB_dX12_child_0 21 rfl
theorem dX12_child_48 : decode cX12_child 48 = .ok (.i2l, 1) := zDec_at zB_dX12_child_0 22 rfl
theorem dX12_child_49 : decode cX12_child 49 = .ok (.lconst 0, 1) := zDec_at zB_dX12_child_0 23 rfl
theorem dX12_child_50 : decode cX12_child 50 = .ok (.ldc2_w 118, 3) := zDec_at zB_dX12_child_0 24 rfl
theorem dX12_child_53 : decode cX12_child 53 = .ok (.invokestatic 100, 3) := zDec_at zB_dX12_child_0 25 rfl
theorem dX12_child_56 : decode cX12_child 56 = .ok (.ifCond .ne 9, 3) := zDec_at zB_dX12_child_0 26 rfl
theorem dX12_child_59 : decode cX12_child 59 = .ok (.aload_n 0, 1) := zDec_at zB_dX12_child_0 27 rfl
theorem dX12_child_60 : decode cX12_child 60 = .ok (.iconst (-1), 1) := zDec_at zB_dX12_child_0 28 rfl
theorem dX12_child_61 : decode cX12_child 61 = .ok (.invokevirtual 106, 3) := zDec_at zB_dX12_child_0 29 rfl
theorem dX12_child_64 : decode cX12_child 64 = .ok (.ireturn, 1) := zDec_at zB_dX12_child_0 30 rfl
theorem dX12_child_65 : decode cX12_child 65 = .ok (.aload_n 0, 1) := zDec_at zB_dX12_child_0 31 rfl
theorem dX12_child_66 : decode cX12_child 66 = .ok (.getfield 7, 3) := zDec_at zB_dX12_child_0 32 rfl
theorem dX12_child_69 : decode cX12_child 69 = .ok (.iconst 0, 1) := zDec_at zB_dX12_child_0 33 rfl
theorem dX12_child_70 : decode cX12_child 70 = .ok (.iaload, 1) := zDec_at zB_dX12_child_0 34 rfl
theorem dX12_child_71 : decode cX12_child 71 = .ok (.bipush 40, 2) := zDec_at zB_dX12_child_0 35 rfl
theorem dX12_child_73 : decode cX12_child 73 = .ok (.if_icmp .ne 10, 3) := zDec_at zB_dX12_child_0 36 rfl
theorem dX12_child_76 : decode cX12_child 76 = .ok (.aload_n 0, 1) := zDec_at zB_dX12_child_0 37 rfl
theorem dX12_child_77 : decode cX12_child 77 = .ok (.bipush (-5), 2) := zDec_at zB_dX12_child_0 38 rfl
theorem dX12_child_79 : decode cX12_child 79 = .ok (.invokevirtual 106, 3) := zDec_at zB_dX12_child_0 39 rfl
theorem zB_dX12_child_82 : zDecB cX12_child [(82, .ireturn, 1), (83, .aload_n 0, 1), (84, .getfield 7, 3), (87, .iconst 0, 1), (88, .iaload, 1), (89, .invokestatic 120, 3), (92, .istore 6, 2), (94, .aload_n 0, 1), (95, .iload 6, 2), (97, .iload_n 1, 1), (98, .iload_n 2, 1), (99, .ifCond .eq 7, 3), (102, .iconst 1, 1), (103, .goto 4, 3), (106, .iconst 0, 1), (107, .iload_n 3, 1), (108, .iload 4, 2), (110, .invokevirtual 123, 3), (113, .aload_n 0, 1), (114, .getfield 7, 3), (117, .iload 6, 2), (119, .iconst 4, 1), (120, .iadd, 1), (121, .iload 5, 2), (123, .iastore, 1), (124, .iconst 5, 1), (125, .istore 7, 2), (127, .iload 7, 2), (129, .bipush 17, 2), (131, .if_icmp .ge 31, 3), (134, .aload_n 0, 1), (135, .getfield 7, 3), (138, .iload 6, 2), (140, .iload 7, 2), (142, .iadd, 1), (143, .iload 7, 2), (145, .bipush 13, 2), (147, .if_icmp .ge 7, 3), (150, .iconst (-1), 1), (151, .goto 4, 3)] = true := by decide +kernel
theorem dX12_child_82 : decode cX12_child 82 = .ok (.ireturn, 1) := zDec_at zB_dX12_child_82 0 rfl
theorem dX12_child_83 : decode cX12_child 83 = .ok (.aload_n 0, 1) := zDec_at zB_dX12_child_82 1 rfl
theorem dX12_child_84 : decode cX12_child 84 = .ok (.getfield 7, 3) := zDec_at zB_dX12_child_82 2 rfl
theorem dX12_child_87 : decode cX12_child 87 = .ok (.iconst 0, 1) := zDec_at zB_dX12_child_82 3 rfl
theorem dX12_child_88 : decode cX12_child 88 = .ok (.iaload, 1) := zDec_at zB_dX12_child_82 4 rfl
theorem dX12_child_89 : decode cX12_child 89 = .ok (.invokestatic 120, 3) := zDec_at zB_dX12_child_82 5 rfl
theorem dX12_child_92 : decode cX12_child 92 = .ok (.istore 6, 2) := zDec_at zB_dX12_child_82 6 rfl
theorem dX12_child_94 : decode cX12_child 94 = .ok (.aload_n 0, 1) := zDec_at zB_dX12_child_82 7 rfl
theorem dX12_child_95 : decode cX12_child 95 = .ok (.iload 6, 2) := zDec_at zB_dX12_child_82 8 rfl
theorem dX12_child_97 : decode cX12_child 97 = .ok (.iload_n 1, 1) := zDec_at zB_dX12_child_82 9 rfl
theorem dX12_child_98 : decode cX12_child 98 = .ok (.iload_n 2, 1) := zDec_at zB_dX12_child_82 10 rfl
theorem dX12_child_99 : decode cX12_child 99 = .ok (.ifCond .eq 7, 3) := zDec_at zB_dX12_child_82 11 rfl
theorem dX12_child_102 : decode cX12_child 102 = .ok (.iconst 1, 1) := zDec_at zB_dX12_child_82 12 rfl
theorem dX12_child_103 : decode cX12_child 103 = .ok (.goto 4, 3) := zDec_at zB_dX12_child_82 13 rfl
theorem dX12_child_106 : decode cX12_child 106 = .ok (.iconst 0, 1) := zDec_at zB_dX12_child_82 14 rfl
theorem dX12_child_107 : decode cX12_child 107 = .ok (.iload_n 3, 1) := zDec_at zB_dX12_child_82 15 rfl
theorem dX12_child_108 : decode cX12_child 108 = .ok (.iload 4, 2) := zDec_at zB_dX12_child_82 16 rfl
theorem dX12_child_110 : decode cX12_child 110 = .ok (.invokevirtual 123, 3) := zDec_at zB_dX12_child_82 17 rfl
theorem dX12_child_113 : decode cX12_child 113 = .ok (.aload_n 0, 1) := zDec_at zB_dX12_child_82 18 rfl
theorem dX12_child_114 : decode cX12_child 114 = .ok (.getfield 7, 3) := zDec_at zB_dX12_child_82 19 rfl
theorem dX12_child_117 : decode cX12_child 117 = .ok (.iload 6, 2) := zDec_at zB_dX12_child_82 20 rfl
theorem dX12_child_119 : decode cX12_child 119 = .ok (.iconst 4, 1) := zDec_at zB_dX12_child_82 21 rfl
theorem dX12_child_120 : decode cX12_child 120 = .ok (.iadd, 1) := zDec_at zB_dX12_child_82 22 rfl
theorem dX12_child_121 : decode cX12_child 121 = .ok (.iload 5, 2) := zDec_at zB_dX12_child_82 23 rfl
theorem dX12_child_123 : decode cX12_child 123 = .ok (.iastore, 1) := zDec_at zB_dX12_child_82 24 rfl
theorem dX12_child_124 : decode cX12_child 124 = .ok (.iconst 5, 1) := zDec_at zB_dX12_child_82 25 rfl
theorem dX12_child_125 : decode cX12_child 125 = .ok (.istore 7, 2) := zDec_at zB_dX12_child_82 26 rfl
theorem dX12_child_127 : decode cX12_child 127 = .ok (.iload 7, 2) := zDec_at zB_dX12_child_82 27 rfl
theorem dX12_child_129 : decode cX12_child 129 = .ok (.bipush 17, 2) := zDec_at zB_dX12_child_82 28 rfl
theorem dX12_child_131 : decode cX12_child 131 = .ok (.if_icmp .ge 31, 3) := zDec_at zB_dX12_child_82 29 rfl
theorem dX12_child_134 : decode cX12_child 134 = .ok (.aload_n 0, 1) := zDec_at zB_dX12_child_82 30 rfl
theorem dX12_child_135 : decode cX12_child 135 = .ok (.getfield 7, 3) := zDec_at zB_dX12_child_82 31 rfl
theorem dX12_child_138 : decode cX12_child 138 = .ok (.iload 6, 2) := zDec_at zB_dX12_child_82 32 rfl
theorem dX12_child_140 : decode cX12_child 140 = .ok (.iload 7, 2) := zDec_at zB_dX12_child_82 33 rfl
theorem dX12_child_142 : decode cX12_child 142 = .ok (.iadd, 1) := zDec_at zB_dX12_child_82 34 rfl
theorem dX12_child_143 : decode cX12_child 143 = .ok (.iload 7, 2) := zDec_at zB_dX12_child_82 35 rfl
theorem dX12_child_145 : decode cX12_child 145 = .ok (.bipush 13, 2) := zDec_at zB_dX12_child_82 36 rfl
theorem dX12_child_147 : decode cX12_child 147 = .ok (.if_icmp .ge 7, 3) := zDec_at zB_dX12_child_82 37 rfl
theorem dX12_child_150 : decode cX12_child 150 = .ok (.iconst (-1), 1) := zDec_at zB_dX12_child_82 38 rfl
theorem dX12_child_151 : decode cX12_child 151 = .ok (.goto 4, 3) := zDec_at zB_dX12_child_82 39 rfl
theorem zB_dX12_child_154 : zDecB cX12_child [(154, .iconst 0, 1), (155, .iastore, 1), (156, .iinc 7 1, 3), (159, .goto (-32), 3), (162, .aload_n 0, 1), (163, .getfield 7, 3), (166, .iconst 0, 1), (167, .dup2, 1), (168, .iaload, 1), (169, .iconst 1, 1), (170, .iadd, 1), (171, .iastore, 1), (172, .aload_n 0, 1), (173, .aload_n 0, 1), (174, .getfield 7, 3), (177, .iconst 0, 1), (178, .iaload, 1), (179, .iconst 1, 1), (180, .isub, 1), (181, .invokevirtual 106, 3), (184, .ireturn, 1)] = true := by decide +kernel
theorem dX12_child_154 : decode cX12_child 154 = .ok (.iconst 0, 1) := zDec_at zB_dX12_child_154 0 rfl
theorem dX12_child_155 : decode cX12_child 155 = .ok (.iastore, 1) := zDec_at zB_dX12_child_154 1 rfl
theorem dX12_child_156 : decode cX12_child 156 = .ok (.iinc 7 1, 3) := zDec_at zB_dX12_child_154 2 rfl
theorem dX12_child_159 : decode cX12_child 159 = .ok (.goto (-32), 3) := zDec_at zB_dX12_child_154 3 rfl
theorem dX12_child_162 : decode cX12_child 162 = .ok (.aload_n 0, 1) := zDec_at zB_dX12_child_154 4 rfl
theorem dX12_child_163 : decode cX12_child 163 = .ok (.getfield 7, 3) := zDec_at zB_dX12_child_154 5 rfl
theorem dX12_child_166 : decode cX12_child 166 = .ok (.iconst 0, 1) := zDec_at zB_dX12_child_154 6 rfl
theorem dX12_child_167 : decode cX12_child 167 = .ok (.dup2, 1) := zDec_at zB_dX12_child_154 7 rfl
theorem dX12_child_168 : decode cX12_child 168 = .ok (.iaload, 1) := zDec_at zB_dX12_child_154 8 rfl
theorem dX12_child_169 : decode cX12_child 169 = .ok (.iconst 1, 1) := zDec_at zB_dX12_child_154 9 rfl
theorem dX12_child_170 : decode cX12_child 170 = .ok (.iadd, 1) := zDec_at zB_dX12_child_154 10 rfl
theorem dX12_child_171 : decode cX12_child 171 = .ok (.iastore, 1) := zDec_at zB_dX12_child_154 11 rfl
theorem dX12_child_172 : decode cX12_child 172 = .ok (.aload_n 0, 1) := zDec_at zB_dX12_child_154 12 rfl
theorem dX12_child_173 : decode cX12_child 173 = .ok (.aload_n 0, 1) := zDec_at zB_dX12_child_154 13 rfl
theorem dX12_child_174 : decode cX12_child 174 = .ok (.getfield 7, 3) := zDec_at zB_dX12_child_154 14 rfl
theorem dX12_child_177 : decode cX12_child 177 = .ok (.iconst 0, 1) := zDec_at zB_dX12_child_154 15 rfl
theorem dX12_child_178 : decode cX12_child 178 = .ok (.iaload, 1) := zDec_at zB_dX12_child_154 16 rfl
theorem dX12_child_179 : decode cX12_child 179 = .ok (.iconst 1, 1) := zDec_at zB_dX12_child_154 17 rfl
theorem dX12_child_180 : decode cX12_child 180 = .ok (.isub, 1) := zDec_at zB_dX12_child_154 18 rfl
theorem dX12_child_181 : decode cX12_child 181 = .ok (.invokevirtual 106, 3) := zDec_at zB_dX12_child_154 19 rfl
theorem dX12_child_184 : decode cX12_child 184 = .ok (.ireturn, 1) := zDec_at zB_dX12_child_154 20 rfl
theorem zB_dX12_childAt_0 : zDecB cX12_childAt [(0, .bipush 20, 2), (2, .bipush 17, 2), (4, .iload_n 0, 1), (5, .imul, 1), (6, .iadd, 1), (7, .ireturn, 1)] = true := by decide +kernel
theorem dX12_childAt_0 : decode cX12_childAt 0 = .ok (.bipush 20, 2) := zDec_at zB_dX12_childAt_0 0 rfl
theorem dX12_childAt_2 : decode cX12_childAt 2 = .ok (.bipush 17, 2) := zDec_at zB_dX12_childAt_0 1 rfl
theorem dX12_childAt_4 : decode cX12_childAt 4 = .ok (.iload_n 0, 1) := zDec_at zB_dX12_childAt_0 2 rfl
theorem dX12_childAt_5 : decode cX12_childAt 5 = .ok (.imul, 1) := zDec_at zB_dX12_childAt_0 3 rfl
theorem dX12_childAt_6 : decode cX12_childAt 6 = .ok (.iadd, 1) := zDec_at zB_dX12_childAt_0 4 rfl
theorem dX12_childAt_7 : decode cX12_childAt 7 = .ok (.ireturn, 1) := zDec_at zB_dX12_childAt_0 5 rfl
theorem zB_dX12_clauseAt_0 : zDecB cX12_clauseAt [(0, .iload_n 0, 1), (1, .invokestatic 403, 3), (4, .iconst 2, 1), (5, .iadd, 1), (6, .bipush 10, 2), (8, .iload_n 1, 1), (9, .imul, 1), (10, .iadd, 1), (11, .ireturn, 1)] = true := by decide +kernel
theorem dX12_clauseAt_0 : decode cX12_clauseAt 0 = .ok (.iload_n 0, 1) := zDec_at zB_dX12_clauseAt_0 0 rfl
theorem dX12_clauseAt_1 : decode cX12_clauseAt 1 = .ok (.invokestatic 403, 3) := zDec_at zB_dX12_clauseAt_0 1 rfl
theorem dX12_clauseAt_4 : decode cX12_clauseAt 4 = .ok (.iconst 2, 1) := zDec_at zB_dX12_clauseAt_0 2 rfl
theorem dX12_clauseAt_5 : decode cX12_clauseAt 5 = .ok (.iadd, 1) := zDec_at zB_dX12_clauseAt_0 3 rfl
theorem dX12_clauseAt_6 : decode cX12_clauseAt 6 = .ok (.bipush 10, 2) := zDec_at zB_dX12_clauseAt_0 4 rfl
theorem dX12_clauseAt_8 : decode cX12_clauseAt 8 = .ok (.iload_n 1, 1) := zDec_at zB_dX12_clauseAt_0 5 rfl
theorem dX12_clauseAt_9 : decode cX12_clauseAt 9 = .ok (.imul, 1) := zDec_at zB_dX12_clauseAt_0 6 rfl
theorem dX12_clauseAt_10 : decode cX12_clauseAt 10 = .ok (.iadd, 1) := zDec_at zB_dX12_clauseAt_0 7 rfl
theorem dX12_clauseAt_11 : decode cX12_clauseAt 11 = .ok (.ireturn, 1) := zDec_at zB_dX12_clauseAt_0 8 rfl
theorem zB_dX12_comes_0 : zDecB cX12_comes [(0, .aload_n 0, 1), (1, .iconst 0, 1), (2, .putfield 92, 3), (5, .iload_n 3, 1), (6, .invokestatic 127, 3), (9, .ifCond .ne 9, 3), (12, .aload_n 0, 1), (13, .iconst (-1), 1), (14, .invokevirtual 106, 3), (17, .ireturn, 1), (18, .aload_n 0, 1), (19, .iload_n 1, 1), (20, .invokevirtual 138, 3), (23, .ifCond .eq 11, 3), (26, .aload_n 0, 1), (27, .iload_n 2, 1), (28, .invokevirtual 131, 3), (31, .ifCond .ne 10, 3), (34, .aload_n 0, 1), (35, .bipush (-2), 2), (37, .invokevirtual 106, 3), (40, .ireturn, 1), (41, .iconst 0, 1), (42, .istore 4, 2), (44, .iload 4, 2), (46, .aload_n 0, 1), (47, .getfield 7, 3), (50, .iconst 2, 1), (51, .iaload, 1), (52, .if_icmp .ge 73, 3), (55, .sipush 2700, 3), (58, .iconst 5, 1), (59, .iload 4, 2), (61, .imul, 1), (62, .iadd, 1), (63, .istore 5, 2), (65, .aload_n 0, 1), (66, .getfield 7, 3), (69, .iload 5, 2), (71, .iaload, 1)] = true := by decide +kernel
theorem dX12_comes_0 : decode cX12_comes 0 = .ok (.aload_n 0, 1) := zDec_at zB_dX12_comes_0 0 rfl
theorem dX12_comes_1 : decode cX12_comes 1 = .ok (.iconst 0, 1) := zDec_at zB_dX12_comes_0 1 rfl
theorem dX12_comes_2 : decode cX12_comes 2 = .ok (.putfield 92, 3) := zDec_at zB_dX12_comes_0 2 rfl
theorem dX12_comes_5 : decode cX12_comes 5 = .ok (.iload_n 3, 1) := zDec_at zB_dX12_comes_0 3 rfl
theorem dX12_comes_6 : decode cX12_comes 6 = .ok (.invokestatic 127, 3) := zDec_at zB_dX12_comes_0 4 rfl
theorem dX12_comes_9 : decode cX12_comes 9 = .ok (.ifCond .ne 9, 3) := zDec_at zB_dX12_comes_0 5 rfl
theorem dX12_comes_12 : decode cX12_comes 12 = .ok (.aload_n 0, 1) := zDec_at zB_dX12_comes_0 6 rfl
theorem dX12_comes_13 : decode cX12_comes 13 = .ok (.iconst (-1), 1) := zDec_at zB_dX12_comes_0 7 rfl
theorem dX12_comes_14 : decode cX12_comes 14 = .ok (.invokevirtual 106, 3) := zDec_at zB_dX12_comes_0 8 rfl
theorem dX12_comes_17 : decode cX12_comes 17 = .ok (.ireturn, 1) := zDec_at zB_dX12_comes_0 9 rfl
theorem dX12_comes_18 : decode cX12_comes 18 = .ok (.aload_n 0, 1) := zDec_at zB_dX12_comes_0 10 rfl
theorem dX12_comes_19 : decode cX12_comes 19 = .ok (.iload_n 1, 1) := zDec_at zB_dX12_comes_0 11 rfl
theorem dX12_comes_20 : decode cX12_comes 20 = .ok (.invokevirtual 138, 3) := zDec_at zB_dX12_comes_0 12 rfl
theorem dX12_comes_23 : decode cX12_comes 23 = .ok (.ifCond .eq 11, 3) := zDec_at zB_dX12_comes_0 13 rfl
theorem dX12_comes_26 : decode cX12_comes 26 = .ok (.aload_n 0, 1) := zDec_at zB_dX12_comes_0 14 rfl
theorem dX12_comes_27 : decode cX12_comes 27 = .ok (.iload_n 2, 1) := zDec_at zB_dX12_comes_0 15 rfl
theorem dX12_comes_28 : decode cX12_comes 28 = .ok (.invokevirtual 131, 3) := zDec_at zB_dX12_comes_0 16 rfl
theorem dX12_comes_31 : decode cX12_comes 31 = .ok (.ifCond .ne 10, 3) := zDec_at zB_dX12_comes_0 17 rfl
theorem dX12_comes_34 : decode cX12_comes 34 = .ok (.aload_n 0, 1) := zDec_at zB_dX12_comes_0 18 rfl
theorem dX12_comes_35 : decode cX12_comes 35 = .ok (.bipush (-2), 2) := zDec_at zB_dX12_comes_0 19 rfl
theorem dX12_comes_37 : decode cX12_comes 37 = .ok (.invokevirtual 106, 3) := zDec_at zB_dX12_comes_0 20 rfl
theorem dX12_comes_40 : decode cX12_comes 40 = .ok (.ireturn, 1) := zDec_at zB_dX12_comes_0 21 rfl
theorem dX12_comes_41 : decode cX12_comes 41 = .ok (.iconst 0, 1) := zDec_at zB_dX12_comes_0 22 rfl
theorem dX12_comes_42 : decode cX12_comes 42 = .ok (.istore 4, 2) := zDec_at zB_dX12_comes_0 23 rfl
theorem dX12_comes_44 : decode cX12_comes 44 = .ok (.iload 4, 2) := zDec_at zB_dX12_comes_0 24 rfl
theorem dX12_comes_46 : decode cX12_comes 46 = .ok (.aload_n 0, 1) := zDec_at zB_dX12_comes_0 25 rfl
theorem dX12_comes_47 : decode cX12_comes 47 = .ok (.getfield 7, 3) := zDec_at zB_dX12_comes_0 26 rfl
theorem dX12_comes_50 : decode cX12_comes 50 = .ok (.iconst 2, 1) := zDec_at zB_dX12_comes_0 27 rfl
theorem dX12_comes_51 : decode cX12_comes 51 = .ok (.iaload, 1) := zDec_at zB_dX12_comes_0 28 rfl
theorem dX12_comes_52 : decode cX12_comes 52 = .ok (.if_icmp .ge 73, 3) := zDec_at zB_dX12_comes_0 29 rfl
theorem dX12_comes_55 : decode cX12_comes 55 = .ok (.sipush 2700, 3) := zDec_at zB_dX12_comes_0 30 rfl
theorem dX12_comes_58 : decode cX12_comes 58 = .ok (.iconst 5, 1) := zDec_at zB_dX12_comes_0 31 rfl
theorem dX12_comes_59 : decode cX12_comes 59 = .ok (.iload 4, 2) := zDec_at zB_dX12_comes_0 32 rfl
theorem dX12_comes_61 : decode cX12_comes 61 = .ok (.imul, 1) := zDec_at zB_dX12_comes_0 33 rfl
theorem dX12_comes_62 : decode cX12_comes 62 = .ok (.iadd, 1) := zDec_at zB_dX12_comes_0 34 rfl
theorem dX12_comes_63 : decode cX12_comes 63 = .ok (.istore 5, 2) := zDec_at zB_dX12_comes_0 35 rfl
theorem dX12_comes_65 : decode cX12_comes 65 = .ok (.aload_n 0, 1) := zDec_at zB_dX12_comes_0 36 rfl
theorem dX12_comes_66 : decode cX12_comes 66 = .ok (.getfield 7, 3) := zDec_at zB_dX12_comes_0 37 rfl
theorem dX12_comes_69 : decode cX12_comes 69 = .ok (.iload 5, 2) := zDec_at zB_dX12_comes_0 38 rfl
theorem dX12_comes_71 : decode cX12_comes 71 = .ok (.iaload, 1) := zDec_at zB_dX12_comes_0 39 rfl
theorem zB_dX12_comes_72 : zDecB cX12_comes [(72, .iload_n 1, 1), (73, .if_icmp .ne 46, 3), (76, .aload_n 0, 1), (77, .getfield 7, 3), (80, .iload 5, 2), (82, .iconst 1, 1), (83, .iadd, 1), (84, .iaload, 1), (85, .iload_n 2, 1), (86, .if_icmp .ne 33, 3), (89, .aload_n 0, 1), (90, .iload 4, 2), (92, .iload_n 3, 1), (93, .invokevirtual 134, 3), (96, .ifCond .ne 16, 3), (99, .aload_n 0, 1), (100, .getfield 7, 3), (103, .iload 5, 2), (105, .iconst 2, 1), (106, .iadd, 1), (107, .iaload, 1), (108, .iload_n 3, 1), (109, .if_icmp .lt 10, 3), (112, .aload_n 0, 1), (113, .bipush (-3), 2), (115, .invokevirtual 106, 3), (118, .ireturn, 1), (119, .iinc 4 1, 3), (122, .goto (-78), 3), (125, .aload_n 0, 1), (126, .getfield 7, 3), (129, .iconst 2, 1), (130, .iaload, 1), (131, .bipush 120, 2), (133, .if_icmp .ne 10, 3), (136, .aload_n 0, 1), (137, .bipush (-5), 2), (139, .invokevirtual 106, 3), (142, .ireturn, 1), (143, .sipush 2700, 3)] = true := by decide +kernel
theorem dX12_comes_72 : decode cX12_comes 72 = .ok (.iload_n 1, 1) := zDec_at zB_dX12_comes_72 0 rfl
theorem dX12_comes_73 : decode cX12_comes 73 = .ok (.if_icmp .ne 46, 3) := zDec_at zB_dX12_comes_72 1 rfl
theorem dX12_comes_76 : decode cX12_comes 76 = .ok (.aload_n 0, 1) := zDec_at zB_dX12_comes_72 2 rfl
theorem dX12_comes_77 : decode cX12_comes 77 = .ok (.getfield 7, 3) := zDec_at zB_dX12_comes_72 3 rfl
theorem dX12_comes_80 : decode cX12_comes 80 = .ok (.iload 5, 2) := zDec_at zB_dX12_comes_72 4 rfl
theorem dX12_comes_82 : decode cX12_comes 82 = .ok (.iconst 1, 1) := zDec_at zB_dX12_comes_72 5 rfl
theorem dX12_comes_83 : decode cX12_comes 83 = .ok (.iadd, 1) := zDec_at zB_dX12_comes_72 6 rfl
theorem dX12_comes_84 : decode cX12_comes 84 = .ok (.iaload, 1) := zDec_at zB_dX12_comes_72 7 rfl
theorem dX12_comes_85 : decode cX12_comes 85 = .ok (.iload_n 2, 1) := zDec_at zB_dX12_comes_72 8 rfl
theorem dX12_comes_86 : decode cX12_comes 86 = .ok (.if_icmp .ne 33, 3) := zDec_at zB_dX12_comes_72 9 rfl
theorem dX12_comes_89 : decode cX12_comes 89 = .ok (.aload_n 0, 1) := zDec_at zB_dX12_comes_72 10 rfl
theorem dX12_comes_90 : decode cX12_comes 90 = .ok (.iload 4, 2) := zDec_at zB_dX12_comes_72 11 rfl
theorem dX12_comes_92 : decode cX12_comes 92 = .ok (.iload_n 3, 1) := zDec_at zB_dX12_comes_72 12 rfl
theorem dX12_comes_93 : decode cX12_comes 93 = .ok (.invokevirtual 134, 3) := zDec_at zB_dX12_comes_72 13 rfl
theorem dX12_comes_96 : decode cX12_comes 96 = .ok (.ifCond .ne 16, 3) := zDec_at zB_dX12_comes_72 14 rfl
theorem dX12_comes_99 : decode cX12_comes 99 = .ok (.aload_n 0, 1) := zDec_at zB_dX12_comes_72 15 rfl
theorem dX12_comes_100 : decode cX12_comes 100 = .ok (.getfield 7, 3) := zDec_at zB_dX12_comes_72 16 rfl
theorem dX12_comes_103 : decode cX12_comes 103 = .ok (.iload 5, 2) := zDec_at zB_dX12_comes_72 17 rfl
theorem dX12_comes_105 : decode cX12_comes 105 = .ok (.iconst 2, 1) := zDec_at zB_dX12_comes_72 18 rfl
theorem dX12_comes_106 : decode cX12_comes 106 = .ok (.iadd, 1) := zDec_at zB_dX12_comes_72 19 rfl
theorem dX12_comes_107 : decode cX12_comes 107 = .ok (.iaload, 1) := zDec_at zB_dX12_comes_72 20 rfl
theorem dX12_comes_108 : decode cX12_comes 108 = .ok (.iload_n 3, 1) := zDec_at zB_dX12_comes_72 21 rfl
theorem dX12_comes_109 : decode cX12_comes 109 = .ok (.if_icmp .lt 10, 3) := zDec_at zB_dX12_comes_72 22 rfl
theorem dX12_comes_112 : decode cX12_comes 112 = .ok (.aload_n 0, 1) := zDec_at zB_dX12_comes_72 23 rfl
theorem dX12_comes_113 : decode cX12_comes 113 = .ok (.bipush (-3), 2) := zDec_at zB_dX12_comes_72 24 rfl
theorem dX12_comes_115 : decode cX12_comes 115 = .ok (.invokevirtual 106, 3) := zDec_at zB_dX12_comes_72 25 rfl
theorem dX12_comes_118 : decode cX12_comes 118 = .ok (.ireturn, 1) := zDec_at zB_dX12_comes_72 26 rfl
theorem dX12_comes_119 : decode cX12_comes 119 = .ok (.iinc 4 1, 3) := zDec_at zB_dX12_comes_72 27 rfl
theorem dX12_comes_122 : decode cX12_comes 122 = .ok (.goto (-78), 3) := zDec_at zB_dX12_comes_72 28 rfl
theorem dX12_comes_125 : decode cX12_comes 125 = .ok (.aload_n 0, 1) := zDec_at zB_dX12_comes_72 29 rfl
theorem dX12_comes_126 : decode cX12_comes 126 = .ok (.getfield 7, 3) := zDec_at zB_dX12_comes_72 30 rfl
theorem dX12_comes_129 : decode cX12_comes 129 = .ok (.iconst 2, 1) := zDec_at zB_dX12_comes_72 31 rfl
theorem dX12_comes_130 : decode cX12_comes 130 = .ok (.iaload, 1) := zDec_at zB_dX12_comes_72 32 rfl
theorem dX12_comes_131 : decode cX12_comes 131 = .ok (.bipush 120, 2) := zDec_at zB_dX12_comes_72 33 rfl
theorem dX12_comes_133 : decode cX12_comes 133 = .ok (.if_icmp .ne 10, 3) := zDec_at zB_dX12_comes_72 34 rfl
theorem dX12_comes_136 : decode cX12_comes 136 = .ok (.aload_n 0, 1) := zDec_at zB_dX12_comes_72 35 rfl
theorem dX12_comes_137 : decode cX12_comes 137 = .ok (.bipush (-5), 2) := zDec_at zB_dX12_comes_72 36 rfl
theorem dX12_comes_139 : decode cX12_comes 139 = .ok (.invokevirtual 106, 3) := zDec_at zB_dX12_comes_72 37 rfl
theorem dX12_comes_142 : decode cX12_comes 142 = .ok (.ireturn, 1) := zDec_at zB_dX12_comes_72 38 rfl
theorem dX12_comes_143 : decode cX12_comes 143 = .ok (.sipush 2700, 3) := zDec_at zB_dX12_comes_72 39 rfl
theorem zB_dX12_comes_146 : zDecB cX12_comes [(146, .iconst 5, 1), (147, .aload_n 0, 1), (148, .getfield 7, 3), (151, .iconst 2, 1), (152, .iaload, 1), (153, .imul, 1), (154, .iadd, 1), (155, .istore 4, 2), (157, .aload_n 0, 1), (158, .iload 4, 2), (160, .iload_n 1, 1), (161, .iload_n 2, 1), (162, .iload_n 3, 1), (163, .iconst (-1), 1), (164, .invokevirtual 123, 3), (167, .aload_n 0, 1), (168, .getfield 7, 3), (171, .iload 4, 2), (173, .iconst 4, 1), (174, .iadd, 1), (175, .iconst (-1), 1), (176, .iastore, 1), (177, .aload_n 0, 1), (178, .getfield 7, 3), (181, .iconst 2, 1), (182, .dup2, 1), (183, .iaload, 1), (184, .iconst 1, 1), (185, .iadd, 1), (186, .iastore, 1), (187, .aload_n 0, 1), (188, .aload_n 0, 1), (189, .getfield 7, 3), (192, .iconst 2, 1), (193, .iaload, 1), (194, .invokevirtual 106, 3), (197, .ireturn, 1)] = true := by decide +kernel
theorem dX12_comes_146 : decode cX12_comes 146 = .ok (.iconst 5, 1) := zDec_at zB_dX12_comes_146 0 rfl
theorem dX12_comes_147 : decode cX12_comes 147 = .ok (.aload_n 0, 1) := zDec_at zB_dX12_comes_146 1 rfl
theorem dX12_comes_148 : decode cX12_comes 148 = .ok (.getfield 7, 3) := zDec_at zB_dX12_comes_146 2 rfl
theorem dX12_comes_151 : decode cX12_comes 151 = .ok (.iconst 2, 1) := zDec_at zB_dX12_comes_146 3 rfl
theorem dX12_comes_152 : decode cX12_comes 152 = .ok (.iaload, 1) := zDec_at zB_dX12_comes_146 4 rfl
theorem dX12_comes_153 : decode cX12_comes 153 = .ok (.imul, 1) := zDec_at zB_dX12_comes_146 5 rfl
theorem dX12_comes_154 : decode cX12_comes 154 = .ok (.iadd, 1) := zDec_at zB_dX12_comes_146 6 rfl
theorem dX12_comes_155 : decode cX12_comes 155 = .ok (.istore 4, 2) := zDec_at zB_dX12_comes_146 7 rfl
theorem dX12_comes_157 : decode cX12_comes 157 = .ok (.aload_n 0, 1) := zDec_at zB_dX12_comes_146 8 rfl
theorem dX12_comes_158 : decode cX12_comes 158 = .ok (.iload 4, 2) := zDec_at zB_dX12_comes_146 9 rfl
theorem dX12_comes_160 : decode cX12_comes 160 = .ok (.iload_n 1, 1) := zDec_at zB_dX12_comes_146 10 rfl
theorem dX12_comes_161 : decode cX12_comes 161 = .ok (.iload_n 2, 1) := zDec_at zB_dX12_comes_146 11 rfl
theorem dX12_comes_162 : decode cX12_comes 162 = .ok (.iload_n 3, 1) := zDec_at zB_dX12_comes_146 12 rfl
theorem dX12_comes_163 : decode cX12_comes 163 = .ok (.iconst (-1), 1) := zDec_at zB_dX12_comes_146 13 rfl
theorem dX12_comes_164 : decode cX12_comes 164 = .ok (.invokevirtual 123, 3) := zDec_at zB_dX12_comes_146 14 rfl
theorem dX12_comes_167 : decode cX12_comes 167 = .ok (.aload_n 0, 1) := zDec_at zB_dX12_comes_146 15 rfl
theorem dX12_comes_168 : decode cX12_comes 168 = .ok (.getfield 7, 3) := zDec_at zB_dX12_comes_146 16 rfl
theorem dX12_comes_171 : decode cX12_comes 171 = .ok (.iload 4, 2) := zDec_at zB_dX12_comes_146 17 rfl
theorem dX12_comes_173 : decode cX12_comes 173 = .ok (.iconst 4, 1) := zDec_at zB_dX12_comes_146 18 rfl
theorem dX12_comes_174 : decode cX12_comes 174 = .ok (.iadd, 1) := zDec_at zB_dX12_comes_146 19 rfl
theorem dX12_comes_175 : decode cX12_comes 175 = .ok (.iconst (-1), 1) := zDec_at zB_dX12_comes_146 20 rfl
theorem dX12_comes_176 : decode cX12_comes 176 = .ok (.iastore, 1) := zDec_at zB_dX12_comes_146 21 rfl
theorem dX12_comes_177 : decode cX12_comes 177 = .ok (.aload_n 0, 1) := zDec_at zB_dX12_comes_146 22 rfl
theorem dX12_comes_178 : decode cX12_comes 178 = .ok (.getfield 7, 3) := zDec_at zB_dX12_comes_146 23 rfl
theorem dX12_comes_181 : decode cX12_comes 181 = .ok (.iconst 2, 1) := zDec_at zB_dX12_comes_146 24 rfl
theorem dX12_comes_182 : decode cX12_comes 182 = .ok (.dup2, 1) := zDec_at zB_dX12_comes_146 25 rfl
theorem dX12_comes_183 : decode cX12_comes 183 = .ok (.iaload, 1) := zDec_at zB_dX12_comes_146 26 rfl
theorem dX12_comes_184 : decode cX12_comes 184 = .ok (.iconst 1, 1) := zDec_at zB_dX12_comes_146 27 rfl
theorem dX12_comes_185 : decode cX12_comes 185 = .ok (.iadd, 1) := zDec_at zB_dX12_comes_146 28 rfl
theorem dX12_comes_186 : decode cX12_comes 186 = .ok (.iastore, 1) := zDec_at zB_dX12_comes_146 29 rfl
theorem dX12_comes_187 : decode cX12_comes 187 = .ok (.aload_n 0, 1) := zDec_at zB_dX12_comes_146 30 rfl
theorem dX12_comes_188 : decode cX12_comes 188 = .ok (.aload_n 0, 1) := zDec_at zB_dX12_comes_146 31 rfl
theorem dX12_comes_189 : decode cX12_comes 189 = .ok (.getfield 7, 3) := zDec_at zB_dX12_comes_146 32 rfl
theorem dX12_comes_192 : decode cX12_comes 192 = .ok (.iconst 2, 1) := zDec_at zB_dX12_comes_146 33 rfl
theorem dX12_comes_193 : decode cX12_comes 193 = .ok (.iaload, 1) := zDec_at zB_dX12_comes_146 34 rfl
theorem dX12_comes_194 : decode cX12_comes 194 = .ok (.invokevirtual 106, 3) := zDec_at zB_dX12_comes_146 35 rfl
theorem dX12_comes_197 : decode cX12_comes 197 = .ok (.ireturn, 1) := zDec_at zB_dX12_comes_146 36 rfl
theorem zB_dX12_common_0 : zDecB cX12_common [(0, .lload_n 0, 1), (1, .lstore 4, 2), (3, .lload_n 2, 1), (4, .lstore 6, 2), (6, .lload 6, 2), (8, .lconst 0, 1), (9, .lcmp, 1), (10, .ifCond .eq 21, 3), (13, .lload 4, 2), (15, .lload 6, 2), (17, .lrem, 1), (18, .lstore 8, 2), (20, .lload 6, 2), (22, .lstore 4, 2), (24, .lload 8, 2), (26, .lstore 6, 2), (28, .goto (-22), 3), (31, .lload 4, 2), (33, .lreturn, 1)] = true := by decide +kernel
theorem dX12_common_0 : decode cX12_common 0 = .ok (.lload_n 0, 1) := zDec_at zB_dX12_common_0 0 rfl
theorem dX12_common_1 : decode cX12_common 1 = .ok (.lstore 4, 2) := zDec_at zB_dX12_common_0 1 rfl
theorem dX12_common_3 : decode cX12_common 3 = .ok (.lload_n 2, 1) := zDec_at zB_dX12_common_0 2 rfl
theorem dX12_common_4 : decode cX12_common 4 = .ok (.lstore 6, 2) := zDec_at zB_dX12_common_0 3 rfl
theorem dX12_common_6 : decode cX12_common 6 = .ok (.lload 6, 2) := zDec_at zB_dX12_common_0 4 rfl
theorem dX12_common_8 : decode cX12_common 8 = .ok (.lconst 0, 1) := zDec_at zB_dX12_common_0 5 rfl
theorem dX12_common_9 : decode cX12_common 9 = .ok (.lcmp, 1) := zDec_at zB_dX12_common_0 6 rfl
theorem dX12_common_10 : decode cX12_common 10 = .ok (.ifCond .eq 21, 3) := zDec_at zB_dX12_common_0 7 rfl
theorem dX12_common_13 : decode cX12_common 13 = .ok (.lload 4, 2) := zDec_at zB_dX12_common_0 8 rfl
theorem dX12_common_15 : decode cX12_common 15 = .ok (.lload 6, 2) := zDec_at zB_dX12_common_0 9 rfl
theorem dX12_common_17 : decode cX12_common 17 = .ok (.lrem, 1) := zDec_at zB_dX12_common_0 10 rfl
theorem dX12_common_18 : decode cX12_common 18 = .ok (.lstore 8, 2) := zDec_at zB_dX12_common_0 11 rfl
theorem dX12_common_20 : decode cX12_common 20 = .ok (.lload 6, 2) := zDec_at zB_dX12_common_0 12 rfl
theorem dX12_common_22 : decode cX12_common 22 = .ok (.lstore 4, 2) := zDec_at zB_dX12_common_0 13 rfl
theorem dX12_common_24 : decode cX12_common 24 = .ok (.lload 8, 2) := zDec_at zB_dX12_common_0 14 rfl
theorem dX12_common_26 : decode cX12_common 26 = .ok (.lstore 6, 2) := zDec_at zB_dX12_common_0 15 rfl
theorem dX12_common_28 : decode cX12_common 28 = .ok (.goto (-22), 3) := zDec_at zB_dX12_common_0 16 rfl
theorem dX12_common_31 : decode cX12_common 31 = .ok (.lload 4, 2) := zDec_at zB_dX12_common_0 17 rfl
theorem dX12_common_33 : decode cX12_common 33 = .ok (.lreturn, 1) := zDec_at zB_dX12_common_0 18 rfl
theorem zB_dX12_count_0 : zDecB cX12_count [(0, .aload_n 0, 1), (1, .iconst 0, 1), (2, .putfield 92, 3), (5, .iload_n 1, 1), (6, .tableswitch 125 0 9 #[54, 61, 68, 75, 82, 89, 96, 104, 112, 120], 54), (60, .aload_n 0, 1), (61, .getfield 7, 3), (64, .iconst 0, 1), (65, .iaload, 1), (66, .ireturn, 1), (67, .aload_n 0, 1), (68, .getfield 7, 3), (71, .iconst 1, 1), (72, .iaload, 1), (73, .ireturn, 1), (74, .aload_n 0, 1), (75, .getfield 7, 3), (78, .iconst 2, 1), (79, .iaload, 1), (80, .ireturn, 1), (81, .aload_n 0, 1), (82, .getfield 7, 3), (85, .iconst 3, 1), (86, .iaload, 1), (87, .ireturn, 1), (88, .aload_n 0, 1), (89, .getfield 7, 3), (92, .iconst 4, 1), (93, .iaload, 1), (94, .ireturn, 1), (95, .aload_n 0, 1), (96, .getfield 7, 3), (99, .iconst 5, 1), (100, .iaload, 1), (101, .ireturn, 1), (102, .aload_n 0, 1), (103, .getfield 7, 3), (106, .bipush 6, 2), (108, .iaload, 1), (109, .ireturn, 1)] = true := by decide +kernel
theorem dX12_count_0 : decode cX12_count 0 = .ok (.aload_n 0, 1) := zDec_at zB_dX12_count_0 0 rfl
theorem dX12_count_1 : decode cX12_count 1 = .ok (.iconst 0, 1) := zDec_at zB_dX12_count_0 1 rfl
theorem dX12_count_2 : decode cX12_count 2 = .ok (.putfield 92, 3) := zDec_at zB_dX12_count_0 2 rfl
theorem dX12_count_5 : decode cX12_count 5 = .ok (.iload_n 1, 1) := zDec_at zB_dX12_count_0 3 rfl
theorem dX12_count_6 : decode cX12_count 6 = .ok (.tableswitch 125 0 9 #[54, 61, 68, 75, 82, 89, 96, 104, 112, 120], 54) := zDec_at zB_dX12_count_0 4 rfl
theorem dX12_count_60 : decode cX12_count 60 = .ok (.aload_n 0, 1) := zDec_at zB_dX12_count_0 5 rfl
theorem dX12_count_61 : decode cX12_count 61 = .ok (.getfield 7, 3) := zDec_at zB_dX12_count_0 6 rfl
theorem dX12_count_64 : decode cX12_count 64 = .ok (.iconst 0, 1) := zDec_at zB_dX12_count_0 7 rfl
theorem dX12_count_65 : decode cX12_count 65 = .ok (.iaload, 1) := zDec_at zB_dX12_count_0 8 rfl
theorem dX12_count_66 : decode cX12_count 66 = .ok (.ireturn, 1) := zDec_at zB_dX12_count_0 9 rfl
theorem dX12_count_67 : decode cX12_count 67 = .ok (.aload_n 0, 1) := zDec_at zB_dX12_count_0 10 rfl
theorem dX12_count_68 : decode cX12_count 68 = .ok (.getfield 7, 3) := zDec_at zB_dX12_count_0 11 rfl
theorem dX12_count_71 : decode cX12_count 71 = .ok (.iconst 1, 1) := zDec_at zB_dX12_count_0 12 rfl
theorem dX12_count_72 : decode cX12_count 72 = .ok (.iaload, 1) := zDec_at zB_dX12_count_0 13 rfl
theorem dX12_count_73 : decode cX12_count 73 = .ok (.ireturn, 1) := zDec_at zB_dX12_count_0 14 rfl
theorem dX12_count_74 : decode cX12_count 74 = .ok (.aload_n 0, 1) := zDec_at zB_dX12_count_0 15 rfl
theorem dX12_count_75 : decode cX12_count 75 = .ok (.getfield 7, 3) := zDec_at zB_dX12_count_0 16 rfl
theorem dX12_count_78 : decode cX12_count 78 = .ok (.iconst 2, 1) := zDec_at zB_dX12_count_0 17 rfl
theorem dX12_count_79 : decode cX12_count 79 = .ok (.iaload, 1) := zDec_at zB_dX12_count_0 18 rfl
theorem dX12_count_80 : decode cX12_count 80 = .ok (.ireturn, 1) := zDec_at zB_dX12_count_0 19 rfl
theorem dX12_count_81 : decode cX12_count 81 = .ok (.aload_n 0, 1) := zDec_at zB_dX12_count_0 20 rfl
theorem dX12_count_82 : decode cX12_count 82 = .ok (.getfield 7, 3) := zDec_at zB_dX12_count_0 21 rfl
theorem dX12_count_85 : decode cX12_count 85 = .ok (.iconst 3, 1) := zDec_at zB_dX12_count_0 22 rfl
theorem dX12_count_86 : decode cX12_count 86 = .ok (.iaload, 1) := zDec_at zB_dX12_count_0 23 rfl
theorem dX12_count_87 : decode cX12_count 87 = .ok (.ireturn, 1) := zDec_at zB_dX12_count_0 24 rfl
theorem dX12_count_88 : decode cX12_count 88 = .ok (.aload_n 0, 1) := zDec_at zB_dX12_count_0 25 rfl
theorem dX12_count_89 : decode cX12_count 89 = .ok (.getfield 7, 3) := zDec_at zB_dX12_count_0 26 rfl
theorem dX12_count_92 : decode cX12_count 92 = .ok (.iconst 4, 1) := zDec_at zB_dX12_count_0 27 rfl
theorem dX12_count_93 : decode cX12_count 93 = .ok (.iaload, 1) := zDec_at zB_dX12_count_0 28 rfl
theorem dX12_count_94 : decode cX12_count 94 = .ok (.ireturn, 1) := zDec_at zB_dX12_count_0 29 rfl
theorem dX12_count_95 : decode cX12_count 95 = .ok (.aload_n 0, 1) := zDec_at zB_dX12_count_0 30 rfl
theorem dX12_count_96 : decode cX12_count 96 = .ok (.getfield 7, 3) := zDec_at zB_dX12_count_0 31 rfl
theorem dX12_count_99 : decode cX12_count 99 = .ok (.iconst 5, 1) := zDec_at zB_dX12_count_0 32 rfl
theorem dX12_count_100 : decode cX12_count 100 = .ok (.iaload, 1) := zDec_at zB_dX12_count_0 33 rfl
theorem dX12_count_101 : decode cX12_count 101 = .ok (.ireturn, 1) := zDec_at zB_dX12_count_0 34 rfl
theorem dX12_count_102 : decode cX12_count 102 = .ok (.aload_n 0, 1) := zDec_at zB_dX12_count_0 35 rfl
theorem dX12_count_103 : decode cX12_count 103 = .ok (.getfield 7, 3) := zDec_at zB_dX12_count_0 36 rfl
theorem dX12_count_106 : decode cX12_count 106 = .ok (.bipush 6, 2) := zDec_at zB_dX12_count_0 37 rfl
theorem dX12_count_108 : decode cX12_count 108 = .ok (.iaload, 1) := zDec_at zB_dX12_count_0 38 rfl
theorem dX12_count_109 : decode cX12_count 109 = .ok (.ireturn, 1) := zDec_at zB_dX12_count_0 39 rfl
theorem zB_dX12_count_110 : zDecB cX12_count [(110, .aload_n 0, 1), (111, .getfield 7, 3), (114, .bipush 7, 2), (116, .iaload, 1), (117, .ireturn, 1), (118, .aload_n 0, 1), (119, .getfield 7, 3), (122, .bipush 8, 2), (124, .iaload, 1), (125, .ireturn, 1), (126, .aload_n 0, 1), (127, .getfield 193, 3), (130, .ireturn, 1), (131, .iconst (-1), 1), (132, .ireturn, 1)] = true := by decide +kernel
theorem dX12_count_110 : decode cX12_count 110 = .ok (.aload_n 0, 1) := zDec_at zB_dX12_count_110 0 rfl
theorem dX12_count_111 : decode cX12_count 111 = .ok (.getfield 7, 3) := zDec_at zB_dX12_count_110 1 rfl
theorem dX12_count_114 : decode cX12_count 114 = .ok (.bipush 7, 2) := zDec_at zB_dX12_count_110 2 rfl
theorem dX12_count_116 : decode cX12_count 116 = .ok (.iaload, 1) := zDec_at zB_dX12_count_110 3 rfl
theorem dX12_count_117 : decode cX12_count 117 = .ok (.ireturn, 1) := zDec_at zB_dX12_count_110 4 rfl
theorem dX12_count_118 : decode cX12_count 118 = .ok (.aload_n 0, 1) := zDec_at zB_dX12_count_110 5 rfl
theorem dX12_count_119 : decode cX12_count 119 = .ok (.getfield 7, 3) := zDec_at zB_dX12_count_110 6 rfl
theorem dX12_count_122 : decode cX12_count 122 = .ok (.bipush 8, 2) := zDec_at zB_dX12_count_110 7 rfl
theorem dX12_count_124 : decode cX12_count 124 = .ok (.iaload, 1) := zDec_at zB_dX12_count_110 8 rfl
theorem dX12_count_125 : decode cX12_count 125 = .ok (.ireturn, 1) := zDec_at zB_dX12_count_110 9 rfl
theorem dX12_count_126 : decode cX12_count 126 = .ok (.aload_n 0, 1) := zDec_at zB_dX12_count_110 10 rfl
theorem dX12_count_127 : decode cX12_count 127 = .ok (.getfield 193, 3) := zDec_at zB_dX12_count_110 11 rfl
theorem dX12_count_130 : decode cX12_count 130 = .ok (.ireturn, 1) := zDec_at zB_dX12_count_110 12 rfl
theorem dX12_count_131 : decode cX12_count 131 = .ok (.iconst (-1), 1) := zDec_at zB_dX12_count_110 13 rfl
theorem dX12_count_132 : decode cX12_count 132 = .ok (.ireturn, 1) := zDec_at zB_dX12_count_110 14 rfl
theorem zB_dX12_countsIn_0 : zDecB cX12_countsIn [(0, .iconst (-1), 1), (1, .istore 4, 2), (3, .iconst 0, 1), (4, .istore 5, 2), (6, .iload 5, 2), (8, .aload_n 0, 1), (9, .getfield 7, 3), (12, .iconst 3, 1), (13, .iaload, 1), (14, .if_icmp .ge 72, 3), (17, .iload 5, 2), (19, .invokestatic 155, 3), (22, .istore 6, 2), (24, .aload_n 0, 1), (25, .getfield 21, 3), (28, .iload 5, 2), (30, .baload, 1), (31, .ifCond .eq 45, 3), (34, .aload_n 0, 1), (35, .getfield 7, 3), (38, .iload 6, 2), (40, .iaload, 1), (41, .iload_n 1, 1), (42, .if_icmp .ne 34, 3), (45, .aload_n 0, 1), (46, .getfield 7, 3), (49, .iload 6, 2), (51, .iconst 1, 1), (52, .iadd, 1), (53, .iaload, 1), (54, .iload_n 2, 1), (55, .if_icmp .ne 21, 3), (58, .aload_n 0, 1), (59, .getfield 7, 3), (62, .iload 6, 2), (64, .iconst 2, 1), (65, .iadd, 1), (66, .iaload, 1), (67, .iload_n 3, 1), (68, .if_icmp .ne 8, 3)] = true := by decide +kernel
theorem dX12_countsIn_0 : decode cX12_countsIn 0 = .ok (.iconst (-1), 1) := zDec_at zB_dX12_countsIn_0 0 rfl
theorem dX12_countsIn_1 : decode cX12_countsIn 1 = .ok (.istore 4, 2) := zDec_at zB_dX12_countsIn_0 1 rfl
theorem dX12_countsIn_3 : decode cX12_countsIn 3 = .ok (.iconst 0, 1) := zDec_at zB_dX12_countsIn_0 2 rfl
theorem dX12_countsIn_4 : decode cX12_countsIn 4 = .ok (.istore 5, 2) := zDec_at zB_dX12_countsIn_0 3 rfl
theorem dX12_countsIn_6 : decode cX12_countsIn 6 = .ok (.iload 5, 2) := zDec_at zB_dX12_countsIn_0 4 rfl
theorem dX12_countsIn_8 : decode cX12_countsIn 8 = .ok (.aload_n 0, 1) := zDec_at zB_dX12_countsIn_0 5 rfl
theorem dX12_countsIn_9 : decode cX12_countsIn 9 = .ok (.getfield 7, 3) := zDec_at zB_dX12_countsIn_0 6 rfl
theorem dX12_countsIn_12 : decode cX12_countsIn 12 = .ok (.iconst 3, 1) := zDec_at zB_dX12_countsIn_0 7 rfl
theorem dX12_countsIn_13 : decode cX12_countsIn 13 = .ok (.iaload, 1) := zDec_at zB_dX12_countsIn_0 8 rfl
theorem dX12_countsIn_14 : decode cX12_countsIn 14 = .ok (.if_icmp .ge 72, 3) := zDec_at zB_dX12_countsIn_0 9 rfl
theorem dX12_countsIn_17 : decode cX12_countsIn 17 = .ok (.iload 5, 2) := zDec_at zB_dX12_countsIn_0 10 rfl
theorem dX12_countsIn_19 : decode cX12_countsIn 19 = .ok (.invokestatic 155, 3) := zDec_at zB_dX12_countsIn_0 11 rfl
theorem dX12_countsIn_22 : decode cX12_countsIn 22 = .ok (.istore 6, 2) := zDec_at zB_dX12_countsIn_0 12 rfl
theorem dX12_countsIn_24 : decode cX12_countsIn 24 = .ok (.aload_n 0, 1) := zDec_at zB_dX12_countsIn_0 13 rfl
theorem dX12_countsIn_25 : decode cX12_countsIn 25 = .ok (.getfield 21, 3) := zDec_at zB_dX12_countsIn_0 14 rfl
theorem dX12_countsIn_28 : decode cX12_countsIn 28 = .ok (.iload 5, 2) := zDec_at zB_dX12_countsIn_0 15 rfl
theorem dX12_countsIn_30 : decode cX12_countsIn 30 = .ok (.baload, 1) := zDec_at zB_dX12_countsIn_0 16 rfl
theorem dX12_countsIn_31 : decode cX12_countsIn 31 = .ok (.ifCond .eq 45, 3) := zDec_at zB_dX12_countsIn_0 17 rfl
theorem dX12_countsIn_34 : decode cX12_countsIn 34 = .ok (.aload_n 0, 1) := zDec_at zB_dX12_countsIn_0 18 rfl
theorem dX12_countsIn_35 : decode cX12_countsIn 35 = .ok (.getfield 7, 3) := zDec_at zB_dX12_countsIn_0 19 rfl
theorem dX12_countsIn_38 : decode cX12_countsIn 38 = .ok (.iload 6, 2) := zDec_at zB_dX12_countsIn_0 20 rfl
theorem dX12_countsIn_40 : decode cX12_countsIn 40 = .ok (.iaload, 1) := zDec_at zB_dX12_countsIn_0 21 rfl
theorem dX12_countsIn_41 : decode cX12_countsIn 41 = .ok (.iload_n 1, 1) := zDec_at zB_dX12_countsIn_0 22 rfl
theorem dX12_countsIn_42 : decode cX12_countsIn 42 = .ok (.if_icmp .ne 34, 3) := zDec_at zB_dX12_countsIn_0 23 rfl
theorem dX12_countsIn_45 : decode cX12_countsIn 45 = .ok (.aload_n 0, 1) := zDec_at zB_dX12_countsIn_0 24 rfl
theorem dX12_countsIn_46 : decode cX12_countsIn 46 = .ok (.getfield 7, 3) := zDec_at zB_dX12_countsIn_0 25 rfl
theorem dX12_countsIn_49 : decode cX12_countsIn 49 = .ok (.iload 6, 2) := zDec_at zB_dX12_countsIn_0 26 rfl
theorem dX12_countsIn_51 : decode cX12_countsIn 51 = .ok (.iconst 1, 1) := zDec_at zB_dX12_countsIn_0 27 rfl
theorem dX12_countsIn_52 : decode cX12_countsIn 52 = .ok (.iadd, 1) := zDec_at zB_dX12_countsIn_0 28 rfl
theorem dX12_countsIn_53 : decode cX12_countsIn 53 = .ok (.iaload, 1) := zDec_at zB_dX12_countsIn_0 29 rfl
theorem dX12_countsIn_54 : decode cX12_countsIn 54 = .ok (.iload_n 2, 1) := zDec_at zB_dX12_countsIn_0 30 rfl
theorem dX12_countsIn_55 : decode cX12_countsIn 55 = .ok (.if_icmp .ne 21, 3) := zDec_at zB_dX12_countsIn_0 31 rfl
theorem dX12_countsIn_58 : decode cX12_countsIn 58 = .ok (.aload_n 0, 1) := zDec_at zB_dX12_countsIn_0 32 rfl
theorem dX12_countsIn_59 : decode cX12_countsIn 59 = .ok (.getfield 7, 3) := zDec_at zB_dX12_countsIn_0 33 rfl
theorem dX12_countsIn_62 : decode cX12_countsIn 62 = .ok (.iload 6, 2) := zDec_at zB_dX12_countsIn_0 34 rfl
theorem dX12_countsIn_64 : decode cX12_countsIn 64 = .ok (.iconst 2, 1) := zDec_at zB_dX12_countsIn_0 35 rfl
theorem dX12_countsIn_65 : decode cX12_countsIn 65 = .ok (.iadd, 1) := zDec_at zB_dX12_countsIn_0 36 rfl
theorem dX12_countsIn_66 : decode cX12_countsIn 66 = .ok (.iaload, 1) := zDec_at zB_dX12_countsIn_0 37 rfl
theorem dX12_countsIn_67 : decode cX12_countsIn 67 = .ok (.iload_n 3, 1) := zDec_at zB_dX12_countsIn_0 38 rfl
theorem dX12_countsIn_68 : decode cX12_countsIn 68 = .ok (.if_icmp .ne 8, 3) := zDec_at zB_dX12_countsIn_0 39 rfl
theorem zB_dX12_countsIn_71 : zDecB cX12_countsIn [(71, .iload 5, 2), (73, .goto 5, 3), (76, .iload 4, 2), (78, .istore 4, 2), (80, .iinc 5 1, 3), (83, .goto (-77), 3), (86, .iload 4, 2), (88, .ireturn, 1)] = true := by decide +kernel
theorem dX12_countsIn_71 : decode cX12_countsIn 71 = .ok (.iload 5, 2) := zDec_at zB_dX12_countsIn_71 0 rfl
theorem dX12_countsIn_73 : decode cX12_countsIn 73 = .ok (.goto 5, 3) := zDec_at zB_dX12_countsIn_71 1 rfl
theorem dX12_countsIn_76 : decode cX12_countsIn 76 = .ok (.iload 4, 2) := zDec_at zB_dX12_countsIn_71 2 rfl
theorem dX12_countsIn_78 : decode cX12_countsIn 78 = .ok (.istore 4, 2) := zDec_at zB_dX12_countsIn_71 3 rfl
theorem dX12_countsIn_80 : decode cX12_countsIn 80 = .ok (.iinc 5 1, 3) := zDec_at zB_dX12_countsIn_71 4 rfl
theorem dX12_countsIn_83 : decode cX12_countsIn 83 = .ok (.goto (-77), 3) := zDec_at zB_dX12_countsIn_71 5 rfl
theorem dX12_countsIn_86 : decode cX12_countsIn 86 = .ok (.iload 4, 2) := zDec_at zB_dX12_countsIn_71 6 rfl
theorem dX12_countsIn_88 : decode cX12_countsIn 88 = .ok (.ireturn, 1) := zDec_at zB_dX12_countsIn_71 7 rfl
theorem zB_dX12_dip_0 : zDecB cX12_dip [(0, .aload_n 0, 1), (1, .iconst 0, 1), (2, .putfield 92, 3), (5, .aload_n 0, 1), (6, .iload_n 1, 1), (7, .invokevirtual 131, 3), (10, .ifCond .eq 42, 3), (13, .iload_n 3, 1), (14, .invokestatic 145, 3), (17, .ifCond .eq 35, 3), (20, .iload_n 2, 1), (21, .i2l, 1), (22, .lconst 0, 1), (23, .iload_n 3, 1), (24, .i2l, 1), (25, .invokestatic 100, 3), (28, .ifCond .eq 24, 3), (31, .iload 4, 2), (33, .invokestatic 127, 3), (36, .ifCond .eq 16, 3), (39, .iload 5, 2), (41, .i2l, 1), (42, .lconst 0, 1), (43, .ldc2_w 110, 3), (46, .invokestatic 100, 3), (49, .ifCond .ne 5, 3), (52, .iconst (-1), 1), (53, .ireturn, 1), (54, .aload_n 0, 1), (55, .iload 4, 2), (57, .invokevirtual 186, 3), (60, .aload_n 0, 1), (61, .iconst (-1), 1), (62, .iload_n 1, 1), (63, .iload_n 2, 1), (64, .iload_n 3, 1), (65, .invokevirtual 450, 3), (68, .aload_n 0, 1), (69, .iload 5, 2), (71, .invokevirtual 454, 3)] = true := by decide +kernel
theorem dX12_dip_0 : decode cX12_dip 0 = .ok (.aload_n 0, 1) := zDec_at zB_dX12_dip_0 0 rfl
theorem dX12_dip_1 : decode cX12_dip 1 = .ok (.iconst 0, 1) := zDec_at zB_dX12_dip_0 1 rfl
theorem dX12_dip_2 : decode cX12_dip 2 = .ok (.putfield 92, 3) := zDec_at zB_dX12_dip_0 2 rfl
theorem dX12_dip_5 : decode cX12_dip 5 = .ok (.aload_n 0, 1) := zDec_at zB_dX12_dip_0 3 rfl
theorem dX12_dip_6 : decode cX12_dip 6 = .ok (.iload_n 1, 1) := zDec_at zB_dX12_dip_0 4 rfl
theorem dX12_dip_7 : decode cX12_dip 7 = .ok (.invokevirtual 131, 3) := zDec_at zB_dX12_dip_0 5 rfl
theorem dX12_dip_10 : decode cX12_dip 10 = .ok (.ifCond .eq 42, 3) := zDec_at zB_dX12_dip_0 6 rfl
theorem dX12_dip_13 : decode cX12_dip 13 = .ok (.iload_n 3, 1) := zDec_at zB_dX12_dip_0 7 rfl
theorem dX12_dip_14 : decode cX12_dip 14 = .ok (.invokestatic 145, 3) := zDec_at zB_dX12_dip_0 8 rfl
theorem dX12_dip_17 : decode cX12_dip 17 = .ok (.ifCond .eq 35, 3) := zDec_at zB_dX12_dip_0 9 rfl
theorem dX12_dip_20 : decode cX12_dip 20 = .ok (.iload_n 2, 1) := zDec_at zB_dX12_dip_0 10 rfl
theorem dX12_dip_21 : decode cX12_dip 21 = .ok (.i2l, 1) := zDec_at zB_dX12_dip_0 11 rfl
theorem dX12_dip_22 : decode cX12_dip 22 = .ok (.lconst 0, 1) := zDec_at zB_dX12_dip_0 12 rfl
theorem dX12_dip_23 : decode cX12_dip 23 = .ok (.iload_n 3, 1) := zDec_at zB_dX12_dip_0 13 rfl
theorem dX12_dip_24 : decode cX12_dip 24 = .ok (.i2l, 1) := zDec_at zB_dX12_dip_0 14 rfl
theorem dX12_dip_25 : decode cX12_dip 25 = .ok (.invokestatic 100, 3) := zDec_at zB_dX12_dip_0 15 rfl
theorem dX12_dip_28 : decode cX12_dip 28 = .ok (.ifCond .eq 24, 3) := zDec_at zB_dX12_dip_0 16 rfl
theorem dX12_dip_31 : decode cX12_dip 31 = .ok (.iload 4, 2) := zDec_at zB_dX12_dip_0 17 rfl
theorem dX12_dip_33 : decode cX12_dip 33 = .ok (.invokestatic 127, 3) := zDec_at zB_dX12_dip_0 18 rfl
theorem dX12_dip_36 : decode cX12_dip 36 = .ok (.ifCond .eq 16, 3) := zDec_at zB_dX12_dip_0 19 rfl
theorem dX12_dip_39 : decode cX12_dip 39 = .ok (.iload 5, 2) := zDec_at zB_dX12_dip_0 20 rfl
theorem dX12_dip_41 : decode cX12_dip 41 = .ok (.i2l, 1) := zDec_at zB_dX12_dip_0 21 rfl
theorem dX12_dip_42 : decode cX12_dip 42 = .ok (.lconst 0, 1) := zDec_at zB_dX12_dip_0 22 rfl
theorem dX12_dip_43 : decode cX12_dip 43 = .ok (.ldc2_w 110, 3) := zDec_at zB_dX12_dip_0 23 rfl
theorem dX12_dip_46 : decode cX12_dip 46 = .ok (.invokestatic 100, 3) := zDec_at zB_dX12_dip_0 24 rfl
theorem dX12_dip_49 : decode cX12_dip 49 = .ok (.ifCond .ne 5, 3) := zDec_at zB_dX12_dip_0 25 rfl
theorem dX12_dip_52 : decode cX12_dip 52 = .ok (.iconst (-1), 1) := zDec_at zB_dX12_dip_0 26 rfl
theorem dX12_dip_53 : decode cX12_dip 53 = .ok (.ireturn, 1) := zDec_at zB_dX12_dip_0 27 rfl
theorem dX12_dip_54 : decode cX12_dip 54 = .ok (.aload_n 0, 1) := zDec_at zB_dX12_dip_0 28 rfl
theorem dX12_dip_55 : decode cX12_dip 55 = .ok (.iload 4, 2) := zDec_at zB_dX12_dip_0 29 rfl
theorem dX12_dip_57 : decode cX12_dip 57 = .ok (.invokevirtual 186, 3) := zDec_at zB_dX12_dip_0 30 rfl
theorem dX12_dip_60 : decode cX12_dip 60 = .ok (.aload_n 0, 1) := zDec_at zB_dX12_dip_0 31 rfl
theorem dX12_dip_61 : decode cX12_dip 61 = .ok (.iconst (-1), 1) := zDec_at zB_dX12_dip_0 32 rfl
theorem dX12_dip_62 : decode cX12_dip 62 = .ok (.iload_n 1, 1) := zDec_at zB_dX12_dip_0 33 rfl
theorem dX12_dip_63 : decode cX12_dip 63 = .ok (.iload_n 2, 1) := zDec_at zB_dX12_dip_0 34 rfl
theorem dX12_dip_64 : decode cX12_dip 64 = .ok (.iload_n 3, 1) := zDec_at zB_dX12_dip_0 35 rfl
theorem dX12_dip_65 : decode cX12_dip 65 = .ok (.invokevirtual 450, 3) := zDec_at zB_dX12_dip_0 36 rfl
theorem dX12_dip_68 : decode cX12_dip 68 = .ok (.aload_n 0, 1) := zDec_at zB_dX12_dip_0 37 rfl
theorem dX12_dip_69 : decode cX12_dip 69 = .ok (.iload 5, 2) := zDec_at zB_dX12_dip_0 38 rfl
theorem dX12_dip_71 : decode cX12_dip 71 = .ok (.invokevirtual 454, 3) := zDec_at zB_dX12_dip_0 39 rfl
theorem dX12_dip_74 : decode cX12_dip 74 = .ok (.ireturn, 1) := by decide +kernel
theorem zB_dX12_dips_0 : zDecB cX12_dips [(0, .aload_n 0, 1), (1, .iconst 0, 1), (2, .putfield 92, 3), (5, .iload_n 1, 1), (6, .i2l, 1), (7, .lconst 0, 1), (8, .ldc2_w 543, 3), (11, .invokestatic 100, 3), (14, .ifCond .eq 33, 3), (17, .iload_n 2, 1), (18, .invokestatic 127, 3), (21, .ifCond .eq 26, 3), (24, .iload_n 3, 1), (25, .i2l, 1), (26, .lconst 1, 1), (27, .ldc2_w 251, 3), (30, .invokestatic 100, 3), (33, .ifCond .eq 14, 3), (36, .iload 4, 2), (38, .i2l, 1), (39, .lconst 0, 1), (40, .lconst 1, 1), (41, .invokestatic 100, 3), (44, .ifCond .ne 5, 3), (47, .iconst (-1), 1), (48, .ireturn, 1), (49, .aload_n 0, 1), (50, .iload_n 2, 1), (51, .invokevirtual 186, 3), (54, .iconst 0, 1), (55, .istore 5, 2), (57, .lconst 0, 1), (58, .lstore 6, 2), (60, .lconst 0, 1), (61, .lstore 8, 2), (63, .iconst 0, 1), (64, .istore 10, 2), (66, .iload 10, 2), (68, .aload_n 0, 1), (69, .getfield 7, 3)] = true := by decide +kernel
theorem dX12_dips_0 : decode cX12_dips 0 = .ok (.aload_n 0, 1) := zDec_at zB_dX12_dips_0 0 rfl
theorem dX12_dips_1 : decode cX12_dips 1 = .ok (.iconst 0, 1) := zDec_at zB_dX12_dips_0 1 rfl
theorem dX12_dips_2 : decode cX12_dips 2 = .ok (.putfield 92, 3) := zDec_at zB_dX12_dips_0 2 rfl
theorem dX12_dips_5 : decode cX12_dips 5 = .ok (.iload_n 1, 1) := zDec_at zB_dX12_dips_0 3 rfl
theorem dX12_dips_6 : decode cX12_dips 6 = .ok (.i2l, 1) := zDec_at zB_dX12_dips_0 4 rfl
theorem dX12_dips_7 : decode cX12_dips 7 = .ok (.lconst 0, 1) := zDec_at zB_dX12_dips_0 5 rfl
theorem dX12_dips_8 : decode cX12_dips 8 = .ok (.ldc2_w 543, 3) := zDec_at zB_dX12_dips_0 6 rfl
theorem dX12_dips_11 : decode cX12_dips 11 = .ok (.invokestatic 100, 3) := zDec_at zB_dX12_dips_0 7 rfl
theorem dX12_dips_14 : decode cX12_dips 14 = .ok (.ifCond .eq 33, 3) := zDec_at zB_dX12_dips_0 8 rfl
theorem dX12_dips_17 : decode cX12_dips 17 = .ok (.iload_n 2, 1) := zDec_at zB_dX12_dips_0 9 rfl
theorem dX12_dips_18 : decode cX12_dips 18 = .ok (.invokestatic 127, 3) := zDec_at zB_dX12_dips_0 10 rfl
theorem dX12_dips_21 : decode cX12_dips 21 = .ok (.ifCond .eq 26, 3) := zDec_at zB_dX12_dips_0 11 rfl
theorem dX12_dips_24 : decode cX12_dips 24 = .ok (.iload_n 3, 1) := zDec_at zB_dX12_dips_0 12 rfl
theorem dX12_dips_25 : decode cX12_dips 25 = .ok (.i2l, 1) := zDec_at zB_dX12_dips_0 13 rfl
theorem dX12_dips_26 : decode cX12_dips 26 = .ok (.lconst 1, 1) := zDec_at zB_dX12_dips_0 14 rfl
theorem dX12_dips_27 : decode cX12_dips 27 = .ok (.ldc2_w 251, 3) := zDec_at zB_dX12_dips_0 15 rfl
theorem dX12_dips_30 : decode cX12_dips 30 = .ok (.invokestatic 100, 3) := zDec_at zB_dX12_dips_0 16 rfl
theorem dX12_dips_33 : decode cX12_dips 33 = .ok (.ifCond .eq 14, 3) := zDec_at zB_dX12_dips_0 17 rfl
theorem dX12_dips_36 : decode cX12_dips 36 = .ok (.iload 4, 2) := zDec_at zB_dX12_dips_0 18 rfl
theorem dX12_dips_38 : decode cX12_dips 38 = .ok (.i2l, 1) := zDec_at zB_dX12_dips_0 19 rfl
theorem dX12_dips_39 : decode cX12_dips 39 = .ok (.lconst 0, 1) := zDec_at zB_dX12_dips_0 20 rfl
theorem dX12_dips_40 : decode cX12_dips 40 = .ok (.lconst 1, 1) := zDec_at zB_dX12_dips_0 21 rfl
theorem dX12_dips_41 : decode cX12_dips 41 = .ok (.invokestatic 100, 3) := zDec_at zB_dX12_dips_0 22 rfl
theorem dX12_dips_44 : decode cX12_dips 44 = .ok (.ifCond .ne 5, 3) := zDec_at zB_dX12_dips_0 23 rfl
theorem dX12_dips_47 : decode cX12_dips 47 = .ok (.iconst (-1), 1) := zDec_at zB_dX12_dips_0 24 rfl
theorem dX12_dips_48 : decode cX12_dips 48 = .ok (.ireturn, 1) := zDec_at zB_dX12_dips_0 25 rfl
theorem dX12_dips_49 : decode cX12_dips 49 = .ok (.aload_n 0, 1) := zDec_at zB_dX12_dips_0 26 rfl
theorem dX12_dips_50 : decode cX12_dips 50 = .ok (.iload_n 2, 1) := zDec_at zB_dX12_dips_0 27 rfl
theorem dX12_dips_51 : decode cX12_dips 51 = .ok (.invokevirtual 186, 3) := zDec_at zB_dX12_dips_0 28 rfl
theorem dX12_dips_54 : decode cX12_dips 54 = .ok (.iconst 0, 1) := zDec_at zB_dX12_dips_0 29 rfl
theorem dX12_dips_55 : decode cX12_dips 55 = .ok (.istore 5, 2) := zDec_at zB_dX12_dips_0 30 rfl
theorem dX12_dips_57 : decode cX12_dips 57 = .ok (.lconst 0, 1) := zDec_at zB_dX12_dips_0 31 rfl
theorem dX12_dips_58 : decode cX12_dips 58 = .ok (.lstore 6, 2) := zDec_at zB_dX12_dips_0 32 rfl
theorem dX12_dips_60 : decode cX12_dips 60 = .ok (.lconst 0, 1) := zDec_at zB_dX12_dips_0 33 rfl
theorem dX12_dips_61 : decode cX12_dips 61 = .ok (.lstore 8, 2) := zDec_at zB_dX12_dips_0 34 rfl
theorem dX12_dips_63 : decode cX12_dips 63 = .ok (.iconst 0, 1) := zDec_at zB_dX12_dips_0 35 rfl
theorem dX12_dips_64 : decode cX12_dips 64 = .ok (.istore 10, 2) := zDec_at zB_dX12_dips_0 36 rfl
theorem dX12_dips_66 : decode cX12_dips 66 = .ok (.iload 10, 2) := zDec_at zB_dX12_dips_0 37 rfl
theorem dX12_dips_68 : decode cX12_dips 68 = .ok (.aload_n 0, 1) := zDec_at zB_dX12_dips_0 38 rfl
theorem dX12_dips_69 : decode cX12_dips 69 = .ok (.getfield 7, 3) := zDec_at zB_dX12_dips_0 39 rfl
theorem zB_dX12_dips_72 : zDecB cX12_dips [(72, .iconst 1, 1), (73, .iaload, 1), (74, .if_icmp .ge 86, 3), (77, .aload_n 0, 1), (78, .iconst (-1), 1), (79, .iload 10, 2), (81, .bipush 14, 2), (83, .iload_n 1, 1), (84, .imul, 1), (85, .bipush 14, 2), (87, .iload_n 1, 1), (88, .imul, 1), (89, .bipush 13, 2), (91, .iadd, 1), (92, .invokevirtual 450, 3), (95, .aload_n 0, 1), (96, .getfield 83, 3), (99, .iload 10, 2), (101, .aload_n 0, 1), (102, .getfield 440, 3), (105, .iastore, 1), (106, .aload_n 0, 1), (107, .getfield 86, 3), (110, .iload 10, 2), (112, .aload_n 0, 1), (113, .getfield 443, 3), (116, .iastore, 1), (117, .iload 5, 2), (119, .aload_n 0, 1), (120, .getfield 440, 3), (123, .ifCond .le 7, 3), (126, .iconst 1, 1), (127, .goto 4, 3), (130, .iconst 0, 1), (131, .iadd, 1), (132, .istore 5, 2), (134, .lload 6, 2), (136, .aload_n 0, 1), (137, .getfield 440, 3), (140, .i2l, 1)] = true := by decide +kernel
theorem dX12_dips_72 : decode cX12_dips 72 = .ok (.iconst 1, 1) := zDec_at zB_dX12_dips_72 0 rfl
theorem dX12_dips_73 : decode cX12_dips 73 = .ok (.iaload, 1) := zDec_at zB_dX12_dips_72 1 rfl
theorem dX12_dips_74 : decode cX12_dips 74 = .ok (.if_icmp .ge 86, 3) := zDec_at zB_dX12_dips_72 2 rfl
theorem dX12_dips_77 : decode cX12_dips 77 = .ok (.aload_n 0, 1) := zDec_at zB_dX12_dips_72 3 rfl
theorem dX12_dips_78 : decode cX12_dips 78 = .ok (.iconst (-1), 1) := zDec_at zB_dX12_dips_72 4 rfl
theorem dX12_dips_79 : decode cX12_dips 79 = .ok (.iload 10, 2) := zDec_at zB_dX12_dips_72 5 rfl
theorem dX12_dips_81 : decode cX12_dips 81 = .ok (.bipush 14, 2) := zDec_at zB_dX12_dips_72 6 rfl
theorem dX12_dips_83 : decode cX12_dips 83 = .ok (.iload_n 1, 1) := zDec_at zB_dX12_dips_72 7 rfl
theorem dX12_dips_84 : decode cX12_dips 84 = .ok (.imul, 1) := zDec_at zB_dX12_dips_72 8 rfl
theorem dX12_dips_85 : decode cX12_dips 85 = .ok (.bipush 14, 2) := zDec_at zB_dX12_dips_72 9 rfl
theorem dX12_dips_87 : decode cX12_dips 87 = .ok (.iload_n 1, 1) := zDec_at zB_dX12_dips_72 10 rfl
theorem dX12_dips_88 : decode cX12_dips 88 = .ok (.imul, 1) := zDec_at zB_dX12_dips_72 11 rfl
theorem dX12_dips_89 : decode cX12_dips 89 = .ok (.bipush 13, 2) := zDec_at zB_dX12_dips_72 12 rfl
theorem dX12_dips_91 : decode cX12_dips 91 = .ok (.iadd, 1) := zDec_at zB_dX12_dips_72 13 rfl
theorem dX12_dips_92 : decode cX12_dips 92 = .ok (.invokevirtual 450, 3) := zDec_at zB_dX12_dips_72 14 rfl
theorem dX12_dips_95 : decode cX12_dips 95 = .ok (.aload_n 0, 1) := zDec_at zB_dX12_dips_72 15 rfl
theorem dX12_dips_96 : decode cX12_dips 96 = .ok (.getfield 83, 3) := zDec_at zB_dX12_dips_72 16 rfl
theorem dX12_dips_99 : decode cX12_dips 99 = .ok (.iload 10, 2) := zDec_at zB_dX12_dips_72 17 rfl
theorem dX12_dips_101 : decode cX12_dips 101 = .ok (.aload_n 0, 1) := zDec_at zB_dX12_dips_72 18 rfl
theorem dX12_dips_102 : decode cX12_dips 102 = .ok (.getfield 440, 3) := zDec_at zB_dX12_dips_72 19 rfl
theorem dX12_dips_105 : decode cX12_dips 105 = .ok (.iastore, 1) := zDec_at zB_dX12_dips_72 20 rfl
theorem dX12_dips_106 : decode cX12_dips 106 = .ok (.aload_n 0, 1) := zDec_at zB_dX12_dips_72 21 rfl
theorem dX12_dips_107 : decode cX12_dips 107 = .ok (.getfield 86, 3) := zDec_at zB_dX12_dips_72 22 rfl
theorem dX12_dips_110 : decode cX12_dips 110 = .ok (.iload 10, 2) := zDec_at zB_dX12_dips_72 23 rfl
theorem dX12_dips_112 : decode cX12_dips 112 = .ok (.aload_n 0, 1) := zDec_at zB_dX12_dips_72 24 rfl
theorem dX12_dips_113 : decode cX12_dips 113 = .ok (.getfield 443, 3) := zDec_at zB_dX12_dips_72 25 rfl
theorem dX12_dips_116 : decode cX12_dips 116 = .ok (.iastore, 1) := zDec_at zB_dX12_dips_72 26 rfl
theorem dX12_dips_117 : decode cX12_dips 117 = .ok (.iload 5, 2) := zDec_at zB_dX12_dips_72 27 rfl
theorem dX12_dips_119 : decode cX12_dips 119 = .ok (.aload_n 0, 1) := zDec_at zB_dX12_dips_72 28 rfl
theorem dX12_dips_120 : decode cX12_dips 120 = .ok (.getfield 440, 3) := zDec_at zB_dX12_dips_72 29 rfl
theorem dX12_dips_123 : decode cX12_dips 123 = .ok (.ifCond .le 7, 3) := zDec_at zB_dX12_dips_72 30 rfl
theorem dX12_dips_126 : decode cX12_dips 126 = .ok (.iconst 1, 1) := zDec_at zB_dX12_dips_72 31 rfl
theorem dX12_dips_127 : decode cX12_dips 127 = .ok (.goto 4, 3) := zDec_at zB_dX12_dips_72 32 rfl
theorem dX12_dips_130 : decode cX12_dips 130 = .ok (.iconst 0, 1) := zDec_at zB_dX12_dips_72 33 rfl
theorem dX12_dips_131 : decode cX12_dips 131 = .ok (.iadd, 1) := zDec_at zB_dX12_dips_72 34 rfl
theorem dX12_dips_132 : decode cX12_dips 132 = .ok (.istore 5, 2) := zDec_at zB_dX12_dips_72 35 rfl
theorem dX12_dips_134 : decode cX12_dips 134 = .ok (.lload 6, 2) := zDec_at zB_dX12_dips_72 36 rfl
theorem dX12_dips_136 : decode cX12_dips 136 = .ok (.aload_n 0, 1) := zDec_at zB_dX12_dips_72 37 rfl
theorem dX12_dips_137 : decode cX12_dips 137 = .ok (.getfield 440, 3) := zDec_at zB_dX12_dips_72 38 rfl
theorem dX12_dips_140 : decode cX12_dips 140 = .ok (.i2l, 1) := zDec_at zB_dX12_dips_72 39 rfl
theorem zB_dX12_dips_141 : zDecB cX12_dips [(141, .ladd, 1), (142, .lstore 6, 2), (144, .lload 8, 2), (146, .aload_n 0, 1), (147, .getfield 443, 3), (150, .i2l, 1), (151, .ladd, 1), (152, .lstore 8, 2), (154, .iinc 10 1, 3), (157, .goto (-91), 3), (160, .iload 4, 2), (162, .iconst 1, 1), (163, .if_icmp .ne 6, 3), (166, .iload 5, 2), (168, .ireturn, 1), (169, .iconst 0, 1), (170, .istore 10, 2), (172, .iconst 0, 1), (173, .istore 11, 2), (175, .iload 11, 2), (177, .aload_n 0, 1), (178, .getfield 7, 3), (181, .iconst 1, 1), (182, .iaload, 1), (183, .if_icmp .ge 118, 3), (186, .aload_n 0, 1), (187, .getfield 83, 3), (190, .iload 11, 2), (192, .iaload, 1), (193, .i2l, 1), (194, .lstore 12, 2), (196, .aload_n 0, 1), (197, .getfield 86, 3), (200, .iload 11, 2), (202, .iaload, 1), (203, .i2l, 1), (204, .lload 6, 2), (206, .lmul, 1), (207, .lload 12, 2), (209, .lload 8, 2)] = true := by decide +kernel
theorem dX12_dips_141 : decode cX12_dips 141 = .ok (.ladd, 1) := zDec_at zB_dX12_dips_141 0 rfl
theorem dX12_dips_142 : decode cX12_dips 142 = .ok (.lstore 6, 2) := zDec_at zB_dX12_dips_141 1 rfl
theorem dX12_dips_144 : decode cX12_dips 144 = .ok (.lload 8, 2) := zDec_at zB_dX12_dips_141 2 rfl
theorem dX12_dips_146 : decode cX12_dips 146 = .ok (.aload_n 0, 1) := zDec_at zB_dX12_dips_141 3 rfl
theorem dX12_dips_147 : decode cX12_dips 147 = .ok (.getfield 443, 3) := zDec_at zB_dX12_dips_141 4 rfl
theorem dX12_dips_150 : decode cX12_dips 150 = .ok (.i2l, 1) := zDec_at zB_dX12_dips_141 5 rfl
theorem dX12_dips_151 : decode cX12_dips 151 = .ok (.ladd, 1) := zDec_at zB_dX12_dips_141 6 rfl
theorem dX12_dips_152 : decode cX12_dips 152 = .ok (.lstore 8, 2) := zDec_at zB_dX12_dips_141 7 rfl
theorem dX12_dips_154 : decode cX12_dips 154 = .ok (.iinc 10 1, 3) := zDec_at zB_dX12_dips_141 8 rfl
theorem dX12_dips_157 : decode cX12_dips 157 = .ok (.goto (-91), 3) := zDec_at zB_dX12_dips_141 9 rfl
theorem dX12_dips_160 : decode cX12_dips 160 = .ok (.iload 4, 2) := zDec_at zB_dX12_dips_141 10 rfl
theorem dX12_dips_162 : decode cX12_dips 162 = .ok (.iconst 1, 1) := zDec_at zB_dX12_dips_141 11 rfl
theorem dX12_dips_163 : decode cX12_dips 163 = .ok (.if_icmp .ne 6, 3) := zDec_at zB_dX12_dips_141 12 rfl
theorem dX12_dips_166 : decode cX12_dips 166 = .ok (.iload 5, 2) := zDec_at zB_dX12_dips_141 13 rfl
theorem dX12_dips_168 : decode cX12_dips 168 = .ok (.ireturn, 1) := zDec_at zB_dX12_dips_141 14 rfl
theorem dX12_dips_169 : decode cX12_dips 169 = .ok (.iconst 0, 1) := zDec_at zB_dX12_dips_141 15 rfl
theorem dX12_dips_170 : decode cX12_dips 170 = .ok (.istore 10, 2) := zDec_at zB_dX12_dips_141 16 rfl
theorem dX12_dips_172 : decode cX12_dips 172 = .ok (.iconst 0, 1) := zDec_at zB_dX12_dips_141 17 rfl
theorem dX12_dips_173 : decode cX12_dips 173 = .ok (.istore 11, 2) := zDec_at zB_dX12_dips_141 18 rfl
theorem dX12_dips_175 : decode cX12_dips 175 = .ok (.iload 11, 2) := zDec_at zB_dX12_dips_141 19 rfl
theorem dX12_dips_177 : decode cX12_dips 177 = .ok (.aload_n 0, 1) := zDec_at zB_dX12_dips_141 20 rfl
theorem dX12_dips_178 : decode cX12_dips 178 = .ok (.getfield 7, 3) := zDec_at zB_dX12_dips_141 21 rfl
theorem dX12_dips_181 : decode cX12_dips 181 = .ok (.iconst 1, 1) := zDec_at zB_dX12_dips_141 22 rfl
theorem dX12_dips_182 : decode cX12_dips 182 = .ok (.iaload, 1) := zDec_at zB_dX12_dips_141 23 rfl
theorem dX12_dips_183 : decode cX12_dips 183 = .ok (.if_icmp .ge 118, 3) := zDec_at zB_dX12_dips_141 24 rfl
theorem dX12_dips_186 : decode cX12_dips 186 = .ok (.aload_n 0, 1) := zDec_at zB_dX12_dips_141 25 rfl
theorem dX12_dips_187 : decode cX12_dips 187 = .ok (.getfield 83, 3) := zDec_at zB_dX12_dips_141 26 rfl
theorem dX12_dips_190 : decode cX12_dips 190 = .ok (.iload 11, 2) := zDec_at zB_dX12_dips_141 27 rfl
theorem dX12_dips_192 : decode cX12_dips 192 = .ok (.iaload, 1) := zDec_at zB_dX12_dips_141 28 rfl
theorem dX12_dips_193 : decode cX12_dips 193 = .ok (.i2l, 1) := zDec_at zB_dX12_dips_141 29 rfl
theorem dX12_dips_194 : decode cX12_dips 194 = .ok (.lstore 12, 2) := zDec_at zB_dX12_dips_141 30 rfl
theorem dX12_dips_196 : decode cX12_dips 196 = .ok (.aload_n 0, 1) := zDec_at zB_dX12_dips_141 31 rfl
theorem dX12_dips_197 : decode cX12_dips 197 = .ok (.getfield 86, 3) := zDec_at zB_dX12_dips_141 32 rfl
theorem dX12_dips_200 : decode cX12_dips 200 = .ok (.iload 11, 2) := zDec_at zB_dX12_dips_141 33 rfl
theorem dX12_dips_202 : decode cX12_dips 202 = .ok (.iaload, 1) := zDec_at zB_dX12_dips_141 34 rfl
theorem dX12_dips_203 : decode cX12_dips 203 = .ok (.i2l, 1) := zDec_at zB_dX12_dips_141 35 rfl
theorem dX12_dips_204 : decode cX12_dips 204 = .ok (.lload 6, 2) := zDec_at zB_dX12_dips_141 36 rfl
theorem dX12_dips_206 : decode cX12_dips 206 = .ok (.lmul, 1) := zDec_at zB_dX12_dips_141 37 rfl
theorem dX12_dips_207 : decode cX12_dips 207 = .ok (.lload 12, 2) := zDec_at zB_dX12_dips_141 38 rfl
theorem dX12_dips_209 : decode cX12_dips 209 = .ok (.lload 8, 2) := zDec_at zB_dX12_dips_141 39 rfl
theorem zB_dX12_dips_211 : zDecB cX12_dips [(211, .lmul, 1), (212, .lsub, 1), (213, .lstore 14, 2), (215, .lload 12, 2), (217, .lconst 0, 1), (218, .lcmp, 1), (219, .ifCond .le 55, 3), (222, .lload 14, 2), (224, .lconst 0, 1), (225, .lcmp, 1), (226, .ifCond .le 48, 3), (229, .lload 14, 2), (231, .lload 14, 2), (233, .lmul, 1), (234, .lload 6, 2), (236, .lconst 1, 1), (237, .lsub, 1), (238, .lmul, 1), (239, .iload_n 3, 1), (240, .i2l, 1), (241, .iload_n 3, 1), (242, .i2l, 1), (243, .lmul, 1), (244, .iload 5, 2), (246, .i2l, 1), (247, .lmul, 1), (248, .lload 12, 2), (250, .lmul, 1), (251, .lload 8, 2), (253, .lmul, 1), (254, .lload 6, 2), (256, .lload 12, 2), (258, .lsub, 1), (259, .lmul, 1), (260, .lload 6, 2), (262, .lload 8, 2), (264, .lsub, 1), (265, .lmul, 1), (266, .lcmp, 1), (267, .ifCond .le 7, 3)] = true := by decide +kernel
theorem dX12_dips_211 : decode cX12_dips 211 = .ok (.lmul, 1) := zDec_at zB_dX12_dips_211 0 rfl
theorem dX12_dips_212 : decode cX12_dips 212 = .ok (.lsub, 1) := zDec_at zB_dX12_dips_211 1 rfl
theorem dX12_dips_213 : decode cX12_dips 213 = .ok (.lstore 14, 2) := zDec_at zB_dX12_dips_211 2 rfl
theorem dX12_dips_215 : decode cX12_dips 215 = .ok (.lload 12, 2) := zDec_at zB_dX12_dips_211 3 rfl
theorem dX12_dips_217 : decode cX12_dips 217 = .ok (.lconst 0, 1) := zDec_at zB_dX12_dips_211 4 rfl
theorem dX12_dips_218 : decode cX12_dips 218 = .ok (.lcmp, 1) := zDec_at zB_dX12_dips_211 5 rfl
theorem dX12_dips_219 : decode cX12_dips 219 = .ok (.ifCond .le 55, 3) := zDec_at zB_dX12_dips_211 6 rfl
theorem dX12_dips_222 : decode cX12_dips 222 = .ok (.lload 14, 2) := zDec_at zB_dX12_dips_211 7 rfl
theorem dX12_dips_224 : decode cX12_dips 224 = .ok (.lconst 0, 1) := zDec_at zB_dX12_dips_211 8 rfl
theorem dX12_dips_225 : decode cX12_dips 225 = .ok (.lcmp, 1) := zDec_at zB_dX12_dips_211 9 rfl
theorem dX12_dips_226 : decode cX12_dips 226 = .ok (.ifCond .le 48, 3) := zDec_at zB_dX12_dips_211 10 rfl
theorem dX12_dips_229 : decode cX12_dips 229 = .ok (.lload 14, 2) := zDec_at zB_dX12_dips_211 11 rfl
theorem dX12_dips_231 : decode cX12_dips 231 = .ok (.lload 14, 2) := zDec_at zB_dX12_dips_211 12 rfl
theorem dX12_dips_233 : decode cX12_dips 233 = .ok (.lmul, 1) := zDec_at zB_dX12_dips_211 13 rfl
theorem dX12_dips_234 : decode cX12_dips 234 = .ok (.lload 6, 2) := zDec_at zB_dX12_dips_211 14 rfl
theorem dX12_dips_236 : decode cX12_dips 236 = .ok (.lconst 1, 1) := zDec_at zB_dX12_dips_211 15 rfl
theorem dX12_dips_237 : decode cX12_dips 237 = .ok (.lsub, 1) := zDec_at zB_dX12_dips_211 16 rfl
theorem dX12_dips_238 : decode cX12_dips 238 = .ok (.lmul, 1) := zDec_at zB_dX12_dips_211 17 rfl
theorem dX12_dips_239 : decode cX12_dips 239 = .ok (.iload_n 3, 1) := zDec_at zB_dX12_dips_211 18 rfl
theorem dX12_dips_240 : decode cX12_dips 240 = .ok (.i2l, 1) := zDec_at zB_dX12_dips_211 19 rfl
theorem dX12_dips_241 : decode cX12_dips 241 = .ok (.iload_n 3, 1) := zDec_at zB_dX12_dips_211 20 rfl
theorem dX12_dips_242 : decode cX12_dips 242 = .ok (.i2l, 1) := zDec_at zB_dX12_dips_211 21 rfl
theorem dX12_dips_243 : decode cX12_dips 243 = .ok (.lmul, 1) := zDec_at zB_dX12_dips_211 22 rfl
theorem dX12_dips_244 : decode cX12_dips 244 = .ok (.iload 5, 2) := zDec_at zB_dX12_dips_211 23 rfl
theorem dX12_dips_246 : decode cX12_dips 246 = .ok (.i2l, 1) := zDec_at zB_dX12_dips_211 24 rfl
theorem dX12_dips_247 : decode cX12_dips 247 = .ok (.lmul, 1) := zDec_at zB_dX12_dips_211 25 rfl
theorem dX12_dips_248 : decode cX12_dips 248 = .ok (.lload 12, 2) := zDec_at zB_dX12_dips_211 26 rfl
theorem dX12_dips_250 : decode cX12_dips 250 = .ok (.lmul, 1) := zDec_at zB_dX12_dips_211 27 rfl
theorem dX12_dips_251 : decode cX12_dips 251 = .ok (.lload 8, 2) := zDec_at zB_dX12_dips_211 28 rfl
theorem dX12_dips_253 : decode cX12_dips 253 = .ok (.lmul, 1) := zDec_at zB_dX12_dips_211 29 rfl
theorem dX12_dips_254 : decode cX12_dips 254 = .ok (.lload 6, 2) := zDec_at zB_dX12_dips_211 30 rfl
theorem dX12_dips_256 : decode cX12_dips 256 = .ok (.lload 12, 2) := zDec_at zB_dX12_dips_211 31 rfl
theorem dX12_dips_258 : decode cX12_dips 258 = .ok (.lsub, 1) := zDec_at zB_dX12_dips_211 32 rfl
theorem dX12_dips_259 : decode cX12_dips 259 = .ok (.lmul, 1) := zDec_at zB_dX12_dips_211 33 rfl
theorem dX12_dips_260 : decode cX12_dips 260 = .ok (.lload 6, 2) := zDec_at zB_dX12_dips_211 34 rfl
theorem dX12_dips_262 : decode cX12_dips 262 = .ok (.lload 8, 2) := zDec_at zB_dX12_dips_211 35 rfl
theorem dX12_dips_264 : decode cX12_dips 264 = .ok (.lsub, 1) := zDec_at zB_dX12_dips_211 36 rfl
theorem dX12_dips_265 : decode cX12_dips 265 = .ok (.lmul, 1) := zDec_at zB_dX12_dips_211 37 rfl
theorem dX12_dips_266 : decode cX12_dips 266 = .ok (.lcmp, 1) := zDec_at zB_dX12_dips_211 38 rfl
theorem dX12_dips_267 : decode cX12_dips 267 = .ok (.ifCond .le 7, 3) := zDec_at zB_dX12_dips_211 39 rfl
theorem zB_dX12_dips_270 : zDecB cX12_dips [(270, .iconst 1, 1), (271, .goto 4, 3), (274, .iconst 0, 1), (275, .istore 16, 2), (277, .iload 10, 2), (279, .iload 16, 2), (281, .ifCond .eq 10, 3), (284, .iconst 1, 1), (285, .iload 11, 2), (287, .ishl, 1), (288, .goto 4, 3), (291, .iconst 0, 1), (292, .ior, 1), (293, .istore 10, 2), (295, .iinc 11 1, 3), (298, .goto (-123), 3), (301, .iload 10, 2), (303, .ireturn, 1)] = true := by decide +kernel
theorem dX12_dips_270 : decode cX12_dips 270 = .ok (.iconst 1, 1) := zDec_at zB_dX12_dips_270 0 rfl
theorem dX12_dips_271 : decode cX12_dips 271 = .ok (.goto 4, 3) := zDec_at zB_dX12_dips_270 1 rfl
theorem dX12_dips_274 : decode cX12_dips 274 = .ok (.iconst 0, 1) := zDec_at zB_dX12_dips_270 2 rfl
theorem dX12_dips_275 : decode cX12_dips 275 = .ok (.istore 16, 2) := zDec_at zB_dX12_dips_270 3 rfl
theorem dX12_dips_277 : decode cX12_dips 277 = .ok (.iload 10, 2) := zDec_at zB_dX12_dips_270 4 rfl
theorem dX12_dips_279 : decode cX12_dips 279 = .ok (.iload 16, 2) := zDec_at zB_dX12_dips_270 5 rfl
theorem dX12_dips_281 : decode cX12_dips 281 = .ok (.ifCond .eq 10, 3) := zDec_at zB_dX12_dips_270 6 rfl
theorem dX12_dips_284 : decode cX12_dips 284 = .ok (.iconst 1, 1) := zDec_at zB_dX12_dips_270 7 rfl
theorem dX12_dips_285 : decode cX12_dips 285 = .ok (.iload 11, 2) := zDec_at zB_dX12_dips_270 8 rfl
theorem dX12_dips_287 : decode cX12_dips 287 = .ok (.ishl, 1) := zDec_at zB_dX12_dips_270 9 rfl
theorem dX12_dips_288 : decode cX12_dips 288 = .ok (.goto 4, 3) := zDec_at zB_dX12_dips_270 10 rfl
theorem dX12_dips_291 : decode cX12_dips 291 = .ok (.iconst 0, 1) := zDec_at zB_dX12_dips_270 11 rfl
theorem dX12_dips_292 : decode cX12_dips 292 = .ok (.ior, 1) := zDec_at zB_dX12_dips_270 12 rfl
theorem dX12_dips_293 : decode cX12_dips 293 = .ok (.istore 10, 2) := zDec_at zB_dX12_dips_270 13 rfl
theorem dX12_dips_295 : decode cX12_dips 295 = .ok (.iinc 11 1, 3) := zDec_at zB_dX12_dips_270 14 rfl
theorem dX12_dips_298 : decode cX12_dips 298 = .ok (.goto (-123), 3) := zDec_at zB_dX12_dips_270 15 rfl
theorem dX12_dips_301 : decode cX12_dips 301 = .ok (.iload 10, 2) := zDec_at zB_dX12_dips_270 16 rfl
theorem dX12_dips_303 : decode cX12_dips 303 = .ok (.ireturn, 1) := zDec_at zB_dX12_dips_270 17 rfl
theorem zB_dX12_doesStand_0 : zDecB cX12_doesStand [(0, .aload_n 0, 1), (1, .iload_n 3, 1), (2, .invokevirtual 186, 3), (5, .aload_n 0, 1), (6, .iload_n 1, 1), (7, .invokevirtual 463, 3), (10, .iconst 1, 1), (11, .istore 4, 2), (13, .iconst 0, 1), (14, .istore 5, 2), (16, .iload 5, 2), (18, .iload_n 2, 1), (19, .if_icmp .gt 61, 3), (22, .iload 4, 2), (24, .ifCond .eq 56, 3), (27, .aload_n 0, 1), (28, .iload_n 1, 1), (29, .iload 5, 2), (31, .invokevirtual 469, 3), (34, .istore 6, 2), (36, .iload 6, 2), (38, .iconst (-1), 1), (39, .if_icmp .eq 32, 3), (42, .iload 6, 2), (44, .iload_n 3, 1), (45, .if_icmp .gt 26, 3), (48, .aload_n 0, 1), (49, .iload_n 1, 1), (50, .iload 5, 2), (52, .aload_n 0, 1), (53, .iload_n 1, 1), (54, .iload 5, 2), (56, .invokevirtual 472, 3), (59, .invokevirtual 466, 3), (62, .iload 6, 2), (64, .if_icmp .gt 7, 3), (67, .iconst 1, 1), (68, .goto 4, 3), (71, .iconst 0, 1), (72, .istore 4, 2)] = true := by decide +kernel
theorem dX12_doesStand_0 : decode cX12_doesStand 0 = .ok (.aload_n 0, 1) := zDec_at zB_dX12_doesStand_0 0 rfl
theorem dX12_doesStand_1 : decode cX12_doesStand 1 = .ok (.iload_n 3, 1) := zDec_at zB_dX12_doesStand_0 1 rfl
theorem dX12_doesStand_2 : decode cX12_doesStand 2 = .ok (.invokevirtual 186, 3) := zDec_at zB_dX12_doesStand_0 2 rfl
theorem dX12_doesStand_5 : decode cX12_doesStand 5 = .ok (.aload_n 0, 1) := zDec_at zB_dX12_doesStand_0 3 rfl
theorem dX12_doesStand_6 : decode cX12_doesStand 6 = .ok (.iload_n 1, 1) := zDec_at zB_dX12_doesStand_0 4 rfl
theorem dX12_doesStand_7 : decode cX12_doesStand 7 = .ok (.invokevirtual 463, 3) := zDec_at zB_dX12_doesStand_0 5 rfl
theorem dX12_doesStand_10 : decode cX12_doesStand 10 = .ok (.iconst 1, 1) := zDec_at zB_dX12_doesStand_0 6 rfl
theorem dX12_doesStand_11 : decode cX12_doesStand 11 = .ok (.istore 4, 2) := zDec_at zB_dX12_doesStand_0 7 rfl
theorem dX12_doesStand_13 : decode cX12_doesStand 13 = .ok (.iconst 0, 1) := zDec_at zB_dX12_doesStand_0 8 rfl
theorem dX12_doesStand_14 : decode cX12_doesStand 14 = .ok (.istore 5, 2) := zDec_at zB_dX12_doesStand_0 9 rfl
theorem dX12_doesStand_16 : decode cX12_doesStand 16 = .ok (.iload 5, 2) := zDec_at zB_dX12_doesStand_0 10 rfl
theorem dX12_doesStand_18 : decode cX12_doesStand 18 = .ok (.iload_n 2, 1) := zDec_at zB_dX12_doesStand_0 11 rfl
theorem dX12_doesStand_19 : decode cX12_doesStand 19 = .ok (.if_icmp .gt 61, 3) := zDec_at zB_dX12_doesStand_0 12 rfl
theorem dX12_doesStand_22 : decode cX12_doesStand 22 = .ok (.iload 4, 2) := zDec_at zB_dX12_doesStand_0 13 rfl
theorem dX12_doesStand_24 : decode cX12_doesStand 24 = .ok (.ifCond .eq 56, 3) := zDec_at zB_dX12_doesStand_0 14 rfl
theorem dX12_doesStand_27 : decode cX12_doesStand 27 = .ok (.aload_n 0, 1) := zDec_at zB_dX12_doesStand_0 15 rfl
theorem dX12_doesStand_28 : decode cX12_doesStand 28 = .ok (.iload_n 1, 1) := zDec_at zB_dX12_doesStand_0 16 rfl
theorem dX12_doesStand_29 : decode cX12_doesStand 29 = .ok (.iload 5, 2) := zDec_at zB_dX12_doesStand_0 17 rfl
theorem dX12_doesStand_31 : decode cX12_doesStand 31 = .ok (.invokevirtual 469, 3) := zDec_at zB_dX12_doesStand_0 18 rfl
theorem dX12_doesStand_34 : decode cX12_doesStand 34 = .ok (.istore 6, 2) := zDec_at zB_dX12_doesStand_0 19 rfl
theorem dX12_doesStand_36 : decode cX12_doesStand 36 = .ok (.iload 6, 2) := zDec_at zB_dX12_doesStand_0 20 rfl
theorem dX12_doesStand_38 : decode cX12_doesStand 38 = .ok (.iconst (-1), 1) := zDec_at zB_dX12_doesStand_0 21 rfl
theorem dX12_doesStand_39 : decode cX12_doesStand 39 = .ok (.if_icmp .eq 32, 3) := zDec_at zB_dX12_doesStand_0 22 rfl
theorem dX12_doesStand_42 : decode cX12_doesStand 42 = .ok (.iload 6, 2) := zDec_at zB_dX12_doesStand_0 23 rfl
theorem dX12_doesStand_44 : decode cX12_doesStand 44 = .ok (.iload_n 3, 1) := zDec_at zB_dX12_doesStand_0 24 rfl
theorem dX12_doesStand_45 : decode cX12_doesStand 45 = .ok (.if_icmp .gt 26, 3) := zDec_at zB_dX12_doesStand_0 25 rfl
theorem dX12_doesStand_48 : decode cX12_doesStand 48 = .ok (.aload_n 0, 1) := zDec_at zB_dX12_doesStand_0 26 rfl
theorem dX12_doesStand_49 : decode cX12_doesStand 49 = .ok (.iload_n 1, 1) := zDec_at zB_dX12_doesStand_0 27 rfl
theorem dX12_doesStand_50 : decode cX12_doesStand 50 = .ok (.iload 5, 2) := zDec_at zB_dX12_doesStand_0 28 rfl
theorem dX12_doesStand_52 : decode cX12_doesStand 52 = .ok (.aload_n 0, 1) := zDec_at zB_dX12_doesStand_0 29 rfl
theorem dX12_doesStand_53 : decode cX12_doesStand 53 = .ok (.iload_n 1, 1) := zDec_at zB_dX12_doesStand_0 30 rfl
theorem dX12_doesStand_54 : decode cX12_doesStand 54 = .ok (.iload 5, 2) := zDec_at zB_dX12_doesStand_0 31 rfl
theorem dX12_doesStand_56 : decode cX12_doesStand 56 = .ok (.invokevirtual 472, 3) := zDec_at zB_dX12_doesStand_0 32 rfl
theorem dX12_doesStand_59 : decode cX12_doesStand 59 = .ok (.invokevirtual 466, 3) := zDec_at zB_dX12_doesStand_0 33 rfl
theorem dX12_doesStand_62 : decode cX12_doesStand 62 = .ok (.iload 6, 2) := zDec_at zB_dX12_doesStand_0 34 rfl
theorem dX12_doesStand_64 : decode cX12_doesStand 64 = .ok (.if_icmp .gt 7, 3) := zDec_at zB_dX12_doesStand_0 35 rfl
theorem dX12_doesStand_67 : decode cX12_doesStand 67 = .ok (.iconst 1, 1) := zDec_at zB_dX12_doesStand_0 36 rfl
theorem dX12_doesStand_68 : decode cX12_doesStand 68 = .ok (.goto 4, 3) := zDec_at zB_dX12_doesStand_0 37 rfl
theorem dX12_doesStand_71 : decode cX12_doesStand 71 = .ok (.iconst 0, 1) := zDec_at zB_dX12_doesStand_0 38 rfl
theorem dX12_doesStand_72 : decode cX12_doesStand 72 = .ok (.istore 4, 2) := zDec_at zB_dX12_doesStand_0 39 rfl
theorem zB_dX12_doesStand_74 : zDecB cX12_doesStand [(74, .iinc 5 1, 3), (77, .goto (-61), 3), (80, .iload 4, 2), (82, .ireturn, 1)] = true := by decide +kernel
theorem dX12_doesStand_74 : decode cX12_doesStand 74 = .ok (.iinc 5 1, 3) := zDec_at zB_dX12_doesStand_74 0 rfl
theorem dX12_doesStand_77 : decode cX12_doesStand 77 = .ok (.goto (-61), 3) := zDec_at zB_dX12_doesStand_74 1 rfl
theorem dX12_doesStand_80 : decode cX12_doesStand 80 = .ok (.iload 4, 2) := zDec_at zB_dX12_doesStand_74 2 rfl
theorem dX12_doesStand_82 : decode cX12_doesStand 82 = .ok (.ireturn, 1) := zDec_at zB_dX12_doesStand_74 3 rfl
theorem zB_dX12_draw_0 : zDecB cX12_draw [(0, .aload_n 0, 1), (1, .iconst 0, 1), (2, .putfield 92, 3), (5, .iload_n 2, 1), (6, .i2l, 1), (7, .lconst 0, 1), (8, .lconst 1, 1), (9, .invokestatic 100, 3), (12, .ifCond .eq 17, 3), (15, .iload_n 3, 1), (16, .i2l, 1), (17, .ldc2_w 545, 3), (20, .ldc2_w 547, 3), (23, .invokestatic 100, 3), (26, .ifCond .ne 9, 3), (29, .aload_n 0, 1), (30, .iconst (-1), 1), (31, .invokevirtual 106, 3), (34, .ireturn, 1), (35, .aload_n 0, 1), (36, .iload_n 1, 1), (37, .invokevirtual 138, 3), (40, .ifCond .ne 10, 3), (43, .aload_n 0, 1), (44, .bipush (-2), 2), (46, .invokevirtual 106, 3), (49, .ireturn, 1), (50, .iconst 0, 1), (51, .istore 4, 2), (53, .iload 4, 2), (55, .aload_n 0, 1), (56, .getfield 7, 3), (59, .bipush 8, 2), (61, .iaload, 1), (62, .if_icmp .ge 33, 3), (65, .aload_n 0, 1), (66, .getfield 7, 3), (69, .sipush 7025, 3), (72, .iconst 3, 1), (73, .iload 4, 2)] = true := by decide +kernel
theorem dX12_draw_0 : decode cX12_draw 0 = .ok (.aload_n 0, 1) := zDec_at zB_dX12_draw_0 0 rfl
theorem dX12_draw_1 : decode cX12_draw 1 = .ok (.iconst 0, 1) := zDec_at zB_dX12_draw_0 1 rfl
theorem dX12_draw_2 : decode cX12_draw 2 = .ok (.putfield 92, 3) := zDec_at zB_dX12_draw_0 2 rfl
theorem dX12_draw_5 : decode cX12_draw 5 = .ok (.iload_n 2, 1) := zDec_at zB_dX12_draw_0 3 rfl
theorem dX12_draw_6 : decode cX12_draw 6 = .ok (.i2l, 1) := zDec_at zB_dX12_draw_0 4 rfl
theorem dX12_draw_7 : decode cX12_draw 7 = .ok (.lconst 0, 1) := zDec_at zB_dX12_draw_0 5 rfl
theorem dX12_draw_8 : decode cX12_draw 8 = .ok (.lconst 1, 1) := zDec_at zB_dX12_draw_0 6 rfl
theorem dX12_draw_9 : decode cX12_draw 9 = .ok (.invokestatic 100, 3) := zDec_at zB_dX12_draw_0 7 rfl
theorem dX12_draw_12 : decode cX12_draw 12 = .ok (.ifCond .eq 17, 3) := zDec_at zB_dX12_draw_0 8 rfl
theorem dX12_draw_15 : decode cX12_draw 15 = .ok (.iload_n 3, 1) := zDec_at zB_dX12_draw_0 9 rfl
theorem dX12_draw_16 : decode cX12_draw 16 = .ok (.i2l, 1) := zDec_at zB_dX12_draw_0 10 rfl
theorem dX12_draw_17 : decode cX12_draw 17 = .ok (.ldc2_w 545, 3) := zDec_at zB_dX12_draw_0 11 rfl
theorem dX12_draw_20 : decode cX12_draw 20 = .ok (.ldc2_w 547, 3) := zDec_at zB_dX12_draw_0 12 rfl
theorem dX12_draw_23 : decode cX12_draw 23 = .ok (.invokestatic 100, 3) := zDec_at zB_dX12_draw_0 13 rfl
theorem dX12_draw_26 : decode cX12_draw 26 = .ok (.ifCond .ne 9, 3) := zDec_at zB_dX12_draw_0 14 rfl
theorem dX12_draw_29 : decode cX12_draw 29 = .ok (.aload_n 0, 1) := zDec_at zB_dX12_draw_0 15 rfl
theorem dX12_draw_30 : decode cX12_draw 30 = .ok (.iconst (-1), 1) := zDec_at zB_dX12_draw_0 16 rfl
theorem dX12_draw_31 : decode cX12_draw 31 = .ok (.invokevirtual 106, 3) := zDec_at zB_dX12_draw_0 17 rfl
theorem dX12_draw_34 : decode cX12_draw 34 = .ok (.ireturn, 1) := zDec_at zB_dX12_draw_0 18 rfl
theorem dX12_draw_35 : decode cX12_draw 35 = .ok (.aload_n 0, 1) := zDec_at zB_dX12_draw_0 19 rfl
theorem dX12_draw_36 : decode cX12_draw 36 = .ok (.iload_n 1, 1) := zDec_at zB_dX12_draw_0 20 rfl
theorem dX12_draw_37 : decode cX12_draw 37 = .ok (.invokevirtual 138, 3) := zDec_at zB_dX12_draw_0 21 rfl
theorem dX12_draw_40 : decode cX12_draw 40 = .ok (.ifCond .ne 10, 3) := zDec_at zB_dX12_draw_0 22 rfl
theorem dX12_draw_43 : decode cX12_draw 43 = .ok (.aload_n 0, 1) := zDec_at zB_dX12_draw_0 23 rfl
theorem dX12_draw_44 : decode cX12_draw 44 = .ok (.bipush (-2), 2) := zDec_at zB_dX12_draw_0 24 rfl
theorem dX12_draw_46 : decode cX12_draw 46 = .ok (.invokevirtual 106, 3) := zDec_at zB_dX12_draw_0 25 rfl
theorem dX12_draw_49 : decode cX12_draw 49 = .ok (.ireturn, 1) := zDec_at zB_dX12_draw_0 26 rfl
theorem dX12_draw_50 : decode cX12_draw 50 = .ok (.iconst 0, 1) := zDec_at zB_dX12_draw_0 27 rfl
theorem dX12_draw_51 : decode cX12_draw 51 = .ok (.istore 4, 2) := zDec_at zB_dX12_draw_0 28 rfl
theorem dX12_draw_53 : decode cX12_draw 53 = .ok (.iload 4, 2) := zDec_at zB_dX12_draw_0 29 rfl
theorem dX12_draw_55 : decode cX12_draw 55 = .ok (.aload_n 0, 1) := zDec_at zB_dX12_draw_0 30 rfl
theorem dX12_draw_56 : decode cX12_draw 56 = .ok (.getfield 7, 3) := zDec_at zB_dX12_draw_0 31 rfl
theorem dX12_draw_59 : decode cX12_draw 59 = .ok (.bipush 8, 2) := zDec_at zB_dX12_draw_0 32 rfl
theorem dX12_draw_61 : decode cX12_draw 61 = .ok (.iaload, 1) := zDec_at zB_dX12_draw_0 33 rfl
theorem dX12_draw_62 : decode cX12_draw 62 = .ok (.if_icmp .ge 33, 3) := zDec_at zB_dX12_draw_0 34 rfl
theorem dX12_draw_65 : decode cX12_draw 65 = .ok (.aload_n 0, 1) := zDec_at zB_dX12_draw_0 35 rfl
theorem dX12_draw_66 : decode cX12_draw 66 = .ok (.getfield 7, 3) := zDec_at zB_dX12_draw_0 36 rfl
theorem dX12_draw_69 : decode cX12_draw 69 = .ok (.sipush 7025, 3) := zDec_at zB_dX12_draw_0 37 rfl
theorem dX12_draw_72 : decode cX12_draw 72 = .ok (.iconst 3, 1) := zDec_at zB_dX12_draw_0 38 rfl
theorem dX12_draw_73 : decode cX12_draw 73 = .ok (.iload 4, 2) := zDec_at zB_dX12_draw_0 39 rfl
theorem zB_dX12_draw_75 : zDecB cX12_draw [(75, .imul, 1), (76, .iadd, 1), (77, .iaload, 1), (78, .iload_n 1, 1), (79, .if_icmp .ne 10, 3), (82, .aload_n 0, 1), (83, .bipush (-4), 2), (85, .invokevirtual 106, 3), (88, .ireturn, 1), (89, .iinc 4 1, 3), (92, .goto (-39), 3), (95, .aload_n 0, 1), (96, .getfield 7, 3), (99, .bipush 8, 2), (101, .iaload, 1), (102, .bipush 12, 2), (104, .if_icmp .ne 10, 3), (107, .aload_n 0, 1), (108, .bipush (-5), 2), (110, .invokevirtual 106, 3), (113, .ireturn, 1), (114, .sipush 7025, 3), (117, .iconst 3, 1), (118, .aload_n 0, 1), (119, .getfield 7, 3), (122, .bipush 8, 2), (124, .iaload, 1), (125, .imul, 1), (126, .iadd, 1), (127, .istore 4, 2), (129, .aload_n 0, 1), (130, .getfield 7, 3), (133, .iload 4, 2), (135, .iload_n 1, 1), (136, .iastore, 1), (137, .aload_n 0, 1), (138, .getfield 7, 3), (141, .iload 4, 2), (143, .iconst 1, 1), (144, .iadd, 1)] = true := by decide +kernel
theorem dX12_draw_75 : decode cX12_draw 75 = .ok (.imul, 1) := zDec_at zB_dX12_draw_75 0 rfl
theorem dX12_draw_76 : decode cX12_draw 76 = .ok (.iadd, 1) := zDec_at zB_dX12_draw_75 1 rfl
theorem dX12_draw_77 : decode cX12_draw 77 = .ok (.iaload, 1) := zDec_at zB_dX12_draw_75 2 rfl
theorem dX12_draw_78 : decode cX12_draw 78 = .ok (.iload_n 1, 1) := zDec_at zB_dX12_draw_75 3 rfl
theorem dX12_draw_79 : decode cX12_draw 79 = .ok (.if_icmp .ne 10, 3) := zDec_at zB_dX12_draw_75 4 rfl
theorem dX12_draw_82 : decode cX12_draw 82 = .ok (.aload_n 0, 1) := zDec_at zB_dX12_draw_75 5 rfl
theorem dX12_draw_83 : decode cX12_draw 83 = .ok (.bipush (-4), 2) := zDec_at zB_dX12_draw_75 6 rfl
theorem dX12_draw_85 : decode cX12_draw 85 = .ok (.invokevirtual 106, 3) := zDec_at zB_dX12_draw_75 7 rfl
theorem dX12_draw_88 : decode cX12_draw 88 = .ok (.ireturn, 1) := zDec_at zB_dX12_draw_75 8 rfl
theorem dX12_draw_89 : decode cX12_draw 89 = .ok (.iinc 4 1, 3) := zDec_at zB_dX12_draw_75 9 rfl
theorem dX12_draw_92 : decode cX12_draw 92 = .ok (.goto (-39), 3) := zDec_at zB_dX12_draw_75 10 rfl
theorem dX12_draw_95 : decode cX12_draw 95 = .ok (.aload_n 0, 1) := zDec_at zB_dX12_draw_75 11 rfl
theorem dX12_draw_96 : decode cX12_draw 96 = .ok (.getfield 7, 3) := zDec_at zB_dX12_draw_75 12 rfl
theorem dX12_draw_99 : decode cX12_draw 99 = .ok (.bipush 8, 2) := zDec_at zB_dX12_draw_75 13 rfl
theorem dX12_draw_101 : decode cX12_draw 101 = .ok (.iaload, 1) := zDec_at zB_dX12_draw_75 14 rfl
theorem dX12_draw_102 : decode cX12_draw 102 = .ok (.bipush 12, 2) := zDec_at zB_dX12_draw_75 15 rfl
theorem dX12_draw_104 : decode cX12_draw 104 = .ok (.if_icmp .ne 10, 3) := zDec_at zB_dX12_draw_75 16 rfl
theorem dX12_draw_107 : decode cX12_draw 107 = .ok (.aload_n 0, 1) := zDec_at zB_dX12_draw_75 17 rfl
theorem dX12_draw_108 : decode cX12_draw 108 = .ok (.bipush (-5), 2) := zDec_at zB_dX12_draw_75 18 rfl
theorem dX12_draw_110 : decode cX12_draw 110 = .ok (.invokevirtual 106, 3) := zDec_at zB_dX12_draw_75 19 rfl
theorem dX12_draw_113 : decode cX12_draw 113 = .ok (.ireturn, 1) := zDec_at zB_dX12_draw_75 20 rfl
theorem dX12_draw_114 : decode cX12_draw 114 = .ok (.sipush 7025, 3) := zDec_at zB_dX12_draw_75 21 rfl
theorem dX12_draw_117 : decode cX12_draw 117 = .ok (.iconst 3, 1) := zDec_at zB_dX12_draw_75 22 rfl
theorem dX12_draw_118 : decode cX12_draw 118 = .ok (.aload_n 0, 1) := zDec_at zB_dX12_draw_75 23 rfl
theorem dX12_draw_119 : decode cX12_draw 119 = .ok (.getfield 7, 3) := zDec_at zB_dX12_draw_75 24 rfl
theorem dX12_draw_122 : decode cX12_draw 122 = .ok (.bipush 8, 2) := zDec_at zB_dX12_draw_75 25 rfl
theorem dX12_draw_124 : decode cX12_draw 124 = .ok (.iaload, 1) := zDec_at zB_dX12_draw_75 26 rfl
theorem dX12_draw_125 : decode cX12_draw 125 = .ok (.imul, 1) := zDec_at zB_dX12_draw_75 27 rfl
theorem dX12_draw_126 : decode cX12_draw 126 = .ok (.iadd, 1) := zDec_at zB_dX12_draw_75 28 rfl
theorem dX12_draw_127 : decode cX12_draw 127 = .ok (.istore 4, 2) := zDec_at zB_dX12_draw_75 29 rfl
theorem dX12_draw_129 : decode cX12_draw 129 = .ok (.aload_n 0, 1) := zDec_at zB_dX12_draw_75 30 rfl
theorem dX12_draw_130 : decode cX12_draw 130 = .ok (.getfield 7, 3) := zDec_at zB_dX12_draw_75 31 rfl
theorem dX12_draw_133 : decode cX12_draw 133 = .ok (.iload 4, 2) := zDec_at zB_dX12_draw_75 32 rfl
theorem dX12_draw_135 : decode cX12_draw 135 = .ok (.iload_n 1, 1) := zDec_at zB_dX12_draw_75 33 rfl
theorem dX12_draw_136 : decode cX12_draw 136 = .ok (.iastore, 1) := zDec_at zB_dX12_draw_75 34 rfl
theorem dX12_draw_137 : decode cX12_draw 137 = .ok (.aload_n 0, 1) := zDec_at zB_dX12_draw_75 35 rfl
theorem dX12_draw_138 : decode cX12_draw 138 = .ok (.getfield 7, 3) := zDec_at zB_dX12_draw_75 36 rfl
theorem dX12_draw_141 : decode cX12_draw 141 = .ok (.iload 4, 2) := zDec_at zB_dX12_draw_75 37 rfl
theorem dX12_draw_143 : decode cX12_draw 143 = .ok (.iconst 1, 1) := zDec_at zB_dX12_draw_75 38 rfl
theorem dX12_draw_144 : decode cX12_draw 144 = .ok (.iadd, 1) := zDec_at zB_dX12_draw_75 39 rfl
theorem zB_dX12_draw_145 : zDecB cX12_draw [(145, .iload_n 2, 1), (146, .iastore, 1), (147, .aload_n 0, 1), (148, .getfield 7, 3), (151, .iload 4, 2), (153, .iconst 2, 1), (154, .iadd, 1), (155, .iload_n 3, 1), (156, .iastore, 1), (157, .aload_n 0, 1), (158, .getfield 7, 3), (161, .bipush 8, 2), (163, .dup2, 1), (164, .iaload, 1), (165, .iconst 1, 1), (166, .iadd, 1), (167, .iastore, 1), (168, .aload_n 0, 1), (169, .aload_n 0, 1), (170, .getfield 7, 3), (173, .bipush 8, 2), (175, .iaload, 1), (176, .invokevirtual 106, 3), (179, .ireturn, 1)] = true := by decide +kernel
theorem dX12_draw_145 : decode cX12_draw 145 = .ok (.iload_n 2, 1) := zDec_at zB_dX12_draw_145 0 rfl
theorem dX12_draw_146 : decode cX12_draw 146 = .ok (.iastore, 1) := zDec_at zB_dX12_draw_145 1 rfl
theorem dX12_draw_147 : decode cX12_draw 147 = .ok (.aload_n 0, 1) := zDec_at zB_dX12_draw_145 2 rfl
theorem dX12_draw_148 : decode cX12_draw 148 = .ok (.getfield 7, 3) := zDec_at zB_dX12_draw_145 3 rfl
theorem dX12_draw_151 : decode cX12_draw 151 = .ok (.iload 4, 2) := zDec_at zB_dX12_draw_145 4 rfl
theorem dX12_draw_153 : decode cX12_draw 153 = .ok (.iconst 2, 1) := zDec_at zB_dX12_draw_145 5 rfl
theorem dX12_draw_154 : decode cX12_draw 154 = .ok (.iadd, 1) := zDec_at zB_dX12_draw_145 6 rfl
theorem dX12_draw_155 : decode cX12_draw 155 = .ok (.iload_n 3, 1) := zDec_at zB_dX12_draw_145 7 rfl
theorem dX12_draw_156 : decode cX12_draw 156 = .ok (.iastore, 1) := zDec_at zB_dX12_draw_145 8 rfl
theorem dX12_draw_157 : decode cX12_draw 157 = .ok (.aload_n 0, 1) := zDec_at zB_dX12_draw_145 9 rfl
theorem dX12_draw_158 : decode cX12_draw 158 = .ok (.getfield 7, 3) := zDec_at zB_dX12_draw_145 10 rfl
theorem dX12_draw_161 : decode cX12_draw 161 = .ok (.bipush 8, 2) := zDec_at zB_dX12_draw_145 11 rfl
theorem dX12_draw_163 : decode cX12_draw 163 = .ok (.dup2, 1) := zDec_at zB_dX12_draw_145 12 rfl
theorem dX12_draw_164 : decode cX12_draw 164 = .ok (.iaload, 1) := zDec_at zB_dX12_draw_145 13 rfl
theorem dX12_draw_165 : decode cX12_draw 165 = .ok (.iconst 1, 1) := zDec_at zB_dX12_draw_145 14 rfl
theorem dX12_draw_166 : decode cX12_draw 166 = .ok (.iadd, 1) := zDec_at zB_dX12_draw_145 15 rfl
theorem dX12_draw_167 : decode cX12_draw 167 = .ok (.iastore, 1) := zDec_at zB_dX12_draw_145 16 rfl
theorem dX12_draw_168 : decode cX12_draw 168 = .ok (.aload_n 0, 1) := zDec_at zB_dX12_draw_145 17 rfl
theorem dX12_draw_169 : decode cX12_draw 169 = .ok (.aload_n 0, 1) := zDec_at zB_dX12_draw_145 18 rfl
theorem dX12_draw_170 : decode cX12_draw 170 = .ok (.getfield 7, 3) := zDec_at zB_dX12_draw_145 19 rfl
theorem dX12_draw_173 : decode cX12_draw 173 = .ok (.bipush 8, 2) := zDec_at zB_dX12_draw_145 20 rfl
theorem dX12_draw_175 : decode cX12_draw 175 = .ok (.iaload, 1) := zDec_at zB_dX12_draw_145 21 rfl
theorem dX12_draw_176 : decode cX12_draw 176 = .ok (.invokevirtual 106, 3) := zDec_at zB_dX12_draw_145 22 rfl
theorem dX12_draw_179 : decode cX12_draw 179 = .ok (.ireturn, 1) := zDec_at zB_dX12_draw_145 23 rfl
theorem zB_dX12_due_0 : zDecB cX12_due [(0, .aload_n 0, 1), (1, .iconst 0, 1), (2, .putfield 92, 3), (5, .aload_n 0, 1), (6, .iload_n 1, 1), (7, .invokevirtual 138, 3), (10, .ifCond .eq 25, 3), (13, .iload_n 2, 1), (14, .invokestatic 460, 3), (17, .ifCond .eq 18, 3), (20, .iload_n 3, 1), (21, .invokestatic 127, 3), (24, .ifCond .eq 11, 3), (27, .iload 4, 2), (29, .invokestatic 127, 3), (32, .ifCond .ne 5, 3), (35, .iconst (-1), 1), (36, .ireturn, 1), (37, .aload_n 0, 1), (38, .iload 4, 2), (40, .invokevirtual 186, 3), (43, .aload_n 0, 1), (44, .iload_n 1, 1), (45, .invokevirtual 463, 3), (48, .aload_n 0, 1), (49, .iload_n 1, 1), (50, .iload_n 2, 1), (51, .iload_n 3, 1), (52, .invokevirtual 466, 3), (55, .istore 5, 2), (57, .iload 5, 2), (59, .sipush 1000, 3), (62, .if_icmp .ne 7, 3), (65, .iconst (-1), 1), (66, .goto 5, 3), (69, .iload 5, 2), (71, .ireturn, 1)] = true := by decide +kernel
theorem dX12_due_0 : decode cX12_due 0 = .ok (.aload_n 0, 1) := zDec_at zB_dX12_due_0 0 rfl
theorem dX12_due_1 : decode cX12_due 1 = .ok (.iconst 0, 1) := zDec_at zB_dX12_due_0 1 rfl
theorem dX12_due_2 : decode cX12_due 2 = .ok (.putfield 92, 3) := zDec_at zB_dX12_due_0 2 rfl
theorem dX12_due_5 : decode cX12_due 5 = .ok (.aload_n 0, 1) := zDec_at zB_dX12_due_0 3 rfl
theorem dX12_due_6 : decode cX12_due 6 = .ok (.iload_n 1, 1) := zDec_at zB_dX12_due_0 4 rfl
theorem dX12_due_7 : decode cX12_due 7 = .ok (.invokevirtual 138, 3) := zDec_at zB_dX12_due_0 5 rfl
theorem dX12_due_10 : decode cX12_due 10 = .ok (.ifCond .eq 25, 3) := zDec_at zB_dX12_due_0 6 rfl
theorem dX12_due_13 : decode cX12_due 13 = .ok (.iload_n 2, 1) := zDec_at zB_dX12_due_0 7 rfl
theorem dX12_due_14 : decode cX12_due 14 = .ok (.invokestatic 460, 3) := zDec_at zB_dX12_due_0 8 rfl
theorem dX12_due_17 : decode cX12_due 17 = .ok (.ifCond .eq 18, 3) := zDec_at zB_dX12_due_0 9 rfl
theorem dX12_due_20 : decode cX12_due 20 = .ok (.iload_n 3, 1) := zDec_at zB_dX12_due_0 10 rfl
theorem dX12_due_21 : decode cX12_due 21 = .ok (.invokestatic 127, 3) := zDec_at zB_dX12_due_0 11 rfl
theorem dX12_due_24 : decode cX12_due 24 = .ok (.ifCond .eq 11, 3) := zDec_at zB_dX12_due_0 12 rfl
theorem dX12_due_27 : decode cX12_due 27 = .ok (.iload 4, 2) := zDec_at zB_dX12_due_0 13 rfl
theorem dX12_due_29 : decode cX12_due 29 = .ok (.invokestatic 127, 3) := zDec_at zB_dX12_due_0 14 rfl
theorem dX12_due_32 : decode cX12_due 32 = .ok (.ifCond .ne 5, 3) := zDec_at zB_dX12_due_0 15 rfl
theorem dX12_due_35 : decode cX12_due 35 = .ok (.iconst (-1), 1) := zDec_at zB_dX12_due_0 16 rfl
theorem dX12_due_36 : decode cX12_due 36 = .ok (.ireturn, 1) := zDec_at zB_dX12_due_0 17 rfl
theorem dX12_due_37 : decode cX12_due 37 = .ok (.aload_n 0, 1) := zDec_at zB_dX12_due_0 18 rfl
theorem dX12_due_38 : decode cX12_due 38 = .ok (.iload 4, 2) := zDec_at zB_dX12_due_0 19 rfl
theorem dX12_due_40 : decode cX12_due 40 = .ok (.invokevirtual 186, 3) := zDec_at zB_dX12_due_0 20 rfl
theorem dX12_due_43 : decode cX12_due 43 = .ok (.aload_n 0, 1) := zDec_at zB_dX12_due_0 21 rfl
theorem dX12_due_44 : decode cX12_due 44 = .ok (.iload_n 1, 1) := zDec_at zB_dX12_due_0 22 rfl
theorem dX12_due_45 : decode cX12_due 45 = .ok (.invokevirtual 463, 3) := zDec_at zB_dX12_due_0 23 rfl
theorem dX12_due_48 : decode cX12_due 48 = .ok (.aload_n 0, 1) := zDec_at zB_dX12_due_0 24 rfl
theorem dX12_due_49 : decode cX12_due 49 = .ok (.iload_n 1, 1) := zDec_at zB_dX12_due_0 25 rfl
theorem dX12_due_50 : decode cX12_due 50 = .ok (.iload_n 2, 1) := zDec_at zB_dX12_due_0 26 rfl
theorem dX12_due_51 : decode cX12_due 51 = .ok (.iload_n 3, 1) := zDec_at zB_dX12_due_0 27 rfl
theorem dX12_due_52 : decode cX12_due 52 = .ok (.invokevirtual 466, 3) := zDec_at zB_dX12_due_0 28 rfl
theorem dX12_due_55 : decode cX12_due 55 = .ok (.istore 5, 2) := zDec_at zB_dX12_due_0 29 rfl
theorem dX12_due_57 : decode cX12_due 57 = .ok (.iload 5, 2) := zDec_at zB_dX12_due_0 30 rfl
theorem dX12_due_59 : decode cX12_due 59 = .ok (.sipush 1000, 3) := zDec_at zB_dX12_due_0 31 rfl
theorem dX12_due_62 : decode cX12_due 62 = .ok (.if_icmp .ne 7, 3) := zDec_at zB_dX12_due_0 32 rfl
theorem dX12_due_65 : decode cX12_due 65 = .ok (.iconst (-1), 1) := zDec_at zB_dX12_due_0 33 rfl
theorem dX12_due_66 : decode cX12_due 66 = .ok (.goto 5, 3) := zDec_at zB_dX12_due_0 34 rfl
theorem dX12_due_69 : decode cX12_due 69 = .ok (.iload 5, 2) := zDec_at zB_dX12_due_0 35 rfl
theorem dX12_due_71 : decode cX12_due 71 = .ok (.ireturn, 1) := zDec_at zB_dX12_due_0 36 rfl
theorem zB_dX12_dueFrom_0 : zDecB cX12_dueFrom [(0, .iload_n 2, 1), (1, .ifCond .ne 7, 3), (4, .iconst 0, 1), (5, .goto 13, 3), (8, .aload_n 0, 1), (9, .iload_n 1, 1), (10, .iload_n 2, 1), (11, .iconst 1, 1), (12, .isub, 1), (13, .invokevirtual 469, 3), (16, .iconst 1, 1), (17, .iadd, 1), (18, .ireturn, 1)] = true := by decide +kernel
theorem dX12_dueFrom_0 : decode cX12_dueFrom 0 = .ok (.iload_n 2, 1) := zDec_at zB_dX12_dueFrom_0 0 rfl
theorem dX12_dueFrom_1 : decode cX12_dueFrom 1 = .ok (.ifCond .ne 7, 3) := zDec_at zB_dX12_dueFrom_0 1 rfl
theorem dX12_dueFrom_4 : decode cX12_dueFrom 4 = .ok (.iconst 0, 1) := zDec_at zB_dX12_dueFrom_0 2 rfl
theorem dX12_dueFrom_5 : decode cX12_dueFrom 5 = .ok (.goto 13, 3) := zDec_at zB_dX12_dueFrom_0 3 rfl
theorem dX12_dueFrom_8 : decode cX12_dueFrom 8 = .ok (.aload_n 0, 1) := zDec_at zB_dX12_dueFrom_0 4 rfl
theorem dX12_dueFrom_9 : decode cX12_dueFrom 9 = .ok (.iload_n 1, 1) := zDec_at zB_dX12_dueFrom_0 5 rfl
theorem dX12_dueFrom_10 : decode cX12_dueFrom 10 = .ok (.iload_n 2, 1) := zDec_at zB_dX12_dueFrom_0 6 rfl
theorem dX12_dueFrom_11 : decode cX12_dueFrom 11 = .ok (.iconst 1, 1) := zDec_at zB_dX12_dueFrom_0 7 rfl
theorem dX12_dueFrom_12 : decode cX12_dueFrom 12 = .ok (.isub, 1) := zDec_at zB_dX12_dueFrom_0 8 rfl
theorem dX12_dueFrom_13 : decode cX12_dueFrom 13 = .ok (.invokevirtual 469, 3) := zDec_at zB_dX12_dueFrom_0 9 rfl
theorem dX12_dueFrom_16 : decode cX12_dueFrom 16 = .ok (.iconst 1, 1) := zDec_at zB_dX12_dueFrom_0 10 rfl
theorem dX12_dueFrom_17 : decode cX12_dueFrom 17 = .ok (.iadd, 1) := zDec_at zB_dX12_dueFrom_0 11 rfl
theorem dX12_dueFrom_18 : decode cX12_dueFrom 18 = .ok (.ireturn, 1) := zDec_at zB_dX12_dueFrom_0 12 rfl
theorem zB_dX12_dueOf_0 : zDecB cX12_dueOf [(0, .iload_n 3, 1), (1, .istore 4, 2), (3, .iload 4, 2), (5, .sipush 399, 3), (8, .if_icmp .gt 110, 3), (11, .aload_n 0, 1), (12, .getfield 68, 3), (15, .iload 4, 2), (17, .iconst 1, 1), (18, .iadd, 1), (19, .iaload, 1), (20, .aload_n 0, 1), (21, .getfield 68, 3), (24, .iload 4, 2), (26, .iaload, 1), (27, .if_icmp .le 85, 3), (30, .aload_n 0, 1), (31, .iload_n 1, 1), (32, .iload 4, 2), (34, .invokevirtual 457, 3), (37, .aload_n 0, 1), (38, .iconst 2, 1), (39, .iload_n 2, 1), (40, .iconst (-1), 1), (41, .invokevirtual 175, 3), (44, .ifCond .eq 68, 3), (47, .aload_n 0, 1), (48, .getfield 433, 3), (51, .lconst 0, 1), (52, .lcmp, 1), (53, .ifCond .le 59, 3), (56, .iload 4, 2), (58, .aload_n 0, 1), (59, .getfield 178, 3), (62, .isub, 1), (63, .iconst 1, 1), (64, .iadd, 1), (65, .ifCond .ge 7, 3), (68, .iconst 0, 1), (69, .goto 12, 3)] = true := by decide +kernel
theorem dX12_dueOf_0 : decode cX12_dueOf 0 = .ok (.iload_n 3, 1) := zDec_at zB_dX12_dueOf_0 0 rfl
theorem dX12_dueOf_1 : decode cX12_dueOf 1 = .ok (.istore 4, 2) := zDec_at zB_dX12_dueOf_0 1 rfl
theorem dX12_dueOf_3 : decode cX12_dueOf 3 = .ok (.iload 4, 2) := zDec_at zB_dX12_dueOf_0 2 rfl
theorem dX12_dueOf_5 : decode cX12_dueOf 5 = .ok (.sipush 399, 3) := zDec_at zB_dX12_dueOf_0 3 rfl
theorem dX12_dueOf_8 : decode cX12_dueOf 8 = .ok (.if_icmp .gt 110, 3) := zDec_at zB_dX12_dueOf_0 4 rfl
theorem dX12_dueOf_11 : decode cX12_dueOf 11 = .ok (.aload_n 0, 1) := zDec_at zB_dX12_dueOf_0 5 rfl
theorem dX12_dueOf_12 : decode cX12_dueOf 12 = .ok (.getfield 68, 3) := zDec_at zB_dX12_dueOf_0 6 rfl
theorem dX12_dueOf_15 : decode cX12_dueOf 15 = .ok (.iload 4, 2) := zDec_at zB_dX12_dueOf_0 7 rfl
theorem dX12_dueOf_17 : decode cX12_dueOf 17 = .ok (.iconst 1, 1) := zDec_at zB_dX12_dueOf_0 8 rfl
theorem dX12_dueOf_18 : decode cX12_dueOf 18 = .ok (.iadd, 1) := zDec_at zB_dX12_dueOf_0 9 rfl
theorem dX12_dueOf_19 : decode cX12_dueOf 19 = .ok (.iaload, 1) := zDec_at zB_dX12_dueOf_0 10 rfl
theorem dX12_dueOf_20 : decode cX12_dueOf 20 = .ok (.aload_n 0, 1) := zDec_at zB_dX12_dueOf_0 11 rfl
theorem dX12_dueOf_21 : decode cX12_dueOf 21 = .ok (.getfield 68, 3) := zDec_at zB_dX12_dueOf_0 12 rfl
theorem dX12_dueOf_24 : decode cX12_dueOf 24 = .ok (.iload 4, 2) := zDec_at zB_dX12_dueOf_0 13 rfl
theorem dX12_dueOf_26 : decode cX12_dueOf 26 = .ok (.iaload, 1) := zDec_at zB_dX12_dueOf_0 14 rfl
theorem dX12_dueOf_27 : decode cX12_dueOf 27 = .ok (.if_icmp .le 85, 3) := zDec_at zB_dX12_dueOf_0 15 rfl
theorem dX12_dueOf_30 : decode cX12_dueOf 30 = .ok (.aload_n 0, 1) := zDec_at zB_dX12_dueOf_0 16 rfl
theorem dX12_dueOf_31 : decode cX12_dueOf 31 = .ok (.iload_n 1, 1) := zDec_at zB_dX12_dueOf_0 17 rfl
theorem dX12_dueOf_32 : decode cX12_dueOf 32 = .ok (.iload 4, 2) := zDec_at zB_dX12_dueOf_0 18 rfl
theorem dX12_dueOf_34 : decode cX12_dueOf 34 = .ok (.invokevirtual 457, 3) := zDec_at zB_dX12_dueOf_0 19 rfl
theorem dX12_dueOf_37 : decode cX12_dueOf 37 = .ok (.aload_n 0, 1) := zDec_at zB_dX12_dueOf_0 20 rfl
theorem dX12_dueOf_38 : decode cX12_dueOf 38 = .ok (.iconst 2, 1) := zDec_at zB_dX12_dueOf_0 21 rfl
theorem dX12_dueOf_39 : decode cX12_dueOf 39 = .ok (.iload_n 2, 1) := zDec_at zB_dX12_dueOf_0 22 rfl
theorem dX12_dueOf_40 : decode cX12_dueOf 40 = .ok (.iconst (-1), 1) := zDec_at zB_dX12_dueOf_0 23 rfl
theorem dX12_dueOf_41 : decode cX12_dueOf 41 = .ok (.invokevirtual 175, 3) := zDec_at zB_dX12_dueOf_0 24 rfl
theorem dX12_dueOf_44 : decode cX12_dueOf 44 = .ok (.ifCond .eq 68, 3) := zDec_at zB_dX12_dueOf_0 25 rfl
theorem dX12_dueOf_47 : decode cX12_dueOf 47 = .ok (.aload_n 0, 1) := zDec_at zB_dX12_dueOf_0 26 rfl
theorem dX12_dueOf_48 : decode cX12_dueOf 48 = .ok (.getfield 433, 3) := zDec_at zB_dX12_dueOf_0 27 rfl
theorem dX12_dueOf_51 : decode cX12_dueOf 51 = .ok (.lconst 0, 1) := zDec_at zB_dX12_dueOf_0 28 rfl
theorem dX12_dueOf_52 : decode cX12_dueOf 52 = .ok (.lcmp, 1) := zDec_at zB_dX12_dueOf_0 29 rfl
theorem dX12_dueOf_53 : decode cX12_dueOf 53 = .ok (.ifCond .le 59, 3) := zDec_at zB_dX12_dueOf_0 30 rfl
theorem dX12_dueOf_56 : decode cX12_dueOf 56 = .ok (.iload 4, 2) := zDec_at zB_dX12_dueOf_0 31 rfl
theorem dX12_dueOf_58 : decode cX12_dueOf 58 = .ok (.aload_n 0, 1) := zDec_at zB_dX12_dueOf_0 32 rfl
theorem dX12_dueOf_59 : decode cX12_dueOf 59 = .ok (.getfield 178, 3) := zDec_at zB_dX12_dueOf_0 33 rfl
theorem dX12_dueOf_62 : decode cX12_dueOf 62 = .ok (.isub, 1) := zDec_at zB_dX12_dueOf_0 34 rfl
theorem dX12_dueOf_63 : decode cX12_dueOf 63 = .ok (.iconst 1, 1) := zDec_at zB_dX12_dueOf_0 35 rfl
theorem dX12_dueOf_64 : decode cX12_dueOf 64 = .ok (.iadd, 1) := zDec_at zB_dX12_dueOf_0 36 rfl
theorem dX12_dueOf_65 : decode cX12_dueOf 65 = .ok (.ifCond .ge 7, 3) := zDec_at zB_dX12_dueOf_0 37 rfl
theorem dX12_dueOf_68 : decode cX12_dueOf 68 = .ok (.iconst 0, 1) := zDec_at zB_dX12_dueOf_0 38 rfl
theorem dX12_dueOf_69 : decode cX12_dueOf 69 = .ok (.goto 12, 3) := zDec_at zB_dX12_dueOf_0 39 rfl
theorem zB_dX12_dueOf_72 : zDecB cX12_dueOf [(72, .iload 4, 2), (74, .aload_n 0, 1), (75, .getfield 178, 3), (78, .isub, 1), (79, .iconst 1, 1), (80, .iadd, 1), (81, .istore 5, 2), (83, .aload_n 0, 1), (84, .getfield 71, 3), (87, .iload 4, 2), (89, .iconst 1, 1), (90, .iadd, 1), (91, .iaload, 1), (92, .aload_n 0, 1), (93, .getfield 71, 3), (96, .iload 5, 2), (98, .iaload, 1), (99, .isub, 1), (100, .i2l, 1), (101, .aload_n 0, 1), (102, .getfield 433, 3), (105, .lcmp, 1), (106, .ifCond .lt 6, 3), (109, .iload 4, 2), (111, .ireturn, 1), (112, .iinc 4 1, 3), (115, .goto (-112), 3), (118, .sipush 1000, 3), (121, .ireturn, 1)] = true := by decide +kernel
theorem dX12_dueOf_72 : decode cX12_dueOf 72 = .ok (.iload 4, 2) := zDec_at zB_dX12_dueOf_72 0 rfl
theorem dX12_dueOf_74 : decode cX12_dueOf 74 = .ok (.aload_n 0, 1) := zDec_at zB_dX12_dueOf_72 1 rfl
theorem dX12_dueOf_75 : decode cX12_dueOf 75 = .ok (.getfield 178, 3) := zDec_at zB_dX12_dueOf_72 2 rfl
theorem dX12_dueOf_78 : decode cX12_dueOf 78 = .ok (.isub, 1) := zDec_at zB_dX12_dueOf_72 3 rfl
theorem dX12_dueOf_79 : decode cX12_dueOf 79 = .ok (.iconst 1, 1) := zDec_at zB_dX12_dueOf_72 4 rfl
theorem dX12_dueOf_80 : decode cX12_dueOf 80 = .ok (.iadd, 1) := zDec_at zB_dX12_dueOf_72 5 rfl
theorem dX12_dueOf_81 : decode cX12_dueOf 81 = .ok (.istore 5, 2) := zDec_at zB_dX12_dueOf_72 6 rfl
theorem dX12_dueOf_83 : decode cX12_dueOf 83 = .ok (.aload_n 0, 1) := zDec_at zB_dX12_dueOf_72 7 rfl
theorem dX12_dueOf_84 : decode cX12_dueOf 84 = .ok (.getfield 71, 3) := zDec_at zB_dX12_dueOf_72 8 rfl
theorem dX12_dueOf_87 : decode cX12_dueOf 87 = .ok (.iload 4, 2) := zDec_at zB_dX12_dueOf_72 9 rfl
theorem dX12_dueOf_89 : decode cX12_dueOf 89 = .ok (.iconst 1, 1) := zDec_at zB_dX12_dueOf_72 10 rfl
theorem dX12_dueOf_90 : decode cX12_dueOf 90 = .ok (.iadd, 1) := zDec_at zB_dX12_dueOf_72 11 rfl
theorem dX12_dueOf_91 : decode cX12_dueOf 91 = .ok (.iaload, 1) := zDec_at zB_dX12_dueOf_72 12 rfl
theorem dX12_dueOf_92 : decode cX12_dueOf 92 = .ok (.aload_n 0, 1) := zDec_at zB_dX12_dueOf_72 13 rfl
theorem dX12_dueOf_93 : decode cX12_dueOf 93 = .ok (.getfield 71, 3) := zDec_at zB_dX12_dueOf_72 14 rfl
theorem dX12_dueOf_96 : decode cX12_dueOf 96 = .ok (.iload 5, 2) := zDec_at zB_dX12_dueOf_72 15 rfl
theorem dX12_dueOf_98 : decode cX12_dueOf 98 = .ok (.iaload, 1) := zDec_at zB_dX12_dueOf_72 16 rfl
theorem dX12_dueOf_99 : decode cX12_dueOf 99 = .ok (.isub, 1) := zDec_at zB_dX12_dueOf_72 17 rfl
theorem dX12_dueOf_100 : decode cX12_dueOf 100 = .ok (.i2l, 1) := zDec_at zB_dX12_dueOf_72 18 rfl
theorem dX12_dueOf_101 : decode cX12_dueOf 101 = .ok (.aload_n 0, 1) := zDec_at zB_dX12_dueOf_72 19 rfl
theorem dX12_dueOf_102 : decode cX12_dueOf 102 = .ok (.getfield 433, 3) := zDec_at zB_dX12_dueOf_72 20 rfl
theorem dX12_dueOf_105 : decode cX12_dueOf 105 = .ok (.lcmp, 1) := zDec_at zB_dX12_dueOf_72 21 rfl
theorem dX12_dueOf_106 : decode cX12_dueOf 106 = .ok (.ifCond .lt 6, 3) := zDec_at zB_dX12_dueOf_72 22 rfl
theorem dX12_dueOf_109 : decode cX12_dueOf 109 = .ok (.iload 4, 2) := zDec_at zB_dX12_dueOf_72 23 rfl
theorem dX12_dueOf_111 : decode cX12_dueOf 111 = .ok (.ireturn, 1) := zDec_at zB_dX12_dueOf_72 24 rfl
theorem dX12_dueOf_112 : decode cX12_dueOf 112 = .ok (.iinc 4 1, 3) := zDec_at zB_dX12_dueOf_72 25 rfl
theorem dX12_dueOf_115 : decode cX12_dueOf 115 = .ok (.goto (-112), 3) := zDec_at zB_dX12_dueOf_72 26 rfl
theorem dX12_dueOf_118 : decode cX12_dueOf 118 = .ok (.sipush 1000, 3) := zDec_at zB_dX12_dueOf_72 27 rfl
theorem dX12_dueOf_121 : decode cX12_dueOf 121 = .ok (.ireturn, 1) := zDec_at zB_dX12_dueOf_72 28 rfl
theorem zB_dX12_end_0 : zDecB cX12_end [(0, .aload_n 0, 1), (1, .iconst 0, 1), (2, .putfield 92, 3), (5, .iload_n 1, 1), (6, .ifCond .lt 11, 3), (9, .iload_n 1, 1), (10, .aload_n 0, 1), (11, .getfield 193, 3), (14, .if_icmp .le 5, 3), (17, .iconst (-1), 1), (18, .ireturn, 1), (19, .aload_n 0, 1), (20, .iload_n 1, 1), (21, .putfield 193, 3), (24, .iload_n 1, 1), (25, .ireturn, 1)] = true := by decide +kernel
theorem dX12_end_0 : decode cX12_end 0 = .ok (.aload_n 0, 1) := zDec_at zB_dX12_end_0 0 rfl
theorem dX12_end_1 : decode cX12_end 1 = .ok (.iconst 0, 1) := zDec_at zB_dX12_end_0 1 rfl
theorem dX12_end_2 : decode cX12_end 2 = .ok (.putfield 92, 3) := zDec_at zB_dX12_end_0 2 rfl
theorem dX12_end_5 : decode cX12_end 5 = .ok (.iload_n 1, 1) := zDec_at zB_dX12_end_0 3 rfl
theorem dX12_end_6 : decode cX12_end 6 = .ok (.ifCond .lt 11, 3) := zDec_at zB_dX12_end_0 4 rfl
theorem dX12_end_9 : decode cX12_end 9 = .ok (.iload_n 1, 1) := zDec_at zB_dX12_end_0 5 rfl
theorem dX12_end_10 : decode cX12_end 10 = .ok (.aload_n 0, 1) := zDec_at zB_dX12_end_0 6 rfl
theorem dX12_end_11 : decode cX12_end 11 = .ok (.getfield 193, 3) := zDec_at zB_dX12_end_0 7 rfl
theorem dX12_end_14 : decode cX12_end 14 = .ok (.if_icmp .le 5, 3) := zDec_at zB_dX12_end_0 8 rfl
theorem dX12_end_17 : decode cX12_end 17 = .ok (.iconst (-1), 1) := zDec_at zB_dX12_end_0 9 rfl
theorem dX12_end_18 : decode cX12_end 18 = .ok (.ireturn, 1) := zDec_at zB_dX12_end_0 10 rfl
theorem dX12_end_19 : decode cX12_end 19 = .ok (.aload_n 0, 1) := zDec_at zB_dX12_end_0 11 rfl
theorem dX12_end_20 : decode cX12_end 20 = .ok (.iload_n 1, 1) := zDec_at zB_dX12_end_0 12 rfl
theorem dX12_end_21 : decode cX12_end 21 = .ok (.putfield 193, 3) := zDec_at zB_dX12_end_0 13 rfl
theorem dX12_end_24 : decode cX12_end 24 = .ok (.iload_n 1, 1) := zDec_at zB_dX12_end_0 14 rfl
theorem dX12_end_25 : decode cX12_end 25 = .ok (.ireturn, 1) := zDec_at zB_dX12_end_0 15 rfl
theorem zB_dX12_failed_0 : zDecB cX12_failed [(0, .aload_n 0, 1), (1, .iconst 0, 1), (2, .putfield 92, 3), (5, .iload_n 1, 1), (6, .i2l, 1), (7, .lconst 0, 1), (8, .ldc2_w 116, 3), (11, .invokestatic 100, 3), (14, .ifCond .eq 10, 3), (17, .iload_n 2, 1), (18, .invokestatic 145, 3), (21, .ifCond .ne 9, 3), (24, .aload_n 0, 1), (25, .iconst (-1), 1), (26, .invokevirtual 106, 3), (29, .ireturn, 1), (30, .aload_n 0, 1), (31, .iload_n 1, 1), (32, .iload_n 2, 1), (33, .invokevirtual 148, 3), (36, .ifCond .eq 10, 3), (39, .aload_n 0, 1), (40, .bipush (-4), 2), (42, .invokevirtual 106, 3), (45, .ireturn, 1), (46, .aload_n 0, 1), (47, .getfield 7, 3), (50, .bipush 9, 2), (52, .iaload, 1), (53, .bipush 60, 2), (55, .if_icmp .ne 10, 3), (58, .aload_n 0, 1), (59, .bipush (-5), 2), (61, .invokevirtual 106, 3), (64, .ireturn, 1), (65, .aload_n 0, 1), (66, .getfield 7, 3), (69, .sipush 3300, 3), (72, .iconst 2, 1), (73, .aload_n 0, 1)] = true := by decide +kernel
theorem dX12_failed_0 : decode cX12_failed 0 = .ok (.aload_n 0, 1) := zDec_at zB_dX12_failed_0 0 rfl
theorem dX12_failed_1 : decode cX12_failed 1 = .ok (.iconst 0, 1) := zDec_at zB_dX12_failed_0 1 rfl
theorem dX12_failed_2 : decode cX12_failed 2 = .ok (.putfield 92, 3) := zDec_at zB_dX12_failed_0 2 rfl
theorem dX12_failed_5 : decode cX12_failed 5 = .ok (.iload_n 1, 1) := zDec_at zB_dX12_failed_0 3 rfl
theorem dX12_failed_6 : decode cX12_failed 6 = .ok (.i2l, 1) := zDec_at zB_dX12_failed_0 4 rfl
theorem dX12_failed_7 : decode cX12_failed 7 = .ok (.lconst 0, 1) := zDec_at zB_dX12_failed_0 5 rfl
theorem dX12_failed_8 : decode cX12_failed 8 = .ok (.ldc2_w 116, 3) := zDec_at zB_dX12_failed_0 6 rfl
theorem dX12_failed_11 : decode cX12_failed 11 = .ok (.invokestatic 100, 3) := zDec_at zB_dX12_failed_0 7 rfl
theorem dX12_failed_14 : decode cX12_failed 14 = .ok (.ifCond .eq 10, 3) := zDec_at zB_dX12_failed_0 8 rfl
theorem dX12_failed_17 : decode cX12_failed 17 = .ok (.iload_n 2, 1) := zDec_at zB_dX12_failed_0 9 rfl
theorem dX12_failed_18 : decode cX12_failed 18 = .ok (.invokestatic 145, 3) := zDec_at zB_dX12_failed_0 10 rfl
theorem dX12_failed_21 : decode cX12_failed 21 = .ok (.ifCond .ne 9, 3) := zDec_at zB_dX12_failed_0 11 rfl
theorem dX12_failed_24 : decode cX12_failed 24 = .ok (.aload_n 0, 1) := zDec_at zB_dX12_failed_0 12 rfl
theorem dX12_failed_25 : decode cX12_failed 25 = .ok (.iconst (-1), 1) := zDec_at zB_dX12_failed_0 13 rfl
theorem dX12_failed_26 : decode cX12_failed 26 = .ok (.invokevirtual 106, 3) := zDec_at zB_dX12_failed_0 14 rfl
theorem dX12_failed_29 : decode cX12_failed 29 = .ok (.ireturn, 1) := zDec_at zB_dX12_failed_0 15 rfl
theorem dX12_failed_30 : decode cX12_failed 30 = .ok (.aload_n 0, 1) := zDec_at zB_dX12_failed_0 16 rfl
theorem dX12_failed_31 : decode cX12_failed 31 = .ok (.iload_n 1, 1) := zDec_at zB_dX12_failed_0 17 rfl
theorem dX12_failed_32 : decode cX12_failed 32 = .ok (.iload_n 2, 1) := zDec_at zB_dX12_failed_0 18 rfl
theorem dX12_failed_33 : decode cX12_failed 33 = .ok (.invokevirtual 148, 3) := zDec_at zB_dX12_failed_0 19 rfl
theorem dX12_failed_36 : decode cX12_failed 36 = .ok (.ifCond .eq 10, 3) := zDec_at zB_dX12_failed_0 20 rfl
theorem dX12_failed_39 : decode cX12_failed 39 = .ok (.aload_n 0, 1) := zDec_at zB_dX12_failed_0 21 rfl
theorem dX12_failed_40 : decode cX12_failed 40 = .ok (.bipush (-4), 2) := zDec_at zB_dX12_failed_0 22 rfl
theorem dX12_failed_42 : decode cX12_failed 42 = .ok (.invokevirtual 106, 3) := zDec_at zB_dX12_failed_0 23 rfl
theorem dX12_failed_45 : decode cX12_failed 45 = .ok (.ireturn, 1) := zDec_at zB_dX12_failed_0 24 rfl
theorem dX12_failed_46 : decode cX12_failed 46 = .ok (.aload_n 0, 1) := zDec_at zB_dX12_failed_0 25 rfl
theorem dX12_failed_47 : decode cX12_failed 47 = .ok (.getfield 7, 3) := zDec_at zB_dX12_failed_0 26 rfl
theorem dX12_failed_50 : decode cX12_failed 50 = .ok (.bipush 9, 2) := zDec_at zB_dX12_failed_0 27 rfl
theorem dX12_failed_52 : decode cX12_failed 52 = .ok (.iaload, 1) := zDec_at zB_dX12_failed_0 28 rfl
theorem dX12_failed_53 : decode cX12_failed 53 = .ok (.bipush 60, 2) := zDec_at zB_dX12_failed_0 29 rfl
theorem dX12_failed_55 : decode cX12_failed 55 = .ok (.if_icmp .ne 10, 3) := zDec_at zB_dX12_failed_0 30 rfl
theorem dX12_failed_58 : decode cX12_failed 58 = .ok (.aload_n 0, 1) := zDec_at zB_dX12_failed_0 31 rfl
theorem dX12_failed_59 : decode cX12_failed 59 = .ok (.bipush (-5), 2) := zDec_at zB_dX12_failed_0 32 rfl
theorem dX12_failed_61 : decode cX12_failed 61 = .ok (.invokevirtual 106, 3) := zDec_at zB_dX12_failed_0 33 rfl
theorem dX12_failed_64 : decode cX12_failed 64 = .ok (.ireturn, 1) := zDec_at zB_dX12_failed_0 34 rfl
theorem dX12_failed_65 : decode cX12_failed 65 = .ok (.aload_n 0, 1) := zDec_at zB_dX12_failed_0 35 rfl
theorem dX12_failed_66 : decode cX12_failed 66 = .ok (.getfield 7, 3) := zDec_at zB_dX12_failed_0 36 rfl
theorem dX12_failed_69 : decode cX12_failed 69 = .ok (.sipush 3300, 3) := zDec_at zB_dX12_failed_0 37 rfl
theorem dX12_failed_72 : decode cX12_failed 72 = .ok (.iconst 2, 1) := zDec_at zB_dX12_failed_0 38 rfl
theorem dX12_failed_73 : decode cX12_failed 73 = .ok (.aload_n 0, 1) := zDec_at zB_dX12_failed_0 39 rfl
theorem zB_dX12_failed_74 : zDecB cX12_failed [(74, .getfield 7, 3), (77, .bipush 9, 2), (79, .iaload, 1), (80, .imul, 1), (81, .iadd, 1), (82, .iload_n 1, 1), (83, .iastore, 1), (84, .aload_n 0, 1), (85, .getfield 7, 3), (88, .sipush 3300, 3), (91, .iconst 2, 1), (92, .aload_n 0, 1), (93, .getfield 7, 3), (96, .bipush 9, 2), (98, .iaload, 1), (99, .imul, 1), (100, .iadd, 1), (101, .iconst 1, 1), (102, .iadd, 1), (103, .iload_n 2, 1), (104, .iastore, 1), (105, .aload_n 0, 1), (106, .getfield 7, 3), (109, .bipush 9, 2), (111, .dup2, 1), (112, .iaload, 1), (113, .iconst 1, 1), (114, .iadd, 1), (115, .iastore, 1), (116, .aload_n 0, 1), (117, .aload_n 0, 1), (118, .getfield 7, 3), (121, .bipush 9, 2), (123, .iaload, 1), (124, .invokevirtual 106, 3), (127, .ireturn, 1)] = true := by decide +kernel
theorem dX12_failed_74 : decode cX12_failed 74 = .ok (.getfield 7, 3) := zDec_at zB_dX12_failed_74 0 rfl
theorem dX12_failed_77 : decode cX12_failed 77 = .ok (.bipush 9, 2) := zDec_at zB_dX12_failed_74 1 rfl
theorem dX12_failed_79 : decode cX12_failed 79 = .ok (.iaload, 1) := zDec_at zB_dX12_failed_74 2 rfl
theorem dX12_failed_80 : decode cX12_failed 80 = .ok (.imul, 1) := zDec_at zB_dX12_failed_74 3 rfl
theorem dX12_failed_81 : decode cX12_failed 81 = .ok (.iadd, 1) := zDec_at zB_dX12_failed_74 4 rfl
theorem dX12_failed_82 : decode cX12_failed 82 = .ok (.iload_n 1, 1) := zDec_at zB_dX12_failed_74 5 rfl
theorem dX12_failed_83 : decode cX12_failed 83 = .ok (.iastore, 1) := zDec_at zB_dX12_failed_74 6 rfl
theorem dX12_failed_84 : decode cX12_failed 84 = .ok (.aload_n 0, 1) := zDec_at zB_dX12_failed_74 7 rfl
theorem dX12_failed_85 : decode cX12_failed 85 = .ok (.getfield 7, 3) := zDec_at zB_dX12_failed_74 8 rfl
theorem dX12_failed_88 : decode cX12_failed 88 = .ok (.sipush 3300, 3) := zDec_at zB_dX12_failed_74 9 rfl
theorem dX12_failed_91 : decode cX12_failed 91 = .ok (.iconst 2, 1) := zDec_at zB_dX12_failed_74 10 rfl
theorem dX12_failed_92 : decode cX12_failed 92 = .ok (.aload_n 0, 1) := zDec_at zB_dX12_failed_74 11 rfl
theorem dX12_failed_93 : decode cX12_failed 93 = .ok (.getfield 7, 3) := zDec_at zB_dX12_failed_74 12 rfl
theorem dX12_failed_96 : decode cX12_failed 96 = .ok (.bipush 9, 2) := zDec_at zB_dX12_failed_74 13 rfl
theorem dX12_failed_98 : decode cX12_failed 98 = .ok (.iaload, 1) := zDec_at zB_dX12_failed_74 14 rfl
theorem dX12_failed_99 : decode cX12_failed 99 = .ok (.imul, 1) := zDec_at zB_dX12_failed_74 15 rfl
theorem dX12_failed_100 : decode cX12_failed 100 = .ok (.iadd, 1) := zDec_at zB_dX12_failed_74 16 rfl
theorem dX12_failed_101 : decode cX12_failed 101 = .ok (.iconst 1, 1) := zDec_at zB_dX12_failed_74 17 rfl
theorem dX12_failed_102 : decode cX12_failed 102 = .ok (.iadd, 1) := zDec_at zB_dX12_failed_74 18 rfl
theorem dX12_failed_103 : decode cX12_failed 103 = .ok (.iload_n 2, 1) := zDec_at zB_dX12_failed_74 19 rfl
theorem dX12_failed_104 : decode cX12_failed 104 = .ok (.iastore, 1) := zDec_at zB_dX12_failed_74 20 rfl
theorem dX12_failed_105 : decode cX12_failed 105 = .ok (.aload_n 0, 1) := zDec_at zB_dX12_failed_74 21 rfl
theorem dX12_failed_106 : decode cX12_failed 106 = .ok (.getfield 7, 3) := zDec_at zB_dX12_failed_74 22 rfl
theorem dX12_failed_109 : decode cX12_failed 109 = .ok (.bipush 9, 2) := zDec_at zB_dX12_failed_74 23 rfl
theorem dX12_failed_111 : decode cX12_failed 111 = .ok (.dup2, 1) := zDec_at zB_dX12_failed_74 24 rfl
theorem dX12_failed_112 : decode cX12_failed 112 = .ok (.iaload, 1) := zDec_at zB_dX12_failed_74 25 rfl
theorem dX12_failed_113 : decode cX12_failed 113 = .ok (.iconst 1, 1) := zDec_at zB_dX12_failed_74 26 rfl
theorem dX12_failed_114 : decode cX12_failed 114 = .ok (.iadd, 1) := zDec_at zB_dX12_failed_74 27 rfl
theorem dX12_failed_115 : decode cX12_failed 115 = .ok (.iastore, 1) := zDec_at zB_dX12_failed_74 28 rfl
theorem dX12_failed_116 : decode cX12_failed 116 = .ok (.aload_n 0, 1) := zDec_at zB_dX12_failed_74 29 rfl
theorem dX12_failed_117 : decode cX12_failed 117 = .ok (.aload_n 0, 1) := zDec_at zB_dX12_failed_74 30 rfl
theorem dX12_failed_118 : decode cX12_failed 118 = .ok (.getfield 7, 3) := zDec_at zB_dX12_failed_74 31 rfl
theorem dX12_failed_121 : decode cX12_failed 121 = .ok (.bipush 9, 2) := zDec_at zB_dX12_failed_74 32 rfl
theorem dX12_failed_123 : decode cX12_failed 123 = .ok (.iaload, 1) := zDec_at zB_dX12_failed_74 33 rfl
theorem dX12_failed_124 : decode cX12_failed 124 = .ok (.invokevirtual 106, 3) := zDec_at zB_dX12_failed_74 34 rfl
theorem dX12_failed_127 : decode cX12_failed 127 = .ok (.ireturn, 1) := zDec_at zB_dX12_failed_74 35 rfl
theorem zB_dX12_far_0 : zDecB cX12_far [(0, .aload_n 0, 1), (1, .getfield 7, 3), (4, .sipush 6998, 3), (7, .iconst 3, 1), (8, .iload_n 1, 1), (9, .imul, 1), (10, .iadd, 1), (11, .iaload, 1), (12, .invokestatic 120, 3), (15, .istore 4, 2), (17, .aload_n 0, 1), (18, .getfield 7, 3), (21, .iload 4, 2), (23, .iconst 3, 1), (24, .iadd, 1), (25, .iaload, 1), (26, .iload_n 2, 1), (27, .isub, 1), (28, .istore 5, 2), (30, .aload_n 0, 1), (31, .getfield 7, 3), (34, .iload 4, 2), (36, .iconst 4, 1), (37, .iadd, 1), (38, .iaload, 1), (39, .iload_n 3, 1), (40, .isub, 1), (41, .istore 6, 2), (43, .iload 5, 2), (45, .ifCond .ge 9, 3), (48, .iload 5, 2), (50, .ineg, 1), (51, .goto 5, 3), (54, .iload 5, 2), (56, .iload 6, 2), (58, .ifCond .ge 9, 3), (61, .iload 6, 2), (63, .ineg, 1), (64, .goto 5, 3), (67, .iload 6, 2)] = true := by decide +kernel
theorem dX12_far_0 : decode cX12_far 0 = .ok (.aload_n 0, 1) := zDec_at zB_dX12_far_0 0 rfl
theorem dX12_far_1 : decode cX12_far 1 = .ok (.getfield 7, 3) := zDec_at zB_dX12_far_0 1 rfl
theorem dX12_far_4 : decode cX12_far 4 = .ok (.sipush 6998, 3) := zDec_at zB_dX12_far_0 2 rfl
theorem dX12_far_7 : decode cX12_far 7 = .ok (.iconst 3, 1) := zDec_at zB_dX12_far_0 3 rfl
theorem dX12_far_8 : decode cX12_far 8 = .ok (.iload_n 1, 1) := zDec_at zB_dX12_far_0 4 rfl
theorem dX12_far_9 : decode cX12_far 9 = .ok (.imul, 1) := zDec_at zB_dX12_far_0 5 rfl
theorem dX12_far_10 : decode cX12_far 10 = .ok (.iadd, 1) := zDec_at zB_dX12_far_0 6 rfl
theorem dX12_far_11 : decode cX12_far 11 = .ok (.iaload, 1) := zDec_at zB_dX12_far_0 7 rfl
theorem dX12_far_12 : decode cX12_far 12 = .ok (.invokestatic 120, 3) := zDec_at zB_dX12_far_0 8 rfl
theorem dX12_far_15 : decode cX12_far 15 = .ok (.istore 4, 2) := zDec_at zB_dX12_far_0 9 rfl
theorem dX12_far_17 : decode cX12_far 17 = .ok (.aload_n 0, 1) := zDec_at zB_dX12_far_0 10 rfl
theorem dX12_far_18 : decode cX12_far 18 = .ok (.getfield 7, 3) := zDec_at zB_dX12_far_0 11 rfl
theorem dX12_far_21 : decode cX12_far 21 = .ok (.iload 4, 2) := zDec_at zB_dX12_far_0 12 rfl
theorem dX12_far_23 : decode cX12_far 23 = .ok (.iconst 3, 1) := zDec_at zB_dX12_far_0 13 rfl
theorem dX12_far_24 : decode cX12_far 24 = .ok (.iadd, 1) := zDec_at zB_dX12_far_0 14 rfl
theorem dX12_far_25 : decode cX12_far 25 = .ok (.iaload, 1) := zDec_at zB_dX12_far_0 15 rfl
theorem dX12_far_26 : decode cX12_far 26 = .ok (.iload_n 2, 1) := zDec_at zB_dX12_far_0 16 rfl
theorem dX12_far_27 : decode cX12_far 27 = .ok (.isub, 1) := zDec_at zB_dX12_far_0 17 rfl
theorem dX12_far_28 : decode cX12_far 28 = .ok (.istore 5, 2) := zDec_at zB_dX12_far_0 18 rfl
theorem dX12_far_30 : decode cX12_far 30 = .ok (.aload_n 0, 1) := zDec_at zB_dX12_far_0 19 rfl
theorem dX12_far_31 : decode cX12_far 31 = .ok (.getfield 7, 3) := zDec_at zB_dX12_far_0 20 rfl
theorem dX12_far_34 : decode cX12_far 34 = .ok (.iload 4, 2) := zDec_at zB_dX12_far_0 21 rfl
theorem dX12_far_36 : decode cX12_far 36 = .ok (.iconst 4, 1) := zDec_at zB_dX12_far_0 22 rfl
theorem dX12_far_37 : decode cX12_far 37 = .ok (.iadd, 1) := zDec_at zB_dX12_far_0 23 rfl
theorem dX12_far_38 : decode cX12_far 38 = .ok (.iaload, 1) := zDec_at zB_dX12_far_0 24 rfl
theorem dX12_far_39 : decode cX12_far 39 = .ok (.iload_n 3, 1) := zDec_at zB_dX12_far_0 25 rfl
theorem dX12_far_40 : decode cX12_far 40 = .ok (.isub, 1) := zDec_at zB_dX12_far_0 26 rfl
theorem dX12_far_41 : decode cX12_far 41 = .ok (.istore 6, 2) := zDec_at zB_dX12_far_0 27 rfl
theorem dX12_far_43 : decode cX12_far 43 = .ok (.iload 5, 2) := zDec_at zB_dX12_far_0 28 rfl
theorem dX12_far_45 : decode cX12_far 45 = .ok (.ifCond .ge 9, 3) := zDec_at zB_dX12_far_0 29 rfl
theorem dX12_far_48 : decode cX12_far 48 = .ok (.iload 5, 2) := zDec_at zB_dX12_far_0 30 rfl
theorem dX12_far_50 : decode cX12_far 50 = .ok (.ineg, 1) := zDec_at zB_dX12_far_0 31 rfl
theorem dX12_far_51 : decode cX12_far 51 = .ok (.goto 5, 3) := zDec_at zB_dX12_far_0 32 rfl
theorem dX12_far_54 : decode cX12_far 54 = .ok (.iload 5, 2) := zDec_at zB_dX12_far_0 33 rfl
theorem dX12_far_56 : decode cX12_far 56 = .ok (.iload 6, 2) := zDec_at zB_dX12_far_0 34 rfl
theorem dX12_far_58 : decode cX12_far 58 = .ok (.ifCond .ge 9, 3) := zDec_at zB_dX12_far_0 35 rfl
theorem dX12_far_61 : decode cX12_far 61 = .ok (.iload 6, 2) := zDec_at zB_dX12_far_0 36 rfl
theorem dX12_far_63 : decode cX12_far 63 = .ok (.ineg, 1) := zDec_at zB_dX12_far_0 37 rfl
theorem dX12_far_64 : decode cX12_far 64 = .ok (.goto 5, 3) := zDec_at zB_dX12_far_0 38 rfl
theorem dX12_far_67 : decode cX12_far 67 = .ok (.iload 6, 2) := zDec_at zB_dX12_far_0 39 rfl
theorem dX12_far_69 : decode cX12_far 69 = .ok (.iadd, 1) := by decide +kernel
theorem dX12_far_70 : decode cX12_far 70 = .ok (.ireturn, 1) := by decide +kernel
theorem zB_dX12_fault_0 : zDecB cX12_fault [(0, .aload_n 0, 1), (1, .iconst 0, 1), (2, .putfield 92, 3), (5, .aload_n 0, 1), (6, .getfield 36, 3), (9, .ireturn, 1)] = true := by decide +kernel
theorem dX12_fault_0 : decode cX12_fault 0 = .ok (.aload_n 0, 1) := zDec_at zB_dX12_fault_0 0 rfl
theorem dX12_fault_1 : decode cX12_fault 1 = .ok (.iconst 0, 1) := zDec_at zB_dX12_fault_0 1 rfl
theorem dX12_fault_2 : decode cX12_fault 2 = .ok (.putfield 92, 3) := zDec_at zB_dX12_fault_0 2 rfl
theorem dX12_fault_5 : decode cX12_fault 5 = .ok (.aload_n 0, 1) := zDec_at zB_dX12_fault_0 3 rfl
theorem dX12_fault_6 : decode cX12_fault 6 = .ok (.getfield 36, 3) := zDec_at zB_dX12_fault_0 4 rfl
theorem dX12_fault_9 : decode cX12_fault 9 = .ok (.ireturn, 1) := zDec_at zB_dX12_fault_0 5 rfl
theorem zB_dX12_feed_0 : zDecB cX12_feed [(0, .aload_n 0, 1), (1, .iconst 0, 1), (2, .putfield 92, 3), (5, .aload_n 0, 1), (6, .getfield 193, 3), (9, .bipush 20, 2), (11, .iadd, 1), (12, .sipush 400, 3), (15, .if_icmp .le 5, 3), (18, .iconst (-1), 1), (19, .ireturn, 1), (20, .aload_n 0, 1), (21, .iload_n 1, 1), (22, .invokevirtual 196, 3), (25, .aload_n 0, 1), (26, .iload_n 2, 1), (27, .invokevirtual 196, 3), (30, .aload_n 0, 1), (31, .iload_n 3, 1), (32, .invokevirtual 196, 3), (35, .aload_n 0, 1), (36, .iload 4, 2), (38, .invokevirtual 196, 3), (41, .aload_n 0, 1), (42, .iload 5, 2), (44, .invokevirtual 196, 3), (47, .aload_n 0, 1), (48, .getfield 193, 3), (51, .ireturn, 1)] = true := by decide +kernel
theorem dX12_feed_0 : decode cX12_feed 0 = .ok (.aload_n 0, 1) := zDec_at zB_dX12_feed_0 0 rfl
theorem dX12_feed_1 : decode cX12_feed 1 = .ok (.iconst 0, 1) := zDec_at zB_dX12_feed_0 1 rfl
theorem dX12_feed_2 : decode cX12_feed 2 = .ok (.putfield 92, 3) := zDec_at zB_dX12_feed_0 2 rfl
theorem dX12_feed_5 : decode cX12_feed 5 = .ok (.aload_n 0, 1) := zDec_at zB_dX12_feed_0 3 rfl
theorem dX12_feed_6 : decode cX12_feed 6 = .ok (.getfield 193, 3) := zDec_at zB_dX12_feed_0 4 rfl
theorem dX12_feed_9 : decode cX12_feed 9 = .ok (.bipush 20, 2) := zDec_at zB_dX12_feed_0 5 rfl
theorem dX12_feed_11 : decode cX12_feed 11 = .ok (.iadd, 1) := zDec_at zB_dX12_feed_0 6 rfl
theorem dX12_feed_12 : decode cX12_feed 12 = .ok (.sipush 400, 3) := zDec_at zB_dX12_feed_0 7 rfl
theorem dX12_feed_15 : decode cX12_feed 15 = .ok (.if_icmp .le 5, 3) := zDec_at zB_dX12_feed_0 8 rfl
theorem dX12_feed_18 : decode cX12_feed 18 = .ok (.iconst (-1), 1) := zDec_at zB_dX12_feed_0 9 rfl
theorem dX12_feed_19 : decode cX12_feed 19 = .ok (.ireturn, 1) := zDec_at zB_dX12_feed_0 10 rfl
theorem dX12_feed_20 : decode cX12_feed 20 = .ok (.aload_n 0, 1) := zDec_at zB_dX12_feed_0 11 rfl
theorem dX12_feed_21 : decode cX12_feed 21 = .ok (.iload_n 1, 1) := zDec_at zB_dX12_feed_0 12 rfl
theorem dX12_feed_22 : decode cX12_feed 22 = .ok (.invokevirtual 196, 3) := zDec_at zB_dX12_feed_0 13 rfl
theorem dX12_feed_25 : decode cX12_feed 25 = .ok (.aload_n 0, 1) := zDec_at zB_dX12_feed_0 14 rfl
theorem dX12_feed_26 : decode cX12_feed 26 = .ok (.iload_n 2, 1) := zDec_at zB_dX12_feed_0 15 rfl
theorem dX12_feed_27 : decode cX12_feed 27 = .ok (.invokevirtual 196, 3) := zDec_at zB_dX12_feed_0 16 rfl
theorem dX12_feed_30 : decode cX12_feed 30 = .ok (.aload_n 0, 1) := zDec_at zB_dX12_feed_0 17 rfl
theorem dX12_feed_31 : decode cX12_feed 31 = .ok (.iload_n 3, 1) := zDec_at zB_dX12_feed_0 18 rfl
theorem dX12_feed_32 : decode cX12_feed 32 = .ok (.invokevirtual 196, 3) := zDec_at zB_dX12_feed_0 19 rfl
theorem dX12_feed_35 : decode cX12_feed 35 = .ok (.aload_n 0, 1) := zDec_at zB_dX12_feed_0 20 rfl
theorem dX12_feed_36 : decode cX12_feed 36 = .ok (.iload 4, 2) := zDec_at zB_dX12_feed_0 21 rfl
theorem dX12_feed_38 : decode cX12_feed 38 = .ok (.invokevirtual 196, 3) := zDec_at zB_dX12_feed_0 22 rfl
theorem dX12_feed_41 : decode cX12_feed 41 = .ok (.aload_n 0, 1) := zDec_at zB_dX12_feed_0 23 rfl
theorem dX12_feed_42 : decode cX12_feed 42 = .ok (.iload 5, 2) := zDec_at zB_dX12_feed_0 24 rfl
theorem dX12_feed_44 : decode cX12_feed 44 = .ok (.invokevirtual 196, 3) := zDec_at zB_dX12_feed_0 25 rfl
theorem dX12_feed_47 : decode cX12_feed 47 = .ok (.aload_n 0, 1) := zDec_at zB_dX12_feed_0 26 rfl
theorem dX12_feed_48 : decode cX12_feed 48 = .ok (.getfield 193, 3) := zDec_at zB_dX12_feed_0 27 rfl
theorem dX12_feed_51 : decode cX12_feed 51 = .ok (.ireturn, 1) := zDec_at zB_dX12_feed_0 28 rfl
theorem zB_dX12_find_0 : zDecB cX12_find [(0, .aload_n 0, 1), (1, .iconst (-1), 1), (2, .putfield 181, 3), (5, .lconst 0, 1), (6, .lstore 4, 2), (8, .iconst 0, 1), (9, .istore 6, 2), (11, .iload 6, 2), (13, .aload_n 0, 1), (14, .getfield 7, 3), (17, .iconst 4, 1), (18, .iaload, 1), (19, .if_icmp .ge 166, 3), (22, .iconst 0, 1), (23, .istore 7, 2), (25, .iload 7, 2), (27, .aload_n 0, 1), (28, .getfield 7, 3), (31, .iload 6, 2), (33, .invokestatic 403, 3), (36, .iconst 1, 1), (37, .iadd, 1), (38, .iaload, 1), (39, .if_icmp .ge 140, 3), (42, .aload_n 0, 1), (43, .getfield 55, 3), (46, .iload 6, 2), (48, .baload, 1), (49, .ifCond .eq 130, 3), (52, .iload 6, 2), (54, .iload 7, 2), (56, .invokestatic 409, 3), (59, .istore 8, 2), (61, .aload_n 0, 1), (62, .getfield 7, 3), (65, .iload 8, 2), (67, .iaload, 1), (68, .iload_n 1, 1), (69, .if_icmp .ne 54, 3), (72, .aload_n 0, 1)] = true := by decide +kernel
theorem dX12_find_0 : decode cX12_find 0 = .ok (.aload_n 0, 1) := zDec_at zB_dX12_find_0 0 rfl
theorem dX12_find_1 : decode cX12_find 1 = .ok (.iconst (-1), 1) := zDec_at zB_dX12_find_0 1 rfl
theorem dX12_find_2 : decode cX12_find 2 = .ok (.putfield 181, 3) := zDec_at zB_dX12_find_0 2 rfl
theorem dX12_find_5 : decode cX12_find 5 = .ok (.lconst 0, 1) := zDec_at zB_dX12_find_0 3 rfl
theorem dX12_find_6 : decode cX12_find 6 = .ok (.lstore 4, 2) := zDec_at zB_dX12_find_0 4 rfl
theorem dX12_find_8 : decode cX12_find 8 = .ok (.iconst 0, 1) := zDec_at zB_dX12_find_0 5 rfl
theorem dX12_find_9 : decode cX12_find 9 = .ok (.istore 6, 2) := zDec_at zB_dX12_find_0 6 rfl
theorem dX12_find_11 : decode cX12_find 11 = .ok (.iload 6, 2) := zDec_at zB_dX12_find_0 7 rfl
theorem dX12_find_13 : decode cX12_find 13 = .ok (.aload_n 0, 1) := zDec_at zB_dX12_find_0 8 rfl
theorem dX12_find_14 : decode cX12_find 14 = .ok (.getfield 7, 3) := zDec_at zB_dX12_find_0 9 rfl
theorem dX12_find_17 : decode cX12_find 17 = .ok (.iconst 4, 1) := zDec_at zB_dX12_find_0 10 rfl
theorem dX12_find_18 : decode cX12_find 18 = .ok (.iaload, 1) := zDec_at zB_dX12_find_0 11 rfl
theorem dX12_find_19 : decode cX12_find 19 = .ok (.if_icmp .ge 166, 3) := zDec_at zB_dX12_find_0 12 rfl
theorem dX12_find_22 : decode cX12_find 22 = .ok (.iconst 0, 1) := zDec_at zB_dX12_find_0 13 rfl
theorem dX12_find_23 : decode cX12_find 23 = .ok (.istore 7, 2) := zDec_at zB_dX12_find_0 14 rfl
theorem dX12_find_25 : decode cX12_find 25 = .ok (.iload 7, 2) := zDec_at zB_dX12_find_0 15 rfl
theorem dX12_find_27 : decode cX12_find 27 = .ok (.aload_n 0, 1) := zDec_at zB_dX12_find_0 16 rfl
theorem dX12_find_28 : decode cX12_find 28 = .ok (.getfield 7, 3) := zDec_at zB_dX12_find_0 17 rfl
theorem dX12_find_31 : decode cX12_find 31 = .ok (.iload 6, 2) := zDec_at zB_dX12_find_0 18 rfl
theorem dX12_find_33 : decode cX12_find 33 = .ok (.invokestatic 403, 3) := zDec_at zB_dX12_find_0 19 rfl
theorem dX12_find_36 : decode cX12_find 36 = .ok (.iconst 1, 1) := zDec_at zB_dX12_find_0 20 rfl
theorem dX12_find_37 : decode cX12_find 37 = .ok (.iadd, 1) := zDec_at zB_dX12_find_0 21 rfl
theorem dX12_find_38 : decode cX12_find 38 = .ok (.iaload, 1) := zDec_at zB_dX12_find_0 22 rfl
theorem dX12_find_39 : decode cX12_find 39 = .ok (.if_icmp .ge 140, 3) := zDec_at zB_dX12_find_0 23 rfl
theorem dX12_find_42 : decode cX12_find 42 = .ok (.aload_n 0, 1) := zDec_at zB_dX12_find_0 24 rfl
theorem dX12_find_43 : decode cX12_find 43 = .ok (.getfield 55, 3) := zDec_at zB_dX12_find_0 25 rfl
theorem dX12_find_46 : decode cX12_find 46 = .ok (.iload 6, 2) := zDec_at zB_dX12_find_0 26 rfl
theorem dX12_find_48 : decode cX12_find 48 = .ok (.baload, 1) := zDec_at zB_dX12_find_0 27 rfl
theorem dX12_find_49 : decode cX12_find 49 = .ok (.ifCond .eq 130, 3) := zDec_at zB_dX12_find_0 28 rfl
theorem dX12_find_52 : decode cX12_find 52 = .ok (.iload 6, 2) := zDec_at zB_dX12_find_0 29 rfl
theorem dX12_find_54 : decode cX12_find 54 = .ok (.iload 7, 2) := zDec_at zB_dX12_find_0 30 rfl
theorem dX12_find_56 : decode cX12_find 56 = .ok (.invokestatic 409, 3) := zDec_at zB_dX12_find_0 31 rfl
theorem dX12_find_59 : decode cX12_find 59 = .ok (.istore 8, 2) := zDec_at zB_dX12_find_0 32 rfl
theorem dX12_find_61 : decode cX12_find 61 = .ok (.aload_n 0, 1) := zDec_at zB_dX12_find_0 33 rfl
theorem dX12_find_62 : decode cX12_find 62 = .ok (.getfield 7, 3) := zDec_at zB_dX12_find_0 34 rfl
theorem dX12_find_65 : decode cX12_find 65 = .ok (.iload 8, 2) := zDec_at zB_dX12_find_0 35 rfl
theorem dX12_find_67 : decode cX12_find 67 = .ok (.iaload, 1) := zDec_at zB_dX12_find_0 36 rfl
theorem dX12_find_68 : decode cX12_find 68 = .ok (.iload_n 1, 1) := zDec_at zB_dX12_find_0 37 rfl
theorem dX12_find_69 : decode cX12_find 69 = .ok (.if_icmp .ne 54, 3) := zDec_at zB_dX12_find_0 38 rfl
theorem dX12_find_72 : decode cX12_find 72 = .ok (.aload_n 0, 1) := zDec_at zB_dX12_find_0 39 rfl
theorem zB_dX12_find_73 : zDecB cX12_find [(73, .getfield 7, 3), (76, .iload 8, 2), (78, .iconst 1, 1), (79, .iadd, 1), (80, .iaload, 1), (81, .iload_n 2, 1), (82, .if_icmp .ne 41, 3), (85, .iload_n 3, 1), (86, .iconst (-1), 1), (87, .if_icmp .eq 16, 3), (90, .aload_n 0, 1), (91, .getfield 7, 3), (94, .iload 8, 2), (96, .iconst 2, 1), (97, .iadd, 1), (98, .iaload, 1), (99, .iload_n 3, 1), (100, .if_icmp .ne 23, 3), (103, .aload_n 0, 1), (104, .getfield 58, 3), (107, .bipush 12, 2), (109, .iload 6, 2), (111, .imul, 1), (112, .iload 7, 2), (114, .iadd, 1), (115, .baload, 1), (116, .ifCond .ne 7, 3), (119, .iconst 1, 1), (120, .goto 4, 3), (123, .iconst 0, 1), (124, .istore 9, 2), (126, .iload 9, 2), (128, .ifCond .eq 45, 3), (131, .aload_n 0, 1), (132, .iload 6, 2), (134, .iload 8, 2), (136, .invokevirtual 430, 3), (139, .ifCond .eq 34, 3), (142, .aload_n 0, 1), (143, .bipush 12, 2)] = true := by decide +kernel
theorem dX12_find_73 : decode cX12_find 73 = .ok (.getfield 7, 3) := zDec_at zB_dX12_find_73 0 rfl
theorem dX12_find_76 : decode cX12_find 76 = .ok (.iload 8, 2) := zDec_at zB_dX12_find_73 1 rfl
theorem dX12_find_78 : decode cX12_find 78 = .ok (.iconst 1, 1) := zDec_at zB_dX12_find_73 2 rfl
theorem dX12_find_79 : decode cX12_find 79 = .ok (.iadd, 1) := zDec_at zB_dX12_find_73 3 rfl
theorem dX12_find_80 : decode cX12_find 80 = .ok (.iaload, 1) := zDec_at zB_dX12_find_73 4 rfl
theorem dX12_find_81 : decode cX12_find 81 = .ok (.iload_n 2, 1) := zDec_at zB_dX12_find_73 5 rfl
theorem dX12_find_82 : decode cX12_find 82 = .ok (.if_icmp .ne 41, 3) := zDec_at zB_dX12_find_73 6 rfl
theorem dX12_find_85 : decode cX12_find 85 = .ok (.iload_n 3, 1) := zDec_at zB_dX12_find_73 7 rfl
theorem dX12_find_86 : decode cX12_find 86 = .ok (.iconst (-1), 1) := zDec_at zB_dX12_find_73 8 rfl
theorem dX12_find_87 : decode cX12_find 87 = .ok (.if_icmp .eq 16, 3) := zDec_at zB_dX12_find_73 9 rfl
theorem dX12_find_90 : decode cX12_find 90 = .ok (.aload_n 0, 1) := zDec_at zB_dX12_find_73 10 rfl
theorem dX12_find_91 : decode cX12_find 91 = .ok (.getfield 7, 3) := zDec_at zB_dX12_find_73 11 rfl
theorem dX12_find_94 : decode cX12_find 94 = .ok (.iload 8, 2) := zDec_at zB_dX12_find_73 12 rfl
theorem dX12_find_96 : decode cX12_find 96 = .ok (.iconst 2, 1) := zDec_at zB_dX12_find_73 13 rfl
theorem dX12_find_97 : decode cX12_find 97 = .ok (.iadd, 1) := zDec_at zB_dX12_find_73 14 rfl
theorem dX12_find_98 : decode cX12_find 98 = .ok (.iaload, 1) := zDec_at zB_dX12_find_73 15 rfl
theorem dX12_find_99 : decode cX12_find 99 = .ok (.iload_n 3, 1) := zDec_at zB_dX12_find_73 16 rfl
theorem dX12_find_100 : decode cX12_find 100 = .ok (.if_icmp .ne 23, 3) := zDec_at zB_dX12_find_73 17 rfl
theorem dX12_find_103 : decode cX12_find 103 = .ok (.aload_n 0, 1) := zDec_at zB_dX12_find_73 18 rfl
theorem dX12_find_104 : decode cX12_find 104 = .ok (.getfield 58, 3) := zDec_at zB_dX12_find_73 19 rfl
theorem dX12_find_107 : decode cX12_find 107 = .ok (.bipush 12, 2) := zDec_at zB_dX12_find_73 20 rfl
theorem dX12_find_109 : decode cX12_find 109 = .ok (.iload 6, 2) := zDec_at zB_dX12_find_73 21 rfl
theorem dX12_find_111 : decode cX12_find 111 = .ok (.imul, 1) := zDec_at zB_dX12_find_73 22 rfl
theorem dX12_find_112 : decode cX12_find 112 = .ok (.iload 7, 2) := zDec_at zB_dX12_find_73 23 rfl
theorem dX12_find_114 : decode cX12_find 114 = .ok (.iadd, 1) := zDec_at zB_dX12_find_73 24 rfl
theorem dX12_find_115 : decode cX12_find 115 = .ok (.baload, 1) := zDec_at zB_dX12_find_73 25 rfl
theorem dX12_find_116 : decode cX12_find 116 = .ok (.ifCond .ne 7, 3) := zDec_at zB_dX12_find_73 26 rfl
theorem dX12_find_119 : decode cX12_find 119 = .ok (.iconst 1, 1) := zDec_at zB_dX12_find_73 27 rfl
theorem dX12_find_120 : decode cX12_find 120 = .ok (.goto 4, 3) := zDec_at zB_dX12_find_73 28 rfl
theorem dX12_find_123 : decode cX12_find 123 = .ok (.iconst 0, 1) := zDec_at zB_dX12_find_73 29 rfl
theorem dX12_find_124 : decode cX12_find 124 = .ok (.istore 9, 2) := zDec_at zB_dX12_find_73 30 rfl
theorem dX12_find_126 : decode cX12_find 126 = .ok (.iload 9, 2) := zDec_at zB_dX12_find_73 31 rfl
theorem dX12_find_128 : decode cX12_find 128 = .ok (.ifCond .eq 45, 3) := zDec_at zB_dX12_find_73 32 rfl
theorem dX12_find_131 : decode cX12_find 131 = .ok (.aload_n 0, 1) := zDec_at zB_dX12_find_73 33 rfl
theorem dX12_find_132 : decode cX12_find 132 = .ok (.iload 6, 2) := zDec_at zB_dX12_find_73 34 rfl
theorem dX12_find_134 : decode cX12_find 134 = .ok (.iload 8, 2) := zDec_at zB_dX12_find_73 35 rfl
theorem dX12_find_136 : decode cX12_find 136 = .ok (.invokevirtual 430, 3) := zDec_at zB_dX12_find_73 36 rfl
theorem dX12_find_139 : decode cX12_find 139 = .ok (.ifCond .eq 34, 3) := zDec_at zB_dX12_find_73 37 rfl
theorem dX12_find_142 : decode cX12_find 142 = .ok (.aload_n 0, 1) := zDec_at zB_dX12_find_73 38 rfl
theorem dX12_find_143 : decode cX12_find 143 = .ok (.bipush 12, 2) := zDec_at zB_dX12_find_73 39 rfl
theorem zB_dX12_find_145 : zDecB cX12_find [(145, .iload 6, 2), (147, .imul, 1), (148, .iload 7, 2), (150, .iadd, 1), (151, .putfield 181, 3), (154, .aload_n 0, 1), (155, .getfield 433, 3), (158, .lstore 4, 2), (160, .aload_n 0, 1), (161, .aload_n 0, 1), (162, .getfield 7, 3), (165, .iload 8, 2), (167, .iconst 2, 1), (168, .iadd, 1), (169, .iaload, 1), (170, .putfield 178, 3), (173, .iinc 7 1, 3), (176, .goto (-151), 3), (179, .iinc 6 1, 3), (182, .goto (-171), 3), (185, .aload_n 0, 1), (186, .lload 4, 2), (188, .putfield 433, 3), (191, .aload_n 0, 1), (192, .getfield 181, 3), (195, .iconst (-1), 1), (196, .if_icmp .eq 7, 3), (199, .iconst 1, 1), (200, .goto 4, 3), (203, .iconst 0, 1), (204, .ireturn, 1)] = true := by decide +kernel
theorem dX12_find_145 : decode cX12_find 145 = .ok (.iload 6, 2) := zDec_at zB_dX12_find_145 0 rfl
theorem dX12_find_147 : decode cX12_find 147 = .ok (.imul, 1) := zDec_at zB_dX12_find_145 1 rfl
theorem dX12_find_148 : decode cX12_find 148 = .ok (.iload 7, 2) := zDec_at zB_dX12_find_145 2 rfl
theorem dX12_find_150 : decode cX12_find 150 = .ok (.iadd, 1) := zDec_at zB_dX12_find_145 3 rfl
theorem dX12_find_151 : decode cX12_find 151 = .ok (.putfield 181, 3) := zDec_at zB_dX12_find_145 4 rfl
theorem dX12_find_154 : decode cX12_find 154 = .ok (.aload_n 0, 1) := zDec_at zB_dX12_find_145 5 rfl
theorem dX12_find_155 : decode cX12_find 155 = .ok (.getfield 433, 3) := zDec_at zB_dX12_find_145 6 rfl
theorem dX12_find_158 : decode cX12_find 158 = .ok (.lstore 4, 2) := zDec_at zB_dX12_find_145 7 rfl
theorem dX12_find_160 : decode cX12_find 160 = .ok (.aload_n 0, 1) := zDec_at zB_dX12_find_145 8 rfl
theorem dX12_find_161 : decode cX12_find 161 = .ok (.aload_n 0, 1) := zDec_at zB_dX12_find_145 9 rfl
theorem dX12_find_162 : decode cX12_find 162 = .ok (.getfield 7, 3) := zDec_at zB_dX12_find_145 10 rfl
theorem dX12_find_165 : decode cX12_find 165 = .ok (.iload 8, 2) := zDec_at zB_dX12_find_145 11 rfl
theorem dX12_find_167 : decode cX12_find 167 = .ok (.iconst 2, 1) := zDec_at zB_dX12_find_145 12 rfl
theorem dX12_find_168 : decode cX12_find 168 = .ok (.iadd, 1) := zDec_at zB_dX12_find_145 13 rfl
theorem dX12_find_169 : decode cX12_find 169 = .ok (.iaload, 1) := zDec_at zB_dX12_find_145 14 rfl
theorem dX12_find_170 : decode cX12_find 170 = .ok (.putfield 178, 3) := zDec_at zB_dX12_find_145 15 rfl
theorem dX12_find_173 : decode cX12_find 173 = .ok (.iinc 7 1, 3) := zDec_at zB_dX12_find_145 16 rfl
theorem dX12_find_176 : decode cX12_find 176 = .ok (.goto (-151), 3) := zDec_at zB_dX12_find_145 17 rfl
theorem dX12_find_179 : decode cX12_find 179 = .ok (.iinc 6 1, 3) := zDec_at zB_dX12_find_145 18 rfl
theorem dX12_find_182 : decode cX12_find 182 = .ok (.goto (-171), 3) := zDec_at zB_dX12_find_145 19 rfl
theorem dX12_find_185 : decode cX12_find 185 = .ok (.aload_n 0, 1) := zDec_at zB_dX12_find_145 20 rfl
theorem dX12_find_186 : decode cX12_find 186 = .ok (.lload 4, 2) := zDec_at zB_dX12_find_145 21 rfl
theorem dX12_find_188 : decode cX12_find 188 = .ok (.putfield 433, 3) := zDec_at zB_dX12_find_145 22 rfl
theorem dX12_find_191 : decode cX12_find 191 = .ok (.aload_n 0, 1) := zDec_at zB_dX12_find_145 23 rfl
theorem dX12_find_192 : decode cX12_find 192 = .ok (.getfield 181, 3) := zDec_at zB_dX12_find_145 24 rfl
theorem dX12_find_195 : decode cX12_find 195 = .ok (.iconst (-1), 1) := zDec_at zB_dX12_find_145 25 rfl
theorem dX12_find_196 : decode cX12_find 196 = .ok (.if_icmp .eq 7, 3) := zDec_at zB_dX12_find_145 26 rfl
theorem dX12_find_199 : decode cX12_find 199 = .ok (.iconst 1, 1) := zDec_at zB_dX12_find_145 27 rfl
theorem dX12_find_200 : decode cX12_find 200 = .ok (.goto 4, 3) := zDec_at zB_dX12_find_145 28 rfl
theorem dX12_find_203 : decode cX12_find 203 = .ok (.iconst 0, 1) := zDec_at zB_dX12_find_145 29 rfl
theorem dX12_find_204 : decode cX12_find 204 = .ok (.ireturn, 1) := zDec_at zB_dX12_find_145 30 rfl
theorem zB_dX12_findForce_0 : zDecB cX12_findForce [(0, .iconst 0, 1), (1, .istore_n 2, 1), (2, .iload_n 2, 1), (3, .bipush 12, 2), (5, .aload_n 0, 1), (6, .getfield 7, 3), (9, .iconst 4, 1), (10, .iaload, 1), (11, .imul, 1), (12, .if_icmp .ge 16, 3), (15, .aload_n 0, 1), (16, .getfield 58, 3), (19, .iload_n 2, 1), (20, .iconst 0, 1), (21, .bastore, 1), (22, .iinc 2 1, 3), (25, .goto (-23), 3), (28, .aload_n 0, 1), (29, .getfield 7, 3), (32, .iconst 4, 1), (33, .iaload, 1), (34, .iconst 1, 1), (35, .isub, 1), (36, .istore_n 2, 1), (37, .iload_n 2, 1), (38, .ifCond .lt 137, 3), (41, .aload_n 0, 1), (42, .getfield 55, 3), (45, .iload_n 2, 1), (46, .aload_n 0, 1), (47, .getfield 7, 3), (50, .iload_n 2, 1), (51, .invokestatic 403, 3), (54, .iaload, 1), (55, .iload_n 1, 1), (56, .if_icmp .gt 7, 3), (59, .iconst 1, 1), (60, .goto 4, 3), (63, .iconst 0, 1), (64, .bastore, 1)] = true := by decide +kernel
theorem dX12_findForce_0 : decode cX12_findForce 0 = .ok (.iconst 0, 1) := zDec_at zB_dX12_findForce_0 0 rfl
theorem dX12_findForce_1 : decode cX12_findForce 1 = .ok (.istore_n 2, 1) := zDec_at zB_dX12_findForce_0 1 rfl
theorem dX12_findForce_2 : decode cX12_findForce 2 = .ok (.iload_n 2, 1) := zDec_at zB_dX12_findForce_0 2 rfl
theorem dX12_findForce_3 : decode cX12_findForce 3 = .ok (.bipush 12, 2) := zDec_at zB_dX12_findForce_0 3 rfl
theorem dX12_findForce_5 : decode cX12_findForce 5 = .ok (.aload_n 0, 1) := zDec_at zB_dX12_findForce_0 4 rfl
theorem dX12_findForce_6 : decode cX12_findForce 6 = .ok (.getfield 7, 3) := zDec_at zB_dX12_findForce_0 5 rfl
theorem dX12_findForce_9 : decode cX12_findForce 9 = .ok (.iconst 4, 1) := zDec_at zB_dX12_findForce_0 6 rfl
theorem dX12_findForce_10 : decode cX12_findForce 10 = .ok (.iaload, 1) := zDec_at zB_dX12_findForce_0 7 rfl
theorem dX12_findForce_11 : decode cX12_findForce 11 = .ok (.imul, 1) := zDec_at zB_dX12_findForce_0 8 rfl
theorem dX12_findForce_12 : decode cX12_findForce 12 = .ok (.if_icmp .ge 16, 3) := zDec_at zB_dX12_findForce_0 9 rfl
theorem dX12_findForce_15 : decode cX12_findForce 15 = .ok (.aload_n 0, 1) := zDec_at zB_dX12_findForce_0 10 rfl
theorem dX12_findForce_16 : decode cX12_findForce 16 = .ok (.getfield 58, 3) := zDec_at zB_dX12_findForce_0 11 rfl
theorem dX12_findForce_19 : decode cX12_findForce 19 = .ok (.iload_n 2, 1) := zDec_at zB_dX12_findForce_0 12 rfl
theorem dX12_findForce_20 : decode cX12_findForce 20 = .ok (.iconst 0, 1) := zDec_at zB_dX12_findForce_0 13 rfl
theorem dX12_findForce_21 : decode cX12_findForce 21 = .ok (.bastore, 1) := zDec_at zB_dX12_findForce_0 14 rfl
theorem dX12_findForce_22 : decode cX12_findForce 22 = .ok (.iinc 2 1, 3) := zDec_at zB_dX12_findForce_0 15 rfl
theorem dX12_findForce_25 : decode cX12_findForce 25 = .ok (.goto (-23), 3) := zDec_at zB_dX12_findForce_0 16 rfl
theorem dX12_findForce_28 : decode cX12_findForce 28 = .ok (.aload_n 0, 1) := zDec_at zB_dX12_findForce_0 17 rfl
theorem dX12_findForce_29 : decode cX12_findForce 29 = .ok (.getfield 7, 3) := zDec_at zB_dX12_findForce_0 18 rfl
theorem dX12_findForce_32 : decode cX12_findForce 32 = .ok (.iconst 4, 1) := zDec_at zB_dX12_findForce_0 19 rfl
theorem dX12_findForce_33 : decode cX12_findForce 33 = .ok (.iaload, 1) := zDec_at zB_dX12_findForce_0 20 rfl
theorem dX12_findForce_34 : decode cX12_findForce 34 = .ok (.iconst 1, 1) := zDec_at zB_dX12_findForce_0 21 rfl
theorem dX12_findForce_35 : decode cX12_findForce 35 = .ok (.isub, 1) := zDec_at zB_dX12_findForce_0 22 rfl
theorem dX12_findForce_36 : decode cX12_findForce 36 = .ok (.istore_n 2, 1) := zDec_at zB_dX12_findForce_0 23 rfl
theorem dX12_findForce_37 : decode cX12_findForce 37 = .ok (.iload_n 2, 1) := zDec_at zB_dX12_findForce_0 24 rfl
theorem dX12_findForce_38 : decode cX12_findForce 38 = .ok (.ifCond .lt 137, 3) := zDec_at zB_dX12_findForce_0 25 rfl
theorem dX12_findForce_41 : decode cX12_findForce 41 = .ok (.aload_n 0, 1) := zDec_at zB_dX12_findForce_0 26 rfl
theorem dX12_findForce_42 : decode cX12_findForce 42 = .ok (.getfield 55, 3) := zDec_at zB_dX12_findForce_0 27 rfl
theorem dX12_findForce_45 : decode cX12_findForce 45 = .ok (.iload_n 2, 1) := zDec_at zB_dX12_findForce_0 28 rfl
theorem dX12_findForce_46 : decode cX12_findForce 46 = .ok (.aload_n 0, 1) := zDec_at zB_dX12_findForce_0 29 rfl
theorem dX12_findForce_47 : decode cX12_findForce 47 = .ok (.getfield 7, 3) := zDec_at zB_dX12_findForce_0 30 rfl
theorem dX12_findForce_50 : decode cX12_findForce 50 = .ok (.iload_n 2, 1) := zDec_at zB_dX12_findForce_0 31 rfl
theorem dX12_findForce_51 : decode cX12_findForce 51 = .ok (.invokestatic 403, 3) := zDec_at zB_dX12_findForce_0 32 rfl
theorem dX12_findForce_54 : decode cX12_findForce 54 = .ok (.iaload, 1) := zDec_at zB_dX12_findForce_0 33 rfl
theorem dX12_findForce_55 : decode cX12_findForce 55 = .ok (.iload_n 1, 1) := zDec_at zB_dX12_findForce_0 34 rfl
theorem dX12_findForce_56 : decode cX12_findForce 56 = .ok (.if_icmp .gt 7, 3) := zDec_at zB_dX12_findForce_0 35 rfl
theorem dX12_findForce_59 : decode cX12_findForce 59 = .ok (.iconst 1, 1) := zDec_at zB_dX12_findForce_0 36 rfl
theorem dX12_findForce_60 : decode cX12_findForce 60 = .ok (.goto 4, 3) := zDec_at zB_dX12_findForce_0 37 rfl
theorem dX12_findForce_63 : decode cX12_findForce 63 = .ok (.iconst 0, 1) := zDec_at zB_dX12_findForce_0 38 rfl
theorem dX12_findForce_64 : decode cX12_findForce 64 = .ok (.bastore, 1) := zDec_at zB_dX12_findForce_0 39 rfl
theorem zB_dX12_findForce_65 : zDecB cX12_findForce [(65, .iconst 0, 1), (66, .istore_n 3, 1), (67, .iload_n 3, 1), (68, .aload_n 0, 1), (69, .getfield 7, 3), (72, .iload_n 2, 1), (73, .invokestatic 403, 3), (76, .iconst 1, 1), (77, .iadd, 1), (78, .iaload, 1), (79, .if_icmp .ge 90, 3), (82, .aload_n 0, 1), (83, .getfield 55, 3), (86, .iload_n 2, 1), (87, .baload, 1), (88, .ifCond .eq 81, 3), (91, .iload_n 2, 1), (92, .iload_n 3, 1), (93, .invokestatic 409, 3), (96, .istore 4, 2), (98, .aload_n 0, 1), (99, .getfield 7, 3), (102, .iload 4, 2), (104, .iaload, 1), (105, .ifCond .ne 58, 3), (108, .aload_n 0, 1), (109, .getfield 58, 3), (112, .bipush 12, 2), (114, .iload_n 2, 1), (115, .imul, 1), (116, .iload_n 3, 1), (117, .iadd, 1), (118, .baload, 1), (119, .ifCond .ne 44, 3), (122, .aload_n 0, 1), (123, .getfield 7, 3), (126, .iload 4, 2), (128, .iconst 1, 1), (129, .iadd, 1), (130, .iaload, 1)] = true := by decide +kernel
theorem dX12_findForce_65 : decode cX12_findForce 65 = .ok (.iconst 0, 1) := zDec_at zB_dX12_findForce_65 0 rfl
theorem dX12_findForce_66 : decode cX12_findForce 66 = .ok (.istore_n 3, 1) := zDec_at zB_dX12_findForce_65 1 rfl
theorem dX12_findForce_67 : decode cX12_findForce 67 = .ok (.iload_n 3, 1) := zDec_at zB_dX12_findForce_65 2 rfl
theorem dX12_findForce_68 : decode cX12_findForce 68 = .ok (.aload_n 0, 1) := zDec_at zB_dX12_findForce_65 3 rfl
theorem dX12_findForce_69 : decode cX12_findForce 69 = .ok (.getfield 7, 3) := zDec_at zB_dX12_findForce_65 4 rfl
theorem dX12_findForce_72 : decode cX12_findForce 72 = .ok (.iload_n 2, 1) := zDec_at zB_dX12_findForce_65 5 rfl
theorem dX12_findForce_73 : decode cX12_findForce 73 = .ok (.invokestatic 403, 3) := zDec_at zB_dX12_findForce_65 6 rfl
theorem dX12_findForce_76 : decode cX12_findForce 76 = .ok (.iconst 1, 1) := zDec_at zB_dX12_findForce_65 7 rfl
theorem dX12_findForce_77 : decode cX12_findForce 77 = .ok (.iadd, 1) := zDec_at zB_dX12_findForce_65 8 rfl
theorem dX12_findForce_78 : decode cX12_findForce 78 = .ok (.iaload, 1) := zDec_at zB_dX12_findForce_65 9 rfl
theorem dX12_findForce_79 : decode cX12_findForce 79 = .ok (.if_icmp .ge 90, 3) := zDec_at zB_dX12_findForce_65 10 rfl
theorem dX12_findForce_82 : decode cX12_findForce 82 = .ok (.aload_n 0, 1) := zDec_at zB_dX12_findForce_65 11 rfl
theorem dX12_findForce_83 : decode cX12_findForce 83 = .ok (.getfield 55, 3) := zDec_at zB_dX12_findForce_65 12 rfl
theorem dX12_findForce_86 : decode cX12_findForce 86 = .ok (.iload_n 2, 1) := zDec_at zB_dX12_findForce_65 13 rfl
theorem dX12_findForce_87 : decode cX12_findForce 87 = .ok (.baload, 1) := zDec_at zB_dX12_findForce_65 14 rfl
theorem dX12_findForce_88 : decode cX12_findForce 88 = .ok (.ifCond .eq 81, 3) := zDec_at zB_dX12_findForce_65 15 rfl
theorem dX12_findForce_91 : decode cX12_findForce 91 = .ok (.iload_n 2, 1) := zDec_at zB_dX12_findForce_65 16 rfl
theorem dX12_findForce_92 : decode cX12_findForce 92 = .ok (.iload_n 3, 1) := zDec_at zB_dX12_findForce_65 17 rfl
theorem dX12_findForce_93 : decode cX12_findForce 93 = .ok (.invokestatic 409, 3) := zDec_at zB_dX12_findForce_65 18 rfl
theorem dX12_findForce_96 : decode cX12_findForce 96 = .ok (.istore 4, 2) := zDec_at zB_dX12_findForce_65 19 rfl
theorem dX12_findForce_98 : decode cX12_findForce 98 = .ok (.aload_n 0, 1) := zDec_at zB_dX12_findForce_65 20 rfl
theorem dX12_findForce_99 : decode cX12_findForce 99 = .ok (.getfield 7, 3) := zDec_at zB_dX12_findForce_65 21 rfl
theorem dX12_findForce_102 : decode cX12_findForce 102 = .ok (.iload 4, 2) := zDec_at zB_dX12_findForce_65 22 rfl
theorem dX12_findForce_104 : decode cX12_findForce 104 = .ok (.iaload, 1) := zDec_at zB_dX12_findForce_65 23 rfl
theorem dX12_findForce_105 : decode cX12_findForce 105 = .ok (.ifCond .ne 58, 3) := zDec_at zB_dX12_findForce_65 24 rfl
theorem dX12_findForce_108 : decode cX12_findForce 108 = .ok (.aload_n 0, 1) := zDec_at zB_dX12_findForce_65 25 rfl
theorem dX12_findForce_109 : decode cX12_findForce 109 = .ok (.getfield 58, 3) := zDec_at zB_dX12_findForce_65 26 rfl
theorem dX12_findForce_112 : decode cX12_findForce 112 = .ok (.bipush 12, 2) := zDec_at zB_dX12_findForce_65 27 rfl
theorem dX12_findForce_114 : decode cX12_findForce 114 = .ok (.iload_n 2, 1) := zDec_at zB_dX12_findForce_65 28 rfl
theorem dX12_findForce_115 : decode cX12_findForce 115 = .ok (.imul, 1) := zDec_at zB_dX12_findForce_65 29 rfl
theorem dX12_findForce_116 : decode cX12_findForce 116 = .ok (.iload_n 3, 1) := zDec_at zB_dX12_findForce_65 30 rfl
theorem dX12_findForce_117 : decode cX12_findForce 117 = .ok (.iadd, 1) := zDec_at zB_dX12_findForce_65 31 rfl
theorem dX12_findForce_118 : decode cX12_findForce 118 = .ok (.baload, 1) := zDec_at zB_dX12_findForce_65 32 rfl
theorem dX12_findForce_119 : decode cX12_findForce 119 = .ok (.ifCond .ne 44, 3) := zDec_at zB_dX12_findForce_65 33 rfl
theorem dX12_findForce_122 : decode cX12_findForce 122 = .ok (.aload_n 0, 1) := zDec_at zB_dX12_findForce_65 34 rfl
theorem dX12_findForce_123 : decode cX12_findForce 123 = .ok (.getfield 7, 3) := zDec_at zB_dX12_findForce_65 35 rfl
theorem dX12_findForce_126 : decode cX12_findForce 126 = .ok (.iload 4, 2) := zDec_at zB_dX12_findForce_65 36 rfl
theorem dX12_findForce_128 : decode cX12_findForce 128 = .ok (.iconst 1, 1) := zDec_at zB_dX12_findForce_65 37 rfl
theorem dX12_findForce_129 : decode cX12_findForce 129 = .ok (.iadd, 1) := zDec_at zB_dX12_findForce_65 38 rfl
theorem dX12_findForce_130 : decode cX12_findForce 130 = .ok (.iaload, 1) := zDec_at zB_dX12_findForce_65 39 rfl
theorem zB_dX12_findForce_131 : zDecB cX12_findForce [(131, .iload_n 2, 1), (132, .if_icmp .ge 31, 3), (135, .aload_n 0, 1), (136, .getfield 58, 3), (139, .bipush 12, 2), (141, .aload_n 0, 1), (142, .getfield 7, 3), (145, .iload 4, 2), (147, .iconst 1, 1), (148, .iadd, 1), (149, .iaload, 1), (150, .imul, 1), (151, .aload_n 0, 1), (152, .getfield 7, 3), (155, .iload 4, 2), (157, .iconst 2, 1), (158, .iadd, 1), (159, .iaload, 1), (160, .iadd, 1), (161, .iconst 1, 1), (162, .bastore, 1), (163, .iinc 3 1, 3), (166, .goto (-99), 3), (169, .iinc 2 (-1), 3), (172, .goto (-135), 3), (175, .return_, 1)] = true := by decide +kernel
theorem dX12_findForce_131 : decode cX12_findForce 131 = .ok (.iload_n 2, 1) := zDec_at zB_dX12_findForce_131 0 rfl
theorem dX12_findForce_132 : decode cX12_findForce 132 = .ok (.if_icmp .ge 31, 3) := zDec_at zB_dX12_findForce_131 1 rfl
theorem dX12_findForce_135 : decode cX12_findForce 135 = .ok (.aload_n 0, 1) := zDec_at zB_dX12_findForce_131 2 rfl
theorem dX12_findForce_136 : decode cX12_findForce 136 = .ok (.getfield 58, 3) := zDec_at zB_dX12_findForce_131 3 rfl
theorem dX12_findForce_139 : decode cX12_findForce 139 = .ok (.bipush 12, 2) := zDec_at zB_dX12_findForce_131 4 rfl
theorem dX12_findForce_141 : decode cX12_findForce 141 = .ok (.aload_n 0, 1) := zDec_at zB_dX12_findForce_131 5 rfl
theorem dX12_findForce_142 : decode cX12_findForce 142 = .ok (.getfield 7, 3) := zDec_at zB_dX12_findForce_131 6 rfl
theorem dX12_findForce_145 : decode cX12_findForce 145 = .ok (.iload 4, 2) := zDec_at zB_dX12_findForce_131 7 rfl
theorem dX12_findForce_147 : decode cX12_findForce 147 = .ok (.iconst 1, 1) := zDec_at zB_dX12_findForce_131 8 rfl
theorem dX12_findForce_148 : decode cX12_findForce 148 = .ok (.iadd, 1) := zDec_at zB_dX12_findForce_131 9 rfl
theorem dX12_findForce_149 : decode cX12_findForce 149 = .ok (.iaload, 1) := zDec_at zB_dX12_findForce_131 10 rfl
theorem dX12_findForce_150 : decode cX12_findForce 150 = .ok (.imul, 1) := zDec_at zB_dX12_findForce_131 11 rfl
theorem dX12_findForce_151 : decode cX12_findForce 151 = .ok (.aload_n 0, 1) := zDec_at zB_dX12_findForce_131 12 rfl
theorem dX12_findForce_152 : decode cX12_findForce 152 = .ok (.getfield 7, 3) := zDec_at zB_dX12_findForce_131 13 rfl
theorem dX12_findForce_155 : decode cX12_findForce 155 = .ok (.iload 4, 2) := zDec_at zB_dX12_findForce_131 14 rfl
theorem dX12_findForce_157 : decode cX12_findForce 157 = .ok (.iconst 2, 1) := zDec_at zB_dX12_findForce_131 15 rfl
theorem dX12_findForce_158 : decode cX12_findForce 158 = .ok (.iadd, 1) := zDec_at zB_dX12_findForce_131 16 rfl
theorem dX12_findForce_159 : decode cX12_findForce 159 = .ok (.iaload, 1) := zDec_at zB_dX12_findForce_131 17 rfl
theorem dX12_findForce_160 : decode cX12_findForce 160 = .ok (.iadd, 1) := zDec_at zB_dX12_findForce_131 18 rfl
theorem dX12_findForce_161 : decode cX12_findForce 161 = .ok (.iconst 1, 1) := zDec_at zB_dX12_findForce_131 19 rfl
theorem dX12_findForce_162 : decode cX12_findForce 162 = .ok (.bastore, 1) := zDec_at zB_dX12_findForce_131 20 rfl
theorem dX12_findForce_163 : decode cX12_findForce 163 = .ok (.iinc 3 1, 3) := zDec_at zB_dX12_findForce_131 21 rfl
theorem dX12_findForce_166 : decode cX12_findForce 166 = .ok (.goto (-99), 3) := zDec_at zB_dX12_findForce_131 22 rfl
theorem dX12_findForce_169 : decode cX12_findForce 169 = .ok (.iinc 2 (-1), 3) := zDec_at zB_dX12_findForce_131 23 rfl
theorem dX12_findForce_172 : decode cX12_findForce 172 = .ok (.goto (-135), 3) := zDec_at zB_dX12_findForce_131 24 rfl
theorem dX12_findForce_175 : decode cX12_findForce 175 = .ok (.return_, 1) := zDec_at zB_dX12_findForce_131 25 rfl
theorem zB_dX12_findKinds_0 : zDecB cX12_findKinds [(0, .iconst 0, 1), (1, .istore_n 1, 1), (2, .iload_n 1, 1), (3, .aload_n 0, 1), (4, .getfield 7, 3), (7, .iconst 3, 1), (8, .iaload, 1), (9, .if_icmp .ge 146, 3), (12, .iload_n 1, 1), (13, .invokestatic 155, 3), (16, .istore_n 2, 1), (17, .aload_n 0, 1), (18, .aload_n 0, 1), (19, .getfield 7, 3), (22, .iload_n 2, 1), (23, .iconst 2, 1), (24, .iadd, 1), (25, .iaload, 1), (26, .iconst 2, 1), (27, .idiv, 1), (28, .invokevirtual 167, 3), (31, .aload_n 0, 1), (32, .aload_n 0, 1), (33, .getfield 7, 3), (36, .iload_n 2, 1), (37, .iconst 1, 1), (38, .iadd, 1), (39, .iaload, 1), (40, .aload_n 0, 1), (41, .getfield 7, 3), (44, .iload_n 2, 1), (45, .iconst 2, 1), (46, .iadd, 1), (47, .iaload, 1), (48, .invokevirtual 171, 3), (51, .aload_n 0, 1), (52, .getfield 61, 3), (55, .iconst 2, 1), (56, .aload_n 0, 1), (57, .getfield 7, 3)] = true := by decide +kernel
theorem dX12_findKinds_0 : decode cX12_findKinds 0 = .ok (.iconst 0, 1) := zDec_at zB_dX12_findKinds_0 0 rfl
theorem dX12_findKinds_1 : decode cX12_findKinds 1 = .ok (.istore_n 1, 1) := zDec_at zB_dX12_findKinds_0 1 rfl
theorem dX12_findKinds_2 : decode cX12_findKinds 2 = .ok (.iload_n 1, 1) := zDec_at zB_dX12_findKinds_0 2 rfl
theorem dX12_findKinds_3 : decode cX12_findKinds 3 = .ok (.aload_n 0, 1) := zDec_at zB_dX12_findKinds_0 3 rfl
theorem dX12_findKinds_4 : decode cX12_findKinds 4 = .ok (.getfield 7, 3) := zDec_at zB_dX12_findKinds_0 4 rfl
theorem dX12_findKinds_7 : decode cX12_findKinds 7 = .ok (.iconst 3, 1) := zDec_at zB_dX12_findKinds_0 5 rfl
theorem dX12_findKinds_8 : decode cX12_findKinds 8 = .ok (.iaload, 1) := zDec_at zB_dX12_findKinds_0 6 rfl
theorem dX12_findKinds_9 : decode cX12_findKinds 9 = .ok (.if_icmp .ge 146, 3) := zDec_at zB_dX12_findKinds_0 7 rfl
theorem dX12_findKinds_12 : decode cX12_findKinds 12 = .ok (.iload_n 1, 1) := zDec_at zB_dX12_findKinds_0 8 rfl
theorem dX12_findKinds_13 : decode cX12_findKinds 13 = .ok (.invokestatic 155, 3) := zDec_at zB_dX12_findKinds_0 9 rfl
theorem dX12_findKinds_16 : decode cX12_findKinds 16 = .ok (.istore_n 2, 1) := zDec_at zB_dX12_findKinds_0 10 rfl
theorem dX12_findKinds_17 : decode cX12_findKinds 17 = .ok (.aload_n 0, 1) := zDec_at zB_dX12_findKinds_0 11 rfl
theorem dX12_findKinds_18 : decode cX12_findKinds 18 = .ok (.aload_n 0, 1) := zDec_at zB_dX12_findKinds_0 12 rfl
theorem dX12_findKinds_19 : decode cX12_findKinds 19 = .ok (.getfield 7, 3) := zDec_at zB_dX12_findKinds_0 13 rfl
theorem dX12_findKinds_22 : decode cX12_findKinds 22 = .ok (.iload_n 2, 1) := zDec_at zB_dX12_findKinds_0 14 rfl
theorem dX12_findKinds_23 : decode cX12_findKinds 23 = .ok (.iconst 2, 1) := zDec_at zB_dX12_findKinds_0 15 rfl
theorem dX12_findKinds_24 : decode cX12_findKinds 24 = .ok (.iadd, 1) := zDec_at zB_dX12_findKinds_0 16 rfl
theorem dX12_findKinds_25 : decode cX12_findKinds 25 = .ok (.iaload, 1) := zDec_at zB_dX12_findKinds_0 17 rfl
theorem dX12_findKinds_26 : decode cX12_findKinds 26 = .ok (.iconst 2, 1) := zDec_at zB_dX12_findKinds_0 18 rfl
theorem dX12_findKinds_27 : decode cX12_findKinds 27 = .ok (.idiv, 1) := zDec_at zB_dX12_findKinds_0 19 rfl
theorem dX12_findKinds_28 : decode cX12_findKinds 28 = .ok (.invokevirtual 167, 3) := zDec_at zB_dX12_findKinds_0 20 rfl
theorem dX12_findKinds_31 : decode cX12_findKinds 31 = .ok (.aload_n 0, 1) := zDec_at zB_dX12_findKinds_0 21 rfl
theorem dX12_findKinds_32 : decode cX12_findKinds 32 = .ok (.aload_n 0, 1) := zDec_at zB_dX12_findKinds_0 22 rfl
theorem dX12_findKinds_33 : decode cX12_findKinds 33 = .ok (.getfield 7, 3) := zDec_at zB_dX12_findKinds_0 23 rfl
theorem dX12_findKinds_36 : decode cX12_findKinds 36 = .ok (.iload_n 2, 1) := zDec_at zB_dX12_findKinds_0 24 rfl
theorem dX12_findKinds_37 : decode cX12_findKinds 37 = .ok (.iconst 1, 1) := zDec_at zB_dX12_findKinds_0 25 rfl
theorem dX12_findKinds_38 : decode cX12_findKinds 38 = .ok (.iadd, 1) := zDec_at zB_dX12_findKinds_0 26 rfl
theorem dX12_findKinds_39 : decode cX12_findKinds 39 = .ok (.iaload, 1) := zDec_at zB_dX12_findKinds_0 27 rfl
theorem dX12_findKinds_40 : decode cX12_findKinds 40 = .ok (.aload_n 0, 1) := zDec_at zB_dX12_findKinds_0 28 rfl
theorem dX12_findKinds_41 : decode cX12_findKinds 41 = .ok (.getfield 7, 3) := zDec_at zB_dX12_findKinds_0 29 rfl
theorem dX12_findKinds_44 : decode cX12_findKinds 44 = .ok (.iload_n 2, 1) := zDec_at zB_dX12_findKinds_0 30 rfl
theorem dX12_findKinds_45 : decode cX12_findKinds 45 = .ok (.iconst 2, 1) := zDec_at zB_dX12_findKinds_0 31 rfl
theorem dX12_findKinds_46 : decode cX12_findKinds 46 = .ok (.iadd, 1) := zDec_at zB_dX12_findKinds_0 32 rfl
theorem dX12_findKinds_47 : decode cX12_findKinds 47 = .ok (.iaload, 1) := zDec_at zB_dX12_findKinds_0 33 rfl
theorem dX12_findKinds_48 : decode cX12_findKinds 48 = .ok (.invokevirtual 171, 3) := zDec_at zB_dX12_findKinds_0 34 rfl
theorem dX12_findKinds_51 : decode cX12_findKinds 51 = .ok (.aload_n 0, 1) := zDec_at zB_dX12_findKinds_0 35 rfl
theorem dX12_findKinds_52 : decode cX12_findKinds 52 = .ok (.getfield 61, 3) := zDec_at zB_dX12_findKinds_0 36 rfl
theorem dX12_findKinds_55 : decode cX12_findKinds 55 = .ok (.iconst 2, 1) := zDec_at zB_dX12_findKinds_0 37 rfl
theorem dX12_findKinds_56 : decode cX12_findKinds 56 = .ok (.aload_n 0, 1) := zDec_at zB_dX12_findKinds_0 38 rfl
theorem dX12_findKinds_57 : decode cX12_findKinds 57 = .ok (.getfield 7, 3) := zDec_at zB_dX12_findKinds_0 39 rfl
theorem zB_dX12_findKinds_60 : zDecB cX12_findKinds [(60, .iload_n 2, 1), (61, .iconst 3, 1), (62, .iadd, 1), (63, .iaload, 1), (64, .bipush 26, 2), (66, .idiv, 1), (67, .i2l, 1), (68, .lastore, 1), (69, .aload_n 0, 1), (70, .getfield 61, 3), (73, .bipush 6, 2), (75, .aload_n 0, 1), (76, .getfield 7, 3), (79, .iload_n 2, 1), (80, .iaload, 1), (81, .i2l, 1), (82, .lastore, 1), (83, .aload_n 0, 1), (84, .getfield 21, 3), (87, .iload_n 1, 1), (88, .baload, 1), (89, .ifCond .eq 22, 3), (92, .aload_n 0, 1), (93, .iconst 1, 1), (94, .aload_n 0, 1), (95, .getfield 24, 3), (98, .iload_n 1, 1), (99, .iaload, 1), (100, .iconst (-1), 1), (101, .invokevirtual 175, 3), (104, .ifCond .eq 7, 3), (107, .iconst 1, 1), (108, .goto 4, 3), (111, .iconst 0, 1), (112, .istore_n 3, 1), (113, .aload_n 0, 1), (114, .getfield 27, 3), (117, .iload_n 1, 1), (118, .iload_n 3, 1), (119, .ifCond .eq 10, 3)] = true := by decide +kernel
theorem dX12_findKinds_60 : decode cX12_findKinds 60 = .ok (.iload_n 2, 1) := zDec_at zB_dX12_findKinds_60 0 rfl
theorem dX12_findKinds_61 : decode cX12_findKinds 61 = .ok (.iconst 3, 1) := zDec_at zB_dX12_findKinds_60 1 rfl
theorem dX12_findKinds_62 : decode cX12_findKinds 62 = .ok (.iadd, 1) := zDec_at zB_dX12_findKinds_60 2 rfl
theorem dX12_findKinds_63 : decode cX12_findKinds 63 = .ok (.iaload, 1) := zDec_at zB_dX12_findKinds_60 3 rfl
theorem dX12_findKinds_64 : decode cX12_findKinds 64 = .ok (.bipush 26, 2) := zDec_at zB_dX12_findKinds_60 4 rfl
theorem dX12_findKinds_66 : decode cX12_findKinds 66 = .ok (.idiv, 1) := zDec_at zB_dX12_findKinds_60 5 rfl
theorem dX12_findKinds_67 : decode cX12_findKinds 67 = .ok (.i2l, 1) := zDec_at zB_dX12_findKinds_60 6 rfl
theorem dX12_findKinds_68 : decode cX12_findKinds 68 = .ok (.lastore, 1) := zDec_at zB_dX12_findKinds_60 7 rfl
theorem dX12_findKinds_69 : decode cX12_findKinds 69 = .ok (.aload_n 0, 1) := zDec_at zB_dX12_findKinds_60 8 rfl
theorem dX12_findKinds_70 : decode cX12_findKinds 70 = .ok (.getfield 61, 3) := zDec_at zB_dX12_findKinds_60 9 rfl
theorem dX12_findKinds_73 : decode cX12_findKinds 73 = .ok (.bipush 6, 2) := zDec_at zB_dX12_findKinds_60 10 rfl
theorem dX12_findKinds_75 : decode cX12_findKinds 75 = .ok (.aload_n 0, 1) := zDec_at zB_dX12_findKinds_60 11 rfl
theorem dX12_findKinds_76 : decode cX12_findKinds 76 = .ok (.getfield 7, 3) := zDec_at zB_dX12_findKinds_60 12 rfl
theorem dX12_findKinds_79 : decode cX12_findKinds 79 = .ok (.iload_n 2, 1) := zDec_at zB_dX12_findKinds_60 13 rfl
theorem dX12_findKinds_80 : decode cX12_findKinds 80 = .ok (.iaload, 1) := zDec_at zB_dX12_findKinds_60 14 rfl
theorem dX12_findKinds_81 : decode cX12_findKinds 81 = .ok (.i2l, 1) := zDec_at zB_dX12_findKinds_60 15 rfl
theorem dX12_findKinds_82 : decode cX12_findKinds 82 = .ok (.lastore, 1) := zDec_at zB_dX12_findKinds_60 16 rfl
theorem dX12_findKinds_83 : decode cX12_findKinds 83 = .ok (.aload_n 0, 1) := zDec_at zB_dX12_findKinds_60 17 rfl
theorem dX12_findKinds_84 : decode cX12_findKinds 84 = .ok (.getfield 21, 3) := zDec_at zB_dX12_findKinds_60 18 rfl
theorem dX12_findKinds_87 : decode cX12_findKinds 87 = .ok (.iload_n 1, 1) := zDec_at zB_dX12_findKinds_60 19 rfl
theorem dX12_findKinds_88 : decode cX12_findKinds 88 = .ok (.baload, 1) := zDec_at zB_dX12_findKinds_60 20 rfl
theorem dX12_findKinds_89 : decode cX12_findKinds 89 = .ok (.ifCond .eq 22, 3) := zDec_at zB_dX12_findKinds_60 21 rfl
theorem dX12_findKinds_92 : decode cX12_findKinds 92 = .ok (.aload_n 0, 1) := zDec_at zB_dX12_findKinds_60 22 rfl
theorem dX12_findKinds_93 : decode cX12_findKinds 93 = .ok (.iconst 1, 1) := zDec_at zB_dX12_findKinds_60 23 rfl
theorem dX12_findKinds_94 : decode cX12_findKinds 94 = .ok (.aload_n 0, 1) := zDec_at zB_dX12_findKinds_60 24 rfl
theorem dX12_findKinds_95 : decode cX12_findKinds 95 = .ok (.getfield 24, 3) := zDec_at zB_dX12_findKinds_60 25 rfl
theorem dX12_findKinds_98 : decode cX12_findKinds 98 = .ok (.iload_n 1, 1) := zDec_at zB_dX12_findKinds_60 26 rfl
theorem dX12_findKinds_99 : decode cX12_findKinds 99 = .ok (.iaload, 1) := zDec_at zB_dX12_findKinds_60 27 rfl
theorem dX12_findKinds_100 : decode cX12_findKinds 100 = .ok (.iconst (-1), 1) := zDec_at zB_dX12_findKinds_60 28 rfl
theorem dX12_findKinds_101 : decode cX12_findKinds 101 = .ok (.invokevirtual 175, 3) := zDec_at zB_dX12_findKinds_60 29 rfl
theorem dX12_findKinds_104 : decode cX12_findKinds 104 = .ok (.ifCond .eq 7, 3) := zDec_at zB_dX12_findKinds_60 30 rfl
theorem dX12_findKinds_107 : decode cX12_findKinds 107 = .ok (.iconst 1, 1) := zDec_at zB_dX12_findKinds_60 31 rfl
theorem dX12_findKinds_108 : decode cX12_findKinds 108 = .ok (.goto 4, 3) := zDec_at zB_dX12_findKinds_60 32 rfl
theorem dX12_findKinds_111 : decode cX12_findKinds 111 = .ok (.iconst 0, 1) := zDec_at zB_dX12_findKinds_60 33 rfl
theorem dX12_findKinds_112 : decode cX12_findKinds 112 = .ok (.istore_n 3, 1) := zDec_at zB_dX12_findKinds_60 34 rfl
theorem dX12_findKinds_113 : decode cX12_findKinds 113 = .ok (.aload_n 0, 1) := zDec_at zB_dX12_findKinds_60 35 rfl
theorem dX12_findKinds_114 : decode cX12_findKinds 114 = .ok (.getfield 27, 3) := zDec_at zB_dX12_findKinds_60 36 rfl
theorem dX12_findKinds_117 : decode cX12_findKinds 117 = .ok (.iload_n 1, 1) := zDec_at zB_dX12_findKinds_60 37 rfl
theorem dX12_findKinds_118 : decode cX12_findKinds 118 = .ok (.iload_n 3, 1) := zDec_at zB_dX12_findKinds_60 38 rfl
theorem dX12_findKinds_119 : decode cX12_findKinds 119 = .ok (.ifCond .eq 10, 3) := zDec_at zB_dX12_findKinds_60 39 rfl
theorem zB_dX12_findKinds_122 : zDecB cX12_findKinds [(122, .aload_n 0, 1), (123, .getfield 178, 3), (126, .goto 4, 3), (129, .iconst 4, 1), (130, .iastore, 1), (131, .aload_n 0, 1), (132, .getfield 30, 3), (135, .iload_n 1, 1), (136, .iload_n 3, 1), (137, .ifCond .eq 10, 3), (140, .aload_n 0, 1), (141, .getfield 181, 3), (144, .goto 4, 3), (147, .iconst (-1), 1), (148, .iastore, 1), (149, .iinc 1 1, 3), (152, .goto (-150), 3), (155, .return_, 1)] = true := by decide +kernel
theorem dX12_findKinds_122 : decode cX12_findKinds 122 = .ok (.aload_n 0, 1) := zDec_at zB_dX12_findKinds_122 0 rfl
theorem dX12_findKinds_123 : decode cX12_findKinds 123 = .ok (.getfield 178, 3) := zDec_at zB_dX12_findKinds_122 1 rfl
theorem dX12_findKinds_126 : decode cX12_findKinds 126 = .ok (.goto 4, 3) := zDec_at zB_dX12_findKinds_122 2 rfl
theorem dX12_findKinds_129 : decode cX12_findKinds 129 = .ok (.iconst 4, 1) := zDec_at zB_dX12_findKinds_122 3 rfl
theorem dX12_findKinds_130 : decode cX12_findKinds 130 = .ok (.iastore, 1) := zDec_at zB_dX12_findKinds_122 4 rfl
theorem dX12_findKinds_131 : decode cX12_findKinds 131 = .ok (.aload_n 0, 1) := zDec_at zB_dX12_findKinds_122 5 rfl
theorem dX12_findKinds_132 : decode cX12_findKinds 132 = .ok (.getfield 30, 3) := zDec_at zB_dX12_findKinds_122 6 rfl
theorem dX12_findKinds_135 : decode cX12_findKinds 135 = .ok (.iload_n 1, 1) := zDec_at zB_dX12_findKinds_122 7 rfl
theorem dX12_findKinds_136 : decode cX12_findKinds 136 = .ok (.iload_n 3, 1) := zDec_at zB_dX12_findKinds_122 8 rfl
theorem dX12_findKinds_137 : decode cX12_findKinds 137 = .ok (.ifCond .eq 10, 3) := zDec_at zB_dX12_findKinds_122 9 rfl
theorem dX12_findKinds_140 : decode cX12_findKinds 140 = .ok (.aload_n 0, 1) := zDec_at zB_dX12_findKinds_122 10 rfl
theorem dX12_findKinds_141 : decode cX12_findKinds 141 = .ok (.getfield 181, 3) := zDec_at zB_dX12_findKinds_122 11 rfl
theorem dX12_findKinds_144 : decode cX12_findKinds 144 = .ok (.goto 4, 3) := zDec_at zB_dX12_findKinds_122 12 rfl
theorem dX12_findKinds_147 : decode cX12_findKinds 147 = .ok (.iconst (-1), 1) := zDec_at zB_dX12_findKinds_122 13 rfl
theorem dX12_findKinds_148 : decode cX12_findKinds 148 = .ok (.iastore, 1) := zDec_at zB_dX12_findKinds_122 14 rfl
theorem dX12_findKinds_149 : decode cX12_findKinds 149 = .ok (.iinc 1 1, 3) := zDec_at zB_dX12_findKinds_122 15 rfl
theorem dX12_findKinds_152 : decode cX12_findKinds 152 = .ok (.goto (-150), 3) := zDec_at zB_dX12_findKinds_122 16 rfl
theorem dX12_findKinds_155 : decode cX12_findKinds 155 = .ok (.return_, 1) := zDec_at zB_dX12_findKinds_122 17 rfl
theorem zB_dX12_findSessions_0 : zDecB cX12_findSessions [(0, .iconst 0, 1), (1, .istore_n 2, 1), (2, .iload_n 2, 1), (3, .sipush 400, 3), (6, .if_icmp .gt 23, 3), (9, .aload_n 0, 1), (10, .getfield 68, 3), (13, .iload_n 2, 1), (14, .iconst 0, 1), (15, .iastore, 1), (16, .aload_n 0, 1), (17, .getfield 71, 3), (20, .iload_n 2, 1), (21, .iconst 0, 1), (22, .iastore, 1), (23, .iinc 2 1, 3), (26, .goto (-24), 3), (29, .iconst 0, 1), (30, .istore_n 2, 1), (31, .iload_n 2, 1), (32, .aload_n 0, 1), (33, .getfield 7, 3), (36, .iconst 3, 1), (37, .iaload, 1), (38, .if_icmp .ge 101, 3), (41, .iload_n 2, 1), (42, .invokestatic 155, 3), (45, .istore_n 3, 1), (46, .aload_n 0, 1), (47, .getfield 7, 3), (50, .iload_n 3, 1), (51, .iconst 1, 1), (52, .iadd, 1), (53, .iaload, 1), (54, .iload_n 1, 1), (55, .if_icmp .ne 78, 3), (58, .aload_n 0, 1), (59, .getfield 21, 3), (62, .iload_n 2, 1), (63, .baload, 1)] = true := by decide +kernel
theorem dX12_findSessions_0 : decode cX12_findSessions 0 = .ok (.iconst 0, 1) := zDec_at zB_dX12_findSessions_0 0 rfl
theorem dX12_findSessions_1 : decode cX12_findSessions 1 = .ok (.istore_n 2, 1) := zDec_at zB_dX12_findSessions_0 1 rfl
theorem dX12_findSessions_2 : decode cX12_findSessions 2 = .ok (.iload_n 2, 1) := zDec_at zB_dX12_findSessions_0 2 rfl
theorem dX12_findSessions_3 : decode cX12_findSessions 3 = .ok (.sipush 400, 3) := zDec_at zB_dX12_findSessions_0 3 rfl
theorem dX12_findSessions_6 : decode cX12_findSessions 6 = .ok (.if_icmp .gt 23, 3) := zDec_at zB_dX12_findSessions_0 4 rfl
theorem dX12_findSessions_9 : decode cX12_findSessions 9 = .ok (.aload_n 0, 1) := zDec_at zB_dX12_findSessions_0 5 rfl
theorem dX12_findSessions_10 : decode cX12_findSessions 10 = .ok (.getfield 68, 3) := zDec_at zB_dX12_findSessions_0 6 rfl
theorem dX12_findSessions_13 : decode cX12_findSessions 13 = .ok (.iload_n 2, 1) := zDec_at zB_dX12_findSessions_0 7 rfl
theorem dX12_findSessions_14 : decode cX12_findSessions 14 = .ok (.iconst 0, 1) := zDec_at zB_dX12_findSessions_0 8 rfl
theorem dX12_findSessions_15 : decode cX12_findSessions 15 = .ok (.iastore, 1) := zDec_at zB_dX12_findSessions_0 9 rfl
theorem dX12_findSessions_16 : decode cX12_findSessions 16 = .ok (.aload_n 0, 1) := zDec_at zB_dX12_findSessions_0 10 rfl
theorem dX12_findSessions_17 : decode cX12_findSessions 17 = .ok (.getfield 71, 3) := zDec_at zB_dX12_findSessions_0 11 rfl
theorem dX12_findSessions_20 : decode cX12_findSessions 20 = .ok (.iload_n 2, 1) := zDec_at zB_dX12_findSessions_0 12 rfl
theorem dX12_findSessions_21 : decode cX12_findSessions 21 = .ok (.iconst 0, 1) := zDec_at zB_dX12_findSessions_0 13 rfl
theorem dX12_findSessions_22 : decode cX12_findSessions 22 = .ok (.iastore, 1) := zDec_at zB_dX12_findSessions_0 14 rfl
theorem dX12_findSessions_23 : decode cX12_findSessions 23 = .ok (.iinc 2 1, 3) := zDec_at zB_dX12_findSessions_0 15 rfl
theorem dX12_findSessions_26 : decode cX12_findSessions 26 = .ok (.goto (-24), 3) := zDec_at zB_dX12_findSessions_0 16 rfl
theorem dX12_findSessions_29 : decode cX12_findSessions 29 = .ok (.iconst 0, 1) := zDec_at zB_dX12_findSessions_0 17 rfl
theorem dX12_findSessions_30 : decode cX12_findSessions 30 = .ok (.istore_n 2, 1) := zDec_at zB_dX12_findSessions_0 18 rfl
theorem dX12_findSessions_31 : decode cX12_findSessions 31 = .ok (.iload_n 2, 1) := zDec_at zB_dX12_findSessions_0 19 rfl
theorem dX12_findSessions_32 : decode cX12_findSessions 32 = .ok (.aload_n 0, 1) := zDec_at zB_dX12_findSessions_0 20 rfl
theorem dX12_findSessions_33 : decode cX12_findSessions 33 = .ok (.getfield 7, 3) := zDec_at zB_dX12_findSessions_0 21 rfl
theorem dX12_findSessions_36 : decode cX12_findSessions 36 = .ok (.iconst 3, 1) := zDec_at zB_dX12_findSessions_0 22 rfl
theorem dX12_findSessions_37 : decode cX12_findSessions 37 = .ok (.iaload, 1) := zDec_at zB_dX12_findSessions_0 23 rfl
theorem dX12_findSessions_38 : decode cX12_findSessions 38 = .ok (.if_icmp .ge 101, 3) := zDec_at zB_dX12_findSessions_0 24 rfl
theorem dX12_findSessions_41 : decode cX12_findSessions 41 = .ok (.iload_n 2, 1) := zDec_at zB_dX12_findSessions_0 25 rfl
theorem dX12_findSessions_42 : decode cX12_findSessions 42 = .ok (.invokestatic 155, 3) := zDec_at zB_dX12_findSessions_0 26 rfl
theorem dX12_findSessions_45 : decode cX12_findSessions 45 = .ok (.istore_n 3, 1) := zDec_at zB_dX12_findSessions_0 27 rfl
theorem dX12_findSessions_46 : decode cX12_findSessions 46 = .ok (.aload_n 0, 1) := zDec_at zB_dX12_findSessions_0 28 rfl
theorem dX12_findSessions_47 : decode cX12_findSessions 47 = .ok (.getfield 7, 3) := zDec_at zB_dX12_findSessions_0 29 rfl
theorem dX12_findSessions_50 : decode cX12_findSessions 50 = .ok (.iload_n 3, 1) := zDec_at zB_dX12_findSessions_0 30 rfl
theorem dX12_findSessions_51 : decode cX12_findSessions 51 = .ok (.iconst 1, 1) := zDec_at zB_dX12_findSessions_0 31 rfl
theorem dX12_findSessions_52 : decode cX12_findSessions 52 = .ok (.iadd, 1) := zDec_at zB_dX12_findSessions_0 32 rfl
theorem dX12_findSessions_53 : decode cX12_findSessions 53 = .ok (.iaload, 1) := zDec_at zB_dX12_findSessions_0 33 rfl
theorem dX12_findSessions_54 : decode cX12_findSessions 54 = .ok (.iload_n 1, 1) := zDec_at zB_dX12_findSessions_0 34 rfl
theorem dX12_findSessions_55 : decode cX12_findSessions 55 = .ok (.if_icmp .ne 78, 3) := zDec_at zB_dX12_findSessions_0 35 rfl
theorem dX12_findSessions_58 : decode cX12_findSessions 58 = .ok (.aload_n 0, 1) := zDec_at zB_dX12_findSessions_0 36 rfl
theorem dX12_findSessions_59 : decode cX12_findSessions 59 = .ok (.getfield 21, 3) := zDec_at zB_dX12_findSessions_0 37 rfl
theorem dX12_findSessions_62 : decode cX12_findSessions 62 = .ok (.iload_n 2, 1) := zDec_at zB_dX12_findSessions_0 38 rfl
theorem dX12_findSessions_63 : decode cX12_findSessions 63 = .ok (.baload, 1) := zDec_at zB_dX12_findSessions_0 39 rfl
theorem zB_dX12_findSessions_64 : zDecB cX12_findSessions [(64, .ifCond .eq 69, 3), (67, .aload_n 0, 1), (68, .getfield 27, 3), (71, .iload_n 2, 1), (72, .iaload, 1), (73, .iconst 4, 1), (74, .if_icmp .eq 59, 3), (77, .aload_n 0, 1), (78, .getfield 68, 3), (81, .aload_n 0, 1), (82, .getfield 7, 3), (85, .iload_n 3, 1), (86, .iconst 2, 1), (87, .iadd, 1), (88, .iaload, 1), (89, .iconst 2, 1), (90, .idiv, 1), (91, .iconst 1, 1), (92, .iadd, 1), (93, .dup2, 1), (94, .iaload, 1), (95, .iconst 1, 1), (96, .iadd, 1), (97, .iastore, 1), (98, .aload_n 0, 1), (99, .getfield 71, 3), (102, .aload_n 0, 1), (103, .getfield 7, 3), (106, .iload_n 3, 1), (107, .iconst 2, 1), (108, .iadd, 1), (109, .iaload, 1), (110, .iconst 2, 1), (111, .idiv, 1), (112, .iconst 1, 1), (113, .iadd, 1), (114, .dup2, 1), (115, .iaload, 1), (116, .aload_n 0, 1), (117, .getfield 27, 3)] = true := by decide +kernel
theorem dX12_findSessions_64 : decode cX12_findSessions 64 = .ok (.ifCond .eq 69, 3) := zDec_at zB_dX12_findSessions_64 0 rfl
theorem dX12_findSessions_67 : decode cX12_findSessions 67 = .ok (.aload_n 0, 1) := zDec_at zB_dX12_findSessions_64 1 rfl
theorem dX12_findSessions_68 : decode cX12_findSessions 68 = .ok (.getfield 27, 3) := zDec_at zB_dX12_findSessions_64 2 rfl
theorem dX12_findSessions_71 : decode cX12_findSessions 71 = .ok (.iload_n 2, 1) := zDec_at zB_dX12_findSessions_64 3 rfl
theorem dX12_findSessions_72 : decode cX12_findSessions 72 = .ok (.iaload, 1) := zDec_at zB_dX12_findSessions_64 4 rfl
theorem dX12_findSessions_73 : decode cX12_findSessions 73 = .ok (.iconst 4, 1) := zDec_at zB_dX12_findSessions_64 5 rfl
theorem dX12_findSessions_74 : decode cX12_findSessions 74 = .ok (.if_icmp .eq 59, 3) := zDec_at zB_dX12_findSessions_64 6 rfl
theorem dX12_findSessions_77 : decode cX12_findSessions 77 = .ok (.aload_n 0, 1) := zDec_at zB_dX12_findSessions_64 7 rfl
theorem dX12_findSessions_78 : decode cX12_findSessions 78 = .ok (.getfield 68, 3) := zDec_at zB_dX12_findSessions_64 8 rfl
theorem dX12_findSessions_81 : decode cX12_findSessions 81 = .ok (.aload_n 0, 1) := zDec_at zB_dX12_findSessions_64 9 rfl
theorem dX12_findSessions_82 : decode cX12_findSessions 82 = .ok (.getfield 7, 3) := zDec_at zB_dX12_findSessions_64 10 rfl
theorem dX12_findSessions_85 : decode cX12_findSessions 85 = .ok (.iload_n 3, 1) := zDec_at zB_dX12_findSessions_64 11 rfl
theorem dX12_findSessions_86 : decode cX12_findSessions 86 = .ok (.iconst 2, 1) := zDec_at zB_dX12_findSessions_64 12 rfl
theorem dX12_findSessions_87 : decode cX12_findSessions 87 = .ok (.iadd, 1) := zDec_at zB_dX12_findSessions_64 13 rfl
theorem dX12_findSessions_88 : decode cX12_findSessions 88 = .ok (.iaload, 1) := zDec_at zB_dX12_findSessions_64 14 rfl
theorem dX12_findSessions_89 : decode cX12_findSessions 89 = .ok (.iconst 2, 1) := zDec_at zB_dX12_findSessions_64 15 rfl
theorem dX12_findSessions_90 : decode cX12_findSessions 90 = .ok (.idiv, 1) := zDec_at zB_dX12_findSessions_64 16 rfl
theorem dX12_findSessions_91 : decode cX12_findSessions 91 = .ok (.iconst 1, 1) := zDec_at zB_dX12_findSessions_64 17 rfl
theorem dX12_findSessions_92 : decode cX12_findSessions 92 = .ok (.iadd, 1) := zDec_at zB_dX12_findSessions_64 18 rfl
theorem dX12_findSessions_93 : decode cX12_findSessions 93 = .ok (.dup2, 1) := zDec_at zB_dX12_findSessions_64 19 rfl
theorem dX12_findSessions_94 : decode cX12_findSessions 94 = .ok (.iaload, 1) := zDec_at zB_dX12_findSessions_64 20 rfl
theorem dX12_findSessions_95 : decode cX12_findSessions 95 = .ok (.iconst 1, 1) := zDec_at zB_dX12_findSessions_64 21 rfl
theorem dX12_findSessions_96 : decode cX12_findSessions 96 = .ok (.iadd, 1) := zDec_at zB_dX12_findSessions_64 22 rfl
theorem dX12_findSessions_97 : decode cX12_findSessions 97 = .ok (.iastore, 1) := zDec_at zB_dX12_findSessions_64 23 rfl
theorem dX12_findSessions_98 : decode cX12_findSessions 98 = .ok (.aload_n 0, 1) := zDec_at zB_dX12_findSessions_64 24 rfl
theorem dX12_findSessions_99 : decode cX12_findSessions 99 = .ok (.getfield 71, 3) := zDec_at zB_dX12_findSessions_64 25 rfl
theorem dX12_findSessions_102 : decode cX12_findSessions 102 = .ok (.aload_n 0, 1) := zDec_at zB_dX12_findSessions_64 26 rfl
theorem dX12_findSessions_103 : decode cX12_findSessions 103 = .ok (.getfield 7, 3) := zDec_at zB_dX12_findSessions_64 27 rfl
theorem dX12_findSessions_106 : decode cX12_findSessions 106 = .ok (.iload_n 3, 1) := zDec_at zB_dX12_findSessions_64 28 rfl
theorem dX12_findSessions_107 : decode cX12_findSessions 107 = .ok (.iconst 2, 1) := zDec_at zB_dX12_findSessions_64 29 rfl
theorem dX12_findSessions_108 : decode cX12_findSessions 108 = .ok (.iadd, 1) := zDec_at zB_dX12_findSessions_64 30 rfl
theorem dX12_findSessions_109 : decode cX12_findSessions 109 = .ok (.iaload, 1) := zDec_at zB_dX12_findSessions_64 31 rfl
theorem dX12_findSessions_110 : decode cX12_findSessions 110 = .ok (.iconst 2, 1) := zDec_at zB_dX12_findSessions_64 32 rfl
theorem dX12_findSessions_111 : decode cX12_findSessions 111 = .ok (.idiv, 1) := zDec_at zB_dX12_findSessions_64 33 rfl
theorem dX12_findSessions_112 : decode cX12_findSessions 112 = .ok (.iconst 1, 1) := zDec_at zB_dX12_findSessions_64 34 rfl
theorem dX12_findSessions_113 : decode cX12_findSessions 113 = .ok (.iadd, 1) := zDec_at zB_dX12_findSessions_64 35 rfl
theorem dX12_findSessions_114 : decode cX12_findSessions 114 = .ok (.dup2, 1) := zDec_at zB_dX12_findSessions_64 36 rfl
theorem dX12_findSessions_115 : decode cX12_findSessions 115 = .ok (.iaload, 1) := zDec_at zB_dX12_findSessions_64 37 rfl
theorem dX12_findSessions_116 : decode cX12_findSessions 116 = .ok (.aload_n 0, 1) := zDec_at zB_dX12_findSessions_64 38 rfl
theorem dX12_findSessions_117 : decode cX12_findSessions 117 = .ok (.getfield 27, 3) := zDec_at zB_dX12_findSessions_64 39 rfl
theorem zB_dX12_findSessions_120 : zDecB cX12_findSessions [(120, .iload_n 2, 1), (121, .iaload, 1), (122, .iconst 3, 1), (123, .if_icmp .ne 7, 3), (126, .iconst 1, 1), (127, .goto 4, 3), (130, .iconst 0, 1), (131, .iadd, 1), (132, .iastore, 1), (133, .iinc 2 1, 3), (136, .goto (-105), 3), (139, .iconst 1, 1), (140, .istore_n 2, 1), (141, .iload_n 2, 1), (142, .sipush 400, 3), (145, .if_icmp .gt 43, 3), (148, .aload_n 0, 1), (149, .getfield 68, 3), (152, .iload_n 2, 1), (153, .dup2, 1), (154, .iaload, 1), (155, .aload_n 0, 1), (156, .getfield 68, 3), (159, .iload_n 2, 1), (160, .iconst 1, 1), (161, .isub, 1), (162, .iaload, 1), (163, .iadd, 1), (164, .iastore, 1), (165, .aload_n 0, 1), (166, .getfield 71, 3), (169, .iload_n 2, 1), (170, .dup2, 1), (171, .iaload, 1), (172, .aload_n 0, 1), (173, .getfield 71, 3), (176, .iload_n 2, 1), (177, .iconst 1, 1), (178, .isub, 1), (179, .iaload, 1)] = true := by decide +kernel
theorem dX12_findSessions_120 : decode cX12_findSessions 120 = .ok (.iload_n 2, 1) := zDec_at zB_dX12_findSessions_120 0 rfl
theorem dX12_findSessions_121 : decode cX12_findSessions 121 = .ok (.iaload, 1) := zDec_at zB_dX12_findSessions_120 1 rfl
theorem dX12_findSessions_122 : decode cX12_findSessions 122 = .ok (.iconst 3, 1) := zDec_at zB_dX12_findSessions_120 2 rfl
theorem dX12_findSessions_123 : decode cX12_findSessions 123 = .ok (.if_icmp .ne 7, 3) := zDec_at zB_dX12_findSessions_120 3 rfl
theorem dX12_findSessions_126 : decode cX12_findSessions 126 = .ok (.iconst 1, 1) := zDec_at zB_dX12_findSessions_120 4 rfl
theorem dX12_findSessions_127 : decode cX12_findSessions 127 = .ok (.goto 4, 3) := zDec_at zB_dX12_findSessions_120 5 rfl
theorem dX12_findSessions_130 : decode cX12_findSessions 130 = .ok (.iconst 0, 1) := zDec_at zB_dX12_findSessions_120 6 rfl
theorem dX12_findSessions_131 : decode cX12_findSessions 131 = .ok (.iadd, 1) := zDec_at zB_dX12_findSessions_120 7 rfl
theorem dX12_findSessions_132 : decode cX12_findSessions 132 = .ok (.iastore, 1) := zDec_at zB_dX12_findSessions_120 8 rfl
theorem dX12_findSessions_133 : decode cX12_findSessions 133 = .ok (.iinc 2 1, 3) := zDec_at zB_dX12_findSessions_120 9 rfl
theorem dX12_findSessions_136 : decode cX12_findSessions 136 = .ok (.goto (-105), 3) := zDec_at zB_dX12_findSessions_120 10 rfl
theorem dX12_findSessions_139 : decode cX12_findSessions 139 = .ok (.iconst 1, 1) := zDec_at zB_dX12_findSessions_120 11 rfl
theorem dX12_findSessions_140 : decode cX12_findSessions 140 = .ok (.istore_n 2, 1) := zDec_at zB_dX12_findSessions_120 12 rfl
theorem dX12_findSessions_141 : decode cX12_findSessions 141 = .ok (.iload_n 2, 1) := zDec_at zB_dX12_findSessions_120 13 rfl
theorem dX12_findSessions_142 : decode cX12_findSessions 142 = .ok (.sipush 400, 3) := zDec_at zB_dX12_findSessions_120 14 rfl
theorem dX12_findSessions_145 : decode cX12_findSessions 145 = .ok (.if_icmp .gt 43, 3) := zDec_at zB_dX12_findSessions_120 15 rfl
theorem dX12_findSessions_148 : decode cX12_findSessions 148 = .ok (.aload_n 0, 1) := zDec_at zB_dX12_findSessions_120 16 rfl
theorem dX12_findSessions_149 : decode cX12_findSessions 149 = .ok (.getfield 68, 3) := zDec_at zB_dX12_findSessions_120 17 rfl
theorem dX12_findSessions_152 : decode cX12_findSessions 152 = .ok (.iload_n 2, 1) := zDec_at zB_dX12_findSessions_120 18 rfl
theorem dX12_findSessions_153 : decode cX12_findSessions 153 = .ok (.dup2, 1) := zDec_at zB_dX12_findSessions_120 19 rfl
theorem dX12_findSessions_154 : decode cX12_findSessions 154 = .ok (.iaload, 1) := zDec_at zB_dX12_findSessions_120 20 rfl
theorem dX12_findSessions_155 : decode cX12_findSessions 155 = .ok (.aload_n 0, 1) := zDec_at zB_dX12_findSessions_120 21 rfl
theorem dX12_findSessions_156 : decode cX12_findSessions 156 = .ok (.getfield 68, 3) := zDec_at zB_dX12_findSessions_120 22 rfl
theorem dX12_findSessions_159 : decode cX12_findSessions 159 = .ok (.iload_n 2, 1) := zDec_at zB_dX12_findSessions_120 23 rfl
theorem dX12_findSessions_160 : decode cX12_findSessions 160 = .ok (.iconst 1, 1) := zDec_at zB_dX12_findSessions_120 24 rfl
theorem dX12_findSessions_161 : decode cX12_findSessions 161 = .ok (.isub, 1) := zDec_at zB_dX12_findSessions_120 25 rfl
theorem dX12_findSessions_162 : decode cX12_findSessions 162 = .ok (.iaload, 1) := zDec_at zB_dX12_findSessions_120 26 rfl
theorem dX12_findSessions_163 : decode cX12_findSessions 163 = .ok (.iadd, 1) := zDec_at zB_dX12_findSessions_120 27 rfl
theorem dX12_findSessions_164 : decode cX12_findSessions 164 = .ok (.iastore, 1) := zDec_at zB_dX12_findSessions_120 28 rfl
theorem dX12_findSessions_165 : decode cX12_findSessions 165 = .ok (.aload_n 0, 1) := zDec_at zB_dX12_findSessions_120 29 rfl
theorem dX12_findSessions_166 : decode cX12_findSessions 166 = .ok (.getfield 71, 3) := zDec_at zB_dX12_findSessions_120 30 rfl
theorem dX12_findSessions_169 : decode cX12_findSessions 169 = .ok (.iload_n 2, 1) := zDec_at zB_dX12_findSessions_120 31 rfl
theorem dX12_findSessions_170 : decode cX12_findSessions 170 = .ok (.dup2, 1) := zDec_at zB_dX12_findSessions_120 32 rfl
theorem dX12_findSessions_171 : decode cX12_findSessions 171 = .ok (.iaload, 1) := zDec_at zB_dX12_findSessions_120 33 rfl
theorem dX12_findSessions_172 : decode cX12_findSessions 172 = .ok (.aload_n 0, 1) := zDec_at zB_dX12_findSessions_120 34 rfl
theorem dX12_findSessions_173 : decode cX12_findSessions 173 = .ok (.getfield 71, 3) := zDec_at zB_dX12_findSessions_120 35 rfl
theorem dX12_findSessions_176 : decode cX12_findSessions 176 = .ok (.iload_n 2, 1) := zDec_at zB_dX12_findSessions_120 36 rfl
theorem dX12_findSessions_177 : decode cX12_findSessions 177 = .ok (.iconst 1, 1) := zDec_at zB_dX12_findSessions_120 37 rfl
theorem dX12_findSessions_178 : decode cX12_findSessions 178 = .ok (.isub, 1) := zDec_at zB_dX12_findSessions_120 38 rfl
theorem dX12_findSessions_179 : decode cX12_findSessions 179 = .ok (.iaload, 1) := zDec_at zB_dX12_findSessions_120 39 rfl
theorem zB_dX12_findSessions_180 : zDecB cX12_findSessions [(180, .iadd, 1), (181, .iastore, 1), (182, .iinc 2 1, 3), (185, .goto (-44), 3), (188, .return_, 1)] = true := by decide +kernel
theorem dX12_findSessions_180 : decode cX12_findSessions 180 = .ok (.iadd, 1) := zDec_at zB_dX12_findSessions_180 0 rfl
theorem dX12_findSessions_181 : decode cX12_findSessions 181 = .ok (.iastore, 1) := zDec_at zB_dX12_findSessions_180 1 rfl
theorem dX12_findSessions_182 : decode cX12_findSessions 182 = .ok (.iinc 2 1, 3) := zDec_at zB_dX12_findSessions_180 2 rfl
theorem dX12_findSessions_185 : decode cX12_findSessions 185 = .ok (.goto (-44), 3) := zDec_at zB_dX12_findSessions_180 3 rfl
theorem dX12_findSessions_188 : decode cX12_findSessions 188 = .ok (.return_, 1) := zDec_at zB_dX12_findSessions_180 4 rfl
theorem zB_dX12_findWays_0 : zDecB cX12_findWays [(0, .aload_n 0, 1), (1, .getfield 7, 3), (4, .bipush 7, 2), (6, .iaload, 1), (7, .istore_n 3, 1), (8, .iconst 1, 1), (9, .istore 4, 2), (11, .iload 4, 2), (13, .iconst 1, 1), (14, .iload_n 3, 1), (15, .ishl, 1), (16, .if_icmp .ge 154, 3), (19, .iconst 0, 1), (20, .istore 5, 2), (22, .iload 5, 2), (24, .iload_n 3, 1), (25, .if_icmp .ge 139, 3), (28, .iload 4, 2), (30, .iconst 1, 1), (31, .iload 5, 2), (33, .ishl, 1), (34, .iconst (-1), 1), (35, .ixor, 1), (36, .iand, 1), (37, .istore 6, 2), (39, .iload 6, 2), (41, .ifCond .ne 14, 3), (44, .aload_n 0, 1), (45, .iload 5, 2), (47, .iload_n 1, 1), (48, .iload_n 2, 1), (49, .invokevirtual 528, 3), (52, .goto 6, 3), (55, .ldc_w 531, 3), (58, .istore 7, 2), (60, .iconst 0, 1), (61, .istore 8, 2), (63, .iload 8, 2), (65, .iload_n 3, 1), (66, .if_icmp .ge 60, 3)] = true := by decide +kernel
theorem dX12_findWays_0 : decode cX12_findWays 0 = .ok (.aload_n 0, 1) := zDec_at zB_dX12_findWays_0 0 rfl
theorem dX12_findWays_1 : decode cX12_findWays 1 = .ok (.getfield 7, 3) := zDec_at zB_dX12_findWays_0 1 rfl
theorem dX12_findWays_4 : decode cX12_findWays 4 = .ok (.bipush 7, 2) := zDec_at zB_dX12_findWays_0 2 rfl
theorem dX12_findWays_6 : decode cX12_findWays 6 = .ok (.iaload, 1) := zDec_at zB_dX12_findWays_0 3 rfl
theorem dX12_findWays_7 : decode cX12_findWays 7 = .ok (.istore_n 3, 1) := zDec_at zB_dX12_findWays_0 4 rfl
theorem dX12_findWays_8 : decode cX12_findWays 8 = .ok (.iconst 1, 1) := zDec_at zB_dX12_findWays_0 5 rfl
theorem dX12_findWays_9 : decode cX12_findWays 9 = .ok (.istore 4, 2) := zDec_at zB_dX12_findWays_0 6 rfl
theorem dX12_findWays_11 : decode cX12_findWays 11 = .ok (.iload 4, 2) := zDec_at zB_dX12_findWays_0 7 rfl
theorem dX12_findWays_13 : decode cX12_findWays 13 = .ok (.iconst 1, 1) := zDec_at zB_dX12_findWays_0 8 rfl
theorem dX12_findWays_14 : decode cX12_findWays 14 = .ok (.iload_n 3, 1) := zDec_at zB_dX12_findWays_0 9 rfl
theorem dX12_findWays_15 : decode cX12_findWays 15 = .ok (.ishl, 1) := zDec_at zB_dX12_findWays_0 10 rfl
theorem dX12_findWays_16 : decode cX12_findWays 16 = .ok (.if_icmp .ge 154, 3) := zDec_at zB_dX12_findWays_0 11 rfl
theorem dX12_findWays_19 : decode cX12_findWays 19 = .ok (.iconst 0, 1) := zDec_at zB_dX12_findWays_0 12 rfl
theorem dX12_findWays_20 : decode cX12_findWays 20 = .ok (.istore 5, 2) := zDec_at zB_dX12_findWays_0 13 rfl
theorem dX12_findWays_22 : decode cX12_findWays 22 = .ok (.iload 5, 2) := zDec_at zB_dX12_findWays_0 14 rfl
theorem dX12_findWays_24 : decode cX12_findWays 24 = .ok (.iload_n 3, 1) := zDec_at zB_dX12_findWays_0 15 rfl
theorem dX12_findWays_25 : decode cX12_findWays 25 = .ok (.if_icmp .ge 139, 3) := zDec_at zB_dX12_findWays_0 16 rfl
theorem dX12_findWays_28 : decode cX12_findWays 28 = .ok (.iload 4, 2) := zDec_at zB_dX12_findWays_0 17 rfl
theorem dX12_findWays_30 : decode cX12_findWays 30 = .ok (.iconst 1, 1) := zDec_at zB_dX12_findWays_0 18 rfl
theorem dX12_findWays_31 : decode cX12_findWays 31 = .ok (.iload 5, 2) := zDec_at zB_dX12_findWays_0 19 rfl
theorem dX12_findWays_33 : decode cX12_findWays 33 = .ok (.ishl, 1) := zDec_at zB_dX12_findWays_0 20 rfl
theorem dX12_findWays_34 : decode cX12_findWays 34 = .ok (.iconst (-1), 1) := zDec_at zB_dX12_findWays_0 21 rfl
theorem dX12_findWays_35 : decode cX12_findWays 35 = .ok (.ixor, 1) := zDec_at zB_dX12_findWays_0 22 rfl
theorem dX12_findWays_36 : decode cX12_findWays 36 = .ok (.iand, 1) := zDec_at zB_dX12_findWays_0 23 rfl
theorem dX12_findWays_37 : decode cX12_findWays 37 = .ok (.istore 6, 2) := zDec_at zB_dX12_findWays_0 24 rfl
theorem dX12_findWays_39 : decode cX12_findWays 39 = .ok (.iload 6, 2) := zDec_at zB_dX12_findWays_0 25 rfl
theorem dX12_findWays_41 : decode cX12_findWays 41 = .ok (.ifCond .ne 14, 3) := zDec_at zB_dX12_findWays_0 26 rfl
theorem dX12_findWays_44 : decode cX12_findWays 44 = .ok (.aload_n 0, 1) := zDec_at zB_dX12_findWays_0 27 rfl
theorem dX12_findWays_45 : decode cX12_findWays 45 = .ok (.iload 5, 2) := zDec_at zB_dX12_findWays_0 28 rfl
theorem dX12_findWays_47 : decode cX12_findWays 47 = .ok (.iload_n 1, 1) := zDec_at zB_dX12_findWays_0 29 rfl
theorem dX12_findWays_48 : decode cX12_findWays 48 = .ok (.iload_n 2, 1) := zDec_at zB_dX12_findWays_0 30 rfl
theorem dX12_findWays_49 : decode cX12_findWays 49 = .ok (.invokevirtual 528, 3) := zDec_at zB_dX12_findWays_0 31 rfl
theorem dX12_findWays_52 : decode cX12_findWays 52 = .ok (.goto 6, 3) := zDec_at zB_dX12_findWays_0 32 rfl
theorem dX12_findWays_55 : decode cX12_findWays 55 = .ok (.ldc_w 531, 3) := zDec_at zB_dX12_findWays_0 33 rfl
theorem dX12_findWays_58 : decode cX12_findWays 58 = .ok (.istore 7, 2) := zDec_at zB_dX12_findWays_0 34 rfl
theorem dX12_findWays_60 : decode cX12_findWays 60 = .ok (.iconst 0, 1) := zDec_at zB_dX12_findWays_0 35 rfl
theorem dX12_findWays_61 : decode cX12_findWays 61 = .ok (.istore 8, 2) := zDec_at zB_dX12_findWays_0 36 rfl
theorem dX12_findWays_63 : decode cX12_findWays 63 = .ok (.iload 8, 2) := zDec_at zB_dX12_findWays_0 37 rfl
theorem dX12_findWays_65 : decode cX12_findWays 65 = .ok (.iload_n 3, 1) := zDec_at zB_dX12_findWays_0 38 rfl
theorem dX12_findWays_66 : decode cX12_findWays 66 = .ok (.if_icmp .ge 60, 3) := zDec_at zB_dX12_findWays_0 39 rfl
theorem zB_dX12_findWays_69 : zDecB cX12_findWays [(69, .iload 6, 2), (71, .iload 8, 2), (73, .ishr, 1), (74, .iconst 1, 1), (75, .iand, 1), (76, .iconst 1, 1), (77, .if_icmp .ne 43, 3), (80, .aload_n 0, 1), (81, .getfield 80, 3), (84, .bipush 9, 2), (86, .iload 6, 2), (88, .imul, 1), (89, .iload 8, 2), (91, .iadd, 1), (92, .iaload, 1), (93, .aload_n 0, 1), (94, .iload 8, 2), (96, .iload 5, 2), (98, .invokevirtual 532, 3), (101, .iadd, 1), (102, .istore 9, 2), (104, .iload 9, 2), (106, .iload 7, 2), (108, .if_icmp .ge 8, 3), (111, .iload 9, 2), (113, .goto 5, 3), (116, .iload 7, 2), (118, .istore 7, 2), (120, .iinc 8 1, 3), (123, .goto (-60), 3), (126, .aload_n 0, 1), (127, .getfield 80, 3), (130, .bipush 9, 2), (132, .iload 4, 2), (134, .imul, 1), (135, .iload 5, 2), (137, .iadd, 1), (138, .iload 4, 2), (140, .iload 5, 2), (142, .ishr, 1)] = true := by decide +kernel
theorem dX12_findWays_69 : decode cX12_findWays 69 = .ok (.iload 6, 2) := zDec_at zB_dX12_findWays_69 0 rfl
theorem dX12_findWays_71 : decode cX12_findWays 71 = .ok (.iload 8, 2) := zDec_at zB_dX12_findWays_69 1 rfl
theorem dX12_findWays_73 : decode cX12_findWays 73 = .ok (.ishr, 1) := zDec_at zB_dX12_findWays_69 2 rfl
theorem dX12_findWays_74 : decode cX12_findWays 74 = .ok (.iconst 1, 1) := zDec_at zB_dX12_findWays_69 3 rfl
theorem dX12_findWays_75 : decode cX12_findWays 75 = .ok (.iand, 1) := zDec_at zB_dX12_findWays_69 4 rfl
theorem dX12_findWays_76 : decode cX12_findWays 76 = .ok (.iconst 1, 1) := zDec_at zB_dX12_findWays_69 5 rfl
theorem dX12_findWays_77 : decode cX12_findWays 77 = .ok (.if_icmp .ne 43, 3) := zDec_at zB_dX12_findWays_69 6 rfl
theorem dX12_findWays_80 : decode cX12_findWays 80 = .ok (.aload_n 0, 1) := zDec_at zB_dX12_findWays_69 7 rfl
theorem dX12_findWays_81 : decode cX12_findWays 81 = .ok (.getfield 80, 3) := zDec_at zB_dX12_findWays_69 8 rfl
theorem dX12_findWays_84 : decode cX12_findWays 84 = .ok (.bipush 9, 2) := zDec_at zB_dX12_findWays_69 9 rfl
theorem dX12_findWays_86 : decode cX12_findWays 86 = .ok (.iload 6, 2) := zDec_at zB_dX12_findWays_69 10 rfl
theorem dX12_findWays_88 : decode cX12_findWays 88 = .ok (.imul, 1) := zDec_at zB_dX12_findWays_69 11 rfl
theorem dX12_findWays_89 : decode cX12_findWays 89 = .ok (.iload 8, 2) := zDec_at zB_dX12_findWays_69 12 rfl
theorem dX12_findWays_91 : decode cX12_findWays 91 = .ok (.iadd, 1) := zDec_at zB_dX12_findWays_69 13 rfl
theorem dX12_findWays_92 : decode cX12_findWays 92 = .ok (.iaload, 1) := zDec_at zB_dX12_findWays_69 14 rfl
theorem dX12_findWays_93 : decode cX12_findWays 93 = .ok (.aload_n 0, 1) := zDec_at zB_dX12_findWays_69 15 rfl
theorem dX12_findWays_94 : decode cX12_findWays 94 = .ok (.iload 8, 2) := zDec_at zB_dX12_findWays_69 16 rfl
theorem dX12_findWays_96 : decode cX12_findWays 96 = .ok (.iload 5, 2) := zDec_at zB_dX12_findWays_69 17 rfl
theorem dX12_findWays_98 : decode cX12_findWays 98 = .ok (.invokevirtual 532, 3) := zDec_at zB_dX12_findWays_69 18 rfl
theorem dX12_findWays_101 : decode cX12_findWays 101 = .ok (.iadd, 1) := zDec_at zB_dX12_findWays_69 19 rfl
theorem dX12_findWays_102 : decode cX12_findWays 102 = .ok (.istore 9, 2) := zDec_at zB_dX12_findWays_69 20 rfl
theorem dX12_findWays_104 : decode cX12_findWays 104 = .ok (.iload 9, 2) := zDec_at zB_dX12_findWays_69 21 rfl
theorem dX12_findWays_106 : decode cX12_findWays 106 = .ok (.iload 7, 2) := zDec_at zB_dX12_findWays_69 22 rfl
theorem dX12_findWays_108 : decode cX12_findWays 108 = .ok (.if_icmp .ge 8, 3) := zDec_at zB_dX12_findWays_69 23 rfl
theorem dX12_findWays_111 : decode cX12_findWays 111 = .ok (.iload 9, 2) := zDec_at zB_dX12_findWays_69 24 rfl
theorem dX12_findWays_113 : decode cX12_findWays 113 = .ok (.goto 5, 3) := zDec_at zB_dX12_findWays_69 25 rfl
theorem dX12_findWays_116 : decode cX12_findWays 116 = .ok (.iload 7, 2) := zDec_at zB_dX12_findWays_69 26 rfl
theorem dX12_findWays_118 : decode cX12_findWays 118 = .ok (.istore 7, 2) := zDec_at zB_dX12_findWays_69 27 rfl
theorem dX12_findWays_120 : decode cX12_findWays 120 = .ok (.iinc 8 1, 3) := zDec_at zB_dX12_findWays_69 28 rfl
theorem dX12_findWays_123 : decode cX12_findWays 123 = .ok (.goto (-60), 3) := zDec_at zB_dX12_findWays_69 29 rfl
theorem dX12_findWays_126 : decode cX12_findWays 126 = .ok (.aload_n 0, 1) := zDec_at zB_dX12_findWays_69 30 rfl
theorem dX12_findWays_127 : decode cX12_findWays 127 = .ok (.getfield 80, 3) := zDec_at zB_dX12_findWays_69 31 rfl
theorem dX12_findWays_130 : decode cX12_findWays 130 = .ok (.bipush 9, 2) := zDec_at zB_dX12_findWays_69 32 rfl
theorem dX12_findWays_132 : decode cX12_findWays 132 = .ok (.iload 4, 2) := zDec_at zB_dX12_findWays_69 33 rfl
theorem dX12_findWays_134 : decode cX12_findWays 134 = .ok (.imul, 1) := zDec_at zB_dX12_findWays_69 34 rfl
theorem dX12_findWays_135 : decode cX12_findWays 135 = .ok (.iload 5, 2) := zDec_at zB_dX12_findWays_69 35 rfl
theorem dX12_findWays_137 : decode cX12_findWays 137 = .ok (.iadd, 1) := zDec_at zB_dX12_findWays_69 36 rfl
theorem dX12_findWays_138 : decode cX12_findWays 138 = .ok (.iload 4, 2) := zDec_at zB_dX12_findWays_69 37 rfl
theorem dX12_findWays_140 : decode cX12_findWays 140 = .ok (.iload 5, 2) := zDec_at zB_dX12_findWays_69 38 rfl
theorem dX12_findWays_142 : decode cX12_findWays 142 = .ok (.ishr, 1) := zDec_at zB_dX12_findWays_69 39 rfl
theorem zB_dX12_findWays_143 : zDecB cX12_findWays [(143, .iconst 1, 1), (144, .iand, 1), (145, .iconst 1, 1), (146, .if_icmp .ne 8, 3), (149, .iload 7, 2), (151, .goto 6, 3), (154, .ldc_w 531, 3), (157, .iastore, 1), (158, .iinc 5 1, 3), (161, .goto (-139), 3), (164, .iinc 4 1, 3), (167, .goto (-156), 3), (170, .return_, 1)] = true := by decide +kernel
theorem dX12_findWays_143 : decode cX12_findWays 143 = .ok (.iconst 1, 1) := zDec_at zB_dX12_findWays_143 0 rfl
theorem dX12_findWays_144 : decode cX12_findWays 144 = .ok (.iand, 1) := zDec_at zB_dX12_findWays_143 1 rfl
theorem dX12_findWays_145 : decode cX12_findWays 145 = .ok (.iconst 1, 1) := zDec_at zB_dX12_findWays_143 2 rfl
theorem dX12_findWays_146 : decode cX12_findWays 146 = .ok (.if_icmp .ne 8, 3) := zDec_at zB_dX12_findWays_143 3 rfl
theorem dX12_findWays_149 : decode cX12_findWays 149 = .ok (.iload 7, 2) := zDec_at zB_dX12_findWays_143 4 rfl
theorem dX12_findWays_151 : decode cX12_findWays 151 = .ok (.goto 6, 3) := zDec_at zB_dX12_findWays_143 5 rfl
theorem dX12_findWays_154 : decode cX12_findWays 154 = .ok (.ldc_w 531, 3) := zDec_at zB_dX12_findWays_143 6 rfl
theorem dX12_findWays_157 : decode cX12_findWays 157 = .ok (.iastore, 1) := zDec_at zB_dX12_findWays_143 7 rfl
theorem dX12_findWays_158 : decode cX12_findWays 158 = .ok (.iinc 5 1, 3) := zDec_at zB_dX12_findWays_143 8 rfl
theorem dX12_findWays_161 : decode cX12_findWays 161 = .ok (.goto (-139), 3) := zDec_at zB_dX12_findWays_143 9 rfl
theorem dX12_findWays_164 : decode cX12_findWays 164 = .ok (.iinc 4 1, 3) := zDec_at zB_dX12_findWays_143 10 rfl
theorem dX12_findWays_167 : decode cX12_findWays 167 = .ok (.goto (-156), 3) := zDec_at zB_dX12_findWays_143 11 rfl
theorem dX12_findWays_170 : decode cX12_findWays 170 = .ok (.return_, 1) := zDec_at zB_dX12_findWays_143 12 rfl
theorem zB_dX12_fine_0 : zDecB cX12_fine [(0, .aload_n 0, 1), (1, .iconst 0, 1), (2, .putfield 92, 3), (5, .aload_n 0, 1), (6, .iload_n 1, 1), (7, .invokevirtual 138, 3), (10, .ifCond .eq 50, 3), (13, .iload_n 2, 1), (14, .invokestatic 460, 3), (17, .ifCond .eq 43, 3), (20, .iload_n 3, 1), (21, .invokestatic 127, 3), (24, .ifCond .eq 36, 3), (27, .iload 4, 2), (29, .i2l, 1), (30, .lconst 0, 1), (31, .ldc2_w 484, 3), (34, .invokestatic 100, 3), (37, .ifCond .eq 23, 3), (40, .aload_n 0, 1), (41, .iload_n 1, 1), (42, .iload_n 2, 1), (43, .invokevirtual 469, 3), (46, .iconst (-1), 1), (47, .if_icmp .eq 13, 3), (50, .aload_n 0, 1), (51, .iload_n 1, 1), (52, .iload_n 2, 1), (53, .invokevirtual 469, 3), (56, .iload_n 3, 1), (57, .if_icmp .le 5, 3), (60, .iconst (-1), 1), (61, .ireturn, 1), (62, .iload 4, 2), (64, .ifCond .ne 10, 3), (67, .aload_n 0, 1), (68, .iload_n 1, 1), (69, .iload_n 2, 1), (70, .invokevirtual 481, 3), (73, .ireturn, 1)] = true := by decide +kernel
theorem dX12_fine_0 : decode cX12_fine 0 = .ok (.aload_n 0, 1) := zDec_at zB_dX12_fine_0 0 rfl
theorem dX12_fine_1 : decode cX12_fine 1 = .ok (.iconst 0, 1) := zDec_at zB_dX12_fine_0 1 rfl
theorem dX12_fine_2 : decode cX12_fine 2 = .ok (.putfield 92, 3) := zDec_at zB_dX12_fine_0 2 rfl
theorem dX12_fine_5 : decode cX12_fine 5 = .ok (.aload_n 0, 1) := zDec_at zB_dX12_fine_0 3 rfl
theorem dX12_fine_6 : decode cX12_fine 6 = .ok (.iload_n 1, 1) := zDec_at zB_dX12_fine_0 4 rfl
theorem dX12_fine_7 : decode cX12_fine 7 = .ok (.invokevirtual 138, 3) := zDec_at zB_dX12_fine_0 5 rfl
theorem dX12_fine_10 : decode cX12_fine 10 = .ok (.ifCond .eq 50, 3) := zDec_at zB_dX12_fine_0 6 rfl
theorem dX12_fine_13 : decode cX12_fine 13 = .ok (.iload_n 2, 1) := zDec_at zB_dX12_fine_0 7 rfl
theorem dX12_fine_14 : decode cX12_fine 14 = .ok (.invokestatic 460, 3) := zDec_at zB_dX12_fine_0 8 rfl
theorem dX12_fine_17 : decode cX12_fine 17 = .ok (.ifCond .eq 43, 3) := zDec_at zB_dX12_fine_0 9 rfl
theorem dX12_fine_20 : decode cX12_fine 20 = .ok (.iload_n 3, 1) := zDec_at zB_dX12_fine_0 10 rfl
theorem dX12_fine_21 : decode cX12_fine 21 = .ok (.invokestatic 127, 3) := zDec_at zB_dX12_fine_0 11 rfl
theorem dX12_fine_24 : decode cX12_fine 24 = .ok (.ifCond .eq 36, 3) := zDec_at zB_dX12_fine_0 12 rfl
theorem dX12_fine_27 : decode cX12_fine 27 = .ok (.iload 4, 2) := zDec_at zB_dX12_fine_0 13 rfl
theorem dX12_fine_29 : decode cX12_fine 29 = .ok (.i2l, 1) := zDec_at zB_dX12_fine_0 14 rfl
theorem dX12_fine_30 : decode cX12_fine 30 = .ok (.lconst 0, 1) := zDec_at zB_dX12_fine_0 15 rfl
theorem dX12_fine_31 : decode cX12_fine 31 = .ok (.ldc2_w 484, 3) := zDec_at zB_dX12_fine_0 16 rfl
theorem dX12_fine_34 : decode cX12_fine 34 = .ok (.invokestatic 100, 3) := zDec_at zB_dX12_fine_0 17 rfl
theorem dX12_fine_37 : decode cX12_fine 37 = .ok (.ifCond .eq 23, 3) := zDec_at zB_dX12_fine_0 18 rfl
theorem dX12_fine_40 : decode cX12_fine 40 = .ok (.aload_n 0, 1) := zDec_at zB_dX12_fine_0 19 rfl
theorem dX12_fine_41 : decode cX12_fine 41 = .ok (.iload_n 1, 1) := zDec_at zB_dX12_fine_0 20 rfl
theorem dX12_fine_42 : decode cX12_fine 42 = .ok (.iload_n 2, 1) := zDec_at zB_dX12_fine_0 21 rfl
theorem dX12_fine_43 : decode cX12_fine 43 = .ok (.invokevirtual 469, 3) := zDec_at zB_dX12_fine_0 22 rfl
theorem dX12_fine_46 : decode cX12_fine 46 = .ok (.iconst (-1), 1) := zDec_at zB_dX12_fine_0 23 rfl
theorem dX12_fine_47 : decode cX12_fine 47 = .ok (.if_icmp .eq 13, 3) := zDec_at zB_dX12_fine_0 24 rfl
theorem dX12_fine_50 : decode cX12_fine 50 = .ok (.aload_n 0, 1) := zDec_at zB_dX12_fine_0 25 rfl
theorem dX12_fine_51 : decode cX12_fine 51 = .ok (.iload_n 1, 1) := zDec_at zB_dX12_fine_0 26 rfl
theorem dX12_fine_52 : decode cX12_fine 52 = .ok (.iload_n 2, 1) := zDec_at zB_dX12_fine_0 27 rfl
theorem dX12_fine_53 : decode cX12_fine 53 = .ok (.invokevirtual 469, 3) := zDec_at zB_dX12_fine_0 28 rfl
theorem dX12_fine_56 : decode cX12_fine 56 = .ok (.iload_n 3, 1) := zDec_at zB_dX12_fine_0 29 rfl
theorem dX12_fine_57 : decode cX12_fine 57 = .ok (.if_icmp .le 5, 3) := zDec_at zB_dX12_fine_0 30 rfl
theorem dX12_fine_60 : decode cX12_fine 60 = .ok (.iconst (-1), 1) := zDec_at zB_dX12_fine_0 31 rfl
theorem dX12_fine_61 : decode cX12_fine 61 = .ok (.ireturn, 1) := zDec_at zB_dX12_fine_0 32 rfl
theorem dX12_fine_62 : decode cX12_fine 62 = .ok (.iload 4, 2) := zDec_at zB_dX12_fine_0 33 rfl
theorem dX12_fine_64 : decode cX12_fine 64 = .ok (.ifCond .ne 10, 3) := zDec_at zB_dX12_fine_0 34 rfl
theorem dX12_fine_67 : decode cX12_fine 67 = .ok (.aload_n 0, 1) := zDec_at zB_dX12_fine_0 35 rfl
theorem dX12_fine_68 : decode cX12_fine 68 = .ok (.iload_n 1, 1) := zDec_at zB_dX12_fine_0 36 rfl
theorem dX12_fine_69 : decode cX12_fine 69 = .ok (.iload_n 2, 1) := zDec_at zB_dX12_fine_0 37 rfl
theorem dX12_fine_70 : decode cX12_fine 70 = .ok (.invokevirtual 481, 3) := zDec_at zB_dX12_fine_0 38 rfl
theorem dX12_fine_73 : decode cX12_fine 73 = .ok (.ireturn, 1) := zDec_at zB_dX12_fine_0 39 rfl
theorem zB_dX12_fine_74 : zDecB cX12_fine [(74, .iload_n 1, 1), (75, .invokestatic 120, 3), (78, .istore 5, 2), (80, .aload_n 0, 1), (81, .getfield 7, 3), (84, .iload 5, 2), (86, .bipush 9, 2), (88, .iadd, 1), (89, .iload_n 2, 1), (90, .iadd, 1), (91, .iaload, 1), (92, .iconst (-1), 1), (93, .if_icmp .eq 23, 3), (96, .aload_n 0, 1), (97, .getfield 7, 3), (100, .iload 5, 2), (102, .bipush 9, 2), (104, .iadd, 1), (105, .iload_n 2, 1), (106, .iadd, 1), (107, .iaload, 1), (108, .iload_n 3, 1), (109, .if_icmp .gt 7, 3), (112, .iconst 1, 1), (113, .goto 4, 3), (116, .iconst 0, 1), (117, .istore 6, 2), (119, .aload_n 0, 1), (120, .iload_n 1, 1), (121, .iload_n 2, 1), (122, .iload_n 3, 1), (123, .invokevirtual 475, 3), (126, .istore 7, 2), (128, .iload 4, 2), (130, .iconst 1, 1), (131, .if_icmp .ne 24, 3), (134, .iload 7, 2), (136, .ifCond .eq 8, 3), (139, .iload 6, 2), (141, .ifCond .eq 7, 3)] = true := by decide +kernel
theorem dX12_fine_74 : decode cX12_fine 74 = .ok (.iload_n 1, 1) := zDec_at zB_dX12_fine_74 0 rfl
theorem dX12_fine_75 : decode cX12_fine 75 = .ok (.invokestatic 120, 3) := zDec_at zB_dX12_fine_74 1 rfl
theorem dX12_fine_78 : decode cX12_fine 78 = .ok (.istore 5, 2) := zDec_at zB_dX12_fine_74 2 rfl
theorem dX12_fine_80 : decode cX12_fine 80 = .ok (.aload_n 0, 1) := zDec_at zB_dX12_fine_74 3 rfl
theorem dX12_fine_81 : decode cX12_fine 81 = .ok (.getfield 7, 3) := zDec_at zB_dX12_fine_74 4 rfl
theorem dX12_fine_84 : decode cX12_fine 84 = .ok (.iload 5, 2) := zDec_at zB_dX12_fine_74 5 rfl
theorem dX12_fine_86 : decode cX12_fine 86 = .ok (.bipush 9, 2) := zDec_at zB_dX12_fine_74 6 rfl
theorem dX12_fine_88 : decode cX12_fine 88 = .ok (.iadd, 1) := zDec_at zB_dX12_fine_74 7 rfl
theorem dX12_fine_89 : decode cX12_fine 89 = .ok (.iload_n 2, 1) := zDec_at zB_dX12_fine_74 8 rfl
theorem dX12_fine_90 : decode cX12_fine 90 = .ok (.iadd, 1) := zDec_at zB_dX12_fine_74 9 rfl
theorem dX12_fine_91 : decode cX12_fine 91 = .ok (.iaload, 1) := zDec_at zB_dX12_fine_74 10 rfl
theorem dX12_fine_92 : decode cX12_fine 92 = .ok (.iconst (-1), 1) := zDec_at zB_dX12_fine_74 11 rfl
theorem dX12_fine_93 : decode cX12_fine 93 = .ok (.if_icmp .eq 23, 3) := zDec_at zB_dX12_fine_74 12 rfl
theorem dX12_fine_96 : decode cX12_fine 96 = .ok (.aload_n 0, 1) := zDec_at zB_dX12_fine_74 13 rfl
theorem dX12_fine_97 : decode cX12_fine 97 = .ok (.getfield 7, 3) := zDec_at zB_dX12_fine_74 14 rfl
theorem dX12_fine_100 : decode cX12_fine 100 = .ok (.iload 5, 2) := zDec_at zB_dX12_fine_74 15 rfl
theorem dX12_fine_102 : decode cX12_fine 102 = .ok (.bipush 9, 2) := zDec_at zB_dX12_fine_74 16 rfl
theorem dX12_fine_104 : decode cX12_fine 104 = .ok (.iadd, 1) := zDec_at zB_dX12_fine_74 17 rfl
theorem dX12_fine_105 : decode cX12_fine 105 = .ok (.iload_n 2, 1) := zDec_at zB_dX12_fine_74 18 rfl
theorem dX12_fine_106 : decode cX12_fine 106 = .ok (.iadd, 1) := zDec_at zB_dX12_fine_74 19 rfl
theorem dX12_fine_107 : decode cX12_fine 107 = .ok (.iaload, 1) := zDec_at zB_dX12_fine_74 20 rfl
theorem dX12_fine_108 : decode cX12_fine 108 = .ok (.iload_n 3, 1) := zDec_at zB_dX12_fine_74 21 rfl
theorem dX12_fine_109 : decode cX12_fine 109 = .ok (.if_icmp .gt 7, 3) := zDec_at zB_dX12_fine_74 22 rfl
theorem dX12_fine_112 : decode cX12_fine 112 = .ok (.iconst 1, 1) := zDec_at zB_dX12_fine_74 23 rfl
theorem dX12_fine_113 : decode cX12_fine 113 = .ok (.goto 4, 3) := zDec_at zB_dX12_fine_74 24 rfl
theorem dX12_fine_116 : decode cX12_fine 116 = .ok (.iconst 0, 1) := zDec_at zB_dX12_fine_74 25 rfl
theorem dX12_fine_117 : decode cX12_fine 117 = .ok (.istore 6, 2) := zDec_at zB_dX12_fine_74 26 rfl
theorem dX12_fine_119 : decode cX12_fine 119 = .ok (.aload_n 0, 1) := zDec_at zB_dX12_fine_74 27 rfl
theorem dX12_fine_120 : decode cX12_fine 120 = .ok (.iload_n 1, 1) := zDec_at zB_dX12_fine_74 28 rfl
theorem dX12_fine_121 : decode cX12_fine 121 = .ok (.iload_n 2, 1) := zDec_at zB_dX12_fine_74 29 rfl
theorem dX12_fine_122 : decode cX12_fine 122 = .ok (.iload_n 3, 1) := zDec_at zB_dX12_fine_74 30 rfl
theorem dX12_fine_123 : decode cX12_fine 123 = .ok (.invokevirtual 475, 3) := zDec_at zB_dX12_fine_74 31 rfl
theorem dX12_fine_126 : decode cX12_fine 126 = .ok (.istore 7, 2) := zDec_at zB_dX12_fine_74 32 rfl
theorem dX12_fine_128 : decode cX12_fine 128 = .ok (.iload 4, 2) := zDec_at zB_dX12_fine_74 33 rfl
theorem dX12_fine_130 : decode cX12_fine 130 = .ok (.iconst 1, 1) := zDec_at zB_dX12_fine_74 34 rfl
theorem dX12_fine_131 : decode cX12_fine 131 = .ok (.if_icmp .ne 24, 3) := zDec_at zB_dX12_fine_74 35 rfl
theorem dX12_fine_134 : decode cX12_fine 134 = .ok (.iload 7, 2) := zDec_at zB_dX12_fine_74 36 rfl
theorem dX12_fine_136 : decode cX12_fine 136 = .ok (.ifCond .eq 8, 3) := zDec_at zB_dX12_fine_74 37 rfl
theorem dX12_fine_139 : decode cX12_fine 139 = .ok (.iload 6, 2) := zDec_at zB_dX12_fine_74 38 rfl
theorem dX12_fine_141 : decode cX12_fine 141 = .ok (.ifCond .eq 7, 3) := zDec_at zB_dX12_fine_74 39 rfl
theorem zB_dX12_fine_144 : zDecB cX12_fine [(144, .iconst 0, 1), (145, .goto 9, 3), (148, .aload_n 0, 1), (149, .iload_n 1, 1), (150, .iload_n 2, 1), (151, .invokevirtual 481, 3), (154, .ireturn, 1), (155, .iload 7, 2), (157, .ifCond .ne 8, 3), (160, .iload 6, 2), (162, .ifCond .ne 7, 3), (165, .iconst 0, 1), (166, .goto 15, 3), (169, .aload_n 0, 1), (170, .getfield 7, 3), (173, .iload 5, 2), (175, .bipush 13, 2), (177, .iadd, 1), (178, .iload_n 2, 1), (179, .iadd, 1), (180, .iaload, 1), (181, .ireturn, 1)] = true := by decide +kernel
theorem dX12_fine_144 : decode cX12_fine 144 = .ok (.iconst 0, 1) := zDec_at zB_dX12_fine_144 0 rfl
theorem dX12_fine_145 : decode cX12_fine 145 = .ok (.goto 9, 3) := zDec_at zB_dX12_fine_144 1 rfl
theorem dX12_fine_148 : decode cX12_fine 148 = .ok (.aload_n 0, 1) := zDec_at zB_dX12_fine_144 2 rfl
theorem dX12_fine_149 : decode cX12_fine 149 = .ok (.iload_n 1, 1) := zDec_at zB_dX12_fine_144 3 rfl
theorem dX12_fine_150 : decode cX12_fine 150 = .ok (.iload_n 2, 1) := zDec_at zB_dX12_fine_144 4 rfl
theorem dX12_fine_151 : decode cX12_fine 151 = .ok (.invokevirtual 481, 3) := zDec_at zB_dX12_fine_144 5 rfl
theorem dX12_fine_154 : decode cX12_fine 154 = .ok (.ireturn, 1) := zDec_at zB_dX12_fine_144 6 rfl
theorem dX12_fine_155 : decode cX12_fine 155 = .ok (.iload 7, 2) := zDec_at zB_dX12_fine_144 7 rfl
theorem dX12_fine_157 : decode cX12_fine 157 = .ok (.ifCond .ne 8, 3) := zDec_at zB_dX12_fine_144 8 rfl
theorem dX12_fine_160 : decode cX12_fine 160 = .ok (.iload 6, 2) := zDec_at zB_dX12_fine_144 9 rfl
theorem dX12_fine_162 : decode cX12_fine 162 = .ok (.ifCond .ne 7, 3) := zDec_at zB_dX12_fine_144 10 rfl
theorem dX12_fine_165 : decode cX12_fine 165 = .ok (.iconst 0, 1) := zDec_at zB_dX12_fine_144 11 rfl
theorem dX12_fine_166 : decode cX12_fine 166 = .ok (.goto 15, 3) := zDec_at zB_dX12_fine_144 12 rfl
theorem dX12_fine_169 : decode cX12_fine 169 = .ok (.aload_n 0, 1) := zDec_at zB_dX12_fine_144 13 rfl
theorem dX12_fine_170 : decode cX12_fine 170 = .ok (.getfield 7, 3) := zDec_at zB_dX12_fine_144 14 rfl
theorem dX12_fine_173 : decode cX12_fine 173 = .ok (.iload 5, 2) := zDec_at zB_dX12_fine_144 15 rfl
theorem dX12_fine_175 : decode cX12_fine 175 = .ok (.bipush 13, 2) := zDec_at zB_dX12_fine_144 16 rfl
theorem dX12_fine_177 : decode cX12_fine 177 = .ok (.iadd, 1) := zDec_at zB_dX12_fine_144 17 rfl
theorem dX12_fine_178 : decode cX12_fine 178 = .ok (.iload_n 2, 1) := zDec_at zB_dX12_fine_144 18 rfl
theorem dX12_fine_179 : decode cX12_fine 179 = .ok (.iadd, 1) := zDec_at zB_dX12_fine_144 19 rfl
theorem dX12_fine_180 : decode cX12_fine 180 = .ok (.iaload, 1) := zDec_at zB_dX12_fine_144 20 rfl
theorem dX12_fine_181 : decode cX12_fine 181 = .ok (.ireturn, 1) := zDec_at zB_dX12_fine_144 21 rfl
theorem zB_dX12_fineOf_0 : zDecB cX12_fineOf [(0, .aload_n 0, 1), (1, .iload_n 1, 1), (2, .iload_n 2, 1), (3, .invokevirtual 469, 3), (6, .istore_n 3, 1), (7, .aload_n 0, 1), (8, .iload_n 3, 1), (9, .invokevirtual 186, 3), (12, .aload_n 0, 1), (13, .iload_n 1, 1), (14, .invokevirtual 463, 3), (17, .aload_n 0, 1), (18, .iload_n 1, 1), (19, .iload_n 3, 1), (20, .invokevirtual 457, 3), (23, .aload_n 0, 1), (24, .iconst 3, 1), (25, .iload_n 2, 1), (26, .iconst (-1), 1), (27, .invokevirtual 175, 3), (30, .ifCond .ne 10, 3), (33, .aload_n 0, 1), (34, .iconst 0, 1), (35, .putfield 478, 3), (38, .iconst 0, 1), (39, .ireturn, 1), (40, .aload_n 0, 1), (41, .aload_n 0, 1), (42, .getfield 178, 3), (45, .putfield 478, 3), (48, .aload_n 0, 1), (49, .getfield 433, 3), (52, .lconst 0, 1), (53, .lcmp, 1), (54, .ifCond .ge 7, 3), (57, .iconst 0, 1), (58, .goto 8, 3), (61, .aload_n 0, 1), (62, .getfield 433, 3), (65, .l2i, 1)] = true := by decide +kernel
theorem dX12_fineOf_0 : decode cX12_fineOf 0 = .ok (.aload_n 0, 1) := zDec_at zB_dX12_fineOf_0 0 rfl
theorem dX12_fineOf_1 : decode cX12_fineOf 1 = .ok (.iload_n 1, 1) := zDec_at zB_dX12_fineOf_0 1 rfl
theorem dX12_fineOf_2 : decode cX12_fineOf 2 = .ok (.iload_n 2, 1) := zDec_at zB_dX12_fineOf_0 2 rfl
theorem dX12_fineOf_3 : decode cX12_fineOf 3 = .ok (.invokevirtual 469, 3) := zDec_at zB_dX12_fineOf_0 3 rfl
theorem dX12_fineOf_6 : decode cX12_fineOf 6 = .ok (.istore_n 3, 1) := zDec_at zB_dX12_fineOf_0 4 rfl
theorem dX12_fineOf_7 : decode cX12_fineOf 7 = .ok (.aload_n 0, 1) := zDec_at zB_dX12_fineOf_0 5 rfl
theorem dX12_fineOf_8 : decode cX12_fineOf 8 = .ok (.iload_n 3, 1) := zDec_at zB_dX12_fineOf_0 6 rfl
theorem dX12_fineOf_9 : decode cX12_fineOf 9 = .ok (.invokevirtual 186, 3) := zDec_at zB_dX12_fineOf_0 7 rfl
theorem dX12_fineOf_12 : decode cX12_fineOf 12 = .ok (.aload_n 0, 1) := zDec_at zB_dX12_fineOf_0 8 rfl
theorem dX12_fineOf_13 : decode cX12_fineOf 13 = .ok (.iload_n 1, 1) := zDec_at zB_dX12_fineOf_0 9 rfl
theorem dX12_fineOf_14 : decode cX12_fineOf 14 = .ok (.invokevirtual 463, 3) := zDec_at zB_dX12_fineOf_0 10 rfl
theorem dX12_fineOf_17 : decode cX12_fineOf 17 = .ok (.aload_n 0, 1) := zDec_at zB_dX12_fineOf_0 11 rfl
theorem dX12_fineOf_18 : decode cX12_fineOf 18 = .ok (.iload_n 1, 1) := zDec_at zB_dX12_fineOf_0 12 rfl
theorem dX12_fineOf_19 : decode cX12_fineOf 19 = .ok (.iload_n 3, 1) := zDec_at zB_dX12_fineOf_0 13 rfl
theorem dX12_fineOf_20 : decode cX12_fineOf 20 = .ok (.invokevirtual 457, 3) := zDec_at zB_dX12_fineOf_0 14 rfl
theorem dX12_fineOf_23 : decode cX12_fineOf 23 = .ok (.aload_n 0, 1) := zDec_at zB_dX12_fineOf_0 15 rfl
theorem dX12_fineOf_24 : decode cX12_fineOf 24 = .ok (.iconst 3, 1) := zDec_at zB_dX12_fineOf_0 16 rfl
theorem dX12_fineOf_25 : decode cX12_fineOf 25 = .ok (.iload_n 2, 1) := zDec_at zB_dX12_fineOf_0 17 rfl
theorem dX12_fineOf_26 : decode cX12_fineOf 26 = .ok (.iconst (-1), 1) := zDec_at zB_dX12_fineOf_0 18 rfl
theorem dX12_fineOf_27 : decode cX12_fineOf 27 = .ok (.invokevirtual 175, 3) := zDec_at zB_dX12_fineOf_0 19 rfl
theorem dX12_fineOf_30 : decode cX12_fineOf 30 = .ok (.ifCond .ne 10, 3) := zDec_at zB_dX12_fineOf_0 20 rfl
theorem dX12_fineOf_33 : decode cX12_fineOf 33 = .ok (.aload_n 0, 1) := zDec_at zB_dX12_fineOf_0 21 rfl
theorem dX12_fineOf_34 : decode cX12_fineOf 34 = .ok (.iconst 0, 1) := zDec_at zB_dX12_fineOf_0 22 rfl
theorem dX12_fineOf_35 : decode cX12_fineOf 35 = .ok (.putfield 478, 3) := zDec_at zB_dX12_fineOf_0 23 rfl
theorem dX12_fineOf_38 : decode cX12_fineOf 38 = .ok (.iconst 0, 1) := zDec_at zB_dX12_fineOf_0 24 rfl
theorem dX12_fineOf_39 : decode cX12_fineOf 39 = .ok (.ireturn, 1) := zDec_at zB_dX12_fineOf_0 25 rfl
theorem dX12_fineOf_40 : decode cX12_fineOf 40 = .ok (.aload_n 0, 1) := zDec_at zB_dX12_fineOf_0 26 rfl
theorem dX12_fineOf_41 : decode cX12_fineOf 41 = .ok (.aload_n 0, 1) := zDec_at zB_dX12_fineOf_0 27 rfl
theorem dX12_fineOf_42 : decode cX12_fineOf 42 = .ok (.getfield 178, 3) := zDec_at zB_dX12_fineOf_0 28 rfl
theorem dX12_fineOf_45 : decode cX12_fineOf 45 = .ok (.putfield 478, 3) := zDec_at zB_dX12_fineOf_0 29 rfl
theorem dX12_fineOf_48 : decode cX12_fineOf 48 = .ok (.aload_n 0, 1) := zDec_at zB_dX12_fineOf_0 30 rfl
theorem dX12_fineOf_49 : decode cX12_fineOf 49 = .ok (.getfield 433, 3) := zDec_at zB_dX12_fineOf_0 31 rfl
theorem dX12_fineOf_52 : decode cX12_fineOf 52 = .ok (.lconst 0, 1) := zDec_at zB_dX12_fineOf_0 32 rfl
theorem dX12_fineOf_53 : decode cX12_fineOf 53 = .ok (.lcmp, 1) := zDec_at zB_dX12_fineOf_0 33 rfl
theorem dX12_fineOf_54 : decode cX12_fineOf 54 = .ok (.ifCond .ge 7, 3) := zDec_at zB_dX12_fineOf_0 34 rfl
theorem dX12_fineOf_57 : decode cX12_fineOf 57 = .ok (.iconst 0, 1) := zDec_at zB_dX12_fineOf_0 35 rfl
theorem dX12_fineOf_58 : decode cX12_fineOf 58 = .ok (.goto 8, 3) := zDec_at zB_dX12_fineOf_0 36 rfl
theorem dX12_fineOf_61 : decode cX12_fineOf 61 = .ok (.aload_n 0, 1) := zDec_at zB_dX12_fineOf_0 37 rfl
theorem dX12_fineOf_62 : decode cX12_fineOf 62 = .ok (.getfield 433, 3) := zDec_at zB_dX12_fineOf_0 38 rfl
theorem dX12_fineOf_65 : decode cX12_fineOf 65 = .ok (.l2i, 1) := zDec_at zB_dX12_fineOf_0 39 rfl
theorem dX12_fineOf_66 : decode cX12_fineOf 66 = .ok (.ireturn, 1) := by decide +kernel
theorem zB_dX12_force_0 : zDecB cX12_force [(0, .aload_n 0, 1), (1, .iconst 0, 1), (2, .putfield 92, 3), (5, .iload_n 1, 1), (6, .i2l, 1), (7, .lconst 0, 1), (8, .aload_n 0, 1), (9, .getfield 7, 3), (12, .iconst 4, 1), (13, .iaload, 1), (14, .i2l, 1), (15, .lconst 1, 1), (16, .lsub, 1), (17, .invokestatic 100, 3), (20, .ifCond .eq 33, 3), (23, .iload_n 2, 1), (24, .i2l, 1), (25, .lconst 0, 1), (26, .aload_n 0, 1), (27, .getfield 7, 3), (30, .iload_n 1, 1), (31, .invokestatic 403, 3), (34, .iconst 1, 1), (35, .iadd, 1), (36, .iaload, 1), (37, .i2l, 1), (38, .lconst 1, 1), (39, .lsub, 1), (40, .invokestatic 100, 3), (43, .ifCond .eq 10, 3), (46, .iload_n 3, 1), (47, .invokestatic 127, 3), (50, .ifCond .ne 5, 3), (53, .iconst (-1), 1), (54, .ireturn, 1), (55, .aload_n 0, 1), (56, .iload_n 3, 1), (57, .invokevirtual 167, 3), (60, .aload_n 0, 1), (61, .getfield 55, 3)] = true := by decide +kernel
theorem dX12_force_0 : decode cX12_force 0 = .ok (.aload_n 0, 1) := zDec_at zB_dX12_force_0 0 rfl
theorem dX12_force_1 : decode cX12_force 1 = .ok (.iconst 0, 1) := zDec_at zB_dX12_force_0 1 rfl
theorem dX12_force_2 : decode cX12_force 2 = .ok (.putfield 92, 3) := zDec_at zB_dX12_force_0 2 rfl
theorem dX12_force_5 : decode cX12_force 5 = .ok (.iload_n 1, 1) := zDec_at zB_dX12_force_0 3 rfl
theorem dX12_force_6 : decode cX12_force 6 = .ok (.i2l, 1) := zDec_at zB_dX12_force_0 4 rfl
theorem dX12_force_7 : decode cX12_force 7 = .ok (.lconst 0, 1) := zDec_at zB_dX12_force_0 5 rfl
theorem dX12_force_8 : decode cX12_force 8 = .ok (.aload_n 0, 1) := zDec_at zB_dX12_force_0 6 rfl
theorem dX12_force_9 : decode cX12_force 9 = .ok (.getfield 7, 3) := zDec_at zB_dX12_force_0 7 rfl
theorem dX12_force_12 : decode cX12_force 12 = .ok (.iconst 4, 1) := zDec_at zB_dX12_force_0 8 rfl
theorem dX12_force_13 : decode cX12_force 13 = .ok (.iaload, 1) := zDec_at zB_dX12_force_0 9 rfl
theorem dX12_force_14 : decode cX12_force 14 = .ok (.i2l, 1) := zDec_at zB_dX12_force_0 10 rfl
theorem dX12_force_15 : decode cX12_force 15 = .ok (.lconst 1, 1) := zDec_at zB_dX12_force_0 11 rfl
theorem dX12_force_16 : decode cX12_force 16 = .ok (.lsub, 1) := zDec_at zB_dX12_force_0 12 rfl
theorem dX12_force_17 : decode cX12_force 17 = .ok (.invokestatic 100, 3) := zDec_at zB_dX12_force_0 13 rfl
theorem dX12_force_20 : decode cX12_force 20 = .ok (.ifCond .eq 33, 3) := zDec_at zB_dX12_force_0 14 rfl
theorem dX12_force_23 : decode cX12_force 23 = .ok (.iload_n 2, 1) := zDec_at zB_dX12_force_0 15 rfl
theorem dX12_force_24 : decode cX12_force 24 = .ok (.i2l, 1) := zDec_at zB_dX12_force_0 16 rfl
theorem dX12_force_25 : decode cX12_force 25 = .ok (.lconst 0, 1) := zDec_at zB_dX12_force_0 17 rfl
theorem dX12_force_26 : decode cX12_force 26 = .ok (.aload_n 0, 1) := zDec_at zB_dX12_force_0 18 rfl
theorem dX12_force_27 : decode cX12_force 27 = .ok (.getfield 7, 3) := zDec_at zB_dX12_force_0 19 rfl
theorem dX12_force_30 : decode cX12_force 30 = .ok (.iload_n 1, 1) := zDec_at zB_dX12_force_0 20 rfl
theorem dX12_force_31 : decode cX12_force 31 = .ok (.invokestatic 403, 3) := zDec_at zB_dX12_force_0 21 rfl
theorem dX12_force_34 : decode cX12_force 34 = .ok (.iconst 1, 1) := zDec_at zB_dX12_force_0 22 rfl
theorem dX12_force_35 : decode cX12_force 35 = .ok (.iadd, 1) := zDec_at zB_dX12_force_0 23 rfl
theorem dX12_force_36 : decode cX12_force 36 = .ok (.iaload, 1) := zDec_at zB_dX12_force_0 24 rfl
theorem dX12_force_37 : decode cX12_force 37 = .ok (.i2l, 1) := zDec_at zB_dX12_force_0 25 rfl
theorem dX12_force_38 : decode cX12_force 38 = .ok (.lconst 1, 1) := zDec_at zB_dX12_force_0 26 rfl
theorem dX12_force_39 : decode cX12_force 39 = .ok (.lsub, 1) := zDec_at zB_dX12_force_0 27 rfl
theorem dX12_force_40 : decode cX12_force 40 = .ok (.invokestatic 100, 3) := zDec_at zB_dX12_force_0 28 rfl
theorem dX12_force_43 : decode cX12_force 43 = .ok (.ifCond .eq 10, 3) := zDec_at zB_dX12_force_0 29 rfl
theorem dX12_force_46 : decode cX12_force 46 = .ok (.iload_n 3, 1) := zDec_at zB_dX12_force_0 30 rfl
theorem dX12_force_47 : decode cX12_force 47 = .ok (.invokestatic 127, 3) := zDec_at zB_dX12_force_0 31 rfl
theorem dX12_force_50 : decode cX12_force 50 = .ok (.ifCond .ne 5, 3) := zDec_at zB_dX12_force_0 32 rfl
theorem dX12_force_53 : decode cX12_force 53 = .ok (.iconst (-1), 1) := zDec_at zB_dX12_force_0 33 rfl
theorem dX12_force_54 : decode cX12_force 54 = .ok (.ireturn, 1) := zDec_at zB_dX12_force_0 34 rfl
theorem dX12_force_55 : decode cX12_force 55 = .ok (.aload_n 0, 1) := zDec_at zB_dX12_force_0 35 rfl
theorem dX12_force_56 : decode cX12_force 56 = .ok (.iload_n 3, 1) := zDec_at zB_dX12_force_0 36 rfl
theorem dX12_force_57 : decode cX12_force 57 = .ok (.invokevirtual 167, 3) := zDec_at zB_dX12_force_0 37 rfl
theorem dX12_force_60 : decode cX12_force 60 = .ok (.aload_n 0, 1) := zDec_at zB_dX12_force_0 38 rfl
theorem dX12_force_61 : decode cX12_force 61 = .ok (.getfield 55, 3) := zDec_at zB_dX12_force_0 39 rfl
theorem zB_dX12_force_64 : zDecB cX12_force [(64, .iload_n 1, 1), (65, .baload, 1), (66, .ifCond .eq 21, 3), (69, .aload_n 0, 1), (70, .getfield 58, 3), (73, .bipush 12, 2), (75, .iload_n 1, 1), (76, .imul, 1), (77, .iload_n 2, 1), (78, .iadd, 1), (79, .baload, 1), (80, .ifCond .ne 7, 3), (83, .iconst 1, 1), (84, .goto 4, 3), (87, .iconst 0, 1), (88, .ireturn, 1)] = true := by decide +kernel
theorem dX12_force_64 : decode cX12_force 64 = .ok (.iload_n 1, 1) := zDec_at zB_dX12_force_64 0 rfl
theorem dX12_force_65 : decode cX12_force 65 = .ok (.baload, 1) := zDec_at zB_dX12_force_64 1 rfl
theorem dX12_force_66 : decode cX12_force 66 = .ok (.ifCond .eq 21, 3) := zDec_at zB_dX12_force_64 2 rfl
theorem dX12_force_69 : decode cX12_force 69 = .ok (.aload_n 0, 1) := zDec_at zB_dX12_force_64 3 rfl
theorem dX12_force_70 : decode cX12_force 70 = .ok (.getfield 58, 3) := zDec_at zB_dX12_force_64 4 rfl
theorem dX12_force_73 : decode cX12_force 73 = .ok (.bipush 12, 2) := zDec_at zB_dX12_force_64 5 rfl
theorem dX12_force_75 : decode cX12_force 75 = .ok (.iload_n 1, 1) := zDec_at zB_dX12_force_64 6 rfl
theorem dX12_force_76 : decode cX12_force 76 = .ok (.imul, 1) := zDec_at zB_dX12_force_64 7 rfl
theorem dX12_force_77 : decode cX12_force 77 = .ok (.iload_n 2, 1) := zDec_at zB_dX12_force_64 8 rfl
theorem dX12_force_78 : decode cX12_force 78 = .ok (.iadd, 1) := zDec_at zB_dX12_force_64 9 rfl
theorem dX12_force_79 : decode cX12_force 79 = .ok (.baload, 1) := zDec_at zB_dX12_force_64 10 rfl
theorem dX12_force_80 : decode cX12_force 80 = .ok (.ifCond .ne 7, 3) := zDec_at zB_dX12_force_64 11 rfl
theorem dX12_force_83 : decode cX12_force 83 = .ok (.iconst 1, 1) := zDec_at zB_dX12_force_64 12 rfl
theorem dX12_force_84 : decode cX12_force 84 = .ok (.goto 4, 3) := zDec_at zB_dX12_force_64 13 rfl
theorem dX12_force_87 : decode cX12_force 87 = .ok (.iconst 0, 1) := zDec_at zB_dX12_force_64 14 rfl
theorem dX12_force_88 : decode cX12_force 88 = .ok (.ireturn, 1) := zDec_at zB_dX12_force_64 15 rfl
theorem zB_dX12_found_0 : zDecB cX12_found [(0, .aload_n 0, 1), (1, .iconst 0, 1), (2, .putfield 92, 3), (5, .iload_n 1, 1), (6, .invokestatic 127, 3), (9, .ifCond .eq 18, 3), (12, .aload_n 0, 1), (13, .getfield 7, 3), (16, .sipush 7061, 3), (19, .iconst 4, 1), (20, .iload_n 1, 1), (21, .imul, 1), (22, .iadd, 1), (23, .iaload, 1), (24, .ifCond .ne 6, 3), (27, .bipush (-3), 2), (29, .ireturn, 1), (30, .aload_n 0, 1), (31, .iload_n 1, 1), (32, .invokevirtual 558, 3), (35, .sipush 7061, 3), (38, .iconst 4, 1), (39, .iload_n 1, 1), (40, .imul, 1), (41, .iadd, 1), (42, .istore_n 2, 1), (43, .aload_n 0, 1), (44, .getfield 549, 3), (47, .aload_n 0, 1), (48, .getfield 7, 3), (51, .iload_n 2, 1), (52, .iconst 1, 1), (53, .iadd, 1), (54, .iaload, 1), (55, .if_icmp .eq 6, 3), (58, .bipush (-2), 2), (60, .ireturn, 1), (61, .aload_n 0, 1), (62, .getfield 552, 3), (65, .aload_n 0, 1)] = true := by decide +kernel
theorem dX12_found_0 : decode cX12_found 0 = .ok (.aload_n 0, 1) := zDec_at zB_dX12_found_0 0 rfl
theorem dX12_found_1 : decode cX12_found 1 = .ok (.iconst 0, 1) := zDec_at zB_dX12_found_0 1 rfl
theorem dX12_found_2 : decode cX12_found 2 = .ok (.putfield 92, 3) := zDec_at zB_dX12_found_0 2 rfl
theorem dX12_found_5 : decode cX12_found 5 = .ok (.iload_n 1, 1) := zDec_at zB_dX12_found_0 3 rfl
theorem dX12_found_6 : decode cX12_found 6 = .ok (.invokestatic 127, 3) := zDec_at zB_dX12_found_0 4 rfl
theorem dX12_found_9 : decode cX12_found 9 = .ok (.ifCond .eq 18, 3) := zDec_at zB_dX12_found_0 5 rfl
theorem dX12_found_12 : decode cX12_found 12 = .ok (.aload_n 0, 1) := zDec_at zB_dX12_found_0 6 rfl
theorem dX12_found_13 : decode cX12_found 13 = .ok (.getfield 7, 3) := zDec_at zB_dX12_found_0 7 rfl
theorem dX12_found_16 : decode cX12_found 16 = .ok (.sipush 7061, 3) := zDec_at zB_dX12_found_0 8 rfl
theorem dX12_found_19 : decode cX12_found 19 = .ok (.iconst 4, 1) := zDec_at zB_dX12_found_0 9 rfl
theorem dX12_found_20 : decode cX12_found 20 = .ok (.iload_n 1, 1) := zDec_at zB_dX12_found_0 10 rfl
theorem dX12_found_21 : decode cX12_found 21 = .ok (.imul, 1) := zDec_at zB_dX12_found_0 11 rfl
theorem dX12_found_22 : decode cX12_found 22 = .ok (.iadd, 1) := zDec_at zB_dX12_found_0 12 rfl
theorem dX12_found_23 : decode cX12_found 23 = .ok (.iaload, 1) := zDec_at zB_dX12_found_0 13 rfl
theorem dX12_found_24 : decode cX12_found 24 = .ok (.ifCond .ne 6, 3) := zDec_at zB_dX12_found_0 14 rfl
theorem dX12_found_27 : decode cX12_found 27 = .ok (.bipush (-3), 2) := zDec_at zB_dX12_found_0 15 rfl
theorem dX12_found_29 : decode cX12_found 29 = .ok (.ireturn, 1) := zDec_at zB_dX12_found_0 16 rfl
theorem dX12_found_30 : decode cX12_found 30 = .ok (.aload_n 0, 1) := zDec_at zB_dX12_found_0 17 rfl
theorem dX12_found_31 : decode cX12_found 31 = .ok (.iload_n 1, 1) := zDec_at zB_dX12_found_0 18 rfl
theorem dX12_found_32 : decode cX12_found 32 = .ok (.invokevirtual 558, 3) := zDec_at zB_dX12_found_0 19 rfl
theorem dX12_found_35 : decode cX12_found 35 = .ok (.sipush 7061, 3) := zDec_at zB_dX12_found_0 20 rfl
theorem dX12_found_38 : decode cX12_found 38 = .ok (.iconst 4, 1) := zDec_at zB_dX12_found_0 21 rfl
theorem dX12_found_39 : decode cX12_found 39 = .ok (.iload_n 1, 1) := zDec_at zB_dX12_found_0 22 rfl
theorem dX12_found_40 : decode cX12_found 40 = .ok (.imul, 1) := zDec_at zB_dX12_found_0 23 rfl
theorem dX12_found_41 : decode cX12_found 41 = .ok (.iadd, 1) := zDec_at zB_dX12_found_0 24 rfl
theorem dX12_found_42 : decode cX12_found 42 = .ok (.istore_n 2, 1) := zDec_at zB_dX12_found_0 25 rfl
theorem dX12_found_43 : decode cX12_found 43 = .ok (.aload_n 0, 1) := zDec_at zB_dX12_found_0 26 rfl
theorem dX12_found_44 : decode cX12_found 44 = .ok (.getfield 549, 3) := zDec_at zB_dX12_found_0 27 rfl
theorem dX12_found_47 : decode cX12_found 47 = .ok (.aload_n 0, 1) := zDec_at zB_dX12_found_0 28 rfl
theorem dX12_found_48 : decode cX12_found 48 = .ok (.getfield 7, 3) := zDec_at zB_dX12_found_0 29 rfl
theorem dX12_found_51 : decode cX12_found 51 = .ok (.iload_n 2, 1) := zDec_at zB_dX12_found_0 30 rfl
theorem dX12_found_52 : decode cX12_found 52 = .ok (.iconst 1, 1) := zDec_at zB_dX12_found_0 31 rfl
theorem dX12_found_53 : decode cX12_found 53 = .ok (.iadd, 1) := zDec_at zB_dX12_found_0 32 rfl
theorem dX12_found_54 : decode cX12_found 54 = .ok (.iaload, 1) := zDec_at zB_dX12_found_0 33 rfl
theorem dX12_found_55 : decode cX12_found 55 = .ok (.if_icmp .eq 6, 3) := zDec_at zB_dX12_found_0 34 rfl
theorem dX12_found_58 : decode cX12_found 58 = .ok (.bipush (-2), 2) := zDec_at zB_dX12_found_0 35 rfl
theorem dX12_found_60 : decode cX12_found 60 = .ok (.ireturn, 1) := zDec_at zB_dX12_found_0 36 rfl
theorem dX12_found_61 : decode cX12_found 61 = .ok (.aload_n 0, 1) := zDec_at zB_dX12_found_0 37 rfl
theorem dX12_found_62 : decode cX12_found 62 = .ok (.getfield 552, 3) := zDec_at zB_dX12_found_0 38 rfl
theorem dX12_found_65 : decode cX12_found 65 = .ok (.aload_n 0, 1) := zDec_at zB_dX12_found_0 39 rfl
theorem zB_dX12_found_66 : zDecB cX12_found [(66, .getfield 7, 3), (69, .iload_n 2, 1), (70, .iconst 2, 1), (71, .iadd, 1), (72, .iaload, 1), (73, .isub, 1), (74, .istore_n 3, 1), (75, .aload_n 0, 1), (76, .getfield 555, 3), (79, .aload_n 0, 1), (80, .getfield 7, 3), (83, .iload_n 2, 1), (84, .iconst 3, 1), (85, .iadd, 1), (86, .iaload, 1), (87, .isub, 1), (88, .istore 4, 2), (90, .iload_n 3, 1), (91, .ifCond .ne 15, 3), (94, .iload 4, 2), (96, .ifCond .ne 7, 3), (99, .iconst (-1), 1), (100, .goto 5, 3), (103, .bipush (-2), 2), (105, .ireturn, 1), (106, .iconst 0, 1), (107, .istore 5, 2), (109, .iconst 0, 1), (110, .istore 6, 2), (112, .iload 6, 2), (114, .aload_n 0, 1), (115, .getfield 7, 3), (118, .iconst 3, 1), (119, .iaload, 1), (120, .if_icmp .ge 46, 3), (123, .aload_n 0, 1), (124, .getfield 7, 3), (127, .iload 6, 2), (129, .invokestatic 155, 3), (132, .iconst 2, 1)] = true := by decide +kernel
theorem dX12_found_66 : decode cX12_found 66 = .ok (.getfield 7, 3) := zDec_at zB_dX12_found_66 0 rfl
theorem dX12_found_69 : decode cX12_found 69 = .ok (.iload_n 2, 1) := zDec_at zB_dX12_found_66 1 rfl
theorem dX12_found_70 : decode cX12_found 70 = .ok (.iconst 2, 1) := zDec_at zB_dX12_found_66 2 rfl
theorem dX12_found_71 : decode cX12_found 71 = .ok (.iadd, 1) := zDec_at zB_dX12_found_66 3 rfl
theorem dX12_found_72 : decode cX12_found 72 = .ok (.iaload, 1) := zDec_at zB_dX12_found_66 4 rfl
theorem dX12_found_73 : decode cX12_found 73 = .ok (.isub, 1) := zDec_at zB_dX12_found_66 5 rfl
theorem dX12_found_74 : decode cX12_found 74 = .ok (.istore_n 3, 1) := zDec_at zB_dX12_found_66 6 rfl
theorem dX12_found_75 : decode cX12_found 75 = .ok (.aload_n 0, 1) := zDec_at zB_dX12_found_66 7 rfl
theorem dX12_found_76 : decode cX12_found 76 = .ok (.getfield 555, 3) := zDec_at zB_dX12_found_66 8 rfl
theorem dX12_found_79 : decode cX12_found 79 = .ok (.aload_n 0, 1) := zDec_at zB_dX12_found_66 9 rfl
theorem dX12_found_80 : decode cX12_found 80 = .ok (.getfield 7, 3) := zDec_at zB_dX12_found_66 10 rfl
theorem dX12_found_83 : decode cX12_found 83 = .ok (.iload_n 2, 1) := zDec_at zB_dX12_found_66 11 rfl
theorem dX12_found_84 : decode cX12_found 84 = .ok (.iconst 3, 1) := zDec_at zB_dX12_found_66 12 rfl
theorem dX12_found_85 : decode cX12_found 85 = .ok (.iadd, 1) := zDec_at zB_dX12_found_66 13 rfl
theorem dX12_found_86 : decode cX12_found 86 = .ok (.iaload, 1) := zDec_at zB_dX12_found_66 14 rfl
theorem dX12_found_87 : decode cX12_found 87 = .ok (.isub, 1) := zDec_at zB_dX12_found_66 15 rfl
theorem dX12_found_88 : decode cX12_found 88 = .ok (.istore 4, 2) := zDec_at zB_dX12_found_66 16 rfl
theorem dX12_found_90 : decode cX12_found 90 = .ok (.iload_n 3, 1) := zDec_at zB_dX12_found_66 17 rfl
theorem dX12_found_91 : decode cX12_found 91 = .ok (.ifCond .ne 15, 3) := zDec_at zB_dX12_found_66 18 rfl
theorem dX12_found_94 : decode cX12_found 94 = .ok (.iload 4, 2) := zDec_at zB_dX12_found_66 19 rfl
theorem dX12_found_96 : decode cX12_found 96 = .ok (.ifCond .ne 7, 3) := zDec_at zB_dX12_found_66 20 rfl
theorem dX12_found_99 : decode cX12_found 99 = .ok (.iconst (-1), 1) := zDec_at zB_dX12_found_66 21 rfl
theorem dX12_found_100 : decode cX12_found 100 = .ok (.goto 5, 3) := zDec_at zB_dX12_found_66 22 rfl
theorem dX12_found_103 : decode cX12_found 103 = .ok (.bipush (-2), 2) := zDec_at zB_dX12_found_66 23 rfl
theorem dX12_found_105 : decode cX12_found 105 = .ok (.ireturn, 1) := zDec_at zB_dX12_found_66 24 rfl
theorem dX12_found_106 : decode cX12_found 106 = .ok (.iconst 0, 1) := zDec_at zB_dX12_found_66 25 rfl
theorem dX12_found_107 : decode cX12_found 107 = .ok (.istore 5, 2) := zDec_at zB_dX12_found_66 26 rfl
theorem dX12_found_109 : decode cX12_found 109 = .ok (.iconst 0, 1) := zDec_at zB_dX12_found_66 27 rfl
theorem dX12_found_110 : decode cX12_found 110 = .ok (.istore 6, 2) := zDec_at zB_dX12_found_66 28 rfl
theorem dX12_found_112 : decode cX12_found 112 = .ok (.iload 6, 2) := zDec_at zB_dX12_found_66 29 rfl
theorem dX12_found_114 : decode cX12_found 114 = .ok (.aload_n 0, 1) := zDec_at zB_dX12_found_66 30 rfl
theorem dX12_found_115 : decode cX12_found 115 = .ok (.getfield 7, 3) := zDec_at zB_dX12_found_66 31 rfl
theorem dX12_found_118 : decode cX12_found 118 = .ok (.iconst 3, 1) := zDec_at zB_dX12_found_66 32 rfl
theorem dX12_found_119 : decode cX12_found 119 = .ok (.iaload, 1) := zDec_at zB_dX12_found_66 33 rfl
theorem dX12_found_120 : decode cX12_found 120 = .ok (.if_icmp .ge 46, 3) := zDec_at zB_dX12_found_66 34 rfl
theorem dX12_found_123 : decode cX12_found 123 = .ok (.aload_n 0, 1) := zDec_at zB_dX12_found_66 35 rfl
theorem dX12_found_124 : decode cX12_found 124 = .ok (.getfield 7, 3) := zDec_at zB_dX12_found_66 36 rfl
theorem dX12_found_127 : decode cX12_found 127 = .ok (.iload 6, 2) := zDec_at zB_dX12_found_66 37 rfl
theorem dX12_found_129 : decode cX12_found 129 = .ok (.invokestatic 155, 3) := zDec_at zB_dX12_found_66 38 rfl
theorem dX12_found_132 : decode cX12_found 132 = .ok (.iconst 2, 1) := zDec_at zB_dX12_found_66 39 rfl
theorem zB_dX12_found_133 : zDecB cX12_found [(133, .iadd, 1), (134, .iaload, 1), (135, .iconst 2, 1), (136, .idiv, 1), (137, .iload_n 1, 1), (138, .if_icmp .ne 22, 3), (141, .iinc 5 1, 3), (144, .iload_n 3, 1), (145, .i2l, 1), (146, .iload 5, 2), (148, .i2l, 1), (149, .lmul, 1), (150, .iload 4, 2), (152, .i2l, 1), (153, .lcmp, 1), (154, .ifCond .ne 6, 3), (157, .iload 6, 2), (159, .ireturn, 1), (160, .iinc 6 1, 3), (163, .goto (-51), 3), (166, .bipush (-2), 2), (168, .ireturn, 1)] = true := by decide +kernel
theorem dX12_found_133 : decode cX12_found 133 = .ok (.iadd, 1) := zDec_at zB_dX12_found_133 0 rfl
theorem dX12_found_134 : decode cX12_found 134 = .ok (.iaload, 1) := zDec_at zB_dX12_found_133 1 rfl
theorem dX12_found_135 : decode cX12_found 135 = .ok (.iconst 2, 1) := zDec_at zB_dX12_found_133 2 rfl
theorem dX12_found_136 : decode cX12_found 136 = .ok (.idiv, 1) := zDec_at zB_dX12_found_133 3 rfl
theorem dX12_found_137 : decode cX12_found 137 = .ok (.iload_n 1, 1) := zDec_at zB_dX12_found_133 4 rfl
theorem dX12_found_138 : decode cX12_found 138 = .ok (.if_icmp .ne 22, 3) := zDec_at zB_dX12_found_133 5 rfl
theorem dX12_found_141 : decode cX12_found 141 = .ok (.iinc 5 1, 3) := zDec_at zB_dX12_found_133 6 rfl
theorem dX12_found_144 : decode cX12_found 144 = .ok (.iload_n 3, 1) := zDec_at zB_dX12_found_133 7 rfl
theorem dX12_found_145 : decode cX12_found 145 = .ok (.i2l, 1) := zDec_at zB_dX12_found_133 8 rfl
theorem dX12_found_146 : decode cX12_found 146 = .ok (.iload 5, 2) := zDec_at zB_dX12_found_133 9 rfl
theorem dX12_found_148 : decode cX12_found 148 = .ok (.i2l, 1) := zDec_at zB_dX12_found_133 10 rfl
theorem dX12_found_149 : decode cX12_found 149 = .ok (.lmul, 1) := zDec_at zB_dX12_found_133 11 rfl
theorem dX12_found_150 : decode cX12_found 150 = .ok (.iload 4, 2) := zDec_at zB_dX12_found_133 12 rfl
theorem dX12_found_152 : decode cX12_found 152 = .ok (.i2l, 1) := zDec_at zB_dX12_found_133 13 rfl
theorem dX12_found_153 : decode cX12_found 153 = .ok (.lcmp, 1) := zDec_at zB_dX12_found_133 14 rfl
theorem dX12_found_154 : decode cX12_found 154 = .ok (.ifCond .ne 6, 3) := zDec_at zB_dX12_found_133 15 rfl
theorem dX12_found_157 : decode cX12_found 157 = .ok (.iload 6, 2) := zDec_at zB_dX12_found_133 16 rfl
theorem dX12_found_159 : decode cX12_found 159 = .ok (.ireturn, 1) := zDec_at zB_dX12_found_133 17 rfl
theorem dX12_found_160 : decode cX12_found 160 = .ok (.iinc 6 1, 3) := zDec_at zB_dX12_found_133 18 rfl
theorem dX12_found_163 : decode cX12_found 163 = .ok (.goto (-51), 3) := zDec_at zB_dX12_found_133 19 rfl
theorem dX12_found_166 : decode cX12_found 166 = .ok (.bipush (-2), 2) := zDec_at zB_dX12_found_133 20 rfl
theorem dX12_found_168 : decode cX12_found 168 = .ok (.ireturn, 1) := zDec_at zB_dX12_found_133 21 rfl
theorem zB_dX12_four_0 : zDecB cX12_four [(0, .bipush 24, 2), (2, .istore_n 2, 1), (3, .iload_n 2, 1), (4, .ifCond .lt 35, 3), (7, .aload_n 0, 1), (8, .getfield 33, 3), (11, .aload_n 0, 1), (12, .getfield 193, 3), (15, .iload_n 1, 1), (16, .iload_n 2, 1), (17, .ishr, 1), (18, .sipush 255, 3), (21, .iand, 1), (22, .iastore, 1), (23, .aload_n 0, 1), (24, .dup, 1), (25, .getfield 193, 3), (28, .iconst 1, 1), (29, .iadd, 1), (30, .putfield 193, 3), (33, .iinc 2 (-8), 3), (36, .goto (-33), 3), (39, .return_, 1)] = true := by decide +kernel
theorem dX12_four_0 : decode cX12_four 0 = .ok (.bipush 24, 2) := zDec_at zB_dX12_four_0 0 rfl
theorem dX12_four_2 : decode cX12_four 2 = .ok (.istore_n 2, 1) := zDec_at zB_dX12_four_0 1 rfl
theorem dX12_four_3 : decode cX12_four 3 = .ok (.iload_n 2, 1) := zDec_at zB_dX12_four_0 2 rfl
theorem dX12_four_4 : decode cX12_four 4 = .ok (.ifCond .lt 35, 3) := zDec_at zB_dX12_four_0 3 rfl
theorem dX12_four_7 : decode cX12_four 7 = .ok (.aload_n 0, 1) := zDec_at zB_dX12_four_0 4 rfl
theorem dX12_four_8 : decode cX12_four 8 = .ok (.getfield 33, 3) := zDec_at zB_dX12_four_0 5 rfl
theorem dX12_four_11 : decode cX12_four 11 = .ok (.aload_n 0, 1) := zDec_at zB_dX12_four_0 6 rfl
theorem dX12_four_12 : decode cX12_four 12 = .ok (.getfield 193, 3) := zDec_at zB_dX12_four_0 7 rfl
theorem dX12_four_15 : decode cX12_four 15 = .ok (.iload_n 1, 1) := zDec_at zB_dX12_four_0 8 rfl
theorem dX12_four_16 : decode cX12_four 16 = .ok (.iload_n 2, 1) := zDec_at zB_dX12_four_0 9 rfl
theorem dX12_four_17 : decode cX12_four 17 = .ok (.ishr, 1) := zDec_at zB_dX12_four_0 10 rfl
theorem dX12_four_18 : decode cX12_four 18 = .ok (.sipush 255, 3) := zDec_at zB_dX12_four_0 11 rfl
theorem dX12_four_21 : decode cX12_four 21 = .ok (.iand, 1) := zDec_at zB_dX12_four_0 12 rfl
theorem dX12_four_22 : decode cX12_four 22 = .ok (.iastore, 1) := zDec_at zB_dX12_four_0 13 rfl
theorem dX12_four_23 : decode cX12_four 23 = .ok (.aload_n 0, 1) := zDec_at zB_dX12_four_0 14 rfl
theorem dX12_four_24 : decode cX12_four 24 = .ok (.dup, 1) := zDec_at zB_dX12_four_0 15 rfl
theorem dX12_four_25 : decode cX12_four 25 = .ok (.getfield 193, 3) := zDec_at zB_dX12_four_0 16 rfl
theorem dX12_four_28 : decode cX12_four 28 = .ok (.iconst 1, 1) := zDec_at zB_dX12_four_0 17 rfl
theorem dX12_four_29 : decode cX12_four 29 = .ok (.iadd, 1) := zDec_at zB_dX12_four_0 18 rfl
theorem dX12_four_30 : decode cX12_four 30 = .ok (.putfield 193, 3) := zDec_at zB_dX12_four_0 19 rfl
theorem dX12_four_33 : decode cX12_four 33 = .ok (.iinc 2 (-8), 3) := zDec_at zB_dX12_four_0 20 rfl
theorem dX12_four_36 : decode cX12_four 36 = .ok (.goto (-33), 3) := zDec_at zB_dX12_four_0 21 rfl
theorem dX12_four_39 : decode cX12_four 39 = .ok (.return_, 1) := zDec_at zB_dX12_four_0 22 rfl
theorem zB_dX12_goes_0 : zDecB cX12_goes [(0, .aload_n 0, 1), (1, .iconst 0, 1), (2, .putfield 92, 3), (5, .iload_n 3, 1), (6, .invokestatic 127, 3), (9, .ifCond .eq 18, 3), (12, .iload 4, 2), (14, .iconst (-1), 1), (15, .if_icmp .eq 18, 3), (18, .aload_n 0, 1), (19, .iload 4, 2), (21, .invokevirtual 131, 3), (24, .ifCond .ne 9, 3), (27, .aload_n 0, 1), (28, .iconst (-1), 1), (29, .invokevirtual 106, 3), (32, .ireturn, 1), (33, .aload_n 0, 1), (34, .iload_n 1, 1), (35, .invokevirtual 138, 3), (38, .ifCond .eq 11, 3), (41, .aload_n 0, 1), (42, .iload_n 2, 1), (43, .invokevirtual 131, 3), (46, .ifCond .ne 10, 3), (49, .aload_n 0, 1), (50, .bipush (-2), 2), (52, .invokevirtual 106, 3), (55, .ireturn, 1), (56, .iconst (-1), 1), (57, .istore 5, 2), (59, .iconst 0, 1), (60, .istore 6, 2), (62, .iload 6, 2), (64, .aload_n 0, 1), (65, .getfield 7, 3), (68, .iconst 2, 1), (69, .iaload, 1), (70, .if_icmp .ge 60, 3), (73, .aload_n 0, 1)] = true := by decide +kernel
theorem dX12_goes_0 : decode cX12_goes 0 = .ok (.aload_n 0, 1) := zDec_at zB_dX12_goes_0 0 rfl
theorem dX12_goes_1 : decode cX12_goes 1 = .ok (.iconst 0, 1) := zDec_at zB_dX12_goes_0 1 rfl
theorem dX12_goes_2 : decode cX12_goes 2 = .ok (.putfield 92, 3) := zDec_at zB_dX12_goes_0 2 rfl
theorem dX12_goes_5 : decode cX12_goes 5 = .ok (.iload_n 3, 1) := zDec_at zB_dX12_goes_0 3 rfl
theorem dX12_goes_6 : decode cX12_goes 6 = .ok (.invokestatic 127, 3) := zDec_at zB_dX12_goes_0 4 rfl
theorem dX12_goes_9 : decode cX12_goes 9 = .ok (.ifCond .eq 18, 3) := zDec_at zB_dX12_goes_0 5 rfl
theorem dX12_goes_12 : decode cX12_goes 12 = .ok (.iload 4, 2) := zDec_at zB_dX12_goes_0 6 rfl
theorem dX12_goes_14 : decode cX12_goes 14 = .ok (.iconst (-1), 1) := zDec_at zB_dX12_goes_0 7 rfl
theorem dX12_goes_15 : decode cX12_goes 15 = .ok (.if_icmp .eq 18, 3) := zDec_at zB_dX12_goes_0 8 rfl
theorem dX12_goes_18 : decode cX12_goes 18 = .ok (.aload_n 0, 1) := zDec_at zB_dX12_goes_0 9 rfl
theorem dX12_goes_19 : decode cX12_goes 19 = .ok (.iload 4, 2) := zDec_at zB_dX12_goes_0 10 rfl
theorem dX12_goes_21 : decode cX12_goes 21 = .ok (.invokevirtual 131, 3) := zDec_at zB_dX12_goes_0 11 rfl
theorem dX12_goes_24 : decode cX12_goes 24 = .ok (.ifCond .ne 9, 3) := zDec_at zB_dX12_goes_0 12 rfl
theorem dX12_goes_27 : decode cX12_goes 27 = .ok (.aload_n 0, 1) := zDec_at zB_dX12_goes_0 13 rfl
theorem dX12_goes_28 : decode cX12_goes 28 = .ok (.iconst (-1), 1) := zDec_at zB_dX12_goes_0 14 rfl
theorem dX12_goes_29 : decode cX12_goes 29 = .ok (.invokevirtual 106, 3) := zDec_at zB_dX12_goes_0 15 rfl
theorem dX12_goes_32 : decode cX12_goes 32 = .ok (.ireturn, 1) := zDec_at zB_dX12_goes_0 16 rfl
theorem dX12_goes_33 : decode cX12_goes 33 = .ok (.aload_n 0, 1) := zDec_at zB_dX12_goes_0 17 rfl
theorem dX12_goes_34 : decode cX12_goes 34 = .ok (.iload_n 1, 1) := zDec_at zB_dX12_goes_0 18 rfl
theorem dX12_goes_35 : decode cX12_goes 35 = .ok (.invokevirtual 138, 3) := zDec_at zB_dX12_goes_0 19 rfl
theorem dX12_goes_38 : decode cX12_goes 38 = .ok (.ifCond .eq 11, 3) := zDec_at zB_dX12_goes_0 20 rfl
theorem dX12_goes_41 : decode cX12_goes 41 = .ok (.aload_n 0, 1) := zDec_at zB_dX12_goes_0 21 rfl
theorem dX12_goes_42 : decode cX12_goes 42 = .ok (.iload_n 2, 1) := zDec_at zB_dX12_goes_0 22 rfl
theorem dX12_goes_43 : decode cX12_goes 43 = .ok (.invokevirtual 131, 3) := zDec_at zB_dX12_goes_0 23 rfl
theorem dX12_goes_46 : decode cX12_goes 46 = .ok (.ifCond .ne 10, 3) := zDec_at zB_dX12_goes_0 24 rfl
theorem dX12_goes_49 : decode cX12_goes 49 = .ok (.aload_n 0, 1) := zDec_at zB_dX12_goes_0 25 rfl
theorem dX12_goes_50 : decode cX12_goes 50 = .ok (.bipush (-2), 2) := zDec_at zB_dX12_goes_0 26 rfl
theorem dX12_goes_52 : decode cX12_goes 52 = .ok (.invokevirtual 106, 3) := zDec_at zB_dX12_goes_0 27 rfl
theorem dX12_goes_55 : decode cX12_goes 55 = .ok (.ireturn, 1) := zDec_at zB_dX12_goes_0 28 rfl
theorem dX12_goes_56 : decode cX12_goes 56 = .ok (.iconst (-1), 1) := zDec_at zB_dX12_goes_0 29 rfl
theorem dX12_goes_57 : decode cX12_goes 57 = .ok (.istore 5, 2) := zDec_at zB_dX12_goes_0 30 rfl
theorem dX12_goes_59 : decode cX12_goes 59 = .ok (.iconst 0, 1) := zDec_at zB_dX12_goes_0 31 rfl
theorem dX12_goes_60 : decode cX12_goes 60 = .ok (.istore 6, 2) := zDec_at zB_dX12_goes_0 32 rfl
theorem dX12_goes_62 : decode cX12_goes 62 = .ok (.iload 6, 2) := zDec_at zB_dX12_goes_0 33 rfl
theorem dX12_goes_64 : decode cX12_goes 64 = .ok (.aload_n 0, 1) := zDec_at zB_dX12_goes_0 34 rfl
theorem dX12_goes_65 : decode cX12_goes 65 = .ok (.getfield 7, 3) := zDec_at zB_dX12_goes_0 35 rfl
theorem dX12_goes_68 : decode cX12_goes 68 = .ok (.iconst 2, 1) := zDec_at zB_dX12_goes_0 36 rfl
theorem dX12_goes_69 : decode cX12_goes 69 = .ok (.iaload, 1) := zDec_at zB_dX12_goes_0 37 rfl
theorem dX12_goes_70 : decode cX12_goes 70 = .ok (.if_icmp .ge 60, 3) := zDec_at zB_dX12_goes_0 38 rfl
theorem dX12_goes_73 : decode cX12_goes 73 = .ok (.aload_n 0, 1) := zDec_at zB_dX12_goes_0 39 rfl
theorem zB_dX12_goes_74 : zDecB cX12_goes [(74, .getfield 7, 3), (77, .sipush 2700, 3), (80, .iconst 5, 1), (81, .iload 6, 2), (83, .imul, 1), (84, .iadd, 1), (85, .iaload, 1), (86, .iload_n 1, 1), (87, .if_icmp .ne 33, 3), (90, .aload_n 0, 1), (91, .getfield 7, 3), (94, .sipush 2700, 3), (97, .iconst 5, 1), (98, .iload 6, 2), (100, .imul, 1), (101, .iadd, 1), (102, .iconst 1, 1), (103, .iadd, 1), (104, .iaload, 1), (105, .iload_n 2, 1), (106, .if_icmp .ne 14, 3), (109, .sipush 2700, 3), (112, .iconst 5, 1), (113, .iload 6, 2), (115, .imul, 1), (116, .iadd, 1), (117, .goto 5, 3), (120, .iload 5, 2), (122, .istore 5, 2), (124, .iinc 6 1, 3), (127, .goto (-65), 3), (130, .iload 5, 2), (132, .iconst (-1), 1), (133, .if_icmp .eq 29, 3), (136, .aload_n 0, 1), (137, .getfield 7, 3), (140, .iload 5, 2), (142, .iconst 3, 1), (143, .iadd, 1), (144, .iaload, 1)] = true := by decide +kernel
theorem dX12_goes_74 : decode cX12_goes 74 = .ok (.getfield 7, 3) := zDec_at zB_dX12_goes_74 0 rfl
theorem dX12_goes_77 : decode cX12_goes 77 = .ok (.sipush 2700, 3) := zDec_at zB_dX12_goes_74 1 rfl
theorem dX12_goes_80 : decode cX12_goes 80 = .ok (.iconst 5, 1) := zDec_at zB_dX12_goes_74 2 rfl
theorem dX12_goes_81 : decode cX12_goes 81 = .ok (.iload 6, 2) := zDec_at zB_dX12_goes_74 3 rfl
theorem dX12_goes_83 : decode cX12_goes 83 = .ok (.imul, 1) := zDec_at zB_dX12_goes_74 4 rfl
theorem dX12_goes_84 : decode cX12_goes 84 = .ok (.iadd, 1) := zDec_at zB_dX12_goes_74 5 rfl
theorem dX12_goes_85 : decode cX12_goes 85 = .ok (.iaload, 1) := zDec_at zB_dX12_goes_74 6 rfl
theorem dX12_goes_86 : decode cX12_goes 86 = .ok (.iload_n 1, 1) := zDec_at zB_dX12_goes_74 7 rfl
theorem dX12_goes_87 : decode cX12_goes 87 = .ok (.if_icmp .ne 33, 3) := zDec_at zB_dX12_goes_74 8 rfl
theorem dX12_goes_90 : decode cX12_goes 90 = .ok (.aload_n 0, 1) := zDec_at zB_dX12_goes_74 9 rfl
theorem dX12_goes_91 : decode cX12_goes 91 = .ok (.getfield 7, 3) := zDec_at zB_dX12_goes_74 10 rfl
theorem dX12_goes_94 : decode cX12_goes 94 = .ok (.sipush 2700, 3) := zDec_at zB_dX12_goes_74 11 rfl
theorem dX12_goes_97 : decode cX12_goes 97 = .ok (.iconst 5, 1) := zDec_at zB_dX12_goes_74 12 rfl
theorem dX12_goes_98 : decode cX12_goes 98 = .ok (.iload 6, 2) := zDec_at zB_dX12_goes_74 13 rfl
theorem dX12_goes_100 : decode cX12_goes 100 = .ok (.imul, 1) := zDec_at zB_dX12_goes_74 14 rfl
theorem dX12_goes_101 : decode cX12_goes 101 = .ok (.iadd, 1) := zDec_at zB_dX12_goes_74 15 rfl
theorem dX12_goes_102 : decode cX12_goes 102 = .ok (.iconst 1, 1) := zDec_at zB_dX12_goes_74 16 rfl
theorem dX12_goes_103 : decode cX12_goes 103 = .ok (.iadd, 1) := zDec_at zB_dX12_goes_74 17 rfl
theorem dX12_goes_104 : decode cX12_goes 104 = .ok (.iaload, 1) := zDec_at zB_dX12_goes_74 18 rfl
theorem dX12_goes_105 : decode cX12_goes 105 = .ok (.iload_n 2, 1) := zDec_at zB_dX12_goes_74 19 rfl
theorem dX12_goes_106 : decode cX12_goes 106 = .ok (.if_icmp .ne 14, 3) := zDec_at zB_dX12_goes_74 20 rfl
theorem dX12_goes_109 : decode cX12_goes 109 = .ok (.sipush 2700, 3) := zDec_at zB_dX12_goes_74 21 rfl
theorem dX12_goes_112 : decode cX12_goes 112 = .ok (.iconst 5, 1) := zDec_at zB_dX12_goes_74 22 rfl
theorem dX12_goes_113 : decode cX12_goes 113 = .ok (.iload 6, 2) := zDec_at zB_dX12_goes_74 23 rfl
theorem dX12_goes_115 : decode cX12_goes 115 = .ok (.imul, 1) := zDec_at zB_dX12_goes_74 24 rfl
theorem dX12_goes_116 : decode cX12_goes 116 = .ok (.iadd, 1) := zDec_at zB_dX12_goes_74 25 rfl
theorem dX12_goes_117 : decode cX12_goes 117 = .ok (.goto 5, 3) := zDec_at zB_dX12_goes_74 26 rfl
theorem dX12_goes_120 : decode cX12_goes 120 = .ok (.iload 5, 2) := zDec_at zB_dX12_goes_74 27 rfl
theorem dX12_goes_122 : decode cX12_goes 122 = .ok (.istore 5, 2) := zDec_at zB_dX12_goes_74 28 rfl
theorem dX12_goes_124 : decode cX12_goes 124 = .ok (.iinc 6 1, 3) := zDec_at zB_dX12_goes_74 29 rfl
theorem dX12_goes_127 : decode cX12_goes 127 = .ok (.goto (-65), 3) := zDec_at zB_dX12_goes_74 30 rfl
theorem dX12_goes_130 : decode cX12_goes 130 = .ok (.iload 5, 2) := zDec_at zB_dX12_goes_74 31 rfl
theorem dX12_goes_132 : decode cX12_goes 132 = .ok (.iconst (-1), 1) := zDec_at zB_dX12_goes_74 32 rfl
theorem dX12_goes_133 : decode cX12_goes 133 = .ok (.if_icmp .eq 29, 3) := zDec_at zB_dX12_goes_74 33 rfl
theorem dX12_goes_136 : decode cX12_goes 136 = .ok (.aload_n 0, 1) := zDec_at zB_dX12_goes_74 34 rfl
theorem dX12_goes_137 : decode cX12_goes 137 = .ok (.getfield 7, 3) := zDec_at zB_dX12_goes_74 35 rfl
theorem dX12_goes_140 : decode cX12_goes 140 = .ok (.iload 5, 2) := zDec_at zB_dX12_goes_74 36 rfl
theorem dX12_goes_142 : decode cX12_goes 142 = .ok (.iconst 3, 1) := zDec_at zB_dX12_goes_74 37 rfl
theorem dX12_goes_143 : decode cX12_goes 143 = .ok (.iadd, 1) := zDec_at zB_dX12_goes_74 38 rfl
theorem dX12_goes_144 : decode cX12_goes 144 = .ok (.iaload, 1) := zDec_at zB_dX12_goes_74 39 rfl
theorem zB_dX12_goes_145 : zDecB cX12_goes [(145, .iconst (-1), 1), (146, .if_icmp .ne 16, 3), (149, .iload_n 3, 1), (150, .aload_n 0, 1), (151, .getfield 7, 3), (154, .iload 5, 2), (156, .iconst 2, 1), (157, .iadd, 1), (158, .iaload, 1), (159, .if_icmp .ge 10, 3), (162, .aload_n 0, 1), (163, .bipush (-3), 2), (165, .invokevirtual 106, 3), (168, .ireturn, 1), (169, .aload_n 0, 1), (170, .getfield 7, 3), (173, .iload 5, 2), (175, .iconst 3, 1), (176, .iadd, 1), (177, .iload_n 3, 1), (178, .iastore, 1), (179, .aload_n 0, 1), (180, .getfield 7, 3), (183, .iload 5, 2), (185, .iconst 4, 1), (186, .iadd, 1), (187, .iload 4, 2), (189, .iastore, 1), (190, .aload_n 0, 1), (191, .iconst 0, 1), (192, .invokevirtual 106, 3), (195, .ireturn, 1)] = true := by decide +kernel
theorem dX12_goes_145 : decode cX12_goes 145 = .ok (.iconst (-1), 1) := zDec_at zB_dX12_goes_145 0 rfl
theorem dX12_goes_146 : decode cX12_goes 146 = .ok (.if_icmp .ne 16, 3) := zDec_at zB_dX12_goes_145 1 rfl
theorem dX12_goes_149 : decode cX12_goes 149 = .ok (.iload_n 3, 1) := zDec_at zB_dX12_goes_145 2 rfl
theorem dX12_goes_150 : decode cX12_goes 150 = .ok (.aload_n 0, 1) := zDec_at zB_dX12_goes_145 3 rfl
theorem dX12_goes_151 : decode cX12_goes 151 = .ok (.getfield 7, 3) := zDec_at zB_dX12_goes_145 4 rfl
theorem dX12_goes_154 : decode cX12_goes 154 = .ok (.iload 5, 2) := zDec_at zB_dX12_goes_145 5 rfl
theorem dX12_goes_156 : decode cX12_goes 156 = .ok (.iconst 2, 1) := zDec_at zB_dX12_goes_145 6 rfl
theorem dX12_goes_157 : decode cX12_goes 157 = .ok (.iadd, 1) := zDec_at zB_dX12_goes_145 7 rfl
theorem dX12_goes_158 : decode cX12_goes 158 = .ok (.iaload, 1) := zDec_at zB_dX12_goes_145 8 rfl
theorem dX12_goes_159 : decode cX12_goes 159 = .ok (.if_icmp .ge 10, 3) := zDec_at zB_dX12_goes_145 9 rfl
theorem dX12_goes_162 : decode cX12_goes 162 = .ok (.aload_n 0, 1) := zDec_at zB_dX12_goes_145 10 rfl
theorem dX12_goes_163 : decode cX12_goes 163 = .ok (.bipush (-3), 2) := zDec_at zB_dX12_goes_145 11 rfl
theorem dX12_goes_165 : decode cX12_goes 165 = .ok (.invokevirtual 106, 3) := zDec_at zB_dX12_goes_145 12 rfl
theorem dX12_goes_168 : decode cX12_goes 168 = .ok (.ireturn, 1) := zDec_at zB_dX12_goes_145 13 rfl
theorem dX12_goes_169 : decode cX12_goes 169 = .ok (.aload_n 0, 1) := zDec_at zB_dX12_goes_145 14 rfl
theorem dX12_goes_170 : decode cX12_goes 170 = .ok (.getfield 7, 3) := zDec_at zB_dX12_goes_145 15 rfl
theorem dX12_goes_173 : decode cX12_goes 173 = .ok (.iload 5, 2) := zDec_at zB_dX12_goes_145 16 rfl
theorem dX12_goes_175 : decode cX12_goes 175 = .ok (.iconst 3, 1) := zDec_at zB_dX12_goes_145 17 rfl
theorem dX12_goes_176 : decode cX12_goes 176 = .ok (.iadd, 1) := zDec_at zB_dX12_goes_145 18 rfl
theorem dX12_goes_177 : decode cX12_goes 177 = .ok (.iload_n 3, 1) := zDec_at zB_dX12_goes_145 19 rfl
theorem dX12_goes_178 : decode cX12_goes 178 = .ok (.iastore, 1) := zDec_at zB_dX12_goes_145 20 rfl
theorem dX12_goes_179 : decode cX12_goes 179 = .ok (.aload_n 0, 1) := zDec_at zB_dX12_goes_145 21 rfl
theorem dX12_goes_180 : decode cX12_goes 180 = .ok (.getfield 7, 3) := zDec_at zB_dX12_goes_145 22 rfl
theorem dX12_goes_183 : decode cX12_goes 183 = .ok (.iload 5, 2) := zDec_at zB_dX12_goes_145 23 rfl
theorem dX12_goes_185 : decode cX12_goes 185 = .ok (.iconst 4, 1) := zDec_at zB_dX12_goes_145 24 rfl
theorem dX12_goes_186 : decode cX12_goes 186 = .ok (.iadd, 1) := zDec_at zB_dX12_goes_145 25 rfl
theorem dX12_goes_187 : decode cX12_goes 187 = .ok (.iload 4, 2) := zDec_at zB_dX12_goes_145 26 rfl
theorem dX12_goes_189 : decode cX12_goes 189 = .ok (.iastore, 1) := zDec_at zB_dX12_goes_145 27 rfl
theorem dX12_goes_190 : decode cX12_goes 190 = .ok (.aload_n 0, 1) := zDec_at zB_dX12_goes_145 28 rfl
theorem dX12_goes_191 : decode cX12_goes 191 = .ok (.iconst 0, 1) := zDec_at zB_dX12_goes_145 29 rfl
theorem dX12_goes_192 : decode cX12_goes 192 = .ok (.invokevirtual 106, 3) := zDec_at zB_dX12_goes_145 30 rfl
theorem dX12_goes_195 : decode cX12_goes 195 = .ok (.ireturn, 1) := zDec_at zB_dX12_goes_145 31 rfl
theorem zB_dX12_has_0 : zDecB cX12_has [(0, .aload_n 0, 1), (1, .iconst 0, 1), (2, .putfield 92, 3), (5, .iload_n 2, 1), (6, .i2l, 1), (7, .lconst 0, 1), (8, .lconst 1, 1), (9, .invokestatic 100, 3), (12, .ifCond .eq 23, 3), (15, .iload 4, 2), (17, .invokestatic 127, 3), (20, .ifCond .eq 15, 3), (23, .iload_n 3, 1), (24, .i2l, 1), (25, .lconst 0, 1), (26, .iload 4, 2), (28, .i2l, 1), (29, .invokestatic 100, 3), (32, .ifCond .ne 9, 3), (35, .aload_n 0, 1), (36, .iconst (-1), 1), (37, .invokevirtual 106, 3), (40, .ireturn, 1), (41, .aload_n 0, 1), (42, .iload_n 1, 1), (43, .invokevirtual 138, 3), (46, .ifCond .ne 10, 3), (49, .aload_n 0, 1), (50, .bipush (-2), 2), (52, .invokevirtual 106, 3), (55, .ireturn, 1), (56, .aload_n 0, 1), (57, .getfield 7, 3), (60, .bipush 10, 2), (62, .iload_n 2, 1), (63, .iadd, 1), (64, .iaload, 1), (65, .bipush 60, 2), (67, .if_icmp .ne 10, 3), (70, .aload_n 0, 1)] = true := by decide +kernel
theorem dX12_has_0 : decode cX12_has 0 = .ok (.aload_n 0, 1) := zDec_at zB_dX12_has_0 0 rfl
theorem dX12_has_1 : decode cX12_has 1 = .ok (.iconst 0, 1) := zDec_at zB_dX12_has_0 1 rfl
theorem dX12_has_2 : decode cX12_has 2 = .ok (.putfield 92, 3) := zDec_at zB_dX12_has_0 2 rfl
theorem dX12_has_5 : decode cX12_has 5 = .ok (.iload_n 2, 1) := zDec_at zB_dX12_has_0 3 rfl
theorem dX12_has_6 : decode cX12_has 6 = .ok (.i2l, 1) := zDec_at zB_dX12_has_0 4 rfl
theorem dX12_has_7 : decode cX12_has 7 = .ok (.lconst 0, 1) := zDec_at zB_dX12_has_0 5 rfl
theorem dX12_has_8 : decode cX12_has 8 = .ok (.lconst 1, 1) := zDec_at zB_dX12_has_0 6 rfl
theorem dX12_has_9 : decode cX12_has 9 = .ok (.invokestatic 100, 3) := zDec_at zB_dX12_has_0 7 rfl
theorem dX12_has_12 : decode cX12_has 12 = .ok (.ifCond .eq 23, 3) := zDec_at zB_dX12_has_0 8 rfl
theorem dX12_has_15 : decode cX12_has 15 = .ok (.iload 4, 2) := zDec_at zB_dX12_has_0 9 rfl
theorem dX12_has_17 : decode cX12_has 17 = .ok (.invokestatic 127, 3) := zDec_at zB_dX12_has_0 10 rfl
theorem dX12_has_20 : decode cX12_has 20 = .ok (.ifCond .eq 15, 3) := zDec_at zB_dX12_has_0 11 rfl
theorem dX12_has_23 : decode cX12_has 23 = .ok (.iload_n 3, 1) := zDec_at zB_dX12_has_0 12 rfl
theorem dX12_has_24 : decode cX12_has 24 = .ok (.i2l, 1) := zDec_at zB_dX12_has_0 13 rfl
theorem dX12_has_25 : decode cX12_has 25 = .ok (.lconst 0, 1) := zDec_at zB_dX12_has_0 14 rfl
theorem dX12_has_26 : decode cX12_has 26 = .ok (.iload 4, 2) := zDec_at zB_dX12_has_0 15 rfl
theorem dX12_has_28 : decode cX12_has 28 = .ok (.i2l, 1) := zDec_at zB_dX12_has_0 16 rfl
theorem dX12_has_29 : decode cX12_has 29 = .ok (.invokestatic 100, 3) := zDec_at zB_dX12_has_0 17 rfl
theorem dX12_has_32 : decode cX12_has 32 = .ok (.ifCond .ne 9, 3) := zDec_at zB_dX12_has_0 18 rfl
theorem dX12_has_35 : decode cX12_has 35 = .ok (.aload_n 0, 1) := zDec_at zB_dX12_has_0 19 rfl
theorem dX12_has_36 : decode cX12_has 36 = .ok (.iconst (-1), 1) := zDec_at zB_dX12_has_0 20 rfl
theorem dX12_has_37 : decode cX12_has 37 = .ok (.invokevirtual 106, 3) := zDec_at zB_dX12_has_0 21 rfl
theorem dX12_has_40 : decode cX12_has 40 = .ok (.ireturn, 1) := zDec_at zB_dX12_has_0 22 rfl
theorem dX12_has_41 : decode cX12_has 41 = .ok (.aload_n 0, 1) := zDec_at zB_dX12_has_0 23 rfl
theorem dX12_has_42 : decode cX12_has 42 = .ok (.iload_n 1, 1) := zDec_at zB_dX12_has_0 24 rfl
theorem dX12_has_43 : decode cX12_has 43 = .ok (.invokevirtual 138, 3) := zDec_at zB_dX12_has_0 25 rfl
theorem dX12_has_46 : decode cX12_has 46 = .ok (.ifCond .ne 10, 3) := zDec_at zB_dX12_has_0 26 rfl
theorem dX12_has_49 : decode cX12_has 49 = .ok (.aload_n 0, 1) := zDec_at zB_dX12_has_0 27 rfl
theorem dX12_has_50 : decode cX12_has 50 = .ok (.bipush (-2), 2) := zDec_at zB_dX12_has_0 28 rfl
theorem dX12_has_52 : decode cX12_has 52 = .ok (.invokevirtual 106, 3) := zDec_at zB_dX12_has_0 29 rfl
theorem dX12_has_55 : decode cX12_has 55 = .ok (.ireturn, 1) := zDec_at zB_dX12_has_0 30 rfl
theorem dX12_has_56 : decode cX12_has 56 = .ok (.aload_n 0, 1) := zDec_at zB_dX12_has_0 31 rfl
theorem dX12_has_57 : decode cX12_has 57 = .ok (.getfield 7, 3) := zDec_at zB_dX12_has_0 32 rfl
theorem dX12_has_60 : decode cX12_has 60 = .ok (.bipush 10, 2) := zDec_at zB_dX12_has_0 33 rfl
theorem dX12_has_62 : decode cX12_has 62 = .ok (.iload_n 2, 1) := zDec_at zB_dX12_has_0 34 rfl
theorem dX12_has_63 : decode cX12_has 63 = .ok (.iadd, 1) := zDec_at zB_dX12_has_0 35 rfl
theorem dX12_has_64 : decode cX12_has 64 = .ok (.iaload, 1) := zDec_at zB_dX12_has_0 36 rfl
theorem dX12_has_65 : decode cX12_has 65 = .ok (.bipush 60, 2) := zDec_at zB_dX12_has_0 37 rfl
theorem dX12_has_67 : decode cX12_has 67 = .ok (.if_icmp .ne 10, 3) := zDec_at zB_dX12_has_0 38 rfl
theorem dX12_has_70 : decode cX12_has 70 = .ok (.aload_n 0, 1) := zDec_at zB_dX12_has_0 39 rfl
theorem zB_dX12_has_71 : zDecB cX12_has [(71, .bipush (-5), 2), (73, .invokevirtual 106, 3), (76, .ireturn, 1), (77, .iload_n 2, 1), (78, .ifCond .ne 9, 3), (81, .sipush 3420, 3), (84, .goto 6, 3), (87, .sipush 3600, 3), (90, .iconst 3, 1), (91, .aload_n 0, 1), (92, .getfield 7, 3), (95, .bipush 10, 2), (97, .iload_n 2, 1), (98, .iadd, 1), (99, .iaload, 1), (100, .imul, 1), (101, .iadd, 1), (102, .istore 5, 2), (104, .aload_n 0, 1), (105, .getfield 7, 3), (108, .iload 5, 2), (110, .iload_n 1, 1), (111, .iastore, 1), (112, .aload_n 0, 1), (113, .getfield 7, 3), (116, .iload 5, 2), (118, .iconst 1, 1), (119, .iadd, 1), (120, .iload_n 3, 1), (121, .iastore, 1), (122, .aload_n 0, 1), (123, .getfield 7, 3), (126, .iload 5, 2), (128, .iconst 2, 1), (129, .iadd, 1), (130, .iload 4, 2), (132, .iastore, 1), (133, .aload_n 0, 1), (134, .getfield 7, 3), (137, .bipush 10, 2)] = true := by decide +kernel
theorem dX12_has_71 : decode cX12_has 71 = .ok (.bipush (-5), 2) := zDec_at zB_dX12_has_71 0 rfl
theorem dX12_has_73 : decode cX12_has 73 = .ok (.invokevirtual 106, 3) := zDec_at zB_dX12_has_71 1 rfl
theorem dX12_has_76 : decode cX12_has 76 = .ok (.ireturn, 1) := zDec_at zB_dX12_has_71 2 rfl
theorem dX12_has_77 : decode cX12_has 77 = .ok (.iload_n 2, 1) := zDec_at zB_dX12_has_71 3 rfl
theorem dX12_has_78 : decode cX12_has 78 = .ok (.ifCond .ne 9, 3) := zDec_at zB_dX12_has_71 4 rfl
theorem dX12_has_81 : decode cX12_has 81 = .ok (.sipush 3420, 3) := zDec_at zB_dX12_has_71 5 rfl
theorem dX12_has_84 : decode cX12_has 84 = .ok (.goto 6, 3) := zDec_at zB_dX12_has_71 6 rfl
theorem dX12_has_87 : decode cX12_has 87 = .ok (.sipush 3600, 3) := zDec_at zB_dX12_has_71 7 rfl
theorem dX12_has_90 : decode cX12_has 90 = .ok (.iconst 3, 1) := zDec_at zB_dX12_has_71 8 rfl
theorem dX12_has_91 : decode cX12_has 91 = .ok (.aload_n 0, 1) := zDec_at zB_dX12_has_71 9 rfl
theorem dX12_has_92 : decode cX12_has 92 = .ok (.getfield 7, 3) := zDec_at zB_dX12_has_71 10 rfl
theorem dX12_has_95 : decode cX12_has 95 = .ok (.bipush 10, 2) := zDec_at zB_dX12_has_71 11 rfl
theorem dX12_has_97 : decode cX12_has 97 = .ok (.iload_n 2, 1) := zDec_at zB_dX12_has_71 12 rfl
theorem dX12_has_98 : decode cX12_has 98 = .ok (.iadd, 1) := zDec_at zB_dX12_has_71 13 rfl
theorem dX12_has_99 : decode cX12_has 99 = .ok (.iaload, 1) := zDec_at zB_dX12_has_71 14 rfl
theorem dX12_has_100 : decode cX12_has 100 = .ok (.imul, 1) := zDec_at zB_dX12_has_71 15 rfl
theorem dX12_has_101 : decode cX12_has 101 = .ok (.iadd, 1) := zDec_at zB_dX12_has_71 16 rfl
theorem dX12_has_102 : decode cX12_has 102 = .ok (.istore 5, 2) := zDec_at zB_dX12_has_71 17 rfl
theorem dX12_has_104 : decode cX12_has 104 = .ok (.aload_n 0, 1) := zDec_at zB_dX12_has_71 18 rfl
theorem dX12_has_105 : decode cX12_has 105 = .ok (.getfield 7, 3) := zDec_at zB_dX12_has_71 19 rfl
theorem dX12_has_108 : decode cX12_has 108 = .ok (.iload 5, 2) := zDec_at zB_dX12_has_71 20 rfl
theorem dX12_has_110 : decode cX12_has 110 = .ok (.iload_n 1, 1) := zDec_at zB_dX12_has_71 21 rfl
theorem dX12_has_111 : decode cX12_has 111 = .ok (.iastore, 1) := zDec_at zB_dX12_has_71 22 rfl
theorem dX12_has_112 : decode cX12_has 112 = .ok (.aload_n 0, 1) := zDec_at zB_dX12_has_71 23 rfl
theorem dX12_has_113 : decode cX12_has 113 = .ok (.getfield 7, 3) := zDec_at zB_dX12_has_71 24 rfl
theorem dX12_has_116 : decode cX12_has 116 = .ok (.iload 5, 2) := zDec_at zB_dX12_has_71 25 rfl
theorem dX12_has_118 : decode cX12_has 118 = .ok (.iconst 1, 1) := zDec_at zB_dX12_has_71 26 rfl
theorem dX12_has_119 : decode cX12_has 119 = .ok (.iadd, 1) := zDec_at zB_dX12_has_71 27 rfl
theorem dX12_has_120 : decode cX12_has 120 = .ok (.iload_n 3, 1) := zDec_at zB_dX12_has_71 28 rfl
theorem dX12_has_121 : decode cX12_has 121 = .ok (.iastore, 1) := zDec_at zB_dX12_has_71 29 rfl
theorem dX12_has_122 : decode cX12_has 122 = .ok (.aload_n 0, 1) := zDec_at zB_dX12_has_71 30 rfl
theorem dX12_has_123 : decode cX12_has 123 = .ok (.getfield 7, 3) := zDec_at zB_dX12_has_71 31 rfl
theorem dX12_has_126 : decode cX12_has 126 = .ok (.iload 5, 2) := zDec_at zB_dX12_has_71 32 rfl
theorem dX12_has_128 : decode cX12_has 128 = .ok (.iconst 2, 1) := zDec_at zB_dX12_has_71 33 rfl
theorem dX12_has_129 : decode cX12_has 129 = .ok (.iadd, 1) := zDec_at zB_dX12_has_71 34 rfl
theorem dX12_has_130 : decode cX12_has 130 = .ok (.iload 4, 2) := zDec_at zB_dX12_has_71 35 rfl
theorem dX12_has_132 : decode cX12_has 132 = .ok (.iastore, 1) := zDec_at zB_dX12_has_71 36 rfl
theorem dX12_has_133 : decode cX12_has 133 = .ok (.aload_n 0, 1) := zDec_at zB_dX12_has_71 37 rfl
theorem dX12_has_134 : decode cX12_has 134 = .ok (.getfield 7, 3) := zDec_at zB_dX12_has_71 38 rfl
theorem dX12_has_137 : decode cX12_has 137 = .ok (.bipush 10, 2) := zDec_at zB_dX12_has_71 39 rfl
theorem zB_dX12_has_139 : zDecB cX12_has [(139, .iload_n 2, 1), (140, .iadd, 1), (141, .dup2, 1), (142, .iaload, 1), (143, .iconst 1, 1), (144, .iadd, 1), (145, .iastore, 1), (146, .aload_n 0, 1), (147, .aload_n 0, 1), (148, .getfield 7, 3), (151, .bipush 10, 2), (153, .iload_n 2, 1), (154, .iadd, 1), (155, .iaload, 1), (156, .invokevirtual 106, 3), (159, .ireturn, 1)] = true := by decide +kernel
theorem dX12_has_139 : decode cX12_has 139 = .ok (.iload_n 2, 1) := zDec_at zB_dX12_has_139 0 rfl
theorem dX12_has_140 : decode cX12_has 140 = .ok (.iadd, 1) := zDec_at zB_dX12_has_139 1 rfl
theorem dX12_has_141 : decode cX12_has 141 = .ok (.dup2, 1) := zDec_at zB_dX12_has_139 2 rfl
theorem dX12_has_142 : decode cX12_has 142 = .ok (.iaload, 1) := zDec_at zB_dX12_has_139 3 rfl
theorem dX12_has_143 : decode cX12_has 143 = .ok (.iconst 1, 1) := zDec_at zB_dX12_has_139 4 rfl
theorem dX12_has_144 : decode cX12_has 144 = .ok (.iadd, 1) := zDec_at zB_dX12_has_139 5 rfl
theorem dX12_has_145 : decode cX12_has 145 = .ok (.iastore, 1) := zDec_at zB_dX12_has_139 6 rfl
theorem dX12_has_146 : decode cX12_has 146 = .ok (.aload_n 0, 1) := zDec_at zB_dX12_has_139 7 rfl
theorem dX12_has_147 : decode cX12_has 147 = .ok (.aload_n 0, 1) := zDec_at zB_dX12_has_139 8 rfl
theorem dX12_has_148 : decode cX12_has 148 = .ok (.getfield 7, 3) := zDec_at zB_dX12_has_139 9 rfl
theorem dX12_has_151 : decode cX12_has 151 = .ok (.bipush 10, 2) := zDec_at zB_dX12_has_139 10 rfl
theorem dX12_has_153 : decode cX12_has 153 = .ok (.iload_n 2, 1) := zDec_at zB_dX12_has_139 11 rfl
theorem dX12_has_154 : decode cX12_has 154 = .ok (.iadd, 1) := zDec_at zB_dX12_has_139 12 rfl
theorem dX12_has_155 : decode cX12_has 155 = .ok (.iaload, 1) := zDec_at zB_dX12_has_139 13 rfl
theorem dX12_has_156 : decode cX12_has 156 = .ok (.invokevirtual 106, 3) := zDec_at zB_dX12_has_139 14 rfl
theorem dX12_has_159 : decode cX12_has 159 = .ok (.ireturn, 1) := zDec_at zB_dX12_has_139 15 rfl
theorem zB_dX12_hasFailed_0 : zDecB cX12_hasFailed [(0, .iconst 0, 1), (1, .istore_n 3, 1), (2, .iconst 0, 1), (3, .istore 4, 2), (5, .iload 4, 2), (7, .aload_n 0, 1), (8, .getfield 7, 3), (11, .bipush 9, 2), (13, .iaload, 1), (14, .if_icmp .ge 55, 3), (17, .iload_n 3, 1), (18, .ifCond .ne 39, 3), (21, .aload_n 0, 1), (22, .getfield 7, 3), (25, .sipush 3300, 3), (28, .iconst 2, 1), (29, .iload 4, 2), (31, .imul, 1), (32, .iadd, 1), (33, .iaload, 1), (34, .iload_n 1, 1), (35, .if_icmp .ne 26, 3), (38, .aload_n 0, 1), (39, .getfield 7, 3), (42, .sipush 3300, 3), (45, .iconst 2, 1), (46, .iload 4, 2), (48, .imul, 1), (49, .iadd, 1), (50, .iconst 1, 1), (51, .iadd, 1), (52, .iaload, 1), (53, .iload_n 2, 1), (54, .if_icmp .ne 7, 3), (57, .iconst 1, 1), (58, .goto 4, 3), (61, .iconst 0, 1), (62, .istore_n 3, 1), (63, .iinc 4 1, 3), (66, .goto (-61), 3)] = true := by decide +kernel
theorem dX12_hasFailed_0 : decode cX12_hasFailed 0 = .ok (.iconst 0, 1) := zDec_at zB_dX12_hasFailed_0 0 rfl
theorem dX12_hasFailed_1 : decode cX12_hasFailed 1 = .ok (.istore_n 3, 1) := zDec_at zB_dX12_hasFailed_0 1 rfl
theorem dX12_hasFailed_2 : decode cX12_hasFailed 2 = .ok (.iconst 0, 1) := zDec_at zB_dX12_hasFailed_0 2 rfl
theorem dX12_hasFailed_3 : decode cX12_hasFailed 3 = .ok (.istore 4, 2) := zDec_at zB_dX12_hasFailed_0 3 rfl
theorem dX12_hasFailed_5 : decode cX12_hasFailed 5 = .ok (.iload 4, 2) := zDec_at zB_dX12_hasFailed_0 4 rfl
theorem dX12_hasFailed_7 : decode cX12_hasFailed 7 = .ok (.aload_n 0, 1) := zDec_at zB_dX12_hasFailed_0 5 rfl
theorem dX12_hasFailed_8 : decode cX12_hasFailed 8 = .ok (.getfield 7, 3) := zDec_at zB_dX12_hasFailed_0 6 rfl
theorem dX12_hasFailed_11 : decode cX12_hasFailed 11 = .ok (.bipush 9, 2) := zDec_at zB_dX12_hasFailed_0 7 rfl
theorem dX12_hasFailed_13 : decode cX12_hasFailed 13 = .ok (.iaload, 1) := zDec_at zB_dX12_hasFailed_0 8 rfl
theorem dX12_hasFailed_14 : decode cX12_hasFailed 14 = .ok (.if_icmp .ge 55, 3) := zDec_at zB_dX12_hasFailed_0 9 rfl
theorem dX12_hasFailed_17 : decode cX12_hasFailed 17 = .ok (.iload_n 3, 1) := zDec_at zB_dX12_hasFailed_0 10 rfl
theorem dX12_hasFailed_18 : decode cX12_hasFailed 18 = .ok (.ifCond .ne 39, 3) := zDec_at zB_dX12_hasFailed_0 11 rfl
theorem dX12_hasFailed_21 : decode cX12_hasFailed 21 = .ok (.aload_n 0, 1) := zDec_at zB_dX12_hasFailed_0 12 rfl
theorem dX12_hasFailed_22 : decode cX12_hasFailed 22 = .ok (.getfield 7, 3) := zDec_at zB_dX12_hasFailed_0 13 rfl
theorem dX12_hasFailed_25 : decode cX12_hasFailed 25 = .ok (.sipush 3300, 3) := zDec_at zB_dX12_hasFailed_0 14 rfl
theorem dX12_hasFailed_28 : decode cX12_hasFailed 28 = .ok (.iconst 2, 1) := zDec_at zB_dX12_hasFailed_0 15 rfl
theorem dX12_hasFailed_29 : decode cX12_hasFailed 29 = .ok (.iload 4, 2) := zDec_at zB_dX12_hasFailed_0 16 rfl
theorem dX12_hasFailed_31 : decode cX12_hasFailed 31 = .ok (.imul, 1) := zDec_at zB_dX12_hasFailed_0 17 rfl
theorem dX12_hasFailed_32 : decode cX12_hasFailed 32 = .ok (.iadd, 1) := zDec_at zB_dX12_hasFailed_0 18 rfl
theorem dX12_hasFailed_33 : decode cX12_hasFailed 33 = .ok (.iaload, 1) := zDec_at zB_dX12_hasFailed_0 19 rfl
theorem dX12_hasFailed_34 : decode cX12_hasFailed 34 = .ok (.iload_n 1, 1) := zDec_at zB_dX12_hasFailed_0 20 rfl
theorem dX12_hasFailed_35 : decode cX12_hasFailed 35 = .ok (.if_icmp .ne 26, 3) := zDec_at zB_dX12_hasFailed_0 21 rfl
theorem dX12_hasFailed_38 : decode cX12_hasFailed 38 = .ok (.aload_n 0, 1) := zDec_at zB_dX12_hasFailed_0 22 rfl
theorem dX12_hasFailed_39 : decode cX12_hasFailed 39 = .ok (.getfield 7, 3) := zDec_at zB_dX12_hasFailed_0 23 rfl
theorem dX12_hasFailed_42 : decode cX12_hasFailed 42 = .ok (.sipush 3300, 3) := zDec_at zB_dX12_hasFailed_0 24 rfl
theorem dX12_hasFailed_45 : decode cX12_hasFailed 45 = .ok (.iconst 2, 1) := zDec_at zB_dX12_hasFailed_0 25 rfl
theorem dX12_hasFailed_46 : decode cX12_hasFailed 46 = .ok (.iload 4, 2) := zDec_at zB_dX12_hasFailed_0 26 rfl
theorem dX12_hasFailed_48 : decode cX12_hasFailed 48 = .ok (.imul, 1) := zDec_at zB_dX12_hasFailed_0 27 rfl
theorem dX12_hasFailed_49 : decode cX12_hasFailed 49 = .ok (.iadd, 1) := zDec_at zB_dX12_hasFailed_0 28 rfl
theorem dX12_hasFailed_50 : decode cX12_hasFailed 50 = .ok (.iconst 1, 1) := zDec_at zB_dX12_hasFailed_0 29 rfl
theorem dX12_hasFailed_51 : decode cX12_hasFailed 51 = .ok (.iadd, 1) := zDec_at zB_dX12_hasFailed_0 30 rfl
theorem dX12_hasFailed_52 : decode cX12_hasFailed 52 = .ok (.iaload, 1) := zDec_at zB_dX12_hasFailed_0 31 rfl
theorem dX12_hasFailed_53 : decode cX12_hasFailed 53 = .ok (.iload_n 2, 1) := zDec_at zB_dX12_hasFailed_0 32 rfl
theorem dX12_hasFailed_54 : decode cX12_hasFailed 54 = .ok (.if_icmp .ne 7, 3) := zDec_at zB_dX12_hasFailed_0 33 rfl
theorem dX12_hasFailed_57 : decode cX12_hasFailed 57 = .ok (.iconst 1, 1) := zDec_at zB_dX12_hasFailed_0 34 rfl
theorem dX12_hasFailed_58 : decode cX12_hasFailed 58 = .ok (.goto 4, 3) := zDec_at zB_dX12_hasFailed_0 35 rfl
theorem dX12_hasFailed_61 : decode cX12_hasFailed 61 = .ok (.iconst 0, 1) := zDec_at zB_dX12_hasFailed_0 36 rfl
theorem dX12_hasFailed_62 : decode cX12_hasFailed 62 = .ok (.istore_n 3, 1) := zDec_at zB_dX12_hasFailed_0 37 rfl
theorem dX12_hasFailed_63 : decode cX12_hasFailed 63 = .ok (.iinc 4 1, 3) := zDec_at zB_dX12_hasFailed_0 38 rfl
theorem dX12_hasFailed_66 : decode cX12_hasFailed 66 = .ok (.goto (-61), 3) := zDec_at zB_dX12_hasFailed_0 39 rfl
theorem dX12_hasFailed_69 : decode cX12_hasFailed 69 = .ok (.iload_n 3, 1) := by decide +kernel
theorem dX12_hasFailed_70 : decode cX12_hasFailed 70 = .ok (.ireturn, 1) := by decide +kernel
theorem zB_dX12_hasOn_0 : zDecB cX12_hasOn [(0, .iconst 0, 1), (1, .istore 4, 2), (3, .iconst 0, 1), (4, .istore 5, 2), (6, .iload 5, 2), (8, .aload_n 0, 1), (9, .getfield 7, 3), (12, .bipush 10, 2), (14, .iload_n 2, 1), (15, .iadd, 1), (16, .iaload, 1), (17, .if_icmp .ge 80, 3), (20, .iload_n 2, 1), (21, .ifCond .ne 9, 3), (24, .sipush 3420, 3), (27, .goto 6, 3), (30, .sipush 3600, 3), (33, .iconst 3, 1), (34, .iload 5, 2), (36, .imul, 1), (37, .iadd, 1), (38, .istore 6, 2), (40, .iload 4, 2), (42, .ifCond .ne 42, 3), (45, .aload_n 0, 1), (46, .getfield 7, 3), (49, .iload 6, 2), (51, .iaload, 1), (52, .iload_n 1, 1), (53, .if_icmp .ne 35, 3), (56, .iload_n 3, 1), (57, .i2l, 1), (58, .aload_n 0, 1), (59, .getfield 7, 3), (62, .iload 6, 2), (64, .iconst 1, 1), (65, .iadd, 1), (66, .iaload, 1), (67, .i2l, 1), (68, .aload_n 0, 1)] = true := by decide +kernel
theorem dX12_hasOn_0 : decode cX12_hasOn 0 = .ok (.iconst 0, 1) := zDec_at zB_dX12_hasOn_0 0 rfl
theorem dX12_hasOn_1 : decode cX12_hasOn 1 = .ok (.istore 4, 2) := zDec_at zB_dX12_hasOn_0 1 rfl
theorem dX12_hasOn_3 : decode cX12_hasOn 3 = .ok (.iconst 0, 1) := zDec_at zB_dX12_hasOn_0 2 rfl
theorem dX12_hasOn_4 : decode cX12_hasOn 4 = .ok (.istore 5, 2) := zDec_at zB_dX12_hasOn_0 3 rfl
theorem dX12_hasOn_6 : decode cX12_hasOn 6 = .ok (.iload 5, 2) := zDec_at zB_dX12_hasOn_0 4 rfl
theorem dX12_hasOn_8 : decode cX12_hasOn 8 = .ok (.aload_n 0, 1) := zDec_at zB_dX12_hasOn_0 5 rfl
theorem dX12_hasOn_9 : decode cX12_hasOn 9 = .ok (.getfield 7, 3) := zDec_at zB_dX12_hasOn_0 6 rfl
theorem dX12_hasOn_12 : decode cX12_hasOn 12 = .ok (.bipush 10, 2) := zDec_at zB_dX12_hasOn_0 7 rfl
theorem dX12_hasOn_14 : decode cX12_hasOn 14 = .ok (.iload_n 2, 1) := zDec_at zB_dX12_hasOn_0 8 rfl
theorem dX12_hasOn_15 : decode cX12_hasOn 15 = .ok (.iadd, 1) := zDec_at zB_dX12_hasOn_0 9 rfl
theorem dX12_hasOn_16 : decode cX12_hasOn 16 = .ok (.iaload, 1) := zDec_at zB_dX12_hasOn_0 10 rfl
theorem dX12_hasOn_17 : decode cX12_hasOn 17 = .ok (.if_icmp .ge 80, 3) := zDec_at zB_dX12_hasOn_0 11 rfl
theorem dX12_hasOn_20 : decode cX12_hasOn 20 = .ok (.iload_n 2, 1) := zDec_at zB_dX12_hasOn_0 12 rfl
theorem dX12_hasOn_21 : decode cX12_hasOn 21 = .ok (.ifCond .ne 9, 3) := zDec_at zB_dX12_hasOn_0 13 rfl
theorem dX12_hasOn_24 : decode cX12_hasOn 24 = .ok (.sipush 3420, 3) := zDec_at zB_dX12_hasOn_0 14 rfl
theorem dX12_hasOn_27 : decode cX12_hasOn 27 = .ok (.goto 6, 3) := zDec_at zB_dX12_hasOn_0 15 rfl
theorem dX12_hasOn_30 : decode cX12_hasOn 30 = .ok (.sipush 3600, 3) := zDec_at zB_dX12_hasOn_0 16 rfl
theorem dX12_hasOn_33 : decode cX12_hasOn 33 = .ok (.iconst 3, 1) := zDec_at zB_dX12_hasOn_0 17 rfl
theorem dX12_hasOn_34 : decode cX12_hasOn 34 = .ok (.iload 5, 2) := zDec_at zB_dX12_hasOn_0 18 rfl
theorem dX12_hasOn_36 : decode cX12_hasOn 36 = .ok (.imul, 1) := zDec_at zB_dX12_hasOn_0 19 rfl
theorem dX12_hasOn_37 : decode cX12_hasOn 37 = .ok (.iadd, 1) := zDec_at zB_dX12_hasOn_0 20 rfl
theorem dX12_hasOn_38 : decode cX12_hasOn 38 = .ok (.istore 6, 2) := zDec_at zB_dX12_hasOn_0 21 rfl
theorem dX12_hasOn_40 : decode cX12_hasOn 40 = .ok (.iload 4, 2) := zDec_at zB_dX12_hasOn_0 22 rfl
theorem dX12_hasOn_42 : decode cX12_hasOn 42 = .ok (.ifCond .ne 42, 3) := zDec_at zB_dX12_hasOn_0 23 rfl
theorem dX12_hasOn_45 : decode cX12_hasOn 45 = .ok (.aload_n 0, 1) := zDec_at zB_dX12_hasOn_0 24 rfl
theorem dX12_hasOn_46 : decode cX12_hasOn 46 = .ok (.getfield 7, 3) := zDec_at zB_dX12_hasOn_0 25 rfl
theorem dX12_hasOn_49 : decode cX12_hasOn 49 = .ok (.iload 6, 2) := zDec_at zB_dX12_hasOn_0 26 rfl
theorem dX12_hasOn_51 : decode cX12_hasOn 51 = .ok (.iaload, 1) := zDec_at zB_dX12_hasOn_0 27 rfl
theorem dX12_hasOn_52 : decode cX12_hasOn 52 = .ok (.iload_n 1, 1) := zDec_at zB_dX12_hasOn_0 28 rfl
theorem dX12_hasOn_53 : decode cX12_hasOn 53 = .ok (.if_icmp .ne 35, 3) := zDec_at zB_dX12_hasOn_0 29 rfl
theorem dX12_hasOn_56 : decode cX12_hasOn 56 = .ok (.iload_n 3, 1) := zDec_at zB_dX12_hasOn_0 30 rfl
theorem dX12_hasOn_57 : decode cX12_hasOn 57 = .ok (.i2l, 1) := zDec_at zB_dX12_hasOn_0 31 rfl
theorem dX12_hasOn_58 : decode cX12_hasOn 58 = .ok (.aload_n 0, 1) := zDec_at zB_dX12_hasOn_0 32 rfl
theorem dX12_hasOn_59 : decode cX12_hasOn 59 = .ok (.getfield 7, 3) := zDec_at zB_dX12_hasOn_0 33 rfl
theorem dX12_hasOn_62 : decode cX12_hasOn 62 = .ok (.iload 6, 2) := zDec_at zB_dX12_hasOn_0 34 rfl
theorem dX12_hasOn_64 : decode cX12_hasOn 64 = .ok (.iconst 1, 1) := zDec_at zB_dX12_hasOn_0 35 rfl
theorem dX12_hasOn_65 : decode cX12_hasOn 65 = .ok (.iadd, 1) := zDec_at zB_dX12_hasOn_0 36 rfl
theorem dX12_hasOn_66 : decode cX12_hasOn 66 = .ok (.iaload, 1) := zDec_at zB_dX12_hasOn_0 37 rfl
theorem dX12_hasOn_67 : decode cX12_hasOn 67 = .ok (.i2l, 1) := zDec_at zB_dX12_hasOn_0 38 rfl
theorem dX12_hasOn_68 : decode cX12_hasOn 68 = .ok (.aload_n 0, 1) := zDec_at zB_dX12_hasOn_0 39 rfl
theorem zB_dX12_hasOn_69 : zDecB cX12_hasOn [(69, .getfield 7, 3), (72, .iload 6, 2), (74, .iconst 2, 1), (75, .iadd, 1), (76, .iaload, 1), (77, .i2l, 1), (78, .invokestatic 100, 3), (81, .ifCond .eq 7, 3), (84, .iconst 1, 1), (85, .goto 4, 3), (88, .iconst 0, 1), (89, .istore 4, 2), (91, .iinc 5 1, 3), (94, .goto (-88), 3), (97, .iload 4, 2), (99, .ireturn, 1)] = true := by decide +kernel
theorem dX12_hasOn_69 : decode cX12_hasOn 69 = .ok (.getfield 7, 3) := zDec_at zB_dX12_hasOn_69 0 rfl
theorem dX12_hasOn_72 : decode cX12_hasOn 72 = .ok (.iload 6, 2) := zDec_at zB_dX12_hasOn_69 1 rfl
theorem dX12_hasOn_74 : decode cX12_hasOn 74 = .ok (.iconst 2, 1) := zDec_at zB_dX12_hasOn_69 2 rfl
theorem dX12_hasOn_75 : decode cX12_hasOn 75 = .ok (.iadd, 1) := zDec_at zB_dX12_hasOn_69 3 rfl
theorem dX12_hasOn_76 : decode cX12_hasOn 76 = .ok (.iaload, 1) := zDec_at zB_dX12_hasOn_69 4 rfl
theorem dX12_hasOn_77 : decode cX12_hasOn 77 = .ok (.i2l, 1) := zDec_at zB_dX12_hasOn_69 5 rfl
theorem dX12_hasOn_78 : decode cX12_hasOn 78 = .ok (.invokestatic 100, 3) := zDec_at zB_dX12_hasOn_69 6 rfl
theorem dX12_hasOn_81 : decode cX12_hasOn 81 = .ok (.ifCond .eq 7, 3) := zDec_at zB_dX12_hasOn_69 7 rfl
theorem dX12_hasOn_84 : decode cX12_hasOn 84 = .ok (.iconst 1, 1) := zDec_at zB_dX12_hasOn_69 8 rfl
theorem dX12_hasOn_85 : decode cX12_hasOn 85 = .ok (.goto 4, 3) := zDec_at zB_dX12_hasOn_69 9 rfl
theorem dX12_hasOn_88 : decode cX12_hasOn 88 = .ok (.iconst 0, 1) := zDec_at zB_dX12_hasOn_69 10 rfl
theorem dX12_hasOn_89 : decode cX12_hasOn 89 = .ok (.istore 4, 2) := zDec_at zB_dX12_hasOn_69 11 rfl
theorem dX12_hasOn_91 : decode cX12_hasOn 91 = .ok (.iinc 5 1, 3) := zDec_at zB_dX12_hasOn_69 12 rfl
theorem dX12_hasOn_94 : decode cX12_hasOn 94 = .ok (.goto (-88), 3) := zDec_at zB_dX12_hasOn_69 13 rfl
theorem dX12_hasOn_97 : decode cX12_hasOn 97 = .ok (.iload 4, 2) := zDec_at zB_dX12_hasOn_69 14 rfl
theorem dX12_hasOn_99 : decode cX12_hasOn 99 = .ok (.ireturn, 1) := zDec_at zB_dX12_hasOn_69 15 rfl
theorem zB_dX12_helped_0 : zDecB cX12_helped [(0, .aload_n 0, 1), (1, .iconst 0, 1), (2, .putfield 92, 3), (5, .iload_n 1, 1), (6, .i2l, 1), (7, .lconst 0, 1), (8, .lconst 1, 1), (9, .invokestatic 100, 3), (12, .ifCond .ne 5, 3), (15, .iconst (-1), 1), (16, .ireturn, 1), (17, .aload_n 0, 1), (18, .getfield 7, 3), (21, .bipush 8, 2), (23, .iaload, 1), (24, .istore_n 2, 1), (25, .iconst 0, 1), (26, .istore_n 3, 1), (27, .iconst 0, 1), (28, .istore 4, 2), (30, .iconst 0, 1), (31, .istore 5, 2), (33, .iload 5, 2), (35, .iload_n 2, 1), (36, .if_icmp .ge 63, 3), (39, .iload_n 3, 1), (40, .aload_n 0, 1), (41, .getfield 7, 3), (44, .sipush 7025, 3), (47, .iconst 3, 1), (48, .iload 5, 2), (50, .imul, 1), (51, .iadd, 1), (52, .iconst 1, 1), (53, .iadd, 1), (54, .iaload, 1), (55, .iadd, 1), (56, .istore_n 3, 1), (57, .iload 4, 2), (59, .aload_n 0, 1)] = true := by decide +kernel
theorem dX12_helped_0 : decode cX12_helped 0 = .ok (.aload_n 0, 1) := zDec_at zB_dX12_helped_0 0 rfl
theorem dX12_helped_1 : decode cX12_helped 1 = .ok (.iconst 0, 1) := zDec_at zB_dX12_helped_0 1 rfl
theorem dX12_helped_2 : decode cX12_helped 2 = .ok (.putfield 92, 3) := zDec_at zB_dX12_helped_0 2 rfl
theorem dX12_helped_5 : decode cX12_helped 5 = .ok (.iload_n 1, 1) := zDec_at zB_dX12_helped_0 3 rfl
theorem dX12_helped_6 : decode cX12_helped 6 = .ok (.i2l, 1) := zDec_at zB_dX12_helped_0 4 rfl
theorem dX12_helped_7 : decode cX12_helped 7 = .ok (.lconst 0, 1) := zDec_at zB_dX12_helped_0 5 rfl
theorem dX12_helped_8 : decode cX12_helped 8 = .ok (.lconst 1, 1) := zDec_at zB_dX12_helped_0 6 rfl
theorem dX12_helped_9 : decode cX12_helped 9 = .ok (.invokestatic 100, 3) := zDec_at zB_dX12_helped_0 7 rfl
theorem dX12_helped_12 : decode cX12_helped 12 = .ok (.ifCond .ne 5, 3) := zDec_at zB_dX12_helped_0 8 rfl
theorem dX12_helped_15 : decode cX12_helped 15 = .ok (.iconst (-1), 1) := zDec_at zB_dX12_helped_0 9 rfl
theorem dX12_helped_16 : decode cX12_helped 16 = .ok (.ireturn, 1) := zDec_at zB_dX12_helped_0 10 rfl
theorem dX12_helped_17 : decode cX12_helped 17 = .ok (.aload_n 0, 1) := zDec_at zB_dX12_helped_0 11 rfl
theorem dX12_helped_18 : decode cX12_helped 18 = .ok (.getfield 7, 3) := zDec_at zB_dX12_helped_0 12 rfl
theorem dX12_helped_21 : decode cX12_helped 21 = .ok (.bipush 8, 2) := zDec_at zB_dX12_helped_0 13 rfl
theorem dX12_helped_23 : decode cX12_helped 23 = .ok (.iaload, 1) := zDec_at zB_dX12_helped_0 14 rfl
theorem dX12_helped_24 : decode cX12_helped 24 = .ok (.istore_n 2, 1) := zDec_at zB_dX12_helped_0 15 rfl
theorem dX12_helped_25 : decode cX12_helped 25 = .ok (.iconst 0, 1) := zDec_at zB_dX12_helped_0 16 rfl
theorem dX12_helped_26 : decode cX12_helped 26 = .ok (.istore_n 3, 1) := zDec_at zB_dX12_helped_0 17 rfl
theorem dX12_helped_27 : decode cX12_helped 27 = .ok (.iconst 0, 1) := zDec_at zB_dX12_helped_0 18 rfl
theorem dX12_helped_28 : decode cX12_helped 28 = .ok (.istore 4, 2) := zDec_at zB_dX12_helped_0 19 rfl
theorem dX12_helped_30 : decode cX12_helped 30 = .ok (.iconst 0, 1) := zDec_at zB_dX12_helped_0 20 rfl
theorem dX12_helped_31 : decode cX12_helped 31 = .ok (.istore 5, 2) := zDec_at zB_dX12_helped_0 21 rfl
theorem dX12_helped_33 : decode cX12_helped 33 = .ok (.iload 5, 2) := zDec_at zB_dX12_helped_0 22 rfl
theorem dX12_helped_35 : decode cX12_helped 35 = .ok (.iload_n 2, 1) := zDec_at zB_dX12_helped_0 23 rfl
theorem dX12_helped_36 : decode cX12_helped 36 = .ok (.if_icmp .ge 63, 3) := zDec_at zB_dX12_helped_0 24 rfl
theorem dX12_helped_39 : decode cX12_helped 39 = .ok (.iload_n 3, 1) := zDec_at zB_dX12_helped_0 25 rfl
theorem dX12_helped_40 : decode cX12_helped 40 = .ok (.aload_n 0, 1) := zDec_at zB_dX12_helped_0 26 rfl
theorem dX12_helped_41 : decode cX12_helped 41 = .ok (.getfield 7, 3) := zDec_at zB_dX12_helped_0 27 rfl
theorem dX12_helped_44 : decode cX12_helped 44 = .ok (.sipush 7025, 3) := zDec_at zB_dX12_helped_0 28 rfl
theorem dX12_helped_47 : decode cX12_helped 47 = .ok (.iconst 3, 1) := zDec_at zB_dX12_helped_0 29 rfl
theorem dX12_helped_48 : decode cX12_helped 48 = .ok (.iload 5, 2) := zDec_at zB_dX12_helped_0 30 rfl
theorem dX12_helped_50 : decode cX12_helped 50 = .ok (.imul, 1) := zDec_at zB_dX12_helped_0 31 rfl
theorem dX12_helped_51 : decode cX12_helped 51 = .ok (.iadd, 1) := zDec_at zB_dX12_helped_0 32 rfl
theorem dX12_helped_52 : decode cX12_helped 52 = .ok (.iconst 1, 1) := zDec_at zB_dX12_helped_0 33 rfl
theorem dX12_helped_53 : decode cX12_helped 53 = .ok (.iadd, 1) := zDec_at zB_dX12_helped_0 34 rfl
theorem dX12_helped_54 : decode cX12_helped 54 = .ok (.iaload, 1) := zDec_at zB_dX12_helped_0 35 rfl
theorem dX12_helped_55 : decode cX12_helped 55 = .ok (.iadd, 1) := zDec_at zB_dX12_helped_0 36 rfl
theorem dX12_helped_56 : decode cX12_helped 56 = .ok (.istore_n 3, 1) := zDec_at zB_dX12_helped_0 37 rfl
theorem dX12_helped_57 : decode cX12_helped 57 = .ok (.iload 4, 2) := zDec_at zB_dX12_helped_0 38 rfl
theorem dX12_helped_59 : decode cX12_helped 59 = .ok (.aload_n 0, 1) := zDec_at zB_dX12_helped_0 39 rfl
theorem zB_dX12_helped_60 : zDecB cX12_helped [(60, .getfield 7, 3), (63, .sipush 7025, 3), (66, .iconst 3, 1), (67, .iload 5, 2), (69, .imul, 1), (70, .iadd, 1), (71, .iconst 1, 1), (72, .iadd, 1), (73, .iaload, 1), (74, .aload_n 0, 1), (75, .getfield 7, 3), (78, .sipush 7025, 3), (81, .iconst 3, 1), (82, .iload 5, 2), (84, .imul, 1), (85, .iadd, 1), (86, .iconst 2, 1), (87, .iadd, 1), (88, .iaload, 1), (89, .imul, 1), (90, .iadd, 1), (91, .istore 4, 2), (93, .iinc 5 1, 3), (96, .goto (-63), 3), (99, .iconst 0, 1), (100, .istore 5, 2), (102, .iconst 0, 1), (103, .istore 6, 2), (105, .iconst 0, 1), (106, .istore 7, 2), (108, .iload 7, 2), (110, .iconst 1, 1), (111, .iload_n 2, 1), (112, .ishl, 1), (113, .if_icmp .ge 109, 3), (116, .iconst 0, 1), (117, .istore 8, 2), (119, .iconst 0, 1), (120, .istore 9, 2), (122, .iconst 0, 1)] = true := by decide +kernel
theorem dX12_helped_60 : decode cX12_helped 60 = .ok (.getfield 7, 3) := zDec_at zB_dX12_helped_60 0 rfl
theorem dX12_helped_63 : decode cX12_helped 63 = .ok (.sipush 7025, 3) := zDec_at zB_dX12_helped_60 1 rfl
theorem dX12_helped_66 : decode cX12_helped 66 = .ok (.iconst 3, 1) := zDec_at zB_dX12_helped_60 2 rfl
theorem dX12_helped_67 : decode cX12_helped 67 = .ok (.iload 5, 2) := zDec_at zB_dX12_helped_60 3 rfl
theorem dX12_helped_69 : decode cX12_helped 69 = .ok (.imul, 1) := zDec_at zB_dX12_helped_60 4 rfl
theorem dX12_helped_70 : decode cX12_helped 70 = .ok (.iadd, 1) := zDec_at zB_dX12_helped_60 5 rfl
theorem dX12_helped_71 : decode cX12_helped 71 = .ok (.iconst 1, 1) := zDec_at zB_dX12_helped_60 6 rfl
theorem dX12_helped_72 : decode cX12_helped 72 = .ok (.iadd, 1) := zDec_at zB_dX12_helped_60 7 rfl
theorem dX12_helped_73 : decode cX12_helped 73 = .ok (.iaload, 1) := zDec_at zB_dX12_helped_60 8 rfl
theorem dX12_helped_74 : decode cX12_helped 74 = .ok (.aload_n 0, 1) := zDec_at zB_dX12_helped_60 9 rfl
theorem dX12_helped_75 : decode cX12_helped 75 = .ok (.getfield 7, 3) := zDec_at zB_dX12_helped_60 10 rfl
theorem dX12_helped_78 : decode cX12_helped 78 = .ok (.sipush 7025, 3) := zDec_at zB_dX12_helped_60 11 rfl
theorem dX12_helped_81 : decode cX12_helped 81 = .ok (.iconst 3, 1) := zDec_at zB_dX12_helped_60 12 rfl
theorem dX12_helped_82 : decode cX12_helped 82 = .ok (.iload 5, 2) := zDec_at zB_dX12_helped_60 13 rfl
theorem dX12_helped_84 : decode cX12_helped 84 = .ok (.imul, 1) := zDec_at zB_dX12_helped_60 14 rfl
theorem dX12_helped_85 : decode cX12_helped 85 = .ok (.iadd, 1) := zDec_at zB_dX12_helped_60 15 rfl
theorem dX12_helped_86 : decode cX12_helped 86 = .ok (.iconst 2, 1) := zDec_at zB_dX12_helped_60 16 rfl
theorem dX12_helped_87 : decode cX12_helped 87 = .ok (.iadd, 1) := zDec_at zB_dX12_helped_60 17 rfl
theorem dX12_helped_88 : decode cX12_helped 88 = .ok (.iaload, 1) := zDec_at zB_dX12_helped_60 18 rfl
theorem dX12_helped_89 : decode cX12_helped 89 = .ok (.imul, 1) := zDec_at zB_dX12_helped_60 19 rfl
theorem dX12_helped_90 : decode cX12_helped 90 = .ok (.iadd, 1) := zDec_at zB_dX12_helped_60 20 rfl
theorem dX12_helped_91 : decode cX12_helped 91 = .ok (.istore 4, 2) := zDec_at zB_dX12_helped_60 21 rfl
theorem dX12_helped_93 : decode cX12_helped 93 = .ok (.iinc 5 1, 3) := zDec_at zB_dX12_helped_60 22 rfl
theorem dX12_helped_96 : decode cX12_helped 96 = .ok (.goto (-63), 3) := zDec_at zB_dX12_helped_60 23 rfl
theorem dX12_helped_99 : decode cX12_helped 99 = .ok (.iconst 0, 1) := zDec_at zB_dX12_helped_60 24 rfl
theorem dX12_helped_100 : decode cX12_helped 100 = .ok (.istore 5, 2) := zDec_at zB_dX12_helped_60 25 rfl
theorem dX12_helped_102 : decode cX12_helped 102 = .ok (.iconst 0, 1) := zDec_at zB_dX12_helped_60 26 rfl
theorem dX12_helped_103 : decode cX12_helped 103 = .ok (.istore 6, 2) := zDec_at zB_dX12_helped_60 27 rfl
theorem dX12_helped_105 : decode cX12_helped 105 = .ok (.iconst 0, 1) := zDec_at zB_dX12_helped_60 28 rfl
theorem dX12_helped_106 : decode cX12_helped 106 = .ok (.istore 7, 2) := zDec_at zB_dX12_helped_60 29 rfl
theorem dX12_helped_108 : decode cX12_helped 108 = .ok (.iload 7, 2) := zDec_at zB_dX12_helped_60 30 rfl
theorem dX12_helped_110 : decode cX12_helped 110 = .ok (.iconst 1, 1) := zDec_at zB_dX12_helped_60 31 rfl
theorem dX12_helped_111 : decode cX12_helped 111 = .ok (.iload_n 2, 1) := zDec_at zB_dX12_helped_60 32 rfl
theorem dX12_helped_112 : decode cX12_helped 112 = .ok (.ishl, 1) := zDec_at zB_dX12_helped_60 33 rfl
theorem dX12_helped_113 : decode cX12_helped 113 = .ok (.if_icmp .ge 109, 3) := zDec_at zB_dX12_helped_60 34 rfl
theorem dX12_helped_116 : decode cX12_helped 116 = .ok (.iconst 0, 1) := zDec_at zB_dX12_helped_60 35 rfl
theorem dX12_helped_117 : decode cX12_helped 117 = .ok (.istore 8, 2) := zDec_at zB_dX12_helped_60 36 rfl
theorem dX12_helped_119 : decode cX12_helped 119 = .ok (.iconst 0, 1) := zDec_at zB_dX12_helped_60 37 rfl
theorem dX12_helped_120 : decode cX12_helped 120 = .ok (.istore 9, 2) := zDec_at zB_dX12_helped_60 38 rfl
theorem dX12_helped_122 : decode cX12_helped 122 = .ok (.iconst 0, 1) := zDec_at zB_dX12_helped_60 39 rfl
theorem zB_dX12_helped_123 : zDecB cX12_helped [(123, .istore 10, 2), (125, .iload 10, 2), (127, .iload_n 2, 1), (128, .if_icmp .ge 49, 3), (131, .iload 8, 2), (133, .iload 7, 2), (135, .iload 10, 2), (137, .ishr, 1), (138, .iconst 1, 1), (139, .iand, 1), (140, .iadd, 1), (141, .istore 8, 2), (143, .iload 9, 2), (145, .iload 7, 2), (147, .iload 10, 2), (149, .ishr, 1), (150, .iconst 1, 1), (151, .iand, 1), (152, .aload_n 0, 1), (153, .getfield 7, 3), (156, .sipush 7025, 3), (159, .iconst 3, 1), (160, .iload 10, 2), (162, .imul, 1), (163, .iadd, 1), (164, .iconst 2, 1), (165, .iadd, 1), (166, .iaload, 1), (167, .imul, 1), (168, .iadd, 1), (169, .istore 9, 2), (171, .iinc 10 1, 3), (174, .goto (-49), 3), (177, .iload 5, 2), (179, .iload 8, 2), (181, .iload_n 3, 1), (182, .if_icmp .ne 7, 3), (185, .iconst 1, 1), (186, .goto 4, 3), (189, .iconst 0, 1)] = true := by decide +kernel
theorem dX12_helped_123 : decode cX12_helped 123 = .ok (.istore 10, 2) := zDec_at zB_dX12_helped_123 0 rfl
theorem dX12_helped_125 : decode cX12_helped 125 = .ok (.iload 10, 2) := zDec_at zB_dX12_helped_123 1 rfl
theorem dX12_helped_127 : decode cX12_helped 127 = .ok (.iload_n 2, 1) := zDec_at zB_dX12_helped_123 2 rfl
theorem dX12_helped_128 : decode cX12_helped 128 = .ok (.if_icmp .ge 49, 3) := zDec_at zB_dX12_helped_123 3 rfl
theorem dX12_helped_131 : decode cX12_helped 131 = .ok (.iload 8, 2) := zDec_at zB_dX12_helped_123 4 rfl
theorem dX12_helped_133 : decode cX12_helped 133 = .ok (.iload 7, 2) := zDec_at zB_dX12_helped_123 5 rfl
theorem dX12_helped_135 : decode cX12_helped 135 = .ok (.iload 10, 2) := zDec_at zB_dX12_helped_123 6 rfl
theorem dX12_helped_137 : decode cX12_helped 137 = .ok (.ishr, 1) := zDec_at zB_dX12_helped_123 7 rfl
theorem dX12_helped_138 : decode cX12_helped 138 = .ok (.iconst 1, 1) := zDec_at zB_dX12_helped_123 8 rfl
theorem dX12_helped_139 : decode cX12_helped 139 = .ok (.iand, 1) := zDec_at zB_dX12_helped_123 9 rfl
theorem dX12_helped_140 : decode cX12_helped 140 = .ok (.iadd, 1) := zDec_at zB_dX12_helped_123 10 rfl
theorem dX12_helped_141 : decode cX12_helped 141 = .ok (.istore 8, 2) := zDec_at zB_dX12_helped_123 11 rfl
theorem dX12_helped_143 : decode cX12_helped 143 = .ok (.iload 9, 2) := zDec_at zB_dX12_helped_123 12 rfl
theorem dX12_helped_145 : decode cX12_helped 145 = .ok (.iload 7, 2) := zDec_at zB_dX12_helped_123 13 rfl
theorem dX12_helped_147 : decode cX12_helped 147 = .ok (.iload 10, 2) := zDec_at zB_dX12_helped_123 14 rfl
theorem dX12_helped_149 : decode cX12_helped 149 = .ok (.ishr, 1) := zDec_at zB_dX12_helped_123 15 rfl
theorem dX12_helped_150 : decode cX12_helped 150 = .ok (.iconst 1, 1) := zDec_at zB_dX12_helped_123 16 rfl
theorem dX12_helped_151 : decode cX12_helped 151 = .ok (.iand, 1) := zDec_at zB_dX12_helped_123 17 rfl
theorem dX12_helped_152 : decode cX12_helped 152 = .ok (.aload_n 0, 1) := zDec_at zB_dX12_helped_123 18 rfl
theorem dX12_helped_153 : decode cX12_helped 153 = .ok (.getfield 7, 3) := zDec_at zB_dX12_helped_123 19 rfl
theorem dX12_helped_156 : decode cX12_helped 156 = .ok (.sipush 7025, 3) := zDec_at zB_dX12_helped_123 20 rfl
theorem dX12_helped_159 : decode cX12_helped 159 = .ok (.iconst 3, 1) := zDec_at zB_dX12_helped_123 21 rfl
theorem dX12_helped_160 : decode cX12_helped 160 = .ok (.iload 10, 2) := zDec_at zB_dX12_helped_123 22 rfl
theorem dX12_helped_162 : decode cX12_helped 162 = .ok (.imul, 1) := zDec_at zB_dX12_helped_123 23 rfl
theorem dX12_helped_163 : decode cX12_helped 163 = .ok (.iadd, 1) := zDec_at zB_dX12_helped_123 24 rfl
theorem dX12_helped_164 : decode cX12_helped 164 = .ok (.iconst 2, 1) := zDec_at zB_dX12_helped_123 25 rfl
theorem dX12_helped_165 : decode cX12_helped 165 = .ok (.iadd, 1) := zDec_at zB_dX12_helped_123 26 rfl
theorem dX12_helped_166 : decode cX12_helped 166 = .ok (.iaload, 1) := zDec_at zB_dX12_helped_123 27 rfl
theorem dX12_helped_167 : decode cX12_helped 167 = .ok (.imul, 1) := zDec_at zB_dX12_helped_123 28 rfl
theorem dX12_helped_168 : decode cX12_helped 168 = .ok (.iadd, 1) := zDec_at zB_dX12_helped_123 29 rfl
theorem dX12_helped_169 : decode cX12_helped 169 = .ok (.istore 9, 2) := zDec_at zB_dX12_helped_123 30 rfl
theorem dX12_helped_171 : decode cX12_helped 171 = .ok (.iinc 10 1, 3) := zDec_at zB_dX12_helped_123 31 rfl
theorem dX12_helped_174 : decode cX12_helped 174 = .ok (.goto (-49), 3) := zDec_at zB_dX12_helped_123 32 rfl
theorem dX12_helped_177 : decode cX12_helped 177 = .ok (.iload 5, 2) := zDec_at zB_dX12_helped_123 33 rfl
theorem dX12_helped_179 : decode cX12_helped 179 = .ok (.iload 8, 2) := zDec_at zB_dX12_helped_123 34 rfl
theorem dX12_helped_181 : decode cX12_helped 181 = .ok (.iload_n 3, 1) := zDec_at zB_dX12_helped_123 35 rfl
theorem dX12_helped_182 : decode cX12_helped 182 = .ok (.if_icmp .ne 7, 3) := zDec_at zB_dX12_helped_123 36 rfl
theorem dX12_helped_185 : decode cX12_helped 185 = .ok (.iconst 1, 1) := zDec_at zB_dX12_helped_123 37 rfl
theorem dX12_helped_186 : decode cX12_helped 186 = .ok (.goto 4, 3) := zDec_at zB_dX12_helped_123 38 rfl
theorem dX12_helped_189 : decode cX12_helped 189 = .ok (.iconst 0, 1) := zDec_at zB_dX12_helped_123 39 rfl
theorem zB_dX12_helped_190 : zDecB cX12_helped [(190, .iadd, 1), (191, .istore 5, 2), (193, .iload 6, 2), (195, .iload 8, 2), (197, .iload_n 3, 1), (198, .if_icmp .ne 14, 3), (201, .iload 9, 2), (203, .iload 4, 2), (205, .if_icmp .lt 7, 3), (208, .iconst 1, 1), (209, .goto 4, 3), (212, .iconst 0, 1), (213, .iadd, 1), (214, .istore 6, 2), (216, .iinc 7 1, 3), (219, .goto (-111), 3), (222, .iload_n 1, 1), (223, .ifCond .ne 8, 3), (226, .iload 6, 2), (228, .goto 5, 3), (231, .iload 5, 2), (233, .ireturn, 1)] = true := by decide +kernel
theorem dX12_helped_190 : decode cX12_helped 190 = .ok (.iadd, 1) := zDec_at zB_dX12_helped_190 0 rfl
theorem dX12_helped_191 : decode cX12_helped 191 = .ok (.istore 5, 2) := zDec_at zB_dX12_helped_190 1 rfl
theorem dX12_helped_193 : decode cX12_helped 193 = .ok (.iload 6, 2) := zDec_at zB_dX12_helped_190 2 rfl
theorem dX12_helped_195 : decode cX12_helped 195 = .ok (.iload 8, 2) := zDec_at zB_dX12_helped_190 3 rfl
theorem dX12_helped_197 : decode cX12_helped 197 = .ok (.iload_n 3, 1) := zDec_at zB_dX12_helped_190 4 rfl
theorem dX12_helped_198 : decode cX12_helped 198 = .ok (.if_icmp .ne 14, 3) := zDec_at zB_dX12_helped_190 5 rfl
theorem dX12_helped_201 : decode cX12_helped 201 = .ok (.iload 9, 2) := zDec_at zB_dX12_helped_190 6 rfl
theorem dX12_helped_203 : decode cX12_helped 203 = .ok (.iload 4, 2) := zDec_at zB_dX12_helped_190 7 rfl
theorem dX12_helped_205 : decode cX12_helped 205 = .ok (.if_icmp .lt 7, 3) := zDec_at zB_dX12_helped_190 8 rfl
theorem dX12_helped_208 : decode cX12_helped 208 = .ok (.iconst 1, 1) := zDec_at zB_dX12_helped_190 9 rfl
theorem dX12_helped_209 : decode cX12_helped 209 = .ok (.goto 4, 3) := zDec_at zB_dX12_helped_190 10 rfl
theorem dX12_helped_212 : decode cX12_helped 212 = .ok (.iconst 0, 1) := zDec_at zB_dX12_helped_190 11 rfl
theorem dX12_helped_213 : decode cX12_helped 213 = .ok (.iadd, 1) := zDec_at zB_dX12_helped_190 12 rfl
theorem dX12_helped_214 : decode cX12_helped 214 = .ok (.istore 6, 2) := zDec_at zB_dX12_helped_190 13 rfl
theorem dX12_helped_216 : decode cX12_helped 216 = .ok (.iinc 7 1, 3) := zDec_at zB_dX12_helped_190 14 rfl
theorem dX12_helped_219 : decode cX12_helped 219 = .ok (.goto (-111), 3) := zDec_at zB_dX12_helped_190 15 rfl
theorem dX12_helped_222 : decode cX12_helped 222 = .ok (.iload_n 1, 1) := zDec_at zB_dX12_helped_190 16 rfl
theorem dX12_helped_223 : decode cX12_helped 223 = .ok (.ifCond .ne 8, 3) := zDec_at zB_dX12_helped_190 17 rfl
theorem dX12_helped_226 : decode cX12_helped 226 = .ok (.iload 6, 2) := zDec_at zB_dX12_helped_190 18 rfl
theorem dX12_helped_228 : decode cX12_helped 228 = .ok (.goto 5, 3) := zDec_at zB_dX12_helped_190 19 rfl
theorem dX12_helped_231 : decode cX12_helped 231 = .ok (.iload 5, 2) := zDec_at zB_dX12_helped_190 20 rfl
theorem dX12_helped_233 : decode cX12_helped 233 = .ok (.ireturn, 1) := zDec_at zB_dX12_helped_190 21 rfl
theorem zB_dX12_image_0 : zDecB cX12_image [(0, .aload_n 0, 1), (1, .iconst 0, 1), (2, .putfield 92, 3), (5, .iload_n 1, 1), (6, .i2l, 1), (7, .lconst 0, 1), (8, .lconst 1, 1), (9, .invokestatic 100, 3), (12, .ifCond .ne 9, 3), (15, .aload_n 0, 1), (16, .iconst (-1), 1), (17, .invokevirtual 106, 3), (20, .ireturn, 1), (21, .iconst 0, 1), (22, .istore_n 2, 1), (23, .iload_n 2, 1), (24, .sipush 27101, 3), (27, .if_icmp .ge 27, 3), (30, .aload_n 0, 1), (31, .getfield 14, 3), (34, .sipush 27101, 3), (37, .iload_n 1, 1), (38, .imul, 1), (39, .iload_n 2, 1), (40, .iadd, 1), (41, .aload_n 0, 1), (42, .getfield 7, 3), (45, .iload_n 2, 1), (46, .iaload, 1), (47, .iastore, 1), (48, .iinc 2 1, 3), (51, .goto (-28), 3), (54, .aload_n 0, 1), (55, .getfield 17, 3), (58, .iload_n 1, 1), (59, .iconst 1, 1), (60, .bastore, 1), (61, .aload_n 0, 1), (62, .iconst 0, 1), (63, .invokevirtual 106, 3)] = true := by decide +kernel
theorem dX12_image_0 : decode cX12_image 0 = .ok (.aload_n 0, 1) := zDec_at zB_dX12_image_0 0 rfl
theorem dX12_image_1 : decode cX12_image 1 = .ok (.iconst 0, 1) := zDec_at zB_dX12_image_0 1 rfl
theorem dX12_image_2 : decode cX12_image 2 = .ok (.putfield 92, 3) := zDec_at zB_dX12_image_0 2 rfl
theorem dX12_image_5 : decode cX12_image 5 = .ok (.iload_n 1, 1) := zDec_at zB_dX12_image_0 3 rfl
theorem dX12_image_6 : decode cX12_image 6 = .ok (.i2l, 1) := zDec_at zB_dX12_image_0 4 rfl
theorem dX12_image_7 : decode cX12_image 7 = .ok (.lconst 0, 1) := zDec_at zB_dX12_image_0 5 rfl
theorem dX12_image_8 : decode cX12_image 8 = .ok (.lconst 1, 1) := zDec_at zB_dX12_image_0 6 rfl
theorem dX12_image_9 : decode cX12_image 9 = .ok (.invokestatic 100, 3) := zDec_at zB_dX12_image_0 7 rfl
theorem dX12_image_12 : decode cX12_image 12 = .ok (.ifCond .ne 9, 3) := zDec_at zB_dX12_image_0 8 rfl
theorem dX12_image_15 : decode cX12_image 15 = .ok (.aload_n 0, 1) := zDec_at zB_dX12_image_0 9 rfl
theorem dX12_image_16 : decode cX12_image 16 = .ok (.iconst (-1), 1) := zDec_at zB_dX12_image_0 10 rfl
theorem dX12_image_17 : decode cX12_image 17 = .ok (.invokevirtual 106, 3) := zDec_at zB_dX12_image_0 11 rfl
theorem dX12_image_20 : decode cX12_image 20 = .ok (.ireturn, 1) := zDec_at zB_dX12_image_0 12 rfl
theorem dX12_image_21 : decode cX12_image 21 = .ok (.iconst 0, 1) := zDec_at zB_dX12_image_0 13 rfl
theorem dX12_image_22 : decode cX12_image 22 = .ok (.istore_n 2, 1) := zDec_at zB_dX12_image_0 14 rfl
theorem dX12_image_23 : decode cX12_image 23 = .ok (.iload_n 2, 1) := zDec_at zB_dX12_image_0 15 rfl
theorem dX12_image_24 : decode cX12_image 24 = .ok (.sipush 27101, 3) := zDec_at zB_dX12_image_0 16 rfl
theorem dX12_image_27 : decode cX12_image 27 = .ok (.if_icmp .ge 27, 3) := zDec_at zB_dX12_image_0 17 rfl
theorem dX12_image_30 : decode cX12_image 30 = .ok (.aload_n 0, 1) := zDec_at zB_dX12_image_0 18 rfl
theorem dX12_image_31 : decode cX12_image 31 = .ok (.getfield 14, 3) := zDec_at zB_dX12_image_0 19 rfl
theorem dX12_image_34 : decode cX12_image 34 = .ok (.sipush 27101, 3) := zDec_at zB_dX12_image_0 20 rfl
theorem dX12_image_37 : decode cX12_image 37 = .ok (.iload_n 1, 1) := zDec_at zB_dX12_image_0 21 rfl
theorem dX12_image_38 : decode cX12_image 38 = .ok (.imul, 1) := zDec_at zB_dX12_image_0 22 rfl
theorem dX12_image_39 : decode cX12_image 39 = .ok (.iload_n 2, 1) := zDec_at zB_dX12_image_0 23 rfl
theorem dX12_image_40 : decode cX12_image 40 = .ok (.iadd, 1) := zDec_at zB_dX12_image_0 24 rfl
theorem dX12_image_41 : decode cX12_image 41 = .ok (.aload_n 0, 1) := zDec_at zB_dX12_image_0 25 rfl
theorem dX12_image_42 : decode cX12_image 42 = .ok (.getfield 7, 3) := zDec_at zB_dX12_image_0 26 rfl
theorem dX12_image_45 : decode cX12_image 45 = .ok (.iload_n 2, 1) := zDec_at zB_dX12_image_0 27 rfl
theorem dX12_image_46 : decode cX12_image 46 = .ok (.iaload, 1) := zDec_at zB_dX12_image_0 28 rfl
theorem dX12_image_47 : decode cX12_image 47 = .ok (.iastore, 1) := zDec_at zB_dX12_image_0 29 rfl
theorem dX12_image_48 : decode cX12_image 48 = .ok (.iinc 2 1, 3) := zDec_at zB_dX12_image_0 30 rfl
theorem dX12_image_51 : decode cX12_image 51 = .ok (.goto (-28), 3) := zDec_at zB_dX12_image_0 31 rfl
theorem dX12_image_54 : decode cX12_image 54 = .ok (.aload_n 0, 1) := zDec_at zB_dX12_image_0 32 rfl
theorem dX12_image_55 : decode cX12_image 55 = .ok (.getfield 17, 3) := zDec_at zB_dX12_image_0 33 rfl
theorem dX12_image_58 : decode cX12_image 58 = .ok (.iload_n 1, 1) := zDec_at zB_dX12_image_0 34 rfl
theorem dX12_image_59 : decode cX12_image 59 = .ok (.iconst 1, 1) := zDec_at zB_dX12_image_0 35 rfl
theorem dX12_image_60 : decode cX12_image 60 = .ok (.bastore, 1) := zDec_at zB_dX12_image_0 36 rfl
theorem dX12_image_61 : decode cX12_image 61 = .ok (.aload_n 0, 1) := zDec_at zB_dX12_image_0 37 rfl
theorem dX12_image_62 : decode cX12_image 62 = .ok (.iconst 0, 1) := zDec_at zB_dX12_image_0 38 rfl
theorem dX12_image_63 : decode cX12_image 63 = .ok (.invokevirtual 106, 3) := zDec_at zB_dX12_image_0 39 rfl
theorem dX12_image_66 : decode cX12_image 66 = .ok (.ireturn, 1) := by decide +kernel
theorem zB_dX12_in_0 : zDecB cX12_in [(0, .lload_n 0, 1), (1, .lload_n 2, 1), (2, .lcmp, 1), (3, .ifCond .lt 14, 3), (6, .lload_n 0, 1), (7, .lload 4, 2), (9, .lcmp, 1), (10, .ifCond .gt 7, 3), (13, .iconst 1, 1), (14, .goto 4, 3), (17, .iconst 0, 1), (18, .ireturn, 1)] = true := by decide +kernel
theorem dX12_in_0 : decode cX12_in 0 = .ok (.lload_n 0, 1) := zDec_at zB_dX12_in_0 0 rfl
theorem dX12_in_1 : decode cX12_in 1 = .ok (.lload_n 2, 1) := zDec_at zB_dX12_in_0 1 rfl
theorem dX12_in_2 : decode cX12_in 2 = .ok (.lcmp, 1) := zDec_at zB_dX12_in_0 2 rfl
theorem dX12_in_3 : decode cX12_in 3 = .ok (.ifCond .lt 14, 3) := zDec_at zB_dX12_in_0 3 rfl
theorem dX12_in_6 : decode cX12_in 6 = .ok (.lload_n 0, 1) := zDec_at zB_dX12_in_0 4 rfl
theorem dX12_in_7 : decode cX12_in 7 = .ok (.lload 4, 2) := zDec_at zB_dX12_in_0 5 rfl
theorem dX12_in_9 : decode cX12_in 9 = .ok (.lcmp, 1) := zDec_at zB_dX12_in_0 6 rfl
theorem dX12_in_10 : decode cX12_in 10 = .ok (.ifCond .gt 7, 3) := zDec_at zB_dX12_in_0 7 rfl
theorem dX12_in_13 : decode cX12_in 13 = .ok (.iconst 1, 1) := zDec_at zB_dX12_in_0 8 rfl
theorem dX12_in_14 : decode cX12_in 14 = .ok (.goto 4, 3) := zDec_at zB_dX12_in_0 9 rfl
theorem dX12_in_17 : decode cX12_in 17 = .ok (.iconst 0, 1) := zDec_at zB_dX12_in_0 10 rfl
theorem dX12_in_18 : decode cX12_in 18 = .ok (.ireturn, 1) := zDec_at zB_dX12_in_0 11 rfl
theorem zB_dX12_isChild_0 : zDecB cX12_isChild [(0, .iload_n 1, 1), (1, .i2l, 1), (2, .lconst 0, 1), (3, .aload_n 0, 1), (4, .getfield 7, 3), (7, .iconst 0, 1), (8, .iaload, 1), (9, .i2l, 1), (10, .lconst 1, 1), (11, .lsub, 1), (12, .invokestatic 100, 3), (15, .ireturn, 1)] = true := by decide +kernel
theorem dX12_isChild_0 : decode cX12_isChild 0 = .ok (.iload_n 1, 1) := zDec_at zB_dX12_isChild_0 0 rfl
theorem dX12_isChild_1 : decode cX12_isChild 1 = .ok (.i2l, 1) := zDec_at zB_dX12_isChild_0 1 rfl
theorem dX12_isChild_2 : decode cX12_isChild 2 = .ok (.lconst 0, 1) := zDec_at zB_dX12_isChild_0 2 rfl
theorem dX12_isChild_3 : decode cX12_isChild 3 = .ok (.aload_n 0, 1) := zDec_at zB_dX12_isChild_0 3 rfl
theorem dX12_isChild_4 : decode cX12_isChild 4 = .ok (.getfield 7, 3) := zDec_at zB_dX12_isChild_0 4 rfl
theorem dX12_isChild_7 : decode cX12_isChild 7 = .ok (.iconst 0, 1) := zDec_at zB_dX12_isChild_0 5 rfl
theorem dX12_isChild_8 : decode cX12_isChild 8 = .ok (.iaload, 1) := zDec_at zB_dX12_isChild_0 6 rfl
theorem dX12_isChild_9 : decode cX12_isChild 9 = .ok (.i2l, 1) := zDec_at zB_dX12_isChild_0 7 rfl
theorem dX12_isChild_10 : decode cX12_isChild 10 = .ok (.lconst 1, 1) := zDec_at zB_dX12_isChild_0 8 rfl
theorem dX12_isChild_11 : decode cX12_isChild 11 = .ok (.lsub, 1) := zDec_at zB_dX12_isChild_0 9 rfl
theorem dX12_isChild_12 : decode cX12_isChild 12 = .ok (.invokestatic 100, 3) := zDec_at zB_dX12_isChild_0 10 rfl
theorem dX12_isChild_15 : decode cX12_isChild 15 = .ok (.ireturn, 1) := zDec_at zB_dX12_isChild_0 11 rfl
theorem zB_dX12_isDay_0 : zDecB cX12_isDay [(0, .iload_n 0, 1), (1, .i2l, 1), (2, .lconst 0, 1), (3, .ldc2_w 98, 3), (6, .invokestatic 100, 3), (9, .ireturn, 1)] = true := by decide +kernel
theorem dX12_isDay_0 : decode cX12_isDay 0 = .ok (.iload_n 0, 1) := zDec_at zB_dX12_isDay_0 0 rfl
theorem dX12_isDay_1 : decode cX12_isDay 1 = .ok (.i2l, 1) := zDec_at zB_dX12_isDay_0 1 rfl
theorem dX12_isDay_2 : decode cX12_isDay 2 = .ok (.lconst 0, 1) := zDec_at zB_dX12_isDay_0 2 rfl
theorem dX12_isDay_3 : decode cX12_isDay 3 = .ok (.ldc2_w 98, 3) := zDec_at zB_dX12_isDay_0 3 rfl
theorem dX12_isDay_6 : decode cX12_isDay 6 = .ok (.invokestatic 100, 3) := zDec_at zB_dX12_isDay_0 4 rfl
theorem dX12_isDay_9 : decode cX12_isDay 9 = .ok (.ireturn, 1) := zDec_at zB_dX12_isDay_0 5 rfl
theorem zB_dX12_isHalf_0 : zDecB cX12_isHalf [(0, .iload_n 0, 1), (1, .i2l, 1), (2, .lconst 0, 1), (3, .ldc2_w 104, 3), (6, .invokestatic 100, 3), (9, .ireturn, 1)] = true := by decide +kernel
theorem dX12_isHalf_0 : decode cX12_isHalf 0 = .ok (.iload_n 0, 1) := zDec_at zB_dX12_isHalf_0 0 rfl
theorem dX12_isHalf_1 : decode cX12_isHalf 1 = .ok (.i2l, 1) := zDec_at zB_dX12_isHalf_0 1 rfl
theorem dX12_isHalf_2 : decode cX12_isHalf 2 = .ok (.lconst 0, 1) := zDec_at zB_dX12_isHalf_0 2 rfl
theorem dX12_isHalf_3 : decode cX12_isHalf 3 = .ok (.ldc2_w 104, 3) := zDec_at zB_dX12_isHalf_0 3 rfl
theorem dX12_isHalf_6 : decode cX12_isHalf 6 = .ok (.invokestatic 100, 3) := zDec_at zB_dX12_isHalf_0 4 rfl
theorem dX12_isHalf_9 : decode cX12_isHalf 9 = .ok (.ireturn, 1) := zDec_at zB_dX12_isHalf_0 5 rfl
theorem zB_dX12_isJoin_0 : zDecB cX12_isJoin [(0, .aload_n 0, 1), (1, .iconst 0, 1), (2, .putfield 498, 3), (5, .aload_n 0, 1), (6, .iconst 0, 1), (7, .putfield 501, 3), (10, .iconst 0, 1), (11, .istore_n 2, 1), (12, .iconst 0, 1), (13, .istore_n 3, 1), (14, .iload_n 3, 1), (15, .aload_n 0, 1), (16, .getfield 7, 3), (19, .bipush 6, 2), (21, .iaload, 1), (22, .if_icmp .ge 90, 3), (25, .aload_n 0, 1), (26, .getfield 77, 3), (29, .iload_n 3, 1), (30, .iaload, 1), (31, .istore 4, 2), (33, .iload 4, 2), (35, .iconst (-1), 1), (36, .if_icmp .eq 70, 3), (39, .iload 4, 2), (41, .aload_n 0, 1), (42, .getfield 7, 3), (45, .iconst 5, 1), (46, .iaload, 1), (47, .if_icmp .ge 24, 3), (50, .iload_n 2, 1), (51, .iload 4, 2), (53, .ishr, 1), (54, .iconst 1, 1), (55, .iand, 1), (56, .iconst 1, 1), (57, .if_icmp .eq 14, 3), (60, .aload_n 0, 1), (61, .iload_n 3, 1), (62, .iload 4, 2)] = true := by decide +kernel
theorem dX12_isJoin_0 : decode cX12_isJoin 0 = .ok (.aload_n 0, 1) := zDec_at zB_dX12_isJoin_0 0 rfl
theorem dX12_isJoin_1 : decode cX12_isJoin 1 = .ok (.iconst 0, 1) := zDec_at zB_dX12_isJoin_0 1 rfl
theorem dX12_isJoin_2 : decode cX12_isJoin 2 = .ok (.putfield 498, 3) := zDec_at zB_dX12_isJoin_0 2 rfl
theorem dX12_isJoin_5 : decode cX12_isJoin 5 = .ok (.aload_n 0, 1) := zDec_at zB_dX12_isJoin_0 3 rfl
theorem dX12_isJoin_6 : decode cX12_isJoin 6 = .ok (.iconst 0, 1) := zDec_at zB_dX12_isJoin_0 4 rfl
theorem dX12_isJoin_7 : decode cX12_isJoin 7 = .ok (.putfield 501, 3) := zDec_at zB_dX12_isJoin_0 5 rfl
theorem dX12_isJoin_10 : decode cX12_isJoin 10 = .ok (.iconst 0, 1) := zDec_at zB_dX12_isJoin_0 6 rfl
theorem dX12_isJoin_11 : decode cX12_isJoin 11 = .ok (.istore_n 2, 1) := zDec_at zB_dX12_isJoin_0 7 rfl
theorem dX12_isJoin_12 : decode cX12_isJoin 12 = .ok (.iconst 0, 1) := zDec_at zB_dX12_isJoin_0 8 rfl
theorem dX12_isJoin_13 : decode cX12_isJoin 13 = .ok (.istore_n 3, 1) := zDec_at zB_dX12_isJoin_0 9 rfl
theorem dX12_isJoin_14 : decode cX12_isJoin 14 = .ok (.iload_n 3, 1) := zDec_at zB_dX12_isJoin_0 10 rfl
theorem dX12_isJoin_15 : decode cX12_isJoin 15 = .ok (.aload_n 0, 1) := zDec_at zB_dX12_isJoin_0 11 rfl
theorem dX12_isJoin_16 : decode cX12_isJoin 16 = .ok (.getfield 7, 3) := zDec_at zB_dX12_isJoin_0 12 rfl
theorem dX12_isJoin_19 : decode cX12_isJoin 19 = .ok (.bipush 6, 2) := zDec_at zB_dX12_isJoin_0 13 rfl
theorem dX12_isJoin_21 : decode cX12_isJoin 21 = .ok (.iaload, 1) := zDec_at zB_dX12_isJoin_0 14 rfl
theorem dX12_isJoin_22 : decode cX12_isJoin 22 = .ok (.if_icmp .ge 90, 3) := zDec_at zB_dX12_isJoin_0 15 rfl
theorem dX12_isJoin_25 : decode cX12_isJoin 25 = .ok (.aload_n 0, 1) := zDec_at zB_dX12_isJoin_0 16 rfl
theorem dX12_isJoin_26 : decode cX12_isJoin 26 = .ok (.getfield 77, 3) := zDec_at zB_dX12_isJoin_0 17 rfl
theorem dX12_isJoin_29 : decode cX12_isJoin 29 = .ok (.iload_n 3, 1) := zDec_at zB_dX12_isJoin_0 18 rfl
theorem dX12_isJoin_30 : decode cX12_isJoin 30 = .ok (.iaload, 1) := zDec_at zB_dX12_isJoin_0 19 rfl
theorem dX12_isJoin_31 : decode cX12_isJoin 31 = .ok (.istore 4, 2) := zDec_at zB_dX12_isJoin_0 20 rfl
theorem dX12_isJoin_33 : decode cX12_isJoin 33 = .ok (.iload 4, 2) := zDec_at zB_dX12_isJoin_0 21 rfl
theorem dX12_isJoin_35 : decode cX12_isJoin 35 = .ok (.iconst (-1), 1) := zDec_at zB_dX12_isJoin_0 22 rfl
theorem dX12_isJoin_36 : decode cX12_isJoin 36 = .ok (.if_icmp .eq 70, 3) := zDec_at zB_dX12_isJoin_0 23 rfl
theorem dX12_isJoin_39 : decode cX12_isJoin 39 = .ok (.iload 4, 2) := zDec_at zB_dX12_isJoin_0 24 rfl
theorem dX12_isJoin_41 : decode cX12_isJoin 41 = .ok (.aload_n 0, 1) := zDec_at zB_dX12_isJoin_0 25 rfl
theorem dX12_isJoin_42 : decode cX12_isJoin 42 = .ok (.getfield 7, 3) := zDec_at zB_dX12_isJoin_0 26 rfl
theorem dX12_isJoin_45 : decode cX12_isJoin 45 = .ok (.iconst 5, 1) := zDec_at zB_dX12_isJoin_0 27 rfl
theorem dX12_isJoin_46 : decode cX12_isJoin 46 = .ok (.iaload, 1) := zDec_at zB_dX12_isJoin_0 28 rfl
theorem dX12_isJoin_47 : decode cX12_isJoin 47 = .ok (.if_icmp .ge 24, 3) := zDec_at zB_dX12_isJoin_0 29 rfl
theorem dX12_isJoin_50 : decode cX12_isJoin 50 = .ok (.iload_n 2, 1) := zDec_at zB_dX12_isJoin_0 30 rfl
theorem dX12_isJoin_51 : decode cX12_isJoin 51 = .ok (.iload 4, 2) := zDec_at zB_dX12_isJoin_0 31 rfl
theorem dX12_isJoin_53 : decode cX12_isJoin 53 = .ok (.ishr, 1) := zDec_at zB_dX12_isJoin_0 32 rfl
theorem dX12_isJoin_54 : decode cX12_isJoin 54 = .ok (.iconst 1, 1) := zDec_at zB_dX12_isJoin_0 33 rfl
theorem dX12_isJoin_55 : decode cX12_isJoin 55 = .ok (.iand, 1) := zDec_at zB_dX12_isJoin_0 34 rfl
theorem dX12_isJoin_56 : decode cX12_isJoin 56 = .ok (.iconst 1, 1) := zDec_at zB_dX12_isJoin_0 35 rfl
theorem dX12_isJoin_57 : decode cX12_isJoin 57 = .ok (.if_icmp .eq 14, 3) := zDec_at zB_dX12_isJoin_0 36 rfl
theorem dX12_isJoin_60 : decode cX12_isJoin 60 = .ok (.aload_n 0, 1) := zDec_at zB_dX12_isJoin_0 37 rfl
theorem dX12_isJoin_61 : decode cX12_isJoin 61 = .ok (.iload_n 3, 1) := zDec_at zB_dX12_isJoin_0 38 rfl
theorem dX12_isJoin_62 : decode cX12_isJoin 62 = .ok (.iload 4, 2) := zDec_at zB_dX12_isJoin_0 39 rfl
theorem zB_dX12_isJoin_64 : zDecB cX12_isJoin [(64, .invokevirtual 504, 3), (67, .iload_n 1, 1), (68, .if_icmp .ge 5, 3), (71, .iconst 0, 1), (72, .ireturn, 1), (73, .iload_n 2, 1), (74, .iconst 1, 1), (75, .iload 4, 2), (77, .ishl, 1), (78, .ior, 1), (79, .istore_n 2, 1), (80, .aload_n 0, 1), (81, .dup, 1), (82, .getfield 498, 3), (85, .aload_n 0, 1), (86, .iload_n 3, 1), (87, .iload 4, 2), (89, .invokevirtual 504, 3), (92, .iadd, 1), (93, .putfield 498, 3), (96, .aload_n 0, 1), (97, .dup, 1), (98, .getfield 501, 3), (101, .iconst 1, 1), (102, .iadd, 1), (103, .putfield 501, 3), (106, .iinc 3 1, 3), (109, .goto (-95), 3), (112, .iconst 1, 1), (113, .ireturn, 1)] = true := by decide +kernel
theorem dX12_isJoin_64 : decode cX12_isJoin 64 = .ok (.invokevirtual 504, 3) := zDec_at zB_dX12_isJoin_64 0 rfl
theorem dX12_isJoin_67 : decode cX12_isJoin 67 = .ok (.iload_n 1, 1) := zDec_at zB_dX12_isJoin_64 1 rfl
theorem dX12_isJoin_68 : decode cX12_isJoin 68 = .ok (.if_icmp .ge 5, 3) := zDec_at zB_dX12_isJoin_64 2 rfl
theorem dX12_isJoin_71 : decode cX12_isJoin 71 = .ok (.iconst 0, 1) := zDec_at zB_dX12_isJoin_64 3 rfl
theorem dX12_isJoin_72 : decode cX12_isJoin 72 = .ok (.ireturn, 1) := zDec_at zB_dX12_isJoin_64 4 rfl
theorem dX12_isJoin_73 : decode cX12_isJoin 73 = .ok (.iload_n 2, 1) := zDec_at zB_dX12_isJoin_64 5 rfl
theorem dX12_isJoin_74 : decode cX12_isJoin 74 = .ok (.iconst 1, 1) := zDec_at zB_dX12_isJoin_64 6 rfl
theorem dX12_isJoin_75 : decode cX12_isJoin 75 = .ok (.iload 4, 2) := zDec_at zB_dX12_isJoin_64 7 rfl
theorem dX12_isJoin_77 : decode cX12_isJoin 77 = .ok (.ishl, 1) := zDec_at zB_dX12_isJoin_64 8 rfl
theorem dX12_isJoin_78 : decode cX12_isJoin 78 = .ok (.ior, 1) := zDec_at zB_dX12_isJoin_64 9 rfl
theorem dX12_isJoin_79 : decode cX12_isJoin 79 = .ok (.istore_n 2, 1) := zDec_at zB_dX12_isJoin_64 10 rfl
theorem dX12_isJoin_80 : decode cX12_isJoin 80 = .ok (.aload_n 0, 1) := zDec_at zB_dX12_isJoin_64 11 rfl
theorem dX12_isJoin_81 : decode cX12_isJoin 81 = .ok (.dup, 1) := zDec_at zB_dX12_isJoin_64 12 rfl
theorem dX12_isJoin_82 : decode cX12_isJoin 82 = .ok (.getfield 498, 3) := zDec_at zB_dX12_isJoin_64 13 rfl
theorem dX12_isJoin_85 : decode cX12_isJoin 85 = .ok (.aload_n 0, 1) := zDec_at zB_dX12_isJoin_64 14 rfl
theorem dX12_isJoin_86 : decode cX12_isJoin 86 = .ok (.iload_n 3, 1) := zDec_at zB_dX12_isJoin_64 15 rfl
theorem dX12_isJoin_87 : decode cX12_isJoin 87 = .ok (.iload 4, 2) := zDec_at zB_dX12_isJoin_64 16 rfl
theorem dX12_isJoin_89 : decode cX12_isJoin 89 = .ok (.invokevirtual 504, 3) := zDec_at zB_dX12_isJoin_64 17 rfl
theorem dX12_isJoin_92 : decode cX12_isJoin 92 = .ok (.iadd, 1) := zDec_at zB_dX12_isJoin_64 18 rfl
theorem dX12_isJoin_93 : decode cX12_isJoin 93 = .ok (.putfield 498, 3) := zDec_at zB_dX12_isJoin_64 19 rfl
theorem dX12_isJoin_96 : decode cX12_isJoin 96 = .ok (.aload_n 0, 1) := zDec_at zB_dX12_isJoin_64 20 rfl
theorem dX12_isJoin_97 : decode cX12_isJoin 97 = .ok (.dup, 1) := zDec_at zB_dX12_isJoin_64 21 rfl
theorem dX12_isJoin_98 : decode cX12_isJoin 98 = .ok (.getfield 501, 3) := zDec_at zB_dX12_isJoin_64 22 rfl
theorem dX12_isJoin_101 : decode cX12_isJoin 101 = .ok (.iconst 1, 1) := zDec_at zB_dX12_isJoin_64 23 rfl
theorem dX12_isJoin_102 : decode cX12_isJoin 102 = .ok (.iadd, 1) := zDec_at zB_dX12_isJoin_64 24 rfl
theorem dX12_isJoin_103 : decode cX12_isJoin 103 = .ok (.putfield 501, 3) := zDec_at zB_dX12_isJoin_64 25 rfl
theorem dX12_isJoin_106 : decode cX12_isJoin 106 = .ok (.iinc 3 1, 3) := zDec_at zB_dX12_isJoin_64 26 rfl
theorem dX12_isJoin_109 : decode cX12_isJoin 109 = .ok (.goto (-95), 3) := zDec_at zB_dX12_isJoin_64 27 rfl
theorem dX12_isJoin_112 : decode cX12_isJoin 112 = .ok (.iconst 1, 1) := zDec_at zB_dX12_isJoin_64 28 rfl
theorem dX12_isJoin_113 : decode cX12_isJoin 113 = .ok (.ireturn, 1) := zDec_at zB_dX12_isJoin_64 29 rfl
theorem zB_dX12_isLost_0 : zDecB cX12_isLost [(0, .iconst 0, 1), (1, .istore_n 3, 1), (2, .iconst 0, 1), (3, .istore 4, 2), (5, .iload 4, 2), (7, .aload_n 0, 1), (8, .getfield 7, 3), (11, .iconst 2, 1), (12, .iaload, 1), (13, .if_icmp .ge 141, 3), (16, .sipush 2700, 3), (19, .iconst 5, 1), (20, .iload 4, 2), (22, .imul, 1), (23, .iadd, 1), (24, .istore 5, 2), (26, .aload_n 0, 1), (27, .getfield 7, 3), (30, .iload 5, 2), (32, .iaload, 1), (33, .iload_n 1, 1), (34, .if_icmp .ne 114, 3), (37, .aload_n 0, 1), (38, .getfield 7, 3), (41, .iload 5, 2), (43, .iconst 3, 1), (44, .iadd, 1), (45, .iaload, 1), (46, .iconst (-1), 1), (47, .if_icmp .eq 101, 3), (50, .aload_n 0, 1), (51, .getfield 7, 3), (54, .iload 5, 2), (56, .iconst 3, 1), (57, .iadd, 1), (58, .iaload, 1), (59, .iload_n 2, 1), (60, .if_icmp .gt 88, 3), (63, .aload_n 0, 1), (64, .getfield 7, 3)] = true := by decide +kernel
theorem dX12_isLost_0 : decode cX12_isLost 0 = .ok (.iconst 0, 1) := zDec_at zB_dX12_isLost_0 0 rfl
theorem dX12_isLost_1 : decode cX12_isLost 1 = .ok (.istore_n 3, 1) := zDec_at zB_dX12_isLost_0 1 rfl
theorem dX12_isLost_2 : decode cX12_isLost 2 = .ok (.iconst 0, 1) := zDec_at zB_dX12_isLost_0 2 rfl
theorem dX12_isLost_3 : decode cX12_isLost 3 = .ok (.istore 4, 2) := zDec_at zB_dX12_isLost_0 3 rfl
theorem dX12_isLost_5 : decode cX12_isLost 5 = .ok (.iload 4, 2) := zDec_at zB_dX12_isLost_0 4 rfl
theorem dX12_isLost_7 : decode cX12_isLost 7 = .ok (.aload_n 0, 1) := zDec_at zB_dX12_isLost_0 5 rfl
theorem dX12_isLost_8 : decode cX12_isLost 8 = .ok (.getfield 7, 3) := zDec_at zB_dX12_isLost_0 6 rfl
theorem dX12_isLost_11 : decode cX12_isLost 11 = .ok (.iconst 2, 1) := zDec_at zB_dX12_isLost_0 7 rfl
theorem dX12_isLost_12 : decode cX12_isLost 12 = .ok (.iaload, 1) := zDec_at zB_dX12_isLost_0 8 rfl
theorem dX12_isLost_13 : decode cX12_isLost 13 = .ok (.if_icmp .ge 141, 3) := zDec_at zB_dX12_isLost_0 9 rfl
theorem dX12_isLost_16 : decode cX12_isLost 16 = .ok (.sipush 2700, 3) := zDec_at zB_dX12_isLost_0 10 rfl
theorem dX12_isLost_19 : decode cX12_isLost 19 = .ok (.iconst 5, 1) := zDec_at zB_dX12_isLost_0 11 rfl
theorem dX12_isLost_20 : decode cX12_isLost 20 = .ok (.iload 4, 2) := zDec_at zB_dX12_isLost_0 12 rfl
theorem dX12_isLost_22 : decode cX12_isLost 22 = .ok (.imul, 1) := zDec_at zB_dX12_isLost_0 13 rfl
theorem dX12_isLost_23 : decode cX12_isLost 23 = .ok (.iadd, 1) := zDec_at zB_dX12_isLost_0 14 rfl
theorem dX12_isLost_24 : decode cX12_isLost 24 = .ok (.istore 5, 2) := zDec_at zB_dX12_isLost_0 15 rfl
theorem dX12_isLost_26 : decode cX12_isLost 26 = .ok (.aload_n 0, 1) := zDec_at zB_dX12_isLost_0 16 rfl
theorem dX12_isLost_27 : decode cX12_isLost 27 = .ok (.getfield 7, 3) := zDec_at zB_dX12_isLost_0 17 rfl
theorem dX12_isLost_30 : decode cX12_isLost 30 = .ok (.iload 5, 2) := zDec_at zB_dX12_isLost_0 18 rfl
theorem dX12_isLost_32 : decode cX12_isLost 32 = .ok (.iaload, 1) := zDec_at zB_dX12_isLost_0 19 rfl
theorem dX12_isLost_33 : decode cX12_isLost 33 = .ok (.iload_n 1, 1) := zDec_at zB_dX12_isLost_0 20 rfl
theorem dX12_isLost_34 : decode cX12_isLost 34 = .ok (.if_icmp .ne 114, 3) := zDec_at zB_dX12_isLost_0 21 rfl
theorem dX12_isLost_37 : decode cX12_isLost 37 = .ok (.aload_n 0, 1) := zDec_at zB_dX12_isLost_0 22 rfl
theorem dX12_isLost_38 : decode cX12_isLost 38 = .ok (.getfield 7, 3) := zDec_at zB_dX12_isLost_0 23 rfl
theorem dX12_isLost_41 : decode cX12_isLost 41 = .ok (.iload 5, 2) := zDec_at zB_dX12_isLost_0 24 rfl
theorem dX12_isLost_43 : decode cX12_isLost 43 = .ok (.iconst 3, 1) := zDec_at zB_dX12_isLost_0 25 rfl
theorem dX12_isLost_44 : decode cX12_isLost 44 = .ok (.iadd, 1) := zDec_at zB_dX12_isLost_0 26 rfl
theorem dX12_isLost_45 : decode cX12_isLost 45 = .ok (.iaload, 1) := zDec_at zB_dX12_isLost_0 27 rfl
theorem dX12_isLost_46 : decode cX12_isLost 46 = .ok (.iconst (-1), 1) := zDec_at zB_dX12_isLost_0 28 rfl
theorem dX12_isLost_47 : decode cX12_isLost 47 = .ok (.if_icmp .eq 101, 3) := zDec_at zB_dX12_isLost_0 29 rfl
theorem dX12_isLost_50 : decode cX12_isLost 50 = .ok (.aload_n 0, 1) := zDec_at zB_dX12_isLost_0 30 rfl
theorem dX12_isLost_51 : decode cX12_isLost 51 = .ok (.getfield 7, 3) := zDec_at zB_dX12_isLost_0 31 rfl
theorem dX12_isLost_54 : decode cX12_isLost 54 = .ok (.iload 5, 2) := zDec_at zB_dX12_isLost_0 32 rfl
theorem dX12_isLost_56 : decode cX12_isLost 56 = .ok (.iconst 3, 1) := zDec_at zB_dX12_isLost_0 33 rfl
theorem dX12_isLost_57 : decode cX12_isLost 57 = .ok (.iadd, 1) := zDec_at zB_dX12_isLost_0 34 rfl
theorem dX12_isLost_58 : decode cX12_isLost 58 = .ok (.iaload, 1) := zDec_at zB_dX12_isLost_0 35 rfl
theorem dX12_isLost_59 : decode cX12_isLost 59 = .ok (.iload_n 2, 1) := zDec_at zB_dX12_isLost_0 36 rfl
theorem dX12_isLost_60 : decode cX12_isLost 60 = .ok (.if_icmp .gt 88, 3) := zDec_at zB_dX12_isLost_0 37 rfl
theorem dX12_isLost_63 : decode cX12_isLost 63 = .ok (.aload_n 0, 1) := zDec_at zB_dX12_isLost_0 38 rfl
theorem dX12_isLost_64 : decode cX12_isLost 64 = .ok (.getfield 7, 3) := zDec_at zB_dX12_isLost_0 39 rfl
theorem zB_dX12_isLost_67 : zDecB cX12_isLost [(67, .iload 5, 2), (69, .iconst 4, 1), (70, .iadd, 1), (71, .iaload, 1), (72, .iconst (-1), 1), (73, .if_icmp .eq 75, 3), (76, .iconst 0, 1), (77, .istore 6, 2), (79, .aload_n 0, 1), (80, .getfield 7, 3), (83, .iload 5, 2), (85, .iconst 3, 1), (86, .iadd, 1), (87, .iaload, 1), (88, .istore 7, 2), (90, .iload 7, 2), (92, .iload_n 2, 1), (93, .if_icmp .gt 40, 3), (96, .iload 6, 2), (98, .ifCond .ne 22, 3), (101, .aload_n 0, 1), (102, .iload_n 1, 1), (103, .aload_n 0, 1), (104, .getfield 7, 3), (107, .iload 5, 2), (109, .iconst 4, 1), (110, .iadd, 1), (111, .iaload, 1), (112, .iload 7, 2), (114, .invokevirtual 141, 3), (117, .ifCond .eq 7, 3), (120, .iconst 1, 1), (121, .goto 4, 3), (124, .iconst 0, 1), (125, .istore 6, 2), (127, .iinc 7 1, 3), (130, .goto (-40), 3), (133, .iload_n 3, 1), (134, .ifCond .ne 8, 3), (137, .iload 6, 2)] = true := by decide +kernel
theorem dX12_isLost_67 : decode cX12_isLost 67 = .ok (.iload 5, 2) := zDec_at zB_dX12_isLost_67 0 rfl
theorem dX12_isLost_69 : decode cX12_isLost 69 = .ok (.iconst 4, 1) := zDec_at zB_dX12_isLost_67 1 rfl
theorem dX12_isLost_70 : decode cX12_isLost 70 = .ok (.iadd, 1) := zDec_at zB_dX12_isLost_67 2 rfl
theorem dX12_isLost_71 : decode cX12_isLost 71 = .ok (.iaload, 1) := zDec_at zB_dX12_isLost_67 3 rfl
theorem dX12_isLost_72 : decode cX12_isLost 72 = .ok (.iconst (-1), 1) := zDec_at zB_dX12_isLost_67 4 rfl
theorem dX12_isLost_73 : decode cX12_isLost 73 = .ok (.if_icmp .eq 75, 3) := zDec_at zB_dX12_isLost_67 5 rfl
theorem dX12_isLost_76 : decode cX12_isLost 76 = .ok (.iconst 0, 1) := zDec_at zB_dX12_isLost_67 6 rfl
theorem dX12_isLost_77 : decode cX12_isLost 77 = .ok (.istore 6, 2) := zDec_at zB_dX12_isLost_67 7 rfl
theorem dX12_isLost_79 : decode cX12_isLost 79 = .ok (.aload_n 0, 1) := zDec_at zB_dX12_isLost_67 8 rfl
theorem dX12_isLost_80 : decode cX12_isLost 80 = .ok (.getfield 7, 3) := zDec_at zB_dX12_isLost_67 9 rfl
theorem dX12_isLost_83 : decode cX12_isLost 83 = .ok (.iload 5, 2) := zDec_at zB_dX12_isLost_67 10 rfl
theorem dX12_isLost_85 : decode cX12_isLost 85 = .ok (.iconst 3, 1) := zDec_at zB_dX12_isLost_67 11 rfl
theorem dX12_isLost_86 : decode cX12_isLost 86 = .ok (.iadd, 1) := zDec_at zB_dX12_isLost_67 12 rfl
theorem dX12_isLost_87 : decode cX12_isLost 87 = .ok (.iaload, 1) := zDec_at zB_dX12_isLost_67 13 rfl
theorem dX12_isLost_88 : decode cX12_isLost 88 = .ok (.istore 7, 2) := zDec_at zB_dX12_isLost_67 14 rfl
theorem dX12_isLost_90 : decode cX12_isLost 90 = .ok (.iload 7, 2) := zDec_at zB_dX12_isLost_67 15 rfl
theorem dX12_isLost_92 : decode cX12_isLost 92 = .ok (.iload_n 2, 1) := zDec_at zB_dX12_isLost_67 16 rfl
theorem dX12_isLost_93 : decode cX12_isLost 93 = .ok (.if_icmp .gt 40, 3) := zDec_at zB_dX12_isLost_67 17 rfl
theorem dX12_isLost_96 : decode cX12_isLost 96 = .ok (.iload 6, 2) := zDec_at zB_dX12_isLost_67 18 rfl
theorem dX12_isLost_98 : decode cX12_isLost 98 = .ok (.ifCond .ne 22, 3) := zDec_at zB_dX12_isLost_67 19 rfl
theorem dX12_isLost_101 : decode cX12_isLost 101 = .ok (.aload_n 0, 1) := zDec_at zB_dX12_isLost_67 20 rfl
theorem dX12_isLost_102 : decode cX12_isLost 102 = .ok (.iload_n 1, 1) := zDec_at zB_dX12_isLost_67 21 rfl
theorem dX12_isLost_103 : decode cX12_isLost 103 = .ok (.aload_n 0, 1) := zDec_at zB_dX12_isLost_67 22 rfl
theorem dX12_isLost_104 : decode cX12_isLost 104 = .ok (.getfield 7, 3) := zDec_at zB_dX12_isLost_67 23 rfl
theorem dX12_isLost_107 : decode cX12_isLost 107 = .ok (.iload 5, 2) := zDec_at zB_dX12_isLost_67 24 rfl
theorem dX12_isLost_109 : decode cX12_isLost 109 = .ok (.iconst 4, 1) := zDec_at zB_dX12_isLost_67 25 rfl
theorem dX12_isLost_110 : decode cX12_isLost 110 = .ok (.iadd, 1) := zDec_at zB_dX12_isLost_67 26 rfl
theorem dX12_isLost_111 : decode cX12_isLost 111 = .ok (.iaload, 1) := zDec_at zB_dX12_isLost_67 27 rfl
theorem dX12_isLost_112 : decode cX12_isLost 112 = .ok (.iload 7, 2) := zDec_at zB_dX12_isLost_67 28 rfl
theorem dX12_isLost_114 : decode cX12_isLost 114 = .ok (.invokevirtual 141, 3) := zDec_at zB_dX12_isLost_67 29 rfl
theorem dX12_isLost_117 : decode cX12_isLost 117 = .ok (.ifCond .eq 7, 3) := zDec_at zB_dX12_isLost_67 30 rfl
theorem dX12_isLost_120 : decode cX12_isLost 120 = .ok (.iconst 1, 1) := zDec_at zB_dX12_isLost_67 31 rfl
theorem dX12_isLost_121 : decode cX12_isLost 121 = .ok (.goto 4, 3) := zDec_at zB_dX12_isLost_67 32 rfl
theorem dX12_isLost_124 : decode cX12_isLost 124 = .ok (.iconst 0, 1) := zDec_at zB_dX12_isLost_67 33 rfl
theorem dX12_isLost_125 : decode cX12_isLost 125 = .ok (.istore 6, 2) := zDec_at zB_dX12_isLost_67 34 rfl
theorem dX12_isLost_127 : decode cX12_isLost 127 = .ok (.iinc 7 1, 3) := zDec_at zB_dX12_isLost_67 35 rfl
theorem dX12_isLost_130 : decode cX12_isLost 130 = .ok (.goto (-40), 3) := zDec_at zB_dX12_isLost_67 36 rfl
theorem dX12_isLost_133 : decode cX12_isLost 133 = .ok (.iload_n 3, 1) := zDec_at zB_dX12_isLost_67 37 rfl
theorem dX12_isLost_134 : decode cX12_isLost 134 = .ok (.ifCond .ne 8, 3) := zDec_at zB_dX12_isLost_67 38 rfl
theorem dX12_isLost_137 : decode cX12_isLost 137 = .ok (.iload 6, 2) := zDec_at zB_dX12_isLost_67 39 rfl
theorem zB_dX12_isLost_139 : zDecB cX12_isLost [(139, .ifCond .ne 7, 3), (142, .iconst 1, 1), (143, .goto 4, 3), (146, .iconst 0, 1), (147, .istore_n 3, 1), (148, .iinc 4 1, 3), (151, .goto (-146), 3), (154, .iload_n 3, 1), (155, .ireturn, 1)] = true := by decide +kernel
theorem dX12_isLost_139 : decode cX12_isLost 139 = .ok (.ifCond .ne 7, 3) := zDec_at zB_dX12_isLost_139 0 rfl
theorem dX12_isLost_142 : decode cX12_isLost 142 = .ok (.iconst 1, 1) := zDec_at zB_dX12_isLost_139 1 rfl
theorem dX12_isLost_143 : decode cX12_isLost 143 = .ok (.goto 4, 3) := zDec_at zB_dX12_isLost_139 2 rfl
theorem dX12_isLost_146 : decode cX12_isLost 146 = .ok (.iconst 0, 1) := zDec_at zB_dX12_isLost_139 3 rfl
theorem dX12_isLost_147 : decode cX12_isLost 147 = .ok (.istore_n 3, 1) := zDec_at zB_dX12_isLost_139 4 rfl
theorem dX12_isLost_148 : decode cX12_isLost 148 = .ok (.iinc 4 1, 3) := zDec_at zB_dX12_isLost_139 5 rfl
theorem dX12_isLost_151 : decode cX12_isLost 151 = .ok (.goto (-146), 3) := zDec_at zB_dX12_isLost_139 6 rfl
theorem dX12_isLost_154 : decode cX12_isLost 154 = .ok (.iload_n 3, 1) := zDec_at zB_dX12_isLost_139 7 rfl
theorem dX12_isLost_155 : decode cX12_isLost 155 = .ok (.ireturn, 1) := zDec_at zB_dX12_isLost_139 8 rfl
theorem zB_dX12_isMark_0 : zDecB cX12_isMark [(0, .iload_n 1, 1), (1, .i2l, 1), (2, .lconst 0, 1), (3, .aload_n 0, 1), (4, .getfield 7, 3), (7, .iconst 3, 1), (8, .iaload, 1), (9, .i2l, 1), (10, .lconst 1, 1), (11, .lsub, 1), (12, .invokestatic 100, 3), (15, .ireturn, 1)] = true := by decide +kernel
theorem dX12_isMark_0 : decode cX12_isMark 0 = .ok (.iload_n 1, 1) := zDec_at zB_dX12_isMark_0 0 rfl
theorem dX12_isMark_1 : decode cX12_isMark 1 = .ok (.i2l, 1) := zDec_at zB_dX12_isMark_0 1 rfl
theorem dX12_isMark_2 : decode cX12_isMark 2 = .ok (.lconst 0, 1) := zDec_at zB_dX12_isMark_0 2 rfl
theorem dX12_isMark_3 : decode cX12_isMark 3 = .ok (.aload_n 0, 1) := zDec_at zB_dX12_isMark_0 3 rfl
theorem dX12_isMark_4 : decode cX12_isMark 4 = .ok (.getfield 7, 3) := zDec_at zB_dX12_isMark_0 4 rfl
theorem dX12_isMark_7 : decode cX12_isMark 7 = .ok (.iconst 3, 1) := zDec_at zB_dX12_isMark_0 5 rfl
theorem dX12_isMark_8 : decode cX12_isMark 8 = .ok (.iaload, 1) := zDec_at zB_dX12_isMark_0 6 rfl
theorem dX12_isMark_9 : decode cX12_isMark 9 = .ok (.i2l, 1) := zDec_at zB_dX12_isMark_0 7 rfl
theorem dX12_isMark_10 : decode cX12_isMark 10 = .ok (.lconst 1, 1) := zDec_at zB_dX12_isMark_0 8 rfl
theorem dX12_isMark_11 : decode cX12_isMark 11 = .ok (.lsub, 1) := zDec_at zB_dX12_isMark_0 9 rfl
theorem dX12_isMark_12 : decode cX12_isMark 12 = .ok (.invokestatic 100, 3) := zDec_at zB_dX12_isMark_0 10 rfl
theorem dX12_isMark_15 : decode cX12_isMark 15 = .ok (.ireturn, 1) := zDec_at zB_dX12_isMark_0 11 rfl
theorem zB_dX12_isOn_0 : zDecB cX12_isOn [(0, .aload_n 0, 1), (1, .iconst 0, 1), (2, .putfield 92, 3), (5, .aload_n 0, 1), (6, .iload_n 1, 1), (7, .invokevirtual 138, 3), (10, .ifCond .eq 36, 3), (13, .aload_n 0, 1), (14, .iload_n 2, 1), (15, .invokevirtual 131, 3), (18, .ifCond .eq 28, 3), (21, .iload_n 3, 1), (22, .invokestatic 127, 3), (25, .ifCond .eq 21, 3), (28, .aload_n 0, 1), (29, .iload_n 1, 1), (30, .iload_n 2, 1), (31, .iload_n 3, 1), (32, .invokevirtual 141, 3), (35, .ifCond .eq 7, 3), (38, .iconst 1, 1), (39, .goto 8, 3), (42, .iconst 0, 1), (43, .goto 4, 3), (46, .iconst (-1), 1), (47, .ireturn, 1)] = true := by decide +kernel
theorem dX12_isOn_0 : decode cX12_isOn 0 = .ok (.aload_n 0, 1) := zDec_at zB_dX12_isOn_0 0 rfl
theorem dX12_isOn_1 : decode cX12_isOn 1 = .ok (.iconst 0, 1) := zDec_at zB_dX12_isOn_0 1 rfl
theorem dX12_isOn_2 : decode cX12_isOn 2 = .ok (.putfield 92, 3) := zDec_at zB_dX12_isOn_0 2 rfl
theorem dX12_isOn_5 : decode cX12_isOn 5 = .ok (.aload_n 0, 1) := zDec_at zB_dX12_isOn_0 3 rfl
theorem dX12_isOn_6 : decode cX12_isOn 6 = .ok (.iload_n 1, 1) := zDec_at zB_dX12_isOn_0 4 rfl
theorem dX12_isOn_7 : decode cX12_isOn 7 = .ok (.invokevirtual 138, 3) := zDec_at zB_dX12_isOn_0 5 rfl
theorem dX12_isOn_10 : decode cX12_isOn 10 = .ok (.ifCond .eq 36, 3) := zDec_at zB_dX12_isOn_0 6 rfl
theorem dX12_isOn_13 : decode cX12_isOn 13 = .ok (.aload_n 0, 1) := zDec_at zB_dX12_isOn_0 7 rfl
theorem dX12_isOn_14 : decode cX12_isOn 14 = .ok (.iload_n 2, 1) := zDec_at zB_dX12_isOn_0 8 rfl
theorem dX12_isOn_15 : decode cX12_isOn 15 = .ok (.invokevirtual 131, 3) := zDec_at zB_dX12_isOn_0 9 rfl
theorem dX12_isOn_18 : decode cX12_isOn 18 = .ok (.ifCond .eq 28, 3) := zDec_at zB_dX12_isOn_0 10 rfl
theorem dX12_isOn_21 : decode cX12_isOn 21 = .ok (.iload_n 3, 1) := zDec_at zB_dX12_isOn_0 11 rfl
theorem dX12_isOn_22 : decode cX12_isOn 22 = .ok (.invokestatic 127, 3) := zDec_at zB_dX12_isOn_0 12 rfl
theorem dX12_isOn_25 : decode cX12_isOn 25 = .ok (.ifCond .eq 21, 3) := zDec_at zB_dX12_isOn_0 13 rfl
theorem dX12_isOn_28 : decode cX12_isOn 28 = .ok (.aload_n 0, 1) := zDec_at zB_dX12_isOn_0 14 rfl
theorem dX12_isOn_29 : decode cX12_isOn 29 = .ok (.iload_n 1, 1) := zDec_at zB_dX12_isOn_0 15 rfl
theorem dX12_isOn_30 : decode cX12_isOn 30 = .ok (.iload_n 2, 1) := zDec_at zB_dX12_isOn_0 16 rfl
theorem dX12_isOn_31 : decode cX12_isOn 31 = .ok (.iload_n 3, 1) := zDec_at zB_dX12_isOn_0 17 rfl
theorem dX12_isOn_32 : decode cX12_isOn 32 = .ok (.invokevirtual 141, 3) := zDec_at zB_dX12_isOn_0 18 rfl
theorem dX12_isOn_35 : decode cX12_isOn 35 = .ok (.ifCond .eq 7, 3) := zDec_at zB_dX12_isOn_0 19 rfl
theorem dX12_isOn_38 : decode cX12_isOn 38 = .ok (.iconst 1, 1) := zDec_at zB_dX12_isOn_0 20 rfl
theorem dX12_isOn_39 : decode cX12_isOn 39 = .ok (.goto 8, 3) := zDec_at zB_dX12_isOn_0 21 rfl
theorem dX12_isOn_42 : decode cX12_isOn 42 = .ok (.iconst 0, 1) := zDec_at zB_dX12_isOn_0 22 rfl
theorem dX12_isOn_43 : decode cX12_isOn 43 = .ok (.goto 4, 3) := zDec_at zB_dX12_isOn_0 23 rfl
theorem dX12_isOn_46 : decode cX12_isOn 46 = .ok (.iconst (-1), 1) := zDec_at zB_dX12_isOn_0 24 rfl
theorem dX12_isOn_47 : decode cX12_isOn 47 = .ok (.ireturn, 1) := zDec_at zB_dX12_isOn_0 25 rfl
theorem zB_dX12_isOnRoll_0 : zDecB cX12_isOnRoll [(0, .sipush 2700, 3), (3, .iconst 5, 1), (4, .iload_n 1, 1), (5, .imul, 1), (6, .iadd, 1), (7, .istore_n 3, 1), (8, .aload_n 0, 1), (9, .getfield 7, 3), (12, .iload_n 3, 1), (13, .iconst 2, 1), (14, .iadd, 1), (15, .iaload, 1), (16, .iload_n 2, 1), (17, .if_icmp .gt 31, 3), (20, .aload_n 0, 1), (21, .getfield 7, 3), (24, .iload_n 3, 1), (25, .iconst 3, 1), (26, .iadd, 1), (27, .iaload, 1), (28, .iconst (-1), 1), (29, .if_icmp .eq 15, 3), (32, .iload_n 2, 1), (33, .aload_n 0, 1), (34, .getfield 7, 3), (37, .iload_n 3, 1), (38, .iconst 3, 1), (39, .iadd, 1), (40, .iaload, 1), (41, .if_icmp .ge 7, 3), (44, .iconst 1, 1), (45, .goto 4, 3), (48, .iconst 0, 1), (49, .ireturn, 1)] = true := by decide +kernel
theorem dX12_isOnRoll_0 : decode cX12_isOnRoll 0 = .ok (.sipush 2700, 3) := zDec_at zB_dX12_isOnRoll_0 0 rfl
theorem dX12_isOnRoll_3 : decode cX12_isOnRoll 3 = .ok (.iconst 5, 1) := zDec_at zB_dX12_isOnRoll_0 1 rfl
theorem dX12_isOnRoll_4 : decode cX12_isOnRoll 4 = .ok (.iload_n 1, 1) := zDec_at zB_dX12_isOnRoll_0 2 rfl
theorem dX12_isOnRoll_5 : decode cX12_isOnRoll 5 = .ok (.imul, 1) := zDec_at zB_dX12_isOnRoll_0 3 rfl
theorem dX12_isOnRoll_6 : decode cX12_isOnRoll 6 = .ok (.iadd, 1) := zDec_at zB_dX12_isOnRoll_0 4 rfl
theorem dX12_isOnRoll_7 : decode cX12_isOnRoll 7 = .ok (.istore_n 3, 1) := zDec_at zB_dX12_isOnRoll_0 5 rfl
theorem dX12_isOnRoll_8 : decode cX12_isOnRoll 8 = .ok (.aload_n 0, 1) := zDec_at zB_dX12_isOnRoll_0 6 rfl
theorem dX12_isOnRoll_9 : decode cX12_isOnRoll 9 = .ok (.getfield 7, 3) := zDec_at zB_dX12_isOnRoll_0 7 rfl
theorem dX12_isOnRoll_12 : decode cX12_isOnRoll 12 = .ok (.iload_n 3, 1) := zDec_at zB_dX12_isOnRoll_0 8 rfl
theorem dX12_isOnRoll_13 : decode cX12_isOnRoll 13 = .ok (.iconst 2, 1) := zDec_at zB_dX12_isOnRoll_0 9 rfl
theorem dX12_isOnRoll_14 : decode cX12_isOnRoll 14 = .ok (.iadd, 1) := zDec_at zB_dX12_isOnRoll_0 10 rfl
theorem dX12_isOnRoll_15 : decode cX12_isOnRoll 15 = .ok (.iaload, 1) := zDec_at zB_dX12_isOnRoll_0 11 rfl
theorem dX12_isOnRoll_16 : decode cX12_isOnRoll 16 = .ok (.iload_n 2, 1) := zDec_at zB_dX12_isOnRoll_0 12 rfl
theorem dX12_isOnRoll_17 : decode cX12_isOnRoll 17 = .ok (.if_icmp .gt 31, 3) := zDec_at zB_dX12_isOnRoll_0 13 rfl
theorem dX12_isOnRoll_20 : decode cX12_isOnRoll 20 = .ok (.aload_n 0, 1) := zDec_at zB_dX12_isOnRoll_0 14 rfl
theorem dX12_isOnRoll_21 : decode cX12_isOnRoll 21 = .ok (.getfield 7, 3) := zDec_at zB_dX12_isOnRoll_0 15 rfl
theorem dX12_isOnRoll_24 : decode cX12_isOnRoll 24 = .ok (.iload_n 3, 1) := zDec_at zB_dX12_isOnRoll_0 16 rfl
theorem dX12_isOnRoll_25 : decode cX12_isOnRoll 25 = .ok (.iconst 3, 1) := zDec_at zB_dX12_isOnRoll_0 17 rfl
theorem dX12_isOnRoll_26 : decode cX12_isOnRoll 26 = .ok (.iadd, 1) := zDec_at zB_dX12_isOnRoll_0 18 rfl
theorem dX12_isOnRoll_27 : decode cX12_isOnRoll 27 = .ok (.iaload, 1) := zDec_at zB_dX12_isOnRoll_0 19 rfl
theorem dX12_isOnRoll_28 : decode cX12_isOnRoll 28 = .ok (.iconst (-1), 1) := zDec_at zB_dX12_isOnRoll_0 20 rfl
theorem dX12_isOnRoll_29 : decode cX12_isOnRoll 29 = .ok (.if_icmp .eq 15, 3) := zDec_at zB_dX12_isOnRoll_0 21 rfl
theorem dX12_isOnRoll_32 : decode cX12_isOnRoll 32 = .ok (.iload_n 2, 1) := zDec_at zB_dX12_isOnRoll_0 22 rfl
theorem dX12_isOnRoll_33 : decode cX12_isOnRoll 33 = .ok (.aload_n 0, 1) := zDec_at zB_dX12_isOnRoll_0 23 rfl
theorem dX12_isOnRoll_34 : decode cX12_isOnRoll 34 = .ok (.getfield 7, 3) := zDec_at zB_dX12_isOnRoll_0 24 rfl
theorem dX12_isOnRoll_37 : decode cX12_isOnRoll 37 = .ok (.iload_n 3, 1) := zDec_at zB_dX12_isOnRoll_0 25 rfl
theorem dX12_isOnRoll_38 : decode cX12_isOnRoll 38 = .ok (.iconst 3, 1) := zDec_at zB_dX12_isOnRoll_0 26 rfl
theorem dX12_isOnRoll_39 : decode cX12_isOnRoll 39 = .ok (.iadd, 1) := zDec_at zB_dX12_isOnRoll_0 27 rfl
theorem dX12_isOnRoll_40 : decode cX12_isOnRoll 40 = .ok (.iaload, 1) := zDec_at zB_dX12_isOnRoll_0 28 rfl
theorem dX12_isOnRoll_41 : decode cX12_isOnRoll 41 = .ok (.if_icmp .ge 7, 3) := zDec_at zB_dX12_isOnRoll_0 29 rfl
theorem dX12_isOnRoll_44 : decode cX12_isOnRoll 44 = .ok (.iconst 1, 1) := zDec_at zB_dX12_isOnRoll_0 30 rfl
theorem dX12_isOnRoll_45 : decode cX12_isOnRoll 45 = .ok (.goto 4, 3) := zDec_at zB_dX12_isOnRoll_0 31 rfl
theorem dX12_isOnRoll_48 : decode cX12_isOnRoll 48 = .ok (.iconst 0, 1) := zDec_at zB_dX12_isOnRoll_0 32 rfl
theorem dX12_isOnRoll_49 : decode cX12_isOnRoll 49 = .ok (.ireturn, 1) := zDec_at zB_dX12_isOnRoll_0 33 rfl
theorem zB_dX12_isOnSchool_0 : zDecB cX12_isOnSchool [(0, .iconst 0, 1), (1, .istore 4, 2), (3, .iconst 0, 1), (4, .istore 5, 2), (6, .iload 5, 2), (8, .aload_n 0, 1), (9, .getfield 7, 3), (12, .iconst 2, 1), (13, .iaload, 1), (14, .if_icmp .ge 65, 3), (17, .sipush 2700, 3), (20, .iconst 5, 1), (21, .iload 5, 2), (23, .imul, 1), (24, .iadd, 1), (25, .istore 6, 2), (27, .iload 4, 2), (29, .ifCond .ne 37, 3), (32, .aload_n 0, 1), (33, .getfield 7, 3), (36, .iload 6, 2), (38, .iaload, 1), (39, .iload_n 1, 1), (40, .if_icmp .ne 30, 3), (43, .aload_n 0, 1), (44, .getfield 7, 3), (47, .iload 6, 2), (49, .iconst 1, 1), (50, .iadd, 1), (51, .iaload, 1), (52, .iload_n 2, 1), (53, .if_icmp .ne 17, 3), (56, .aload_n 0, 1), (57, .iload 5, 2), (59, .iload_n 3, 1), (60, .invokevirtual 134, 3), (63, .ifCond .eq 7, 3), (66, .iconst 1, 1), (67, .goto 4, 3), (70, .iconst 0, 1)] = true := by decide +kernel
theorem dX12_isOnSchool_0 : decode cX12_isOnSchool 0 = .ok (.iconst 0, 1) := zDec_at zB_dX12_isOnSchool_0 0 rfl
theorem dX12_isOnSchool_1 : decode cX12_isOnSchool 1 = .ok (.istore 4, 2) := zDec_at zB_dX12_isOnSchool_0 1 rfl
theorem dX12_isOnSchool_3 : decode cX12_isOnSchool 3 = .ok (.iconst 0, 1) := zDec_at zB_dX12_isOnSchool_0 2 rfl
theorem dX12_isOnSchool_4 : decode cX12_isOnSchool 4 = .ok (.istore 5, 2) := zDec_at zB_dX12_isOnSchool_0 3 rfl
theorem dX12_isOnSchool_6 : decode cX12_isOnSchool 6 = .ok (.iload 5, 2) := zDec_at zB_dX12_isOnSchool_0 4 rfl
theorem dX12_isOnSchool_8 : decode cX12_isOnSchool 8 = .ok (.aload_n 0, 1) := zDec_at zB_dX12_isOnSchool_0 5 rfl
theorem dX12_isOnSchool_9 : decode cX12_isOnSchool 9 = .ok (.getfield 7, 3) := zDec_at zB_dX12_isOnSchool_0 6 rfl
theorem dX12_isOnSchool_12 : decode cX12_isOnSchool 12 = .ok (.iconst 2, 1) := zDec_at zB_dX12_isOnSchool_0 7 rfl
theorem dX12_isOnSchool_13 : decode cX12_isOnSchool 13 = .ok (.iaload, 1) := zDec_at zB_dX12_isOnSchool_0 8 rfl
theorem dX12_isOnSchool_14 : decode cX12_isOnSchool 14 = .ok (.if_icmp .ge 65, 3) := zDec_at zB_dX12_isOnSchool_0 9 rfl
theorem dX12_isOnSchool_17 : decode cX12_isOnSchool 17 = .ok (.sipush 2700, 3) := zDec_at zB_dX12_isOnSchool_0 10 rfl
theorem dX12_isOnSchool_20 : decode cX12_isOnSchool 20 = .ok (.iconst 5, 1) := zDec_at zB_dX12_isOnSchool_0 11 rfl
theorem dX12_isOnSchool_21 : decode cX12_isOnSchool 21 = .ok (.iload 5, 2) := zDec_at zB_dX12_isOnSchool_0 12 rfl
theorem dX12_isOnSchool_23 : decode cX12_isOnSchool 23 = .ok (.imul, 1) := zDec_at zB_dX12_isOnSchool_0 13 rfl
theorem dX12_isOnSchool_24 : decode cX12_isOnSchool 24 = .ok (.iadd, 1) := zDec_at zB_dX12_isOnSchool_0 14 rfl
theorem dX12_isOnSchool_25 : decode cX12_isOnSchool 25 = .ok (.istore 6, 2) := zDec_at zB_dX12_isOnSchool_0 15 rfl
theorem dX12_isOnSchool_27 : decode cX12_isOnSchool 27 = .ok (.iload 4, 2) := zDec_at zB_dX12_isOnSchool_0 16 rfl
theorem dX12_isOnSchool_29 : decode cX12_isOnSchool 29 = .ok (.ifCond .ne 37, 3) := zDec_at zB_dX12_isOnSchool_0 17 rfl
theorem dX12_isOnSchool_32 : decode cX12_isOnSchool 32 = .ok (.aload_n 0, 1) := zDec_at zB_dX12_isOnSchool_0 18 rfl
theorem dX12_isOnSchool_33 : decode cX12_isOnSchool 33 = .ok (.getfield 7, 3) := zDec_at zB_dX12_isOnSchool_0 19 rfl
theorem dX12_isOnSchool_36 : decode cX12_isOnSchool 36 = .ok (.iload 6, 2) := zDec_at zB_dX12_isOnSchool_0 20 rfl
theorem dX12_isOnSchool_38 : decode cX12_isOnSchool 38 = .ok (.iaload, 1) := zDec_at zB_dX12_isOnSchool_0 21 rfl
theorem dX12_isOnSchool_39 : decode cX12_isOnSchool 39 = .ok (.iload_n 1, 1) := zDec_at zB_dX12_isOnSchool_0 22 rfl
theorem dX12_isOnSchool_40 : decode cX12_isOnSchool 40 = .ok (.if_icmp .ne 30, 3) := zDec_at zB_dX12_isOnSchool_0 23 rfl
theorem dX12_isOnSchool_43 : decode cX12_isOnSchool 43 = .ok (.aload_n 0, 1) := zDec_at zB_dX12_isOnSchool_0 24 rfl
theorem dX12_isOnSchool_44 : decode cX12_isOnSchool 44 = .ok (.getfield 7, 3) := zDec_at zB_dX12_isOnSchool_0 25 rfl
theorem dX12_isOnSchool_47 : decode cX12_isOnSchool 47 = .ok (.iload 6, 2) := zDec_at zB_dX12_isOnSchool_0 26 rfl
theorem dX12_isOnSchool_49 : decode cX12_isOnSchool 49 = .ok (.iconst 1, 1) := zDec_at zB_dX12_isOnSchool_0 27 rfl
theorem dX12_isOnSchool_50 : decode cX12_isOnSchool 50 = .ok (.iadd, 1) := zDec_at zB_dX12_isOnSchool_0 28 rfl
theorem dX12_isOnSchool_51 : decode cX12_isOnSchool 51 = .ok (.iaload, 1) := zDec_at zB_dX12_isOnSchool_0 29 rfl
theorem dX12_isOnSchool_52 : decode cX12_isOnSchool 52 = .ok (.iload_n 2, 1) := zDec_at zB_dX12_isOnSchool_0 30 rfl
theorem dX12_isOnSchool_53 : decode cX12_isOnSchool 53 = .ok (.if_icmp .ne 17, 3) := zDec_at zB_dX12_isOnSchool_0 31 rfl
theorem dX12_isOnSchool_56 : decode cX12_isOnSchool 56 = .ok (.aload_n 0, 1) := zDec_at zB_dX12_isOnSchool_0 32 rfl
theorem dX12_isOnSchool_57 : decode cX12_isOnSchool 57 = .ok (.iload 5, 2) := zDec_at zB_dX12_isOnSchool_0 33 rfl
theorem dX12_isOnSchool_59 : decode cX12_isOnSchool 59 = .ok (.iload_n 3, 1) := zDec_at zB_dX12_isOnSchool_0 34 rfl
theorem dX12_isOnSchool_60 : decode cX12_isOnSchool 60 = .ok (.invokevirtual 134, 3) := zDec_at zB_dX12_isOnSchool_0 35 rfl
theorem dX12_isOnSchool_63 : decode cX12_isOnSchool 63 = .ok (.ifCond .eq 7, 3) := zDec_at zB_dX12_isOnSchool_0 36 rfl
theorem dX12_isOnSchool_66 : decode cX12_isOnSchool 66 = .ok (.iconst 1, 1) := zDec_at zB_dX12_isOnSchool_0 37 rfl
theorem dX12_isOnSchool_67 : decode cX12_isOnSchool 67 = .ok (.goto 4, 3) := zDec_at zB_dX12_isOnSchool_0 38 rfl
theorem dX12_isOnSchool_70 : decode cX12_isOnSchool 70 = .ok (.iconst 0, 1) := zDec_at zB_dX12_isOnSchool_0 39 rfl
theorem zB_dX12_isOnSchool_71 : zDecB cX12_isOnSchool [(71, .istore 4, 2), (73, .iinc 5 1, 3), (76, .goto (-70), 3), (79, .iload 4, 2), (81, .ireturn, 1)] = true := by decide +kernel
theorem dX12_isOnSchool_71 : decode cX12_isOnSchool 71 = .ok (.istore 4, 2) := zDec_at zB_dX12_isOnSchool_71 0 rfl
theorem dX12_isOnSchool_73 : decode cX12_isOnSchool 73 = .ok (.iinc 5 1, 3) := zDec_at zB_dX12_isOnSchool_71 1 rfl
theorem dX12_isOnSchool_76 : decode cX12_isOnSchool 76 = .ok (.goto (-70), 3) := zDec_at zB_dX12_isOnSchool_71 2 rfl
theorem dX12_isOnSchool_79 : decode cX12_isOnSchool 79 = .ok (.iload 4, 2) := zDec_at zB_dX12_isOnSchool_71 3 rfl
theorem dX12_isOnSchool_81 : decode cX12_isOnSchool 81 = .ok (.ireturn, 1) := zDec_at zB_dX12_isOnSchool_71 4 rfl
theorem zB_dX12_isSchool_0 : zDecB cX12_isSchool [(0, .iload_n 1, 1), (1, .i2l, 1), (2, .lconst 0, 1), (3, .aload_n 0, 1), (4, .getfield 7, 3), (7, .iconst 1, 1), (8, .iaload, 1), (9, .i2l, 1), (10, .lconst 1, 1), (11, .lsub, 1), (12, .invokestatic 100, 3), (15, .ireturn, 1)] = true := by decide +kernel
theorem dX12_isSchool_0 : decode cX12_isSchool 0 = .ok (.iload_n 1, 1) := zDec_at zB_dX12_isSchool_0 0 rfl
theorem dX12_isSchool_1 : decode cX12_isSchool 1 = .ok (.i2l, 1) := zDec_at zB_dX12_isSchool_0 1 rfl
theorem dX12_isSchool_2 : decode cX12_isSchool 2 = .ok (.lconst 0, 1) := zDec_at zB_dX12_isSchool_0 2 rfl
theorem dX12_isSchool_3 : decode cX12_isSchool 3 = .ok (.aload_n 0, 1) := zDec_at zB_dX12_isSchool_0 3 rfl
theorem dX12_isSchool_4 : decode cX12_isSchool 4 = .ok (.getfield 7, 3) := zDec_at zB_dX12_isSchool_0 4 rfl
theorem dX12_isSchool_7 : decode cX12_isSchool 7 = .ok (.iconst 1, 1) := zDec_at zB_dX12_isSchool_0 5 rfl
theorem dX12_isSchool_8 : decode cX12_isSchool 8 = .ok (.iaload, 1) := zDec_at zB_dX12_isSchool_0 6 rfl
theorem dX12_isSchool_9 : decode cX12_isSchool 9 = .ok (.i2l, 1) := zDec_at zB_dX12_isSchool_0 7 rfl
theorem dX12_isSchool_10 : decode cX12_isSchool 10 = .ok (.lconst 1, 1) := zDec_at zB_dX12_isSchool_0 8 rfl
theorem dX12_isSchool_11 : decode cX12_isSchool 11 = .ok (.lsub, 1) := zDec_at zB_dX12_isSchool_0 9 rfl
theorem dX12_isSchool_12 : decode cX12_isSchool 12 = .ok (.invokestatic 100, 3) := zDec_at zB_dX12_isSchool_0 10 rfl
theorem dX12_isSchool_15 : decode cX12_isSchool 15 = .ok (.ireturn, 1) := zDec_at zB_dX12_isSchool_0 11 rfl
theorem zB_dX12_isSo_0 : zDecB cX12_isSo [(0, .aload_n 0, 1), (1, .getfield 7, 3), (4, .iload_n 2, 1), (5, .iconst 5, 1), (6, .iadd, 1), (7, .iaload, 1), (8, .aload_n 0, 1), (9, .getfield 7, 3), (12, .iload_n 2, 1), (13, .bipush 6, 2), (15, .iadd, 1), (16, .iaload, 1), (17, .if_icmp .ge 43, 3), (20, .aload_n 0, 1), (21, .iload_n 1, 1), (22, .aload_n 0, 1), (23, .getfield 7, 3), (26, .iload_n 2, 1), (27, .iconst 5, 1), (28, .iadd, 1), (29, .iaload, 1), (30, .aload_n 0, 1), (31, .getfield 7, 3), (34, .iload_n 2, 1), (35, .bipush 6, 2), (37, .iadd, 1), (38, .iaload, 1), (39, .invokevirtual 436, 3), (42, .aload_n 0, 1), (43, .getfield 416, 3), (46, .ifCond .ne 12, 3), (49, .aload_n 0, 1), (50, .getfield 427, 3), (53, .lconst 0, 1), (54, .lcmp, 1), (55, .ifCond .ne 5, 3), (58, .iconst 0, 1), (59, .ireturn, 1), (60, .aload_n 0, 1), (61, .iload_n 1, 1)] = true := by decide +kernel
theorem dX12_isSo_0 : decode cX12_isSo 0 = .ok (.aload_n 0, 1) := zDec_at zB_dX12_isSo_0 0 rfl
theorem dX12_isSo_1 : decode cX12_isSo 1 = .ok (.getfield 7, 3) := zDec_at zB_dX12_isSo_0 1 rfl
theorem dX12_isSo_4 : decode cX12_isSo 4 = .ok (.iload_n 2, 1) := zDec_at zB_dX12_isSo_0 2 rfl
theorem dX12_isSo_5 : decode cX12_isSo 5 = .ok (.iconst 5, 1) := zDec_at zB_dX12_isSo_0 3 rfl
theorem dX12_isSo_6 : decode cX12_isSo 6 = .ok (.iadd, 1) := zDec_at zB_dX12_isSo_0 4 rfl
theorem dX12_isSo_7 : decode cX12_isSo 7 = .ok (.iaload, 1) := zDec_at zB_dX12_isSo_0 5 rfl
theorem dX12_isSo_8 : decode cX12_isSo 8 = .ok (.aload_n 0, 1) := zDec_at zB_dX12_isSo_0 6 rfl
theorem dX12_isSo_9 : decode cX12_isSo 9 = .ok (.getfield 7, 3) := zDec_at zB_dX12_isSo_0 7 rfl
theorem dX12_isSo_12 : decode cX12_isSo 12 = .ok (.iload_n 2, 1) := zDec_at zB_dX12_isSo_0 8 rfl
theorem dX12_isSo_13 : decode cX12_isSo 13 = .ok (.bipush 6, 2) := zDec_at zB_dX12_isSo_0 9 rfl
theorem dX12_isSo_15 : decode cX12_isSo 15 = .ok (.iadd, 1) := zDec_at zB_dX12_isSo_0 10 rfl
theorem dX12_isSo_16 : decode cX12_isSo 16 = .ok (.iaload, 1) := zDec_at zB_dX12_isSo_0 11 rfl
theorem dX12_isSo_17 : decode cX12_isSo 17 = .ok (.if_icmp .ge 43, 3) := zDec_at zB_dX12_isSo_0 12 rfl
theorem dX12_isSo_20 : decode cX12_isSo 20 = .ok (.aload_n 0, 1) := zDec_at zB_dX12_isSo_0 13 rfl
theorem dX12_isSo_21 : decode cX12_isSo 21 = .ok (.iload_n 1, 1) := zDec_at zB_dX12_isSo_0 14 rfl
theorem dX12_isSo_22 : decode cX12_isSo 22 = .ok (.aload_n 0, 1) := zDec_at zB_dX12_isSo_0 15 rfl
theorem dX12_isSo_23 : decode cX12_isSo 23 = .ok (.getfield 7, 3) := zDec_at zB_dX12_isSo_0 16 rfl
theorem dX12_isSo_26 : decode cX12_isSo 26 = .ok (.iload_n 2, 1) := zDec_at zB_dX12_isSo_0 17 rfl
theorem dX12_isSo_27 : decode cX12_isSo 27 = .ok (.iconst 5, 1) := zDec_at zB_dX12_isSo_0 18 rfl
theorem dX12_isSo_28 : decode cX12_isSo 28 = .ok (.iadd, 1) := zDec_at zB_dX12_isSo_0 19 rfl
theorem dX12_isSo_29 : decode cX12_isSo 29 = .ok (.iaload, 1) := zDec_at zB_dX12_isSo_0 20 rfl
theorem dX12_isSo_30 : decode cX12_isSo 30 = .ok (.aload_n 0, 1) := zDec_at zB_dX12_isSo_0 21 rfl
theorem dX12_isSo_31 : decode cX12_isSo 31 = .ok (.getfield 7, 3) := zDec_at zB_dX12_isSo_0 22 rfl
theorem dX12_isSo_34 : decode cX12_isSo 34 = .ok (.iload_n 2, 1) := zDec_at zB_dX12_isSo_0 23 rfl
theorem dX12_isSo_35 : decode cX12_isSo 35 = .ok (.bipush 6, 2) := zDec_at zB_dX12_isSo_0 24 rfl
theorem dX12_isSo_37 : decode cX12_isSo 37 = .ok (.iadd, 1) := zDec_at zB_dX12_isSo_0 25 rfl
theorem dX12_isSo_38 : decode cX12_isSo 38 = .ok (.iaload, 1) := zDec_at zB_dX12_isSo_0 26 rfl
theorem dX12_isSo_39 : decode cX12_isSo 39 = .ok (.invokevirtual 436, 3) := zDec_at zB_dX12_isSo_0 27 rfl
theorem dX12_isSo_42 : decode cX12_isSo 42 = .ok (.aload_n 0, 1) := zDec_at zB_dX12_isSo_0 28 rfl
theorem dX12_isSo_43 : decode cX12_isSo 43 = .ok (.getfield 416, 3) := zDec_at zB_dX12_isSo_0 29 rfl
theorem dX12_isSo_46 : decode cX12_isSo 46 = .ok (.ifCond .ne 12, 3) := zDec_at zB_dX12_isSo_0 30 rfl
theorem dX12_isSo_49 : decode cX12_isSo 49 = .ok (.aload_n 0, 1) := zDec_at zB_dX12_isSo_0 31 rfl
theorem dX12_isSo_50 : decode cX12_isSo 50 = .ok (.getfield 427, 3) := zDec_at zB_dX12_isSo_0 32 rfl
theorem dX12_isSo_53 : decode cX12_isSo 53 = .ok (.lconst 0, 1) := zDec_at zB_dX12_isSo_0 33 rfl
theorem dX12_isSo_54 : decode cX12_isSo 54 = .ok (.lcmp, 1) := zDec_at zB_dX12_isSo_0 34 rfl
theorem dX12_isSo_55 : decode cX12_isSo 55 = .ok (.ifCond .ne 5, 3) := zDec_at zB_dX12_isSo_0 35 rfl
theorem dX12_isSo_58 : decode cX12_isSo 58 = .ok (.iconst 0, 1) := zDec_at zB_dX12_isSo_0 36 rfl
theorem dX12_isSo_59 : decode cX12_isSo 59 = .ok (.ireturn, 1) := zDec_at zB_dX12_isSo_0 37 rfl
theorem dX12_isSo_60 : decode cX12_isSo 60 = .ok (.aload_n 0, 1) := zDec_at zB_dX12_isSo_0 38 rfl
theorem dX12_isSo_61 : decode cX12_isSo 61 = .ok (.iload_n 1, 1) := zDec_at zB_dX12_isSo_0 39 rfl
theorem zB_dX12_isSo_62 : zDecB cX12_isSo [(62, .aload_n 0, 1), (63, .getfield 7, 3), (66, .iload_n 2, 1), (67, .iconst 3, 1), (68, .iadd, 1), (69, .iaload, 1), (70, .aload_n 0, 1), (71, .getfield 7, 3), (74, .iload_n 2, 1), (75, .iconst 4, 1), (76, .iadd, 1), (77, .iaload, 1), (78, .invokevirtual 436, 3), (81, .aload_n 0, 1), (82, .aload_n 0, 1), (83, .getfield 427, 3), (86, .putfield 433, 3), (89, .aload_n 0, 1), (90, .getfield 416, 3), (93, .ifCond .ne 7, 3), (96, .iconst 1, 1), (97, .goto 4, 3), (100, .iconst 0, 1), (101, .ireturn, 1)] = true := by decide +kernel
theorem dX12_isSo_62 : decode cX12_isSo 62 = .ok (.aload_n 0, 1) := zDec_at zB_dX12_isSo_62 0 rfl
theorem dX12_isSo_63 : decode cX12_isSo 63 = .ok (.getfield 7, 3) := zDec_at zB_dX12_isSo_62 1 rfl
theorem dX12_isSo_66 : decode cX12_isSo 66 = .ok (.iload_n 2, 1) := zDec_at zB_dX12_isSo_62 2 rfl
theorem dX12_isSo_67 : decode cX12_isSo 67 = .ok (.iconst 3, 1) := zDec_at zB_dX12_isSo_62 3 rfl
theorem dX12_isSo_68 : decode cX12_isSo 68 = .ok (.iadd, 1) := zDec_at zB_dX12_isSo_62 4 rfl
theorem dX12_isSo_69 : decode cX12_isSo 69 = .ok (.iaload, 1) := zDec_at zB_dX12_isSo_62 5 rfl
theorem dX12_isSo_70 : decode cX12_isSo 70 = .ok (.aload_n 0, 1) := zDec_at zB_dX12_isSo_62 6 rfl
theorem dX12_isSo_71 : decode cX12_isSo 71 = .ok (.getfield 7, 3) := zDec_at zB_dX12_isSo_62 7 rfl
theorem dX12_isSo_74 : decode cX12_isSo 74 = .ok (.iload_n 2, 1) := zDec_at zB_dX12_isSo_62 8 rfl
theorem dX12_isSo_75 : decode cX12_isSo 75 = .ok (.iconst 4, 1) := zDec_at zB_dX12_isSo_62 9 rfl
theorem dX12_isSo_76 : decode cX12_isSo 76 = .ok (.iadd, 1) := zDec_at zB_dX12_isSo_62 10 rfl
theorem dX12_isSo_77 : decode cX12_isSo 77 = .ok (.iaload, 1) := zDec_at zB_dX12_isSo_62 11 rfl
theorem dX12_isSo_78 : decode cX12_isSo 78 = .ok (.invokevirtual 436, 3) := zDec_at zB_dX12_isSo_62 12 rfl
theorem dX12_isSo_81 : decode cX12_isSo 81 = .ok (.aload_n 0, 1) := zDec_at zB_dX12_isSo_62 13 rfl
theorem dX12_isSo_82 : decode cX12_isSo 82 = .ok (.aload_n 0, 1) := zDec_at zB_dX12_isSo_62 14 rfl
theorem dX12_isSo_83 : decode cX12_isSo 83 = .ok (.getfield 427, 3) := zDec_at zB_dX12_isSo_62 15 rfl
theorem dX12_isSo_86 : decode cX12_isSo 86 = .ok (.putfield 433, 3) := zDec_at zB_dX12_isSo_62 16 rfl
theorem dX12_isSo_89 : decode cX12_isSo 89 = .ok (.aload_n 0, 1) := zDec_at zB_dX12_isSo_62 17 rfl
theorem dX12_isSo_90 : decode cX12_isSo 90 = .ok (.getfield 416, 3) := zDec_at zB_dX12_isSo_62 18 rfl
theorem dX12_isSo_93 : decode cX12_isSo 93 = .ok (.ifCond .ne 7, 3) := zDec_at zB_dX12_isSo_62 19 rfl
theorem dX12_isSo_96 : decode cX12_isSo 96 = .ok (.iconst 1, 1) := zDec_at zB_dX12_isSo_62 20 rfl
theorem dX12_isSo_97 : decode cX12_isSo 97 = .ok (.goto 4, 3) := zDec_at zB_dX12_isSo_62 21 rfl
theorem dX12_isSo_100 : decode cX12_isSo 100 = .ok (.iconst 0, 1) := zDec_at zB_dX12_isSo_62 22 rfl
theorem dX12_isSo_101 : decode cX12_isSo 101 = .ok (.ireturn, 1) := zDec_at zB_dX12_isSo_62 23 rfl
theorem zB_dX12_isStep_0 : zDecB cX12_isStep [(0, .iload_n 0, 1), (1, .i2l, 1), (2, .lconst 0, 1), (3, .ldc2_w 110, 3), (6, .invokestatic 100, 3), (9, .ireturn, 1)] = true := by decide +kernel
theorem dX12_isStep_0 : decode cX12_isStep 0 = .ok (.iload_n 0, 1) := zDec_at zB_dX12_isStep_0 0 rfl
theorem dX12_isStep_1 : decode cX12_isStep 1 = .ok (.i2l, 1) := zDec_at zB_dX12_isStep_0 1 rfl
theorem dX12_isStep_2 : decode cX12_isStep 2 = .ok (.lconst 0, 1) := zDec_at zB_dX12_isStep_0 2 rfl
theorem dX12_isStep_3 : decode cX12_isStep 3 = .ok (.ldc2_w 110, 3) := zDec_at zB_dX12_isStep_0 3 rfl
theorem dX12_isStep_6 : decode cX12_isStep 6 = .ok (.invokestatic 100, 3) := zDec_at zB_dX12_isStep_0 4 rfl
theorem dX12_isStep_9 : decode cX12_isStep 9 = .ok (.ireturn, 1) := zDec_at zB_dX12_isStep_0 5 rfl
theorem zB_dX12_join_0 : zDecB cX12_join [(0, .aload_n 0, 1), (1, .iconst 0, 1), (2, .putfield 92, 3), (5, .iload_n 1, 1), (6, .i2l, 1), (7, .lconst 0, 1), (8, .ldc2_w 507, 3), (11, .invokestatic 100, 3), (14, .ifCond .ne 5, 3), (17, .iconst (-1), 1), (18, .ireturn, 1), (19, .aload_n 0, 1), (20, .getfield 7, 3), (23, .bipush 6, 2), (25, .iaload, 1), (26, .istore_n 2, 1), (27, .aload_n 0, 1), (28, .getfield 7, 3), (31, .iconst 5, 1), (32, .iaload, 1), (33, .iconst 1, 1), (34, .iadd, 1), (35, .istore_n 3, 1), (36, .iconst 1, 1), (37, .istore 4, 2), (39, .iconst 0, 1), (40, .istore 5, 2), (42, .iload 5, 2), (44, .iload_n 2, 1), (45, .if_icmp .ge 15, 3), (48, .iload 4, 2), (50, .iload_n 3, 1), (51, .imul, 1), (52, .istore 4, 2), (54, .iinc 5 1, 3), (57, .goto (-15), 3), (60, .iconst (-1), 1), (61, .istore 5, 2), (63, .iconst 0, 1), (64, .istore 6, 2)] = true := by decide +kernel
theorem dX12_join_0 : decode cX12_join 0 = .ok (.aload_n 0, 1) := zDec_at zB_dX12_join_0 0 rfl
theorem dX12_join_1 : decode cX12_join 1 = .ok (.iconst 0, 1) := zDec_at zB_dX12_join_0 1 rfl
theorem dX12_join_2 : decode cX12_join 2 = .ok (.putfield 92, 3) := zDec_at zB_dX12_join_0 2 rfl
theorem dX12_join_5 : decode cX12_join 5 = .ok (.iload_n 1, 1) := zDec_at zB_dX12_join_0 3 rfl
theorem dX12_join_6 : decode cX12_join 6 = .ok (.i2l, 1) := zDec_at zB_dX12_join_0 4 rfl
theorem dX12_join_7 : decode cX12_join 7 = .ok (.lconst 0, 1) := zDec_at zB_dX12_join_0 5 rfl
theorem dX12_join_8 : decode cX12_join 8 = .ok (.ldc2_w 507, 3) := zDec_at zB_dX12_join_0 6 rfl
theorem dX12_join_11 : decode cX12_join 11 = .ok (.invokestatic 100, 3) := zDec_at zB_dX12_join_0 7 rfl
theorem dX12_join_14 : decode cX12_join 14 = .ok (.ifCond .ne 5, 3) := zDec_at zB_dX12_join_0 8 rfl
theorem dX12_join_17 : decode cX12_join 17 = .ok (.iconst (-1), 1) := zDec_at zB_dX12_join_0 9 rfl
theorem dX12_join_18 : decode cX12_join 18 = .ok (.ireturn, 1) := zDec_at zB_dX12_join_0 10 rfl
theorem dX12_join_19 : decode cX12_join 19 = .ok (.aload_n 0, 1) := zDec_at zB_dX12_join_0 11 rfl
theorem dX12_join_20 : decode cX12_join 20 = .ok (.getfield 7, 3) := zDec_at zB_dX12_join_0 12 rfl
theorem dX12_join_23 : decode cX12_join 23 = .ok (.bipush 6, 2) := zDec_at zB_dX12_join_0 13 rfl
theorem dX12_join_25 : decode cX12_join 25 = .ok (.iaload, 1) := zDec_at zB_dX12_join_0 14 rfl
theorem dX12_join_26 : decode cX12_join 26 = .ok (.istore_n 2, 1) := zDec_at zB_dX12_join_0 15 rfl
theorem dX12_join_27 : decode cX12_join 27 = .ok (.aload_n 0, 1) := zDec_at zB_dX12_join_0 16 rfl
theorem dX12_join_28 : decode cX12_join 28 = .ok (.getfield 7, 3) := zDec_at zB_dX12_join_0 17 rfl
theorem dX12_join_31 : decode cX12_join 31 = .ok (.iconst 5, 1) := zDec_at zB_dX12_join_0 18 rfl
theorem dX12_join_32 : decode cX12_join 32 = .ok (.iaload, 1) := zDec_at zB_dX12_join_0 19 rfl
theorem dX12_join_33 : decode cX12_join 33 = .ok (.iconst 1, 1) := zDec_at zB_dX12_join_0 20 rfl
theorem dX12_join_34 : decode cX12_join 34 = .ok (.iadd, 1) := zDec_at zB_dX12_join_0 21 rfl
theorem dX12_join_35 : decode cX12_join 35 = .ok (.istore_n 3, 1) := zDec_at zB_dX12_join_0 22 rfl
theorem dX12_join_36 : decode cX12_join 36 = .ok (.iconst 1, 1) := zDec_at zB_dX12_join_0 23 rfl
theorem dX12_join_37 : decode cX12_join 37 = .ok (.istore 4, 2) := zDec_at zB_dX12_join_0 24 rfl
theorem dX12_join_39 : decode cX12_join 39 = .ok (.iconst 0, 1) := zDec_at zB_dX12_join_0 25 rfl
theorem dX12_join_40 : decode cX12_join 40 = .ok (.istore 5, 2) := zDec_at zB_dX12_join_0 26 rfl
theorem dX12_join_42 : decode cX12_join 42 = .ok (.iload 5, 2) := zDec_at zB_dX12_join_0 27 rfl
theorem dX12_join_44 : decode cX12_join 44 = .ok (.iload_n 2, 1) := zDec_at zB_dX12_join_0 28 rfl
theorem dX12_join_45 : decode cX12_join 45 = .ok (.if_icmp .ge 15, 3) := zDec_at zB_dX12_join_0 29 rfl
theorem dX12_join_48 : decode cX12_join 48 = .ok (.iload 4, 2) := zDec_at zB_dX12_join_0 30 rfl
theorem dX12_join_50 : decode cX12_join 50 = .ok (.iload_n 3, 1) := zDec_at zB_dX12_join_0 31 rfl
theorem dX12_join_51 : decode cX12_join 51 = .ok (.imul, 1) := zDec_at zB_dX12_join_0 32 rfl
theorem dX12_join_52 : decode cX12_join 52 = .ok (.istore 4, 2) := zDec_at zB_dX12_join_0 33 rfl
theorem dX12_join_54 : decode cX12_join 54 = .ok (.iinc 5 1, 3) := zDec_at zB_dX12_join_0 34 rfl
theorem dX12_join_57 : decode cX12_join 57 = .ok (.goto (-15), 3) := zDec_at zB_dX12_join_0 35 rfl
theorem dX12_join_60 : decode cX12_join 60 = .ok (.iconst (-1), 1) := zDec_at zB_dX12_join_0 36 rfl
theorem dX12_join_61 : decode cX12_join 61 = .ok (.istore 5, 2) := zDec_at zB_dX12_join_0 37 rfl
theorem dX12_join_63 : decode cX12_join 63 = .ok (.iconst 0, 1) := zDec_at zB_dX12_join_0 38 rfl
theorem dX12_join_64 : decode cX12_join 64 = .ok (.istore 6, 2) := zDec_at zB_dX12_join_0 39 rfl
theorem zB_dX12_join_66 : zDecB cX12_join [(66, .iconst 0, 1), (67, .istore 7, 2), (69, .iload 7, 2), (71, .iload 4, 2), (73, .if_icmp .ge 173, 3), (76, .iload 7, 2), (78, .istore 8, 2), (80, .iload_n 2, 1), (81, .iconst 1, 1), (82, .isub, 1), (83, .istore 9, 2), (85, .iload 9, 2), (87, .ifCond .lt 40, 3), (90, .aload_n 0, 1), (91, .getfield 77, 3), (94, .iload 9, 2), (96, .iload 8, 2), (98, .iload_n 3, 1), (99, .irem, 1), (100, .iload_n 3, 1), (101, .iconst 1, 1), (102, .isub, 1), (103, .if_icmp .ne 7, 3), (106, .iconst (-1), 1), (107, .goto 7, 3), (110, .iload 8, 2), (112, .iload_n 3, 1), (113, .irem, 1), (114, .iastore, 1), (115, .iload 8, 2), (117, .iload_n 3, 1), (118, .idiv, 1), (119, .istore 8, 2), (121, .iinc 9 (-1), 3), (124, .goto (-39), 3), (127, .aload_n 0, 1), (128, .iload_n 1, 1), (129, .invokevirtual 509, 3), (132, .ifCond .eq 108, 3), (135, .aload_n 0, 1)] = true := by decide +kernel
theorem dX12_join_66 : decode cX12_join 66 = .ok (.iconst 0, 1) := zDec_at zB_dX12_join_66 0 rfl
theorem dX12_join_67 : decode cX12_join 67 = .ok (.istore 7, 2) := zDec_at zB_dX12_join_66 1 rfl
theorem dX12_join_69 : decode cX12_join 69 = .ok (.iload 7, 2) := zDec_at zB_dX12_join_66 2 rfl
theorem dX12_join_71 : decode cX12_join 71 = .ok (.iload 4, 2) := zDec_at zB_dX12_join_66 3 rfl
theorem dX12_join_73 : decode cX12_join 73 = .ok (.if_icmp .ge 173, 3) := zDec_at zB_dX12_join_66 4 rfl
theorem dX12_join_76 : decode cX12_join 76 = .ok (.iload 7, 2) := zDec_at zB_dX12_join_66 5 rfl
theorem dX12_join_78 : decode cX12_join 78 = .ok (.istore 8, 2) := zDec_at zB_dX12_join_66 6 rfl
theorem dX12_join_80 : decode cX12_join 80 = .ok (.iload_n 2, 1) := zDec_at zB_dX12_join_66 7 rfl
theorem dX12_join_81 : decode cX12_join 81 = .ok (.iconst 1, 1) := zDec_at zB_dX12_join_66 8 rfl
theorem dX12_join_82 : decode cX12_join 82 = .ok (.isub, 1) := zDec_at zB_dX12_join_66 9 rfl
theorem dX12_join_83 : decode cX12_join 83 = .ok (.istore 9, 2) := zDec_at zB_dX12_join_66 10 rfl
theorem dX12_join_85 : decode cX12_join 85 = .ok (.iload 9, 2) := zDec_at zB_dX12_join_66 11 rfl
theorem dX12_join_87 : decode cX12_join 87 = .ok (.ifCond .lt 40, 3) := zDec_at zB_dX12_join_66 12 rfl
theorem dX12_join_90 : decode cX12_join 90 = .ok (.aload_n 0, 1) := zDec_at zB_dX12_join_66 13 rfl
theorem dX12_join_91 : decode cX12_join 91 = .ok (.getfield 77, 3) := zDec_at zB_dX12_join_66 14 rfl
theorem dX12_join_94 : decode cX12_join 94 = .ok (.iload 9, 2) := zDec_at zB_dX12_join_66 15 rfl
theorem dX12_join_96 : decode cX12_join 96 = .ok (.iload 8, 2) := zDec_at zB_dX12_join_66 16 rfl
theorem dX12_join_98 : decode cX12_join 98 = .ok (.iload_n 3, 1) := zDec_at zB_dX12_join_66 17 rfl
theorem dX12_join_99 : decode cX12_join 99 = .ok (.irem, 1) := zDec_at zB_dX12_join_66 18 rfl
theorem dX12_join_100 : decode cX12_join 100 = .ok (.iload_n 3, 1) := zDec_at zB_dX12_join_66 19 rfl
theorem dX12_join_101 : decode cX12_join 101 = .ok (.iconst 1, 1) := zDec_at zB_dX12_join_66 20 rfl
theorem dX12_join_102 : decode cX12_join 102 = .ok (.isub, 1) := zDec_at zB_dX12_join_66 21 rfl
theorem dX12_join_103 : decode cX12_join 103 = .ok (.if_icmp .ne 7, 3) := zDec_at zB_dX12_join_66 22 rfl
theorem dX12_join_106 : decode cX12_join 106 = .ok (.iconst (-1), 1) := zDec_at zB_dX12_join_66 23 rfl
theorem dX12_join_107 : decode cX12_join 107 = .ok (.goto 7, 3) := zDec_at zB_dX12_join_66 24 rfl
theorem dX12_join_110 : decode cX12_join 110 = .ok (.iload 8, 2) := zDec_at zB_dX12_join_66 25 rfl
theorem dX12_join_112 : decode cX12_join 112 = .ok (.iload_n 3, 1) := zDec_at zB_dX12_join_66 26 rfl
theorem dX12_join_113 : decode cX12_join 113 = .ok (.irem, 1) := zDec_at zB_dX12_join_66 27 rfl
theorem dX12_join_114 : decode cX12_join 114 = .ok (.iastore, 1) := zDec_at zB_dX12_join_66 28 rfl
theorem dX12_join_115 : decode cX12_join 115 = .ok (.iload 8, 2) := zDec_at zB_dX12_join_66 29 rfl
theorem dX12_join_117 : decode cX12_join 117 = .ok (.iload_n 3, 1) := zDec_at zB_dX12_join_66 30 rfl
theorem dX12_join_118 : decode cX12_join 118 = .ok (.idiv, 1) := zDec_at zB_dX12_join_66 31 rfl
theorem dX12_join_119 : decode cX12_join 119 = .ok (.istore 8, 2) := zDec_at zB_dX12_join_66 32 rfl
theorem dX12_join_121 : decode cX12_join 121 = .ok (.iinc 9 (-1), 3) := zDec_at zB_dX12_join_66 33 rfl
theorem dX12_join_124 : decode cX12_join 124 = .ok (.goto (-39), 3) := zDec_at zB_dX12_join_66 34 rfl
theorem dX12_join_127 : decode cX12_join 127 = .ok (.aload_n 0, 1) := zDec_at zB_dX12_join_66 35 rfl
theorem dX12_join_128 : decode cX12_join 128 = .ok (.iload_n 1, 1) := zDec_at zB_dX12_join_66 36 rfl
theorem dX12_join_129 : decode cX12_join 129 = .ok (.invokevirtual 509, 3) := zDec_at zB_dX12_join_66 37 rfl
theorem dX12_join_132 : decode cX12_join 132 = .ok (.ifCond .eq 108, 3) := zDec_at zB_dX12_join_66 38 rfl
theorem dX12_join_135 : decode cX12_join 135 = .ok (.aload_n 0, 1) := zDec_at zB_dX12_join_66 39 rfl
theorem zB_dX12_join_136 : zDecB cX12_join [(136, .getfield 498, 3), (139, .iload 5, 2), (141, .if_icmp .gt 21, 3), (144, .aload_n 0, 1), (145, .getfield 498, 3), (148, .iload 5, 2), (150, .if_icmp .ne 58, 3), (153, .aload_n 0, 1), (154, .getfield 501, 3), (157, .iload 6, 2), (159, .if_icmp .le 49, 3), (162, .aload_n 0, 1), (163, .getfield 498, 3), (166, .istore 5, 2), (168, .aload_n 0, 1), (169, .getfield 501, 3), (172, .istore 6, 2), (174, .aload_n 0, 1), (175, .iconst 0, 1), (176, .putfield 512, 3), (179, .iconst 0, 1), (180, .istore 9, 2), (182, .iload 9, 2), (184, .iload_n 2, 1), (185, .if_icmp .ge 23, 3), (188, .aload_n 0, 1), (189, .getfield 74, 3), (192, .iload 9, 2), (194, .aload_n 0, 1), (195, .getfield 77, 3), (198, .iload 9, 2), (200, .iaload, 1), (201, .iastore, 1), (202, .iinc 9 1, 3), (205, .goto (-23), 3), (208, .aload_n 0, 1), (209, .dup, 1), (210, .getfield 512, 3), (213, .aload_n 0, 1), (214, .getfield 498, 3)] = true := by decide +kernel
theorem dX12_join_136 : decode cX12_join 136 = .ok (.getfield 498, 3) := zDec_at zB_dX12_join_136 0 rfl
theorem dX12_join_139 : decode cX12_join 139 = .ok (.iload 5, 2) := zDec_at zB_dX12_join_136 1 rfl
theorem dX12_join_141 : decode cX12_join 141 = .ok (.if_icmp .gt 21, 3) := zDec_at zB_dX12_join_136 2 rfl
theorem dX12_join_144 : decode cX12_join 144 = .ok (.aload_n 0, 1) := zDec_at zB_dX12_join_136 3 rfl
theorem dX12_join_145 : decode cX12_join 145 = .ok (.getfield 498, 3) := zDec_at zB_dX12_join_136 4 rfl
theorem dX12_join_148 : decode cX12_join 148 = .ok (.iload 5, 2) := zDec_at zB_dX12_join_136 5 rfl
theorem dX12_join_150 : decode cX12_join 150 = .ok (.if_icmp .ne 58, 3) := zDec_at zB_dX12_join_136 6 rfl
theorem dX12_join_153 : decode cX12_join 153 = .ok (.aload_n 0, 1) := zDec_at zB_dX12_join_136 7 rfl
theorem dX12_join_154 : decode cX12_join 154 = .ok (.getfield 501, 3) := zDec_at zB_dX12_join_136 8 rfl
theorem dX12_join_157 : decode cX12_join 157 = .ok (.iload 6, 2) := zDec_at zB_dX12_join_136 9 rfl
theorem dX12_join_159 : decode cX12_join 159 = .ok (.if_icmp .le 49, 3) := zDec_at zB_dX12_join_136 10 rfl
theorem dX12_join_162 : decode cX12_join 162 = .ok (.aload_n 0, 1) := zDec_at zB_dX12_join_136 11 rfl
theorem dX12_join_163 : decode cX12_join 163 = .ok (.getfield 498, 3) := zDec_at zB_dX12_join_136 12 rfl
theorem dX12_join_166 : decode cX12_join 166 = .ok (.istore 5, 2) := zDec_at zB_dX12_join_136 13 rfl
theorem dX12_join_168 : decode cX12_join 168 = .ok (.aload_n 0, 1) := zDec_at zB_dX12_join_136 14 rfl
theorem dX12_join_169 : decode cX12_join 169 = .ok (.getfield 501, 3) := zDec_at zB_dX12_join_136 15 rfl
theorem dX12_join_172 : decode cX12_join 172 = .ok (.istore 6, 2) := zDec_at zB_dX12_join_136 16 rfl
theorem dX12_join_174 : decode cX12_join 174 = .ok (.aload_n 0, 1) := zDec_at zB_dX12_join_136 17 rfl
theorem dX12_join_175 : decode cX12_join 175 = .ok (.iconst 0, 1) := zDec_at zB_dX12_join_136 18 rfl
theorem dX12_join_176 : decode cX12_join 176 = .ok (.putfield 512, 3) := zDec_at zB_dX12_join_136 19 rfl
theorem dX12_join_179 : decode cX12_join 179 = .ok (.iconst 0, 1) := zDec_at zB_dX12_join_136 20 rfl
theorem dX12_join_180 : decode cX12_join 180 = .ok (.istore 9, 2) := zDec_at zB_dX12_join_136 21 rfl
theorem dX12_join_182 : decode cX12_join 182 = .ok (.iload 9, 2) := zDec_at zB_dX12_join_136 22 rfl
theorem dX12_join_184 : decode cX12_join 184 = .ok (.iload_n 2, 1) := zDec_at zB_dX12_join_136 23 rfl
theorem dX12_join_185 : decode cX12_join 185 = .ok (.if_icmp .ge 23, 3) := zDec_at zB_dX12_join_136 24 rfl
theorem dX12_join_188 : decode cX12_join 188 = .ok (.aload_n 0, 1) := zDec_at zB_dX12_join_136 25 rfl
theorem dX12_join_189 : decode cX12_join 189 = .ok (.getfield 74, 3) := zDec_at zB_dX12_join_136 26 rfl
theorem dX12_join_192 : decode cX12_join 192 = .ok (.iload 9, 2) := zDec_at zB_dX12_join_136 27 rfl
theorem dX12_join_194 : decode cX12_join 194 = .ok (.aload_n 0, 1) := zDec_at zB_dX12_join_136 28 rfl
theorem dX12_join_195 : decode cX12_join 195 = .ok (.getfield 77, 3) := zDec_at zB_dX12_join_136 29 rfl
theorem dX12_join_198 : decode cX12_join 198 = .ok (.iload 9, 2) := zDec_at zB_dX12_join_136 30 rfl
theorem dX12_join_200 : decode cX12_join 200 = .ok (.iaload, 1) := zDec_at zB_dX12_join_136 31 rfl
theorem dX12_join_201 : decode cX12_join 201 = .ok (.iastore, 1) := zDec_at zB_dX12_join_136 32 rfl
theorem dX12_join_202 : decode cX12_join 202 = .ok (.iinc 9 1, 3) := zDec_at zB_dX12_join_136 33 rfl
theorem dX12_join_205 : decode cX12_join 205 = .ok (.goto (-23), 3) := zDec_at zB_dX12_join_136 34 rfl
theorem dX12_join_208 : decode cX12_join 208 = .ok (.aload_n 0, 1) := zDec_at zB_dX12_join_136 35 rfl
theorem dX12_join_209 : decode cX12_join 209 = .ok (.dup, 1) := zDec_at zB_dX12_join_136 36 rfl
theorem dX12_join_210 : decode cX12_join 210 = .ok (.getfield 512, 3) := zDec_at zB_dX12_join_136 37 rfl
theorem dX12_join_213 : decode cX12_join 213 = .ok (.aload_n 0, 1) := zDec_at zB_dX12_join_136 38 rfl
theorem dX12_join_214 : decode cX12_join 214 = .ok (.getfield 498, 3) := zDec_at zB_dX12_join_136 39 rfl
theorem zB_dX12_join_217 : zDecB cX12_join [(217, .iload 5, 2), (219, .if_icmp .ne 16, 3), (222, .aload_n 0, 1), (223, .getfield 501, 3), (226, .iload 6, 2), (228, .if_icmp .ne 7, 3), (231, .iconst 1, 1), (232, .goto 4, 3), (235, .iconst 0, 1), (236, .iadd, 1), (237, .putfield 512, 3), (240, .iinc 7 1, 3), (243, .goto (-174), 3), (246, .aload_n 0, 1), (247, .iconst 1, 1), (248, .putfield 515, 3), (251, .aload_n 0, 1), (252, .iload_n 2, 1), (253, .putfield 518, 3), (256, .iload 5, 2), (258, .ireturn, 1)] = true := by decide +kernel
theorem dX12_join_217 : decode cX12_join 217 = .ok (.iload 5, 2) := zDec_at zB_dX12_join_217 0 rfl
theorem dX12_join_219 : decode cX12_join 219 = .ok (.if_icmp .ne 16, 3) := zDec_at zB_dX12_join_217 1 rfl
theorem dX12_join_222 : decode cX12_join 222 = .ok (.aload_n 0, 1) := zDec_at zB_dX12_join_217 2 rfl
theorem dX12_join_223 : decode cX12_join 223 = .ok (.getfield 501, 3) := zDec_at zB_dX12_join_217 3 rfl
theorem dX12_join_226 : decode cX12_join 226 = .ok (.iload 6, 2) := zDec_at zB_dX12_join_217 4 rfl
theorem dX12_join_228 : decode cX12_join 228 = .ok (.if_icmp .ne 7, 3) := zDec_at zB_dX12_join_217 5 rfl
theorem dX12_join_231 : decode cX12_join 231 = .ok (.iconst 1, 1) := zDec_at zB_dX12_join_217 6 rfl
theorem dX12_join_232 : decode cX12_join 232 = .ok (.goto 4, 3) := zDec_at zB_dX12_join_217 7 rfl
theorem dX12_join_235 : decode cX12_join 235 = .ok (.iconst 0, 1) := zDec_at zB_dX12_join_217 8 rfl
theorem dX12_join_236 : decode cX12_join 236 = .ok (.iadd, 1) := zDec_at zB_dX12_join_217 9 rfl
theorem dX12_join_237 : decode cX12_join 237 = .ok (.putfield 512, 3) := zDec_at zB_dX12_join_217 10 rfl
theorem dX12_join_240 : decode cX12_join 240 = .ok (.iinc 7 1, 3) := zDec_at zB_dX12_join_217 11 rfl
theorem dX12_join_243 : decode cX12_join 243 = .ok (.goto (-174), 3) := zDec_at zB_dX12_join_217 12 rfl
theorem dX12_join_246 : decode cX12_join 246 = .ok (.aload_n 0, 1) := zDec_at zB_dX12_join_217 13 rfl
theorem dX12_join_247 : decode cX12_join 247 = .ok (.iconst 1, 1) := zDec_at zB_dX12_join_217 14 rfl
theorem dX12_join_248 : decode cX12_join 248 = .ok (.putfield 515, 3) := zDec_at zB_dX12_join_217 15 rfl
theorem dX12_join_251 : decode cX12_join 251 = .ok (.aload_n 0, 1) := zDec_at zB_dX12_join_217 16 rfl
theorem dX12_join_252 : decode cX12_join 252 = .ok (.iload_n 2, 1) := zDec_at zB_dX12_join_217 17 rfl
theorem dX12_join_253 : decode cX12_join 253 = .ok (.putfield 518, 3) := zDec_at zB_dX12_join_217 18 rfl
theorem dX12_join_256 : decode cX12_join 256 = .ok (.iload 5, 2) := zDec_at zB_dX12_join_217 19 rfl
theorem dX12_join_258 : decode cX12_join 258 = .ok (.ireturn, 1) := zDec_at zB_dX12_join_217 20 rfl
theorem zB_dX12_joined_0 : zDecB cX12_joined [(0, .aload_n 0, 1), (1, .iconst 0, 1), (2, .putfield 92, 3), (5, .aload_n 0, 1), (6, .getfield 515, 3), (9, .ifCond .ne 7, 3), (12, .iconst (-1), 1), (13, .goto 41, 3), (16, .iload_n 1, 1), (17, .iconst (-1), 1), (18, .if_icmp .ne 10, 3), (21, .aload_n 0, 1), (22, .getfield 512, 3), (25, .goto 29, 3), (28, .iload_n 1, 1), (29, .i2l, 1), (30, .lconst 0, 1), (31, .aload_n 0, 1), (32, .getfield 518, 3), (35, .i2l, 1), (36, .lconst 1, 1), (37, .lsub, 1), (38, .invokestatic 100, 3), (41, .ifCond .eq 12, 3), (44, .aload_n 0, 1), (45, .getfield 74, 3), (48, .iload_n 1, 1), (49, .iaload, 1), (50, .goto 4, 3), (53, .iconst (-1), 1), (54, .ireturn, 1)] = true := by decide +kernel
theorem dX12_joined_0 : decode cX12_joined 0 = .ok (.aload_n 0, 1) := zDec_at zB_dX12_joined_0 0 rfl
theorem dX12_joined_1 : decode cX12_joined 1 = .ok (.iconst 0, 1) := zDec_at zB_dX12_joined_0 1 rfl
theorem dX12_joined_2 : decode cX12_joined 2 = .ok (.putfield 92, 3) := zDec_at zB_dX12_joined_0 2 rfl
theorem dX12_joined_5 : decode cX12_joined 5 = .ok (.aload_n 0, 1) := zDec_at zB_dX12_joined_0 3 rfl
theorem dX12_joined_6 : decode cX12_joined 6 = .ok (.getfield 515, 3) := zDec_at zB_dX12_joined_0 4 rfl
theorem dX12_joined_9 : decode cX12_joined 9 = .ok (.ifCond .ne 7, 3) := zDec_at zB_dX12_joined_0 5 rfl
theorem dX12_joined_12 : decode cX12_joined 12 = .ok (.iconst (-1), 1) := zDec_at zB_dX12_joined_0 6 rfl
theorem dX12_joined_13 : decode cX12_joined 13 = .ok (.goto 41, 3) := zDec_at zB_dX12_joined_0 7 rfl
theorem dX12_joined_16 : decode cX12_joined 16 = .ok (.iload_n 1, 1) := zDec_at zB_dX12_joined_0 8 rfl
theorem dX12_joined_17 : decode cX12_joined 17 = .ok (.iconst (-1), 1) := zDec_at zB_dX12_joined_0 9 rfl
theorem dX12_joined_18 : decode cX12_joined 18 = .ok (.if_icmp .ne 10, 3) := zDec_at zB_dX12_joined_0 10 rfl
theorem dX12_joined_21 : decode cX12_joined 21 = .ok (.aload_n 0, 1) := zDec_at zB_dX12_joined_0 11 rfl
theorem dX12_joined_22 : decode cX12_joined 22 = .ok (.getfield 512, 3) := zDec_at zB_dX12_joined_0 12 rfl
theorem dX12_joined_25 : decode cX12_joined 25 = .ok (.goto 29, 3) := zDec_at zB_dX12_joined_0 13 rfl
theorem dX12_joined_28 : decode cX12_joined 28 = .ok (.iload_n 1, 1) := zDec_at zB_dX12_joined_0 14 rfl
theorem dX12_joined_29 : decode cX12_joined 29 = .ok (.i2l, 1) := zDec_at zB_dX12_joined_0 15 rfl
theorem dX12_joined_30 : decode cX12_joined 30 = .ok (.lconst 0, 1) := zDec_at zB_dX12_joined_0 16 rfl
theorem dX12_joined_31 : decode cX12_joined 31 = .ok (.aload_n 0, 1) := zDec_at zB_dX12_joined_0 17 rfl
theorem dX12_joined_32 : decode cX12_joined 32 = .ok (.getfield 518, 3) := zDec_at zB_dX12_joined_0 18 rfl
theorem dX12_joined_35 : decode cX12_joined 35 = .ok (.i2l, 1) := zDec_at zB_dX12_joined_0 19 rfl
theorem dX12_joined_36 : decode cX12_joined 36 = .ok (.lconst 1, 1) := zDec_at zB_dX12_joined_0 20 rfl
theorem dX12_joined_37 : decode cX12_joined 37 = .ok (.lsub, 1) := zDec_at zB_dX12_joined_0 21 rfl
theorem dX12_joined_38 : decode cX12_joined 38 = .ok (.invokestatic 100, 3) := zDec_at zB_dX12_joined_0 22 rfl
theorem dX12_joined_41 : decode cX12_joined 41 = .ok (.ifCond .eq 12, 3) := zDec_at zB_dX12_joined_0 23 rfl
theorem dX12_joined_44 : decode cX12_joined 44 = .ok (.aload_n 0, 1) := zDec_at zB_dX12_joined_0 24 rfl
theorem dX12_joined_45 : decode cX12_joined 45 = .ok (.getfield 74, 3) := zDec_at zB_dX12_joined_0 25 rfl
theorem dX12_joined_48 : decode cX12_joined 48 = .ok (.iload_n 1, 1) := zDec_at zB_dX12_joined_0 26 rfl
theorem dX12_joined_49 : decode cX12_joined 49 = .ok (.iaload, 1) := zDec_at zB_dX12_joined_0 27 rfl
theorem dX12_joined_50 : decode cX12_joined 50 = .ok (.goto 4, 3) := zDec_at zB_dX12_joined_0 28 rfl
theorem dX12_joined_53 : decode cX12_joined 53 = .ok (.iconst (-1), 1) := zDec_at zB_dX12_joined_0 29 rfl
theorem dX12_joined_54 : decode cX12_joined 54 = .ok (.ireturn, 1) := zDec_at zB_dX12_joined_0 30 rfl
theorem zB_dX12_judge_0 : zDecB cX12_judge [(0, .aload_n 0, 1), (1, .iconst 0, 1), (2, .putfield 92, 3), (5, .iconst 1, 1), (6, .istore_n 3, 1), (7, .iconst 0, 1), (8, .istore 4, 2), (10, .iload 4, 2), (12, .aload_n 0, 1), (13, .getfield 7, 3), (16, .bipush 6, 2), (18, .iaload, 1), (19, .if_icmp .ge 14, 3), (22, .iload_n 3, 1), (23, .bipush 7, 2), (25, .imul, 1), (26, .istore_n 3, 1), (27, .iinc 4 1, 3), (30, .goto (-20), 3), (33, .iload_n 1, 1), (34, .i2l, 1), (35, .lconst 0, 1), (36, .iload_n 3, 1), (37, .i2l, 1), (38, .lconst 1, 1), (39, .lsub, 1), (40, .invokestatic 100, 3), (43, .ifCond .eq 15, 3), (46, .iload_n 2, 1), (47, .i2l, 1), (48, .lconst 0, 1), (49, .ldc2_w 507, 3), (52, .invokestatic 100, 3), (55, .ifCond .ne 5, 3), (58, .iconst (-1), 1), (59, .ireturn, 1), (60, .iload_n 1, 1), (61, .istore 4, 2), (63, .iconst 0, 1), (64, .istore 5, 2)] = true := by decide +kernel
theorem dX12_judge_0 : decode cX12_judge 0 = .ok (.aload_n 0, 1) := zDec_at zB_dX12_judge_0 0 rfl
theorem dX12_judge_1 : decode cX12_judge 1 = .ok (.iconst 0, 1) := zDec_at zB_dX12_judge_0 1 rfl
theorem dX12_judge_2 : decode cX12_judge 2 = .ok (.putfield 92, 3) := zDec_at zB_dX12_judge_0 2 rfl
theorem dX12_judge_5 : decode cX12_judge 5 = .ok (.iconst 1, 1) := zDec_at zB_dX12_judge_0 3 rfl
theorem dX12_judge_6 : decode cX12_judge 6 = .ok (.istore_n 3, 1) := zDec_at zB_dX12_judge_0 4 rfl
theorem dX12_judge_7 : decode cX12_judge 7 = .ok (.iconst 0, 1) := zDec_at zB_dX12_judge_0 5 rfl
theorem dX12_judge_8 : decode cX12_judge 8 = .ok (.istore 4, 2) := zDec_at zB_dX12_judge_0 6 rfl
theorem dX12_judge_10 : decode cX12_judge 10 = .ok (.iload 4, 2) := zDec_at zB_dX12_judge_0 7 rfl
theorem dX12_judge_12 : decode cX12_judge 12 = .ok (.aload_n 0, 1) := zDec_at zB_dX12_judge_0 8 rfl
theorem dX12_judge_13 : decode cX12_judge 13 = .ok (.getfield 7, 3) := zDec_at zB_dX12_judge_0 9 rfl
theorem dX12_judge_16 : decode cX12_judge 16 = .ok (.bipush 6, 2) := zDec_at zB_dX12_judge_0 10 rfl
theorem dX12_judge_18 : decode cX12_judge 18 = .ok (.iaload, 1) := zDec_at zB_dX12_judge_0 11 rfl
theorem dX12_judge_19 : decode cX12_judge 19 = .ok (.if_icmp .ge 14, 3) := zDec_at zB_dX12_judge_0 12 rfl
theorem dX12_judge_22 : decode cX12_judge 22 = .ok (.iload_n 3, 1) := zDec_at zB_dX12_judge_0 13 rfl
theorem dX12_judge_23 : decode cX12_judge 23 = .ok (.bipush 7, 2) := zDec_at zB_dX12_judge_0 14 rfl
theorem dX12_judge_25 : decode cX12_judge 25 = .ok (.imul, 1) := zDec_at zB_dX12_judge_0 15 rfl
theorem dX12_judge_26 : decode cX12_judge 26 = .ok (.istore_n 3, 1) := zDec_at zB_dX12_judge_0 16 rfl
theorem dX12_judge_27 : decode cX12_judge 27 = .ok (.iinc 4 1, 3) := zDec_at zB_dX12_judge_0 17 rfl
theorem dX12_judge_30 : decode cX12_judge 30 = .ok (.goto (-20), 3) := zDec_at zB_dX12_judge_0 18 rfl
theorem dX12_judge_33 : decode cX12_judge 33 = .ok (.iload_n 1, 1) := zDec_at zB_dX12_judge_0 19 rfl
theorem dX12_judge_34 : decode cX12_judge 34 = .ok (.i2l, 1) := zDec_at zB_dX12_judge_0 20 rfl
theorem dX12_judge_35 : decode cX12_judge 35 = .ok (.lconst 0, 1) := zDec_at zB_dX12_judge_0 21 rfl
theorem dX12_judge_36 : decode cX12_judge 36 = .ok (.iload_n 3, 1) := zDec_at zB_dX12_judge_0 22 rfl
theorem dX12_judge_37 : decode cX12_judge 37 = .ok (.i2l, 1) := zDec_at zB_dX12_judge_0 23 rfl
theorem dX12_judge_38 : decode cX12_judge 38 = .ok (.lconst 1, 1) := zDec_at zB_dX12_judge_0 24 rfl
theorem dX12_judge_39 : decode cX12_judge 39 = .ok (.lsub, 1) := zDec_at zB_dX12_judge_0 25 rfl
theorem dX12_judge_40 : decode cX12_judge 40 = .ok (.invokestatic 100, 3) := zDec_at zB_dX12_judge_0 26 rfl
theorem dX12_judge_43 : decode cX12_judge 43 = .ok (.ifCond .eq 15, 3) := zDec_at zB_dX12_judge_0 27 rfl
theorem dX12_judge_46 : decode cX12_judge 46 = .ok (.iload_n 2, 1) := zDec_at zB_dX12_judge_0 28 rfl
theorem dX12_judge_47 : decode cX12_judge 47 = .ok (.i2l, 1) := zDec_at zB_dX12_judge_0 29 rfl
theorem dX12_judge_48 : decode cX12_judge 48 = .ok (.lconst 0, 1) := zDec_at zB_dX12_judge_0 30 rfl
theorem dX12_judge_49 : decode cX12_judge 49 = .ok (.ldc2_w 507, 3) := zDec_at zB_dX12_judge_0 31 rfl
theorem dX12_judge_52 : decode cX12_judge 52 = .ok (.invokestatic 100, 3) := zDec_at zB_dX12_judge_0 32 rfl
theorem dX12_judge_55 : decode cX12_judge 55 = .ok (.ifCond .ne 5, 3) := zDec_at zB_dX12_judge_0 33 rfl
theorem dX12_judge_58 : decode cX12_judge 58 = .ok (.iconst (-1), 1) := zDec_at zB_dX12_judge_0 34 rfl
theorem dX12_judge_59 : decode cX12_judge 59 = .ok (.ireturn, 1) := zDec_at zB_dX12_judge_0 35 rfl
theorem dX12_judge_60 : decode cX12_judge 60 = .ok (.iload_n 1, 1) := zDec_at zB_dX12_judge_0 36 rfl
theorem dX12_judge_61 : decode cX12_judge 61 = .ok (.istore 4, 2) := zDec_at zB_dX12_judge_0 37 rfl
theorem dX12_judge_63 : decode cX12_judge 63 = .ok (.iconst 0, 1) := zDec_at zB_dX12_judge_0 38 rfl
theorem dX12_judge_64 : decode cX12_judge 64 = .ok (.istore 5, 2) := zDec_at zB_dX12_judge_0 39 rfl
theorem zB_dX12_judge_66 : zDecB cX12_judge [(66, .iload 5, 2), (68, .aload_n 0, 1), (69, .getfield 7, 3), (72, .bipush 6, 2), (74, .iaload, 1), (75, .if_icmp .ge 30, 3), (78, .aload_n 0, 1), (79, .getfield 77, 3), (82, .iload 5, 2), (84, .iload 4, 2), (86, .bipush 7, 2), (88, .irem, 1), (89, .iconst 1, 1), (90, .isub, 1), (91, .iastore, 1), (92, .iload 4, 2), (94, .bipush 7, 2), (96, .idiv, 1), (97, .istore 4, 2), (99, .iinc 5 1, 3), (102, .goto (-36), 3), (105, .aload_n 0, 1), (106, .iload_n 2, 1), (107, .invokevirtual 509, 3), (110, .ifCond .eq 10, 3), (113, .aload_n 0, 1), (114, .getfield 498, 3), (117, .goto 4, 3), (120, .iconst (-1), 1), (121, .ireturn, 1)] = true := by decide +kernel
theorem dX12_judge_66 : decode cX12_judge 66 = .ok (.iload 5, 2) := zDec_at zB_dX12_judge_66 0 rfl
theorem dX12_judge_68 : decode cX12_judge 68 = .ok (.aload_n 0, 1) := zDec_at zB_dX12_judge_66 1 rfl
theorem dX12_judge_69 : decode cX12_judge 69 = .ok (.getfield 7, 3) := zDec_at zB_dX12_judge_66 2 rfl
theorem dX12_judge_72 : decode cX12_judge 72 = .ok (.bipush 6, 2) := zDec_at zB_dX12_judge_66 3 rfl
theorem dX12_judge_74 : decode cX12_judge 74 = .ok (.iaload, 1) := zDec_at zB_dX12_judge_66 4 rfl
theorem dX12_judge_75 : decode cX12_judge 75 = .ok (.if_icmp .ge 30, 3) := zDec_at zB_dX12_judge_66 5 rfl
theorem dX12_judge_78 : decode cX12_judge 78 = .ok (.aload_n 0, 1) := zDec_at zB_dX12_judge_66 6 rfl
theorem dX12_judge_79 : decode cX12_judge 79 = .ok (.getfield 77, 3) := zDec_at zB_dX12_judge_66 7 rfl
theorem dX12_judge_82 : decode cX12_judge 82 = .ok (.iload 5, 2) := zDec_at zB_dX12_judge_66 8 rfl
theorem dX12_judge_84 : decode cX12_judge 84 = .ok (.iload 4, 2) := zDec_at zB_dX12_judge_66 9 rfl
theorem dX12_judge_86 : decode cX12_judge 86 = .ok (.bipush 7, 2) := zDec_at zB_dX12_judge_66 10 rfl
theorem dX12_judge_88 : decode cX12_judge 88 = .ok (.irem, 1) := zDec_at zB_dX12_judge_66 11 rfl
theorem dX12_judge_89 : decode cX12_judge 89 = .ok (.iconst 1, 1) := zDec_at zB_dX12_judge_66 12 rfl
theorem dX12_judge_90 : decode cX12_judge 90 = .ok (.isub, 1) := zDec_at zB_dX12_judge_66 13 rfl
theorem dX12_judge_91 : decode cX12_judge 91 = .ok (.iastore, 1) := zDec_at zB_dX12_judge_66 14 rfl
theorem dX12_judge_92 : decode cX12_judge 92 = .ok (.iload 4, 2) := zDec_at zB_dX12_judge_66 15 rfl
theorem dX12_judge_94 : decode cX12_judge 94 = .ok (.bipush 7, 2) := zDec_at zB_dX12_judge_66 16 rfl
theorem dX12_judge_96 : decode cX12_judge 96 = .ok (.idiv, 1) := zDec_at zB_dX12_judge_66 17 rfl
theorem dX12_judge_97 : decode cX12_judge 97 = .ok (.istore 4, 2) := zDec_at zB_dX12_judge_66 18 rfl
theorem dX12_judge_99 : decode cX12_judge 99 = .ok (.iinc 5 1, 3) := zDec_at zB_dX12_judge_66 19 rfl
theorem dX12_judge_102 : decode cX12_judge 102 = .ok (.goto (-36), 3) := zDec_at zB_dX12_judge_66 20 rfl
theorem dX12_judge_105 : decode cX12_judge 105 = .ok (.aload_n 0, 1) := zDec_at zB_dX12_judge_66 21 rfl
theorem dX12_judge_106 : decode cX12_judge 106 = .ok (.iload_n 2, 1) := zDec_at zB_dX12_judge_66 22 rfl
theorem dX12_judge_107 : decode cX12_judge 107 = .ok (.invokevirtual 509, 3) := zDec_at zB_dX12_judge_66 23 rfl
theorem dX12_judge_110 : decode cX12_judge 110 = .ok (.ifCond .eq 10, 3) := zDec_at zB_dX12_judge_66 24 rfl
theorem dX12_judge_113 : decode cX12_judge 113 = .ok (.aload_n 0, 1) := zDec_at zB_dX12_judge_66 25 rfl
theorem dX12_judge_114 : decode cX12_judge 114 = .ok (.getfield 498, 3) := zDec_at zB_dX12_judge_66 26 rfl
theorem dX12_judge_117 : decode cX12_judge 117 = .ok (.goto 4, 3) := zDec_at zB_dX12_judge_66 27 rfl
theorem dX12_judge_120 : decode cX12_judge 120 = .ok (.iconst (-1), 1) := zDec_at zB_dX12_judge_66 28 rfl
theorem dX12_judge_121 : decode cX12_judge 121 = .ok (.ireturn, 1) := zDec_at zB_dX12_judge_66 29 rfl
theorem zB_dX12_knowBy_0 : zDecB cX12_knowBy [(0, .aload_n 0, 1), (1, .iload_n 1, 1), (2, .putfield 161, 3), (5, .iconst 0, 1), (6, .istore_n 2, 1), (7, .iload_n 2, 1), (8, .aload_n 0, 1), (9, .getfield 7, 3), (12, .iconst 3, 1), (13, .iaload, 1), (14, .if_icmp .ge 229, 3), (17, .iload_n 2, 1), (18, .invokestatic 155, 3), (21, .istore_n 3, 1), (22, .aload_n 0, 1), (23, .getfield 21, 3), (26, .iload_n 2, 1), (27, .aload_n 0, 1), (28, .getfield 7, 3), (31, .iload_n 3, 1), (32, .iconst 4, 1), (33, .iadd, 1), (34, .iaload, 1), (35, .aload_n 0, 1), (36, .getfield 161, 3), (39, .if_icmp .gt 7, 3), (42, .iconst 1, 1), (43, .goto 4, 3), (46, .iconst 0, 1), (47, .bastore, 1), (48, .iload_n 2, 1), (49, .iconst 1, 1), (50, .iadd, 1), (51, .istore 4, 2), (53, .iload 4, 2), (55, .aload_n 0, 1), (56, .getfield 7, 3), (59, .iconst 3, 1), (60, .iaload, 1), (61, .if_icmp .ge 120, 3)] = true := by decide +kernel
theorem dX12_knowBy_0 : decode cX12_knowBy 0 = .ok (.aload_n 0, 1) := zDec_at zB_dX12_knowBy_0 0 rfl
theorem dX12_knowBy_1 : decode cX12_knowBy 1 = .ok (.iload_n 1, 1) := zDec_at zB_dX12_knowBy_0 1 rfl
theorem dX12_knowBy_2 : decode cX12_knowBy 2 = .ok (.putfield 161, 3) := zDec_at zB_dX12_knowBy_0 2 rfl
theorem dX12_knowBy_5 : decode cX12_knowBy 5 = .ok (.iconst 0, 1) := zDec_at zB_dX12_knowBy_0 3 rfl
theorem dX12_knowBy_6 : decode cX12_knowBy 6 = .ok (.istore_n 2, 1) := zDec_at zB_dX12_knowBy_0 4 rfl
theorem dX12_knowBy_7 : decode cX12_knowBy 7 = .ok (.iload_n 2, 1) := zDec_at zB_dX12_knowBy_0 5 rfl
theorem dX12_knowBy_8 : decode cX12_knowBy 8 = .ok (.aload_n 0, 1) := zDec_at zB_dX12_knowBy_0 6 rfl
theorem dX12_knowBy_9 : decode cX12_knowBy 9 = .ok (.getfield 7, 3) := zDec_at zB_dX12_knowBy_0 7 rfl
theorem dX12_knowBy_12 : decode cX12_knowBy 12 = .ok (.iconst 3, 1) := zDec_at zB_dX12_knowBy_0 8 rfl
theorem dX12_knowBy_13 : decode cX12_knowBy 13 = .ok (.iaload, 1) := zDec_at zB_dX12_knowBy_0 9 rfl
theorem dX12_knowBy_14 : decode cX12_knowBy 14 = .ok (.if_icmp .ge 229, 3) := zDec_at zB_dX12_knowBy_0 10 rfl
theorem dX12_knowBy_17 : decode cX12_knowBy 17 = .ok (.iload_n 2, 1) := zDec_at zB_dX12_knowBy_0 11 rfl
theorem dX12_knowBy_18 : decode cX12_knowBy 18 = .ok (.invokestatic 155, 3) := zDec_at zB_dX12_knowBy_0 12 rfl
theorem dX12_knowBy_21 : decode cX12_knowBy 21 = .ok (.istore_n 3, 1) := zDec_at zB_dX12_knowBy_0 13 rfl
theorem dX12_knowBy_22 : decode cX12_knowBy 22 = .ok (.aload_n 0, 1) := zDec_at zB_dX12_knowBy_0 14 rfl
theorem dX12_knowBy_23 : decode cX12_knowBy 23 = .ok (.getfield 21, 3) := zDec_at zB_dX12_knowBy_0 15 rfl
theorem dX12_knowBy_26 : decode cX12_knowBy 26 = .ok (.iload_n 2, 1) := zDec_at zB_dX12_knowBy_0 16 rfl
theorem dX12_knowBy_27 : decode cX12_knowBy 27 = .ok (.aload_n 0, 1) := zDec_at zB_dX12_knowBy_0 17 rfl
theorem dX12_knowBy_28 : decode cX12_knowBy 28 = .ok (.getfield 7, 3) := zDec_at zB_dX12_knowBy_0 18 rfl
theorem dX12_knowBy_31 : decode cX12_knowBy 31 = .ok (.iload_n 3, 1) := zDec_at zB_dX12_knowBy_0 19 rfl
theorem dX12_knowBy_32 : decode cX12_knowBy 32 = .ok (.iconst 4, 1) := zDec_at zB_dX12_knowBy_0 20 rfl
theorem dX12_knowBy_33 : decode cX12_knowBy 33 = .ok (.iadd, 1) := zDec_at zB_dX12_knowBy_0 21 rfl
theorem dX12_knowBy_34 : decode cX12_knowBy 34 = .ok (.iaload, 1) := zDec_at zB_dX12_knowBy_0 22 rfl
theorem dX12_knowBy_35 : decode cX12_knowBy 35 = .ok (.aload_n 0, 1) := zDec_at zB_dX12_knowBy_0 23 rfl
theorem dX12_knowBy_36 : decode cX12_knowBy 36 = .ok (.getfield 161, 3) := zDec_at zB_dX12_knowBy_0 24 rfl
theorem dX12_knowBy_39 : decode cX12_knowBy 39 = .ok (.if_icmp .gt 7, 3) := zDec_at zB_dX12_knowBy_0 25 rfl
theorem dX12_knowBy_42 : decode cX12_knowBy 42 = .ok (.iconst 1, 1) := zDec_at zB_dX12_knowBy_0 26 rfl
theorem dX12_knowBy_43 : decode cX12_knowBy 43 = .ok (.goto 4, 3) := zDec_at zB_dX12_knowBy_0 27 rfl
theorem dX12_knowBy_46 : decode cX12_knowBy 46 = .ok (.iconst 0, 1) := zDec_at zB_dX12_knowBy_0 28 rfl
theorem dX12_knowBy_47 : decode cX12_knowBy 47 = .ok (.bastore, 1) := zDec_at zB_dX12_knowBy_0 29 rfl
theorem dX12_knowBy_48 : decode cX12_knowBy 48 = .ok (.iload_n 2, 1) := zDec_at zB_dX12_knowBy_0 30 rfl
theorem dX12_knowBy_49 : decode cX12_knowBy 49 = .ok (.iconst 1, 1) := zDec_at zB_dX12_knowBy_0 31 rfl
theorem dX12_knowBy_50 : decode cX12_knowBy 50 = .ok (.iadd, 1) := zDec_at zB_dX12_knowBy_0 32 rfl
theorem dX12_knowBy_51 : decode cX12_knowBy 51 = .ok (.istore 4, 2) := zDec_at zB_dX12_knowBy_0 33 rfl
theorem dX12_knowBy_53 : decode cX12_knowBy 53 = .ok (.iload 4, 2) := zDec_at zB_dX12_knowBy_0 34 rfl
theorem dX12_knowBy_55 : decode cX12_knowBy 55 = .ok (.aload_n 0, 1) := zDec_at zB_dX12_knowBy_0 35 rfl
theorem dX12_knowBy_56 : decode cX12_knowBy 56 = .ok (.getfield 7, 3) := zDec_at zB_dX12_knowBy_0 36 rfl
theorem dX12_knowBy_59 : decode cX12_knowBy 59 = .ok (.iconst 3, 1) := zDec_at zB_dX12_knowBy_0 37 rfl
theorem dX12_knowBy_60 : decode cX12_knowBy 60 = .ok (.iaload, 1) := zDec_at zB_dX12_knowBy_0 38 rfl
theorem dX12_knowBy_61 : decode cX12_knowBy 61 = .ok (.if_icmp .ge 120, 3) := zDec_at zB_dX12_knowBy_0 39 rfl
theorem zB_dX12_knowBy_64 : zDecB cX12_knowBy [(64, .aload_n 0, 1), (65, .getfield 21, 3), (68, .iload_n 2, 1), (69, .baload, 1), (70, .ifCond .eq 111, 3), (73, .iload 4, 2), (75, .invokestatic 155, 3), (78, .istore 5, 2), (80, .aload_n 0, 1), (81, .getfield 7, 3), (84, .iload_n 3, 1), (85, .iaload, 1), (86, .aload_n 0, 1), (87, .getfield 7, 3), (90, .iload 5, 2), (92, .iaload, 1), (93, .if_icmp .ne 47, 3), (96, .aload_n 0, 1), (97, .getfield 7, 3), (100, .iload_n 3, 1), (101, .iconst 1, 1), (102, .iadd, 1), (103, .iaload, 1), (104, .aload_n 0, 1), (105, .getfield 7, 3), (108, .iload 5, 2), (110, .iconst 1, 1), (111, .iadd, 1), (112, .iaload, 1), (113, .if_icmp .ne 27, 3), (116, .aload_n 0, 1), (117, .getfield 7, 3), (120, .iload_n 3, 1), (121, .iconst 2, 1), (122, .iadd, 1), (123, .iaload, 1), (124, .aload_n 0, 1), (125, .getfield 7, 3), (128, .iload 5, 2), (130, .iconst 2, 1)] = true := by decide +kernel
theorem dX12_knowBy_64 : decode cX12_knowBy 64 = .ok (.aload_n 0, 1) := zDec_at zB_dX12_knowBy_64 0 rfl
theorem dX12_knowBy_65 : decode cX12_knowBy 65 = .ok (.getfield 21, 3) := zDec_at zB_dX12_knowBy_64 1 rfl
theorem dX12_knowBy_68 : decode cX12_knowBy 68 = .ok (.iload_n 2, 1) := zDec_at zB_dX12_knowBy_64 2 rfl
theorem dX12_knowBy_69 : decode cX12_knowBy 69 = .ok (.baload, 1) := zDec_at zB_dX12_knowBy_64 3 rfl
theorem dX12_knowBy_70 : decode cX12_knowBy 70 = .ok (.ifCond .eq 111, 3) := zDec_at zB_dX12_knowBy_64 4 rfl
theorem dX12_knowBy_73 : decode cX12_knowBy 73 = .ok (.iload 4, 2) := zDec_at zB_dX12_knowBy_64 5 rfl
theorem dX12_knowBy_75 : decode cX12_knowBy 75 = .ok (.invokestatic 155, 3) := zDec_at zB_dX12_knowBy_64 6 rfl
theorem dX12_knowBy_78 : decode cX12_knowBy 78 = .ok (.istore 5, 2) := zDec_at zB_dX12_knowBy_64 7 rfl
theorem dX12_knowBy_80 : decode cX12_knowBy 80 = .ok (.aload_n 0, 1) := zDec_at zB_dX12_knowBy_64 8 rfl
theorem dX12_knowBy_81 : decode cX12_knowBy 81 = .ok (.getfield 7, 3) := zDec_at zB_dX12_knowBy_64 9 rfl
theorem dX12_knowBy_84 : decode cX12_knowBy 84 = .ok (.iload_n 3, 1) := zDec_at zB_dX12_knowBy_64 10 rfl
theorem dX12_knowBy_85 : decode cX12_knowBy 85 = .ok (.iaload, 1) := zDec_at zB_dX12_knowBy_64 11 rfl
theorem dX12_knowBy_86 : decode cX12_knowBy 86 = .ok (.aload_n 0, 1) := zDec_at zB_dX12_knowBy_64 12 rfl
theorem dX12_knowBy_87 : decode cX12_knowBy 87 = .ok (.getfield 7, 3) := zDec_at zB_dX12_knowBy_64 13 rfl
theorem dX12_knowBy_90 : decode cX12_knowBy 90 = .ok (.iload 5, 2) := zDec_at zB_dX12_knowBy_64 14 rfl
theorem dX12_knowBy_92 : decode cX12_knowBy 92 = .ok (.iaload, 1) := zDec_at zB_dX12_knowBy_64 15 rfl
theorem dX12_knowBy_93 : decode cX12_knowBy 93 = .ok (.if_icmp .ne 47, 3) := zDec_at zB_dX12_knowBy_64 16 rfl
theorem dX12_knowBy_96 : decode cX12_knowBy 96 = .ok (.aload_n 0, 1) := zDec_at zB_dX12_knowBy_64 17 rfl
theorem dX12_knowBy_97 : decode cX12_knowBy 97 = .ok (.getfield 7, 3) := zDec_at zB_dX12_knowBy_64 18 rfl
theorem dX12_knowBy_100 : decode cX12_knowBy 100 = .ok (.iload_n 3, 1) := zDec_at zB_dX12_knowBy_64 19 rfl
theorem dX12_knowBy_101 : decode cX12_knowBy 101 = .ok (.iconst 1, 1) := zDec_at zB_dX12_knowBy_64 20 rfl
theorem dX12_knowBy_102 : decode cX12_knowBy 102 = .ok (.iadd, 1) := zDec_at zB_dX12_knowBy_64 21 rfl
theorem dX12_knowBy_103 : decode cX12_knowBy 103 = .ok (.iaload, 1) := zDec_at zB_dX12_knowBy_64 22 rfl
theorem dX12_knowBy_104 : decode cX12_knowBy 104 = .ok (.aload_n 0, 1) := zDec_at zB_dX12_knowBy_64 23 rfl
theorem dX12_knowBy_105 : decode cX12_knowBy 105 = .ok (.getfield 7, 3) := zDec_at zB_dX12_knowBy_64 24 rfl
theorem dX12_knowBy_108 : decode cX12_knowBy 108 = .ok (.iload 5, 2) := zDec_at zB_dX12_knowBy_64 25 rfl
theorem dX12_knowBy_110 : decode cX12_knowBy 110 = .ok (.iconst 1, 1) := zDec_at zB_dX12_knowBy_64 26 rfl
theorem dX12_knowBy_111 : decode cX12_knowBy 111 = .ok (.iadd, 1) := zDec_at zB_dX12_knowBy_64 27 rfl
theorem dX12_knowBy_112 : decode cX12_knowBy 112 = .ok (.iaload, 1) := zDec_at zB_dX12_knowBy_64 28 rfl
theorem dX12_knowBy_113 : decode cX12_knowBy 113 = .ok (.if_icmp .ne 27, 3) := zDec_at zB_dX12_knowBy_64 29 rfl
theorem dX12_knowBy_116 : decode cX12_knowBy 116 = .ok (.aload_n 0, 1) := zDec_at zB_dX12_knowBy_64 30 rfl
theorem dX12_knowBy_117 : decode cX12_knowBy 117 = .ok (.getfield 7, 3) := zDec_at zB_dX12_knowBy_64 31 rfl
theorem dX12_knowBy_120 : decode cX12_knowBy 120 = .ok (.iload_n 3, 1) := zDec_at zB_dX12_knowBy_64 32 rfl
theorem dX12_knowBy_121 : decode cX12_knowBy 121 = .ok (.iconst 2, 1) := zDec_at zB_dX12_knowBy_64 33 rfl
theorem dX12_knowBy_122 : decode cX12_knowBy 122 = .ok (.iadd, 1) := zDec_at zB_dX12_knowBy_64 34 rfl
theorem dX12_knowBy_123 : decode cX12_knowBy 123 = .ok (.iaload, 1) := zDec_at zB_dX12_knowBy_64 35 rfl
theorem dX12_knowBy_124 : decode cX12_knowBy 124 = .ok (.aload_n 0, 1) := zDec_at zB_dX12_knowBy_64 36 rfl
theorem dX12_knowBy_125 : decode cX12_knowBy 125 = .ok (.getfield 7, 3) := zDec_at zB_dX12_knowBy_64 37 rfl
theorem dX12_knowBy_128 : decode cX12_knowBy 128 = .ok (.iload 5, 2) := zDec_at zB_dX12_knowBy_64 38 rfl
theorem dX12_knowBy_130 : decode cX12_knowBy 130 = .ok (.iconst 2, 1) := zDec_at zB_dX12_knowBy_64 39 rfl
theorem zB_dX12_knowBy_131 : zDecB cX12_knowBy [(131, .iadd, 1), (132, .iaload, 1), (133, .if_icmp .ne 7, 3), (136, .iconst 1, 1), (137, .goto 4, 3), (140, .iconst 0, 1), (141, .istore 6, 2), (143, .aload_n 0, 1), (144, .getfield 21, 3), (147, .iload_n 2, 1), (148, .iload 6, 2), (150, .ifCond .eq 19, 3), (153, .aload_n 0, 1), (154, .getfield 7, 3), (157, .iload 5, 2), (159, .iconst 4, 1), (160, .iadd, 1), (161, .iaload, 1), (162, .aload_n 0, 1), (163, .getfield 161, 3), (166, .if_icmp .le 7, 3), (169, .iconst 1, 1), (170, .goto 4, 3), (173, .iconst 0, 1), (174, .bastore, 1), (175, .iinc 4 1, 3), (178, .goto (-125), 3), (181, .aload_n 0, 1), (182, .getfield 24, 3), (185, .iload_n 2, 1), (186, .aload_n 0, 1), (187, .getfield 7, 3), (190, .iload_n 3, 1), (191, .iconst 5, 1), (192, .iadd, 1), (193, .iaload, 1), (194, .iconst (-1), 1), (195, .if_icmp .eq 30, 3), (198, .aload_n 0, 1), (199, .getfield 7, 3)] = true := by decide +kernel
theorem dX12_knowBy_131 : decode cX12_knowBy 131 = .ok (.iadd, 1) := zDec_at zB_dX12_knowBy_131 0 rfl
theorem dX12_knowBy_132 : decode cX12_knowBy 132 = .ok (.iaload, 1) := zDec_at zB_dX12_knowBy_131 1 rfl
theorem dX12_knowBy_133 : decode cX12_knowBy 133 = .ok (.if_icmp .ne 7, 3) := zDec_at zB_dX12_knowBy_131 2 rfl
theorem dX12_knowBy_136 : decode cX12_knowBy 136 = .ok (.iconst 1, 1) := zDec_at zB_dX12_knowBy_131 3 rfl
theorem dX12_knowBy_137 : decode cX12_knowBy 137 = .ok (.goto 4, 3) := zDec_at zB_dX12_knowBy_131 4 rfl
theorem dX12_knowBy_140 : decode cX12_knowBy 140 = .ok (.iconst 0, 1) := zDec_at zB_dX12_knowBy_131 5 rfl
theorem dX12_knowBy_141 : decode cX12_knowBy 141 = .ok (.istore 6, 2) := zDec_at zB_dX12_knowBy_131 6 rfl
theorem dX12_knowBy_143 : decode cX12_knowBy 143 = .ok (.aload_n 0, 1) := zDec_at zB_dX12_knowBy_131 7 rfl
theorem dX12_knowBy_144 : decode cX12_knowBy 144 = .ok (.getfield 21, 3) := zDec_at zB_dX12_knowBy_131 8 rfl
theorem dX12_knowBy_147 : decode cX12_knowBy 147 = .ok (.iload_n 2, 1) := zDec_at zB_dX12_knowBy_131 9 rfl
theorem dX12_knowBy_148 : decode cX12_knowBy 148 = .ok (.iload 6, 2) := zDec_at zB_dX12_knowBy_131 10 rfl
theorem dX12_knowBy_150 : decode cX12_knowBy 150 = .ok (.ifCond .eq 19, 3) := zDec_at zB_dX12_knowBy_131 11 rfl
theorem dX12_knowBy_153 : decode cX12_knowBy 153 = .ok (.aload_n 0, 1) := zDec_at zB_dX12_knowBy_131 12 rfl
theorem dX12_knowBy_154 : decode cX12_knowBy 154 = .ok (.getfield 7, 3) := zDec_at zB_dX12_knowBy_131 13 rfl
theorem dX12_knowBy_157 : decode cX12_knowBy 157 = .ok (.iload 5, 2) := zDec_at zB_dX12_knowBy_131 14 rfl
theorem dX12_knowBy_159 : decode cX12_knowBy 159 = .ok (.iconst 4, 1) := zDec_at zB_dX12_knowBy_131 15 rfl
theorem dX12_knowBy_160 : decode cX12_knowBy 160 = .ok (.iadd, 1) := zDec_at zB_dX12_knowBy_131 16 rfl
theorem dX12_knowBy_161 : decode cX12_knowBy 161 = .ok (.iaload, 1) := zDec_at zB_dX12_knowBy_131 17 rfl
theorem dX12_knowBy_162 : decode cX12_knowBy 162 = .ok (.aload_n 0, 1) := zDec_at zB_dX12_knowBy_131 18 rfl
theorem dX12_knowBy_163 : decode cX12_knowBy 163 = .ok (.getfield 161, 3) := zDec_at zB_dX12_knowBy_131 19 rfl
theorem dX12_knowBy_166 : decode cX12_knowBy 166 = .ok (.if_icmp .le 7, 3) := zDec_at zB_dX12_knowBy_131 20 rfl
theorem dX12_knowBy_169 : decode cX12_knowBy 169 = .ok (.iconst 1, 1) := zDec_at zB_dX12_knowBy_131 21 rfl
theorem dX12_knowBy_170 : decode cX12_knowBy 170 = .ok (.goto 4, 3) := zDec_at zB_dX12_knowBy_131 22 rfl
theorem dX12_knowBy_173 : decode cX12_knowBy 173 = .ok (.iconst 0, 1) := zDec_at zB_dX12_knowBy_131 23 rfl
theorem dX12_knowBy_174 : decode cX12_knowBy 174 = .ok (.bastore, 1) := zDec_at zB_dX12_knowBy_131 24 rfl
theorem dX12_knowBy_175 : decode cX12_knowBy 175 = .ok (.iinc 4 1, 3) := zDec_at zB_dX12_knowBy_131 25 rfl
theorem dX12_knowBy_178 : decode cX12_knowBy 178 = .ok (.goto (-125), 3) := zDec_at zB_dX12_knowBy_131 26 rfl
theorem dX12_knowBy_181 : decode cX12_knowBy 181 = .ok (.aload_n 0, 1) := zDec_at zB_dX12_knowBy_131 27 rfl
theorem dX12_knowBy_182 : decode cX12_knowBy 182 = .ok (.getfield 24, 3) := zDec_at zB_dX12_knowBy_131 28 rfl
theorem dX12_knowBy_185 : decode cX12_knowBy 185 = .ok (.iload_n 2, 1) := zDec_at zB_dX12_knowBy_131 29 rfl
theorem dX12_knowBy_186 : decode cX12_knowBy 186 = .ok (.aload_n 0, 1) := zDec_at zB_dX12_knowBy_131 30 rfl
theorem dX12_knowBy_187 : decode cX12_knowBy 187 = .ok (.getfield 7, 3) := zDec_at zB_dX12_knowBy_131 31 rfl
theorem dX12_knowBy_190 : decode cX12_knowBy 190 = .ok (.iload_n 3, 1) := zDec_at zB_dX12_knowBy_131 32 rfl
theorem dX12_knowBy_191 : decode cX12_knowBy 191 = .ok (.iconst 5, 1) := zDec_at zB_dX12_knowBy_131 33 rfl
theorem dX12_knowBy_192 : decode cX12_knowBy 192 = .ok (.iadd, 1) := zDec_at zB_dX12_knowBy_131 34 rfl
theorem dX12_knowBy_193 : decode cX12_knowBy 193 = .ok (.iaload, 1) := zDec_at zB_dX12_knowBy_131 35 rfl
theorem dX12_knowBy_194 : decode cX12_knowBy 194 = .ok (.iconst (-1), 1) := zDec_at zB_dX12_knowBy_131 36 rfl
theorem dX12_knowBy_195 : decode cX12_knowBy 195 = .ok (.if_icmp .eq 30, 3) := zDec_at zB_dX12_knowBy_131 37 rfl
theorem dX12_knowBy_198 : decode cX12_knowBy 198 = .ok (.aload_n 0, 1) := zDec_at zB_dX12_knowBy_131 38 rfl
theorem dX12_knowBy_199 : decode cX12_knowBy 199 = .ok (.getfield 7, 3) := zDec_at zB_dX12_knowBy_131 39 rfl
theorem zB_dX12_knowBy_202 : zDecB cX12_knowBy [(202, .iload_n 3, 1), (203, .bipush 6, 2), (205, .iadd, 1), (206, .iaload, 1), (207, .aload_n 0, 1), (208, .getfield 161, 3), (211, .if_icmp .gt 14, 3), (214, .aload_n 0, 1), (215, .getfield 7, 3), (218, .iload_n 3, 1), (219, .iconst 5, 1), (220, .iadd, 1), (221, .iaload, 1), (222, .goto 14, 3), (225, .aload_n 0, 1), (226, .getfield 7, 3), (229, .iload_n 3, 1), (230, .iconst 3, 1), (231, .iadd, 1), (232, .iaload, 1), (233, .bipush 26, 2), (235, .irem, 1), (236, .iastore, 1), (237, .iinc 2 1, 3), (240, .goto (-233), 3), (243, .aload_n 0, 1), (244, .invokevirtual 164, 3), (247, .return_, 1)] = true := by decide +kernel
theorem dX12_knowBy_202 : decode cX12_knowBy 202 = .ok (.iload_n 3, 1) := zDec_at zB_dX12_knowBy_202 0 rfl
theorem dX12_knowBy_203 : decode cX12_knowBy 203 = .ok (.bipush 6, 2) := zDec_at zB_dX12_knowBy_202 1 rfl
theorem dX12_knowBy_205 : decode cX12_knowBy 205 = .ok (.iadd, 1) := zDec_at zB_dX12_knowBy_202 2 rfl
theorem dX12_knowBy_206 : decode cX12_knowBy 206 = .ok (.iaload, 1) := zDec_at zB_dX12_knowBy_202 3 rfl
theorem dX12_knowBy_207 : decode cX12_knowBy 207 = .ok (.aload_n 0, 1) := zDec_at zB_dX12_knowBy_202 4 rfl
theorem dX12_knowBy_208 : decode cX12_knowBy 208 = .ok (.getfield 161, 3) := zDec_at zB_dX12_knowBy_202 5 rfl
theorem dX12_knowBy_211 : decode cX12_knowBy 211 = .ok (.if_icmp .gt 14, 3) := zDec_at zB_dX12_knowBy_202 6 rfl
theorem dX12_knowBy_214 : decode cX12_knowBy 214 = .ok (.aload_n 0, 1) := zDec_at zB_dX12_knowBy_202 7 rfl
theorem dX12_knowBy_215 : decode cX12_knowBy 215 = .ok (.getfield 7, 3) := zDec_at zB_dX12_knowBy_202 8 rfl
theorem dX12_knowBy_218 : decode cX12_knowBy 218 = .ok (.iload_n 3, 1) := zDec_at zB_dX12_knowBy_202 9 rfl
theorem dX12_knowBy_219 : decode cX12_knowBy 219 = .ok (.iconst 5, 1) := zDec_at zB_dX12_knowBy_202 10 rfl
theorem dX12_knowBy_220 : decode cX12_knowBy 220 = .ok (.iadd, 1) := zDec_at zB_dX12_knowBy_202 11 rfl
theorem dX12_knowBy_221 : decode cX12_knowBy 221 = .ok (.iaload, 1) := zDec_at zB_dX12_knowBy_202 12 rfl
theorem dX12_knowBy_222 : decode cX12_knowBy 222 = .ok (.goto 14, 3) := zDec_at zB_dX12_knowBy_202 13 rfl
theorem dX12_knowBy_225 : decode cX12_knowBy 225 = .ok (.aload_n 0, 1) := zDec_at zB_dX12_knowBy_202 14 rfl
theorem dX12_knowBy_226 : decode cX12_knowBy 226 = .ok (.getfield 7, 3) := zDec_at zB_dX12_knowBy_202 15 rfl
theorem dX12_knowBy_229 : decode cX12_knowBy 229 = .ok (.iload_n 3, 1) := zDec_at zB_dX12_knowBy_202 16 rfl
theorem dX12_knowBy_230 : decode cX12_knowBy 230 = .ok (.iconst 3, 1) := zDec_at zB_dX12_knowBy_202 17 rfl
theorem dX12_knowBy_231 : decode cX12_knowBy 231 = .ok (.iadd, 1) := zDec_at zB_dX12_knowBy_202 18 rfl
theorem dX12_knowBy_232 : decode cX12_knowBy 232 = .ok (.iaload, 1) := zDec_at zB_dX12_knowBy_202 19 rfl
theorem dX12_knowBy_233 : decode cX12_knowBy 233 = .ok (.bipush 26, 2) := zDec_at zB_dX12_knowBy_202 20 rfl
theorem dX12_knowBy_235 : decode cX12_knowBy 235 = .ok (.irem, 1) := zDec_at zB_dX12_knowBy_202 21 rfl
theorem dX12_knowBy_236 : decode cX12_knowBy 236 = .ok (.iastore, 1) := zDec_at zB_dX12_knowBy_202 22 rfl
theorem dX12_knowBy_237 : decode cX12_knowBy 237 = .ok (.iinc 2 1, 3) := zDec_at zB_dX12_knowBy_202 23 rfl
theorem dX12_knowBy_240 : decode cX12_knowBy 240 = .ok (.goto (-233), 3) := zDec_at zB_dX12_knowBy_202 24 rfl
theorem dX12_knowBy_243 : decode cX12_knowBy 243 = .ok (.aload_n 0, 1) := zDec_at zB_dX12_knowBy_202 25 rfl
theorem dX12_knowBy_244 : decode cX12_knowBy 244 = .ok (.invokevirtual 164, 3) := zDec_at zB_dX12_knowBy_202 26 rfl
theorem dX12_knowBy_247 : decode cX12_knowBy 247 = .ok (.return_, 1) := zDec_at zB_dX12_knowBy_202 27 rfl
theorem zB_dX12_likeOf_0 : zDecB cX12_likeOf [(0, .aload_n 0, 1), (1, .getfield 7, 3), (4, .sipush 6986, 3), (7, .iconst 2, 1), (8, .iload_n 1, 1), (9, .imul, 1), (10, .iadd, 1), (11, .iconst 1, 1), (12, .iadd, 1), (13, .iaload, 1), (14, .istore_n 3, 1), (15, .aload_n 0, 1), (16, .getfield 7, 3), (19, .sipush 6980, 3), (22, .iload_n 2, 1), (23, .iadd, 1), (24, .iaload, 1), (25, .istore 4, 2), (27, .iconst 0, 1), (28, .istore 5, 2), (30, .iconst 0, 1), (31, .istore 6, 2), (33, .iload 6, 2), (35, .bipush 8, 2), (37, .if_icmp .ge 43, 3), (40, .iload 5, 2), (42, .iload_n 3, 1), (43, .bipush 10, 2), (45, .irem, 1), (46, .iload 4, 2), (48, .bipush 10, 2), (50, .irem, 1), (51, .if_icmp .ne 7, 3), (54, .iconst 1, 1), (55, .goto 4, 3), (58, .iconst 0, 1), (59, .iadd, 1), (60, .istore 5, 2), (62, .iload_n 3, 1), (63, .bipush 10, 2)] = true := by decide +kernel
theorem dX12_likeOf_0 : decode cX12_likeOf 0 = .ok (.aload_n 0, 1) := zDec_at zB_dX12_likeOf_0 0 rfl
theorem dX12_likeOf_1 : decode cX12_likeOf 1 = .ok (.getfield 7, 3) := zDec_at zB_dX12_likeOf_0 1 rfl
theorem dX12_likeOf_4 : decode cX12_likeOf 4 = .ok (.sipush 6986, 3) := zDec_at zB_dX12_likeOf_0 2 rfl
theorem dX12_likeOf_7 : decode cX12_likeOf 7 = .ok (.iconst 2, 1) := zDec_at zB_dX12_likeOf_0 3 rfl
theorem dX12_likeOf_8 : decode cX12_likeOf 8 = .ok (.iload_n 1, 1) := zDec_at zB_dX12_likeOf_0 4 rfl
theorem dX12_likeOf_9 : decode cX12_likeOf 9 = .ok (.imul, 1) := zDec_at zB_dX12_likeOf_0 5 rfl
theorem dX12_likeOf_10 : decode cX12_likeOf 10 = .ok (.iadd, 1) := zDec_at zB_dX12_likeOf_0 6 rfl
theorem dX12_likeOf_11 : decode cX12_likeOf 11 = .ok (.iconst 1, 1) := zDec_at zB_dX12_likeOf_0 7 rfl
theorem dX12_likeOf_12 : decode cX12_likeOf 12 = .ok (.iadd, 1) := zDec_at zB_dX12_likeOf_0 8 rfl
theorem dX12_likeOf_13 : decode cX12_likeOf 13 = .ok (.iaload, 1) := zDec_at zB_dX12_likeOf_0 9 rfl
theorem dX12_likeOf_14 : decode cX12_likeOf 14 = .ok (.istore_n 3, 1) := zDec_at zB_dX12_likeOf_0 10 rfl
theorem dX12_likeOf_15 : decode cX12_likeOf 15 = .ok (.aload_n 0, 1) := zDec_at zB_dX12_likeOf_0 11 rfl
theorem dX12_likeOf_16 : decode cX12_likeOf 16 = .ok (.getfield 7, 3) := zDec_at zB_dX12_likeOf_0 12 rfl
theorem dX12_likeOf_19 : decode cX12_likeOf 19 = .ok (.sipush 6980, 3) := zDec_at zB_dX12_likeOf_0 13 rfl
theorem dX12_likeOf_22 : decode cX12_likeOf 22 = .ok (.iload_n 2, 1) := zDec_at zB_dX12_likeOf_0 14 rfl
theorem dX12_likeOf_23 : decode cX12_likeOf 23 = .ok (.iadd, 1) := zDec_at zB_dX12_likeOf_0 15 rfl
theorem dX12_likeOf_24 : decode cX12_likeOf 24 = .ok (.iaload, 1) := zDec_at zB_dX12_likeOf_0 16 rfl
theorem dX12_likeOf_25 : decode cX12_likeOf 25 = .ok (.istore 4, 2) := zDec_at zB_dX12_likeOf_0 17 rfl
theorem dX12_likeOf_27 : decode cX12_likeOf 27 = .ok (.iconst 0, 1) := zDec_at zB_dX12_likeOf_0 18 rfl
theorem dX12_likeOf_28 : decode cX12_likeOf 28 = .ok (.istore 5, 2) := zDec_at zB_dX12_likeOf_0 19 rfl
theorem dX12_likeOf_30 : decode cX12_likeOf 30 = .ok (.iconst 0, 1) := zDec_at zB_dX12_likeOf_0 20 rfl
theorem dX12_likeOf_31 : decode cX12_likeOf 31 = .ok (.istore 6, 2) := zDec_at zB_dX12_likeOf_0 21 rfl
theorem dX12_likeOf_33 : decode cX12_likeOf 33 = .ok (.iload 6, 2) := zDec_at zB_dX12_likeOf_0 22 rfl
theorem dX12_likeOf_35 : decode cX12_likeOf 35 = .ok (.bipush 8, 2) := zDec_at zB_dX12_likeOf_0 23 rfl
theorem dX12_likeOf_37 : decode cX12_likeOf 37 = .ok (.if_icmp .ge 43, 3) := zDec_at zB_dX12_likeOf_0 24 rfl
theorem dX12_likeOf_40 : decode cX12_likeOf 40 = .ok (.iload 5, 2) := zDec_at zB_dX12_likeOf_0 25 rfl
theorem dX12_likeOf_42 : decode cX12_likeOf 42 = .ok (.iload_n 3, 1) := zDec_at zB_dX12_likeOf_0 26 rfl
theorem dX12_likeOf_43 : decode cX12_likeOf 43 = .ok (.bipush 10, 2) := zDec_at zB_dX12_likeOf_0 27 rfl
theorem dX12_likeOf_45 : decode cX12_likeOf 45 = .ok (.irem, 1) := zDec_at zB_dX12_likeOf_0 28 rfl
theorem dX12_likeOf_46 : decode cX12_likeOf 46 = .ok (.iload 4, 2) := zDec_at zB_dX12_likeOf_0 29 rfl
theorem dX12_likeOf_48 : decode cX12_likeOf 48 = .ok (.bipush 10, 2) := zDec_at zB_dX12_likeOf_0 30 rfl
theorem dX12_likeOf_50 : decode cX12_likeOf 50 = .ok (.irem, 1) := zDec_at zB_dX12_likeOf_0 31 rfl
theorem dX12_likeOf_51 : decode cX12_likeOf 51 = .ok (.if_icmp .ne 7, 3) := zDec_at zB_dX12_likeOf_0 32 rfl
theorem dX12_likeOf_54 : decode cX12_likeOf 54 = .ok (.iconst 1, 1) := zDec_at zB_dX12_likeOf_0 33 rfl
theorem dX12_likeOf_55 : decode cX12_likeOf 55 = .ok (.goto 4, 3) := zDec_at zB_dX12_likeOf_0 34 rfl
theorem dX12_likeOf_58 : decode cX12_likeOf 58 = .ok (.iconst 0, 1) := zDec_at zB_dX12_likeOf_0 35 rfl
theorem dX12_likeOf_59 : decode cX12_likeOf 59 = .ok (.iadd, 1) := zDec_at zB_dX12_likeOf_0 36 rfl
theorem dX12_likeOf_60 : decode cX12_likeOf 60 = .ok (.istore 5, 2) := zDec_at zB_dX12_likeOf_0 37 rfl
theorem dX12_likeOf_62 : decode cX12_likeOf 62 = .ok (.iload_n 3, 1) := zDec_at zB_dX12_likeOf_0 38 rfl
theorem dX12_likeOf_63 : decode cX12_likeOf 63 = .ok (.bipush 10, 2) := zDec_at zB_dX12_likeOf_0 39 rfl
theorem zB_dX12_likeOf_65 : zDecB cX12_likeOf [(65, .idiv, 1), (66, .istore_n 3, 1), (67, .iload 4, 2), (69, .bipush 10, 2), (71, .idiv, 1), (72, .istore 4, 2), (74, .iinc 6 1, 3), (77, .goto (-44), 3), (80, .iload 5, 2), (82, .ireturn, 1)] = true := by decide +kernel
theorem dX12_likeOf_65 : decode cX12_likeOf 65 = .ok (.idiv, 1) := zDec_at zB_dX12_likeOf_65 0 rfl
theorem dX12_likeOf_66 : decode cX12_likeOf 66 = .ok (.istore_n 3, 1) := zDec_at zB_dX12_likeOf_65 1 rfl
theorem dX12_likeOf_67 : decode cX12_likeOf 67 = .ok (.iload 4, 2) := zDec_at zB_dX12_likeOf_65 2 rfl
theorem dX12_likeOf_69 : decode cX12_likeOf 69 = .ok (.bipush 10, 2) := zDec_at zB_dX12_likeOf_65 3 rfl
theorem dX12_likeOf_71 : decode cX12_likeOf 71 = .ok (.idiv, 1) := zDec_at zB_dX12_likeOf_65 4 rfl
theorem dX12_likeOf_72 : decode cX12_likeOf 72 = .ok (.istore 4, 2) := zDec_at zB_dX12_likeOf_65 5 rfl
theorem dX12_likeOf_74 : decode cX12_likeOf 74 = .ok (.iinc 6 1, 3) := zDec_at zB_dX12_likeOf_65 6 rfl
theorem dX12_likeOf_77 : decode cX12_likeOf 77 = .ok (.goto (-44), 3) := zDec_at zB_dX12_likeOf_65 7 rfl
theorem dX12_likeOf_80 : decode cX12_likeOf 80 = .ok (.iload 5, 2) := zDec_at zB_dX12_likeOf_65 8 rfl
theorem dX12_likeOf_82 : decode cX12_likeOf 82 = .ok (.ireturn, 1) := zDec_at zB_dX12_likeOf_65 9 rfl
theorem zB_dX12_mark_0 : zDecB cX12_mark [(0, .aload_n 0, 1), (1, .iconst 0, 1), (2, .putfield 92, 3), (5, .iload_n 3, 1), (6, .invokestatic 145, 3), (9, .ifCond .eq 37, 3), (12, .iload 4, 2), (14, .i2l, 1), (15, .lconst 0, 1), (16, .ldc2_w 151, 3), (19, .invokestatic 100, 3), (22, .ifCond .eq 24, 3), (25, .iload 5, 2), (27, .i2l, 1), (28, .lconst 0, 1), (29, .ldc2_w 153, 3), (32, .invokestatic 100, 3), (35, .ifCond .eq 11, 3), (38, .iload 6, 2), (40, .invokestatic 127, 3), (43, .ifCond .ne 9, 3), (46, .aload_n 0, 1), (47, .iconst (-1), 1), (48, .invokevirtual 106, 3), (51, .ireturn, 1), (52, .aload_n 0, 1), (53, .iload_n 1, 1), (54, .invokevirtual 131, 3), (57, .ifCond .eq 11, 3), (60, .aload_n 0, 1), (61, .iload_n 2, 1), (62, .invokevirtual 138, 3), (65, .ifCond .ne 10, 3), (68, .aload_n 0, 1), (69, .bipush (-2), 2), (71, .invokevirtual 106, 3), (74, .ireturn, 1), (75, .iload_n 3, 1), (76, .iconst 2, 1), (77, .idiv, 1)] = true := by decide +kernel
theorem dX12_mark_0 : decode cX12_mark 0 = .ok (.aload_n 0, 1) := zDec_at zB_dX12_mark_0 0 rfl
theorem dX12_mark_1 : decode cX12_mark 1 = .ok (.iconst 0, 1) := zDec_at zB_dX12_mark_0 1 rfl
theorem dX12_mark_2 : decode cX12_mark 2 = .ok (.putfield 92, 3) := zDec_at zB_dX12_mark_0 2 rfl
theorem dX12_mark_5 : decode cX12_mark 5 = .ok (.iload_n 3, 1) := zDec_at zB_dX12_mark_0 3 rfl
theorem dX12_mark_6 : decode cX12_mark 6 = .ok (.invokestatic 145, 3) := zDec_at zB_dX12_mark_0 4 rfl
theorem dX12_mark_9 : decode cX12_mark 9 = .ok (.ifCond .eq 37, 3) := zDec_at zB_dX12_mark_0 5 rfl
theorem dX12_mark_12 : decode cX12_mark 12 = .ok (.iload 4, 2) := zDec_at zB_dX12_mark_0 6 rfl
theorem dX12_mark_14 : decode cX12_mark 14 = .ok (.i2l, 1) := zDec_at zB_dX12_mark_0 7 rfl
theorem dX12_mark_15 : decode cX12_mark 15 = .ok (.lconst 0, 1) := zDec_at zB_dX12_mark_0 8 rfl
theorem dX12_mark_16 : decode cX12_mark 16 = .ok (.ldc2_w 151, 3) := zDec_at zB_dX12_mark_0 9 rfl
theorem dX12_mark_19 : decode cX12_mark 19 = .ok (.invokestatic 100, 3) := zDec_at zB_dX12_mark_0 10 rfl
theorem dX12_mark_22 : decode cX12_mark 22 = .ok (.ifCond .eq 24, 3) := zDec_at zB_dX12_mark_0 11 rfl
theorem dX12_mark_25 : decode cX12_mark 25 = .ok (.iload 5, 2) := zDec_at zB_dX12_mark_0 12 rfl
theorem dX12_mark_27 : decode cX12_mark 27 = .ok (.i2l, 1) := zDec_at zB_dX12_mark_0 13 rfl
theorem dX12_mark_28 : decode cX12_mark 28 = .ok (.lconst 0, 1) := zDec_at zB_dX12_mark_0 14 rfl
theorem dX12_mark_29 : decode cX12_mark 29 = .ok (.ldc2_w 153, 3) := zDec_at zB_dX12_mark_0 15 rfl
theorem dX12_mark_32 : decode cX12_mark 32 = .ok (.invokestatic 100, 3) := zDec_at zB_dX12_mark_0 16 rfl
theorem dX12_mark_35 : decode cX12_mark 35 = .ok (.ifCond .eq 11, 3) := zDec_at zB_dX12_mark_0 17 rfl
theorem dX12_mark_38 : decode cX12_mark 38 = .ok (.iload 6, 2) := zDec_at zB_dX12_mark_0 18 rfl
theorem dX12_mark_40 : decode cX12_mark 40 = .ok (.invokestatic 127, 3) := zDec_at zB_dX12_mark_0 19 rfl
theorem dX12_mark_43 : decode cX12_mark 43 = .ok (.ifCond .ne 9, 3) := zDec_at zB_dX12_mark_0 20 rfl
theorem dX12_mark_46 : decode cX12_mark 46 = .ok (.aload_n 0, 1) := zDec_at zB_dX12_mark_0 21 rfl
theorem dX12_mark_47 : decode cX12_mark 47 = .ok (.iconst (-1), 1) := zDec_at zB_dX12_mark_0 22 rfl
theorem dX12_mark_48 : decode cX12_mark 48 = .ok (.invokevirtual 106, 3) := zDec_at zB_dX12_mark_0 23 rfl
theorem dX12_mark_51 : decode cX12_mark 51 = .ok (.ireturn, 1) := zDec_at zB_dX12_mark_0 24 rfl
theorem dX12_mark_52 : decode cX12_mark 52 = .ok (.aload_n 0, 1) := zDec_at zB_dX12_mark_0 25 rfl
theorem dX12_mark_53 : decode cX12_mark 53 = .ok (.iload_n 1, 1) := zDec_at zB_dX12_mark_0 26 rfl
theorem dX12_mark_54 : decode cX12_mark 54 = .ok (.invokevirtual 131, 3) := zDec_at zB_dX12_mark_0 27 rfl
theorem dX12_mark_57 : decode cX12_mark 57 = .ok (.ifCond .eq 11, 3) := zDec_at zB_dX12_mark_0 28 rfl
theorem dX12_mark_60 : decode cX12_mark 60 = .ok (.aload_n 0, 1) := zDec_at zB_dX12_mark_0 29 rfl
theorem dX12_mark_61 : decode cX12_mark 61 = .ok (.iload_n 2, 1) := zDec_at zB_dX12_mark_0 30 rfl
theorem dX12_mark_62 : decode cX12_mark 62 = .ok (.invokevirtual 138, 3) := zDec_at zB_dX12_mark_0 31 rfl
theorem dX12_mark_65 : decode cX12_mark 65 = .ok (.ifCond .ne 10, 3) := zDec_at zB_dX12_mark_0 32 rfl
theorem dX12_mark_68 : decode cX12_mark 68 = .ok (.aload_n 0, 1) := zDec_at zB_dX12_mark_0 33 rfl
theorem dX12_mark_69 : decode cX12_mark 69 = .ok (.bipush (-2), 2) := zDec_at zB_dX12_mark_0 34 rfl
theorem dX12_mark_71 : decode cX12_mark 71 = .ok (.invokevirtual 106, 3) := zDec_at zB_dX12_mark_0 35 rfl
theorem dX12_mark_74 : decode cX12_mark 74 = .ok (.ireturn, 1) := zDec_at zB_dX12_mark_0 36 rfl
theorem dX12_mark_75 : decode cX12_mark 75 = .ok (.iload_n 3, 1) := zDec_at zB_dX12_mark_0 37 rfl
theorem dX12_mark_76 : decode cX12_mark 76 = .ok (.iconst 2, 1) := zDec_at zB_dX12_mark_0 38 rfl
theorem dX12_mark_77 : decode cX12_mark 77 = .ok (.idiv, 1) := zDec_at zB_dX12_mark_0 39 rfl
theorem zB_dX12_mark_78 : zDecB cX12_mark [(78, .istore 7, 2), (80, .iload 7, 2), (82, .bipush 7, 2), (84, .irem, 1), (85, .iconst 4, 1), (86, .if_icmp .gt 35, 3), (89, .aload_n 0, 1), (90, .getfield 7, 3), (93, .sipush 700, 3), (96, .sipush 400, 3), (99, .iload_n 1, 1), (100, .imul, 1), (101, .iadd, 1), (102, .iload 7, 2), (104, .iadd, 1), (105, .iaload, 1), (106, .iconst 1, 1), (107, .if_icmp .eq 14, 3), (110, .aload_n 0, 1), (111, .iload_n 2, 1), (112, .iload_n 1, 1), (113, .iload 7, 2), (115, .invokevirtual 141, 3), (118, .ifCond .ne 10, 3), (121, .aload_n 0, 1), (122, .bipush (-3), 2), (124, .invokevirtual 106, 3), (127, .ireturn, 1), (128, .aload_n 0, 1), (129, .getfield 7, 3), (132, .iconst 3, 1), (133, .iaload, 1), (134, .sipush 400, 3), (137, .if_icmp .ne 10, 3), (140, .aload_n 0, 1), (141, .bipush (-5), 2), (143, .invokevirtual 106, 3), (146, .ireturn, 1), (147, .aload_n 0, 1), (148, .getfield 7, 3)] = true := by decide +kernel
theorem dX12_mark_78 : decode cX12_mark 78 = .ok (.istore 7, 2) := zDec_at zB_dX12_mark_78 0 rfl
theorem dX12_mark_80 : decode cX12_mark 80 = .ok (.iload 7, 2) := zDec_at zB_dX12_mark_78 1 rfl
theorem dX12_mark_82 : decode cX12_mark 82 = .ok (.bipush 7, 2) := zDec_at zB_dX12_mark_78 2 rfl
theorem dX12_mark_84 : decode cX12_mark 84 = .ok (.irem, 1) := zDec_at zB_dX12_mark_78 3 rfl
theorem dX12_mark_85 : decode cX12_mark 85 = .ok (.iconst 4, 1) := zDec_at zB_dX12_mark_78 4 rfl
theorem dX12_mark_86 : decode cX12_mark 86 = .ok (.if_icmp .gt 35, 3) := zDec_at zB_dX12_mark_78 5 rfl
theorem dX12_mark_89 : decode cX12_mark 89 = .ok (.aload_n 0, 1) := zDec_at zB_dX12_mark_78 6 rfl
theorem dX12_mark_90 : decode cX12_mark 90 = .ok (.getfield 7, 3) := zDec_at zB_dX12_mark_78 7 rfl
theorem dX12_mark_93 : decode cX12_mark 93 = .ok (.sipush 700, 3) := zDec_at zB_dX12_mark_78 8 rfl
theorem dX12_mark_96 : decode cX12_mark 96 = .ok (.sipush 400, 3) := zDec_at zB_dX12_mark_78 9 rfl
theorem dX12_mark_99 : decode cX12_mark 99 = .ok (.iload_n 1, 1) := zDec_at zB_dX12_mark_78 10 rfl
theorem dX12_mark_100 : decode cX12_mark 100 = .ok (.imul, 1) := zDec_at zB_dX12_mark_78 11 rfl
theorem dX12_mark_101 : decode cX12_mark 101 = .ok (.iadd, 1) := zDec_at zB_dX12_mark_78 12 rfl
theorem dX12_mark_102 : decode cX12_mark 102 = .ok (.iload 7, 2) := zDec_at zB_dX12_mark_78 13 rfl
theorem dX12_mark_104 : decode cX12_mark 104 = .ok (.iadd, 1) := zDec_at zB_dX12_mark_78 14 rfl
theorem dX12_mark_105 : decode cX12_mark 105 = .ok (.iaload, 1) := zDec_at zB_dX12_mark_78 15 rfl
theorem dX12_mark_106 : decode cX12_mark 106 = .ok (.iconst 1, 1) := zDec_at zB_dX12_mark_78 16 rfl
theorem dX12_mark_107 : decode cX12_mark 107 = .ok (.if_icmp .eq 14, 3) := zDec_at zB_dX12_mark_78 17 rfl
theorem dX12_mark_110 : decode cX12_mark 110 = .ok (.aload_n 0, 1) := zDec_at zB_dX12_mark_78 18 rfl
theorem dX12_mark_111 : decode cX12_mark 111 = .ok (.iload_n 2, 1) := zDec_at zB_dX12_mark_78 19 rfl
theorem dX12_mark_112 : decode cX12_mark 112 = .ok (.iload_n 1, 1) := zDec_at zB_dX12_mark_78 20 rfl
theorem dX12_mark_113 : decode cX12_mark 113 = .ok (.iload 7, 2) := zDec_at zB_dX12_mark_78 21 rfl
theorem dX12_mark_115 : decode cX12_mark 115 = .ok (.invokevirtual 141, 3) := zDec_at zB_dX12_mark_78 22 rfl
theorem dX12_mark_118 : decode cX12_mark 118 = .ok (.ifCond .ne 10, 3) := zDec_at zB_dX12_mark_78 23 rfl
theorem dX12_mark_121 : decode cX12_mark 121 = .ok (.aload_n 0, 1) := zDec_at zB_dX12_mark_78 24 rfl
theorem dX12_mark_122 : decode cX12_mark 122 = .ok (.bipush (-3), 2) := zDec_at zB_dX12_mark_78 25 rfl
theorem dX12_mark_124 : decode cX12_mark 124 = .ok (.invokevirtual 106, 3) := zDec_at zB_dX12_mark_78 26 rfl
theorem dX12_mark_127 : decode cX12_mark 127 = .ok (.ireturn, 1) := zDec_at zB_dX12_mark_78 27 rfl
theorem dX12_mark_128 : decode cX12_mark 128 = .ok (.aload_n 0, 1) := zDec_at zB_dX12_mark_78 28 rfl
theorem dX12_mark_129 : decode cX12_mark 129 = .ok (.getfield 7, 3) := zDec_at zB_dX12_mark_78 29 rfl
theorem dX12_mark_132 : decode cX12_mark 132 = .ok (.iconst 3, 1) := zDec_at zB_dX12_mark_78 30 rfl
theorem dX12_mark_133 : decode cX12_mark 133 = .ok (.iaload, 1) := zDec_at zB_dX12_mark_78 31 rfl
theorem dX12_mark_134 : decode cX12_mark 134 = .ok (.sipush 400, 3) := zDec_at zB_dX12_mark_78 32 rfl
theorem dX12_mark_137 : decode cX12_mark 137 = .ok (.if_icmp .ne 10, 3) := zDec_at zB_dX12_mark_78 33 rfl
theorem dX12_mark_140 : decode cX12_mark 140 = .ok (.aload_n 0, 1) := zDec_at zB_dX12_mark_78 34 rfl
theorem dX12_mark_141 : decode cX12_mark 141 = .ok (.bipush (-5), 2) := zDec_at zB_dX12_mark_78 35 rfl
theorem dX12_mark_143 : decode cX12_mark 143 = .ok (.invokevirtual 106, 3) := zDec_at zB_dX12_mark_78 36 rfl
theorem dX12_mark_146 : decode cX12_mark 146 = .ok (.ireturn, 1) := zDec_at zB_dX12_mark_78 37 rfl
theorem dX12_mark_147 : decode cX12_mark 147 = .ok (.aload_n 0, 1) := zDec_at zB_dX12_mark_78 38 rfl
theorem dX12_mark_148 : decode cX12_mark 148 = .ok (.getfield 7, 3) := zDec_at zB_dX12_mark_78 39 rfl
theorem zB_dX12_mark_151 : zDecB cX12_mark [(151, .iconst 3, 1), (152, .iaload, 1), (153, .invokestatic 155, 3), (156, .istore 8, 2), (158, .aload_n 0, 1), (159, .iload 8, 2), (161, .iload_n 1, 1), (162, .iload_n 2, 1), (163, .iload_n 3, 1), (164, .bipush 26, 2), (166, .iload 5, 2), (168, .imul, 1), (169, .iload 4, 2), (171, .iadd, 1), (172, .invokevirtual 123, 3), (175, .aload_n 0, 1), (176, .getfield 7, 3), (179, .iload 8, 2), (181, .iconst 4, 1), (182, .iadd, 1), (183, .iload 6, 2), (185, .iastore, 1), (186, .aload_n 0, 1), (187, .getfield 7, 3), (190, .iload 8, 2), (192, .iconst 5, 1), (193, .iadd, 1), (194, .iconst (-1), 1), (195, .iastore, 1), (196, .aload_n 0, 1), (197, .getfield 7, 3), (200, .iload 8, 2), (202, .bipush 6, 2), (204, .iadd, 1), (205, .iconst (-1), 1), (206, .iastore, 1), (207, .aload_n 0, 1), (208, .getfield 7, 3), (211, .iconst 3, 1), (212, .dup2, 1)] = true := by decide +kernel
theorem dX12_mark_151 : decode cX12_mark 151 = .ok (.iconst 3, 1) := zDec_at zB_dX12_mark_151 0 rfl
theorem dX12_mark_152 : decode cX12_mark 152 = .ok (.iaload, 1) := zDec_at zB_dX12_mark_151 1 rfl
theorem dX12_mark_153 : decode cX12_mark 153 = .ok (.invokestatic 155, 3) := zDec_at zB_dX12_mark_151 2 rfl
theorem dX12_mark_156 : decode cX12_mark 156 = .ok (.istore 8, 2) := zDec_at zB_dX12_mark_151 3 rfl
theorem dX12_mark_158 : decode cX12_mark 158 = .ok (.aload_n 0, 1) := zDec_at zB_dX12_mark_151 4 rfl
theorem dX12_mark_159 : decode cX12_mark 159 = .ok (.iload 8, 2) := zDec_at zB_dX12_mark_151 5 rfl
theorem dX12_mark_161 : decode cX12_mark 161 = .ok (.iload_n 1, 1) := zDec_at zB_dX12_mark_151 6 rfl
theorem dX12_mark_162 : decode cX12_mark 162 = .ok (.iload_n 2, 1) := zDec_at zB_dX12_mark_151 7 rfl
theorem dX12_mark_163 : decode cX12_mark 163 = .ok (.iload_n 3, 1) := zDec_at zB_dX12_mark_151 8 rfl
theorem dX12_mark_164 : decode cX12_mark 164 = .ok (.bipush 26, 2) := zDec_at zB_dX12_mark_151 9 rfl
theorem dX12_mark_166 : decode cX12_mark 166 = .ok (.iload 5, 2) := zDec_at zB_dX12_mark_151 10 rfl
theorem dX12_mark_168 : decode cX12_mark 168 = .ok (.imul, 1) := zDec_at zB_dX12_mark_151 11 rfl
theorem dX12_mark_169 : decode cX12_mark 169 = .ok (.iload 4, 2) := zDec_at zB_dX12_mark_151 12 rfl
theorem dX12_mark_171 : decode cX12_mark 171 = .ok (.iadd, 1) := zDec_at zB_dX12_mark_151 13 rfl
theorem dX12_mark_172 : decode cX12_mark 172 = .ok (.invokevirtual 123, 3) := zDec_at zB_dX12_mark_151 14 rfl
theorem dX12_mark_175 : decode cX12_mark 175 = .ok (.aload_n 0, 1) := zDec_at zB_dX12_mark_151 15 rfl
theorem dX12_mark_176 : decode cX12_mark 176 = .ok (.getfield 7, 3) := zDec_at zB_dX12_mark_151 16 rfl
theorem dX12_mark_179 : decode cX12_mark 179 = .ok (.iload 8, 2) := zDec_at zB_dX12_mark_151 17 rfl
theorem dX12_mark_181 : decode cX12_mark 181 = .ok (.iconst 4, 1) := zDec_at zB_dX12_mark_151 18 rfl
theorem dX12_mark_182 : decode cX12_mark 182 = .ok (.iadd, 1) := zDec_at zB_dX12_mark_151 19 rfl
theorem dX12_mark_183 : decode cX12_mark 183 = .ok (.iload 6, 2) := zDec_at zB_dX12_mark_151 20 rfl
theorem dX12_mark_185 : decode cX12_mark 185 = .ok (.iastore, 1) := zDec_at zB_dX12_mark_151 21 rfl
theorem dX12_mark_186 : decode cX12_mark 186 = .ok (.aload_n 0, 1) := zDec_at zB_dX12_mark_151 22 rfl
theorem dX12_mark_187 : decode cX12_mark 187 = .ok (.getfield 7, 3) := zDec_at zB_dX12_mark_151 23 rfl
theorem dX12_mark_190 : decode cX12_mark 190 = .ok (.iload 8, 2) := zDec_at zB_dX12_mark_151 24 rfl
theorem dX12_mark_192 : decode cX12_mark 192 = .ok (.iconst 5, 1) := zDec_at zB_dX12_mark_151 25 rfl
theorem dX12_mark_193 : decode cX12_mark 193 = .ok (.iadd, 1) := zDec_at zB_dX12_mark_151 26 rfl
theorem dX12_mark_194 : decode cX12_mark 194 = .ok (.iconst (-1), 1) := zDec_at zB_dX12_mark_151 27 rfl
theorem dX12_mark_195 : decode cX12_mark 195 = .ok (.iastore, 1) := zDec_at zB_dX12_mark_151 28 rfl
theorem dX12_mark_196 : decode cX12_mark 196 = .ok (.aload_n 0, 1) := zDec_at zB_dX12_mark_151 29 rfl
theorem dX12_mark_197 : decode cX12_mark 197 = .ok (.getfield 7, 3) := zDec_at zB_dX12_mark_151 30 rfl
theorem dX12_mark_200 : decode cX12_mark 200 = .ok (.iload 8, 2) := zDec_at zB_dX12_mark_151 31 rfl
theorem dX12_mark_202 : decode cX12_mark 202 = .ok (.bipush 6, 2) := zDec_at zB_dX12_mark_151 32 rfl
theorem dX12_mark_204 : decode cX12_mark 204 = .ok (.iadd, 1) := zDec_at zB_dX12_mark_151 33 rfl
theorem dX12_mark_205 : decode cX12_mark 205 = .ok (.iconst (-1), 1) := zDec_at zB_dX12_mark_151 34 rfl
theorem dX12_mark_206 : decode cX12_mark 206 = .ok (.iastore, 1) := zDec_at zB_dX12_mark_151 35 rfl
theorem dX12_mark_207 : decode cX12_mark 207 = .ok (.aload_n 0, 1) := zDec_at zB_dX12_mark_151 36 rfl
theorem dX12_mark_208 : decode cX12_mark 208 = .ok (.getfield 7, 3) := zDec_at zB_dX12_mark_151 37 rfl
theorem dX12_mark_211 : decode cX12_mark 211 = .ok (.iconst 3, 1) := zDec_at zB_dX12_mark_151 38 rfl
theorem dX12_mark_212 : decode cX12_mark 212 = .ok (.dup2, 1) := zDec_at zB_dX12_mark_151 39 rfl
theorem zB_dX12_mark_213 : zDecB cX12_mark [(213, .iaload, 1), (214, .iconst 1, 1), (215, .iadd, 1), (216, .iastore, 1), (217, .aload_n 0, 1), (218, .aload_n 0, 1), (219, .getfield 7, 3), (222, .iconst 3, 1), (223, .iaload, 1), (224, .iconst 1, 1), (225, .isub, 1), (226, .invokevirtual 106, 3), (229, .ireturn, 1)] = true := by decide +kernel
theorem dX12_mark_213 : decode cX12_mark 213 = .ok (.iaload, 1) := zDec_at zB_dX12_mark_213 0 rfl
theorem dX12_mark_214 : decode cX12_mark 214 = .ok (.iconst 1, 1) := zDec_at zB_dX12_mark_213 1 rfl
theorem dX12_mark_215 : decode cX12_mark 215 = .ok (.iadd, 1) := zDec_at zB_dX12_mark_213 2 rfl
theorem dX12_mark_216 : decode cX12_mark 216 = .ok (.iastore, 1) := zDec_at zB_dX12_mark_213 3 rfl
theorem dX12_mark_217 : decode cX12_mark 217 = .ok (.aload_n 0, 1) := zDec_at zB_dX12_mark_213 4 rfl
theorem dX12_mark_218 : decode cX12_mark 218 = .ok (.aload_n 0, 1) := zDec_at zB_dX12_mark_213 5 rfl
theorem dX12_mark_219 : decode cX12_mark 219 = .ok (.getfield 7, 3) := zDec_at zB_dX12_mark_213 6 rfl
theorem dX12_mark_222 : decode cX12_mark 222 = .ok (.iconst 3, 1) := zDec_at zB_dX12_mark_213 7 rfl
theorem dX12_mark_223 : decode cX12_mark 223 = .ok (.iaload, 1) := zDec_at zB_dX12_mark_213 8 rfl
theorem dX12_mark_224 : decode cX12_mark 224 = .ok (.iconst 1, 1) := zDec_at zB_dX12_mark_213 9 rfl
theorem dX12_mark_225 : decode cX12_mark 225 = .ok (.isub, 1) := zDec_at zB_dX12_mark_213 10 rfl
theorem dX12_mark_226 : decode cX12_mark 226 = .ok (.invokevirtual 106, 3) := zDec_at zB_dX12_mark_213 11 rfl
theorem dX12_mark_229 : decode cX12_mark 229 = .ok (.ireturn, 1) := zDec_at zB_dX12_mark_213 12 rfl
theorem zB_dX12_markAt_0 : zDecB cX12_markAt [(0, .sipush 3780, 3), (3, .bipush 8, 2), (5, .iload_n 0, 1), (6, .imul, 1), (7, .iadd, 1), (8, .ireturn, 1)] = true := by decide +kernel
theorem dX12_markAt_0 : decode cX12_markAt 0 = .ok (.sipush 3780, 3) := zDec_at zB_dX12_markAt_0 0 rfl
theorem dX12_markAt_3 : decode cX12_markAt 3 = .ok (.bipush 8, 2) := zDec_at zB_dX12_markAt_0 1 rfl
theorem dX12_markAt_5 : decode cX12_markAt 5 = .ok (.iload_n 0, 1) := zDec_at zB_dX12_markAt_0 2 rfl
theorem dX12_markAt_6 : decode cX12_markAt 6 = .ok (.imul, 1) := zDec_at zB_dX12_markAt_0 3 rfl
theorem dX12_markAt_7 : decode cX12_markAt 7 = .ok (.iadd, 1) := zDec_at zB_dX12_markAt_0 4 rfl
theorem dX12_markAt_8 : decode cX12_markAt 8 = .ok (.ireturn, 1) := zDec_at zB_dX12_markAt_0 5 rfl
theorem zB_dX12_minutesOf_0 : zDecB cX12_minutesOf [(0, .aload_n 0, 1), (1, .getfield 7, 3), (4, .bipush 7, 2), (6, .iaload, 1), (7, .istore 4, 2), (9, .iload_n 1, 1), (10, .ifCond .ne 7, 3), (17, .ldc_w 531, 3), (20, .istore 5, 2), (22, .iconst 0, 1), (23, .istore 6, 2), (25, .iconst 0, 1), (26, .istore 7, 2), (28, .iload 7, 2), (30, .iload 4, 2), (32, .if_icmp .ge 78, 3), (35, .iload_n 1, 1), (36, .iload 7, 2), (38, .ishr, 1), (39, .iconst 1, 1), (40, .iand, 1), (41, .iconst 1, 1), (42, .if_icmp .ne 62, 3), (45, .iload 6, 2), (47, .aload_n 0, 1), (48, .getfield 7, 3), (51, .sipush 6998, 3), (54, .iconst 3, 1), (55, .iload 7, 2), (57, .imul, 1), (58, .iadd, 1), (59, .iconst 1, 1), (60, .iadd, 1), (61, .iaload, 1), (62, .iadd, 1), (63, .istore 6, 2), (65, .aload_n 0, 1), (66, .getfield 80, 3), (69, .bipush 9, 2), (71, .iload_n 1, 1)] = true := by decide +kernel
theorem dX12_minutesOf_0 : decode cX12_minutesOf 0 = .ok (.aload_n 0, 1) := zDec_at zB_dX12_minutesOf_0 0 rfl
theorem dX12_minutesOf_1 : decode cX12_minutesOf 1 = .ok (.getfield 7, 3) := zDec_at zB_dX12_minutesOf_0 1 rfl
theorem dX12_minutesOf_4 : decode cX12_minutesOf 4 = .ok (.bipush 7, 2) := zDec_at zB_dX12_minutesOf_0 2 rfl
theorem dX12_minutesOf_6 : decode cX12_minutesOf 6 = .ok (.iaload, 1) := zDec_at zB_dX12_minutesOf_0 3 rfl
theorem dX12_minutesOf_7 : decode cX12_minutesOf 7 = .ok (.istore 4, 2) := zDec_at zB_dX12_minutesOf_0 4 rfl
theorem dX12_minutesOf_9 : decode cX12_minutesOf 9 = .ok (.iload_n 1, 1) := zDec_at zB_dX12_minutesOf_0 5 rfl
theorem dX12_minutesOf_10 : decode cX12_minutesOf 10 = .ok (.ifCond .ne 7, 3) := zDec_at zB_dX12_minutesOf_0 6 rfl
theorem dX12_minutesOf_17 : decode cX12_minutesOf 17 = .ok (.ldc_w 531, 3) := zDec_at zB_dX12_minutesOf_0 7 rfl
theorem dX12_minutesOf_20 : decode cX12_minutesOf 20 = .ok (.istore 5, 2) := zDec_at zB_dX12_minutesOf_0 8 rfl
theorem dX12_minutesOf_22 : decode cX12_minutesOf 22 = .ok (.iconst 0, 1) := zDec_at zB_dX12_minutesOf_0 9 rfl
theorem dX12_minutesOf_23 : decode cX12_minutesOf 23 = .ok (.istore 6, 2) := zDec_at zB_dX12_minutesOf_0 10 rfl
theorem dX12_minutesOf_25 : decode cX12_minutesOf 25 = .ok (.iconst 0, 1) := zDec_at zB_dX12_minutesOf_0 11 rfl
theorem dX12_minutesOf_26 : decode cX12_minutesOf 26 = .ok (.istore 7, 2) := zDec_at zB_dX12_minutesOf_0 12 rfl
theorem dX12_minutesOf_28 : decode cX12_minutesOf 28 = .ok (.iload 7, 2) := zDec_at zB_dX12_minutesOf_0 13 rfl
theorem dX12_minutesOf_30 : decode cX12_minutesOf 30 = .ok (.iload 4, 2) := zDec_at zB_dX12_minutesOf_0 14 rfl
theorem dX12_minutesOf_32 : decode cX12_minutesOf 32 = .ok (.if_icmp .ge 78, 3) := zDec_at zB_dX12_minutesOf_0 15 rfl
theorem dX12_minutesOf_35 : decode cX12_minutesOf 35 = .ok (.iload_n 1, 1) := zDec_at zB_dX12_minutesOf_0 16 rfl
theorem dX12_minutesOf_36 : decode cX12_minutesOf 36 = .ok (.iload 7, 2) := zDec_at zB_dX12_minutesOf_0 17 rfl
theorem dX12_minutesOf_38 : decode cX12_minutesOf 38 = .ok (.ishr, 1) := zDec_at zB_dX12_minutesOf_0 18 rfl
theorem dX12_minutesOf_39 : decode cX12_minutesOf 39 = .ok (.iconst 1, 1) := zDec_at zB_dX12_minutesOf_0 19 rfl
theorem dX12_minutesOf_40 : decode cX12_minutesOf 40 = .ok (.iand, 1) := zDec_at zB_dX12_minutesOf_0 20 rfl
theorem dX12_minutesOf_41 : decode cX12_minutesOf 41 = .ok (.iconst 1, 1) := zDec_at zB_dX12_minutesOf_0 21 rfl
theorem dX12_minutesOf_42 : decode cX12_minutesOf 42 = .ok (.if_icmp .ne 62, 3) := zDec_at zB_dX12_minutesOf_0 22 rfl
theorem dX12_minutesOf_45 : decode cX12_minutesOf 45 = .ok (.iload 6, 2) := zDec_at zB_dX12_minutesOf_0 23 rfl
theorem dX12_minutesOf_47 : decode cX12_minutesOf 47 = .ok (.aload_n 0, 1) := zDec_at zB_dX12_minutesOf_0 24 rfl
theorem dX12_minutesOf_48 : decode cX12_minutesOf 48 = .ok (.getfield 7, 3) := zDec_at zB_dX12_minutesOf_0 25 rfl
theorem dX12_minutesOf_51 : decode cX12_minutesOf 51 = .ok (.sipush 6998, 3) := zDec_at zB_dX12_minutesOf_0 26 rfl
theorem dX12_minutesOf_54 : decode cX12_minutesOf 54 = .ok (.iconst 3, 1) := zDec_at zB_dX12_minutesOf_0 27 rfl
theorem dX12_minutesOf_55 : decode cX12_minutesOf 55 = .ok (.iload 7, 2) := zDec_at zB_dX12_minutesOf_0 28 rfl
theorem dX12_minutesOf_57 : decode cX12_minutesOf 57 = .ok (.imul, 1) := zDec_at zB_dX12_minutesOf_0 29 rfl
theorem dX12_minutesOf_58 : decode cX12_minutesOf 58 = .ok (.iadd, 1) := zDec_at zB_dX12_minutesOf_0 30 rfl
theorem dX12_minutesOf_59 : decode cX12_minutesOf 59 = .ok (.iconst 1, 1) := zDec_at zB_dX12_minutesOf_0 31 rfl
theorem dX12_minutesOf_60 : decode cX12_minutesOf 60 = .ok (.iadd, 1) := zDec_at zB_dX12_minutesOf_0 32 rfl
theorem dX12_minutesOf_61 : decode cX12_minutesOf 61 = .ok (.iaload, 1) := zDec_at zB_dX12_minutesOf_0 33 rfl
theorem dX12_minutesOf_62 : decode cX12_minutesOf 62 = .ok (.iadd, 1) := zDec_at zB_dX12_minutesOf_0 34 rfl
theorem dX12_minutesOf_63 : decode cX12_minutesOf 63 = .ok (.istore 6, 2) := zDec_at zB_dX12_minutesOf_0 35 rfl
theorem dX12_minutesOf_65 : decode cX12_minutesOf 65 = .ok (.aload_n 0, 1) := zDec_at zB_dX12_minutesOf_0 36 rfl
theorem dX12_minutesOf_66 : decode cX12_minutesOf 66 = .ok (.getfield 80, 3) := zDec_at zB_dX12_minutesOf_0 37 rfl
theorem dX12_minutesOf_69 : decode cX12_minutesOf 69 = .ok (.bipush 9, 2) := zDec_at zB_dX12_minutesOf_0 38 rfl
theorem dX12_minutesOf_71 : decode cX12_minutesOf 71 = .ok (.iload_n 1, 1) := zDec_at zB_dX12_minutesOf_0 39 rfl
theorem zB_dX12_minutesOf_72 : zDecB cX12_minutesOf [(72, .imul, 1), (73, .iload 7, 2), (75, .iadd, 1), (76, .iaload, 1), (77, .aload_n 0, 1), (78, .iload 7, 2), (80, .iload_n 2, 1), (81, .iload_n 3, 1), (82, .invokevirtual 528, 3), (85, .iadd, 1), (86, .istore 8, 2), (88, .iload 8, 2), (90, .iload 5, 2), (92, .if_icmp .ge 8, 3), (95, .iload 8, 2), (97, .goto 5, 3), (100, .iload 5, 2), (102, .istore 5, 2), (104, .iinc 7 1, 3), (107, .goto (-79), 3), (110, .iload 5, 2), (112, .iload 6, 2), (114, .iadd, 1), (115, .ireturn, 1)] = true := by decide +kernel
theorem dX12_minutesOf_72 : decode cX12_minutesOf 72 = .ok (.imul, 1) := zDec_at zB_dX12_minutesOf_72 0 rfl
theorem dX12_minutesOf_73 : decode cX12_minutesOf 73 = .ok (.iload 7, 2) := zDec_at zB_dX12_minutesOf_72 1 rfl
theorem dX12_minutesOf_75 : decode cX12_minutesOf 75 = .ok (.iadd, 1) := zDec_at zB_dX12_minutesOf_72 2 rfl
theorem dX12_minutesOf_76 : decode cX12_minutesOf 76 = .ok (.iaload, 1) := zDec_at zB_dX12_minutesOf_72 3 rfl
theorem dX12_minutesOf_77 : decode cX12_minutesOf 77 = .ok (.aload_n 0, 1) := zDec_at zB_dX12_minutesOf_72 4 rfl
theorem dX12_minutesOf_78 : decode cX12_minutesOf 78 = .ok (.iload 7, 2) := zDec_at zB_dX12_minutesOf_72 5 rfl
theorem dX12_minutesOf_80 : decode cX12_minutesOf 80 = .ok (.iload_n 2, 1) := zDec_at zB_dX12_minutesOf_72 6 rfl
theorem dX12_minutesOf_81 : decode cX12_minutesOf 81 = .ok (.iload_n 3, 1) := zDec_at zB_dX12_minutesOf_72 7 rfl
theorem dX12_minutesOf_82 : decode cX12_minutesOf 82 = .ok (.invokevirtual 528, 3) := zDec_at zB_dX12_minutesOf_72 8 rfl
theorem dX12_minutesOf_85 : decode cX12_minutesOf 85 = .ok (.iadd, 1) := zDec_at zB_dX12_minutesOf_72 9 rfl
theorem dX12_minutesOf_86 : decode cX12_minutesOf 86 = .ok (.istore 8, 2) := zDec_at zB_dX12_minutesOf_72 10 rfl
theorem dX12_minutesOf_88 : decode cX12_minutesOf 88 = .ok (.iload 8, 2) := zDec_at zB_dX12_minutesOf_72 11 rfl
theorem dX12_minutesOf_90 : decode cX12_minutesOf 90 = .ok (.iload 5, 2) := zDec_at zB_dX12_minutesOf_72 12 rfl
theorem dX12_minutesOf_92 : decode cX12_minutesOf 92 = .ok (.if_icmp .ge 8, 3) := zDec_at zB_dX12_minutesOf_72 13 rfl
theorem dX12_minutesOf_95 : decode cX12_minutesOf 95 = .ok (.iload 8, 2) := zDec_at zB_dX12_minutesOf_72 14 rfl
theorem dX12_minutesOf_97 : decode cX12_minutesOf 97 = .ok (.goto 5, 3) := zDec_at zB_dX12_minutesOf_72 15 rfl
theorem dX12_minutesOf_100 : decode cX12_minutesOf 100 = .ok (.iload 5, 2) := zDec_at zB_dX12_minutesOf_72 16 rfl
theorem dX12_minutesOf_102 : decode cX12_minutesOf 102 = .ok (.istore 5, 2) := zDec_at zB_dX12_minutesOf_72 17 rfl
theorem dX12_minutesOf_104 : decode cX12_minutesOf 104 = .ok (.iinc 7 1, 3) := zDec_at zB_dX12_minutesOf_72 18 rfl
theorem dX12_minutesOf_107 : decode cX12_minutesOf 107 = .ok (.goto (-79), 3) := zDec_at zB_dX12_minutesOf_72 19 rfl
theorem dX12_minutesOf_110 : decode cX12_minutesOf 110 = .ok (.iload 5, 2) := zDec_at zB_dX12_minutesOf_72 20 rfl
theorem dX12_minutesOf_112 : decode cX12_minutesOf 112 = .ok (.iload 6, 2) := zDec_at zB_dX12_minutesOf_72 21 rfl
theorem dX12_minutesOf_114 : decode cX12_minutesOf 114 = .ok (.iadd, 1) := zDec_at zB_dX12_minutesOf_72 22 rfl
theorem dX12_minutesOf_115 : decode cX12_minutesOf 115 = .ok (.ireturn, 1) := zDec_at zB_dX12_minutesOf_72 23 rfl
theorem zB_dX12_missing_0 : zDecB cX12_missing [(0, .aload_n 0, 1), (1, .iconst 0, 1), (2, .putfield 92, 3), (5, .iload_n 2, 1), (6, .i2l, 1), (7, .lconst 0, 1), (8, .ldc2_w 496, 3), (11, .invokestatic 100, 3), (14, .ifCond .ne 9, 3), (17, .aload_n 0, 1), (18, .iconst (-1), 1), (19, .invokevirtual 106, 3), (22, .ireturn, 1), (23, .aload_n 0, 1), (24, .iload_n 1, 1), (25, .invokevirtual 138, 3), (28, .ifCond .ne 10, 3), (31, .aload_n 0, 1), (32, .bipush (-2), 2), (34, .invokevirtual 106, 3), (37, .ireturn, 1), (38, .iconst 0, 1), (39, .istore_n 3, 1), (40, .iload_n 3, 1), (41, .aload_n 0, 1), (42, .getfield 7, 3), (45, .bipush 6, 2), (47, .iaload, 1), (48, .if_icmp .ge 32, 3), (51, .aload_n 0, 1), (52, .getfield 7, 3), (55, .sipush 6986, 3), (58, .iconst 2, 1), (59, .iload_n 3, 1), (60, .imul, 1), (61, .iadd, 1), (62, .iaload, 1), (63, .iload_n 1, 1), (64, .if_icmp .ne 10, 3), (67, .aload_n 0, 1)] = true := by decide +kernel
theorem dX12_missing_0 : decode cX12_missing 0 = .ok (.aload_n 0, 1) := zDec_at zB_dX12_missing_0 0 rfl
theorem dX12_missing_1 : decode cX12_missing 1 = .ok (.iconst 0, 1) := zDec_at zB_dX12_missing_0 1 rfl
theorem dX12_missing_2 : decode cX12_missing 2 = .ok (.putfield 92, 3) := zDec_at zB_dX12_missing_0 2 rfl
theorem dX12_missing_5 : decode cX12_missing 5 = .ok (.iload_n 2, 1) := zDec_at zB_dX12_missing_0 3 rfl
theorem dX12_missing_6 : decode cX12_missing 6 = .ok (.i2l, 1) := zDec_at zB_dX12_missing_0 4 rfl
theorem dX12_missing_7 : decode cX12_missing 7 = .ok (.lconst 0, 1) := zDec_at zB_dX12_missing_0 5 rfl
theorem dX12_missing_8 : decode cX12_missing 8 = .ok (.ldc2_w 496, 3) := zDec_at zB_dX12_missing_0 6 rfl
theorem dX12_missing_11 : decode cX12_missing 11 = .ok (.invokestatic 100, 3) := zDec_at zB_dX12_missing_0 7 rfl
theorem dX12_missing_14 : decode cX12_missing 14 = .ok (.ifCond .ne 9, 3) := zDec_at zB_dX12_missing_0 8 rfl
theorem dX12_missing_17 : decode cX12_missing 17 = .ok (.aload_n 0, 1) := zDec_at zB_dX12_missing_0 9 rfl
theorem dX12_missing_18 : decode cX12_missing 18 = .ok (.iconst (-1), 1) := zDec_at zB_dX12_missing_0 10 rfl
theorem dX12_missing_19 : decode cX12_missing 19 = .ok (.invokevirtual 106, 3) := zDec_at zB_dX12_missing_0 11 rfl
theorem dX12_missing_22 : decode cX12_missing 22 = .ok (.ireturn, 1) := zDec_at zB_dX12_missing_0 12 rfl
theorem dX12_missing_23 : decode cX12_missing 23 = .ok (.aload_n 0, 1) := zDec_at zB_dX12_missing_0 13 rfl
theorem dX12_missing_24 : decode cX12_missing 24 = .ok (.iload_n 1, 1) := zDec_at zB_dX12_missing_0 14 rfl
theorem dX12_missing_25 : decode cX12_missing 25 = .ok (.invokevirtual 138, 3) := zDec_at zB_dX12_missing_0 15 rfl
theorem dX12_missing_28 : decode cX12_missing 28 = .ok (.ifCond .ne 10, 3) := zDec_at zB_dX12_missing_0 16 rfl
theorem dX12_missing_31 : decode cX12_missing 31 = .ok (.aload_n 0, 1) := zDec_at zB_dX12_missing_0 17 rfl
theorem dX12_missing_32 : decode cX12_missing 32 = .ok (.bipush (-2), 2) := zDec_at zB_dX12_missing_0 18 rfl
theorem dX12_missing_34 : decode cX12_missing 34 = .ok (.invokevirtual 106, 3) := zDec_at zB_dX12_missing_0 19 rfl
theorem dX12_missing_37 : decode cX12_missing 37 = .ok (.ireturn, 1) := zDec_at zB_dX12_missing_0 20 rfl
theorem dX12_missing_38 : decode cX12_missing 38 = .ok (.iconst 0, 1) := zDec_at zB_dX12_missing_0 21 rfl
theorem dX12_missing_39 : decode cX12_missing 39 = .ok (.istore_n 3, 1) := zDec_at zB_dX12_missing_0 22 rfl
theorem dX12_missing_40 : decode cX12_missing 40 = .ok (.iload_n 3, 1) := zDec_at zB_dX12_missing_0 23 rfl
theorem dX12_missing_41 : decode cX12_missing 41 = .ok (.aload_n 0, 1) := zDec_at zB_dX12_missing_0 24 rfl
theorem dX12_missing_42 : decode cX12_missing 42 = .ok (.getfield 7, 3) := zDec_at zB_dX12_missing_0 25 rfl
theorem dX12_missing_45 : decode cX12_missing 45 = .ok (.bipush 6, 2) := zDec_at zB_dX12_missing_0 26 rfl
theorem dX12_missing_47 : decode cX12_missing 47 = .ok (.iaload, 1) := zDec_at zB_dX12_missing_0 27 rfl
theorem dX12_missing_48 : decode cX12_missing 48 = .ok (.if_icmp .ge 32, 3) := zDec_at zB_dX12_missing_0 28 rfl
theorem dX12_missing_51 : decode cX12_missing 51 = .ok (.aload_n 0, 1) := zDec_at zB_dX12_missing_0 29 rfl
theorem dX12_missing_52 : decode cX12_missing 52 = .ok (.getfield 7, 3) := zDec_at zB_dX12_missing_0 30 rfl
theorem dX12_missing_55 : decode cX12_missing 55 = .ok (.sipush 6986, 3) := zDec_at zB_dX12_missing_0 31 rfl
theorem dX12_missing_58 : decode cX12_missing 58 = .ok (.iconst 2, 1) := zDec_at zB_dX12_missing_0 32 rfl
theorem dX12_missing_59 : decode cX12_missing 59 = .ok (.iload_n 3, 1) := zDec_at zB_dX12_missing_0 33 rfl
theorem dX12_missing_60 : decode cX12_missing 60 = .ok (.imul, 1) := zDec_at zB_dX12_missing_0 34 rfl
theorem dX12_missing_61 : decode cX12_missing 61 = .ok (.iadd, 1) := zDec_at zB_dX12_missing_0 35 rfl
theorem dX12_missing_62 : decode cX12_missing 62 = .ok (.iaload, 1) := zDec_at zB_dX12_missing_0 36 rfl
theorem dX12_missing_63 : decode cX12_missing 63 = .ok (.iload_n 1, 1) := zDec_at zB_dX12_missing_0 37 rfl
theorem dX12_missing_64 : decode cX12_missing 64 = .ok (.if_icmp .ne 10, 3) := zDec_at zB_dX12_missing_0 38 rfl
theorem dX12_missing_67 : decode cX12_missing 67 = .ok (.aload_n 0, 1) := zDec_at zB_dX12_missing_0 39 rfl
theorem zB_dX12_missing_68 : zDecB cX12_missing [(68, .bipush (-4), 2), (70, .invokevirtual 106, 3), (73, .ireturn, 1), (74, .iinc 3 1, 3), (77, .goto (-37), 3), (80, .aload_n 0, 1), (81, .getfield 7, 3), (84, .bipush 6, 2), (86, .iaload, 1), (87, .bipush 6, 2), (89, .if_icmp .ne 10, 3), (92, .aload_n 0, 1), (93, .bipush (-5), 2), (95, .invokevirtual 106, 3), (98, .ireturn, 1), (99, .aload_n 0, 1), (100, .getfield 7, 3), (103, .sipush 6986, 3), (106, .iconst 2, 1), (107, .aload_n 0, 1), (108, .getfield 7, 3), (111, .bipush 6, 2), (113, .iaload, 1), (114, .imul, 1), (115, .iadd, 1), (116, .iload_n 1, 1), (117, .iastore, 1), (118, .aload_n 0, 1), (119, .getfield 7, 3), (122, .sipush 6986, 3), (125, .iconst 2, 1), (126, .aload_n 0, 1), (127, .getfield 7, 3), (130, .bipush 6, 2), (132, .iaload, 1), (133, .imul, 1), (134, .iadd, 1), (135, .iconst 1, 1), (136, .iadd, 1), (137, .iload_n 2, 1)] = true := by decide +kernel
theorem dX12_missing_68 : decode cX12_missing 68 = .ok (.bipush (-4), 2) := zDec_at zB_dX12_missing_68 0 rfl
theorem dX12_missing_70 : decode cX12_missing 70 = .ok (.invokevirtual 106, 3) := zDec_at zB_dX12_missing_68 1 rfl
theorem dX12_missing_73 : decode cX12_missing 73 = .ok (.ireturn, 1) := zDec_at zB_dX12_missing_68 2 rfl
theorem dX12_missing_74 : decode cX12_missing 74 = .ok (.iinc 3 1, 3) := zDec_at zB_dX12_missing_68 3 rfl
theorem dX12_missing_77 : decode cX12_missing 77 = .ok (.goto (-37), 3) := zDec_at zB_dX12_missing_68 4 rfl
theorem dX12_missing_80 : decode cX12_missing 80 = .ok (.aload_n 0, 1) := zDec_at zB_dX12_missing_68 5 rfl
theorem dX12_missing_81 : decode cX12_missing 81 = .ok (.getfield 7, 3) := zDec_at zB_dX12_missing_68 6 rfl
theorem dX12_missing_84 : decode cX12_missing 84 = .ok (.bipush 6, 2) := zDec_at zB_dX12_missing_68 7 rfl
theorem dX12_missing_86 : decode cX12_missing 86 = .ok (.iaload, 1) := zDec_at zB_dX12_missing_68 8 rfl
theorem dX12_missing_87 : decode cX12_missing 87 = .ok (.bipush 6, 2) := zDec_at zB_dX12_missing_68 9 rfl
theorem dX12_missing_89 : decode cX12_missing 89 = .ok (.if_icmp .ne 10, 3) := zDec_at zB_dX12_missing_68 10 rfl
theorem dX12_missing_92 : decode cX12_missing 92 = .ok (.aload_n 0, 1) := zDec_at zB_dX12_missing_68 11 rfl
theorem dX12_missing_93 : decode cX12_missing 93 = .ok (.bipush (-5), 2) := zDec_at zB_dX12_missing_68 12 rfl
theorem dX12_missing_95 : decode cX12_missing 95 = .ok (.invokevirtual 106, 3) := zDec_at zB_dX12_missing_68 13 rfl
theorem dX12_missing_98 : decode cX12_missing 98 = .ok (.ireturn, 1) := zDec_at zB_dX12_missing_68 14 rfl
theorem dX12_missing_99 : decode cX12_missing 99 = .ok (.aload_n 0, 1) := zDec_at zB_dX12_missing_68 15 rfl
theorem dX12_missing_100 : decode cX12_missing 100 = .ok (.getfield 7, 3) := zDec_at zB_dX12_missing_68 16 rfl
theorem dX12_missing_103 : decode cX12_missing 103 = .ok (.sipush 6986, 3) := zDec_at zB_dX12_missing_68 17 rfl
theorem dX12_missing_106 : decode cX12_missing 106 = .ok (.iconst 2, 1) := zDec_at zB_dX12_missing_68 18 rfl
theorem dX12_missing_107 : decode cX12_missing 107 = .ok (.aload_n 0, 1) := zDec_at zB_dX12_missing_68 19 rfl
theorem dX12_missing_108 : decode cX12_missing 108 = .ok (.getfield 7, 3) := zDec_at zB_dX12_missing_68 20 rfl
theorem dX12_missing_111 : decode cX12_missing 111 = .ok (.bipush 6, 2) := zDec_at zB_dX12_missing_68 21 rfl
theorem dX12_missing_113 : decode cX12_missing 113 = .ok (.iaload, 1) := zDec_at zB_dX12_missing_68 22 rfl
theorem dX12_missing_114 : decode cX12_missing 114 = .ok (.imul, 1) := zDec_at zB_dX12_missing_68 23 rfl
theorem dX12_missing_115 : decode cX12_missing 115 = .ok (.iadd, 1) := zDec_at zB_dX12_missing_68 24 rfl
theorem dX12_missing_116 : decode cX12_missing 116 = .ok (.iload_n 1, 1) := zDec_at zB_dX12_missing_68 25 rfl
theorem dX12_missing_117 : decode cX12_missing 117 = .ok (.iastore, 1) := zDec_at zB_dX12_missing_68 26 rfl
theorem dX12_missing_118 : decode cX12_missing 118 = .ok (.aload_n 0, 1) := zDec_at zB_dX12_missing_68 27 rfl
theorem dX12_missing_119 : decode cX12_missing 119 = .ok (.getfield 7, 3) := zDec_at zB_dX12_missing_68 28 rfl
theorem dX12_missing_122 : decode cX12_missing 122 = .ok (.sipush 6986, 3) := zDec_at zB_dX12_missing_68 29 rfl
theorem dX12_missing_125 : decode cX12_missing 125 = .ok (.iconst 2, 1) := zDec_at zB_dX12_missing_68 30 rfl
theorem dX12_missing_126 : decode cX12_missing 126 = .ok (.aload_n 0, 1) := zDec_at zB_dX12_missing_68 31 rfl
theorem dX12_missing_127 : decode cX12_missing 127 = .ok (.getfield 7, 3) := zDec_at zB_dX12_missing_68 32 rfl
theorem dX12_missing_130 : decode cX12_missing 130 = .ok (.bipush 6, 2) := zDec_at zB_dX12_missing_68 33 rfl
theorem dX12_missing_132 : decode cX12_missing 132 = .ok (.iaload, 1) := zDec_at zB_dX12_missing_68 34 rfl
theorem dX12_missing_133 : decode cX12_missing 133 = .ok (.imul, 1) := zDec_at zB_dX12_missing_68 35 rfl
theorem dX12_missing_134 : decode cX12_missing 134 = .ok (.iadd, 1) := zDec_at zB_dX12_missing_68 36 rfl
theorem dX12_missing_135 : decode cX12_missing 135 = .ok (.iconst 1, 1) := zDec_at zB_dX12_missing_68 37 rfl
theorem dX12_missing_136 : decode cX12_missing 136 = .ok (.iadd, 1) := zDec_at zB_dX12_missing_68 38 rfl
theorem dX12_missing_137 : decode cX12_missing 137 = .ok (.iload_n 2, 1) := zDec_at zB_dX12_missing_68 39 rfl
theorem zB_dX12_missing_138 : zDecB cX12_missing [(138, .iastore, 1), (139, .aload_n 0, 1), (140, .getfield 7, 3), (143, .bipush 6, 2), (145, .dup2, 1), (146, .iaload, 1), (147, .iconst 1, 1), (148, .iadd, 1), (149, .iastore, 1), (150, .aload_n 0, 1), (151, .aload_n 0, 1), (152, .getfield 7, 3), (155, .bipush 6, 2), (157, .iaload, 1), (158, .invokevirtual 106, 3), (161, .ireturn, 1)] = true := by decide +kernel
theorem dX12_missing_138 : decode cX12_missing 138 = .ok (.iastore, 1) := zDec_at zB_dX12_missing_138 0 rfl
theorem dX12_missing_139 : decode cX12_missing 139 = .ok (.aload_n 0, 1) := zDec_at zB_dX12_missing_138 1 rfl
theorem dX12_missing_140 : decode cX12_missing 140 = .ok (.getfield 7, 3) := zDec_at zB_dX12_missing_138 2 rfl
theorem dX12_missing_143 : decode cX12_missing 143 = .ok (.bipush 6, 2) := zDec_at zB_dX12_missing_138 3 rfl
theorem dX12_missing_145 : decode cX12_missing 145 = .ok (.dup2, 1) := zDec_at zB_dX12_missing_138 4 rfl
theorem dX12_missing_146 : decode cX12_missing 146 = .ok (.iaload, 1) := zDec_at zB_dX12_missing_138 5 rfl
theorem dX12_missing_147 : decode cX12_missing 147 = .ok (.iconst 1, 1) := zDec_at zB_dX12_missing_138 6 rfl
theorem dX12_missing_148 : decode cX12_missing 148 = .ok (.iadd, 1) := zDec_at zB_dX12_missing_138 7 rfl
theorem dX12_missing_149 : decode cX12_missing 149 = .ok (.iastore, 1) := zDec_at zB_dX12_missing_138 8 rfl
theorem dX12_missing_150 : decode cX12_missing 150 = .ok (.aload_n 0, 1) := zDec_at zB_dX12_missing_138 9 rfl
theorem dX12_missing_151 : decode cX12_missing 151 = .ok (.aload_n 0, 1) := zDec_at zB_dX12_missing_138 10 rfl
theorem dX12_missing_152 : decode cX12_missing 152 = .ok (.getfield 7, 3) := zDec_at zB_dX12_missing_138 11 rfl
theorem dX12_missing_155 : decode cX12_missing 155 = .ok (.bipush 6, 2) := zDec_at zB_dX12_missing_138 12 rfl
theorem dX12_missing_157 : decode cX12_missing 157 = .ok (.iaload, 1) := zDec_at zB_dX12_missing_138 13 rfl
theorem dX12_missing_158 : decode cX12_missing 158 = .ok (.invokevirtual 106, 3) := zDec_at zB_dX12_missing_138 14 rfl
theorem dX12_missing_161 : decode cX12_missing 161 = .ok (.ireturn, 1) := zDec_at zB_dX12_missing_138 15 rfl
theorem zB_dX12_off_0 : zDecB cX12_off [(0, .aload_n 0, 1), (1, .iconst 0, 1), (2, .putfield 92, 3), (5, .aload_n 0, 1), (6, .iload_n 1, 1), (7, .invokevirtual 138, 3), (10, .ifCond .eq 17, 3), (13, .iload_n 2, 1), (14, .invokestatic 127, 3), (17, .ifCond .eq 10, 3), (20, .iload_n 3, 1), (21, .invokestatic 127, 3), (24, .ifCond .ne 5, 3), (27, .iconst (-1), 1), (28, .ireturn, 1), (29, .aload_n 0, 1), (30, .iload_n 3, 1), (31, .invokevirtual 186, 3), (34, .aload_n 0, 1), (35, .iload_n 1, 1), (36, .invokevirtual 463, 3), (39, .aload_n 0, 1), (40, .iload_n 1, 1), (41, .iload_n 2, 1), (42, .invokevirtual 457, 3), (45, .aload_n 0, 1), (46, .iconst 5, 1), (47, .iconst 0, 1), (48, .iconst (-1), 1), (49, .invokevirtual 175, 3), (52, .ifCond .eq 7, 3), (55, .iconst 1, 1), (56, .goto 4, 3), (59, .iconst 0, 1), (60, .ireturn, 1)] = true := by decide +kernel
theorem dX12_off_0 : decode cX12_off 0 = .ok (.aload_n 0, 1) := zDec_at zB_dX12_off_0 0 rfl
theorem dX12_off_1 : decode cX12_off 1 = .ok (.iconst 0, 1) := zDec_at zB_dX12_off_0 1 rfl
theorem dX12_off_2 : decode cX12_off 2 = .ok (.putfield 92, 3) := zDec_at zB_dX12_off_0 2 rfl
theorem dX12_off_5 : decode cX12_off 5 = .ok (.aload_n 0, 1) := zDec_at zB_dX12_off_0 3 rfl
theorem dX12_off_6 : decode cX12_off 6 = .ok (.iload_n 1, 1) := zDec_at zB_dX12_off_0 4 rfl
theorem dX12_off_7 : decode cX12_off 7 = .ok (.invokevirtual 138, 3) := zDec_at zB_dX12_off_0 5 rfl
theorem dX12_off_10 : decode cX12_off 10 = .ok (.ifCond .eq 17, 3) := zDec_at zB_dX12_off_0 6 rfl
theorem dX12_off_13 : decode cX12_off 13 = .ok (.iload_n 2, 1) := zDec_at zB_dX12_off_0 7 rfl
theorem dX12_off_14 : decode cX12_off 14 = .ok (.invokestatic 127, 3) := zDec_at zB_dX12_off_0 8 rfl
theorem dX12_off_17 : decode cX12_off 17 = .ok (.ifCond .eq 10, 3) := zDec_at zB_dX12_off_0 9 rfl
theorem dX12_off_20 : decode cX12_off 20 = .ok (.iload_n 3, 1) := zDec_at zB_dX12_off_0 10 rfl
theorem dX12_off_21 : decode cX12_off 21 = .ok (.invokestatic 127, 3) := zDec_at zB_dX12_off_0 11 rfl
theorem dX12_off_24 : decode cX12_off 24 = .ok (.ifCond .ne 5, 3) := zDec_at zB_dX12_off_0 12 rfl
theorem dX12_off_27 : decode cX12_off 27 = .ok (.iconst (-1), 1) := zDec_at zB_dX12_off_0 13 rfl
theorem dX12_off_28 : decode cX12_off 28 = .ok (.ireturn, 1) := zDec_at zB_dX12_off_0 14 rfl
theorem dX12_off_29 : decode cX12_off 29 = .ok (.aload_n 0, 1) := zDec_at zB_dX12_off_0 15 rfl
theorem dX12_off_30 : decode cX12_off 30 = .ok (.iload_n 3, 1) := zDec_at zB_dX12_off_0 16 rfl
theorem dX12_off_31 : decode cX12_off 31 = .ok (.invokevirtual 186, 3) := zDec_at zB_dX12_off_0 17 rfl
theorem dX12_off_34 : decode cX12_off 34 = .ok (.aload_n 0, 1) := zDec_at zB_dX12_off_0 18 rfl
theorem dX12_off_35 : decode cX12_off 35 = .ok (.iload_n 1, 1) := zDec_at zB_dX12_off_0 19 rfl
theorem dX12_off_36 : decode cX12_off 36 = .ok (.invokevirtual 463, 3) := zDec_at zB_dX12_off_0 20 rfl
theorem dX12_off_39 : decode cX12_off 39 = .ok (.aload_n 0, 1) := zDec_at zB_dX12_off_0 21 rfl
theorem dX12_off_40 : decode cX12_off 40 = .ok (.iload_n 1, 1) := zDec_at zB_dX12_off_0 22 rfl
theorem dX12_off_41 : decode cX12_off 41 = .ok (.iload_n 2, 1) := zDec_at zB_dX12_off_0 23 rfl
theorem dX12_off_42 : decode cX12_off 42 = .ok (.invokevirtual 457, 3) := zDec_at zB_dX12_off_0 24 rfl
theorem dX12_off_45 : decode cX12_off 45 = .ok (.aload_n 0, 1) := zDec_at zB_dX12_off_0 25 rfl
theorem dX12_off_46 : decode cX12_off 46 = .ok (.iconst 5, 1) := zDec_at zB_dX12_off_0 26 rfl
theorem dX12_off_47 : decode cX12_off 47 = .ok (.iconst 0, 1) := zDec_at zB_dX12_off_0 27 rfl
theorem dX12_off_48 : decode cX12_off 48 = .ok (.iconst (-1), 1) := zDec_at zB_dX12_off_0 28 rfl
theorem dX12_off_49 : decode cX12_off 49 = .ok (.invokevirtual 175, 3) := zDec_at zB_dX12_off_0 29 rfl
theorem dX12_off_52 : decode cX12_off 52 = .ok (.ifCond .eq 7, 3) := zDec_at zB_dX12_off_0 30 rfl
theorem dX12_off_55 : decode cX12_off 55 = .ok (.iconst 1, 1) := zDec_at zB_dX12_off_0 31 rfl
theorem dX12_off_56 : decode cX12_off 56 = .ok (.goto 4, 3) := zDec_at zB_dX12_off_0 32 rfl
theorem dX12_off_59 : decode cX12_off 59 = .ok (.iconst 0, 1) := zDec_at zB_dX12_off_0 33 rfl
theorem dX12_off_60 : decode cX12_off 60 = .ok (.ireturn, 1) := zDec_at zB_dX12_off_0 34 rfl
theorem zB_dX12_pay_0 : zDecB cX12_pay [(0, .aload_n 0, 1), (1, .iconst 0, 1), (2, .putfield 92, 3), (5, .iload_n 2, 1), (6, .invokestatic 460, 3), (9, .ifCond .eq 10, 3), (12, .iload_n 3, 1), (13, .invokestatic 127, 3), (16, .ifCond .ne 9, 3), (19, .aload_n 0, 1), (20, .iconst (-1), 1), (21, .invokevirtual 106, 3), (24, .ireturn, 1), (25, .aload_n 0, 1), (26, .iload_n 1, 1), (27, .invokevirtual 138, 3), (30, .ifCond .ne 10, 3), (33, .aload_n 0, 1), (34, .bipush (-2), 2), (36, .invokevirtual 106, 3), (39, .ireturn, 1), (40, .aload_n 0, 1), (41, .iload_n 1, 1), (42, .iload_n 2, 1), (43, .invokevirtual 469, 3), (46, .istore 4, 2), (48, .iload 4, 2), (50, .iconst (-1), 1), (51, .if_icmp .eq 9, 3), (54, .iload 4, 2), (56, .iload_n 3, 1), (57, .if_icmp .le 10, 3), (60, .aload_n 0, 1), (61, .bipush (-3), 2), (63, .invokevirtual 106, 3), (66, .ireturn, 1), (67, .iload_n 1, 1), (68, .invokestatic 120, 3), (71, .istore 5, 2), (73, .aload_n 0, 1)] = true := by decide +kernel
theorem dX12_pay_0 : decode cX12_pay 0 = .ok (.aload_n 0, 1) := zDec_at zB_dX12_pay_0 0 rfl
theorem dX12_pay_1 : decode cX12_pay 1 = .ok (.iconst 0, 1) := zDec_at zB_dX12_pay_0 1 rfl
theorem dX12_pay_2 : decode cX12_pay 2 = .ok (.putfield 92, 3) := zDec_at zB_dX12_pay_0 2 rfl
theorem dX12_pay_5 : decode cX12_pay 5 = .ok (.iload_n 2, 1) := zDec_at zB_dX12_pay_0 3 rfl
theorem dX12_pay_6 : decode cX12_pay 6 = .ok (.invokestatic 460, 3) := zDec_at zB_dX12_pay_0 4 rfl
theorem dX12_pay_9 : decode cX12_pay 9 = .ok (.ifCond .eq 10, 3) := zDec_at zB_dX12_pay_0 5 rfl
theorem dX12_pay_12 : decode cX12_pay 12 = .ok (.iload_n 3, 1) := zDec_at zB_dX12_pay_0 6 rfl
theorem dX12_pay_13 : decode cX12_pay 13 = .ok (.invokestatic 127, 3) := zDec_at zB_dX12_pay_0 7 rfl
theorem dX12_pay_16 : decode cX12_pay 16 = .ok (.ifCond .ne 9, 3) := zDec_at zB_dX12_pay_0 8 rfl
theorem dX12_pay_19 : decode cX12_pay 19 = .ok (.aload_n 0, 1) := zDec_at zB_dX12_pay_0 9 rfl
theorem dX12_pay_20 : decode cX12_pay 20 = .ok (.iconst (-1), 1) := zDec_at zB_dX12_pay_0 10 rfl
theorem dX12_pay_21 : decode cX12_pay 21 = .ok (.invokevirtual 106, 3) := zDec_at zB_dX12_pay_0 11 rfl
theorem dX12_pay_24 : decode cX12_pay 24 = .ok (.ireturn, 1) := zDec_at zB_dX12_pay_0 12 rfl
theorem dX12_pay_25 : decode cX12_pay 25 = .ok (.aload_n 0, 1) := zDec_at zB_dX12_pay_0 13 rfl
theorem dX12_pay_26 : decode cX12_pay 26 = .ok (.iload_n 1, 1) := zDec_at zB_dX12_pay_0 14 rfl
theorem dX12_pay_27 : decode cX12_pay 27 = .ok (.invokevirtual 138, 3) := zDec_at zB_dX12_pay_0 15 rfl
theorem dX12_pay_30 : decode cX12_pay 30 = .ok (.ifCond .ne 10, 3) := zDec_at zB_dX12_pay_0 16 rfl
theorem dX12_pay_33 : decode cX12_pay 33 = .ok (.aload_n 0, 1) := zDec_at zB_dX12_pay_0 17 rfl
theorem dX12_pay_34 : decode cX12_pay 34 = .ok (.bipush (-2), 2) := zDec_at zB_dX12_pay_0 18 rfl
theorem dX12_pay_36 : decode cX12_pay 36 = .ok (.invokevirtual 106, 3) := zDec_at zB_dX12_pay_0 19 rfl
theorem dX12_pay_39 : decode cX12_pay 39 = .ok (.ireturn, 1) := zDec_at zB_dX12_pay_0 20 rfl
theorem dX12_pay_40 : decode cX12_pay 40 = .ok (.aload_n 0, 1) := zDec_at zB_dX12_pay_0 21 rfl
theorem dX12_pay_41 : decode cX12_pay 41 = .ok (.iload_n 1, 1) := zDec_at zB_dX12_pay_0 22 rfl
theorem dX12_pay_42 : decode cX12_pay 42 = .ok (.iload_n 2, 1) := zDec_at zB_dX12_pay_0 23 rfl
theorem dX12_pay_43 : decode cX12_pay 43 = .ok (.invokevirtual 469, 3) := zDec_at zB_dX12_pay_0 24 rfl
theorem dX12_pay_46 : decode cX12_pay 46 = .ok (.istore 4, 2) := zDec_at zB_dX12_pay_0 25 rfl
theorem dX12_pay_48 : decode cX12_pay 48 = .ok (.iload 4, 2) := zDec_at zB_dX12_pay_0 26 rfl
theorem dX12_pay_50 : decode cX12_pay 50 = .ok (.iconst (-1), 1) := zDec_at zB_dX12_pay_0 27 rfl
theorem dX12_pay_51 : decode cX12_pay 51 = .ok (.if_icmp .eq 9, 3) := zDec_at zB_dX12_pay_0 28 rfl
theorem dX12_pay_54 : decode cX12_pay 54 = .ok (.iload 4, 2) := zDec_at zB_dX12_pay_0 29 rfl
theorem dX12_pay_56 : decode cX12_pay 56 = .ok (.iload_n 3, 1) := zDec_at zB_dX12_pay_0 30 rfl
theorem dX12_pay_57 : decode cX12_pay 57 = .ok (.if_icmp .le 10, 3) := zDec_at zB_dX12_pay_0 31 rfl
theorem dX12_pay_60 : decode cX12_pay 60 = .ok (.aload_n 0, 1) := zDec_at zB_dX12_pay_0 32 rfl
theorem dX12_pay_61 : decode cX12_pay 61 = .ok (.bipush (-3), 2) := zDec_at zB_dX12_pay_0 33 rfl
theorem dX12_pay_63 : decode cX12_pay 63 = .ok (.invokevirtual 106, 3) := zDec_at zB_dX12_pay_0 34 rfl
theorem dX12_pay_66 : decode cX12_pay 66 = .ok (.ireturn, 1) := zDec_at zB_dX12_pay_0 35 rfl
theorem dX12_pay_67 : decode cX12_pay 67 = .ok (.iload_n 1, 1) := zDec_at zB_dX12_pay_0 36 rfl
theorem dX12_pay_68 : decode cX12_pay 68 = .ok (.invokestatic 120, 3) := zDec_at zB_dX12_pay_0 37 rfl
theorem dX12_pay_71 : decode cX12_pay 71 = .ok (.istore 5, 2) := zDec_at zB_dX12_pay_0 38 rfl
theorem dX12_pay_73 : decode cX12_pay 73 = .ok (.aload_n 0, 1) := zDec_at zB_dX12_pay_0 39 rfl
theorem zB_dX12_pay_74 : zDecB cX12_pay [(74, .getfield 7, 3), (77, .iload 5, 2), (79, .bipush 9, 2), (81, .iadd, 1), (82, .iload_n 2, 1), (83, .iadd, 1), (84, .iaload, 1), (85, .iconst (-1), 1), (86, .if_icmp .eq 10, 3), (89, .aload_n 0, 1), (90, .bipush (-4), 2), (92, .invokevirtual 106, 3), (95, .ireturn, 1), (96, .aload_n 0, 1), (97, .iload_n 1, 1), (98, .iload_n 2, 1), (99, .invokevirtual 481, 3), (102, .istore 6, 2), (104, .aload_n 0, 1), (105, .getfield 7, 3), (108, .iload 5, 2), (110, .bipush 9, 2), (112, .iadd, 1), (113, .iload_n 2, 1), (114, .iadd, 1), (115, .iload_n 3, 1), (116, .iastore, 1), (117, .aload_n 0, 1), (118, .getfield 7, 3), (121, .iload 5, 2), (123, .bipush 13, 2), (125, .iadd, 1), (126, .iload_n 2, 1), (127, .iadd, 1), (128, .iload_n 3, 1), (129, .iload 4, 2), (131, .aload_n 0, 1), (132, .getfield 478, 3), (135, .iadd, 1), (136, .if_icmp .ge 10, 3)] = true := by decide +kernel
theorem dX12_pay_74 : decode cX12_pay 74 = .ok (.getfield 7, 3) := zDec_at zB_dX12_pay_74 0 rfl
theorem dX12_pay_77 : decode cX12_pay 77 = .ok (.iload 5, 2) := zDec_at zB_dX12_pay_74 1 rfl
theorem dX12_pay_79 : decode cX12_pay 79 = .ok (.bipush 9, 2) := zDec_at zB_dX12_pay_74 2 rfl
theorem dX12_pay_81 : decode cX12_pay 81 = .ok (.iadd, 1) := zDec_at zB_dX12_pay_74 3 rfl
theorem dX12_pay_82 : decode cX12_pay 82 = .ok (.iload_n 2, 1) := zDec_at zB_dX12_pay_74 4 rfl
theorem dX12_pay_83 : decode cX12_pay 83 = .ok (.iadd, 1) := zDec_at zB_dX12_pay_74 5 rfl
theorem dX12_pay_84 : decode cX12_pay 84 = .ok (.iaload, 1) := zDec_at zB_dX12_pay_74 6 rfl
theorem dX12_pay_85 : decode cX12_pay 85 = .ok (.iconst (-1), 1) := zDec_at zB_dX12_pay_74 7 rfl
theorem dX12_pay_86 : decode cX12_pay 86 = .ok (.if_icmp .eq 10, 3) := zDec_at zB_dX12_pay_74 8 rfl
theorem dX12_pay_89 : decode cX12_pay 89 = .ok (.aload_n 0, 1) := zDec_at zB_dX12_pay_74 9 rfl
theorem dX12_pay_90 : decode cX12_pay 90 = .ok (.bipush (-4), 2) := zDec_at zB_dX12_pay_74 10 rfl
theorem dX12_pay_92 : decode cX12_pay 92 = .ok (.invokevirtual 106, 3) := zDec_at zB_dX12_pay_74 11 rfl
theorem dX12_pay_95 : decode cX12_pay 95 = .ok (.ireturn, 1) := zDec_at zB_dX12_pay_74 12 rfl
theorem dX12_pay_96 : decode cX12_pay 96 = .ok (.aload_n 0, 1) := zDec_at zB_dX12_pay_74 13 rfl
theorem dX12_pay_97 : decode cX12_pay 97 = .ok (.iload_n 1, 1) := zDec_at zB_dX12_pay_74 14 rfl
theorem dX12_pay_98 : decode cX12_pay 98 = .ok (.iload_n 2, 1) := zDec_at zB_dX12_pay_74 15 rfl
theorem dX12_pay_99 : decode cX12_pay 99 = .ok (.invokevirtual 481, 3) := zDec_at zB_dX12_pay_74 16 rfl
theorem dX12_pay_102 : decode cX12_pay 102 = .ok (.istore 6, 2) := zDec_at zB_dX12_pay_74 17 rfl
theorem dX12_pay_104 : decode cX12_pay 104 = .ok (.aload_n 0, 1) := zDec_at zB_dX12_pay_74 18 rfl
theorem dX12_pay_105 : decode cX12_pay 105 = .ok (.getfield 7, 3) := zDec_at zB_dX12_pay_74 19 rfl
theorem dX12_pay_108 : decode cX12_pay 108 = .ok (.iload 5, 2) := zDec_at zB_dX12_pay_74 20 rfl
theorem dX12_pay_110 : decode cX12_pay 110 = .ok (.bipush 9, 2) := zDec_at zB_dX12_pay_74 21 rfl
theorem dX12_pay_112 : decode cX12_pay 112 = .ok (.iadd, 1) := zDec_at zB_dX12_pay_74 22 rfl
theorem dX12_pay_113 : decode cX12_pay 113 = .ok (.iload_n 2, 1) := zDec_at zB_dX12_pay_74 23 rfl
theorem dX12_pay_114 : decode cX12_pay 114 = .ok (.iadd, 1) := zDec_at zB_dX12_pay_74 24 rfl
theorem dX12_pay_115 : decode cX12_pay 115 = .ok (.iload_n 3, 1) := zDec_at zB_dX12_pay_74 25 rfl
theorem dX12_pay_116 : decode cX12_pay 116 = .ok (.iastore, 1) := zDec_at zB_dX12_pay_74 26 rfl
theorem dX12_pay_117 : decode cX12_pay 117 = .ok (.aload_n 0, 1) := zDec_at zB_dX12_pay_74 27 rfl
theorem dX12_pay_118 : decode cX12_pay 118 = .ok (.getfield 7, 3) := zDec_at zB_dX12_pay_74 28 rfl
theorem dX12_pay_121 : decode cX12_pay 121 = .ok (.iload 5, 2) := zDec_at zB_dX12_pay_74 29 rfl
theorem dX12_pay_123 : decode cX12_pay 123 = .ok (.bipush 13, 2) := zDec_at zB_dX12_pay_74 30 rfl
theorem dX12_pay_125 : decode cX12_pay 125 = .ok (.iadd, 1) := zDec_at zB_dX12_pay_74 31 rfl
theorem dX12_pay_126 : decode cX12_pay 126 = .ok (.iload_n 2, 1) := zDec_at zB_dX12_pay_74 32 rfl
theorem dX12_pay_127 : decode cX12_pay 127 = .ok (.iadd, 1) := zDec_at zB_dX12_pay_74 33 rfl
theorem dX12_pay_128 : decode cX12_pay 128 = .ok (.iload_n 3, 1) := zDec_at zB_dX12_pay_74 34 rfl
theorem dX12_pay_129 : decode cX12_pay 129 = .ok (.iload 4, 2) := zDec_at zB_dX12_pay_74 35 rfl
theorem dX12_pay_131 : decode cX12_pay 131 = .ok (.aload_n 0, 1) := zDec_at zB_dX12_pay_74 36 rfl
theorem dX12_pay_132 : decode cX12_pay 132 = .ok (.getfield 478, 3) := zDec_at zB_dX12_pay_74 37 rfl
theorem dX12_pay_135 : decode cX12_pay 135 = .ok (.iadd, 1) := zDec_at zB_dX12_pay_74 38 rfl
theorem dX12_pay_136 : decode cX12_pay 136 = .ok (.if_icmp .ge 10, 3) := zDec_at zB_dX12_pay_74 39 rfl
theorem zB_dX12_pay_139 : zDecB cX12_pay [(139, .iload 6, 2), (141, .iconst 2, 1), (142, .idiv, 1), (143, .goto 5, 3), (146, .iload 6, 2), (148, .iastore, 1), (149, .aload_n 0, 1), (150, .aload_n 0, 1), (151, .getfield 7, 3), (154, .iload 5, 2), (156, .bipush 13, 2), (158, .iadd, 1), (159, .iload_n 2, 1), (160, .iadd, 1), (161, .iaload, 1), (162, .invokevirtual 106, 3), (165, .ireturn, 1)] = true := by decide +kernel
theorem dX12_pay_139 : decode cX12_pay 139 = .ok (.iload 6, 2) := zDec_at zB_dX12_pay_139 0 rfl
theorem dX12_pay_141 : decode cX12_pay 141 = .ok (.iconst 2, 1) := zDec_at zB_dX12_pay_139 1 rfl
theorem dX12_pay_142 : decode cX12_pay 142 = .ok (.idiv, 1) := zDec_at zB_dX12_pay_139 2 rfl
theorem dX12_pay_143 : decode cX12_pay 143 = .ok (.goto 5, 3) := zDec_at zB_dX12_pay_139 3 rfl
theorem dX12_pay_146 : decode cX12_pay 146 = .ok (.iload 6, 2) := zDec_at zB_dX12_pay_139 4 rfl
theorem dX12_pay_148 : decode cX12_pay 148 = .ok (.iastore, 1) := zDec_at zB_dX12_pay_139 5 rfl
theorem dX12_pay_149 : decode cX12_pay 149 = .ok (.aload_n 0, 1) := zDec_at zB_dX12_pay_139 6 rfl
theorem dX12_pay_150 : decode cX12_pay 150 = .ok (.aload_n 0, 1) := zDec_at zB_dX12_pay_139 7 rfl
theorem dX12_pay_151 : decode cX12_pay 151 = .ok (.getfield 7, 3) := zDec_at zB_dX12_pay_139 8 rfl
theorem dX12_pay_154 : decode cX12_pay 154 = .ok (.iload 5, 2) := zDec_at zB_dX12_pay_139 9 rfl
theorem dX12_pay_156 : decode cX12_pay 156 = .ok (.bipush 13, 2) := zDec_at zB_dX12_pay_139 10 rfl
theorem dX12_pay_158 : decode cX12_pay 158 = .ok (.iadd, 1) := zDec_at zB_dX12_pay_139 11 rfl
theorem dX12_pay_159 : decode cX12_pay 159 = .ok (.iload_n 2, 1) := zDec_at zB_dX12_pay_139 12 rfl
theorem dX12_pay_160 : decode cX12_pay 160 = .ok (.iadd, 1) := zDec_at zB_dX12_pay_139 13 rfl
theorem dX12_pay_161 : decode cX12_pay 161 = .ok (.iaload, 1) := zDec_at zB_dX12_pay_139 14 rfl
theorem dX12_pay_162 : decode cX12_pay 162 = .ok (.invokevirtual 106, 3) := zDec_at zB_dX12_pay_139 15 rfl
theorem dX12_pay_165 : decode cX12_pay 165 = .ok (.ireturn, 1) := zDec_at zB_dX12_pay_139 16 rfl
theorem zB_dX12_rate_0 : zDecB cX12_rate [(0, .aload_n 0, 1), (1, .iconst 0, 1), (2, .putfield 92, 3), (5, .aload_n 0, 1), (6, .iload_n 1, 1), (7, .invokevirtual 138, 3), (10, .ifCond .eq 42, 3), (13, .iload_n 3, 1), (14, .invokestatic 145, 3), (17, .ifCond .eq 35, 3), (20, .iload_n 2, 1), (21, .i2l, 1), (22, .lconst 0, 1), (23, .iload_n 3, 1), (24, .i2l, 1), (25, .invokestatic 100, 3), (28, .ifCond .eq 24, 3), (31, .iload 4, 2), (33, .invokestatic 127, 3), (36, .ifCond .eq 16, 3), (39, .iload 5, 2), (41, .i2l, 1), (42, .lconst 0, 1), (43, .ldc2_w 110, 3), (46, .invokestatic 100, 3), (49, .ifCond .ne 5, 3), (52, .iconst (-1), 1), (53, .ireturn, 1), (54, .aload_n 0, 1), (55, .iload 4, 2), (57, .invokevirtual 186, 3), (60, .aload_n 0, 1), (61, .iload_n 1, 1), (62, .iconst (-1), 1), (63, .iload_n 2, 1), (64, .iload_n 3, 1), (65, .invokevirtual 450, 3), (68, .aload_n 0, 1), (69, .iload 5, 2), (71, .invokevirtual 454, 3)] = true := by decide +kernel
theorem dX12_rate_0 : decode cX12_rate 0 = .ok (.aload_n 0, 1) := zDec_at zB_dX12_rate_0 0 rfl
theorem dX12_rate_1 : decode cX12_rate 1 = .ok (.iconst 0, 1) := zDec_at zB_dX12_rate_0 1 rfl
theorem dX12_rate_2 : decode cX12_rate 2 = .ok (.putfield 92, 3) := zDec_at zB_dX12_rate_0 2 rfl
theorem dX12_rate_5 : decode cX12_rate 5 = .ok (.aload_n 0, 1) := zDec_at zB_dX12_rate_0 3 rfl
theorem dX12_rate_6 : decode cX12_rate 6 = .ok (.iload_n 1, 1) := zDec_at zB_dX12_rate_0 4 rfl
theorem dX12_rate_7 : decode cX12_rate 7 = .ok (.invokevirtual 138, 3) := zDec_at zB_dX12_rate_0 5 rfl
theorem dX12_rate_10 : decode cX12_rate 10 = .ok (.ifCond .eq 42, 3) := zDec_at zB_dX12_rate_0 6 rfl
theorem dX12_rate_13 : decode cX12_rate 13 = .ok (.iload_n 3, 1) := zDec_at zB_dX12_rate_0 7 rfl
theorem dX12_rate_14 : decode cX12_rate 14 = .ok (.invokestatic 145, 3) := zDec_at zB_dX12_rate_0 8 rfl
theorem dX12_rate_17 : decode cX12_rate 17 = .ok (.ifCond .eq 35, 3) := zDec_at zB_dX12_rate_0 9 rfl
theorem dX12_rate_20 : decode cX12_rate 20 = .ok (.iload_n 2, 1) := zDec_at zB_dX12_rate_0 10 rfl
theorem dX12_rate_21 : decode cX12_rate 21 = .ok (.i2l, 1) := zDec_at zB_dX12_rate_0 11 rfl
theorem dX12_rate_22 : decode cX12_rate 22 = .ok (.lconst 0, 1) := zDec_at zB_dX12_rate_0 12 rfl
theorem dX12_rate_23 : decode cX12_rate 23 = .ok (.iload_n 3, 1) := zDec_at zB_dX12_rate_0 13 rfl
theorem dX12_rate_24 : decode cX12_rate 24 = .ok (.i2l, 1) := zDec_at zB_dX12_rate_0 14 rfl
theorem dX12_rate_25 : decode cX12_rate 25 = .ok (.invokestatic 100, 3) := zDec_at zB_dX12_rate_0 15 rfl
theorem dX12_rate_28 : decode cX12_rate 28 = .ok (.ifCond .eq 24, 3) := zDec_at zB_dX12_rate_0 16 rfl
theorem dX12_rate_31 : decode cX12_rate 31 = .ok (.iload 4, 2) := zDec_at zB_dX12_rate_0 17 rfl
theorem dX12_rate_33 : decode cX12_rate 33 = .ok (.invokestatic 127, 3) := zDec_at zB_dX12_rate_0 18 rfl
theorem dX12_rate_36 : decode cX12_rate 36 = .ok (.ifCond .eq 16, 3) := zDec_at zB_dX12_rate_0 19 rfl
theorem dX12_rate_39 : decode cX12_rate 39 = .ok (.iload 5, 2) := zDec_at zB_dX12_rate_0 20 rfl
theorem dX12_rate_41 : decode cX12_rate 41 = .ok (.i2l, 1) := zDec_at zB_dX12_rate_0 21 rfl
theorem dX12_rate_42 : decode cX12_rate 42 = .ok (.lconst 0, 1) := zDec_at zB_dX12_rate_0 22 rfl
theorem dX12_rate_43 : decode cX12_rate 43 = .ok (.ldc2_w 110, 3) := zDec_at zB_dX12_rate_0 23 rfl
theorem dX12_rate_46 : decode cX12_rate 46 = .ok (.invokestatic 100, 3) := zDec_at zB_dX12_rate_0 24 rfl
theorem dX12_rate_49 : decode cX12_rate 49 = .ok (.ifCond .ne 5, 3) := zDec_at zB_dX12_rate_0 25 rfl
theorem dX12_rate_52 : decode cX12_rate 52 = .ok (.iconst (-1), 1) := zDec_at zB_dX12_rate_0 26 rfl
theorem dX12_rate_53 : decode cX12_rate 53 = .ok (.ireturn, 1) := zDec_at zB_dX12_rate_0 27 rfl
theorem dX12_rate_54 : decode cX12_rate 54 = .ok (.aload_n 0, 1) := zDec_at zB_dX12_rate_0 28 rfl
theorem dX12_rate_55 : decode cX12_rate 55 = .ok (.iload 4, 2) := zDec_at zB_dX12_rate_0 29 rfl
theorem dX12_rate_57 : decode cX12_rate 57 = .ok (.invokevirtual 186, 3) := zDec_at zB_dX12_rate_0 30 rfl
theorem dX12_rate_60 : decode cX12_rate 60 = .ok (.aload_n 0, 1) := zDec_at zB_dX12_rate_0 31 rfl
theorem dX12_rate_61 : decode cX12_rate 61 = .ok (.iload_n 1, 1) := zDec_at zB_dX12_rate_0 32 rfl
theorem dX12_rate_62 : decode cX12_rate 62 = .ok (.iconst (-1), 1) := zDec_at zB_dX12_rate_0 33 rfl
theorem dX12_rate_63 : decode cX12_rate 63 = .ok (.iload_n 2, 1) := zDec_at zB_dX12_rate_0 34 rfl
theorem dX12_rate_64 : decode cX12_rate 64 = .ok (.iload_n 3, 1) := zDec_at zB_dX12_rate_0 35 rfl
theorem dX12_rate_65 : decode cX12_rate 65 = .ok (.invokevirtual 450, 3) := zDec_at zB_dX12_rate_0 36 rfl
theorem dX12_rate_68 : decode cX12_rate 68 = .ok (.aload_n 0, 1) := zDec_at zB_dX12_rate_0 37 rfl
theorem dX12_rate_69 : decode cX12_rate 69 = .ok (.iload 5, 2) := zDec_at zB_dX12_rate_0 38 rfl
theorem dX12_rate_71 : decode cX12_rate 71 = .ok (.invokevirtual 454, 3) := zDec_at zB_dX12_rate_0 39 rfl
theorem dX12_rate_74 : decode cX12_rate 74 = .ok (.ireturn, 1) := by decide +kernel
theorem zB_dX12_reckon_0 : zDecB cX12_reckon [(0, .iload_n 1, 1), (1, .tableswitch 112 20 25 #[39, 44, 49, 54, 86, 99], 39), (40, .lload_n 2, 1), (41, .lload 4, 2), (43, .ladd, 1), (44, .lreturn, 1), (45, .lload_n 2, 1), (46, .lload 4, 2), (48, .lsub, 1), (49, .lreturn, 1), (50, .lload_n 2, 1), (51, .lload 4, 2), (53, .lmul, 1), (54, .lreturn, 1), (55, .aload_n 0, 1), (56, .lload 4, 2), (58, .lconst 0, 1), (59, .lcmp, 1), (60, .ifCond .ne 7, 3), (63, .iconst 1, 1), (64, .goto 4, 3), (67, .iconst 0, 1), (68, .putfield 416, 3), (71, .aload_n 0, 1), (72, .getfield 416, 3), (75, .ifCond .eq 7, 3), (78, .lconst 0, 1), (79, .goto 7, 3), (82, .lload_n 2, 1), (83, .lload 4, 2), (85, .ldiv, 1), (86, .lreturn, 1), (87, .lload_n 2, 1), (88, .lload 4, 2), (90, .lcmp, 1), (91, .ifCond .ge 7, 3), (94, .lconst 1, 1), (95, .goto 4, 3), (98, .lconst 0, 1), (99, .lreturn, 1)] = true := by decide +kernel
theorem dX12_reckon_0 : decode cX12_reckon 0 = .ok (.iload_n 1, 1) := zDec_at zB_dX12_reckon_0 0 rfl
theorem dX12_reckon_1 : decode cX12_reckon 1 = .ok (.tableswitch 112 20 25 #[39, 44, 49, 54, 86, 99], 39) := zDec_at zB_dX12_reckon_0 1 rfl
theorem dX12_reckon_40 : decode cX12_reckon 40 = .ok (.lload_n 2, 1) := zDec_at zB_dX12_reckon_0 2 rfl
theorem dX12_reckon_41 : decode cX12_reckon 41 = .ok (.lload 4, 2) := zDec_at zB_dX12_reckon_0 3 rfl
theorem dX12_reckon_43 : decode cX12_reckon 43 = .ok (.ladd, 1) := zDec_at zB_dX12_reckon_0 4 rfl
theorem dX12_reckon_44 : decode cX12_reckon 44 = .ok (.lreturn, 1) := zDec_at zB_dX12_reckon_0 5 rfl
theorem dX12_reckon_45 : decode cX12_reckon 45 = .ok (.lload_n 2, 1) := zDec_at zB_dX12_reckon_0 6 rfl
theorem dX12_reckon_46 : decode cX12_reckon 46 = .ok (.lload 4, 2) := zDec_at zB_dX12_reckon_0 7 rfl
theorem dX12_reckon_48 : decode cX12_reckon 48 = .ok (.lsub, 1) := zDec_at zB_dX12_reckon_0 8 rfl
theorem dX12_reckon_49 : decode cX12_reckon 49 = .ok (.lreturn, 1) := zDec_at zB_dX12_reckon_0 9 rfl
theorem dX12_reckon_50 : decode cX12_reckon 50 = .ok (.lload_n 2, 1) := zDec_at zB_dX12_reckon_0 10 rfl
theorem dX12_reckon_51 : decode cX12_reckon 51 = .ok (.lload 4, 2) := zDec_at zB_dX12_reckon_0 11 rfl
theorem dX12_reckon_53 : decode cX12_reckon 53 = .ok (.lmul, 1) := zDec_at zB_dX12_reckon_0 12 rfl
theorem dX12_reckon_54 : decode cX12_reckon 54 = .ok (.lreturn, 1) := zDec_at zB_dX12_reckon_0 13 rfl
theorem dX12_reckon_55 : decode cX12_reckon 55 = .ok (.aload_n 0, 1) := zDec_at zB_dX12_reckon_0 14 rfl
theorem dX12_reckon_56 : decode cX12_reckon 56 = .ok (.lload 4, 2) := zDec_at zB_dX12_reckon_0 15 rfl
theorem dX12_reckon_58 : decode cX12_reckon 58 = .ok (.lconst 0, 1) := zDec_at zB_dX12_reckon_0 16 rfl
theorem dX12_reckon_59 : decode cX12_reckon 59 = .ok (.lcmp, 1) := zDec_at zB_dX12_reckon_0 17 rfl
theorem dX12_reckon_60 : decode cX12_reckon 60 = .ok (.ifCond .ne 7, 3) := zDec_at zB_dX12_reckon_0 18 rfl
theorem dX12_reckon_63 : decode cX12_reckon 63 = .ok (.iconst 1, 1) := zDec_at zB_dX12_reckon_0 19 rfl
theorem dX12_reckon_64 : decode cX12_reckon 64 = .ok (.goto 4, 3) := zDec_at zB_dX12_reckon_0 20 rfl
theorem dX12_reckon_67 : decode cX12_reckon 67 = .ok (.iconst 0, 1) := zDec_at zB_dX12_reckon_0 21 rfl
theorem dX12_reckon_68 : decode cX12_reckon 68 = .ok (.putfield 416, 3) := zDec_at zB_dX12_reckon_0 22 rfl
theorem dX12_reckon_71 : decode cX12_reckon 71 = .ok (.aload_n 0, 1) := zDec_at zB_dX12_reckon_0 23 rfl
theorem dX12_reckon_72 : decode cX12_reckon 72 = .ok (.getfield 416, 3) := zDec_at zB_dX12_reckon_0 24 rfl
theorem dX12_reckon_75 : decode cX12_reckon 75 = .ok (.ifCond .eq 7, 3) := zDec_at zB_dX12_reckon_0 25 rfl
theorem dX12_reckon_78 : decode cX12_reckon 78 = .ok (.lconst 0, 1) := zDec_at zB_dX12_reckon_0 26 rfl
theorem dX12_reckon_79 : decode cX12_reckon 79 = .ok (.goto 7, 3) := zDec_at zB_dX12_reckon_0 27 rfl
theorem dX12_reckon_82 : decode cX12_reckon 82 = .ok (.lload_n 2, 1) := zDec_at zB_dX12_reckon_0 28 rfl
theorem dX12_reckon_83 : decode cX12_reckon 83 = .ok (.lload 4, 2) := zDec_at zB_dX12_reckon_0 29 rfl
theorem dX12_reckon_85 : decode cX12_reckon 85 = .ok (.ldiv, 1) := zDec_at zB_dX12_reckon_0 30 rfl
theorem dX12_reckon_86 : decode cX12_reckon 86 = .ok (.lreturn, 1) := zDec_at zB_dX12_reckon_0 31 rfl
theorem dX12_reckon_87 : decode cX12_reckon 87 = .ok (.lload_n 2, 1) := zDec_at zB_dX12_reckon_0 32 rfl
theorem dX12_reckon_88 : decode cX12_reckon 88 = .ok (.lload 4, 2) := zDec_at zB_dX12_reckon_0 33 rfl
theorem dX12_reckon_90 : decode cX12_reckon 90 = .ok (.lcmp, 1) := zDec_at zB_dX12_reckon_0 34 rfl
theorem dX12_reckon_91 : decode cX12_reckon 91 = .ok (.ifCond .ge 7, 3) := zDec_at zB_dX12_reckon_0 35 rfl
theorem dX12_reckon_94 : decode cX12_reckon 94 = .ok (.lconst 1, 1) := zDec_at zB_dX12_reckon_0 36 rfl
theorem dX12_reckon_95 : decode cX12_reckon 95 = .ok (.goto 4, 3) := zDec_at zB_dX12_reckon_0 37 rfl
theorem dX12_reckon_98 : decode cX12_reckon 98 = .ok (.lconst 0, 1) := zDec_at zB_dX12_reckon_0 38 rfl
theorem dX12_reckon_99 : decode cX12_reckon 99 = .ok (.lreturn, 1) := zDec_at zB_dX12_reckon_0 39 rfl
theorem zB_dX12_reckon_100 : zDecB cX12_reckon [(100, .lload_n 2, 1), (101, .lload 4, 2), (103, .lcmp, 1), (104, .ifCond .le 7, 3), (107, .lconst 1, 1), (108, .goto 4, 3), (111, .lconst 0, 1), (112, .lreturn, 1), (113, .lload_n 2, 1), (114, .lload 4, 2), (116, .lcmp, 1), (117, .ifCond .ne 7, 3), (120, .lconst 1, 1), (121, .goto 4, 3), (124, .lconst 0, 1), (125, .lreturn, 1)] = true := by decide +kernel
theorem dX12_reckon_100 : decode cX12_reckon 100 = .ok (.lload_n 2, 1) := zDec_at zB_dX12_reckon_100 0 rfl
theorem dX12_reckon_101 : decode cX12_reckon 101 = .ok (.lload 4, 2) := zDec_at zB_dX12_reckon_100 1 rfl
theorem dX12_reckon_103 : decode cX12_reckon 103 = .ok (.lcmp, 1) := zDec_at zB_dX12_reckon_100 2 rfl
theorem dX12_reckon_104 : decode cX12_reckon 104 = .ok (.ifCond .le 7, 3) := zDec_at zB_dX12_reckon_100 3 rfl
theorem dX12_reckon_107 : decode cX12_reckon 107 = .ok (.lconst 1, 1) := zDec_at zB_dX12_reckon_100 4 rfl
theorem dX12_reckon_108 : decode cX12_reckon 108 = .ok (.goto 4, 3) := zDec_at zB_dX12_reckon_100 5 rfl
theorem dX12_reckon_111 : decode cX12_reckon 111 = .ok (.lconst 0, 1) := zDec_at zB_dX12_reckon_100 6 rfl
theorem dX12_reckon_112 : decode cX12_reckon 112 = .ok (.lreturn, 1) := zDec_at zB_dX12_reckon_100 7 rfl
theorem dX12_reckon_113 : decode cX12_reckon 113 = .ok (.lload_n 2, 1) := zDec_at zB_dX12_reckon_100 8 rfl
theorem dX12_reckon_114 : decode cX12_reckon 114 = .ok (.lload 4, 2) := zDec_at zB_dX12_reckon_100 9 rfl
theorem dX12_reckon_116 : decode cX12_reckon 116 = .ok (.lcmp, 1) := zDec_at zB_dX12_reckon_100 10 rfl
theorem dX12_reckon_117 : decode cX12_reckon 117 = .ok (.ifCond .ne 7, 3) := zDec_at zB_dX12_reckon_100 11 rfl
theorem dX12_reckon_120 : decode cX12_reckon 120 = .ok (.lconst 1, 1) := zDec_at zB_dX12_reckon_100 12 rfl
theorem dX12_reckon_121 : decode cX12_reckon 121 = .ok (.goto 4, 3) := zDec_at zB_dX12_reckon_100 13 rfl
theorem dX12_reckon_124 : decode cX12_reckon 124 = .ok (.lconst 0, 1) := zDec_at zB_dX12_reckon_100 14 rfl
theorem dX12_reckon_125 : decode cX12_reckon 125 = .ok (.lreturn, 1) := zDec_at zB_dX12_reckon_100 15 rfl
theorem zB_dX12_record_0 : zDecB cX12_record [(0, .aload_n 0, 1), (1, .iconst 0, 1), (2, .putfield 92, 3), (5, .iload_n 1, 1), (6, .i2l, 1), (7, .lconst 0, 1), (8, .ldc2_w 496, 3), (11, .invokestatic 100, 3), (14, .ifCond .ne 9, 3), (17, .aload_n 0, 1), (18, .iconst (-1), 1), (19, .invokevirtual 106, 3), (22, .ireturn, 1), (23, .aload_n 0, 1), (24, .getfield 7, 3), (27, .iconst 5, 1), (28, .iaload, 1), (29, .bipush 6, 2), (31, .if_icmp .ne 10, 3), (34, .aload_n 0, 1), (35, .bipush (-5), 2), (37, .invokevirtual 106, 3), (40, .ireturn, 1), (41, .aload_n 0, 1), (42, .getfield 7, 3), (45, .sipush 6980, 3), (48, .aload_n 0, 1), (49, .getfield 7, 3), (52, .iconst 5, 1), (53, .iaload, 1), (54, .iadd, 1), (55, .iload_n 1, 1), (56, .iastore, 1), (57, .aload_n 0, 1), (58, .getfield 7, 3), (61, .iconst 5, 1), (62, .dup2, 1), (63, .iaload, 1), (64, .iconst 1, 1), (65, .iadd, 1)] = true := by decide +kernel
theorem dX12_record_0 : decode cX12_record 0 = .ok (.aload_n 0, 1) := zDec_at zB_dX12_record_0 0 rfl
theorem dX12_record_1 : decode cX12_record 1 = .ok (.iconst 0, 1) := zDec_at zB_dX12_record_0 1 rfl
theorem dX12_record_2 : decode cX12_record 2 = .ok (.putfield 92, 3) := zDec_at zB_dX12_record_0 2 rfl
theorem dX12_record_5 : decode cX12_record 5 = .ok (.iload_n 1, 1) := zDec_at zB_dX12_record_0 3 rfl
theorem dX12_record_6 : decode cX12_record 6 = .ok (.i2l, 1) := zDec_at zB_dX12_record_0 4 rfl
theorem dX12_record_7 : decode cX12_record 7 = .ok (.lconst 0, 1) := zDec_at zB_dX12_record_0 5 rfl
theorem dX12_record_8 : decode cX12_record 8 = .ok (.ldc2_w 496, 3) := zDec_at zB_dX12_record_0 6 rfl
theorem dX12_record_11 : decode cX12_record 11 = .ok (.invokestatic 100, 3) := zDec_at zB_dX12_record_0 7 rfl
theorem dX12_record_14 : decode cX12_record 14 = .ok (.ifCond .ne 9, 3) := zDec_at zB_dX12_record_0 8 rfl
theorem dX12_record_17 : decode cX12_record 17 = .ok (.aload_n 0, 1) := zDec_at zB_dX12_record_0 9 rfl
theorem dX12_record_18 : decode cX12_record 18 = .ok (.iconst (-1), 1) := zDec_at zB_dX12_record_0 10 rfl
theorem dX12_record_19 : decode cX12_record 19 = .ok (.invokevirtual 106, 3) := zDec_at zB_dX12_record_0 11 rfl
theorem dX12_record_22 : decode cX12_record 22 = .ok (.ireturn, 1) := zDec_at zB_dX12_record_0 12 rfl
theorem dX12_record_23 : decode cX12_record 23 = .ok (.aload_n 0, 1) := zDec_at zB_dX12_record_0 13 rfl
theorem dX12_record_24 : decode cX12_record 24 = .ok (.getfield 7, 3) := zDec_at zB_dX12_record_0 14 rfl
theorem dX12_record_27 : decode cX12_record 27 = .ok (.iconst 5, 1) := zDec_at zB_dX12_record_0 15 rfl
theorem dX12_record_28 : decode cX12_record 28 = .ok (.iaload, 1) := zDec_at zB_dX12_record_0 16 rfl
theorem dX12_record_29 : decode cX12_record 29 = .ok (.bipush 6, 2) := zDec_at zB_dX12_record_0 17 rfl
theorem dX12_record_31 : decode cX12_record 31 = .ok (.if_icmp .ne 10, 3) := zDec_at zB_dX12_record_0 18 rfl
theorem dX12_record_34 : decode cX12_record 34 = .ok (.aload_n 0, 1) := zDec_at zB_dX12_record_0 19 rfl
theorem dX12_record_35 : decode cX12_record 35 = .ok (.bipush (-5), 2) := zDec_at zB_dX12_record_0 20 rfl
theorem dX12_record_37 : decode cX12_record 37 = .ok (.invokevirtual 106, 3) := zDec_at zB_dX12_record_0 21 rfl
theorem dX12_record_40 : decode cX12_record 40 = .ok (.ireturn, 1) := zDec_at zB_dX12_record_0 22 rfl
theorem dX12_record_41 : decode cX12_record 41 = .ok (.aload_n 0, 1) := zDec_at zB_dX12_record_0 23 rfl
theorem dX12_record_42 : decode cX12_record 42 = .ok (.getfield 7, 3) := zDec_at zB_dX12_record_0 24 rfl
theorem dX12_record_45 : decode cX12_record 45 = .ok (.sipush 6980, 3) := zDec_at zB_dX12_record_0 25 rfl
theorem dX12_record_48 : decode cX12_record 48 = .ok (.aload_n 0, 1) := zDec_at zB_dX12_record_0 26 rfl
theorem dX12_record_49 : decode cX12_record 49 = .ok (.getfield 7, 3) := zDec_at zB_dX12_record_0 27 rfl
theorem dX12_record_52 : decode cX12_record 52 = .ok (.iconst 5, 1) := zDec_at zB_dX12_record_0 28 rfl
theorem dX12_record_53 : decode cX12_record 53 = .ok (.iaload, 1) := zDec_at zB_dX12_record_0 29 rfl
theorem dX12_record_54 : decode cX12_record 54 = .ok (.iadd, 1) := zDec_at zB_dX12_record_0 30 rfl
theorem dX12_record_55 : decode cX12_record 55 = .ok (.iload_n 1, 1) := zDec_at zB_dX12_record_0 31 rfl
theorem dX12_record_56 : decode cX12_record 56 = .ok (.iastore, 1) := zDec_at zB_dX12_record_0 32 rfl
theorem dX12_record_57 : decode cX12_record 57 = .ok (.aload_n 0, 1) := zDec_at zB_dX12_record_0 33 rfl
theorem dX12_record_58 : decode cX12_record 58 = .ok (.getfield 7, 3) := zDec_at zB_dX12_record_0 34 rfl
theorem dX12_record_61 : decode cX12_record 61 = .ok (.iconst 5, 1) := zDec_at zB_dX12_record_0 35 rfl
theorem dX12_record_62 : decode cX12_record 62 = .ok (.dup2, 1) := zDec_at zB_dX12_record_0 36 rfl
theorem dX12_record_63 : decode cX12_record 63 = .ok (.iaload, 1) := zDec_at zB_dX12_record_0 37 rfl
theorem dX12_record_64 : decode cX12_record 64 = .ok (.iconst 1, 1) := zDec_at zB_dX12_record_0 38 rfl
theorem dX12_record_65 : decode cX12_record 65 = .ok (.iadd, 1) := zDec_at zB_dX12_record_0 39 rfl
theorem zB_dX12_record_66 : zDecB cX12_record [(66, .iastore, 1), (67, .aload_n 0, 1), (68, .aload_n 0, 1), (69, .getfield 7, 3), (72, .iconst 5, 1), (73, .iaload, 1), (74, .invokevirtual 106, 3), (77, .ireturn, 1)] = true := by decide +kernel
theorem dX12_record_66 : decode cX12_record 66 = .ok (.iastore, 1) := zDec_at zB_dX12_record_66 0 rfl
theorem dX12_record_67 : decode cX12_record 67 = .ok (.aload_n 0, 1) := zDec_at zB_dX12_record_66 1 rfl
theorem dX12_record_68 : decode cX12_record 68 = .ok (.aload_n 0, 1) := zDec_at zB_dX12_record_66 2 rfl
theorem dX12_record_69 : decode cX12_record 69 = .ok (.getfield 7, 3) := zDec_at zB_dX12_record_66 3 rfl
theorem dX12_record_72 : decode cX12_record 72 = .ok (.iconst 5, 1) := zDec_at zB_dX12_record_66 4 rfl
theorem dX12_record_73 : decode cX12_record 73 = .ok (.iaload, 1) := zDec_at zB_dX12_record_66 5 rfl
theorem dX12_record_74 : decode cX12_record 74 = .ok (.invokevirtual 106, 3) := zDec_at zB_dX12_record_66 6 rfl
theorem dX12_record_77 : decode cX12_record 77 = .ok (.ireturn, 1) := zDec_at zB_dX12_record_66 7 rfl
theorem zB_dX12_rolls_0 : zDecB cX12_rolls [(0, .aload_n 0, 1), (1, .iconst 0, 1), (2, .putfield 92, 3), (5, .iload_n 1, 1), (6, .invokestatic 127, 3), (9, .ifCond .eq 15, 3), (12, .iload_n 2, 1), (13, .i2l, 1), (14, .lconst 0, 1), (15, .ldc2_w 484, 3), (18, .invokestatic 100, 3), (21, .ifCond .ne 5, 3), (24, .iconst (-1), 1), (25, .ireturn, 1), (26, .iconst 0, 1), (27, .istore 4, 2), (29, .iconst (-1), 1), (30, .istore 5, 2), (32, .iconst 0, 1), (33, .istore 6, 2), (35, .iload 6, 2), (37, .aload_n 0, 1), (38, .getfield 7, 3), (41, .iconst 0, 1), (42, .iaload, 1), (43, .if_icmp .ge 123, 3), (46, .iload_n 2, 1), (47, .ifCond .ne 57, 3), (50, .aload_n 0, 1), (51, .getfield 7, 3), (54, .iload 6, 2), (56, .invokestatic 120, 3), (59, .iaload, 1), (60, .i2l, 1), (61, .ldc2_w 486, 3), (64, .ldc2_w 488, 3), (67, .invokestatic 100, 3), (70, .ifCond .eq 28, 3), (73, .aload_n 0, 1), (74, .iload 6, 2)] = true := by decide +kernel
theorem dX12_rolls_0 : decode cX12_rolls 0 = .ok (.aload_n 0, 1) := zDec_at zB_dX12_rolls_0 0 rfl
theorem dX12_rolls_1 : decode cX12_rolls 1 = .ok (.iconst 0, 1) := zDec_at zB_dX12_rolls_0 1 rfl
theorem dX12_rolls_2 : decode cX12_rolls 2 = .ok (.putfield 92, 3) := zDec_at zB_dX12_rolls_0 2 rfl
theorem dX12_rolls_5 : decode cX12_rolls 5 = .ok (.iload_n 1, 1) := zDec_at zB_dX12_rolls_0 3 rfl
theorem dX12_rolls_6 : decode cX12_rolls 6 = .ok (.invokestatic 127, 3) := zDec_at zB_dX12_rolls_0 4 rfl
theorem dX12_rolls_9 : decode cX12_rolls 9 = .ok (.ifCond .eq 15, 3) := zDec_at zB_dX12_rolls_0 5 rfl
theorem dX12_rolls_12 : decode cX12_rolls 12 = .ok (.iload_n 2, 1) := zDec_at zB_dX12_rolls_0 6 rfl
theorem dX12_rolls_13 : decode cX12_rolls 13 = .ok (.i2l, 1) := zDec_at zB_dX12_rolls_0 7 rfl
theorem dX12_rolls_14 : decode cX12_rolls 14 = .ok (.lconst 0, 1) := zDec_at zB_dX12_rolls_0 8 rfl
theorem dX12_rolls_15 : decode cX12_rolls 15 = .ok (.ldc2_w 484, 3) := zDec_at zB_dX12_rolls_0 9 rfl
theorem dX12_rolls_18 : decode cX12_rolls 18 = .ok (.invokestatic 100, 3) := zDec_at zB_dX12_rolls_0 10 rfl
theorem dX12_rolls_21 : decode cX12_rolls 21 = .ok (.ifCond .ne 5, 3) := zDec_at zB_dX12_rolls_0 11 rfl
theorem dX12_rolls_24 : decode cX12_rolls 24 = .ok (.iconst (-1), 1) := zDec_at zB_dX12_rolls_0 12 rfl
theorem dX12_rolls_25 : decode cX12_rolls 25 = .ok (.ireturn, 1) := zDec_at zB_dX12_rolls_0 13 rfl
theorem dX12_rolls_26 : decode cX12_rolls 26 = .ok (.iconst 0, 1) := zDec_at zB_dX12_rolls_0 14 rfl
theorem dX12_rolls_27 : decode cX12_rolls 27 = .ok (.istore 4, 2) := zDec_at zB_dX12_rolls_0 15 rfl
theorem dX12_rolls_29 : decode cX12_rolls 29 = .ok (.iconst (-1), 1) := zDec_at zB_dX12_rolls_0 16 rfl
theorem dX12_rolls_30 : decode cX12_rolls 30 = .ok (.istore 5, 2) := zDec_at zB_dX12_rolls_0 17 rfl
theorem dX12_rolls_32 : decode cX12_rolls 32 = .ok (.iconst 0, 1) := zDec_at zB_dX12_rolls_0 18 rfl
theorem dX12_rolls_33 : decode cX12_rolls 33 = .ok (.istore 6, 2) := zDec_at zB_dX12_rolls_0 19 rfl
theorem dX12_rolls_35 : decode cX12_rolls 35 = .ok (.iload 6, 2) := zDec_at zB_dX12_rolls_0 20 rfl
theorem dX12_rolls_37 : decode cX12_rolls 37 = .ok (.aload_n 0, 1) := zDec_at zB_dX12_rolls_0 21 rfl
theorem dX12_rolls_38 : decode cX12_rolls 38 = .ok (.getfield 7, 3) := zDec_at zB_dX12_rolls_0 22 rfl
theorem dX12_rolls_41 : decode cX12_rolls 41 = .ok (.iconst 0, 1) := zDec_at zB_dX12_rolls_0 23 rfl
theorem dX12_rolls_42 : decode cX12_rolls 42 = .ok (.iaload, 1) := zDec_at zB_dX12_rolls_0 24 rfl
theorem dX12_rolls_43 : decode cX12_rolls 43 = .ok (.if_icmp .ge 123, 3) := zDec_at zB_dX12_rolls_0 25 rfl
theorem dX12_rolls_46 : decode cX12_rolls 46 = .ok (.iload_n 2, 1) := zDec_at zB_dX12_rolls_0 26 rfl
theorem dX12_rolls_47 : decode cX12_rolls 47 = .ok (.ifCond .ne 57, 3) := zDec_at zB_dX12_rolls_0 27 rfl
theorem dX12_rolls_50 : decode cX12_rolls 50 = .ok (.aload_n 0, 1) := zDec_at zB_dX12_rolls_0 28 rfl
theorem dX12_rolls_51 : decode cX12_rolls 51 = .ok (.getfield 7, 3) := zDec_at zB_dX12_rolls_0 29 rfl
theorem dX12_rolls_54 : decode cX12_rolls 54 = .ok (.iload 6, 2) := zDec_at zB_dX12_rolls_0 30 rfl
theorem dX12_rolls_56 : decode cX12_rolls 56 = .ok (.invokestatic 120, 3) := zDec_at zB_dX12_rolls_0 31 rfl
theorem dX12_rolls_59 : decode cX12_rolls 59 = .ok (.iaload, 1) := zDec_at zB_dX12_rolls_0 32 rfl
theorem dX12_rolls_60 : decode cX12_rolls 60 = .ok (.i2l, 1) := zDec_at zB_dX12_rolls_0 33 rfl
theorem dX12_rolls_61 : decode cX12_rolls 61 = .ok (.ldc2_w 486, 3) := zDec_at zB_dX12_rolls_0 34 rfl
theorem dX12_rolls_64 : decode cX12_rolls 64 = .ok (.ldc2_w 488, 3) := zDec_at zB_dX12_rolls_0 35 rfl
theorem dX12_rolls_67 : decode cX12_rolls 67 = .ok (.invokestatic 100, 3) := zDec_at zB_dX12_rolls_0 36 rfl
theorem dX12_rolls_70 : decode cX12_rolls 70 = .ok (.ifCond .eq 28, 3) := zDec_at zB_dX12_rolls_0 37 rfl
theorem dX12_rolls_73 : decode cX12_rolls 73 = .ok (.aload_n 0, 1) := zDec_at zB_dX12_rolls_0 38 rfl
theorem dX12_rolls_74 : decode cX12_rolls 74 = .ok (.iload 6, 2) := zDec_at zB_dX12_rolls_0 39 rfl
theorem zB_dX12_rolls_76 : zDecB cX12_rolls [(76, .iconst 1, 1), (77, .iload_n 1, 1), (78, .invokevirtual 413, 3), (81, .ifCond .ne 17, 3), (84, .aload_n 0, 1), (85, .iload 6, 2), (87, .iload_n 1, 1), (88, .invokevirtual 490, 3), (91, .ifCond .ne 7, 3), (94, .iconst 1, 1), (95, .goto 4, 3), (98, .iconst 0, 1), (99, .istore 7, 2), (101, .goto 36, 3), (104, .iload_n 2, 1), (105, .iconst 1, 1), (106, .if_icmp .ne 22, 3), (109, .aload_n 0, 1), (110, .iload 6, 2), (112, .iload_n 1, 1), (113, .invokevirtual 490, 3), (116, .iconst 1, 1), (117, .if_icmp .le 7, 3), (120, .iconst 1, 1), (121, .goto 14, 3), (124, .iconst 0, 1), (125, .goto 10, 3), (128, .aload_n 0, 1), (129, .iload 6, 2), (131, .iload_n 1, 1), (132, .invokevirtual 493, 3), (135, .istore 7, 2), (137, .iload 7, 2), (139, .ifCond .eq 21, 3), (142, .iload 4, 2), (144, .iload_n 3, 1), (145, .if_icmp .ne 8, 3), (148, .iload 6, 2), (150, .goto 5, 3), (153, .iload 5, 2)] = true := by decide +kernel
theorem dX12_rolls_76 : decode cX12_rolls 76 = .ok (.iconst 1, 1) := zDec_at zB_dX12_rolls_76 0 rfl
theorem dX12_rolls_77 : decode cX12_rolls 77 = .ok (.iload_n 1, 1) := zDec_at zB_dX12_rolls_76 1 rfl
theorem dX12_rolls_78 : decode cX12_rolls 78 = .ok (.invokevirtual 413, 3) := zDec_at zB_dX12_rolls_76 2 rfl
theorem dX12_rolls_81 : decode cX12_rolls 81 = .ok (.ifCond .ne 17, 3) := zDec_at zB_dX12_rolls_76 3 rfl
theorem dX12_rolls_84 : decode cX12_rolls 84 = .ok (.aload_n 0, 1) := zDec_at zB_dX12_rolls_76 4 rfl
theorem dX12_rolls_85 : decode cX12_rolls 85 = .ok (.iload 6, 2) := zDec_at zB_dX12_rolls_76 5 rfl
theorem dX12_rolls_87 : decode cX12_rolls 87 = .ok (.iload_n 1, 1) := zDec_at zB_dX12_rolls_76 6 rfl
theorem dX12_rolls_88 : decode cX12_rolls 88 = .ok (.invokevirtual 490, 3) := zDec_at zB_dX12_rolls_76 7 rfl
theorem dX12_rolls_91 : decode cX12_rolls 91 = .ok (.ifCond .ne 7, 3) := zDec_at zB_dX12_rolls_76 8 rfl
theorem dX12_rolls_94 : decode cX12_rolls 94 = .ok (.iconst 1, 1) := zDec_at zB_dX12_rolls_76 9 rfl
theorem dX12_rolls_95 : decode cX12_rolls 95 = .ok (.goto 4, 3) := zDec_at zB_dX12_rolls_76 10 rfl
theorem dX12_rolls_98 : decode cX12_rolls 98 = .ok (.iconst 0, 1) := zDec_at zB_dX12_rolls_76 11 rfl
theorem dX12_rolls_99 : decode cX12_rolls 99 = .ok (.istore 7, 2) := zDec_at zB_dX12_rolls_76 12 rfl
theorem dX12_rolls_101 : decode cX12_rolls 101 = .ok (.goto 36, 3) := zDec_at zB_dX12_rolls_76 13 rfl
theorem dX12_rolls_104 : decode cX12_rolls 104 = .ok (.iload_n 2, 1) := zDec_at zB_dX12_rolls_76 14 rfl
theorem dX12_rolls_105 : decode cX12_rolls 105 = .ok (.iconst 1, 1) := zDec_at zB_dX12_rolls_76 15 rfl
theorem dX12_rolls_106 : decode cX12_rolls 106 = .ok (.if_icmp .ne 22, 3) := zDec_at zB_dX12_rolls_76 16 rfl
theorem dX12_rolls_109 : decode cX12_rolls 109 = .ok (.aload_n 0, 1) := zDec_at zB_dX12_rolls_76 17 rfl
theorem dX12_rolls_110 : decode cX12_rolls 110 = .ok (.iload 6, 2) := zDec_at zB_dX12_rolls_76 18 rfl
theorem dX12_rolls_112 : decode cX12_rolls 112 = .ok (.iload_n 1, 1) := zDec_at zB_dX12_rolls_76 19 rfl
theorem dX12_rolls_113 : decode cX12_rolls 113 = .ok (.invokevirtual 490, 3) := zDec_at zB_dX12_rolls_76 20 rfl
theorem dX12_rolls_116 : decode cX12_rolls 116 = .ok (.iconst 1, 1) := zDec_at zB_dX12_rolls_76 21 rfl
theorem dX12_rolls_117 : decode cX12_rolls 117 = .ok (.if_icmp .le 7, 3) := zDec_at zB_dX12_rolls_76 22 rfl
theorem dX12_rolls_120 : decode cX12_rolls 120 = .ok (.iconst 1, 1) := zDec_at zB_dX12_rolls_76 23 rfl
theorem dX12_rolls_121 : decode cX12_rolls 121 = .ok (.goto 14, 3) := zDec_at zB_dX12_rolls_76 24 rfl
theorem dX12_rolls_124 : decode cX12_rolls 124 = .ok (.iconst 0, 1) := zDec_at zB_dX12_rolls_76 25 rfl
theorem dX12_rolls_125 : decode cX12_rolls 125 = .ok (.goto 10, 3) := zDec_at zB_dX12_rolls_76 26 rfl
theorem dX12_rolls_128 : decode cX12_rolls 128 = .ok (.aload_n 0, 1) := zDec_at zB_dX12_rolls_76 27 rfl
theorem dX12_rolls_129 : decode cX12_rolls 129 = .ok (.iload 6, 2) := zDec_at zB_dX12_rolls_76 28 rfl
theorem dX12_rolls_131 : decode cX12_rolls 131 = .ok (.iload_n 1, 1) := zDec_at zB_dX12_rolls_76 29 rfl
theorem dX12_rolls_132 : decode cX12_rolls 132 = .ok (.invokevirtual 493, 3) := zDec_at zB_dX12_rolls_76 30 rfl
theorem dX12_rolls_135 : decode cX12_rolls 135 = .ok (.istore 7, 2) := zDec_at zB_dX12_rolls_76 31 rfl
theorem dX12_rolls_137 : decode cX12_rolls 137 = .ok (.iload 7, 2) := zDec_at zB_dX12_rolls_76 32 rfl
theorem dX12_rolls_139 : decode cX12_rolls 139 = .ok (.ifCond .eq 21, 3) := zDec_at zB_dX12_rolls_76 33 rfl
theorem dX12_rolls_142 : decode cX12_rolls 142 = .ok (.iload 4, 2) := zDec_at zB_dX12_rolls_76 34 rfl
theorem dX12_rolls_144 : decode cX12_rolls 144 = .ok (.iload_n 3, 1) := zDec_at zB_dX12_rolls_76 35 rfl
theorem dX12_rolls_145 : decode cX12_rolls 145 = .ok (.if_icmp .ne 8, 3) := zDec_at zB_dX12_rolls_76 36 rfl
theorem dX12_rolls_148 : decode cX12_rolls 148 = .ok (.iload 6, 2) := zDec_at zB_dX12_rolls_76 37 rfl
theorem dX12_rolls_150 : decode cX12_rolls 150 = .ok (.goto 5, 3) := zDec_at zB_dX12_rolls_76 38 rfl
theorem dX12_rolls_153 : decode cX12_rolls 153 = .ok (.iload 5, 2) := zDec_at zB_dX12_rolls_76 39 rfl
theorem zB_dX12_rolls_155 : zDecB cX12_rolls [(155, .istore 5, 2), (157, .iinc 4 1, 3), (160, .iinc 6 1, 3), (163, .goto (-128), 3), (166, .iload_n 3, 1), (167, .iconst (-1), 1), (168, .if_icmp .ne 8, 3), (171, .iload 4, 2), (173, .goto 5, 3), (176, .iload 5, 2), (178, .ireturn, 1)] = true := by decide +kernel
theorem dX12_rolls_155 : decode cX12_rolls 155 = .ok (.istore 5, 2) := zDec_at zB_dX12_rolls_155 0 rfl
theorem dX12_rolls_157 : decode cX12_rolls 157 = .ok (.iinc 4 1, 3) := zDec_at zB_dX12_rolls_155 1 rfl
theorem dX12_rolls_160 : decode cX12_rolls 160 = .ok (.iinc 6 1, 3) := zDec_at zB_dX12_rolls_155 2 rfl
theorem dX12_rolls_163 : decode cX12_rolls 163 = .ok (.goto (-128), 3) := zDec_at zB_dX12_rolls_155 3 rfl
theorem dX12_rolls_166 : decode cX12_rolls 166 = .ok (.iload_n 3, 1) := zDec_at zB_dX12_rolls_155 4 rfl
theorem dX12_rolls_167 : decode cX12_rolls 167 = .ok (.iconst (-1), 1) := zDec_at zB_dX12_rolls_155 5 rfl
theorem dX12_rolls_168 : decode cX12_rolls 168 = .ok (.if_icmp .ne 8, 3) := zDec_at zB_dX12_rolls_155 6 rfl
theorem dX12_rolls_171 : decode cX12_rolls 171 = .ok (.iload 4, 2) := zDec_at zB_dX12_rolls_155 7 rfl
theorem dX12_rolls_173 : decode cX12_rolls 173 = .ok (.goto 5, 3) := zDec_at zB_dX12_rolls_155 8 rfl
theorem dX12_rolls_176 : decode cX12_rolls 176 = .ok (.iload 5, 2) := zDec_at zB_dX12_rolls_155 9 rfl
theorem dX12_rolls_178 : decode cX12_rolls 178 = .ok (.ireturn, 1) := zDec_at zB_dX12_rolls_155 10 rfl
theorem zB_dX12_rollsOf_0 : zDecB cX12_rollsOf [(0, .iconst 0, 1), (1, .istore_n 3, 1), (2, .iconst 0, 1), (3, .istore 4, 2), (5, .iload 4, 2), (7, .aload_n 0, 1), (8, .getfield 7, 3), (11, .iconst 1, 1), (12, .iaload, 1), (13, .if_icmp .ge 28, 3), (16, .iload_n 3, 1), (17, .aload_n 0, 1), (18, .iload_n 1, 1), (19, .iload 4, 2), (21, .iload_n 2, 1), (22, .invokevirtual 141, 3), (25, .ifCond .eq 7, 3), (28, .iconst 1, 1), (29, .goto 4, 3), (32, .iconst 0, 1), (33, .iadd, 1), (34, .istore_n 3, 1), (35, .iinc 4 1, 3), (38, .goto (-33), 3), (41, .iload_n 3, 1), (42, .ireturn, 1)] = true := by decide +kernel
theorem dX12_rollsOf_0 : decode cX12_rollsOf 0 = .ok (.iconst 0, 1) := zDec_at zB_dX12_rollsOf_0 0 rfl
theorem dX12_rollsOf_1 : decode cX12_rollsOf 1 = .ok (.istore_n 3, 1) := zDec_at zB_dX12_rollsOf_0 1 rfl
theorem dX12_rollsOf_2 : decode cX12_rollsOf 2 = .ok (.iconst 0, 1) := zDec_at zB_dX12_rollsOf_0 2 rfl
theorem dX12_rollsOf_3 : decode cX12_rollsOf 3 = .ok (.istore 4, 2) := zDec_at zB_dX12_rollsOf_0 3 rfl
theorem dX12_rollsOf_5 : decode cX12_rollsOf 5 = .ok (.iload 4, 2) := zDec_at zB_dX12_rollsOf_0 4 rfl
theorem dX12_rollsOf_7 : decode cX12_rollsOf 7 = .ok (.aload_n 0, 1) := zDec_at zB_dX12_rollsOf_0 5 rfl
theorem dX12_rollsOf_8 : decode cX12_rollsOf 8 = .ok (.getfield 7, 3) := zDec_at zB_dX12_rollsOf_0 6 rfl
theorem dX12_rollsOf_11 : decode cX12_rollsOf 11 = .ok (.iconst 1, 1) := zDec_at zB_dX12_rollsOf_0 7 rfl
theorem dX12_rollsOf_12 : decode cX12_rollsOf 12 = .ok (.iaload, 1) := zDec_at zB_dX12_rollsOf_0 8 rfl
theorem dX12_rollsOf_13 : decode cX12_rollsOf 13 = .ok (.if_icmp .ge 28, 3) := zDec_at zB_dX12_rollsOf_0 9 rfl
theorem dX12_rollsOf_16 : decode cX12_rollsOf 16 = .ok (.iload_n 3, 1) := zDec_at zB_dX12_rollsOf_0 10 rfl
theorem dX12_rollsOf_17 : decode cX12_rollsOf 17 = .ok (.aload_n 0, 1) := zDec_at zB_dX12_rollsOf_0 11 rfl
theorem dX12_rollsOf_18 : decode cX12_rollsOf 18 = .ok (.iload_n 1, 1) := zDec_at zB_dX12_rollsOf_0 12 rfl
theorem dX12_rollsOf_19 : decode cX12_rollsOf 19 = .ok (.iload 4, 2) := zDec_at zB_dX12_rollsOf_0 13 rfl
theorem dX12_rollsOf_21 : decode cX12_rollsOf 21 = .ok (.iload_n 2, 1) := zDec_at zB_dX12_rollsOf_0 14 rfl
theorem dX12_rollsOf_22 : decode cX12_rollsOf 22 = .ok (.invokevirtual 141, 3) := zDec_at zB_dX12_rollsOf_0 15 rfl
theorem dX12_rollsOf_25 : decode cX12_rollsOf 25 = .ok (.ifCond .eq 7, 3) := zDec_at zB_dX12_rollsOf_0 16 rfl
theorem dX12_rollsOf_28 : decode cX12_rollsOf 28 = .ok (.iconst 1, 1) := zDec_at zB_dX12_rollsOf_0 17 rfl
theorem dX12_rollsOf_29 : decode cX12_rollsOf 29 = .ok (.goto 4, 3) := zDec_at zB_dX12_rollsOf_0 18 rfl
theorem dX12_rollsOf_32 : decode cX12_rollsOf 32 = .ok (.iconst 0, 1) := zDec_at zB_dX12_rollsOf_0 19 rfl
theorem dX12_rollsOf_33 : decode cX12_rollsOf 33 = .ok (.iadd, 1) := zDec_at zB_dX12_rollsOf_0 20 rfl
theorem dX12_rollsOf_34 : decode cX12_rollsOf 34 = .ok (.istore_n 3, 1) := zDec_at zB_dX12_rollsOf_0 21 rfl
theorem dX12_rollsOf_35 : decode cX12_rollsOf 35 = .ok (.iinc 4 1, 3) := zDec_at zB_dX12_rollsOf_0 22 rfl
theorem dX12_rollsOf_38 : decode cX12_rollsOf 38 = .ok (.goto (-33), 3) := zDec_at zB_dX12_rollsOf_0 23 rfl
theorem dX12_rollsOf_41 : decode cX12_rollsOf 41 = .ok (.iload_n 3, 1) := zDec_at zB_dX12_rollsOf_0 24 rfl
theorem dX12_rollsOf_42 : decode cX12_rollsOf 42 = .ok (.ireturn, 1) := zDec_at zB_dX12_rollsOf_0 25 rfl
theorem zB_dX12_round_0 : zDecB cX12_round [(0, .aload_n 0, 1), (1, .iconst 0, 1), (2, .putfield 92, 3), (5, .iload_n 1, 1), (6, .i2l, 1), (7, .lconst 0, 1), (8, .ldc2_w 118, 3), (11, .invokestatic 100, 3), (14, .ifCond .eq 40, 3), (17, .iload_n 2, 1), (18, .i2l, 1), (19, .lconst 0, 1), (20, .ldc2_w 118, 3), (23, .invokestatic 100, 3), (26, .ifCond .eq 28, 3), (29, .iload_n 3, 1), (30, .i2l, 1), (31, .lconst 0, 1), (32, .ldc2_w 535, 3), (35, .invokestatic 100, 3), (38, .ifCond .eq 16, 3), (41, .iload 4, 2), (43, .i2l, 1), (44, .lconst 0, 1), (45, .ldc2_w 484, 3), (48, .invokestatic 100, 3), (51, .ifCond .ne 5, 3), (54, .iconst (-1), 1), (55, .ireturn, 1), (56, .aload_n 0, 1), (57, .iload_n 1, 1), (58, .iload_n 2, 1), (59, .invokevirtual 537, 3), (62, .iconst 0, 1), (63, .istore 5, 2), (65, .iconst 0, 1), (66, .istore 6, 2), (68, .iconst 0, 1), (69, .istore 7, 2), (71, .iconst 1, 1)] = true := by decide +kernel
theorem dX12_round_0 : decode cX12_round 0 = .ok (.aload_n 0, 1) := zDec_at zB_dX12_round_0 0 rfl
theorem dX12_round_1 : decode cX12_round 1 = .ok (.iconst 0, 1) := zDec_at zB_dX12_round_0 1 rfl
theorem dX12_round_2 : decode cX12_round 2 = .ok (.putfield 92, 3) := zDec_at zB_dX12_round_0 2 rfl
theorem dX12_round_5 : decode cX12_round 5 = .ok (.iload_n 1, 1) := zDec_at zB_dX12_round_0 3 rfl
theorem dX12_round_6 : decode cX12_round 6 = .ok (.i2l, 1) := zDec_at zB_dX12_round_0 4 rfl
theorem dX12_round_7 : decode cX12_round 7 = .ok (.lconst 0, 1) := zDec_at zB_dX12_round_0 5 rfl
theorem dX12_round_8 : decode cX12_round 8 = .ok (.ldc2_w 118, 3) := zDec_at zB_dX12_round_0 6 rfl
theorem dX12_round_11 : decode cX12_round 11 = .ok (.invokestatic 100, 3) := zDec_at zB_dX12_round_0 7 rfl
theorem dX12_round_14 : decode cX12_round 14 = .ok (.ifCond .eq 40, 3) := zDec_at zB_dX12_round_0 8 rfl
theorem dX12_round_17 : decode cX12_round 17 = .ok (.iload_n 2, 1) := zDec_at zB_dX12_round_0 9 rfl
theorem dX12_round_18 : decode cX12_round 18 = .ok (.i2l, 1) := zDec_at zB_dX12_round_0 10 rfl
theorem dX12_round_19 : decode cX12_round 19 = .ok (.lconst 0, 1) := zDec_at zB_dX12_round_0 11 rfl
theorem dX12_round_20 : decode cX12_round 20 = .ok (.ldc2_w 118, 3) := zDec_at zB_dX12_round_0 12 rfl
theorem dX12_round_23 : decode cX12_round 23 = .ok (.invokestatic 100, 3) := zDec_at zB_dX12_round_0 13 rfl
theorem dX12_round_26 : decode cX12_round 26 = .ok (.ifCond .eq 28, 3) := zDec_at zB_dX12_round_0 14 rfl
theorem dX12_round_29 : decode cX12_round 29 = .ok (.iload_n 3, 1) := zDec_at zB_dX12_round_0 15 rfl
theorem dX12_round_30 : decode cX12_round 30 = .ok (.i2l, 1) := zDec_at zB_dX12_round_0 16 rfl
theorem dX12_round_31 : decode cX12_round 31 = .ok (.lconst 0, 1) := zDec_at zB_dX12_round_0 17 rfl
theorem dX12_round_32 : decode cX12_round 32 = .ok (.ldc2_w 535, 3) := zDec_at zB_dX12_round_0 18 rfl
theorem dX12_round_35 : decode cX12_round 35 = .ok (.invokestatic 100, 3) := zDec_at zB_dX12_round_0 19 rfl
theorem dX12_round_38 : decode cX12_round 38 = .ok (.ifCond .eq 16, 3) := zDec_at zB_dX12_round_0 20 rfl
theorem dX12_round_41 : decode cX12_round 41 = .ok (.iload 4, 2) := zDec_at zB_dX12_round_0 21 rfl
theorem dX12_round_43 : decode cX12_round 43 = .ok (.i2l, 1) := zDec_at zB_dX12_round_0 22 rfl
theorem dX12_round_44 : decode cX12_round 44 = .ok (.lconst 0, 1) := zDec_at zB_dX12_round_0 23 rfl
theorem dX12_round_45 : decode cX12_round 45 = .ok (.ldc2_w 484, 3) := zDec_at zB_dX12_round_0 24 rfl
theorem dX12_round_48 : decode cX12_round 48 = .ok (.invokestatic 100, 3) := zDec_at zB_dX12_round_0 25 rfl
theorem dX12_round_51 : decode cX12_round 51 = .ok (.ifCond .ne 5, 3) := zDec_at zB_dX12_round_0 26 rfl
theorem dX12_round_54 : decode cX12_round 54 = .ok (.iconst (-1), 1) := zDec_at zB_dX12_round_0 27 rfl
theorem dX12_round_55 : decode cX12_round 55 = .ok (.ireturn, 1) := zDec_at zB_dX12_round_0 28 rfl
theorem dX12_round_56 : decode cX12_round 56 = .ok (.aload_n 0, 1) := zDec_at zB_dX12_round_0 29 rfl
theorem dX12_round_57 : decode cX12_round 57 = .ok (.iload_n 1, 1) := zDec_at zB_dX12_round_0 30 rfl
theorem dX12_round_58 : decode cX12_round 58 = .ok (.iload_n 2, 1) := zDec_at zB_dX12_round_0 31 rfl
theorem dX12_round_59 : decode cX12_round 59 = .ok (.invokevirtual 537, 3) := zDec_at zB_dX12_round_0 32 rfl
theorem dX12_round_62 : decode cX12_round 62 = .ok (.iconst 0, 1) := zDec_at zB_dX12_round_0 33 rfl
theorem dX12_round_63 : decode cX12_round 63 = .ok (.istore 5, 2) := zDec_at zB_dX12_round_0 34 rfl
theorem dX12_round_65 : decode cX12_round 65 = .ok (.iconst 0, 1) := zDec_at zB_dX12_round_0 35 rfl
theorem dX12_round_66 : decode cX12_round 66 = .ok (.istore 6, 2) := zDec_at zB_dX12_round_0 36 rfl
theorem dX12_round_68 : decode cX12_round 68 = .ok (.iconst 0, 1) := zDec_at zB_dX12_round_0 37 rfl
theorem dX12_round_69 : decode cX12_round 69 = .ok (.istore 7, 2) := zDec_at zB_dX12_round_0 38 rfl
theorem dX12_round_71 : decode cX12_round 71 = .ok (.iconst 1, 1) := zDec_at zB_dX12_round_0 39 rfl
theorem zB_dX12_round_72 : zDecB cX12_round [(72, .istore 8, 2), (74, .iload 8, 2), (76, .iconst 1, 1), (77, .aload_n 0, 1), (78, .getfield 7, 3), (81, .bipush 7, 2), (83, .iaload, 1), (84, .ishl, 1), (85, .if_icmp .ge 110, 3), (88, .aload_n 0, 1), (89, .iload 8, 2), (91, .iload_n 1, 1), (92, .iload_n 2, 1), (93, .invokevirtual 540, 3), (96, .istore 9, 2), (98, .iconst 0, 1), (99, .istore 10, 2), (101, .iconst 0, 1), (102, .istore 11, 2), (104, .iload 11, 2), (106, .aload_n 0, 1), (107, .getfield 7, 3), (110, .bipush 7, 2), (112, .iaload, 1), (113, .if_icmp .ge 37, 3), (116, .iload 10, 2), (118, .iload 8, 2), (120, .iload 11, 2), (122, .ishr, 1), (123, .iconst 1, 1), (124, .iand, 1), (125, .aload_n 0, 1), (126, .getfield 7, 3), (129, .sipush 6998, 3), (132, .iconst 3, 1), (133, .iload 11, 2), (135, .imul, 1), (136, .iadd, 1), (137, .iconst 2, 1), (138, .iadd, 1)] = true := by decide +kernel
theorem dX12_round_72 : decode cX12_round 72 = .ok (.istore 8, 2) := zDec_at zB_dX12_round_72 0 rfl
theorem dX12_round_74 : decode cX12_round 74 = .ok (.iload 8, 2) := zDec_at zB_dX12_round_72 1 rfl
theorem dX12_round_76 : decode cX12_round 76 = .ok (.iconst 1, 1) := zDec_at zB_dX12_round_72 2 rfl
theorem dX12_round_77 : decode cX12_round 77 = .ok (.aload_n 0, 1) := zDec_at zB_dX12_round_72 3 rfl
theorem dX12_round_78 : decode cX12_round 78 = .ok (.getfield 7, 3) := zDec_at zB_dX12_round_72 4 rfl
theorem dX12_round_81 : decode cX12_round 81 = .ok (.bipush 7, 2) := zDec_at zB_dX12_round_72 5 rfl
theorem dX12_round_83 : decode cX12_round 83 = .ok (.iaload, 1) := zDec_at zB_dX12_round_72 6 rfl
theorem dX12_round_84 : decode cX12_round 84 = .ok (.ishl, 1) := zDec_at zB_dX12_round_72 7 rfl
theorem dX12_round_85 : decode cX12_round 85 = .ok (.if_icmp .ge 110, 3) := zDec_at zB_dX12_round_72 8 rfl
theorem dX12_round_88 : decode cX12_round 88 = .ok (.aload_n 0, 1) := zDec_at zB_dX12_round_72 9 rfl
theorem dX12_round_89 : decode cX12_round 89 = .ok (.iload 8, 2) := zDec_at zB_dX12_round_72 10 rfl
theorem dX12_round_91 : decode cX12_round 91 = .ok (.iload_n 1, 1) := zDec_at zB_dX12_round_72 11 rfl
theorem dX12_round_92 : decode cX12_round 92 = .ok (.iload_n 2, 1) := zDec_at zB_dX12_round_72 12 rfl
theorem dX12_round_93 : decode cX12_round 93 = .ok (.invokevirtual 540, 3) := zDec_at zB_dX12_round_72 13 rfl
theorem dX12_round_96 : decode cX12_round 96 = .ok (.istore 9, 2) := zDec_at zB_dX12_round_72 14 rfl
theorem dX12_round_98 : decode cX12_round 98 = .ok (.iconst 0, 1) := zDec_at zB_dX12_round_72 15 rfl
theorem dX12_round_99 : decode cX12_round 99 = .ok (.istore 10, 2) := zDec_at zB_dX12_round_72 16 rfl
theorem dX12_round_101 : decode cX12_round 101 = .ok (.iconst 0, 1) := zDec_at zB_dX12_round_72 17 rfl
theorem dX12_round_102 : decode cX12_round 102 = .ok (.istore 11, 2) := zDec_at zB_dX12_round_72 18 rfl
theorem dX12_round_104 : decode cX12_round 104 = .ok (.iload 11, 2) := zDec_at zB_dX12_round_72 19 rfl
theorem dX12_round_106 : decode cX12_round 106 = .ok (.aload_n 0, 1) := zDec_at zB_dX12_round_72 20 rfl
theorem dX12_round_107 : decode cX12_round 107 = .ok (.getfield 7, 3) := zDec_at zB_dX12_round_72 21 rfl
theorem dX12_round_110 : decode cX12_round 110 = .ok (.bipush 7, 2) := zDec_at zB_dX12_round_72 22 rfl
theorem dX12_round_112 : decode cX12_round 112 = .ok (.iaload, 1) := zDec_at zB_dX12_round_72 23 rfl
theorem dX12_round_113 : decode cX12_round 113 = .ok (.if_icmp .ge 37, 3) := zDec_at zB_dX12_round_72 24 rfl
theorem dX12_round_116 : decode cX12_round 116 = .ok (.iload 10, 2) := zDec_at zB_dX12_round_72 25 rfl
theorem dX12_round_118 : decode cX12_round 118 = .ok (.iload 8, 2) := zDec_at zB_dX12_round_72 26 rfl
theorem dX12_round_120 : decode cX12_round 120 = .ok (.iload 11, 2) := zDec_at zB_dX12_round_72 27 rfl
theorem dX12_round_122 : decode cX12_round 122 = .ok (.ishr, 1) := zDec_at zB_dX12_round_72 28 rfl
theorem dX12_round_123 : decode cX12_round 123 = .ok (.iconst 1, 1) := zDec_at zB_dX12_round_72 29 rfl
theorem dX12_round_124 : decode cX12_round 124 = .ok (.iand, 1) := zDec_at zB_dX12_round_72 30 rfl
theorem dX12_round_125 : decode cX12_round 125 = .ok (.aload_n 0, 1) := zDec_at zB_dX12_round_72 31 rfl
theorem dX12_round_126 : decode cX12_round 126 = .ok (.getfield 7, 3) := zDec_at zB_dX12_round_72 32 rfl
theorem dX12_round_129 : decode cX12_round 129 = .ok (.sipush 6998, 3) := zDec_at zB_dX12_round_72 33 rfl
theorem dX12_round_132 : decode cX12_round 132 = .ok (.iconst 3, 1) := zDec_at zB_dX12_round_72 34 rfl
theorem dX12_round_133 : decode cX12_round 133 = .ok (.iload 11, 2) := zDec_at zB_dX12_round_72 35 rfl
theorem dX12_round_135 : decode cX12_round 135 = .ok (.imul, 1) := zDec_at zB_dX12_round_72 36 rfl
theorem dX12_round_136 : decode cX12_round 136 = .ok (.iadd, 1) := zDec_at zB_dX12_round_72 37 rfl
theorem dX12_round_137 : decode cX12_round 137 = .ok (.iconst 2, 1) := zDec_at zB_dX12_round_72 38 rfl
theorem dX12_round_138 : decode cX12_round 138 = .ok (.iadd, 1) := zDec_at zB_dX12_round_72 39 rfl
theorem zB_dX12_round_139 : zDecB cX12_round [(139, .iaload, 1), (140, .imul, 1), (141, .iadd, 1), (142, .istore 10, 2), (144, .iinc 11 1, 3), (147, .goto (-43), 3), (150, .iload 9, 2), (152, .iload_n 3, 1), (153, .if_icmp .gt 36, 3), (156, .iload 10, 2), (158, .iload 6, 2), (160, .if_icmp .gt 17, 3), (163, .iload 10, 2), (165, .iload 6, 2), (167, .if_icmp .ne 22, 3), (170, .iload 9, 2), (172, .iload 7, 2), (174, .if_icmp .ge 15, 3), (177, .iload 8, 2), (179, .istore 5, 2), (181, .iload 10, 2), (183, .istore 6, 2), (185, .iload 9, 2), (187, .istore 7, 2), (189, .iinc 8 1, 3), (192, .goto (-118), 3), (195, .iload 4, 2), (197, .ifCond .ne 8, 3), (200, .iload 5, 2), (202, .goto 16, 3), (205, .iload 4, 2), (207, .iconst 1, 1), (208, .if_icmp .ne 8, 3), (211, .iload 6, 2), (213, .goto 5, 3), (216, .iload 7, 2), (218, .ireturn, 1)] = true := by decide +kernel
theorem dX12_round_139 : decode cX12_round 139 = .ok (.iaload, 1) := zDec_at zB_dX12_round_139 0 rfl
theorem dX12_round_140 : decode cX12_round 140 = .ok (.imul, 1) := zDec_at zB_dX12_round_139 1 rfl
theorem dX12_round_141 : decode cX12_round 141 = .ok (.iadd, 1) := zDec_at zB_dX12_round_139 2 rfl
theorem dX12_round_142 : decode cX12_round 142 = .ok (.istore 10, 2) := zDec_at zB_dX12_round_139 3 rfl
theorem dX12_round_144 : decode cX12_round 144 = .ok (.iinc 11 1, 3) := zDec_at zB_dX12_round_139 4 rfl
theorem dX12_round_147 : decode cX12_round 147 = .ok (.goto (-43), 3) := zDec_at zB_dX12_round_139 5 rfl
theorem dX12_round_150 : decode cX12_round 150 = .ok (.iload 9, 2) := zDec_at zB_dX12_round_139 6 rfl
theorem dX12_round_152 : decode cX12_round 152 = .ok (.iload_n 3, 1) := zDec_at zB_dX12_round_139 7 rfl
theorem dX12_round_153 : decode cX12_round 153 = .ok (.if_icmp .gt 36, 3) := zDec_at zB_dX12_round_139 8 rfl
theorem dX12_round_156 : decode cX12_round 156 = .ok (.iload 10, 2) := zDec_at zB_dX12_round_139 9 rfl
theorem dX12_round_158 : decode cX12_round 158 = .ok (.iload 6, 2) := zDec_at zB_dX12_round_139 10 rfl
theorem dX12_round_160 : decode cX12_round 160 = .ok (.if_icmp .gt 17, 3) := zDec_at zB_dX12_round_139 11 rfl
theorem dX12_round_163 : decode cX12_round 163 = .ok (.iload 10, 2) := zDec_at zB_dX12_round_139 12 rfl
theorem dX12_round_165 : decode cX12_round 165 = .ok (.iload 6, 2) := zDec_at zB_dX12_round_139 13 rfl
theorem dX12_round_167 : decode cX12_round 167 = .ok (.if_icmp .ne 22, 3) := zDec_at zB_dX12_round_139 14 rfl
theorem dX12_round_170 : decode cX12_round 170 = .ok (.iload 9, 2) := zDec_at zB_dX12_round_139 15 rfl
theorem dX12_round_172 : decode cX12_round 172 = .ok (.iload 7, 2) := zDec_at zB_dX12_round_139 16 rfl
theorem dX12_round_174 : decode cX12_round 174 = .ok (.if_icmp .ge 15, 3) := zDec_at zB_dX12_round_139 17 rfl
theorem dX12_round_177 : decode cX12_round 177 = .ok (.iload 8, 2) := zDec_at zB_dX12_round_139 18 rfl
theorem dX12_round_179 : decode cX12_round 179 = .ok (.istore 5, 2) := zDec_at zB_dX12_round_139 19 rfl
theorem dX12_round_181 : decode cX12_round 181 = .ok (.iload 10, 2) := zDec_at zB_dX12_round_139 20 rfl
theorem dX12_round_183 : decode cX12_round 183 = .ok (.istore 6, 2) := zDec_at zB_dX12_round_139 21 rfl
theorem dX12_round_185 : decode cX12_round 185 = .ok (.iload 9, 2) := zDec_at zB_dX12_round_139 22 rfl
theorem dX12_round_187 : decode cX12_round 187 = .ok (.istore 7, 2) := zDec_at zB_dX12_round_139 23 rfl
theorem dX12_round_189 : decode cX12_round 189 = .ok (.iinc 8 1, 3) := zDec_at zB_dX12_round_139 24 rfl
theorem dX12_round_192 : decode cX12_round 192 = .ok (.goto (-118), 3) := zDec_at zB_dX12_round_139 25 rfl
theorem dX12_round_195 : decode cX12_round 195 = .ok (.iload 4, 2) := zDec_at zB_dX12_round_139 26 rfl
theorem dX12_round_197 : decode cX12_round 197 = .ok (.ifCond .ne 8, 3) := zDec_at zB_dX12_round_139 27 rfl
theorem dX12_round_200 : decode cX12_round 200 = .ok (.iload 5, 2) := zDec_at zB_dX12_round_139 28 rfl
theorem dX12_round_202 : decode cX12_round 202 = .ok (.goto 16, 3) := zDec_at zB_dX12_round_139 29 rfl
theorem dX12_round_205 : decode cX12_round 205 = .ok (.iload 4, 2) := zDec_at zB_dX12_round_139 30 rfl
theorem dX12_round_207 : decode cX12_round 207 = .ok (.iconst 1, 1) := zDec_at zB_dX12_round_139 31 rfl
theorem dX12_round_208 : decode cX12_round 208 = .ok (.if_icmp .ne 8, 3) := zDec_at zB_dX12_round_139 32 rfl
theorem dX12_round_211 : decode cX12_round 211 = .ok (.iload 6, 2) := zDec_at zB_dX12_round_139 33 rfl
theorem dX12_round_213 : decode cX12_round 213 = .ok (.goto 5, 3) := zDec_at zB_dX12_round_139 34 rfl
theorem dX12_round_216 : decode cX12_round 216 = .ok (.iload 7, 2) := zDec_at zB_dX12_round_139 35 rfl
theorem dX12_round_218 : decode cX12_round 218 = .ok (.ireturn, 1) := zDec_at zB_dX12_round_139 36 rfl
theorem zB_dX12_run_0 : zDecB cX12_run [(0, .aload_n 0, 1), (1, .iconst 0, 1), (2, .putfield 416, 3), (5, .iconst 0, 1), (6, .istore 4, 2), (8, .iload_n 2, 1), (9, .istore 5, 2), (11, .iload 5, 2), (13, .iload_n 3, 1), (14, .if_icmp .ge 240, 3), (17, .aload_n 0, 1), (18, .getfield 416, 3), (21, .ifCond .ne 233, 3), (24, .aload_n 0, 1), (25, .getfield 7, 3), (28, .iload_n 1, 1), (29, .invokestatic 403, 3), (32, .bipush 122, 2), (34, .iadd, 1), (35, .iconst 2, 1), (36, .iload 5, 2), (38, .imul, 1), (39, .iadd, 1), (40, .iaload, 1), (41, .istore 6, 2), (43, .aload_n 0, 1), (44, .getfield 7, 3), (47, .iload_n 1, 1), (48, .invokestatic 403, 3), (51, .bipush 122, 2), (53, .iadd, 1), (54, .iconst 2, 1), (55, .iload 5, 2), (57, .imul, 1), (58, .iadd, 1), (59, .iconst 1, 1), (60, .iadd, 1), (61, .iaload, 1), (62, .istore 7, 2), (64, .iinc 5 1, 3)] = true := by decide +kernel
theorem dX12_run_0 : decode cX12_run 0 = .ok (.aload_n 0, 1) := zDec_at zB_dX12_run_0 0 rfl
theorem dX12_run_1 : decode cX12_run 1 = .ok (.iconst 0, 1) := zDec_at zB_dX12_run_0 1 rfl
theorem dX12_run_2 : decode cX12_run 2 = .ok (.putfield 416, 3) := zDec_at zB_dX12_run_0 2 rfl
theorem dX12_run_5 : decode cX12_run 5 = .ok (.iconst 0, 1) := zDec_at zB_dX12_run_0 3 rfl
theorem dX12_run_6 : decode cX12_run 6 = .ok (.istore 4, 2) := zDec_at zB_dX12_run_0 4 rfl
theorem dX12_run_8 : decode cX12_run 8 = .ok (.iload_n 2, 1) := zDec_at zB_dX12_run_0 5 rfl
theorem dX12_run_9 : decode cX12_run 9 = .ok (.istore 5, 2) := zDec_at zB_dX12_run_0 6 rfl
theorem dX12_run_11 : decode cX12_run 11 = .ok (.iload 5, 2) := zDec_at zB_dX12_run_0 7 rfl
theorem dX12_run_13 : decode cX12_run 13 = .ok (.iload_n 3, 1) := zDec_at zB_dX12_run_0 8 rfl
theorem dX12_run_14 : decode cX12_run 14 = .ok (.if_icmp .ge 240, 3) := zDec_at zB_dX12_run_0 9 rfl
theorem dX12_run_17 : decode cX12_run 17 = .ok (.aload_n 0, 1) := zDec_at zB_dX12_run_0 10 rfl
theorem dX12_run_18 : decode cX12_run 18 = .ok (.getfield 416, 3) := zDec_at zB_dX12_run_0 11 rfl
theorem dX12_run_21 : decode cX12_run 21 = .ok (.ifCond .ne 233, 3) := zDec_at zB_dX12_run_0 12 rfl
theorem dX12_run_24 : decode cX12_run 24 = .ok (.aload_n 0, 1) := zDec_at zB_dX12_run_0 13 rfl
theorem dX12_run_25 : decode cX12_run 25 = .ok (.getfield 7, 3) := zDec_at zB_dX12_run_0 14 rfl
theorem dX12_run_28 : decode cX12_run 28 = .ok (.iload_n 1, 1) := zDec_at zB_dX12_run_0 15 rfl
theorem dX12_run_29 : decode cX12_run 29 = .ok (.invokestatic 403, 3) := zDec_at zB_dX12_run_0 16 rfl
theorem dX12_run_32 : decode cX12_run 32 = .ok (.bipush 122, 2) := zDec_at zB_dX12_run_0 17 rfl
theorem dX12_run_34 : decode cX12_run 34 = .ok (.iadd, 1) := zDec_at zB_dX12_run_0 18 rfl
theorem dX12_run_35 : decode cX12_run 35 = .ok (.iconst 2, 1) := zDec_at zB_dX12_run_0 19 rfl
theorem dX12_run_36 : decode cX12_run 36 = .ok (.iload 5, 2) := zDec_at zB_dX12_run_0 20 rfl
theorem dX12_run_38 : decode cX12_run 38 = .ok (.imul, 1) := zDec_at zB_dX12_run_0 21 rfl
theorem dX12_run_39 : decode cX12_run 39 = .ok (.iadd, 1) := zDec_at zB_dX12_run_0 22 rfl
theorem dX12_run_40 : decode cX12_run 40 = .ok (.iaload, 1) := zDec_at zB_dX12_run_0 23 rfl
theorem dX12_run_41 : decode cX12_run 41 = .ok (.istore 6, 2) := zDec_at zB_dX12_run_0 24 rfl
theorem dX12_run_43 : decode cX12_run 43 = .ok (.aload_n 0, 1) := zDec_at zB_dX12_run_0 25 rfl
theorem dX12_run_44 : decode cX12_run 44 = .ok (.getfield 7, 3) := zDec_at zB_dX12_run_0 26 rfl
theorem dX12_run_47 : decode cX12_run 47 = .ok (.iload_n 1, 1) := zDec_at zB_dX12_run_0 27 rfl
theorem dX12_run_48 : decode cX12_run 48 = .ok (.invokestatic 403, 3) := zDec_at zB_dX12_run_0 28 rfl
theorem dX12_run_51 : decode cX12_run 51 = .ok (.bipush 122, 2) := zDec_at zB_dX12_run_0 29 rfl
theorem dX12_run_53 : decode cX12_run 53 = .ok (.iadd, 1) := zDec_at zB_dX12_run_0 30 rfl
theorem dX12_run_54 : decode cX12_run 54 = .ok (.iconst 2, 1) := zDec_at zB_dX12_run_0 31 rfl
theorem dX12_run_55 : decode cX12_run 55 = .ok (.iload 5, 2) := zDec_at zB_dX12_run_0 32 rfl
theorem dX12_run_57 : decode cX12_run 57 = .ok (.imul, 1) := zDec_at zB_dX12_run_0 33 rfl
theorem dX12_run_58 : decode cX12_run 58 = .ok (.iadd, 1) := zDec_at zB_dX12_run_0 34 rfl
theorem dX12_run_59 : decode cX12_run 59 = .ok (.iconst 1, 1) := zDec_at zB_dX12_run_0 35 rfl
theorem dX12_run_60 : decode cX12_run 60 = .ok (.iadd, 1) := zDec_at zB_dX12_run_0 36 rfl
theorem dX12_run_61 : decode cX12_run 61 = .ok (.iaload, 1) := zDec_at zB_dX12_run_0 37 rfl
theorem dX12_run_62 : decode cX12_run 62 = .ok (.istore 7, 2) := zDec_at zB_dX12_run_0 38 rfl
theorem dX12_run_64 : decode cX12_run 64 = .ok (.iinc 5 1, 3) := zDec_at zB_dX12_run_0 39 rfl
theorem zB_dX12_run_67 : zDecB cX12_run [(67, .iload 6, 2), (69, .bipush 20, 2), (71, .if_icmp .ge 34, 3), (74, .aload_n 0, 1), (75, .getfield 65, 3), (78, .iload 4, 2), (80, .iload 6, 2), (82, .ifCond .ne 9, 3), (85, .iload 7, 2), (87, .i2l, 1), (88, .goto 10, 3), (91, .aload_n 0, 1), (92, .getfield 61, 3), (95, .iload 6, 2), (97, .laload, 1), (98, .lastore, 1), (99, .iinc 4 1, 3), (102, .goto 149, 3), (105, .iload 6, 2), (107, .bipush 27, 2), (109, .if_icmp .ge 77, 3), (112, .iinc 4 (-1), 3), (115, .aload_n 0, 1), (116, .getfield 65, 3), (119, .iload 4, 2), (121, .iconst 1, 1), (122, .isub, 1), (123, .aload_n 0, 1), (124, .iload 6, 2), (126, .aload_n 0, 1), (127, .getfield 65, 3), (130, .iload 4, 2), (132, .iconst 1, 1), (133, .isub, 1), (134, .laload, 1), (135, .aload_n 0, 1), (136, .getfield 65, 3), (139, .iload 4, 2), (141, .laload, 1), (142, .invokevirtual 419, 3)] = true := by decide +kernel
theorem dX12_run_67 : decode cX12_run 67 = .ok (.iload 6, 2) := zDec_at zB_dX12_run_67 0 rfl
theorem dX12_run_69 : decode cX12_run 69 = .ok (.bipush 20, 2) := zDec_at zB_dX12_run_67 1 rfl
theorem dX12_run_71 : decode cX12_run 71 = .ok (.if_icmp .ge 34, 3) := zDec_at zB_dX12_run_67 2 rfl
theorem dX12_run_74 : decode cX12_run 74 = .ok (.aload_n 0, 1) := zDec_at zB_dX12_run_67 3 rfl
theorem dX12_run_75 : decode cX12_run 75 = .ok (.getfield 65, 3) := zDec_at zB_dX12_run_67 4 rfl
theorem dX12_run_78 : decode cX12_run 78 = .ok (.iload 4, 2) := zDec_at zB_dX12_run_67 5 rfl
theorem dX12_run_80 : decode cX12_run 80 = .ok (.iload 6, 2) := zDec_at zB_dX12_run_67 6 rfl
theorem dX12_run_82 : decode cX12_run 82 = .ok (.ifCond .ne 9, 3) := zDec_at zB_dX12_run_67 7 rfl
theorem dX12_run_85 : decode cX12_run 85 = .ok (.iload 7, 2) := zDec_at zB_dX12_run_67 8 rfl
theorem dX12_run_87 : decode cX12_run 87 = .ok (.i2l, 1) := zDec_at zB_dX12_run_67 9 rfl
theorem dX12_run_88 : decode cX12_run 88 = .ok (.goto 10, 3) := zDec_at zB_dX12_run_67 10 rfl
theorem dX12_run_91 : decode cX12_run 91 = .ok (.aload_n 0, 1) := zDec_at zB_dX12_run_67 11 rfl
theorem dX12_run_92 : decode cX12_run 92 = .ok (.getfield 61, 3) := zDec_at zB_dX12_run_67 12 rfl
theorem dX12_run_95 : decode cX12_run 95 = .ok (.iload 6, 2) := zDec_at zB_dX12_run_67 13 rfl
theorem dX12_run_97 : decode cX12_run 97 = .ok (.laload, 1) := zDec_at zB_dX12_run_67 14 rfl
theorem dX12_run_98 : decode cX12_run 98 = .ok (.lastore, 1) := zDec_at zB_dX12_run_67 15 rfl
theorem dX12_run_99 : decode cX12_run 99 = .ok (.iinc 4 1, 3) := zDec_at zB_dX12_run_67 16 rfl
theorem dX12_run_102 : decode cX12_run 102 = .ok (.goto 149, 3) := zDec_at zB_dX12_run_67 17 rfl
theorem dX12_run_105 : decode cX12_run 105 = .ok (.iload 6, 2) := zDec_at zB_dX12_run_67 18 rfl
theorem dX12_run_107 : decode cX12_run 107 = .ok (.bipush 27, 2) := zDec_at zB_dX12_run_67 19 rfl
theorem dX12_run_109 : decode cX12_run 109 = .ok (.if_icmp .ge 77, 3) := zDec_at zB_dX12_run_67 20 rfl
theorem dX12_run_112 : decode cX12_run 112 = .ok (.iinc 4 (-1), 3) := zDec_at zB_dX12_run_67 21 rfl
theorem dX12_run_115 : decode cX12_run 115 = .ok (.aload_n 0, 1) := zDec_at zB_dX12_run_67 22 rfl
theorem dX12_run_116 : decode cX12_run 116 = .ok (.getfield 65, 3) := zDec_at zB_dX12_run_67 23 rfl
theorem dX12_run_119 : decode cX12_run 119 = .ok (.iload 4, 2) := zDec_at zB_dX12_run_67 24 rfl
theorem dX12_run_121 : decode cX12_run 121 = .ok (.iconst 1, 1) := zDec_at zB_dX12_run_67 25 rfl
theorem dX12_run_122 : decode cX12_run 122 = .ok (.isub, 1) := zDec_at zB_dX12_run_67 26 rfl
theorem dX12_run_123 : decode cX12_run 123 = .ok (.aload_n 0, 1) := zDec_at zB_dX12_run_67 27 rfl
theorem dX12_run_124 : decode cX12_run 124 = .ok (.iload 6, 2) := zDec_at zB_dX12_run_67 28 rfl
theorem dX12_run_126 : decode cX12_run 126 = .ok (.aload_n 0, 1) := zDec_at zB_dX12_run_67 29 rfl
theorem dX12_run_127 : decode cX12_run 127 = .ok (.getfield 65, 3) := zDec_at zB_dX12_run_67 30 rfl
theorem dX12_run_130 : decode cX12_run 130 = .ok (.iload 4, 2) := zDec_at zB_dX12_run_67 31 rfl
theorem dX12_run_132 : decode cX12_run 132 = .ok (.iconst 1, 1) := zDec_at zB_dX12_run_67 32 rfl
theorem dX12_run_133 : decode cX12_run 133 = .ok (.isub, 1) := zDec_at zB_dX12_run_67 33 rfl
theorem dX12_run_134 : decode cX12_run 134 = .ok (.laload, 1) := zDec_at zB_dX12_run_67 34 rfl
theorem dX12_run_135 : decode cX12_run 135 = .ok (.aload_n 0, 1) := zDec_at zB_dX12_run_67 35 rfl
theorem dX12_run_136 : decode cX12_run 136 = .ok (.getfield 65, 3) := zDec_at zB_dX12_run_67 36 rfl
theorem dX12_run_139 : decode cX12_run 139 = .ok (.iload 4, 2) := zDec_at zB_dX12_run_67 37 rfl
theorem dX12_run_141 : decode cX12_run 141 = .ok (.laload, 1) := zDec_at zB_dX12_run_67 38 rfl
theorem dX12_run_142 : decode cX12_run 142 = .ok (.invokevirtual 419, 3) := zDec_at zB_dX12_run_67 39 rfl
theorem zB_dX12_run_145 : zDecB cX12_run [(145, .lastore, 1), (146, .aload_n 0, 1), (147, .aload_n 0, 1), (148, .getfield 416, 3), (151, .ifCond .ne 24, 3), (154, .aload_n 0, 1), (155, .getfield 65, 3), (158, .iload 4, 2), (160, .iconst 1, 1), (161, .isub, 1), (162, .laload, 1), (163, .ldc2_w 423, 3), (166, .ldc2_w 425, 3), (169, .invokestatic 100, 3), (172, .ifCond .ne 7, 3), (175, .iconst 1, 1), (176, .goto 4, 3), (179, .iconst 0, 1), (180, .putfield 416, 3), (183, .goto 68, 3), (186, .iload 6, 2), (188, .bipush 27, 2), (190, .if_icmp .ne 26, 3), (193, .aload_n 0, 1), (194, .getfield 65, 3), (197, .iload 4, 2), (199, .iconst 1, 1), (200, .isub, 1), (201, .lconst 1, 1), (202, .aload_n 0, 1), (203, .getfield 65, 3), (206, .iload 4, 2), (208, .iconst 1, 1), (209, .isub, 1), (210, .laload, 1), (211, .lsub, 1), (212, .lastore, 1), (213, .goto 38, 3), (216, .aload_n 0, 1), (217, .getfield 65, 3)] = true := by decide +kernel
theorem dX12_run_145 : decode cX12_run 145 = .ok (.lastore, 1) := zDec_at zB_dX12_run_145 0 rfl
theorem dX12_run_146 : decode cX12_run 146 = .ok (.aload_n 0, 1) := zDec_at zB_dX12_run_145 1 rfl
theorem dX12_run_147 : decode cX12_run 147 = .ok (.aload_n 0, 1) := zDec_at zB_dX12_run_145 2 rfl
theorem dX12_run_148 : decode cX12_run 148 = .ok (.getfield 416, 3) := zDec_at zB_dX12_run_145 3 rfl
theorem dX12_run_151 : decode cX12_run 151 = .ok (.ifCond .ne 24, 3) := zDec_at zB_dX12_run_145 4 rfl
theorem dX12_run_154 : decode cX12_run 154 = .ok (.aload_n 0, 1) := zDec_at zB_dX12_run_145 5 rfl
theorem dX12_run_155 : decode cX12_run 155 = .ok (.getfield 65, 3) := zDec_at zB_dX12_run_145 6 rfl
theorem dX12_run_158 : decode cX12_run 158 = .ok (.iload 4, 2) := zDec_at zB_dX12_run_145 7 rfl
theorem dX12_run_160 : decode cX12_run 160 = .ok (.iconst 1, 1) := zDec_at zB_dX12_run_145 8 rfl
theorem dX12_run_161 : decode cX12_run 161 = .ok (.isub, 1) := zDec_at zB_dX12_run_145 9 rfl
theorem dX12_run_162 : decode cX12_run 162 = .ok (.laload, 1) := zDec_at zB_dX12_run_145 10 rfl
theorem dX12_run_163 : decode cX12_run 163 = .ok (.ldc2_w 423, 3) := zDec_at zB_dX12_run_145 11 rfl
theorem dX12_run_166 : decode cX12_run 166 = .ok (.ldc2_w 425, 3) := zDec_at zB_dX12_run_145 12 rfl
theorem dX12_run_169 : decode cX12_run 169 = .ok (.invokestatic 100, 3) := zDec_at zB_dX12_run_145 13 rfl
theorem dX12_run_172 : decode cX12_run 172 = .ok (.ifCond .ne 7, 3) := zDec_at zB_dX12_run_145 14 rfl
theorem dX12_run_175 : decode cX12_run 175 = .ok (.iconst 1, 1) := zDec_at zB_dX12_run_145 15 rfl
theorem dX12_run_176 : decode cX12_run 176 = .ok (.goto 4, 3) := zDec_at zB_dX12_run_145 16 rfl
theorem dX12_run_179 : decode cX12_run 179 = .ok (.iconst 0, 1) := zDec_at zB_dX12_run_145 17 rfl
theorem dX12_run_180 : decode cX12_run 180 = .ok (.putfield 416, 3) := zDec_at zB_dX12_run_145 18 rfl
theorem dX12_run_183 : decode cX12_run 183 = .ok (.goto 68, 3) := zDec_at zB_dX12_run_145 19 rfl
theorem dX12_run_186 : decode cX12_run 186 = .ok (.iload 6, 2) := zDec_at zB_dX12_run_145 20 rfl
theorem dX12_run_188 : decode cX12_run 188 = .ok (.bipush 27, 2) := zDec_at zB_dX12_run_145 21 rfl
theorem dX12_run_190 : decode cX12_run 190 = .ok (.if_icmp .ne 26, 3) := zDec_at zB_dX12_run_145 22 rfl
theorem dX12_run_193 : decode cX12_run 193 = .ok (.aload_n 0, 1) := zDec_at zB_dX12_run_145 23 rfl
theorem dX12_run_194 : decode cX12_run 194 = .ok (.getfield 65, 3) := zDec_at zB_dX12_run_145 24 rfl
theorem dX12_run_197 : decode cX12_run 197 = .ok (.iload 4, 2) := zDec_at zB_dX12_run_145 25 rfl
theorem dX12_run_199 : decode cX12_run 199 = .ok (.iconst 1, 1) := zDec_at zB_dX12_run_145 26 rfl
theorem dX12_run_200 : decode cX12_run 200 = .ok (.isub, 1) := zDec_at zB_dX12_run_145 27 rfl
theorem dX12_run_201 : decode cX12_run 201 = .ok (.lconst 1, 1) := zDec_at zB_dX12_run_145 28 rfl
theorem dX12_run_202 : decode cX12_run 202 = .ok (.aload_n 0, 1) := zDec_at zB_dX12_run_145 29 rfl
theorem dX12_run_203 : decode cX12_run 203 = .ok (.getfield 65, 3) := zDec_at zB_dX12_run_145 30 rfl
theorem dX12_run_206 : decode cX12_run 206 = .ok (.iload 4, 2) := zDec_at zB_dX12_run_145 31 rfl
theorem dX12_run_208 : decode cX12_run 208 = .ok (.iconst 1, 1) := zDec_at zB_dX12_run_145 32 rfl
theorem dX12_run_209 : decode cX12_run 209 = .ok (.isub, 1) := zDec_at zB_dX12_run_145 33 rfl
theorem dX12_run_210 : decode cX12_run 210 = .ok (.laload, 1) := zDec_at zB_dX12_run_145 34 rfl
theorem dX12_run_211 : decode cX12_run 211 = .ok (.lsub, 1) := zDec_at zB_dX12_run_145 35 rfl
theorem dX12_run_212 : decode cX12_run 212 = .ok (.lastore, 1) := zDec_at zB_dX12_run_145 36 rfl
theorem dX12_run_213 : decode cX12_run 213 = .ok (.goto 38, 3) := zDec_at zB_dX12_run_145 37 rfl
theorem dX12_run_216 : decode cX12_run 216 = .ok (.aload_n 0, 1) := zDec_at zB_dX12_run_145 38 rfl
theorem dX12_run_217 : decode cX12_run 217 = .ok (.getfield 65, 3) := zDec_at zB_dX12_run_145 39 rfl
theorem zB_dX12_run_220 : zDecB cX12_run [(220, .iload 4, 2), (222, .iconst 1, 1), (223, .isub, 1), (224, .laload, 1), (225, .iload 6, 2), (227, .bipush 28, 2), (229, .if_icmp .ne 7, 3), (232, .lconst 0, 1), (233, .goto 4, 3), (236, .lconst 1, 1), (237, .lcmp, 1), (238, .ifCond .ne 10, 3), (241, .iload 7, 2), (243, .istore 5, 2), (245, .goto 6, 3), (248, .iinc 4 (-1), 3), (251, .goto (-240), 3), (254, .aload_n 0, 1), (255, .iload 4, 2), (257, .ifCond .le 12, 3), (260, .aload_n 0, 1), (261, .getfield 65, 3), (264, .iconst 0, 1), (265, .laload, 1), (266, .goto 4, 3), (269, .lconst 0, 1), (270, .putfield 427, 3), (273, .return_, 1)] = true := by decide +kernel
theorem dX12_run_220 : decode cX12_run 220 = .ok (.iload 4, 2) := zDec_at zB_dX12_run_220 0 rfl
theorem dX12_run_222 : decode cX12_run 222 = .ok (.iconst 1, 1) := zDec_at zB_dX12_run_220 1 rfl
theorem dX12_run_223 : decode cX12_run 223 = .ok (.isub, 1) := zDec_at zB_dX12_run_220 2 rfl
theorem dX12_run_224 : decode cX12_run 224 = .ok (.laload, 1) := zDec_at zB_dX12_run_220 3 rfl
theorem dX12_run_225 : decode cX12_run 225 = .ok (.iload 6, 2) := zDec_at zB_dX12_run_220 4 rfl
theorem dX12_run_227 : decode cX12_run 227 = .ok (.bipush 28, 2) := zDec_at zB_dX12_run_220 5 rfl
theorem dX12_run_229 : decode cX12_run 229 = .ok (.if_icmp .ne 7, 3) := zDec_at zB_dX12_run_220 6 rfl
theorem dX12_run_232 : decode cX12_run 232 = .ok (.lconst 0, 1) := zDec_at zB_dX12_run_220 7 rfl
theorem dX12_run_233 : decode cX12_run 233 = .ok (.goto 4, 3) := zDec_at zB_dX12_run_220 8 rfl
theorem dX12_run_236 : decode cX12_run 236 = .ok (.lconst 1, 1) := zDec_at zB_dX12_run_220 9 rfl
theorem dX12_run_237 : decode cX12_run 237 = .ok (.lcmp, 1) := zDec_at zB_dX12_run_220 10 rfl
theorem dX12_run_238 : decode cX12_run 238 = .ok (.ifCond .ne 10, 3) := zDec_at zB_dX12_run_220 11 rfl
theorem dX12_run_241 : decode cX12_run 241 = .ok (.iload 7, 2) := zDec_at zB_dX12_run_220 12 rfl
theorem dX12_run_243 : decode cX12_run 243 = .ok (.istore 5, 2) := zDec_at zB_dX12_run_220 13 rfl
theorem dX12_run_245 : decode cX12_run 245 = .ok (.goto 6, 3) := zDec_at zB_dX12_run_220 14 rfl
theorem dX12_run_248 : decode cX12_run 248 = .ok (.iinc 4 (-1), 3) := zDec_at zB_dX12_run_220 15 rfl
theorem dX12_run_251 : decode cX12_run 251 = .ok (.goto (-240), 3) := zDec_at zB_dX12_run_220 16 rfl
theorem dX12_run_254 : decode cX12_run 254 = .ok (.aload_n 0, 1) := zDec_at zB_dX12_run_220 17 rfl
theorem dX12_run_255 : decode cX12_run 255 = .ok (.iload 4, 2) := zDec_at zB_dX12_run_220 18 rfl
theorem dX12_run_257 : decode cX12_run 257 = .ok (.ifCond .le 12, 3) := zDec_at zB_dX12_run_220 19 rfl
theorem dX12_run_260 : decode cX12_run 260 = .ok (.aload_n 0, 1) := zDec_at zB_dX12_run_220 20 rfl
theorem dX12_run_261 : decode cX12_run 261 = .ok (.getfield 65, 3) := zDec_at zB_dX12_run_220 21 rfl
theorem dX12_run_264 : decode cX12_run 264 = .ok (.iconst 0, 1) := zDec_at zB_dX12_run_220 22 rfl
theorem dX12_run_265 : decode cX12_run 265 = .ok (.laload, 1) := zDec_at zB_dX12_run_220 23 rfl
theorem dX12_run_266 : decode cX12_run 266 = .ok (.goto 4, 3) := zDec_at zB_dX12_run_220 24 rfl
theorem dX12_run_269 : decode cX12_run 269 = .ok (.lconst 0, 1) := zDec_at zB_dX12_run_220 25 rfl
theorem dX12_run_270 : decode cX12_run 270 = .ok (.putfield 427, 3) := zDec_at zB_dX12_run_220 26 rfl
theorem dX12_run_273 : decode cX12_run 273 = .ok (.return_, 1) := zDec_at zB_dX12_run_220 27 rfl
theorem zB_dX12_school_0 : zDecB cX12_school [(0, .aload_n 0, 1), (1, .iconst 0, 1), (2, .putfield 92, 3), (5, .aload_n 0, 1), (6, .getfield 7, 3), (9, .iconst 1, 1), (10, .iaload, 1), (11, .iconst 5, 1), (12, .if_icmp .ne 10, 3), (15, .aload_n 0, 1), (16, .bipush (-5), 2), (18, .invokevirtual 106, 3), (21, .ireturn, 1), (22, .aload_n 0, 1), (23, .getfield 7, 3), (26, .iconst 1, 1), (27, .dup2, 1), (28, .iaload, 1), (29, .iconst 1, 1), (30, .iadd, 1), (31, .iastore, 1), (32, .aload_n 0, 1), (33, .aload_n 0, 1), (34, .getfield 7, 3), (37, .iconst 1, 1), (38, .iaload, 1), (39, .iconst 1, 1), (40, .isub, 1), (41, .invokevirtual 106, 3), (44, .ireturn, 1)] = true := by decide +kernel
theorem dX12_school_0 : decode cX12_school 0 = .ok (.aload_n 0, 1) := zDec_at zB_dX12_school_0 0 rfl
theorem dX12_school_1 : decode cX12_school 1 = .ok (.iconst 0, 1) := zDec_at zB_dX12_school_0 1 rfl
theorem dX12_school_2 : decode cX12_school 2 = .ok (.putfield 92, 3) := zDec_at zB_dX12_school_0 2 rfl
theorem dX12_school_5 : decode cX12_school 5 = .ok (.aload_n 0, 1) := zDec_at zB_dX12_school_0 3 rfl
theorem dX12_school_6 : decode cX12_school 6 = .ok (.getfield 7, 3) := zDec_at zB_dX12_school_0 4 rfl
theorem dX12_school_9 : decode cX12_school 9 = .ok (.iconst 1, 1) := zDec_at zB_dX12_school_0 5 rfl
theorem dX12_school_10 : decode cX12_school 10 = .ok (.iaload, 1) := zDec_at zB_dX12_school_0 6 rfl
theorem dX12_school_11 : decode cX12_school 11 = .ok (.iconst 5, 1) := zDec_at zB_dX12_school_0 7 rfl
theorem dX12_school_12 : decode cX12_school 12 = .ok (.if_icmp .ne 10, 3) := zDec_at zB_dX12_school_0 8 rfl
theorem dX12_school_15 : decode cX12_school 15 = .ok (.aload_n 0, 1) := zDec_at zB_dX12_school_0 9 rfl
theorem dX12_school_16 : decode cX12_school 16 = .ok (.bipush (-5), 2) := zDec_at zB_dX12_school_0 10 rfl
theorem dX12_school_18 : decode cX12_school 18 = .ok (.invokevirtual 106, 3) := zDec_at zB_dX12_school_0 11 rfl
theorem dX12_school_21 : decode cX12_school 21 = .ok (.ireturn, 1) := zDec_at zB_dX12_school_0 12 rfl
theorem dX12_school_22 : decode cX12_school 22 = .ok (.aload_n 0, 1) := zDec_at zB_dX12_school_0 13 rfl
theorem dX12_school_23 : decode cX12_school 23 = .ok (.getfield 7, 3) := zDec_at zB_dX12_school_0 14 rfl
theorem dX12_school_26 : decode cX12_school 26 = .ok (.iconst 1, 1) := zDec_at zB_dX12_school_0 15 rfl
theorem dX12_school_27 : decode cX12_school 27 = .ok (.dup2, 1) := zDec_at zB_dX12_school_0 16 rfl
theorem dX12_school_28 : decode cX12_school 28 = .ok (.iaload, 1) := zDec_at zB_dX12_school_0 17 rfl
theorem dX12_school_29 : decode cX12_school 29 = .ok (.iconst 1, 1) := zDec_at zB_dX12_school_0 18 rfl
theorem dX12_school_30 : decode cX12_school 30 = .ok (.iadd, 1) := zDec_at zB_dX12_school_0 19 rfl
theorem dX12_school_31 : decode cX12_school 31 = .ok (.iastore, 1) := zDec_at zB_dX12_school_0 20 rfl
theorem dX12_school_32 : decode cX12_school 32 = .ok (.aload_n 0, 1) := zDec_at zB_dX12_school_0 21 rfl
theorem dX12_school_33 : decode cX12_school 33 = .ok (.aload_n 0, 1) := zDec_at zB_dX12_school_0 22 rfl
theorem dX12_school_34 : decode cX12_school 34 = .ok (.getfield 7, 3) := zDec_at zB_dX12_school_0 23 rfl
theorem dX12_school_37 : decode cX12_school 37 = .ok (.iconst 1, 1) := zDec_at zB_dX12_school_0 24 rfl
theorem dX12_school_38 : decode cX12_school 38 = .ok (.iaload, 1) := zDec_at zB_dX12_school_0 25 rfl
theorem dX12_school_39 : decode cX12_school 39 = .ok (.iconst 1, 1) := zDec_at zB_dX12_school_0 26 rfl
theorem dX12_school_40 : decode cX12_school 40 = .ok (.isub, 1) := zDec_at zB_dX12_school_0 27 rfl
theorem dX12_school_41 : decode cX12_school 41 = .ok (.invokevirtual 106, 3) := zDec_at zB_dX12_school_0 28 rfl
theorem dX12_school_44 : decode cX12_school 44 = .ok (.ireturn, 1) := zDec_at zB_dX12_school_0 29 rfl
theorem zB_dX12_seal_0 : zDecB cX12_seal [(0, .aload_n 0, 1), (1, .iconst 0, 1), (2, .putfield 92, 3), (5, .iload_n 1, 1), (6, .invokestatic 127, 3), (9, .ifCond .ne 9, 3), (12, .aload_n 0, 1), (13, .iconst (-1), 1), (14, .invokevirtual 106, 3), (17, .ireturn, 1), (18, .aload_n 0, 1), (19, .iload_n 1, 1), (20, .invokevirtual 558, 3), (23, .aload_n 0, 1), (24, .sipush 7061, 3), (27, .iconst 4, 1), (28, .iload_n 1, 1), (29, .imul, 1), (30, .iadd, 1), (31, .iconst 1, 1), (32, .aload_n 0, 1), (33, .getfield 549, 3), (36, .aload_n 0, 1), (37, .getfield 552, 3), (40, .aload_n 0, 1), (41, .getfield 555, 3), (44, .invokevirtual 123, 3), (47, .aload_n 0, 1), (48, .aload_n 0, 1), (49, .getfield 549, 3), (52, .invokevirtual 106, 3), (55, .ireturn, 1)] = true := by decide +kernel
theorem dX12_seal_0 : decode cX12_seal 0 = .ok (.aload_n 0, 1) := zDec_at zB_dX12_seal_0 0 rfl
theorem dX12_seal_1 : decode cX12_seal 1 = .ok (.iconst 0, 1) := zDec_at zB_dX12_seal_0 1 rfl
theorem dX12_seal_2 : decode cX12_seal 2 = .ok (.putfield 92, 3) := zDec_at zB_dX12_seal_0 2 rfl
theorem dX12_seal_5 : decode cX12_seal 5 = .ok (.iload_n 1, 1) := zDec_at zB_dX12_seal_0 3 rfl
theorem dX12_seal_6 : decode cX12_seal 6 = .ok (.invokestatic 127, 3) := zDec_at zB_dX12_seal_0 4 rfl
theorem dX12_seal_9 : decode cX12_seal 9 = .ok (.ifCond .ne 9, 3) := zDec_at zB_dX12_seal_0 5 rfl
theorem dX12_seal_12 : decode cX12_seal 12 = .ok (.aload_n 0, 1) := zDec_at zB_dX12_seal_0 6 rfl
theorem dX12_seal_13 : decode cX12_seal 13 = .ok (.iconst (-1), 1) := zDec_at zB_dX12_seal_0 7 rfl
theorem dX12_seal_14 : decode cX12_seal 14 = .ok (.invokevirtual 106, 3) := zDec_at zB_dX12_seal_0 8 rfl
theorem dX12_seal_17 : decode cX12_seal 17 = .ok (.ireturn, 1) := zDec_at zB_dX12_seal_0 9 rfl
theorem dX12_seal_18 : decode cX12_seal 18 = .ok (.aload_n 0, 1) := zDec_at zB_dX12_seal_0 10 rfl
theorem dX12_seal_19 : decode cX12_seal 19 = .ok (.iload_n 1, 1) := zDec_at zB_dX12_seal_0 11 rfl
theorem dX12_seal_20 : decode cX12_seal 20 = .ok (.invokevirtual 558, 3) := zDec_at zB_dX12_seal_0 12 rfl
theorem dX12_seal_23 : decode cX12_seal 23 = .ok (.aload_n 0, 1) := zDec_at zB_dX12_seal_0 13 rfl
theorem dX12_seal_24 : decode cX12_seal 24 = .ok (.sipush 7061, 3) := zDec_at zB_dX12_seal_0 14 rfl
theorem dX12_seal_27 : decode cX12_seal 27 = .ok (.iconst 4, 1) := zDec_at zB_dX12_seal_0 15 rfl
theorem dX12_seal_28 : decode cX12_seal 28 = .ok (.iload_n 1, 1) := zDec_at zB_dX12_seal_0 16 rfl
theorem dX12_seal_29 : decode cX12_seal 29 = .ok (.imul, 1) := zDec_at zB_dX12_seal_0 17 rfl
theorem dX12_seal_30 : decode cX12_seal 30 = .ok (.iadd, 1) := zDec_at zB_dX12_seal_0 18 rfl
theorem dX12_seal_31 : decode cX12_seal 31 = .ok (.iconst 1, 1) := zDec_at zB_dX12_seal_0 19 rfl
theorem dX12_seal_32 : decode cX12_seal 32 = .ok (.aload_n 0, 1) := zDec_at zB_dX12_seal_0 20 rfl
theorem dX12_seal_33 : decode cX12_seal 33 = .ok (.getfield 549, 3) := zDec_at zB_dX12_seal_0 21 rfl
theorem dX12_seal_36 : decode cX12_seal 36 = .ok (.aload_n 0, 1) := zDec_at zB_dX12_seal_0 22 rfl
theorem dX12_seal_37 : decode cX12_seal 37 = .ok (.getfield 552, 3) := zDec_at zB_dX12_seal_0 23 rfl
theorem dX12_seal_40 : decode cX12_seal 40 = .ok (.aload_n 0, 1) := zDec_at zB_dX12_seal_0 24 rfl
theorem dX12_seal_41 : decode cX12_seal 41 = .ok (.getfield 555, 3) := zDec_at zB_dX12_seal_0 25 rfl
theorem dX12_seal_44 : decode cX12_seal 44 = .ok (.invokevirtual 123, 3) := zDec_at zB_dX12_seal_0 26 rfl
theorem dX12_seal_47 : decode cX12_seal 47 = .ok (.aload_n 0, 1) := zDec_at zB_dX12_seal_0 27 rfl
theorem dX12_seal_48 : decode cX12_seal 48 = .ok (.aload_n 0, 1) := zDec_at zB_dX12_seal_0 28 rfl
theorem dX12_seal_49 : decode cX12_seal 49 = .ok (.getfield 549, 3) := zDec_at zB_dX12_seal_0 29 rfl
theorem dX12_seal_52 : decode cX12_seal 52 = .ok (.invokevirtual 106, 3) := zDec_at zB_dX12_seal_0 30 rfl
theorem dX12_seal_55 : decode cX12_seal 55 = .ok (.ireturn, 1) := zDec_at zB_dX12_seal_0 31 rfl
theorem zB_dX12_seen_0 : zDecB cX12_seen [(0, .aload_n 0, 1), (1, .iconst 0, 1), (2, .putfield 92, 3), (5, .aload_n 0, 1), (6, .iload_n 1, 1), (7, .invokevirtual 138, 3), (10, .ifCond .eq 17, 3), (13, .iload_n 2, 1), (14, .invokestatic 127, 3), (17, .ifCond .eq 10, 3), (20, .iload_n 3, 1), (21, .invokestatic 127, 3), (24, .ifCond .ne 5, 3), (27, .iconst (-1), 1), (28, .ireturn, 1), (29, .aload_n 0, 1), (30, .iload_n 3, 1), (31, .invokevirtual 186, 3), (34, .iconst (-1), 1), (35, .istore 4, 2), (37, .iconst 0, 1), (38, .istore 5, 2), (40, .iload 5, 2), (42, .aload_n 0, 1), (43, .getfield 7, 3), (46, .iconst 3, 1), (47, .iaload, 1), (48, .if_icmp .ge 109, 3), (51, .iload 5, 2), (53, .invokestatic 155, 3), (56, .istore 6, 2), (58, .aload_n 0, 1), (59, .getfield 7, 3), (62, .iload 6, 2), (64, .iconst 1, 1), (65, .iadd, 1), (66, .iaload, 1), (67, .iload_n 1, 1), (68, .if_icmp .ne 45, 3), (71, .aload_n 0, 1)] = true := by decide +kernel
theorem dX12_seen_0 : decode cX12_seen 0 = .ok (.aload_n 0, 1) := zDec_at zB_dX12_seen_0 0 rfl
theorem dX12_seen_1 : decode cX12_seen 1 = .ok (.iconst 0, 1) := zDec_at zB_dX12_seen_0 1 rfl
theorem dX12_seen_2 : decode cX12_seen 2 = .ok (.putfield 92, 3) := zDec_at zB_dX12_seen_0 2 rfl
theorem dX12_seen_5 : decode cX12_seen 5 = .ok (.aload_n 0, 1) := zDec_at zB_dX12_seen_0 3 rfl
theorem dX12_seen_6 : decode cX12_seen 6 = .ok (.iload_n 1, 1) := zDec_at zB_dX12_seen_0 4 rfl
theorem dX12_seen_7 : decode cX12_seen 7 = .ok (.invokevirtual 138, 3) := zDec_at zB_dX12_seen_0 5 rfl
theorem dX12_seen_10 : decode cX12_seen 10 = .ok (.ifCond .eq 17, 3) := zDec_at zB_dX12_seen_0 6 rfl
theorem dX12_seen_13 : decode cX12_seen 13 = .ok (.iload_n 2, 1) := zDec_at zB_dX12_seen_0 7 rfl
theorem dX12_seen_14 : decode cX12_seen 14 = .ok (.invokestatic 127, 3) := zDec_at zB_dX12_seen_0 8 rfl
theorem dX12_seen_17 : decode cX12_seen 17 = .ok (.ifCond .eq 10, 3) := zDec_at zB_dX12_seen_0 9 rfl
theorem dX12_seen_20 : decode cX12_seen 20 = .ok (.iload_n 3, 1) := zDec_at zB_dX12_seen_0 10 rfl
theorem dX12_seen_21 : decode cX12_seen 21 = .ok (.invokestatic 127, 3) := zDec_at zB_dX12_seen_0 11 rfl
theorem dX12_seen_24 : decode cX12_seen 24 = .ok (.ifCond .ne 5, 3) := zDec_at zB_dX12_seen_0 12 rfl
theorem dX12_seen_27 : decode cX12_seen 27 = .ok (.iconst (-1), 1) := zDec_at zB_dX12_seen_0 13 rfl
theorem dX12_seen_28 : decode cX12_seen 28 = .ok (.ireturn, 1) := zDec_at zB_dX12_seen_0 14 rfl
theorem dX12_seen_29 : decode cX12_seen 29 = .ok (.aload_n 0, 1) := zDec_at zB_dX12_seen_0 15 rfl
theorem dX12_seen_30 : decode cX12_seen 30 = .ok (.iload_n 3, 1) := zDec_at zB_dX12_seen_0 16 rfl
theorem dX12_seen_31 : decode cX12_seen 31 = .ok (.invokevirtual 186, 3) := zDec_at zB_dX12_seen_0 17 rfl
theorem dX12_seen_34 : decode cX12_seen 34 = .ok (.iconst (-1), 1) := zDec_at zB_dX12_seen_0 18 rfl
theorem dX12_seen_35 : decode cX12_seen 35 = .ok (.istore 4, 2) := zDec_at zB_dX12_seen_0 19 rfl
theorem dX12_seen_37 : decode cX12_seen 37 = .ok (.iconst 0, 1) := zDec_at zB_dX12_seen_0 20 rfl
theorem dX12_seen_38 : decode cX12_seen 38 = .ok (.istore 5, 2) := zDec_at zB_dX12_seen_0 21 rfl
theorem dX12_seen_40 : decode cX12_seen 40 = .ok (.iload 5, 2) := zDec_at zB_dX12_seen_0 22 rfl
theorem dX12_seen_42 : decode cX12_seen 42 = .ok (.aload_n 0, 1) := zDec_at zB_dX12_seen_0 23 rfl
theorem dX12_seen_43 : decode cX12_seen 43 = .ok (.getfield 7, 3) := zDec_at zB_dX12_seen_0 24 rfl
theorem dX12_seen_46 : decode cX12_seen 46 = .ok (.iconst 3, 1) := zDec_at zB_dX12_seen_0 25 rfl
theorem dX12_seen_47 : decode cX12_seen 47 = .ok (.iaload, 1) := zDec_at zB_dX12_seen_0 26 rfl
theorem dX12_seen_48 : decode cX12_seen 48 = .ok (.if_icmp .ge 109, 3) := zDec_at zB_dX12_seen_0 27 rfl
theorem dX12_seen_51 : decode cX12_seen 51 = .ok (.iload 5, 2) := zDec_at zB_dX12_seen_0 28 rfl
theorem dX12_seen_53 : decode cX12_seen 53 = .ok (.invokestatic 155, 3) := zDec_at zB_dX12_seen_0 29 rfl
theorem dX12_seen_56 : decode cX12_seen 56 = .ok (.istore 6, 2) := zDec_at zB_dX12_seen_0 30 rfl
theorem dX12_seen_58 : decode cX12_seen 58 = .ok (.aload_n 0, 1) := zDec_at zB_dX12_seen_0 31 rfl
theorem dX12_seen_59 : decode cX12_seen 59 = .ok (.getfield 7, 3) := zDec_at zB_dX12_seen_0 32 rfl
theorem dX12_seen_62 : decode cX12_seen 62 = .ok (.iload 6, 2) := zDec_at zB_dX12_seen_0 33 rfl
theorem dX12_seen_64 : decode cX12_seen 64 = .ok (.iconst 1, 1) := zDec_at zB_dX12_seen_0 34 rfl
theorem dX12_seen_65 : decode cX12_seen 65 = .ok (.iadd, 1) := zDec_at zB_dX12_seen_0 35 rfl
theorem dX12_seen_66 : decode cX12_seen 66 = .ok (.iaload, 1) := zDec_at zB_dX12_seen_0 36 rfl
theorem dX12_seen_67 : decode cX12_seen 67 = .ok (.iload_n 1, 1) := zDec_at zB_dX12_seen_0 37 rfl
theorem dX12_seen_68 : decode cX12_seen 68 = .ok (.if_icmp .ne 45, 3) := zDec_at zB_dX12_seen_0 38 rfl
theorem dX12_seen_71 : decode cX12_seen 71 = .ok (.aload_n 0, 1) := zDec_at zB_dX12_seen_0 39 rfl
theorem zB_dX12_seen_72 : zDecB cX12_seen [(72, .getfield 21, 3), (75, .iload 5, 2), (77, .baload, 1), (78, .ifCond .eq 35, 3), (81, .aload_n 0, 1), (82, .getfield 27, 3), (85, .iload 5, 2), (87, .iaload, 1), (88, .iconst 2, 1), (89, .if_icmp .ge 24, 3), (92, .aload_n 0, 1), (93, .getfield 7, 3), (96, .iload 6, 2), (98, .iconst 2, 1), (99, .iadd, 1), (100, .iaload, 1), (101, .iconst 2, 1), (102, .iload_n 2, 1), (103, .imul, 1), (104, .iconst 1, 1), (105, .iadd, 1), (106, .if_icmp .gt 7, 3), (109, .iconst 1, 1), (110, .goto 4, 3), (113, .iconst 0, 1), (114, .istore 7, 2), (116, .iload 7, 2), (118, .ifCond .eq 29, 3), (121, .aload_n 0, 1), (122, .getfield 7, 3), (125, .iload 6, 2), (127, .iconst 2, 1), (128, .iadd, 1), (129, .iaload, 1), (130, .iload 4, 2), (132, .if_icmp .le 15, 3), (135, .aload_n 0, 1), (136, .getfield 7, 3), (139, .iload 6, 2), (141, .iconst 2, 1)] = true := by decide +kernel
theorem dX12_seen_72 : decode cX12_seen 72 = .ok (.getfield 21, 3) := zDec_at zB_dX12_seen_72 0 rfl
theorem dX12_seen_75 : decode cX12_seen 75 = .ok (.iload 5, 2) := zDec_at zB_dX12_seen_72 1 rfl
theorem dX12_seen_77 : decode cX12_seen 77 = .ok (.baload, 1) := zDec_at zB_dX12_seen_72 2 rfl
theorem dX12_seen_78 : decode cX12_seen 78 = .ok (.ifCond .eq 35, 3) := zDec_at zB_dX12_seen_72 3 rfl
theorem dX12_seen_81 : decode cX12_seen 81 = .ok (.aload_n 0, 1) := zDec_at zB_dX12_seen_72 4 rfl
theorem dX12_seen_82 : decode cX12_seen 82 = .ok (.getfield 27, 3) := zDec_at zB_dX12_seen_72 5 rfl
theorem dX12_seen_85 : decode cX12_seen 85 = .ok (.iload 5, 2) := zDec_at zB_dX12_seen_72 6 rfl
theorem dX12_seen_87 : decode cX12_seen 87 = .ok (.iaload, 1) := zDec_at zB_dX12_seen_72 7 rfl
theorem dX12_seen_88 : decode cX12_seen 88 = .ok (.iconst 2, 1) := zDec_at zB_dX12_seen_72 8 rfl
theorem dX12_seen_89 : decode cX12_seen 89 = .ok (.if_icmp .ge 24, 3) := zDec_at zB_dX12_seen_72 9 rfl
theorem dX12_seen_92 : decode cX12_seen 92 = .ok (.aload_n 0, 1) := zDec_at zB_dX12_seen_72 10 rfl
theorem dX12_seen_93 : decode cX12_seen 93 = .ok (.getfield 7, 3) := zDec_at zB_dX12_seen_72 11 rfl
theorem dX12_seen_96 : decode cX12_seen 96 = .ok (.iload 6, 2) := zDec_at zB_dX12_seen_72 12 rfl
theorem dX12_seen_98 : decode cX12_seen 98 = .ok (.iconst 2, 1) := zDec_at zB_dX12_seen_72 13 rfl
theorem dX12_seen_99 : decode cX12_seen 99 = .ok (.iadd, 1) := zDec_at zB_dX12_seen_72 14 rfl
theorem dX12_seen_100 : decode cX12_seen 100 = .ok (.iaload, 1) := zDec_at zB_dX12_seen_72 15 rfl
theorem dX12_seen_101 : decode cX12_seen 101 = .ok (.iconst 2, 1) := zDec_at zB_dX12_seen_72 16 rfl
theorem dX12_seen_102 : decode cX12_seen 102 = .ok (.iload_n 2, 1) := zDec_at zB_dX12_seen_72 17 rfl
theorem dX12_seen_103 : decode cX12_seen 103 = .ok (.imul, 1) := zDec_at zB_dX12_seen_72 18 rfl
theorem dX12_seen_104 : decode cX12_seen 104 = .ok (.iconst 1, 1) := zDec_at zB_dX12_seen_72 19 rfl
theorem dX12_seen_105 : decode cX12_seen 105 = .ok (.iadd, 1) := zDec_at zB_dX12_seen_72 20 rfl
theorem dX12_seen_106 : decode cX12_seen 106 = .ok (.if_icmp .gt 7, 3) := zDec_at zB_dX12_seen_72 21 rfl
theorem dX12_seen_109 : decode cX12_seen 109 = .ok (.iconst 1, 1) := zDec_at zB_dX12_seen_72 22 rfl
theorem dX12_seen_110 : decode cX12_seen 110 = .ok (.goto 4, 3) := zDec_at zB_dX12_seen_72 23 rfl
theorem dX12_seen_113 : decode cX12_seen 113 = .ok (.iconst 0, 1) := zDec_at zB_dX12_seen_72 24 rfl
theorem dX12_seen_114 : decode cX12_seen 114 = .ok (.istore 7, 2) := zDec_at zB_dX12_seen_72 25 rfl
theorem dX12_seen_116 : decode cX12_seen 116 = .ok (.iload 7, 2) := zDec_at zB_dX12_seen_72 26 rfl
theorem dX12_seen_118 : decode cX12_seen 118 = .ok (.ifCond .eq 29, 3) := zDec_at zB_dX12_seen_72 27 rfl
theorem dX12_seen_121 : decode cX12_seen 121 = .ok (.aload_n 0, 1) := zDec_at zB_dX12_seen_72 28 rfl
theorem dX12_seen_122 : decode cX12_seen 122 = .ok (.getfield 7, 3) := zDec_at zB_dX12_seen_72 29 rfl
theorem dX12_seen_125 : decode cX12_seen 125 = .ok (.iload 6, 2) := zDec_at zB_dX12_seen_72 30 rfl
theorem dX12_seen_127 : decode cX12_seen 127 = .ok (.iconst 2, 1) := zDec_at zB_dX12_seen_72 31 rfl
theorem dX12_seen_128 : decode cX12_seen 128 = .ok (.iadd, 1) := zDec_at zB_dX12_seen_72 32 rfl
theorem dX12_seen_129 : decode cX12_seen 129 = .ok (.iaload, 1) := zDec_at zB_dX12_seen_72 33 rfl
theorem dX12_seen_130 : decode cX12_seen 130 = .ok (.iload 4, 2) := zDec_at zB_dX12_seen_72 34 rfl
theorem dX12_seen_132 : decode cX12_seen 132 = .ok (.if_icmp .le 15, 3) := zDec_at zB_dX12_seen_72 35 rfl
theorem dX12_seen_135 : decode cX12_seen 135 = .ok (.aload_n 0, 1) := zDec_at zB_dX12_seen_72 36 rfl
theorem dX12_seen_136 : decode cX12_seen 136 = .ok (.getfield 7, 3) := zDec_at zB_dX12_seen_72 37 rfl
theorem dX12_seen_139 : decode cX12_seen 139 = .ok (.iload 6, 2) := zDec_at zB_dX12_seen_72 38 rfl
theorem dX12_seen_141 : decode cX12_seen 141 = .ok (.iconst 2, 1) := zDec_at zB_dX12_seen_72 39 rfl
theorem zB_dX12_seen_142 : zDecB cX12_seen [(142, .iadd, 1), (143, .iaload, 1), (144, .goto 5, 3), (147, .iload 4, 2), (149, .istore 4, 2), (151, .iinc 5 1, 3), (154, .goto (-114), 3), (157, .iload 4, 2), (159, .ireturn, 1)] = true := by decide +kernel
theorem dX12_seen_142 : decode cX12_seen 142 = .ok (.iadd, 1) := zDec_at zB_dX12_seen_142 0 rfl
theorem dX12_seen_143 : decode cX12_seen 143 = .ok (.iaload, 1) := zDec_at zB_dX12_seen_142 1 rfl
theorem dX12_seen_144 : decode cX12_seen 144 = .ok (.goto 5, 3) := zDec_at zB_dX12_seen_142 2 rfl
theorem dX12_seen_147 : decode cX12_seen 147 = .ok (.iload 4, 2) := zDec_at zB_dX12_seen_142 3 rfl
theorem dX12_seen_149 : decode cX12_seen 149 = .ok (.istore 4, 2) := zDec_at zB_dX12_seen_142 4 rfl
theorem dX12_seen_151 : decode cX12_seen 151 = .ok (.iinc 5 1, 3) := zDec_at zB_dX12_seen_142 5 rfl
theorem dX12_seen_154 : decode cX12_seen 154 = .ok (.goto (-114), 3) := zDec_at zB_dX12_seen_142 6 rfl
theorem dX12_seen_157 : decode cX12_seen 157 = .ok (.iload 4, 2) := zDec_at zB_dX12_seen_142 7 rfl
theorem dX12_seen_159 : decode cX12_seen 159 = .ok (.ireturn, 1) := zDec_at zB_dX12_seen_142 8 rfl
theorem zB_dX12_sees_0 : zDecB cX12_sees [(0, .aload_n 0, 1), (1, .iconst 0, 1), (2, .putfield 92, 3), (5, .iload_n 1, 1), (6, .i2l, 1), (7, .lconst 0, 1), (8, .ldc2_w 110, 3), (11, .invokestatic 100, 3), (14, .ifCond .eq 35, 3), (17, .aload_n 0, 1), (18, .iload_n 2, 1), (19, .invokevirtual 131, 3), (22, .ifCond .eq 27, 3), (25, .aload_n 0, 1), (26, .iload_n 3, 1), (27, .invokevirtual 138, 3), (30, .ifCond .eq 19, 3), (33, .iload 4, 2), (35, .invokestatic 145, 3), (38, .ifCond .eq 11, 3), (41, .iload 5, 2), (43, .invokestatic 127, 3), (46, .ifCond .ne 5, 3), (49, .iconst (-1), 1), (50, .ireturn, 1), (51, .aload_n 0, 1), (52, .iload 5, 2), (54, .invokevirtual 186, 3), (57, .aload_n 0, 1), (58, .iload_n 2, 1), (59, .iload_n 3, 1), (60, .iload 4, 2), (62, .invokevirtual 189, 3), (65, .istore 6, 2), (67, .iload 6, 2), (69, .iconst (-1), 1), (70, .if_icmp .ne 5, 3), (73, .iconst (-1), 1), (74, .ireturn, 1), (75, .aload_n 0, 1)] = true := by decide +kernel
theorem dX12_sees_0 : decode cX12_sees 0 = .ok (.aload_n 0, 1) := zDec_at zB_dX12_sees_0 0 rfl
theorem dX12_sees_1 : decode cX12_sees 1 = .ok (.iconst 0, 1) := zDec_at zB_dX12_sees_0 1 rfl
theorem dX12_sees_2 : decode cX12_sees 2 = .ok (.putfield 92, 3) := zDec_at zB_dX12_sees_0 2 rfl
theorem dX12_sees_5 : decode cX12_sees 5 = .ok (.iload_n 1, 1) := zDec_at zB_dX12_sees_0 3 rfl
theorem dX12_sees_6 : decode cX12_sees 6 = .ok (.i2l, 1) := zDec_at zB_dX12_sees_0 4 rfl
theorem dX12_sees_7 : decode cX12_sees 7 = .ok (.lconst 0, 1) := zDec_at zB_dX12_sees_0 5 rfl
theorem dX12_sees_8 : decode cX12_sees 8 = .ok (.ldc2_w 110, 3) := zDec_at zB_dX12_sees_0 6 rfl
theorem dX12_sees_11 : decode cX12_sees 11 = .ok (.invokestatic 100, 3) := zDec_at zB_dX12_sees_0 7 rfl
theorem dX12_sees_14 : decode cX12_sees 14 = .ok (.ifCond .eq 35, 3) := zDec_at zB_dX12_sees_0 8 rfl
theorem dX12_sees_17 : decode cX12_sees 17 = .ok (.aload_n 0, 1) := zDec_at zB_dX12_sees_0 9 rfl
theorem dX12_sees_18 : decode cX12_sees 18 = .ok (.iload_n 2, 1) := zDec_at zB_dX12_sees_0 10 rfl
theorem dX12_sees_19 : decode cX12_sees 19 = .ok (.invokevirtual 131, 3) := zDec_at zB_dX12_sees_0 11 rfl
theorem dX12_sees_22 : decode cX12_sees 22 = .ok (.ifCond .eq 27, 3) := zDec_at zB_dX12_sees_0 12 rfl
theorem dX12_sees_25 : decode cX12_sees 25 = .ok (.aload_n 0, 1) := zDec_at zB_dX12_sees_0 13 rfl
theorem dX12_sees_26 : decode cX12_sees 26 = .ok (.iload_n 3, 1) := zDec_at zB_dX12_sees_0 14 rfl
theorem dX12_sees_27 : decode cX12_sees 27 = .ok (.invokevirtual 138, 3) := zDec_at zB_dX12_sees_0 15 rfl
theorem dX12_sees_30 : decode cX12_sees 30 = .ok (.ifCond .eq 19, 3) := zDec_at zB_dX12_sees_0 16 rfl
theorem dX12_sees_33 : decode cX12_sees 33 = .ok (.iload 4, 2) := zDec_at zB_dX12_sees_0 17 rfl
theorem dX12_sees_35 : decode cX12_sees 35 = .ok (.invokestatic 145, 3) := zDec_at zB_dX12_sees_0 18 rfl
theorem dX12_sees_38 : decode cX12_sees 38 = .ok (.ifCond .eq 11, 3) := zDec_at zB_dX12_sees_0 19 rfl
theorem dX12_sees_41 : decode cX12_sees 41 = .ok (.iload 5, 2) := zDec_at zB_dX12_sees_0 20 rfl
theorem dX12_sees_43 : decode cX12_sees 43 = .ok (.invokestatic 127, 3) := zDec_at zB_dX12_sees_0 21 rfl
theorem dX12_sees_46 : decode cX12_sees 46 = .ok (.ifCond .ne 5, 3) := zDec_at zB_dX12_sees_0 22 rfl
theorem dX12_sees_49 : decode cX12_sees 49 = .ok (.iconst (-1), 1) := zDec_at zB_dX12_sees_0 23 rfl
theorem dX12_sees_50 : decode cX12_sees 50 = .ok (.ireturn, 1) := zDec_at zB_dX12_sees_0 24 rfl
theorem dX12_sees_51 : decode cX12_sees 51 = .ok (.aload_n 0, 1) := zDec_at zB_dX12_sees_0 25 rfl
theorem dX12_sees_52 : decode cX12_sees 52 = .ok (.iload 5, 2) := zDec_at zB_dX12_sees_0 26 rfl
theorem dX12_sees_54 : decode cX12_sees 54 = .ok (.invokevirtual 186, 3) := zDec_at zB_dX12_sees_0 27 rfl
theorem dX12_sees_57 : decode cX12_sees 57 = .ok (.aload_n 0, 1) := zDec_at zB_dX12_sees_0 28 rfl
theorem dX12_sees_58 : decode cX12_sees 58 = .ok (.iload_n 2, 1) := zDec_at zB_dX12_sees_0 29 rfl
theorem dX12_sees_59 : decode cX12_sees 59 = .ok (.iload_n 3, 1) := zDec_at zB_dX12_sees_0 30 rfl
theorem dX12_sees_60 : decode cX12_sees 60 = .ok (.iload 4, 2) := zDec_at zB_dX12_sees_0 31 rfl
theorem dX12_sees_62 : decode cX12_sees 62 = .ok (.invokevirtual 189, 3) := zDec_at zB_dX12_sees_0 32 rfl
theorem dX12_sees_65 : decode cX12_sees 65 = .ok (.istore 6, 2) := zDec_at zB_dX12_sees_0 33 rfl
theorem dX12_sees_67 : decode cX12_sees 67 = .ok (.iload 6, 2) := zDec_at zB_dX12_sees_0 34 rfl
theorem dX12_sees_69 : decode cX12_sees 69 = .ok (.iconst (-1), 1) := zDec_at zB_dX12_sees_0 35 rfl
theorem dX12_sees_70 : decode cX12_sees 70 = .ok (.if_icmp .ne 5, 3) := zDec_at zB_dX12_sees_0 36 rfl
theorem dX12_sees_73 : decode cX12_sees 73 = .ok (.iconst (-1), 1) := zDec_at zB_dX12_sees_0 37 rfl
theorem dX12_sees_74 : decode cX12_sees 74 = .ok (.ireturn, 1) := zDec_at zB_dX12_sees_0 38 rfl
theorem dX12_sees_75 : decode cX12_sees 75 = .ok (.aload_n 0, 1) := zDec_at zB_dX12_sees_0 39 rfl
theorem zB_dX12_sees_76 : zDecB cX12_sees [(76, .iload 4, 2), (78, .iconst 2, 1), (79, .idiv, 1), (80, .invokevirtual 167, 3), (83, .aload_n 0, 1), (84, .iload_n 3, 1), (85, .iload 4, 2), (87, .invokevirtual 171, 3), (90, .aload_n 0, 1), (91, .getfield 61, 3), (94, .iconst 2, 1), (95, .aload_n 0, 1), (96, .getfield 7, 3), (99, .iload 6, 2), (101, .invokestatic 155, 3), (104, .iconst 3, 1), (105, .iadd, 1), (106, .iaload, 1), (107, .bipush 26, 2), (109, .idiv, 1), (110, .i2l, 1), (111, .lastore, 1), (112, .aload_n 0, 1), (113, .getfield 61, 3), (116, .bipush 6, 2), (118, .iload_n 2, 1), (119, .i2l, 1), (120, .lastore, 1), (121, .aload_n 0, 1), (122, .iconst 4, 1), (123, .aload_n 0, 1), (124, .getfield 24, 3), (127, .iload 6, 2), (129, .iaload, 1), (130, .iload_n 1, 1), (131, .invokevirtual 175, 3), (134, .ifCond .eq 8, 3), (137, .bipush (-3), 2), (139, .goto 10, 3), (142, .aload_n 0, 1)] = true := by decide +kernel
theorem dX12_sees_76 : decode cX12_sees 76 = .ok (.iload 4, 2) := zDec_at zB_dX12_sees_76 0 rfl
theorem dX12_sees_78 : decode cX12_sees 78 = .ok (.iconst 2, 1) := zDec_at zB_dX12_sees_76 1 rfl
theorem dX12_sees_79 : decode cX12_sees 79 = .ok (.idiv, 1) := zDec_at zB_dX12_sees_76 2 rfl
theorem dX12_sees_80 : decode cX12_sees 80 = .ok (.invokevirtual 167, 3) := zDec_at zB_dX12_sees_76 3 rfl
theorem dX12_sees_83 : decode cX12_sees 83 = .ok (.aload_n 0, 1) := zDec_at zB_dX12_sees_76 4 rfl
theorem dX12_sees_84 : decode cX12_sees 84 = .ok (.iload_n 3, 1) := zDec_at zB_dX12_sees_76 5 rfl
theorem dX12_sees_85 : decode cX12_sees 85 = .ok (.iload 4, 2) := zDec_at zB_dX12_sees_76 6 rfl
theorem dX12_sees_87 : decode cX12_sees 87 = .ok (.invokevirtual 171, 3) := zDec_at zB_dX12_sees_76 7 rfl
theorem dX12_sees_90 : decode cX12_sees 90 = .ok (.aload_n 0, 1) := zDec_at zB_dX12_sees_76 8 rfl
theorem dX12_sees_91 : decode cX12_sees 91 = .ok (.getfield 61, 3) := zDec_at zB_dX12_sees_76 9 rfl
theorem dX12_sees_94 : decode cX12_sees 94 = .ok (.iconst 2, 1) := zDec_at zB_dX12_sees_76 10 rfl
theorem dX12_sees_95 : decode cX12_sees 95 = .ok (.aload_n 0, 1) := zDec_at zB_dX12_sees_76 11 rfl
theorem dX12_sees_96 : decode cX12_sees 96 = .ok (.getfield 7, 3) := zDec_at zB_dX12_sees_76 12 rfl
theorem dX12_sees_99 : decode cX12_sees 99 = .ok (.iload 6, 2) := zDec_at zB_dX12_sees_76 13 rfl
theorem dX12_sees_101 : decode cX12_sees 101 = .ok (.invokestatic 155, 3) := zDec_at zB_dX12_sees_76 14 rfl
theorem dX12_sees_104 : decode cX12_sees 104 = .ok (.iconst 3, 1) := zDec_at zB_dX12_sees_76 15 rfl
theorem dX12_sees_105 : decode cX12_sees 105 = .ok (.iadd, 1) := zDec_at zB_dX12_sees_76 16 rfl
theorem dX12_sees_106 : decode cX12_sees 106 = .ok (.iaload, 1) := zDec_at zB_dX12_sees_76 17 rfl
theorem dX12_sees_107 : decode cX12_sees 107 = .ok (.bipush 26, 2) := zDec_at zB_dX12_sees_76 18 rfl
theorem dX12_sees_109 : decode cX12_sees 109 = .ok (.idiv, 1) := zDec_at zB_dX12_sees_76 19 rfl
theorem dX12_sees_110 : decode cX12_sees 110 = .ok (.i2l, 1) := zDec_at zB_dX12_sees_76 20 rfl
theorem dX12_sees_111 : decode cX12_sees 111 = .ok (.lastore, 1) := zDec_at zB_dX12_sees_76 21 rfl
theorem dX12_sees_112 : decode cX12_sees 112 = .ok (.aload_n 0, 1) := zDec_at zB_dX12_sees_76 22 rfl
theorem dX12_sees_113 : decode cX12_sees 113 = .ok (.getfield 61, 3) := zDec_at zB_dX12_sees_76 23 rfl
theorem dX12_sees_116 : decode cX12_sees 116 = .ok (.bipush 6, 2) := zDec_at zB_dX12_sees_76 24 rfl
theorem dX12_sees_118 : decode cX12_sees 118 = .ok (.iload_n 2, 1) := zDec_at zB_dX12_sees_76 25 rfl
theorem dX12_sees_119 : decode cX12_sees 119 = .ok (.i2l, 1) := zDec_at zB_dX12_sees_76 26 rfl
theorem dX12_sees_120 : decode cX12_sees 120 = .ok (.lastore, 1) := zDec_at zB_dX12_sees_76 27 rfl
theorem dX12_sees_121 : decode cX12_sees 121 = .ok (.aload_n 0, 1) := zDec_at zB_dX12_sees_76 28 rfl
theorem dX12_sees_122 : decode cX12_sees 122 = .ok (.iconst 4, 1) := zDec_at zB_dX12_sees_76 29 rfl
theorem dX12_sees_123 : decode cX12_sees 123 = .ok (.aload_n 0, 1) := zDec_at zB_dX12_sees_76 30 rfl
theorem dX12_sees_124 : decode cX12_sees 124 = .ok (.getfield 24, 3) := zDec_at zB_dX12_sees_76 31 rfl
theorem dX12_sees_127 : decode cX12_sees 127 = .ok (.iload 6, 2) := zDec_at zB_dX12_sees_76 32 rfl
theorem dX12_sees_129 : decode cX12_sees 129 = .ok (.iaload, 1) := zDec_at zB_dX12_sees_76 33 rfl
theorem dX12_sees_130 : decode cX12_sees 130 = .ok (.iload_n 1, 1) := zDec_at zB_dX12_sees_76 34 rfl
theorem dX12_sees_131 : decode cX12_sees 131 = .ok (.invokevirtual 175, 3) := zDec_at zB_dX12_sees_76 35 rfl
theorem dX12_sees_134 : decode cX12_sees 134 = .ok (.ifCond .eq 8, 3) := zDec_at zB_dX12_sees_76 36 rfl
theorem dX12_sees_137 : decode cX12_sees 137 = .ok (.bipush (-3), 2) := zDec_at zB_dX12_sees_76 37 rfl
theorem dX12_sees_139 : decode cX12_sees 139 = .ok (.goto 10, 3) := zDec_at zB_dX12_sees_76 38 rfl
theorem dX12_sees_142 : decode cX12_sees 142 = .ok (.aload_n 0, 1) := zDec_at zB_dX12_sees_76 39 rfl
theorem zB_dX12_sees_143 : zDecB cX12_sees [(143, .getfield 24, 3), (146, .iload 6, 2), (148, .iaload, 1), (149, .ireturn, 1)] = true := by decide +kernel
theorem dX12_sees_143 : decode cX12_sees 143 = .ok (.getfield 24, 3) := zDec_at zB_dX12_sees_143 0 rfl
theorem dX12_sees_146 : decode cX12_sees 146 = .ok (.iload 6, 2) := zDec_at zB_dX12_sees_143 1 rfl
theorem dX12_sees_148 : decode cX12_sees 148 = .ok (.iaload, 1) := zDec_at zB_dX12_sees_143 2 rfl
theorem dX12_sees_149 : decode cX12_sees 149 = .ok (.ireturn, 1) := zDec_at zB_dX12_sees_143 3 rfl
theorem zB_dX12_setDay_0 : zDecB cX12_setDay [(0, .iload_n 2, 1), (1, .bipush 84, 2), (3, .if_icmp .ge 7, 3), (6, .iconst 0, 1), (7, .goto 7, 3), (10, .iload_n 2, 1), (11, .bipush 84, 2), (13, .isub, 1), (14, .istore_n 3, 1), (15, .aload_n 0, 1), (16, .iload_n 2, 1), (17, .invokevirtual 167, 3), (20, .aload_n 0, 1), (21, .iload_n 1, 1), (22, .iconst 2, 1), (23, .iload_n 2, 1), (24, .imul, 1), (25, .invokevirtual 171, 3), (28, .aload_n 0, 1), (29, .getfield 61, 3), (32, .bipush 7, 2), (34, .aload_n 0, 1), (35, .getfield 71, 3), (38, .iload_n 2, 1), (39, .iaload, 1), (40, .aload_n 0, 1), (41, .getfield 71, 3), (44, .iload_n 3, 1), (45, .iaload, 1), (46, .isub, 1), (47, .i2l, 1), (48, .lastore, 1), (49, .aload_n 0, 1), (50, .getfield 61, 3), (53, .bipush 8, 2), (55, .aload_n 0, 1), (56, .getfield 68, 3), (59, .iload_n 2, 1), (60, .iaload, 1), (61, .aload_n 0, 1)] = true := by decide +kernel
theorem dX12_setDay_0 : decode cX12_setDay 0 = .ok (.iload_n 2, 1) := zDec_at zB_dX12_setDay_0 0 rfl
theorem dX12_setDay_1 : decode cX12_setDay 1 = .ok (.bipush 84, 2) := zDec_at zB_dX12_setDay_0 1 rfl
theorem dX12_setDay_3 : decode cX12_setDay 3 = .ok (.if_icmp .ge 7, 3) := zDec_at zB_dX12_setDay_0 2 rfl
theorem dX12_setDay_6 : decode cX12_setDay 6 = .ok (.iconst 0, 1) := zDec_at zB_dX12_setDay_0 3 rfl
theorem dX12_setDay_7 : decode cX12_setDay 7 = .ok (.goto 7, 3) := zDec_at zB_dX12_setDay_0 4 rfl
theorem dX12_setDay_10 : decode cX12_setDay 10 = .ok (.iload_n 2, 1) := zDec_at zB_dX12_setDay_0 5 rfl
theorem dX12_setDay_11 : decode cX12_setDay 11 = .ok (.bipush 84, 2) := zDec_at zB_dX12_setDay_0 6 rfl
theorem dX12_setDay_13 : decode cX12_setDay 13 = .ok (.isub, 1) := zDec_at zB_dX12_setDay_0 7 rfl
theorem dX12_setDay_14 : decode cX12_setDay 14 = .ok (.istore_n 3, 1) := zDec_at zB_dX12_setDay_0 8 rfl
theorem dX12_setDay_15 : decode cX12_setDay 15 = .ok (.aload_n 0, 1) := zDec_at zB_dX12_setDay_0 9 rfl
theorem dX12_setDay_16 : decode cX12_setDay 16 = .ok (.iload_n 2, 1) := zDec_at zB_dX12_setDay_0 10 rfl
theorem dX12_setDay_17 : decode cX12_setDay 17 = .ok (.invokevirtual 167, 3) := zDec_at zB_dX12_setDay_0 11 rfl
theorem dX12_setDay_20 : decode cX12_setDay 20 = .ok (.aload_n 0, 1) := zDec_at zB_dX12_setDay_0 12 rfl
theorem dX12_setDay_21 : decode cX12_setDay 21 = .ok (.iload_n 1, 1) := zDec_at zB_dX12_setDay_0 13 rfl
theorem dX12_setDay_22 : decode cX12_setDay 22 = .ok (.iconst 2, 1) := zDec_at zB_dX12_setDay_0 14 rfl
theorem dX12_setDay_23 : decode cX12_setDay 23 = .ok (.iload_n 2, 1) := zDec_at zB_dX12_setDay_0 15 rfl
theorem dX12_setDay_24 : decode cX12_setDay 24 = .ok (.imul, 1) := zDec_at zB_dX12_setDay_0 16 rfl
theorem dX12_setDay_25 : decode cX12_setDay 25 = .ok (.invokevirtual 171, 3) := zDec_at zB_dX12_setDay_0 17 rfl
theorem dX12_setDay_28 : decode cX12_setDay 28 = .ok (.aload_n 0, 1) := zDec_at zB_dX12_setDay_0 18 rfl
theorem dX12_setDay_29 : decode cX12_setDay 29 = .ok (.getfield 61, 3) := zDec_at zB_dX12_setDay_0 19 rfl
theorem dX12_setDay_32 : decode cX12_setDay 32 = .ok (.bipush 7, 2) := zDec_at zB_dX12_setDay_0 20 rfl
theorem dX12_setDay_34 : decode cX12_setDay 34 = .ok (.aload_n 0, 1) := zDec_at zB_dX12_setDay_0 21 rfl
theorem dX12_setDay_35 : decode cX12_setDay 35 = .ok (.getfield 71, 3) := zDec_at zB_dX12_setDay_0 22 rfl
theorem dX12_setDay_38 : decode cX12_setDay 38 = .ok (.iload_n 2, 1) := zDec_at zB_dX12_setDay_0 23 rfl
theorem dX12_setDay_39 : decode cX12_setDay 39 = .ok (.iaload, 1) := zDec_at zB_dX12_setDay_0 24 rfl
theorem dX12_setDay_40 : decode cX12_setDay 40 = .ok (.aload_n 0, 1) := zDec_at zB_dX12_setDay_0 25 rfl
theorem dX12_setDay_41 : decode cX12_setDay 41 = .ok (.getfield 71, 3) := zDec_at zB_dX12_setDay_0 26 rfl
theorem dX12_setDay_44 : decode cX12_setDay 44 = .ok (.iload_n 3, 1) := zDec_at zB_dX12_setDay_0 27 rfl
theorem dX12_setDay_45 : decode cX12_setDay 45 = .ok (.iaload, 1) := zDec_at zB_dX12_setDay_0 28 rfl
theorem dX12_setDay_46 : decode cX12_setDay 46 = .ok (.isub, 1) := zDec_at zB_dX12_setDay_0 29 rfl
theorem dX12_setDay_47 : decode cX12_setDay 47 = .ok (.i2l, 1) := zDec_at zB_dX12_setDay_0 30 rfl
theorem dX12_setDay_48 : decode cX12_setDay 48 = .ok (.lastore, 1) := zDec_at zB_dX12_setDay_0 31 rfl
theorem dX12_setDay_49 : decode cX12_setDay 49 = .ok (.aload_n 0, 1) := zDec_at zB_dX12_setDay_0 32 rfl
theorem dX12_setDay_50 : decode cX12_setDay 50 = .ok (.getfield 61, 3) := zDec_at zB_dX12_setDay_0 33 rfl
theorem dX12_setDay_53 : decode cX12_setDay 53 = .ok (.bipush 8, 2) := zDec_at zB_dX12_setDay_0 34 rfl
theorem dX12_setDay_55 : decode cX12_setDay 55 = .ok (.aload_n 0, 1) := zDec_at zB_dX12_setDay_0 35 rfl
theorem dX12_setDay_56 : decode cX12_setDay 56 = .ok (.getfield 68, 3) := zDec_at zB_dX12_setDay_0 36 rfl
theorem dX12_setDay_59 : decode cX12_setDay 59 = .ok (.iload_n 2, 1) := zDec_at zB_dX12_setDay_0 37 rfl
theorem dX12_setDay_60 : decode cX12_setDay 60 = .ok (.iaload, 1) := zDec_at zB_dX12_setDay_0 38 rfl
theorem dX12_setDay_61 : decode cX12_setDay 61 = .ok (.aload_n 0, 1) := zDec_at zB_dX12_setDay_0 39 rfl
theorem zB_dX12_setDay_62 : zDecB cX12_setDay [(62, .getfield 68, 3), (65, .iload_n 3, 1), (66, .iaload, 1), (67, .isub, 1), (68, .i2l, 1), (69, .lastore, 1), (70, .return_, 1)] = true := by decide +kernel
theorem dX12_setDay_62 : decode cX12_setDay 62 = .ok (.getfield 68, 3) := zDec_at zB_dX12_setDay_62 0 rfl
theorem dX12_setDay_65 : decode cX12_setDay 65 = .ok (.iload_n 3, 1) := zDec_at zB_dX12_setDay_62 1 rfl
theorem dX12_setDay_66 : decode cX12_setDay 66 = .ok (.iaload, 1) := zDec_at zB_dX12_setDay_62 2 rfl
theorem dX12_setDay_67 : decode cX12_setDay 67 = .ok (.isub, 1) := zDec_at zB_dX12_setDay_62 3 rfl
theorem dX12_setDay_68 : decode cX12_setDay 68 = .ok (.i2l, 1) := zDec_at zB_dX12_setDay_62 4 rfl
theorem dX12_setDay_69 : decode cX12_setDay 69 = .ok (.lastore, 1) := zDec_at zB_dX12_setDay_62 5 rfl
theorem dX12_setDay_70 : decode cX12_setDay 70 = .ok (.return_, 1) := zDec_at zB_dX12_setDay_62 6 rfl
theorem zB_dX12_setFor_0 : zDecB cX12_setFor [(0, .iload_n 1, 1), (1, .invokestatic 120, 3), (4, .istore_n 3, 1), (5, .iload_n 2, 1), (6, .iconst 2, 1), (7, .idiv, 1), (8, .istore 4, 2), (10, .iconst 0, 1), (11, .istore 5, 2), (13, .iload 5, 2), (15, .bipush 16, 2), (17, .if_icmp .ge 17, 3), (20, .aload_n 0, 1), (21, .getfield 61, 3), (24, .iload 5, 2), (26, .lconst 0, 1), (27, .lastore, 1), (28, .iinc 5 1, 3), (31, .goto (-18), 3), (34, .aload_n 0, 1), (35, .getfield 61, 3), (38, .iconst 1, 1), (39, .aload_n 0, 1), (40, .getfield 7, 3), (43, .iload_n 3, 1), (44, .iaload, 1), (45, .i2l, 1), (46, .lastore, 1), (47, .aload_n 0, 1), (48, .getfield 61, 3), (51, .iconst 3, 1), (52, .iload_n 2, 1), (53, .iconst 2, 1), (54, .irem, 1), (55, .i2l, 1), (56, .lastore, 1), (57, .aload_n 0, 1), (58, .getfield 61, 3), (61, .iconst 4, 1), (62, .iload 4, 2)] = true := by decide +kernel
theorem dX12_setFor_0 : decode cX12_setFor 0 = .ok (.iload_n 1, 1) := zDec_at zB_dX12_setFor_0 0 rfl
theorem dX12_setFor_1 : decode cX12_setFor 1 = .ok (.invokestatic 120, 3) := zDec_at zB_dX12_setFor_0 1 rfl
theorem dX12_setFor_4 : decode cX12_setFor 4 = .ok (.istore_n 3, 1) := zDec_at zB_dX12_setFor_0 2 rfl
theorem dX12_setFor_5 : decode cX12_setFor 5 = .ok (.iload_n 2, 1) := zDec_at zB_dX12_setFor_0 3 rfl
theorem dX12_setFor_6 : decode cX12_setFor 6 = .ok (.iconst 2, 1) := zDec_at zB_dX12_setFor_0 4 rfl
theorem dX12_setFor_7 : decode cX12_setFor 7 = .ok (.idiv, 1) := zDec_at zB_dX12_setFor_0 5 rfl
theorem dX12_setFor_8 : decode cX12_setFor 8 = .ok (.istore 4, 2) := zDec_at zB_dX12_setFor_0 6 rfl
theorem dX12_setFor_10 : decode cX12_setFor 10 = .ok (.iconst 0, 1) := zDec_at zB_dX12_setFor_0 7 rfl
theorem dX12_setFor_11 : decode cX12_setFor 11 = .ok (.istore 5, 2) := zDec_at zB_dX12_setFor_0 8 rfl
theorem dX12_setFor_13 : decode cX12_setFor 13 = .ok (.iload 5, 2) := zDec_at zB_dX12_setFor_0 9 rfl
theorem dX12_setFor_15 : decode cX12_setFor 15 = .ok (.bipush 16, 2) := zDec_at zB_dX12_setFor_0 10 rfl
theorem dX12_setFor_17 : decode cX12_setFor 17 = .ok (.if_icmp .ge 17, 3) := zDec_at zB_dX12_setFor_0 11 rfl
theorem dX12_setFor_20 : decode cX12_setFor 20 = .ok (.aload_n 0, 1) := zDec_at zB_dX12_setFor_0 12 rfl
theorem dX12_setFor_21 : decode cX12_setFor 21 = .ok (.getfield 61, 3) := zDec_at zB_dX12_setFor_0 13 rfl
theorem dX12_setFor_24 : decode cX12_setFor 24 = .ok (.iload 5, 2) := zDec_at zB_dX12_setFor_0 14 rfl
theorem dX12_setFor_26 : decode cX12_setFor 26 = .ok (.lconst 0, 1) := zDec_at zB_dX12_setFor_0 15 rfl
theorem dX12_setFor_27 : decode cX12_setFor 27 = .ok (.lastore, 1) := zDec_at zB_dX12_setFor_0 16 rfl
theorem dX12_setFor_28 : decode cX12_setFor 28 = .ok (.iinc 5 1, 3) := zDec_at zB_dX12_setFor_0 17 rfl
theorem dX12_setFor_31 : decode cX12_setFor 31 = .ok (.goto (-18), 3) := zDec_at zB_dX12_setFor_0 18 rfl
theorem dX12_setFor_34 : decode cX12_setFor 34 = .ok (.aload_n 0, 1) := zDec_at zB_dX12_setFor_0 19 rfl
theorem dX12_setFor_35 : decode cX12_setFor 35 = .ok (.getfield 61, 3) := zDec_at zB_dX12_setFor_0 20 rfl
theorem dX12_setFor_38 : decode cX12_setFor 38 = .ok (.iconst 1, 1) := zDec_at zB_dX12_setFor_0 21 rfl
theorem dX12_setFor_39 : decode cX12_setFor 39 = .ok (.aload_n 0, 1) := zDec_at zB_dX12_setFor_0 22 rfl
theorem dX12_setFor_40 : decode cX12_setFor 40 = .ok (.getfield 7, 3) := zDec_at zB_dX12_setFor_0 23 rfl
theorem dX12_setFor_43 : decode cX12_setFor 43 = .ok (.iload_n 3, 1) := zDec_at zB_dX12_setFor_0 24 rfl
theorem dX12_setFor_44 : decode cX12_setFor 44 = .ok (.iaload, 1) := zDec_at zB_dX12_setFor_0 25 rfl
theorem dX12_setFor_45 : decode cX12_setFor 45 = .ok (.i2l, 1) := zDec_at zB_dX12_setFor_0 26 rfl
theorem dX12_setFor_46 : decode cX12_setFor 46 = .ok (.lastore, 1) := zDec_at zB_dX12_setFor_0 27 rfl
theorem dX12_setFor_47 : decode cX12_setFor 47 = .ok (.aload_n 0, 1) := zDec_at zB_dX12_setFor_0 28 rfl
theorem dX12_setFor_48 : decode cX12_setFor 48 = .ok (.getfield 61, 3) := zDec_at zB_dX12_setFor_0 29 rfl
theorem dX12_setFor_51 : decode cX12_setFor 51 = .ok (.iconst 3, 1) := zDec_at zB_dX12_setFor_0 30 rfl
theorem dX12_setFor_52 : decode cX12_setFor 52 = .ok (.iload_n 2, 1) := zDec_at zB_dX12_setFor_0 31 rfl
theorem dX12_setFor_53 : decode cX12_setFor 53 = .ok (.iconst 2, 1) := zDec_at zB_dX12_setFor_0 32 rfl
theorem dX12_setFor_54 : decode cX12_setFor 54 = .ok (.irem, 1) := zDec_at zB_dX12_setFor_0 33 rfl
theorem dX12_setFor_55 : decode cX12_setFor 55 = .ok (.i2l, 1) := zDec_at zB_dX12_setFor_0 34 rfl
theorem dX12_setFor_56 : decode cX12_setFor 56 = .ok (.lastore, 1) := zDec_at zB_dX12_setFor_0 35 rfl
theorem dX12_setFor_57 : decode cX12_setFor 57 = .ok (.aload_n 0, 1) := zDec_at zB_dX12_setFor_0 36 rfl
theorem dX12_setFor_58 : decode cX12_setFor 58 = .ok (.getfield 61, 3) := zDec_at zB_dX12_setFor_0 37 rfl
theorem dX12_setFor_61 : decode cX12_setFor 61 = .ok (.iconst 4, 1) := zDec_at zB_dX12_setFor_0 38 rfl
theorem dX12_setFor_62 : decode cX12_setFor 62 = .ok (.iload 4, 2) := zDec_at zB_dX12_setFor_0 39 rfl
theorem zB_dX12_setFor_64 : zDecB cX12_setFor [(64, .i2l, 1), (65, .lastore, 1), (66, .aload_n 0, 1), (67, .getfield 61, 3), (70, .iconst 5, 1), (71, .iload 4, 2), (73, .bipush 7, 2), (75, .idiv, 1), (76, .i2l, 1), (77, .lastore, 1), (78, .aload_n 0, 1), (79, .getfield 61, 3), (82, .bipush 12, 2), (84, .aload_n 0, 1), (85, .getfield 7, 3), (88, .iload_n 3, 1), (89, .iconst 1, 1), (90, .iadd, 1), (91, .iaload, 1), (92, .i2l, 1), (93, .lastore, 1), (94, .aload_n 0, 1), (95, .getfield 61, 3), (98, .bipush 13, 2), (100, .aload_n 0, 1), (101, .iload_n 1, 1), (102, .iconst 0, 1), (103, .iload 4, 2), (105, .invokevirtual 413, 3), (108, .ifCond .eq 7, 3), (111, .lconst 1, 1), (112, .goto 4, 3), (115, .lconst 0, 1), (116, .lastore, 1), (117, .aload_n 0, 1), (118, .getfield 61, 3), (121, .bipush 14, 2), (123, .aload_n 0, 1), (124, .getfield 7, 3), (127, .iload_n 3, 1)] = true := by decide +kernel
theorem dX12_setFor_64 : decode cX12_setFor 64 = .ok (.i2l, 1) := zDec_at zB_dX12_setFor_64 0 rfl
theorem dX12_setFor_65 : decode cX12_setFor 65 = .ok (.lastore, 1) := zDec_at zB_dX12_setFor_64 1 rfl
theorem dX12_setFor_66 : decode cX12_setFor 66 = .ok (.aload_n 0, 1) := zDec_at zB_dX12_setFor_64 2 rfl
theorem dX12_setFor_67 : decode cX12_setFor 67 = .ok (.getfield 61, 3) := zDec_at zB_dX12_setFor_64 3 rfl
theorem dX12_setFor_70 : decode cX12_setFor 70 = .ok (.iconst 5, 1) := zDec_at zB_dX12_setFor_64 4 rfl
theorem dX12_setFor_71 : decode cX12_setFor 71 = .ok (.iload 4, 2) := zDec_at zB_dX12_setFor_64 5 rfl
theorem dX12_setFor_73 : decode cX12_setFor 73 = .ok (.bipush 7, 2) := zDec_at zB_dX12_setFor_64 6 rfl
theorem dX12_setFor_75 : decode cX12_setFor 75 = .ok (.idiv, 1) := zDec_at zB_dX12_setFor_64 7 rfl
theorem dX12_setFor_76 : decode cX12_setFor 76 = .ok (.i2l, 1) := zDec_at zB_dX12_setFor_64 8 rfl
theorem dX12_setFor_77 : decode cX12_setFor 77 = .ok (.lastore, 1) := zDec_at zB_dX12_setFor_64 9 rfl
theorem dX12_setFor_78 : decode cX12_setFor 78 = .ok (.aload_n 0, 1) := zDec_at zB_dX12_setFor_64 10 rfl
theorem dX12_setFor_79 : decode cX12_setFor 79 = .ok (.getfield 61, 3) := zDec_at zB_dX12_setFor_64 11 rfl
theorem dX12_setFor_82 : decode cX12_setFor 82 = .ok (.bipush 12, 2) := zDec_at zB_dX12_setFor_64 12 rfl
theorem dX12_setFor_84 : decode cX12_setFor 84 = .ok (.aload_n 0, 1) := zDec_at zB_dX12_setFor_64 13 rfl
theorem dX12_setFor_85 : decode cX12_setFor 85 = .ok (.getfield 7, 3) := zDec_at zB_dX12_setFor_64 14 rfl
theorem dX12_setFor_88 : decode cX12_setFor 88 = .ok (.iload_n 3, 1) := zDec_at zB_dX12_setFor_64 15 rfl
theorem dX12_setFor_89 : decode cX12_setFor 89 = .ok (.iconst 1, 1) := zDec_at zB_dX12_setFor_64 16 rfl
theorem dX12_setFor_90 : decode cX12_setFor 90 = .ok (.iadd, 1) := zDec_at zB_dX12_setFor_64 17 rfl
theorem dX12_setFor_91 : decode cX12_setFor 91 = .ok (.iaload, 1) := zDec_at zB_dX12_setFor_64 18 rfl
theorem dX12_setFor_92 : decode cX12_setFor 92 = .ok (.i2l, 1) := zDec_at zB_dX12_setFor_64 19 rfl
theorem dX12_setFor_93 : decode cX12_setFor 93 = .ok (.lastore, 1) := zDec_at zB_dX12_setFor_64 20 rfl
theorem dX12_setFor_94 : decode cX12_setFor 94 = .ok (.aload_n 0, 1) := zDec_at zB_dX12_setFor_64 21 rfl
theorem dX12_setFor_95 : decode cX12_setFor 95 = .ok (.getfield 61, 3) := zDec_at zB_dX12_setFor_64 22 rfl
theorem dX12_setFor_98 : decode cX12_setFor 98 = .ok (.bipush 13, 2) := zDec_at zB_dX12_setFor_64 23 rfl
theorem dX12_setFor_100 : decode cX12_setFor 100 = .ok (.aload_n 0, 1) := zDec_at zB_dX12_setFor_64 24 rfl
theorem dX12_setFor_101 : decode cX12_setFor 101 = .ok (.iload_n 1, 1) := zDec_at zB_dX12_setFor_64 25 rfl
theorem dX12_setFor_102 : decode cX12_setFor 102 = .ok (.iconst 0, 1) := zDec_at zB_dX12_setFor_64 26 rfl
theorem dX12_setFor_103 : decode cX12_setFor 103 = .ok (.iload 4, 2) := zDec_at zB_dX12_setFor_64 27 rfl
theorem dX12_setFor_105 : decode cX12_setFor 105 = .ok (.invokevirtual 413, 3) := zDec_at zB_dX12_setFor_64 28 rfl
theorem dX12_setFor_108 : decode cX12_setFor 108 = .ok (.ifCond .eq 7, 3) := zDec_at zB_dX12_setFor_64 29 rfl
theorem dX12_setFor_111 : decode cX12_setFor 111 = .ok (.lconst 1, 1) := zDec_at zB_dX12_setFor_64 30 rfl
theorem dX12_setFor_112 : decode cX12_setFor 112 = .ok (.goto 4, 3) := zDec_at zB_dX12_setFor_64 31 rfl
theorem dX12_setFor_115 : decode cX12_setFor 115 = .ok (.lconst 0, 1) := zDec_at zB_dX12_setFor_64 32 rfl
theorem dX12_setFor_116 : decode cX12_setFor 116 = .ok (.lastore, 1) := zDec_at zB_dX12_setFor_64 33 rfl
theorem dX12_setFor_117 : decode cX12_setFor 117 = .ok (.aload_n 0, 1) := zDec_at zB_dX12_setFor_64 34 rfl
theorem dX12_setFor_118 : decode cX12_setFor 118 = .ok (.getfield 61, 3) := zDec_at zB_dX12_setFor_64 35 rfl
theorem dX12_setFor_121 : decode cX12_setFor 121 = .ok (.bipush 14, 2) := zDec_at zB_dX12_setFor_64 36 rfl
theorem dX12_setFor_123 : decode cX12_setFor 123 = .ok (.aload_n 0, 1) := zDec_at zB_dX12_setFor_64 37 rfl
theorem dX12_setFor_124 : decode cX12_setFor 124 = .ok (.getfield 7, 3) := zDec_at zB_dX12_setFor_64 38 rfl
theorem dX12_setFor_127 : decode cX12_setFor 127 = .ok (.iload_n 3, 1) := zDec_at zB_dX12_setFor_64 39 rfl
theorem zB_dX12_setFor_128 : zDecB cX12_setFor [(128, .iconst 2, 1), (129, .iadd, 1), (130, .iaload, 1), (131, .iconst (-1), 1), (132, .if_icmp .eq 23, 3), (135, .aload_n 0, 1), (136, .aload_n 0, 1), (137, .getfield 7, 3), (140, .iload_n 3, 1), (141, .iconst 2, 1), (142, .iadd, 1), (143, .iaload, 1), (144, .iload_n 2, 1), (145, .invokevirtual 148, 3), (148, .ifCond .eq 7, 3), (151, .lconst 1, 1), (152, .goto 4, 3), (155, .lconst 0, 1), (156, .lastore, 1), (157, .aload_n 0, 1), (158, .getfield 61, 3), (161, .bipush 15, 2), (163, .aload_n 0, 1), (164, .iload_n 1, 1), (165, .iconst 1, 1), (166, .iload 4, 2), (168, .invokevirtual 413, 3), (171, .ifCond .eq 7, 3), (174, .lconst 1, 1), (175, .goto 4, 3), (178, .lconst 0, 1), (179, .lastore, 1), (180, .return_, 1)] = true := by decide +kernel
theorem dX12_setFor_128 : decode cX12_setFor 128 = .ok (.iconst 2, 1) := zDec_at zB_dX12_setFor_128 0 rfl
theorem dX12_setFor_129 : decode cX12_setFor 129 = .ok (.iadd, 1) := zDec_at zB_dX12_setFor_128 1 rfl
theorem dX12_setFor_130 : decode cX12_setFor 130 = .ok (.iaload, 1) := zDec_at zB_dX12_setFor_128 2 rfl
theorem dX12_setFor_131 : decode cX12_setFor 131 = .ok (.iconst (-1), 1) := zDec_at zB_dX12_setFor_128 3 rfl
theorem dX12_setFor_132 : decode cX12_setFor 132 = .ok (.if_icmp .eq 23, 3) := zDec_at zB_dX12_setFor_128 4 rfl
theorem dX12_setFor_135 : decode cX12_setFor 135 = .ok (.aload_n 0, 1) := zDec_at zB_dX12_setFor_128 5 rfl
theorem dX12_setFor_136 : decode cX12_setFor 136 = .ok (.aload_n 0, 1) := zDec_at zB_dX12_setFor_128 6 rfl
theorem dX12_setFor_137 : decode cX12_setFor 137 = .ok (.getfield 7, 3) := zDec_at zB_dX12_setFor_128 7 rfl
theorem dX12_setFor_140 : decode cX12_setFor 140 = .ok (.iload_n 3, 1) := zDec_at zB_dX12_setFor_128 8 rfl
theorem dX12_setFor_141 : decode cX12_setFor 141 = .ok (.iconst 2, 1) := zDec_at zB_dX12_setFor_128 9 rfl
theorem dX12_setFor_142 : decode cX12_setFor 142 = .ok (.iadd, 1) := zDec_at zB_dX12_setFor_128 10 rfl
theorem dX12_setFor_143 : decode cX12_setFor 143 = .ok (.iaload, 1) := zDec_at zB_dX12_setFor_128 11 rfl
theorem dX12_setFor_144 : decode cX12_setFor 144 = .ok (.iload_n 2, 1) := zDec_at zB_dX12_setFor_128 12 rfl
theorem dX12_setFor_145 : decode cX12_setFor 145 = .ok (.invokevirtual 148, 3) := zDec_at zB_dX12_setFor_128 13 rfl
theorem dX12_setFor_148 : decode cX12_setFor 148 = .ok (.ifCond .eq 7, 3) := zDec_at zB_dX12_setFor_128 14 rfl
theorem dX12_setFor_151 : decode cX12_setFor 151 = .ok (.lconst 1, 1) := zDec_at zB_dX12_setFor_128 15 rfl
theorem dX12_setFor_152 : decode cX12_setFor 152 = .ok (.goto 4, 3) := zDec_at zB_dX12_setFor_128 16 rfl
theorem dX12_setFor_155 : decode cX12_setFor 155 = .ok (.lconst 0, 1) := zDec_at zB_dX12_setFor_128 17 rfl
theorem dX12_setFor_156 : decode cX12_setFor 156 = .ok (.lastore, 1) := zDec_at zB_dX12_setFor_128 18 rfl
theorem dX12_setFor_157 : decode cX12_setFor 157 = .ok (.aload_n 0, 1) := zDec_at zB_dX12_setFor_128 19 rfl
theorem dX12_setFor_158 : decode cX12_setFor 158 = .ok (.getfield 61, 3) := zDec_at zB_dX12_setFor_128 20 rfl
theorem dX12_setFor_161 : decode cX12_setFor 161 = .ok (.bipush 15, 2) := zDec_at zB_dX12_setFor_128 21 rfl
theorem dX12_setFor_163 : decode cX12_setFor 163 = .ok (.aload_n 0, 1) := zDec_at zB_dX12_setFor_128 22 rfl
theorem dX12_setFor_164 : decode cX12_setFor 164 = .ok (.iload_n 1, 1) := zDec_at zB_dX12_setFor_128 23 rfl
theorem dX12_setFor_165 : decode cX12_setFor 165 = .ok (.iconst 1, 1) := zDec_at zB_dX12_setFor_128 24 rfl
theorem dX12_setFor_166 : decode cX12_setFor 166 = .ok (.iload 4, 2) := zDec_at zB_dX12_setFor_128 25 rfl
theorem dX12_setFor_168 : decode cX12_setFor 168 = .ok (.invokevirtual 413, 3) := zDec_at zB_dX12_setFor_128 26 rfl
theorem dX12_setFor_171 : decode cX12_setFor 171 = .ok (.ifCond .eq 7, 3) := zDec_at zB_dX12_setFor_128 27 rfl
theorem dX12_setFor_174 : decode cX12_setFor 174 = .ok (.lconst 1, 1) := zDec_at zB_dX12_setFor_128 28 rfl
theorem dX12_setFor_175 : decode cX12_setFor 175 = .ok (.goto 4, 3) := zDec_at zB_dX12_setFor_128 29 rfl
theorem dX12_setFor_178 : decode cX12_setFor 178 = .ok (.lconst 0, 1) := zDec_at zB_dX12_setFor_128 30 rfl
theorem dX12_setFor_179 : decode cX12_setFor 179 = .ok (.lastore, 1) := zDec_at zB_dX12_setFor_128 31 rfl
theorem dX12_setFor_180 : decode cX12_setFor 180 = .ok (.return_, 1) := zDec_at zB_dX12_setFor_128 32 rfl
theorem zB_dX12_shut_0 : zDecB cX12_shut [(0, .aload_n 0, 1), (1, .iconst 0, 1), (2, .putfield 92, 3), (5, .iload_n 2, 1), (6, .invokestatic 127, 3), (9, .ifCond .ne 9, 3), (12, .aload_n 0, 1), (13, .iconst (-1), 1), (14, .invokevirtual 106, 3), (17, .ireturn, 1), (18, .aload_n 0, 1), (19, .iload_n 1, 1), (20, .invokevirtual 131, 3), (23, .ifCond .ne 10, 3), (26, .aload_n 0, 1), (27, .bipush (-2), 2), (29, .invokevirtual 106, 3), (32, .ireturn, 1), (33, .aload_n 0, 1), (34, .getfield 7, 3), (37, .sipush 700, 3), (40, .sipush 400, 3), (43, .iload_n 1, 1), (44, .imul, 1), (45, .iadd, 1), (46, .iload_n 2, 1), (47, .iadd, 1), (48, .iaload, 1), (49, .iconst 1, 1), (50, .if_icmp .ne 10, 3), (53, .aload_n 0, 1), (54, .bipush (-4), 2), (56, .invokevirtual 106, 3), (59, .ireturn, 1), (60, .aload_n 0, 1), (61, .getfield 7, 3), (64, .sipush 700, 3), (67, .sipush 400, 3), (70, .iload_n 1, 1), (71, .imul, 1)] = true := by decide +kernel
theorem dX12_shut_0 : decode cX12_shut 0 = .ok (.aload_n 0, 1) := zDec_at zB_dX12_shut_0 0 rfl
theorem dX12_shut_1 : decode cX12_shut 1 = .ok (.iconst 0, 1) := zDec_at zB_dX12_shut_0 1 rfl
theorem dX12_shut_2 : decode cX12_shut 2 = .ok (.putfield 92, 3) := zDec_at zB_dX12_shut_0 2 rfl
theorem dX12_shut_5 : decode cX12_shut 5 = .ok (.iload_n 2, 1) := zDec_at zB_dX12_shut_0 3 rfl
theorem dX12_shut_6 : decode cX12_shut 6 = .ok (.invokestatic 127, 3) := zDec_at zB_dX12_shut_0 4 rfl
theorem dX12_shut_9 : decode cX12_shut 9 = .ok (.ifCond .ne 9, 3) := zDec_at zB_dX12_shut_0 5 rfl
theorem dX12_shut_12 : decode cX12_shut 12 = .ok (.aload_n 0, 1) := zDec_at zB_dX12_shut_0 6 rfl
theorem dX12_shut_13 : decode cX12_shut 13 = .ok (.iconst (-1), 1) := zDec_at zB_dX12_shut_0 7 rfl
theorem dX12_shut_14 : decode cX12_shut 14 = .ok (.invokevirtual 106, 3) := zDec_at zB_dX12_shut_0 8 rfl
theorem dX12_shut_17 : decode cX12_shut 17 = .ok (.ireturn, 1) := zDec_at zB_dX12_shut_0 9 rfl
theorem dX12_shut_18 : decode cX12_shut 18 = .ok (.aload_n 0, 1) := zDec_at zB_dX12_shut_0 10 rfl
theorem dX12_shut_19 : decode cX12_shut 19 = .ok (.iload_n 1, 1) := zDec_at zB_dX12_shut_0 11 rfl
theorem dX12_shut_20 : decode cX12_shut 20 = .ok (.invokevirtual 131, 3) := zDec_at zB_dX12_shut_0 12 rfl
theorem dX12_shut_23 : decode cX12_shut 23 = .ok (.ifCond .ne 10, 3) := zDec_at zB_dX12_shut_0 13 rfl
theorem dX12_shut_26 : decode cX12_shut 26 = .ok (.aload_n 0, 1) := zDec_at zB_dX12_shut_0 14 rfl
theorem dX12_shut_27 : decode cX12_shut 27 = .ok (.bipush (-2), 2) := zDec_at zB_dX12_shut_0 15 rfl
theorem dX12_shut_29 : decode cX12_shut 29 = .ok (.invokevirtual 106, 3) := zDec_at zB_dX12_shut_0 16 rfl
theorem dX12_shut_32 : decode cX12_shut 32 = .ok (.ireturn, 1) := zDec_at zB_dX12_shut_0 17 rfl
theorem dX12_shut_33 : decode cX12_shut 33 = .ok (.aload_n 0, 1) := zDec_at zB_dX12_shut_0 18 rfl
theorem dX12_shut_34 : decode cX12_shut 34 = .ok (.getfield 7, 3) := zDec_at zB_dX12_shut_0 19 rfl
theorem dX12_shut_37 : decode cX12_shut 37 = .ok (.sipush 700, 3) := zDec_at zB_dX12_shut_0 20 rfl
theorem dX12_shut_40 : decode cX12_shut 40 = .ok (.sipush 400, 3) := zDec_at zB_dX12_shut_0 21 rfl
theorem dX12_shut_43 : decode cX12_shut 43 = .ok (.iload_n 1, 1) := zDec_at zB_dX12_shut_0 22 rfl
theorem dX12_shut_44 : decode cX12_shut 44 = .ok (.imul, 1) := zDec_at zB_dX12_shut_0 23 rfl
theorem dX12_shut_45 : decode cX12_shut 45 = .ok (.iadd, 1) := zDec_at zB_dX12_shut_0 24 rfl
theorem dX12_shut_46 : decode cX12_shut 46 = .ok (.iload_n 2, 1) := zDec_at zB_dX12_shut_0 25 rfl
theorem dX12_shut_47 : decode cX12_shut 47 = .ok (.iadd, 1) := zDec_at zB_dX12_shut_0 26 rfl
theorem dX12_shut_48 : decode cX12_shut 48 = .ok (.iaload, 1) := zDec_at zB_dX12_shut_0 27 rfl
theorem dX12_shut_49 : decode cX12_shut 49 = .ok (.iconst 1, 1) := zDec_at zB_dX12_shut_0 28 rfl
theorem dX12_shut_50 : decode cX12_shut 50 = .ok (.if_icmp .ne 10, 3) := zDec_at zB_dX12_shut_0 29 rfl
theorem dX12_shut_53 : decode cX12_shut 53 = .ok (.aload_n 0, 1) := zDec_at zB_dX12_shut_0 30 rfl
theorem dX12_shut_54 : decode cX12_shut 54 = .ok (.bipush (-4), 2) := zDec_at zB_dX12_shut_0 31 rfl
theorem dX12_shut_56 : decode cX12_shut 56 = .ok (.invokevirtual 106, 3) := zDec_at zB_dX12_shut_0 32 rfl
theorem dX12_shut_59 : decode cX12_shut 59 = .ok (.ireturn, 1) := zDec_at zB_dX12_shut_0 33 rfl
theorem dX12_shut_60 : decode cX12_shut 60 = .ok (.aload_n 0, 1) := zDec_at zB_dX12_shut_0 34 rfl
theorem dX12_shut_61 : decode cX12_shut 61 = .ok (.getfield 7, 3) := zDec_at zB_dX12_shut_0 35 rfl
theorem dX12_shut_64 : decode cX12_shut 64 = .ok (.sipush 700, 3) := zDec_at zB_dX12_shut_0 36 rfl
theorem dX12_shut_67 : decode cX12_shut 67 = .ok (.sipush 400, 3) := zDec_at zB_dX12_shut_0 37 rfl
theorem dX12_shut_70 : decode cX12_shut 70 = .ok (.iload_n 1, 1) := zDec_at zB_dX12_shut_0 38 rfl
theorem dX12_shut_71 : decode cX12_shut 71 = .ok (.imul, 1) := zDec_at zB_dX12_shut_0 39 rfl
theorem zB_dX12_shut_72 : zDecB cX12_shut [(72, .iadd, 1), (73, .iload_n 2, 1), (74, .iadd, 1), (75, .iconst 1, 1), (76, .iastore, 1), (77, .aload_n 0, 1), (78, .iconst 0, 1), (79, .invokevirtual 106, 3), (82, .ireturn, 1)] = true := by decide +kernel
theorem dX12_shut_72 : decode cX12_shut 72 = .ok (.iadd, 1) := zDec_at zB_dX12_shut_72 0 rfl
theorem dX12_shut_73 : decode cX12_shut 73 = .ok (.iload_n 2, 1) := zDec_at zB_dX12_shut_72 1 rfl
theorem dX12_shut_74 : decode cX12_shut 74 = .ok (.iadd, 1) := zDec_at zB_dX12_shut_72 2 rfl
theorem dX12_shut_75 : decode cX12_shut 75 = .ok (.iconst 1, 1) := zDec_at zB_dX12_shut_72 3 rfl
theorem dX12_shut_76 : decode cX12_shut 76 = .ok (.iastore, 1) := zDec_at zB_dX12_shut_72 4 rfl
theorem dX12_shut_77 : decode cX12_shut 77 = .ok (.aload_n 0, 1) := zDec_at zB_dX12_shut_72 5 rfl
theorem dX12_shut_78 : decode cX12_shut 78 = .ok (.iconst 0, 1) := zDec_at zB_dX12_shut_72 6 rfl
theorem dX12_shut_79 : decode cX12_shut 79 = .ok (.invokevirtual 106, 3) := zDec_at zB_dX12_shut_72 7 rfl
theorem dX12_shut_82 : decode cX12_shut 82 = .ok (.ireturn, 1) := zDec_at zB_dX12_shut_72 8 rfl
theorem zB_dX12_stands_0 : zDecB cX12_stands [(0, .aload_n 0, 1), (1, .iconst 0, 1), (2, .putfield 92, 3), (5, .aload_n 0, 1), (6, .iload_n 1, 1), (7, .invokevirtual 138, 3), (10, .ifCond .eq 35, 3), (13, .iload_n 2, 1), (14, .invokestatic 460, 3), (17, .ifCond .eq 28, 3), (20, .iload_n 3, 1), (21, .invokestatic 127, 3), (24, .ifCond .eq 21, 3), (27, .aload_n 0, 1), (28, .iload_n 1, 1), (29, .iload_n 2, 1), (30, .iload_n 3, 1), (31, .invokevirtual 475, 3), (34, .ifCond .eq 7, 3), (37, .iconst 1, 1), (38, .goto 8, 3), (41, .iconst 0, 1), (42, .goto 4, 3), (45, .iconst (-1), 1), (46, .ireturn, 1)] = true := by decide +kernel
theorem dX12_stands_0 : decode cX12_stands 0 = .ok (.aload_n 0, 1) := zDec_at zB_dX12_stands_0 0 rfl
theorem dX12_stands_1 : decode cX12_stands 1 = .ok (.iconst 0, 1) := zDec_at zB_dX12_stands_0 1 rfl
theorem dX12_stands_2 : decode cX12_stands 2 = .ok (.putfield 92, 3) := zDec_at zB_dX12_stands_0 2 rfl
theorem dX12_stands_5 : decode cX12_stands 5 = .ok (.aload_n 0, 1) := zDec_at zB_dX12_stands_0 3 rfl
theorem dX12_stands_6 : decode cX12_stands 6 = .ok (.iload_n 1, 1) := zDec_at zB_dX12_stands_0 4 rfl
theorem dX12_stands_7 : decode cX12_stands 7 = .ok (.invokevirtual 138, 3) := zDec_at zB_dX12_stands_0 5 rfl
theorem dX12_stands_10 : decode cX12_stands 10 = .ok (.ifCond .eq 35, 3) := zDec_at zB_dX12_stands_0 6 rfl
theorem dX12_stands_13 : decode cX12_stands 13 = .ok (.iload_n 2, 1) := zDec_at zB_dX12_stands_0 7 rfl
theorem dX12_stands_14 : decode cX12_stands 14 = .ok (.invokestatic 460, 3) := zDec_at zB_dX12_stands_0 8 rfl
theorem dX12_stands_17 : decode cX12_stands 17 = .ok (.ifCond .eq 28, 3) := zDec_at zB_dX12_stands_0 9 rfl
theorem dX12_stands_20 : decode cX12_stands 20 = .ok (.iload_n 3, 1) := zDec_at zB_dX12_stands_0 10 rfl
theorem dX12_stands_21 : decode cX12_stands 21 = .ok (.invokestatic 127, 3) := zDec_at zB_dX12_stands_0 11 rfl
theorem dX12_stands_24 : decode cX12_stands 24 = .ok (.ifCond .eq 21, 3) := zDec_at zB_dX12_stands_0 12 rfl
theorem dX12_stands_27 : decode cX12_stands 27 = .ok (.aload_n 0, 1) := zDec_at zB_dX12_stands_0 13 rfl
theorem dX12_stands_28 : decode cX12_stands 28 = .ok (.iload_n 1, 1) := zDec_at zB_dX12_stands_0 14 rfl
theorem dX12_stands_29 : decode cX12_stands 29 = .ok (.iload_n 2, 1) := zDec_at zB_dX12_stands_0 15 rfl
theorem dX12_stands_30 : decode cX12_stands 30 = .ok (.iload_n 3, 1) := zDec_at zB_dX12_stands_0 16 rfl
theorem dX12_stands_31 : decode cX12_stands 31 = .ok (.invokevirtual 475, 3) := zDec_at zB_dX12_stands_0 17 rfl
theorem dX12_stands_34 : decode cX12_stands 34 = .ok (.ifCond .eq 7, 3) := zDec_at zB_dX12_stands_0 18 rfl
theorem dX12_stands_37 : decode cX12_stands 37 = .ok (.iconst 1, 1) := zDec_at zB_dX12_stands_0 19 rfl
theorem dX12_stands_38 : decode cX12_stands 38 = .ok (.goto 8, 3) := zDec_at zB_dX12_stands_0 20 rfl
theorem dX12_stands_41 : decode cX12_stands 41 = .ok (.iconst 0, 1) := zDec_at zB_dX12_stands_0 21 rfl
theorem dX12_stands_42 : decode cX12_stands 42 = .ok (.goto 4, 3) := zDec_at zB_dX12_stands_0 22 rfl
theorem dX12_stands_45 : decode cX12_stands 45 = .ok (.iconst (-1), 1) := zDec_at zB_dX12_stands_0 23 rfl
theorem dX12_stands_46 : decode cX12_stands 46 = .ok (.ireturn, 1) := zDec_at zB_dX12_stands_0 24 rfl
theorem zB_dX12_status_0 : zDecB cX12_status [(0, .aload_n 0, 1), (1, .iconst 0, 1), (2, .putfield 92, 3), (5, .aload_n 0, 1), (6, .getfield 95, 3), (9, .ireturn, 1)] = true := by decide +kernel
theorem dX12_status_0 : decode cX12_status 0 = .ok (.aload_n 0, 1) := zDec_at zB_dX12_status_0 0 rfl
theorem dX12_status_1 : decode cX12_status 1 = .ok (.iconst 0, 1) := zDec_at zB_dX12_status_0 1 rfl
theorem dX12_status_2 : decode cX12_status 2 = .ok (.putfield 92, 3) := zDec_at zB_dX12_status_0 2 rfl
theorem dX12_status_5 : decode cX12_status 5 = .ok (.aload_n 0, 1) := zDec_at zB_dX12_status_0 3 rfl
theorem dX12_status_6 : decode cX12_status 6 = .ok (.getfield 95, 3) := zDec_at zB_dX12_status_0 4 rfl
theorem dX12_status_9 : decode cX12_status 9 = .ok (.ireturn, 1) := zDec_at zB_dX12_status_0 5 rfl
theorem zB_dX12_take_0 : zDecB cX12_take [(0, .aload_n 0, 1), (1, .iconst 0, 1), (2, .putfield 92, 3), (5, .iload_n 2, 1), (6, .invokestatic 460, 3), (9, .ifCond .eq 10, 3), (12, .iload_n 3, 1), (13, .invokestatic 127, 3), (16, .ifCond .ne 9, 3), (19, .aload_n 0, 1), (20, .iconst (-1), 1), (21, .invokevirtual 106, 3), (24, .ireturn, 1), (25, .aload_n 0, 1), (26, .iload_n 1, 1), (27, .invokevirtual 138, 3), (30, .ifCond .ne 10, 3), (33, .aload_n 0, 1), (34, .bipush (-2), 2), (36, .invokevirtual 106, 3), (39, .ireturn, 1), (40, .iload_n 2, 1), (41, .ifCond .le 34, 3), (44, .aload_n 0, 1), (45, .iload_n 1, 1), (46, .iload_n 2, 1), (47, .iconst 1, 1), (48, .isub, 1), (49, .invokevirtual 469, 3), (52, .iconst (-1), 1), (53, .if_icmp .eq 15, 3), (56, .aload_n 0, 1), (57, .iload_n 1, 1), (58, .iload_n 2, 1), (59, .iconst 1, 1), (60, .isub, 1), (61, .invokevirtual 469, 3), (64, .iload_n 3, 1), (65, .if_icmp .le 10, 3), (68, .aload_n 0, 1)] = true := by decide +kernel
theorem dX12_take_0 : decode cX12_take 0 = .ok (.aload_n 0, 1) := zDec_at zB_dX12_take_0 0 rfl
theorem dX12_take_1 : decode cX12_take 1 = .ok (.iconst 0, 1) := zDec_at zB_dX12_take_0 1 rfl
theorem dX12_take_2 : decode cX12_take 2 = .ok (.putfield 92, 3) := zDec_at zB_dX12_take_0 2 rfl
theorem dX12_take_5 : decode cX12_take 5 = .ok (.iload_n 2, 1) := zDec_at zB_dX12_take_0 3 rfl
theorem dX12_take_6 : decode cX12_take 6 = .ok (.invokestatic 460, 3) := zDec_at zB_dX12_take_0 4 rfl
theorem dX12_take_9 : decode cX12_take 9 = .ok (.ifCond .eq 10, 3) := zDec_at zB_dX12_take_0 5 rfl
theorem dX12_take_12 : decode cX12_take 12 = .ok (.iload_n 3, 1) := zDec_at zB_dX12_take_0 6 rfl
theorem dX12_take_13 : decode cX12_take 13 = .ok (.invokestatic 127, 3) := zDec_at zB_dX12_take_0 7 rfl
theorem dX12_take_16 : decode cX12_take 16 = .ok (.ifCond .ne 9, 3) := zDec_at zB_dX12_take_0 8 rfl
theorem dX12_take_19 : decode cX12_take 19 = .ok (.aload_n 0, 1) := zDec_at zB_dX12_take_0 9 rfl
theorem dX12_take_20 : decode cX12_take 20 = .ok (.iconst (-1), 1) := zDec_at zB_dX12_take_0 10 rfl
theorem dX12_take_21 : decode cX12_take 21 = .ok (.invokevirtual 106, 3) := zDec_at zB_dX12_take_0 11 rfl
theorem dX12_take_24 : decode cX12_take 24 = .ok (.ireturn, 1) := zDec_at zB_dX12_take_0 12 rfl
theorem dX12_take_25 : decode cX12_take 25 = .ok (.aload_n 0, 1) := zDec_at zB_dX12_take_0 13 rfl
theorem dX12_take_26 : decode cX12_take 26 = .ok (.iload_n 1, 1) := zDec_at zB_dX12_take_0 14 rfl
theorem dX12_take_27 : decode cX12_take 27 = .ok (.invokevirtual 138, 3) := zDec_at zB_dX12_take_0 15 rfl
theorem dX12_take_30 : decode cX12_take 30 = .ok (.ifCond .ne 10, 3) := zDec_at zB_dX12_take_0 16 rfl
theorem dX12_take_33 : decode cX12_take 33 = .ok (.aload_n 0, 1) := zDec_at zB_dX12_take_0 17 rfl
theorem dX12_take_34 : decode cX12_take 34 = .ok (.bipush (-2), 2) := zDec_at zB_dX12_take_0 18 rfl
theorem dX12_take_36 : decode cX12_take 36 = .ok (.invokevirtual 106, 3) := zDec_at zB_dX12_take_0 19 rfl
theorem dX12_take_39 : decode cX12_take 39 = .ok (.ireturn, 1) := zDec_at zB_dX12_take_0 20 rfl
theorem dX12_take_40 : decode cX12_take 40 = .ok (.iload_n 2, 1) := zDec_at zB_dX12_take_0 21 rfl
theorem dX12_take_41 : decode cX12_take 41 = .ok (.ifCond .le 34, 3) := zDec_at zB_dX12_take_0 22 rfl
theorem dX12_take_44 : decode cX12_take 44 = .ok (.aload_n 0, 1) := zDec_at zB_dX12_take_0 23 rfl
theorem dX12_take_45 : decode cX12_take 45 = .ok (.iload_n 1, 1) := zDec_at zB_dX12_take_0 24 rfl
theorem dX12_take_46 : decode cX12_take 46 = .ok (.iload_n 2, 1) := zDec_at zB_dX12_take_0 25 rfl
theorem dX12_take_47 : decode cX12_take 47 = .ok (.iconst 1, 1) := zDec_at zB_dX12_take_0 26 rfl
theorem dX12_take_48 : decode cX12_take 48 = .ok (.isub, 1) := zDec_at zB_dX12_take_0 27 rfl
theorem dX12_take_49 : decode cX12_take 49 = .ok (.invokevirtual 469, 3) := zDec_at zB_dX12_take_0 28 rfl
theorem dX12_take_52 : decode cX12_take 52 = .ok (.iconst (-1), 1) := zDec_at zB_dX12_take_0 29 rfl
theorem dX12_take_53 : decode cX12_take 53 = .ok (.if_icmp .eq 15, 3) := zDec_at zB_dX12_take_0 30 rfl
theorem dX12_take_56 : decode cX12_take 56 = .ok (.aload_n 0, 1) := zDec_at zB_dX12_take_0 31 rfl
theorem dX12_take_57 : decode cX12_take 57 = .ok (.iload_n 1, 1) := zDec_at zB_dX12_take_0 32 rfl
theorem dX12_take_58 : decode cX12_take 58 = .ok (.iload_n 2, 1) := zDec_at zB_dX12_take_0 33 rfl
theorem dX12_take_59 : decode cX12_take 59 = .ok (.iconst 1, 1) := zDec_at zB_dX12_take_0 34 rfl
theorem dX12_take_60 : decode cX12_take 60 = .ok (.isub, 1) := zDec_at zB_dX12_take_0 35 rfl
theorem dX12_take_61 : decode cX12_take 61 = .ok (.invokevirtual 469, 3) := zDec_at zB_dX12_take_0 36 rfl
theorem dX12_take_64 : decode cX12_take 64 = .ok (.iload_n 3, 1) := zDec_at zB_dX12_take_0 37 rfl
theorem dX12_take_65 : decode cX12_take 65 = .ok (.if_icmp .le 10, 3) := zDec_at zB_dX12_take_0 38 rfl
theorem dX12_take_68 : decode cX12_take 68 = .ok (.aload_n 0, 1) := zDec_at zB_dX12_take_0 39 rfl
theorem zB_dX12_take_69 : zDecB cX12_take [(69, .bipush (-3), 2), (71, .invokevirtual 106, 3), (74, .ireturn, 1), (75, .aload_n 0, 1), (76, .iload_n 3, 1), (77, .invokevirtual 186, 3), (80, .aload_n 0, 1), (81, .iload_n 1, 1), (82, .invokevirtual 463, 3), (85, .aload_n 0, 1), (86, .iload_n 1, 1), (87, .iload_n 2, 1), (88, .aload_n 0, 1), (89, .iload_n 1, 1), (90, .iload_n 2, 1), (91, .invokevirtual 472, 3), (94, .invokevirtual 466, 3), (97, .iload_n 3, 1), (98, .if_icmp .le 10, 3), (101, .aload_n 0, 1), (102, .bipush (-3), 2), (104, .invokevirtual 106, 3), (107, .ireturn, 1), (108, .aload_n 0, 1), (109, .iload_n 1, 1), (110, .iload_n 2, 1), (111, .invokevirtual 469, 3), (114, .iconst (-1), 1), (115, .if_icmp .eq 10, 3), (118, .aload_n 0, 1), (119, .bipush (-4), 2), (121, .invokevirtual 106, 3), (124, .ireturn, 1), (125, .aload_n 0, 1), (126, .getfield 7, 3), (129, .iload_n 1, 1), (130, .invokestatic 120, 3), (133, .iconst 5, 1), (134, .iadd, 1), (135, .iload_n 2, 1)] = true := by decide +kernel
theorem dX12_take_69 : decode cX12_take 69 = .ok (.bipush (-3), 2) := zDec_at zB_dX12_take_69 0 rfl
theorem dX12_take_71 : decode cX12_take 71 = .ok (.invokevirtual 106, 3) := zDec_at zB_dX12_take_69 1 rfl
theorem dX12_take_74 : decode cX12_take 74 = .ok (.ireturn, 1) := zDec_at zB_dX12_take_69 2 rfl
theorem dX12_take_75 : decode cX12_take 75 = .ok (.aload_n 0, 1) := zDec_at zB_dX12_take_69 3 rfl
theorem dX12_take_76 : decode cX12_take 76 = .ok (.iload_n 3, 1) := zDec_at zB_dX12_take_69 4 rfl
theorem dX12_take_77 : decode cX12_take 77 = .ok (.invokevirtual 186, 3) := zDec_at zB_dX12_take_69 5 rfl
theorem dX12_take_80 : decode cX12_take 80 = .ok (.aload_n 0, 1) := zDec_at zB_dX12_take_69 6 rfl
theorem dX12_take_81 : decode cX12_take 81 = .ok (.iload_n 1, 1) := zDec_at zB_dX12_take_69 7 rfl
theorem dX12_take_82 : decode cX12_take 82 = .ok (.invokevirtual 463, 3) := zDec_at zB_dX12_take_69 8 rfl
theorem dX12_take_85 : decode cX12_take 85 = .ok (.aload_n 0, 1) := zDec_at zB_dX12_take_69 9 rfl
theorem dX12_take_86 : decode cX12_take 86 = .ok (.iload_n 1, 1) := zDec_at zB_dX12_take_69 10 rfl
theorem dX12_take_87 : decode cX12_take 87 = .ok (.iload_n 2, 1) := zDec_at zB_dX12_take_69 11 rfl
theorem dX12_take_88 : decode cX12_take 88 = .ok (.aload_n 0, 1) := zDec_at zB_dX12_take_69 12 rfl
theorem dX12_take_89 : decode cX12_take 89 = .ok (.iload_n 1, 1) := zDec_at zB_dX12_take_69 13 rfl
theorem dX12_take_90 : decode cX12_take 90 = .ok (.iload_n 2, 1) := zDec_at zB_dX12_take_69 14 rfl
theorem dX12_take_91 : decode cX12_take 91 = .ok (.invokevirtual 472, 3) := zDec_at zB_dX12_take_69 15 rfl
theorem dX12_take_94 : decode cX12_take 94 = .ok (.invokevirtual 466, 3) := zDec_at zB_dX12_take_69 16 rfl
theorem dX12_take_97 : decode cX12_take 97 = .ok (.iload_n 3, 1) := zDec_at zB_dX12_take_69 17 rfl
theorem dX12_take_98 : decode cX12_take 98 = .ok (.if_icmp .le 10, 3) := zDec_at zB_dX12_take_69 18 rfl
theorem dX12_take_101 : decode cX12_take 101 = .ok (.aload_n 0, 1) := zDec_at zB_dX12_take_69 19 rfl
theorem dX12_take_102 : decode cX12_take 102 = .ok (.bipush (-3), 2) := zDec_at zB_dX12_take_69 20 rfl
theorem dX12_take_104 : decode cX12_take 104 = .ok (.invokevirtual 106, 3) := zDec_at zB_dX12_take_69 21 rfl
theorem dX12_take_107 : decode cX12_take 107 = .ok (.ireturn, 1) := zDec_at zB_dX12_take_69 22 rfl
theorem dX12_take_108 : decode cX12_take 108 = .ok (.aload_n 0, 1) := zDec_at zB_dX12_take_69 23 rfl
theorem dX12_take_109 : decode cX12_take 109 = .ok (.iload_n 1, 1) := zDec_at zB_dX12_take_69 24 rfl
theorem dX12_take_110 : decode cX12_take 110 = .ok (.iload_n 2, 1) := zDec_at zB_dX12_take_69 25 rfl
theorem dX12_take_111 : decode cX12_take 111 = .ok (.invokevirtual 469, 3) := zDec_at zB_dX12_take_69 26 rfl
theorem dX12_take_114 : decode cX12_take 114 = .ok (.iconst (-1), 1) := zDec_at zB_dX12_take_69 27 rfl
theorem dX12_take_115 : decode cX12_take 115 = .ok (.if_icmp .eq 10, 3) := zDec_at zB_dX12_take_69 28 rfl
theorem dX12_take_118 : decode cX12_take 118 = .ok (.aload_n 0, 1) := zDec_at zB_dX12_take_69 29 rfl
theorem dX12_take_119 : decode cX12_take 119 = .ok (.bipush (-4), 2) := zDec_at zB_dX12_take_69 30 rfl
theorem dX12_take_121 : decode cX12_take 121 = .ok (.invokevirtual 106, 3) := zDec_at zB_dX12_take_69 31 rfl
theorem dX12_take_124 : decode cX12_take 124 = .ok (.ireturn, 1) := zDec_at zB_dX12_take_69 32 rfl
theorem dX12_take_125 : decode cX12_take 125 = .ok (.aload_n 0, 1) := zDec_at zB_dX12_take_69 33 rfl
theorem dX12_take_126 : decode cX12_take 126 = .ok (.getfield 7, 3) := zDec_at zB_dX12_take_69 34 rfl
theorem dX12_take_129 : decode cX12_take 129 = .ok (.iload_n 1, 1) := zDec_at zB_dX12_take_69 35 rfl
theorem dX12_take_130 : decode cX12_take 130 = .ok (.invokestatic 120, 3) := zDec_at zB_dX12_take_69 36 rfl
theorem dX12_take_133 : decode cX12_take 133 = .ok (.iconst 5, 1) := zDec_at zB_dX12_take_69 37 rfl
theorem dX12_take_134 : decode cX12_take 134 = .ok (.iadd, 1) := zDec_at zB_dX12_take_69 38 rfl
theorem dX12_take_135 : decode cX12_take 135 = .ok (.iload_n 2, 1) := zDec_at zB_dX12_take_69 39 rfl
theorem zB_dX12_take_136 : zDecB cX12_take [(136, .iadd, 1), (137, .iload_n 3, 1), (138, .iastore, 1), (139, .aload_n 0, 1), (140, .iconst 0, 1), (141, .invokevirtual 106, 3), (144, .ireturn, 1)] = true := by decide +kernel
theorem dX12_take_136 : decode cX12_take 136 = .ok (.iadd, 1) := zDec_at zB_dX12_take_136 0 rfl
theorem dX12_take_137 : decode cX12_take 137 = .ok (.iload_n 3, 1) := zDec_at zB_dX12_take_136 1 rfl
theorem dX12_take_138 : decode cX12_take 138 = .ok (.iastore, 1) := zDec_at zB_dX12_take_136 2 rfl
theorem dX12_take_139 : decode cX12_take 139 = .ok (.aload_n 0, 1) := zDec_at zB_dX12_take_136 3 rfl
theorem dX12_take_140 : decode cX12_take 140 = .ok (.iconst 0, 1) := zDec_at zB_dX12_take_136 4 rfl
theorem dX12_take_141 : decode cX12_take 141 = .ok (.invokevirtual 106, 3) := zDec_at zB_dX12_take_136 5 rfl
theorem dX12_take_144 : decode cX12_take 144 = .ok (.ireturn, 1) := zDec_at zB_dX12_take_136 6 rfl
theorem zB_dX12_takenOn_0 : zDecB cX12_takenOn [(0, .aload_n 0, 1), (1, .getfield 7, 3), (4, .iload_n 1, 1), (5, .invokestatic 120, 3), (8, .iconst 5, 1), (9, .iadd, 1), (10, .iload_n 2, 1), (11, .iadd, 1), (12, .iaload, 1), (13, .ireturn, 1)] = true := by decide +kernel
theorem dX12_takenOn_0 : decode cX12_takenOn 0 = .ok (.aload_n 0, 1) := zDec_at zB_dX12_takenOn_0 0 rfl
theorem dX12_takenOn_1 : decode cX12_takenOn 1 = .ok (.getfield 7, 3) := zDec_at zB_dX12_takenOn_0 1 rfl
theorem dX12_takenOn_4 : decode cX12_takenOn 4 = .ok (.iload_n 1, 1) := zDec_at zB_dX12_takenOn_0 2 rfl
theorem dX12_takenOn_5 : decode cX12_takenOn 5 = .ok (.invokestatic 120, 3) := zDec_at zB_dX12_takenOn_0 3 rfl
theorem dX12_takenOn_8 : decode cX12_takenOn 8 = .ok (.iconst 5, 1) := zDec_at zB_dX12_takenOn_0 4 rfl
theorem dX12_takenOn_9 : decode cX12_takenOn 9 = .ok (.iadd, 1) := zDec_at zB_dX12_takenOn_0 5 rfl
theorem dX12_takenOn_10 : decode cX12_takenOn 10 = .ok (.iload_n 2, 1) := zDec_at zB_dX12_takenOn_0 6 rfl
theorem dX12_takenOn_11 : decode cX12_takenOn 11 = .ok (.iadd, 1) := zDec_at zB_dX12_takenOn_0 7 rfl
theorem dX12_takenOn_12 : decode cX12_takenOn 12 = .ok (.iaload, 1) := zDec_at zB_dX12_takenOn_0 8 rfl
theorem dX12_takenOn_13 : decode cX12_takenOn 13 = .ok (.ireturn, 1) := zDec_at zB_dX12_takenOn_0 9 rfl
theorem zB_dX12_tellRate_0 : zDecB cX12_tellRate [(0, .aload_n 0, 1), (1, .getfield 440, 3), (4, .i2l, 1), (5, .aload_n 0, 1), (6, .getfield 443, 3), (9, .i2l, 1), (10, .invokestatic 446, 3), (13, .l2i, 1), (14, .istore_n 2, 1), (15, .iload_n 1, 1), (16, .ifCond .ne 10, 3), (19, .aload_n 0, 1), (20, .getfield 440, 3), (23, .goto 48, 3), (26, .iload_n 1, 1), (27, .iconst 1, 1), (28, .if_icmp .ne 10, 3), (31, .aload_n 0, 1), (32, .getfield 443, 3), (35, .goto 36, 3), (38, .aload_n 0, 1), (39, .getfield 440, 3), (42, .ifCond .ne 9, 3), (45, .iload_n 1, 1), (46, .iconst 2, 1), (47, .isub, 1), (48, .goto 23, 3), (51, .iload_n 1, 1), (52, .iconst 2, 1), (53, .if_icmp .ne 12, 3), (56, .aload_n 0, 1), (57, .getfield 443, 3), (60, .iload_n 2, 1), (61, .idiv, 1), (62, .goto 9, 3), (65, .aload_n 0, 1), (66, .getfield 440, 3), (69, .iload_n 2, 1), (70, .idiv, 1), (71, .ireturn, 1)] = true := by decide +kernel
theorem dX12_tellRate_0 : decode cX12_tellRate 0 = .ok (.aload_n 0, 1) := zDec_at zB_dX12_tellRate_0 0 rfl
theorem dX12_tellRate_1 : decode cX12_tellRate 1 = .ok (.getfield 440, 3) := zDec_at zB_dX12_tellRate_0 1 rfl
theorem dX12_tellRate_4 : decode cX12_tellRate 4 = .ok (.i2l, 1) := zDec_at zB_dX12_tellRate_0 2 rfl
theorem dX12_tellRate_5 : decode cX12_tellRate 5 = .ok (.aload_n 0, 1) := zDec_at zB_dX12_tellRate_0 3 rfl
theorem dX12_tellRate_6 : decode cX12_tellRate 6 = .ok (.getfield 443, 3) := zDec_at zB_dX12_tellRate_0 4 rfl
theorem dX12_tellRate_9 : decode cX12_tellRate 9 = .ok (.i2l, 1) := zDec_at zB_dX12_tellRate_0 5 rfl
theorem dX12_tellRate_10 : decode cX12_tellRate 10 = .ok (.invokestatic 446, 3) := zDec_at zB_dX12_tellRate_0 6 rfl
theorem dX12_tellRate_13 : decode cX12_tellRate 13 = .ok (.l2i, 1) := zDec_at zB_dX12_tellRate_0 7 rfl
theorem dX12_tellRate_14 : decode cX12_tellRate 14 = .ok (.istore_n 2, 1) := zDec_at zB_dX12_tellRate_0 8 rfl
theorem dX12_tellRate_15 : decode cX12_tellRate 15 = .ok (.iload_n 1, 1) := zDec_at zB_dX12_tellRate_0 9 rfl
theorem dX12_tellRate_16 : decode cX12_tellRate 16 = .ok (.ifCond .ne 10, 3) := zDec_at zB_dX12_tellRate_0 10 rfl
theorem dX12_tellRate_19 : decode cX12_tellRate 19 = .ok (.aload_n 0, 1) := zDec_at zB_dX12_tellRate_0 11 rfl
theorem dX12_tellRate_20 : decode cX12_tellRate 20 = .ok (.getfield 440, 3) := zDec_at zB_dX12_tellRate_0 12 rfl
theorem dX12_tellRate_23 : decode cX12_tellRate 23 = .ok (.goto 48, 3) := zDec_at zB_dX12_tellRate_0 13 rfl
theorem dX12_tellRate_26 : decode cX12_tellRate 26 = .ok (.iload_n 1, 1) := zDec_at zB_dX12_tellRate_0 14 rfl
theorem dX12_tellRate_27 : decode cX12_tellRate 27 = .ok (.iconst 1, 1) := zDec_at zB_dX12_tellRate_0 15 rfl
theorem dX12_tellRate_28 : decode cX12_tellRate 28 = .ok (.if_icmp .ne 10, 3) := zDec_at zB_dX12_tellRate_0 16 rfl
theorem dX12_tellRate_31 : decode cX12_tellRate 31 = .ok (.aload_n 0, 1) := zDec_at zB_dX12_tellRate_0 17 rfl
theorem dX12_tellRate_32 : decode cX12_tellRate 32 = .ok (.getfield 443, 3) := zDec_at zB_dX12_tellRate_0 18 rfl
theorem dX12_tellRate_35 : decode cX12_tellRate 35 = .ok (.goto 36, 3) := zDec_at zB_dX12_tellRate_0 19 rfl
theorem dX12_tellRate_38 : decode cX12_tellRate 38 = .ok (.aload_n 0, 1) := zDec_at zB_dX12_tellRate_0 20 rfl
theorem dX12_tellRate_39 : decode cX12_tellRate 39 = .ok (.getfield 440, 3) := zDec_at zB_dX12_tellRate_0 21 rfl
theorem dX12_tellRate_42 : decode cX12_tellRate 42 = .ok (.ifCond .ne 9, 3) := zDec_at zB_dX12_tellRate_0 22 rfl
theorem dX12_tellRate_45 : decode cX12_tellRate 45 = .ok (.iload_n 1, 1) := zDec_at zB_dX12_tellRate_0 23 rfl
theorem dX12_tellRate_46 : decode cX12_tellRate 46 = .ok (.iconst 2, 1) := zDec_at zB_dX12_tellRate_0 24 rfl
theorem dX12_tellRate_47 : decode cX12_tellRate 47 = .ok (.isub, 1) := zDec_at zB_dX12_tellRate_0 25 rfl
theorem dX12_tellRate_48 : decode cX12_tellRate 48 = .ok (.goto 23, 3) := zDec_at zB_dX12_tellRate_0 26 rfl
theorem dX12_tellRate_51 : decode cX12_tellRate 51 = .ok (.iload_n 1, 1) := zDec_at zB_dX12_tellRate_0 27 rfl
theorem dX12_tellRate_52 : decode cX12_tellRate 52 = .ok (.iconst 2, 1) := zDec_at zB_dX12_tellRate_0 28 rfl
theorem dX12_tellRate_53 : decode cX12_tellRate 53 = .ok (.if_icmp .ne 12, 3) := zDec_at zB_dX12_tellRate_0 29 rfl
theorem dX12_tellRate_56 : decode cX12_tellRate 56 = .ok (.aload_n 0, 1) := zDec_at zB_dX12_tellRate_0 30 rfl
theorem dX12_tellRate_57 : decode cX12_tellRate 57 = .ok (.getfield 443, 3) := zDec_at zB_dX12_tellRate_0 31 rfl
theorem dX12_tellRate_60 : decode cX12_tellRate 60 = .ok (.iload_n 2, 1) := zDec_at zB_dX12_tellRate_0 32 rfl
theorem dX12_tellRate_61 : decode cX12_tellRate 61 = .ok (.idiv, 1) := zDec_at zB_dX12_tellRate_0 33 rfl
theorem dX12_tellRate_62 : decode cX12_tellRate 62 = .ok (.goto 9, 3) := zDec_at zB_dX12_tellRate_0 34 rfl
theorem dX12_tellRate_65 : decode cX12_tellRate 65 = .ok (.aload_n 0, 1) := zDec_at zB_dX12_tellRate_0 35 rfl
theorem dX12_tellRate_66 : decode cX12_tellRate 66 = .ok (.getfield 440, 3) := zDec_at zB_dX12_tellRate_0 36 rfl
theorem dX12_tellRate_69 : decode cX12_tellRate 69 = .ok (.iload_n 2, 1) := zDec_at zB_dX12_tellRate_0 37 rfl
theorem dX12_tellRate_70 : decode cX12_tellRate 70 = .ok (.idiv, 1) := zDec_at zB_dX12_tellRate_0 38 rfl
theorem dX12_tellRate_71 : decode cX12_tellRate 71 = .ok (.ireturn, 1) := zDec_at zB_dX12_tellRate_0 39 rfl
theorem zB_dX12_tells_0 : zDecB cX12_tells [(0, .aload_n 0, 1), (1, .iconst 0, 1), (2, .putfield 92, 3), (5, .aload_n 0, 1), (6, .iload_n 1, 1), (7, .invokevirtual 131, 3), (10, .ifCond .eq 39, 3), (13, .aload_n 0, 1), (14, .iload_n 2, 1), (15, .invokevirtual 138, 3), (18, .ifCond .eq 31, 3), (21, .iload_n 3, 1), (22, .invokestatic 145, 3), (25, .ifCond .eq 24, 3), (28, .iload 4, 2), (30, .invokestatic 127, 3), (33, .ifCond .eq 16, 3), (36, .iload 5, 2), (38, .i2l, 1), (39, .lconst 0, 1), (40, .ldc2_w 184, 3), (43, .invokestatic 100, 3), (46, .ifCond .ne 5, 3), (49, .iconst (-1), 1), (50, .ireturn, 1), (51, .aload_n 0, 1), (52, .iload 4, 2), (54, .invokevirtual 186, 3), (57, .aload_n 0, 1), (58, .iload_n 1, 1), (59, .iload_n 2, 1), (60, .iload_n 3, 1), (61, .invokevirtual 189, 3), (64, .istore 6, 2), (66, .iload 6, 2), (68, .iconst (-1), 1), (69, .if_icmp .ne 5, 3), (72, .iconst (-1), 1), (73, .ireturn, 1), (74, .iload 5, 2)] = true := by decide +kernel
theorem dX12_tells_0 : decode cX12_tells 0 = .ok (.aload_n 0, 1) := zDec_at zB_dX12_tells_0 0 rfl
theorem dX12_tells_1 : decode cX12_tells 1 = .ok (.iconst 0, 1) := zDec_at zB_dX12_tells_0 1 rfl
theorem dX12_tells_2 : decode cX12_tells 2 = .ok (.putfield 92, 3) := zDec_at zB_dX12_tells_0 2 rfl
theorem dX12_tells_5 : decode cX12_tells 5 = .ok (.aload_n 0, 1) := zDec_at zB_dX12_tells_0 3 rfl
theorem dX12_tells_6 : decode cX12_tells 6 = .ok (.iload_n 1, 1) := zDec_at zB_dX12_tells_0 4 rfl
theorem dX12_tells_7 : decode cX12_tells 7 = .ok (.invokevirtual 131, 3) := zDec_at zB_dX12_tells_0 5 rfl
theorem dX12_tells_10 : decode cX12_tells 10 = .ok (.ifCond .eq 39, 3) := zDec_at zB_dX12_tells_0 6 rfl
theorem dX12_tells_13 : decode cX12_tells 13 = .ok (.aload_n 0, 1) := zDec_at zB_dX12_tells_0 7 rfl
theorem dX12_tells_14 : decode cX12_tells 14 = .ok (.iload_n 2, 1) := zDec_at zB_dX12_tells_0 8 rfl
theorem dX12_tells_15 : decode cX12_tells 15 = .ok (.invokevirtual 138, 3) := zDec_at zB_dX12_tells_0 9 rfl
theorem dX12_tells_18 : decode cX12_tells 18 = .ok (.ifCond .eq 31, 3) := zDec_at zB_dX12_tells_0 10 rfl
theorem dX12_tells_21 : decode cX12_tells 21 = .ok (.iload_n 3, 1) := zDec_at zB_dX12_tells_0 11 rfl
theorem dX12_tells_22 : decode cX12_tells 22 = .ok (.invokestatic 145, 3) := zDec_at zB_dX12_tells_0 12 rfl
theorem dX12_tells_25 : decode cX12_tells 25 = .ok (.ifCond .eq 24, 3) := zDec_at zB_dX12_tells_0 13 rfl
theorem dX12_tells_28 : decode cX12_tells 28 = .ok (.iload 4, 2) := zDec_at zB_dX12_tells_0 14 rfl
theorem dX12_tells_30 : decode cX12_tells 30 = .ok (.invokestatic 127, 3) := zDec_at zB_dX12_tells_0 15 rfl
theorem dX12_tells_33 : decode cX12_tells 33 = .ok (.ifCond .eq 16, 3) := zDec_at zB_dX12_tells_0 16 rfl
theorem dX12_tells_36 : decode cX12_tells 36 = .ok (.iload 5, 2) := zDec_at zB_dX12_tells_0 17 rfl
theorem dX12_tells_38 : decode cX12_tells 38 = .ok (.i2l, 1) := zDec_at zB_dX12_tells_0 18 rfl
theorem dX12_tells_39 : decode cX12_tells 39 = .ok (.lconst 0, 1) := zDec_at zB_dX12_tells_0 19 rfl
theorem dX12_tells_40 : decode cX12_tells 40 = .ok (.ldc2_w 184, 3) := zDec_at zB_dX12_tells_0 20 rfl
theorem dX12_tells_43 : decode cX12_tells 43 = .ok (.invokestatic 100, 3) := zDec_at zB_dX12_tells_0 21 rfl
theorem dX12_tells_46 : decode cX12_tells 46 = .ok (.ifCond .ne 5, 3) := zDec_at zB_dX12_tells_0 22 rfl
theorem dX12_tells_49 : decode cX12_tells 49 = .ok (.iconst (-1), 1) := zDec_at zB_dX12_tells_0 23 rfl
theorem dX12_tells_50 : decode cX12_tells 50 = .ok (.ireturn, 1) := zDec_at zB_dX12_tells_0 24 rfl
theorem dX12_tells_51 : decode cX12_tells 51 = .ok (.aload_n 0, 1) := zDec_at zB_dX12_tells_0 25 rfl
theorem dX12_tells_52 : decode cX12_tells 52 = .ok (.iload 4, 2) := zDec_at zB_dX12_tells_0 26 rfl
theorem dX12_tells_54 : decode cX12_tells 54 = .ok (.invokevirtual 186, 3) := zDec_at zB_dX12_tells_0 27 rfl
theorem dX12_tells_57 : decode cX12_tells 57 = .ok (.aload_n 0, 1) := zDec_at zB_dX12_tells_0 28 rfl
theorem dX12_tells_58 : decode cX12_tells 58 = .ok (.iload_n 1, 1) := zDec_at zB_dX12_tells_0 29 rfl
theorem dX12_tells_59 : decode cX12_tells 59 = .ok (.iload_n 2, 1) := zDec_at zB_dX12_tells_0 30 rfl
theorem dX12_tells_60 : decode cX12_tells 60 = .ok (.iload_n 3, 1) := zDec_at zB_dX12_tells_0 31 rfl
theorem dX12_tells_61 : decode cX12_tells 61 = .ok (.invokevirtual 189, 3) := zDec_at zB_dX12_tells_0 32 rfl
theorem dX12_tells_64 : decode cX12_tells 64 = .ok (.istore 6, 2) := zDec_at zB_dX12_tells_0 33 rfl
theorem dX12_tells_66 : decode cX12_tells 66 = .ok (.iload 6, 2) := zDec_at zB_dX12_tells_0 34 rfl
theorem dX12_tells_68 : decode cX12_tells 68 = .ok (.iconst (-1), 1) := zDec_at zB_dX12_tells_0 35 rfl
theorem dX12_tells_69 : decode cX12_tells 69 = .ok (.if_icmp .ne 5, 3) := zDec_at zB_dX12_tells_0 36 rfl
theorem dX12_tells_72 : decode cX12_tells 72 = .ok (.iconst (-1), 1) := zDec_at zB_dX12_tells_0 37 rfl
theorem dX12_tells_73 : decode cX12_tells 73 = .ok (.ireturn, 1) := zDec_at zB_dX12_tells_0 38 rfl
theorem dX12_tells_74 : decode cX12_tells 74 = .ok (.iload 5, 2) := zDec_at zB_dX12_tells_0 39 rfl
theorem zB_dX12_tells_76 : zDecB cX12_tells [(76, .ifCond .ne 8, 3), (79, .iload 6, 2), (81, .goto 66, 3), (84, .iload 5, 2), (86, .iconst 1, 1), (87, .if_icmp .ne 13, 3), (90, .aload_n 0, 1), (91, .getfield 24, 3), (94, .iload 6, 2), (96, .iaload, 1), (97, .goto 50, 3), (100, .iload 5, 2), (102, .iconst 2, 1), (103, .if_icmp .ne 21, 3), (106, .aload_n 0, 1), (107, .getfield 7, 3), (110, .iload 6, 2), (112, .invokestatic 155, 3), (115, .iconst 3, 1), (116, .iadd, 1), (117, .iaload, 1), (118, .bipush 26, 2), (120, .idiv, 1), (121, .goto 26, 3), (124, .iload 5, 2), (126, .iconst 3, 1), (127, .if_icmp .ne 13, 3), (130, .aload_n 0, 1), (131, .getfield 27, 3), (134, .iload 6, 2), (136, .iaload, 1), (137, .goto 10, 3), (140, .aload_n 0, 1), (141, .getfield 30, 3), (144, .iload 6, 2), (146, .iaload, 1), (147, .ireturn, 1)] = true := by decide +kernel
theorem dX12_tells_76 : decode cX12_tells 76 = .ok (.ifCond .ne 8, 3) := zDec_at zB_dX12_tells_76 0 rfl
theorem dX12_tells_79 : decode cX12_tells 79 = .ok (.iload 6, 2) := zDec_at zB_dX12_tells_76 1 rfl
theorem dX12_tells_81 : decode cX12_tells 81 = .ok (.goto 66, 3) := zDec_at zB_dX12_tells_76 2 rfl
theorem dX12_tells_84 : decode cX12_tells 84 = .ok (.iload 5, 2) := zDec_at zB_dX12_tells_76 3 rfl
theorem dX12_tells_86 : decode cX12_tells 86 = .ok (.iconst 1, 1) := zDec_at zB_dX12_tells_76 4 rfl
theorem dX12_tells_87 : decode cX12_tells 87 = .ok (.if_icmp .ne 13, 3) := zDec_at zB_dX12_tells_76 5 rfl
theorem dX12_tells_90 : decode cX12_tells 90 = .ok (.aload_n 0, 1) := zDec_at zB_dX12_tells_76 6 rfl
theorem dX12_tells_91 : decode cX12_tells 91 = .ok (.getfield 24, 3) := zDec_at zB_dX12_tells_76 7 rfl
theorem dX12_tells_94 : decode cX12_tells 94 = .ok (.iload 6, 2) := zDec_at zB_dX12_tells_76 8 rfl
theorem dX12_tells_96 : decode cX12_tells 96 = .ok (.iaload, 1) := zDec_at zB_dX12_tells_76 9 rfl
theorem dX12_tells_97 : decode cX12_tells 97 = .ok (.goto 50, 3) := zDec_at zB_dX12_tells_76 10 rfl
theorem dX12_tells_100 : decode cX12_tells 100 = .ok (.iload 5, 2) := zDec_at zB_dX12_tells_76 11 rfl
theorem dX12_tells_102 : decode cX12_tells 102 = .ok (.iconst 2, 1) := zDec_at zB_dX12_tells_76 12 rfl
theorem dX12_tells_103 : decode cX12_tells 103 = .ok (.if_icmp .ne 21, 3) := zDec_at zB_dX12_tells_76 13 rfl
theorem dX12_tells_106 : decode cX12_tells 106 = .ok (.aload_n 0, 1) := zDec_at zB_dX12_tells_76 14 rfl
theorem dX12_tells_107 : decode cX12_tells 107 = .ok (.getfield 7, 3) := zDec_at zB_dX12_tells_76 15 rfl
theorem dX12_tells_110 : decode cX12_tells 110 = .ok (.iload 6, 2) := zDec_at zB_dX12_tells_76 16 rfl
theorem dX12_tells_112 : decode cX12_tells 112 = .ok (.invokestatic 155, 3) := zDec_at zB_dX12_tells_76 17 rfl
theorem dX12_tells_115 : decode cX12_tells 115 = .ok (.iconst 3, 1) := zDec_at zB_dX12_tells_76 18 rfl
theorem dX12_tells_116 : decode cX12_tells 116 = .ok (.iadd, 1) := zDec_at zB_dX12_tells_76 19 rfl
theorem dX12_tells_117 : decode cX12_tells 117 = .ok (.iaload, 1) := zDec_at zB_dX12_tells_76 20 rfl
theorem dX12_tells_118 : decode cX12_tells 118 = .ok (.bipush 26, 2) := zDec_at zB_dX12_tells_76 21 rfl
theorem dX12_tells_120 : decode cX12_tells 120 = .ok (.idiv, 1) := zDec_at zB_dX12_tells_76 22 rfl
theorem dX12_tells_121 : decode cX12_tells 121 = .ok (.goto 26, 3) := zDec_at zB_dX12_tells_76 23 rfl
theorem dX12_tells_124 : decode cX12_tells 124 = .ok (.iload 5, 2) := zDec_at zB_dX12_tells_76 24 rfl
theorem dX12_tells_126 : decode cX12_tells 126 = .ok (.iconst 3, 1) := zDec_at zB_dX12_tells_76 25 rfl
theorem dX12_tells_127 : decode cX12_tells 127 = .ok (.if_icmp .ne 13, 3) := zDec_at zB_dX12_tells_76 26 rfl
theorem dX12_tells_130 : decode cX12_tells 130 = .ok (.aload_n 0, 1) := zDec_at zB_dX12_tells_76 27 rfl
theorem dX12_tells_131 : decode cX12_tells 131 = .ok (.getfield 27, 3) := zDec_at zB_dX12_tells_76 28 rfl
theorem dX12_tells_134 : decode cX12_tells 134 = .ok (.iload 6, 2) := zDec_at zB_dX12_tells_76 29 rfl
theorem dX12_tells_136 : decode cX12_tells 136 = .ok (.iaload, 1) := zDec_at zB_dX12_tells_76 30 rfl
theorem dX12_tells_137 : decode cX12_tells 137 = .ok (.goto 10, 3) := zDec_at zB_dX12_tells_76 31 rfl
theorem dX12_tells_140 : decode cX12_tells 140 = .ok (.aload_n 0, 1) := zDec_at zB_dX12_tells_76 32 rfl
theorem dX12_tells_141 : decode cX12_tells 141 = .ok (.getfield 30, 3) := zDec_at zB_dX12_tells_76 33 rfl
theorem dX12_tells_144 : decode cX12_tells 144 = .ok (.iload 6, 2) := zDec_at zB_dX12_tells_76 34 rfl
theorem dX12_tells_146 : decode cX12_tells 146 = .ok (.iaload, 1) := zDec_at zB_dX12_tells_76 35 rfl
theorem dX12_tells_147 : decode cX12_tells 147 = .ok (.ireturn, 1) := zDec_at zB_dX12_tells_76 36 rfl
theorem zB_dX12_textAt_0 : zDecB cX12_textAt [(0, .sipush 8661, 3), (3, .sipush 922, 3), (6, .iload_n 0, 1), (7, .imul, 1), (8, .iadd, 1), (9, .ireturn, 1)] = true := by decide +kernel
theorem dX12_textAt_0 : decode cX12_textAt 0 = .ok (.sipush 8661, 3) := zDec_at zB_dX12_textAt_0 0 rfl
theorem dX12_textAt_3 : decode cX12_textAt 3 = .ok (.sipush 922, 3) := zDec_at zB_dX12_textAt_0 1 rfl
theorem dX12_textAt_6 : decode cX12_textAt 6 = .ok (.iload_n 0, 1) := zDec_at zB_dX12_textAt_0 2 rfl
theorem dX12_textAt_7 : decode cX12_textAt 7 = .ok (.imul, 1) := zDec_at zB_dX12_textAt_0 3 rfl
theorem dX12_textAt_8 : decode cX12_textAt 8 = .ok (.iadd, 1) := zDec_at zB_dX12_textAt_0 4 rfl
theorem dX12_textAt_9 : decode cX12_textAt 9 = .ok (.ireturn, 1) := zDec_at zB_dX12_textAt_0 5 rfl
theorem zB_dX12_told_0 : zDecB cX12_told [(0, .aload_n 0, 1), (1, .iload_n 1, 1), (2, .ifCond .ge 7, 3), (5, .iload_n 1, 1), (6, .goto 4, 3), (9, .iconst 0, 1), (10, .putfield 95, 3), (13, .iload_n 1, 1), (14, .ireturn, 1)] = true := by decide +kernel
theorem dX12_told_0 : decode cX12_told 0 = .ok (.aload_n 0, 1) := zDec_at zB_dX12_told_0 0 rfl
theorem dX12_told_1 : decode cX12_told 1 = .ok (.iload_n 1, 1) := zDec_at zB_dX12_told_0 1 rfl
theorem dX12_told_2 : decode cX12_told 2 = .ok (.ifCond .ge 7, 3) := zDec_at zB_dX12_told_0 2 rfl
theorem dX12_told_5 : decode cX12_told 5 = .ok (.iload_n 1, 1) := zDec_at zB_dX12_told_0 3 rfl
theorem dX12_told_6 : decode cX12_told 6 = .ok (.goto 4, 3) := zDec_at zB_dX12_told_0 4 rfl
theorem dX12_told_9 : decode cX12_told 9 = .ok (.iconst 0, 1) := zDec_at zB_dX12_told_0 5 rfl
theorem dX12_told_10 : decode cX12_told 10 = .ok (.putfield 95, 3) := zDec_at zB_dX12_told_0 6 rfl
theorem dX12_told_13 : decode cX12_told 13 = .ok (.iload_n 1, 1) := zDec_at zB_dX12_told_0 7 rfl
theorem dX12_told_14 : decode cX12_told 14 = .ok (.ireturn, 1) := zDec_at zB_dX12_told_0 8 rfl
theorem zB_dX12_visit_0 : zDecB cX12_visit [(0, .aload_n 0, 1), (1, .iconst 0, 1), (2, .putfield 92, 3), (5, .iload_n 2, 1), (6, .i2l, 1), (7, .lconst 1, 1), (8, .ldc2_w 524, 3), (11, .invokestatic 100, 3), (14, .ifCond .eq 15, 3), (17, .iload_n 3, 1), (18, .i2l, 1), (19, .lconst 1, 1), (20, .ldc2_w 526, 3), (23, .invokestatic 100, 3), (26, .ifCond .ne 9, 3), (29, .aload_n 0, 1), (30, .iconst (-1), 1), (31, .invokevirtual 106, 3), (34, .ireturn, 1), (35, .aload_n 0, 1), (36, .iload_n 1, 1), (37, .invokevirtual 138, 3), (40, .ifCond .ne 10, 3), (43, .aload_n 0, 1), (44, .bipush (-2), 2), (46, .invokevirtual 106, 3), (49, .ireturn, 1), (50, .aload_n 0, 1), (51, .getfield 7, 3), (54, .bipush 7, 2), (56, .iaload, 1), (57, .bipush 9, 2), (59, .if_icmp .ne 10, 3), (62, .aload_n 0, 1), (63, .bipush (-5), 2), (65, .invokevirtual 106, 3), (68, .ireturn, 1), (69, .sipush 6998, 3), (72, .iconst 3, 1), (73, .aload_n 0, 1)] = true := by decide +kernel
theorem dX12_visit_0 : decode cX12_visit 0 = .ok (.aload_n 0, 1) := zDec_at zB_dX12_visit_0 0 rfl
theorem dX12_visit_1 : decode cX12_visit 1 = .ok (.iconst 0, 1) := zDec_at zB_dX12_visit_0 1 rfl
theorem dX12_visit_2 : decode cX12_visit 2 = .ok (.putfield 92, 3) := zDec_at zB_dX12_visit_0 2 rfl
theorem dX12_visit_5 : decode cX12_visit 5 = .ok (.iload_n 2, 1) := zDec_at zB_dX12_visit_0 3 rfl
theorem dX12_visit_6 : decode cX12_visit 6 = .ok (.i2l, 1) := zDec_at zB_dX12_visit_0 4 rfl
theorem dX12_visit_7 : decode cX12_visit 7 = .ok (.lconst 1, 1) := zDec_at zB_dX12_visit_0 5 rfl
theorem dX12_visit_8 : decode cX12_visit 8 = .ok (.ldc2_w 524, 3) := zDec_at zB_dX12_visit_0 6 rfl
theorem dX12_visit_11 : decode cX12_visit 11 = .ok (.invokestatic 100, 3) := zDec_at zB_dX12_visit_0 7 rfl
theorem dX12_visit_14 : decode cX12_visit 14 = .ok (.ifCond .eq 15, 3) := zDec_at zB_dX12_visit_0 8 rfl
theorem dX12_visit_17 : decode cX12_visit 17 = .ok (.iload_n 3, 1) := zDec_at zB_dX12_visit_0 9 rfl
theorem dX12_visit_18 : decode cX12_visit 18 = .ok (.i2l, 1) := zDec_at zB_dX12_visit_0 10 rfl
theorem dX12_visit_19 : decode cX12_visit 19 = .ok (.lconst 1, 1) := zDec_at zB_dX12_visit_0 11 rfl
theorem dX12_visit_20 : decode cX12_visit 20 = .ok (.ldc2_w 526, 3) := zDec_at zB_dX12_visit_0 12 rfl
theorem dX12_visit_23 : decode cX12_visit 23 = .ok (.invokestatic 100, 3) := zDec_at zB_dX12_visit_0 13 rfl
theorem dX12_visit_26 : decode cX12_visit 26 = .ok (.ifCond .ne 9, 3) := zDec_at zB_dX12_visit_0 14 rfl
theorem dX12_visit_29 : decode cX12_visit 29 = .ok (.aload_n 0, 1) := zDec_at zB_dX12_visit_0 15 rfl
theorem dX12_visit_30 : decode cX12_visit 30 = .ok (.iconst (-1), 1) := zDec_at zB_dX12_visit_0 16 rfl
theorem dX12_visit_31 : decode cX12_visit 31 = .ok (.invokevirtual 106, 3) := zDec_at zB_dX12_visit_0 17 rfl
theorem dX12_visit_34 : decode cX12_visit 34 = .ok (.ireturn, 1) := zDec_at zB_dX12_visit_0 18 rfl
theorem dX12_visit_35 : decode cX12_visit 35 = .ok (.aload_n 0, 1) := zDec_at zB_dX12_visit_0 19 rfl
theorem dX12_visit_36 : decode cX12_visit 36 = .ok (.iload_n 1, 1) := zDec_at zB_dX12_visit_0 20 rfl
theorem dX12_visit_37 : decode cX12_visit 37 = .ok (.invokevirtual 138, 3) := zDec_at zB_dX12_visit_0 21 rfl
theorem dX12_visit_40 : decode cX12_visit 40 = .ok (.ifCond .ne 10, 3) := zDec_at zB_dX12_visit_0 22 rfl
theorem dX12_visit_43 : decode cX12_visit 43 = .ok (.aload_n 0, 1) := zDec_at zB_dX12_visit_0 23 rfl
theorem dX12_visit_44 : decode cX12_visit 44 = .ok (.bipush (-2), 2) := zDec_at zB_dX12_visit_0 24 rfl
theorem dX12_visit_46 : decode cX12_visit 46 = .ok (.invokevirtual 106, 3) := zDec_at zB_dX12_visit_0 25 rfl
theorem dX12_visit_49 : decode cX12_visit 49 = .ok (.ireturn, 1) := zDec_at zB_dX12_visit_0 26 rfl
theorem dX12_visit_50 : decode cX12_visit 50 = .ok (.aload_n 0, 1) := zDec_at zB_dX12_visit_0 27 rfl
theorem dX12_visit_51 : decode cX12_visit 51 = .ok (.getfield 7, 3) := zDec_at zB_dX12_visit_0 28 rfl
theorem dX12_visit_54 : decode cX12_visit 54 = .ok (.bipush 7, 2) := zDec_at zB_dX12_visit_0 29 rfl
theorem dX12_visit_56 : decode cX12_visit 56 = .ok (.iaload, 1) := zDec_at zB_dX12_visit_0 30 rfl
theorem dX12_visit_57 : decode cX12_visit 57 = .ok (.bipush 9, 2) := zDec_at zB_dX12_visit_0 31 rfl
theorem dX12_visit_59 : decode cX12_visit 59 = .ok (.if_icmp .ne 10, 3) := zDec_at zB_dX12_visit_0 32 rfl
theorem dX12_visit_62 : decode cX12_visit 62 = .ok (.aload_n 0, 1) := zDec_at zB_dX12_visit_0 33 rfl
theorem dX12_visit_63 : decode cX12_visit 63 = .ok (.bipush (-5), 2) := zDec_at zB_dX12_visit_0 34 rfl
theorem dX12_visit_65 : decode cX12_visit 65 = .ok (.invokevirtual 106, 3) := zDec_at zB_dX12_visit_0 35 rfl
theorem dX12_visit_68 : decode cX12_visit 68 = .ok (.ireturn, 1) := zDec_at zB_dX12_visit_0 36 rfl
theorem dX12_visit_69 : decode cX12_visit 69 = .ok (.sipush 6998, 3) := zDec_at zB_dX12_visit_0 37 rfl
theorem dX12_visit_72 : decode cX12_visit 72 = .ok (.iconst 3, 1) := zDec_at zB_dX12_visit_0 38 rfl
theorem dX12_visit_73 : decode cX12_visit 73 = .ok (.aload_n 0, 1) := zDec_at zB_dX12_visit_0 39 rfl
theorem zB_dX12_visit_74 : zDecB cX12_visit [(74, .getfield 7, 3), (77, .bipush 7, 2), (79, .iaload, 1), (80, .imul, 1), (81, .iadd, 1), (82, .istore 4, 2), (84, .aload_n 0, 1), (85, .getfield 7, 3), (88, .iload 4, 2), (90, .iload_n 1, 1), (91, .iastore, 1), (92, .aload_n 0, 1), (93, .getfield 7, 3), (96, .iload 4, 2), (98, .iconst 1, 1), (99, .iadd, 1), (100, .iload_n 2, 1), (101, .iastore, 1), (102, .aload_n 0, 1), (103, .getfield 7, 3), (106, .iload 4, 2), (108, .iconst 2, 1), (109, .iadd, 1), (110, .iload_n 3, 1), (111, .iastore, 1), (112, .aload_n 0, 1), (113, .getfield 7, 3), (116, .bipush 7, 2), (118, .dup2, 1), (119, .iaload, 1), (120, .iconst 1, 1), (121, .iadd, 1), (122, .iastore, 1), (123, .aload_n 0, 1), (124, .aload_n 0, 1), (125, .getfield 7, 3), (128, .bipush 7, 2), (130, .iaload, 1), (131, .invokevirtual 106, 3), (134, .ireturn, 1)] = true := by decide +kernel
theorem dX12_visit_74 : decode cX12_visit 74 = .ok (.getfield 7, 3) := zDec_at zB_dX12_visit_74 0 rfl
theorem dX12_visit_77 : decode cX12_visit 77 = .ok (.bipush 7, 2) := zDec_at zB_dX12_visit_74 1 rfl
theorem dX12_visit_79 : decode cX12_visit 79 = .ok (.iaload, 1) := zDec_at zB_dX12_visit_74 2 rfl
theorem dX12_visit_80 : decode cX12_visit 80 = .ok (.imul, 1) := zDec_at zB_dX12_visit_74 3 rfl
theorem dX12_visit_81 : decode cX12_visit 81 = .ok (.iadd, 1) := zDec_at zB_dX12_visit_74 4 rfl
theorem dX12_visit_82 : decode cX12_visit 82 = .ok (.istore 4, 2) := zDec_at zB_dX12_visit_74 5 rfl
theorem dX12_visit_84 : decode cX12_visit 84 = .ok (.aload_n 0, 1) := zDec_at zB_dX12_visit_74 6 rfl
theorem dX12_visit_85 : decode cX12_visit 85 = .ok (.getfield 7, 3) := zDec_at zB_dX12_visit_74 7 rfl
theorem dX12_visit_88 : decode cX12_visit 88 = .ok (.iload 4, 2) := zDec_at zB_dX12_visit_74 8 rfl
theorem dX12_visit_90 : decode cX12_visit 90 = .ok (.iload_n 1, 1) := zDec_at zB_dX12_visit_74 9 rfl
theorem dX12_visit_91 : decode cX12_visit 91 = .ok (.iastore, 1) := zDec_at zB_dX12_visit_74 10 rfl
theorem dX12_visit_92 : decode cX12_visit 92 = .ok (.aload_n 0, 1) := zDec_at zB_dX12_visit_74 11 rfl
theorem dX12_visit_93 : decode cX12_visit 93 = .ok (.getfield 7, 3) := zDec_at zB_dX12_visit_74 12 rfl
theorem dX12_visit_96 : decode cX12_visit 96 = .ok (.iload 4, 2) := zDec_at zB_dX12_visit_74 13 rfl
theorem dX12_visit_98 : decode cX12_visit 98 = .ok (.iconst 1, 1) := zDec_at zB_dX12_visit_74 14 rfl
theorem dX12_visit_99 : decode cX12_visit 99 = .ok (.iadd, 1) := zDec_at zB_dX12_visit_74 15 rfl
theorem dX12_visit_100 : decode cX12_visit 100 = .ok (.iload_n 2, 1) := zDec_at zB_dX12_visit_74 16 rfl
theorem dX12_visit_101 : decode cX12_visit 101 = .ok (.iastore, 1) := zDec_at zB_dX12_visit_74 17 rfl
theorem dX12_visit_102 : decode cX12_visit 102 = .ok (.aload_n 0, 1) := zDec_at zB_dX12_visit_74 18 rfl
theorem dX12_visit_103 : decode cX12_visit 103 = .ok (.getfield 7, 3) := zDec_at zB_dX12_visit_74 19 rfl
theorem dX12_visit_106 : decode cX12_visit 106 = .ok (.iload 4, 2) := zDec_at zB_dX12_visit_74 20 rfl
theorem dX12_visit_108 : decode cX12_visit 108 = .ok (.iconst 2, 1) := zDec_at zB_dX12_visit_74 21 rfl
theorem dX12_visit_109 : decode cX12_visit 109 = .ok (.iadd, 1) := zDec_at zB_dX12_visit_74 22 rfl
theorem dX12_visit_110 : decode cX12_visit 110 = .ok (.iload_n 3, 1) := zDec_at zB_dX12_visit_74 23 rfl
theorem dX12_visit_111 : decode cX12_visit 111 = .ok (.iastore, 1) := zDec_at zB_dX12_visit_74 24 rfl
theorem dX12_visit_112 : decode cX12_visit 112 = .ok (.aload_n 0, 1) := zDec_at zB_dX12_visit_74 25 rfl
theorem dX12_visit_113 : decode cX12_visit 113 = .ok (.getfield 7, 3) := zDec_at zB_dX12_visit_74 26 rfl
theorem dX12_visit_116 : decode cX12_visit 116 = .ok (.bipush 7, 2) := zDec_at zB_dX12_visit_74 27 rfl
theorem dX12_visit_118 : decode cX12_visit 118 = .ok (.dup2, 1) := zDec_at zB_dX12_visit_74 28 rfl
theorem dX12_visit_119 : decode cX12_visit 119 = .ok (.iaload, 1) := zDec_at zB_dX12_visit_74 29 rfl
theorem dX12_visit_120 : decode cX12_visit 120 = .ok (.iconst 1, 1) := zDec_at zB_dX12_visit_74 30 rfl
theorem dX12_visit_121 : decode cX12_visit 121 = .ok (.iadd, 1) := zDec_at zB_dX12_visit_74 31 rfl
theorem dX12_visit_122 : decode cX12_visit 122 = .ok (.iastore, 1) := zDec_at zB_dX12_visit_74 32 rfl
theorem dX12_visit_123 : decode cX12_visit 123 = .ok (.aload_n 0, 1) := zDec_at zB_dX12_visit_74 33 rfl
theorem dX12_visit_124 : decode cX12_visit 124 = .ok (.aload_n 0, 1) := zDec_at zB_dX12_visit_74 34 rfl
theorem dX12_visit_125 : decode cX12_visit 125 = .ok (.getfield 7, 3) := zDec_at zB_dX12_visit_74 35 rfl
theorem dX12_visit_128 : decode cX12_visit 128 = .ok (.bipush 7, 2) := zDec_at zB_dX12_visit_74 36 rfl
theorem dX12_visit_130 : decode cX12_visit 130 = .ok (.iaload, 1) := zDec_at zB_dX12_visit_74 37 rfl
theorem dX12_visit_131 : decode cX12_visit 131 = .ok (.invokevirtual 106, 3) := zDec_at zB_dX12_visit_74 38 rfl
theorem dX12_visit_134 : decode cX12_visit 134 = .ok (.ireturn, 1) := zDec_at zB_dX12_visit_74 39 rfl
