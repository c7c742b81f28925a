theorem dX12_addDay_0 : decode cX12_addDay 0 = .ok (.aload_n 0, 1) := by decide +kernel
theorem dX12_addDay_1 : decode cX12_addDay 1 = .ok (.iconst 0, 1) := by decide +kernel
theorem dX12_addDay_2 : decode cX12_addDay 2 = .ok (.putfield 549, 3) := by decide +kernel
theorem dX12_addDay_5 : decode cX12_addDay 5 = .ok (.aload_n 0, 1) := by decide +kernel
theorem dX12_addDay_6 : decode cX12_addDay 6 = .ok (.iconst 0, 1) := by decide +kernel
theorem dX12_addDay_7 : decode cX12_addDay 7 = .ok (.putfield 552, 3) := by decide +kernel
theorem dX12_addDay_10 : decode cX12_addDay 10 = .ok (.aload_n 0, 1) := by decide +kernel
theorem dX12_addDay_11 : decode cX12_addDay 11 = .ok (.iconst 0, 1) := by decide +kernel
theorem dX12_addDay_12 : decode cX12_addDay 12 = .ok (.putfield 555, 3) := by decide +kernel
theorem dX12_addDay_15 : decode cX12_addDay 15 = .ok (.iconst 0, 1) := by decide +kernel
theorem dX12_addDay_16 : decode cX12_addDay 16 = .ok (.istore_n 2, 1) := by decide +kernel
theorem dX12_addDay_17 : decode cX12_addDay 17 = .ok (.iload_n 2, 1) := by decide +kernel
theorem dX12_addDay_18 : decode cX12_addDay 18 = .ok (.aload_n 0, 1) := by decide +kernel
theorem dX12_addDay_19 : decode cX12_addDay 19 = .ok (.getfield 7, 3) := by decide +kernel
theorem dX12_addDay_22 : decode cX12_addDay 22 = .ok (.iconst 3, 1) := by decide +kernel
theorem dX12_addDay_23 : decode cX12_addDay 23 = .ok (.iaload, 1) := by decide +kernel
theorem dX12_addDay_24 : decode cX12_addDay 24 = .ok (.if_icmp .ge 81, 3) := by decide +kernel
theorem dX12_addDay_27 : decode cX12_addDay 27 = .ok (.aload_n 0, 1) := by decide +kernel
theorem dX12_addDay_28 : decode cX12_addDay 28 = .ok (.getfield 7, 3) := by decide +kernel
theorem dX12_addDay_31 : decode cX12_addDay 31 = .ok (.iload_n 2, 1) := by decide +kernel
theorem dX12_addDay_32 : decode cX12_addDay 32 = .ok (.invokestatic 155, 3) := by decide +kernel
theorem dX12_addDay_35 : decode cX12_addDay 35 = .ok (.iconst 2, 1) := by decide +kernel
theorem dX12_addDay_36 : decode cX12_addDay 36 = .ok (.iadd, 1) := by decide +kernel
theorem dX12_addDay_37 : decode cX12_addDay 37 = .ok (.iaload, 1) := by decide +kernel
theorem dX12_addDay_38 : decode cX12_addDay 38 = .ok (.iconst 2, 1) := by decide +kernel
theorem dX12_addDay_39 : decode cX12_addDay 39 = .ok (.idiv, 1) := by decide +kernel
theorem dX12_addDay_40 : decode cX12_addDay 40 = .ok (.iload_n 1, 1) := by decide +kernel
theorem dX12_addDay_41 : decode cX12_addDay 41 = .ok (.if_icmp .ne 58, 3) := by decide +kernel
theorem dX12_addDay_44 : decode cX12_addDay 44 = .ok (.aload_n 0, 1) := by decide +kernel
theorem dX12_addDay_45 : decode cX12_addDay 45 = .ok (.dup, 1) := by decide +kernel
theorem dX12_addDay_46 : decode cX12_addDay 46 = .ok (.getfield 549, 3) := by decide +kernel
theorem dX12_addDay_49 : decode cX12_addDay 49 = .ok (.iconst 1, 1) := by decide +kernel
theorem dX12_addDay_50 : decode cX12_addDay 50 = .ok (.iadd, 1) := by decide +kernel
theorem dX12_addDay_51 : decode cX12_addDay 51 = .ok (.putfield 549, 3) := by decide +kernel
theorem dX12_addDay_54 : decode cX12_addDay 54 = .ok (.aload_n 0, 1) := by decide +kernel
theorem dX12_addDay_55 : decode cX12_addDay 55 = .ok (.dup, 1) := by decide +kernel
theorem dX12_addDay_56 : decode cX12_addDay 56 = .ok (.getfield 552, 3) := by decide +kernel
theorem dX12_addDay_59 : decode cX12_addDay 59 = .ok (.aload_n 0, 1) := by decide +kernel
theorem dX12_addDay_60 : decode cX12_addDay 60 = .ok (.getfield 7, 3) := by decide +kernel
theorem dX12_addDay_63 : decode cX12_addDay 63 = .ok (.iload_n 2, 1) := by decide +kernel
theorem dX12_addDay_64 : decode cX12_addDay 64 = .ok (.invokestatic 155, 3) := by decide +kernel
theorem dX12_addDay_67 : decode cX12_addDay 67 = .ok (.iconst 3, 1) := by decide +kernel
theorem dX12_addDay_68 : decode cX12_addDay 68 = .ok (.iadd, 1) := by decide +kernel
theorem dX12_addDay_69 : decode cX12_addDay 69 = .ok (.iaload, 1) := by decide +kernel
theorem dX12_addDay_70 : decode cX12_addDay 70 = .ok (.iadd, 1) := by decide +kernel
theorem dX12_addDay_71 : decode cX12_addDay 71 = .ok (.putfield 552, 3) := by decide +kernel
theorem dX12_addDay_74 : decode cX12_addDay 74 = .ok (.aload_n 0, 1) := by decide +kernel
theorem dX12_addDay_75 : decode cX12_addDay 75 = .ok (.dup, 1) := by decide +kernel
theorem dX12_addDay_76 : decode cX12_addDay 76 = .ok (.getfield 555, 3) := by decide +kernel
theorem dX12_addDay_79 : decode cX12_addDay 79 = .ok (.aload_n 0, 1) := by decide +kernel
theorem dX12_addDay_80 : decode cX12_addDay 80 = .ok (.getfield 7, 3) := by decide +kernel
theorem dX12_addDay_83 : decode cX12_addDay 83 = .ok (.iload_n 2, 1) := by decide +kernel
theorem dX12_addDay_84 : decode cX12_addDay 84 = .ok (.invokestatic 155, 3) := by decide +kernel
theorem dX12_addDay_87 : decode cX12_addDay 87 = .ok (.iconst 3, 1) := by decide +kernel
theorem dX12_addDay_88 : decode cX12_addDay 88 = .ok (.iadd, 1) := by decide +kernel
theorem dX12_addDay_89 : decode cX12_addDay 89 = .ok (.iaload, 1) := by decide +kernel
theorem dX12_addDay_90 : decode cX12_addDay 90 = .ok (.aload_n 0, 1) := by decide +kernel
theorem dX12_addDay_91 : decode cX12_addDay 91 = .ok (.getfield 549, 3) := by decide +kernel
theorem dX12_addDay_94 : decode cX12_addDay 94 = .ok (.imul, 1) := by decide +kernel
theorem dX12_addDay_95 : decode cX12_addDay 95 = .ok (.iadd, 1) := by decide +kernel
theorem dX12_addDay_96 : decode cX12_addDay 96 = .ok (.putfield 555, 3) := by decide +kernel
theorem dX12_addDay_99 : decode cX12_addDay 99 = .ok (.iinc 2 1, 3) := by decide +kernel
theorem dX12_addDay_102 : decode cX12_addDay 102 = .ok (.goto (-85), 3) := by decide +kernel
theorem dX12_addDay_105 : decode cX12_addDay 105 = .ok (.return_, 1) := by decide +kernel
theorem dX12_addFour_0 : decode cX12_addFour 0 = .ok (.aload_n 0, 1) := by decide +kernel
theorem dX12_addFour_1 : decode cX12_addFour 1 = .ok (.getfield 7, 3) := by decide +kernel
theorem dX12_addFour_4 : decode cX12_addFour 4 = .ok (.iload_n 1, 1) := by decide +kernel
theorem dX12_addFour_5 : decode cX12_addFour 5 = .ok (.iload_n 2, 1) := by decide +kernel
theorem dX12_addFour_6 : decode cX12_addFour 6 = .ok (.iastore, 1) := by decide +kernel
theorem dX12_addFour_7 : decode cX12_addFour 7 = .ok (.aload_n 0, 1) := by decide +kernel
theorem dX12_addFour_8 : decode cX12_addFour 8 = .ok (.getfield 7, 3) := by decide +kernel
theorem dX12_addFour_11 : decode cX12_addFour 11 = .ok (.iload_n 1, 1) := by decide +kernel
theorem dX12_addFour_12 : decode cX12_addFour 12 = .ok (.iconst 1, 1) := by decide +kernel
theorem dX12_addFour_13 : decode cX12_addFour 13 = .ok (.iadd, 1) := by decide +kernel
theorem dX12_addFour_14 : decode cX12_addFour 14 = .ok (.iload_n 3, 1) := by decide +kernel
theorem dX12_addFour_15 : decode cX12_addFour 15 = .ok (.iastore, 1) := by decide +kernel
theorem dX12_addFour_16 : decode cX12_addFour 16 = .ok (.aload_n 0, 1) := by decide +kernel
theorem dX12_addFour_17 : decode cX12_addFour 17 = .ok (.getfield 7, 3) := by decide +kernel
theorem dX12_addFour_20 : decode cX12_addFour 20 = .ok (.iload_n 1, 1) := by decide +kernel
theorem dX12_addFour_21 : decode cX12_addFour 21 = .ok (.iconst 2, 1) := by decide +kernel
theorem dX12_addFour_22 : decode cX12_addFour 22 = .ok (.iadd, 1) := by decide +kernel
theorem dX12_addFour_23 : decode cX12_addFour 23 = .ok (.iload 4, 2) := by decide +kernel
theorem dX12_addFour_25 : decode cX12_addFour 25 = .ok (.iastore, 1) := by decide +kernel
theorem dX12_addFour_26 : decode cX12_addFour 26 = .ok (.aload_n 0, 1) := by decide +kernel
theorem dX12_addFour_27 : decode cX12_addFour 27 = .ok (.getfield 7, 3) := by decide +kernel
theorem dX12_addFour_30 : decode cX12_addFour 30 = .ok (.iload_n 1, 1) := by decide +kernel
theorem dX12_addFour_31 : decode cX12_addFour 31 = .ok (.iconst 3, 1) := by decide +kernel
theorem dX12_addFour_32 : decode cX12_addFour 32 = .ok (.iadd, 1) := by decide +kernel
theorem dX12_addFour_33 : decode cX12_addFour 33 = .ok (.iload 5, 2) := by decide +kernel
theorem dX12_addFour_35 : decode cX12_addFour 35 = .ok (.iastore, 1) := by decide +kernel
theorem dX12_addFour_36 : decode cX12_addFour 36 = .ok (.return_, 1) := by decide +kernel
theorem dX12_addUp_0 : decode cX12_addUp 0 = .ok (.aload_n 0, 1) := by decide +kernel
theorem dX12_addUp_1 : decode cX12_addUp 1 = .ok (.iconst 0, 1) := by decide +kernel
theorem dX12_addUp_2 : decode cX12_addUp 2 = .ok (.putfield 440, 3) := by decide +kernel
theorem dX12_addUp_5 : decode cX12_addUp 5 = .ok (.aload_n 0, 1) := by decide +kernel
theorem dX12_addUp_6 : decode cX12_addUp 6 = .ok (.iconst 0, 1) := by decide +kernel
theorem dX12_addUp_7 : decode cX12_addUp 7 = .ok (.putfield 443, 3) := by decide +kernel
theorem dX12_addUp_10 : decode cX12_addUp 10 = .ok (.iconst 0, 1) := by decide +kernel
theorem dX12_addUp_11 : decode cX12_addUp 11 = .ok (.istore 5, 2) := by decide +kernel
theorem dX12_addUp_13 : decode cX12_addUp 13 = .ok (.iload 5, 2) := by decide +kernel
theorem dX12_addUp_15 : decode cX12_addUp 15 = .ok (.aload_n 0, 1) := by decide +kernel
theorem dX12_addUp_16 : decode cX12_addUp 16 = .ok (.getfield 7, 3) := by decide +kernel
theorem dX12_addUp_19 : decode cX12_addUp 19 = .ok (.iconst 3, 1) := by decide +kernel
theorem dX12_addUp_20 : decode cX12_addUp 20 = .ok (.iaload, 1) := by decide +kernel
theorem dX12_addUp_21 : decode cX12_addUp 21 = .ok (.if_icmp .ge 139, 3) := by decide +kernel
theorem dX12_addUp_24 : decode cX12_addUp 24 = .ok (.iload 5, 2) := by decide +kernel
theorem dX12_addUp_26 : decode cX12_addUp 26 = .ok (.invokestatic 155, 3) := by decide +kernel
theorem dX12_addUp_29 : decode cX12_addUp 29 = .ok (.istore 6, 2) := by decide +kernel
theorem dX12_addUp_31 : decode cX12_addUp 31 = .ok (.iload_n 1, 1) := by decide +kernel
theorem dX12_addUp_32 : decode cX12_addUp 32 = .ok (.iconst (-1), 1) := by decide +kernel
theorem dX12_addUp_33 : decode cX12_addUp 33 = .ok (.if_icmp .eq 16, 3) := by decide +kernel
theorem dX12_addUp_36 : decode cX12_addUp 36 = .ok (.aload_n 0, 1) := by decide +kernel
theorem dX12_addUp_37 : decode cX12_addUp 37 = .ok (.getfield 7, 3) := by decide +kernel
theorem dX12_addUp_40 : decode cX12_addUp 40 = .ok (.iload 6, 2) := by decide +kernel
theorem dX12_addUp_42 : decode cX12_addUp 42 = .ok (.iconst 1, 1) := by decide +kernel
theorem dX12_addUp_43 : decode cX12_addUp 43 = .ok (.iadd, 1) := by decide +kernel
theorem dX12_addUp_44 : decode cX12_addUp 44 = .ok (.iaload, 1) := by decide +kernel
theorem dX12_addUp_45 : decode cX12_addUp 45 = .ok (.iload_n 1, 1) := by decide +kernel
theorem dX12_addUp_46 : decode cX12_addUp 46 = .ok (.if_icmp .ne 44, 3) := by decide +kernel
theorem dX12_addUp_49 : decode cX12_addUp 49 = .ok (.iload_n 2, 1) := by decide +kernel
theorem dX12_addUp_50 : decode cX12_addUp 50 = .ok (.iconst (-1), 1) := by decide +kernel
theorem dX12_addUp_51 : decode cX12_addUp 51 = .ok (.if_icmp .eq 14, 3) := by decide +kernel
theorem dX12_addUp_54 : decode cX12_addUp 54 = .ok (.aload_n 0, 1) := by decide +kernel
theorem dX12_addUp_55 : decode cX12_addUp 55 = .ok (.getfield 7, 3) := by decide +kernel
theorem dX12_addUp_58 : decode cX12_addUp 58 = .ok (.iload 6, 2) := by decide +kernel
theorem dX12_addUp_60 : decode cX12_addUp 60 = .ok (.iaload, 1) := by decide +kernel
theorem dX12_addUp_61 : decode cX12_addUp 61 = .ok (.iload_n 2, 1) := by decide +kernel
theorem dX12_addUp_62 : decode cX12_addUp 62 = .ok (.if_icmp .ne 28, 3) := by decide +kernel
theorem dX12_addUp_65 : decode cX12_addUp 65 = .ok (.aload_n 0, 1) := by decide +kernel
theorem dX12_addUp_66 : decode cX12_addUp 66 = .ok (.getfield 7, 3) := by decide +kernel
theorem dX12_addUp_69 : decode cX12_addUp 69 = .ok (.iload 6, 2) := by decide +kernel
theorem dX12_addUp_71 : decode cX12_addUp 71 = .ok (.iconst 2, 1) := by decide +kernel
theorem dX12_addUp_72 : decode cX12_addUp 72 = .ok (.iadd, 1) := by decide +kernel
theorem dX12_addUp_73 : decode cX12_addUp 73 = .ok (.iaload, 1) := by decide +kernel
theorem dX12_addUp_74 : decode cX12_addUp 74 = .ok (.i2l, 1) := by decide +kernel
theorem dX12_addUp_75 : decode cX12_addUp 75 = .ok (.iload_n 3, 1) := by decide +kernel
theorem dX12_addUp_76 : decode cX12_addUp 76 = .ok (.i2l, 1) := by decide +kernel
theorem dX12_addUp_77 : decode cX12_addUp 77 = .ok (.iload 4, 2) := by decide +kernel
theorem dX12_addUp_79 : decode cX12_addUp 79 = .ok (.i2l, 1) := by decide +kernel
theorem dX12_addUp_80 : decode cX12_addUp 80 = .ok (.invokestatic 100, 3) := by decide +kernel
theorem dX12_addUp_83 : decode cX12_addUp 83 = .ok (.ifCond .eq 7, 3) := by decide +kernel
theorem dX12_addUp_86 : decode cX12_addUp 86 = .ok (.iconst 1, 1) := by decide +kernel
theorem dX12_addUp_87 : decode cX12_addUp 87 = .ok (.goto 4, 3) := by decide +kernel
theorem dX12_addUp_90 : decode cX12_addUp 90 = .ok (.iconst 0, 1) := by decide +kernel
theorem dX12_addUp_91 : decode cX12_addUp 91 = .ok (.istore 7, 2) := by decide +kernel
theorem dX12_addUp_93 : decode cX12_addUp 93 = .ok (.iload 7, 2) := by decide +kernel
theorem dX12_addUp_95 : decode cX12_addUp 95 = .ok (.ifCond .eq 59, 3) := by decide +kernel
theorem dX12_addUp_98 : decode cX12_addUp 98 = .ok (.aload_n 0, 1) := by decide +kernel
theorem dX12_addUp_99 : decode cX12_addUp 99 = .ok (.getfield 21, 3) := by decide +kernel
theorem dX12_addUp_102 : decode cX12_addUp 102 = .ok (.iload 5, 2) := by decide +kernel
theorem dX12_addUp_104 : decode cX12_addUp 104 = .ok (.baload, 1) := by decide +kernel
theorem dX12_addUp_105 : decode cX12_addUp 105 = .ok (.ifCond .eq 49, 3) := by decide +kernel
theorem dX12_addUp_108 : decode cX12_addUp 108 = .ok (.aload_n 0, 1) := by decide +kernel
theorem dX12_addUp_109 : decode cX12_addUp 109 = .ok (.getfield 27, 3) := by decide +kernel
theorem dX12_addUp_112 : decode cX12_addUp 112 = .ok (.iload 5, 2) := by decide +kernel
theorem dX12_addUp_114 : decode cX12_addUp 114 = .ok (.iaload, 1) := by decide +kernel
theorem dX12_addUp_115 : decode cX12_addUp 115 = .ok (.iconst 4, 1) := by decide +kernel
theorem dX12_addUp_116 : decode cX12_addUp 116 = .ok (.if_icmp .eq 38, 3) := by decide +kernel
theorem dX12_addUp_119 : decode cX12_addUp 119 = .ok (.aload_n 0, 1) := by decide +kernel
theorem dX12_addUp_120 : decode cX12_addUp 120 = .ok (.dup, 1) := by decide +kernel
theorem dX12_addUp_121 : decode cX12_addUp 121 = .ok (.getfield 440, 3) := by decide +kernel
theorem dX12_addUp_124 : decode cX12_addUp 124 = .ok (.iconst 1, 1) := by decide +kernel
theorem dX12_addUp_125 : decode cX12_addUp 125 = .ok (.iadd, 1) := by decide +kernel
theorem dX12_addUp_126 : decode cX12_addUp 126 = .ok (.putfield 440, 3) := by decide +kernel
theorem dX12_addUp_129 : decode cX12_addUp 129 = .ok (.aload_n 0, 1) := by decide +kernel
theorem dX12_addUp_130 : decode cX12_addUp 130 = .ok (.dup, 1) := by decide +kernel
theorem dX12_addUp_131 : decode cX12_addUp 131 = .ok (.getfield 443, 3) := by decide +kernel
theorem dX12_addUp_134 : decode cX12_addUp 134 = .ok (.aload_n 0, 1) := by decide +kernel
theorem dX12_addUp_135 : decode cX12_addUp 135 = .ok (.getfield 27, 3) := by decide +kernel
theorem dX12_addUp_138 : decode cX12_addUp 138 = .ok (.iload 5, 2) := by decide +kernel
theorem dX12_addUp_140 : decode cX12_addUp 140 = .ok (.iaload, 1) := by decide +kernel
theorem dX12_addUp_141 : decode cX12_addUp 141 = .ok (.iconst 3, 1) := by decide +kernel
theorem dX12_addUp_142 : decode cX12_addUp 142 = .ok (.if_icmp .ne 7, 3) := by decide +kernel
theorem dX12_addUp_145 : decode cX12_addUp 145 = .ok (.iconst 1, 1) := by decide +kernel
theorem dX12_addUp_146 : decode cX12_addUp 146 = .ok (.goto 4, 3) := by decide +kernel
theorem dX12_addUp_149 : decode cX12_addUp 149 = .ok (.iconst 0, 1) := by decide +kernel
theorem dX12_addUp_150 : decode cX12_addUp 150 = .ok (.iadd, 1) := by decide +kernel
theorem dX12_addUp_151 : decode cX12_addUp 151 = .ok (.putfield 443, 3) := by decide +kernel
theorem dX12_addUp_154 : decode cX12_addUp 154 = .ok (.iinc 5 1, 3) := by decide +kernel
theorem dX12_addUp_157 : decode cX12_addUp 157 = .ok (.goto (-144), 3) := by decide +kernel
theorem dX12_addUp_160 : decode cX12_addUp 160 = .ok (.return_, 1) := by decide +kernel
theorem dX12_alter_0 : decode cX12_alter 0 = .ok (.aload_n 0, 1) := by decide +kernel
theorem dX12_alter_1 : decode cX12_alter 1 = .ok (.iconst 0, 1) := by decide +kernel
theorem dX12_alter_2 : decode cX12_alter 2 = .ok (.putfield 92, 3) := by decide +kernel
theorem dX12_alter_5 : decode cX12_alter 5 = .ok (.iload_n 2, 1) := by decide +kernel
theorem dX12_alter_6 : decode cX12_alter 6 = .ok (.i2l, 1) := by decide +kernel
theorem dX12_alter_7 : decode cX12_alter 7 = .ok (.lconst 1, 1) := by decide +kernel
theorem dX12_alter_8 : decode cX12_alter 8 = .ok (.ldc2_w 116, 3) := by decide +kernel
theorem dX12_alter_11 : decode cX12_alter 11 = .ok (.invokestatic 100, 3) := by decide +kernel
theorem dX12_alter_14 : decode cX12_alter 14 = .ok (.ifCond .ne 9, 3) := by decide +kernel
theorem dX12_alter_17 : decode cX12_alter 17 = .ok (.aload_n 0, 1) := by decide +kernel
theorem dX12_alter_18 : decode cX12_alter 18 = .ok (.iconst (-1), 1) := by decide +kernel
theorem dX12_alter_19 : decode cX12_alter 19 = .ok (.invokevirtual 106, 3) := by decide +kernel
theorem dX12_alter_22 : decode cX12_alter 22 = .ok (.ireturn, 1) := by decide +kernel
theorem dX12_alter_23 : decode cX12_alter 23 = .ok (.aload_n 0, 1) := by decide +kernel
theorem dX12_alter_24 : decode cX12_alter 24 = .ok (.iload_n 1, 1) := by decide +kernel
theorem dX12_alter_25 : decode cX12_alter 25 = .ok (.invokevirtual 158, 3) := by decide +kernel
theorem dX12_alter_28 : decode cX12_alter 28 = .ok (.ifCond .ne 10, 3) := by decide +kernel
theorem dX12_alter_31 : decode cX12_alter 31 = .ok (.aload_n 0, 1) := by decide +kernel
theorem dX12_alter_32 : decode cX12_alter 32 = .ok (.bipush (-2), 2) := by decide +kernel
theorem dX12_alter_34 : decode cX12_alter 34 = .ok (.invokevirtual 106, 3) := by decide +kernel
theorem dX12_alter_37 : decode cX12_alter 37 = .ok (.ireturn, 1) := by decide +kernel
theorem dX12_alter_38 : decode cX12_alter 38 = .ok (.aload_n 0, 1) := by decide +kernel
theorem dX12_alter_39 : decode cX12_alter 39 = .ok (.getfield 7, 3) := by decide +kernel
theorem dX12_alter_42 : decode cX12_alter 42 = .ok (.iload_n 1, 1) := by decide +kernel
theorem dX12_alter_43 : decode cX12_alter 43 = .ok (.invokestatic 155, 3) := by decide +kernel
theorem dX12_alter_46 : decode cX12_alter 46 = .ok (.iconst 3, 1) := by decide +kernel
theorem dX12_alter_47 : decode cX12_alter 47 = .ok (.iadd, 1) := by decide +kernel
theorem dX12_alter_48 : decode cX12_alter 48 = .ok (.dup2, 1) := by decide +kernel
theorem dX12_alter_49 : decode cX12_alter 49 = .ok (.iaload, 1) := by decide +kernel
theorem dX12_alter_50 : decode cX12_alter 50 = .ok (.iload_n 2, 1) := by decide +kernel
theorem dX12_alter_51 : decode cX12_alter 51 = .ok (.ixor, 1) := by decide +kernel
theorem dX12_alter_52 : decode cX12_alter 52 = .ok (.iastore, 1) := by decide +kernel
theorem dX12_alter_53 : decode cX12_alter 53 = .ok (.aload_n 0, 1) := by decide +kernel
theorem dX12_alter_54 : decode cX12_alter 54 = .ok (.iconst 0, 1) := by decide +kernel
theorem dX12_alter_55 : decode cX12_alter 55 = .ok (.putfield 95, 3) := by decide +kernel
theorem dX12_alter_58 : decode cX12_alter 58 = .ok (.aload_n 0, 1) := by decide +kernel
theorem dX12_alter_59 : decode cX12_alter 59 = .ok (.getfield 7, 3) := by decide +kernel
theorem dX12_alter_62 : decode cX12_alter 62 = .ok (.iload_n 1, 1) := by decide +kernel
theorem dX12_alter_63 : decode cX12_alter 63 = .ok (.invokestatic 155, 3) := by decide +kernel
theorem dX12_alter_66 : decode cX12_alter 66 = .ok (.iconst 3, 1) := by decide +kernel
theorem dX12_alter_67 : decode cX12_alter 67 = .ok (.iadd, 1) := by decide +kernel
theorem dX12_alter_68 : decode cX12_alter 68 = .ok (.iaload, 1) := by decide +kernel
theorem dX12_alter_69 : decode cX12_alter 69 = .ok (.ireturn, 1) := by decide +kernel
theorem dX12_appeal_0 : decode cX12_appeal 0 = .ok (.aload_n 0, 1) := by decide +kernel
theorem dX12_appeal_1 : decode cX12_appeal 1 = .ok (.iconst 0, 1) := by decide +kernel
theorem dX12_appeal_2 : decode cX12_appeal 2 = .ok (.putfield 92, 3) := by decide +kernel
theorem dX12_appeal_5 : decode cX12_appeal 5 = .ok (.iload_n 2, 1) := by decide +kernel
theorem dX12_appeal_6 : decode cX12_appeal 6 = .ok (.i2l, 1) := by decide +kernel
theorem dX12_appeal_7 : decode cX12_appeal 7 = .ok (.lconst 0, 1) := by decide +kernel
theorem dX12_appeal_8 : decode cX12_appeal 8 = .ok (.ldc2_w 151, 3) := by decide +kernel
theorem dX12_appeal_11 : decode cX12_appeal 11 = .ok (.invokestatic 100, 3) := by decide +kernel
theorem dX12_appeal_14 : decode cX12_appeal 14 = .ok (.ifCond .eq 10, 3) := by decide +kernel
theorem dX12_appeal_17 : decode cX12_appeal 17 = .ok (.iload_n 3, 1) := by decide +kernel
theorem dX12_appeal_18 : decode cX12_appeal 18 = .ok (.invokestatic 127, 3) := by decide +kernel
theorem dX12_appeal_21 : decode cX12_appeal 21 = .ok (.ifCond .ne 9, 3) := by decide +kernel
theorem dX12_appeal_24 : decode cX12_appeal 24 = .ok (.aload_n 0, 1) := by decide +kernel
theorem dX12_appeal_25 : decode cX12_appeal 25 = .ok (.iconst (-1), 1) := by decide +kernel
theorem dX12_appeal_26 : decode cX12_appeal 26 = .ok (.invokevirtual 106, 3) := by decide +kernel
theorem dX12_appeal_29 : decode cX12_appeal 29 = .ok (.ireturn, 1) := by decide +kernel
theorem dX12_appeal_30 : decode cX12_appeal 30 = .ok (.aload_n 0, 1) := by decide +kernel
theorem dX12_appeal_31 : decode cX12_appeal 31 = .ok (.iload_n 1, 1) := by decide +kernel
theorem dX12_appeal_32 : decode cX12_appeal 32 = .ok (.invokevirtual 158, 3) := by decide +kernel
theorem dX12_appeal_35 : decode cX12_appeal 35 = .ok (.ifCond .ne 10, 3) := by decide +kernel
theorem dX12_appeal_38 : decode cX12_appeal 38 = .ok (.aload_n 0, 1) := by decide +kernel
theorem dX12_appeal_39 : decode cX12_appeal 39 = .ok (.bipush (-2), 2) := by decide +kernel
theorem dX12_appeal_41 : decode cX12_appeal 41 = .ok (.invokevirtual 106, 3) := by decide +kernel
theorem dX12_appeal_44 : decode cX12_appeal 44 = .ok (.ireturn, 1) := by decide +kernel
theorem dX12_appeal_45 : decode cX12_appeal 45 = .ok (.aload_n 0, 1) := by decide +kernel
theorem dX12_appeal_46 : decode cX12_appeal 46 = .ok (.getfield 7, 3) := by decide +kernel
theorem dX12_appeal_49 : decode cX12_appeal 49 = .ok (.iload_n 1, 1) := by decide +kernel
theorem dX12_appeal_50 : decode cX12_appeal 50 = .ok (.invokestatic 155, 3) := by decide +kernel
theorem dX12_appeal_53 : decode cX12_appeal 53 = .ok (.iconst 5, 1) := by decide +kernel
theorem dX12_appeal_54 : decode cX12_appeal 54 = .ok (.iadd, 1) := by decide +kernel
theorem dX12_appeal_55 : decode cX12_appeal 55 = .ok (.iaload, 1) := by decide +kernel
theorem dX12_appeal_56 : decode cX12_appeal 56 = .ok (.iconst (-1), 1) := by decide +kernel
theorem dX12_appeal_57 : decode cX12_appeal 57 = .ok (.if_icmp .eq 10, 3) := by decide +kernel
theorem dX12_appeal_60 : decode cX12_appeal 60 = .ok (.aload_n 0, 1) := by decide +kernel
theorem dX12_appeal_61 : decode cX12_appeal 61 = .ok (.bipush (-4), 2) := by decide +kernel
theorem dX12_appeal_63 : decode cX12_appeal 63 = .ok (.invokevirtual 106, 3) := by decide +kernel
theorem dX12_appeal_66 : decode cX12_appeal 66 = .ok (.ireturn, 1) := by decide +kernel
theorem dX12_appeal_67 : decode cX12_appeal 67 = .ok (.aload_n 0, 1) := by decide +kernel
theorem dX12_appeal_68 : decode cX12_appeal 68 = .ok (.getfield 7, 3) := by decide +kernel
theorem dX12_appeal_71 : decode cX12_appeal 71 = .ok (.iload_n 1, 1) := by decide +kernel
theorem dX12_appeal_72 : decode cX12_appeal 72 = .ok (.invokestatic 155, 3) := by decide +kernel
theorem dX12_appeal_75 : decode cX12_appeal 75 = .ok (.iconst 5, 1) := by decide +kernel
theorem dX12_appeal_76 : decode cX12_appeal 76 = .ok (.iadd, 1) := by decide +kernel
theorem dX12_appeal_77 : decode cX12_appeal 77 = .ok (.iload_n 2, 1) := by decide +kernel
theorem dX12_appeal_78 : decode cX12_appeal 78 = .ok (.iastore, 1) := by decide +kernel
theorem dX12_appeal_79 : decode cX12_appeal 79 = .ok (.aload_n 0, 1) := by decide +kernel
theorem dX12_appeal_80 : decode cX12_appeal 80 = .ok (.getfield 7, 3) := by decide +kernel
theorem dX12_appeal_83 : decode cX12_appeal 83 = .ok (.iload_n 1, 1) := by decide +kernel
theorem dX12_appeal_84 : decode cX12_appeal 84 = .ok (.invokestatic 155, 3) := by decide +kernel
theorem dX12_appeal_87 : decode cX12_appeal 87 = .ok (.bipush 6, 2) := by decide +kernel
theorem dX12_appeal_89 : decode cX12_appeal 89 = .ok (.iadd, 1) := by decide +kernel
theorem dX12_appeal_90 : decode cX12_appeal 90 = .ok (.iload_n 3, 1) := by decide +kernel
theorem dX12_appeal_91 : decode cX12_appeal 91 = .ok (.iastore, 1) := by decide +kernel
theorem dX12_appeal_92 : decode cX12_appeal 92 = .ok (.aload_n 0, 1) := by decide +kernel
theorem dX12_appeal_93 : decode cX12_appeal 93 = .ok (.iconst 0, 1) := by decide +kernel
theorem dX12_appeal_94 : decode cX12_appeal 94 = .ok (.invokevirtual 106, 3) := by decide +kernel
theorem dX12_appeal_97 : decode cX12_appeal 97 = .ok (.ireturn, 1) := by decide +kernel
theorem dX12_back_0 : decode cX12_back 0 = .ok (.aload_n 0, 1) := by decide +kernel
theorem dX12_back_1 : decode cX12_back 1 = .ok (.iconst 0, 1) := by decide +kernel
theorem dX12_back_2 : decode cX12_back 2 = .ok (.putfield 92, 3) := by decide +kernel
theorem dX12_back_5 : decode cX12_back 5 = .ok (.iload_n 1, 1) := by decide +kernel
theorem dX12_back_6 : decode cX12_back 6 = .ok (.i2l, 1) := by decide +kernel
theorem dX12_back_7 : decode cX12_back 7 = .ok (.lconst 0, 1) := by decide +kernel
theorem dX12_back_8 : decode cX12_back 8 = .ok (.lconst 1, 1) := by decide +kernel
theorem dX12_back_9 : decode cX12_back 9 = .ok (.invokestatic 100, 3) := by decide +kernel
theorem dX12_back_12 : decode cX12_back 12 = .ok (.ifCond .ne 9, 3) := by decide +kernel
theorem dX12_back_15 : decode cX12_back 15 = .ok (.aload_n 0, 1) := by decide +kernel
theorem dX12_back_16 : decode cX12_back 16 = .ok (.iconst (-1), 1) := by decide +kernel
theorem dX12_back_17 : decode cX12_back 17 = .ok (.invokevirtual 106, 3) := by decide +kernel
theorem dX12_back_20 : decode cX12_back 20 = .ok (.ireturn, 1) := by decide +kernel
theorem dX12_back_21 : decode cX12_back 21 = .ok (.aload_n 0, 1) := by decide +kernel
theorem dX12_back_22 : decode cX12_back 22 = .ok (.getfield 17, 3) := by decide +kernel
theorem dX12_back_25 : decode cX12_back 25 = .ok (.iload_n 1, 1) := by decide +kernel
theorem dX12_back_26 : decode cX12_back 26 = .ok (.baload, 1) := by decide +kernel
theorem dX12_back_27 : decode cX12_back 27 = .ok (.ifCond .ne 10, 3) := by decide +kernel
theorem dX12_back_30 : decode cX12_back 30 = .ok (.aload_n 0, 1) := by decide +kernel
theorem dX12_back_31 : decode cX12_back 31 = .ok (.bipush (-2), 2) := by decide +kernel
theorem dX12_back_33 : decode cX12_back 33 = .ok (.invokevirtual 106, 3) := by decide +kernel
theorem dX12_back_36 : decode cX12_back 36 = .ok (.ireturn, 1) := by decide +kernel
theorem dX12_back_37 : decode cX12_back 37 = .ok (.iconst 0, 1) := by decide +kernel
theorem dX12_back_38 : decode cX12_back 38 = .ok (.istore_n 2, 1) := by decide +kernel
theorem dX12_back_39 : decode cX12_back 39 = .ok (.iload_n 2, 1) := by decide +kernel
theorem dX12_back_40 : decode cX12_back 40 = .ok (.sipush 27101, 3) := by decide +kernel
theorem dX12_back_43 : decode cX12_back 43 = .ok (.if_icmp .ge 27, 3) := by decide +kernel
theorem dX12_back_46 : decode cX12_back 46 = .ok (.aload_n 0, 1) := by decide +kernel
theorem dX12_back_47 : decode cX12_back 47 = .ok (.getfield 7, 3) := by decide +kernel
theorem dX12_back_50 : decode cX12_back 50 = .ok (.iload_n 2, 1) := by decide +kernel
theorem dX12_back_51 : decode cX12_back 51 = .ok (.aload_n 0, 1) := by decide +kernel
theorem dX12_back_52 : decode cX12_back 52 = .ok (.getfield 14, 3) := by decide +kernel
theorem dX12_back_55 : decode cX12_back 55 = .ok (.sipush 27101, 3) := by decide +kernel
theorem dX12_back_58 : decode cX12_back 58 = .ok (.iload_n 1, 1) := by decide +kernel
theorem dX12_back_59 : decode cX12_back 59 = .ok (.imul, 1) := by decide +kernel
theorem dX12_back_60 : decode cX12_back 60 = .ok (.iload_n 2, 1) := by decide +kernel
theorem dX12_back_61 : decode cX12_back 61 = .ok (.iadd, 1) := by decide +kernel
theorem dX12_back_62 : decode cX12_back 62 = .ok (.iaload, 1) := by decide +kernel
theorem dX12_back_63 : decode cX12_back 63 = .ok (.iastore, 1) := by decide +kernel
theorem dX12_back_64 : decode cX12_back 64 = .ok (.iinc 2 1, 3) := by decide +kernel
theorem dX12_back_67 : decode cX12_back 67 = .ok (.goto (-28), 3) := by decide +kernel
theorem dX12_back_70 : decode cX12_back 70 = .ok (.aload_n 0, 1) := by decide +kernel
theorem dX12_back_71 : decode cX12_back 71 = .ok (.iconst 0, 1) := by decide +kernel
theorem dX12_back_72 : decode cX12_back 72 = .ok (.invokevirtual 106, 3) := by decide +kernel
theorem dX12_back_75 : decode cX12_back 75 = .ok (.ireturn, 1) := by decide +kernel
theorem dX12_between_0 : decode cX12_between 0 = .ok (.aload_n 0, 1) := by decide +kernel
theorem dX12_between_1 : decode cX12_between 1 = .ok (.getfield 7, 3) := by decide +kernel
theorem dX12_between_4 : decode cX12_between 4 = .ok (.sipush 6998, 3) := by decide +kernel
theorem dX12_between_7 : decode cX12_between 7 = .ok (.iconst 3, 1) := by decide +kernel
theorem dX12_between_8 : decode cX12_between 8 = .ok (.iload_n 2, 1) := by decide +kernel
theorem dX12_between_9 : decode cX12_between 9 = .ok (.imul, 1) := by decide +kernel
theorem dX12_between_10 : decode cX12_between 10 = .ok (.iadd, 1) := by decide +kernel
theorem dX12_between_11 : decode cX12_between 11 = .ok (.iaload, 1) := by decide +kernel
theorem dX12_between_12 : decode cX12_between 12 = .ok (.invokestatic 120, 3) := by decide +kernel
theorem dX12_between_15 : decode cX12_between 15 = .ok (.istore_n 3, 1) := by decide +kernel
theorem dX12_between_16 : decode cX12_between 16 = .ok (.aload_n 0, 1) := by decide +kernel
theorem dX12_between_17 : decode cX12_between 17 = .ok (.iload_n 1, 1) := by decide +kernel
theorem dX12_between_18 : decode cX12_between 18 = .ok (.aload_n 0, 1) := by decide +kernel
theorem dX12_between_19 : decode cX12_between 19 = .ok (.getfield 7, 3) := by decide +kernel
theorem dX12_between_22 : decode cX12_between 22 = .ok (.iload_n 3, 1) := by decide +kernel
theorem dX12_between_23 : decode cX12_between 23 = .ok (.iconst 3, 1) := by decide +kernel
theorem dX12_between_24 : decode cX12_between 24 = .ok (.iadd, 1) := by decide +kernel
theorem dX12_between_25 : decode cX12_between 25 = .ok (.iaload, 1) := by decide +kernel
theorem dX12_between_26 : decode cX12_between 26 = .ok (.aload_n 0, 1) := by decide +kernel
theorem dX12_between_27 : decode cX12_between 27 = .ok (.getfield 7, 3) := by decide +kernel
theorem dX12_between_30 : decode cX12_between 30 = .ok (.iload_n 3, 1) := by decide +kernel
theorem dX12_between_31 : decode cX12_between 31 = .ok (.iconst 4, 1) := by decide +kernel
theorem dX12_between_32 : decode cX12_between 32 = .ok (.iadd, 1) := by decide +kernel
theorem dX12_between_33 : decode cX12_between 33 = .ok (.iaload, 1) := by decide +kernel
theorem dX12_between_34 : decode cX12_between 34 = .ok (.invokevirtual 528, 3) := by decide +kernel
theorem dX12_between_37 : decode cX12_between 37 = .ok (.ireturn, 1) := by decide +kernel
theorem dX12_cannot_0 : decode cX12_cannot 0 = .ok (.aload_n 0, 1) := by decide +kernel
theorem dX12_cannot_1 : decode cX12_cannot 1 = .ok (.iconst 0, 1) := by decide +kernel
theorem dX12_cannot_2 : decode cX12_cannot 2 = .ok (.putfield 92, 3) := by decide +kernel
theorem dX12_cannot_5 : decode cX12_cannot 5 = .ok (.iload_n 2, 1) := by decide +kernel
theorem dX12_cannot_6 : decode cX12_cannot 6 = .ok (.invokestatic 145, 3) := by decide +kernel
theorem dX12_cannot_9 : decode cX12_cannot 9 = .ok (.ifCond .eq 21, 3) := by decide +kernel
theorem dX12_cannot_12 : decode cX12_cannot 12 = .ok (.iload_n 1, 1) := by decide +kernel
theorem dX12_cannot_13 : decode cX12_cannot 13 = .ok (.i2l, 1) := by decide +kernel
theorem dX12_cannot_14 : decode cX12_cannot 14 = .ok (.lconst 0, 1) := by decide +kernel
theorem dX12_cannot_15 : decode cX12_cannot 15 = .ok (.iload_n 2, 1) := by decide +kernel
theorem dX12_cannot_16 : decode cX12_cannot 16 = .ok (.i2l, 1) := by decide +kernel
theorem dX12_cannot_17 : decode cX12_cannot 17 = .ok (.invokestatic 100, 3) := by decide +kernel
theorem dX12_cannot_20 : decode cX12_cannot 20 = .ok (.ifCond .eq 10, 3) := by decide +kernel
theorem dX12_cannot_23 : decode cX12_cannot 23 = .ok (.iload_n 3, 1) := by decide +kernel
theorem dX12_cannot_24 : decode cX12_cannot 24 = .ok (.invokestatic 127, 3) := by decide +kernel
theorem dX12_cannot_27 : decode cX12_cannot 27 = .ok (.ifCond .ne 5, 3) := by decide +kernel
theorem dX12_cannot_30 : decode cX12_cannot 30 = .ok (.iconst (-1), 1) := by decide +kernel
theorem dX12_cannot_31 : decode cX12_cannot 31 = .ok (.ireturn, 1) := by decide +kernel
theorem dX12_cannot_32 : decode cX12_cannot 32 = .ok (.aload_n 0, 1) := by decide +kernel
theorem dX12_cannot_33 : decode cX12_cannot 33 = .ok (.iload_n 3, 1) := by decide +kernel
theorem dX12_cannot_34 : decode cX12_cannot 34 = .ok (.invokevirtual 186, 3) := by decide +kernel
theorem dX12_cannot_37 : decode cX12_cannot 37 = .ok (.iconst 0, 1) := by decide +kernel
theorem dX12_cannot_38 : decode cX12_cannot 38 = .ok (.istore 5, 2) := by decide +kernel
theorem dX12_cannot_40 : decode cX12_cannot 40 = .ok (.iconst (-1), 1) := by decide +kernel
theorem dX12_cannot_41 : decode cX12_cannot 41 = .ok (.istore 6, 2) := by decide +kernel
theorem dX12_cannot_43 : decode cX12_cannot 43 = .ok (.iconst 0, 1) := by decide +kernel
theorem dX12_cannot_44 : decode cX12_cannot 44 = .ok (.istore 7, 2) := by decide +kernel
theorem dX12_cannot_46 : decode cX12_cannot 46 = .ok (.iload 7, 2) := by decide +kernel
theorem dX12_cannot_48 : decode cX12_cannot 48 = .ok (.aload_n 0, 1) := by decide +kernel
theorem dX12_cannot_49 : decode cX12_cannot 49 = .ok (.getfield 7, 3) := by decide +kernel
theorem dX12_cannot_52 : decode cX12_cannot 52 = .ok (.iconst 3, 1) := by decide +kernel
theorem dX12_cannot_53 : decode cX12_cannot 53 = .ok (.iaload, 1) := by decide +kernel
theorem dX12_cannot_54 : decode cX12_cannot 54 = .ok (.if_icmp .ge 60, 3) := by decide +kernel
theorem dX12_cannot_57 : decode cX12_cannot 57 = .ok (.aload_n 0, 1) := by decide +kernel
theorem dX12_cannot_58 : decode cX12_cannot 58 = .ok (.getfield 7, 3) := by decide +kernel
theorem dX12_cannot_61 : decode cX12_cannot 61 = .ok (.iload 7, 2) := by decide +kernel
theorem dX12_cannot_63 : decode cX12_cannot 63 = .ok (.invokestatic 155, 3) := by decide +kernel
theorem dX12_cannot_66 : decode cX12_cannot 66 = .ok (.iconst 2, 1) := by decide +kernel
theorem dX12_cannot_67 : decode cX12_cannot 67 = .ok (.iadd, 1) := by decide +kernel
theorem dX12_cannot_68 : decode cX12_cannot 68 = .ok (.iaload, 1) := by decide +kernel
theorem dX12_cannot_69 : decode cX12_cannot 69 = .ok (.i2l, 1) := by decide +kernel
theorem dX12_cannot_70 : decode cX12_cannot 70 = .ok (.iload_n 1, 1) := by decide +kernel
theorem dX12_cannot_71 : decode cX12_cannot 71 = .ok (.i2l, 1) := by decide +kernel
theorem dX12_cannot_72 : decode cX12_cannot 72 = .ok (.iload_n 2, 1) := by decide +kernel
theorem dX12_cannot_73 : decode cX12_cannot 73 = .ok (.i2l, 1) := by decide +kernel
theorem dX12_cannot_74 : decode cX12_cannot 74 = .ok (.invokestatic 100, 3) := by decide +kernel
theorem dX12_cannot_77 : decode cX12_cannot 77 = .ok (.ifCond .eq 31, 3) := by decide +kernel
theorem dX12_cannot_80 : decode cX12_cannot 80 = .ok (.aload_n 0, 1) := by decide +kernel
theorem dX12_cannot_81 : decode cX12_cannot 81 = .ok (.iload 7, 2) := by decide +kernel
theorem dX12_cannot_83 : decode cX12_cannot 83 = .ok (.invokevirtual 521, 3) := by decide +kernel
theorem dX12_cannot_86 : decode cX12_cannot 86 = .ok (.ifCond .eq 22, 3) := by decide +kernel
theorem dX12_cannot_89 : decode cX12_cannot 89 = .ok (.iload 5, 2) := by decide +kernel
theorem dX12_cannot_91 : decode cX12_cannot 91 = .ok (.iload 4, 2) := by decide +kernel
theorem dX12_cannot_93 : decode cX12_cannot 93 = .ok (.if_icmp .ne 8, 3) := by decide +kernel
theorem dX12_cannot_96 : decode cX12_cannot 96 = .ok (.iload 7, 2) := by decide +kernel
theorem dX12_cannot_98 : decode cX12_cannot 98 = .ok (.goto 5, 3) := by decide +kernel
theorem dX12_cannot_101 : decode cX12_cannot 101 = .ok (.iload 6, 2) := by decide +kernel
theorem dX12_cannot_103 : decode cX12_cannot 103 = .ok (.istore 6, 2) := by decide +kernel
theorem dX12_cannot_105 : decode cX12_cannot 105 = .ok (.iinc 5 1, 3) := by decide +kernel
theorem dX12_cannot_108 : decode cX12_cannot 108 = .ok (.iinc 7 1, 3) := by decide +kernel
theorem dX12_cannot_111 : decode cX12_cannot 111 = .ok (.goto (-65), 3) := by decide +kernel
theorem dX12_cannot_114 : decode cX12_cannot 114 = .ok (.iload 4, 2) := by decide +kernel
theorem dX12_cannot_116 : decode cX12_cannot 116 = .ok (.iconst (-1), 1) := by decide +kernel
theorem dX12_cannot_117 : decode cX12_cannot 117 = .ok (.if_icmp .ne 8, 3) := by decide +kernel
theorem dX12_cannot_120 : decode cX12_cannot 120 = .ok (.iload 5, 2) := by decide +kernel
theorem dX12_cannot_122 : decode cX12_cannot 122 = .ok (.goto 5, 3) := by decide +kernel
theorem dX12_cannot_125 : decode cX12_cannot 125 = .ok (.iload 6, 2) := by decide +kernel
theorem dX12_cannot_127 : decode cX12_cannot 127 = .ok (.ireturn, 1) := by decide +kernel
theorem dX12_cannotBe_0 : decode cX12_cannotBe 0 = .ok (.iload_n 1, 1) := by decide +kernel
theorem dX12_cannotBe_1 : decode cX12_cannotBe 1 = .ok (.invokestatic 155, 3) := by decide +kernel
theorem dX12_cannotBe_4 : decode cX12_cannotBe 4 = .ok (.istore_n 2, 1) := by decide +kernel
theorem dX12_cannotBe_5 : decode cX12_cannotBe 5 = .ok (.aload_n 0, 1) := by decide +kernel
theorem dX12_cannotBe_6 : decode cX12_cannotBe 6 = .ok (.getfield 21, 3) := by decide +kernel
theorem dX12_cannotBe_9 : decode cX12_cannotBe 9 = .ok (.iload_n 1, 1) := by decide +kernel
theorem dX12_cannotBe_10 : decode cX12_cannotBe 10 = .ok (.baload, 1) := by decide +kernel
theorem dX12_cannotBe_11 : decode cX12_cannotBe 11 = .ok (.ifCond .eq 13, 3) := by decide +kernel
theorem dX12_cannotBe_14 : decode cX12_cannotBe 14 = .ok (.aload_n 0, 1) := by decide +kernel
theorem dX12_cannotBe_15 : decode cX12_cannotBe 15 = .ok (.getfield 27, 3) := by decide +kernel
theorem dX12_cannotBe_18 : decode cX12_cannotBe 18 = .ok (.iload_n 1, 1) := by decide +kernel
theorem dX12_cannotBe_19 : decode cX12_cannotBe 19 = .ok (.iaload, 1) := by decide +kernel
theorem dX12_cannotBe_20 : decode cX12_cannotBe 20 = .ok (.iconst 1, 1) := by decide +kernel
theorem dX12_cannotBe_21 : decode cX12_cannotBe 21 = .ok (.if_icmp .le 5, 3) := by decide +kernel
theorem dX12_cannotBe_24 : decode cX12_cannotBe 24 = .ok (.iconst 0, 1) := by decide +kernel
theorem dX12_cannotBe_25 : decode cX12_cannotBe 25 = .ok (.ireturn, 1) := by decide +kernel
theorem dX12_cannotBe_26 : decode cX12_cannotBe 26 = .ok (.aload_n 0, 1) := by decide +kernel
theorem dX12_cannotBe_27 : decode cX12_cannotBe 27 = .ok (.getfield 7, 3) := by decide +kernel
theorem dX12_cannotBe_30 : decode cX12_cannotBe 30 = .ok (.aload_n 0, 1) := by decide +kernel
theorem dX12_cannotBe_31 : decode cX12_cannotBe 31 = .ok (.getfield 7, 3) := by decide +kernel
theorem dX12_cannotBe_34 : decode cX12_cannotBe 34 = .ok (.iload_n 2, 1) := by decide +kernel
theorem dX12_cannotBe_35 : decode cX12_cannotBe 35 = .ok (.iconst 1, 1) := by decide +kernel
theorem dX12_cannotBe_36 : decode cX12_cannotBe 36 = .ok (.iadd, 1) := by decide +kernel
theorem dX12_cannotBe_37 : decode cX12_cannotBe 37 = .ok (.iaload, 1) := by decide +kernel
theorem dX12_cannotBe_38 : decode cX12_cannotBe 38 = .ok (.invokestatic 120, 3) := by decide +kernel
theorem dX12_cannotBe_41 : decode cX12_cannotBe 41 = .ok (.iconst 2, 1) := by decide +kernel
theorem dX12_cannotBe_42 : decode cX12_cannotBe 42 = .ok (.iadd, 1) := by decide +kernel
theorem dX12_cannotBe_43 : decode cX12_cannotBe 43 = .ok (.iaload, 1) := by decide +kernel
theorem dX12_cannotBe_44 : decode cX12_cannotBe 44 = .ok (.istore_n 3, 1) := by decide +kernel
theorem dX12_cannotBe_45 : decode cX12_cannotBe 45 = .ok (.iload_n 3, 1) := by decide +kernel
theorem dX12_cannotBe_46 : decode cX12_cannotBe 46 = .ok (.iconst (-1), 1) := by decide +kernel
theorem dX12_cannotBe_47 : decode cX12_cannotBe 47 = .ok (.if_icmp .eq 46, 3) := by decide +kernel
theorem dX12_cannotBe_50 : decode cX12_cannotBe 50 = .ok (.aload_n 0, 1) := by decide +kernel
theorem dX12_cannotBe_51 : decode cX12_cannotBe 51 = .ok (.iload_n 3, 1) := by decide +kernel
theorem dX12_cannotBe_52 : decode cX12_cannotBe 52 = .ok (.aload_n 0, 1) := by decide +kernel
theorem dX12_cannotBe_53 : decode cX12_cannotBe 53 = .ok (.getfield 7, 3) := by decide +kernel
theorem dX12_cannotBe_56 : decode cX12_cannotBe 56 = .ok (.iload_n 2, 1) := by decide +kernel
theorem dX12_cannotBe_57 : decode cX12_cannotBe 57 = .ok (.iconst 2, 1) := by decide +kernel
theorem dX12_cannotBe_58 : decode cX12_cannotBe 58 = .ok (.iadd, 1) := by decide +kernel
theorem dX12_cannotBe_59 : decode cX12_cannotBe 59 = .ok (.iaload, 1) := by decide +kernel
theorem dX12_cannotBe_60 : decode cX12_cannotBe 60 = .ok (.invokevirtual 148, 3) := by decide +kernel
theorem dX12_cannotBe_63 : decode cX12_cannotBe 63 = .ok (.ifCond .eq 30, 3) := by decide +kernel
theorem dX12_cannotBe_66 : decode cX12_cannotBe 66 = .ok (.aload_n 0, 1) := by decide +kernel
theorem dX12_cannotBe_67 : decode cX12_cannotBe 67 = .ok (.getfield 7, 3) := by decide +kernel
theorem dX12_cannotBe_70 : decode cX12_cannotBe 70 = .ok (.iload_n 2, 1) := by decide +kernel
theorem dX12_cannotBe_71 : decode cX12_cannotBe 71 = .ok (.iconst 3, 1) := by decide +kernel
theorem dX12_cannotBe_72 : decode cX12_cannotBe 72 = .ok (.iadd, 1) := by decide +kernel
theorem dX12_cannotBe_73 : decode cX12_cannotBe 73 = .ok (.iaload, 1) := by decide +kernel
theorem dX12_cannotBe_74 : decode cX12_cannotBe 74 = .ok (.bipush 26, 2) := by decide +kernel
theorem dX12_cannotBe_76 : decode cX12_cannotBe 76 = .ok (.idiv, 1) := by decide +kernel
theorem dX12_cannotBe_77 : decode cX12_cannotBe 77 = .ok (.ifCond .ne 16, 3) := by decide +kernel
theorem dX12_cannotBe_80 : decode cX12_cannotBe 80 = .ok (.aload_n 0, 1) := by decide +kernel
theorem dX12_cannotBe_81 : decode cX12_cannotBe 81 = .ok (.getfield 27, 3) := by decide +kernel
theorem dX12_cannotBe_84 : decode cX12_cannotBe 84 = .ok (.iload_n 1, 1) := by decide +kernel
theorem dX12_cannotBe_85 : decode cX12_cannotBe 85 = .ok (.iaload, 1) := by decide +kernel
theorem dX12_cannotBe_86 : decode cX12_cannotBe 86 = .ok (.ifCond .ne 7, 3) := by decide +kernel
theorem dX12_cannotBe_89 : decode cX12_cannotBe 89 = .ok (.iconst 1, 1) := by decide +kernel
theorem dX12_cannotBe_90 : decode cX12_cannotBe 90 = .ok (.goto 4, 3) := by decide +kernel
theorem dX12_cannotBe_93 : decode cX12_cannotBe 93 = .ok (.iconst 0, 1) := by decide +kernel
theorem dX12_cannotBe_94 : decode cX12_cannotBe 94 = .ok (.istore 4, 2) := by decide +kernel
theorem dX12_cannotBe_96 : decode cX12_cannotBe 96 = .ok (.iconst 0, 1) := by decide +kernel
theorem dX12_cannotBe_97 : decode cX12_cannotBe 97 = .ok (.istore 5, 2) := by decide +kernel
theorem dX12_cannotBe_99 : decode cX12_cannotBe 99 = .ok (.iload 5, 2) := by decide +kernel
theorem dX12_cannotBe_101 : decode cX12_cannotBe 101 = .ok (.aload_n 0, 1) := by decide +kernel
theorem dX12_cannotBe_102 : decode cX12_cannotBe 102 = .ok (.getfield 7, 3) := by decide +kernel
theorem dX12_cannotBe_105 : decode cX12_cannotBe 105 = .ok (.iconst 3, 1) := by decide +kernel
theorem dX12_cannotBe_106 : decode cX12_cannotBe 106 = .ok (.iaload, 1) := by decide +kernel
theorem dX12_cannotBe_107 : decode cX12_cannotBe 107 = .ok (.if_icmp .ge 105, 3) := by decide +kernel
theorem dX12_cannotBe_110 : decode cX12_cannotBe 110 = .ok (.iload 5, 2) := by decide +kernel
theorem dX12_cannotBe_112 : decode cX12_cannotBe 112 = .ok (.invokestatic 155, 3) := by decide +kernel
theorem dX12_cannotBe_115 : decode cX12_cannotBe 115 = .ok (.istore 6, 2) := by decide +kernel
theorem dX12_cannotBe_117 : decode cX12_cannotBe 117 = .ok (.iload 4, 2) := by decide +kernel
theorem dX12_cannotBe_119 : decode cX12_cannotBe 119 = .ok (.ifCond .ne 80, 3) := by decide +kernel
theorem dX12_cannotBe_122 : decode cX12_cannotBe 122 = .ok (.aload_n 0, 1) := by decide +kernel
theorem dX12_cannotBe_123 : decode cX12_cannotBe 123 = .ok (.getfield 21, 3) := by decide +kernel
theorem dX12_cannotBe_126 : decode cX12_cannotBe 126 = .ok (.iload 5, 2) := by decide +kernel
theorem dX12_cannotBe_128 : decode cX12_cannotBe 128 = .ok (.baload, 1) := by decide +kernel
theorem dX12_cannotBe_129 : decode cX12_cannotBe 129 = .ok (.ifCond .eq 74, 3) := by decide +kernel
theorem dX12_cannotBe_132 : decode cX12_cannotBe 132 = .ok (.aload_n 0, 1) := by decide +kernel
theorem dX12_cannotBe_133 : decode cX12_cannotBe 133 = .ok (.getfield 27, 3) := by decide +kernel
theorem dX12_cannotBe_136 : decode cX12_cannotBe 136 = .ok (.iload 5, 2) := by decide +kernel
theorem dX12_cannotBe_138 : decode cX12_cannotBe 138 = .ok (.iaload, 1) := by decide +kernel
theorem dX12_cannotBe_139 : decode cX12_cannotBe 139 = .ok (.iconst 2, 1) := by decide +kernel
theorem dX12_cannotBe_140 : decode cX12_cannotBe 140 = .ok (.if_icmp .ge 63, 3) := by decide +kernel
theorem dX12_cannotBe_143 : decode cX12_cannotBe 143 = .ok (.aload_n 0, 1) := by decide +kernel
theorem dX12_cannotBe_144 : decode cX12_cannotBe 144 = .ok (.getfield 7, 3) := by decide +kernel
theorem dX12_cannotBe_147 : decode cX12_cannotBe 147 = .ok (.iload 6, 2) := by decide +kernel
theorem dX12_cannotBe_149 : decode cX12_cannotBe 149 = .ok (.iconst 1, 1) := by decide +kernel
theorem dX12_cannotBe_150 : decode cX12_cannotBe 150 = .ok (.iadd, 1) := by decide +kernel
theorem dX12_cannotBe_151 : decode cX12_cannotBe 151 = .ok (.iaload, 1) := by decide +kernel
theorem dX12_cannotBe_152 : decode cX12_cannotBe 152 = .ok (.aload_n 0, 1) := by decide +kernel
theorem dX12_cannotBe_153 : decode cX12_cannotBe 153 = .ok (.getfield 7, 3) := by decide +kernel
theorem dX12_cannotBe_156 : decode cX12_cannotBe 156 = .ok (.iload_n 2, 1) := by decide +kernel
theorem dX12_cannotBe_157 : decode cX12_cannotBe 157 = .ok (.iconst 1, 1) := by decide +kernel
theorem dX12_cannotBe_158 : decode cX12_cannotBe 158 = .ok (.iadd, 1) := by decide +kernel
theorem dX12_cannotBe_159 : decode cX12_cannotBe 159 = .ok (.iaload, 1) := by decide +kernel
theorem dX12_cannotBe_160 : decode cX12_cannotBe 160 = .ok (.if_icmp .ne 43, 3) := by decide +kernel
theorem dX12_cannotBe_163 : decode cX12_cannotBe 163 = .ok (.aload_n 0, 1) := by decide +kernel
theorem dX12_cannotBe_164 : decode cX12_cannotBe 164 = .ok (.getfield 7, 3) := by decide +kernel
theorem dX12_cannotBe_167 : decode cX12_cannotBe 167 = .ok (.iload 6, 2) := by decide +kernel
theorem dX12_cannotBe_169 : decode cX12_cannotBe 169 = .ok (.iconst 2, 1) := by decide +kernel
theorem dX12_cannotBe_170 : decode cX12_cannotBe 170 = .ok (.iadd, 1) := by decide +kernel
theorem dX12_cannotBe_171 : decode cX12_cannotBe 171 = .ok (.iaload, 1) := by decide +kernel
theorem dX12_cannotBe_172 : decode cX12_cannotBe 172 = .ok (.aload_n 0, 1) := by decide +kernel
theorem dX12_cannotBe_173 : decode cX12_cannotBe 173 = .ok (.getfield 7, 3) := by decide +kernel
theorem dX12_cannotBe_176 : decode cX12_cannotBe 176 = .ok (.iload_n 2, 1) := by decide +kernel
theorem dX12_cannotBe_177 : decode cX12_cannotBe 177 = .ok (.iconst 2, 1) := by decide +kernel
theorem dX12_cannotBe_178 : decode cX12_cannotBe 178 = .ok (.iadd, 1) := by decide +kernel
theorem dX12_cannotBe_179 : decode cX12_cannotBe 179 = .ok (.iaload, 1) := by decide +kernel
theorem dX12_cannotBe_180 : decode cX12_cannotBe 180 = .ok (.if_icmp .ne 23, 3) := by decide +kernel
theorem dX12_cannotBe_183 : decode cX12_cannotBe 183 = .ok (.aload_n 0, 1) := by decide +kernel
theorem dX12_cannotBe_184 : decode cX12_cannotBe 184 = .ok (.getfield 7, 3) := by decide +kernel
theorem dX12_cannotBe_187 : decode cX12_cannotBe 187 = .ok (.iload 6, 2) := by decide +kernel
theorem dX12_cannotBe_189 : decode cX12_cannotBe 189 = .ok (.iaload, 1) := by decide +kernel
theorem dX12_cannotBe_190 : decode cX12_cannotBe 190 = .ok (.aload_n 0, 1) := by decide +kernel
theorem dX12_cannotBe_191 : decode cX12_cannotBe 191 = .ok (.getfield 7, 3) := by decide +kernel
theorem dX12_cannotBe_194 : decode cX12_cannotBe 194 = .ok (.iload_n 2, 1) := by decide +kernel
theorem dX12_cannotBe_195 : decode cX12_cannotBe 195 = .ok (.iaload, 1) := by decide +kernel
theorem dX12_cannotBe_196 : decode cX12_cannotBe 196 = .ok (.if_icmp .eq 7, 3) := by decide +kernel
theorem dX12_cannotBe_199 : decode cX12_cannotBe 199 = .ok (.iconst 1, 1) := by decide +kernel
theorem dX12_cannotBe_200 : decode cX12_cannotBe 200 = .ok (.goto 4, 3) := by decide +kernel
theorem dX12_cannotBe_203 : decode cX12_cannotBe 203 = .ok (.iconst 0, 1) := by decide +kernel
theorem dX12_cannotBe_204 : decode cX12_cannotBe 204 = .ok (.istore 4, 2) := by decide +kernel
theorem dX12_cannotBe_206 : decode cX12_cannotBe 206 = .ok (.iinc 5 1, 3) := by decide +kernel
theorem dX12_cannotBe_209 : decode cX12_cannotBe 209 = .ok (.goto (-110), 3) := by decide +kernel
theorem dX12_cannotBe_212 : decode cX12_cannotBe 212 = .ok (.iload 4, 2) := by decide +kernel
theorem dX12_cannotBe_214 : decode cX12_cannotBe 214 = .ok (.ireturn, 1) := by decide +kernel
theorem dX12_child_0 : decode cX12_child 0 = .ok (.aload_n 0, 1) := by decide +kernel
theorem dX12_child_1 : decode cX12_child 1 = .ok (.iconst 0, 1) := by decide +kernel
theorem dX12_child_2 : decode cX12_child 2 = .ok (.putfield 92, 3) := by decide +kernel
theorem dX12_child_5 : decode cX12_child 5 = .ok (.iload_n 1, 1) := by decide +kernel
theorem dX12_child_6 : decode cX12_child 6 = .ok (.i2l, 1) := by decide +kernel
theorem dX12_child_7 : decode cX12_child 7 = .ok (.ldc2_w 110, 3) := by decide +kernel
theorem dX12_child_10 : decode cX12_child 10 = .ok (.ldc2_w 112, 3) := by decide +kernel
theorem dX12_child_13 : decode cX12_child 13 = .ok (.invokestatic 100, 3) := by decide +kernel
theorem dX12_child_16 : decode cX12_child 16 = .ok (.ifCond .eq 43, 3) := by decide +kernel
theorem dX12_child_19 : decode cX12_child 19 = .ok (.iload_n 3, 1) := by decide +kernel
theorem dX12_child_20 : decode cX12_child 20 = .ok (.i2l, 1) := by decide +kernel
theorem dX12_child_21 : decode cX12_child 21 = .ok (.ldc2_w 114, 3) := by decide +kernel
theorem dX12_child_24 : decode cX12_child 24 = .ok (.ldc2_w 116, 3) := by decide +kernel
theorem dX12_child_27 : decode cX12_child 27 = .ok (.invokestatic 100, 3) := by decide +kernel
theorem dX12_child_30 : decode cX12_child 30 = .ok (.ifCond .eq 29, 3) := by decide +kernel
theorem dX12_child_33 : decode cX12_child 33 = .ok (.iload 4, 2) := by decide +kernel
theorem dX12_child_35 : decode cX12_child 35 = .ok (.i2l, 1) := by decide +kernel
theorem dX12_child_36 : decode cX12_child 36 = .ok (.lconst 0, 1) := by decide +kernel
theorem dX12_child_37 : decode cX12_child 37 = .ok (.ldc2_w 118, 3) := by decide +kernel
theorem dX12_child_40 : decode cX12_child 40 = .ok (.invokestatic 100, 3) := by decide +kernel
theorem dX12_child_43 : decode cX12_child 43 = .ok (.ifCond .eq 16, 3) := by decide +kernel
theorem dX12_child_46 : decode cX12_child 46 = .ok (.iload 5, 2) := by decide +kernel
theorem dX12_child_48 : decode cX12_child 48 = .ok (.i2l, 1) := by decide +kernel
theorem dX12_child_49 : decode cX12_child 49 = .ok (.lconst 0, 1) := by decide +kernel
theorem dX12_child_50 : decode cX12_child 50 = .ok (.ldc2_w 118, 3) := by decide +kernel
theorem dX12_child_53 : decode cX12_child 53 = .ok (.invokestatic 100, 3) := by decide +kernel
theorem dX12_child_56 : decode cX12_child 56 = .ok (.ifCond .ne 9, 3) := by decide +kernel
theorem dX12_child_59 : decode cX12_child 59 = .ok (.aload_n 0, 1) := by decide +kernel
theorem dX12_child_60 : decode cX12_child 60 = .ok (.iconst (-1), 1) := by decide +kernel
theorem dX12_child_61 : decode cX12_child 61 = .ok (.invokevirtual 106, 3) := by decide +kernel
theorem dX12_child_64 : decode cX12_child 64 = .ok (.ireturn, 1) := by decide +kernel
theorem dX12_child_65 : decode cX12_child 65 = .ok (.aload_n 0, 1) := by decide +kernel
theorem dX12_child_66 : decode cX12_child 66 = .ok (.getfield 7, 3) := by decide +kernel
theorem dX12_child_69 : decode cX12_child 69 = .ok (.iconst 0, 1) := by decide +kernel
theorem dX12_child_70 : decode cX12_child 70 = .ok (.iaload, 1) := by decide +kernel
theorem dX12_child_71 : decode cX12_child 71 = .ok (.bipush 40, 2) := by decide +kernel
theorem dX12_child_73 : decode cX12_child 73 = .ok (.if_icmp .ne 10, 3) := by decide +kernel
theorem dX12_child_76 : decode cX12_child 76 = .ok (.aload_n 0, 1) := by decide +kernel
theorem dX12_child_77 : decode cX12_child 77 = .ok (.bipush (-5), 2) := by decide +kernel
theorem dX12_child_79 : decode cX12_child 79 = .ok (.invokevirtual 106, 3) := by decide +kernel
theorem dX12_child_82 : decode cX12_child 82 = .ok (.ireturn, 1) := by decide +kernel
theorem dX12_child_83 : decode cX12_child 83 = .ok (.aload_n 0, 1) := by decide +kernel
theorem dX12_child_84 : decode cX12_child 84 = .ok (.getfield 7, 3) := by decide +kernel
theorem dX12_child_87 : decode cX12_child 87 = .ok (.iconst 0, 1) := by decide +kernel
theorem dX12_child_88 : decode cX12_child 88 = .ok (.iaload, 1) := by decide +kernel
theorem dX12_child_89 : decode cX12_child 89 = .ok (.invokestatic 120, 3) := by decide +kernel
theorem dX12_child_92 : decode cX12_child 92 = .ok (.istore 6, 2) := by decide +kernel
theorem dX12_child_94 : decode cX12_child 94 = .ok (.aload_n 0, 1) := by decide +kernel
theorem dX12_child_95 : decode cX12_child 95 = .ok (.iload 6, 2) := by decide +kernel
theorem dX12_child_97 : decode cX12_child 97 = .ok (.iload_n 1, 1) := by decide +kernel
theorem dX12_child_98 : decode cX12_child 98 = .ok (.iload_n 2, 1) := by decide +kernel
theorem dX12_child_99 : decode cX12_child 99 = .ok (.ifCond .eq 7, 3) := by decide +kernel
theorem dX12_child_102 : decode cX12_child 102 = .ok (.iconst 1, 1) := by decide +kernel
theorem dX12_child_103 : decode cX12_child 103 = .ok (.goto 4, 3) := by decide +kernel
theorem dX12_child_106 : decode cX12_child 106 = .ok (.iconst 0, 1) := by decide +kernel
theorem dX12_child_107 : decode cX12_child 107 = .ok (.iload_n 3, 1) := by decide +kernel
theorem dX12_child_108 : decode cX12_child 108 = .ok (.iload 4, 2) := by decide +kernel
theorem dX12_child_110 : decode cX12_child 110 = .ok (.invokevirtual 123, 3) := by decide +kernel
theorem dX12_child_113 : decode cX12_child 113 = .ok (.aload_n 0, 1) := by decide +kernel
theorem dX12_child_114 : decode cX12_child 114 = .ok (.getfield 7, 3) := by decide +kernel
theorem dX12_child_117 : decode cX12_child 117 = .ok (.iload 6, 2) := by decide +kernel
theorem dX12_child_119 : decode cX12_child 119 = .ok (.iconst 4, 1) := by decide +kernel
theorem dX12_child_120 : decode cX12_child 120 = .ok (.iadd, 1) := by decide +kernel
theorem dX12_child_121 : decode cX12_child 121 = .ok (.iload 5, 2) := by decide +kernel
theorem dX12_child_123 : decode cX12_child 123 = .ok (.iastore, 1) := by decide +kernel
theorem dX12_child_124 : decode cX12_child 124 = .ok (.iconst 5, 1) := by decide +kernel
theorem dX12_child_125 : decode cX12_child 125 = .ok (.istore 7, 2) := by decide +kernel
theorem dX12_child_127 : decode cX12_child 127 = .ok (.iload 7, 2) := by decide +kernel
theorem dX12_child_129 : decode cX12_child 129 = .ok (.bipush 17, 2) := by decide +kernel
theorem dX12_child_131 : decode cX12_child 131 = .ok (.if_icmp .ge 31, 3) := by decide +kernel
theorem dX12_child_134 : decode cX12_child 134 = .ok (.aload_n 0, 1) := by decide +kernel
theorem dX12_child_135 : decode cX12_child 135 = .ok (.getfield 7, 3) := by decide +kernel
theorem dX12_child_138 : decode cX12_child 138 = .ok (.iload 6, 2) := by decide +kernel
theorem dX12_child_140 : decode cX12_child 140 = .ok (.iload 7, 2) := by decide +kernel
theorem dX12_child_142 : decode cX12_child 142 = .ok (.iadd, 1) := by decide +kernel
theorem dX12_child_143 : decode cX12_child 143 = .ok (.iload 7, 2) := by decide +kernel
theorem dX12_child_145 : decode cX12_child 145 = .ok (.bipush 13, 2) := by decide +kernel
theorem dX12_child_147 : decode cX12_child 147 = .ok (.if_icmp .ge 7, 3) := by decide +kernel
theorem dX12_child_150 : decode cX12_child 150 = .ok (.iconst (-1), 1) := by decide +kernel
theorem dX12_child_151 : decode cX12_child 151 = .ok (.goto 4, 3) := by decide +kernel
theorem dX12_child_154 : decode cX12_child 154 = .ok (.iconst 0, 1) := by decide +kernel
theorem dX12_child_155 : decode cX12_child 155 = .ok (.iastore, 1) := by decide +kernel
theorem dX12_child_156 : decode cX12_child 156 = .ok (.iinc 7 1, 3) := by decide +kernel
theorem dX12_child_159 : decode cX12_child 159 = .ok (.goto (-32), 3) := by decide +kernel
theorem dX12_child_162 : decode cX12_child 162 = .ok (.aload_n 0, 1) := by decide +kernel
theorem dX12_child_163 : decode cX12_child 163 = .ok (.getfield 7, 3) := by decide +kernel
theorem dX12_child_166 : decode cX12_child 166 = .ok (.iconst 0, 1) := by decide +kernel
theorem dX12_child_167 : decode cX12_child 167 = .ok (.dup2, 1) := by decide +kernel
theorem dX12_child_168 : decode cX12_child 168 = .ok (.iaload, 1) := by decide +kernel
theorem dX12_child_169 : decode cX12_child 169 = .ok (.iconst 1, 1) := by decide +kernel
theorem dX12_child_170 : decode cX12_child 170 = .ok (.iadd, 1) := by decide +kernel
theorem dX12_child_171 : decode cX12_child 171 = .ok (.iastore, 1) := by decide +kernel
theorem dX12_child_172 : decode cX12_child 172 = .ok (.aload_n 0, 1) := by decide +kernel
theorem dX12_child_173 : decode cX12_child 173 = .ok (.aload_n 0, 1) := by decide +kernel
theorem dX12_child_174 : decode cX12_child 174 = .ok (.getfield 7, 3) := by decide +kernel
theorem dX12_child_177 : decode cX12_child 177 = .ok (.iconst 0, 1) := by decide +kernel
theorem dX12_child_178 : decode cX12_child 178 = .ok (.iaload, 1) := by decide +kernel
theorem dX12_child_179 : decode cX12_child 179 = .ok (.iconst 1, 1) := by decide +kernel
theorem dX12_child_180 : decode cX12_child 180 = .ok (.isub, 1) := by decide +kernel
theorem dX12_child_181 : decode cX12_child 181 = .ok (.invokevirtual 106, 3) := by decide +kernel
theorem dX12_child_184 : decode cX12_child 184 = .ok (.ireturn, 1) := by decide +kernel
theorem dX12_childAt_0 : decode cX12_childAt 0 = .ok (.bipush 20, 2) := by decide +kernel
theorem dX12_childAt_2 : decode cX12_childAt 2 = .ok (.bipush 17, 2) := by decide +kernel
theorem dX12_childAt_4 : decode cX12_childAt 4 = .ok (.iload_n 0, 1) := by decide +kernel
theorem dX12_childAt_5 : decode cX12_childAt 5 = .ok (.imul, 1) := by decide +kernel
theorem dX12_childAt_6 : decode cX12_childAt 6 = .ok (.iadd, 1) := by decide +kernel
theorem dX12_childAt_7 : decode cX12_childAt 7 = .ok (.ireturn, 1) := by decide +kernel
theorem dX12_clauseAt_0 : decode cX12_clauseAt 0 = .ok (.iload_n 0, 1) := by decide +kernel
theorem dX12_clauseAt_1 : decode cX12_clauseAt 1 = .ok (.invokestatic 403, 3) := by decide +kernel
theorem dX12_clauseAt_4 : decode cX12_clauseAt 4 = .ok (.iconst 2, 1) := by decide +kernel
theorem dX12_clauseAt_5 : decode cX12_clauseAt 5 = .ok (.iadd, 1) := by decide +kernel
theorem dX12_clauseAt_6 : decode cX12_clauseAt 6 = .ok (.bipush 10, 2) := by decide +kernel
theorem dX12_clauseAt_8 : decode cX12_clauseAt 8 = .ok (.iload_n 1, 1) := by decide +kernel
theorem dX12_clauseAt_9 : decode cX12_clauseAt 9 = .ok (.imul, 1) := by decide +kernel
theorem dX12_clauseAt_10 : decode cX12_clauseAt 10 = .ok (.iadd, 1) := by decide +kernel
theorem dX12_clauseAt_11 : decode cX12_clauseAt 11 = .ok (.ireturn, 1) := by decide +kernel
theorem dX12_comes_0 : decode cX12_comes 0 = .ok (.aload_n 0, 1) := by decide +kernel
theorem dX12_comes_1 : decode cX12_comes 1 = .ok (.iconst 0, 1) := by decide +kernel
theorem dX12_comes_2 : decode cX12_comes 2 = .ok (.putfield 92, 3) := by decide +kernel
theorem dX12_comes_5 : decode cX12_comes 5 = .ok (.iload_n 3, 1) := by decide +kernel
theorem dX12_comes_6 : decode cX12_comes 6 = .ok (.invokestatic 127, 3) := by decide +kernel
theorem dX12_comes_9 : decode cX12_comes 9 = .ok (.ifCond .ne 9, 3) := by decide +kernel
theorem dX12_comes_12 : decode cX12_comes 12 = .ok (.aload_n 0, 1) := by decide +kernel
theorem dX12_comes_13 : decode cX12_comes 13 = .ok (.iconst (-1), 1) := by decide +kernel
theorem dX12_comes_14 : decode cX12_comes 14 = .ok (.invokevirtual 106, 3) := by decide +kernel
theorem dX12_comes_17 : decode cX12_comes 17 = .ok (.ireturn, 1) := by decide +kernel
theorem dX12_comes_18 : decode cX12_comes 18 = .ok (.aload_n 0, 1) := by decide +kernel
theorem dX12_comes_19 : decode cX12_comes 19 = .ok (.iload_n 1, 1) := by decide +kernel
theorem dX12_comes_20 : decode cX12_comes 20 = .ok (.invokevirtual 138, 3) := by decide +kernel
theorem dX12_comes_23 : decode cX12_comes 23 = .ok (.ifCond .eq 11, 3) := by decide +kernel
theorem dX12_comes_26 : decode cX12_comes 26 = .ok (.aload_n 0, 1) := by decide +kernel
theorem dX12_comes_27 : decode cX12_comes 27 = .ok (.iload_n 2, 1) := by decide +kernel
theorem dX12_comes_28 : decode cX12_comes 28 = .ok (.invokevirtual 131, 3) := by decide +kernel
theorem dX12_comes_31 : decode cX12_comes 31 = .ok (.ifCond .ne 10, 3) := by decide +kernel
theorem dX12_comes_34 : decode cX12_comes 34 = .ok (.aload_n 0, 1) := by decide +kernel
theorem dX12_comes_35 : decode cX12_comes 35 = .ok (.bipush (-2), 2) := by decide +kernel
theorem dX12_comes_37 : decode cX12_comes 37 = .ok (.invokevirtual 106, 3) := by decide +kernel
theorem dX12_comes_40 : decode cX12_comes 40 = .ok (.ireturn, 1) := by decide +kernel
theorem dX12_comes_41 : decode cX12_comes 41 = .ok (.iconst 0, 1) := by decide +kernel
theorem dX12_comes_42 : decode cX12_comes 42 = .ok (.istore 4, 2) := by decide +kernel
theorem dX12_comes_44 : decode cX12_comes 44 = .ok (.iload 4, 2) := by decide +kernel
theorem dX12_comes_46 : decode cX12_comes 46 = .ok (.aload_n 0, 1) := by decide +kernel
theorem dX12_comes_47 : decode cX12_comes 47 = .ok (.getfield 7, 3) := by decide +kernel
theorem dX12_comes_50 : decode cX12_comes 50 = .ok (.iconst 2, 1) := by decide +kernel
theorem dX12_comes_51 : decode cX12_comes 51 = .ok (.iaload, 1) := by decide +kernel
theorem dX12_comes_52 : decode cX12_comes 52 = .ok (.if_icmp .ge 73, 3) := by decide +kernel
theorem dX12_comes_55 : decode cX12_comes 55 = .ok (.sipush 2700, 3) := by decide +kernel
theorem dX12_comes_58 : decode cX12_comes 58 = .ok (.iconst 5, 1) := by decide +kernel
theorem dX12_comes_59 : decode cX12_comes 59 = .ok (.iload 4, 2) := by decide +kernel
theorem dX12_comes_61 : decode cX12_comes 61 = .ok (.imul, 1) := by decide +kernel
theorem dX12_comes_62 : decode cX12_comes 62 = .ok (.iadd, 1) := by decide +kernel
theorem dX12_comes_63 : decode cX12_comes 63 = .ok (.istore 5, 2) := by decide +kernel
theorem dX12_comes_65 : decode cX12_comes 65 = .ok (.aload_n 0, 1) := by decide +kernel
theorem dX12_comes_66 : decode cX12_comes 66 = .ok (.getfield 7, 3) := by decide +kernel
theorem dX12_comes_69 : decode cX12_comes 69 = .ok (.iload 5, 2) := by decide +kernel
theorem dX12_comes_71 : decode cX12_comes 71 = .ok (.iaload, 1) := by decide +kernel
theorem dX12_comes_72 : decode cX12_comes 72 = .ok (.iload_n 1, 1) := by decide +kernel
theorem dX12_comes_73 : decode cX12_comes 73 = .ok (.if_icmp .ne 46, 3) := by decide +kernel
theorem dX12_comes_76 : decode cX12_comes 76 = .ok (.aload_n 0, 1) := by decide +kernel
theorem dX12_comes_77 : decode cX12_comes 77 = .ok (.getfield 7, 3) := by decide +kernel
theorem dX12_comes_80 : decode cX12_comes 80 = .ok (.iload 5, 2) := by decide +kernel
theorem dX12_comes_82 : decode cX12_comes 82 = .ok (.iconst 1, 1) := by decide +kernel
theorem dX12_comes_83 : decode cX12_comes 83 = .ok (.iadd, 1) := by decide +kernel
theorem dX12_comes_84 : decode cX12_comes 84 = .ok (.iaload, 1) := by decide +kernel
theorem dX12_comes_85 : decode cX12_comes 85 = .ok (.iload_n 2, 1) := by decide +kernel
theorem dX12_comes_86 : decode cX12_comes 86 = .ok (.if_icmp .ne 33, 3) := by decide +kernel
theorem dX12_comes_89 : decode cX12_comes 89 = .ok (.aload_n 0, 1) := by decide +kernel
theorem dX12_comes_90 : decode cX12_comes 90 = .ok (.iload 4, 2) := by decide +kernel
theorem dX12_comes_92 : decode cX12_comes 92 = .ok (.iload_n 3, 1) := by decide +kernel
theorem dX12_comes_93 : decode cX12_comes 93 = .ok (.invokevirtual 134, 3) := by decide +kernel
theorem dX12_comes_96 : decode cX12_comes 96 = .ok (.ifCond .ne 16, 3) := by decide +kernel
theorem dX12_comes_99 : decode cX12_comes 99 = .ok (.aload_n 0, 1) := by decide +kernel
theorem dX12_comes_100 : decode cX12_comes 100 = .ok (.getfield 7, 3) := by decide +kernel
theorem dX12_comes_103 : decode cX12_comes 103 = .ok (.iload 5, 2) := by decide +kernel
theorem dX12_comes_105 : decode cX12_comes 105 = .ok (.iconst 2, 1) := by decide +kernel
theorem dX12_comes_106 : decode cX12_comes 106 = .ok (.iadd, 1) := by decide +kernel
theorem dX12_comes_107 : decode cX12_comes 107 = .ok (.iaload, 1) := by decide +kernel
theorem dX12_comes_108 : decode cX12_comes 108 = .ok (.iload_n 3, 1) := by decide +kernel
theorem dX12_comes_109 : decode cX12_comes 109 = .ok (.if_icmp .lt 10, 3) := by decide +kernel
theorem dX12_comes_112 : decode cX12_comes 112 = .ok (.aload_n 0, 1) := by decide +kernel
theorem dX12_comes_113 : decode cX12_comes 113 = .ok (.bipush (-3), 2) := by decide +kernel
theorem dX12_comes_115 : decode cX12_comes 115 = .ok (.invokevirtual 106, 3) := by decide +kernel
theorem dX12_comes_118 : decode cX12_comes 118 = .ok (.ireturn, 1) := by decide +kernel
theorem dX12_comes_119 : decode cX12_comes 119 = .ok (.iinc 4 1, 3) := by decide +kernel
theorem dX12_comes_122 : decode cX12_comes 122 = .ok (.goto (-78), 3) := by decide +kernel
theorem dX12_comes_125 : decode cX12_comes 125 = .ok (.aload_n 0, 1) := by decide +kernel
theorem dX12_comes_126 : decode cX12_comes 126 = .ok (.getfield 7, 3) := by decide +kernel
theorem dX12_comes_129 : decode cX12_comes 129 = .ok (.iconst 2, 1) := by decide +kernel
theorem dX12_comes_130 : decode cX12_comes 130 = .ok (.iaload, 1) := by decide +kernel
theorem dX12_comes_131 : decode cX12_comes 131 = .ok (.bipush 120, 2) := by decide +kernel
theorem dX12_comes_133 : decode cX12_comes 133 = .ok (.if_icmp .ne 10, 3) := by decide +kernel
theorem dX12_comes_136 : decode cX12_comes 136 = .ok (.aload_n 0, 1) := by decide +kernel
theorem dX12_comes_137 : decode cX12_comes 137 = .ok (.bipush (-5), 2) := by decide +kernel
theorem dX12_comes_139 : decode cX12_comes 139 = .ok (.invokevirtual 106, 3) := by decide +kernel
theorem dX12_comes_142 : decode cX12_comes 142 = .ok (.ireturn, 1) := by decide +kernel
theorem dX12_comes_143 : decode cX12_comes 143 = .ok (.sipush 2700, 3) := by decide +kernel
theorem dX12_comes_146 : decode cX12_comes 146 = .ok (.iconst 5, 1) := by decide +kernel
theorem dX12_comes_147 : decode cX12_comes 147 = .ok (.aload_n 0, 1) := by decide +kernel
theorem dX12_comes_148 : decode cX12_comes 148 = .ok (.getfield 7, 3) := by decide +kernel
theorem dX12_comes_151 : decode cX12_comes 151 = .ok (.iconst 2, 1) := by decide +kernel
theorem dX12_comes_152 : decode cX12_comes 152 = .ok (.iaload, 1) := by decide +kernel
theorem dX12_comes_153 : decode cX12_comes 153 = .ok (.imul, 1) := by decide +kernel
theorem dX12_comes_154 : decode cX12_comes 154 = .ok (.iadd, 1) := by decide +kernel
theorem dX12_comes_155 : decode cX12_comes 155 = .ok (.istore 4, 2) := by decide +kernel
theorem dX12_comes_157 : decode cX12_comes 157 = .ok (.aload_n 0, 1) := by decide +kernel
theorem dX12_comes_158 : decode cX12_comes 158 = .ok (.iload 4, 2) := by decide +kernel
theorem dX12_comes_160 : decode cX12_comes 160 = .ok (.iload_n 1, 1) := by decide +kernel
theorem dX12_comes_161 : decode cX12_comes 161 = .ok (.iload_n 2, 1) := by decide +kernel
theorem dX12_comes_162 : decode cX12_comes 162 = .ok (.iload_n 3, 1) := by decide +kernel
theorem dX12_comes_163 : decode cX12_comes 163 = .ok (.iconst (-1), 1) := by decide +kernel
theorem dX12_comes_164 : decode cX12_comes 164 = .ok (.invokevirtual 123, 3) := by decide +kernel
theorem dX12_comes_167 : decode cX12_comes 167 = .ok (.aload_n 0, 1) := by decide +kernel
theorem dX12_comes_168 : decode cX12_comes 168 = .ok (.getfield 7, 3) := by decide +kernel
theorem dX12_comes_171 : decode cX12_comes 171 = .ok (.iload 4, 2) := by decide +kernel
theorem dX12_comes_173 : decode cX12_comes 173 = .ok (.iconst 4, 1) := by decide +kernel
theorem dX12_comes_174 : decode cX12_comes 174 = .ok (.iadd, 1) := by decide +kernel
theorem dX12_comes_175 : decode cX12_comes 175 = .ok (.iconst (-1), 1) := by decide +kernel
theorem dX12_comes_176 : decode cX12_comes 176 = .ok (.iastore, 1) := by decide +kernel
theorem dX12_comes_177 : decode cX12_comes 177 = .ok (.aload_n 0, 1) := by decide +kernel
theorem dX12_comes_178 : decode cX12_comes 178 = .ok (.getfield 7, 3) := by decide +kernel
theorem dX12_comes_181 : decode cX12_comes 181 = .ok (.iconst 2, 1) := by decide +kernel
theorem dX12_comes_182 : decode cX12_comes 182 = .ok (.dup2, 1) := by decide +kernel
theorem dX12_comes_183 : decode cX12_comes 183 = .ok (.iaload, 1) := by decide +kernel
theorem dX12_comes_184 : decode cX12_comes 184 = .ok (.iconst 1, 1) := by decide +kernel
theorem dX12_comes_185 : decode cX12_comes 185 = .ok (.iadd, 1) := by decide +kernel
theorem dX12_comes_186 : decode cX12_comes 186 = .ok (.iastore, 1) := by decide +kernel
theorem dX12_comes_187 : decode cX12_comes 187 = .ok (.aload_n 0, 1) := by decide +kernel
theorem dX12_comes_188 : decode cX12_comes 188 = .ok (.aload_n 0, 1) := by decide +kernel
theorem dX12_comes_189 : decode cX12_comes 189 = .ok (.getfield 7, 3) := by decide +kernel
theorem dX12_comes_192 : decode cX12_comes 192 = .ok (.iconst 2, 1) := by decide +kernel
theorem dX12_comes_193 : decode cX12_comes 193 = .ok (.iaload, 1) := by decide +kernel
theorem dX12_comes_194 : decode cX12_comes 194 = .ok (.invokevirtual 106, 3) := by decide +kernel
theorem dX12_comes_197 : decode cX12_comes 197 = .ok (.ireturn, 1) := by decide +kernel
theorem dX12_common_0 : decode cX12_common 0 = .ok (.lload_n 0, 1) := by decide +kernel
theorem dX12_common_1 : decode cX12_common 1 = .ok (.lstore 4, 2) := by decide +kernel
theorem dX12_common_3 : decode cX12_common 3 = .ok (.lload_n 2, 1) := by decide +kernel
theorem dX12_common_4 : decode cX12_common 4 = .ok (.lstore 6, 2) := by decide +kernel
theorem dX12_common_6 : decode cX12_common 6 = .ok (.lload 6, 2) := by decide +kernel
theorem dX12_common_8 : decode cX12_common 8 = .ok (.lconst 0, 1) := by decide +kernel
theorem dX12_common_9 : decode cX12_common 9 = .ok (.lcmp, 1) := by decide +kernel
theorem dX12_common_10 : decode cX12_common 10 = .ok (.ifCond .eq 21, 3) := by decide +kernel
theorem dX12_common_13 : decode cX12_common 13 = .ok (.lload 4, 2) := by decide +kernel
theorem dX12_common_15 : decode cX12_common 15 = .ok (.lload 6, 2) := by decide +kernel
theorem dX12_common_17 : decode cX12_common 17 = .ok (.lrem, 1) := by decide +kernel
theorem dX12_common_18 : decode cX12_common 18 = .ok (.lstore 8, 2) := by decide +kernel
theorem dX12_common_20 : decode cX12_common 20 = .ok (.lload 6, 2) := by decide +kernel
theorem dX12_common_22 : decode cX12_common 22 = .ok (.lstore 4, 2) := by decide +kernel
theorem dX12_common_24 : decode cX12_common 24 = .ok (.lload 8, 2) := by decide +kernel
theorem dX12_common_26 : decode cX12_common 26 = .ok (.lstore 6, 2) := by decide +kernel
theorem dX12_common_28 : decode cX12_common 28 = .ok (.goto (-22), 3) := by decide +kernel
theorem dX12_common_31 : decode cX12_common 31 = .ok (.lload 4, 2) := by decide +kernel
theorem dX12_common_33 : decode cX12_common 33 = .ok (.lreturn, 1) := by decide +kernel
theorem dX12_count_0 : decode cX12_count 0 = .ok (.aload_n 0, 1) := by decide +kernel
theorem dX12_count_1 : decode cX12_count 1 = .ok (.iconst 0, 1) := by decide +kernel
theorem dX12_count_2 : decode cX12_count 2 = .ok (.putfield 92, 3) := by decide +kernel
theorem dX12_count_5 : decode cX12_count 5 = .ok (.iload_n 1, 1) := by decide +kernel
theorem dX12_count_6 : decode cX12_count 6 = .ok (.tableswitch 125 0 9 #[54, 61, 68, 75, 82, 89, 96, 104, 112, 120], 54) := by decide +kernel
theorem dX12_count_60 : decode cX12_count 60 = .ok (.aload_n 0, 1) := by decide +kernel
theorem dX12_count_61 : decode cX12_count 61 = .ok (.getfield 7, 3) := by decide +kernel
theorem dX12_count_64 : decode cX12_count 64 = .ok (.iconst 0, 1) := by decide +kernel
theorem dX12_count_65 : decode cX12_count 65 = .ok (.iaload, 1) := by decide +kernel
theorem dX12_count_66 : decode cX12_count 66 = .ok (.ireturn, 1) := by decide +kernel
theorem dX12_count_67 : decode cX12_count 67 = .ok (.aload_n 0, 1) := by decide +kernel
theorem dX12_count_68 : decode cX12_count 68 = .ok (.getfield 7, 3) := by decide +kernel
theorem dX12_count_71 : decode cX12_count 71 = .ok (.iconst 1, 1) := by decide +kernel
theorem dX12_count_72 : decode cX12_count 72 = .ok (.iaload, 1) := by decide +kernel
theorem dX12_count_73 : decode cX12_count 73 = .ok (.ireturn, 1) := by decide +kernel
theorem dX12_count_74 : decode cX12_count 74 = .ok (.aload_n 0, 1) := by decide +kernel
theorem dX12_count_75 : decode cX12_count 75 = .ok (.getfield 7, 3) := by decide +kernel
theorem dX12_count_78 : decode cX12_count 78 = .ok (.iconst 2, 1) := by decide +kernel
theorem dX12_count_79 : decode cX12_count 79 = .ok (.iaload, 1) := by decide +kernel
theorem dX12_count_80 : decode cX12_count 80 = .ok (.ireturn, 1) := by decide +kernel
theorem dX12_count_81 : decode cX12_count 81 = .ok (.aload_n 0, 1) := by decide +kernel
theorem dX12_count_82 : decode cX12_count 82 = .ok (.getfield 7, 3) := by decide +kernel
theorem dX12_count_85 : decode cX12_count 85 = .ok (.iconst 3, 1) := by decide +kernel
theorem dX12_count_86 : decode cX12_count 86 = .ok (.iaload, 1) := by decide +kernel
theorem dX12_count_87 : decode cX12_count 87 = .ok (.ireturn, 1) := by decide +kernel
theorem dX12_count_88 : decode cX12_count 88 = .ok (.aload_n 0, 1) := by decide +kernel
theorem dX12_count_89 : decode cX12_count 89 = .ok (.getfield 7, 3) := by decide +kernel
theorem dX12_count_92 : decode cX12_count 92 = .ok (.iconst 4, 1) := by decide +kernel
theorem dX12_count_93 : decode cX12_count 93 = .ok (.iaload, 1) := by decide +kernel
theorem dX12_count_94 : decode cX12_count 94 = .ok (.ireturn, 1) := by decide +kernel
theorem dX12_count_95 : decode cX12_count 95 = .ok (.aload_n 0, 1) := by decide +kernel
theorem dX12_count_96 : decode cX12_count 96 = .ok (.getfield 7, 3) := by decide +kernel
theorem dX12_count_99 : decode cX12_count 99 = .ok (.iconst 5, 1) := by decide +kernel
theorem dX12_count_100 : decode cX12_count 100 = .ok (.iaload, 1) := by decide +kernel
theorem dX12_count_101 : decode cX12_count 101 = .ok (.ireturn, 1) := by decide +kernel
theorem dX12_count_102 : decode cX12_count 102 = .ok (.aload_n 0, 1) := by decide +kernel
theorem dX12_count_103 : decode cX12_count 103 = .ok (.getfield 7, 3) := by decide +kernel
theorem dX12_count_106 : decode cX12_count 106 = .ok (.bipush 6, 2) := by decide +kernel
theorem dX12_count_108 : decode cX12_count 108 = .ok (.iaload, 1) := by decide +kernel
theorem dX12_count_109 : decode cX12_count 109 = .ok (.ireturn, 1) := by decide +kernel
theorem dX12_count_110 : decode cX12_count 110 = .ok (.aload_n 0, 1) := by decide +kernel
theorem dX12_count_111 : decode cX12_count 111 = .ok (.getfield 7, 3) := by decide +kernel
theorem dX12_count_114 : decode cX12_count 114 = .ok (.bipush 7, 2) := by decide +kernel
theorem dX12_count_116 : decode cX12_count 116 = .ok (.iaload, 1) := by decide +kernel
theorem dX12_count_117 : decode cX12_count 117 = .ok (.ireturn, 1) := by decide +kernel
theorem dX12_count_118 : decode cX12_count 118 = .ok (.aload_n 0, 1) := by decide +kernel
theorem dX12_count_119 : decode cX12_count 119 = .ok (.getfield 7, 3) := by decide +kernel
theorem dX12_count_122 : decode cX12_count 122 = .ok (.bipush 8, 2) := by decide +kernel
theorem dX12_count_124 : decode cX12_count 124 = .ok (.iaload, 1) := by decide +kernel
theorem dX12_count_125 : decode cX12_count 125 = .ok (.ireturn, 1) := by decide +kernel
theorem dX12_count_126 : decode cX12_count 126 = .ok (.aload_n 0, 1) := by decide +kernel
theorem dX12_count_127 : decode cX12_count 127 = .ok (.getfield 193, 3) := by decide +kernel
theorem dX12_count_130 : decode cX12_count 130 = .ok (.ireturn, 1) := by decide +kernel
theorem dX12_count_131 : decode cX12_count 131 = .ok (.iconst (-1), 1) := by decide +kernel
theorem dX12_count_132 : decode cX12_count 132 = .ok (.ireturn, 1) := by decide +kernel
theorem dX12_countsIn_0 : decode cX12_countsIn 0 = .ok (.iconst (-1), 1) := by decide +kernel
theorem dX12_countsIn_1 : decode cX12_countsIn 1 = .ok (.istore 4, 2) := by decide +kernel
theorem dX12_countsIn_3 : decode cX12_countsIn 3 = .ok (.iconst 0, 1) := by decide +kernel
theorem dX12_countsIn_4 : decode cX12_countsIn 4 = .ok (.istore 5, 2) := by decide +kernel
theorem dX12_countsIn_6 : decode cX12_countsIn 6 = .ok (.iload 5, 2) := by decide +kernel
theorem dX12_countsIn_8 : decode cX12_countsIn 8 = .ok (.aload_n 0, 1) := by decide +kernel
theorem dX12_countsIn_9 : decode cX12_countsIn 9 = .ok (.getfield 7, 3) := by decide +kernel
theorem dX12_countsIn_12 : decode cX12_countsIn 12 = .ok (.iconst 3, 1) := by decide +kernel
theorem dX12_countsIn_13 : decode cX12_countsIn 13 = .ok (.iaload, 1) := by decide +kernel
theorem dX12_countsIn_14 : decode cX12_countsIn 14 = .ok (.if_icmp .ge 72, 3) := by decide +kernel
theorem dX12_countsIn_17 : decode cX12_countsIn 17 = .ok (.iload 5, 2) := by decide +kernel
theorem dX12_countsIn_19 : decode cX12_countsIn 19 = .ok (.invokestatic 155, 3) := by decide +kernel
theorem dX12_countsIn_22 : decode cX12_countsIn 22 = .ok (.istore 6, 2) := by decide +kernel
theorem dX12_countsIn_24 : decode cX12_countsIn 24 = .ok (.aload_n 0, 1) := by decide +kernel
theorem dX12_countsIn_25 : decode cX12_countsIn 25 = .ok (.getfield 21, 3) := by decide +kernel
theorem dX12_countsIn_28 : decode cX12_countsIn 28 = .ok (.iload 5, 2) := by decide +kernel
theorem dX12_countsIn_30 : decode cX12_countsIn 30 = .ok (.baload, 1) := by decide +kernel
theorem dX12_countsIn_31 : decode cX12_countsIn 31 = .ok (.ifCond .eq 45, 3) := by decide +kernel
theorem dX12_countsIn_34 : decode cX12_countsIn 34 = .ok (.aload_n 0, 1) := by decide +kernel
theorem dX12_countsIn_35 : decode cX12_countsIn 35 = .ok (.getfield 7, 3) := by decide +kernel
theorem dX12_countsIn_38 : decode cX12_countsIn 38 = .ok (.iload 6, 2) := by decide +kernel
theorem dX12_countsIn_40 : decode cX12_countsIn 40 = .ok (.iaload, 1) := by decide +kernel
theorem dX12_countsIn_41 : decode cX12_countsIn 41 = .ok (.iload_n 1, 1) := by decide +kernel
theorem dX12_countsIn_42 : decode cX12_countsIn 42 = .ok (.if_icmp .ne 34, 3) := by decide +kernel
theorem dX12_countsIn_45 : decode cX12_countsIn 45 = .ok (.aload_n 0, 1) := by decide +kernel
theorem dX12_countsIn_46 : decode cX12_countsIn 46 = .ok (.getfield 7, 3) := by decide +kernel
theorem dX12_countsIn_49 : decode cX12_countsIn 49 = .ok (.iload 6, 2) := by decide +kernel
theorem dX12_countsIn_51 : decode cX12_countsIn 51 = .ok (.iconst 1, 1) := by decide +kernel
theorem dX12_countsIn_52 : decode cX12_countsIn 52 = .ok (.iadd, 1) := by decide +kernel
theorem dX12_countsIn_53 : decode cX12_countsIn 53 = .ok (.iaload, 1) := by decide +kernel
theorem dX12_countsIn_54 : decode cX12_countsIn 54 = .ok (.iload_n 2, 1) := by decide +kernel
theorem dX12_countsIn_55 : decode cX12_countsIn 55 = .ok (.if_icmp .ne 21, 3) := by decide +kernel
theorem dX12_countsIn_58 : decode cX12_countsIn 58 = .ok (.aload_n 0, 1) := by decide +kernel
theorem dX12_countsIn_59 : decode cX12_countsIn 59 = .ok (.getfield 7, 3) := by decide +kernel
theorem dX12_countsIn_62 : decode cX12_countsIn 62 = .ok (.iload 6, 2) := by decide +kernel
theorem dX12_countsIn_64 : decode cX12_countsIn 64 = .ok (.iconst 2, 1) := by decide +kernel
theorem dX12_countsIn_65 : decode cX12_countsIn 65 = .ok (.iadd, 1) := by decide +kernel
theorem dX12_countsIn_66 : decode cX12_countsIn 66 = .ok (.iaload, 1) := by decide +kernel
theorem dX12_countsIn_67 : decode cX12_countsIn 67 = .ok (.iload_n 3, 1) := by decide +kernel
theorem dX12_countsIn_68 : decode cX12_countsIn 68 = .ok (.if_icmp .ne 8, 3) := by decide +kernel
theorem dX12_countsIn_71 : decode cX12_countsIn 71 = .ok (.iload 5, 2) := by decide +kernel
theorem dX12_countsIn_73 : decode cX12_countsIn 73 = .ok (.goto 5, 3) := by decide +kernel
theorem dX12_countsIn_76 : decode cX12_countsIn 76 = .ok (.iload 4, 2) := by decide +kernel
theorem dX12_countsIn_78 : decode cX12_countsIn 78 = .ok (.istore 4, 2) := by decide +kernel
theorem dX12_countsIn_80 : decode cX12_countsIn 80 = .ok (.iinc 5 1, 3) := by decide +kernel
theorem dX12_countsIn_83 : decode cX12_countsIn 83 = .ok (.goto (-77), 3) := by decide +kernel
theorem dX12_countsIn_86 : decode cX12_countsIn 86 = .ok (.iload 4, 2) := by decide +kernel
theorem dX12_countsIn_88 : decode cX12_countsIn 88 = .ok (.ireturn, 1) := by decide +kernel
theorem dX12_dip_0 : decode cX12_dip 0 = .ok (.aload_n 0, 1) := by decide +kernel
theorem dX12_dip_1 : decode cX12_dip 1 = .ok (.iconst 0, 1) := by decide +kernel
theorem dX12_dip_2 : decode cX12_dip 2 = .ok (.putfield 92, 3) := by decide +kernel
theorem dX12_dip_5 : decode cX12_dip 5 = .ok (.aload_n 0, 1) := by decide +kernel
theorem dX12_dip_6 : decode cX12_dip 6 = .ok (.iload_n 1, 1) := by decide +kernel
theorem dX12_dip_7 : decode cX12_dip 7 = .ok (.invokevirtual 131, 3) := by decide +kernel
theorem dX12_dip_10 : decode cX12_dip 10 = .ok (.ifCond .eq 42, 3) := by decide +kernel
theorem dX12_dip_13 : decode cX12_dip 13 = .ok (.iload_n 3, 1) := by decide +kernel
theorem dX12_dip_14 : decode cX12_dip 14 = .ok (.invokestatic 145, 3) := by decide +kernel
theorem dX12_dip_17 : decode cX12_dip 17 = .ok (.ifCond .eq 35, 3) := by decide +kernel
theorem dX12_dip_20 : decode cX12_dip 20 = .ok (.iload_n 2, 1) := by decide +kernel
theorem dX12_dip_21 : decode cX12_dip 21 = .ok (.i2l, 1) := by decide +kernel
theorem dX12_dip_22 : decode cX12_dip 22 = .ok (.lconst 0, 1) := by decide +kernel
theorem dX12_dip_23 : decode cX12_dip 23 = .ok (.iload_n 3, 1) := by decide +kernel
theorem dX12_dip_24 : decode cX12_dip 24 = .ok (.i2l, 1) := by decide +kernel
theorem dX12_dip_25 : decode cX12_dip 25 = .ok (.invokestatic 100, 3) := by decide +kernel
theorem dX12_dip_28 : decode cX12_dip 28 = .ok (.ifCond .eq 24, 3) := by decide +kernel
theorem dX12_dip_31 : decode cX12_dip 31 = .ok (.iload 4, 2) := by decide +kernel
theorem dX12_dip_33 : decode cX12_dip 33 = .ok (.invokestatic 127, 3) := by decide +kernel
theorem dX12_dip_36 : decode cX12_dip 36 = .ok (.ifCond .eq 16, 3) := by decide +kernel
theorem dX12_dip_39 : decode cX12_dip 39 = .ok (.iload 5, 2) := by decide +kernel
theorem dX12_dip_41 : decode cX12_dip 41 = .ok (.i2l, 1) := by decide +kernel
theorem dX12_dip_42 : decode cX12_dip 42 = .ok (.lconst 0, 1) := by decide +kernel
theorem dX12_dip_43 : decode cX12_dip 43 = .ok (.ldc2_w 110, 3) := by decide +kernel
theorem dX12_dip_46 : decode cX12_dip 46 = .ok (.invokestatic 100, 3) := by decide +kernel
theorem dX12_dip_49 : decode cX12_dip 49 = .ok (.ifCond .ne 5, 3) := by decide +kernel
theorem dX12_dip_52 : decode cX12_dip 52 = .ok (.iconst (-1), 1) := by decide +kernel
theorem dX12_dip_53 : decode cX12_dip 53 = .ok (.ireturn, 1) := by decide +kernel
theorem dX12_dip_54 : decode cX12_dip 54 = .ok (.aload_n 0, 1) := by decide +kernel
theorem dX12_dip_55 : decode cX12_dip 55 = .ok (.iload 4, 2) := by decide +kernel
theorem dX12_dip_57 : decode cX12_dip 57 = .ok (.invokevirtual 186, 3) := by decide +kernel
theorem dX12_dip_60 : decode cX12_dip 60 = .ok (.aload_n 0, 1) := by decide +kernel
theorem dX12_dip_61 : decode cX12_dip 61 = .ok (.iconst (-1), 1) := by decide +kernel
theorem dX12_dip_62 : decode cX12_dip 62 = .ok (.iload_n 1, 1) := by decide +kernel
theorem dX12_dip_63 : decode cX12_dip 63 = .ok (.iload_n 2, 1) := by decide +kernel
theorem dX12_dip_64 : decode cX12_dip 64 = .ok (.iload_n 3, 1) := by decide +kernel
theorem dX12_dip_65 : decode cX12_dip 65 = .ok (.invokevirtual 450, 3) := by decide +kernel
theorem dX12_dip_68 : decode cX12_dip 68 = .ok (.aload_n 0, 1) := by decide +kernel
theorem dX12_dip_69 : decode cX12_dip 69 = .ok (.iload 5, 2) := by decide +kernel
theorem dX12_dip_71 : decode cX12_dip 71 = .ok (.invokevirtual 454, 3) := by decide +kernel
theorem dX12_dip_74 : decode cX12_dip 74 = .ok (.ireturn, 1) := by decide +kernel
theorem dX12_dips_0 : decode cX12_dips 0 = .ok (.aload_n 0, 1) := by decide +kernel
theorem dX12_dips_1 : decode cX12_dips 1 = .ok (.iconst 0, 1) := by decide +kernel
theorem dX12_dips_2 : decode cX12_dips 2 = .ok (.putfield 92, 3) := by decide +kernel
theorem dX12_dips_5 : decode cX12_dips 5 = .ok (.iload_n 1, 1) := by decide +kernel
theorem dX12_dips_6 : decode cX12_dips 6 = .ok (.i2l, 1) := by decide +kernel
theorem dX12_dips_7 : decode cX12_dips 7 = .ok (.lconst 0, 1) := by decide +kernel
theorem dX12_dips_8 : decode cX12_dips 8 = .ok (.ldc2_w 543, 3) := by decide +kernel
theorem dX12_dips_11 : decode cX12_dips 11 = .ok (.invokestatic 100, 3) := by decide +kernel
theorem dX12_dips_14 : decode cX12_dips 14 = .ok (.ifCond .eq 33, 3) := by decide +kernel
theorem dX12_dips_17 : decode cX12_dips 17 = .ok (.iload_n 2, 1) := by decide +kernel
theorem dX12_dips_18 : decode cX12_dips 18 = .ok (.invokestatic 127, 3) := by decide +kernel
theorem dX12_dips_21 : decode cX12_dips 21 = .ok (.ifCond .eq 26, 3) := by decide +kernel
theorem dX12_dips_24 : decode cX12_dips 24 = .ok (.iload_n 3, 1) := by decide +kernel
theorem dX12_dips_25 : decode cX12_dips 25 = .ok (.i2l, 1) := by decide +kernel
theorem dX12_dips_26 : decode cX12_dips 26 = .ok (.lconst 1, 1) := by decide +kernel
theorem dX12_dips_27 : decode cX12_dips 27 = .ok (.ldc2_w 251, 3) := by decide +kernel
theorem dX12_dips_30 : decode cX12_dips 30 = .ok (.invokestatic 100, 3) := by decide +kernel
theorem dX12_dips_33 : decode cX12_dips 33 = .ok (.ifCond .eq 14, 3) := by decide +kernel
theorem dX12_dips_36 : decode cX12_dips 36 = .ok (.iload 4, 2) := by decide +kernel
theorem dX12_dips_38 : decode cX12_dips 38 = .ok (.i2l, 1) := by decide +kernel
theorem dX12_dips_39 : decode cX12_dips 39 = .ok (.lconst 0, 1) := by decide +kernel
theorem dX12_dips_40 : decode cX12_dips 40 = .ok (.lconst 1, 1) := by decide +kernel
theorem dX12_dips_41 : decode cX12_dips 41 = .ok (.invokestatic 100, 3) := by decide +kernel
theorem dX12_dips_44 : decode cX12_dips 44 = .ok (.ifCond .ne 5, 3) := by decide +kernel
theorem dX12_dips_47 : decode cX12_dips 47 = .ok (.iconst (-1), 1) := by decide +kernel
theorem dX12_dips_48 : decode cX12_dips 48 = .ok (.ireturn, 1) := by decide +kernel
theorem dX12_dips_49 : decode cX12_dips 49 = .ok (.aload_n 0, 1) := by decide +kernel
theorem dX12_dips_50 : decode cX12_dips 50 = .ok (.iload_n 2, 1) := by decide +kernel
theorem dX12_dips_51 : decode cX12_dips 51 = .ok (.invokevirtual 186, 3) := by decide +kernel
theorem dX12_dips_54 : decode cX12_dips 54 = .ok (.iconst 0, 1) := by decide +kernel
theorem dX12_dips_55 : decode cX12_dips 55 = .ok (.istore 5, 2) := by decide +kernel
theorem dX12_dips_57 : decode cX12_dips 57 = .ok (.lconst 0, 1) := by decide +kernel
theorem dX12_dips_58 : decode cX12_dips 58 = .ok (.lstore 6, 2) := by decide +kernel
theorem dX12_dips_60 : decode cX12_dips 60 = .ok (.lconst 0, 1) := by decide +kernel
theorem dX12_dips_61 : decode cX12_dips 61 = .ok (.lstore 8, 2) := by decide +kernel
theorem dX12_dips_63 : decode cX12_dips 63 = .ok (.iconst 0, 1) := by decide +kernel
theorem dX12_dips_64 : decode cX12_dips 64 = .ok (.istore 10, 2) := by decide +kernel
theorem dX12_dips_66 : decode cX12_dips 66 = .ok (.iload 10, 2) := by decide +kernel
theorem dX12_dips_68 : decode cX12_dips 68 = .ok (.aload_n 0, 1) := by decide +kernel
theorem dX12_dips_69 : decode cX12_dips 69 = .ok (.getfield 7, 3) := by decide +kernel
theorem dX12_dips_72 : decode cX12_dips 72 = .ok (.iconst 1, 1) := by decide +kernel
theorem dX12_dips_73 : decode cX12_dips 73 = .ok (.iaload, 1) := by decide +kernel
theorem dX12_dips_74 : decode cX12_dips 74 = .ok (.if_icmp .ge 86, 3) := by decide +kernel
theorem dX12_dips_77 : decode cX12_dips 77 = .ok (.aload_n 0, 1) := by decide +kernel
theorem dX12_dips_78 : decode cX12_dips 78 = .ok (.iconst (-1), 1) := by decide +kernel
theorem dX12_dips_79 : decode cX12_dips 79 = .ok (.iload 10, 2) := by decide +kernel
theorem dX12_dips_81 : decode cX12_dips 81 = .ok (.bipush 14, 2) := by decide +kernel
theorem dX12_dips_83 : decode cX12_dips 83 = .ok (.iload_n 1, 1) := by decide +kernel
theorem dX12_dips_84 : decode cX12_dips 84 = .ok (.imul, 1) := by decide +kernel
theorem dX12_dips_85 : decode cX12_dips 85 = .ok (.bipush 14, 2) := by decide +kernel
theorem dX12_dips_87 : decode cX12_dips 87 = .ok (.iload_n 1, 1) := by decide +kernel
theorem dX12_dips_88 : decode cX12_dips 88 = .ok (.imul, 1) := by decide +kernel
theorem dX12_dips_89 : decode cX12_dips 89 = .ok (.bipush 13, 2) := by decide +kernel
theorem dX12_dips_91 : decode cX12_dips 91 = .ok (.iadd, 1) := by decide +kernel
theorem dX12_dips_92 : decode cX12_dips 92 = .ok (.invokevirtual 450, 3) := by decide +kernel
theorem dX12_dips_95 : decode cX12_dips 95 = .ok (.aload_n 0, 1) := by decide +kernel
theorem dX12_dips_96 : decode cX12_dips 96 = .ok (.getfield 83, 3) := by decide +kernel
theorem dX12_dips_99 : decode cX12_dips 99 = .ok (.iload 10, 2) := by decide +kernel
theorem dX12_dips_101 : decode cX12_dips 101 = .ok (.aload_n 0, 1) := by decide +kernel
theorem dX12_dips_102 : decode cX12_dips 102 = .ok (.getfield 440, 3) := by decide +kernel
theorem dX12_dips_105 : decode cX12_dips 105 = .ok (.iastore, 1) := by decide +kernel
theorem dX12_dips_106 : decode cX12_dips 106 = .ok (.aload_n 0, 1) := by decide +kernel
theorem dX12_dips_107 : decode cX12_dips 107 = .ok (.getfield 86, 3) := by decide +kernel
theorem dX12_dips_110 : decode cX12_dips 110 = .ok (.iload 10, 2) := by decide +kernel
theorem dX12_dips_112 : decode cX12_dips 112 = .ok (.aload_n 0, 1) := by decide +kernel
theorem dX12_dips_113 : decode cX12_dips 113 = .ok (.getfield 443, 3) := by decide +kernel
theorem dX12_dips_116 : decode cX12_dips 116 = .ok (.iastore, 1) := by decide +kernel
theorem dX12_dips_117 : decode cX12_dips 117 = .ok (.iload 5, 2) := by decide +kernel
theorem dX12_dips_119 : decode cX12_dips 119 = .ok (.aload_n 0, 1) := by decide +kernel
theorem dX12_dips_120 : decode cX12_dips 120 = .ok (.getfield 440, 3) := by decide +kernel
theorem dX12_dips_123 : decode cX12_dips 123 = .ok (.ifCond .le 7, 3) := by decide +kernel
theorem dX12_dips_126 : decode cX12_dips 126 = .ok (.iconst 1, 1) := by decide +kernel
theorem dX12_dips_127 : decode cX12_dips 127 = .ok (.goto 4, 3) := by decide +kernel
theorem dX12_dips_130 : decode cX12_dips 130 = .ok (.iconst 0, 1) := by decide +kernel
theorem dX12_dips_131 : decode cX12_dips 131 = .ok (.iadd, 1) := by decide +kernel
theorem dX12_dips_132 : decode cX12_dips 132 = .ok (.istore 5, 2) := by decide +kernel
theorem dX12_dips_134 : decode cX12_dips 134 = .ok (.lload 6, 2) := by decide +kernel
theorem dX12_dips_136 : decode cX12_dips 136 = .ok (.aload_n 0, 1) := by decide +kernel
theorem dX12_dips_137 : decode cX12_dips 137 = .ok (.getfield 440, 3) := by decide +kernel
theorem dX12_dips_140 : decode cX12_dips 140 = .ok (.i2l, 1) := by decide +kernel
theorem dX12_dips_141 : decode cX12_dips 141 = .ok (.ladd, 1) := by decide +kernel
theorem dX12_dips_142 : decode cX12_dips 142 = .ok (.lstore 6, 2) := by decide +kernel
theorem dX12_dips_144 : decode cX12_dips 144 = .ok (.lload 8, 2) := by decide +kernel
theorem dX12_dips_146 : decode cX12_dips 146 = .ok (.aload_n 0, 1) := by decide +kernel
theorem dX12_dips_147 : decode cX12_dips 147 = .ok (.getfield 443, 3) := by decide +kernel
theorem dX12_dips_150 : decode cX12_dips 150 = .ok (.i2l, 1) := by decide +kernel
theorem dX12_dips_151 : decode cX12_dips 151 = .ok (.ladd, 1) := by decide +kernel
theorem dX12_dips_152 : decode cX12_dips 152 = .ok (.lstore 8, 2) := by decide +kernel
theorem dX12_dips_154 : decode cX12_dips 154 = .ok (.iinc 10 1, 3) := by decide +kernel
theorem dX12_dips_157 : decode cX12_dips 157 = .ok (.goto (-91), 3) := by decide +kernel
theorem dX12_dips_160 : decode cX12_dips 160 = .ok (.iload 4, 2) := by decide +kernel
theorem dX12_dips_162 : decode cX12_dips 162 = .ok (.iconst 1, 1) := by decide +kernel
theorem dX12_dips_163 : decode cX12_dips 163 = .ok (.if_icmp .ne 6, 3) := by decide +kernel
theorem dX12_dips_166 : decode cX12_dips 166 = .ok (.iload 5, 2) := by decide +kernel
theorem dX12_dips_168 : decode cX12_dips 168 = .ok (.ireturn, 1) := by decide +kernel
theorem dX12_dips_169 : decode cX12_dips 169 = .ok (.iconst 0, 1) := by decide +kernel
theorem dX12_dips_170 : decode cX12_dips 170 = .ok (.istore 10, 2) := by decide +kernel
theorem dX12_dips_172 : decode cX12_dips 172 = .ok (.iconst 0, 1) := by decide +kernel
theorem dX12_dips_173 : decode cX12_dips 173 = .ok (.istore 11, 2) := by decide +kernel
theorem dX12_dips_175 : decode cX12_dips 175 = .ok (.iload 11, 2) := by decide +kernel
theorem dX12_dips_177 : decode cX12_dips 177 = .ok (.aload_n 0, 1) := by decide +kernel
theorem dX12_dips_178 : decode cX12_dips 178 = .ok (.getfield 7, 3) := by decide +kernel
theorem dX12_dips_181 : decode cX12_dips 181 = .ok (.iconst 1, 1) := by decide +kernel
theorem dX12_dips_182 : decode cX12_dips 182 = .ok (.iaload, 1) := by decide +kernel
theorem dX12_dips_183 : decode cX12_dips 183 = .ok (.if_icmp .ge 118, 3) := by decide +kernel
theorem dX12_dips_186 : decode cX12_dips 186 = .ok (.aload_n 0, 1) := by decide +kernel
theorem dX12_dips_187 : decode cX12_dips 187 = .ok (.getfield 83, 3) := by decide +kernel
theorem dX12_dips_190 : decode cX12_dips 190 = .ok (.iload 11, 2) := by decide +kernel
theorem dX12_dips_192 : decode cX12_dips 192 = .ok (.iaload, 1) := by decide +kernel
theorem dX12_dips_193 : decode cX12_dips 193 = .ok (.i2l, 1) := by decide +kernel
theorem dX12_dips_194 : decode cX12_dips 194 = .ok (.lstore 12, 2) := by decide +kernel
theorem dX12_dips_196 : decode cX12_dips 196 = .ok (.aload_n 0, 1) := by decide +kernel
theorem dX12_dips_197 : decode cX12_dips 197 = .ok (.getfield 86, 3) := by decide +kernel
theorem dX12_dips_200 : decode cX12_dips 200 = .ok (.iload 11, 2) := by decide +kernel
theorem dX12_dips_202 : decode cX12_dips 202 = .ok (.iaload, 1) := by decide +kernel
theorem dX12_dips_203 : decode cX12_dips 203 = .ok (.i2l, 1) := by decide +kernel
theorem dX12_dips_204 : decode cX12_dips 204 = .ok (.lload 6, 2) := by decide +kernel
theorem dX12_dips_206 : decode cX12_dips 206 = .ok (.lmul, 1) := by decide +kernel
theorem dX12_dips_207 : decode cX12_dips 207 = .ok (.lload 12, 2) := by decide +kernel
theorem dX12_dips_209 : decode cX12_dips 209 = .ok (.lload 8, 2) := by decide +kernel
theorem dX12_dips_211 : decode cX12_dips 211 = .ok (.lmul, 1) := by decide +kernel
theorem dX12_dips_212 : decode cX12_dips 212 = .ok (.lsub, 1) := by decide +kernel
theorem dX12_dips_213 : decode cX12_dips 213 = .ok (.lstore 14, 2) := by decide +kernel
theorem dX12_dips_215 : decode cX12_dips 215 = .ok (.lload 12, 2) := by decide +kernel
theorem dX12_dips_217 : decode cX12_dips 217 = .ok (.lconst 0, 1) := by decide +kernel
theorem dX12_dips_218 : decode cX12_dips 218 = .ok (.lcmp, 1) := by decide +kernel
theorem dX12_dips_219 : decode cX12_dips 219 = .ok (.ifCond .le 55, 3) := by decide +kernel
theorem dX12_dips_222 : decode cX12_dips 222 = .ok (.lload 14, 2) := by decide +kernel
theorem dX12_dips_224 : decode cX12_dips 224 = .ok (.lconst 0, 1) := by decide +kernel
theorem dX12_dips_225 : decode cX12_dips 225 = .ok (.lcmp, 1) := by decide +kernel
theorem dX12_dips_226 : decode cX12_dips 226 = .ok (.ifCond .le 48, 3) := by decide +kernel
theorem dX12_dips_229 : decode cX12_dips 229 = .ok (.lload 14, 2) := by decide +kernel
theorem dX12_dips_231 : decode cX12_dips 231 = .ok (.lload 14, 2) := by decide +kernel
theorem dX12_dips_233 : decode cX12_dips 233 = .ok (.lmul, 1) := by decide +kernel
theorem dX12_dips_234 : decode cX12_dips 234 = .ok (.lload 6, 2) := by decide +kernel
theorem dX12_dips_236 : decode cX12_dips 236 = .ok (.lconst 1, 1) := by decide +kernel
theorem dX12_dips_237 : decode cX12_dips 237 = .ok (.lsub, 1) := by decide +kernel
theorem dX12_dips_238 : decode cX12_dips 238 = .ok (.lmul, 1) := by decide +kernel
theorem dX12_dips_239 : decode cX12_dips 239 = .ok (.iload_n 3, 1) := by decide +kernel
theorem dX12_dips_240 : decode cX12_dips 240 = .ok (.i2l, 1) := by decide +kernel
theorem dX12_dips_241 : decode cX12_dips 241 = .ok (.iload_n 3, 1) := by decide +kernel
theorem dX12_dips_242 : decode cX12_dips 242 = .ok (.i2l, 1) := by decide +kernel
theorem dX12_dips_243 : decode cX12_dips 243 = .ok (.lmul, 1) := by decide +kernel
theorem dX12_dips_244 : decode cX12_dips 244 = .ok (.iload 5, 2) := by decide +kernel
theorem dX12_dips_246 : decode cX12_dips 246 = .ok (.i2l, 1) := by decide +kernel
theorem dX12_dips_247 : decode cX12_dips 247 = .ok (.lmul, 1) := by decide +kernel
theorem dX12_dips_248 : decode cX12_dips 248 = .ok (.lload 12, 2) := by decide +kernel
theorem dX12_dips_250 : decode cX12_dips 250 = .ok (.lmul, 1) := by decide +kernel
theorem dX12_dips_251 : decode cX12_dips 251 = .ok (.lload 8, 2) := by decide +kernel
theorem dX12_dips_253 : decode cX12_dips 253 = .ok (.lmul, 1) := by decide +kernel
theorem dX12_dips_254 : decode cX12_dips 254 = .ok (.lload 6, 2) := by decide +kernel
theorem dX12_dips_256 : decode cX12_dips 256 = .ok (.lload 12, 2) := by decide +kernel
theorem dX12_dips_258 : decode cX12_dips 258 = .ok (.lsub, 1) := by decide +kernel
theorem dX12_dips_259 : decode cX12_dips 259 = .ok (.lmul, 1) := by decide +kernel
theorem dX12_dips_260 : decode cX12_dips 260 = .ok (.lload 6, 2) := by decide +kernel
theorem dX12_dips_262 : decode cX12_dips 262 = .ok (.lload 8, 2) := by decide +kernel
theorem dX12_dips_264 : decode cX12_dips 264 = .ok (.lsub, 1) := by decide +kernel
theorem dX12_dips_265 : decode cX12_dips 265 = .ok (.lmul, 1) := by decide +kernel
theorem dX12_dips_266 : decode cX12_dips 266 = .ok (.lcmp, 1) := by decide +kernel
theorem dX12_dips_267 : decode cX12_dips 267 = .ok (.ifCond .le 7, 3) := by decide +kernel
theorem dX12_dips_270 : decode cX12_dips 270 = .ok (.iconst 1, 1) := by decide +kernel
theorem dX12_dips_271 : decode cX12_dips 271 = .ok (.goto 4, 3) := by decide +kernel
theorem dX12_dips_274 : decode cX12_dips 274 = .ok (.iconst 0, 1) := by decide +kernel
theorem dX12_dips_275 : decode cX12_dips 275 = .ok (.istore 16, 2) := by decide +kernel
theorem dX12_dips_277 : decode cX12_dips 277 = .ok (.iload 10, 2) := by decide +kernel
theorem dX12_dips_279 : decode cX12_dips 279 = .ok (.iload 16, 2) := by decide +kernel
theorem dX12_dips_281 : decode cX12_dips 281 = .ok (.ifCond .eq 10, 3) := by decide +kernel
theorem dX12_dips_284 : decode cX12_dips 284 = .ok (.iconst 1, 1) := by decide +kernel
theorem dX12_dips_285 : decode cX12_dips 285 = .ok (.iload 11, 2) := by decide +kernel
theorem dX12_dips_287 : decode cX12_dips 287 = .ok (.ishl, 1) := by decide +kernel
theorem dX12_dips_288 : decode cX12_dips 288 = .ok (.goto 4, 3) := by decide +kernel
theorem dX12_dips_291 : decode cX12_dips 291 = .ok (.iconst 0, 1) := by decide +kernel
theorem dX12_dips_292 : decode cX12_dips 292 = .ok (.ior, 1) := by decide +kernel
theorem dX12_dips_293 : decode cX12_dips 293 = .ok (.istore 10, 2) := by decide +kernel
theorem dX12_dips_295 : decode cX12_dips 295 = .ok (.iinc 11 1, 3) := by decide +kernel
theorem dX12_dips_298 : decode cX12_dips 298 = .ok (.goto (-123), 3) := by decide +kernel
theorem dX12_dips_301 : decode cX12_dips 301 = .ok (.iload 10, 2) := by decide +kernel
theorem dX12_dips_303 : decode cX12_dips 303 = .ok (.ireturn, 1) := by decide +kernel
theorem dX12_doesStand_0 : decode cX12_doesStand 0 = .ok (.aload_n 0, 1) := by decide +kernel
theorem dX12_doesStand_1 : decode cX12_doesStand 1 = .ok (.iload_n 3, 1) := by decide +kernel
theorem dX12_doesStand_2 : decode cX12_doesStand 2 = .ok (.invokevirtual 186, 3) := by decide +kernel
theorem dX12_doesStand_5 : decode cX12_doesStand 5 = .ok (.aload_n 0, 1) := by decide +kernel
theorem dX12_doesStand_6 : decode cX12_doesStand 6 = .ok (.iload_n 1, 1) := by decide +kernel
theorem dX12_doesStand_7 : decode cX12_doesStand 7 = .ok (.invokevirtual 463, 3) := by decide +kernel
theorem dX12_doesStand_10 : decode cX12_doesStand 10 = .ok (.iconst 1, 1) := by decide +kernel
theorem dX12_doesStand_11 : decode cX12_doesStand 11 = .ok (.istore 4, 2) := by decide +kernel
theorem dX12_doesStand_13 : decode cX12_doesStand 13 = .ok (.iconst 0, 1) := by decide +kernel
theorem dX12_doesStand_14 : decode cX12_doesStand 14 = .ok (.istore 5, 2) := by decide +kernel
theorem dX12_doesStand_16 : decode cX12_doesStand 16 = .ok (.iload 5, 2) := by decide +kernel
theorem dX12_doesStand_18 : decode cX12_doesStand 18 = .ok (.iload_n 2, 1) := by decide +kernel
theorem dX12_doesStand_19 : decode cX12_doesStand 19 = .ok (.if_icmp .gt 61, 3) := by decide +kernel
theorem dX12_doesStand_22 : decode cX12_doesStand 22 = .ok (.iload 4, 2) := by decide +kernel
theorem dX12_doesStand_24 : decode cX12_doesStand 24 = .ok (.ifCond .eq 56, 3) := by decide +kernel
theorem dX12_doesStand_27 : decode cX12_doesStand 27 = .ok (.aload_n 0, 1) := by decide +kernel
theorem dX12_doesStand_28 : decode cX12_doesStand 28 = .ok (.iload_n 1, 1) := by decide +kernel
theorem dX12_doesStand_29 : decode cX12_doesStand 29 = .ok (.iload 5, 2) := by decide +kernel
theorem dX12_doesStand_31 : decode cX12_doesStand 31 = .ok (.invokevirtual 469, 3) := by decide +kernel
theorem dX12_doesStand_34 : decode cX12_doesStand 34 = .ok (.istore 6, 2) := by decide +kernel
theorem dX12_doesStand_36 : decode cX12_doesStand 36 = .ok (.iload 6, 2) := by decide +kernel
theorem dX12_doesStand_38 : decode cX12_doesStand 38 = .ok (.iconst (-1), 1) := by decide +kernel
theorem dX12_doesStand_39 : decode cX12_doesStand 39 = .ok (.if_icmp .eq 32, 3) := by decide +kernel
theorem dX12_doesStand_42 : decode cX12_doesStand 42 = .ok (.iload 6, 2) := by decide +kernel
theorem dX12_doesStand_44 : decode cX12_doesStand 44 = .ok (.iload_n 3, 1) := by decide +kernel
theorem dX12_doesStand_45 : decode cX12_doesStand 45 = .ok (.if_icmp .gt 26, 3) := by decide +kernel
theorem dX12_doesStand_48 : decode cX12_doesStand 48 = .ok (.aload_n 0, 1) := by decide +kernel
theorem dX12_doesStand_49 : decode cX12_doesStand 49 = .ok (.iload_n 1, 1) := by decide +kernel
theorem dX12_doesStand_50 : decode cX12_doesStand 50 = .ok (.iload 5, 2) := by decide +kernel
theorem dX12_doesStand_52 : decode cX12_doesStand 52 = .ok (.aload_n 0, 1) := by decide +kernel
theorem dX12_doesStand_53 : decode cX12_doesStand 53 = .ok (.iload_n 1, 1) := by decide +kernel
theorem dX12_doesStand_54 : decode cX12_doesStand 54 = .ok (.iload 5, 2) := by decide +kernel
theorem dX12_doesStand_56 : decode cX12_doesStand 56 = .ok (.invokevirtual 472, 3) := by decide +kernel
theorem dX12_doesStand_59 : decode cX12_doesStand 59 = .ok (.invokevirtual 466, 3) := by decide +kernel
theorem dX12_doesStand_62 : decode cX12_doesStand 62 = .ok (.iload 6, 2) := by decide +kernel
theorem dX12_doesStand_64 : decode cX12_doesStand 64 = .ok (.if_icmp .gt 7, 3) := by decide +kernel
theorem dX12_doesStand_67 : decode cX12_doesStand 67 = .ok (.iconst 1, 1) := by decide +kernel
theorem dX12_doesStand_68 : decode cX12_doesStand 68 = .ok (.goto 4, 3) := by decide +kernel
theorem dX12_doesStand_71 : decode cX12_doesStand 71 = .ok (.iconst 0, 1) := by decide +kernel
theorem dX12_doesStand_72 : decode cX12_doesStand 72 = .ok (.istore 4, 2) := by decide +kernel
theorem dX12_doesStand_74 : decode cX12_doesStand 74 = .ok (.iinc 5 1, 3) := by decide +kernel
theorem dX12_doesStand_77 : decode cX12_doesStand 77 = .ok (.goto (-61), 3) := by decide +kernel
theorem dX12_doesStand_80 : decode cX12_doesStand 80 = .ok (.iload 4, 2) := by decide +kernel
theorem dX12_doesStand_82 : decode cX12_doesStand 82 = .ok (.ireturn, 1) := by decide +kernel
theorem dX12_draw_0 : decode cX12_draw 0 = .ok (.aload_n 0, 1) := by decide +kernel
theorem dX12_draw_1 : decode cX12_draw 1 = .ok (.iconst 0, 1) := by decide +kernel
theorem dX12_draw_2 : decode cX12_draw 2 = .ok (.putfield 92, 3) := by decide +kernel
theorem dX12_draw_5 : decode cX12_draw 5 = .ok (.iload_n 2, 1) := by decide +kernel
theorem dX12_draw_6 : decode cX12_draw 6 = .ok (.i2l, 1) := by decide +kernel
theorem dX12_draw_7 : decode cX12_draw 7 = .ok (.lconst 0, 1) := by decide +kernel
theorem dX12_draw_8 : decode cX12_draw 8 = .ok (.lconst 1, 1) := by decide +kernel
theorem dX12_draw_9 : decode cX12_draw 9 = .ok (.invokestatic 100, 3) := by decide +kernel
theorem dX12_draw_12 : decode cX12_draw 12 = .ok (.ifCond .eq 17, 3) := by decide +kernel
theorem dX12_draw_15 : decode cX12_draw 15 = .ok (.iload_n 3, 1) := by decide +kernel
theorem dX12_draw_16 : decode cX12_draw 16 = .ok (.i2l, 1) := by decide +kernel
theorem dX12_draw_17 : decode cX12_draw 17 = .ok (.ldc2_w 545, 3) := by decide +kernel
theorem dX12_draw_20 : decode cX12_draw 20 = .ok (.ldc2_w 547, 3) := by decide +kernel
theorem dX12_draw_23 : decode cX12_draw 23 = .ok (.invokestatic 100, 3) := by decide +kernel
theorem dX12_draw_26 : decode cX12_draw 26 = .ok (.ifCond .ne 9, 3) := by decide +kernel
theorem dX12_draw_29 : decode cX12_draw 29 = .ok (.aload_n 0, 1) := by decide +kernel
theorem dX12_draw_30 : decode cX12_draw 30 = .ok (.iconst (-1), 1) := by decide +kernel
theorem dX12_draw_31 : decode cX12_draw 31 = .ok (.invokevirtual 106, 3) := by decide +kernel
theorem dX12_draw_34 : decode cX12_draw 34 = .ok (.ireturn, 1) := by decide +kernel
theorem dX12_draw_35 : decode cX12_draw 35 = .ok (.aload_n 0, 1) := by decide +kernel
theorem dX12_draw_36 : decode cX12_draw 36 = .ok (.iload_n 1, 1) := by decide +kernel
theorem dX12_draw_37 : decode cX12_draw 37 = .ok (.invokevirtual 138, 3) := by decide +kernel
theorem dX12_draw_40 : decode cX12_draw 40 = .ok (.ifCond .ne 10, 3) := by decide +kernel
theorem dX12_draw_43 : decode cX12_draw 43 = .ok (.aload_n 0, 1) := by decide +kernel
theorem dX12_draw_44 : decode cX12_draw 44 = .ok (.bipush (-2), 2) := by decide +kernel
theorem dX12_draw_46 : decode cX12_draw 46 = .ok (.invokevirtual 106, 3) := by decide +kernel
theorem dX12_draw_49 : decode cX12_draw 49 = .ok (.ireturn, 1) := by decide +kernel
theorem dX12_draw_50 : decode cX12_draw 50 = .ok (.iconst 0, 1) := by decide +kernel
theorem dX12_draw_51 : decode cX12_draw 51 = .ok (.istore 4, 2) := by decide +kernel
theorem dX12_draw_53 : decode cX12_draw 53 = .ok (.iload 4, 2) := by decide +kernel
theorem dX12_draw_55 : decode cX12_draw 55 = .ok (.aload_n 0, 1) := by decide +kernel
theorem dX12_draw_56 : decode cX12_draw 56 = .ok (.getfield 7, 3) := by decide +kernel
theorem dX12_draw_59 : decode cX12_draw 59 = .ok (.bipush 8, 2) := by decide +kernel
theorem dX12_draw_61 : decode cX12_draw 61 = .ok (.iaload, 1) := by decide +kernel
theorem dX12_draw_62 : decode cX12_draw 62 = .ok (.if_icmp .ge 33, 3) := by decide +kernel
theorem dX12_draw_65 : decode cX12_draw 65 = .ok (.aload_n 0, 1) := by decide +kernel
theorem dX12_draw_66 : decode cX12_draw 66 = .ok (.getfield 7, 3) := by decide +kernel
theorem dX12_draw_69 : decode cX12_draw 69 = .ok (.sipush 7025, 3) := by decide +kernel
theorem dX12_draw_72 : decode cX12_draw 72 = .ok (.iconst 3, 1) := by decide +kernel
theorem dX12_draw_73 : decode cX12_draw 73 = .ok (.iload 4, 2) := by decide +kernel
theorem dX12_draw_75 : decode cX12_draw 75 = .ok (.imul, 1) := by decide +kernel
theorem dX12_draw_76 : decode cX12_draw 76 = .ok (.iadd, 1) := by decide +kernel
theorem dX12_draw_77 : decode cX12_draw 77 = .ok (.iaload, 1) := by decide +kernel
theorem dX12_draw_78 : decode cX12_draw 78 = .ok (.iload_n 1, 1) := by decide +kernel
theorem dX12_draw_79 : decode cX12_draw 79 = .ok (.if_icmp .ne 10, 3) := by decide +kernel
theorem dX12_draw_82 : decode cX12_draw 82 = .ok (.aload_n 0, 1) := by decide +kernel
theorem dX12_draw_83 : decode cX12_draw 83 = .ok (.bipush (-4), 2) := by decide +kernel
theorem dX12_draw_85 : decode cX12_draw 85 = .ok (.invokevirtual 106, 3) := by decide +kernel
theorem dX12_draw_88 : decode cX12_draw 88 = .ok (.ireturn, 1) := by decide +kernel
theorem dX12_draw_89 : decode cX12_draw 89 = .ok (.iinc 4 1, 3) := by decide +kernel
theorem dX12_draw_92 : decode cX12_draw 92 = .ok (.goto (-39), 3) := by decide +kernel
theorem dX12_draw_95 : decode cX12_draw 95 = .ok (.aload_n 0, 1) := by decide +kernel
theorem dX12_draw_96 : decode cX12_draw 96 = .ok (.getfield 7, 3) := by decide +kernel
theorem dX12_draw_99 : decode cX12_draw 99 = .ok (.bipush 8, 2) := by decide +kernel
theorem dX12_draw_101 : decode cX12_draw 101 = .ok (.iaload, 1) := by decide +kernel
theorem dX12_draw_102 : decode cX12_draw 102 = .ok (.bipush 12, 2) := by decide +kernel
theorem dX12_draw_104 : decode cX12_draw 104 = .ok (.if_icmp .ne 10, 3) := by decide +kernel
theorem dX12_draw_107 : decode cX12_draw 107 = .ok (.aload_n 0, 1) := by decide +kernel
theorem dX12_draw_108 : decode cX12_draw 108 = .ok (.bipush (-5), 2) := by decide +kernel
theorem dX12_draw_110 : decode cX12_draw 110 = .ok (.invokevirtual 106, 3) := by decide +kernel
theorem dX12_draw_113 : decode cX12_draw 113 = .ok (.ireturn, 1) := by decide +kernel
theorem dX12_draw_114 : decode cX12_draw 114 = .ok (.sipush 7025, 3) := by decide +kernel
theorem dX12_draw_117 : decode cX12_draw 117 = .ok (.iconst 3, 1) := by decide +kernel
theorem dX12_draw_118 : decode cX12_draw 118 = .ok (.aload_n 0, 1) := by decide +kernel
theorem dX12_draw_119 : decode cX12_draw 119 = .ok (.getfield 7, 3) := by decide +kernel
theorem dX12_draw_122 : decode cX12_draw 122 = .ok (.bipush 8, 2) := by decide +kernel
theorem dX12_draw_124 : decode cX12_draw 124 = .ok (.iaload, 1) := by decide +kernel
theorem dX12_draw_125 : decode cX12_draw 125 = .ok (.imul, 1) := by decide +kernel
theorem dX12_draw_126 : decode cX12_draw 126 = .ok (.iadd, 1) := by decide +kernel
theorem dX12_draw_127 : decode cX12_draw 127 = .ok (.istore 4, 2) := by decide +kernel
theorem dX12_draw_129 : decode cX12_draw 129 = .ok (.aload_n 0, 1) := by decide +kernel
theorem dX12_draw_130 : decode cX12_draw 130 = .ok (.getfield 7, 3) := by decide +kernel
theorem dX12_draw_133 : decode cX12_draw 133 = .ok (.iload 4, 2) := by decide +kernel
theorem dX12_draw_135 : decode cX12_draw 135 = .ok (.iload_n 1, 1) := by decide +kernel
theorem dX12_draw_136 : decode cX12_draw 136 = .ok (.iastore, 1) := by decide +kernel
theorem dX12_draw_137 : decode cX12_draw 137 = .ok (.aload_n 0, 1) := by decide +kernel
theorem dX12_draw_138 : decode cX12_draw 138 = .ok (.getfield 7, 3) := by decide +kernel
theorem dX12_draw_141 : decode cX12_draw 141 = .ok (.iload 4, 2) := by decide +kernel
theorem dX12_draw_143 : decode cX12_draw 143 = .ok (.iconst 1, 1) := by decide +kernel
theorem dX12_draw_144 : decode cX12_draw 144 = .ok (.iadd, 1) := by decide +kernel
theorem dX12_draw_145 : decode cX12_draw 145 = .ok (.iload_n 2, 1) := by decide +kernel
theorem dX12_draw_146 : decode cX12_draw 146 = .ok (.iastore, 1) := by decide +kernel
theorem dX12_draw_147 : decode cX12_draw 147 = .ok (.aload_n 0, 1) := by decide +kernel
theorem dX12_draw_148 : decode cX12_draw 148 = .ok (.getfield 7, 3) := by decide +kernel
theorem dX12_draw_151 : decode cX12_draw 151 = .ok (.iload 4, 2) := by decide +kernel
theorem dX12_draw_153 : decode cX12_draw 153 = .ok (.iconst 2, 1) := by decide +kernel
theorem dX12_draw_154 : decode cX12_draw 154 = .ok (.iadd, 1) := by decide +kernel
theorem dX12_draw_155 : decode cX12_draw 155 = .ok (.iload_n 3, 1) := by decide +kernel
theorem dX12_draw_156 : decode cX12_draw 156 = .ok (.iastore, 1) := by decide +kernel
theorem dX12_draw_157 : decode cX12_draw 157 = .ok (.aload_n 0, 1) := by decide +kernel
theorem dX12_draw_158 : decode cX12_draw 158 = .ok (.getfield 7, 3) := by decide +kernel
theorem dX12_draw_161 : decode cX12_draw 161 = .ok (.bipush 8, 2) := by decide +kernel
theorem dX12_draw_163 : decode cX12_draw 163 = .ok (.dup2, 1) := by decide +kernel
theorem dX12_draw_164 : decode cX12_draw 164 = .ok (.iaload, 1) := by decide +kernel
theorem dX12_draw_165 : decode cX12_draw 165 = .ok (.iconst 1, 1) := by decide +kernel
theorem dX12_draw_166 : decode cX12_draw 166 = .ok (.iadd, 1) := by decide +kernel
theorem dX12_draw_167 : decode cX12_draw 167 = .ok (.iastore, 1) := by decide +kernel
theorem dX12_draw_168 : decode cX12_draw 168 = .ok (.aload_n 0, 1) := by decide +kernel
theorem dX12_draw_169 : decode cX12_draw 169 = .ok (.aload_n 0, 1) := by decide +kernel
theorem dX12_draw_170 : decode cX12_draw 170 = .ok (.getfield 7, 3) := by decide +kernel
theorem dX12_draw_173 : decode cX12_draw 173 = .ok (.bipush 8, 2) := by decide +kernel
theorem dX12_draw_175 : decode cX12_draw 175 = .ok (.iaload, 1) := by decide +kernel
theorem dX12_draw_176 : decode cX12_draw 176 = .ok (.invokevirtual 106, 3) := by decide +kernel
theorem dX12_draw_179 : decode cX12_draw 179 = .ok (.ireturn, 1) := by decide +kernel
theorem dX12_due_0 : decode cX12_due 0 = .ok (.aload_n 0, 1) := by decide +kernel
theorem dX12_due_1 : decode cX12_due 1 = .ok (.iconst 0, 1) := by decide +kernel
theorem dX12_due_2 : decode cX12_due 2 = .ok (.putfield 92, 3) := by decide +kernel
theorem dX12_due_5 : decode cX12_due 5 = .ok (.aload_n 0, 1) := by decide +kernel
theorem dX12_due_6 : decode cX12_due 6 = .ok (.iload_n 1, 1) := by decide +kernel
theorem dX12_due_7 : decode cX12_due 7 = .ok (.invokevirtual 138, 3) := by decide +kernel
theorem dX12_due_10 : decode cX12_due 10 = .ok (.ifCond .eq 25, 3) := by decide +kernel
theorem dX12_due_13 : decode cX12_due 13 = .ok (.iload_n 2, 1) := by decide +kernel
theorem dX12_due_14 : decode cX12_due 14 = .ok (.invokestatic 460, 3) := by decide +kernel
theorem dX12_due_17 : decode cX12_due 17 = .ok (.ifCond .eq 18, 3) := by decide +kernel
theorem dX12_due_20 : decode cX12_due 20 = .ok (.iload_n 3, 1) := by decide +kernel
theorem dX12_due_21 : decode cX12_due 21 = .ok (.invokestatic 127, 3) := by decide +kernel
theorem dX12_due_24 : decode cX12_due 24 = .ok (.ifCond .eq 11, 3) := by decide +kernel
theorem dX12_due_27 : decode cX12_due 27 = .ok (.iload 4, 2) := by decide +kernel
theorem dX12_due_29 : decode cX12_due 29 = .ok (.invokestatic 127, 3) := by decide +kernel
theorem dX12_due_32 : decode cX12_due 32 = .ok (.ifCond .ne 5, 3) := by decide +kernel
theorem dX12_due_35 : decode cX12_due 35 = .ok (.iconst (-1), 1) := by decide +kernel
theorem dX12_due_36 : decode cX12_due 36 = .ok (.ireturn, 1) := by decide +kernel
theorem dX12_due_37 : decode cX12_due 37 = .ok (.aload_n 0, 1) := by decide +kernel
theorem dX12_due_38 : decode cX12_due 38 = .ok (.iload 4, 2) := by decide +kernel
theorem dX12_due_40 : decode cX12_due 40 = .ok (.invokevirtual 186, 3) := by decide +kernel
theorem dX12_due_43 : decode cX12_due 43 = .ok (.aload_n 0, 1) := by decide +kernel
theorem dX12_due_44 : decode cX12_due 44 = .ok (.iload_n 1, 1) := by decide +kernel
theorem dX12_due_45 : decode cX12_due 45 = .ok (.invokevirtual 463, 3) := by decide +kernel
theorem dX12_due_48 : decode cX12_due 48 = .ok (.aload_n 0, 1) := by decide +kernel
theorem dX12_due_49 : decode cX12_due 49 = .ok (.iload_n 1, 1) := by decide +kernel
theorem dX12_due_50 : decode cX12_due 50 = .ok (.iload_n 2, 1) := by decide +kernel
theorem dX12_due_51 : decode cX12_due 51 = .ok (.iload_n 3, 1) := by decide +kernel
theorem dX12_due_52 : decode cX12_due 52 = .ok (.invokevirtual 466, 3) := by decide +kernel
theorem dX12_due_55 : decode cX12_due 55 = .ok (.istore 5, 2) := by decide +kernel
theorem dX12_due_57 : decode cX12_due 57 = .ok (.iload 5, 2) := by decide +kernel
theorem dX12_due_59 : decode cX12_due 59 = .ok (.sipush 1000, 3) := by decide +kernel
theorem dX12_due_62 : decode cX12_due 62 = .ok (.if_icmp .ne 7, 3) := by decide +kernel
theorem dX12_due_65 : decode cX12_due 65 = .ok (.iconst (-1), 1) := by decide +kernel
theorem dX12_due_66 : decode cX12_due 66 = .ok (.goto 5, 3) := by decide +kernel
theorem dX12_due_69 : decode cX12_due 69 = .ok (.iload 5, 2) := by decide +kernel
theorem dX12_due_71 : decode cX12_due 71 = .ok (.ireturn, 1) := by decide +kernel
theorem dX12_dueFrom_0 : decode cX12_dueFrom 0 = .ok (.iload_n 2, 1) := by decide +kernel
theorem dX12_dueFrom_1 : decode cX12_dueFrom 1 = .ok (.ifCond .ne 7, 3) := by decide +kernel
theorem dX12_dueFrom_4 : decode cX12_dueFrom 4 = .ok (.iconst 0, 1) := by decide +kernel
theorem dX12_dueFrom_5 : decode cX12_dueFrom 5 = .ok (.goto 13, 3) := by decide +kernel
theorem dX12_dueFrom_8 : decode cX12_dueFrom 8 = .ok (.aload_n 0, 1) := by decide +kernel
theorem dX12_dueFrom_9 : decode cX12_dueFrom 9 = .ok (.iload_n 1, 1) := by decide +kernel
theorem dX12_dueFrom_10 : decode cX12_dueFrom 10 = .ok (.iload_n 2, 1) := by decide +kernel
theorem dX12_dueFrom_11 : decode cX12_dueFrom 11 = .ok (.iconst 1, 1) := by decide +kernel
theorem dX12_dueFrom_12 : decode cX12_dueFrom 12 = .ok (.isub, 1) := by decide +kernel
theorem dX12_dueFrom_13 : decode cX12_dueFrom 13 = .ok (.invokevirtual 469, 3) := by decide +kernel
theorem dX12_dueFrom_16 : decode cX12_dueFrom 16 = .ok (.iconst 1, 1) := by decide +kernel
theorem dX12_dueFrom_17 : decode cX12_dueFrom 17 = .ok (.iadd, 1) := by decide +kernel
theorem dX12_dueFrom_18 : decode cX12_dueFrom 18 = .ok (.ireturn, 1) := by decide +kernel
theorem dX12_dueOf_0 : decode cX12_dueOf 0 = .ok (.iload_n 3, 1) := by decide +kernel
theorem dX12_dueOf_1 : decode cX12_dueOf 1 = .ok (.istore 4, 2) := by decide +kernel
theorem dX12_dueOf_3 : decode cX12_dueOf 3 = .ok (.iload 4, 2) := by decide +kernel
theorem dX12_dueOf_5 : decode cX12_dueOf 5 = .ok (.sipush 399, 3) := by decide +kernel
theorem dX12_dueOf_8 : decode cX12_dueOf 8 = .ok (.if_icmp .gt 110, 3) := by decide +kernel
theorem dX12_dueOf_11 : decode cX12_dueOf 11 = .ok (.aload_n 0, 1) := by decide +kernel
theorem dX12_dueOf_12 : decode cX12_dueOf 12 = .ok (.getfield 68, 3) := by decide +kernel
theorem dX12_dueOf_15 : decode cX12_dueOf 15 = .ok (.iload 4, 2) := by decide +kernel
theorem dX12_dueOf_17 : decode cX12_dueOf 17 = .ok (.iconst 1, 1) := by decide +kernel
theorem dX12_dueOf_18 : decode cX12_dueOf 18 = .ok (.iadd, 1) := by decide +kernel
theorem dX12_dueOf_19 : decode cX12_dueOf 19 = .ok (.iaload, 1) := by decide +kernel
theorem dX12_dueOf_20 : decode cX12_dueOf 20 = .ok (.aload_n 0, 1) := by decide +kernel
theorem dX12_dueOf_21 : decode cX12_dueOf 21 = .ok (.getfield 68, 3) := by decide +kernel
theorem dX12_dueOf_24 : decode cX12_dueOf 24 = .ok (.iload 4, 2) := by decide +kernel
theorem dX12_dueOf_26 : decode cX12_dueOf 26 = .ok (.iaload, 1) := by decide +kernel
theorem dX12_dueOf_27 : decode cX12_dueOf 27 = .ok (.if_icmp .le 85, 3) := by decide +kernel
theorem dX12_dueOf_30 : decode cX12_dueOf 30 = .ok (.aload_n 0, 1) := by decide +kernel
theorem dX12_dueOf_31 : decode cX12_dueOf 31 = .ok (.iload_n 1, 1) := by decide +kernel
theorem dX12_dueOf_32 : decode cX12_dueOf 32 = .ok (.iload 4, 2) := by decide +kernel
theorem dX12_dueOf_34 : decode cX12_dueOf 34 = .ok (.invokevirtual 457, 3) := by decide +kernel
theorem dX12_dueOf_37 : decode cX12_dueOf 37 = .ok (.aload_n 0, 1) := by decide +kernel
theorem dX12_dueOf_38 : decode cX12_dueOf 38 = .ok (.iconst 2, 1) := by decide +kernel
theorem dX12_dueOf_39 : decode cX12_dueOf 39 = .ok (.iload_n 2, 1) := by decide +kernel
theorem dX12_dueOf_40 : decode cX12_dueOf 40 = .ok (.iconst (-1), 1) := by decide +kernel
theorem dX12_dueOf_41 : decode cX12_dueOf 41 = .ok (.invokevirtual 175, 3) := by decide +kernel
theorem dX12_dueOf_44 : decode cX12_dueOf 44 = .ok (.ifCond .eq 68, 3) := by decide +kernel
theorem dX12_dueOf_47 : decode cX12_dueOf 47 = .ok (.aload_n 0, 1) := by decide +kernel
theorem dX12_dueOf_48 : decode cX12_dueOf 48 = .ok (.getfield 433, 3) := by decide +kernel
theorem dX12_dueOf_51 : decode cX12_dueOf 51 = .ok (.lconst 0, 1) := by decide +kernel
theorem dX12_dueOf_52 : decode cX12_dueOf 52 = .ok (.lcmp, 1) := by decide +kernel
theorem dX12_dueOf_53 : decode cX12_dueOf 53 = .ok (.ifCond .le 59, 3) := by decide +kernel
theorem dX12_dueOf_56 : decode cX12_dueOf 56 = .ok (.iload 4, 2) := by decide +kernel
theorem dX12_dueOf_58 : decode cX12_dueOf 58 = .ok (.aload_n 0, 1) := by decide +kernel
theorem dX12_dueOf_59 : decode cX12_dueOf 59 = .ok (.getfield 178, 3) := by decide +kernel
theorem dX12_dueOf_62 : decode cX12_dueOf 62 = .ok (.isub, 1) := by decide +kernel
theorem dX12_dueOf_63 : decode cX12_dueOf 63 = .ok (.iconst 1, 1) := by decide +kernel
theorem dX12_dueOf_64 : decode cX12_dueOf 64 = .ok (.iadd, 1) := by decide +kernel
theorem dX12_dueOf_65 : decode cX12_dueOf 65 = .ok (.ifCond .ge 7, 3) := by decide +kernel
theorem dX12_dueOf_68 : decode cX12_dueOf 68 = .ok (.iconst 0, 1) := by decide +kernel
theorem dX12_dueOf_69 : decode cX12_dueOf 69 = .ok (.goto 12, 3) := by decide +kernel
theorem dX12_dueOf_72 : decode cX12_dueOf 72 = .ok (.iload 4, 2) := by decide +kernel
theorem dX12_dueOf_74 : decode cX12_dueOf 74 = .ok (.aload_n 0, 1) := by decide +kernel
theorem dX12_dueOf_75 : decode cX12_dueOf 75 = .ok (.getfield 178, 3) := by decide +kernel
theorem dX12_dueOf_78 : decode cX12_dueOf 78 = .ok (.isub, 1) := by decide +kernel
theorem dX12_dueOf_79 : decode cX12_dueOf 79 = .ok (.iconst 1, 1) := by decide +kernel
theorem dX12_dueOf_80 : decode cX12_dueOf 80 = .ok (.iadd, 1) := by decide +kernel
theorem dX12_dueOf_81 : decode cX12_dueOf 81 = .ok (.istore 5, 2) := by decide +kernel
theorem dX12_dueOf_83 : decode cX12_dueOf 83 = .ok (.aload_n 0, 1) := by decide +kernel
theorem dX12_dueOf_84 : decode cX12_dueOf 84 = .ok (.getfield 71, 3) := by decide +kernel
theorem dX12_dueOf_87 : decode cX12_dueOf 87 = .ok (.iload 4, 2) := by decide +kernel
theorem dX12_dueOf_89 : decode cX12_dueOf 89 = .ok (.iconst 1, 1) := by decide +kernel
theorem dX12_dueOf_90 : decode cX12_dueOf 90 = .ok (.iadd, 1) := by decide +kernel
theorem dX12_dueOf_91 : decode cX12_dueOf 91 = .ok (.iaload, 1) := by decide +kernel
theorem dX12_dueOf_92 : decode cX12_dueOf 92 = .ok (.aload_n 0, 1) := by decide +kernel
theorem dX12_dueOf_93 : decode cX12_dueOf 93 = .ok (.getfield 71, 3) := by decide +kernel
theorem dX12_dueOf_96 : decode cX12_dueOf 96 = .ok (.iload 5, 2) := by decide +kernel
theorem dX12_dueOf_98 : decode cX12_dueOf 98 = .ok (.iaload, 1) := by decide +kernel
theorem dX12_dueOf_99 : decode cX12_dueOf 99 = .ok (.isub, 1) := by decide +kernel
theorem dX12_dueOf_100 : decode cX12_dueOf 100 = .ok (.i2l, 1) := by decide +kernel
theorem dX12_dueOf_101 : decode cX12_dueOf 101 = .ok (.aload_n 0, 1) := by decide +kernel
theorem dX12_dueOf_102 : decode cX12_dueOf 102 = .ok (.getfield 433, 3) := by decide +kernel
theorem dX12_dueOf_105 : decode cX12_dueOf 105 = .ok (.lcmp, 1) := by decide +kernel
theorem dX12_dueOf_106 : decode cX12_dueOf 106 = .ok (.ifCond .lt 6, 3) := by decide +kernel
theorem dX12_dueOf_109 : decode cX12_dueOf 109 = .ok (.iload 4, 2) := by decide +kernel
theorem dX12_dueOf_111 : decode cX12_dueOf 111 = .ok (.ireturn, 1) := by decide +kernel
theorem dX12_dueOf_112 : decode cX12_dueOf 112 = .ok (.iinc 4 1, 3) := by decide +kernel
theorem dX12_dueOf_115 : decode cX12_dueOf 115 = .ok (.goto (-112), 3) := by decide +kernel
theorem dX12_dueOf_118 : decode cX12_dueOf 118 = .ok (.sipush 1000, 3) := by decide +kernel
theorem dX12_dueOf_121 : decode cX12_dueOf 121 = .ok (.ireturn, 1) := by decide +kernel
theorem dX12_end_0 : decode cX12_end 0 = .ok (.aload_n 0, 1) := by decide +kernel
theorem dX12_end_1 : decode cX12_end 1 = .ok (.iconst 0, 1) := by decide +kernel
theorem dX12_end_2 : decode cX12_end 2 = .ok (.putfield 92, 3) := by decide +kernel
theorem dX12_end_5 : decode cX12_end 5 = .ok (.iload_n 1, 1) := by decide +kernel
theorem dX12_end_6 : decode cX12_end 6 = .ok (.ifCond .lt 11, 3) := by decide +kernel
theorem dX12_end_9 : decode cX12_end 9 = .ok (.iload_n 1, 1) := by decide +kernel
theorem dX12_end_10 : decode cX12_end 10 = .ok (.aload_n 0, 1) := by decide +kernel
theorem dX12_end_11 : decode cX12_end 11 = .ok (.getfield 193, 3) := by decide +kernel
theorem dX12_end_14 : decode cX12_end 14 = .ok (.if_icmp .le 5, 3) := by decide +kernel
theorem dX12_end_17 : decode cX12_end 17 = .ok (.iconst (-1), 1) := by decide +kernel
theorem dX12_end_18 : decode cX12_end 18 = .ok (.ireturn, 1) := by decide +kernel
theorem dX12_end_19 : decode cX12_end 19 = .ok (.aload_n 0, 1) := by decide +kernel
theorem dX12_end_20 : decode cX12_end 20 = .ok (.iload_n 1, 1) := by decide +kernel
theorem dX12_end_21 : decode cX12_end 21 = .ok (.putfield 193, 3) := by decide +kernel
theorem dX12_end_24 : decode cX12_end 24 = .ok (.iload_n 1, 1) := by decide +kernel
theorem dX12_end_25 : decode cX12_end 25 = .ok (.ireturn, 1) := by decide +kernel
theorem dX12_failed_0 : decode cX12_failed 0 = .ok (.aload_n 0, 1) := by decide +kernel
theorem dX12_failed_1 : decode cX12_failed 1 = .ok (.iconst 0, 1) := by decide +kernel
theorem dX12_failed_2 : decode cX12_failed 2 = .ok (.putfield 92, 3) := by decide +kernel
theorem dX12_failed_5 : decode cX12_failed 5 = .ok (.iload_n 1, 1) := by decide +kernel
theorem dX12_failed_6 : decode cX12_failed 6 = .ok (.i2l, 1) := by decide +kernel
theorem dX12_failed_7 : decode cX12_failed 7 = .ok (.lconst 0, 1) := by decide +kernel
theorem dX12_failed_8 : decode cX12_failed 8 = .ok (.ldc2_w 116, 3) := by decide +kernel
theorem dX12_failed_11 : decode cX12_failed 11 = .ok (.invokestatic 100, 3) := by decide +kernel
theorem dX12_failed_14 : decode cX12_failed 14 = .ok (.ifCond .eq 10, 3) := by decide +kernel
theorem dX12_failed_17 : decode cX12_failed 17 = .ok (.iload_n 2, 1) := by decide +kernel
theorem dX12_failed_18 : decode cX12_failed 18 = .ok (.invokestatic 145, 3) := by decide +kernel
theorem dX12_failed_21 : decode cX12_failed 21 = .ok (.ifCond .ne 9, 3) := by decide +kernel
theorem dX12_failed_24 : decode cX12_failed 24 = .ok (.aload_n 0, 1) := by decide +kernel
theorem dX12_failed_25 : decode cX12_failed 25 = .ok (.iconst (-1), 1) := by decide +kernel
theorem dX12_failed_26 : decode cX12_failed 26 = .ok (.invokevirtual 106, 3) := by decide +kernel
theorem dX12_failed_29 : decode cX12_failed 29 = .ok (.ireturn, 1) := by decide +kernel
theorem dX12_failed_30 : decode cX12_failed 30 = .ok (.aload_n 0, 1) := by decide +kernel
theorem dX12_failed_31 : decode cX12_failed 31 = .ok (.iload_n 1, 1) := by decide +kernel
theorem dX12_failed_32 : decode cX12_failed 32 = .ok (.iload_n 2, 1) := by decide +kernel
theorem dX12_failed_33 : decode cX12_failed 33 = .ok (.invokevirtual 148, 3) := by decide +kernel
theorem dX12_failed_36 : decode cX12_failed 36 = .ok (.ifCond .eq 10, 3) := by decide +kernel
theorem dX12_failed_39 : decode cX12_failed 39 = .ok (.aload_n 0, 1) := by decide +kernel
theorem dX12_failed_40 : decode cX12_failed 40 = .ok (.bipush (-4), 2) := by decide +kernel
theorem dX12_failed_42 : decode cX12_failed 42 = .ok (.invokevirtual 106, 3) := by decide +kernel
theorem dX12_failed_45 : decode cX12_failed 45 = .ok (.ireturn, 1) := by decide +kernel
theorem dX12_failed_46 : decode cX12_failed 46 = .ok (.aload_n 0, 1) := by decide +kernel
theorem dX12_failed_47 : decode cX12_failed 47 = .ok (.getfield 7, 3) := by decide +kernel
theorem dX12_failed_50 : decode cX12_failed 50 = .ok (.bipush 9, 2) := by decide +kernel
theorem dX12_failed_52 : decode cX12_failed 52 = .ok (.iaload, 1) := by decide +kernel
theorem dX12_failed_53 : decode cX12_failed 53 = .ok (.bipush 60, 2) := by decide +kernel
theorem dX12_failed_55 : decode cX12_failed 55 = .ok (.if_icmp .ne 10, 3) := by decide +kernel
theorem dX12_failed_58 : decode cX12_failed 58 = .ok (.aload_n 0, 1) := by decide +kernel
theorem dX12_failed_59 : decode cX12_failed 59 = .ok (.bipush (-5), 2) := by decide +kernel
theorem dX12_failed_61 : decode cX12_failed 61 = .ok (.invokevirtual 106, 3) := by decide +kernel
theorem dX12_failed_64 : decode cX12_failed 64 = .ok (.ireturn, 1) := by decide +kernel
theorem dX12_failed_65 : decode cX12_failed 65 = .ok (.aload_n 0, 1) := by decide +kernel
theorem dX12_failed_66 : decode cX12_failed 66 = .ok (.getfield 7, 3) := by decide +kernel
theorem dX12_failed_69 : decode cX12_failed 69 = .ok (.sipush 3300, 3) := by decide +kernel
theorem dX12_failed_72 : decode cX12_failed 72 = .ok (.iconst 2, 1) := by decide +kernel
theorem dX12_failed_73 : decode cX12_failed 73 = .ok (.aload_n 0, 1) := by decide +kernel
theorem dX12_failed_74 : decode cX12_failed 74 = .ok (.getfield 7, 3) := by decide +kernel
theorem dX12_failed_77 : decode cX12_failed 77 = .ok (.bipush 9, 2) := by decide +kernel
theorem dX12_failed_79 : decode cX12_failed 79 = .ok (.iaload, 1) := by decide +kernel
theorem dX12_failed_80 : decode cX12_failed 80 = .ok (.imul, 1) := by decide +kernel
theorem dX12_failed_81 : decode cX12_failed 81 = .ok (.iadd, 1) := by decide +kernel
theorem dX12_failed_82 : decode cX12_failed 82 = .ok (.iload_n 1, 1) := by decide +kernel
theorem dX12_failed_83 : decode cX12_failed 83 = .ok (.iastore, 1) := by decide +kernel
theorem dX12_failed_84 : decode cX12_failed 84 = .ok (.aload_n 0, 1) := by decide +kernel
theorem dX12_failed_85 : decode cX12_failed 85 = .ok (.getfield 7, 3) := by decide +kernel
theorem dX12_failed_88 : decode cX12_failed 88 = .ok (.sipush 3300, 3) := by decide +kernel
theorem dX12_failed_91 : decode cX12_failed 91 = .ok (.iconst 2, 1) := by decide +kernel
theorem dX12_failed_92 : decode cX12_failed 92 = .ok (.aload_n 0, 1) := by decide +kernel
theorem dX12_failed_93 : decode cX12_failed 93 = .ok (.getfield 7, 3) := by decide +kernel
theorem dX12_failed_96 : decode cX12_failed 96 = .ok (.bipush 9, 2) := by decide +kernel
theorem dX12_failed_98 : decode cX12_failed 98 = .ok (.iaload, 1) := by decide +kernel
theorem dX12_failed_99 : decode cX12_failed 99 = .ok (.imul, 1) := by decide +kernel
theorem dX12_failed_100 : decode cX12_failed 100 = .ok (.iadd, 1) := by decide +kernel
theorem dX12_failed_101 : decode cX12_failed 101 = .ok (.iconst 1, 1) := by decide +kernel
theorem dX12_failed_102 : decode cX12_failed 102 = .ok (.iadd, 1) := by decide +kernel
theorem dX12_failed_103 : decode cX12_failed 103 = .ok (.iload_n 2, 1) := by decide +kernel
theorem dX12_failed_104 : decode cX12_failed 104 = .ok (.iastore, 1) := by decide +kernel
theorem dX12_failed_105 : decode cX12_failed 105 = .ok (.aload_n 0, 1) := by decide +kernel
theorem dX12_failed_106 : decode cX12_failed 106 = .ok (.getfield 7, 3) := by decide +kernel
theorem dX12_failed_109 : decode cX12_failed 109 = .ok (.bipush 9, 2) := by decide +kernel
theorem dX12_failed_111 : decode cX12_failed 111 = .ok (.dup2, 1) := by decide +kernel
theorem dX12_failed_112 : decode cX12_failed 112 = .ok (.iaload, 1) := by decide +kernel
theorem dX12_failed_113 : decode cX12_failed 113 = .ok (.iconst 1, 1) := by decide +kernel
theorem dX12_failed_114 : decode cX12_failed 114 = .ok (.iadd, 1) := by decide +kernel
theorem dX12_failed_115 : decode cX12_failed 115 = .ok (.iastore, 1) := by decide +kernel
theorem dX12_failed_116 : decode cX12_failed 116 = .ok (.aload_n 0, 1) := by decide +kernel
theorem dX12_failed_117 : decode cX12_failed 117 = .ok (.aload_n 0, 1) := by decide +kernel
theorem dX12_failed_118 : decode cX12_failed 118 = .ok (.getfield 7, 3) := by decide +kernel
theorem dX12_failed_121 : decode cX12_failed 121 = .ok (.bipush 9, 2) := by decide +kernel
theorem dX12_failed_123 : decode cX12_failed 123 = .ok (.iaload, 1) := by decide +kernel
theorem dX12_failed_124 : decode cX12_failed 124 = .ok (.invokevirtual 106, 3) := by decide +kernel
theorem dX12_failed_127 : decode cX12_failed 127 = .ok (.ireturn, 1) := by decide +kernel
theorem dX12_far_0 : decode cX12_far 0 = .ok (.aload_n 0, 1) := by decide +kernel
theorem dX12_far_1 : decode cX12_far 1 = .ok (.getfield 7, 3) := by decide +kernel
theorem dX12_far_4 : decode cX12_far 4 = .ok (.sipush 6998, 3) := by decide +kernel
theorem dX12_far_7 : decode cX12_far 7 = .ok (.iconst 3, 1) := by decide +kernel
theorem dX12_far_8 : decode cX12_far 8 = .ok (.iload_n 1, 1) := by decide +kernel
theorem dX12_far_9 : decode cX12_far 9 = .ok (.imul, 1) := by decide +kernel
theorem dX12_far_10 : decode cX12_far 10 = .ok (.iadd, 1) := by decide +kernel
theorem dX12_far_11 : decode cX12_far 11 = .ok (.iaload, 1) := by decide +kernel
theorem dX12_far_12 : decode cX12_far 12 = .ok (.invokestatic 120, 3) := by decide +kernel
theorem dX12_far_15 : decode cX12_far 15 = .ok (.istore 4, 2) := by decide +kernel
theorem dX12_far_17 : decode cX12_far 17 = .ok (.aload_n 0, 1) := by decide +kernel
theorem dX12_far_18 : decode cX12_far 18 = .ok (.getfield 7, 3) := by decide +kernel
theorem dX12_far_21 : decode cX12_far 21 = .ok (.iload 4, 2) := by decide +kernel
theorem dX12_far_23 : decode cX12_far 23 = .ok (.iconst 3, 1) := by decide +kernel
theorem dX12_far_24 : decode cX12_far 24 = .ok (.iadd, 1) := by decide +kernel
theorem dX12_far_25 : decode cX12_far 25 = .ok (.iaload, 1) := by decide +kernel
theorem dX12_far_26 : decode cX12_far 26 = .ok (.iload_n 2, 1) := by decide +kernel
theorem dX12_far_27 : decode cX12_far 27 = .ok (.isub, 1) := by decide +kernel
theorem dX12_far_28 : decode cX12_far 28 = .ok (.istore 5, 2) := by decide +kernel
theorem dX12_far_30 : decode cX12_far 30 = .ok (.aload_n 0, 1) := by decide +kernel
theorem dX12_far_31 : decode cX12_far 31 = .ok (.getfield 7, 3) := by decide +kernel
theorem dX12_far_34 : decode cX12_far 34 = .ok (.iload 4, 2) := by decide +kernel
theorem dX12_far_36 : decode cX12_far 36 = .ok (.iconst 4, 1) := by decide +kernel
theorem dX12_far_37 : decode cX12_far 37 = .ok (.iadd, 1) := by decide +kernel
theorem dX12_far_38 : decode cX12_far 38 = .ok (.iaload, 1) := by decide +kernel
theorem dX12_far_39 : decode cX12_far 39 = .ok (.iload_n 3, 1) := by decide +kernel
theorem dX12_far_40 : decode cX12_far 40 = .ok (.isub, 1) := by decide +kernel
theorem dX12_far_41 : decode cX12_far 41 = .ok (.istore 6, 2) := by decide +kernel
theorem dX12_far_43 : decode cX12_far 43 = .ok (.iload 5, 2) := by decide +kernel
theorem dX12_far_45 : decode cX12_far 45 = .ok (.ifCond .ge 9, 3) := by decide +kernel
theorem dX12_far_48 : decode cX12_far 48 = .ok (.iload 5, 2) := by decide +kernel
theorem dX12_far_50 : decode cX12_far 50 = .ok (.ineg, 1) := by decide +kernel
theorem dX12_far_51 : decode cX12_far 51 = .ok (.goto 5, 3) := by decide +kernel
theorem dX12_far_54 : decode cX12_far 54 = .ok (.iload 5, 2) := by decide +kernel
theorem dX12_far_56 : decode cX12_far 56 = .ok (.iload 6, 2) := by decide +kernel
theorem dX12_far_58 : decode cX12_far 58 = .ok (.ifCond .ge 9, 3) := by decide +kernel
theorem dX12_far_61 : decode cX12_far 61 = .ok (.iload 6, 2) := by decide +kernel
theorem dX12_far_63 : decode cX12_far 63 = .ok (.ineg, 1) := by decide +kernel
theorem dX12_far_64 : decode cX12_far 64 = .ok (.goto 5, 3) := by decide +kernel
theorem dX12_far_67 : decode cX12_far 67 = .ok (.iload 6, 2) := by decide +kernel
theorem dX12_far_69 : decode cX12_far 69 = .ok (.iadd, 1) := by decide +kernel
theorem dX12_far_70 : decode cX12_far 70 = .ok (.ireturn, 1) := by decide +kernel
theorem dX12_fault_0 : decode cX12_fault 0 = .ok (.aload_n 0, 1) := by decide +kernel
theorem dX12_fault_1 : decode cX12_fault 1 = .ok (.iconst 0, 1) := by decide +kernel
theorem dX12_fault_2 : decode cX12_fault 2 = .ok (.putfield 92, 3) := by decide +kernel
theorem dX12_fault_5 : decode cX12_fault 5 = .ok (.aload_n 0, 1) := by decide +kernel
theorem dX12_fault_6 : decode cX12_fault 6 = .ok (.getfield 36, 3) := by decide +kernel
theorem dX12_fault_9 : decode cX12_fault 9 = .ok (.ireturn, 1) := by decide +kernel
theorem dX12_feed_0 : decode cX12_feed 0 = .ok (.aload_n 0, 1) := by decide +kernel
theorem dX12_feed_1 : decode cX12_feed 1 = .ok (.iconst 0, 1) := by decide +kernel
theorem dX12_feed_2 : decode cX12_feed 2 = .ok (.putfield 92, 3) := by decide +kernel
theorem dX12_feed_5 : decode cX12_feed 5 = .ok (.aload_n 0, 1) := by decide +kernel
theorem dX12_feed_6 : decode cX12_feed 6 = .ok (.getfield 193, 3) := by decide +kernel
theorem dX12_feed_9 : decode cX12_feed 9 = .ok (.bipush 20, 2) := by decide +kernel
theorem dX12_feed_11 : decode cX12_feed 11 = .ok (.iadd, 1) := by decide +kernel
theorem dX12_feed_12 : decode cX12_feed 12 = .ok (.sipush 400, 3) := by decide +kernel
theorem dX12_feed_15 : decode cX12_feed 15 = .ok (.if_icmp .le 5, 3) := by decide +kernel
theorem dX12_feed_18 : decode cX12_feed 18 = .ok (.iconst (-1), 1) := by decide +kernel
theorem dX12_feed_19 : decode cX12_feed 19 = .ok (.ireturn, 1) := by decide +kernel
theorem dX12_feed_20 : decode cX12_feed 20 = .ok (.aload_n 0, 1) := by decide +kernel
theorem dX12_feed_21 : decode cX12_feed 21 = .ok (.iload_n 1, 1) := by decide +kernel
theorem dX12_feed_22 : decode cX12_feed 22 = .ok (.invokevirtual 196, 3) := by decide +kernel
theorem dX12_feed_25 : decode cX12_feed 25 = .ok (.aload_n 0, 1) := by decide +kernel
theorem dX12_feed_26 : decode cX12_feed 26 = .ok (.iload_n 2, 1) := by decide +kernel
theorem dX12_feed_27 : decode cX12_feed 27 = .ok (.invokevirtual 196, 3) := by decide +kernel
theorem dX12_feed_30 : decode cX12_feed 30 = .ok (.aload_n 0, 1) := by decide +kernel
theorem dX12_feed_31 : decode cX12_feed 31 = .ok (.iload_n 3, 1) := by decide +kernel
theorem dX12_feed_32 : decode cX12_feed 32 = .ok (.invokevirtual 196, 3) := by decide +kernel
theorem dX12_feed_35 : decode cX12_feed 35 = .ok (.aload_n 0, 1) := by decide +kernel
theorem dX12_feed_36 : decode cX12_feed 36 = .ok (.iload 4, 2) := by decide +kernel
theorem dX12_feed_38 : decode cX12_feed 38 = .ok (.invokevirtual 196, 3) := by decide +kernel
theorem dX12_feed_41 : decode cX12_feed 41 = .ok (.aload_n 0, 1) := by decide +kernel
theorem dX12_feed_42 : decode cX12_feed 42 = .ok (.iload 5, 2) := by decide +kernel
theorem dX12_feed_44 : decode cX12_feed 44 = .ok (.invokevirtual 196, 3) := by decide +kernel
theorem dX12_feed_47 : decode cX12_feed 47 = .ok (.aload_n 0, 1) := by decide +kernel
theorem dX12_feed_48 : decode cX12_feed 48 = .ok (.getfield 193, 3) := by decide +kernel
theorem dX12_feed_51 : decode cX12_feed 51 = .ok (.ireturn, 1) := by decide +kernel
theorem dX12_find_0 : decode cX12_find 0 = .ok (.aload_n 0, 1) := by decide +kernel
theorem dX12_find_1 : decode cX12_find 1 = .ok (.iconst (-1), 1) := by decide +kernel
theorem dX12_find_2 : decode cX12_find 2 = .ok (.putfield 181, 3) := by decide +kernel
theorem dX12_find_5 : decode cX12_find 5 = .ok (.lconst 0, 1) := by decide +kernel
theorem dX12_find_6 : decode cX12_find 6 = .ok (.lstore 4, 2) := by decide +kernel
theorem dX12_find_8 : decode cX12_find 8 = .ok (.iconst 0, 1) := by decide +kernel
theorem dX12_find_9 : decode cX12_find 9 = .ok (.istore 6, 2) := by decide +kernel
theorem dX12_find_11 : decode cX12_find 11 = .ok (.iload 6, 2) := by decide +kernel
theorem dX12_find_13 : decode cX12_find 13 = .ok (.aload_n 0, 1) := by decide +kernel
theorem dX12_find_14 : decode cX12_find 14 = .ok (.getfield 7, 3) := by decide +kernel
theorem dX12_find_17 : decode cX12_find 17 = .ok (.iconst 4, 1) := by decide +kernel
theorem dX12_find_18 : decode cX12_find 18 = .ok (.iaload, 1) := by decide +kernel
theorem dX12_find_19 : decode cX12_find 19 = .ok (.if_icmp .ge 166, 3) := by decide +kernel
theorem dX12_find_22 : decode cX12_find 22 = .ok (.iconst 0, 1) := by decide +kernel
theorem dX12_find_23 : decode cX12_find 23 = .ok (.istore 7, 2) := by decide +kernel
theorem dX12_find_25 : decode cX12_find 25 = .ok (.iload 7, 2) := by decide +kernel
theorem dX12_find_27 : decode cX12_find 27 = .ok (.aload_n 0, 1) := by decide +kernel
theorem dX12_find_28 : decode cX12_find 28 = .ok (.getfield 7, 3) := by decide +kernel
theorem dX12_find_31 : decode cX12_find 31 = .ok (.iload 6, 2) := by decide +kernel
theorem dX12_find_33 : decode cX12_find 33 = .ok (.invokestatic 403, 3) := by decide +kernel
theorem dX12_find_36 : decode cX12_find 36 = .ok (.iconst 1, 1) := by decide +kernel
theorem dX12_find_37 : decode cX12_find 37 = .ok (.iadd, 1) := by decide +kernel
theorem dX12_find_38 : decode cX12_find 38 = .ok (.iaload, 1) := by decide +kernel
theorem dX12_find_39 : decode cX12_find 39 = .ok (.if_icmp .ge 140, 3) := by decide +kernel
theorem dX12_find_42 : decode cX12_find 42 = .ok (.aload_n 0, 1) := by decide +kernel
theorem dX12_find_43 : decode cX12_find 43 = .ok (.getfield 55, 3) := by decide +kernel
theorem dX12_find_46 : decode cX12_find 46 = .ok (.iload 6, 2) := by decide +kernel
theorem dX12_find_48 : decode cX12_find 48 = .ok (.baload, 1) := by decide +kernel
theorem dX12_find_49 : decode cX12_find 49 = .ok (.ifCond .eq 130, 3) := by decide +kernel
theorem dX12_find_52 : decode cX12_find 52 = .ok (.iload 6, 2) := by decide +kernel
theorem dX12_find_54 : decode cX12_find 54 = .ok (.iload 7, 2) := by decide +kernel
theorem dX12_find_56 : decode cX12_find 56 = .ok (.invokestatic 409, 3) := by decide +kernel
theorem dX12_find_59 : decode cX12_find 59 = .ok (.istore 8, 2) := by decide +kernel
theorem dX12_find_61 : decode cX12_find 61 = .ok (.aload_n 0, 1) := by decide +kernel
theorem dX12_find_62 : decode cX12_find 62 = .ok (.getfield 7, 3) := by decide +kernel
theorem dX12_find_65 : decode cX12_find 65 = .ok (.iload 8, 2) := by decide +kernel
theorem dX12_find_67 : decode cX12_find 67 = .ok (.iaload, 1) := by decide +kernel
theorem dX12_find_68 : decode cX12_find 68 = .ok (.iload_n 1, 1) := by decide +kernel
theorem dX12_find_69 : decode cX12_find 69 = .ok (.if_icmp .ne 54, 3) := by decide +kernel
theorem dX12_find_72 : decode cX12_find 72 = .ok (.aload_n 0, 1) := by decide +kernel
theorem dX12_find_73 : decode cX12_find 73 = .ok (.getfield 7, 3) := by decide +kernel
theorem dX12_find_76 : decode cX12_find 76 = .ok (.iload 8, 2) := by decide +kernel
theorem dX12_find_78 : decode cX12_find 78 = .ok (.iconst 1, 1) := by decide +kernel
theorem dX12_find_79 : decode cX12_find 79 = .ok (.iadd, 1) := by decide +kernel
theorem dX12_find_80 : decode cX12_find 80 = .ok (.iaload, 1) := by decide +kernel
theorem dX12_find_81 : decode cX12_find 81 = .ok (.iload_n 2, 1) := by decide +kernel
theorem dX12_find_82 : decode cX12_find 82 = .ok (.if_icmp .ne 41, 3) := by decide +kernel
theorem dX12_find_85 : decode cX12_find 85 = .ok (.iload_n 3, 1) := by decide +kernel
theorem dX12_find_86 : decode cX12_find 86 = .ok (.iconst (-1), 1) := by decide +kernel
theorem dX12_find_87 : decode cX12_find 87 = .ok (.if_icmp .eq 16, 3) := by decide +kernel
theorem dX12_find_90 : decode cX12_find 90 = .ok (.aload_n 0, 1) := by decide +kernel
theorem dX12_find_91 : decode cX12_find 91 = .ok (.getfield 7, 3) := by decide +kernel
theorem dX12_find_94 : decode cX12_find 94 = .ok (.iload 8, 2) := by decide +kernel
theorem dX12_find_96 : decode cX12_find 96 = .ok (.iconst 2, 1) := by decide +kernel
theorem dX12_find_97 : decode cX12_find 97 = .ok (.iadd, 1) := by decide +kernel
theorem dX12_find_98 : decode cX12_find 98 = .ok (.iaload, 1) := by decide +kernel
theorem dX12_find_99 : decode cX12_find 99 = .ok (.iload_n 3, 1) := by decide +kernel
theorem dX12_find_100 : decode cX12_find 100 = .ok (.if_icmp .ne 23, 3) := by decide +kernel
theorem dX12_find_103 : decode cX12_find 103 = .ok (.aload_n 0, 1) := by decide +kernel
theorem dX12_find_104 : decode cX12_find 104 = .ok (.getfield 58, 3) := by decide +kernel
theorem dX12_find_107 : decode cX12_find 107 = .ok (.bipush 12, 2) := by decide +kernel
theorem dX12_find_109 : decode cX12_find 109 = .ok (.iload 6, 2) := by decide +kernel
theorem dX12_find_111 : decode cX12_find 111 = .ok (.imul, 1) := by decide +kernel
theorem dX12_find_112 : decode cX12_find 112 = .ok (.iload 7, 2) := by decide +kernel
theorem dX12_find_114 : decode cX12_find 114 = .ok (.iadd, 1) := by decide +kernel
theorem dX12_find_115 : decode cX12_find 115 = .ok (.baload, 1) := by decide +kernel
theorem dX12_find_116 : decode cX12_find 116 = .ok (.ifCond .ne 7, 3) := by decide +kernel
theorem dX12_find_119 : decode cX12_find 119 = .ok (.iconst 1, 1) := by decide +kernel
theorem dX12_find_120 : decode cX12_find 120 = .ok (.goto 4, 3) := by decide +kernel
theorem dX12_find_123 : decode cX12_find 123 = .ok (.iconst 0, 1) := by decide +kernel
theorem dX12_find_124 : decode cX12_find 124 = .ok (.istore 9, 2) := by decide +kernel
theorem dX12_find_126 : decode cX12_find 126 = .ok (.iload 9, 2) := by decide +kernel
theorem dX12_find_128 : decode cX12_find 128 = .ok (.ifCond .eq 45, 3) := by decide +kernel
theorem dX12_find_131 : decode cX12_find 131 = .ok (.aload_n 0, 1) := by decide +kernel
theorem dX12_find_132 : decode cX12_find 132 = .ok (.iload 6, 2) := by decide +kernel
theorem dX12_find_134 : decode cX12_find 134 = .ok (.iload 8, 2) := by decide +kernel
theorem dX12_find_136 : decode cX12_find 136 = .ok (.invokevirtual 430, 3) := by decide +kernel
theorem dX12_find_139 : decode cX12_find 139 = .ok (.ifCond .eq 34, 3) := by decide +kernel
theorem dX12_find_142 : decode cX12_find 142 = .ok (.aload_n 0, 1) := by decide +kernel
theorem dX12_find_143 : decode cX12_find 143 = .ok (.bipush 12, 2) := by decide +kernel
theorem dX12_find_145 : decode cX12_find 145 = .ok (.iload 6, 2) := by decide +kernel
theorem dX12_find_147 : decode cX12_find 147 = .ok (.imul, 1) := by decide +kernel
theorem dX12_find_148 : decode cX12_find 148 = .ok (.iload 7, 2) := by decide +kernel
theorem dX12_find_150 : decode cX12_find 150 = .ok (.iadd, 1) := by decide +kernel
theorem dX12_find_151 : decode cX12_find 151 = .ok (.putfield 181, 3) := by decide +kernel
theorem dX12_find_154 : decode cX12_find 154 = .ok (.aload_n 0, 1) := by decide +kernel
theorem dX12_find_155 : decode cX12_find 155 = .ok (.getfield 433, 3) := by decide +kernel
theorem dX12_find_158 : decode cX12_find 158 = .ok (.lstore 4, 2) := by decide +kernel
theorem dX12_find_160 : decode cX12_find 160 = .ok (.aload_n 0, 1) := by decide +kernel
theorem dX12_find_161 : decode cX12_find 161 = .ok (.aload_n 0, 1) := by decide +kernel
theorem dX12_find_162 : decode cX12_find 162 = .ok (.getfield 7, 3) := by decide +kernel
theorem dX12_find_165 : decode cX12_find 165 = .ok (.iload 8, 2) := by decide +kernel
theorem dX12_find_167 : decode cX12_find 167 = .ok (.iconst 2, 1) := by decide +kernel
theorem dX12_find_168 : decode cX12_find 168 = .ok (.iadd, 1) := by decide +kernel
theorem dX12_find_169 : decode cX12_find 169 = .ok (.iaload, 1) := by decide +kernel
theorem dX12_find_170 : decode cX12_find 170 = .ok (.putfield 178, 3) := by decide +kernel
theorem dX12_find_173 : decode cX12_find 173 = .ok (.iinc 7 1, 3) := by decide +kernel
theorem dX12_find_176 : decode cX12_find 176 = .ok (.goto (-151), 3) := by decide +kernel
theorem dX12_find_179 : decode cX12_find 179 = .ok (.iinc 6 1, 3) := by decide +kernel
theorem dX12_find_182 : decode cX12_find 182 = .ok (.goto (-171), 3) := by decide +kernel
theorem dX12_find_185 : decode cX12_find 185 = .ok (.aload_n 0, 1) := by decide +kernel
theorem dX12_find_186 : decode cX12_find 186 = .ok (.lload 4, 2) := by decide +kernel
theorem dX12_find_188 : decode cX12_find 188 = .ok (.putfield 433, 3) := by decide +kernel
theorem dX12_find_191 : decode cX12_find 191 = .ok (.aload_n 0, 1) := by decide +kernel
theorem dX12_find_192 : decode cX12_find 192 = .ok (.getfield 181, 3) := by decide +kernel
theorem dX12_find_195 : decode cX12_find 195 = .ok (.iconst (-1), 1) := by decide +kernel
theorem dX12_find_196 : decode cX12_find 196 = .ok (.if_icmp .eq 7, 3) := by decide +kernel
theorem dX12_find_199 : decode cX12_find 199 = .ok (.iconst 1, 1) := by decide +kernel
theorem dX12_find_200 : decode cX12_find 200 = .ok (.goto 4, 3) := by decide +kernel
theorem dX12_find_203 : decode cX12_find 203 = .ok (.iconst 0, 1) := by decide +kernel
theorem dX12_find_204 : decode cX12_find 204 = .ok (.ireturn, 1) := by decide +kernel
theorem dX12_findForce_0 : decode cX12_findForce 0 = .ok (.iconst 0, 1) := by decide +kernel
theorem dX12_findForce_1 : decode cX12_findForce 1 = .ok (.istore_n 2, 1) := by decide +kernel
theorem dX12_findForce_2 : decode cX12_findForce 2 = .ok (.iload_n 2, 1) := by decide +kernel
theorem dX12_findForce_3 : decode cX12_findForce 3 = .ok (.bipush 12, 2) := by decide +kernel
theorem dX12_findForce_5 : decode cX12_findForce 5 = .ok (.aload_n 0, 1) := by decide +kernel
theorem dX12_findForce_6 : decode cX12_findForce 6 = .ok (.getfield 7, 3) := by decide +kernel
theorem dX12_findForce_9 : decode cX12_findForce 9 = .ok (.iconst 4, 1) := by decide +kernel
theorem dX12_findForce_10 : decode cX12_findForce 10 = .ok (.iaload, 1) := by decide +kernel
theorem dX12_findForce_11 : decode cX12_findForce 11 = .ok (.imul, 1) := by decide +kernel
theorem dX12_findForce_12 : decode cX12_findForce 12 = .ok (.if_icmp .ge 16, 3) := by decide +kernel
theorem dX12_findForce_15 : decode cX12_findForce 15 = .ok (.aload_n 0, 1) := by decide +kernel
theorem dX12_findForce_16 : decode cX12_findForce 16 = .ok (.getfield 58, 3) := by decide +kernel
theorem dX12_findForce_19 : decode cX12_findForce 19 = .ok (.iload_n 2, 1) := by decide +kernel
theorem dX12_findForce_20 : decode cX12_findForce 20 = .ok (.iconst 0, 1) := by decide +kernel
theorem dX12_findForce_21 : decode cX12_findForce 21 = .ok (.bastore, 1) := by decide +kernel
theorem dX12_findForce_22 : decode cX12_findForce 22 = .ok (.iinc 2 1, 3) := by decide +kernel
theorem dX12_findForce_25 : decode cX12_findForce 25 = .ok (.goto (-23), 3) := by decide +kernel
theorem dX12_findForce_28 : decode cX12_findForce 28 = .ok (.aload_n 0, 1) := by decide +kernel
theorem dX12_findForce_29 : decode cX12_findForce 29 = .ok (.getfield 7, 3) := by decide +kernel
theorem dX12_findForce_32 : decode cX12_findForce 32 = .ok (.iconst 4, 1) := by decide +kernel
theorem dX12_findForce_33 : decode cX12_findForce 33 = .ok (.iaload, 1) := by decide +kernel
theorem dX12_findForce_34 : decode cX12_findForce 34 = .ok (.iconst 1, 1) := by decide +kernel
theorem dX12_findForce_35 : decode cX12_findForce 35 = .ok (.isub, 1) := by decide +kernel
theorem dX12_findForce_36 : decode cX12_findForce 36 = .ok (.istore_n 2, 1) := by decide +kernel
theorem dX12_findForce_37 : decode cX12_findForce 37 = .ok (.iload_n 2, 1) := by decide +kernel
theorem dX12_findForce_38 : decode cX12_findForce 38 = .ok (.ifCond .lt 137, 3) := by decide +kernel
theorem dX12_findForce_41 : decode cX12_findForce 41 = .ok (.aload_n 0, 1) := by decide +kernel
theorem dX12_findForce_42 : decode cX12_findForce 42 = .ok (.getfield 55, 3) := by decide +kernel
theorem dX12_findForce_45 : decode cX12_findForce 45 = .ok (.iload_n 2, 1) := by decide +kernel
theorem dX12_findForce_46 : decode cX12_findForce 46 = .ok (.aload_n 0, 1) := by decide +kernel
theorem dX12_findForce_47 : decode cX12_findForce 47 = .ok (.getfield 7, 3) := by decide +kernel
theorem dX12_findForce_50 : decode cX12_findForce 50 = .ok (.iload_n 2, 1) := by decide +kernel
theorem dX12_findForce_51 : decode cX12_findForce 51 = .ok (.invokestatic 403, 3) := by decide +kernel
theorem dX12_findForce_54 : decode cX12_findForce 54 = .ok (.iaload, 1) := by decide +kernel
theorem dX12_findForce_55 : decode cX12_findForce 55 = .ok (.iload_n 1, 1) := by decide +kernel
theorem dX12_findForce_56 : decode cX12_findForce 56 = .ok (.if_icmp .gt 7, 3) := by decide +kernel
theorem dX12_findForce_59 : decode cX12_findForce 59 = .ok (.iconst 1, 1) := by decide +kernel
theorem dX12_findForce_60 : decode cX12_findForce 60 = .ok (.goto 4, 3) := by decide +kernel
theorem dX12_findForce_63 : decode cX12_findForce 63 = .ok (.iconst 0, 1) := by decide +kernel
theorem dX12_findForce_64 : decode cX12_findForce 64 = .ok (.bastore, 1) := by decide +kernel
theorem dX12_findForce_65 : decode cX12_findForce 65 = .ok (.iconst 0, 1) := by decide +kernel
theorem dX12_findForce_66 : decode cX12_findForce 66 = .ok (.istore_n 3, 1) := by decide +kernel
theorem dX12_findForce_67 : decode cX12_findForce 67 = .ok (.iload_n 3, 1) := by decide +kernel
theorem dX12_findForce_68 : decode cX12_findForce 68 = .ok (.aload_n 0, 1) := by decide +kernel
theorem dX12_findForce_69 : decode cX12_findForce 69 = .ok (.getfield 7, 3) := by decide +kernel
theorem dX12_findForce_72 : decode cX12_findForce 72 = .ok (.iload_n 2, 1) := by decide +kernel
theorem dX12_findForce_73 : decode cX12_findForce 73 = .ok (.invokestatic 403, 3) := by decide +kernel
theorem dX12_findForce_76 : decode cX12_findForce 76 = .ok (.iconst 1, 1) := by decide +kernel
theorem dX12_findForce_77 : decode cX12_findForce 77 = .ok (.iadd, 1) := by decide +kernel
theorem dX12_findForce_78 : decode cX12_findForce 78 = .ok (.iaload, 1) := by decide +kernel
theorem dX12_findForce_79 : decode cX12_findForce 79 = .ok (.if_icmp .ge 90, 3) := by decide +kernel
theorem dX12_findForce_82 : decode cX12_findForce 82 = .ok (.aload_n 0, 1) := by decide +kernel
theorem dX12_findForce_83 : decode cX12_findForce 83 = .ok (.getfield 55, 3) := by decide +kernel
theorem dX12_findForce_86 : decode cX12_findForce 86 = .ok (.iload_n 2, 1) := by decide +kernel
theorem dX12_findForce_87 : decode cX12_findForce 87 = .ok (.baload, 1) := by decide +kernel
theorem dX12_findForce_88 : decode cX12_findForce 88 = .ok (.ifCond .eq 81, 3) := by decide +kernel
theorem dX12_findForce_91 : decode cX12_findForce 91 = .ok (.iload_n 2, 1) := by decide +kernel
theorem dX12_findForce_92 : decode cX12_findForce 92 = .ok (.iload_n 3, 1) := by decide +kernel
theorem dX12_findForce_93 : decode cX12_findForce 93 = .ok (.invokestatic 409, 3) := by decide +kernel
theorem dX12_findForce_96 : decode cX12_findForce 96 = .ok (.istore 4, 2) := by decide +kernel
theorem dX12_findForce_98 : decode cX12_findForce 98 = .ok (.aload_n 0, 1) := by decide +kernel
theorem dX12_findForce_99 : decode cX12_findForce 99 = .ok (.getfield 7, 3) := by decide +kernel
theorem dX12_findForce_102 : decode cX12_findForce 102 = .ok (.iload 4, 2) := by decide +kernel
theorem dX12_findForce_104 : decode cX12_findForce 104 = .ok (.iaload, 1) := by decide +kernel
theorem dX12_findForce_105 : decode cX12_findForce 105 = .ok (.ifCond .ne 58, 3) := by decide +kernel
theorem dX12_findForce_108 : decode cX12_findForce 108 = .ok (.aload_n 0, 1) := by decide +kernel
theorem dX12_findForce_109 : decode cX12_findForce 109 = .ok (.getfield 58, 3) := by decide +kernel
theorem dX12_findForce_112 : decode cX12_findForce 112 = .ok (.bipush 12, 2) := by decide +kernel
theorem dX12_findForce_114 : decode cX12_findForce 114 = .ok (.iload_n 2, 1) := by decide +kernel
theorem dX12_findForce_115 : decode cX12_findForce 115 = .ok (.imul, 1) := by decide +kernel
theorem dX12_findForce_116 : decode cX12_findForce 116 = .ok (.iload_n 3, 1) := by decide +kernel
theorem dX12_findForce_117 : decode cX12_findForce 117 = .ok (.iadd, 1) := by decide +kernel
theorem dX12_findForce_118 : decode cX12_findForce 118 = .ok (.baload, 1) := by decide +kernel
theorem dX12_findForce_119 : decode cX12_findForce 119 = .ok (.ifCond .ne 44, 3) := by decide +kernel
theorem dX12_findForce_122 : decode cX12_findForce 122 = .ok (.aload_n 0, 1) := by decide +kernel
theorem dX12_findForce_123 : decode cX12_findForce 123 = .ok (.getfield 7, 3) := by decide +kernel
theorem dX12_findForce_126 : decode cX12_findForce 126 = .ok (.iload 4, 2) := by decide +kernel
theorem dX12_findForce_128 : decode cX12_findForce 128 = .ok (.iconst 1, 1) := by decide +kernel
theorem dX12_findForce_129 : decode cX12_findForce 129 = .ok (.iadd, 1) := by decide +kernel
theorem dX12_findForce_130 : decode cX12_findForce 130 = .ok (.iaload, 1) := by decide +kernel
theorem dX12_findForce_131 : decode cX12_findForce 131 = .ok (.iload_n 2, 1) := by decide +kernel
theorem dX12_findForce_132 : decode cX12_findForce 132 = .ok (.if_icmp .ge 31, 3) := by decide +kernel
theorem dX12_findForce_135 : decode cX12_findForce 135 = .ok (.aload_n 0, 1) := by decide +kernel
theorem dX12_findForce_136 : decode cX12_findForce 136 = .ok (.getfield 58, 3) := by decide +kernel
theorem dX12_findForce_139 : decode cX12_findForce 139 = .ok (.bipush 12, 2) := by decide +kernel
theorem dX12_findForce_141 : decode cX12_findForce 141 = .ok (.aload_n 0, 1) := by decide +kernel
theorem dX12_findForce_142 : decode cX12_findForce 142 = .ok (.getfield 7, 3) := by decide +kernel
theorem dX12_findForce_145 : decode cX12_findForce 145 = .ok (.iload 4, 2) := by decide +kernel
theorem dX12_findForce_147 : decode cX12_findForce 147 = .ok (.iconst 1, 1) := by decide +kernel
theorem dX12_findForce_148 : decode cX12_findForce 148 = .ok (.iadd, 1) := by decide +kernel
theorem dX12_findForce_149 : decode cX12_findForce 149 = .ok (.iaload, 1) := by decide +kernel
theorem dX12_findForce_150 : decode cX12_findForce 150 = .ok (.imul, 1) := by decide +kernel
theorem dX12_findForce_151 : decode cX12_findForce 151 = .ok (.aload_n 0, 1) := by decide +kernel
theorem dX12_findForce_152 : decode cX12_findForce 152 = .ok (.getfield 7, 3) := by decide +kernel
theorem dX12_findForce_155 : decode cX12_findForce 155 = .ok (.iload 4, 2) := by decide +kernel
theorem dX12_findForce_157 : decode cX12_findForce 157 = .ok (.iconst 2, 1) := by decide +kernel
theorem dX12_findForce_158 : decode cX12_findForce 158 = .ok (.iadd, 1) := by decide +kernel
theorem dX12_findForce_159 : decode cX12_findForce 159 = .ok (.iaload, 1) := by decide +kernel
theorem dX12_findForce_160 : decode cX12_findForce 160 = .ok (.iadd, 1) := by decide +kernel
theorem dX12_findForce_161 : decode cX12_findForce 161 = .ok (.iconst 1, 1) := by decide +kernel
theorem dX12_findForce_162 : decode cX12_findForce 162 = .ok (.bastore, 1) := by decide +kernel
theorem dX12_findForce_163 : decode cX12_findForce 163 = .ok (.iinc 3 1, 3) := by decide +kernel
theorem dX12_findForce_166 : decode cX12_findForce 166 = .ok (.goto (-99), 3) := by decide +kernel
theorem dX12_findForce_169 : decode cX12_findForce 169 = .ok (.iinc 2 (-1), 3) := by decide +kernel
theorem dX12_findForce_172 : decode cX12_findForce 172 = .ok (.goto (-135), 3) := by decide +kernel
theorem dX12_findForce_175 : decode cX12_findForce 175 = .ok (.return_, 1) := by decide +kernel
theorem dX12_findKinds_0 : decode cX12_findKinds 0 = .ok (.iconst 0, 1) := by decide +kernel
theorem dX12_findKinds_1 : decode cX12_findKinds 1 = .ok (.istore_n 1, 1) := by decide +kernel
theorem dX12_findKinds_2 : decode cX12_findKinds 2 = .ok (.iload_n 1, 1) := by decide +kernel
theorem dX12_findKinds_3 : decode cX12_findKinds 3 = .ok (.aload_n 0, 1) := by decide +kernel
theorem dX12_findKinds_4 : decode cX12_findKinds 4 = .ok (.getfield 7, 3) := by decide +kernel
theorem dX12_findKinds_7 : decode cX12_findKinds 7 = .ok (.iconst 3, 1) := by decide +kernel
theorem dX12_findKinds_8 : decode cX12_findKinds 8 = .ok (.iaload, 1) := by decide +kernel
theorem dX12_findKinds_9 : decode cX12_findKinds 9 = .ok (.if_icmp .ge 146, 3) := by decide +kernel
theorem dX12_findKinds_12 : decode cX12_findKinds 12 = .ok (.iload_n 1, 1) := by decide +kernel
theorem dX12_findKinds_13 : decode cX12_findKinds 13 = .ok (.invokestatic 155, 3) := by decide +kernel
theorem dX12_findKinds_16 : decode cX12_findKinds 16 = .ok (.istore_n 2, 1) := by decide +kernel
theorem dX12_findKinds_17 : decode cX12_findKinds 17 = .ok (.aload_n 0, 1) := by decide +kernel
theorem dX12_findKinds_18 : decode cX12_findKinds 18 = .ok (.aload_n 0, 1) := by decide +kernel
theorem dX12_findKinds_19 : decode cX12_findKinds 19 = .ok (.getfield 7, 3) := by decide +kernel
theorem dX12_findKinds_22 : decode cX12_findKinds 22 = .ok (.iload_n 2, 1) := by decide +kernel
theorem dX12_findKinds_23 : decode cX12_findKinds 23 = .ok (.iconst 2, 1) := by decide +kernel
theorem dX12_findKinds_24 : decode cX12_findKinds 24 = .ok (.iadd, 1) := by decide +kernel
theorem dX12_findKinds_25 : decode cX12_findKinds 25 = .ok (.iaload, 1) := by decide +kernel
theorem dX12_findKinds_26 : decode cX12_findKinds 26 = .ok (.iconst 2, 1) := by decide +kernel
theorem dX12_findKinds_27 : decode cX12_findKinds 27 = .ok (.idiv, 1) := by decide +kernel
theorem dX12_findKinds_28 : decode cX12_findKinds 28 = .ok (.invokevirtual 167, 3) := by decide +kernel
theorem dX12_findKinds_31 : decode cX12_findKinds 31 = .ok (.aload_n 0, 1) := by decide +kernel
theorem dX12_findKinds_32 : decode cX12_findKinds 32 = .ok (.aload_n 0, 1) := by decide +kernel
theorem dX12_findKinds_33 : decode cX12_findKinds 33 = .ok (.getfield 7, 3) := by decide +kernel
theorem dX12_findKinds_36 : decode cX12_findKinds 36 = .ok (.iload_n 2, 1) := by decide +kernel
theorem dX12_findKinds_37 : decode cX12_findKinds 37 = .ok (.iconst 1, 1) := by decide +kernel
theorem dX12_findKinds_38 : decode cX12_findKinds 38 = .ok (.iadd, 1) := by decide +kernel
theorem dX12_findKinds_39 : decode cX12_findKinds 39 = .ok (.iaload, 1) := by decide +kernel
theorem dX12_findKinds_40 : decode cX12_findKinds 40 = .ok (.aload_n 0, 1) := by decide +kernel
theorem dX12_findKinds_41 : decode cX12_findKinds 41 = .ok (.getfield 7, 3) := by decide +kernel
theorem dX12_findKinds_44 : decode cX12_findKinds 44 = .ok (.iload_n 2, 1) := by decide +kernel
theorem dX12_findKinds_45 : decode cX12_findKinds 45 = .ok (.iconst 2, 1) := by decide +kernel
theorem dX12_findKinds_46 : decode cX12_findKinds 46 = .ok (.iadd, 1) := by decide +kernel
theorem dX12_findKinds_47 : decode cX12_findKinds 47 = .ok (.iaload, 1) := by decide +kernel
theorem dX12_findKinds_48 : decode cX12_findKinds 48 = .ok (.invokevirtual 171, 3) := by decide +kernel
theorem dX12_findKinds_51 : decode cX12_findKinds 51 = .ok (.aload_n 0, 1) := by decide +kernel
theorem dX12_findKinds_52 : decode cX12_findKinds 52 = .ok (.getfield 61, 3) := by decide +kernel
theorem dX12_findKinds_55 : decode cX12_findKinds 55 = .ok (.iconst 2, 1) := by decide +kernel
theorem dX12_findKinds_56 : decode cX12_findKinds 56 = .ok (.aload_n 0, 1) := by decide +kernel
theorem dX12_findKinds_57 : decode cX12_findKinds 57 = .ok (.getfield 7, 3) := by decide +kernel
theorem dX12_findKinds_60 : decode cX12_findKinds 60 = .ok (.iload_n 2, 1) := by decide +kernel
theorem dX12_findKinds_61 : decode cX12_findKinds 61 = .ok (.iconst 3, 1) := by decide +kernel
theorem dX12_findKinds_62 : decode cX12_findKinds 62 = .ok (.iadd, 1) := by decide +kernel
theorem dX12_findKinds_63 : decode cX12_findKinds 63 = .ok (.iaload, 1) := by decide +kernel
theorem dX12_findKinds_64 : decode cX12_findKinds 64 = .ok (.bipush 26, 2) := by decide +kernel
theorem dX12_findKinds_66 : decode cX12_findKinds 66 = .ok (.idiv, 1) := by decide +kernel
theorem dX12_findKinds_67 : decode cX12_findKinds 67 = .ok (.i2l, 1) := by decide +kernel
theorem dX12_findKinds_68 : decode cX12_findKinds 68 = .ok (.lastore, 1) := by decide +kernel
theorem dX12_findKinds_69 : decode cX12_findKinds 69 = .ok (.aload_n 0, 1) := by decide +kernel
theorem dX12_findKinds_70 : decode cX12_findKinds 70 = .ok (.getfield 61, 3) := by decide +kernel
theorem dX12_findKinds_73 : decode cX12_findKinds 73 = .ok (.bipush 6, 2) := by decide +kernel
theorem dX12_findKinds_75 : decode cX12_findKinds 75 = .ok (.aload_n 0, 1) := by decide +kernel
theorem dX12_findKinds_76 : decode cX12_findKinds 76 = .ok (.getfield 7, 3) := by decide +kernel
theorem dX12_findKinds_79 : decode cX12_findKinds 79 = .ok (.iload_n 2, 1) := by decide +kernel
theorem dX12_findKinds_80 : decode cX12_findKinds 80 = .ok (.iaload, 1) := by decide +kernel
theorem dX12_findKinds_81 : decode cX12_findKinds 81 = .ok (.i2l, 1) := by decide +kernel
theorem dX12_findKinds_82 : decode cX12_findKinds 82 = .ok (.lastore, 1) := by decide +kernel
theorem dX12_findKinds_83 : decode cX12_findKinds 83 = .ok (.aload_n 0, 1) := by decide +kernel
theorem dX12_findKinds_84 : decode cX12_findKinds 84 = .ok (.getfield 21, 3) := by decide +kernel
theorem dX12_findKinds_87 : decode cX12_findKinds 87 = .ok (.iload_n 1, 1) := by decide +kernel
theorem dX12_findKinds_88 : decode cX12_findKinds 88 = .ok (.baload, 1) := by decide +kernel
theorem dX12_findKinds_89 : decode cX12_findKinds 89 = .ok (.ifCond .eq 22, 3) := by decide +kernel
theorem dX12_findKinds_92 : decode cX12_findKinds 92 = .ok (.aload_n 0, 1) := by decide +kernel
theorem dX12_findKinds_93 : decode cX12_findKinds 93 = .ok (.iconst 1, 1) := by decide +kernel
theorem dX12_findKinds_94 : decode cX12_findKinds 94 = .ok (.aload_n 0, 1) := by decide +kernel
theorem dX12_findKinds_95 : decode cX12_findKinds 95 = .ok (.getfield 24, 3) := by decide +kernel
theorem dX12_findKinds_98 : decode cX12_findKinds 98 = .ok (.iload_n 1, 1) := by decide +kernel
theorem dX12_findKinds_99 : decode cX12_findKinds 99 = .ok (.iaload, 1) := by decide +kernel
theorem dX12_findKinds_100 : decode cX12_findKinds 100 = .ok (.iconst (-1), 1) := by decide +kernel
theorem dX12_findKinds_101 : decode cX12_findKinds 101 = .ok (.invokevirtual 175, 3) := by decide +kernel
theorem dX12_findKinds_104 : decode cX12_findKinds 104 = .ok (.ifCond .eq 7, 3) := by decide +kernel
theorem dX12_findKinds_107 : decode cX12_findKinds 107 = .ok (.iconst 1, 1) := by decide +kernel
theorem dX12_findKinds_108 : decode cX12_findKinds 108 = .ok (.goto 4, 3) := by decide +kernel
theorem dX12_findKinds_111 : decode cX12_findKinds 111 = .ok (.iconst 0, 1) := by decide +kernel
theorem dX12_findKinds_112 : decode cX12_findKinds 112 = .ok (.istore_n 3, 1) := by decide +kernel
theorem dX12_findKinds_113 : decode cX12_findKinds 113 = .ok (.aload_n 0, 1) := by decide +kernel
theorem dX12_findKinds_114 : decode cX12_findKinds 114 = .ok (.getfield 27, 3) := by decide +kernel
theorem dX12_findKinds_117 : decode cX12_findKinds 117 = .ok (.iload_n 1, 1) := by decide +kernel
theorem dX12_findKinds_118 : decode cX12_findKinds 118 = .ok (.iload_n 3, 1) := by decide +kernel
theorem dX12_findKinds_119 : decode cX12_findKinds 119 = .ok (.ifCond .eq 10, 3) := by decide +kernel
theorem dX12_findKinds_122 : decode cX12_findKinds 122 = .ok (.aload_n 0, 1) := by decide +kernel
theorem dX12_findKinds_123 : decode cX12_findKinds 123 = .ok (.getfield 178, 3) := by decide +kernel
theorem dX12_findKinds_126 : decode cX12_findKinds 126 = .ok (.goto 4, 3) := by decide +kernel
theorem dX12_findKinds_129 : decode cX12_findKinds 129 = .ok (.iconst 4, 1) := by decide +kernel
theorem dX12_findKinds_130 : decode cX12_findKinds 130 = .ok (.iastore, 1) := by decide +kernel
theorem dX12_findKinds_131 : decode cX12_findKinds 131 = .ok (.aload_n 0, 1) := by decide +kernel
theorem dX12_findKinds_132 : decode cX12_findKinds 132 = .ok (.getfield 30, 3) := by decide +kernel
theorem dX12_findKinds_135 : decode cX12_findKinds 135 = .ok (.iload_n 1, 1) := by decide +kernel
theorem dX12_findKinds_136 : decode cX12_findKinds 136 = .ok (.iload_n 3, 1) := by decide +kernel
theorem dX12_findKinds_137 : decode cX12_findKinds 137 = .ok (.ifCond .eq 10, 3) := by decide +kernel
theorem dX12_findKinds_140 : decode cX12_findKinds 140 = .ok (.aload_n 0, 1) := by decide +kernel
theorem dX12_findKinds_141 : decode cX12_findKinds 141 = .ok (.getfield 181, 3) := by decide +kernel
theorem dX12_findKinds_144 : decode cX12_findKinds 144 = .ok (.goto 4, 3) := by decide +kernel
theorem dX12_findKinds_147 : decode cX12_findKinds 147 = .ok (.iconst (-1), 1) := by decide +kernel
theorem dX12_findKinds_148 : decode cX12_findKinds 148 = .ok (.iastore, 1) := by decide +kernel
theorem dX12_findKinds_149 : decode cX12_findKinds 149 = .ok (.iinc 1 1, 3) := by decide +kernel
theorem dX12_findKinds_152 : decode cX12_findKinds 152 = .ok (.goto (-150), 3) := by decide +kernel
theorem dX12_findKinds_155 : decode cX12_findKinds 155 = .ok (.return_, 1) := by decide +kernel
theorem dX12_findSessions_0 : decode cX12_findSessions 0 = .ok (.iconst 0, 1) := by decide +kernel
theorem dX12_findSessions_1 : decode cX12_findSessions 1 = .ok (.istore_n 2, 1) := by decide +kernel
theorem dX12_findSessions_2 : decode cX12_findSessions 2 = .ok (.iload_n 2, 1) := by decide +kernel
theorem dX12_findSessions_3 : decode cX12_findSessions 3 = .ok (.sipush 400, 3) := by decide +kernel
theorem dX12_findSessions_6 : decode cX12_findSessions 6 = .ok (.if_icmp .gt 23, 3) := by decide +kernel
theorem dX12_findSessions_9 : decode cX12_findSessions 9 = .ok (.aload_n 0, 1) := by decide +kernel
theorem dX12_findSessions_10 : decode cX12_findSessions 10 = .ok (.getfield 68, 3) := by decide +kernel
theorem dX12_findSessions_13 : decode cX12_findSessions 13 = .ok (.iload_n 2, 1) := by decide +kernel
theorem dX12_findSessions_14 : decode cX12_findSessions 14 = .ok (.iconst 0, 1) := by decide +kernel
theorem dX12_findSessions_15 : decode cX12_findSessions 15 = .ok (.iastore, 1) := by decide +kernel
theorem dX12_findSessions_16 : decode cX12_findSessions 16 = .ok (.aload_n 0, 1) := by decide +kernel
theorem dX12_findSessions_17 : decode cX12_findSessions 17 = .ok (.getfield 71, 3) := by decide +kernel
theorem dX12_findSessions_20 : decode cX12_findSessions 20 = .ok (.iload_n 2, 1) := by decide +kernel
theorem dX12_findSessions_21 : decode cX12_findSessions 21 = .ok (.iconst 0, 1) := by decide +kernel
theorem dX12_findSessions_22 : decode cX12_findSessions 22 = .ok (.iastore, 1) := by decide +kernel
theorem dX12_findSessions_23 : decode cX12_findSessions 23 = .ok (.iinc 2 1, 3) := by decide +kernel
theorem dX12_findSessions_26 : decode cX12_findSessions 26 = .ok (.goto (-24), 3) := by decide +kernel
theorem dX12_findSessions_29 : decode cX12_findSessions 29 = .ok (.iconst 0, 1) := by decide +kernel
theorem dX12_findSessions_30 : decode cX12_findSessions 30 = .ok (.istore_n 2, 1) := by decide +kernel
theorem dX12_findSessions_31 : decode cX12_findSessions 31 = .ok (.iload_n 2, 1) := by decide +kernel
theorem dX12_findSessions_32 : decode cX12_findSessions 32 = .ok (.aload_n 0, 1) := by decide +kernel
theorem dX12_findSessions_33 : decode cX12_findSessions 33 = .ok (.getfield 7, 3) := by decide +kernel
theorem dX12_findSessions_36 : decode cX12_findSessions 36 = .ok (.iconst 3, 1) := by decide +kernel
theorem dX12_findSessions_37 : decode cX12_findSessions 37 = .ok (.iaload, 1) := by decide +kernel
theorem dX12_findSessions_38 : decode cX12_findSessions 38 = .ok (.if_icmp .ge 101, 3) := by decide +kernel
theorem dX12_findSessions_41 : decode cX12_findSessions 41 = .ok (.iload_n 2, 1) := by decide +kernel
theorem dX12_findSessions_42 : decode cX12_findSessions 42 = .ok (.invokestatic 155, 3) := by decide +kernel
theorem dX12_findSessions_45 : decode cX12_findSessions 45 = .ok (.istore_n 3, 1) := by decide +kernel
theorem dX12_findSessions_46 : decode cX12_findSessions 46 = .ok (.aload_n 0, 1) := by decide +kernel
theorem dX12_findSessions_47 : decode cX12_findSessions 47 = .ok (.getfield 7, 3) := by decide +kernel
theorem dX12_findSessions_50 : decode cX12_findSessions 50 = .ok (.iload_n 3, 1) := by decide +kernel
theorem dX12_findSessions_51 : decode cX12_findSessions 51 = .ok (.iconst 1, 1) := by decide +kernel
theorem dX12_findSessions_52 : decode cX12_findSessions 52 = .ok (.iadd, 1) := by decide +kernel
theorem dX12_findSessions_53 : decode cX12_findSessions 53 = .ok (.iaload, 1) := by decide +kernel
theorem dX12_findSessions_54 : decode cX12_findSessions 54 = .ok (.iload_n 1, 1) := by decide +kernel
theorem dX12_findSessions_55 : decode cX12_findSessions 55 = .ok (.if_icmp .ne 78, 3) := by decide +kernel
theorem dX12_findSessions_58 : decode cX12_findSessions 58 = .ok (.aload_n 0, 1) := by decide +kernel
theorem dX12_findSessions_59 : decode cX12_findSessions 59 = .ok (.getfield 21, 3) := by decide +kernel
theorem dX12_findSessions_62 : decode cX12_findSessions 62 = .ok (.iload_n 2, 1) := by decide +kernel
theorem dX12_findSessions_63 : decode cX12_findSessions 63 = .ok (.baload, 1) := by decide +kernel
theorem dX12_findSessions_64 : decode cX12_findSessions 64 = .ok (.ifCond .eq 69, 3) := by decide +kernel
theorem dX12_findSessions_67 : decode cX12_findSessions 67 = .ok (.aload_n 0, 1) := by decide +kernel
theorem dX12_findSessions_68 : decode cX12_findSessions 68 = .ok (.getfield 27, 3) := by decide +kernel
theorem dX12_findSessions_71 : decode cX12_findSessions 71 = .ok (.iload_n 2, 1) := by decide +kernel
theorem dX12_findSessions_72 : decode cX12_findSessions 72 = .ok (.iaload, 1) := by decide +kernel
theorem dX12_findSessions_73 : decode cX12_findSessions 73 = .ok (.iconst 4, 1) := by decide +kernel
theorem dX12_findSessions_74 : decode cX12_findSessions 74 = .ok (.if_icmp .eq 59, 3) := by decide +kernel
theorem dX12_findSessions_77 : decode cX12_findSessions 77 = .ok (.aload_n 0, 1) := by decide +kernel
theorem dX12_findSessions_78 : decode cX12_findSessions 78 = .ok (.getfield 68, 3) := by decide +kernel
theorem dX12_findSessions_81 : decode cX12_findSessions 81 = .ok (.aload_n 0, 1) := by decide +kernel
theorem dX12_findSessions_82 : decode cX12_findSessions 82 = .ok (.getfield 7, 3) := by decide +kernel
theorem dX12_findSessions_85 : decode cX12_findSessions 85 = .ok (.iload_n 3, 1) := by decide +kernel
theorem dX12_findSessions_86 : decode cX12_findSessions 86 = .ok (.iconst 2, 1) := by decide +kernel
theorem dX12_findSessions_87 : decode cX12_findSessions 87 = .ok (.iadd, 1) := by decide +kernel
theorem dX12_findSessions_88 : decode cX12_findSessions 88 = .ok (.iaload, 1) := by decide +kernel
theorem dX12_findSessions_89 : decode cX12_findSessions 89 = .ok (.iconst 2, 1) := by decide +kernel
theorem dX12_findSessions_90 : decode cX12_findSessions 90 = .ok (.idiv, 1) := by decide +kernel
theorem dX12_findSessions_91 : decode cX12_findSessions 91 = .ok (.iconst 1, 1) := by decide +kernel
theorem dX12_findSessions_92 : decode cX12_findSessions 92 = .ok (.iadd, 1) := by decide +kernel
theorem dX12_findSessions_93 : decode cX12_findSessions 93 = .ok (.dup2, 1) := by decide +kernel
theorem dX12_findSessions_94 : decode cX12_findSessions 94 = .ok (.iaload, 1) := by decide +kernel
theorem dX12_findSessions_95 : decode cX12_findSessions 95 = .ok (.iconst 1, 1) := by decide +kernel
theorem dX12_findSessions_96 : decode cX12_findSessions 96 = .ok (.iadd, 1) := by decide +kernel
theorem dX12_findSessions_97 : decode cX12_findSessions 97 = .ok (.iastore, 1) := by decide +kernel
theorem dX12_findSessions_98 : decode cX12_findSessions 98 = .ok (.aload_n 0, 1) := by decide +kernel
theorem dX12_findSessions_99 : decode cX12_findSessions 99 = .ok (.getfield 71, 3) := by decide +kernel
theorem dX12_findSessions_102 : decode cX12_findSessions 102 = .ok (.aload_n 0, 1) := by decide +kernel
theorem dX12_findSessions_103 : decode cX12_findSessions 103 = .ok (.getfield 7, 3) := by decide +kernel
theorem dX12_findSessions_106 : decode cX12_findSessions 106 = .ok (.iload_n 3, 1) := by decide +kernel
theorem dX12_findSessions_107 : decode cX12_findSessions 107 = .ok (.iconst 2, 1) := by decide +kernel
theorem dX12_findSessions_108 : decode cX12_findSessions 108 = .ok (.iadd, 1) := by decide +kernel
theorem dX12_findSessions_109 : decode cX12_findSessions 109 = .ok (.iaload, 1) := by decide +kernel
theorem dX12_findSessions_110 : decode cX12_findSessions 110 = .ok (.iconst 2, 1) := by decide +kernel
theorem dX12_findSessions_111 : decode cX12_findSessions 111 = .ok (.idiv, 1) := by decide +kernel
theorem dX12_findSessions_112 : decode cX12_findSessions 112 = .ok (.iconst 1, 1) := by decide +kernel
theorem dX12_findSessions_113 : decode cX12_findSessions 113 = .ok (.iadd, 1) := by decide +kernel
theorem dX12_findSessions_114 : decode cX12_findSessions 114 = .ok (.dup2, 1) := by decide +kernel
theorem dX12_findSessions_115 : decode cX12_findSessions 115 = .ok (.iaload, 1) := by decide +kernel
theorem dX12_findSessions_116 : decode cX12_findSessions 116 = .ok (.aload_n 0, 1) := by decide +kernel
theorem dX12_findSessions_117 : decode cX12_findSessions 117 = .ok (.getfield 27, 3) := by decide +kernel
theorem dX12_findSessions_120 : decode cX12_findSessions 120 = .ok (.iload_n 2, 1) := by decide +kernel
theorem dX12_findSessions_121 : decode cX12_findSessions 121 = .ok (.iaload, 1) := by decide +kernel
theorem dX12_findSessions_122 : decode cX12_findSessions 122 = .ok (.iconst 3, 1) := by decide +kernel
theorem dX12_findSessions_123 : decode cX12_findSessions 123 = .ok (.if_icmp .ne 7, 3) := by decide +kernel
theorem dX12_findSessions_126 : decode cX12_findSessions 126 = .ok (.iconst 1, 1) := by decide +kernel
theorem dX12_findSessions_127 : decode cX12_findSessions 127 = .ok (.goto 4, 3) := by decide +kernel
theorem dX12_findSessions_130 : decode cX12_findSessions 130 = .ok (.iconst 0, 1) := by decide +kernel
theorem dX12_findSessions_131 : decode cX12_findSessions 131 = .ok (.iadd, 1) := by decide +kernel
theorem dX12_findSessions_132 : decode cX12_findSessions 132 = .ok (.iastore, 1) := by decide +kernel
theorem dX12_findSessions_133 : decode cX12_findSessions 133 = .ok (.iinc 2 1, 3) := by decide +kernel
theorem dX12_findSessions_136 : decode cX12_findSessions 136 = .ok (.goto (-105), 3) := by decide +kernel
theorem dX12_findSessions_139 : decode cX12_findSessions 139 = .ok (.iconst 1, 1) := by decide +kernel
theorem dX12_findSessions_140 : decode cX12_findSessions 140 = .ok (.istore_n 2, 1) := by decide +kernel
theorem dX12_findSessions_141 : decode cX12_findSessions 141 = .ok (.iload_n 2, 1) := by decide +kernel
theorem dX12_findSessions_142 : decode cX12_findSessions 142 = .ok (.sipush 400, 3) := by decide +kernel
theorem dX12_findSessions_145 : decode cX12_findSessions 145 = .ok (.if_icmp .gt 43, 3) := by decide +kernel
theorem dX12_findSessions_148 : decode cX12_findSessions 148 = .ok (.aload_n 0, 1) := by decide +kernel
theorem dX12_findSessions_149 : decode cX12_findSessions 149 = .ok (.getfield 68, 3) := by decide +kernel
theorem dX12_findSessions_152 : decode cX12_findSessions 152 = .ok (.iload_n 2, 1) := by decide +kernel
theorem dX12_findSessions_153 : decode cX12_findSessions 153 = .ok (.dup2, 1) := by decide +kernel
theorem dX12_findSessions_154 : decode cX12_findSessions 154 = .ok (.iaload, 1) := by decide +kernel
theorem dX12_findSessions_155 : decode cX12_findSessions 155 = .ok (.aload_n 0, 1) := by decide +kernel
theorem dX12_findSessions_156 : decode cX12_findSessions 156 = .ok (.getfield 68, 3) := by decide +kernel
theorem dX12_findSessions_159 : decode cX12_findSessions 159 = .ok (.iload_n 2, 1) := by decide +kernel
theorem dX12_findSessions_160 : decode cX12_findSessions 160 = .ok (.iconst 1, 1) := by decide +kernel
theorem dX12_findSessions_161 : decode cX12_findSessions 161 = .ok (.isub, 1) := by decide +kernel
theorem dX12_findSessions_162 : decode cX12_findSessions 162 = .ok (.iaload, 1) := by decide +kernel
theorem dX12_findSessions_163 : decode cX12_findSessions 163 = .ok (.iadd, 1) := by decide +kernel
theorem dX12_findSessions_164 : decode cX12_findSessions 164 = .ok (.iastore, 1) := by decide +kernel
theorem dX12_findSessions_165 : decode cX12_findSessions 165 = .ok (.aload_n 0, 1) := by decide +kernel
theorem dX12_findSessions_166 : decode cX12_findSessions 166 = .ok (.getfield 71, 3) := by decide +kernel
theorem dX12_findSessions_169 : decode cX12_findSessions 169 = .ok (.iload_n 2, 1) := by decide +kernel
theorem dX12_findSessions_170 : decode cX12_findSessions 170 = .ok (.dup2, 1) := by decide +kernel
theorem dX12_findSessions_171 : decode cX12_findSessions 171 = .ok (.iaload, 1) := by decide +kernel
theorem dX12_findSessions_172 : decode cX12_findSessions 172 = .ok (.aload_n 0, 1) := by decide +kernel
theorem dX12_findSessions_173 : decode cX12_findSessions 173 = .ok (.getfield 71, 3) := by decide +kernel
theorem dX12_findSessions_176 : decode cX12_findSessions 176 = .ok (.iload_n 2, 1) := by decide +kernel
theorem dX12_findSessions_177 : decode cX12_findSessions 177 = .ok (.iconst 1, 1) := by decide +kernel
theorem dX12_findSessions_178 : decode cX12_findSessions 178 = .ok (.isub, 1) := by decide +kernel
theorem dX12_findSessions_179 : decode cX12_findSessions 179 = .ok (.iaload, 1) := by decide +kernel
theorem dX12_findSessions_180 : decode cX12_findSessions 180 = .ok (.iadd, 1) := by decide +kernel
theorem dX12_findSessions_181 : decode cX12_findSessions 181 = .ok (.iastore, 1) := by decide +kernel
theorem dX12_findSessions_182 : decode cX12_findSessions 182 = .ok (.iinc 2 1, 3) := by decide +kernel
theorem dX12_findSessions_185 : decode cX12_findSessions 185 = .ok (.goto (-44), 3) := by decide +kernel
theorem dX12_findSessions_188 : decode cX12_findSessions 188 = .ok (.return_, 1) := by decide +kernel
theorem dX12_findWays_0 : decode cX12_findWays 0 = .ok (.aload_n 0, 1) := by decide +kernel
theorem dX12_findWays_1 : decode cX12_findWays 1 = .ok (.getfield 7, 3) := by decide +kernel
theorem dX12_findWays_4 : decode cX12_findWays 4 = .ok (.bipush 7, 2) := by decide +kernel
theorem dX12_findWays_6 : decode cX12_findWays 6 = .ok (.iaload, 1) := by decide +kernel
theorem dX12_findWays_7 : decode cX12_findWays 7 = .ok (.istore_n 3, 1) := by decide +kernel
theorem dX12_findWays_8 : decode cX12_findWays 8 = .ok (.iconst 1, 1) := by decide +kernel
theorem dX12_findWays_9 : decode cX12_findWays 9 = .ok (.istore 4, 2) := by decide +kernel
theorem dX12_findWays_11 : decode cX12_findWays 11 = .ok (.iload 4, 2) := by decide +kernel
theorem dX12_findWays_13 : decode cX12_findWays 13 = .ok (.iconst 1, 1) := by decide +kernel
theorem dX12_findWays_14 : decode cX12_findWays 14 = .ok (.iload_n 3, 1) := by decide +kernel
theorem dX12_findWays_15 : decode cX12_findWays 15 = .ok (.ishl, 1) := by decide +kernel
theorem dX12_findWays_16 : decode cX12_findWays 16 = .ok (.if_icmp .ge 154, 3) := by decide +kernel
theorem dX12_findWays_19 : decode cX12_findWays 19 = .ok (.iconst 0, 1) := by decide +kernel
theorem dX12_findWays_20 : decode cX12_findWays 20 = .ok (.istore 5, 2) := by decide +kernel
theorem dX12_findWays_22 : decode cX12_findWays 22 = .ok (.iload 5, 2) := by decide +kernel
theorem dX12_findWays_24 : decode cX12_findWays 24 = .ok (.iload_n 3, 1) := by decide +kernel
theorem dX12_findWays_25 : decode cX12_findWays 25 = .ok (.if_icmp .ge 139, 3) := by decide +kernel
theorem dX12_findWays_28 : decode cX12_findWays 28 = .ok (.iload 4, 2) := by decide +kernel
theorem dX12_findWays_30 : decode cX12_findWays 30 = .ok (.iconst 1, 1) := by decide +kernel
theorem dX12_findWays_31 : decode cX12_findWays 31 = .ok (.iload 5, 2) := by decide +kernel
theorem dX12_findWays_33 : decode cX12_findWays 33 = .ok (.ishl, 1) := by decide +kernel
theorem dX12_findWays_34 : decode cX12_findWays 34 = .ok (.iconst (-1), 1) := by decide +kernel
theorem dX12_findWays_35 : decode cX12_findWays 35 = .ok (.ixor, 1) := by decide +kernel
theorem dX12_findWays_36 : decode cX12_findWays 36 = .ok (.iand, 1) := by decide +kernel
theorem dX12_findWays_37 : decode cX12_findWays 37 = .ok (.istore 6, 2) := by decide +kernel
theorem dX12_findWays_39 : decode cX12_findWays 39 = .ok (.iload 6, 2) := by decide +kernel
theorem dX12_findWays_41 : decode cX12_findWays 41 = .ok (.ifCond .ne 14, 3) := by decide +kernel
theorem dX12_findWays_44 : decode cX12_findWays 44 = .ok (.aload_n 0, 1) := by decide +kernel
theorem dX12_findWays_45 : decode cX12_findWays 45 = .ok (.iload 5, 2) := by decide +kernel
theorem dX12_findWays_47 : decode cX12_findWays 47 = .ok (.iload_n 1, 1) := by decide +kernel
theorem dX12_findWays_48 : decode cX12_findWays 48 = .ok (.iload_n 2, 1) := by decide +kernel
theorem dX12_findWays_49 : decode cX12_findWays 49 = .ok (.invokevirtual 528, 3) := by decide +kernel
theorem dX12_findWays_52 : decode cX12_findWays 52 = .ok (.goto 6, 3) := by decide +kernel
theorem dX12_findWays_55 : decode cX12_findWays 55 = .ok (.ldc_w 531, 3) := by decide +kernel
theorem dX12_findWays_58 : decode cX12_findWays 58 = .ok (.istore 7, 2) := by decide +kernel
theorem dX12_findWays_60 : decode cX12_findWays 60 = .ok (.iconst 0, 1) := by decide +kernel
theorem dX12_findWays_61 : decode cX12_findWays 61 = .ok (.istore 8, 2) := by decide +kernel
theorem dX12_findWays_63 : decode cX12_findWays 63 = .ok (.iload 8, 2) := by decide +kernel
theorem dX12_findWays_65 : decode cX12_findWays 65 = .ok (.iload_n 3, 1) := by decide +kernel
theorem dX12_findWays_66 : decode cX12_findWays 66 = .ok (.if_icmp .ge 60, 3) := by decide +kernel
theorem dX12_findWays_69 : decode cX12_findWays 69 = .ok (.iload 6, 2) := by decide +kernel
theorem dX12_findWays_71 : decode cX12_findWays 71 = .ok (.iload 8, 2) := by decide +kernel
theorem dX12_findWays_73 : decode cX12_findWays 73 = .ok (.ishr, 1) := by decide +kernel
theorem dX12_findWays_74 : decode cX12_findWays 74 = .ok (.iconst 1, 1) := by decide +kernel
theorem dX12_findWays_75 : decode cX12_findWays 75 = .ok (.iand, 1) := by decide +kernel
theorem dX12_findWays_76 : decode cX12_findWays 76 = .ok (.iconst 1, 1) := by decide +kernel
theorem dX12_findWays_77 : decode cX12_findWays 77 = .ok (.if_icmp .ne 43, 3) := by decide +kernel
theorem dX12_findWays_80 : decode cX12_findWays 80 = .ok (.aload_n 0, 1) := by decide +kernel
theorem dX12_findWays_81 : decode cX12_findWays 81 = .ok (.getfield 80, 3) := by decide +kernel
theorem dX12_findWays_84 : decode cX12_findWays 84 = .ok (.bipush 9, 2) := by decide +kernel
theorem dX12_findWays_86 : decode cX12_findWays 86 = .ok (.iload 6, 2) := by decide +kernel
theorem dX12_findWays_88 : decode cX12_findWays 88 = .ok (.imul, 1) := by decide +kernel
theorem dX12_findWays_89 : decode cX12_findWays 89 = .ok (.iload 8, 2) := by decide +kernel
theorem dX12_findWays_91 : decode cX12_findWays 91 = .ok (.iadd, 1) := by decide +kernel
theorem dX12_findWays_92 : decode cX12_findWays 92 = .ok (.iaload, 1) := by decide +kernel
theorem dX12_findWays_93 : decode cX12_findWays 93 = .ok (.aload_n 0, 1) := by decide +kernel
theorem dX12_findWays_94 : decode cX12_findWays 94 = .ok (.iload 8, 2) := by decide +kernel
theorem dX12_findWays_96 : decode cX12_findWays 96 = .ok (.iload 5, 2) := by decide +kernel
theorem dX12_findWays_98 : decode cX12_findWays 98 = .ok (.invokevirtual 532, 3) := by decide +kernel
theorem dX12_findWays_101 : decode cX12_findWays 101 = .ok (.iadd, 1) := by decide +kernel
theorem dX12_findWays_102 : decode cX12_findWays 102 = .ok (.istore 9, 2) := by decide +kernel
theorem dX12_findWays_104 : decode cX12_findWays 104 = .ok (.iload 9, 2) := by decide +kernel
theorem dX12_findWays_106 : decode cX12_findWays 106 = .ok (.iload 7, 2) := by decide +kernel
theorem dX12_findWays_108 : decode cX12_findWays 108 = .ok (.if_icmp .ge 8, 3) := by decide +kernel
theorem dX12_findWays_111 : decode cX12_findWays 111 = .ok (.iload 9, 2) := by decide +kernel
theorem dX12_findWays_113 : decode cX12_findWays 113 = .ok (.goto 5, 3) := by decide +kernel
theorem dX12_findWays_116 : decode cX12_findWays 116 = .ok (.iload 7, 2) := by decide +kernel
theorem dX12_findWays_118 : decode cX12_findWays 118 = .ok (.istore 7, 2) := by decide +kernel
theorem dX12_findWays_120 : decode cX12_findWays 120 = .ok (.iinc 8 1, 3) := by decide +kernel
theorem dX12_findWays_123 : decode cX12_findWays 123 = .ok (.goto (-60), 3) := by decide +kernel
theorem dX12_findWays_126 : decode cX12_findWays 126 = .ok (.aload_n 0, 1) := by decide +kernel
theorem dX12_findWays_127 : decode cX12_findWays 127 = .ok (.getfield 80, 3) := by decide +kernel
theorem dX12_findWays_130 : decode cX12_findWays 130 = .ok (.bipush 9, 2) := by decide +kernel
theorem dX12_findWays_132 : decode cX12_findWays 132 = .ok (.iload 4, 2) := by decide +kernel
theorem dX12_findWays_134 : decode cX12_findWays 134 = .ok (.imul, 1) := by decide +kernel
theorem dX12_findWays_135 : decode cX12_findWays 135 = .ok (.iload 5, 2) := by decide +kernel
theorem dX12_findWays_137 : decode cX12_findWays 137 = .ok (.iadd, 1) := by decide +kernel
theorem dX12_findWays_138 : decode cX12_findWays 138 = .ok (.iload 4, 2) := by decide +kernel
theorem dX12_findWays_140 : decode cX12_findWays 140 = .ok (.iload 5, 2) := by decide +kernel
theorem dX12_findWays_142 : decode cX12_findWays 142 = .ok (.ishr, 1) := by decide +kernel
theorem dX12_findWays_143 : decode cX12_findWays 143 = .ok (.iconst 1, 1) := by decide +kernel
theorem dX12_findWays_144 : decode cX12_findWays 144 = .ok (.iand, 1) := by decide +kernel
theorem dX12_findWays_145 : decode cX12_findWays 145 = .ok (.iconst 1, 1) := by decide +kernel
theorem dX12_findWays_146 : decode cX12_findWays 146 = .ok (.if_icmp .ne 8, 3) := by decide +kernel
theorem dX12_findWays_149 : decode cX12_findWays 149 = .ok (.iload 7, 2) := by decide +kernel
theorem dX12_findWays_151 : decode cX12_findWays 151 = .ok (.goto 6, 3) := by decide +kernel
theorem dX12_findWays_154 : decode cX12_findWays 154 = .ok (.ldc_w 531, 3) := by decide +kernel
theorem dX12_findWays_157 : decode cX12_findWays 157 = .ok (.iastore, 1) := by decide +kernel
theorem dX12_findWays_158 : decode cX12_findWays 158 = .ok (.iinc 5 1, 3) := by decide +kernel
theorem dX12_findWays_161 : decode cX12_findWays 161 = .ok (.goto (-139), 3) := by decide +kernel
theorem dX12_findWays_164 : decode cX12_findWays 164 = .ok (.iinc 4 1, 3) := by decide +kernel
theorem dX12_findWays_167 : decode cX12_findWays 167 = .ok (.goto (-156), 3) := by decide +kernel
theorem dX12_findWays_170 : decode cX12_findWays 170 = .ok (.return_, 1) := by decide +kernel
theorem dX12_fine_0 : decode cX12_fine 0 = .ok (.aload_n 0, 1) := by decide +kernel
theorem dX12_fine_1 : decode cX12_fine 1 = .ok (.iconst 0, 1) := by decide +kernel
theorem dX12_fine_2 : decode cX12_fine 2 = .ok (.putfield 92, 3) := by decide +kernel
theorem dX12_fine_5 : decode cX12_fine 5 = .ok (.aload_n 0, 1) := by decide +kernel
theorem dX12_fine_6 : decode cX12_fine 6 = .ok (.iload_n 1, 1) := by decide +kernel
theorem dX12_fine_7 : decode cX12_fine 7 = .ok (.invokevirtual 138, 3) := by decide +kernel
theorem dX12_fine_10 : decode cX12_fine 10 = .ok (.ifCond .eq 50, 3) := by decide +kernel
theorem dX12_fine_13 : decode cX12_fine 13 = .ok (.iload_n 2, 1) := by decide +kernel
theorem dX12_fine_14 : decode cX12_fine 14 = .ok (.invokestatic 460, 3) := by decide +kernel
theorem dX12_fine_17 : decode cX12_fine 17 = .ok (.ifCond .eq 43, 3) := by decide +kernel
theorem dX12_fine_20 : decode cX12_fine 20 = .ok (.iload_n 3, 1) := by decide +kernel
theorem dX12_fine_21 : decode cX12_fine 21 = .ok (.invokestatic 127, 3) := by decide +kernel
theorem dX12_fine_24 : decode cX12_fine 24 = .ok (.ifCond .eq 36, 3) := by decide +kernel
theorem dX12_fine_27 : decode cX12_fine 27 = .ok (.iload 4, 2) := by decide +kernel
theorem dX12_fine_29 : decode cX12_fine 29 = .ok (.i2l, 1) := by decide +kernel
theorem dX12_fine_30 : decode cX12_fine 30 = .ok (.lconst 0, 1) := by decide +kernel
theorem dX12_fine_31 : decode cX12_fine 31 = .ok (.ldc2_w 484, 3) := by decide +kernel
theorem dX12_fine_34 : decode cX12_fine 34 = .ok (.invokestatic 100, 3) := by decide +kernel
theorem dX12_fine_37 : decode cX12_fine 37 = .ok (.ifCond .eq 23, 3) := by decide +kernel
theorem dX12_fine_40 : decode cX12_fine 40 = .ok (.aload_n 0, 1) := by decide +kernel
theorem dX12_fine_41 : decode cX12_fine 41 = .ok (.iload_n 1, 1) := by decide +kernel
theorem dX12_fine_42 : decode cX12_fine 42 = .ok (.iload_n 2, 1) := by decide +kernel
theorem dX12_fine_43 : decode cX12_fine 43 = .ok (.invokevirtual 469, 3) := by decide +kernel
theorem dX12_fine_46 : decode cX12_fine 46 = .ok (.iconst (-1), 1) := by decide +kernel
theorem dX12_fine_47 : decode cX12_fine 47 = .ok (.if_icmp .eq 13, 3) := by decide +kernel
theorem dX12_fine_50 : decode cX12_fine 50 = .ok (.aload_n 0, 1) := by decide +kernel
theorem dX12_fine_51 : decode cX12_fine 51 = .ok (.iload_n 1, 1) := by decide +kernel
theorem dX12_fine_52 : decode cX12_fine 52 = .ok (.iload_n 2, 1) := by decide +kernel
theorem dX12_fine_53 : decode cX12_fine 53 = .ok (.invokevirtual 469, 3) := by decide +kernel
theorem dX12_fine_56 : decode cX12_fine 56 = .ok (.iload_n 3, 1) := by decide +kernel
theorem dX12_fine_57 : decode cX12_fine 57 = .ok (.if_icmp .le 5, 3) := by decide +kernel
theorem dX12_fine_60 : decode cX12_fine 60 = .ok (.iconst (-1), 1) := by decide +kernel
theorem dX12_fine_61 : decode cX12_fine 61 = .ok (.ireturn, 1) := by decide +kernel
theorem dX12_fine_62 : decode cX12_fine 62 = .ok (.iload 4, 2) := by decide +kernel
theorem dX12_fine_64 : decode cX12_fine 64 = .ok (.ifCond .ne 10, 3) := by decide +kernel
theorem dX12_fine_67 : decode cX12_fine 67 = .ok (.aload_n 0, 1) := by decide +kernel
theorem dX12_fine_68 : decode cX12_fine 68 = .ok (.iload_n 1, 1) := by decide +kernel
theorem dX12_fine_69 : decode cX12_fine 69 = .ok (.iload_n 2, 1) := by decide +kernel
theorem dX12_fine_70 : decode cX12_fine 70 = .ok (.invokevirtual 481, 3) := by decide +kernel
theorem dX12_fine_73 : decode cX12_fine 73 = .ok (.ireturn, 1) := by decide +kernel
theorem dX12_fine_74 : decode cX12_fine 74 = .ok (.iload_n 1, 1) := by decide +kernel
theorem dX12_fine_75 : decode cX12_fine 75 = .ok (.invokestatic 120, 3) := by decide +kernel
theorem dX12_fine_78 : decode cX12_fine 78 = .ok (.istore 5, 2) := by decide +kernel
theorem dX12_fine_80 : decode cX12_fine 80 = .ok (.aload_n 0, 1) := by decide +kernel
theorem dX12_fine_81 : decode cX12_fine 81 = .ok (.getfield 7, 3) := by decide +kernel
theorem dX12_fine_84 : decode cX12_fine 84 = .ok (.iload 5, 2) := by decide +kernel
theorem dX12_fine_86 : decode cX12_fine 86 = .ok (.bipush 9, 2) := by decide +kernel
theorem dX12_fine_88 : decode cX12_fine 88 = .ok (.iadd, 1) := by decide +kernel
theorem dX12_fine_89 : decode cX12_fine 89 = .ok (.iload_n 2, 1) := by decide +kernel
theorem dX12_fine_90 : decode cX12_fine 90 = .ok (.iadd, 1) := by decide +kernel
theorem dX12_fine_91 : decode cX12_fine 91 = .ok (.iaload, 1) := by decide +kernel
theorem dX12_fine_92 : decode cX12_fine 92 = .ok (.iconst (-1), 1) := by decide +kernel
theorem dX12_fine_93 : decode cX12_fine 93 = .ok (.if_icmp .eq 23, 3) := by decide +kernel
theorem dX12_fine_96 : decode cX12_fine 96 = .ok (.aload_n 0, 1) := by decide +kernel
theorem dX12_fine_97 : decode cX12_fine 97 = .ok (.getfield 7, 3) := by decide +kernel
theorem dX12_fine_100 : decode cX12_fine 100 = .ok (.iload 5, 2) := by decide +kernel
theorem dX12_fine_102 : decode cX12_fine 102 = .ok (.bipush 9, 2) := by decide +kernel
theorem dX12_fine_104 : decode cX12_fine 104 = .ok (.iadd, 1) := by decide +kernel
theorem dX12_fine_105 : decode cX12_fine 105 = .ok (.iload_n 2, 1) := by decide +kernel
theorem dX12_fine_106 : decode cX12_fine 106 = .ok (.iadd, 1) := by decide +kernel
theorem dX12_fine_107 : decode cX12_fine 107 = .ok (.iaload, 1) := by decide +kernel
theorem dX12_fine_108 : decode cX12_fine 108 = .ok (.iload_n 3, 1) := by decide +kernel
theorem dX12_fine_109 : decode cX12_fine 109 = .ok (.if_icmp .gt 7, 3) := by decide +kernel
theorem dX12_fine_112 : decode cX12_fine 112 = .ok (.iconst 1, 1) := by decide +kernel
theorem dX12_fine_113 : decode cX12_fine 113 = .ok (.goto 4, 3) := by decide +kernel
theorem dX12_fine_116 : decode cX12_fine 116 = .ok (.iconst 0, 1) := by decide +kernel
theorem dX12_fine_117 : decode cX12_fine 117 = .ok (.istore 6, 2) := by decide +kernel
theorem dX12_fine_119 : decode cX12_fine 119 = .ok (.aload_n 0, 1) := by decide +kernel
theorem dX12_fine_120 : decode cX12_fine 120 = .ok (.iload_n 1, 1) := by decide +kernel
theorem dX12_fine_121 : decode cX12_fine 121 = .ok (.iload_n 2, 1) := by decide +kernel
theorem dX12_fine_122 : decode cX12_fine 122 = .ok (.iload_n 3, 1) := by decide +kernel
theorem dX12_fine_123 : decode cX12_fine 123 = .ok (.invokevirtual 475, 3) := by decide +kernel
theorem dX12_fine_126 : decode cX12_fine 126 = .ok (.istore 7, 2) := by decide +kernel
theorem dX12_fine_128 : decode cX12_fine 128 = .ok (.iload 4, 2) := by decide +kernel
theorem dX12_fine_130 : decode cX12_fine 130 = .ok (.iconst 1, 1) := by decide +kernel
theorem dX12_fine_131 : decode cX12_fine 131 = .ok (.if_icmp .ne 24, 3) := by decide +kernel
theorem dX12_fine_134 : decode cX12_fine 134 = .ok (.iload 7, 2) := by decide +kernel
theorem dX12_fine_136 : decode cX12_fine 136 = .ok (.ifCond .eq 8, 3) := by decide +kernel
theorem dX12_fine_139 : decode cX12_fine 139 = .ok (.iload 6, 2) := by decide +kernel
theorem dX12_fine_141 : decode cX12_fine 141 = .ok (.ifCond .eq 7, 3) := by decide +kernel
theorem dX12_fine_144 : decode cX12_fine 144 = .ok (.iconst 0, 1) := by decide +kernel
theorem dX12_fine_145 : decode cX12_fine 145 = .ok (.goto 9, 3) := by decide +kernel
theorem dX12_fine_148 : decode cX12_fine 148 = .ok (.aload_n 0, 1) := by decide +kernel
theorem dX12_fine_149 : decode cX12_fine 149 = .ok (.iload_n 1, 1) := by decide +kernel
theorem dX12_fine_150 : decode cX12_fine 150 = .ok (.iload_n 2, 1) := by decide +kernel
theorem dX12_fine_151 : decode cX12_fine 151 = .ok (.invokevirtual 481, 3) := by decide +kernel
theorem dX12_fine_154 : decode cX12_fine 154 = .ok (.ireturn, 1) := by decide +kernel
theorem dX12_fine_155 : decode cX12_fine 155 = .ok (.iload 7, 2) := by decide +kernel
theorem dX12_fine_157 : decode cX12_fine 157 = .ok (.ifCond .ne 8, 3) := by decide +kernel
theorem dX12_fine_160 : decode cX12_fine 160 = .ok (.iload 6, 2) := by decide +kernel
theorem dX12_fine_162 : decode cX12_fine 162 = .ok (.ifCond .ne 7, 3) := by decide +kernel
theorem dX12_fine_165 : decode cX12_fine 165 = .ok (.iconst 0, 1) := by decide +kernel
theorem dX12_fine_166 : decode cX12_fine 166 = .ok (.goto 15, 3) := by decide +kernel
theorem dX12_fine_169 : decode cX12_fine 169 = .ok (.aload_n 0, 1) := by decide +kernel
theorem dX12_fine_170 : decode cX12_fine 170 = .ok (.getfield 7, 3) := by decide +kernel
theorem dX12_fine_173 : decode cX12_fine 173 = .ok (.iload 5, 2) := by decide +kernel
theorem dX12_fine_175 : decode cX12_fine 175 = .ok (.bipush 13, 2) := by decide +kernel
theorem dX12_fine_177 : decode cX12_fine 177 = .ok (.iadd, 1) := by decide +kernel
theorem dX12_fine_178 : decode cX12_fine 178 = .ok (.iload_n 2, 1) := by decide +kernel
theorem dX12_fine_179 : decode cX12_fine 179 = .ok (.iadd, 1) := by decide +kernel
theorem dX12_fine_180 : decode cX12_fine 180 = .ok (.iaload, 1) := by decide +kernel
theorem dX12_fine_181 : decode cX12_fine 181 = .ok (.ireturn, 1) := by decide +kernel
theorem dX12_fineOf_0 : decode cX12_fineOf 0 = .ok (.aload_n 0, 1) := by decide +kernel
theorem dX12_fineOf_1 : decode cX12_fineOf 1 = .ok (.iload_n 1, 1) := by decide +kernel
theorem dX12_fineOf_2 : decode cX12_fineOf 2 = .ok (.iload_n 2, 1) := by decide +kernel
theorem dX12_fineOf_3 : decode cX12_fineOf 3 = .ok (.invokevirtual 469, 3) := by decide +kernel
theorem dX12_fineOf_6 : decode cX12_fineOf 6 = .ok (.istore_n 3, 1) := by decide +kernel
theorem dX12_fineOf_7 : decode cX12_fineOf 7 = .ok (.aload_n 0, 1) := by decide +kernel
theorem dX12_fineOf_8 : decode cX12_fineOf 8 = .ok (.iload_n 3, 1) := by decide +kernel
theorem dX12_fineOf_9 : decode cX12_fineOf 9 = .ok (.invokevirtual 186, 3) := by decide +kernel
theorem dX12_fineOf_12 : decode cX12_fineOf 12 = .ok (.aload_n 0, 1) := by decide +kernel
theorem dX12_fineOf_13 : decode cX12_fineOf 13 = .ok (.iload_n 1, 1) := by decide +kernel
theorem dX12_fineOf_14 : decode cX12_fineOf 14 = .ok (.invokevirtual 463, 3) := by decide +kernel
theorem dX12_fineOf_17 : decode cX12_fineOf 17 = .ok (.aload_n 0, 1) := by decide +kernel
theorem dX12_fineOf_18 : decode cX12_fineOf 18 = .ok (.iload_n 1, 1) := by decide +kernel
theorem dX12_fineOf_19 : decode cX12_fineOf 19 = .ok (.iload_n 3, 1) := by decide +kernel
theorem dX12_fineOf_20 : decode cX12_fineOf 20 = .ok (.invokevirtual 457, 3) := by decide +kernel
theorem dX12_fineOf_23 : decode cX12_fineOf 23 = .ok (.aload_n 0, 1) := by decide +kernel
theorem dX12_fineOf_24 : decode cX12_fineOf 24 = .ok (.iconst 3, 1) := by decide +kernel
theorem dX12_fineOf_25 : decode cX12_fineOf 25 = .ok (.iload_n 2, 1) := by decide +kernel
theorem dX12_fineOf_26 : decode cX12_fineOf 26 = .ok (.iconst (-1), 1) := by decide +kernel
theorem dX12_fineOf_27 : decode cX12_fineOf 27 = .ok (.invokevirtual 175, 3) := by decide +kernel
theorem dX12_fineOf_30 : decode cX12_fineOf 30 = .ok (.ifCond .ne 10, 3) := by decide +kernel
theorem dX12_fineOf_33 : decode cX12_fineOf 33 = .ok (.aload_n 0, 1) := by decide +kernel
theorem dX12_fineOf_34 : decode cX12_fineOf 34 = .ok (.iconst 0, 1) := by decide +kernel
theorem dX12_fineOf_35 : decode cX12_fineOf 35 = .ok (.putfield 478, 3) := by decide +kernel
theorem dX12_fineOf_38 : decode cX12_fineOf 38 = .ok (.iconst 0, 1) := by decide +kernel
theorem dX12_fineOf_39 : decode cX12_fineOf 39 = .ok (.ireturn, 1) := by decide +kernel
theorem dX12_fineOf_40 : decode cX12_fineOf 40 = .ok (.aload_n 0, 1) := by decide +kernel
theorem dX12_fineOf_41 : decode cX12_fineOf 41 = .ok (.aload_n 0, 1) := by decide +kernel
theorem dX12_fineOf_42 : decode cX12_fineOf 42 = .ok (.getfield 178, 3) := by decide +kernel
theorem dX12_fineOf_45 : decode cX12_fineOf 45 = .ok (.putfield 478, 3) := by decide +kernel
theorem dX12_fineOf_48 : decode cX12_fineOf 48 = .ok (.aload_n 0, 1) := by decide +kernel
theorem dX12_fineOf_49 : decode cX12_fineOf 49 = .ok (.getfield 433, 3) := by decide +kernel
theorem dX12_fineOf_52 : decode cX12_fineOf 52 = .ok (.lconst 0, 1) := by decide +kernel
theorem dX12_fineOf_53 : decode cX12_fineOf 53 = .ok (.lcmp, 1) := by decide +kernel
theorem dX12_fineOf_54 : decode cX12_fineOf 54 = .ok (.ifCond .ge 7, 3) := by decide +kernel
theorem dX12_fineOf_57 : decode cX12_fineOf 57 = .ok (.iconst 0, 1) := by decide +kernel
theorem dX12_fineOf_58 : decode cX12_fineOf 58 = .ok (.goto 8, 3) := by decide +kernel
theorem dX12_fineOf_61 : decode cX12_fineOf 61 = .ok (.aload_n 0, 1) := by decide +kernel
theorem dX12_fineOf_62 : decode cX12_fineOf 62 = .ok (.getfield 433, 3) := by decide +kernel
theorem dX12_fineOf_65 : decode cX12_fineOf 65 = .ok (.l2i, 1) := by decide +kernel
theorem dX12_fineOf_66 : decode cX12_fineOf 66 = .ok (.ireturn, 1) := by decide +kernel
theorem dX12_force_0 : decode cX12_force 0 = .ok (.aload_n 0, 1) := by decide +kernel
theorem dX12_force_1 : decode cX12_force 1 = .ok (.iconst 0, 1) := by decide +kernel
theorem dX12_force_2 : decode cX12_force 2 = .ok (.putfield 92, 3) := by decide +kernel
theorem dX12_force_5 : decode cX12_force 5 = .ok (.iload_n 1, 1) := by decide +kernel
theorem dX12_force_6 : decode cX12_force 6 = .ok (.i2l, 1) := by decide +kernel
theorem dX12_force_7 : decode cX12_force 7 = .ok (.lconst 0, 1) := by decide +kernel
theorem dX12_force_8 : decode cX12_force 8 = .ok (.aload_n 0, 1) := by decide +kernel
theorem dX12_force_9 : decode cX12_force 9 = .ok (.getfield 7, 3) := by decide +kernel
theorem dX12_force_12 : decode cX12_force 12 = .ok (.iconst 4, 1) := by decide +kernel
theorem dX12_force_13 : decode cX12_force 13 = .ok (.iaload, 1) := by decide +kernel
theorem dX12_force_14 : decode cX12_force 14 = .ok (.i2l, 1) := by decide +kernel
theorem dX12_force_15 : decode cX12_force 15 = .ok (.lconst 1, 1) := by decide +kernel
theorem dX12_force_16 : decode cX12_force 16 = .ok (.lsub, 1) := by decide +kernel
theorem dX12_force_17 : decode cX12_force 17 = .ok (.invokestatic 100, 3) := by decide +kernel
theorem dX12_force_20 : decode cX12_force 20 = .ok (.ifCond .eq 33, 3) := by decide +kernel
theorem dX12_force_23 : decode cX12_force 23 = .ok (.iload_n 2, 1) := by decide +kernel
theorem dX12_force_24 : decode cX12_force 24 = .ok (.i2l, 1) := by decide +kernel
theorem dX12_force_25 : decode cX12_force 25 = .ok (.lconst 0, 1) := by decide +kernel
theorem dX12_force_26 : decode cX12_force 26 = .ok (.aload_n 0, 1) := by decide +kernel
theorem dX12_force_27 : decode cX12_force 27 = .ok (.getfield 7, 3) := by decide +kernel
theorem dX12_force_30 : decode cX12_force 30 = .ok (.iload_n 1, 1) := by decide +kernel
theorem dX12_force_31 : decode cX12_force 31 = .ok (.invokestatic 403, 3) := by decide +kernel
theorem dX12_force_34 : decode cX12_force 34 = .ok (.iconst 1, 1) := by decide +kernel
theorem dX12_force_35 : decode cX12_force 35 = .ok (.iadd, 1) := by decide +kernel
theorem dX12_force_36 : decode cX12_force 36 = .ok (.iaload, 1) := by decide +kernel
theorem dX12_force_37 : decode cX12_force 37 = .ok (.i2l, 1) := by decide +kernel
theorem dX12_force_38 : decode cX12_force 38 = .ok (.lconst 1, 1) := by decide +kernel
theorem dX12_force_39 : decode cX12_force 39 = .ok (.lsub, 1) := by decide +kernel
theorem dX12_force_40 : decode cX12_force 40 = .ok (.invokestatic 100, 3) := by decide +kernel
theorem dX12_force_43 : decode cX12_force 43 = .ok (.ifCond .eq 10, 3) := by decide +kernel
theorem dX12_force_46 : decode cX12_force 46 = .ok (.iload_n 3, 1) := by decide +kernel
theorem dX12_force_47 : decode cX12_force 47 = .ok (.invokestatic 127, 3) := by decide +kernel
theorem dX12_force_50 : decode cX12_force 50 = .ok (.ifCond .ne 5, 3) := by decide +kernel
theorem dX12_force_53 : decode cX12_force 53 = .ok (.iconst (-1), 1) := by decide +kernel
theorem dX12_force_54 : decode cX12_force 54 = .ok (.ireturn, 1) := by decide +kernel
theorem dX12_force_55 : decode cX12_force 55 = .ok (.aload_n 0, 1) := by decide +kernel
theorem dX12_force_56 : decode cX12_force 56 = .ok (.iload_n 3, 1) := by decide +kernel
theorem dX12_force_57 : decode cX12_force 57 = .ok (.invokevirtual 167, 3) := by decide +kernel
theorem dX12_force_60 : decode cX12_force 60 = .ok (.aload_n 0, 1) := by decide +kernel
theorem dX12_force_61 : decode cX12_force 61 = .ok (.getfield 55, 3) := by decide +kernel
theorem dX12_force_64 : decode cX12_force 64 = .ok (.iload_n 1, 1) := by decide +kernel
theorem dX12_force_65 : decode cX12_force 65 = .ok (.baload, 1) := by decide +kernel
theorem dX12_force_66 : decode cX12_force 66 = .ok (.ifCond .eq 21, 3) := by decide +kernel
theorem dX12_force_69 : decode cX12_force 69 = .ok (.aload_n 0, 1) := by decide +kernel
theorem dX12_force_70 : decode cX12_force 70 = .ok (.getfield 58, 3) := by decide +kernel
theorem dX12_force_73 : decode cX12_force 73 = .ok (.bipush 12, 2) := by decide +kernel
theorem dX12_force_75 : decode cX12_force 75 = .ok (.iload_n 1, 1) := by decide +kernel
theorem dX12_force_76 : decode cX12_force 76 = .ok (.imul, 1) := by decide +kernel
theorem dX12_force_77 : decode cX12_force 77 = .ok (.iload_n 2, 1) := by decide +kernel
theorem dX12_force_78 : decode cX12_force 78 = .ok (.iadd, 1) := by decide +kernel
theorem dX12_force_79 : decode cX12_force 79 = .ok (.baload, 1) := by decide +kernel
theorem dX12_force_80 : decode cX12_force 80 = .ok (.ifCond .ne 7, 3) := by decide +kernel
theorem dX12_force_83 : decode cX12_force 83 = .ok (.iconst 1, 1) := by decide +kernel
theorem dX12_force_84 : decode cX12_force 84 = .ok (.goto 4, 3) := by decide +kernel
theorem dX12_force_87 : decode cX12_force 87 = .ok (.iconst 0, 1) := by decide +kernel
theorem dX12_force_88 : decode cX12_force 88 = .ok (.ireturn, 1) := by decide +kernel
theorem dX12_found_0 : decode cX12_found 0 = .ok (.aload_n 0, 1) := by decide +kernel
theorem dX12_found_1 : decode cX12_found 1 = .ok (.iconst 0, 1) := by decide +kernel
theorem dX12_found_2 : decode cX12_found 2 = .ok (.putfield 92, 3) := by decide +kernel
theorem dX12_found_5 : decode cX12_found 5 = .ok (.iload_n 1, 1) := by decide +kernel
theorem dX12_found_6 : decode cX12_found 6 = .ok (.invokestatic 127, 3) := by decide +kernel
theorem dX12_found_9 : decode cX12_found 9 = .ok (.ifCond .eq 18, 3) := by decide +kernel
theorem dX12_found_12 : decode cX12_found 12 = .ok (.aload_n 0, 1) := by decide +kernel
theorem dX12_found_13 : decode cX12_found 13 = .ok (.getfield 7, 3) := by decide +kernel
theorem dX12_found_16 : decode cX12_found 16 = .ok (.sipush 7061, 3) := by decide +kernel
theorem dX12_found_19 : decode cX12_found 19 = .ok (.iconst 4, 1) := by decide +kernel
theorem dX12_found_20 : decode cX12_found 20 = .ok (.iload_n 1, 1) := by decide +kernel
theorem dX12_found_21 : decode cX12_found 21 = .ok (.imul, 1) := by decide +kernel
theorem dX12_found_22 : decode cX12_found 22 = .ok (.iadd, 1) := by decide +kernel
theorem dX12_found_23 : decode cX12_found 23 = .ok (.iaload, 1) := by decide +kernel
theorem dX12_found_24 : decode cX12_found 24 = .ok (.ifCond .ne 6, 3) := by decide +kernel
theorem dX12_found_27 : decode cX12_found 27 = .ok (.bipush (-3), 2) := by decide +kernel
theorem dX12_found_29 : decode cX12_found 29 = .ok (.ireturn, 1) := by decide +kernel
theorem dX12_found_30 : decode cX12_found 30 = .ok (.aload_n 0, 1) := by decide +kernel
theorem dX12_found_31 : decode cX12_found 31 = .ok (.iload_n 1, 1) := by decide +kernel
theorem dX12_found_32 : decode cX12_found 32 = .ok (.invokevirtual 558, 3) := by decide +kernel
theorem dX12_found_35 : decode cX12_found 35 = .ok (.sipush 7061, 3) := by decide +kernel
theorem dX12_found_38 : decode cX12_found 38 = .ok (.iconst 4, 1) := by decide +kernel
theorem dX12_found_39 : decode cX12_found 39 = .ok (.iload_n 1, 1) := by decide +kernel
theorem dX12_found_40 : decode cX12_found 40 = .ok (.imul, 1) := by decide +kernel
theorem dX12_found_41 : decode cX12_found 41 = .ok (.iadd, 1) := by decide +kernel
theorem dX12_found_42 : decode cX12_found 42 = .ok (.istore_n 2, 1) := by decide +kernel
theorem dX12_found_43 : decode cX12_found 43 = .ok (.aload_n 0, 1) := by decide +kernel
theorem dX12_found_44 : decode cX12_found 44 = .ok (.getfield 549, 3) := by decide +kernel
theorem dX12_found_47 : decode cX12_found 47 = .ok (.aload_n 0, 1) := by decide +kernel
theorem dX12_found_48 : decode cX12_found 48 = .ok (.getfield 7, 3) := by decide +kernel
theorem dX12_found_51 : decode cX12_found 51 = .ok (.iload_n 2, 1) := by decide +kernel
theorem dX12_found_52 : decode cX12_found 52 = .ok (.iconst 1, 1) := by decide +kernel
theorem dX12_found_53 : decode cX12_found 53 = .ok (.iadd, 1) := by decide +kernel
theorem dX12_found_54 : decode cX12_found 54 = .ok (.iaload, 1) := by decide +kernel
theorem dX12_found_55 : decode cX12_found 55 = .ok (.if_icmp .eq 6, 3) := by decide +kernel
theorem dX12_found_58 : decode cX12_found 58 = .ok (.bipush (-2), 2) := by decide +kernel
theorem dX12_found_60 : decode cX12_found 60 = .ok (.ireturn, 1) := by decide +kernel
theorem dX12_found_61 : decode cX12_found 61 = .ok (.aload_n 0, 1) := by decide +kernel
theorem dX12_found_62 : decode cX12_found 62 = .ok (.getfield 552, 3) := by decide +kernel
theorem dX12_found_65 : decode cX12_found 65 = .ok (.aload_n 0, 1) := by decide +kernel
theorem dX12_found_66 : decode cX12_found 66 = .ok (.getfield 7, 3) := by decide +kernel
theorem dX12_found_69 : decode cX12_found 69 = .ok (.iload_n 2, 1) := by decide +kernel
theorem dX12_found_70 : decode cX12_found 70 = .ok (.iconst 2, 1) := by decide +kernel
theorem dX12_found_71 : decode cX12_found 71 = .ok (.iadd, 1) := by decide +kernel
theorem dX12_found_72 : decode cX12_found 72 = .ok (.iaload, 1) := by decide +kernel
theorem dX12_found_73 : decode cX12_found 73 = .ok (.isub, 1) := by decide +kernel
theorem dX12_found_74 : decode cX12_found 74 = .ok (.istore_n 3, 1) := by decide +kernel
theorem dX12_found_75 : decode cX12_found 75 = .ok (.aload_n 0, 1) := by decide +kernel
theorem dX12_found_76 : decode cX12_found 76 = .ok (.getfield 555, 3) := by decide +kernel
theorem dX12_found_79 : decode cX12_found 79 = .ok (.aload_n 0, 1) := by decide +kernel
theorem dX12_found_80 : decode cX12_found 80 = .ok (.getfield 7, 3) := by decide +kernel
theorem dX12_found_83 : decode cX12_found 83 = .ok (.iload_n 2, 1) := by decide +kernel
theorem dX12_found_84 : decode cX12_found 84 = .ok (.iconst 3, 1) := by decide +kernel
theorem dX12_found_85 : decode cX12_found 85 = .ok (.iadd, 1) := by decide +kernel
theorem dX12_found_86 : decode cX12_found 86 = .ok (.iaload, 1) := by decide +kernel
theorem dX12_found_87 : decode cX12_found 87 = .ok (.isub, 1) := by decide +kernel
theorem dX12_found_88 : decode cX12_found 88 = .ok (.istore 4, 2) := by decide +kernel
theorem dX12_found_90 : decode cX12_found 90 = .ok (.iload_n 3, 1) := by decide +kernel
theorem dX12_found_91 : decode cX12_found 91 = .ok (.ifCond .ne 15, 3) := by decide +kernel
theorem dX12_found_94 : decode cX12_found 94 = .ok (.iload 4, 2) := by decide +kernel
theorem dX12_found_96 : decode cX12_found 96 = .ok (.ifCond .ne 7, 3) := by decide +kernel
theorem dX12_found_99 : decode cX12_found 99 = .ok (.iconst (-1), 1) := by decide +kernel
theorem dX12_found_100 : decode cX12_found 100 = .ok (.goto 5, 3) := by decide +kernel
theorem dX12_found_103 : decode cX12_found 103 = .ok (.bipush (-2), 2) := by decide +kernel
theorem dX12_found_105 : decode cX12_found 105 = .ok (.ireturn, 1) := by decide +kernel
theorem dX12_found_106 : decode cX12_found 106 = .ok (.iconst 0, 1) := by decide +kernel
theorem dX12_found_107 : decode cX12_found 107 = .ok (.istore 5, 2) := by decide +kernel
theorem dX12_found_109 : decode cX12_found 109 = .ok (.iconst 0, 1) := by decide +kernel
theorem dX12_found_110 : decode cX12_found 110 = .ok (.istore 6, 2) := by decide +kernel
theorem dX12_found_112 : decode cX12_found 112 = .ok (.iload 6, 2) := by decide +kernel
theorem dX12_found_114 : decode cX12_found 114 = .ok (.aload_n 0, 1) := by decide +kernel
theorem dX12_found_115 : decode cX12_found 115 = .ok (.getfield 7, 3) := by decide +kernel
theorem dX12_found_118 : decode cX12_found 118 = .ok (.iconst 3, 1) := by decide +kernel
theorem dX12_found_119 : decode cX12_found 119 = .ok (.iaload, 1) := by decide +kernel
theorem dX12_found_120 : decode cX12_found 120 = .ok (.if_icmp .ge 46, 3) := by decide +kernel
theorem dX12_found_123 : decode cX12_found 123 = .ok (.aload_n 0, 1) := by decide +kernel
theorem dX12_found_124 : decode cX12_found 124 = .ok (.getfield 7, 3) := by decide +kernel
theorem dX12_found_127 : decode cX12_found 127 = .ok (.iload 6, 2) := by decide +kernel
theorem dX12_found_129 : decode cX12_found 129 = .ok (.invokestatic 155, 3) := by decide +kernel
theorem dX12_found_132 : decode cX12_found 132 = .ok (.iconst 2, 1) := by decide +kernel
theorem dX12_found_133 : decode cX12_found 133 = .ok (.iadd, 1) := by decide +kernel
theorem dX12_found_134 : decode cX12_found 134 = .ok (.iaload, 1) := by decide +kernel
theorem dX12_found_135 : decode cX12_found 135 = .ok (.iconst 2, 1) := by decide +kernel
theorem dX12_found_136 : decode cX12_found 136 = .ok (.idiv, 1) := by decide +kernel
theorem dX12_found_137 : decode cX12_found 137 = .ok (.iload_n 1, 1) := by decide +kernel
theorem dX12_found_138 : decode cX12_found 138 = .ok (.if_icmp .ne 22, 3) := by decide +kernel
theorem dX12_found_141 : decode cX12_found 141 = .ok (.iinc 5 1, 3) := by decide +kernel
theorem dX12_found_144 : decode cX12_found 144 = .ok (.iload_n 3, 1) := by decide +kernel
theorem dX12_found_145 : decode cX12_found 145 = .ok (.i2l, 1) := by decide +kernel
theorem dX12_found_146 : decode cX12_found 146 = .ok (.iload 5, 2) := by decide +kernel
theorem dX12_found_148 : decode cX12_found 148 = .ok (.i2l, 1) := by decide +kernel
theorem dX12_found_149 : decode cX12_found 149 = .ok (.lmul, 1) := by decide +kernel
theorem dX12_found_150 : decode cX12_found 150 = .ok (.iload 4, 2) := by decide +kernel
theorem dX12_found_152 : decode cX12_found 152 = .ok (.i2l, 1) := by decide +kernel
theorem dX12_found_153 : decode cX12_found 153 = .ok (.lcmp, 1) := by decide +kernel
theorem dX12_found_154 : decode cX12_found 154 = .ok (.ifCond .ne 6, 3) := by decide +kernel
theorem dX12_found_157 : decode cX12_found 157 = .ok (.iload 6, 2) := by decide +kernel
theorem dX12_found_159 : decode cX12_found 159 = .ok (.ireturn, 1) := by decide +kernel
theorem dX12_found_160 : decode cX12_found 160 = .ok (.iinc 6 1, 3) := by decide +kernel
theorem dX12_found_163 : decode cX12_found 163 = .ok (.goto (-51), 3) := by decide +kernel
theorem dX12_found_166 : decode cX12_found 166 = .ok (.bipush (-2), 2) := by decide +kernel
theorem dX12_found_168 : decode cX12_found 168 = .ok (.ireturn, 1) := by decide +kernel
theorem dX12_four_0 : decode cX12_four 0 = .ok (.bipush 24, 2) := by decide +kernel
theorem dX12_four_2 : decode cX12_four 2 = .ok (.istore_n 2, 1) := by decide +kernel
theorem dX12_four_3 : decode cX12_four 3 = .ok (.iload_n 2, 1) := by decide +kernel
theorem dX12_four_4 : decode cX12_four 4 = .ok (.ifCond .lt 35, 3) := by decide +kernel
theorem dX12_four_7 : decode cX12_four 7 = .ok (.aload_n 0, 1) := by decide +kernel
theorem dX12_four_8 : decode cX12_four 8 = .ok (.getfield 33, 3) := by decide +kernel
theorem dX12_four_11 : decode cX12_four 11 = .ok (.aload_n 0, 1) := by decide +kernel
theorem dX12_four_12 : decode cX12_four 12 = .ok (.getfield 193, 3) := by decide +kernel
theorem dX12_four_15 : decode cX12_four 15 = .ok (.iload_n 1, 1) := by decide +kernel
theorem dX12_four_16 : decode cX12_four 16 = .ok (.iload_n 2, 1) := by decide +kernel
theorem dX12_four_17 : decode cX12_four 17 = .ok (.ishr, 1) := by decide +kernel
theorem dX12_four_18 : decode cX12_four 18 = .ok (.sipush 255, 3) := by decide +kernel
theorem dX12_four_21 : decode cX12_four 21 = .ok (.iand, 1) := by decide +kernel
theorem dX12_four_22 : decode cX12_four 22 = .ok (.iastore, 1) := by decide +kernel
theorem dX12_four_23 : decode cX12_four 23 = .ok (.aload_n 0, 1) := by decide +kernel
theorem dX12_four_24 : decode cX12_four 24 = .ok (.dup, 1) := by decide +kernel
theorem dX12_four_25 : decode cX12_four 25 = .ok (.getfield 193, 3) := by decide +kernel
theorem dX12_four_28 : decode cX12_four 28 = .ok (.iconst 1, 1) := by decide +kernel
theorem dX12_four_29 : decode cX12_four 29 = .ok (.iadd, 1) := by decide +kernel
theorem dX12_four_30 : decode cX12_four 30 = .ok (.putfield 193, 3) := by decide +kernel
theorem dX12_four_33 : decode cX12_four 33 = .ok (.iinc 2 (-8), 3) := by decide +kernel
theorem dX12_four_36 : decode cX12_four 36 = .ok (.goto (-33), 3) := by decide +kernel
theorem dX12_four_39 : decode cX12_four 39 = .ok (.return_, 1) := by decide +kernel
theorem dX12_goes_0 : decode cX12_goes 0 = .ok (.aload_n 0, 1) := by decide +kernel
theorem dX12_goes_1 : decode cX12_goes 1 = .ok (.iconst 0, 1) := by decide +kernel
theorem dX12_goes_2 : decode cX12_goes 2 = .ok (.putfield 92, 3) := by decide +kernel
theorem dX12_goes_5 : decode cX12_goes 5 = .ok (.iload_n 3, 1) := by decide +kernel
theorem dX12_goes_6 : decode cX12_goes 6 = .ok (.invokestatic 127, 3) := by decide +kernel
theorem dX12_goes_9 : decode cX12_goes 9 = .ok (.ifCond .eq 18, 3) := by decide +kernel
theorem dX12_goes_12 : decode cX12_goes 12 = .ok (.iload 4, 2) := by decide +kernel
theorem dX12_goes_14 : decode cX12_goes 14 = .ok (.iconst (-1), 1) := by decide +kernel
theorem dX12_goes_15 : decode cX12_goes 15 = .ok (.if_icmp .eq 18, 3) := by decide +kernel
theorem dX12_goes_18 : decode cX12_goes 18 = .ok (.aload_n 0, 1) := by decide +kernel
theorem dX12_goes_19 : decode cX12_goes 19 = .ok (.iload 4, 2) := by decide +kernel
theorem dX12_goes_21 : decode cX12_goes 21 = .ok (.invokevirtual 131, 3) := by decide +kernel
theorem dX12_goes_24 : decode cX12_goes 24 = .ok (.ifCond .ne 9, 3) := by decide +kernel
theorem dX12_goes_27 : decode cX12_goes 27 = .ok (.aload_n 0, 1) := by decide +kernel
theorem dX12_goes_28 : decode cX12_goes 28 = .ok (.iconst (-1), 1) := by decide +kernel
theorem dX12_goes_29 : decode cX12_goes 29 = .ok (.invokevirtual 106, 3) := by decide +kernel
theorem dX12_goes_32 : decode cX12_goes 32 = .ok (.ireturn, 1) := by decide +kernel
theorem dX12_goes_33 : decode cX12_goes 33 = .ok (.aload_n 0, 1) := by decide +kernel
theorem dX12_goes_34 : decode cX12_goes 34 = .ok (.iload_n 1, 1) := by decide +kernel
theorem dX12_goes_35 : decode cX12_goes 35 = .ok (.invokevirtual 138, 3) := by decide +kernel
theorem dX12_goes_38 : decode cX12_goes 38 = .ok (.ifCond .eq 11, 3) := by decide +kernel
theorem dX12_goes_41 : decode cX12_goes 41 = .ok (.aload_n 0, 1) := by decide +kernel
theorem dX12_goes_42 : decode cX12_goes 42 = .ok (.iload_n 2, 1) := by decide +kernel
theorem dX12_goes_43 : decode cX12_goes 43 = .ok (.invokevirtual 131, 3) := by decide +kernel
theorem dX12_goes_46 : decode cX12_goes 46 = .ok (.ifCond .ne 10, 3) := by decide +kernel
theorem dX12_goes_49 : decode cX12_goes 49 = .ok (.aload_n 0, 1) := by decide +kernel
theorem dX12_goes_50 : decode cX12_goes 50 = .ok (.bipush (-2), 2) := by decide +kernel
theorem dX12_goes_52 : decode cX12_goes 52 = .ok (.invokevirtual 106, 3) := by decide +kernel
theorem dX12_goes_55 : decode cX12_goes 55 = .ok (.ireturn, 1) := by decide +kernel
theorem dX12_goes_56 : decode cX12_goes 56 = .ok (.iconst (-1), 1) := by decide +kernel
theorem dX12_goes_57 : decode cX12_goes 57 = .ok (.istore 5, 2) := by decide +kernel
theorem dX12_goes_59 : decode cX12_goes 59 = .ok (.iconst 0, 1) := by decide +kernel
theorem dX12_goes_60 : decode cX12_goes 60 = .ok (.istore 6, 2) := by decide +kernel
theorem dX12_goes_62 : decode cX12_goes 62 = .ok (.iload 6, 2) := by decide +kernel
theorem dX12_goes_64 : decode cX12_goes 64 = .ok (.aload_n 0, 1) := by decide +kernel
theorem dX12_goes_65 : decode cX12_goes 65 = .ok (.getfield 7, 3) := by decide +kernel
theorem dX12_goes_68 : decode cX12_goes 68 = .ok (.iconst 2, 1) := by decide +kernel
theorem dX12_goes_69 : decode cX12_goes 69 = .ok (.iaload, 1) := by decide +kernel
theorem dX12_goes_70 : decode cX12_goes 70 = .ok (.if_icmp .ge 60, 3) := by decide +kernel
theorem dX12_goes_73 : decode cX12_goes 73 = .ok (.aload_n 0, 1) := by decide +kernel
theorem dX12_goes_74 : decode cX12_goes 74 = .ok (.getfield 7, 3) := by decide +kernel
theorem dX12_goes_77 : decode cX12_goes 77 = .ok (.sipush 2700, 3) := by decide +kernel
theorem dX12_goes_80 : decode cX12_goes 80 = .ok (.iconst 5, 1) := by decide +kernel
theorem dX12_goes_81 : decode cX12_goes 81 = .ok (.iload 6, 2) := by decide +kernel
theorem dX12_goes_83 : decode cX12_goes 83 = .ok (.imul, 1) := by decide +kernel
theorem dX12_goes_84 : decode cX12_goes 84 = .ok (.iadd, 1) := by decide +kernel
theorem dX12_goes_85 : decode cX12_goes 85 = .ok (.iaload, 1) := by decide +kernel
theorem dX12_goes_86 : decode cX12_goes 86 = .ok (.iload_n 1, 1) := by decide +kernel
theorem dX12_goes_87 : decode cX12_goes 87 = .ok (.if_icmp .ne 33, 3) := by decide +kernel
theorem dX12_goes_90 : decode cX12_goes 90 = .ok (.aload_n 0, 1) := by decide +kernel
theorem dX12_goes_91 : decode cX12_goes 91 = .ok (.getfield 7, 3) := by decide +kernel
theorem dX12_goes_94 : decode cX12_goes 94 = .ok (.sipush 2700, 3) := by decide +kernel
theorem dX12_goes_97 : decode cX12_goes 97 = .ok (.iconst 5, 1) := by decide +kernel
theorem dX12_goes_98 : decode cX12_goes 98 = .ok (.iload 6, 2) := by decide +kernel
theorem dX12_goes_100 : decode cX12_goes 100 = .ok (.imul, 1) := by decide +kernel
theorem dX12_goes_101 : decode cX12_goes 101 = .ok (.iadd, 1) := by decide +kernel
theorem dX12_goes_102 : decode cX12_goes 102 = .ok (.iconst 1, 1) := by decide +kernel
theorem dX12_goes_103 : decode cX12_goes 103 = .ok (.iadd, 1) := by decide +kernel
theorem dX12_goes_104 : decode cX12_goes 104 = .ok (.iaload, 1) := by decide +kernel
theorem dX12_goes_105 : decode cX12_goes 105 = .ok (.iload_n 2, 1) := by decide +kernel
theorem dX12_goes_106 : decode cX12_goes 106 = .ok (.if_icmp .ne 14, 3) := by decide +kernel
theorem dX12_goes_109 : decode cX12_goes 109 = .ok (.sipush 2700, 3) := by decide +kernel
theorem dX12_goes_112 : decode cX12_goes 112 = .ok (.iconst 5, 1) := by decide +kernel
theorem dX12_goes_113 : decode cX12_goes 113 = .ok (.iload 6, 2) := by decide +kernel
theorem dX12_goes_115 : decode cX12_goes 115 = .ok (.imul, 1) := by decide +kernel
theorem dX12_goes_116 : decode cX12_goes 116 = .ok (.iadd, 1) := by decide +kernel
theorem dX12_goes_117 : decode cX12_goes 117 = .ok (.goto 5, 3) := by decide +kernel
theorem dX12_goes_120 : decode cX12_goes 120 = .ok (.iload 5, 2) := by decide +kernel
theorem dX12_goes_122 : decode cX12_goes 122 = .ok (.istore 5, 2) := by decide +kernel
theorem dX12_goes_124 : decode cX12_goes 124 = .ok (.iinc 6 1, 3) := by decide +kernel
theorem dX12_goes_127 : decode cX12_goes 127 = .ok (.goto (-65), 3) := by decide +kernel
theorem dX12_goes_130 : decode cX12_goes 130 = .ok (.iload 5, 2) := by decide +kernel
theorem dX12_goes_132 : decode cX12_goes 132 = .ok (.iconst (-1), 1) := by decide +kernel
theorem dX12_goes_133 : decode cX12_goes 133 = .ok (.if_icmp .eq 29, 3) := by decide +kernel
theorem dX12_goes_136 : decode cX12_goes 136 = .ok (.aload_n 0, 1) := by decide +kernel
theorem dX12_goes_137 : decode cX12_goes 137 = .ok (.getfield 7, 3) := by decide +kernel
theorem dX12_goes_140 : decode cX12_goes 140 = .ok (.iload 5, 2) := by decide +kernel
theorem dX12_goes_142 : decode cX12_goes 142 = .ok (.iconst 3, 1) := by decide +kernel
theorem dX12_goes_143 : decode cX12_goes 143 = .ok (.iadd, 1) := by decide +kernel
theorem dX12_goes_144 : decode cX12_goes 144 = .ok (.iaload, 1) := by decide +kernel
theorem dX12_goes_145 : decode cX12_goes 145 = .ok (.iconst (-1), 1) := by decide +kernel
theorem dX12_goes_146 : decode cX12_goes 146 = .ok (.if_icmp .ne 16, 3) := by decide +kernel
theorem dX12_goes_149 : decode cX12_goes 149 = .ok (.iload_n 3, 1) := by decide +kernel
theorem dX12_goes_150 : decode cX12_goes 150 = .ok (.aload_n 0, 1) := by decide +kernel
theorem dX12_goes_151 : decode cX12_goes 151 = .ok (.getfield 7, 3) := by decide +kernel
theorem dX12_goes_154 : decode cX12_goes 154 = .ok (.iload 5, 2) := by decide +kernel
theorem dX12_goes_156 : decode cX12_goes 156 = .ok (.iconst 2, 1) := by decide +kernel
theorem dX12_goes_157 : decode cX12_goes 157 = .ok (.iadd, 1) := by decide +kernel
theorem dX12_goes_158 : decode cX12_goes 158 = .ok (.iaload, 1) := by decide +kernel
theorem dX12_goes_159 : decode cX12_goes 159 = .ok (.if_icmp .ge 10, 3) := by decide +kernel
theorem dX12_goes_162 : decode cX12_goes 162 = .ok (.aload_n 0, 1) := by decide +kernel
theorem dX12_goes_163 : decode cX12_goes 163 = .ok (.bipush (-3), 2) := by decide +kernel
theorem dX12_goes_165 : decode cX12_goes 165 = .ok (.invokevirtual 106, 3) := by decide +kernel
theorem dX12_goes_168 : decode cX12_goes 168 = .ok (.ireturn, 1) := by decide +kernel
theorem dX12_goes_169 : decode cX12_goes 169 = .ok (.aload_n 0, 1) := by decide +kernel
theorem dX12_goes_170 : decode cX12_goes 170 = .ok (.getfield 7, 3) := by decide +kernel
theorem dX12_goes_173 : decode cX12_goes 173 = .ok (.iload 5, 2) := by decide +kernel
theorem dX12_goes_175 : decode cX12_goes 175 = .ok (.iconst 3, 1) := by decide +kernel
theorem dX12_goes_176 : decode cX12_goes 176 = .ok (.iadd, 1) := by decide +kernel
theorem dX12_goes_177 : decode cX12_goes 177 = .ok (.iload_n 3, 1) := by decide +kernel
theorem dX12_goes_178 : decode cX12_goes 178 = .ok (.iastore, 1) := by decide +kernel
theorem dX12_goes_179 : decode cX12_goes 179 = .ok (.aload_n 0, 1) := by decide +kernel
theorem dX12_goes_180 : decode cX12_goes 180 = .ok (.getfield 7, 3) := by decide +kernel
theorem dX12_goes_183 : decode cX12_goes 183 = .ok (.iload 5, 2) := by decide +kernel
theorem dX12_goes_185 : decode cX12_goes 185 = .ok (.iconst 4, 1) := by decide +kernel
theorem dX12_goes_186 : decode cX12_goes 186 = .ok (.iadd, 1) := by decide +kernel
theorem dX12_goes_187 : decode cX12_goes 187 = .ok (.iload 4, 2) := by decide +kernel
theorem dX12_goes_189 : decode cX12_goes 189 = .ok (.iastore, 1) := by decide +kernel
theorem dX12_goes_190 : decode cX12_goes 190 = .ok (.aload_n 0, 1) := by decide +kernel
theorem dX12_goes_191 : decode cX12_goes 191 = .ok (.iconst 0, 1) := by decide +kernel
theorem dX12_goes_192 : decode cX12_goes 192 = .ok (.invokevirtual 106, 3) := by decide +kernel
theorem dX12_goes_195 : decode cX12_goes 195 = .ok (.ireturn, 1) := by decide +kernel
theorem dX12_has_0 : decode cX12_has 0 = .ok (.aload_n 0, 1) := by decide +kernel
theorem dX12_has_1 : decode cX12_has 1 = .ok (.iconst 0, 1) := by decide +kernel
theorem dX12_has_2 : decode cX12_has 2 = .ok (.putfield 92, 3) := by decide +kernel
theorem dX12_has_5 : decode cX12_has 5 = .ok (.iload_n 2, 1) := by decide +kernel
theorem dX12_has_6 : decode cX12_has 6 = .ok (.i2l, 1) := by decide +kernel
theorem dX12_has_7 : decode cX12_has 7 = .ok (.lconst 0, 1) := by decide +kernel
theorem dX12_has_8 : decode cX12_has 8 = .ok (.lconst 1, 1) := by decide +kernel
theorem dX12_has_9 : decode cX12_has 9 = .ok (.invokestatic 100, 3) := by decide +kernel
theorem dX12_has_12 : decode cX12_has 12 = .ok (.ifCond .eq 23, 3) := by decide +kernel
theorem dX12_has_15 : decode cX12_has 15 = .ok (.iload 4, 2) := by decide +kernel
theorem dX12_has_17 : decode cX12_has 17 = .ok (.invokestatic 127, 3) := by decide +kernel
theorem dX12_has_20 : decode cX12_has 20 = .ok (.ifCond .eq 15, 3) := by decide +kernel
theorem dX12_has_23 : decode cX12_has 23 = .ok (.iload_n 3, 1) := by decide +kernel
theorem dX12_has_24 : decode cX12_has 24 = .ok (.i2l, 1) := by decide +kernel
theorem dX12_has_25 : decode cX12_has 25 = .ok (.lconst 0, 1) := by decide +kernel
theorem dX12_has_26 : decode cX12_has 26 = .ok (.iload 4, 2) := by decide +kernel
theorem dX12_has_28 : decode cX12_has 28 = .ok (.i2l, 1) := by decide +kernel
theorem dX12_has_29 : decode cX12_has 29 = .ok (.invokestatic 100, 3) := by decide +kernel
theorem dX12_has_32 : decode cX12_has 32 = .ok (.ifCond .ne 9, 3) := by decide +kernel
theorem dX12_has_35 : decode cX12_has 35 = .ok (.aload_n 0, 1) := by decide +kernel
theorem dX12_has_36 : decode cX12_has 36 = .ok (.iconst (-1), 1) := by decide +kernel
theorem dX12_has_37 : decode cX12_has 37 = .ok (.invokevirtual 106, 3) := by decide +kernel
theorem dX12_has_40 : decode cX12_has 40 = .ok (.ireturn, 1) := by decide +kernel
theorem dX12_has_41 : decode cX12_has 41 = .ok (.aload_n 0, 1) := by decide +kernel
theorem dX12_has_42 : decode cX12_has 42 = .ok (.iload_n 1, 1) := by decide +kernel
theorem dX12_has_43 : decode cX12_has 43 = .ok (.invokevirtual 138, 3) := by decide +kernel
theorem dX12_has_46 : decode cX12_has 46 = .ok (.ifCond .ne 10, 3) := by decide +kernel
theorem dX12_has_49 : decode cX12_has 49 = .ok (.aload_n 0, 1) := by decide +kernel
theorem dX12_has_50 : decode cX12_has 50 = .ok (.bipush (-2), 2) := by decide +kernel
theorem dX12_has_52 : decode cX12_has 52 = .ok (.invokevirtual 106, 3) := by decide +kernel
theorem dX12_has_55 : decode cX12_has 55 = .ok (.ireturn, 1) := by decide +kernel
theorem dX12_has_56 : decode cX12_has 56 = .ok (.aload_n 0, 1) := by decide +kernel
theorem dX12_has_57 : decode cX12_has 57 = .ok (.getfield 7, 3) := by decide +kernel
theorem dX12_has_60 : decode cX12_has 60 = .ok (.bipush 10, 2) := by decide +kernel
theorem dX12_has_62 : decode cX12_has 62 = .ok (.iload_n 2, 1) := by decide +kernel
theorem dX12_has_63 : decode cX12_has 63 = .ok (.iadd, 1) := by decide +kernel
theorem dX12_has_64 : decode cX12_has 64 = .ok (.iaload, 1) := by decide +kernel
theorem dX12_has_65 : decode cX12_has 65 = .ok (.bipush 60, 2) := by decide +kernel
theorem dX12_has_67 : decode cX12_has 67 = .ok (.if_icmp .ne 10, 3) := by decide +kernel
theorem dX12_has_70 : decode cX12_has 70 = .ok (.aload_n 0, 1) := by decide +kernel
theorem dX12_has_71 : decode cX12_has 71 = .ok (.bipush (-5), 2) := by decide +kernel
theorem dX12_has_73 : decode cX12_has 73 = .ok (.invokevirtual 106, 3) := by decide +kernel
theorem dX12_has_76 : decode cX12_has 76 = .ok (.ireturn, 1) := by decide +kernel
theorem dX12_has_77 : decode cX12_has 77 = .ok (.iload_n 2, 1) := by decide +kernel
theorem dX12_has_78 : decode cX12_has 78 = .ok (.ifCond .ne 9, 3) := by decide +kernel
theorem dX12_has_81 : decode cX12_has 81 = .ok (.sipush 3420, 3) := by decide +kernel
theorem dX12_has_84 : decode cX12_has 84 = .ok (.goto 6, 3) := by decide +kernel
theorem dX12_has_87 : decode cX12_has 87 = .ok (.sipush 3600, 3) := by decide +kernel
theorem dX12_has_90 : decode cX12_has 90 = .ok (.iconst 3, 1) := by decide +kernel
theorem dX12_has_91 : decode cX12_has 91 = .ok (.aload_n 0, 1) := by decide +kernel
theorem dX12_has_92 : decode cX12_has 92 = .ok (.getfield 7, 3) := by decide +kernel
theorem dX12_has_95 : decode cX12_has 95 = .ok (.bipush 10, 2) := by decide +kernel
theorem dX12_has_97 : decode cX12_has 97 = .ok (.iload_n 2, 1) := by decide +kernel
theorem dX12_has_98 : decode cX12_has 98 = .ok (.iadd, 1) := by decide +kernel
theorem dX12_has_99 : decode cX12_has 99 = .ok (.iaload, 1) := by decide +kernel
theorem dX12_has_100 : decode cX12_has 100 = .ok (.imul, 1) := by decide +kernel
theorem dX12_has_101 : decode cX12_has 101 = .ok (.iadd, 1) := by decide +kernel
theorem dX12_has_102 : decode cX12_has 102 = .ok (.istore 5, 2) := by decide +kernel
theorem dX12_has_104 : decode cX12_has 104 = .ok (.aload_n 0, 1) := by decide +kernel
theorem dX12_has_105 : decode cX12_has 105 = .ok (.getfield 7, 3) := by decide +kernel
theorem dX12_has_108 : decode cX12_has 108 = .ok (.iload 5, 2) := by decide +kernel
theorem dX12_has_110 : decode cX12_has 110 = .ok (.iload_n 1, 1) := by decide +kernel
theorem dX12_has_111 : decode cX12_has 111 = .ok (.iastore, 1) := by decide +kernel
theorem dX12_has_112 : decode cX12_has 112 = .ok (.aload_n 0, 1) := by decide +kernel
theorem dX12_has_113 : decode cX12_has 113 = .ok (.getfield 7, 3) := by decide +kernel
theorem dX12_has_116 : decode cX12_has 116 = .ok (.iload 5, 2) := by decide +kernel
theorem dX12_has_118 : decode cX12_has 118 = .ok (.iconst 1, 1) := by decide +kernel
theorem dX12_has_119 : decode cX12_has 119 = .ok (.iadd, 1) := by decide +kernel
theorem dX12_has_120 : decode cX12_has 120 = .ok (.iload_n 3, 1) := by decide +kernel
theorem dX12_has_121 : decode cX12_has 121 = .ok (.iastore, 1) := by decide +kernel
theorem dX12_has_122 : decode cX12_has 122 = .ok (.aload_n 0, 1) := by decide +kernel
theorem dX12_has_123 : decode cX12_has 123 = .ok (.getfield 7, 3) := by decide +kernel
theorem dX12_has_126 : decode cX12_has 126 = .ok (.iload 5, 2) := by decide +kernel
theorem dX12_has_128 : decode cX12_has 128 = .ok (.iconst 2, 1) := by decide +kernel
theorem dX12_has_129 : decode cX12_has 129 = .ok (.iadd, 1) := by decide +kernel
theorem dX12_has_130 : decode cX12_has 130 = .ok (.iload 4, 2) := by decide +kernel
theorem dX12_has_132 : decode cX12_has 132 = .ok (.iastore, 1) := by decide +kernel
theorem dX12_has_133 : decode cX12_has 133 = .ok (.aload_n 0, 1) := by decide +kernel
theorem dX12_has_134 : decode cX12_has 134 = .ok (.getfield 7, 3) := by decide +kernel
theorem dX12_has_137 : decode cX12_has 137 = .ok (.bipush 10, 2) := by decide +kernel
theorem dX12_has_139 : decode cX12_has 139 = .ok (.iload_n 2, 1) := by decide +kernel
theorem dX12_has_140 : decode cX12_has 140 = .ok (.iadd, 1) := by decide +kernel
theorem dX12_has_141 : decode cX12_has 141 = .ok (.dup2, 1) := by decide +kernel
theorem dX12_has_142 : decode cX12_has 142 = .ok (.iaload, 1) := by decide +kernel
theorem dX12_has_143 : decode cX12_has 143 = .ok (.iconst 1, 1) := by decide +kernel
theorem dX12_has_144 : decode cX12_has 144 = .ok (.iadd, 1) := by decide +kernel
theorem dX12_has_145 : decode cX12_has 145 = .ok (.iastore, 1) := by decide +kernel
theorem dX12_has_146 : decode cX12_has 146 = .ok (.aload_n 0, 1) := by decide +kernel
theorem dX12_has_147 : decode cX12_has 147 = .ok (.aload_n 0, 1) := by decide +kernel
theorem dX12_has_148 : decode cX12_has 148 = .ok (.getfield 7, 3) := by decide +kernel
theorem dX12_has_151 : decode cX12_has 151 = .ok (.bipush 10, 2) := by decide +kernel
theorem dX12_has_153 : decode cX12_has 153 = .ok (.iload_n 2, 1) := by decide +kernel
theorem dX12_has_154 : decode cX12_has 154 = .ok (.iadd, 1) := by decide +kernel
theorem dX12_has_155 : decode cX12_has 155 = .ok (.iaload, 1) := by decide +kernel
theorem dX12_has_156 : decode cX12_has 156 = .ok (.invokevirtual 106, 3) := by decide +kernel
theorem dX12_has_159 : decode cX12_has 159 = .ok (.ireturn, 1) := by decide +kernel
theorem dX12_hasFailed_0 : decode cX12_hasFailed 0 = .ok (.iconst 0, 1) := by decide +kernel
theorem dX12_hasFailed_1 : decode cX12_hasFailed 1 = .ok (.istore_n 3, 1) := by decide +kernel
theorem dX12_hasFailed_2 : decode cX12_hasFailed 2 = .ok (.iconst 0, 1) := by decide +kernel
theorem dX12_hasFailed_3 : decode cX12_hasFailed 3 = .ok (.istore 4, 2) := by decide +kernel
theorem dX12_hasFailed_5 : decode cX12_hasFailed 5 = .ok (.iload 4, 2) := by decide +kernel
theorem dX12_hasFailed_7 : decode cX12_hasFailed 7 = .ok (.aload_n 0, 1) := by decide +kernel
theorem dX12_hasFailed_8 : decode cX12_hasFailed 8 = .ok (.getfield 7, 3) := by decide +kernel
theorem dX12_hasFailed_11 : decode cX12_hasFailed 11 = .ok (.bipush 9, 2) := by decide +kernel
theorem dX12_hasFailed_13 : decode cX12_hasFailed 13 = .ok (.iaload, 1) := by decide +kernel
theorem dX12_hasFailed_14 : decode cX12_hasFailed 14 = .ok (.if_icmp .ge 55, 3) := by decide +kernel
theorem dX12_hasFailed_17 : decode cX12_hasFailed 17 = .ok (.iload_n 3, 1) := by decide +kernel
theorem dX12_hasFailed_18 : decode cX12_hasFailed 18 = .ok (.ifCond .ne 39, 3) := by decide +kernel
theorem dX12_hasFailed_21 : decode cX12_hasFailed 21 = .ok (.aload_n 0, 1) := by decide +kernel
theorem dX12_hasFailed_22 : decode cX12_hasFailed 22 = .ok (.getfield 7, 3) := by decide +kernel
theorem dX12_hasFailed_25 : decode cX12_hasFailed 25 = .ok (.sipush 3300, 3) := by decide +kernel
theorem dX12_hasFailed_28 : decode cX12_hasFailed 28 = .ok (.iconst 2, 1) := by decide +kernel
theorem dX12_hasFailed_29 : decode cX12_hasFailed 29 = .ok (.iload 4, 2) := by decide +kernel
theorem dX12_hasFailed_31 : decode cX12_hasFailed 31 = .ok (.imul, 1) := by decide +kernel
theorem dX12_hasFailed_32 : decode cX12_hasFailed 32 = .ok (.iadd, 1) := by decide +kernel
theorem dX12_hasFailed_33 : decode cX12_hasFailed 33 = .ok (.iaload, 1) := by decide +kernel
theorem dX12_hasFailed_34 : decode cX12_hasFailed 34 = .ok (.iload_n 1, 1) := by decide +kernel
theorem dX12_hasFailed_35 : decode cX12_hasFailed 35 = .ok (.if_icmp .ne 26, 3) := by decide +kernel
theorem dX12_hasFailed_38 : decode cX12_hasFailed 38 = .ok (.aload_n 0, 1) := by decide +kernel
theorem dX12_hasFailed_39 : decode cX12_hasFailed 39 = .ok (.getfield 7, 3) := by decide +kernel
theorem dX12_hasFailed_42 : decode cX12_hasFailed 42 = .ok (.sipush 3300, 3) := by decide +kernel
theorem dX12_hasFailed_45 : decode cX12_hasFailed 45 = .ok (.iconst 2, 1) := by decide +kernel
theorem dX12_hasFailed_46 : decode cX12_hasFailed 46 = .ok (.iload 4, 2) := by decide +kernel
theorem dX12_hasFailed_48 : decode cX12_hasFailed 48 = .ok (.imul, 1) := by decide +kernel
theorem dX12_hasFailed_49 : decode cX12_hasFailed 49 = .ok (.iadd, 1) := by decide +kernel
theorem dX12_hasFailed_50 : decode cX12_hasFailed 50 = .ok (.iconst 1, 1) := by decide +kernel
theorem dX12_hasFailed_51 : decode cX12_hasFailed 51 = .ok (.iadd, 1) := by decide +kernel
theorem dX12_hasFailed_52 : decode cX12_hasFailed 52 = .ok (.iaload, 1) := by decide +kernel
theorem dX12_hasFailed_53 : decode cX12_hasFailed 53 = .ok (.iload_n 2, 1) := by decide +kernel
theorem dX12_hasFailed_54 : decode cX12_hasFailed 54 = .ok (.if_icmp .ne 7, 3) := by decide +kernel
theorem dX12_hasFailed_57 : decode cX12_hasFailed 57 = .ok (.iconst 1, 1) := by decide +kernel
theorem dX12_hasFailed_58 : decode cX12_hasFailed 58 = .ok (.goto 4, 3) := by decide +kernel
theorem dX12_hasFailed_61 : decode cX12_hasFailed 61 = .ok (.iconst 0, 1) := by decide +kernel
theorem dX12_hasFailed_62 : decode cX12_hasFailed 62 = .ok (.istore_n 3, 1) := by decide +kernel
theorem dX12_hasFailed_63 : decode cX12_hasFailed 63 = .ok (.iinc 4 1, 3) := by decide +kernel
theorem dX12_hasFailed_66 : decode cX12_hasFailed 66 = .ok (.goto (-61), 3) := by decide +kernel
theorem dX12_hasFailed_69 : decode cX12_hasFailed 69 = .ok (.iload_n 3, 1) := by decide +kernel
theorem dX12_hasFailed_70 : decode cX12_hasFailed 70 = .ok (.ireturn, 1) := by decide +kernel
theorem dX12_hasOn_0 : decode cX12_hasOn 0 = .ok (.iconst 0, 1) := by decide +kernel
theorem dX12_hasOn_1 : decode cX12_hasOn 1 = .ok (.istore 4, 2) := by decide +kernel
theorem dX12_hasOn_3 : decode cX12_hasOn 3 = .ok (.iconst 0, 1) := by decide +kernel
theorem dX12_hasOn_4 : decode cX12_hasOn 4 = .ok (.istore 5, 2) := by decide +kernel
theorem dX12_hasOn_6 : decode cX12_hasOn 6 = .ok (.iload 5, 2) := by decide +kernel
theorem dX12_hasOn_8 : decode cX12_hasOn 8 = .ok (.aload_n 0, 1) := by decide +kernel
theorem dX12_hasOn_9 : decode cX12_hasOn 9 = .ok (.getfield 7, 3) := by decide +kernel
theorem dX12_hasOn_12 : decode cX12_hasOn 12 = .ok (.bipush 10, 2) := by decide +kernel
theorem dX12_hasOn_14 : decode cX12_hasOn 14 = .ok (.iload_n 2, 1) := by decide +kernel
theorem dX12_hasOn_15 : decode cX12_hasOn 15 = .ok (.iadd, 1) := by decide +kernel
theorem dX12_hasOn_16 : decode cX12_hasOn 16 = .ok (.iaload, 1) := by decide +kernel
theorem dX12_hasOn_17 : decode cX12_hasOn 17 = .ok (.if_icmp .ge 80, 3) := by decide +kernel
theorem dX12_hasOn_20 : decode cX12_hasOn 20 = .ok (.iload_n 2, 1) := by decide +kernel
theorem dX12_hasOn_21 : decode cX12_hasOn 21 = .ok (.ifCond .ne 9, 3) := by decide +kernel
theorem dX12_hasOn_24 : decode cX12_hasOn 24 = .ok (.sipush 3420, 3) := by decide +kernel
theorem dX12_hasOn_27 : decode cX12_hasOn 27 = .ok (.goto 6, 3) := by decide +kernel
theorem dX12_hasOn_30 : decode cX12_hasOn 30 = .ok (.sipush 3600, 3) := by decide +kernel
theorem dX12_hasOn_33 : decode cX12_hasOn 33 = .ok (.iconst 3, 1) := by decide +kernel
theorem dX12_hasOn_34 : decode cX12_hasOn 34 = .ok (.iload 5, 2) := by decide +kernel
theorem dX12_hasOn_36 : decode cX12_hasOn 36 = .ok (.imul, 1) := by decide +kernel
theorem dX12_hasOn_37 : decode cX12_hasOn 37 = .ok (.iadd, 1) := by decide +kernel
theorem dX12_hasOn_38 : decode cX12_hasOn 38 = .ok (.istore 6, 2) := by decide +kernel
theorem dX12_hasOn_40 : decode cX12_hasOn 40 = .ok (.iload 4, 2) := by decide +kernel
theorem dX12_hasOn_42 : decode cX12_hasOn 42 = .ok (.ifCond .ne 42, 3) := by decide +kernel
theorem dX12_hasOn_45 : decode cX12_hasOn 45 = .ok (.aload_n 0, 1) := by decide +kernel
theorem dX12_hasOn_46 : decode cX12_hasOn 46 = .ok (.getfield 7, 3) := by decide +kernel
theorem dX12_hasOn_49 : decode cX12_hasOn 49 = .ok (.iload 6, 2) := by decide +kernel
theorem dX12_hasOn_51 : decode cX12_hasOn 51 = .ok (.iaload, 1) := by decide +kernel
theorem dX12_hasOn_52 : decode cX12_hasOn 52 = .ok (.iload_n 1, 1) := by decide +kernel
theorem dX12_hasOn_53 : decode cX12_hasOn 53 = .ok (.if_icmp .ne 35, 3) := by decide +kernel
theorem dX12_hasOn_56 : decode cX12_hasOn 56 = .ok (.iload_n 3, 1) := by decide +kernel
theorem dX12_hasOn_57 : decode cX12_hasOn 57 = .ok (.i2l, 1) := by decide +kernel
theorem dX12_hasOn_58 : decode cX12_hasOn 58 = .ok (.aload_n 0, 1) := by decide +kernel
theorem dX12_hasOn_59 : decode cX12_hasOn 59 = .ok (.getfield 7, 3) := by decide +kernel
theorem dX12_hasOn_62 : decode cX12_hasOn 62 = .ok (.iload 6, 2) := by decide +kernel
theorem dX12_hasOn_64 : decode cX12_hasOn 64 = .ok (.iconst 1, 1) := by decide +kernel
theorem dX12_hasOn_65 : decode cX12_hasOn 65 = .ok (.iadd, 1) := by decide +kernel
theorem dX12_hasOn_66 : decode cX12_hasOn 66 = .ok (.iaload, 1) := by decide +kernel
theorem dX12_hasOn_67 : decode cX12_hasOn 67 = .ok (.i2l, 1) := by decide +kernel
theorem dX12_hasOn_68 : decode cX12_hasOn 68 = .ok (.aload_n 0, 1) := by decide +kernel
theorem dX12_hasOn_69 : decode cX12_hasOn 69 = .ok (.getfield 7, 3) := by decide +kernel
theorem dX12_hasOn_72 : decode cX12_hasOn 72 = .ok (.iload 6, 2) := by decide +kernel
theorem dX12_hasOn_74 : decode cX12_hasOn 74 = .ok (.iconst 2, 1) := by decide +kernel
theorem dX12_hasOn_75 : decode cX12_hasOn 75 = .ok (.iadd, 1) := by decide +kernel
theorem dX12_hasOn_76 : decode cX12_hasOn 76 = .ok (.iaload, 1) := by decide +kernel
theorem dX12_hasOn_77 : decode cX12_hasOn 77 = .ok (.i2l, 1) := by decide +kernel
theorem dX12_hasOn_78 : decode cX12_hasOn 78 = .ok (.invokestatic 100, 3) := by decide +kernel
theorem dX12_hasOn_81 : decode cX12_hasOn 81 = .ok (.ifCond .eq 7, 3) := by decide +kernel
theorem dX12_hasOn_84 : decode cX12_hasOn 84 = .ok (.iconst 1, 1) := by decide +kernel
theorem dX12_hasOn_85 : decode cX12_hasOn 85 = .ok (.goto 4, 3) := by decide +kernel
theorem dX12_hasOn_88 : decode cX12_hasOn 88 = .ok (.iconst 0, 1) := by decide +kernel
theorem dX12_hasOn_89 : decode cX12_hasOn 89 = .ok (.istore 4, 2) := by decide +kernel
theorem dX12_hasOn_91 : decode cX12_hasOn 91 = .ok (.iinc 5 1, 3) := by decide +kernel
theorem dX12_hasOn_94 : decode cX12_hasOn 94 = .ok (.goto (-88), 3) := by decide +kernel
theorem dX12_hasOn_97 : decode cX12_hasOn 97 = .ok (.iload 4, 2) := by decide +kernel
theorem dX12_hasOn_99 : decode cX12_hasOn 99 = .ok (.ireturn, 1) := by decide +kernel
theorem dX12_helped_0 : decode cX12_helped 0 = .ok (.aload_n 0, 1) := by decide +kernel
theorem dX12_helped_1 : decode cX12_helped 1 = .ok (.iconst 0, 1) := by decide +kernel
theorem dX12_helped_2 : decode cX12_helped 2 = .ok (.putfield 92, 3) := by decide +kernel
theorem dX12_helped_5 : decode cX12_helped 5 = .ok (.iload_n 1, 1) := by decide +kernel
theorem dX12_helped_6 : decode cX12_helped 6 = .ok (.i2l, 1) := by decide +kernel
theorem dX12_helped_7 : decode cX12_helped 7 = .ok (.lconst 0, 1) := by decide +kernel
theorem dX12_helped_8 : decode cX12_helped 8 = .ok (.lconst 1, 1) := by decide +kernel
theorem dX12_helped_9 : decode cX12_helped 9 = .ok (.invokestatic 100, 3) := by decide +kernel
theorem dX12_helped_12 : decode cX12_helped 12 = .ok (.ifCond .ne 5, 3) := by decide +kernel
theorem dX12_helped_15 : decode cX12_helped 15 = .ok (.iconst (-1), 1) := by decide +kernel
theorem dX12_helped_16 : decode cX12_helped 16 = .ok (.ireturn, 1) := by decide +kernel
theorem dX12_helped_17 : decode cX12_helped 17 = .ok (.aload_n 0, 1) := by decide +kernel
theorem dX12_helped_18 : decode cX12_helped 18 = .ok (.getfield 7, 3) := by decide +kernel
theorem dX12_helped_21 : decode cX12_helped 21 = .ok (.bipush 8, 2) := by decide +kernel
theorem dX12_helped_23 : decode cX12_helped 23 = .ok (.iaload, 1) := by decide +kernel
theorem dX12_helped_24 : decode cX12_helped 24 = .ok (.istore_n 2, 1) := by decide +kernel
theorem dX12_helped_25 : decode cX12_helped 25 = .ok (.iconst 0, 1) := by decide +kernel
theorem dX12_helped_26 : decode cX12_helped 26 = .ok (.istore_n 3, 1) := by decide +kernel
theorem dX12_helped_27 : decode cX12_helped 27 = .ok (.iconst 0, 1) := by decide +kernel
theorem dX12_helped_28 : decode cX12_helped 28 = .ok (.istore 4, 2) := by decide +kernel
theorem dX12_helped_30 : decode cX12_helped 30 = .ok (.iconst 0, 1) := by decide +kernel
theorem dX12_helped_31 : decode cX12_helped 31 = .ok (.istore 5, 2) := by decide +kernel
theorem dX12_helped_33 : decode cX12_helped 33 = .ok (.iload 5, 2) := by decide +kernel
theorem dX12_helped_35 : decode cX12_helped 35 = .ok (.iload_n 2, 1) := by decide +kernel
theorem dX12_helped_36 : decode cX12_helped 36 = .ok (.if_icmp .ge 63, 3) := by decide +kernel
theorem dX12_helped_39 : decode cX12_helped 39 = .ok (.iload_n 3, 1) := by decide +kernel
theorem dX12_helped_40 : decode cX12_helped 40 = .ok (.aload_n 0, 1) := by decide +kernel
theorem dX12_helped_41 : decode cX12_helped 41 = .ok (.getfield 7, 3) := by decide +kernel
theorem dX12_helped_44 : decode cX12_helped 44 = .ok (.sipush 7025, 3) := by decide +kernel
theorem dX12_helped_47 : decode cX12_helped 47 = .ok (.iconst 3, 1) := by decide +kernel
theorem dX12_helped_48 : decode cX12_helped 48 = .ok (.iload 5, 2) := by decide +kernel
theorem dX12_helped_50 : decode cX12_helped 50 = .ok (.imul, 1) := by decide +kernel
theorem dX12_helped_51 : decode cX12_helped 51 = .ok (.iadd, 1) := by decide +kernel
theorem dX12_helped_52 : decode cX12_helped 52 = .ok (.iconst 1, 1) := by decide +kernel
theorem dX12_helped_53 : decode cX12_helped 53 = .ok (.iadd, 1) := by decide +kernel
theorem dX12_helped_54 : decode cX12_helped 54 = .ok (.iaload, 1) := by decide +kernel
theorem dX12_helped_55 : decode cX12_helped 55 = .ok (.iadd, 1) := by decide +kernel
theorem dX12_helped_56 : decode cX12_helped 56 = .ok (.istore_n 3, 1) := by decide +kernel
theorem dX12_helped_57 : decode cX12_helped 57 = .ok (.iload 4, 2) := by decide +kernel
theorem dX12_helped_59 : decode cX12_helped 59 = .ok (.aload_n 0, 1) := by decide +kernel
theorem dX12_helped_60 : decode cX12_helped 60 = .ok (.getfield 7, 3) := by decide +kernel
theorem dX12_helped_63 : decode cX12_helped 63 = .ok (.sipush 7025, 3) := by decide +kernel
theorem dX12_helped_66 : decode cX12_helped 66 = .ok (.iconst 3, 1) := by decide +kernel
theorem dX12_helped_67 : decode cX12_helped 67 = .ok (.iload 5, 2) := by decide +kernel
theorem dX12_helped_69 : decode cX12_helped 69 = .ok (.imul, 1) := by decide +kernel
theorem dX12_helped_70 : decode cX12_helped 70 = .ok (.iadd, 1) := by decide +kernel
theorem dX12_helped_71 : decode cX12_helped 71 = .ok (.iconst 1, 1) := by decide +kernel
theorem dX12_helped_72 : decode cX12_helped 72 = .ok (.iadd, 1) := by decide +kernel
theorem dX12_helped_73 : decode cX12_helped 73 = .ok (.iaload, 1) := by decide +kernel
theorem dX12_helped_74 : decode cX12_helped 74 = .ok (.aload_n 0, 1) := by decide +kernel
theorem dX12_helped_75 : decode cX12_helped 75 = .ok (.getfield 7, 3) := by decide +kernel
theorem dX12_helped_78 : decode cX12_helped 78 = .ok (.sipush 7025, 3) := by decide +kernel
theorem dX12_helped_81 : decode cX12_helped 81 = .ok (.iconst 3, 1) := by decide +kernel
theorem dX12_helped_82 : decode cX12_helped 82 = .ok (.iload 5, 2) := by decide +kernel
theorem dX12_helped_84 : decode cX12_helped 84 = .ok (.imul, 1) := by decide +kernel
theorem dX12_helped_85 : decode cX12_helped 85 = .ok (.iadd, 1) := by decide +kernel
theorem dX12_helped_86 : decode cX12_helped 86 = .ok (.iconst 2, 1) := by decide +kernel
theorem dX12_helped_87 : decode cX12_helped 87 = .ok (.iadd, 1) := by decide +kernel
theorem dX12_helped_88 : decode cX12_helped 88 = .ok (.iaload, 1) := by decide +kernel
theorem dX12_helped_89 : decode cX12_helped 89 = .ok (.imul, 1) := by decide +kernel
theorem dX12_helped_90 : decode cX12_helped 90 = .ok (.iadd, 1) := by decide +kernel
theorem dX12_helped_91 : decode cX12_helped 91 = .ok (.istore 4, 2) := by decide +kernel
theorem dX12_helped_93 : decode cX12_helped 93 = .ok (.iinc 5 1, 3) := by decide +kernel
theorem dX12_helped_96 : decode cX12_helped 96 = .ok (.goto (-63), 3) := by decide +kernel
theorem dX12_helped_99 : decode cX12_helped 99 = .ok (.iconst 0, 1) := by decide +kernel
theorem dX12_helped_100 : decode cX12_helped 100 = .ok (.istore 5, 2) := by decide +kernel
theorem dX12_helped_102 : decode cX12_helped 102 = .ok (.iconst 0, 1) := by decide +kernel
theorem dX12_helped_103 : decode cX12_helped 103 = .ok (.istore 6, 2) := by decide +kernel
theorem dX12_helped_105 : decode cX12_helped 105 = .ok (.iconst 0, 1) := by decide +kernel
theorem dX12_helped_106 : decode cX12_helped 106 = .ok (.istore 7, 2) := by decide +kernel
theorem dX12_helped_108 : decode cX12_helped 108 = .ok (.iload 7, 2) := by decide +kernel
theorem dX12_helped_110 : decode cX12_helped 110 = .ok (.iconst 1, 1) := by decide +kernel
theorem dX12_helped_111 : decode cX12_helped 111 = .ok (.iload_n 2, 1) := by decide +kernel
theorem dX12_helped_112 : decode cX12_helped 112 = .ok (.ishl, 1) := by decide +kernel
theorem dX12_helped_113 : decode cX12_helped 113 = .ok (.if_icmp .ge 109, 3) := by decide +kernel
theorem dX12_helped_116 : decode cX12_helped 116 = .ok (.iconst 0, 1) := by decide +kernel
theorem dX12_helped_117 : decode cX12_helped 117 = .ok (.istore 8, 2) := by decide +kernel
theorem dX12_helped_119 : decode cX12_helped 119 = .ok (.iconst 0, 1) := by decide +kernel
theorem dX12_helped_120 : decode cX12_helped 120 = .ok (.istore 9, 2) := by decide +kernel
theorem dX12_helped_122 : decode cX12_helped 122 = .ok (.iconst 0, 1) := by decide +kernel
theorem dX12_helped_123 : decode cX12_helped 123 = .ok (.istore 10, 2) := by decide +kernel
theorem dX12_helped_125 : decode cX12_helped 125 = .ok (.iload 10, 2) := by decide +kernel
theorem dX12_helped_127 : decode cX12_helped 127 = .ok (.iload_n 2, 1) := by decide +kernel
theorem dX12_helped_128 : decode cX12_helped 128 = .ok (.if_icmp .ge 49, 3) := by decide +kernel
theorem dX12_helped_131 : decode cX12_helped 131 = .ok (.iload 8, 2) := by decide +kernel
theorem dX12_helped_133 : decode cX12_helped 133 = .ok (.iload 7, 2) := by decide +kernel
theorem dX12_helped_135 : decode cX12_helped 135 = .ok (.iload 10, 2) := by decide +kernel
theorem dX12_helped_137 : decode cX12_helped 137 = .ok (.ishr, 1) := by decide +kernel
theorem dX12_helped_138 : decode cX12_helped 138 = .ok (.iconst 1, 1) := by decide +kernel
theorem dX12_helped_139 : decode cX12_helped 139 = .ok (.iand, 1) := by decide +kernel
theorem dX12_helped_140 : decode cX12_helped 140 = .ok (.iadd, 1) := by decide +kernel
theorem dX12_helped_141 : decode cX12_helped 141 = .ok (.istore 8, 2) := by decide +kernel
theorem dX12_helped_143 : decode cX12_helped 143 = .ok (.iload 9, 2) := by decide +kernel
theorem dX12_helped_145 : decode cX12_helped 145 = .ok (.iload 7, 2) := by decide +kernel
theorem dX12_helped_147 : decode cX12_helped 147 = .ok (.iload 10, 2) := by decide +kernel
theorem dX12_helped_149 : decode cX12_helped 149 = .ok (.ishr, 1) := by decide +kernel
theorem dX12_helped_150 : decode cX12_helped 150 = .ok (.iconst 1, 1) := by decide +kernel
theorem dX12_helped_151 : decode cX12_helped 151 = .ok (.iand, 1) := by decide +kernel
theorem dX12_helped_152 : decode cX12_helped 152 = .ok (.aload_n 0, 1) := by decide +kernel
theorem dX12_helped_153 : decode cX12_helped 153 = .ok (.getfield 7, 3) := by decide +kernel
theorem dX12_helped_156 : decode cX12_helped 156 = .ok (.sipush 7025, 3) := by decide +kernel
theorem dX12_helped_159 : decode cX12_helped 159 = .ok (.iconst 3, 1) := by decide +kernel
theorem dX12_helped_160 : decode cX12_helped 160 = .ok (.iload 10, 2) := by decide +kernel
theorem dX12_helped_162 : decode cX12_helped 162 = .ok (.imul, 1) := by decide +kernel
theorem dX12_helped_163 : decode cX12_helped 163 = .ok (.iadd, 1) := by decide +kernel
theorem dX12_helped_164 : decode cX12_helped 164 = .ok (.iconst 2, 1) := by decide +kernel
theorem dX12_helped_165 : decode cX12_helped 165 = .ok (.iadd, 1) := by decide +kernel
theorem dX12_helped_166 : decode cX12_helped 166 = .ok (.iaload, 1) := by decide +kernel
theorem dX12_helped_167 : decode cX12_helped 167 = .ok (.imul, 1) := by decide +kernel
theorem dX12_helped_168 : decode cX12_helped 168 = .ok (.iadd, 1) := by decide +kernel
theorem dX12_helped_169 : decode cX12_helped 169 = .ok (.istore 9, 2) := by decide +kernel
theorem dX12_helped_171 : decode cX12_helped 171 = .ok (.iinc 10 1, 3) := by decide +kernel
theorem dX12_helped_174 : decode cX12_helped 174 = .ok (.goto (-49), 3) := by decide +kernel
theorem dX12_helped_177 : decode cX12_helped 177 = .ok (.iload 5, 2) := by decide +kernel
theorem dX12_helped_179 : decode cX12_helped 179 = .ok (.iload 8, 2) := by decide +kernel
theorem dX12_helped_181 : decode cX12_helped 181 = .ok (.iload_n 3, 1) := by decide +kernel
theorem dX12_helped_182 : decode cX12_helped 182 = .ok (.if_icmp .ne 7, 3) := by decide +kernel
theorem dX12_helped_185 : decode cX12_helped 185 = .ok (.iconst 1, 1) := by decide +kernel
theorem dX12_helped_186 : decode cX12_helped 186 = .ok (.goto 4, 3) := by decide +kernel
theorem dX12_helped_189 : decode cX12_helped 189 = .ok (.iconst 0, 1) := by decide +kernel
theorem dX12_helped_190 : decode cX12_helped 190 = .ok (.iadd, 1) := by decide +kernel
theorem dX12_helped_191 : decode cX12_helped 191 = .ok (.istore 5, 2) := by decide +kernel
theorem dX12_helped_193 : decode cX12_helped 193 = .ok (.iload 6, 2) := by decide +kernel
theorem dX12_helped_195 : decode cX12_helped 195 = .ok (.iload 8, 2) := by decide +kernel
theorem dX12_helped_197 : decode cX12_helped 197 = .ok (.iload_n 3, 1) := by decide +kernel
theorem dX12_helped_198 : decode cX12_helped 198 = .ok (.if_icmp .ne 14, 3) := by decide +kernel
theorem dX12_helped_201 : decode cX12_helped 201 = .ok (.iload 9, 2) := by decide +kernel
theorem dX12_helped_203 : decode cX12_helped 203 = .ok (.iload 4, 2) := by decide +kernel
theorem dX12_helped_205 : decode cX12_helped 205 = .ok (.if_icmp .lt 7, 3) := by decide +kernel
theorem dX12_helped_208 : decode cX12_helped 208 = .ok (.iconst 1, 1) := by decide +kernel
theorem dX12_helped_209 : decode cX12_helped 209 = .ok (.goto 4, 3) := by decide +kernel
theorem dX12_helped_212 : decode cX12_helped 212 = .ok (.iconst 0, 1) := by decide +kernel
theorem dX12_helped_213 : decode cX12_helped 213 = .ok (.iadd, 1) := by decide +kernel
theorem dX12_helped_214 : decode cX12_helped 214 = .ok (.istore 6, 2) := by decide +kernel
theorem dX12_helped_216 : decode cX12_helped 216 = .ok (.iinc 7 1, 3) := by decide +kernel
theorem dX12_helped_219 : decode cX12_helped 219 = .ok (.goto (-111), 3) := by decide +kernel
theorem dX12_helped_222 : decode cX12_helped 222 = .ok (.iload_n 1, 1) := by decide +kernel
theorem dX12_helped_223 : decode cX12_helped 223 = .ok (.ifCond .ne 8, 3) := by decide +kernel
theorem dX12_helped_226 : decode cX12_helped 226 = .ok (.iload 6, 2) := by decide +kernel
theorem dX12_helped_228 : decode cX12_helped 228 = .ok (.goto 5, 3) := by decide +kernel
theorem dX12_helped_231 : decode cX12_helped 231 = .ok (.iload 5, 2) := by decide +kernel
theorem dX12_helped_233 : decode cX12_helped 233 = .ok (.ireturn, 1) := by decide +kernel
theorem dX12_image_0 : decode cX12_image 0 = .ok (.aload_n 0, 1) := by decide +kernel
theorem dX12_image_1 : decode cX12_image 1 = .ok (.iconst 0, 1) := by decide +kernel
theorem dX12_image_2 : decode cX12_image 2 = .ok (.putfield 92, 3) := by decide +kernel
theorem dX12_image_5 : decode cX12_image 5 = .ok (.iload_n 1, 1) := by decide +kernel
theorem dX12_image_6 : decode cX12_image 6 = .ok (.i2l, 1) := by decide +kernel
theorem dX12_image_7 : decode cX12_image 7 = .ok (.lconst 0, 1) := by decide +kernel
theorem dX12_image_8 : decode cX12_image 8 = .ok (.lconst 1, 1) := by decide +kernel
theorem dX12_image_9 : decode cX12_image 9 = .ok (.invokestatic 100, 3) := by decide +kernel
theorem dX12_image_12 : decode cX12_image 12 = .ok (.ifCond .ne 9, 3) := by decide +kernel
theorem dX12_image_15 : decode cX12_image 15 = .ok (.aload_n 0, 1) := by decide +kernel
theorem dX12_image_16 : decode cX12_image 16 = .ok (.iconst (-1), 1) := by decide +kernel
theorem dX12_image_17 : decode cX12_image 17 = .ok (.invokevirtual 106, 3) := by decide +kernel
theorem dX12_image_20 : decode cX12_image 20 = .ok (.ireturn, 1) := by decide +kernel
theorem dX12_image_21 : decode cX12_image 21 = .ok (.iconst 0, 1) := by decide +kernel
theorem dX12_image_22 : decode cX12_image 22 = .ok (.istore_n 2, 1) := by decide +kernel
theorem dX12_image_23 : decode cX12_image 23 = .ok (.iload_n 2, 1) := by decide +kernel
theorem dX12_image_24 : decode cX12_image 24 = .ok (.sipush 27101, 3) := by decide +kernel
theorem dX12_image_27 : decode cX12_image 27 = .ok (.if_icmp .ge 27, 3) := by decide +kernel
theorem dX12_image_30 : decode cX12_image 30 = .ok (.aload_n 0, 1) := by decide +kernel
theorem dX12_image_31 : decode cX12_image 31 = .ok (.getfield 14, 3) := by decide +kernel
theorem dX12_image_34 : decode cX12_image 34 = .ok (.sipush 27101, 3) := by decide +kernel
theorem dX12_image_37 : decode cX12_image 37 = .ok (.iload_n 1, 1) := by decide +kernel
theorem dX12_image_38 : decode cX12_image 38 = .ok (.imul, 1) := by decide +kernel
theorem dX12_image_39 : decode cX12_image 39 = .ok (.iload_n 2, 1) := by decide +kernel
theorem dX12_image_40 : decode cX12_image 40 = .ok (.iadd, 1) := by decide +kernel
theorem dX12_image_41 : decode cX12_image 41 = .ok (.aload_n 0, 1) := by decide +kernel
theorem dX12_image_42 : decode cX12_image 42 = .ok (.getfield 7, 3) := by decide +kernel
theorem dX12_image_45 : decode cX12_image 45 = .ok (.iload_n 2, 1) := by decide +kernel
theorem dX12_image_46 : decode cX12_image 46 = .ok (.iaload, 1) := by decide +kernel
theorem dX12_image_47 : decode cX12_image 47 = .ok (.iastore, 1) := by decide +kernel
theorem dX12_image_48 : decode cX12_image 48 = .ok (.iinc 2 1, 3) := by decide +kernel
theorem dX12_image_51 : decode cX12_image 51 = .ok (.goto (-28), 3) := by decide +kernel
theorem dX12_image_54 : decode cX12_image 54 = .ok (.aload_n 0, 1) := by decide +kernel
theorem dX12_image_55 : decode cX12_image 55 = .ok (.getfield 17, 3) := by decide +kernel
theorem dX12_image_58 : decode cX12_image 58 = .ok (.iload_n 1, 1) := by decide +kernel
theorem dX12_image_59 : decode cX12_image 59 = .ok (.iconst 1, 1) := by decide +kernel
theorem dX12_image_60 : decode cX12_image 60 = .ok (.bastore, 1) := by decide +kernel
theorem dX12_image_61 : decode cX12_image 61 = .ok (.aload_n 0, 1) := by decide +kernel
theorem dX12_image_62 : decode cX12_image 62 = .ok (.iconst 0, 1) := by decide +kernel
theorem dX12_image_63 : decode cX12_image 63 = .ok (.invokevirtual 106, 3) := by decide +kernel
theorem dX12_image_66 : decode cX12_image 66 = .ok (.ireturn, 1) := by decide +kernel
theorem dX12_in_0 : decode cX12_in 0 = .ok (.lload_n 0, 1) := by decide +kernel
theorem dX12_in_1 : decode cX12_in 1 = .ok (.lload_n 2, 1) := by decide +kernel
theorem dX12_in_2 : decode cX12_in 2 = .ok (.lcmp, 1) := by decide +kernel
theorem dX12_in_3 : decode cX12_in 3 = .ok (.ifCond .lt 14, 3) := by decide +kernel
theorem dX12_in_6 : decode cX12_in 6 = .ok (.lload_n 0, 1) := by decide +kernel
theorem dX12_in_7 : decode cX12_in 7 = .ok (.lload 4, 2) := by decide +kernel
theorem dX12_in_9 : decode cX12_in 9 = .ok (.lcmp, 1) := by decide +kernel
theorem dX12_in_10 : decode cX12_in 10 = .ok (.ifCond .gt 7, 3) := by decide +kernel
theorem dX12_in_13 : decode cX12_in 13 = .ok (.iconst 1, 1) := by decide +kernel
theorem dX12_in_14 : decode cX12_in 14 = .ok (.goto 4, 3) := by decide +kernel
theorem dX12_in_17 : decode cX12_in 17 = .ok (.iconst 0, 1) := by decide +kernel
theorem dX12_in_18 : decode cX12_in 18 = .ok (.ireturn, 1) := by decide +kernel
theorem dX12_isChild_0 : decode cX12_isChild 0 = .ok (.iload_n 1, 1) := by decide +kernel
theorem dX12_isChild_1 : decode cX12_isChild 1 = .ok (.i2l, 1) := by decide +kernel
theorem dX12_isChild_2 : decode cX12_isChild 2 = .ok (.lconst 0, 1) := by decide +kernel
theorem dX12_isChild_3 : decode cX12_isChild 3 = .ok (.aload_n 0, 1) := by decide +kernel
theorem dX12_isChild_4 : decode cX12_isChild 4 = .ok (.getfield 7, 3) := by decide +kernel
theorem dX12_isChild_7 : decode cX12_isChild 7 = .ok (.iconst 0, 1) := by decide +kernel
theorem dX12_isChild_8 : decode cX12_isChild 8 = .ok (.iaload, 1) := by decide +kernel
theorem dX12_isChild_9 : decode cX12_isChild 9 = .ok (.i2l, 1) := by decide +kernel
theorem dX12_isChild_10 : decode cX12_isChild 10 = .ok (.lconst 1, 1) := by decide +kernel
theorem dX12_isChild_11 : decode cX12_isChild 11 = .ok (.lsub, 1) := by decide +kernel
theorem dX12_isChild_12 : decode cX12_isChild 12 = .ok (.invokestatic 100, 3) := by decide +kernel
theorem dX12_isChild_15 : decode cX12_isChild 15 = .ok (.ireturn, 1) := by decide +kernel
theorem dX12_isDay_0 : decode cX12_isDay 0 = .ok (.iload_n 0, 1) := by decide +kernel
theorem dX12_isDay_1 : decode cX12_isDay 1 = .ok (.i2l, 1) := by decide +kernel
theorem dX12_isDay_2 : decode cX12_isDay 2 = .ok (.lconst 0, 1) := by decide +kernel
theorem dX12_isDay_3 : decode cX12_isDay 3 = .ok (.ldc2_w 98, 3) := by decide +kernel
theorem dX12_isDay_6 : decode cX12_isDay 6 = .ok (.invokestatic 100, 3) := by decide +kernel
theorem dX12_isDay_9 : decode cX12_isDay 9 = .ok (.ireturn, 1) := by decide +kernel
theorem dX12_isHalf_0 : decode cX12_isHalf 0 = .ok (.iload_n 0, 1) := by decide +kernel
theorem dX12_isHalf_1 : decode cX12_isHalf 1 = .ok (.i2l, 1) := by decide +kernel
theorem dX12_isHalf_2 : decode cX12_isHalf 2 = .ok (.lconst 0, 1) := by decide +kernel
theorem dX12_isHalf_3 : decode cX12_isHalf 3 = .ok (.ldc2_w 104, 3) := by decide +kernel
theorem dX12_isHalf_6 : decode cX12_isHalf 6 = .ok (.invokestatic 100, 3) := by decide +kernel
theorem dX12_isHalf_9 : decode cX12_isHalf 9 = .ok (.ireturn, 1) := by decide +kernel
theorem dX12_isJoin_0 : decode cX12_isJoin 0 = .ok (.aload_n 0, 1) := by decide +kernel
theorem dX12_isJoin_1 : decode cX12_isJoin 1 = .ok (.iconst 0, 1) := by decide +kernel
theorem dX12_isJoin_2 : decode cX12_isJoin 2 = .ok (.putfield 498, 3) := by decide +kernel
theorem dX12_isJoin_5 : decode cX12_isJoin 5 = .ok (.aload_n 0, 1) := by decide +kernel
theorem dX12_isJoin_6 : decode cX12_isJoin 6 = .ok (.iconst 0, 1) := by decide +kernel
theorem dX12_isJoin_7 : decode cX12_isJoin 7 = .ok (.putfield 501, 3) := by decide +kernel
theorem dX12_isJoin_10 : decode cX12_isJoin 10 = .ok (.iconst 0, 1) := by decide +kernel
theorem dX12_isJoin_11 : decode cX12_isJoin 11 = .ok (.istore_n 2, 1) := by decide +kernel
theorem dX12_isJoin_12 : decode cX12_isJoin 12 = .ok (.iconst 0, 1) := by decide +kernel
theorem dX12_isJoin_13 : decode cX12_isJoin 13 = .ok (.istore_n 3, 1) := by decide +kernel
theorem dX12_isJoin_14 : decode cX12_isJoin 14 = .ok (.iload_n 3, 1) := by decide +kernel
theorem dX12_isJoin_15 : decode cX12_isJoin 15 = .ok (.aload_n 0, 1) := by decide +kernel
theorem dX12_isJoin_16 : decode cX12_isJoin 16 = .ok (.getfield 7, 3) := by decide +kernel
theorem dX12_isJoin_19 : decode cX12_isJoin 19 = .ok (.bipush 6, 2) := by decide +kernel
theorem dX12_isJoin_21 : decode cX12_isJoin 21 = .ok (.iaload, 1) := by decide +kernel
theorem dX12_isJoin_22 : decode cX12_isJoin 22 = .ok (.if_icmp .ge 90, 3) := by decide +kernel
theorem dX12_isJoin_25 : decode cX12_isJoin 25 = .ok (.aload_n 0, 1) := by decide +kernel
theorem dX12_isJoin_26 : decode cX12_isJoin 26 = .ok (.getfield 77, 3) := by decide +kernel
theorem dX12_isJoin_29 : decode cX12_isJoin 29 = .ok (.iload_n 3, 1) := by decide +kernel
theorem dX12_isJoin_30 : decode cX12_isJoin 30 = .ok (.iaload, 1) := by decide +kernel
theorem dX12_isJoin_31 : decode cX12_isJoin 31 = .ok (.istore 4, 2) := by decide +kernel
theorem dX12_isJoin_33 : decode cX12_isJoin 33 = .ok (.iload 4, 2) := by decide +kernel
theorem dX12_isJoin_35 : decode cX12_isJoin 35 = .ok (.iconst (-1), 1) := by decide +kernel
theorem dX12_isJoin_36 : decode cX12_isJoin 36 = .ok (.if_icmp .eq 70, 3) := by decide +kernel
theorem dX12_isJoin_39 : decode cX12_isJoin 39 = .ok (.iload 4, 2) := by decide +kernel
theorem dX12_isJoin_41 : decode cX12_isJoin 41 = .ok (.aload_n 0, 1) := by decide +kernel
theorem dX12_isJoin_42 : decode cX12_isJoin 42 = .ok (.getfield 7, 3) := by decide +kernel
theorem dX12_isJoin_45 : decode cX12_isJoin 45 = .ok (.iconst 5, 1) := by decide +kernel
theorem dX12_isJoin_46 : decode cX12_isJoin 46 = .ok (.iaload, 1) := by decide +kernel
theorem dX12_isJoin_47 : decode cX12_isJoin 47 = .ok (.if_icmp .ge 24, 3) := by decide +kernel
theorem dX12_isJoin_50 : decode cX12_isJoin 50 = .ok (.iload_n 2, 1) := by decide +kernel
theorem dX12_isJoin_51 : decode cX12_isJoin 51 = .ok (.iload 4, 2) := by decide +kernel
theorem dX12_isJoin_53 : decode cX12_isJoin 53 = .ok (.ishr, 1) := by decide +kernel
theorem dX12_isJoin_54 : decode cX12_isJoin 54 = .ok (.iconst 1, 1) := by decide +kernel
theorem dX12_isJoin_55 : decode cX12_isJoin 55 = .ok (.iand, 1) := by decide +kernel
theorem dX12_isJoin_56 : decode cX12_isJoin 56 = .ok (.iconst 1, 1) := by decide +kernel
theorem dX12_isJoin_57 : decode cX12_isJoin 57 = .ok (.if_icmp .eq 14, 3) := by decide +kernel
theorem dX12_isJoin_60 : decode cX12_isJoin 60 = .ok (.aload_n 0, 1) := by decide +kernel
theorem dX12_isJoin_61 : decode cX12_isJoin 61 = .ok (.iload_n 3, 1) := by decide +kernel
theorem dX12_isJoin_62 : decode cX12_isJoin 62 = .ok (.iload 4, 2) := by decide +kernel
theorem dX12_isJoin_64 : decode cX12_isJoin 64 = .ok (.invokevirtual 504, 3) := by decide +kernel
theorem dX12_isJoin_67 : decode cX12_isJoin 67 = .ok (.iload_n 1, 1) := by decide +kernel
theorem dX12_isJoin_68 : decode cX12_isJoin 68 = .ok (.if_icmp .ge 5, 3) := by decide +kernel
theorem dX12_isJoin_71 : decode cX12_isJoin 71 = .ok (.iconst 0, 1) := by decide +kernel
theorem dX12_isJoin_72 : decode cX12_isJoin 72 = .ok (.ireturn, 1) := by decide +kernel
theorem dX12_isJoin_73 : decode cX12_isJoin 73 = .ok (.iload_n 2, 1) := by decide +kernel
theorem dX12_isJoin_74 : decode cX12_isJoin 74 = .ok (.iconst 1, 1) := by decide +kernel
theorem dX12_isJoin_75 : decode cX12_isJoin 75 = .ok (.iload 4, 2) := by decide +kernel
theorem dX12_isJoin_77 : decode cX12_isJoin 77 = .ok (.ishl, 1) := by decide +kernel
theorem dX12_isJoin_78 : decode cX12_isJoin 78 = .ok (.ior, 1) := by decide +kernel
theorem dX12_isJoin_79 : decode cX12_isJoin 79 = .ok (.istore_n 2, 1) := by decide +kernel
theorem dX12_isJoin_80 : decode cX12_isJoin 80 = .ok (.aload_n 0, 1) := by decide +kernel
theorem dX12_isJoin_81 : decode cX12_isJoin 81 = .ok (.dup, 1) := by decide +kernel
theorem dX12_isJoin_82 : decode cX12_isJoin 82 = .ok (.getfield 498, 3) := by decide +kernel
theorem dX12_isJoin_85 : decode cX12_isJoin 85 = .ok (.aload_n 0, 1) := by decide +kernel
theorem dX12_isJoin_86 : decode cX12_isJoin 86 = .ok (.iload_n 3, 1) := by decide +kernel
theorem dX12_isJoin_87 : decode cX12_isJoin 87 = .ok (.iload 4, 2) := by decide +kernel
theorem dX12_isJoin_89 : decode cX12_isJoin 89 = .ok (.invokevirtual 504, 3) := by decide +kernel
theorem dX12_isJoin_92 : decode cX12_isJoin 92 = .ok (.iadd, 1) := by decide +kernel
theorem dX12_isJoin_93 : decode cX12_isJoin 93 = .ok (.putfield 498, 3) := by decide +kernel
theorem dX12_isJoin_96 : decode cX12_isJoin 96 = .ok (.aload_n 0, 1) := by decide +kernel
theorem dX12_isJoin_97 : decode cX12_isJoin 97 = .ok (.dup, 1) := by decide +kernel
theorem dX12_isJoin_98 : decode cX12_isJoin 98 = .ok (.getfield 501, 3) := by decide +kernel
theorem dX12_isJoin_101 : decode cX12_isJoin 101 = .ok (.iconst 1, 1) := by decide +kernel
theorem dX12_isJoin_102 : decode cX12_isJoin 102 = .ok (.iadd, 1) := by decide +kernel
theorem dX12_isJoin_103 : decode cX12_isJoin 103 = .ok (.putfield 501, 3) := by decide +kernel
theorem dX12_isJoin_106 : decode cX12_isJoin 106 = .ok (.iinc 3 1, 3) := by decide +kernel
theorem dX12_isJoin_109 : decode cX12_isJoin 109 = .ok (.goto (-95), 3) := by decide +kernel
theorem dX12_isJoin_112 : decode cX12_isJoin 112 = .ok (.iconst 1, 1) := by decide +kernel
theorem dX12_isJoin_113 : decode cX12_isJoin 113 = .ok (.ireturn, 1) := by decide +kernel
theorem dX12_isLost_0 : decode cX12_isLost 0 = .ok (.iconst 0, 1) := by decide +kernel
theorem dX12_isLost_1 : decode cX12_isLost 1 = .ok (.istore_n 3, 1) := by decide +kernel
theorem dX12_isLost_2 : decode cX12_isLost 2 = .ok (.iconst 0, 1) := by decide +kernel
theorem dX12_isLost_3 : decode cX12_isLost 3 = .ok (.istore 4, 2) := by decide +kernel
theorem dX12_isLost_5 : decode cX12_isLost 5 = .ok (.iload 4, 2) := by decide +kernel
theorem dX12_isLost_7 : decode cX12_isLost 7 = .ok (.aload_n 0, 1) := by decide +kernel
theorem dX12_isLost_8 : decode cX12_isLost 8 = .ok (.getfield 7, 3) := by decide +kernel
theorem dX12_isLost_11 : decode cX12_isLost 11 = .ok (.iconst 2, 1) := by decide +kernel
theorem dX12_isLost_12 : decode cX12_isLost 12 = .ok (.iaload, 1) := by decide +kernel
theorem dX12_isLost_13 : decode cX12_isLost 13 = .ok (.if_icmp .ge 141, 3) := by decide +kernel
theorem dX12_isLost_16 : decode cX12_isLost 16 = .ok (.sipush 2700, 3) := by decide +kernel
theorem dX12_isLost_19 : decode cX12_isLost 19 = .ok (.iconst 5, 1) := by decide +kernel
theorem dX12_isLost_20 : decode cX12_isLost 20 = .ok (.iload 4, 2) := by decide +kernel
theorem dX12_isLost_22 : decode cX12_isLost 22 = .ok (.imul, 1) := by decide +kernel
theorem dX12_isLost_23 : decode cX12_isLost 23 = .ok (.iadd, 1) := by decide +kernel
theorem dX12_isLost_24 : decode cX12_isLost 24 = .ok (.istore 5, 2) := by decide +kernel
theorem dX12_isLost_26 : decode cX12_isLost 26 = .ok (.aload_n 0, 1) := by decide +kernel
theorem dX12_isLost_27 : decode cX12_isLost 27 = .ok (.getfield 7, 3) := by decide +kernel
theorem dX12_isLost_30 : decode cX12_isLost 30 = .ok (.iload 5, 2) := by decide +kernel
theorem dX12_isLost_32 : decode cX12_isLost 32 = .ok (.iaload, 1) := by decide +kernel
theorem dX12_isLost_33 : decode cX12_isLost 33 = .ok (.iload_n 1, 1) := by decide +kernel
theorem dX12_isLost_34 : decode cX12_isLost 34 = .ok (.if_icmp .ne 114, 3) := by decide +kernel
theorem dX12_isLost_37 : decode cX12_isLost 37 = .ok (.aload_n 0, 1) := by decide +kernel
theorem dX12_isLost_38 : decode cX12_isLost 38 = .ok (.getfield 7, 3) := by decide +kernel
theorem dX12_isLost_41 : decode cX12_isLost 41 = .ok (.iload 5, 2) := by decide +kernel
theorem dX12_isLost_43 : decode cX12_isLost 43 = .ok (.iconst 3, 1) := by decide +kernel
theorem dX12_isLost_44 : decode cX12_isLost 44 = .ok (.iadd, 1) := by decide +kernel
theorem dX12_isLost_45 : decode cX12_isLost 45 = .ok (.iaload, 1) := by decide +kernel
theorem dX12_isLost_46 : decode cX12_isLost 46 = .ok (.iconst (-1), 1) := by decide +kernel
theorem dX12_isLost_47 : decode cX12_isLost 47 = .ok (.if_icmp .eq 101, 3) := by decide +kernel
theorem dX12_isLost_50 : decode cX12_isLost 50 = .ok (.aload_n 0, 1) := by decide +kernel
theorem dX12_isLost_51 : decode cX12_isLost 51 = .ok (.getfield 7, 3) := by decide +kernel
theorem dX12_isLost_54 : decode cX12_isLost 54 = .ok (.iload 5, 2) := by decide +kernel
theorem dX12_isLost_56 : decode cX12_isLost 56 = .ok (.iconst 3, 1) := by decide +kernel
theorem dX12_isLost_57 : decode cX12_isLost 57 = .ok (.iadd, 1) := by decide +kernel
theorem dX12_isLost_58 : decode cX12_isLost 58 = .ok (.iaload, 1) := by decide +kernel
theorem dX12_isLost_59 : decode cX12_isLost 59 = .ok (.iload_n 2, 1) := by decide +kernel
theorem dX12_isLost_60 : decode cX12_isLost 60 = .ok (.if_icmp .gt 88, 3) := by decide +kernel
theorem dX12_isLost_63 : decode cX12_isLost 63 = .ok (.aload_n 0, 1) := by decide +kernel
theorem dX12_isLost_64 : decode cX12_isLost 64 = .ok (.getfield 7, 3) := by decide +kernel
theorem dX12_isLost_67 : decode cX12_isLost 67 = .ok (.iload 5, 2) := by decide +kernel
theorem dX12_isLost_69 : decode cX12_isLost 69 = .ok (.iconst 4, 1) := by decide +kernel
theorem dX12_isLost_70 : decode cX12_isLost 70 = .ok (.iadd, 1) := by decide +kernel
theorem dX12_isLost_71 : decode cX12_isLost 71 = .ok (.iaload, 1) := by decide +kernel
theorem dX12_isLost_72 : decode cX12_isLost 72 = .ok (.iconst (-1), 1) := by decide +kernel
theorem dX12_isLost_73 : decode cX12_isLost 73 = .ok (.if_icmp .eq 75, 3) := by decide +kernel
theorem dX12_isLost_76 : decode cX12_isLost 76 = .ok (.iconst 0, 1) := by decide +kernel
theorem dX12_isLost_77 : decode cX12_isLost 77 = .ok (.istore 6, 2) := by decide +kernel
theorem dX12_isLost_79 : decode cX12_isLost 79 = .ok (.aload_n 0, 1) := by decide +kernel
theorem dX12_isLost_80 : decode cX12_isLost 80 = .ok (.getfield 7, 3) := by decide +kernel
theorem dX12_isLost_83 : decode cX12_isLost 83 = .ok (.iload 5, 2) := by decide +kernel
theorem dX12_isLost_85 : decode cX12_isLost 85 = .ok (.iconst 3, 1) := by decide +kernel
theorem dX12_isLost_86 : decode cX12_isLost 86 = .ok (.iadd, 1) := by decide +kernel
theorem dX12_isLost_87 : decode cX12_isLost 87 = .ok (.iaload, 1) := by decide +kernel
theorem dX12_isLost_88 : decode cX12_isLost 88 = .ok (.istore 7, 2) := by decide +kernel
theorem dX12_isLost_90 : decode cX12_isLost 90 = .ok (.iload 7, 2) := by decide +kernel
theorem dX12_isLost_92 : decode cX12_isLost 92 = .ok (.iload_n 2, 1) := by decide +kernel
theorem dX12_isLost_93 : decode cX12_isLost 93 = .ok (.if_icmp .gt 40, 3) := by decide +kernel
theorem dX12_isLost_96 : decode cX12_isLost 96 = .ok (.iload 6, 2) := by decide +kernel
theorem dX12_isLost_98 : decode cX12_isLost 98 = .ok (.ifCond .ne 22, 3) := by decide +kernel
theorem dX12_isLost_101 : decode cX12_isLost 101 = .ok (.aload_n 0, 1) := by decide +kernel
theorem dX12_isLost_102 : decode cX12_isLost 102 = .ok (.iload_n 1, 1) := by decide +kernel
theorem dX12_isLost_103 : decode cX12_isLost 103 = .ok (.aload_n 0, 1) := by decide +kernel
theorem dX12_isLost_104 : decode cX12_isLost 104 = .ok (.getfield 7, 3) := by decide +kernel
theorem dX12_isLost_107 : decode cX12_isLost 107 = .ok (.iload 5, 2) := by decide +kernel
theorem dX12_isLost_109 : decode cX12_isLost 109 = .ok (.iconst 4, 1) := by decide +kernel
theorem dX12_isLost_110 : decode cX12_isLost 110 = .ok (.iadd, 1) := by decide +kernel
theorem dX12_isLost_111 : decode cX12_isLost 111 = .ok (.iaload, 1) := by decide +kernel
theorem dX12_isLost_112 : decode cX12_isLost 112 = .ok (.iload 7, 2) := by decide +kernel
theorem dX12_isLost_114 : decode cX12_isLost 114 = .ok (.invokevirtual 141, 3) := by decide +kernel
theorem dX12_isLost_117 : decode cX12_isLost 117 = .ok (.ifCond .eq 7, 3) := by decide +kernel
theorem dX12_isLost_120 : decode cX12_isLost 120 = .ok (.iconst 1, 1) := by decide +kernel
theorem dX12_isLost_121 : decode cX12_isLost 121 = .ok (.goto 4, 3) := by decide +kernel
theorem dX12_isLost_124 : decode cX12_isLost 124 = .ok (.iconst 0, 1) := by decide +kernel
theorem dX12_isLost_125 : decode cX12_isLost 125 = .ok (.istore 6, 2) := by decide +kernel
theorem dX12_isLost_127 : decode cX12_isLost 127 = .ok (.iinc 7 1, 3) := by decide +kernel
theorem dX12_isLost_130 : decode cX12_isLost 130 = .ok (.goto (-40), 3) := by decide +kernel
theorem dX12_isLost_133 : decode cX12_isLost 133 = .ok (.iload_n 3, 1) := by decide +kernel
theorem dX12_isLost_134 : decode cX12_isLost 134 = .ok (.ifCond .ne 8, 3) := by decide +kernel
theorem dX12_isLost_137 : decode cX12_isLost 137 = .ok (.iload 6, 2) := by decide +kernel
theorem dX12_isLost_139 : decode cX12_isLost 139 = .ok (.ifCond .ne 7, 3) := by decide +kernel
theorem dX12_isLost_142 : decode cX12_isLost 142 = .ok (.iconst 1, 1) := by decide +kernel
theorem dX12_isLost_143 : decode cX12_isLost 143 = .ok (.goto 4, 3) := by decide +kernel
theorem dX12_isLost_146 : decode cX12_isLost 146 = .ok (.iconst 0, 1) := by decide +kernel
theorem dX12_isLost_147 : decode cX12_isLost 147 = .ok (.istore_n 3, 1) := by decide +kernel
theorem dX12_isLost_148 : decode cX12_isLost 148 = .ok (.iinc 4 1, 3) := by decide +kernel
theorem dX12_isLost_151 : decode cX12_isLost 151 = .ok (.goto (-146), 3) := by decide +kernel
theorem dX12_isLost_154 : decode cX12_isLost 154 = .ok (.iload_n 3, 1) := by decide +kernel
theorem dX12_isLost_155 : decode cX12_isLost 155 = .ok (.ireturn, 1) := by decide +kernel
theorem dX12_isMark_0 : decode cX12_isMark 0 = .ok (.iload_n 1, 1) := by decide +kernel
theorem dX12_isMark_1 : decode cX12_isMark 1 = .ok (.i2l, 1) := by decide +kernel
theorem dX12_isMark_2 : decode cX12_isMark 2 = .ok (.lconst 0, 1) := by decide +kernel
theorem dX12_isMark_3 : decode cX12_isMark 3 = .ok (.aload_n 0, 1) := by decide +kernel
theorem dX12_isMark_4 : decode cX12_isMark 4 = .ok (.getfield 7, 3) := by decide +kernel
theorem dX12_isMark_7 : decode cX12_isMark 7 = .ok (.iconst 3, 1) := by decide +kernel
theorem dX12_isMark_8 : decode cX12_isMark 8 = .ok (.iaload, 1) := by decide +kernel
theorem dX12_isMark_9 : decode cX12_isMark 9 = .ok (.i2l, 1) := by decide +kernel
theorem dX12_isMark_10 : decode cX12_isMark 10 = .ok (.lconst 1, 1) := by decide +kernel
theorem dX12_isMark_11 : decode cX12_isMark 11 = .ok (.lsub, 1) := by decide +kernel
theorem dX12_isMark_12 : decode cX12_isMark 12 = .ok (.invokestatic 100, 3) := by decide +kernel
theorem dX12_isMark_15 : decode cX12_isMark 15 = .ok (.ireturn, 1) := by decide +kernel
theorem dX12_isOn_0 : decode cX12_isOn 0 = .ok (.aload_n 0, 1) := by decide +kernel
theorem dX12_isOn_1 : decode cX12_isOn 1 = .ok (.iconst 0, 1) := by decide +kernel
theorem dX12_isOn_2 : decode cX12_isOn 2 = .ok (.putfield 92, 3) := by decide +kernel
theorem dX12_isOn_5 : decode cX12_isOn 5 = .ok (.aload_n 0, 1) := by decide +kernel
theorem dX12_isOn_6 : decode cX12_isOn 6 = .ok (.iload_n 1, 1) := by decide +kernel
theorem dX12_isOn_7 : decode cX12_isOn 7 = .ok (.invokevirtual 138, 3) := by decide +kernel
theorem dX12_isOn_10 : decode cX12_isOn 10 = .ok (.ifCond .eq 36, 3) := by decide +kernel
theorem dX12_isOn_13 : decode cX12_isOn 13 = .ok (.aload_n 0, 1) := by decide +kernel
theorem dX12_isOn_14 : decode cX12_isOn 14 = .ok (.iload_n 2, 1) := by decide +kernel
theorem dX12_isOn_15 : decode cX12_isOn 15 = .ok (.invokevirtual 131, 3) := by decide +kernel
theorem dX12_isOn_18 : decode cX12_isOn 18 = .ok (.ifCond .eq 28, 3) := by decide +kernel
theorem dX12_isOn_21 : decode cX12_isOn 21 = .ok (.iload_n 3, 1) := by decide +kernel
theorem dX12_isOn_22 : decode cX12_isOn 22 = .ok (.invokestatic 127, 3) := by decide +kernel
theorem dX12_isOn_25 : decode cX12_isOn 25 = .ok (.ifCond .eq 21, 3) := by decide +kernel
theorem dX12_isOn_28 : decode cX12_isOn 28 = .ok (.aload_n 0, 1) := by decide +kernel
theorem dX12_isOn_29 : decode cX12_isOn 29 = .ok (.iload_n 1, 1) := by decide +kernel
theorem dX12_isOn_30 : decode cX12_isOn 30 = .ok (.iload_n 2, 1) := by decide +kernel
theorem dX12_isOn_31 : decode cX12_isOn 31 = .ok (.iload_n 3, 1) := by decide +kernel
theorem dX12_isOn_32 : decode cX12_isOn 32 = .ok (.invokevirtual 141, 3) := by decide +kernel
theorem dX12_isOn_35 : decode cX12_isOn 35 = .ok (.ifCond .eq 7, 3) := by decide +kernel
theorem dX12_isOn_38 : decode cX12_isOn 38 = .ok (.iconst 1, 1) := by decide +kernel
theorem dX12_isOn_39 : decode cX12_isOn 39 = .ok (.goto 8, 3) := by decide +kernel
theorem dX12_isOn_42 : decode cX12_isOn 42 = .ok (.iconst 0, 1) := by decide +kernel
theorem dX12_isOn_43 : decode cX12_isOn 43 = .ok (.goto 4, 3) := by decide +kernel
theorem dX12_isOn_46 : decode cX12_isOn 46 = .ok (.iconst (-1), 1) := by decide +kernel
theorem dX12_isOn_47 : decode cX12_isOn 47 = .ok (.ireturn, 1) := by decide +kernel
theorem dX12_isOnRoll_0 : decode cX12_isOnRoll 0 = .ok (.sipush 2700, 3) := by decide +kernel
theorem dX12_isOnRoll_3 : decode cX12_isOnRoll 3 = .ok (.iconst 5, 1) := by decide +kernel
theorem dX12_isOnRoll_4 : decode cX12_isOnRoll 4 = .ok (.iload_n 1, 1) := by decide +kernel
theorem dX12_isOnRoll_5 : decode cX12_isOnRoll 5 = .ok (.imul, 1) := by decide +kernel
theorem dX12_isOnRoll_6 : decode cX12_isOnRoll 6 = .ok (.iadd, 1) := by decide +kernel
theorem dX12_isOnRoll_7 : decode cX12_isOnRoll 7 = .ok (.istore_n 3, 1) := by decide +kernel
theorem dX12_isOnRoll_8 : decode cX12_isOnRoll 8 = .ok (.aload_n 0, 1) := by decide +kernel
theorem dX12_isOnRoll_9 : decode cX12_isOnRoll 9 = .ok (.getfield 7, 3) := by decide +kernel
theorem dX12_isOnRoll_12 : decode cX12_isOnRoll 12 = .ok (.iload_n 3, 1) := by decide +kernel
theorem dX12_isOnRoll_13 : decode cX12_isOnRoll 13 = .ok (.iconst 2, 1) := by decide +kernel
theorem dX12_isOnRoll_14 : decode cX12_isOnRoll 14 = .ok (.iadd, 1) := by decide +kernel
theorem dX12_isOnRoll_15 : decode cX12_isOnRoll 15 = .ok (.iaload, 1) := by decide +kernel
theorem dX12_isOnRoll_16 : decode cX12_isOnRoll 16 = .ok (.iload_n 2, 1) := by decide +kernel
theorem dX12_isOnRoll_17 : decode cX12_isOnRoll 17 = .ok (.if_icmp .gt 31, 3) := by decide +kernel
theorem dX12_isOnRoll_20 : decode cX12_isOnRoll 20 = .ok (.aload_n 0, 1) := by decide +kernel
theorem dX12_isOnRoll_21 : decode cX12_isOnRoll 21 = .ok (.getfield 7, 3) := by decide +kernel
theorem dX12_isOnRoll_24 : decode cX12_isOnRoll 24 = .ok (.iload_n 3, 1) := by decide +kernel
theorem dX12_isOnRoll_25 : decode cX12_isOnRoll 25 = .ok (.iconst 3, 1) := by decide +kernel
theorem dX12_isOnRoll_26 : decode cX12_isOnRoll 26 = .ok (.iadd, 1) := by decide +kernel
theorem dX12_isOnRoll_27 : decode cX12_isOnRoll 27 = .ok (.iaload, 1) := by decide +kernel
theorem dX12_isOnRoll_28 : decode cX12_isOnRoll 28 = .ok (.iconst (-1), 1) := by decide +kernel
theorem dX12_isOnRoll_29 : decode cX12_isOnRoll 29 = .ok (.if_icmp .eq 15, 3) := by decide +kernel
theorem dX12_isOnRoll_32 : decode cX12_isOnRoll 32 = .ok (.iload_n 2, 1) := by decide +kernel
theorem dX12_isOnRoll_33 : decode cX12_isOnRoll 33 = .ok (.aload_n 0, 1) := by decide +kernel
theorem dX12_isOnRoll_34 : decode cX12_isOnRoll 34 = .ok (.getfield 7, 3) := by decide +kernel
theorem dX12_isOnRoll_37 : decode cX12_isOnRoll 37 = .ok (.iload_n 3, 1) := by decide +kernel
theorem dX12_isOnRoll_38 : decode cX12_isOnRoll 38 = .ok (.iconst 3, 1) := by decide +kernel
theorem dX12_isOnRoll_39 : decode cX12_isOnRoll 39 = .ok (.iadd, 1) := by decide +kernel
theorem dX12_isOnRoll_40 : decode cX12_isOnRoll 40 = .ok (.iaload, 1) := by decide +kernel
theorem dX12_isOnRoll_41 : decode cX12_isOnRoll 41 = .ok (.if_icmp .ge 7, 3) := by decide +kernel
theorem dX12_isOnRoll_44 : decode cX12_isOnRoll 44 = .ok (.iconst 1, 1) := by decide +kernel
theorem dX12_isOnRoll_45 : decode cX12_isOnRoll 45 = .ok (.goto 4, 3) := by decide +kernel
theorem dX12_isOnRoll_48 : decode cX12_isOnRoll 48 = .ok (.iconst 0, 1) := by decide +kernel
theorem dX12_isOnRoll_49 : decode cX12_isOnRoll 49 = .ok (.ireturn, 1) := by decide +kernel
theorem dX12_isOnSchool_0 : decode cX12_isOnSchool 0 = .ok (.iconst 0, 1) := by decide +kernel
theorem dX12_isOnSchool_1 : decode cX12_isOnSchool 1 = .ok (.istore 4, 2) := by decide +kernel
theorem dX12_isOnSchool_3 : decode cX12_isOnSchool 3 = .ok (.iconst 0, 1) := by decide +kernel
theorem dX12_isOnSchool_4 : decode cX12_isOnSchool 4 = .ok (.istore 5, 2) := by decide +kernel
theorem dX12_isOnSchool_6 : decode cX12_isOnSchool 6 = .ok (.iload 5, 2) := by decide +kernel
theorem dX12_isOnSchool_8 : decode cX12_isOnSchool 8 = .ok (.aload_n 0, 1) := by decide +kernel
theorem dX12_isOnSchool_9 : decode cX12_isOnSchool 9 = .ok (.getfield 7, 3) := by decide +kernel
theorem dX12_isOnSchool_12 : decode cX12_isOnSchool 12 = .ok (.iconst 2, 1) := by decide +kernel
theorem dX12_isOnSchool_13 : decode cX12_isOnSchool 13 = .ok (.iaload, 1) := by decide +kernel
theorem dX12_isOnSchool_14 : decode cX12_isOnSchool 14 = .ok (.if_icmp .ge 65, 3) := by decide +kernel
theorem dX12_isOnSchool_17 : decode cX12_isOnSchool 17 = .ok (.sipush 2700, 3) := by decide +kernel
theorem dX12_isOnSchool_20 : decode cX12_isOnSchool 20 = .ok (.iconst 5, 1) := by decide +kernel
theorem dX12_isOnSchool_21 : decode cX12_isOnSchool 21 = .ok (.iload 5, 2) := by decide +kernel
theorem dX12_isOnSchool_23 : decode cX12_isOnSchool 23 = .ok (.imul, 1) := by decide +kernel
theorem dX12_isOnSchool_24 : decode cX12_isOnSchool 24 = .ok (.iadd, 1) := by decide +kernel
theorem dX12_isOnSchool_25 : decode cX12_isOnSchool 25 = .ok (.istore 6, 2) := by decide +kernel
theorem dX12_isOnSchool_27 : decode cX12_isOnSchool 27 = .ok (.iload 4, 2) := by decide +kernel
theorem dX12_isOnSchool_29 : decode cX12_isOnSchool 29 = .ok (.ifCond .ne 37, 3) := by decide +kernel
theorem dX12_isOnSchool_32 : decode cX12_isOnSchool 32 = .ok (.aload_n 0, 1) := by decide +kernel
theorem dX12_isOnSchool_33 : decode cX12_isOnSchool 33 = .ok (.getfield 7, 3) := by decide +kernel
theorem dX12_isOnSchool_36 : decode cX12_isOnSchool 36 = .ok (.iload 6, 2) := by decide +kernel
theorem dX12_isOnSchool_38 : decode cX12_isOnSchool 38 = .ok (.iaload, 1) := by decide +kernel
theorem dX12_isOnSchool_39 : decode cX12_isOnSchool 39 = .ok (.iload_n 1, 1) := by decide +kernel
theorem dX12_isOnSchool_40 : decode cX12_isOnSchool 40 = .ok (.if_icmp .ne 30, 3) := by decide +kernel
theorem dX12_isOnSchool_43 : decode cX12_isOnSchool 43 = .ok (.aload_n 0, 1) := by decide +kernel
theorem dX12_isOnSchool_44 : decode cX12_isOnSchool 44 = .ok (.getfield 7, 3) := by decide +kernel
theorem dX12_isOnSchool_47 : decode cX12_isOnSchool 47 = .ok (.iload 6, 2) := by decide +kernel
theorem dX12_isOnSchool_49 : decode cX12_isOnSchool 49 = .ok (.iconst 1, 1) := by decide +kernel
theorem dX12_isOnSchool_50 : decode cX12_isOnSchool 50 = .ok (.iadd, 1) := by decide +kernel
theorem dX12_isOnSchool_51 : decode cX12_isOnSchool 51 = .ok (.iaload, 1) := by decide +kernel
theorem dX12_isOnSchool_52 : decode cX12_isOnSchool 52 = .ok (.iload_n 2, 1) := by decide +kernel
theorem dX12_isOnSchool_53 : decode cX12_isOnSchool 53 = .ok (.if_icmp .ne 17, 3) := by decide +kernel
theorem dX12_isOnSchool_56 : decode cX12_isOnSchool 56 = .ok (.aload_n 0, 1) := by decide +kernel
theorem dX12_isOnSchool_57 : decode cX12_isOnSchool 57 = .ok (.iload 5, 2) := by decide +kernel
theorem dX12_isOnSchool_59 : decode cX12_isOnSchool 59 = .ok (.iload_n 3, 1) := by decide +kernel
theorem dX12_isOnSchool_60 : decode cX12_isOnSchool 60 = .ok (.invokevirtual 134, 3) := by decide +kernel
theorem dX12_isOnSchool_63 : decode cX12_isOnSchool 63 = .ok (.ifCond .eq 7, 3) := by decide +kernel
theorem dX12_isOnSchool_66 : decode cX12_isOnSchool 66 = .ok (.iconst 1, 1) := by decide +kernel
theorem dX12_isOnSchool_67 : decode cX12_isOnSchool 67 = .ok (.goto 4, 3) := by decide +kernel
theorem dX12_isOnSchool_70 : decode cX12_isOnSchool 70 = .ok (.iconst 0, 1) := by decide +kernel
theorem dX12_isOnSchool_71 : decode cX12_isOnSchool 71 = .ok (.istore 4, 2) := by decide +kernel
theorem dX12_isOnSchool_73 : decode cX12_isOnSchool 73 = .ok (.iinc 5 1, 3) := by decide +kernel
theorem dX12_isOnSchool_76 : decode cX12_isOnSchool 76 = .ok (.goto (-70), 3) := by decide +kernel
theorem dX12_isOnSchool_79 : decode cX12_isOnSchool 79 = .ok (.iload 4, 2) := by decide +kernel
theorem dX12_isOnSchool_81 : decode cX12_isOnSchool 81 = .ok (.ireturn, 1) := by decide +kernel
theorem dX12_isSchool_0 : decode cX12_isSchool 0 = .ok (.iload_n 1, 1) := by decide +kernel
theorem dX12_isSchool_1 : decode cX12_isSchool 1 = .ok (.i2l, 1) := by decide +kernel
theorem dX12_isSchool_2 : decode cX12_isSchool 2 = .ok (.lconst 0, 1) := by decide +kernel
theorem dX12_isSchool_3 : decode cX12_isSchool 3 = .ok (.aload_n 0, 1) := by decide +kernel
theorem dX12_isSchool_4 : decode cX12_isSchool 4 = .ok (.getfield 7, 3) := by decide +kernel
theorem dX12_isSchool_7 : decode cX12_isSchool 7 = .ok (.iconst 1, 1) := by decide +kernel
theorem dX12_isSchool_8 : decode cX12_isSchool 8 = .ok (.iaload, 1) := by decide +kernel
theorem dX12_isSchool_9 : decode cX12_isSchool 9 = .ok (.i2l, 1) := by decide +kernel
theorem dX12_isSchool_10 : decode cX12_isSchool 10 = .ok (.lconst 1, 1) := by decide +kernel
theorem dX12_isSchool_11 : decode cX12_isSchool 11 = .ok (.lsub, 1) := by decide +kernel
theorem dX12_isSchool_12 : decode cX12_isSchool 12 = .ok (.invokestatic 100, 3) := by decide +kernel
theorem dX12_isSchool_15 : decode cX12_isSchool 15 = .ok (.ireturn, 1) := by decide +kernel
theorem dX12_isSo_0 : decode cX12_isSo 0 = .ok (.aload_n 0, 1) := by decide +kernel
theorem dX12_isSo_1 : decode cX12_isSo 1 = .ok (.getfield 7, 3) := by decide +kernel
theorem dX12_isSo_4 : decode cX12_isSo 4 = .ok (.iload_n 2, 1) := by decide +kernel
theorem dX12_isSo_5 : decode cX12_isSo 5 = .ok (.iconst 5, 1) := by decide +kernel
theorem dX12_isSo_6 : decode cX12_isSo 6 = .ok (.iadd, 1) := by decide +kernel
theorem dX12_isSo_7 : decode cX12_isSo 7 = .ok (.iaload, 1) := by decide +kernel
theorem dX12_isSo_8 : decode cX12_isSo 8 = .ok (.aload_n 0, 1) := by decide +kernel
theorem dX12_isSo_9 : decode cX12_isSo 9 = .ok (.getfield 7, 3) := by decide +kernel
theorem dX12_isSo_12 : decode cX12_isSo 12 = .ok (.iload_n 2, 1) := by decide +kernel
theorem dX12_isSo_13 : decode cX12_isSo 13 = .ok (.bipush 6, 2) := by decide +kernel
theorem dX12_isSo_15 : decode cX12_isSo 15 = .ok (.iadd, 1) := by decide +kernel
theorem dX12_isSo_16 : decode cX12_isSo 16 = .ok (.iaload, 1) := by decide +kernel
theorem dX12_isSo_17 : decode cX12_isSo 17 = .ok (.if_icmp .ge 43, 3) := by decide +kernel
theorem dX12_isSo_20 : decode cX12_isSo 20 = .ok (.aload_n 0, 1) := by decide +kernel
theorem dX12_isSo_21 : decode cX12_isSo 21 = .ok (.iload_n 1, 1) := by decide +kernel
theorem dX12_isSo_22 : decode cX12_isSo 22 = .ok (.aload_n 0, 1) := by decide +kernel
theorem dX12_isSo_23 : decode cX12_isSo 23 = .ok (.getfield 7, 3) := by decide +kernel
theorem dX12_isSo_26 : decode cX12_isSo 26 = .ok (.iload_n 2, 1) := by decide +kernel
theorem dX12_isSo_27 : decode cX12_isSo 27 = .ok (.iconst 5, 1) := by decide +kernel
theorem dX12_isSo_28 : decode cX12_isSo 28 = .ok (.iadd, 1) := by decide +kernel
theorem dX12_isSo_29 : decode cX12_isSo 29 = .ok (.iaload, 1) := by decide +kernel
theorem dX12_isSo_30 : decode cX12_isSo 30 = .ok (.aload_n 0, 1) := by decide +kernel
theorem dX12_isSo_31 : decode cX12_isSo 31 = .ok (.getfield 7, 3) := by decide +kernel
theorem dX12_isSo_34 : decode cX12_isSo 34 = .ok (.iload_n 2, 1) := by decide +kernel
theorem dX12_isSo_35 : decode cX12_isSo 35 = .ok (.bipush 6, 2) := by decide +kernel
theorem dX12_isSo_37 : decode cX12_isSo 37 = .ok (.iadd, 1) := by decide +kernel
theorem dX12_isSo_38 : decode cX12_isSo 38 = .ok (.iaload, 1) := by decide +kernel
theorem dX12_isSo_39 : decode cX12_isSo 39 = .ok (.invokevirtual 436, 3) := by decide +kernel
theorem dX12_isSo_42 : decode cX12_isSo 42 = .ok (.aload_n 0, 1) := by decide +kernel
theorem dX12_isSo_43 : decode cX12_isSo 43 = .ok (.getfield 416, 3) := by decide +kernel
theorem dX12_isSo_46 : decode cX12_isSo 46 = .ok (.ifCond .ne 12, 3) := by decide +kernel
theorem dX12_isSo_49 : decode cX12_isSo 49 = .ok (.aload_n 0, 1) := by decide +kernel
theorem dX12_isSo_50 : decode cX12_isSo 50 = .ok (.getfield 427, 3) := by decide +kernel
theorem dX12_isSo_53 : decode cX12_isSo 53 = .ok (.lconst 0, 1) := by decide +kernel
theorem dX12_isSo_54 : decode cX12_isSo 54 = .ok (.lcmp, 1) := by decide +kernel
theorem dX12_isSo_55 : decode cX12_isSo 55 = .ok (.ifCond .ne 5, 3) := by decide +kernel
theorem dX12_isSo_58 : decode cX12_isSo 58 = .ok (.iconst 0, 1) := by decide +kernel
theorem dX12_isSo_59 : decode cX12_isSo 59 = .ok (.ireturn, 1) := by decide +kernel
theorem dX12_isSo_60 : decode cX12_isSo 60 = .ok (.aload_n 0, 1) := by decide +kernel
theorem dX12_isSo_61 : decode cX12_isSo 61 = .ok (.iload_n 1, 1) := by decide +kernel
theorem dX12_isSo_62 : decode cX12_isSo 62 = .ok (.aload_n 0, 1) := by decide +kernel
theorem dX12_isSo_63 : decode cX12_isSo 63 = .ok (.getfield 7, 3) := by decide +kernel
theorem dX12_isSo_66 : decode cX12_isSo 66 = .ok (.iload_n 2, 1) := by decide +kernel
theorem dX12_isSo_67 : decode cX12_isSo 67 = .ok (.iconst 3, 1) := by decide +kernel
theorem dX12_isSo_68 : decode cX12_isSo 68 = .ok (.iadd, 1) := by decide +kernel
theorem dX12_isSo_69 : decode cX12_isSo 69 = .ok (.iaload, 1) := by decide +kernel
theorem dX12_isSo_70 : decode cX12_isSo 70 = .ok (.aload_n 0, 1) := by decide +kernel
theorem dX12_isSo_71 : decode cX12_isSo 71 = .ok (.getfield 7, 3) := by decide +kernel
theorem dX12_isSo_74 : decode cX12_isSo 74 = .ok (.iload_n 2, 1) := by decide +kernel
theorem dX12_isSo_75 : decode cX12_isSo 75 = .ok (.iconst 4, 1) := by decide +kernel
theorem dX12_isSo_76 : decode cX12_isSo 76 = .ok (.iadd, 1) := by decide +kernel
theorem dX12_isSo_77 : decode cX12_isSo 77 = .ok (.iaload, 1) := by decide +kernel
theorem dX12_isSo_78 : decode cX12_isSo 78 = .ok (.invokevirtual 436, 3) := by decide +kernel
theorem dX12_isSo_81 : decode cX12_isSo 81 = .ok (.aload_n 0, 1) := by decide +kernel
theorem dX12_isSo_82 : decode cX12_isSo 82 = .ok (.aload_n 0, 1) := by decide +kernel
theorem dX12_isSo_83 : decode cX12_isSo 83 = .ok (.getfield 427, 3) := by decide +kernel
theorem dX12_isSo_86 : decode cX12_isSo 86 = .ok (.putfield 433, 3) := by decide +kernel
theorem dX12_isSo_89 : decode cX12_isSo 89 = .ok (.aload_n 0, 1) := by decide +kernel
theorem dX12_isSo_90 : decode cX12_isSo 90 = .ok (.getfield 416, 3) := by decide +kernel
theorem dX12_isSo_93 : decode cX12_isSo 93 = .ok (.ifCond .ne 7, 3) := by decide +kernel
theorem dX12_isSo_96 : decode cX12_isSo 96 = .ok (.iconst 1, 1) := by decide +kernel
theorem dX12_isSo_97 : decode cX12_isSo 97 = .ok (.goto 4, 3) := by decide +kernel
theorem dX12_isSo_100 : decode cX12_isSo 100 = .ok (.iconst 0, 1) := by decide +kernel
theorem dX12_isSo_101 : decode cX12_isSo 101 = .ok (.ireturn, 1) := by decide +kernel
theorem dX12_isStep_0 : decode cX12_isStep 0 = .ok (.iload_n 0, 1) := by decide +kernel
theorem dX12_isStep_1 : decode cX12_isStep 1 = .ok (.i2l, 1) := by decide +kernel
theorem dX12_isStep_2 : decode cX12_isStep 2 = .ok (.lconst 0, 1) := by decide +kernel
theorem dX12_isStep_3 : decode cX12_isStep 3 = .ok (.ldc2_w 110, 3) := by decide +kernel
theorem dX12_isStep_6 : decode cX12_isStep 6 = .ok (.invokestatic 100, 3) := by decide +kernel
theorem dX12_isStep_9 : decode cX12_isStep 9 = .ok (.ireturn, 1) := by decide +kernel
theorem dX12_join_0 : decode cX12_join 0 = .ok (.aload_n 0, 1) := by decide +kernel
theorem dX12_join_1 : decode cX12_join 1 = .ok (.iconst 0, 1) := by decide +kernel
theorem dX12_join_2 : decode cX12_join 2 = .ok (.putfield 92, 3) := by decide +kernel
theorem dX12_join_5 : decode cX12_join 5 = .ok (.iload_n 1, 1) := by decide +kernel
theorem dX12_join_6 : decode cX12_join 6 = .ok (.i2l, 1) := by decide +kernel
theorem dX12_join_7 : decode cX12_join 7 = .ok (.lconst 0, 1) := by decide +kernel
theorem dX12_join_8 : decode cX12_join 8 = .ok (.ldc2_w 507, 3) := by decide +kernel
theorem dX12_join_11 : decode cX12_join 11 = .ok (.invokestatic 100, 3) := by decide +kernel
theorem dX12_join_14 : decode cX12_join 14 = .ok (.ifCond .ne 5, 3) := by decide +kernel
theorem dX12_join_17 : decode cX12_join 17 = .ok (.iconst (-1), 1) := by decide +kernel
theorem dX12_join_18 : decode cX12_join 18 = .ok (.ireturn, 1) := by decide +kernel
theorem dX12_join_19 : decode cX12_join 19 = .ok (.aload_n 0, 1) := by decide +kernel
theorem dX12_join_20 : decode cX12_join 20 = .ok (.getfield 7, 3) := by decide +kernel
theorem dX12_join_23 : decode cX12_join 23 = .ok (.bipush 6, 2) := by decide +kernel
theorem dX12_join_25 : decode cX12_join 25 = .ok (.iaload, 1) := by decide +kernel
theorem dX12_join_26 : decode cX12_join 26 = .ok (.istore_n 2, 1) := by decide +kernel
theorem dX12_join_27 : decode cX12_join 27 = .ok (.aload_n 0, 1) := by decide +kernel
theorem dX12_join_28 : decode cX12_join 28 = .ok (.getfield 7, 3) := by decide +kernel
theorem dX12_join_31 : decode cX12_join 31 = .ok (.iconst 5, 1) := by decide +kernel
theorem dX12_join_32 : decode cX12_join 32 = .ok (.iaload, 1) := by decide +kernel
theorem dX12_join_33 : decode cX12_join 33 = .ok (.iconst 1, 1) := by decide +kernel
theorem dX12_join_34 : decode cX12_join 34 = .ok (.iadd, 1) := by decide +kernel
theorem dX12_join_35 : decode cX12_join 35 = .ok (.istore_n 3, 1) := by decide +kernel
theorem dX12_join_36 : decode cX12_join 36 = .ok (.iconst 1, 1) := by decide +kernel
theorem dX12_join_37 : decode cX12_join 37 = .ok (.istore 4, 2) := by decide +kernel
theorem dX12_join_39 : decode cX12_join 39 = .ok (.iconst 0, 1) := by decide +kernel
theorem dX12_join_40 : decode cX12_join 40 = .ok (.istore 5, 2) := by decide +kernel
theorem dX12_join_42 : decode cX12_join 42 = .ok (.iload 5, 2) := by decide +kernel
theorem dX12_join_44 : decode cX12_join 44 = .ok (.iload_n 2, 1) := by decide +kernel
theorem dX12_join_45 : decode cX12_join 45 = .ok (.if_icmp .ge 15, 3) := by decide +kernel
theorem dX12_join_48 : decode cX12_join 48 = .ok (.iload 4, 2) := by decide +kernel
theorem dX12_join_50 : decode cX12_join 50 = .ok (.iload_n 3, 1) := by decide +kernel
theorem dX12_join_51 : decode cX12_join 51 = .ok (.imul, 1) := by decide +kernel
theorem dX12_join_52 : decode cX12_join 52 = .ok (.istore 4, 2) := by decide +kernel
theorem dX12_join_54 : decode cX12_join 54 = .ok (.iinc 5 1, 3) := by decide +kernel
theorem dX12_join_57 : decode cX12_join 57 = .ok (.goto (-15), 3) := by decide +kernel
theorem dX12_join_60 : decode cX12_join 60 = .ok (.iconst (-1), 1) := by decide +kernel
theorem dX12_join_61 : decode cX12_join 61 = .ok (.istore 5, 2) := by decide +kernel
theorem dX12_join_63 : decode cX12_join 63 = .ok (.iconst 0, 1) := by decide +kernel
theorem dX12_join_64 : decode cX12_join 64 = .ok (.istore 6, 2) := by decide +kernel
theorem dX12_join_66 : decode cX12_join 66 = .ok (.iconst 0, 1) := by decide +kernel
theorem dX12_join_67 : decode cX12_join 67 = .ok (.istore 7, 2) := by decide +kernel
theorem dX12_join_69 : decode cX12_join 69 = .ok (.iload 7, 2) := by decide +kernel
theorem dX12_join_71 : decode cX12_join 71 = .ok (.iload 4, 2) := by decide +kernel
theorem dX12_join_73 : decode cX12_join 73 = .ok (.if_icmp .ge 173, 3) := by decide +kernel
theorem dX12_join_76 : decode cX12_join 76 = .ok (.iload 7, 2) := by decide +kernel
theorem dX12_join_78 : decode cX12_join 78 = .ok (.istore 8, 2) := by decide +kernel
theorem dX12_join_80 : decode cX12_join 80 = .ok (.iload_n 2, 1) := by decide +kernel
theorem dX12_join_81 : decode cX12_join 81 = .ok (.iconst 1, 1) := by decide +kernel
theorem dX12_join_82 : decode cX12_join 82 = .ok (.isub, 1) := by decide +kernel
theorem dX12_join_83 : decode cX12_join 83 = .ok (.istore 9, 2) := by decide +kernel
theorem dX12_join_85 : decode cX12_join 85 = .ok (.iload 9, 2) := by decide +kernel
theorem dX12_join_87 : decode cX12_join 87 = .ok (.ifCond .lt 40, 3) := by decide +kernel
theorem dX12_join_90 : decode cX12_join 90 = .ok (.aload_n 0, 1) := by decide +kernel
theorem dX12_join_91 : decode cX12_join 91 = .ok (.getfield 77, 3) := by decide +kernel
theorem dX12_join_94 : decode cX12_join 94 = .ok (.iload 9, 2) := by decide +kernel
theorem dX12_join_96 : decode cX12_join 96 = .ok (.iload 8, 2) := by decide +kernel
theorem dX12_join_98 : decode cX12_join 98 = .ok (.iload_n 3, 1) := by decide +kernel
theorem dX12_join_99 : decode cX12_join 99 = .ok (.irem, 1) := by decide +kernel
theorem dX12_join_100 : decode cX12_join 100 = .ok (.iload_n 3, 1) := by decide +kernel
theorem dX12_join_101 : decode cX12_join 101 = .ok (.iconst 1, 1) := by decide +kernel
theorem dX12_join_102 : decode cX12_join 102 = .ok (.isub, 1) := by decide +kernel
theorem dX12_join_103 : decode cX12_join 103 = .ok (.if_icmp .ne 7, 3) := by decide +kernel
theorem dX12_join_106 : decode cX12_join 106 = .ok (.iconst (-1), 1) := by decide +kernel
theorem dX12_join_107 : decode cX12_join 107 = .ok (.goto 7, 3) := by decide +kernel
theorem dX12_join_110 : decode cX12_join 110 = .ok (.iload 8, 2) := by decide +kernel
theorem dX12_join_112 : decode cX12_join 112 = .ok (.iload_n 3, 1) := by decide +kernel
theorem dX12_join_113 : decode cX12_join 113 = .ok (.irem, 1) := by decide +kernel
theorem dX12_join_114 : decode cX12_join 114 = .ok (.iastore, 1) := by decide +kernel
theorem dX12_join_115 : decode cX12_join 115 = .ok (.iload 8, 2) := by decide +kernel
theorem dX12_join_117 : decode cX12_join 117 = .ok (.iload_n 3, 1) := by decide +kernel
theorem dX12_join_118 : decode cX12_join 118 = .ok (.idiv, 1) := by decide +kernel
theorem dX12_join_119 : decode cX12_join 119 = .ok (.istore 8, 2) := by decide +kernel
theorem dX12_join_121 : decode cX12_join 121 = .ok (.iinc 9 (-1), 3) := by decide +kernel
theorem dX12_join_124 : decode cX12_join 124 = .ok (.goto (-39), 3) := by decide +kernel
theorem dX12_join_127 : decode cX12_join 127 = .ok (.aload_n 0, 1) := by decide +kernel
theorem dX12_join_128 : decode cX12_join 128 = .ok (.iload_n 1, 1) := by decide +kernel
theorem dX12_join_129 : decode cX12_join 129 = .ok (.invokevirtual 509, 3) := by decide +kernel
theorem dX12_join_132 : decode cX12_join 132 = .ok (.ifCond .eq 108, 3) := by decide +kernel
theorem dX12_join_135 : decode cX12_join 135 = .ok (.aload_n 0, 1) := by decide +kernel
theorem dX12_join_136 : decode cX12_join 136 = .ok (.getfield 498, 3) := by decide +kernel
theorem dX12_join_139 : decode cX12_join 139 = .ok (.iload 5, 2) := by decide +kernel
theorem dX12_join_141 : decode cX12_join 141 = .ok (.if_icmp .gt 21, 3) := by decide +kernel
theorem dX12_join_144 : decode cX12_join 144 = .ok (.aload_n 0, 1) := by decide +kernel
theorem dX12_join_145 : decode cX12_join 145 = .ok (.getfield 498, 3) := by decide +kernel
theorem dX12_join_148 : decode cX12_join 148 = .ok (.iload 5, 2) := by decide +kernel
theorem dX12_join_150 : decode cX12_join 150 = .ok (.if_icmp .ne 58, 3) := by decide +kernel
theorem dX12_join_153 : decode cX12_join 153 = .ok (.aload_n 0, 1) := by decide +kernel
theorem dX12_join_154 : decode cX12_join 154 = .ok (.getfield 501, 3) := by decide +kernel
theorem dX12_join_157 : decode cX12_join 157 = .ok (.iload 6, 2) := by decide +kernel
theorem dX12_join_159 : decode cX12_join 159 = .ok (.if_icmp .le 49, 3) := by decide +kernel
theorem dX12_join_162 : decode cX12_join 162 = .ok (.aload_n 0, 1) := by decide +kernel
theorem dX12_join_163 : decode cX12_join 163 = .ok (.getfield 498, 3) := by decide +kernel
theorem dX12_join_166 : decode cX12_join 166 = .ok (.istore 5, 2) := by decide +kernel
theorem dX12_join_168 : decode cX12_join 168 = .ok (.aload_n 0, 1) := by decide +kernel
theorem dX12_join_169 : decode cX12_join 169 = .ok (.getfield 501, 3) := by decide +kernel
theorem dX12_join_172 : decode cX12_join 172 = .ok (.istore 6, 2) := by decide +kernel
theorem dX12_join_174 : decode cX12_join 174 = .ok (.aload_n 0, 1) := by decide +kernel
theorem dX12_join_175 : decode cX12_join 175 = .ok (.iconst 0, 1) := by decide +kernel
theorem dX12_join_176 : decode cX12_join 176 = .ok (.putfield 512, 3) := by decide +kernel
theorem dX12_join_179 : decode cX12_join 179 = .ok (.iconst 0, 1) := by decide +kernel
theorem dX12_join_180 : decode cX12_join 180 = .ok (.istore 9, 2) := by decide +kernel
theorem dX12_join_182 : decode cX12_join 182 = .ok (.iload 9, 2) := by decide +kernel
theorem dX12_join_184 : decode cX12_join 184 = .ok (.iload_n 2, 1) := by decide +kernel
theorem dX12_join_185 : decode cX12_join 185 = .ok (.if_icmp .ge 23, 3) := by decide +kernel
theorem dX12_join_188 : decode cX12_join 188 = .ok (.aload_n 0, 1) := by decide +kernel
theorem dX12_join_189 : decode cX12_join 189 = .ok (.getfield 74, 3) := by decide +kernel
theorem dX12_join_192 : decode cX12_join 192 = .ok (.iload 9, 2) := by decide +kernel
theorem dX12_join_194 : decode cX12_join 194 = .ok (.aload_n 0, 1) := by decide +kernel
theorem dX12_join_195 : decode cX12_join 195 = .ok (.getfield 77, 3) := by decide +kernel
theorem dX12_join_198 : decode cX12_join 198 = .ok (.iload 9, 2) := by decide +kernel
theorem dX12_join_200 : decode cX12_join 200 = .ok (.iaload, 1) := by decide +kernel
theorem dX12_join_201 : decode cX12_join 201 = .ok (.iastore, 1) := by decide +kernel
theorem dX12_join_202 : decode cX12_join 202 = .ok (.iinc 9 1, 3) := by decide +kernel
theorem dX12_join_205 : decode cX12_join 205 = .ok (.goto (-23), 3) := by decide +kernel
theorem dX12_join_208 : decode cX12_join 208 = .ok (.aload_n 0, 1) := by decide +kernel
theorem dX12_join_209 : decode cX12_join 209 = .ok (.dup, 1) := by decide +kernel
theorem dX12_join_210 : decode cX12_join 210 = .ok (.getfield 512, 3) := by decide +kernel
theorem dX12_join_213 : decode cX12_join 213 = .ok (.aload_n 0, 1) := by decide +kernel
theorem dX12_join_214 : decode cX12_join 214 = .ok (.getfield 498, 3) := by decide +kernel
theorem dX12_join_217 : decode cX12_join 217 = .ok (.iload 5, 2) := by decide +kernel
theorem dX12_join_219 : decode cX12_join 219 = .ok (.if_icmp .ne 16, 3) := by decide +kernel
theorem dX12_join_222 : decode cX12_join 222 = .ok (.aload_n 0, 1) := by decide +kernel
theorem dX12_join_223 : decode cX12_join 223 = .ok (.getfield 501, 3) := by decide +kernel
theorem dX12_join_226 : decode cX12_join 226 = .ok (.iload 6, 2) := by decide +kernel
theorem dX12_join_228 : decode cX12_join 228 = .ok (.if_icmp .ne 7, 3) := by decide +kernel
theorem dX12_join_231 : decode cX12_join 231 = .ok (.iconst 1, 1) := by decide +kernel
theorem dX12_join_232 : decode cX12_join 232 = .ok (.goto 4, 3) := by decide +kernel
theorem dX12_join_235 : decode cX12_join 235 = .ok (.iconst 0, 1) := by decide +kernel
theorem dX12_join_236 : decode cX12_join 236 = .ok (.iadd, 1) := by decide +kernel
theorem dX12_join_237 : decode cX12_join 237 = .ok (.putfield 512, 3) := by decide +kernel
theorem dX12_join_240 : decode cX12_join 240 = .ok (.iinc 7 1, 3) := by decide +kernel
theorem dX12_join_243 : decode cX12_join 243 = .ok (.goto (-174), 3) := by decide +kernel
theorem dX12_join_246 : decode cX12_join 246 = .ok (.aload_n 0, 1) := by decide +kernel
theorem dX12_join_247 : decode cX12_join 247 = .ok (.iconst 1, 1) := by decide +kernel
theorem dX12_join_248 : decode cX12_join 248 = .ok (.putfield 515, 3) := by decide +kernel
theorem dX12_join_251 : decode cX12_join 251 = .ok (.aload_n 0, 1) := by decide +kernel
theorem dX12_join_252 : decode cX12_join 252 = .ok (.iload_n 2, 1) := by decide +kernel
theorem dX12_join_253 : decode cX12_join 253 = .ok (.putfield 518, 3) := by decide +kernel
theorem dX12_join_256 : decode cX12_join 256 = .ok (.iload 5, 2) := by decide +kernel
theorem dX12_join_258 : decode cX12_join 258 = .ok (.ireturn, 1) := by decide +kernel
theorem dX12_joined_0 : decode cX12_joined 0 = .ok (.aload_n 0, 1) := by decide +kernel
theorem dX12_joined_1 : decode cX12_joined 1 = .ok (.iconst 0, 1) := by decide +kernel
theorem dX12_joined_2 : decode cX12_joined 2 = .ok (.putfield 92, 3) := by decide +kernel
theorem dX12_joined_5 : decode cX12_joined 5 = .ok (.aload_n 0, 1) := by decide +kernel
theorem dX12_joined_6 : decode cX12_joined 6 = .ok (.getfield 515, 3) := by decide +kernel
theorem dX12_joined_9 : decode cX12_joined 9 = .ok (.ifCond .ne 7, 3) := by decide +kernel
theorem dX12_joined_12 : decode cX12_joined 12 = .ok (.iconst (-1), 1) := by decide +kernel
theorem dX12_joined_13 : decode cX12_joined 13 = .ok (.goto 41, 3) := by decide +kernel
theorem dX12_joined_16 : decode cX12_joined 16 = .ok (.iload_n 1, 1) := by decide +kernel
theorem dX12_joined_17 : decode cX12_joined 17 = .ok (.iconst (-1), 1) := by decide +kernel
theorem dX12_joined_18 : decode cX12_joined 18 = .ok (.if_icmp .ne 10, 3) := by decide +kernel
theorem dX12_joined_21 : decode cX12_joined 21 = .ok (.aload_n 0, 1) := by decide +kernel
theorem dX12_joined_22 : decode cX12_joined 22 = .ok (.getfield 512, 3) := by decide +kernel
theorem dX12_joined_25 : decode cX12_joined 25 = .ok (.goto 29, 3) := by decide +kernel
theorem dX12_joined_28 : decode cX12_joined 28 = .ok (.iload_n 1, 1) := by decide +kernel
theorem dX12_joined_29 : decode cX12_joined 29 = .ok (.i2l, 1) := by decide +kernel
theorem dX12_joined_30 : decode cX12_joined 30 = .ok (.lconst 0, 1) := by decide +kernel
theorem dX12_joined_31 : decode cX12_joined 31 = .ok (.aload_n 0, 1) := by decide +kernel
theorem dX12_joined_32 : decode cX12_joined 32 = .ok (.getfield 518, 3) := by decide +kernel
theorem dX12_joined_35 : decode cX12_joined 35 = .ok (.i2l, 1) := by decide +kernel
theorem dX12_joined_36 : decode cX12_joined 36 = .ok (.lconst 1, 1) := by decide +kernel
theorem dX12_joined_37 : decode cX12_joined 37 = .ok (.lsub, 1) := by decide +kernel
theorem dX12_joined_38 : decode cX12_joined 38 = .ok (.invokestatic 100, 3) := by decide +kernel
theorem dX12_joined_41 : decode cX12_joined 41 = .ok (.ifCond .eq 12, 3) := by decide +kernel
theorem dX12_joined_44 : decode cX12_joined 44 = .ok (.aload_n 0, 1) := by decide +kernel
theorem dX12_joined_45 : decode cX12_joined 45 = .ok (.getfield 74, 3) := by decide +kernel
theorem dX12_joined_48 : decode cX12_joined 48 = .ok (.iload_n 1, 1) := by decide +kernel
theorem dX12_joined_49 : decode cX12_joined 49 = .ok (.iaload, 1) := by decide +kernel
theorem dX12_joined_50 : decode cX12_joined 50 = .ok (.goto 4, 3) := by decide +kernel
theorem dX12_joined_53 : decode cX12_joined 53 = .ok (.iconst (-1), 1) := by decide +kernel
theorem dX12_joined_54 : decode cX12_joined 54 = .ok (.ireturn, 1) := by decide +kernel
theorem dX12_judge_0 : decode cX12_judge 0 = .ok (.aload_n 0, 1) := by decide +kernel
theorem dX12_judge_1 : decode cX12_judge 1 = .ok (.iconst 0, 1) := by decide +kernel
theorem dX12_judge_2 : decode cX12_judge 2 = .ok (.putfield 92, 3) := by decide +kernel
theorem dX12_judge_5 : decode cX12_judge 5 = .ok (.iconst 1, 1) := by decide +kernel
theorem dX12_judge_6 : decode cX12_judge 6 = .ok (.istore_n 3, 1) := by decide +kernel
theorem dX12_judge_7 : decode cX12_judge 7 = .ok (.iconst 0, 1) := by decide +kernel
theorem dX12_judge_8 : decode cX12_judge 8 = .ok (.istore 4, 2) := by decide +kernel
theorem dX12_judge_10 : decode cX12_judge 10 = .ok (.iload 4, 2) := by decide +kernel
theorem dX12_judge_12 : decode cX12_judge 12 = .ok (.aload_n 0, 1) := by decide +kernel
theorem dX12_judge_13 : decode cX12_judge 13 = .ok (.getfield 7, 3) := by decide +kernel
theorem dX12_judge_16 : decode cX12_judge 16 = .ok (.bipush 6, 2) := by decide +kernel
theorem dX12_judge_18 : decode cX12_judge 18 = .ok (.iaload, 1) := by decide +kernel
theorem dX12_judge_19 : decode cX12_judge 19 = .ok (.if_icmp .ge 14, 3) := by decide +kernel
theorem dX12_judge_22 : decode cX12_judge 22 = .ok (.iload_n 3, 1) := by decide +kernel
theorem dX12_judge_23 : decode cX12_judge 23 = .ok (.bipush 7, 2) := by decide +kernel
theorem dX12_judge_25 : decode cX12_judge 25 = .ok (.imul, 1) := by decide +kernel
theorem dX12_judge_26 : decode cX12_judge 26 = .ok (.istore_n 3, 1) := by decide +kernel
theorem dX12_judge_27 : decode cX12_judge 27 = .ok (.iinc 4 1, 3) := by decide +kernel
theorem dX12_judge_30 : decode cX12_judge 30 = .ok (.goto (-20), 3) := by decide +kernel
theorem dX12_judge_33 : decode cX12_judge 33 = .ok (.iload_n 1, 1) := by decide +kernel
theorem dX12_judge_34 : decode cX12_judge 34 = .ok (.i2l, 1) := by decide +kernel
theorem dX12_judge_35 : decode cX12_judge 35 = .ok (.lconst 0, 1) := by decide +kernel
theorem dX12_judge_36 : decode cX12_judge 36 = .ok (.iload_n 3, 1) := by decide +kernel
theorem dX12_judge_37 : decode cX12_judge 37 = .ok (.i2l, 1) := by decide +kernel
theorem dX12_judge_38 : decode cX12_judge 38 = .ok (.lconst 1, 1) := by decide +kernel
theorem dX12_judge_39 : decode cX12_judge 39 = .ok (.lsub, 1) := by decide +kernel
theorem dX12_judge_40 : decode cX12_judge 40 = .ok (.invokestatic 100, 3) := by decide +kernel
theorem dX12_judge_43 : decode cX12_judge 43 = .ok (.ifCond .eq 15, 3) := by decide +kernel
theorem dX12_judge_46 : decode cX12_judge 46 = .ok (.iload_n 2, 1) := by decide +kernel
theorem dX12_judge_47 : decode cX12_judge 47 = .ok (.i2l, 1) := by decide +kernel
theorem dX12_judge_48 : decode cX12_judge 48 = .ok (.lconst 0, 1) := by decide +kernel
theorem dX12_judge_49 : decode cX12_judge 49 = .ok (.ldc2_w 507, 3) := by decide +kernel
theorem dX12_judge_52 : decode cX12_judge 52 = .ok (.invokestatic 100, 3) := by decide +kernel
theorem dX12_judge_55 : decode cX12_judge 55 = .ok (.ifCond .ne 5, 3) := by decide +kernel
theorem dX12_judge_58 : decode cX12_judge 58 = .ok (.iconst (-1), 1) := by decide +kernel
theorem dX12_judge_59 : decode cX12_judge 59 = .ok (.ireturn, 1) := by decide +kernel
theorem dX12_judge_60 : decode cX12_judge 60 = .ok (.iload_n 1, 1) := by decide +kernel
theorem dX12_judge_61 : decode cX12_judge 61 = .ok (.istore 4, 2) := by decide +kernel
theorem dX12_judge_63 : decode cX12_judge 63 = .ok (.iconst 0, 1) := by decide +kernel
theorem dX12_judge_64 : decode cX12_judge 64 = .ok (.istore 5, 2) := by decide +kernel
theorem dX12_judge_66 : decode cX12_judge 66 = .ok (.iload 5, 2) := by decide +kernel
theorem dX12_judge_68 : decode cX12_judge 68 = .ok (.aload_n 0, 1) := by decide +kernel
theorem dX12_judge_69 : decode cX12_judge 69 = .ok (.getfield 7, 3) := by decide +kernel
theorem dX12_judge_72 : decode cX12_judge 72 = .ok (.bipush 6, 2) := by decide +kernel
theorem dX12_judge_74 : decode cX12_judge 74 = .ok (.iaload, 1) := by decide +kernel
theorem dX12_judge_75 : decode cX12_judge 75 = .ok (.if_icmp .ge 30, 3) := by decide +kernel
theorem dX12_judge_78 : decode cX12_judge 78 = .ok (.aload_n 0, 1) := by decide +kernel
theorem dX12_judge_79 : decode cX12_judge 79 = .ok (.getfield 77, 3) := by decide +kernel
theorem dX12_judge_82 : decode cX12_judge 82 = .ok (.iload 5, 2) := by decide +kernel
theorem dX12_judge_84 : decode cX12_judge 84 = .ok (.iload 4, 2) := by decide +kernel
theorem dX12_judge_86 : decode cX12_judge 86 = .ok (.bipush 7, 2) := by decide +kernel
theorem dX12_judge_88 : decode cX12_judge 88 = .ok (.irem, 1) := by decide +kernel
theorem dX12_judge_89 : decode cX12_judge 89 = .ok (.iconst 1, 1) := by decide +kernel
theorem dX12_judge_90 : decode cX12_judge 90 = .ok (.isub, 1) := by decide +kernel
theorem dX12_judge_91 : decode cX12_judge 91 = .ok (.iastore, 1) := by decide +kernel
theorem dX12_judge_92 : decode cX12_judge 92 = .ok (.iload 4, 2) := by decide +kernel
theorem dX12_judge_94 : decode cX12_judge 94 = .ok (.bipush 7, 2) := by decide +kernel
theorem dX12_judge_96 : decode cX12_judge 96 = .ok (.idiv, 1) := by decide +kernel
theorem dX12_judge_97 : decode cX12_judge 97 = .ok (.istore 4, 2) := by decide +kernel
theorem dX12_judge_99 : decode cX12_judge 99 = .ok (.iinc 5 1, 3) := by decide +kernel
theorem dX12_judge_102 : decode cX12_judge 102 = .ok (.goto (-36), 3) := by decide +kernel
theorem dX12_judge_105 : decode cX12_judge 105 = .ok (.aload_n 0, 1) := by decide +kernel
theorem dX12_judge_106 : decode cX12_judge 106 = .ok (.iload_n 2, 1) := by decide +kernel
theorem dX12_judge_107 : decode cX12_judge 107 = .ok (.invokevirtual 509, 3) := by decide +kernel
theorem dX12_judge_110 : decode cX12_judge 110 = .ok (.ifCond .eq 10, 3) := by decide +kernel
theorem dX12_judge_113 : decode cX12_judge 113 = .ok (.aload_n 0, 1) := by decide +kernel
theorem dX12_judge_114 : decode cX12_judge 114 = .ok (.getfield 498, 3) := by decide +kernel
theorem dX12_judge_117 : decode cX12_judge 117 = .ok (.goto 4, 3) := by decide +kernel
theorem dX12_judge_120 : decode cX12_judge 120 = .ok (.iconst (-1), 1) := by decide +kernel
theorem dX12_judge_121 : decode cX12_judge 121 = .ok (.ireturn, 1) := by decide +kernel
theorem dX12_knowBy_0 : decode cX12_knowBy 0 = .ok (.aload_n 0, 1) := by decide +kernel
theorem dX12_knowBy_1 : decode cX12_knowBy 1 = .ok (.iload_n 1, 1) := by decide +kernel
theorem dX12_knowBy_2 : decode cX12_knowBy 2 = .ok (.putfield 161, 3) := by decide +kernel
theorem dX12_knowBy_5 : decode cX12_knowBy 5 = .ok (.iconst 0, 1) := by decide +kernel
theorem dX12_knowBy_6 : decode cX12_knowBy 6 = .ok (.istore_n 2, 1) := by decide +kernel
theorem dX12_knowBy_7 : decode cX12_knowBy 7 = .ok (.iload_n 2, 1) := by decide +kernel
theorem dX12_knowBy_8 : decode cX12_knowBy 8 = .ok (.aload_n 0, 1) := by decide +kernel
theorem dX12_knowBy_9 : decode cX12_knowBy 9 = .ok (.getfield 7, 3) := by decide +kernel
theorem dX12_knowBy_12 : decode cX12_knowBy 12 = .ok (.iconst 3, 1) := by decide +kernel
theorem dX12_knowBy_13 : decode cX12_knowBy 13 = .ok (.iaload, 1) := by decide +kernel
theorem dX12_knowBy_14 : decode cX12_knowBy 14 = .ok (.if_icmp .ge 229, 3) := by decide +kernel
theorem dX12_knowBy_17 : decode cX12_knowBy 17 = .ok (.iload_n 2, 1) := by decide +kernel
theorem dX12_knowBy_18 : decode cX12_knowBy 18 = .ok (.invokestatic 155, 3) := by decide +kernel
theorem dX12_knowBy_21 : decode cX12_knowBy 21 = .ok (.istore_n 3, 1) := by decide +kernel
theorem dX12_knowBy_22 : decode cX12_knowBy 22 = .ok (.aload_n 0, 1) := by decide +kernel
theorem dX12_knowBy_23 : decode cX12_knowBy 23 = .ok (.getfield 21, 3) := by decide +kernel
theorem dX12_knowBy_26 : decode cX12_knowBy 26 = .ok (.iload_n 2, 1) := by decide +kernel
theorem dX12_knowBy_27 : decode cX12_knowBy 27 = .ok (.aload_n 0, 1) := by decide +kernel
theorem dX12_knowBy_28 : decode cX12_knowBy 28 = .ok (.getfield 7, 3) := by decide +kernel
theorem dX12_knowBy_31 : decode cX12_knowBy 31 = .ok (.iload_n 3, 1) := by decide +kernel
theorem dX12_knowBy_32 : decode cX12_knowBy 32 = .ok (.iconst 4, 1) := by decide +kernel
theorem dX12_knowBy_33 : decode cX12_knowBy 33 = .ok (.iadd, 1) := by decide +kernel
theorem dX12_knowBy_34 : decode cX12_knowBy 34 = .ok (.iaload, 1) := by decide +kernel
theorem dX12_knowBy_35 : decode cX12_knowBy 35 = .ok (.aload_n 0, 1) := by decide +kernel
theorem dX12_knowBy_36 : decode cX12_knowBy 36 = .ok (.getfield 161, 3) := by decide +kernel
theorem dX12_knowBy_39 : decode cX12_knowBy 39 = .ok (.if_icmp .gt 7, 3) := by decide +kernel
theorem dX12_knowBy_42 : decode cX12_knowBy 42 = .ok (.iconst 1, 1) := by decide +kernel
theorem dX12_knowBy_43 : decode cX12_knowBy 43 = .ok (.goto 4, 3) := by decide +kernel
theorem dX12_knowBy_46 : decode cX12_knowBy 46 = .ok (.iconst 0, 1) := by decide +kernel
theorem dX12_knowBy_47 : decode cX12_knowBy 47 = .ok (.bastore, 1) := by decide +kernel
theorem dX12_knowBy_48 : decode cX12_knowBy 48 = .ok (.iload_n 2, 1) := by decide +kernel
theorem dX12_knowBy_49 : decode cX12_knowBy 49 = .ok (.iconst 1, 1) := by decide +kernel
theorem dX12_knowBy_50 : decode cX12_knowBy 50 = .ok (.iadd, 1) := by decide +kernel
theorem dX12_knowBy_51 : decode cX12_knowBy 51 = .ok (.istore 4, 2) := by decide +kernel
theorem dX12_knowBy_53 : decode cX12_knowBy 53 = .ok (.iload 4, 2) := by decide +kernel
theorem dX12_knowBy_55 : decode cX12_knowBy 55 = .ok (.aload_n 0, 1) := by decide +kernel
theorem dX12_knowBy_56 : decode cX12_knowBy 56 = .ok (.getfield 7, 3) := by decide +kernel
theorem dX12_knowBy_59 : decode cX12_knowBy 59 = .ok (.iconst 3, 1) := by decide +kernel
theorem dX12_knowBy_60 : decode cX12_knowBy 60 = .ok (.iaload, 1) := by decide +kernel
theorem dX12_knowBy_61 : decode cX12_knowBy 61 = .ok (.if_icmp .ge 120, 3) := by decide +kernel
theorem dX12_knowBy_64 : decode cX12_knowBy 64 = .ok (.aload_n 0, 1) := by decide +kernel
theorem dX12_knowBy_65 : decode cX12_knowBy 65 = .ok (.getfield 21, 3) := by decide +kernel
theorem dX12_knowBy_68 : decode cX12_knowBy 68 = .ok (.iload_n 2, 1) := by decide +kernel
theorem dX12_knowBy_69 : decode cX12_knowBy 69 = .ok (.baload, 1) := by decide +kernel
theorem dX12_knowBy_70 : decode cX12_knowBy 70 = .ok (.ifCond .eq 111, 3) := by decide +kernel
theorem dX12_knowBy_73 : decode cX12_knowBy 73 = .ok (.iload 4, 2) := by decide +kernel
theorem dX12_knowBy_75 : decode cX12_knowBy 75 = .ok (.invokestatic 155, 3) := by decide +kernel
theorem dX12_knowBy_78 : decode cX12_knowBy 78 = .ok (.istore 5, 2) := by decide +kernel
theorem dX12_knowBy_80 : decode cX12_knowBy 80 = .ok (.aload_n 0, 1) := by decide +kernel
theorem dX12_knowBy_81 : decode cX12_knowBy 81 = .ok (.getfield 7, 3) := by decide +kernel
theorem dX12_knowBy_84 : decode cX12_knowBy 84 = .ok (.iload_n 3, 1) := by decide +kernel
theorem dX12_knowBy_85 : decode cX12_knowBy 85 = .ok (.iaload, 1) := by decide +kernel
theorem dX12_knowBy_86 : decode cX12_knowBy 86 = .ok (.aload_n 0, 1) := by decide +kernel
theorem dX12_knowBy_87 : decode cX12_knowBy 87 = .ok (.getfield 7, 3) := by decide +kernel
theorem dX12_knowBy_90 : decode cX12_knowBy 90 = .ok (.iload 5, 2) := by decide +kernel
theorem dX12_knowBy_92 : decode cX12_knowBy 92 = .ok (.iaload, 1) := by decide +kernel
theorem dX12_knowBy_93 : decode cX12_knowBy 93 = .ok (.if_icmp .ne 47, 3) := by decide +kernel
theorem dX12_knowBy_96 : decode cX12_knowBy 96 = .ok (.aload_n 0, 1) := by decide +kernel
theorem dX12_knowBy_97 : decode cX12_knowBy 97 = .ok (.getfield 7, 3) := by decide +kernel
theorem dX12_knowBy_100 : decode cX12_knowBy 100 = .ok (.iload_n 3, 1) := by decide +kernel
theorem dX12_knowBy_101 : decode cX12_knowBy 101 = .ok (.iconst 1, 1) := by decide +kernel
theorem dX12_knowBy_102 : decode cX12_knowBy 102 = .ok (.iadd, 1) := by decide +kernel
theorem dX12_knowBy_103 : decode cX12_knowBy 103 = .ok (.iaload, 1) := by decide +kernel
theorem dX12_knowBy_104 : decode cX12_knowBy 104 = .ok (.aload_n 0, 1) := by decide +kernel
theorem dX12_knowBy_105 : decode cX12_knowBy 105 = .ok (.getfield 7, 3) := by decide +kernel
theorem dX12_knowBy_108 : decode cX12_knowBy 108 = .ok (.iload 5, 2) := by decide +kernel
theorem dX12_knowBy_110 : decode cX12_knowBy 110 = .ok (.iconst 1, 1) := by decide +kernel
theorem dX12_knowBy_111 : decode cX12_knowBy 111 = .ok (.iadd, 1) := by decide +kernel
theorem dX12_knowBy_112 : decode cX12_knowBy 112 = .ok (.iaload, 1) := by decide +kernel
theorem dX12_knowBy_113 : decode cX12_knowBy 113 = .ok (.if_icmp .ne 27, 3) := by decide +kernel
theorem dX12_knowBy_116 : decode cX12_knowBy 116 = .ok (.aload_n 0, 1) := by decide +kernel
theorem dX12_knowBy_117 : decode cX12_knowBy 117 = .ok (.getfield 7, 3) := by decide +kernel
theorem dX12_knowBy_120 : decode cX12_knowBy 120 = .ok (.iload_n 3, 1) := by decide +kernel
theorem dX12_knowBy_121 : decode cX12_knowBy 121 = .ok (.iconst 2, 1) := by decide +kernel
theorem dX12_knowBy_122 : decode cX12_knowBy 122 = .ok (.iadd, 1) := by decide +kernel
theorem dX12_knowBy_123 : decode cX12_knowBy 123 = .ok (.iaload, 1) := by decide +kernel
theorem dX12_knowBy_124 : decode cX12_knowBy 124 = .ok (.aload_n 0, 1) := by decide +kernel
theorem dX12_knowBy_125 : decode cX12_knowBy 125 = .ok (.getfield 7, 3) := by decide +kernel
theorem dX12_knowBy_128 : decode cX12_knowBy 128 = .ok (.iload 5, 2) := by decide +kernel
theorem dX12_knowBy_130 : decode cX12_knowBy 130 = .ok (.iconst 2, 1) := by decide +kernel
theorem dX12_knowBy_131 : decode cX12_knowBy 131 = .ok (.iadd, 1) := by decide +kernel
theorem dX12_knowBy_132 : decode cX12_knowBy 132 = .ok (.iaload, 1) := by decide +kernel
theorem dX12_knowBy_133 : decode cX12_knowBy 133 = .ok (.if_icmp .ne 7, 3) := by decide +kernel
theorem dX12_knowBy_136 : decode cX12_knowBy 136 = .ok (.iconst 1, 1) := by decide +kernel
theorem dX12_knowBy_137 : decode cX12_knowBy 137 = .ok (.goto 4, 3) := by decide +kernel
theorem dX12_knowBy_140 : decode cX12_knowBy 140 = .ok (.iconst 0, 1) := by decide +kernel
theorem dX12_knowBy_141 : decode cX12_knowBy 141 = .ok (.istore 6, 2) := by decide +kernel
theorem dX12_knowBy_143 : decode cX12_knowBy 143 = .ok (.aload_n 0, 1) := by decide +kernel
theorem dX12_knowBy_144 : decode cX12_knowBy 144 = .ok (.getfield 21, 3) := by decide +kernel
theorem dX12_knowBy_147 : decode cX12_knowBy 147 = .ok (.iload_n 2, 1) := by decide +kernel
theorem dX12_knowBy_148 : decode cX12_knowBy 148 = .ok (.iload 6, 2) := by decide +kernel
theorem dX12_knowBy_150 : decode cX12_knowBy 150 = .ok (.ifCond .eq 19, 3) := by decide +kernel
theorem dX12_knowBy_153 : decode cX12_knowBy 153 = .ok (.aload_n 0, 1) := by decide +kernel
theorem dX12_knowBy_154 : decode cX12_knowBy 154 = .ok (.getfield 7, 3) := by decide +kernel
theorem dX12_knowBy_157 : decode cX12_knowBy 157 = .ok (.iload 5, 2) := by decide +kernel
theorem dX12_knowBy_159 : decode cX12_knowBy 159 = .ok (.iconst 4, 1) := by decide +kernel
theorem dX12_knowBy_160 : decode cX12_knowBy 160 = .ok (.iadd, 1) := by decide +kernel
theorem dX12_knowBy_161 : decode cX12_knowBy 161 = .ok (.iaload, 1) := by decide +kernel
theorem dX12_knowBy_162 : decode cX12_knowBy 162 = .ok (.aload_n 0, 1) := by decide +kernel
theorem dX12_knowBy_163 : decode cX12_knowBy 163 = .ok (.getfield 161, 3) := by decide +kernel
theorem dX12_knowBy_166 : decode cX12_knowBy 166 = .ok (.if_icmp .le 7, 3) := by decide +kernel
theorem dX12_knowBy_169 : decode cX12_knowBy 169 = .ok (.iconst 1, 1) := by decide +kernel
theorem dX12_knowBy_170 : decode cX12_knowBy 170 = .ok (.goto 4, 3) := by decide +kernel
theorem dX12_knowBy_173 : decode cX12_knowBy 173 = .ok (.iconst 0, 1) := by decide +kernel
theorem dX12_knowBy_174 : decode cX12_knowBy 174 = .ok (.bastore, 1) := by decide +kernel
theorem dX12_knowBy_175 : decode cX12_knowBy 175 = .ok (.iinc 4 1, 3) := by decide +kernel
theorem dX12_knowBy_178 : decode cX12_knowBy 178 = .ok (.goto (-125), 3) := by decide +kernel
theorem dX12_knowBy_181 : decode cX12_knowBy 181 = .ok (.aload_n 0, 1) := by decide +kernel
theorem dX12_knowBy_182 : decode cX12_knowBy 182 = .ok (.getfield 24, 3) := by decide +kernel
theorem dX12_knowBy_185 : decode cX12_knowBy 185 = .ok (.iload_n 2, 1) := by decide +kernel
theorem dX12_knowBy_186 : decode cX12_knowBy 186 = .ok (.aload_n 0, 1) := by decide +kernel
theorem dX12_knowBy_187 : decode cX12_knowBy 187 = .ok (.getfield 7, 3) := by decide +kernel
theorem dX12_knowBy_190 : decode cX12_knowBy 190 = .ok (.iload_n 3, 1) := by decide +kernel
theorem dX12_knowBy_191 : decode cX12_knowBy 191 = .ok (.iconst 5, 1) := by decide +kernel
theorem dX12_knowBy_192 : decode cX12_knowBy 192 = .ok (.iadd, 1) := by decide +kernel
theorem dX12_knowBy_193 : decode cX12_knowBy 193 = .ok (.iaload, 1) := by decide +kernel
theorem dX12_knowBy_194 : decode cX12_knowBy 194 = .ok (.iconst (-1), 1) := by decide +kernel
theorem dX12_knowBy_195 : decode cX12_knowBy 195 = .ok (.if_icmp .eq 30, 3) := by decide +kernel
theorem dX12_knowBy_198 : decode cX12_knowBy 198 = .ok (.aload_n 0, 1) := by decide +kernel
theorem dX12_knowBy_199 : decode cX12_knowBy 199 = .ok (.getfield 7, 3) := by decide +kernel
theorem dX12_knowBy_202 : decode cX12_knowBy 202 = .ok (.iload_n 3, 1) := by decide +kernel
theorem dX12_knowBy_203 : decode cX12_knowBy 203 = .ok (.bipush 6, 2) := by decide +kernel
theorem dX12_knowBy_205 : decode cX12_knowBy 205 = .ok (.iadd, 1) := by decide +kernel
theorem dX12_knowBy_206 : decode cX12_knowBy 206 = .ok (.iaload, 1) := by decide +kernel
theorem dX12_knowBy_207 : decode cX12_knowBy 207 = .ok (.aload_n 0, 1) := by decide +kernel
theorem dX12_knowBy_208 : decode cX12_knowBy 208 = .ok (.getfield 161, 3) := by decide +kernel
theorem dX12_knowBy_211 : decode cX12_knowBy 211 = .ok (.if_icmp .gt 14, 3) := by decide +kernel
theorem dX12_knowBy_214 : decode cX12_knowBy 214 = .ok (.aload_n 0, 1) := by decide +kernel
theorem dX12_knowBy_215 : decode cX12_knowBy 215 = .ok (.getfield 7, 3) := by decide +kernel
theorem dX12_knowBy_218 : decode cX12_knowBy 218 = .ok (.iload_n 3, 1) := by decide +kernel
theorem dX12_knowBy_219 : decode cX12_knowBy 219 = .ok (.iconst 5, 1) := by decide +kernel
theorem dX12_knowBy_220 : decode cX12_knowBy 220 = .ok (.iadd, 1) := by decide +kernel
theorem dX12_knowBy_221 : decode cX12_knowBy 221 = .ok (.iaload, 1) := by decide +kernel
theorem dX12_knowBy_222 : decode cX12_knowBy 222 = .ok (.goto 14, 3) := by decide +kernel
theorem dX12_knowBy_225 : decode cX12_knowBy 225 = .ok (.aload_n 0, 1) := by decide +kernel
theorem dX12_knowBy_226 : decode cX12_knowBy 226 = .ok (.getfield 7, 3) := by decide +kernel
theorem dX12_knowBy_229 : decode cX12_knowBy 229 = .ok (.iload_n 3, 1) := by decide +kernel
theorem dX12_knowBy_230 : decode cX12_knowBy 230 = .ok (.iconst 3, 1) := by decide +kernel
theorem dX12_knowBy_231 : decode cX12_knowBy 231 = .ok (.iadd, 1) := by decide +kernel
theorem dX12_knowBy_232 : decode cX12_knowBy 232 = .ok (.iaload, 1) := by decide +kernel
theorem dX12_knowBy_233 : decode cX12_knowBy 233 = .ok (.bipush 26, 2) := by decide +kernel
theorem dX12_knowBy_235 : decode cX12_knowBy 235 = .ok (.irem, 1) := by decide +kernel
theorem dX12_knowBy_236 : decode cX12_knowBy 236 = .ok (.iastore, 1) := by decide +kernel
theorem dX12_knowBy_237 : decode cX12_knowBy 237 = .ok (.iinc 2 1, 3) := by decide +kernel
theorem dX12_knowBy_240 : decode cX12_knowBy 240 = .ok (.goto (-233), 3) := by decide +kernel
theorem dX12_knowBy_243 : decode cX12_knowBy 243 = .ok (.aload_n 0, 1) := by decide +kernel
theorem dX12_knowBy_244 : decode cX12_knowBy 244 = .ok (.invokevirtual 164, 3) := by decide +kernel
theorem dX12_knowBy_247 : decode cX12_knowBy 247 = .ok (.return_, 1) := by decide +kernel
theorem dX12_likeOf_0 : decode cX12_likeOf 0 = .ok (.aload_n 0, 1) := by decide +kernel
theorem dX12_likeOf_1 : decode cX12_likeOf 1 = .ok (.getfield 7, 3) := by decide +kernel
theorem dX12_likeOf_4 : decode cX12_likeOf 4 = .ok (.sipush 6986, 3) := by decide +kernel
theorem dX12_likeOf_7 : decode cX12_likeOf 7 = .ok (.iconst 2, 1) := by decide +kernel
theorem dX12_likeOf_8 : decode cX12_likeOf 8 = .ok (.iload_n 1, 1) := by decide +kernel
theorem dX12_likeOf_9 : decode cX12_likeOf 9 = .ok (.imul, 1) := by decide +kernel
theorem dX12_likeOf_10 : decode cX12_likeOf 10 = .ok (.iadd, 1) := by decide +kernel
theorem dX12_likeOf_11 : decode cX12_likeOf 11 = .ok (.iconst 1, 1) := by decide +kernel
theorem dX12_likeOf_12 : decode cX12_likeOf 12 = .ok (.iadd, 1) := by decide +kernel
theorem dX12_likeOf_13 : decode cX12_likeOf 13 = .ok (.iaload, 1) := by decide +kernel
theorem dX12_likeOf_14 : decode cX12_likeOf 14 = .ok (.istore_n 3, 1) := by decide +kernel
theorem dX12_likeOf_15 : decode cX12_likeOf 15 = .ok (.aload_n 0, 1) := by decide +kernel
theorem dX12_likeOf_16 : decode cX12_likeOf 16 = .ok (.getfield 7, 3) := by decide +kernel
theorem dX12_likeOf_19 : decode cX12_likeOf 19 = .ok (.sipush 6980, 3) := by decide +kernel
theorem dX12_likeOf_22 : decode cX12_likeOf 22 = .ok (.iload_n 2, 1) := by decide +kernel
theorem dX12_likeOf_23 : decode cX12_likeOf 23 = .ok (.iadd, 1) := by decide +kernel
theorem dX12_likeOf_24 : decode cX12_likeOf 24 = .ok (.iaload, 1) := by decide +kernel
theorem dX12_likeOf_25 : decode cX12_likeOf 25 = .ok (.istore 4, 2) := by decide +kernel
theorem dX12_likeOf_27 : decode cX12_likeOf 27 = .ok (.iconst 0, 1) := by decide +kernel
theorem dX12_likeOf_28 : decode cX12_likeOf 28 = .ok (.istore 5, 2) := by decide +kernel
theorem dX12_likeOf_30 : decode cX12_likeOf 30 = .ok (.iconst 0, 1) := by decide +kernel
theorem dX12_likeOf_31 : decode cX12_likeOf 31 = .ok (.istore 6, 2) := by decide +kernel
theorem dX12_likeOf_33 : decode cX12_likeOf 33 = .ok (.iload 6, 2) := by decide +kernel
theorem dX12_likeOf_35 : decode cX12_likeOf 35 = .ok (.bipush 8, 2) := by decide +kernel
theorem dX12_likeOf_37 : decode cX12_likeOf 37 = .ok (.if_icmp .ge 43, 3) := by decide +kernel
theorem dX12_likeOf_40 : decode cX12_likeOf 40 = .ok (.iload 5, 2) := by decide +kernel
theorem dX12_likeOf_42 : decode cX12_likeOf 42 = .ok (.iload_n 3, 1) := by decide +kernel
theorem dX12_likeOf_43 : decode cX12_likeOf 43 = .ok (.bipush 10, 2) := by decide +kernel
theorem dX12_likeOf_45 : decode cX12_likeOf 45 = .ok (.irem, 1) := by decide +kernel
theorem dX12_likeOf_46 : decode cX12_likeOf 46 = .ok (.iload 4, 2) := by decide +kernel
theorem dX12_likeOf_48 : decode cX12_likeOf 48 = .ok (.bipush 10, 2) := by decide +kernel
theorem dX12_likeOf_50 : decode cX12_likeOf 50 = .ok (.irem, 1) := by decide +kernel
theorem dX12_likeOf_51 : decode cX12_likeOf 51 = .ok (.if_icmp .ne 7, 3) := by decide +kernel
theorem dX12_likeOf_54 : decode cX12_likeOf 54 = .ok (.iconst 1, 1) := by decide +kernel
theorem dX12_likeOf_55 : decode cX12_likeOf 55 = .ok (.goto 4, 3) := by decide +kernel
theorem dX12_likeOf_58 : decode cX12_likeOf 58 = .ok (.iconst 0, 1) := by decide +kernel
theorem dX12_likeOf_59 : decode cX12_likeOf 59 = .ok (.iadd, 1) := by decide +kernel
theorem dX12_likeOf_60 : decode cX12_likeOf 60 = .ok (.istore 5, 2) := by decide +kernel
theorem dX12_likeOf_62 : decode cX12_likeOf 62 = .ok (.iload_n 3, 1) := by decide +kernel
theorem dX12_likeOf_63 : decode cX12_likeOf 63 = .ok (.bipush 10, 2) := by decide +kernel
theorem dX12_likeOf_65 : decode cX12_likeOf 65 = .ok (.idiv, 1) := by decide +kernel
theorem dX12_likeOf_66 : decode cX12_likeOf 66 = .ok (.istore_n 3, 1) := by decide +kernel
theorem dX12_likeOf_67 : decode cX12_likeOf 67 = .ok (.iload 4, 2) := by decide +kernel
theorem dX12_likeOf_69 : decode cX12_likeOf 69 = .ok (.bipush 10, 2) := by decide +kernel
theorem dX12_likeOf_71 : decode cX12_likeOf 71 = .ok (.idiv, 1) := by decide +kernel
theorem dX12_likeOf_72 : decode cX12_likeOf 72 = .ok (.istore 4, 2) := by decide +kernel
theorem dX12_likeOf_74 : decode cX12_likeOf 74 = .ok (.iinc 6 1, 3) := by decide +kernel
theorem dX12_likeOf_77 : decode cX12_likeOf 77 = .ok (.goto (-44), 3) := by decide +kernel
theorem dX12_likeOf_80 : decode cX12_likeOf 80 = .ok (.iload 5, 2) := by decide +kernel
theorem dX12_likeOf_82 : decode cX12_likeOf 82 = .ok (.ireturn, 1) := by decide +kernel
theorem dX12_mark_0 : decode cX12_mark 0 = .ok (.aload_n 0, 1) := by decide +kernel
theorem dX12_mark_1 : decode cX12_mark 1 = .ok (.iconst 0, 1) := by decide +kernel
theorem dX12_mark_2 : decode cX12_mark 2 = .ok (.putfield 92, 3) := by decide +kernel
theorem dX12_mark_5 : decode cX12_mark 5 = .ok (.iload_n 3, 1) := by decide +kernel
theorem dX12_mark_6 : decode cX12_mark 6 = .ok (.invokestatic 145, 3) := by decide +kernel
theorem dX12_mark_9 : decode cX12_mark 9 = .ok (.ifCond .eq 37, 3) := by decide +kernel
theorem dX12_mark_12 : decode cX12_mark 12 = .ok (.iload 4, 2) := by decide +kernel
theorem dX12_mark_14 : decode cX12_mark 14 = .ok (.i2l, 1) := by decide +kernel
theorem dX12_mark_15 : decode cX12_mark 15 = .ok (.lconst 0, 1) := by decide +kernel
theorem dX12_mark_16 : decode cX12_mark 16 = .ok (.ldc2_w 151, 3) := by decide +kernel
theorem dX12_mark_19 : decode cX12_mark 19 = .ok (.invokestatic 100, 3) := by decide +kernel
theorem dX12_mark_22 : decode cX12_mark 22 = .ok (.ifCond .eq 24, 3) := by decide +kernel
theorem dX12_mark_25 : decode cX12_mark 25 = .ok (.iload 5, 2) := by decide +kernel
theorem dX12_mark_27 : decode cX12_mark 27 = .ok (.i2l, 1) := by decide +kernel
theorem dX12_mark_28 : decode cX12_mark 28 = .ok (.lconst 0, 1) := by decide +kernel
theorem dX12_mark_29 : decode cX12_mark 29 = .ok (.ldc2_w 153, 3) := by decide +kernel
theorem dX12_mark_32 : decode cX12_mark 32 = .ok (.invokestatic 100, 3) := by decide +kernel
theorem dX12_mark_35 : decode cX12_mark 35 = .ok (.ifCond .eq 11, 3) := by decide +kernel
theorem dX12_mark_38 : decode cX12_mark 38 = .ok (.iload 6, 2) := by decide +kernel
theorem dX12_mark_40 : decode cX12_mark 40 = .ok (.invokestatic 127, 3) := by decide +kernel
theorem dX12_mark_43 : decode cX12_mark 43 = .ok (.ifCond .ne 9, 3) := by decide +kernel
theorem dX12_mark_46 : decode cX12_mark 46 = .ok (.aload_n 0, 1) := by decide +kernel
theorem dX12_mark_47 : decode cX12_mark 47 = .ok (.iconst (-1), 1) := by decide +kernel
theorem dX12_mark_48 : decode cX12_mark 48 = .ok (.invokevirtual 106, 3) := by decide +kernel
theorem dX12_mark_51 : decode cX12_mark 51 = .ok (.ireturn, 1) := by decide +kernel
theorem dX12_mark_52 : decode cX12_mark 52 = .ok (.aload_n 0, 1) := by decide +kernel
theorem dX12_mark_53 : decode cX12_mark 53 = .ok (.iload_n 1, 1) := by decide +kernel
theorem dX12_mark_54 : decode cX12_mark 54 = .ok (.invokevirtual 131, 3) := by decide +kernel
theorem dX12_mark_57 : decode cX12_mark 57 = .ok (.ifCond .eq 11, 3) := by decide +kernel
theorem dX12_mark_60 : decode cX12_mark 60 = .ok (.aload_n 0, 1) := by decide +kernel
theorem dX12_mark_61 : decode cX12_mark 61 = .ok (.iload_n 2, 1) := by decide +kernel
theorem dX12_mark_62 : decode cX12_mark 62 = .ok (.invokevirtual 138, 3) := by decide +kernel
theorem dX12_mark_65 : decode cX12_mark 65 = .ok (.ifCond .ne 10, 3) := by decide +kernel
theorem dX12_mark_68 : decode cX12_mark 68 = .ok (.aload_n 0, 1) := by decide +kernel
theorem dX12_mark_69 : decode cX12_mark 69 = .ok (.bipush (-2), 2) := by decide +kernel
theorem dX12_mark_71 : decode cX12_mark 71 = .ok (.invokevirtual 106, 3) := by decide +kernel
theorem dX12_mark_74 : decode cX12_mark 74 = .ok (.ireturn, 1) := by decide +kernel
theorem dX12_mark_75 : decode cX12_mark 75 = .ok (.iload_n 3, 1) := by decide +kernel
theorem dX12_mark_76 : decode cX12_mark 76 = .ok (.iconst 2, 1) := by decide +kernel
theorem dX12_mark_77 : decode cX12_mark 77 = .ok (.idiv, 1) := by decide +kernel
theorem dX12_mark_78 : decode cX12_mark 78 = .ok (.istore 7, 2) := by decide +kernel
theorem dX12_mark_80 : decode cX12_mark 80 = .ok (.iload 7, 2) := by decide +kernel
theorem dX12_mark_82 : decode cX12_mark 82 = .ok (.bipush 7, 2) := by decide +kernel
theorem dX12_mark_84 : decode cX12_mark 84 = .ok (.irem, 1) := by decide +kernel
theorem dX12_mark_85 : decode cX12_mark 85 = .ok (.iconst 4, 1) := by decide +kernel
theorem dX12_mark_86 : decode cX12_mark 86 = .ok (.if_icmp .gt 35, 3) := by decide +kernel
theorem dX12_mark_89 : decode cX12_mark 89 = .ok (.aload_n 0, 1) := by decide +kernel
theorem dX12_mark_90 : decode cX12_mark 90 = .ok (.getfield 7, 3) := by decide +kernel
theorem dX12_mark_93 : decode cX12_mark 93 = .ok (.sipush 700, 3) := by decide +kernel
theorem dX12_mark_96 : decode cX12_mark 96 = .ok (.sipush 400, 3) := by decide +kernel
theorem dX12_mark_99 : decode cX12_mark 99 = .ok (.iload_n 1, 1) := by decide +kernel
theorem dX12_mark_100 : decode cX12_mark 100 = .ok (.imul, 1) := by decide +kernel
theorem dX12_mark_101 : decode cX12_mark 101 = .ok (.iadd, 1) := by decide +kernel
theorem dX12_mark_102 : decode cX12_mark 102 = .ok (.iload 7, 2) := by decide +kernel
theorem dX12_mark_104 : decode cX12_mark 104 = .ok (.iadd, 1) := by decide +kernel
theorem dX12_mark_105 : decode cX12_mark 105 = .ok (.iaload, 1) := by decide +kernel
theorem dX12_mark_106 : decode cX12_mark 106 = .ok (.iconst 1, 1) := by decide +kernel
theorem dX12_mark_107 : decode cX12_mark 107 = .ok (.if_icmp .eq 14, 3) := by decide +kernel
theorem dX12_mark_110 : decode cX12_mark 110 = .ok (.aload_n 0, 1) := by decide +kernel
theorem dX12_mark_111 : decode cX12_mark 111 = .ok (.iload_n 2, 1) := by decide +kernel
theorem dX12_mark_112 : decode cX12_mark 112 = .ok (.iload_n 1, 1) := by decide +kernel
theorem dX12_mark_113 : decode cX12_mark 113 = .ok (.iload 7, 2) := by decide +kernel
theorem dX12_mark_115 : decode cX12_mark 115 = .ok (.invokevirtual 141, 3) := by decide +kernel
theorem dX12_mark_118 : decode cX12_mark 118 = .ok (.ifCond .ne 10, 3) := by decide +kernel
theorem dX12_mark_121 : decode cX12_mark 121 = .ok (.aload_n 0, 1) := by decide +kernel
theorem dX12_mark_122 : decode cX12_mark 122 = .ok (.bipush (-3), 2) := by decide +kernel
theorem dX12_mark_124 : decode cX12_mark 124 = .ok (.invokevirtual 106, 3) := by decide +kernel
theorem dX12_mark_127 : decode cX12_mark 127 = .ok (.ireturn, 1) := by decide +kernel
theorem dX12_mark_128 : decode cX12_mark 128 = .ok (.aload_n 0, 1) := by decide +kernel
theorem dX12_mark_129 : decode cX12_mark 129 = .ok (.getfield 7, 3) := by decide +kernel
theorem dX12_mark_132 : decode cX12_mark 132 = .ok (.iconst 3, 1) := by decide +kernel
theorem dX12_mark_133 : decode cX12_mark 133 = .ok (.iaload, 1) := by decide +kernel
theorem dX12_mark_134 : decode cX12_mark 134 = .ok (.sipush 400, 3) := by decide +kernel
theorem dX12_mark_137 : decode cX12_mark 137 = .ok (.if_icmp .ne 10, 3) := by decide +kernel
theorem dX12_mark_140 : decode cX12_mark 140 = .ok (.aload_n 0, 1) := by decide +kernel
theorem dX12_mark_141 : decode cX12_mark 141 = .ok (.bipush (-5), 2) := by decide +kernel
theorem dX12_mark_143 : decode cX12_mark 143 = .ok (.invokevirtual 106, 3) := by decide +kernel
theorem dX12_mark_146 : decode cX12_mark 146 = .ok (.ireturn, 1) := by decide +kernel
theorem dX12_mark_147 : decode cX12_mark 147 = .ok (.aload_n 0, 1) := by decide +kernel
theorem dX12_mark_148 : decode cX12_mark 148 = .ok (.getfield 7, 3) := by decide +kernel
theorem dX12_mark_151 : decode cX12_mark 151 = .ok (.iconst 3, 1) := by decide +kernel
theorem dX12_mark_152 : decode cX12_mark 152 = .ok (.iaload, 1) := by decide +kernel
theorem dX12_mark_153 : decode cX12_mark 153 = .ok (.invokestatic 155, 3) := by decide +kernel
theorem dX12_mark_156 : decode cX12_mark 156 = .ok (.istore 8, 2) := by decide +kernel
theorem dX12_mark_158 : decode cX12_mark 158 = .ok (.aload_n 0, 1) := by decide +kernel
theorem dX12_mark_159 : decode cX12_mark 159 = .ok (.iload 8, 2) := by decide +kernel
theorem dX12_mark_161 : decode cX12_mark 161 = .ok (.iload_n 1, 1) := by decide +kernel
theorem dX12_mark_162 : decode cX12_mark 162 = .ok (.iload_n 2, 1) := by decide +kernel
theorem dX12_mark_163 : decode cX12_mark 163 = .ok (.iload_n 3, 1) := by decide +kernel
theorem dX12_mark_164 : decode cX12_mark 164 = .ok (.bipush 26, 2) := by decide +kernel
theorem dX12_mark_166 : decode cX12_mark 166 = .ok (.iload 5, 2) := by decide +kernel
theorem dX12_mark_168 : decode cX12_mark 168 = .ok (.imul, 1) := by decide +kernel
theorem dX12_mark_169 : decode cX12_mark 169 = .ok (.iload 4, 2) := by decide +kernel
theorem dX12_mark_171 : decode cX12_mark 171 = .ok (.iadd, 1) := by decide +kernel
theorem dX12_mark_172 : decode cX12_mark 172 = .ok (.invokevirtual 123, 3) := by decide +kernel
theorem dX12_mark_175 : decode cX12_mark 175 = .ok (.aload_n 0, 1) := by decide +kernel
theorem dX12_mark_176 : decode cX12_mark 176 = .ok (.getfield 7, 3) := by decide +kernel
theorem dX12_mark_179 : decode cX12_mark 179 = .ok (.iload 8, 2) := by decide +kernel
theorem dX12_mark_181 : decode cX12_mark 181 = .ok (.iconst 4, 1) := by decide +kernel
theorem dX12_mark_182 : decode cX12_mark 182 = .ok (.iadd, 1) := by decide +kernel
theorem dX12_mark_183 : decode cX12_mark 183 = .ok (.iload 6, 2) := by decide +kernel
theorem dX12_mark_185 : decode cX12_mark 185 = .ok (.iastore, 1) := by decide +kernel
theorem dX12_mark_186 : decode cX12_mark 186 = .ok (.aload_n 0, 1) := by decide +kernel
theorem dX12_mark_187 : decode cX12_mark 187 = .ok (.getfield 7, 3) := by decide +kernel
theorem dX12_mark_190 : decode cX12_mark 190 = .ok (.iload 8, 2) := by decide +kernel
theorem dX12_mark_192 : decode cX12_mark 192 = .ok (.iconst 5, 1) := by decide +kernel
theorem dX12_mark_193 : decode cX12_mark 193 = .ok (.iadd, 1) := by decide +kernel
theorem dX12_mark_194 : decode cX12_mark 194 = .ok (.iconst (-1), 1) := by decide +kernel
theorem dX12_mark_195 : decode cX12_mark 195 = .ok (.iastore, 1) := by decide +kernel
theorem dX12_mark_196 : decode cX12_mark 196 = .ok (.aload_n 0, 1) := by decide +kernel
theorem dX12_mark_197 : decode cX12_mark 197 = .ok (.getfield 7, 3) := by decide +kernel
theorem dX12_mark_200 : decode cX12_mark 200 = .ok (.iload 8, 2) := by decide +kernel
theorem dX12_mark_202 : decode cX12_mark 202 = .ok (.bipush 6, 2) := by decide +kernel
theorem dX12_mark_204 : decode cX12_mark 204 = .ok (.iadd, 1) := by decide +kernel
theorem dX12_mark_205 : decode cX12_mark 205 = .ok (.iconst (-1), 1) := by decide +kernel
theorem dX12_mark_206 : decode cX12_mark 206 = .ok (.iastore, 1) := by decide +kernel
theorem dX12_mark_207 : decode cX12_mark 207 = .ok (.aload_n 0, 1) := by decide +kernel
theorem dX12_mark_208 : decode cX12_mark 208 = .ok (.getfield 7, 3) := by decide +kernel
theorem dX12_mark_211 : decode cX12_mark 211 = .ok (.iconst 3, 1) := by decide +kernel
theorem dX12_mark_212 : decode cX12_mark 212 = .ok (.dup2, 1) := by decide +kernel
theorem dX12_mark_213 : decode cX12_mark 213 = .ok (.iaload, 1) := by decide +kernel
theorem dX12_mark_214 : decode cX12_mark 214 = .ok (.iconst 1, 1) := by decide +kernel
theorem dX12_mark_215 : decode cX12_mark 215 = .ok (.iadd, 1) := by decide +kernel
theorem dX12_mark_216 : decode cX12_mark 216 = .ok (.iastore, 1) := by decide +kernel
theorem dX12_mark_217 : decode cX12_mark 217 = .ok (.aload_n 0, 1) := by decide +kernel
theorem dX12_mark_218 : decode cX12_mark 218 = .ok (.aload_n 0, 1) := by decide +kernel
theorem dX12_mark_219 : decode cX12_mark 219 = .ok (.getfield 7, 3) := by decide +kernel
theorem dX12_mark_222 : decode cX12_mark 222 = .ok (.iconst 3, 1) := by decide +kernel
theorem dX12_mark_223 : decode cX12_mark 223 = .ok (.iaload, 1) := by decide +kernel
theorem dX12_mark_224 : decode cX12_mark 224 = .ok (.iconst 1, 1) := by decide +kernel
theorem dX12_mark_225 : decode cX12_mark 225 = .ok (.isub, 1) := by decide +kernel
theorem dX12_mark_226 : decode cX12_mark 226 = .ok (.invokevirtual 106, 3) := by decide +kernel
theorem dX12_mark_229 : decode cX12_mark 229 = .ok (.ireturn, 1) := by decide +kernel
theorem dX12_markAt_0 : decode cX12_markAt 0 = .ok (.sipush 3780, 3) := by decide +kernel
theorem dX12_markAt_3 : decode cX12_markAt 3 = .ok (.bipush 8, 2) := by decide +kernel
theorem dX12_markAt_5 : decode cX12_markAt 5 = .ok (.iload_n 0, 1) := by decide +kernel
theorem dX12_markAt_6 : decode cX12_markAt 6 = .ok (.imul, 1) := by decide +kernel
theorem dX12_markAt_7 : decode cX12_markAt 7 = .ok (.iadd, 1) := by decide +kernel
theorem dX12_markAt_8 : decode cX12_markAt 8 = .ok (.ireturn, 1) := by decide +kernel
theorem dX12_minutesOf_0 : decode cX12_minutesOf 0 = .ok (.aload_n 0, 1) := by decide +kernel
theorem dX12_minutesOf_1 : decode cX12_minutesOf 1 = .ok (.getfield 7, 3) := by decide +kernel
theorem dX12_minutesOf_4 : decode cX12_minutesOf 4 = .ok (.bipush 7, 2) := by decide +kernel
theorem dX12_minutesOf_6 : decode cX12_minutesOf 6 = .ok (.iaload, 1) := by decide +kernel
theorem dX12_minutesOf_7 : decode cX12_minutesOf 7 = .ok (.istore 4, 2) := by decide +kernel
theorem dX12_minutesOf_9 : decode cX12_minutesOf 9 = .ok (.iload_n 1, 1) := by decide +kernel
theorem dX12_minutesOf_10 : decode cX12_minutesOf 10 = .ok (.ifCond .ne 7, 3) := by decide +kernel
theorem dX12_minutesOf_17 : decode cX12_minutesOf 17 = .ok (.ldc_w 531, 3) := by decide +kernel
theorem dX12_minutesOf_20 : decode cX12_minutesOf 20 = .ok (.istore 5, 2) := by decide +kernel
theorem dX12_minutesOf_22 : decode cX12_minutesOf 22 = .ok (.iconst 0, 1) := by decide +kernel
theorem dX12_minutesOf_23 : decode cX12_minutesOf 23 = .ok (.istore 6, 2) := by decide +kernel
theorem dX12_minutesOf_25 : decode cX12_minutesOf 25 = .ok (.iconst 0, 1) := by decide +kernel
theorem dX12_minutesOf_26 : decode cX12_minutesOf 26 = .ok (.istore 7, 2) := by decide +kernel
theorem dX12_minutesOf_28 : decode cX12_minutesOf 28 = .ok (.iload 7, 2) := by decide +kernel
theorem dX12_minutesOf_30 : decode cX12_minutesOf 30 = .ok (.iload 4, 2) := by decide +kernel
theorem dX12_minutesOf_32 : decode cX12_minutesOf 32 = .ok (.if_icmp .ge 78, 3) := by decide +kernel
theorem dX12_minutesOf_35 : decode cX12_minutesOf 35 = .ok (.iload_n 1, 1) := by decide +kernel
theorem dX12_minutesOf_36 : decode cX12_minutesOf 36 = .ok (.iload 7, 2) := by decide +kernel
theorem dX12_minutesOf_38 : decode cX12_minutesOf 38 = .ok (.ishr, 1) := by decide +kernel
theorem dX12_minutesOf_39 : decode cX12_minutesOf 39 = .ok (.iconst 1, 1) := by decide +kernel
theorem dX12_minutesOf_40 : decode cX12_minutesOf 40 = .ok (.iand, 1) := by decide +kernel
theorem dX12_minutesOf_41 : decode cX12_minutesOf 41 = .ok (.iconst 1, 1) := by decide +kernel
theorem dX12_minutesOf_42 : decode cX12_minutesOf 42 = .ok (.if_icmp .ne 62, 3) := by decide +kernel
theorem dX12_minutesOf_45 : decode cX12_minutesOf 45 = .ok (.iload 6, 2) := by decide +kernel
theorem dX12_minutesOf_47 : decode cX12_minutesOf 47 = .ok (.aload_n 0, 1) := by decide +kernel
theorem dX12_minutesOf_48 : decode cX12_minutesOf 48 = .ok (.getfield 7, 3) := by decide +kernel
theorem dX12_minutesOf_51 : decode cX12_minutesOf 51 = .ok (.sipush 6998, 3) := by decide +kernel
theorem dX12_minutesOf_54 : decode cX12_minutesOf 54 = .ok (.iconst 3, 1) := by decide +kernel
theorem dX12_minutesOf_55 : decode cX12_minutesOf 55 = .ok (.iload 7, 2) := by decide +kernel
theorem dX12_minutesOf_57 : decode cX12_minutesOf 57 = .ok (.imul, 1) := by decide +kernel
theorem dX12_minutesOf_58 : decode cX12_minutesOf 58 = .ok (.iadd, 1) := by decide +kernel
theorem dX12_minutesOf_59 : decode cX12_minutesOf 59 = .ok (.iconst 1, 1) := by decide +kernel
theorem dX12_minutesOf_60 : decode cX12_minutesOf 60 = .ok (.iadd, 1) := by decide +kernel
theorem dX12_minutesOf_61 : decode cX12_minutesOf 61 = .ok (.iaload, 1) := by decide +kernel
theorem dX12_minutesOf_62 : decode cX12_minutesOf 62 = .ok (.iadd, 1) := by decide +kernel
theorem dX12_minutesOf_63 : decode cX12_minutesOf 63 = .ok (.istore 6, 2) := by decide +kernel
theorem dX12_minutesOf_65 : decode cX12_minutesOf 65 = .ok (.aload_n 0, 1) := by decide +kernel
theorem dX12_minutesOf_66 : decode cX12_minutesOf 66 = .ok (.getfield 80, 3) := by decide +kernel
theorem dX12_minutesOf_69 : decode cX12_minutesOf 69 = .ok (.bipush 9, 2) := by decide +kernel
theorem dX12_minutesOf_71 : decode cX12_minutesOf 71 = .ok (.iload_n 1, 1) := by decide +kernel
theorem dX12_minutesOf_72 : decode cX12_minutesOf 72 = .ok (.imul, 1) := by decide +kernel
theorem dX12_minutesOf_73 : decode cX12_minutesOf 73 = .ok (.iload 7, 2) := by decide +kernel
theorem dX12_minutesOf_75 : decode cX12_minutesOf 75 = .ok (.iadd, 1) := by decide +kernel
theorem dX12_minutesOf_76 : decode cX12_minutesOf 76 = .ok (.iaload, 1) := by decide +kernel
theorem dX12_minutesOf_77 : decode cX12_minutesOf 77 = .ok (.aload_n 0, 1) := by decide +kernel
theorem dX12_minutesOf_78 : decode cX12_minutesOf 78 = .ok (.iload 7, 2) := by decide +kernel
theorem dX12_minutesOf_80 : decode cX12_minutesOf 80 = .ok (.iload_n 2, 1) := by decide +kernel
theorem dX12_minutesOf_81 : decode cX12_minutesOf 81 = .ok (.iload_n 3, 1) := by decide +kernel
theorem dX12_minutesOf_82 : decode cX12_minutesOf 82 = .ok (.invokevirtual 528, 3) := by decide +kernel
theorem dX12_minutesOf_85 : decode cX12_minutesOf 85 = .ok (.iadd, 1) := by decide +kernel
theorem dX12_minutesOf_86 : decode cX12_minutesOf 86 = .ok (.istore 8, 2) := by decide +kernel
theorem dX12_minutesOf_88 : decode cX12_minutesOf 88 = .ok (.iload 8, 2) := by decide +kernel
theorem dX12_minutesOf_90 : decode cX12_minutesOf 90 = .ok (.iload 5, 2) := by decide +kernel
theorem dX12_minutesOf_92 : decode cX12_minutesOf 92 = .ok (.if_icmp .ge 8, 3) := by decide +kernel
theorem dX12_minutesOf_95 : decode cX12_minutesOf 95 = .ok (.iload 8, 2) := by decide +kernel
theorem dX12_minutesOf_97 : decode cX12_minutesOf 97 = .ok (.goto 5, 3) := by decide +kernel
theorem dX12_minutesOf_100 : decode cX12_minutesOf 100 = .ok (.iload 5, 2) := by decide +kernel
theorem dX12_minutesOf_102 : decode cX12_minutesOf 102 = .ok (.istore 5, 2) := by decide +kernel
theorem dX12_minutesOf_104 : decode cX12_minutesOf 104 = .ok (.iinc 7 1, 3) := by decide +kernel
theorem dX12_minutesOf_107 : decode cX12_minutesOf 107 = .ok (.goto (-79), 3) := by decide +kernel
theorem dX12_minutesOf_110 : decode cX12_minutesOf 110 = .ok (.iload 5, 2) := by decide +kernel
theorem dX12_minutesOf_112 : decode cX12_minutesOf 112 = .ok (.iload 6, 2) := by decide +kernel
theorem dX12_minutesOf_114 : decode cX12_minutesOf 114 = .ok (.iadd, 1) := by decide +kernel
theorem dX12_minutesOf_115 : decode cX12_minutesOf 115 = .ok (.ireturn, 1) := by decide +kernel
theorem dX12_missing_0 : decode cX12_missing 0 = .ok (.aload_n 0, 1) := by decide +kernel
theorem dX12_missing_1 : decode cX12_missing 1 = .ok (.iconst 0, 1) := by decide +kernel
theorem dX12_missing_2 : decode cX12_missing 2 = .ok (.putfield 92, 3) := by decide +kernel
theorem dX12_missing_5 : decode cX12_missing 5 = .ok (.iload_n 2, 1) := by decide +kernel
theorem dX12_missing_6 : decode cX12_missing 6 = .ok (.i2l, 1) := by decide +kernel
theorem dX12_missing_7 : decode cX12_missing 7 = .ok (.lconst 0, 1) := by decide +kernel
theorem dX12_missing_8 : decode cX12_missing 8 = .ok (.ldc2_w 496, 3) := by decide +kernel
theorem dX12_missing_11 : decode cX12_missing 11 = .ok (.invokestatic 100, 3) := by decide +kernel
theorem dX12_missing_14 : decode cX12_missing 14 = .ok (.ifCond .ne 9, 3) := by decide +kernel
theorem dX12_missing_17 : decode cX12_missing 17 = .ok (.aload_n 0, 1) := by decide +kernel
theorem dX12_missing_18 : decode cX12_missing 18 = .ok (.iconst (-1), 1) := by decide +kernel
theorem dX12_missing_19 : decode cX12_missing 19 = .ok (.invokevirtual 106, 3) := by decide +kernel
theorem dX12_missing_22 : decode cX12_missing 22 = .ok (.ireturn, 1) := by decide +kernel
theorem dX12_missing_23 : decode cX12_missing 23 = .ok (.aload_n 0, 1) := by decide +kernel
theorem dX12_missing_24 : decode cX12_missing 24 = .ok (.iload_n 1, 1) := by decide +kernel
theorem dX12_missing_25 : decode cX12_missing 25 = .ok (.invokevirtual 138, 3) := by decide +kernel
theorem dX12_missing_28 : decode cX12_missing 28 = .ok (.ifCond .ne 10, 3) := by decide +kernel
theorem dX12_missing_31 : decode cX12_missing 31 = .ok (.aload_n 0, 1) := by decide +kernel
theorem dX12_missing_32 : decode cX12_missing 32 = .ok (.bipush (-2), 2) := by decide +kernel
theorem dX12_missing_34 : decode cX12_missing 34 = .ok (.invokevirtual 106, 3) := by decide +kernel
theorem dX12_missing_37 : decode cX12_missing 37 = .ok (.ireturn, 1) := by decide +kernel
theorem dX12_missing_38 : decode cX12_missing 38 = .ok (.iconst 0, 1) := by decide +kernel
theorem dX12_missing_39 : decode cX12_missing 39 = .ok (.istore_n 3, 1) := by decide +kernel
theorem dX12_missing_40 : decode cX12_missing 40 = .ok (.iload_n 3, 1) := by decide +kernel
theorem dX12_missing_41 : decode cX12_missing 41 = .ok (.aload_n 0, 1) := by decide +kernel
theorem dX12_missing_42 : decode cX12_missing 42 = .ok (.getfield 7, 3) := by decide +kernel
theorem dX12_missing_45 : decode cX12_missing 45 = .ok (.bipush 6, 2) := by decide +kernel
theorem dX12_missing_47 : decode cX12_missing 47 = .ok (.iaload, 1) := by decide +kernel
theorem dX12_missing_48 : decode cX12_missing 48 = .ok (.if_icmp .ge 32, 3) := by decide +kernel
theorem dX12_missing_51 : decode cX12_missing 51 = .ok (.aload_n 0, 1) := by decide +kernel
theorem dX12_missing_52 : decode cX12_missing 52 = .ok (.getfield 7, 3) := by decide +kernel
theorem dX12_missing_55 : decode cX12_missing 55 = .ok (.sipush 6986, 3) := by decide +kernel
theorem dX12_missing_58 : decode cX12_missing 58 = .ok (.iconst 2, 1) := by decide +kernel
theorem dX12_missing_59 : decode cX12_missing 59 = .ok (.iload_n 3, 1) := by decide +kernel
theorem dX12_missing_60 : decode cX12_missing 60 = .ok (.imul, 1) := by decide +kernel
theorem dX12_missing_61 : decode cX12_missing 61 = .ok (.iadd, 1) := by decide +kernel
theorem dX12_missing_62 : decode cX12_missing 62 = .ok (.iaload, 1) := by decide +kernel
theorem dX12_missing_63 : decode cX12_missing 63 = .ok (.iload_n 1, 1) := by decide +kernel
theorem dX12_missing_64 : decode cX12_missing 64 = .ok (.if_icmp .ne 10, 3) := by decide +kernel
theorem dX12_missing_67 : decode cX12_missing 67 = .ok (.aload_n 0, 1) := by decide +kernel
theorem dX12_missing_68 : decode cX12_missing 68 = .ok (.bipush (-4), 2) := by decide +kernel
theorem dX12_missing_70 : decode cX12_missing 70 = .ok (.invokevirtual 106, 3) := by decide +kernel
theorem dX12_missing_73 : decode cX12_missing 73 = .ok (.ireturn, 1) := by decide +kernel
theorem dX12_missing_74 : decode cX12_missing 74 = .ok (.iinc 3 1, 3) := by decide +kernel
theorem dX12_missing_77 : decode cX12_missing 77 = .ok (.goto (-37), 3) := by decide +kernel
theorem dX12_missing_80 : decode cX12_missing 80 = .ok (.aload_n 0, 1) := by decide +kernel
theorem dX12_missing_81 : decode cX12_missing 81 = .ok (.getfield 7, 3) := by decide +kernel
theorem dX12_missing_84 : decode cX12_missing 84 = .ok (.bipush 6, 2) := by decide +kernel
theorem dX12_missing_86 : decode cX12_missing 86 = .ok (.iaload, 1) := by decide +kernel
theorem dX12_missing_87 : decode cX12_missing 87 = .ok (.bipush 6, 2) := by decide +kernel
theorem dX12_missing_89 : decode cX12_missing 89 = .ok (.if_icmp .ne 10, 3) := by decide +kernel
theorem dX12_missing_92 : decode cX12_missing 92 = .ok (.aload_n 0, 1) := by decide +kernel
theorem dX12_missing_93 : decode cX12_missing 93 = .ok (.bipush (-5), 2) := by decide +kernel
theorem dX12_missing_95 : decode cX12_missing 95 = .ok (.invokevirtual 106, 3) := by decide +kernel
theorem dX12_missing_98 : decode cX12_missing 98 = .ok (.ireturn, 1) := by decide +kernel
theorem dX12_missing_99 : decode cX12_missing 99 = .ok (.aload_n 0, 1) := by decide +kernel
theorem dX12_missing_100 : decode cX12_missing 100 = .ok (.getfield 7, 3) := by decide +kernel
theorem dX12_missing_103 : decode cX12_missing 103 = .ok (.sipush 6986, 3) := by decide +kernel
theorem dX12_missing_106 : decode cX12_missing 106 = .ok (.iconst 2, 1) := by decide +kernel
theorem dX12_missing_107 : decode cX12_missing 107 = .ok (.aload_n 0, 1) := by decide +kernel
theorem dX12_missing_108 : decode cX12_missing 108 = .ok (.getfield 7, 3) := by decide +kernel
theorem dX12_missing_111 : decode cX12_missing 111 = .ok (.bipush 6, 2) := by decide +kernel
theorem dX12_missing_113 : decode cX12_missing 113 = .ok (.iaload, 1) := by decide +kernel
theorem dX12_missing_114 : decode cX12_missing 114 = .ok (.imul, 1) := by decide +kernel
theorem dX12_missing_115 : decode cX12_missing 115 = .ok (.iadd, 1) := by decide +kernel
theorem dX12_missing_116 : decode cX12_missing 116 = .ok (.iload_n 1, 1) := by decide +kernel
theorem dX12_missing_117 : decode cX12_missing 117 = .ok (.iastore, 1) := by decide +kernel
theorem dX12_missing_118 : decode cX12_missing 118 = .ok (.aload_n 0, 1) := by decide +kernel
theorem dX12_missing_119 : decode cX12_missing 119 = .ok (.getfield 7, 3) := by decide +kernel
theorem dX12_missing_122 : decode cX12_missing 122 = .ok (.sipush 6986, 3) := by decide +kernel
theorem dX12_missing_125 : decode cX12_missing 125 = .ok (.iconst 2, 1) := by decide +kernel
theorem dX12_missing_126 : decode cX12_missing 126 = .ok (.aload_n 0, 1) := by decide +kernel
theorem dX12_missing_127 : decode cX12_missing 127 = .ok (.getfield 7, 3) := by decide +kernel
theorem dX12_missing_130 : decode cX12_missing 130 = .ok (.bipush 6, 2) := by decide +kernel
theorem dX12_missing_132 : decode cX12_missing 132 = .ok (.iaload, 1) := by decide +kernel
theorem dX12_missing_133 : decode cX12_missing 133 = .ok (.imul, 1) := by decide +kernel
theorem dX12_missing_134 : decode cX12_missing 134 = .ok (.iadd, 1) := by decide +kernel
theorem dX12_missing_135 : decode cX12_missing 135 = .ok (.iconst 1, 1) := by decide +kernel
theorem dX12_missing_136 : decode cX12_missing 136 = .ok (.iadd, 1) := by decide +kernel
theorem dX12_missing_137 : decode cX12_missing 137 = .ok (.iload_n 2, 1) := by decide +kernel
theorem dX12_missing_138 : decode cX12_missing 138 = .ok (.iastore, 1) := by decide +kernel
theorem dX12_missing_139 : decode cX12_missing 139 = .ok (.aload_n 0, 1) := by decide +kernel
theorem dX12_missing_140 : decode cX12_missing 140 = .ok (.getfield 7, 3) := by decide +kernel
theorem dX12_missing_143 : decode cX12_missing 143 = .ok (.bipush 6, 2) := by decide +kernel
theorem dX12_missing_145 : decode cX12_missing 145 = .ok (.dup2, 1) := by decide +kernel
theorem dX12_missing_146 : decode cX12_missing 146 = .ok (.iaload, 1) := by decide +kernel
theorem dX12_missing_147 : decode cX12_missing 147 = .ok (.iconst 1, 1) := by decide +kernel
theorem dX12_missing_148 : decode cX12_missing 148 = .ok (.iadd, 1) := by decide +kernel
theorem dX12_missing_149 : decode cX12_missing 149 = .ok (.iastore, 1) := by decide +kernel
theorem dX12_missing_150 : decode cX12_missing 150 = .ok (.aload_n 0, 1) := by decide +kernel
theorem dX12_missing_151 : decode cX12_missing 151 = .ok (.aload_n 0, 1) := by decide +kernel
theorem dX12_missing_152 : decode cX12_missing 152 = .ok (.getfield 7, 3) := by decide +kernel
theorem dX12_missing_155 : decode cX12_missing 155 = .ok (.bipush 6, 2) := by decide +kernel
theorem dX12_missing_157 : decode cX12_missing 157 = .ok (.iaload, 1) := by decide +kernel
theorem dX12_missing_158 : decode cX12_missing 158 = .ok (.invokevirtual 106, 3) := by decide +kernel
theorem dX12_missing_161 : decode cX12_missing 161 = .ok (.ireturn, 1) := by decide +kernel
theorem dX12_off_0 : decode cX12_off 0 = .ok (.aload_n 0, 1) := by decide +kernel
theorem dX12_off_1 : decode cX12_off 1 = .ok (.iconst 0, 1) := by decide +kernel
theorem dX12_off_2 : decode cX12_off 2 = .ok (.putfield 92, 3) := by decide +kernel
theorem dX12_off_5 : decode cX12_off 5 = .ok (.aload_n 0, 1) := by decide +kernel
theorem dX12_off_6 : decode cX12_off 6 = .ok (.iload_n 1, 1) := by decide +kernel
theorem dX12_off_7 : decode cX12_off 7 = .ok (.invokevirtual 138, 3) := by decide +kernel
theorem dX12_off_10 : decode cX12_off 10 = .ok (.ifCond .eq 17, 3) := by decide +kernel
theorem dX12_off_13 : decode cX12_off 13 = .ok (.iload_n 2, 1) := by decide +kernel
theorem dX12_off_14 : decode cX12_off 14 = .ok (.invokestatic 127, 3) := by decide +kernel
theorem dX12_off_17 : decode cX12_off 17 = .ok (.ifCond .eq 10, 3) := by decide +kernel
theorem dX12_off_20 : decode cX12_off 20 = .ok (.iload_n 3, 1) := by decide +kernel
theorem dX12_off_21 : decode cX12_off 21 = .ok (.invokestatic 127, 3) := by decide +kernel
theorem dX12_off_24 : decode cX12_off 24 = .ok (.ifCond .ne 5, 3) := by decide +kernel
theorem dX12_off_27 : decode cX12_off 27 = .ok (.iconst (-1), 1) := by decide +kernel
theorem dX12_off_28 : decode cX12_off 28 = .ok (.ireturn, 1) := by decide +kernel
theorem dX12_off_29 : decode cX12_off 29 = .ok (.aload_n 0, 1) := by decide +kernel
theorem dX12_off_30 : decode cX12_off 30 = .ok (.iload_n 3, 1) := by decide +kernel
theorem dX12_off_31 : decode cX12_off 31 = .ok (.invokevirtual 186, 3) := by decide +kernel
theorem dX12_off_34 : decode cX12_off 34 = .ok (.aload_n 0, 1) := by decide +kernel
theorem dX12_off_35 : decode cX12_off 35 = .ok (.iload_n 1, 1) := by decide +kernel
theorem dX12_off_36 : decode cX12_off 36 = .ok (.invokevirtual 463, 3) := by decide +kernel
theorem dX12_off_39 : decode cX12_off 39 = .ok (.aload_n 0, 1) := by decide +kernel
theorem dX12_off_40 : decode cX12_off 40 = .ok (.iload_n 1, 1) := by decide +kernel
theorem dX12_off_41 : decode cX12_off 41 = .ok (.iload_n 2, 1) := by decide +kernel
theorem dX12_off_42 : decode cX12_off 42 = .ok (.invokevirtual 457, 3) := by decide +kernel
theorem dX12_off_45 : decode cX12_off 45 = .ok (.aload_n 0, 1) := by decide +kernel
theorem dX12_off_46 : decode cX12_off 46 = .ok (.iconst 5, 1) := by decide +kernel
theorem dX12_off_47 : decode cX12_off 47 = .ok (.iconst 0, 1) := by decide +kernel
theorem dX12_off_48 : decode cX12_off 48 = .ok (.iconst (-1), 1) := by decide +kernel
theorem dX12_off_49 : decode cX12_off 49 = .ok (.invokevirtual 175, 3) := by decide +kernel
theorem dX12_off_52 : decode cX12_off 52 = .ok (.ifCond .eq 7, 3) := by decide +kernel
theorem dX12_off_55 : decode cX12_off 55 = .ok (.iconst 1, 1) := by decide +kernel
theorem dX12_off_56 : decode cX12_off 56 = .ok (.goto 4, 3) := by decide +kernel
theorem dX12_off_59 : decode cX12_off 59 = .ok (.iconst 0, 1) := by decide +kernel
theorem dX12_off_60 : decode cX12_off 60 = .ok (.ireturn, 1) := by decide +kernel
theorem dX12_pay_0 : decode cX12_pay 0 = .ok (.aload_n 0, 1) := by decide +kernel
theorem dX12_pay_1 : decode cX12_pay 1 = .ok (.iconst 0, 1) := by decide +kernel
theorem dX12_pay_2 : decode cX12_pay 2 = .ok (.putfield 92, 3) := by decide +kernel
theorem dX12_pay_5 : decode cX12_pay 5 = .ok (.iload_n 2, 1) := by decide +kernel
theorem dX12_pay_6 : decode cX12_pay 6 = .ok (.invokestatic 460, 3) := by decide +kernel
theorem dX12_pay_9 : decode cX12_pay 9 = .ok (.ifCond .eq 10, 3) := by decide +kernel
theorem dX12_pay_12 : decode cX12_pay 12 = .ok (.iload_n 3, 1) := by decide +kernel
theorem dX12_pay_13 : decode cX12_pay 13 = .ok (.invokestatic 127, 3) := by decide +kernel
theorem dX12_pay_16 : decode cX12_pay 16 = .ok (.ifCond .ne 9, 3) := by decide +kernel
theorem dX12_pay_19 : decode cX12_pay 19 = .ok (.aload_n 0, 1) := by decide +kernel
theorem dX12_pay_20 : decode cX12_pay 20 = .ok (.iconst (-1), 1) := by decide +kernel
theorem dX12_pay_21 : decode cX12_pay 21 = .ok (.invokevirtual 106, 3) := by decide +kernel
theorem dX12_pay_24 : decode cX12_pay 24 = .ok (.ireturn, 1) := by decide +kernel
theorem dX12_pay_25 : decode cX12_pay 25 = .ok (.aload_n 0, 1) := by decide +kernel
theorem dX12_pay_26 : decode cX12_pay 26 = .ok (.iload_n 1, 1) := by decide +kernel
theorem dX12_pay_27 : decode cX12_pay 27 = .ok (.invokevirtual 138, 3) := by decide +kernel
theorem dX12_pay_30 : decode cX12_pay 30 = .ok (.ifCond .ne 10, 3) := by decide +kernel
theorem dX12_pay_33 : decode cX12_pay 33 = .ok (.aload_n 0, 1) := by decide +kernel
theorem dX12_pay_34 : decode cX12_pay 34 = .ok (.bipush (-2), 2) := by decide +kernel
theorem dX12_pay_36 : decode cX12_pay 36 = .ok (.invokevirtual 106, 3) := by decide +kernel
theorem dX12_pay_39 : decode cX12_pay 39 = .ok (.ireturn, 1) := by decide +kernel
theorem dX12_pay_40 : decode cX12_pay 40 = .ok (.aload_n 0, 1) := by decide +kernel
theorem dX12_pay_41 : decode cX12_pay 41 = .ok (.iload_n 1, 1) := by decide +kernel
theorem dX12_pay_42 : decode cX12_pay 42 = .ok (.iload_n 2, 1) := by decide +kernel
theorem dX12_pay_43 : decode cX12_pay 43 = .ok (.invokevirtual 469, 3) := by decide +kernel
theorem dX12_pay_46 : decode cX12_pay 46 = .ok (.istore 4, 2) := by decide +kernel
theorem dX12_pay_48 : decode cX12_pay 48 = .ok (.iload 4, 2) := by decide +kernel
theorem dX12_pay_50 : decode cX12_pay 50 = .ok (.iconst (-1), 1) := by decide +kernel
theorem dX12_pay_51 : decode cX12_pay 51 = .ok (.if_icmp .eq 9, 3) := by decide +kernel
theorem dX12_pay_54 : decode cX12_pay 54 = .ok (.iload 4, 2) := by decide +kernel
theorem dX12_pay_56 : decode cX12_pay 56 = .ok (.iload_n 3, 1) := by decide +kernel
theorem dX12_pay_57 : decode cX12_pay 57 = .ok (.if_icmp .le 10, 3) := by decide +kernel
theorem dX12_pay_60 : decode cX12_pay 60 = .ok (.aload_n 0, 1) := by decide +kernel
theorem dX12_pay_61 : decode cX12_pay 61 = .ok (.bipush (-3), 2) := by decide +kernel
theorem dX12_pay_63 : decode cX12_pay 63 = .ok (.invokevirtual 106, 3) := by decide +kernel
theorem dX12_pay_66 : decode cX12_pay 66 = .ok (.ireturn, 1) := by decide +kernel
theorem dX12_pay_67 : decode cX12_pay 67 = .ok (.iload_n 1, 1) := by decide +kernel
theorem dX12_pay_68 : decode cX12_pay 68 = .ok (.invokestatic 120, 3) := by decide +kernel
theorem dX12_pay_71 : decode cX12_pay 71 = .ok (.istore 5, 2) := by decide +kernel
theorem dX12_pay_73 : decode cX12_pay 73 = .ok (.aload_n 0, 1) := by decide +kernel
theorem dX12_pay_74 : decode cX12_pay 74 = .ok (.getfield 7, 3) := by decide +kernel
theorem dX12_pay_77 : decode cX12_pay 77 = .ok (.iload 5, 2) := by decide +kernel
theorem dX12_pay_79 : decode cX12_pay 79 = .ok (.bipush 9, 2) := by decide +kernel
theorem dX12_pay_81 : decode cX12_pay 81 = .ok (.iadd, 1) := by decide +kernel
theorem dX12_pay_82 : decode cX12_pay 82 = .ok (.iload_n 2, 1) := by decide +kernel
theorem dX12_pay_83 : decode cX12_pay 83 = .ok (.iadd, 1) := by decide +kernel
theorem dX12_pay_84 : decode cX12_pay 84 = .ok (.iaload, 1) := by decide +kernel
theorem dX12_pay_85 : decode cX12_pay 85 = .ok (.iconst (-1), 1) := by decide +kernel
theorem dX12_pay_86 : decode cX12_pay 86 = .ok (.if_icmp .eq 10, 3) := by decide +kernel
theorem dX12_pay_89 : decode cX12_pay 89 = .ok (.aload_n 0, 1) := by decide +kernel
theorem dX12_pay_90 : decode cX12_pay 90 = .ok (.bipush (-4), 2) := by decide +kernel
theorem dX12_pay_92 : decode cX12_pay 92 = .ok (.invokevirtual 106, 3) := by decide +kernel
theorem dX12_pay_95 : decode cX12_pay 95 = .ok (.ireturn, 1) := by decide +kernel
theorem dX12_pay_96 : decode cX12_pay 96 = .ok (.aload_n 0, 1) := by decide +kernel
theorem dX12_pay_97 : decode cX12_pay 97 = .ok (.iload_n 1, 1) := by decide +kernel
theorem dX12_pay_98 : decode cX12_pay 98 = .ok (.iload_n 2, 1) := by decide +kernel
theorem dX12_pay_99 : decode cX12_pay 99 = .ok (.invokevirtual 481, 3) := by decide +kernel
theorem dX12_pay_102 : decode cX12_pay 102 = .ok (.istore 6, 2) := by decide +kernel
theorem dX12_pay_104 : decode cX12_pay 104 = .ok (.aload_n 0, 1) := by decide +kernel
theorem dX12_pay_105 : decode cX12_pay 105 = .ok (.getfield 7, 3) := by decide +kernel
theorem dX12_pay_108 : decode cX12_pay 108 = .ok (.iload 5, 2) := by decide +kernel
theorem dX12_pay_110 : decode cX12_pay 110 = .ok (.bipush 9, 2) := by decide +kernel
theorem dX12_pay_112 : decode cX12_pay 112 = .ok (.iadd, 1) := by decide +kernel
theorem dX12_pay_113 : decode cX12_pay 113 = .ok (.iload_n 2, 1) := by decide +kernel
theorem dX12_pay_114 : decode cX12_pay 114 = .ok (.iadd, 1) := by decide +kernel
theorem dX12_pay_115 : decode cX12_pay 115 = .ok (.iload_n 3, 1) := by decide +kernel
theorem dX12_pay_116 : decode cX12_pay 116 = .ok (.iastore, 1) := by decide +kernel
theorem dX12_pay_117 : decode cX12_pay 117 = .ok (.aload_n 0, 1) := by decide +kernel
theorem dX12_pay_118 : decode cX12_pay 118 = .ok (.getfield 7, 3) := by decide +kernel
theorem dX12_pay_121 : decode cX12_pay 121 = .ok (.iload 5, 2) := by decide +kernel
theorem dX12_pay_123 : decode cX12_pay 123 = .ok (.bipush 13, 2) := by decide +kernel
theorem dX12_pay_125 : decode cX12_pay 125 = .ok (.iadd, 1) := by decide +kernel
theorem dX12_pay_126 : decode cX12_pay 126 = .ok (.iload_n 2, 1) := by decide +kernel
theorem dX12_pay_127 : decode cX12_pay 127 = .ok (.iadd, 1) := by decide +kernel
theorem dX12_pay_128 : decode cX12_pay 128 = .ok (.iload_n 3, 1) := by decide +kernel
theorem dX12_pay_129 : decode cX12_pay 129 = .ok (.iload 4, 2) := by decide +kernel
theorem dX12_pay_131 : decode cX12_pay 131 = .ok (.aload_n 0, 1) := by decide +kernel
theorem dX12_pay_132 : decode cX12_pay 132 = .ok (.getfield 478, 3) := by decide +kernel
theorem dX12_pay_135 : decode cX12_pay 135 = .ok (.iadd, 1) := by decide +kernel
theorem dX12_pay_136 : decode cX12_pay 136 = .ok (.if_icmp .ge 10, 3) := by decide +kernel
theorem dX12_pay_139 : decode cX12_pay 139 = .ok (.iload 6, 2) := by decide +kernel
theorem dX12_pay_141 : decode cX12_pay 141 = .ok (.iconst 2, 1) := by decide +kernel
theorem dX12_pay_142 : decode cX12_pay 142 = .ok (.idiv, 1) := by decide +kernel
theorem dX12_pay_143 : decode cX12_pay 143 = .ok (.goto 5, 3) := by decide +kernel
theorem dX12_pay_146 : decode cX12_pay 146 = .ok (.iload 6, 2) := by decide +kernel
theorem dX12_pay_148 : decode cX12_pay 148 = .ok (.iastore, 1) := by decide +kernel
theorem dX12_pay_149 : decode cX12_pay 149 = .ok (.aload_n 0, 1) := by decide +kernel
theorem dX12_pay_150 : decode cX12_pay 150 = .ok (.aload_n 0, 1) := by decide +kernel
theorem dX12_pay_151 : decode cX12_pay 151 = .ok (.getfield 7, 3) := by decide +kernel
theorem dX12_pay_154 : decode cX12_pay 154 = .ok (.iload 5, 2) := by decide +kernel
theorem dX12_pay_156 : decode cX12_pay 156 = .ok (.bipush 13, 2) := by decide +kernel
theorem dX12_pay_158 : decode cX12_pay 158 = .ok (.iadd, 1) := by decide +kernel
theorem dX12_pay_159 : decode cX12_pay 159 = .ok (.iload_n 2, 1) := by decide +kernel
theorem dX12_pay_160 : decode cX12_pay 160 = .ok (.iadd, 1) := by decide +kernel
theorem dX12_pay_161 : decode cX12_pay 161 = .ok (.iaload, 1) := by decide +kernel
theorem dX12_pay_162 : decode cX12_pay 162 = .ok (.invokevirtual 106, 3) := by decide +kernel
theorem dX12_pay_165 : decode cX12_pay 165 = .ok (.ireturn, 1) := by decide +kernel
theorem dX12_rate_0 : decode cX12_rate 0 = .ok (.aload_n 0, 1) := by decide +kernel
theorem dX12_rate_1 : decode cX12_rate 1 = .ok (.iconst 0, 1) := by decide +kernel
theorem dX12_rate_2 : decode cX12_rate 2 = .ok (.putfield 92, 3) := by decide +kernel
theorem dX12_rate_5 : decode cX12_rate 5 = .ok (.aload_n 0, 1) := by decide +kernel
theorem dX12_rate_6 : decode cX12_rate 6 = .ok (.iload_n 1, 1) := by decide +kernel
theorem dX12_rate_7 : decode cX12_rate 7 = .ok (.invokevirtual 138, 3) := by decide +kernel
theorem dX12_rate_10 : decode cX12_rate 10 = .ok (.ifCond .eq 42, 3) := by decide +kernel
theorem dX12_rate_13 : decode cX12_rate 13 = .ok (.iload_n 3, 1) := by decide +kernel
theorem dX12_rate_14 : decode cX12_rate 14 = .ok (.invokestatic 145, 3) := by decide +kernel
theorem dX12_rate_17 : decode cX12_rate 17 = .ok (.ifCond .eq 35, 3) := by decide +kernel
theorem dX12_rate_20 : decode cX12_rate 20 = .ok (.iload_n 2, 1) := by decide +kernel
theorem dX12_rate_21 : decode cX12_rate 21 = .ok (.i2l, 1) := by decide +kernel
theorem dX12_rate_22 : decode cX12_rate 22 = .ok (.lconst 0, 1) := by decide +kernel
theorem dX12_rate_23 : decode cX12_rate 23 = .ok (.iload_n 3, 1) := by decide +kernel
theorem dX12_rate_24 : decode cX12_rate 24 = .ok (.i2l, 1) := by decide +kernel
theorem dX12_rate_25 : decode cX12_rate 25 = .ok (.invokestatic 100, 3) := by decide +kernel
theorem dX12_rate_28 : decode cX12_rate 28 = .ok (.ifCond .eq 24, 3) := by decide +kernel
theorem dX12_rate_31 : decode cX12_rate 31 = .ok (.iload 4, 2) := by decide +kernel
theorem dX12_rate_33 : decode cX12_rate 33 = .ok (.invokestatic 127, 3) := by decide +kernel
theorem dX12_rate_36 : decode cX12_rate 36 = .ok (.ifCond .eq 16, 3) := by decide +kernel
theorem dX12_rate_39 : decode cX12_rate 39 = .ok (.iload 5, 2) := by decide +kernel
theorem dX12_rate_41 : decode cX12_rate 41 = .ok (.i2l, 1) := by decide +kernel
theorem dX12_rate_42 : decode cX12_rate 42 = .ok (.lconst 0, 1) := by decide +kernel
theorem dX12_rate_43 : decode cX12_rate 43 = .ok (.ldc2_w 110, 3) := by decide +kernel
theorem dX12_rate_46 : decode cX12_rate 46 = .ok (.invokestatic 100, 3) := by decide +kernel
theorem dX12_rate_49 : decode cX12_rate 49 = .ok (.ifCond .ne 5, 3) := by decide +kernel
theorem dX12_rate_52 : decode cX12_rate 52 = .ok (.iconst (-1), 1) := by decide +kernel
theorem dX12_rate_53 : decode cX12_rate 53 = .ok (.ireturn, 1) := by decide +kernel
theorem dX12_rate_54 : decode cX12_rate 54 = .ok (.aload_n 0, 1) := by decide +kernel
theorem dX12_rate_55 : decode cX12_rate 55 = .ok (.iload 4, 2) := by decide +kernel
theorem dX12_rate_57 : decode cX12_rate 57 = .ok (.invokevirtual 186, 3) := by decide +kernel
theorem dX12_rate_60 : decode cX12_rate 60 = .ok (.aload_n 0, 1) := by decide +kernel
theorem dX12_rate_61 : decode cX12_rate 61 = .ok (.iload_n 1, 1) := by decide +kernel
theorem dX12_rate_62 : decode cX12_rate 62 = .ok (.iconst (-1), 1) := by decide +kernel
theorem dX12_rate_63 : decode cX12_rate 63 = .ok (.iload_n 2, 1) := by decide +kernel
theorem dX12_rate_64 : decode cX12_rate 64 = .ok (.iload_n 3, 1) := by decide +kernel
theorem dX12_rate_65 : decode cX12_rate 65 = .ok (.invokevirtual 450, 3) := by decide +kernel
theorem dX12_rate_68 : decode cX12_rate 68 = .ok (.aload_n 0, 1) := by decide +kernel
theorem dX12_rate_69 : decode cX12_rate 69 = .ok (.iload 5, 2) := by decide +kernel
theorem dX12_rate_71 : decode cX12_rate 71 = .ok (.invokevirtual 454, 3) := by decide +kernel
theorem dX12_rate_74 : decode cX12_rate 74 = .ok (.ireturn, 1) := by decide +kernel
theorem dX12_reckon_0 : decode cX12_reckon 0 = .ok (.iload_n 1, 1) := by decide +kernel
theorem dX12_reckon_1 : decode cX12_reckon 1 = .ok (.tableswitch 112 20 25 #[39, 44, 49, 54, 86, 99], 39) := by decide +kernel
theorem dX12_reckon_40 : decode cX12_reckon 40 = .ok (.lload_n 2, 1) := by decide +kernel
theorem dX12_reckon_41 : decode cX12_reckon 41 = .ok (.lload 4, 2) := by decide +kernel
theorem dX12_reckon_43 : decode cX12_reckon 43 = .ok (.ladd, 1) := by decide +kernel
theorem dX12_reckon_44 : decode cX12_reckon 44 = .ok (.lreturn, 1) := by decide +kernel
theorem dX12_reckon_45 : decode cX12_reckon 45 = .ok (.lload_n 2, 1) := by decide +kernel
theorem dX12_reckon_46 : decode cX12_reckon 46 = .ok (.lload 4, 2) := by decide +kernel
theorem dX12_reckon_48 : decode cX12_reckon 48 = .ok (.lsub, 1) := by decide +kernel
theorem dX12_reckon_49 : decode cX12_reckon 49 = .ok (.lreturn, 1) := by decide +kernel
theorem dX12_reckon_50 : decode cX12_reckon 50 = .ok (.lload_n 2, 1) := by decide +kernel
theorem dX12_reckon_51 : decode cX12_reckon 51 = .ok (.lload 4, 2) := by decide +kernel
theorem dX12_reckon_53 : decode cX12_reckon 53 = .ok (.lmul, 1) := by decide +kernel
theorem dX12_reckon_54 : decode cX12_reckon 54 = .ok (.lreturn, 1) := by decide +kernel
theorem dX12_reckon_55 : decode cX12_reckon 55 = .ok (.aload_n 0, 1) := by decide +kernel
theorem dX12_reckon_56 : decode cX12_reckon 56 = .ok (.lload 4, 2) := by decide +kernel
theorem dX12_reckon_58 : decode cX12_reckon 58 = .ok (.lconst 0, 1) := by decide +kernel
theorem dX12_reckon_59 : decode cX12_reckon 59 = .ok (.lcmp, 1) := by decide +kernel
theorem dX12_reckon_60 : decode cX12_reckon 60 = .ok (.ifCond .ne 7, 3) := by decide +kernel
theorem dX12_reckon_63 : decode cX12_reckon 63 = .ok (.iconst 1, 1) := by decide +kernel
theorem dX12_reckon_64 : decode cX12_reckon 64 = .ok (.goto 4, 3) := by decide +kernel
theorem dX12_reckon_67 : decode cX12_reckon 67 = .ok (.iconst 0, 1) := by decide +kernel
theorem dX12_reckon_68 : decode cX12_reckon 68 = .ok (.putfield 416, 3) := by decide +kernel
theorem dX12_reckon_71 : decode cX12_reckon 71 = .ok (.aload_n 0, 1) := by decide +kernel
theorem dX12_reckon_72 : decode cX12_reckon 72 = .ok (.getfield 416, 3) := by decide +kernel
theorem dX12_reckon_75 : decode cX12_reckon 75 = .ok (.ifCond .eq 7, 3) := by decide +kernel
theorem dX12_reckon_78 : decode cX12_reckon 78 = .ok (.lconst 0, 1) := by decide +kernel
theorem dX12_reckon_79 : decode cX12_reckon 79 = .ok (.goto 7, 3) := by decide +kernel
theorem dX12_reckon_82 : decode cX12_reckon 82 = .ok (.lload_n 2, 1) := by decide +kernel
theorem dX12_reckon_83 : decode cX12_reckon 83 = .ok (.lload 4, 2) := by decide +kernel
theorem dX12_reckon_85 : decode cX12_reckon 85 = .ok (.ldiv, 1) := by decide +kernel
theorem dX12_reckon_86 : decode cX12_reckon 86 = .ok (.lreturn, 1) := by decide +kernel
theorem dX12_reckon_87 : decode cX12_reckon 87 = .ok (.lload_n 2, 1) := by decide +kernel
theorem dX12_reckon_88 : decode cX12_reckon 88 = .ok (.lload 4, 2) := by decide +kernel
theorem dX12_reckon_90 : decode cX12_reckon 90 = .ok (.lcmp, 1) := by decide +kernel
theorem dX12_reckon_91 : decode cX12_reckon 91 = .ok (.ifCond .ge 7, 3) := by decide +kernel
theorem dX12_reckon_94 : decode cX12_reckon 94 = .ok (.lconst 1, 1) := by decide +kernel
theorem dX12_reckon_95 : decode cX12_reckon 95 = .ok (.goto 4, 3) := by decide +kernel
theorem dX12_reckon_98 : decode cX12_reckon 98 = .ok (.lconst 0, 1) := by decide +kernel
theorem dX12_reckon_99 : decode cX12_reckon 99 = .ok (.lreturn, 1) := by decide +kernel
theorem dX12_reckon_100 : decode cX12_reckon 100 = .ok (.lload_n 2, 1) := by decide +kernel
theorem dX12_reckon_101 : decode cX12_reckon 101 = .ok (.lload 4, 2) := by decide +kernel
theorem dX12_reckon_103 : decode cX12_reckon 103 = .ok (.lcmp, 1) := by decide +kernel
theorem dX12_reckon_104 : decode cX12_reckon 104 = .ok (.ifCond .le 7, 3) := by decide +kernel
theorem dX12_reckon_107 : decode cX12_reckon 107 = .ok (.lconst 1, 1) := by decide +kernel
theorem dX12_reckon_108 : decode cX12_reckon 108 = .ok (.goto 4, 3) := by decide +kernel
theorem dX12_reckon_111 : decode cX12_reckon 111 = .ok (.lconst 0, 1) := by decide +kernel
theorem dX12_reckon_112 : decode cX12_reckon 112 = .ok (.lreturn, 1) := by decide +kernel
theorem dX12_reckon_113 : decode cX12_reckon 113 = .ok (.lload_n 2, 1) := by decide +kernel
theorem dX12_reckon_114 : decode cX12_reckon 114 = .ok (.lload 4, 2) := by decide +kernel
theorem dX12_reckon_116 : decode cX12_reckon 116 = .ok (.lcmp, 1) := by decide +kernel
theorem dX12_reckon_117 : decode cX12_reckon 117 = .ok (.ifCond .ne 7, 3) := by decide +kernel
theorem dX12_reckon_120 : decode cX12_reckon 120 = .ok (.lconst 1, 1) := by decide +kernel
theorem dX12_reckon_121 : decode cX12_reckon 121 = .ok (.goto 4, 3) := by decide +kernel
theorem dX12_reckon_124 : decode cX12_reckon 124 = .ok (.lconst 0, 1) := by decide +kernel
theorem dX12_reckon_125 : decode cX12_reckon 125 = .ok (.lreturn, 1) := by decide +kernel
theorem dX12_record_0 : decode cX12_record 0 = .ok (.aload_n 0, 1) := by decide +kernel
theorem dX12_record_1 : decode cX12_record 1 = .ok (.iconst 0, 1) := by decide +kernel
theorem dX12_record_2 : decode cX12_record 2 = .ok (.putfield 92, 3) := by decide +kernel
theorem dX12_record_5 : decode cX12_record 5 = .ok (.iload_n 1, 1) := by decide +kernel
theorem dX12_record_6 : decode cX12_record 6 = .ok (.i2l, 1) := by decide +kernel
theorem dX12_record_7 : decode cX12_record 7 = .ok (.lconst 0, 1) := by decide +kernel
theorem dX12_record_8 : decode cX12_record 8 = .ok (.ldc2_w 496, 3) := by decide +kernel
theorem dX12_record_11 : decode cX12_record 11 = .ok (.invokestatic 100, 3) := by decide +kernel
theorem dX12_record_14 : decode cX12_record 14 = .ok (.ifCond .ne 9, 3) := by decide +kernel
theorem dX12_record_17 : decode cX12_record 17 = .ok (.aload_n 0, 1) := by decide +kernel
theorem dX12_record_18 : decode cX12_record 18 = .ok (.iconst (-1), 1) := by decide +kernel
theorem dX12_record_19 : decode cX12_record 19 = .ok (.invokevirtual 106, 3) := by decide +kernel
theorem dX12_record_22 : decode cX12_record 22 = .ok (.ireturn, 1) := by decide +kernel
theorem dX12_record_23 : decode cX12_record 23 = .ok (.aload_n 0, 1) := by decide +kernel
theorem dX12_record_24 : decode cX12_record 24 = .ok (.getfield 7, 3) := by decide +kernel
theorem dX12_record_27 : decode cX12_record 27 = .ok (.iconst 5, 1) := by decide +kernel
theorem dX12_record_28 : decode cX12_record 28 = .ok (.iaload, 1) := by decide +kernel
theorem dX12_record_29 : decode cX12_record 29 = .ok (.bipush 6, 2) := by decide +kernel
theorem dX12_record_31 : decode cX12_record 31 = .ok (.if_icmp .ne 10, 3) := by decide +kernel
theorem dX12_record_34 : decode cX12_record 34 = .ok (.aload_n 0, 1) := by decide +kernel
theorem dX12_record_35 : decode cX12_record 35 = .ok (.bipush (-5), 2) := by decide +kernel
theorem dX12_record_37 : decode cX12_record 37 = .ok (.invokevirtual 106, 3) := by decide +kernel
theorem dX12_record_40 : decode cX12_record 40 = .ok (.ireturn, 1) := by decide +kernel
theorem dX12_record_41 : decode cX12_record 41 = .ok (.aload_n 0, 1) := by decide +kernel
theorem dX12_record_42 : decode cX12_record 42 = .ok (.getfield 7, 3) := by decide +kernel
theorem dX12_record_45 : decode cX12_record 45 = .ok (.sipush 6980, 3) := by decide +kernel
theorem dX12_record_48 : decode cX12_record 48 = .ok (.aload_n 0, 1) := by decide +kernel
theorem dX12_record_49 : decode cX12_record 49 = .ok (.getfield 7, 3) := by decide +kernel
theorem dX12_record_52 : decode cX12_record 52 = .ok (.iconst 5, 1) := by decide +kernel
theorem dX12_record_53 : decode cX12_record 53 = .ok (.iaload, 1) := by decide +kernel
theorem dX12_record_54 : decode cX12_record 54 = .ok (.iadd, 1) := by decide +kernel
theorem dX12_record_55 : decode cX12_record 55 = .ok (.iload_n 1, 1) := by decide +kernel
theorem dX12_record_56 : decode cX12_record 56 = .ok (.iastore, 1) := by decide +kernel
theorem dX12_record_57 : decode cX12_record 57 = .ok (.aload_n 0, 1) := by decide +kernel
theorem dX12_record_58 : decode cX12_record 58 = .ok (.getfield 7, 3) := by decide +kernel
theorem dX12_record_61 : decode cX12_record 61 = .ok (.iconst 5, 1) := by decide +kernel
theorem dX12_record_62 : decode cX12_record 62 = .ok (.dup2, 1) := by decide +kernel
theorem dX12_record_63 : decode cX12_record 63 = .ok (.iaload, 1) := by decide +kernel
theorem dX12_record_64 : decode cX12_record 64 = .ok (.iconst 1, 1) := by decide +kernel
theorem dX12_record_65 : decode cX12_record 65 = .ok (.iadd, 1) := by decide +kernel
theorem dX12_record_66 : decode cX12_record 66 = .ok (.iastore, 1) := by decide +kernel
theorem dX12_record_67 : decode cX12_record 67 = .ok (.aload_n 0, 1) := by decide +kernel
theorem dX12_record_68 : decode cX12_record 68 = .ok (.aload_n 0, 1) := by decide +kernel
theorem dX12_record_69 : decode cX12_record 69 = .ok (.getfield 7, 3) := by decide +kernel
theorem dX12_record_72 : decode cX12_record 72 = .ok (.iconst 5, 1) := by decide +kernel
theorem dX12_record_73 : decode cX12_record 73 = .ok (.iaload, 1) := by decide +kernel
theorem dX12_record_74 : decode cX12_record 74 = .ok (.invokevirtual 106, 3) := by decide +kernel
theorem dX12_record_77 : decode cX12_record 77 = .ok (.ireturn, 1) := by decide +kernel
theorem dX12_rolls_0 : decode cX12_rolls 0 = .ok (.aload_n 0, 1) := by decide +kernel
theorem dX12_rolls_1 : decode cX12_rolls 1 = .ok (.iconst 0, 1) := by decide +kernel
theorem dX12_rolls_2 : decode cX12_rolls 2 = .ok (.putfield 92, 3) := by decide +kernel
theorem dX12_rolls_5 : decode cX12_rolls 5 = .ok (.iload_n 1, 1) := by decide +kernel
theorem dX12_rolls_6 : decode cX12_rolls 6 = .ok (.invokestatic 127, 3) := by decide +kernel
theorem dX12_rolls_9 : decode cX12_rolls 9 = .ok (.ifCond .eq 15, 3) := by decide +kernel
theorem dX12_rolls_12 : decode cX12_rolls 12 = .ok (.iload_n 2, 1) := by decide +kernel
theorem dX12_rolls_13 : decode cX12_rolls 13 = .ok (.i2l, 1) := by decide +kernel
theorem dX12_rolls_14 : decode cX12_rolls 14 = .ok (.lconst 0, 1) := by decide +kernel
theorem dX12_rolls_15 : decode cX12_rolls 15 = .ok (.ldc2_w 484, 3) := by decide +kernel
theorem dX12_rolls_18 : decode cX12_rolls 18 = .ok (.invokestatic 100, 3) := by decide +kernel
theorem dX12_rolls_21 : decode cX12_rolls 21 = .ok (.ifCond .ne 5, 3) := by decide +kernel
theorem dX12_rolls_24 : decode cX12_rolls 24 = .ok (.iconst (-1), 1) := by decide +kernel
theorem dX12_rolls_25 : decode cX12_rolls 25 = .ok (.ireturn, 1) := by decide +kernel
theorem dX12_rolls_26 : decode cX12_rolls 26 = .ok (.iconst 0, 1) := by decide +kernel
theorem dX12_rolls_27 : decode cX12_rolls 27 = .ok (.istore 4, 2) := by decide +kernel
theorem dX12_rolls_29 : decode cX12_rolls 29 = .ok (.iconst (-1), 1) := by decide +kernel
theorem dX12_rolls_30 : decode cX12_rolls 30 = .ok (.istore 5, 2) := by decide +kernel
theorem dX12_rolls_32 : decode cX12_rolls 32 = .ok (.iconst 0, 1) := by decide +kernel
theorem dX12_rolls_33 : decode cX12_rolls 33 = .ok (.istore 6, 2) := by decide +kernel
theorem dX12_rolls_35 : decode cX12_rolls 35 = .ok (.iload 6, 2) := by decide +kernel
theorem dX12_rolls_37 : decode cX12_rolls 37 = .ok (.aload_n 0, 1) := by decide +kernel
theorem dX12_rolls_38 : decode cX12_rolls 38 = .ok (.getfield 7, 3) := by decide +kernel
theorem dX12_rolls_41 : decode cX12_rolls 41 = .ok (.iconst 0, 1) := by decide +kernel
theorem dX12_rolls_42 : decode cX12_rolls 42 = .ok (.iaload, 1) := by decide +kernel
theorem dX12_rolls_43 : decode cX12_rolls 43 = .ok (.if_icmp .ge 123, 3) := by decide +kernel
theorem dX12_rolls_46 : decode cX12_rolls 46 = .ok (.iload_n 2, 1) := by decide +kernel
theorem dX12_rolls_47 : decode cX12_rolls 47 = .ok (.ifCond .ne 57, 3) := by decide +kernel
theorem dX12_rolls_50 : decode cX12_rolls 50 = .ok (.aload_n 0, 1) := by decide +kernel
theorem dX12_rolls_51 : decode cX12_rolls 51 = .ok (.getfield 7, 3) := by decide +kernel
theorem dX12_rolls_54 : decode cX12_rolls 54 = .ok (.iload 6, 2) := by decide +kernel
theorem dX12_rolls_56 : decode cX12_rolls 56 = .ok (.invokestatic 120, 3) := by decide +kernel
theorem dX12_rolls_59 : decode cX12_rolls 59 = .ok (.iaload, 1) := by decide +kernel
theorem dX12_rolls_60 : decode cX12_rolls 60 = .ok (.i2l, 1) := by decide +kernel
theorem dX12_rolls_61 : decode cX12_rolls 61 = .ok (.ldc2_w 486, 3) := by decide +kernel
theorem dX12_rolls_64 : decode cX12_rolls 64 = .ok (.ldc2_w 488, 3) := by decide +kernel
theorem dX12_rolls_67 : decode cX12_rolls 67 = .ok (.invokestatic 100, 3) := by decide +kernel
theorem dX12_rolls_70 : decode cX12_rolls 70 = .ok (.ifCond .eq 28, 3) := by decide +kernel
theorem dX12_rolls_73 : decode cX12_rolls 73 = .ok (.aload_n 0, 1) := by decide +kernel
theorem dX12_rolls_74 : decode cX12_rolls 74 = .ok (.iload 6, 2) := by decide +kernel
theorem dX12_rolls_76 : decode cX12_rolls 76 = .ok (.iconst 1, 1) := by decide +kernel
theorem dX12_rolls_77 : decode cX12_rolls 77 = .ok (.iload_n 1, 1) := by decide +kernel
theorem dX12_rolls_78 : decode cX12_rolls 78 = .ok (.invokevirtual 413, 3) := by decide +kernel
theorem dX12_rolls_81 : decode cX12_rolls 81 = .ok (.ifCond .ne 17, 3) := by decide +kernel
theorem dX12_rolls_84 : decode cX12_rolls 84 = .ok (.aload_n 0, 1) := by decide +kernel
theorem dX12_rolls_85 : decode cX12_rolls 85 = .ok (.iload 6, 2) := by decide +kernel
theorem dX12_rolls_87 : decode cX12_rolls 87 = .ok (.iload_n 1, 1) := by decide +kernel
theorem dX12_rolls_88 : decode cX12_rolls 88 = .ok (.invokevirtual 490, 3) := by decide +kernel
theorem dX12_rolls_91 : decode cX12_rolls 91 = .ok (.ifCond .ne 7, 3) := by decide +kernel
theorem dX12_rolls_94 : decode cX12_rolls 94 = .ok (.iconst 1, 1) := by decide +kernel
theorem dX12_rolls_95 : decode cX12_rolls 95 = .ok (.goto 4, 3) := by decide +kernel
theorem dX12_rolls_98 : decode cX12_rolls 98 = .ok (.iconst 0, 1) := by decide +kernel
theorem dX12_rolls_99 : decode cX12_rolls 99 = .ok (.istore 7, 2) := by decide +kernel
theorem dX12_rolls_101 : decode cX12_rolls 101 = .ok (.goto 36, 3) := by decide +kernel
theorem dX12_rolls_104 : decode cX12_rolls 104 = .ok (.iload_n 2, 1) := by decide +kernel
theorem dX12_rolls_105 : decode cX12_rolls 105 = .ok (.iconst 1, 1) := by decide +kernel
theorem dX12_rolls_106 : decode cX12_rolls 106 = .ok (.if_icmp .ne 22, 3) := by decide +kernel
theorem dX12_rolls_109 : decode cX12_rolls 109 = .ok (.aload_n 0, 1) := by decide +kernel
theorem dX12_rolls_110 : decode cX12_rolls 110 = .ok (.iload 6, 2) := by decide +kernel
theorem dX12_rolls_112 : decode cX12_rolls 112 = .ok (.iload_n 1, 1) := by decide +kernel
theorem dX12_rolls_113 : decode cX12_rolls 113 = .ok (.invokevirtual 490, 3) := by decide +kernel
theorem dX12_rolls_116 : decode cX12_rolls 116 = .ok (.iconst 1, 1) := by decide +kernel
theorem dX12_rolls_117 : decode cX12_rolls 117 = .ok (.if_icmp .le 7, 3) := by decide +kernel
theorem dX12_rolls_120 : decode cX12_rolls 120 = .ok (.iconst 1, 1) := by decide +kernel
theorem dX12_rolls_121 : decode cX12_rolls 121 = .ok (.goto 14, 3) := by decide +kernel
theorem dX12_rolls_124 : decode cX12_rolls 124 = .ok (.iconst 0, 1) := by decide +kernel
theorem dX12_rolls_125 : decode cX12_rolls 125 = .ok (.goto 10, 3) := by decide +kernel
theorem dX12_rolls_128 : decode cX12_rolls 128 = .ok (.aload_n 0, 1) := by decide +kernel
theorem dX12_rolls_129 : decode cX12_rolls 129 = .ok (.iload 6, 2) := by decide +kernel
theorem dX12_rolls_131 : decode cX12_rolls 131 = .ok (.iload_n 1, 1) := by decide +kernel
theorem dX12_rolls_132 : decode cX12_rolls 132 = .ok (.invokevirtual 493, 3) := by decide +kernel
theorem dX12_rolls_135 : decode cX12_rolls 135 = .ok (.istore 7, 2) := by decide +kernel
theorem dX12_rolls_137 : decode cX12_rolls 137 = .ok (.iload 7, 2) := by decide +kernel
theorem dX12_rolls_139 : decode cX12_rolls 139 = .ok (.ifCond .eq 21, 3) := by decide +kernel
theorem dX12_rolls_142 : decode cX12_rolls 142 = .ok (.iload 4, 2) := by decide +kernel
theorem dX12_rolls_144 : decode cX12_rolls 144 = .ok (.iload_n 3, 1) := by decide +kernel
theorem dX12_rolls_145 : decode cX12_rolls 145 = .ok (.if_icmp .ne 8, 3) := by decide +kernel
theorem dX12_rolls_148 : decode cX12_rolls 148 = .ok (.iload 6, 2) := by decide +kernel
theorem dX12_rolls_150 : decode cX12_rolls 150 = .ok (.goto 5, 3) := by decide +kernel
theorem dX12_rolls_153 : decode cX12_rolls 153 = .ok (.iload 5, 2) := by decide +kernel
theorem dX12_rolls_155 : decode cX12_rolls 155 = .ok (.istore 5, 2) := by decide +kernel
theorem dX12_rolls_157 : decode cX12_rolls 157 = .ok (.iinc 4 1, 3) := by decide +kernel
theorem dX12_rolls_160 : decode cX12_rolls 160 = .ok (.iinc 6 1, 3) := by decide +kernel
theorem dX12_rolls_163 : decode cX12_rolls 163 = .ok (.goto (-128), 3) := by decide +kernel
theorem dX12_rolls_166 : decode cX12_rolls 166 = .ok (.iload_n 3, 1) := by decide +kernel
theorem dX12_rolls_167 : decode cX12_rolls 167 = .ok (.iconst (-1), 1) := by decide +kernel
theorem dX12_rolls_168 : decode cX12_rolls 168 = .ok (.if_icmp .ne 8, 3) := by decide +kernel
theorem dX12_rolls_171 : decode cX12_rolls 171 = .ok (.iload 4, 2) := by decide +kernel
theorem dX12_rolls_173 : decode cX12_rolls 173 = .ok (.goto 5, 3) := by decide +kernel
theorem dX12_rolls_176 : decode cX12_rolls 176 = .ok (.iload 5, 2) := by decide +kernel
theorem dX12_rolls_178 : decode cX12_rolls 178 = .ok (.ireturn, 1) := by decide +kernel
theorem dX12_rollsOf_0 : decode cX12_rollsOf 0 = .ok (.iconst 0, 1) := by decide +kernel
theorem dX12_rollsOf_1 : decode cX12_rollsOf 1 = .ok (.istore_n 3, 1) := by decide +kernel
theorem dX12_rollsOf_2 : decode cX12_rollsOf 2 = .ok (.iconst 0, 1) := by decide +kernel
theorem dX12_rollsOf_3 : decode cX12_rollsOf 3 = .ok (.istore 4, 2) := by decide +kernel
theorem dX12_rollsOf_5 : decode cX12_rollsOf 5 = .ok (.iload 4, 2) := by decide +kernel
theorem dX12_rollsOf_7 : decode cX12_rollsOf 7 = .ok (.aload_n 0, 1) := by decide +kernel
theorem dX12_rollsOf_8 : decode cX12_rollsOf 8 = .ok (.getfield 7, 3) := by decide +kernel
theorem dX12_rollsOf_11 : decode cX12_rollsOf 11 = .ok (.iconst 1, 1) := by decide +kernel
theorem dX12_rollsOf_12 : decode cX12_rollsOf 12 = .ok (.iaload, 1) := by decide +kernel
theorem dX12_rollsOf_13 : decode cX12_rollsOf 13 = .ok (.if_icmp .ge 28, 3) := by decide +kernel
theorem dX12_rollsOf_16 : decode cX12_rollsOf 16 = .ok (.iload_n 3, 1) := by decide +kernel
theorem dX12_rollsOf_17 : decode cX12_rollsOf 17 = .ok (.aload_n 0, 1) := by decide +kernel
theorem dX12_rollsOf_18 : decode cX12_rollsOf 18 = .ok (.iload_n 1, 1) := by decide +kernel
theorem dX12_rollsOf_19 : decode cX12_rollsOf 19 = .ok (.iload 4, 2) := by decide +kernel
theorem dX12_rollsOf_21 : decode cX12_rollsOf 21 = .ok (.iload_n 2, 1) := by decide +kernel
theorem dX12_rollsOf_22 : decode cX12_rollsOf 22 = .ok (.invokevirtual 141, 3) := by decide +kernel
theorem dX12_rollsOf_25 : decode cX12_rollsOf 25 = .ok (.ifCond .eq 7, 3) := by decide +kernel
theorem dX12_rollsOf_28 : decode cX12_rollsOf 28 = .ok (.iconst 1, 1) := by decide +kernel
theorem dX12_rollsOf_29 : decode cX12_rollsOf 29 = .ok (.goto 4, 3) := by decide +kernel
theorem dX12_rollsOf_32 : decode cX12_rollsOf 32 = .ok (.iconst 0, 1) := by decide +kernel
theorem dX12_rollsOf_33 : decode cX12_rollsOf 33 = .ok (.iadd, 1) := by decide +kernel
theorem dX12_rollsOf_34 : decode cX12_rollsOf 34 = .ok (.istore_n 3, 1) := by decide +kernel
theorem dX12_rollsOf_35 : decode cX12_rollsOf 35 = .ok (.iinc 4 1, 3) := by decide +kernel
theorem dX12_rollsOf_38 : decode cX12_rollsOf 38 = .ok (.goto (-33), 3) := by decide +kernel
theorem dX12_rollsOf_41 : decode cX12_rollsOf 41 = .ok (.iload_n 3, 1) := by decide +kernel
theorem dX12_rollsOf_42 : decode cX12_rollsOf 42 = .ok (.ireturn, 1) := by decide +kernel
theorem dX12_round_0 : decode cX12_round 0 = .ok (.aload_n 0, 1) := by decide +kernel
theorem dX12_round_1 : decode cX12_round 1 = .ok (.iconst 0, 1) := by decide +kernel
theorem dX12_round_2 : decode cX12_round 2 = .ok (.putfield 92, 3) := by decide +kernel
theorem dX12_round_5 : decode cX12_round 5 = .ok (.iload_n 1, 1) := by decide +kernel
theorem dX12_round_6 : decode cX12_round 6 = .ok (.i2l, 1) := by decide +kernel
theorem dX12_round_7 : decode cX12_round 7 = .ok (.lconst 0, 1) := by decide +kernel
theorem dX12_round_8 : decode cX12_round 8 = .ok (.ldc2_w 118, 3) := by decide +kernel
theorem dX12_round_11 : decode cX12_round 11 = .ok (.invokestatic 100, 3) := by decide +kernel
theorem dX12_round_14 : decode cX12_round 14 = .ok (.ifCond .eq 40, 3) := by decide +kernel
theorem dX12_round_17 : decode cX12_round 17 = .ok (.iload_n 2, 1) := by decide +kernel
theorem dX12_round_18 : decode cX12_round 18 = .ok (.i2l, 1) := by decide +kernel
theorem dX12_round_19 : decode cX12_round 19 = .ok (.lconst 0, 1) := by decide +kernel
theorem dX12_round_20 : decode cX12_round 20 = .ok (.ldc2_w 118, 3) := by decide +kernel
theorem dX12_round_23 : decode cX12_round 23 = .ok (.invokestatic 100, 3) := by decide +kernel
theorem dX12_round_26 : decode cX12_round 26 = .ok (.ifCond .eq 28, 3) := by decide +kernel
theorem dX12_round_29 : decode cX12_round 29 = .ok (.iload_n 3, 1) := by decide +kernel
theorem dX12_round_30 : decode cX12_round 30 = .ok (.i2l, 1) := by decide +kernel
theorem dX12_round_31 : decode cX12_round 31 = .ok (.lconst 0, 1) := by decide +kernel
theorem dX12_round_32 : decode cX12_round 32 = .ok (.ldc2_w 535, 3) := by decide +kernel
theorem dX12_round_35 : decode cX12_round 35 = .ok (.invokestatic 100, 3) := by decide +kernel
theorem dX12_round_38 : decode cX12_round 38 = .ok (.ifCond .eq 16, 3) := by decide +kernel
theorem dX12_round_41 : decode cX12_round 41 = .ok (.iload 4, 2) := by decide +kernel
theorem dX12_round_43 : decode cX12_round 43 = .ok (.i2l, 1) := by decide +kernel
theorem dX12_round_44 : decode cX12_round 44 = .ok (.lconst 0, 1) := by decide +kernel
theorem dX12_round_45 : decode cX12_round 45 = .ok (.ldc2_w 484, 3) := by decide +kernel
theorem dX12_round_48 : decode cX12_round 48 = .ok (.invokestatic 100, 3) := by decide +kernel
theorem dX12_round_51 : decode cX12_round 51 = .ok (.ifCond .ne 5, 3) := by decide +kernel
theorem dX12_round_54 : decode cX12_round 54 = .ok (.iconst (-1), 1) := by decide +kernel
theorem dX12_round_55 : decode cX12_round 55 = .ok (.ireturn, 1) := by decide +kernel
theorem dX12_round_56 : decode cX12_round 56 = .ok (.aload_n 0, 1) := by decide +kernel
theorem dX12_round_57 : decode cX12_round 57 = .ok (.iload_n 1, 1) := by decide +kernel
theorem dX12_round_58 : decode cX12_round 58 = .ok (.iload_n 2, 1) := by decide +kernel
theorem dX12_round_59 : decode cX12_round 59 = .ok (.invokevirtual 537, 3) := by decide +kernel
theorem dX12_round_62 : decode cX12_round 62 = .ok (.iconst 0, 1) := by decide +kernel
theorem dX12_round_63 : decode cX12_round 63 = .ok (.istore 5, 2) := by decide +kernel
theorem dX12_round_65 : decode cX12_round 65 = .ok (.iconst 0, 1) := by decide +kernel
theorem dX12_round_66 : decode cX12_round 66 = .ok (.istore 6, 2) := by decide +kernel
theorem dX12_round_68 : decode cX12_round 68 = .ok (.iconst 0, 1) := by decide +kernel
theorem dX12_round_69 : decode cX12_round 69 = .ok (.istore 7, 2) := by decide +kernel
theorem dX12_round_71 : decode cX12_round 71 = .ok (.iconst 1, 1) := by decide +kernel
theorem dX12_round_72 : decode cX12_round 72 = .ok (.istore 8, 2) := by decide +kernel
theorem dX12_round_74 : decode cX12_round 74 = .ok (.iload 8, 2) := by decide +kernel
theorem dX12_round_76 : decode cX12_round 76 = .ok (.iconst 1, 1) := by decide +kernel
theorem dX12_round_77 : decode cX12_round 77 = .ok (.aload_n 0, 1) := by decide +kernel
theorem dX12_round_78 : decode cX12_round 78 = .ok (.getfield 7, 3) := by decide +kernel
theorem dX12_round_81 : decode cX12_round 81 = .ok (.bipush 7, 2) := by decide +kernel
theorem dX12_round_83 : decode cX12_round 83 = .ok (.iaload, 1) := by decide +kernel
theorem dX12_round_84 : decode cX12_round 84 = .ok (.ishl, 1) := by decide +kernel
theorem dX12_round_85 : decode cX12_round 85 = .ok (.if_icmp .ge 110, 3) := by decide +kernel
theorem dX12_round_88 : decode cX12_round 88 = .ok (.aload_n 0, 1) := by decide +kernel
theorem dX12_round_89 : decode cX12_round 89 = .ok (.iload 8, 2) := by decide +kernel
theorem dX12_round_91 : decode cX12_round 91 = .ok (.iload_n 1, 1) := by decide +kernel
theorem dX12_round_92 : decode cX12_round 92 = .ok (.iload_n 2, 1) := by decide +kernel
theorem dX12_round_93 : decode cX12_round 93 = .ok (.invokevirtual 540, 3) := by decide +kernel
theorem dX12_round_96 : decode cX12_round 96 = .ok (.istore 9, 2) := by decide +kernel
theorem dX12_round_98 : decode cX12_round 98 = .ok (.iconst 0, 1) := by decide +kernel
theorem dX12_round_99 : decode cX12_round 99 = .ok (.istore 10, 2) := by decide +kernel
theorem dX12_round_101 : decode cX12_round 101 = .ok (.iconst 0, 1) := by decide +kernel
theorem dX12_round_102 : decode cX12_round 102 = .ok (.istore 11, 2) := by decide +kernel
theorem dX12_round_104 : decode cX12_round 104 = .ok (.iload 11, 2) := by decide +kernel
theorem dX12_round_106 : decode cX12_round 106 = .ok (.aload_n 0, 1) := by decide +kernel
theorem dX12_round_107 : decode cX12_round 107 = .ok (.getfield 7, 3) := by decide +kernel
theorem dX12_round_110 : decode cX12_round 110 = .ok (.bipush 7, 2) := by decide +kernel
theorem dX12_round_112 : decode cX12_round 112 = .ok (.iaload, 1) := by decide +kernel
theorem dX12_round_113 : decode cX12_round 113 = .ok (.if_icmp .ge 37, 3) := by decide +kernel
theorem dX12_round_116 : decode cX12_round 116 = .ok (.iload 10, 2) := by decide +kernel
theorem dX12_round_118 : decode cX12_round 118 = .ok (.iload 8, 2) := by decide +kernel
theorem dX12_round_120 : decode cX12_round 120 = .ok (.iload 11, 2) := by decide +kernel
theorem dX12_round_122 : decode cX12_round 122 = .ok (.ishr, 1) := by decide +kernel
theorem dX12_round_123 : decode cX12_round 123 = .ok (.iconst 1, 1) := by decide +kernel
theorem dX12_round_124 : decode cX12_round 124 = .ok (.iand, 1) := by decide +kernel
theorem dX12_round_125 : decode cX12_round 125 = .ok (.aload_n 0, 1) := by decide +kernel
theorem dX12_round_126 : decode cX12_round 126 = .ok (.getfield 7, 3) := by decide +kernel
theorem dX12_round_129 : decode cX12_round 129 = .ok (.sipush 6998, 3) := by decide +kernel
theorem dX12_round_132 : decode cX12_round 132 = .ok (.iconst 3, 1) := by decide +kernel
theorem dX12_round_133 : decode cX12_round 133 = .ok (.iload 11, 2) := by decide +kernel
theorem dX12_round_135 : decode cX12_round 135 = .ok (.imul, 1) := by decide +kernel
theorem dX12_round_136 : decode cX12_round 136 = .ok (.iadd, 1) := by decide +kernel
theorem dX12_round_137 : decode cX12_round 137 = .ok (.iconst 2, 1) := by decide +kernel
theorem dX12_round_138 : decode cX12_round 138 = .ok (.iadd, 1) := by decide +kernel
theorem dX12_round_139 : decode cX12_round 139 = .ok (.iaload, 1) := by decide +kernel
theorem dX12_round_140 : decode cX12_round 140 = .ok (.imul, 1) := by decide +kernel
theorem dX12_round_141 : decode cX12_round 141 = .ok (.iadd, 1) := by decide +kernel
theorem dX12_round_142 : decode cX12_round 142 = .ok (.istore 10, 2) := by decide +kernel
theorem dX12_round_144 : decode cX12_round 144 = .ok (.iinc 11 1, 3) := by decide +kernel
theorem dX12_round_147 : decode cX12_round 147 = .ok (.goto (-43), 3) := by decide +kernel
theorem dX12_round_150 : decode cX12_round 150 = .ok (.iload 9, 2) := by decide +kernel
theorem dX12_round_152 : decode cX12_round 152 = .ok (.iload_n 3, 1) := by decide +kernel
theorem dX12_round_153 : decode cX12_round 153 = .ok (.if_icmp .gt 36, 3) := by decide +kernel
theorem dX12_round_156 : decode cX12_round 156 = .ok (.iload 10, 2) := by decide +kernel
theorem dX12_round_158 : decode cX12_round 158 = .ok (.iload 6, 2) := by decide +kernel
theorem dX12_round_160 : decode cX12_round 160 = .ok (.if_icmp .gt 17, 3) := by decide +kernel
theorem dX12_round_163 : decode cX12_round 163 = .ok (.iload 10, 2) := by decide +kernel
theorem dX12_round_165 : decode cX12_round 165 = .ok (.iload 6, 2) := by decide +kernel
theorem dX12_round_167 : decode cX12_round 167 = .ok (.if_icmp .ne 22, 3) := by decide +kernel
theorem dX12_round_170 : decode cX12_round 170 = .ok (.iload 9, 2) := by decide +kernel
theorem dX12_round_172 : decode cX12_round 172 = .ok (.iload 7, 2) := by decide +kernel
theorem dX12_round_174 : decode cX12_round 174 = .ok (.if_icmp .ge 15, 3) := by decide +kernel
theorem dX12_round_177 : decode cX12_round 177 = .ok (.iload 8, 2) := by decide +kernel
theorem dX12_round_179 : decode cX12_round 179 = .ok (.istore 5, 2) := by decide +kernel
theorem dX12_round_181 : decode cX12_round 181 = .ok (.iload 10, 2) := by decide +kernel
theorem dX12_round_183 : decode cX12_round 183 = .ok (.istore 6, 2) := by decide +kernel
theorem dX12_round_185 : decode cX12_round 185 = .ok (.iload 9, 2) := by decide +kernel
theorem dX12_round_187 : decode cX12_round 187 = .ok (.istore 7, 2) := by decide +kernel
theorem dX12_round_189 : decode cX12_round 189 = .ok (.iinc 8 1, 3) := by decide +kernel
theorem dX12_round_192 : decode cX12_round 192 = .ok (.goto (-118), 3) := by decide +kernel
theorem dX12_round_195 : decode cX12_round 195 = .ok (.iload 4, 2) := by decide +kernel
theorem dX12_round_197 : decode cX12_round 197 = .ok (.ifCond .ne 8, 3) := by decide +kernel
theorem dX12_round_200 : decode cX12_round 200 = .ok (.iload 5, 2) := by decide +kernel
theorem dX12_round_202 : decode cX12_round 202 = .ok (.goto 16, 3) := by decide +kernel
theorem dX12_round_205 : decode cX12_round 205 = .ok (.iload 4, 2) := by decide +kernel
theorem dX12_round_207 : decode cX12_round 207 = .ok (.iconst 1, 1) := by decide +kernel
theorem dX12_round_208 : decode cX12_round 208 = .ok (.if_icmp .ne 8, 3) := by decide +kernel
theorem dX12_round_211 : decode cX12_round 211 = .ok (.iload 6, 2) := by decide +kernel
theorem dX12_round_213 : decode cX12_round 213 = .ok (.goto 5, 3) := by decide +kernel
theorem dX12_round_216 : decode cX12_round 216 = .ok (.iload 7, 2) := by decide +kernel
theorem dX12_round_218 : decode cX12_round 218 = .ok (.ireturn, 1) := by decide +kernel
theorem dX12_run_0 : decode cX12_run 0 = .ok (.aload_n 0, 1) := by decide +kernel
theorem dX12_run_1 : decode cX12_run 1 = .ok (.iconst 0, 1) := by decide +kernel
theorem dX12_run_2 : decode cX12_run 2 = .ok (.putfield 416, 3) := by decide +kernel
theorem dX12_run_5 : decode cX12_run 5 = .ok (.iconst 0, 1) := by decide +kernel
theorem dX12_run_6 : decode cX12_run 6 = .ok (.istore 4, 2) := by decide +kernel
theorem dX12_run_8 : decode cX12_run 8 = .ok (.iload_n 2, 1) := by decide +kernel
theorem dX12_run_9 : decode cX12_run 9 = .ok (.istore 5, 2) := by decide +kernel
theorem dX12_run_11 : decode cX12_run 11 = .ok (.iload 5, 2) := by decide +kernel
theorem dX12_run_13 : decode cX12_run 13 = .ok (.iload_n 3, 1) := by decide +kernel
theorem dX12_run_14 : decode cX12_run 14 = .ok (.if_icmp .ge 240, 3) := by decide +kernel
theorem dX12_run_17 : decode cX12_run 17 = .ok (.aload_n 0, 1) := by decide +kernel
theorem dX12_run_18 : decode cX12_run 18 = .ok (.getfield 416, 3) := by decide +kernel
theorem dX12_run_21 : decode cX12_run 21 = .ok (.ifCond .ne 233, 3) := by decide +kernel
theorem dX12_run_24 : decode cX12_run 24 = .ok (.aload_n 0, 1) := by decide +kernel
theorem dX12_run_25 : decode cX12_run 25 = .ok (.getfield 7, 3) := by decide +kernel
theorem dX12_run_28 : decode cX12_run 28 = .ok (.iload_n 1, 1) := by decide +kernel
theorem dX12_run_29 : decode cX12_run 29 = .ok (.invokestatic 403, 3) := by decide +kernel
theorem dX12_run_32 : decode cX12_run 32 = .ok (.bipush 122, 2) := by decide +kernel
theorem dX12_run_34 : decode cX12_run 34 = .ok (.iadd, 1) := by decide +kernel
theorem dX12_run_35 : decode cX12_run 35 = .ok (.iconst 2, 1) := by decide +kernel
theorem dX12_run_36 : decode cX12_run 36 = .ok (.iload 5, 2) := by decide +kernel
theorem dX12_run_38 : decode cX12_run 38 = .ok (.imul, 1) := by decide +kernel
theorem dX12_run_39 : decode cX12_run 39 = .ok (.iadd, 1) := by decide +kernel
theorem dX12_run_40 : decode cX12_run 40 = .ok (.iaload, 1) := by decide +kernel
theorem dX12_run_41 : decode cX12_run 41 = .ok (.istore 6, 2) := by decide +kernel
theorem dX12_run_43 : decode cX12_run 43 = .ok (.aload_n 0, 1) := by decide +kernel
theorem dX12_run_44 : decode cX12_run 44 = .ok (.getfield 7, 3) := by decide +kernel
theorem dX12_run_47 : decode cX12_run 47 = .ok (.iload_n 1, 1) := by decide +kernel
theorem dX12_run_48 : decode cX12_run 48 = .ok (.invokestatic 403, 3) := by decide +kernel
theorem dX12_run_51 : decode cX12_run 51 = .ok (.bipush 122, 2) := by decide +kernel
theorem dX12_run_53 : decode cX12_run 53 = .ok (.iadd, 1) := by decide +kernel
theorem dX12_run_54 : decode cX12_run 54 = .ok (.iconst 2, 1) := by decide +kernel
theorem dX12_run_55 : decode cX12_run 55 = .ok (.iload 5, 2) := by decide +kernel
theorem dX12_run_57 : decode cX12_run 57 = .ok (.imul, 1) := by decide +kernel
theorem dX12_run_58 : decode cX12_run 58 = .ok (.iadd, 1) := by decide +kernel
theorem dX12_run_59 : decode cX12_run 59 = .ok (.iconst 1, 1) := by decide +kernel
theorem dX12_run_60 : decode cX12_run 60 = .ok (.iadd, 1) := by decide +kernel
theorem dX12_run_61 : decode cX12_run 61 = .ok (.iaload, 1) := by decide +kernel
theorem dX12_run_62 : decode cX12_run 62 = .ok (.istore 7, 2) := by decide +kernel
theorem dX12_run_64 : decode cX12_run 64 = .ok (.iinc 5 1, 3) := by decide +kernel
theorem dX12_run_67 : decode cX12_run 67 = .ok (.iload 6, 2) := by decide +kernel
theorem dX12_run_69 : decode cX12_run 69 = .ok (.bipush 20, 2) := by decide +kernel
theorem dX12_run_71 : decode cX12_run 71 = .ok (.if_icmp .ge 34, 3) := by decide +kernel
theorem dX12_run_74 : decode cX12_run 74 = .ok (.aload_n 0, 1) := by decide +kernel
theorem dX12_run_75 : decode cX12_run 75 = .ok (.getfield 65, 3) := by decide +kernel
theorem dX12_run_78 : decode cX12_run 78 = .ok (.iload 4, 2) := by decide +kernel
theorem dX12_run_80 : decode cX12_run 80 = .ok (.iload 6, 2) := by decide +kernel
theorem dX12_run_82 : decode cX12_run 82 = .ok (.ifCond .ne 9, 3) := by decide +kernel
theorem dX12_run_85 : decode cX12_run 85 = .ok (.iload 7, 2) := by decide +kernel
theorem dX12_run_87 : decode cX12_run 87 = .ok (.i2l, 1) := by decide +kernel
theorem dX12_run_88 : decode cX12_run 88 = .ok (.goto 10, 3) := by decide +kernel
theorem dX12_run_91 : decode cX12_run 91 = .ok (.aload_n 0, 1) := by decide +kernel
theorem dX12_run_92 : decode cX12_run 92 = .ok (.getfield 61, 3) := by decide +kernel
theorem dX12_run_95 : decode cX12_run 95 = .ok (.iload 6, 2) := by decide +kernel
theorem dX12_run_97 : decode cX12_run 97 = .ok (.laload, 1) := by decide +kernel
theorem dX12_run_98 : decode cX12_run 98 = .ok (.lastore, 1) := by decide +kernel
theorem dX12_run_99 : decode cX12_run 99 = .ok (.iinc 4 1, 3) := by decide +kernel
theorem dX12_run_102 : decode cX12_run 102 = .ok (.goto 149, 3) := by decide +kernel
theorem dX12_run_105 : decode cX12_run 105 = .ok (.iload 6, 2) := by decide +kernel
theorem dX12_run_107 : decode cX12_run 107 = .ok (.bipush 27, 2) := by decide +kernel
theorem dX12_run_109 : decode cX12_run 109 = .ok (.if_icmp .ge 77, 3) := by decide +kernel
theorem dX12_run_112 : decode cX12_run 112 = .ok (.iinc 4 (-1), 3) := by decide +kernel
theorem dX12_run_115 : decode cX12_run 115 = .ok (.aload_n 0, 1) := by decide +kernel
theorem dX12_run_116 : decode cX12_run 116 = .ok (.getfield 65, 3) := by decide +kernel
theorem dX12_run_119 : decode cX12_run 119 = .ok (.iload 4, 2) := by decide +kernel
theorem dX12_run_121 : decode cX12_run 121 = .ok (.iconst 1, 1) := by decide +kernel
theorem dX12_run_122 : decode cX12_run 122 = .ok (.isub, 1) := by decide +kernel
theorem dX12_run_123 : decode cX12_run 123 = .ok (.aload_n 0, 1) := by decide +kernel
theorem dX12_run_124 : decode cX12_run 124 = .ok (.iload 6, 2) := by decide +kernel
theorem dX12_run_126 : decode cX12_run 126 = .ok (.aload_n 0, 1) := by decide +kernel
theorem dX12_run_127 : decode cX12_run 127 = .ok (.getfield 65, 3) := by decide +kernel
theorem dX12_run_130 : decode cX12_run 130 = .ok (.iload 4, 2) := by decide +kernel
theorem dX12_run_132 : decode cX12_run 132 = .ok (.iconst 1, 1) := by decide +kernel
theorem dX12_run_133 : decode cX12_run 133 = .ok (.isub, 1) := by decide +kernel
theorem dX12_run_134 : decode cX12_run 134 = .ok (.laload, 1) := by decide +kernel
theorem dX12_run_135 : decode cX12_run 135 = .ok (.aload_n 0, 1) := by decide +kernel
theorem dX12_run_136 : decode cX12_run 136 = .ok (.getfield 65, 3) := by decide +kernel
theorem dX12_run_139 : decode cX12_run 139 = .ok (.iload 4, 2) := by decide +kernel
theorem dX12_run_141 : decode cX12_run 141 = .ok (.laload, 1) := by decide +kernel
theorem dX12_run_142 : decode cX12_run 142 = .ok (.invokevirtual 419, 3) := by decide +kernel
theorem dX12_run_145 : decode cX12_run 145 = .ok (.lastore, 1) := by decide +kernel
theorem dX12_run_146 : decode cX12_run 146 = .ok (.aload_n 0, 1) := by decide +kernel
theorem dX12_run_147 : decode cX12_run 147 = .ok (.aload_n 0, 1) := by decide +kernel
theorem dX12_run_148 : decode cX12_run 148 = .ok (.getfield 416, 3) := by decide +kernel
theorem dX12_run_151 : decode cX12_run 151 = .ok (.ifCond .ne 24, 3) := by decide +kernel
theorem dX12_run_154 : decode cX12_run 154 = .ok (.aload_n 0, 1) := by decide +kernel
theorem dX12_run_155 : decode cX12_run 155 = .ok (.getfield 65, 3) := by decide +kernel
theorem dX12_run_158 : decode cX12_run 158 = .ok (.iload 4, 2) := by decide +kernel
theorem dX12_run_160 : decode cX12_run 160 = .ok (.iconst 1, 1) := by decide +kernel
theorem dX12_run_161 : decode cX12_run 161 = .ok (.isub, 1) := by decide +kernel
theorem dX12_run_162 : decode cX12_run 162 = .ok (.laload, 1) := by decide +kernel
theorem dX12_run_163 : decode cX12_run 163 = .ok (.ldc2_w 423, 3) := by decide +kernel
theorem dX12_run_166 : decode cX12_run 166 = .ok (.ldc2_w 425, 3) := by decide +kernel
theorem dX12_run_169 : decode cX12_run 169 = .ok (.invokestatic 100, 3) := by decide +kernel
theorem dX12_run_172 : decode cX12_run 172 = .ok (.ifCond .ne 7, 3) := by decide +kernel
theorem dX12_run_175 : decode cX12_run 175 = .ok (.iconst 1, 1) := by decide +kernel
theorem dX12_run_176 : decode cX12_run 176 = .ok (.goto 4, 3) := by decide +kernel
theorem dX12_run_179 : decode cX12_run 179 = .ok (.iconst 0, 1) := by decide +kernel
theorem dX12_run_180 : decode cX12_run 180 = .ok (.putfield 416, 3) := by decide +kernel
theorem dX12_run_183 : decode cX12_run 183 = .ok (.goto 68, 3) := by decide +kernel
theorem dX12_run_186 : decode cX12_run 186 = .ok (.iload 6, 2) := by decide +kernel
theorem dX12_run_188 : decode cX12_run 188 = .ok (.bipush 27, 2) := by decide +kernel
theorem dX12_run_190 : decode cX12_run 190 = .ok (.if_icmp .ne 26, 3) := by decide +kernel
theorem dX12_run_193 : decode cX12_run 193 = .ok (.aload_n 0, 1) := by decide +kernel
theorem dX12_run_194 : decode cX12_run 194 = .ok (.getfield 65, 3) := by decide +kernel
theorem dX12_run_197 : decode cX12_run 197 = .ok (.iload 4, 2) := by decide +kernel
theorem dX12_run_199 : decode cX12_run 199 = .ok (.iconst 1, 1) := by decide +kernel
theorem dX12_run_200 : decode cX12_run 200 = .ok (.isub, 1) := by decide +kernel
theorem dX12_run_201 : decode cX12_run 201 = .ok (.lconst 1, 1) := by decide +kernel
theorem dX12_run_202 : decode cX12_run 202 = .ok (.aload_n 0, 1) := by decide +kernel
theorem dX12_run_203 : decode cX12_run 203 = .ok (.getfield 65, 3) := by decide +kernel
theorem dX12_run_206 : decode cX12_run 206 = .ok (.iload 4, 2) := by decide +kernel
theorem dX12_run_208 : decode cX12_run 208 = .ok (.iconst 1, 1) := by decide +kernel
theorem dX12_run_209 : decode cX12_run 209 = .ok (.isub, 1) := by decide +kernel
theorem dX12_run_210 : decode cX12_run 210 = .ok (.laload, 1) := by decide +kernel
theorem dX12_run_211 : decode cX12_run 211 = .ok (.lsub, 1) := by decide +kernel
theorem dX12_run_212 : decode cX12_run 212 = .ok (.lastore, 1) := by decide +kernel
theorem dX12_run_213 : decode cX12_run 213 = .ok (.goto 38, 3) := by decide +kernel
theorem dX12_run_216 : decode cX12_run 216 = .ok (.aload_n 0, 1) := by decide +kernel
theorem dX12_run_217 : decode cX12_run 217 = .ok (.getfield 65, 3) := by decide +kernel
theorem dX12_run_220 : decode cX12_run 220 = .ok (.iload 4, 2) := by decide +kernel
theorem dX12_run_222 : decode cX12_run 222 = .ok (.iconst 1, 1) := by decide +kernel
theorem dX12_run_223 : decode cX12_run 223 = .ok (.isub, 1) := by decide +kernel
theorem dX12_run_224 : decode cX12_run 224 = .ok (.laload, 1) := by decide +kernel
theorem dX12_run_225 : decode cX12_run 225 = .ok (.iload 6, 2) := by decide +kernel
theorem dX12_run_227 : decode cX12_run 227 = .ok (.bipush 28, 2) := by decide +kernel
theorem dX12_run_229 : decode cX12_run 229 = .ok (.if_icmp .ne 7, 3) := by decide +kernel
theorem dX12_run_232 : decode cX12_run 232 = .ok (.lconst 0, 1) := by decide +kernel
theorem dX12_run_233 : decode cX12_run 233 = .ok (.goto 4, 3) := by decide +kernel
theorem dX12_run_236 : decode cX12_run 236 = .ok (.lconst 1, 1) := by decide +kernel
theorem dX12_run_237 : decode cX12_run 237 = .ok (.lcmp, 1) := by decide +kernel
theorem dX12_run_238 : decode cX12_run 238 = .ok (.ifCond .ne 10, 3) := by decide +kernel
theorem dX12_run_241 : decode cX12_run 241 = .ok (.iload 7, 2) := by decide +kernel
theorem dX12_run_243 : decode cX12_run 243 = .ok (.istore 5, 2) := by decide +kernel
theorem dX12_run_245 : decode cX12_run 245 = .ok (.goto 6, 3) := by decide +kernel
theorem dX12_run_248 : decode cX12_run 248 = .ok (.iinc 4 (-1), 3) := by decide +kernel
theorem dX12_run_251 : decode cX12_run 251 = .ok (.goto (-240), 3) := by decide +kernel
theorem dX12_run_254 : decode cX12_run 254 = .ok (.aload_n 0, 1) := by decide +kernel
theorem dX12_run_255 : decode cX12_run 255 = .ok (.iload 4, 2) := by decide +kernel
theorem dX12_run_257 : decode cX12_run 257 = .ok (.ifCond .le 12, 3) := by decide +kernel
theorem dX12_run_260 : decode cX12_run 260 = .ok (.aload_n 0, 1) := by decide +kernel
theorem dX12_run_261 : decode cX12_run 261 = .ok (.getfield 65, 3) := by decide +kernel
theorem dX12_run_264 : decode cX12_run 264 = .ok (.iconst 0, 1) := by decide +kernel
theorem dX12_run_265 : decode cX12_run 265 = .ok (.laload, 1) := by decide +kernel
theorem dX12_run_266 : decode cX12_run 266 = .ok (.goto 4, 3) := by decide +kernel
theorem dX12_run_269 : decode cX12_run 269 = .ok (.lconst 0, 1) := by decide +kernel
theorem dX12_run_270 : decode cX12_run 270 = .ok (.putfield 427, 3) := by decide +kernel
theorem dX12_run_273 : decode cX12_run 273 = .ok (.return_, 1) := by decide +kernel
theorem dX12_school_0 : decode cX12_school 0 = .ok (.aload_n 0, 1) := by decide +kernel
theorem dX12_school_1 : decode cX12_school 1 = .ok (.iconst 0, 1) := by decide +kernel
theorem dX12_school_2 : decode cX12_school 2 = .ok (.putfield 92, 3) := by decide +kernel
theorem dX12_school_5 : decode cX12_school 5 = .ok (.aload_n 0, 1) := by decide +kernel
theorem dX12_school_6 : decode cX12_school 6 = .ok (.getfield 7, 3) := by decide +kernel
theorem dX12_school_9 : decode cX12_school 9 = .ok (.iconst 1, 1) := by decide +kernel
theorem dX12_school_10 : decode cX12_school 10 = .ok (.iaload, 1) := by decide +kernel
theorem dX12_school_11 : decode cX12_school 11 = .ok (.iconst 5, 1) := by decide +kernel
theorem dX12_school_12 : decode cX12_school 12 = .ok (.if_icmp .ne 10, 3) := by decide +kernel
theorem dX12_school_15 : decode cX12_school 15 = .ok (.aload_n 0, 1) := by decide +kernel
theorem dX12_school_16 : decode cX12_school 16 = .ok (.bipush (-5), 2) := by decide +kernel
theorem dX12_school_18 : decode cX12_school 18 = .ok (.invokevirtual 106, 3) := by decide +kernel
theorem dX12_school_21 : decode cX12_school 21 = .ok (.ireturn, 1) := by decide +kernel
theorem dX12_school_22 : decode cX12_school 22 = .ok (.aload_n 0, 1) := by decide +kernel
theorem dX12_school_23 : decode cX12_school 23 = .ok (.getfield 7, 3) := by decide +kernel
theorem dX12_school_26 : decode cX12_school 26 = .ok (.iconst 1, 1) := by decide +kernel
theorem dX12_school_27 : decode cX12_school 27 = .ok (.dup2, 1) := by decide +kernel
theorem dX12_school_28 : decode cX12_school 28 = .ok (.iaload, 1) := by decide +kernel
theorem dX12_school_29 : decode cX12_school 29 = .ok (.iconst 1, 1) := by decide +kernel
theorem dX12_school_30 : decode cX12_school 30 = .ok (.iadd, 1) := by decide +kernel
theorem dX12_school_31 : decode cX12_school 31 = .ok (.iastore, 1) := by decide +kernel
theorem dX12_school_32 : decode cX12_school 32 = .ok (.aload_n 0, 1) := by decide +kernel
theorem dX12_school_33 : decode cX12_school 33 = .ok (.aload_n 0, 1) := by decide +kernel
theorem dX12_school_34 : decode cX12_school 34 = .ok (.getfield 7, 3) := by decide +kernel
theorem dX12_school_37 : decode cX12_school 37 = .ok (.iconst 1, 1) := by decide +kernel
theorem dX12_school_38 : decode cX12_school 38 = .ok (.iaload, 1) := by decide +kernel
theorem dX12_school_39 : decode cX12_school 39 = .ok (.iconst 1, 1) := by decide +kernel
theorem dX12_school_40 : decode cX12_school 40 = .ok (.isub, 1) := by decide +kernel
theorem dX12_school_41 : decode cX12_school 41 = .ok (.invokevirtual 106, 3) := by decide +kernel
theorem dX12_school_44 : decode cX12_school 44 = .ok (.ireturn, 1) := by decide +kernel
theorem dX12_seal_0 : decode cX12_seal 0 = .ok (.aload_n 0, 1) := by decide +kernel
theorem dX12_seal_1 : decode cX12_seal 1 = .ok (.iconst 0, 1) := by decide +kernel
theorem dX12_seal_2 : decode cX12_seal 2 = .ok (.putfield 92, 3) := by decide +kernel
theorem dX12_seal_5 : decode cX12_seal 5 = .ok (.iload_n 1, 1) := by decide +kernel
theorem dX12_seal_6 : decode cX12_seal 6 = .ok (.invokestatic 127, 3) := by decide +kernel
theorem dX12_seal_9 : decode cX12_seal 9 = .ok (.ifCond .ne 9, 3) := by decide +kernel
theorem dX12_seal_12 : decode cX12_seal 12 = .ok (.aload_n 0, 1) := by decide +kernel
theorem dX12_seal_13 : decode cX12_seal 13 = .ok (.iconst (-1), 1) := by decide +kernel
theorem dX12_seal_14 : decode cX12_seal 14 = .ok (.invokevirtual 106, 3) := by decide +kernel
theorem dX12_seal_17 : decode cX12_seal 17 = .ok (.ireturn, 1) := by decide +kernel
theorem dX12_seal_18 : decode cX12_seal 18 = .ok (.aload_n 0, 1) := by decide +kernel
theorem dX12_seal_19 : decode cX12_seal 19 = .ok (.iload_n 1, 1) := by decide +kernel
theorem dX12_seal_20 : decode cX12_seal 20 = .ok (.invokevirtual 558, 3) := by decide +kernel
theorem dX12_seal_23 : decode cX12_seal 23 = .ok (.aload_n 0, 1) := by decide +kernel
theorem dX12_seal_24 : decode cX12_seal 24 = .ok (.sipush 7061, 3) := by decide +kernel
theorem dX12_seal_27 : decode cX12_seal 27 = .ok (.iconst 4, 1) := by decide +kernel
theorem dX12_seal_28 : decode cX12_seal 28 = .ok (.iload_n 1, 1) := by decide +kernel
theorem dX12_seal_29 : decode cX12_seal 29 = .ok (.imul, 1) := by decide +kernel
theorem dX12_seal_30 : decode cX12_seal 30 = .ok (.iadd, 1) := by decide +kernel
theorem dX12_seal_31 : decode cX12_seal 31 = .ok (.iconst 1, 1) := by decide +kernel
theorem dX12_seal_32 : decode cX12_seal 32 = .ok (.aload_n 0, 1) := by decide +kernel
theorem dX12_seal_33 : decode cX12_seal 33 = .ok (.getfield 549, 3) := by decide +kernel
theorem dX12_seal_36 : decode cX12_seal 36 = .ok (.aload_n 0, 1) := by decide +kernel
theorem dX12_seal_37 : decode cX12_seal 37 = .ok (.getfield 552, 3) := by decide +kernel
theorem dX12_seal_40 : decode cX12_seal 40 = .ok (.aload_n 0, 1) := by decide +kernel
theorem dX12_seal_41 : decode cX12_seal 41 = .ok (.getfield 555, 3) := by decide +kernel
theorem dX12_seal_44 : decode cX12_seal 44 = .ok (.invokevirtual 123, 3) := by decide +kernel
theorem dX12_seal_47 : decode cX12_seal 47 = .ok (.aload_n 0, 1) := by decide +kernel
theorem dX12_seal_48 : decode cX12_seal 48 = .ok (.aload_n 0, 1) := by decide +kernel
theorem dX12_seal_49 : decode cX12_seal 49 = .ok (.getfield 549, 3) := by decide +kernel
theorem dX12_seal_52 : decode cX12_seal 52 = .ok (.invokevirtual 106, 3) := by decide +kernel
theorem dX12_seal_55 : decode cX12_seal 55 = .ok (.ireturn, 1) := by decide +kernel
theorem dX12_seen_0 : decode cX12_seen 0 = .ok (.aload_n 0, 1) := by decide +kernel
theorem dX12_seen_1 : decode cX12_seen 1 = .ok (.iconst 0, 1) := by decide +kernel
theorem dX12_seen_2 : decode cX12_seen 2 = .ok (.putfield 92, 3) := by decide +kernel
theorem dX12_seen_5 : decode cX12_seen 5 = .ok (.aload_n 0, 1) := by decide +kernel
theorem dX12_seen_6 : decode cX12_seen 6 = .ok (.iload_n 1, 1) := by decide +kernel
theorem dX12_seen_7 : decode cX12_seen 7 = .ok (.invokevirtual 138, 3) := by decide +kernel
theorem dX12_seen_10 : decode cX12_seen 10 = .ok (.ifCond .eq 17, 3) := by decide +kernel
theorem dX12_seen_13 : decode cX12_seen 13 = .ok (.iload_n 2, 1) := by decide +kernel
theorem dX12_seen_14 : decode cX12_seen 14 = .ok (.invokestatic 127, 3) := by decide +kernel
theorem dX12_seen_17 : decode cX12_seen 17 = .ok (.ifCond .eq 10, 3) := by decide +kernel
theorem dX12_seen_20 : decode cX12_seen 20 = .ok (.iload_n 3, 1) := by decide +kernel
theorem dX12_seen_21 : decode cX12_seen 21 = .ok (.invokestatic 127, 3) := by decide +kernel
theorem dX12_seen_24 : decode cX12_seen 24 = .ok (.ifCond .ne 5, 3) := by decide +kernel
theorem dX12_seen_27 : decode cX12_seen 27 = .ok (.iconst (-1), 1) := by decide +kernel
theorem dX12_seen_28 : decode cX12_seen 28 = .ok (.ireturn, 1) := by decide +kernel
theorem dX12_seen_29 : decode cX12_seen 29 = .ok (.aload_n 0, 1) := by decide +kernel
theorem dX12_seen_30 : decode cX12_seen 30 = .ok (.iload_n 3, 1) := by decide +kernel
theorem dX12_seen_31 : decode cX12_seen 31 = .ok (.invokevirtual 186, 3) := by decide +kernel
theorem dX12_seen_34 : decode cX12_seen 34 = .ok (.iconst (-1), 1) := by decide +kernel
theorem dX12_seen_35 : decode cX12_seen 35 = .ok (.istore 4, 2) := by decide +kernel
theorem dX12_seen_37 : decode cX12_seen 37 = .ok (.iconst 0, 1) := by decide +kernel
theorem dX12_seen_38 : decode cX12_seen 38 = .ok (.istore 5, 2) := by decide +kernel
theorem dX12_seen_40 : decode cX12_seen 40 = .ok (.iload 5, 2) := by decide +kernel
theorem dX12_seen_42 : decode cX12_seen 42 = .ok (.aload_n 0, 1) := by decide +kernel
theorem dX12_seen_43 : decode cX12_seen 43 = .ok (.getfield 7, 3) := by decide +kernel
theorem dX12_seen_46 : decode cX12_seen 46 = .ok (.iconst 3, 1) := by decide +kernel
theorem dX12_seen_47 : decode cX12_seen 47 = .ok (.iaload, 1) := by decide +kernel
theorem dX12_seen_48 : decode cX12_seen 48 = .ok (.if_icmp .ge 109, 3) := by decide +kernel
theorem dX12_seen_51 : decode cX12_seen 51 = .ok (.iload 5, 2) := by decide +kernel
theorem dX12_seen_53 : decode cX12_seen 53 = .ok (.invokestatic 155, 3) := by decide +kernel
theorem dX12_seen_56 : decode cX12_seen 56 = .ok (.istore 6, 2) := by decide +kernel
theorem dX12_seen_58 : decode cX12_seen 58 = .ok (.aload_n 0, 1) := by decide +kernel
theorem dX12_seen_59 : decode cX12_seen 59 = .ok (.getfield 7, 3) := by decide +kernel
theorem dX12_seen_62 : decode cX12_seen 62 = .ok (.iload 6, 2) := by decide +kernel
theorem dX12_seen_64 : decode cX12_seen 64 = .ok (.iconst 1, 1) := by decide +kernel
theorem dX12_seen_65 : decode cX12_seen 65 = .ok (.iadd, 1) := by decide +kernel
theorem dX12_seen_66 : decode cX12_seen 66 = .ok (.iaload, 1) := by decide +kernel
theorem dX12_seen_67 : decode cX12_seen 67 = .ok (.iload_n 1, 1) := by decide +kernel
theorem dX12_seen_68 : decode cX12_seen 68 = .ok (.if_icmp .ne 45, 3) := by decide +kernel
theorem dX12_seen_71 : decode cX12_seen 71 = .ok (.aload_n 0, 1) := by decide +kernel
theorem dX12_seen_72 : decode cX12_seen 72 = .ok (.getfield 21, 3) := by decide +kernel
theorem dX12_seen_75 : decode cX12_seen 75 = .ok (.iload 5, 2) := by decide +kernel
theorem dX12_seen_77 : decode cX12_seen 77 = .ok (.baload, 1) := by decide +kernel
theorem dX12_seen_78 : decode cX12_seen 78 = .ok (.ifCond .eq 35, 3) := by decide +kernel
theorem dX12_seen_81 : decode cX12_seen 81 = .ok (.aload_n 0, 1) := by decide +kernel
theorem dX12_seen_82 : decode cX12_seen 82 = .ok (.getfield 27, 3) := by decide +kernel
theorem dX12_seen_85 : decode cX12_seen 85 = .ok (.iload 5, 2) := by decide +kernel
theorem dX12_seen_87 : decode cX12_seen 87 = .ok (.iaload, 1) := by decide +kernel
theorem dX12_seen_88 : decode cX12_seen 88 = .ok (.iconst 2, 1) := by decide +kernel
theorem dX12_seen_89 : decode cX12_seen 89 = .ok (.if_icmp .ge 24, 3) := by decide +kernel
theorem dX12_seen_92 : decode cX12_seen 92 = .ok (.aload_n 0, 1) := by decide +kernel
theorem dX12_seen_93 : decode cX12_seen 93 = .ok (.getfield 7, 3) := by decide +kernel
theorem dX12_seen_96 : decode cX12_seen 96 = .ok (.iload 6, 2) := by decide +kernel
theorem dX12_seen_98 : decode cX12_seen 98 = .ok (.iconst 2, 1) := by decide +kernel
theorem dX12_seen_99 : decode cX12_seen 99 = .ok (.iadd, 1) := by decide +kernel
theorem dX12_seen_100 : decode cX12_seen 100 = .ok (.iaload, 1) := by decide +kernel
theorem dX12_seen_101 : decode cX12_seen 101 = .ok (.iconst 2, 1) := by decide +kernel
theorem dX12_seen_102 : decode cX12_seen 102 = .ok (.iload_n 2, 1) := by decide +kernel
theorem dX12_seen_103 : decode cX12_seen 103 = .ok (.imul, 1) := by decide +kernel
theorem dX12_seen_104 : decode cX12_seen 104 = .ok (.iconst 1, 1) := by decide +kernel
theorem dX12_seen_105 : decode cX12_seen 105 = .ok (.iadd, 1) := by decide +kernel
theorem dX12_seen_106 : decode cX12_seen 106 = .ok (.if_icmp .gt 7, 3) := by decide +kernel
theorem dX12_seen_109 : decode cX12_seen 109 = .ok (.iconst 1, 1) := by decide +kernel
theorem dX12_seen_110 : decode cX12_seen 110 = .ok (.goto 4, 3) := by decide +kernel
theorem dX12_seen_113 : decode cX12_seen 113 = .ok (.iconst 0, 1) := by decide +kernel
theorem dX12_seen_114 : decode cX12_seen 114 = .ok (.istore 7, 2) := by decide +kernel
theorem dX12_seen_116 : decode cX12_seen 116 = .ok (.iload 7, 2) := by decide +kernel
theorem dX12_seen_118 : decode cX12_seen 118 = .ok (.ifCond .eq 29, 3) := by decide +kernel
theorem dX12_seen_121 : decode cX12_seen 121 = .ok (.aload_n 0, 1) := by decide +kernel
theorem dX12_seen_122 : decode cX12_seen 122 = .ok (.getfield 7, 3) := by decide +kernel
theorem dX12_seen_125 : decode cX12_seen 125 = .ok (.iload 6, 2) := by decide +kernel
theorem dX12_seen_127 : decode cX12_seen 127 = .ok (.iconst 2, 1) := by decide +kernel
theorem dX12_seen_128 : decode cX12_seen 128 = .ok (.iadd, 1) := by decide +kernel
theorem dX12_seen_129 : decode cX12_seen 129 = .ok (.iaload, 1) := by decide +kernel
theorem dX12_seen_130 : decode cX12_seen 130 = .ok (.iload 4, 2) := by decide +kernel
theorem dX12_seen_132 : decode cX12_seen 132 = .ok (.if_icmp .le 15, 3) := by decide +kernel
theorem dX12_seen_135 : decode cX12_seen 135 = .ok (.aload_n 0, 1) := by decide +kernel
theorem dX12_seen_136 : decode cX12_seen 136 = .ok (.getfield 7, 3) := by decide +kernel
theorem dX12_seen_139 : decode cX12_seen 139 = .ok (.iload 6, 2) := by decide +kernel
theorem dX12_seen_141 : decode cX12_seen 141 = .ok (.iconst 2, 1) := by decide +kernel
theorem dX12_seen_142 : decode cX12_seen 142 = .ok (.iadd, 1) := by decide +kernel
theorem dX12_seen_143 : decode cX12_seen 143 = .ok (.iaload, 1) := by decide +kernel
theorem dX12_seen_144 : decode cX12_seen 144 = .ok (.goto 5, 3) := by decide +kernel
theorem dX12_seen_147 : decode cX12_seen 147 = .ok (.iload 4, 2) := by decide +kernel
theorem dX12_seen_149 : decode cX12_seen 149 = .ok (.istore 4, 2) := by decide +kernel
theorem dX12_seen_151 : decode cX12_seen 151 = .ok (.iinc 5 1, 3) := by decide +kernel
theorem dX12_seen_154 : decode cX12_seen 154 = .ok (.goto (-114), 3) := by decide +kernel
theorem dX12_seen_157 : decode cX12_seen 157 = .ok (.iload 4, 2) := by decide +kernel
theorem dX12_seen_159 : decode cX12_seen 159 = .ok (.ireturn, 1) := by decide +kernel
theorem dX12_sees_0 : decode cX12_sees 0 = .ok (.aload_n 0, 1) := by decide +kernel
theorem dX12_sees_1 : decode cX12_sees 1 = .ok (.iconst 0, 1) := by decide +kernel
theorem dX12_sees_2 : decode cX12_sees 2 = .ok (.putfield 92, 3) := by decide +kernel
theorem dX12_sees_5 : decode cX12_sees 5 = .ok (.iload_n 1, 1) := by decide +kernel
theorem dX12_sees_6 : decode cX12_sees 6 = .ok (.i2l, 1) := by decide +kernel
theorem dX12_sees_7 : decode cX12_sees 7 = .ok (.lconst 0, 1) := by decide +kernel
theorem dX12_sees_8 : decode cX12_sees 8 = .ok (.ldc2_w 110, 3) := by decide +kernel
theorem dX12_sees_11 : decode cX12_sees 11 = .ok (.invokestatic 100, 3) := by decide +kernel
theorem dX12_sees_14 : decode cX12_sees 14 = .ok (.ifCond .eq 35, 3) := by decide +kernel
theorem dX12_sees_17 : decode cX12_sees 17 = .ok (.aload_n 0, 1) := by decide +kernel
theorem dX12_sees_18 : decode cX12_sees 18 = .ok (.iload_n 2, 1) := by decide +kernel
theorem dX12_sees_19 : decode cX12_sees 19 = .ok (.invokevirtual 131, 3) := by decide +kernel
theorem dX12_sees_22 : decode cX12_sees 22 = .ok (.ifCond .eq 27, 3) := by decide +kernel
theorem dX12_sees_25 : decode cX12_sees 25 = .ok (.aload_n 0, 1) := by decide +kernel
theorem dX12_sees_26 : decode cX12_sees 26 = .ok (.iload_n 3, 1) := by decide +kernel
theorem dX12_sees_27 : decode cX12_sees 27 = .ok (.invokevirtual 138, 3) := by decide +kernel
theorem dX12_sees_30 : decode cX12_sees 30 = .ok (.ifCond .eq 19, 3) := by decide +kernel
theorem dX12_sees_33 : decode cX12_sees 33 = .ok (.iload 4, 2) := by decide +kernel
theorem dX12_sees_35 : decode cX12_sees 35 = .ok (.invokestatic 145, 3) := by decide +kernel
theorem dX12_sees_38 : decode cX12_sees 38 = .ok (.ifCond .eq 11, 3) := by decide +kernel
theorem dX12_sees_41 : decode cX12_sees 41 = .ok (.iload 5, 2) := by decide +kernel
theorem dX12_sees_43 : decode cX12_sees 43 = .ok (.invokestatic 127, 3) := by decide +kernel
theorem dX12_sees_46 : decode cX12_sees 46 = .ok (.ifCond .ne 5, 3) := by decide +kernel
theorem dX12_sees_49 : decode cX12_sees 49 = .ok (.iconst (-1), 1) := by decide +kernel
theorem dX12_sees_50 : decode cX12_sees 50 = .ok (.ireturn, 1) := by decide +kernel
theorem dX12_sees_51 : decode cX12_sees 51 = .ok (.aload_n 0, 1) := by decide +kernel
theorem dX12_sees_52 : decode cX12_sees 52 = .ok (.iload 5, 2) := by decide +kernel
theorem dX12_sees_54 : decode cX12_sees 54 = .ok (.invokevirtual 186, 3) := by decide +kernel
theorem dX12_sees_57 : decode cX12_sees 57 = .ok (.aload_n 0, 1) := by decide +kernel
theorem dX12_sees_58 : decode cX12_sees 58 = .ok (.iload_n 2, 1) := by decide +kernel
theorem dX12_sees_59 : decode cX12_sees 59 = .ok (.iload_n 3, 1) := by decide +kernel
theorem dX12_sees_60 : decode cX12_sees 60 = .ok (.iload 4, 2) := by decide +kernel
theorem dX12_sees_62 : decode cX12_sees 62 = .ok (.invokevirtual 189, 3) := by decide +kernel
theorem dX12_sees_65 : decode cX12_sees 65 = .ok (.istore 6, 2) := by decide +kernel
theorem dX12_sees_67 : decode cX12_sees 67 = .ok (.iload 6, 2) := by decide +kernel
theorem dX12_sees_69 : decode cX12_sees 69 = .ok (.iconst (-1), 1) := by decide +kernel
theorem dX12_sees_70 : decode cX12_sees 70 = .ok (.if_icmp .ne 5, 3) := by decide +kernel
theorem dX12_sees_73 : decode cX12_sees 73 = .ok (.iconst (-1), 1) := by decide +kernel
theorem dX12_sees_74 : decode cX12_sees 74 = .ok (.ireturn, 1) := by decide +kernel
theorem dX12_sees_75 : decode cX12_sees 75 = .ok (.aload_n 0, 1) := by decide +kernel
theorem dX12_sees_76 : decode cX12_sees 76 = .ok (.iload 4, 2) := by decide +kernel
theorem dX12_sees_78 : decode cX12_sees 78 = .ok (.iconst 2, 1) := by decide +kernel
theorem dX12_sees_79 : decode cX12_sees 79 = .ok (.idiv, 1) := by decide +kernel
theorem dX12_sees_80 : decode cX12_sees 80 = .ok (.invokevirtual 167, 3) := by decide +kernel
theorem dX12_sees_83 : decode cX12_sees 83 = .ok (.aload_n 0, 1) := by decide +kernel
theorem dX12_sees_84 : decode cX12_sees 84 = .ok (.iload_n 3, 1) := by decide +kernel
theorem dX12_sees_85 : decode cX12_sees 85 = .ok (.iload 4, 2) := by decide +kernel
theorem dX12_sees_87 : decode cX12_sees 87 = .ok (.invokevirtual 171, 3) := by decide +kernel
theorem dX12_sees_90 : decode cX12_sees 90 = .ok (.aload_n 0, 1) := by decide +kernel
theorem dX12_sees_91 : decode cX12_sees 91 = .ok (.getfield 61, 3) := by decide +kernel
theorem dX12_sees_94 : decode cX12_sees 94 = .ok (.iconst 2, 1) := by decide +kernel
theorem dX12_sees_95 : decode cX12_sees 95 = .ok (.aload_n 0, 1) := by decide +kernel
theorem dX12_sees_96 : decode cX12_sees 96 = .ok (.getfield 7, 3) := by decide +kernel
theorem dX12_sees_99 : decode cX12_sees 99 = .ok (.iload 6, 2) := by decide +kernel
theorem dX12_sees_101 : decode cX12_sees 101 = .ok (.invokestatic 155, 3) := by decide +kernel
theorem dX12_sees_104 : decode cX12_sees 104 = .ok (.iconst 3, 1) := by decide +kernel
theorem dX12_sees_105 : decode cX12_sees 105 = .ok (.iadd, 1) := by decide +kernel
theorem dX12_sees_106 : decode cX12_sees 106 = .ok (.iaload, 1) := by decide +kernel
theorem dX12_sees_107 : decode cX12_sees 107 = .ok (.bipush 26, 2) := by decide +kernel
theorem dX12_sees_109 : decode cX12_sees 109 = .ok (.idiv, 1) := by decide +kernel
theorem dX12_sees_110 : decode cX12_sees 110 = .ok (.i2l, 1) := by decide +kernel
theorem dX12_sees_111 : decode cX12_sees 111 = .ok (.lastore, 1) := by decide +kernel
theorem dX12_sees_112 : decode cX12_sees 112 = .ok (.aload_n 0, 1) := by decide +kernel
theorem dX12_sees_113 : decode cX12_sees 113 = .ok (.getfield 61, 3) := by decide +kernel
theorem dX12_sees_116 : decode cX12_sees 116 = .ok (.bipush 6, 2) := by decide +kernel
theorem dX12_sees_118 : decode cX12_sees 118 = .ok (.iload_n 2, 1) := by decide +kernel
theorem dX12_sees_119 : decode cX12_sees 119 = .ok (.i2l, 1) := by decide +kernel
theorem dX12_sees_120 : decode cX12_sees 120 = .ok (.lastore, 1) := by decide +kernel
theorem dX12_sees_121 : decode cX12_sees 121 = .ok (.aload_n 0, 1) := by decide +kernel
theorem dX12_sees_122 : decode cX12_sees 122 = .ok (.iconst 4, 1) := by decide +kernel
theorem dX12_sees_123 : decode cX12_sees 123 = .ok (.aload_n 0, 1) := by decide +kernel
theorem dX12_sees_124 : decode cX12_sees 124 = .ok (.getfield 24, 3) := by decide +kernel
theorem dX12_sees_127 : decode cX12_sees 127 = .ok (.iload 6, 2) := by decide +kernel
theorem dX12_sees_129 : decode cX12_sees 129 = .ok (.iaload, 1) := by decide +kernel
theorem dX12_sees_130 : decode cX12_sees 130 = .ok (.iload_n 1, 1) := by decide +kernel
theorem dX12_sees_131 : decode cX12_sees 131 = .ok (.invokevirtual 175, 3) := by decide +kernel
theorem dX12_sees_134 : decode cX12_sees 134 = .ok (.ifCond .eq 8, 3) := by decide +kernel
theorem dX12_sees_137 : decode cX12_sees 137 = .ok (.bipush (-3), 2) := by decide +kernel
theorem dX12_sees_139 : decode cX12_sees 139 = .ok (.goto 10, 3) := by decide +kernel
theorem dX12_sees_142 : decode cX12_sees 142 = .ok (.aload_n 0, 1) := by decide +kernel
theorem dX12_sees_143 : decode cX12_sees 143 = .ok (.getfield 24, 3) := by decide +kernel
theorem dX12_sees_146 : decode cX12_sees 146 = .ok (.iload 6, 2) := by decide +kernel
theorem dX12_sees_148 : decode cX12_sees 148 = .ok (.iaload, 1) := by decide +kernel
theorem dX12_sees_149 : decode cX12_sees 149 = .ok (.ireturn, 1) := by decide +kernel
theorem dX12_setDay_0 : decode cX12_setDay 0 = .ok (.iload_n 2, 1) := by decide +kernel
theorem dX12_setDay_1 : decode cX12_setDay 1 = .ok (.bipush 84, 2) := by decide +kernel
theorem dX12_setDay_3 : decode cX12_setDay 3 = .ok (.if_icmp .ge 7, 3) := by decide +kernel
theorem dX12_setDay_6 : decode cX12_setDay 6 = .ok (.iconst 0, 1) := by decide +kernel
theorem dX12_setDay_7 : decode cX12_setDay 7 = .ok (.goto 7, 3) := by decide +kernel
theorem dX12_setDay_10 : decode cX12_setDay 10 = .ok (.iload_n 2, 1) := by decide +kernel
theorem dX12_setDay_11 : decode cX12_setDay 11 = .ok (.bipush 84, 2) := by decide +kernel
theorem dX12_setDay_13 : decode cX12_setDay 13 = .ok (.isub, 1) := by decide +kernel
theorem dX12_setDay_14 : decode cX12_setDay 14 = .ok (.istore_n 3, 1) := by decide +kernel
theorem dX12_setDay_15 : decode cX12_setDay 15 = .ok (.aload_n 0, 1) := by decide +kernel
theorem dX12_setDay_16 : decode cX12_setDay 16 = .ok (.iload_n 2, 1) := by decide +kernel
theorem dX12_setDay_17 : decode cX12_setDay 17 = .ok (.invokevirtual 167, 3) := by decide +kernel
theorem dX12_setDay_20 : decode cX12_setDay 20 = .ok (.aload_n 0, 1) := by decide +kernel
theorem dX12_setDay_21 : decode cX12_setDay 21 = .ok (.iload_n 1, 1) := by decide +kernel
theorem dX12_setDay_22 : decode cX12_setDay 22 = .ok (.iconst 2, 1) := by decide +kernel
theorem dX12_setDay_23 : decode cX12_setDay 23 = .ok (.iload_n 2, 1) := by decide +kernel
theorem dX12_setDay_24 : decode cX12_setDay 24 = .ok (.imul, 1) := by decide +kernel
theorem dX12_setDay_25 : decode cX12_setDay 25 = .ok (.invokevirtual 171, 3) := by decide +kernel
theorem dX12_setDay_28 : decode cX12_setDay 28 = .ok (.aload_n 0, 1) := by decide +kernel
theorem dX12_setDay_29 : decode cX12_setDay 29 = .ok (.getfield 61, 3) := by decide +kernel
theorem dX12_setDay_32 : decode cX12_setDay 32 = .ok (.bipush 7, 2) := by decide +kernel
theorem dX12_setDay_34 : decode cX12_setDay 34 = .ok (.aload_n 0, 1) := by decide +kernel
theorem dX12_setDay_35 : decode cX12_setDay 35 = .ok (.getfield 71, 3) := by decide +kernel
theorem dX12_setDay_38 : decode cX12_setDay 38 = .ok (.iload_n 2, 1) := by decide +kernel
theorem dX12_setDay_39 : decode cX12_setDay 39 = .ok (.iaload, 1) := by decide +kernel
theorem dX12_setDay_40 : decode cX12_setDay 40 = .ok (.aload_n 0, 1) := by decide +kernel
theorem dX12_setDay_41 : decode cX12_setDay 41 = .ok (.getfield 71, 3) := by decide +kernel
theorem dX12_setDay_44 : decode cX12_setDay 44 = .ok (.iload_n 3, 1) := by decide +kernel
theorem dX12_setDay_45 : decode cX12_setDay 45 = .ok (.iaload, 1) := by decide +kernel
theorem dX12_setDay_46 : decode cX12_setDay 46 = .ok (.isub, 1) := by decide +kernel
theorem dX12_setDay_47 : decode cX12_setDay 47 = .ok (.i2l, 1) := by decide +kernel
theorem dX12_setDay_48 : decode cX12_setDay 48 = .ok (.lastore, 1) := by decide +kernel
theorem dX12_setDay_49 : decode cX12_setDay 49 = .ok (.aload_n 0, 1) := by decide +kernel
theorem dX12_setDay_50 : decode cX12_setDay 50 = .ok (.getfield 61, 3) := by decide +kernel
theorem dX12_setDay_53 : decode cX12_setDay 53 = .ok (.bipush 8, 2) := by decide +kernel
theorem dX12_setDay_55 : decode cX12_setDay 55 = .ok (.aload_n 0, 1) := by decide +kernel
theorem dX12_setDay_56 : decode cX12_setDay 56 = .ok (.getfield 68, 3) := by decide +kernel
theorem dX12_setDay_59 : decode cX12_setDay 59 = .ok (.iload_n 2, 1) := by decide +kernel
theorem dX12_setDay_60 : decode cX12_setDay 60 = .ok (.iaload, 1) := by decide +kernel
theorem dX12_setDay_61 : decode cX12_setDay 61 = .ok (.aload_n 0, 1) := by decide +kernel
theorem dX12_setDay_62 : decode cX12_setDay 62 = .ok (.getfield 68, 3) := by decide +kernel
theorem dX12_setDay_65 : decode cX12_setDay 65 = .ok (.iload_n 3, 1) := by decide +kernel
theorem dX12_setDay_66 : decode cX12_setDay 66 = .ok (.iaload, 1) := by decide +kernel
theorem dX12_setDay_67 : decode cX12_setDay 67 = .ok (.isub, 1) := by decide +kernel
theorem dX12_setDay_68 : decode cX12_setDay 68 = .ok (.i2l, 1) := by decide +kernel
theorem dX12_setDay_69 : decode cX12_setDay 69 = .ok (.lastore, 1) := by decide +kernel
theorem dX12_setDay_70 : decode cX12_setDay 70 = .ok (.return_, 1) := by decide +kernel
theorem dX12_setFor_0 : decode cX12_setFor 0 = .ok (.iload_n 1, 1) := by decide +kernel
theorem dX12_setFor_1 : decode cX12_setFor 1 = .ok (.invokestatic 120, 3) := by decide +kernel
theorem dX12_setFor_4 : decode cX12_setFor 4 = .ok (.istore_n 3, 1) := by decide +kernel
theorem dX12_setFor_5 : decode cX12_setFor 5 = .ok (.iload_n 2, 1) := by decide +kernel
theorem dX12_setFor_6 : decode cX12_setFor 6 = .ok (.iconst 2, 1) := by decide +kernel
theorem dX12_setFor_7 : decode cX12_setFor 7 = .ok (.idiv, 1) := by decide +kernel
theorem dX12_setFor_8 : decode cX12_setFor 8 = .ok (.istore 4, 2) := by decide +kernel
theorem dX12_setFor_10 : decode cX12_setFor 10 = .ok (.iconst 0, 1) := by decide +kernel
theorem dX12_setFor_11 : decode cX12_setFor 11 = .ok (.istore 5, 2) := by decide +kernel
theorem dX12_setFor_13 : decode cX12_setFor 13 = .ok (.iload 5, 2) := by decide +kernel
theorem dX12_setFor_15 : decode cX12_setFor 15 = .ok (.bipush 16, 2) := by decide +kernel
theorem dX12_setFor_17 : decode cX12_setFor 17 = .ok (.if_icmp .ge 17, 3) := by decide +kernel
theorem dX12_setFor_20 : decode cX12_setFor 20 = .ok (.aload_n 0, 1) := by decide +kernel
theorem dX12_setFor_21 : decode cX12_setFor 21 = .ok (.getfield 61, 3) := by decide +kernel
theorem dX12_setFor_24 : decode cX12_setFor 24 = .ok (.iload 5, 2) := by decide +kernel
theorem dX12_setFor_26 : decode cX12_setFor 26 = .ok (.lconst 0, 1) := by decide +kernel
theorem dX12_setFor_27 : decode cX12_setFor 27 = .ok (.lastore, 1) := by decide +kernel
theorem dX12_setFor_28 : decode cX12_setFor 28 = .ok (.iinc 5 1, 3) := by decide +kernel
theorem dX12_setFor_31 : decode cX12_setFor 31 = .ok (.goto (-18), 3) := by decide +kernel
theorem dX12_setFor_34 : decode cX12_setFor 34 = .ok (.aload_n 0, 1) := by decide +kernel
theorem dX12_setFor_35 : decode cX12_setFor 35 = .ok (.getfield 61, 3) := by decide +kernel
theorem dX12_setFor_38 : decode cX12_setFor 38 = .ok (.iconst 1, 1) := by decide +kernel
theorem dX12_setFor_39 : decode cX12_setFor 39 = .ok (.aload_n 0, 1) := by decide +kernel
theorem dX12_setFor_40 : decode cX12_setFor 40 = .ok (.getfield 7, 3) := by decide +kernel
theorem dX12_setFor_43 : decode cX12_setFor 43 = .ok (.iload_n 3, 1) := by decide +kernel
theorem dX12_setFor_44 : decode cX12_setFor 44 = .ok (.iaload, 1) := by decide +kernel
theorem dX12_setFor_45 : decode cX12_setFor 45 = .ok (.i2l, 1) := by decide +kernel
theorem dX12_setFor_46 : decode cX12_setFor 46 = .ok (.lastore, 1) := by decide +kernel
theorem dX12_setFor_47 : decode cX12_setFor 47 = .ok (.aload_n 0, 1) := by decide +kernel
theorem dX12_setFor_48 : decode cX12_setFor 48 = .ok (.getfield 61, 3) := by decide +kernel
theorem dX12_setFor_51 : decode cX12_setFor 51 = .ok (.iconst 3, 1) := by decide +kernel
theorem dX12_setFor_52 : decode cX12_setFor 52 = .ok (.iload_n 2, 1) := by decide +kernel
theorem dX12_setFor_53 : decode cX12_setFor 53 = .ok (.iconst 2, 1) := by decide +kernel
theorem dX12_setFor_54 : decode cX12_setFor 54 = .ok (.irem, 1) := by decide +kernel
theorem dX12_setFor_55 : decode cX12_setFor 55 = .ok (.i2l, 1) := by decide +kernel
theorem dX12_setFor_56 : decode cX12_setFor 56 = .ok (.lastore, 1) := by decide +kernel
theorem dX12_setFor_57 : decode cX12_setFor 57 = .ok (.aload_n 0, 1) := by decide +kernel
theorem dX12_setFor_58 : decode cX12_setFor 58 = .ok (.getfield 61, 3) := by decide +kernel
theorem dX12_setFor_61 : decode cX12_setFor 61 = .ok (.iconst 4, 1) := by decide +kernel
theorem dX12_setFor_62 : decode cX12_setFor 62 = .ok (.iload 4, 2) := by decide +kernel
theorem dX12_setFor_64 : decode cX12_setFor 64 = .ok (.i2l, 1) := by decide +kernel
theorem dX12_setFor_65 : decode cX12_setFor 65 = .ok (.lastore, 1) := by decide +kernel
theorem dX12_setFor_66 : decode cX12_setFor 66 = .ok (.aload_n 0, 1) := by decide +kernel
theorem dX12_setFor_67 : decode cX12_setFor 67 = .ok (.getfield 61, 3) := by decide +kernel
theorem dX12_setFor_70 : decode cX12_setFor 70 = .ok (.iconst 5, 1) := by decide +kernel
theorem dX12_setFor_71 : decode cX12_setFor 71 = .ok (.iload 4, 2) := by decide +kernel
theorem dX12_setFor_73 : decode cX12_setFor 73 = .ok (.bipush 7, 2) := by decide +kernel
theorem dX12_setFor_75 : decode cX12_setFor 75 = .ok (.idiv, 1) := by decide +kernel
theorem dX12_setFor_76 : decode cX12_setFor 76 = .ok (.i2l, 1) := by decide +kernel
theorem dX12_setFor_77 : decode cX12_setFor 77 = .ok (.lastore, 1) := by decide +kernel
theorem dX12_setFor_78 : decode cX12_setFor 78 = .ok (.aload_n 0, 1) := by decide +kernel
theorem dX12_setFor_79 : decode cX12_setFor 79 = .ok (.getfield 61, 3) := by decide +kernel
theorem dX12_setFor_82 : decode cX12_setFor 82 = .ok (.bipush 12, 2) := by decide +kernel
theorem dX12_setFor_84 : decode cX12_setFor 84 = .ok (.aload_n 0, 1) := by decide +kernel
theorem dX12_setFor_85 : decode cX12_setFor 85 = .ok (.getfield 7, 3) := by decide +kernel
theorem dX12_setFor_88 : decode cX12_setFor 88 = .ok (.iload_n 3, 1) := by decide +kernel
theorem dX12_setFor_89 : decode cX12_setFor 89 = .ok (.iconst 1, 1) := by decide +kernel
theorem dX12_setFor_90 : decode cX12_setFor 90 = .ok (.iadd, 1) := by decide +kernel
theorem dX12_setFor_91 : decode cX12_setFor 91 = .ok (.iaload, 1) := by decide +kernel
theorem dX12_setFor_92 : decode cX12_setFor 92 = .ok (.i2l, 1) := by decide +kernel
theorem dX12_setFor_93 : decode cX12_setFor 93 = .ok (.lastore, 1) := by decide +kernel
theorem dX12_setFor_94 : decode cX12_setFor 94 = .ok (.aload_n 0, 1) := by decide +kernel
theorem dX12_setFor_95 : decode cX12_setFor 95 = .ok (.getfield 61, 3) := by decide +kernel
theorem dX12_setFor_98 : decode cX12_setFor 98 = .ok (.bipush 13, 2) := by decide +kernel
theorem dX12_setFor_100 : decode cX12_setFor 100 = .ok (.aload_n 0, 1) := by decide +kernel
theorem dX12_setFor_101 : decode cX12_setFor 101 = .ok (.iload_n 1, 1) := by decide +kernel
theorem dX12_setFor_102 : decode cX12_setFor 102 = .ok (.iconst 0, 1) := by decide +kernel
theorem dX12_setFor_103 : decode cX12_setFor 103 = .ok (.iload 4, 2) := by decide +kernel
theorem dX12_setFor_105 : decode cX12_setFor 105 = .ok (.invokevirtual 413, 3) := by decide +kernel
theorem dX12_setFor_108 : decode cX12_setFor 108 = .ok (.ifCond .eq 7, 3) := by decide +kernel
theorem dX12_setFor_111 : decode cX12_setFor 111 = .ok (.lconst 1, 1) := by decide +kernel
theorem dX12_setFor_112 : decode cX12_setFor 112 = .ok (.goto 4, 3) := by decide +kernel
theorem dX12_setFor_115 : decode cX12_setFor 115 = .ok (.lconst 0, 1) := by decide +kernel
theorem dX12_setFor_116 : decode cX12_setFor 116 = .ok (.lastore, 1) := by decide +kernel
theorem dX12_setFor_117 : decode cX12_setFor 117 = .ok (.aload_n 0, 1) := by decide +kernel
theorem dX12_setFor_118 : decode cX12_setFor 118 = .ok (.getfield 61, 3) := by decide +kernel
theorem dX12_setFor_121 : decode cX12_setFor 121 = .ok (.bipush 14, 2) := by decide +kernel
theorem dX12_setFor_123 : decode cX12_setFor 123 = .ok (.aload_n 0, 1) := by decide +kernel
theorem dX12_setFor_124 : decode cX12_setFor 124 = .ok (.getfield 7, 3) := by decide +kernel
theorem dX12_setFor_127 : decode cX12_setFor 127 = .ok (.iload_n 3, 1) := by decide +kernel
theorem dX12_setFor_128 : decode cX12_setFor 128 = .ok (.iconst 2, 1) := by decide +kernel
theorem dX12_setFor_129 : decode cX12_setFor 129 = .ok (.iadd, 1) := by decide +kernel
theorem dX12_setFor_130 : decode cX12_setFor 130 = .ok (.iaload, 1) := by decide +kernel
theorem dX12_setFor_131 : decode cX12_setFor 131 = .ok (.iconst (-1), 1) := by decide +kernel
theorem dX12_setFor_132 : decode cX12_setFor 132 = .ok (.if_icmp .eq 23, 3) := by decide +kernel
theorem dX12_setFor_135 : decode cX12_setFor 135 = .ok (.aload_n 0, 1) := by decide +kernel
theorem dX12_setFor_136 : decode cX12_setFor 136 = .ok (.aload_n 0, 1) := by decide +kernel
theorem dX12_setFor_137 : decode cX12_setFor 137 = .ok (.getfield 7, 3) := by decide +kernel
theorem dX12_setFor_140 : decode cX12_setFor 140 = .ok (.iload_n 3, 1) := by decide +kernel
theorem dX12_setFor_141 : decode cX12_setFor 141 = .ok (.iconst 2, 1) := by decide +kernel
theorem dX12_setFor_142 : decode cX12_setFor 142 = .ok (.iadd, 1) := by decide +kernel
theorem dX12_setFor_143 : decode cX12_setFor 143 = .ok (.iaload, 1) := by decide +kernel
theorem dX12_setFor_144 : decode cX12_setFor 144 = .ok (.iload_n 2, 1) := by decide +kernel
theorem dX12_setFor_145 : decode cX12_setFor 145 = .ok (.invokevirtual 148, 3) := by decide +kernel
theorem dX12_setFor_148 : decode cX12_setFor 148 = .ok (.ifCond .eq 7, 3) := by decide +kernel
theorem dX12_setFor_151 : decode cX12_setFor 151 = .ok (.lconst 1, 1) := by decide +kernel
theorem dX12_setFor_152 : decode cX12_setFor 152 = .ok (.goto 4, 3) := by decide +kernel
theorem dX12_setFor_155 : decode cX12_setFor 155 = .ok (.lconst 0, 1) := by decide +kernel
theorem dX12_setFor_156 : decode cX12_setFor 156 = .ok (.lastore, 1) := by decide +kernel
theorem dX12_setFor_157 : decode cX12_setFor 157 = .ok (.aload_n 0, 1) := by decide +kernel
theorem dX12_setFor_158 : decode cX12_setFor 158 = .ok (.getfield 61, 3) := by decide +kernel
theorem dX12_setFor_161 : decode cX12_setFor 161 = .ok (.bipush 15, 2) := by decide +kernel
theorem dX12_setFor_163 : decode cX12_setFor 163 = .ok (.aload_n 0, 1) := by decide +kernel
theorem dX12_setFor_164 : decode cX12_setFor 164 = .ok (.iload_n 1, 1) := by decide +kernel
theorem dX12_setFor_165 : decode cX12_setFor 165 = .ok (.iconst 1, 1) := by decide +kernel
theorem dX12_setFor_166 : decode cX12_setFor 166 = .ok (.iload 4, 2) := by decide +kernel
theorem dX12_setFor_168 : decode cX12_setFor 168 = .ok (.invokevirtual 413, 3) := by decide +kernel
theorem dX12_setFor_171 : decode cX12_setFor 171 = .ok (.ifCond .eq 7, 3) := by decide +kernel
theorem dX12_setFor_174 : decode cX12_setFor 174 = .ok (.lconst 1, 1) := by decide +kernel
theorem dX12_setFor_175 : decode cX12_setFor 175 = .ok (.goto 4, 3) := by decide +kernel
theorem dX12_setFor_178 : decode cX12_setFor 178 = .ok (.lconst 0, 1) := by decide +kernel
theorem dX12_setFor_179 : decode cX12_setFor 179 = .ok (.lastore, 1) := by decide +kernel
theorem dX12_setFor_180 : decode cX12_setFor 180 = .ok (.return_, 1) := by decide +kernel
theorem dX12_shut_0 : decode cX12_shut 0 = .ok (.aload_n 0, 1) := by decide +kernel
theorem dX12_shut_1 : decode cX12_shut 1 = .ok (.iconst 0, 1) := by decide +kernel
theorem dX12_shut_2 : decode cX12_shut 2 = .ok (.putfield 92, 3) := by decide +kernel
theorem dX12_shut_5 : decode cX12_shut 5 = .ok (.iload_n 2, 1) := by decide +kernel
theorem dX12_shut_6 : decode cX12_shut 6 = .ok (.invokestatic 127, 3) := by decide +kernel
theorem dX12_shut_9 : decode cX12_shut 9 = .ok (.ifCond .ne 9, 3) := by decide +kernel
theorem dX12_shut_12 : decode cX12_shut 12 = .ok (.aload_n 0, 1) := by decide +kernel
theorem dX12_shut_13 : decode cX12_shut 13 = .ok (.iconst (-1), 1) := by decide +kernel
theorem dX12_shut_14 : decode cX12_shut 14 = .ok (.invokevirtual 106, 3) := by decide +kernel
theorem dX12_shut_17 : decode cX12_shut 17 = .ok (.ireturn, 1) := by decide +kernel
theorem dX12_shut_18 : decode cX12_shut 18 = .ok (.aload_n 0, 1) := by decide +kernel
theorem dX12_shut_19 : decode cX12_shut 19 = .ok (.iload_n 1, 1) := by decide +kernel
theorem dX12_shut_20 : decode cX12_shut 20 = .ok (.invokevirtual 131, 3) := by decide +kernel
theorem dX12_shut_23 : decode cX12_shut 23 = .ok (.ifCond .ne 10, 3) := by decide +kernel
theorem dX12_shut_26 : decode cX12_shut 26 = .ok (.aload_n 0, 1) := by decide +kernel
theorem dX12_shut_27 : decode cX12_shut 27 = .ok (.bipush (-2), 2) := by decide +kernel
theorem dX12_shut_29 : decode cX12_shut 29 = .ok (.invokevirtual 106, 3) := by decide +kernel
theorem dX12_shut_32 : decode cX12_shut 32 = .ok (.ireturn, 1) := by decide +kernel
theorem dX12_shut_33 : decode cX12_shut 33 = .ok (.aload_n 0, 1) := by decide +kernel
theorem dX12_shut_34 : decode cX12_shut 34 = .ok (.getfield 7, 3) := by decide +kernel
theorem dX12_shut_37 : decode cX12_shut 37 = .ok (.sipush 700, 3) := by decide +kernel
theorem dX12_shut_40 : decode cX12_shut 40 = .ok (.sipush 400, 3) := by decide +kernel
theorem dX12_shut_43 : decode cX12_shut 43 = .ok (.iload_n 1, 1) := by decide +kernel
theorem dX12_shut_44 : decode cX12_shut 44 = .ok (.imul, 1) := by decide +kernel
theorem dX12_shut_45 : decode cX12_shut 45 = .ok (.iadd, 1) := by decide +kernel
theorem dX12_shut_46 : decode cX12_shut 46 = .ok (.iload_n 2, 1) := by decide +kernel
theorem dX12_shut_47 : decode cX12_shut 47 = .ok (.iadd, 1) := by decide +kernel
theorem dX12_shut_48 : decode cX12_shut 48 = .ok (.iaload, 1) := by decide +kernel
theorem dX12_shut_49 : decode cX12_shut 49 = .ok (.iconst 1, 1) := by decide +kernel
theorem dX12_shut_50 : decode cX12_shut 50 = .ok (.if_icmp .ne 10, 3) := by decide +kernel
theorem dX12_shut_53 : decode cX12_shut 53 = .ok (.aload_n 0, 1) := by decide +kernel
theorem dX12_shut_54 : decode cX12_shut 54 = .ok (.bipush (-4), 2) := by decide +kernel
theorem dX12_shut_56 : decode cX12_shut 56 = .ok (.invokevirtual 106, 3) := by decide +kernel
theorem dX12_shut_59 : decode cX12_shut 59 = .ok (.ireturn, 1) := by decide +kernel
theorem dX12_shut_60 : decode cX12_shut 60 = .ok (.aload_n 0, 1) := by decide +kernel
theorem dX12_shut_61 : decode cX12_shut 61 = .ok (.getfield 7, 3) := by decide +kernel
theorem dX12_shut_64 : decode cX12_shut 64 = .ok (.sipush 700, 3) := by decide +kernel
theorem dX12_shut_67 : decode cX12_shut 67 = .ok (.sipush 400, 3) := by decide +kernel
theorem dX12_shut_70 : decode cX12_shut 70 = .ok (.iload_n 1, 1) := by decide +kernel
theorem dX12_shut_71 : decode cX12_shut 71 = .ok (.imul, 1) := by decide +kernel
theorem dX12_shut_72 : decode cX12_shut 72 = .ok (.iadd, 1) := by decide +kernel
theorem dX12_shut_73 : decode cX12_shut 73 = .ok (.iload_n 2, 1) := by decide +kernel
theorem dX12_shut_74 : decode cX12_shut 74 = .ok (.iadd, 1) := by decide +kernel
theorem dX12_shut_75 : decode cX12_shut 75 = .ok (.iconst 1, 1) := by decide +kernel
theorem dX12_shut_76 : decode cX12_shut 76 = .ok (.iastore, 1) := by decide +kernel
theorem dX12_shut_77 : decode cX12_shut 77 = .ok (.aload_n 0, 1) := by decide +kernel
theorem dX12_shut_78 : decode cX12_shut 78 = .ok (.iconst 0, 1) := by decide +kernel
theorem dX12_shut_79 : decode cX12_shut 79 = .ok (.invokevirtual 106, 3) := by decide +kernel
theorem dX12_shut_82 : decode cX12_shut 82 = .ok (.ireturn, 1) := by decide +kernel
theorem dX12_stands_0 : decode cX12_stands 0 = .ok (.aload_n 0, 1) := by decide +kernel
theorem dX12_stands_1 : decode cX12_stands 1 = .ok (.iconst 0, 1) := by decide +kernel
theorem dX12_stands_2 : decode cX12_stands 2 = .ok (.putfield 92, 3) := by decide +kernel
theorem dX12_stands_5 : decode cX12_stands 5 = .ok (.aload_n 0, 1) := by decide +kernel
theorem dX12_stands_6 : decode cX12_stands 6 = .ok (.iload_n 1, 1) := by decide +kernel
theorem dX12_stands_7 : decode cX12_stands 7 = .ok (.invokevirtual 138, 3) := by decide +kernel
theorem dX12_stands_10 : decode cX12_stands 10 = .ok (.ifCond .eq 35, 3) := by decide +kernel
theorem dX12_stands_13 : decode cX12_stands 13 = .ok (.iload_n 2, 1) := by decide +kernel
theorem dX12_stands_14 : decode cX12_stands 14 = .ok (.invokestatic 460, 3) := by decide +kernel
theorem dX12_stands_17 : decode cX12_stands 17 = .ok (.ifCond .eq 28, 3) := by decide +kernel
theorem dX12_stands_20 : decode cX12_stands 20 = .ok (.iload_n 3, 1) := by decide +kernel
theorem dX12_stands_21 : decode cX12_stands 21 = .ok (.invokestatic 127, 3) := by decide +kernel
theorem dX12_stands_24 : decode cX12_stands 24 = .ok (.ifCond .eq 21, 3) := by decide +kernel
theorem dX12_stands_27 : decode cX12_stands 27 = .ok (.aload_n 0, 1) := by decide +kernel
theorem dX12_stands_28 : decode cX12_stands 28 = .ok (.iload_n 1, 1) := by decide +kernel
theorem dX12_stands_29 : decode cX12_stands 29 = .ok (.iload_n 2, 1) := by decide +kernel
theorem dX12_stands_30 : decode cX12_stands 30 = .ok (.iload_n 3, 1) := by decide +kernel
theorem dX12_stands_31 : decode cX12_stands 31 = .ok (.invokevirtual 475, 3) := by decide +kernel
theorem dX12_stands_34 : decode cX12_stands 34 = .ok (.ifCond .eq 7, 3) := by decide +kernel
theorem dX12_stands_37 : decode cX12_stands 37 = .ok (.iconst 1, 1) := by decide +kernel
theorem dX12_stands_38 : decode cX12_stands 38 = .ok (.goto 8, 3) := by decide +kernel
theorem dX12_stands_41 : decode cX12_stands 41 = .ok (.iconst 0, 1) := by decide +kernel
theorem dX12_stands_42 : decode cX12_stands 42 = .ok (.goto 4, 3) := by decide +kernel
theorem dX12_stands_45 : decode cX12_stands 45 = .ok (.iconst (-1), 1) := by decide +kernel
theorem dX12_stands_46 : decode cX12_stands 46 = .ok (.ireturn, 1) := by decide +kernel
theorem dX12_status_0 : decode cX12_status 0 = .ok (.aload_n 0, 1) := by decide +kernel
theorem dX12_status_1 : decode cX12_status 1 = .ok (.iconst 0, 1) := by decide +kernel
theorem dX12_status_2 : decode cX12_status 2 = .ok (.putfield 92, 3) := by decide +kernel
theorem dX12_status_5 : decode cX12_status 5 = .ok (.aload_n 0, 1) := by decide +kernel
theorem dX12_status_6 : decode cX12_status 6 = .ok (.getfield 95, 3) := by decide +kernel
theorem dX12_status_9 : decode cX12_status 9 = .ok (.ireturn, 1) := by decide +kernel
theorem dX12_take_0 : decode cX12_take 0 = .ok (.aload_n 0, 1) := by decide +kernel
theorem dX12_take_1 : decode cX12_take 1 = .ok (.iconst 0, 1) := by decide +kernel
theorem dX12_take_2 : decode cX12_take 2 = .ok (.putfield 92, 3) := by decide +kernel
theorem dX12_take_5 : decode cX12_take 5 = .ok (.iload_n 2, 1) := by decide +kernel
theorem dX12_take_6 : decode cX12_take 6 = .ok (.invokestatic 460, 3) := by decide +kernel
theorem dX12_take_9 : decode cX12_take 9 = .ok (.ifCond .eq 10, 3) := by decide +kernel
theorem dX12_take_12 : decode cX12_take 12 = .ok (.iload_n 3, 1) := by decide +kernel
theorem dX12_take_13 : decode cX12_take 13 = .ok (.invokestatic 127, 3) := by decide +kernel
theorem dX12_take_16 : decode cX12_take 16 = .ok (.ifCond .ne 9, 3) := by decide +kernel
theorem dX12_take_19 : decode cX12_take 19 = .ok (.aload_n 0, 1) := by decide +kernel
theorem dX12_take_20 : decode cX12_take 20 = .ok (.iconst (-1), 1) := by decide +kernel
theorem dX12_take_21 : decode cX12_take 21 = .ok (.invokevirtual 106, 3) := by decide +kernel
theorem dX12_take_24 : decode cX12_take 24 = .ok (.ireturn, 1) := by decide +kernel
theorem dX12_take_25 : decode cX12_take 25 = .ok (.aload_n 0, 1) := by decide +kernel
theorem dX12_take_26 : decode cX12_take 26 = .ok (.iload_n 1, 1) := by decide +kernel
theorem dX12_take_27 : decode cX12_take 27 = .ok (.invokevirtual 138, 3) := by decide +kernel
theorem dX12_take_30 : decode cX12_take 30 = .ok (.ifCond .ne 10, 3) := by decide +kernel
theorem dX12_take_33 : decode cX12_take 33 = .ok (.aload_n 0, 1) := by decide +kernel
theorem dX12_take_34 : decode cX12_take 34 = .ok (.bipush (-2), 2) := by decide +kernel
theorem dX12_take_36 : decode cX12_take 36 = .ok (.invokevirtual 106, 3) := by decide +kernel
theorem dX12_take_39 : decode cX12_take 39 = .ok (.ireturn, 1) := by decide +kernel
theorem dX12_take_40 : decode cX12_take 40 = .ok (.iload_n 2, 1) := by decide +kernel
theorem dX12_take_41 : decode cX12_take 41 = .ok (.ifCond .le 34, 3) := by decide +kernel
theorem dX12_take_44 : decode cX12_take 44 = .ok (.aload_n 0, 1) := by decide +kernel
theorem dX12_take_45 : decode cX12_take 45 = .ok (.iload_n 1, 1) := by decide +kernel
theorem dX12_take_46 : decode cX12_take 46 = .ok (.iload_n 2, 1) := by decide +kernel
theorem dX12_take_47 : decode cX12_take 47 = .ok (.iconst 1, 1) := by decide +kernel
theorem dX12_take_48 : decode cX12_take 48 = .ok (.isub, 1) := by decide +kernel
theorem dX12_take_49 : decode cX12_take 49 = .ok (.invokevirtual 469, 3) := by decide +kernel
theorem dX12_take_52 : decode cX12_take 52 = .ok (.iconst (-1), 1) := by decide +kernel
theorem dX12_take_53 : decode cX12_take 53 = .ok (.if_icmp .eq 15, 3) := by decide +kernel
theorem dX12_take_56 : decode cX12_take 56 = .ok (.aload_n 0, 1) := by decide +kernel
theorem dX12_take_57 : decode cX12_take 57 = .ok (.iload_n 1, 1) := by decide +kernel
theorem dX12_take_58 : decode cX12_take 58 = .ok (.iload_n 2, 1) := by decide +kernel
theorem dX12_take_59 : decode cX12_take 59 = .ok (.iconst 1, 1) := by decide +kernel
theorem dX12_take_60 : decode cX12_take 60 = .ok (.isub, 1) := by decide +kernel
theorem dX12_take_61 : decode cX12_take 61 = .ok (.invokevirtual 469, 3) := by decide +kernel
theorem dX12_take_64 : decode cX12_take 64 = .ok (.iload_n 3, 1) := by decide +kernel
theorem dX12_take_65 : decode cX12_take 65 = .ok (.if_icmp .le 10, 3) := by decide +kernel
theorem dX12_take_68 : decode cX12_take 68 = .ok (.aload_n 0, 1) := by decide +kernel
theorem dX12_take_69 : decode cX12_take 69 = .ok (.bipush (-3), 2) := by decide +kernel
theorem dX12_take_71 : decode cX12_take 71 = .ok (.invokevirtual 106, 3) := by decide +kernel
theorem dX12_take_74 : decode cX12_take 74 = .ok (.ireturn, 1) := by decide +kernel
theorem dX12_take_75 : decode cX12_take 75 = .ok (.aload_n 0, 1) := by decide +kernel
theorem dX12_take_76 : decode cX12_take 76 = .ok (.iload_n 3, 1) := by decide +kernel
theorem dX12_take_77 : decode cX12_take 77 = .ok (.invokevirtual 186, 3) := by decide +kernel
theorem dX12_take_80 : decode cX12_take 80 = .ok (.aload_n 0, 1) := by decide +kernel
theorem dX12_take_81 : decode cX12_take 81 = .ok (.iload_n 1, 1) := by decide +kernel
theorem dX12_take_82 : decode cX12_take 82 = .ok (.invokevirtual 463, 3) := by decide +kernel
theorem dX12_take_85 : decode cX12_take 85 = .ok (.aload_n 0, 1) := by decide +kernel
theorem dX12_take_86 : decode cX12_take 86 = .ok (.iload_n 1, 1) := by decide +kernel
theorem dX12_take_87 : decode cX12_take 87 = .ok (.iload_n 2, 1) := by decide +kernel
theorem dX12_take_88 : decode cX12_take 88 = .ok (.aload_n 0, 1) := by decide +kernel
theorem dX12_take_89 : decode cX12_take 89 = .ok (.iload_n 1, 1) := by decide +kernel
theorem dX12_take_90 : decode cX12_take 90 = .ok (.iload_n 2, 1) := by decide +kernel
theorem dX12_take_91 : decode cX12_take 91 = .ok (.invokevirtual 472, 3) := by decide +kernel
theorem dX12_take_94 : decode cX12_take 94 = .ok (.invokevirtual 466, 3) := by decide +kernel
theorem dX12_take_97 : decode cX12_take 97 = .ok (.iload_n 3, 1) := by decide +kernel
theorem dX12_take_98 : decode cX12_take 98 = .ok (.if_icmp .le 10, 3) := by decide +kernel
theorem dX12_take_101 : decode cX12_take 101 = .ok (.aload_n 0, 1) := by decide +kernel
theorem dX12_take_102 : decode cX12_take 102 = .ok (.bipush (-3), 2) := by decide +kernel
theorem dX12_take_104 : decode cX12_take 104 = .ok (.invokevirtual 106, 3) := by decide +kernel
theorem dX12_take_107 : decode cX12_take 107 = .ok (.ireturn, 1) := by decide +kernel
theorem dX12_take_108 : decode cX12_take 108 = .ok (.aload_n 0, 1) := by decide +kernel
theorem dX12_take_109 : decode cX12_take 109 = .ok (.iload_n 1, 1) := by decide +kernel
theorem dX12_take_110 : decode cX12_take 110 = .ok (.iload_n 2, 1) := by decide +kernel
theorem dX12_take_111 : decode cX12_take 111 = .ok (.invokevirtual 469, 3) := by decide +kernel
theorem dX12_take_114 : decode cX12_take 114 = .ok (.iconst (-1), 1) := by decide +kernel
theorem dX12_take_115 : decode cX12_take 115 = .ok (.if_icmp .eq 10, 3) := by decide +kernel
theorem dX12_take_118 : decode cX12_take 118 = .ok (.aload_n 0, 1) := by decide +kernel
theorem dX12_take_119 : decode cX12_take 119 = .ok (.bipush (-4), 2) := by decide +kernel
theorem dX12_take_121 : decode cX12_take 121 = .ok (.invokevirtual 106, 3) := by decide +kernel
theorem dX12_take_124 : decode cX12_take 124 = .ok (.ireturn, 1) := by decide +kernel
theorem dX12_take_125 : decode cX12_take 125 = .ok (.aload_n 0, 1) := by decide +kernel
theorem dX12_take_126 : decode cX12_take 126 = .ok (.getfield 7, 3) := by decide +kernel
theorem dX12_take_129 : decode cX12_take 129 = .ok (.iload_n 1, 1) := by decide +kernel
theorem dX12_take_130 : decode cX12_take 130 = .ok (.invokestatic 120, 3) := by decide +kernel
theorem dX12_take_133 : decode cX12_take 133 = .ok (.iconst 5, 1) := by decide +kernel
theorem dX12_take_134 : decode cX12_take 134 = .ok (.iadd, 1) := by decide +kernel
theorem dX12_take_135 : decode cX12_take 135 = .ok (.iload_n 2, 1) := by decide +kernel
theorem dX12_take_136 : decode cX12_take 136 = .ok (.iadd, 1) := by decide +kernel
theorem dX12_take_137 : decode cX12_take 137 = .ok (.iload_n 3, 1) := by decide +kernel
theorem dX12_take_138 : decode cX12_take 138 = .ok (.iastore, 1) := by decide +kernel
theorem dX12_take_139 : decode cX12_take 139 = .ok (.aload_n 0, 1) := by decide +kernel
theorem dX12_take_140 : decode cX12_take 140 = .ok (.iconst 0, 1) := by decide +kernel
theorem dX12_take_141 : decode cX12_take 141 = .ok (.invokevirtual 106, 3) := by decide +kernel
theorem dX12_take_144 : decode cX12_take 144 = .ok (.ireturn, 1) := by decide +kernel
theorem dX12_takenOn_0 : decode cX12_takenOn 0 = .ok (.aload_n 0, 1) := by decide +kernel
theorem dX12_takenOn_1 : decode cX12_takenOn 1 = .ok (.getfield 7, 3) := by decide +kernel
theorem dX12_takenOn_4 : decode cX12_takenOn 4 = .ok (.iload_n 1, 1) := by decide +kernel
theorem dX12_takenOn_5 : decode cX12_takenOn 5 = .ok (.invokestatic 120, 3) := by decide +kernel
theorem dX12_takenOn_8 : decode cX12_takenOn 8 = .ok (.iconst 5, 1) := by decide +kernel
theorem dX12_takenOn_9 : decode cX12_takenOn 9 = .ok (.iadd, 1) := by decide +kernel
theorem dX12_takenOn_10 : decode cX12_takenOn 10 = .ok (.iload_n 2, 1) := by decide +kernel
theorem dX12_takenOn_11 : decode cX12_takenOn 11 = .ok (.iadd, 1) := by decide +kernel
theorem dX12_takenOn_12 : decode cX12_takenOn 12 = .ok (.iaload, 1) := by decide +kernel
theorem dX12_takenOn_13 : decode cX12_takenOn 13 = .ok (.ireturn, 1) := by decide +kernel
theorem dX12_tellRate_0 : decode cX12_tellRate 0 = .ok (.aload_n 0, 1) := by decide +kernel
theorem dX12_tellRate_1 : decode cX12_tellRate 1 = .ok (.getfield 440, 3) := by decide +kernel
theorem dX12_tellRate_4 : decode cX12_tellRate 4 = .ok (.i2l, 1) := by decide +kernel
theorem dX12_tellRate_5 : decode cX12_tellRate 5 = .ok (.aload_n 0, 1) := by decide +kernel
theorem dX12_tellRate_6 : decode cX12_tellRate 6 = .ok (.getfield 443, 3) := by decide +kernel
theorem dX12_tellRate_9 : decode cX12_tellRate 9 = .ok (.i2l, 1) := by decide +kernel
theorem dX12_tellRate_10 : decode cX12_tellRate 10 = .ok (.invokestatic 446, 3) := by decide +kernel
theorem dX12_tellRate_13 : decode cX12_tellRate 13 = .ok (.l2i, 1) := by decide +kernel
theorem dX12_tellRate_14 : decode cX12_tellRate 14 = .ok (.istore_n 2, 1) := by decide +kernel
theorem dX12_tellRate_15 : decode cX12_tellRate 15 = .ok (.iload_n 1, 1) := by decide +kernel
theorem dX12_tellRate_16 : decode cX12_tellRate 16 = .ok (.ifCond .ne 10, 3) := by decide +kernel
theorem dX12_tellRate_19 : decode cX12_tellRate 19 = .ok (.aload_n 0, 1) := by decide +kernel
theorem dX12_tellRate_20 : decode cX12_tellRate 20 = .ok (.getfield 440, 3) := by decide +kernel
theorem dX12_tellRate_23 : decode cX12_tellRate 23 = .ok (.goto 48, 3) := by decide +kernel
theorem dX12_tellRate_26 : decode cX12_tellRate 26 = .ok (.iload_n 1, 1) := by decide +kernel
theorem dX12_tellRate_27 : decode cX12_tellRate 27 = .ok (.iconst 1, 1) := by decide +kernel
theorem dX12_tellRate_28 : decode cX12_tellRate 28 = .ok (.if_icmp .ne 10, 3) := by decide +kernel
theorem dX12_tellRate_31 : decode cX12_tellRate 31 = .ok (.aload_n 0, 1) := by decide +kernel
theorem dX12_tellRate_32 : decode cX12_tellRate 32 = .ok (.getfield 443, 3) := by decide +kernel
theorem dX12_tellRate_35 : decode cX12_tellRate 35 = .ok (.goto 36, 3) := by decide +kernel
theorem dX12_tellRate_38 : decode cX12_tellRate 38 = .ok (.aload_n 0, 1) := by decide +kernel
theorem dX12_tellRate_39 : decode cX12_tellRate 39 = .ok (.getfield 440, 3) := by decide +kernel
theorem dX12_tellRate_42 : decode cX12_tellRate 42 = .ok (.ifCond .ne 9, 3) := by decide +kernel
theorem dX12_tellRate_45 : decode cX12_tellRate 45 = .ok (.iload_n 1, 1) := by decide +kernel
theorem dX12_tellRate_46 : decode cX12_tellRate 46 = .ok (.iconst 2, 1) := by decide +kernel
theorem dX12_tellRate_47 : decode cX12_tellRate 47 = .ok (.isub, 1) := by decide +kernel
theorem dX12_tellRate_48 : decode cX12_tellRate 48 = .ok (.goto 23, 3) := by decide +kernel
theorem dX12_tellRate_51 : decode cX12_tellRate 51 = .ok (.iload_n 1, 1) := by decide +kernel
theorem dX12_tellRate_52 : decode cX12_tellRate 52 = .ok (.iconst 2, 1) := by decide +kernel
theorem dX12_tellRate_53 : decode cX12_tellRate 53 = .ok (.if_icmp .ne 12, 3) := by decide +kernel
theorem dX12_tellRate_56 : decode cX12_tellRate 56 = .ok (.aload_n 0, 1) := by decide +kernel
theorem dX12_tellRate_57 : decode cX12_tellRate 57 = .ok (.getfield 443, 3) := by decide +kernel
theorem dX12_tellRate_60 : decode cX12_tellRate 60 = .ok (.iload_n 2, 1) := by decide +kernel
theorem dX12_tellRate_61 : decode cX12_tellRate 61 = .ok (.idiv, 1) := by decide +kernel
theorem dX12_tellRate_62 : decode cX12_tellRate 62 = .ok (.goto 9, 3) := by decide +kernel
theorem dX12_tellRate_65 : decode cX12_tellRate 65 = .ok (.aload_n 0, 1) := by decide +kernel
theorem dX12_tellRate_66 : decode cX12_tellRate 66 = .ok (.getfield 440, 3) := by decide +kernel
theorem dX12_tellRate_69 : decode cX12_tellRate 69 = .ok (.iload_n 2, 1) := by decide +kernel
theorem dX12_tellRate_70 : decode cX12_tellRate 70 = .ok (.idiv, 1) := by decide +kernel
theorem dX12_tellRate_71 : decode cX12_tellRate 71 = .ok (.ireturn, 1) := by decide +kernel
theorem dX12_tells_0 : decode cX12_tells 0 = .ok (.aload_n 0, 1) := by decide +kernel
theorem dX12_tells_1 : decode cX12_tells 1 = .ok (.iconst 0, 1) := by decide +kernel
theorem dX12_tells_2 : decode cX12_tells 2 = .ok (.putfield 92, 3) := by decide +kernel
theorem dX12_tells_5 : decode cX12_tells 5 = .ok (.aload_n 0, 1) := by decide +kernel
theorem dX12_tells_6 : decode cX12_tells 6 = .ok (.iload_n 1, 1) := by decide +kernel
theorem dX12_tells_7 : decode cX12_tells 7 = .ok (.invokevirtual 131, 3) := by decide +kernel
theorem dX12_tells_10 : decode cX12_tells 10 = .ok (.ifCond .eq 39, 3) := by decide +kernel
theorem dX12_tells_13 : decode cX12_tells 13 = .ok (.aload_n 0, 1) := by decide +kernel
theorem dX12_tells_14 : decode cX12_tells 14 = .ok (.iload_n 2, 1) := by decide +kernel
theorem dX12_tells_15 : decode cX12_tells 15 = .ok (.invokevirtual 138, 3) := by decide +kernel
theorem dX12_tells_18 : decode cX12_tells 18 = .ok (.ifCond .eq 31, 3) := by decide +kernel
theorem dX12_tells_21 : decode cX12_tells 21 = .ok (.iload_n 3, 1) := by decide +kernel
theorem dX12_tells_22 : decode cX12_tells 22 = .ok (.invokestatic 145, 3) := by decide +kernel
theorem dX12_tells_25 : decode cX12_tells 25 = .ok (.ifCond .eq 24, 3) := by decide +kernel
theorem dX12_tells_28 : decode cX12_tells 28 = .ok (.iload 4, 2) := by decide +kernel
theorem dX12_tells_30 : decode cX12_tells 30 = .ok (.invokestatic 127, 3) := by decide +kernel
theorem dX12_tells_33 : decode cX12_tells 33 = .ok (.ifCond .eq 16, 3) := by decide +kernel
theorem dX12_tells_36 : decode cX12_tells 36 = .ok (.iload 5, 2) := by decide +kernel
theorem dX12_tells_38 : decode cX12_tells 38 = .ok (.i2l, 1) := by decide +kernel
theorem dX12_tells_39 : decode cX12_tells 39 = .ok (.lconst 0, 1) := by decide +kernel
theorem dX12_tells_40 : decode cX12_tells 40 = .ok (.ldc2_w 184, 3) := by decide +kernel
theorem dX12_tells_43 : decode cX12_tells 43 = .ok (.invokestatic 100, 3) := by decide +kernel
theorem dX12_tells_46 : decode cX12_tells 46 = .ok (.ifCond .ne 5, 3) := by decide +kernel
theorem dX12_tells_49 : decode cX12_tells 49 = .ok (.iconst (-1), 1) := by decide +kernel
theorem dX12_tells_50 : decode cX12_tells 50 = .ok (.ireturn, 1) := by decide +kernel
theorem dX12_tells_51 : decode cX12_tells 51 = .ok (.aload_n 0, 1) := by decide +kernel
theorem dX12_tells_52 : decode cX12_tells 52 = .ok (.iload 4, 2) := by decide +kernel
theorem dX12_tells_54 : decode cX12_tells 54 = .ok (.invokevirtual 186, 3) := by decide +kernel
theorem dX12_tells_57 : decode cX12_tells 57 = .ok (.aload_n 0, 1) := by decide +kernel
theorem dX12_tells_58 : decode cX12_tells 58 = .ok (.iload_n 1, 1) := by decide +kernel
theorem dX12_tells_59 : decode cX12_tells 59 = .ok (.iload_n 2, 1) := by decide +kernel
theorem dX12_tells_60 : decode cX12_tells 60 = .ok (.iload_n 3, 1) := by decide +kernel
theorem dX12_tells_61 : decode cX12_tells 61 = .ok (.invokevirtual 189, 3) := by decide +kernel
theorem dX12_tells_64 : decode cX12_tells 64 = .ok (.istore 6, 2) := by decide +kernel
theorem dX12_tells_66 : decode cX12_tells 66 = .ok (.iload 6, 2) := by decide +kernel
theorem dX12_tells_68 : decode cX12_tells 68 = .ok (.iconst (-1), 1) := by decide +kernel
theorem dX12_tells_69 : decode cX12_tells 69 = .ok (.if_icmp .ne 5, 3) := by decide +kernel
theorem dX12_tells_72 : decode cX12_tells 72 = .ok (.iconst (-1), 1) := by decide +kernel
theorem dX12_tells_73 : decode cX12_tells 73 = .ok (.ireturn, 1) := by decide +kernel
theorem dX12_tells_74 : decode cX12_tells 74 = .ok (.iload 5, 2) := by decide +kernel
theorem dX12_tells_76 : decode cX12_tells 76 = .ok (.ifCond .ne 8, 3) := by decide +kernel
theorem dX12_tells_79 : decode cX12_tells 79 = .ok (.iload 6, 2) := by decide +kernel
theorem dX12_tells_81 : decode cX12_tells 81 = .ok (.goto 66, 3) := by decide +kernel
theorem dX12_tells_84 : decode cX12_tells 84 = .ok (.iload 5, 2) := by decide +kernel
theorem dX12_tells_86 : decode cX12_tells 86 = .ok (.iconst 1, 1) := by decide +kernel
theorem dX12_tells_87 : decode cX12_tells 87 = .ok (.if_icmp .ne 13, 3) := by decide +kernel
theorem dX12_tells_90 : decode cX12_tells 90 = .ok (.aload_n 0, 1) := by decide +kernel
theorem dX12_tells_91 : decode cX12_tells 91 = .ok (.getfield 24, 3) := by decide +kernel
theorem dX12_tells_94 : decode cX12_tells 94 = .ok (.iload 6, 2) := by decide +kernel
theorem dX12_tells_96 : decode cX12_tells 96 = .ok (.iaload, 1) := by decide +kernel
theorem dX12_tells_97 : decode cX12_tells 97 = .ok (.goto 50, 3) := by decide +kernel
theorem dX12_tells_100 : decode cX12_tells 100 = .ok (.iload 5, 2) := by decide +kernel
theorem dX12_tells_102 : decode cX12_tells 102 = .ok (.iconst 2, 1) := by decide +kernel
theorem dX12_tells_103 : decode cX12_tells 103 = .ok (.if_icmp .ne 21, 3) := by decide +kernel
theorem dX12_tells_106 : decode cX12_tells 106 = .ok (.aload_n 0, 1) := by decide +kernel
theorem dX12_tells_107 : decode cX12_tells 107 = .ok (.getfield 7, 3) := by decide +kernel
theorem dX12_tells_110 : decode cX12_tells 110 = .ok (.iload 6, 2) := by decide +kernel
theorem dX12_tells_112 : decode cX12_tells 112 = .ok (.invokestatic 155, 3) := by decide +kernel
theorem dX12_tells_115 : decode cX12_tells 115 = .ok (.iconst 3, 1) := by decide +kernel
theorem dX12_tells_116 : decode cX12_tells 116 = .ok (.iadd, 1) := by decide +kernel
theorem dX12_tells_117 : decode cX12_tells 117 = .ok (.iaload, 1) := by decide +kernel
theorem dX12_tells_118 : decode cX12_tells 118 = .ok (.bipush 26, 2) := by decide +kernel
theorem dX12_tells_120 : decode cX12_tells 120 = .ok (.idiv, 1) := by decide +kernel
theorem dX12_tells_121 : decode cX12_tells 121 = .ok (.goto 26, 3) := by decide +kernel
theorem dX12_tells_124 : decode cX12_tells 124 = .ok (.iload 5, 2) := by decide +kernel
theorem dX12_tells_126 : decode cX12_tells 126 = .ok (.iconst 3, 1) := by decide +kernel
theorem dX12_tells_127 : decode cX12_tells 127 = .ok (.if_icmp .ne 13, 3) := by decide +kernel
theorem dX12_tells_130 : decode cX12_tells 130 = .ok (.aload_n 0, 1) := by decide +kernel
theorem dX12_tells_131 : decode cX12_tells 131 = .ok (.getfield 27, 3) := by decide +kernel
theorem dX12_tells_134 : decode cX12_tells 134 = .ok (.iload 6, 2) := by decide +kernel
theorem dX12_tells_136 : decode cX12_tells 136 = .ok (.iaload, 1) := by decide +kernel
theorem dX12_tells_137 : decode cX12_tells 137 = .ok (.goto 10, 3) := by decide +kernel
theorem dX12_tells_140 : decode cX12_tells 140 = .ok (.aload_n 0, 1) := by decide +kernel
theorem dX12_tells_141 : decode cX12_tells 141 = .ok (.getfield 30, 3) := by decide +kernel
theorem dX12_tells_144 : decode cX12_tells 144 = .ok (.iload 6, 2) := by decide +kernel
theorem dX12_tells_146 : decode cX12_tells 146 = .ok (.iaload, 1) := by decide +kernel
theorem dX12_tells_147 : decode cX12_tells 147 = .ok (.ireturn, 1) := by decide +kernel
theorem dX12_textAt_0 : decode cX12_textAt 0 = .ok (.sipush 8661, 3) := by decide +kernel
theorem dX12_textAt_3 : decode cX12_textAt 3 = .ok (.sipush 922, 3) := by decide +kernel
theorem dX12_textAt_6 : decode cX12_textAt 6 = .ok (.iload_n 0, 1) := by decide +kernel
theorem dX12_textAt_7 : decode cX12_textAt 7 = .ok (.imul, 1) := by decide +kernel
theorem dX12_textAt_8 : decode cX12_textAt 8 = .ok (.iadd, 1) := by decide +kernel
theorem dX12_textAt_9 : decode cX12_textAt 9 = .ok (.ireturn, 1) := by decide +kernel
theorem dX12_told_0 : decode cX12_told 0 = .ok (.aload_n 0, 1) := by decide +kernel
theorem dX12_told_1 : decode cX12_told 1 = .ok (.iload_n 1, 1) := by decide +kernel
theorem dX12_told_2 : decode cX12_told 2 = .ok (.ifCond .ge 7, 3) := by decide +kernel
theorem dX12_told_5 : decode cX12_told 5 = .ok (.iload_n 1, 1) := by decide +kernel
theorem dX12_told_6 : decode cX12_told 6 = .ok (.goto 4, 3) := by decide +kernel
theorem dX12_told_9 : decode cX12_told 9 = .ok (.iconst 0, 1) := by decide +kernel
theorem dX12_told_10 : decode cX12_told 10 = .ok (.putfield 95, 3) := by decide +kernel
theorem dX12_told_13 : decode cX12_told 13 = .ok (.iload_n 1, 1) := by decide +kernel
theorem dX12_told_14 : decode cX12_told 14 = .ok (.ireturn, 1) := by decide +kernel
theorem dX12_visit_0 : decode cX12_visit 0 = .ok (.aload_n 0, 1) := by decide +kernel
theorem dX12_visit_1 : decode cX12_visit 1 = .ok (.iconst 0, 1) := by decide +kernel
theorem dX12_visit_2 : decode cX12_visit 2 = .ok (.putfield 92, 3) := by decide +kernel
theorem dX12_visit_5 : decode cX12_visit 5 = .ok (.iload_n 2, 1) := by decide +kernel
theorem dX12_visit_6 : decode cX12_visit 6 = .ok (.i2l, 1) := by decide +kernel
theorem dX12_visit_7 : decode cX12_visit 7 = .ok (.lconst 1, 1) := by decide +kernel
theorem dX12_visit_8 : decode cX12_visit 8 = .ok (.ldc2_w 524, 3) := by decide +kernel
theorem dX12_visit_11 : decode cX12_visit 11 = .ok (.invokestatic 100, 3) := by decide +kernel
theorem dX12_visit_14 : decode cX12_visit 14 = .ok (.ifCond .eq 15, 3) := by decide +kernel
theorem dX12_visit_17 : decode cX12_visit 17 = .ok (.iload_n 3, 1) := by decide +kernel
theorem dX12_visit_18 : decode cX12_visit 18 = .ok (.i2l, 1) := by decide +kernel
theorem dX12_visit_19 : decode cX12_visit 19 = .ok (.lconst 1, 1) := by decide +kernel
theorem dX12_visit_20 : decode cX12_visit 20 = .ok (.ldc2_w 526, 3) := by decide +kernel
theorem dX12_visit_23 : decode cX12_visit 23 = .ok (.invokestatic 100, 3) := by decide +kernel
theorem dX12_visit_26 : decode cX12_visit 26 = .ok (.ifCond .ne 9, 3) := by decide +kernel
theorem dX12_visit_29 : decode cX12_visit 29 = .ok (.aload_n 0, 1) := by decide +kernel
theorem dX12_visit_30 : decode cX12_visit 30 = .ok (.iconst (-1), 1) := by decide +kernel
theorem dX12_visit_31 : decode cX12_visit 31 = .ok (.invokevirtual 106, 3) := by decide +kernel
theorem dX12_visit_34 : decode cX12_visit 34 = .ok (.ireturn, 1) := by decide +kernel
theorem dX12_visit_35 : decode cX12_visit 35 = .ok (.aload_n 0, 1) := by decide +kernel
theorem dX12_visit_36 : decode cX12_visit 36 = .ok (.iload_n 1, 1) := by decide +kernel
theorem dX12_visit_37 : decode cX12_visit 37 = .ok (.invokevirtual 138, 3) := by decide +kernel
theorem dX12_visit_40 : decode cX12_visit 40 = .ok (.ifCond .ne 10, 3) := by decide +kernel
theorem dX12_visit_43 : decode cX12_visit 43 = .ok (.aload_n 0, 1) := by decide +kernel
theorem dX12_visit_44 : decode cX12_visit 44 = .ok (.bipush (-2), 2) := by decide +kernel
theorem dX12_visit_46 : decode cX12_visit 46 = .ok (.invokevirtual 106, 3) := by decide +kernel
theorem dX12_visit_49 : decode cX12_visit 49 = .ok (.ireturn, 1) := by decide +kernel
theorem dX12_visit_50 : decode cX12_visit 50 = .ok (.aload_n 0, 1) := by decide +kernel
theorem dX12_visit_51 : decode cX12_visit 51 = .ok (.getfield 7, 3) := by decide +kernel
theorem dX12_visit_54 : decode cX12_visit 54 = .ok (.bipush 7, 2) := by decide +kernel
theorem dX12_visit_56 : decode cX12_visit 56 = .ok (.iaload, 1) := by decide +kernel
theorem dX12_visit_57 : decode cX12_visit 57 = .ok (.bipush 9, 2) := by decide +kernel
theorem dX12_visit_59 : decode cX12_visit 59 = .ok (.if_icmp .ne 10, 3) := by decide +kernel
theorem dX12_visit_62 : decode cX12_visit 62 = .ok (.aload_n 0, 1) := by decide +kernel
theorem dX12_visit_63 : decode cX12_visit 63 = .ok (.bipush (-5), 2) := by decide +kernel
theorem dX12_visit_65 : decode cX12_visit 65 = .ok (.invokevirtual 106, 3) := by decide +kernel
theorem dX12_visit_68 : decode cX12_visit 68 = .ok (.ireturn, 1) := by decide +kernel
theorem dX12_visit_69 : decode cX12_visit 69 = .ok (.sipush 6998, 3) := by decide +kernel
theorem dX12_visit_72 : decode cX12_visit 72 = .ok (.iconst 3, 1) := by decide +kernel
theorem dX12_visit_73 : decode cX12_visit 73 = .ok (.aload_n 0, 1) := by decide +kernel
theorem dX12_visit_74 : decode cX12_visit 74 = .ok (.getfield 7, 3) := by decide +kernel
theorem dX12_visit_77 : decode cX12_visit 77 = .ok (.bipush 7, 2) := by decide +kernel
theorem dX12_visit_79 : decode cX12_visit 79 = .ok (.iaload, 1) := by decide +kernel
theorem dX12_visit_80 : decode cX12_visit 80 = .ok (.imul, 1) := by decide +kernel
theorem dX12_visit_81 : decode cX12_visit 81 = .ok (.iadd, 1) := by decide +kernel
theorem dX12_visit_82 : decode cX12_visit 82 = .ok (.istore 4, 2) := by decide +kernel
theorem dX12_visit_84 : decode cX12_visit 84 = .ok (.aload_n 0, 1) := by decide +kernel
theorem dX12_visit_85 : decode cX12_visit 85 = .ok (.getfield 7, 3) := by decide +kernel
theorem dX12_visit_88 : decode cX12_visit 88 = .ok (.iload 4, 2) := by decide +kernel
theorem dX12_visit_90 : decode cX12_visit 90 = .ok (.iload_n 1, 1) := by decide +kernel
theorem dX12_visit_91 : decode cX12_visit 91 = .ok (.iastore, 1) := by decide +kernel
theorem dX12_visit_92 : decode cX12_visit 92 = .ok (.aload_n 0, 1) := by decide +kernel
theorem dX12_visit_93 : decode cX12_visit 93 = .ok (.getfield 7, 3) := by decide +kernel
theorem dX12_visit_96 : decode cX12_visit 96 = .ok (.iload 4, 2) := by decide +kernel
theorem dX12_visit_98 : decode cX12_visit 98 = .ok (.iconst 1, 1) := by decide +kernel
theorem dX12_visit_99 : decode cX12_visit 99 = .ok (.iadd, 1) := by decide +kernel
theorem dX12_visit_100 : decode cX12_visit 100 = .ok (.iload_n 2, 1) := by decide +kernel
theorem dX12_visit_101 : decode cX12_visit 101 = .ok (.iastore, 1) := by decide +kernel
theorem dX12_visit_102 : decode cX12_visit 102 = .ok (.aload_n 0, 1) := by decide +kernel
theorem dX12_visit_103 : decode cX12_visit 103 = .ok (.getfield 7, 3) := by decide +kernel
theorem dX12_visit_106 : decode cX12_visit 106 = .ok (.iload 4, 2) := by decide +kernel
theorem dX12_visit_108 : decode cX12_visit 108 = .ok (.iconst 2, 1) := by decide +kernel
theorem dX12_visit_109 : decode cX12_visit 109 = .ok (.iadd, 1) := by decide +kernel
theorem dX12_visit_110 : decode cX12_visit 110 = .ok (.iload_n 3, 1) := by decide +kernel
theorem dX12_visit_111 : decode cX12_visit 111 = .ok (.iastore, 1) := by decide +kernel
theorem dX12_visit_112 : decode cX12_visit 112 = .ok (.aload_n 0, 1) := by decide +kernel
theorem dX12_visit_113 : decode cX12_visit 113 = .ok (.getfield 7, 3) := by decide +kernel
theorem dX12_visit_116 : decode cX12_visit 116 = .ok (.bipush 7, 2) := by decide +kernel
theorem dX12_visit_118 : decode cX12_visit 118 = .ok (.dup2, 1) := by decide +kernel
theorem dX12_visit_119 : decode cX12_visit 119 = .ok (.iaload, 1) := by decide +kernel
theorem dX12_visit_120 : decode cX12_visit 120 = .ok (.iconst 1, 1) := by decide +kernel
theorem dX12_visit_121 : decode cX12_visit 121 = .ok (.iadd, 1) := by decide +kernel
theorem dX12_visit_122 : decode cX12_visit 122 = .ok (.iastore, 1) := by decide +kernel
theorem dX12_visit_123 : decode cX12_visit 123 = .ok (.aload_n 0, 1) := by decide +kernel
theorem dX12_visit_124 : decode cX12_visit 124 = .ok (.aload_n 0, 1) := by decide +kernel
theorem dX12_visit_125 : decode cX12_visit 125 = .ok (.getfield 7, 3) := by decide +kernel
theorem dX12_visit_128 : decode cX12_visit 128 = .ok (.bipush 7, 2) := by decide +kernel
theorem dX12_visit_130 : decode cX12_visit 130 = .ok (.iaload, 1) := by decide +kernel
theorem dX12_visit_131 : decode cX12_visit 131 = .ok (.invokevirtual 106, 3) := by decide +kernel
theorem dX12_visit_134 : decode cX12_visit 134 = .ok (.ireturn, 1) := by decide +kernel
