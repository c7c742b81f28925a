theorem dJ6_bitCount_0f7a4_0 : decode cJ6_bitCount_0f7a4 0 = .ok (.iload_n 0, 1) := by decide +kernel
theorem dJ6_bitCount_0f7a4_1 : decode cJ6_bitCount_0f7a4 1 = .ok (.iload_n 0, 1) := by decide +kernel
theorem dJ6_bitCount_0f7a4_2 : decode cJ6_bitCount_0f7a4 2 = .ok (.iconst 1, 1) := by decide +kernel
theorem dJ6_bitCount_0f7a4_3 : decode cJ6_bitCount_0f7a4 3 = .ok (.iushr, 1) := by decide +kernel
theorem dJ6_bitCount_0f7a4_4 : decode cJ6_bitCount_0f7a4 4 = .ok (.ldc_w 265, 3) := by decide +kernel
theorem dJ6_bitCount_0f7a4_7 : decode cJ6_bitCount_0f7a4 7 = .ok (.iand, 1) := by decide +kernel
theorem dJ6_bitCount_0f7a4_8 : decode cJ6_bitCount_0f7a4 8 = .ok (.isub, 1) := by decide +kernel
theorem dJ6_bitCount_0f7a4_9 : decode cJ6_bitCount_0f7a4 9 = .ok (.istore_n 0, 1) := by decide +kernel
theorem dJ6_bitCount_0f7a4_10 : decode cJ6_bitCount_0f7a4 10 = .ok (.iload_n 0, 1) := by decide +kernel
theorem dJ6_bitCount_0f7a4_11 : decode cJ6_bitCount_0f7a4 11 = .ok (.ldc_w 266, 3) := by decide +kernel
theorem dJ6_bitCount_0f7a4_14 : decode cJ6_bitCount_0f7a4 14 = .ok (.iand, 1) := by decide +kernel
theorem dJ6_bitCount_0f7a4_15 : decode cJ6_bitCount_0f7a4 15 = .ok (.iload_n 0, 1) := by decide +kernel
theorem dJ6_bitCount_0f7a4_16 : decode cJ6_bitCount_0f7a4 16 = .ok (.iconst 2, 1) := by decide +kernel
theorem dJ6_bitCount_0f7a4_17 : decode cJ6_bitCount_0f7a4 17 = .ok (.iushr, 1) := by decide +kernel
theorem dJ6_bitCount_0f7a4_18 : decode cJ6_bitCount_0f7a4 18 = .ok (.ldc_w 266, 3) := by decide +kernel
theorem dJ6_bitCount_0f7a4_21 : decode cJ6_bitCount_0f7a4 21 = .ok (.iand, 1) := by decide +kernel
theorem dJ6_bitCount_0f7a4_22 : decode cJ6_bitCount_0f7a4 22 = .ok (.iadd, 1) := by decide +kernel
theorem dJ6_bitCount_0f7a4_23 : decode cJ6_bitCount_0f7a4 23 = .ok (.istore_n 0, 1) := by decide +kernel
theorem dJ6_bitCount_0f7a4_24 : decode cJ6_bitCount_0f7a4 24 = .ok (.iload_n 0, 1) := by decide +kernel
theorem dJ6_bitCount_0f7a4_25 : decode cJ6_bitCount_0f7a4 25 = .ok (.iload_n 0, 1) := by decide +kernel
theorem dJ6_bitCount_0f7a4_26 : decode cJ6_bitCount_0f7a4 26 = .ok (.iconst 4, 1) := by decide +kernel
theorem dJ6_bitCount_0f7a4_27 : decode cJ6_bitCount_0f7a4 27 = .ok (.iushr, 1) := by decide +kernel
theorem dJ6_bitCount_0f7a4_28 : decode cJ6_bitCount_0f7a4 28 = .ok (.iadd, 1) := by decide +kernel
theorem dJ6_bitCount_0f7a4_29 : decode cJ6_bitCount_0f7a4 29 = .ok (.ldc_w 267, 3) := by decide +kernel
theorem dJ6_bitCount_0f7a4_32 : decode cJ6_bitCount_0f7a4 32 = .ok (.iand, 1) := by decide +kernel
theorem dJ6_bitCount_0f7a4_33 : decode cJ6_bitCount_0f7a4 33 = .ok (.istore_n 0, 1) := by decide +kernel
theorem dJ6_bitCount_0f7a4_34 : decode cJ6_bitCount_0f7a4 34 = .ok (.iload_n 0, 1) := by decide +kernel
theorem dJ6_bitCount_0f7a4_35 : decode cJ6_bitCount_0f7a4 35 = .ok (.iload_n 0, 1) := by decide +kernel
theorem dJ6_bitCount_0f7a4_36 : decode cJ6_bitCount_0f7a4 36 = .ok (.bipush 8, 2) := by decide +kernel
theorem dJ6_bitCount_0f7a4_38 : decode cJ6_bitCount_0f7a4 38 = .ok (.iushr, 1) := by decide +kernel
theorem dJ6_bitCount_0f7a4_39 : decode cJ6_bitCount_0f7a4 39 = .ok (.iadd, 1) := by decide +kernel
theorem dJ6_bitCount_0f7a4_40 : decode cJ6_bitCount_0f7a4 40 = .ok (.istore_n 0, 1) := by decide +kernel
theorem dJ6_bitCount_0f7a4_41 : decode cJ6_bitCount_0f7a4 41 = .ok (.iload_n 0, 1) := by decide +kernel
theorem dJ6_bitCount_0f7a4_42 : decode cJ6_bitCount_0f7a4 42 = .ok (.iload_n 0, 1) := by decide +kernel
theorem dJ6_bitCount_0f7a4_43 : decode cJ6_bitCount_0f7a4 43 = .ok (.bipush 16, 2) := by decide +kernel
theorem dJ6_bitCount_0f7a4_45 : decode cJ6_bitCount_0f7a4 45 = .ok (.iushr, 1) := by decide +kernel
theorem dJ6_bitCount_0f7a4_46 : decode cJ6_bitCount_0f7a4 46 = .ok (.iadd, 1) := by decide +kernel
theorem dJ6_bitCount_0f7a4_47 : decode cJ6_bitCount_0f7a4 47 = .ok (.istore_n 0, 1) := by decide +kernel
theorem dJ6_bitCount_0f7a4_48 : decode cJ6_bitCount_0f7a4 48 = .ok (.iload_n 0, 1) := by decide +kernel
theorem dJ6_bitCount_0f7a4_49 : decode cJ6_bitCount_0f7a4 49 = .ok (.bipush 63, 2) := by decide +kernel
theorem dJ6_bitCount_0f7a4_51 : decode cJ6_bitCount_0f7a4 51 = .ok (.iand, 1) := by decide +kernel
theorem dJ6_bitCount_0f7a4_52 : decode cJ6_bitCount_0f7a4 52 = .ok (.ireturn, 1) := by decide +kernel
theorem dJ7_fill_53178_0 : decode cJ7_fill_53178 0 = .ok (.iconst 0, 1) := by decide +kernel
theorem dJ7_fill_53178_1 : decode cJ7_fill_53178 1 = .ok (.istore_n 2, 1) := by decide +kernel
theorem dJ7_fill_53178_2 : decode cJ7_fill_53178 2 = .ok (.aload_n 0, 1) := by decide +kernel
theorem dJ7_fill_53178_3 : decode cJ7_fill_53178 3 = .ok (.arraylength, 1) := by decide +kernel
theorem dJ7_fill_53178_4 : decode cJ7_fill_53178 4 = .ok (.istore_n 3, 1) := by decide +kernel
theorem dJ7_fill_53178_5 : decode cJ7_fill_53178 5 = .ok (.iload_n 2, 1) := by decide +kernel
theorem dJ7_fill_53178_6 : decode cJ7_fill_53178 6 = .ok (.iload_n 3, 1) := by decide +kernel
theorem dJ7_fill_53178_7 : decode cJ7_fill_53178 7 = .ok (.if_icmp .ge 13, 3) := by decide +kernel
theorem dJ7_fill_53178_10 : decode cJ7_fill_53178 10 = .ok (.aload_n 0, 1) := by decide +kernel
theorem dJ7_fill_53178_11 : decode cJ7_fill_53178 11 = .ok (.iload_n 2, 1) := by decide +kernel
theorem dJ7_fill_53178_12 : decode cJ7_fill_53178 12 = .ok (.iload_n 1, 1) := by decide +kernel
theorem dJ7_fill_53178_13 : decode cJ7_fill_53178 13 = .ok (.iastore, 1) := by decide +kernel
theorem dJ7_fill_53178_14 : decode cJ7_fill_53178 14 = .ok (.iinc 2 1, 3) := by decide +kernel
theorem dJ7_fill_53178_17 : decode cJ7_fill_53178 17 = .ok (.goto (-12), 3) := by decide +kernel
theorem dJ7_fill_53178_20 : decode cJ7_fill_53178 20 = .ok (.return_, 1) := by decide +kernel
theorem dX0_becomeLike_0 : decode cX0_becomeLike 0 = .ok (.aload_n 0, 1) := by decide +kernel
theorem dX0_becomeLike_1 : decode cX0_becomeLike 1 = .ok (.aload_n 1, 1) := by decide +kernel
theorem dX0_becomeLike_2 : decode cX0_becomeLike 2 = .ok (.getfield 21, 3) := by decide +kernel
theorem dX0_becomeLike_5 : decode cX0_becomeLike 5 = .ok (.putfield 21, 3) := by decide +kernel
theorem dX0_becomeLike_8 : decode cX0_becomeLike 8 = .ok (.iconst 0, 1) := by decide +kernel
theorem dX0_becomeLike_9 : decode cX0_becomeLike 9 = .ok (.istore_n 2, 1) := by decide +kernel
theorem dX0_becomeLike_10 : decode cX0_becomeLike 10 = .ok (.iload_n 2, 1) := by decide +kernel
theorem dX0_becomeLike_11 : decode cX0_becomeLike 11 = .ok (.bipush 20, 2) := by decide +kernel
theorem dX0_becomeLike_13 : decode cX0_becomeLike 13 = .ok (.if_icmp .ge 21, 3) := by decide +kernel
theorem dX0_becomeLike_16 : decode cX0_becomeLike 16 = .ok (.aload_n 0, 1) := by decide +kernel
theorem dX0_becomeLike_17 : decode cX0_becomeLike 17 = .ok (.getfield 11, 3) := by decide +kernel
theorem dX0_becomeLike_20 : decode cX0_becomeLike 20 = .ok (.iload_n 2, 1) := by decide +kernel
theorem dX0_becomeLike_21 : decode cX0_becomeLike 21 = .ok (.aload_n 1, 1) := by decide +kernel
theorem dX0_becomeLike_22 : decode cX0_becomeLike 22 = .ok (.getfield 11, 3) := by decide +kernel
theorem dX0_becomeLike_25 : decode cX0_becomeLike 25 = .ok (.iload_n 2, 1) := by decide +kernel
theorem dX0_becomeLike_26 : decode cX0_becomeLike 26 = .ok (.aaload, 1) := by decide +kernel
theorem dX0_becomeLike_27 : decode cX0_becomeLike 27 = .ok (.aastore, 1) := by decide +kernel
theorem dX0_becomeLike_28 : decode cX0_becomeLike 28 = .ok (.iinc 2 1, 3) := by decide +kernel
theorem dX0_becomeLike_31 : decode cX0_becomeLike 31 = .ok (.goto (-21), 3) := by decide +kernel
theorem dX0_becomeLike_34 : decode cX0_becomeLike 34 = .ok (.aload_n 1, 1) := by decide +kernel
theorem dX0_becomeLike_35 : decode cX0_becomeLike 35 = .ok (.getfield 17, 3) := by decide +kernel
theorem dX0_becomeLike_38 : decode cX0_becomeLike 38 = .ok (.aload_n 0, 1) := by decide +kernel
theorem dX0_becomeLike_39 : decode cX0_becomeLike 39 = .ok (.getfield 17, 3) := by decide +kernel
theorem dX0_becomeLike_42 : decode cX0_becomeLike 42 = .ok (.invokestatic 25, 3) := by decide +kernel
theorem dX0_becomeLike_45 : decode cX0_becomeLike 45 = .ok (.return_, 1) := by decide +kernel
theorem dX0_init_0 : decode cX0_init 0 = .ok (.aload_n 0, 1) := by decide +kernel
theorem dX0_init_1 : decode cX0_init 1 = .ok (.invokespecial 3, 3) := by decide +kernel
theorem dX0_init_4 : decode cX0_init 4 = .ok (.aload_n 0, 1) := by decide +kernel
theorem dX0_init_5 : decode cX0_init 5 = .ok (.bipush 20, 2) := by decide +kernel
theorem dX0_init_7 : decode cX0_init 7 = .ok (.anewarray 9, 3) := by decide +kernel
theorem dX0_init_10 : decode cX0_init 10 = .ok (.putfield 11, 3) := by decide +kernel
theorem dX0_init_13 : decode cX0_init 13 = .ok (.aload_n 0, 1) := by decide +kernel
theorem dX0_init_14 : decode cX0_init 14 = .ok (.bipush 20, 2) := by decide +kernel
theorem dX0_init_16 : decode cX0_init 16 = .ok (.newarray .int, 2) := by decide +kernel
theorem dX0_init_18 : decode cX0_init 18 = .ok (.putfield 17, 3) := by decide +kernel
theorem dX0_init_21 : decode cX0_init 21 = .ok (.return_, 1) := by decide +kernel
theorem dX11_act_0 : decode cX11_act 0 = .ok (.iload_n 1, 1) := by decide +kernel
theorem dX11_act_1 : decode cX11_act 1 = .ok (.invokestatic 72, 3) := by decide +kernel
theorem dX11_act_4 : decode cX11_act 4 = .ok (.ifCond .eq 9, 3) := by decide +kernel
theorem dX11_act_7 : decode cX11_act 7 = .ok (.aload_n 0, 1) := by decide +kernel
theorem dX11_act_8 : decode cX11_act 8 = .ok (.iconst (-1), 1) := by decide +kernel
theorem dX11_act_9 : decode cX11_act 9 = .ok (.invokevirtual 55, 3) := by decide +kernel
theorem dX11_act_12 : decode cX11_act 12 = .ok (.ireturn, 1) := by decide +kernel
theorem dX11_act_13 : decode cX11_act 13 = .ok (.aload_n 0, 1) := by decide +kernel
theorem dX11_act_14 : decode cX11_act 14 = .ok (.getfield 12, 3) := by decide +kernel
theorem dX11_act_17 : decode cX11_act 17 = .ok (.getfield 187, 3) := by decide +kernel
theorem dX11_act_20 : decode cX11_act 20 = .ok (.getfield 191, 3) := by decide +kernel
theorem dX11_act_23 : decode cX11_act 23 = .ok (.bipush 20, 2) := by decide +kernel
theorem dX11_act_25 : decode cX11_act 25 = .ok (.if_icmp .lt 10, 3) := by decide +kernel
theorem dX11_act_35 : decode cX11_act 35 = .ok (.aload_n 0, 1) := by decide +kernel
theorem dX11_act_36 : decode cX11_act 36 = .ok (.getfield 23, 3) := by decide +kernel
theorem dX11_act_39 : decode cX11_act 39 = .ok (.invokevirtual 196, 3) := by decide +kernel
theorem dX11_act_42 : decode cX11_act 42 = .ok (.astore_n 2, 1) := by decide +kernel
theorem dX11_act_43 : decode cX11_act 43 = .ok (.aload_n 2, 1) := by decide +kernel
theorem dX11_act_44 : decode cX11_act 44 = .ok (.ifnonnull 10, 3) := by decide +kernel
theorem dX11_act_47 : decode cX11_act 47 = .ok (.aload_n 0, 1) := by decide +kernel
theorem dX11_act_48 : decode cX11_act 48 = .ok (.bipush (-6), 2) := by decide +kernel
theorem dX11_act_50 : decode cX11_act 50 = .ok (.invokevirtual 55, 3) := by decide +kernel
theorem dX11_act_53 : decode cX11_act 53 = .ok (.ireturn, 1) := by decide +kernel
theorem dX11_alter_0 : decode cX11_alter 0 = .ok (.iload_n 2, 1) := by decide +kernel
theorem dX11_alter_1 : decode cX11_alter 1 = .ok (.iconst 1, 1) := by decide +kernel
theorem dX11_alter_2 : decode cX11_alter 2 = .ok (.bipush 7, 2) := by decide +kernel
theorem dX11_alter_4 : decode cX11_alter 4 = .ok (.invokestatic 47, 3) := by decide +kernel
theorem dX11_alter_7 : decode cX11_alter 7 = .ok (.ifCond .eq 9, 3) := by decide +kernel
theorem dX11_alter_10 : decode cX11_alter 10 = .ok (.aload_n 0, 1) := by decide +kernel
theorem dX11_alter_11 : decode cX11_alter 11 = .ok (.iconst (-1), 1) := by decide +kernel
theorem dX11_alter_12 : decode cX11_alter 12 = .ok (.invokevirtual 55, 3) := by decide +kernel
theorem dX11_alter_15 : decode cX11_alter 15 = .ok (.ireturn, 1) := by decide +kernel
theorem dX11_alter_16 : decode cX11_alter 16 = .ok (.aload_n 0, 1) := by decide +kernel
theorem dX11_alter_17 : decode cX11_alter 17 = .ok (.getfield 12, 3) := by decide +kernel
theorem dX11_alter_20 : decode cX11_alter 20 = .ok (.getfield 137, 3) := by decide +kernel
theorem dX11_alter_23 : decode cX11_alter 23 = .ok (.iload_n 1, 1) := by decide +kernel
theorem dX11_alter_24 : decode cX11_alter 24 = .ok (.invokevirtual 149, 3) := by decide +kernel
theorem dX11_alter_27 : decode cX11_alter 27 = .ok (.ifCond .eq 10, 3) := by decide +kernel
theorem dX11_alter_30 : decode cX11_alter 30 = .ok (.aload_n 0, 1) := by decide +kernel
theorem dX11_alter_31 : decode cX11_alter 31 = .ok (.bipush (-2), 2) := by decide +kernel
theorem dX11_alter_33 : decode cX11_alter 33 = .ok (.invokevirtual 55, 3) := by decide +kernel
theorem dX11_alter_36 : decode cX11_alter 36 = .ok (.ireturn, 1) := by decide +kernel
theorem dX11_answer_0 : decode cX11_answer 0 = .ok (.aload_n 0, 1) := by decide +kernel
theorem dX11_answer_1 : decode cX11_answer 1 = .ok (.iload_n 1, 1) := by decide +kernel
theorem dX11_answer_2 : decode cX11_answer 2 = .ok (.ifCond .ge 7, 3) := by decide +kernel
theorem dX11_answer_5 : decode cX11_answer 5 = .ok (.iload_n 1, 1) := by decide +kernel
theorem dX11_answer_6 : decode cX11_answer 6 = .ok (.goto 4, 3) := by decide +kernel
theorem dX11_answer_9 : decode cX11_answer 9 = .ok (.iconst 0, 1) := by decide +kernel
theorem dX11_answer_10 : decode cX11_answer 10 = .ok (.putfield 383, 3) := by decide +kernel
theorem dX11_answer_13 : decode cX11_answer 13 = .ok (.iload_n 1, 1) := by decide +kernel
theorem dX11_answer_14 : decode cX11_answer 14 = .ok (.ireturn, 1) := by decide +kernel
theorem dX11_appeal_0 : decode cX11_appeal 0 = .ok (.aload_n 0, 1) := by decide +kernel
theorem dX11_appeal_1 : decode cX11_appeal 1 = .ok (.getfield 12, 3) := by decide +kernel
theorem dX11_appeal_4 : decode cX11_appeal 4 = .ok (.getfield 137, 3) := by decide +kernel
theorem dX11_appeal_7 : decode cX11_appeal 7 = .ok (.astore 4, 2) := by decide +kernel
theorem dX11_appeal_9 : decode cX11_appeal 9 = .ok (.iload_n 2, 1) := by decide +kernel
theorem dX11_appeal_10 : decode cX11_appeal 10 = .ok (.iconst 0, 1) := by decide +kernel
theorem dX11_appeal_11 : decode cX11_appeal 11 = .ok (.bipush 25, 2) := by decide +kernel
theorem dX11_appeal_13 : decode cX11_appeal 13 = .ok (.invokestatic 47, 3) := by decide +kernel
theorem dX11_appeal_16 : decode cX11_appeal 16 = .ok (.ifCond .ne 10, 3) := by decide +kernel
theorem dX11_appeal_19 : decode cX11_appeal 19 = .ok (.iload_n 3, 1) := by decide +kernel
theorem dX11_appeal_20 : decode cX11_appeal 20 = .ok (.invokestatic 72, 3) := by decide +kernel
theorem dX11_appeal_23 : decode cX11_appeal 23 = .ok (.ifCond .eq 9, 3) := by decide +kernel
theorem dX11_appeal_26 : decode cX11_appeal 26 = .ok (.aload_n 0, 1) := by decide +kernel
theorem dX11_appeal_27 : decode cX11_appeal 27 = .ok (.iconst (-1), 1) := by decide +kernel
theorem dX11_appeal_28 : decode cX11_appeal 28 = .ok (.invokevirtual 55, 3) := by decide +kernel
theorem dX11_appeal_31 : decode cX11_appeal 31 = .ok (.ireturn, 1) := by decide +kernel
theorem dX11_appeal_32 : decode cX11_appeal 32 = .ok (.aload 4, 2) := by decide +kernel
theorem dX11_appeal_34 : decode cX11_appeal 34 = .ok (.iload_n 1, 1) := by decide +kernel
theorem dX11_appeal_35 : decode cX11_appeal 35 = .ok (.invokevirtual 149, 3) := by decide +kernel
theorem dX11_appeal_38 : decode cX11_appeal 38 = .ok (.ifCond .eq 10, 3) := by decide +kernel
theorem dX11_appeal_41 : decode cX11_appeal 41 = .ok (.aload_n 0, 1) := by decide +kernel
theorem dX11_appeal_42 : decode cX11_appeal 42 = .ok (.bipush (-2), 2) := by decide +kernel
theorem dX11_appeal_44 : decode cX11_appeal 44 = .ok (.invokevirtual 55, 3) := by decide +kernel
theorem dX11_appeal_47 : decode cX11_appeal 47 = .ok (.ireturn, 1) := by decide +kernel
theorem dX11_areNoFigures_0 : decode cX11_areNoFigures 0 = .ok (.iload_n 0, 1) := by decide +kernel
theorem dX11_areNoFigures_1 : decode cX11_areNoFigures 1 = .ok (.iconst 0, 1) := by decide +kernel
theorem dX11_areNoFigures_2 : decode cX11_areNoFigures 2 = .ok (.ldc_w 389, 3) := by decide +kernel
theorem dX11_areNoFigures_5 : decode cX11_areNoFigures 5 = .ok (.invokestatic 47, 3) := by decide +kernel
theorem dX11_areNoFigures_8 : decode cX11_areNoFigures 8 = .ok (.ireturn, 1) := by decide +kernel
theorem dX11_areNoHalves_0 : decode cX11_areNoHalves 0 = .ok (.iload_n 0, 1) := by decide +kernel
theorem dX11_areNoHalves_1 : decode cX11_areNoHalves 1 = .ok (.ifCond .lt 15, 3) := by decide +kernel
theorem dX11_areNoHalves_4 : decode cX11_areNoHalves 4 = .ok (.iload_n 1, 1) := by decide +kernel
theorem dX11_areNoHalves_5 : decode cX11_areNoHalves 5 = .ok (.sipush 800, 3) := by decide +kernel
theorem dX11_areNoHalves_8 : decode cX11_areNoHalves 8 = .ok (.if_icmp .ge 8, 3) := by decide +kernel
theorem dX11_areNoHalves_11 : decode cX11_areNoHalves 11 = .ok (.iload_n 0, 1) := by decide +kernel
theorem dX11_areNoHalves_12 : decode cX11_areNoHalves 12 = .ok (.iload_n 1, 1) := by decide +kernel
theorem dX11_areNoHalves_13 : decode cX11_areNoHalves 13 = .ok (.if_icmp .le 7, 3) := by decide +kernel
theorem dX11_areNoHalves_16 : decode cX11_areNoHalves 16 = .ok (.iconst 1, 1) := by decide +kernel
theorem dX11_areNoHalves_17 : decode cX11_areNoHalves 17 = .ok (.goto 4, 3) := by decide +kernel
theorem dX11_areNoHalves_20 : decode cX11_areNoHalves 20 = .ok (.iconst 0, 1) := by decide +kernel
theorem dX11_areNoHalves_21 : decode cX11_areNoHalves 21 = .ok (.ireturn, 1) := by decide +kernel
theorem dX11_back_0 : decode cX11_back 0 = .ok (.iload_n 1, 1) := by decide +kernel
theorem dX11_back_1 : decode cX11_back 1 = .ok (.iconst 0, 1) := by decide +kernel
theorem dX11_back_2 : decode cX11_back 2 = .ok (.iconst 1, 1) := by decide +kernel
theorem dX11_back_3 : decode cX11_back 3 = .ok (.invokestatic 47, 3) := by decide +kernel
theorem dX11_back_6 : decode cX11_back 6 = .ok (.ifCond .eq 9, 3) := by decide +kernel
theorem dX11_back_9 : decode cX11_back 9 = .ok (.aload_n 0, 1) := by decide +kernel
theorem dX11_back_10 : decode cX11_back 10 = .ok (.iconst (-1), 1) := by decide +kernel
theorem dX11_back_11 : decode cX11_back 11 = .ok (.invokevirtual 55, 3) := by decide +kernel
theorem dX11_back_14 : decode cX11_back 14 = .ok (.ireturn, 1) := by decide +kernel
theorem dX11_back_15 : decode cX11_back 15 = .ok (.aload_n 0, 1) := by decide +kernel
theorem dX11_back_16 : decode cX11_back 16 = .ok (.getfield 16, 3) := by decide +kernel
theorem dX11_back_19 : decode cX11_back 19 = .ok (.iload_n 1, 1) := by decide +kernel
theorem dX11_back_20 : decode cX11_back 20 = .ok (.aaload, 1) := by decide +kernel
theorem dX11_back_21 : decode cX11_back 21 = .ok (.ifnonnull 10, 3) := by decide +kernel
theorem dX11_back_24 : decode cX11_back 24 = .ok (.aload_n 0, 1) := by decide +kernel
theorem dX11_back_25 : decode cX11_back 25 = .ok (.bipush (-2), 2) := by decide +kernel
theorem dX11_back_27 : decode cX11_back 27 = .ok (.invokevirtual 55, 3) := by decide +kernel
theorem dX11_back_30 : decode cX11_back 30 = .ok (.ireturn, 1) := by decide +kernel
theorem dX11_beside_0 : decode cX11_beside 0 = .ok (.iload_n 1, 1) := by decide +kernel
theorem dX11_beside_1 : decode cX11_beside 1 = .ok (.invokestatic 72, 3) := by decide +kernel
theorem dX11_beside_4 : decode cX11_beside 4 = .ok (.ifCond .ne 25, 3) := by decide +kernel
theorem dX11_beside_7 : decode cX11_beside 7 = .ok (.iload_n 2, 1) := by decide +kernel
theorem dX11_beside_8 : decode cX11_beside 8 = .ok (.invokestatic 72, 3) := by decide +kernel
theorem dX11_beside_11 : decode cX11_beside 11 = .ok (.ifCond .ne 18, 3) := by decide +kernel
theorem dX11_beside_14 : decode cX11_beside 14 = .ok (.aload_n 0, 1) := by decide +kernel
theorem dX11_beside_15 : decode cX11_beside 15 = .ok (.getfield 12, 3) := by decide +kernel
theorem dX11_beside_18 : decode cX11_beside 18 = .ok (.getfield 187, 3) := by decide +kernel
theorem dX11_beside_21 : decode cX11_beside 21 = .ok (.getfield 191, 3) := by decide +kernel
theorem dX11_beside_24 : decode cX11_beside 24 = .ok (.bipush 20, 2) := by decide +kernel
theorem dX11_beside_26 : decode cX11_beside 26 = .ok (.if_icmp .lt 5, 3) := by decide +kernel
theorem dX11_beside_29 : decode cX11_beside 29 = .ok (.iconst (-1), 1) := by decide +kernel
theorem dX11_beside_30 : decode cX11_beside 30 = .ok (.ireturn, 1) := by decide +kernel
theorem dX11_beside_31 : decode cX11_beside 31 = .ok (.aload_n 0, 1) := by decide +kernel
theorem dX11_beside_32 : decode cX11_beside 32 = .ok (.getfield 23, 3) := by decide +kernel
theorem dX11_beside_35 : decode cX11_beside 35 = .ok (.invokevirtual 196, 3) := by decide +kernel
theorem dX11_beside_38 : decode cX11_beside 38 = .ok (.astore_n 3, 1) := by decide +kernel
theorem dX11_beside_39 : decode cX11_beside 39 = .ok (.aload_n 3, 1) := by decide +kernel
theorem dX11_beside_40 : decode cX11_beside 40 = .ok (.ifnonnull 5, 3) := by decide +kernel
theorem dX11_beside_43 : decode cX11_beside 43 = .ok (.iconst (-1), 1) := by decide +kernel
theorem dX11_beside_44 : decode cX11_beside 44 = .ok (.ireturn, 1) := by decide +kernel
theorem dX11_cannot_0 : decode cX11_cannot 0 = .ok (.iload_n 1, 1) := by decide +kernel
theorem dX11_cannot_1 : decode cX11_cannot 1 = .ok (.iload_n 2, 1) := by decide +kernel
theorem dX11_cannot_2 : decode cX11_cannot 2 = .ok (.invokestatic 210, 3) := by decide +kernel
theorem dX11_cannot_5 : decode cX11_cannot 5 = .ok (.ifCond .ne 10, 3) := by decide +kernel
theorem dX11_cannot_8 : decode cX11_cannot 8 = .ok (.iload_n 3, 1) := by decide +kernel
theorem dX11_cannot_9 : decode cX11_cannot 9 = .ok (.invokestatic 72, 3) := by decide +kernel
theorem dX11_cannot_12 : decode cX11_cannot 12 = .ok (.ifCond .eq 5, 3) := by decide +kernel
theorem dX11_cannot_15 : decode cX11_cannot 15 = .ok (.iconst (-1), 1) := by decide +kernel
theorem dX11_cannot_16 : decode cX11_cannot 16 = .ok (.ireturn, 1) := by decide +kernel
theorem dX11_cannot_17 : decode cX11_cannot 17 = .ok (.aload_n 0, 1) := by decide +kernel
theorem dX11_cannot_18 : decode cX11_cannot 18 = .ok (.getfield 32, 3) := by decide +kernel
theorem dX11_cannot_21 : decode cX11_cannot 21 = .ok (.iload_n 3, 1) := by decide +kernel
theorem dX11_cannot_22 : decode cX11_cannot 22 = .ok (.invokevirtual 306, 3) := by decide +kernel
theorem dX11_cannot_25 : decode cX11_cannot 25 = .ok (.iconst 0, 1) := by decide +kernel
theorem dX11_cannot_26 : decode cX11_cannot 26 = .ok (.istore 5, 2) := by decide +kernel
theorem dX11_cannot_28 : decode cX11_cannot 28 = .ok (.iconst 0, 1) := by decide +kernel
theorem dX11_cannot_29 : decode cX11_cannot 29 = .ok (.istore 6, 2) := by decide +kernel
theorem dX11_cannot_31 : decode cX11_cannot 31 = .ok (.iload 6, 2) := by decide +kernel
theorem dX11_cannot_33 : decode cX11_cannot 33 = .ok (.aload_n 0, 1) := by decide +kernel
theorem dX11_cannot_34 : decode cX11_cannot 34 = .ok (.getfield 12, 3) := by decide +kernel
theorem dX11_cannot_37 : decode cX11_cannot 37 = .ok (.getfield 137, 3) := by decide +kernel
theorem dX11_cannot_40 : decode cX11_cannot 40 = .ok (.getfield 141, 3) := by decide +kernel
theorem dX11_cannot_43 : decode cX11_cannot 43 = .ok (.if_icmp .ge 55, 3) := by decide +kernel
theorem dX11_cannot_98 : decode cX11_cannot 98 = .ok (.iload 4, 2) := by decide +kernel
theorem dX11_cannot_100 : decode cX11_cannot 100 = .ok (.iconst (-1), 1) := by decide +kernel
theorem dX11_cannot_101 : decode cX11_cannot 101 = .ok (.if_icmp .ne 8, 3) := by decide +kernel
theorem dX11_cannot_104 : decode cX11_cannot 104 = .ok (.iload 5, 2) := by decide +kernel
theorem dX11_cannot_106 : decode cX11_cannot 106 = .ok (.goto 4, 3) := by decide +kernel
theorem dX11_cannot_109 : decode cX11_cannot 109 = .ok (.iconst (-1), 1) := by decide +kernel
theorem dX11_cannot_110 : decode cX11_cannot 110 = .ok (.ireturn, 1) := by decide +kernel
theorem dX11_child_0 : decode cX11_child 0 = .ok (.aload_n 0, 1) := by decide +kernel
theorem dX11_child_1 : decode cX11_child 1 = .ok (.getfield 12, 3) := by decide +kernel
theorem dX11_child_4 : decode cX11_child 4 = .ok (.getfield 43, 3) := by decide +kernel
theorem dX11_child_7 : decode cX11_child 7 = .ok (.astore 6, 2) := by decide +kernel
theorem dX11_child_9 : decode cX11_child 9 = .ok (.iload_n 1, 1) := by decide +kernel
theorem dX11_child_10 : decode cX11_child 10 = .ok (.iconst 3, 1) := by decide +kernel
theorem dX11_child_11 : decode cX11_child 11 = .ok (.bipush 18, 2) := by decide +kernel
theorem dX11_child_13 : decode cX11_child 13 = .ok (.invokestatic 47, 3) := by decide +kernel
theorem dX11_child_16 : decode cX11_child 16 = .ok (.ifCond .ne 23, 3) := by decide +kernel
theorem dX11_child_19 : decode cX11_child 19 = .ok (.iload_n 3, 1) := by decide +kernel
theorem dX11_child_20 : decode cX11_child 20 = .ok (.iconst (-1), 1) := by decide +kernel
theorem dX11_child_21 : decode cX11_child 21 = .ok (.bipush 7, 2) := by decide +kernel
theorem dX11_child_23 : decode cX11_child 23 = .ok (.invokestatic 47, 3) := by decide +kernel
theorem dX11_child_26 : decode cX11_child 26 = .ok (.ifCond .ne 13, 3) := by decide +kernel
theorem dX11_child_29 : decode cX11_child 29 = .ok (.iload 4, 2) := by decide +kernel
theorem dX11_child_31 : decode cX11_child 31 = .ok (.iload 5, 2) := by decide +kernel
theorem dX11_child_33 : decode cX11_child 33 = .ok (.invokestatic 51, 3) := by decide +kernel
theorem dX11_child_36 : decode cX11_child 36 = .ok (.ifCond .eq 9, 3) := by decide +kernel
theorem dX11_child_39 : decode cX11_child 39 = .ok (.aload_n 0, 1) := by decide +kernel
theorem dX11_child_40 : decode cX11_child 40 = .ok (.iconst (-1), 1) := by decide +kernel
theorem dX11_child_41 : decode cX11_child 41 = .ok (.invokevirtual 55, 3) := by decide +kernel
theorem dX11_child_44 : decode cX11_child 44 = .ok (.ireturn, 1) := by decide +kernel
theorem dX11_child_45 : decode cX11_child 45 = .ok (.aload 6, 2) := by decide +kernel
theorem dX11_child_47 : decode cX11_child 47 = .ok (.getfield 59, 3) := by decide +kernel
theorem dX11_child_50 : decode cX11_child 50 = .ok (.bipush 40, 2) := by decide +kernel
theorem dX11_child_52 : decode cX11_child 52 = .ok (.if_icmp .lt 10, 3) := by decide +kernel
theorem dX11_child_62 : decode cX11_child 62 = .ok (.aload_n 0, 1) := by decide +kernel
theorem dX11_child_63 : decode cX11_child 63 = .ok (.aload 6, 2) := by decide +kernel
theorem dX11_child_65 : decode cX11_child 65 = .ok (.iload_n 1, 1) := by decide +kernel
theorem dX11_child_66 : decode cX11_child 66 = .ok (.iload_n 2, 1) := by decide +kernel
theorem dX11_child_67 : decode cX11_child 67 = .ok (.iload_n 3, 1) := by decide +kernel
theorem dX11_child_68 : decode cX11_child 68 = .ok (.iload 4, 2) := by decide +kernel
theorem dX11_child_70 : decode cX11_child 70 = .ok (.iload 5, 2) := by decide +kernel
theorem dX11_child_72 : decode cX11_child 72 = .ok (.invokevirtual 65, 3) := by decide +kernel
theorem dX11_child_75 : decode cX11_child 75 = .ok (.invokevirtual 55, 3) := by decide +kernel
theorem dX11_child_78 : decode cX11_child 78 = .ok (.ireturn, 1) := by decide +kernel
theorem dX11_comes_0 : decode cX11_comes 0 = .ok (.aload_n 0, 1) := by decide +kernel
theorem dX11_comes_1 : decode cX11_comes 1 = .ok (.getfield 12, 3) := by decide +kernel
theorem dX11_comes_4 : decode cX11_comes 4 = .ok (.getfield 86, 3) := by decide +kernel
theorem dX11_comes_7 : decode cX11_comes 7 = .ok (.astore 4, 2) := by decide +kernel
theorem dX11_comes_9 : decode cX11_comes 9 = .ok (.iload_n 3, 1) := by decide +kernel
theorem dX11_comes_10 : decode cX11_comes 10 = .ok (.invokestatic 72, 3) := by decide +kernel
theorem dX11_comes_13 : decode cX11_comes 13 = .ok (.ifCond .eq 9, 3) := by decide +kernel
theorem dX11_comes_16 : decode cX11_comes 16 = .ok (.aload_n 0, 1) := by decide +kernel
theorem dX11_comes_17 : decode cX11_comes 17 = .ok (.iconst (-1), 1) := by decide +kernel
theorem dX11_comes_18 : decode cX11_comes 18 = .ok (.invokevirtual 55, 3) := by decide +kernel
theorem dX11_comes_21 : decode cX11_comes 21 = .ok (.ireturn, 1) := by decide +kernel
theorem dX11_comes_22 : decode cX11_comes 22 = .ok (.aload_n 0, 1) := by decide +kernel
theorem dX11_comes_23 : decode cX11_comes 23 = .ok (.getfield 12, 3) := by decide +kernel
theorem dX11_comes_26 : decode cX11_comes 26 = .ok (.getfield 43, 3) := by decide +kernel
theorem dX11_comes_29 : decode cX11_comes 29 = .ok (.iload_n 1, 1) := by decide +kernel
theorem dX11_comes_30 : decode cX11_comes 30 = .ok (.invokevirtual 90, 3) := by decide +kernel
theorem dX11_comes_33 : decode cX11_comes 33 = .ok (.ifCond .ne 17, 3) := by decide +kernel
theorem dX11_comes_50 : decode cX11_comes 50 = .ok (.aload_n 0, 1) := by decide +kernel
theorem dX11_comes_51 : decode cX11_comes 51 = .ok (.bipush (-2), 2) := by decide +kernel
theorem dX11_comes_53 : decode cX11_comes 53 = .ok (.invokevirtual 55, 3) := by decide +kernel
theorem dX11_comes_56 : decode cX11_comes 56 = .ok (.ireturn, 1) := by decide +kernel
theorem dX11_copyRow_0 : decode cX11_copyRow 0 = .ok (.aload_n 0, 1) := by decide +kernel
theorem dX11_copyRow_1 : decode cX11_copyRow 1 = .ok (.iconst 0, 1) := by decide +kernel
theorem dX11_copyRow_2 : decode cX11_copyRow 2 = .ok (.aload_n 1, 1) := by decide +kernel
theorem dX11_copyRow_3 : decode cX11_copyRow 3 = .ok (.iconst 0, 1) := by decide +kernel
theorem dX11_copyRow_4 : decode cX11_copyRow 4 = .ok (.aload_n 0, 1) := by decide +kernel
theorem dX11_copyRow_5 : decode cX11_copyRow 5 = .ok (.arraylength, 1) := by decide +kernel
theorem dX11_copyRow_6 : decode cX11_copyRow 6 = .ok (.aload_n 1, 1) := by decide +kernel
theorem dX11_copyRow_7 : decode cX11_copyRow 7 = .ok (.arraylength, 1) := by decide +kernel
theorem dX11_copyRow_8 : decode cX11_copyRow 8 = .ok (.invokestatic 390, 3) := by decide +kernel
theorem dX11_copyRow_11 : decode cX11_copyRow 11 = .ok (.invokestatic 395, 3) := by decide +kernel
theorem dX11_copyRow_14 : decode cX11_copyRow 14 = .ok (.return_, 1) := by decide +kernel
theorem dX11_count_0 : decode cX11_count 0 = .ok (.iload_n 1, 1) := by decide +kernel
theorem dX11_count_1 : decode cX11_count 1 = .ok (.tableswitch 162 0 9 #[55, 66, 77, 88, 99, 110, 121, 132, 143, 154], 55) := by decide +kernel
theorem dX11_count_56 : decode cX11_count 56 = .ok (.aload_n 0, 1) := by decide +kernel
theorem dX11_count_57 : decode cX11_count 57 = .ok (.getfield 12, 3) := by decide +kernel
theorem dX11_count_60 : decode cX11_count 60 = .ok (.getfield 43, 3) := by decide +kernel
theorem dX11_count_63 : decode cX11_count 63 = .ok (.getfield 59, 3) := by decide +kernel
theorem dX11_count_66 : decode cX11_count 66 = .ok (.ireturn, 1) := by decide +kernel
theorem dX11_count_67 : decode cX11_count 67 = .ok (.aload_n 0, 1) := by decide +kernel
theorem dX11_count_68 : decode cX11_count 68 = .ok (.getfield 12, 3) := by decide +kernel
theorem dX11_count_71 : decode cX11_count 71 = .ok (.getfield 43, 3) := by decide +kernel
theorem dX11_count_74 : decode cX11_count 74 = .ok (.getfield 69, 3) := by decide +kernel
theorem dX11_count_77 : decode cX11_count 77 = .ok (.ireturn, 1) := by decide +kernel
theorem dX11_count_78 : decode cX11_count 78 = .ok (.aload_n 0, 1) := by decide +kernel
theorem dX11_count_79 : decode cX11_count 79 = .ok (.getfield 12, 3) := by decide +kernel
theorem dX11_count_82 : decode cX11_count 82 = .ok (.getfield 86, 3) := by decide +kernel
theorem dX11_count_85 : decode cX11_count 85 = .ok (.getfield 105, 3) := by decide +kernel
theorem dX11_count_88 : decode cX11_count 88 = .ok (.ireturn, 1) := by decide +kernel
theorem dX11_count_89 : decode cX11_count 89 = .ok (.aload_n 0, 1) := by decide +kernel
theorem dX11_count_90 : decode cX11_count 90 = .ok (.getfield 12, 3) := by decide +kernel
theorem dX11_count_93 : decode cX11_count 93 = .ok (.getfield 137, 3) := by decide +kernel
theorem dX11_count_96 : decode cX11_count 96 = .ok (.getfield 141, 3) := by decide +kernel
theorem dX11_count_99 : decode cX11_count 99 = .ok (.ireturn, 1) := by decide +kernel
theorem dX11_count_100 : decode cX11_count 100 = .ok (.aload_n 0, 1) := by decide +kernel
theorem dX11_count_101 : decode cX11_count 101 = .ok (.getfield 12, 3) := by decide +kernel
theorem dX11_count_104 : decode cX11_count 104 = .ok (.getfield 187, 3) := by decide +kernel
theorem dX11_count_107 : decode cX11_count 107 = .ok (.getfield 191, 3) := by decide +kernel
theorem dX11_count_110 : decode cX11_count 110 = .ok (.ireturn, 1) := by decide +kernel
theorem dX11_count_111 : decode cX11_count 111 = .ok (.aload_n 0, 1) := by decide +kernel
theorem dX11_count_112 : decode cX11_count 112 = .ok (.getfield 12, 3) := by decide +kernel
theorem dX11_count_115 : decode cX11_count 115 = .ok (.getfield 263, 3) := by decide +kernel
theorem dX11_count_118 : decode cX11_count 118 = .ok (.getfield 270, 3) := by decide +kernel
theorem dX11_count_121 : decode cX11_count 121 = .ok (.ireturn, 1) := by decide +kernel
theorem dX11_count_122 : decode cX11_count 122 = .ok (.aload_n 0, 1) := by decide +kernel
theorem dX11_count_123 : decode cX11_count 123 = .ok (.getfield 12, 3) := by decide +kernel
theorem dX11_count_126 : decode cX11_count 126 = .ok (.getfield 263, 3) := by decide +kernel
theorem dX11_count_129 : decode cX11_count 129 = .ok (.getfield 281, 3) := by decide +kernel
theorem dX11_count_132 : decode cX11_count 132 = .ok (.ireturn, 1) := by decide +kernel
theorem dX11_count_133 : decode cX11_count 133 = .ok (.aload_n 0, 1) := by decide +kernel
theorem dX11_count_134 : decode cX11_count 134 = .ok (.getfield 12, 3) := by decide +kernel
theorem dX11_count_137 : decode cX11_count 137 = .ok (.getfield 263, 3) := by decide +kernel
theorem dX11_count_140 : decode cX11_count 140 = .ok (.getfield 315, 3) := by decide +kernel
theorem dX11_count_143 : decode cX11_count 143 = .ok (.ireturn, 1) := by decide +kernel
theorem dX11_count_144 : decode cX11_count 144 = .ok (.aload_n 0, 1) := by decide +kernel
theorem dX11_count_145 : decode cX11_count 145 = .ok (.getfield 12, 3) := by decide +kernel
theorem dX11_count_148 : decode cX11_count 148 = .ok (.getfield 263, 3) := by decide +kernel
theorem dX11_count_151 : decode cX11_count 151 = .ok (.getfield 352, 3) := by decide +kernel
theorem dX11_count_154 : decode cX11_count 154 = .ok (.ireturn, 1) := by decide +kernel
theorem dX11_count_155 : decode cX11_count 155 = .ok (.aload_n 0, 1) := by decide +kernel
theorem dX11_count_156 : decode cX11_count 156 = .ok (.getfield 23, 3) := by decide +kernel
theorem dX11_count_159 : decode cX11_count 159 = .ok (.getfield 181, 3) := by decide +kernel
theorem dX11_count_162 : decode cX11_count 162 = .ok (.ireturn, 1) := by decide +kernel
theorem dX11_count_163 : decode cX11_count 163 = .ok (.iconst (-1), 1) := by decide +kernel
theorem dX11_count_164 : decode cX11_count 164 = .ok (.ireturn, 1) := by decide +kernel
theorem dX11_dip_0 : decode cX11_dip 0 = .ok (.iload_n 2, 1) := by decide +kernel
theorem dX11_dip_1 : decode cX11_dip 1 = .ok (.iload_n 3, 1) := by decide +kernel
theorem dX11_dip_2 : decode cX11_dip 2 = .ok (.invokestatic 210, 3) := by decide +kernel
theorem dX11_dip_5 : decode cX11_dip 5 = .ok (.ifCond .ne 25, 3) := by decide +kernel
theorem dX11_dip_8 : decode cX11_dip 8 = .ok (.iload 4, 2) := by decide +kernel
theorem dX11_dip_10 : decode cX11_dip 10 = .ok (.invokestatic 72, 3) := by decide +kernel
theorem dX11_dip_13 : decode cX11_dip 13 = .ok (.ifCond .ne 17, 3) := by decide +kernel
theorem dX11_dip_16 : decode cX11_dip 16 = .ok (.aload_n 0, 1) := by decide +kernel
theorem dX11_dip_17 : decode cX11_dip 17 = .ok (.getfield 12, 3) := by decide +kernel
theorem dX11_dip_20 : decode cX11_dip 20 = .ok (.getfield 43, 3) := by decide +kernel
theorem dX11_dip_23 : decode cX11_dip 23 = .ok (.iload_n 1, 1) := by decide +kernel
theorem dX11_dip_24 : decode cX11_dip 24 = .ok (.invokevirtual 76, 3) := by decide +kernel
theorem dX11_dip_27 : decode cX11_dip 27 = .ok (.ifCond .eq 5, 3) := by decide +kernel
theorem dX11_dip_30 : decode cX11_dip 30 = .ok (.iconst (-1), 1) := by decide +kernel
theorem dX11_dip_31 : decode cX11_dip 31 = .ok (.ireturn, 1) := by decide +kernel
theorem dX11_dips_0 : decode cX11_dips 0 = .ok (.iload_n 1, 1) := by decide +kernel
theorem dX11_dips_1 : decode cX11_dips 1 = .ok (.iconst 0, 1) := by decide +kernel
theorem dX11_dips_2 : decode cX11_dips 2 = .ok (.bipush 57, 2) := by decide +kernel
theorem dX11_dips_4 : decode cX11_dips 4 = .ok (.invokestatic 47, 3) := by decide +kernel
theorem dX11_dips_7 : decode cX11_dips 7 = .ok (.ifCond .ne 30, 3) := by decide +kernel
theorem dX11_dips_10 : decode cX11_dips 10 = .ok (.iload_n 2, 1) := by decide +kernel
theorem dX11_dips_11 : decode cX11_dips 11 = .ok (.invokestatic 72, 3) := by decide +kernel
theorem dX11_dips_14 : decode cX11_dips 14 = .ok (.ifCond .ne 23, 3) := by decide +kernel
theorem dX11_dips_17 : decode cX11_dips 17 = .ok (.iload_n 3, 1) := by decide +kernel
theorem dX11_dips_18 : decode cX11_dips 18 = .ok (.iconst 1, 1) := by decide +kernel
theorem dX11_dips_19 : decode cX11_dips 19 = .ok (.bipush 20, 2) := by decide +kernel
theorem dX11_dips_21 : decode cX11_dips 21 = .ok (.invokestatic 47, 3) := by decide +kernel
theorem dX11_dips_24 : decode cX11_dips 24 = .ok (.ifCond .ne 13, 3) := by decide +kernel
theorem dX11_dips_27 : decode cX11_dips 27 = .ok (.iload 4, 2) := by decide +kernel
theorem dX11_dips_29 : decode cX11_dips 29 = .ok (.iconst 0, 1) := by decide +kernel
theorem dX11_dips_30 : decode cX11_dips 30 = .ok (.iconst 1, 1) := by decide +kernel
theorem dX11_dips_31 : decode cX11_dips 31 = .ok (.invokestatic 47, 3) := by decide +kernel
theorem dX11_dips_34 : decode cX11_dips 34 = .ok (.ifCond .eq 5, 3) := by decide +kernel
theorem dX11_dips_37 : decode cX11_dips 37 = .ok (.iconst (-1), 1) := by decide +kernel
theorem dX11_dips_38 : decode cX11_dips 38 = .ok (.ireturn, 1) := by decide +kernel
theorem dX11_dips_39 : decode cX11_dips 39 = .ok (.aload_n 0, 1) := by decide +kernel
theorem dX11_dips_40 : decode cX11_dips 40 = .ok (.getfield 32, 3) := by decide +kernel
theorem dX11_dips_43 : decode cX11_dips 43 = .ok (.iload_n 1, 1) := by decide +kernel
theorem dX11_dips_44 : decode cX11_dips 44 = .ok (.iload_n 2, 1) := by decide +kernel
theorem dX11_dips_45 : decode cX11_dips 45 = .ok (.invokevirtual 340, 3) := by decide +kernel
theorem dX11_dips_48 : decode cX11_dips 48 = .ok (.iload 4, 2) := by decide +kernel
theorem dX11_dips_50 : decode cX11_dips 50 = .ok (.ifCond .ne 14, 3) := by decide +kernel
theorem dX11_dips_53 : decode cX11_dips 53 = .ok (.aload_n 0, 1) := by decide +kernel
theorem dX11_dips_54 : decode cX11_dips 54 = .ok (.getfield 32, 3) := by decide +kernel
theorem dX11_dips_57 : decode cX11_dips 57 = .ok (.iload_n 3, 1) := by decide +kernel
theorem dX11_dips_58 : decode cX11_dips 58 = .ok (.invokevirtual 343, 3) := by decide +kernel
theorem dX11_dips_61 : decode cX11_dips 61 = .ok (.goto 10, 3) := by decide +kernel
theorem dX11_dips_64 : decode cX11_dips 64 = .ok (.aload_n 0, 1) := by decide +kernel
theorem dX11_dips_65 : decode cX11_dips 65 = .ok (.getfield 32, 3) := by decide +kernel
theorem dX11_dips_68 : decode cX11_dips 68 = .ok (.invokevirtual 346, 3) := by decide +kernel
theorem dX11_dips_71 : decode cX11_dips 71 = .ok (.ireturn, 1) := by decide +kernel
theorem dX11_draw_0 : decode cX11_draw 0 = .ok (.aload_n 0, 1) := by decide +kernel
theorem dX11_draw_1 : decode cX11_draw 1 = .ok (.getfield 12, 3) := by decide +kernel
theorem dX11_draw_4 : decode cX11_draw 4 = .ok (.getfield 263, 3) := by decide +kernel
theorem dX11_draw_7 : decode cX11_draw 7 = .ok (.astore 4, 2) := by decide +kernel
theorem dX11_draw_9 : decode cX11_draw 9 = .ok (.iload_n 2, 1) := by decide +kernel
theorem dX11_draw_10 : decode cX11_draw 10 = .ok (.iconst 0, 1) := by decide +kernel
theorem dX11_draw_11 : decode cX11_draw 11 = .ok (.iconst 1, 1) := by decide +kernel
theorem dX11_draw_12 : decode cX11_draw 12 = .ok (.invokestatic 47, 3) := by decide +kernel
theorem dX11_draw_15 : decode cX11_draw 15 = .ok (.ifCond .ne 14, 3) := by decide +kernel
theorem dX11_draw_18 : decode cX11_draw 18 = .ok (.iload_n 3, 1) := by decide +kernel
theorem dX11_draw_19 : decode cX11_draw 19 = .ok (.bipush (-100), 2) := by decide +kernel
theorem dX11_draw_21 : decode cX11_draw 21 = .ok (.bipush 100, 2) := by decide +kernel
theorem dX11_draw_23 : decode cX11_draw 23 = .ok (.invokestatic 47, 3) := by decide +kernel
theorem dX11_draw_26 : decode cX11_draw 26 = .ok (.ifCond .eq 9, 3) := by decide +kernel
theorem dX11_draw_29 : decode cX11_draw 29 = .ok (.aload_n 0, 1) := by decide +kernel
theorem dX11_draw_30 : decode cX11_draw 30 = .ok (.iconst (-1), 1) := by decide +kernel
theorem dX11_draw_31 : decode cX11_draw 31 = .ok (.invokevirtual 55, 3) := by decide +kernel
theorem dX11_draw_34 : decode cX11_draw 34 = .ok (.ireturn, 1) := by decide +kernel
theorem dX11_draw_35 : decode cX11_draw 35 = .ok (.aload_n 0, 1) := by decide +kernel
theorem dX11_draw_36 : decode cX11_draw 36 = .ok (.getfield 12, 3) := by decide +kernel
theorem dX11_draw_39 : decode cX11_draw 39 = .ok (.getfield 43, 3) := by decide +kernel
theorem dX11_draw_42 : decode cX11_draw 42 = .ok (.iload_n 1, 1) := by decide +kernel
theorem dX11_draw_43 : decode cX11_draw 43 = .ok (.invokevirtual 90, 3) := by decide +kernel
theorem dX11_draw_46 : decode cX11_draw 46 = .ok (.ifCond .eq 10, 3) := by decide +kernel
theorem dX11_draw_49 : decode cX11_draw 49 = .ok (.aload_n 0, 1) := by decide +kernel
theorem dX11_draw_50 : decode cX11_draw 50 = .ok (.bipush (-2), 2) := by decide +kernel
theorem dX11_draw_52 : decode cX11_draw 52 = .ok (.invokevirtual 55, 3) := by decide +kernel
theorem dX11_draw_55 : decode cX11_draw 55 = .ok (.ireturn, 1) := by decide +kernel
theorem dX11_due_0 : decode cX11_due 0 = .ok (.iload_n 2, 1) := by decide +kernel
theorem dX11_due_1 : decode cX11_due 1 = .ok (.invokestatic 220, 3) := by decide +kernel
theorem dX11_due_4 : decode cX11_due 4 = .ok (.ifCond .ne 32, 3) := by decide +kernel
theorem dX11_due_7 : decode cX11_due 7 = .ok (.iload_n 3, 1) := by decide +kernel
theorem dX11_due_8 : decode cX11_due 8 = .ok (.invokestatic 72, 3) := by decide +kernel
theorem dX11_due_11 : decode cX11_due 11 = .ok (.ifCond .ne 25, 3) := by decide +kernel
theorem dX11_due_14 : decode cX11_due 14 = .ok (.iload 4, 2) := by decide +kernel
theorem dX11_due_16 : decode cX11_due 16 = .ok (.invokestatic 72, 3) := by decide +kernel
theorem dX11_due_19 : decode cX11_due 19 = .ok (.ifCond .ne 17, 3) := by decide +kernel
theorem dX11_due_22 : decode cX11_due 22 = .ok (.aload_n 0, 1) := by decide +kernel
theorem dX11_due_23 : decode cX11_due 23 = .ok (.getfield 12, 3) := by decide +kernel
theorem dX11_due_26 : decode cX11_due 26 = .ok (.getfield 43, 3) := by decide +kernel
theorem dX11_due_29 : decode cX11_due 29 = .ok (.iload_n 1, 1) := by decide +kernel
theorem dX11_due_30 : decode cX11_due 30 = .ok (.invokevirtual 90, 3) := by decide +kernel
theorem dX11_due_33 : decode cX11_due 33 = .ok (.ifCond .eq 5, 3) := by decide +kernel
theorem dX11_due_36 : decode cX11_due 36 = .ok (.iconst (-1), 1) := by decide +kernel
theorem dX11_due_37 : decode cX11_due 37 = .ok (.ireturn, 1) := by decide +kernel
theorem dX11_end_0 : decode cX11_end 0 = .ok (.iload_n 1, 1) := by decide +kernel
theorem dX11_end_1 : decode cX11_end 1 = .ok (.iconst 0, 1) := by decide +kernel
theorem dX11_end_2 : decode cX11_end 2 = .ok (.aload_n 0, 1) := by decide +kernel
theorem dX11_end_3 : decode cX11_end 3 = .ok (.getfield 23, 3) := by decide +kernel
theorem dX11_end_6 : decode cX11_end 6 = .ok (.getfield 181, 3) := by decide +kernel
theorem dX11_end_9 : decode cX11_end 9 = .ok (.invokestatic 47, 3) := by decide +kernel
theorem dX11_end_12 : decode cX11_end 12 = .ok (.ifCond .eq 5, 3) := by decide +kernel
theorem dX11_end_15 : decode cX11_end 15 = .ok (.iconst (-1), 1) := by decide +kernel
theorem dX11_end_16 : decode cX11_end 16 = .ok (.ireturn, 1) := by decide +kernel
theorem dX11_end_17 : decode cX11_end 17 = .ok (.aload_n 0, 1) := by decide +kernel
theorem dX11_end_18 : decode cX11_end 18 = .ok (.getfield 23, 3) := by decide +kernel
theorem dX11_end_21 : decode cX11_end 21 = .ok (.iload_n 1, 1) := by decide +kernel
theorem dX11_end_22 : decode cX11_end 22 = .ok (.putfield 181, 3) := by decide +kernel
theorem dX11_end_25 : decode cX11_end 25 = .ok (.iload_n 1, 1) := by decide +kernel
theorem dX11_end_26 : decode cX11_end 26 = .ok (.ireturn, 1) := by decide +kernel
theorem dX11_failed_0 : decode cX11_failed 0 = .ok (.aload_n 0, 1) := by decide +kernel
theorem dX11_failed_1 : decode cX11_failed 1 = .ok (.getfield 12, 3) := by decide +kernel
theorem dX11_failed_4 : decode cX11_failed 4 = .ok (.getfield 43, 3) := by decide +kernel
theorem dX11_failed_7 : decode cX11_failed 7 = .ok (.astore_n 3, 1) := by decide +kernel
theorem dX11_failed_8 : decode cX11_failed 8 = .ok (.iload_n 1, 1) := by decide +kernel
theorem dX11_failed_9 : decode cX11_failed 9 = .ok (.iconst 0, 1) := by decide +kernel
theorem dX11_failed_10 : decode cX11_failed 10 = .ok (.bipush 7, 2) := by decide +kernel
theorem dX11_failed_12 : decode cX11_failed 12 = .ok (.invokestatic 47, 3) := by decide +kernel
theorem dX11_failed_15 : decode cX11_failed 15 = .ok (.ifCond .ne 10, 3) := by decide +kernel
theorem dX11_failed_18 : decode cX11_failed 18 = .ok (.iload_n 2, 1) := by decide +kernel
theorem dX11_failed_19 : decode cX11_failed 19 = .ok (.invokestatic 118, 3) := by decide +kernel
theorem dX11_failed_22 : decode cX11_failed 22 = .ok (.ifCond .eq 9, 3) := by decide +kernel
theorem dX11_failed_25 : decode cX11_failed 25 = .ok (.aload_n 0, 1) := by decide +kernel
theorem dX11_failed_26 : decode cX11_failed 26 = .ok (.iconst (-1), 1) := by decide +kernel
theorem dX11_failed_27 : decode cX11_failed 27 = .ok (.invokevirtual 55, 3) := by decide +kernel
theorem dX11_failed_30 : decode cX11_failed 30 = .ok (.ireturn, 1) := by decide +kernel
theorem dX11_failed_31 : decode cX11_failed 31 = .ok (.aload_n 3, 1) := by decide +kernel
theorem dX11_failed_32 : decode cX11_failed 32 = .ok (.iload_n 1, 1) := by decide +kernel
theorem dX11_failed_33 : decode cX11_failed 33 = .ok (.iload_n 2, 1) := by decide +kernel
theorem dX11_failed_34 : decode cX11_failed 34 = .ok (.invokevirtual 121, 3) := by decide +kernel
theorem dX11_failed_37 : decode cX11_failed 37 = .ok (.ifCond .eq 10, 3) := by decide +kernel
theorem dX11_failed_47 : decode cX11_failed 47 = .ok (.aload_n 3, 1) := by decide +kernel
theorem dX11_failed_48 : decode cX11_failed 48 = .ok (.getfield 124, 3) := by decide +kernel
theorem dX11_failed_51 : decode cX11_failed 51 = .ok (.bipush 60, 2) := by decide +kernel
theorem dX11_failed_53 : decode cX11_failed 53 = .ok (.if_icmp .lt 10, 3) := by decide +kernel
theorem dX11_failed_63 : decode cX11_failed 63 = .ok (.aload_n 0, 1) := by decide +kernel
theorem dX11_failed_64 : decode cX11_failed 64 = .ok (.aload_n 3, 1) := by decide +kernel
theorem dX11_failed_65 : decode cX11_failed 65 = .ok (.iload_n 1, 1) := by decide +kernel
theorem dX11_failed_66 : decode cX11_failed 66 = .ok (.iload_n 2, 1) := by decide +kernel
theorem dX11_failed_67 : decode cX11_failed 67 = .ok (.invokevirtual 127, 3) := by decide +kernel
theorem dX11_failed_70 : decode cX11_failed 70 = .ok (.invokevirtual 55, 3) := by decide +kernel
theorem dX11_failed_73 : decode cX11_failed 73 = .ok (.ireturn, 1) := by decide +kernel
theorem dX11_fault_0 : decode cX11_fault 0 = .ok (.aload_n 0, 1) := by decide +kernel
theorem dX11_fault_1 : decode cX11_fault 1 = .ok (.getfield 23, 3) := by decide +kernel
theorem dX11_fault_4 : decode cX11_fault 4 = .ok (.getfield 204, 3) := by decide +kernel
theorem dX11_fault_7 : decode cX11_fault 7 = .ok (.ireturn, 1) := by decide +kernel
theorem dX11_feed_0 : decode cX11_feed 0 = .ok (.aload_n 0, 1) := by decide +kernel
theorem dX11_feed_1 : decode cX11_feed 1 = .ok (.getfield 23, 3) := by decide +kernel
theorem dX11_feed_4 : decode cX11_feed 4 = .ok (.getfield 181, 3) := by decide +kernel
theorem dX11_feed_7 : decode cX11_feed 7 = .ok (.sipush 380, 3) := by decide +kernel
theorem dX11_feed_10 : decode cX11_feed 10 = .ok (.if_icmp .le 5, 3) := by decide +kernel
theorem dX11_feed_15 : decode cX11_feed 15 = .ok (.aload_n 0, 1) := by decide +kernel
theorem dX11_feed_16 : decode cX11_feed 16 = .ok (.getfield 23, 3) := by decide +kernel
theorem dX11_feed_19 : decode cX11_feed 19 = .ok (.iload_n 1, 1) := by decide +kernel
theorem dX11_feed_20 : decode cX11_feed 20 = .ok (.invokevirtual 184, 3) := by decide +kernel
theorem dX11_feed_23 : decode cX11_feed 23 = .ok (.aload_n 0, 1) := by decide +kernel
theorem dX11_feed_24 : decode cX11_feed 24 = .ok (.getfield 23, 3) := by decide +kernel
theorem dX11_feed_27 : decode cX11_feed 27 = .ok (.iload_n 2, 1) := by decide +kernel
theorem dX11_feed_28 : decode cX11_feed 28 = .ok (.invokevirtual 184, 3) := by decide +kernel
theorem dX11_feed_31 : decode cX11_feed 31 = .ok (.aload_n 0, 1) := by decide +kernel
theorem dX11_feed_32 : decode cX11_feed 32 = .ok (.getfield 23, 3) := by decide +kernel
theorem dX11_feed_35 : decode cX11_feed 35 = .ok (.iload_n 3, 1) := by decide +kernel
theorem dX11_feed_36 : decode cX11_feed 36 = .ok (.invokevirtual 184, 3) := by decide +kernel
theorem dX11_feed_39 : decode cX11_feed 39 = .ok (.aload_n 0, 1) := by decide +kernel
theorem dX11_feed_40 : decode cX11_feed 40 = .ok (.getfield 23, 3) := by decide +kernel
theorem dX11_feed_43 : decode cX11_feed 43 = .ok (.iload 4, 2) := by decide +kernel
theorem dX11_feed_45 : decode cX11_feed 45 = .ok (.invokevirtual 184, 3) := by decide +kernel
theorem dX11_feed_48 : decode cX11_feed 48 = .ok (.aload_n 0, 1) := by decide +kernel
theorem dX11_feed_49 : decode cX11_feed 49 = .ok (.getfield 23, 3) := by decide +kernel
theorem dX11_feed_52 : decode cX11_feed 52 = .ok (.iload 5, 2) := by decide +kernel
theorem dX11_feed_54 : decode cX11_feed 54 = .ok (.invokevirtual 184, 3) := by decide +kernel
theorem dX11_feed_57 : decode cX11_feed 57 = .ok (.aload_n 0, 1) := by decide +kernel
theorem dX11_feed_58 : decode cX11_feed 58 = .ok (.getfield 23, 3) := by decide +kernel
theorem dX11_feed_61 : decode cX11_feed 61 = .ok (.getfield 181, 3) := by decide +kernel
theorem dX11_feed_64 : decode cX11_feed 64 = .ok (.ireturn, 1) := by decide +kernel
theorem dX11_fine_0 : decode cX11_fine 0 = .ok (.iload_n 2, 1) := by decide +kernel
theorem dX11_fine_1 : decode cX11_fine 1 = .ok (.invokestatic 220, 3) := by decide +kernel
theorem dX11_fine_4 : decode cX11_fine 4 = .ok (.ifCond .ne 34, 3) := by decide +kernel
theorem dX11_fine_7 : decode cX11_fine 7 = .ok (.iload_n 3, 1) := by decide +kernel
theorem dX11_fine_8 : decode cX11_fine 8 = .ok (.invokestatic 72, 3) := by decide +kernel
theorem dX11_fine_11 : decode cX11_fine 11 = .ok (.ifCond .ne 27, 3) := by decide +kernel
theorem dX11_fine_14 : decode cX11_fine 14 = .ok (.iload 4, 2) := by decide +kernel
theorem dX11_fine_16 : decode cX11_fine 16 = .ok (.iconst 0, 1) := by decide +kernel
theorem dX11_fine_17 : decode cX11_fine 17 = .ok (.iconst 2, 1) := by decide +kernel
theorem dX11_fine_18 : decode cX11_fine 18 = .ok (.invokestatic 47, 3) := by decide +kernel
theorem dX11_fine_21 : decode cX11_fine 21 = .ok (.ifCond .ne 17, 3) := by decide +kernel
theorem dX11_fine_24 : decode cX11_fine 24 = .ok (.aload_n 0, 1) := by decide +kernel
theorem dX11_fine_25 : decode cX11_fine 25 = .ok (.getfield 12, 3) := by decide +kernel
theorem dX11_fine_28 : decode cX11_fine 28 = .ok (.getfield 43, 3) := by decide +kernel
theorem dX11_fine_31 : decode cX11_fine 31 = .ok (.iload_n 1, 1) := by decide +kernel
theorem dX11_fine_32 : decode cX11_fine 32 = .ok (.invokevirtual 90, 3) := by decide +kernel
theorem dX11_fine_35 : decode cX11_fine 35 = .ok (.ifCond .eq 5, 3) := by decide +kernel
theorem dX11_fine_38 : decode cX11_fine 38 = .ok (.iconst (-1), 1) := by decide +kernel
theorem dX11_fine_39 : decode cX11_fine 39 = .ok (.ireturn, 1) := by decide +kernel
theorem dX11_force_0 : decode cX11_force 0 = .ok (.iload_n 3, 1) := by decide +kernel
theorem dX11_force_1 : decode cX11_force 1 = .ok (.invokestatic 72, 3) := by decide +kernel
theorem dX11_force_4 : decode cX11_force 4 = .ok (.ifCond .eq 5, 3) := by decide +kernel
theorem dX11_force_7 : decode cX11_force 7 = .ok (.iconst (-1), 1) := by decide +kernel
theorem dX11_force_8 : decode cX11_force 8 = .ok (.ireturn, 1) := by decide +kernel
theorem dX11_force_9 : decode cX11_force 9 = .ok (.aload_n 0, 1) := by decide +kernel
theorem dX11_force_10 : decode cX11_force 10 = .ok (.getfield 32, 3) := by decide +kernel
theorem dX11_force_13 : decode cX11_force 13 = .ok (.iload_n 1, 1) := by decide +kernel
theorem dX11_force_14 : decode cX11_force 14 = .ok (.iload_n 2, 1) := by decide +kernel
theorem dX11_force_15 : decode cX11_force 15 = .ok (.iload_n 3, 1) := by decide +kernel
theorem dX11_force_16 : decode cX11_force 16 = .ok (.invokevirtual 207, 3) := by decide +kernel
theorem dX11_force_19 : decode cX11_force 19 = .ok (.ireturn, 1) := by decide +kernel
theorem dX11_found_0 : decode cX11_found 0 = .ok (.iload_n 1, 1) := by decide +kernel
theorem dX11_found_1 : decode cX11_found 1 = .ok (.invokestatic 72, 3) := by decide +kernel
theorem dX11_found_4 : decode cX11_found 4 = .ok (.ifCond .eq 8, 3) := by decide +kernel
theorem dX11_found_7 : decode cX11_found 7 = .ok (.bipush (-3), 2) := by decide +kernel
theorem dX11_found_9 : decode cX11_found 9 = .ok (.goto 14, 3) := by decide +kernel
theorem dX11_found_12 : decode cX11_found 12 = .ok (.aload_n 0, 1) := by decide +kernel
theorem dX11_found_13 : decode cX11_found 13 = .ok (.getfield 12, 3) := by decide +kernel
theorem dX11_found_16 : decode cX11_found 16 = .ok (.getfield 137, 3) := by decide +kernel
theorem dX11_found_19 : decode cX11_found 19 = .ok (.iload_n 1, 1) := by decide +kernel
theorem dX11_found_20 : decode cX11_found 20 = .ok (.invokevirtual 377, 3) := by decide +kernel
theorem dX11_found_23 : decode cX11_found 23 = .ok (.ireturn, 1) := by decide +kernel
theorem dX11_goes_0 : decode cX11_goes 0 = .ok (.aload_n 0, 1) := by decide +kernel
theorem dX11_goes_1 : decode cX11_goes 1 = .ok (.getfield 12, 3) := by decide +kernel
theorem dX11_goes_4 : decode cX11_goes 4 = .ok (.getfield 86, 3) := by decide +kernel
theorem dX11_goes_7 : decode cX11_goes 7 = .ok (.astore 5, 2) := by decide +kernel
theorem dX11_goes_9 : decode cX11_goes 9 = .ok (.iload_n 3, 1) := by decide +kernel
theorem dX11_goes_10 : decode cX11_goes 10 = .ok (.invokestatic 72, 3) := by decide +kernel
theorem dX11_goes_13 : decode cX11_goes 13 = .ok (.ifCond .ne 24, 3) := by decide +kernel
theorem dX11_goes_16 : decode cX11_goes 16 = .ok (.iload 4, 2) := by decide +kernel
theorem dX11_goes_18 : decode cX11_goes 18 = .ok (.iconst (-1), 1) := by decide +kernel
theorem dX11_goes_19 : decode cX11_goes 19 = .ok (.if_icmp .eq 24, 3) := by decide +kernel
theorem dX11_goes_22 : decode cX11_goes 22 = .ok (.aload_n 0, 1) := by decide +kernel
theorem dX11_goes_23 : decode cX11_goes 23 = .ok (.getfield 12, 3) := by decide +kernel
theorem dX11_goes_26 : decode cX11_goes 26 = .ok (.getfield 43, 3) := by decide +kernel
theorem dX11_goes_29 : decode cX11_goes 29 = .ok (.iload 4, 2) := by decide +kernel
theorem dX11_goes_31 : decode cX11_goes 31 = .ok (.invokevirtual 76, 3) := by decide +kernel
theorem dX11_goes_34 : decode cX11_goes 34 = .ok (.ifCond .eq 9, 3) := by decide +kernel
theorem dX11_goes_37 : decode cX11_goes 37 = .ok (.aload_n 0, 1) := by decide +kernel
theorem dX11_goes_38 : decode cX11_goes 38 = .ok (.iconst (-1), 1) := by decide +kernel
theorem dX11_goes_39 : decode cX11_goes 39 = .ok (.invokevirtual 55, 3) := by decide +kernel
theorem dX11_goes_42 : decode cX11_goes 42 = .ok (.ireturn, 1) := by decide +kernel
theorem dX11_goes_43 : decode cX11_goes 43 = .ok (.aload_n 0, 1) := by decide +kernel
theorem dX11_goes_44 : decode cX11_goes 44 = .ok (.getfield 12, 3) := by decide +kernel
theorem dX11_goes_47 : decode cX11_goes 47 = .ok (.getfield 43, 3) := by decide +kernel
theorem dX11_goes_50 : decode cX11_goes 50 = .ok (.iload_n 1, 1) := by decide +kernel
theorem dX11_goes_51 : decode cX11_goes 51 = .ok (.invokevirtual 90, 3) := by decide +kernel
theorem dX11_goes_54 : decode cX11_goes 54 = .ok (.ifCond .ne 17, 3) := by decide +kernel
theorem dX11_goes_71 : decode cX11_goes 71 = .ok (.aload_n 0, 1) := by decide +kernel
theorem dX11_goes_72 : decode cX11_goes 72 = .ok (.bipush (-2), 2) := by decide +kernel
theorem dX11_goes_74 : decode cX11_goes 74 = .ok (.invokevirtual 55, 3) := by decide +kernel
theorem dX11_goes_77 : decode cX11_goes 77 = .ok (.ireturn, 1) := by decide +kernel
theorem dX11_has_0 : decode cX11_has 0 = .ok (.aload_n 0, 1) := by decide +kernel
theorem dX11_has_1 : decode cX11_has 1 = .ok (.getfield 12, 3) := by decide +kernel
theorem dX11_has_4 : decode cX11_has 4 = .ok (.getfield 43, 3) := by decide +kernel
theorem dX11_has_7 : decode cX11_has 7 = .ok (.astore 5, 2) := by decide +kernel
theorem dX11_has_9 : decode cX11_has 9 = .ok (.iload_n 2, 1) := by decide +kernel
theorem dX11_has_10 : decode cX11_has 10 = .ok (.iconst 0, 1) := by decide +kernel
theorem dX11_has_11 : decode cX11_has 11 = .ok (.iconst 1, 1) := by decide +kernel
theorem dX11_has_12 : decode cX11_has 12 = .ok (.invokestatic 47, 3) := by decide +kernel
theorem dX11_has_15 : decode cX11_has 15 = .ok (.ifCond .ne 24, 3) := by decide +kernel
theorem dX11_has_18 : decode cX11_has 18 = .ok (.iload_n 3, 1) := by decide +kernel
theorem dX11_has_19 : decode cX11_has 19 = .ok (.invokestatic 72, 3) := by decide +kernel
theorem dX11_has_22 : decode cX11_has 22 = .ok (.ifCond .ne 17, 3) := by decide +kernel
theorem dX11_has_25 : decode cX11_has 25 = .ok (.iload 4, 2) := by decide +kernel
theorem dX11_has_27 : decode cX11_has 27 = .ok (.invokestatic 72, 3) := by decide +kernel
theorem dX11_has_30 : decode cX11_has 30 = .ok (.ifCond .ne 9, 3) := by decide +kernel
theorem dX11_has_33 : decode cX11_has 33 = .ok (.iload_n 3, 1) := by decide +kernel
theorem dX11_has_34 : decode cX11_has 34 = .ok (.iload 4, 2) := by decide +kernel
theorem dX11_has_36 : decode cX11_has 36 = .ok (.if_icmp .le 9, 3) := by decide +kernel
theorem dX11_has_39 : decode cX11_has 39 = .ok (.aload_n 0, 1) := by decide +kernel
theorem dX11_has_40 : decode cX11_has 40 = .ok (.iconst (-1), 1) := by decide +kernel
theorem dX11_has_41 : decode cX11_has 41 = .ok (.invokevirtual 55, 3) := by decide +kernel
theorem dX11_has_44 : decode cX11_has 44 = .ok (.ireturn, 1) := by decide +kernel
theorem dX11_has_45 : decode cX11_has 45 = .ok (.aload 5, 2) := by decide +kernel
theorem dX11_has_47 : decode cX11_has 47 = .ok (.iload_n 1, 1) := by decide +kernel
theorem dX11_has_48 : decode cX11_has 48 = .ok (.invokevirtual 90, 3) := by decide +kernel
theorem dX11_has_51 : decode cX11_has 51 = .ok (.ifCond .eq 10, 3) := by decide +kernel
theorem dX11_has_54 : decode cX11_has 54 = .ok (.aload_n 0, 1) := by decide +kernel
theorem dX11_has_55 : decode cX11_has 55 = .ok (.bipush (-2), 2) := by decide +kernel
theorem dX11_has_57 : decode cX11_has 57 = .ok (.invokevirtual 55, 3) := by decide +kernel
theorem dX11_has_60 : decode cX11_has 60 = .ok (.ireturn, 1) := by decide +kernel
theorem dX11_helped_0 : decode cX11_helped 0 = .ok (.iload_n 1, 1) := by decide +kernel
theorem dX11_helped_1 : decode cX11_helped 1 = .ok (.iconst 0, 1) := by decide +kernel
theorem dX11_helped_2 : decode cX11_helped 2 = .ok (.iconst 1, 1) := by decide +kernel
theorem dX11_helped_3 : decode cX11_helped 3 = .ok (.invokestatic 47, 3) := by decide +kernel
theorem dX11_helped_6 : decode cX11_helped 6 = .ok (.ifCond .eq 7, 3) := by decide +kernel
theorem dX11_helped_9 : decode cX11_helped 9 = .ok (.iconst (-1), 1) := by decide +kernel
theorem dX11_helped_10 : decode cX11_helped 10 = .ok (.goto 19, 3) := by decide +kernel
theorem dX11_helped_13 : decode cX11_helped 13 = .ok (.aload_n 0, 1) := by decide +kernel
theorem dX11_helped_14 : decode cX11_helped 14 = .ok (.getfield 39, 3) := by decide +kernel
theorem dX11_helped_17 : decode cX11_helped 17 = .ok (.iload_n 1, 1) := by decide +kernel
theorem dX11_helped_18 : decode cX11_helped 18 = .ok (.ifCond .ne 7, 3) := by decide +kernel
theorem dX11_helped_21 : decode cX11_helped 21 = .ok (.iconst 1, 1) := by decide +kernel
theorem dX11_helped_22 : decode cX11_helped 22 = .ok (.goto 4, 3) := by decide +kernel
theorem dX11_helped_25 : decode cX11_helped 25 = .ok (.iconst 0, 1) := by decide +kernel
theorem dX11_helped_26 : decode cX11_helped 26 = .ok (.invokevirtual 361, 3) := by decide +kernel
theorem dX11_helped_29 : decode cX11_helped 29 = .ok (.ireturn, 1) := by decide +kernel
theorem dX11_image_0 : decode cX11_image 0 = .ok (.iload_n 1, 1) := by decide +kernel
theorem dX11_image_1 : decode cX11_image 1 = .ok (.iconst 0, 1) := by decide +kernel
theorem dX11_image_2 : decode cX11_image 2 = .ok (.iconst 1, 1) := by decide +kernel
theorem dX11_image_3 : decode cX11_image 3 = .ok (.invokestatic 47, 3) := by decide +kernel
theorem dX11_image_6 : decode cX11_image 6 = .ok (.ifCond .eq 9, 3) := by decide +kernel
theorem dX11_image_9 : decode cX11_image 9 = .ok (.aload_n 0, 1) := by decide +kernel
theorem dX11_image_10 : decode cX11_image 10 = .ok (.iconst (-1), 1) := by decide +kernel
theorem dX11_image_11 : decode cX11_image 11 = .ok (.invokevirtual 55, 3) := by decide +kernel
theorem dX11_image_14 : decode cX11_image 14 = .ok (.ireturn, 1) := by decide +kernel
theorem dX11_image_15 : decode cX11_image 15 = .ok (.aload_n 0, 1) := by decide +kernel
theorem dX11_image_16 : decode cX11_image 16 = .ok (.getfield 16, 3) := by decide +kernel
theorem dX11_image_19 : decode cX11_image 19 = .ok (.iload_n 1, 1) := by decide +kernel
theorem dX11_image_20 : decode cX11_image 20 = .ok (.aaload, 1) := by decide +kernel
theorem dX11_image_21 : decode cX11_image 21 = .ok (.ifnonnull 16, 3) := by decide +kernel
theorem dX11_image_24 : decode cX11_image 24 = .ok (.aload_n 0, 1) := by decide +kernel
theorem dX11_image_25 : decode cX11_image 25 = .ok (.getfield 16, 3) := by decide +kernel
theorem dX11_image_28 : decode cX11_image 28 = .ok (.iload_n 1, 1) := by decide +kernel
theorem dX11_image_29 : decode cX11_image 29 = .ok (.new 9, 3) := by decide +kernel
theorem dX11_image_32 : decode cX11_image 32 = .ok (.dup, 1) := by decide +kernel
theorem dX11_image_33 : decode cX11_image 33 = .ok (.invokespecial 11, 3) := by decide +kernel
theorem dX11_image_36 : decode cX11_image 36 = .ok (.aastore, 1) := by decide +kernel
theorem dX11_image_37 : decode cX11_image 37 = .ok (.aload_n 0, 1) := by decide +kernel
theorem dX11_image_38 : decode cX11_image 38 = .ok (.getfield 16, 3) := by decide +kernel
theorem dX11_image_41 : decode cX11_image 41 = .ok (.iload_n 1, 1) := by decide +kernel
theorem dX11_image_42 : decode cX11_image 42 = .ok (.aaload, 1) := by decide +kernel
theorem dX11_image_43 : decode cX11_image 43 = .ok (.aload_n 0, 1) := by decide +kernel
theorem dX11_image_44 : decode cX11_image 44 = .ok (.getfield 12, 3) := by decide +kernel
theorem dX11_image_47 : decode cX11_image 47 = .ok (.invokevirtual 380, 3) := by decide +kernel
theorem dX11_image_50 : decode cX11_image 50 = .ok (.aload_n 0, 1) := by decide +kernel
theorem dX11_image_51 : decode cX11_image 51 = .ok (.iconst 0, 1) := by decide +kernel
theorem dX11_image_52 : decode cX11_image 52 = .ok (.invokevirtual 55, 3) := by decide +kernel
theorem dX11_image_55 : decode cX11_image 55 = .ok (.ireturn, 1) := by decide +kernel
theorem dX11_init_0 : decode cX11_init 0 = .ok (.aload_n 0, 1) := by decide +kernel
theorem dX11_init_1 : decode cX11_init 1 = .ok (.invokespecial 3, 3) := by decide +kernel
theorem dX11_init_4 : decode cX11_init 4 = .ok (.aload_n 0, 1) := by decide +kernel
theorem dX11_init_5 : decode cX11_init 5 = .ok (.new 9, 3) := by decide +kernel
theorem dX11_init_8 : decode cX11_init 8 = .ok (.dup, 1) := by decide +kernel
theorem dX11_init_9 : decode cX11_init 9 = .ok (.invokespecial 11, 3) := by decide +kernel
theorem dX11_init_12 : decode cX11_init 12 = .ok (.putfield 12, 3) := by decide +kernel
theorem dX11_init_15 : decode cX11_init 15 = .ok (.aload_n 0, 1) := by decide +kernel
theorem dX11_init_16 : decode cX11_init 16 = .ok (.iconst 2, 1) := by decide +kernel
theorem dX11_init_17 : decode cX11_init 17 = .ok (.anewarray 9, 3) := by decide +kernel
theorem dX11_init_20 : decode cX11_init 20 = .ok (.putfield 16, 3) := by decide +kernel
theorem dX11_init_23 : decode cX11_init 23 = .ok (.aload_n 0, 1) := by decide +kernel
theorem dX11_init_24 : decode cX11_init 24 = .ok (.new 20, 3) := by decide +kernel
theorem dX11_init_27 : decode cX11_init 27 = .ok (.dup, 1) := by decide +kernel
theorem dX11_init_28 : decode cX11_init 28 = .ok (.invokespecial 22, 3) := by decide +kernel
theorem dX11_init_31 : decode cX11_init 31 = .ok (.putfield 23, 3) := by decide +kernel
theorem dX11_init_34 : decode cX11_init 34 = .ok (.aload_n 0, 1) := by decide +kernel
theorem dX11_init_35 : decode cX11_init 35 = .ok (.new 27, 3) := by decide +kernel
theorem dX11_init_38 : decode cX11_init 38 = .ok (.dup, 1) := by decide +kernel
theorem dX11_init_39 : decode cX11_init 39 = .ok (.aload_n 0, 1) := by decide +kernel
theorem dX11_init_40 : decode cX11_init 40 = .ok (.getfield 12, 3) := by decide +kernel
theorem dX11_init_43 : decode cX11_init 43 = .ok (.invokespecial 29, 3) := by decide +kernel
theorem dX11_init_46 : decode cX11_init 46 = .ok (.putfield 32, 3) := by decide +kernel
theorem dX11_init_49 : decode cX11_init 49 = .ok (.aload_n 0, 1) := by decide +kernel
theorem dX11_init_50 : decode cX11_init 50 = .ok (.new 36, 3) := by decide +kernel
theorem dX11_init_53 : decode cX11_init 53 = .ok (.dup, 1) := by decide +kernel
theorem dX11_init_54 : decode cX11_init 54 = .ok (.aload_n 0, 1) := by decide +kernel
theorem dX11_init_55 : decode cX11_init 55 = .ok (.getfield 12, 3) := by decide +kernel
theorem dX11_init_58 : decode cX11_init 58 = .ok (.invokespecial 38, 3) := by decide +kernel
theorem dX11_init_61 : decode cX11_init 61 = .ok (.putfield 39, 3) := by decide +kernel
theorem dX11_init_64 : decode cX11_init 64 = .ok (.return_, 1) := by decide +kernel
theorem dX11_isNoDay_0 : decode cX11_isNoDay 0 = .ok (.iload_n 0, 1) := by decide +kernel
theorem dX11_isNoDay_1 : decode cX11_isNoDay 1 = .ok (.ifCond .lt 10, 3) := by decide +kernel
theorem dX11_isNoDay_4 : decode cX11_isNoDay 4 = .ok (.iload_n 0, 1) := by decide +kernel
theorem dX11_isNoDay_5 : decode cX11_isNoDay 5 = .ok (.sipush 400, 3) := by decide +kernel
theorem dX11_isNoDay_8 : decode cX11_isNoDay 8 = .ok (.if_icmp .lt 7, 3) := by decide +kernel
theorem dX11_isNoDay_11 : decode cX11_isNoDay 11 = .ok (.iconst 1, 1) := by decide +kernel
theorem dX11_isNoDay_12 : decode cX11_isNoDay 12 = .ok (.goto 4, 3) := by decide +kernel
theorem dX11_isNoDay_15 : decode cX11_isNoDay 15 = .ok (.iconst 0, 1) := by decide +kernel
theorem dX11_isNoDay_16 : decode cX11_isNoDay 16 = .ok (.ireturn, 1) := by decide +kernel
theorem dX11_isNoHalf_0 : decode cX11_isNoHalf 0 = .ok (.iload_n 0, 1) := by decide +kernel
theorem dX11_isNoHalf_1 : decode cX11_isNoHalf 1 = .ok (.ifCond .lt 10, 3) := by decide +kernel
theorem dX11_isNoHalf_4 : decode cX11_isNoHalf 4 = .ok (.iload_n 0, 1) := by decide +kernel
theorem dX11_isNoHalf_5 : decode cX11_isNoHalf 5 = .ok (.sipush 800, 3) := by decide +kernel
theorem dX11_isNoHalf_8 : decode cX11_isNoHalf 8 = .ok (.if_icmp .lt 7, 3) := by decide +kernel
theorem dX11_isNoHalf_11 : decode cX11_isNoHalf 11 = .ok (.iconst 1, 1) := by decide +kernel
theorem dX11_isNoHalf_12 : decode cX11_isNoHalf 12 = .ok (.goto 4, 3) := by decide +kernel
theorem dX11_isNoHalf_15 : decode cX11_isNoHalf 15 = .ok (.iconst 0, 1) := by decide +kernel
theorem dX11_isNoHalf_16 : decode cX11_isNoHalf 16 = .ok (.ireturn, 1) := by decide +kernel
theorem dX11_isNoPlace_0 : decode cX11_isNoPlace 0 = .ok (.iload_n 0, 1) := by decide +kernel
theorem dX11_isNoPlace_1 : decode cX11_isNoPlace 1 = .ok (.iconst 0, 1) := by decide +kernel
theorem dX11_isNoPlace_2 : decode cX11_isNoPlace 2 = .ok (.bipush 99, 2) := by decide +kernel
theorem dX11_isNoPlace_4 : decode cX11_isNoPlace 4 = .ok (.invokestatic 47, 3) := by decide +kernel
theorem dX11_isNoPlace_7 : decode cX11_isNoPlace 7 = .ok (.ifCond .ne 13, 3) := by decide +kernel
theorem dX11_isNoPlace_10 : decode cX11_isNoPlace 10 = .ok (.iload_n 1, 1) := by decide +kernel
theorem dX11_isNoPlace_11 : decode cX11_isNoPlace 11 = .ok (.iconst 0, 1) := by decide +kernel
theorem dX11_isNoPlace_12 : decode cX11_isNoPlace 12 = .ok (.bipush 99, 2) := by decide +kernel
theorem dX11_isNoPlace_14 : decode cX11_isNoPlace 14 = .ok (.invokestatic 47, 3) := by decide +kernel
theorem dX11_isNoPlace_17 : decode cX11_isNoPlace 17 = .ok (.ifCond .eq 7, 3) := by decide +kernel
theorem dX11_isNoPlace_20 : decode cX11_isNoPlace 20 = .ok (.iconst 1, 1) := by decide +kernel
theorem dX11_isNoPlace_21 : decode cX11_isNoPlace 21 = .ok (.goto 4, 3) := by decide +kernel
theorem dX11_isNoPlace_24 : decode cX11_isNoPlace 24 = .ok (.iconst 0, 1) := by decide +kernel
theorem dX11_isNoPlace_25 : decode cX11_isNoPlace 25 = .ok (.ireturn, 1) := by decide +kernel
theorem dX11_isNoStep_0 : decode cX11_isNoStep 0 = .ok (.iload_n 0, 1) := by decide +kernel
theorem dX11_isNoStep_1 : decode cX11_isNoStep 1 = .ok (.ifCond .lt 8, 3) := by decide +kernel
theorem dX11_isNoStep_4 : decode cX11_isNoStep 4 = .ok (.iload_n 0, 1) := by decide +kernel
theorem dX11_isNoStep_5 : decode cX11_isNoStep 5 = .ok (.iconst 4, 1) := by decide +kernel
theorem dX11_isNoStep_6 : decode cX11_isNoStep 6 = .ok (.if_icmp .lt 7, 3) := by decide +kernel
theorem dX11_isNoStep_9 : decode cX11_isNoStep 9 = .ok (.iconst 1, 1) := by decide +kernel
theorem dX11_isNoStep_10 : decode cX11_isNoStep 10 = .ok (.goto 4, 3) := by decide +kernel
theorem dX11_isNoStep_13 : decode cX11_isNoStep 13 = .ok (.iconst 0, 1) := by decide +kernel
theorem dX11_isNoStep_14 : decode cX11_isNoStep 14 = .ok (.ireturn, 1) := by decide +kernel
theorem dX11_isOn_0 : decode cX11_isOn 0 = .ok (.iload_n 3, 1) := by decide +kernel
theorem dX11_isOn_1 : decode cX11_isOn 1 = .ok (.invokestatic 72, 3) := by decide +kernel
theorem dX11_isOn_4 : decode cX11_isOn 4 = .ok (.ifCond .ne 31, 3) := by decide +kernel
theorem dX11_isOn_7 : decode cX11_isOn 7 = .ok (.aload_n 0, 1) := by decide +kernel
theorem dX11_isOn_8 : decode cX11_isOn 8 = .ok (.getfield 12, 3) := by decide +kernel
theorem dX11_isOn_11 : decode cX11_isOn 11 = .ok (.getfield 43, 3) := by decide +kernel
theorem dX11_isOn_14 : decode cX11_isOn 14 = .ok (.iload_n 1, 1) := by decide +kernel
theorem dX11_isOn_15 : decode cX11_isOn 15 = .ok (.invokevirtual 90, 3) := by decide +kernel
theorem dX11_isOn_18 : decode cX11_isOn 18 = .ok (.ifCond .ne 17, 3) := by decide +kernel
theorem dX11_isOn_35 : decode cX11_isOn 35 = .ok (.iconst (-1), 1) := by decide +kernel
theorem dX11_isOn_36 : decode cX11_isOn 36 = .ok (.ireturn, 1) := by decide +kernel
theorem dX11_isOutside_0 : decode cX11_isOutside 0 = .ok (.iload_n 0, 1) := by decide +kernel
theorem dX11_isOutside_1 : decode cX11_isOutside 1 = .ok (.iload_n 1, 1) := by decide +kernel
theorem dX11_isOutside_2 : decode cX11_isOutside 2 = .ok (.if_icmp .lt 8, 3) := by decide +kernel
theorem dX11_isOutside_5 : decode cX11_isOutside 5 = .ok (.iload_n 0, 1) := by decide +kernel
theorem dX11_isOutside_6 : decode cX11_isOutside 6 = .ok (.iload_n 2, 1) := by decide +kernel
theorem dX11_isOutside_7 : decode cX11_isOutside 7 = .ok (.if_icmp .le 7, 3) := by decide +kernel
theorem dX11_isOutside_10 : decode cX11_isOutside 10 = .ok (.iconst 1, 1) := by decide +kernel
theorem dX11_isOutside_11 : decode cX11_isOutside 11 = .ok (.goto 4, 3) := by decide +kernel
theorem dX11_isOutside_14 : decode cX11_isOutside 14 = .ok (.iconst 0, 1) := by decide +kernel
theorem dX11_isOutside_15 : decode cX11_isOutside 15 = .ok (.ireturn, 1) := by decide +kernel
theorem dX11_join_0 : decode cX11_join 0 = .ok (.iload_n 1, 1) := by decide +kernel
theorem dX11_join_1 : decode cX11_join 1 = .ok (.iconst 0, 1) := by decide +kernel
theorem dX11_join_2 : decode cX11_join 2 = .ok (.bipush 8, 2) := by decide +kernel
theorem dX11_join_4 : decode cX11_join 4 = .ok (.invokestatic 47, 3) := by decide +kernel
theorem dX11_join_7 : decode cX11_join 7 = .ok (.ifCond .eq 5, 3) := by decide +kernel
theorem dX11_join_10 : decode cX11_join 10 = .ok (.iconst (-1), 1) := by decide +kernel
theorem dX11_join_11 : decode cX11_join 11 = .ok (.ireturn, 1) := by decide +kernel
theorem dX11_join_12 : decode cX11_join 12 = .ok (.aload_n 0, 1) := by decide +kernel
theorem dX11_join_13 : decode cX11_join 13 = .ok (.getfield 39, 3) := by decide +kernel
theorem dX11_join_16 : decode cX11_join 16 = .ok (.iload_n 1, 1) := by decide +kernel
theorem dX11_join_17 : decode cX11_join 17 = .ok (.invokevirtual 291, 3) := by decide +kernel
theorem dX11_join_20 : decode cX11_join 20 = .ok (.ireturn, 1) := by decide +kernel
theorem dX11_joined_0 : decode cX11_joined 0 = .ok (.iload_n 1, 1) := by decide +kernel
theorem dX11_joined_1 : decode cX11_joined 1 = .ok (.iconst (-1), 1) := by decide +kernel
theorem dX11_joined_2 : decode cX11_joined 2 = .ok (.if_icmp .ne 11, 3) := by decide +kernel
theorem dX11_joined_5 : decode cX11_joined 5 = .ok (.aload_n 0, 1) := by decide +kernel
theorem dX11_joined_6 : decode cX11_joined 6 = .ok (.getfield 39, 3) := by decide +kernel
theorem dX11_joined_9 : decode cX11_joined 9 = .ok (.getfield 294, 3) := by decide +kernel
theorem dX11_joined_12 : decode cX11_joined 12 = .ok (.ireturn, 1) := by decide +kernel
theorem dX11_joined_13 : decode cX11_joined 13 = .ok (.iload_n 1, 1) := by decide +kernel
theorem dX11_joined_14 : decode cX11_joined 14 = .ok (.iconst 0, 1) := by decide +kernel
theorem dX11_joined_15 : decode cX11_joined 15 = .ok (.aload_n 0, 1) := by decide +kernel
theorem dX11_joined_16 : decode cX11_joined 16 = .ok (.getfield 39, 3) := by decide +kernel
theorem dX11_joined_19 : decode cX11_joined 19 = .ok (.getfield 297, 3) := by decide +kernel
theorem dX11_joined_22 : decode cX11_joined 22 = .ok (.iconst 1, 1) := by decide +kernel
theorem dX11_joined_23 : decode cX11_joined 23 = .ok (.isub, 1) := by decide +kernel
theorem dX11_joined_24 : decode cX11_joined 24 = .ok (.invokestatic 47, 3) := by decide +kernel
theorem dX11_joined_27 : decode cX11_joined 27 = .ok (.ifCond .eq 7, 3) := by decide +kernel
theorem dX11_joined_30 : decode cX11_joined 30 = .ok (.iconst (-1), 1) := by decide +kernel
theorem dX11_joined_31 : decode cX11_joined 31 = .ok (.goto 12, 3) := by decide +kernel
theorem dX11_joined_43 : decode cX11_joined 43 = .ok (.ireturn, 1) := by decide +kernel
theorem dX11_judge_0 : decode cX11_judge 0 = .ok (.iload_n 1, 1) := by decide +kernel
theorem dX11_judge_1 : decode cX11_judge 1 = .ok (.ifCond .lt 13, 3) := by decide +kernel
theorem dX11_judge_4 : decode cX11_judge 4 = .ok (.iload_n 2, 1) := by decide +kernel
theorem dX11_judge_5 : decode cX11_judge 5 = .ok (.iconst 0, 1) := by decide +kernel
theorem dX11_judge_6 : decode cX11_judge 6 = .ok (.bipush 8, 2) := by decide +kernel
theorem dX11_judge_8 : decode cX11_judge 8 = .ok (.invokestatic 47, 3) := by decide +kernel
theorem dX11_judge_11 : decode cX11_judge 11 = .ok (.ifCond .eq 5, 3) := by decide +kernel
theorem dX11_judge_14 : decode cX11_judge 14 = .ok (.iconst (-1), 1) := by decide +kernel
theorem dX11_judge_15 : decode cX11_judge 15 = .ok (.ireturn, 1) := by decide +kernel
theorem dX11_judge_16 : decode cX11_judge 16 = .ok (.aload_n 0, 1) := by decide +kernel
theorem dX11_judge_17 : decode cX11_judge 17 = .ok (.getfield 39, 3) := by decide +kernel
theorem dX11_judge_20 : decode cX11_judge 20 = .ok (.iload_n 1, 1) := by decide +kernel
theorem dX11_judge_21 : decode cX11_judge 21 = .ok (.iload_n 2, 1) := by decide +kernel
theorem dX11_judge_22 : decode cX11_judge 22 = .ok (.invokevirtual 303, 3) := by decide +kernel
theorem dX11_judge_25 : decode cX11_judge 25 = .ok (.ireturn, 1) := by decide +kernel
theorem dX11_mark_0 : decode cX11_mark 0 = .ok (.iload_n 3, 1) := by decide +kernel
theorem dX11_mark_1 : decode cX11_mark 1 = .ok (.invokestatic 118, 3) := by decide +kernel
theorem dX11_mark_4 : decode cX11_mark 4 = .ok (.ifCond .ne 34, 3) := by decide +kernel
theorem dX11_mark_7 : decode cX11_mark 7 = .ok (.iload 4, 2) := by decide +kernel
theorem dX11_mark_9 : decode cX11_mark 9 = .ok (.iconst 0, 1) := by decide +kernel
theorem dX11_mark_10 : decode cX11_mark 10 = .ok (.bipush 25, 2) := by decide +kernel
theorem dX11_mark_12 : decode cX11_mark 12 = .ok (.invokestatic 47, 3) := by decide +kernel
theorem dX11_mark_15 : decode cX11_mark 15 = .ok (.ifCond .ne 23, 3) := by decide +kernel
theorem dX11_mark_18 : decode cX11_mark 18 = .ok (.iload 5, 2) := by decide +kernel
theorem dX11_mark_20 : decode cX11_mark 20 = .ok (.iconst 0, 1) := by decide +kernel
theorem dX11_mark_21 : decode cX11_mark 21 = .ok (.sipush 300, 3) := by decide +kernel
theorem dX11_mark_24 : decode cX11_mark 24 = .ok (.invokestatic 47, 3) := by decide +kernel
theorem dX11_mark_27 : decode cX11_mark 27 = .ok (.ifCond .ne 11, 3) := by decide +kernel
theorem dX11_mark_30 : decode cX11_mark 30 = .ok (.iload 6, 2) := by decide +kernel
theorem dX11_mark_32 : decode cX11_mark 32 = .ok (.invokestatic 72, 3) := by decide +kernel
theorem dX11_mark_35 : decode cX11_mark 35 = .ok (.ifCond .eq 9, 3) := by decide +kernel
theorem dX11_mark_38 : decode cX11_mark 38 = .ok (.aload_n 0, 1) := by decide +kernel
theorem dX11_mark_39 : decode cX11_mark 39 = .ok (.iconst (-1), 1) := by decide +kernel
theorem dX11_mark_40 : decode cX11_mark 40 = .ok (.invokevirtual 55, 3) := by decide +kernel
theorem dX11_mark_43 : decode cX11_mark 43 = .ok (.ireturn, 1) := by decide +kernel
theorem dX11_mark_44 : decode cX11_mark 44 = .ok (.aload_n 0, 1) := by decide +kernel
theorem dX11_mark_45 : decode cX11_mark 45 = .ok (.getfield 12, 3) := by decide +kernel
theorem dX11_mark_48 : decode cX11_mark 48 = .ok (.getfield 43, 3) := by decide +kernel
theorem dX11_mark_51 : decode cX11_mark 51 = .ok (.iload_n 2, 1) := by decide +kernel
theorem dX11_mark_52 : decode cX11_mark 52 = .ok (.invokevirtual 90, 3) := by decide +kernel
theorem dX11_mark_55 : decode cX11_mark 55 = .ok (.ifCond .ne 17, 3) := by decide +kernel
theorem dX11_mark_72 : decode cX11_mark 72 = .ok (.aload_n 0, 1) := by decide +kernel
theorem dX11_mark_73 : decode cX11_mark 73 = .ok (.bipush (-2), 2) := by decide +kernel
theorem dX11_mark_75 : decode cX11_mark 75 = .ok (.invokevirtual 55, 3) := by decide +kernel
theorem dX11_mark_78 : decode cX11_mark 78 = .ok (.ireturn, 1) := by decide +kernel
theorem dX11_markThatCounts_0 : decode cX11_markThatCounts 0 = .ok (.iload_n 3, 1) := by decide +kernel
theorem dX11_markThatCounts_1 : decode cX11_markThatCounts 1 = .ok (.invokestatic 118, 3) := by decide +kernel
theorem dX11_markThatCounts_4 : decode cX11_markThatCounts 4 = .ok (.ifCond .ne 39, 3) := by decide +kernel
theorem dX11_markThatCounts_7 : decode cX11_markThatCounts 7 = .ok (.iload 4, 2) := by decide +kernel
theorem dX11_markThatCounts_9 : decode cX11_markThatCounts 9 = .ok (.invokestatic 72, 3) := by decide +kernel
theorem dX11_markThatCounts_12 : decode cX11_markThatCounts 12 = .ok (.ifCond .ne 31, 3) := by decide +kernel
theorem dX11_markThatCounts_15 : decode cX11_markThatCounts 15 = .ok (.aload_n 0, 1) := by decide +kernel
theorem dX11_markThatCounts_16 : decode cX11_markThatCounts 16 = .ok (.getfield 12, 3) := by decide +kernel
theorem dX11_markThatCounts_19 : decode cX11_markThatCounts 19 = .ok (.getfield 43, 3) := by decide +kernel
theorem dX11_markThatCounts_22 : decode cX11_markThatCounts 22 = .ok (.iload_n 2, 1) := by decide +kernel
theorem dX11_markThatCounts_23 : decode cX11_markThatCounts 23 = .ok (.invokevirtual 90, 3) := by decide +kernel
theorem dX11_markThatCounts_26 : decode cX11_markThatCounts 26 = .ok (.ifCond .ne 17, 3) := by decide +kernel
theorem dX11_markThatCounts_43 : decode cX11_markThatCounts 43 = .ok (.iconst (-1), 1) := by decide +kernel
theorem dX11_markThatCounts_44 : decode cX11_markThatCounts 44 = .ok (.ireturn, 1) := by decide +kernel
theorem dX11_missing_0 : decode cX11_missing 0 = .ok (.aload_n 0, 1) := by decide +kernel
theorem dX11_missing_1 : decode cX11_missing 1 = .ok (.getfield 12, 3) := by decide +kernel
theorem dX11_missing_4 : decode cX11_missing 4 = .ok (.getfield 263, 3) := by decide +kernel
theorem dX11_missing_7 : decode cX11_missing 7 = .ok (.astore_n 3, 1) := by decide +kernel
theorem dX11_missing_8 : decode cX11_missing 8 = .ok (.iload_n 2, 1) := by decide +kernel
theorem dX11_missing_9 : decode cX11_missing 9 = .ok (.invokestatic 267, 3) := by decide +kernel
theorem dX11_missing_12 : decode cX11_missing 12 = .ok (.ifCond .eq 9, 3) := by decide +kernel
theorem dX11_missing_15 : decode cX11_missing 15 = .ok (.aload_n 0, 1) := by decide +kernel
theorem dX11_missing_16 : decode cX11_missing 16 = .ok (.iconst (-1), 1) := by decide +kernel
theorem dX11_missing_17 : decode cX11_missing 17 = .ok (.invokevirtual 55, 3) := by decide +kernel
theorem dX11_missing_20 : decode cX11_missing 20 = .ok (.ireturn, 1) := by decide +kernel
theorem dX11_missing_21 : decode cX11_missing 21 = .ok (.aload_n 0, 1) := by decide +kernel
theorem dX11_missing_22 : decode cX11_missing 22 = .ok (.getfield 12, 3) := by decide +kernel
theorem dX11_missing_25 : decode cX11_missing 25 = .ok (.getfield 43, 3) := by decide +kernel
theorem dX11_missing_28 : decode cX11_missing 28 = .ok (.iload_n 1, 1) := by decide +kernel
theorem dX11_missing_29 : decode cX11_missing 29 = .ok (.invokevirtual 90, 3) := by decide +kernel
theorem dX11_missing_32 : decode cX11_missing 32 = .ok (.ifCond .eq 10, 3) := by decide +kernel
theorem dX11_missing_35 : decode cX11_missing 35 = .ok (.aload_n 0, 1) := by decide +kernel
theorem dX11_missing_36 : decode cX11_missing 36 = .ok (.bipush (-2), 2) := by decide +kernel
theorem dX11_missing_38 : decode cX11_missing 38 = .ok (.invokevirtual 55, 3) := by decide +kernel
theorem dX11_missing_41 : decode cX11_missing 41 = .ok (.ireturn, 1) := by decide +kernel
theorem dX11_off_0 : decode cX11_off 0 = .ok (.iload_n 2, 1) := by decide +kernel
theorem dX11_off_1 : decode cX11_off 1 = .ok (.invokestatic 72, 3) := by decide +kernel
theorem dX11_off_4 : decode cX11_off 4 = .ok (.ifCond .ne 24, 3) := by decide +kernel
theorem dX11_off_7 : decode cX11_off 7 = .ok (.iload_n 3, 1) := by decide +kernel
theorem dX11_off_8 : decode cX11_off 8 = .ok (.invokestatic 72, 3) := by decide +kernel
theorem dX11_off_11 : decode cX11_off 11 = .ok (.ifCond .ne 17, 3) := by decide +kernel
theorem dX11_off_14 : decode cX11_off 14 = .ok (.aload_n 0, 1) := by decide +kernel
theorem dX11_off_15 : decode cX11_off 15 = .ok (.getfield 12, 3) := by decide +kernel
theorem dX11_off_18 : decode cX11_off 18 = .ok (.getfield 43, 3) := by decide +kernel
theorem dX11_off_21 : decode cX11_off 21 = .ok (.iload_n 1, 1) := by decide +kernel
theorem dX11_off_22 : decode cX11_off 22 = .ok (.invokevirtual 90, 3) := by decide +kernel
theorem dX11_off_25 : decode cX11_off 25 = .ok (.ifCond .eq 5, 3) := by decide +kernel
theorem dX11_off_28 : decode cX11_off 28 = .ok (.iconst (-1), 1) := by decide +kernel
theorem dX11_off_29 : decode cX11_off 29 = .ok (.ireturn, 1) := by decide +kernel
theorem dX11_pay_0 : decode cX11_pay 0 = .ok (.aload_n 0, 1) := by decide +kernel
theorem dX11_pay_1 : decode cX11_pay 1 = .ok (.getfield 12, 3) := by decide +kernel
theorem dX11_pay_4 : decode cX11_pay 4 = .ok (.getfield 230, 3) := by decide +kernel
theorem dX11_pay_7 : decode cX11_pay 7 = .ok (.astore 4, 2) := by decide +kernel
theorem dX11_pay_9 : decode cX11_pay 9 = .ok (.iload_n 2, 1) := by decide +kernel
theorem dX11_pay_10 : decode cX11_pay 10 = .ok (.invokestatic 220, 3) := by decide +kernel
theorem dX11_pay_13 : decode cX11_pay 13 = .ok (.ifCond .ne 10, 3) := by decide +kernel
theorem dX11_pay_16 : decode cX11_pay 16 = .ok (.iload_n 3, 1) := by decide +kernel
theorem dX11_pay_17 : decode cX11_pay 17 = .ok (.invokestatic 72, 3) := by decide +kernel
theorem dX11_pay_20 : decode cX11_pay 20 = .ok (.ifCond .eq 9, 3) := by decide +kernel
theorem dX11_pay_23 : decode cX11_pay 23 = .ok (.aload_n 0, 1) := by decide +kernel
theorem dX11_pay_24 : decode cX11_pay 24 = .ok (.iconst (-1), 1) := by decide +kernel
theorem dX11_pay_25 : decode cX11_pay 25 = .ok (.invokevirtual 55, 3) := by decide +kernel
theorem dX11_pay_28 : decode cX11_pay 28 = .ok (.ireturn, 1) := by decide +kernel
theorem dX11_pay_29 : decode cX11_pay 29 = .ok (.aload_n 0, 1) := by decide +kernel
theorem dX11_pay_30 : decode cX11_pay 30 = .ok (.getfield 12, 3) := by decide +kernel
theorem dX11_pay_33 : decode cX11_pay 33 = .ok (.getfield 43, 3) := by decide +kernel
theorem dX11_pay_36 : decode cX11_pay 36 = .ok (.iload_n 1, 1) := by decide +kernel
theorem dX11_pay_37 : decode cX11_pay 37 = .ok (.invokevirtual 90, 3) := by decide +kernel
theorem dX11_pay_40 : decode cX11_pay 40 = .ok (.ifCond .eq 10, 3) := by decide +kernel
theorem dX11_pay_43 : decode cX11_pay 43 = .ok (.aload_n 0, 1) := by decide +kernel
theorem dX11_pay_44 : decode cX11_pay 44 = .ok (.bipush (-2), 2) := by decide +kernel
theorem dX11_pay_46 : decode cX11_pay 46 = .ok (.invokevirtual 55, 3) := by decide +kernel
theorem dX11_pay_49 : decode cX11_pay 49 = .ok (.ireturn, 1) := by decide +kernel
theorem dX11_rate_0 : decode cX11_rate 0 = .ok (.iload_n 2, 1) := by decide +kernel
theorem dX11_rate_1 : decode cX11_rate 1 = .ok (.iload_n 3, 1) := by decide +kernel
theorem dX11_rate_2 : decode cX11_rate 2 = .ok (.invokestatic 210, 3) := by decide +kernel
theorem dX11_rate_5 : decode cX11_rate 5 = .ok (.ifCond .ne 25, 3) := by decide +kernel
theorem dX11_rate_8 : decode cX11_rate 8 = .ok (.iload 4, 2) := by decide +kernel
theorem dX11_rate_10 : decode cX11_rate 10 = .ok (.invokestatic 72, 3) := by decide +kernel
theorem dX11_rate_13 : decode cX11_rate 13 = .ok (.ifCond .ne 17, 3) := by decide +kernel
theorem dX11_rate_16 : decode cX11_rate 16 = .ok (.aload_n 0, 1) := by decide +kernel
theorem dX11_rate_17 : decode cX11_rate 17 = .ok (.getfield 12, 3) := by decide +kernel
theorem dX11_rate_20 : decode cX11_rate 20 = .ok (.getfield 43, 3) := by decide +kernel
theorem dX11_rate_23 : decode cX11_rate 23 = .ok (.iload_n 1, 1) := by decide +kernel
theorem dX11_rate_24 : decode cX11_rate 24 = .ok (.invokevirtual 90, 3) := by decide +kernel
theorem dX11_rate_27 : decode cX11_rate 27 = .ok (.ifCond .eq 5, 3) := by decide +kernel
theorem dX11_rate_30 : decode cX11_rate 30 = .ok (.iconst (-1), 1) := by decide +kernel
theorem dX11_rate_31 : decode cX11_rate 31 = .ok (.ireturn, 1) := by decide +kernel
theorem dX11_record_0 : decode cX11_record 0 = .ok (.aload_n 0, 1) := by decide +kernel
theorem dX11_record_1 : decode cX11_record 1 = .ok (.getfield 12, 3) := by decide +kernel
theorem dX11_record_4 : decode cX11_record 4 = .ok (.getfield 263, 3) := by decide +kernel
theorem dX11_record_7 : decode cX11_record 7 = .ok (.astore_n 2, 1) := by decide +kernel
theorem dX11_record_8 : decode cX11_record 8 = .ok (.iload_n 1, 1) := by decide +kernel
theorem dX11_record_9 : decode cX11_record 9 = .ok (.invokestatic 267, 3) := by decide +kernel
theorem dX11_record_12 : decode cX11_record 12 = .ok (.ifCond .eq 9, 3) := by decide +kernel
theorem dX11_record_15 : decode cX11_record 15 = .ok (.aload_n 0, 1) := by decide +kernel
theorem dX11_record_16 : decode cX11_record 16 = .ok (.iconst (-1), 1) := by decide +kernel
theorem dX11_record_17 : decode cX11_record 17 = .ok (.invokevirtual 55, 3) := by decide +kernel
theorem dX11_record_20 : decode cX11_record 20 = .ok (.ireturn, 1) := by decide +kernel
theorem dX11_record_21 : decode cX11_record 21 = .ok (.aload_n 2, 1) := by decide +kernel
theorem dX11_record_22 : decode cX11_record 22 = .ok (.getfield 270, 3) := by decide +kernel
theorem dX11_record_25 : decode cX11_record 25 = .ok (.bipush 6, 2) := by decide +kernel
theorem dX11_record_27 : decode cX11_record 27 = .ok (.if_icmp .lt 10, 3) := by decide +kernel
theorem dX11_record_37 : decode cX11_record 37 = .ok (.aload_n 2, 1) := by decide +kernel
theorem dX11_record_38 : decode cX11_record 38 = .ok (.getfield 275, 3) := by decide +kernel
theorem dX11_record_41 : decode cX11_record 41 = .ok (.aload_n 2, 1) := by decide +kernel
theorem dX11_record_42 : decode cX11_record 42 = .ok (.getfield 270, 3) := by decide +kernel
theorem dX11_record_45 : decode cX11_record 45 = .ok (.iload_n 1, 1) := by decide +kernel
theorem dX11_record_46 : decode cX11_record 46 = .ok (.iastore, 1) := by decide +kernel
theorem dX11_record_47 : decode cX11_record 47 = .ok (.aload_n 2, 1) := by decide +kernel
theorem dX11_record_48 : decode cX11_record 48 = .ok (.dup, 1) := by decide +kernel
theorem dX11_record_49 : decode cX11_record 49 = .ok (.getfield 270, 3) := by decide +kernel
theorem dX11_record_52 : decode cX11_record 52 = .ok (.iconst 1, 1) := by decide +kernel
theorem dX11_record_53 : decode cX11_record 53 = .ok (.iadd, 1) := by decide +kernel
theorem dX11_record_54 : decode cX11_record 54 = .ok (.putfield 270, 3) := by decide +kernel
theorem dX11_record_57 : decode cX11_record 57 = .ok (.aload_n 0, 1) := by decide +kernel
theorem dX11_record_58 : decode cX11_record 58 = .ok (.aload_n 2, 1) := by decide +kernel
theorem dX11_record_59 : decode cX11_record 59 = .ok (.getfield 270, 3) := by decide +kernel
theorem dX11_record_62 : decode cX11_record 62 = .ok (.invokevirtual 55, 3) := by decide +kernel
theorem dX11_record_65 : decode cX11_record 65 = .ok (.ireturn, 1) := by decide +kernel
theorem dX11_rolls_0 : decode cX11_rolls 0 = .ok (.iload_n 1, 1) := by decide +kernel
theorem dX11_rolls_1 : decode cX11_rolls 1 = .ok (.invokestatic 72, 3) := by decide +kernel
theorem dX11_rolls_4 : decode cX11_rolls 4 = .ok (.ifCond .ne 12, 3) := by decide +kernel
theorem dX11_rolls_7 : decode cX11_rolls 7 = .ok (.iload_n 2, 1) := by decide +kernel
theorem dX11_rolls_8 : decode cX11_rolls 8 = .ok (.iconst 0, 1) := by decide +kernel
theorem dX11_rolls_9 : decode cX11_rolls 9 = .ok (.iconst 2, 1) := by decide +kernel
theorem dX11_rolls_10 : decode cX11_rolls 10 = .ok (.invokestatic 47, 3) := by decide +kernel
theorem dX11_rolls_13 : decode cX11_rolls 13 = .ok (.ifCond .eq 5, 3) := by decide +kernel
theorem dX11_rolls_16 : decode cX11_rolls 16 = .ok (.iconst (-1), 1) := by decide +kernel
theorem dX11_rolls_17 : decode cX11_rolls 17 = .ok (.ireturn, 1) := by decide +kernel
theorem dX11_rolls_18 : decode cX11_rolls 18 = .ok (.iconst 0, 1) := by decide +kernel
theorem dX11_rolls_19 : decode cX11_rolls 19 = .ok (.istore 4, 2) := by decide +kernel
theorem dX11_rolls_21 : decode cX11_rolls 21 = .ok (.iconst 0, 1) := by decide +kernel
theorem dX11_rolls_22 : decode cX11_rolls 22 = .ok (.istore 5, 2) := by decide +kernel
theorem dX11_rolls_24 : decode cX11_rolls 24 = .ok (.iload 5, 2) := by decide +kernel
theorem dX11_rolls_26 : decode cX11_rolls 26 = .ok (.aload_n 0, 1) := by decide +kernel
theorem dX11_rolls_27 : decode cX11_rolls 27 = .ok (.getfield 12, 3) := by decide +kernel
theorem dX11_rolls_30 : decode cX11_rolls 30 = .ok (.getfield 43, 3) := by decide +kernel
theorem dX11_rolls_33 : decode cX11_rolls 33 = .ok (.getfield 59, 3) := by decide +kernel
theorem dX11_rolls_36 : decode cX11_rolls 36 = .ok (.if_icmp .ge 35, 3) := by decide +kernel
theorem dX11_rolls_71 : decode cX11_rolls 71 = .ok (.iload_n 3, 1) := by decide +kernel
theorem dX11_rolls_72 : decode cX11_rolls 72 = .ok (.iconst (-1), 1) := by decide +kernel
theorem dX11_rolls_73 : decode cX11_rolls 73 = .ok (.if_icmp .ne 8, 3) := by decide +kernel
theorem dX11_rolls_76 : decode cX11_rolls 76 = .ok (.iload 4, 2) := by decide +kernel
theorem dX11_rolls_78 : decode cX11_rolls 78 = .ok (.goto 4, 3) := by decide +kernel
theorem dX11_rolls_81 : decode cX11_rolls 81 = .ok (.iconst (-1), 1) := by decide +kernel
theorem dX11_rolls_82 : decode cX11_rolls 82 = .ok (.ireturn, 1) := by decide +kernel
theorem dX11_round_0 : decode cX11_round 0 = .ok (.iload_n 1, 1) := by decide +kernel
theorem dX11_round_1 : decode cX11_round 1 = .ok (.iload_n 2, 1) := by decide +kernel
theorem dX11_round_2 : decode cX11_round 2 = .ok (.invokestatic 51, 3) := by decide +kernel
theorem dX11_round_5 : decode cX11_round 5 = .ok (.ifCond .ne 24, 3) := by decide +kernel
theorem dX11_round_8 : decode cX11_round 8 = .ok (.iload_n 3, 1) := by decide +kernel
theorem dX11_round_9 : decode cX11_round 9 = .ok (.iconst 0, 1) := by decide +kernel
theorem dX11_round_10 : decode cX11_round 10 = .ok (.sipush 2000, 3) := by decide +kernel
theorem dX11_round_13 : decode cX11_round 13 = .ok (.invokestatic 47, 3) := by decide +kernel
theorem dX11_round_16 : decode cX11_round 16 = .ok (.ifCond .ne 13, 3) := by decide +kernel
theorem dX11_round_19 : decode cX11_round 19 = .ok (.iload 4, 2) := by decide +kernel
theorem dX11_round_21 : decode cX11_round 21 = .ok (.iconst 0, 1) := by decide +kernel
theorem dX11_round_22 : decode cX11_round 22 = .ok (.iconst 2, 1) := by decide +kernel
theorem dX11_round_23 : decode cX11_round 23 = .ok (.invokestatic 47, 3) := by decide +kernel
theorem dX11_round_26 : decode cX11_round 26 = .ok (.ifCond .eq 5, 3) := by decide +kernel
theorem dX11_round_29 : decode cX11_round 29 = .ok (.iconst (-1), 1) := by decide +kernel
theorem dX11_round_30 : decode cX11_round 30 = .ok (.ireturn, 1) := by decide +kernel
theorem dX11_round_31 : decode cX11_round 31 = .ok (.aload_n 0, 1) := by decide +kernel
theorem dX11_round_32 : decode cX11_round 32 = .ok (.getfield 39, 3) := by decide +kernel
theorem dX11_round_35 : decode cX11_round 35 = .ok (.iload_n 1, 1) := by decide +kernel
theorem dX11_round_36 : decode cX11_round 36 = .ok (.iload_n 2, 1) := by decide +kernel
theorem dX11_round_37 : decode cX11_round 37 = .ok (.iload_n 3, 1) := by decide +kernel
theorem dX11_round_38 : decode cX11_round 38 = .ok (.invokevirtual 327, 3) := by decide +kernel
theorem dX11_round_41 : decode cX11_round 41 = .ok (.iload 4, 2) := by decide +kernel
theorem dX11_round_43 : decode cX11_round 43 = .ok (.ifCond .ne 13, 3) := by decide +kernel
theorem dX11_round_46 : decode cX11_round 46 = .ok (.aload_n 0, 1) := by decide +kernel
theorem dX11_round_47 : decode cX11_round 47 = .ok (.getfield 39, 3) := by decide +kernel
theorem dX11_round_50 : decode cX11_round 50 = .ok (.getfield 331, 3) := by decide +kernel
theorem dX11_round_53 : decode cX11_round 53 = .ok (.goto 26, 3) := by decide +kernel
theorem dX11_round_56 : decode cX11_round 56 = .ok (.iload 4, 2) := by decide +kernel
theorem dX11_round_58 : decode cX11_round 58 = .ok (.iconst 1, 1) := by decide +kernel
theorem dX11_round_59 : decode cX11_round 59 = .ok (.if_icmp .ne 13, 3) := by decide +kernel
theorem dX11_round_62 : decode cX11_round 62 = .ok (.aload_n 0, 1) := by decide +kernel
theorem dX11_round_63 : decode cX11_round 63 = .ok (.getfield 39, 3) := by decide +kernel
theorem dX11_round_66 : decode cX11_round 66 = .ok (.getfield 334, 3) := by decide +kernel
theorem dX11_round_69 : decode cX11_round 69 = .ok (.goto 10, 3) := by decide +kernel
theorem dX11_round_72 : decode cX11_round 72 = .ok (.aload_n 0, 1) := by decide +kernel
theorem dX11_round_73 : decode cX11_round 73 = .ok (.getfield 39, 3) := by decide +kernel
theorem dX11_round_76 : decode cX11_round 76 = .ok (.getfield 337, 3) := by decide +kernel
theorem dX11_round_79 : decode cX11_round 79 = .ok (.ireturn, 1) := by decide +kernel
theorem dX11_school_0 : decode cX11_school 0 = .ok (.aload_n 0, 1) := by decide +kernel
theorem dX11_school_1 : decode cX11_school 1 = .ok (.getfield 12, 3) := by decide +kernel
theorem dX11_school_4 : decode cX11_school 4 = .ok (.getfield 43, 3) := by decide +kernel
theorem dX11_school_7 : decode cX11_school 7 = .ok (.getfield 69, 3) := by decide +kernel
theorem dX11_school_10 : decode cX11_school 10 = .ok (.iconst 5, 1) := by decide +kernel
theorem dX11_school_11 : decode cX11_school 11 = .ok (.if_icmp .lt 10, 3) := by decide +kernel
theorem dX11_school_21 : decode cX11_school 21 = .ok (.aload_n 0, 1) := by decide +kernel
theorem dX11_school_22 : decode cX11_school 22 = .ok (.getfield 12, 3) := by decide +kernel
theorem dX11_school_25 : decode cX11_school 25 = .ok (.getfield 43, 3) := by decide +kernel
theorem dX11_school_28 : decode cX11_school 28 = .ok (.dup, 1) := by decide +kernel
theorem dX11_school_29 : decode cX11_school 29 = .ok (.getfield 69, 3) := by decide +kernel
theorem dX11_school_32 : decode cX11_school 32 = .ok (.iconst 1, 1) := by decide +kernel
theorem dX11_school_33 : decode cX11_school 33 = .ok (.iadd, 1) := by decide +kernel
theorem dX11_school_34 : decode cX11_school 34 = .ok (.putfield 69, 3) := by decide +kernel
theorem dX11_school_37 : decode cX11_school 37 = .ok (.aload_n 0, 1) := by decide +kernel
theorem dX11_school_38 : decode cX11_school 38 = .ok (.aload_n 0, 1) := by decide +kernel
theorem dX11_school_39 : decode cX11_school 39 = .ok (.getfield 12, 3) := by decide +kernel
theorem dX11_school_42 : decode cX11_school 42 = .ok (.getfield 43, 3) := by decide +kernel
theorem dX11_school_45 : decode cX11_school 45 = .ok (.getfield 69, 3) := by decide +kernel
theorem dX11_school_48 : decode cX11_school 48 = .ok (.iconst 1, 1) := by decide +kernel
theorem dX11_school_49 : decode cX11_school 49 = .ok (.isub, 1) := by decide +kernel
theorem dX11_school_50 : decode cX11_school 50 = .ok (.invokevirtual 55, 3) := by decide +kernel
theorem dX11_school_53 : decode cX11_school 53 = .ok (.ireturn, 1) := by decide +kernel
theorem dX11_seal_0 : decode cX11_seal 0 = .ok (.iload_n 1, 1) := by decide +kernel
theorem dX11_seal_1 : decode cX11_seal 1 = .ok (.invokestatic 72, 3) := by decide +kernel
theorem dX11_seal_4 : decode cX11_seal 4 = .ok (.ifCond .eq 9, 3) := by decide +kernel
theorem dX11_seal_7 : decode cX11_seal 7 = .ok (.aload_n 0, 1) := by decide +kernel
theorem dX11_seal_8 : decode cX11_seal 8 = .ok (.iconst (-1), 1) := by decide +kernel
theorem dX11_seal_9 : decode cX11_seal 9 = .ok (.invokevirtual 55, 3) := by decide +kernel
theorem dX11_seal_12 : decode cX11_seal 12 = .ok (.ireturn, 1) := by decide +kernel
theorem dX11_seal_13 : decode cX11_seal 13 = .ok (.aload_n 0, 1) := by decide +kernel
theorem dX11_seal_14 : decode cX11_seal 14 = .ok (.aload_n 0, 1) := by decide +kernel
theorem dX11_seal_15 : decode cX11_seal 15 = .ok (.getfield 12, 3) := by decide +kernel
theorem dX11_seal_18 : decode cX11_seal 18 = .ok (.getfield 137, 3) := by decide +kernel
theorem dX11_seal_21 : decode cX11_seal 21 = .ok (.iload_n 1, 1) := by decide +kernel
theorem dX11_seal_22 : decode cX11_seal 22 = .ok (.invokevirtual 371, 3) := by decide +kernel
theorem dX11_seal_25 : decode cX11_seal 25 = .ok (.invokevirtual 55, 3) := by decide +kernel
theorem dX11_seal_28 : decode cX11_seal 28 = .ok (.ireturn, 1) := by decide +kernel
theorem dX11_seen_0 : decode cX11_seen 0 = .ok (.iload_n 2, 1) := by decide +kernel
theorem dX11_seen_1 : decode cX11_seen 1 = .ok (.invokestatic 72, 3) := by decide +kernel
theorem dX11_seen_4 : decode cX11_seen 4 = .ok (.ifCond .ne 24, 3) := by decide +kernel
theorem dX11_seen_7 : decode cX11_seen 7 = .ok (.iload_n 3, 1) := by decide +kernel
theorem dX11_seen_8 : decode cX11_seen 8 = .ok (.invokestatic 72, 3) := by decide +kernel
theorem dX11_seen_11 : decode cX11_seen 11 = .ok (.ifCond .ne 17, 3) := by decide +kernel
theorem dX11_seen_14 : decode cX11_seen 14 = .ok (.aload_n 0, 1) := by decide +kernel
theorem dX11_seen_15 : decode cX11_seen 15 = .ok (.getfield 12, 3) := by decide +kernel
theorem dX11_seen_18 : decode cX11_seen 18 = .ok (.getfield 43, 3) := by decide +kernel
theorem dX11_seen_21 : decode cX11_seen 21 = .ok (.iload_n 1, 1) := by decide +kernel
theorem dX11_seen_22 : decode cX11_seen 22 = .ok (.invokevirtual 90, 3) := by decide +kernel
theorem dX11_seen_25 : decode cX11_seen 25 = .ok (.ifCond .eq 5, 3) := by decide +kernel
theorem dX11_seen_28 : decode cX11_seen 28 = .ok (.iconst (-1), 1) := by decide +kernel
theorem dX11_seen_29 : decode cX11_seen 29 = .ok (.ireturn, 1) := by decide +kernel
theorem dX11_sees_0 : decode cX11_sees 0 = .ok (.iload_n 1, 1) := by decide +kernel
theorem dX11_sees_1 : decode cX11_sees 1 = .ok (.iconst 0, 1) := by decide +kernel
theorem dX11_sees_2 : decode cX11_sees 2 = .ok (.iconst 3, 1) := by decide +kernel
theorem dX11_sees_3 : decode cX11_sees 3 = .ok (.invokestatic 47, 3) := by decide +kernel
theorem dX11_sees_6 : decode cX11_sees 6 = .ok (.ifCond .eq 5, 3) := by decide +kernel
theorem dX11_sees_9 : decode cX11_sees 9 = .ok (.iconst (-1), 1) := by decide +kernel
theorem dX11_sees_10 : decode cX11_sees 10 = .ok (.ireturn, 1) := by decide +kernel
theorem dX11_sees_11 : decode cX11_sees 11 = .ok (.aload_n 0, 1) := by decide +kernel
theorem dX11_sees_12 : decode cX11_sees 12 = .ok (.iload_n 2, 1) := by decide +kernel
theorem dX11_sees_13 : decode cX11_sees 13 = .ok (.iload_n 3, 1) := by decide +kernel
theorem dX11_sees_14 : decode cX11_sees 14 = .ok (.iload 4, 2) := by decide +kernel
theorem dX11_sees_16 : decode cX11_sees 16 = .ok (.iload 5, 2) := by decide +kernel
theorem dX11_sees_18 : decode cX11_sees 18 = .ok (.invokevirtual 158, 3) := by decide +kernel
theorem dX11_sees_21 : decode cX11_sees 21 = .ok (.istore 6, 2) := by decide +kernel
theorem dX11_sees_23 : decode cX11_sees 23 = .ok (.iload 6, 2) := by decide +kernel
theorem dX11_sees_25 : decode cX11_sees 25 = .ok (.iconst (-1), 1) := by decide +kernel
theorem dX11_sees_26 : decode cX11_sees 26 = .ok (.if_icmp .ne 5, 3) := by decide +kernel
theorem dX11_sees_29 : decode cX11_sees 29 = .ok (.iconst (-1), 1) := by decide +kernel
theorem dX11_sees_30 : decode cX11_sees 30 = .ok (.ireturn, 1) := by decide +kernel
theorem dX11_shut_0 : decode cX11_shut 0 = .ok (.aload_n 0, 1) := by decide +kernel
theorem dX11_shut_1 : decode cX11_shut 1 = .ok (.getfield 12, 3) := by decide +kernel
theorem dX11_shut_4 : decode cX11_shut 4 = .ok (.getfield 43, 3) := by decide +kernel
theorem dX11_shut_7 : decode cX11_shut 7 = .ok (.astore_n 3, 1) := by decide +kernel
theorem dX11_shut_8 : decode cX11_shut 8 = .ok (.iload_n 2, 1) := by decide +kernel
theorem dX11_shut_9 : decode cX11_shut 9 = .ok (.invokestatic 72, 3) := by decide +kernel
theorem dX11_shut_12 : decode cX11_shut 12 = .ok (.ifCond .eq 9, 3) := by decide +kernel
theorem dX11_shut_15 : decode cX11_shut 15 = .ok (.aload_n 0, 1) := by decide +kernel
theorem dX11_shut_16 : decode cX11_shut 16 = .ok (.iconst (-1), 1) := by decide +kernel
theorem dX11_shut_17 : decode cX11_shut 17 = .ok (.invokevirtual 55, 3) := by decide +kernel
theorem dX11_shut_20 : decode cX11_shut 20 = .ok (.ireturn, 1) := by decide +kernel
theorem dX11_shut_21 : decode cX11_shut 21 = .ok (.aload_n 3, 1) := by decide +kernel
theorem dX11_shut_22 : decode cX11_shut 22 = .ok (.iload_n 1, 1) := by decide +kernel
theorem dX11_shut_23 : decode cX11_shut 23 = .ok (.invokevirtual 76, 3) := by decide +kernel
theorem dX11_shut_26 : decode cX11_shut 26 = .ok (.ifCond .eq 10, 3) := by decide +kernel
theorem dX11_shut_29 : decode cX11_shut 29 = .ok (.aload_n 0, 1) := by decide +kernel
theorem dX11_shut_30 : decode cX11_shut 30 = .ok (.bipush (-2), 2) := by decide +kernel
theorem dX11_shut_32 : decode cX11_shut 32 = .ok (.invokevirtual 55, 3) := by decide +kernel
theorem dX11_shut_35 : decode cX11_shut 35 = .ok (.ireturn, 1) := by decide +kernel
theorem dX11_stands_0 : decode cX11_stands 0 = .ok (.iload_n 2, 1) := by decide +kernel
theorem dX11_stands_1 : decode cX11_stands 1 = .ok (.invokestatic 220, 3) := by decide +kernel
theorem dX11_stands_4 : decode cX11_stands 4 = .ok (.ifCond .ne 24, 3) := by decide +kernel
theorem dX11_stands_7 : decode cX11_stands 7 = .ok (.iload_n 3, 1) := by decide +kernel
theorem dX11_stands_8 : decode cX11_stands 8 = .ok (.invokestatic 72, 3) := by decide +kernel
theorem dX11_stands_11 : decode cX11_stands 11 = .ok (.ifCond .ne 17, 3) := by decide +kernel
theorem dX11_stands_14 : decode cX11_stands 14 = .ok (.aload_n 0, 1) := by decide +kernel
theorem dX11_stands_15 : decode cX11_stands 15 = .ok (.getfield 12, 3) := by decide +kernel
theorem dX11_stands_18 : decode cX11_stands 18 = .ok (.getfield 43, 3) := by decide +kernel
theorem dX11_stands_21 : decode cX11_stands 21 = .ok (.iload_n 1, 1) := by decide +kernel
theorem dX11_stands_22 : decode cX11_stands 22 = .ok (.invokevirtual 90, 3) := by decide +kernel
theorem dX11_stands_25 : decode cX11_stands 25 = .ok (.ifCond .eq 5, 3) := by decide +kernel
theorem dX11_stands_28 : decode cX11_stands 28 = .ok (.iconst (-1), 1) := by decide +kernel
theorem dX11_stands_29 : decode cX11_stands 29 = .ok (.ireturn, 1) := by decide +kernel
theorem dX11_status_0 : decode cX11_status 0 = .ok (.aload_n 0, 1) := by decide +kernel
theorem dX11_status_1 : decode cX11_status 1 = .ok (.getfield 383, 3) := by decide +kernel
theorem dX11_status_4 : decode cX11_status 4 = .ok (.ireturn, 1) := by decide +kernel
theorem dX11_take_0 : decode cX11_take 0 = .ok (.aload_n 0, 1) := by decide +kernel
theorem dX11_take_1 : decode cX11_take 1 = .ok (.getfield 12, 3) := by decide +kernel
theorem dX11_take_4 : decode cX11_take 4 = .ok (.getfield 230, 3) := by decide +kernel
theorem dX11_take_7 : decode cX11_take 7 = .ok (.astore 4, 2) := by decide +kernel
theorem dX11_take_9 : decode cX11_take 9 = .ok (.iload_n 2, 1) := by decide +kernel
theorem dX11_take_10 : decode cX11_take 10 = .ok (.invokestatic 220, 3) := by decide +kernel
theorem dX11_take_13 : decode cX11_take 13 = .ok (.ifCond .ne 10, 3) := by decide +kernel
theorem dX11_take_16 : decode cX11_take 16 = .ok (.iload_n 3, 1) := by decide +kernel
theorem dX11_take_17 : decode cX11_take 17 = .ok (.invokestatic 72, 3) := by decide +kernel
theorem dX11_take_20 : decode cX11_take 20 = .ok (.ifCond .eq 9, 3) := by decide +kernel
theorem dX11_take_23 : decode cX11_take 23 = .ok (.aload_n 0, 1) := by decide +kernel
theorem dX11_take_24 : decode cX11_take 24 = .ok (.iconst (-1), 1) := by decide +kernel
theorem dX11_take_25 : decode cX11_take 25 = .ok (.invokevirtual 55, 3) := by decide +kernel
theorem dX11_take_28 : decode cX11_take 28 = .ok (.ireturn, 1) := by decide +kernel
theorem dX11_take_29 : decode cX11_take 29 = .ok (.aload_n 0, 1) := by decide +kernel
theorem dX11_take_30 : decode cX11_take 30 = .ok (.getfield 12, 3) := by decide +kernel
theorem dX11_take_33 : decode cX11_take 33 = .ok (.getfield 43, 3) := by decide +kernel
theorem dX11_take_36 : decode cX11_take 36 = .ok (.iload_n 1, 1) := by decide +kernel
theorem dX11_take_37 : decode cX11_take 37 = .ok (.invokevirtual 90, 3) := by decide +kernel
theorem dX11_take_40 : decode cX11_take 40 = .ok (.ifCond .eq 10, 3) := by decide +kernel
theorem dX11_take_43 : decode cX11_take 43 = .ok (.aload_n 0, 1) := by decide +kernel
theorem dX11_take_44 : decode cX11_take 44 = .ok (.bipush (-2), 2) := by decide +kernel
theorem dX11_take_46 : decode cX11_take 46 = .ok (.invokevirtual 55, 3) := by decide +kernel
theorem dX11_take_49 : decode cX11_take 49 = .ok (.ireturn, 1) := by decide +kernel
theorem dX11_tells_0 : decode cX11_tells 0 = .ok (.iload 5, 2) := by decide +kernel
theorem dX11_tells_2 : decode cX11_tells 2 = .ok (.iconst 0, 1) := by decide +kernel
theorem dX11_tells_3 : decode cX11_tells 3 = .ok (.iconst 4, 1) := by decide +kernel
theorem dX11_tells_4 : decode cX11_tells 4 = .ok (.invokestatic 47, 3) := by decide +kernel
theorem dX11_tells_7 : decode cX11_tells 7 = .ok (.ifCond .eq 5, 3) := by decide +kernel
theorem dX11_tells_10 : decode cX11_tells 10 = .ok (.iconst (-1), 1) := by decide +kernel
theorem dX11_tells_11 : decode cX11_tells 11 = .ok (.ireturn, 1) := by decide +kernel
theorem dX11_tells_12 : decode cX11_tells 12 = .ok (.aload_n 0, 1) := by decide +kernel
theorem dX11_tells_13 : decode cX11_tells 13 = .ok (.iload_n 1, 1) := by decide +kernel
theorem dX11_tells_14 : decode cX11_tells 14 = .ok (.iload_n 2, 1) := by decide +kernel
theorem dX11_tells_15 : decode cX11_tells 15 = .ok (.iload_n 3, 1) := by decide +kernel
theorem dX11_tells_16 : decode cX11_tells 16 = .ok (.iload 4, 2) := by decide +kernel
theorem dX11_tells_18 : decode cX11_tells 18 = .ok (.invokevirtual 158, 3) := by decide +kernel
theorem dX11_tells_21 : decode cX11_tells 21 = .ok (.istore 6, 2) := by decide +kernel
theorem dX11_tells_23 : decode cX11_tells 23 = .ok (.iload 6, 2) := by decide +kernel
theorem dX11_tells_25 : decode cX11_tells 25 = .ok (.iconst (-1), 1) := by decide +kernel
theorem dX11_tells_26 : decode cX11_tells 26 = .ok (.if_icmp .eq 8, 3) := by decide +kernel
theorem dX11_tells_34 : decode cX11_tells 34 = .ok (.iload 6, 2) := by decide +kernel
theorem dX11_tells_36 : decode cX11_tells 36 = .ok (.ireturn, 1) := by decide +kernel
theorem dX11_visit_0 : decode cX11_visit 0 = .ok (.aload_n 0, 1) := by decide +kernel
theorem dX11_visit_1 : decode cX11_visit 1 = .ok (.getfield 12, 3) := by decide +kernel
theorem dX11_visit_4 : decode cX11_visit 4 = .ok (.getfield 263, 3) := by decide +kernel
theorem dX11_visit_7 : decode cX11_visit 7 = .ok (.astore 4, 2) := by decide +kernel
theorem dX11_visit_9 : decode cX11_visit 9 = .ok (.iload_n 2, 1) := by decide +kernel
theorem dX11_visit_10 : decode cX11_visit 10 = .ok (.iconst 1, 1) := by decide +kernel
theorem dX11_visit_11 : decode cX11_visit 11 = .ok (.sipush 200, 3) := by decide +kernel
theorem dX11_visit_14 : decode cX11_visit 14 = .ok (.invokestatic 47, 3) := by decide +kernel
theorem dX11_visit_17 : decode cX11_visit 17 = .ok (.ifCond .ne 14, 3) := by decide +kernel
theorem dX11_visit_20 : decode cX11_visit 20 = .ok (.iload_n 3, 1) := by decide +kernel
theorem dX11_visit_21 : decode cX11_visit 21 = .ok (.iconst 1, 1) := by decide +kernel
theorem dX11_visit_22 : decode cX11_visit 22 = .ok (.sipush 1000, 3) := by decide +kernel
theorem dX11_visit_25 : decode cX11_visit 25 = .ok (.invokestatic 47, 3) := by decide +kernel
theorem dX11_visit_28 : decode cX11_visit 28 = .ok (.ifCond .eq 9, 3) := by decide +kernel
theorem dX11_visit_31 : decode cX11_visit 31 = .ok (.aload_n 0, 1) := by decide +kernel
theorem dX11_visit_32 : decode cX11_visit 32 = .ok (.iconst (-1), 1) := by decide +kernel
theorem dX11_visit_33 : decode cX11_visit 33 = .ok (.invokevirtual 55, 3) := by decide +kernel
theorem dX11_visit_36 : decode cX11_visit 36 = .ok (.ireturn, 1) := by decide +kernel
theorem dX11_visit_37 : decode cX11_visit 37 = .ok (.aload_n 0, 1) := by decide +kernel
theorem dX11_visit_38 : decode cX11_visit 38 = .ok (.getfield 12, 3) := by decide +kernel
theorem dX11_visit_41 : decode cX11_visit 41 = .ok (.getfield 43, 3) := by decide +kernel
theorem dX11_visit_44 : decode cX11_visit 44 = .ok (.iload_n 1, 1) := by decide +kernel
theorem dX11_visit_45 : decode cX11_visit 45 = .ok (.invokevirtual 90, 3) := by decide +kernel
theorem dX11_visit_48 : decode cX11_visit 48 = .ok (.ifCond .eq 10, 3) := by decide +kernel
theorem dX11_visit_51 : decode cX11_visit 51 = .ok (.aload_n 0, 1) := by decide +kernel
theorem dX11_visit_52 : decode cX11_visit 52 = .ok (.bipush (-2), 2) := by decide +kernel
theorem dX11_visit_54 : decode cX11_visit 54 = .ok (.invokevirtual 55, 3) := by decide +kernel
theorem dX11_visit_57 : decode cX11_visit 57 = .ok (.ireturn, 1) := by decide +kernel
theorem dX12_act_0 : decode cX12_act 0 = .ok (.aload_n 0, 1) := by decide +kernel
theorem dX12_act_1 : decode cX12_act 1 = .ok (.iconst 0, 1) := by decide +kernel
theorem dX12_act_2 : decode cX12_act 2 = .ok (.putfield 92, 3) := by decide +kernel
theorem dX12_act_5 : decode cX12_act 5 = .ok (.iload_n 1, 1) := by decide +kernel
theorem dX12_act_6 : decode cX12_act 6 = .ok (.invokestatic 127, 3) := by decide +kernel
theorem dX12_act_9 : decode cX12_act 9 = .ok (.ifCond .eq 14, 3) := by decide +kernel
theorem dX12_act_12 : decode cX12_act 12 = .ok (.aload_n 0, 1) := by decide +kernel
theorem dX12_act_13 : decode cX12_act 13 = .ok (.getfield 7, 3) := by decide +kernel
theorem dX12_act_16 : decode cX12_act 16 = .ok (.iconst 4, 1) := by decide +kernel
theorem dX12_act_17 : decode cX12_act 17 = .ok (.iaload, 1) := by decide +kernel
theorem dX12_act_18 : decode cX12_act 18 = .ok (.bipush 20, 2) := by decide +kernel
theorem dX12_act_20 : decode cX12_act 20 = .ok (.if_icmp .ne 26, 3) := by decide +kernel
theorem dX12_act_23 : decode cX12_act 23 = .ok (.aload_n 0, 1) := by decide +kernel
theorem dX12_act_24 : decode cX12_act 24 = .ok (.iconst 0, 1) := by decide +kernel
theorem dX12_act_25 : decode cX12_act 25 = .ok (.putfield 193, 3) := by decide +kernel
theorem dX12_act_28 : decode cX12_act 28 = .ok (.aload_n 0, 1) := by decide +kernel
theorem dX12_act_29 : decode cX12_act 29 = .ok (.iload_n 1, 1) := by decide +kernel
theorem dX12_act_30 : decode cX12_act 30 = .ok (.invokestatic 127, 3) := by decide +kernel
theorem dX12_act_33 : decode cX12_act 33 = .ok (.ifCond .eq 8, 3) := by decide +kernel
theorem dX12_act_36 : decode cX12_act 36 = .ok (.bipush (-5), 2) := by decide +kernel
theorem dX12_act_38 : decode cX12_act 38 = .ok (.goto 4, 3) := by decide +kernel
theorem dX12_act_41 : decode cX12_act 41 = .ok (.iconst (-1), 1) := by decide +kernel
theorem dX12_act_42 : decode cX12_act 42 = .ok (.invokevirtual 106, 3) := by decide +kernel
theorem dX12_act_45 : decode cX12_act 45 = .ok (.ireturn, 1) := by decide +kernel
theorem dX12_act_46 : decode cX12_act 46 = .ok (.aload_n 0, 1) := by decide +kernel
theorem dX12_act_47 : decode cX12_act 47 = .ok (.iload_n 1, 1) := by decide +kernel
theorem dX12_act_48 : decode cX12_act 48 = .ok (.invokevirtual 406, 3) := by decide +kernel
theorem dX12_act_51 : decode cX12_act 51 = .ok (.istore_n 2, 1) := by decide +kernel
theorem dX12_act_52 : decode cX12_act 52 = .ok (.aload_n 0, 1) := by decide +kernel
theorem dX12_act_53 : decode cX12_act 53 = .ok (.iconst 0, 1) := by decide +kernel
theorem dX12_act_54 : decode cX12_act 54 = .ok (.putfield 193, 3) := by decide +kernel
theorem dX12_act_57 : decode cX12_act 57 = .ok (.aload_n 0, 1) := by decide +kernel
theorem dX12_act_58 : decode cX12_act 58 = .ok (.iload_n 2, 1) := by decide +kernel
theorem dX12_act_59 : decode cX12_act 59 = .ok (.ifCond .eq 14, 3) := by decide +kernel
theorem dX12_act_73 : decode cX12_act 73 = .ok (.bipush (-6), 2) := by decide +kernel
theorem dX12_act_75 : decode cX12_act 75 = .ok (.invokevirtual 106, 3) := by decide +kernel
theorem dX12_act_78 : decode cX12_act 78 = .ok (.ireturn, 1) := by decide +kernel
theorem dX12_addDay_0 : decode cX12_addDay 0 = .ok (.aload_n 0, 1) := by decide +kernel
theorem dX12_addDay_1 : decode cX12_addDay 1 = .ok (.iconst 0, 1) := by decide +kernel
theorem dX12_addDay_2 : decode cX12_addDay 2 = .ok (.putfield 549, 3) := by decide +kernel
theorem dX12_addDay_5 : decode cX12_addDay 5 = .ok (.aload_n 0, 1) := by decide +kernel
theorem dX12_addDay_6 : decode cX12_addDay 6 = .ok (.iconst 0, 1) := by decide +kernel
theorem dX12_addDay_7 : decode cX12_addDay 7 = .ok (.putfield 552, 3) := by decide +kernel
theorem dX12_addDay_10 : decode cX12_addDay 10 = .ok (.aload_n 0, 1) := by decide +kernel
theorem dX12_addDay_11 : decode cX12_addDay 11 = .ok (.iconst 0, 1) := by decide +kernel
theorem dX12_addDay_12 : decode cX12_addDay 12 = .ok (.putfield 555, 3) := by decide +kernel
theorem dX12_addDay_15 : decode cX12_addDay 15 = .ok (.iconst 0, 1) := by decide +kernel
theorem dX12_addDay_16 : decode cX12_addDay 16 = .ok (.istore_n 2, 1) := by decide +kernel
theorem dX12_addDay_17 : decode cX12_addDay 17 = .ok (.iload_n 2, 1) := by decide +kernel
theorem dX12_addDay_18 : decode cX12_addDay 18 = .ok (.aload_n 0, 1) := by decide +kernel
theorem dX12_addDay_19 : decode cX12_addDay 19 = .ok (.getfield 7, 3) := by decide +kernel
theorem dX12_addDay_22 : decode cX12_addDay 22 = .ok (.iconst 3, 1) := by decide +kernel
theorem dX12_addDay_23 : decode cX12_addDay 23 = .ok (.iaload, 1) := by decide +kernel
theorem dX12_addDay_24 : decode cX12_addDay 24 = .ok (.if_icmp .ge 81, 3) := by decide +kernel
theorem dX12_addDay_105 : decode cX12_addDay 105 = .ok (.return_, 1) := by decide +kernel
theorem dX12_addFour_0 : decode cX12_addFour 0 = .ok (.aload_n 0, 1) := by decide +kernel
theorem dX12_addFour_1 : decode cX12_addFour 1 = .ok (.getfield 7, 3) := by decide +kernel
theorem dX12_addFour_4 : decode cX12_addFour 4 = .ok (.iload_n 1, 1) := by decide +kernel
theorem dX12_addFour_5 : decode cX12_addFour 5 = .ok (.iload_n 2, 1) := by decide +kernel
theorem dX12_addFour_6 : decode cX12_addFour 6 = .ok (.iastore, 1) := by decide +kernel
theorem dX12_addFour_7 : decode cX12_addFour 7 = .ok (.aload_n 0, 1) := by decide +kernel
theorem dX12_addFour_8 : decode cX12_addFour 8 = .ok (.getfield 7, 3) := by decide +kernel
theorem dX12_addFour_11 : decode cX12_addFour 11 = .ok (.iload_n 1, 1) := by decide +kernel
theorem dX12_addFour_12 : decode cX12_addFour 12 = .ok (.iconst 1, 1) := by decide +kernel
theorem dX12_addFour_13 : decode cX12_addFour 13 = .ok (.iadd, 1) := by decide +kernel
theorem dX12_addFour_14 : decode cX12_addFour 14 = .ok (.iload_n 3, 1) := by decide +kernel
theorem dX12_addFour_15 : decode cX12_addFour 15 = .ok (.iastore, 1) := by decide +kernel
theorem dX12_addFour_16 : decode cX12_addFour 16 = .ok (.aload_n 0, 1) := by decide +kernel
theorem dX12_addFour_17 : decode cX12_addFour 17 = .ok (.getfield 7, 3) := by decide +kernel
theorem dX12_addFour_20 : decode cX12_addFour 20 = .ok (.iload_n 1, 1) := by decide +kernel
theorem dX12_addFour_21 : decode cX12_addFour 21 = .ok (.iconst 2, 1) := by decide +kernel
theorem dX12_addFour_22 : decode cX12_addFour 22 = .ok (.iadd, 1) := by decide +kernel
theorem dX12_addFour_23 : decode cX12_addFour 23 = .ok (.iload 4, 2) := by decide +kernel
theorem dX12_addFour_25 : decode cX12_addFour 25 = .ok (.iastore, 1) := by decide +kernel
theorem dX12_addFour_26 : decode cX12_addFour 26 = .ok (.aload_n 0, 1) := by decide +kernel
theorem dX12_addFour_27 : decode cX12_addFour 27 = .ok (.getfield 7, 3) := by decide +kernel
theorem dX12_addFour_30 : decode cX12_addFour 30 = .ok (.iload_n 1, 1) := by decide +kernel
theorem dX12_addFour_31 : decode cX12_addFour 31 = .ok (.iconst 3, 1) := by decide +kernel
theorem dX12_addFour_32 : decode cX12_addFour 32 = .ok (.iadd, 1) := by decide +kernel
theorem dX12_addFour_33 : decode cX12_addFour 33 = .ok (.iload 5, 2) := by decide +kernel
theorem dX12_addFour_35 : decode cX12_addFour 35 = .ok (.iastore, 1) := by decide +kernel
theorem dX12_addFour_36 : decode cX12_addFour 36 = .ok (.return_, 1) := by decide +kernel
theorem dX12_alter_0 : decode cX12_alter 0 = .ok (.aload_n 0, 1) := by decide +kernel
theorem dX12_alter_1 : decode cX12_alter 1 = .ok (.iconst 0, 1) := by decide +kernel
theorem dX12_alter_2 : decode cX12_alter 2 = .ok (.putfield 92, 3) := by decide +kernel
theorem dX12_alter_5 : decode cX12_alter 5 = .ok (.iload_n 2, 1) := by decide +kernel
theorem dX12_alter_6 : decode cX12_alter 6 = .ok (.i2l, 1) := by decide +kernel
theorem dX12_alter_7 : decode cX12_alter 7 = .ok (.lconst 1, 1) := by decide +kernel
theorem dX12_alter_8 : decode cX12_alter 8 = .ok (.ldc2_w 116, 3) := by decide +kernel
theorem dX12_alter_11 : decode cX12_alter 11 = .ok (.invokestatic 100, 3) := by decide +kernel
theorem dX12_alter_14 : decode cX12_alter 14 = .ok (.ifCond .ne 9, 3) := by decide +kernel
theorem dX12_alter_17 : decode cX12_alter 17 = .ok (.aload_n 0, 1) := by decide +kernel
theorem dX12_alter_18 : decode cX12_alter 18 = .ok (.iconst (-1), 1) := by decide +kernel
theorem dX12_alter_19 : decode cX12_alter 19 = .ok (.invokevirtual 106, 3) := by decide +kernel
theorem dX12_alter_22 : decode cX12_alter 22 = .ok (.ireturn, 1) := by decide +kernel
theorem dX12_alter_23 : decode cX12_alter 23 = .ok (.aload_n 0, 1) := by decide +kernel
theorem dX12_alter_24 : decode cX12_alter 24 = .ok (.iload_n 1, 1) := by decide +kernel
theorem dX12_alter_25 : decode cX12_alter 25 = .ok (.invokevirtual 158, 3) := by decide +kernel
theorem dX12_alter_28 : decode cX12_alter 28 = .ok (.ifCond .ne 10, 3) := by decide +kernel
theorem dX12_alter_31 : decode cX12_alter 31 = .ok (.aload_n 0, 1) := by decide +kernel
theorem dX12_alter_32 : decode cX12_alter 32 = .ok (.bipush (-2), 2) := by decide +kernel
theorem dX12_alter_34 : decode cX12_alter 34 = .ok (.invokevirtual 106, 3) := by decide +kernel
theorem dX12_alter_37 : decode cX12_alter 37 = .ok (.ireturn, 1) := by decide +kernel
theorem dX12_appeal_0 : decode cX12_appeal 0 = .ok (.aload_n 0, 1) := by decide +kernel
theorem dX12_appeal_1 : decode cX12_appeal 1 = .ok (.iconst 0, 1) := by decide +kernel
theorem dX12_appeal_2 : decode cX12_appeal 2 = .ok (.putfield 92, 3) := by decide +kernel
theorem dX12_appeal_5 : decode cX12_appeal 5 = .ok (.iload_n 2, 1) := by decide +kernel
theorem dX12_appeal_6 : decode cX12_appeal 6 = .ok (.i2l, 1) := by decide +kernel
theorem dX12_appeal_7 : decode cX12_appeal 7 = .ok (.lconst 0, 1) := by decide +kernel
theorem dX12_appeal_8 : decode cX12_appeal 8 = .ok (.ldc2_w 151, 3) := by decide +kernel
theorem dX12_appeal_11 : decode cX12_appeal 11 = .ok (.invokestatic 100, 3) := by decide +kernel
theorem dX12_appeal_14 : decode cX12_appeal 14 = .ok (.ifCond .eq 10, 3) := by decide +kernel
theorem dX12_appeal_17 : decode cX12_appeal 17 = .ok (.iload_n 3, 1) := by decide +kernel
theorem dX12_appeal_18 : decode cX12_appeal 18 = .ok (.invokestatic 127, 3) := by decide +kernel
theorem dX12_appeal_21 : decode cX12_appeal 21 = .ok (.ifCond .ne 9, 3) := by decide +kernel
theorem dX12_appeal_24 : decode cX12_appeal 24 = .ok (.aload_n 0, 1) := by decide +kernel
theorem dX12_appeal_25 : decode cX12_appeal 25 = .ok (.iconst (-1), 1) := by decide +kernel
theorem dX12_appeal_26 : decode cX12_appeal 26 = .ok (.invokevirtual 106, 3) := by decide +kernel
theorem dX12_appeal_29 : decode cX12_appeal 29 = .ok (.ireturn, 1) := by decide +kernel
theorem dX12_appeal_30 : decode cX12_appeal 30 = .ok (.aload_n 0, 1) := by decide +kernel
theorem dX12_appeal_31 : decode cX12_appeal 31 = .ok (.iload_n 1, 1) := by decide +kernel
theorem dX12_appeal_32 : decode cX12_appeal 32 = .ok (.invokevirtual 158, 3) := by decide +kernel
theorem dX12_appeal_35 : decode cX12_appeal 35 = .ok (.ifCond .ne 10, 3) := by decide +kernel
theorem dX12_appeal_38 : decode cX12_appeal 38 = .ok (.aload_n 0, 1) := by decide +kernel
theorem dX12_appeal_39 : decode cX12_appeal 39 = .ok (.bipush (-2), 2) := by decide +kernel
theorem dX12_appeal_41 : decode cX12_appeal 41 = .ok (.invokevirtual 106, 3) := by decide +kernel
theorem dX12_appeal_44 : decode cX12_appeal 44 = .ok (.ireturn, 1) := by decide +kernel
theorem dX12_back_0 : decode cX12_back 0 = .ok (.aload_n 0, 1) := by decide +kernel
theorem dX12_back_1 : decode cX12_back 1 = .ok (.iconst 0, 1) := by decide +kernel
theorem dX12_back_2 : decode cX12_back 2 = .ok (.putfield 92, 3) := by decide +kernel
theorem dX12_back_5 : decode cX12_back 5 = .ok (.iload_n 1, 1) := by decide +kernel
theorem dX12_back_6 : decode cX12_back 6 = .ok (.i2l, 1) := by decide +kernel
theorem dX12_back_7 : decode cX12_back 7 = .ok (.lconst 0, 1) := by decide +kernel
theorem dX12_back_8 : decode cX12_back 8 = .ok (.lconst 1, 1) := by decide +kernel
theorem dX12_back_9 : decode cX12_back 9 = .ok (.invokestatic 100, 3) := by decide +kernel
theorem dX12_back_12 : decode cX12_back 12 = .ok (.ifCond .ne 9, 3) := by decide +kernel
theorem dX12_back_15 : decode cX12_back 15 = .ok (.aload_n 0, 1) := by decide +kernel
theorem dX12_back_16 : decode cX12_back 16 = .ok (.iconst (-1), 1) := by decide +kernel
theorem dX12_back_17 : decode cX12_back 17 = .ok (.invokevirtual 106, 3) := by decide +kernel
theorem dX12_back_20 : decode cX12_back 20 = .ok (.ireturn, 1) := by decide +kernel
theorem dX12_back_21 : decode cX12_back 21 = .ok (.aload_n 0, 1) := by decide +kernel
theorem dX12_back_22 : decode cX12_back 22 = .ok (.getfield 17, 3) := by decide +kernel
theorem dX12_back_25 : decode cX12_back 25 = .ok (.iload_n 1, 1) := by decide +kernel
theorem dX12_back_26 : decode cX12_back 26 = .ok (.baload, 1) := by decide +kernel
theorem dX12_back_27 : decode cX12_back 27 = .ok (.ifCond .ne 10, 3) := by decide +kernel
theorem dX12_back_30 : decode cX12_back 30 = .ok (.aload_n 0, 1) := by decide +kernel
theorem dX12_back_31 : decode cX12_back 31 = .ok (.bipush (-2), 2) := by decide +kernel
theorem dX12_back_33 : decode cX12_back 33 = .ok (.invokevirtual 106, 3) := by decide +kernel
theorem dX12_back_36 : decode cX12_back 36 = .ok (.ireturn, 1) := by decide +kernel
theorem dX12_begin_0 : decode cX12_begin 0 = .ok (.aload_n 0, 1) := by decide +kernel
theorem dX12_begin_1 : decode cX12_begin 1 = .ok (.iconst 0, 1) := by decide +kernel
theorem dX12_begin_2 : decode cX12_begin 2 = .ok (.putfield 199, 3) := by decide +kernel
theorem dX12_begin_5 : decode cX12_begin 5 = .ok (.aload_n 0, 1) := by decide +kernel
theorem dX12_begin_6 : decode cX12_begin 6 = .ok (.iconst 0, 1) := by decide +kernel
theorem dX12_begin_7 : decode cX12_begin 7 = .ok (.putfield 202, 3) := by decide +kernel
theorem dX12_begin_10 : decode cX12_begin 10 = .ok (.aload_n 0, 1) := by decide +kernel
theorem dX12_begin_11 : decode cX12_begin 11 = .ok (.iconst (-1), 1) := by decide +kernel
theorem dX12_begin_12 : decode cX12_begin 12 = .ok (.putfield 36, 3) := by decide +kernel
theorem dX12_begin_15 : decode cX12_begin 15 = .ok (.aload_n 0, 1) := by decide +kernel
theorem dX12_begin_16 : decode cX12_begin 16 = .ok (.invokevirtual 206, 3) := by decide +kernel
theorem dX12_begin_19 : decode cX12_begin 19 = .ok (.return_, 1) := by decide +kernel
theorem dX12_beside_0 : decode cX12_beside 0 = .ok (.aload_n 0, 1) := by decide +kernel
theorem dX12_beside_1 : decode cX12_beside 1 = .ok (.iconst 0, 1) := by decide +kernel
theorem dX12_beside_2 : decode cX12_beside 2 = .ok (.putfield 92, 3) := by decide +kernel
theorem dX12_beside_5 : decode cX12_beside 5 = .ok (.iload_n 1, 1) := by decide +kernel
theorem dX12_beside_6 : decode cX12_beside 6 = .ok (.invokestatic 127, 3) := by decide +kernel
theorem dX12_beside_9 : decode cX12_beside 9 = .ok (.ifCond .eq 21, 3) := by decide +kernel
theorem dX12_beside_12 : decode cX12_beside 12 = .ok (.iload_n 2, 1) := by decide +kernel
theorem dX12_beside_13 : decode cX12_beside 13 = .ok (.invokestatic 127, 3) := by decide +kernel
theorem dX12_beside_16 : decode cX12_beside 16 = .ok (.ifCond .eq 14, 3) := by decide +kernel
theorem dX12_beside_19 : decode cX12_beside 19 = .ok (.aload_n 0, 1) := by decide +kernel
theorem dX12_beside_20 : decode cX12_beside 20 = .ok (.getfield 7, 3) := by decide +kernel
theorem dX12_beside_23 : decode cX12_beside 23 = .ok (.iconst 4, 1) := by decide +kernel
theorem dX12_beside_24 : decode cX12_beside 24 = .ok (.iaload, 1) := by decide +kernel
theorem dX12_beside_25 : decode cX12_beside 25 = .ok (.bipush 20, 2) := by decide +kernel
theorem dX12_beside_27 : decode cX12_beside 27 = .ok (.if_icmp .ne 10, 3) := by decide +kernel
theorem dX12_beside_30 : decode cX12_beside 30 = .ok (.aload_n 0, 1) := by decide +kernel
theorem dX12_beside_31 : decode cX12_beside 31 = .ok (.iconst 0, 1) := by decide +kernel
theorem dX12_beside_32 : decode cX12_beside 32 = .ok (.putfield 193, 3) := by decide +kernel
theorem dX12_beside_35 : decode cX12_beside 35 = .ok (.iconst (-1), 1) := by decide +kernel
theorem dX12_beside_36 : decode cX12_beside 36 = .ok (.ireturn, 1) := by decide +kernel
theorem dX12_beside_37 : decode cX12_beside 37 = .ok (.aload_n 0, 1) := by decide +kernel
theorem dX12_beside_38 : decode cX12_beside 38 = .ok (.iload_n 1, 1) := by decide +kernel
theorem dX12_beside_39 : decode cX12_beside 39 = .ok (.invokevirtual 406, 3) := by decide +kernel
theorem dX12_beside_42 : decode cX12_beside 42 = .ok (.istore_n 3, 1) := by decide +kernel
theorem dX12_beside_43 : decode cX12_beside 43 = .ok (.aload_n 0, 1) := by decide +kernel
theorem dX12_beside_44 : decode cX12_beside 44 = .ok (.iconst 0, 1) := by decide +kernel
theorem dX12_beside_45 : decode cX12_beside 45 = .ok (.putfield 193, 3) := by decide +kernel
theorem dX12_beside_48 : decode cX12_beside 48 = .ok (.iload_n 3, 1) := by decide +kernel
theorem dX12_beside_49 : decode cX12_beside 49 = .ok (.ifCond .ne 5, 3) := by decide +kernel
theorem dX12_beside_52 : decode cX12_beside 52 = .ok (.iconst (-1), 1) := by decide +kernel
theorem dX12_beside_53 : decode cX12_beside 53 = .ok (.ireturn, 1) := by decide +kernel
theorem dX12_cannot_0 : decode cX12_cannot 0 = .ok (.aload_n 0, 1) := by decide +kernel
theorem dX12_cannot_1 : decode cX12_cannot 1 = .ok (.iconst 0, 1) := by decide +kernel
theorem dX12_cannot_2 : decode cX12_cannot 2 = .ok (.putfield 92, 3) := by decide +kernel
theorem dX12_cannot_5 : decode cX12_cannot 5 = .ok (.iload_n 2, 1) := by decide +kernel
theorem dX12_cannot_6 : decode cX12_cannot 6 = .ok (.invokestatic 145, 3) := by decide +kernel
theorem dX12_cannot_9 : decode cX12_cannot 9 = .ok (.ifCond .eq 21, 3) := by decide +kernel
theorem dX12_cannot_12 : decode cX12_cannot 12 = .ok (.iload_n 1, 1) := by decide +kernel
theorem dX12_cannot_13 : decode cX12_cannot 13 = .ok (.i2l, 1) := by decide +kernel
theorem dX12_cannot_14 : decode cX12_cannot 14 = .ok (.lconst 0, 1) := by decide +kernel
theorem dX12_cannot_15 : decode cX12_cannot 15 = .ok (.iload_n 2, 1) := by decide +kernel
theorem dX12_cannot_16 : decode cX12_cannot 16 = .ok (.i2l, 1) := by decide +kernel
theorem dX12_cannot_17 : decode cX12_cannot 17 = .ok (.invokestatic 100, 3) := by decide +kernel
theorem dX12_cannot_20 : decode cX12_cannot 20 = .ok (.ifCond .eq 10, 3) := by decide +kernel
theorem dX12_cannot_23 : decode cX12_cannot 23 = .ok (.iload_n 3, 1) := by decide +kernel
theorem dX12_cannot_24 : decode cX12_cannot 24 = .ok (.invokestatic 127, 3) := by decide +kernel
theorem dX12_cannot_27 : decode cX12_cannot 27 = .ok (.ifCond .ne 5, 3) := by decide +kernel
theorem dX12_cannot_30 : decode cX12_cannot 30 = .ok (.iconst (-1), 1) := by decide +kernel
theorem dX12_cannot_31 : decode cX12_cannot 31 = .ok (.ireturn, 1) := by decide +kernel
theorem dX12_cannot_32 : decode cX12_cannot 32 = .ok (.aload_n 0, 1) := by decide +kernel
theorem dX12_cannot_33 : decode cX12_cannot 33 = .ok (.iload_n 3, 1) := by decide +kernel
theorem dX12_cannot_34 : decode cX12_cannot 34 = .ok (.invokevirtual 186, 3) := by decide +kernel
theorem dX12_cannot_37 : decode cX12_cannot 37 = .ok (.iconst 0, 1) := by decide +kernel
theorem dX12_cannot_38 : decode cX12_cannot 38 = .ok (.istore 5, 2) := by decide +kernel
theorem dX12_cannot_40 : decode cX12_cannot 40 = .ok (.iconst (-1), 1) := by decide +kernel
theorem dX12_cannot_41 : decode cX12_cannot 41 = .ok (.istore 6, 2) := by decide +kernel
theorem dX12_cannot_43 : decode cX12_cannot 43 = .ok (.iconst 0, 1) := by decide +kernel
theorem dX12_cannot_44 : decode cX12_cannot 44 = .ok (.istore 7, 2) := by decide +kernel
theorem dX12_cannot_46 : decode cX12_cannot 46 = .ok (.iload 7, 2) := by decide +kernel
theorem dX12_cannot_48 : decode cX12_cannot 48 = .ok (.aload_n 0, 1) := by decide +kernel
theorem dX12_cannot_49 : decode cX12_cannot 49 = .ok (.getfield 7, 3) := by decide +kernel
theorem dX12_cannot_52 : decode cX12_cannot 52 = .ok (.iconst 3, 1) := by decide +kernel
theorem dX12_cannot_53 : decode cX12_cannot 53 = .ok (.iaload, 1) := by decide +kernel
theorem dX12_cannot_54 : decode cX12_cannot 54 = .ok (.if_icmp .ge 60, 3) := by decide +kernel
theorem dX12_cannot_114 : decode cX12_cannot 114 = .ok (.iload 4, 2) := by decide +kernel
theorem dX12_cannot_116 : decode cX12_cannot 116 = .ok (.iconst (-1), 1) := by decide +kernel
theorem dX12_cannot_117 : decode cX12_cannot 117 = .ok (.if_icmp .ne 8, 3) := by decide +kernel
theorem dX12_cannot_120 : decode cX12_cannot 120 = .ok (.iload 5, 2) := by decide +kernel
theorem dX12_cannot_122 : decode cX12_cannot 122 = .ok (.goto 5, 3) := by decide +kernel
theorem dX12_cannot_125 : decode cX12_cannot 125 = .ok (.iload 6, 2) := by decide +kernel
theorem dX12_cannot_127 : decode cX12_cannot 127 = .ok (.ireturn, 1) := by decide +kernel
theorem dX12_child_0 : decode cX12_child 0 = .ok (.aload_n 0, 1) := by decide +kernel
theorem dX12_child_1 : decode cX12_child 1 = .ok (.iconst 0, 1) := by decide +kernel
theorem dX12_child_2 : decode cX12_child 2 = .ok (.putfield 92, 3) := by decide +kernel
theorem dX12_child_5 : decode cX12_child 5 = .ok (.iload_n 1, 1) := by decide +kernel
theorem dX12_child_6 : decode cX12_child 6 = .ok (.i2l, 1) := by decide +kernel
theorem dX12_child_7 : decode cX12_child 7 = .ok (.ldc2_w 110, 3) := by decide +kernel
theorem dX12_child_10 : decode cX12_child 10 = .ok (.ldc2_w 112, 3) := by decide +kernel
theorem dX12_child_13 : decode cX12_child 13 = .ok (.invokestatic 100, 3) := by decide +kernel
theorem dX12_child_16 : decode cX12_child 16 = .ok (.ifCond .eq 43, 3) := by decide +kernel
theorem dX12_child_19 : decode cX12_child 19 = .ok (.iload_n 3, 1) := by decide +kernel
theorem dX12_child_20 : decode cX12_child 20 = .ok (.i2l, 1) := by decide +kernel
theorem dX12_child_21 : decode cX12_child 21 = .ok (.ldc2_w 114, 3) := by decide +kernel
theorem dX12_child_24 : decode cX12_child 24 = .ok (.ldc2_w 116, 3) := by decide +kernel
theorem dX12_child_27 : decode cX12_child 27 = .ok (.invokestatic 100, 3) := by decide +kernel
theorem dX12_child_30 : decode cX12_child 30 = .ok (.ifCond .eq 29, 3) := by decide +kernel
theorem dX12_child_33 : decode cX12_child 33 = .ok (.iload 4, 2) := by decide +kernel
theorem dX12_child_35 : decode cX12_child 35 = .ok (.i2l, 1) := by decide +kernel
theorem dX12_child_36 : decode cX12_child 36 = .ok (.lconst 0, 1) := by decide +kernel
theorem dX12_child_37 : decode cX12_child 37 = .ok (.ldc2_w 118, 3) := by decide +kernel
theorem dX12_child_40 : decode cX12_child 40 = .ok (.invokestatic 100, 3) := by decide +kernel
theorem dX12_child_43 : decode cX12_child 43 = .ok (.ifCond .eq 16, 3) := by decide +kernel
theorem dX12_child_46 : decode cX12_child 46 = .ok (.iload 5, 2) := by decide +kernel
theorem dX12_child_48 : decode cX12_child 48 = .ok (.i2l, 1) := by decide +kernel
theorem dX12_child_49 : decode cX12_child 49 = .ok (.lconst 0, 1) := by decide +kernel
theorem dX12_child_50 : decode cX12_child 50 = .ok (.ldc2_w 118, 3) := by decide +kernel
theorem dX12_child_53 : decode cX12_child 53 = .ok (.invokestatic 100, 3) := by decide +kernel
theorem dX12_child_56 : decode cX12_child 56 = .ok (.ifCond .ne 9, 3) := by decide +kernel
theorem dX12_child_59 : decode cX12_child 59 = .ok (.aload_n 0, 1) := by decide +kernel
theorem dX12_child_60 : decode cX12_child 60 = .ok (.iconst (-1), 1) := by decide +kernel
theorem dX12_child_61 : decode cX12_child 61 = .ok (.invokevirtual 106, 3) := by decide +kernel
theorem dX12_child_64 : decode cX12_child 64 = .ok (.ireturn, 1) := by decide +kernel
theorem dX12_child_65 : decode cX12_child 65 = .ok (.aload_n 0, 1) := by decide +kernel
theorem dX12_child_66 : decode cX12_child 66 = .ok (.getfield 7, 3) := by decide +kernel
theorem dX12_child_69 : decode cX12_child 69 = .ok (.iconst 0, 1) := by decide +kernel
theorem dX12_child_70 : decode cX12_child 70 = .ok (.iaload, 1) := by decide +kernel
theorem dX12_child_71 : decode cX12_child 71 = .ok (.bipush 40, 2) := by decide +kernel
theorem dX12_child_73 : decode cX12_child 73 = .ok (.if_icmp .ne 10, 3) := by decide +kernel
theorem dX12_child_83 : decode cX12_child 83 = .ok (.aload_n 0, 1) := by decide +kernel
theorem dX12_child_84 : decode cX12_child 84 = .ok (.getfield 7, 3) := by decide +kernel
theorem dX12_child_87 : decode cX12_child 87 = .ok (.iconst 0, 1) := by decide +kernel
theorem dX12_child_88 : decode cX12_child 88 = .ok (.iaload, 1) := by decide +kernel
theorem dX12_child_89 : decode cX12_child 89 = .ok (.invokestatic 120, 3) := by decide +kernel
theorem dX12_child_92 : decode cX12_child 92 = .ok (.istore 6, 2) := by decide +kernel
theorem dX12_child_94 : decode cX12_child 94 = .ok (.aload_n 0, 1) := by decide +kernel
theorem dX12_child_95 : decode cX12_child 95 = .ok (.iload 6, 2) := by decide +kernel
theorem dX12_child_97 : decode cX12_child 97 = .ok (.iload_n 1, 1) := by decide +kernel
theorem dX12_child_98 : decode cX12_child 98 = .ok (.iload_n 2, 1) := by decide +kernel
theorem dX12_child_99 : decode cX12_child 99 = .ok (.ifCond .eq 7, 3) := by decide +kernel
theorem dX12_child_102 : decode cX12_child 102 = .ok (.iconst 1, 1) := by decide +kernel
theorem dX12_child_103 : decode cX12_child 103 = .ok (.goto 4, 3) := by decide +kernel
theorem dX12_child_106 : decode cX12_child 106 = .ok (.iconst 0, 1) := by decide +kernel
theorem dX12_child_107 : decode cX12_child 107 = .ok (.iload_n 3, 1) := by decide +kernel
theorem dX12_child_108 : decode cX12_child 108 = .ok (.iload 4, 2) := by decide +kernel
theorem dX12_child_110 : decode cX12_child 110 = .ok (.invokevirtual 123, 3) := by decide +kernel
theorem dX12_child_113 : decode cX12_child 113 = .ok (.aload_n 0, 1) := by decide +kernel
theorem dX12_child_114 : decode cX12_child 114 = .ok (.getfield 7, 3) := by decide +kernel
theorem dX12_child_117 : decode cX12_child 117 = .ok (.iload 6, 2) := by decide +kernel
theorem dX12_child_119 : decode cX12_child 119 = .ok (.iconst 4, 1) := by decide +kernel
theorem dX12_child_120 : decode cX12_child 120 = .ok (.iadd, 1) := by decide +kernel
theorem dX12_child_121 : decode cX12_child 121 = .ok (.iload 5, 2) := by decide +kernel
theorem dX12_child_123 : decode cX12_child 123 = .ok (.iastore, 1) := by decide +kernel
theorem dX12_child_124 : decode cX12_child 124 = .ok (.iconst 5, 1) := by decide +kernel
theorem dX12_child_125 : decode cX12_child 125 = .ok (.istore 7, 2) := by decide +kernel
theorem dX12_child_127 : decode cX12_child 127 = .ok (.iload 7, 2) := by decide +kernel
theorem dX12_child_129 : decode cX12_child 129 = .ok (.bipush 17, 2) := by decide +kernel
theorem dX12_child_131 : decode cX12_child 131 = .ok (.if_icmp .ge 31, 3) := by decide +kernel
theorem dX12_child_134 : decode cX12_child 134 = .ok (.aload_n 0, 1) := by decide +kernel
theorem dX12_child_135 : decode cX12_child 135 = .ok (.getfield 7, 3) := by decide +kernel
theorem dX12_child_138 : decode cX12_child 138 = .ok (.iload 6, 2) := by decide +kernel
theorem dX12_child_140 : decode cX12_child 140 = .ok (.iload 7, 2) := by decide +kernel
theorem dX12_child_142 : decode cX12_child 142 = .ok (.iadd, 1) := by decide +kernel
theorem dX12_child_143 : decode cX12_child 143 = .ok (.iload 7, 2) := by decide +kernel
theorem dX12_child_145 : decode cX12_child 145 = .ok (.bipush 13, 2) := by decide +kernel
theorem dX12_child_147 : decode cX12_child 147 = .ok (.if_icmp .ge 7, 3) := by decide +kernel
theorem dX12_child_150 : decode cX12_child 150 = .ok (.iconst (-1), 1) := by decide +kernel
theorem dX12_child_151 : decode cX12_child 151 = .ok (.goto 4, 3) := by decide +kernel
theorem dX12_child_154 : decode cX12_child 154 = .ok (.iconst 0, 1) := by decide +kernel
theorem dX12_child_155 : decode cX12_child 155 = .ok (.iastore, 1) := by decide +kernel
theorem dX12_child_156 : decode cX12_child 156 = .ok (.iinc 7 1, 3) := by decide +kernel
theorem dX12_child_159 : decode cX12_child 159 = .ok (.goto (-32), 3) := by decide +kernel
theorem dX12_child_162 : decode cX12_child 162 = .ok (.aload_n 0, 1) := by decide +kernel
theorem dX12_child_163 : decode cX12_child 163 = .ok (.getfield 7, 3) := by decide +kernel
theorem dX12_child_166 : decode cX12_child 166 = .ok (.iconst 0, 1) := by decide +kernel
theorem dX12_child_167 : decode cX12_child 167 = .ok (.dup2, 1) := by decide +kernel
theorem dX12_child_168 : decode cX12_child 168 = .ok (.iaload, 1) := by decide +kernel
theorem dX12_child_169 : decode cX12_child 169 = .ok (.iconst 1, 1) := by decide +kernel
theorem dX12_child_170 : decode cX12_child 170 = .ok (.iadd, 1) := by decide +kernel
theorem dX12_child_171 : decode cX12_child 171 = .ok (.iastore, 1) := by decide +kernel
theorem dX12_child_172 : decode cX12_child 172 = .ok (.aload_n 0, 1) := by decide +kernel
theorem dX12_child_173 : decode cX12_child 173 = .ok (.aload_n 0, 1) := by decide +kernel
theorem dX12_child_174 : decode cX12_child 174 = .ok (.getfield 7, 3) := by decide +kernel
theorem dX12_child_177 : decode cX12_child 177 = .ok (.iconst 0, 1) := by decide +kernel
theorem dX12_child_178 : decode cX12_child 178 = .ok (.iaload, 1) := by decide +kernel
theorem dX12_child_179 : decode cX12_child 179 = .ok (.iconst 1, 1) := by decide +kernel
theorem dX12_child_180 : decode cX12_child 180 = .ok (.isub, 1) := by decide +kernel
theorem dX12_child_181 : decode cX12_child 181 = .ok (.invokevirtual 106, 3) := by decide +kernel
theorem dX12_child_184 : decode cX12_child 184 = .ok (.ireturn, 1) := by decide +kernel
theorem dX12_childAt_0 : decode cX12_childAt 0 = .ok (.bipush 20, 2) := by decide +kernel
theorem dX12_childAt_2 : decode cX12_childAt 2 = .ok (.bipush 17, 2) := by decide +kernel
theorem dX12_childAt_4 : decode cX12_childAt 4 = .ok (.iload_n 0, 1) := by decide +kernel
theorem dX12_childAt_5 : decode cX12_childAt 5 = .ok (.imul, 1) := by decide +kernel
theorem dX12_childAt_6 : decode cX12_childAt 6 = .ok (.iadd, 1) := by decide +kernel
theorem dX12_childAt_7 : decode cX12_childAt 7 = .ok (.ireturn, 1) := by decide +kernel
theorem dX12_comes_0 : decode cX12_comes 0 = .ok (.aload_n 0, 1) := by decide +kernel
theorem dX12_comes_1 : decode cX12_comes 1 = .ok (.iconst 0, 1) := by decide +kernel
theorem dX12_comes_2 : decode cX12_comes 2 = .ok (.putfield 92, 3) := by decide +kernel
theorem dX12_comes_5 : decode cX12_comes 5 = .ok (.iload_n 3, 1) := by decide +kernel
theorem dX12_comes_6 : decode cX12_comes 6 = .ok (.invokestatic 127, 3) := by decide +kernel
theorem dX12_comes_9 : decode cX12_comes 9 = .ok (.ifCond .ne 9, 3) := by decide +kernel
theorem dX12_comes_12 : decode cX12_comes 12 = .ok (.aload_n 0, 1) := by decide +kernel
theorem dX12_comes_13 : decode cX12_comes 13 = .ok (.iconst (-1), 1) := by decide +kernel
theorem dX12_comes_14 : decode cX12_comes 14 = .ok (.invokevirtual 106, 3) := by decide +kernel
theorem dX12_comes_17 : decode cX12_comes 17 = .ok (.ireturn, 1) := by decide +kernel
theorem dX12_comes_18 : decode cX12_comes 18 = .ok (.aload_n 0, 1) := by decide +kernel
theorem dX12_comes_19 : decode cX12_comes 19 = .ok (.iload_n 1, 1) := by decide +kernel
theorem dX12_comes_20 : decode cX12_comes 20 = .ok (.invokevirtual 138, 3) := by decide +kernel
theorem dX12_comes_23 : decode cX12_comes 23 = .ok (.ifCond .eq 11, 3) := by decide +kernel
theorem dX12_comes_34 : decode cX12_comes 34 = .ok (.aload_n 0, 1) := by decide +kernel
theorem dX12_comes_35 : decode cX12_comes 35 = .ok (.bipush (-2), 2) := by decide +kernel
theorem dX12_comes_37 : decode cX12_comes 37 = .ok (.invokevirtual 106, 3) := by decide +kernel
theorem dX12_comes_40 : decode cX12_comes 40 = .ok (.ireturn, 1) := by decide +kernel
theorem dX12_count_0 : decode cX12_count 0 = .ok (.aload_n 0, 1) := by decide +kernel
theorem dX12_count_1 : decode cX12_count 1 = .ok (.iconst 0, 1) := by decide +kernel
theorem dX12_count_2 : decode cX12_count 2 = .ok (.putfield 92, 3) := by decide +kernel
theorem dX12_count_5 : decode cX12_count 5 = .ok (.iload_n 1, 1) := by decide +kernel
theorem dX12_count_6 : decode cX12_count 6 = .ok (.tableswitch 125 0 9 #[54, 61, 68, 75, 82, 89, 96, 104, 112, 120], 54) := by decide +kernel
theorem dX12_count_60 : decode cX12_count 60 = .ok (.aload_n 0, 1) := by decide +kernel
theorem dX12_count_61 : decode cX12_count 61 = .ok (.getfield 7, 3) := by decide +kernel
theorem dX12_count_64 : decode cX12_count 64 = .ok (.iconst 0, 1) := by decide +kernel
theorem dX12_count_65 : decode cX12_count 65 = .ok (.iaload, 1) := by decide +kernel
theorem dX12_count_66 : decode cX12_count 66 = .ok (.ireturn, 1) := by decide +kernel
theorem dX12_count_67 : decode cX12_count 67 = .ok (.aload_n 0, 1) := by decide +kernel
theorem dX12_count_68 : decode cX12_count 68 = .ok (.getfield 7, 3) := by decide +kernel
theorem dX12_count_71 : decode cX12_count 71 = .ok (.iconst 1, 1) := by decide +kernel
theorem dX12_count_72 : decode cX12_count 72 = .ok (.iaload, 1) := by decide +kernel
theorem dX12_count_73 : decode cX12_count 73 = .ok (.ireturn, 1) := by decide +kernel
theorem dX12_count_74 : decode cX12_count 74 = .ok (.aload_n 0, 1) := by decide +kernel
theorem dX12_count_75 : decode cX12_count 75 = .ok (.getfield 7, 3) := by decide +kernel
theorem dX12_count_78 : decode cX12_count 78 = .ok (.iconst 2, 1) := by decide +kernel
theorem dX12_count_79 : decode cX12_count 79 = .ok (.iaload, 1) := by decide +kernel
theorem dX12_count_80 : decode cX12_count 80 = .ok (.ireturn, 1) := by decide +kernel
theorem dX12_count_81 : decode cX12_count 81 = .ok (.aload_n 0, 1) := by decide +kernel
theorem dX12_count_82 : decode cX12_count 82 = .ok (.getfield 7, 3) := by decide +kernel
theorem dX12_count_85 : decode cX12_count 85 = .ok (.iconst 3, 1) := by decide +kernel
theorem dX12_count_86 : decode cX12_count 86 = .ok (.iaload, 1) := by decide +kernel
theorem dX12_count_87 : decode cX12_count 87 = .ok (.ireturn, 1) := by decide +kernel
theorem dX12_count_88 : decode cX12_count 88 = .ok (.aload_n 0, 1) := by decide +kernel
theorem dX12_count_89 : decode cX12_count 89 = .ok (.getfield 7, 3) := by decide +kernel
theorem dX12_count_92 : decode cX12_count 92 = .ok (.iconst 4, 1) := by decide +kernel
theorem dX12_count_93 : decode cX12_count 93 = .ok (.iaload, 1) := by decide +kernel
theorem dX12_count_94 : decode cX12_count 94 = .ok (.ireturn, 1) := by decide +kernel
theorem dX12_count_95 : decode cX12_count 95 = .ok (.aload_n 0, 1) := by decide +kernel
theorem dX12_count_96 : decode cX12_count 96 = .ok (.getfield 7, 3) := by decide +kernel
theorem dX12_count_99 : decode cX12_count 99 = .ok (.iconst 5, 1) := by decide +kernel
theorem dX12_count_100 : decode cX12_count 100 = .ok (.iaload, 1) := by decide +kernel
theorem dX12_count_101 : decode cX12_count 101 = .ok (.ireturn, 1) := by decide +kernel
theorem dX12_count_102 : decode cX12_count 102 = .ok (.aload_n 0, 1) := by decide +kernel
theorem dX12_count_103 : decode cX12_count 103 = .ok (.getfield 7, 3) := by decide +kernel
theorem dX12_count_106 : decode cX12_count 106 = .ok (.bipush 6, 2) := by decide +kernel
theorem dX12_count_108 : decode cX12_count 108 = .ok (.iaload, 1) := by decide +kernel
theorem dX12_count_109 : decode cX12_count 109 = .ok (.ireturn, 1) := by decide +kernel
theorem dX12_count_110 : decode cX12_count 110 = .ok (.aload_n 0, 1) := by decide +kernel
theorem dX12_count_111 : decode cX12_count 111 = .ok (.getfield 7, 3) := by decide +kernel
theorem dX12_count_114 : decode cX12_count 114 = .ok (.bipush 7, 2) := by decide +kernel
theorem dX12_count_116 : decode cX12_count 116 = .ok (.iaload, 1) := by decide +kernel
theorem dX12_count_117 : decode cX12_count 117 = .ok (.ireturn, 1) := by decide +kernel
theorem dX12_count_118 : decode cX12_count 118 = .ok (.aload_n 0, 1) := by decide +kernel
theorem dX12_count_119 : decode cX12_count 119 = .ok (.getfield 7, 3) := by decide +kernel
theorem dX12_count_122 : decode cX12_count 122 = .ok (.bipush 8, 2) := by decide +kernel
theorem dX12_count_124 : decode cX12_count 124 = .ok (.iaload, 1) := by decide +kernel
theorem dX12_count_125 : decode cX12_count 125 = .ok (.ireturn, 1) := by decide +kernel
theorem dX12_count_126 : decode cX12_count 126 = .ok (.aload_n 0, 1) := by decide +kernel
theorem dX12_count_127 : decode cX12_count 127 = .ok (.getfield 193, 3) := by decide +kernel
theorem dX12_count_130 : decode cX12_count 130 = .ok (.ireturn, 1) := by decide +kernel
theorem dX12_count_131 : decode cX12_count 131 = .ok (.iconst (-1), 1) := by decide +kernel
theorem dX12_count_132 : decode cX12_count 132 = .ok (.ireturn, 1) := by decide +kernel
theorem dX12_dip_0 : decode cX12_dip 0 = .ok (.aload_n 0, 1) := by decide +kernel
theorem dX12_dip_1 : decode cX12_dip 1 = .ok (.iconst 0, 1) := by decide +kernel
theorem dX12_dip_2 : decode cX12_dip 2 = .ok (.putfield 92, 3) := by decide +kernel
theorem dX12_dip_5 : decode cX12_dip 5 = .ok (.aload_n 0, 1) := by decide +kernel
theorem dX12_dip_6 : decode cX12_dip 6 = .ok (.iload_n 1, 1) := by decide +kernel
theorem dX12_dip_7 : decode cX12_dip 7 = .ok (.invokevirtual 131, 3) := by decide +kernel
theorem dX12_dip_10 : decode cX12_dip 10 = .ok (.ifCond .eq 42, 3) := by decide +kernel
theorem dX12_dip_52 : decode cX12_dip 52 = .ok (.iconst (-1), 1) := by decide +kernel
theorem dX12_dip_53 : decode cX12_dip 53 = .ok (.ireturn, 1) := by decide +kernel
theorem dX12_dips_0 : decode cX12_dips 0 = .ok (.aload_n 0, 1) := by decide +kernel
theorem dX12_dips_1 : decode cX12_dips 1 = .ok (.iconst 0, 1) := by decide +kernel
theorem dX12_dips_2 : decode cX12_dips 2 = .ok (.putfield 92, 3) := by decide +kernel
theorem dX12_dips_5 : decode cX12_dips 5 = .ok (.iload_n 1, 1) := by decide +kernel
theorem dX12_dips_6 : decode cX12_dips 6 = .ok (.i2l, 1) := by decide +kernel
theorem dX12_dips_7 : decode cX12_dips 7 = .ok (.lconst 0, 1) := by decide +kernel
theorem dX12_dips_8 : decode cX12_dips 8 = .ok (.ldc2_w 543, 3) := by decide +kernel
theorem dX12_dips_11 : decode cX12_dips 11 = .ok (.invokestatic 100, 3) := by decide +kernel
theorem dX12_dips_14 : decode cX12_dips 14 = .ok (.ifCond .eq 33, 3) := by decide +kernel
theorem dX12_dips_17 : decode cX12_dips 17 = .ok (.iload_n 2, 1) := by decide +kernel
theorem dX12_dips_18 : decode cX12_dips 18 = .ok (.invokestatic 127, 3) := by decide +kernel
theorem dX12_dips_21 : decode cX12_dips 21 = .ok (.ifCond .eq 26, 3) := by decide +kernel
theorem dX12_dips_24 : decode cX12_dips 24 = .ok (.iload_n 3, 1) := by decide +kernel
theorem dX12_dips_25 : decode cX12_dips 25 = .ok (.i2l, 1) := by decide +kernel
theorem dX12_dips_26 : decode cX12_dips 26 = .ok (.lconst 1, 1) := by decide +kernel
theorem dX12_dips_27 : decode cX12_dips 27 = .ok (.ldc2_w 251, 3) := by decide +kernel
theorem dX12_dips_30 : decode cX12_dips 30 = .ok (.invokestatic 100, 3) := by decide +kernel
theorem dX12_dips_33 : decode cX12_dips 33 = .ok (.ifCond .eq 14, 3) := by decide +kernel
theorem dX12_dips_36 : decode cX12_dips 36 = .ok (.iload 4, 2) := by decide +kernel
theorem dX12_dips_38 : decode cX12_dips 38 = .ok (.i2l, 1) := by decide +kernel
theorem dX12_dips_39 : decode cX12_dips 39 = .ok (.lconst 0, 1) := by decide +kernel
theorem dX12_dips_40 : decode cX12_dips 40 = .ok (.lconst 1, 1) := by decide +kernel
theorem dX12_dips_41 : decode cX12_dips 41 = .ok (.invokestatic 100, 3) := by decide +kernel
theorem dX12_dips_44 : decode cX12_dips 44 = .ok (.ifCond .ne 5, 3) := by decide +kernel
theorem dX12_dips_47 : decode cX12_dips 47 = .ok (.iconst (-1), 1) := by decide +kernel
theorem dX12_dips_48 : decode cX12_dips 48 = .ok (.ireturn, 1) := by decide +kernel
theorem dX12_dips_49 : decode cX12_dips 49 = .ok (.aload_n 0, 1) := by decide +kernel
theorem dX12_dips_50 : decode cX12_dips 50 = .ok (.iload_n 2, 1) := by decide +kernel
theorem dX12_dips_51 : decode cX12_dips 51 = .ok (.invokevirtual 186, 3) := by decide +kernel
theorem dX12_dips_54 : decode cX12_dips 54 = .ok (.iconst 0, 1) := by decide +kernel
theorem dX12_dips_55 : decode cX12_dips 55 = .ok (.istore 5, 2) := by decide +kernel
theorem dX12_dips_57 : decode cX12_dips 57 = .ok (.lconst 0, 1) := by decide +kernel
theorem dX12_dips_58 : decode cX12_dips 58 = .ok (.lstore 6, 2) := by decide +kernel
theorem dX12_dips_60 : decode cX12_dips 60 = .ok (.lconst 0, 1) := by decide +kernel
theorem dX12_dips_61 : decode cX12_dips 61 = .ok (.lstore 8, 2) := by decide +kernel
theorem dX12_dips_63 : decode cX12_dips 63 = .ok (.iconst 0, 1) := by decide +kernel
theorem dX12_dips_64 : decode cX12_dips 64 = .ok (.istore 10, 2) := by decide +kernel
theorem dX12_dips_66 : decode cX12_dips 66 = .ok (.iload 10, 2) := by decide +kernel
theorem dX12_dips_68 : decode cX12_dips 68 = .ok (.aload_n 0, 1) := by decide +kernel
theorem dX12_dips_69 : decode cX12_dips 69 = .ok (.getfield 7, 3) := by decide +kernel
theorem dX12_dips_72 : decode cX12_dips 72 = .ok (.iconst 1, 1) := by decide +kernel
theorem dX12_dips_73 : decode cX12_dips 73 = .ok (.iaload, 1) := by decide +kernel
theorem dX12_dips_74 : decode cX12_dips 74 = .ok (.if_icmp .ge 86, 3) := by decide +kernel
theorem dX12_dips_160 : decode cX12_dips 160 = .ok (.iload 4, 2) := by decide +kernel
theorem dX12_dips_162 : decode cX12_dips 162 = .ok (.iconst 1, 1) := by decide +kernel
theorem dX12_dips_163 : decode cX12_dips 163 = .ok (.if_icmp .ne 6, 3) := by decide +kernel
theorem dX12_dips_166 : decode cX12_dips 166 = .ok (.iload 5, 2) := by decide +kernel
theorem dX12_dips_168 : decode cX12_dips 168 = .ok (.ireturn, 1) := by decide +kernel
theorem dX12_dips_169 : decode cX12_dips 169 = .ok (.iconst 0, 1) := by decide +kernel
theorem dX12_dips_170 : decode cX12_dips 170 = .ok (.istore 10, 2) := by decide +kernel
theorem dX12_dips_172 : decode cX12_dips 172 = .ok (.iconst 0, 1) := by decide +kernel
theorem dX12_dips_173 : decode cX12_dips 173 = .ok (.istore 11, 2) := by decide +kernel
theorem dX12_dips_175 : decode cX12_dips 175 = .ok (.iload 11, 2) := by decide +kernel
theorem dX12_dips_177 : decode cX12_dips 177 = .ok (.aload_n 0, 1) := by decide +kernel
theorem dX12_dips_178 : decode cX12_dips 178 = .ok (.getfield 7, 3) := by decide +kernel
theorem dX12_dips_181 : decode cX12_dips 181 = .ok (.iconst 1, 1) := by decide +kernel
theorem dX12_dips_182 : decode cX12_dips 182 = .ok (.iaload, 1) := by decide +kernel
theorem dX12_dips_183 : decode cX12_dips 183 = .ok (.if_icmp .ge 118, 3) := by decide +kernel
theorem dX12_dips_301 : decode cX12_dips 301 = .ok (.iload 10, 2) := by decide +kernel
theorem dX12_dips_303 : decode cX12_dips 303 = .ok (.ireturn, 1) := by decide +kernel
theorem dX12_draw_0 : decode cX12_draw 0 = .ok (.aload_n 0, 1) := by decide +kernel
theorem dX12_draw_1 : decode cX12_draw 1 = .ok (.iconst 0, 1) := by decide +kernel
theorem dX12_draw_2 : decode cX12_draw 2 = .ok (.putfield 92, 3) := by decide +kernel
theorem dX12_draw_5 : decode cX12_draw 5 = .ok (.iload_n 2, 1) := by decide +kernel
theorem dX12_draw_6 : decode cX12_draw 6 = .ok (.i2l, 1) := by decide +kernel
theorem dX12_draw_7 : decode cX12_draw 7 = .ok (.lconst 0, 1) := by decide +kernel
theorem dX12_draw_8 : decode cX12_draw 8 = .ok (.lconst 1, 1) := by decide +kernel
theorem dX12_draw_9 : decode cX12_draw 9 = .ok (.invokestatic 100, 3) := by decide +kernel
theorem dX12_draw_12 : decode cX12_draw 12 = .ok (.ifCond .eq 17, 3) := by decide +kernel
theorem dX12_draw_15 : decode cX12_draw 15 = .ok (.iload_n 3, 1) := by decide +kernel
theorem dX12_draw_16 : decode cX12_draw 16 = .ok (.i2l, 1) := by decide +kernel
theorem dX12_draw_17 : decode cX12_draw 17 = .ok (.ldc2_w 545, 3) := by decide +kernel
theorem dX12_draw_20 : decode cX12_draw 20 = .ok (.ldc2_w 547, 3) := by decide +kernel
theorem dX12_draw_23 : decode cX12_draw 23 = .ok (.invokestatic 100, 3) := by decide +kernel
theorem dX12_draw_26 : decode cX12_draw 26 = .ok (.ifCond .ne 9, 3) := by decide +kernel
theorem dX12_draw_29 : decode cX12_draw 29 = .ok (.aload_n 0, 1) := by decide +kernel
theorem dX12_draw_30 : decode cX12_draw 30 = .ok (.iconst (-1), 1) := by decide +kernel
theorem dX12_draw_31 : decode cX12_draw 31 = .ok (.invokevirtual 106, 3) := by decide +kernel
theorem dX12_draw_34 : decode cX12_draw 34 = .ok (.ireturn, 1) := by decide +kernel
theorem dX12_draw_35 : decode cX12_draw 35 = .ok (.aload_n 0, 1) := by decide +kernel
theorem dX12_draw_36 : decode cX12_draw 36 = .ok (.iload_n 1, 1) := by decide +kernel
theorem dX12_draw_37 : decode cX12_draw 37 = .ok (.invokevirtual 138, 3) := by decide +kernel
theorem dX12_draw_40 : decode cX12_draw 40 = .ok (.ifCond .ne 10, 3) := by decide +kernel
theorem dX12_draw_43 : decode cX12_draw 43 = .ok (.aload_n 0, 1) := by decide +kernel
theorem dX12_draw_44 : decode cX12_draw 44 = .ok (.bipush (-2), 2) := by decide +kernel
theorem dX12_draw_46 : decode cX12_draw 46 = .ok (.invokevirtual 106, 3) := by decide +kernel
theorem dX12_draw_49 : decode cX12_draw 49 = .ok (.ireturn, 1) := by decide +kernel
theorem dX12_due_0 : decode cX12_due 0 = .ok (.aload_n 0, 1) := by decide +kernel
theorem dX12_due_1 : decode cX12_due 1 = .ok (.iconst 0, 1) := by decide +kernel
theorem dX12_due_2 : decode cX12_due 2 = .ok (.putfield 92, 3) := by decide +kernel
theorem dX12_due_5 : decode cX12_due 5 = .ok (.aload_n 0, 1) := by decide +kernel
theorem dX12_due_6 : decode cX12_due 6 = .ok (.iload_n 1, 1) := by decide +kernel
theorem dX12_due_7 : decode cX12_due 7 = .ok (.invokevirtual 138, 3) := by decide +kernel
theorem dX12_due_10 : decode cX12_due 10 = .ok (.ifCond .eq 25, 3) := by decide +kernel
theorem dX12_due_35 : decode cX12_due 35 = .ok (.iconst (-1), 1) := by decide +kernel
theorem dX12_due_36 : decode cX12_due 36 = .ok (.ireturn, 1) := by decide +kernel
theorem dX12_end_0 : decode cX12_end 0 = .ok (.aload_n 0, 1) := by decide +kernel
theorem dX12_end_1 : decode cX12_end 1 = .ok (.iconst 0, 1) := by decide +kernel
theorem dX12_end_2 : decode cX12_end 2 = .ok (.putfield 92, 3) := by decide +kernel
theorem dX12_end_5 : decode cX12_end 5 = .ok (.iload_n 1, 1) := by decide +kernel
theorem dX12_end_6 : decode cX12_end 6 = .ok (.ifCond .lt 11, 3) := by decide +kernel
theorem dX12_end_9 : decode cX12_end 9 = .ok (.iload_n 1, 1) := by decide +kernel
theorem dX12_end_10 : decode cX12_end 10 = .ok (.aload_n 0, 1) := by decide +kernel
theorem dX12_end_11 : decode cX12_end 11 = .ok (.getfield 193, 3) := by decide +kernel
theorem dX12_end_14 : decode cX12_end 14 = .ok (.if_icmp .le 5, 3) := by decide +kernel
theorem dX12_end_17 : decode cX12_end 17 = .ok (.iconst (-1), 1) := by decide +kernel
theorem dX12_end_18 : decode cX12_end 18 = .ok (.ireturn, 1) := by decide +kernel
theorem dX12_end_19 : decode cX12_end 19 = .ok (.aload_n 0, 1) := by decide +kernel
theorem dX12_end_20 : decode cX12_end 20 = .ok (.iload_n 1, 1) := by decide +kernel
theorem dX12_end_21 : decode cX12_end 21 = .ok (.putfield 193, 3) := by decide +kernel
theorem dX12_end_24 : decode cX12_end 24 = .ok (.iload_n 1, 1) := by decide +kernel
theorem dX12_end_25 : decode cX12_end 25 = .ok (.ireturn, 1) := by decide +kernel
theorem dX12_failed_0 : decode cX12_failed 0 = .ok (.aload_n 0, 1) := by decide +kernel
theorem dX12_failed_1 : decode cX12_failed 1 = .ok (.iconst 0, 1) := by decide +kernel
theorem dX12_failed_2 : decode cX12_failed 2 = .ok (.putfield 92, 3) := by decide +kernel
theorem dX12_failed_5 : decode cX12_failed 5 = .ok (.iload_n 1, 1) := by decide +kernel
theorem dX12_failed_6 : decode cX12_failed 6 = .ok (.i2l, 1) := by decide +kernel
theorem dX12_failed_7 : decode cX12_failed 7 = .ok (.lconst 0, 1) := by decide +kernel
theorem dX12_failed_8 : decode cX12_failed 8 = .ok (.ldc2_w 116, 3) := by decide +kernel
theorem dX12_failed_11 : decode cX12_failed 11 = .ok (.invokestatic 100, 3) := by decide +kernel
theorem dX12_failed_14 : decode cX12_failed 14 = .ok (.ifCond .eq 10, 3) := by decide +kernel
theorem dX12_failed_17 : decode cX12_failed 17 = .ok (.iload_n 2, 1) := by decide +kernel
theorem dX12_failed_18 : decode cX12_failed 18 = .ok (.invokestatic 145, 3) := by decide +kernel
theorem dX12_failed_21 : decode cX12_failed 21 = .ok (.ifCond .ne 9, 3) := by decide +kernel
theorem dX12_failed_24 : decode cX12_failed 24 = .ok (.aload_n 0, 1) := by decide +kernel
theorem dX12_failed_25 : decode cX12_failed 25 = .ok (.iconst (-1), 1) := by decide +kernel
theorem dX12_failed_26 : decode cX12_failed 26 = .ok (.invokevirtual 106, 3) := by decide +kernel
theorem dX12_failed_29 : decode cX12_failed 29 = .ok (.ireturn, 1) := by decide +kernel
theorem dX12_failed_30 : decode cX12_failed 30 = .ok (.aload_n 0, 1) := by decide +kernel
theorem dX12_failed_31 : decode cX12_failed 31 = .ok (.iload_n 1, 1) := by decide +kernel
theorem dX12_failed_32 : decode cX12_failed 32 = .ok (.iload_n 2, 1) := by decide +kernel
theorem dX12_failed_33 : decode cX12_failed 33 = .ok (.invokevirtual 148, 3) := by decide +kernel
theorem dX12_failed_36 : decode cX12_failed 36 = .ok (.ifCond .eq 10, 3) := by decide +kernel
theorem dX12_failed_46 : decode cX12_failed 46 = .ok (.aload_n 0, 1) := by decide +kernel
theorem dX12_failed_47 : decode cX12_failed 47 = .ok (.getfield 7, 3) := by decide +kernel
theorem dX12_failed_50 : decode cX12_failed 50 = .ok (.bipush 9, 2) := by decide +kernel
theorem dX12_failed_52 : decode cX12_failed 52 = .ok (.iaload, 1) := by decide +kernel
theorem dX12_failed_53 : decode cX12_failed 53 = .ok (.bipush 60, 2) := by decide +kernel
theorem dX12_failed_55 : decode cX12_failed 55 = .ok (.if_icmp .ne 10, 3) := by decide +kernel
theorem dX12_failed_65 : decode cX12_failed 65 = .ok (.aload_n 0, 1) := by decide +kernel
theorem dX12_failed_66 : decode cX12_failed 66 = .ok (.getfield 7, 3) := by decide +kernel
theorem dX12_failed_69 : decode cX12_failed 69 = .ok (.sipush 3300, 3) := by decide +kernel
theorem dX12_failed_72 : decode cX12_failed 72 = .ok (.iconst 2, 1) := by decide +kernel
theorem dX12_failed_73 : decode cX12_failed 73 = .ok (.aload_n 0, 1) := by decide +kernel
theorem dX12_failed_74 : decode cX12_failed 74 = .ok (.getfield 7, 3) := by decide +kernel
theorem dX12_failed_77 : decode cX12_failed 77 = .ok (.bipush 9, 2) := by decide +kernel
theorem dX12_failed_79 : decode cX12_failed 79 = .ok (.iaload, 1) := by decide +kernel
theorem dX12_failed_80 : decode cX12_failed 80 = .ok (.imul, 1) := by decide +kernel
theorem dX12_failed_81 : decode cX12_failed 81 = .ok (.iadd, 1) := by decide +kernel
theorem dX12_failed_82 : decode cX12_failed 82 = .ok (.iload_n 1, 1) := by decide +kernel
theorem dX12_failed_83 : decode cX12_failed 83 = .ok (.iastore, 1) := by decide +kernel
theorem dX12_failed_84 : decode cX12_failed 84 = .ok (.aload_n 0, 1) := by decide +kernel
theorem dX12_failed_85 : decode cX12_failed 85 = .ok (.getfield 7, 3) := by decide +kernel
theorem dX12_failed_88 : decode cX12_failed 88 = .ok (.sipush 3300, 3) := by decide +kernel
theorem dX12_failed_91 : decode cX12_failed 91 = .ok (.iconst 2, 1) := by decide +kernel
theorem dX12_failed_92 : decode cX12_failed 92 = .ok (.aload_n 0, 1) := by decide +kernel
theorem dX12_failed_93 : decode cX12_failed 93 = .ok (.getfield 7, 3) := by decide +kernel
theorem dX12_failed_96 : decode cX12_failed 96 = .ok (.bipush 9, 2) := by decide +kernel
theorem dX12_failed_98 : decode cX12_failed 98 = .ok (.iaload, 1) := by decide +kernel
theorem dX12_failed_99 : decode cX12_failed 99 = .ok (.imul, 1) := by decide +kernel
theorem dX12_failed_100 : decode cX12_failed 100 = .ok (.iadd, 1) := by decide +kernel
theorem dX12_failed_101 : decode cX12_failed 101 = .ok (.iconst 1, 1) := by decide +kernel
theorem dX12_failed_102 : decode cX12_failed 102 = .ok (.iadd, 1) := by decide +kernel
theorem dX12_failed_103 : decode cX12_failed 103 = .ok (.iload_n 2, 1) := by decide +kernel
theorem dX12_failed_104 : decode cX12_failed 104 = .ok (.iastore, 1) := by decide +kernel
theorem dX12_failed_105 : decode cX12_failed 105 = .ok (.aload_n 0, 1) := by decide +kernel
theorem dX12_failed_106 : decode cX12_failed 106 = .ok (.getfield 7, 3) := by decide +kernel
theorem dX12_failed_109 : decode cX12_failed 109 = .ok (.bipush 9, 2) := by decide +kernel
theorem dX12_failed_111 : decode cX12_failed 111 = .ok (.dup2, 1) := by decide +kernel
theorem dX12_failed_112 : decode cX12_failed 112 = .ok (.iaload, 1) := by decide +kernel
theorem dX12_failed_113 : decode cX12_failed 113 = .ok (.iconst 1, 1) := by decide +kernel
theorem dX12_failed_114 : decode cX12_failed 114 = .ok (.iadd, 1) := by decide +kernel
theorem dX12_failed_115 : decode cX12_failed 115 = .ok (.iastore, 1) := by decide +kernel
theorem dX12_failed_116 : decode cX12_failed 116 = .ok (.aload_n 0, 1) := by decide +kernel
theorem dX12_failed_117 : decode cX12_failed 117 = .ok (.aload_n 0, 1) := by decide +kernel
theorem dX12_failed_118 : decode cX12_failed 118 = .ok (.getfield 7, 3) := by decide +kernel
theorem dX12_failed_121 : decode cX12_failed 121 = .ok (.bipush 9, 2) := by decide +kernel
theorem dX12_failed_123 : decode cX12_failed 123 = .ok (.iaload, 1) := by decide +kernel
theorem dX12_failed_124 : decode cX12_failed 124 = .ok (.invokevirtual 106, 3) := by decide +kernel
theorem dX12_failed_127 : decode cX12_failed 127 = .ok (.ireturn, 1) := by decide +kernel
theorem dX12_fault_0 : decode cX12_fault 0 = .ok (.aload_n 0, 1) := by decide +kernel
theorem dX12_fault_1 : decode cX12_fault 1 = .ok (.iconst 0, 1) := by decide +kernel
theorem dX12_fault_2 : decode cX12_fault 2 = .ok (.putfield 92, 3) := by decide +kernel
theorem dX12_fault_5 : decode cX12_fault 5 = .ok (.aload_n 0, 1) := by decide +kernel
theorem dX12_fault_6 : decode cX12_fault 6 = .ok (.getfield 36, 3) := by decide +kernel
theorem dX12_fault_9 : decode cX12_fault 9 = .ok (.ireturn, 1) := by decide +kernel
theorem dX12_feed_0 : decode cX12_feed 0 = .ok (.aload_n 0, 1) := by decide +kernel
theorem dX12_feed_1 : decode cX12_feed 1 = .ok (.iconst 0, 1) := by decide +kernel
theorem dX12_feed_2 : decode cX12_feed 2 = .ok (.putfield 92, 3) := by decide +kernel
theorem dX12_feed_5 : decode cX12_feed 5 = .ok (.aload_n 0, 1) := by decide +kernel
theorem dX12_feed_6 : decode cX12_feed 6 = .ok (.getfield 193, 3) := by decide +kernel
theorem dX12_feed_9 : decode cX12_feed 9 = .ok (.bipush 20, 2) := by decide +kernel
theorem dX12_feed_11 : decode cX12_feed 11 = .ok (.iadd, 1) := by decide +kernel
theorem dX12_feed_12 : decode cX12_feed 12 = .ok (.sipush 400, 3) := by decide +kernel
theorem dX12_feed_15 : decode cX12_feed 15 = .ok (.if_icmp .le 5, 3) := by decide +kernel
theorem dX12_feed_20 : decode cX12_feed 20 = .ok (.aload_n 0, 1) := by decide +kernel
theorem dX12_feed_21 : decode cX12_feed 21 = .ok (.iload_n 1, 1) := by decide +kernel
theorem dX12_feed_22 : decode cX12_feed 22 = .ok (.invokevirtual 196, 3) := by decide +kernel
theorem dX12_feed_25 : decode cX12_feed 25 = .ok (.aload_n 0, 1) := by decide +kernel
theorem dX12_feed_26 : decode cX12_feed 26 = .ok (.iload_n 2, 1) := by decide +kernel
theorem dX12_feed_27 : decode cX12_feed 27 = .ok (.invokevirtual 196, 3) := by decide +kernel
theorem dX12_feed_30 : decode cX12_feed 30 = .ok (.aload_n 0, 1) := by decide +kernel
theorem dX12_feed_31 : decode cX12_feed 31 = .ok (.iload_n 3, 1) := by decide +kernel
theorem dX12_feed_32 : decode cX12_feed 32 = .ok (.invokevirtual 196, 3) := by decide +kernel
theorem dX12_feed_35 : decode cX12_feed 35 = .ok (.aload_n 0, 1) := by decide +kernel
theorem dX12_feed_36 : decode cX12_feed 36 = .ok (.iload 4, 2) := by decide +kernel
theorem dX12_feed_38 : decode cX12_feed 38 = .ok (.invokevirtual 196, 3) := by decide +kernel
theorem dX12_feed_41 : decode cX12_feed 41 = .ok (.aload_n 0, 1) := by decide +kernel
theorem dX12_feed_42 : decode cX12_feed 42 = .ok (.iload 5, 2) := by decide +kernel
theorem dX12_feed_44 : decode cX12_feed 44 = .ok (.invokevirtual 196, 3) := by decide +kernel
theorem dX12_feed_47 : decode cX12_feed 47 = .ok (.aload_n 0, 1) := by decide +kernel
theorem dX12_feed_48 : decode cX12_feed 48 = .ok (.getfield 193, 3) := by decide +kernel
theorem dX12_feed_51 : decode cX12_feed 51 = .ok (.ireturn, 1) := by decide +kernel
theorem dX12_findKinds_0 : decode cX12_findKinds 0 = .ok (.iconst 0, 1) := by decide +kernel
theorem dX12_findKinds_1 : decode cX12_findKinds 1 = .ok (.istore_n 1, 1) := by decide +kernel
theorem dX12_findKinds_2 : decode cX12_findKinds 2 = .ok (.iload_n 1, 1) := by decide +kernel
theorem dX12_findKinds_3 : decode cX12_findKinds 3 = .ok (.aload_n 0, 1) := by decide +kernel
theorem dX12_findKinds_4 : decode cX12_findKinds 4 = .ok (.getfield 7, 3) := by decide +kernel
theorem dX12_findKinds_7 : decode cX12_findKinds 7 = .ok (.iconst 3, 1) := by decide +kernel
theorem dX12_findKinds_8 : decode cX12_findKinds 8 = .ok (.iaload, 1) := by decide +kernel
theorem dX12_findKinds_9 : decode cX12_findKinds 9 = .ok (.if_icmp .ge 146, 3) := by decide +kernel
theorem dX12_findKinds_155 : decode cX12_findKinds 155 = .ok (.return_, 1) := by decide +kernel
theorem dX12_findWays_0 : decode cX12_findWays 0 = .ok (.aload_n 0, 1) := by decide +kernel
theorem dX12_findWays_1 : decode cX12_findWays 1 = .ok (.getfield 7, 3) := by decide +kernel
theorem dX12_findWays_4 : decode cX12_findWays 4 = .ok (.bipush 7, 2) := by decide +kernel
theorem dX12_findWays_6 : decode cX12_findWays 6 = .ok (.iaload, 1) := by decide +kernel
theorem dX12_findWays_7 : decode cX12_findWays 7 = .ok (.istore_n 3, 1) := by decide +kernel
theorem dX12_findWays_8 : decode cX12_findWays 8 = .ok (.iconst 1, 1) := by decide +kernel
theorem dX12_findWays_9 : decode cX12_findWays 9 = .ok (.istore 4, 2) := by decide +kernel
theorem dX12_findWays_11 : decode cX12_findWays 11 = .ok (.iload 4, 2) := by decide +kernel
theorem dX12_findWays_13 : decode cX12_findWays 13 = .ok (.iconst 1, 1) := by decide +kernel
theorem dX12_findWays_14 : decode cX12_findWays 14 = .ok (.iload_n 3, 1) := by decide +kernel
theorem dX12_findWays_15 : decode cX12_findWays 15 = .ok (.ishl, 1) := by decide +kernel
theorem dX12_findWays_16 : decode cX12_findWays 16 = .ok (.if_icmp .ge 154, 3) := by decide +kernel
theorem dX12_findWays_170 : decode cX12_findWays 170 = .ok (.return_, 1) := by decide +kernel
theorem dX12_fine_0 : decode cX12_fine 0 = .ok (.aload_n 0, 1) := by decide +kernel
theorem dX12_fine_1 : decode cX12_fine 1 = .ok (.iconst 0, 1) := by decide +kernel
theorem dX12_fine_2 : decode cX12_fine 2 = .ok (.putfield 92, 3) := by decide +kernel
theorem dX12_fine_5 : decode cX12_fine 5 = .ok (.aload_n 0, 1) := by decide +kernel
theorem dX12_fine_6 : decode cX12_fine 6 = .ok (.iload_n 1, 1) := by decide +kernel
theorem dX12_fine_7 : decode cX12_fine 7 = .ok (.invokevirtual 138, 3) := by decide +kernel
theorem dX12_fine_10 : decode cX12_fine 10 = .ok (.ifCond .eq 50, 3) := by decide +kernel
theorem dX12_fine_60 : decode cX12_fine 60 = .ok (.iconst (-1), 1) := by decide +kernel
theorem dX12_fine_61 : decode cX12_fine 61 = .ok (.ireturn, 1) := by decide +kernel
theorem dX12_force_0 : decode cX12_force 0 = .ok (.aload_n 0, 1) := by decide +kernel
theorem dX12_force_1 : decode cX12_force 1 = .ok (.iconst 0, 1) := by decide +kernel
theorem dX12_force_2 : decode cX12_force 2 = .ok (.putfield 92, 3) := by decide +kernel
theorem dX12_force_5 : decode cX12_force 5 = .ok (.iload_n 1, 1) := by decide +kernel
theorem dX12_force_6 : decode cX12_force 6 = .ok (.i2l, 1) := by decide +kernel
theorem dX12_force_7 : decode cX12_force 7 = .ok (.lconst 0, 1) := by decide +kernel
theorem dX12_force_8 : decode cX12_force 8 = .ok (.aload_n 0, 1) := by decide +kernel
theorem dX12_force_9 : decode cX12_force 9 = .ok (.getfield 7, 3) := by decide +kernel
theorem dX12_force_12 : decode cX12_force 12 = .ok (.iconst 4, 1) := by decide +kernel
theorem dX12_force_13 : decode cX12_force 13 = .ok (.iaload, 1) := by decide +kernel
theorem dX12_force_14 : decode cX12_force 14 = .ok (.i2l, 1) := by decide +kernel
theorem dX12_force_15 : decode cX12_force 15 = .ok (.lconst 1, 1) := by decide +kernel
theorem dX12_force_16 : decode cX12_force 16 = .ok (.lsub, 1) := by decide +kernel
theorem dX12_force_17 : decode cX12_force 17 = .ok (.invokestatic 100, 3) := by decide +kernel
theorem dX12_force_20 : decode cX12_force 20 = .ok (.ifCond .eq 33, 3) := by decide +kernel
theorem dX12_force_53 : decode cX12_force 53 = .ok (.iconst (-1), 1) := by decide +kernel
theorem dX12_force_54 : decode cX12_force 54 = .ok (.ireturn, 1) := by decide +kernel
theorem dX12_found_0 : decode cX12_found 0 = .ok (.aload_n 0, 1) := by decide +kernel
theorem dX12_found_1 : decode cX12_found 1 = .ok (.iconst 0, 1) := by decide +kernel
theorem dX12_found_2 : decode cX12_found 2 = .ok (.putfield 92, 3) := by decide +kernel
theorem dX12_found_5 : decode cX12_found 5 = .ok (.iload_n 1, 1) := by decide +kernel
theorem dX12_found_6 : decode cX12_found 6 = .ok (.invokestatic 127, 3) := by decide +kernel
theorem dX12_found_9 : decode cX12_found 9 = .ok (.ifCond .eq 18, 3) := by decide +kernel
theorem dX12_found_12 : decode cX12_found 12 = .ok (.aload_n 0, 1) := by decide +kernel
theorem dX12_found_13 : decode cX12_found 13 = .ok (.getfield 7, 3) := by decide +kernel
theorem dX12_found_16 : decode cX12_found 16 = .ok (.sipush 7061, 3) := by decide +kernel
theorem dX12_found_19 : decode cX12_found 19 = .ok (.iconst 4, 1) := by decide +kernel
theorem dX12_found_20 : decode cX12_found 20 = .ok (.iload_n 1, 1) := by decide +kernel
theorem dX12_found_21 : decode cX12_found 21 = .ok (.imul, 1) := by decide +kernel
theorem dX12_found_22 : decode cX12_found 22 = .ok (.iadd, 1) := by decide +kernel
theorem dX12_found_23 : decode cX12_found 23 = .ok (.iaload, 1) := by decide +kernel
theorem dX12_found_24 : decode cX12_found 24 = .ok (.ifCond .ne 6, 3) := by decide +kernel
theorem dX12_found_27 : decode cX12_found 27 = .ok (.bipush (-3), 2) := by decide +kernel
theorem dX12_found_29 : decode cX12_found 29 = .ok (.ireturn, 1) := by decide +kernel
theorem dX12_four_0 : decode cX12_four 0 = .ok (.bipush 24, 2) := by decide +kernel
theorem dX12_four_2 : decode cX12_four 2 = .ok (.istore_n 2, 1) := by decide +kernel
theorem dX12_four_3 : decode cX12_four 3 = .ok (.iload_n 2, 1) := by decide +kernel
theorem dX12_four_4 : decode cX12_four 4 = .ok (.ifCond .lt 35, 3) := by decide +kernel
theorem dX12_four_7 : decode cX12_four 7 = .ok (.aload_n 0, 1) := by decide +kernel
theorem dX12_four_8 : decode cX12_four 8 = .ok (.getfield 33, 3) := by decide +kernel
theorem dX12_four_11 : decode cX12_four 11 = .ok (.aload_n 0, 1) := by decide +kernel
theorem dX12_four_12 : decode cX12_four 12 = .ok (.getfield 193, 3) := by decide +kernel
theorem dX12_four_15 : decode cX12_four 15 = .ok (.iload_n 1, 1) := by decide +kernel
theorem dX12_four_16 : decode cX12_four 16 = .ok (.iload_n 2, 1) := by decide +kernel
theorem dX12_four_17 : decode cX12_four 17 = .ok (.ishr, 1) := by decide +kernel
theorem dX12_four_18 : decode cX12_four 18 = .ok (.sipush 255, 3) := by decide +kernel
theorem dX12_four_21 : decode cX12_four 21 = .ok (.iand, 1) := by decide +kernel
theorem dX12_four_22 : decode cX12_four 22 = .ok (.iastore, 1) := by decide +kernel
theorem dX12_four_23 : decode cX12_four 23 = .ok (.aload_n 0, 1) := by decide +kernel
theorem dX12_four_24 : decode cX12_four 24 = .ok (.dup, 1) := by decide +kernel
theorem dX12_four_25 : decode cX12_four 25 = .ok (.getfield 193, 3) := by decide +kernel
theorem dX12_four_28 : decode cX12_four 28 = .ok (.iconst 1, 1) := by decide +kernel
theorem dX12_four_29 : decode cX12_four 29 = .ok (.iadd, 1) := by decide +kernel
theorem dX12_four_30 : decode cX12_four 30 = .ok (.putfield 193, 3) := by decide +kernel
theorem dX12_four_33 : decode cX12_four 33 = .ok (.iinc 2 (-8), 3) := by decide +kernel
theorem dX12_four_36 : decode cX12_four 36 = .ok (.goto (-33), 3) := by decide +kernel
theorem dX12_four_39 : decode cX12_four 39 = .ok (.return_, 1) := by decide +kernel
theorem dX12_goes_0 : decode cX12_goes 0 = .ok (.aload_n 0, 1) := by decide +kernel
theorem dX12_goes_1 : decode cX12_goes 1 = .ok (.iconst 0, 1) := by decide +kernel
theorem dX12_goes_2 : decode cX12_goes 2 = .ok (.putfield 92, 3) := by decide +kernel
theorem dX12_goes_5 : decode cX12_goes 5 = .ok (.iload_n 3, 1) := by decide +kernel
theorem dX12_goes_6 : decode cX12_goes 6 = .ok (.invokestatic 127, 3) := by decide +kernel
theorem dX12_goes_9 : decode cX12_goes 9 = .ok (.ifCond .eq 18, 3) := by decide +kernel
theorem dX12_goes_12 : decode cX12_goes 12 = .ok (.iload 4, 2) := by decide +kernel
theorem dX12_goes_14 : decode cX12_goes 14 = .ok (.iconst (-1), 1) := by decide +kernel
theorem dX12_goes_15 : decode cX12_goes 15 = .ok (.if_icmp .eq 18, 3) := by decide +kernel
theorem dX12_goes_18 : decode cX12_goes 18 = .ok (.aload_n 0, 1) := by decide +kernel
theorem dX12_goes_19 : decode cX12_goes 19 = .ok (.iload 4, 2) := by decide +kernel
theorem dX12_goes_21 : decode cX12_goes 21 = .ok (.invokevirtual 131, 3) := by decide +kernel
theorem dX12_goes_24 : decode cX12_goes 24 = .ok (.ifCond .ne 9, 3) := by decide +kernel
theorem dX12_goes_27 : decode cX12_goes 27 = .ok (.aload_n 0, 1) := by decide +kernel
theorem dX12_goes_28 : decode cX12_goes 28 = .ok (.iconst (-1), 1) := by decide +kernel
theorem dX12_goes_29 : decode cX12_goes 29 = .ok (.invokevirtual 106, 3) := by decide +kernel
theorem dX12_goes_32 : decode cX12_goes 32 = .ok (.ireturn, 1) := by decide +kernel
theorem dX12_goes_33 : decode cX12_goes 33 = .ok (.aload_n 0, 1) := by decide +kernel
theorem dX12_goes_34 : decode cX12_goes 34 = .ok (.iload_n 1, 1) := by decide +kernel
theorem dX12_goes_35 : decode cX12_goes 35 = .ok (.invokevirtual 138, 3) := by decide +kernel
theorem dX12_goes_38 : decode cX12_goes 38 = .ok (.ifCond .eq 11, 3) := by decide +kernel
theorem dX12_goes_49 : decode cX12_goes 49 = .ok (.aload_n 0, 1) := by decide +kernel
theorem dX12_goes_50 : decode cX12_goes 50 = .ok (.bipush (-2), 2) := by decide +kernel
theorem dX12_goes_52 : decode cX12_goes 52 = .ok (.invokevirtual 106, 3) := by decide +kernel
theorem dX12_goes_55 : decode cX12_goes 55 = .ok (.ireturn, 1) := by decide +kernel
theorem dX12_has_0 : decode cX12_has 0 = .ok (.aload_n 0, 1) := by decide +kernel
theorem dX12_has_1 : decode cX12_has 1 = .ok (.iconst 0, 1) := by decide +kernel
theorem dX12_has_2 : decode cX12_has 2 = .ok (.putfield 92, 3) := by decide +kernel
theorem dX12_has_5 : decode cX12_has 5 = .ok (.iload_n 2, 1) := by decide +kernel
theorem dX12_has_6 : decode cX12_has 6 = .ok (.i2l, 1) := by decide +kernel
theorem dX12_has_7 : decode cX12_has 7 = .ok (.lconst 0, 1) := by decide +kernel
theorem dX12_has_8 : decode cX12_has 8 = .ok (.lconst 1, 1) := by decide +kernel
theorem dX12_has_9 : decode cX12_has 9 = .ok (.invokestatic 100, 3) := by decide +kernel
theorem dX12_has_12 : decode cX12_has 12 = .ok (.ifCond .eq 23, 3) := by decide +kernel
theorem dX12_has_15 : decode cX12_has 15 = .ok (.iload 4, 2) := by decide +kernel
theorem dX12_has_17 : decode cX12_has 17 = .ok (.invokestatic 127, 3) := by decide +kernel
theorem dX12_has_20 : decode cX12_has 20 = .ok (.ifCond .eq 15, 3) := by decide +kernel
theorem dX12_has_23 : decode cX12_has 23 = .ok (.iload_n 3, 1) := by decide +kernel
theorem dX12_has_24 : decode cX12_has 24 = .ok (.i2l, 1) := by decide +kernel
theorem dX12_has_25 : decode cX12_has 25 = .ok (.lconst 0, 1) := by decide +kernel
theorem dX12_has_26 : decode cX12_has 26 = .ok (.iload 4, 2) := by decide +kernel
theorem dX12_has_28 : decode cX12_has 28 = .ok (.i2l, 1) := by decide +kernel
theorem dX12_has_29 : decode cX12_has 29 = .ok (.invokestatic 100, 3) := by decide +kernel
theorem dX12_has_32 : decode cX12_has 32 = .ok (.ifCond .ne 9, 3) := by decide +kernel
theorem dX12_has_35 : decode cX12_has 35 = .ok (.aload_n 0, 1) := by decide +kernel
theorem dX12_has_36 : decode cX12_has 36 = .ok (.iconst (-1), 1) := by decide +kernel
theorem dX12_has_37 : decode cX12_has 37 = .ok (.invokevirtual 106, 3) := by decide +kernel
theorem dX12_has_40 : decode cX12_has 40 = .ok (.ireturn, 1) := by decide +kernel
theorem dX12_has_41 : decode cX12_has 41 = .ok (.aload_n 0, 1) := by decide +kernel
theorem dX12_has_42 : decode cX12_has 42 = .ok (.iload_n 1, 1) := by decide +kernel
theorem dX12_has_43 : decode cX12_has 43 = .ok (.invokevirtual 138, 3) := by decide +kernel
theorem dX12_has_46 : decode cX12_has 46 = .ok (.ifCond .ne 10, 3) := by decide +kernel
theorem dX12_has_49 : decode cX12_has 49 = .ok (.aload_n 0, 1) := by decide +kernel
theorem dX12_has_50 : decode cX12_has 50 = .ok (.bipush (-2), 2) := by decide +kernel
theorem dX12_has_52 : decode cX12_has 52 = .ok (.invokevirtual 106, 3) := by decide +kernel
theorem dX12_has_55 : decode cX12_has 55 = .ok (.ireturn, 1) := by decide +kernel
theorem dX12_hasFailed_0 : decode cX12_hasFailed 0 = .ok (.iconst 0, 1) := by decide +kernel
theorem dX12_hasFailed_1 : decode cX12_hasFailed 1 = .ok (.istore_n 3, 1) := by decide +kernel
theorem dX12_hasFailed_2 : decode cX12_hasFailed 2 = .ok (.iconst 0, 1) := by decide +kernel
theorem dX12_hasFailed_3 : decode cX12_hasFailed 3 = .ok (.istore 4, 2) := by decide +kernel
theorem dX12_hasFailed_5 : decode cX12_hasFailed 5 = .ok (.iload 4, 2) := by decide +kernel
theorem dX12_hasFailed_7 : decode cX12_hasFailed 7 = .ok (.aload_n 0, 1) := by decide +kernel
theorem dX12_hasFailed_8 : decode cX12_hasFailed 8 = .ok (.getfield 7, 3) := by decide +kernel
theorem dX12_hasFailed_11 : decode cX12_hasFailed 11 = .ok (.bipush 9, 2) := by decide +kernel
theorem dX12_hasFailed_13 : decode cX12_hasFailed 13 = .ok (.iaload, 1) := by decide +kernel
theorem dX12_hasFailed_14 : decode cX12_hasFailed 14 = .ok (.if_icmp .ge 55, 3) := by decide +kernel
theorem dX12_hasFailed_69 : decode cX12_hasFailed 69 = .ok (.iload_n 3, 1) := by decide +kernel
theorem dX12_hasFailed_70 : decode cX12_hasFailed 70 = .ok (.ireturn, 1) := by decide +kernel
theorem dX12_headAt_0 : decode cX12_headAt 0 = .ok (.aload_n 0, 1) := by decide +kernel
theorem dX12_headAt_1 : decode cX12_headAt 1 = .ok (.ldc2_w 344, 3) := by decide +kernel
theorem dX12_headAt_4 : decode cX12_headAt 4 = .ok (.invokevirtual 261, 3) := by decide +kernel
theorem dX12_headAt_7 : decode cX12_headAt 7 = .ok (.ifCond .ne 23, 3) := by decide +kernel
theorem dX12_headAt_10 : decode cX12_headAt 10 = .ok (.aload_n 0, 1) := by decide +kernel
theorem dX12_headAt_11 : decode cX12_headAt 11 = .ok (.ldc2_w 346, 3) := by decide +kernel
theorem dX12_headAt_14 : decode cX12_headAt 14 = .ok (.invokevirtual 261, 3) := by decide +kernel
theorem dX12_headAt_17 : decode cX12_headAt 17 = .ok (.ifCond .ne 13, 3) := by decide +kernel
theorem dX12_headAt_20 : decode cX12_headAt 20 = .ok (.aload_n 0, 1) := by decide +kernel
theorem dX12_headAt_21 : decode cX12_headAt 21 = .ok (.ldc2_w 348, 3) := by decide +kernel
theorem dX12_headAt_24 : decode cX12_headAt 24 = .ok (.invokevirtual 261, 3) := by decide +kernel
theorem dX12_headAt_27 : decode cX12_headAt 27 = .ok (.ifCond .eq 33, 3) := by decide +kernel
theorem dX12_headAt_60 : decode cX12_headAt 60 = .ok (.aload_n 0, 1) := by decide +kernel
theorem dX12_headAt_61 : decode cX12_headAt 61 = .ok (.ldc2_w 350, 3) := by decide +kernel
theorem dX12_headAt_64 : decode cX12_headAt 64 = .ok (.invokevirtual 261, 3) := by decide +kernel
theorem dX12_headAt_67 : decode cX12_headAt 67 = .ok (.ifCond .eq 7, 3) := by decide +kernel
theorem dX12_headAt_74 : decode cX12_headAt 74 = .ok (.aload_n 0, 1) := by decide +kernel
theorem dX12_headAt_75 : decode cX12_headAt 75 = .ok (.ldc2_w 352, 3) := by decide +kernel
theorem dX12_headAt_78 : decode cX12_headAt 78 = .ok (.invokevirtual 261, 3) := by decide +kernel
theorem dX12_headAt_81 : decode cX12_headAt 81 = .ok (.ifCond .eq 7, 3) := by decide +kernel
theorem dX12_headAt_88 : decode cX12_headAt 88 = .ok (.aload_n 0, 1) := by decide +kernel
theorem dX12_headAt_89 : decode cX12_headAt 89 = .ok (.ldc2_w 354, 3) := by decide +kernel
theorem dX12_headAt_92 : decode cX12_headAt 92 = .ok (.invokevirtual 261, 3) := by decide +kernel
theorem dX12_headAt_95 : decode cX12_headAt 95 = .ok (.ifCond .eq 7, 3) := by decide +kernel
theorem dX12_headAt_102 : decode cX12_headAt 102 = .ok (.iconst (-1), 1) := by decide +kernel
theorem dX12_headAt_103 : decode cX12_headAt 103 = .ok (.ireturn, 1) := by decide +kernel
theorem dX12_helped_0 : decode cX12_helped 0 = .ok (.aload_n 0, 1) := by decide +kernel
theorem dX12_helped_1 : decode cX12_helped 1 = .ok (.iconst 0, 1) := by decide +kernel
theorem dX12_helped_2 : decode cX12_helped 2 = .ok (.putfield 92, 3) := by decide +kernel
theorem dX12_helped_5 : decode cX12_helped 5 = .ok (.iload_n 1, 1) := by decide +kernel
theorem dX12_helped_6 : decode cX12_helped 6 = .ok (.i2l, 1) := by decide +kernel
theorem dX12_helped_7 : decode cX12_helped 7 = .ok (.lconst 0, 1) := by decide +kernel
theorem dX12_helped_8 : decode cX12_helped 8 = .ok (.lconst 1, 1) := by decide +kernel
theorem dX12_helped_9 : decode cX12_helped 9 = .ok (.invokestatic 100, 3) := by decide +kernel
theorem dX12_helped_12 : decode cX12_helped 12 = .ok (.ifCond .ne 5, 3) := by decide +kernel
theorem dX12_helped_15 : decode cX12_helped 15 = .ok (.iconst (-1), 1) := by decide +kernel
theorem dX12_helped_16 : decode cX12_helped 16 = .ok (.ireturn, 1) := by decide +kernel
theorem dX12_helped_17 : decode cX12_helped 17 = .ok (.aload_n 0, 1) := by decide +kernel
theorem dX12_helped_18 : decode cX12_helped 18 = .ok (.getfield 7, 3) := by decide +kernel
theorem dX12_helped_21 : decode cX12_helped 21 = .ok (.bipush 8, 2) := by decide +kernel
theorem dX12_helped_23 : decode cX12_helped 23 = .ok (.iaload, 1) := by decide +kernel
theorem dX12_helped_24 : decode cX12_helped 24 = .ok (.istore_n 2, 1) := by decide +kernel
theorem dX12_helped_25 : decode cX12_helped 25 = .ok (.iconst 0, 1) := by decide +kernel
theorem dX12_helped_26 : decode cX12_helped 26 = .ok (.istore_n 3, 1) := by decide +kernel
theorem dX12_helped_27 : decode cX12_helped 27 = .ok (.iconst 0, 1) := by decide +kernel
theorem dX12_helped_28 : decode cX12_helped 28 = .ok (.istore 4, 2) := by decide +kernel
theorem dX12_helped_30 : decode cX12_helped 30 = .ok (.iconst 0, 1) := by decide +kernel
theorem dX12_helped_31 : decode cX12_helped 31 = .ok (.istore 5, 2) := by decide +kernel
theorem dX12_helped_33 : decode cX12_helped 33 = .ok (.iload 5, 2) := by decide +kernel
theorem dX12_helped_35 : decode cX12_helped 35 = .ok (.iload_n 2, 1) := by decide +kernel
theorem dX12_helped_36 : decode cX12_helped 36 = .ok (.if_icmp .ge 63, 3) := by decide +kernel
theorem dX12_helped_99 : decode cX12_helped 99 = .ok (.iconst 0, 1) := by decide +kernel
theorem dX12_helped_100 : decode cX12_helped 100 = .ok (.istore 5, 2) := by decide +kernel
theorem dX12_helped_102 : decode cX12_helped 102 = .ok (.iconst 0, 1) := by decide +kernel
theorem dX12_helped_103 : decode cX12_helped 103 = .ok (.istore 6, 2) := by decide +kernel
theorem dX12_helped_105 : decode cX12_helped 105 = .ok (.iconst 0, 1) := by decide +kernel
theorem dX12_helped_106 : decode cX12_helped 106 = .ok (.istore 7, 2) := by decide +kernel
theorem dX12_helped_108 : decode cX12_helped 108 = .ok (.iload 7, 2) := by decide +kernel
theorem dX12_helped_110 : decode cX12_helped 110 = .ok (.iconst 1, 1) := by decide +kernel
theorem dX12_helped_111 : decode cX12_helped 111 = .ok (.iload_n 2, 1) := by decide +kernel
theorem dX12_helped_112 : decode cX12_helped 112 = .ok (.ishl, 1) := by decide +kernel
theorem dX12_helped_113 : decode cX12_helped 113 = .ok (.if_icmp .ge 109, 3) := by decide +kernel
theorem dX12_helped_116 : decode cX12_helped 116 = .ok (.iconst 0, 1) := by decide +kernel
theorem dX12_helped_117 : decode cX12_helped 117 = .ok (.istore 8, 2) := by decide +kernel
theorem dX12_helped_119 : decode cX12_helped 119 = .ok (.iconst 0, 1) := by decide +kernel
theorem dX12_helped_120 : decode cX12_helped 120 = .ok (.istore 9, 2) := by decide +kernel
theorem dX12_helped_122 : decode cX12_helped 122 = .ok (.iconst 0, 1) := by decide +kernel
theorem dX12_helped_123 : decode cX12_helped 123 = .ok (.istore 10, 2) := by decide +kernel
theorem dX12_helped_125 : decode cX12_helped 125 = .ok (.iload 10, 2) := by decide +kernel
theorem dX12_helped_127 : decode cX12_helped 127 = .ok (.iload_n 2, 1) := by decide +kernel
theorem dX12_helped_128 : decode cX12_helped 128 = .ok (.if_icmp .ge 49, 3) := by decide +kernel
theorem dX12_helped_177 : decode cX12_helped 177 = .ok (.iload 5, 2) := by decide +kernel
theorem dX12_helped_179 : decode cX12_helped 179 = .ok (.iload 8, 2) := by decide +kernel
theorem dX12_helped_181 : decode cX12_helped 181 = .ok (.iload_n 3, 1) := by decide +kernel
theorem dX12_helped_182 : decode cX12_helped 182 = .ok (.if_icmp .ne 7, 3) := by decide +kernel
theorem dX12_helped_185 : decode cX12_helped 185 = .ok (.iconst 1, 1) := by decide +kernel
theorem dX12_helped_186 : decode cX12_helped 186 = .ok (.goto 4, 3) := by decide +kernel
theorem dX12_helped_190 : decode cX12_helped 190 = .ok (.iadd, 1) := by decide +kernel
theorem dX12_helped_191 : decode cX12_helped 191 = .ok (.istore 5, 2) := by decide +kernel
theorem dX12_helped_193 : decode cX12_helped 193 = .ok (.iload 6, 2) := by decide +kernel
theorem dX12_helped_195 : decode cX12_helped 195 = .ok (.iload 8, 2) := by decide +kernel
theorem dX12_helped_197 : decode cX12_helped 197 = .ok (.iload_n 3, 1) := by decide +kernel
theorem dX12_helped_198 : decode cX12_helped 198 = .ok (.if_icmp .ne 14, 3) := by decide +kernel
theorem dX12_helped_201 : decode cX12_helped 201 = .ok (.iload 9, 2) := by decide +kernel
theorem dX12_helped_203 : decode cX12_helped 203 = .ok (.iload 4, 2) := by decide +kernel
theorem dX12_helped_205 : decode cX12_helped 205 = .ok (.if_icmp .lt 7, 3) := by decide +kernel
theorem dX12_helped_208 : decode cX12_helped 208 = .ok (.iconst 1, 1) := by decide +kernel
theorem dX12_helped_209 : decode cX12_helped 209 = .ok (.goto 4, 3) := by decide +kernel
theorem dX12_helped_213 : decode cX12_helped 213 = .ok (.iadd, 1) := by decide +kernel
theorem dX12_helped_214 : decode cX12_helped 214 = .ok (.istore 6, 2) := by decide +kernel
theorem dX12_helped_216 : decode cX12_helped 216 = .ok (.iinc 7 1, 3) := by decide +kernel
theorem dX12_helped_219 : decode cX12_helped 219 = .ok (.goto (-111), 3) := by decide +kernel
theorem dX12_helped_222 : decode cX12_helped 222 = .ok (.iload_n 1, 1) := by decide +kernel
theorem dX12_helped_223 : decode cX12_helped 223 = .ok (.ifCond .ne 8, 3) := by decide +kernel
theorem dX12_helped_226 : decode cX12_helped 226 = .ok (.iload 6, 2) := by decide +kernel
theorem dX12_helped_228 : decode cX12_helped 228 = .ok (.goto 5, 3) := by decide +kernel
theorem dX12_helped_231 : decode cX12_helped 231 = .ok (.iload 5, 2) := by decide +kernel
theorem dX12_helped_233 : decode cX12_helped 233 = .ok (.ireturn, 1) := by decide +kernel
theorem dX12_image_0 : decode cX12_image 0 = .ok (.aload_n 0, 1) := by decide +kernel
theorem dX12_image_1 : decode cX12_image 1 = .ok (.iconst 0, 1) := by decide +kernel
theorem dX12_image_2 : decode cX12_image 2 = .ok (.putfield 92, 3) := by decide +kernel
theorem dX12_image_5 : decode cX12_image 5 = .ok (.iload_n 1, 1) := by decide +kernel
theorem dX12_image_6 : decode cX12_image 6 = .ok (.i2l, 1) := by decide +kernel
theorem dX12_image_7 : decode cX12_image 7 = .ok (.lconst 0, 1) := by decide +kernel
theorem dX12_image_8 : decode cX12_image 8 = .ok (.lconst 1, 1) := by decide +kernel
theorem dX12_image_9 : decode cX12_image 9 = .ok (.invokestatic 100, 3) := by decide +kernel
theorem dX12_image_12 : decode cX12_image 12 = .ok (.ifCond .ne 9, 3) := by decide +kernel
theorem dX12_image_15 : decode cX12_image 15 = .ok (.aload_n 0, 1) := by decide +kernel
theorem dX12_image_16 : decode cX12_image 16 = .ok (.iconst (-1), 1) := by decide +kernel
theorem dX12_image_17 : decode cX12_image 17 = .ok (.invokevirtual 106, 3) := by decide +kernel
theorem dX12_image_20 : decode cX12_image 20 = .ok (.ireturn, 1) := by decide +kernel
theorem dX12_image_21 : decode cX12_image 21 = .ok (.iconst 0, 1) := by decide +kernel
theorem dX12_image_22 : decode cX12_image 22 = .ok (.istore_n 2, 1) := by decide +kernel
theorem dX12_image_23 : decode cX12_image 23 = .ok (.iload_n 2, 1) := by decide +kernel
theorem dX12_image_24 : decode cX12_image 24 = .ok (.sipush 27101, 3) := by decide +kernel
theorem dX12_image_27 : decode cX12_image 27 = .ok (.if_icmp .ge 27, 3) := by decide +kernel
theorem dX12_image_30 : decode cX12_image 30 = .ok (.aload_n 0, 1) := by decide +kernel
theorem dX12_image_31 : decode cX12_image 31 = .ok (.getfield 14, 3) := by decide +kernel
theorem dX12_image_34 : decode cX12_image 34 = .ok (.sipush 27101, 3) := by decide +kernel
theorem dX12_image_37 : decode cX12_image 37 = .ok (.iload_n 1, 1) := by decide +kernel
theorem dX12_image_38 : decode cX12_image 38 = .ok (.imul, 1) := by decide +kernel
theorem dX12_image_39 : decode cX12_image 39 = .ok (.iload_n 2, 1) := by decide +kernel
theorem dX12_image_40 : decode cX12_image 40 = .ok (.iadd, 1) := by decide +kernel
theorem dX12_image_41 : decode cX12_image 41 = .ok (.aload_n 0, 1) := by decide +kernel
theorem dX12_image_42 : decode cX12_image 42 = .ok (.getfield 7, 3) := by decide +kernel
theorem dX12_image_45 : decode cX12_image 45 = .ok (.iload_n 2, 1) := by decide +kernel
theorem dX12_image_46 : decode cX12_image 46 = .ok (.iaload, 1) := by decide +kernel
theorem dX12_image_47 : decode cX12_image 47 = .ok (.iastore, 1) := by decide +kernel
theorem dX12_image_48 : decode cX12_image 48 = .ok (.iinc 2 1, 3) := by decide +kernel
theorem dX12_image_51 : decode cX12_image 51 = .ok (.goto (-28), 3) := by decide +kernel
theorem dX12_image_54 : decode cX12_image 54 = .ok (.aload_n 0, 1) := by decide +kernel
theorem dX12_image_55 : decode cX12_image 55 = .ok (.getfield 17, 3) := by decide +kernel
theorem dX12_image_58 : decode cX12_image 58 = .ok (.iload_n 1, 1) := by decide +kernel
theorem dX12_image_59 : decode cX12_image 59 = .ok (.iconst 1, 1) := by decide +kernel
theorem dX12_image_60 : decode cX12_image 60 = .ok (.bastore, 1) := by decide +kernel
theorem dX12_image_61 : decode cX12_image 61 = .ok (.aload_n 0, 1) := by decide +kernel
theorem dX12_image_62 : decode cX12_image 62 = .ok (.iconst 0, 1) := by decide +kernel
theorem dX12_image_63 : decode cX12_image 63 = .ok (.invokevirtual 106, 3) := by decide +kernel
theorem dX12_image_66 : decode cX12_image 66 = .ok (.ireturn, 1) := by decide +kernel
theorem dX12_in_0 : decode cX12_in 0 = .ok (.lload_n 0, 1) := by decide +kernel
theorem dX12_in_1 : decode cX12_in 1 = .ok (.lload_n 2, 1) := by decide +kernel
theorem dX12_in_2 : decode cX12_in 2 = .ok (.lcmp, 1) := by decide +kernel
theorem dX12_in_3 : decode cX12_in 3 = .ok (.ifCond .lt 14, 3) := by decide +kernel
theorem dX12_in_6 : decode cX12_in 6 = .ok (.lload_n 0, 1) := by decide +kernel
theorem dX12_in_7 : decode cX12_in 7 = .ok (.lload 4, 2) := by decide +kernel
theorem dX12_in_9 : decode cX12_in 9 = .ok (.lcmp, 1) := by decide +kernel
theorem dX12_in_10 : decode cX12_in 10 = .ok (.ifCond .gt 7, 3) := by decide +kernel
theorem dX12_in_13 : decode cX12_in 13 = .ok (.iconst 1, 1) := by decide +kernel
theorem dX12_in_14 : decode cX12_in 14 = .ok (.goto 4, 3) := by decide +kernel
theorem dX12_in_17 : decode cX12_in 17 = .ok (.iconst 0, 1) := by decide +kernel
theorem dX12_in_18 : decode cX12_in 18 = .ok (.ireturn, 1) := by decide +kernel
theorem dX12_init_0 : decode cX12_init 0 = .ok (.aload_n 0, 1) := by decide +kernel
theorem dX12_init_1 : decode cX12_init 1 = .ok (.invokespecial 1, 3) := by decide +kernel
theorem dX12_init_4 : decode cX12_init 4 = .ok (.aload_n 0, 1) := by decide +kernel
theorem dX12_init_5 : decode cX12_init 5 = .ok (.sipush 27101, 3) := by decide +kernel
theorem dX12_init_8 : decode cX12_init 8 = .ok (.newarray .int, 2) := by decide +kernel
theorem dX12_init_10 : decode cX12_init 10 = .ok (.putfield 7, 3) := by decide +kernel
theorem dX12_init_13 : decode cX12_init 13 = .ok (.aload_n 0, 1) := by decide +kernel
theorem dX12_init_14 : decode cX12_init 14 = .ok (.ldc 13, 2) := by decide +kernel
theorem dX12_init_16 : decode cX12_init 16 = .ok (.newarray .int, 2) := by decide +kernel
theorem dX12_init_18 : decode cX12_init 18 = .ok (.putfield 14, 3) := by decide +kernel
theorem dX12_init_21 : decode cX12_init 21 = .ok (.aload_n 0, 1) := by decide +kernel
theorem dX12_init_22 : decode cX12_init 22 = .ok (.iconst 2, 1) := by decide +kernel
theorem dX12_init_23 : decode cX12_init 23 = .ok (.newarray .boolean, 2) := by decide +kernel
theorem dX12_init_25 : decode cX12_init 25 = .ok (.putfield 17, 3) := by decide +kernel
theorem dX12_init_28 : decode cX12_init 28 = .ok (.aload_n 0, 1) := by decide +kernel
theorem dX12_init_29 : decode cX12_init 29 = .ok (.sipush 400, 3) := by decide +kernel
theorem dX12_init_32 : decode cX12_init 32 = .ok (.newarray .boolean, 2) := by decide +kernel
theorem dX12_init_34 : decode cX12_init 34 = .ok (.putfield 21, 3) := by decide +kernel
theorem dX12_init_37 : decode cX12_init 37 = .ok (.aload_n 0, 1) := by decide +kernel
theorem dX12_init_38 : decode cX12_init 38 = .ok (.sipush 400, 3) := by decide +kernel
theorem dX12_init_41 : decode cX12_init 41 = .ok (.newarray .int, 2) := by decide +kernel
theorem dX12_init_43 : decode cX12_init 43 = .ok (.putfield 24, 3) := by decide +kernel
theorem dX12_init_46 : decode cX12_init 46 = .ok (.aload_n 0, 1) := by decide +kernel
theorem dX12_init_47 : decode cX12_init 47 = .ok (.sipush 400, 3) := by decide +kernel
theorem dX12_init_50 : decode cX12_init 50 = .ok (.newarray .int, 2) := by decide +kernel
theorem dX12_init_52 : decode cX12_init 52 = .ok (.putfield 27, 3) := by decide +kernel
theorem dX12_init_55 : decode cX12_init 55 = .ok (.aload_n 0, 1) := by decide +kernel
theorem dX12_init_56 : decode cX12_init 56 = .ok (.sipush 400, 3) := by decide +kernel
theorem dX12_init_59 : decode cX12_init 59 = .ok (.newarray .int, 2) := by decide +kernel
theorem dX12_init_61 : decode cX12_init 61 = .ok (.putfield 30, 3) := by decide +kernel
theorem dX12_init_64 : decode cX12_init 64 = .ok (.aload_n 0, 1) := by decide +kernel
theorem dX12_init_65 : decode cX12_init 65 = .ok (.sipush 400, 3) := by decide +kernel
theorem dX12_init_68 : decode cX12_init 68 = .ok (.newarray .int, 2) := by decide +kernel
theorem dX12_init_70 : decode cX12_init 70 = .ok (.putfield 33, 3) := by decide +kernel
theorem dX12_init_73 : decode cX12_init 73 = .ok (.aload_n 0, 1) := by decide +kernel
theorem dX12_init_74 : decode cX12_init 74 = .ok (.iconst (-1), 1) := by decide +kernel
theorem dX12_init_75 : decode cX12_init 75 = .ok (.putfield 36, 3) := by decide +kernel
theorem dX12_init_78 : decode cX12_init 78 = .ok (.aload_n 0, 1) := by decide +kernel
theorem dX12_init_79 : decode cX12_init 79 = .ok (.bipush 120, 2) := by decide +kernel
theorem dX12_init_81 : decode cX12_init 81 = .ok (.newarray .int, 2) := by decide +kernel
theorem dX12_init_83 : decode cX12_init 83 = .ok (.putfield 40, 3) := by decide +kernel
theorem dX12_init_86 : decode cX12_init 86 = .ok (.aload_n 0, 1) := by decide +kernel
theorem dX12_init_87 : decode cX12_init 87 = .ok (.sipush 400, 3) := by decide +kernel
theorem dX12_init_90 : decode cX12_init 90 = .ok (.newarray .int, 2) := by decide +kernel
theorem dX12_init_92 : decode cX12_init 92 = .ok (.putfield 43, 3) := by decide +kernel
theorem dX12_init_95 : decode cX12_init 95 = .ok (.aload_n 0, 1) := by decide +kernel
theorem dX12_init_96 : decode cX12_init 96 = .ok (.sipush 400, 3) := by decide +kernel
theorem dX12_init_99 : decode cX12_init 99 = .ok (.newarray .int, 2) := by decide +kernel
theorem dX12_init_101 : decode cX12_init 101 = .ok (.putfield 46, 3) := by decide +kernel
theorem dX12_init_104 : decode cX12_init 104 = .ok (.aload_n 0, 1) := by decide +kernel
theorem dX12_init_105 : decode cX12_init 105 = .ok (.sipush 400, 3) := by decide +kernel
theorem dX12_init_108 : decode cX12_init 108 = .ok (.newarray .int, 2) := by decide +kernel
theorem dX12_init_110 : decode cX12_init 110 = .ok (.putfield 49, 3) := by decide +kernel
theorem dX12_init_113 : decode cX12_init 113 = .ok (.aload_n 0, 1) := by decide +kernel
theorem dX12_init_114 : decode cX12_init 114 = .ok (.sipush 400, 3) := by decide +kernel
theorem dX12_init_117 : decode cX12_init 117 = .ok (.newarray .int, 2) := by decide +kernel
theorem dX12_init_119 : decode cX12_init 119 = .ok (.putfield 52, 3) := by decide +kernel
theorem dX12_init_122 : decode cX12_init 122 = .ok (.aload_n 0, 1) := by decide +kernel
theorem dX12_init_123 : decode cX12_init 123 = .ok (.bipush 20, 2) := by decide +kernel
theorem dX12_init_125 : decode cX12_init 125 = .ok (.newarray .boolean, 2) := by decide +kernel
theorem dX12_init_127 : decode cX12_init 127 = .ok (.putfield 55, 3) := by decide +kernel
theorem dX12_init_130 : decode cX12_init 130 = .ok (.aload_n 0, 1) := by decide +kernel
theorem dX12_init_131 : decode cX12_init 131 = .ok (.sipush 240, 3) := by decide +kernel
theorem dX12_init_134 : decode cX12_init 134 = .ok (.newarray .boolean, 2) := by decide +kernel
theorem dX12_init_136 : decode cX12_init 136 = .ok (.putfield 58, 3) := by decide +kernel
theorem dX12_init_139 : decode cX12_init 139 = .ok (.aload_n 0, 1) := by decide +kernel
theorem dX12_init_140 : decode cX12_init 140 = .ok (.bipush 16, 2) := by decide +kernel
theorem dX12_init_142 : decode cX12_init 142 = .ok (.newarray .long, 2) := by decide +kernel
theorem dX12_init_144 : decode cX12_init 144 = .ok (.putfield 61, 3) := by decide +kernel
theorem dX12_init_147 : decode cX12_init 147 = .ok (.aload_n 0, 1) := by decide +kernel
theorem dX12_init_148 : decode cX12_init 148 = .ok (.sipush 400, 3) := by decide +kernel
theorem dX12_init_151 : decode cX12_init 151 = .ok (.newarray .long, 2) := by decide +kernel
theorem dX12_init_153 : decode cX12_init 153 = .ok (.putfield 65, 3) := by decide +kernel
theorem dX12_init_156 : decode cX12_init 156 = .ok (.aload_n 0, 1) := by decide +kernel
theorem dX12_init_157 : decode cX12_init 157 = .ok (.sipush 401, 3) := by decide +kernel
theorem dX12_init_160 : decode cX12_init 160 = .ok (.newarray .int, 2) := by decide +kernel
theorem dX12_init_162 : decode cX12_init 162 = .ok (.putfield 68, 3) := by decide +kernel
theorem dX12_init_165 : decode cX12_init 165 = .ok (.aload_n 0, 1) := by decide +kernel
theorem dX12_init_166 : decode cX12_init 166 = .ok (.sipush 401, 3) := by decide +kernel
theorem dX12_init_169 : decode cX12_init 169 = .ok (.newarray .int, 2) := by decide +kernel
theorem dX12_init_171 : decode cX12_init 171 = .ok (.putfield 71, 3) := by decide +kernel
theorem dX12_init_174 : decode cX12_init 174 = .ok (.aload_n 0, 1) := by decide +kernel
theorem dX12_init_175 : decode cX12_init 175 = .ok (.bipush 6, 2) := by decide +kernel
theorem dX12_init_177 : decode cX12_init 177 = .ok (.newarray .int, 2) := by decide +kernel
theorem dX12_init_179 : decode cX12_init 179 = .ok (.putfield 74, 3) := by decide +kernel
theorem dX12_init_182 : decode cX12_init 182 = .ok (.aload_n 0, 1) := by decide +kernel
theorem dX12_init_183 : decode cX12_init 183 = .ok (.bipush 6, 2) := by decide +kernel
theorem dX12_init_185 : decode cX12_init 185 = .ok (.newarray .int, 2) := by decide +kernel
theorem dX12_init_187 : decode cX12_init 187 = .ok (.putfield 77, 3) := by decide +kernel
theorem dX12_init_190 : decode cX12_init 190 = .ok (.aload_n 0, 1) := by decide +kernel
theorem dX12_init_191 : decode cX12_init 191 = .ok (.sipush 4608, 3) := by decide +kernel
theorem dX12_init_194 : decode cX12_init 194 = .ok (.newarray .int, 2) := by decide +kernel
theorem dX12_init_196 : decode cX12_init 196 = .ok (.putfield 80, 3) := by decide +kernel
theorem dX12_init_199 : decode cX12_init 199 = .ok (.aload_n 0, 1) := by decide +kernel
theorem dX12_init_200 : decode cX12_init 200 = .ok (.iconst 5, 1) := by decide +kernel
theorem dX12_init_201 : decode cX12_init 201 = .ok (.newarray .int, 2) := by decide +kernel
theorem dX12_init_203 : decode cX12_init 203 = .ok (.putfield 83, 3) := by decide +kernel
theorem dX12_init_206 : decode cX12_init 206 = .ok (.aload_n 0, 1) := by decide +kernel
theorem dX12_init_207 : decode cX12_init 207 = .ok (.iconst 5, 1) := by decide +kernel
theorem dX12_init_208 : decode cX12_init 208 = .ok (.newarray .int, 2) := by decide +kernel
theorem dX12_init_210 : decode cX12_init 210 = .ok (.putfield 86, 3) := by decide +kernel
theorem dX12_init_213 : decode cX12_init 213 = .ok (.aload_n 0, 1) := by decide +kernel
theorem dX12_init_214 : decode cX12_init 214 = .ok (.sipush 400, 3) := by decide +kernel
theorem dX12_init_217 : decode cX12_init 217 = .ok (.newarray .int, 2) := by decide +kernel
theorem dX12_init_219 : decode cX12_init 219 = .ok (.putfield 89, 3) := by decide +kernel
theorem dX12_init_222 : decode cX12_init 222 = .ok (.return_, 1) := by decide +kernel
theorem dX12_isChild_0 : decode cX12_isChild 0 = .ok (.iload_n 1, 1) := by decide +kernel
theorem dX12_isChild_1 : decode cX12_isChild 1 = .ok (.i2l, 1) := by decide +kernel
theorem dX12_isChild_2 : decode cX12_isChild 2 = .ok (.lconst 0, 1) := by decide +kernel
theorem dX12_isChild_3 : decode cX12_isChild 3 = .ok (.aload_n 0, 1) := by decide +kernel
theorem dX12_isChild_4 : decode cX12_isChild 4 = .ok (.getfield 7, 3) := by decide +kernel
theorem dX12_isChild_7 : decode cX12_isChild 7 = .ok (.iconst 0, 1) := by decide +kernel
theorem dX12_isChild_8 : decode cX12_isChild 8 = .ok (.iaload, 1) := by decide +kernel
theorem dX12_isChild_9 : decode cX12_isChild 9 = .ok (.i2l, 1) := by decide +kernel
theorem dX12_isChild_10 : decode cX12_isChild 10 = .ok (.lconst 1, 1) := by decide +kernel
theorem dX12_isChild_11 : decode cX12_isChild 11 = .ok (.lsub, 1) := by decide +kernel
theorem dX12_isChild_12 : decode cX12_isChild 12 = .ok (.invokestatic 100, 3) := by decide +kernel
theorem dX12_isChild_15 : decode cX12_isChild 15 = .ok (.ireturn, 1) := by decide +kernel
theorem dX12_isDay_0 : decode cX12_isDay 0 = .ok (.iload_n 0, 1) := by decide +kernel
theorem dX12_isDay_1 : decode cX12_isDay 1 = .ok (.i2l, 1) := by decide +kernel
theorem dX12_isDay_2 : decode cX12_isDay 2 = .ok (.lconst 0, 1) := by decide +kernel
theorem dX12_isDay_3 : decode cX12_isDay 3 = .ok (.ldc2_w 98, 3) := by decide +kernel
theorem dX12_isDay_6 : decode cX12_isDay 6 = .ok (.invokestatic 100, 3) := by decide +kernel
theorem dX12_isDay_9 : decode cX12_isDay 9 = .ok (.ireturn, 1) := by decide +kernel
theorem dX12_isHalf_0 : decode cX12_isHalf 0 = .ok (.iload_n 0, 1) := by decide +kernel
theorem dX12_isHalf_1 : decode cX12_isHalf 1 = .ok (.i2l, 1) := by decide +kernel
theorem dX12_isHalf_2 : decode cX12_isHalf 2 = .ok (.lconst 0, 1) := by decide +kernel
theorem dX12_isHalf_3 : decode cX12_isHalf 3 = .ok (.ldc2_w 104, 3) := by decide +kernel
theorem dX12_isHalf_6 : decode cX12_isHalf 6 = .ok (.invokestatic 100, 3) := by decide +kernel
theorem dX12_isHalf_9 : decode cX12_isHalf 9 = .ok (.ireturn, 1) := by decide +kernel
theorem dX12_isJoin_0 : decode cX12_isJoin 0 = .ok (.aload_n 0, 1) := by decide +kernel
theorem dX12_isJoin_1 : decode cX12_isJoin 1 = .ok (.iconst 0, 1) := by decide +kernel
theorem dX12_isJoin_2 : decode cX12_isJoin 2 = .ok (.putfield 498, 3) := by decide +kernel
theorem dX12_isJoin_5 : decode cX12_isJoin 5 = .ok (.aload_n 0, 1) := by decide +kernel
theorem dX12_isJoin_6 : decode cX12_isJoin 6 = .ok (.iconst 0, 1) := by decide +kernel
theorem dX12_isJoin_7 : decode cX12_isJoin 7 = .ok (.putfield 501, 3) := by decide +kernel
theorem dX12_isJoin_10 : decode cX12_isJoin 10 = .ok (.iconst 0, 1) := by decide +kernel
theorem dX12_isJoin_11 : decode cX12_isJoin 11 = .ok (.istore_n 2, 1) := by decide +kernel
theorem dX12_isJoin_12 : decode cX12_isJoin 12 = .ok (.iconst 0, 1) := by decide +kernel
theorem dX12_isJoin_13 : decode cX12_isJoin 13 = .ok (.istore_n 3, 1) := by decide +kernel
theorem dX12_isJoin_14 : decode cX12_isJoin 14 = .ok (.iload_n 3, 1) := by decide +kernel
theorem dX12_isJoin_15 : decode cX12_isJoin 15 = .ok (.aload_n 0, 1) := by decide +kernel
theorem dX12_isJoin_16 : decode cX12_isJoin 16 = .ok (.getfield 7, 3) := by decide +kernel
theorem dX12_isJoin_19 : decode cX12_isJoin 19 = .ok (.bipush 6, 2) := by decide +kernel
theorem dX12_isJoin_21 : decode cX12_isJoin 21 = .ok (.iaload, 1) := by decide +kernel
theorem dX12_isJoin_22 : decode cX12_isJoin 22 = .ok (.if_icmp .ge 90, 3) := by decide +kernel
theorem dX12_isJoin_112 : decode cX12_isJoin 112 = .ok (.iconst 1, 1) := by decide +kernel
theorem dX12_isJoin_113 : decode cX12_isJoin 113 = .ok (.ireturn, 1) := by decide +kernel
theorem dX12_isMark_0 : decode cX12_isMark 0 = .ok (.iload_n 1, 1) := by decide +kernel
theorem dX12_isMark_1 : decode cX12_isMark 1 = .ok (.i2l, 1) := by decide +kernel
theorem dX12_isMark_2 : decode cX12_isMark 2 = .ok (.lconst 0, 1) := by decide +kernel
theorem dX12_isMark_3 : decode cX12_isMark 3 = .ok (.aload_n 0, 1) := by decide +kernel
theorem dX12_isMark_4 : decode cX12_isMark 4 = .ok (.getfield 7, 3) := by decide +kernel
theorem dX12_isMark_7 : decode cX12_isMark 7 = .ok (.iconst 3, 1) := by decide +kernel
theorem dX12_isMark_8 : decode cX12_isMark 8 = .ok (.iaload, 1) := by decide +kernel
theorem dX12_isMark_9 : decode cX12_isMark 9 = .ok (.i2l, 1) := by decide +kernel
theorem dX12_isMark_10 : decode cX12_isMark 10 = .ok (.lconst 1, 1) := by decide +kernel
theorem dX12_isMark_11 : decode cX12_isMark 11 = .ok (.lsub, 1) := by decide +kernel
theorem dX12_isMark_12 : decode cX12_isMark 12 = .ok (.invokestatic 100, 3) := by decide +kernel
theorem dX12_isMark_15 : decode cX12_isMark 15 = .ok (.ireturn, 1) := by decide +kernel
theorem dX12_isOn_0 : decode cX12_isOn 0 = .ok (.aload_n 0, 1) := by decide +kernel
theorem dX12_isOn_1 : decode cX12_isOn 1 = .ok (.iconst 0, 1) := by decide +kernel
theorem dX12_isOn_2 : decode cX12_isOn 2 = .ok (.putfield 92, 3) := by decide +kernel
theorem dX12_isOn_5 : decode cX12_isOn 5 = .ok (.aload_n 0, 1) := by decide +kernel
theorem dX12_isOn_6 : decode cX12_isOn 6 = .ok (.iload_n 1, 1) := by decide +kernel
theorem dX12_isOn_7 : decode cX12_isOn 7 = .ok (.invokevirtual 138, 3) := by decide +kernel
theorem dX12_isOn_10 : decode cX12_isOn 10 = .ok (.ifCond .eq 36, 3) := by decide +kernel
theorem dX12_isOn_46 : decode cX12_isOn 46 = .ok (.iconst (-1), 1) := by decide +kernel
theorem dX12_isOn_47 : decode cX12_isOn 47 = .ok (.ireturn, 1) := by decide +kernel
theorem dX12_isSchool_0 : decode cX12_isSchool 0 = .ok (.iload_n 1, 1) := by decide +kernel
theorem dX12_isSchool_1 : decode cX12_isSchool 1 = .ok (.i2l, 1) := by decide +kernel
theorem dX12_isSchool_2 : decode cX12_isSchool 2 = .ok (.lconst 0, 1) := by decide +kernel
theorem dX12_isSchool_3 : decode cX12_isSchool 3 = .ok (.aload_n 0, 1) := by decide +kernel
theorem dX12_isSchool_4 : decode cX12_isSchool 4 = .ok (.getfield 7, 3) := by decide +kernel
theorem dX12_isSchool_7 : decode cX12_isSchool 7 = .ok (.iconst 1, 1) := by decide +kernel
theorem dX12_isSchool_8 : decode cX12_isSchool 8 = .ok (.iaload, 1) := by decide +kernel
theorem dX12_isSchool_9 : decode cX12_isSchool 9 = .ok (.i2l, 1) := by decide +kernel
theorem dX12_isSchool_10 : decode cX12_isSchool 10 = .ok (.lconst 1, 1) := by decide +kernel
theorem dX12_isSchool_11 : decode cX12_isSchool 11 = .ok (.lsub, 1) := by decide +kernel
theorem dX12_isSchool_12 : decode cX12_isSchool 12 = .ok (.invokestatic 100, 3) := by decide +kernel
theorem dX12_isSchool_15 : decode cX12_isSchool 15 = .ok (.ireturn, 1) := by decide +kernel
theorem dX12_isStep_0 : decode cX12_isStep 0 = .ok (.iload_n 0, 1) := by decide +kernel
theorem dX12_isStep_1 : decode cX12_isStep 1 = .ok (.i2l, 1) := by decide +kernel
theorem dX12_isStep_2 : decode cX12_isStep 2 = .ok (.lconst 0, 1) := by decide +kernel
theorem dX12_isStep_3 : decode cX12_isStep 3 = .ok (.ldc2_w 110, 3) := by decide +kernel
theorem dX12_isStep_6 : decode cX12_isStep 6 = .ok (.invokestatic 100, 3) := by decide +kernel
theorem dX12_isStep_9 : decode cX12_isStep 9 = .ok (.ireturn, 1) := by decide +kernel
theorem dX12_isWord_0 : decode cX12_isWord 0 = .ok (.aload_n 0, 1) := by decide +kernel
theorem dX12_isWord_1 : decode cX12_isWord 1 = .ok (.getfield 222, 3) := by decide +kernel
theorem dX12_isWord_4 : decode cX12_isWord 4 = .ok (.iconst 1, 1) := by decide +kernel
theorem dX12_isWord_5 : decode cX12_isWord 5 = .ok (.if_icmp .ne 16, 3) := by decide +kernel
theorem dX12_isWord_21 : decode cX12_isWord 21 = .ok (.iconst 0, 1) := by decide +kernel
theorem dX12_isWord_22 : decode cX12_isWord 22 = .ok (.ireturn, 1) := by decide +kernel
theorem dX12_join_0 : decode cX12_join 0 = .ok (.aload_n 0, 1) := by decide +kernel
theorem dX12_join_1 : decode cX12_join 1 = .ok (.iconst 0, 1) := by decide +kernel
theorem dX12_join_2 : decode cX12_join 2 = .ok (.putfield 92, 3) := by decide +kernel
theorem dX12_join_5 : decode cX12_join 5 = .ok (.iload_n 1, 1) := by decide +kernel
theorem dX12_join_6 : decode cX12_join 6 = .ok (.i2l, 1) := by decide +kernel
theorem dX12_join_7 : decode cX12_join 7 = .ok (.lconst 0, 1) := by decide +kernel
theorem dX12_join_8 : decode cX12_join 8 = .ok (.ldc2_w 507, 3) := by decide +kernel
theorem dX12_join_11 : decode cX12_join 11 = .ok (.invokestatic 100, 3) := by decide +kernel
theorem dX12_join_14 : decode cX12_join 14 = .ok (.ifCond .ne 5, 3) := by decide +kernel
theorem dX12_join_17 : decode cX12_join 17 = .ok (.iconst (-1), 1) := by decide +kernel
theorem dX12_join_18 : decode cX12_join 18 = .ok (.ireturn, 1) := by decide +kernel
theorem dX12_join_19 : decode cX12_join 19 = .ok (.aload_n 0, 1) := by decide +kernel
theorem dX12_join_20 : decode cX12_join 20 = .ok (.getfield 7, 3) := by decide +kernel
theorem dX12_join_23 : decode cX12_join 23 = .ok (.bipush 6, 2) := by decide +kernel
theorem dX12_join_25 : decode cX12_join 25 = .ok (.iaload, 1) := by decide +kernel
theorem dX12_join_26 : decode cX12_join 26 = .ok (.istore_n 2, 1) := by decide +kernel
theorem dX12_join_27 : decode cX12_join 27 = .ok (.aload_n 0, 1) := by decide +kernel
theorem dX12_join_28 : decode cX12_join 28 = .ok (.getfield 7, 3) := by decide +kernel
theorem dX12_join_31 : decode cX12_join 31 = .ok (.iconst 5, 1) := by decide +kernel
theorem dX12_join_32 : decode cX12_join 32 = .ok (.iaload, 1) := by decide +kernel
theorem dX12_join_33 : decode cX12_join 33 = .ok (.iconst 1, 1) := by decide +kernel
theorem dX12_join_34 : decode cX12_join 34 = .ok (.iadd, 1) := by decide +kernel
theorem dX12_join_35 : decode cX12_join 35 = .ok (.istore_n 3, 1) := by decide +kernel
theorem dX12_join_36 : decode cX12_join 36 = .ok (.iconst 1, 1) := by decide +kernel
theorem dX12_join_37 : decode cX12_join 37 = .ok (.istore 4, 2) := by decide +kernel
theorem dX12_join_39 : decode cX12_join 39 = .ok (.iconst 0, 1) := by decide +kernel
theorem dX12_join_40 : decode cX12_join 40 = .ok (.istore 5, 2) := by decide +kernel
theorem dX12_join_42 : decode cX12_join 42 = .ok (.iload 5, 2) := by decide +kernel
theorem dX12_join_44 : decode cX12_join 44 = .ok (.iload_n 2, 1) := by decide +kernel
theorem dX12_join_45 : decode cX12_join 45 = .ok (.if_icmp .ge 15, 3) := by decide +kernel
theorem dX12_join_60 : decode cX12_join 60 = .ok (.iconst (-1), 1) := by decide +kernel
theorem dX12_join_61 : decode cX12_join 61 = .ok (.istore 5, 2) := by decide +kernel
theorem dX12_join_63 : decode cX12_join 63 = .ok (.iconst 0, 1) := by decide +kernel
theorem dX12_join_64 : decode cX12_join 64 = .ok (.istore 6, 2) := by decide +kernel
theorem dX12_join_66 : decode cX12_join 66 = .ok (.iconst 0, 1) := by decide +kernel
theorem dX12_join_67 : decode cX12_join 67 = .ok (.istore 7, 2) := by decide +kernel
theorem dX12_join_69 : decode cX12_join 69 = .ok (.iload 7, 2) := by decide +kernel
theorem dX12_join_71 : decode cX12_join 71 = .ok (.iload 4, 2) := by decide +kernel
theorem dX12_join_73 : decode cX12_join 73 = .ok (.if_icmp .ge 173, 3) := by decide +kernel
theorem dX12_join_76 : decode cX12_join 76 = .ok (.iload 7, 2) := by decide +kernel
theorem dX12_join_78 : decode cX12_join 78 = .ok (.istore 8, 2) := by decide +kernel
theorem dX12_join_80 : decode cX12_join 80 = .ok (.iload_n 2, 1) := by decide +kernel
theorem dX12_join_81 : decode cX12_join 81 = .ok (.iconst 1, 1) := by decide +kernel
theorem dX12_join_82 : decode cX12_join 82 = .ok (.isub, 1) := by decide +kernel
theorem dX12_join_83 : decode cX12_join 83 = .ok (.istore 9, 2) := by decide +kernel
theorem dX12_join_85 : decode cX12_join 85 = .ok (.iload 9, 2) := by decide +kernel
theorem dX12_join_87 : decode cX12_join 87 = .ok (.ifCond .lt 40, 3) := by decide +kernel
theorem dX12_join_127 : decode cX12_join 127 = .ok (.aload_n 0, 1) := by decide +kernel
theorem dX12_join_128 : decode cX12_join 128 = .ok (.iload_n 1, 1) := by decide +kernel
theorem dX12_join_129 : decode cX12_join 129 = .ok (.invokevirtual 509, 3) := by decide +kernel
theorem dX12_join_132 : decode cX12_join 132 = .ok (.ifCond .eq 108, 3) := by decide +kernel
theorem dX12_join_135 : decode cX12_join 135 = .ok (.aload_n 0, 1) := by decide +kernel
theorem dX12_join_136 : decode cX12_join 136 = .ok (.getfield 498, 3) := by decide +kernel
theorem dX12_join_139 : decode cX12_join 139 = .ok (.iload 5, 2) := by decide +kernel
theorem dX12_join_141 : decode cX12_join 141 = .ok (.if_icmp .gt 21, 3) := by decide +kernel
theorem dX12_join_162 : decode cX12_join 162 = .ok (.aload_n 0, 1) := by decide +kernel
theorem dX12_join_163 : decode cX12_join 163 = .ok (.getfield 498, 3) := by decide +kernel
theorem dX12_join_166 : decode cX12_join 166 = .ok (.istore 5, 2) := by decide +kernel
theorem dX12_join_168 : decode cX12_join 168 = .ok (.aload_n 0, 1) := by decide +kernel
theorem dX12_join_169 : decode cX12_join 169 = .ok (.getfield 501, 3) := by decide +kernel
theorem dX12_join_172 : decode cX12_join 172 = .ok (.istore 6, 2) := by decide +kernel
theorem dX12_join_174 : decode cX12_join 174 = .ok (.aload_n 0, 1) := by decide +kernel
theorem dX12_join_175 : decode cX12_join 175 = .ok (.iconst 0, 1) := by decide +kernel
theorem dX12_join_176 : decode cX12_join 176 = .ok (.putfield 512, 3) := by decide +kernel
theorem dX12_join_179 : decode cX12_join 179 = .ok (.iconst 0, 1) := by decide +kernel
theorem dX12_join_180 : decode cX12_join 180 = .ok (.istore 9, 2) := by decide +kernel
theorem dX12_join_182 : decode cX12_join 182 = .ok (.iload 9, 2) := by decide +kernel
theorem dX12_join_184 : decode cX12_join 184 = .ok (.iload_n 2, 1) := by decide +kernel
theorem dX12_join_185 : decode cX12_join 185 = .ok (.if_icmp .ge 23, 3) := by decide +kernel
theorem dX12_join_208 : decode cX12_join 208 = .ok (.aload_n 0, 1) := by decide +kernel
theorem dX12_join_209 : decode cX12_join 209 = .ok (.dup, 1) := by decide +kernel
theorem dX12_join_210 : decode cX12_join 210 = .ok (.getfield 512, 3) := by decide +kernel
theorem dX12_join_213 : decode cX12_join 213 = .ok (.aload_n 0, 1) := by decide +kernel
theorem dX12_join_214 : decode cX12_join 214 = .ok (.getfield 498, 3) := by decide +kernel
theorem dX12_join_217 : decode cX12_join 217 = .ok (.iload 5, 2) := by decide +kernel
theorem dX12_join_219 : decode cX12_join 219 = .ok (.if_icmp .ne 16, 3) := by decide +kernel
theorem dX12_join_222 : decode cX12_join 222 = .ok (.aload_n 0, 1) := by decide +kernel
theorem dX12_join_223 : decode cX12_join 223 = .ok (.getfield 501, 3) := by decide +kernel
theorem dX12_join_226 : decode cX12_join 226 = .ok (.iload 6, 2) := by decide +kernel
theorem dX12_join_228 : decode cX12_join 228 = .ok (.if_icmp .ne 7, 3) := by decide +kernel
theorem dX12_join_231 : decode cX12_join 231 = .ok (.iconst 1, 1) := by decide +kernel
theorem dX12_join_232 : decode cX12_join 232 = .ok (.goto 4, 3) := by decide +kernel
theorem dX12_join_236 : decode cX12_join 236 = .ok (.iadd, 1) := by decide +kernel
theorem dX12_join_237 : decode cX12_join 237 = .ok (.putfield 512, 3) := by decide +kernel
theorem dX12_join_240 : decode cX12_join 240 = .ok (.iinc 7 1, 3) := by decide +kernel
theorem dX12_join_243 : decode cX12_join 243 = .ok (.goto (-174), 3) := by decide +kernel
theorem dX12_join_246 : decode cX12_join 246 = .ok (.aload_n 0, 1) := by decide +kernel
theorem dX12_join_247 : decode cX12_join 247 = .ok (.iconst 1, 1) := by decide +kernel
theorem dX12_join_248 : decode cX12_join 248 = .ok (.putfield 515, 3) := by decide +kernel
theorem dX12_join_251 : decode cX12_join 251 = .ok (.aload_n 0, 1) := by decide +kernel
theorem dX12_join_252 : decode cX12_join 252 = .ok (.iload_n 2, 1) := by decide +kernel
theorem dX12_join_253 : decode cX12_join 253 = .ok (.putfield 518, 3) := by decide +kernel
theorem dX12_join_256 : decode cX12_join 256 = .ok (.iload 5, 2) := by decide +kernel
theorem dX12_join_258 : decode cX12_join 258 = .ok (.ireturn, 1) := by decide +kernel
theorem dX12_joined_0 : decode cX12_joined 0 = .ok (.aload_n 0, 1) := by decide +kernel
theorem dX12_joined_1 : decode cX12_joined 1 = .ok (.iconst 0, 1) := by decide +kernel
theorem dX12_joined_2 : decode cX12_joined 2 = .ok (.putfield 92, 3) := by decide +kernel
theorem dX12_joined_5 : decode cX12_joined 5 = .ok (.aload_n 0, 1) := by decide +kernel
theorem dX12_joined_6 : decode cX12_joined 6 = .ok (.getfield 515, 3) := by decide +kernel
theorem dX12_joined_9 : decode cX12_joined 9 = .ok (.ifCond .ne 7, 3) := by decide +kernel
theorem dX12_joined_12 : decode cX12_joined 12 = .ok (.iconst (-1), 1) := by decide +kernel
theorem dX12_joined_13 : decode cX12_joined 13 = .ok (.goto 41, 3) := by decide +kernel
theorem dX12_joined_54 : decode cX12_joined 54 = .ok (.ireturn, 1) := by decide +kernel
theorem dX12_judge_0 : decode cX12_judge 0 = .ok (.aload_n 0, 1) := by decide +kernel
theorem dX12_judge_1 : decode cX12_judge 1 = .ok (.iconst 0, 1) := by decide +kernel
theorem dX12_judge_2 : decode cX12_judge 2 = .ok (.putfield 92, 3) := by decide +kernel
theorem dX12_judge_5 : decode cX12_judge 5 = .ok (.iconst 1, 1) := by decide +kernel
theorem dX12_judge_6 : decode cX12_judge 6 = .ok (.istore_n 3, 1) := by decide +kernel
theorem dX12_judge_7 : decode cX12_judge 7 = .ok (.iconst 0, 1) := by decide +kernel
theorem dX12_judge_8 : decode cX12_judge 8 = .ok (.istore 4, 2) := by decide +kernel
theorem dX12_judge_10 : decode cX12_judge 10 = .ok (.iload 4, 2) := by decide +kernel
theorem dX12_judge_12 : decode cX12_judge 12 = .ok (.aload_n 0, 1) := by decide +kernel
theorem dX12_judge_13 : decode cX12_judge 13 = .ok (.getfield 7, 3) := by decide +kernel
theorem dX12_judge_16 : decode cX12_judge 16 = .ok (.bipush 6, 2) := by decide +kernel
theorem dX12_judge_18 : decode cX12_judge 18 = .ok (.iaload, 1) := by decide +kernel
theorem dX12_judge_19 : decode cX12_judge 19 = .ok (.if_icmp .ge 14, 3) := by decide +kernel
theorem dX12_judge_33 : decode cX12_judge 33 = .ok (.iload_n 1, 1) := by decide +kernel
theorem dX12_judge_34 : decode cX12_judge 34 = .ok (.i2l, 1) := by decide +kernel
theorem dX12_judge_35 : decode cX12_judge 35 = .ok (.lconst 0, 1) := by decide +kernel
theorem dX12_judge_36 : decode cX12_judge 36 = .ok (.iload_n 3, 1) := by decide +kernel
theorem dX12_judge_37 : decode cX12_judge 37 = .ok (.i2l, 1) := by decide +kernel
theorem dX12_judge_38 : decode cX12_judge 38 = .ok (.lconst 1, 1) := by decide +kernel
theorem dX12_judge_39 : decode cX12_judge 39 = .ok (.lsub, 1) := by decide +kernel
theorem dX12_judge_40 : decode cX12_judge 40 = .ok (.invokestatic 100, 3) := by decide +kernel
theorem dX12_judge_43 : decode cX12_judge 43 = .ok (.ifCond .eq 15, 3) := by decide +kernel
theorem dX12_judge_46 : decode cX12_judge 46 = .ok (.iload_n 2, 1) := by decide +kernel
theorem dX12_judge_47 : decode cX12_judge 47 = .ok (.i2l, 1) := by decide +kernel
theorem dX12_judge_48 : decode cX12_judge 48 = .ok (.lconst 0, 1) := by decide +kernel
theorem dX12_judge_49 : decode cX12_judge 49 = .ok (.ldc2_w 507, 3) := by decide +kernel
theorem dX12_judge_52 : decode cX12_judge 52 = .ok (.invokestatic 100, 3) := by decide +kernel
theorem dX12_judge_55 : decode cX12_judge 55 = .ok (.ifCond .ne 5, 3) := by decide +kernel
theorem dX12_judge_58 : decode cX12_judge 58 = .ok (.iconst (-1), 1) := by decide +kernel
theorem dX12_judge_59 : decode cX12_judge 59 = .ok (.ireturn, 1) := by decide +kernel
theorem dX12_judge_60 : decode cX12_judge 60 = .ok (.iload_n 1, 1) := by decide +kernel
theorem dX12_judge_61 : decode cX12_judge 61 = .ok (.istore 4, 2) := by decide +kernel
theorem dX12_judge_63 : decode cX12_judge 63 = .ok (.iconst 0, 1) := by decide +kernel
theorem dX12_judge_64 : decode cX12_judge 64 = .ok (.istore 5, 2) := by decide +kernel
theorem dX12_judge_66 : decode cX12_judge 66 = .ok (.iload 5, 2) := by decide +kernel
theorem dX12_judge_68 : decode cX12_judge 68 = .ok (.aload_n 0, 1) := by decide +kernel
theorem dX12_judge_69 : decode cX12_judge 69 = .ok (.getfield 7, 3) := by decide +kernel
theorem dX12_judge_72 : decode cX12_judge 72 = .ok (.bipush 6, 2) := by decide +kernel
theorem dX12_judge_74 : decode cX12_judge 74 = .ok (.iaload, 1) := by decide +kernel
theorem dX12_judge_75 : decode cX12_judge 75 = .ok (.if_icmp .ge 30, 3) := by decide +kernel
theorem dX12_judge_105 : decode cX12_judge 105 = .ok (.aload_n 0, 1) := by decide +kernel
theorem dX12_judge_106 : decode cX12_judge 106 = .ok (.iload_n 2, 1) := by decide +kernel
theorem dX12_judge_107 : decode cX12_judge 107 = .ok (.invokevirtual 509, 3) := by decide +kernel
theorem dX12_judge_110 : decode cX12_judge 110 = .ok (.ifCond .eq 10, 3) := by decide +kernel
theorem dX12_judge_113 : decode cX12_judge 113 = .ok (.aload_n 0, 1) := by decide +kernel
theorem dX12_judge_114 : decode cX12_judge 114 = .ok (.getfield 498, 3) := by decide +kernel
theorem dX12_judge_117 : decode cX12_judge 117 = .ok (.goto 4, 3) := by decide +kernel
theorem dX12_judge_121 : decode cX12_judge 121 = .ok (.ireturn, 1) := by decide +kernel
theorem dX12_knowBy_0 : decode cX12_knowBy 0 = .ok (.aload_n 0, 1) := by decide +kernel
theorem dX12_knowBy_1 : decode cX12_knowBy 1 = .ok (.iload_n 1, 1) := by decide +kernel
theorem dX12_knowBy_2 : decode cX12_knowBy 2 = .ok (.putfield 161, 3) := by decide +kernel
theorem dX12_knowBy_5 : decode cX12_knowBy 5 = .ok (.iconst 0, 1) := by decide +kernel
theorem dX12_knowBy_6 : decode cX12_knowBy 6 = .ok (.istore_n 2, 1) := by decide +kernel
theorem dX12_knowBy_7 : decode cX12_knowBy 7 = .ok (.iload_n 2, 1) := by decide +kernel
theorem dX12_knowBy_8 : decode cX12_knowBy 8 = .ok (.aload_n 0, 1) := by decide +kernel
theorem dX12_knowBy_9 : decode cX12_knowBy 9 = .ok (.getfield 7, 3) := by decide +kernel
theorem dX12_knowBy_12 : decode cX12_knowBy 12 = .ok (.iconst 3, 1) := by decide +kernel
theorem dX12_knowBy_13 : decode cX12_knowBy 13 = .ok (.iaload, 1) := by decide +kernel
theorem dX12_knowBy_14 : decode cX12_knowBy 14 = .ok (.if_icmp .ge 229, 3) := by decide +kernel
theorem dX12_knowBy_243 : decode cX12_knowBy 243 = .ok (.aload_n 0, 1) := by decide +kernel
theorem dX12_knowBy_244 : decode cX12_knowBy 244 = .ok (.invokevirtual 164, 3) := by decide +kernel
theorem dX12_knowBy_247 : decode cX12_knowBy 247 = .ok (.return_, 1) := by decide +kernel
theorem dX12_mark_0 : decode cX12_mark 0 = .ok (.aload_n 0, 1) := by decide +kernel
theorem dX12_mark_1 : decode cX12_mark 1 = .ok (.iconst 0, 1) := by decide +kernel
theorem dX12_mark_2 : decode cX12_mark 2 = .ok (.putfield 92, 3) := by decide +kernel
theorem dX12_mark_5 : decode cX12_mark 5 = .ok (.iload_n 3, 1) := by decide +kernel
theorem dX12_mark_6 : decode cX12_mark 6 = .ok (.invokestatic 145, 3) := by decide +kernel
theorem dX12_mark_9 : decode cX12_mark 9 = .ok (.ifCond .eq 37, 3) := by decide +kernel
theorem dX12_mark_12 : decode cX12_mark 12 = .ok (.iload 4, 2) := by decide +kernel
theorem dX12_mark_14 : decode cX12_mark 14 = .ok (.i2l, 1) := by decide +kernel
theorem dX12_mark_15 : decode cX12_mark 15 = .ok (.lconst 0, 1) := by decide +kernel
theorem dX12_mark_16 : decode cX12_mark 16 = .ok (.ldc2_w 151, 3) := by decide +kernel
theorem dX12_mark_19 : decode cX12_mark 19 = .ok (.invokestatic 100, 3) := by decide +kernel
theorem dX12_mark_22 : decode cX12_mark 22 = .ok (.ifCond .eq 24, 3) := by decide +kernel
theorem dX12_mark_25 : decode cX12_mark 25 = .ok (.iload 5, 2) := by decide +kernel
theorem dX12_mark_27 : decode cX12_mark 27 = .ok (.i2l, 1) := by decide +kernel
theorem dX12_mark_28 : decode cX12_mark 28 = .ok (.lconst 0, 1) := by decide +kernel
theorem dX12_mark_29 : decode cX12_mark 29 = .ok (.ldc2_w 153, 3) := by decide +kernel
theorem dX12_mark_32 : decode cX12_mark 32 = .ok (.invokestatic 100, 3) := by decide +kernel
theorem dX12_mark_35 : decode cX12_mark 35 = .ok (.ifCond .eq 11, 3) := by decide +kernel
theorem dX12_mark_38 : decode cX12_mark 38 = .ok (.iload 6, 2) := by decide +kernel
theorem dX12_mark_40 : decode cX12_mark 40 = .ok (.invokestatic 127, 3) := by decide +kernel
theorem dX12_mark_43 : decode cX12_mark 43 = .ok (.ifCond .ne 9, 3) := by decide +kernel
theorem dX12_mark_46 : decode cX12_mark 46 = .ok (.aload_n 0, 1) := by decide +kernel
theorem dX12_mark_47 : decode cX12_mark 47 = .ok (.iconst (-1), 1) := by decide +kernel
theorem dX12_mark_48 : decode cX12_mark 48 = .ok (.invokevirtual 106, 3) := by decide +kernel
theorem dX12_mark_51 : decode cX12_mark 51 = .ok (.ireturn, 1) := by decide +kernel
theorem dX12_mark_52 : decode cX12_mark 52 = .ok (.aload_n 0, 1) := by decide +kernel
theorem dX12_mark_53 : decode cX12_mark 53 = .ok (.iload_n 1, 1) := by decide +kernel
theorem dX12_mark_54 : decode cX12_mark 54 = .ok (.invokevirtual 131, 3) := by decide +kernel
theorem dX12_mark_57 : decode cX12_mark 57 = .ok (.ifCond .eq 11, 3) := by decide +kernel
theorem dX12_mark_68 : decode cX12_mark 68 = .ok (.aload_n 0, 1) := by decide +kernel
theorem dX12_mark_69 : decode cX12_mark 69 = .ok (.bipush (-2), 2) := by decide +kernel
theorem dX12_mark_71 : decode cX12_mark 71 = .ok (.invokevirtual 106, 3) := by decide +kernel
theorem dX12_mark_74 : decode cX12_mark 74 = .ok (.ireturn, 1) := by decide +kernel
theorem dX12_missing_0 : decode cX12_missing 0 = .ok (.aload_n 0, 1) := by decide +kernel
theorem dX12_missing_1 : decode cX12_missing 1 = .ok (.iconst 0, 1) := by decide +kernel
theorem dX12_missing_2 : decode cX12_missing 2 = .ok (.putfield 92, 3) := by decide +kernel
theorem dX12_missing_5 : decode cX12_missing 5 = .ok (.iload_n 2, 1) := by decide +kernel
theorem dX12_missing_6 : decode cX12_missing 6 = .ok (.i2l, 1) := by decide +kernel
theorem dX12_missing_7 : decode cX12_missing 7 = .ok (.lconst 0, 1) := by decide +kernel
theorem dX12_missing_8 : decode cX12_missing 8 = .ok (.ldc2_w 496, 3) := by decide +kernel
theorem dX12_missing_11 : decode cX12_missing 11 = .ok (.invokestatic 100, 3) := by decide +kernel
theorem dX12_missing_14 : decode cX12_missing 14 = .ok (.ifCond .ne 9, 3) := by decide +kernel
theorem dX12_missing_17 : decode cX12_missing 17 = .ok (.aload_n 0, 1) := by decide +kernel
theorem dX12_missing_18 : decode cX12_missing 18 = .ok (.iconst (-1), 1) := by decide +kernel
theorem dX12_missing_19 : decode cX12_missing 19 = .ok (.invokevirtual 106, 3) := by decide +kernel
theorem dX12_missing_22 : decode cX12_missing 22 = .ok (.ireturn, 1) := by decide +kernel
theorem dX12_missing_23 : decode cX12_missing 23 = .ok (.aload_n 0, 1) := by decide +kernel
theorem dX12_missing_24 : decode cX12_missing 24 = .ok (.iload_n 1, 1) := by decide +kernel
theorem dX12_missing_25 : decode cX12_missing 25 = .ok (.invokevirtual 138, 3) := by decide +kernel
theorem dX12_missing_28 : decode cX12_missing 28 = .ok (.ifCond .ne 10, 3) := by decide +kernel
theorem dX12_missing_31 : decode cX12_missing 31 = .ok (.aload_n 0, 1) := by decide +kernel
theorem dX12_missing_32 : decode cX12_missing 32 = .ok (.bipush (-2), 2) := by decide +kernel
theorem dX12_missing_34 : decode cX12_missing 34 = .ok (.invokevirtual 106, 3) := by decide +kernel
theorem dX12_missing_37 : decode cX12_missing 37 = .ok (.ireturn, 1) := by decide +kernel
theorem dX12_must_0 : decode cX12_must 0 = .ok (.aload_n 0, 1) := by decide +kernel
theorem dX12_must_1 : decode cX12_must 1 = .ok (.getfield 202, 3) := by decide +kernel
theorem dX12_must_4 : decode cX12_must 4 = .ok (.ifCond .ne 20, 3) := by decide +kernel
theorem dX12_must_7 : decode cX12_must 7 = .ok (.iload_n 1, 1) := by decide +kernel
theorem dX12_must_8 : decode cX12_must 8 = .ok (.ifCond .ne 16, 3) := by decide +kernel
theorem dX12_must_11 : decode cX12_must 11 = .ok (.aload_n 0, 1) := by decide +kernel
theorem dX12_must_12 : decode cX12_must 12 = .ok (.iconst 1, 1) := by decide +kernel
theorem dX12_must_13 : decode cX12_must 13 = .ok (.putfield 202, 3) := by decide +kernel
theorem dX12_must_16 : decode cX12_must 16 = .ok (.aload_n 0, 1) := by decide +kernel
theorem dX12_must_17 : decode cX12_must 17 = .ok (.aload_n 0, 1) := by decide +kernel
theorem dX12_must_18 : decode cX12_must 18 = .ok (.getfield 209, 3) := by decide +kernel
theorem dX12_must_21 : decode cX12_must 21 = .ok (.putfield 36, 3) := by decide +kernel
theorem dX12_must_24 : decode cX12_must 24 = .ok (.aload_n 0, 1) := by decide +kernel
theorem dX12_must_25 : decode cX12_must 25 = .ok (.getfield 202, 3) := by decide +kernel
theorem dX12_must_28 : decode cX12_must 28 = .ok (.ifCond .ne 7, 3) := by decide +kernel
theorem dX12_must_35 : decode cX12_must 35 = .ok (.return_, 1) := by decide +kernel
theorem dX12_next_0 : decode cX12_next 0 = .ok (.aload_n 0, 1) := by decide +kernel
theorem dX12_next_1 : decode cX12_next 1 = .ok (.aload_n 0, 1) := by decide +kernel
theorem dX12_next_2 : decode cX12_next 2 = .ok (.getfield 199, 3) := by decide +kernel
theorem dX12_next_5 : decode cX12_next 5 = .ok (.putfield 209, 3) := by decide +kernel
theorem dX12_next_8 : decode cX12_next 8 = .ok (.aload_n 0, 1) := by decide +kernel
theorem dX12_next_9 : decode cX12_next 9 = .ok (.getfield 209, 3) := by decide +kernel
theorem dX12_next_12 : decode cX12_next 12 = .ok (.aload_n 0, 1) := by decide +kernel
theorem dX12_next_13 : decode cX12_next 13 = .ok (.getfield 193, 3) := by decide +kernel
theorem dX12_next_16 : decode cX12_next 16 = .ok (.if_icmp .ge 30, 3) := by decide +kernel
theorem dX12_next_46 : decode cX12_next 46 = .ok (.aload_n 0, 1) := by decide +kernel
theorem dX12_next_47 : decode cX12_next 47 = .ok (.aload_n 0, 1) := by decide +kernel
theorem dX12_next_48 : decode cX12_next 48 = .ok (.getfield 209, 3) := by decide +kernel
theorem dX12_next_51 : decode cX12_next 51 = .ok (.putfield 199, 3) := by decide +kernel
theorem dX12_next_54 : decode cX12_next 54 = .ok (.aload_n 0, 1) := by decide +kernel
theorem dX12_next_55 : decode cX12_next 55 = .ok (.lconst 0, 1) := by decide +kernel
theorem dX12_next_56 : decode cX12_next 56 = .ok (.putfield 212, 3) := by decide +kernel
theorem dX12_next_59 : decode cX12_next 59 = .ok (.aload_n 0, 1) := by decide +kernel
theorem dX12_next_60 : decode cX12_next 60 = .ok (.aload_n 0, 1) := by decide +kernel
theorem dX12_next_61 : decode cX12_next 61 = .ok (.getfield 209, 3) := by decide +kernel
theorem dX12_next_64 : decode cX12_next 64 = .ok (.aload_n 0, 1) := by decide +kernel
theorem dX12_next_65 : decode cX12_next 65 = .ok (.getfield 193, 3) := by decide +kernel
theorem dX12_next_68 : decode cX12_next 68 = .ok (.if_icmp .ne 7, 3) := by decide +kernel
theorem dX12_next_71 : decode cX12_next 71 = .ok (.iconst 0, 1) := by decide +kernel
theorem dX12_next_72 : decode cX12_next 72 = .ok (.goto 42, 3) := by decide +kernel
theorem dX12_next_114 : decode cX12_next 114 = .ok (.putfield 222, 3) := by decide +kernel
theorem dX12_next_117 : decode cX12_next 117 = .ok (.aload_n 0, 1) := by decide +kernel
theorem dX12_next_118 : decode cX12_next 118 = .ok (.getfield 222, 3) := by decide +kernel
theorem dX12_next_121 : decode cX12_next 121 = .ok (.iconst 3, 1) := by decide +kernel
theorem dX12_next_122 : decode cX12_next 122 = .ok (.if_icmp .ne 27, 3) := by decide +kernel
theorem dX12_next_149 : decode cX12_next 149 = .ok (.aload_n 0, 1) := by decide +kernel
theorem dX12_next_150 : decode cX12_next 150 = .ok (.getfield 222, 3) := by decide +kernel
theorem dX12_next_153 : decode cX12_next 153 = .ok (.iconst 1, 1) := by decide +kernel
theorem dX12_next_154 : decode cX12_next 154 = .ok (.if_icmp .ne 89, 3) := by decide +kernel
theorem dX12_next_243 : decode cX12_next 243 = .ok (.aload_n 0, 1) := by decide +kernel
theorem dX12_next_244 : decode cX12_next 244 = .ok (.getfield 222, 3) := by decide +kernel
theorem dX12_next_247 : decode cX12_next 247 = .ok (.iconst 2, 1) := by decide +kernel
theorem dX12_next_248 : decode cX12_next 248 = .ok (.if_icmp .ne 87, 3) := by decide +kernel
theorem dX12_next_335 : decode cX12_next 335 = .ok (.return_, 1) := by decide +kernel
theorem dX12_off_0 : decode cX12_off 0 = .ok (.aload_n 0, 1) := by decide +kernel
theorem dX12_off_1 : decode cX12_off 1 = .ok (.iconst 0, 1) := by decide +kernel
theorem dX12_off_2 : decode cX12_off 2 = .ok (.putfield 92, 3) := by decide +kernel
theorem dX12_off_5 : decode cX12_off 5 = .ok (.aload_n 0, 1) := by decide +kernel
theorem dX12_off_6 : decode cX12_off 6 = .ok (.iload_n 1, 1) := by decide +kernel
theorem dX12_off_7 : decode cX12_off 7 = .ok (.invokevirtual 138, 3) := by decide +kernel
theorem dX12_off_10 : decode cX12_off 10 = .ok (.ifCond .eq 17, 3) := by decide +kernel
theorem dX12_off_27 : decode cX12_off 27 = .ok (.iconst (-1), 1) := by decide +kernel
theorem dX12_off_28 : decode cX12_off 28 = .ok (.ireturn, 1) := by decide +kernel
theorem dX12_pay_0 : decode cX12_pay 0 = .ok (.aload_n 0, 1) := by decide +kernel
theorem dX12_pay_1 : decode cX12_pay 1 = .ok (.iconst 0, 1) := by decide +kernel
theorem dX12_pay_2 : decode cX12_pay 2 = .ok (.putfield 92, 3) := by decide +kernel
theorem dX12_pay_5 : decode cX12_pay 5 = .ok (.iload_n 2, 1) := by decide +kernel
theorem dX12_pay_6 : decode cX12_pay 6 = .ok (.invokestatic 460, 3) := by decide +kernel
theorem dX12_pay_9 : decode cX12_pay 9 = .ok (.ifCond .eq 10, 3) := by decide +kernel
theorem dX12_pay_12 : decode cX12_pay 12 = .ok (.iload_n 3, 1) := by decide +kernel
theorem dX12_pay_13 : decode cX12_pay 13 = .ok (.invokestatic 127, 3) := by decide +kernel
theorem dX12_pay_16 : decode cX12_pay 16 = .ok (.ifCond .ne 9, 3) := by decide +kernel
theorem dX12_pay_19 : decode cX12_pay 19 = .ok (.aload_n 0, 1) := by decide +kernel
theorem dX12_pay_20 : decode cX12_pay 20 = .ok (.iconst (-1), 1) := by decide +kernel
theorem dX12_pay_21 : decode cX12_pay 21 = .ok (.invokevirtual 106, 3) := by decide +kernel
theorem dX12_pay_24 : decode cX12_pay 24 = .ok (.ireturn, 1) := by decide +kernel
theorem dX12_pay_25 : decode cX12_pay 25 = .ok (.aload_n 0, 1) := by decide +kernel
theorem dX12_pay_26 : decode cX12_pay 26 = .ok (.iload_n 1, 1) := by decide +kernel
theorem dX12_pay_27 : decode cX12_pay 27 = .ok (.invokevirtual 138, 3) := by decide +kernel
theorem dX12_pay_30 : decode cX12_pay 30 = .ok (.ifCond .ne 10, 3) := by decide +kernel
theorem dX12_pay_33 : decode cX12_pay 33 = .ok (.aload_n 0, 1) := by decide +kernel
theorem dX12_pay_34 : decode cX12_pay 34 = .ok (.bipush (-2), 2) := by decide +kernel
theorem dX12_pay_36 : decode cX12_pay 36 = .ok (.invokevirtual 106, 3) := by decide +kernel
theorem dX12_pay_39 : decode cX12_pay 39 = .ok (.ireturn, 1) := by decide +kernel
theorem dX12_rate_0 : decode cX12_rate 0 = .ok (.aload_n 0, 1) := by decide +kernel
theorem dX12_rate_1 : decode cX12_rate 1 = .ok (.iconst 0, 1) := by decide +kernel
theorem dX12_rate_2 : decode cX12_rate 2 = .ok (.putfield 92, 3) := by decide +kernel
theorem dX12_rate_5 : decode cX12_rate 5 = .ok (.aload_n 0, 1) := by decide +kernel
theorem dX12_rate_6 : decode cX12_rate 6 = .ok (.iload_n 1, 1) := by decide +kernel
theorem dX12_rate_7 : decode cX12_rate 7 = .ok (.invokevirtual 138, 3) := by decide +kernel
theorem dX12_rate_10 : decode cX12_rate 10 = .ok (.ifCond .eq 42, 3) := by decide +kernel
theorem dX12_rate_52 : decode cX12_rate 52 = .ok (.iconst (-1), 1) := by decide +kernel
theorem dX12_rate_53 : decode cX12_rate 53 = .ok (.ireturn, 1) := by decide +kernel
theorem dX12_readClause_0 : decode cX12_readClause 0 = .ok (.aload_n 0, 1) := by decide +kernel
theorem dX12_readClause_1 : decode cX12_readClause 1 = .ok (.invokevirtual 364, 3) := by decide +kernel
theorem dX12_readClause_4 : decode cX12_readClause 4 = .ok (.istore_n 1, 1) := by decide +kernel
theorem dX12_readClause_5 : decode cX12_readClause 5 = .ok (.aload_n 0, 1) := by decide +kernel
theorem dX12_readClause_6 : decode cX12_readClause 6 = .ok (.iload_n 1, 1) := by decide +kernel
theorem dX12_readClause_7 : decode cX12_readClause 7 = .ok (.iconst (-1), 1) := by decide +kernel
theorem dX12_readClause_8 : decode cX12_readClause 8 = .ok (.if_icmp .eq 16, 3) := by decide +kernel
theorem dX12_readClause_24 : decode cX12_readClause 24 = .ok (.iconst 0, 1) := by decide +kernel
theorem dX12_readClause_25 : decode cX12_readClause 25 = .ok (.invokevirtual 235, 3) := by decide +kernel
theorem dX12_readClause_28 : decode cX12_readClause 28 = .ok (.aload_n 0, 1) := by decide +kernel
theorem dX12_readClause_29 : decode cX12_readClause 29 = .ok (.getfield 202, 3) := by decide +kernel
theorem dX12_readClause_32 : decode cX12_readClause 32 = .ok (.ifCond .eq 4, 3) := by decide +kernel
theorem dX12_readClause_35 : decode cX12_readClause 35 = .ok (.return_, 1) := by decide +kernel
theorem dX12_readText_0 : decode cX12_readText 0 = .ok (.aload_n 0, 1) := by decide +kernel
theorem dX12_readText_1 : decode cX12_readText 1 = .ok (.invokevirtual 397, 3) := by decide +kernel
theorem dX12_readText_4 : decode cX12_readText 4 = .ok (.aload_n 0, 1) := by decide +kernel
theorem dX12_readText_5 : decode cX12_readText 5 = .ok (.iconst 0, 1) := by decide +kernel
theorem dX12_readText_6 : decode cX12_readText 6 = .ok (.putfield 367, 3) := by decide +kernel
theorem dX12_readText_9 : decode cX12_readText 9 = .ok (.aload_n 0, 1) := by decide +kernel
theorem dX12_readText_10 : decode cX12_readText 10 = .ok (.iconst 0, 1) := by decide +kernel
theorem dX12_readText_11 : decode cX12_readText 11 = .ok (.putfield 239, 3) := by decide +kernel
theorem dX12_readText_14 : decode cX12_readText 14 = .ok (.aload_n 0, 1) := by decide +kernel
theorem dX12_readText_15 : decode cX12_readText 15 = .ok (.iconst 0, 1) := by decide +kernel
theorem dX12_readText_16 : decode cX12_readText 16 = .ok (.putfield 293, 3) := by decide +kernel
theorem dX12_readText_19 : decode cX12_readText 19 = .ok (.aload_n 0, 1) := by decide +kernel
theorem dX12_readText_20 : decode cX12_readText 20 = .ok (.invokevirtual 400, 3) := by decide +kernel
theorem dX12_readText_23 : decode cX12_readText 23 = .ok (.aload_n 0, 1) := by decide +kernel
theorem dX12_readText_24 : decode cX12_readText 24 = .ok (.getfield 202, 3) := by decide +kernel
theorem dX12_readText_27 : decode cX12_readText 27 = .ok (.ifCond .ne 23, 3) := by decide +kernel
theorem dX12_readText_50 : decode cX12_readText 50 = .ok (.aload_n 0, 1) := by decide +kernel
theorem dX12_readText_51 : decode cX12_readText 51 = .ok (.getfield 202, 3) := by decide +kernel
theorem dX12_readText_54 : decode cX12_readText 54 = .ok (.ifCond .ne 15, 3) := by decide +kernel
theorem dX12_readText_69 : decode cX12_readText 69 = .ok (.aload_n 0, 1) := by decide +kernel
theorem dX12_readText_70 : decode cX12_readText 70 = .ok (.getfield 202, 3) := by decide +kernel
theorem dX12_readText_73 : decode cX12_readText 73 = .ok (.ifCond .eq 5, 3) := by decide +kernel
theorem dX12_readText_76 : decode cX12_readText 76 = .ok (.iconst 0, 1) := by decide +kernel
theorem dX12_readText_77 : decode cX12_readText 77 = .ok (.ireturn, 1) := by decide +kernel
theorem dX12_record_0 : decode cX12_record 0 = .ok (.aload_n 0, 1) := by decide +kernel
theorem dX12_record_1 : decode cX12_record 1 = .ok (.iconst 0, 1) := by decide +kernel
theorem dX12_record_2 : decode cX12_record 2 = .ok (.putfield 92, 3) := by decide +kernel
theorem dX12_record_5 : decode cX12_record 5 = .ok (.iload_n 1, 1) := by decide +kernel
theorem dX12_record_6 : decode cX12_record 6 = .ok (.i2l, 1) := by decide +kernel
theorem dX12_record_7 : decode cX12_record 7 = .ok (.lconst 0, 1) := by decide +kernel
theorem dX12_record_8 : decode cX12_record 8 = .ok (.ldc2_w 496, 3) := by decide +kernel
theorem dX12_record_11 : decode cX12_record 11 = .ok (.invokestatic 100, 3) := by decide +kernel
theorem dX12_record_14 : decode cX12_record 14 = .ok (.ifCond .ne 9, 3) := by decide +kernel
theorem dX12_record_17 : decode cX12_record 17 = .ok (.aload_n 0, 1) := by decide +kernel
theorem dX12_record_18 : decode cX12_record 18 = .ok (.iconst (-1), 1) := by decide +kernel
theorem dX12_record_19 : decode cX12_record 19 = .ok (.invokevirtual 106, 3) := by decide +kernel
theorem dX12_record_22 : decode cX12_record 22 = .ok (.ireturn, 1) := by decide +kernel
theorem dX12_record_23 : decode cX12_record 23 = .ok (.aload_n 0, 1) := by decide +kernel
theorem dX12_record_24 : decode cX12_record 24 = .ok (.getfield 7, 3) := by decide +kernel
theorem dX12_record_27 : decode cX12_record 27 = .ok (.iconst 5, 1) := by decide +kernel
theorem dX12_record_28 : decode cX12_record 28 = .ok (.iaload, 1) := by decide +kernel
theorem dX12_record_29 : decode cX12_record 29 = .ok (.bipush 6, 2) := by decide +kernel
theorem dX12_record_31 : decode cX12_record 31 = .ok (.if_icmp .ne 10, 3) := by decide +kernel
theorem dX12_record_41 : decode cX12_record 41 = .ok (.aload_n 0, 1) := by decide +kernel
theorem dX12_record_42 : decode cX12_record 42 = .ok (.getfield 7, 3) := by decide +kernel
theorem dX12_record_45 : decode cX12_record 45 = .ok (.sipush 6980, 3) := by decide +kernel
theorem dX12_record_48 : decode cX12_record 48 = .ok (.aload_n 0, 1) := by decide +kernel
theorem dX12_record_49 : decode cX12_record 49 = .ok (.getfield 7, 3) := by decide +kernel
theorem dX12_record_52 : decode cX12_record 52 = .ok (.iconst 5, 1) := by decide +kernel
theorem dX12_record_53 : decode cX12_record 53 = .ok (.iaload, 1) := by decide +kernel
theorem dX12_record_54 : decode cX12_record 54 = .ok (.iadd, 1) := by decide +kernel
theorem dX12_record_55 : decode cX12_record 55 = .ok (.iload_n 1, 1) := by decide +kernel
theorem dX12_record_56 : decode cX12_record 56 = .ok (.iastore, 1) := by decide +kernel
theorem dX12_record_57 : decode cX12_record 57 = .ok (.aload_n 0, 1) := by decide +kernel
theorem dX12_record_58 : decode cX12_record 58 = .ok (.getfield 7, 3) := by decide +kernel
theorem dX12_record_61 : decode cX12_record 61 = .ok (.iconst 5, 1) := by decide +kernel
theorem dX12_record_62 : decode cX12_record 62 = .ok (.dup2, 1) := by decide +kernel
theorem dX12_record_63 : decode cX12_record 63 = .ok (.iaload, 1) := by decide +kernel
theorem dX12_record_64 : decode cX12_record 64 = .ok (.iconst 1, 1) := by decide +kernel
theorem dX12_record_65 : decode cX12_record 65 = .ok (.iadd, 1) := by decide +kernel
theorem dX12_record_66 : decode cX12_record 66 = .ok (.iastore, 1) := by decide +kernel
theorem dX12_record_67 : decode cX12_record 67 = .ok (.aload_n 0, 1) := by decide +kernel
theorem dX12_record_68 : decode cX12_record 68 = .ok (.aload_n 0, 1) := by decide +kernel
theorem dX12_record_69 : decode cX12_record 69 = .ok (.getfield 7, 3) := by decide +kernel
theorem dX12_record_72 : decode cX12_record 72 = .ok (.iconst 5, 1) := by decide +kernel
theorem dX12_record_73 : decode cX12_record 73 = .ok (.iaload, 1) := by decide +kernel
theorem dX12_record_74 : decode cX12_record 74 = .ok (.invokevirtual 106, 3) := by decide +kernel
theorem dX12_record_77 : decode cX12_record 77 = .ok (.ireturn, 1) := by decide +kernel
theorem dX12_rolls_0 : decode cX12_rolls 0 = .ok (.aload_n 0, 1) := by decide +kernel
theorem dX12_rolls_1 : decode cX12_rolls 1 = .ok (.iconst 0, 1) := by decide +kernel
theorem dX12_rolls_2 : decode cX12_rolls 2 = .ok (.putfield 92, 3) := by decide +kernel
theorem dX12_rolls_5 : decode cX12_rolls 5 = .ok (.iload_n 1, 1) := by decide +kernel
theorem dX12_rolls_6 : decode cX12_rolls 6 = .ok (.invokestatic 127, 3) := by decide +kernel
theorem dX12_rolls_9 : decode cX12_rolls 9 = .ok (.ifCond .eq 15, 3) := by decide +kernel
theorem dX12_rolls_12 : decode cX12_rolls 12 = .ok (.iload_n 2, 1) := by decide +kernel
theorem dX12_rolls_13 : decode cX12_rolls 13 = .ok (.i2l, 1) := by decide +kernel
theorem dX12_rolls_14 : decode cX12_rolls 14 = .ok (.lconst 0, 1) := by decide +kernel
theorem dX12_rolls_15 : decode cX12_rolls 15 = .ok (.ldc2_w 484, 3) := by decide +kernel
theorem dX12_rolls_18 : decode cX12_rolls 18 = .ok (.invokestatic 100, 3) := by decide +kernel
theorem dX12_rolls_21 : decode cX12_rolls 21 = .ok (.ifCond .ne 5, 3) := by decide +kernel
theorem dX12_rolls_24 : decode cX12_rolls 24 = .ok (.iconst (-1), 1) := by decide +kernel
theorem dX12_rolls_25 : decode cX12_rolls 25 = .ok (.ireturn, 1) := by decide +kernel
theorem dX12_rolls_26 : decode cX12_rolls 26 = .ok (.iconst 0, 1) := by decide +kernel
theorem dX12_rolls_27 : decode cX12_rolls 27 = .ok (.istore 4, 2) := by decide +kernel
theorem dX12_rolls_29 : decode cX12_rolls 29 = .ok (.iconst (-1), 1) := by decide +kernel
theorem dX12_rolls_30 : decode cX12_rolls 30 = .ok (.istore 5, 2) := by decide +kernel
theorem dX12_rolls_32 : decode cX12_rolls 32 = .ok (.iconst 0, 1) := by decide +kernel
theorem dX12_rolls_33 : decode cX12_rolls 33 = .ok (.istore 6, 2) := by decide +kernel
theorem dX12_rolls_35 : decode cX12_rolls 35 = .ok (.iload 6, 2) := by decide +kernel
theorem dX12_rolls_37 : decode cX12_rolls 37 = .ok (.aload_n 0, 1) := by decide +kernel
theorem dX12_rolls_38 : decode cX12_rolls 38 = .ok (.getfield 7, 3) := by decide +kernel
theorem dX12_rolls_41 : decode cX12_rolls 41 = .ok (.iconst 0, 1) := by decide +kernel
theorem dX12_rolls_42 : decode cX12_rolls 42 = .ok (.iaload, 1) := by decide +kernel
theorem dX12_rolls_43 : decode cX12_rolls 43 = .ok (.if_icmp .ge 123, 3) := by decide +kernel
theorem dX12_rolls_166 : decode cX12_rolls 166 = .ok (.iload_n 3, 1) := by decide +kernel
theorem dX12_rolls_167 : decode cX12_rolls 167 = .ok (.iconst (-1), 1) := by decide +kernel
theorem dX12_rolls_168 : decode cX12_rolls 168 = .ok (.if_icmp .ne 8, 3) := by decide +kernel
theorem dX12_rolls_171 : decode cX12_rolls 171 = .ok (.iload 4, 2) := by decide +kernel
theorem dX12_rolls_173 : decode cX12_rolls 173 = .ok (.goto 5, 3) := by decide +kernel
theorem dX12_rolls_176 : decode cX12_rolls 176 = .ok (.iload 5, 2) := by decide +kernel
theorem dX12_rolls_178 : decode cX12_rolls 178 = .ok (.ireturn, 1) := by decide +kernel
theorem dX12_round_0 : decode cX12_round 0 = .ok (.aload_n 0, 1) := by decide +kernel
theorem dX12_round_1 : decode cX12_round 1 = .ok (.iconst 0, 1) := by decide +kernel
theorem dX12_round_2 : decode cX12_round 2 = .ok (.putfield 92, 3) := by decide +kernel
theorem dX12_round_5 : decode cX12_round 5 = .ok (.iload_n 1, 1) := by decide +kernel
theorem dX12_round_6 : decode cX12_round 6 = .ok (.i2l, 1) := by decide +kernel
theorem dX12_round_7 : decode cX12_round 7 = .ok (.lconst 0, 1) := by decide +kernel
theorem dX12_round_8 : decode cX12_round 8 = .ok (.ldc2_w 118, 3) := by decide +kernel
theorem dX12_round_11 : decode cX12_round 11 = .ok (.invokestatic 100, 3) := by decide +kernel
theorem dX12_round_14 : decode cX12_round 14 = .ok (.ifCond .eq 40, 3) := by decide +kernel
theorem dX12_round_17 : decode cX12_round 17 = .ok (.iload_n 2, 1) := by decide +kernel
theorem dX12_round_18 : decode cX12_round 18 = .ok (.i2l, 1) := by decide +kernel
theorem dX12_round_19 : decode cX12_round 19 = .ok (.lconst 0, 1) := by decide +kernel
theorem dX12_round_20 : decode cX12_round 20 = .ok (.ldc2_w 118, 3) := by decide +kernel
theorem dX12_round_23 : decode cX12_round 23 = .ok (.invokestatic 100, 3) := by decide +kernel
theorem dX12_round_26 : decode cX12_round 26 = .ok (.ifCond .eq 28, 3) := by decide +kernel
theorem dX12_round_29 : decode cX12_round 29 = .ok (.iload_n 3, 1) := by decide +kernel
theorem dX12_round_30 : decode cX12_round 30 = .ok (.i2l, 1) := by decide +kernel
theorem dX12_round_31 : decode cX12_round 31 = .ok (.lconst 0, 1) := by decide +kernel
theorem dX12_round_32 : decode cX12_round 32 = .ok (.ldc2_w 535, 3) := by decide +kernel
theorem dX12_round_35 : decode cX12_round 35 = .ok (.invokestatic 100, 3) := by decide +kernel
theorem dX12_round_38 : decode cX12_round 38 = .ok (.ifCond .eq 16, 3) := by decide +kernel
theorem dX12_round_41 : decode cX12_round 41 = .ok (.iload 4, 2) := by decide +kernel
theorem dX12_round_43 : decode cX12_round 43 = .ok (.i2l, 1) := by decide +kernel
theorem dX12_round_44 : decode cX12_round 44 = .ok (.lconst 0, 1) := by decide +kernel
theorem dX12_round_45 : decode cX12_round 45 = .ok (.ldc2_w 484, 3) := by decide +kernel
theorem dX12_round_48 : decode cX12_round 48 = .ok (.invokestatic 100, 3) := by decide +kernel
theorem dX12_round_51 : decode cX12_round 51 = .ok (.ifCond .ne 5, 3) := by decide +kernel
theorem dX12_round_54 : decode cX12_round 54 = .ok (.iconst (-1), 1) := by decide +kernel
theorem dX12_round_55 : decode cX12_round 55 = .ok (.ireturn, 1) := by decide +kernel
theorem dX12_round_56 : decode cX12_round 56 = .ok (.aload_n 0, 1) := by decide +kernel
theorem dX12_round_57 : decode cX12_round 57 = .ok (.iload_n 1, 1) := by decide +kernel
theorem dX12_round_58 : decode cX12_round 58 = .ok (.iload_n 2, 1) := by decide +kernel
theorem dX12_round_59 : decode cX12_round 59 = .ok (.invokevirtual 537, 3) := by decide +kernel
theorem dX12_round_62 : decode cX12_round 62 = .ok (.iconst 0, 1) := by decide +kernel
theorem dX12_round_63 : decode cX12_round 63 = .ok (.istore 5, 2) := by decide +kernel
theorem dX12_round_65 : decode cX12_round 65 = .ok (.iconst 0, 1) := by decide +kernel
theorem dX12_round_66 : decode cX12_round 66 = .ok (.istore 6, 2) := by decide +kernel
theorem dX12_round_68 : decode cX12_round 68 = .ok (.iconst 0, 1) := by decide +kernel
theorem dX12_round_69 : decode cX12_round 69 = .ok (.istore 7, 2) := by decide +kernel
theorem dX12_round_71 : decode cX12_round 71 = .ok (.iconst 1, 1) := by decide +kernel
theorem dX12_round_72 : decode cX12_round 72 = .ok (.istore 8, 2) := by decide +kernel
theorem dX12_round_74 : decode cX12_round 74 = .ok (.iload 8, 2) := by decide +kernel
theorem dX12_round_76 : decode cX12_round 76 = .ok (.iconst 1, 1) := by decide +kernel
theorem dX12_round_77 : decode cX12_round 77 = .ok (.aload_n 0, 1) := by decide +kernel
theorem dX12_round_78 : decode cX12_round 78 = .ok (.getfield 7, 3) := by decide +kernel
theorem dX12_round_81 : decode cX12_round 81 = .ok (.bipush 7, 2) := by decide +kernel
theorem dX12_round_83 : decode cX12_round 83 = .ok (.iaload, 1) := by decide +kernel
theorem dX12_round_84 : decode cX12_round 84 = .ok (.ishl, 1) := by decide +kernel
theorem dX12_round_85 : decode cX12_round 85 = .ok (.if_icmp .ge 110, 3) := by decide +kernel
theorem dX12_round_195 : decode cX12_round 195 = .ok (.iload 4, 2) := by decide +kernel
theorem dX12_round_197 : decode cX12_round 197 = .ok (.ifCond .ne 8, 3) := by decide +kernel
theorem dX12_round_200 : decode cX12_round 200 = .ok (.iload 5, 2) := by decide +kernel
theorem dX12_round_202 : decode cX12_round 202 = .ok (.goto 16, 3) := by decide +kernel
theorem dX12_round_205 : decode cX12_round 205 = .ok (.iload 4, 2) := by decide +kernel
theorem dX12_round_207 : decode cX12_round 207 = .ok (.iconst 1, 1) := by decide +kernel
theorem dX12_round_208 : decode cX12_round 208 = .ok (.if_icmp .ne 8, 3) := by decide +kernel
theorem dX12_round_211 : decode cX12_round 211 = .ok (.iload 6, 2) := by decide +kernel
theorem dX12_round_213 : decode cX12_round 213 = .ok (.goto 5, 3) := by decide +kernel
theorem dX12_round_216 : decode cX12_round 216 = .ok (.iload 7, 2) := by decide +kernel
theorem dX12_round_218 : decode cX12_round 218 = .ok (.ireturn, 1) := by decide +kernel
theorem dX12_school_0 : decode cX12_school 0 = .ok (.aload_n 0, 1) := by decide +kernel
theorem dX12_school_1 : decode cX12_school 1 = .ok (.iconst 0, 1) := by decide +kernel
theorem dX12_school_2 : decode cX12_school 2 = .ok (.putfield 92, 3) := by decide +kernel
theorem dX12_school_5 : decode cX12_school 5 = .ok (.aload_n 0, 1) := by decide +kernel
theorem dX12_school_6 : decode cX12_school 6 = .ok (.getfield 7, 3) := by decide +kernel
theorem dX12_school_9 : decode cX12_school 9 = .ok (.iconst 1, 1) := by decide +kernel
theorem dX12_school_10 : decode cX12_school 10 = .ok (.iaload, 1) := by decide +kernel
theorem dX12_school_11 : decode cX12_school 11 = .ok (.iconst 5, 1) := by decide +kernel
theorem dX12_school_12 : decode cX12_school 12 = .ok (.if_icmp .ne 10, 3) := by decide +kernel
theorem dX12_school_22 : decode cX12_school 22 = .ok (.aload_n 0, 1) := by decide +kernel
theorem dX12_school_23 : decode cX12_school 23 = .ok (.getfield 7, 3) := by decide +kernel
theorem dX12_school_26 : decode cX12_school 26 = .ok (.iconst 1, 1) := by decide +kernel
theorem dX12_school_27 : decode cX12_school 27 = .ok (.dup2, 1) := by decide +kernel
theorem dX12_school_28 : decode cX12_school 28 = .ok (.iaload, 1) := by decide +kernel
theorem dX12_school_29 : decode cX12_school 29 = .ok (.iconst 1, 1) := by decide +kernel
theorem dX12_school_30 : decode cX12_school 30 = .ok (.iadd, 1) := by decide +kernel
theorem dX12_school_31 : decode cX12_school 31 = .ok (.iastore, 1) := by decide +kernel
theorem dX12_school_32 : decode cX12_school 32 = .ok (.aload_n 0, 1) := by decide +kernel
theorem dX12_school_33 : decode cX12_school 33 = .ok (.aload_n 0, 1) := by decide +kernel
theorem dX12_school_34 : decode cX12_school 34 = .ok (.getfield 7, 3) := by decide +kernel
theorem dX12_school_37 : decode cX12_school 37 = .ok (.iconst 1, 1) := by decide +kernel
theorem dX12_school_38 : decode cX12_school 38 = .ok (.iaload, 1) := by decide +kernel
theorem dX12_school_39 : decode cX12_school 39 = .ok (.iconst 1, 1) := by decide +kernel
theorem dX12_school_40 : decode cX12_school 40 = .ok (.isub, 1) := by decide +kernel
theorem dX12_school_41 : decode cX12_school 41 = .ok (.invokevirtual 106, 3) := by decide +kernel
theorem dX12_school_44 : decode cX12_school 44 = .ok (.ireturn, 1) := by decide +kernel
theorem dX12_seal_0 : decode cX12_seal 0 = .ok (.aload_n 0, 1) := by decide +kernel
theorem dX12_seal_1 : decode cX12_seal 1 = .ok (.iconst 0, 1) := by decide +kernel
theorem dX12_seal_2 : decode cX12_seal 2 = .ok (.putfield 92, 3) := by decide +kernel
theorem dX12_seal_5 : decode cX12_seal 5 = .ok (.iload_n 1, 1) := by decide +kernel
theorem dX12_seal_6 : decode cX12_seal 6 = .ok (.invokestatic 127, 3) := by decide +kernel
theorem dX12_seal_9 : decode cX12_seal 9 = .ok (.ifCond .ne 9, 3) := by decide +kernel
theorem dX12_seal_12 : decode cX12_seal 12 = .ok (.aload_n 0, 1) := by decide +kernel
theorem dX12_seal_13 : decode cX12_seal 13 = .ok (.iconst (-1), 1) := by decide +kernel
theorem dX12_seal_14 : decode cX12_seal 14 = .ok (.invokevirtual 106, 3) := by decide +kernel
theorem dX12_seal_17 : decode cX12_seal 17 = .ok (.ireturn, 1) := by decide +kernel
theorem dX12_seal_18 : decode cX12_seal 18 = .ok (.aload_n 0, 1) := by decide +kernel
theorem dX12_seal_19 : decode cX12_seal 19 = .ok (.iload_n 1, 1) := by decide +kernel
theorem dX12_seal_20 : decode cX12_seal 20 = .ok (.invokevirtual 558, 3) := by decide +kernel
theorem dX12_seal_23 : decode cX12_seal 23 = .ok (.aload_n 0, 1) := by decide +kernel
theorem dX12_seal_24 : decode cX12_seal 24 = .ok (.sipush 7061, 3) := by decide +kernel
theorem dX12_seal_27 : decode cX12_seal 27 = .ok (.iconst 4, 1) := by decide +kernel
theorem dX12_seal_28 : decode cX12_seal 28 = .ok (.iload_n 1, 1) := by decide +kernel
theorem dX12_seal_29 : decode cX12_seal 29 = .ok (.imul, 1) := by decide +kernel
theorem dX12_seal_30 : decode cX12_seal 30 = .ok (.iadd, 1) := by decide +kernel
theorem dX12_seal_31 : decode cX12_seal 31 = .ok (.iconst 1, 1) := by decide +kernel
theorem dX12_seal_32 : decode cX12_seal 32 = .ok (.aload_n 0, 1) := by decide +kernel
theorem dX12_seal_33 : decode cX12_seal 33 = .ok (.getfield 549, 3) := by decide +kernel
theorem dX12_seal_36 : decode cX12_seal 36 = .ok (.aload_n 0, 1) := by decide +kernel
theorem dX12_seal_37 : decode cX12_seal 37 = .ok (.getfield 552, 3) := by decide +kernel
theorem dX12_seal_40 : decode cX12_seal 40 = .ok (.aload_n 0, 1) := by decide +kernel
theorem dX12_seal_41 : decode cX12_seal 41 = .ok (.getfield 555, 3) := by decide +kernel
theorem dX12_seal_44 : decode cX12_seal 44 = .ok (.invokevirtual 123, 3) := by decide +kernel
theorem dX12_seal_47 : decode cX12_seal 47 = .ok (.aload_n 0, 1) := by decide +kernel
theorem dX12_seal_48 : decode cX12_seal 48 = .ok (.aload_n 0, 1) := by decide +kernel
theorem dX12_seal_49 : decode cX12_seal 49 = .ok (.getfield 549, 3) := by decide +kernel
theorem dX12_seal_52 : decode cX12_seal 52 = .ok (.invokevirtual 106, 3) := by decide +kernel
theorem dX12_seal_55 : decode cX12_seal 55 = .ok (.ireturn, 1) := by decide +kernel
theorem dX12_seen_0 : decode cX12_seen 0 = .ok (.aload_n 0, 1) := by decide +kernel
theorem dX12_seen_1 : decode cX12_seen 1 = .ok (.iconst 0, 1) := by decide +kernel
theorem dX12_seen_2 : decode cX12_seen 2 = .ok (.putfield 92, 3) := by decide +kernel
theorem dX12_seen_5 : decode cX12_seen 5 = .ok (.aload_n 0, 1) := by decide +kernel
theorem dX12_seen_6 : decode cX12_seen 6 = .ok (.iload_n 1, 1) := by decide +kernel
theorem dX12_seen_7 : decode cX12_seen 7 = .ok (.invokevirtual 138, 3) := by decide +kernel
theorem dX12_seen_10 : decode cX12_seen 10 = .ok (.ifCond .eq 17, 3) := by decide +kernel
theorem dX12_seen_27 : decode cX12_seen 27 = .ok (.iconst (-1), 1) := by decide +kernel
theorem dX12_seen_28 : decode cX12_seen 28 = .ok (.ireturn, 1) := by decide +kernel
theorem dX12_sees_0 : decode cX12_sees 0 = .ok (.aload_n 0, 1) := by decide +kernel
theorem dX12_sees_1 : decode cX12_sees 1 = .ok (.iconst 0, 1) := by decide +kernel
theorem dX12_sees_2 : decode cX12_sees 2 = .ok (.putfield 92, 3) := by decide +kernel
theorem dX12_sees_5 : decode cX12_sees 5 = .ok (.iload_n 1, 1) := by decide +kernel
theorem dX12_sees_6 : decode cX12_sees 6 = .ok (.i2l, 1) := by decide +kernel
theorem dX12_sees_7 : decode cX12_sees 7 = .ok (.lconst 0, 1) := by decide +kernel
theorem dX12_sees_8 : decode cX12_sees 8 = .ok (.ldc2_w 110, 3) := by decide +kernel
theorem dX12_sees_11 : decode cX12_sees 11 = .ok (.invokestatic 100, 3) := by decide +kernel
theorem dX12_sees_14 : decode cX12_sees 14 = .ok (.ifCond .eq 35, 3) := by decide +kernel
theorem dX12_sees_17 : decode cX12_sees 17 = .ok (.aload_n 0, 1) := by decide +kernel
theorem dX12_sees_18 : decode cX12_sees 18 = .ok (.iload_n 2, 1) := by decide +kernel
theorem dX12_sees_19 : decode cX12_sees 19 = .ok (.invokevirtual 131, 3) := by decide +kernel
theorem dX12_sees_22 : decode cX12_sees 22 = .ok (.ifCond .eq 27, 3) := by decide +kernel
theorem dX12_sees_49 : decode cX12_sees 49 = .ok (.iconst (-1), 1) := by decide +kernel
theorem dX12_sees_50 : decode cX12_sees 50 = .ok (.ireturn, 1) := by decide +kernel
theorem dX12_shut_0 : decode cX12_shut 0 = .ok (.aload_n 0, 1) := by decide +kernel
theorem dX12_shut_1 : decode cX12_shut 1 = .ok (.iconst 0, 1) := by decide +kernel
theorem dX12_shut_2 : decode cX12_shut 2 = .ok (.putfield 92, 3) := by decide +kernel
theorem dX12_shut_5 : decode cX12_shut 5 = .ok (.iload_n 2, 1) := by decide +kernel
theorem dX12_shut_6 : decode cX12_shut 6 = .ok (.invokestatic 127, 3) := by decide +kernel
theorem dX12_shut_9 : decode cX12_shut 9 = .ok (.ifCond .ne 9, 3) := by decide +kernel
theorem dX12_shut_12 : decode cX12_shut 12 = .ok (.aload_n 0, 1) := by decide +kernel
theorem dX12_shut_13 : decode cX12_shut 13 = .ok (.iconst (-1), 1) := by decide +kernel
theorem dX12_shut_14 : decode cX12_shut 14 = .ok (.invokevirtual 106, 3) := by decide +kernel
theorem dX12_shut_17 : decode cX12_shut 17 = .ok (.ireturn, 1) := by decide +kernel
theorem dX12_shut_18 : decode cX12_shut 18 = .ok (.aload_n 0, 1) := by decide +kernel
theorem dX12_shut_19 : decode cX12_shut 19 = .ok (.iload_n 1, 1) := by decide +kernel
theorem dX12_shut_20 : decode cX12_shut 20 = .ok (.invokevirtual 131, 3) := by decide +kernel
theorem dX12_shut_23 : decode cX12_shut 23 = .ok (.ifCond .ne 10, 3) := by decide +kernel
theorem dX12_shut_26 : decode cX12_shut 26 = .ok (.aload_n 0, 1) := by decide +kernel
theorem dX12_shut_27 : decode cX12_shut 27 = .ok (.bipush (-2), 2) := by decide +kernel
theorem dX12_shut_29 : decode cX12_shut 29 = .ok (.invokevirtual 106, 3) := by decide +kernel
theorem dX12_shut_32 : decode cX12_shut 32 = .ok (.ireturn, 1) := by decide +kernel
theorem dX12_stands_0 : decode cX12_stands 0 = .ok (.aload_n 0, 1) := by decide +kernel
theorem dX12_stands_1 : decode cX12_stands 1 = .ok (.iconst 0, 1) := by decide +kernel
theorem dX12_stands_2 : decode cX12_stands 2 = .ok (.putfield 92, 3) := by decide +kernel
theorem dX12_stands_5 : decode cX12_stands 5 = .ok (.aload_n 0, 1) := by decide +kernel
theorem dX12_stands_6 : decode cX12_stands 6 = .ok (.iload_n 1, 1) := by decide +kernel
theorem dX12_stands_7 : decode cX12_stands 7 = .ok (.invokevirtual 138, 3) := by decide +kernel
theorem dX12_stands_10 : decode cX12_stands 10 = .ok (.ifCond .eq 35, 3) := by decide +kernel
theorem dX12_stands_45 : decode cX12_stands 45 = .ok (.iconst (-1), 1) := by decide +kernel
theorem dX12_stands_46 : decode cX12_stands 46 = .ok (.ireturn, 1) := by decide +kernel
theorem dX12_status_0 : decode cX12_status 0 = .ok (.aload_n 0, 1) := by decide +kernel
theorem dX12_status_1 : decode cX12_status 1 = .ok (.iconst 0, 1) := by decide +kernel
theorem dX12_status_2 : decode cX12_status 2 = .ok (.putfield 92, 3) := by decide +kernel
theorem dX12_status_5 : decode cX12_status 5 = .ok (.aload_n 0, 1) := by decide +kernel
theorem dX12_status_6 : decode cX12_status 6 = .ok (.getfield 95, 3) := by decide +kernel
theorem dX12_status_9 : decode cX12_status 9 = .ok (.ireturn, 1) := by decide +kernel
theorem dX12_take_0 : decode cX12_take 0 = .ok (.aload_n 0, 1) := by decide +kernel
theorem dX12_take_1 : decode cX12_take 1 = .ok (.iconst 0, 1) := by decide +kernel
theorem dX12_take_2 : decode cX12_take 2 = .ok (.putfield 92, 3) := by decide +kernel
theorem dX12_take_5 : decode cX12_take 5 = .ok (.iload_n 2, 1) := by decide +kernel
theorem dX12_take_6 : decode cX12_take 6 = .ok (.invokestatic 460, 3) := by decide +kernel
theorem dX12_take_9 : decode cX12_take 9 = .ok (.ifCond .eq 10, 3) := by decide +kernel
theorem dX12_take_12 : decode cX12_take 12 = .ok (.iload_n 3, 1) := by decide +kernel
theorem dX12_take_13 : decode cX12_take 13 = .ok (.invokestatic 127, 3) := by decide +kernel
theorem dX12_take_16 : decode cX12_take 16 = .ok (.ifCond .ne 9, 3) := by decide +kernel
theorem dX12_take_19 : decode cX12_take 19 = .ok (.aload_n 0, 1) := by decide +kernel
theorem dX12_take_20 : decode cX12_take 20 = .ok (.iconst (-1), 1) := by decide +kernel
theorem dX12_take_21 : decode cX12_take 21 = .ok (.invokevirtual 106, 3) := by decide +kernel
theorem dX12_take_24 : decode cX12_take 24 = .ok (.ireturn, 1) := by decide +kernel
theorem dX12_take_25 : decode cX12_take 25 = .ok (.aload_n 0, 1) := by decide +kernel
theorem dX12_take_26 : decode cX12_take 26 = .ok (.iload_n 1, 1) := by decide +kernel
theorem dX12_take_27 : decode cX12_take 27 = .ok (.invokevirtual 138, 3) := by decide +kernel
theorem dX12_take_30 : decode cX12_take 30 = .ok (.ifCond .ne 10, 3) := by decide +kernel
theorem dX12_take_33 : decode cX12_take 33 = .ok (.aload_n 0, 1) := by decide +kernel
theorem dX12_take_34 : decode cX12_take 34 = .ok (.bipush (-2), 2) := by decide +kernel
theorem dX12_take_36 : decode cX12_take 36 = .ok (.invokevirtual 106, 3) := by decide +kernel
theorem dX12_take_39 : decode cX12_take 39 = .ok (.ireturn, 1) := by decide +kernel
theorem dX12_tells_0 : decode cX12_tells 0 = .ok (.aload_n 0, 1) := by decide +kernel
theorem dX12_tells_1 : decode cX12_tells 1 = .ok (.iconst 0, 1) := by decide +kernel
theorem dX12_tells_2 : decode cX12_tells 2 = .ok (.putfield 92, 3) := by decide +kernel
theorem dX12_tells_5 : decode cX12_tells 5 = .ok (.aload_n 0, 1) := by decide +kernel
theorem dX12_tells_6 : decode cX12_tells 6 = .ok (.iload_n 1, 1) := by decide +kernel
theorem dX12_tells_7 : decode cX12_tells 7 = .ok (.invokevirtual 131, 3) := by decide +kernel
theorem dX12_tells_10 : decode cX12_tells 10 = .ok (.ifCond .eq 39, 3) := by decide +kernel
theorem dX12_tells_49 : decode cX12_tells 49 = .ok (.iconst (-1), 1) := by decide +kernel
theorem dX12_tells_50 : decode cX12_tells 50 = .ok (.ireturn, 1) := by decide +kernel
theorem dX12_told_0 : decode cX12_told 0 = .ok (.aload_n 0, 1) := by decide +kernel
theorem dX12_told_1 : decode cX12_told 1 = .ok (.iload_n 1, 1) := by decide +kernel
theorem dX12_told_2 : decode cX12_told 2 = .ok (.ifCond .ge 7, 3) := by decide +kernel
theorem dX12_told_5 : decode cX12_told 5 = .ok (.iload_n 1, 1) := by decide +kernel
theorem dX12_told_6 : decode cX12_told 6 = .ok (.goto 4, 3) := by decide +kernel
theorem dX12_told_9 : decode cX12_told 9 = .ok (.iconst 0, 1) := by decide +kernel
theorem dX12_told_10 : decode cX12_told 10 = .ok (.putfield 95, 3) := by decide +kernel
theorem dX12_told_13 : decode cX12_told 13 = .ok (.iload_n 1, 1) := by decide +kernel
theorem dX12_told_14 : decode cX12_told 14 = .ok (.ireturn, 1) := by decide +kernel
theorem dX12_visit_0 : decode cX12_visit 0 = .ok (.aload_n 0, 1) := by decide +kernel
theorem dX12_visit_1 : decode cX12_visit 1 = .ok (.iconst 0, 1) := by decide +kernel
theorem dX12_visit_2 : decode cX12_visit 2 = .ok (.putfield 92, 3) := by decide +kernel
theorem dX12_visit_5 : decode cX12_visit 5 = .ok (.iload_n 2, 1) := by decide +kernel
theorem dX12_visit_6 : decode cX12_visit 6 = .ok (.i2l, 1) := by decide +kernel
theorem dX12_visit_7 : decode cX12_visit 7 = .ok (.lconst 1, 1) := by decide +kernel
theorem dX12_visit_8 : decode cX12_visit 8 = .ok (.ldc2_w 524, 3) := by decide +kernel
theorem dX12_visit_11 : decode cX12_visit 11 = .ok (.invokestatic 100, 3) := by decide +kernel
theorem dX12_visit_14 : decode cX12_visit 14 = .ok (.ifCond .eq 15, 3) := by decide +kernel
theorem dX12_visit_17 : decode cX12_visit 17 = .ok (.iload_n 3, 1) := by decide +kernel
theorem dX12_visit_18 : decode cX12_visit 18 = .ok (.i2l, 1) := by decide +kernel
theorem dX12_visit_19 : decode cX12_visit 19 = .ok (.lconst 1, 1) := by decide +kernel
theorem dX12_visit_20 : decode cX12_visit 20 = .ok (.ldc2_w 526, 3) := by decide +kernel
theorem dX12_visit_23 : decode cX12_visit 23 = .ok (.invokestatic 100, 3) := by decide +kernel
theorem dX12_visit_26 : decode cX12_visit 26 = .ok (.ifCond .ne 9, 3) := by decide +kernel
theorem dX12_visit_29 : decode cX12_visit 29 = .ok (.aload_n 0, 1) := by decide +kernel
theorem dX12_visit_30 : decode cX12_visit 30 = .ok (.iconst (-1), 1) := by decide +kernel
theorem dX12_visit_31 : decode cX12_visit 31 = .ok (.invokevirtual 106, 3) := by decide +kernel
theorem dX12_visit_34 : decode cX12_visit 34 = .ok (.ireturn, 1) := by decide +kernel
theorem dX12_visit_35 : decode cX12_visit 35 = .ok (.aload_n 0, 1) := by decide +kernel
theorem dX12_visit_36 : decode cX12_visit 36 = .ok (.iload_n 1, 1) := by decide +kernel
theorem dX12_visit_37 : decode cX12_visit 37 = .ok (.invokevirtual 138, 3) := by decide +kernel
theorem dX12_visit_40 : decode cX12_visit 40 = .ok (.ifCond .ne 10, 3) := by decide +kernel
theorem dX12_visit_43 : decode cX12_visit 43 = .ok (.aload_n 0, 1) := by decide +kernel
theorem dX12_visit_44 : decode cX12_visit 44 = .ok (.bipush (-2), 2) := by decide +kernel
theorem dX12_visit_46 : decode cX12_visit 46 = .ok (.invokevirtual 106, 3) := by decide +kernel
theorem dX12_visit_49 : decode cX12_visit 49 = .ok (.ireturn, 1) := by decide +kernel
theorem dX1_countWeek_0 : decode cX1_countWeek 0 = .ok (.aload_n 0, 1) := by decide +kernel
theorem dX1_countWeek_1 : decode cX1_countWeek 1 = .ok (.getfield 34, 3) := by decide +kernel
theorem dX1_countWeek_4 : decode cX1_countWeek 4 = .ok (.getfield 38, 3) := by decide +kernel
theorem dX1_countWeek_7 : decode cX1_countWeek 7 = .ok (.astore_n 3, 1) := by decide +kernel
theorem dX1_countWeek_8 : decode cX1_countWeek 8 = .ok (.aload_n 0, 1) := by decide +kernel
theorem dX1_countWeek_9 : decode cX1_countWeek 9 = .ok (.getfield 28, 3) := by decide +kernel
theorem dX1_countWeek_12 : decode cX1_countWeek 12 = .ok (.iconst 0, 1) := by decide +kernel
theorem dX1_countWeek_13 : decode cX1_countWeek 13 = .ok (.invokestatic 129, 3) := by decide +kernel
theorem dX1_countWeek_16 : decode cX1_countWeek 16 = .ok (.aload_n 0, 1) := by decide +kernel
theorem dX1_countWeek_17 : decode cX1_countWeek 17 = .ok (.getfield 31, 3) := by decide +kernel
theorem dX1_countWeek_20 : decode cX1_countWeek 20 = .ok (.iconst 0, 1) := by decide +kernel
theorem dX1_countWeek_21 : decode cX1_countWeek 21 = .ok (.invokestatic 129, 3) := by decide +kernel
theorem dX1_countWeek_24 : decode cX1_countWeek 24 = .ok (.iconst 0, 1) := by decide +kernel
theorem dX1_countWeek_25 : decode cX1_countWeek 25 = .ok (.istore 4, 2) := by decide +kernel
theorem dX1_countWeek_27 : decode cX1_countWeek 27 = .ok (.iload 4, 2) := by decide +kernel
theorem dX1_countWeek_29 : decode cX1_countWeek 29 = .ok (.aload_n 3, 1) := by decide +kernel
theorem dX1_countWeek_30 : decode cX1_countWeek 30 = .ok (.getfield 196, 3) := by decide +kernel
theorem dX1_countWeek_33 : decode cX1_countWeek 33 = .ok (.if_icmp .ge 94, 3) := by decide +kernel
theorem dX1_countWeek_127 : decode cX1_countWeek 127 = .ok (.return_, 1) := by decide +kernel
theorem dX1_dippingSchools_0 : decode cX1_dippingSchools 0 = .ok (.lconst 0, 1) := by decide +kernel
theorem dX1_dippingSchools_1 : decode cX1_dippingSchools 1 = .ok (.lstore_n 2, 1) := by decide +kernel
theorem dX1_dippingSchools_2 : decode cX1_dippingSchools 2 = .ok (.lconst 0, 1) := by decide +kernel
theorem dX1_dippingSchools_3 : decode cX1_dippingSchools 3 = .ok (.lstore 4, 2) := by decide +kernel
theorem dX1_dippingSchools_5 : decode cX1_dippingSchools 5 = .ok (.iconst 0, 1) := by decide +kernel
theorem dX1_dippingSchools_6 : decode cX1_dippingSchools 6 = .ok (.istore 6, 2) := by decide +kernel
theorem dX1_dippingSchools_8 : decode cX1_dippingSchools 8 = .ok (.iload 6, 2) := by decide +kernel
theorem dX1_dippingSchools_10 : decode cX1_dippingSchools 10 = .ok (.iconst 5, 1) := by decide +kernel
theorem dX1_dippingSchools_11 : decode cX1_dippingSchools 11 = .ok (.if_icmp .ge 33, 3) := by decide +kernel
theorem dX1_dippingSchools_14 : decode cX1_dippingSchools 14 = .ok (.lload_n 2, 1) := by decide +kernel
theorem dX1_dippingSchools_15 : decode cX1_dippingSchools 15 = .ok (.aload_n 0, 1) := by decide +kernel
theorem dX1_dippingSchools_16 : decode cX1_dippingSchools 16 = .ok (.getfield 28, 3) := by decide +kernel
theorem dX1_dippingSchools_19 : decode cX1_dippingSchools 19 = .ok (.iload 6, 2) := by decide +kernel
theorem dX1_dippingSchools_21 : decode cX1_dippingSchools 21 = .ok (.iaload, 1) := by decide +kernel
theorem dX1_dippingSchools_22 : decode cX1_dippingSchools 22 = .ok (.i2l, 1) := by decide +kernel
theorem dX1_dippingSchools_23 : decode cX1_dippingSchools 23 = .ok (.ladd, 1) := by decide +kernel
theorem dX1_dippingSchools_24 : decode cX1_dippingSchools 24 = .ok (.lstore_n 2, 1) := by decide +kernel
theorem dX1_dippingSchools_25 : decode cX1_dippingSchools 25 = .ok (.lload 4, 2) := by decide +kernel
theorem dX1_dippingSchools_27 : decode cX1_dippingSchools 27 = .ok (.aload_n 0, 1) := by decide +kernel
theorem dX1_dippingSchools_28 : decode cX1_dippingSchools 28 = .ok (.getfield 31, 3) := by decide +kernel
theorem dX1_dippingSchools_31 : decode cX1_dippingSchools 31 = .ok (.iload 6, 2) := by decide +kernel
theorem dX1_dippingSchools_33 : decode cX1_dippingSchools 33 = .ok (.iaload, 1) := by decide +kernel
theorem dX1_dippingSchools_34 : decode cX1_dippingSchools 34 = .ok (.i2l, 1) := by decide +kernel
theorem dX1_dippingSchools_35 : decode cX1_dippingSchools 35 = .ok (.ladd, 1) := by decide +kernel
theorem dX1_dippingSchools_36 : decode cX1_dippingSchools 36 = .ok (.lstore 4, 2) := by decide +kernel
theorem dX1_dippingSchools_38 : decode cX1_dippingSchools 38 = .ok (.iinc 6 1, 3) := by decide +kernel
theorem dX1_dippingSchools_41 : decode cX1_dippingSchools 41 = .ok (.goto (-33), 3) := by decide +kernel
theorem dX1_dippingSchools_44 : decode cX1_dippingSchools 44 = .ok (.iload_n 1, 1) := by decide +kernel
theorem dX1_dippingSchools_45 : decode cX1_dippingSchools 45 = .ok (.i2l, 1) := by decide +kernel
theorem dX1_dippingSchools_46 : decode cX1_dippingSchools 46 = .ok (.iload_n 1, 1) := by decide +kernel
theorem dX1_dippingSchools_47 : decode cX1_dippingSchools 47 = .ok (.i2l, 1) := by decide +kernel
theorem dX1_dippingSchools_48 : decode cX1_dippingSchools 48 = .ok (.lmul, 1) := by decide +kernel
theorem dX1_dippingSchools_49 : decode cX1_dippingSchools 49 = .ok (.aload_n 0, 1) := by decide +kernel
theorem dX1_dippingSchools_50 : decode cX1_dippingSchools 50 = .ok (.invokevirtual 236, 3) := by decide +kernel
theorem dX1_dippingSchools_53 : decode cX1_dippingSchools 53 = .ok (.i2l, 1) := by decide +kernel
theorem dX1_dippingSchools_54 : decode cX1_dippingSchools 54 = .ok (.lmul, 1) := by decide +kernel
theorem dX1_dippingSchools_55 : decode cX1_dippingSchools 55 = .ok (.lstore 6, 2) := by decide +kernel
theorem dX1_dippingSchools_57 : decode cX1_dippingSchools 57 = .ok (.iconst 0, 1) := by decide +kernel
theorem dX1_dippingSchools_58 : decode cX1_dippingSchools 58 = .ok (.istore 8, 2) := by decide +kernel
theorem dX1_dippingSchools_60 : decode cX1_dippingSchools 60 = .ok (.iconst 0, 1) := by decide +kernel
theorem dX1_dippingSchools_61 : decode cX1_dippingSchools 61 = .ok (.istore 9, 2) := by decide +kernel
theorem dX1_dippingSchools_63 : decode cX1_dippingSchools 63 = .ok (.iload 9, 2) := by decide +kernel
theorem dX1_dippingSchools_65 : decode cX1_dippingSchools 65 = .ok (.iconst 5, 1) := by decide +kernel
theorem dX1_dippingSchools_66 : decode cX1_dippingSchools 66 = .ok (.if_icmp .ge 96, 3) := by decide +kernel
theorem dX1_dippingSchools_69 : decode cX1_dippingSchools 69 = .ok (.aload_n 0, 1) := by decide +kernel
theorem dX1_dippingSchools_70 : decode cX1_dippingSchools 70 = .ok (.getfield 31, 3) := by decide +kernel
theorem dX1_dippingSchools_73 : decode cX1_dippingSchools 73 = .ok (.iload 9, 2) := by decide +kernel
theorem dX1_dippingSchools_75 : decode cX1_dippingSchools 75 = .ok (.iaload, 1) := by decide +kernel
theorem dX1_dippingSchools_76 : decode cX1_dippingSchools 76 = .ok (.i2l, 1) := by decide +kernel
theorem dX1_dippingSchools_77 : decode cX1_dippingSchools 77 = .ok (.lload_n 2, 1) := by decide +kernel
theorem dX1_dippingSchools_78 : decode cX1_dippingSchools 78 = .ok (.lmul, 1) := by decide +kernel
theorem dX1_dippingSchools_79 : decode cX1_dippingSchools 79 = .ok (.aload_n 0, 1) := by decide +kernel
theorem dX1_dippingSchools_80 : decode cX1_dippingSchools 80 = .ok (.getfield 28, 3) := by decide +kernel
theorem dX1_dippingSchools_83 : decode cX1_dippingSchools 83 = .ok (.iload 9, 2) := by decide +kernel
theorem dX1_dippingSchools_85 : decode cX1_dippingSchools 85 = .ok (.iaload, 1) := by decide +kernel
theorem dX1_dippingSchools_86 : decode cX1_dippingSchools 86 = .ok (.i2l, 1) := by decide +kernel
theorem dX1_dippingSchools_87 : decode cX1_dippingSchools 87 = .ok (.lload 4, 2) := by decide +kernel
theorem dX1_dippingSchools_89 : decode cX1_dippingSchools 89 = .ok (.lmul, 1) := by decide +kernel
theorem dX1_dippingSchools_90 : decode cX1_dippingSchools 90 = .ok (.lsub, 1) := by decide +kernel
theorem dX1_dippingSchools_91 : decode cX1_dippingSchools 91 = .ok (.lstore 10, 2) := by decide +kernel
theorem dX1_dippingSchools_93 : decode cX1_dippingSchools 93 = .ok (.aload_n 0, 1) := by decide +kernel
theorem dX1_dippingSchools_94 : decode cX1_dippingSchools 94 = .ok (.getfield 28, 3) := by decide +kernel
theorem dX1_dippingSchools_97 : decode cX1_dippingSchools 97 = .ok (.iload 9, 2) := by decide +kernel
theorem dX1_dippingSchools_99 : decode cX1_dippingSchools 99 = .ok (.iaload, 1) := by decide +kernel
theorem dX1_dippingSchools_100 : decode cX1_dippingSchools 100 = .ok (.i2l, 1) := by decide +kernel
theorem dX1_dippingSchools_101 : decode cX1_dippingSchools 101 = .ok (.lload 4, 2) := by decide +kernel
theorem dX1_dippingSchools_103 : decode cX1_dippingSchools 103 = .ok (.lmul, 1) := by decide +kernel
theorem dX1_dippingSchools_104 : decode cX1_dippingSchools 104 = .ok (.lload_n 2, 1) := by decide +kernel
theorem dX1_dippingSchools_105 : decode cX1_dippingSchools 105 = .ok (.aload_n 0, 1) := by decide +kernel
theorem dX1_dippingSchools_106 : decode cX1_dippingSchools 106 = .ok (.getfield 28, 3) := by decide +kernel
theorem dX1_dippingSchools_109 : decode cX1_dippingSchools 109 = .ok (.iload 9, 2) := by decide +kernel
theorem dX1_dippingSchools_111 : decode cX1_dippingSchools 111 = .ok (.iaload, 1) := by decide +kernel
theorem dX1_dippingSchools_112 : decode cX1_dippingSchools 112 = .ok (.i2l, 1) := by decide +kernel
theorem dX1_dippingSchools_113 : decode cX1_dippingSchools 113 = .ok (.lsub, 1) := by decide +kernel
theorem dX1_dippingSchools_114 : decode cX1_dippingSchools 114 = .ok (.lmul, 1) := by decide +kernel
theorem dX1_dippingSchools_115 : decode cX1_dippingSchools 115 = .ok (.lload_n 2, 1) := by decide +kernel
theorem dX1_dippingSchools_116 : decode cX1_dippingSchools 116 = .ok (.lload 4, 2) := by decide +kernel
theorem dX1_dippingSchools_118 : decode cX1_dippingSchools 118 = .ok (.lsub, 1) := by decide +kernel
theorem dX1_dippingSchools_119 : decode cX1_dippingSchools 119 = .ok (.lmul, 1) := by decide +kernel
theorem dX1_dippingSchools_120 : decode cX1_dippingSchools 120 = .ok (.lstore 12, 2) := by decide +kernel
theorem dX1_dippingSchools_122 : decode cX1_dippingSchools 122 = .ok (.lload 10, 2) := by decide +kernel
theorem dX1_dippingSchools_124 : decode cX1_dippingSchools 124 = .ok (.lconst 0, 1) := by decide +kernel
theorem dX1_dippingSchools_125 : decode cX1_dippingSchools 125 = .ok (.lcmp, 1) := by decide +kernel
theorem dX1_dippingSchools_126 : decode cX1_dippingSchools 126 = .ok (.ifCond .le 30, 3) := by decide +kernel
theorem dX1_dippingSchools_156 : decode cX1_dippingSchools 156 = .ok (.iinc 9 1, 3) := by decide +kernel
theorem dX1_dippingSchools_159 : decode cX1_dippingSchools 159 = .ok (.goto (-96), 3) := by decide +kernel
theorem dX1_dippingSchools_162 : decode cX1_dippingSchools 162 = .ok (.iload 8, 2) := by decide +kernel
theorem dX1_dippingSchools_164 : decode cX1_dippingSchools 164 = .ok (.ireturn, 1) := by decide +kernel
theorem dX1_init_0 : decode cX1_init 0 = .ok (.aload_n 0, 1) := by decide +kernel
theorem dX1_init_1 : decode cX1_init 1 = .ok (.invokespecial 3, 3) := by decide +kernel
theorem dX1_init_4 : decode cX1_init 4 = .ok (.aload_n 0, 1) := by decide +kernel
theorem dX1_init_5 : decode cX1_init 5 = .ok (.bipush 51, 2) := by decide +kernel
theorem dX1_init_7 : decode cX1_init 7 = .ok (.newarray .long, 2) := by decide +kernel
theorem dX1_init_9 : decode cX1_init 9 = .ok (.putfield 9, 3) := by decide +kernel
theorem dX1_init_12 : decode cX1_init 12 = .ok (.aload_n 0, 1) := by decide +kernel
theorem dX1_init_13 : decode cX1_init 13 = .ok (.bipush 20, 2) := by decide +kernel
theorem dX1_init_15 : decode cX1_init 15 = .ok (.newarray .int, 2) := by decide +kernel
theorem dX1_init_17 : decode cX1_init 17 = .ok (.putfield 15, 3) := by decide +kernel
theorem dX1_init_20 : decode cX1_init 20 = .ok (.aload_n 0, 1) := by decide +kernel
theorem dX1_init_21 : decode cX1_init 21 = .ok (.sipush 400, 3) := by decide +kernel
theorem dX1_init_24 : decode cX1_init 24 = .ok (.newarray .int, 2) := by decide +kernel
theorem dX1_init_26 : decode cX1_init 26 = .ok (.putfield 19, 3) := by decide +kernel
theorem dX1_init_29 : decode cX1_init 29 = .ok (.aload_n 0, 1) := by decide +kernel
theorem dX1_init_30 : decode cX1_init 30 = .ok (.sipush 401, 3) := by decide +kernel
theorem dX1_init_33 : decode cX1_init 33 = .ok (.newarray .int, 2) := by decide +kernel
theorem dX1_init_35 : decode cX1_init 35 = .ok (.putfield 22, 3) := by decide +kernel
theorem dX1_init_38 : decode cX1_init 38 = .ok (.aload_n 0, 1) := by decide +kernel
theorem dX1_init_39 : decode cX1_init 39 = .ok (.sipush 401, 3) := by decide +kernel
theorem dX1_init_42 : decode cX1_init 42 = .ok (.newarray .int, 2) := by decide +kernel
theorem dX1_init_44 : decode cX1_init 44 = .ok (.putfield 25, 3) := by decide +kernel
theorem dX1_init_47 : decode cX1_init 47 = .ok (.aload_n 0, 1) := by decide +kernel
theorem dX1_init_48 : decode cX1_init 48 = .ok (.iconst 5, 1) := by decide +kernel
theorem dX1_init_49 : decode cX1_init 49 = .ok (.newarray .int, 2) := by decide +kernel
theorem dX1_init_51 : decode cX1_init 51 = .ok (.putfield 28, 3) := by decide +kernel
theorem dX1_init_54 : decode cX1_init 54 = .ok (.aload_n 0, 1) := by decide +kernel
theorem dX1_init_55 : decode cX1_init 55 = .ok (.iconst 5, 1) := by decide +kernel
theorem dX1_init_56 : decode cX1_init 56 = .ok (.newarray .int, 2) := by decide +kernel
theorem dX1_init_58 : decode cX1_init 58 = .ok (.putfield 31, 3) := by decide +kernel
theorem dX1_init_61 : decode cX1_init 61 = .ok (.aload_n 0, 1) := by decide +kernel
theorem dX1_init_62 : decode cX1_init 62 = .ok (.aload_n 1, 1) := by decide +kernel
theorem dX1_init_63 : decode cX1_init 63 = .ok (.putfield 34, 3) := by decide +kernel
theorem dX1_init_66 : decode cX1_init 66 = .ok (.return_, 1) := by decide +kernel
theorem dX1_isInForce_0 : decode cX1_isInForce 0 = .ok (.aload_n 0, 1) := by decide +kernel
theorem dX1_isInForce_1 : decode cX1_isInForce 1 = .ok (.getfield 34, 3) := by decide +kernel
theorem dX1_isInForce_4 : decode cX1_isInForce 4 = .ok (.getfield 96, 3) := by decide +kernel
theorem dX1_isInForce_7 : decode cX1_isInForce 7 = .ok (.astore 4, 2) := by decide +kernel
theorem dX1_isInForce_9 : decode cX1_isInForce 9 = .ok (.iload_n 1, 1) := by decide +kernel
theorem dX1_isInForce_10 : decode cX1_isInForce 10 = .ok (.ifCond .lt 42, 3) := by decide +kernel
theorem dX1_isInForce_13 : decode cX1_isInForce 13 = .ok (.iload_n 1, 1) := by decide +kernel
theorem dX1_isInForce_14 : decode cX1_isInForce 14 = .ok (.aload 4, 2) := by decide +kernel
theorem dX1_isInForce_16 : decode cX1_isInForce 16 = .ok (.getfield 103, 3) := by decide +kernel
theorem dX1_isInForce_19 : decode cX1_isInForce 19 = .ok (.if_icmp .ge 33, 3) := by decide +kernel
theorem dX1_isInForce_52 : decode cX1_isInForce 52 = .ok (.iconst (-1), 1) := by decide +kernel
theorem dX1_isInForce_53 : decode cX1_isInForce 53 = .ok (.ireturn, 1) := by decide +kernel
theorem dX1_noteKinds_0 : decode cX1_noteKinds 0 = .ok (.iconst 0, 1) := by decide +kernel
theorem dX1_noteKinds_1 : decode cX1_noteKinds 1 = .ok (.istore_n 2, 1) := by decide +kernel
theorem dX1_noteKinds_2 : decode cX1_noteKinds 2 = .ok (.iload_n 2, 1) := by decide +kernel
theorem dX1_noteKinds_3 : decode cX1_noteKinds 3 = .ok (.aload_n 0, 1) := by decide +kernel
theorem dX1_noteKinds_4 : decode cX1_noteKinds 4 = .ok (.getfield 34, 3) := by decide +kernel
theorem dX1_noteKinds_7 : decode cX1_noteKinds 7 = .ok (.getfield 38, 3) := by decide +kernel
theorem dX1_noteKinds_10 : decode cX1_noteKinds 10 = .ok (.getfield 196, 3) := by decide +kernel
theorem dX1_noteKinds_13 : decode cX1_noteKinds 13 = .ok (.if_icmp .ge 40, 3) := by decide +kernel
theorem dX1_noteKinds_53 : decode cX1_noteKinds 53 = .ok (.return_, 1) := by decide +kernel
theorem dX1_schoolsLookedAt_0 : decode cX1_schoolsLookedAt 0 = .ok (.iconst 0, 1) := by decide +kernel
theorem dX1_schoolsLookedAt_1 : decode cX1_schoolsLookedAt 1 = .ok (.istore_n 1, 1) := by decide +kernel
theorem dX1_schoolsLookedAt_2 : decode cX1_schoolsLookedAt 2 = .ok (.iconst 0, 1) := by decide +kernel
theorem dX1_schoolsLookedAt_3 : decode cX1_schoolsLookedAt 3 = .ok (.istore_n 2, 1) := by decide +kernel
theorem dX1_schoolsLookedAt_4 : decode cX1_schoolsLookedAt 4 = .ok (.iload_n 2, 1) := by decide +kernel
theorem dX1_schoolsLookedAt_5 : decode cX1_schoolsLookedAt 5 = .ok (.iconst 5, 1) := by decide +kernel
theorem dX1_schoolsLookedAt_6 : decode cX1_schoolsLookedAt 6 = .ok (.if_icmp .ge 26, 3) := by decide +kernel
theorem dX1_schoolsLookedAt_9 : decode cX1_schoolsLookedAt 9 = .ok (.iload_n 1, 1) := by decide +kernel
theorem dX1_schoolsLookedAt_10 : decode cX1_schoolsLookedAt 10 = .ok (.aload_n 0, 1) := by decide +kernel
theorem dX1_schoolsLookedAt_11 : decode cX1_schoolsLookedAt 11 = .ok (.getfield 28, 3) := by decide +kernel
theorem dX1_schoolsLookedAt_14 : decode cX1_schoolsLookedAt 14 = .ok (.iload_n 2, 1) := by decide +kernel
theorem dX1_schoolsLookedAt_15 : decode cX1_schoolsLookedAt 15 = .ok (.iaload, 1) := by decide +kernel
theorem dX1_schoolsLookedAt_16 : decode cX1_schoolsLookedAt 16 = .ok (.ifCond .le 7, 3) := by decide +kernel
theorem dX1_schoolsLookedAt_23 : decode cX1_schoolsLookedAt 23 = .ok (.iconst 0, 1) := by decide +kernel
theorem dX1_schoolsLookedAt_24 : decode cX1_schoolsLookedAt 24 = .ok (.iadd, 1) := by decide +kernel
theorem dX1_schoolsLookedAt_25 : decode cX1_schoolsLookedAt 25 = .ok (.istore_n 1, 1) := by decide +kernel
theorem dX1_schoolsLookedAt_26 : decode cX1_schoolsLookedAt 26 = .ok (.iinc 2 1, 3) := by decide +kernel
theorem dX1_schoolsLookedAt_29 : decode cX1_schoolsLookedAt 29 = .ok (.goto (-25), 3) := by decide +kernel
theorem dX1_schoolsLookedAt_32 : decode cX1_schoolsLookedAt 32 = .ok (.iload_n 1, 1) := by decide +kernel
theorem dX1_schoolsLookedAt_33 : decode cX1_schoolsLookedAt 33 = .ok (.ireturn, 1) := by decide +kernel
theorem dX2_bestJoin_0 : decode cX2_bestJoin 0 = .ok (.iconst 1, 1) := by decide +kernel
theorem dX2_bestJoin_1 : decode cX2_bestJoin 1 = .ok (.aload_n 0, 1) := by decide +kernel
theorem dX2_bestJoin_2 : decode cX2_bestJoin 2 = .ok (.getfield 48, 3) := by decide +kernel
theorem dX2_bestJoin_5 : decode cX2_bestJoin 5 = .ok (.getfield 49, 3) := by decide +kernel
theorem dX2_bestJoin_8 : decode cX2_bestJoin 8 = .ok (.ishl, 1) := by decide +kernel
theorem dX2_bestJoin_9 : decode cX2_bestJoin 9 = .ok (.istore_n 2, 1) := by decide +kernel
theorem dX2_bestJoin_10 : decode cX2_bestJoin 10 = .ok (.aload_n 0, 1) := by decide +kernel
theorem dX2_bestJoin_11 : decode cX2_bestJoin 11 = .ok (.iload_n 1, 1) := by decide +kernel
theorem dX2_bestJoin_12 : decode cX2_bestJoin 12 = .ok (.invokevirtual 54, 3) := by decide +kernel
theorem dX2_bestJoin_15 : decode cX2_bestJoin 15 = .ok (.iconst 0, 1) := by decide +kernel
theorem dX2_bestJoin_16 : decode cX2_bestJoin 16 = .ok (.istore_n 3, 1) := by decide +kernel
theorem dX2_bestJoin_17 : decode cX2_bestJoin 17 = .ok (.iload_n 3, 1) := by decide +kernel
theorem dX2_bestJoin_18 : decode cX2_bestJoin 18 = .ok (.iload_n 2, 1) := by decide +kernel
theorem dX2_bestJoin_19 : decode cX2_bestJoin 19 = .ok (.if_icmp .ge 45, 3) := by decide +kernel
theorem dX2_bestJoin_22 : decode cX2_bestJoin 22 = .ok (.aload_n 0, 1) := by decide +kernel
theorem dX2_bestJoin_23 : decode cX2_bestJoin 23 = .ok (.getfield 22, 3) := by decide +kernel
theorem dX2_bestJoin_26 : decode cX2_bestJoin 26 = .ok (.aload_n 0, 1) := by decide +kernel
theorem dX2_bestJoin_27 : decode cX2_bestJoin 27 = .ok (.getfield 48, 3) := by decide +kernel
theorem dX2_bestJoin_30 : decode cX2_bestJoin 30 = .ok (.getfield 58, 3) := by decide +kernel
theorem dX2_bestJoin_33 : decode cX2_bestJoin 33 = .ok (.bipush 64, 2) := by decide +kernel
theorem dX2_bestJoin_35 : decode cX2_bestJoin 35 = .ok (.imul, 1) := by decide +kernel
theorem dX2_bestJoin_36 : decode cX2_bestJoin 36 = .ok (.iload_n 3, 1) := by decide +kernel
theorem dX2_bestJoin_37 : decode cX2_bestJoin 37 = .ok (.iadd, 1) := by decide +kernel
theorem dX2_bestJoin_38 : decode cX2_bestJoin 38 = .ok (.iconst 0, 1) := by decide +kernel
theorem dX2_bestJoin_39 : decode cX2_bestJoin 39 = .ok (.iastore, 1) := by decide +kernel
theorem dX2_bestJoin_40 : decode cX2_bestJoin 40 = .ok (.aload_n 0, 1) := by decide +kernel
theorem dX2_bestJoin_41 : decode cX2_bestJoin 41 = .ok (.getfield 25, 3) := by decide +kernel
theorem dX2_bestJoin_44 : decode cX2_bestJoin 44 = .ok (.aload_n 0, 1) := by decide +kernel
theorem dX2_bestJoin_45 : decode cX2_bestJoin 45 = .ok (.getfield 48, 3) := by decide +kernel
theorem dX2_bestJoin_48 : decode cX2_bestJoin 48 = .ok (.getfield 58, 3) := by decide +kernel
theorem dX2_bestJoin_51 : decode cX2_bestJoin 51 = .ok (.bipush 64, 2) := by decide +kernel
theorem dX2_bestJoin_53 : decode cX2_bestJoin 53 = .ok (.imul, 1) := by decide +kernel
theorem dX2_bestJoin_54 : decode cX2_bestJoin 54 = .ok (.iload_n 3, 1) := by decide +kernel
theorem dX2_bestJoin_55 : decode cX2_bestJoin 55 = .ok (.iadd, 1) := by decide +kernel
theorem dX2_bestJoin_56 : decode cX2_bestJoin 56 = .ok (.iconst 1, 1) := by decide +kernel
theorem dX2_bestJoin_57 : decode cX2_bestJoin 57 = .ok (.iastore, 1) := by decide +kernel
theorem dX2_bestJoin_58 : decode cX2_bestJoin 58 = .ok (.iinc 3 1, 3) := by decide +kernel
theorem dX2_bestJoin_61 : decode cX2_bestJoin 61 = .ok (.goto (-44), 3) := by decide +kernel
theorem dX2_bestJoin_64 : decode cX2_bestJoin 64 = .ok (.aload_n 0, 1) := by decide +kernel
theorem dX2_bestJoin_65 : decode cX2_bestJoin 65 = .ok (.getfield 48, 3) := by decide +kernel
theorem dX2_bestJoin_68 : decode cX2_bestJoin 68 = .ok (.getfield 58, 3) := by decide +kernel
theorem dX2_bestJoin_71 : decode cX2_bestJoin 71 = .ok (.iconst 1, 1) := by decide +kernel
theorem dX2_bestJoin_72 : decode cX2_bestJoin 72 = .ok (.isub, 1) := by decide +kernel
theorem dX2_bestJoin_73 : decode cX2_bestJoin 73 = .ok (.istore_n 3, 1) := by decide +kernel
theorem dX2_bestJoin_74 : decode cX2_bestJoin 74 = .ok (.iload_n 3, 1) := by decide +kernel
theorem dX2_bestJoin_75 : decode cX2_bestJoin 75 = .ok (.ifCond .lt 31, 3) := by decide +kernel
theorem dX2_bestJoin_106 : decode cX2_bestJoin 106 = .ok (.aload_n 0, 1) := by decide +kernel
theorem dX2_bestJoin_107 : decode cX2_bestJoin 107 = .ok (.invokevirtual 65, 3) := by decide +kernel
theorem dX2_bestJoin_110 : decode cX2_bestJoin 110 = .ok (.aload_n 0, 1) := by decide +kernel
theorem dX2_bestJoin_111 : decode cX2_bestJoin 111 = .ok (.getfield 22, 3) := by decide +kernel
theorem dX2_bestJoin_114 : decode cX2_bestJoin 114 = .ok (.iconst 0, 1) := by decide +kernel
theorem dX2_bestJoin_115 : decode cX2_bestJoin 115 = .ok (.iaload, 1) := by decide +kernel
theorem dX2_bestJoin_116 : decode cX2_bestJoin 116 = .ok (.bipush 8, 2) := by decide +kernel
theorem dX2_bestJoin_118 : decode cX2_bestJoin 118 = .ok (.idiv, 1) := by decide +kernel
theorem dX2_bestJoin_119 : decode cX2_bestJoin 119 = .ok (.ireturn, 1) := by decide +kernel
theorem dX2_bestRound_0 : decode cX2_bestRound 0 = .ok (.aload_n 0, 1) := by decide +kernel
theorem dX2_bestRound_1 : decode cX2_bestRound 1 = .ok (.iload_n 1, 1) := by decide +kernel
theorem dX2_bestRound_2 : decode cX2_bestRound 2 = .ok (.iload_n 2, 1) := by decide +kernel
theorem dX2_bestRound_3 : decode cX2_bestRound 3 = .ok (.invokevirtual 85, 3) := by decide +kernel
theorem dX2_bestRound_6 : decode cX2_bestRound 6 = .ok (.aload_n 0, 1) := by decide +kernel
theorem dX2_bestRound_7 : decode cX2_bestRound 7 = .ok (.iconst 0, 1) := by decide +kernel
theorem dX2_bestRound_8 : decode cX2_bestRound 8 = .ok (.putfield 88, 3) := by decide +kernel
theorem dX2_bestRound_11 : decode cX2_bestRound 11 = .ok (.aload_n 0, 1) := by decide +kernel
theorem dX2_bestRound_12 : decode cX2_bestRound 12 = .ok (.iconst 0, 1) := by decide +kernel
theorem dX2_bestRound_13 : decode cX2_bestRound 13 = .ok (.putfield 91, 3) := by decide +kernel
theorem dX2_bestRound_16 : decode cX2_bestRound 16 = .ok (.aload_n 0, 1) := by decide +kernel
theorem dX2_bestRound_17 : decode cX2_bestRound 17 = .ok (.iconst 0, 1) := by decide +kernel
theorem dX2_bestRound_18 : decode cX2_bestRound 18 = .ok (.putfield 94, 3) := by decide +kernel
theorem dX2_bestRound_21 : decode cX2_bestRound 21 = .ok (.iconst 1, 1) := by decide +kernel
theorem dX2_bestRound_22 : decode cX2_bestRound 22 = .ok (.istore 4, 2) := by decide +kernel
theorem dX2_bestRound_24 : decode cX2_bestRound 24 = .ok (.iload 4, 2) := by decide +kernel
theorem dX2_bestRound_26 : decode cX2_bestRound 26 = .ok (.iconst 1, 1) := by decide +kernel
theorem dX2_bestRound_27 : decode cX2_bestRound 27 = .ok (.aload_n 0, 1) := by decide +kernel
theorem dX2_bestRound_28 : decode cX2_bestRound 28 = .ok (.getfield 48, 3) := by decide +kernel
theorem dX2_bestRound_31 : decode cX2_bestRound 31 = .ok (.getfield 97, 3) := by decide +kernel
theorem dX2_bestRound_34 : decode cX2_bestRound 34 = .ok (.ishl, 1) := by decide +kernel
theorem dX2_bestRound_35 : decode cX2_bestRound 35 = .ok (.if_icmp .ge 80, 3) := by decide +kernel
theorem dX2_bestRound_115 : decode cX2_bestRound 115 = .ok (.return_, 1) := by decide +kernel
theorem dX2_init_0 : decode cX2_init 0 = .ok (.aload_n 0, 1) := by decide +kernel
theorem dX2_init_1 : decode cX2_init 1 = .ok (.invokespecial 3, 3) := by decide +kernel
theorem dX2_init_4 : decode cX2_init 4 = .ok (.aload_n 0, 1) := by decide +kernel
theorem dX2_init_5 : decode cX2_init 5 = .ok (.bipush 6, 2) := by decide +kernel
theorem dX2_init_7 : decode cX2_init 7 = .ok (.newarray .int, 2) := by decide +kernel
theorem dX2_init_9 : decode cX2_init 9 = .ok (.putfield 9, 3) := by decide +kernel
theorem dX2_init_12 : decode cX2_init 12 = .ok (.aload_n 0, 1) := by decide +kernel
theorem dX2_init_13 : decode cX2_init 13 = .ok (.iconst (-1), 1) := by decide +kernel
theorem dX2_init_14 : decode cX2_init 14 = .ok (.putfield 15, 3) := by decide +kernel
theorem dX2_init_17 : decode cX2_init 17 = .ok (.aload_n 0, 1) := by decide +kernel
theorem dX2_init_18 : decode cX2_init 18 = .ok (.bipush 36, 2) := by decide +kernel
theorem dX2_init_20 : decode cX2_init 20 = .ok (.newarray .int, 2) := by decide +kernel
theorem dX2_init_22 : decode cX2_init 22 = .ok (.putfield 19, 3) := by decide +kernel
theorem dX2_init_25 : decode cX2_init 25 = .ok (.aload_n 0, 1) := by decide +kernel
theorem dX2_init_26 : decode cX2_init 26 = .ok (.sipush 448, 3) := by decide +kernel
theorem dX2_init_29 : decode cX2_init 29 = .ok (.newarray .int, 2) := by decide +kernel
theorem dX2_init_31 : decode cX2_init 31 = .ok (.putfield 22, 3) := by decide +kernel
theorem dX2_init_34 : decode cX2_init 34 = .ok (.aload_n 0, 1) := by decide +kernel
theorem dX2_init_35 : decode cX2_init 35 = .ok (.sipush 448, 3) := by decide +kernel
theorem dX2_init_38 : decode cX2_init 38 = .ok (.newarray .int, 2) := by decide +kernel
theorem dX2_init_40 : decode cX2_init 40 = .ok (.putfield 25, 3) := by decide +kernel
theorem dX2_init_43 : decode cX2_init 43 = .ok (.aload_n 0, 1) := by decide +kernel
theorem dX2_init_44 : decode cX2_init 44 = .ok (.bipush 81, 2) := by decide +kernel
theorem dX2_init_46 : decode cX2_init 46 = .ok (.newarray .int, 2) := by decide +kernel
theorem dX2_init_48 : decode cX2_init 48 = .ok (.putfield 28, 3) := by decide +kernel
theorem dX2_init_51 : decode cX2_init 51 = .ok (.aload_n 0, 1) := by decide +kernel
theorem dX2_init_52 : decode cX2_init 52 = .ok (.bipush 9, 2) := by decide +kernel
theorem dX2_init_54 : decode cX2_init 54 = .ok (.newarray .int, 2) := by decide +kernel
theorem dX2_init_56 : decode cX2_init 56 = .ok (.putfield 31, 3) := by decide +kernel
theorem dX2_init_59 : decode cX2_init 59 = .ok (.aload_n 0, 1) := by decide +kernel
theorem dX2_init_60 : decode cX2_init 60 = .ok (.sipush 4608, 3) := by decide +kernel
theorem dX2_init_63 : decode cX2_init 63 = .ok (.newarray .int, 2) := by decide +kernel
theorem dX2_init_65 : decode cX2_init 65 = .ok (.putfield 34, 3) := by decide +kernel
theorem dX2_init_68 : decode cX2_init 68 = .ok (.aload_n 0, 1) := by decide +kernel
theorem dX2_init_69 : decode cX2_init 69 = .ok (.aload_n 1, 1) := by decide +kernel
theorem dX2_init_70 : decode cX2_init 70 = .ok (.getfield 37, 3) := by decide +kernel
theorem dX2_init_73 : decode cX2_init 73 = .ok (.putfield 43, 3) := by decide +kernel
theorem dX2_init_76 : decode cX2_init 76 = .ok (.aload_n 0, 1) := by decide +kernel
theorem dX2_init_77 : decode cX2_init 77 = .ok (.aload_n 1, 1) := by decide +kernel
theorem dX2_init_78 : decode cX2_init 78 = .ok (.getfield 44, 3) := by decide +kernel
theorem dX2_init_81 : decode cX2_init 81 = .ok (.putfield 48, 3) := by decide +kernel
theorem dX2_init_84 : decode cX2_init 84 = .ok (.return_, 1) := by decide +kernel
theorem dX2_keepFirstBest_0 : decode cX2_keepFirstBest 0 = .ok (.iconst 0, 1) := by decide +kernel
theorem dX2_keepFirstBest_1 : decode cX2_keepFirstBest 1 = .ok (.istore_n 1, 1) := by decide +kernel
theorem dX2_keepFirstBest_2 : decode cX2_keepFirstBest 2 = .ok (.iconst 0, 1) := by decide +kernel
theorem dX2_keepFirstBest_3 : decode cX2_keepFirstBest 3 = .ok (.istore_n 2, 1) := by decide +kernel
theorem dX2_keepFirstBest_4 : decode cX2_keepFirstBest 4 = .ok (.iload_n 2, 1) := by decide +kernel
theorem dX2_keepFirstBest_5 : decode cX2_keepFirstBest 5 = .ok (.aload_n 0, 1) := by decide +kernel
theorem dX2_keepFirstBest_6 : decode cX2_keepFirstBest 6 = .ok (.getfield 48, 3) := by decide +kernel
theorem dX2_keepFirstBest_9 : decode cX2_keepFirstBest 9 = .ok (.getfield 58, 3) := by decide +kernel
theorem dX2_keepFirstBest_12 : decode cX2_keepFirstBest 12 = .ok (.if_icmp .ge 98, 3) := by decide +kernel
theorem dX2_keepFirstBest_110 : decode cX2_keepFirstBest 110 = .ok (.aload_n 0, 1) := by decide +kernel
theorem dX2_keepFirstBest_111 : decode cX2_keepFirstBest 111 = .ok (.aload_n 0, 1) := by decide +kernel
theorem dX2_keepFirstBest_112 : decode cX2_keepFirstBest 112 = .ok (.getfield 48, 3) := by decide +kernel
theorem dX2_keepFirstBest_115 : decode cX2_keepFirstBest 115 = .ok (.getfield 58, 3) := by decide +kernel
theorem dX2_keepFirstBest_118 : decode cX2_keepFirstBest 118 = .ok (.putfield 82, 3) := by decide +kernel
theorem dX2_keepFirstBest_121 : decode cX2_keepFirstBest 121 = .ok (.aload_n 0, 1) := by decide +kernel
theorem dX2_keepFirstBest_122 : decode cX2_keepFirstBest 122 = .ok (.aload_n 0, 1) := by decide +kernel
theorem dX2_keepFirstBest_123 : decode cX2_keepFirstBest 123 = .ok (.getfield 25, 3) := by decide +kernel
theorem dX2_keepFirstBest_126 : decode cX2_keepFirstBest 126 = .ok (.iconst 0, 1) := by decide +kernel
theorem dX2_keepFirstBest_127 : decode cX2_keepFirstBest 127 = .ok (.iaload, 1) := by decide +kernel
theorem dX2_keepFirstBest_128 : decode cX2_keepFirstBest 128 = .ok (.putfield 15, 3) := by decide +kernel
theorem dX2_keepFirstBest_131 : decode cX2_keepFirstBest 131 = .ok (.return_, 1) := by decide +kernel
theorem dX2_likeOfRow_0 : decode cX2_likeOfRow 0 = .ok (.iload_n 1, 1) := by decide +kernel
theorem dX2_likeOfRow_1 : decode cX2_likeOfRow 1 = .ok (.istore_n 3, 1) := by decide +kernel
theorem dX2_likeOfRow_2 : decode cX2_likeOfRow 2 = .ok (.iconst 0, 1) := by decide +kernel
theorem dX2_likeOfRow_3 : decode cX2_likeOfRow 3 = .ok (.istore 4, 2) := by decide +kernel
theorem dX2_likeOfRow_5 : decode cX2_likeOfRow 5 = .ok (.iconst 0, 1) := by decide +kernel
theorem dX2_likeOfRow_6 : decode cX2_likeOfRow 6 = .ok (.istore 5, 2) := by decide +kernel
theorem dX2_likeOfRow_8 : decode cX2_likeOfRow 8 = .ok (.iconst 0, 1) := by decide +kernel
theorem dX2_likeOfRow_9 : decode cX2_likeOfRow 9 = .ok (.istore 6, 2) := by decide +kernel
theorem dX2_likeOfRow_11 : decode cX2_likeOfRow 11 = .ok (.iload 6, 2) := by decide +kernel
theorem dX2_likeOfRow_13 : decode cX2_likeOfRow 13 = .ok (.aload_n 0, 1) := by decide +kernel
theorem dX2_likeOfRow_14 : decode cX2_likeOfRow 14 = .ok (.getfield 48, 3) := by decide +kernel
theorem dX2_likeOfRow_17 : decode cX2_likeOfRow 17 = .ok (.getfield 58, 3) := by decide +kernel
theorem dX2_likeOfRow_20 : decode cX2_likeOfRow 20 = .ok (.if_icmp .ge 105, 3) := by decide +kernel
theorem dX2_likeOfRow_125 : decode cX2_likeOfRow 125 = .ok (.iload_n 3, 1) := by decide +kernel
theorem dX2_likeOfRow_126 : decode cX2_likeOfRow 126 = .ok (.ifCond .ne 8, 3) := by decide +kernel
theorem dX2_likeOfRow_129 : decode cX2_likeOfRow 129 = .ok (.iload 5, 2) := by decide +kernel
theorem dX2_likeOfRow_131 : decode cX2_likeOfRow 131 = .ok (.goto 4, 3) := by decide +kernel
theorem dX2_likeOfRow_134 : decode cX2_likeOfRow 134 = .ok (.iconst (-1), 1) := by decide +kernel
theorem dX2_likeOfRow_135 : decode cX2_likeOfRow 135 = .ok (.ireturn, 1) := by decide +kernel
theorem dX2_noteLikeness_0 : decode cX2_noteLikeness 0 = .ok (.iconst 0, 1) := by decide +kernel
theorem dX2_noteLikeness_1 : decode cX2_noteLikeness 1 = .ok (.istore_n 2, 1) := by decide +kernel
theorem dX2_noteLikeness_2 : decode cX2_noteLikeness 2 = .ok (.iload_n 2, 1) := by decide +kernel
theorem dX2_noteLikeness_3 : decode cX2_noteLikeness 3 = .ok (.aload_n 0, 1) := by decide +kernel
theorem dX2_noteLikeness_4 : decode cX2_noteLikeness 4 = .ok (.getfield 48, 3) := by decide +kernel
theorem dX2_noteLikeness_7 : decode cX2_noteLikeness 7 = .ok (.getfield 58, 3) := by decide +kernel
theorem dX2_noteLikeness_10 : decode cX2_noteLikeness 10 = .ok (.if_icmp .ge 74, 3) := by decide +kernel
theorem dX2_noteLikeness_84 : decode cX2_noteLikeness 84 = .ok (.return_, 1) := by decide +kernel
theorem dX2_noteWays_0 : decode cX2_noteWays 0 = .ok (.iconst 0, 1) := by decide +kernel
theorem dX2_noteWays_1 : decode cX2_noteWays 1 = .ok (.istore_n 3, 1) := by decide +kernel
theorem dX2_noteWays_2 : decode cX2_noteWays 2 = .ok (.iload_n 3, 1) := by decide +kernel
theorem dX2_noteWays_3 : decode cX2_noteWays 3 = .ok (.aload_n 0, 1) := by decide +kernel
theorem dX2_noteWays_4 : decode cX2_noteWays 4 = .ok (.getfield 48, 3) := by decide +kernel
theorem dX2_noteWays_7 : decode cX2_noteWays 7 = .ok (.getfield 97, 3) := by decide +kernel
theorem dX2_noteWays_10 : decode cX2_noteWays 10 = .ok (.if_icmp .ge 92, 3) := by decide +kernel
theorem dX2_noteWays_102 : decode cX2_noteWays 102 = .ok (.return_, 1) := by decide +kernel
theorem dX2_waysToDraw_0 : decode cX2_waysToDraw 0 = .ok (.iconst 0, 1) := by decide +kernel
theorem dX2_waysToDraw_1 : decode cX2_waysToDraw 1 = .ok (.istore_n 2, 1) := by decide +kernel
theorem dX2_waysToDraw_2 : decode cX2_waysToDraw 2 = .ok (.aload_n 0, 1) := by decide +kernel
theorem dX2_waysToDraw_3 : decode cX2_waysToDraw 3 = .ok (.getfield 34, 3) := by decide +kernel
theorem dX2_waysToDraw_6 : decode cX2_waysToDraw 6 = .ok (.iconst 0, 1) := by decide +kernel
theorem dX2_waysToDraw_7 : decode cX2_waysToDraw 7 = .ok (.iconst 0, 1) := by decide +kernel
theorem dX2_waysToDraw_8 : decode cX2_waysToDraw 8 = .ok (.iastore, 1) := by decide +kernel
theorem dX2_waysToDraw_9 : decode cX2_waysToDraw 9 = .ok (.iconst 0, 1) := by decide +kernel
theorem dX2_waysToDraw_10 : decode cX2_waysToDraw 10 = .ok (.istore_n 3, 1) := by decide +kernel
theorem dX2_waysToDraw_11 : decode cX2_waysToDraw 11 = .ok (.iload_n 3, 1) := by decide +kernel
theorem dX2_waysToDraw_12 : decode cX2_waysToDraw 12 = .ok (.aload_n 0, 1) := by decide +kernel
theorem dX2_waysToDraw_13 : decode cX2_waysToDraw 13 = .ok (.getfield 48, 3) := by decide +kernel
theorem dX2_waysToDraw_16 : decode cX2_waysToDraw 16 = .ok (.getfield 136, 3) := by decide +kernel
theorem dX2_waysToDraw_19 : decode cX2_waysToDraw 19 = .ok (.if_icmp .ge 68, 3) := by decide +kernel
theorem dX2_waysToDraw_87 : decode cX2_waysToDraw 87 = .ok (.iload_n 2, 1) := by decide +kernel
theorem dX2_waysToDraw_88 : decode cX2_waysToDraw 88 = .ok (.invokestatic 145, 3) := by decide +kernel
theorem dX2_waysToDraw_91 : decode cX2_waysToDraw 91 = .ok (.istore_n 3, 1) := by decide +kernel
theorem dX2_waysToDraw_92 : decode cX2_waysToDraw 92 = .ok (.aload_n 0, 1) := by decide +kernel
theorem dX2_waysToDraw_93 : decode cX2_waysToDraw 93 = .ok (.getfield 34, 3) := by decide +kernel
theorem dX2_waysToDraw_96 : decode cX2_waysToDraw 96 = .ok (.iload_n 2, 1) := by decide +kernel
theorem dX2_waysToDraw_97 : decode cX2_waysToDraw 97 = .ok (.iaload, 1) := by decide +kernel
theorem dX2_waysToDraw_98 : decode cX2_waysToDraw 98 = .ok (.istore 4, 2) := by decide +kernel
theorem dX2_waysToDraw_100 : decode cX2_waysToDraw 100 = .ok (.iconst 0, 1) := by decide +kernel
theorem dX2_waysToDraw_101 : decode cX2_waysToDraw 101 = .ok (.istore 5, 2) := by decide +kernel
theorem dX2_waysToDraw_103 : decode cX2_waysToDraw 103 = .ok (.iconst 0, 1) := by decide +kernel
theorem dX2_waysToDraw_104 : decode cX2_waysToDraw 104 = .ok (.istore 6, 2) := by decide +kernel
theorem dX2_waysToDraw_106 : decode cX2_waysToDraw 106 = .ok (.iload 6, 2) := by decide +kernel
theorem dX2_waysToDraw_108 : decode cX2_waysToDraw 108 = .ok (.iconst 1, 1) := by decide +kernel
theorem dX2_waysToDraw_109 : decode cX2_waysToDraw 109 = .ok (.aload_n 0, 1) := by decide +kernel
theorem dX2_waysToDraw_110 : decode cX2_waysToDraw 110 = .ok (.getfield 48, 3) := by decide +kernel
theorem dX2_waysToDraw_113 : decode cX2_waysToDraw 113 = .ok (.getfield 136, 3) := by decide +kernel
theorem dX2_waysToDraw_116 : decode cX2_waysToDraw 116 = .ok (.ishl, 1) := by decide +kernel
theorem dX2_waysToDraw_117 : decode cX2_waysToDraw 117 = .ok (.if_icmp .ge 37, 3) := by decide +kernel
theorem dX2_waysToDraw_120 : decode cX2_waysToDraw 120 = .ok (.iload_n 1, 1) := by decide +kernel
theorem dX2_waysToDraw_121 : decode cX2_waysToDraw 121 = .ok (.ifCond .eq 15, 3) := by decide +kernel
theorem dX2_waysToDraw_124 : decode cX2_waysToDraw 124 = .ok (.aload_n 0, 1) := by decide +kernel
theorem dX2_waysToDraw_125 : decode cX2_waysToDraw 125 = .ok (.getfield 34, 3) := by decide +kernel
theorem dX2_waysToDraw_128 : decode cX2_waysToDraw 128 = .ok (.iload 6, 2) := by decide +kernel
theorem dX2_waysToDraw_130 : decode cX2_waysToDraw 130 = .ok (.iaload, 1) := by decide +kernel
theorem dX2_waysToDraw_131 : decode cX2_waysToDraw 131 = .ok (.iload 4, 2) := by decide +kernel
theorem dX2_waysToDraw_133 : decode cX2_waysToDraw 133 = .ok (.if_icmp .lt 15, 3) := by decide +kernel
theorem dX2_waysToDraw_136 : decode cX2_waysToDraw 136 = .ok (.iload 6, 2) := by decide +kernel
theorem dX2_waysToDraw_138 : decode cX2_waysToDraw 138 = .ok (.invokestatic 145, 3) := by decide +kernel
theorem dX2_waysToDraw_141 : decode cX2_waysToDraw 141 = .ok (.iload_n 3, 1) := by decide +kernel
theorem dX2_waysToDraw_142 : decode cX2_waysToDraw 142 = .ok (.if_icmp .ne 6, 3) := by decide +kernel
theorem dX2_waysToDraw_145 : decode cX2_waysToDraw 145 = .ok (.iinc 5 1, 3) := by decide +kernel
theorem dX2_waysToDraw_148 : decode cX2_waysToDraw 148 = .ok (.iinc 6 1, 3) := by decide +kernel
theorem dX2_waysToDraw_151 : decode cX2_waysToDraw 151 = .ok (.goto (-45), 3) := by decide +kernel
theorem dX2_waysToDraw_154 : decode cX2_waysToDraw 154 = .ok (.iload 5, 2) := by decide +kernel
theorem dX2_waysToDraw_156 : decode cX2_waysToDraw 156 = .ok (.ireturn, 1) := by decide +kernel
theorem dX3_becomeLike_0 : decode cX3_becomeLike 0 = .ok (.aload_n 0, 1) := by decide +kernel
theorem dX3_becomeLike_1 : decode cX3_becomeLike 1 = .ok (.getfield 10, 3) := by decide +kernel
theorem dX3_becomeLike_4 : decode cX3_becomeLike 4 = .ok (.aload_n 1, 1) := by decide +kernel
theorem dX3_becomeLike_5 : decode cX3_becomeLike 5 = .ok (.getfield 10, 3) := by decide +kernel
theorem dX3_becomeLike_8 : decode cX3_becomeLike 8 = .ok (.invokevirtual 51, 3) := by decide +kernel
theorem dX3_becomeLike_11 : decode cX3_becomeLike 11 = .ok (.aload_n 0, 1) := by decide +kernel
theorem dX3_becomeLike_12 : decode cX3_becomeLike 12 = .ok (.getfield 19, 3) := by decide +kernel
theorem dX3_becomeLike_15 : decode cX3_becomeLike 15 = .ok (.aload_n 1, 1) := by decide +kernel
theorem dX3_becomeLike_16 : decode cX3_becomeLike 16 = .ok (.getfield 19, 3) := by decide +kernel
theorem dX3_becomeLike_19 : decode cX3_becomeLike 19 = .ok (.invokevirtual 55, 3) := by decide +kernel
theorem dX3_becomeLike_22 : decode cX3_becomeLike 22 = .ok (.aload_n 0, 1) := by decide +kernel
theorem dX3_becomeLike_23 : decode cX3_becomeLike 23 = .ok (.getfield 26, 3) := by decide +kernel
theorem dX3_becomeLike_26 : decode cX3_becomeLike 26 = .ok (.aload_n 1, 1) := by decide +kernel
theorem dX3_becomeLike_27 : decode cX3_becomeLike 27 = .ok (.getfield 26, 3) := by decide +kernel
theorem dX3_becomeLike_30 : decode cX3_becomeLike 30 = .ok (.invokevirtual 58, 3) := by decide +kernel
theorem dX3_becomeLike_33 : decode cX3_becomeLike 33 = .ok (.aload_n 0, 1) := by decide +kernel
theorem dX3_becomeLike_34 : decode cX3_becomeLike 34 = .ok (.getfield 33, 3) := by decide +kernel
theorem dX3_becomeLike_37 : decode cX3_becomeLike 37 = .ok (.aload_n 1, 1) := by decide +kernel
theorem dX3_becomeLike_38 : decode cX3_becomeLike 38 = .ok (.getfield 33, 3) := by decide +kernel
theorem dX3_becomeLike_41 : decode cX3_becomeLike 41 = .ok (.invokevirtual 61, 3) := by decide +kernel
theorem dX3_becomeLike_44 : decode cX3_becomeLike 44 = .ok (.aload_n 0, 1) := by decide +kernel
theorem dX3_becomeLike_45 : decode cX3_becomeLike 45 = .ok (.getfield 40, 3) := by decide +kernel
theorem dX3_becomeLike_48 : decode cX3_becomeLike 48 = .ok (.aload_n 1, 1) := by decide +kernel
theorem dX3_becomeLike_49 : decode cX3_becomeLike 49 = .ok (.getfield 40, 3) := by decide +kernel
theorem dX3_becomeLike_52 : decode cX3_becomeLike 52 = .ok (.invokevirtual 64, 3) := by decide +kernel
theorem dX3_becomeLike_55 : decode cX3_becomeLike 55 = .ok (.aload_n 0, 1) := by decide +kernel
theorem dX3_becomeLike_56 : decode cX3_becomeLike 56 = .ok (.getfield 47, 3) := by decide +kernel
theorem dX3_becomeLike_59 : decode cX3_becomeLike 59 = .ok (.aload_n 1, 1) := by decide +kernel
theorem dX3_becomeLike_60 : decode cX3_becomeLike 60 = .ok (.getfield 47, 3) := by decide +kernel
theorem dX3_becomeLike_63 : decode cX3_becomeLike 63 = .ok (.invokevirtual 67, 3) := by decide +kernel
theorem dX3_becomeLike_66 : decode cX3_becomeLike 66 = .ok (.return_, 1) := by decide +kernel
theorem dX3_init_0 : decode cX3_init 0 = .ok (.aload_n 0, 1) := by decide +kernel
theorem dX3_init_1 : decode cX3_init 1 = .ok (.invokespecial 1, 3) := by decide +kernel
theorem dX3_init_4 : decode cX3_init 4 = .ok (.aload_n 0, 1) := by decide +kernel
theorem dX3_init_5 : decode cX3_init 5 = .ok (.new 7, 3) := by decide +kernel
theorem dX3_init_8 : decode cX3_init 8 = .ok (.dup, 1) := by decide +kernel
theorem dX3_init_9 : decode cX3_init 9 = .ok (.invokespecial 9, 3) := by decide +kernel
theorem dX3_init_12 : decode cX3_init 12 = .ok (.putfield 10, 3) := by decide +kernel
theorem dX3_init_15 : decode cX3_init 15 = .ok (.aload_n 0, 1) := by decide +kernel
theorem dX3_init_16 : decode cX3_init 16 = .ok (.new 16, 3) := by decide +kernel
theorem dX3_init_19 : decode cX3_init 19 = .ok (.dup, 1) := by decide +kernel
theorem dX3_init_20 : decode cX3_init 20 = .ok (.invokespecial 18, 3) := by decide +kernel
theorem dX3_init_23 : decode cX3_init 23 = .ok (.putfield 19, 3) := by decide +kernel
theorem dX3_init_26 : decode cX3_init 26 = .ok (.aload_n 0, 1) := by decide +kernel
theorem dX3_init_27 : decode cX3_init 27 = .ok (.new 23, 3) := by decide +kernel
theorem dX3_init_30 : decode cX3_init 30 = .ok (.dup, 1) := by decide +kernel
theorem dX3_init_31 : decode cX3_init 31 = .ok (.invokespecial 25, 3) := by decide +kernel
theorem dX3_init_34 : decode cX3_init 34 = .ok (.putfield 26, 3) := by decide +kernel
theorem dX3_init_37 : decode cX3_init 37 = .ok (.aload_n 0, 1) := by decide +kernel
theorem dX3_init_38 : decode cX3_init 38 = .ok (.new 30, 3) := by decide +kernel
theorem dX3_init_41 : decode cX3_init 41 = .ok (.dup, 1) := by decide +kernel
theorem dX3_init_42 : decode cX3_init 42 = .ok (.invokespecial 32, 3) := by decide +kernel
theorem dX3_init_45 : decode cX3_init 45 = .ok (.putfield 33, 3) := by decide +kernel
theorem dX3_init_48 : decode cX3_init 48 = .ok (.aload_n 0, 1) := by decide +kernel
theorem dX3_init_49 : decode cX3_init 49 = .ok (.new 37, 3) := by decide +kernel
theorem dX3_init_52 : decode cX3_init 52 = .ok (.dup, 1) := by decide +kernel
theorem dX3_init_53 : decode cX3_init 53 = .ok (.invokespecial 39, 3) := by decide +kernel
theorem dX3_init_56 : decode cX3_init 56 = .ok (.putfield 40, 3) := by decide +kernel
theorem dX3_init_59 : decode cX3_init 59 = .ok (.aload_n 0, 1) := by decide +kernel
theorem dX3_init_60 : decode cX3_init 60 = .ok (.new 44, 3) := by decide +kernel
theorem dX3_init_63 : decode cX3_init 63 = .ok (.dup, 1) := by decide +kernel
theorem dX3_init_64 : decode cX3_init 64 = .ok (.invokespecial 46, 3) := by decide +kernel
theorem dX3_init_67 : decode cX3_init 67 = .ok (.putfield 47, 3) := by decide +kernel
theorem dX3_init_70 : decode cX3_init 70 = .ok (.return_, 1) := by decide +kernel
theorem dX4_becomeLike_0 : decode cX4_becomeLike 0 = .ok (.aload_n 0, 1) := by decide +kernel
theorem dX4_becomeLike_1 : decode cX4_becomeLike 1 = .ok (.aload_n 1, 1) := by decide +kernel
theorem dX4_becomeLike_2 : decode cX4_becomeLike 2 = .ok (.getfield 39, 3) := by decide +kernel
theorem dX4_becomeLike_5 : decode cX4_becomeLike 5 = .ok (.putfield 39, 3) := by decide +kernel
theorem dX4_becomeLike_8 : decode cX4_becomeLike 8 = .ok (.aload_n 1, 1) := by decide +kernel
theorem dX4_becomeLike_9 : decode cX4_becomeLike 9 = .ok (.getfield 9, 3) := by decide +kernel
theorem dX4_becomeLike_12 : decode cX4_becomeLike 12 = .ok (.aload_n 0, 1) := by decide +kernel
theorem dX4_becomeLike_13 : decode cX4_becomeLike 13 = .ok (.getfield 9, 3) := by decide +kernel
theorem dX4_becomeLike_16 : decode cX4_becomeLike 16 = .ok (.invokestatic 43, 3) := by decide +kernel
theorem dX4_becomeLike_19 : decode cX4_becomeLike 19 = .ok (.aload_n 0, 1) := by decide +kernel
theorem dX4_becomeLike_20 : decode cX4_becomeLike 20 = .ok (.aload_n 1, 1) := by decide +kernel
theorem dX4_becomeLike_21 : decode cX4_becomeLike 21 = .ok (.getfield 47, 3) := by decide +kernel
theorem dX4_becomeLike_24 : decode cX4_becomeLike 24 = .ok (.putfield 47, 3) := by decide +kernel
theorem dX4_becomeLike_27 : decode cX4_becomeLike 27 = .ok (.aload_n 1, 1) := by decide +kernel
theorem dX4_becomeLike_28 : decode cX4_becomeLike 28 = .ok (.getfield 15, 3) := by decide +kernel
theorem dX4_becomeLike_31 : decode cX4_becomeLike 31 = .ok (.aload_n 0, 1) := by decide +kernel
theorem dX4_becomeLike_32 : decode cX4_becomeLike 32 = .ok (.getfield 15, 3) := by decide +kernel
theorem dX4_becomeLike_35 : decode cX4_becomeLike 35 = .ok (.invokestatic 43, 3) := by decide +kernel
theorem dX4_becomeLike_38 : decode cX4_becomeLike 38 = .ok (.aload_n 1, 1) := by decide +kernel
theorem dX4_becomeLike_39 : decode cX4_becomeLike 39 = .ok (.getfield 18, 3) := by decide +kernel
theorem dX4_becomeLike_42 : decode cX4_becomeLike 42 = .ok (.aload_n 0, 1) := by decide +kernel
theorem dX4_becomeLike_43 : decode cX4_becomeLike 43 = .ok (.getfield 18, 3) := by decide +kernel
theorem dX4_becomeLike_46 : decode cX4_becomeLike 46 = .ok (.invokestatic 43, 3) := by decide +kernel
theorem dX4_becomeLike_49 : decode cX4_becomeLike 49 = .ok (.aload_n 0, 1) := by decide +kernel
theorem dX4_becomeLike_50 : decode cX4_becomeLike 50 = .ok (.aload_n 1, 1) := by decide +kernel
theorem dX4_becomeLike_51 : decode cX4_becomeLike 51 = .ok (.getfield 50, 3) := by decide +kernel
theorem dX4_becomeLike_54 : decode cX4_becomeLike 54 = .ok (.putfield 50, 3) := by decide +kernel
theorem dX4_becomeLike_57 : decode cX4_becomeLike 57 = .ok (.aload_n 1, 1) := by decide +kernel
theorem dX4_becomeLike_58 : decode cX4_becomeLike 58 = .ok (.getfield 21, 3) := by decide +kernel
theorem dX4_becomeLike_61 : decode cX4_becomeLike 61 = .ok (.aload_n 0, 1) := by decide +kernel
theorem dX4_becomeLike_62 : decode cX4_becomeLike 62 = .ok (.getfield 21, 3) := by decide +kernel
theorem dX4_becomeLike_65 : decode cX4_becomeLike 65 = .ok (.invokestatic 43, 3) := by decide +kernel
theorem dX4_becomeLike_68 : decode cX4_becomeLike 68 = .ok (.aload_n 1, 1) := by decide +kernel
theorem dX4_becomeLike_69 : decode cX4_becomeLike 69 = .ok (.getfield 24, 3) := by decide +kernel
theorem dX4_becomeLike_72 : decode cX4_becomeLike 72 = .ok (.aload_n 0, 1) := by decide +kernel
theorem dX4_becomeLike_73 : decode cX4_becomeLike 73 = .ok (.getfield 24, 3) := by decide +kernel
theorem dX4_becomeLike_76 : decode cX4_becomeLike 76 = .ok (.invokestatic 43, 3) := by decide +kernel
theorem dX4_becomeLike_79 : decode cX4_becomeLike 79 = .ok (.aload_n 1, 1) := by decide +kernel
theorem dX4_becomeLike_80 : decode cX4_becomeLike 80 = .ok (.getfield 27, 3) := by decide +kernel
theorem dX4_becomeLike_83 : decode cX4_becomeLike 83 = .ok (.aload_n 0, 1) := by decide +kernel
theorem dX4_becomeLike_84 : decode cX4_becomeLike 84 = .ok (.getfield 27, 3) := by decide +kernel
theorem dX4_becomeLike_87 : decode cX4_becomeLike 87 = .ok (.invokestatic 43, 3) := by decide +kernel
theorem dX4_becomeLike_90 : decode cX4_becomeLike 90 = .ok (.aload_n 0, 1) := by decide +kernel
theorem dX4_becomeLike_91 : decode cX4_becomeLike 91 = .ok (.aload_n 1, 1) := by decide +kernel
theorem dX4_becomeLike_92 : decode cX4_becomeLike 92 = .ok (.getfield 53, 3) := by decide +kernel
theorem dX4_becomeLike_95 : decode cX4_becomeLike 95 = .ok (.putfield 53, 3) := by decide +kernel
theorem dX4_becomeLike_98 : decode cX4_becomeLike 98 = .ok (.aload_n 1, 1) := by decide +kernel
theorem dX4_becomeLike_99 : decode cX4_becomeLike 99 = .ok (.getfield 30, 3) := by decide +kernel
theorem dX4_becomeLike_102 : decode cX4_becomeLike 102 = .ok (.aload_n 0, 1) := by decide +kernel
theorem dX4_becomeLike_103 : decode cX4_becomeLike 103 = .ok (.getfield 30, 3) := by decide +kernel
theorem dX4_becomeLike_106 : decode cX4_becomeLike 106 = .ok (.invokestatic 43, 3) := by decide +kernel
theorem dX4_becomeLike_109 : decode cX4_becomeLike 109 = .ok (.aload_n 1, 1) := by decide +kernel
theorem dX4_becomeLike_110 : decode cX4_becomeLike 110 = .ok (.getfield 33, 3) := by decide +kernel
theorem dX4_becomeLike_113 : decode cX4_becomeLike 113 = .ok (.aload_n 0, 1) := by decide +kernel
theorem dX4_becomeLike_114 : decode cX4_becomeLike 114 = .ok (.getfield 33, 3) := by decide +kernel
theorem dX4_becomeLike_117 : decode cX4_becomeLike 117 = .ok (.invokestatic 43, 3) := by decide +kernel
theorem dX4_becomeLike_120 : decode cX4_becomeLike 120 = .ok (.aload_n 1, 1) := by decide +kernel
theorem dX4_becomeLike_121 : decode cX4_becomeLike 121 = .ok (.getfield 36, 3) := by decide +kernel
theorem dX4_becomeLike_124 : decode cX4_becomeLike 124 = .ok (.aload_n 0, 1) := by decide +kernel
theorem dX4_becomeLike_125 : decode cX4_becomeLike 125 = .ok (.getfield 36, 3) := by decide +kernel
theorem dX4_becomeLike_128 : decode cX4_becomeLike 128 = .ok (.invokestatic 43, 3) := by decide +kernel
theorem dX4_becomeLike_131 : decode cX4_becomeLike 131 = .ok (.return_, 1) := by decide +kernel
theorem dX4_init_0 : decode cX4_init 0 = .ok (.aload_n 0, 1) := by decide +kernel
theorem dX4_init_1 : decode cX4_init 1 = .ok (.invokespecial 3, 3) := by decide +kernel
theorem dX4_init_4 : decode cX4_init 4 = .ok (.aload_n 0, 1) := by decide +kernel
theorem dX4_init_5 : decode cX4_init 5 = .ok (.bipush 6, 2) := by decide +kernel
theorem dX4_init_7 : decode cX4_init 7 = .ok (.newarray .int, 2) := by decide +kernel
theorem dX4_init_9 : decode cX4_init 9 = .ok (.putfield 9, 3) := by decide +kernel
theorem dX4_init_12 : decode cX4_init 12 = .ok (.aload_n 0, 1) := by decide +kernel
theorem dX4_init_13 : decode cX4_init 13 = .ok (.bipush 6, 2) := by decide +kernel
theorem dX4_init_15 : decode cX4_init 15 = .ok (.newarray .int, 2) := by decide +kernel
theorem dX4_init_17 : decode cX4_init 17 = .ok (.putfield 15, 3) := by decide +kernel
theorem dX4_init_20 : decode cX4_init 20 = .ok (.aload_n 0, 1) := by decide +kernel
theorem dX4_init_21 : decode cX4_init 21 = .ok (.bipush 6, 2) := by decide +kernel
theorem dX4_init_23 : decode cX4_init 23 = .ok (.newarray .int, 2) := by decide +kernel
theorem dX4_init_25 : decode cX4_init 25 = .ok (.putfield 18, 3) := by decide +kernel
theorem dX4_init_28 : decode cX4_init 28 = .ok (.aload_n 0, 1) := by decide +kernel
theorem dX4_init_29 : decode cX4_init 29 = .ok (.bipush 9, 2) := by decide +kernel
theorem dX4_init_31 : decode cX4_init 31 = .ok (.newarray .int, 2) := by decide +kernel
theorem dX4_init_33 : decode cX4_init 33 = .ok (.putfield 21, 3) := by decide +kernel
theorem dX4_init_36 : decode cX4_init 36 = .ok (.aload_n 0, 1) := by decide +kernel
theorem dX4_init_37 : decode cX4_init 37 = .ok (.bipush 9, 2) := by decide +kernel
theorem dX4_init_39 : decode cX4_init 39 = .ok (.newarray .int, 2) := by decide +kernel
theorem dX4_init_41 : decode cX4_init 41 = .ok (.putfield 24, 3) := by decide +kernel
theorem dX4_init_44 : decode cX4_init 44 = .ok (.aload_n 0, 1) := by decide +kernel
theorem dX4_init_45 : decode cX4_init 45 = .ok (.bipush 9, 2) := by decide +kernel
theorem dX4_init_47 : decode cX4_init 47 = .ok (.newarray .int, 2) := by decide +kernel
theorem dX4_init_49 : decode cX4_init 49 = .ok (.putfield 27, 3) := by decide +kernel
theorem dX4_init_52 : decode cX4_init 52 = .ok (.aload_n 0, 1) := by decide +kernel
theorem dX4_init_53 : decode cX4_init 53 = .ok (.bipush 12, 2) := by decide +kernel
theorem dX4_init_55 : decode cX4_init 55 = .ok (.newarray .int, 2) := by decide +kernel
theorem dX4_init_57 : decode cX4_init 57 = .ok (.putfield 30, 3) := by decide +kernel
theorem dX4_init_60 : decode cX4_init 60 = .ok (.aload_n 0, 1) := by decide +kernel
theorem dX4_init_61 : decode cX4_init 61 = .ok (.bipush 12, 2) := by decide +kernel
theorem dX4_init_63 : decode cX4_init 63 = .ok (.newarray .int, 2) := by decide +kernel
theorem dX4_init_65 : decode cX4_init 65 = .ok (.putfield 33, 3) := by decide +kernel
theorem dX4_init_68 : decode cX4_init 68 = .ok (.aload_n 0, 1) := by decide +kernel
theorem dX4_init_69 : decode cX4_init 69 = .ok (.bipush 12, 2) := by decide +kernel
theorem dX4_init_71 : decode cX4_init 71 = .ok (.newarray .int, 2) := by decide +kernel
theorem dX4_init_73 : decode cX4_init 73 = .ok (.putfield 36, 3) := by decide +kernel
theorem dX4_init_76 : decode cX4_init 76 = .ok (.return_, 1) := by decide +kernel
theorem dX5_becomeLike_0 : decode cX5_becomeLike 0 = .ok (.aload_n 0, 1) := by decide +kernel
theorem dX5_becomeLike_1 : decode cX5_becomeLike 1 = .ok (.aload_n 1, 1) := by decide +kernel
theorem dX5_becomeLike_2 : decode cX5_becomeLike 2 = .ok (.getfield 54, 3) := by decide +kernel
theorem dX5_becomeLike_5 : decode cX5_becomeLike 5 = .ok (.putfield 54, 3) := by decide +kernel
theorem dX5_becomeLike_8 : decode cX5_becomeLike 8 = .ok (.aload_n 1, 1) := by decide +kernel
theorem dX5_becomeLike_9 : decode cX5_becomeLike 9 = .ok (.getfield 9, 3) := by decide +kernel
theorem dX5_becomeLike_12 : decode cX5_becomeLike 12 = .ok (.aload_n 0, 1) := by decide +kernel
theorem dX5_becomeLike_13 : decode cX5_becomeLike 13 = .ok (.getfield 9, 3) := by decide +kernel
theorem dX5_becomeLike_16 : decode cX5_becomeLike 16 = .ok (.invokestatic 79, 3) := by decide +kernel
theorem dX5_becomeLike_19 : decode cX5_becomeLike 19 = .ok (.aload_n 1, 1) := by decide +kernel
theorem dX5_becomeLike_20 : decode cX5_becomeLike 20 = .ok (.getfield 15, 3) := by decide +kernel
theorem dX5_becomeLike_23 : decode cX5_becomeLike 23 = .ok (.aload_n 0, 1) := by decide +kernel
theorem dX5_becomeLike_24 : decode cX5_becomeLike 24 = .ok (.getfield 15, 3) := by decide +kernel
theorem dX5_becomeLike_27 : decode cX5_becomeLike 27 = .ok (.invokestatic 79, 3) := by decide +kernel
theorem dX5_becomeLike_30 : decode cX5_becomeLike 30 = .ok (.aload_n 1, 1) := by decide +kernel
theorem dX5_becomeLike_31 : decode cX5_becomeLike 31 = .ok (.getfield 18, 3) := by decide +kernel
theorem dX5_becomeLike_34 : decode cX5_becomeLike 34 = .ok (.aload_n 0, 1) := by decide +kernel
theorem dX5_becomeLike_35 : decode cX5_becomeLike 35 = .ok (.getfield 18, 3) := by decide +kernel
theorem dX5_becomeLike_38 : decode cX5_becomeLike 38 = .ok (.invokestatic 79, 3) := by decide +kernel
theorem dX5_becomeLike_41 : decode cX5_becomeLike 41 = .ok (.aload_n 1, 1) := by decide +kernel
theorem dX5_becomeLike_42 : decode cX5_becomeLike 42 = .ok (.getfield 21, 3) := by decide +kernel
theorem dX5_becomeLike_45 : decode cX5_becomeLike 45 = .ok (.aload_n 0, 1) := by decide +kernel
theorem dX5_becomeLike_46 : decode cX5_becomeLike 46 = .ok (.getfield 21, 3) := by decide +kernel
theorem dX5_becomeLike_49 : decode cX5_becomeLike 49 = .ok (.invokestatic 79, 3) := by decide +kernel
theorem dX5_becomeLike_52 : decode cX5_becomeLike 52 = .ok (.aload_n 1, 1) := by decide +kernel
theorem dX5_becomeLike_53 : decode cX5_becomeLike 53 = .ok (.getfield 24, 3) := by decide +kernel
theorem dX5_becomeLike_56 : decode cX5_becomeLike 56 = .ok (.aload_n 0, 1) := by decide +kernel
theorem dX5_becomeLike_57 : decode cX5_becomeLike 57 = .ok (.getfield 24, 3) := by decide +kernel
theorem dX5_becomeLike_60 : decode cX5_becomeLike 60 = .ok (.invokestatic 79, 3) := by decide +kernel
theorem dX5_becomeLike_63 : decode cX5_becomeLike 63 = .ok (.aload_n 1, 1) := by decide +kernel
theorem dX5_becomeLike_64 : decode cX5_becomeLike 64 = .ok (.getfield 27, 3) := by decide +kernel
theorem dX5_becomeLike_67 : decode cX5_becomeLike 67 = .ok (.aload_n 0, 1) := by decide +kernel
theorem dX5_becomeLike_68 : decode cX5_becomeLike 68 = .ok (.getfield 27, 3) := by decide +kernel
theorem dX5_becomeLike_71 : decode cX5_becomeLike 71 = .ok (.invokestatic 79, 3) := by decide +kernel
theorem dX5_becomeLike_74 : decode cX5_becomeLike 74 = .ok (.aload_n 1, 1) := by decide +kernel
theorem dX5_becomeLike_75 : decode cX5_becomeLike 75 = .ok (.getfield 30, 3) := by decide +kernel
theorem dX5_becomeLike_78 : decode cX5_becomeLike 78 = .ok (.aload_n 0, 1) := by decide +kernel
theorem dX5_becomeLike_79 : decode cX5_becomeLike 79 = .ok (.getfield 30, 3) := by decide +kernel
theorem dX5_becomeLike_82 : decode cX5_becomeLike 82 = .ok (.invokestatic 79, 3) := by decide +kernel
theorem dX5_becomeLike_85 : decode cX5_becomeLike 85 = .ok (.aload_n 1, 1) := by decide +kernel
theorem dX5_becomeLike_86 : decode cX5_becomeLike 86 = .ok (.getfield 33, 3) := by decide +kernel
theorem dX5_becomeLike_89 : decode cX5_becomeLike 89 = .ok (.aload_n 0, 1) := by decide +kernel
theorem dX5_becomeLike_90 : decode cX5_becomeLike 90 = .ok (.getfield 33, 3) := by decide +kernel
theorem dX5_becomeLike_93 : decode cX5_becomeLike 93 = .ok (.invokestatic 79, 3) := by decide +kernel
theorem dX5_becomeLike_96 : decode cX5_becomeLike 96 = .ok (.aload_n 1, 1) := by decide +kernel
theorem dX5_becomeLike_97 : decode cX5_becomeLike 97 = .ok (.getfield 36, 3) := by decide +kernel
theorem dX5_becomeLike_100 : decode cX5_becomeLike 100 = .ok (.aload_n 0, 1) := by decide +kernel
theorem dX5_becomeLike_101 : decode cX5_becomeLike 101 = .ok (.getfield 36, 3) := by decide +kernel
theorem dX5_becomeLike_104 : decode cX5_becomeLike 104 = .ok (.invokestatic 79, 3) := by decide +kernel
theorem dX5_becomeLike_107 : decode cX5_becomeLike 107 = .ok (.aload_n 1, 1) := by decide +kernel
theorem dX5_becomeLike_108 : decode cX5_becomeLike 108 = .ok (.getfield 39, 3) := by decide +kernel
theorem dX5_becomeLike_111 : decode cX5_becomeLike 111 = .ok (.aload_n 0, 1) := by decide +kernel
theorem dX5_becomeLike_112 : decode cX5_becomeLike 112 = .ok (.getfield 39, 3) := by decide +kernel
theorem dX5_becomeLike_115 : decode cX5_becomeLike 115 = .ok (.invokestatic 79, 3) := by decide +kernel
theorem dX5_becomeLike_118 : decode cX5_becomeLike 118 = .ok (.aload_n 1, 1) := by decide +kernel
theorem dX5_becomeLike_119 : decode cX5_becomeLike 119 = .ok (.getfield 42, 3) := by decide +kernel
theorem dX5_becomeLike_122 : decode cX5_becomeLike 122 = .ok (.aload_n 0, 1) := by decide +kernel
theorem dX5_becomeLike_123 : decode cX5_becomeLike 123 = .ok (.getfield 42, 3) := by decide +kernel
theorem dX5_becomeLike_126 : decode cX5_becomeLike 126 = .ok (.invokestatic 79, 3) := by decide +kernel
theorem dX5_becomeLike_129 : decode cX5_becomeLike 129 = .ok (.aload_n 1, 1) := by decide +kernel
theorem dX5_becomeLike_130 : decode cX5_becomeLike 130 = .ok (.getfield 45, 3) := by decide +kernel
theorem dX5_becomeLike_133 : decode cX5_becomeLike 133 = .ok (.aload_n 0, 1) := by decide +kernel
theorem dX5_becomeLike_134 : decode cX5_becomeLike 134 = .ok (.getfield 45, 3) := by decide +kernel
theorem dX5_becomeLike_137 : decode cX5_becomeLike 137 = .ok (.invokestatic 79, 3) := by decide +kernel
theorem dX5_becomeLike_140 : decode cX5_becomeLike 140 = .ok (.return_, 1) := by decide +kernel
theorem dX5_findAltered_0 : decode cX5_findAltered 0 = .ok (.aload_n 0, 1) := by decide +kernel
theorem dX5_findAltered_1 : decode cX5_findAltered 1 = .ok (.getfield 39, 3) := by decide +kernel
theorem dX5_findAltered_4 : decode cX5_findAltered 4 = .ok (.iload_n 1, 1) := by decide +kernel
theorem dX5_findAltered_5 : decode cX5_findAltered 5 = .ok (.iaload, 1) := by decide +kernel
theorem dX5_findAltered_6 : decode cX5_findAltered 6 = .ok (.iconst (-1), 1) := by decide +kernel
theorem dX5_findAltered_7 : decode cX5_findAltered 7 = .ok (.if_icmp .ne 6, 3) := by decide +kernel
theorem dX5_findAltered_10 : decode cX5_findAltered 10 = .ok (.bipush (-3), 2) := by decide +kernel
theorem dX5_findAltered_12 : decode cX5_findAltered 12 = .ok (.ireturn, 1) := by decide +kernel
theorem dX5_init_0 : decode cX5_init 0 = .ok (.aload_n 0, 1) := by decide +kernel
theorem dX5_init_1 : decode cX5_init 1 = .ok (.invokespecial 3, 3) := by decide +kernel
theorem dX5_init_4 : decode cX5_init 4 = .ok (.aload_n 0, 1) := by decide +kernel
theorem dX5_init_5 : decode cX5_init 5 = .ok (.sipush 400, 3) := by decide +kernel
theorem dX5_init_8 : decode cX5_init 8 = .ok (.newarray .int, 2) := by decide +kernel
theorem dX5_init_10 : decode cX5_init 10 = .ok (.putfield 9, 3) := by decide +kernel
theorem dX5_init_13 : decode cX5_init 13 = .ok (.aload_n 0, 1) := by decide +kernel
theorem dX5_init_14 : decode cX5_init 14 = .ok (.sipush 400, 3) := by decide +kernel
theorem dX5_init_17 : decode cX5_init 17 = .ok (.newarray .int, 2) := by decide +kernel
theorem dX5_init_19 : decode cX5_init 19 = .ok (.putfield 15, 3) := by decide +kernel
theorem dX5_init_22 : decode cX5_init 22 = .ok (.aload_n 0, 1) := by decide +kernel
theorem dX5_init_23 : decode cX5_init 23 = .ok (.sipush 400, 3) := by decide +kernel
theorem dX5_init_26 : decode cX5_init 26 = .ok (.newarray .int, 2) := by decide +kernel
theorem dX5_init_28 : decode cX5_init 28 = .ok (.putfield 18, 3) := by decide +kernel
theorem dX5_init_31 : decode cX5_init 31 = .ok (.aload_n 0, 1) := by decide +kernel
theorem dX5_init_32 : decode cX5_init 32 = .ok (.sipush 400, 3) := by decide +kernel
theorem dX5_init_35 : decode cX5_init 35 = .ok (.newarray .int, 2) := by decide +kernel
theorem dX5_init_37 : decode cX5_init 37 = .ok (.putfield 21, 3) := by decide +kernel
theorem dX5_init_40 : decode cX5_init 40 = .ok (.aload_n 0, 1) := by decide +kernel
theorem dX5_init_41 : decode cX5_init 41 = .ok (.sipush 400, 3) := by decide +kernel
theorem dX5_init_44 : decode cX5_init 44 = .ok (.newarray .int, 2) := by decide +kernel
theorem dX5_init_46 : decode cX5_init 46 = .ok (.putfield 24, 3) := by decide +kernel
theorem dX5_init_49 : decode cX5_init 49 = .ok (.aload_n 0, 1) := by decide +kernel
theorem dX5_init_50 : decode cX5_init 50 = .ok (.sipush 400, 3) := by decide +kernel
theorem dX5_init_53 : decode cX5_init 53 = .ok (.newarray .int, 2) := by decide +kernel
theorem dX5_init_55 : decode cX5_init 55 = .ok (.putfield 27, 3) := by decide +kernel
theorem dX5_init_58 : decode cX5_init 58 = .ok (.aload_n 0, 1) := by decide +kernel
theorem dX5_init_59 : decode cX5_init 59 = .ok (.sipush 400, 3) := by decide +kernel
theorem dX5_init_62 : decode cX5_init 62 = .ok (.newarray .int, 2) := by decide +kernel
theorem dX5_init_64 : decode cX5_init 64 = .ok (.putfield 30, 3) := by decide +kernel
theorem dX5_init_67 : decode cX5_init 67 = .ok (.aload_n 0, 1) := by decide +kernel
theorem dX5_init_68 : decode cX5_init 68 = .ok (.sipush 400, 3) := by decide +kernel
theorem dX5_init_71 : decode cX5_init 71 = .ok (.newarray .int, 2) := by decide +kernel
theorem dX5_init_73 : decode cX5_init 73 = .ok (.putfield 33, 3) := by decide +kernel
theorem dX5_init_76 : decode cX5_init 76 = .ok (.aload_n 0, 1) := by decide +kernel
theorem dX5_init_77 : decode cX5_init 77 = .ok (.sipush 400, 3) := by decide +kernel
theorem dX5_init_80 : decode cX5_init 80 = .ok (.newarray .int, 2) := by decide +kernel
theorem dX5_init_82 : decode cX5_init 82 = .ok (.putfield 36, 3) := by decide +kernel
theorem dX5_init_85 : decode cX5_init 85 = .ok (.aload_n 0, 1) := by decide +kernel
theorem dX5_init_86 : decode cX5_init 86 = .ok (.sipush 400, 3) := by decide +kernel
theorem dX5_init_89 : decode cX5_init 89 = .ok (.newarray .int, 2) := by decide +kernel
theorem dX5_init_91 : decode cX5_init 91 = .ok (.putfield 39, 3) := by decide +kernel
theorem dX5_init_94 : decode cX5_init 94 = .ok (.aload_n 0, 1) := by decide +kernel
theorem dX5_init_95 : decode cX5_init 95 = .ok (.sipush 400, 3) := by decide +kernel
theorem dX5_init_98 : decode cX5_init 98 = .ok (.newarray .int, 2) := by decide +kernel
theorem dX5_init_100 : decode cX5_init 100 = .ok (.putfield 42, 3) := by decide +kernel
theorem dX5_init_103 : decode cX5_init 103 = .ok (.aload_n 0, 1) := by decide +kernel
theorem dX5_init_104 : decode cX5_init 104 = .ok (.sipush 400, 3) := by decide +kernel
theorem dX5_init_107 : decode cX5_init 107 = .ok (.newarray .int, 2) := by decide +kernel
theorem dX5_init_109 : decode cX5_init 109 = .ok (.putfield 45, 3) := by decide +kernel
theorem dX5_init_112 : decode cX5_init 112 = .ok (.aload_n 0, 1) := by decide +kernel
theorem dX5_init_113 : decode cX5_init 113 = .ok (.getfield 39, 3) := by decide +kernel
theorem dX5_init_116 : decode cX5_init 116 = .ok (.iconst (-1), 1) := by decide +kernel
theorem dX5_init_117 : decode cX5_init 117 = .ok (.invokestatic 48, 3) := by decide +kernel
theorem dX5_init_120 : decode cX5_init 120 = .ok (.return_, 1) := by decide +kernel
theorem dX5_isNoMark_0 : decode cX5_isNoMark 0 = .ok (.iload_n 1, 1) := by decide +kernel
theorem dX5_isNoMark_1 : decode cX5_isNoMark 1 = .ok (.ifCond .lt 11, 3) := by decide +kernel
theorem dX5_isNoMark_4 : decode cX5_isNoMark 4 = .ok (.iload_n 1, 1) := by decide +kernel
theorem dX5_isNoMark_5 : decode cX5_isNoMark 5 = .ok (.aload_n 0, 1) := by decide +kernel
theorem dX5_isNoMark_6 : decode cX5_isNoMark 6 = .ok (.getfield 54, 3) := by decide +kernel
theorem dX5_isNoMark_9 : decode cX5_isNoMark 9 = .ok (.if_icmp .lt 7, 3) := by decide +kernel
theorem dX5_isNoMark_12 : decode cX5_isNoMark 12 = .ok (.iconst 1, 1) := by decide +kernel
theorem dX5_isNoMark_13 : decode cX5_isNoMark 13 = .ok (.goto 4, 3) := by decide +kernel
theorem dX5_isNoMark_17 : decode cX5_isNoMark 17 = .ok (.ireturn, 1) := by decide +kernel
theorem dX5_sealDay_0 : decode cX5_sealDay 0 = .ok (.aload_n 0, 1) := by decide +kernel
theorem dX5_sealDay_1 : decode cX5_sealDay 1 = .ok (.getfield 39, 3) := by decide +kernel
theorem dX5_sealDay_4 : decode cX5_sealDay 4 = .ok (.iload_n 1, 1) := by decide +kernel
theorem dX5_sealDay_5 : decode cX5_sealDay 5 = .ok (.aload_n 0, 1) := by decide +kernel
theorem dX5_sealDay_6 : decode cX5_sealDay 6 = .ok (.iload_n 1, 1) := by decide +kernel
theorem dX5_sealDay_7 : decode cX5_sealDay 7 = .ok (.invokevirtual 66, 3) := by decide +kernel
theorem dX5_sealDay_10 : decode cX5_sealDay 10 = .ok (.iastore, 1) := by decide +kernel
theorem dX5_sealDay_11 : decode cX5_sealDay 11 = .ok (.aload_n 0, 1) := by decide +kernel
theorem dX5_sealDay_12 : decode cX5_sealDay 12 = .ok (.getfield 42, 3) := by decide +kernel
theorem dX5_sealDay_15 : decode cX5_sealDay 15 = .ok (.iload_n 1, 1) := by decide +kernel
theorem dX5_sealDay_16 : decode cX5_sealDay 16 = .ok (.aload_n 0, 1) := by decide +kernel
theorem dX5_sealDay_17 : decode cX5_sealDay 17 = .ok (.getfield 69, 3) := by decide +kernel
theorem dX5_sealDay_20 : decode cX5_sealDay 20 = .ok (.iastore, 1) := by decide +kernel
theorem dX5_sealDay_21 : decode cX5_sealDay 21 = .ok (.aload_n 0, 1) := by decide +kernel
theorem dX5_sealDay_22 : decode cX5_sealDay 22 = .ok (.getfield 45, 3) := by decide +kernel
theorem dX5_sealDay_25 : decode cX5_sealDay 25 = .ok (.iload_n 1, 1) := by decide +kernel
theorem dX5_sealDay_26 : decode cX5_sealDay 26 = .ok (.aload_n 0, 1) := by decide +kernel
theorem dX5_sealDay_27 : decode cX5_sealDay 27 = .ok (.getfield 72, 3) := by decide +kernel
theorem dX5_sealDay_30 : decode cX5_sealDay 30 = .ok (.iastore, 1) := by decide +kernel
theorem dX5_sealDay_31 : decode cX5_sealDay 31 = .ok (.aload_n 0, 1) := by decide +kernel
theorem dX5_sealDay_32 : decode cX5_sealDay 32 = .ok (.getfield 39, 3) := by decide +kernel
theorem dX5_sealDay_35 : decode cX5_sealDay 35 = .ok (.iload_n 1, 1) := by decide +kernel
theorem dX5_sealDay_36 : decode cX5_sealDay 36 = .ok (.iaload, 1) := by decide +kernel
theorem dX5_sealDay_37 : decode cX5_sealDay 37 = .ok (.ireturn, 1) := by decide +kernel
theorem dX5_sumDay_0 : decode cX5_sumDay 0 = .ok (.iconst 0, 1) := by decide +kernel
theorem dX5_sumDay_1 : decode cX5_sumDay 1 = .ok (.istore_n 2, 1) := by decide +kernel
theorem dX5_sumDay_2 : decode cX5_sumDay 2 = .ok (.aload_n 0, 1) := by decide +kernel
theorem dX5_sumDay_3 : decode cX5_sumDay 3 = .ok (.iconst 0, 1) := by decide +kernel
theorem dX5_sumDay_4 : decode cX5_sumDay 4 = .ok (.putfield 69, 3) := by decide +kernel
theorem dX5_sumDay_7 : decode cX5_sumDay 7 = .ok (.aload_n 0, 1) := by decide +kernel
theorem dX5_sumDay_8 : decode cX5_sumDay 8 = .ok (.iconst 0, 1) := by decide +kernel
theorem dX5_sumDay_9 : decode cX5_sumDay 9 = .ok (.putfield 72, 3) := by decide +kernel
theorem dX5_sumDay_12 : decode cX5_sumDay 12 = .ok (.iconst 0, 1) := by decide +kernel
theorem dX5_sumDay_13 : decode cX5_sumDay 13 = .ok (.istore_n 3, 1) := by decide +kernel
theorem dX5_sumDay_14 : decode cX5_sumDay 14 = .ok (.iload_n 3, 1) := by decide +kernel
theorem dX5_sumDay_15 : decode cX5_sumDay 15 = .ok (.aload_n 0, 1) := by decide +kernel
theorem dX5_sumDay_16 : decode cX5_sumDay 16 = .ok (.getfield 54, 3) := by decide +kernel
theorem dX5_sumDay_19 : decode cX5_sumDay 19 = .ok (.if_icmp .ge 54, 3) := by decide +kernel
theorem dX5_sumDay_73 : decode cX5_sumDay 73 = .ok (.iload_n 2, 1) := by decide +kernel
theorem dX5_sumDay_74 : decode cX5_sumDay 74 = .ok (.ireturn, 1) := by decide +kernel
theorem dX6_addBus_0 : decode cX6_addBus 0 = .ok (.aload_n 0, 1) := by decide +kernel
theorem dX6_addBus_1 : decode cX6_addBus 1 = .ok (.getfield 30, 3) := by decide +kernel
theorem dX6_addBus_4 : decode cX6_addBus 4 = .ok (.aload_n 0, 1) := by decide +kernel
theorem dX6_addBus_5 : decode cX6_addBus 5 = .ok (.getfield 55, 3) := by decide +kernel
theorem dX6_addBus_8 : decode cX6_addBus 8 = .ok (.iload_n 1, 1) := by decide +kernel
theorem dX6_addBus_9 : decode cX6_addBus 9 = .ok (.iastore, 1) := by decide +kernel
theorem dX6_addBus_10 : decode cX6_addBus 10 = .ok (.aload_n 0, 1) := by decide +kernel
theorem dX6_addBus_11 : decode cX6_addBus 11 = .ok (.getfield 33, 3) := by decide +kernel
theorem dX6_addBus_14 : decode cX6_addBus 14 = .ok (.aload_n 0, 1) := by decide +kernel
theorem dX6_addBus_15 : decode cX6_addBus 15 = .ok (.getfield 55, 3) := by decide +kernel
theorem dX6_addBus_18 : decode cX6_addBus 18 = .ok (.iload_n 2, 1) := by decide +kernel
theorem dX6_addBus_19 : decode cX6_addBus 19 = .ok (.iastore, 1) := by decide +kernel
theorem dX6_addBus_20 : decode cX6_addBus 20 = .ok (.aload_n 0, 1) := by decide +kernel
theorem dX6_addBus_21 : decode cX6_addBus 21 = .ok (.dup, 1) := by decide +kernel
theorem dX6_addBus_22 : decode cX6_addBus 22 = .ok (.getfield 55, 3) := by decide +kernel
theorem dX6_addBus_25 : decode cX6_addBus 25 = .ok (.iconst 1, 1) := by decide +kernel
theorem dX6_addBus_26 : decode cX6_addBus 26 = .ok (.iadd, 1) := by decide +kernel
theorem dX6_addBus_27 : decode cX6_addBus 27 = .ok (.putfield 55, 3) := by decide +kernel
theorem dX6_addBus_30 : decode cX6_addBus 30 = .ok (.aload_n 0, 1) := by decide +kernel
theorem dX6_addBus_31 : decode cX6_addBus 31 = .ok (.getfield 55, 3) := by decide +kernel
theorem dX6_addBus_34 : decode cX6_addBus 34 = .ok (.ireturn, 1) := by decide +kernel
theorem dX6_addChild_0 : decode cX6_addChild 0 = .ok (.aload_n 0, 1) := by decide +kernel
theorem dX6_addChild_1 : decode cX6_addChild 1 = .ok (.getfield 9, 3) := by decide +kernel
theorem dX6_addChild_4 : decode cX6_addChild 4 = .ok (.aload_n 0, 1) := by decide +kernel
theorem dX6_addChild_5 : decode cX6_addChild 5 = .ok (.getfield 48, 3) := by decide +kernel
theorem dX6_addChild_8 : decode cX6_addChild 8 = .ok (.iload_n 1, 1) := by decide +kernel
theorem dX6_addChild_9 : decode cX6_addChild 9 = .ok (.iastore, 1) := by decide +kernel
theorem dX6_addChild_10 : decode cX6_addChild 10 = .ok (.aload_n 0, 1) := by decide +kernel
theorem dX6_addChild_11 : decode cX6_addChild 11 = .ok (.getfield 15, 3) := by decide +kernel
theorem dX6_addChild_14 : decode cX6_addChild 14 = .ok (.aload_n 0, 1) := by decide +kernel
theorem dX6_addChild_15 : decode cX6_addChild 15 = .ok (.getfield 48, 3) := by decide +kernel
theorem dX6_addChild_18 : decode cX6_addChild 18 = .ok (.iload_n 2, 1) := by decide +kernel
theorem dX6_addChild_19 : decode cX6_addChild 19 = .ok (.ifCond .eq 7, 3) := by decide +kernel
theorem dX6_addChild_22 : decode cX6_addChild 22 = .ok (.iconst 1, 1) := by decide +kernel
theorem dX6_addChild_23 : decode cX6_addChild 23 = .ok (.goto 4, 3) := by decide +kernel
theorem dX6_addChild_26 : decode cX6_addChild 26 = .ok (.iconst 0, 1) := by decide +kernel
theorem dX6_addChild_27 : decode cX6_addChild 27 = .ok (.iastore, 1) := by decide +kernel
theorem dX6_addChild_28 : decode cX6_addChild 28 = .ok (.aload_n 0, 1) := by decide +kernel
theorem dX6_addChild_29 : decode cX6_addChild 29 = .ok (.getfield 18, 3) := by decide +kernel
theorem dX6_addChild_32 : decode cX6_addChild 32 = .ok (.aload_n 0, 1) := by decide +kernel
theorem dX6_addChild_33 : decode cX6_addChild 33 = .ok (.getfield 48, 3) := by decide +kernel
theorem dX6_addChild_36 : decode cX6_addChild 36 = .ok (.iload_n 3, 1) := by decide +kernel
theorem dX6_addChild_37 : decode cX6_addChild 37 = .ok (.iastore, 1) := by decide +kernel
theorem dX6_addChild_38 : decode cX6_addChild 38 = .ok (.aload_n 0, 1) := by decide +kernel
theorem dX6_addChild_39 : decode cX6_addChild 39 = .ok (.getfield 21, 3) := by decide +kernel
theorem dX6_addChild_42 : decode cX6_addChild 42 = .ok (.aload_n 0, 1) := by decide +kernel
theorem dX6_addChild_43 : decode cX6_addChild 43 = .ok (.getfield 48, 3) := by decide +kernel
theorem dX6_addChild_46 : decode cX6_addChild 46 = .ok (.iload 4, 2) := by decide +kernel
theorem dX6_addChild_48 : decode cX6_addChild 48 = .ok (.iastore, 1) := by decide +kernel
theorem dX6_addChild_49 : decode cX6_addChild 49 = .ok (.aload_n 0, 1) := by decide +kernel
theorem dX6_addChild_50 : decode cX6_addChild 50 = .ok (.getfield 24, 3) := by decide +kernel
theorem dX6_addChild_53 : decode cX6_addChild 53 = .ok (.aload_n 0, 1) := by decide +kernel
theorem dX6_addChild_54 : decode cX6_addChild 54 = .ok (.getfield 48, 3) := by decide +kernel
theorem dX6_addChild_57 : decode cX6_addChild 57 = .ok (.iload 5, 2) := by decide +kernel
theorem dX6_addChild_59 : decode cX6_addChild 59 = .ok (.iastore, 1) := by decide +kernel
theorem dX6_addChild_60 : decode cX6_addChild 60 = .ok (.aload_n 0, 1) := by decide +kernel
theorem dX6_addChild_61 : decode cX6_addChild 61 = .ok (.dup, 1) := by decide +kernel
theorem dX6_addChild_62 : decode cX6_addChild 62 = .ok (.getfield 48, 3) := by decide +kernel
theorem dX6_addChild_65 : decode cX6_addChild 65 = .ok (.iconst 1, 1) := by decide +kernel
theorem dX6_addChild_66 : decode cX6_addChild 66 = .ok (.iadd, 1) := by decide +kernel
theorem dX6_addChild_67 : decode cX6_addChild 67 = .ok (.putfield 48, 3) := by decide +kernel
theorem dX6_addChild_70 : decode cX6_addChild 70 = .ok (.aload_n 0, 1) := by decide +kernel
theorem dX6_addChild_71 : decode cX6_addChild 71 = .ok (.getfield 48, 3) := by decide +kernel
theorem dX6_addChild_74 : decode cX6_addChild 74 = .ok (.iconst 1, 1) := by decide +kernel
theorem dX6_addChild_75 : decode cX6_addChild 75 = .ok (.isub, 1) := by decide +kernel
theorem dX6_addChild_76 : decode cX6_addChild 76 = .ok (.ireturn, 1) := by decide +kernel
theorem dX6_becomeLike_0 : decode cX6_becomeLike 0 = .ok (.aload_n 0, 1) := by decide +kernel
theorem dX6_becomeLike_1 : decode cX6_becomeLike 1 = .ok (.aload_n 1, 1) := by decide +kernel
theorem dX6_becomeLike_2 : decode cX6_becomeLike 2 = .ok (.getfield 48, 3) := by decide +kernel
theorem dX6_becomeLike_5 : decode cX6_becomeLike 5 = .ok (.putfield 48, 3) := by decide +kernel
theorem dX6_becomeLike_8 : decode cX6_becomeLike 8 = .ok (.aload_n 1, 1) := by decide +kernel
theorem dX6_becomeLike_9 : decode cX6_becomeLike 9 = .ok (.getfield 9, 3) := by decide +kernel
theorem dX6_becomeLike_12 : decode cX6_becomeLike 12 = .ok (.aload_n 0, 1) := by decide +kernel
theorem dX6_becomeLike_13 : decode cX6_becomeLike 13 = .ok (.getfield 9, 3) := by decide +kernel
theorem dX6_becomeLike_16 : decode cX6_becomeLike 16 = .ok (.invokestatic 58, 3) := by decide +kernel
theorem dX6_becomeLike_19 : decode cX6_becomeLike 19 = .ok (.aload_n 1, 1) := by decide +kernel
theorem dX6_becomeLike_20 : decode cX6_becomeLike 20 = .ok (.getfield 15, 3) := by decide +kernel
theorem dX6_becomeLike_23 : decode cX6_becomeLike 23 = .ok (.aload_n 0, 1) := by decide +kernel
theorem dX6_becomeLike_24 : decode cX6_becomeLike 24 = .ok (.getfield 15, 3) := by decide +kernel
theorem dX6_becomeLike_27 : decode cX6_becomeLike 27 = .ok (.invokestatic 58, 3) := by decide +kernel
theorem dX6_becomeLike_30 : decode cX6_becomeLike 30 = .ok (.aload_n 1, 1) := by decide +kernel
theorem dX6_becomeLike_31 : decode cX6_becomeLike 31 = .ok (.getfield 18, 3) := by decide +kernel
theorem dX6_becomeLike_34 : decode cX6_becomeLike 34 = .ok (.aload_n 0, 1) := by decide +kernel
theorem dX6_becomeLike_35 : decode cX6_becomeLike 35 = .ok (.getfield 18, 3) := by decide +kernel
theorem dX6_becomeLike_38 : decode cX6_becomeLike 38 = .ok (.invokestatic 58, 3) := by decide +kernel
theorem dX6_becomeLike_41 : decode cX6_becomeLike 41 = .ok (.aload_n 1, 1) := by decide +kernel
theorem dX6_becomeLike_42 : decode cX6_becomeLike 42 = .ok (.getfield 21, 3) := by decide +kernel
theorem dX6_becomeLike_45 : decode cX6_becomeLike 45 = .ok (.aload_n 0, 1) := by decide +kernel
theorem dX6_becomeLike_46 : decode cX6_becomeLike 46 = .ok (.getfield 21, 3) := by decide +kernel
theorem dX6_becomeLike_49 : decode cX6_becomeLike 49 = .ok (.invokestatic 58, 3) := by decide +kernel
theorem dX6_becomeLike_52 : decode cX6_becomeLike 52 = .ok (.aload_n 1, 1) := by decide +kernel
theorem dX6_becomeLike_53 : decode cX6_becomeLike 53 = .ok (.getfield 24, 3) := by decide +kernel
theorem dX6_becomeLike_56 : decode cX6_becomeLike 56 = .ok (.aload_n 0, 1) := by decide +kernel
theorem dX6_becomeLike_57 : decode cX6_becomeLike 57 = .ok (.getfield 24, 3) := by decide +kernel
theorem dX6_becomeLike_60 : decode cX6_becomeLike 60 = .ok (.invokestatic 58, 3) := by decide +kernel
theorem dX6_becomeLike_63 : decode cX6_becomeLike 63 = .ok (.aload_n 0, 1) := by decide +kernel
theorem dX6_becomeLike_64 : decode cX6_becomeLike 64 = .ok (.aload_n 1, 1) := by decide +kernel
theorem dX6_becomeLike_65 : decode cX6_becomeLike 65 = .ok (.getfield 52, 3) := by decide +kernel
theorem dX6_becomeLike_68 : decode cX6_becomeLike 68 = .ok (.putfield 52, 3) := by decide +kernel
theorem dX6_becomeLike_71 : decode cX6_becomeLike 71 = .ok (.aload_n 1, 1) := by decide +kernel
theorem dX6_becomeLike_72 : decode cX6_becomeLike 72 = .ok (.getfield 27, 3) := by decide +kernel
theorem dX6_becomeLike_75 : decode cX6_becomeLike 75 = .ok (.aload_n 0, 1) := by decide +kernel
theorem dX6_becomeLike_76 : decode cX6_becomeLike 76 = .ok (.getfield 27, 3) := by decide +kernel
theorem dX6_becomeLike_79 : decode cX6_becomeLike 79 = .ok (.invokestatic 58, 3) := by decide +kernel
theorem dX6_becomeLike_82 : decode cX6_becomeLike 82 = .ok (.aload_n 0, 1) := by decide +kernel
theorem dX6_becomeLike_83 : decode cX6_becomeLike 83 = .ok (.aload_n 1, 1) := by decide +kernel
theorem dX6_becomeLike_84 : decode cX6_becomeLike 84 = .ok (.getfield 55, 3) := by decide +kernel
theorem dX6_becomeLike_87 : decode cX6_becomeLike 87 = .ok (.putfield 55, 3) := by decide +kernel
theorem dX6_becomeLike_90 : decode cX6_becomeLike 90 = .ok (.aload_n 1, 1) := by decide +kernel
theorem dX6_becomeLike_91 : decode cX6_becomeLike 91 = .ok (.getfield 30, 3) := by decide +kernel
theorem dX6_becomeLike_94 : decode cX6_becomeLike 94 = .ok (.aload_n 0, 1) := by decide +kernel
theorem dX6_becomeLike_95 : decode cX6_becomeLike 95 = .ok (.getfield 30, 3) := by decide +kernel
theorem dX6_becomeLike_98 : decode cX6_becomeLike 98 = .ok (.invokestatic 58, 3) := by decide +kernel
theorem dX6_becomeLike_101 : decode cX6_becomeLike 101 = .ok (.aload_n 1, 1) := by decide +kernel
theorem dX6_becomeLike_102 : decode cX6_becomeLike 102 = .ok (.getfield 33, 3) := by decide +kernel
theorem dX6_becomeLike_105 : decode cX6_becomeLike 105 = .ok (.aload_n 0, 1) := by decide +kernel
theorem dX6_becomeLike_106 : decode cX6_becomeLike 106 = .ok (.getfield 33, 3) := by decide +kernel
theorem dX6_becomeLike_109 : decode cX6_becomeLike 109 = .ok (.invokestatic 58, 3) := by decide +kernel
theorem dX6_becomeLike_112 : decode cX6_becomeLike 112 = .ok (.aload_n 1, 1) := by decide +kernel
theorem dX6_becomeLike_113 : decode cX6_becomeLike 113 = .ok (.getfield 36, 3) := by decide +kernel
theorem dX6_becomeLike_116 : decode cX6_becomeLike 116 = .ok (.aload_n 0, 1) := by decide +kernel
theorem dX6_becomeLike_117 : decode cX6_becomeLike 117 = .ok (.getfield 36, 3) := by decide +kernel
theorem dX6_becomeLike_120 : decode cX6_becomeLike 120 = .ok (.invokestatic 58, 3) := by decide +kernel
theorem dX6_becomeLike_123 : decode cX6_becomeLike 123 = .ok (.aload_n 1, 1) := by decide +kernel
theorem dX6_becomeLike_124 : decode cX6_becomeLike 124 = .ok (.getfield 39, 3) := by decide +kernel
theorem dX6_becomeLike_127 : decode cX6_becomeLike 127 = .ok (.aload_n 0, 1) := by decide +kernel
theorem dX6_becomeLike_128 : decode cX6_becomeLike 128 = .ok (.getfield 39, 3) := by decide +kernel
theorem dX6_becomeLike_131 : decode cX6_becomeLike 131 = .ok (.invokestatic 58, 3) := by decide +kernel
theorem dX6_becomeLike_134 : decode cX6_becomeLike 134 = .ok (.aload_n 1, 1) := by decide +kernel
theorem dX6_becomeLike_135 : decode cX6_becomeLike 135 = .ok (.getfield 42, 3) := by decide +kernel
theorem dX6_becomeLike_138 : decode cX6_becomeLike 138 = .ok (.aload_n 0, 1) := by decide +kernel
theorem dX6_becomeLike_139 : decode cX6_becomeLike 139 = .ok (.getfield 42, 3) := by decide +kernel
theorem dX6_becomeLike_142 : decode cX6_becomeLike 142 = .ok (.invokestatic 58, 3) := by decide +kernel
theorem dX6_becomeLike_145 : decode cX6_becomeLike 145 = .ok (.aload_n 1, 1) := by decide +kernel
theorem dX6_becomeLike_146 : decode cX6_becomeLike 146 = .ok (.getfield 45, 3) := by decide +kernel
theorem dX6_becomeLike_149 : decode cX6_becomeLike 149 = .ok (.aload_n 0, 1) := by decide +kernel
theorem dX6_becomeLike_150 : decode cX6_becomeLike 150 = .ok (.getfield 45, 3) := by decide +kernel
theorem dX6_becomeLike_153 : decode cX6_becomeLike 153 = .ok (.invokestatic 58, 3) := by decide +kernel
theorem dX6_becomeLike_156 : decode cX6_becomeLike 156 = .ok (.return_, 1) := by decide +kernel
theorem dX6_hasFailed_0 : decode cX6_hasFailed 0 = .ok (.iconst 0, 1) := by decide +kernel
theorem dX6_hasFailed_1 : decode cX6_hasFailed 1 = .ok (.istore_n 3, 1) := by decide +kernel
theorem dX6_hasFailed_2 : decode cX6_hasFailed 2 = .ok (.iload_n 3, 1) := by decide +kernel
theorem dX6_hasFailed_3 : decode cX6_hasFailed 3 = .ok (.aload_n 0, 1) := by decide +kernel
theorem dX6_hasFailed_4 : decode cX6_hasFailed 4 = .ok (.getfield 55, 3) := by decide +kernel
theorem dX6_hasFailed_7 : decode cX6_hasFailed 7 = .ok (.if_icmp .ge 31, 3) := by decide +kernel
theorem dX6_hasFailed_38 : decode cX6_hasFailed 38 = .ok (.iconst 0, 1) := by decide +kernel
theorem dX6_hasFailed_39 : decode cX6_hasFailed 39 = .ok (.ireturn, 1) := by decide +kernel
theorem dX6_init_0 : decode cX6_init 0 = .ok (.aload_n 0, 1) := by decide +kernel
theorem dX6_init_1 : decode cX6_init 1 = .ok (.invokespecial 3, 3) := by decide +kernel
theorem dX6_init_4 : decode cX6_init 4 = .ok (.aload_n 0, 1) := by decide +kernel
theorem dX6_init_5 : decode cX6_init 5 = .ok (.bipush 40, 2) := by decide +kernel
theorem dX6_init_7 : decode cX6_init 7 = .ok (.newarray .int, 2) := by decide +kernel
theorem dX6_init_9 : decode cX6_init 9 = .ok (.putfield 9, 3) := by decide +kernel
theorem dX6_init_12 : decode cX6_init 12 = .ok (.aload_n 0, 1) := by decide +kernel
theorem dX6_init_13 : decode cX6_init 13 = .ok (.bipush 40, 2) := by decide +kernel
theorem dX6_init_15 : decode cX6_init 15 = .ok (.newarray .int, 2) := by decide +kernel
theorem dX6_init_17 : decode cX6_init 17 = .ok (.putfield 15, 3) := by decide +kernel
theorem dX6_init_20 : decode cX6_init 20 = .ok (.aload_n 0, 1) := by decide +kernel
theorem dX6_init_21 : decode cX6_init 21 = .ok (.bipush 40, 2) := by decide +kernel
theorem dX6_init_23 : decode cX6_init 23 = .ok (.newarray .int, 2) := by decide +kernel
theorem dX6_init_25 : decode cX6_init 25 = .ok (.putfield 18, 3) := by decide +kernel
theorem dX6_init_28 : decode cX6_init 28 = .ok (.aload_n 0, 1) := by decide +kernel
theorem dX6_init_29 : decode cX6_init 29 = .ok (.bipush 40, 2) := by decide +kernel
theorem dX6_init_31 : decode cX6_init 31 = .ok (.newarray .int, 2) := by decide +kernel
theorem dX6_init_33 : decode cX6_init 33 = .ok (.putfield 21, 3) := by decide +kernel
theorem dX6_init_36 : decode cX6_init 36 = .ok (.aload_n 0, 1) := by decide +kernel
theorem dX6_init_37 : decode cX6_init 37 = .ok (.bipush 40, 2) := by decide +kernel
theorem dX6_init_39 : decode cX6_init 39 = .ok (.newarray .int, 2) := by decide +kernel
theorem dX6_init_41 : decode cX6_init 41 = .ok (.putfield 24, 3) := by decide +kernel
theorem dX6_init_44 : decode cX6_init 44 = .ok (.aload_n 0, 1) := by decide +kernel
theorem dX6_init_45 : decode cX6_init 45 = .ok (.sipush 400, 3) := by decide +kernel
theorem dX6_init_48 : decode cX6_init 48 = .ok (.newarray .int, 2) := by decide +kernel
theorem dX6_init_50 : decode cX6_init 50 = .ok (.putfield 27, 3) := by decide +kernel
theorem dX6_init_53 : decode cX6_init 53 = .ok (.aload_n 0, 1) := by decide +kernel
theorem dX6_init_54 : decode cX6_init 54 = .ok (.bipush 60, 2) := by decide +kernel
theorem dX6_init_56 : decode cX6_init 56 = .ok (.newarray .int, 2) := by decide +kernel
theorem dX6_init_58 : decode cX6_init 58 = .ok (.putfield 30, 3) := by decide +kernel
theorem dX6_init_61 : decode cX6_init 61 = .ok (.aload_n 0, 1) := by decide +kernel
theorem dX6_init_62 : decode cX6_init 62 = .ok (.bipush 60, 2) := by decide +kernel
theorem dX6_init_64 : decode cX6_init 64 = .ok (.newarray .int, 2) := by decide +kernel
theorem dX6_init_66 : decode cX6_init 66 = .ok (.putfield 33, 3) := by decide +kernel
theorem dX6_init_69 : decode cX6_init 69 = .ok (.aload_n 0, 1) := by decide +kernel
theorem dX6_init_70 : decode cX6_init 70 = .ok (.iconst 2, 1) := by decide +kernel
theorem dX6_init_71 : decode cX6_init 71 = .ok (.newarray .int, 2) := by decide +kernel
theorem dX6_init_73 : decode cX6_init 73 = .ok (.putfield 36, 3) := by decide +kernel
theorem dX6_init_76 : decode cX6_init 76 = .ok (.aload_n 0, 1) := by decide +kernel
theorem dX6_init_77 : decode cX6_init 77 = .ok (.bipush 120, 2) := by decide +kernel
theorem dX6_init_79 : decode cX6_init 79 = .ok (.newarray .int, 2) := by decide +kernel
theorem dX6_init_81 : decode cX6_init 81 = .ok (.putfield 39, 3) := by decide +kernel
theorem dX6_init_84 : decode cX6_init 84 = .ok (.aload_n 0, 1) := by decide +kernel
theorem dX6_init_85 : decode cX6_init 85 = .ok (.bipush 120, 2) := by decide +kernel
theorem dX6_init_87 : decode cX6_init 87 = .ok (.newarray .int, 2) := by decide +kernel
theorem dX6_init_89 : decode cX6_init 89 = .ok (.putfield 42, 3) := by decide +kernel
theorem dX6_init_92 : decode cX6_init 92 = .ok (.aload_n 0, 1) := by decide +kernel
theorem dX6_init_93 : decode cX6_init 93 = .ok (.bipush 120, 2) := by decide +kernel
theorem dX6_init_95 : decode cX6_init 95 = .ok (.newarray .int, 2) := by decide +kernel
theorem dX6_init_97 : decode cX6_init 97 = .ok (.putfield 45, 3) := by decide +kernel
theorem dX6_init_100 : decode cX6_init 100 = .ok (.return_, 1) := by decide +kernel
theorem dX6_isNoChild_0 : decode cX6_isNoChild 0 = .ok (.iload_n 1, 1) := by decide +kernel
theorem dX6_isNoChild_1 : decode cX6_isNoChild 1 = .ok (.ifCond .lt 11, 3) := by decide +kernel
theorem dX6_isNoChild_4 : decode cX6_isNoChild 4 = .ok (.iload_n 1, 1) := by decide +kernel
theorem dX6_isNoChild_5 : decode cX6_isNoChild 5 = .ok (.aload_n 0, 1) := by decide +kernel
theorem dX6_isNoChild_6 : decode cX6_isNoChild 6 = .ok (.getfield 48, 3) := by decide +kernel
theorem dX6_isNoChild_9 : decode cX6_isNoChild 9 = .ok (.if_icmp .lt 7, 3) := by decide +kernel
theorem dX6_isNoChild_12 : decode cX6_isNoChild 12 = .ok (.iconst 1, 1) := by decide +kernel
theorem dX6_isNoChild_13 : decode cX6_isNoChild 13 = .ok (.goto 4, 3) := by decide +kernel
theorem dX6_isNoChild_17 : decode cX6_isNoChild 17 = .ok (.ireturn, 1) := by decide +kernel
theorem dX6_isNoSchool_0 : decode cX6_isNoSchool 0 = .ok (.iload_n 1, 1) := by decide +kernel
theorem dX6_isNoSchool_1 : decode cX6_isNoSchool 1 = .ok (.ifCond .lt 11, 3) := by decide +kernel
theorem dX6_isNoSchool_4 : decode cX6_isNoSchool 4 = .ok (.iload_n 1, 1) := by decide +kernel
theorem dX6_isNoSchool_5 : decode cX6_isNoSchool 5 = .ok (.aload_n 0, 1) := by decide +kernel
theorem dX6_isNoSchool_6 : decode cX6_isNoSchool 6 = .ok (.getfield 52, 3) := by decide +kernel
theorem dX6_isNoSchool_9 : decode cX6_isNoSchool 9 = .ok (.if_icmp .lt 7, 3) := by decide +kernel
theorem dX6_isNoSchool_12 : decode cX6_isNoSchool 12 = .ok (.iconst 1, 1) := by decide +kernel
theorem dX6_isNoSchool_13 : decode cX6_isNoSchool 13 = .ok (.goto 4, 3) := by decide +kernel
theorem dX6_isNoSchool_17 : decode cX6_isNoSchool 17 = .ok (.ireturn, 1) := by decide +kernel
theorem dX7_append_0 : decode cX7_append 0 = .ok (.bipush 24, 2) := by decide +kernel
theorem dX7_append_2 : decode cX7_append 2 = .ok (.istore_n 2, 1) := by decide +kernel
theorem dX7_append_3 : decode cX7_append 3 = .ok (.iload_n 2, 1) := by decide +kernel
theorem dX7_append_4 : decode cX7_append 4 = .ok (.ifCond .lt 45, 3) := by decide +kernel
theorem dX7_append_7 : decode cX7_append 7 = .ok (.aload_n 0, 1) := by decide +kernel
theorem dX7_append_8 : decode cX7_append 8 = .ok (.getfield 31, 3) := by decide +kernel
theorem dX7_append_11 : decode cX7_append 11 = .ok (.sipush 400, 3) := by decide +kernel
theorem dX7_append_14 : decode cX7_append 14 = .ok (.if_icmp .ge 35, 3) := by decide +kernel
theorem dX7_append_17 : decode cX7_append 17 = .ok (.aload_n 0, 1) := by decide +kernel
theorem dX7_append_18 : decode cX7_append 18 = .ok (.getfield 9, 3) := by decide +kernel
theorem dX7_append_21 : decode cX7_append 21 = .ok (.aload_n 0, 1) := by decide +kernel
theorem dX7_append_22 : decode cX7_append 22 = .ok (.getfield 31, 3) := by decide +kernel
theorem dX7_append_25 : decode cX7_append 25 = .ok (.iload_n 1, 1) := by decide +kernel
theorem dX7_append_26 : decode cX7_append 26 = .ok (.iload_n 2, 1) := by decide +kernel
theorem dX7_append_27 : decode cX7_append 27 = .ok (.ishr, 1) := by decide +kernel
theorem dX7_append_28 : decode cX7_append 28 = .ok (.sipush 255, 3) := by decide +kernel
theorem dX7_append_31 : decode cX7_append 31 = .ok (.iand, 1) := by decide +kernel
theorem dX7_append_32 : decode cX7_append 32 = .ok (.iastore, 1) := by decide +kernel
theorem dX7_append_33 : decode cX7_append 33 = .ok (.aload_n 0, 1) := by decide +kernel
theorem dX7_append_34 : decode cX7_append 34 = .ok (.dup, 1) := by decide +kernel
theorem dX7_append_35 : decode cX7_append 35 = .ok (.getfield 31, 3) := by decide +kernel
theorem dX7_append_38 : decode cX7_append 38 = .ok (.iconst 1, 1) := by decide +kernel
theorem dX7_append_39 : decode cX7_append 39 = .ok (.iadd, 1) := by decide +kernel
theorem dX7_append_40 : decode cX7_append 40 = .ok (.putfield 31, 3) := by decide +kernel
theorem dX7_append_43 : decode cX7_append 43 = .ok (.iinc 2 (-8), 3) := by decide +kernel
theorem dX7_append_46 : decode cX7_append 46 = .ok (.goto (-43), 3) := by decide +kernel
theorem dX7_append_49 : decode cX7_append 49 = .ok (.return_, 1) := by decide +kernel
theorem dX7_init_0 : decode cX7_init 0 = .ok (.aload_n 0, 1) := by decide +kernel
theorem dX7_init_1 : decode cX7_init 1 = .ok (.invokespecial 3, 3) := by decide +kernel
theorem dX7_init_4 : decode cX7_init 4 = .ok (.aload_n 0, 1) := by decide +kernel
theorem dX7_init_5 : decode cX7_init 5 = .ok (.sipush 400, 3) := by decide +kernel
theorem dX7_init_8 : decode cX7_init 8 = .ok (.newarray .int, 2) := by decide +kernel
theorem dX7_init_10 : decode cX7_init 10 = .ok (.putfield 9, 3) := by decide +kernel
theorem dX7_init_13 : decode cX7_init 13 = .ok (.aload_n 0, 1) := by decide +kernel
theorem dX7_init_14 : decode cX7_init 14 = .ok (.iconst (-1), 1) := by decide +kernel
theorem dX7_init_15 : decode cX7_init 15 = .ok (.putfield 15, 3) := by decide +kernel
theorem dX7_init_18 : decode cX7_init 18 = .ok (.aload_n 0, 1) := by decide +kernel
theorem dX7_init_19 : decode cX7_init 19 = .ok (.bipush 12, 2) := by decide +kernel
theorem dX7_init_21 : decode cX7_init 21 = .ok (.newarray .int, 2) := by decide +kernel
theorem dX7_init_23 : decode cX7_init 23 = .ok (.putfield 19, 3) := by decide +kernel
theorem dX7_init_26 : decode cX7_init 26 = .ok (.aload_n 0, 1) := by decide +kernel
theorem dX7_init_27 : decode cX7_init 27 = .ok (.bipush 12, 2) := by decide +kernel
theorem dX7_init_29 : decode cX7_init 29 = .ok (.newarray .int, 2) := by decide +kernel
theorem dX7_init_31 : decode cX7_init 31 = .ok (.putfield 22, 3) := by decide +kernel
theorem dX7_init_34 : decode cX7_init 34 = .ok (.aload_n 0, 1) := by decide +kernel
theorem dX7_init_35 : decode cX7_init 35 = .ok (.bipush 25, 2) := by decide +kernel
theorem dX7_init_37 : decode cX7_init 37 = .ok (.newarray .int, 2) := by decide +kernel
theorem dX7_init_39 : decode cX7_init 39 = .ok (.putfield 25, 3) := by decide +kernel
theorem dX7_init_42 : decode cX7_init 42 = .ok (.aload_n 0, 1) := by decide +kernel
theorem dX7_init_43 : decode cX7_init 43 = .ok (.sipush 400, 3) := by decide +kernel
theorem dX7_init_46 : decode cX7_init 46 = .ok (.newarray .int, 2) := by decide +kernel
theorem dX7_init_48 : decode cX7_init 48 = .ok (.putfield 28, 3) := by decide +kernel
theorem dX7_init_51 : decode cX7_init 51 = .ok (.return_, 1) := by decide +kernel
theorem dX7_nextToken_0 : decode cX7_nextToken 0 = .ok (.aload_n 0, 1) := by decide +kernel
theorem dX7_nextToken_1 : decode cX7_nextToken 1 = .ok (.getfield 40, 3) := by decide +kernel
theorem dX7_nextToken_4 : decode cX7_nextToken 4 = .ok (.istore_n 1, 1) := by decide +kernel
theorem dX7_nextToken_5 : decode cX7_nextToken 5 = .ok (.iload_n 1, 1) := by decide +kernel
theorem dX7_nextToken_6 : decode cX7_nextToken 6 = .ok (.aload_n 0, 1) := by decide +kernel
theorem dX7_nextToken_7 : decode cX7_nextToken 7 = .ok (.getfield 31, 3) := by decide +kernel
theorem dX7_nextToken_10 : decode cX7_nextToken 10 = .ok (.if_icmp .ge 20, 3) := by decide +kernel
theorem dX7_nextToken_30 : decode cX7_nextToken 30 = .ok (.aload_n 0, 1) := by decide +kernel
theorem dX7_nextToken_31 : decode cX7_nextToken 31 = .ok (.iload_n 1, 1) := by decide +kernel
theorem dX7_nextToken_32 : decode cX7_nextToken 32 = .ok (.putfield 163, 3) := by decide +kernel
theorem dX7_nextToken_35 : decode cX7_nextToken 35 = .ok (.aload_n 0, 1) := by decide +kernel
theorem dX7_nextToken_36 : decode cX7_nextToken 36 = .ok (.lconst 0, 1) := by decide +kernel
theorem dX7_nextToken_37 : decode cX7_nextToken 37 = .ok (.putfield 52, 3) := by decide +kernel
theorem dX7_nextToken_40 : decode cX7_nextToken 40 = .ok (.aload_n 0, 1) := by decide +kernel
theorem dX7_nextToken_41 : decode cX7_nextToken 41 = .ok (.iconst 0, 1) := by decide +kernel
theorem dX7_nextToken_42 : decode cX7_nextToken 42 = .ok (.putfield 156, 3) := by decide +kernel
theorem dX7_nextToken_45 : decode cX7_nextToken 45 = .ok (.iload_n 1, 1) := by decide +kernel
theorem dX7_nextToken_46 : decode cX7_nextToken 46 = .ok (.aload_n 0, 1) := by decide +kernel
theorem dX7_nextToken_47 : decode cX7_nextToken 47 = .ok (.getfield 31, 3) := by decide +kernel
theorem dX7_nextToken_50 : decode cX7_nextToken 50 = .ok (.if_icmp .lt 11, 3) := by decide +kernel
theorem dX7_nextToken_53 : decode cX7_nextToken 53 = .ok (.aload_n 0, 1) := by decide +kernel
theorem dX7_nextToken_54 : decode cX7_nextToken 54 = .ok (.iconst 0, 1) := by decide +kernel
theorem dX7_nextToken_55 : decode cX7_nextToken 55 = .ok (.putfield 66, 3) := by decide +kernel
theorem dX7_nextToken_58 : decode cX7_nextToken 58 = .ok (.goto 208, 3) := by decide +kernel
theorem dX7_nextToken_266 : decode cX7_nextToken 266 = .ok (.aload_n 0, 1) := by decide +kernel
theorem dX7_nextToken_267 : decode cX7_nextToken 267 = .ok (.iload_n 1, 1) := by decide +kernel
theorem dX7_nextToken_268 : decode cX7_nextToken 268 = .ok (.putfield 40, 3) := by decide +kernel
theorem dX7_nextToken_271 : decode cX7_nextToken 271 = .ok (.return_, 1) := by decide +kernel
theorem dX7_readHead_0 : decode cX7_readHead 0 = .ok (.aload_n 0, 1) := by decide +kernel
theorem dX7_readHead_1 : decode cX7_readHead 1 = .ok (.getfield 52, 3) := by decide +kernel
theorem dX7_readHead_4 : decode cX7_readHead 4 = .ok (.ldc2_w 77, 3) := by decide +kernel
theorem dX7_readHead_7 : decode cX7_readHead 7 = .ok (.lcmp, 1) := by decide +kernel
theorem dX7_readHead_8 : decode cX7_readHead 8 = .ok (.ifCond .ne 26, 3) := by decide +kernel
theorem dX7_readHead_34 : decode cX7_readHead 34 = .ok (.aload_n 0, 1) := by decide +kernel
theorem dX7_readHead_35 : decode cX7_readHead 35 = .ok (.getfield 52, 3) := by decide +kernel
theorem dX7_readHead_38 : decode cX7_readHead 38 = .ok (.ldc2_w 90, 3) := by decide +kernel
theorem dX7_readHead_41 : decode cX7_readHead 41 = .ok (.lcmp, 1) := by decide +kernel
theorem dX7_readHead_42 : decode cX7_readHead 42 = .ok (.ifCond .ne 16, 3) := by decide +kernel
theorem dX7_readHead_58 : decode cX7_readHead 58 = .ok (.aload_n 0, 1) := by decide +kernel
theorem dX7_readHead_59 : decode cX7_readHead 59 = .ok (.getfield 52, 3) := by decide +kernel
theorem dX7_readHead_62 : decode cX7_readHead 62 = .ok (.ldc2_w 98, 3) := by decide +kernel
theorem dX7_readHead_65 : decode cX7_readHead 65 = .ok (.lcmp, 1) := by decide +kernel
theorem dX7_readHead_66 : decode cX7_readHead 66 = .ok (.ifCond .ne 16, 3) := by decide +kernel
theorem dX7_readHead_82 : decode cX7_readHead 82 = .ok (.aload_n 0, 1) := by decide +kernel
theorem dX7_readHead_83 : decode cX7_readHead 83 = .ok (.getfield 52, 3) := by decide +kernel
theorem dX7_readHead_86 : decode cX7_readHead 86 = .ok (.ldc2_w 102, 3) := by decide +kernel
theorem dX7_readHead_89 : decode cX7_readHead 89 = .ok (.lcmp, 1) := by decide +kernel
theorem dX7_readHead_90 : decode cX7_readHead 90 = .ok (.ifCond .ne 34, 3) := by decide +kernel
theorem dX7_readHead_124 : decode cX7_readHead 124 = .ok (.aload_n 0, 1) := by decide +kernel
theorem dX7_readHead_125 : decode cX7_readHead 125 = .ok (.getfield 52, 3) := by decide +kernel
theorem dX7_readHead_128 : decode cX7_readHead 128 = .ok (.ldc2_w 108, 3) := by decide +kernel
theorem dX7_readHead_131 : decode cX7_readHead 131 = .ok (.lcmp, 1) := by decide +kernel
theorem dX7_readHead_132 : decode cX7_readHead 132 = .ok (.ifCond .ne 18, 3) := by decide +kernel
theorem dX7_readHead_150 : decode cX7_readHead 150 = .ok (.aload_n 0, 1) := by decide +kernel
theorem dX7_readHead_151 : decode cX7_readHead 151 = .ok (.getfield 52, 3) := by decide +kernel
theorem dX7_readHead_154 : decode cX7_readHead 154 = .ok (.ldc2_w 110, 3) := by decide +kernel
theorem dX7_readHead_157 : decode cX7_readHead 157 = .ok (.lcmp, 1) := by decide +kernel
theorem dX7_readHead_158 : decode cX7_readHead 158 = .ok (.ifCond .ne 44, 3) := by decide +kernel
theorem dX7_readHead_202 : decode cX7_readHead 202 = .ok (.aload_n 0, 1) := by decide +kernel
theorem dX7_readHead_203 : decode cX7_readHead 203 = .ok (.invokevirtual 69, 3) := by decide +kernel
theorem dX7_readHead_206 : decode cX7_readHead 206 = .ok (.return_, 1) := by decide +kernel
theorem dX7_readText_0 : decode cX7_readText 0 = .ok (.aload_n 0, 1) := by decide +kernel
theorem dX7_readText_1 : decode cX7_readText 1 = .ok (.iconst (-1), 1) := by decide +kernel
theorem dX7_readText_2 : decode cX7_readText 2 = .ok (.putfield 15, 3) := by decide +kernel
theorem dX7_readText_5 : decode cX7_readText 5 = .ok (.aload_n 0, 1) := by decide +kernel
theorem dX7_readText_6 : decode cX7_readText 6 = .ok (.iconst 0, 1) := by decide +kernel
theorem dX7_readText_7 : decode cX7_readText 7 = .ok (.putfield 34, 3) := by decide +kernel
theorem dX7_readText_10 : decode cX7_readText 10 = .ok (.aload_n 0, 1) := by decide +kernel
theorem dX7_readText_11 : decode cX7_readText 11 = .ok (.iconst 0, 1) := by decide +kernel
theorem dX7_readText_12 : decode cX7_readText 12 = .ok (.putfield 37, 3) := by decide +kernel
theorem dX7_readText_15 : decode cX7_readText 15 = .ok (.aload_n 0, 1) := by decide +kernel
theorem dX7_readText_16 : decode cX7_readText 16 = .ok (.iconst 0, 1) := by decide +kernel
theorem dX7_readText_17 : decode cX7_readText 17 = .ok (.putfield 40, 3) := by decide +kernel
theorem dX7_readText_20 : decode cX7_readText 20 = .ok (.aload_n 0, 1) := by decide +kernel
theorem dX7_readText_21 : decode cX7_readText 21 = .ok (.invokevirtual 43, 3) := by decide +kernel
theorem dX7_readText_24 : decode cX7_readText 24 = .ok (.iconst 1, 1) := by decide +kernel
theorem dX7_readText_25 : decode cX7_readText 25 = .ok (.istore_n 1, 1) := by decide +kernel
theorem dX7_readText_26 : decode cX7_readText 26 = .ok (.iconst 0, 1) := by decide +kernel
theorem dX7_readText_27 : decode cX7_readText 27 = .ok (.istore_n 2, 1) := by decide +kernel
theorem dX7_readText_28 : decode cX7_readText 28 = .ok (.iload_n 2, 1) := by decide +kernel
theorem dX7_readText_29 : decode cX7_readText 29 = .ok (.bipush 12, 2) := by decide +kernel
theorem dX7_readText_31 : decode cX7_readText 31 = .ok (.if_icmp .ge 154, 3) := by decide +kernel
theorem dX7_readText_34 : decode cX7_readText 34 = .ok (.iload_n 1, 1) := by decide +kernel
theorem dX7_readText_35 : decode cX7_readText 35 = .ok (.ifCond .eq 150, 3) := by decide +kernel
theorem dX7_readText_38 : decode cX7_readText 38 = .ok (.aload_n 0, 1) := by decide +kernel
theorem dX7_readText_39 : decode cX7_readText 39 = .ok (.iload_n 2, 1) := by decide +kernel
theorem dX7_readText_40 : decode cX7_readText 40 = .ok (.putfield 46, 3) := by decide +kernel
theorem dX7_readText_43 : decode cX7_readText 43 = .ok (.aload_n 0, 1) := by decide +kernel
theorem dX7_readText_44 : decode cX7_readText 44 = .ok (.getfield 25, 3) := by decide +kernel
theorem dX7_readText_47 : decode cX7_readText 47 = .ok (.iconst 2, 1) := by decide +kernel
theorem dX7_readText_48 : decode cX7_readText 48 = .ok (.iload_n 2, 1) := by decide +kernel
theorem dX7_readText_49 : decode cX7_readText 49 = .ok (.imul, 1) := by decide +kernel
theorem dX7_readText_50 : decode cX7_readText 50 = .ok (.aload_n 0, 1) := by decide +kernel
theorem dX7_readText_51 : decode cX7_readText 51 = .ok (.getfield 34, 3) := by decide +kernel
theorem dX7_readText_54 : decode cX7_readText 54 = .ok (.iastore, 1) := by decide +kernel
theorem dX7_readText_55 : decode cX7_readText 55 = .ok (.aload_n 0, 1) := by decide +kernel
theorem dX7_readText_56 : decode cX7_readText 56 = .ok (.invokevirtual 49, 3) := by decide +kernel
theorem dX7_readText_59 : decode cX7_readText 59 = .ok (.aload_n 0, 1) := by decide +kernel
theorem dX7_readText_60 : decode cX7_readText 60 = .ok (.getfield 25, 3) := by decide +kernel
theorem dX7_readText_63 : decode cX7_readText 63 = .ok (.iconst 2, 1) := by decide +kernel
theorem dX7_readText_64 : decode cX7_readText 64 = .ok (.iload_n 2, 1) := by decide +kernel
theorem dX7_readText_65 : decode cX7_readText 65 = .ok (.imul, 1) := by decide +kernel
theorem dX7_readText_66 : decode cX7_readText 66 = .ok (.iconst 1, 1) := by decide +kernel
theorem dX7_readText_67 : decode cX7_readText 67 = .ok (.iadd, 1) := by decide +kernel
theorem dX7_readText_68 : decode cX7_readText 68 = .ok (.aload_n 0, 1) := by decide +kernel
theorem dX7_readText_69 : decode cX7_readText 69 = .ok (.getfield 34, 3) := by decide +kernel
theorem dX7_readText_72 : decode cX7_readText 72 = .ok (.iastore, 1) := by decide +kernel
theorem dX7_readText_73 : decode cX7_readText 73 = .ok (.aload_n 0, 1) := by decide +kernel
theorem dX7_readText_74 : decode cX7_readText 74 = .ok (.getfield 15, 3) := by decide +kernel
theorem dX7_readText_77 : decode cX7_readText 77 = .ok (.iconst (-1), 1) := by decide +kernel
theorem dX7_readText_78 : decode cX7_readText 78 = .ok (.if_icmp .ne 35, 3) := by decide +kernel
theorem dX7_readText_113 : decode cX7_readText 113 = .ok (.aload_n 0, 1) := by decide +kernel
theorem dX7_readText_114 : decode cX7_readText 114 = .ok (.getfield 25, 3) := by decide +kernel
theorem dX7_readText_117 : decode cX7_readText 117 = .ok (.iconst 2, 1) := by decide +kernel
theorem dX7_readText_118 : decode cX7_readText 118 = .ok (.iload_n 2, 1) := by decide +kernel
theorem dX7_readText_119 : decode cX7_readText 119 = .ok (.imul, 1) := by decide +kernel
theorem dX7_readText_120 : decode cX7_readText 120 = .ok (.iconst 2, 1) := by decide +kernel
theorem dX7_readText_121 : decode cX7_readText 121 = .ok (.iadd, 1) := by decide +kernel
theorem dX7_readText_122 : decode cX7_readText 122 = .ok (.aload_n 0, 1) := by decide +kernel
theorem dX7_readText_123 : decode cX7_readText 123 = .ok (.getfield 34, 3) := by decide +kernel
theorem dX7_readText_126 : decode cX7_readText 126 = .ok (.iastore, 1) := by decide +kernel
theorem dX7_readText_127 : decode cX7_readText 127 = .ok (.aload_n 0, 1) := by decide +kernel
theorem dX7_readText_128 : decode cX7_readText 128 = .ok (.iload_n 2, 1) := by decide +kernel
theorem dX7_readText_129 : decode cX7_readText 129 = .ok (.iconst 1, 1) := by decide +kernel
theorem dX7_readText_130 : decode cX7_readText 130 = .ok (.iadd, 1) := by decide +kernel
theorem dX7_readText_131 : decode cX7_readText 131 = .ok (.putfield 46, 3) := by decide +kernel
theorem dX7_readText_134 : decode cX7_readText 134 = .ok (.aload_n 0, 1) := by decide +kernel
theorem dX7_readText_135 : decode cX7_readText 135 = .ok (.getfield 15, 3) := by decide +kernel
theorem dX7_readText_138 : decode cX7_readText 138 = .ok (.iconst (-1), 1) := by decide +kernel
theorem dX7_readText_139 : decode cX7_readText 139 = .ok (.if_icmp .ne 16, 3) := by decide +kernel
theorem dX7_readText_155 : decode cX7_readText 155 = .ok (.iconst 0, 1) := by decide +kernel
theorem dX7_readText_156 : decode cX7_readText 156 = .ok (.istore_n 1, 1) := by decide +kernel
theorem dX7_readText_157 : decode cX7_readText 157 = .ok (.iload_n 1, 1) := by decide +kernel
theorem dX7_readText_158 : decode cX7_readText 158 = .ok (.ifCond .eq 10, 3) := by decide +kernel
theorem dX7_readText_168 : decode cX7_readText 168 = .ok (.aload_n 0, 1) := by decide +kernel
theorem dX7_readText_169 : decode cX7_readText 169 = .ok (.getfield 66, 3) := by decide +kernel
theorem dX7_readText_172 : decode cX7_readText 172 = .ok (.ifCond .eq 7, 3) := by decide +kernel
theorem dX7_readText_179 : decode cX7_readText 179 = .ok (.iinc 2 1, 3) := by decide +kernel
theorem dX7_readText_182 : decode cX7_readText 182 = .ok (.goto (-154), 3) := by decide +kernel
theorem dX7_readText_185 : decode cX7_readText 185 = .ok (.iload_n 1, 1) := by decide +kernel
theorem dX7_readText_186 : decode cX7_readText 186 = .ok (.ifCond .eq 7, 3) := by decide +kernel
theorem dX7_readText_193 : decode cX7_readText 193 = .ok (.aload_n 0, 1) := by decide +kernel
theorem dX7_readText_194 : decode cX7_readText 194 = .ok (.iconst 0, 1) := by decide +kernel
theorem dX7_readText_195 : decode cX7_readText 195 = .ok (.putfield 31, 3) := by decide +kernel
theorem dX7_readText_198 : decode cX7_readText 198 = .ok (.aload_n 0, 1) := by decide +kernel
theorem dX7_readText_199 : decode cX7_readText 199 = .ok (.getfield 15, 3) := by decide +kernel
theorem dX7_readText_202 : decode cX7_readText 202 = .ok (.iconst (-1), 1) := by decide +kernel
theorem dX7_readText_203 : decode cX7_readText 203 = .ok (.if_icmp .ne 14, 3) := by decide +kernel
theorem dX7_readText_217 : decode cX7_readText 217 = .ok (.aconst_null, 1) := by decide +kernel
theorem dX7_readText_218 : decode cX7_readText 218 = .ok (.areturn, 1) := by decide +kernel
theorem dX7_refuseToken_0 : decode cX7_refuseToken 0 = .ok (.aload_n 0, 1) := by decide +kernel
theorem dX7_refuseToken_1 : decode cX7_refuseToken 1 = .ok (.getfield 15, 3) := by decide +kernel
theorem dX7_refuseToken_4 : decode cX7_refuseToken 4 = .ok (.iconst (-1), 1) := by decide +kernel
theorem dX7_refuseToken_5 : decode cX7_refuseToken 5 = .ok (.if_icmp .ne 11, 3) := by decide +kernel
theorem dX7_refuseToken_8 : decode cX7_refuseToken 8 = .ok (.aload_n 0, 1) := by decide +kernel
theorem dX7_refuseToken_9 : decode cX7_refuseToken 9 = .ok (.aload_n 0, 1) := by decide +kernel
theorem dX7_refuseToken_10 : decode cX7_refuseToken 10 = .ok (.getfield 163, 3) := by decide +kernel
theorem dX7_refuseToken_13 : decode cX7_refuseToken 13 = .ok (.putfield 15, 3) := by decide +kernel
theorem dX7_refuseToken_16 : decode cX7_refuseToken 16 = .ok (.return_, 1) := by decide +kernel
theorem dX8_becomeLike_0 : decode cX8_becomeLike 0 = .ok (.aload_n 0, 1) := by decide +kernel
theorem dX8_becomeLike_1 : decode cX8_becomeLike 1 = .ok (.aload_n 1, 1) := by decide +kernel
theorem dX8_becomeLike_2 : decode cX8_becomeLike 2 = .ok (.getfield 27, 3) := by decide +kernel
theorem dX8_becomeLike_5 : decode cX8_becomeLike 5 = .ok (.putfield 27, 3) := by decide +kernel
theorem dX8_becomeLike_8 : decode cX8_becomeLike 8 = .ok (.aload_n 1, 1) := by decide +kernel
theorem dX8_becomeLike_9 : decode cX8_becomeLike 9 = .ok (.getfield 9, 3) := by decide +kernel
theorem dX8_becomeLike_12 : decode cX8_becomeLike 12 = .ok (.aload_n 0, 1) := by decide +kernel
theorem dX8_becomeLike_13 : decode cX8_becomeLike 13 = .ok (.getfield 9, 3) := by decide +kernel
theorem dX8_becomeLike_16 : decode cX8_becomeLike 16 = .ok (.invokestatic 44, 3) := by decide +kernel
theorem dX8_becomeLike_19 : decode cX8_becomeLike 19 = .ok (.aload_n 1, 1) := by decide +kernel
theorem dX8_becomeLike_20 : decode cX8_becomeLike 20 = .ok (.getfield 15, 3) := by decide +kernel
theorem dX8_becomeLike_23 : decode cX8_becomeLike 23 = .ok (.aload_n 0, 1) := by decide +kernel
theorem dX8_becomeLike_24 : decode cX8_becomeLike 24 = .ok (.getfield 15, 3) := by decide +kernel
theorem dX8_becomeLike_27 : decode cX8_becomeLike 27 = .ok (.invokestatic 44, 3) := by decide +kernel
theorem dX8_becomeLike_30 : decode cX8_becomeLike 30 = .ok (.aload_n 1, 1) := by decide +kernel
theorem dX8_becomeLike_31 : decode cX8_becomeLike 31 = .ok (.getfield 18, 3) := by decide +kernel
theorem dX8_becomeLike_34 : decode cX8_becomeLike 34 = .ok (.aload_n 0, 1) := by decide +kernel
theorem dX8_becomeLike_35 : decode cX8_becomeLike 35 = .ok (.getfield 18, 3) := by decide +kernel
theorem dX8_becomeLike_38 : decode cX8_becomeLike 38 = .ok (.invokestatic 44, 3) := by decide +kernel
theorem dX8_becomeLike_41 : decode cX8_becomeLike 41 = .ok (.aload_n 1, 1) := by decide +kernel
theorem dX8_becomeLike_42 : decode cX8_becomeLike 42 = .ok (.getfield 21, 3) := by decide +kernel
theorem dX8_becomeLike_45 : decode cX8_becomeLike 45 = .ok (.aload_n 0, 1) := by decide +kernel
theorem dX8_becomeLike_46 : decode cX8_becomeLike 46 = .ok (.getfield 21, 3) := by decide +kernel
theorem dX8_becomeLike_49 : decode cX8_becomeLike 49 = .ok (.invokestatic 44, 3) := by decide +kernel
theorem dX8_becomeLike_52 : decode cX8_becomeLike 52 = .ok (.aload_n 1, 1) := by decide +kernel
theorem dX8_becomeLike_53 : decode cX8_becomeLike 53 = .ok (.getfield 24, 3) := by decide +kernel
theorem dX8_becomeLike_56 : decode cX8_becomeLike 56 = .ok (.aload_n 0, 1) := by decide +kernel
theorem dX8_becomeLike_57 : decode cX8_becomeLike 57 = .ok (.getfield 24, 3) := by decide +kernel
theorem dX8_becomeLike_60 : decode cX8_becomeLike 60 = .ok (.invokestatic 44, 3) := by decide +kernel
theorem dX8_becomeLike_63 : decode cX8_becomeLike 63 = .ok (.return_, 1) := by decide +kernel
theorem dX8_init_0 : decode cX8_init 0 = .ok (.aload_n 0, 1) := by decide +kernel
theorem dX8_init_1 : decode cX8_init 1 = .ok (.invokespecial 3, 3) := by decide +kernel
theorem dX8_init_4 : decode cX8_init 4 = .ok (.aload_n 0, 1) := by decide +kernel
theorem dX8_init_5 : decode cX8_init 5 = .ok (.bipush 120, 2) := by decide +kernel
theorem dX8_init_7 : decode cX8_init 7 = .ok (.newarray .int, 2) := by decide +kernel
theorem dX8_init_9 : decode cX8_init 9 = .ok (.putfield 9, 3) := by decide +kernel
theorem dX8_init_12 : decode cX8_init 12 = .ok (.aload_n 0, 1) := by decide +kernel
theorem dX8_init_13 : decode cX8_init 13 = .ok (.bipush 120, 2) := by decide +kernel
theorem dX8_init_15 : decode cX8_init 15 = .ok (.newarray .int, 2) := by decide +kernel
theorem dX8_init_17 : decode cX8_init 17 = .ok (.putfield 15, 3) := by decide +kernel
theorem dX8_init_20 : decode cX8_init 20 = .ok (.aload_n 0, 1) := by decide +kernel
theorem dX8_init_21 : decode cX8_init 21 = .ok (.bipush 120, 2) := by decide +kernel
theorem dX8_init_23 : decode cX8_init 23 = .ok (.newarray .int, 2) := by decide +kernel
theorem dX8_init_25 : decode cX8_init 25 = .ok (.putfield 18, 3) := by decide +kernel
theorem dX8_init_28 : decode cX8_init 28 = .ok (.aload_n 0, 1) := by decide +kernel
theorem dX8_init_29 : decode cX8_init 29 = .ok (.bipush 120, 2) := by decide +kernel
theorem dX8_init_31 : decode cX8_init 31 = .ok (.newarray .int, 2) := by decide +kernel
theorem dX8_init_33 : decode cX8_init 33 = .ok (.putfield 21, 3) := by decide +kernel
theorem dX8_init_36 : decode cX8_init 36 = .ok (.aload_n 0, 1) := by decide +kernel
theorem dX8_init_37 : decode cX8_init 37 = .ok (.bipush 120, 2) := by decide +kernel
theorem dX8_init_39 : decode cX8_init 39 = .ok (.newarray .int, 2) := by decide +kernel
theorem dX8_init_41 : decode cX8_init 41 = .ok (.putfield 24, 3) := by decide +kernel
theorem dX8_init_44 : decode cX8_init 44 = .ok (.return_, 1) := by decide +kernel
theorem dX9_becomeLike_0 : decode cX9_becomeLike 0 = .ok (.aload_n 1, 1) := by decide +kernel
theorem dX9_becomeLike_1 : decode cX9_becomeLike 1 = .ok (.getfield 9, 3) := by decide +kernel
theorem dX9_becomeLike_4 : decode cX9_becomeLike 4 = .ok (.aload_n 0, 1) := by decide +kernel
theorem dX9_becomeLike_5 : decode cX9_becomeLike 5 = .ok (.getfield 9, 3) := by decide +kernel
theorem dX9_becomeLike_8 : decode cX9_becomeLike 8 = .ok (.invokestatic 27, 3) := by decide +kernel
theorem dX9_becomeLike_11 : decode cX9_becomeLike 11 = .ok (.aload_n 1, 1) := by decide +kernel
theorem dX9_becomeLike_12 : decode cX9_becomeLike 12 = .ok (.getfield 15, 3) := by decide +kernel
theorem dX9_becomeLike_15 : decode cX9_becomeLike 15 = .ok (.aload_n 0, 1) := by decide +kernel
theorem dX9_becomeLike_16 : decode cX9_becomeLike 16 = .ok (.getfield 15, 3) := by decide +kernel
theorem dX9_becomeLike_19 : decode cX9_becomeLike 19 = .ok (.invokestatic 27, 3) := by decide +kernel
theorem dX9_becomeLike_22 : decode cX9_becomeLike 22 = .ok (.aload_n 1, 1) := by decide +kernel
theorem dX9_becomeLike_23 : decode cX9_becomeLike 23 = .ok (.getfield 18, 3) := by decide +kernel
theorem dX9_becomeLike_26 : decode cX9_becomeLike 26 = .ok (.aload_n 0, 1) := by decide +kernel
theorem dX9_becomeLike_27 : decode cX9_becomeLike 27 = .ok (.getfield 18, 3) := by decide +kernel
theorem dX9_becomeLike_30 : decode cX9_becomeLike 30 = .ok (.invokestatic 27, 3) := by decide +kernel
theorem dX9_becomeLike_33 : decode cX9_becomeLike 33 = .ok (.return_, 1) := by decide +kernel
theorem dX9_init_0 : decode cX9_init 0 = .ok (.aload_n 0, 1) := by decide +kernel
theorem dX9_init_1 : decode cX9_init 1 = .ok (.invokespecial 3, 3) := by decide +kernel
theorem dX9_init_4 : decode cX9_init 4 = .ok (.aload_n 0, 1) := by decide +kernel
theorem dX9_init_5 : decode cX9_init 5 = .ok (.sipush 160, 3) := by decide +kernel
theorem dX9_init_8 : decode cX9_init 8 = .ok (.newarray .int, 2) := by decide +kernel
theorem dX9_init_10 : decode cX9_init 10 = .ok (.putfield 9, 3) := by decide +kernel
theorem dX9_init_13 : decode cX9_init 13 = .ok (.aload_n 0, 1) := by decide +kernel
theorem dX9_init_14 : decode cX9_init 14 = .ok (.sipush 160, 3) := by decide +kernel
theorem dX9_init_17 : decode cX9_init 17 = .ok (.newarray .int, 2) := by decide +kernel
theorem dX9_init_19 : decode cX9_init 19 = .ok (.putfield 15, 3) := by decide +kernel
theorem dX9_init_22 : decode cX9_init 22 = .ok (.aload_n 0, 1) := by decide +kernel
theorem dX9_init_23 : decode cX9_init 23 = .ok (.sipush 160, 3) := by decide +kernel
theorem dX9_init_26 : decode cX9_init 26 = .ok (.newarray .int, 2) := by decide +kernel
theorem dX9_init_28 : decode cX9_init 28 = .ok (.putfield 18, 3) := by decide +kernel
theorem dX9_init_31 : decode cX9_init 31 = .ok (.aload_n 0, 1) := by decide +kernel
theorem dX9_init_32 : decode cX9_init 32 = .ok (.getfield 9, 3) := by decide +kernel
theorem dX9_init_35 : decode cX9_init 35 = .ok (.iconst (-1), 1) := by decide +kernel
theorem dX9_init_36 : decode cX9_init 36 = .ok (.invokestatic 21, 3) := by decide +kernel
theorem dX9_init_39 : decode cX9_init 39 = .ok (.aload_n 0, 1) := by decide +kernel
theorem dX9_init_40 : decode cX9_init 40 = .ok (.getfield 15, 3) := by decide +kernel
theorem dX9_init_43 : decode cX9_init 43 = .ok (.iconst (-1), 1) := by decide +kernel
theorem dX9_init_44 : decode cX9_init 44 = .ok (.invokestatic 21, 3) := by decide +kernel
theorem dX9_init_47 : decode cX9_init 47 = .ok (.return_, 1) := by decide +kernel

