theorem d_Lan_init_0 : decode prog_5_method_1_code 0 = .ok (.aload_n 0, 1) := by decide +kernel
theorem d_Lan_init_1 : decode prog_5_method_1_code 1 = .ok (.invokespecial 5, 3) := by decide +kernel
theorem d_Lan_init_4 : decode prog_5_method_1_code 4 = .ok (.aload_n 0, 1) := by decide +kernel
theorem d_Lan_init_5 : decode prog_5_method_1_code 5 = .ok (.bipush (71), 2) := by decide +kernel
theorem d_Lan_init_7 : decode prog_5_method_1_code 7 = .ok (.newarray .int, 2) := by decide +kernel
theorem d_Lan_init_9 : decode prog_5_method_1_code 9 = .ok (.putfield 11, 3) := by decide +kernel
theorem d_Lan_init_12 : decode prog_5_method_1_code 12 = .ok (.aload_n 0, 1) := by decide +kernel
theorem d_Lan_init_13 : decode prog_5_method_1_code 13 = .ok (.new 3, 3) := by decide +kernel
theorem d_Lan_init_16 : decode prog_5_method_1_code 16 = .ok (.dup, 1) := by decide +kernel
theorem d_Lan_init_17 : decode prog_5_method_1_code 17 = .ok (.invokespecial 15, 3) := by decide +kernel
theorem d_Lan_init_20 : decode prog_5_method_1_code 20 = .ok (.putfield 16, 3) := by decide +kernel
theorem d_Lan_init_23 : decode prog_5_method_1_code 23 = .ok (.aload_n 0, 1) := by decide +kernel
theorem d_Lan_init_24 : decode prog_5_method_1_code 24 = .ok (.iconst 0, 1) := by decide +kernel
theorem d_Lan_init_25 : decode prog_5_method_1_code 25 = .ok (.putfield 20, 3) := by decide +kernel
theorem d_Lan_init_28 : decode prog_5_method_1_code 28 = .ok (.return_, 1) := by decide +kernel
theorem d_Lan_put_0 : decode prog_5_method_2_code 0 = .ok (.aload_n 0, 1) := by decide +kernel
theorem d_Lan_put_1 : decode prog_5_method_2_code 1 = .ok (.getfield 20, 3) := by decide +kernel
theorem d_Lan_put_4 : decode prog_5_method_2_code 4 = .ok (.bipush (71), 2) := by decide +kernel
theorem d_Lan_put_6 : decode prog_5_method_2_code 6 = .ok (.if_icmp .ge (23), 3) := by decide +kernel
theorem d_Lan_put_9 : decode prog_5_method_2_code 9 = .ok (.aload_n 0, 1) := by decide +kernel
theorem d_Lan_put_10 : decode prog_5_method_2_code 10 = .ok (.getfield 11, 3) := by decide +kernel
theorem d_Lan_put_13 : decode prog_5_method_2_code 13 = .ok (.aload_n 0, 1) := by decide +kernel
theorem d_Lan_put_14 : decode prog_5_method_2_code 14 = .ok (.getfield 20, 3) := by decide +kernel
theorem d_Lan_put_17 : decode prog_5_method_2_code 17 = .ok (.iload_n 1, 1) := by decide +kernel
theorem d_Lan_put_18 : decode prog_5_method_2_code 18 = .ok (.iastore, 1) := by decide +kernel
theorem d_Lan_put_19 : decode prog_5_method_2_code 19 = .ok (.aload_n 0, 1) := by decide +kernel
theorem d_Lan_put_20 : decode prog_5_method_2_code 20 = .ok (.dup, 1) := by decide +kernel
theorem d_Lan_put_21 : decode prog_5_method_2_code 21 = .ok (.getfield 20, 3) := by decide +kernel
theorem d_Lan_put_24 : decode prog_5_method_2_code 24 = .ok (.iconst 1, 1) := by decide +kernel
theorem d_Lan_put_25 : decode prog_5_method_2_code 25 = .ok (.iadd, 1) := by decide +kernel
theorem d_Lan_put_26 : decode prog_5_method_2_code 26 = .ok (.putfield 20, 3) := by decide +kernel
theorem d_Lan_put_29 : decode prog_5_method_2_code 29 = .ok (.return_, 1) := by decide +kernel
theorem d_Lan_forgetAll_0 : decode prog_5_method_3_code 0 = .ok (.aload_n 0, 1) := by decide +kernel
theorem d_Lan_forgetAll_1 : decode prog_5_method_3_code 1 = .ok (.iconst 0, 1) := by decide +kernel
theorem d_Lan_forgetAll_2 : decode prog_5_method_3_code 2 = .ok (.putfield 20, 3) := by decide +kernel
theorem d_Lan_forgetAll_5 : decode prog_5_method_3_code 5 = .ok (.return_, 1) := by decide +kernel
theorem d_Lan_giveUp_0 : decode prog_5_method_4_code 0 = .ok (.iload_n 1, 1) := by decide +kernel
theorem d_Lan_giveUp_1 : decode prog_5_method_4_code 1 = .ok (.aload_n 0, 1) := by decide +kernel
theorem d_Lan_giveUp_2 : decode prog_5_method_4_code 2 = .ok (.getfield 20, 3) := by decide +kernel
theorem d_Lan_giveUp_5 : decode prog_5_method_4_code 5 = .ok (.invokestatic 24, 3) := by decide +kernel
theorem d_Lan_giveUp_8 : decode prog_5_method_4_code 8 = .ok (.istore_n 2, 1) := by decide +kernel
theorem d_Lan_giveUp_9 : decode prog_5_method_4_code 9 = .ok (.aload_n 0, 1) := by decide +kernel
theorem d_Lan_giveUp_10 : decode prog_5_method_4_code 10 = .ok (.getfield 11, 3) := by decide +kernel
theorem d_Lan_giveUp_13 : decode prog_5_method_4_code 13 = .ok (.iload_n 2, 1) := by decide +kernel
theorem d_Lan_giveUp_14 : decode prog_5_method_4_code 14 = .ok (.aload_n 0, 1) := by decide +kernel
theorem d_Lan_giveUp_15 : decode prog_5_method_4_code 15 = .ok (.getfield 11, 3) := by decide +kernel
theorem d_Lan_giveUp_18 : decode prog_5_method_4_code 18 = .ok (.iconst 0, 1) := by decide +kernel
theorem d_Lan_giveUp_19 : decode prog_5_method_4_code 19 = .ok (.aload_n 0, 1) := by decide +kernel
theorem d_Lan_giveUp_20 : decode prog_5_method_4_code 20 = .ok (.getfield 20, 3) := by decide +kernel
theorem d_Lan_giveUp_23 : decode prog_5_method_4_code 23 = .ok (.iload_n 2, 1) := by decide +kernel
theorem d_Lan_giveUp_24 : decode prog_5_method_4_code 24 = .ok (.isub, 1) := by decide +kernel
theorem d_Lan_giveUp_25 : decode prog_5_method_4_code 25 = .ok (.invokestatic 30, 3) := by decide +kernel
theorem d_Lan_giveUp_28 : decode prog_5_method_4_code 28 = .ok (.aload_n 0, 1) := by decide +kernel
theorem d_Lan_giveUp_29 : decode prog_5_method_4_code 29 = .ok (.dup, 1) := by decide +kernel
theorem d_Lan_giveUp_30 : decode prog_5_method_4_code 30 = .ok (.getfield 20, 3) := by decide +kernel
theorem d_Lan_giveUp_33 : decode prog_5_method_4_code 33 = .ok (.iload_n 2, 1) := by decide +kernel
theorem d_Lan_giveUp_34 : decode prog_5_method_4_code 34 = .ok (.isub, 1) := by decide +kernel
theorem d_Lan_giveUp_35 : decode prog_5_method_4_code 35 = .ok (.putfield 20, 3) := by decide +kernel
theorem d_Lan_giveUp_38 : decode prog_5_method_4_code 38 = .ok (.return_, 1) := by decide +kernel
theorem d_Lan_look_0 : decode prog_5_method_5_code 0 = .ok (.iconst 0, 1) := by decide +kernel
theorem d_Lan_look_1 : decode prog_5_method_5_code 1 = .ok (.istore_n 1, 1) := by decide +kernel
theorem d_Lan_look_2 : decode prog_5_method_5_code 2 = .ok (.iload_n 1, 1) := by decide +kernel
theorem d_Lan_look_3 : decode prog_5_method_5_code 3 = .ok (.iconst 3, 1) := by decide +kernel
theorem d_Lan_look_4 : decode prog_5_method_5_code 4 = .ok (.if_icmp .ge (35), 3) := by decide +kernel
theorem d_Lan_look_7 : decode prog_5_method_5_code 7 = .ok (.aload_n 0, 1) := by decide +kernel
theorem d_Lan_look_8 : decode prog_5_method_5_code 8 = .ok (.getfield 20, 3) := by decide +kernel
theorem d_Lan_look_11 : decode prog_5_method_5_code 11 = .ok (.iload_n 1, 1) := by decide +kernel
theorem d_Lan_look_12 : decode prog_5_method_5_code 12 = .ok (.if_icmp .gt (5), 3) := by decide +kernel
theorem d_Lan_look_15 : decode prog_5_method_5_code 15 = .ok (.iconst 0, 1) := by decide +kernel
theorem d_Lan_look_16 : decode prog_5_method_5_code 16 = .ok (.ireturn, 1) := by decide +kernel
theorem d_Lan_look_17 : decode prog_5_method_5_code 17 = .ok (.aload_n 0, 1) := by decide +kernel
theorem d_Lan_look_18 : decode prog_5_method_5_code 18 = .ok (.getfield 11, 3) := by decide +kernel
theorem d_Lan_look_21 : decode prog_5_method_5_code 21 = .ok (.iload_n 1, 1) := by decide +kernel
theorem d_Lan_look_22 : decode prog_5_method_5_code 22 = .ok (.iaload, 1) := by decide +kernel
theorem d_Lan_look_23 : decode prog_5_method_5_code 23 = .ok (.getstatic 36, 3) := by decide +kernel
theorem d_Lan_look_26 : decode prog_5_method_5_code 26 = .ok (.iload_n 1, 1) := by decide +kernel
theorem d_Lan_look_27 : decode prog_5_method_5_code 27 = .ok (.iaload, 1) := by decide +kernel
theorem d_Lan_look_28 : decode prog_5_method_5_code 28 = .ok (.if_icmp .eq (5), 3) := by decide +kernel
theorem d_Lan_look_31 : decode prog_5_method_5_code 31 = .ok (.iconst (-1), 1) := by decide +kernel
theorem d_Lan_look_32 : decode prog_5_method_5_code 32 = .ok (.ireturn, 1) := by decide +kernel
theorem d_Lan_look_33 : decode prog_5_method_5_code 33 = .ok (.iinc 1 (1), 3) := by decide +kernel
theorem d_Lan_look_36 : decode prog_5_method_5_code 36 = .ok (.goto (-34), 3) := by decide +kernel
theorem d_Lan_look_39 : decode prog_5_method_5_code 39 = .ok (.aload_n 0, 1) := by decide +kernel
theorem d_Lan_look_40 : decode prog_5_method_5_code 40 = .ok (.getfield 20, 3) := by decide +kernel
theorem d_Lan_look_43 : decode prog_5_method_5_code 43 = .ok (.iconst 3, 1) := by decide +kernel
theorem d_Lan_look_44 : decode prog_5_method_5_code 44 = .ok (.if_icmp .gt (5), 3) := by decide +kernel
theorem d_Lan_look_47 : decode prog_5_method_5_code 47 = .ok (.iconst 0, 1) := by decide +kernel
theorem d_Lan_look_48 : decode prog_5_method_5_code 48 = .ok (.ireturn, 1) := by decide +kernel
theorem d_Lan_look_49 : decode prog_5_method_5_code 49 = .ok (.aload_n 0, 1) := by decide +kernel
theorem d_Lan_look_50 : decode prog_5_method_5_code 50 = .ok (.getfield 11, 3) := by decide +kernel
theorem d_Lan_look_53 : decode prog_5_method_5_code 53 = .ok (.iconst 3, 1) := by decide +kernel
theorem d_Lan_look_54 : decode prog_5_method_5_code 54 = .ok (.iaload, 1) := by decide +kernel
theorem d_Lan_look_55 : decode prog_5_method_5_code 55 = .ok (.bipush (6), 2) := by decide +kernel
theorem d_Lan_look_57 : decode prog_5_method_5_code 57 = .ok (.ishr, 1) := by decide +kernel
theorem d_Lan_look_58 : decode prog_5_method_5_code 58 = .ok (.iconst 2, 1) := by decide +kernel
theorem d_Lan_look_59 : decode prog_5_method_5_code 59 = .ok (.if_icmp .eq (5), 3) := by decide +kernel
theorem d_Lan_look_62 : decode prog_5_method_5_code 62 = .ok (.iconst (-1), 1) := by decide +kernel
theorem d_Lan_look_63 : decode prog_5_method_5_code 63 = .ok (.ireturn, 1) := by decide +kernel
theorem d_Lan_look_64 : decode prog_5_method_5_code 64 = .ok (.aload_n 0, 1) := by decide +kernel
theorem d_Lan_look_65 : decode prog_5_method_5_code 65 = .ok (.getfield 20, 3) := by decide +kernel
theorem d_Lan_look_68 : decode prog_5_method_5_code 68 = .ok (.bipush (6), 2) := by decide +kernel
theorem d_Lan_look_70 : decode prog_5_method_5_code 70 = .ok (.if_icmp .gt (5), 3) := by decide +kernel
theorem d_Lan_look_73 : decode prog_5_method_5_code 73 = .ok (.iconst 0, 1) := by decide +kernel
theorem d_Lan_look_74 : decode prog_5_method_5_code 74 = .ok (.ireturn, 1) := by decide +kernel
theorem d_Lan_look_75 : decode prog_5_method_5_code 75 = .ok (.aload_n 0, 1) := by decide +kernel
theorem d_Lan_look_76 : decode prog_5_method_5_code 76 = .ok (.invokevirtual 39, 3) := by decide +kernel
theorem d_Lan_look_79 : decode prog_5_method_5_code 79 = .ok (.istore_n 1, 1) := by decide +kernel
theorem d_Lan_look_80 : decode prog_5_method_5_code 80 = .ok (.iload_n 1, 1) := by decide +kernel
theorem d_Lan_look_81 : decode prog_5_method_5_code 81 = .ok (.iconst 5, 1) := by decide +kernel
theorem d_Lan_look_82 : decode prog_5_method_5_code 82 = .ok (.if_icmp .lt (9), 3) := by decide +kernel
theorem d_Lan_look_85 : decode prog_5_method_5_code 85 = .ok (.iload_n 1, 1) := by decide +kernel
theorem d_Lan_look_86 : decode prog_5_method_5_code 86 = .ok (.bipush (64), 2) := by decide +kernel
theorem d_Lan_look_88 : decode prog_5_method_5_code 88 = .ok (.if_icmp .le (5), 3) := by decide +kernel
theorem d_Lan_look_91 : decode prog_5_method_5_code 91 = .ok (.iconst (-1), 1) := by decide +kernel
theorem d_Lan_look_92 : decode prog_5_method_5_code 92 = .ok (.ireturn, 1) := by decide +kernel
theorem d_Lan_look_93 : decode prog_5_method_5_code 93 = .ok (.aload_n 0, 1) := by decide +kernel
theorem d_Lan_look_94 : decode prog_5_method_5_code 94 = .ok (.getfield 20, 3) := by decide +kernel
theorem d_Lan_look_97 : decode prog_5_method_5_code 97 = .ok (.iconst 3, 1) := by decide +kernel
theorem d_Lan_look_98 : decode prog_5_method_5_code 98 = .ok (.iload_n 1, 1) := by decide +kernel
theorem d_Lan_look_99 : decode prog_5_method_5_code 99 = .ok (.iadd, 1) := by decide +kernel
theorem d_Lan_look_100 : decode prog_5_method_5_code 100 = .ok (.iconst 4, 1) := by decide +kernel
theorem d_Lan_look_101 : decode prog_5_method_5_code 101 = .ok (.iadd, 1) := by decide +kernel
theorem d_Lan_look_102 : decode prog_5_method_5_code 102 = .ok (.if_icmp .ge (5), 3) := by decide +kernel
theorem d_Lan_look_105 : decode prog_5_method_5_code 105 = .ok (.iconst 0, 1) := by decide +kernel
theorem d_Lan_look_106 : decode prog_5_method_5_code 106 = .ok (.ireturn, 1) := by decide +kernel
theorem d_Lan_look_107 : decode prog_5_method_5_code 107 = .ok (.aload_n 0, 1) := by decide +kernel
theorem d_Lan_look_108 : decode prog_5_method_5_code 108 = .ok (.iload_n 1, 1) := by decide +kernel
theorem d_Lan_look_109 : decode prog_5_method_5_code 109 = .ok (.invokevirtual 43, 3) := by decide +kernel
theorem d_Lan_look_112 : decode prog_5_method_5_code 112 = .ok (.ifCond .eq (7), 3) := by decide +kernel
theorem d_Lan_look_115 : decode prog_5_method_5_code 115 = .ok (.iload_n 1, 1) := by decide +kernel
theorem d_Lan_look_116 : decode prog_5_method_5_code 116 = .ok (.goto (4), 3) := by decide +kernel
theorem d_Lan_look_119 : decode prog_5_method_5_code 119 = .ok (.iconst (-1), 1) := by decide +kernel
theorem d_Lan_look_120 : decode prog_5_method_5_code 120 = .ok (.ireturn, 1) := by decide +kernel
theorem d_Lan_takeFrame_0 : decode prog_5_method_6_code 0 = .ok (.aload_n 0, 1) := by decide +kernel
theorem d_Lan_takeFrame_1 : decode prog_5_method_6_code 1 = .ok (.invokevirtual 39, 3) := by decide +kernel
theorem d_Lan_takeFrame_4 : decode prog_5_method_6_code 4 = .ok (.istore_n 1, 1) := by decide +kernel
theorem d_Lan_takeFrame_5 : decode prog_5_method_6_code 5 = .ok (.aload_n 0, 1) := by decide +kernel
theorem d_Lan_takeFrame_6 : decode prog_5_method_6_code 6 = .ok (.getfield 16, 3) := by decide +kernel
theorem d_Lan_takeFrame_9 : decode prog_5_method_6_code 9 = .ok (.aload_n 0, 1) := by decide +kernel
theorem d_Lan_takeFrame_10 : decode prog_5_method_6_code 10 = .ok (.getfield 11, 3) := by decide +kernel
theorem d_Lan_takeFrame_13 : decode prog_5_method_6_code 13 = .ok (.iconst 3, 1) := by decide +kernel
theorem d_Lan_takeFrame_14 : decode prog_5_method_6_code 14 = .ok (.iload_n 1, 1) := by decide +kernel
theorem d_Lan_takeFrame_15 : decode prog_5_method_6_code 15 = .ok (.invokevirtual 47, 3) := by decide +kernel
theorem d_Lan_takeFrame_18 : decode prog_5_method_6_code 18 = .ok (.aload_n 0, 1) := by decide +kernel
theorem d_Lan_takeFrame_19 : decode prog_5_method_6_code 19 = .ok (.iconst 3, 1) := by decide +kernel
theorem d_Lan_takeFrame_20 : decode prog_5_method_6_code 20 = .ok (.iload_n 1, 1) := by decide +kernel
theorem d_Lan_takeFrame_21 : decode prog_5_method_6_code 21 = .ok (.iadd, 1) := by decide +kernel
theorem d_Lan_takeFrame_22 : decode prog_5_method_6_code 22 = .ok (.iconst 4, 1) := by decide +kernel
theorem d_Lan_takeFrame_23 : decode prog_5_method_6_code 23 = .ok (.iadd, 1) := by decide +kernel
theorem d_Lan_takeFrame_24 : decode prog_5_method_6_code 24 = .ok (.invokevirtual 51, 3) := by decide +kernel
theorem d_Lan_takeFrame_27 : decode prog_5_method_6_code 27 = .ok (.return_, 1) := by decide +kernel
theorem d_Lan_toldLength_0 : decode prog_5_method_7_code 0 = .ok (.aload_n 0, 1) := by decide +kernel
theorem d_Lan_toldLength_1 : decode prog_5_method_7_code 1 = .ok (.getfield 11, 3) := by decide +kernel
theorem d_Lan_toldLength_4 : decode prog_5_method_7_code 4 = .ok (.iconst 5, 1) := by decide +kernel
theorem d_Lan_toldLength_5 : decode prog_5_method_7_code 5 = .ok (.iaload, 1) := by decide +kernel
theorem d_Lan_toldLength_6 : decode prog_5_method_7_code 6 = .ok (.bipush (7), 2) := by decide +kernel
theorem d_Lan_toldLength_8 : decode prog_5_method_7_code 8 = .ok (.iand, 1) := by decide +kernel
theorem d_Lan_toldLength_9 : decode prog_5_method_7_code 9 = .ok (.sipush (256), 3) := by decide +kernel
theorem d_Lan_toldLength_12 : decode prog_5_method_7_code 12 = .ok (.imul, 1) := by decide +kernel
theorem d_Lan_toldLength_13 : decode prog_5_method_7_code 13 = .ok (.aload_n 0, 1) := by decide +kernel
theorem d_Lan_toldLength_14 : decode prog_5_method_7_code 14 = .ok (.getfield 11, 3) := by decide +kernel
theorem d_Lan_toldLength_17 : decode prog_5_method_7_code 17 = .ok (.bipush (6), 2) := by decide +kernel
theorem d_Lan_toldLength_19 : decode prog_5_method_7_code 19 = .ok (.iaload, 1) := by decide +kernel
theorem d_Lan_toldLength_20 : decode prog_5_method_7_code 20 = .ok (.iadd, 1) := by decide +kernel
theorem d_Lan_toldLength_21 : decode prog_5_method_7_code 21 = .ok (.iconst 1, 1) := by decide +kernel
theorem d_Lan_toldLength_22 : decode prog_5_method_7_code 22 = .ok (.iadd, 1) := by decide +kernel
theorem d_Lan_toldLength_23 : decode prog_5_method_7_code 23 = .ok (.ireturn, 1) := by decide +kernel
theorem d_Lan_checkHolds_0 : decode prog_5_method_8_code 0 = .ok (.iconst 3, 1) := by decide +kernel
theorem d_Lan_checkHolds_1 : decode prog_5_method_8_code 1 = .ok (.iload_n 1, 1) := by decide +kernel
theorem d_Lan_checkHolds_2 : decode prog_5_method_8_code 2 = .ok (.iadd, 1) := by decide +kernel
theorem d_Lan_checkHolds_3 : decode prog_5_method_8_code 3 = .ok (.istore_n 2, 1) := by decide +kernel
theorem d_Lan_checkHolds_4 : decode prog_5_method_8_code 4 = .ok (.aload_n 0, 1) := by decide +kernel
theorem d_Lan_checkHolds_5 : decode prog_5_method_8_code 5 = .ok (.getfield 11, 3) := by decide +kernel
theorem d_Lan_checkHolds_8 : decode prog_5_method_8_code 8 = .ok (.iconst 3, 1) := by decide +kernel
theorem d_Lan_checkHolds_9 : decode prog_5_method_8_code 9 = .ok (.iload_n 2, 1) := by decide +kernel
theorem d_Lan_checkHolds_10 : decode prog_5_method_8_code 10 = .ok (.bipush (32), 2) := by decide +kernel
theorem d_Lan_checkHolds_12 : decode prog_5_method_8_code 12 = .ok (.iconst 0, 1) := by decide +kernel
theorem d_Lan_checkHolds_13 : decode prog_5_method_8_code 13 = .ok (.ldc 55, 2) := by decide +kernel
theorem d_Lan_checkHolds_15 : decode prog_5_method_8_code 15 = .ok (.invokestatic 56, 3) := by decide +kernel
theorem d_Lan_checkHolds_18 : decode prog_5_method_8_code 18 = .ok (.istore_n 3, 1) := by decide +kernel
theorem d_Lan_checkHolds_19 : decode prog_5_method_8_code 19 = .ok (.aload_n 0, 1) := by decide +kernel
theorem d_Lan_checkHolds_20 : decode prog_5_method_8_code 20 = .ok (.getfield 11, 3) := by decide +kernel
theorem d_Lan_checkHolds_23 : decode prog_5_method_8_code 23 = .ok (.iload_n 2, 1) := by decide +kernel
theorem d_Lan_checkHolds_24 : decode prog_5_method_8_code 24 = .ok (.iaload, 1) := by decide +kernel
theorem d_Lan_checkHolds_25 : decode prog_5_method_8_code 25 = .ok (.bipush (24), 2) := by decide +kernel
theorem d_Lan_checkHolds_27 : decode prog_5_method_8_code 27 = .ok (.ishl, 1) := by decide +kernel
theorem d_Lan_checkHolds_28 : decode prog_5_method_8_code 28 = .ok (.aload_n 0, 1) := by decide +kernel
theorem d_Lan_checkHolds_29 : decode prog_5_method_8_code 29 = .ok (.getfield 11, 3) := by decide +kernel
theorem d_Lan_checkHolds_32 : decode prog_5_method_8_code 32 = .ok (.iload_n 2, 1) := by decide +kernel
theorem d_Lan_checkHolds_33 : decode prog_5_method_8_code 33 = .ok (.iconst 1, 1) := by decide +kernel
theorem d_Lan_checkHolds_34 : decode prog_5_method_8_code 34 = .ok (.iadd, 1) := by decide +kernel
theorem d_Lan_checkHolds_35 : decode prog_5_method_8_code 35 = .ok (.iaload, 1) := by decide +kernel
theorem d_Lan_checkHolds_36 : decode prog_5_method_8_code 36 = .ok (.bipush (16), 2) := by decide +kernel
theorem d_Lan_checkHolds_38 : decode prog_5_method_8_code 38 = .ok (.ishl, 1) := by decide +kernel
theorem d_Lan_checkHolds_39 : decode prog_5_method_8_code 39 = .ok (.ior, 1) := by decide +kernel
theorem d_Lan_checkHolds_40 : decode prog_5_method_8_code 40 = .ok (.aload_n 0, 1) := by decide +kernel
theorem d_Lan_checkHolds_41 : decode prog_5_method_8_code 41 = .ok (.getfield 11, 3) := by decide +kernel
theorem d_Lan_checkHolds_44 : decode prog_5_method_8_code 44 = .ok (.iload_n 2, 1) := by decide +kernel
theorem d_Lan_checkHolds_45 : decode prog_5_method_8_code 45 = .ok (.iconst 2, 1) := by decide +kernel
theorem d_Lan_checkHolds_46 : decode prog_5_method_8_code 46 = .ok (.iadd, 1) := by decide +kernel
theorem d_Lan_checkHolds_47 : decode prog_5_method_8_code 47 = .ok (.iaload, 1) := by decide +kernel
theorem d_Lan_checkHolds_48 : decode prog_5_method_8_code 48 = .ok (.bipush (8), 2) := by decide +kernel
theorem d_Lan_checkHolds_50 : decode prog_5_method_8_code 50 = .ok (.ishl, 1) := by decide +kernel
theorem d_Lan_checkHolds_51 : decode prog_5_method_8_code 51 = .ok (.ior, 1) := by decide +kernel
theorem d_Lan_checkHolds_52 : decode prog_5_method_8_code 52 = .ok (.aload_n 0, 1) := by decide +kernel
theorem d_Lan_checkHolds_53 : decode prog_5_method_8_code 53 = .ok (.getfield 11, 3) := by decide +kernel
theorem d_Lan_checkHolds_56 : decode prog_5_method_8_code 56 = .ok (.iload_n 2, 1) := by decide +kernel
theorem d_Lan_checkHolds_57 : decode prog_5_method_8_code 57 = .ok (.iconst 3, 1) := by decide +kernel
theorem d_Lan_checkHolds_58 : decode prog_5_method_8_code 58 = .ok (.iadd, 1) := by decide +kernel
theorem d_Lan_checkHolds_59 : decode prog_5_method_8_code 59 = .ok (.iaload, 1) := by decide +kernel
theorem d_Lan_checkHolds_60 : decode prog_5_method_8_code 60 = .ok (.ior, 1) := by decide +kernel
theorem d_Lan_checkHolds_61 : decode prog_5_method_8_code 61 = .ok (.istore 4, 2) := by decide +kernel
theorem d_Lan_checkHolds_63 : decode prog_5_method_8_code 63 = .ok (.iload_n 3, 1) := by decide +kernel
theorem d_Lan_checkHolds_64 : decode prog_5_method_8_code 64 = .ok (.iload 4, 2) := by decide +kernel
theorem d_Lan_checkHolds_66 : decode prog_5_method_8_code 66 = .ok (.if_icmp .ne (7), 3) := by decide +kernel
theorem d_Lan_checkHolds_69 : decode prog_5_method_8_code 69 = .ok (.iconst 1, 1) := by decide +kernel
theorem d_Lan_checkHolds_70 : decode prog_5_method_8_code 70 = .ok (.goto (4), 3) := by decide +kernel
theorem d_Lan_checkHolds_73 : decode prog_5_method_8_code 73 = .ok (.iconst 0, 1) := by decide +kernel
theorem d_Lan_checkHolds_74 : decode prog_5_method_8_code 74 = .ok (.ireturn, 1) := by decide +kernel
