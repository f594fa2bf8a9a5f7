theorem d_Ses_init_0 : decode prog_7_method_1_code 0 = .ok (.aload_n 0, 1) := by decide +kernel
theorem d_Ses_init_1 : decode prog_7_method_1_code 1 = .ok (.invokespecial 3, 3) := by decide +kernel
theorem d_Ses_init_4 : decode prog_7_method_1_code 4 = .ok (.aload_n 0, 1) := by decide +kernel
theorem d_Ses_init_5 : decode prog_7_method_1_code 5 = .ok (.new 9, 3) := by decide +kernel
theorem d_Ses_init_8 : decode prog_7_method_1_code 8 = .ok (.dup, 1) := by decide +kernel
theorem d_Ses_init_9 : decode prog_7_method_1_code 9 = .ok (.invokespecial 11, 3) := by decide +kernel
theorem d_Ses_init_12 : decode prog_7_method_1_code 12 = .ok (.putfield 12, 3) := by decide +kernel
theorem d_Ses_init_15 : decode prog_7_method_1_code 15 = .ok (.aload_n 0, 1) := by decide +kernel
theorem d_Ses_init_16 : decode prog_7_method_1_code 16 = .ok (.iconst 4, 1) := by decide +kernel
theorem d_Ses_init_17 : decode prog_7_method_1_code 17 = .ok (.anewarray 18, 3) := by decide +kernel
theorem d_Ses_init_20 : decode prog_7_method_1_code 20 = .ok (.putfield 20, 3) := by decide +kernel
theorem d_Ses_init_23 : decode prog_7_method_1_code 23 = .ok (.aload_n 0, 1) := by decide +kernel
theorem d_Ses_init_24 : decode prog_7_method_1_code 24 = .ok (.iconst 0, 1) := by decide +kernel
theorem d_Ses_init_25 : decode prog_7_method_1_code 25 = .ok (.putfield 24, 3) := by decide +kernel
theorem d_Ses_init_28 : decode prog_7_method_1_code 28 = .ok (.aload_n 0, 1) := by decide +kernel
theorem d_Ses_init_29 : decode prog_7_method_1_code 29 = .ok (.iconst 0, 1) := by decide +kernel
theorem d_Ses_init_30 : decode prog_7_method_1_code 30 = .ok (.putfield 28, 3) := by decide +kernel
theorem d_Ses_init_33 : decode prog_7_method_1_code 33 = .ok (.aload_n 0, 1) := by decide +kernel
theorem d_Ses_init_34 : decode prog_7_method_1_code 34 = .ok (.iconst 0, 1) := by decide +kernel
theorem d_Ses_init_35 : decode prog_7_method_1_code 35 = .ok (.putfield 32, 3) := by decide +kernel
theorem d_Ses_init_38 : decode prog_7_method_1_code 38 = .ok (.aload_n 0, 1) := by decide +kernel
theorem d_Ses_init_39 : decode prog_7_method_1_code 39 = .ok (.iconst 0, 1) := by decide +kernel
theorem d_Ses_init_40 : decode prog_7_method_1_code 40 = .ok (.putfield 35, 3) := by decide +kernel
theorem d_Ses_init_43 : decode prog_7_method_1_code 43 = .ok (.aload_n 0, 1) := by decide +kernel
theorem d_Ses_init_44 : decode prog_7_method_1_code 44 = .ok (.iconst 0, 1) := by decide +kernel
theorem d_Ses_init_45 : decode prog_7_method_1_code 45 = .ok (.putfield 38, 3) := by decide +kernel
theorem d_Ses_init_48 : decode prog_7_method_1_code 48 = .ok (.aload_n 0, 1) := by decide +kernel
theorem d_Ses_init_49 : decode prog_7_method_1_code 49 = .ok (.aconst_null, 1) := by decide +kernel
theorem d_Ses_init_50 : decode prog_7_method_1_code 50 = .ok (.putfield 41, 3) := by decide +kernel
theorem d_Ses_init_53 : decode prog_7_method_1_code 53 = .ok (.aload_n 0, 1) := by decide +kernel
theorem d_Ses_init_54 : decode prog_7_method_1_code 54 = .ok (.iconst 0, 1) := by decide +kernel
theorem d_Ses_init_55 : decode prog_7_method_1_code 55 = .ok (.putfield 45, 3) := by decide +kernel
theorem d_Ses_init_58 : decode prog_7_method_1_code 58 = .ok (.aload_n 0, 1) := by decide +kernel
theorem d_Ses_init_59 : decode prog_7_method_1_code 59 = .ok (.aload_n 1, 1) := by decide +kernel
theorem d_Ses_init_60 : decode prog_7_method_1_code 60 = .ok (.putfield 48, 3) := by decide +kernel
theorem d_Ses_init_63 : decode prog_7_method_1_code 63 = .ok (.iconst 0, 1) := by decide +kernel
theorem d_Ses_init_64 : decode prog_7_method_1_code 64 = .ok (.istore_n 2, 1) := by decide +kernel
theorem d_Ses_init_65 : decode prog_7_method_1_code 65 = .ok (.iload_n 2, 1) := by decide +kernel
theorem d_Ses_init_66 : decode prog_7_method_1_code 66 = .ok (.iconst 4, 1) := by decide +kernel
theorem d_Ses_init_67 : decode prog_7_method_1_code 67 = .ok (.if_icmp .ge (22), 3) := by decide +kernel
theorem d_Ses_init_70 : decode prog_7_method_1_code 70 = .ok (.aload_n 0, 1) := by decide +kernel
theorem d_Ses_init_71 : decode prog_7_method_1_code 71 = .ok (.getfield 20, 3) := by decide +kernel
theorem d_Ses_init_74 : decode prog_7_method_1_code 74 = .ok (.iload_n 2, 1) := by decide +kernel
theorem d_Ses_init_75 : decode prog_7_method_1_code 75 = .ok (.new 18, 3) := by decide +kernel
theorem d_Ses_init_78 : decode prog_7_method_1_code 78 = .ok (.dup, 1) := by decide +kernel
theorem d_Ses_init_79 : decode prog_7_method_1_code 79 = .ok (.invokespecial 52, 3) := by decide +kernel
theorem d_Ses_init_82 : decode prog_7_method_1_code 82 = .ok (.aastore, 1) := by decide +kernel
theorem d_Ses_init_83 : decode prog_7_method_1_code 83 = .ok (.iinc 2 (1), 3) := by decide +kernel
theorem d_Ses_init_86 : decode prog_7_method_1_code 86 = .ok (.goto (-21), 3) := by decide +kernel
theorem d_Ses_init_89 : decode prog_7_method_1_code 89 = .ok (.return_, 1) := by decide +kernel
theorem d_Ses_restart_0 : decode prog_7_method_2_code 0 = .ok (.aload_n 0, 1) := by decide +kernel
theorem d_Ses_restart_1 : decode prog_7_method_2_code 1 = .ok (.iconst 0, 1) := by decide +kernel
theorem d_Ses_restart_2 : decode prog_7_method_2_code 2 = .ok (.putfield 24, 3) := by decide +kernel
theorem d_Ses_restart_5 : decode prog_7_method_2_code 5 = .ok (.aload_n 0, 1) := by decide +kernel
theorem d_Ses_restart_6 : decode prog_7_method_2_code 6 = .ok (.invokevirtual 53, 3) := by decide +kernel
theorem d_Ses_restart_9 : decode prog_7_method_2_code 9 = .ok (.return_, 1) := by decide +kernel
theorem d_Ses_reportWord_0 : decode prog_7_method_3_code 0 = .ok (.aload_n 0, 1) := by decide +kernel
theorem d_Ses_reportWord_1 : decode prog_7_method_3_code 1 = .ok (.getfield 24, 3) := by decide +kernel
theorem d_Ses_reportWord_4 : decode prog_7_method_3_code 4 = .ok (.ifCond .ne (5), 3) := by decide +kernel
theorem d_Ses_reportWord_7 : decode prog_7_method_3_code 7 = .ok (.iconst 0, 1) := by decide +kernel
theorem d_Ses_reportWord_8 : decode prog_7_method_3_code 8 = .ok (.ireturn, 1) := by decide +kernel
theorem d_Ses_reportWord_9 : decode prog_7_method_3_code 9 = .ok (.ldc 56, 2) := by decide +kernel
theorem d_Ses_reportWord_11 : decode prog_7_method_3_code 11 = .ok (.aload_n 0, 1) := by decide +kernel
theorem d_Ses_reportWord_12 : decode prog_7_method_3_code 12 = .ok (.getfield 35, 3) := by decide +kernel
theorem d_Ses_reportWord_15 : decode prog_7_method_3_code 15 = .ok (.ifCond .eq (9), 3) := by decide +kernel
theorem d_Ses_reportWord_18 : decode prog_7_method_3_code 18 = .ok (.sipush (8192), 3) := by decide +kernel
theorem d_Ses_reportWord_21 : decode prog_7_method_3_code 21 = .ok (.goto (4), 3) := by decide +kernel
theorem d_Ses_reportWord_24 : decode prog_7_method_3_code 24 = .ok (.iconst 0, 1) := by decide +kernel
theorem d_Ses_reportWord_25 : decode prog_7_method_3_code 25 = .ok (.ior, 1) := by decide +kernel
theorem d_Ses_reportWord_26 : decode prog_7_method_3_code 26 = .ok (.aload_n 0, 1) := by decide +kernel
theorem d_Ses_reportWord_27 : decode prog_7_method_3_code 27 = .ok (.getfield 28, 3) := by decide +kernel
theorem d_Ses_reportWord_30 : decode prog_7_method_3_code 30 = .ok (.bipush (12), 2) := by decide +kernel
theorem d_Ses_reportWord_32 : decode prog_7_method_3_code 32 = .ok (.ishl, 1) := by decide +kernel
theorem d_Ses_reportWord_33 : decode prog_7_method_3_code 33 = .ok (.ior, 1) := by decide +kernel
theorem d_Ses_reportWord_34 : decode prog_7_method_3_code 34 = .ok (.aload_n 0, 1) := by decide +kernel
theorem d_Ses_reportWord_35 : decode prog_7_method_3_code 35 = .ok (.getfield 38, 3) := by decide +kernel
theorem d_Ses_reportWord_38 : decode prog_7_method_3_code 38 = .ok (.bipush (8), 2) := by decide +kernel
theorem d_Ses_reportWord_40 : decode prog_7_method_3_code 40 = .ok (.ishl, 1) := by decide +kernel
theorem d_Ses_reportWord_41 : decode prog_7_method_3_code 41 = .ok (.ior, 1) := by decide +kernel
theorem d_Ses_reportWord_42 : decode prog_7_method_3_code 42 = .ok (.aload_n 0, 1) := by decide +kernel
theorem d_Ses_reportWord_43 : decode prog_7_method_3_code 43 = .ok (.getfield 32, 3) := by decide +kernel
theorem d_Ses_reportWord_46 : decode prog_7_method_3_code 46 = .ok (.ior, 1) := by decide +kernel
theorem d_Ses_reportWord_47 : decode prog_7_method_3_code 47 = .ok (.ireturn, 1) := by decide +kernel
theorem d_Ses_heed_0 : decode prog_7_method_4_code 0 = .ok (.aload_n 1, 1) := by decide +kernel
theorem d_Ses_heed_1 : decode prog_7_method_4_code 1 = .ok (.invokevirtual 57, 3) := by decide +kernel
theorem d_Ses_heed_4 : decode prog_7_method_4_code 4 = .ok (.bipush (77), 2) := by decide +kernel
theorem d_Ses_heed_6 : decode prog_7_method_4_code 6 = .ok (.if_icmp .eq (4), 3) := by decide +kernel
theorem d_Ses_heed_9 : decode prog_7_method_4_code 9 = .ok (.return_, 1) := by decide +kernel
theorem d_Ses_heed_10 : decode prog_7_method_4_code 10 = .ok (.aload_n 1, 1) := by decide +kernel
theorem d_Ses_heed_11 : decode prog_7_method_4_code 11 = .ok (.invokevirtual 63, 3) := by decide +kernel
theorem d_Ses_heed_14 : decode prog_7_method_4_code 14 = .ok (.ifCond .eq (11), 3) := by decide +kernel
theorem d_Ses_heed_17 : decode prog_7_method_4_code 17 = .ok (.aload_n 0, 1) := by decide +kernel
theorem d_Ses_heed_18 : decode prog_7_method_4_code 18 = .ok (.aload_n 1, 1) := by decide +kernel
theorem d_Ses_heed_19 : decode prog_7_method_4_code 19 = .ok (.invokevirtual 67, 3) := by decide +kernel
theorem d_Ses_heed_22 : decode prog_7_method_4_code 22 = .ok (.goto (52), 3) := by decide +kernel
theorem d_Ses_heed_25 : decode prog_7_method_4_code 25 = .ok (.aload_n 0, 1) := by decide +kernel
theorem d_Ses_heed_26 : decode prog_7_method_4_code 26 = .ok (.aload_n 1, 1) := by decide +kernel
theorem d_Ses_heed_27 : decode prog_7_method_4_code 27 = .ok (.invokevirtual 71, 3) := by decide +kernel
theorem d_Ses_heed_30 : decode prog_7_method_4_code 30 = .ok (.ifCond .eq (44), 3) := by decide +kernel
theorem d_Ses_heed_33 : decode prog_7_method_4_code 33 = .ok (.aload_n 0, 1) := by decide +kernel
theorem d_Ses_heed_34 : decode prog_7_method_4_code 34 = .ok (.aload_n 1, 1) := by decide +kernel
theorem d_Ses_heed_35 : decode prog_7_method_4_code 35 = .ok (.invokevirtual 75, 3) := by decide +kernel
theorem d_Ses_heed_38 : decode prog_7_method_4_code 38 = .ok (.aload_n 1, 1) := by decide +kernel
theorem d_Ses_heed_39 : decode prog_7_method_4_code 39 = .ok (.invokevirtual 78, 3) := by decide +kernel
theorem d_Ses_heed_42 : decode prog_7_method_4_code 42 = .ok (.ifCond .eq (13), 3) := by decide +kernel
theorem d_Ses_heed_45 : decode prog_7_method_4_code 45 = .ok (.aload_n 0, 1) := by decide +kernel
theorem d_Ses_heed_46 : decode prog_7_method_4_code 46 = .ok (.invokevirtual 81, 3) := by decide +kernel
theorem d_Ses_heed_49 : decode prog_7_method_4_code 49 = .ok (.ifCond .eq (25), 3) := by decide +kernel
theorem d_Ses_heed_52 : decode prog_7_method_4_code 52 = .ok (.goto (14), 3) := by decide +kernel
theorem d_Ses_heed_55 : decode prog_7_method_4_code 55 = .ok (.aload_n 0, 1) := by decide +kernel
theorem d_Ses_heed_56 : decode prog_7_method_4_code 56 = .ok (.aload_n 1, 1) := by decide +kernel
theorem d_Ses_heed_57 : decode prog_7_method_4_code 57 = .ok (.invokevirtual 84, 3) := by decide +kernel
theorem d_Ses_heed_60 : decode prog_7_method_4_code 60 = .ok (.invokevirtual 87, 3) := by decide +kernel
theorem d_Ses_heed_63 : decode prog_7_method_4_code 63 = .ok (.ifCond .eq (11), 3) := by decide +kernel
theorem d_Ses_heed_66 : decode prog_7_method_4_code 66 = .ok (.aload_n 0, 1) := by decide +kernel
theorem d_Ses_heed_67 : decode prog_7_method_4_code 67 = .ok (.invokevirtual 91, 3) := by decide +kernel
theorem d_Ses_heed_70 : decode prog_7_method_4_code 70 = .ok (.aload_n 0, 1) := by decide +kernel
theorem d_Ses_heed_71 : decode prog_7_method_4_code 71 = .ok (.invokevirtual 94, 3) := by decide +kernel
theorem d_Ses_heed_74 : decode prog_7_method_4_code 74 = .ok (.return_, 1) := by decide +kernel
theorem d_Ses_isOnFor_0 : decode prog_7_method_5_code 0 = .ok (.aload_n 0, 1) := by decide +kernel
theorem d_Ses_isOnFor_1 : decode prog_7_method_5_code 1 = .ok (.getfield 24, 3) := by decide +kernel
theorem d_Ses_isOnFor_4 : decode prog_7_method_5_code 4 = .ok (.ifCond .eq (18), 3) := by decide +kernel
theorem d_Ses_isOnFor_7 : decode prog_7_method_5_code 7 = .ok (.aload_n 1, 1) := by decide +kernel
theorem d_Ses_isOnFor_8 : decode prog_7_method_5_code 8 = .ok (.invokevirtual 97, 3) := by decide +kernel
theorem d_Ses_isOnFor_11 : decode prog_7_method_5_code 11 = .ok (.aload_n 0, 1) := by decide +kernel
theorem d_Ses_isOnFor_12 : decode prog_7_method_5_code 12 = .ok (.getfield 28, 3) := by decide +kernel
theorem d_Ses_isOnFor_15 : decode prog_7_method_5_code 15 = .ok (.if_icmp .ne (7), 3) := by decide +kernel
theorem d_Ses_isOnFor_18 : decode prog_7_method_5_code 18 = .ok (.iconst 1, 1) := by decide +kernel
theorem d_Ses_isOnFor_19 : decode prog_7_method_5_code 19 = .ok (.goto (4), 3) := by decide +kernel
theorem d_Ses_isOnFor_22 : decode prog_7_method_5_code 22 = .ok (.iconst 0, 1) := by decide +kernel
theorem d_Ses_isOnFor_23 : decode prog_7_method_5_code 23 = .ok (.ireturn, 1) := by decide +kernel
theorem d_Ses_obey_0 : decode prog_7_method_6_code 0 = .ok (.aload_n 1, 1) := by decide +kernel
theorem d_Ses_obey_1 : decode prog_7_method_6_code 1 = .ok (.invokevirtual 99, 3) := by decide +kernel
theorem d_Ses_obey_4 : decode prog_7_method_6_code 4 = .ok (.iconst 2, 1) := by decide +kernel
theorem d_Ses_obey_5 : decode prog_7_method_6_code 5 = .ok (.if_icmp .ge (4), 3) := by decide +kernel
theorem d_Ses_obey_8 : decode prog_7_method_6_code 8 = .ok (.return_, 1) := by decide +kernel
theorem d_Ses_obey_9 : decode prog_7_method_6_code 9 = .ok (.aload_n 1, 1) := by decide +kernel
theorem d_Ses_obey_10 : decode prog_7_method_6_code 10 = .ok (.iconst 0, 1) := by decide +kernel
theorem d_Ses_obey_11 : decode prog_7_method_6_code 11 = .ok (.invokevirtual 102, 3) := by decide +kernel
theorem d_Ses_obey_14 : decode prog_7_method_6_code 14 = .ok (.tableswitch (70) 1 3 #[26, 37, 45], 26) := by decide +kernel
theorem d_Ses_obey_40 : decode prog_7_method_6_code 40 = .ok (.aload_n 0, 1) := by decide +kernel
theorem d_Ses_obey_41 : decode prog_7_method_6_code 41 = .ok (.aload_n 1, 1) := by decide +kernel
theorem d_Ses_obey_42 : decode prog_7_method_6_code 42 = .ok (.invokevirtual 97, 3) := by decide +kernel
theorem d_Ses_obey_45 : decode prog_7_method_6_code 45 = .ok (.invokevirtual 106, 3) := by decide +kernel
theorem d_Ses_obey_48 : decode prog_7_method_6_code 48 = .ok (.goto (36), 3) := by decide +kernel
theorem d_Ses_obey_51 : decode prog_7_method_6_code 51 = .ok (.aload_n 0, 1) := by decide +kernel
theorem d_Ses_obey_52 : decode prog_7_method_6_code 52 = .ok (.iconst 0, 1) := by decide +kernel
theorem d_Ses_obey_53 : decode prog_7_method_6_code 53 = .ok (.putfield 24, 3) := by decide +kernel
theorem d_Ses_obey_56 : decode prog_7_method_6_code 56 = .ok (.goto (28), 3) := by decide +kernel
theorem d_Ses_obey_59 : decode prog_7_method_6_code 59 = .ok (.aload_n 0, 1) := by decide +kernel
theorem d_Ses_obey_60 : decode prog_7_method_6_code 60 = .ok (.aload_n 1, 1) := by decide +kernel
theorem d_Ses_obey_61 : decode prog_7_method_6_code 61 = .ok (.invokevirtual 71, 3) := by decide +kernel
theorem d_Ses_obey_64 : decode prog_7_method_6_code 64 = .ok (.ifCond .eq (20), 3) := by decide +kernel
theorem d_Ses_obey_67 : decode prog_7_method_6_code 67 = .ok (.aload_n 0, 1) := by decide +kernel
theorem d_Ses_obey_68 : decode prog_7_method_6_code 68 = .ok (.aload_n 1, 1) := by decide +kernel
theorem d_Ses_obey_69 : decode prog_7_method_6_code 69 = .ok (.iconst 1, 1) := by decide +kernel
theorem d_Ses_obey_70 : decode prog_7_method_6_code 70 = .ok (.invokevirtual 102, 3) := by decide +kernel
theorem d_Ses_obey_73 : decode prog_7_method_6_code 73 = .ok (.putfield 32, 3) := by decide +kernel
theorem d_Ses_obey_76 : decode prog_7_method_6_code 76 = .ok (.aload_n 0, 1) := by decide +kernel
theorem d_Ses_obey_77 : decode prog_7_method_6_code 77 = .ok (.iconst 0, 1) := by decide +kernel
theorem d_Ses_obey_78 : decode prog_7_method_6_code 78 = .ok (.putfield 35, 3) := by decide +kernel
theorem d_Ses_obey_81 : decode prog_7_method_6_code 81 = .ok (.goto (3), 3) := by decide +kernel
theorem d_Ses_obey_84 : decode prog_7_method_6_code 84 = .ok (.return_, 1) := by decide +kernel
theorem d_Ses_begin_0 : decode prog_7_method_7_code 0 = .ok (.aload_n 0, 1) := by decide +kernel
theorem d_Ses_begin_1 : decode prog_7_method_7_code 1 = .ok (.iconst 1, 1) := by decide +kernel
theorem d_Ses_begin_2 : decode prog_7_method_7_code 2 = .ok (.putfield 24, 3) := by decide +kernel
theorem d_Ses_begin_5 : decode prog_7_method_7_code 5 = .ok (.aload_n 0, 1) := by decide +kernel
theorem d_Ses_begin_6 : decode prog_7_method_7_code 6 = .ok (.iload_n 1, 1) := by decide +kernel
theorem d_Ses_begin_7 : decode prog_7_method_7_code 7 = .ok (.putfield 28, 3) := by decide +kernel
theorem d_Ses_begin_10 : decode prog_7_method_7_code 10 = .ok (.aload_n 0, 1) := by decide +kernel
theorem d_Ses_begin_11 : decode prog_7_method_7_code 11 = .ok (.iconst 0, 1) := by decide +kernel
theorem d_Ses_begin_12 : decode prog_7_method_7_code 12 = .ok (.putfield 32, 3) := by decide +kernel
theorem d_Ses_begin_15 : decode prog_7_method_7_code 15 = .ok (.aload_n 0, 1) := by decide +kernel
theorem d_Ses_begin_16 : decode prog_7_method_7_code 16 = .ok (.iconst 0, 1) := by decide +kernel
theorem d_Ses_begin_17 : decode prog_7_method_7_code 17 = .ok (.putfield 35, 3) := by decide +kernel
theorem d_Ses_begin_20 : decode prog_7_method_7_code 20 = .ok (.aload_n 0, 1) := by decide +kernel
theorem d_Ses_begin_21 : decode prog_7_method_7_code 21 = .ok (.iconst 0, 1) := by decide +kernel
theorem d_Ses_begin_22 : decode prog_7_method_7_code 22 = .ok (.putfield 38, 3) := by decide +kernel
theorem d_Ses_begin_25 : decode prog_7_method_7_code 25 = .ok (.aload_n 0, 1) := by decide +kernel
theorem d_Ses_begin_26 : decode prog_7_method_7_code 26 = .ok (.invokevirtual 53, 3) := by decide +kernel
theorem d_Ses_begin_29 : decode prog_7_method_7_code 29 = .ok (.return_, 1) := by decide +kernel
theorem d_Ses_forgetSegments_0 : decode prog_7_method_8_code 0 = .ok (.iconst 0, 1) := by decide +kernel
theorem d_Ses_forgetSegments_1 : decode prog_7_method_8_code 1 = .ok (.istore_n 1, 1) := by decide +kernel
theorem d_Ses_forgetSegments_2 : decode prog_7_method_8_code 2 = .ok (.iload_n 1, 1) := by decide +kernel
theorem d_Ses_forgetSegments_3 : decode prog_7_method_8_code 3 = .ok (.iconst 4, 1) := by decide +kernel
theorem d_Ses_forgetSegments_4 : decode prog_7_method_8_code 4 = .ok (.if_icmp .ge (18), 3) := by decide +kernel
theorem d_Ses_forgetSegments_7 : decode prog_7_method_8_code 7 = .ok (.aload_n 0, 1) := by decide +kernel
theorem d_Ses_forgetSegments_8 : decode prog_7_method_8_code 8 = .ok (.getfield 20, 3) := by decide +kernel
theorem d_Ses_forgetSegments_11 : decode prog_7_method_8_code 11 = .ok (.iload_n 1, 1) := by decide +kernel
theorem d_Ses_forgetSegments_12 : decode prog_7_method_8_code 12 = .ok (.aaload, 1) := by decide +kernel
theorem d_Ses_forgetSegments_13 : decode prog_7_method_8_code 13 = .ok (.invokevirtual 110, 3) := by decide +kernel
theorem d_Ses_forgetSegments_16 : decode prog_7_method_8_code 16 = .ok (.iinc 1 (1), 3) := by decide +kernel
theorem d_Ses_forgetSegments_19 : decode prog_7_method_8_code 19 = .ok (.goto (-17), 3) := by decide +kernel
theorem d_Ses_forgetSegments_22 : decode prog_7_method_8_code 22 = .ok (.return_, 1) := by decide +kernel
theorem d_Ses_admitExpedited_0 : decode prog_7_method_9_code 0 = .ok (.aload_n 0, 1) := by decide +kernel
theorem d_Ses_admitExpedited_1 : decode prog_7_method_9_code 1 = .ok (.aload_n 0, 1) := by decide +kernel
theorem d_Ses_admitExpedited_2 : decode prog_7_method_9_code 2 = .ok (.getfield 38, 3) := by decide +kernel
theorem d_Ses_admitExpedited_5 : decode prog_7_method_9_code 5 = .ok (.iconst 1, 1) := by decide +kernel
theorem d_Ses_admitExpedited_6 : decode prog_7_method_9_code 6 = .ok (.iadd, 1) := by decide +kernel
theorem d_Ses_admitExpedited_7 : decode prog_7_method_9_code 7 = .ok (.bipush (7), 2) := by decide +kernel
theorem d_Ses_admitExpedited_9 : decode prog_7_method_9_code 9 = .ok (.iand, 1) := by decide +kernel
theorem d_Ses_admitExpedited_10 : decode prog_7_method_9_code 10 = .ok (.putfield 38, 3) := by decide +kernel
theorem d_Ses_admitExpedited_13 : decode prog_7_method_9_code 13 = .ok (.iconst 1, 1) := by decide +kernel
theorem d_Ses_admitExpedited_14 : decode prog_7_method_9_code 14 = .ok (.ireturn, 1) := by decide +kernel
theorem d_Ses_admitSequenced_0 : decode prog_7_method_10_code 0 = .ok (.iload_n 1, 1) := by decide +kernel
theorem d_Ses_admitSequenced_1 : decode prog_7_method_10_code 1 = .ok (.aload_n 0, 1) := by decide +kernel
theorem d_Ses_admitSequenced_2 : decode prog_7_method_10_code 2 = .ok (.getfield 32, 3) := by decide +kernel
theorem d_Ses_admitSequenced_5 : decode prog_7_method_10_code 5 = .ok (.isub, 1) := by decide +kernel
theorem d_Ses_admitSequenced_6 : decode prog_7_method_10_code 6 = .ok (.sipush (255), 3) := by decide +kernel
theorem d_Ses_admitSequenced_9 : decode prog_7_method_10_code 9 = .ok (.iand, 1) := by decide +kernel
theorem d_Ses_admitSequenced_10 : decode prog_7_method_10_code 10 = .ok (.istore_n 2, 1) := by decide +kernel
theorem d_Ses_admitSequenced_11 : decode prog_7_method_10_code 11 = .ok (.iload_n 2, 1) := by decide +kernel
theorem d_Ses_admitSequenced_12 : decode prog_7_method_10_code 12 = .ok (.bipush (127), 2) := by decide +kernel
theorem d_Ses_admitSequenced_14 : decode prog_7_method_10_code 14 = .ok (.if_icmp .le (5), 3) := by decide +kernel
theorem d_Ses_admitSequenced_17 : decode prog_7_method_10_code 17 = .ok (.iconst 0, 1) := by decide +kernel
theorem d_Ses_admitSequenced_18 : decode prog_7_method_10_code 18 = .ok (.ireturn, 1) := by decide +kernel
theorem d_Ses_admitSequenced_19 : decode prog_7_method_10_code 19 = .ok (.iload_n 2, 1) := by decide +kernel
theorem d_Ses_admitSequenced_20 : decode prog_7_method_10_code 20 = .ok (.ifCond .ne (24), 3) := by decide +kernel
theorem d_Ses_admitSequenced_23 : decode prog_7_method_10_code 23 = .ok (.aload_n 0, 1) := by decide +kernel
theorem d_Ses_admitSequenced_24 : decode prog_7_method_10_code 24 = .ok (.getfield 48, 3) := by decide +kernel
theorem d_Ses_admitSequenced_27 : decode prog_7_method_10_code 27 = .ok (.aload_n 0, 1) := by decide +kernel
theorem d_Ses_admitSequenced_28 : decode prog_7_method_10_code 28 = .ok (.getfield 12, 3) := by decide +kernel
theorem d_Ses_admitSequenced_31 : decode prog_7_method_10_code 31 = .ok (.invokevirtual 113, 3) := by decide +kernel
theorem d_Ses_admitSequenced_34 : decode prog_7_method_10_code 34 = .ok (.invokevirtual 116, 3) := by decide +kernel
theorem d_Ses_admitSequenced_37 : decode prog_7_method_10_code 37 = .ok (.ifCond .eq (7), 3) := by decide +kernel
theorem d_Ses_admitSequenced_40 : decode prog_7_method_10_code 40 = .ok (.iconst 1, 1) := by decide +kernel
theorem d_Ses_admitSequenced_41 : decode prog_7_method_10_code 41 = .ok (.goto (4), 3) := by decide +kernel
theorem d_Ses_admitSequenced_44 : decode prog_7_method_10_code 44 = .ok (.iconst 0, 1) := by decide +kernel
theorem d_Ses_admitSequenced_45 : decode prog_7_method_10_code 45 = .ok (.istore_n 3, 1) := by decide +kernel
theorem d_Ses_admitSequenced_46 : decode prog_7_method_10_code 46 = .ok (.aload_n 0, 1) := by decide +kernel
theorem d_Ses_admitSequenced_47 : decode prog_7_method_10_code 47 = .ok (.iload_n 3, 1) := by decide +kernel
theorem d_Ses_admitSequenced_48 : decode prog_7_method_10_code 48 = .ok (.ifCond .ne (7), 3) := by decide +kernel
theorem d_Ses_admitSequenced_51 : decode prog_7_method_10_code 51 = .ok (.iconst 1, 1) := by decide +kernel
theorem d_Ses_admitSequenced_52 : decode prog_7_method_10_code 52 = .ok (.goto (4), 3) := by decide +kernel
theorem d_Ses_admitSequenced_55 : decode prog_7_method_10_code 55 = .ok (.iconst 0, 1) := by decide +kernel
theorem d_Ses_admitSequenced_56 : decode prog_7_method_10_code 56 = .ok (.putfield 35, 3) := by decide +kernel
theorem d_Ses_admitSequenced_59 : decode prog_7_method_10_code 59 = .ok (.iload_n 3, 1) := by decide +kernel
theorem d_Ses_admitSequenced_60 : decode prog_7_method_10_code 60 = .ok (.ifCond .eq (17), 3) := by decide +kernel
theorem d_Ses_admitSequenced_63 : decode prog_7_method_10_code 63 = .ok (.aload_n 0, 1) := by decide +kernel
theorem d_Ses_admitSequenced_64 : decode prog_7_method_10_code 64 = .ok (.aload_n 0, 1) := by decide +kernel
theorem d_Ses_admitSequenced_65 : decode prog_7_method_10_code 65 = .ok (.getfield 32, 3) := by decide +kernel
theorem d_Ses_admitSequenced_68 : decode prog_7_method_10_code 68 = .ok (.iconst 1, 1) := by decide +kernel
theorem d_Ses_admitSequenced_69 : decode prog_7_method_10_code 69 = .ok (.iadd, 1) := by decide +kernel
theorem d_Ses_admitSequenced_70 : decode prog_7_method_10_code 70 = .ok (.sipush (255), 3) := by decide +kernel
theorem d_Ses_admitSequenced_73 : decode prog_7_method_10_code 73 = .ok (.iand, 1) := by decide +kernel
theorem d_Ses_admitSequenced_74 : decode prog_7_method_10_code 74 = .ok (.putfield 32, 3) := by decide +kernel
theorem d_Ses_admitSequenced_77 : decode prog_7_method_10_code 77 = .ok (.iload_n 3, 1) := by decide +kernel
theorem d_Ses_admitSequenced_78 : decode prog_7_method_10_code 78 = .ok (.ireturn, 1) := by decide +kernel
theorem d_Ses_keepWhatFits_0 : decode prog_7_method_11_code 0 = .ok (.iconst 0, 1) := by decide +kernel
theorem d_Ses_keepWhatFits_1 : decode prog_7_method_11_code 1 = .ok (.istore_n 1, 1) := by decide +kernel
theorem d_Ses_keepWhatFits_2 : decode prog_7_method_11_code 2 = .ok (.iload_n 1, 1) := by decide +kernel
theorem d_Ses_keepWhatFits_3 : decode prog_7_method_11_code 3 = .ok (.aload_n 0, 1) := by decide +kernel
theorem d_Ses_keepWhatFits_4 : decode prog_7_method_11_code 4 = .ok (.getfield 12, 3) := by decide +kernel
theorem d_Ses_keepWhatFits_7 : decode prog_7_method_11_code 7 = .ok (.getfield 121, 3) := by decide +kernel
theorem d_Ses_keepWhatFits_10 : decode prog_7_method_11_code 10 = .ok (.if_icmp .ge (41), 3) := by decide +kernel
theorem d_Ses_keepWhatFits_13 : decode prog_7_method_11_code 13 = .ok (.aload_n 0, 1) := by decide +kernel
theorem d_Ses_keepWhatFits_14 : decode prog_7_method_11_code 14 = .ok (.getfield 48, 3) := by decide +kernel
theorem d_Ses_keepWhatFits_17 : decode prog_7_method_11_code 17 = .ok (.aload_n 0, 1) := by decide +kernel
theorem d_Ses_keepWhatFits_18 : decode prog_7_method_11_code 18 = .ok (.getfield 12, 3) := by decide +kernel
theorem d_Ses_keepWhatFits_21 : decode prog_7_method_11_code 21 = .ok (.getfield 124, 3) := by decide +kernel
theorem d_Ses_keepWhatFits_24 : decode prog_7_method_11_code 24 = .ok (.aload_n 0, 1) := by decide +kernel
theorem d_Ses_keepWhatFits_25 : decode prog_7_method_11_code 25 = .ok (.getfield 12, 3) := by decide +kernel
theorem d_Ses_keepWhatFits_28 : decode prog_7_method_11_code 28 = .ok (.getfield 128, 3) := by decide +kernel
theorem d_Ses_keepWhatFits_31 : decode prog_7_method_11_code 31 = .ok (.iload_n 1, 1) := by decide +kernel
theorem d_Ses_keepWhatFits_32 : decode prog_7_method_11_code 32 = .ok (.iaload, 1) := by decide +kernel
theorem d_Ses_keepWhatFits_33 : decode prog_7_method_11_code 33 = .ok (.aload_n 0, 1) := by decide +kernel
theorem d_Ses_keepWhatFits_34 : decode prog_7_method_11_code 34 = .ok (.getfield 12, 3) := by decide +kernel
theorem d_Ses_keepWhatFits_37 : decode prog_7_method_11_code 37 = .ok (.getfield 131, 3) := by decide +kernel
theorem d_Ses_keepWhatFits_40 : decode prog_7_method_11_code 40 = .ok (.iload_n 1, 1) := by decide +kernel
theorem d_Ses_keepWhatFits_41 : decode prog_7_method_11_code 41 = .ok (.iaload, 1) := by decide +kernel
theorem d_Ses_keepWhatFits_42 : decode prog_7_method_11_code 42 = .ok (.invokevirtual 134, 3) := by decide +kernel
theorem d_Ses_keepWhatFits_45 : decode prog_7_method_11_code 45 = .ok (.iinc 1 (1), 3) := by decide +kernel
theorem d_Ses_keepWhatFits_48 : decode prog_7_method_11_code 48 = .ok (.goto (-46), 3) := by decide +kernel
theorem d_Ses_keepWhatFits_51 : decode prog_7_method_11_code 51 = .ok (.return_, 1) := by decide +kernel
theorem d_Ses_gather_0 : decode prog_7_method_12_code 0 = .ok (.aload_n 0, 1) := by decide +kernel
theorem d_Ses_gather_1 : decode prog_7_method_12_code 1 = .ok (.getfield 12, 3) := by decide +kernel
theorem d_Ses_gather_4 : decode prog_7_method_12_code 4 = .ok (.invokevirtual 138, 3) := by decide +kernel
theorem d_Ses_gather_7 : decode prog_7_method_12_code 7 = .ok (.aload_n 0, 1) := by decide +kernel
theorem d_Ses_gather_8 : decode prog_7_method_12_code 8 = .ok (.aconst_null, 1) := by decide +kernel
theorem d_Ses_gather_9 : decode prog_7_method_12_code 9 = .ok (.putfield 41, 3) := by decide +kernel
theorem d_Ses_gather_12 : decode prog_7_method_12_code 12 = .ok (.aload_n 1, 1) := by decide +kernel
theorem d_Ses_gather_13 : decode prog_7_method_12_code 13 = .ok (.invokevirtual 141, 3) := by decide +kernel
theorem d_Ses_gather_16 : decode prog_7_method_12_code 16 = .ok (.ifCond .ne (19), 3) := by decide +kernel
theorem d_Ses_gather_19 : decode prog_7_method_12_code 19 = .ok (.aload_n 0, 1) := by decide +kernel
theorem d_Ses_gather_20 : decode prog_7_method_12_code 20 = .ok (.aload_n 1, 1) := by decide +kernel
theorem d_Ses_gather_21 : decode prog_7_method_12_code 21 = .ok (.iconst 0, 1) := by decide +kernel
theorem d_Ses_gather_22 : decode prog_7_method_12_code 22 = .ok (.invokevirtual 144, 3) := by decide +kernel
theorem d_Ses_gather_25 : decode prog_7_method_12_code 25 = .ok (.aload_n 0, 1) := by decide +kernel
theorem d_Ses_gather_26 : decode prog_7_method_12_code 26 = .ok (.getfield 12, 3) := by decide +kernel
theorem d_Ses_gather_29 : decode prog_7_method_12_code 29 = .ok (.invokevirtual 148, 3) := by decide +kernel
theorem d_Ses_gather_32 : decode prog_7_method_12_code 32 = .ok (.goto (23), 3) := by decide +kernel
theorem d_Ses_gather_35 : decode prog_7_method_12_code 35 = .ok (.aload_n 1, 1) := by decide +kernel
theorem d_Ses_gather_36 : decode prog_7_method_12_code 36 = .ok (.invokevirtual 141, 3) := by decide +kernel
theorem d_Ses_gather_39 : decode prog_7_method_12_code 39 = .ok (.iconst 1, 1) := by decide +kernel
theorem d_Ses_gather_40 : decode prog_7_method_12_code 40 = .ok (.if_icmp .ne (15), 3) := by decide +kernel
theorem d_Ses_gather_43 : decode prog_7_method_12_code 43 = .ok (.aload_n 1, 1) := by decide +kernel
theorem d_Ses_gather_44 : decode prog_7_method_12_code 44 = .ok (.invokevirtual 99, 3) := by decide +kernel
theorem d_Ses_gather_47 : decode prog_7_method_12_code 47 = .ok (.ifCond .le (8), 3) := by decide +kernel
theorem d_Ses_gather_50 : decode prog_7_method_12_code 50 = .ok (.aload_n 0, 1) := by decide +kernel
theorem d_Ses_gather_51 : decode prog_7_method_12_code 51 = .ok (.aload_n 1, 1) := by decide +kernel
theorem d_Ses_gather_52 : decode prog_7_method_12_code 52 = .ok (.invokevirtual 151, 3) := by decide +kernel
theorem d_Ses_gather_55 : decode prog_7_method_12_code 55 = .ok (.return_, 1) := by decide +kernel
theorem d_Ses_gatherSegment_0 : decode prog_7_method_13_code 0 = .ok (.aload_n 1, 1) := by decide +kernel
theorem d_Ses_gatherSegment_1 : decode prog_7_method_13_code 1 = .ok (.iconst 0, 1) := by decide +kernel
theorem d_Ses_gatherSegment_2 : decode prog_7_method_13_code 2 = .ok (.invokevirtual 102, 3) := by decide +kernel
theorem d_Ses_gatherSegment_5 : decode prog_7_method_13_code 5 = .ok (.bipush (64), 2) := by decide +kernel
theorem d_Ses_gatherSegment_7 : decode prog_7_method_13_code 7 = .ok (.iand, 1) := by decide +kernel
theorem d_Ses_gatherSegment_8 : decode prog_7_method_13_code 8 = .ok (.ifCond .eq (7), 3) := by decide +kernel
theorem d_Ses_gatherSegment_11 : decode prog_7_method_13_code 11 = .ok (.iconst 1, 1) := by decide +kernel
theorem d_Ses_gatherSegment_12 : decode prog_7_method_13_code 12 = .ok (.goto (4), 3) := by decide +kernel
theorem d_Ses_gatherSegment_15 : decode prog_7_method_13_code 15 = .ok (.iconst 0, 1) := by decide +kernel
theorem d_Ses_gatherSegment_16 : decode prog_7_method_13_code 16 = .ok (.istore_n 2, 1) := by decide +kernel
theorem d_Ses_gatherSegment_17 : decode prog_7_method_13_code 17 = .ok (.aload_n 1, 1) := by decide +kernel
theorem d_Ses_gatherSegment_18 : decode prog_7_method_13_code 18 = .ok (.iconst 0, 1) := by decide +kernel
theorem d_Ses_gatherSegment_19 : decode prog_7_method_13_code 19 = .ok (.invokevirtual 102, 3) := by decide +kernel
theorem d_Ses_gatherSegment_22 : decode prog_7_method_13_code 22 = .ok (.sipush (128), 3) := by decide +kernel
theorem d_Ses_gatherSegment_25 : decode prog_7_method_13_code 25 = .ok (.iand, 1) := by decide +kernel
theorem d_Ses_gatherSegment_26 : decode prog_7_method_13_code 26 = .ok (.ifCond .eq (7), 3) := by decide +kernel
theorem d_Ses_gatherSegment_29 : decode prog_7_method_13_code 29 = .ok (.iconst 1, 1) := by decide +kernel
theorem d_Ses_gatherSegment_30 : decode prog_7_method_13_code 30 = .ok (.goto (4), 3) := by decide +kernel
theorem d_Ses_gatherSegment_33 : decode prog_7_method_13_code 33 = .ok (.iconst 0, 1) := by decide +kernel
theorem d_Ses_gatherSegment_34 : decode prog_7_method_13_code 34 = .ok (.istore_n 3, 1) := by decide +kernel
theorem d_Ses_gatherSegment_35 : decode prog_7_method_13_code 35 = .ok (.aload_n 1, 1) := by decide +kernel
theorem d_Ses_gatherSegment_36 : decode prog_7_method_13_code 36 = .ok (.iconst 0, 1) := by decide +kernel
theorem d_Ses_gatherSegment_37 : decode prog_7_method_13_code 37 = .ok (.invokevirtual 102, 3) := by decide +kernel
theorem d_Ses_gatherSegment_40 : decode prog_7_method_13_code 40 = .ok (.bipush (63), 2) := by decide +kernel
theorem d_Ses_gatherSegment_42 : decode prog_7_method_13_code 42 = .ok (.iand, 1) := by decide +kernel
theorem d_Ses_gatherSegment_43 : decode prog_7_method_13_code 43 = .ok (.istore 4, 2) := by decide +kernel
theorem d_Ses_gatherSegment_45 : decode prog_7_method_13_code 45 = .ok (.iload 4, 2) := by decide +kernel
theorem d_Ses_gatherSegment_47 : decode prog_7_method_13_code 47 = .ok (.iconst 4, 1) := by decide +kernel
theorem d_Ses_gatherSegment_48 : decode prog_7_method_13_code 48 = .ok (.if_icmp .lt (4), 3) := by decide +kernel
theorem d_Ses_gatherSegment_51 : decode prog_7_method_13_code 51 = .ok (.return_, 1) := by decide +kernel
theorem d_Ses_gatherSegment_52 : decode prog_7_method_13_code 52 = .ok (.aload_n 0, 1) := by decide +kernel
theorem d_Ses_gatherSegment_53 : decode prog_7_method_13_code 53 = .ok (.aload_n 0, 1) := by decide +kernel
theorem d_Ses_gatherSegment_54 : decode prog_7_method_13_code 54 = .ok (.getfield 20, 3) := by decide +kernel
theorem d_Ses_gatherSegment_57 : decode prog_7_method_13_code 57 = .ok (.iload 4, 2) := by decide +kernel
theorem d_Ses_gatherSegment_59 : decode prog_7_method_13_code 59 = .ok (.aaload, 1) := by decide +kernel
theorem d_Ses_gatherSegment_60 : decode prog_7_method_13_code 60 = .ok (.putfield 41, 3) := by decide +kernel
theorem d_Ses_gatherSegment_63 : decode prog_7_method_13_code 63 = .ok (.aload_n 0, 1) := by decide +kernel
theorem d_Ses_gatherSegment_64 : decode prog_7_method_13_code 64 = .ok (.iconst 0, 1) := by decide +kernel
theorem d_Ses_gatherSegment_65 : decode prog_7_method_13_code 65 = .ok (.putfield 45, 3) := by decide +kernel
theorem d_Ses_gatherSegment_68 : decode prog_7_method_13_code 68 = .ok (.iload_n 2, 1) := by decide +kernel
theorem d_Ses_gatherSegment_69 : decode prog_7_method_13_code 69 = .ok (.ifCond .ne (71), 3) := by decide +kernel
theorem d_Ses_gatherSegment_72 : decode prog_7_method_13_code 72 = .ok (.aload_n 0, 1) := by decide +kernel
theorem d_Ses_gatherSegment_73 : decode prog_7_method_13_code 73 = .ok (.getfield 41, 3) := by decide +kernel
theorem d_Ses_gatherSegment_76 : decode prog_7_method_13_code 76 = .ok (.getfield 154, 3) := by decide +kernel
theorem d_Ses_gatherSegment_79 : decode prog_7_method_13_code 79 = .ok (.ifCond .eq (22), 3) := by decide +kernel
theorem d_Ses_gatherSegment_82 : decode prog_7_method_13_code 82 = .ok (.aload_n 0, 1) := by decide +kernel
theorem d_Ses_gatherSegment_83 : decode prog_7_method_13_code 83 = .ok (.getfield 41, 3) := by decide +kernel
theorem d_Ses_gatherSegment_86 : decode prog_7_method_13_code 86 = .ok (.getfield 157, 3) := by decide +kernel
theorem d_Ses_gatherSegment_89 : decode prog_7_method_13_code 89 = .ok (.aload_n 1, 1) := by decide +kernel
theorem d_Ses_gatherSegment_90 : decode prog_7_method_13_code 90 = .ok (.invokevirtual 99, 3) := by decide +kernel
theorem d_Ses_gatherSegment_93 : decode prog_7_method_13_code 93 = .ok (.iadd, 1) := by decide +kernel
theorem d_Ses_gatherSegment_94 : decode prog_7_method_13_code 94 = .ok (.iconst 1, 1) := by decide +kernel
theorem d_Ses_gatherSegment_95 : decode prog_7_method_13_code 95 = .ok (.isub, 1) := by decide +kernel
theorem d_Ses_gatherSegment_96 : decode prog_7_method_13_code 96 = .ok (.bipush (60), 2) := by decide +kernel
theorem d_Ses_gatherSegment_98 : decode prog_7_method_13_code 98 = .ok (.if_icmp .le (4), 3) := by decide +kernel
theorem d_Ses_gatherSegment_101 : decode prog_7_method_13_code 101 = .ok (.return_, 1) := by decide +kernel
theorem d_Ses_gatherSegment_102 : decode prog_7_method_13_code 102 = .ok (.iconst 0, 1) := by decide +kernel
theorem d_Ses_gatherSegment_103 : decode prog_7_method_13_code 103 = .ok (.istore 5, 2) := by decide +kernel
theorem d_Ses_gatherSegment_105 : decode prog_7_method_13_code 105 = .ok (.iload 5, 2) := by decide +kernel
theorem d_Ses_gatherSegment_107 : decode prog_7_method_13_code 107 = .ok (.aload_n 0, 1) := by decide +kernel
theorem d_Ses_gatherSegment_108 : decode prog_7_method_13_code 108 = .ok (.getfield 41, 3) := by decide +kernel
theorem d_Ses_gatherSegment_111 : decode prog_7_method_13_code 111 = .ok (.getfield 157, 3) := by decide +kernel
theorem d_Ses_gatherSegment_114 : decode prog_7_method_13_code 114 = .ok (.if_icmp .ge (26), 3) := by decide +kernel
theorem d_Ses_gatherSegment_117 : decode prog_7_method_13_code 117 = .ok (.aload_n 0, 1) := by decide +kernel
theorem d_Ses_gatherSegment_118 : decode prog_7_method_13_code 118 = .ok (.getfield 12, 3) := by decide +kernel
theorem d_Ses_gatherSegment_121 : decode prog_7_method_13_code 121 = .ok (.aload_n 0, 1) := by decide +kernel
theorem d_Ses_gatherSegment_122 : decode prog_7_method_13_code 122 = .ok (.getfield 41, 3) := by decide +kernel
theorem d_Ses_gatherSegment_125 : decode prog_7_method_13_code 125 = .ok (.getfield 162, 3) := by decide +kernel
theorem d_Ses_gatherSegment_128 : decode prog_7_method_13_code 128 = .ok (.iload 5, 2) := by decide +kernel
theorem d_Ses_gatherSegment_130 : decode prog_7_method_13_code 130 = .ok (.iaload, 1) := by decide +kernel
theorem d_Ses_gatherSegment_131 : decode prog_7_method_13_code 131 = .ok (.invokevirtual 165, 3) := by decide +kernel
theorem d_Ses_gatherSegment_134 : decode prog_7_method_13_code 134 = .ok (.iinc 5 (1), 3) := by decide +kernel
theorem d_Ses_gatherSegment_137 : decode prog_7_method_13_code 137 = .ok (.goto (-32), 3) := by decide +kernel
theorem d_Ses_gatherSegment_140 : decode prog_7_method_13_code 140 = .ok (.aload_n 0, 1) := by decide +kernel
theorem d_Ses_gatherSegment_141 : decode prog_7_method_13_code 141 = .ok (.aload_n 1, 1) := by decide +kernel
theorem d_Ses_gatherSegment_142 : decode prog_7_method_13_code 142 = .ok (.iconst 1, 1) := by decide +kernel
theorem d_Ses_gatherSegment_143 : decode prog_7_method_13_code 143 = .ok (.invokevirtual 144, 3) := by decide +kernel
theorem d_Ses_gatherSegment_146 : decode prog_7_method_13_code 146 = .ok (.aload_n 0, 1) := by decide +kernel
theorem d_Ses_gatherSegment_147 : decode prog_7_method_13_code 147 = .ok (.iload_n 3, 1) := by decide +kernel
theorem d_Ses_gatherSegment_148 : decode prog_7_method_13_code 148 = .ok (.ifCond .ne (7), 3) := by decide +kernel
theorem d_Ses_gatherSegment_151 : decode prog_7_method_13_code 151 = .ok (.iconst 1, 1) := by decide +kernel
theorem d_Ses_gatherSegment_152 : decode prog_7_method_13_code 152 = .ok (.goto (4), 3) := by decide +kernel
theorem d_Ses_gatherSegment_155 : decode prog_7_method_13_code 155 = .ok (.iconst 0, 1) := by decide +kernel
theorem d_Ses_gatherSegment_156 : decode prog_7_method_13_code 156 = .ok (.putfield 45, 3) := by decide +kernel
theorem d_Ses_gatherSegment_159 : decode prog_7_method_13_code 159 = .ok (.iload_n 3, 1) := by decide +kernel
theorem d_Ses_gatherSegment_160 : decode prog_7_method_13_code 160 = .ok (.ifCond .eq (10), 3) := by decide +kernel
theorem d_Ses_gatherSegment_163 : decode prog_7_method_13_code 163 = .ok (.aload_n 0, 1) := by decide +kernel
theorem d_Ses_gatherSegment_164 : decode prog_7_method_13_code 164 = .ok (.getfield 12, 3) := by decide +kernel
theorem d_Ses_gatherSegment_167 : decode prog_7_method_13_code 167 = .ok (.invokevirtual 168, 3) := by decide +kernel
theorem d_Ses_gatherSegment_170 : decode prog_7_method_13_code 170 = .ok (.return_, 1) := by decide +kernel
theorem d_Ses_appendData_0 : decode prog_7_method_14_code 0 = .ok (.iload_n 2, 1) := by decide +kernel
theorem d_Ses_appendData_1 : decode prog_7_method_14_code 1 = .ok (.istore_n 3, 1) := by decide +kernel
theorem d_Ses_appendData_2 : decode prog_7_method_14_code 2 = .ok (.iload_n 3, 1) := by decide +kernel
theorem d_Ses_appendData_3 : decode prog_7_method_14_code 3 = .ok (.aload_n 1, 1) := by decide +kernel
theorem d_Ses_appendData_4 : decode prog_7_method_14_code 4 = .ok (.invokevirtual 99, 3) := by decide +kernel
theorem d_Ses_appendData_7 : decode prog_7_method_14_code 7 = .ok (.if_icmp .ge (21), 3) := by decide +kernel
theorem d_Ses_appendData_10 : decode prog_7_method_14_code 10 = .ok (.aload_n 0, 1) := by decide +kernel
theorem d_Ses_appendData_11 : decode prog_7_method_14_code 11 = .ok (.getfield 12, 3) := by decide +kernel
theorem d_Ses_appendData_14 : decode prog_7_method_14_code 14 = .ok (.aload_n 1, 1) := by decide +kernel
theorem d_Ses_appendData_15 : decode prog_7_method_14_code 15 = .ok (.iload_n 3, 1) := by decide +kernel
theorem d_Ses_appendData_16 : decode prog_7_method_14_code 16 = .ok (.invokevirtual 102, 3) := by decide +kernel
theorem d_Ses_appendData_19 : decode prog_7_method_14_code 19 = .ok (.invokevirtual 165, 3) := by decide +kernel
theorem d_Ses_appendData_22 : decode prog_7_method_14_code 22 = .ok (.iinc 3 (1), 3) := by decide +kernel
theorem d_Ses_appendData_25 : decode prog_7_method_14_code 25 = .ok (.goto (-23), 3) := by decide +kernel
theorem d_Ses_appendData_28 : decode prog_7_method_14_code 28 = .ok (.return_, 1) := by decide +kernel
theorem d_Ses_settleStream_0 : decode prog_7_method_15_code 0 = .ok (.aload_n 0, 1) := by decide +kernel
theorem d_Ses_settleStream_1 : decode prog_7_method_15_code 1 = .ok (.getfield 41, 3) := by decide +kernel
theorem d_Ses_settleStream_4 : decode prog_7_method_15_code 4 = .ok (.ifnonnull (4), 3) := by decide +kernel
theorem d_Ses_settleStream_7 : decode prog_7_method_15_code 7 = .ok (.return_, 1) := by decide +kernel
theorem d_Ses_settleStream_8 : decode prog_7_method_15_code 8 = .ok (.aload_n 0, 1) := by decide +kernel
theorem d_Ses_settleStream_9 : decode prog_7_method_15_code 9 = .ok (.getfield 45, 3) := by decide +kernel
theorem d_Ses_settleStream_12 : decode prog_7_method_15_code 12 = .ok (.ifCond .eq (17), 3) := by decide +kernel
theorem d_Ses_settleStream_15 : decode prog_7_method_15_code 15 = .ok (.aload_n 0, 1) := by decide +kernel
theorem d_Ses_settleStream_16 : decode prog_7_method_15_code 16 = .ok (.getfield 41, 3) := by decide +kernel
theorem d_Ses_settleStream_19 : decode prog_7_method_15_code 19 = .ok (.aload_n 0, 1) := by decide +kernel
theorem d_Ses_settleStream_20 : decode prog_7_method_15_code 20 = .ok (.getfield 12, 3) := by decide +kernel
theorem d_Ses_settleStream_23 : decode prog_7_method_15_code 23 = .ok (.invokevirtual 171, 3) := by decide +kernel
theorem d_Ses_settleStream_26 : decode prog_7_method_15_code 26 = .ok (.goto (10), 3) := by decide +kernel
theorem d_Ses_settleStream_29 : decode prog_7_method_15_code 29 = .ok (.aload_n 0, 1) := by decide +kernel
theorem d_Ses_settleStream_30 : decode prog_7_method_15_code 30 = .ok (.getfield 41, 3) := by decide +kernel
theorem d_Ses_settleStream_33 : decode prog_7_method_15_code 33 = .ok (.invokevirtual 110, 3) := by decide +kernel
theorem d_Ses_settleStream_36 : decode prog_7_method_15_code 36 = .ok (.return_, 1) := by decide +kernel
