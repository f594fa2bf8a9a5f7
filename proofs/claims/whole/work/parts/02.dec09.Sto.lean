theorem d_Sto_init_0 : decode prog_8_method_1_code 0 = .ok (.aload_n 0, 1) := by decide +kernel
theorem d_Sto_init_1 : decode prog_8_method_1_code 1 = .ok (.invokespecial 1, 3) := by decide +kernel
theorem d_Sto_init_4 : decode prog_8_method_1_code 4 = .ok (.aload_n 0, 1) := by decide +kernel
theorem d_Sto_init_5 : decode prog_8_method_1_code 5 = .ok (.sipush (480), 3) := by decide +kernel
theorem d_Sto_init_8 : decode prog_8_method_1_code 8 = .ok (.newarray .int, 2) := by decide +kernel
theorem d_Sto_init_10 : decode prog_8_method_1_code 10 = .ok (.putfield 9, 3) := by decide +kernel
theorem d_Sto_init_13 : decode prog_8_method_1_code 13 = .ok (.aload_n 0, 1) := by decide +kernel
theorem d_Sto_init_14 : decode prog_8_method_1_code 14 = .ok (.bipush (24), 2) := by decide +kernel
theorem d_Sto_init_16 : decode prog_8_method_1_code 16 = .ok (.newarray .boolean, 2) := by decide +kernel
theorem d_Sto_init_18 : decode prog_8_method_1_code 18 = .ok (.putfield 13, 3) := by decide +kernel
theorem d_Sto_init_21 : decode prog_8_method_1_code 21 = .ok (.aload_n 0, 1) := by decide +kernel
theorem d_Sto_init_22 : decode prog_8_method_1_code 22 = .ok (.bipush (24), 2) := by decide +kernel
theorem d_Sto_init_24 : decode prog_8_method_1_code 24 = .ok (.anewarray 17, 3) := by decide +kernel
theorem d_Sto_init_27 : decode prog_8_method_1_code 27 = .ok (.putfield 19, 3) := by decide +kernel
theorem d_Sto_init_30 : decode prog_8_method_1_code 30 = .ok (.aload_n 0, 1) := by decide +kernel
theorem d_Sto_init_31 : decode prog_8_method_1_code 31 = .ok (.iconst 0, 1) := by decide +kernel
theorem d_Sto_init_32 : decode prog_8_method_1_code 32 = .ok (.putfield 23, 3) := by decide +kernel
theorem d_Sto_init_35 : decode prog_8_method_1_code 35 = .ok (.aload_n 0, 1) := by decide +kernel
theorem d_Sto_init_36 : decode prog_8_method_1_code 36 = .ok (.bipush (24), 2) := by decide +kernel
theorem d_Sto_init_38 : decode prog_8_method_1_code 38 = .ok (.putfield 27, 3) := by decide +kernel
theorem d_Sto_init_41 : decode prog_8_method_1_code 41 = .ok (.aload_n 0, 1) := by decide +kernel
theorem d_Sto_init_42 : decode prog_8_method_1_code 42 = .ok (.iconst 0, 1) := by decide +kernel
theorem d_Sto_init_43 : decode prog_8_method_1_code 43 = .ok (.putfield 30, 3) := by decide +kernel
theorem d_Sto_init_46 : decode prog_8_method_1_code 46 = .ok (.aload_n 0, 1) := by decide +kernel
theorem d_Sto_init_47 : decode prog_8_method_1_code 47 = .ok (.iconst 0, 1) := by decide +kernel
theorem d_Sto_init_48 : decode prog_8_method_1_code 48 = .ok (.putfield 33, 3) := by decide +kernel
theorem d_Sto_init_51 : decode prog_8_method_1_code 51 = .ok (.aload_n 0, 1) := by decide +kernel
theorem d_Sto_init_52 : decode prog_8_method_1_code 52 = .ok (.iconst 0, 1) := by decide +kernel
theorem d_Sto_init_53 : decode prog_8_method_1_code 53 = .ok (.putfield 36, 3) := by decide +kernel
theorem d_Sto_init_56 : decode prog_8_method_1_code 56 = .ok (.aload_n 0, 1) := by decide +kernel
theorem d_Sto_init_57 : decode prog_8_method_1_code 57 = .ok (.iconst 0, 1) := by decide +kernel
theorem d_Sto_init_58 : decode prog_8_method_1_code 58 = .ok (.putfield 39, 3) := by decide +kernel
theorem d_Sto_init_61 : decode prog_8_method_1_code 61 = .ok (.aload_n 0, 1) := by decide +kernel
theorem d_Sto_init_62 : decode prog_8_method_1_code 62 = .ok (.iconst 0, 1) := by decide +kernel
theorem d_Sto_init_63 : decode prog_8_method_1_code 63 = .ok (.putfield 42, 3) := by decide +kernel
theorem d_Sto_init_66 : decode prog_8_method_1_code 66 = .ok (.iconst 0, 1) := by decide +kernel
theorem d_Sto_init_67 : decode prog_8_method_1_code 67 = .ok (.istore_n 1, 1) := by decide +kernel
theorem d_Sto_init_68 : decode prog_8_method_1_code 68 = .ok (.iload_n 1, 1) := by decide +kernel
theorem d_Sto_init_69 : decode prog_8_method_1_code 69 = .ok (.bipush (24), 2) := by decide +kernel
theorem d_Sto_init_71 : decode prog_8_method_1_code 71 = .ok (.if_icmp .ge (22), 3) := by decide +kernel
theorem d_Sto_init_74 : decode prog_8_method_1_code 74 = .ok (.aload_n 0, 1) := by decide +kernel
theorem d_Sto_init_75 : decode prog_8_method_1_code 75 = .ok (.getfield 19, 3) := by decide +kernel
theorem d_Sto_init_78 : decode prog_8_method_1_code 78 = .ok (.iload_n 1, 1) := by decide +kernel
theorem d_Sto_init_79 : decode prog_8_method_1_code 79 = .ok (.new 17, 3) := by decide +kernel
theorem d_Sto_init_82 : decode prog_8_method_1_code 82 = .ok (.dup, 1) := by decide +kernel
theorem d_Sto_init_83 : decode prog_8_method_1_code 83 = .ok (.invokespecial 46, 3) := by decide +kernel
theorem d_Sto_init_86 : decode prog_8_method_1_code 86 = .ok (.aastore, 1) := by decide +kernel
theorem d_Sto_init_87 : decode prog_8_method_1_code 87 = .ok (.iinc 1 (1), 3) := by decide +kernel
theorem d_Sto_init_90 : decode prog_8_method_1_code 90 = .ok (.goto (-22), 3) := by decide +kernel
theorem d_Sto_init_93 : decode prog_8_method_1_code 93 = .ok (.return_, 1) := by decide +kernel
theorem d_Sto_blocksFor_0 : decode prog_8_method_2_code 0 = .ok (.iload_n 0, 1) := by decide +kernel
theorem d_Sto_blocksFor_1 : decode prog_8_method_2_code 1 = .ok (.bipush (20), 2) := by decide +kernel
theorem d_Sto_blocksFor_3 : decode prog_8_method_2_code 3 = .ok (.iadd, 1) := by decide +kernel
theorem d_Sto_blocksFor_4 : decode prog_8_method_2_code 4 = .ok (.iconst 1, 1) := by decide +kernel
theorem d_Sto_blocksFor_5 : decode prog_8_method_2_code 5 = .ok (.isub, 1) := by decide +kernel
theorem d_Sto_blocksFor_6 : decode prog_8_method_2_code 6 = .ok (.bipush (20), 2) := by decide +kernel
theorem d_Sto_blocksFor_8 : decode prog_8_method_2_code 8 = .ok (.idiv, 1) := by decide +kernel
theorem d_Sto_blocksFor_9 : decode prog_8_method_2_code 9 = .ok (.ireturn, 1) := by decide +kernel
theorem d_Sto_hasRoom_0 : decode prog_8_method_3_code 0 = .ok (.iload_n 1, 1) := by decide +kernel
theorem d_Sto_hasRoom_1 : decode prog_8_method_3_code 1 = .ok (.aload_n 0, 1) := by decide +kernel
theorem d_Sto_hasRoom_2 : decode prog_8_method_3_code 2 = .ok (.getfield 27, 3) := by decide +kernel
theorem d_Sto_hasRoom_5 : decode prog_8_method_3_code 5 = .ok (.if_icmp .gt (7), 3) := by decide +kernel
theorem d_Sto_hasRoom_8 : decode prog_8_method_3_code 8 = .ok (.iconst 1, 1) := by decide +kernel
theorem d_Sto_hasRoom_9 : decode prog_8_method_3_code 9 = .ok (.goto (4), 3) := by decide +kernel
theorem d_Sto_hasRoom_12 : decode prog_8_method_3_code 12 = .ok (.iconst 0, 1) := by decide +kernel
theorem d_Sto_hasRoom_13 : decode prog_8_method_3_code 13 = .ok (.ireturn, 1) := by decide +kernel
theorem d_Sto_has_0 : decode prog_8_method_4_code 0 = .ok (.iload_n 1, 1) := by decide +kernel
theorem d_Sto_has_1 : decode prog_8_method_4_code 1 = .ok (.ifCond .lt (15), 3) := by decide +kernel
theorem d_Sto_has_4 : decode prog_8_method_4_code 4 = .ok (.iload_n 1, 1) := by decide +kernel
theorem d_Sto_has_5 : decode prog_8_method_4_code 5 = .ok (.aload_n 0, 1) := by decide +kernel
theorem d_Sto_has_6 : decode prog_8_method_4_code 6 = .ok (.getfield 23, 3) := by decide +kernel
theorem d_Sto_has_9 : decode prog_8_method_4_code 9 = .ok (.if_icmp .ge (7), 3) := by decide +kernel
theorem d_Sto_has_12 : decode prog_8_method_4_code 12 = .ok (.iconst 1, 1) := by decide +kernel
theorem d_Sto_has_13 : decode prog_8_method_4_code 13 = .ok (.goto (4), 3) := by decide +kernel
theorem d_Sto_has_16 : decode prog_8_method_4_code 16 = .ok (.iconst 0, 1) := by decide +kernel
theorem d_Sto_has_17 : decode prog_8_method_4_code 17 = .ok (.ireturn, 1) := by decide +kernel
theorem d_Sto_byteOf_0 : decode prog_8_method_5_code 0 = .ok (.aload_n 0, 1) := by decide +kernel
theorem d_Sto_byteOf_1 : decode prog_8_method_5_code 1 = .ok (.getfield 9, 3) := by decide +kernel
theorem d_Sto_byteOf_4 : decode prog_8_method_5_code 4 = .ok (.aload_n 1, 1) := by decide +kernel
theorem d_Sto_byteOf_5 : decode prog_8_method_5_code 5 = .ok (.getfield 47, 3) := by decide +kernel
theorem d_Sto_byteOf_8 : decode prog_8_method_5_code 8 = .ok (.iload_n 2, 1) := by decide +kernel
theorem d_Sto_byteOf_9 : decode prog_8_method_5_code 9 = .ok (.bipush (20), 2) := by decide +kernel
theorem d_Sto_byteOf_11 : decode prog_8_method_5_code 11 = .ok (.idiv, 1) := by decide +kernel
theorem d_Sto_byteOf_12 : decode prog_8_method_5_code 12 = .ok (.iaload, 1) := by decide +kernel
theorem d_Sto_byteOf_13 : decode prog_8_method_5_code 13 = .ok (.bipush (20), 2) := by decide +kernel
theorem d_Sto_byteOf_15 : decode prog_8_method_5_code 15 = .ok (.imul, 1) := by decide +kernel
theorem d_Sto_byteOf_16 : decode prog_8_method_5_code 16 = .ok (.iload_n 2, 1) := by decide +kernel
theorem d_Sto_byteOf_17 : decode prog_8_method_5_code 17 = .ok (.bipush (20), 2) := by decide +kernel
theorem d_Sto_byteOf_19 : decode prog_8_method_5_code 19 = .ok (.irem, 1) := by decide +kernel
theorem d_Sto_byteOf_20 : decode prog_8_method_5_code 20 = .ok (.iadd, 1) := by decide +kernel
theorem d_Sto_byteOf_21 : decode prog_8_method_5_code 21 = .ok (.iaload, 1) := by decide +kernel
theorem d_Sto_byteOf_22 : decode prog_8_method_5_code 22 = .ok (.ireturn, 1) := by decide +kernel
theorem d_Sto_restart_0 : decode prog_8_method_6_code 0 = .ok (.aload_n 0, 1) := by decide +kernel
theorem d_Sto_restart_1 : decode prog_8_method_6_code 1 = .ok (.iconst 0, 1) := by decide +kernel
theorem d_Sto_restart_2 : decode prog_8_method_6_code 2 = .ok (.putfield 42, 3) := by decide +kernel
theorem d_Sto_restart_5 : decode prog_8_method_6_code 5 = .ok (.aload_n 0, 1) := by decide +kernel
theorem d_Sto_restart_6 : decode prog_8_method_6_code 6 = .ok (.iconst 0, 1) := by decide +kernel
theorem d_Sto_restart_7 : decode prog_8_method_6_code 7 = .ok (.putfield 39, 3) := by decide +kernel
theorem d_Sto_restart_10 : decode prog_8_method_6_code 10 = .ok (.iconst 0, 1) := by decide +kernel
theorem d_Sto_restart_11 : decode prog_8_method_6_code 11 = .ok (.istore_n 1, 1) := by decide +kernel
theorem d_Sto_restart_12 : decode prog_8_method_6_code 12 = .ok (.iload_n 1, 1) := by decide +kernel
theorem d_Sto_restart_13 : decode prog_8_method_6_code 13 = .ok (.aload_n 0, 1) := by decide +kernel
theorem d_Sto_restart_14 : decode prog_8_method_6_code 14 = .ok (.getfield 23, 3) := by decide +kernel
theorem d_Sto_restart_17 : decode prog_8_method_6_code 17 = .ok (.if_icmp .ge (19), 3) := by decide +kernel
theorem d_Sto_restart_20 : decode prog_8_method_6_code 20 = .ok (.aload_n 0, 1) := by decide +kernel
theorem d_Sto_restart_21 : decode prog_8_method_6_code 21 = .ok (.getfield 19, 3) := by decide +kernel
theorem d_Sto_restart_24 : decode prog_8_method_6_code 24 = .ok (.iload_n 1, 1) := by decide +kernel
theorem d_Sto_restart_25 : decode prog_8_method_6_code 25 = .ok (.aaload, 1) := by decide +kernel
theorem d_Sto_restart_26 : decode prog_8_method_6_code 26 = .ok (.iconst 0, 1) := by decide +kernel
theorem d_Sto_restart_27 : decode prog_8_method_6_code 27 = .ok (.putfield 50, 3) := by decide +kernel
theorem d_Sto_restart_30 : decode prog_8_method_6_code 30 = .ok (.iinc 1 (1), 3) := by decide +kernel
theorem d_Sto_restart_33 : decode prog_8_method_6_code 33 = .ok (.goto (-21), 3) := by decide +kernel
theorem d_Sto_restart_36 : decode prog_8_method_6_code 36 = .ok (.return_, 1) := by decide +kernel
theorem d_Sto_add_0 : decode prog_8_method_7_code 0 = .ok (.aload_n 0, 1) := by decide +kernel
theorem d_Sto_add_1 : decode prog_8_method_7_code 1 = .ok (.getfield 42, 3) := by decide +kernel
theorem d_Sto_add_4 : decode prog_8_method_7_code 4 = .ok (.ifCond .ne (23), 3) := by decide +kernel
theorem d_Sto_add_7 : decode prog_8_method_7_code 7 = .ok (.aload_n 0, 1) := by decide +kernel
theorem d_Sto_add_8 : decode prog_8_method_7_code 8 = .ok (.getfield 23, 3) := by decide +kernel
theorem d_Sto_add_11 : decode prog_8_method_7_code 11 = .ok (.bipush (24), 2) := by decide +kernel
theorem d_Sto_add_13 : decode prog_8_method_7_code 13 = .ok (.if_icmp .ge (14), 3) := by decide +kernel
theorem d_Sto_add_16 : decode prog_8_method_7_code 16 = .ok (.aload_n 0, 1) := by decide +kernel
theorem d_Sto_add_17 : decode prog_8_method_7_code 17 = .ok (.iload_n 3, 1) := by decide +kernel
theorem d_Sto_add_18 : decode prog_8_method_7_code 18 = .ok (.invokestatic 53, 3) := by decide +kernel
theorem d_Sto_add_21 : decode prog_8_method_7_code 21 = .ok (.invokevirtual 57, 3) := by decide +kernel
theorem d_Sto_add_24 : decode prog_8_method_7_code 24 = .ok (.ifCond .ne (4), 3) := by decide +kernel
theorem d_Sto_add_27 : decode prog_8_method_7_code 27 = .ok (.return_, 1) := by decide +kernel
theorem d_Sto_add_28 : decode prog_8_method_7_code 28 = .ok (.aload_n 0, 1) := by decide +kernel
theorem d_Sto_add_29 : decode prog_8_method_7_code 29 = .ok (.getfield 19, 3) := by decide +kernel
theorem d_Sto_add_32 : decode prog_8_method_7_code 32 = .ok (.aload_n 0, 1) := by decide +kernel
theorem d_Sto_add_33 : decode prog_8_method_7_code 33 = .ok (.getfield 23, 3) := by decide +kernel
theorem d_Sto_add_36 : decode prog_8_method_7_code 36 = .ok (.aaload, 1) := by decide +kernel
theorem d_Sto_add_37 : decode prog_8_method_7_code 37 = .ok (.astore 4, 2) := by decide +kernel
theorem d_Sto_add_39 : decode prog_8_method_7_code 39 = .ok (.aload 4, 2) := by decide +kernel
theorem d_Sto_add_41 : decode prog_8_method_7_code 41 = .ok (.iload_n 3, 1) := by decide +kernel
theorem d_Sto_add_42 : decode prog_8_method_7_code 42 = .ok (.putfield 61, 3) := by decide +kernel
theorem d_Sto_add_45 : decode prog_8_method_7_code 45 = .ok (.aload 4, 2) := by decide +kernel
theorem d_Sto_add_47 : decode prog_8_method_7_code 47 = .ok (.aload_n 1, 1) := by decide +kernel
theorem d_Sto_add_48 : decode prog_8_method_7_code 48 = .ok (.iload_n 2, 1) := by decide +kernel
theorem d_Sto_add_49 : decode prog_8_method_7_code 49 = .ok (.iaload, 1) := by decide +kernel
theorem d_Sto_add_50 : decode prog_8_method_7_code 50 = .ok (.bipush (7), 2) := by decide +kernel
theorem d_Sto_add_52 : decode prog_8_method_7_code 52 = .ok (.iand, 1) := by decide +kernel
theorem d_Sto_add_53 : decode prog_8_method_7_code 53 = .ok (.sipush (256), 3) := by decide +kernel
theorem d_Sto_add_56 : decode prog_8_method_7_code 56 = .ok (.imul, 1) := by decide +kernel
theorem d_Sto_add_57 : decode prog_8_method_7_code 57 = .ok (.aload_n 1, 1) := by decide +kernel
theorem d_Sto_add_58 : decode prog_8_method_7_code 58 = .ok (.iload_n 2, 1) := by decide +kernel
theorem d_Sto_add_59 : decode prog_8_method_7_code 59 = .ok (.iconst 1, 1) := by decide +kernel
theorem d_Sto_add_60 : decode prog_8_method_7_code 60 = .ok (.iadd, 1) := by decide +kernel
theorem d_Sto_add_61 : decode prog_8_method_7_code 61 = .ok (.iaload, 1) := by decide +kernel
theorem d_Sto_add_62 : decode prog_8_method_7_code 62 = .ok (.iadd, 1) := by decide +kernel
theorem d_Sto_add_63 : decode prog_8_method_7_code 63 = .ok (.putfield 64, 3) := by decide +kernel
theorem d_Sto_add_66 : decode prog_8_method_7_code 66 = .ok (.aload 4, 2) := by decide +kernel
theorem d_Sto_add_68 : decode prog_8_method_7_code 68 = .ok (.iconst 0, 1) := by decide +kernel
theorem d_Sto_add_69 : decode prog_8_method_7_code 69 = .ok (.putfield 50, 3) := by decide +kernel
theorem d_Sto_add_72 : decode prog_8_method_7_code 72 = .ok (.aload_n 0, 1) := by decide +kernel
theorem d_Sto_add_73 : decode prog_8_method_7_code 73 = .ok (.aload 4, 2) := by decide +kernel
theorem d_Sto_add_75 : decode prog_8_method_7_code 75 = .ok (.aload_n 1, 1) := by decide +kernel
theorem d_Sto_add_76 : decode prog_8_method_7_code 76 = .ok (.iload_n 2, 1) := by decide +kernel
theorem d_Sto_add_77 : decode prog_8_method_7_code 77 = .ok (.invokevirtual 67, 3) := by decide +kernel
theorem d_Sto_add_80 : decode prog_8_method_7_code 80 = .ok (.aload_n 0, 1) := by decide +kernel
theorem d_Sto_add_81 : decode prog_8_method_7_code 81 = .ok (.invokevirtual 71, 3) := by decide +kernel
theorem d_Sto_add_84 : decode prog_8_method_7_code 84 = .ok (.aload_n 0, 1) := by decide +kernel
theorem d_Sto_add_85 : decode prog_8_method_7_code 85 = .ok (.aload 4, 2) := by decide +kernel
theorem d_Sto_add_87 : decode prog_8_method_7_code 87 = .ok (.invokevirtual 74, 3) := by decide +kernel
theorem d_Sto_add_90 : decode prog_8_method_7_code 90 = .ok (.return_, 1) := by decide +kernel
theorem d_Sto_dropEmitted_0 : decode prog_8_method_8_code 0 = .ok (.iconst 0, 1) := by decide +kernel
theorem d_Sto_dropEmitted_1 : decode prog_8_method_8_code 1 = .ok (.istore_n 1, 1) := by decide +kernel
theorem d_Sto_dropEmitted_2 : decode prog_8_method_8_code 2 = .ok (.aload_n 0, 1) := by decide +kernel
theorem d_Sto_dropEmitted_3 : decode prog_8_method_8_code 3 = .ok (.getfield 23, 3) := by decide +kernel
theorem d_Sto_dropEmitted_6 : decode prog_8_method_8_code 6 = .ok (.istore_n 2, 1) := by decide +kernel
theorem d_Sto_dropEmitted_7 : decode prog_8_method_8_code 7 = .ok (.iload_n 2, 1) := by decide +kernel
theorem d_Sto_dropEmitted_8 : decode prog_8_method_8_code 8 = .ok (.ifCond .le (52), 3) := by decide +kernel
theorem d_Sto_dropEmitted_11 : decode prog_8_method_8_code 11 = .ok (.aload_n 0, 1) := by decide +kernel
theorem d_Sto_dropEmitted_12 : decode prog_8_method_8_code 12 = .ok (.getfield 42, 3) := by decide +kernel
theorem d_Sto_dropEmitted_15 : decode prog_8_method_8_code 15 = .ok (.ifCond .ne (45), 3) := by decide +kernel
theorem d_Sto_dropEmitted_18 : decode prog_8_method_8_code 18 = .ok (.aload_n 0, 1) := by decide +kernel
theorem d_Sto_dropEmitted_19 : decode prog_8_method_8_code 19 = .ok (.getfield 19, 3) := by decide +kernel
theorem d_Sto_dropEmitted_22 : decode prog_8_method_8_code 22 = .ok (.iload_n 1, 1) := by decide +kernel
theorem d_Sto_dropEmitted_23 : decode prog_8_method_8_code 23 = .ok (.aaload, 1) := by decide +kernel
theorem d_Sto_dropEmitted_24 : decode prog_8_method_8_code 24 = .ok (.getfield 50, 3) := by decide +kernel
theorem d_Sto_dropEmitted_27 : decode prog_8_method_8_code 27 = .ok (.aload_n 0, 1) := by decide +kernel
theorem d_Sto_dropEmitted_28 : decode prog_8_method_8_code 28 = .ok (.getfield 19, 3) := by decide +kernel
theorem d_Sto_dropEmitted_31 : decode prog_8_method_8_code 31 = .ok (.iload_n 1, 1) := by decide +kernel
theorem d_Sto_dropEmitted_32 : decode prog_8_method_8_code 32 = .ok (.aaload, 1) := by decide +kernel
theorem d_Sto_dropEmitted_33 : decode prog_8_method_8_code 33 = .ok (.getfield 61, 3) := by decide +kernel
theorem d_Sto_dropEmitted_36 : decode prog_8_method_8_code 36 = .ok (.if_icmp .ne (15), 3) := by decide +kernel
theorem d_Sto_dropEmitted_39 : decode prog_8_method_8_code 39 = .ok (.aload_n 0, 1) := by decide +kernel
theorem d_Sto_dropEmitted_40 : decode prog_8_method_8_code 40 = .ok (.invokevirtual 71, 3) := by decide +kernel
theorem d_Sto_dropEmitted_43 : decode prog_8_method_8_code 43 = .ok (.aload_n 0, 1) := by decide +kernel
theorem d_Sto_dropEmitted_44 : decode prog_8_method_8_code 44 = .ok (.iload_n 1, 1) := by decide +kernel
theorem d_Sto_dropEmitted_45 : decode prog_8_method_8_code 45 = .ok (.invokevirtual 78, 3) := by decide +kernel
theorem d_Sto_dropEmitted_48 : decode prog_8_method_8_code 48 = .ok (.goto (6), 3) := by decide +kernel
theorem d_Sto_dropEmitted_51 : decode prog_8_method_8_code 51 = .ok (.iinc 1 (1), 3) := by decide +kernel
theorem d_Sto_dropEmitted_54 : decode prog_8_method_8_code 54 = .ok (.iinc 2 (-1), 3) := by decide +kernel
theorem d_Sto_dropEmitted_57 : decode prog_8_method_8_code 57 = .ok (.goto (-50), 3) := by decide +kernel
theorem d_Sto_dropEmitted_60 : decode prog_8_method_8_code 60 = .ok (.return_, 1) := by decide +kernel
theorem d_Sto_writeBlocks_0 : decode prog_8_method_9_code 0 = .ok (.iconst 0, 1) := by decide +kernel
theorem d_Sto_writeBlocks_1 : decode prog_8_method_9_code 1 = .ok (.istore 4, 2) := by decide +kernel
theorem d_Sto_writeBlocks_3 : decode prog_8_method_9_code 3 = .ok (.iconst 0, 1) := by decide +kernel
theorem d_Sto_writeBlocks_4 : decode prog_8_method_9_code 4 = .ok (.istore 5, 2) := by decide +kernel
theorem d_Sto_writeBlocks_6 : decode prog_8_method_9_code 6 = .ok (.iload 5, 2) := by decide +kernel
theorem d_Sto_writeBlocks_8 : decode prog_8_method_9_code 8 = .ok (.bipush (24), 2) := by decide +kernel
theorem d_Sto_writeBlocks_10 : decode prog_8_method_9_code 10 = .ok (.if_icmp .ge (87), 3) := by decide +kernel
theorem d_Sto_writeBlocks_13 : decode prog_8_method_9_code 13 = .ok (.iload 4, 2) := by decide +kernel
theorem d_Sto_writeBlocks_15 : decode prog_8_method_9_code 15 = .ok (.aload_n 1, 1) := by decide +kernel
theorem d_Sto_writeBlocks_16 : decode prog_8_method_9_code 16 = .ok (.getfield 61, 3) := by decide +kernel
theorem d_Sto_writeBlocks_19 : decode prog_8_method_9_code 19 = .ok (.if_icmp .ge (78), 3) := by decide +kernel
theorem d_Sto_writeBlocks_22 : decode prog_8_method_9_code 22 = .ok (.aload_n 0, 1) := by decide +kernel
theorem d_Sto_writeBlocks_23 : decode prog_8_method_9_code 23 = .ok (.getfield 42, 3) := by decide +kernel
theorem d_Sto_writeBlocks_26 : decode prog_8_method_9_code 26 = .ok (.ifCond .ne (71), 3) := by decide +kernel
theorem d_Sto_writeBlocks_29 : decode prog_8_method_9_code 29 = .ok (.aload_n 0, 1) := by decide +kernel
theorem d_Sto_writeBlocks_30 : decode prog_8_method_9_code 30 = .ok (.getfield 13, 3) := by decide +kernel
theorem d_Sto_writeBlocks_33 : decode prog_8_method_9_code 33 = .ok (.iload 5, 2) := by decide +kernel
theorem d_Sto_writeBlocks_35 : decode prog_8_method_9_code 35 = .ok (.baload, 1) := by decide +kernel
theorem d_Sto_writeBlocks_36 : decode prog_8_method_9_code 36 = .ok (.ifCond .ne (55), 3) := by decide +kernel
theorem d_Sto_writeBlocks_39 : decode prog_8_method_9_code 39 = .ok (.bipush (20), 2) := by decide +kernel
theorem d_Sto_writeBlocks_41 : decode prog_8_method_9_code 41 = .ok (.aload_n 1, 1) := by decide +kernel
theorem d_Sto_writeBlocks_42 : decode prog_8_method_9_code 42 = .ok (.getfield 61, 3) := by decide +kernel
theorem d_Sto_writeBlocks_45 : decode prog_8_method_9_code 45 = .ok (.iload 4, 2) := by decide +kernel
theorem d_Sto_writeBlocks_47 : decode prog_8_method_9_code 47 = .ok (.isub, 1) := by decide +kernel
theorem d_Sto_writeBlocks_48 : decode prog_8_method_9_code 48 = .ok (.invokestatic 82, 3) := by decide +kernel
theorem d_Sto_writeBlocks_51 : decode prog_8_method_9_code 51 = .ok (.istore 6, 2) := by decide +kernel
theorem d_Sto_writeBlocks_53 : decode prog_8_method_9_code 53 = .ok (.aload_n 2, 1) := by decide +kernel
theorem d_Sto_writeBlocks_54 : decode prog_8_method_9_code 54 = .ok (.iload_n 3, 1) := by decide +kernel
theorem d_Sto_writeBlocks_55 : decode prog_8_method_9_code 55 = .ok (.iload 4, 2) := by decide +kernel
theorem d_Sto_writeBlocks_57 : decode prog_8_method_9_code 57 = .ok (.iadd, 1) := by decide +kernel
theorem d_Sto_writeBlocks_58 : decode prog_8_method_9_code 58 = .ok (.aload_n 0, 1) := by decide +kernel
theorem d_Sto_writeBlocks_59 : decode prog_8_method_9_code 59 = .ok (.getfield 9, 3) := by decide +kernel
theorem d_Sto_writeBlocks_62 : decode prog_8_method_9_code 62 = .ok (.iload 5, 2) := by decide +kernel
theorem d_Sto_writeBlocks_64 : decode prog_8_method_9_code 64 = .ok (.bipush (20), 2) := by decide +kernel
theorem d_Sto_writeBlocks_66 : decode prog_8_method_9_code 66 = .ok (.imul, 1) := by decide +kernel
theorem d_Sto_writeBlocks_67 : decode prog_8_method_9_code 67 = .ok (.iload 6, 2) := by decide +kernel
theorem d_Sto_writeBlocks_69 : decode prog_8_method_9_code 69 = .ok (.invokestatic 88, 3) := by decide +kernel
theorem d_Sto_writeBlocks_72 : decode prog_8_method_9_code 72 = .ok (.aload_n 1, 1) := by decide +kernel
theorem d_Sto_writeBlocks_73 : decode prog_8_method_9_code 73 = .ok (.getfield 47, 3) := by decide +kernel
theorem d_Sto_writeBlocks_76 : decode prog_8_method_9_code 76 = .ok (.iload 4, 2) := by decide +kernel
theorem d_Sto_writeBlocks_78 : decode prog_8_method_9_code 78 = .ok (.bipush (20), 2) := by decide +kernel
theorem d_Sto_writeBlocks_80 : decode prog_8_method_9_code 80 = .ok (.idiv, 1) := by decide +kernel
theorem d_Sto_writeBlocks_81 : decode prog_8_method_9_code 81 = .ok (.iload 5, 2) := by decide +kernel
theorem d_Sto_writeBlocks_83 : decode prog_8_method_9_code 83 = .ok (.iastore, 1) := by decide +kernel
theorem d_Sto_writeBlocks_84 : decode prog_8_method_9_code 84 = .ok (.iinc 4 (20), 3) := by decide +kernel
theorem d_Sto_writeBlocks_87 : decode prog_8_method_9_code 87 = .ok (.aload_n 0, 1) := by decide +kernel
theorem d_Sto_writeBlocks_88 : decode prog_8_method_9_code 88 = .ok (.invokevirtual 94, 3) := by decide +kernel
theorem d_Sto_writeBlocks_91 : decode prog_8_method_9_code 91 = .ok (.iinc 5 (1), 3) := by decide +kernel
theorem d_Sto_writeBlocks_94 : decode prog_8_method_9_code 94 = .ok (.goto (-88), 3) := by decide +kernel
theorem d_Sto_writeBlocks_97 : decode prog_8_method_9_code 97 = .ok (.return_, 1) := by decide +kernel
theorem d_Sto_renewFullJournal_0 : decode prog_8_method_10_code 0 = .ok (.aload_n 0, 1) := by decide +kernel
theorem d_Sto_renewFullJournal_1 : decode prog_8_method_10_code 1 = .ok (.getfield 42, 3) := by decide +kernel
theorem d_Sto_renewFullJournal_4 : decode prog_8_method_10_code 4 = .ok (.ifCond .ne (24), 3) := by decide +kernel
theorem d_Sto_renewFullJournal_7 : decode prog_8_method_10_code 7 = .ok (.aload_n 0, 1) := by decide +kernel
theorem d_Sto_renewFullJournal_8 : decode prog_8_method_10_code 8 = .ok (.getfield 33, 3) := by decide +kernel
theorem d_Sto_renewFullJournal_11 : decode prog_8_method_10_code 11 = .ok (.bipush (40), 2) := by decide +kernel
theorem d_Sto_renewFullJournal_13 : decode prog_8_method_10_code 13 = .ok (.if_icmp .lt (15), 3) := by decide +kernel
theorem d_Sto_renewFullJournal_16 : decode prog_8_method_10_code 16 = .ok (.aload_n 0, 1) := by decide +kernel
theorem d_Sto_renewFullJournal_17 : decode prog_8_method_10_code 17 = .ok (.aload_n 0, 1) := by decide +kernel
theorem d_Sto_renewFullJournal_18 : decode prog_8_method_10_code 18 = .ok (.getfield 23, 3) := by decide +kernel
theorem d_Sto_renewFullJournal_21 : decode prog_8_method_10_code 21 = .ok (.putfield 33, 3) := by decide +kernel
theorem d_Sto_renewFullJournal_24 : decode prog_8_method_10_code 24 = .ok (.aload_n 0, 1) := by decide +kernel
theorem d_Sto_renewFullJournal_25 : decode prog_8_method_10_code 25 = .ok (.invokevirtual 94, 3) := by decide +kernel
theorem d_Sto_renewFullJournal_28 : decode prog_8_method_10_code 28 = .ok (.return_, 1) := by decide +kernel
theorem d_Sto_enterAdded_0 : decode prog_8_method_11_code 0 = .ok (.aload_n 0, 1) := by decide +kernel
theorem d_Sto_enterAdded_1 : decode prog_8_method_11_code 1 = .ok (.getfield 42, 3) := by decide +kernel
theorem d_Sto_enterAdded_4 : decode prog_8_method_11_code 4 = .ok (.ifCond .eq (4), 3) := by decide +kernel
theorem d_Sto_enterAdded_7 : decode prog_8_method_11_code 7 = .ok (.return_, 1) := by decide +kernel
theorem d_Sto_enterAdded_8 : decode prog_8_method_11_code 8 = .ok (.aload_n 0, 1) := by decide +kernel
theorem d_Sto_enterAdded_9 : decode prog_8_method_11_code 9 = .ok (.dup, 1) := by decide +kernel
theorem d_Sto_enterAdded_10 : decode prog_8_method_11_code 10 = .ok (.getfield 33, 3) := by decide +kernel
theorem d_Sto_enterAdded_13 : decode prog_8_method_11_code 13 = .ok (.iconst 1, 1) := by decide +kernel
theorem d_Sto_enterAdded_14 : decode prog_8_method_11_code 14 = .ok (.iadd, 1) := by decide +kernel
theorem d_Sto_enterAdded_15 : decode prog_8_method_11_code 15 = .ok (.putfield 33, 3) := by decide +kernel
theorem d_Sto_enterAdded_18 : decode prog_8_method_11_code 18 = .ok (.aload_n 1, 1) := by decide +kernel
theorem d_Sto_enterAdded_19 : decode prog_8_method_11_code 19 = .ok (.aload_n 0, 1) := by decide +kernel
theorem d_Sto_enterAdded_20 : decode prog_8_method_11_code 20 = .ok (.getfield 30, 3) := by decide +kernel
theorem d_Sto_enterAdded_23 : decode prog_8_method_11_code 23 = .ok (.putfield 97, 3) := by decide +kernel
theorem d_Sto_enterAdded_26 : decode prog_8_method_11_code 26 = .ok (.aload_n 0, 1) := by decide +kernel
theorem d_Sto_enterAdded_27 : decode prog_8_method_11_code 27 = .ok (.dup, 1) := by decide +kernel
theorem d_Sto_enterAdded_28 : decode prog_8_method_11_code 28 = .ok (.getfield 30, 3) := by decide +kernel
theorem d_Sto_enterAdded_31 : decode prog_8_method_11_code 31 = .ok (.iconst 1, 1) := by decide +kernel
theorem d_Sto_enterAdded_32 : decode prog_8_method_11_code 32 = .ok (.iadd, 1) := by decide +kernel
theorem d_Sto_enterAdded_33 : decode prog_8_method_11_code 33 = .ok (.putfield 30, 3) := by decide +kernel
theorem d_Sto_enterAdded_36 : decode prog_8_method_11_code 36 = .ok (.aload_n 0, 1) := by decide +kernel
theorem d_Sto_enterAdded_37 : decode prog_8_method_11_code 37 = .ok (.dup, 1) := by decide +kernel
theorem d_Sto_enterAdded_38 : decode prog_8_method_11_code 38 = .ok (.getfield 23, 3) := by decide +kernel
theorem d_Sto_enterAdded_41 : decode prog_8_method_11_code 41 = .ok (.iconst 1, 1) := by decide +kernel
theorem d_Sto_enterAdded_42 : decode prog_8_method_11_code 42 = .ok (.iadd, 1) := by decide +kernel
theorem d_Sto_enterAdded_43 : decode prog_8_method_11_code 43 = .ok (.putfield 23, 3) := by decide +kernel
theorem d_Sto_enterAdded_46 : decode prog_8_method_11_code 46 = .ok (.aload_n 0, 1) := by decide +kernel
theorem d_Sto_enterAdded_47 : decode prog_8_method_11_code 47 = .ok (.aload_n 1, 1) := by decide +kernel
theorem d_Sto_enterAdded_48 : decode prog_8_method_11_code 48 = .ok (.iconst 1, 1) := by decide +kernel
theorem d_Sto_enterAdded_49 : decode prog_8_method_11_code 49 = .ok (.invokevirtual 100, 3) := by decide +kernel
theorem d_Sto_enterAdded_52 : decode prog_8_method_11_code 52 = .ok (.aload_n 0, 1) := by decide +kernel
theorem d_Sto_enterAdded_53 : decode prog_8_method_11_code 53 = .ok (.invokevirtual 94, 3) := by decide +kernel
theorem d_Sto_enterAdded_56 : decode prog_8_method_11_code 56 = .ok (.return_, 1) := by decide +kernel
theorem d_Sto_enterDropped_0 : decode prog_8_method_12_code 0 = .ok (.aload_n 0, 1) := by decide +kernel
theorem d_Sto_enterDropped_1 : decode prog_8_method_12_code 1 = .ok (.getfield 42, 3) := by decide +kernel
theorem d_Sto_enterDropped_4 : decode prog_8_method_12_code 4 = .ok (.ifCond .eq (4), 3) := by decide +kernel
theorem d_Sto_enterDropped_7 : decode prog_8_method_12_code 7 = .ok (.return_, 1) := by decide +kernel
theorem d_Sto_enterDropped_8 : decode prog_8_method_12_code 8 = .ok (.aload_n 0, 1) := by decide +kernel
theorem d_Sto_enterDropped_9 : decode prog_8_method_12_code 9 = .ok (.dup, 1) := by decide +kernel
theorem d_Sto_enterDropped_10 : decode prog_8_method_12_code 10 = .ok (.getfield 33, 3) := by decide +kernel
theorem d_Sto_enterDropped_13 : decode prog_8_method_12_code 13 = .ok (.iconst 1, 1) := by decide +kernel
theorem d_Sto_enterDropped_14 : decode prog_8_method_12_code 14 = .ok (.iadd, 1) := by decide +kernel
theorem d_Sto_enterDropped_15 : decode prog_8_method_12_code 15 = .ok (.putfield 33, 3) := by decide +kernel
theorem d_Sto_enterDropped_18 : decode prog_8_method_12_code 18 = .ok (.aload_n 0, 1) := by decide +kernel
theorem d_Sto_enterDropped_19 : decode prog_8_method_12_code 19 = .ok (.getfield 19, 3) := by decide +kernel
theorem d_Sto_enterDropped_22 : decode prog_8_method_12_code 22 = .ok (.iload_n 1, 1) := by decide +kernel
theorem d_Sto_enterDropped_23 : decode prog_8_method_12_code 23 = .ok (.aaload, 1) := by decide +kernel
theorem d_Sto_enterDropped_24 : decode prog_8_method_12_code 24 = .ok (.astore_n 2, 1) := by decide +kernel
theorem d_Sto_enterDropped_25 : decode prog_8_method_12_code 25 = .ok (.aload_n 0, 1) := by decide +kernel
theorem d_Sto_enterDropped_26 : decode prog_8_method_12_code 26 = .ok (.aload_n 2, 1) := by decide +kernel
theorem d_Sto_enterDropped_27 : decode prog_8_method_12_code 27 = .ok (.iconst 0, 1) := by decide +kernel
theorem d_Sto_enterDropped_28 : decode prog_8_method_12_code 28 = .ok (.invokevirtual 100, 3) := by decide +kernel
theorem d_Sto_enterDropped_31 : decode prog_8_method_12_code 31 = .ok (.aload_n 0, 1) := by decide +kernel
theorem d_Sto_enterDropped_32 : decode prog_8_method_12_code 32 = .ok (.dup, 1) := by decide +kernel
theorem d_Sto_enterDropped_33 : decode prog_8_method_12_code 33 = .ok (.getfield 23, 3) := by decide +kernel
theorem d_Sto_enterDropped_36 : decode prog_8_method_12_code 36 = .ok (.iconst 1, 1) := by decide +kernel
theorem d_Sto_enterDropped_37 : decode prog_8_method_12_code 37 = .ok (.isub, 1) := by decide +kernel
theorem d_Sto_enterDropped_38 : decode prog_8_method_12_code 38 = .ok (.putfield 23, 3) := by decide +kernel
theorem d_Sto_enterDropped_41 : decode prog_8_method_12_code 41 = .ok (.iload_n 1, 1) := by decide +kernel
theorem d_Sto_enterDropped_42 : decode prog_8_method_12_code 42 = .ok (.istore_n 3, 1) := by decide +kernel
theorem d_Sto_enterDropped_43 : decode prog_8_method_12_code 43 = .ok (.iload_n 3, 1) := by decide +kernel
theorem d_Sto_enterDropped_44 : decode prog_8_method_12_code 44 = .ok (.aload_n 0, 1) := by decide +kernel
theorem d_Sto_enterDropped_45 : decode prog_8_method_12_code 45 = .ok (.getfield 23, 3) := by decide +kernel
theorem d_Sto_enterDropped_48 : decode prog_8_method_12_code 48 = .ok (.if_icmp .ge (23), 3) := by decide +kernel
theorem d_Sto_enterDropped_51 : decode prog_8_method_12_code 51 = .ok (.aload_n 0, 1) := by decide +kernel
theorem d_Sto_enterDropped_52 : decode prog_8_method_12_code 52 = .ok (.getfield 19, 3) := by decide +kernel
theorem d_Sto_enterDropped_55 : decode prog_8_method_12_code 55 = .ok (.iload_n 3, 1) := by decide +kernel
theorem d_Sto_enterDropped_56 : decode prog_8_method_12_code 56 = .ok (.aload_n 0, 1) := by decide +kernel
theorem d_Sto_enterDropped_57 : decode prog_8_method_12_code 57 = .ok (.getfield 19, 3) := by decide +kernel
theorem d_Sto_enterDropped_60 : decode prog_8_method_12_code 60 = .ok (.iload_n 3, 1) := by decide +kernel
theorem d_Sto_enterDropped_61 : decode prog_8_method_12_code 61 = .ok (.iconst 1, 1) := by decide +kernel
theorem d_Sto_enterDropped_62 : decode prog_8_method_12_code 62 = .ok (.iadd, 1) := by decide +kernel
theorem d_Sto_enterDropped_63 : decode prog_8_method_12_code 63 = .ok (.aaload, 1) := by decide +kernel
theorem d_Sto_enterDropped_64 : decode prog_8_method_12_code 64 = .ok (.aastore, 1) := by decide +kernel
theorem d_Sto_enterDropped_65 : decode prog_8_method_12_code 65 = .ok (.iinc 3 (1), 3) := by decide +kernel
theorem d_Sto_enterDropped_68 : decode prog_8_method_12_code 68 = .ok (.goto (-25), 3) := by decide +kernel
theorem d_Sto_enterDropped_71 : decode prog_8_method_12_code 71 = .ok (.aload_n 0, 1) := by decide +kernel
theorem d_Sto_enterDropped_72 : decode prog_8_method_12_code 72 = .ok (.getfield 19, 3) := by decide +kernel
theorem d_Sto_enterDropped_75 : decode prog_8_method_12_code 75 = .ok (.aload_n 0, 1) := by decide +kernel
theorem d_Sto_enterDropped_76 : decode prog_8_method_12_code 76 = .ok (.getfield 23, 3) := by decide +kernel
theorem d_Sto_enterDropped_79 : decode prog_8_method_12_code 79 = .ok (.aload_n 2, 1) := by decide +kernel
theorem d_Sto_enterDropped_80 : decode prog_8_method_12_code 80 = .ok (.aastore, 1) := by decide +kernel
theorem d_Sto_enterDropped_81 : decode prog_8_method_12_code 81 = .ok (.aload_n 0, 1) := by decide +kernel
theorem d_Sto_enterDropped_82 : decode prog_8_method_12_code 82 = .ok (.invokevirtual 94, 3) := by decide +kernel
theorem d_Sto_enterDropped_85 : decode prog_8_method_12_code 85 = .ok (.return_, 1) := by decide +kernel
theorem d_Sto_markBlocks_0 : decode prog_8_method_13_code 0 = .ok (.aload_n 1, 1) := by decide +kernel
theorem d_Sto_markBlocks_1 : decode prog_8_method_13_code 1 = .ok (.getfield 61, 3) := by decide +kernel
theorem d_Sto_markBlocks_4 : decode prog_8_method_13_code 4 = .ok (.invokestatic 53, 3) := by decide +kernel
theorem d_Sto_markBlocks_7 : decode prog_8_method_13_code 7 = .ok (.istore_n 3, 1) := by decide +kernel
theorem d_Sto_markBlocks_8 : decode prog_8_method_13_code 8 = .ok (.iconst 0, 1) := by decide +kernel
theorem d_Sto_markBlocks_9 : decode prog_8_method_13_code 9 = .ok (.istore 4, 2) := by decide +kernel
theorem d_Sto_markBlocks_11 : decode prog_8_method_13_code 11 = .ok (.iload 4, 2) := by decide +kernel
theorem d_Sto_markBlocks_13 : decode prog_8_method_13_code 13 = .ok (.iload_n 3, 1) := by decide +kernel
theorem d_Sto_markBlocks_14 : decode prog_8_method_13_code 14 = .ok (.if_icmp .ge (22), 3) := by decide +kernel
theorem d_Sto_markBlocks_17 : decode prog_8_method_13_code 17 = .ok (.aload_n 0, 1) := by decide +kernel
theorem d_Sto_markBlocks_18 : decode prog_8_method_13_code 18 = .ok (.getfield 13, 3) := by decide +kernel
theorem d_Sto_markBlocks_21 : decode prog_8_method_13_code 21 = .ok (.aload_n 1, 1) := by decide +kernel
theorem d_Sto_markBlocks_22 : decode prog_8_method_13_code 22 = .ok (.getfield 47, 3) := by decide +kernel
theorem d_Sto_markBlocks_25 : decode prog_8_method_13_code 25 = .ok (.iload 4, 2) := by decide +kernel
theorem d_Sto_markBlocks_27 : decode prog_8_method_13_code 27 = .ok (.iaload, 1) := by decide +kernel
theorem d_Sto_markBlocks_28 : decode prog_8_method_13_code 28 = .ok (.iload_n 2, 1) := by decide +kernel
theorem d_Sto_markBlocks_29 : decode prog_8_method_13_code 29 = .ok (.bastore, 1) := by decide +kernel
theorem d_Sto_markBlocks_30 : decode prog_8_method_13_code 30 = .ok (.iinc 4 (1), 3) := by decide +kernel
theorem d_Sto_markBlocks_33 : decode prog_8_method_13_code 33 = .ok (.goto (-22), 3) := by decide +kernel
theorem d_Sto_markBlocks_36 : decode prog_8_method_13_code 36 = .ok (.aload_n 0, 1) := by decide +kernel
theorem d_Sto_markBlocks_37 : decode prog_8_method_13_code 37 = .ok (.dup, 1) := by decide +kernel
theorem d_Sto_markBlocks_38 : decode prog_8_method_13_code 38 = .ok (.getfield 27, 3) := by decide +kernel
theorem d_Sto_markBlocks_41 : decode prog_8_method_13_code 41 = .ok (.iload_n 2, 1) := by decide +kernel
theorem d_Sto_markBlocks_42 : decode prog_8_method_13_code 42 = .ok (.ifCond .eq (8), 3) := by decide +kernel
theorem d_Sto_markBlocks_45 : decode prog_8_method_13_code 45 = .ok (.iload_n 3, 1) := by decide +kernel
theorem d_Sto_markBlocks_46 : decode prog_8_method_13_code 46 = .ok (.ineg, 1) := by decide +kernel
theorem d_Sto_markBlocks_47 : decode prog_8_method_13_code 47 = .ok (.goto (4), 3) := by decide +kernel
theorem d_Sto_markBlocks_50 : decode prog_8_method_13_code 50 = .ok (.iload_n 3, 1) := by decide +kernel
theorem d_Sto_markBlocks_51 : decode prog_8_method_13_code 51 = .ok (.iadd, 1) := by decide +kernel
theorem d_Sto_markBlocks_52 : decode prog_8_method_13_code 52 = .ok (.putfield 27, 3) := by decide +kernel
theorem d_Sto_markBlocks_55 : decode prog_8_method_13_code 55 = .ok (.return_, 1) := by decide +kernel
theorem d_Sto_write_0 : decode prog_8_method_14_code 0 = .ok (.aload_n 0, 1) := by decide +kernel
theorem d_Sto_write_1 : decode prog_8_method_14_code 1 = .ok (.dup, 1) := by decide +kernel
theorem d_Sto_write_2 : decode prog_8_method_14_code 2 = .ok (.getfield 36, 3) := by decide +kernel
theorem d_Sto_write_5 : decode prog_8_method_14_code 5 = .ok (.iconst 1, 1) := by decide +kernel
theorem d_Sto_write_6 : decode prog_8_method_14_code 6 = .ok (.iadd, 1) := by decide +kernel
theorem d_Sto_write_7 : decode prog_8_method_14_code 7 = .ok (.putfield 36, 3) := by decide +kernel
theorem d_Sto_write_10 : decode prog_8_method_14_code 10 = .ok (.aload_n 0, 1) := by decide +kernel
theorem d_Sto_write_11 : decode prog_8_method_14_code 11 = .ok (.getfield 39, 3) := by decide +kernel
theorem d_Sto_write_14 : decode prog_8_method_14_code 14 = .ok (.ifCond .le (29), 3) := by decide +kernel
theorem d_Sto_write_17 : decode prog_8_method_14_code 17 = .ok (.aload_n 0, 1) := by decide +kernel
theorem d_Sto_write_18 : decode prog_8_method_14_code 18 = .ok (.dup, 1) := by decide +kernel
theorem d_Sto_write_19 : decode prog_8_method_14_code 19 = .ok (.getfield 39, 3) := by decide +kernel
theorem d_Sto_write_22 : decode prog_8_method_14_code 22 = .ok (.iconst 1, 1) := by decide +kernel
theorem d_Sto_write_23 : decode prog_8_method_14_code 23 = .ok (.isub, 1) := by decide +kernel
theorem d_Sto_write_24 : decode prog_8_method_14_code 24 = .ok (.putfield 39, 3) := by decide +kernel
theorem d_Sto_write_27 : decode prog_8_method_14_code 27 = .ok (.aload_n 0, 1) := by decide +kernel
theorem d_Sto_write_28 : decode prog_8_method_14_code 28 = .ok (.aload_n 0, 1) := by decide +kernel
theorem d_Sto_write_29 : decode prog_8_method_14_code 29 = .ok (.getfield 39, 3) := by decide +kernel
theorem d_Sto_write_32 : decode prog_8_method_14_code 32 = .ok (.ifCond .ne (7), 3) := by decide +kernel
theorem d_Sto_write_35 : decode prog_8_method_14_code 35 = .ok (.iconst 1, 1) := by decide +kernel
theorem d_Sto_write_36 : decode prog_8_method_14_code 36 = .ok (.goto (4), 3) := by decide +kernel
theorem d_Sto_write_39 : decode prog_8_method_14_code 39 = .ok (.iconst 0, 1) := by decide +kernel
theorem d_Sto_write_40 : decode prog_8_method_14_code 40 = .ok (.putfield 42, 3) := by decide +kernel
theorem d_Sto_write_43 : decode prog_8_method_14_code 43 = .ok (.return_, 1) := by decide +kernel
