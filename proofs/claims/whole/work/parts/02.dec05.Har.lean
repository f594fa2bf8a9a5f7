theorem d_Har_init_0 : decode prog_4_method_1_code 0 = .ok (.aload_n 0, 1) := by decide +kernel
theorem d_Har_init_1 : decode prog_4_method_1_code 1 = .ok (.invokespecial 3, 3) := by decide +kernel
theorem d_Har_init_4 : decode prog_4_method_1_code 4 = .ok (.aload_n 0, 1) := by decide +kernel
theorem d_Har_init_5 : decode prog_4_method_1_code 5 = .ok (.bipush (60), 2) := by decide +kernel
theorem d_Har_init_7 : decode prog_4_method_1_code 7 = .ok (.newarray .int, 2) := by decide +kernel
theorem d_Har_init_9 : decode prog_4_method_1_code 9 = .ok (.putfield 9, 3) := by decide +kernel
theorem d_Har_init_12 : decode prog_4_method_1_code 12 = .ok (.aload_n 0, 1) := by decide +kernel
theorem d_Har_init_13 : decode prog_4_method_1_code 13 = .ok (.bipush (8), 2) := by decide +kernel
theorem d_Har_init_15 : decode prog_4_method_1_code 15 = .ok (.newarray .int, 2) := by decide +kernel
theorem d_Har_init_17 : decode prog_4_method_1_code 17 = .ok (.putfield 15, 3) := by decide +kernel
theorem d_Har_init_20 : decode prog_4_method_1_code 20 = .ok (.aload_n 0, 1) := by decide +kernel
theorem d_Har_init_21 : decode prog_4_method_1_code 21 = .ok (.bipush (8), 2) := by decide +kernel
theorem d_Har_init_23 : decode prog_4_method_1_code 23 = .ok (.newarray .int, 2) := by decide +kernel
theorem d_Har_init_25 : decode prog_4_method_1_code 25 = .ok (.putfield 18, 3) := by decide +kernel
theorem d_Har_init_28 : decode prog_4_method_1_code 28 = .ok (.aload_n 0, 1) := by decide +kernel
theorem d_Har_init_29 : decode prog_4_method_1_code 29 = .ok (.iconst 0, 1) := by decide +kernel
theorem d_Har_init_30 : decode prog_4_method_1_code 30 = .ok (.putfield 21, 3) := by decide +kernel
theorem d_Har_init_33 : decode prog_4_method_1_code 33 = .ok (.aload_n 0, 1) := by decide +kernel
theorem d_Har_init_34 : decode prog_4_method_1_code 34 = .ok (.iconst 0, 1) := by decide +kernel
theorem d_Har_init_35 : decode prog_4_method_1_code 35 = .ok (.putfield 25, 3) := by decide +kernel
theorem d_Har_init_38 : decode prog_4_method_1_code 38 = .ok (.return_, 1) := by decide +kernel
theorem d_Har_clear_0 : decode prog_4_method_2_code 0 = .ok (.aload_n 0, 1) := by decide +kernel
theorem d_Har_clear_1 : decode prog_4_method_2_code 1 = .ok (.iconst 0, 1) := by decide +kernel
theorem d_Har_clear_2 : decode prog_4_method_2_code 2 = .ok (.putfield 21, 3) := by decide +kernel
theorem d_Har_clear_5 : decode prog_4_method_2_code 5 = .ok (.aload_n 0, 1) := by decide +kernel
theorem d_Har_clear_6 : decode prog_4_method_2_code 6 = .ok (.iconst 0, 1) := by decide +kernel
theorem d_Har_clear_7 : decode prog_4_method_2_code 7 = .ok (.putfield 25, 3) := by decide +kernel
theorem d_Har_clear_10 : decode prog_4_method_2_code 10 = .ok (.return_, 1) := by decide +kernel
theorem d_Har_append_0 : decode prog_4_method_3_code 0 = .ok (.aload_n 0, 1) := by decide +kernel
theorem d_Har_append_1 : decode prog_4_method_3_code 1 = .ok (.getfield 21, 3) := by decide +kernel
theorem d_Har_append_4 : decode prog_4_method_3_code 4 = .ok (.bipush (60), 2) := by decide +kernel
theorem d_Har_append_6 : decode prog_4_method_3_code 6 = .ok (.if_icmp .ge (23), 3) := by decide +kernel
theorem d_Har_append_9 : decode prog_4_method_3_code 9 = .ok (.aload_n 0, 1) := by decide +kernel
theorem d_Har_append_10 : decode prog_4_method_3_code 10 = .ok (.getfield 9, 3) := by decide +kernel
theorem d_Har_append_13 : decode prog_4_method_3_code 13 = .ok (.aload_n 0, 1) := by decide +kernel
theorem d_Har_append_14 : decode prog_4_method_3_code 14 = .ok (.getfield 21, 3) := by decide +kernel
theorem d_Har_append_17 : decode prog_4_method_3_code 17 = .ok (.iload_n 1, 1) := by decide +kernel
theorem d_Har_append_18 : decode prog_4_method_3_code 18 = .ok (.iastore, 1) := by decide +kernel
theorem d_Har_append_19 : decode prog_4_method_3_code 19 = .ok (.aload_n 0, 1) := by decide +kernel
theorem d_Har_append_20 : decode prog_4_method_3_code 20 = .ok (.dup, 1) := by decide +kernel
theorem d_Har_append_21 : decode prog_4_method_3_code 21 = .ok (.getfield 21, 3) := by decide +kernel
theorem d_Har_append_24 : decode prog_4_method_3_code 24 = .ok (.iconst 1, 1) := by decide +kernel
theorem d_Har_append_25 : decode prog_4_method_3_code 25 = .ok (.iadd, 1) := by decide +kernel
theorem d_Har_append_26 : decode prog_4_method_3_code 26 = .ok (.putfield 21, 3) := by decide +kernel
theorem d_Har_append_29 : decode prog_4_method_3_code 29 = .ok (.return_, 1) := by decide +kernel
theorem d_Har_findPackets_0 : decode prog_4_method_4_code 0 = .ok (.iconst 0, 1) := by decide +kernel
theorem d_Har_findPackets_1 : decode prog_4_method_4_code 1 = .ok (.istore_n 1, 1) := by decide +kernel
theorem d_Har_findPackets_2 : decode prog_4_method_4_code 2 = .ok (.iconst 0, 1) := by decide +kernel
theorem d_Har_findPackets_3 : decode prog_4_method_4_code 3 = .ok (.istore_n 2, 1) := by decide +kernel
theorem d_Har_findPackets_4 : decode prog_4_method_4_code 4 = .ok (.iload_n 2, 1) := by decide +kernel
theorem d_Har_findPackets_5 : decode prog_4_method_4_code 5 = .ok (.bipush (8), 2) := by decide +kernel
theorem d_Har_findPackets_7 : decode prog_4_method_4_code 7 = .ok (.if_icmp .ge (54), 3) := by decide +kernel
theorem d_Har_findPackets_10 : decode prog_4_method_4_code 10 = .ok (.aload_n 0, 1) := by decide +kernel
theorem d_Har_findPackets_11 : decode prog_4_method_4_code 11 = .ok (.iload_n 1, 1) := by decide +kernel
theorem d_Har_findPackets_12 : decode prog_4_method_4_code 12 = .ok (.invokevirtual 28, 3) := by decide +kernel
theorem d_Har_findPackets_15 : decode prog_4_method_4_code 15 = .ok (.istore_n 3, 1) := by decide +kernel
theorem d_Har_findPackets_16 : decode prog_4_method_4_code 16 = .ok (.iload_n 3, 1) := by decide +kernel
theorem d_Har_findPackets_17 : decode prog_4_method_4_code 17 = .ok (.ifCond .ne (4), 3) := by decide +kernel
theorem d_Har_findPackets_20 : decode prog_4_method_4_code 20 = .ok (.return_, 1) := by decide +kernel
theorem d_Har_findPackets_21 : decode prog_4_method_4_code 21 = .ok (.aload_n 0, 1) := by decide +kernel
theorem d_Har_findPackets_22 : decode prog_4_method_4_code 22 = .ok (.getfield 15, 3) := by decide +kernel
theorem d_Har_findPackets_25 : decode prog_4_method_4_code 25 = .ok (.aload_n 0, 1) := by decide +kernel
theorem d_Har_findPackets_26 : decode prog_4_method_4_code 26 = .ok (.getfield 25, 3) := by decide +kernel
theorem d_Har_findPackets_29 : decode prog_4_method_4_code 29 = .ok (.iload_n 1, 1) := by decide +kernel
theorem d_Har_findPackets_30 : decode prog_4_method_4_code 30 = .ok (.iastore, 1) := by decide +kernel
theorem d_Har_findPackets_31 : decode prog_4_method_4_code 31 = .ok (.aload_n 0, 1) := by decide +kernel
theorem d_Har_findPackets_32 : decode prog_4_method_4_code 32 = .ok (.getfield 18, 3) := by decide +kernel
theorem d_Har_findPackets_35 : decode prog_4_method_4_code 35 = .ok (.aload_n 0, 1) := by decide +kernel
theorem d_Har_findPackets_36 : decode prog_4_method_4_code 36 = .ok (.getfield 25, 3) := by decide +kernel
theorem d_Har_findPackets_39 : decode prog_4_method_4_code 39 = .ok (.iload_n 3, 1) := by decide +kernel
theorem d_Har_findPackets_40 : decode prog_4_method_4_code 40 = .ok (.iastore, 1) := by decide +kernel
theorem d_Har_findPackets_41 : decode prog_4_method_4_code 41 = .ok (.aload_n 0, 1) := by decide +kernel
theorem d_Har_findPackets_42 : decode prog_4_method_4_code 42 = .ok (.dup, 1) := by decide +kernel
theorem d_Har_findPackets_43 : decode prog_4_method_4_code 43 = .ok (.getfield 25, 3) := by decide +kernel
theorem d_Har_findPackets_46 : decode prog_4_method_4_code 46 = .ok (.iconst 1, 1) := by decide +kernel
theorem d_Har_findPackets_47 : decode prog_4_method_4_code 47 = .ok (.iadd, 1) := by decide +kernel
theorem d_Har_findPackets_48 : decode prog_4_method_4_code 48 = .ok (.putfield 25, 3) := by decide +kernel
theorem d_Har_findPackets_51 : decode prog_4_method_4_code 51 = .ok (.iload_n 1, 1) := by decide +kernel
theorem d_Har_findPackets_52 : decode prog_4_method_4_code 52 = .ok (.iload_n 3, 1) := by decide +kernel
theorem d_Har_findPackets_53 : decode prog_4_method_4_code 53 = .ok (.iadd, 1) := by decide +kernel
theorem d_Har_findPackets_54 : decode prog_4_method_4_code 54 = .ok (.istore_n 1, 1) := by decide +kernel
theorem d_Har_findPackets_55 : decode prog_4_method_4_code 55 = .ok (.iinc 2 (1), 3) := by decide +kernel
theorem d_Har_findPackets_58 : decode prog_4_method_4_code 58 = .ok (.goto (-54), 3) := by decide +kernel
theorem d_Har_findPackets_61 : decode prog_4_method_4_code 61 = .ok (.return_, 1) := by decide +kernel
theorem d_Har_findOneWholePacket_0 : decode prog_4_method_5_code 0 = .ok (.aload_n 0, 1) := by decide +kernel
theorem d_Har_findOneWholePacket_1 : decode prog_4_method_5_code 1 = .ok (.getfield 21, 3) := by decide +kernel
theorem d_Har_findOneWholePacket_4 : decode prog_4_method_5_code 4 = .ok (.ifCond .le (37), 3) := by decide +kernel
theorem d_Har_findOneWholePacket_7 : decode prog_4_method_5_code 7 = .ok (.aload_n 0, 1) := by decide +kernel
theorem d_Har_findOneWholePacket_8 : decode prog_4_method_5_code 8 = .ok (.iconst 0, 1) := by decide +kernel
theorem d_Har_findOneWholePacket_9 : decode prog_4_method_5_code 9 = .ok (.invokevirtual 28, 3) := by decide +kernel
theorem d_Har_findOneWholePacket_12 : decode prog_4_method_5_code 12 = .ok (.aload_n 0, 1) := by decide +kernel
theorem d_Har_findOneWholePacket_13 : decode prog_4_method_5_code 13 = .ok (.getfield 21, 3) := by decide +kernel
theorem d_Har_findOneWholePacket_16 : decode prog_4_method_5_code 16 = .ok (.if_icmp .ne (25), 3) := by decide +kernel
theorem d_Har_findOneWholePacket_19 : decode prog_4_method_5_code 19 = .ok (.aload_n 0, 1) := by decide +kernel
theorem d_Har_findOneWholePacket_20 : decode prog_4_method_5_code 20 = .ok (.getfield 15, 3) := by decide +kernel
theorem d_Har_findOneWholePacket_23 : decode prog_4_method_5_code 23 = .ok (.iconst 0, 1) := by decide +kernel
theorem d_Har_findOneWholePacket_24 : decode prog_4_method_5_code 24 = .ok (.iconst 0, 1) := by decide +kernel
theorem d_Har_findOneWholePacket_25 : decode prog_4_method_5_code 25 = .ok (.iastore, 1) := by decide +kernel
theorem d_Har_findOneWholePacket_26 : decode prog_4_method_5_code 26 = .ok (.aload_n 0, 1) := by decide +kernel
theorem d_Har_findOneWholePacket_27 : decode prog_4_method_5_code 27 = .ok (.getfield 18, 3) := by decide +kernel
theorem d_Har_findOneWholePacket_30 : decode prog_4_method_5_code 30 = .ok (.iconst 0, 1) := by decide +kernel
theorem d_Har_findOneWholePacket_31 : decode prog_4_method_5_code 31 = .ok (.aload_n 0, 1) := by decide +kernel
theorem d_Har_findOneWholePacket_32 : decode prog_4_method_5_code 32 = .ok (.getfield 21, 3) := by decide +kernel
theorem d_Har_findOneWholePacket_35 : decode prog_4_method_5_code 35 = .ok (.iastore, 1) := by decide +kernel
theorem d_Har_findOneWholePacket_36 : decode prog_4_method_5_code 36 = .ok (.aload_n 0, 1) := by decide +kernel
theorem d_Har_findOneWholePacket_37 : decode prog_4_method_5_code 37 = .ok (.iconst 1, 1) := by decide +kernel
theorem d_Har_findOneWholePacket_38 : decode prog_4_method_5_code 38 = .ok (.putfield 25, 3) := by decide +kernel
theorem d_Har_findOneWholePacket_41 : decode prog_4_method_5_code 41 = .ok (.return_, 1) := by decide +kernel
theorem d_Har_blocksOfAll_0 : decode prog_4_method_6_code 0 = .ok (.iconst 0, 1) := by decide +kernel
theorem d_Har_blocksOfAll_1 : decode prog_4_method_6_code 1 = .ok (.istore_n 1, 1) := by decide +kernel
theorem d_Har_blocksOfAll_2 : decode prog_4_method_6_code 2 = .ok (.iconst 0, 1) := by decide +kernel
theorem d_Har_blocksOfAll_3 : decode prog_4_method_6_code 3 = .ok (.istore_n 2, 1) := by decide +kernel
theorem d_Har_blocksOfAll_4 : decode prog_4_method_6_code 4 = .ok (.iload_n 2, 1) := by decide +kernel
theorem d_Har_blocksOfAll_5 : decode prog_4_method_6_code 5 = .ok (.aload_n 0, 1) := by decide +kernel
theorem d_Har_blocksOfAll_6 : decode prog_4_method_6_code 6 = .ok (.getfield 25, 3) := by decide +kernel
theorem d_Har_blocksOfAll_9 : decode prog_4_method_6_code 9 = .ok (.if_icmp .ge (21), 3) := by decide +kernel
theorem d_Har_blocksOfAll_12 : decode prog_4_method_6_code 12 = .ok (.iload_n 1, 1) := by decide +kernel
theorem d_Har_blocksOfAll_13 : decode prog_4_method_6_code 13 = .ok (.aload_n 0, 1) := by decide +kernel
theorem d_Har_blocksOfAll_14 : decode prog_4_method_6_code 14 = .ok (.getfield 18, 3) := by decide +kernel
theorem d_Har_blocksOfAll_17 : decode prog_4_method_6_code 17 = .ok (.iload_n 2, 1) := by decide +kernel
theorem d_Har_blocksOfAll_18 : decode prog_4_method_6_code 18 = .ok (.iaload, 1) := by decide +kernel
theorem d_Har_blocksOfAll_19 : decode prog_4_method_6_code 19 = .ok (.invokestatic 32, 3) := by decide +kernel
theorem d_Har_blocksOfAll_22 : decode prog_4_method_6_code 22 = .ok (.iadd, 1) := by decide +kernel
theorem d_Har_blocksOfAll_23 : decode prog_4_method_6_code 23 = .ok (.istore_n 1, 1) := by decide +kernel
theorem d_Har_blocksOfAll_24 : decode prog_4_method_6_code 24 = .ok (.iinc 2 (1), 3) := by decide +kernel
theorem d_Har_blocksOfAll_27 : decode prog_4_method_6_code 27 = .ok (.goto (-23), 3) := by decide +kernel
theorem d_Har_blocksOfAll_30 : decode prog_4_method_6_code 30 = .ok (.iload_n 1, 1) := by decide +kernel
theorem d_Har_blocksOfAll_31 : decode prog_4_method_6_code 31 = .ok (.ireturn, 1) := by decide +kernel
theorem d_Har_packetLengthAt_0 : decode prog_4_method_7_code 0 = .ok (.aload_n 0, 1) := by decide +kernel
theorem d_Har_packetLengthAt_1 : decode prog_4_method_7_code 1 = .ok (.getfield 21, 3) := by decide +kernel
theorem d_Har_packetLengthAt_4 : decode prog_4_method_7_code 4 = .ok (.iload_n 1, 1) := by decide +kernel
theorem d_Har_packetLengthAt_5 : decode prog_4_method_7_code 5 = .ok (.isub, 1) := by decide +kernel
theorem d_Har_packetLengthAt_6 : decode prog_4_method_7_code 6 = .ok (.bipush (7), 2) := by decide +kernel
theorem d_Har_packetLengthAt_8 : decode prog_4_method_7_code 8 = .ok (.if_icmp .lt (25), 3) := by decide +kernel
theorem d_Har_packetLengthAt_11 : decode prog_4_method_7_code 11 = .ok (.aload_n 0, 1) := by decide +kernel
theorem d_Har_packetLengthAt_12 : decode prog_4_method_7_code 12 = .ok (.getfield 9, 3) := by decide +kernel
theorem d_Har_packetLengthAt_15 : decode prog_4_method_7_code 15 = .ok (.iload_n 1, 1) := by decide +kernel
theorem d_Har_packetLengthAt_16 : decode prog_4_method_7_code 16 = .ok (.iaload, 1) := by decide +kernel
theorem d_Har_packetLengthAt_17 : decode prog_4_method_7_code 17 = .ok (.bipush (8), 2) := by decide +kernel
theorem d_Har_packetLengthAt_19 : decode prog_4_method_7_code 19 = .ok (.if_icmp .lt (14), 3) := by decide +kernel
theorem d_Har_packetLengthAt_22 : decode prog_4_method_7_code 22 = .ok (.aload_n 0, 1) := by decide +kernel
theorem d_Har_packetLengthAt_23 : decode prog_4_method_7_code 23 = .ok (.getfield 9, 3) := by decide +kernel
theorem d_Har_packetLengthAt_26 : decode prog_4_method_7_code 26 = .ok (.iload_n 1, 1) := by decide +kernel
theorem d_Har_packetLengthAt_27 : decode prog_4_method_7_code 27 = .ok (.iaload, 1) := by decide +kernel
theorem d_Har_packetLengthAt_28 : decode prog_4_method_7_code 28 = .ok (.bipush (15), 2) := by decide +kernel
theorem d_Har_packetLengthAt_30 : decode prog_4_method_7_code 30 = .ok (.if_icmp .le (5), 3) := by decide +kernel
theorem d_Har_packetLengthAt_33 : decode prog_4_method_7_code 33 = .ok (.iconst 0, 1) := by decide +kernel
theorem d_Har_packetLengthAt_34 : decode prog_4_method_7_code 34 = .ok (.ireturn, 1) := by decide +kernel
theorem d_Har_packetLengthAt_35 : decode prog_4_method_7_code 35 = .ok (.aload_n 0, 1) := by decide +kernel
theorem d_Har_packetLengthAt_36 : decode prog_4_method_7_code 36 = .ok (.getfield 9, 3) := by decide +kernel
theorem d_Har_packetLengthAt_39 : decode prog_4_method_7_code 39 = .ok (.iload_n 1, 1) := by decide +kernel
theorem d_Har_packetLengthAt_40 : decode prog_4_method_7_code 40 = .ok (.iconst 4, 1) := by decide +kernel
theorem d_Har_packetLengthAt_41 : decode prog_4_method_7_code 41 = .ok (.iadd, 1) := by decide +kernel
theorem d_Har_packetLengthAt_42 : decode prog_4_method_7_code 42 = .ok (.iaload, 1) := by decide +kernel
theorem d_Har_packetLengthAt_43 : decode prog_4_method_7_code 43 = .ok (.sipush (256), 3) := by decide +kernel
theorem d_Har_packetLengthAt_46 : decode prog_4_method_7_code 46 = .ok (.imul, 1) := by decide +kernel
theorem d_Har_packetLengthAt_47 : decode prog_4_method_7_code 47 = .ok (.aload_n 0, 1) := by decide +kernel
theorem d_Har_packetLengthAt_48 : decode prog_4_method_7_code 48 = .ok (.getfield 9, 3) := by decide +kernel
theorem d_Har_packetLengthAt_51 : decode prog_4_method_7_code 51 = .ok (.iload_n 1, 1) := by decide +kernel
theorem d_Har_packetLengthAt_52 : decode prog_4_method_7_code 52 = .ok (.iconst 5, 1) := by decide +kernel
theorem d_Har_packetLengthAt_53 : decode prog_4_method_7_code 53 = .ok (.iadd, 1) := by decide +kernel
theorem d_Har_packetLengthAt_54 : decode prog_4_method_7_code 54 = .ok (.iaload, 1) := by decide +kernel
theorem d_Har_packetLengthAt_55 : decode prog_4_method_7_code 55 = .ok (.iadd, 1) := by decide +kernel
theorem d_Har_packetLengthAt_56 : decode prog_4_method_7_code 56 = .ok (.bipush (7), 2) := by decide +kernel
theorem d_Har_packetLengthAt_58 : decode prog_4_method_7_code 58 = .ok (.iadd, 1) := by decide +kernel
theorem d_Har_packetLengthAt_59 : decode prog_4_method_7_code 59 = .ok (.istore_n 2, 1) := by decide +kernel
theorem d_Har_packetLengthAt_60 : decode prog_4_method_7_code 60 = .ok (.iload_n 2, 1) := by decide +kernel
theorem d_Har_packetLengthAt_61 : decode prog_4_method_7_code 61 = .ok (.aload_n 0, 1) := by decide +kernel
theorem d_Har_packetLengthAt_62 : decode prog_4_method_7_code 62 = .ok (.getfield 21, 3) := by decide +kernel
theorem d_Har_packetLengthAt_65 : decode prog_4_method_7_code 65 = .ok (.iload_n 1, 1) := by decide +kernel
theorem d_Har_packetLengthAt_66 : decode prog_4_method_7_code 66 = .ok (.isub, 1) := by decide +kernel
theorem d_Har_packetLengthAt_67 : decode prog_4_method_7_code 67 = .ok (.if_icmp .gt (7), 3) := by decide +kernel
theorem d_Har_packetLengthAt_70 : decode prog_4_method_7_code 70 = .ok (.iload_n 2, 1) := by decide +kernel
theorem d_Har_packetLengthAt_71 : decode prog_4_method_7_code 71 = .ok (.goto (4), 3) := by decide +kernel
theorem d_Har_packetLengthAt_74 : decode prog_4_method_7_code 74 = .ok (.iconst 0, 1) := by decide +kernel
theorem d_Har_packetLengthAt_75 : decode prog_4_method_7_code 75 = .ok (.ireturn, 1) := by decide +kernel
