theorem d_Orb_init_0 : decode prog_1_method_1_code 0 = .ok (.aload_n 0, 1) := by decide +kernel
theorem d_Orb_init_1 : decode prog_1_method_1_code 1 = .ok (.invokespecial 1, 3) := by decide +kernel
theorem d_Orb_init_4 : decode prog_1_method_1_code 4 = .ok (.aload_n 0, 1) := by decide +kernel
theorem d_Orb_init_5 : decode prog_1_method_1_code 5 = .ok (.new 7, 3) := by decide +kernel
theorem d_Orb_init_8 : decode prog_1_method_1_code 8 = .ok (.dup, 1) := by decide +kernel
theorem d_Orb_init_9 : decode prog_1_method_1_code 9 = .ok (.invokespecial 9, 3) := by decide +kernel
theorem d_Orb_init_12 : decode prog_1_method_1_code 12 = .ok (.putfield 10, 3) := by decide +kernel
theorem d_Orb_init_15 : decode prog_1_method_1_code 15 = .ok (.aload_n 0, 1) := by decide +kernel
theorem d_Orb_init_16 : decode prog_1_method_1_code 16 = .ok (.new 7, 3) := by decide +kernel
theorem d_Orb_init_19 : decode prog_1_method_1_code 19 = .ok (.dup, 1) := by decide +kernel
theorem d_Orb_init_20 : decode prog_1_method_1_code 20 = .ok (.invokespecial 9, 3) := by decide +kernel
theorem d_Orb_init_23 : decode prog_1_method_1_code 23 = .ok (.putfield 16, 3) := by decide +kernel
theorem d_Orb_init_26 : decode prog_1_method_1_code 26 = .ok (.aload_n 0, 1) := by decide +kernel
theorem d_Orb_init_27 : decode prog_1_method_1_code 27 = .ok (.new 19, 3) := by decide +kernel
theorem d_Orb_init_30 : decode prog_1_method_1_code 30 = .ok (.dup, 1) := by decide +kernel
theorem d_Orb_init_31 : decode prog_1_method_1_code 31 = .ok (.invokespecial 21, 3) := by decide +kernel
theorem d_Orb_init_34 : decode prog_1_method_1_code 34 = .ok (.putfield 22, 3) := by decide +kernel
theorem d_Orb_init_37 : decode prog_1_method_1_code 37 = .ok (.aload_n 0, 1) := by decide +kernel
theorem d_Orb_init_38 : decode prog_1_method_1_code 38 = .ok (.new 26, 3) := by decide +kernel
theorem d_Orb_init_41 : decode prog_1_method_1_code 41 = .ok (.dup, 1) := by decide +kernel
theorem d_Orb_init_42 : decode prog_1_method_1_code 42 = .ok (.aload_n 0, 1) := by decide +kernel
theorem d_Orb_init_43 : decode prog_1_method_1_code 43 = .ok (.getfield 22, 3) := by decide +kernel
theorem d_Orb_init_46 : decode prog_1_method_1_code 46 = .ok (.invokespecial 28, 3) := by decide +kernel
theorem d_Orb_init_49 : decode prog_1_method_1_code 49 = .ok (.putfield 31, 3) := by decide +kernel
theorem d_Orb_init_52 : decode prog_1_method_1_code 52 = .ok (.aload_n 0, 1) := by decide +kernel
theorem d_Orb_init_53 : decode prog_1_method_1_code 53 = .ok (.new 35, 3) := by decide +kernel
theorem d_Orb_init_56 : decode prog_1_method_1_code 56 = .ok (.dup, 1) := by decide +kernel
theorem d_Orb_init_57 : decode prog_1_method_1_code 57 = .ok (.invokespecial 37, 3) := by decide +kernel
theorem d_Orb_init_60 : decode prog_1_method_1_code 60 = .ok (.putfield 38, 3) := by decide +kernel
theorem d_Orb_init_63 : decode prog_1_method_1_code 63 = .ok (.aload_n 0, 1) := by decide +kernel
theorem d_Orb_init_64 : decode prog_1_method_1_code 64 = .ok (.new 42, 3) := by decide +kernel
theorem d_Orb_init_67 : decode prog_1_method_1_code 67 = .ok (.dup, 1) := by decide +kernel
theorem d_Orb_init_68 : decode prog_1_method_1_code 68 = .ok (.invokespecial 44, 3) := by decide +kernel
theorem d_Orb_init_71 : decode prog_1_method_1_code 71 = .ok (.putfield 45, 3) := by decide +kernel
theorem d_Orb_init_74 : decode prog_1_method_1_code 74 = .ok (.aload_n 0, 1) := by decide +kernel
theorem d_Orb_init_75 : decode prog_1_method_1_code 75 = .ok (.iconst 0, 1) := by decide +kernel
theorem d_Orb_init_76 : decode prog_1_method_1_code 76 = .ok (.putfield 49, 3) := by decide +kernel
theorem d_Orb_init_79 : decode prog_1_method_1_code 79 = .ok (.return_, 1) := by decide +kernel
theorem d_Orb_window_0 : decode prog_1_method_2_code 0 = .ok (.iload_n 1, 1) := by decide +kernel
theorem d_Orb_window_1 : decode prog_1_method_2_code 1 = .ok (.invokestatic 53, 3) := by decide +kernel
theorem d_Orb_window_4 : decode prog_1_method_2_code 4 = .ok (.ifCond .ne (17), 3) := by decide +kernel
theorem d_Orb_window_7 : decode prog_1_method_2_code 7 = .ok (.iload_n 2, 1) := by decide +kernel
theorem d_Orb_window_8 : decode prog_1_method_2_code 8 = .ok (.ifCond .lt (13), 3) := by decide +kernel
theorem d_Orb_window_11 : decode prog_1_method_2_code 11 = .ok (.iload_n 3, 1) := by decide +kernel
theorem d_Orb_window_12 : decode prog_1_method_2_code 12 = .ok (.iconst 1, 1) := by decide +kernel
theorem d_Orb_window_13 : decode prog_1_method_2_code 13 = .ok (.if_icmp .lt (8), 3) := by decide +kernel
theorem d_Orb_window_16 : decode prog_1_method_2_code 16 = .ok (.iload 4, 2) := by decide +kernel
theorem d_Orb_window_18 : decode prog_1_method_2_code 18 = .ok (.ifCond .ge (11), 3) := by decide +kernel
theorem d_Orb_window_21 : decode prog_1_method_2_code 21 = .ok (.new 57, 3) := by decide +kernel
theorem d_Orb_window_24 : decode prog_1_method_2_code 24 = .ok (.dup, 1) := by decide +kernel
theorem d_Orb_window_25 : decode prog_1_method_2_code 25 = .ok (.invokespecial 59, 3) := by decide +kernel
theorem d_Orb_window_28 : decode prog_1_method_2_code 28 = .ok (.athrow, 1) := by decide +kernel
theorem d_Orb_window_29 : decode prog_1_method_2_code 29 = .ok (.aload_n 0, 1) := by decide +kernel
theorem d_Orb_window_30 : decode prog_1_method_2_code 30 = .ok (.iload_n 1, 1) := by decide +kernel
theorem d_Orb_window_31 : decode prog_1_method_2_code 31 = .ok (.invokevirtual 60, 3) := by decide +kernel
theorem d_Orb_window_34 : decode prog_1_method_2_code 34 = .ok (.iload_n 2, 1) := by decide +kernel
theorem d_Orb_window_35 : decode prog_1_method_2_code 35 = .ok (.iload_n 3, 1) := by decide +kernel
theorem d_Orb_window_36 : decode prog_1_method_2_code 36 = .ok (.iload 4, 2) := by decide +kernel
theorem d_Orb_window_38 : decode prog_1_method_2_code 38 = .ok (.invokevirtual 64, 3) := by decide +kernel
theorem d_Orb_window_41 : decode prog_1_method_2_code 41 = .ok (.return_, 1) := by decide +kernel
theorem d_Orb_minute_0 : decode prog_1_method_3_code 0 = .ok (.iload_n 1, 1) := by decide +kernel
theorem d_Orb_minute_1 : decode prog_1_method_3_code 1 = .ok (.iconst 1, 1) := by decide +kernel
theorem d_Orb_minute_2 : decode prog_1_method_3_code 2 = .ok (.if_icmp .lt (10), 3) := by decide +kernel
theorem d_Orb_minute_5 : decode prog_1_method_3_code 5 = .ok (.iload_n 1, 1) := by decide +kernel
theorem d_Orb_minute_6 : decode prog_1_method_3_code 6 = .ok (.sipush (1000), 3) := by decide +kernel
theorem d_Orb_minute_9 : decode prog_1_method_3_code 9 = .ok (.if_icmp .le (11), 3) := by decide +kernel
theorem d_Orb_minute_12 : decode prog_1_method_3_code 12 = .ok (.new 57, 3) := by decide +kernel
theorem d_Orb_minute_15 : decode prog_1_method_3_code 15 = .ok (.dup, 1) := by decide +kernel
theorem d_Orb_minute_16 : decode prog_1_method_3_code 16 = .ok (.invokespecial 59, 3) := by decide +kernel
theorem d_Orb_minute_19 : decode prog_1_method_3_code 19 = .ok (.athrow, 1) := by decide +kernel
theorem d_Orb_minute_20 : decode prog_1_method_3_code 20 = .ok (.aload_n 0, 1) := by decide +kernel
theorem d_Orb_minute_21 : decode prog_1_method_3_code 21 = .ok (.dup, 1) := by decide +kernel
theorem d_Orb_minute_22 : decode prog_1_method_3_code 22 = .ok (.getfield 49, 3) := by decide +kernel
theorem d_Orb_minute_25 : decode prog_1_method_3_code 25 = .ok (.iload_n 1, 1) := by decide +kernel
theorem d_Orb_minute_26 : decode prog_1_method_3_code 26 = .ok (.iadd, 1) := by decide +kernel
theorem d_Orb_minute_27 : decode prog_1_method_3_code 27 = .ok (.putfield 49, 3) := by decide +kernel
theorem d_Orb_minute_30 : decode prog_1_method_3_code 30 = .ok (.aload_n 0, 1) := by decide +kernel
theorem d_Orb_minute_31 : decode prog_1_method_3_code 31 = .ok (.getfield 49, 3) := by decide +kernel
theorem d_Orb_minute_34 : decode prog_1_method_3_code 34 = .ok (.ireturn, 1) := by decide +kernel
theorem d_Orb_seen_0 : decode prog_1_method_4_code 0 = .ok (.iload_n 1, 1) := by decide +kernel
theorem d_Orb_seen_1 : decode prog_1_method_4_code 1 = .ok (.invokestatic 53, 3) := by decide +kernel
theorem d_Orb_seen_4 : decode prog_1_method_4_code 4 = .ok (.ifCond .eq (11), 3) := by decide +kernel
theorem d_Orb_seen_7 : decode prog_1_method_4_code 7 = .ok (.new 57, 3) := by decide +kernel
theorem d_Orb_seen_10 : decode prog_1_method_4_code 10 = .ok (.dup, 1) := by decide +kernel
theorem d_Orb_seen_11 : decode prog_1_method_4_code 11 = .ok (.invokespecial 59, 3) := by decide +kernel
theorem d_Orb_seen_14 : decode prog_1_method_4_code 14 = .ok (.athrow, 1) := by decide +kernel
theorem d_Orb_seen_15 : decode prog_1_method_4_code 15 = .ok (.aload_n 0, 1) := by decide +kernel
theorem d_Orb_seen_16 : decode prog_1_method_4_code 16 = .ok (.iload_n 1, 1) := by decide +kernel
theorem d_Orb_seen_17 : decode prog_1_method_4_code 17 = .ok (.invokevirtual 60, 3) := by decide +kernel
theorem d_Orb_seen_20 : decode prog_1_method_4_code 20 = .ok (.aload_n 0, 1) := by decide +kernel
theorem d_Orb_seen_21 : decode prog_1_method_4_code 21 = .ok (.getfield 49, 3) := by decide +kernel
theorem d_Orb_seen_24 : decode prog_1_method_4_code 24 = .ok (.invokevirtual 68, 3) := by decide +kernel
theorem d_Orb_seen_27 : decode prog_1_method_4_code 27 = .ok (.ireturn, 1) := by decide +kernel
theorem d_Orb_receive_0 : decode prog_1_method_5_code 0 = .ok (.aload_n 0, 1) := by decide +kernel
theorem d_Orb_receive_1 : decode prog_1_method_5_code 1 = .ok (.getfield 22, 3) := by decide +kernel
theorem d_Orb_receive_4 : decode prog_1_method_5_code 4 = .ok (.getfield 71, 3) := by decide +kernel
theorem d_Orb_receive_7 : decode prog_1_method_5_code 7 = .ok (.ifCond .eq (11), 3) := by decide +kernel
theorem d_Orb_receive_10 : decode prog_1_method_5_code 10 = .ok (.new 75, 3) := by decide +kernel
theorem d_Orb_receive_13 : decode prog_1_method_5_code 13 = .ok (.dup, 1) := by decide +kernel
theorem d_Orb_receive_14 : decode prog_1_method_5_code 14 = .ok (.invokespecial 77, 3) := by decide +kernel
theorem d_Orb_receive_17 : decode prog_1_method_5_code 17 = .ok (.athrow, 1) := by decide +kernel
theorem d_Orb_receive_18 : decode prog_1_method_5_code 18 = .ok (.iload_n 2, 1) := by decide +kernel
theorem d_Orb_receive_19 : decode prog_1_method_5_code 19 = .ok (.iconst 1, 1) := by decide +kernel
theorem d_Orb_receive_20 : decode prog_1_method_5_code 20 = .ok (.if_icmp .lt (8), 3) := by decide +kernel
theorem d_Orb_receive_23 : decode prog_1_method_5_code 23 = .ok (.iload_n 2, 1) := by decide +kernel
theorem d_Orb_receive_24 : decode prog_1_method_5_code 24 = .ok (.iconst 4, 1) := by decide +kernel
theorem d_Orb_receive_25 : decode prog_1_method_5_code 25 = .ok (.if_icmp .le (11), 3) := by decide +kernel
theorem d_Orb_receive_28 : decode prog_1_method_5_code 28 = .ok (.new 57, 3) := by decide +kernel
theorem d_Orb_receive_31 : decode prog_1_method_5_code 31 = .ok (.dup, 1) := by decide +kernel
theorem d_Orb_receive_32 : decode prog_1_method_5_code 32 = .ok (.invokespecial 59, 3) := by decide +kernel
theorem d_Orb_receive_35 : decode prog_1_method_5_code 35 = .ok (.athrow, 1) := by decide +kernel
theorem d_Orb_receive_36 : decode prog_1_method_5_code 36 = .ok (.iconst 0, 1) := by decide +kernel
theorem d_Orb_receive_37 : decode prog_1_method_5_code 37 = .ok (.istore_n 3, 1) := by decide +kernel
theorem d_Orb_receive_38 : decode prog_1_method_5_code 38 = .ok (.iload_n 2, 1) := by decide +kernel
theorem d_Orb_receive_39 : decode prog_1_method_5_code 39 = .ok (.iconst 1, 1) := by decide +kernel
theorem d_Orb_receive_40 : decode prog_1_method_5_code 40 = .ok (.isub, 1) := by decide +kernel
theorem d_Orb_receive_41 : decode prog_1_method_5_code 41 = .ok (.istore 4, 2) := by decide +kernel
theorem d_Orb_receive_43 : decode prog_1_method_5_code 43 = .ok (.iload 4, 2) := by decide +kernel
theorem d_Orb_receive_45 : decode prog_1_method_5_code 45 = .ok (.ifCond .lt (44), 3) := by decide +kernel
theorem d_Orb_receive_48 : decode prog_1_method_5_code 48 = .ok (.aload_n 0, 1) := by decide +kernel
theorem d_Orb_receive_49 : decode prog_1_method_5_code 49 = .ok (.getfield 22, 3) := by decide +kernel
theorem d_Orb_receive_52 : decode prog_1_method_5_code 52 = .ok (.getfield 71, 3) := by decide +kernel
theorem d_Orb_receive_55 : decode prog_1_method_5_code 55 = .ok (.ifCond .ne (34), 3) := by decide +kernel
theorem d_Orb_receive_58 : decode prog_1_method_5_code 58 = .ok (.aload_n 0, 1) := by decide +kernel
theorem d_Orb_receive_59 : decode prog_1_method_5_code 59 = .ok (.getfield 38, 3) := by decide +kernel
theorem d_Orb_receive_62 : decode prog_1_method_5_code 62 = .ok (.iload_n 1, 1) := by decide +kernel
theorem d_Orb_receive_63 : decode prog_1_method_5_code 63 = .ok (.bipush (8), 2) := by decide +kernel
theorem d_Orb_receive_65 : decode prog_1_method_5_code 65 = .ok (.iload 4, 2) := by decide +kernel
theorem d_Orb_receive_67 : decode prog_1_method_5_code 67 = .ok (.imul, 1) := by decide +kernel
theorem d_Orb_receive_68 : decode prog_1_method_5_code 68 = .ok (.iushr, 1) := by decide +kernel
theorem d_Orb_receive_69 : decode prog_1_method_5_code 69 = .ok (.sipush (255), 3) := by decide +kernel
theorem d_Orb_receive_72 : decode prog_1_method_5_code 72 = .ok (.iand, 1) := by decide +kernel
theorem d_Orb_receive_73 : decode prog_1_method_5_code 73 = .ok (.invokevirtual 78, 3) := by decide +kernel
theorem d_Orb_receive_76 : decode prog_1_method_5_code 76 = .ok (.iload_n 3, 1) := by decide +kernel
theorem d_Orb_receive_77 : decode prog_1_method_5_code 77 = .ok (.aload_n 0, 1) := by decide +kernel
theorem d_Orb_receive_78 : decode prog_1_method_5_code 78 = .ok (.invokevirtual 82, 3) := by decide +kernel
theorem d_Orb_receive_81 : decode prog_1_method_5_code 81 = .ok (.iadd, 1) := by decide +kernel
theorem d_Orb_receive_82 : decode prog_1_method_5_code 82 = .ok (.istore_n 3, 1) := by decide +kernel
theorem d_Orb_receive_83 : decode prog_1_method_5_code 83 = .ok (.iinc 4 (-1), 3) := by decide +kernel
theorem d_Orb_receive_86 : decode prog_1_method_5_code 86 = .ok (.goto (-43), 3) := by decide +kernel
theorem d_Orb_receive_89 : decode prog_1_method_5_code 89 = .ok (.iload_n 3, 1) := by decide +kernel
theorem d_Orb_receive_90 : decode prog_1_method_5_code 90 = .ok (.ireturn, 1) := by decide +kernel
theorem d_Orb_report_0 : decode prog_1_method_6_code 0 = .ok (.aload_n 0, 1) := by decide +kernel
theorem d_Orb_report_1 : decode prog_1_method_6_code 1 = .ok (.getfield 22, 3) := by decide +kernel
theorem d_Orb_report_4 : decode prog_1_method_6_code 4 = .ok (.getfield 71, 3) := by decide +kernel
theorem d_Orb_report_7 : decode prog_1_method_6_code 7 = .ok (.ifCond .eq (11), 3) := by decide +kernel
theorem d_Orb_report_10 : decode prog_1_method_6_code 10 = .ok (.new 75, 3) := by decide +kernel
theorem d_Orb_report_13 : decode prog_1_method_6_code 13 = .ok (.dup, 1) := by decide +kernel
theorem d_Orb_report_14 : decode prog_1_method_6_code 14 = .ok (.invokespecial 77, 3) := by decide +kernel
theorem d_Orb_report_17 : decode prog_1_method_6_code 17 = .ok (.athrow, 1) := by decide +kernel
theorem d_Orb_report_18 : decode prog_1_method_6_code 18 = .ok (.aload_n 0, 1) := by decide +kernel
theorem d_Orb_report_19 : decode prog_1_method_6_code 19 = .ok (.getfield 31, 3) := by decide +kernel
theorem d_Orb_report_22 : decode prog_1_method_6_code 22 = .ok (.invokevirtual 86, 3) := by decide +kernel
theorem d_Orb_report_25 : decode prog_1_method_6_code 25 = .ok (.ireturn, 1) := by decide +kernel
theorem d_Orb_send_0 : decode prog_1_method_7_code 0 = .ok (.aload_n 0, 1) := by decide +kernel
theorem d_Orb_send_1 : decode prog_1_method_7_code 1 = .ok (.getfield 22, 3) := by decide +kernel
theorem d_Orb_send_4 : decode prog_1_method_7_code 4 = .ok (.getfield 71, 3) := by decide +kernel
theorem d_Orb_send_7 : decode prog_1_method_7_code 7 = .ok (.ifCond .eq (11), 3) := by decide +kernel
theorem d_Orb_send_10 : decode prog_1_method_7_code 10 = .ok (.new 75, 3) := by decide +kernel
theorem d_Orb_send_13 : decode prog_1_method_7_code 13 = .ok (.dup, 1) := by decide +kernel
theorem d_Orb_send_14 : decode prog_1_method_7_code 14 = .ok (.invokespecial 77, 3) := by decide +kernel
theorem d_Orb_send_17 : decode prog_1_method_7_code 17 = .ok (.athrow, 1) := by decide +kernel
theorem d_Orb_send_18 : decode prog_1_method_7_code 18 = .ok (.iload_n 1, 1) := by decide +kernel
theorem d_Orb_send_19 : decode prog_1_method_7_code 19 = .ok (.invokestatic 53, 3) := by decide +kernel
theorem d_Orb_send_22 : decode prog_1_method_7_code 22 = .ok (.ifCond .eq (11), 3) := by decide +kernel
theorem d_Orb_send_25 : decode prog_1_method_7_code 25 = .ok (.new 57, 3) := by decide +kernel
theorem d_Orb_send_28 : decode prog_1_method_7_code 28 = .ok (.dup, 1) := by decide +kernel
theorem d_Orb_send_29 : decode prog_1_method_7_code 29 = .ok (.invokespecial 59, 3) := by decide +kernel
theorem d_Orb_send_32 : decode prog_1_method_7_code 32 = .ok (.athrow, 1) := by decide +kernel
theorem d_Orb_send_33 : decode prog_1_method_7_code 33 = .ok (.aload_n 0, 1) := by decide +kernel
theorem d_Orb_send_34 : decode prog_1_method_7_code 34 = .ok (.getfield 16, 3) := by decide +kernel
theorem d_Orb_send_37 : decode prog_1_method_7_code 37 = .ok (.aload_n 0, 1) := by decide +kernel
theorem d_Orb_send_38 : decode prog_1_method_7_code 38 = .ok (.getfield 49, 3) := by decide +kernel
theorem d_Orb_send_41 : decode prog_1_method_7_code 41 = .ok (.invokevirtual 68, 3) := by decide +kernel
theorem d_Orb_send_44 : decode prog_1_method_7_code 44 = .ok (.ifCond .ne (11), 3) := by decide +kernel
theorem d_Orb_send_47 : decode prog_1_method_7_code 47 = .ok (.new 89, 3) := by decide +kernel
theorem d_Orb_send_50 : decode prog_1_method_7_code 50 = .ok (.dup, 1) := by decide +kernel
theorem d_Orb_send_51 : decode prog_1_method_7_code 51 = .ok (.invokespecial 91, 3) := by decide +kernel
theorem d_Orb_send_54 : decode prog_1_method_7_code 54 = .ok (.athrow, 1) := by decide +kernel
theorem d_Orb_send_55 : decode prog_1_method_7_code 55 = .ok (.aload_n 0, 1) := by decide +kernel
theorem d_Orb_send_56 : decode prog_1_method_7_code 56 = .ok (.getfield 45, 3) := by decide +kernel
theorem d_Orb_send_59 : decode prog_1_method_7_code 59 = .ok (.iload_n 1, 1) := by decide +kernel
theorem d_Orb_send_60 : decode prog_1_method_7_code 60 = .ok (.aload_n 0, 1) := by decide +kernel
theorem d_Orb_send_61 : decode prog_1_method_7_code 61 = .ok (.getfield 22, 3) := by decide +kernel
theorem d_Orb_send_64 : decode prog_1_method_7_code 64 = .ok (.invokevirtual 92, 3) := by decide +kernel
theorem d_Orb_send_67 : decode prog_1_method_7_code 67 = .ok (.ireturn, 1) := by decide +kernel
theorem d_Orb_sent_0 : decode prog_1_method_8_code 0 = .ok (.aload_n 0, 1) := by decide +kernel
theorem d_Orb_sent_1 : decode prog_1_method_8_code 1 = .ok (.getfield 45, 3) := by decide +kernel
theorem d_Orb_sent_4 : decode prog_1_method_8_code 4 = .ok (.iload_n 1, 1) := by decide +kernel
theorem d_Orb_sent_5 : decode prog_1_method_8_code 5 = .ok (.invokevirtual 96, 3) := by decide +kernel
theorem d_Orb_sent_8 : decode prog_1_method_8_code 8 = .ok (.ifCond .ne (11), 3) := by decide +kernel
theorem d_Orb_sent_11 : decode prog_1_method_8_code 11 = .ok (.new 99, 3) := by decide +kernel
theorem d_Orb_sent_14 : decode prog_1_method_8_code 14 = .ok (.dup, 1) := by decide +kernel
theorem d_Orb_sent_15 : decode prog_1_method_8_code 15 = .ok (.invokespecial 101, 3) := by decide +kernel
theorem d_Orb_sent_18 : decode prog_1_method_8_code 18 = .ok (.athrow, 1) := by decide +kernel
theorem d_Orb_sent_19 : decode prog_1_method_8_code 19 = .ok (.aload_n 0, 1) := by decide +kernel
theorem d_Orb_sent_20 : decode prog_1_method_8_code 20 = .ok (.getfield 45, 3) := by decide +kernel
theorem d_Orb_sent_23 : decode prog_1_method_8_code 23 = .ok (.getfield 102, 3) := by decide +kernel
theorem d_Orb_sent_26 : decode prog_1_method_8_code 26 = .ok (.iload_n 1, 1) := by decide +kernel
theorem d_Orb_sent_27 : decode prog_1_method_8_code 27 = .ok (.iaload, 1) := by decide +kernel
theorem d_Orb_sent_28 : decode prog_1_method_8_code 28 = .ok (.ireturn, 1) := by decide +kernel
theorem d_Orb_fail_0 : decode prog_1_method_9_code 0 = .ok (.aload_n 0, 1) := by decide +kernel
theorem d_Orb_fail_1 : decode prog_1_method_9_code 1 = .ok (.getfield 22, 3) := by decide +kernel
theorem d_Orb_fail_4 : decode prog_1_method_9_code 4 = .ok (.getfield 71, 3) := by decide +kernel
theorem d_Orb_fail_7 : decode prog_1_method_9_code 7 = .ok (.ifCond .eq (11), 3) := by decide +kernel
theorem d_Orb_fail_10 : decode prog_1_method_9_code 10 = .ok (.new 75, 3) := by decide +kernel
theorem d_Orb_fail_13 : decode prog_1_method_9_code 13 = .ok (.dup, 1) := by decide +kernel
theorem d_Orb_fail_14 : decode prog_1_method_9_code 14 = .ok (.invokespecial 77, 3) := by decide +kernel
theorem d_Orb_fail_17 : decode prog_1_method_9_code 17 = .ok (.athrow, 1) := by decide +kernel
theorem d_Orb_fail_18 : decode prog_1_method_9_code 18 = .ok (.iload_n 1, 1) := by decide +kernel
theorem d_Orb_fail_19 : decode prog_1_method_9_code 19 = .ok (.iconst 1, 1) := by decide +kernel
theorem d_Orb_fail_20 : decode prog_1_method_9_code 20 = .ok (.if_icmp .lt (9), 3) := by decide +kernel
theorem d_Orb_fail_23 : decode prog_1_method_9_code 23 = .ok (.iload_n 1, 1) := by decide +kernel
theorem d_Orb_fail_24 : decode prog_1_method_9_code 24 = .ok (.bipush (100), 2) := by decide +kernel
theorem d_Orb_fail_26 : decode prog_1_method_9_code 26 = .ok (.if_icmp .le (11), 3) := by decide +kernel
theorem d_Orb_fail_29 : decode prog_1_method_9_code 29 = .ok (.new 57, 3) := by decide +kernel
theorem d_Orb_fail_32 : decode prog_1_method_9_code 32 = .ok (.dup, 1) := by decide +kernel
theorem d_Orb_fail_33 : decode prog_1_method_9_code 33 = .ok (.invokespecial 59, 3) := by decide +kernel
theorem d_Orb_fail_36 : decode prog_1_method_9_code 36 = .ok (.athrow, 1) := by decide +kernel
theorem d_Orb_fail_37 : decode prog_1_method_9_code 37 = .ok (.aload_n 0, 1) := by decide +kernel
theorem d_Orb_fail_38 : decode prog_1_method_9_code 38 = .ok (.getfield 22, 3) := by decide +kernel
theorem d_Orb_fail_41 : decode prog_1_method_9_code 41 = .ok (.iload_n 1, 1) := by decide +kernel
theorem d_Orb_fail_42 : decode prog_1_method_9_code 42 = .ok (.putfield 106, 3) := by decide +kernel
theorem d_Orb_fail_45 : decode prog_1_method_9_code 45 = .ok (.return_, 1) := by decide +kernel
theorem d_Orb_power_0 : decode prog_1_method_10_code 0 = .ok (.aload_n 0, 1) := by decide +kernel
theorem d_Orb_power_1 : decode prog_1_method_10_code 1 = .ok (.getfield 22, 3) := by decide +kernel
theorem d_Orb_power_4 : decode prog_1_method_10_code 4 = .ok (.invokevirtual 109, 3) := by decide +kernel
theorem d_Orb_power_7 : decode prog_1_method_10_code 7 = .ok (.aload_n 0, 1) := by decide +kernel
theorem d_Orb_power_8 : decode prog_1_method_10_code 8 = .ok (.getfield 31, 3) := by decide +kernel
theorem d_Orb_power_11 : decode prog_1_method_10_code 11 = .ok (.invokevirtual 112, 3) := by decide +kernel
theorem d_Orb_power_14 : decode prog_1_method_10_code 14 = .ok (.aload_n 0, 1) := by decide +kernel
theorem d_Orb_power_15 : decode prog_1_method_10_code 15 = .ok (.getfield 38, 3) := by decide +kernel
theorem d_Orb_power_18 : decode prog_1_method_10_code 18 = .ok (.invokevirtual 113, 3) := by decide +kernel
theorem d_Orb_power_21 : decode prog_1_method_10_code 21 = .ok (.aload_n 0, 1) := by decide +kernel
theorem d_Orb_power_22 : decode prog_1_method_10_code 22 = .ok (.getfield 22, 3) := by decide +kernel
theorem d_Orb_power_25 : decode prog_1_method_10_code 25 = .ok (.getfield 116, 3) := by decide +kernel
theorem d_Orb_power_28 : decode prog_1_method_10_code 28 = .ok (.ireturn, 1) := by decide +kernel
theorem d_Orb_out_0 : decode prog_1_method_11_code 0 = .ok (.aload_n 0, 1) := by decide +kernel
theorem d_Orb_out_1 : decode prog_1_method_11_code 1 = .ok (.getfield 22, 3) := by decide +kernel
theorem d_Orb_out_4 : decode prog_1_method_11_code 4 = .ok (.getfield 71, 3) := by decide +kernel
theorem d_Orb_out_7 : decode prog_1_method_11_code 7 = .ok (.ireturn, 1) := by decide +kernel
theorem d_Orb_store_0 : decode prog_1_method_12_code 0 = .ok (.iload_n 1, 1) := by decide +kernel
theorem d_Orb_store_1 : decode prog_1_method_12_code 1 = .ok (.tableswitch (63) 0 3 #[31, 39, 47, 55], 31) := by decide +kernel
theorem d_Orb_store_32 : decode prog_1_method_12_code 32 = .ok (.aload_n 0, 1) := by decide +kernel
theorem d_Orb_store_33 : decode prog_1_method_12_code 33 = .ok (.getfield 22, 3) := by decide +kernel
theorem d_Orb_store_36 : decode prog_1_method_12_code 36 = .ok (.getfield 116, 3) := by decide +kernel
theorem d_Orb_store_39 : decode prog_1_method_12_code 39 = .ok (.ireturn, 1) := by decide +kernel
theorem d_Orb_store_40 : decode prog_1_method_12_code 40 = .ok (.aload_n 0, 1) := by decide +kernel
theorem d_Orb_store_41 : decode prog_1_method_12_code 41 = .ok (.getfield 22, 3) := by decide +kernel
theorem d_Orb_store_44 : decode prog_1_method_12_code 44 = .ok (.getfield 119, 3) := by decide +kernel
theorem d_Orb_store_47 : decode prog_1_method_12_code 47 = .ok (.ireturn, 1) := by decide +kernel
theorem d_Orb_store_48 : decode prog_1_method_12_code 48 = .ok (.aload_n 0, 1) := by decide +kernel
theorem d_Orb_store_49 : decode prog_1_method_12_code 49 = .ok (.getfield 22, 3) := by decide +kernel
theorem d_Orb_store_52 : decode prog_1_method_12_code 52 = .ok (.getfield 122, 3) := by decide +kernel
theorem d_Orb_store_55 : decode prog_1_method_12_code 55 = .ok (.ireturn, 1) := by decide +kernel
theorem d_Orb_store_56 : decode prog_1_method_12_code 56 = .ok (.aload_n 0, 1) := by decide +kernel
theorem d_Orb_store_57 : decode prog_1_method_12_code 57 = .ok (.getfield 22, 3) := by decide +kernel
theorem d_Orb_store_60 : decode prog_1_method_12_code 60 = .ok (.getfield 125, 3) := by decide +kernel
theorem d_Orb_store_63 : decode prog_1_method_12_code 63 = .ok (.ireturn, 1) := by decide +kernel
theorem d_Orb_store_64 : decode prog_1_method_12_code 64 = .ok (.new 57, 3) := by decide +kernel
theorem d_Orb_store_67 : decode prog_1_method_12_code 67 = .ok (.dup, 1) := by decide +kernel
theorem d_Orb_store_68 : decode prog_1_method_12_code 68 = .ok (.invokespecial 59, 3) := by decide +kernel
theorem d_Orb_store_71 : decode prog_1_method_12_code 71 = .ok (.athrow, 1) := by decide +kernel
theorem d_Orb_packet_0 : decode prog_1_method_13_code 0 = .ok (.aload_n 0, 1) := by decide +kernel
theorem d_Orb_packet_1 : decode prog_1_method_13_code 1 = .ok (.getfield 22, 3) := by decide +kernel
theorem d_Orb_packet_4 : decode prog_1_method_13_code 4 = .ok (.iload_n 1, 1) := by decide +kernel
theorem d_Orb_packet_5 : decode prog_1_method_13_code 5 = .ok (.invokevirtual 128, 3) := by decide +kernel
theorem d_Orb_packet_8 : decode prog_1_method_13_code 8 = .ok (.ifCond .ne (11), 3) := by decide +kernel
theorem d_Orb_packet_11 : decode prog_1_method_13_code 11 = .ok (.new 99, 3) := by decide +kernel
theorem d_Orb_packet_14 : decode prog_1_method_13_code 14 = .ok (.dup, 1) := by decide +kernel
theorem d_Orb_packet_15 : decode prog_1_method_13_code 15 = .ok (.invokespecial 101, 3) := by decide +kernel
theorem d_Orb_packet_18 : decode prog_1_method_13_code 18 = .ok (.athrow, 1) := by decide +kernel
theorem d_Orb_packet_19 : decode prog_1_method_13_code 19 = .ok (.aload_n 0, 1) := by decide +kernel
theorem d_Orb_packet_20 : decode prog_1_method_13_code 20 = .ok (.getfield 22, 3) := by decide +kernel
theorem d_Orb_packet_23 : decode prog_1_method_13_code 23 = .ok (.getfield 131, 3) := by decide +kernel
theorem d_Orb_packet_26 : decode prog_1_method_13_code 26 = .ok (.iload_n 1, 1) := by decide +kernel
theorem d_Orb_packet_27 : decode prog_1_method_13_code 27 = .ok (.aaload, 1) := by decide +kernel
theorem d_Orb_packet_28 : decode prog_1_method_13_code 28 = .ok (.astore_n 3, 1) := by decide +kernel
theorem d_Orb_packet_29 : decode prog_1_method_13_code 29 = .ok (.iload_n 2, 1) := by decide +kernel
theorem d_Orb_packet_30 : decode prog_1_method_13_code 30 = .ok (.tableswitch (61) 0 4 #[34, 39, 44, 49, 56], 34) := by decide +kernel
theorem d_Orb_packet_64 : decode prog_1_method_13_code 64 = .ok (.aload_n 3, 1) := by decide +kernel
theorem d_Orb_packet_65 : decode prog_1_method_13_code 65 = .ok (.getfield 135, 3) := by decide +kernel
theorem d_Orb_packet_68 : decode prog_1_method_13_code 68 = .ok (.ireturn, 1) := by decide +kernel
theorem d_Orb_packet_69 : decode prog_1_method_13_code 69 = .ok (.aload_n 3, 1) := by decide +kernel
theorem d_Orb_packet_70 : decode prog_1_method_13_code 70 = .ok (.getfield 140, 3) := by decide +kernel
theorem d_Orb_packet_73 : decode prog_1_method_13_code 73 = .ok (.ireturn, 1) := by decide +kernel
theorem d_Orb_packet_74 : decode prog_1_method_13_code 74 = .ok (.aload_n 3, 1) := by decide +kernel
theorem d_Orb_packet_75 : decode prog_1_method_13_code 75 = .ok (.getfield 143, 3) := by decide +kernel
theorem d_Orb_packet_78 : decode prog_1_method_13_code 78 = .ok (.ireturn, 1) := by decide +kernel
theorem d_Orb_packet_79 : decode prog_1_method_13_code 79 = .ok (.aload_n 3, 1) := by decide +kernel
theorem d_Orb_packet_80 : decode prog_1_method_13_code 80 = .ok (.getfield 146, 3) := by decide +kernel
theorem d_Orb_packet_83 : decode prog_1_method_13_code 83 = .ok (.iconst 0, 1) := by decide +kernel
theorem d_Orb_packet_84 : decode prog_1_method_13_code 84 = .ok (.iaload, 1) := by decide +kernel
theorem d_Orb_packet_85 : decode prog_1_method_13_code 85 = .ok (.ireturn, 1) := by decide +kernel
theorem d_Orb_packet_86 : decode prog_1_method_13_code 86 = .ok (.aload_n 3, 1) := by decide +kernel
theorem d_Orb_packet_87 : decode prog_1_method_13_code 87 = .ok (.getfield 149, 3) := by decide +kernel
theorem d_Orb_packet_90 : decode prog_1_method_13_code 90 = .ok (.ireturn, 1) := by decide +kernel
theorem d_Orb_packet_91 : decode prog_1_method_13_code 91 = .ok (.new 57, 3) := by decide +kernel
theorem d_Orb_packet_94 : decode prog_1_method_13_code 94 = .ok (.dup, 1) := by decide +kernel
theorem d_Orb_packet_95 : decode prog_1_method_13_code 95 = .ok (.invokespecial 59, 3) := by decide +kernel
theorem d_Orb_packet_98 : decode prog_1_method_13_code 98 = .ok (.athrow, 1) := by decide +kernel
theorem d_Orb_content_0 : decode prog_1_method_14_code 0 = .ok (.aload_n 0, 1) := by decide +kernel
theorem d_Orb_content_1 : decode prog_1_method_14_code 1 = .ok (.getfield 22, 3) := by decide +kernel
theorem d_Orb_content_4 : decode prog_1_method_14_code 4 = .ok (.iload_n 1, 1) := by decide +kernel
theorem d_Orb_content_5 : decode prog_1_method_14_code 5 = .ok (.invokevirtual 128, 3) := by decide +kernel
theorem d_Orb_content_8 : decode prog_1_method_14_code 8 = .ok (.ifCond .eq (23), 3) := by decide +kernel
theorem d_Orb_content_11 : decode prog_1_method_14_code 11 = .ok (.iload_n 2, 1) := by decide +kernel
theorem d_Orb_content_12 : decode prog_1_method_14_code 12 = .ok (.ifCond .lt (19), 3) := by decide +kernel
theorem d_Orb_content_15 : decode prog_1_method_14_code 15 = .ok (.iload_n 2, 1) := by decide +kernel
theorem d_Orb_content_16 : decode prog_1_method_14_code 16 = .ok (.aload_n 0, 1) := by decide +kernel
theorem d_Orb_content_17 : decode prog_1_method_14_code 17 = .ok (.getfield 22, 3) := by decide +kernel
theorem d_Orb_content_20 : decode prog_1_method_14_code 20 = .ok (.getfield 131, 3) := by decide +kernel
theorem d_Orb_content_23 : decode prog_1_method_14_code 23 = .ok (.iload_n 1, 1) := by decide +kernel
theorem d_Orb_content_24 : decode prog_1_method_14_code 24 = .ok (.aaload, 1) := by decide +kernel
theorem d_Orb_content_25 : decode prog_1_method_14_code 25 = .ok (.getfield 140, 3) := by decide +kernel
theorem d_Orb_content_28 : decode prog_1_method_14_code 28 = .ok (.if_icmp .lt (11), 3) := by decide +kernel
theorem d_Orb_content_31 : decode prog_1_method_14_code 31 = .ok (.new 99, 3) := by decide +kernel
theorem d_Orb_content_34 : decode prog_1_method_14_code 34 = .ok (.dup, 1) := by decide +kernel
theorem d_Orb_content_35 : decode prog_1_method_14_code 35 = .ok (.invokespecial 101, 3) := by decide +kernel
theorem d_Orb_content_38 : decode prog_1_method_14_code 38 = .ok (.athrow, 1) := by decide +kernel
theorem d_Orb_content_39 : decode prog_1_method_14_code 39 = .ok (.aload_n 0, 1) := by decide +kernel
theorem d_Orb_content_40 : decode prog_1_method_14_code 40 = .ok (.getfield 22, 3) := by decide +kernel
theorem d_Orb_content_43 : decode prog_1_method_14_code 43 = .ok (.aload_n 0, 1) := by decide +kernel
theorem d_Orb_content_44 : decode prog_1_method_14_code 44 = .ok (.getfield 22, 3) := by decide +kernel
theorem d_Orb_content_47 : decode prog_1_method_14_code 47 = .ok (.getfield 131, 3) := by decide +kernel
theorem d_Orb_content_50 : decode prog_1_method_14_code 50 = .ok (.iload_n 1, 1) := by decide +kernel
theorem d_Orb_content_51 : decode prog_1_method_14_code 51 = .ok (.aaload, 1) := by decide +kernel
theorem d_Orb_content_52 : decode prog_1_method_14_code 52 = .ok (.iload_n 2, 1) := by decide +kernel
theorem d_Orb_content_53 : decode prog_1_method_14_code 53 = .ok (.invokevirtual 152, 3) := by decide +kernel
theorem d_Orb_content_56 : decode prog_1_method_14_code 56 = .ok (.ireturn, 1) := by decide +kernel
theorem d_Orb_isNoPair_0 : decode prog_1_method_15_code 0 = .ok (.iload_n 0, 1) := by decide +kernel
theorem d_Orb_isNoPair_1 : decode prog_1_method_15_code 1 = .ok (.ifCond .eq (12), 3) := by decide +kernel
theorem d_Orb_isNoPair_4 : decode prog_1_method_15_code 4 = .ok (.iload_n 0, 1) := by decide +kernel
theorem d_Orb_isNoPair_5 : decode prog_1_method_15_code 5 = .ok (.iconst 1, 1) := by decide +kernel
theorem d_Orb_isNoPair_6 : decode prog_1_method_15_code 6 = .ok (.if_icmp .eq (7), 3) := by decide +kernel
theorem d_Orb_isNoPair_9 : decode prog_1_method_15_code 9 = .ok (.iconst 1, 1) := by decide +kernel
theorem d_Orb_isNoPair_10 : decode prog_1_method_15_code 10 = .ok (.goto (4), 3) := by decide +kernel
theorem d_Orb_isNoPair_13 : decode prog_1_method_15_code 13 = .ok (.iconst 0, 1) := by decide +kernel
theorem d_Orb_isNoPair_14 : decode prog_1_method_15_code 14 = .ok (.ireturn, 1) := by decide +kernel
theorem d_Orb_windowOf_0 : decode prog_1_method_16_code 0 = .ok (.iload_n 1, 1) := by decide +kernel
theorem d_Orb_windowOf_1 : decode prog_1_method_16_code 1 = .ok (.ifCond .ne (10), 3) := by decide +kernel
theorem d_Orb_windowOf_4 : decode prog_1_method_16_code 4 = .ok (.aload_n 0, 1) := by decide +kernel
theorem d_Orb_windowOf_5 : decode prog_1_method_16_code 5 = .ok (.getfield 10, 3) := by decide +kernel
theorem d_Orb_windowOf_8 : decode prog_1_method_16_code 8 = .ok (.goto (7), 3) := by decide +kernel
theorem d_Orb_windowOf_11 : decode prog_1_method_16_code 11 = .ok (.aload_n 0, 1) := by decide +kernel
theorem d_Orb_windowOf_12 : decode prog_1_method_16_code 12 = .ok (.getfield 16, 3) := by decide +kernel
theorem d_Orb_windowOf_15 : decode prog_1_method_16_code 15 = .ok (.areturn, 1) := by decide +kernel
theorem d_Orb_takeFrames_0 : decode prog_1_method_17_code 0 = .ok (.iconst 0, 1) := by decide +kernel
theorem d_Orb_takeFrames_1 : decode prog_1_method_17_code 1 = .ok (.istore_n 1, 1) := by decide +kernel
theorem d_Orb_takeFrames_2 : decode prog_1_method_17_code 2 = .ok (.iconst 0, 1) := by decide +kernel
theorem d_Orb_takeFrames_3 : decode prog_1_method_17_code 3 = .ok (.istore_n 2, 1) := by decide +kernel
theorem d_Orb_takeFrames_4 : decode prog_1_method_17_code 4 = .ok (.iload_n 2, 1) := by decide +kernel
theorem d_Orb_takeFrames_5 : decode prog_1_method_17_code 5 = .ok (.bipush (71), 2) := by decide +kernel
theorem d_Orb_takeFrames_7 : decode prog_1_method_17_code 7 = .ok (.if_icmp .ge (88), 3) := by decide +kernel
theorem d_Orb_takeFrames_10 : decode prog_1_method_17_code 10 = .ok (.aload_n 0, 1) := by decide +kernel
theorem d_Orb_takeFrames_11 : decode prog_1_method_17_code 11 = .ok (.getfield 22, 3) := by decide +kernel
theorem d_Orb_takeFrames_14 : decode prog_1_method_17_code 14 = .ok (.getfield 71, 3) := by decide +kernel
theorem d_Orb_takeFrames_17 : decode prog_1_method_17_code 17 = .ok (.ifCond .ne (78), 3) := by decide +kernel
theorem d_Orb_takeFrames_20 : decode prog_1_method_17_code 20 = .ok (.aload_n 0, 1) := by decide +kernel
theorem d_Orb_takeFrames_21 : decode prog_1_method_17_code 21 = .ok (.getfield 38, 3) := by decide +kernel
theorem d_Orb_takeFrames_24 : decode prog_1_method_17_code 24 = .ok (.invokevirtual 156, 3) := by decide +kernel
theorem d_Orb_takeFrames_27 : decode prog_1_method_17_code 27 = .ok (.istore_n 3, 1) := by decide +kernel
theorem d_Orb_takeFrames_28 : decode prog_1_method_17_code 28 = .ok (.iload_n 3, 1) := by decide +kernel
theorem d_Orb_takeFrames_29 : decode prog_1_method_17_code 29 = .ok (.ifCond .ne (6), 3) := by decide +kernel
theorem d_Orb_takeFrames_32 : decode prog_1_method_17_code 32 = .ok (.goto (63), 3) := by decide +kernel
theorem d_Orb_takeFrames_35 : decode prog_1_method_17_code 35 = .ok (.iload_n 3, 1) := by decide +kernel
theorem d_Orb_takeFrames_36 : decode prog_1_method_17_code 36 = .ok (.iconst (-1), 1) := by decide +kernel
theorem d_Orb_takeFrames_37 : decode prog_1_method_17_code 37 = .ok (.if_icmp .ne (14), 3) := by decide +kernel
theorem d_Orb_takeFrames_40 : decode prog_1_method_17_code 40 = .ok (.aload_n 0, 1) := by decide +kernel
theorem d_Orb_takeFrames_41 : decode prog_1_method_17_code 41 = .ok (.getfield 38, 3) := by decide +kernel
theorem d_Orb_takeFrames_44 : decode prog_1_method_17_code 44 = .ok (.iconst 1, 1) := by decide +kernel
theorem d_Orb_takeFrames_45 : decode prog_1_method_17_code 45 = .ok (.invokevirtual 159, 3) := by decide +kernel
theorem d_Orb_takeFrames_48 : decode prog_1_method_17_code 48 = .ok (.goto (41), 3) := by decide +kernel
theorem d_Orb_takeFrames_51 : decode prog_1_method_17_code 51 = .ok (.aload_n 0, 1) := by decide +kernel
theorem d_Orb_takeFrames_52 : decode prog_1_method_17_code 52 = .ok (.getfield 38, 3) := by decide +kernel
theorem d_Orb_takeFrames_55 : decode prog_1_method_17_code 55 = .ok (.invokevirtual 162, 3) := by decide +kernel
theorem d_Orb_takeFrames_58 : decode prog_1_method_17_code 58 = .ok (.iinc 1 (1), 3) := by decide +kernel
theorem d_Orb_takeFrames_61 : decode prog_1_method_17_code 61 = .ok (.aload_n 0, 1) := by decide +kernel
theorem d_Orb_takeFrames_62 : decode prog_1_method_17_code 62 = .ok (.getfield 10, 3) := by decide +kernel
theorem d_Orb_takeFrames_65 : decode prog_1_method_17_code 65 = .ok (.aload_n 0, 1) := by decide +kernel
theorem d_Orb_takeFrames_66 : decode prog_1_method_17_code 66 = .ok (.getfield 49, 3) := by decide +kernel
theorem d_Orb_takeFrames_69 : decode prog_1_method_17_code 69 = .ok (.invokevirtual 68, 3) := by decide +kernel
theorem d_Orb_takeFrames_72 : decode prog_1_method_17_code 72 = .ok (.ifCond .eq (17), 3) := by decide +kernel
theorem d_Orb_takeFrames_75 : decode prog_1_method_17_code 75 = .ok (.aload_n 0, 1) := by decide +kernel
theorem d_Orb_takeFrames_76 : decode prog_1_method_17_code 76 = .ok (.getfield 31, 3) := by decide +kernel
theorem d_Orb_takeFrames_79 : decode prog_1_method_17_code 79 = .ok (.aload_n 0, 1) := by decide +kernel
theorem d_Orb_takeFrames_80 : decode prog_1_method_17_code 80 = .ok (.getfield 38, 3) := by decide +kernel
theorem d_Orb_takeFrames_83 : decode prog_1_method_17_code 83 = .ok (.getfield 165, 3) := by decide +kernel
theorem d_Orb_takeFrames_86 : decode prog_1_method_17_code 86 = .ok (.invokevirtual 168, 3) := by decide +kernel
theorem d_Orb_takeFrames_89 : decode prog_1_method_17_code 89 = .ok (.iinc 2 (1), 3) := by decide +kernel
theorem d_Orb_takeFrames_92 : decode prog_1_method_17_code 92 = .ok (.goto (-88), 3) := by decide +kernel
theorem d_Orb_takeFrames_95 : decode prog_1_method_17_code 95 = .ok (.iload_n 1, 1) := by decide +kernel
theorem d_Orb_takeFrames_96 : decode prog_1_method_17_code 96 = .ok (.ireturn, 1) := by decide +kernel
theorem d_Orb_check_0 : decode prog_1_method_18_code 0 = .ok (.iload 4, 2) := by decide +kernel
theorem d_Orb_check_2 : decode prog_1_method_18_code 2 = .ok (.istore 6, 2) := by decide +kernel
theorem d_Orb_check_4 : decode prog_1_method_18_code 4 = .ok (.iload_n 1, 1) := by decide +kernel
theorem d_Orb_check_5 : decode prog_1_method_18_code 5 = .ok (.istore 7, 2) := by decide +kernel
theorem d_Orb_check_7 : decode prog_1_method_18_code 7 = .ok (.iload 7, 2) := by decide +kernel
theorem d_Orb_check_9 : decode prog_1_method_18_code 9 = .ok (.iload_n 2, 1) := by decide +kernel
theorem d_Orb_check_10 : decode prog_1_method_18_code 10 = .ok (.if_icmp .ge (68), 3) := by decide +kernel
theorem d_Orb_check_13 : decode prog_1_method_18_code 13 = .ok (.iload 7, 2) := by decide +kernel
theorem d_Orb_check_15 : decode prog_1_method_18_code 15 = .ok (.aload_n 0, 1) := by decide +kernel
theorem d_Orb_check_16 : decode prog_1_method_18_code 16 = .ok (.arraylength, 1) := by decide +kernel
theorem d_Orb_check_17 : decode prog_1_method_18_code 17 = .ok (.if_icmp .ge (61), 3) := by decide +kernel
theorem d_Orb_check_20 : decode prog_1_method_18_code 20 = .ok (.bipush (7), 2) := by decide +kernel
theorem d_Orb_check_22 : decode prog_1_method_18_code 22 = .ok (.istore 8, 2) := by decide +kernel
theorem d_Orb_check_24 : decode prog_1_method_18_code 24 = .ok (.iload 8, 2) := by decide +kernel
theorem d_Orb_check_26 : decode prog_1_method_18_code 26 = .ok (.ifCond .lt (46), 3) := by decide +kernel
theorem d_Orb_check_29 : decode prog_1_method_18_code 29 = .ok (.iload 6, 2) := by decide +kernel
theorem d_Orb_check_31 : decode prog_1_method_18_code 31 = .ok (.iload_n 3, 1) := by decide +kernel
theorem d_Orb_check_32 : decode prog_1_method_18_code 32 = .ok (.iconst 1, 1) := by decide +kernel
theorem d_Orb_check_33 : decode prog_1_method_18_code 33 = .ok (.isub, 1) := by decide +kernel
theorem d_Orb_check_34 : decode prog_1_method_18_code 34 = .ok (.iushr, 1) := by decide +kernel
theorem d_Orb_check_35 : decode prog_1_method_18_code 35 = .ok (.aload_n 0, 1) := by decide +kernel
theorem d_Orb_check_36 : decode prog_1_method_18_code 36 = .ok (.iload 7, 2) := by decide +kernel
theorem d_Orb_check_38 : decode prog_1_method_18_code 38 = .ok (.iaload, 1) := by decide +kernel
theorem d_Orb_check_39 : decode prog_1_method_18_code 39 = .ok (.iload 8, 2) := by decide +kernel
theorem d_Orb_check_41 : decode prog_1_method_18_code 41 = .ok (.iushr, 1) := by decide +kernel
theorem d_Orb_check_42 : decode prog_1_method_18_code 42 = .ok (.ixor, 1) := by decide +kernel
theorem d_Orb_check_43 : decode prog_1_method_18_code 43 = .ok (.iconst 1, 1) := by decide +kernel
theorem d_Orb_check_44 : decode prog_1_method_18_code 44 = .ok (.iand, 1) := by decide +kernel
theorem d_Orb_check_45 : decode prog_1_method_18_code 45 = .ok (.istore 9, 2) := by decide +kernel
theorem d_Orb_check_47 : decode prog_1_method_18_code 47 = .ok (.iload 6, 2) := by decide +kernel
theorem d_Orb_check_49 : decode prog_1_method_18_code 49 = .ok (.iconst 1, 1) := by decide +kernel
theorem d_Orb_check_50 : decode prog_1_method_18_code 50 = .ok (.ishl, 1) := by decide +kernel
theorem d_Orb_check_51 : decode prog_1_method_18_code 51 = .ok (.istore 6, 2) := by decide +kernel
theorem d_Orb_check_53 : decode prog_1_method_18_code 53 = .ok (.iload 9, 2) := by decide +kernel
theorem d_Orb_check_55 : decode prog_1_method_18_code 55 = .ok (.iconst 1, 1) := by decide +kernel
theorem d_Orb_check_56 : decode prog_1_method_18_code 56 = .ok (.if_icmp .ne (10), 3) := by decide +kernel
theorem d_Orb_check_59 : decode prog_1_method_18_code 59 = .ok (.iload 6, 2) := by decide +kernel
theorem d_Orb_check_61 : decode prog_1_method_18_code 61 = .ok (.iload 5, 2) := by decide +kernel
theorem d_Orb_check_63 : decode prog_1_method_18_code 63 = .ok (.ixor, 1) := by decide +kernel
theorem d_Orb_check_64 : decode prog_1_method_18_code 64 = .ok (.istore 6, 2) := by decide +kernel
theorem d_Orb_check_66 : decode prog_1_method_18_code 66 = .ok (.iinc 8 (-1), 3) := by decide +kernel
theorem d_Orb_check_69 : decode prog_1_method_18_code 69 = .ok (.goto (-45), 3) := by decide +kernel
theorem d_Orb_check_72 : decode prog_1_method_18_code 72 = .ok (.iinc 7 (1), 3) := by decide +kernel
theorem d_Orb_check_75 : decode prog_1_method_18_code 75 = .ok (.goto (-68), 3) := by decide +kernel
theorem d_Orb_check_78 : decode prog_1_method_18_code 78 = .ok (.iload 6, 2) := by decide +kernel
theorem d_Orb_check_80 : decode prog_1_method_18_code 80 = .ok (.ireturn, 1) := by decide +kernel
