theorem d_Frm_init_0 : decode prog_3_method_1_code 0 = .ok (.aload_n 0, 1) := by decide +kernel
theorem d_Frm_init_1 : decode prog_3_method_1_code 1 = .ok (.invokespecial 1, 3) := by decide +kernel
theorem d_Frm_init_4 : decode prog_3_method_1_code 4 = .ok (.aload_n 0, 1) := by decide +kernel
theorem d_Frm_init_5 : decode prog_3_method_1_code 5 = .ok (.bipush (64), 2) := by decide +kernel
theorem d_Frm_init_7 : decode prog_3_method_1_code 7 = .ok (.newarray .int, 2) := by decide +kernel
theorem d_Frm_init_9 : decode prog_3_method_1_code 9 = .ok (.putfield 9, 3) := by decide +kernel
theorem d_Frm_init_12 : decode prog_3_method_1_code 12 = .ok (.aload_n 0, 1) := by decide +kernel
theorem d_Frm_init_13 : decode prog_3_method_1_code 13 = .ok (.iconst 5, 1) := by decide +kernel
theorem d_Frm_init_14 : decode prog_3_method_1_code 14 = .ok (.putfield 13, 3) := by decide +kernel
theorem d_Frm_init_17 : decode prog_3_method_1_code 17 = .ok (.return_, 1) := by decide +kernel
theorem d_Frm_copy_0 : decode prog_3_method_2_code 0 = .ok (.aload_n 0, 1) := by decide +kernel
theorem d_Frm_copy_1 : decode prog_3_method_2_code 1 = .ok (.iconst 5, 1) := by decide +kernel
theorem d_Frm_copy_2 : decode prog_3_method_2_code 2 = .ok (.bipush (64), 2) := by decide +kernel
theorem d_Frm_copy_4 : decode prog_3_method_2_code 4 = .ok (.iload_n 3, 1) := by decide +kernel
theorem d_Frm_copy_5 : decode prog_3_method_2_code 5 = .ok (.invokestatic 17, 3) := by decide +kernel
theorem d_Frm_copy_8 : decode prog_3_method_2_code 8 = .ok (.invokestatic 23, 3) := by decide +kernel
theorem d_Frm_copy_11 : decode prog_3_method_2_code 11 = .ok (.putfield 13, 3) := by decide +kernel
theorem d_Frm_copy_14 : decode prog_3_method_2_code 14 = .ok (.aload_n 1, 1) := by decide +kernel
theorem d_Frm_copy_15 : decode prog_3_method_2_code 15 = .ok (.iload_n 2, 1) := by decide +kernel
theorem d_Frm_copy_16 : decode prog_3_method_2_code 16 = .ok (.aload_n 0, 1) := by decide +kernel
theorem d_Frm_copy_17 : decode prog_3_method_2_code 17 = .ok (.getfield 9, 3) := by decide +kernel
theorem d_Frm_copy_20 : decode prog_3_method_2_code 20 = .ok (.iconst 0, 1) := by decide +kernel
theorem d_Frm_copy_21 : decode prog_3_method_2_code 21 = .ok (.aload_n 0, 1) := by decide +kernel
theorem d_Frm_copy_22 : decode prog_3_method_2_code 22 = .ok (.getfield 13, 3) := by decide +kernel
theorem d_Frm_copy_25 : decode prog_3_method_2_code 25 = .ok (.invokestatic 26, 3) := by decide +kernel
theorem d_Frm_copy_28 : decode prog_3_method_2_code 28 = .ok (.return_, 1) := by decide +kernel
theorem d_Frm_isExpedited_0 : decode prog_3_method_3_code 0 = .ok (.aload_n 0, 1) := by decide +kernel
theorem d_Frm_isExpedited_1 : decode prog_3_method_3_code 1 = .ok (.getfield 9, 3) := by decide +kernel
theorem d_Frm_isExpedited_4 : decode prog_3_method_3_code 4 = .ok (.iconst 0, 1) := by decide +kernel
theorem d_Frm_isExpedited_5 : decode prog_3_method_3_code 5 = .ok (.iaload, 1) := by decide +kernel
theorem d_Frm_isExpedited_6 : decode prog_3_method_3_code 6 = .ok (.bipush (32), 2) := by decide +kernel
theorem d_Frm_isExpedited_8 : decode prog_3_method_3_code 8 = .ok (.iand, 1) := by decide +kernel
theorem d_Frm_isExpedited_9 : decode prog_3_method_3_code 9 = .ok (.ifCond .eq (7), 3) := by decide +kernel
theorem d_Frm_isExpedited_12 : decode prog_3_method_3_code 12 = .ok (.iconst 1, 1) := by decide +kernel
theorem d_Frm_isExpedited_13 : decode prog_3_method_3_code 13 = .ok (.goto (4), 3) := by decide +kernel
theorem d_Frm_isExpedited_16 : decode prog_3_method_3_code 16 = .ok (.iconst 0, 1) := by decide +kernel
theorem d_Frm_isExpedited_17 : decode prog_3_method_3_code 17 = .ok (.ireturn, 1) := by decide +kernel
theorem d_Frm_isDirective_0 : decode prog_3_method_4_code 0 = .ok (.aload_n 0, 1) := by decide +kernel
theorem d_Frm_isDirective_1 : decode prog_3_method_4_code 1 = .ok (.getfield 9, 3) := by decide +kernel
theorem d_Frm_isDirective_4 : decode prog_3_method_4_code 4 = .ok (.iconst 0, 1) := by decide +kernel
theorem d_Frm_isDirective_5 : decode prog_3_method_4_code 5 = .ok (.iaload, 1) := by decide +kernel
theorem d_Frm_isDirective_6 : decode prog_3_method_4_code 6 = .ok (.bipush (16), 2) := by decide +kernel
theorem d_Frm_isDirective_8 : decode prog_3_method_4_code 8 = .ok (.iand, 1) := by decide +kernel
theorem d_Frm_isDirective_9 : decode prog_3_method_4_code 9 = .ok (.ifCond .eq (7), 3) := by decide +kernel
theorem d_Frm_isDirective_12 : decode prog_3_method_4_code 12 = .ok (.iconst 1, 1) := by decide +kernel
theorem d_Frm_isDirective_13 : decode prog_3_method_4_code 13 = .ok (.goto (4), 3) := by decide +kernel
theorem d_Frm_isDirective_16 : decode prog_3_method_4_code 16 = .ok (.iconst 0, 1) := by decide +kernel
theorem d_Frm_isDirective_17 : decode prog_3_method_4_code 17 = .ok (.ireturn, 1) := by decide +kernel
theorem d_Frm_form_0 : decode prog_3_method_5_code 0 = .ok (.aload_n 0, 1) := by decide +kernel
theorem d_Frm_form_1 : decode prog_3_method_5_code 1 = .ok (.getfield 9, 3) := by decide +kernel
theorem d_Frm_form_4 : decode prog_3_method_5_code 4 = .ok (.iconst 0, 1) := by decide +kernel
theorem d_Frm_form_5 : decode prog_3_method_5_code 5 = .ok (.iaload, 1) := by decide +kernel
theorem d_Frm_form_6 : decode prog_3_method_5_code 6 = .ok (.iconst 2, 1) := by decide +kernel
theorem d_Frm_form_7 : decode prog_3_method_5_code 7 = .ok (.ishr, 1) := by decide +kernel
theorem d_Frm_form_8 : decode prog_3_method_5_code 8 = .ok (.iconst 3, 1) := by decide +kernel
theorem d_Frm_form_9 : decode prog_3_method_5_code 9 = .ok (.iand, 1) := by decide +kernel
theorem d_Frm_form_10 : decode prog_3_method_5_code 10 = .ok (.ireturn, 1) := by decide +kernel
theorem d_Frm_spacecraft_0 : decode prog_3_method_6_code 0 = .ok (.aload_n 0, 1) := by decide +kernel
theorem d_Frm_spacecraft_1 : decode prog_3_method_6_code 1 = .ok (.getfield 9, 3) := by decide +kernel
theorem d_Frm_spacecraft_4 : decode prog_3_method_6_code 4 = .ok (.iconst 0, 1) := by decide +kernel
theorem d_Frm_spacecraft_5 : decode prog_3_method_6_code 5 = .ok (.iaload, 1) := by decide +kernel
theorem d_Frm_spacecraft_6 : decode prog_3_method_6_code 6 = .ok (.iconst 3, 1) := by decide +kernel
theorem d_Frm_spacecraft_7 : decode prog_3_method_6_code 7 = .ok (.iand, 1) := by decide +kernel
theorem d_Frm_spacecraft_8 : decode prog_3_method_6_code 8 = .ok (.sipush (256), 3) := by decide +kernel
theorem d_Frm_spacecraft_11 : decode prog_3_method_6_code 11 = .ok (.imul, 1) := by decide +kernel
theorem d_Frm_spacecraft_12 : decode prog_3_method_6_code 12 = .ok (.aload_n 0, 1) := by decide +kernel
theorem d_Frm_spacecraft_13 : decode prog_3_method_6_code 13 = .ok (.getfield 9, 3) := by decide +kernel
theorem d_Frm_spacecraft_16 : decode prog_3_method_6_code 16 = .ok (.iconst 1, 1) := by decide +kernel
theorem d_Frm_spacecraft_17 : decode prog_3_method_6_code 17 = .ok (.iaload, 1) := by decide +kernel
theorem d_Frm_spacecraft_18 : decode prog_3_method_6_code 18 = .ok (.iadd, 1) := by decide +kernel
theorem d_Frm_spacecraft_19 : decode prog_3_method_6_code 19 = .ok (.ireturn, 1) := by decide +kernel
theorem d_Frm_channel_0 : decode prog_3_method_7_code 0 = .ok (.aload_n 0, 1) := by decide +kernel
theorem d_Frm_channel_1 : decode prog_3_method_7_code 1 = .ok (.getfield 9, 3) := by decide +kernel
theorem d_Frm_channel_4 : decode prog_3_method_7_code 4 = .ok (.iconst 2, 1) := by decide +kernel
theorem d_Frm_channel_5 : decode prog_3_method_7_code 5 = .ok (.iaload, 1) := by decide +kernel
theorem d_Frm_channel_6 : decode prog_3_method_7_code 6 = .ok (.bipush (7), 2) := by decide +kernel
theorem d_Frm_channel_8 : decode prog_3_method_7_code 8 = .ok (.ishr, 1) := by decide +kernel
theorem d_Frm_channel_9 : decode prog_3_method_7_code 9 = .ok (.ireturn, 1) := by decide +kernel
theorem d_Frm_number_0 : decode prog_3_method_8_code 0 = .ok (.aload_n 0, 1) := by decide +kernel
theorem d_Frm_number_1 : decode prog_3_method_8_code 1 = .ok (.getfield 9, 3) := by decide +kernel
theorem d_Frm_number_4 : decode prog_3_method_8_code 4 = .ok (.iconst 4, 1) := by decide +kernel
theorem d_Frm_number_5 : decode prog_3_method_8_code 5 = .ok (.iaload, 1) := by decide +kernel
theorem d_Frm_number_6 : decode prog_3_method_8_code 6 = .ok (.ireturn, 1) := by decide +kernel
theorem d_Frm_dataLength_0 : decode prog_3_method_9_code 0 = .ok (.aload_n 0, 1) := by decide +kernel
theorem d_Frm_dataLength_1 : decode prog_3_method_9_code 1 = .ok (.getfield 13, 3) := by decide +kernel
theorem d_Frm_dataLength_4 : decode prog_3_method_9_code 4 = .ok (.iconst 5, 1) := by decide +kernel
theorem d_Frm_dataLength_5 : decode prog_3_method_9_code 5 = .ok (.isub, 1) := by decide +kernel
theorem d_Frm_dataLength_6 : decode prog_3_method_9_code 6 = .ok (.ireturn, 1) := by decide +kernel
theorem d_Frm_data_0 : decode prog_3_method_10_code 0 = .ok (.iload_n 1, 1) := by decide +kernel
theorem d_Frm_data_1 : decode prog_3_method_10_code 1 = .ok (.ifCond .lt (24), 3) := by decide +kernel
theorem d_Frm_data_4 : decode prog_3_method_10_code 4 = .ok (.iload_n 1, 1) := by decide +kernel
theorem d_Frm_data_5 : decode prog_3_method_10_code 5 = .ok (.aload_n 0, 1) := by decide +kernel
theorem d_Frm_data_6 : decode prog_3_method_10_code 6 = .ok (.getfield 13, 3) := by decide +kernel
theorem d_Frm_data_9 : decode prog_3_method_10_code 9 = .ok (.iconst 5, 1) := by decide +kernel
theorem d_Frm_data_10 : decode prog_3_method_10_code 10 = .ok (.isub, 1) := by decide +kernel
theorem d_Frm_data_11 : decode prog_3_method_10_code 11 = .ok (.if_icmp .ge (14), 3) := by decide +kernel
theorem d_Frm_data_14 : decode prog_3_method_10_code 14 = .ok (.aload_n 0, 1) := by decide +kernel
theorem d_Frm_data_15 : decode prog_3_method_10_code 15 = .ok (.getfield 9, 3) := by decide +kernel
theorem d_Frm_data_18 : decode prog_3_method_10_code 18 = .ok (.iconst 5, 1) := by decide +kernel
theorem d_Frm_data_19 : decode prog_3_method_10_code 19 = .ok (.iload_n 1, 1) := by decide +kernel
theorem d_Frm_data_20 : decode prog_3_method_10_code 20 = .ok (.iadd, 1) := by decide +kernel
theorem d_Frm_data_21 : decode prog_3_method_10_code 21 = .ok (.iaload, 1) := by decide +kernel
theorem d_Frm_data_22 : decode prog_3_method_10_code 22 = .ok (.goto (4), 3) := by decide +kernel
theorem d_Frm_data_25 : decode prog_3_method_10_code 25 = .ok (.iconst 0, 1) := by decide +kernel
theorem d_Frm_data_26 : decode prog_3_method_10_code 26 = .ok (.ireturn, 1) := by decide +kernel
