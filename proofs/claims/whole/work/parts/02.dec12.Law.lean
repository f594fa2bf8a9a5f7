theorem d_Law_window_0 : decode method_3_code 0 = .ok (.aload_n 0, 1) := by decide +kernel
theorem d_Law_window_1 : decode method_3_code 1 = .ok (.iload_n 1, 1) := by decide +kernel
theorem d_Law_window_2 : decode method_3_code 2 = .ok (.iload_n 2, 1) := by decide +kernel
theorem d_Law_window_3 : decode method_3_code 3 = .ok (.iload_n 3, 1) := by decide +kernel
theorem d_Law_window_4 : decode method_3_code 4 = .ok (.iload 4, 2) := by decide +kernel
theorem d_Law_window_6 : decode method_3_code 6 = .ok (.invokevirtual 7, 3) := by decide +kernel
theorem d_Law_window_9 : decode method_3_code 9 = .ok (.goto (7), 3) := by decide +kernel
theorem d_Law_window_12 : decode method_3_code 12 = .ok (.astore 5, 2) := by decide +kernel
theorem d_Law_window_14 : decode method_3_code 14 = .ok (.iconst 1, 1) := by decide +kernel
theorem d_Law_window_15 : decode method_3_code 15 = .ok (.ireturn, 1) := by decide +kernel
theorem d_Law_window_16 : decode method_3_code 16 = .ok (.iconst 0, 1) := by decide +kernel
theorem d_Law_window_17 : decode method_3_code 17 = .ok (.ireturn, 1) := by decide +kernel
theorem d_Law_minute_0 : decode method_4_code 0 = .ok (.aload_n 2, 1) := by decide +kernel
theorem d_Law_minute_1 : decode method_4_code 1 = .ok (.iconst 0, 1) := by decide +kernel
theorem d_Law_minute_2 : decode method_4_code 2 = .ok (.aload_n 0, 1) := by decide +kernel
theorem d_Law_minute_3 : decode method_4_code 3 = .ok (.iload_n 1, 1) := by decide +kernel
theorem d_Law_minute_4 : decode method_4_code 4 = .ok (.invokevirtual 15, 3) := by decide +kernel
theorem d_Law_minute_7 : decode method_4_code 7 = .ok (.i2l, 1) := by decide +kernel
theorem d_Law_minute_8 : decode method_4_code 8 = .ok (.lastore, 1) := by decide +kernel
theorem d_Law_minute_9 : decode method_4_code 9 = .ok (.goto (6), 3) := by decide +kernel
theorem d_Law_minute_12 : decode method_4_code 12 = .ok (.astore_n 3, 1) := by decide +kernel
theorem d_Law_minute_13 : decode method_4_code 13 = .ok (.iconst 1, 1) := by decide +kernel
theorem d_Law_minute_14 : decode method_4_code 14 = .ok (.ireturn, 1) := by decide +kernel
theorem d_Law_minute_15 : decode method_4_code 15 = .ok (.iconst 0, 1) := by decide +kernel
theorem d_Law_minute_16 : decode method_4_code 16 = .ok (.ireturn, 1) := by decide +kernel
theorem d_Law_seen_0 : decode method_5_code 0 = .ok (.aload_n 2, 1) := by decide +kernel
theorem d_Law_seen_1 : decode method_5_code 1 = .ok (.iconst 0, 1) := by decide +kernel
theorem d_Law_seen_2 : decode method_5_code 2 = .ok (.aload_n 0, 1) := by decide +kernel
theorem d_Law_seen_3 : decode method_5_code 3 = .ok (.iload_n 1, 1) := by decide +kernel
theorem d_Law_seen_4 : decode method_5_code 4 = .ok (.invokevirtual 19, 3) := by decide +kernel
theorem d_Law_seen_7 : decode method_5_code 7 = .ok (.ifCond .eq (7), 3) := by decide +kernel
theorem d_Law_seen_10 : decode method_5_code 10 = .ok (.lconst 1, 1) := by decide +kernel
theorem d_Law_seen_11 : decode method_5_code 11 = .ok (.goto (4), 3) := by decide +kernel
theorem d_Law_seen_14 : decode method_5_code 14 = .ok (.lconst 0, 1) := by decide +kernel
theorem d_Law_seen_15 : decode method_5_code 15 = .ok (.lastore, 1) := by decide +kernel
theorem d_Law_seen_16 : decode method_5_code 16 = .ok (.goto (6), 3) := by decide +kernel
theorem d_Law_seen_19 : decode method_5_code 19 = .ok (.astore_n 3, 1) := by decide +kernel
theorem d_Law_seen_20 : decode method_5_code 20 = .ok (.iconst 1, 1) := by decide +kernel
theorem d_Law_seen_21 : decode method_5_code 21 = .ok (.ireturn, 1) := by decide +kernel
theorem d_Law_seen_22 : decode method_5_code 22 = .ok (.iconst 0, 1) := by decide +kernel
theorem d_Law_seen_23 : decode method_5_code 23 = .ok (.ireturn, 1) := by decide +kernel
theorem d_Law_receive_0 : decode method_6_code 0 = .ok (.aload_n 3, 1) := by decide +kernel
theorem d_Law_receive_1 : decode method_6_code 1 = .ok (.iconst 0, 1) := by decide +kernel
theorem d_Law_receive_2 : decode method_6_code 2 = .ok (.aload_n 0, 1) := by decide +kernel
theorem d_Law_receive_3 : decode method_6_code 3 = .ok (.iload_n 1, 1) := by decide +kernel
theorem d_Law_receive_4 : decode method_6_code 4 = .ok (.iload_n 2, 1) := by decide +kernel
theorem d_Law_receive_5 : decode method_6_code 5 = .ok (.invokevirtual 23, 3) := by decide +kernel
theorem d_Law_receive_8 : decode method_6_code 8 = .ok (.i2l, 1) := by decide +kernel
theorem d_Law_receive_9 : decode method_6_code 9 = .ok (.lastore, 1) := by decide +kernel
theorem d_Law_receive_10 : decode method_6_code 10 = .ok (.goto (11), 3) := by decide +kernel
theorem d_Law_receive_13 : decode method_6_code 13 = .ok (.astore 4, 2) := by decide +kernel
theorem d_Law_receive_15 : decode method_6_code 15 = .ok (.iconst 1, 1) := by decide +kernel
theorem d_Law_receive_16 : decode method_6_code 16 = .ok (.ireturn, 1) := by decide +kernel
theorem d_Law_receive_17 : decode method_6_code 17 = .ok (.astore 4, 2) := by decide +kernel
theorem d_Law_receive_19 : decode method_6_code 19 = .ok (.iconst 2, 1) := by decide +kernel
theorem d_Law_receive_20 : decode method_6_code 20 = .ok (.ireturn, 1) := by decide +kernel
theorem d_Law_receive_21 : decode method_6_code 21 = .ok (.iconst 0, 1) := by decide +kernel
theorem d_Law_receive_22 : decode method_6_code 22 = .ok (.ireturn, 1) := by decide +kernel
theorem d_Law_report_0 : decode method_7_code 0 = .ok (.aload_n 1, 1) := by decide +kernel
theorem d_Law_report_1 : decode method_7_code 1 = .ok (.iconst 0, 1) := by decide +kernel
theorem d_Law_report_2 : decode method_7_code 2 = .ok (.aload_n 0, 1) := by decide +kernel
theorem d_Law_report_3 : decode method_7_code 3 = .ok (.invokevirtual 29, 3) := by decide +kernel
theorem d_Law_report_6 : decode method_7_code 6 = .ok (.i2l, 1) := by decide +kernel
theorem d_Law_report_7 : decode method_7_code 7 = .ok (.lastore, 1) := by decide +kernel
theorem d_Law_report_8 : decode method_7_code 8 = .ok (.goto (6), 3) := by decide +kernel
theorem d_Law_report_11 : decode method_7_code 11 = .ok (.astore_n 2, 1) := by decide +kernel
theorem d_Law_report_12 : decode method_7_code 12 = .ok (.iconst 1, 1) := by decide +kernel
theorem d_Law_report_13 : decode method_7_code 13 = .ok (.ireturn, 1) := by decide +kernel
theorem d_Law_report_14 : decode method_7_code 14 = .ok (.iconst 0, 1) := by decide +kernel
theorem d_Law_report_15 : decode method_7_code 15 = .ok (.ireturn, 1) := by decide +kernel
theorem d_Law_send_0 : decode method_8_code 0 = .ok (.aload_n 2, 1) := by decide +kernel
theorem d_Law_send_1 : decode method_8_code 1 = .ok (.iconst 0, 1) := by decide +kernel
theorem d_Law_send_2 : decode method_8_code 2 = .ok (.aload_n 0, 1) := by decide +kernel
theorem d_Law_send_3 : decode method_8_code 3 = .ok (.iload_n 1, 1) := by decide +kernel
theorem d_Law_send_4 : decode method_8_code 4 = .ok (.invokevirtual 33, 3) := by decide +kernel
theorem d_Law_send_7 : decode method_8_code 7 = .ok (.i2l, 1) := by decide +kernel
theorem d_Law_send_8 : decode method_8_code 8 = .ok (.lastore, 1) := by decide +kernel
theorem d_Law_send_9 : decode method_8_code 9 = .ok (.goto (12), 3) := by decide +kernel
theorem d_Law_send_12 : decode method_8_code 12 = .ok (.astore_n 3, 1) := by decide +kernel
theorem d_Law_send_13 : decode method_8_code 13 = .ok (.iconst 1, 1) := by decide +kernel
theorem d_Law_send_14 : decode method_8_code 14 = .ok (.ireturn, 1) := by decide +kernel
theorem d_Law_send_15 : decode method_8_code 15 = .ok (.astore_n 3, 1) := by decide +kernel
theorem d_Law_send_16 : decode method_8_code 16 = .ok (.iconst 2, 1) := by decide +kernel
theorem d_Law_send_17 : decode method_8_code 17 = .ok (.ireturn, 1) := by decide +kernel
theorem d_Law_send_18 : decode method_8_code 18 = .ok (.astore_n 3, 1) := by decide +kernel
theorem d_Law_send_19 : decode method_8_code 19 = .ok (.iconst 3, 1) := by decide +kernel
theorem d_Law_send_20 : decode method_8_code 20 = .ok (.ireturn, 1) := by decide +kernel
theorem d_Law_send_21 : decode method_8_code 21 = .ok (.iconst 0, 1) := by decide +kernel
theorem d_Law_send_22 : decode method_8_code 22 = .ok (.ireturn, 1) := by decide +kernel
theorem d_Law_sent_0 : decode method_9_code 0 = .ok (.aload_n 2, 1) := by decide +kernel
theorem d_Law_sent_1 : decode method_9_code 1 = .ok (.iconst 0, 1) := by decide +kernel
theorem d_Law_sent_2 : decode method_9_code 2 = .ok (.aload_n 0, 1) := by decide +kernel
theorem d_Law_sent_3 : decode method_9_code 3 = .ok (.iload_n 1, 1) := by decide +kernel
theorem d_Law_sent_4 : decode method_9_code 4 = .ok (.invokevirtual 38, 3) := by decide +kernel
theorem d_Law_sent_7 : decode method_9_code 7 = .ok (.i2l, 1) := by decide +kernel
theorem d_Law_sent_8 : decode method_9_code 8 = .ok (.lastore, 1) := by decide +kernel
theorem d_Law_sent_9 : decode method_9_code 9 = .ok (.goto (6), 3) := by decide +kernel
theorem d_Law_sent_12 : decode method_9_code 12 = .ok (.astore_n 3, 1) := by decide +kernel
theorem d_Law_sent_13 : decode method_9_code 13 = .ok (.iconst 1, 1) := by decide +kernel
theorem d_Law_sent_14 : decode method_9_code 14 = .ok (.ireturn, 1) := by decide +kernel
theorem d_Law_sent_15 : decode method_9_code 15 = .ok (.iconst 0, 1) := by decide +kernel
theorem d_Law_sent_16 : decode method_9_code 16 = .ok (.ireturn, 1) := by decide +kernel
theorem d_Law_fail_0 : decode method_10_code 0 = .ok (.aload_n 0, 1) := by decide +kernel
theorem d_Law_fail_1 : decode method_10_code 1 = .ok (.iload_n 1, 1) := by decide +kernel
theorem d_Law_fail_2 : decode method_10_code 2 = .ok (.invokevirtual 43, 3) := by decide +kernel
theorem d_Law_fail_5 : decode method_10_code 5 = .ok (.goto (9), 3) := by decide +kernel
theorem d_Law_fail_8 : decode method_10_code 8 = .ok (.astore_n 2, 1) := by decide +kernel
theorem d_Law_fail_9 : decode method_10_code 9 = .ok (.iconst 1, 1) := by decide +kernel
theorem d_Law_fail_10 : decode method_10_code 10 = .ok (.ireturn, 1) := by decide +kernel
theorem d_Law_fail_11 : decode method_10_code 11 = .ok (.astore_n 2, 1) := by decide +kernel
theorem d_Law_fail_12 : decode method_10_code 12 = .ok (.iconst 2, 1) := by decide +kernel
theorem d_Law_fail_13 : decode method_10_code 13 = .ok (.ireturn, 1) := by decide +kernel
theorem d_Law_fail_14 : decode method_10_code 14 = .ok (.iconst 0, 1) := by decide +kernel
theorem d_Law_fail_15 : decode method_10_code 15 = .ok (.ireturn, 1) := by decide +kernel
theorem d_Law_store_0 : decode method_11_code 0 = .ok (.aload_n 2, 1) := by decide +kernel
theorem d_Law_store_1 : decode method_11_code 1 = .ok (.iconst 0, 1) := by decide +kernel
theorem d_Law_store_2 : decode method_11_code 2 = .ok (.aload_n 0, 1) := by decide +kernel
theorem d_Law_store_3 : decode method_11_code 3 = .ok (.iload_n 1, 1) := by decide +kernel
theorem d_Law_store_4 : decode method_11_code 4 = .ok (.invokevirtual 47, 3) := by decide +kernel
theorem d_Law_store_7 : decode method_11_code 7 = .ok (.i2l, 1) := by decide +kernel
theorem d_Law_store_8 : decode method_11_code 8 = .ok (.lastore, 1) := by decide +kernel
theorem d_Law_store_9 : decode method_11_code 9 = .ok (.goto (6), 3) := by decide +kernel
theorem d_Law_store_12 : decode method_11_code 12 = .ok (.astore_n 3, 1) := by decide +kernel
theorem d_Law_store_13 : decode method_11_code 13 = .ok (.iconst 1, 1) := by decide +kernel
theorem d_Law_store_14 : decode method_11_code 14 = .ok (.ireturn, 1) := by decide +kernel
theorem d_Law_store_15 : decode method_11_code 15 = .ok (.iconst 0, 1) := by decide +kernel
theorem d_Law_store_16 : decode method_11_code 16 = .ok (.ireturn, 1) := by decide +kernel
theorem d_Law_packet_0 : decode method_12_code 0 = .ok (.aload_n 3, 1) := by decide +kernel
theorem d_Law_packet_1 : decode method_12_code 1 = .ok (.iconst 0, 1) := by decide +kernel
theorem d_Law_packet_2 : decode method_12_code 2 = .ok (.aload_n 0, 1) := by decide +kernel
theorem d_Law_packet_3 : decode method_12_code 3 = .ok (.iload_n 1, 1) := by decide +kernel
theorem d_Law_packet_4 : decode method_12_code 4 = .ok (.iload_n 2, 1) := by decide +kernel
theorem d_Law_packet_5 : decode method_12_code 5 = .ok (.invokevirtual 50, 3) := by decide +kernel
theorem d_Law_packet_8 : decode method_12_code 8 = .ok (.i2l, 1) := by decide +kernel
theorem d_Law_packet_9 : decode method_12_code 9 = .ok (.lastore, 1) := by decide +kernel
theorem d_Law_packet_10 : decode method_12_code 10 = .ok (.goto (11), 3) := by decide +kernel
theorem d_Law_packet_13 : decode method_12_code 13 = .ok (.astore 4, 2) := by decide +kernel
theorem d_Law_packet_15 : decode method_12_code 15 = .ok (.iconst 1, 1) := by decide +kernel
theorem d_Law_packet_16 : decode method_12_code 16 = .ok (.ireturn, 1) := by decide +kernel
theorem d_Law_packet_17 : decode method_12_code 17 = .ok (.astore 4, 2) := by decide +kernel
theorem d_Law_packet_19 : decode method_12_code 19 = .ok (.iconst 2, 1) := by decide +kernel
theorem d_Law_packet_20 : decode method_12_code 20 = .ok (.ireturn, 1) := by decide +kernel
theorem d_Law_packet_21 : decode method_12_code 21 = .ok (.iconst 0, 1) := by decide +kernel
theorem d_Law_packet_22 : decode method_12_code 22 = .ok (.ireturn, 1) := by decide +kernel
theorem d_Law_content_0 : decode method_13_code 0 = .ok (.aload_n 3, 1) := by decide +kernel
theorem d_Law_content_1 : decode method_13_code 1 = .ok (.iconst 0, 1) := by decide +kernel
theorem d_Law_content_2 : decode method_13_code 2 = .ok (.aload_n 0, 1) := by decide +kernel
theorem d_Law_content_3 : decode method_13_code 3 = .ok (.iload_n 1, 1) := by decide +kernel
theorem d_Law_content_4 : decode method_13_code 4 = .ok (.iload_n 2, 1) := by decide +kernel
theorem d_Law_content_5 : decode method_13_code 5 = .ok (.invokevirtual 53, 3) := by decide +kernel
theorem d_Law_content_8 : decode method_13_code 8 = .ok (.i2l, 1) := by decide +kernel
theorem d_Law_content_9 : decode method_13_code 9 = .ok (.lastore, 1) := by decide +kernel
theorem d_Law_content_10 : decode method_13_code 10 = .ok (.goto (7), 3) := by decide +kernel
theorem d_Law_content_13 : decode method_13_code 13 = .ok (.astore 4, 2) := by decide +kernel
theorem d_Law_content_15 : decode method_13_code 15 = .ok (.iconst 1, 1) := by decide +kernel
theorem d_Law_content_16 : decode method_13_code 16 = .ok (.ireturn, 1) := by decide +kernel
theorem d_Law_content_17 : decode method_13_code 17 = .ok (.iconst 0, 1) := by decide +kernel
theorem d_Law_content_18 : decode method_13_code 18 = .ok (.ireturn, 1) := by decide +kernel
theorem d_Law_law_0 : decode code 0 = .ok (.new 8, 3) := by decide +kernel
theorem d_Law_law_3 : decode code 3 = .ok (.dup, 1) := by decide +kernel
theorem d_Law_law_4 : decode code 4 = .ok (.invokespecial 56, 3) := by decide +kernel
theorem d_Law_law_7 : decode code 7 = .ok (.astore_n 1, 1) := by decide +kernel
theorem d_Law_law_8 : decode code 8 = .ok (.new 57, 3) := by decide +kernel
theorem d_Law_law_11 : decode code 11 = .ok (.dup, 1) := by decide +kernel
theorem d_Law_law_12 : decode code 12 = .ok (.invokespecial 59, 3) := by decide +kernel
theorem d_Law_law_15 : decode code 15 = .ok (.astore_n 2, 1) := by decide +kernel
theorem d_Law_law_16 : decode code 16 = .ok (.iconst 1, 1) := by decide +kernel
theorem d_Law_law_17 : decode code 17 = .ok (.newarray .long, 2) := by decide +kernel
theorem d_Law_law_19 : decode code 19 = .ok (.astore_n 3, 1) := by decide +kernel
theorem d_Law_law_20 : decode code 20 = .ok (.iconst 0, 1) := by decide +kernel
theorem d_Law_law_21 : decode code 21 = .ok (.istore 4, 2) := by decide +kernel
theorem d_Law_law_23 : decode code 23 = .ok (.iload 4, 2) := by decide +kernel
theorem d_Law_law_25 : decode code 25 = .ok (.aload_n 0, 1) := by decide +kernel
theorem d_Law_law_26 : decode code 26 = .ok (.arraylength, 1) := by decide +kernel
theorem d_Law_law_27 : decode code 27 = .ok (.iconst 5, 1) := by decide +kernel
theorem d_Law_law_28 : decode code 28 = .ok (.isub, 1) := by decide +kernel
theorem d_Law_law_29 : decode code 29 = .ok (.if_icmp .gt (750), 3) := by decide +kernel
theorem d_Law_law_32 : decode code 32 = .ok (.aload_n 0, 1) := by decide +kernel
theorem d_Law_law_33 : decode code 33 = .ok (.iload 4, 2) := by decide +kernel
theorem d_Law_law_35 : decode code 35 = .ok (.iaload, 1) := by decide +kernel
theorem d_Law_law_36 : decode code 36 = .ok (.bipush (15), 2) := by decide +kernel
theorem d_Law_law_38 : decode code 38 = .ok (.iand, 1) := by decide +kernel
theorem d_Law_law_39 : decode code 39 = .ok (.tableswitch (734) 0 12 #[65, 137, 193, 256, 324, 368, 424, 480, 516, 529, 542, 598, 666], 65) := by decide +kernel
theorem d_Law_law_104 : decode code 104 = .ok (.aload_n 1, 1) := by decide +kernel
theorem d_Law_law_105 : decode code 105 = .ok (.aload_n 0, 1) := by decide +kernel
theorem d_Law_law_106 : decode code 106 = .ok (.iload 4, 2) := by decide +kernel
theorem d_Law_law_108 : decode code 108 = .ok (.iconst 1, 1) := by decide +kernel
theorem d_Law_law_109 : decode code 109 = .ok (.iadd, 1) := by decide +kernel
theorem d_Law_law_110 : decode code 110 = .ok (.iaload, 1) := by decide +kernel
theorem d_Law_law_111 : decode code 111 = .ok (.aload_n 0, 1) := by decide +kernel
theorem d_Law_law_112 : decode code 112 = .ok (.iload 4, 2) := by decide +kernel
theorem d_Law_law_114 : decode code 114 = .ok (.iconst 2, 1) := by decide +kernel
theorem d_Law_law_115 : decode code 115 = .ok (.iadd, 1) := by decide +kernel
theorem d_Law_law_116 : decode code 116 = .ok (.iaload, 1) := by decide +kernel
theorem d_Law_law_117 : decode code 117 = .ok (.aload_n 0, 1) := by decide +kernel
theorem d_Law_law_118 : decode code 118 = .ok (.iload 4, 2) := by decide +kernel
theorem d_Law_law_120 : decode code 120 = .ok (.iconst 3, 1) := by decide +kernel
theorem d_Law_law_121 : decode code 121 = .ok (.iadd, 1) := by decide +kernel
theorem d_Law_law_122 : decode code 122 = .ok (.iaload, 1) := by decide +kernel
theorem d_Law_law_123 : decode code 123 = .ok (.aload_n 0, 1) := by decide +kernel
theorem d_Law_law_124 : decode code 124 = .ok (.iload 4, 2) := by decide +kernel
theorem d_Law_law_126 : decode code 126 = .ok (.iconst 4, 1) := by decide +kernel
theorem d_Law_law_127 : decode code 127 = .ok (.iadd, 1) := by decide +kernel
theorem d_Law_law_128 : decode code 128 = .ok (.iaload, 1) := by decide +kernel
theorem d_Law_law_129 : decode code 129 = .ok (.invokestatic 60, 3) := by decide +kernel
theorem d_Law_law_132 : decode code 132 = .ok (.istore 5, 2) := by decide +kernel
theorem d_Law_law_134 : decode code 134 = .ok (.aload_n 2, 1) := by decide +kernel
theorem d_Law_law_135 : decode code 135 = .ok (.aload_n 0, 1) := by decide +kernel
theorem d_Law_law_136 : decode code 136 = .ok (.iload 4, 2) := by decide +kernel
theorem d_Law_law_138 : decode code 138 = .ok (.iconst 1, 1) := by decide +kernel
theorem d_Law_law_139 : decode code 139 = .ok (.iadd, 1) := by decide +kernel
theorem d_Law_law_140 : decode code 140 = .ok (.iaload, 1) := by decide +kernel
theorem d_Law_law_141 : decode code 141 = .ok (.aload_n 0, 1) := by decide +kernel
theorem d_Law_law_142 : decode code 142 = .ok (.iload 4, 2) := by decide +kernel
theorem d_Law_law_144 : decode code 144 = .ok (.iconst 2, 1) := by decide +kernel
theorem d_Law_law_145 : decode code 145 = .ok (.iadd, 1) := by decide +kernel
theorem d_Law_law_146 : decode code 146 = .ok (.iaload, 1) := by decide +kernel
theorem d_Law_law_147 : decode code 147 = .ok (.aload_n 0, 1) := by decide +kernel
theorem d_Law_law_148 : decode code 148 = .ok (.iload 4, 2) := by decide +kernel
theorem d_Law_law_150 : decode code 150 = .ok (.iconst 3, 1) := by decide +kernel
theorem d_Law_law_151 : decode code 151 = .ok (.iadd, 1) := by decide +kernel
theorem d_Law_law_152 : decode code 152 = .ok (.iaload, 1) := by decide +kernel
theorem d_Law_law_153 : decode code 153 = .ok (.aload_n 0, 1) := by decide +kernel
theorem d_Law_law_154 : decode code 154 = .ok (.iload 4, 2) := by decide +kernel
theorem d_Law_law_156 : decode code 156 = .ok (.iconst 4, 1) := by decide +kernel
theorem d_Law_law_157 : decode code 157 = .ok (.iadd, 1) := by decide +kernel
theorem d_Law_law_158 : decode code 158 = .ok (.iaload, 1) := by decide +kernel
theorem d_Law_law_159 : decode code 159 = .ok (.invokevirtual 65, 3) := by decide +kernel
theorem d_Law_law_162 : decode code 162 = .ok (.aload_n 2, 1) := by decide +kernel
theorem d_Law_law_163 : decode code 163 = .ok (.invokevirtual 66, 3) := by decide +kernel
theorem d_Law_law_166 : decode code 166 = .ok (.iload 5, 2) := by decide +kernel
theorem d_Law_law_168 : decode code 168 = .ok (.if_icmp .eq (5), 3) := by decide +kernel
theorem d_Law_law_171 : decode code 171 = .ok (.iconst 0, 1) := by decide +kernel
theorem d_Law_law_172 : decode code 172 = .ok (.ireturn, 1) := by decide +kernel
theorem d_Law_law_173 : decode code 173 = .ok (.goto (600), 3) := by decide +kernel
theorem d_Law_law_176 : decode code 176 = .ok (.aload_n 1, 1) := by decide +kernel
theorem d_Law_law_177 : decode code 177 = .ok (.aload_n 0, 1) := by decide +kernel
theorem d_Law_law_178 : decode code 178 = .ok (.iload 4, 2) := by decide +kernel
theorem d_Law_law_180 : decode code 180 = .ok (.iconst 1, 1) := by decide +kernel
theorem d_Law_law_181 : decode code 181 = .ok (.iadd, 1) := by decide +kernel
theorem d_Law_law_182 : decode code 182 = .ok (.iaload, 1) := by decide +kernel
theorem d_Law_law_183 : decode code 183 = .ok (.aload_n 3, 1) := by decide +kernel
theorem d_Law_law_184 : decode code 184 = .ok (.invokestatic 69, 3) := by decide +kernel
theorem d_Law_law_187 : decode code 187 = .ok (.istore 5, 2) := by decide +kernel
theorem d_Law_law_189 : decode code 189 = .ok (.aload_n 2, 1) := by decide +kernel
theorem d_Law_law_190 : decode code 190 = .ok (.aload_n 0, 1) := by decide +kernel
theorem d_Law_law_191 : decode code 191 = .ok (.iload 4, 2) := by decide +kernel
theorem d_Law_law_193 : decode code 193 = .ok (.iconst 1, 1) := by decide +kernel
theorem d_Law_law_194 : decode code 194 = .ok (.iadd, 1) := by decide +kernel
theorem d_Law_law_195 : decode code 195 = .ok (.iaload, 1) := by decide +kernel
theorem d_Law_law_196 : decode code 196 = .ok (.invokevirtual 72, 3) := by decide +kernel
theorem d_Law_law_199 : decode code 199 = .ok (.istore 6, 2) := by decide +kernel
theorem d_Law_law_201 : decode code 201 = .ok (.aload_n 2, 1) := by decide +kernel
theorem d_Law_law_202 : decode code 202 = .ok (.invokevirtual 66, 3) := by decide +kernel
theorem d_Law_law_205 : decode code 205 = .ok (.iload 5, 2) := by decide +kernel
theorem d_Law_law_207 : decode code 207 = .ok (.if_icmp .eq (5), 3) := by decide +kernel
theorem d_Law_law_210 : decode code 210 = .ok (.iconst 0, 1) := by decide +kernel
theorem d_Law_law_211 : decode code 211 = .ok (.ireturn, 1) := by decide +kernel
theorem d_Law_law_212 : decode code 212 = .ok (.iload 5, 2) := by decide +kernel
theorem d_Law_law_214 : decode code 214 = .ok (.ifCond .ne (15), 3) := by decide +kernel
theorem d_Law_law_217 : decode code 217 = .ok (.aload_n 3, 1) := by decide +kernel
theorem d_Law_law_218 : decode code 218 = .ok (.iconst 0, 1) := by decide +kernel
theorem d_Law_law_219 : decode code 219 = .ok (.laload, 1) := by decide +kernel
theorem d_Law_law_220 : decode code 220 = .ok (.iload 6, 2) := by decide +kernel
theorem d_Law_law_222 : decode code 222 = .ok (.i2l, 1) := by decide +kernel
theorem d_Law_law_223 : decode code 223 = .ok (.lcmp, 1) := by decide +kernel
theorem d_Law_law_224 : decode code 224 = .ok (.ifCond .eq (5), 3) := by decide +kernel
theorem d_Law_law_227 : decode code 227 = .ok (.iconst 0, 1) := by decide +kernel
theorem d_Law_law_228 : decode code 228 = .ok (.ireturn, 1) := by decide +kernel
theorem d_Law_law_229 : decode code 229 = .ok (.goto (544), 3) := by decide +kernel
theorem d_Law_law_232 : decode code 232 = .ok (.aload_n 1, 1) := by decide +kernel
theorem d_Law_law_233 : decode code 233 = .ok (.aload_n 0, 1) := by decide +kernel
theorem d_Law_law_234 : decode code 234 = .ok (.iload 4, 2) := by decide +kernel
theorem d_Law_law_236 : decode code 236 = .ok (.iconst 1, 1) := by decide +kernel
theorem d_Law_law_237 : decode code 237 = .ok (.iadd, 1) := by decide +kernel
theorem d_Law_law_238 : decode code 238 = .ok (.iaload, 1) := by decide +kernel
theorem d_Law_law_239 : decode code 239 = .ok (.aload_n 3, 1) := by decide +kernel
theorem d_Law_law_240 : decode code 240 = .ok (.invokestatic 73, 3) := by decide +kernel
theorem d_Law_law_243 : decode code 243 = .ok (.istore 5, 2) := by decide +kernel
theorem d_Law_law_245 : decode code 245 = .ok (.aload_n 2, 1) := by decide +kernel
theorem d_Law_law_246 : decode code 246 = .ok (.aload_n 0, 1) := by decide +kernel
theorem d_Law_law_247 : decode code 247 = .ok (.iload 4, 2) := by decide +kernel
theorem d_Law_law_249 : decode code 249 = .ok (.iconst 1, 1) := by decide +kernel
theorem d_Law_law_250 : decode code 250 = .ok (.iadd, 1) := by decide +kernel
theorem d_Law_law_251 : decode code 251 = .ok (.iaload, 1) := by decide +kernel
theorem d_Law_law_252 : decode code 252 = .ok (.invokevirtual 75, 3) := by decide +kernel
theorem d_Law_law_255 : decode code 255 = .ok (.istore 6, 2) := by decide +kernel
theorem d_Law_law_257 : decode code 257 = .ok (.aload_n 2, 1) := by decide +kernel
theorem d_Law_law_258 : decode code 258 = .ok (.invokevirtual 66, 3) := by decide +kernel
theorem d_Law_law_261 : decode code 261 = .ok (.iload 5, 2) := by decide +kernel
theorem d_Law_law_263 : decode code 263 = .ok (.if_icmp .eq (5), 3) := by decide +kernel
theorem d_Law_law_266 : decode code 266 = .ok (.iconst 0, 1) := by decide +kernel
theorem d_Law_law_267 : decode code 267 = .ok (.ireturn, 1) := by decide +kernel
theorem d_Law_law_268 : decode code 268 = .ok (.iload 5, 2) := by decide +kernel
theorem d_Law_law_270 : decode code 270 = .ok (.ifCond .ne (22), 3) := by decide +kernel
theorem d_Law_law_273 : decode code 273 = .ok (.aload_n 3, 1) := by decide +kernel
theorem d_Law_law_274 : decode code 274 = .ok (.iconst 0, 1) := by decide +kernel
theorem d_Law_law_275 : decode code 275 = .ok (.laload, 1) := by decide +kernel
theorem d_Law_law_276 : decode code 276 = .ok (.iload 6, 2) := by decide +kernel
theorem d_Law_law_278 : decode code 278 = .ok (.ifCond .eq (7), 3) := by decide +kernel
theorem d_Law_law_281 : decode code 281 = .ok (.lconst 1, 1) := by decide +kernel
theorem d_Law_law_282 : decode code 282 = .ok (.goto (4), 3) := by decide +kernel
theorem d_Law_law_285 : decode code 285 = .ok (.lconst 0, 1) := by decide +kernel
theorem d_Law_law_286 : decode code 286 = .ok (.lcmp, 1) := by decide +kernel
theorem d_Law_law_287 : decode code 287 = .ok (.ifCond .eq (5), 3) := by decide +kernel
theorem d_Law_law_290 : decode code 290 = .ok (.iconst 0, 1) := by decide +kernel
theorem d_Law_law_291 : decode code 291 = .ok (.ireturn, 1) := by decide +kernel
theorem d_Law_law_292 : decode code 292 = .ok (.goto (481), 3) := by decide +kernel
theorem d_Law_law_295 : decode code 295 = .ok (.aload_n 1, 1) := by decide +kernel
theorem d_Law_law_296 : decode code 296 = .ok (.aload_n 0, 1) := by decide +kernel
theorem d_Law_law_297 : decode code 297 = .ok (.iload 4, 2) := by decide +kernel
theorem d_Law_law_299 : decode code 299 = .ok (.iconst 1, 1) := by decide +kernel
theorem d_Law_law_300 : decode code 300 = .ok (.iadd, 1) := by decide +kernel
theorem d_Law_law_301 : decode code 301 = .ok (.iaload, 1) := by decide +kernel
theorem d_Law_law_302 : decode code 302 = .ok (.aload_n 0, 1) := by decide +kernel
theorem d_Law_law_303 : decode code 303 = .ok (.iload 4, 2) := by decide +kernel
theorem d_Law_law_305 : decode code 305 = .ok (.iconst 2, 1) := by decide +kernel
theorem d_Law_law_306 : decode code 306 = .ok (.iadd, 1) := by decide +kernel
theorem d_Law_law_307 : decode code 307 = .ok (.iaload, 1) := by decide +kernel
theorem d_Law_law_308 : decode code 308 = .ok (.aload_n 3, 1) := by decide +kernel
theorem d_Law_law_309 : decode code 309 = .ok (.invokestatic 76, 3) := by decide +kernel
theorem d_Law_law_312 : decode code 312 = .ok (.istore 5, 2) := by decide +kernel
theorem d_Law_law_314 : decode code 314 = .ok (.aload_n 2, 1) := by decide +kernel
theorem d_Law_law_315 : decode code 315 = .ok (.aload_n 0, 1) := by decide +kernel
theorem d_Law_law_316 : decode code 316 = .ok (.iload 4, 2) := by decide +kernel
theorem d_Law_law_318 : decode code 318 = .ok (.iconst 1, 1) := by decide +kernel
theorem d_Law_law_319 : decode code 319 = .ok (.iadd, 1) := by decide +kernel
theorem d_Law_law_320 : decode code 320 = .ok (.iaload, 1) := by decide +kernel
theorem d_Law_law_321 : decode code 321 = .ok (.aload_n 0, 1) := by decide +kernel
theorem d_Law_law_322 : decode code 322 = .ok (.iload 4, 2) := by decide +kernel
theorem d_Law_law_324 : decode code 324 = .ok (.iconst 2, 1) := by decide +kernel
theorem d_Law_law_325 : decode code 325 = .ok (.iadd, 1) := by decide +kernel
theorem d_Law_law_326 : decode code 326 = .ok (.iaload, 1) := by decide +kernel
theorem d_Law_law_327 : decode code 327 = .ok (.invokevirtual 79, 3) := by decide +kernel
theorem d_Law_law_330 : decode code 330 = .ok (.istore 6, 2) := by decide +kernel
theorem d_Law_law_332 : decode code 332 = .ok (.aload_n 2, 1) := by decide +kernel
theorem d_Law_law_333 : decode code 333 = .ok (.invokevirtual 66, 3) := by decide +kernel
theorem d_Law_law_336 : decode code 336 = .ok (.iload 5, 2) := by decide +kernel
theorem d_Law_law_338 : decode code 338 = .ok (.if_icmp .eq (5), 3) := by decide +kernel
theorem d_Law_law_341 : decode code 341 = .ok (.iconst 0, 1) := by decide +kernel
theorem d_Law_law_342 : decode code 342 = .ok (.ireturn, 1) := by decide +kernel
theorem d_Law_law_343 : decode code 343 = .ok (.iload 5, 2) := by decide +kernel
theorem d_Law_law_345 : decode code 345 = .ok (.ifCond .ne (15), 3) := by decide +kernel
theorem d_Law_law_348 : decode code 348 = .ok (.aload_n 3, 1) := by decide +kernel
theorem d_Law_law_349 : decode code 349 = .ok (.iconst 0, 1) := by decide +kernel
theorem d_Law_law_350 : decode code 350 = .ok (.laload, 1) := by decide +kernel
theorem d_Law_law_351 : decode code 351 = .ok (.iload 6, 2) := by decide +kernel
theorem d_Law_law_353 : decode code 353 = .ok (.i2l, 1) := by decide +kernel
theorem d_Law_law_354 : decode code 354 = .ok (.lcmp, 1) := by decide +kernel
theorem d_Law_law_355 : decode code 355 = .ok (.ifCond .eq (5), 3) := by decide +kernel
theorem d_Law_law_358 : decode code 358 = .ok (.iconst 0, 1) := by decide +kernel
theorem d_Law_law_359 : decode code 359 = .ok (.ireturn, 1) := by decide +kernel
theorem d_Law_law_360 : decode code 360 = .ok (.goto (413), 3) := by decide +kernel
theorem d_Law_law_363 : decode code 363 = .ok (.aload_n 1, 1) := by decide +kernel
theorem d_Law_law_364 : decode code 364 = .ok (.aload_n 3, 1) := by decide +kernel
theorem d_Law_law_365 : decode code 365 = .ok (.invokestatic 80, 3) := by decide +kernel
theorem d_Law_law_368 : decode code 368 = .ok (.istore 5, 2) := by decide +kernel
theorem d_Law_law_370 : decode code 370 = .ok (.aload_n 2, 1) := by decide +kernel
theorem d_Law_law_371 : decode code 371 = .ok (.invokevirtual 83, 3) := by decide +kernel
theorem d_Law_law_374 : decode code 374 = .ok (.istore 6, 2) := by decide +kernel
theorem d_Law_law_376 : decode code 376 = .ok (.aload_n 2, 1) := by decide +kernel
theorem d_Law_law_377 : decode code 377 = .ok (.invokevirtual 66, 3) := by decide +kernel
theorem d_Law_law_380 : decode code 380 = .ok (.iload 5, 2) := by decide +kernel
theorem d_Law_law_382 : decode code 382 = .ok (.if_icmp .eq (5), 3) := by decide +kernel
theorem d_Law_law_385 : decode code 385 = .ok (.iconst 0, 1) := by decide +kernel
theorem d_Law_law_386 : decode code 386 = .ok (.ireturn, 1) := by decide +kernel
theorem d_Law_law_387 : decode code 387 = .ok (.iload 5, 2) := by decide +kernel
theorem d_Law_law_389 : decode code 389 = .ok (.ifCond .ne (15), 3) := by decide +kernel
theorem d_Law_law_392 : decode code 392 = .ok (.aload_n 3, 1) := by decide +kernel
theorem d_Law_law_393 : decode code 393 = .ok (.iconst 0, 1) := by decide +kernel
theorem d_Law_law_394 : decode code 394 = .ok (.laload, 1) := by decide +kernel
theorem d_Law_law_395 : decode code 395 = .ok (.iload 6, 2) := by decide +kernel
theorem d_Law_law_397 : decode code 397 = .ok (.i2l, 1) := by decide +kernel
theorem d_Law_law_398 : decode code 398 = .ok (.lcmp, 1) := by decide +kernel
theorem d_Law_law_399 : decode code 399 = .ok (.ifCond .eq (5), 3) := by decide +kernel
theorem d_Law_law_402 : decode code 402 = .ok (.iconst 0, 1) := by decide +kernel
theorem d_Law_law_403 : decode code 403 = .ok (.ireturn, 1) := by decide +kernel
theorem d_Law_law_404 : decode code 404 = .ok (.goto (369), 3) := by decide +kernel
theorem d_Law_law_407 : decode code 407 = .ok (.aload_n 1, 1) := by decide +kernel
theorem d_Law_law_408 : decode code 408 = .ok (.aload_n 0, 1) := by decide +kernel
theorem d_Law_law_409 : decode code 409 = .ok (.iload 4, 2) := by decide +kernel
theorem d_Law_law_411 : decode code 411 = .ok (.iconst 1, 1) := by decide +kernel
theorem d_Law_law_412 : decode code 412 = .ok (.iadd, 1) := by decide +kernel
theorem d_Law_law_413 : decode code 413 = .ok (.iaload, 1) := by decide +kernel
theorem d_Law_law_414 : decode code 414 = .ok (.aload_n 3, 1) := by decide +kernel
theorem d_Law_law_415 : decode code 415 = .ok (.invokestatic 84, 3) := by decide +kernel
theorem d_Law_law_418 : decode code 418 = .ok (.istore 5, 2) := by decide +kernel
theorem d_Law_law_420 : decode code 420 = .ok (.aload_n 2, 1) := by decide +kernel
theorem d_Law_law_421 : decode code 421 = .ok (.aload_n 0, 1) := by decide +kernel
theorem d_Law_law_422 : decode code 422 = .ok (.iload 4, 2) := by decide +kernel
theorem d_Law_law_424 : decode code 424 = .ok (.iconst 1, 1) := by decide +kernel
theorem d_Law_law_425 : decode code 425 = .ok (.iadd, 1) := by decide +kernel
theorem d_Law_law_426 : decode code 426 = .ok (.iaload, 1) := by decide +kernel
theorem d_Law_law_427 : decode code 427 = .ok (.invokevirtual 86, 3) := by decide +kernel
theorem d_Law_law_430 : decode code 430 = .ok (.istore 6, 2) := by decide +kernel
theorem d_Law_law_432 : decode code 432 = .ok (.aload_n 2, 1) := by decide +kernel
theorem d_Law_law_433 : decode code 433 = .ok (.invokevirtual 66, 3) := by decide +kernel
theorem d_Law_law_436 : decode code 436 = .ok (.iload 5, 2) := by decide +kernel
theorem d_Law_law_438 : decode code 438 = .ok (.if_icmp .eq (5), 3) := by decide +kernel
theorem d_Law_law_441 : decode code 441 = .ok (.iconst 0, 1) := by decide +kernel
theorem d_Law_law_442 : decode code 442 = .ok (.ireturn, 1) := by decide +kernel
theorem d_Law_law_443 : decode code 443 = .ok (.iload 5, 2) := by decide +kernel
theorem d_Law_law_445 : decode code 445 = .ok (.ifCond .ne (15), 3) := by decide +kernel
theorem d_Law_law_448 : decode code 448 = .ok (.aload_n 3, 1) := by decide +kernel
theorem d_Law_law_449 : decode code 449 = .ok (.iconst 0, 1) := by decide +kernel
theorem d_Law_law_450 : decode code 450 = .ok (.laload, 1) := by decide +kernel
theorem d_Law_law_451 : decode code 451 = .ok (.iload 6, 2) := by decide +kernel
theorem d_Law_law_453 : decode code 453 = .ok (.i2l, 1) := by decide +kernel
theorem d_Law_law_454 : decode code 454 = .ok (.lcmp, 1) := by decide +kernel
theorem d_Law_law_455 : decode code 455 = .ok (.ifCond .eq (5), 3) := by decide +kernel
theorem d_Law_law_458 : decode code 458 = .ok (.iconst 0, 1) := by decide +kernel
theorem d_Law_law_459 : decode code 459 = .ok (.ireturn, 1) := by decide +kernel
theorem d_Law_law_460 : decode code 460 = .ok (.goto (313), 3) := by decide +kernel
theorem d_Law_law_463 : decode code 463 = .ok (.aload_n 1, 1) := by decide +kernel
theorem d_Law_law_464 : decode code 464 = .ok (.aload_n 0, 1) := by decide +kernel
theorem d_Law_law_465 : decode code 465 = .ok (.iload 4, 2) := by decide +kernel
theorem d_Law_law_467 : decode code 467 = .ok (.iconst 1, 1) := by decide +kernel
theorem d_Law_law_468 : decode code 468 = .ok (.iadd, 1) := by decide +kernel
theorem d_Law_law_469 : decode code 469 = .ok (.iaload, 1) := by decide +kernel
theorem d_Law_law_470 : decode code 470 = .ok (.aload_n 3, 1) := by decide +kernel
theorem d_Law_law_471 : decode code 471 = .ok (.invokestatic 87, 3) := by decide +kernel
theorem d_Law_law_474 : decode code 474 = .ok (.istore 5, 2) := by decide +kernel
theorem d_Law_law_476 : decode code 476 = .ok (.aload_n 2, 1) := by decide +kernel
theorem d_Law_law_477 : decode code 477 = .ok (.aload_n 0, 1) := by decide +kernel
theorem d_Law_law_478 : decode code 478 = .ok (.iload 4, 2) := by decide +kernel
theorem d_Law_law_480 : decode code 480 = .ok (.iconst 1, 1) := by decide +kernel
theorem d_Law_law_481 : decode code 481 = .ok (.iadd, 1) := by decide +kernel
theorem d_Law_law_482 : decode code 482 = .ok (.iaload, 1) := by decide +kernel
theorem d_Law_law_483 : decode code 483 = .ok (.invokevirtual 89, 3) := by decide +kernel
theorem d_Law_law_486 : decode code 486 = .ok (.istore 6, 2) := by decide +kernel
theorem d_Law_law_488 : decode code 488 = .ok (.aload_n 2, 1) := by decide +kernel
theorem d_Law_law_489 : decode code 489 = .ok (.invokevirtual 66, 3) := by decide +kernel
theorem d_Law_law_492 : decode code 492 = .ok (.iload 5, 2) := by decide +kernel
theorem d_Law_law_494 : decode code 494 = .ok (.if_icmp .eq (5), 3) := by decide +kernel
theorem d_Law_law_497 : decode code 497 = .ok (.iconst 0, 1) := by decide +kernel
theorem d_Law_law_498 : decode code 498 = .ok (.ireturn, 1) := by decide +kernel
theorem d_Law_law_499 : decode code 499 = .ok (.iload 5, 2) := by decide +kernel
theorem d_Law_law_501 : decode code 501 = .ok (.ifCond .ne (15), 3) := by decide +kernel
theorem d_Law_law_504 : decode code 504 = .ok (.aload_n 3, 1) := by decide +kernel
theorem d_Law_law_505 : decode code 505 = .ok (.iconst 0, 1) := by decide +kernel
theorem d_Law_law_506 : decode code 506 = .ok (.laload, 1) := by decide +kernel
theorem d_Law_law_507 : decode code 507 = .ok (.iload 6, 2) := by decide +kernel
theorem d_Law_law_509 : decode code 509 = .ok (.i2l, 1) := by decide +kernel
theorem d_Law_law_510 : decode code 510 = .ok (.lcmp, 1) := by decide +kernel
theorem d_Law_law_511 : decode code 511 = .ok (.ifCond .eq (5), 3) := by decide +kernel
theorem d_Law_law_514 : decode code 514 = .ok (.iconst 0, 1) := by decide +kernel
theorem d_Law_law_515 : decode code 515 = .ok (.ireturn, 1) := by decide +kernel
theorem d_Law_law_516 : decode code 516 = .ok (.goto (257), 3) := by decide +kernel
theorem d_Law_law_519 : decode code 519 = .ok (.aload_n 1, 1) := by decide +kernel
theorem d_Law_law_520 : decode code 520 = .ok (.aload_n 0, 1) := by decide +kernel
theorem d_Law_law_521 : decode code 521 = .ok (.iload 4, 2) := by decide +kernel
theorem d_Law_law_523 : decode code 523 = .ok (.iconst 1, 1) := by decide +kernel
theorem d_Law_law_524 : decode code 524 = .ok (.iadd, 1) := by decide +kernel
theorem d_Law_law_525 : decode code 525 = .ok (.iaload, 1) := by decide +kernel
theorem d_Law_law_526 : decode code 526 = .ok (.invokestatic 90, 3) := by decide +kernel
theorem d_Law_law_529 : decode code 529 = .ok (.istore 5, 2) := by decide +kernel
theorem d_Law_law_531 : decode code 531 = .ok (.aload_n 2, 1) := by decide +kernel
theorem d_Law_law_532 : decode code 532 = .ok (.aload_n 0, 1) := by decide +kernel
theorem d_Law_law_533 : decode code 533 = .ok (.iload 4, 2) := by decide +kernel
theorem d_Law_law_535 : decode code 535 = .ok (.iconst 1, 1) := by decide +kernel
theorem d_Law_law_536 : decode code 536 = .ok (.iadd, 1) := by decide +kernel
theorem d_Law_law_537 : decode code 537 = .ok (.iaload, 1) := by decide +kernel
theorem d_Law_law_538 : decode code 538 = .ok (.invokevirtual 93, 3) := by decide +kernel
theorem d_Law_law_541 : decode code 541 = .ok (.aload_n 2, 1) := by decide +kernel
theorem d_Law_law_542 : decode code 542 = .ok (.invokevirtual 66, 3) := by decide +kernel
theorem d_Law_law_545 : decode code 545 = .ok (.iload 5, 2) := by decide +kernel
theorem d_Law_law_547 : decode code 547 = .ok (.if_icmp .eq (5), 3) := by decide +kernel
theorem d_Law_law_550 : decode code 550 = .ok (.iconst 0, 1) := by decide +kernel
theorem d_Law_law_551 : decode code 551 = .ok (.ireturn, 1) := by decide +kernel
theorem d_Law_law_552 : decode code 552 = .ok (.goto (221), 3) := by decide +kernel
theorem d_Law_law_555 : decode code 555 = .ok (.aload_n 1, 1) := by decide +kernel
theorem d_Law_law_556 : decode code 556 = .ok (.invokevirtual 94, 3) := by decide +kernel
theorem d_Law_law_559 : decode code 559 = .ok (.aload_n 2, 1) := by decide +kernel
theorem d_Law_law_560 : decode code 560 = .ok (.invokevirtual 97, 3) := by decide +kernel
theorem d_Law_law_563 : decode code 563 = .ok (.if_icmp .eq (210), 3) := by decide +kernel
theorem d_Law_law_566 : decode code 566 = .ok (.iconst 0, 1) := by decide +kernel
theorem d_Law_law_567 : decode code 567 = .ok (.ireturn, 1) := by decide +kernel
theorem d_Law_law_568 : decode code 568 = .ok (.aload_n 1, 1) := by decide +kernel
theorem d_Law_law_569 : decode code 569 = .ok (.invokevirtual 98, 3) := by decide +kernel
theorem d_Law_law_572 : decode code 572 = .ok (.aload_n 2, 1) := by decide +kernel
theorem d_Law_law_573 : decode code 573 = .ok (.invokevirtual 102, 3) := by decide +kernel
theorem d_Law_law_576 : decode code 576 = .ok (.if_icmp .eq (197), 3) := by decide +kernel
theorem d_Law_law_579 : decode code 579 = .ok (.iconst 0, 1) := by decide +kernel
theorem d_Law_law_580 : decode code 580 = .ok (.ireturn, 1) := by decide +kernel
theorem d_Law_law_581 : decode code 581 = .ok (.aload_n 1, 1) := by decide +kernel
theorem d_Law_law_582 : decode code 582 = .ok (.aload_n 0, 1) := by decide +kernel
theorem d_Law_law_583 : decode code 583 = .ok (.iload 4, 2) := by decide +kernel
theorem d_Law_law_585 : decode code 585 = .ok (.iconst 1, 1) := by decide +kernel
theorem d_Law_law_586 : decode code 586 = .ok (.iadd, 1) := by decide +kernel
theorem d_Law_law_587 : decode code 587 = .ok (.iaload, 1) := by decide +kernel
theorem d_Law_law_588 : decode code 588 = .ok (.aload_n 3, 1) := by decide +kernel
theorem d_Law_law_589 : decode code 589 = .ok (.invokestatic 103, 3) := by decide +kernel
theorem d_Law_law_592 : decode code 592 = .ok (.istore 5, 2) := by decide +kernel
theorem d_Law_law_594 : decode code 594 = .ok (.aload_n 2, 1) := by decide +kernel
theorem d_Law_law_595 : decode code 595 = .ok (.aload_n 0, 1) := by decide +kernel
theorem d_Law_law_596 : decode code 596 = .ok (.iload 4, 2) := by decide +kernel
theorem d_Law_law_598 : decode code 598 = .ok (.iconst 1, 1) := by decide +kernel
theorem d_Law_law_599 : decode code 599 = .ok (.iadd, 1) := by decide +kernel
theorem d_Law_law_600 : decode code 600 = .ok (.iaload, 1) := by decide +kernel
theorem d_Law_law_601 : decode code 601 = .ok (.invokevirtual 105, 3) := by decide +kernel
theorem d_Law_law_604 : decode code 604 = .ok (.istore 6, 2) := by decide +kernel
theorem d_Law_law_606 : decode code 606 = .ok (.aload_n 2, 1) := by decide +kernel
theorem d_Law_law_607 : decode code 607 = .ok (.invokevirtual 66, 3) := by decide +kernel
theorem d_Law_law_610 : decode code 610 = .ok (.iload 5, 2) := by decide +kernel
theorem d_Law_law_612 : decode code 612 = .ok (.if_icmp .eq (5), 3) := by decide +kernel
theorem d_Law_law_615 : decode code 615 = .ok (.iconst 0, 1) := by decide +kernel
theorem d_Law_law_616 : decode code 616 = .ok (.ireturn, 1) := by decide +kernel
theorem d_Law_law_617 : decode code 617 = .ok (.iload 5, 2) := by decide +kernel
theorem d_Law_law_619 : decode code 619 = .ok (.ifCond .ne (15), 3) := by decide +kernel
theorem d_Law_law_622 : decode code 622 = .ok (.aload_n 3, 1) := by decide +kernel
theorem d_Law_law_623 : decode code 623 = .ok (.iconst 0, 1) := by decide +kernel
theorem d_Law_law_624 : decode code 624 = .ok (.laload, 1) := by decide +kernel
theorem d_Law_law_625 : decode code 625 = .ok (.iload 6, 2) := by decide +kernel
theorem d_Law_law_627 : decode code 627 = .ok (.i2l, 1) := by decide +kernel
theorem d_Law_law_628 : decode code 628 = .ok (.lcmp, 1) := by decide +kernel
theorem d_Law_law_629 : decode code 629 = .ok (.ifCond .eq (5), 3) := by decide +kernel
theorem d_Law_law_632 : decode code 632 = .ok (.iconst 0, 1) := by decide +kernel
theorem d_Law_law_633 : decode code 633 = .ok (.ireturn, 1) := by decide +kernel
theorem d_Law_law_634 : decode code 634 = .ok (.goto (139), 3) := by decide +kernel
theorem d_Law_law_637 : decode code 637 = .ok (.aload_n 1, 1) := by decide +kernel
theorem d_Law_law_638 : decode code 638 = .ok (.aload_n 0, 1) := by decide +kernel
theorem d_Law_law_639 : decode code 639 = .ok (.iload 4, 2) := by decide +kernel
theorem d_Law_law_641 : decode code 641 = .ok (.iconst 1, 1) := by decide +kernel
theorem d_Law_law_642 : decode code 642 = .ok (.iadd, 1) := by decide +kernel
theorem d_Law_law_643 : decode code 643 = .ok (.iaload, 1) := by decide +kernel
theorem d_Law_law_644 : decode code 644 = .ok (.aload_n 0, 1) := by decide +kernel
theorem d_Law_law_645 : decode code 645 = .ok (.iload 4, 2) := by decide +kernel
theorem d_Law_law_647 : decode code 647 = .ok (.iconst 2, 1) := by decide +kernel
theorem d_Law_law_648 : decode code 648 = .ok (.iadd, 1) := by decide +kernel
theorem d_Law_law_649 : decode code 649 = .ok (.iaload, 1) := by decide +kernel
theorem d_Law_law_650 : decode code 650 = .ok (.aload_n 3, 1) := by decide +kernel
theorem d_Law_law_651 : decode code 651 = .ok (.invokestatic 106, 3) := by decide +kernel
theorem d_Law_law_654 : decode code 654 = .ok (.istore 5, 2) := by decide +kernel
theorem d_Law_law_656 : decode code 656 = .ok (.aload_n 2, 1) := by decide +kernel
theorem d_Law_law_657 : decode code 657 = .ok (.aload_n 0, 1) := by decide +kernel
theorem d_Law_law_658 : decode code 658 = .ok (.iload 4, 2) := by decide +kernel
theorem d_Law_law_660 : decode code 660 = .ok (.iconst 1, 1) := by decide +kernel
theorem d_Law_law_661 : decode code 661 = .ok (.iadd, 1) := by decide +kernel
theorem d_Law_law_662 : decode code 662 = .ok (.iaload, 1) := by decide +kernel
theorem d_Law_law_663 : decode code 663 = .ok (.aload_n 0, 1) := by decide +kernel
theorem d_Law_law_664 : decode code 664 = .ok (.iload 4, 2) := by decide +kernel
theorem d_Law_law_666 : decode code 666 = .ok (.iconst 2, 1) := by decide +kernel
theorem d_Law_law_667 : decode code 667 = .ok (.iadd, 1) := by decide +kernel
theorem d_Law_law_668 : decode code 668 = .ok (.iaload, 1) := by decide +kernel
theorem d_Law_law_669 : decode code 669 = .ok (.invokevirtual 108, 3) := by decide +kernel
theorem d_Law_law_672 : decode code 672 = .ok (.istore 6, 2) := by decide +kernel
theorem d_Law_law_674 : decode code 674 = .ok (.aload_n 2, 1) := by decide +kernel
theorem d_Law_law_675 : decode code 675 = .ok (.invokevirtual 66, 3) := by decide +kernel
theorem d_Law_law_678 : decode code 678 = .ok (.iload 5, 2) := by decide +kernel
theorem d_Law_law_680 : decode code 680 = .ok (.if_icmp .eq (5), 3) := by decide +kernel
theorem d_Law_law_683 : decode code 683 = .ok (.iconst 0, 1) := by decide +kernel
theorem d_Law_law_684 : decode code 684 = .ok (.ireturn, 1) := by decide +kernel
theorem d_Law_law_685 : decode code 685 = .ok (.iload 5, 2) := by decide +kernel
theorem d_Law_law_687 : decode code 687 = .ok (.ifCond .ne (15), 3) := by decide +kernel
theorem d_Law_law_690 : decode code 690 = .ok (.aload_n 3, 1) := by decide +kernel
theorem d_Law_law_691 : decode code 691 = .ok (.iconst 0, 1) := by decide +kernel
theorem d_Law_law_692 : decode code 692 = .ok (.laload, 1) := by decide +kernel
theorem d_Law_law_693 : decode code 693 = .ok (.iload 6, 2) := by decide +kernel
theorem d_Law_law_695 : decode code 695 = .ok (.i2l, 1) := by decide +kernel
theorem d_Law_law_696 : decode code 696 = .ok (.lcmp, 1) := by decide +kernel
theorem d_Law_law_697 : decode code 697 = .ok (.ifCond .eq (5), 3) := by decide +kernel
theorem d_Law_law_700 : decode code 700 = .ok (.iconst 0, 1) := by decide +kernel
theorem d_Law_law_701 : decode code 701 = .ok (.ireturn, 1) := by decide +kernel
theorem d_Law_law_702 : decode code 702 = .ok (.goto (71), 3) := by decide +kernel
theorem d_Law_law_705 : decode code 705 = .ok (.aload_n 1, 1) := by decide +kernel
theorem d_Law_law_706 : decode code 706 = .ok (.aload_n 0, 1) := by decide +kernel
theorem d_Law_law_707 : decode code 707 = .ok (.iload 4, 2) := by decide +kernel
theorem d_Law_law_709 : decode code 709 = .ok (.iconst 1, 1) := by decide +kernel
theorem d_Law_law_710 : decode code 710 = .ok (.iadd, 1) := by decide +kernel
theorem d_Law_law_711 : decode code 711 = .ok (.iaload, 1) := by decide +kernel
theorem d_Law_law_712 : decode code 712 = .ok (.aload_n 0, 1) := by decide +kernel
theorem d_Law_law_713 : decode code 713 = .ok (.iload 4, 2) := by decide +kernel
theorem d_Law_law_715 : decode code 715 = .ok (.iconst 2, 1) := by decide +kernel
theorem d_Law_law_716 : decode code 716 = .ok (.iadd, 1) := by decide +kernel
theorem d_Law_law_717 : decode code 717 = .ok (.iaload, 1) := by decide +kernel
theorem d_Law_law_718 : decode code 718 = .ok (.aload_n 3, 1) := by decide +kernel
theorem d_Law_law_719 : decode code 719 = .ok (.invokestatic 109, 3) := by decide +kernel
theorem d_Law_law_722 : decode code 722 = .ok (.istore 5, 2) := by decide +kernel
theorem d_Law_law_724 : decode code 724 = .ok (.aload_n 2, 1) := by decide +kernel
theorem d_Law_law_725 : decode code 725 = .ok (.aload_n 0, 1) := by decide +kernel
theorem d_Law_law_726 : decode code 726 = .ok (.iload 4, 2) := by decide +kernel
theorem d_Law_law_728 : decode code 728 = .ok (.iconst 1, 1) := by decide +kernel
theorem d_Law_law_729 : decode code 729 = .ok (.iadd, 1) := by decide +kernel
theorem d_Law_law_730 : decode code 730 = .ok (.iaload, 1) := by decide +kernel
theorem d_Law_law_731 : decode code 731 = .ok (.aload_n 0, 1) := by decide +kernel
theorem d_Law_law_732 : decode code 732 = .ok (.iload 4, 2) := by decide +kernel
theorem d_Law_law_734 : decode code 734 = .ok (.iconst 2, 1) := by decide +kernel
theorem d_Law_law_735 : decode code 735 = .ok (.iadd, 1) := by decide +kernel
theorem d_Law_law_736 : decode code 736 = .ok (.iaload, 1) := by decide +kernel
theorem d_Law_law_737 : decode code 737 = .ok (.invokevirtual 111, 3) := by decide +kernel
theorem d_Law_law_740 : decode code 740 = .ok (.istore 6, 2) := by decide +kernel
theorem d_Law_law_742 : decode code 742 = .ok (.aload_n 2, 1) := by decide +kernel
theorem d_Law_law_743 : decode code 743 = .ok (.invokevirtual 66, 3) := by decide +kernel
theorem d_Law_law_746 : decode code 746 = .ok (.iload 5, 2) := by decide +kernel
theorem d_Law_law_748 : decode code 748 = .ok (.if_icmp .eq (5), 3) := by decide +kernel
theorem d_Law_law_751 : decode code 751 = .ok (.iconst 0, 1) := by decide +kernel
theorem d_Law_law_752 : decode code 752 = .ok (.ireturn, 1) := by decide +kernel
theorem d_Law_law_753 : decode code 753 = .ok (.iload 5, 2) := by decide +kernel
theorem d_Law_law_755 : decode code 755 = .ok (.ifCond .ne (15), 3) := by decide +kernel
theorem d_Law_law_758 : decode code 758 = .ok (.aload_n 3, 1) := by decide +kernel
theorem d_Law_law_759 : decode code 759 = .ok (.iconst 0, 1) := by decide +kernel
theorem d_Law_law_760 : decode code 760 = .ok (.laload, 1) := by decide +kernel
theorem d_Law_law_761 : decode code 761 = .ok (.iload 6, 2) := by decide +kernel
theorem d_Law_law_763 : decode code 763 = .ok (.i2l, 1) := by decide +kernel
theorem d_Law_law_764 : decode code 764 = .ok (.lcmp, 1) := by decide +kernel
theorem d_Law_law_765 : decode code 765 = .ok (.ifCond .eq (5), 3) := by decide +kernel
theorem d_Law_law_768 : decode code 768 = .ok (.iconst 0, 1) := by decide +kernel
theorem d_Law_law_769 : decode code 769 = .ok (.ireturn, 1) := by decide +kernel
theorem d_Law_law_770 : decode code 770 = .ok (.goto (3), 3) := by decide +kernel
theorem d_Law_law_773 : decode code 773 = .ok (.iinc 4 (5), 3) := by decide +kernel
theorem d_Law_law_776 : decode code 776 = .ok (.goto (-753), 3) := by decide +kernel
theorem d_Law_law_779 : decode code 779 = .ok (.iconst 1, 1) := by decide +kernel
theorem d_Law_law_780 : decode code 780 = .ok (.ireturn, 1) := by decide +kernel
