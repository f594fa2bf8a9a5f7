theorem d_Mod_look_121 : decode prog_12_method_17_code 121 = .ok (.istore_n 1, 1) := by decide +kernel
theorem d_Mod_look_122 : decode prog_12_method_17_code 122 = .ok (.iload_n 1, 1) := by decide +kernel
theorem d_Mod_look_123 : decode prog_12_method_17_code 123 = .ok (.iconst 5, 1) := by decide +kernel
theorem d_Mod_look_124 : decode prog_12_method_17_code 124 = .ok (.if_icmp .lt (9), 3) := by decide +kernel
theorem d_Mod_look_127 : decode prog_12_method_17_code 127 = .ok (.iload_n 1, 1) := by decide +kernel
theorem d_Mod_look_128 : decode prog_12_method_17_code 128 = .ok (.bipush (64), 2) := by decide +kernel
theorem d_Mod_look_130 : decode prog_12_method_17_code 130 = .ok (.if_icmp .le (5), 3) := by decide +kernel
theorem d_Mod_look_133 : decode prog_12_method_17_code 133 = .ok (.iconst 1, 1) := by decide +kernel
theorem d_Mod_look_134 : decode prog_12_method_17_code 134 = .ok (.ireturn, 1) := by decide +kernel
theorem d_Mod_look_135 : decode prog_12_method_17_code 135 = .ok (.aload_n 0, 1) := by decide +kernel
theorem d_Mod_look_136 : decode prog_12_method_17_code 136 = .ok (.getfield 30, 3) := by decide +kernel
theorem d_Mod_look_139 : decode prog_12_method_17_code 139 = .ok (.iload_n 1, 1) := by decide +kernel
theorem d_Mod_look_140 : decode prog_12_method_17_code 140 = .ok (.bipush (7), 2) := by decide +kernel
theorem d_Mod_look_142 : decode prog_12_method_17_code 142 = .ok (.iadd, 1) := by decide +kernel
theorem d_Mod_look_143 : decode prog_12_method_17_code 143 = .ok (.if_icmp .ge (5), 3) := by decide +kernel
theorem d_Mod_look_146 : decode prog_12_method_17_code 146 = .ok (.iconst 0, 1) := by decide +kernel
theorem d_Mod_look_147 : decode prog_12_method_17_code 147 = .ok (.ireturn, 1) := by decide +kernel
theorem d_Mod_look_148 : decode prog_12_method_17_code 148 = .ok (.aload_n 0, 1) := by decide +kernel
theorem d_Mod_look_149 : decode prog_12_method_17_code 149 = .ok (.iload_n 1, 1) := by decide +kernel
theorem d_Mod_look_150 : decode prog_12_method_17_code 150 = .ok (.invokevirtual 140, 3) := by decide +kernel
theorem d_Mod_look_153 : decode prog_12_method_17_code 153 = .ok (.ifCond .eq (7), 3) := by decide +kernel
theorem d_Mod_look_156 : decode prog_12_method_17_code 156 = .ok (.iconst 2, 1) := by decide +kernel
theorem d_Mod_look_157 : decode prog_12_method_17_code 157 = .ok (.goto (4), 3) := by decide +kernel
theorem d_Mod_look_160 : decode prog_12_method_17_code 160 = .ok (.iconst 1, 1) := by decide +kernel
theorem d_Mod_look_161 : decode prog_12_method_17_code 161 = .ok (.ireturn, 1) := by decide +kernel
theorem d_Mod_byteIn_0 : decode prog_12_method_18_code 0 = .ok (.iconst 0, 1) := by decide +kernel
theorem d_Mod_byteIn_1 : decode prog_12_method_18_code 1 = .ok (.istore_n 2, 1) := by decide +kernel
theorem d_Mod_byteIn_2 : decode prog_12_method_18_code 2 = .ok (.aload_n 0, 1) := by decide +kernel
theorem d_Mod_byteIn_3 : decode prog_12_method_18_code 3 = .ok (.getfield 27, 3) := by decide +kernel
theorem d_Mod_byteIn_6 : decode prog_12_method_18_code 6 = .ok (.aload_n 0, 1) := by decide +kernel
theorem d_Mod_byteIn_7 : decode prog_12_method_18_code 7 = .ok (.getfield 30, 3) := by decide +kernel
theorem d_Mod_byteIn_10 : decode prog_12_method_18_code 10 = .ok (.iload_n 1, 1) := by decide +kernel
theorem d_Mod_byteIn_11 : decode prog_12_method_18_code 11 = .ok (.iastore, 1) := by decide +kernel
theorem d_Mod_byteIn_12 : decode prog_12_method_18_code 12 = .ok (.aload_n 0, 1) := by decide +kernel
theorem d_Mod_byteIn_13 : decode prog_12_method_18_code 13 = .ok (.dup, 1) := by decide +kernel
theorem d_Mod_byteIn_14 : decode prog_12_method_18_code 14 = .ok (.getfield 30, 3) := by decide +kernel
theorem d_Mod_byteIn_17 : decode prog_12_method_18_code 17 = .ok (.iconst 1, 1) := by decide +kernel
theorem d_Mod_byteIn_18 : decode prog_12_method_18_code 18 = .ok (.iadd, 1) := by decide +kernel
theorem d_Mod_byteIn_19 : decode prog_12_method_18_code 19 = .ok (.putfield 30, 3) := by decide +kernel
theorem d_Mod_byteIn_22 : decode prog_12_method_18_code 22 = .ok (.aload_n 0, 1) := by decide +kernel
theorem d_Mod_byteIn_23 : decode prog_12_method_18_code 23 = .ok (.invokevirtual 143, 3) := by decide +kernel
theorem d_Mod_byteIn_26 : decode prog_12_method_18_code 26 = .ok (.istore_n 3, 1) := by decide +kernel
theorem d_Mod_byteIn_27 : decode prog_12_method_18_code 27 = .ok (.iload_n 3, 1) := by decide +kernel
theorem d_Mod_byteIn_28 : decode prog_12_method_18_code 28 = .ok (.ifCond .eq (76), 3) := by decide +kernel
theorem d_Mod_byteIn_31 : decode prog_12_method_18_code 31 = .ok (.aload_n 0, 1) := by decide +kernel
theorem d_Mod_byteIn_32 : decode prog_12_method_18_code 32 = .ok (.getfield 20, 3) := by decide +kernel
theorem d_Mod_byteIn_35 : decode prog_12_method_18_code 35 = .ok (.ifCond .ne (69), 3) := by decide +kernel
theorem d_Mod_byteIn_38 : decode prog_12_method_18_code 38 = .ok (.iload_n 3, 1) := by decide +kernel
theorem d_Mod_byteIn_39 : decode prog_12_method_18_code 39 = .ok (.iconst 1, 1) := by decide +kernel
theorem d_Mod_byteIn_40 : decode prog_12_method_18_code 40 = .ok (.if_icmp .ne (7), 3) := by decide +kernel
theorem d_Mod_byteIn_43 : decode prog_12_method_18_code 43 = .ok (.iconst 1, 1) := by decide +kernel
theorem d_Mod_byteIn_44 : decode prog_12_method_18_code 44 = .ok (.goto (27), 3) := by decide +kernel
theorem d_Mod_byteIn_47 : decode prog_12_method_18_code 47 = .ok (.aload_n 0, 1) := by decide +kernel
theorem d_Mod_byteIn_48 : decode prog_12_method_18_code 48 = .ok (.getfield 27, 3) := by decide +kernel
theorem d_Mod_byteIn_51 : decode prog_12_method_18_code 51 = .ok (.iconst 5, 1) := by decide +kernel
theorem d_Mod_byteIn_52 : decode prog_12_method_18_code 52 = .ok (.iaload, 1) := by decide +kernel
theorem d_Mod_byteIn_53 : decode prog_12_method_18_code 53 = .ok (.bipush (7), 2) := by decide +kernel
theorem d_Mod_byteIn_55 : decode prog_12_method_18_code 55 = .ok (.iand, 1) := by decide +kernel
theorem d_Mod_byteIn_56 : decode prog_12_method_18_code 56 = .ok (.sipush (256), 3) := by decide +kernel
theorem d_Mod_byteIn_59 : decode prog_12_method_18_code 59 = .ok (.imul, 1) := by decide +kernel
theorem d_Mod_byteIn_60 : decode prog_12_method_18_code 60 = .ok (.aload_n 0, 1) := by decide +kernel
theorem d_Mod_byteIn_61 : decode prog_12_method_18_code 61 = .ok (.getfield 27, 3) := by decide +kernel
theorem d_Mod_byteIn_64 : decode prog_12_method_18_code 64 = .ok (.bipush (6), 2) := by decide +kernel
theorem d_Mod_byteIn_66 : decode prog_12_method_18_code 66 = .ok (.iaload, 1) := by decide +kernel
theorem d_Mod_byteIn_67 : decode prog_12_method_18_code 67 = .ok (.iadd, 1) := by decide +kernel
theorem d_Mod_byteIn_68 : decode prog_12_method_18_code 68 = .ok (.bipush (8), 2) := by decide +kernel
theorem d_Mod_byteIn_70 : decode prog_12_method_18_code 70 = .ok (.iadd, 1) := by decide +kernel
theorem d_Mod_byteIn_71 : decode prog_12_method_18_code 71 = .ok (.istore 4, 2) := by decide +kernel
theorem d_Mod_byteIn_73 : decode prog_12_method_18_code 73 = .ok (.iload_n 3, 1) := by decide +kernel
theorem d_Mod_byteIn_74 : decode prog_12_method_18_code 74 = .ok (.iconst 2, 1) := by decide +kernel
theorem d_Mod_byteIn_75 : decode prog_12_method_18_code 75 = .ok (.if_icmp .ne (15), 3) := by decide +kernel
theorem d_Mod_byteIn_78 : decode prog_12_method_18_code 78 = .ok (.iinc 2 (1), 3) := by decide +kernel
theorem d_Mod_byteIn_81 : decode prog_12_method_18_code 81 = .ok (.aload_n 0, 1) := by decide +kernel
theorem d_Mod_byteIn_82 : decode prog_12_method_18_code 82 = .ok (.iload 4, 2) := by decide +kernel
theorem d_Mod_byteIn_84 : decode prog_12_method_18_code 84 = .ok (.bipush (7), 2) := by decide +kernel
theorem d_Mod_byteIn_86 : decode prog_12_method_18_code 86 = .ok (.isub, 1) := by decide +kernel
theorem d_Mod_byteIn_87 : decode prog_12_method_18_code 87 = .ok (.invokevirtual 146, 3) := by decide +kernel
theorem d_Mod_byteIn_90 : decode prog_12_method_18_code 90 = .ok (.aload_n 0, 1) := by decide +kernel
theorem d_Mod_byteIn_91 : decode prog_12_method_18_code 91 = .ok (.iload 4, 2) := by decide +kernel
theorem d_Mod_byteIn_93 : decode prog_12_method_18_code 93 = .ok (.invokevirtual 150, 3) := by decide +kernel
theorem d_Mod_byteIn_96 : decode prog_12_method_18_code 96 = .ok (.aload_n 0, 1) := by decide +kernel
theorem d_Mod_byteIn_97 : decode prog_12_method_18_code 97 = .ok (.invokevirtual 143, 3) := by decide +kernel
theorem d_Mod_byteIn_100 : decode prog_12_method_18_code 100 = .ok (.istore_n 3, 1) := by decide +kernel
theorem d_Mod_byteIn_101 : decode prog_12_method_18_code 101 = .ok (.goto (-74), 3) := by decide +kernel
theorem d_Mod_byteIn_104 : decode prog_12_method_18_code 104 = .ok (.iload_n 2, 1) := by decide +kernel
theorem d_Mod_byteIn_105 : decode prog_12_method_18_code 105 = .ok (.ireturn, 1) := by decide +kernel
theorem d_Mod_seenBy_0 : decode prog_12_method_19_code 0 = .ok (.aload_n 0, 1) := by decide +kernel
theorem d_Mod_seenBy_1 : decode prog_12_method_19_code 1 = .ok (.getfield 13, 3) := by decide +kernel
theorem d_Mod_seenBy_4 : decode prog_12_method_19_code 4 = .ok (.i2l, 1) := by decide +kernel
theorem d_Mod_seenBy_5 : decode prog_12_method_19_code 5 = .ok (.aload_n 0, 1) := by decide +kernel
theorem d_Mod_seenBy_6 : decode prog_12_method_19_code 6 = .ok (.getfield 16, 3) := by decide +kernel
theorem d_Mod_seenBy_9 : decode prog_12_method_19_code 9 = .ok (.iconst 3, 1) := by decide +kernel
theorem d_Mod_seenBy_10 : decode prog_12_method_19_code 10 = .ok (.iload_n 1, 1) := by decide +kernel
theorem d_Mod_seenBy_11 : decode prog_12_method_19_code 11 = .ok (.imul, 1) := by decide +kernel
theorem d_Mod_seenBy_12 : decode prog_12_method_19_code 12 = .ok (.iaload, 1) := by decide +kernel
theorem d_Mod_seenBy_13 : decode prog_12_method_19_code 13 = .ok (.i2l, 1) := by decide +kernel
theorem d_Mod_seenBy_14 : decode prog_12_method_19_code 14 = .ok (.ladd, 1) := by decide +kernel
theorem d_Mod_seenBy_15 : decode prog_12_method_19_code 15 = .ok (.lstore_n 2, 1) := by decide +kernel
theorem d_Mod_seenBy_16 : decode prog_12_method_19_code 16 = .ok (.lload_n 2, 1) := by decide +kernel
theorem d_Mod_seenBy_17 : decode prog_12_method_19_code 17 = .ok (.aload_n 0, 1) := by decide +kernel
theorem d_Mod_seenBy_18 : decode prog_12_method_19_code 18 = .ok (.getfield 16, 3) := by decide +kernel
theorem d_Mod_seenBy_21 : decode prog_12_method_19_code 21 = .ok (.iconst 3, 1) := by decide +kernel
theorem d_Mod_seenBy_22 : decode prog_12_method_19_code 22 = .ok (.iload_n 1, 1) := by decide +kernel
theorem d_Mod_seenBy_23 : decode prog_12_method_19_code 23 = .ok (.imul, 1) := by decide +kernel
theorem d_Mod_seenBy_24 : decode prog_12_method_19_code 24 = .ok (.iconst 1, 1) := by decide +kernel
theorem d_Mod_seenBy_25 : decode prog_12_method_19_code 25 = .ok (.iadd, 1) := by decide +kernel
theorem d_Mod_seenBy_26 : decode prog_12_method_19_code 26 = .ok (.iaload, 1) := by decide +kernel
theorem d_Mod_seenBy_27 : decode prog_12_method_19_code 27 = .ok (.i2l, 1) := by decide +kernel
theorem d_Mod_seenBy_28 : decode prog_12_method_19_code 28 = .ok (.lrem, 1) := by decide +kernel
theorem d_Mod_seenBy_29 : decode prog_12_method_19_code 29 = .ok (.aload_n 0, 1) := by decide +kernel
theorem d_Mod_seenBy_30 : decode prog_12_method_19_code 30 = .ok (.getfield 16, 3) := by decide +kernel
theorem d_Mod_seenBy_33 : decode prog_12_method_19_code 33 = .ok (.iconst 3, 1) := by decide +kernel
theorem d_Mod_seenBy_34 : decode prog_12_method_19_code 34 = .ok (.iload_n 1, 1) := by decide +kernel
theorem d_Mod_seenBy_35 : decode prog_12_method_19_code 35 = .ok (.imul, 1) := by decide +kernel
theorem d_Mod_seenBy_36 : decode prog_12_method_19_code 36 = .ok (.iconst 2, 1) := by decide +kernel
theorem d_Mod_seenBy_37 : decode prog_12_method_19_code 37 = .ok (.iadd, 1) := by decide +kernel
theorem d_Mod_seenBy_38 : decode prog_12_method_19_code 38 = .ok (.iaload, 1) := by decide +kernel
theorem d_Mod_seenBy_39 : decode prog_12_method_19_code 39 = .ok (.i2l, 1) := by decide +kernel
theorem d_Mod_seenBy_40 : decode prog_12_method_19_code 40 = .ok (.lcmp, 1) := by decide +kernel
theorem d_Mod_seenBy_41 : decode prog_12_method_19_code 41 = .ok (.ifCond .ge (7), 3) := by decide +kernel
theorem d_Mod_seenBy_44 : decode prog_12_method_19_code 44 = .ok (.iconst 1, 1) := by decide +kernel
theorem d_Mod_seenBy_45 : decode prog_12_method_19_code 45 = .ok (.goto (4), 3) := by decide +kernel
theorem d_Mod_seenBy_48 : decode prog_12_method_19_code 48 = .ok (.iconst 0, 1) := by decide +kernel
theorem d_Mod_seenBy_49 : decode prog_12_method_19_code 49 = .ok (.ireturn, 1) := by decide +kernel
theorem d_Mod_fill_0 : decode prog_12_method_20_code 0 = .ok (.iconst 0, 1) := by decide +kernel
theorem d_Mod_fill_1 : decode prog_12_method_20_code 1 = .ok (.istore_n 2, 1) := by decide +kernel
theorem d_Mod_fill_2 : decode prog_12_method_20_code 2 = .ok (.iconst (-1), 1) := by decide +kernel
theorem d_Mod_fill_3 : decode prog_12_method_20_code 3 = .ok (.istore_n 3, 1) := by decide +kernel
theorem d_Mod_fill_4 : decode prog_12_method_20_code 4 = .ok (.iconst 0, 1) := by decide +kernel
theorem d_Mod_fill_5 : decode prog_12_method_20_code 5 = .ok (.istore 4, 2) := by decide +kernel
theorem d_Mod_fill_7 : decode prog_12_method_20_code 7 = .ok (.bipush (8), 2) := by decide +kernel
theorem d_Mod_fill_9 : decode prog_12_method_20_code 9 = .ok (.istore 5, 2) := by decide +kernel
theorem d_Mod_fill_11 : decode prog_12_method_20_code 11 = .ok (.iload 5, 2) := by decide +kernel
theorem d_Mod_fill_13 : decode prog_12_method_20_code 13 = .ok (.bipush (30), 2) := by decide +kernel
theorem d_Mod_fill_15 : decode prog_12_method_20_code 15 = .ok (.if_icmp .ge (134), 3) := by decide +kernel
theorem d_Mod_fill_18 : decode prog_12_method_20_code 18 = .ok (.iload_n 2, 1) := by decide +kernel
theorem d_Mod_fill_19 : decode prog_12_method_20_code 19 = .ok (.aload_n 0, 1) := by decide +kernel
theorem d_Mod_fill_20 : decode prog_12_method_20_code 20 = .ok (.getfield 58, 3) := by decide +kernel
theorem d_Mod_fill_23 : decode prog_12_method_20_code 23 = .ok (.if_icmp .ge (41), 3) := by decide +kernel
theorem d_Mod_fill_26 : decode prog_12_method_20_code 26 = .ok (.aload_n 0, 1) := by decide +kernel
theorem d_Mod_fill_27 : decode prog_12_method_20_code 27 = .ok (.getfield 67, 3) := by decide +kernel
theorem d_Mod_fill_30 : decode prog_12_method_20_code 30 = .ok (.bipush (60), 2) := by decide +kernel
theorem d_Mod_fill_32 : decode prog_12_method_20_code 32 = .ok (.iload_n 2, 1) := by decide +kernel
theorem d_Mod_fill_33 : decode prog_12_method_20_code 33 = .ok (.imul, 1) := by decide +kernel
theorem d_Mod_fill_34 : decode prog_12_method_20_code 34 = .ok (.iconst 1, 1) := by decide +kernel
theorem d_Mod_fill_35 : decode prog_12_method_20_code 35 = .ok (.iadd, 1) := by decide +kernel
theorem d_Mod_fill_36 : decode prog_12_method_20_code 36 = .ok (.iaload, 1) := by decide +kernel
theorem d_Mod_fill_37 : decode prog_12_method_20_code 37 = .ok (.iconst 1, 1) := by decide +kernel
theorem d_Mod_fill_38 : decode prog_12_method_20_code 38 = .ok (.iand, 1) := by decide +kernel
theorem d_Mod_fill_39 : decode prog_12_method_20_code 39 = .ok (.iload_n 1, 1) := by decide +kernel
theorem d_Mod_fill_40 : decode prog_12_method_20_code 40 = .ok (.if_icmp .ne (18), 3) := by decide +kernel
theorem d_Mod_fill_43 : decode prog_12_method_20_code 43 = .ok (.aload_n 0, 1) := by decide +kernel
theorem d_Mod_fill_44 : decode prog_12_method_20_code 44 = .ok (.getfield 73, 3) := by decide +kernel
theorem d_Mod_fill_47 : decode prog_12_method_20_code 47 = .ok (.iload_n 2, 1) := by decide +kernel
theorem d_Mod_fill_48 : decode prog_12_method_20_code 48 = .ok (.iaload, 1) := by decide +kernel
theorem d_Mod_fill_49 : decode prog_12_method_20_code 49 = .ok (.aload_n 0, 1) := by decide +kernel
theorem d_Mod_fill_50 : decode prog_12_method_20_code 50 = .ok (.getfield 64, 3) := by decide +kernel
theorem d_Mod_fill_53 : decode prog_12_method_20_code 53 = .ok (.iload_n 2, 1) := by decide +kernel
theorem d_Mod_fill_54 : decode prog_12_method_20_code 54 = .ok (.iaload, 1) := by decide +kernel
theorem d_Mod_fill_55 : decode prog_12_method_20_code 55 = .ok (.if_icmp .ne (9), 3) := by decide +kernel
theorem d_Mod_fill_58 : decode prog_12_method_20_code 58 = .ok (.iinc 2 (1), 3) := by decide +kernel
theorem d_Mod_fill_61 : decode prog_12_method_20_code 61 = .ok (.goto (-43), 3) := by decide +kernel
theorem d_Mod_fill_64 : decode prog_12_method_20_code 64 = .ok (.iload_n 2, 1) := by decide +kernel
theorem d_Mod_fill_65 : decode prog_12_method_20_code 65 = .ok (.aload_n 0, 1) := by decide +kernel
theorem d_Mod_fill_66 : decode prog_12_method_20_code 66 = .ok (.getfield 58, 3) := by decide +kernel
theorem d_Mod_fill_69 : decode prog_12_method_20_code 69 = .ok (.if_icmp .ne (15), 3) := by decide +kernel
theorem d_Mod_fill_72 : decode prog_12_method_20_code 72 = .ok (.aload_n 0, 1) := by decide +kernel
theorem d_Mod_fill_73 : decode prog_12_method_20_code 73 = .ok (.getfield 85, 3) := by decide +kernel
theorem d_Mod_fill_76 : decode prog_12_method_20_code 76 = .ok (.iload 5, 2) := by decide +kernel
theorem d_Mod_fill_78 : decode prog_12_method_20_code 78 = .ok (.bipush (85), 2) := by decide +kernel
theorem d_Mod_fill_80 : decode prog_12_method_20_code 80 = .ok (.iastore, 1) := by decide +kernel
theorem d_Mod_fill_81 : decode prog_12_method_20_code 81 = .ok (.goto (62), 3) := by decide +kernel
theorem d_Mod_fill_84 : decode prog_12_method_20_code 84 = .ok (.aload_n 0, 1) := by decide +kernel
theorem d_Mod_fill_85 : decode prog_12_method_20_code 85 = .ok (.getfield 73, 3) := by decide +kernel
theorem d_Mod_fill_88 : decode prog_12_method_20_code 88 = .ok (.iload_n 2, 1) := by decide +kernel
theorem d_Mod_fill_89 : decode prog_12_method_20_code 89 = .ok (.iaload, 1) := by decide +kernel
theorem d_Mod_fill_90 : decode prog_12_method_20_code 90 = .ok (.ifCond .ne (13), 3) := by decide +kernel
theorem d_Mod_fill_93 : decode prog_12_method_20_code 93 = .ok (.iload_n 3, 1) := by decide +kernel
theorem d_Mod_fill_94 : decode prog_12_method_20_code 94 = .ok (.ifCond .ge (9), 3) := by decide +kernel
theorem d_Mod_fill_97 : decode prog_12_method_20_code 97 = .ok (.iload 5, 2) := by decide +kernel
theorem d_Mod_fill_99 : decode prog_12_method_20_code 99 = .ok (.bipush (8), 2) := by decide +kernel
theorem d_Mod_fill_101 : decode prog_12_method_20_code 101 = .ok (.isub, 1) := by decide +kernel
theorem d_Mod_fill_102 : decode prog_12_method_20_code 102 = .ok (.istore_n 3, 1) := by decide +kernel
theorem d_Mod_fill_103 : decode prog_12_method_20_code 103 = .ok (.iconst 1, 1) := by decide +kernel
theorem d_Mod_fill_104 : decode prog_12_method_20_code 104 = .ok (.istore 4, 2) := by decide +kernel
theorem d_Mod_fill_106 : decode prog_12_method_20_code 106 = .ok (.aload_n 0, 1) := by decide +kernel
theorem d_Mod_fill_107 : decode prog_12_method_20_code 107 = .ok (.getfield 85, 3) := by decide +kernel
theorem d_Mod_fill_110 : decode prog_12_method_20_code 110 = .ok (.iload 5, 2) := by decide +kernel
theorem d_Mod_fill_112 : decode prog_12_method_20_code 112 = .ok (.aload_n 0, 1) := by decide +kernel
theorem d_Mod_fill_113 : decode prog_12_method_20_code 113 = .ok (.getfield 67, 3) := by decide +kernel
theorem d_Mod_fill_116 : decode prog_12_method_20_code 116 = .ok (.bipush (60), 2) := by decide +kernel
theorem d_Mod_fill_118 : decode prog_12_method_20_code 118 = .ok (.iload_n 2, 1) := by decide +kernel
theorem d_Mod_fill_119 : decode prog_12_method_20_code 119 = .ok (.imul, 1) := by decide +kernel
theorem d_Mod_fill_120 : decode prog_12_method_20_code 120 = .ok (.aload_n 0, 1) := by decide +kernel
theorem d_Mod_fill_121 : decode prog_12_method_20_code 121 = .ok (.getfield 73, 3) := by decide +kernel
theorem d_Mod_fill_124 : decode prog_12_method_20_code 124 = .ok (.iload_n 2, 1) := by decide +kernel
theorem d_Mod_fill_125 : decode prog_12_method_20_code 125 = .ok (.iaload, 1) := by decide +kernel
theorem d_Mod_fill_126 : decode prog_12_method_20_code 126 = .ok (.iadd, 1) := by decide +kernel
theorem d_Mod_fill_127 : decode prog_12_method_20_code 127 = .ok (.iaload, 1) := by decide +kernel
theorem d_Mod_fill_128 : decode prog_12_method_20_code 128 = .ok (.iastore, 1) := by decide +kernel
theorem d_Mod_fill_129 : decode prog_12_method_20_code 129 = .ok (.aload_n 0, 1) := by decide +kernel
theorem d_Mod_fill_130 : decode prog_12_method_20_code 130 = .ok (.getfield 73, 3) := by decide +kernel
theorem d_Mod_fill_133 : decode prog_12_method_20_code 133 = .ok (.iload_n 2, 1) := by decide +kernel
theorem d_Mod_fill_134 : decode prog_12_method_20_code 134 = .ok (.aload_n 0, 1) := by decide +kernel
theorem d_Mod_fill_135 : decode prog_12_method_20_code 135 = .ok (.getfield 73, 3) := by decide +kernel
theorem d_Mod_fill_138 : decode prog_12_method_20_code 138 = .ok (.iload_n 2, 1) := by decide +kernel
theorem d_Mod_fill_139 : decode prog_12_method_20_code 139 = .ok (.iaload, 1) := by decide +kernel
theorem d_Mod_fill_140 : decode prog_12_method_20_code 140 = .ok (.iconst 1, 1) := by decide +kernel
theorem d_Mod_fill_141 : decode prog_12_method_20_code 141 = .ok (.iadd, 1) := by decide +kernel
theorem d_Mod_fill_142 : decode prog_12_method_20_code 142 = .ok (.iastore, 1) := by decide +kernel
theorem d_Mod_fill_143 : decode prog_12_method_20_code 143 = .ok (.iinc 5 (1), 3) := by decide +kernel
theorem d_Mod_fill_146 : decode prog_12_method_20_code 146 = .ok (.goto (-135), 3) := by decide +kernel
theorem d_Mod_fill_149 : decode prog_12_method_20_code 149 = .ok (.iload_n 3, 1) := by decide +kernel
theorem d_Mod_fill_150 : decode prog_12_method_20_code 150 = .ok (.ifCond .lt (7), 3) := by decide +kernel
theorem d_Mod_fill_153 : decode prog_12_method_20_code 153 = .ok (.iload_n 3, 1) := by decide +kernel
theorem d_Mod_fill_154 : decode prog_12_method_20_code 154 = .ok (.goto (17), 3) := by decide +kernel
theorem d_Mod_fill_157 : decode prog_12_method_20_code 157 = .ok (.iload 4, 2) := by decide +kernel
theorem d_Mod_fill_159 : decode prog_12_method_20_code 159 = .ok (.ifCond .eq (9), 3) := by decide +kernel
theorem d_Mod_fill_162 : decode prog_12_method_20_code 162 = .ok (.sipush (2047), 3) := by decide +kernel
theorem d_Mod_fill_165 : decode prog_12_method_20_code 165 = .ok (.goto (6), 3) := by decide +kernel
theorem d_Mod_fill_168 : decode prog_12_method_20_code 168 = .ok (.sipush (2046), 3) := by decide +kernel
theorem d_Mod_fill_171 : decode prog_12_method_20_code 171 = .ok (.istore 5, 2) := by decide +kernel
theorem d_Mod_fill_173 : decode prog_12_method_20_code 173 = .ok (.aload_n 0, 1) := by decide +kernel
theorem d_Mod_fill_174 : decode prog_12_method_20_code 174 = .ok (.getfield 85, 3) := by decide +kernel
theorem d_Mod_fill_177 : decode prog_12_method_20_code 177 = .ok (.bipush (6), 2) := by decide +kernel
theorem d_Mod_fill_179 : decode prog_12_method_20_code 179 = .ok (.iload 5, 2) := by decide +kernel
theorem d_Mod_fill_181 : decode prog_12_method_20_code 181 = .ok (.bipush (8), 2) := by decide +kernel
theorem d_Mod_fill_183 : decode prog_12_method_20_code 183 = .ok (.ishr, 1) := by decide +kernel
theorem d_Mod_fill_184 : decode prog_12_method_20_code 184 = .ok (.iastore, 1) := by decide +kernel
theorem d_Mod_fill_185 : decode prog_12_method_20_code 185 = .ok (.aload_n 0, 1) := by decide +kernel
theorem d_Mod_fill_186 : decode prog_12_method_20_code 186 = .ok (.getfield 85, 3) := by decide +kernel
theorem d_Mod_fill_189 : decode prog_12_method_20_code 189 = .ok (.bipush (7), 2) := by decide +kernel
theorem d_Mod_fill_191 : decode prog_12_method_20_code 191 = .ok (.iload 5, 2) := by decide +kernel
theorem d_Mod_fill_193 : decode prog_12_method_20_code 193 = .ok (.sipush (255), 3) := by decide +kernel
theorem d_Mod_fill_196 : decode prog_12_method_20_code 196 = .ok (.iand, 1) := by decide +kernel
theorem d_Mod_fill_197 : decode prog_12_method_20_code 197 = .ok (.iastore, 1) := by decide +kernel
theorem d_Mod_fill_198 : decode prog_12_method_20_code 198 = .ok (.return_, 1) := by decide +kernel
theorem d_Mod_check16_0 : decode prog_12_method_21_code 0 = .ok (.ldc 153, 2) := by decide +kernel
theorem d_Mod_check16_2 : decode prog_12_method_21_code 2 = .ok (.istore_n 1, 1) := by decide +kernel
theorem d_Mod_check16_3 : decode prog_12_method_21_code 3 = .ok (.iconst 0, 1) := by decide +kernel
theorem d_Mod_check16_4 : decode prog_12_method_21_code 4 = .ok (.istore_n 2, 1) := by decide +kernel
theorem d_Mod_check16_5 : decode prog_12_method_21_code 5 = .ok (.iload_n 2, 1) := by decide +kernel
theorem d_Mod_check16_6 : decode prog_12_method_21_code 6 = .ok (.bipush (30), 2) := by decide +kernel
theorem d_Mod_check16_8 : decode prog_12_method_21_code 8 = .ok (.if_icmp .ge (58), 3) := by decide +kernel
theorem d_Mod_check16_11 : decode prog_12_method_21_code 11 = .ok (.bipush (7), 2) := by decide +kernel
theorem d_Mod_check16_13 : decode prog_12_method_21_code 13 = .ok (.istore_n 3, 1) := by decide +kernel
theorem d_Mod_check16_14 : decode prog_12_method_21_code 14 = .ok (.iload_n 3, 1) := by decide +kernel
theorem d_Mod_check16_15 : decode prog_12_method_21_code 15 = .ok (.ifCond .lt (45), 3) := by decide +kernel
theorem d_Mod_check16_18 : decode prog_12_method_21_code 18 = .ok (.iload_n 1, 1) := by decide +kernel
theorem d_Mod_check16_19 : decode prog_12_method_21_code 19 = .ok (.bipush (15), 2) := by decide +kernel
theorem d_Mod_check16_21 : decode prog_12_method_21_code 21 = .ok (.ishr, 1) := by decide +kernel
theorem d_Mod_check16_22 : decode prog_12_method_21_code 22 = .ok (.aload_n 0, 1) := by decide +kernel
theorem d_Mod_check16_23 : decode prog_12_method_21_code 23 = .ok (.getfield 85, 3) := by decide +kernel
theorem d_Mod_check16_26 : decode prog_12_method_21_code 26 = .ok (.iload_n 2, 1) := by decide +kernel
theorem d_Mod_check16_27 : decode prog_12_method_21_code 27 = .ok (.iaload, 1) := by decide +kernel
theorem d_Mod_check16_28 : decode prog_12_method_21_code 28 = .ok (.iload_n 3, 1) := by decide +kernel
theorem d_Mod_check16_29 : decode prog_12_method_21_code 29 = .ok (.ishr, 1) := by decide +kernel
theorem d_Mod_check16_30 : decode prog_12_method_21_code 30 = .ok (.iconst 1, 1) := by decide +kernel
theorem d_Mod_check16_31 : decode prog_12_method_21_code 31 = .ok (.iand, 1) := by decide +kernel
theorem d_Mod_check16_32 : decode prog_12_method_21_code 32 = .ok (.ixor, 1) := by decide +kernel
theorem d_Mod_check16_33 : decode prog_12_method_21_code 33 = .ok (.istore 4, 2) := by decide +kernel
theorem d_Mod_check16_35 : decode prog_12_method_21_code 35 = .ok (.iload_n 1, 1) := by decide +kernel
theorem d_Mod_check16_36 : decode prog_12_method_21_code 36 = .ok (.iconst 1, 1) := by decide +kernel
theorem d_Mod_check16_37 : decode prog_12_method_21_code 37 = .ok (.ishl, 1) := by decide +kernel
theorem d_Mod_check16_38 : decode prog_12_method_21_code 38 = .ok (.ldc 153, 2) := by decide +kernel
theorem d_Mod_check16_40 : decode prog_12_method_21_code 40 = .ok (.iand, 1) := by decide +kernel
theorem d_Mod_check16_41 : decode prog_12_method_21_code 41 = .ok (.istore_n 1, 1) := by decide +kernel
theorem d_Mod_check16_42 : decode prog_12_method_21_code 42 = .ok (.iload 4, 2) := by decide +kernel
theorem d_Mod_check16_44 : decode prog_12_method_21_code 44 = .ok (.iconst 1, 1) := by decide +kernel
theorem d_Mod_check16_45 : decode prog_12_method_21_code 45 = .ok (.if_icmp .ne (9), 3) := by decide +kernel
theorem d_Mod_check16_48 : decode prog_12_method_21_code 48 = .ok (.iload_n 1, 1) := by decide +kernel
theorem d_Mod_check16_49 : decode prog_12_method_21_code 49 = .ok (.sipush (4129), 3) := by decide +kernel
theorem d_Mod_check16_52 : decode prog_12_method_21_code 52 = .ok (.ixor, 1) := by decide +kernel
theorem d_Mod_check16_53 : decode prog_12_method_21_code 53 = .ok (.istore_n 1, 1) := by decide +kernel
theorem d_Mod_check16_54 : decode prog_12_method_21_code 54 = .ok (.iinc 3 (-1), 3) := by decide +kernel
theorem d_Mod_check16_57 : decode prog_12_method_21_code 57 = .ok (.goto (-43), 3) := by decide +kernel
theorem d_Mod_check16_60 : decode prog_12_method_21_code 60 = .ok (.iinc 2 (1), 3) := by decide +kernel
theorem d_Mod_check16_63 : decode prog_12_method_21_code 63 = .ok (.goto (-58), 3) := by decide +kernel
theorem d_Mod_check16_66 : decode prog_12_method_21_code 66 = .ok (.aload_n 0, 1) := by decide +kernel
theorem d_Mod_check16_67 : decode prog_12_method_21_code 67 = .ok (.getfield 85, 3) := by decide +kernel
theorem d_Mod_check16_70 : decode prog_12_method_21_code 70 = .ok (.bipush (30), 2) := by decide +kernel
theorem d_Mod_check16_72 : decode prog_12_method_21_code 72 = .ok (.iload_n 1, 1) := by decide +kernel
theorem d_Mod_check16_73 : decode prog_12_method_21_code 73 = .ok (.bipush (8), 2) := by decide +kernel
theorem d_Mod_check16_75 : decode prog_12_method_21_code 75 = .ok (.ishr, 1) := by decide +kernel
theorem d_Mod_check16_76 : decode prog_12_method_21_code 76 = .ok (.iastore, 1) := by decide +kernel
theorem d_Mod_check16_77 : decode prog_12_method_21_code 77 = .ok (.aload_n 0, 1) := by decide +kernel
theorem d_Mod_check16_78 : decode prog_12_method_21_code 78 = .ok (.getfield 85, 3) := by decide +kernel
theorem d_Mod_check16_81 : decode prog_12_method_21_code 81 = .ok (.bipush (31), 2) := by decide +kernel
theorem d_Mod_check16_83 : decode prog_12_method_21_code 83 = .ok (.iload_n 1, 1) := by decide +kernel
theorem d_Mod_check16_84 : decode prog_12_method_21_code 84 = .ok (.sipush (255), 3) := by decide +kernel
theorem d_Mod_check16_87 : decode prog_12_method_21_code 87 = .ok (.iand, 1) := by decide +kernel
theorem d_Mod_check16_88 : decode prog_12_method_21_code 88 = .ok (.iastore, 1) := by decide +kernel
theorem d_Mod_check16_89 : decode prog_12_method_21_code 89 = .ok (.return_, 1) := by decide +kernel
theorem d_Mod_thrown_0 : decode prog_12_method_22_code 0 = .ok (.aload_n 0, 1) := by decide +kernel
theorem d_Mod_thrown_1 : decode prog_12_method_22_code 1 = .ok (.getfield 7, 3) := by decide +kernel
theorem d_Mod_thrown_4 : decode prog_12_method_22_code 4 = .ok (.ireturn, 1) := by decide +kernel
theorem d_Mod_window_0 : decode prog_12_method_23_code 0 = .ok (.aload_n 0, 1) := by decide +kernel
theorem d_Mod_window_1 : decode prog_12_method_23_code 1 = .ok (.iload_n 1, 1) := by decide +kernel
theorem d_Mod_window_2 : decode prog_12_method_23_code 2 = .ok (.ifCond .lt (22), 3) := by decide +kernel
theorem d_Mod_window_5 : decode prog_12_method_23_code 5 = .ok (.iload_n 1, 1) := by decide +kernel
theorem d_Mod_window_6 : decode prog_12_method_23_code 6 = .ok (.iconst 1, 1) := by decide +kernel
theorem d_Mod_window_7 : decode prog_12_method_23_code 7 = .ok (.if_icmp .gt (17), 3) := by decide +kernel
theorem d_Mod_window_10 : decode prog_12_method_23_code 10 = .ok (.iload_n 2, 1) := by decide +kernel
theorem d_Mod_window_11 : decode prog_12_method_23_code 11 = .ok (.ifCond .lt (13), 3) := by decide +kernel
theorem d_Mod_window_14 : decode prog_12_method_23_code 14 = .ok (.iload_n 3, 1) := by decide +kernel
theorem d_Mod_window_15 : decode prog_12_method_23_code 15 = .ok (.iconst 1, 1) := by decide +kernel
theorem d_Mod_window_16 : decode prog_12_method_23_code 16 = .ok (.if_icmp .lt (8), 3) := by decide +kernel
theorem d_Mod_window_19 : decode prog_12_method_23_code 19 = .ok (.iload 4, 2) := by decide +kernel
theorem d_Mod_window_21 : decode prog_12_method_23_code 21 = .ok (.ifCond .ge (7), 3) := by decide +kernel
theorem d_Mod_window_24 : decode prog_12_method_23_code 24 = .ok (.iconst 1, 1) := by decide +kernel
theorem d_Mod_window_25 : decode prog_12_method_23_code 25 = .ok (.goto (4), 3) := by decide +kernel
theorem d_Mod_window_28 : decode prog_12_method_23_code 28 = .ok (.iconst 0, 1) := by decide +kernel
theorem d_Mod_window_29 : decode prog_12_method_23_code 29 = .ok (.putfield 7, 3) := by decide +kernel
theorem d_Mod_window_32 : decode prog_12_method_23_code 32 = .ok (.aload_n 0, 1) := by decide +kernel
theorem d_Mod_window_33 : decode prog_12_method_23_code 33 = .ok (.getfield 7, 3) := by decide +kernel
theorem d_Mod_window_36 : decode prog_12_method_23_code 36 = .ok (.ifCond .eq (4), 3) := by decide +kernel
theorem d_Mod_window_39 : decode prog_12_method_23_code 39 = .ok (.return_, 1) := by decide +kernel
theorem d_Mod_window_40 : decode prog_12_method_23_code 40 = .ok (.aload_n 0, 1) := by decide +kernel
theorem d_Mod_window_41 : decode prog_12_method_23_code 41 = .ok (.getfield 16, 3) := by decide +kernel
theorem d_Mod_window_44 : decode prog_12_method_23_code 44 = .ok (.iconst 3, 1) := by decide +kernel
theorem d_Mod_window_45 : decode prog_12_method_23_code 45 = .ok (.iload_n 1, 1) := by decide +kernel
theorem d_Mod_window_46 : decode prog_12_method_23_code 46 = .ok (.imul, 1) := by decide +kernel
theorem d_Mod_window_47 : decode prog_12_method_23_code 47 = .ok (.iload_n 2, 1) := by decide +kernel
theorem d_Mod_window_48 : decode prog_12_method_23_code 48 = .ok (.iastore, 1) := by decide +kernel
theorem d_Mod_window_49 : decode prog_12_method_23_code 49 = .ok (.aload_n 0, 1) := by decide +kernel
theorem d_Mod_window_50 : decode prog_12_method_23_code 50 = .ok (.getfield 16, 3) := by decide +kernel
theorem d_Mod_window_53 : decode prog_12_method_23_code 53 = .ok (.iconst 3, 1) := by decide +kernel
theorem d_Mod_window_54 : decode prog_12_method_23_code 54 = .ok (.iload_n 1, 1) := by decide +kernel
theorem d_Mod_window_55 : decode prog_12_method_23_code 55 = .ok (.imul, 1) := by decide +kernel
theorem d_Mod_window_56 : decode prog_12_method_23_code 56 = .ok (.iconst 1, 1) := by decide +kernel
theorem d_Mod_window_57 : decode prog_12_method_23_code 57 = .ok (.iadd, 1) := by decide +kernel
theorem d_Mod_window_58 : decode prog_12_method_23_code 58 = .ok (.iload_n 3, 1) := by decide +kernel
theorem d_Mod_window_59 : decode prog_12_method_23_code 59 = .ok (.iastore, 1) := by decide +kernel
theorem d_Mod_window_60 : decode prog_12_method_23_code 60 = .ok (.aload_n 0, 1) := by decide +kernel
theorem d_Mod_window_61 : decode prog_12_method_23_code 61 = .ok (.getfield 16, 3) := by decide +kernel
theorem d_Mod_window_64 : decode prog_12_method_23_code 64 = .ok (.iconst 3, 1) := by decide +kernel
theorem d_Mod_window_65 : decode prog_12_method_23_code 65 = .ok (.iload_n 1, 1) := by decide +kernel
theorem d_Mod_window_66 : decode prog_12_method_23_code 66 = .ok (.imul, 1) := by decide +kernel
theorem d_Mod_window_67 : decode prog_12_method_23_code 67 = .ok (.iconst 2, 1) := by decide +kernel
theorem d_Mod_window_68 : decode prog_12_method_23_code 68 = .ok (.iadd, 1) := by decide +kernel
theorem d_Mod_window_69 : decode prog_12_method_23_code 69 = .ok (.iload 4, 2) := by decide +kernel
theorem d_Mod_window_71 : decode prog_12_method_23_code 71 = .ok (.iastore, 1) := by decide +kernel
theorem d_Mod_window_72 : decode prog_12_method_23_code 72 = .ok (.return_, 1) := by decide +kernel
theorem d_Mod_minute_0 : decode prog_12_method_24_code 0 = .ok (.aload_n 0, 1) := by decide +kernel
theorem d_Mod_minute_1 : decode prog_12_method_24_code 1 = .ok (.iload_n 1, 1) := by decide +kernel
theorem d_Mod_minute_2 : decode prog_12_method_24_code 2 = .ok (.iconst 1, 1) := by decide +kernel
theorem d_Mod_minute_3 : decode prog_12_method_24_code 3 = .ok (.if_icmp .lt (10), 3) := by decide +kernel
theorem d_Mod_minute_6 : decode prog_12_method_24_code 6 = .ok (.iload_n 1, 1) := by decide +kernel
theorem d_Mod_minute_7 : decode prog_12_method_24_code 7 = .ok (.sipush (1000), 3) := by decide +kernel
theorem d_Mod_minute_10 : decode prog_12_method_24_code 10 = .ok (.if_icmp .le (7), 3) := by decide +kernel
theorem d_Mod_minute_13 : decode prog_12_method_24_code 13 = .ok (.iconst 1, 1) := by decide +kernel
theorem d_Mod_minute_14 : decode prog_12_method_24_code 14 = .ok (.goto (4), 3) := by decide +kernel
theorem d_Mod_minute_17 : decode prog_12_method_24_code 17 = .ok (.iconst 0, 1) := by decide +kernel
theorem d_Mod_minute_18 : decode prog_12_method_24_code 18 = .ok (.putfield 7, 3) := by decide +kernel
theorem d_Mod_minute_21 : decode prog_12_method_24_code 21 = .ok (.aload_n 0, 1) := by decide +kernel
theorem d_Mod_minute_22 : decode prog_12_method_24_code 22 = .ok (.getfield 7, 3) := by decide +kernel
theorem d_Mod_minute_25 : decode prog_12_method_24_code 25 = .ok (.ifCond .eq (5), 3) := by decide +kernel
theorem d_Mod_minute_28 : decode prog_12_method_24_code 28 = .ok (.iconst 0, 1) := by decide +kernel
theorem d_Mod_minute_29 : decode prog_12_method_24_code 29 = .ok (.ireturn, 1) := by decide +kernel
theorem d_Mod_minute_30 : decode prog_12_method_24_code 30 = .ok (.aload_n 0, 1) := by decide +kernel
theorem d_Mod_minute_31 : decode prog_12_method_24_code 31 = .ok (.dup, 1) := by decide +kernel
theorem d_Mod_minute_32 : decode prog_12_method_24_code 32 = .ok (.getfield 13, 3) := by decide +kernel
theorem d_Mod_minute_35 : decode prog_12_method_24_code 35 = .ok (.iload_n 1, 1) := by decide +kernel
theorem d_Mod_minute_36 : decode prog_12_method_24_code 36 = .ok (.iadd, 1) := by decide +kernel
theorem d_Mod_minute_37 : decode prog_12_method_24_code 37 = .ok (.putfield 13, 3) := by decide +kernel
theorem d_Mod_minute_40 : decode prog_12_method_24_code 40 = .ok (.aload_n 0, 1) := by decide +kernel
theorem d_Mod_minute_41 : decode prog_12_method_24_code 41 = .ok (.getfield 13, 3) := by decide +kernel
theorem d_Mod_minute_44 : decode prog_12_method_24_code 44 = .ok (.ireturn, 1) := by decide +kernel
theorem d_Mod_seen_0 : decode prog_12_method_25_code 0 = .ok (.aload_n 0, 1) := by decide +kernel
theorem d_Mod_seen_1 : decode prog_12_method_25_code 1 = .ok (.iload_n 1, 1) := by decide +kernel
theorem d_Mod_seen_2 : decode prog_12_method_25_code 2 = .ok (.ifCond .lt (8), 3) := by decide +kernel
theorem d_Mod_seen_5 : decode prog_12_method_25_code 5 = .ok (.iload_n 1, 1) := by decide +kernel
theorem d_Mod_seen_6 : decode prog_12_method_25_code 6 = .ok (.iconst 1, 1) := by decide +kernel
theorem d_Mod_seen_7 : decode prog_12_method_25_code 7 = .ok (.if_icmp .le (7), 3) := by decide +kernel
theorem d_Mod_seen_10 : decode prog_12_method_25_code 10 = .ok (.iconst 1, 1) := by decide +kernel
theorem d_Mod_seen_11 : decode prog_12_method_25_code 11 = .ok (.goto (4), 3) := by decide +kernel
theorem d_Mod_seen_14 : decode prog_12_method_25_code 14 = .ok (.iconst 0, 1) := by decide +kernel
theorem d_Mod_seen_15 : decode prog_12_method_25_code 15 = .ok (.putfield 7, 3) := by decide +kernel
theorem d_Mod_seen_18 : decode prog_12_method_25_code 18 = .ok (.aload_n 0, 1) := by decide +kernel
theorem d_Mod_seen_19 : decode prog_12_method_25_code 19 = .ok (.getfield 7, 3) := by decide +kernel
theorem d_Mod_seen_22 : decode prog_12_method_25_code 22 = .ok (.ifCond .ne (15), 3) := by decide +kernel
theorem d_Mod_seen_25 : decode prog_12_method_25_code 25 = .ok (.aload_n 0, 1) := by decide +kernel
theorem d_Mod_seen_26 : decode prog_12_method_25_code 26 = .ok (.iload_n 1, 1) := by decide +kernel
theorem d_Mod_seen_27 : decode prog_12_method_25_code 27 = .ok (.invokevirtual 125, 3) := by decide +kernel
theorem d_Mod_seen_30 : decode prog_12_method_25_code 30 = .ok (.ifCond .eq (7), 3) := by decide +kernel
theorem d_Mod_seen_33 : decode prog_12_method_25_code 33 = .ok (.iconst 1, 1) := by decide +kernel
theorem d_Mod_seen_34 : decode prog_12_method_25_code 34 = .ok (.goto (4), 3) := by decide +kernel
theorem d_Mod_seen_37 : decode prog_12_method_25_code 37 = .ok (.iconst 0, 1) := by decide +kernel
theorem d_Mod_seen_38 : decode prog_12_method_25_code 38 = .ok (.ireturn, 1) := by decide +kernel
theorem d_Mod_receive_0 : decode prog_12_method_26_code 0 = .ok (.aload_n 0, 1) := by decide +kernel
theorem d_Mod_receive_1 : decode prog_12_method_26_code 1 = .ok (.aload_n 0, 1) := by decide +kernel
theorem d_Mod_receive_2 : decode prog_12_method_26_code 2 = .ok (.getfield 20, 3) := by decide +kernel
theorem d_Mod_receive_5 : decode prog_12_method_26_code 5 = .ok (.ifCond .eq (7), 3) := by decide +kernel
theorem d_Mod_receive_8 : decode prog_12_method_26_code 8 = .ok (.iconst 1, 1) := by decide +kernel
theorem d_Mod_receive_9 : decode prog_12_method_26_code 9 = .ok (.goto (18), 3) := by decide +kernel
theorem d_Mod_receive_12 : decode prog_12_method_26_code 12 = .ok (.iload_n 2, 1) := by decide +kernel
theorem d_Mod_receive_13 : decode prog_12_method_26_code 13 = .ok (.iconst 1, 1) := by decide +kernel
theorem d_Mod_receive_14 : decode prog_12_method_26_code 14 = .ok (.if_icmp .lt (8), 3) := by decide +kernel
theorem d_Mod_receive_17 : decode prog_12_method_26_code 17 = .ok (.iload_n 2, 1) := by decide +kernel
theorem d_Mod_receive_18 : decode prog_12_method_26_code 18 = .ok (.iconst 4, 1) := by decide +kernel
theorem d_Mod_receive_19 : decode prog_12_method_26_code 19 = .ok (.if_icmp .le (7), 3) := by decide +kernel
theorem d_Mod_receive_22 : decode prog_12_method_26_code 22 = .ok (.iconst 2, 1) := by decide +kernel
theorem d_Mod_receive_23 : decode prog_12_method_26_code 23 = .ok (.goto (4), 3) := by decide +kernel
theorem d_Mod_receive_26 : decode prog_12_method_26_code 26 = .ok (.iconst 0, 1) := by decide +kernel
theorem d_Mod_receive_27 : decode prog_12_method_26_code 27 = .ok (.putfield 7, 3) := by decide +kernel
theorem d_Mod_receive_30 : decode prog_12_method_26_code 30 = .ok (.aload_n 0, 1) := by decide +kernel
theorem d_Mod_receive_31 : decode prog_12_method_26_code 31 = .ok (.getfield 7, 3) := by decide +kernel
theorem d_Mod_receive_34 : decode prog_12_method_26_code 34 = .ok (.ifCond .eq (5), 3) := by decide +kernel
theorem d_Mod_receive_37 : decode prog_12_method_26_code 37 = .ok (.iconst 0, 1) := by decide +kernel
theorem d_Mod_receive_38 : decode prog_12_method_26_code 38 = .ok (.ireturn, 1) := by decide +kernel
theorem d_Mod_receive_39 : decode prog_12_method_26_code 39 = .ok (.iconst 0, 1) := by decide +kernel
theorem d_Mod_receive_40 : decode prog_12_method_26_code 40 = .ok (.istore_n 3, 1) := by decide +kernel
theorem d_Mod_receive_41 : decode prog_12_method_26_code 41 = .ok (.iload_n 2, 1) := by decide +kernel
theorem d_Mod_receive_42 : decode prog_12_method_26_code 42 = .ok (.iconst 1, 1) := by decide +kernel
theorem d_Mod_receive_43 : decode prog_12_method_26_code 43 = .ok (.isub, 1) := by decide +kernel
theorem d_Mod_receive_44 : decode prog_12_method_26_code 44 = .ok (.istore 4, 2) := by decide +kernel
theorem d_Mod_receive_46 : decode prog_12_method_26_code 46 = .ok (.iload 4, 2) := by decide +kernel
theorem d_Mod_receive_48 : decode prog_12_method_26_code 48 = .ok (.ifCond .lt (34), 3) := by decide +kernel
theorem d_Mod_receive_51 : decode prog_12_method_26_code 51 = .ok (.aload_n 0, 1) := by decide +kernel
theorem d_Mod_receive_52 : decode prog_12_method_26_code 52 = .ok (.getfield 20, 3) := by decide +kernel
theorem d_Mod_receive_55 : decode prog_12_method_26_code 55 = .ok (.ifCond .ne (27), 3) := by decide +kernel
theorem d_Mod_receive_58 : decode prog_12_method_26_code 58 = .ok (.iload_n 3, 1) := by decide +kernel
theorem d_Mod_receive_59 : decode prog_12_method_26_code 59 = .ok (.aload_n 0, 1) := by decide +kernel
theorem d_Mod_receive_60 : decode prog_12_method_26_code 60 = .ok (.iload_n 1, 1) := by decide +kernel
theorem d_Mod_receive_61 : decode prog_12_method_26_code 61 = .ok (.bipush (8), 2) := by decide +kernel
theorem d_Mod_receive_63 : decode prog_12_method_26_code 63 = .ok (.iload 4, 2) := by decide +kernel
theorem d_Mod_receive_65 : decode prog_12_method_26_code 65 = .ok (.imul, 1) := by decide +kernel
theorem d_Mod_receive_66 : decode prog_12_method_26_code 66 = .ok (.ishr, 1) := by decide +kernel
theorem d_Mod_receive_67 : decode prog_12_method_26_code 67 = .ok (.sipush (255), 3) := by decide +kernel
theorem d_Mod_receive_70 : decode prog_12_method_26_code 70 = .ok (.iand, 1) := by decide +kernel
theorem d_Mod_receive_71 : decode prog_12_method_26_code 71 = .ok (.invokevirtual 154, 3) := by decide +kernel
theorem d_Mod_receive_74 : decode prog_12_method_26_code 74 = .ok (.iadd, 1) := by decide +kernel
theorem d_Mod_receive_75 : decode prog_12_method_26_code 75 = .ok (.istore_n 3, 1) := by decide +kernel
theorem d_Mod_receive_76 : decode prog_12_method_26_code 76 = .ok (.iinc 4 (-1), 3) := by decide +kernel
theorem d_Mod_receive_79 : decode prog_12_method_26_code 79 = .ok (.goto (-33), 3) := by decide +kernel
theorem d_Mod_receive_82 : decode prog_12_method_26_code 82 = .ok (.iload_n 3, 1) := by decide +kernel
theorem d_Mod_receive_83 : decode prog_12_method_26_code 83 = .ok (.ireturn, 1) := by decide +kernel
theorem d_Mod_report_0 : decode prog_12_method_27_code 0 = .ok (.aload_n 0, 1) := by decide +kernel
theorem d_Mod_report_1 : decode prog_12_method_27_code 1 = .ok (.aload_n 0, 1) := by decide +kernel
theorem d_Mod_report_2 : decode prog_12_method_27_code 2 = .ok (.getfield 20, 3) := by decide +kernel
theorem d_Mod_report_5 : decode prog_12_method_27_code 5 = .ok (.ifCond .eq (7), 3) := by decide +kernel
theorem d_Mod_report_8 : decode prog_12_method_27_code 8 = .ok (.iconst 1, 1) := by decide +kernel
theorem d_Mod_report_9 : decode prog_12_method_27_code 9 = .ok (.goto (4), 3) := by decide +kernel
theorem d_Mod_report_12 : decode prog_12_method_27_code 12 = .ok (.iconst 0, 1) := by decide +kernel
theorem d_Mod_report_13 : decode prog_12_method_27_code 13 = .ok (.putfield 7, 3) := by decide +kernel
theorem d_Mod_report_16 : decode prog_12_method_27_code 16 = .ok (.aload_n 0, 1) := by decide +kernel
theorem d_Mod_report_17 : decode prog_12_method_27_code 17 = .ok (.getfield 7, 3) := by decide +kernel
theorem d_Mod_report_20 : decode prog_12_method_27_code 20 = .ok (.ifCond .ne (10), 3) := by decide +kernel
theorem d_Mod_report_23 : decode prog_12_method_27_code 23 = .ok (.aload_n 0, 1) := by decide +kernel
theorem d_Mod_report_24 : decode prog_12_method_27_code 24 = .ok (.getfield 33, 3) := by decide +kernel
theorem d_Mod_report_27 : decode prog_12_method_27_code 27 = .ok (.ifCond .ne (5), 3) := by decide +kernel
theorem d_Mod_report_30 : decode prog_12_method_27_code 30 = .ok (.iconst 0, 1) := by decide +kernel
theorem d_Mod_report_31 : decode prog_12_method_27_code 31 = .ok (.ireturn, 1) := by decide +kernel
theorem d_Mod_report_32 : decode prog_12_method_27_code 32 = .ok (.ldc 157, 2) := by decide +kernel
theorem d_Mod_report_34 : decode prog_12_method_27_code 34 = .ok (.aload_n 0, 1) := by decide +kernel
theorem d_Mod_report_35 : decode prog_12_method_27_code 35 = .ok (.getfield 42, 3) := by decide +kernel
theorem d_Mod_report_38 : decode prog_12_method_27_code 38 = .ok (.bipush (13), 2) := by decide +kernel
theorem d_Mod_report_40 : decode prog_12_method_27_code 40 = .ok (.ishl, 1) := by decide +kernel
theorem d_Mod_report_41 : decode prog_12_method_27_code 41 = .ok (.ior, 1) := by decide +kernel
theorem d_Mod_report_42 : decode prog_12_method_27_code 42 = .ok (.aload_n 0, 1) := by decide +kernel
theorem d_Mod_report_43 : decode prog_12_method_27_code 43 = .ok (.getfield 36, 3) := by decide +kernel
theorem d_Mod_report_46 : decode prog_12_method_27_code 46 = .ok (.bipush (12), 2) := by decide +kernel
theorem d_Mod_report_48 : decode prog_12_method_27_code 48 = .ok (.ishl, 1) := by decide +kernel
theorem d_Mod_report_49 : decode prog_12_method_27_code 49 = .ok (.ior, 1) := by decide +kernel
theorem d_Mod_report_50 : decode prog_12_method_27_code 50 = .ok (.aload_n 0, 1) := by decide +kernel
theorem d_Mod_report_51 : decode prog_12_method_27_code 51 = .ok (.getfield 45, 3) := by decide +kernel
theorem d_Mod_report_54 : decode prog_12_method_27_code 54 = .ok (.bipush (8), 2) := by decide +kernel
theorem d_Mod_report_56 : decode prog_12_method_27_code 56 = .ok (.ishl, 1) := by decide +kernel
theorem d_Mod_report_57 : decode prog_12_method_27_code 57 = .ok (.ior, 1) := by decide +kernel
theorem d_Mod_report_58 : decode prog_12_method_27_code 58 = .ok (.aload_n 0, 1) := by decide +kernel
theorem d_Mod_report_59 : decode prog_12_method_27_code 59 = .ok (.getfield 39, 3) := by decide +kernel
theorem d_Mod_report_62 : decode prog_12_method_27_code 62 = .ok (.ior, 1) := by decide +kernel
theorem d_Mod_report_63 : decode prog_12_method_27_code 63 = .ok (.ireturn, 1) := by decide +kernel
theorem d_Mod_send_0 : decode prog_12_method_28_code 0 = .ok (.aload_n 0, 1) := by decide +kernel
theorem d_Mod_send_1 : decode prog_12_method_28_code 1 = .ok (.aload_n 0, 1) := by decide +kernel
theorem d_Mod_send_2 : decode prog_12_method_28_code 2 = .ok (.getfield 20, 3) := by decide +kernel
theorem d_Mod_send_5 : decode prog_12_method_28_code 5 = .ok (.ifCond .eq (7), 3) := by decide +kernel
theorem d_Mod_send_8 : decode prog_12_method_28_code 8 = .ok (.iconst 1, 1) := by decide +kernel
theorem d_Mod_send_9 : decode prog_12_method_28_code 9 = .ok (.goto (29), 3) := by decide +kernel
theorem d_Mod_send_12 : decode prog_12_method_28_code 12 = .ok (.iload_n 1, 1) := by decide +kernel
theorem d_Mod_send_13 : decode prog_12_method_28_code 13 = .ok (.ifCond .lt (8), 3) := by decide +kernel
theorem d_Mod_send_16 : decode prog_12_method_28_code 16 = .ok (.iload_n 1, 1) := by decide +kernel
theorem d_Mod_send_17 : decode prog_12_method_28_code 17 = .ok (.iconst 1, 1) := by decide +kernel
theorem d_Mod_send_18 : decode prog_12_method_28_code 18 = .ok (.if_icmp .le (7), 3) := by decide +kernel
theorem d_Mod_send_21 : decode prog_12_method_28_code 21 = .ok (.iconst 2, 1) := by decide +kernel
theorem d_Mod_send_22 : decode prog_12_method_28_code 22 = .ok (.goto (16), 3) := by decide +kernel
theorem d_Mod_send_25 : decode prog_12_method_28_code 25 = .ok (.aload_n 0, 1) := by decide +kernel
theorem d_Mod_send_26 : decode prog_12_method_28_code 26 = .ok (.iconst 1, 1) := by decide +kernel
theorem d_Mod_send_27 : decode prog_12_method_28_code 27 = .ok (.invokevirtual 125, 3) := by decide +kernel
theorem d_Mod_send_30 : decode prog_12_method_28_code 30 = .ok (.ifCond .ne (7), 3) := by decide +kernel
theorem d_Mod_send_33 : decode prog_12_method_28_code 33 = .ok (.iconst 3, 1) := by decide +kernel
theorem d_Mod_send_34 : decode prog_12_method_28_code 34 = .ok (.goto (4), 3) := by decide +kernel
theorem d_Mod_send_37 : decode prog_12_method_28_code 37 = .ok (.iconst 0, 1) := by decide +kernel
theorem d_Mod_send_38 : decode prog_12_method_28_code 38 = .ok (.putfield 7, 3) := by decide +kernel
theorem d_Mod_send_41 : decode prog_12_method_28_code 41 = .ok (.aload_n 0, 1) := by decide +kernel
theorem d_Mod_send_42 : decode prog_12_method_28_code 42 = .ok (.getfield 7, 3) := by decide +kernel
theorem d_Mod_send_45 : decode prog_12_method_28_code 45 = .ok (.ifCond .eq (5), 3) := by decide +kernel
theorem d_Mod_send_48 : decode prog_12_method_28_code 48 = .ok (.iconst 0, 1) := by decide +kernel
theorem d_Mod_send_49 : decode prog_12_method_28_code 49 = .ok (.ireturn, 1) := by decide +kernel
theorem d_Mod_send_50 : decode prog_12_method_28_code 50 = .ok (.aload_n 0, 1) := by decide +kernel
theorem d_Mod_send_51 : decode prog_12_method_28_code 51 = .ok (.getfield 91, 3) := by decide +kernel
theorem d_Mod_send_54 : decode prog_12_method_28_code 54 = .ok (.iload_n 1, 1) := by decide +kernel
theorem d_Mod_send_55 : decode prog_12_method_28_code 55 = .ok (.iaload, 1) := by decide +kernel
theorem d_Mod_send_56 : decode prog_12_method_28_code 56 = .ok (.istore_n 2, 1) := by decide +kernel
theorem d_Mod_send_57 : decode prog_12_method_28_code 57 = .ok (.aload_n 0, 1) := by decide +kernel
theorem d_Mod_send_58 : decode prog_12_method_28_code 58 = .ok (.getfield 91, 3) := by decide +kernel
theorem d_Mod_send_61 : decode prog_12_method_28_code 61 = .ok (.iload_n 1, 1) := by decide +kernel
theorem d_Mod_send_62 : decode prog_12_method_28_code 62 = .ok (.iload_n 2, 1) := by decide +kernel
theorem d_Mod_send_63 : decode prog_12_method_28_code 63 = .ok (.iconst 1, 1) := by decide +kernel
theorem d_Mod_send_64 : decode prog_12_method_28_code 64 = .ok (.iadd, 1) := by decide +kernel
theorem d_Mod_send_65 : decode prog_12_method_28_code 65 = .ok (.ldc 158, 2) := by decide +kernel
theorem d_Mod_send_67 : decode prog_12_method_28_code 67 = .ok (.iand, 1) := by decide +kernel
theorem d_Mod_send_68 : decode prog_12_method_28_code 68 = .ok (.iastore, 1) := by decide +kernel
theorem d_Mod_send_69 : decode prog_12_method_28_code 69 = .ok (.aload_n 0, 1) := by decide +kernel
theorem d_Mod_send_70 : decode prog_12_method_28_code 70 = .ok (.getfield 85, 3) := by decide +kernel
theorem d_Mod_send_73 : decode prog_12_method_28_code 73 = .ok (.iconst 0, 1) := by decide +kernel
theorem d_Mod_send_74 : decode prog_12_method_28_code 74 = .ok (.sipush (21312), 3) := by decide +kernel
theorem d_Mod_send_77 : decode prog_12_method_28_code 77 = .ok (.iload_n 1, 1) := by decide +kernel
theorem d_Mod_send_78 : decode prog_12_method_28_code 78 = .ok (.iadd, 1) := by decide +kernel
theorem d_Mod_send_79 : decode prog_12_method_28_code 79 = .ok (.bipush (8), 2) := by decide +kernel
theorem d_Mod_send_81 : decode prog_12_method_28_code 81 = .ok (.ishr, 1) := by decide +kernel
theorem d_Mod_send_82 : decode prog_12_method_28_code 82 = .ok (.iastore, 1) := by decide +kernel
theorem d_Mod_send_83 : decode prog_12_method_28_code 83 = .ok (.aload_n 0, 1) := by decide +kernel
theorem d_Mod_send_84 : decode prog_12_method_28_code 84 = .ok (.getfield 85, 3) := by decide +kernel
theorem d_Mod_send_87 : decode prog_12_method_28_code 87 = .ok (.iconst 1, 1) := by decide +kernel
theorem d_Mod_send_88 : decode prog_12_method_28_code 88 = .ok (.sipush (21312), 3) := by decide +kernel
theorem d_Mod_send_91 : decode prog_12_method_28_code 91 = .ok (.iload_n 1, 1) := by decide +kernel
theorem d_Mod_send_92 : decode prog_12_method_28_code 92 = .ok (.iadd, 1) := by decide +kernel
theorem d_Mod_send_93 : decode prog_12_method_28_code 93 = .ok (.sipush (255), 3) := by decide +kernel
theorem d_Mod_send_96 : decode prog_12_method_28_code 96 = .ok (.iand, 1) := by decide +kernel
theorem d_Mod_send_97 : decode prog_12_method_28_code 97 = .ok (.iastore, 1) := by decide +kernel
theorem d_Mod_send_98 : decode prog_12_method_28_code 98 = .ok (.aload_n 0, 1) := by decide +kernel
theorem d_Mod_send_99 : decode prog_12_method_28_code 99 = .ok (.getfield 85, 3) := by decide +kernel
theorem d_Mod_send_102 : decode prog_12_method_28_code 102 = .ok (.iconst 2, 1) := by decide +kernel
theorem d_Mod_send_103 : decode prog_12_method_28_code 103 = .ok (.iload_n 2, 1) := by decide +kernel
theorem d_Mod_send_104 : decode prog_12_method_28_code 104 = .ok (.bipush (16), 2) := by decide +kernel
theorem d_Mod_send_106 : decode prog_12_method_28_code 106 = .ok (.ishr, 1) := by decide +kernel
theorem d_Mod_send_107 : decode prog_12_method_28_code 107 = .ok (.iastore, 1) := by decide +kernel
theorem d_Mod_send_108 : decode prog_12_method_28_code 108 = .ok (.aload_n 0, 1) := by decide +kernel
theorem d_Mod_send_109 : decode prog_12_method_28_code 109 = .ok (.getfield 85, 3) := by decide +kernel
theorem d_Mod_send_112 : decode prog_12_method_28_code 112 = .ok (.iconst 3, 1) := by decide +kernel
theorem d_Mod_send_113 : decode prog_12_method_28_code 113 = .ok (.iload_n 2, 1) := by decide +kernel
theorem d_Mod_send_114 : decode prog_12_method_28_code 114 = .ok (.bipush (8), 2) := by decide +kernel
theorem d_Mod_send_116 : decode prog_12_method_28_code 116 = .ok (.ishr, 1) := by decide +kernel
theorem d_Mod_send_117 : decode prog_12_method_28_code 117 = .ok (.sipush (255), 3) := by decide +kernel
theorem d_Mod_send_120 : decode prog_12_method_28_code 120 = .ok (.iand, 1) := by decide +kernel
theorem d_Mod_send_121 : decode prog_12_method_28_code 121 = .ok (.iastore, 1) := by decide +kernel
theorem d_Mod_send_122 : decode prog_12_method_28_code 122 = .ok (.aload_n 0, 1) := by decide +kernel
theorem d_Mod_send_123 : decode prog_12_method_28_code 123 = .ok (.getfield 85, 3) := by decide +kernel
theorem d_Mod_send_126 : decode prog_12_method_28_code 126 = .ok (.iconst 4, 1) := by decide +kernel
theorem d_Mod_send_127 : decode prog_12_method_28_code 127 = .ok (.iload_n 2, 1) := by decide +kernel
theorem d_Mod_send_128 : decode prog_12_method_28_code 128 = .ok (.sipush (255), 3) := by decide +kernel
theorem d_Mod_send_131 : decode prog_12_method_28_code 131 = .ok (.iand, 1) := by decide +kernel
theorem d_Mod_send_132 : decode prog_12_method_28_code 132 = .ok (.iastore, 1) := by decide +kernel
theorem d_Mod_send_133 : decode prog_12_method_28_code 133 = .ok (.aload_n 0, 1) := by decide +kernel
theorem d_Mod_send_134 : decode prog_12_method_28_code 134 = .ok (.getfield 85, 3) := by decide +kernel
theorem d_Mod_send_137 : decode prog_12_method_28_code 137 = .ok (.iconst 5, 1) := by decide +kernel
theorem d_Mod_send_138 : decode prog_12_method_28_code 138 = .ok (.iconst 0, 1) := by decide +kernel
theorem d_Mod_send_139 : decode prog_12_method_28_code 139 = .ok (.iastore, 1) := by decide +kernel
theorem d_Mod_send_140 : decode prog_12_method_28_code 140 = .ok (.aload_n 0, 1) := by decide +kernel
theorem d_Mod_send_141 : decode prog_12_method_28_code 141 = .ok (.iload_n 1, 1) := by decide +kernel
theorem d_Mod_send_142 : decode prog_12_method_28_code 142 = .ok (.invokevirtual 159, 3) := by decide +kernel
theorem d_Mod_send_145 : decode prog_12_method_28_code 145 = .ok (.aload_n 0, 1) := by decide +kernel
theorem d_Mod_send_146 : decode prog_12_method_28_code 146 = .ok (.invokevirtual 162, 3) := by decide +kernel
theorem d_Mod_send_149 : decode prog_12_method_28_code 149 = .ok (.aload_n 0, 1) := by decide +kernel
theorem d_Mod_send_150 : decode prog_12_method_28_code 150 = .ok (.iconst 1, 1) := by decide +kernel
theorem d_Mod_send_151 : decode prog_12_method_28_code 151 = .ok (.putfield 88, 3) := by decide +kernel
theorem d_Mod_send_154 : decode prog_12_method_28_code 154 = .ok (.iconst 0, 1) := by decide +kernel
theorem d_Mod_send_155 : decode prog_12_method_28_code 155 = .ok (.istore_n 3, 1) := by decide +kernel
theorem d_Mod_send_156 : decode prog_12_method_28_code 156 = .ok (.iload_n 3, 1) := by decide +kernel
theorem d_Mod_send_157 : decode prog_12_method_28_code 157 = .ok (.aload_n 0, 1) := by decide +kernel
theorem d_Mod_send_158 : decode prog_12_method_28_code 158 = .ok (.getfield 58, 3) := by decide +kernel
theorem d_Mod_send_161 : decode prog_12_method_28_code 161 = .ok (.if_icmp .ge (39), 3) := by decide +kernel
theorem d_Mod_send_164 : decode prog_12_method_28_code 164 = .ok (.aload_n 0, 1) := by decide +kernel
theorem d_Mod_send_165 : decode prog_12_method_28_code 165 = .ok (.getfield 20, 3) := by decide +kernel
theorem d_Mod_send_168 : decode prog_12_method_28_code 168 = .ok (.ifCond .ne (32), 3) := by decide +kernel
theorem d_Mod_send_171 : decode prog_12_method_28_code 171 = .ok (.aload_n 0, 1) := by decide +kernel
theorem d_Mod_send_172 : decode prog_12_method_28_code 172 = .ok (.getfield 73, 3) := by decide +kernel
theorem d_Mod_send_175 : decode prog_12_method_28_code 175 = .ok (.iload_n 3, 1) := by decide +kernel
theorem d_Mod_send_176 : decode prog_12_method_28_code 176 = .ok (.iaload, 1) := by decide +kernel
theorem d_Mod_send_177 : decode prog_12_method_28_code 177 = .ok (.aload_n 0, 1) := by decide +kernel
theorem d_Mod_send_178 : decode prog_12_method_28_code 178 = .ok (.getfield 64, 3) := by decide +kernel
theorem d_Mod_send_181 : decode prog_12_method_28_code 181 = .ok (.iload_n 3, 1) := by decide +kernel
theorem d_Mod_send_182 : decode prog_12_method_28_code 182 = .ok (.iaload, 1) := by decide +kernel
theorem d_Mod_send_183 : decode prog_12_method_28_code 183 = .ok (.if_icmp .ne (11), 3) := by decide +kernel
theorem d_Mod_send_186 : decode prog_12_method_28_code 186 = .ok (.aload_n 0, 1) := by decide +kernel
theorem d_Mod_send_187 : decode prog_12_method_28_code 187 = .ok (.iload_n 3, 1) := by decide +kernel
theorem d_Mod_send_188 : decode prog_12_method_28_code 188 = .ok (.invokevirtual 165, 3) := by decide +kernel
theorem d_Mod_send_191 : decode prog_12_method_28_code 191 = .ok (.goto (-35), 3) := by decide +kernel
theorem d_Mod_send_194 : decode prog_12_method_28_code 194 = .ok (.iinc 3 (1), 3) := by decide +kernel
theorem d_Mod_send_197 : decode prog_12_method_28_code 197 = .ok (.goto (-41), 3) := by decide +kernel
theorem d_Mod_send_200 : decode prog_12_method_28_code 200 = .ok (.iload_n 2, 1) := by decide +kernel
theorem d_Mod_send_201 : decode prog_12_method_28_code 201 = .ok (.ireturn, 1) := by decide +kernel
theorem d_Mod_sent_0 : decode prog_12_method_29_code 0 = .ok (.aload_n 0, 1) := by decide +kernel
theorem d_Mod_sent_1 : decode prog_12_method_29_code 1 = .ok (.aload_n 0, 1) := by decide +kernel
theorem d_Mod_sent_2 : decode prog_12_method_29_code 2 = .ok (.getfield 88, 3) := by decide +kernel
theorem d_Mod_sent_5 : decode prog_12_method_29_code 5 = .ok (.ifCond .eq (13), 3) := by decide +kernel
theorem d_Mod_sent_8 : decode prog_12_method_29_code 8 = .ok (.iload_n 1, 1) := by decide +kernel
theorem d_Mod_sent_9 : decode prog_12_method_29_code 9 = .ok (.ifCond .lt (9), 3) := by decide +kernel
theorem d_Mod_sent_12 : decode prog_12_method_29_code 12 = .ok (.iload_n 1, 1) := by decide +kernel
theorem d_Mod_sent_13 : decode prog_12_method_29_code 13 = .ok (.bipush (31), 2) := by decide +kernel
theorem d_Mod_sent_15 : decode prog_12_method_29_code 15 = .ok (.if_icmp .le (7), 3) := by decide +kernel
theorem d_Mod_sent_18 : decode prog_12_method_29_code 18 = .ok (.iconst 1, 1) := by decide +kernel
theorem d_Mod_sent_19 : decode prog_12_method_29_code 19 = .ok (.goto (4), 3) := by decide +kernel
theorem d_Mod_sent_22 : decode prog_12_method_29_code 22 = .ok (.iconst 0, 1) := by decide +kernel
theorem d_Mod_sent_23 : decode prog_12_method_29_code 23 = .ok (.putfield 7, 3) := by decide +kernel
theorem d_Mod_sent_26 : decode prog_12_method_29_code 26 = .ok (.aload_n 0, 1) := by decide +kernel
theorem d_Mod_sent_27 : decode prog_12_method_29_code 27 = .ok (.getfield 7, 3) := by decide +kernel
theorem d_Mod_sent_30 : decode prog_12_method_29_code 30 = .ok (.ifCond .eq (7), 3) := by decide +kernel
theorem d_Mod_sent_33 : decode prog_12_method_29_code 33 = .ok (.iconst 0, 1) := by decide +kernel
theorem d_Mod_sent_34 : decode prog_12_method_29_code 34 = .ok (.goto (9), 3) := by decide +kernel
theorem d_Mod_sent_37 : decode prog_12_method_29_code 37 = .ok (.aload_n 0, 1) := by decide +kernel
theorem d_Mod_sent_38 : decode prog_12_method_29_code 38 = .ok (.getfield 85, 3) := by decide +kernel
theorem d_Mod_sent_41 : decode prog_12_method_29_code 41 = .ok (.iload_n 1, 1) := by decide +kernel
theorem d_Mod_sent_42 : decode prog_12_method_29_code 42 = .ok (.iaload, 1) := by decide +kernel
theorem d_Mod_sent_43 : decode prog_12_method_29_code 43 = .ok (.ireturn, 1) := by decide +kernel
theorem d_Mod_fail_0 : decode prog_12_method_30_code 0 = .ok (.aload_n 0, 1) := by decide +kernel
theorem d_Mod_fail_1 : decode prog_12_method_30_code 1 = .ok (.aload_n 0, 1) := by decide +kernel
theorem d_Mod_fail_2 : decode prog_12_method_30_code 2 = .ok (.getfield 20, 3) := by decide +kernel
theorem d_Mod_fail_5 : decode prog_12_method_30_code 5 = .ok (.ifCond .eq (7), 3) := by decide +kernel
theorem d_Mod_fail_8 : decode prog_12_method_30_code 8 = .ok (.iconst 1, 1) := by decide +kernel
theorem d_Mod_fail_9 : decode prog_12_method_30_code 9 = .ok (.goto (19), 3) := by decide +kernel
theorem d_Mod_fail_12 : decode prog_12_method_30_code 12 = .ok (.iload_n 1, 1) := by decide +kernel
theorem d_Mod_fail_13 : decode prog_12_method_30_code 13 = .ok (.iconst 1, 1) := by decide +kernel
theorem d_Mod_fail_14 : decode prog_12_method_30_code 14 = .ok (.if_icmp .lt (9), 3) := by decide +kernel
theorem d_Mod_fail_17 : decode prog_12_method_30_code 17 = .ok (.iload_n 1, 1) := by decide +kernel
theorem d_Mod_fail_18 : decode prog_12_method_30_code 18 = .ok (.bipush (100), 2) := by decide +kernel
theorem d_Mod_fail_20 : decode prog_12_method_30_code 20 = .ok (.if_icmp .le (7), 3) := by decide +kernel
theorem d_Mod_fail_23 : decode prog_12_method_30_code 23 = .ok (.iconst 2, 1) := by decide +kernel
theorem d_Mod_fail_24 : decode prog_12_method_30_code 24 = .ok (.goto (4), 3) := by decide +kernel
theorem d_Mod_fail_27 : decode prog_12_method_30_code 27 = .ok (.iconst 0, 1) := by decide +kernel
theorem d_Mod_fail_28 : decode prog_12_method_30_code 28 = .ok (.putfield 7, 3) := by decide +kernel
theorem d_Mod_fail_31 : decode prog_12_method_30_code 31 = .ok (.aload_n 0, 1) := by decide +kernel
theorem d_Mod_fail_32 : decode prog_12_method_30_code 32 = .ok (.getfield 7, 3) := by decide +kernel
theorem d_Mod_fail_35 : decode prog_12_method_30_code 35 = .ok (.ifCond .ne (8), 3) := by decide +kernel
theorem d_Mod_fail_38 : decode prog_12_method_30_code 38 = .ok (.aload_n 0, 1) := by decide +kernel
theorem d_Mod_fail_39 : decode prog_12_method_30_code 39 = .ok (.iload_n 1, 1) := by decide +kernel
theorem d_Mod_fail_40 : decode prog_12_method_30_code 40 = .ok (.putfield 24, 3) := by decide +kernel
theorem d_Mod_fail_43 : decode prog_12_method_30_code 43 = .ok (.return_, 1) := by decide +kernel
theorem d_Mod_power_0 : decode prog_12_method_31_code 0 = .ok (.aload_n 0, 1) := by decide +kernel
theorem d_Mod_power_1 : decode prog_12_method_31_code 1 = .ok (.iconst 0, 1) := by decide +kernel
theorem d_Mod_power_2 : decode prog_12_method_31_code 2 = .ok (.putfield 7, 3) := by decide +kernel
theorem d_Mod_power_5 : decode prog_12_method_31_code 5 = .ok (.aload_n 0, 1) := by decide +kernel
theorem d_Mod_power_6 : decode prog_12_method_31_code 6 = .ok (.iconst 0, 1) := by decide +kernel
theorem d_Mod_power_7 : decode prog_12_method_31_code 7 = .ok (.putfield 20, 3) := by decide +kernel
theorem d_Mod_power_10 : decode prog_12_method_31_code 10 = .ok (.aload_n 0, 1) := by decide +kernel
theorem d_Mod_power_11 : decode prog_12_method_31_code 11 = .ok (.iconst 0, 1) := by decide +kernel
theorem d_Mod_power_12 : decode prog_12_method_31_code 12 = .ok (.putfield 24, 3) := by decide +kernel
theorem d_Mod_power_15 : decode prog_12_method_31_code 15 = .ok (.aload_n 0, 1) := by decide +kernel
theorem d_Mod_power_16 : decode prog_12_method_31_code 16 = .ok (.iconst 0, 1) := by decide +kernel
theorem d_Mod_power_17 : decode prog_12_method_31_code 17 = .ok (.putfield 33, 3) := by decide +kernel
theorem d_Mod_power_20 : decode prog_12_method_31_code 20 = .ok (.aload_n 0, 1) := by decide +kernel
theorem d_Mod_power_21 : decode prog_12_method_31_code 21 = .ok (.iconst 0, 1) := by decide +kernel
theorem d_Mod_power_22 : decode prog_12_method_31_code 22 = .ok (.putfield 30, 3) := by decide +kernel
theorem d_Mod_power_25 : decode prog_12_method_31_code 25 = .ok (.iconst 0, 1) := by decide +kernel
theorem d_Mod_power_26 : decode prog_12_method_31_code 26 = .ok (.istore_n 1, 1) := by decide +kernel
theorem d_Mod_power_27 : decode prog_12_method_31_code 27 = .ok (.iload_n 1, 1) := by decide +kernel
theorem d_Mod_power_28 : decode prog_12_method_31_code 28 = .ok (.iconst 4, 1) := by decide +kernel
theorem d_Mod_power_29 : decode prog_12_method_31_code 29 = .ok (.if_icmp .ge (16), 3) := by decide +kernel
theorem d_Mod_power_32 : decode prog_12_method_31_code 32 = .ok (.aload_n 0, 1) := by decide +kernel
theorem d_Mod_power_33 : decode prog_12_method_31_code 33 = .ok (.getfield 48, 3) := by decide +kernel
theorem d_Mod_power_36 : decode prog_12_method_31_code 36 = .ok (.iload_n 1, 1) := by decide +kernel
theorem d_Mod_power_37 : decode prog_12_method_31_code 37 = .ok (.iconst 0, 1) := by decide +kernel
theorem d_Mod_power_38 : decode prog_12_method_31_code 38 = .ok (.bastore, 1) := by decide +kernel
theorem d_Mod_power_39 : decode prog_12_method_31_code 39 = .ok (.iinc 1 (1), 3) := by decide +kernel
theorem d_Mod_power_42 : decode prog_12_method_31_code 42 = .ok (.goto (-15), 3) := by decide +kernel
theorem d_Mod_power_45 : decode prog_12_method_31_code 45 = .ok (.iconst 0, 1) := by decide +kernel
theorem d_Mod_power_46 : decode prog_12_method_31_code 46 = .ok (.istore_n 1, 1) := by decide +kernel
theorem d_Mod_power_47 : decode prog_12_method_31_code 47 = .ok (.iload_n 1, 1) := by decide +kernel
theorem d_Mod_power_48 : decode prog_12_method_31_code 48 = .ok (.aload_n 0, 1) := by decide +kernel
theorem d_Mod_power_49 : decode prog_12_method_31_code 49 = .ok (.getfield 58, 3) := by decide +kernel
theorem d_Mod_power_52 : decode prog_12_method_31_code 52 = .ok (.if_icmp .ge (16), 3) := by decide +kernel
theorem d_Mod_power_55 : decode prog_12_method_31_code 55 = .ok (.aload_n 0, 1) := by decide +kernel
theorem d_Mod_power_56 : decode prog_12_method_31_code 56 = .ok (.getfield 73, 3) := by decide +kernel
theorem d_Mod_power_59 : decode prog_12_method_31_code 59 = .ok (.iload_n 1, 1) := by decide +kernel
theorem d_Mod_power_60 : decode prog_12_method_31_code 60 = .ok (.iconst 0, 1) := by decide +kernel
theorem d_Mod_power_61 : decode prog_12_method_31_code 61 = .ok (.iastore, 1) := by decide +kernel
theorem d_Mod_power_62 : decode prog_12_method_31_code 62 = .ok (.iinc 1 (1), 3) := by decide +kernel
theorem d_Mod_power_65 : decode prog_12_method_31_code 65 = .ok (.goto (-18), 3) := by decide +kernel
theorem d_Mod_power_68 : decode prog_12_method_31_code 68 = .ok (.aload_n 0, 1) := by decide +kernel
theorem d_Mod_power_69 : decode prog_12_method_31_code 69 = .ok (.getfield 58, 3) := by decide +kernel
theorem d_Mod_power_72 : decode prog_12_method_31_code 72 = .ok (.ireturn, 1) := by decide +kernel
theorem d_Mod_out_0 : decode prog_12_method_32_code 0 = .ok (.aload_n 0, 1) := by decide +kernel
theorem d_Mod_out_1 : decode prog_12_method_32_code 1 = .ok (.iconst 0, 1) := by decide +kernel
theorem d_Mod_out_2 : decode prog_12_method_32_code 2 = .ok (.putfield 7, 3) := by decide +kernel
theorem d_Mod_out_5 : decode prog_12_method_32_code 5 = .ok (.aload_n 0, 1) := by decide +kernel
theorem d_Mod_out_6 : decode prog_12_method_32_code 6 = .ok (.getfield 20, 3) := by decide +kernel
theorem d_Mod_out_9 : decode prog_12_method_32_code 9 = .ok (.ireturn, 1) := by decide +kernel
theorem d_Mod_store_0 : decode prog_12_method_33_code 0 = .ok (.aload_n 0, 1) := by decide +kernel
theorem d_Mod_store_1 : decode prog_12_method_33_code 1 = .ok (.iload_n 1, 1) := by decide +kernel
theorem d_Mod_store_2 : decode prog_12_method_33_code 2 = .ok (.ifCond .lt (8), 3) := by decide +kernel
theorem d_Mod_store_5 : decode prog_12_method_33_code 5 = .ok (.iload_n 1, 1) := by decide +kernel
theorem d_Mod_store_6 : decode prog_12_method_33_code 6 = .ok (.iconst 3, 1) := by decide +kernel
theorem d_Mod_store_7 : decode prog_12_method_33_code 7 = .ok (.if_icmp .le (7), 3) := by decide +kernel
theorem d_Mod_store_10 : decode prog_12_method_33_code 10 = .ok (.iconst 1, 1) := by decide +kernel
theorem d_Mod_store_11 : decode prog_12_method_33_code 11 = .ok (.goto (4), 3) := by decide +kernel
theorem d_Mod_store_14 : decode prog_12_method_33_code 14 = .ok (.iconst 0, 1) := by decide +kernel
theorem d_Mod_store_15 : decode prog_12_method_33_code 15 = .ok (.putfield 7, 3) := by decide +kernel
theorem d_Mod_store_18 : decode prog_12_method_33_code 18 = .ok (.aload_n 0, 1) := by decide +kernel
theorem d_Mod_store_19 : decode prog_12_method_33_code 19 = .ok (.getfield 7, 3) := by decide +kernel
theorem d_Mod_store_22 : decode prog_12_method_33_code 22 = .ok (.ifCond .eq (5), 3) := by decide +kernel
theorem d_Mod_store_25 : decode prog_12_method_33_code 25 = .ok (.iconst 0, 1) := by decide +kernel
theorem d_Mod_store_26 : decode prog_12_method_33_code 26 = .ok (.ireturn, 1) := by decide +kernel
theorem d_Mod_store_27 : decode prog_12_method_33_code 27 = .ok (.iload_n 1, 1) := by decide +kernel
theorem d_Mod_store_28 : decode prog_12_method_33_code 28 = .ok (.ifCond .ne (10), 3) := by decide +kernel
theorem d_Mod_store_31 : decode prog_12_method_33_code 31 = .ok (.aload_n 0, 1) := by decide +kernel
theorem d_Mod_store_32 : decode prog_12_method_33_code 32 = .ok (.getfield 58, 3) := by decide +kernel
theorem d_Mod_store_35 : decode prog_12_method_33_code 35 = .ok (.goto (31), 3) := by decide +kernel
theorem d_Mod_store_38 : decode prog_12_method_33_code 38 = .ok (.iload_n 1, 1) := by decide +kernel
theorem d_Mod_store_39 : decode prog_12_method_33_code 39 = .ok (.iconst 1, 1) := by decide +kernel
theorem d_Mod_store_40 : decode prog_12_method_33_code 40 = .ok (.if_icmp .ne (10), 3) := by decide +kernel
theorem d_Mod_store_43 : decode prog_12_method_33_code 43 = .ok (.aload_n 0, 1) := by decide +kernel
theorem d_Mod_store_44 : decode prog_12_method_33_code 44 = .ok (.invokevirtual 113, 3) := by decide +kernel
theorem d_Mod_store_47 : decode prog_12_method_33_code 47 = .ok (.goto (19), 3) := by decide +kernel
theorem d_Mod_store_50 : decode prog_12_method_33_code 50 = .ok (.iload_n 1, 1) := by decide +kernel
theorem d_Mod_store_51 : decode prog_12_method_33_code 51 = .ok (.iconst 2, 1) := by decide +kernel
theorem d_Mod_store_52 : decode prog_12_method_33_code 52 = .ok (.if_icmp .ne (10), 3) := by decide +kernel
theorem d_Mod_store_55 : decode prog_12_method_33_code 55 = .ok (.aload_n 0, 1) := by decide +kernel
theorem d_Mod_store_56 : decode prog_12_method_33_code 56 = .ok (.getfield 79, 3) := by decide +kernel
theorem d_Mod_store_59 : decode prog_12_method_33_code 59 = .ok (.goto (7), 3) := by decide +kernel
theorem d_Mod_store_62 : decode prog_12_method_33_code 62 = .ok (.aload_n 0, 1) := by decide +kernel
theorem d_Mod_store_63 : decode prog_12_method_33_code 63 = .ok (.getfield 82, 3) := by decide +kernel
theorem d_Mod_store_66 : decode prog_12_method_33_code 66 = .ok (.ireturn, 1) := by decide +kernel
theorem d_Mod_packet_0 : decode prog_12_method_34_code 0 = .ok (.aload_n 0, 1) := by decide +kernel
theorem d_Mod_packet_1 : decode prog_12_method_34_code 1 = .ok (.iload_n 1, 1) := by decide +kernel
theorem d_Mod_packet_2 : decode prog_12_method_34_code 2 = .ok (.ifCond .lt (11), 3) := by decide +kernel
theorem d_Mod_packet_5 : decode prog_12_method_34_code 5 = .ok (.iload_n 1, 1) := by decide +kernel
theorem d_Mod_packet_6 : decode prog_12_method_34_code 6 = .ok (.aload_n 0, 1) := by decide +kernel
theorem d_Mod_packet_7 : decode prog_12_method_34_code 7 = .ok (.getfield 58, 3) := by decide +kernel
theorem d_Mod_packet_10 : decode prog_12_method_34_code 10 = .ok (.if_icmp .lt (7), 3) := by decide +kernel
theorem d_Mod_packet_13 : decode prog_12_method_34_code 13 = .ok (.iconst 1, 1) := by decide +kernel
theorem d_Mod_packet_14 : decode prog_12_method_34_code 14 = .ok (.goto (17), 3) := by decide +kernel
theorem d_Mod_packet_17 : decode prog_12_method_34_code 17 = .ok (.iload_n 2, 1) := by decide +kernel
theorem d_Mod_packet_18 : decode prog_12_method_34_code 18 = .ok (.ifCond .lt (8), 3) := by decide +kernel
theorem d_Mod_packet_21 : decode prog_12_method_34_code 21 = .ok (.iload_n 2, 1) := by decide +kernel
theorem d_Mod_packet_22 : decode prog_12_method_34_code 22 = .ok (.iconst 4, 1) := by decide +kernel
theorem d_Mod_packet_23 : decode prog_12_method_34_code 23 = .ok (.if_icmp .le (7), 3) := by decide +kernel
theorem d_Mod_packet_26 : decode prog_12_method_34_code 26 = .ok (.iconst 2, 1) := by decide +kernel
theorem d_Mod_packet_27 : decode prog_12_method_34_code 27 = .ok (.goto (4), 3) := by decide +kernel
theorem d_Mod_packet_30 : decode prog_12_method_34_code 30 = .ok (.iconst 0, 1) := by decide +kernel
theorem d_Mod_packet_31 : decode prog_12_method_34_code 31 = .ok (.putfield 7, 3) := by decide +kernel
theorem d_Mod_packet_34 : decode prog_12_method_34_code 34 = .ok (.aload_n 0, 1) := by decide +kernel
theorem d_Mod_packet_35 : decode prog_12_method_34_code 35 = .ok (.getfield 7, 3) := by decide +kernel
theorem d_Mod_packet_38 : decode prog_12_method_34_code 38 = .ok (.ifCond .eq (5), 3) := by decide +kernel
theorem d_Mod_packet_41 : decode prog_12_method_34_code 41 = .ok (.iconst 0, 1) := by decide +kernel
theorem d_Mod_packet_42 : decode prog_12_method_34_code 42 = .ok (.ireturn, 1) := by decide +kernel
theorem d_Mod_packet_43 : decode prog_12_method_34_code 43 = .ok (.iload_n 2, 1) := by decide +kernel
theorem d_Mod_packet_44 : decode prog_12_method_34_code 44 = .ok (.ifCond .ne (10), 3) := by decide +kernel
theorem d_Mod_packet_47 : decode prog_12_method_34_code 47 = .ok (.aload_n 0, 1) := by decide +kernel
theorem d_Mod_packet_48 : decode prog_12_method_34_code 48 = .ok (.getfield 61, 3) := by decide +kernel
theorem d_Mod_packet_51 : decode prog_12_method_34_code 51 = .ok (.iload_n 1, 1) := by decide +kernel
theorem d_Mod_packet_52 : decode prog_12_method_34_code 52 = .ok (.iaload, 1) := by decide +kernel
theorem d_Mod_packet_53 : decode prog_12_method_34_code 53 = .ok (.ireturn, 1) := by decide +kernel
theorem d_Mod_packet_54 : decode prog_12_method_34_code 54 = .ok (.iload_n 2, 1) := by decide +kernel
theorem d_Mod_packet_55 : decode prog_12_method_34_code 55 = .ok (.iconst 1, 1) := by decide +kernel
theorem d_Mod_packet_56 : decode prog_12_method_34_code 56 = .ok (.if_icmp .ne (10), 3) := by decide +kernel
theorem d_Mod_packet_59 : decode prog_12_method_34_code 59 = .ok (.aload_n 0, 1) := by decide +kernel
theorem d_Mod_packet_60 : decode prog_12_method_34_code 60 = .ok (.getfield 64, 3) := by decide +kernel
theorem d_Mod_packet_63 : decode prog_12_method_34_code 63 = .ok (.iload_n 1, 1) := by decide +kernel
theorem d_Mod_packet_64 : decode prog_12_method_34_code 64 = .ok (.iaload, 1) := by decide +kernel
theorem d_Mod_packet_65 : decode prog_12_method_34_code 65 = .ok (.ireturn, 1) := by decide +kernel
theorem d_Mod_packet_66 : decode prog_12_method_34_code 66 = .ok (.iload_n 2, 1) := by decide +kernel
theorem d_Mod_packet_67 : decode prog_12_method_34_code 67 = .ok (.iconst 2, 1) := by decide +kernel
theorem d_Mod_packet_68 : decode prog_12_method_34_code 68 = .ok (.if_icmp .ne (32), 3) := by decide +kernel
theorem d_Mod_packet_71 : decode prog_12_method_34_code 71 = .ok (.aload_n 0, 1) := by decide +kernel
theorem d_Mod_packet_72 : decode prog_12_method_34_code 72 = .ok (.getfield 67, 3) := by decide +kernel
theorem d_Mod_packet_75 : decode prog_12_method_34_code 75 = .ok (.bipush (60), 2) := by decide +kernel
theorem d_Mod_packet_77 : decode prog_12_method_34_code 77 = .ok (.iload_n 1, 1) := by decide +kernel
theorem d_Mod_packet_78 : decode prog_12_method_34_code 78 = .ok (.imul, 1) := by decide +kernel
theorem d_Mod_packet_79 : decode prog_12_method_34_code 79 = .ok (.iaload, 1) := by decide +kernel
theorem d_Mod_packet_80 : decode prog_12_method_34_code 80 = .ok (.bipush (7), 2) := by decide +kernel
theorem d_Mod_packet_82 : decode prog_12_method_34_code 82 = .ok (.iand, 1) := by decide +kernel
theorem d_Mod_packet_83 : decode prog_12_method_34_code 83 = .ok (.sipush (256), 3) := by decide +kernel
theorem d_Mod_packet_86 : decode prog_12_method_34_code 86 = .ok (.imul, 1) := by decide +kernel
theorem d_Mod_packet_87 : decode prog_12_method_34_code 87 = .ok (.aload_n 0, 1) := by decide +kernel
theorem d_Mod_packet_88 : decode prog_12_method_34_code 88 = .ok (.getfield 67, 3) := by decide +kernel
theorem d_Mod_packet_91 : decode prog_12_method_34_code 91 = .ok (.bipush (60), 2) := by decide +kernel
theorem d_Mod_packet_93 : decode prog_12_method_34_code 93 = .ok (.iload_n 1, 1) := by decide +kernel
theorem d_Mod_packet_94 : decode prog_12_method_34_code 94 = .ok (.imul, 1) := by decide +kernel
theorem d_Mod_packet_95 : decode prog_12_method_34_code 95 = .ok (.iconst 1, 1) := by decide +kernel
theorem d_Mod_packet_96 : decode prog_12_method_34_code 96 = .ok (.iadd, 1) := by decide +kernel
theorem d_Mod_packet_97 : decode prog_12_method_34_code 97 = .ok (.iaload, 1) := by decide +kernel
theorem d_Mod_packet_98 : decode prog_12_method_34_code 98 = .ok (.iadd, 1) := by decide +kernel
theorem d_Mod_packet_99 : decode prog_12_method_34_code 99 = .ok (.ireturn, 1) := by decide +kernel
theorem d_Mod_packet_100 : decode prog_12_method_34_code 100 = .ok (.iload_n 2, 1) := by decide +kernel
theorem d_Mod_packet_101 : decode prog_12_method_34_code 101 = .ok (.iconst 3, 1) := by decide +kernel
theorem d_Mod_packet_102 : decode prog_12_method_34_code 102 = .ok (.if_icmp .ne (14), 3) := by decide +kernel
theorem d_Mod_packet_105 : decode prog_12_method_34_code 105 = .ok (.aload_n 0, 1) := by decide +kernel
theorem d_Mod_packet_106 : decode prog_12_method_34_code 106 = .ok (.getfield 70, 3) := by decide +kernel
theorem d_Mod_packet_109 : decode prog_12_method_34_code 109 = .ok (.iconst 3, 1) := by decide +kernel
theorem d_Mod_packet_110 : decode prog_12_method_34_code 110 = .ok (.iload_n 1, 1) := by decide +kernel
theorem d_Mod_packet_111 : decode prog_12_method_34_code 111 = .ok (.imul, 1) := by decide +kernel
theorem d_Mod_packet_112 : decode prog_12_method_34_code 112 = .ok (.iaload, 1) := by decide +kernel
theorem d_Mod_packet_113 : decode prog_12_method_34_code 113 = .ok (.goto (9), 3) := by decide +kernel
theorem d_Mod_packet_116 : decode prog_12_method_34_code 116 = .ok (.aload_n 0, 1) := by decide +kernel
theorem d_Mod_packet_117 : decode prog_12_method_34_code 117 = .ok (.getfield 73, 3) := by decide +kernel
theorem d_Mod_packet_120 : decode prog_12_method_34_code 120 = .ok (.iload_n 1, 1) := by decide +kernel
theorem d_Mod_packet_121 : decode prog_12_method_34_code 121 = .ok (.iaload, 1) := by decide +kernel
theorem d_Mod_packet_122 : decode prog_12_method_34_code 122 = .ok (.ireturn, 1) := by decide +kernel
theorem d_Mod_content_0 : decode prog_12_method_35_code 0 = .ok (.aload_n 0, 1) := by decide +kernel
theorem d_Mod_content_1 : decode prog_12_method_35_code 1 = .ok (.iload_n 1, 1) := by decide +kernel
theorem d_Mod_content_2 : decode prog_12_method_35_code 2 = .ok (.ifCond .lt (25), 3) := by decide +kernel
theorem d_Mod_content_5 : decode prog_12_method_35_code 5 = .ok (.iload_n 1, 1) := by decide +kernel
theorem d_Mod_content_6 : decode prog_12_method_35_code 6 = .ok (.aload_n 0, 1) := by decide +kernel
theorem d_Mod_content_7 : decode prog_12_method_35_code 7 = .ok (.getfield 58, 3) := by decide +kernel
theorem d_Mod_content_10 : decode prog_12_method_35_code 10 = .ok (.if_icmp .ge (17), 3) := by decide +kernel
theorem d_Mod_content_13 : decode prog_12_method_35_code 13 = .ok (.iload_n 2, 1) := by decide +kernel
theorem d_Mod_content_14 : decode prog_12_method_35_code 14 = .ok (.ifCond .lt (13), 3) := by decide +kernel
theorem d_Mod_content_17 : decode prog_12_method_35_code 17 = .ok (.iload_n 2, 1) := by decide +kernel
theorem d_Mod_content_18 : decode prog_12_method_35_code 18 = .ok (.aload_n 0, 1) := by decide +kernel
theorem d_Mod_content_19 : decode prog_12_method_35_code 19 = .ok (.getfield 64, 3) := by decide +kernel
theorem d_Mod_content_22 : decode prog_12_method_35_code 22 = .ok (.iload_n 1, 1) := by decide +kernel
theorem d_Mod_content_23 : decode prog_12_method_35_code 23 = .ok (.iaload, 1) := by decide +kernel
theorem d_Mod_content_24 : decode prog_12_method_35_code 24 = .ok (.if_icmp .lt (7), 3) := by decide +kernel
theorem d_Mod_content_27 : decode prog_12_method_35_code 27 = .ok (.iconst 1, 1) := by decide +kernel
theorem d_Mod_content_28 : decode prog_12_method_35_code 28 = .ok (.goto (4), 3) := by decide +kernel
theorem d_Mod_content_31 : decode prog_12_method_35_code 31 = .ok (.iconst 0, 1) := by decide +kernel
theorem d_Mod_content_32 : decode prog_12_method_35_code 32 = .ok (.putfield 7, 3) := by decide +kernel
theorem d_Mod_content_35 : decode prog_12_method_35_code 35 = .ok (.aload_n 0, 1) := by decide +kernel
theorem d_Mod_content_36 : decode prog_12_method_35_code 36 = .ok (.getfield 7, 3) := by decide +kernel
theorem d_Mod_content_39 : decode prog_12_method_35_code 39 = .ok (.ifCond .eq (7), 3) := by decide +kernel
theorem d_Mod_content_42 : decode prog_12_method_35_code 42 = .ok (.iconst 0, 1) := by decide +kernel
theorem d_Mod_content_43 : decode prog_12_method_35_code 43 = .ok (.goto (14), 3) := by decide +kernel
theorem d_Mod_content_46 : decode prog_12_method_35_code 46 = .ok (.aload_n 0, 1) := by decide +kernel
theorem d_Mod_content_47 : decode prog_12_method_35_code 47 = .ok (.getfield 67, 3) := by decide +kernel
theorem d_Mod_content_50 : decode prog_12_method_35_code 50 = .ok (.bipush (60), 2) := by decide +kernel
theorem d_Mod_content_52 : decode prog_12_method_35_code 52 = .ok (.iload_n 1, 1) := by decide +kernel
theorem d_Mod_content_53 : decode prog_12_method_35_code 53 = .ok (.imul, 1) := by decide +kernel
theorem d_Mod_content_54 : decode prog_12_method_35_code 54 = .ok (.iload_n 2, 1) := by decide +kernel
theorem d_Mod_content_55 : decode prog_12_method_35_code 55 = .ok (.iadd, 1) := by decide +kernel
theorem d_Mod_content_56 : decode prog_12_method_35_code 56 = .ok (.iaload, 1) := by decide +kernel
theorem d_Mod_content_57 : decode prog_12_method_35_code 57 = .ok (.ireturn, 1) := by decide +kernel
