theorem d_Mod_init_0 : decode prog_12_method_1_code 0 = .ok (.aload_n 0, 1) := by decide +kernel
theorem d_Mod_init_1 : decode prog_12_method_1_code 1 = .ok (.invokespecial 1, 3) := by decide +kernel
theorem d_Mod_init_4 : decode prog_12_method_1_code 4 = .ok (.aload_n 0, 1) := by decide +kernel
theorem d_Mod_init_5 : decode prog_12_method_1_code 5 = .ok (.iconst 0, 1) := by decide +kernel
theorem d_Mod_init_6 : decode prog_12_method_1_code 6 = .ok (.putfield 7, 3) := by decide +kernel
theorem d_Mod_init_9 : decode prog_12_method_1_code 9 = .ok (.aload_n 0, 1) := by decide +kernel
theorem d_Mod_init_10 : decode prog_12_method_1_code 10 = .ok (.iconst 0, 1) := by decide +kernel
theorem d_Mod_init_11 : decode prog_12_method_1_code 11 = .ok (.putfield 13, 3) := by decide +kernel
theorem d_Mod_init_14 : decode prog_12_method_1_code 14 = .ok (.aload_n 0, 1) := by decide +kernel
theorem d_Mod_init_15 : decode prog_12_method_1_code 15 = .ok (.bipush (6), 2) := by decide +kernel
theorem d_Mod_init_17 : decode prog_12_method_1_code 17 = .ok (.newarray .int, 2) := by decide +kernel
theorem d_Mod_init_19 : decode prog_12_method_1_code 19 = .ok (.putfield 16, 3) := by decide +kernel
theorem d_Mod_init_22 : decode prog_12_method_1_code 22 = .ok (.aload_n 0, 1) := by decide +kernel
theorem d_Mod_init_23 : decode prog_12_method_1_code 23 = .ok (.iconst 0, 1) := by decide +kernel
theorem d_Mod_init_24 : decode prog_12_method_1_code 24 = .ok (.putfield 20, 3) := by decide +kernel
theorem d_Mod_init_27 : decode prog_12_method_1_code 27 = .ok (.aload_n 0, 1) := by decide +kernel
theorem d_Mod_init_28 : decode prog_12_method_1_code 28 = .ok (.iconst 0, 1) := by decide +kernel
theorem d_Mod_init_29 : decode prog_12_method_1_code 29 = .ok (.putfield 24, 3) := by decide +kernel
theorem d_Mod_init_32 : decode prog_12_method_1_code 32 = .ok (.aload_n 0, 1) := by decide +kernel
theorem d_Mod_init_33 : decode prog_12_method_1_code 33 = .ok (.bipush (80), 2) := by decide +kernel
theorem d_Mod_init_35 : decode prog_12_method_1_code 35 = .ok (.newarray .int, 2) := by decide +kernel
theorem d_Mod_init_37 : decode prog_12_method_1_code 37 = .ok (.putfield 27, 3) := by decide +kernel
theorem d_Mod_init_40 : decode prog_12_method_1_code 40 = .ok (.aload_n 0, 1) := by decide +kernel
theorem d_Mod_init_41 : decode prog_12_method_1_code 41 = .ok (.iconst 0, 1) := by decide +kernel
theorem d_Mod_init_42 : decode prog_12_method_1_code 42 = .ok (.putfield 30, 3) := by decide +kernel
theorem d_Mod_init_45 : decode prog_12_method_1_code 45 = .ok (.aload_n 0, 1) := by decide +kernel
theorem d_Mod_init_46 : decode prog_12_method_1_code 46 = .ok (.iconst 0, 1) := by decide +kernel
theorem d_Mod_init_47 : decode prog_12_method_1_code 47 = .ok (.putfield 33, 3) := by decide +kernel
theorem d_Mod_init_50 : decode prog_12_method_1_code 50 = .ok (.aload_n 0, 1) := by decide +kernel
theorem d_Mod_init_51 : decode prog_12_method_1_code 51 = .ok (.iconst 0, 1) := by decide +kernel
theorem d_Mod_init_52 : decode prog_12_method_1_code 52 = .ok (.putfield 36, 3) := by decide +kernel
theorem d_Mod_init_55 : decode prog_12_method_1_code 55 = .ok (.aload_n 0, 1) := by decide +kernel
theorem d_Mod_init_56 : decode prog_12_method_1_code 56 = .ok (.iconst 0, 1) := by decide +kernel
theorem d_Mod_init_57 : decode prog_12_method_1_code 57 = .ok (.putfield 39, 3) := by decide +kernel
theorem d_Mod_init_60 : decode prog_12_method_1_code 60 = .ok (.aload_n 0, 1) := by decide +kernel
theorem d_Mod_init_61 : decode prog_12_method_1_code 61 = .ok (.iconst 0, 1) := by decide +kernel
theorem d_Mod_init_62 : decode prog_12_method_1_code 62 = .ok (.putfield 42, 3) := by decide +kernel
theorem d_Mod_init_65 : decode prog_12_method_1_code 65 = .ok (.aload_n 0, 1) := by decide +kernel
theorem d_Mod_init_66 : decode prog_12_method_1_code 66 = .ok (.iconst 0, 1) := by decide +kernel
theorem d_Mod_init_67 : decode prog_12_method_1_code 67 = .ok (.putfield 45, 3) := by decide +kernel
theorem d_Mod_init_70 : decode prog_12_method_1_code 70 = .ok (.aload_n 0, 1) := by decide +kernel
theorem d_Mod_init_71 : decode prog_12_method_1_code 71 = .ok (.iconst 4, 1) := by decide +kernel
theorem d_Mod_init_72 : decode prog_12_method_1_code 72 = .ok (.newarray .boolean, 2) := by decide +kernel
theorem d_Mod_init_74 : decode prog_12_method_1_code 74 = .ok (.putfield 48, 3) := by decide +kernel
theorem d_Mod_init_77 : decode prog_12_method_1_code 77 = .ok (.aload_n 0, 1) := by decide +kernel
theorem d_Mod_init_78 : decode prog_12_method_1_code 78 = .ok (.iconst 4, 1) := by decide +kernel
theorem d_Mod_init_79 : decode prog_12_method_1_code 79 = .ok (.newarray .int, 2) := by decide +kernel
theorem d_Mod_init_81 : decode prog_12_method_1_code 81 = .ok (.putfield 52, 3) := by decide +kernel
theorem d_Mod_init_84 : decode prog_12_method_1_code 84 = .ok (.aload_n 0, 1) := by decide +kernel
theorem d_Mod_init_85 : decode prog_12_method_1_code 85 = .ok (.sipush (240), 3) := by decide +kernel
theorem d_Mod_init_88 : decode prog_12_method_1_code 88 = .ok (.newarray .int, 2) := by decide +kernel
theorem d_Mod_init_90 : decode prog_12_method_1_code 90 = .ok (.putfield 55, 3) := by decide +kernel
theorem d_Mod_init_93 : decode prog_12_method_1_code 93 = .ok (.aload_n 0, 1) := by decide +kernel
theorem d_Mod_init_94 : decode prog_12_method_1_code 94 = .ok (.iconst 0, 1) := by decide +kernel
theorem d_Mod_init_95 : decode prog_12_method_1_code 95 = .ok (.putfield 58, 3) := by decide +kernel
theorem d_Mod_init_98 : decode prog_12_method_1_code 98 = .ok (.aload_n 0, 1) := by decide +kernel
theorem d_Mod_init_99 : decode prog_12_method_1_code 99 = .ok (.bipush (24), 2) := by decide +kernel
theorem d_Mod_init_101 : decode prog_12_method_1_code 101 = .ok (.newarray .int, 2) := by decide +kernel
theorem d_Mod_init_103 : decode prog_12_method_1_code 103 = .ok (.putfield 61, 3) := by decide +kernel
theorem d_Mod_init_106 : decode prog_12_method_1_code 106 = .ok (.aload_n 0, 1) := by decide +kernel
theorem d_Mod_init_107 : decode prog_12_method_1_code 107 = .ok (.bipush (24), 2) := by decide +kernel
theorem d_Mod_init_109 : decode prog_12_method_1_code 109 = .ok (.newarray .int, 2) := by decide +kernel
theorem d_Mod_init_111 : decode prog_12_method_1_code 111 = .ok (.putfield 64, 3) := by decide +kernel
theorem d_Mod_init_114 : decode prog_12_method_1_code 114 = .ok (.aload_n 0, 1) := by decide +kernel
theorem d_Mod_init_115 : decode prog_12_method_1_code 115 = .ok (.sipush (1440), 3) := by decide +kernel
theorem d_Mod_init_118 : decode prog_12_method_1_code 118 = .ok (.newarray .int, 2) := by decide +kernel
theorem d_Mod_init_120 : decode prog_12_method_1_code 120 = .ok (.putfield 67, 3) := by decide +kernel
theorem d_Mod_init_123 : decode prog_12_method_1_code 123 = .ok (.aload_n 0, 1) := by decide +kernel
theorem d_Mod_init_124 : decode prog_12_method_1_code 124 = .ok (.bipush (72), 2) := by decide +kernel
theorem d_Mod_init_126 : decode prog_12_method_1_code 126 = .ok (.newarray .int, 2) := by decide +kernel
theorem d_Mod_init_128 : decode prog_12_method_1_code 128 = .ok (.putfield 70, 3) := by decide +kernel
theorem d_Mod_init_131 : decode prog_12_method_1_code 131 = .ok (.aload_n 0, 1) := by decide +kernel
theorem d_Mod_init_132 : decode prog_12_method_1_code 132 = .ok (.bipush (24), 2) := by decide +kernel
theorem d_Mod_init_134 : decode prog_12_method_1_code 134 = .ok (.newarray .int, 2) := by decide +kernel
theorem d_Mod_init_136 : decode prog_12_method_1_code 136 = .ok (.putfield 73, 3) := by decide +kernel
theorem d_Mod_init_139 : decode prog_12_method_1_code 139 = .ok (.aload_n 0, 1) := by decide +kernel
theorem d_Mod_init_140 : decode prog_12_method_1_code 140 = .ok (.iconst 0, 1) := by decide +kernel
theorem d_Mod_init_141 : decode prog_12_method_1_code 141 = .ok (.putfield 76, 3) := by decide +kernel
theorem d_Mod_init_144 : decode prog_12_method_1_code 144 = .ok (.aload_n 0, 1) := by decide +kernel
theorem d_Mod_init_145 : decode prog_12_method_1_code 145 = .ok (.iconst 0, 1) := by decide +kernel
theorem d_Mod_init_146 : decode prog_12_method_1_code 146 = .ok (.putfield 79, 3) := by decide +kernel
theorem d_Mod_init_149 : decode prog_12_method_1_code 149 = .ok (.aload_n 0, 1) := by decide +kernel
theorem d_Mod_init_150 : decode prog_12_method_1_code 150 = .ok (.iconst 0, 1) := by decide +kernel
theorem d_Mod_init_151 : decode prog_12_method_1_code 151 = .ok (.putfield 82, 3) := by decide +kernel
theorem d_Mod_init_154 : decode prog_12_method_1_code 154 = .ok (.aload_n 0, 1) := by decide +kernel
theorem d_Mod_init_155 : decode prog_12_method_1_code 155 = .ok (.bipush (32), 2) := by decide +kernel
theorem d_Mod_init_157 : decode prog_12_method_1_code 157 = .ok (.newarray .int, 2) := by decide +kernel
theorem d_Mod_init_159 : decode prog_12_method_1_code 159 = .ok (.putfield 85, 3) := by decide +kernel
theorem d_Mod_init_162 : decode prog_12_method_1_code 162 = .ok (.aload_n 0, 1) := by decide +kernel
theorem d_Mod_init_163 : decode prog_12_method_1_code 163 = .ok (.iconst 0, 1) := by decide +kernel
theorem d_Mod_init_164 : decode prog_12_method_1_code 164 = .ok (.putfield 88, 3) := by decide +kernel
theorem d_Mod_init_167 : decode prog_12_method_1_code 167 = .ok (.aload_n 0, 1) := by decide +kernel
theorem d_Mod_init_168 : decode prog_12_method_1_code 168 = .ok (.iconst 2, 1) := by decide +kernel
theorem d_Mod_init_169 : decode prog_12_method_1_code 169 = .ok (.newarray .int, 2) := by decide +kernel
theorem d_Mod_init_171 : decode prog_12_method_1_code 171 = .ok (.putfield 91, 3) := by decide +kernel
theorem d_Mod_init_174 : decode prog_12_method_1_code 174 = .ok (.iconst 0, 1) := by decide +kernel
theorem d_Mod_init_175 : decode prog_12_method_1_code 175 = .ok (.istore_n 1, 1) := by decide +kernel
theorem d_Mod_init_176 : decode prog_12_method_1_code 176 = .ok (.iload_n 1, 1) := by decide +kernel
theorem d_Mod_init_177 : decode prog_12_method_1_code 177 = .ok (.iconst 2, 1) := by decide +kernel
theorem d_Mod_init_178 : decode prog_12_method_1_code 178 = .ok (.if_icmp .ge (31), 3) := by decide +kernel
theorem d_Mod_init_181 : decode prog_12_method_1_code 181 = .ok (.aload_n 0, 1) := by decide +kernel
theorem d_Mod_init_182 : decode prog_12_method_1_code 182 = .ok (.getfield 16, 3) := by decide +kernel
theorem d_Mod_init_185 : decode prog_12_method_1_code 185 = .ok (.iconst 3, 1) := by decide +kernel
theorem d_Mod_init_186 : decode prog_12_method_1_code 186 = .ok (.iload_n 1, 1) := by decide +kernel
theorem d_Mod_init_187 : decode prog_12_method_1_code 187 = .ok (.imul, 1) := by decide +kernel
theorem d_Mod_init_188 : decode prog_12_method_1_code 188 = .ok (.iconst 1, 1) := by decide +kernel
theorem d_Mod_init_189 : decode prog_12_method_1_code 189 = .ok (.iadd, 1) := by decide +kernel
theorem d_Mod_init_190 : decode prog_12_method_1_code 190 = .ok (.iconst 1, 1) := by decide +kernel
theorem d_Mod_init_191 : decode prog_12_method_1_code 191 = .ok (.iastore, 1) := by decide +kernel
theorem d_Mod_init_192 : decode prog_12_method_1_code 192 = .ok (.aload_n 0, 1) := by decide +kernel
theorem d_Mod_init_193 : decode prog_12_method_1_code 193 = .ok (.getfield 16, 3) := by decide +kernel
theorem d_Mod_init_196 : decode prog_12_method_1_code 196 = .ok (.iconst 3, 1) := by decide +kernel
theorem d_Mod_init_197 : decode prog_12_method_1_code 197 = .ok (.iload_n 1, 1) := by decide +kernel
theorem d_Mod_init_198 : decode prog_12_method_1_code 198 = .ok (.imul, 1) := by decide +kernel
theorem d_Mod_init_199 : decode prog_12_method_1_code 199 = .ok (.iconst 2, 1) := by decide +kernel
theorem d_Mod_init_200 : decode prog_12_method_1_code 200 = .ok (.iadd, 1) := by decide +kernel
theorem d_Mod_init_201 : decode prog_12_method_1_code 201 = .ok (.iconst 1, 1) := by decide +kernel
theorem d_Mod_init_202 : decode prog_12_method_1_code 202 = .ok (.iastore, 1) := by decide +kernel
theorem d_Mod_init_203 : decode prog_12_method_1_code 203 = .ok (.iinc 1 (1), 3) := by decide +kernel
theorem d_Mod_init_206 : decode prog_12_method_1_code 206 = .ok (.goto (-30), 3) := by decide +kernel
theorem d_Mod_init_209 : decode prog_12_method_1_code 209 = .ok (.return_, 1) := by decide +kernel
theorem d_Mod_write_0 : decode prog_12_method_2_code 0 = .ok (.aload_n 0, 1) := by decide +kernel
theorem d_Mod_write_1 : decode prog_12_method_2_code 1 = .ok (.dup, 1) := by decide +kernel
theorem d_Mod_write_2 : decode prog_12_method_2_code 2 = .ok (.getfield 82, 3) := by decide +kernel
theorem d_Mod_write_5 : decode prog_12_method_2_code 5 = .ok (.iconst 1, 1) := by decide +kernel
theorem d_Mod_write_6 : decode prog_12_method_2_code 6 = .ok (.iadd, 1) := by decide +kernel
theorem d_Mod_write_7 : decode prog_12_method_2_code 7 = .ok (.putfield 82, 3) := by decide +kernel
theorem d_Mod_write_10 : decode prog_12_method_2_code 10 = .ok (.aload_n 0, 1) := by decide +kernel
theorem d_Mod_write_11 : decode prog_12_method_2_code 11 = .ok (.getfield 24, 3) := by decide +kernel
theorem d_Mod_write_14 : decode prog_12_method_2_code 14 = .ok (.ifCond .le (25), 3) := by decide +kernel
theorem d_Mod_write_17 : decode prog_12_method_2_code 17 = .ok (.aload_n 0, 1) := by decide +kernel
theorem d_Mod_write_18 : decode prog_12_method_2_code 18 = .ok (.dup, 1) := by decide +kernel
theorem d_Mod_write_19 : decode prog_12_method_2_code 19 = .ok (.getfield 24, 3) := by decide +kernel
theorem d_Mod_write_22 : decode prog_12_method_2_code 22 = .ok (.iconst 1, 1) := by decide +kernel
theorem d_Mod_write_23 : decode prog_12_method_2_code 23 = .ok (.isub, 1) := by decide +kernel
theorem d_Mod_write_24 : decode prog_12_method_2_code 24 = .ok (.putfield 24, 3) := by decide +kernel
theorem d_Mod_write_27 : decode prog_12_method_2_code 27 = .ok (.aload_n 0, 1) := by decide +kernel
theorem d_Mod_write_28 : decode prog_12_method_2_code 28 = .ok (.getfield 24, 3) := by decide +kernel
theorem d_Mod_write_31 : decode prog_12_method_2_code 31 = .ok (.ifCond .ne (8), 3) := by decide +kernel
theorem d_Mod_write_34 : decode prog_12_method_2_code 34 = .ok (.aload_n 0, 1) := by decide +kernel
theorem d_Mod_write_35 : decode prog_12_method_2_code 35 = .ok (.iconst 1, 1) := by decide +kernel
theorem d_Mod_write_36 : decode prog_12_method_2_code 36 = .ok (.putfield 20, 3) := by decide +kernel
theorem d_Mod_write_39 : decode prog_12_method_2_code 39 = .ok (.aload_n 0, 1) := by decide +kernel
theorem d_Mod_write_40 : decode prog_12_method_2_code 40 = .ok (.getfield 20, 3) := by decide +kernel
theorem d_Mod_write_43 : decode prog_12_method_2_code 43 = .ok (.ifCond .ne (7), 3) := by decide +kernel
theorem d_Mod_write_46 : decode prog_12_method_2_code 46 = .ok (.iconst 1, 1) := by decide +kernel
theorem d_Mod_write_47 : decode prog_12_method_2_code 47 = .ok (.goto (4), 3) := by decide +kernel
theorem d_Mod_write_50 : decode prog_12_method_2_code 50 = .ok (.iconst 0, 1) := by decide +kernel
theorem d_Mod_write_51 : decode prog_12_method_2_code 51 = .ok (.ireturn, 1) := by decide +kernel
theorem d_Mod_journal_0 : decode prog_12_method_3_code 0 = .ok (.aload_n 0, 1) := by decide +kernel
theorem d_Mod_journal_1 : decode prog_12_method_3_code 1 = .ok (.getfield 79, 3) := by decide +kernel
theorem d_Mod_journal_4 : decode prog_12_method_3_code 4 = .ok (.bipush (40), 2) := by decide +kernel
theorem d_Mod_journal_6 : decode prog_12_method_3_code 6 = .ok (.if_icmp .ge (5), 3) := by decide +kernel
theorem d_Mod_journal_9 : decode prog_12_method_3_code 9 = .ok (.iconst 1, 1) := by decide +kernel
theorem d_Mod_journal_10 : decode prog_12_method_3_code 10 = .ok (.ireturn, 1) := by decide +kernel
theorem d_Mod_journal_11 : decode prog_12_method_3_code 11 = .ok (.aload_n 0, 1) := by decide +kernel
theorem d_Mod_journal_12 : decode prog_12_method_3_code 12 = .ok (.aload_n 0, 1) := by decide +kernel
theorem d_Mod_journal_13 : decode prog_12_method_3_code 13 = .ok (.getfield 58, 3) := by decide +kernel
theorem d_Mod_journal_16 : decode prog_12_method_3_code 16 = .ok (.putfield 79, 3) := by decide +kernel
theorem d_Mod_journal_19 : decode prog_12_method_3_code 19 = .ok (.aload_n 0, 1) := by decide +kernel
theorem d_Mod_journal_20 : decode prog_12_method_3_code 20 = .ok (.invokevirtual 94, 3) := by decide +kernel
theorem d_Mod_journal_23 : decode prog_12_method_3_code 23 = .ok (.ireturn, 1) := by decide +kernel
theorem d_Mod_isFree_0 : decode prog_12_method_4_code 0 = .ok (.iconst 0, 1) := by decide +kernel
theorem d_Mod_isFree_1 : decode prog_12_method_4_code 1 = .ok (.istore_n 2, 1) := by decide +kernel
theorem d_Mod_isFree_2 : decode prog_12_method_4_code 2 = .ok (.iload_n 2, 1) := by decide +kernel
theorem d_Mod_isFree_3 : decode prog_12_method_4_code 3 = .ok (.aload_n 0, 1) := by decide +kernel
theorem d_Mod_isFree_4 : decode prog_12_method_4_code 4 = .ok (.getfield 58, 3) := by decide +kernel
theorem d_Mod_isFree_7 : decode prog_12_method_4_code 7 = .ok (.if_icmp .ge (38), 3) := by decide +kernel
theorem d_Mod_isFree_10 : decode prog_12_method_4_code 10 = .ok (.iconst 0, 1) := by decide +kernel
theorem d_Mod_isFree_11 : decode prog_12_method_4_code 11 = .ok (.istore_n 3, 1) := by decide +kernel
theorem d_Mod_isFree_12 : decode prog_12_method_4_code 12 = .ok (.iload_n 3, 1) := by decide +kernel
theorem d_Mod_isFree_13 : decode prog_12_method_4_code 13 = .ok (.iconst 3, 1) := by decide +kernel
theorem d_Mod_isFree_14 : decode prog_12_method_4_code 14 = .ok (.if_icmp .ge (25), 3) := by decide +kernel
theorem d_Mod_isFree_17 : decode prog_12_method_4_code 17 = .ok (.aload_n 0, 1) := by decide +kernel
theorem d_Mod_isFree_18 : decode prog_12_method_4_code 18 = .ok (.getfield 70, 3) := by decide +kernel
theorem d_Mod_isFree_21 : decode prog_12_method_4_code 21 = .ok (.iconst 3, 1) := by decide +kernel
theorem d_Mod_isFree_22 : decode prog_12_method_4_code 22 = .ok (.iload_n 2, 1) := by decide +kernel
theorem d_Mod_isFree_23 : decode prog_12_method_4_code 23 = .ok (.imul, 1) := by decide +kernel
theorem d_Mod_isFree_24 : decode prog_12_method_4_code 24 = .ok (.iload_n 3, 1) := by decide +kernel
theorem d_Mod_isFree_25 : decode prog_12_method_4_code 25 = .ok (.iadd, 1) := by decide +kernel
theorem d_Mod_isFree_26 : decode prog_12_method_4_code 26 = .ok (.iaload, 1) := by decide +kernel
theorem d_Mod_isFree_27 : decode prog_12_method_4_code 27 = .ok (.iload_n 1, 1) := by decide +kernel
theorem d_Mod_isFree_28 : decode prog_12_method_4_code 28 = .ok (.if_icmp .ne (5), 3) := by decide +kernel
theorem d_Mod_isFree_31 : decode prog_12_method_4_code 31 = .ok (.iconst 0, 1) := by decide +kernel
theorem d_Mod_isFree_32 : decode prog_12_method_4_code 32 = .ok (.ireturn, 1) := by decide +kernel
theorem d_Mod_isFree_33 : decode prog_12_method_4_code 33 = .ok (.iinc 3 (1), 3) := by decide +kernel
theorem d_Mod_isFree_36 : decode prog_12_method_4_code 36 = .ok (.goto (-24), 3) := by decide +kernel
theorem d_Mod_isFree_39 : decode prog_12_method_4_code 39 = .ok (.iinc 2 (1), 3) := by decide +kernel
theorem d_Mod_isFree_42 : decode prog_12_method_4_code 42 = .ok (.goto (-40), 3) := by decide +kernel
theorem d_Mod_isFree_45 : decode prog_12_method_4_code 45 = .ok (.iconst 1, 1) := by decide +kernel
theorem d_Mod_isFree_46 : decode prog_12_method_4_code 46 = .ok (.ireturn, 1) := by decide +kernel
theorem d_Mod_freeBlocks_0 : decode prog_12_method_5_code 0 = .ok (.iconst 0, 1) := by decide +kernel
theorem d_Mod_freeBlocks_1 : decode prog_12_method_5_code 1 = .ok (.istore_n 1, 1) := by decide +kernel
theorem d_Mod_freeBlocks_2 : decode prog_12_method_5_code 2 = .ok (.iconst 0, 1) := by decide +kernel
theorem d_Mod_freeBlocks_3 : decode prog_12_method_5_code 3 = .ok (.istore_n 2, 1) := by decide +kernel
theorem d_Mod_freeBlocks_4 : decode prog_12_method_5_code 4 = .ok (.iload_n 2, 1) := by decide +kernel
theorem d_Mod_freeBlocks_5 : decode prog_12_method_5_code 5 = .ok (.bipush (24), 2) := by decide +kernel
theorem d_Mod_freeBlocks_7 : decode prog_12_method_5_code 7 = .ok (.if_icmp .ge (25), 3) := by decide +kernel
theorem d_Mod_freeBlocks_10 : decode prog_12_method_5_code 10 = .ok (.iload_n 1, 1) := by decide +kernel
theorem d_Mod_freeBlocks_11 : decode prog_12_method_5_code 11 = .ok (.aload_n 0, 1) := by decide +kernel
theorem d_Mod_freeBlocks_12 : decode prog_12_method_5_code 12 = .ok (.iload_n 2, 1) := by decide +kernel
theorem d_Mod_freeBlocks_13 : decode prog_12_method_5_code 13 = .ok (.invokevirtual 98, 3) := by decide +kernel
theorem d_Mod_freeBlocks_16 : decode prog_12_method_5_code 16 = .ok (.ifCond .eq (7), 3) := by decide +kernel
theorem d_Mod_freeBlocks_19 : decode prog_12_method_5_code 19 = .ok (.iconst 1, 1) := by decide +kernel
theorem d_Mod_freeBlocks_20 : decode prog_12_method_5_code 20 = .ok (.goto (4), 3) := by decide +kernel
theorem d_Mod_freeBlocks_23 : decode prog_12_method_5_code 23 = .ok (.iconst 0, 1) := by decide +kernel
theorem d_Mod_freeBlocks_24 : decode prog_12_method_5_code 24 = .ok (.iadd, 1) := by decide +kernel
theorem d_Mod_freeBlocks_25 : decode prog_12_method_5_code 25 = .ok (.istore_n 1, 1) := by decide +kernel
theorem d_Mod_freeBlocks_26 : decode prog_12_method_5_code 26 = .ok (.iinc 2 (1), 3) := by decide +kernel
theorem d_Mod_freeBlocks_29 : decode prog_12_method_5_code 29 = .ok (.goto (-25), 3) := by decide +kernel
theorem d_Mod_freeBlocks_32 : decode prog_12_method_5_code 32 = .ok (.iload_n 1, 1) := by decide +kernel
theorem d_Mod_freeBlocks_33 : decode prog_12_method_5_code 33 = .ok (.ireturn, 1) := by decide +kernel
theorem d_Mod_keepPacket_0 : decode prog_12_method_6_code 0 = .ok (.iconst 0, 1) := by decide +kernel
theorem d_Mod_keepPacket_1 : decode prog_12_method_6_code 1 = .ok (.istore 4, 2) := by decide +kernel
theorem d_Mod_keepPacket_3 : decode prog_12_method_6_code 3 = .ok (.iconst 0, 1) := by decide +kernel
theorem d_Mod_keepPacket_4 : decode prog_12_method_6_code 4 = .ok (.istore 5, 2) := by decide +kernel
theorem d_Mod_keepPacket_6 : decode prog_12_method_6_code 6 = .ok (.iload 5, 2) := by decide +kernel
theorem d_Mod_keepPacket_8 : decode prog_12_method_6_code 8 = .ok (.iconst 3, 1) := by decide +kernel
theorem d_Mod_keepPacket_9 : decode prog_12_method_6_code 9 = .ok (.if_icmp .ge (24), 3) := by decide +kernel
theorem d_Mod_keepPacket_12 : decode prog_12_method_6_code 12 = .ok (.aload_n 0, 1) := by decide +kernel
theorem d_Mod_keepPacket_13 : decode prog_12_method_6_code 13 = .ok (.getfield 70, 3) := by decide +kernel
theorem d_Mod_keepPacket_16 : decode prog_12_method_6_code 16 = .ok (.iconst 3, 1) := by decide +kernel
theorem d_Mod_keepPacket_17 : decode prog_12_method_6_code 17 = .ok (.aload_n 0, 1) := by decide +kernel
theorem d_Mod_keepPacket_18 : decode prog_12_method_6_code 18 = .ok (.getfield 58, 3) := by decide +kernel
theorem d_Mod_keepPacket_21 : decode prog_12_method_6_code 21 = .ok (.imul, 1) := by decide +kernel
theorem d_Mod_keepPacket_22 : decode prog_12_method_6_code 22 = .ok (.iload 5, 2) := by decide +kernel
theorem d_Mod_keepPacket_24 : decode prog_12_method_6_code 24 = .ok (.iadd, 1) := by decide +kernel
theorem d_Mod_keepPacket_25 : decode prog_12_method_6_code 25 = .ok (.iconst (-1), 1) := by decide +kernel
theorem d_Mod_keepPacket_26 : decode prog_12_method_6_code 26 = .ok (.iastore, 1) := by decide +kernel
theorem d_Mod_keepPacket_27 : decode prog_12_method_6_code 27 = .ok (.iinc 5 (1), 3) := by decide +kernel
theorem d_Mod_keepPacket_30 : decode prog_12_method_6_code 30 = .ok (.goto (-24), 3) := by decide +kernel
theorem d_Mod_keepPacket_33 : decode prog_12_method_6_code 33 = .ok (.iconst 0, 1) := by decide +kernel
theorem d_Mod_keepPacket_34 : decode prog_12_method_6_code 34 = .ok (.istore 5, 2) := by decide +kernel
theorem d_Mod_keepPacket_36 : decode prog_12_method_6_code 36 = .ok (.bipush (20), 2) := by decide +kernel
theorem d_Mod_keepPacket_38 : decode prog_12_method_6_code 38 = .ok (.iload 5, 2) := by decide +kernel
theorem d_Mod_keepPacket_40 : decode prog_12_method_6_code 40 = .ok (.imul, 1) := by decide +kernel
theorem d_Mod_keepPacket_41 : decode prog_12_method_6_code 41 = .ok (.iload_n 3, 1) := by decide +kernel
theorem d_Mod_keepPacket_42 : decode prog_12_method_6_code 42 = .ok (.if_icmp .ge (51), 3) := by decide +kernel
theorem d_Mod_keepPacket_45 : decode prog_12_method_6_code 45 = .ok (.aload_n 0, 1) := by decide +kernel
theorem d_Mod_keepPacket_46 : decode prog_12_method_6_code 46 = .ok (.iload 4, 2) := by decide +kernel
theorem d_Mod_keepPacket_48 : decode prog_12_method_6_code 48 = .ok (.invokevirtual 98, 3) := by decide +kernel
theorem d_Mod_keepPacket_51 : decode prog_12_method_6_code 51 = .ok (.ifCond .ne (9), 3) := by decide +kernel
theorem d_Mod_keepPacket_54 : decode prog_12_method_6_code 54 = .ok (.iinc 4 (1), 3) := by decide +kernel
theorem d_Mod_keepPacket_57 : decode prog_12_method_6_code 57 = .ok (.goto (-12), 3) := by decide +kernel
theorem d_Mod_keepPacket_60 : decode prog_12_method_6_code 60 = .ok (.aload_n 0, 1) := by decide +kernel
theorem d_Mod_keepPacket_61 : decode prog_12_method_6_code 61 = .ok (.getfield 70, 3) := by decide +kernel
theorem d_Mod_keepPacket_64 : decode prog_12_method_6_code 64 = .ok (.iconst 3, 1) := by decide +kernel
theorem d_Mod_keepPacket_65 : decode prog_12_method_6_code 65 = .ok (.aload_n 0, 1) := by decide +kernel
theorem d_Mod_keepPacket_66 : decode prog_12_method_6_code 66 = .ok (.getfield 58, 3) := by decide +kernel
theorem d_Mod_keepPacket_69 : decode prog_12_method_6_code 69 = .ok (.imul, 1) := by decide +kernel
theorem d_Mod_keepPacket_70 : decode prog_12_method_6_code 70 = .ok (.iload 5, 2) := by decide +kernel
theorem d_Mod_keepPacket_72 : decode prog_12_method_6_code 72 = .ok (.iadd, 1) := by decide +kernel
theorem d_Mod_keepPacket_73 : decode prog_12_method_6_code 73 = .ok (.iload 4, 2) := by decide +kernel
theorem d_Mod_keepPacket_75 : decode prog_12_method_6_code 75 = .ok (.iastore, 1) := by decide +kernel
theorem d_Mod_keepPacket_76 : decode prog_12_method_6_code 76 = .ok (.iinc 4 (1), 3) := by decide +kernel
theorem d_Mod_keepPacket_79 : decode prog_12_method_6_code 79 = .ok (.aload_n 0, 1) := by decide +kernel
theorem d_Mod_keepPacket_80 : decode prog_12_method_6_code 80 = .ok (.invokevirtual 94, 3) := by decide +kernel
theorem d_Mod_keepPacket_83 : decode prog_12_method_6_code 83 = .ok (.ifCond .ne (4), 3) := by decide +kernel
theorem d_Mod_keepPacket_86 : decode prog_12_method_6_code 86 = .ok (.return_, 1) := by decide +kernel
theorem d_Mod_keepPacket_87 : decode prog_12_method_6_code 87 = .ok (.iinc 5 (1), 3) := by decide +kernel
theorem d_Mod_keepPacket_90 : decode prog_12_method_6_code 90 = .ok (.goto (-54), 3) := by decide +kernel
theorem d_Mod_keepPacket_93 : decode prog_12_method_6_code 93 = .ok (.aload_n 0, 1) := by decide +kernel
theorem d_Mod_keepPacket_94 : decode prog_12_method_6_code 94 = .ok (.invokevirtual 102, 3) := by decide +kernel
theorem d_Mod_keepPacket_97 : decode prog_12_method_6_code 97 = .ok (.ifCond .ne (4), 3) := by decide +kernel
theorem d_Mod_keepPacket_100 : decode prog_12_method_6_code 100 = .ok (.return_, 1) := by decide +kernel
theorem d_Mod_keepPacket_101 : decode prog_12_method_6_code 101 = .ok (.aload_n 0, 1) := by decide +kernel
theorem d_Mod_keepPacket_102 : decode prog_12_method_6_code 102 = .ok (.dup, 1) := by decide +kernel
theorem d_Mod_keepPacket_103 : decode prog_12_method_6_code 103 = .ok (.getfield 79, 3) := by decide +kernel
theorem d_Mod_keepPacket_106 : decode prog_12_method_6_code 106 = .ok (.iconst 1, 1) := by decide +kernel
theorem d_Mod_keepPacket_107 : decode prog_12_method_6_code 107 = .ok (.iadd, 1) := by decide +kernel
theorem d_Mod_keepPacket_108 : decode prog_12_method_6_code 108 = .ok (.putfield 79, 3) := by decide +kernel
theorem d_Mod_keepPacket_111 : decode prog_12_method_6_code 111 = .ok (.iconst 0, 1) := by decide +kernel
theorem d_Mod_keepPacket_112 : decode prog_12_method_6_code 112 = .ok (.istore 5, 2) := by decide +kernel
theorem d_Mod_keepPacket_114 : decode prog_12_method_6_code 114 = .ok (.iload 5, 2) := by decide +kernel
theorem d_Mod_keepPacket_116 : decode prog_12_method_6_code 116 = .ok (.iload_n 3, 1) := by decide +kernel
theorem d_Mod_keepPacket_117 : decode prog_12_method_6_code 117 = .ok (.if_icmp .ge (30), 3) := by decide +kernel
theorem d_Mod_keepPacket_120 : decode prog_12_method_6_code 120 = .ok (.aload_n 0, 1) := by decide +kernel
theorem d_Mod_keepPacket_121 : decode prog_12_method_6_code 121 = .ok (.getfield 67, 3) := by decide +kernel
theorem d_Mod_keepPacket_124 : decode prog_12_method_6_code 124 = .ok (.bipush (60), 2) := by decide +kernel
theorem d_Mod_keepPacket_126 : decode prog_12_method_6_code 126 = .ok (.aload_n 0, 1) := by decide +kernel
theorem d_Mod_keepPacket_127 : decode prog_12_method_6_code 127 = .ok (.getfield 58, 3) := by decide +kernel
theorem d_Mod_keepPacket_130 : decode prog_12_method_6_code 130 = .ok (.imul, 1) := by decide +kernel
theorem d_Mod_keepPacket_131 : decode prog_12_method_6_code 131 = .ok (.iload 5, 2) := by decide +kernel
theorem d_Mod_keepPacket_133 : decode prog_12_method_6_code 133 = .ok (.iadd, 1) := by decide +kernel
theorem d_Mod_keepPacket_134 : decode prog_12_method_6_code 134 = .ok (.aload_n 1, 1) := by decide +kernel
theorem d_Mod_keepPacket_135 : decode prog_12_method_6_code 135 = .ok (.iload_n 2, 1) := by decide +kernel
theorem d_Mod_keepPacket_136 : decode prog_12_method_6_code 136 = .ok (.iload 5, 2) := by decide +kernel
theorem d_Mod_keepPacket_138 : decode prog_12_method_6_code 138 = .ok (.iadd, 1) := by decide +kernel
theorem d_Mod_keepPacket_139 : decode prog_12_method_6_code 139 = .ok (.iaload, 1) := by decide +kernel
theorem d_Mod_keepPacket_140 : decode prog_12_method_6_code 140 = .ok (.iastore, 1) := by decide +kernel
theorem d_Mod_keepPacket_141 : decode prog_12_method_6_code 141 = .ok (.iinc 5 (1), 3) := by decide +kernel
theorem d_Mod_keepPacket_144 : decode prog_12_method_6_code 144 = .ok (.goto (-30), 3) := by decide +kernel
theorem d_Mod_keepPacket_147 : decode prog_12_method_6_code 147 = .ok (.aload_n 0, 1) := by decide +kernel
theorem d_Mod_keepPacket_148 : decode prog_12_method_6_code 148 = .ok (.getfield 61, 3) := by decide +kernel
theorem d_Mod_keepPacket_151 : decode prog_12_method_6_code 151 = .ok (.aload_n 0, 1) := by decide +kernel
theorem d_Mod_keepPacket_152 : decode prog_12_method_6_code 152 = .ok (.getfield 58, 3) := by decide +kernel
theorem d_Mod_keepPacket_155 : decode prog_12_method_6_code 155 = .ok (.aload_n 0, 1) := by decide +kernel
theorem d_Mod_keepPacket_156 : decode prog_12_method_6_code 156 = .ok (.getfield 76, 3) := by decide +kernel
theorem d_Mod_keepPacket_159 : decode prog_12_method_6_code 159 = .ok (.iastore, 1) := by decide +kernel
theorem d_Mod_keepPacket_160 : decode prog_12_method_6_code 160 = .ok (.aload_n 0, 1) := by decide +kernel
theorem d_Mod_keepPacket_161 : decode prog_12_method_6_code 161 = .ok (.getfield 64, 3) := by decide +kernel
theorem d_Mod_keepPacket_164 : decode prog_12_method_6_code 164 = .ok (.aload_n 0, 1) := by decide +kernel
theorem d_Mod_keepPacket_165 : decode prog_12_method_6_code 165 = .ok (.getfield 58, 3) := by decide +kernel
theorem d_Mod_keepPacket_168 : decode prog_12_method_6_code 168 = .ok (.iload_n 3, 1) := by decide +kernel
theorem d_Mod_keepPacket_169 : decode prog_12_method_6_code 169 = .ok (.iastore, 1) := by decide +kernel
theorem d_Mod_keepPacket_170 : decode prog_12_method_6_code 170 = .ok (.aload_n 0, 1) := by decide +kernel
theorem d_Mod_keepPacket_171 : decode prog_12_method_6_code 171 = .ok (.getfield 73, 3) := by decide +kernel
theorem d_Mod_keepPacket_174 : decode prog_12_method_6_code 174 = .ok (.aload_n 0, 1) := by decide +kernel
theorem d_Mod_keepPacket_175 : decode prog_12_method_6_code 175 = .ok (.getfield 58, 3) := by decide +kernel
theorem d_Mod_keepPacket_178 : decode prog_12_method_6_code 178 = .ok (.iconst 0, 1) := by decide +kernel
theorem d_Mod_keepPacket_179 : decode prog_12_method_6_code 179 = .ok (.iastore, 1) := by decide +kernel
theorem d_Mod_keepPacket_180 : decode prog_12_method_6_code 180 = .ok (.aload_n 0, 1) := by decide +kernel
theorem d_Mod_keepPacket_181 : decode prog_12_method_6_code 181 = .ok (.dup, 1) := by decide +kernel
theorem d_Mod_keepPacket_182 : decode prog_12_method_6_code 182 = .ok (.getfield 76, 3) := by decide +kernel
theorem d_Mod_keepPacket_185 : decode prog_12_method_6_code 185 = .ok (.iconst 1, 1) := by decide +kernel
theorem d_Mod_keepPacket_186 : decode prog_12_method_6_code 186 = .ok (.iadd, 1) := by decide +kernel
theorem d_Mod_keepPacket_187 : decode prog_12_method_6_code 187 = .ok (.putfield 76, 3) := by decide +kernel
theorem d_Mod_keepPacket_190 : decode prog_12_method_6_code 190 = .ok (.aload_n 0, 1) := by decide +kernel
theorem d_Mod_keepPacket_191 : decode prog_12_method_6_code 191 = .ok (.dup, 1) := by decide +kernel
theorem d_Mod_keepPacket_192 : decode prog_12_method_6_code 192 = .ok (.getfield 58, 3) := by decide +kernel
theorem d_Mod_keepPacket_195 : decode prog_12_method_6_code 195 = .ok (.iconst 1, 1) := by decide +kernel
theorem d_Mod_keepPacket_196 : decode prog_12_method_6_code 196 = .ok (.iadd, 1) := by decide +kernel
theorem d_Mod_keepPacket_197 : decode prog_12_method_6_code 197 = .ok (.putfield 58, 3) := by decide +kernel
theorem d_Mod_keepPacket_200 : decode prog_12_method_6_code 200 = .ok (.aload_n 0, 1) := by decide +kernel
theorem d_Mod_keepPacket_201 : decode prog_12_method_6_code 201 = .ok (.invokevirtual 94, 3) := by decide +kernel
theorem d_Mod_keepPacket_204 : decode prog_12_method_6_code 204 = .ok (.pop, 1) := by decide +kernel
theorem d_Mod_keepPacket_205 : decode prog_12_method_6_code 205 = .ok (.return_, 1) := by decide +kernel
theorem d_Mod_drop_0 : decode prog_12_method_7_code 0 = .ok (.aload_n 0, 1) := by decide +kernel
theorem d_Mod_drop_1 : decode prog_12_method_7_code 1 = .ok (.invokevirtual 102, 3) := by decide +kernel
theorem d_Mod_drop_4 : decode prog_12_method_7_code 4 = .ok (.ifCond .ne (4), 3) := by decide +kernel
theorem d_Mod_drop_7 : decode prog_12_method_7_code 7 = .ok (.return_, 1) := by decide +kernel
theorem d_Mod_drop_8 : decode prog_12_method_7_code 8 = .ok (.aload_n 0, 1) := by decide +kernel
theorem d_Mod_drop_9 : decode prog_12_method_7_code 9 = .ok (.dup, 1) := by decide +kernel
theorem d_Mod_drop_10 : decode prog_12_method_7_code 10 = .ok (.getfield 79, 3) := by decide +kernel
theorem d_Mod_drop_13 : decode prog_12_method_7_code 13 = .ok (.iconst 1, 1) := by decide +kernel
theorem d_Mod_drop_14 : decode prog_12_method_7_code 14 = .ok (.iadd, 1) := by decide +kernel
theorem d_Mod_drop_15 : decode prog_12_method_7_code 15 = .ok (.putfield 79, 3) := by decide +kernel
theorem d_Mod_drop_18 : decode prog_12_method_7_code 18 = .ok (.aload_n 0, 1) := by decide +kernel
theorem d_Mod_drop_19 : decode prog_12_method_7_code 19 = .ok (.dup, 1) := by decide +kernel
theorem d_Mod_drop_20 : decode prog_12_method_7_code 20 = .ok (.getfield 58, 3) := by decide +kernel
theorem d_Mod_drop_23 : decode prog_12_method_7_code 23 = .ok (.iconst 1, 1) := by decide +kernel
theorem d_Mod_drop_24 : decode prog_12_method_7_code 24 = .ok (.isub, 1) := by decide +kernel
theorem d_Mod_drop_25 : decode prog_12_method_7_code 25 = .ok (.putfield 58, 3) := by decide +kernel
theorem d_Mod_drop_28 : decode prog_12_method_7_code 28 = .ok (.iload_n 1, 1) := by decide +kernel
theorem d_Mod_drop_29 : decode prog_12_method_7_code 29 = .ok (.istore_n 2, 1) := by decide +kernel
theorem d_Mod_drop_30 : decode prog_12_method_7_code 30 = .ok (.iload_n 2, 1) := by decide +kernel
theorem d_Mod_drop_31 : decode prog_12_method_7_code 31 = .ok (.aload_n 0, 1) := by decide +kernel
theorem d_Mod_drop_32 : decode prog_12_method_7_code 32 = .ok (.getfield 58, 3) := by decide +kernel
theorem d_Mod_drop_35 : decode prog_12_method_7_code 35 = .ok (.if_icmp .ge (125), 3) := by decide +kernel
theorem d_Mod_drop_38 : decode prog_12_method_7_code 38 = .ok (.aload_n 0, 1) := by decide +kernel
theorem d_Mod_drop_39 : decode prog_12_method_7_code 39 = .ok (.getfield 61, 3) := by decide +kernel
theorem d_Mod_drop_42 : decode prog_12_method_7_code 42 = .ok (.iload_n 2, 1) := by decide +kernel
theorem d_Mod_drop_43 : decode prog_12_method_7_code 43 = .ok (.aload_n 0, 1) := by decide +kernel
theorem d_Mod_drop_44 : decode prog_12_method_7_code 44 = .ok (.getfield 61, 3) := by decide +kernel
theorem d_Mod_drop_47 : decode prog_12_method_7_code 47 = .ok (.iload_n 2, 1) := by decide +kernel
theorem d_Mod_drop_48 : decode prog_12_method_7_code 48 = .ok (.iconst 1, 1) := by decide +kernel
theorem d_Mod_drop_49 : decode prog_12_method_7_code 49 = .ok (.iadd, 1) := by decide +kernel
theorem d_Mod_drop_50 : decode prog_12_method_7_code 50 = .ok (.iaload, 1) := by decide +kernel
theorem d_Mod_drop_51 : decode prog_12_method_7_code 51 = .ok (.iastore, 1) := by decide +kernel
theorem d_Mod_drop_52 : decode prog_12_method_7_code 52 = .ok (.aload_n 0, 1) := by decide +kernel
theorem d_Mod_drop_53 : decode prog_12_method_7_code 53 = .ok (.getfield 64, 3) := by decide +kernel
theorem d_Mod_drop_56 : decode prog_12_method_7_code 56 = .ok (.iload_n 2, 1) := by decide +kernel
theorem d_Mod_drop_57 : decode prog_12_method_7_code 57 = .ok (.aload_n 0, 1) := by decide +kernel
theorem d_Mod_drop_58 : decode prog_12_method_7_code 58 = .ok (.getfield 64, 3) := by decide +kernel
theorem d_Mod_drop_61 : decode prog_12_method_7_code 61 = .ok (.iload_n 2, 1) := by decide +kernel
theorem d_Mod_drop_62 : decode prog_12_method_7_code 62 = .ok (.iconst 1, 1) := by decide +kernel
theorem d_Mod_drop_63 : decode prog_12_method_7_code 63 = .ok (.iadd, 1) := by decide +kernel
theorem d_Mod_drop_64 : decode prog_12_method_7_code 64 = .ok (.iaload, 1) := by decide +kernel
theorem d_Mod_drop_65 : decode prog_12_method_7_code 65 = .ok (.iastore, 1) := by decide +kernel
theorem d_Mod_drop_66 : decode prog_12_method_7_code 66 = .ok (.aload_n 0, 1) := by decide +kernel
theorem d_Mod_drop_67 : decode prog_12_method_7_code 67 = .ok (.getfield 73, 3) := by decide +kernel
theorem d_Mod_drop_70 : decode prog_12_method_7_code 70 = .ok (.iload_n 2, 1) := by decide +kernel
theorem d_Mod_drop_71 : decode prog_12_method_7_code 71 = .ok (.aload_n 0, 1) := by decide +kernel
theorem d_Mod_drop_72 : decode prog_12_method_7_code 72 = .ok (.getfield 73, 3) := by decide +kernel
theorem d_Mod_drop_75 : decode prog_12_method_7_code 75 = .ok (.iload_n 2, 1) := by decide +kernel
theorem d_Mod_drop_76 : decode prog_12_method_7_code 76 = .ok (.iconst 1, 1) := by decide +kernel
theorem d_Mod_drop_77 : decode prog_12_method_7_code 77 = .ok (.iadd, 1) := by decide +kernel
theorem d_Mod_drop_78 : decode prog_12_method_7_code 78 = .ok (.iaload, 1) := by decide +kernel
theorem d_Mod_drop_79 : decode prog_12_method_7_code 79 = .ok (.iastore, 1) := by decide +kernel
theorem d_Mod_drop_80 : decode prog_12_method_7_code 80 = .ok (.iconst 0, 1) := by decide +kernel
theorem d_Mod_drop_81 : decode prog_12_method_7_code 81 = .ok (.istore_n 3, 1) := by decide +kernel
theorem d_Mod_drop_82 : decode prog_12_method_7_code 82 = .ok (.iload_n 3, 1) := by decide +kernel
theorem d_Mod_drop_83 : decode prog_12_method_7_code 83 = .ok (.bipush (60), 2) := by decide +kernel
theorem d_Mod_drop_85 : decode prog_12_method_7_code 85 = .ok (.if_icmp .ge (34), 3) := by decide +kernel
theorem d_Mod_drop_88 : decode prog_12_method_7_code 88 = .ok (.aload_n 0, 1) := by decide +kernel
theorem d_Mod_drop_89 : decode prog_12_method_7_code 89 = .ok (.getfield 67, 3) := by decide +kernel
theorem d_Mod_drop_92 : decode prog_12_method_7_code 92 = .ok (.bipush (60), 2) := by decide +kernel
theorem d_Mod_drop_94 : decode prog_12_method_7_code 94 = .ok (.iload_n 2, 1) := by decide +kernel
theorem d_Mod_drop_95 : decode prog_12_method_7_code 95 = .ok (.imul, 1) := by decide +kernel
theorem d_Mod_drop_96 : decode prog_12_method_7_code 96 = .ok (.iload_n 3, 1) := by decide +kernel
theorem d_Mod_drop_97 : decode prog_12_method_7_code 97 = .ok (.iadd, 1) := by decide +kernel
theorem d_Mod_drop_98 : decode prog_12_method_7_code 98 = .ok (.aload_n 0, 1) := by decide +kernel
theorem d_Mod_drop_99 : decode prog_12_method_7_code 99 = .ok (.getfield 67, 3) := by decide +kernel
theorem d_Mod_drop_102 : decode prog_12_method_7_code 102 = .ok (.bipush (60), 2) := by decide +kernel
theorem d_Mod_drop_104 : decode prog_12_method_7_code 104 = .ok (.iload_n 2, 1) := by decide +kernel
theorem d_Mod_drop_105 : decode prog_12_method_7_code 105 = .ok (.imul, 1) := by decide +kernel
theorem d_Mod_drop_106 : decode prog_12_method_7_code 106 = .ok (.bipush (60), 2) := by decide +kernel
theorem d_Mod_drop_108 : decode prog_12_method_7_code 108 = .ok (.iadd, 1) := by decide +kernel
theorem d_Mod_drop_109 : decode prog_12_method_7_code 109 = .ok (.iload_n 3, 1) := by decide +kernel
theorem d_Mod_drop_110 : decode prog_12_method_7_code 110 = .ok (.iadd, 1) := by decide +kernel
theorem d_Mod_drop_111 : decode prog_12_method_7_code 111 = .ok (.iaload, 1) := by decide +kernel
theorem d_Mod_drop_112 : decode prog_12_method_7_code 112 = .ok (.iastore, 1) := by decide +kernel
theorem d_Mod_drop_113 : decode prog_12_method_7_code 113 = .ok (.iinc 3 (1), 3) := by decide +kernel
theorem d_Mod_drop_116 : decode prog_12_method_7_code 116 = .ok (.goto (-34), 3) := by decide +kernel
theorem d_Mod_drop_119 : decode prog_12_method_7_code 119 = .ok (.iconst 0, 1) := by decide +kernel
theorem d_Mod_drop_120 : decode prog_12_method_7_code 120 = .ok (.istore_n 3, 1) := by decide +kernel
theorem d_Mod_drop_121 : decode prog_12_method_7_code 121 = .ok (.iload_n 3, 1) := by decide +kernel
theorem d_Mod_drop_122 : decode prog_12_method_7_code 122 = .ok (.iconst 3, 1) := by decide +kernel
theorem d_Mod_drop_123 : decode prog_12_method_7_code 123 = .ok (.if_icmp .ge (31), 3) := by decide +kernel
theorem d_Mod_drop_126 : decode prog_12_method_7_code 126 = .ok (.aload_n 0, 1) := by decide +kernel
theorem d_Mod_drop_127 : decode prog_12_method_7_code 127 = .ok (.getfield 70, 3) := by decide +kernel
theorem d_Mod_drop_130 : decode prog_12_method_7_code 130 = .ok (.iconst 3, 1) := by decide +kernel
theorem d_Mod_drop_131 : decode prog_12_method_7_code 131 = .ok (.iload_n 2, 1) := by decide +kernel
theorem d_Mod_drop_132 : decode prog_12_method_7_code 132 = .ok (.imul, 1) := by decide +kernel
theorem d_Mod_drop_133 : decode prog_12_method_7_code 133 = .ok (.iload_n 3, 1) := by decide +kernel
theorem d_Mod_drop_134 : decode prog_12_method_7_code 134 = .ok (.iadd, 1) := by decide +kernel
theorem d_Mod_drop_135 : decode prog_12_method_7_code 135 = .ok (.aload_n 0, 1) := by decide +kernel
theorem d_Mod_drop_136 : decode prog_12_method_7_code 136 = .ok (.getfield 70, 3) := by decide +kernel
theorem d_Mod_drop_139 : decode prog_12_method_7_code 139 = .ok (.iconst 3, 1) := by decide +kernel
theorem d_Mod_drop_140 : decode prog_12_method_7_code 140 = .ok (.iload_n 2, 1) := by decide +kernel
theorem d_Mod_drop_141 : decode prog_12_method_7_code 141 = .ok (.imul, 1) := by decide +kernel
theorem d_Mod_drop_142 : decode prog_12_method_7_code 142 = .ok (.iconst 3, 1) := by decide +kernel
theorem d_Mod_drop_143 : decode prog_12_method_7_code 143 = .ok (.iadd, 1) := by decide +kernel
theorem d_Mod_drop_144 : decode prog_12_method_7_code 144 = .ok (.iload_n 3, 1) := by decide +kernel
theorem d_Mod_drop_145 : decode prog_12_method_7_code 145 = .ok (.iadd, 1) := by decide +kernel
theorem d_Mod_drop_146 : decode prog_12_method_7_code 146 = .ok (.iaload, 1) := by decide +kernel
theorem d_Mod_drop_147 : decode prog_12_method_7_code 147 = .ok (.iastore, 1) := by decide +kernel
theorem d_Mod_drop_148 : decode prog_12_method_7_code 148 = .ok (.iinc 3 (1), 3) := by decide +kernel
theorem d_Mod_drop_151 : decode prog_12_method_7_code 151 = .ok (.goto (-30), 3) := by decide +kernel
theorem d_Mod_drop_154 : decode prog_12_method_7_code 154 = .ok (.iinc 2 (1), 3) := by decide +kernel
theorem d_Mod_drop_157 : decode prog_12_method_7_code 157 = .ok (.goto (-127), 3) := by decide +kernel
theorem d_Mod_drop_160 : decode prog_12_method_7_code 160 = .ok (.aload_n 0, 1) := by decide +kernel
theorem d_Mod_drop_161 : decode prog_12_method_7_code 161 = .ok (.invokevirtual 94, 3) := by decide +kernel
theorem d_Mod_drop_164 : decode prog_12_method_7_code 164 = .ok (.pop, 1) := by decide +kernel
theorem d_Mod_drop_165 : decode prog_12_method_7_code 165 = .ok (.return_, 1) := by decide +kernel
theorem d_Mod_packetAt_0 : decode prog_12_method_8_code 0 = .ok (.iload_n 1, 1) := by decide +kernel
theorem d_Mod_packetAt_1 : decode prog_12_method_8_code 1 = .ok (.bipush (7), 2) := by decide +kernel
theorem d_Mod_packetAt_3 : decode prog_12_method_8_code 3 = .ok (.iadd, 1) := by decide +kernel
theorem d_Mod_packetAt_4 : decode prog_12_method_8_code 4 = .ok (.iload_n 2, 1) := by decide +kernel
theorem d_Mod_packetAt_5 : decode prog_12_method_8_code 5 = .ok (.if_icmp .gt (19), 3) := by decide +kernel
theorem d_Mod_packetAt_8 : decode prog_12_method_8_code 8 = .ok (.aload_n 0, 1) := by decide +kernel
theorem d_Mod_packetAt_9 : decode prog_12_method_8_code 9 = .ok (.iload_n 1, 1) := by decide +kernel
theorem d_Mod_packetAt_10 : decode prog_12_method_8_code 10 = .ok (.iaload, 1) := by decide +kernel
theorem d_Mod_packetAt_11 : decode prog_12_method_8_code 11 = .ok (.bipush (8), 2) := by decide +kernel
theorem d_Mod_packetAt_13 : decode prog_12_method_8_code 13 = .ok (.if_icmp .lt (11), 3) := by decide +kernel
theorem d_Mod_packetAt_16 : decode prog_12_method_8_code 16 = .ok (.aload_n 0, 1) := by decide +kernel
theorem d_Mod_packetAt_17 : decode prog_12_method_8_code 17 = .ok (.iload_n 1, 1) := by decide +kernel
theorem d_Mod_packetAt_18 : decode prog_12_method_8_code 18 = .ok (.iaload, 1) := by decide +kernel
theorem d_Mod_packetAt_19 : decode prog_12_method_8_code 19 = .ok (.bipush (15), 2) := by decide +kernel
theorem d_Mod_packetAt_21 : decode prog_12_method_8_code 21 = .ok (.if_icmp .le (5), 3) := by decide +kernel
theorem d_Mod_packetAt_24 : decode prog_12_method_8_code 24 = .ok (.iconst 0, 1) := by decide +kernel
theorem d_Mod_packetAt_25 : decode prog_12_method_8_code 25 = .ok (.ireturn, 1) := by decide +kernel
theorem d_Mod_packetAt_26 : decode prog_12_method_8_code 26 = .ok (.aload_n 0, 1) := by decide +kernel
theorem d_Mod_packetAt_27 : decode prog_12_method_8_code 27 = .ok (.iload_n 1, 1) := by decide +kernel
theorem d_Mod_packetAt_28 : decode prog_12_method_8_code 28 = .ok (.iconst 4, 1) := by decide +kernel
theorem d_Mod_packetAt_29 : decode prog_12_method_8_code 29 = .ok (.iadd, 1) := by decide +kernel
theorem d_Mod_packetAt_30 : decode prog_12_method_8_code 30 = .ok (.iaload, 1) := by decide +kernel
theorem d_Mod_packetAt_31 : decode prog_12_method_8_code 31 = .ok (.sipush (256), 3) := by decide +kernel
theorem d_Mod_packetAt_34 : decode prog_12_method_8_code 34 = .ok (.imul, 1) := by decide +kernel
theorem d_Mod_packetAt_35 : decode prog_12_method_8_code 35 = .ok (.aload_n 0, 1) := by decide +kernel
theorem d_Mod_packetAt_36 : decode prog_12_method_8_code 36 = .ok (.iload_n 1, 1) := by decide +kernel
theorem d_Mod_packetAt_37 : decode prog_12_method_8_code 37 = .ok (.iconst 5, 1) := by decide +kernel
theorem d_Mod_packetAt_38 : decode prog_12_method_8_code 38 = .ok (.iadd, 1) := by decide +kernel
theorem d_Mod_packetAt_39 : decode prog_12_method_8_code 39 = .ok (.iaload, 1) := by decide +kernel
theorem d_Mod_packetAt_40 : decode prog_12_method_8_code 40 = .ok (.iadd, 1) := by decide +kernel
theorem d_Mod_packetAt_41 : decode prog_12_method_8_code 41 = .ok (.bipush (7), 2) := by decide +kernel
theorem d_Mod_packetAt_43 : decode prog_12_method_8_code 43 = .ok (.iadd, 1) := by decide +kernel
theorem d_Mod_packetAt_44 : decode prog_12_method_8_code 44 = .ok (.istore_n 3, 1) := by decide +kernel
theorem d_Mod_packetAt_45 : decode prog_12_method_8_code 45 = .ok (.iload_n 3, 1) := by decide +kernel
theorem d_Mod_packetAt_46 : decode prog_12_method_8_code 46 = .ok (.bipush (60), 2) := by decide +kernel
theorem d_Mod_packetAt_48 : decode prog_12_method_8_code 48 = .ok (.if_icmp .gt (14), 3) := by decide +kernel
theorem d_Mod_packetAt_51 : decode prog_12_method_8_code 51 = .ok (.iload_n 1, 1) := by decide +kernel
theorem d_Mod_packetAt_52 : decode prog_12_method_8_code 52 = .ok (.iload_n 3, 1) := by decide +kernel
theorem d_Mod_packetAt_53 : decode prog_12_method_8_code 53 = .ok (.iadd, 1) := by decide +kernel
theorem d_Mod_packetAt_54 : decode prog_12_method_8_code 54 = .ok (.iload_n 2, 1) := by decide +kernel
theorem d_Mod_packetAt_55 : decode prog_12_method_8_code 55 = .ok (.if_icmp .gt (7), 3) := by decide +kernel
theorem d_Mod_packetAt_58 : decode prog_12_method_8_code 58 = .ok (.iload_n 3, 1) := by decide +kernel
theorem d_Mod_packetAt_59 : decode prog_12_method_8_code 59 = .ok (.goto (4), 3) := by decide +kernel
theorem d_Mod_packetAt_62 : decode prog_12_method_8_code 62 = .ok (.iconst 0, 1) := by decide +kernel
theorem d_Mod_packetAt_63 : decode prog_12_method_8_code 63 = .ok (.ireturn, 1) := by decide +kernel
theorem d_Mod_blocksOf_0 : decode prog_12_method_9_code 0 = .ok (.iload_n 0, 1) := by decide +kernel
theorem d_Mod_blocksOf_1 : decode prog_12_method_9_code 1 = .ok (.bipush (19), 2) := by decide +kernel
theorem d_Mod_blocksOf_3 : decode prog_12_method_9_code 3 = .ok (.iadd, 1) := by decide +kernel
theorem d_Mod_blocksOf_4 : decode prog_12_method_9_code 4 = .ok (.bipush (20), 2) := by decide +kernel
theorem d_Mod_blocksOf_6 : decode prog_12_method_9_code 6 = .ok (.idiv, 1) := by decide +kernel
theorem d_Mod_blocksOf_7 : decode prog_12_method_9_code 7 = .ok (.ireturn, 1) := by decide +kernel
theorem d_Mod_packetsIn_0 : decode prog_12_method_10_code 0 = .ok (.iconst 0, 1) := by decide +kernel
theorem d_Mod_packetsIn_1 : decode prog_12_method_10_code 1 = .ok (.istore 4, 2) := by decide +kernel
theorem d_Mod_packetsIn_3 : decode prog_12_method_10_code 3 = .ok (.iload_n 1, 1) := by decide +kernel
theorem d_Mod_packetsIn_4 : decode prog_12_method_10_code 4 = .ok (.istore 5, 2) := by decide +kernel
theorem d_Mod_packetsIn_6 : decode prog_12_method_10_code 6 = .ok (.aload_n 0, 1) := by decide +kernel
theorem d_Mod_packetsIn_7 : decode prog_12_method_10_code 7 = .ok (.getfield 27, 3) := by decide +kernel
theorem d_Mod_packetsIn_10 : decode prog_12_method_10_code 10 = .ok (.iload 5, 2) := by decide +kernel
theorem d_Mod_packetsIn_12 : decode prog_12_method_10_code 12 = .ok (.iload_n 2, 1) := by decide +kernel
theorem d_Mod_packetsIn_13 : decode prog_12_method_10_code 13 = .ok (.invokestatic 105, 3) := by decide +kernel
theorem d_Mod_packetsIn_16 : decode prog_12_method_10_code 16 = .ok (.istore 6, 2) := by decide +kernel
theorem d_Mod_packetsIn_18 : decode prog_12_method_10_code 18 = .ok (.iload 6, 2) := by decide +kernel
theorem d_Mod_packetsIn_20 : decode prog_12_method_10_code 20 = .ok (.ifCond .le (35), 3) := by decide +kernel
theorem d_Mod_packetsIn_23 : decode prog_12_method_10_code 23 = .ok (.iload 4, 2) := by decide +kernel
theorem d_Mod_packetsIn_25 : decode prog_12_method_10_code 25 = .ok (.iload 6, 2) := by decide +kernel
theorem d_Mod_packetsIn_27 : decode prog_12_method_10_code 27 = .ok (.invokestatic 109, 3) := by decide +kernel
theorem d_Mod_packetsIn_30 : decode prog_12_method_10_code 30 = .ok (.iadd, 1) := by decide +kernel
theorem d_Mod_packetsIn_31 : decode prog_12_method_10_code 31 = .ok (.istore 4, 2) := by decide +kernel
theorem d_Mod_packetsIn_33 : decode prog_12_method_10_code 33 = .ok (.iload 5, 2) := by decide +kernel
theorem d_Mod_packetsIn_35 : decode prog_12_method_10_code 35 = .ok (.iload 6, 2) := by decide +kernel
theorem d_Mod_packetsIn_37 : decode prog_12_method_10_code 37 = .ok (.iadd, 1) := by decide +kernel
theorem d_Mod_packetsIn_38 : decode prog_12_method_10_code 38 = .ok (.istore 5, 2) := by decide +kernel
theorem d_Mod_packetsIn_40 : decode prog_12_method_10_code 40 = .ok (.aload_n 0, 1) := by decide +kernel
theorem d_Mod_packetsIn_41 : decode prog_12_method_10_code 41 = .ok (.getfield 27, 3) := by decide +kernel
theorem d_Mod_packetsIn_44 : decode prog_12_method_10_code 44 = .ok (.iload 5, 2) := by decide +kernel
theorem d_Mod_packetsIn_46 : decode prog_12_method_10_code 46 = .ok (.iload_n 2, 1) := by decide +kernel
theorem d_Mod_packetsIn_47 : decode prog_12_method_10_code 47 = .ok (.invokestatic 105, 3) := by decide +kernel
theorem d_Mod_packetsIn_50 : decode prog_12_method_10_code 50 = .ok (.istore 6, 2) := by decide +kernel
theorem d_Mod_packetsIn_52 : decode prog_12_method_10_code 52 = .ok (.goto (-34), 3) := by decide +kernel
theorem d_Mod_packetsIn_55 : decode prog_12_method_10_code 55 = .ok (.iload_n 3, 1) := by decide +kernel
theorem d_Mod_packetsIn_56 : decode prog_12_method_10_code 56 = .ok (.ifCond .eq (14), 3) := by decide +kernel
theorem d_Mod_packetsIn_59 : decode prog_12_method_10_code 59 = .ok (.iload 4, 2) := by decide +kernel
theorem d_Mod_packetsIn_61 : decode prog_12_method_10_code 61 = .ok (.aload_n 0, 1) := by decide +kernel
theorem d_Mod_packetsIn_62 : decode prog_12_method_10_code 62 = .ok (.invokevirtual 113, 3) := by decide +kernel
theorem d_Mod_packetsIn_65 : decode prog_12_method_10_code 65 = .ok (.if_icmp .le (5), 3) := by decide +kernel
theorem d_Mod_packetsIn_68 : decode prog_12_method_10_code 68 = .ok (.iconst 0, 1) := by decide +kernel
theorem d_Mod_packetsIn_69 : decode prog_12_method_10_code 69 = .ok (.ireturn, 1) := by decide +kernel
theorem d_Mod_packetsIn_70 : decode prog_12_method_10_code 70 = .ok (.iload_n 1, 1) := by decide +kernel
theorem d_Mod_packetsIn_71 : decode prog_12_method_10_code 71 = .ok (.istore 5, 2) := by decide +kernel
theorem d_Mod_packetsIn_73 : decode prog_12_method_10_code 73 = .ok (.aload_n 0, 1) := by decide +kernel
theorem d_Mod_packetsIn_74 : decode prog_12_method_10_code 74 = .ok (.getfield 27, 3) := by decide +kernel
theorem d_Mod_packetsIn_77 : decode prog_12_method_10_code 77 = .ok (.iload 5, 2) := by decide +kernel
theorem d_Mod_packetsIn_79 : decode prog_12_method_10_code 79 = .ok (.iload_n 2, 1) := by decide +kernel
theorem d_Mod_packetsIn_80 : decode prog_12_method_10_code 80 = .ok (.invokestatic 105, 3) := by decide +kernel
theorem d_Mod_packetsIn_83 : decode prog_12_method_10_code 83 = .ok (.istore 6, 2) := by decide +kernel
theorem d_Mod_packetsIn_85 : decode prog_12_method_10_code 85 = .ok (.iload 6, 2) := by decide +kernel
theorem d_Mod_packetsIn_87 : decode prog_12_method_10_code 87 = .ok (.ifCond .le (56), 3) := by decide +kernel
theorem d_Mod_packetsIn_90 : decode prog_12_method_10_code 90 = .ok (.aload_n 0, 1) := by decide +kernel
theorem d_Mod_packetsIn_91 : decode prog_12_method_10_code 91 = .ok (.getfield 20, 3) := by decide +kernel
theorem d_Mod_packetsIn_94 : decode prog_12_method_10_code 94 = .ok (.ifCond .ne (49), 3) := by decide +kernel
theorem d_Mod_packetsIn_97 : decode prog_12_method_10_code 97 = .ok (.iload 6, 2) := by decide +kernel
theorem d_Mod_packetsIn_99 : decode prog_12_method_10_code 99 = .ok (.invokestatic 109, 3) := by decide +kernel
theorem d_Mod_packetsIn_102 : decode prog_12_method_10_code 102 = .ok (.aload_n 0, 1) := by decide +kernel
theorem d_Mod_packetsIn_103 : decode prog_12_method_10_code 103 = .ok (.invokevirtual 113, 3) := by decide +kernel
theorem d_Mod_packetsIn_106 : decode prog_12_method_10_code 106 = .ok (.if_icmp .gt (15), 3) := by decide +kernel
theorem d_Mod_packetsIn_109 : decode prog_12_method_10_code 109 = .ok (.aload_n 0, 1) := by decide +kernel
theorem d_Mod_packetsIn_110 : decode prog_12_method_10_code 110 = .ok (.aload_n 0, 1) := by decide +kernel
theorem d_Mod_packetsIn_111 : decode prog_12_method_10_code 111 = .ok (.getfield 27, 3) := by decide +kernel
theorem d_Mod_packetsIn_114 : decode prog_12_method_10_code 114 = .ok (.iload 5, 2) := by decide +kernel
theorem d_Mod_packetsIn_116 : decode prog_12_method_10_code 116 = .ok (.iload 6, 2) := by decide +kernel
theorem d_Mod_packetsIn_118 : decode prog_12_method_10_code 118 = .ok (.invokevirtual 117, 3) := by decide +kernel
theorem d_Mod_packetsIn_121 : decode prog_12_method_10_code 121 = .ok (.iload 5, 2) := by decide +kernel
theorem d_Mod_packetsIn_123 : decode prog_12_method_10_code 123 = .ok (.iload 6, 2) := by decide +kernel
theorem d_Mod_packetsIn_125 : decode prog_12_method_10_code 125 = .ok (.iadd, 1) := by decide +kernel
theorem d_Mod_packetsIn_126 : decode prog_12_method_10_code 126 = .ok (.istore 5, 2) := by decide +kernel
theorem d_Mod_packetsIn_128 : decode prog_12_method_10_code 128 = .ok (.aload_n 0, 1) := by decide +kernel
theorem d_Mod_packetsIn_129 : decode prog_12_method_10_code 129 = .ok (.getfield 27, 3) := by decide +kernel
theorem d_Mod_packetsIn_132 : decode prog_12_method_10_code 132 = .ok (.iload 5, 2) := by decide +kernel
theorem d_Mod_packetsIn_134 : decode prog_12_method_10_code 134 = .ok (.iload_n 2, 1) := by decide +kernel
theorem d_Mod_packetsIn_135 : decode prog_12_method_10_code 135 = .ok (.invokestatic 105, 3) := by decide +kernel
theorem d_Mod_packetsIn_138 : decode prog_12_method_10_code 138 = .ok (.istore 6, 2) := by decide +kernel
theorem d_Mod_packetsIn_140 : decode prog_12_method_10_code 140 = .ok (.goto (-55), 3) := by decide +kernel
theorem d_Mod_packetsIn_143 : decode prog_12_method_10_code 143 = .ok (.iconst 1, 1) := by decide +kernel
theorem d_Mod_packetsIn_144 : decode prog_12_method_10_code 144 = .ok (.ireturn, 1) := by decide +kernel
theorem d_Mod_goesOn_0 : decode prog_12_method_11_code 0 = .ok (.aload_n 0, 1) := by decide +kernel
theorem d_Mod_goesOn_1 : decode prog_12_method_11_code 1 = .ok (.getfield 48, 3) := by decide +kernel
theorem d_Mod_goesOn_4 : decode prog_12_method_11_code 4 = .ok (.iload_n 1, 1) := by decide +kernel
theorem d_Mod_goesOn_5 : decode prog_12_method_11_code 5 = .ok (.baload, 1) := by decide +kernel
theorem d_Mod_goesOn_6 : decode prog_12_method_11_code 6 = .ok (.ifCond .eq (18), 3) := by decide +kernel
theorem d_Mod_goesOn_9 : decode prog_12_method_11_code 9 = .ok (.aload_n 0, 1) := by decide +kernel
theorem d_Mod_goesOn_10 : decode prog_12_method_11_code 10 = .ok (.getfield 52, 3) := by decide +kernel
theorem d_Mod_goesOn_13 : decode prog_12_method_11_code 13 = .ok (.iload_n 1, 1) := by decide +kernel
theorem d_Mod_goesOn_14 : decode prog_12_method_11_code 14 = .ok (.iaload, 1) := by decide +kernel
theorem d_Mod_goesOn_15 : decode prog_12_method_11_code 15 = .ok (.iload_n 3, 1) := by decide +kernel
theorem d_Mod_goesOn_16 : decode prog_12_method_11_code 16 = .ok (.iadd, 1) := by decide +kernel
theorem d_Mod_goesOn_17 : decode prog_12_method_11_code 17 = .ok (.iload_n 2, 1) := by decide +kernel
theorem d_Mod_goesOn_18 : decode prog_12_method_11_code 18 = .ok (.isub, 1) := by decide +kernel
theorem d_Mod_goesOn_19 : decode prog_12_method_11_code 19 = .ok (.bipush (60), 2) := by decide +kernel
theorem d_Mod_goesOn_21 : decode prog_12_method_11_code 21 = .ok (.if_icmp .le (12), 3) := by decide +kernel
theorem d_Mod_goesOn_24 : decode prog_12_method_11_code 24 = .ok (.aload_n 0, 1) := by decide +kernel
theorem d_Mod_goesOn_25 : decode prog_12_method_11_code 25 = .ok (.getfield 48, 3) := by decide +kernel
theorem d_Mod_goesOn_28 : decode prog_12_method_11_code 28 = .ok (.iload_n 1, 1) := by decide +kernel
theorem d_Mod_goesOn_29 : decode prog_12_method_11_code 29 = .ok (.iconst 0, 1) := by decide +kernel
theorem d_Mod_goesOn_30 : decode prog_12_method_11_code 30 = .ok (.bastore, 1) := by decide +kernel
theorem d_Mod_goesOn_31 : decode prog_12_method_11_code 31 = .ok (.iconst 0, 1) := by decide +kernel
theorem d_Mod_goesOn_32 : decode prog_12_method_11_code 32 = .ok (.ireturn, 1) := by decide +kernel
theorem d_Mod_goesOn_33 : decode prog_12_method_11_code 33 = .ok (.iload_n 2, 1) := by decide +kernel
theorem d_Mod_goesOn_34 : decode prog_12_method_11_code 34 = .ok (.istore 4, 2) := by decide +kernel
theorem d_Mod_goesOn_36 : decode prog_12_method_11_code 36 = .ok (.iload 4, 2) := by decide +kernel
theorem d_Mod_goesOn_38 : decode prog_12_method_11_code 38 = .ok (.iload_n 3, 1) := by decide +kernel
theorem d_Mod_goesOn_39 : decode prog_12_method_11_code 39 = .ok (.if_icmp .ge (46), 3) := by decide +kernel
theorem d_Mod_goesOn_42 : decode prog_12_method_11_code 42 = .ok (.aload_n 0, 1) := by decide +kernel
theorem d_Mod_goesOn_43 : decode prog_12_method_11_code 43 = .ok (.getfield 55, 3) := by decide +kernel
theorem d_Mod_goesOn_46 : decode prog_12_method_11_code 46 = .ok (.bipush (60), 2) := by decide +kernel
theorem d_Mod_goesOn_48 : decode prog_12_method_11_code 48 = .ok (.iload_n 1, 1) := by decide +kernel
theorem d_Mod_goesOn_49 : decode prog_12_method_11_code 49 = .ok (.imul, 1) := by decide +kernel
theorem d_Mod_goesOn_50 : decode prog_12_method_11_code 50 = .ok (.aload_n 0, 1) := by decide +kernel
theorem d_Mod_goesOn_51 : decode prog_12_method_11_code 51 = .ok (.getfield 52, 3) := by decide +kernel
theorem d_Mod_goesOn_54 : decode prog_12_method_11_code 54 = .ok (.iload_n 1, 1) := by decide +kernel
theorem d_Mod_goesOn_55 : decode prog_12_method_11_code 55 = .ok (.iaload, 1) := by decide +kernel
theorem d_Mod_goesOn_56 : decode prog_12_method_11_code 56 = .ok (.iadd, 1) := by decide +kernel
theorem d_Mod_goesOn_57 : decode prog_12_method_11_code 57 = .ok (.aload_n 0, 1) := by decide +kernel
theorem d_Mod_goesOn_58 : decode prog_12_method_11_code 58 = .ok (.getfield 27, 3) := by decide +kernel
theorem d_Mod_goesOn_61 : decode prog_12_method_11_code 61 = .ok (.iload 4, 2) := by decide +kernel
theorem d_Mod_goesOn_63 : decode prog_12_method_11_code 63 = .ok (.iaload, 1) := by decide +kernel
theorem d_Mod_goesOn_64 : decode prog_12_method_11_code 64 = .ok (.iastore, 1) := by decide +kernel
theorem d_Mod_goesOn_65 : decode prog_12_method_11_code 65 = .ok (.aload_n 0, 1) := by decide +kernel
theorem d_Mod_goesOn_66 : decode prog_12_method_11_code 66 = .ok (.getfield 52, 3) := by decide +kernel
theorem d_Mod_goesOn_69 : decode prog_12_method_11_code 69 = .ok (.iload_n 1, 1) := by decide +kernel
theorem d_Mod_goesOn_70 : decode prog_12_method_11_code 70 = .ok (.aload_n 0, 1) := by decide +kernel
theorem d_Mod_goesOn_71 : decode prog_12_method_11_code 71 = .ok (.getfield 52, 3) := by decide +kernel
theorem d_Mod_goesOn_74 : decode prog_12_method_11_code 74 = .ok (.iload_n 1, 1) := by decide +kernel
theorem d_Mod_goesOn_75 : decode prog_12_method_11_code 75 = .ok (.iaload, 1) := by decide +kernel
theorem d_Mod_goesOn_76 : decode prog_12_method_11_code 76 = .ok (.iconst 1, 1) := by decide +kernel
theorem d_Mod_goesOn_77 : decode prog_12_method_11_code 77 = .ok (.iadd, 1) := by decide +kernel
theorem d_Mod_goesOn_78 : decode prog_12_method_11_code 78 = .ok (.iastore, 1) := by decide +kernel
theorem d_Mod_goesOn_79 : decode prog_12_method_11_code 79 = .ok (.iinc 4 (1), 3) := by decide +kernel
theorem d_Mod_goesOn_82 : decode prog_12_method_11_code 82 = .ok (.goto (-46), 3) := by decide +kernel
theorem d_Mod_goesOn_85 : decode prog_12_method_11_code 85 = .ok (.iconst 1, 1) := by decide +kernel
theorem d_Mod_goesOn_86 : decode prog_12_method_11_code 86 = .ok (.ireturn, 1) := by decide +kernel
theorem d_Mod_segmentIn_0 : decode prog_12_method_12_code 0 = .ok (.iload_n 1, 1) := by decide +kernel
theorem d_Mod_segmentIn_1 : decode prog_12_method_12_code 1 = .ok (.iload_n 2, 1) := by decide +kernel
theorem d_Mod_segmentIn_2 : decode prog_12_method_12_code 2 = .ok (.if_icmp .eq (16), 3) := by decide +kernel
theorem d_Mod_segmentIn_5 : decode prog_12_method_12_code 5 = .ok (.aload_n 0, 1) := by decide +kernel
theorem d_Mod_segmentIn_6 : decode prog_12_method_12_code 6 = .ok (.getfield 27, 3) := by decide +kernel
theorem d_Mod_segmentIn_9 : decode prog_12_method_12_code 9 = .ok (.iload_n 1, 1) := by decide +kernel
theorem d_Mod_segmentIn_10 : decode prog_12_method_12_code 10 = .ok (.iaload, 1) := by decide +kernel
theorem d_Mod_segmentIn_11 : decode prog_12_method_12_code 11 = .ok (.bipush (63), 2) := by decide +kernel
theorem d_Mod_segmentIn_13 : decode prog_12_method_12_code 13 = .ok (.iand, 1) := by decide +kernel
theorem d_Mod_segmentIn_14 : decode prog_12_method_12_code 14 = .ok (.iconst 3, 1) := by decide +kernel
theorem d_Mod_segmentIn_15 : decode prog_12_method_12_code 15 = .ok (.if_icmp .le (5), 3) := by decide +kernel
theorem d_Mod_segmentIn_18 : decode prog_12_method_12_code 18 = .ok (.iconst 1, 1) := by decide +kernel
theorem d_Mod_segmentIn_19 : decode prog_12_method_12_code 19 = .ok (.ireturn, 1) := by decide +kernel
theorem d_Mod_segmentIn_20 : decode prog_12_method_12_code 20 = .ok (.aload_n 0, 1) := by decide +kernel
theorem d_Mod_segmentIn_21 : decode prog_12_method_12_code 21 = .ok (.getfield 27, 3) := by decide +kernel
theorem d_Mod_segmentIn_24 : decode prog_12_method_12_code 24 = .ok (.iload_n 1, 1) := by decide +kernel
theorem d_Mod_segmentIn_25 : decode prog_12_method_12_code 25 = .ok (.iaload, 1) := by decide +kernel
theorem d_Mod_segmentIn_26 : decode prog_12_method_12_code 26 = .ok (.bipush (63), 2) := by decide +kernel
theorem d_Mod_segmentIn_28 : decode prog_12_method_12_code 28 = .ok (.iand, 1) := by decide +kernel
theorem d_Mod_segmentIn_29 : decode prog_12_method_12_code 29 = .ok (.istore 4, 2) := by decide +kernel
theorem d_Mod_segmentIn_31 : decode prog_12_method_12_code 31 = .ok (.aload_n 0, 1) := by decide +kernel
theorem d_Mod_segmentIn_32 : decode prog_12_method_12_code 32 = .ok (.getfield 27, 3) := by decide +kernel
theorem d_Mod_segmentIn_35 : decode prog_12_method_12_code 35 = .ok (.iload_n 1, 1) := by decide +kernel
theorem d_Mod_segmentIn_36 : decode prog_12_method_12_code 36 = .ok (.iaload, 1) := by decide +kernel
theorem d_Mod_segmentIn_37 : decode prog_12_method_12_code 37 = .ok (.bipush (6), 2) := by decide +kernel
theorem d_Mod_segmentIn_39 : decode prog_12_method_12_code 39 = .ok (.ishr, 1) := by decide +kernel
theorem d_Mod_segmentIn_40 : decode prog_12_method_12_code 40 = .ok (.istore 5, 2) := by decide +kernel
theorem d_Mod_segmentIn_42 : decode prog_12_method_12_code 42 = .ok (.aload_n 0, 1) := by decide +kernel
theorem d_Mod_segmentIn_43 : decode prog_12_method_12_code 43 = .ok (.getfield 48, 3) := by decide +kernel
theorem d_Mod_segmentIn_46 : decode prog_12_method_12_code 46 = .ok (.iload 4, 2) := by decide +kernel
theorem d_Mod_segmentIn_48 : decode prog_12_method_12_code 48 = .ok (.baload, 1) := by decide +kernel
theorem d_Mod_segmentIn_49 : decode prog_12_method_12_code 49 = .ok (.istore 6, 2) := by decide +kernel
theorem d_Mod_segmentIn_51 : decode prog_12_method_12_code 51 = .ok (.aload_n 0, 1) := by decide +kernel
theorem d_Mod_segmentIn_52 : decode prog_12_method_12_code 52 = .ok (.getfield 52, 3) := by decide +kernel
theorem d_Mod_segmentIn_55 : decode prog_12_method_12_code 55 = .ok (.iload 4, 2) := by decide +kernel
theorem d_Mod_segmentIn_57 : decode prog_12_method_12_code 57 = .ok (.iaload, 1) := by decide +kernel
theorem d_Mod_segmentIn_58 : decode prog_12_method_12_code 58 = .ok (.istore 7, 2) := by decide +kernel
theorem d_Mod_segmentIn_60 : decode prog_12_method_12_code 60 = .ok (.iload 5, 2) := by decide +kernel
theorem d_Mod_segmentIn_62 : decode prog_12_method_12_code 62 = .ok (.iconst 3, 1) := by decide +kernel
theorem d_Mod_segmentIn_63 : decode prog_12_method_12_code 63 = .ok (.if_icmp .ne (97), 3) := by decide +kernel
theorem d_Mod_segmentIn_66 : decode prog_12_method_12_code 66 = .ok (.aload_n 0, 1) := by decide +kernel
theorem d_Mod_segmentIn_67 : decode prog_12_method_12_code 67 = .ok (.getfield 27, 3) := by decide +kernel
theorem d_Mod_segmentIn_70 : decode prog_12_method_12_code 70 = .ok (.iload_n 1, 1) := by decide +kernel
theorem d_Mod_segmentIn_71 : decode prog_12_method_12_code 71 = .ok (.iconst 1, 1) := by decide +kernel
theorem d_Mod_segmentIn_72 : decode prog_12_method_12_code 72 = .ok (.iadd, 1) := by decide +kernel
theorem d_Mod_segmentIn_73 : decode prog_12_method_12_code 73 = .ok (.iload_n 2, 1) := by decide +kernel
theorem d_Mod_segmentIn_74 : decode prog_12_method_12_code 74 = .ok (.invokestatic 105, 3) := by decide +kernel
theorem d_Mod_segmentIn_77 : decode prog_12_method_12_code 77 = .ok (.istore 8, 2) := by decide +kernel
theorem d_Mod_segmentIn_79 : decode prog_12_method_12_code 79 = .ok (.iload 8, 2) := by decide +kernel
theorem d_Mod_segmentIn_81 : decode prog_12_method_12_code 81 = .ok (.iload_n 2, 1) := by decide +kernel
theorem d_Mod_segmentIn_82 : decode prog_12_method_12_code 82 = .ok (.iload_n 1, 1) := by decide +kernel
theorem d_Mod_segmentIn_83 : decode prog_12_method_12_code 83 = .ok (.isub, 1) := by decide +kernel
theorem d_Mod_segmentIn_84 : decode prog_12_method_12_code 84 = .ok (.iconst 1, 1) := by decide +kernel
theorem d_Mod_segmentIn_85 : decode prog_12_method_12_code 85 = .ok (.isub, 1) := by decide +kernel
theorem d_Mod_segmentIn_86 : decode prog_12_method_12_code 86 = .ok (.if_icmp .ne (64), 3) := by decide +kernel
theorem d_Mod_segmentIn_89 : decode prog_12_method_12_code 89 = .ok (.iload 8, 2) := by decide +kernel
theorem d_Mod_segmentIn_91 : decode prog_12_method_12_code 91 = .ok (.ifCond .le (59), 3) := by decide +kernel
theorem d_Mod_segmentIn_94 : decode prog_12_method_12_code 94 = .ok (.iload 8, 2) := by decide +kernel
theorem d_Mod_segmentIn_96 : decode prog_12_method_12_code 96 = .ok (.invokestatic 109, 3) := by decide +kernel
theorem d_Mod_segmentIn_99 : decode prog_12_method_12_code 99 = .ok (.aload_n 0, 1) := by decide +kernel
theorem d_Mod_segmentIn_100 : decode prog_12_method_12_code 100 = .ok (.invokevirtual 113, 3) := by decide +kernel
theorem d_Mod_segmentIn_103 : decode prog_12_method_12_code 103 = .ok (.if_icmp .le (34), 3) := by decide +kernel
theorem d_Mod_segmentIn_106 : decode prog_12_method_12_code 106 = .ok (.aload_n 0, 1) := by decide +kernel
theorem d_Mod_segmentIn_107 : decode prog_12_method_12_code 107 = .ok (.getfield 48, 3) := by decide +kernel
theorem d_Mod_segmentIn_110 : decode prog_12_method_12_code 110 = .ok (.iload 4, 2) := by decide +kernel
theorem d_Mod_segmentIn_112 : decode prog_12_method_12_code 112 = .ok (.iload_n 3, 1) := by decide +kernel
theorem d_Mod_segmentIn_113 : decode prog_12_method_12_code 113 = .ok (.ifCond .eq (12), 3) := by decide +kernel
theorem d_Mod_segmentIn_116 : decode prog_12_method_12_code 116 = .ok (.iload 6, 2) := by decide +kernel
theorem d_Mod_segmentIn_118 : decode prog_12_method_12_code 118 = .ok (.ifCond .eq (7), 3) := by decide +kernel
theorem d_Mod_segmentIn_121 : decode prog_12_method_12_code 121 = .ok (.iconst 1, 1) := by decide +kernel
theorem d_Mod_segmentIn_122 : decode prog_12_method_12_code 122 = .ok (.goto (4), 3) := by decide +kernel
theorem d_Mod_segmentIn_125 : decode prog_12_method_12_code 125 = .ok (.iconst 0, 1) := by decide +kernel
theorem d_Mod_segmentIn_126 : decode prog_12_method_12_code 126 = .ok (.bastore, 1) := by decide +kernel
theorem d_Mod_segmentIn_127 : decode prog_12_method_12_code 127 = .ok (.iload_n 3, 1) := by decide +kernel
theorem d_Mod_segmentIn_128 : decode prog_12_method_12_code 128 = .ok (.ifCond .ne (7), 3) := by decide +kernel
theorem d_Mod_segmentIn_131 : decode prog_12_method_12_code 131 = .ok (.iconst 1, 1) := by decide +kernel
theorem d_Mod_segmentIn_132 : decode prog_12_method_12_code 132 = .ok (.goto (4), 3) := by decide +kernel
theorem d_Mod_segmentIn_135 : decode prog_12_method_12_code 135 = .ok (.iconst 0, 1) := by decide +kernel
theorem d_Mod_segmentIn_136 : decode prog_12_method_12_code 136 = .ok (.ireturn, 1) := by decide +kernel
theorem d_Mod_segmentIn_137 : decode prog_12_method_12_code 137 = .ok (.aload_n 0, 1) := by decide +kernel
theorem d_Mod_segmentIn_138 : decode prog_12_method_12_code 138 = .ok (.aload_n 0, 1) := by decide +kernel
theorem d_Mod_segmentIn_139 : decode prog_12_method_12_code 139 = .ok (.getfield 27, 3) := by decide +kernel
theorem d_Mod_segmentIn_142 : decode prog_12_method_12_code 142 = .ok (.iload_n 1, 1) := by decide +kernel
theorem d_Mod_segmentIn_143 : decode prog_12_method_12_code 143 = .ok (.iconst 1, 1) := by decide +kernel
theorem d_Mod_segmentIn_144 : decode prog_12_method_12_code 144 = .ok (.iadd, 1) := by decide +kernel
theorem d_Mod_segmentIn_145 : decode prog_12_method_12_code 145 = .ok (.iload 8, 2) := by decide +kernel
theorem d_Mod_segmentIn_147 : decode prog_12_method_12_code 147 = .ok (.invokevirtual 117, 3) := by decide +kernel
theorem d_Mod_segmentIn_150 : decode prog_12_method_12_code 150 = .ok (.aload_n 0, 1) := by decide +kernel
theorem d_Mod_segmentIn_151 : decode prog_12_method_12_code 151 = .ok (.getfield 48, 3) := by decide +kernel
theorem d_Mod_segmentIn_154 : decode prog_12_method_12_code 154 = .ok (.iload 4, 2) := by decide +kernel
theorem d_Mod_segmentIn_156 : decode prog_12_method_12_code 156 = .ok (.iconst 0, 1) := by decide +kernel
theorem d_Mod_segmentIn_157 : decode prog_12_method_12_code 157 = .ok (.bastore, 1) := by decide +kernel
theorem d_Mod_segmentIn_158 : decode prog_12_method_12_code 158 = .ok (.iconst 1, 1) := by decide +kernel
theorem d_Mod_segmentIn_159 : decode prog_12_method_12_code 159 = .ok (.ireturn, 1) := by decide +kernel
theorem d_Mod_segmentIn_160 : decode prog_12_method_12_code 160 = .ok (.iload 5, 2) := by decide +kernel
theorem d_Mod_segmentIn_162 : decode prog_12_method_12_code 162 = .ok (.iconst 1, 1) := by decide +kernel
theorem d_Mod_segmentIn_163 : decode prog_12_method_12_code 163 = .ok (.if_icmp .ne (19), 3) := by decide +kernel
theorem d_Mod_segmentIn_166 : decode prog_12_method_12_code 166 = .ok (.aload_n 0, 1) := by decide +kernel
theorem d_Mod_segmentIn_167 : decode prog_12_method_12_code 167 = .ok (.getfield 48, 3) := by decide +kernel
theorem d_Mod_segmentIn_170 : decode prog_12_method_12_code 170 = .ok (.iload 4, 2) := by decide +kernel
theorem d_Mod_segmentIn_172 : decode prog_12_method_12_code 172 = .ok (.iconst 1, 1) := by decide +kernel
theorem d_Mod_segmentIn_173 : decode prog_12_method_12_code 173 = .ok (.bastore, 1) := by decide +kernel
theorem d_Mod_segmentIn_174 : decode prog_12_method_12_code 174 = .ok (.aload_n 0, 1) := by decide +kernel
theorem d_Mod_segmentIn_175 : decode prog_12_method_12_code 175 = .ok (.getfield 52, 3) := by decide +kernel
theorem d_Mod_segmentIn_178 : decode prog_12_method_12_code 178 = .ok (.iload 4, 2) := by decide +kernel
theorem d_Mod_segmentIn_180 : decode prog_12_method_12_code 180 = .ok (.iconst 0, 1) := by decide +kernel
theorem d_Mod_segmentIn_181 : decode prog_12_method_12_code 181 = .ok (.iastore, 1) := by decide +kernel
theorem d_Mod_segmentIn_182 : decode prog_12_method_12_code 182 = .ok (.aload_n 0, 1) := by decide +kernel
theorem d_Mod_segmentIn_183 : decode prog_12_method_12_code 183 = .ok (.iload 4, 2) := by decide +kernel
theorem d_Mod_segmentIn_185 : decode prog_12_method_12_code 185 = .ok (.iload_n 1, 1) := by decide +kernel
theorem d_Mod_segmentIn_186 : decode prog_12_method_12_code 186 = .ok (.iconst 1, 1) := by decide +kernel
theorem d_Mod_segmentIn_187 : decode prog_12_method_12_code 187 = .ok (.iadd, 1) := by decide +kernel
theorem d_Mod_segmentIn_188 : decode prog_12_method_12_code 188 = .ok (.iload_n 2, 1) := by decide +kernel
theorem d_Mod_segmentIn_189 : decode prog_12_method_12_code 189 = .ok (.invokevirtual 121, 3) := by decide +kernel
theorem d_Mod_segmentIn_192 : decode prog_12_method_12_code 192 = .ok (.ifCond .eq (9), 3) := by decide +kernel
theorem d_Mod_segmentIn_195 : decode prog_12_method_12_code 195 = .ok (.iload 5, 2) := by decide +kernel
theorem d_Mod_segmentIn_197 : decode prog_12_method_12_code 197 = .ok (.iconst 2, 1) := by decide +kernel
theorem d_Mod_segmentIn_198 : decode prog_12_method_12_code 198 = .ok (.if_icmp .eq (5), 3) := by decide +kernel
theorem d_Mod_segmentIn_201 : decode prog_12_method_12_code 201 = .ok (.iconst 1, 1) := by decide +kernel
theorem d_Mod_segmentIn_202 : decode prog_12_method_12_code 202 = .ok (.ireturn, 1) := by decide +kernel
theorem d_Mod_segmentIn_203 : decode prog_12_method_12_code 203 = .ok (.aload_n 0, 1) := by decide +kernel
theorem d_Mod_segmentIn_204 : decode prog_12_method_12_code 204 = .ok (.getfield 52, 3) := by decide +kernel
theorem d_Mod_segmentIn_207 : decode prog_12_method_12_code 207 = .ok (.iload 4, 2) := by decide +kernel
theorem d_Mod_segmentIn_209 : decode prog_12_method_12_code 209 = .ok (.iaload, 1) := by decide +kernel
theorem d_Mod_segmentIn_210 : decode prog_12_method_12_code 210 = .ok (.istore 8, 2) := by decide +kernel
theorem d_Mod_segmentIn_212 : decode prog_12_method_12_code 212 = .ok (.aload_n 0, 1) := by decide +kernel
theorem d_Mod_segmentIn_213 : decode prog_12_method_12_code 213 = .ok (.getfield 55, 3) := by decide +kernel
theorem d_Mod_segmentIn_216 : decode prog_12_method_12_code 216 = .ok (.bipush (60), 2) := by decide +kernel
theorem d_Mod_segmentIn_218 : decode prog_12_method_12_code 218 = .ok (.iload 4, 2) := by decide +kernel
theorem d_Mod_segmentIn_220 : decode prog_12_method_12_code 220 = .ok (.imul, 1) := by decide +kernel
theorem d_Mod_segmentIn_221 : decode prog_12_method_12_code 221 = .ok (.bipush (60), 2) := by decide +kernel
theorem d_Mod_segmentIn_223 : decode prog_12_method_12_code 223 = .ok (.iload 4, 2) := by decide +kernel
theorem d_Mod_segmentIn_225 : decode prog_12_method_12_code 225 = .ok (.imul, 1) := by decide +kernel
theorem d_Mod_segmentIn_226 : decode prog_12_method_12_code 226 = .ok (.iload 8, 2) := by decide +kernel
theorem d_Mod_segmentIn_228 : decode prog_12_method_12_code 228 = .ok (.iadd, 1) := by decide +kernel
theorem d_Mod_segmentIn_229 : decode prog_12_method_12_code 229 = .ok (.invokestatic 105, 3) := by decide +kernel
theorem d_Mod_segmentIn_232 : decode prog_12_method_12_code 232 = .ok (.istore 9, 2) := by decide +kernel
theorem d_Mod_segmentIn_234 : decode prog_12_method_12_code 234 = .ok (.aload_n 0, 1) := by decide +kernel
theorem d_Mod_segmentIn_235 : decode prog_12_method_12_code 235 = .ok (.getfield 48, 3) := by decide +kernel
theorem d_Mod_segmentIn_238 : decode prog_12_method_12_code 238 = .ok (.iload 4, 2) := by decide +kernel
theorem d_Mod_segmentIn_240 : decode prog_12_method_12_code 240 = .ok (.iconst 0, 1) := by decide +kernel
theorem d_Mod_segmentIn_241 : decode prog_12_method_12_code 241 = .ok (.bastore, 1) := by decide +kernel
theorem d_Mod_segmentIn_242 : decode prog_12_method_12_code 242 = .ok (.iload 9, 2) := by decide +kernel
theorem d_Mod_segmentIn_244 : decode prog_12_method_12_code 244 = .ok (.ifCond .eq (10), 3) := by decide +kernel
theorem d_Mod_segmentIn_247 : decode prog_12_method_12_code 247 = .ok (.iload 9, 2) := by decide +kernel
theorem d_Mod_segmentIn_249 : decode prog_12_method_12_code 249 = .ok (.iload 8, 2) := by decide +kernel
theorem d_Mod_segmentIn_251 : decode prog_12_method_12_code 251 = .ok (.if_icmp .eq (5), 3) := by decide +kernel
theorem d_Mod_segmentIn_254 : decode prog_12_method_12_code 254 = .ok (.iconst 1, 1) := by decide +kernel
theorem d_Mod_segmentIn_255 : decode prog_12_method_12_code 255 = .ok (.ireturn, 1) := by decide +kernel
theorem d_Mod_segmentIn_256 : decode prog_12_method_12_code 256 = .ok (.iload 9, 2) := by decide +kernel
theorem d_Mod_segmentIn_258 : decode prog_12_method_12_code 258 = .ok (.invokestatic 109, 3) := by decide +kernel
theorem d_Mod_segmentIn_261 : decode prog_12_method_12_code 261 = .ok (.aload_n 0, 1) := by decide +kernel
theorem d_Mod_segmentIn_262 : decode prog_12_method_12_code 262 = .ok (.invokevirtual 113, 3) := by decide +kernel
theorem d_Mod_segmentIn_265 : decode prog_12_method_12_code 265 = .ok (.if_icmp .le (30), 3) := by decide +kernel
theorem d_Mod_segmentIn_268 : decode prog_12_method_12_code 268 = .ok (.aload_n 0, 1) := by decide +kernel
theorem d_Mod_segmentIn_269 : decode prog_12_method_12_code 269 = .ok (.getfield 48, 3) := by decide +kernel
theorem d_Mod_segmentIn_272 : decode prog_12_method_12_code 272 = .ok (.iload 4, 2) := by decide +kernel
theorem d_Mod_segmentIn_274 : decode prog_12_method_12_code 274 = .ok (.iload_n 3, 1) := by decide +kernel
theorem d_Mod_segmentIn_275 : decode prog_12_method_12_code 275 = .ok (.bastore, 1) := by decide +kernel
theorem d_Mod_segmentIn_276 : decode prog_12_method_12_code 276 = .ok (.aload_n 0, 1) := by decide +kernel
theorem d_Mod_segmentIn_277 : decode prog_12_method_12_code 277 = .ok (.getfield 52, 3) := by decide +kernel
theorem d_Mod_segmentIn_280 : decode prog_12_method_12_code 280 = .ok (.iload 4, 2) := by decide +kernel
theorem d_Mod_segmentIn_282 : decode prog_12_method_12_code 282 = .ok (.iload 7, 2) := by decide +kernel
theorem d_Mod_segmentIn_284 : decode prog_12_method_12_code 284 = .ok (.iastore, 1) := by decide +kernel
theorem d_Mod_segmentIn_285 : decode prog_12_method_12_code 285 = .ok (.iload_n 3, 1) := by decide +kernel
theorem d_Mod_segmentIn_286 : decode prog_12_method_12_code 286 = .ok (.ifCond .ne (7), 3) := by decide +kernel
theorem d_Mod_segmentIn_289 : decode prog_12_method_12_code 289 = .ok (.iconst 1, 1) := by decide +kernel
theorem d_Mod_segmentIn_290 : decode prog_12_method_12_code 290 = .ok (.goto (4), 3) := by decide +kernel
theorem d_Mod_segmentIn_293 : decode prog_12_method_12_code 293 = .ok (.iconst 0, 1) := by decide +kernel
theorem d_Mod_segmentIn_294 : decode prog_12_method_12_code 294 = .ok (.ireturn, 1) := by decide +kernel
theorem d_Mod_segmentIn_295 : decode prog_12_method_12_code 295 = .ok (.aload_n 0, 1) := by decide +kernel
theorem d_Mod_segmentIn_296 : decode prog_12_method_12_code 296 = .ok (.aload_n 0, 1) := by decide +kernel
theorem d_Mod_segmentIn_297 : decode prog_12_method_12_code 297 = .ok (.getfield 55, 3) := by decide +kernel
theorem d_Mod_segmentIn_300 : decode prog_12_method_12_code 300 = .ok (.bipush (60), 2) := by decide +kernel
theorem d_Mod_segmentIn_302 : decode prog_12_method_12_code 302 = .ok (.iload 4, 2) := by decide +kernel
theorem d_Mod_segmentIn_304 : decode prog_12_method_12_code 304 = .ok (.imul, 1) := by decide +kernel
theorem d_Mod_segmentIn_305 : decode prog_12_method_12_code 305 = .ok (.iload 9, 2) := by decide +kernel
theorem d_Mod_segmentIn_307 : decode prog_12_method_12_code 307 = .ok (.invokevirtual 117, 3) := by decide +kernel
theorem d_Mod_segmentIn_310 : decode prog_12_method_12_code 310 = .ok (.iconst 1, 1) := by decide +kernel
theorem d_Mod_segmentIn_311 : decode prog_12_method_12_code 311 = .ok (.ireturn, 1) := by decide +kernel
theorem d_Mod_directive_0 : decode prog_12_method_13_code 0 = .ok (.iload_n 2, 1) := by decide +kernel
theorem d_Mod_directive_1 : decode prog_12_method_13_code 1 = .ok (.iload_n 1, 1) := by decide +kernel
theorem d_Mod_directive_2 : decode prog_12_method_13_code 2 = .ok (.isub, 1) := by decide +kernel
theorem d_Mod_directive_3 : decode prog_12_method_13_code 3 = .ok (.iconst 2, 1) := by decide +kernel
theorem d_Mod_directive_4 : decode prog_12_method_13_code 4 = .ok (.if_icmp .ge (4), 3) := by decide +kernel
theorem d_Mod_directive_7 : decode prog_12_method_13_code 7 = .ok (.return_, 1) := by decide +kernel
theorem d_Mod_directive_8 : decode prog_12_method_13_code 8 = .ok (.aload_n 0, 1) := by decide +kernel
theorem d_Mod_directive_9 : decode prog_12_method_13_code 9 = .ok (.getfield 27, 3) := by decide +kernel
theorem d_Mod_directive_12 : decode prog_12_method_13_code 12 = .ok (.iload_n 1, 1) := by decide +kernel
theorem d_Mod_directive_13 : decode prog_12_method_13_code 13 = .ok (.iaload, 1) := by decide +kernel
theorem d_Mod_directive_14 : decode prog_12_method_13_code 14 = .ok (.iconst 1, 1) := by decide +kernel
theorem d_Mod_directive_15 : decode prog_12_method_13_code 15 = .ok (.if_icmp .ne (51), 3) := by decide +kernel
theorem d_Mod_directive_18 : decode prog_12_method_13_code 18 = .ok (.aload_n 0, 1) := by decide +kernel
theorem d_Mod_directive_19 : decode prog_12_method_13_code 19 = .ok (.iconst 1, 1) := by decide +kernel
theorem d_Mod_directive_20 : decode prog_12_method_13_code 20 = .ok (.putfield 33, 3) := by decide +kernel
theorem d_Mod_directive_23 : decode prog_12_method_13_code 23 = .ok (.aload_n 0, 1) := by decide +kernel
theorem d_Mod_directive_24 : decode prog_12_method_13_code 24 = .ok (.iload_n 3, 1) := by decide +kernel
theorem d_Mod_directive_25 : decode prog_12_method_13_code 25 = .ok (.putfield 36, 3) := by decide +kernel
theorem d_Mod_directive_28 : decode prog_12_method_13_code 28 = .ok (.aload_n 0, 1) := by decide +kernel
theorem d_Mod_directive_29 : decode prog_12_method_13_code 29 = .ok (.iconst 0, 1) := by decide +kernel
theorem d_Mod_directive_30 : decode prog_12_method_13_code 30 = .ok (.putfield 39, 3) := by decide +kernel
theorem d_Mod_directive_33 : decode prog_12_method_13_code 33 = .ok (.aload_n 0, 1) := by decide +kernel
theorem d_Mod_directive_34 : decode prog_12_method_13_code 34 = .ok (.iconst 0, 1) := by decide +kernel
theorem d_Mod_directive_35 : decode prog_12_method_13_code 35 = .ok (.putfield 42, 3) := by decide +kernel
theorem d_Mod_directive_38 : decode prog_12_method_13_code 38 = .ok (.aload_n 0, 1) := by decide +kernel
theorem d_Mod_directive_39 : decode prog_12_method_13_code 39 = .ok (.iconst 0, 1) := by decide +kernel
theorem d_Mod_directive_40 : decode prog_12_method_13_code 40 = .ok (.putfield 45, 3) := by decide +kernel
theorem d_Mod_directive_43 : decode prog_12_method_13_code 43 = .ok (.iconst 0, 1) := by decide +kernel
theorem d_Mod_directive_44 : decode prog_12_method_13_code 44 = .ok (.istore 4, 2) := by decide +kernel
theorem d_Mod_directive_46 : decode prog_12_method_13_code 46 = .ok (.iload 4, 2) := by decide +kernel
theorem d_Mod_directive_48 : decode prog_12_method_13_code 48 = .ok (.iconst 4, 1) := by decide +kernel
theorem d_Mod_directive_49 : decode prog_12_method_13_code 49 = .ok (.if_icmp .ge (17), 3) := by decide +kernel
theorem d_Mod_directive_52 : decode prog_12_method_13_code 52 = .ok (.aload_n 0, 1) := by decide +kernel
theorem d_Mod_directive_53 : decode prog_12_method_13_code 53 = .ok (.getfield 48, 3) := by decide +kernel
theorem d_Mod_directive_56 : decode prog_12_method_13_code 56 = .ok (.iload 4, 2) := by decide +kernel
theorem d_Mod_directive_58 : decode prog_12_method_13_code 58 = .ok (.iconst 0, 1) := by decide +kernel
theorem d_Mod_directive_59 : decode prog_12_method_13_code 59 = .ok (.bastore, 1) := by decide +kernel
theorem d_Mod_directive_60 : decode prog_12_method_13_code 60 = .ok (.iinc 4 (1), 3) := by decide +kernel
theorem d_Mod_directive_63 : decode prog_12_method_13_code 63 = .ok (.goto (-17), 3) := by decide +kernel
theorem d_Mod_directive_66 : decode prog_12_method_13_code 66 = .ok (.aload_n 0, 1) := by decide +kernel
theorem d_Mod_directive_67 : decode prog_12_method_13_code 67 = .ok (.getfield 27, 3) := by decide +kernel
theorem d_Mod_directive_70 : decode prog_12_method_13_code 70 = .ok (.iload_n 1, 1) := by decide +kernel
theorem d_Mod_directive_71 : decode prog_12_method_13_code 71 = .ok (.iaload, 1) := by decide +kernel
theorem d_Mod_directive_72 : decode prog_12_method_13_code 72 = .ok (.iconst 2, 1) := by decide +kernel
theorem d_Mod_directive_73 : decode prog_12_method_13_code 73 = .ok (.if_icmp .ne (8), 3) := by decide +kernel
theorem d_Mod_directive_76 : decode prog_12_method_13_code 76 = .ok (.aload_n 0, 1) := by decide +kernel
theorem d_Mod_directive_77 : decode prog_12_method_13_code 77 = .ok (.iconst 0, 1) := by decide +kernel
theorem d_Mod_directive_78 : decode prog_12_method_13_code 78 = .ok (.putfield 33, 3) := by decide +kernel
theorem d_Mod_directive_81 : decode prog_12_method_13_code 81 = .ok (.aload_n 0, 1) := by decide +kernel
theorem d_Mod_directive_82 : decode prog_12_method_13_code 82 = .ok (.getfield 27, 3) := by decide +kernel
theorem d_Mod_directive_85 : decode prog_12_method_13_code 85 = .ok (.iload_n 1, 1) := by decide +kernel
theorem d_Mod_directive_86 : decode prog_12_method_13_code 86 = .ok (.iaload, 1) := by decide +kernel
theorem d_Mod_directive_87 : decode prog_12_method_13_code 87 = .ok (.iconst 3, 1) := by decide +kernel
theorem d_Mod_directive_88 : decode prog_12_method_13_code 88 = .ok (.if_icmp .ne (35), 3) := by decide +kernel
theorem d_Mod_directive_91 : decode prog_12_method_13_code 91 = .ok (.aload_n 0, 1) := by decide +kernel
theorem d_Mod_directive_92 : decode prog_12_method_13_code 92 = .ok (.getfield 33, 3) := by decide +kernel
theorem d_Mod_directive_95 : decode prog_12_method_13_code 95 = .ok (.ifCond .eq (28), 3) := by decide +kernel
theorem d_Mod_directive_98 : decode prog_12_method_13_code 98 = .ok (.aload_n 0, 1) := by decide +kernel
theorem d_Mod_directive_99 : decode prog_12_method_13_code 99 = .ok (.getfield 36, 3) := by decide +kernel
theorem d_Mod_directive_102 : decode prog_12_method_13_code 102 = .ok (.iload_n 3, 1) := by decide +kernel
theorem d_Mod_directive_103 : decode prog_12_method_13_code 103 = .ok (.if_icmp .ne (20), 3) := by decide +kernel
theorem d_Mod_directive_106 : decode prog_12_method_13_code 106 = .ok (.aload_n 0, 1) := by decide +kernel
theorem d_Mod_directive_107 : decode prog_12_method_13_code 107 = .ok (.aload_n 0, 1) := by decide +kernel
theorem d_Mod_directive_108 : decode prog_12_method_13_code 108 = .ok (.getfield 27, 3) := by decide +kernel
theorem d_Mod_directive_111 : decode prog_12_method_13_code 111 = .ok (.iload_n 1, 1) := by decide +kernel
theorem d_Mod_directive_112 : decode prog_12_method_13_code 112 = .ok (.iconst 1, 1) := by decide +kernel
theorem d_Mod_directive_113 : decode prog_12_method_13_code 113 = .ok (.iadd, 1) := by decide +kernel
theorem d_Mod_directive_114 : decode prog_12_method_13_code 114 = .ok (.iaload, 1) := by decide +kernel
theorem d_Mod_directive_115 : decode prog_12_method_13_code 115 = .ok (.putfield 39, 3) := by decide +kernel
theorem d_Mod_directive_118 : decode prog_12_method_13_code 118 = .ok (.aload_n 0, 1) := by decide +kernel
theorem d_Mod_directive_119 : decode prog_12_method_13_code 119 = .ok (.iconst 0, 1) := by decide +kernel
theorem d_Mod_directive_120 : decode prog_12_method_13_code 120 = .ok (.putfield 42, 3) := by decide +kernel
theorem d_Mod_directive_123 : decode prog_12_method_13_code 123 = .ok (.return_, 1) := by decide +kernel
theorem d_Mod_taken_0 : decode prog_12_method_14_code 0 = .ok (.aload_n 0, 1) := by decide +kernel
theorem d_Mod_taken_1 : decode prog_12_method_14_code 1 = .ok (.getfield 27, 3) := by decide +kernel
theorem d_Mod_taken_4 : decode prog_12_method_14_code 4 = .ok (.iconst 3, 1) := by decide +kernel
theorem d_Mod_taken_5 : decode prog_12_method_14_code 5 = .ok (.iaload, 1) := by decide +kernel
theorem d_Mod_taken_6 : decode prog_12_method_14_code 6 = .ok (.istore_n 2, 1) := by decide +kernel
theorem d_Mod_taken_7 : decode prog_12_method_14_code 7 = .ok (.aload_n 0, 1) := by decide +kernel
theorem d_Mod_taken_8 : decode prog_12_method_14_code 8 = .ok (.getfield 27, 3) := by decide +kernel
theorem d_Mod_taken_11 : decode prog_12_method_14_code 11 = .ok (.iconst 5, 1) := by decide +kernel
theorem d_Mod_taken_12 : decode prog_12_method_14_code 12 = .ok (.iaload, 1) := by decide +kernel
theorem d_Mod_taken_13 : decode prog_12_method_14_code 13 = .ok (.bipush (7), 2) := by decide +kernel
theorem d_Mod_taken_15 : decode prog_12_method_14_code 15 = .ok (.ishr, 1) := by decide +kernel
theorem d_Mod_taken_16 : decode prog_12_method_14_code 16 = .ok (.istore_n 3, 1) := by decide +kernel
theorem d_Mod_taken_17 : decode prog_12_method_14_code 17 = .ok (.aload_n 0, 1) := by decide +kernel
theorem d_Mod_taken_18 : decode prog_12_method_14_code 18 = .ok (.iconst 0, 1) := by decide +kernel
theorem d_Mod_taken_19 : decode prog_12_method_14_code 19 = .ok (.invokevirtual 125, 3) := by decide +kernel
theorem d_Mod_taken_22 : decode prog_12_method_14_code 22 = .ok (.ifCond .eq (22), 3) := by decide +kernel
theorem d_Mod_taken_25 : decode prog_12_method_14_code 25 = .ok (.iload_n 2, 1) := by decide +kernel
theorem d_Mod_taken_26 : decode prog_12_method_14_code 26 = .ok (.iconst 3, 1) := by decide +kernel
theorem d_Mod_taken_27 : decode prog_12_method_14_code 27 = .ok (.iand, 1) := by decide +kernel
theorem d_Mod_taken_28 : decode prog_12_method_14_code 28 = .ok (.sipush (256), 3) := by decide +kernel
theorem d_Mod_taken_31 : decode prog_12_method_14_code 31 = .ok (.imul, 1) := by decide +kernel
theorem d_Mod_taken_32 : decode prog_12_method_14_code 32 = .ok (.aload_n 0, 1) := by decide +kernel
theorem d_Mod_taken_33 : decode prog_12_method_14_code 33 = .ok (.getfield 27, 3) := by decide +kernel
theorem d_Mod_taken_36 : decode prog_12_method_14_code 36 = .ok (.iconst 4, 1) := by decide +kernel
theorem d_Mod_taken_37 : decode prog_12_method_14_code 37 = .ok (.iaload, 1) := by decide +kernel
theorem d_Mod_taken_38 : decode prog_12_method_14_code 38 = .ok (.iadd, 1) := by decide +kernel
theorem d_Mod_taken_39 : decode prog_12_method_14_code 39 = .ok (.bipush (77), 2) := by decide +kernel
theorem d_Mod_taken_41 : decode prog_12_method_14_code 41 = .ok (.if_icmp .eq (4), 3) := by decide +kernel
theorem d_Mod_taken_44 : decode prog_12_method_14_code 44 = .ok (.return_, 1) := by decide +kernel
theorem d_Mod_taken_45 : decode prog_12_method_14_code 45 = .ok (.iload_n 2, 1) := by decide +kernel
theorem d_Mod_taken_46 : decode prog_12_method_14_code 46 = .ok (.iconst 4, 1) := by decide +kernel
theorem d_Mod_taken_47 : decode prog_12_method_14_code 47 = .ok (.ishr, 1) := by decide +kernel
theorem d_Mod_taken_48 : decode prog_12_method_14_code 48 = .ok (.iconst 1, 1) := by decide +kernel
theorem d_Mod_taken_49 : decode prog_12_method_14_code 49 = .ok (.iand, 1) := by decide +kernel
theorem d_Mod_taken_50 : decode prog_12_method_14_code 50 = .ok (.iconst 1, 1) := by decide +kernel
theorem d_Mod_taken_51 : decode prog_12_method_14_code 51 = .ok (.if_icmp .ne (14), 3) := by decide +kernel
theorem d_Mod_taken_54 : decode prog_12_method_14_code 54 = .ok (.aload_n 0, 1) := by decide +kernel
theorem d_Mod_taken_55 : decode prog_12_method_14_code 55 = .ok (.bipush (8), 2) := by decide +kernel
theorem d_Mod_taken_57 : decode prog_12_method_14_code 57 = .ok (.iconst 3, 1) := by decide +kernel
theorem d_Mod_taken_58 : decode prog_12_method_14_code 58 = .ok (.iload_n 1, 1) := by decide +kernel
theorem d_Mod_taken_59 : decode prog_12_method_14_code 59 = .ok (.iadd, 1) := by decide +kernel
theorem d_Mod_taken_60 : decode prog_12_method_14_code 60 = .ok (.iload_n 3, 1) := by decide +kernel
theorem d_Mod_taken_61 : decode prog_12_method_14_code 61 = .ok (.invokevirtual 128, 3) := by decide +kernel
theorem d_Mod_taken_64 : decode prog_12_method_14_code 64 = .ok (.return_, 1) := by decide +kernel
theorem d_Mod_taken_65 : decode prog_12_method_14_code 65 = .ok (.aload_n 0, 1) := by decide +kernel
theorem d_Mod_taken_66 : decode prog_12_method_14_code 66 = .ok (.getfield 33, 3) := by decide +kernel
theorem d_Mod_taken_69 : decode prog_12_method_14_code 69 = .ok (.ifCond .eq (11), 3) := by decide +kernel
theorem d_Mod_taken_72 : decode prog_12_method_14_code 72 = .ok (.aload_n 0, 1) := by decide +kernel
theorem d_Mod_taken_73 : decode prog_12_method_14_code 73 = .ok (.getfield 36, 3) := by decide +kernel
theorem d_Mod_taken_76 : decode prog_12_method_14_code 76 = .ok (.iload_n 3, 1) := by decide +kernel
theorem d_Mod_taken_77 : decode prog_12_method_14_code 77 = .ok (.if_icmp .eq (4), 3) := by decide +kernel
theorem d_Mod_taken_80 : decode prog_12_method_14_code 80 = .ok (.return_, 1) := by decide +kernel
theorem d_Mod_taken_81 : decode prog_12_method_14_code 81 = .ok (.iload_n 2, 1) := by decide +kernel
theorem d_Mod_taken_82 : decode prog_12_method_14_code 82 = .ok (.iconst 2, 1) := by decide +kernel
theorem d_Mod_taken_83 : decode prog_12_method_14_code 83 = .ok (.ishr, 1) := by decide +kernel
theorem d_Mod_taken_84 : decode prog_12_method_14_code 84 = .ok (.iconst 3, 1) := by decide +kernel
theorem d_Mod_taken_85 : decode prog_12_method_14_code 85 = .ok (.iand, 1) := by decide +kernel
theorem d_Mod_taken_86 : decode prog_12_method_14_code 86 = .ok (.istore 4, 2) := by decide +kernel
theorem d_Mod_taken_88 : decode prog_12_method_14_code 88 = .ok (.iload_n 2, 1) := by decide +kernel
theorem d_Mod_taken_89 : decode prog_12_method_14_code 89 = .ok (.iconst 5, 1) := by decide +kernel
theorem d_Mod_taken_90 : decode prog_12_method_14_code 90 = .ok (.ishr, 1) := by decide +kernel
theorem d_Mod_taken_91 : decode prog_12_method_14_code 91 = .ok (.iconst 1, 1) := by decide +kernel
theorem d_Mod_taken_92 : decode prog_12_method_14_code 92 = .ok (.iand, 1) := by decide +kernel
theorem d_Mod_taken_93 : decode prog_12_method_14_code 93 = .ok (.iconst 1, 1) := by decide +kernel
theorem d_Mod_taken_94 : decode prog_12_method_14_code 94 = .ok (.if_icmp .ne (50), 3) := by decide +kernel
theorem d_Mod_taken_97 : decode prog_12_method_14_code 97 = .ok (.aload_n 0, 1) := by decide +kernel
theorem d_Mod_taken_98 : decode prog_12_method_14_code 98 = .ok (.aload_n 0, 1) := by decide +kernel
theorem d_Mod_taken_99 : decode prog_12_method_14_code 99 = .ok (.getfield 45, 3) := by decide +kernel
theorem d_Mod_taken_102 : decode prog_12_method_14_code 102 = .ok (.iconst 1, 1) := by decide +kernel
theorem d_Mod_taken_103 : decode prog_12_method_14_code 103 = .ok (.iadd, 1) := by decide +kernel
theorem d_Mod_taken_104 : decode prog_12_method_14_code 104 = .ok (.bipush (8), 2) := by decide +kernel
theorem d_Mod_taken_106 : decode prog_12_method_14_code 106 = .ok (.irem, 1) := by decide +kernel
theorem d_Mod_taken_107 : decode prog_12_method_14_code 107 = .ok (.putfield 45, 3) := by decide +kernel
theorem d_Mod_taken_110 : decode prog_12_method_14_code 110 = .ok (.iload 4, 2) := by decide +kernel
theorem d_Mod_taken_112 : decode prog_12_method_14_code 112 = .ok (.ifCond .ne (14), 3) := by decide +kernel
theorem d_Mod_taken_115 : decode prog_12_method_14_code 115 = .ok (.aload_n 0, 1) := by decide +kernel
theorem d_Mod_taken_116 : decode prog_12_method_14_code 116 = .ok (.bipush (8), 2) := by decide +kernel
theorem d_Mod_taken_118 : decode prog_12_method_14_code 118 = .ok (.iconst 3, 1) := by decide +kernel
theorem d_Mod_taken_119 : decode prog_12_method_14_code 119 = .ok (.iload_n 1, 1) := by decide +kernel
theorem d_Mod_taken_120 : decode prog_12_method_14_code 120 = .ok (.iadd, 1) := by decide +kernel
theorem d_Mod_taken_121 : decode prog_12_method_14_code 121 = .ok (.iconst 0, 1) := by decide +kernel
theorem d_Mod_taken_122 : decode prog_12_method_14_code 122 = .ok (.invokevirtual 132, 3) := by decide +kernel
theorem d_Mod_taken_125 : decode prog_12_method_14_code 125 = .ok (.pop, 1) := by decide +kernel
theorem d_Mod_taken_126 : decode prog_12_method_14_code 126 = .ok (.iload 4, 2) := by decide +kernel
theorem d_Mod_taken_128 : decode prog_12_method_14_code 128 = .ok (.iconst 1, 1) := by decide +kernel
theorem d_Mod_taken_129 : decode prog_12_method_14_code 129 = .ok (.if_icmp .ne (14), 3) := by decide +kernel
theorem d_Mod_taken_132 : decode prog_12_method_14_code 132 = .ok (.aload_n 0, 1) := by decide +kernel
theorem d_Mod_taken_133 : decode prog_12_method_14_code 133 = .ok (.bipush (8), 2) := by decide +kernel
theorem d_Mod_taken_135 : decode prog_12_method_14_code 135 = .ok (.iconst 3, 1) := by decide +kernel
theorem d_Mod_taken_136 : decode prog_12_method_14_code 136 = .ok (.iload_n 1, 1) := by decide +kernel
theorem d_Mod_taken_137 : decode prog_12_method_14_code 137 = .ok (.iadd, 1) := by decide +kernel
theorem d_Mod_taken_138 : decode prog_12_method_14_code 138 = .ok (.iconst 0, 1) := by decide +kernel
theorem d_Mod_taken_139 : decode prog_12_method_14_code 139 = .ok (.invokevirtual 136, 3) := by decide +kernel
theorem d_Mod_taken_142 : decode prog_12_method_14_code 142 = .ok (.pop, 1) := by decide +kernel
theorem d_Mod_taken_143 : decode prog_12_method_14_code 143 = .ok (.return_, 1) := by decide +kernel
theorem d_Mod_taken_144 : decode prog_12_method_14_code 144 = .ok (.aload_n 0, 1) := by decide +kernel
theorem d_Mod_taken_145 : decode prog_12_method_14_code 145 = .ok (.getfield 27, 3) := by decide +kernel
theorem d_Mod_taken_148 : decode prog_12_method_14_code 148 = .ok (.bipush (7), 2) := by decide +kernel
theorem d_Mod_taken_150 : decode prog_12_method_14_code 150 = .ok (.iaload, 1) := by decide +kernel
theorem d_Mod_taken_151 : decode prog_12_method_14_code 151 = .ok (.aload_n 0, 1) := by decide +kernel
theorem d_Mod_taken_152 : decode prog_12_method_14_code 152 = .ok (.getfield 39, 3) := by decide +kernel
theorem d_Mod_taken_155 : decode prog_12_method_14_code 155 = .ok (.isub, 1) := by decide +kernel
theorem d_Mod_taken_156 : decode prog_12_method_14_code 156 = .ok (.sipush (256), 3) := by decide +kernel
theorem d_Mod_taken_159 : decode prog_12_method_14_code 159 = .ok (.iadd, 1) := by decide +kernel
theorem d_Mod_taken_160 : decode prog_12_method_14_code 160 = .ok (.sipush (256), 3) := by decide +kernel
theorem d_Mod_taken_163 : decode prog_12_method_14_code 163 = .ok (.irem, 1) := by decide +kernel
theorem d_Mod_taken_164 : decode prog_12_method_14_code 164 = .ok (.istore 5, 2) := by decide +kernel
theorem d_Mod_taken_166 : decode prog_12_method_14_code 166 = .ok (.iload 5, 2) := by decide +kernel
theorem d_Mod_taken_168 : decode prog_12_method_14_code 168 = .ok (.ifCond .ne (79), 3) := by decide +kernel
theorem d_Mod_taken_171 : decode prog_12_method_14_code 171 = .ok (.iload 4, 2) := by decide +kernel
theorem d_Mod_taken_173 : decode prog_12_method_14_code 173 = .ok (.ifCond .ne (16), 3) := by decide +kernel
theorem d_Mod_taken_176 : decode prog_12_method_14_code 176 = .ok (.aload_n 0, 1) := by decide +kernel
theorem d_Mod_taken_177 : decode prog_12_method_14_code 177 = .ok (.bipush (8), 2) := by decide +kernel
theorem d_Mod_taken_179 : decode prog_12_method_14_code 179 = .ok (.iconst 3, 1) := by decide +kernel
theorem d_Mod_taken_180 : decode prog_12_method_14_code 180 = .ok (.iload_n 1, 1) := by decide +kernel
theorem d_Mod_taken_181 : decode prog_12_method_14_code 181 = .ok (.iadd, 1) := by decide +kernel
theorem d_Mod_taken_182 : decode prog_12_method_14_code 182 = .ok (.iconst 1, 1) := by decide +kernel
theorem d_Mod_taken_183 : decode prog_12_method_14_code 183 = .ok (.invokevirtual 132, 3) := by decide +kernel
theorem d_Mod_taken_186 : decode prog_12_method_14_code 186 = .ok (.goto (23), 3) := by decide +kernel
theorem d_Mod_taken_189 : decode prog_12_method_14_code 189 = .ok (.iload 4, 2) := by decide +kernel
theorem d_Mod_taken_191 : decode prog_12_method_14_code 191 = .ok (.iconst 1, 1) := by decide +kernel
theorem d_Mod_taken_192 : decode prog_12_method_14_code 192 = .ok (.if_icmp .ne (16), 3) := by decide +kernel
theorem d_Mod_taken_195 : decode prog_12_method_14_code 195 = .ok (.aload_n 0, 1) := by decide +kernel
theorem d_Mod_taken_196 : decode prog_12_method_14_code 196 = .ok (.bipush (8), 2) := by decide +kernel
theorem d_Mod_taken_198 : decode prog_12_method_14_code 198 = .ok (.iconst 3, 1) := by decide +kernel
theorem d_Mod_taken_199 : decode prog_12_method_14_code 199 = .ok (.iload_n 1, 1) := by decide +kernel
theorem d_Mod_taken_200 : decode prog_12_method_14_code 200 = .ok (.iadd, 1) := by decide +kernel
theorem d_Mod_taken_201 : decode prog_12_method_14_code 201 = .ok (.iconst 1, 1) := by decide +kernel
theorem d_Mod_taken_202 : decode prog_12_method_14_code 202 = .ok (.invokevirtual 136, 3) := by decide +kernel
theorem d_Mod_taken_205 : decode prog_12_method_14_code 205 = .ok (.goto (4), 3) := by decide +kernel
theorem d_Mod_taken_208 : decode prog_12_method_14_code 208 = .ok (.iconst 1, 1) := by decide +kernel
theorem d_Mod_taken_209 : decode prog_12_method_14_code 209 = .ok (.istore 6, 2) := by decide +kernel
theorem d_Mod_taken_211 : decode prog_12_method_14_code 211 = .ok (.iload 6, 2) := by decide +kernel
theorem d_Mod_taken_213 : decode prog_12_method_14_code 213 = .ok (.ifCond .eq (17), 3) := by decide +kernel
theorem d_Mod_taken_216 : decode prog_12_method_14_code 216 = .ok (.aload_n 0, 1) := by decide +kernel
theorem d_Mod_taken_217 : decode prog_12_method_14_code 217 = .ok (.aload_n 0, 1) := by decide +kernel
theorem d_Mod_taken_218 : decode prog_12_method_14_code 218 = .ok (.getfield 39, 3) := by decide +kernel
theorem d_Mod_taken_221 : decode prog_12_method_14_code 221 = .ok (.iconst 1, 1) := by decide +kernel
theorem d_Mod_taken_222 : decode prog_12_method_14_code 222 = .ok (.iadd, 1) := by decide +kernel
theorem d_Mod_taken_223 : decode prog_12_method_14_code 223 = .ok (.sipush (256), 3) := by decide +kernel
theorem d_Mod_taken_226 : decode prog_12_method_14_code 226 = .ok (.irem, 1) := by decide +kernel
theorem d_Mod_taken_227 : decode prog_12_method_14_code 227 = .ok (.putfield 39, 3) := by decide +kernel
theorem d_Mod_taken_230 : decode prog_12_method_14_code 230 = .ok (.aload_n 0, 1) := by decide +kernel
theorem d_Mod_taken_231 : decode prog_12_method_14_code 231 = .ok (.iload 6, 2) := by decide +kernel
theorem d_Mod_taken_233 : decode prog_12_method_14_code 233 = .ok (.ifCond .eq (7), 3) := by decide +kernel
theorem d_Mod_taken_236 : decode prog_12_method_14_code 236 = .ok (.iconst 0, 1) := by decide +kernel
theorem d_Mod_taken_237 : decode prog_12_method_14_code 237 = .ok (.goto (4), 3) := by decide +kernel
theorem d_Mod_taken_240 : decode prog_12_method_14_code 240 = .ok (.iconst 1, 1) := by decide +kernel
theorem d_Mod_taken_241 : decode prog_12_method_14_code 241 = .ok (.putfield 42, 3) := by decide +kernel
theorem d_Mod_taken_244 : decode prog_12_method_14_code 244 = .ok (.goto (16), 3) := by decide +kernel
theorem d_Mod_taken_247 : decode prog_12_method_14_code 247 = .ok (.iload 5, 2) := by decide +kernel
theorem d_Mod_taken_249 : decode prog_12_method_14_code 249 = .ok (.sipush (128), 3) := by decide +kernel
theorem d_Mod_taken_252 : decode prog_12_method_14_code 252 = .ok (.if_icmp .ge (8), 3) := by decide +kernel
theorem d_Mod_taken_255 : decode prog_12_method_14_code 255 = .ok (.aload_n 0, 1) := by decide +kernel
theorem d_Mod_taken_256 : decode prog_12_method_14_code 256 = .ok (.iconst 1, 1) := by decide +kernel
theorem d_Mod_taken_257 : decode prog_12_method_14_code 257 = .ok (.putfield 42, 3) := by decide +kernel
theorem d_Mod_taken_260 : decode prog_12_method_14_code 260 = .ok (.return_, 1) := by decide +kernel
theorem d_Mod_checked_0 : decode prog_12_method_15_code 0 = .ok (.iconst 0, 1) := by decide +kernel
theorem d_Mod_checked_1 : decode prog_12_method_15_code 1 = .ok (.istore_n 2, 1) := by decide +kernel
theorem d_Mod_checked_2 : decode prog_12_method_15_code 2 = .ok (.iconst 0, 1) := by decide +kernel
theorem d_Mod_checked_3 : decode prog_12_method_15_code 3 = .ok (.istore_n 3, 1) := by decide +kernel
theorem d_Mod_checked_4 : decode prog_12_method_15_code 4 = .ok (.iload_n 3, 1) := by decide +kernel
theorem d_Mod_checked_5 : decode prog_12_method_15_code 5 = .ok (.iload_n 1, 1) := by decide +kernel
theorem d_Mod_checked_6 : decode prog_12_method_15_code 6 = .ok (.if_icmp .ge (59), 3) := by decide +kernel
theorem d_Mod_checked_9 : decode prog_12_method_15_code 9 = .ok (.bipush (7), 2) := by decide +kernel
theorem d_Mod_checked_11 : decode prog_12_method_15_code 11 = .ok (.istore 4, 2) := by decide +kernel
theorem d_Mod_checked_13 : decode prog_12_method_15_code 13 = .ok (.iload 4, 2) := by decide +kernel
theorem d_Mod_checked_15 : decode prog_12_method_15_code 15 = .ok (.ifCond .lt (44), 3) := by decide +kernel
theorem d_Mod_checked_18 : decode prog_12_method_15_code 18 = .ok (.iload_n 2, 1) := by decide +kernel
theorem d_Mod_checked_19 : decode prog_12_method_15_code 19 = .ok (.bipush (31), 2) := by decide +kernel
theorem d_Mod_checked_21 : decode prog_12_method_15_code 21 = .ok (.iushr, 1) := by decide +kernel
theorem d_Mod_checked_22 : decode prog_12_method_15_code 22 = .ok (.aload_n 0, 1) := by decide +kernel
theorem d_Mod_checked_23 : decode prog_12_method_15_code 23 = .ok (.getfield 27, 3) := by decide +kernel
theorem d_Mod_checked_26 : decode prog_12_method_15_code 26 = .ok (.iconst 3, 1) := by decide +kernel
theorem d_Mod_checked_27 : decode prog_12_method_15_code 27 = .ok (.iload_n 3, 1) := by decide +kernel
theorem d_Mod_checked_28 : decode prog_12_method_15_code 28 = .ok (.iadd, 1) := by decide +kernel
theorem d_Mod_checked_29 : decode prog_12_method_15_code 29 = .ok (.iaload, 1) := by decide +kernel
theorem d_Mod_checked_30 : decode prog_12_method_15_code 30 = .ok (.iload 4, 2) := by decide +kernel
theorem d_Mod_checked_32 : decode prog_12_method_15_code 32 = .ok (.ishr, 1) := by decide +kernel
theorem d_Mod_checked_33 : decode prog_12_method_15_code 33 = .ok (.iconst 1, 1) := by decide +kernel
theorem d_Mod_checked_34 : decode prog_12_method_15_code 34 = .ok (.iand, 1) := by decide +kernel
theorem d_Mod_checked_35 : decode prog_12_method_15_code 35 = .ok (.ixor, 1) := by decide +kernel
theorem d_Mod_checked_36 : decode prog_12_method_15_code 36 = .ok (.istore 5, 2) := by decide +kernel
theorem d_Mod_checked_38 : decode prog_12_method_15_code 38 = .ok (.iload_n 2, 1) := by decide +kernel
theorem d_Mod_checked_39 : decode prog_12_method_15_code 39 = .ok (.iconst 1, 1) := by decide +kernel
theorem d_Mod_checked_40 : decode prog_12_method_15_code 40 = .ok (.ishl, 1) := by decide +kernel
theorem d_Mod_checked_41 : decode prog_12_method_15_code 41 = .ok (.istore_n 2, 1) := by decide +kernel
theorem d_Mod_checked_42 : decode prog_12_method_15_code 42 = .ok (.iload 5, 2) := by decide +kernel
theorem d_Mod_checked_44 : decode prog_12_method_15_code 44 = .ok (.iconst 1, 1) := by decide +kernel
theorem d_Mod_checked_45 : decode prog_12_method_15_code 45 = .ok (.if_icmp .ne (8), 3) := by decide +kernel
theorem d_Mod_checked_48 : decode prog_12_method_15_code 48 = .ok (.iload_n 2, 1) := by decide +kernel
theorem d_Mod_checked_49 : decode prog_12_method_15_code 49 = .ok (.ldc 139, 2) := by decide +kernel
theorem d_Mod_checked_51 : decode prog_12_method_15_code 51 = .ok (.ixor, 1) := by decide +kernel
theorem d_Mod_checked_52 : decode prog_12_method_15_code 52 = .ok (.istore_n 2, 1) := by decide +kernel
theorem d_Mod_checked_53 : decode prog_12_method_15_code 53 = .ok (.iinc 4 (-1), 3) := by decide +kernel
theorem d_Mod_checked_56 : decode prog_12_method_15_code 56 = .ok (.goto (-43), 3) := by decide +kernel
theorem d_Mod_checked_59 : decode prog_12_method_15_code 59 = .ok (.iinc 3 (1), 3) := by decide +kernel
theorem d_Mod_checked_62 : decode prog_12_method_15_code 62 = .ok (.goto (-58), 3) := by decide +kernel
theorem d_Mod_checked_65 : decode prog_12_method_15_code 65 = .ok (.iload_n 2, 1) := by decide +kernel
theorem d_Mod_checked_66 : decode prog_12_method_15_code 66 = .ok (.aload_n 0, 1) := by decide +kernel
theorem d_Mod_checked_67 : decode prog_12_method_15_code 67 = .ok (.getfield 27, 3) := by decide +kernel
theorem d_Mod_checked_70 : decode prog_12_method_15_code 70 = .ok (.iconst 3, 1) := by decide +kernel
theorem d_Mod_checked_71 : decode prog_12_method_15_code 71 = .ok (.iload_n 1, 1) := by decide +kernel
theorem d_Mod_checked_72 : decode prog_12_method_15_code 72 = .ok (.iadd, 1) := by decide +kernel
theorem d_Mod_checked_73 : decode prog_12_method_15_code 73 = .ok (.iaload, 1) := by decide +kernel
theorem d_Mod_checked_74 : decode prog_12_method_15_code 74 = .ok (.bipush (24), 2) := by decide +kernel
theorem d_Mod_checked_76 : decode prog_12_method_15_code 76 = .ok (.ishl, 1) := by decide +kernel
theorem d_Mod_checked_77 : decode prog_12_method_15_code 77 = .ok (.aload_n 0, 1) := by decide +kernel
theorem d_Mod_checked_78 : decode prog_12_method_15_code 78 = .ok (.getfield 27, 3) := by decide +kernel
theorem d_Mod_checked_81 : decode prog_12_method_15_code 81 = .ok (.iconst 4, 1) := by decide +kernel
theorem d_Mod_checked_82 : decode prog_12_method_15_code 82 = .ok (.iload_n 1, 1) := by decide +kernel
theorem d_Mod_checked_83 : decode prog_12_method_15_code 83 = .ok (.iadd, 1) := by decide +kernel
theorem d_Mod_checked_84 : decode prog_12_method_15_code 84 = .ok (.iaload, 1) := by decide +kernel
theorem d_Mod_checked_85 : decode prog_12_method_15_code 85 = .ok (.bipush (16), 2) := by decide +kernel
theorem d_Mod_checked_87 : decode prog_12_method_15_code 87 = .ok (.ishl, 1) := by decide +kernel
theorem d_Mod_checked_88 : decode prog_12_method_15_code 88 = .ok (.ior, 1) := by decide +kernel
theorem d_Mod_checked_89 : decode prog_12_method_15_code 89 = .ok (.aload_n 0, 1) := by decide +kernel
theorem d_Mod_checked_90 : decode prog_12_method_15_code 90 = .ok (.getfield 27, 3) := by decide +kernel
theorem d_Mod_checked_93 : decode prog_12_method_15_code 93 = .ok (.iconst 5, 1) := by decide +kernel
theorem d_Mod_checked_94 : decode prog_12_method_15_code 94 = .ok (.iload_n 1, 1) := by decide +kernel
theorem d_Mod_checked_95 : decode prog_12_method_15_code 95 = .ok (.iadd, 1) := by decide +kernel
theorem d_Mod_checked_96 : decode prog_12_method_15_code 96 = .ok (.iaload, 1) := by decide +kernel
theorem d_Mod_checked_97 : decode prog_12_method_15_code 97 = .ok (.bipush (8), 2) := by decide +kernel
theorem d_Mod_checked_99 : decode prog_12_method_15_code 99 = .ok (.ishl, 1) := by decide +kernel
theorem d_Mod_checked_100 : decode prog_12_method_15_code 100 = .ok (.ior, 1) := by decide +kernel
theorem d_Mod_checked_101 : decode prog_12_method_15_code 101 = .ok (.aload_n 0, 1) := by decide +kernel
theorem d_Mod_checked_102 : decode prog_12_method_15_code 102 = .ok (.getfield 27, 3) := by decide +kernel
theorem d_Mod_checked_105 : decode prog_12_method_15_code 105 = .ok (.bipush (6), 2) := by decide +kernel
theorem d_Mod_checked_107 : decode prog_12_method_15_code 107 = .ok (.iload_n 1, 1) := by decide +kernel
theorem d_Mod_checked_108 : decode prog_12_method_15_code 108 = .ok (.iadd, 1) := by decide +kernel
theorem d_Mod_checked_109 : decode prog_12_method_15_code 109 = .ok (.iaload, 1) := by decide +kernel
theorem d_Mod_checked_110 : decode prog_12_method_15_code 110 = .ok (.ior, 1) := by decide +kernel
theorem d_Mod_checked_111 : decode prog_12_method_15_code 111 = .ok (.if_icmp .ne (7), 3) := by decide +kernel
theorem d_Mod_checked_114 : decode prog_12_method_15_code 114 = .ok (.iconst 1, 1) := by decide +kernel
theorem d_Mod_checked_115 : decode prog_12_method_15_code 115 = .ok (.goto (4), 3) := by decide +kernel
theorem d_Mod_checked_118 : decode prog_12_method_15_code 118 = .ok (.iconst 0, 1) := by decide +kernel
theorem d_Mod_checked_119 : decode prog_12_method_15_code 119 = .ok (.ireturn, 1) := by decide +kernel
theorem d_Mod_leave_0 : decode prog_12_method_16_code 0 = .ok (.aload_n 0, 1) := by decide +kernel
theorem d_Mod_leave_1 : decode prog_12_method_16_code 1 = .ok (.dup, 1) := by decide +kernel
theorem d_Mod_leave_2 : decode prog_12_method_16_code 2 = .ok (.getfield 30, 3) := by decide +kernel
theorem d_Mod_leave_5 : decode prog_12_method_16_code 5 = .ok (.iload_n 1, 1) := by decide +kernel
theorem d_Mod_leave_6 : decode prog_12_method_16_code 6 = .ok (.isub, 1) := by decide +kernel
theorem d_Mod_leave_7 : decode prog_12_method_16_code 7 = .ok (.putfield 30, 3) := by decide +kernel
theorem d_Mod_leave_10 : decode prog_12_method_16_code 10 = .ok (.iconst 0, 1) := by decide +kernel
theorem d_Mod_leave_11 : decode prog_12_method_16_code 11 = .ok (.istore_n 2, 1) := by decide +kernel
theorem d_Mod_leave_12 : decode prog_12_method_16_code 12 = .ok (.iload_n 2, 1) := by decide +kernel
theorem d_Mod_leave_13 : decode prog_12_method_16_code 13 = .ok (.aload_n 0, 1) := by decide +kernel
theorem d_Mod_leave_14 : decode prog_12_method_16_code 14 = .ok (.getfield 30, 3) := by decide +kernel
theorem d_Mod_leave_17 : decode prog_12_method_16_code 17 = .ok (.if_icmp .ge (23), 3) := by decide +kernel
theorem d_Mod_leave_20 : decode prog_12_method_16_code 20 = .ok (.aload_n 0, 1) := by decide +kernel
theorem d_Mod_leave_21 : decode prog_12_method_16_code 21 = .ok (.getfield 27, 3) := by decide +kernel
theorem d_Mod_leave_24 : decode prog_12_method_16_code 24 = .ok (.iload_n 2, 1) := by decide +kernel
theorem d_Mod_leave_25 : decode prog_12_method_16_code 25 = .ok (.aload_n 0, 1) := by decide +kernel
theorem d_Mod_leave_26 : decode prog_12_method_16_code 26 = .ok (.getfield 27, 3) := by decide +kernel
theorem d_Mod_leave_29 : decode prog_12_method_16_code 29 = .ok (.iload_n 2, 1) := by decide +kernel
theorem d_Mod_leave_30 : decode prog_12_method_16_code 30 = .ok (.iload_n 1, 1) := by decide +kernel
theorem d_Mod_leave_31 : decode prog_12_method_16_code 31 = .ok (.iadd, 1) := by decide +kernel
theorem d_Mod_leave_32 : decode prog_12_method_16_code 32 = .ok (.iaload, 1) := by decide +kernel
theorem d_Mod_leave_33 : decode prog_12_method_16_code 33 = .ok (.iastore, 1) := by decide +kernel
theorem d_Mod_leave_34 : decode prog_12_method_16_code 34 = .ok (.iinc 2 (1), 3) := by decide +kernel
theorem d_Mod_leave_37 : decode prog_12_method_16_code 37 = .ok (.goto (-25), 3) := by decide +kernel
theorem d_Mod_leave_40 : decode prog_12_method_16_code 40 = .ok (.return_, 1) := by decide +kernel
theorem d_Mod_look_0 : decode prog_12_method_17_code 0 = .ok (.aload_n 0, 1) := by decide +kernel
theorem d_Mod_look_1 : decode prog_12_method_17_code 1 = .ok (.getfield 30, 3) := by decide +kernel
theorem d_Mod_look_4 : decode prog_12_method_17_code 4 = .ok (.ifCond .ne (5), 3) := by decide +kernel
theorem d_Mod_look_7 : decode prog_12_method_17_code 7 = .ok (.iconst 0, 1) := by decide +kernel
theorem d_Mod_look_8 : decode prog_12_method_17_code 8 = .ok (.ireturn, 1) := by decide +kernel
theorem d_Mod_look_9 : decode prog_12_method_17_code 9 = .ok (.aload_n 0, 1) := by decide +kernel
theorem d_Mod_look_10 : decode prog_12_method_17_code 10 = .ok (.getfield 27, 3) := by decide +kernel
theorem d_Mod_look_13 : decode prog_12_method_17_code 13 = .ok (.iconst 0, 1) := by decide +kernel
theorem d_Mod_look_14 : decode prog_12_method_17_code 14 = .ok (.iaload, 1) := by decide +kernel
theorem d_Mod_look_15 : decode prog_12_method_17_code 15 = .ok (.sipush (250), 3) := by decide +kernel
theorem d_Mod_look_18 : decode prog_12_method_17_code 18 = .ok (.if_icmp .ne (42), 3) := by decide +kernel
theorem d_Mod_look_21 : decode prog_12_method_17_code 21 = .ok (.aload_n 0, 1) := by decide +kernel
theorem d_Mod_look_22 : decode prog_12_method_17_code 22 = .ok (.getfield 30, 3) := by decide +kernel
theorem d_Mod_look_25 : decode prog_12_method_17_code 25 = .ok (.iconst 1, 1) := by decide +kernel
theorem d_Mod_look_26 : decode prog_12_method_17_code 26 = .ok (.if_icmp .le (15), 3) := by decide +kernel
theorem d_Mod_look_29 : decode prog_12_method_17_code 29 = .ok (.aload_n 0, 1) := by decide +kernel
theorem d_Mod_look_30 : decode prog_12_method_17_code 30 = .ok (.getfield 27, 3) := by decide +kernel
theorem d_Mod_look_33 : decode prog_12_method_17_code 33 = .ok (.iconst 1, 1) := by decide +kernel
theorem d_Mod_look_34 : decode prog_12_method_17_code 34 = .ok (.iaload, 1) := by decide +kernel
theorem d_Mod_look_35 : decode prog_12_method_17_code 35 = .ok (.sipush (243), 3) := by decide +kernel
theorem d_Mod_look_38 : decode prog_12_method_17_code 38 = .ok (.if_icmp .ne (22), 3) := by decide +kernel
theorem d_Mod_look_41 : decode prog_12_method_17_code 41 = .ok (.aload_n 0, 1) := by decide +kernel
theorem d_Mod_look_42 : decode prog_12_method_17_code 42 = .ok (.getfield 30, 3) := by decide +kernel
theorem d_Mod_look_45 : decode prog_12_method_17_code 45 = .ok (.iconst 2, 1) := by decide +kernel
theorem d_Mod_look_46 : decode prog_12_method_17_code 46 = .ok (.if_icmp .le (16), 3) := by decide +kernel
theorem d_Mod_look_49 : decode prog_12_method_17_code 49 = .ok (.aload_n 0, 1) := by decide +kernel
theorem d_Mod_look_50 : decode prog_12_method_17_code 50 = .ok (.getfield 27, 3) := by decide +kernel
theorem d_Mod_look_53 : decode prog_12_method_17_code 53 = .ok (.iconst 2, 1) := by decide +kernel
theorem d_Mod_look_54 : decode prog_12_method_17_code 54 = .ok (.iaload, 1) := by decide +kernel
theorem d_Mod_look_55 : decode prog_12_method_17_code 55 = .ok (.bipush (32), 2) := by decide +kernel
theorem d_Mod_look_57 : decode prog_12_method_17_code 57 = .ok (.if_icmp .eq (5), 3) := by decide +kernel
theorem d_Mod_look_60 : decode prog_12_method_17_code 60 = .ok (.iconst 1, 1) := by decide +kernel
theorem d_Mod_look_61 : decode prog_12_method_17_code 61 = .ok (.ireturn, 1) := by decide +kernel
theorem d_Mod_look_62 : decode prog_12_method_17_code 62 = .ok (.aload_n 0, 1) := by decide +kernel
theorem d_Mod_look_63 : decode prog_12_method_17_code 63 = .ok (.getfield 30, 3) := by decide +kernel
theorem d_Mod_look_66 : decode prog_12_method_17_code 66 = .ok (.iconst 4, 1) := by decide +kernel
theorem d_Mod_look_67 : decode prog_12_method_17_code 67 = .ok (.if_icmp .ge (5), 3) := by decide +kernel
theorem d_Mod_look_70 : decode prog_12_method_17_code 70 = .ok (.iconst 0, 1) := by decide +kernel
theorem d_Mod_look_71 : decode prog_12_method_17_code 71 = .ok (.ireturn, 1) := by decide +kernel
theorem d_Mod_look_72 : decode prog_12_method_17_code 72 = .ok (.aload_n 0, 1) := by decide +kernel
theorem d_Mod_look_73 : decode prog_12_method_17_code 73 = .ok (.getfield 27, 3) := by decide +kernel
theorem d_Mod_look_76 : decode prog_12_method_17_code 76 = .ok (.iconst 3, 1) := by decide +kernel
theorem d_Mod_look_77 : decode prog_12_method_17_code 77 = .ok (.iaload, 1) := by decide +kernel
theorem d_Mod_look_78 : decode prog_12_method_17_code 78 = .ok (.bipush (6), 2) := by decide +kernel
theorem d_Mod_look_80 : decode prog_12_method_17_code 80 = .ok (.ishr, 1) := by decide +kernel
theorem d_Mod_look_81 : decode prog_12_method_17_code 81 = .ok (.iconst 2, 1) := by decide +kernel
theorem d_Mod_look_82 : decode prog_12_method_17_code 82 = .ok (.if_icmp .eq (5), 3) := by decide +kernel
theorem d_Mod_look_85 : decode prog_12_method_17_code 85 = .ok (.iconst 1, 1) := by decide +kernel
theorem d_Mod_look_86 : decode prog_12_method_17_code 86 = .ok (.ireturn, 1) := by decide +kernel
theorem d_Mod_look_87 : decode prog_12_method_17_code 87 = .ok (.aload_n 0, 1) := by decide +kernel
theorem d_Mod_look_88 : decode prog_12_method_17_code 88 = .ok (.getfield 30, 3) := by decide +kernel
theorem d_Mod_look_91 : decode prog_12_method_17_code 91 = .ok (.bipush (7), 2) := by decide +kernel
theorem d_Mod_look_93 : decode prog_12_method_17_code 93 = .ok (.if_icmp .ge (5), 3) := by decide +kernel
theorem d_Mod_look_96 : decode prog_12_method_17_code 96 = .ok (.iconst 0, 1) := by decide +kernel
theorem d_Mod_look_97 : decode prog_12_method_17_code 97 = .ok (.ireturn, 1) := by decide +kernel
theorem d_Mod_look_98 : decode prog_12_method_17_code 98 = .ok (.aload_n 0, 1) := by decide +kernel
theorem d_Mod_look_99 : decode prog_12_method_17_code 99 = .ok (.getfield 27, 3) := by decide +kernel
theorem d_Mod_look_102 : decode prog_12_method_17_code 102 = .ok (.iconst 5, 1) := by decide +kernel
theorem d_Mod_look_103 : decode prog_12_method_17_code 103 = .ok (.iaload, 1) := by decide +kernel
theorem d_Mod_look_104 : decode prog_12_method_17_code 104 = .ok (.bipush (7), 2) := by decide +kernel
theorem d_Mod_look_106 : decode prog_12_method_17_code 106 = .ok (.iand, 1) := by decide +kernel
theorem d_Mod_look_107 : decode prog_12_method_17_code 107 = .ok (.sipush (256), 3) := by decide +kernel
theorem d_Mod_look_110 : decode prog_12_method_17_code 110 = .ok (.imul, 1) := by decide +kernel
theorem d_Mod_look_111 : decode prog_12_method_17_code 111 = .ok (.aload_n 0, 1) := by decide +kernel
theorem d_Mod_look_112 : decode prog_12_method_17_code 112 = .ok (.getfield 27, 3) := by decide +kernel
theorem d_Mod_look_115 : decode prog_12_method_17_code 115 = .ok (.bipush (6), 2) := by decide +kernel
theorem d_Mod_look_117 : decode prog_12_method_17_code 117 = .ok (.iaload, 1) := by decide +kernel
theorem d_Mod_look_118 : decode prog_12_method_17_code 118 = .ok (.iadd, 1) := by decide +kernel
theorem d_Mod_look_119 : decode prog_12_method_17_code 119 = .ok (.iconst 1, 1) := by decide +kernel
theorem d_Mod_look_120 : decode prog_12_method_17_code 120 = .ok (.iadd, 1) := by decide +kernel
