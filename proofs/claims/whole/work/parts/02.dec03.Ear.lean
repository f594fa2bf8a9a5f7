theorem d_Ear_init_0 : decode prog_2_method_1_code 0 = .ok (.aload_n 0, 1) := by decide +kernel
theorem d_Ear_init_1 : decode prog_2_method_1_code 1 = .ok (.invokespecial 3, 3) := by decide +kernel
theorem d_Ear_init_4 : decode prog_2_method_1_code 4 = .ok (.aload_n 0, 1) := by decide +kernel
theorem d_Ear_init_5 : decode prog_2_method_1_code 5 = .ok (.bipush (32), 2) := by decide +kernel
theorem d_Ear_init_7 : decode prog_2_method_1_code 7 = .ok (.newarray .int, 2) := by decide +kernel
theorem d_Ear_init_9 : decode prog_2_method_1_code 9 = .ok (.putfield 11, 3) := by decide +kernel
theorem d_Ear_init_12 : decode prog_2_method_1_code 12 = .ok (.aload_n 0, 1) := by decide +kernel
theorem d_Ear_init_13 : decode prog_2_method_1_code 13 = .ok (.iconst 2, 1) := by decide +kernel
theorem d_Ear_init_14 : decode prog_2_method_1_code 14 = .ok (.newarray .int, 2) := by decide +kernel
theorem d_Ear_init_16 : decode prog_2_method_1_code 16 = .ok (.putfield 15, 3) := by decide +kernel
theorem d_Ear_init_19 : decode prog_2_method_1_code 19 = .ok (.aload_n 0, 1) := by decide +kernel
theorem d_Ear_init_20 : decode prog_2_method_1_code 20 = .ok (.iconst 0, 1) := by decide +kernel
theorem d_Ear_init_21 : decode prog_2_method_1_code 21 = .ok (.putfield 18, 3) := by decide +kernel
theorem d_Ear_init_24 : decode prog_2_method_1_code 24 = .ok (.return_, 1) := by decide +kernel
theorem d_Ear_hasByte_0 : decode prog_2_method_2_code 0 = .ok (.aload_n 0, 1) := by decide +kernel
theorem d_Ear_hasByte_1 : decode prog_2_method_2_code 1 = .ok (.getfield 18, 3) := by decide +kernel
theorem d_Ear_hasByte_4 : decode prog_2_method_2_code 4 = .ok (.ifCond .eq (17), 3) := by decide +kernel
theorem d_Ear_hasByte_7 : decode prog_2_method_2_code 7 = .ok (.iload_n 1, 1) := by decide +kernel
theorem d_Ear_hasByte_8 : decode prog_2_method_2_code 8 = .ok (.ifCond .lt (13), 3) := by decide +kernel
theorem d_Ear_hasByte_11 : decode prog_2_method_2_code 11 = .ok (.iload_n 1, 1) := by decide +kernel
theorem d_Ear_hasByte_12 : decode prog_2_method_2_code 12 = .ok (.bipush (32), 2) := by decide +kernel
theorem d_Ear_hasByte_14 : decode prog_2_method_2_code 14 = .ok (.if_icmp .ge (7), 3) := by decide +kernel
theorem d_Ear_hasByte_17 : decode prog_2_method_2_code 17 = .ok (.iconst 1, 1) := by decide +kernel
theorem d_Ear_hasByte_18 : decode prog_2_method_2_code 18 = .ok (.goto (4), 3) := by decide +kernel
theorem d_Ear_hasByte_21 : decode prog_2_method_2_code 21 = .ok (.iconst 0, 1) := by decide +kernel
theorem d_Ear_hasByte_22 : decode prog_2_method_2_code 22 = .ok (.ireturn, 1) := by decide +kernel
theorem d_Ear_emit_0 : decode prog_2_method_3_code 0 = .ok (.aload_n 0, 1) := by decide +kernel
theorem d_Ear_emit_1 : decode prog_2_method_3_code 1 = .ok (.getfield 15, 3) := by decide +kernel
theorem d_Ear_emit_4 : decode prog_2_method_3_code 4 = .ok (.iload_n 1, 1) := by decide +kernel
theorem d_Ear_emit_5 : decode prog_2_method_3_code 5 = .ok (.iaload, 1) := by decide +kernel
theorem d_Ear_emit_6 : decode prog_2_method_3_code 6 = .ok (.istore_n 3, 1) := by decide +kernel
theorem d_Ear_emit_7 : decode prog_2_method_3_code 7 = .ok (.aload_n 0, 1) := by decide +kernel
theorem d_Ear_emit_8 : decode prog_2_method_3_code 8 = .ok (.getfield 15, 3) := by decide +kernel
theorem d_Ear_emit_11 : decode prog_2_method_3_code 11 = .ok (.iload_n 1, 1) := by decide +kernel
theorem d_Ear_emit_12 : decode prog_2_method_3_code 12 = .ok (.dup2, 1) := by decide +kernel
theorem d_Ear_emit_13 : decode prog_2_method_3_code 13 = .ok (.iaload, 1) := by decide +kernel
theorem d_Ear_emit_14 : decode prog_2_method_3_code 14 = .ok (.iconst 1, 1) := by decide +kernel
theorem d_Ear_emit_15 : decode prog_2_method_3_code 15 = .ok (.iadd, 1) := by decide +kernel
theorem d_Ear_emit_16 : decode prog_2_method_3_code 16 = .ok (.iastore, 1) := by decide +kernel
theorem d_Ear_emit_17 : decode prog_2_method_3_code 17 = .ok (.aload_n 0, 1) := by decide +kernel
theorem d_Ear_emit_18 : decode prog_2_method_3_code 18 = .ok (.iconst 1, 1) := by decide +kernel
theorem d_Ear_emit_19 : decode prog_2_method_3_code 19 = .ok (.putfield 18, 3) := by decide +kernel
theorem d_Ear_emit_22 : decode prog_2_method_3_code 22 = .ok (.aload_n 0, 1) := by decide +kernel
theorem d_Ear_emit_23 : decode prog_2_method_3_code 23 = .ok (.sipush (21312), 3) := by decide +kernel
theorem d_Ear_emit_26 : decode prog_2_method_3_code 26 = .ok (.iload_n 1, 1) := by decide +kernel
theorem d_Ear_emit_27 : decode prog_2_method_3_code 27 = .ok (.iadd, 1) := by decide +kernel
theorem d_Ear_emit_28 : decode prog_2_method_3_code 28 = .ok (.iconst 0, 1) := by decide +kernel
theorem d_Ear_emit_29 : decode prog_2_method_3_code 29 = .ok (.iconst 2, 1) := by decide +kernel
theorem d_Ear_emit_30 : decode prog_2_method_3_code 30 = .ok (.invokevirtual 22, 3) := by decide +kernel
theorem d_Ear_emit_33 : decode prog_2_method_3_code 33 = .ok (.aload_n 0, 1) := by decide +kernel
theorem d_Ear_emit_34 : decode prog_2_method_3_code 34 = .ok (.iload_n 3, 1) := by decide +kernel
theorem d_Ear_emit_35 : decode prog_2_method_3_code 35 = .ok (.iconst 2, 1) := by decide +kernel
theorem d_Ear_emit_36 : decode prog_2_method_3_code 36 = .ok (.iconst 3, 1) := by decide +kernel
theorem d_Ear_emit_37 : decode prog_2_method_3_code 37 = .ok (.invokevirtual 22, 3) := by decide +kernel
theorem d_Ear_emit_40 : decode prog_2_method_3_code 40 = .ok (.aload_n 0, 1) := by decide +kernel
theorem d_Ear_emit_41 : decode prog_2_method_3_code 41 = .ok (.iconst 0, 1) := by decide +kernel
theorem d_Ear_emit_42 : decode prog_2_method_3_code 42 = .ok (.iconst 5, 1) := by decide +kernel
theorem d_Ear_emit_43 : decode prog_2_method_3_code 43 = .ok (.iconst 1, 1) := by decide +kernel
theorem d_Ear_emit_44 : decode prog_2_method_3_code 44 = .ok (.invokevirtual 22, 3) := by decide +kernel
theorem d_Ear_emit_47 : decode prog_2_method_3_code 47 = .ok (.aload_n 0, 1) := by decide +kernel
theorem d_Ear_emit_48 : decode prog_2_method_3_code 48 = .ok (.aload_n 0, 1) := by decide +kernel
theorem d_Ear_emit_49 : decode prog_2_method_3_code 49 = .ok (.iload_n 1, 1) := by decide +kernel
theorem d_Ear_emit_50 : decode prog_2_method_3_code 50 = .ok (.aload_n 2, 1) := by decide +kernel
theorem d_Ear_emit_51 : decode prog_2_method_3_code 51 = .ok (.invokevirtual 26, 3) := by decide +kernel
theorem d_Ear_emit_54 : decode prog_2_method_3_code 54 = .ok (.bipush (6), 2) := by decide +kernel
theorem d_Ear_emit_56 : decode prog_2_method_3_code 56 = .ok (.iconst 2, 1) := by decide +kernel
theorem d_Ear_emit_57 : decode prog_2_method_3_code 57 = .ok (.invokevirtual 22, 3) := by decide +kernel
theorem d_Ear_emit_60 : decode prog_2_method_3_code 60 = .ok (.aload_n 0, 1) := by decide +kernel
theorem d_Ear_emit_61 : decode prog_2_method_3_code 61 = .ok (.aload_n 0, 1) := by decide +kernel
theorem d_Ear_emit_62 : decode prog_2_method_3_code 62 = .ok (.getfield 11, 3) := by decide +kernel
theorem d_Ear_emit_65 : decode prog_2_method_3_code 65 = .ok (.iconst 0, 1) := by decide +kernel
theorem d_Ear_emit_66 : decode prog_2_method_3_code 66 = .ok (.bipush (30), 2) := by decide +kernel
theorem d_Ear_emit_68 : decode prog_2_method_3_code 68 = .ok (.bipush (16), 2) := by decide +kernel
theorem d_Ear_emit_70 : decode prog_2_method_3_code 70 = .ok (.ldc 30, 2) := by decide +kernel
theorem d_Ear_emit_72 : decode prog_2_method_3_code 72 = .ok (.sipush (4129), 3) := by decide +kernel
theorem d_Ear_emit_75 : decode prog_2_method_3_code 75 = .ok (.invokestatic 31, 3) := by decide +kernel
theorem d_Ear_emit_78 : decode prog_2_method_3_code 78 = .ok (.bipush (30), 2) := by decide +kernel
theorem d_Ear_emit_80 : decode prog_2_method_3_code 80 = .ok (.iconst 2, 1) := by decide +kernel
theorem d_Ear_emit_81 : decode prog_2_method_3_code 81 = .ok (.invokevirtual 22, 3) := by decide +kernel
theorem d_Ear_emit_84 : decode prog_2_method_3_code 84 = .ok (.aload_n 2, 1) := by decide +kernel
theorem d_Ear_emit_85 : decode prog_2_method_3_code 85 = .ok (.invokevirtual 35, 3) := by decide +kernel
theorem d_Ear_emit_88 : decode prog_2_method_3_code 88 = .ok (.iload_n 3, 1) := by decide +kernel
theorem d_Ear_emit_89 : decode prog_2_method_3_code 89 = .ok (.ireturn, 1) := by decide +kernel
theorem d_Ear_putNumber_0 : decode prog_2_method_4_code 0 = .ok (.iconst 0, 1) := by decide +kernel
theorem d_Ear_putNumber_1 : decode prog_2_method_4_code 1 = .ok (.istore 4, 2) := by decide +kernel
theorem d_Ear_putNumber_3 : decode prog_2_method_4_code 3 = .ok (.iload 4, 2) := by decide +kernel
theorem d_Ear_putNumber_5 : decode prog_2_method_4_code 5 = .ok (.iload_n 3, 1) := by decide +kernel
theorem d_Ear_putNumber_6 : decode prog_2_method_4_code 6 = .ok (.if_icmp .ge (33), 3) := by decide +kernel
theorem d_Ear_putNumber_9 : decode prog_2_method_4_code 9 = .ok (.aload_n 0, 1) := by decide +kernel
theorem d_Ear_putNumber_10 : decode prog_2_method_4_code 10 = .ok (.getfield 11, 3) := by decide +kernel
theorem d_Ear_putNumber_13 : decode prog_2_method_4_code 13 = .ok (.iload_n 2, 1) := by decide +kernel
theorem d_Ear_putNumber_14 : decode prog_2_method_4_code 14 = .ok (.iload 4, 2) := by decide +kernel
theorem d_Ear_putNumber_16 : decode prog_2_method_4_code 16 = .ok (.iadd, 1) := by decide +kernel
theorem d_Ear_putNumber_17 : decode prog_2_method_4_code 17 = .ok (.iload_n 1, 1) := by decide +kernel
theorem d_Ear_putNumber_18 : decode prog_2_method_4_code 18 = .ok (.bipush (8), 2) := by decide +kernel
theorem d_Ear_putNumber_20 : decode prog_2_method_4_code 20 = .ok (.iload_n 3, 1) := by decide +kernel
theorem d_Ear_putNumber_21 : decode prog_2_method_4_code 21 = .ok (.iconst 1, 1) := by decide +kernel
theorem d_Ear_putNumber_22 : decode prog_2_method_4_code 22 = .ok (.isub, 1) := by decide +kernel
theorem d_Ear_putNumber_23 : decode prog_2_method_4_code 23 = .ok (.iload 4, 2) := by decide +kernel
theorem d_Ear_putNumber_25 : decode prog_2_method_4_code 25 = .ok (.isub, 1) := by decide +kernel
theorem d_Ear_putNumber_26 : decode prog_2_method_4_code 26 = .ok (.imul, 1) := by decide +kernel
theorem d_Ear_putNumber_27 : decode prog_2_method_4_code 27 = .ok (.iushr, 1) := by decide +kernel
theorem d_Ear_putNumber_28 : decode prog_2_method_4_code 28 = .ok (.sipush (255), 3) := by decide +kernel
theorem d_Ear_putNumber_31 : decode prog_2_method_4_code 31 = .ok (.iand, 1) := by decide +kernel
theorem d_Ear_putNumber_32 : decode prog_2_method_4_code 32 = .ok (.iastore, 1) := by decide +kernel
theorem d_Ear_putNumber_33 : decode prog_2_method_4_code 33 = .ok (.iinc 4 (1), 3) := by decide +kernel
theorem d_Ear_putNumber_36 : decode prog_2_method_4_code 36 = .ok (.goto (-33), 3) := by decide +kernel
theorem d_Ear_putNumber_39 : decode prog_2_method_4_code 39 = .ok (.return_, 1) := by decide +kernel
theorem d_Ear_fillZone_0 : decode prog_2_method_5_code 0 = .ok (.aload_n 0, 1) := by decide +kernel
theorem d_Ear_fillZone_1 : decode prog_2_method_5_code 1 = .ok (.getfield 11, 3) := by decide +kernel
theorem d_Ear_fillZone_4 : decode prog_2_method_5_code 4 = .ok (.bipush (8), 2) := by decide +kernel
theorem d_Ear_fillZone_6 : decode prog_2_method_5_code 6 = .ok (.bipush (30), 2) := by decide +kernel
theorem d_Ear_fillZone_8 : decode prog_2_method_5_code 8 = .ok (.bipush (85), 2) := by decide +kernel
theorem d_Ear_fillZone_10 : decode prog_2_method_5_code 10 = .ok (.invokestatic 40, 3) := by decide +kernel
theorem d_Ear_fillZone_13 : decode prog_2_method_5_code 13 = .ok (.sipush (2046), 3) := by decide +kernel
theorem d_Ear_fillZone_16 : decode prog_2_method_5_code 16 = .ok (.istore_n 3, 1) := by decide +kernel
theorem d_Ear_fillZone_17 : decode prog_2_method_5_code 17 = .ok (.bipush (8), 2) := by decide +kernel
theorem d_Ear_fillZone_19 : decode prog_2_method_5_code 19 = .ok (.istore 4, 2) := by decide +kernel
theorem d_Ear_fillZone_21 : decode prog_2_method_5_code 21 = .ok (.iconst 0, 1) := by decide +kernel
theorem d_Ear_fillZone_22 : decode prog_2_method_5_code 22 = .ok (.istore 5, 2) := by decide +kernel
theorem d_Ear_fillZone_24 : decode prog_2_method_5_code 24 = .ok (.iload 5, 2) := by decide +kernel
theorem d_Ear_fillZone_26 : decode prog_2_method_5_code 26 = .ok (.aload_n 2, 1) := by decide +kernel
theorem d_Ear_fillZone_27 : decode prog_2_method_5_code 27 = .ok (.getfield 46, 3) := by decide +kernel
theorem d_Ear_fillZone_30 : decode prog_2_method_5_code 30 = .ok (.if_icmp .ge (59), 3) := by decide +kernel
theorem d_Ear_fillZone_33 : decode prog_2_method_5_code 33 = .ok (.iload 4, 2) := by decide +kernel
theorem d_Ear_fillZone_35 : decode prog_2_method_5_code 35 = .ok (.bipush (30), 2) := by decide +kernel
theorem d_Ear_fillZone_37 : decode prog_2_method_5_code 37 = .ok (.if_icmp .ge (52), 3) := by decide +kernel
theorem d_Ear_fillZone_40 : decode prog_2_method_5_code 40 = .ok (.aload_n 2, 1) := by decide +kernel
theorem d_Ear_fillZone_41 : decode prog_2_method_5_code 41 = .ok (.getfield 50, 3) := by decide +kernel
theorem d_Ear_fillZone_44 : decode prog_2_method_5_code 44 = .ok (.iload 5, 2) := by decide +kernel
theorem d_Ear_fillZone_46 : decode prog_2_method_5_code 46 = .ok (.aaload, 1) := by decide +kernel
theorem d_Ear_fillZone_47 : decode prog_2_method_5_code 47 = .ok (.astore 6, 2) := by decide +kernel
theorem d_Ear_fillZone_49 : decode prog_2_method_5_code 49 = .ok (.aload 6, 2) := by decide +kernel
theorem d_Ear_fillZone_51 : decode prog_2_method_5_code 51 = .ok (.getfield 54, 3) := by decide +kernel
theorem d_Ear_fillZone_54 : decode prog_2_method_5_code 54 = .ok (.iconst 2, 1) := by decide +kernel
theorem d_Ear_fillZone_55 : decode prog_2_method_5_code 55 = .ok (.irem, 1) := by decide +kernel
theorem d_Ear_fillZone_56 : decode prog_2_method_5_code 56 = .ok (.iload_n 1, 1) := by decide +kernel
theorem d_Ear_fillZone_57 : decode prog_2_method_5_code 57 = .ok (.if_icmp .ne (26), 3) := by decide +kernel
theorem d_Ear_fillZone_60 : decode prog_2_method_5_code 60 = .ok (.aload 6, 2) := by decide +kernel
theorem d_Ear_fillZone_62 : decode prog_2_method_5_code 62 = .ok (.iload 4, 2) := by decide +kernel
theorem d_Ear_fillZone_64 : decode prog_2_method_5_code 64 = .ok (.bipush (8), 2) := by decide +kernel
theorem d_Ear_fillZone_66 : decode prog_2_method_5_code 66 = .ok (.isub, 1) := by decide +kernel
theorem d_Ear_fillZone_67 : decode prog_2_method_5_code 67 = .ok (.iload_n 3, 1) := by decide +kernel
theorem d_Ear_fillZone_68 : decode prog_2_method_5_code 68 = .ok (.invokestatic 59, 3) := by decide +kernel
theorem d_Ear_fillZone_71 : decode prog_2_method_5_code 71 = .ok (.istore_n 3, 1) := by decide +kernel
theorem d_Ear_fillZone_72 : decode prog_2_method_5_code 72 = .ok (.aload_n 0, 1) := by decide +kernel
theorem d_Ear_fillZone_73 : decode prog_2_method_5_code 73 = .ok (.aload 6, 2) := by decide +kernel
theorem d_Ear_fillZone_75 : decode prog_2_method_5_code 75 = .ok (.iload 4, 2) := by decide +kernel
theorem d_Ear_fillZone_77 : decode prog_2_method_5_code 77 = .ok (.aload_n 2, 1) := by decide +kernel
theorem d_Ear_fillZone_78 : decode prog_2_method_5_code 78 = .ok (.invokevirtual 63, 3) := by decide +kernel
theorem d_Ear_fillZone_81 : decode prog_2_method_5_code 81 = .ok (.istore 4, 2) := by decide +kernel
theorem d_Ear_fillZone_83 : decode prog_2_method_5_code 83 = .ok (.iinc 5 (1), 3) := by decide +kernel
theorem d_Ear_fillZone_86 : decode prog_2_method_5_code 86 = .ok (.goto (-62), 3) := by decide +kernel
theorem d_Ear_fillZone_89 : decode prog_2_method_5_code 89 = .ok (.iload_n 3, 1) := by decide +kernel
theorem d_Ear_fillZone_90 : decode prog_2_method_5_code 90 = .ok (.ireturn, 1) := by decide +kernel
theorem d_Ear_pointerWith_0 : decode prog_2_method_6_code 0 = .ok (.iload_n 2, 1) := by decide +kernel
theorem d_Ear_pointerWith_1 : decode prog_2_method_6_code 1 = .ok (.sipush (2046), 3) := by decide +kernel
theorem d_Ear_pointerWith_4 : decode prog_2_method_6_code 4 = .ok (.if_icmp .eq (10), 3) := by decide +kernel
theorem d_Ear_pointerWith_7 : decode prog_2_method_6_code 7 = .ok (.iload_n 2, 1) := by decide +kernel
theorem d_Ear_pointerWith_8 : decode prog_2_method_6_code 8 = .ok (.sipush (2047), 3) := by decide +kernel
theorem d_Ear_pointerWith_11 : decode prog_2_method_6_code 11 = .ok (.if_icmp .ne (7), 3) := by decide +kernel
theorem d_Ear_pointerWith_14 : decode prog_2_method_6_code 14 = .ok (.iconst 1, 1) := by decide +kernel
theorem d_Ear_pointerWith_15 : decode prog_2_method_6_code 15 = .ok (.goto (4), 3) := by decide +kernel
theorem d_Ear_pointerWith_18 : decode prog_2_method_6_code 18 = .ok (.iconst 0, 1) := by decide +kernel
theorem d_Ear_pointerWith_19 : decode prog_2_method_6_code 19 = .ok (.istore_n 3, 1) := by decide +kernel
theorem d_Ear_pointerWith_20 : decode prog_2_method_6_code 20 = .ok (.aload_n 0, 1) := by decide +kernel
theorem d_Ear_pointerWith_21 : decode prog_2_method_6_code 21 = .ok (.getfield 67, 3) := by decide +kernel
theorem d_Ear_pointerWith_24 : decode prog_2_method_6_code 24 = .ok (.ifCond .ne (13), 3) := by decide +kernel
theorem d_Ear_pointerWith_27 : decode prog_2_method_6_code 27 = .ok (.iload_n 3, 1) := by decide +kernel
theorem d_Ear_pointerWith_28 : decode prog_2_method_6_code 28 = .ok (.ifCond .eq (7), 3) := by decide +kernel
theorem d_Ear_pointerWith_31 : decode prog_2_method_6_code 31 = .ok (.iload_n 1, 1) := by decide +kernel
theorem d_Ear_pointerWith_32 : decode prog_2_method_6_code 32 = .ok (.goto (4), 3) := by decide +kernel
theorem d_Ear_pointerWith_35 : decode prog_2_method_6_code 35 = .ok (.iload_n 2, 1) := by decide +kernel
theorem d_Ear_pointerWith_36 : decode prog_2_method_6_code 36 = .ok (.ireturn, 1) := by decide +kernel
theorem d_Ear_pointerWith_37 : decode prog_2_method_6_code 37 = .ok (.iload_n 3, 1) := by decide +kernel
theorem d_Ear_pointerWith_38 : decode prog_2_method_6_code 38 = .ok (.ifCond .eq (9), 3) := by decide +kernel
theorem d_Ear_pointerWith_41 : decode prog_2_method_6_code 41 = .ok (.sipush (2047), 3) := by decide +kernel
theorem d_Ear_pointerWith_44 : decode prog_2_method_6_code 44 = .ok (.goto (4), 3) := by decide +kernel
theorem d_Ear_pointerWith_47 : decode prog_2_method_6_code 47 = .ok (.iload_n 2, 1) := by decide +kernel
theorem d_Ear_pointerWith_48 : decode prog_2_method_6_code 48 = .ok (.ireturn, 1) := by decide +kernel
theorem d_Ear_emitPart_0 : decode prog_2_method_7_code 0 = .ok (.iload_n 2, 1) := by decide +kernel
theorem d_Ear_emitPart_1 : decode prog_2_method_7_code 1 = .ok (.istore 4, 2) := by decide +kernel
theorem d_Ear_emitPart_3 : decode prog_2_method_7_code 3 = .ok (.iload 4, 2) := by decide +kernel
theorem d_Ear_emitPart_5 : decode prog_2_method_7_code 5 = .ok (.bipush (30), 2) := by decide +kernel
theorem d_Ear_emitPart_7 : decode prog_2_method_7_code 7 = .ok (.if_icmp .ge (46), 3) := by decide +kernel
theorem d_Ear_emitPart_10 : decode prog_2_method_7_code 10 = .ok (.aload_n 1, 1) := by decide +kernel
theorem d_Ear_emitPart_11 : decode prog_2_method_7_code 11 = .ok (.getfield 67, 3) := by decide +kernel
theorem d_Ear_emitPart_14 : decode prog_2_method_7_code 14 = .ok (.aload_n 1, 1) := by decide +kernel
theorem d_Ear_emitPart_15 : decode prog_2_method_7_code 15 = .ok (.getfield 70, 3) := by decide +kernel
theorem d_Ear_emitPart_18 : decode prog_2_method_7_code 18 = .ok (.if_icmp .ge (35), 3) := by decide +kernel
theorem d_Ear_emitPart_21 : decode prog_2_method_7_code 21 = .ok (.aload_n 0, 1) := by decide +kernel
theorem d_Ear_emitPart_22 : decode prog_2_method_7_code 22 = .ok (.getfield 11, 3) := by decide +kernel
theorem d_Ear_emitPart_25 : decode prog_2_method_7_code 25 = .ok (.iload 4, 2) := by decide +kernel
theorem d_Ear_emitPart_27 : decode prog_2_method_7_code 27 = .ok (.aload_n 3, 1) := by decide +kernel
theorem d_Ear_emitPart_28 : decode prog_2_method_7_code 28 = .ok (.aload_n 1, 1) := by decide +kernel
theorem d_Ear_emitPart_29 : decode prog_2_method_7_code 29 = .ok (.aload_n 1, 1) := by decide +kernel
theorem d_Ear_emitPart_30 : decode prog_2_method_7_code 30 = .ok (.getfield 67, 3) := by decide +kernel
theorem d_Ear_emitPart_33 : decode prog_2_method_7_code 33 = .ok (.invokevirtual 73, 3) := by decide +kernel
theorem d_Ear_emitPart_36 : decode prog_2_method_7_code 36 = .ok (.iastore, 1) := by decide +kernel
theorem d_Ear_emitPart_37 : decode prog_2_method_7_code 37 = .ok (.aload_n 1, 1) := by decide +kernel
theorem d_Ear_emitPart_38 : decode prog_2_method_7_code 38 = .ok (.dup, 1) := by decide +kernel
theorem d_Ear_emitPart_39 : decode prog_2_method_7_code 39 = .ok (.getfield 67, 3) := by decide +kernel
theorem d_Ear_emitPart_42 : decode prog_2_method_7_code 42 = .ok (.iconst 1, 1) := by decide +kernel
theorem d_Ear_emitPart_43 : decode prog_2_method_7_code 43 = .ok (.iadd, 1) := by decide +kernel
theorem d_Ear_emitPart_44 : decode prog_2_method_7_code 44 = .ok (.putfield 67, 3) := by decide +kernel
theorem d_Ear_emitPart_47 : decode prog_2_method_7_code 47 = .ok (.iinc 4 (1), 3) := by decide +kernel
theorem d_Ear_emitPart_50 : decode prog_2_method_7_code 50 = .ok (.goto (-47), 3) := by decide +kernel
theorem d_Ear_emitPart_53 : decode prog_2_method_7_code 53 = .ok (.iload 4, 2) := by decide +kernel
theorem d_Ear_emitPart_55 : decode prog_2_method_7_code 55 = .ok (.ireturn, 1) := by decide +kernel
