theorem d_Win_init_0 : decode prog_10_method_1_code 0 = .ok (.aload_n 0, 1) := by decide +kernel
theorem d_Win_init_1 : decode prog_10_method_1_code 1 = .ok (.invokespecial 1, 3) := by decide +kernel
theorem d_Win_init_4 : decode prog_10_method_1_code 4 = .ok (.aload_n 0, 1) := by decide +kernel
theorem d_Win_init_5 : decode prog_10_method_1_code 5 = .ok (.iconst 0, 1) := by decide +kernel
theorem d_Win_init_6 : decode prog_10_method_1_code 6 = .ok (.putfield 7, 3) := by decide +kernel
theorem d_Win_init_9 : decode prog_10_method_1_code 9 = .ok (.aload_n 0, 1) := by decide +kernel
theorem d_Win_init_10 : decode prog_10_method_1_code 10 = .ok (.iconst 1, 1) := by decide +kernel
theorem d_Win_init_11 : decode prog_10_method_1_code 11 = .ok (.putfield 13, 3) := by decide +kernel
theorem d_Win_init_14 : decode prog_10_method_1_code 14 = .ok (.aload_n 0, 1) := by decide +kernel
theorem d_Win_init_15 : decode prog_10_method_1_code 15 = .ok (.iconst 1, 1) := by decide +kernel
theorem d_Win_init_16 : decode prog_10_method_1_code 16 = .ok (.putfield 16, 3) := by decide +kernel
theorem d_Win_init_19 : decode prog_10_method_1_code 19 = .ok (.return_, 1) := by decide +kernel
theorem d_Win_set_0 : decode prog_10_method_2_code 0 = .ok (.aload_n 0, 1) := by decide +kernel
theorem d_Win_set_1 : decode prog_10_method_2_code 1 = .ok (.iload_n 1, 1) := by decide +kernel
theorem d_Win_set_2 : decode prog_10_method_2_code 2 = .ok (.putfield 7, 3) := by decide +kernel
theorem d_Win_set_5 : decode prog_10_method_2_code 5 = .ok (.aload_n 0, 1) := by decide +kernel
theorem d_Win_set_6 : decode prog_10_method_2_code 6 = .ok (.iload_n 2, 1) := by decide +kernel
theorem d_Win_set_7 : decode prog_10_method_2_code 7 = .ok (.putfield 13, 3) := by decide +kernel
theorem d_Win_set_10 : decode prog_10_method_2_code 10 = .ok (.aload_n 0, 1) := by decide +kernel
theorem d_Win_set_11 : decode prog_10_method_2_code 11 = .ok (.iload_n 3, 1) := by decide +kernel
theorem d_Win_set_12 : decode prog_10_method_2_code 12 = .ok (.putfield 16, 3) := by decide +kernel
theorem d_Win_set_15 : decode prog_10_method_2_code 15 = .ok (.return_, 1) := by decide +kernel
theorem d_Win_isOpen_0 : decode prog_10_method_3_code 0 = .ok (.iload_n 1, 1) := by decide +kernel
theorem d_Win_isOpen_1 : decode prog_10_method_3_code 1 = .ok (.i2l, 1) := by decide +kernel
theorem d_Win_isOpen_2 : decode prog_10_method_3_code 2 = .ok (.aload_n 0, 1) := by decide +kernel
theorem d_Win_isOpen_3 : decode prog_10_method_3_code 3 = .ok (.getfield 7, 3) := by decide +kernel
theorem d_Win_isOpen_6 : decode prog_10_method_3_code 6 = .ok (.i2l, 1) := by decide +kernel
theorem d_Win_isOpen_7 : decode prog_10_method_3_code 7 = .ok (.ladd, 1) := by decide +kernel
theorem d_Win_isOpen_8 : decode prog_10_method_3_code 8 = .ok (.aload_n 0, 1) := by decide +kernel
theorem d_Win_isOpen_9 : decode prog_10_method_3_code 9 = .ok (.getfield 13, 3) := by decide +kernel
theorem d_Win_isOpen_12 : decode prog_10_method_3_code 12 = .ok (.i2l, 1) := by decide +kernel
theorem d_Win_isOpen_13 : decode prog_10_method_3_code 13 = .ok (.lrem, 1) := by decide +kernel
theorem d_Win_isOpen_14 : decode prog_10_method_3_code 14 = .ok (.aload_n 0, 1) := by decide +kernel
theorem d_Win_isOpen_15 : decode prog_10_method_3_code 15 = .ok (.getfield 16, 3) := by decide +kernel
theorem d_Win_isOpen_18 : decode prog_10_method_3_code 18 = .ok (.i2l, 1) := by decide +kernel
theorem d_Win_isOpen_19 : decode prog_10_method_3_code 19 = .ok (.lcmp, 1) := by decide +kernel
theorem d_Win_isOpen_20 : decode prog_10_method_3_code 20 = .ok (.ifCond .ge (7), 3) := by decide +kernel
theorem d_Win_isOpen_23 : decode prog_10_method_3_code 23 = .ok (.iconst 1, 1) := by decide +kernel
theorem d_Win_isOpen_24 : decode prog_10_method_3_code 24 = .ok (.goto (4), 3) := by decide +kernel
theorem d_Win_isOpen_27 : decode prog_10_method_3_code 27 = .ok (.iconst 0, 1) := by decide +kernel
theorem d_Win_isOpen_28 : decode prog_10_method_3_code 28 = .ok (.ireturn, 1) := by decide +kernel
