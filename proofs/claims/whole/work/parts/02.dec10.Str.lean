theorem d_Str_init_0 : decode prog_9_method_1_code 0 = .ok (.aload_n 0, 1) := by decide +kernel
theorem d_Str_init_1 : decode prog_9_method_1_code 1 = .ok (.invokespecial 1, 3) := by decide +kernel
theorem d_Str_init_4 : decode prog_9_method_1_code 4 = .ok (.aload_n 0, 1) := by decide +kernel
theorem d_Str_init_5 : decode prog_9_method_1_code 5 = .ok (.bipush (60), 2) := by decide +kernel
theorem d_Str_init_7 : decode prog_9_method_1_code 7 = .ok (.newarray .int, 2) := by decide +kernel
theorem d_Str_init_9 : decode prog_9_method_1_code 9 = .ok (.putfield 9, 3) := by decide +kernel
theorem d_Str_init_12 : decode prog_9_method_1_code 12 = .ok (.aload_n 0, 1) := by decide +kernel
theorem d_Str_init_13 : decode prog_9_method_1_code 13 = .ok (.iconst 0, 1) := by decide +kernel
theorem d_Str_init_14 : decode prog_9_method_1_code 14 = .ok (.putfield 15, 3) := by decide +kernel
theorem d_Str_init_17 : decode prog_9_method_1_code 17 = .ok (.aload_n 0, 1) := by decide +kernel
theorem d_Str_init_18 : decode prog_9_method_1_code 18 = .ok (.iconst 0, 1) := by decide +kernel
theorem d_Str_init_19 : decode prog_9_method_1_code 19 = .ok (.putfield 19, 3) := by decide +kernel
theorem d_Str_init_22 : decode prog_9_method_1_code 22 = .ok (.return_, 1) := by decide +kernel
theorem d_Str_forget_0 : decode prog_9_method_2_code 0 = .ok (.aload_n 0, 1) := by decide +kernel
theorem d_Str_forget_1 : decode prog_9_method_2_code 1 = .ok (.iconst 0, 1) := by decide +kernel
theorem d_Str_forget_2 : decode prog_9_method_2_code 2 = .ok (.putfield 19, 3) := by decide +kernel
theorem d_Str_forget_5 : decode prog_9_method_2_code 5 = .ok (.aload_n 0, 1) := by decide +kernel
theorem d_Str_forget_6 : decode prog_9_method_2_code 6 = .ok (.iconst 0, 1) := by decide +kernel
theorem d_Str_forget_7 : decode prog_9_method_2_code 7 = .ok (.putfield 15, 3) := by decide +kernel
theorem d_Str_forget_10 : decode prog_9_method_2_code 10 = .ok (.return_, 1) := by decide +kernel
theorem d_Str_hold_0 : decode prog_9_method_3_code 0 = .ok (.aload_n 0, 1) := by decide +kernel
theorem d_Str_hold_1 : decode prog_9_method_3_code 1 = .ok (.iconst 1, 1) := by decide +kernel
theorem d_Str_hold_2 : decode prog_9_method_3_code 2 = .ok (.putfield 19, 3) := by decide +kernel
theorem d_Str_hold_5 : decode prog_9_method_3_code 5 = .ok (.aload_n 0, 1) := by decide +kernel
theorem d_Str_hold_6 : decode prog_9_method_3_code 6 = .ok (.aload_n 1, 1) := by decide +kernel
theorem d_Str_hold_7 : decode prog_9_method_3_code 7 = .ok (.getfield 23, 3) := by decide +kernel
theorem d_Str_hold_10 : decode prog_9_method_3_code 10 = .ok (.putfield 15, 3) := by decide +kernel
theorem d_Str_hold_13 : decode prog_9_method_3_code 13 = .ok (.aload_n 1, 1) := by decide +kernel
theorem d_Str_hold_14 : decode prog_9_method_3_code 14 = .ok (.getfield 26, 3) := by decide +kernel
theorem d_Str_hold_17 : decode prog_9_method_3_code 17 = .ok (.iconst 0, 1) := by decide +kernel
theorem d_Str_hold_18 : decode prog_9_method_3_code 18 = .ok (.aload_n 0, 1) := by decide +kernel
theorem d_Str_hold_19 : decode prog_9_method_3_code 19 = .ok (.getfield 9, 3) := by decide +kernel
theorem d_Str_hold_22 : decode prog_9_method_3_code 22 = .ok (.iconst 0, 1) := by decide +kernel
theorem d_Str_hold_23 : decode prog_9_method_3_code 23 = .ok (.aload_n 0, 1) := by decide +kernel
theorem d_Str_hold_24 : decode prog_9_method_3_code 24 = .ok (.getfield 15, 3) := by decide +kernel
theorem d_Str_hold_27 : decode prog_9_method_3_code 27 = .ok (.invokestatic 29, 3) := by decide +kernel
theorem d_Str_hold_30 : decode prog_9_method_3_code 30 = .ok (.return_, 1) := by decide +kernel
