abbrev y_Arr_fill : MethodName := ⟨"java/util/Arrays", "fill", "([IIII)V"⟩
abbrev k_Arr_fill : zK := (y_Arr_fill, prog_30_method_104_code, 5, none)
set_option maxRecDepth 20000 in
theorem s_Arr_fill : Cond.static k_Arr_fill.1 ∈ tb := tb_in 730 (by decide +kernel) (by decide +kernel)
theorem d_Arr_fill_0 : decode prog_30_method_104_code 0 = .ok (.aload_n 0, 1) := by decide +kernel
theorem d_Arr_fill_1 : decode prog_30_method_104_code 1 = .ok (.arraylength, 1) := by decide +kernel
theorem d_Arr_fill_2 : decode prog_30_method_104_code 2 = .ok (.iload_n 1, 1) := by decide +kernel
theorem d_Arr_fill_3 : decode prog_30_method_104_code 3 = .ok (.iload_n 2, 1) := by decide +kernel
theorem d_Arr_fill_4 : decode prog_30_method_104_code 4 = .ok (.invokestatic 13, 3) := by decide +kernel
theorem d_Arr_fill_7 : decode prog_30_method_104_code 7 = .ok (.iload_n 1, 1) := by decide +kernel
theorem d_Arr_fill_8 : decode prog_30_method_104_code 8 = .ok (.istore 4, 2) := by decide +kernel
theorem d_Arr_fill_10 : decode prog_30_method_104_code 10 = .ok (.iload 4, 2) := by decide +kernel
theorem d_Arr_fill_12 : decode prog_30_method_104_code 12 = .ok (.iload_n 2, 1) := by decide +kernel
theorem d_Arr_fill_13 : decode prog_30_method_104_code 13 = .ok (.if_icmp .ge (14), 3) := by decide +kernel
theorem d_Arr_fill_16 : decode prog_30_method_104_code 16 = .ok (.aload_n 0, 1) := by decide +kernel
theorem d_Arr_fill_17 : decode prog_30_method_104_code 17 = .ok (.iload 4, 2) := by decide +kernel
theorem d_Arr_fill_19 : decode prog_30_method_104_code 19 = .ok (.iload_n 3, 1) := by decide +kernel
theorem d_Arr_fill_20 : decode prog_30_method_104_code 20 = .ok (.iastore, 1) := by decide +kernel
theorem d_Arr_fill_21 : decode prog_30_method_104_code 21 = .ok (.iinc 4 (1), 3) := by decide +kernel
theorem d_Arr_fill_24 : decode prog_30_method_104_code 24 = .ok (.goto (-14), 3) := by decide +kernel
theorem d_Arr_fill_27 : decode prog_30_method_104_code 27 = .ok (.return_, 1) := by decide +kernel
abbrev y_Arr_rangeCheck : MethodName := ⟨"java/util/Arrays", "rangeCheck", "(III)V"⟩
abbrev k_Arr_rangeCheck : zK := (y_Arr_rangeCheck, prog_30_method_30_code, 3, none)
set_option maxRecDepth 20000 in
theorem s_Arr_rangeCheck : Cond.static k_Arr_rangeCheck.1 ∈ tb := tb_in 733 (by decide +kernel) (by decide +kernel)
theorem d_Arr_rangeCheck_0 : decode prog_30_method_30_code 0 = .ok (.iload_n 1, 1) := by decide +kernel
theorem d_Arr_rangeCheck_1 : decode prog_30_method_30_code 1 = .ok (.iload_n 2, 1) := by decide +kernel
theorem d_Arr_rangeCheck_2 : decode prog_30_method_30_code 2 = .ok (.if_icmp .le (44), 3) := by decide +kernel
theorem d_Arr_rangeCheck_8 : decode prog_30_method_30_code 8 = .ok (.dup, 1) := by decide +kernel
theorem d_Arr_rangeCheck_12 : decode prog_30_method_30_code 12 = .ok (.dup, 1) := by decide +kernel
theorem d_Arr_rangeCheck_18 : decode prog_30_method_30_code 18 = .ok (.invokevirtual 50, 3) := by decide +kernel
theorem d_Arr_rangeCheck_21 : decode prog_30_method_30_code 21 = .ok (.iload_n 1, 1) := by decide +kernel
theorem d_Arr_rangeCheck_22 : decode prog_30_method_30_code 22 = .ok (.invokevirtual 54, 3) := by decide +kernel
theorem d_Arr_rangeCheck_27 : decode prog_30_method_30_code 27 = .ok (.invokevirtual 50, 3) := by decide +kernel
theorem d_Arr_rangeCheck_30 : decode prog_30_method_30_code 30 = .ok (.iload_n 2, 1) := by decide +kernel
theorem d_Arr_rangeCheck_31 : decode prog_30_method_30_code 31 = .ok (.invokevirtual 54, 3) := by decide +kernel
theorem d_Arr_rangeCheck_36 : decode prog_30_method_30_code 36 = .ok (.invokevirtual 50, 3) := by decide +kernel
theorem d_Arr_rangeCheck_39 : decode prog_30_method_30_code 39 = .ok (.invokevirtual 61, 3) := by decide +kernel
theorem d_Arr_rangeCheck_46 : decode prog_30_method_30_code 46 = .ok (.iload_n 1, 1) := by decide +kernel
theorem d_Arr_rangeCheck_47 : decode prog_30_method_30_code 47 = .ok (.ifCond .ge (12), 3) := by decide +kernel
theorem d_Arr_rangeCheck_53 : decode prog_30_method_30_code 53 = .ok (.dup, 1) := by decide +kernel
theorem d_Arr_rangeCheck_54 : decode prog_30_method_30_code 54 = .ok (.iload_n 1, 1) := by decide +kernel
theorem d_Arr_rangeCheck_59 : decode prog_30_method_30_code 59 = .ok (.iload_n 2, 1) := by decide +kernel
theorem d_Arr_rangeCheck_60 : decode prog_30_method_30_code 60 = .ok (.iload_n 0, 1) := by decide +kernel
theorem d_Arr_rangeCheck_61 : decode prog_30_method_30_code 61 = .ok (.if_icmp .le (12), 3) := by decide +kernel
theorem d_Arr_rangeCheck_67 : decode prog_30_method_30_code 67 = .ok (.dup, 1) := by decide +kernel
theorem d_Arr_rangeCheck_68 : decode prog_30_method_30_code 68 = .ok (.iload_n 2, 1) := by decide +kernel
theorem d_Arr_rangeCheck_73 : decode prog_30_method_30_code 73 = .ok (.return_, 1) := by decide +kernel
set_option maxRecDepth 20000 in
theorem l_Ear_40 : ML "RelayOrbiter$EarthLink" 40 k_Arr_fill 4 := ⟨Or.inl (tb_in 729 (by decide +kernel) (by decide +kernel)), tb_in 731 (by decide +kernel) (by decide +kernel), tb_in 64 (by decide +kernel) (by decide +kernel), ⟨by decide, by decide⟩, by decide +kernel⟩
set_option maxRecDepth 20000 in
theorem l_Arr_13 : ML "java/util/Arrays" 13 k_Arr_rangeCheck 3 := ⟨Or.inl (tb_in 732 (by decide +kernel) (by decide +kernel)), tb_in 734 (by decide +kernel) (by decide +kernel), tb_in 64 (by decide +kernel) (by decide +kernel), ⟨by decide, by decide⟩, by decide +kernel⟩
