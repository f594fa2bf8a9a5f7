set_option maxHeartbeats 4000000 in
set_option maxRecDepth 100000 in
theorem fm_window0 (l : Launch) (D : va_G) (dA : Nat → ClassId) (M : Mem) (p1 p2 p3 : Int32) (h1 : ¬ p1 < 0) (h2 : ¬ p2 < nI 1) (h3 : 0 ≤ p3) : CF l D dA k_Mod_window 0 [.ref 76, .int (nI 0), .int p1, .int p2, .int p3] M (none) (mu (mu (mu (mu M 76 0 (nI 0)) 77 0 p1) 77 1 p2) 77 2 p3) := by
  refine CF.of (by decide +kernel) (Nat.le_of_ble_eq_true rfl) (by intro v hv; simp only [List.mem_cons, List.not_mem_nil, or_false] at hv; rcases hv with rfl | rfl | rfl | rfl | rfl <;> rfl) ?_
  intro A ad0 p e s m args below meth c C hr
  refine J_aload_n C 0 d_Mod_window_0 rfl rfl ?_
  refine J_iload_n C 1 d_Mod_window_1 rfl rfl ?_
  refine J_ifN_lt C d_Mod_window_2 24 (by decide) (by omega) ?_
  refine J_iload_n C 1 d_Mod_window_5 rfl rfl ?_
  refine J_iconst C d_Mod_window_6 (v := nI 1) rfl ?_
  refine J_icmpN_gt C 24 d_Mod_window_7 (by decide) (by omega) (by omega) (fun hc7 => absurd hc7 (by decide)) (fun hc7 => ?_)
  refine J_iload_n C 2 d_Mod_window_10 rfl rfl ?_
  refine J_if_lt C 24 d_Mod_window_11 (by decide) (fun hc11 => absurd hc11 h1) (fun hc11 => ?_)
  refine J_iload_n C 3 d_Mod_window_14 rfl rfl ?_
  refine J_iconst C d_Mod_window_15 (v := nI 1) rfl ?_
  refine J_icmp_lt C 24 d_Mod_window_16 (by decide) (fun hc16 => absurd hc16 h2) (fun hc16 => ?_)
  refine J_iload C d_Mod_window_19 rfl ?_
  refine J_if_ge C 28 d_Mod_window_21 (by decide) (fun hc21 => ?_) (fun hc21 => absurd h3 hc21)
  refine J_iconst C d_Mod_window_28 (v := nI 0) rfl ?_
  refine K_putI C f_Mod_7 (by decide) (e_76 _) (Nat.le_of_ble_eq_true rfl) rfl d_Mod_window_29 (kk := ?_)
  refine J_aload_n C 0 d_Mod_window_32 rfl rfl ?_
  refine J_get C f_Mod_7 (by decide) (e_76 _) rfl d_Mod_window_33 ?_
  refine J_val (y := nI 0) rfl ?_
  refine J_ifN_eq C 40 d_Mod_window_36 (by decide) (by omega) (fun hc36 => ?_) (fun hc36 => absurd hc36 (by decide))
  refine J_aload_n C 0 d_Mod_window_40 rfl rfl ?_
  refine J_get C f_Mod_16 (by decide) (e_76 _) rfl d_Mod_window_41 ?_
  refine J_iconst C d_Mod_window_44 (v := nI 3) rfl ?_
  refine J_iload_n C 1 d_Mod_window_45 rfl rfl ?_
  refine J_imulN C d_Mod_window_46 ?_
  refine J_val (y := nI 0) rfl ?_
  refine J_iload_n C 2 d_Mod_window_47 rfl rfl ?_
  refine K_ias C a_77 (j := 0) rfl (by omega) d_Mod_window_48 (kk := ?_)
  refine J_aload_n C 0 d_Mod_window_49 rfl rfl ?_
  refine J_get C f_Mod_16 (by decide) (e_76 _) rfl d_Mod_window_50 ?_
  refine J_iconst C d_Mod_window_53 (v := nI 3) rfl ?_
  refine J_iload_n C 1 d_Mod_window_54 rfl rfl ?_
  refine J_imulN C d_Mod_window_55 ?_
  refine J_val (y := nI 0) rfl ?_
  refine J_iconst C d_Mod_window_56 (v := nI 1) rfl ?_
  refine J_iaddN C d_Mod_window_57 ?_
  refine J_val (y := nI 1) rfl ?_
  refine J_iload_n C 3 d_Mod_window_58 rfl rfl ?_
  refine K_ias C a_77 (j := 1) rfl (by omega) d_Mod_window_59 (kk := ?_)
  refine J_aload_n C 0 d_Mod_window_60 rfl rfl ?_
  refine J_get C f_Mod_16 (by decide) (e_76 _) rfl d_Mod_window_61 ?_
  refine J_iconst C d_Mod_window_64 (v := nI 3) rfl ?_
  refine J_iload_n C 1 d_Mod_window_65 rfl rfl ?_
  refine J_imulN C d_Mod_window_66 ?_
  refine J_val (y := nI 0) rfl ?_
  refine J_iconst C d_Mod_window_67 (v := nI 2) rfl ?_
  refine J_iaddN C d_Mod_window_68 ?_
  refine J_val (y := nI 2) rfl ?_
  refine J_iload C d_Mod_window_69 rfl ?_
  refine K_ias C a_77 (j := 2) rfl (by omega) d_Mod_window_71 (kk := ?_)
  exact F_ret C hr rfl d_Mod_window_72

set_option maxHeartbeats 4000000 in
set_option maxRecDepth 100000 in
theorem fm_window1 (l : Launch) (D : va_G) (dA : Nat → ClassId) (M : Mem) (p1 p2 p3 : Int32) (h1 : ¬ p1 < 0) (h2 : ¬ p2 < nI 1) (h3 : 0 ≤ p3) : CF l D dA k_Mod_window 0 [.ref 76, .int (nI 1), .int p1, .int p2, .int p3] M (none) (mu (mu (mu (mu M 76 0 (nI 0)) 77 3 p1) 77 4 p2) 77 5 p3) := by
  refine CF.of (by decide +kernel) (Nat.le_of_ble_eq_true rfl) (by intro v hv; simp only [List.mem_cons, List.not_mem_nil, or_false] at hv; rcases hv with rfl | rfl | rfl | rfl | rfl <;> rfl) ?_
  intro A ad0 p e s m args below meth c C hr
  refine J_aload_n C 0 d_Mod_window_0 rfl rfl ?_
  refine J_iload_n C 1 d_Mod_window_1 rfl rfl ?_
  refine J_ifN_lt C d_Mod_window_2 24 (by decide) (by omega) ?_
  refine J_iload_n C 1 d_Mod_window_5 rfl rfl ?_
  refine J_iconst C d_Mod_window_6 (v := nI 1) rfl ?_
  refine J_icmpN_gt C 24 d_Mod_window_7 (by decide) (by omega) (by omega) (fun hc7 => absurd hc7 (by decide)) (fun hc7 => ?_)
  refine J_iload_n C 2 d_Mod_window_10 rfl rfl ?_
  refine J_if_lt C 24 d_Mod_window_11 (by decide) (fun hc11 => absurd hc11 h1) (fun hc11 => ?_)
  refine J_iload_n C 3 d_Mod_window_14 rfl rfl ?_
  refine J_iconst C d_Mod_window_15 (v := nI 1) rfl ?_
  refine J_icmp_lt C 24 d_Mod_window_16 (by decide) (fun hc16 => absurd hc16 h2) (fun hc16 => ?_)
  refine J_iload C d_Mod_window_19 rfl ?_
  refine J_if_ge C 28 d_Mod_window_21 (by decide) (fun hc21 => ?_) (fun hc21 => absurd h3 hc21)
  refine J_iconst C d_Mod_window_28 (v := nI 0) rfl ?_
  refine K_putI C f_Mod_7 (by decide) (e_76 _) (Nat.le_of_ble_eq_true rfl) rfl d_Mod_window_29 (kk := ?_)
  refine J_aload_n C 0 d_Mod_window_32 rfl rfl ?_
  refine J_get C f_Mod_7 (by decide) (e_76 _) rfl d_Mod_window_33 ?_
  refine J_val (y := nI 0) rfl ?_
  refine J_ifN_eq C 40 d_Mod_window_36 (by decide) (by omega) (fun hc36 => ?_) (fun hc36 => absurd hc36 (by decide))
  refine J_aload_n C 0 d_Mod_window_40 rfl rfl ?_
  refine J_get C f_Mod_16 (by decide) (e_76 _) rfl d_Mod_window_41 ?_
  refine J_iconst C d_Mod_window_44 (v := nI 3) rfl ?_
  refine J_iload_n C 1 d_Mod_window_45 rfl rfl ?_
  refine J_imulN C d_Mod_window_46 ?_
  refine J_val (y := nI 3) rfl ?_
  refine J_iload_n C 2 d_Mod_window_47 rfl rfl ?_
  refine K_ias C a_77 (j := 3) rfl (by omega) d_Mod_window_48 (kk := ?_)
  refine J_aload_n C 0 d_Mod_window_49 rfl rfl ?_
  refine J_get C f_Mod_16 (by decide) (e_76 _) rfl d_Mod_window_50 ?_
  refine J_iconst C d_Mod_window_53 (v := nI 3) rfl ?_
  refine J_iload_n C 1 d_Mod_window_54 rfl rfl ?_
  refine J_imulN C d_Mod_window_55 ?_
  refine J_val (y := nI 3) rfl ?_
  refine J_iconst C d_Mod_window_56 (v := nI 1) rfl ?_
  refine J_iaddN C d_Mod_window_57 ?_
  refine J_val (y := nI 4) rfl ?_
  refine J_iload_n C 3 d_Mod_window_58 rfl rfl ?_
  refine K_ias C a_77 (j := 4) rfl (by omega) d_Mod_window_59 (kk := ?_)
  refine J_aload_n C 0 d_Mod_window_60 rfl rfl ?_
  refine J_get C f_Mod_16 (by decide) (e_76 _) rfl d_Mod_window_61 ?_
  refine J_iconst C d_Mod_window_64 (v := nI 3) rfl ?_
  refine J_iload_n C 1 d_Mod_window_65 rfl rfl ?_
  refine J_imulN C d_Mod_window_66 ?_
  refine J_val (y := nI 3) rfl ?_
  refine J_iconst C d_Mod_window_67 (v := nI 2) rfl ?_
  refine J_iaddN C d_Mod_window_68 ?_
  refine J_val (y := nI 5) rfl ?_
  refine J_iload C d_Mod_window_69 rfl ?_
  refine K_ias C a_77 (j := 5) rfl (by omega) d_Mod_window_71 (kk := ?_)
  exact F_ret C hr rfl d_Mod_window_72

set_option maxHeartbeats 4000000 in
set_option maxRecDepth 100000 in
theorem fm_windowX (l : Launch) (D : va_G) (dA : Nat → ClassId) (M : Mem) (p0 p1 p2 p3 : Int32) (hbad : p0 < 0 ∨ nI 1 < p0 ∨ p1 < 0 ∨ p2 < nI 1 ∨ p3 < 0) : CF l D dA k_Mod_window 0 [.ref 76, .int p0, .int p1, .int p2, .int p3] M (none) (mu M 76 0 (nI 1)) := by
  refine CF.of (by decide +kernel) (Nat.le_of_ble_eq_true rfl) (by intro v hv; simp only [List.mem_cons, List.not_mem_nil, or_false] at hv; rcases hv with rfl | rfl | rfl | rfl | rfl <;> rfl) ?_
  intro A ad0 p e s m args below meth c C hr
  refine J_aload_n C 0 d_Mod_window_0 rfl rfl ?_
  refine J_iload_n C 1 d_Mod_window_1 rfl rfl ?_
  refine J_if_lt C 24 d_Mod_window_2 (by decide) (fun hc2 => ?_) (fun hc2 => ?_)
  · refine J_iconst C d_Mod_window_24 (v := nI 1) rfl ?_
    refine J_goto C 29 d_Mod_window_25 (by decide) ?_
    refine K_putI C f_Mod_7 (by decide) (e_76 _) (Nat.le_of_ble_eq_true rfl) rfl d_Mod_window_29 (kk := ?_)
    refine J_aload_n C 0 d_Mod_window_32 rfl rfl ?_
    refine J_get C f_Mod_7 (by decide) (e_76 _) rfl d_Mod_window_33 ?_
    refine J_val (y := nI 1) rfl ?_
    refine J_ifN_eq C 40 d_Mod_window_36 (by decide) (by omega) (fun hc36 => absurd hc36 (by decide)) (fun hc36 => ?_)
    exact F_ret C hr rfl d_Mod_window_39
  · refine J_iload_n C 1 d_Mod_window_5 rfl rfl ?_
    refine J_iconst C d_Mod_window_6 (v := nI 1) rfl ?_
    refine J_icmp_gt C 24 d_Mod_window_7 (by decide) (fun hc7 => ?_) (fun hc7 => ?_)
    · refine J_iconst C d_Mod_window_24 (v := nI 1) rfl ?_
      refine J_goto C 29 d_Mod_window_25 (by decide) ?_
      refine K_putI C f_Mod_7 (by decide) (e_76 _) (Nat.le_of_ble_eq_true rfl) rfl d_Mod_window_29 (kk := ?_)
      refine J_aload_n C 0 d_Mod_window_32 rfl rfl ?_
      refine J_get C f_Mod_7 (by decide) (e_76 _) rfl d_Mod_window_33 ?_
      refine J_val (y := nI 1) rfl ?_
      refine J_ifN_eq C 40 d_Mod_window_36 (by decide) (by omega) (fun hc36 => absurd hc36 (by decide)) (fun hc36 => ?_)
      exact F_ret C hr rfl d_Mod_window_39
    · refine J_iload_n C 2 d_Mod_window_10 rfl rfl ?_
      refine J_if_lt C 24 d_Mod_window_11 (by decide) (fun hc11 => ?_) (fun hc11 => ?_)
      · refine J_iconst C d_Mod_window_24 (v := nI 1) rfl ?_
        refine J_goto C 29 d_Mod_window_25 (by decide) ?_
        refine K_putI C f_Mod_7 (by decide) (e_76 _) (Nat.le_of_ble_eq_true rfl) rfl d_Mod_window_29 (kk := ?_)
        refine J_aload_n C 0 d_Mod_window_32 rfl rfl ?_
        refine J_get C f_Mod_7 (by decide) (e_76 _) rfl d_Mod_window_33 ?_
        refine J_val (y := nI 1) rfl ?_
        refine J_ifN_eq C 40 d_Mod_window_36 (by decide) (by omega) (fun hc36 => absurd hc36 (by decide)) (fun hc36 => ?_)
        exact F_ret C hr rfl d_Mod_window_39
      · refine J_iload_n C 3 d_Mod_window_14 rfl rfl ?_
        refine J_iconst C d_Mod_window_15 (v := nI 1) rfl ?_
        refine J_icmp_lt C 24 d_Mod_window_16 (by decide) (fun hc16 => ?_) (fun hc16 => ?_)
        · refine J_iconst C d_Mod_window_24 (v := nI 1) rfl ?_
          refine J_goto C 29 d_Mod_window_25 (by decide) ?_
          refine K_putI C f_Mod_7 (by decide) (e_76 _) (Nat.le_of_ble_eq_true rfl) rfl d_Mod_window_29 (kk := ?_)
          refine J_aload_n C 0 d_Mod_window_32 rfl rfl ?_
          refine J_get C f_Mod_7 (by decide) (e_76 _) rfl d_Mod_window_33 ?_
          refine J_val (y := nI 1) rfl ?_
          refine J_ifN_eq C 40 d_Mod_window_36 (by decide) (by omega) (fun hc36 => absurd hc36 (by decide)) (fun hc36 => ?_)
          exact F_ret C hr rfl d_Mod_window_39
        · refine J_iload C d_Mod_window_19 rfl ?_
          refine J_if_ge C 28 d_Mod_window_21 (by decide) (fun hc21 => ?_) (fun hc21 => ?_)
          · exact absurd hbad (by rintro (h | h | h | h | h) <;> first | contradiction | exact absurd h (Int32.not_lt.mpr hc21))
          · refine J_iconst C d_Mod_window_24 (v := nI 1) rfl ?_
            refine J_goto C 29 d_Mod_window_25 (by decide) ?_
            refine K_putI C f_Mod_7 (by decide) (e_76 _) (Nat.le_of_ble_eq_true rfl) rfl d_Mod_window_29 (kk := ?_)
            refine J_aload_n C 0 d_Mod_window_32 rfl rfl ?_
            refine J_get C f_Mod_7 (by decide) (e_76 _) rfl d_Mod_window_33 ?_
            refine J_val (y := nI 1) rfl ?_
            refine J_ifN_eq C 40 d_Mod_window_36 (by decide) (by omega) (fun hc36 => absurd hc36 (by decide)) (fun hc36 => ?_)
            exact F_ret C hr rfl d_Mod_window_39

set_option maxHeartbeats 4000000 in
set_option maxRecDepth 100000 in
theorem fm_minute (l : Launch) (D : va_G) (dA : Nat → ClassId) (M : Mem) (n : Int32) : CF l D dA k_Mod_minute 0 [.ref 76, .int n] M (some (.int (if n < nI 1 then 0 else if n ≤ nI 1000 then M 76 1 + n else 0))) (if n < nI 1 then mu M 76 0 (nI 1) else if n ≤ nI 1000 then mu (mu M 76 0 (nI 0)) 76 1 (M 76 1 + n) else mu M 76 0 (nI 1)) := by
  refine CF.of (by decide +kernel) (Nat.le_of_ble_eq_true rfl) (by intro v hv; simp only [List.mem_cons, List.not_mem_nil, or_false] at hv; rcases hv with rfl | rfl <;> rfl) ?_
  intro A ad0 p e s m args below meth c C hr
  refine J_aload_n C 0 d_Mod_minute_0 rfl rfl ?_
  refine J_iload_n C 1 d_Mod_minute_1 rfl rfl ?_
  refine J_iconst C d_Mod_minute_2 (v := nI 1) rfl ?_
  refine J_icmp_lt C 13 d_Mod_minute_3 (by decide) (fun hc3 => ?_) (fun hc3 => ?_)
  · refine J_iconst C d_Mod_minute_13 (v := nI 1) rfl ?_
    refine J_goto C 18 d_Mod_minute_14 (by decide) ?_
    refine K_putI C f_Mod_7 (by decide) (e_76 _) (Nat.le_of_ble_eq_true rfl) rfl d_Mod_minute_18 (kk := ?_)
    refine J_aload_n C 0 d_Mod_minute_21 rfl rfl ?_
    refine J_get C f_Mod_7 (by decide) (e_76 _) rfl d_Mod_minute_22 ?_
    refine J_val (y := nI 1) rfl ?_
    refine J_ifN_eq C 30 d_Mod_minute_25 (by decide) (by omega) (fun hc25 => absurd hc25 (by decide)) (fun hc25 => ?_)
    refine J_iconst C d_Mod_minute_28 (v := nI 0) rfl ?_
    exact F_iret C hr (by (repeat' split) <;> first | contradiction | (exfalso; omega) | rfl) (by (repeat' split) <;> first | contradiction | (exfalso; omega) | rfl) d_Mod_minute_29
  · refine J_iload_n C 1 d_Mod_minute_6 rfl rfl ?_
    refine J_sipush C d_Mod_minute_7 (v := nI 1000) rfl ?_
    refine J_icmp_le C 17 d_Mod_minute_10 (by decide) (fun hc10 => ?_) (fun hc10 => ?_)
    · refine J_iconst C d_Mod_minute_17 (v := nI 0) rfl ?_
      refine K_putI C f_Mod_7 (by decide) (e_76 _) (Nat.le_of_ble_eq_true rfl) rfl d_Mod_minute_18 (kk := ?_)
      refine J_aload_n C 0 d_Mod_minute_21 rfl rfl ?_
      refine J_get C f_Mod_7 (by decide) (e_76 _) rfl d_Mod_minute_22 ?_
      refine J_val (y := nI 0) rfl ?_
      refine J_ifN_eq C 30 d_Mod_minute_25 (by decide) (by omega) (fun hc25 => ?_) (fun hc25 => absurd hc25 (by decide))
      refine J_aload_n C 0 d_Mod_minute_30 rfl rfl ?_
      refine J_dup C d_Mod_minute_31 rfl ?_
      refine J_get C f_Mod_13 (by decide) (e_76 _) rfl d_Mod_minute_32 ?_
      refine J_val (y := M 76 1) rfl ?_
      refine J_iload_n C 1 d_Mod_minute_35 rfl rfl ?_
      refine J_iadd C d_Mod_minute_36 ?_
      refine K_putI C f_Mod_13 (by decide) (e_76 _) (Nat.le_of_ble_eq_true rfl) rfl d_Mod_minute_37 (kk := ?_)
      refine J_aload_n C 0 d_Mod_minute_40 rfl rfl ?_
      refine J_get C f_Mod_13 (by decide) (e_76 _) rfl d_Mod_minute_41 ?_
      refine J_val (y := (M 76 1) + n) rfl ?_
      exact F_iret C hr (by (repeat' split) <;> first | contradiction | (exfalso; omega) | rfl) (by (repeat' split) <;> first | contradiction | (exfalso; omega) | rfl) d_Mod_minute_44
    · refine J_iconst C d_Mod_minute_13 (v := nI 1) rfl ?_
      refine J_goto C 18 d_Mod_minute_14 (by decide) ?_
      refine K_putI C f_Mod_7 (by decide) (e_76 _) (Nat.le_of_ble_eq_true rfl) rfl d_Mod_minute_18 (kk := ?_)
      refine J_aload_n C 0 d_Mod_minute_21 rfl rfl ?_
      refine J_get C f_Mod_7 (by decide) (e_76 _) rfl d_Mod_minute_22 ?_
      refine J_val (y := nI 1) rfl ?_
      refine J_ifN_eq C 30 d_Mod_minute_25 (by decide) (by omega) (fun hc25 => absurd hc25 (by decide)) (fun hc25 => ?_)
      refine J_iconst C d_Mod_minute_28 (v := nI 0) rfl ?_
      exact F_iret C hr (by (repeat' split) <;> first | contradiction | (exfalso; omega) | rfl) (by (repeat' split) <;> first | contradiction | (exfalso; omega) | rfl) d_Mod_minute_29

set_option maxHeartbeats 4000000 in
set_option maxRecDepth 100000 in
theorem fm_seen0 (l : Launch) (D : va_G) (dA : Nat → ClassId) (M : Mem) (hp : ¬ (M 77 1).toInt64 = 0) : CF l D dA k_Mod_seen 1 [.ref 76, .int (nI 0)] M (some (.int (if fOpen (M 76 1) (M 77 0) (M 77 1) (M 77 2) = 0 then 0 else 1))) (mu M 76 0 (nI 0)) := by
  refine CF.of (by decide +kernel) (Nat.le_of_ble_eq_true rfl) (by intro v hv; simp only [List.mem_cons, List.not_mem_nil, or_false] at hv; rcases hv with rfl | rfl <;> rfl) ?_
  intro A ad0 p e s m args below meth c C hr
  refine J_aload_n C 0 d_Mod_seen_0 rfl rfl ?_
  refine J_iload_n C 1 d_Mod_seen_1 rfl rfl ?_
  refine J_ifN_lt C d_Mod_seen_2 10 (by decide) (by omega) ?_
  refine J_iload_n C 1 d_Mod_seen_5 rfl rfl ?_
  refine J_iconst C d_Mod_seen_6 (v := nI 1) rfl ?_
  refine J_icmpN_le C 14 d_Mod_seen_7 (by decide) (by omega) (by omega) (fun hc7 => ?_) (fun hc7 => absurd hc7 (by decide))
  refine J_iconst C d_Mod_seen_14 (v := nI 0) rfl ?_
  refine K_putI C f_Mod_7 (by decide) (e_76 _) (Nat.le_of_ble_eq_true rfl) rfl d_Mod_seen_15 (kk := ?_)
  refine J_aload_n C 0 d_Mod_seen_18 rfl rfl ?_
  refine J_get C f_Mod_7 (by decide) (e_76 _) rfl d_Mod_seen_19 ?_
  refine J_val (y := nI 0) rfl ?_
  refine J_ifN_ne C 37 d_Mod_seen_22 (by decide) (by omega) (fun hc22 => absurd hc22 (by decide)) (fun hc22 => ?_)
  refine J_aload_n C 0 d_Mod_seen_25 rfl rfl ?_
  refine J_iload_n C 1 d_Mod_seen_26 rfl rfl ?_
  refine P_callV C (as := [.int (nI 0)]) (st := []) (pm_seenBy0 l D dA (mu M 76 0 (nI 0)) hp) l_Mod_125 v_Mod_seenBy (by decide) (e_76 _) rfl (by decide) (by decide) (by decide) (Nat.le_of_ble_eq_true rfl) d_Mod_seen_27 (kk := ?_)
  refine J_if_eq C 37 d_Mod_seen_30 (by decide) (fun hc30 => ?_) (fun hc30 => ?_)
  · refine J_iconst C d_Mod_seen_37 (v := nI 0) rfl ?_
    exact F_zret C hr (Or.inl rfl) (by (repeat' split) <;> first | contradiction | (exfalso; omega) | rfl) rfl d_Mod_seen_38
  · refine J_iconst C d_Mod_seen_33 (v := nI 1) rfl ?_
    refine J_goto C 38 d_Mod_seen_34 (by decide) ?_
    exact F_zret C hr (Or.inr rfl) (by (repeat' split) <;> first | contradiction | (exfalso; omega) | rfl) rfl d_Mod_seen_38

set_option maxHeartbeats 4000000 in
set_option maxRecDepth 100000 in
theorem fm_seen1 (l : Launch) (D : va_G) (dA : Nat → ClassId) (M : Mem) (hp : ¬ (M 77 4).toInt64 = 0) : CF l D dA k_Mod_seen 1 [.ref 76, .int (nI 1)] M (some (.int (if fOpen (M 76 1) (M 77 3) (M 77 4) (M 77 5) = 0 then 0 else 1))) (mu M 76 0 (nI 0)) := by
  refine CF.of (by decide +kernel) (Nat.le_of_ble_eq_true rfl) (by intro v hv; simp only [List.mem_cons, List.not_mem_nil, or_false] at hv; rcases hv with rfl | rfl <;> rfl) ?_
  intro A ad0 p e s m args below meth c C hr
  refine J_aload_n C 0 d_Mod_seen_0 rfl rfl ?_
  refine J_iload_n C 1 d_Mod_seen_1 rfl rfl ?_
  refine J_ifN_lt C d_Mod_seen_2 10 (by decide) (by omega) ?_
  refine J_iload_n C 1 d_Mod_seen_5 rfl rfl ?_
  refine J_iconst C d_Mod_seen_6 (v := nI 1) rfl ?_
  refine J_icmpN_le C 14 d_Mod_seen_7 (by decide) (by omega) (by omega) (fun hc7 => ?_) (fun hc7 => absurd hc7 (by decide))
  refine J_iconst C d_Mod_seen_14 (v := nI 0) rfl ?_
  refine K_putI C f_Mod_7 (by decide) (e_76 _) (Nat.le_of_ble_eq_true rfl) rfl d_Mod_seen_15 (kk := ?_)
  refine J_aload_n C 0 d_Mod_seen_18 rfl rfl ?_
  refine J_get C f_Mod_7 (by decide) (e_76 _) rfl d_Mod_seen_19 ?_
  refine J_val (y := nI 0) rfl ?_
  refine J_ifN_ne C 37 d_Mod_seen_22 (by decide) (by omega) (fun hc22 => absurd hc22 (by decide)) (fun hc22 => ?_)
  refine J_aload_n C 0 d_Mod_seen_25 rfl rfl ?_
  refine J_iload_n C 1 d_Mod_seen_26 rfl rfl ?_
  refine P_callV C (as := [.int (nI 1)]) (st := []) (pm_seenBy1 l D dA (mu M 76 0 (nI 0)) hp) l_Mod_125 v_Mod_seenBy (by decide) (e_76 _) rfl (by decide) (by decide) (by decide) (Nat.le_of_ble_eq_true rfl) d_Mod_seen_27 (kk := ?_)
  refine J_if_eq C 37 d_Mod_seen_30 (by decide) (fun hc30 => ?_) (fun hc30 => ?_)
  · refine J_iconst C d_Mod_seen_37 (v := nI 0) rfl ?_
    exact F_zret C hr (Or.inl rfl) (by (repeat' split) <;> first | contradiction | (exfalso; omega) | rfl) rfl d_Mod_seen_38
  · refine J_iconst C d_Mod_seen_33 (v := nI 1) rfl ?_
    refine J_goto C 38 d_Mod_seen_34 (by decide) ?_
    exact F_zret C hr (Or.inr rfl) (by (repeat' split) <;> first | contradiction | (exfalso; omega) | rfl) rfl d_Mod_seen_38

set_option maxHeartbeats 4000000 in
set_option maxRecDepth 100000 in
theorem fm_seenX (l : Launch) (D : va_G) (dA : Nat → ClassId) (M : Mem) (p0 : Int32) (hbad : p0 < 0 ∨ nI 1 < p0) : CF l D dA k_Mod_seen 1 [.ref 76, .int p0] M (some (.int (nI 0))) (mu M 76 0 (nI 1)) := by
  refine CF.of (by decide +kernel) (Nat.le_of_ble_eq_true rfl) (by intro v hv; simp only [List.mem_cons, List.not_mem_nil, or_false] at hv; rcases hv with rfl | rfl <;> rfl) ?_
  intro A ad0 p e s m args below meth c C hr
  refine J_aload_n C 0 d_Mod_seen_0 rfl rfl ?_
  refine J_iload_n C 1 d_Mod_seen_1 rfl rfl ?_
  refine J_if_lt C 10 d_Mod_seen_2 (by decide) (fun hc2 => ?_) (fun hc2 => ?_)
  · refine J_iconst C d_Mod_seen_10 (v := nI 1) rfl ?_
    refine J_goto C 15 d_Mod_seen_11 (by decide) ?_
    refine K_putI C f_Mod_7 (by decide) (e_76 _) (Nat.le_of_ble_eq_true rfl) rfl d_Mod_seen_15 (kk := ?_)
    refine J_aload_n C 0 d_Mod_seen_18 rfl rfl ?_
    refine J_get C f_Mod_7 (by decide) (e_76 _) rfl d_Mod_seen_19 ?_
    refine J_val (y := nI 1) rfl ?_
    refine J_ifN_ne C 37 d_Mod_seen_22 (by decide) (by omega) (fun hc22 => ?_) (fun hc22 => absurd hc22 (by decide))
    refine J_iconst C d_Mod_seen_37 (v := nI 0) rfl ?_
    exact F_zret C hr (Or.inl rfl) rfl rfl d_Mod_seen_38
  · refine J_iload_n C 1 d_Mod_seen_5 rfl rfl ?_
    refine J_iconst C d_Mod_seen_6 (v := nI 1) rfl ?_
    refine J_icmp_le C 14 d_Mod_seen_7 (by decide) (fun hc7 => ?_) (fun hc7 => ?_)
    · exact absurd hbad (by rintro (h | h) <;> first | contradiction | exact absurd h (Int32.not_lt.mpr hc7))
    · refine J_iconst C d_Mod_seen_10 (v := nI 1) rfl ?_
      refine J_goto C 15 d_Mod_seen_11 (by decide) ?_
      refine K_putI C f_Mod_7 (by decide) (e_76 _) (Nat.le_of_ble_eq_true rfl) rfl d_Mod_seen_15 (kk := ?_)
      refine J_aload_n C 0 d_Mod_seen_18 rfl rfl ?_
      refine J_get C f_Mod_7 (by decide) (e_76 _) rfl d_Mod_seen_19 ?_
      refine J_val (y := nI 1) rfl ?_
      refine J_ifN_ne C 37 d_Mod_seen_22 (by decide) (by omega) (fun hc22 => ?_) (fun hc22 => absurd hc22 (by decide))
      refine J_iconst C d_Mod_seen_37 (v := nI 0) rfl ?_
      exact F_zret C hr (Or.inl rfl) rfl rfl d_Mod_seen_38

set_option maxHeartbeats 4000000 in
set_option maxRecDepth 100000 in
theorem fm_report (l : Launch) (D : va_G) (dA : Nat → ClassId) (M : Mem) : CF l D dA k_Mod_report 0 [.ref 76] M (some (.int (if M 76 3 = 0 then (if M 76 7 = 0 then 0 else (((32768 ||| (M 76 10 <<< (nI 13 &&& 31))) ||| (M 76 8 <<< (nI 12 &&& 31))) ||| (M 76 11 <<< (nI 8 &&& 31))) ||| M 76 9) else 0))) (mu M 76 0 (if M 76 3 = 0 then nI 0 else nI 1)) := by
  refine CF.of (by decide +kernel) (Nat.le_of_ble_eq_true rfl) (by intro v hv; simp only [List.mem_cons, List.not_mem_nil, or_false] at hv; rcases hv with rfl <;> rfl) ?_
  intro A ad0 p e s m args below meth c C hr
  refine J_aload_n C 0 d_Mod_report_0 rfl rfl ?_
  refine J_aload_n C 0 d_Mod_report_1 rfl rfl ?_
  refine J_get C f_Mod_20 (by decide) (e_76 _) rfl d_Mod_report_2 ?_
  refine J_if_eq C 12 d_Mod_report_5 (by decide) (fun hc5 => ?_) (fun hc5 => ?_)
  · refine J_iconst C d_Mod_report_12 (v := nI 0) rfl ?_
    refine K_putI C f_Mod_7 (by decide) (e_76 _) (Nat.le_of_ble_eq_true rfl) rfl d_Mod_report_13 (kk := ?_)
    refine J_aload_n C 0 d_Mod_report_16 rfl rfl ?_
    refine J_get C f_Mod_7 (by decide) (e_76 _) rfl d_Mod_report_17 ?_
    refine J_val (y := nI 0) rfl ?_
    refine J_ifN_ne C 30 d_Mod_report_20 (by decide) (by omega) (fun hc20 => absurd hc20 (by decide)) (fun hc20 => ?_)
    refine J_aload_n C 0 d_Mod_report_23 rfl rfl ?_
    refine J_get C f_Mod_33 (by decide) (e_76 _) rfl d_Mod_report_24 ?_
    refine J_val (y := M 76 7) rfl ?_
    refine J_if_ne C 32 d_Mod_report_27 (by decide) (fun hc27 => ?_) (fun hc27 => ?_)
    · refine J_ldc C d_Mod_report_32 c_Mod_157 ?_
      refine J_aload_n C 0 d_Mod_report_34 rfl rfl ?_
      refine J_get C f_Mod_42 (by decide) (e_76 _) rfl d_Mod_report_35 ?_
      refine J_val (y := M 76 10) rfl ?_
      refine J_bipush C d_Mod_report_38 (v := nI 13) rfl ?_
      refine J_ishl C d_Mod_report_40 ?_
      refine J_ior C d_Mod_report_41 ?_
      refine J_aload_n C 0 d_Mod_report_42 rfl rfl ?_
      refine J_get C f_Mod_36 (by decide) (e_76 _) rfl d_Mod_report_43 ?_
      refine J_val (y := M 76 8) rfl ?_
      refine J_bipush C d_Mod_report_46 (v := nI 12) rfl ?_
      refine J_ishl C d_Mod_report_48 ?_
      refine J_ior C d_Mod_report_49 ?_
      refine J_aload_n C 0 d_Mod_report_50 rfl rfl ?_
      refine J_get C f_Mod_45 (by decide) (e_76 _) rfl d_Mod_report_51 ?_
      refine J_val (y := M 76 11) rfl ?_
      refine J_bipush C d_Mod_report_54 (v := nI 8) rfl ?_
      refine J_ishl C d_Mod_report_56 ?_
      refine J_ior C d_Mod_report_57 ?_
      refine J_aload_n C 0 d_Mod_report_58 rfl rfl ?_
      refine J_get C f_Mod_39 (by decide) (e_76 _) rfl d_Mod_report_59 ?_
      refine J_val (y := M 76 9) rfl ?_
      refine J_ior C d_Mod_report_62 ?_
      exact F_iret C hr (by simp only [hc5, hc20, hc27, if_true, if_false]; try rfl) (by simp only [hc5, hc20, hc27, if_true, if_false]) d_Mod_report_63
    · refine J_iconst C d_Mod_report_30 (v := nI 0) rfl ?_
      exact F_iret C hr (by simp only [hc5, hc20, hc27, if_true, if_false]; try rfl) (by simp only [hc5, hc20, hc27, if_true, if_false]) d_Mod_report_31
  · refine J_iconst C d_Mod_report_8 (v := nI 1) rfl ?_
    refine J_goto C 13 d_Mod_report_9 (by decide) ?_
    refine K_putI C f_Mod_7 (by decide) (e_76 _) (Nat.le_of_ble_eq_true rfl) rfl d_Mod_report_13 (kk := ?_)
    refine J_aload_n C 0 d_Mod_report_16 rfl rfl ?_
    refine J_get C f_Mod_7 (by decide) (e_76 _) rfl d_Mod_report_17 ?_
    refine J_val (y := nI 1) rfl ?_
    refine J_ifN_ne C 30 d_Mod_report_20 (by decide) (by omega) (fun hc20 => ?_) (fun hc20 => absurd hc20 (by decide))
    refine J_iconst C d_Mod_report_30 (v := nI 0) rfl ?_
    exact F_iret C hr (by simp only [hc5, hc20, if_true, if_false]; try rfl) (by simp only [hc5, hc20, if_true, if_false]) d_Mod_report_31

set_option maxHeartbeats 4000000 in
set_option maxRecDepth 100000 in
theorem fm_sent (l : Launch) (D : va_G) (dA : Nat → ClassId) (M : Mem) (i : Nat) (hi : i < 32) (hf : ¬ M 76 25 = 0) : CF l D dA k_Mod_sent 0 [.ref 76, .int (nI i)] M (some (.int (M 87 i))) (mu M 76 0 (nI 0)) := by
  refine CF.of (by decide +kernel) (Nat.le_of_ble_eq_true rfl) (by intro v hv; simp only [List.mem_cons, List.not_mem_nil, or_false] at hv; rcases hv with rfl | rfl <;> rfl) ?_
  intro A ad0 p e s m args below meth c C hr
  refine J_aload_n C 0 d_Mod_sent_0 rfl rfl ?_
  refine J_aload_n C 0 d_Mod_sent_1 rfl rfl ?_
  refine J_get C f_Mod_88 (by decide) (e_76 _) rfl d_Mod_sent_2 ?_
  refine J_if_eq C 18 d_Mod_sent_5 (by decide) (fun hc5 => absurd hc5 hf) (fun hc5 => ?_)
  refine J_iload_n C 1 d_Mod_sent_8 rfl rfl ?_
  refine J_ifN_lt C d_Mod_sent_9 18 (by decide) (by omega) ?_
  refine J_iload_n C 1 d_Mod_sent_12 rfl rfl ?_
  refine J_bipush C d_Mod_sent_13 (v := nI 31) rfl ?_
  refine J_icmpN_le C 22 d_Mod_sent_15 (by decide) (by omega) (by omega) (fun hc15 => ?_) (fun hc15 => absurd hc15 (by omega))
  refine J_iconst C d_Mod_sent_22 (v := nI 0) rfl ?_
  refine K_putI C f_Mod_7 (by decide) (e_76 _) (Nat.le_of_ble_eq_true rfl) rfl d_Mod_sent_23 (kk := ?_)
  refine J_aload_n C 0 d_Mod_sent_26 rfl rfl ?_
  refine J_get C f_Mod_7 (by decide) (e_76 _) rfl d_Mod_sent_27 ?_
  refine J_val (y := nI 0) rfl ?_
  refine J_ifN_eq C 37 d_Mod_sent_30 (by decide) (by omega) (fun hc30 => ?_) (fun hc30 => absurd hc30 (by decide))
  refine J_aload_n C 0 d_Mod_sent_37 rfl rfl ?_
  refine J_get C f_Mod_85 (by decide) (e_76 _) rfl d_Mod_sent_38 ?_
  refine J_iload_n C 1 d_Mod_sent_41 rfl rfl ?_
  refine K_ial C a_87 (j := i) rfl (by omega) d_Mod_sent_42 ?_
  refine J_val (y := M 87 i) rfl ?_
  exact F_iret C hr rfl rfl d_Mod_sent_43

set_option maxHeartbeats 4000000 in
set_option maxRecDepth 100000 in
theorem fm_sentX (l : Launch) (D : va_G) (dA : Nat → ClassId) (M : Mem) (i : Int32) (hbad : M 76 25 = 0 ∨ i < 0 ∨ nI 31 < i) : CF l D dA k_Mod_sent 0 [.ref 76, .int i] M (some (.int (nI 0))) (mu M 76 0 (nI 1)) := by
  refine CF.of (by decide +kernel) (Nat.le_of_ble_eq_true rfl) (by intro v hv; simp only [List.mem_cons, List.not_mem_nil, or_false] at hv; rcases hv with rfl | rfl <;> rfl) ?_
  intro A ad0 p e s m args below meth c C hr
  refine J_aload_n C 0 d_Mod_sent_0 rfl rfl ?_
  refine J_aload_n C 0 d_Mod_sent_1 rfl rfl ?_
  refine J_get C f_Mod_88 (by decide) (e_76 _) rfl d_Mod_sent_2 ?_
  refine J_if_eq C 18 d_Mod_sent_5 (by decide) (fun hc5 => ?_) (fun hc5 => ?_)
  · refine J_iconst C d_Mod_sent_18 (v := nI 1) rfl ?_
    refine J_goto C 23 d_Mod_sent_19 (by decide) ?_
    refine K_putI C f_Mod_7 (by decide) (e_76 _) (Nat.le_of_ble_eq_true rfl) rfl d_Mod_sent_23 (kk := ?_)
    refine J_aload_n C 0 d_Mod_sent_26 rfl rfl ?_
    refine J_get C f_Mod_7 (by decide) (e_76 _) rfl d_Mod_sent_27 ?_
    refine J_val (y := nI 1) rfl ?_
    refine J_ifN_eq C 37 d_Mod_sent_30 (by decide) (by omega) (fun hc30 => absurd hc30 (by decide)) (fun hc30 => ?_)
    refine J_iconst C d_Mod_sent_33 (v := nI 0) rfl ?_
    refine J_goto C 43 d_Mod_sent_34 (by decide) ?_
    exact F_iret C hr rfl rfl d_Mod_sent_43
  · refine J_iload_n C 1 d_Mod_sent_8 rfl rfl ?_
    refine J_if_lt C 18 d_Mod_sent_9 (by decide) (fun hc9 => ?_) (fun hc9 => ?_)
    · refine J_iconst C d_Mod_sent_18 (v := nI 1) rfl ?_
      refine J_goto C 23 d_Mod_sent_19 (by decide) ?_
      refine K_putI C f_Mod_7 (by decide) (e_76 _) (Nat.le_of_ble_eq_true rfl) rfl d_Mod_sent_23 (kk := ?_)
      refine J_aload_n C 0 d_Mod_sent_26 rfl rfl ?_
      refine J_get C f_Mod_7 (by decide) (e_76 _) rfl d_Mod_sent_27 ?_
      refine J_val (y := nI 1) rfl ?_
      refine J_ifN_eq C 37 d_Mod_sent_30 (by decide) (by omega) (fun hc30 => absurd hc30 (by decide)) (fun hc30 => ?_)
      refine J_iconst C d_Mod_sent_33 (v := nI 0) rfl ?_
      refine J_goto C 43 d_Mod_sent_34 (by decide) ?_
      exact F_iret C hr rfl rfl d_Mod_sent_43
    · refine J_iload_n C 1 d_Mod_sent_12 rfl rfl ?_
      refine J_bipush C d_Mod_sent_13 (v := nI 31) rfl ?_
      refine J_icmp_le C 22 d_Mod_sent_15 (by decide) (fun hc15 => ?_) (fun hc15 => ?_)
      · exact absurd hbad (by rintro (h | h | h) <;> first | contradiction | exact absurd h (Int32.not_lt.mpr hc15))
      · refine J_iconst C d_Mod_sent_18 (v := nI 1) rfl ?_
        refine J_goto C 23 d_Mod_sent_19 (by decide) ?_
        refine K_putI C f_Mod_7 (by decide) (e_76 _) (Nat.le_of_ble_eq_true rfl) rfl d_Mod_sent_23 (kk := ?_)
        refine J_aload_n C 0 d_Mod_sent_26 rfl rfl ?_
        refine J_get C f_Mod_7 (by decide) (e_76 _) rfl d_Mod_sent_27 ?_
        refine J_val (y := nI 1) rfl ?_
        refine J_ifN_eq C 37 d_Mod_sent_30 (by decide) (by omega) (fun hc30 => absurd hc30 (by decide)) (fun hc30 => ?_)
        refine J_iconst C d_Mod_sent_33 (v := nI 0) rfl ?_
        refine J_goto C 43 d_Mod_sent_34 (by decide) ?_
        exact F_iret C hr rfl rfl d_Mod_sent_43

set_option maxHeartbeats 4000000 in
set_option maxRecDepth 100000 in
theorem fm_fail (l : Launch) (D : va_G) (dA : Nat → ClassId) (M : Mem) (n : Int32) : CF l D dA k_Mod_fail 0 [.ref 76, .int n] M (none) (if M 76 3 = 0 then (if n < nI 1 then mu M 76 0 (nI 2) else if n ≤ nI 100 then mu (mu M 76 0 (nI 0)) 76 4 n else mu M 76 0 (nI 2)) else mu M 76 0 (nI 1)) := by
  refine CF.of (by decide +kernel) (Nat.le_of_ble_eq_true rfl) (by intro v hv; simp only [List.mem_cons, List.not_mem_nil, or_false] at hv; rcases hv with rfl | rfl <;> rfl) ?_
  intro A ad0 p e s m args below meth c C hr
  refine J_aload_n C 0 d_Mod_fail_0 rfl rfl ?_
  refine J_aload_n C 0 d_Mod_fail_1 rfl rfl ?_
  refine J_get C f_Mod_20 (by decide) (e_76 _) rfl d_Mod_fail_2 ?_
  refine J_if_eq C 12 d_Mod_fail_5 (by decide) (fun hc5 => ?_) (fun hc5 => ?_)
  · refine J_iload_n C 1 d_Mod_fail_12 rfl rfl ?_
    refine J_iconst C d_Mod_fail_13 (v := nI 1) rfl ?_
    refine J_icmp_lt C 23 d_Mod_fail_14 (by decide) (fun hc14 => ?_) (fun hc14 => ?_)
    · refine J_iconst C d_Mod_fail_23 (v := nI 2) rfl ?_
      refine J_goto C 28 d_Mod_fail_24 (by decide) ?_
      refine K_putI C f_Mod_7 (by decide) (e_76 _) (Nat.le_of_ble_eq_true rfl) rfl d_Mod_fail_28 (kk := ?_)
      refine J_aload_n C 0 d_Mod_fail_31 rfl rfl ?_
      refine J_get C f_Mod_7 (by decide) (e_76 _) rfl d_Mod_fail_32 ?_
      refine J_val (y := nI 2) rfl ?_
      refine J_ifN_ne C 43 d_Mod_fail_35 (by decide) (by omega) (fun hc35 => ?_) (fun hc35 => absurd hc35 (by decide))
      exact F_ret C hr (by (repeat' split) <;> first | contradiction | (exfalso; omega) | rfl) d_Mod_fail_43
    · refine J_iload_n C 1 d_Mod_fail_17 rfl rfl ?_
      refine J_bipush C d_Mod_fail_18 (v := nI 100) rfl ?_
      refine J_icmp_le C 27 d_Mod_fail_20 (by decide) (fun hc20 => ?_) (fun hc20 => ?_)
      · refine J_iconst C d_Mod_fail_27 (v := nI 0) rfl ?_
        refine K_putI C f_Mod_7 (by decide) (e_76 _) (Nat.le_of_ble_eq_true rfl) rfl d_Mod_fail_28 (kk := ?_)
        refine J_aload_n C 0 d_Mod_fail_31 rfl rfl ?_
        refine J_get C f_Mod_7 (by decide) (e_76 _) rfl d_Mod_fail_32 ?_
        refine J_val (y := nI 0) rfl ?_
        refine J_ifN_ne C 43 d_Mod_fail_35 (by decide) (by omega) (fun hc35 => absurd hc35 (by decide)) (fun hc35 => ?_)
        refine J_aload_n C 0 d_Mod_fail_38 rfl rfl ?_
        refine J_iload_n C 1 d_Mod_fail_39 rfl rfl ?_
        refine K_putI C f_Mod_24 (by decide) (e_76 _) (Nat.le_of_ble_eq_true rfl) rfl d_Mod_fail_40 (kk := ?_)
        exact F_ret C hr (by (repeat' split) <;> first | contradiction | (exfalso; omega) | rfl) d_Mod_fail_43
      · refine J_iconst C d_Mod_fail_23 (v := nI 2) rfl ?_
        refine J_goto C 28 d_Mod_fail_24 (by decide) ?_
        refine K_putI C f_Mod_7 (by decide) (e_76 _) (Nat.le_of_ble_eq_true rfl) rfl d_Mod_fail_28 (kk := ?_)
        refine J_aload_n C 0 d_Mod_fail_31 rfl rfl ?_
        refine J_get C f_Mod_7 (by decide) (e_76 _) rfl d_Mod_fail_32 ?_
        refine J_val (y := nI 2) rfl ?_
        refine J_ifN_ne C 43 d_Mod_fail_35 (by decide) (by omega) (fun hc35 => ?_) (fun hc35 => absurd hc35 (by decide))
        exact F_ret C hr (by (repeat' split) <;> first | contradiction | (exfalso; omega) | rfl) d_Mod_fail_43
  · refine J_iconst C d_Mod_fail_8 (v := nI 1) rfl ?_
    refine J_goto C 28 d_Mod_fail_9 (by decide) ?_
    refine K_putI C f_Mod_7 (by decide) (e_76 _) (Nat.le_of_ble_eq_true rfl) rfl d_Mod_fail_28 (kk := ?_)
    refine J_aload_n C 0 d_Mod_fail_31 rfl rfl ?_
    refine J_get C f_Mod_7 (by decide) (e_76 _) rfl d_Mod_fail_32 ?_
    refine J_val (y := nI 1) rfl ?_
    refine J_ifN_ne C 43 d_Mod_fail_35 (by decide) (by omega) (fun hc35 => ?_) (fun hc35 => absurd hc35 (by decide))
    exact F_ret C hr (by (repeat' split) <;> first | contradiction | (exfalso; omega) | rfl) d_Mod_fail_43

def fPowM : Nat → Mem → Mem
  | 0, M => M
  | k + 1, M => mu (fPowM k M) 86 k (nI 0)
theorem fPowM_p (k : Nat) (M : Mem) {p : Nat} (h : p ≠ 86) : fPowM k M p = M p := by
  induction k with
  | zero => rfl
  | succ k ih => unfold fPowM; rw [mu_p _ _ _ h]; exact ih
def fPow0 (M : Mem) : Mem := mu (mu (mu (mu (mu (mu (mu (mu (mu M 76 0 (nI 0)) 76 3 (nI 0)) 76 4 (nI 0)) 76 7 (nI 0)) 76 6 (nI 0)) 79 0 (nI 0)) 79 1 (nI 0)) 79 2 (nI 0)) 79 3 (nI 0)
set_option maxHeartbeats 4000000 in
set_option maxRecDepth 100000 in
theorem fm_power (l : Launch) (D : va_G) (dA : Nat → ClassId) (M : Mem) (cn : Nat) (hcn : M 76 15 = nI cn) (hc24 : cn ≤ 24) : CF l D dA k_Mod_power 0 [.ref 76] M (some (.int (nI cn))) (fPowM cn (fPow0 M)) := by
  refine CF.of (by decide +kernel) (Nat.le_of_ble_eq_true rfl) (by intro v hv; simp only [List.mem_cons, List.not_mem_nil, or_false] at hv; rcases hv with rfl <;> rfl) ?_
  intro A ad0 p e s m args below meth c C hr
  have lp : ∀ (fu : Nat) (k : Nat), cn - k < fu → (k ≤ cn) → J D dA A (fun _ _ => True) ad0 90 k_Mod_power.2.2.1 p l e (zR 0 0 0) s m args below meth c (FQ D dA A ad0 below args s (some (.int (nI cn))) (fPowM cn (fPow0 M))) 47 [some (.ref 76), some (.int (nI k))] [] (E (fPowM k (fPow0 M))) 90 0 0 := by
    intro fu
    induction fu with
    | zero => intro k hfu; exact absurd hfu (Nat.not_lt_zero _)
    | succ fu ih =>
      intro k hfu hk
      refine J_iload_n C 1 d_Mod_power_47 rfl rfl ?_
      refine J_aload_n C 0 d_Mod_power_48 rfl rfl ?_
      refine J_get C f_Mod_58 (by decide) (e_76 _) rfl d_Mod_power_49 ?_
      refine J_val (y := nI cn) (by rw [fPowM_p _ _ (by decide)]; exact hcn) ?_
      refine J_icmpN_ge C 68 d_Mod_power_52 (by decide) (by omega) (by omega) (fun hc52 => ?_) (fun hc52 => ?_)
      · refine J_aload_n C 0 d_Mod_power_68 rfl rfl ?_
        refine J_get C f_Mod_58 (by decide) (e_76 _) rfl d_Mod_power_69 ?_
        refine J_val (y := nI cn) (by rw [fPowM_p _ _ (by decide)]; exact hcn) ?_
        exact F_iret C hr rfl (by rw [show cn = k by omega]) d_Mod_power_72
      · refine J_aload_n C 0 d_Mod_power_55 rfl rfl ?_
        refine J_get C f_Mod_73 (by decide) (e_76 _) rfl d_Mod_power_56 ?_
        refine J_iload_n C 1 d_Mod_power_59 rfl rfl ?_
        refine J_iconst C d_Mod_power_60 (v := nI 0) rfl ?_
        refine K_ias C a_86 (j := k) rfl (by omega) d_Mod_power_61 (kk := ?_)
        refine J_iinc C d_Mod_power_62 rfl (v := nI (k + 1)) (nI_1 _) (by decide) rfl ?_
        refine J_goto C 47 d_Mod_power_65 (by decide) ?_
        exact ih (k + 1) (by omega) (by omega)
  refine J_aload_n C 0 d_Mod_power_0 rfl rfl ?_
  refine J_iconst C d_Mod_power_1 (v := nI 0) rfl ?_
  refine K_putI C f_Mod_7 (by decide) (e_76 _) (Nat.le_of_ble_eq_true rfl) rfl d_Mod_power_2 (kk := ?_)
  refine J_aload_n C 0 d_Mod_power_5 rfl rfl ?_
  refine J_iconst C d_Mod_power_6 (v := nI 0) rfl ?_
  refine K_putZ C f_Mod_20 (by decide) (e_76 _) (Nat.le_of_ble_eq_true rfl) (Or.inl rfl) rfl d_Mod_power_7 (kk := ?_)
  refine J_aload_n C 0 d_Mod_power_10 rfl rfl ?_
  refine J_iconst C d_Mod_power_11 (v := nI 0) rfl ?_
  refine K_putI C f_Mod_24 (by decide) (e_76 _) (Nat.le_of_ble_eq_true rfl) rfl d_Mod_power_12 (kk := ?_)
  refine J_aload_n C 0 d_Mod_power_15 rfl rfl ?_
  refine J_iconst C d_Mod_power_16 (v := nI 0) rfl ?_
  refine K_putZ C f_Mod_33 (by decide) (e_76 _) (Nat.le_of_ble_eq_true rfl) (Or.inl rfl) rfl d_Mod_power_17 (kk := ?_)
  refine J_aload_n C 0 d_Mod_power_20 rfl rfl ?_
  refine J_iconst C d_Mod_power_21 (v := nI 0) rfl ?_
  refine K_putI C f_Mod_30 (by decide) (e_76 _) (Nat.le_of_ble_eq_true rfl) rfl d_Mod_power_22 (kk := ?_)
  refine J_iconst C d_Mod_power_25 (v := nI 0) rfl ?_
  refine J_istore_n C 1 d_Mod_power_26 rfl (by decide) rfl ?_
  refine J_iload_n C 1 d_Mod_power_27 rfl rfl ?_
  refine J_iconst C d_Mod_power_28 (v := nI 4) rfl ?_
  refine J_icmpN_ge C 45 d_Mod_power_29 (by decide) (by omega) (by omega) (fun hc29 => absurd hc29 (by decide)) (fun hc29 => ?_)
  refine J_aload_n C 0 d_Mod_power_32 rfl rfl ?_
  refine J_get C f_Mod_48 (by decide) (e_76 _) rfl d_Mod_power_33 ?_
  refine J_iload_n C 1 d_Mod_power_36 rfl rfl ?_
  refine J_iconst C d_Mod_power_37 (v := nI 0) rfl ?_
  refine K_bas C a_79 (j := 0) rfl (by omega) (Or.inl rfl) d_Mod_power_38 (kk := ?_)
  refine J_iinc C d_Mod_power_39 rfl (v := nI 1) rfl (by decide) rfl ?_
  refine J_goto C 27 d_Mod_power_42 (by decide) ?_
  refine J_iload_n C 1 d_Mod_power_27 rfl rfl ?_
  refine J_iconst C d_Mod_power_28 (v := nI 4) rfl ?_
  refine J_icmpN_ge C 45 d_Mod_power_29 (by decide) (by omega) (by omega) (fun hc29 => absurd hc29 (by decide)) (fun hc29 => ?_)
  refine J_aload_n C 0 d_Mod_power_32 rfl rfl ?_
  refine J_get C f_Mod_48 (by decide) (e_76 _) rfl d_Mod_power_33 ?_
  refine J_iload_n C 1 d_Mod_power_36 rfl rfl ?_
  refine J_iconst C d_Mod_power_37 (v := nI 0) rfl ?_
  refine K_bas C a_79 (j := 1) rfl (by omega) (Or.inl rfl) d_Mod_power_38 (kk := ?_)
  refine J_iinc C d_Mod_power_39 rfl (v := nI 2) rfl (by decide) rfl ?_
  refine J_goto C 27 d_Mod_power_42 (by decide) ?_
  refine J_iload_n C 1 d_Mod_power_27 rfl rfl ?_
  refine J_iconst C d_Mod_power_28 (v := nI 4) rfl ?_
  refine J_icmpN_ge C 45 d_Mod_power_29 (by decide) (by omega) (by omega) (fun hc29 => absurd hc29 (by decide)) (fun hc29 => ?_)
  refine J_aload_n C 0 d_Mod_power_32 rfl rfl ?_
  refine J_get C f_Mod_48 (by decide) (e_76 _) rfl d_Mod_power_33 ?_
  refine J_iload_n C 1 d_Mod_power_36 rfl rfl ?_
  refine J_iconst C d_Mod_power_37 (v := nI 0) rfl ?_
  refine K_bas C a_79 (j := 2) rfl (by omega) (Or.inl rfl) d_Mod_power_38 (kk := ?_)
  refine J_iinc C d_Mod_power_39 rfl (v := nI 3) rfl (by decide) rfl ?_
  refine J_goto C 27 d_Mod_power_42 (by decide) ?_
  refine J_iload_n C 1 d_Mod_power_27 rfl rfl ?_
  refine J_iconst C d_Mod_power_28 (v := nI 4) rfl ?_
  refine J_icmpN_ge C 45 d_Mod_power_29 (by decide) (by omega) (by omega) (fun hc29 => absurd hc29 (by decide)) (fun hc29 => ?_)
  refine J_aload_n C 0 d_Mod_power_32 rfl rfl ?_
  refine J_get C f_Mod_48 (by decide) (e_76 _) rfl d_Mod_power_33 ?_
  refine J_iload_n C 1 d_Mod_power_36 rfl rfl ?_
  refine J_iconst C d_Mod_power_37 (v := nI 0) rfl ?_
  refine K_bas C a_79 (j := 3) rfl (by omega) (Or.inl rfl) d_Mod_power_38 (kk := ?_)
  refine J_iinc C d_Mod_power_39 rfl (v := nI 4) rfl (by decide) rfl ?_
  refine J_goto C 27 d_Mod_power_42 (by decide) ?_
  refine J_iload_n C 1 d_Mod_power_27 rfl rfl ?_
  refine J_iconst C d_Mod_power_28 (v := nI 4) rfl ?_
  refine J_icmpN_ge C 45 d_Mod_power_29 (by decide) (by omega) (by omega) (fun hc29 => ?_) (fun hc29 => absurd hc29 (by decide))
  refine J_iconst C d_Mod_power_45 (v := nI 0) rfl ?_
  refine J_istore_n C 1 d_Mod_power_46 rfl (by decide) rfl ?_
  exact lp (cn + 1) 0 (by omega) (by omega)

set_option maxHeartbeats 4000000 in
set_option maxRecDepth 100000 in
theorem fm_out (l : Launch) (D : va_G) (dA : Nat → ClassId) (M : Mem) (hz : M 76 3 = 0 ∨ M 76 3 = 1) : CF l D dA k_Mod_out 0 [.ref 76] M (some (.int (M 76 3))) (mu M 76 0 (nI 0)) := by
  refine CF.of (by decide +kernel) (Nat.le_of_ble_eq_true rfl) (by intro v hv; simp only [List.mem_cons, List.not_mem_nil, or_false] at hv; rcases hv with rfl <;> rfl) ?_
  intro A ad0 p e s m args below meth c C hr
  refine J_aload_n C 0 d_Mod_out_0 rfl rfl ?_
  refine J_iconst C d_Mod_out_1 (v := nI 0) rfl ?_
  refine K_putI C f_Mod_7 (by decide) (e_76 _) (Nat.le_of_ble_eq_true rfl) rfl d_Mod_out_2 (kk := ?_)
  refine J_aload_n C 0 d_Mod_out_5 rfl rfl ?_
  refine J_get C f_Mod_20 (by decide) (e_76 _) rfl d_Mod_out_6 ?_
  refine J_val (y := M 76 3) rfl ?_
  exact F_zret C hr hz rfl rfl d_Mod_out_9

set_option maxHeartbeats 4000000 in
set_option maxRecDepth 100000 in
theorem fm_store0 (l : Launch) (D : va_G) (dA : Nat → ClassId) (M : Mem)  : CF l D dA k_Mod_store 2 [.ref 76, .int (nI 0)] M (some (.int (M 76 15))) (mu M 76 0 (nI 0)) := by
  refine CF.of (by decide +kernel) (Nat.le_of_ble_eq_true rfl) (by intro v hv; simp only [List.mem_cons, List.not_mem_nil, or_false] at hv; rcases hv with rfl | rfl <;> rfl) ?_
  intro A ad0 p e s m args below meth c C hr
  refine J_aload_n C 0 d_Mod_store_0 rfl rfl ?_
  refine J_iload_n C 1 d_Mod_store_1 rfl rfl ?_
  refine J_ifN_lt C d_Mod_store_2 10 (by decide) (by omega) ?_
  refine J_iload_n C 1 d_Mod_store_5 rfl rfl ?_
  refine J_iconst C d_Mod_store_6 (v := nI 3) rfl ?_
  refine J_icmpN_le C 14 d_Mod_store_7 (by decide) (by omega) (by omega) (fun hc7 => ?_) (fun hc7 => absurd hc7 (by decide))
  refine J_iconst C d_Mod_store_14 (v := nI 0) rfl ?_
  refine K_putI C f_Mod_7 (by decide) (e_76 _) (Nat.le_of_ble_eq_true rfl) rfl d_Mod_store_15 (kk := ?_)
  refine J_aload_n C 0 d_Mod_store_18 rfl rfl ?_
  refine J_get C f_Mod_7 (by decide) (e_76 _) rfl d_Mod_store_19 ?_
  refine J_val (y := nI 0) rfl ?_
  refine J_ifN_eq C 27 d_Mod_store_22 (by decide) (by omega) (fun hc22 => ?_) (fun hc22 => absurd hc22 (by decide))
  refine J_iload_n C 1 d_Mod_store_27 rfl rfl ?_
  refine J_ifN_ne C 38 d_Mod_store_28 (by decide) (by omega) (fun hc28 => absurd hc28 (by decide)) (fun hc28 => ?_)
  refine J_aload_n C 0 d_Mod_store_31 rfl rfl ?_
  refine J_get C f_Mod_58 (by decide) (e_76 _) rfl d_Mod_store_32 ?_
  refine J_val (y := M 76 15) rfl ?_
  refine J_goto C 66 d_Mod_store_35 (by decide) ?_
  exact F_iret C hr rfl rfl d_Mod_store_66

set_option maxHeartbeats 4000000 in
set_option maxRecDepth 100000 in
theorem fm_store1 (l : Launch) (D : va_G) (dA : Nat → ClassId) (M : Mem) (cn : Nat) (u : Nat → Nat) (hcn : M 76 15 = nI cn) (hc24 : cn ≤ 24) (hu : ∀ b, u b ≤ 1) (hu1 : ∀ b, b < 24 → (∀ q, q < 3 * cn → ¬ M 85 q = nI b) → nI (u b) = 1) (hu0 : ∀ b, b < 24 → (∃ q, q < 3 * cn ∧ M 85 q = nI b) → nI (u b) = 0) : CF l D dA k_Mod_store 2 [.ref 76, .int (nI 1)] M (some (.int (nI (cntF u 24)))) (mu M 76 0 (nI 0)) := by
  refine CF.of (by decide +kernel) (Nat.le_of_ble_eq_true rfl) (by intro v hv; simp only [List.mem_cons, List.not_mem_nil, or_false] at hv; rcases hv with rfl | rfl <;> rfl) ?_
  intro A ad0 p e s m args below meth c C hr
  refine J_aload_n C 0 d_Mod_store_0 rfl rfl ?_
  refine J_iload_n C 1 d_Mod_store_1 rfl rfl ?_
  refine J_ifN_lt C d_Mod_store_2 10 (by decide) (by omega) ?_
  refine J_iload_n C 1 d_Mod_store_5 rfl rfl ?_
  refine J_iconst C d_Mod_store_6 (v := nI 3) rfl ?_
  refine J_icmpN_le C 14 d_Mod_store_7 (by decide) (by omega) (by omega) (fun hc7 => ?_) (fun hc7 => absurd hc7 (by decide))
  refine J_iconst C d_Mod_store_14 (v := nI 0) rfl ?_
  refine K_putI C f_Mod_7 (by decide) (e_76 _) (Nat.le_of_ble_eq_true rfl) rfl d_Mod_store_15 (kk := ?_)
  refine J_aload_n C 0 d_Mod_store_18 rfl rfl ?_
  refine J_get C f_Mod_7 (by decide) (e_76 _) rfl d_Mod_store_19 ?_
  refine J_val (y := nI 0) rfl ?_
  refine J_ifN_eq C 27 d_Mod_store_22 (by decide) (by omega) (fun hc22 => ?_) (fun hc22 => absurd hc22 (by decide))
  refine J_iload_n C 1 d_Mod_store_27 rfl rfl ?_
  refine J_ifN_ne C 38 d_Mod_store_28 (by decide) (by omega) (fun hc28 => ?_) (fun hc28 => absurd hc28 (by decide))
  refine J_iload_n C 1 d_Mod_store_38 rfl rfl ?_
  refine J_iconst C d_Mod_store_39 (v := nI 1) rfl ?_
  refine J_icmpN_ne C 50 d_Mod_store_40 (by decide) (by omega) (by omega) (fun hc40 => absurd hc40 (by decide)) (fun hc40 => ?_)
  refine J_aload_n C 0 d_Mod_store_43 rfl rfl ?_
  refine P_callV C (as := []) (st := []) (pm_freeBlocks l D dA (mu M 76 0 (nI 0)) cn u (by simpa [mu, va_up, upd] using hcn) hc24 hu (by simpa [mu, va_up, upd] using hu1) (by simpa [mu, va_up, upd] using hu0)) l_Mod_113 v_Mod_freeBlocks (by decide) (e_76 _) rfl (by decide) (by decide) (by decide) (Nat.le_of_ble_eq_true rfl) d_Mod_store_44 (kk := ?_)
  refine J_goto C 66 d_Mod_store_47 (by decide) ?_
  exact F_iret C hr rfl rfl d_Mod_store_66

set_option maxHeartbeats 4000000 in
set_option maxRecDepth 100000 in
theorem fm_store2 (l : Launch) (D : va_G) (dA : Nat → ClassId) (M : Mem)  : CF l D dA k_Mod_store 2 [.ref 76, .int (nI 2)] M (some (.int (M 76 22))) (mu M 76 0 (nI 0)) := by
  refine CF.of (by decide +kernel) (Nat.le_of_ble_eq_true rfl) (by intro v hv; simp only [List.mem_cons, List.not_mem_nil, or_false] at hv; rcases hv with rfl | rfl <;> rfl) ?_
  intro A ad0 p e s m args below meth c C hr
  refine J_aload_n C 0 d_Mod_store_0 rfl rfl ?_
  refine J_iload_n C 1 d_Mod_store_1 rfl rfl ?_
  refine J_ifN_lt C d_Mod_store_2 10 (by decide) (by omega) ?_
  refine J_iload_n C 1 d_Mod_store_5 rfl rfl ?_
  refine J_iconst C d_Mod_store_6 (v := nI 3) rfl ?_
  refine J_icmpN_le C 14 d_Mod_store_7 (by decide) (by omega) (by omega) (fun hc7 => ?_) (fun hc7 => absurd hc7 (by decide))
  refine J_iconst C d_Mod_store_14 (v := nI 0) rfl ?_
  refine K_putI C f_Mod_7 (by decide) (e_76 _) (Nat.le_of_ble_eq_true rfl) rfl d_Mod_store_15 (kk := ?_)
  refine J_aload_n C 0 d_Mod_store_18 rfl rfl ?_
  refine J_get C f_Mod_7 (by decide) (e_76 _) rfl d_Mod_store_19 ?_
  refine J_val (y := nI 0) rfl ?_
  refine J_ifN_eq C 27 d_Mod_store_22 (by decide) (by omega) (fun hc22 => ?_) (fun hc22 => absurd hc22 (by decide))
  refine J_iload_n C 1 d_Mod_store_27 rfl rfl ?_
  refine J_ifN_ne C 38 d_Mod_store_28 (by decide) (by omega) (fun hc28 => ?_) (fun hc28 => absurd hc28 (by decide))
  refine J_iload_n C 1 d_Mod_store_38 rfl rfl ?_
  refine J_iconst C d_Mod_store_39 (v := nI 1) rfl ?_
  refine J_icmpN_ne C 50 d_Mod_store_40 (by decide) (by omega) (by omega) (fun hc40 => ?_) (fun hc40 => absurd hc40 (by decide))
  refine J_iload_n C 1 d_Mod_store_50 rfl rfl ?_
  refine J_iconst C d_Mod_store_51 (v := nI 2) rfl ?_
  refine J_icmpN_ne C 62 d_Mod_store_52 (by decide) (by omega) (by omega) (fun hc52 => absurd hc52 (by decide)) (fun hc52 => ?_)
  refine J_aload_n C 0 d_Mod_store_55 rfl rfl ?_
  refine J_get C f_Mod_79 (by decide) (e_76 _) rfl d_Mod_store_56 ?_
  refine J_val (y := M 76 22) rfl ?_
  refine J_goto C 66 d_Mod_store_59 (by decide) ?_
  exact F_iret C hr rfl rfl d_Mod_store_66

set_option maxHeartbeats 4000000 in
set_option maxRecDepth 100000 in
theorem fm_store3 (l : Launch) (D : va_G) (dA : Nat → ClassId) (M : Mem)  : CF l D dA k_Mod_store 2 [.ref 76, .int (nI 3)] M (some (.int (M 76 23))) (mu M 76 0 (nI 0)) := by
  refine CF.of (by decide +kernel) (Nat.le_of_ble_eq_true rfl) (by intro v hv; simp only [List.mem_cons, List.not_mem_nil, or_false] at hv; rcases hv with rfl | rfl <;> rfl) ?_
  intro A ad0 p e s m args below meth c C hr
  refine J_aload_n C 0 d_Mod_store_0 rfl rfl ?_
  refine J_iload_n C 1 d_Mod_store_1 rfl rfl ?_
  refine J_ifN_lt C d_Mod_store_2 10 (by decide) (by omega) ?_
  refine J_iload_n C 1 d_Mod_store_5 rfl rfl ?_
  refine J_iconst C d_Mod_store_6 (v := nI 3) rfl ?_
  refine J_icmpN_le C 14 d_Mod_store_7 (by decide) (by omega) (by omega) (fun hc7 => ?_) (fun hc7 => absurd hc7 (by decide))
  refine J_iconst C d_Mod_store_14 (v := nI 0) rfl ?_
  refine K_putI C f_Mod_7 (by decide) (e_76 _) (Nat.le_of_ble_eq_true rfl) rfl d_Mod_store_15 (kk := ?_)
  refine J_aload_n C 0 d_Mod_store_18 rfl rfl ?_
  refine J_get C f_Mod_7 (by decide) (e_76 _) rfl d_Mod_store_19 ?_
  refine J_val (y := nI 0) rfl ?_
  refine J_ifN_eq C 27 d_Mod_store_22 (by decide) (by omega) (fun hc22 => ?_) (fun hc22 => absurd hc22 (by decide))
  refine J_iload_n C 1 d_Mod_store_27 rfl rfl ?_
  refine J_ifN_ne C 38 d_Mod_store_28 (by decide) (by omega) (fun hc28 => ?_) (fun hc28 => absurd hc28 (by decide))
  refine J_iload_n C 1 d_Mod_store_38 rfl rfl ?_
  refine J_iconst C d_Mod_store_39 (v := nI 1) rfl ?_
  refine J_icmpN_ne C 50 d_Mod_store_40 (by decide) (by omega) (by omega) (fun hc40 => ?_) (fun hc40 => absurd hc40 (by decide))
  refine J_iload_n C 1 d_Mod_store_50 rfl rfl ?_
  refine J_iconst C d_Mod_store_51 (v := nI 2) rfl ?_
  refine J_icmpN_ne C 62 d_Mod_store_52 (by decide) (by omega) (by omega) (fun hc52 => ?_) (fun hc52 => absurd hc52 (by decide))
  refine J_aload_n C 0 d_Mod_store_62 rfl rfl ?_
  refine J_get C f_Mod_82 (by decide) (e_76 _) rfl d_Mod_store_63 ?_
  refine J_val (y := M 76 23) rfl ?_
  exact F_iret C hr rfl rfl d_Mod_store_66

set_option maxHeartbeats 4000000 in
set_option maxRecDepth 100000 in
theorem fm_storeX (l : Launch) (D : va_G) (dA : Nat → ClassId) (M : Mem) (p0 : Int32) (hbad : p0 < 0 ∨ nI 3 < p0) : CF l D dA k_Mod_store 2 [.ref 76, .int p0] M (some (.int (nI 0))) (mu M 76 0 (nI 1)) := by
  refine CF.of (by decide +kernel) (Nat.le_of_ble_eq_true rfl) (by intro v hv; simp only [List.mem_cons, List.not_mem_nil, or_false] at hv; rcases hv with rfl | rfl <;> rfl) ?_
  intro A ad0 p e s m args below meth c C hr
  refine J_aload_n C 0 d_Mod_store_0 rfl rfl ?_
  refine J_iload_n C 1 d_Mod_store_1 rfl rfl ?_
  refine J_if_lt C 10 d_Mod_store_2 (by decide) (fun hc2 => ?_) (fun hc2 => ?_)
  · refine J_iconst C d_Mod_store_10 (v := nI 1) rfl ?_
    refine J_goto C 15 d_Mod_store_11 (by decide) ?_
    refine K_putI C f_Mod_7 (by decide) (e_76 _) (Nat.le_of_ble_eq_true rfl) rfl d_Mod_store_15 (kk := ?_)
    refine J_aload_n C 0 d_Mod_store_18 rfl rfl ?_
    refine J_get C f_Mod_7 (by decide) (e_76 _) rfl d_Mod_store_19 ?_
    refine J_val (y := nI 1) rfl ?_
    refine J_ifN_eq C 27 d_Mod_store_22 (by decide) (by omega) (fun hc22 => absurd hc22 (by decide)) (fun hc22 => ?_)
    refine J_iconst C d_Mod_store_25 (v := nI 0) rfl ?_
    exact F_iret C hr rfl rfl d_Mod_store_26
  · refine J_iload_n C 1 d_Mod_store_5 rfl rfl ?_
    refine J_iconst C d_Mod_store_6 (v := nI 3) rfl ?_
    refine J_icmp_le C 14 d_Mod_store_7 (by decide) (fun hc7 => ?_) (fun hc7 => ?_)
    · exact absurd hbad (by rintro (h | h) <;> first | contradiction | exact absurd h (Int32.not_lt.mpr hc7))
    · refine J_iconst C d_Mod_store_10 (v := nI 1) rfl ?_
      refine J_goto C 15 d_Mod_store_11 (by decide) ?_
      refine K_putI C f_Mod_7 (by decide) (e_76 _) (Nat.le_of_ble_eq_true rfl) rfl d_Mod_store_15 (kk := ?_)
      refine J_aload_n C 0 d_Mod_store_18 rfl rfl ?_
      refine J_get C f_Mod_7 (by decide) (e_76 _) rfl d_Mod_store_19 ?_
      refine J_val (y := nI 1) rfl ?_
      refine J_ifN_eq C 27 d_Mod_store_22 (by decide) (by omega) (fun hc22 => absurd hc22 (by decide)) (fun hc22 => ?_)
      refine J_iconst C d_Mod_store_25 (v := nI 0) rfl ?_
      exact F_iret C hr rfl rfl d_Mod_store_26

set_option maxHeartbeats 4000000 in
set_option maxRecDepth 100000 in
theorem fm_packet0 (l : Launch) (D : va_G) (dA : Nat → ClassId) (M : Mem) (i cn : Nat) (hcn : M 76 15 = nI cn) (hc24 : cn ≤ 24) (hi : i < cn) : CF l D dA k_Mod_packet 0 [.ref 76, .int (nI i), .int (nI 0)] M (some (.int (M 82 i))) (mu M 76 0 (nI 0)) := by
  refine CF.of (by decide +kernel) (Nat.le_of_ble_eq_true rfl) (by intro v hv; simp only [List.mem_cons, List.not_mem_nil, or_false] at hv; rcases hv with rfl | rfl | rfl <;> rfl) ?_
  intro A ad0 p e s m args below meth c C hr
  refine J_aload_n C 0 d_Mod_packet_0 rfl rfl ?_
  refine J_iload_n C 1 d_Mod_packet_1 rfl rfl ?_
  refine J_ifN_lt C d_Mod_packet_2 13 (by decide) (by omega) ?_
  refine J_iload_n C 1 d_Mod_packet_5 rfl rfl ?_
  refine J_aload_n C 0 d_Mod_packet_6 rfl rfl ?_
  refine J_get C f_Mod_58 (by decide) (e_76 _) rfl d_Mod_packet_7 ?_
  refine J_val (y := nI cn) hcn ?_
  refine J_icmpN_lt C 17 d_Mod_packet_10 (by decide) (by omega) (by omega) (fun hc10 => ?_) (fun hc10 => absurd hc10 (by omega))
  refine J_iload_n C 2 d_Mod_packet_17 rfl rfl ?_
  refine J_ifN_lt C d_Mod_packet_18 26 (by decide) (by omega) ?_
  refine J_iload_n C 2 d_Mod_packet_21 rfl rfl ?_
  refine J_iconst C d_Mod_packet_22 (v := nI 4) rfl ?_
  refine J_icmpN_le C 30 d_Mod_packet_23 (by decide) (by omega) (by omega) (fun hc23 => ?_) (fun hc23 => absurd hc23 (by decide))
  refine J_iconst C d_Mod_packet_30 (v := nI 0) rfl ?_
  refine K_putI C f_Mod_7 (by decide) (e_76 _) (Nat.le_of_ble_eq_true rfl) rfl d_Mod_packet_31 (kk := ?_)
  refine J_aload_n C 0 d_Mod_packet_34 rfl rfl ?_
  refine J_get C f_Mod_7 (by decide) (e_76 _) rfl d_Mod_packet_35 ?_
  refine J_val (y := nI 0) rfl ?_
  refine J_ifN_eq C 43 d_Mod_packet_38 (by decide) (by omega) (fun hc38 => ?_) (fun hc38 => absurd hc38 (by decide))
  refine J_iload_n C 2 d_Mod_packet_43 rfl rfl ?_
  refine J_ifN_ne C 54 d_Mod_packet_44 (by decide) (by omega) (fun hc44 => absurd hc44 (by decide)) (fun hc44 => ?_)
  refine J_aload_n C 0 d_Mod_packet_47 rfl rfl ?_
  refine J_get C f_Mod_61 (by decide) (e_76 _) rfl d_Mod_packet_48 ?_
  refine J_iload_n C 1 d_Mod_packet_51 rfl rfl ?_
  refine K_ial C a_82 (j := i) rfl (by omega) d_Mod_packet_52 ?_
  refine J_val (y := M 82 i) rfl ?_
  exact F_iret C hr rfl rfl d_Mod_packet_53

set_option maxHeartbeats 4000000 in
set_option maxRecDepth 100000 in
theorem fm_packet1 (l : Launch) (D : va_G) (dA : Nat → ClassId) (M : Mem) (i cn : Nat) (hcn : M 76 15 = nI cn) (hc24 : cn ≤ 24) (hi : i < cn) : CF l D dA k_Mod_packet 0 [.ref 76, .int (nI i), .int (nI 1)] M (some (.int (M 83 i))) (mu M 76 0 (nI 0)) := by
  refine CF.of (by decide +kernel) (Nat.le_of_ble_eq_true rfl) (by intro v hv; simp only [List.mem_cons, List.not_mem_nil, or_false] at hv; rcases hv with rfl | rfl | rfl <;> rfl) ?_
  intro A ad0 p e s m args below meth c C hr
  refine J_aload_n C 0 d_Mod_packet_0 rfl rfl ?_
  refine J_iload_n C 1 d_Mod_packet_1 rfl rfl ?_
  refine J_ifN_lt C d_Mod_packet_2 13 (by decide) (by omega) ?_
  refine J_iload_n C 1 d_Mod_packet_5 rfl rfl ?_
  refine J_aload_n C 0 d_Mod_packet_6 rfl rfl ?_
  refine J_get C f_Mod_58 (by decide) (e_76 _) rfl d_Mod_packet_7 ?_
  refine J_val (y := nI cn) hcn ?_
  refine J_icmpN_lt C 17 d_Mod_packet_10 (by decide) (by omega) (by omega) (fun hc10 => ?_) (fun hc10 => absurd hc10 (by omega))
  refine J_iload_n C 2 d_Mod_packet_17 rfl rfl ?_
  refine J_ifN_lt C d_Mod_packet_18 26 (by decide) (by omega) ?_
  refine J_iload_n C 2 d_Mod_packet_21 rfl rfl ?_
  refine J_iconst C d_Mod_packet_22 (v := nI 4) rfl ?_
  refine J_icmpN_le C 30 d_Mod_packet_23 (by decide) (by omega) (by omega) (fun hc23 => ?_) (fun hc23 => absurd hc23 (by decide))
  refine J_iconst C d_Mod_packet_30 (v := nI 0) rfl ?_
  refine K_putI C f_Mod_7 (by decide) (e_76 _) (Nat.le_of_ble_eq_true rfl) rfl d_Mod_packet_31 (kk := ?_)
  refine J_aload_n C 0 d_Mod_packet_34 rfl rfl ?_
  refine J_get C f_Mod_7 (by decide) (e_76 _) rfl d_Mod_packet_35 ?_
  refine J_val (y := nI 0) rfl ?_
  refine J_ifN_eq C 43 d_Mod_packet_38 (by decide) (by omega) (fun hc38 => ?_) (fun hc38 => absurd hc38 (by decide))
  refine J_iload_n C 2 d_Mod_packet_43 rfl rfl ?_
  refine J_ifN_ne C 54 d_Mod_packet_44 (by decide) (by omega) (fun hc44 => ?_) (fun hc44 => absurd hc44 (by decide))
  refine J_iload_n C 2 d_Mod_packet_54 rfl rfl ?_
  refine J_iconst C d_Mod_packet_55 (v := nI 1) rfl ?_
  refine J_icmpN_ne C 66 d_Mod_packet_56 (by decide) (by omega) (by omega) (fun hc56 => absurd hc56 (by decide)) (fun hc56 => ?_)
  refine J_aload_n C 0 d_Mod_packet_59 rfl rfl ?_
  refine J_get C f_Mod_64 (by decide) (e_76 _) rfl d_Mod_packet_60 ?_
  refine J_iload_n C 1 d_Mod_packet_63 rfl rfl ?_
  refine K_ial C a_83 (j := i) rfl (by omega) d_Mod_packet_64 ?_
  refine J_val (y := M 83 i) rfl ?_
  exact F_iret C hr rfl rfl d_Mod_packet_65

set_option maxHeartbeats 4000000 in
set_option maxRecDepth 100000 in
theorem fm_packet2 (l : Launch) (D : va_G) (dA : Nat → ClassId) (M : Mem) (i cn : Nat) (hcn : M 76 15 = nI cn) (hc24 : cn ≤ 24) (hi : i < cn) : CF l D dA k_Mod_packet 0 [.ref 76, .int (nI i), .int (nI 2)] M (some (.int ((M 84 (60 * i) &&& nI 7) * nI 256 + M 84 (60 * i + 1)))) (mu M 76 0 (nI 0)) := by
  refine CF.of (by decide +kernel) (Nat.le_of_ble_eq_true rfl) (by intro v hv; simp only [List.mem_cons, List.not_mem_nil, or_false] at hv; rcases hv with rfl | rfl | rfl <;> rfl) ?_
  intro A ad0 p e s m args below meth c C hr
  refine J_aload_n C 0 d_Mod_packet_0 rfl rfl ?_
  refine J_iload_n C 1 d_Mod_packet_1 rfl rfl ?_
  refine J_ifN_lt C d_Mod_packet_2 13 (by decide) (by omega) ?_
  refine J_iload_n C 1 d_Mod_packet_5 rfl rfl ?_
  refine J_aload_n C 0 d_Mod_packet_6 rfl rfl ?_
  refine J_get C f_Mod_58 (by decide) (e_76 _) rfl d_Mod_packet_7 ?_
  refine J_val (y := nI cn) hcn ?_
  refine J_icmpN_lt C 17 d_Mod_packet_10 (by decide) (by omega) (by omega) (fun hc10 => ?_) (fun hc10 => absurd hc10 (by omega))
  refine J_iload_n C 2 d_Mod_packet_17 rfl rfl ?_
  refine J_ifN_lt C d_Mod_packet_18 26 (by decide) (by omega) ?_
  refine J_iload_n C 2 d_Mod_packet_21 rfl rfl ?_
  refine J_iconst C d_Mod_packet_22 (v := nI 4) rfl ?_
  refine J_icmpN_le C 30 d_Mod_packet_23 (by decide) (by omega) (by omega) (fun hc23 => ?_) (fun hc23 => absurd hc23 (by decide))
  refine J_iconst C d_Mod_packet_30 (v := nI 0) rfl ?_
  refine K_putI C f_Mod_7 (by decide) (e_76 _) (Nat.le_of_ble_eq_true rfl) rfl d_Mod_packet_31 (kk := ?_)
  refine J_aload_n C 0 d_Mod_packet_34 rfl rfl ?_
  refine J_get C f_Mod_7 (by decide) (e_76 _) rfl d_Mod_packet_35 ?_
  refine J_val (y := nI 0) rfl ?_
  refine J_ifN_eq C 43 d_Mod_packet_38 (by decide) (by omega) (fun hc38 => ?_) (fun hc38 => absurd hc38 (by decide))
  refine J_iload_n C 2 d_Mod_packet_43 rfl rfl ?_
  refine J_ifN_ne C 54 d_Mod_packet_44 (by decide) (by omega) (fun hc44 => ?_) (fun hc44 => absurd hc44 (by decide))
  refine J_iload_n C 2 d_Mod_packet_54 rfl rfl ?_
  refine J_iconst C d_Mod_packet_55 (v := nI 1) rfl ?_
  refine J_icmpN_ne C 66 d_Mod_packet_56 (by decide) (by omega) (by omega) (fun hc56 => ?_) (fun hc56 => absurd hc56 (by decide))
  refine J_iload_n C 2 d_Mod_packet_66 rfl rfl ?_
  refine J_iconst C d_Mod_packet_67 (v := nI 2) rfl ?_
  refine J_icmpN_ne C 100 d_Mod_packet_68 (by decide) (by omega) (by omega) (fun hc68 => absurd hc68 (by decide)) (fun hc68 => ?_)
  refine J_aload_n C 0 d_Mod_packet_71 rfl rfl ?_
  refine J_get C f_Mod_67 (by decide) (e_76 _) rfl d_Mod_packet_72 ?_
  refine J_bipush C d_Mod_packet_75 (v := nI 60) rfl ?_
  refine J_iload_n C 1 d_Mod_packet_77 rfl rfl ?_
  refine J_imulN C d_Mod_packet_78 ?_
  refine K_ial C a_84 (j := 60 * i) rfl (by omega) d_Mod_packet_79 ?_
  refine J_val (y := M 84 (60 * i)) rfl ?_
  refine J_bipush C d_Mod_packet_80 (v := nI 7) rfl ?_
  refine J_iand C d_Mod_packet_82 ?_
  refine J_sipush C d_Mod_packet_83 (v := nI 256) rfl ?_
  refine J_imul C d_Mod_packet_86 ?_
  refine J_aload_n C 0 d_Mod_packet_87 rfl rfl ?_
  refine J_get C f_Mod_67 (by decide) (e_76 _) rfl d_Mod_packet_88 ?_
  refine J_bipush C d_Mod_packet_91 (v := nI 60) rfl ?_
  refine J_iload_n C 1 d_Mod_packet_93 rfl rfl ?_
  refine J_imulN C d_Mod_packet_94 ?_
  refine J_iconst C d_Mod_packet_95 (v := nI 1) rfl ?_
  refine J_iaddN C d_Mod_packet_96 ?_
  refine K_ial C a_84 (j := (60 * i) + 1) rfl (by omega) d_Mod_packet_97 ?_
  refine J_val (y := M 84 ((60 * i) + 1)) rfl ?_
  refine J_iadd C d_Mod_packet_98 ?_
  exact F_iret C hr rfl rfl d_Mod_packet_99

set_option maxHeartbeats 4000000 in
set_option maxRecDepth 100000 in
theorem fm_packet3 (l : Launch) (D : va_G) (dA : Nat → ClassId) (M : Mem) (i cn : Nat) (hcn : M 76 15 = nI cn) (hc24 : cn ≤ 24) (hi : i < cn) : CF l D dA k_Mod_packet 0 [.ref 76, .int (nI i), .int (nI 3)] M (some (.int (M 85 (3 * i)))) (mu M 76 0 (nI 0)) := by
  refine CF.of (by decide +kernel) (Nat.le_of_ble_eq_true rfl) (by intro v hv; simp only [List.mem_cons, List.not_mem_nil, or_false] at hv; rcases hv with rfl | rfl | rfl <;> rfl) ?_
  intro A ad0 p e s m args below meth c C hr
  refine J_aload_n C 0 d_Mod_packet_0 rfl rfl ?_
  refine J_iload_n C 1 d_Mod_packet_1 rfl rfl ?_
  refine J_ifN_lt C d_Mod_packet_2 13 (by decide) (by omega) ?_
  refine J_iload_n C 1 d_Mod_packet_5 rfl rfl ?_
  refine J_aload_n C 0 d_Mod_packet_6 rfl rfl ?_
  refine J_get C f_Mod_58 (by decide) (e_76 _) rfl d_Mod_packet_7 ?_
  refine J_val (y := nI cn) hcn ?_
  refine J_icmpN_lt C 17 d_Mod_packet_10 (by decide) (by omega) (by omega) (fun hc10 => ?_) (fun hc10 => absurd hc10 (by omega))
  refine J_iload_n C 2 d_Mod_packet_17 rfl rfl ?_
  refine J_ifN_lt C d_Mod_packet_18 26 (by decide) (by omega) ?_
  refine J_iload_n C 2 d_Mod_packet_21 rfl rfl ?_
  refine J_iconst C d_Mod_packet_22 (v := nI 4) rfl ?_
  refine J_icmpN_le C 30 d_Mod_packet_23 (by decide) (by omega) (by omega) (fun hc23 => ?_) (fun hc23 => absurd hc23 (by decide))
  refine J_iconst C d_Mod_packet_30 (v := nI 0) rfl ?_
  refine K_putI C f_Mod_7 (by decide) (e_76 _) (Nat.le_of_ble_eq_true rfl) rfl d_Mod_packet_31 (kk := ?_)
  refine J_aload_n C 0 d_Mod_packet_34 rfl rfl ?_
  refine J_get C f_Mod_7 (by decide) (e_76 _) rfl d_Mod_packet_35 ?_
  refine J_val (y := nI 0) rfl ?_
  refine J_ifN_eq C 43 d_Mod_packet_38 (by decide) (by omega) (fun hc38 => ?_) (fun hc38 => absurd hc38 (by decide))
  refine J_iload_n C 2 d_Mod_packet_43 rfl rfl ?_
  refine J_ifN_ne C 54 d_Mod_packet_44 (by decide) (by omega) (fun hc44 => ?_) (fun hc44 => absurd hc44 (by decide))
  refine J_iload_n C 2 d_Mod_packet_54 rfl rfl ?_
  refine J_iconst C d_Mod_packet_55 (v := nI 1) rfl ?_
  refine J_icmpN_ne C 66 d_Mod_packet_56 (by decide) (by omega) (by omega) (fun hc56 => ?_) (fun hc56 => absurd hc56 (by decide))
  refine J_iload_n C 2 d_Mod_packet_66 rfl rfl ?_
  refine J_iconst C d_Mod_packet_67 (v := nI 2) rfl ?_
  refine J_icmpN_ne C 100 d_Mod_packet_68 (by decide) (by omega) (by omega) (fun hc68 => ?_) (fun hc68 => absurd hc68 (by decide))
  refine J_iload_n C 2 d_Mod_packet_100 rfl rfl ?_
  refine J_iconst C d_Mod_packet_101 (v := nI 3) rfl ?_
  refine J_icmpN_ne C 116 d_Mod_packet_102 (by decide) (by omega) (by omega) (fun hc102 => absurd hc102 (by decide)) (fun hc102 => ?_)
  refine J_aload_n C 0 d_Mod_packet_105 rfl rfl ?_
  refine J_get C f_Mod_70 (by decide) (e_76 _) rfl d_Mod_packet_106 ?_
  refine J_iconst C d_Mod_packet_109 (v := nI 3) rfl ?_
  refine J_iload_n C 1 d_Mod_packet_110 rfl rfl ?_
  refine J_imulN C d_Mod_packet_111 ?_
  refine K_ial C a_85 (j := 3 * i) rfl (by omega) d_Mod_packet_112 ?_
  refine J_val (y := M 85 (3 * i)) rfl ?_
  refine J_goto C 122 d_Mod_packet_113 (by decide) ?_
  exact F_iret C hr rfl rfl d_Mod_packet_122

set_option maxHeartbeats 4000000 in
set_option maxRecDepth 100000 in
theorem fm_packet4 (l : Launch) (D : va_G) (dA : Nat → ClassId) (M : Mem) (i cn : Nat) (hcn : M 76 15 = nI cn) (hc24 : cn ≤ 24) (hi : i < cn) : CF l D dA k_Mod_packet 0 [.ref 76, .int (nI i), .int (nI 4)] M (some (.int (M 86 i))) (mu M 76 0 (nI 0)) := by
  refine CF.of (by decide +kernel) (Nat.le_of_ble_eq_true rfl) (by intro v hv; simp only [List.mem_cons, List.not_mem_nil, or_false] at hv; rcases hv with rfl | rfl | rfl <;> rfl) ?_
  intro A ad0 p e s m args below meth c C hr
  refine J_aload_n C 0 d_Mod_packet_0 rfl rfl ?_
  refine J_iload_n C 1 d_Mod_packet_1 rfl rfl ?_
  refine J_ifN_lt C d_Mod_packet_2 13 (by decide) (by omega) ?_
  refine J_iload_n C 1 d_Mod_packet_5 rfl rfl ?_
  refine J_aload_n C 0 d_Mod_packet_6 rfl rfl ?_
  refine J_get C f_Mod_58 (by decide) (e_76 _) rfl d_Mod_packet_7 ?_
  refine J_val (y := nI cn) hcn ?_
  refine J_icmpN_lt C 17 d_Mod_packet_10 (by decide) (by omega) (by omega) (fun hc10 => ?_) (fun hc10 => absurd hc10 (by omega))
  refine J_iload_n C 2 d_Mod_packet_17 rfl rfl ?_
  refine J_ifN_lt C d_Mod_packet_18 26 (by decide) (by omega) ?_
  refine J_iload_n C 2 d_Mod_packet_21 rfl rfl ?_
  refine J_iconst C d_Mod_packet_22 (v := nI 4) rfl ?_
  refine J_icmpN_le C 30 d_Mod_packet_23 (by decide) (by omega) (by omega) (fun hc23 => ?_) (fun hc23 => absurd hc23 (by decide))
  refine J_iconst C d_Mod_packet_30 (v := nI 0) rfl ?_
  refine K_putI C f_Mod_7 (by decide) (e_76 _) (Nat.le_of_ble_eq_true rfl) rfl d_Mod_packet_31 (kk := ?_)
  refine J_aload_n C 0 d_Mod_packet_34 rfl rfl ?_
  refine J_get C f_Mod_7 (by decide) (e_76 _) rfl d_Mod_packet_35 ?_
  refine J_val (y := nI 0) rfl ?_
  refine J_ifN_eq C 43 d_Mod_packet_38 (by decide) (by omega) (fun hc38 => ?_) (fun hc38 => absurd hc38 (by decide))
  refine J_iload_n C 2 d_Mod_packet_43 rfl rfl ?_
  refine J_ifN_ne C 54 d_Mod_packet_44 (by decide) (by omega) (fun hc44 => ?_) (fun hc44 => absurd hc44 (by decide))
  refine J_iload_n C 2 d_Mod_packet_54 rfl rfl ?_
  refine J_iconst C d_Mod_packet_55 (v := nI 1) rfl ?_
  refine J_icmpN_ne C 66 d_Mod_packet_56 (by decide) (by omega) (by omega) (fun hc56 => ?_) (fun hc56 => absurd hc56 (by decide))
  refine J_iload_n C 2 d_Mod_packet_66 rfl rfl ?_
  refine J_iconst C d_Mod_packet_67 (v := nI 2) rfl ?_
  refine J_icmpN_ne C 100 d_Mod_packet_68 (by decide) (by omega) (by omega) (fun hc68 => ?_) (fun hc68 => absurd hc68 (by decide))
  refine J_iload_n C 2 d_Mod_packet_100 rfl rfl ?_
  refine J_iconst C d_Mod_packet_101 (v := nI 3) rfl ?_
  refine J_icmpN_ne C 116 d_Mod_packet_102 (by decide) (by omega) (by omega) (fun hc102 => ?_) (fun hc102 => absurd hc102 (by decide))
  refine J_aload_n C 0 d_Mod_packet_116 rfl rfl ?_
  refine J_get C f_Mod_73 (by decide) (e_76 _) rfl d_Mod_packet_117 ?_
  refine J_iload_n C 1 d_Mod_packet_120 rfl rfl ?_
  refine K_ial C a_86 (j := i) rfl (by omega) d_Mod_packet_121 ?_
  refine J_val (y := M 86 i) rfl ?_
  exact F_iret C hr rfl rfl d_Mod_packet_122

set_option maxHeartbeats 4000000 in
set_option maxRecDepth 100000 in
theorem fm_packetX (l : Launch) (D : va_G) (dA : Nat → ClassId) (M : Mem) (i p1 : Int32) (hbad : i < 0 ∨ M 76 15 ≤ i) : CF l D dA k_Mod_packet 0 [.ref 76, .int i, .int p1] M (some (.int (nI 0))) (mu M 76 0 (nI 1)) := by
  refine CF.of (by decide +kernel) (Nat.le_of_ble_eq_true rfl) (by intro v hv; simp only [List.mem_cons, List.not_mem_nil, or_false] at hv; rcases hv with rfl | rfl | rfl <;> rfl) ?_
  intro A ad0 p e s m args below meth c C hr
  refine J_aload_n C 0 d_Mod_packet_0 rfl rfl ?_
  refine J_iload_n C 1 d_Mod_packet_1 rfl rfl ?_
  refine J_if_lt C 13 d_Mod_packet_2 (by decide) (fun hc2 => ?_) (fun hc2 => ?_)
  · refine J_iconst C d_Mod_packet_13 (v := nI 1) rfl ?_
    refine J_goto C 31 d_Mod_packet_14 (by decide) ?_
    refine K_putI C f_Mod_7 (by decide) (e_76 _) (Nat.le_of_ble_eq_true rfl) rfl d_Mod_packet_31 (kk := ?_)
    refine J_aload_n C 0 d_Mod_packet_34 rfl rfl ?_
    refine J_get C f_Mod_7 (by decide) (e_76 _) rfl d_Mod_packet_35 ?_
    refine J_val (y := nI 1) rfl ?_
    refine J_ifN_eq C 43 d_Mod_packet_38 (by decide) (by omega) (fun hc38 => absurd hc38 (by decide)) (fun hc38 => ?_)
    refine J_iconst C d_Mod_packet_41 (v := nI 0) rfl ?_
    exact F_iret C hr rfl rfl d_Mod_packet_42
  · refine J_iload_n C 1 d_Mod_packet_5 rfl rfl ?_
    refine J_aload_n C 0 d_Mod_packet_6 rfl rfl ?_
    refine J_get C f_Mod_58 (by decide) (e_76 _) rfl d_Mod_packet_7 ?_
    refine J_icmp_lt C 17 d_Mod_packet_10 (by decide) (fun hc10 => ?_) (fun hc10 => ?_)
    · exact absurd hbad (by rintro (h | h) <;> first | contradiction | exact absurd h (Int32.not_le.mpr hc10))
    · refine J_iconst C d_Mod_packet_13 (v := nI 1) rfl ?_
      refine J_goto C 31 d_Mod_packet_14 (by decide) ?_
      refine K_putI C f_Mod_7 (by decide) (e_76 _) (Nat.le_of_ble_eq_true rfl) rfl d_Mod_packet_31 (kk := ?_)
      refine J_aload_n C 0 d_Mod_packet_34 rfl rfl ?_
      refine J_get C f_Mod_7 (by decide) (e_76 _) rfl d_Mod_packet_35 ?_
      refine J_val (y := nI 1) rfl ?_
      refine J_ifN_eq C 43 d_Mod_packet_38 (by decide) (by omega) (fun hc38 => absurd hc38 (by decide)) (fun hc38 => ?_)
      refine J_iconst C d_Mod_packet_41 (v := nI 0) rfl ?_
      exact F_iret C hr rfl rfl d_Mod_packet_42

set_option maxHeartbeats 4000000 in
set_option maxRecDepth 100000 in
theorem fm_packetY (l : Launch) (D : va_G) (dA : Nat → ClassId) (M : Mem) (i cn : Nat) (hcn : M 76 15 = nI cn) (hc24 : cn ≤ 24) (hi : i < cn) (p1 : Int32) (hbad : p1 < 0 ∨ nI 4 < p1) : CF l D dA k_Mod_packet 0 [.ref 76, .int (nI i), .int p1] M (some (.int (nI 0))) (mu M 76 0 (nI 2)) := by
  refine CF.of (by decide +kernel) (Nat.le_of_ble_eq_true rfl) (by intro v hv; simp only [List.mem_cons, List.not_mem_nil, or_false] at hv; rcases hv with rfl | rfl | rfl <;> rfl) ?_
  intro A ad0 p e s m args below meth c C hr
  refine J_aload_n C 0 d_Mod_packet_0 rfl rfl ?_
  refine J_iload_n C 1 d_Mod_packet_1 rfl rfl ?_
  refine J_ifN_lt C d_Mod_packet_2 13 (by decide) (by omega) ?_
  refine J_iload_n C 1 d_Mod_packet_5 rfl rfl ?_
  refine J_aload_n C 0 d_Mod_packet_6 rfl rfl ?_
  refine J_get C f_Mod_58 (by decide) (e_76 _) rfl d_Mod_packet_7 ?_
  refine J_val (y := nI cn) hcn ?_
  refine J_icmpN_lt C 17 d_Mod_packet_10 (by decide) (by omega) (by omega) (fun hc10 => ?_) (fun hc10 => absurd hc10 (by omega))
  refine J_iload_n C 2 d_Mod_packet_17 rfl rfl ?_
  refine J_if_lt C 26 d_Mod_packet_18 (by decide) (fun hc18 => ?_) (fun hc18 => ?_)
  · refine J_iconst C d_Mod_packet_26 (v := nI 2) rfl ?_
    refine J_goto C 31 d_Mod_packet_27 (by decide) ?_
    refine K_putI C f_Mod_7 (by decide) (e_76 _) (Nat.le_of_ble_eq_true rfl) rfl d_Mod_packet_31 (kk := ?_)
    refine J_aload_n C 0 d_Mod_packet_34 rfl rfl ?_
    refine J_get C f_Mod_7 (by decide) (e_76 _) rfl d_Mod_packet_35 ?_
    refine J_val (y := nI 2) rfl ?_
    refine J_ifN_eq C 43 d_Mod_packet_38 (by decide) (by omega) (fun hc38 => absurd hc38 (by decide)) (fun hc38 => ?_)
    refine J_iconst C d_Mod_packet_41 (v := nI 0) rfl ?_
    exact F_iret C hr rfl rfl d_Mod_packet_42
  · refine J_iload_n C 2 d_Mod_packet_21 rfl rfl ?_
    refine J_iconst C d_Mod_packet_22 (v := nI 4) rfl ?_
    refine J_icmp_le C 30 d_Mod_packet_23 (by decide) (fun hc23 => ?_) (fun hc23 => ?_)
    · exact absurd hbad (by rintro (h | h) <;> first | contradiction | exact absurd h (Int32.not_lt.mpr hc23))
    · refine J_iconst C d_Mod_packet_26 (v := nI 2) rfl ?_
      refine J_goto C 31 d_Mod_packet_27 (by decide) ?_
      refine K_putI C f_Mod_7 (by decide) (e_76 _) (Nat.le_of_ble_eq_true rfl) rfl d_Mod_packet_31 (kk := ?_)
      refine J_aload_n C 0 d_Mod_packet_34 rfl rfl ?_
      refine J_get C f_Mod_7 (by decide) (e_76 _) rfl d_Mod_packet_35 ?_
      refine J_val (y := nI 2) rfl ?_
      refine J_ifN_eq C 43 d_Mod_packet_38 (by decide) (by omega) (fun hc38 => absurd hc38 (by decide)) (fun hc38 => ?_)
      refine J_iconst C d_Mod_packet_41 (v := nI 0) rfl ?_
      exact F_iret C hr rfl rfl d_Mod_packet_42

set_option maxHeartbeats 4000000 in
set_option maxRecDepth 100000 in
theorem fm_content (l : Launch) (D : va_G) (dA : Nat → ClassId) (M : Mem) (i cn : Nat) (hcn : M 76 15 = nI cn) (hc24 : cn ≤ 24) (hi : i < cn) (k L : Nat) (hL : M 83 i = nI L) (hL60 : L ≤ 60) (hk : k < L) : CF l D dA k_Mod_content 0 [.ref 76, .int (nI i), .int (nI k)] M (some (.int (M 84 (60 * i + k)))) (mu M 76 0 (nI 0)) := by
  refine CF.of (by decide +kernel) (Nat.le_of_ble_eq_true rfl) (by intro v hv; simp only [List.mem_cons, List.not_mem_nil, or_false] at hv; rcases hv with rfl | rfl | rfl <;> rfl) ?_
  intro A ad0 p e s m args below meth c C hr
  refine J_aload_n C 0 d_Mod_content_0 rfl rfl ?_
  refine J_iload_n C 1 d_Mod_content_1 rfl rfl ?_
  refine J_ifN_lt C d_Mod_content_2 27 (by decide) (by omega) ?_
  refine J_iload_n C 1 d_Mod_content_5 rfl rfl ?_
  refine J_aload_n C 0 d_Mod_content_6 rfl rfl ?_
  refine J_get C f_Mod_58 (by decide) (e_76 _) rfl d_Mod_content_7 ?_
  refine J_val (y := nI cn) hcn ?_
  refine J_icmpN_ge C 27 d_Mod_content_10 (by decide) (by omega) (by omega) (fun hc10 => absurd hc10 (by omega)) (fun hc10 => ?_)
  refine J_iload_n C 2 d_Mod_content_13 rfl rfl ?_
  refine J_ifN_lt C d_Mod_content_14 27 (by decide) (by omega) ?_
  refine J_iload_n C 2 d_Mod_content_17 rfl rfl ?_
  refine J_aload_n C 0 d_Mod_content_18 rfl rfl ?_
  refine J_get C f_Mod_64 (by decide) (e_76 _) rfl d_Mod_content_19 ?_
  refine J_iload_n C 1 d_Mod_content_22 rfl rfl ?_
  refine K_ial C a_83 (j := i) rfl (by omega) d_Mod_content_23 ?_
  refine J_val (y := nI L) hL ?_
  refine J_icmpN_lt C 31 d_Mod_content_24 (by decide) (by omega) (by omega) (fun hc24 => ?_) (fun hc24 => absurd hc24 (by omega))
  refine J_iconst C d_Mod_content_31 (v := nI 0) rfl ?_
  refine K_putI C f_Mod_7 (by decide) (e_76 _) (Nat.le_of_ble_eq_true rfl) rfl d_Mod_content_32 (kk := ?_)
  refine J_aload_n C 0 d_Mod_content_35 rfl rfl ?_
  refine J_get C f_Mod_7 (by decide) (e_76 _) rfl d_Mod_content_36 ?_
  refine J_val (y := nI 0) rfl ?_
  refine J_ifN_eq C 46 d_Mod_content_39 (by decide) (by omega) (fun hc39 => ?_) (fun hc39 => absurd hc39 (by decide))
  refine J_aload_n C 0 d_Mod_content_46 rfl rfl ?_
  refine J_get C f_Mod_67 (by decide) (e_76 _) rfl d_Mod_content_47 ?_
  refine J_bipush C d_Mod_content_50 (v := nI 60) rfl ?_
  refine J_iload_n C 1 d_Mod_content_52 rfl rfl ?_
  refine J_imulN C d_Mod_content_53 ?_
  refine J_iload_n C 2 d_Mod_content_54 rfl rfl ?_
  refine J_iaddN C d_Mod_content_55 ?_
  refine K_ial C a_84 (j := (60 * i) + k) rfl (by omega) d_Mod_content_56 ?_
  refine J_val (y := M 84 ((60 * i) + k)) rfl ?_
  exact F_iret C hr rfl rfl d_Mod_content_57

set_option maxHeartbeats 4000000 in
set_option maxRecDepth 100000 in
theorem fm_contentX (l : Launch) (D : va_G) (dA : Nat → ClassId) (M : Mem) (i k : Int32) (hbad : i < 0 ∨ M 76 15 ≤ i) : CF l D dA k_Mod_content 0 [.ref 76, .int i, .int k] M (some (.int (nI 0))) (mu M 76 0 (nI 1)) := by
  refine CF.of (by decide +kernel) (Nat.le_of_ble_eq_true rfl) (by intro v hv; simp only [List.mem_cons, List.not_mem_nil, or_false] at hv; rcases hv with rfl | rfl | rfl <;> rfl) ?_
  intro A ad0 p e s m args below meth c C hr
  refine J_aload_n C 0 d_Mod_content_0 rfl rfl ?_
  refine J_iload_n C 1 d_Mod_content_1 rfl rfl ?_
  refine J_if_lt C 27 d_Mod_content_2 (by decide) (fun hc2 => ?_) (fun hc2 => ?_)
  · refine J_iconst C d_Mod_content_27 (v := nI 1) rfl ?_
    refine J_goto C 32 d_Mod_content_28 (by decide) ?_
    refine K_putI C f_Mod_7 (by decide) (e_76 _) (Nat.le_of_ble_eq_true rfl) rfl d_Mod_content_32 (kk := ?_)
    refine J_aload_n C 0 d_Mod_content_35 rfl rfl ?_
    refine J_get C f_Mod_7 (by decide) (e_76 _) rfl d_Mod_content_36 ?_
    refine J_val (y := nI 1) rfl ?_
    refine J_ifN_eq C 46 d_Mod_content_39 (by decide) (by omega) (fun hc39 => absurd hc39 (by decide)) (fun hc39 => ?_)
    refine J_iconst C d_Mod_content_42 (v := nI 0) rfl ?_
    refine J_goto C 57 d_Mod_content_43 (by decide) ?_
    exact F_iret C hr rfl rfl d_Mod_content_57
  · refine J_iload_n C 1 d_Mod_content_5 rfl rfl ?_
    refine J_aload_n C 0 d_Mod_content_6 rfl rfl ?_
    refine J_get C f_Mod_58 (by decide) (e_76 _) rfl d_Mod_content_7 ?_
    refine J_icmp_ge C 27 d_Mod_content_10 (by decide) (fun hc10 => ?_) (fun hc10 => ?_)
    · refine J_iconst C d_Mod_content_27 (v := nI 1) rfl ?_
      refine J_goto C 32 d_Mod_content_28 (by decide) ?_
      refine K_putI C f_Mod_7 (by decide) (e_76 _) (Nat.le_of_ble_eq_true rfl) rfl d_Mod_content_32 (kk := ?_)
      refine J_aload_n C 0 d_Mod_content_35 rfl rfl ?_
      refine J_get C f_Mod_7 (by decide) (e_76 _) rfl d_Mod_content_36 ?_
      refine J_val (y := nI 1) rfl ?_
      refine J_ifN_eq C 46 d_Mod_content_39 (by decide) (by omega) (fun hc39 => absurd hc39 (by decide)) (fun hc39 => ?_)
      refine J_iconst C d_Mod_content_42 (v := nI 0) rfl ?_
      refine J_goto C 57 d_Mod_content_43 (by decide) ?_
      exact F_iret C hr rfl rfl d_Mod_content_57
    · exact absurd hbad (by rintro (h | h) <;> first | contradiction | exact absurd h (hc10))

set_option maxHeartbeats 4000000 in
set_option maxRecDepth 100000 in
theorem fm_contentY (l : Launch) (D : va_G) (dA : Nat → ClassId) (M : Mem) (i cn : Nat) (hcn : M 76 15 = nI cn) (hc24 : cn ≤ 24) (hi : i < cn) (k : Int32) (hbad : k < 0 ∨ M 83 i ≤ k) : CF l D dA k_Mod_content 0 [.ref 76, .int (nI i), .int k] M (some (.int (nI 0))) (mu M 76 0 (nI 1)) := by
  refine CF.of (by decide +kernel) (Nat.le_of_ble_eq_true rfl) (by intro v hv; simp only [List.mem_cons, List.not_mem_nil, or_false] at hv; rcases hv with rfl | rfl | rfl <;> rfl) ?_
  intro A ad0 p e s m args below meth c C hr
  refine J_aload_n C 0 d_Mod_content_0 rfl rfl ?_
  refine J_iload_n C 1 d_Mod_content_1 rfl rfl ?_
  refine J_ifN_lt C d_Mod_content_2 27 (by decide) (by omega) ?_
  refine J_iload_n C 1 d_Mod_content_5 rfl rfl ?_
  refine J_aload_n C 0 d_Mod_content_6 rfl rfl ?_
  refine J_get C f_Mod_58 (by decide) (e_76 _) rfl d_Mod_content_7 ?_
  refine J_val (y := nI cn) hcn ?_
  refine J_icmpN_ge C 27 d_Mod_content_10 (by decide) (by omega) (by omega) (fun hc10 => absurd hc10 (by omega)) (fun hc10 => ?_)
  refine J_iload_n C 2 d_Mod_content_13 rfl rfl ?_
  refine J_if_lt C 27 d_Mod_content_14 (by decide) (fun hc14 => ?_) (fun hc14 => ?_)
  · refine J_iconst C d_Mod_content_27 (v := nI 1) rfl ?_
    refine J_goto C 32 d_Mod_content_28 (by decide) ?_
    refine K_putI C f_Mod_7 (by decide) (e_76 _) (Nat.le_of_ble_eq_true rfl) rfl d_Mod_content_32 (kk := ?_)
    refine J_aload_n C 0 d_Mod_content_35 rfl rfl ?_
    refine J_get C f_Mod_7 (by decide) (e_76 _) rfl d_Mod_content_36 ?_
    refine J_val (y := nI 1) rfl ?_
    refine J_ifN_eq C 46 d_Mod_content_39 (by decide) (by omega) (fun hc39 => absurd hc39 (by decide)) (fun hc39 => ?_)
    refine J_iconst C d_Mod_content_42 (v := nI 0) rfl ?_
    refine J_goto C 57 d_Mod_content_43 (by decide) ?_
    exact F_iret C hr rfl rfl d_Mod_content_57
  · refine J_iload_n C 2 d_Mod_content_17 rfl rfl ?_
    refine J_aload_n C 0 d_Mod_content_18 rfl rfl ?_
    refine J_get C f_Mod_64 (by decide) (e_76 _) rfl d_Mod_content_19 ?_
    refine J_iload_n C 1 d_Mod_content_22 rfl rfl ?_
    refine K_ial C a_83 (j := i) rfl (by omega) d_Mod_content_23 ?_
    refine J_icmp_lt C 31 d_Mod_content_24 (by decide) (fun hc24 => ?_) (fun hc24 => ?_)
    · exact absurd hbad (by rintro (h | h) <;> first | contradiction | exact absurd h (Int32.not_le.mpr hc24))
    · refine J_iconst C d_Mod_content_27 (v := nI 1) rfl ?_
      refine J_goto C 32 d_Mod_content_28 (by decide) ?_
      refine K_putI C f_Mod_7 (by decide) (e_76 _) (Nat.le_of_ble_eq_true rfl) rfl d_Mod_content_32 (kk := ?_)
      refine J_aload_n C 0 d_Mod_content_35 rfl rfl ?_
      refine J_get C f_Mod_7 (by decide) (e_76 _) rfl d_Mod_content_36 ?_
      refine J_val (y := nI 1) rfl ?_
      refine J_ifN_eq C 46 d_Mod_content_39 (by decide) (by omega) (fun hc39 => absurd hc39 (by decide)) (fun hc39 => ?_)
      refine J_iconst C d_Mod_content_42 (v := nI 0) rfl ?_
      refine J_goto C 57 d_Mod_content_43 (by decide) ?_
      exact F_iret C hr rfl rfl d_Mod_content_57
