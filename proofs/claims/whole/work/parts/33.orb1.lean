def nPair (x : Int32) : Int32 := if x = 0 then 0 else if x = nI 1 then 0 else 1
set_option maxHeartbeats 4000000 in
set_option maxRecDepth 100000 in
theorem p_isNoPair (l : Launch) (D : va_G) (dA : Nat → ClassId) (M : Mem) (x : Int32) : PT l D dA k_Orb_isNoPair 0 90 [.int x] (E M) (.int (nPair x)) := by
  refine PT.of (by decide +kernel) (Nat.le_of_ble_eq_true rfl) (by intro v hv; simp only [List.mem_cons, List.not_mem_nil, or_false] at hv; rcases hv with rfl <;> rfl) ?_
  intro A ad0 p e s m args below meth c C hr
  refine J_iload_n C 0 d_Orb_isNoPair_0 rfl rfl ?_
  refine J_if_eq C 13 d_Orb_isNoPair_1 (by decide) (fun hc1 => ?_) (fun hc1 => ?_)
  · refine J_iconst C d_Orb_isNoPair_13 (v := nI 0) rfl ?_
    exact P_zretE C hr (Or.inl rfl) (by simp only [nPair, hc1, if_true, if_false]; try rfl) d_Orb_isNoPair_14
  · refine J_iload_n C 0 d_Orb_isNoPair_4 rfl rfl ?_
    refine J_iconst C d_Orb_isNoPair_5 (v := nI 1) rfl ?_
    refine J_icmp_eq C 13 d_Orb_isNoPair_6 (by decide) (fun hc6 => ?_) (fun hc6 => ?_)
    · refine J_iconst C d_Orb_isNoPair_13 (v := nI 0) rfl ?_
      exact P_zretE C hr (Or.inl rfl) (by simp only [nPair, hc1, hc6, if_true, if_false]; try rfl) d_Orb_isNoPair_14
    · refine J_iconst C d_Orb_isNoPair_9 (v := nI 1) rfl ?_
      refine J_goto C 14 d_Orb_isNoPair_10 (by decide) ?_
      exact P_zretE C hr (Or.inr rfl) (by simp only [nPair, hc1, hc6, if_true, if_false]; try rfl) d_Orb_isNoPair_14

set_option maxHeartbeats 4000000 in
set_option maxRecDepth 100000 in
theorem p_windowOf0 (l : Launch) (D : va_G) (dA : Nat → ClassId) (M : Mem) : PT l D dA k_Orb_windowOf 0 90 [.ref 0, .int (nI 0)] (E M) (.ref 1) := by
  refine PT.of (by decide +kernel) (Nat.le_of_ble_eq_true rfl) (by intro v hv; simp only [List.mem_cons, List.not_mem_nil, or_false] at hv; rcases hv with rfl | rfl <;> rfl) ?_
  intro A ad0 p e s m args below meth c C hr
  refine J_iload_n C 1 d_Orb_windowOf_0 rfl rfl ?_
  refine J_ifN_ne C 11 d_Orb_windowOf_1 (by decide) (by omega) (fun hc1 => absurd hc1 (by decide)) (fun hc1 => ?_)
  refine J_aload_n C 0 d_Orb_windowOf_4 rfl rfl ?_
  refine J_get C f_Orb_10 (by decide) (e_0 _) rfl d_Orb_windowOf_5 ?_
  refine J_goto C 15 d_Orb_windowOf_8 (by decide) ?_
  exact P_aretE C hr rfl d_Orb_windowOf_15

set_option maxHeartbeats 4000000 in
set_option maxRecDepth 100000 in
theorem p_windowOf1 (l : Launch) (D : va_G) (dA : Nat → ClassId) (M : Mem) : PT l D dA k_Orb_windowOf 0 90 [.ref 0, .int (nI 1)] (E M) (.ref 2) := by
  refine PT.of (by decide +kernel) (Nat.le_of_ble_eq_true rfl) (by intro v hv; simp only [List.mem_cons, List.not_mem_nil, or_false] at hv; rcases hv with rfl | rfl <;> rfl) ?_
  intro A ad0 p e s m args below meth c C hr
  refine J_iload_n C 1 d_Orb_windowOf_0 rfl rfl ?_
  refine J_ifN_ne C 11 d_Orb_windowOf_1 (by decide) (by omega) (fun hc1 => ?_) (fun hc1 => absurd hc1 (by decide))
  refine J_aload_n C 0 d_Orb_windowOf_11 rfl rfl ?_
  refine J_get C f_Orb_16 (by decide) (e_0 _) rfl d_Orb_windowOf_12 ?_
  exact P_aretE C hr rfl d_Orb_windowOf_15

set_option maxHeartbeats 4000000 in
set_option maxRecDepth 100000 in
theorem f_window0 (l : Launch) (D : va_G) (dA : Nat → ClassId) (M : Mem) (p1 p2 p3 : Int32) (h1 : ¬ p1 < 0) (h2 : ¬ p2 < nI 1) (h3 : 0 ≤ p3) : CF l D dA k_Orb_window 1 [.ref 0, .int (nI 0), .int p1, .int p2, .int p3] M (none) (mu (mu (mu M 1 0 p1) 1 1 p2) 1 2 p3) := by
  refine CF.of (by decide +kernel) (Nat.le_of_ble_eq_true rfl) (by intro v hv; simp only [List.mem_cons, List.not_mem_nil, or_false] at hv; rcases hv with rfl | rfl | rfl | rfl | rfl <;> rfl) ?_
  intro A ad0 p e s m args below meth c C hr
  refine J_iload_n C 1 d_Orb_window_0 rfl rfl ?_
  refine P_callS C (as := [.int (nI 0)]) (st := []) (p_isNoPair l D dA M (nI 0)) l_Orb_53 s_Orb_isNoPair rfl (by decide) (by decide) (by decide) (Nat.le_of_ble_eq_true rfl) d_Orb_window_1 (kk := ?_)
  refine J_val (y := nI 0) (by decide) ?_
  refine J_ifN_ne C 21 d_Orb_window_4 (by decide) (by omega) (fun hc4 => absurd hc4 (by decide)) (fun hc4 => ?_)
  refine J_iload_n C 2 d_Orb_window_7 rfl rfl ?_
  refine J_if_lt C 21 d_Orb_window_8 (by decide) (fun hc8 => absurd hc8 h1) (fun hc8 => ?_)
  refine J_iload_n C 3 d_Orb_window_11 rfl rfl ?_
  refine J_iconst C d_Orb_window_12 (v := nI 1) rfl ?_
  refine J_icmp_lt C 21 d_Orb_window_13 (by decide) (fun hc13 => absurd hc13 h2) (fun hc13 => ?_)
  refine J_iload C d_Orb_window_16 rfl ?_
  refine J_if_ge C 29 d_Orb_window_18 (by decide) (fun hc18 => ?_) (fun hc18 => absurd h3 hc18)
  refine J_aload_n C 0 d_Orb_window_29 rfl rfl ?_
  refine J_iload_n C 1 d_Orb_window_30 rfl rfl ?_
  refine P_callV C (as := [.int (nI 0)]) (st := []) (p_windowOf0 l D dA M) l_Orb_60 v_Orb_windowOf (by decide) (e_0 _) rfl (by decide) (by decide) (by decide) (Nat.le_of_ble_eq_true rfl) d_Orb_window_31 (kk := ?_)
  refine J_iload_n C 2 d_Orb_window_34 rfl rfl ?_
  refine J_iload_n C 3 d_Orb_window_35 rfl rfl ?_
  refine J_iload C d_Orb_window_36 rfl ?_
  refine F_callV C (as := [.int p1, .int p2, .int p3]) (st := []) (f_set_1 l D dA M p1 p2 p3) l_Orb_64 v_Win_set (by decide) (e_1 _) rfl (by decide) (by decide) (Nat.le_of_ble_eq_true rfl) d_Orb_window_38 (kk := ?_)
  exact F_ret C hr rfl d_Orb_window_41

set_option maxHeartbeats 4000000 in
set_option maxRecDepth 100000 in
theorem f_window1 (l : Launch) (D : va_G) (dA : Nat → ClassId) (M : Mem) (p1 p2 p3 : Int32) (h1 : ¬ p1 < 0) (h2 : ¬ p2 < nI 1) (h3 : 0 ≤ p3) : CF l D dA k_Orb_window 1 [.ref 0, .int (nI 1), .int p1, .int p2, .int p3] M (none) (mu (mu (mu M 2 0 p1) 2 1 p2) 2 2 p3) := by
  refine CF.of (by decide +kernel) (Nat.le_of_ble_eq_true rfl) (by intro v hv; simp only [List.mem_cons, List.not_mem_nil, or_false] at hv; rcases hv with rfl | rfl | rfl | rfl | rfl <;> rfl) ?_
  intro A ad0 p e s m args below meth c C hr
  refine J_iload_n C 1 d_Orb_window_0 rfl rfl ?_
  refine P_callS C (as := [.int (nI 1)]) (st := []) (p_isNoPair l D dA M (nI 1)) l_Orb_53 s_Orb_isNoPair rfl (by decide) (by decide) (by decide) (Nat.le_of_ble_eq_true rfl) d_Orb_window_1 (kk := ?_)
  refine J_val (y := nI 0) (by decide) ?_
  refine J_ifN_ne C 21 d_Orb_window_4 (by decide) (by omega) (fun hc4 => absurd hc4 (by decide)) (fun hc4 => ?_)
  refine J_iload_n C 2 d_Orb_window_7 rfl rfl ?_
  refine J_if_lt C 21 d_Orb_window_8 (by decide) (fun hc8 => absurd hc8 h1) (fun hc8 => ?_)
  refine J_iload_n C 3 d_Orb_window_11 rfl rfl ?_
  refine J_iconst C d_Orb_window_12 (v := nI 1) rfl ?_
  refine J_icmp_lt C 21 d_Orb_window_13 (by decide) (fun hc13 => absurd hc13 h2) (fun hc13 => ?_)
  refine J_iload C d_Orb_window_16 rfl ?_
  refine J_if_ge C 29 d_Orb_window_18 (by decide) (fun hc18 => ?_) (fun hc18 => absurd h3 hc18)
  refine J_aload_n C 0 d_Orb_window_29 rfl rfl ?_
  refine J_iload_n C 1 d_Orb_window_30 rfl rfl ?_
  refine P_callV C (as := [.int (nI 1)]) (st := []) (p_windowOf1 l D dA M) l_Orb_60 v_Orb_windowOf (by decide) (e_0 _) rfl (by decide) (by decide) (by decide) (Nat.le_of_ble_eq_true rfl) d_Orb_window_31 (kk := ?_)
  refine J_iload_n C 2 d_Orb_window_34 rfl rfl ?_
  refine J_iload_n C 3 d_Orb_window_35 rfl rfl ?_
  refine J_iload C d_Orb_window_36 rfl ?_
  refine F_callV C (as := [.int p1, .int p2, .int p3]) (st := []) (f_set_2 l D dA M p1 p2 p3) l_Orb_64 v_Win_set (by decide) (e_2 _) rfl (by decide) (by decide) (Nat.le_of_ble_eq_true rfl) d_Orb_window_38 (kk := ?_)
  exact F_ret C hr rfl d_Orb_window_41

set_option maxHeartbeats 4000000 in
set_option maxRecDepth 100000 in
theorem x_window (l : Launch) (D : va_G) (dA : Nat → ClassId) (hfl : l.flags = pinnedFlags ++ [noTraceFlag]) (M : Mem) (p0 p1 p2 p3 : Int32) (hbad : ¬ nPair p0 = 0 ∨ p1 < 0 ∨ p2 < nI 1 ∨ p3 < 0) : XT l D dA k_Orb_window 1 90 [.ref 0, .int p0, .int p1, .int p2, .int p3] (E M) "java/lang/IllegalArgumentException" := by
  refine XT.of (by decide +kernel) (Nat.le_of_ble_eq_true rfl) (by intro v hv; simp only [List.mem_cons, List.not_mem_nil, or_false] at hv; rcases hv with rfl | rfl | rfl | rfl | rfl <;> rfl) ?_
  intro A ad0 p e s m args below meth c C hnoh
  refine J_iload_n C 1 d_Orb_window_0 rfl rfl ?_
  refine P_callS C (as := [.int p0]) (st := []) (p_isNoPair l D dA M p0) l_Orb_53 s_Orb_isNoPair rfl (by decide) (by decide) (by decide) (Nat.le_of_ble_eq_true rfl) d_Orb_window_1 (kk := ?_)
  refine J_if_ne C 21 d_Orb_window_4 (by decide) (fun hc4 => ?_) (fun hc4 => ?_)
  · exact J_throw C hfl rfl hnoh xcl_Orb_57 xin_IllegalArgumentException xini_IllegalArgumentException (by decide +kernel) (by decide +kernel) xat_Orb_59 (by decide) (Nat.le_of_ble_eq_true rfl) d_Orb_window_21 d_Orb_window_24 d_Orb_window_25 d_Orb_window_28
  · refine J_iload_n C 2 d_Orb_window_7 rfl rfl ?_
    refine J_if_lt C 21 d_Orb_window_8 (by decide) (fun hc8 => ?_) (fun hc8 => ?_)
    · exact J_throw C hfl rfl hnoh xcl_Orb_57 xin_IllegalArgumentException xini_IllegalArgumentException (by decide +kernel) (by decide +kernel) xat_Orb_59 (by decide) (Nat.le_of_ble_eq_true rfl) d_Orb_window_21 d_Orb_window_24 d_Orb_window_25 d_Orb_window_28
    · refine J_iload_n C 3 d_Orb_window_11 rfl rfl ?_
      refine J_iconst C d_Orb_window_12 (v := nI 1) rfl ?_
      refine J_icmp_lt C 21 d_Orb_window_13 (by decide) (fun hc13 => ?_) (fun hc13 => ?_)
      · exact J_throw C hfl rfl hnoh xcl_Orb_57 xin_IllegalArgumentException xini_IllegalArgumentException (by decide +kernel) (by decide +kernel) xat_Orb_59 (by decide) (Nat.le_of_ble_eq_true rfl) d_Orb_window_21 d_Orb_window_24 d_Orb_window_25 d_Orb_window_28
      · refine J_iload C d_Orb_window_16 rfl ?_
        refine J_if_ge C 29 d_Orb_window_18 (by decide) (fun hc18 => ?_) (fun hc18 => ?_)
        · exact absurd hbad (by rintro (h | h | h | h) <;> first | contradiction | exact absurd h (Int32.not_lt.mpr hc18))
        · exact J_throw C hfl rfl hnoh xcl_Orb_57 xin_IllegalArgumentException xini_IllegalArgumentException (by decide +kernel) (by decide +kernel) xat_Orb_59 (by decide) (Nat.le_of_ble_eq_true rfl) d_Orb_window_21 d_Orb_window_24 d_Orb_window_25 d_Orb_window_28

set_option maxHeartbeats 4000000 in
set_option maxRecDepth 100000 in
theorem f_minute (l : Launch) (D : va_G) (dA : Nat → ClassId) (M : Mem) (n : Int32) (h1 : ¬ n < nI 1) (h2 : n ≤ nI 1000) : CF l D dA k_Orb_minute 0 [.ref 0, .int n] M (some (.int (M 0 6 + n))) (mu M 0 6 (M 0 6 + n)) := by
  refine CF.of (by decide +kernel) (Nat.le_of_ble_eq_true rfl) (by intro v hv; simp only [List.mem_cons, List.not_mem_nil, or_false] at hv; rcases hv with rfl | rfl <;> rfl) ?_
  intro A ad0 p e s m args below meth c C hr
  refine J_iload_n C 1 d_Orb_minute_0 rfl rfl ?_
  refine J_iconst C d_Orb_minute_1 (v := nI 1) rfl ?_
  refine J_icmp_lt C 12 d_Orb_minute_2 (by decide) (fun hc2 => absurd hc2 h1) (fun hc2 => ?_)
  refine J_iload_n C 1 d_Orb_minute_5 rfl rfl ?_
  refine J_sipush C d_Orb_minute_6 (v := nI 1000) rfl ?_
  refine J_icmp_le C 20 d_Orb_minute_9 (by decide) (fun hc9 => ?_) (fun hc9 => absurd h2 hc9)
  refine J_aload_n C 0 d_Orb_minute_20 rfl rfl ?_
  refine J_dup C d_Orb_minute_21 rfl ?_
  refine J_get C f_Orb_49 (by decide) (e_0 _) rfl d_Orb_minute_22 ?_
  refine J_iload_n C 1 d_Orb_minute_25 rfl rfl ?_
  refine J_iadd C d_Orb_minute_26 ?_
  refine K_putI C f_Orb_49 (by decide) (e_0 _) (Nat.le_of_ble_eq_true rfl) rfl d_Orb_minute_27 (kk := ?_)
  refine J_aload_n C 0 d_Orb_minute_30 rfl rfl ?_
  refine J_get C f_Orb_49 (by decide) (e_0 _) rfl d_Orb_minute_31 ?_
  refine J_val (y := (M 0 6) + n) rfl ?_
  exact F_iret C hr rfl rfl d_Orb_minute_34

set_option maxHeartbeats 4000000 in
set_option maxRecDepth 100000 in
theorem x_minute (l : Launch) (D : va_G) (dA : Nat → ClassId) (hfl : l.flags = pinnedFlags ++ [noTraceFlag]) (M : Mem) (n : Int32) (hbad : n < nI 1 ∨ ¬ n ≤ nI 1000) : XT l D dA k_Orb_minute 0 90 [.ref 0, .int n] (E M) "java/lang/IllegalArgumentException" := by
  refine XT.of (by decide +kernel) (Nat.le_of_ble_eq_true rfl) (by intro v hv; simp only [List.mem_cons, List.not_mem_nil, or_false] at hv; rcases hv with rfl | rfl <;> rfl) ?_
  intro A ad0 p e s m args below meth c C hnoh
  refine J_iload_n C 1 d_Orb_minute_0 rfl rfl ?_
  refine J_iconst C d_Orb_minute_1 (v := nI 1) rfl ?_
  refine J_icmp_lt C 12 d_Orb_minute_2 (by decide) (fun hc2 => ?_) (fun hc2 => ?_)
  · exact J_throw C hfl rfl hnoh xcl_Orb_57 xin_IllegalArgumentException xini_IllegalArgumentException (by decide +kernel) (by decide +kernel) xat_Orb_59 (by decide) (Nat.le_of_ble_eq_true rfl) d_Orb_minute_12 d_Orb_minute_15 d_Orb_minute_16 d_Orb_minute_19
  · refine J_iload_n C 1 d_Orb_minute_5 rfl rfl ?_
    refine J_sipush C d_Orb_minute_6 (v := nI 1000) rfl ?_
    refine J_icmp_le C 20 d_Orb_minute_9 (by decide) (fun hc9 => ?_) (fun hc9 => ?_)
    · exact absurd hbad (by rintro (h | h) <;> first | contradiction | contradiction)
    · exact J_throw C hfl rfl hnoh xcl_Orb_57 xin_IllegalArgumentException xini_IllegalArgumentException (by decide +kernel) (by decide +kernel) xat_Orb_59 (by decide) (Nat.le_of_ble_eq_true rfl) d_Orb_minute_12 d_Orb_minute_15 d_Orb_minute_16 d_Orb_minute_19

set_option maxHeartbeats 4000000 in
set_option maxRecDepth 100000 in
theorem p_seen0 (l : Launch) (D : va_G) (dA : Nat → ClassId) (M : Mem) (hp : ¬ (M 1 1).toInt64 = 0) : PT l D dA k_Orb_seen 1 90 [.ref 0, .int (nI 0)] (E M) (.int (fOpen (M 0 6) (M 1 0) (M 1 1) (M 1 2))) := by
  refine PT.of (by decide +kernel) (Nat.le_of_ble_eq_true rfl) (by intro v hv; simp only [List.mem_cons, List.not_mem_nil, or_false] at hv; rcases hv with rfl | rfl <;> rfl) ?_
  intro A ad0 p e s m args below meth c C hr
  refine J_iload_n C 1 d_Orb_seen_0 rfl rfl ?_
  refine P_callS C (as := [.int (nI 0)]) (st := []) (p_isNoPair l D dA M (nI 0)) l_Orb_53 s_Orb_isNoPair rfl (by decide) (by decide) (by decide) (Nat.le_of_ble_eq_true rfl) d_Orb_seen_1 (kk := ?_)
  refine J_val (y := nI 0) (by decide) ?_
  refine J_ifN_eq C 15 d_Orb_seen_4 (by decide) (by omega) (fun hc4 => ?_) (fun hc4 => absurd hc4 (by decide))
  refine J_aload_n C 0 d_Orb_seen_15 rfl rfl ?_
  refine J_iload_n C 1 d_Orb_seen_16 rfl rfl ?_
  refine P_callV C (as := [.int (nI 0)]) (st := []) (p_windowOf0 l D dA M) l_Orb_60 v_Orb_windowOf (by decide) (e_0 _) rfl (by decide) (by decide) (by decide) (Nat.le_of_ble_eq_true rfl) d_Orb_seen_17 (kk := ?_)
  refine J_aload_n C 0 d_Orb_seen_20 rfl rfl ?_
  refine J_get C f_Orb_49 (by decide) (e_0 _) rfl d_Orb_seen_21 ?_
  refine P_callV C (as := [.int (M 0 6)]) (st := []) (p_isOpen_1 l D dA M (M 0 6) hp) l_Orb_68 v_Win_isOpen (by decide) (e_1 _) rfl (by decide) (by decide) (by decide) (Nat.le_of_ble_eq_true rfl) d_Orb_seen_24 (kk := ?_)
  exact P_zretE C hr (by unfold fOpen; split <;> first | exact Or.inl rfl | exact Or.inr rfl) rfl d_Orb_seen_27

set_option maxHeartbeats 4000000 in
set_option maxRecDepth 100000 in
theorem p_seen1 (l : Launch) (D : va_G) (dA : Nat → ClassId) (M : Mem) (hp : ¬ (M 2 1).toInt64 = 0) : PT l D dA k_Orb_seen 1 90 [.ref 0, .int (nI 1)] (E M) (.int (fOpen (M 0 6) (M 2 0) (M 2 1) (M 2 2))) := by
  refine PT.of (by decide +kernel) (Nat.le_of_ble_eq_true rfl) (by intro v hv; simp only [List.mem_cons, List.not_mem_nil, or_false] at hv; rcases hv with rfl | rfl <;> rfl) ?_
  intro A ad0 p e s m args below meth c C hr
  refine J_iload_n C 1 d_Orb_seen_0 rfl rfl ?_
  refine P_callS C (as := [.int (nI 1)]) (st := []) (p_isNoPair l D dA M (nI 1)) l_Orb_53 s_Orb_isNoPair rfl (by decide) (by decide) (by decide) (Nat.le_of_ble_eq_true rfl) d_Orb_seen_1 (kk := ?_)
  refine J_val (y := nI 0) (by decide) ?_
  refine J_ifN_eq C 15 d_Orb_seen_4 (by decide) (by omega) (fun hc4 => ?_) (fun hc4 => absurd hc4 (by decide))
  refine J_aload_n C 0 d_Orb_seen_15 rfl rfl ?_
  refine J_iload_n C 1 d_Orb_seen_16 rfl rfl ?_
  refine P_callV C (as := [.int (nI 1)]) (st := []) (p_windowOf1 l D dA M) l_Orb_60 v_Orb_windowOf (by decide) (e_0 _) rfl (by decide) (by decide) (by decide) (Nat.le_of_ble_eq_true rfl) d_Orb_seen_17 (kk := ?_)
  refine J_aload_n C 0 d_Orb_seen_20 rfl rfl ?_
  refine J_get C f_Orb_49 (by decide) (e_0 _) rfl d_Orb_seen_21 ?_
  refine P_callV C (as := [.int (M 0 6)]) (st := []) (p_isOpen_2 l D dA M (M 0 6) hp) l_Orb_68 v_Win_isOpen (by decide) (e_2 _) rfl (by decide) (by decide) (by decide) (Nat.le_of_ble_eq_true rfl) d_Orb_seen_24 (kk := ?_)
  exact P_zretE C hr (by unfold fOpen; split <;> first | exact Or.inl rfl | exact Or.inr rfl) rfl d_Orb_seen_27

set_option maxHeartbeats 4000000 in
set_option maxRecDepth 100000 in
theorem x_seen (l : Launch) (D : va_G) (dA : Nat → ClassId) (hfl : l.flags = pinnedFlags ++ [noTraceFlag]) (M : Mem) (p0 : Int32) (hbad : ¬ nPair p0 = 0) : XT l D dA k_Orb_seen 1 90 [.ref 0, .int p0] (E M) "java/lang/IllegalArgumentException" := by
  refine XT.of (by decide +kernel) (Nat.le_of_ble_eq_true rfl) (by intro v hv; simp only [List.mem_cons, List.not_mem_nil, or_false] at hv; rcases hv with rfl | rfl <;> rfl) ?_
  intro A ad0 p e s m args below meth c C hnoh
  refine J_iload_n C 1 d_Orb_seen_0 rfl rfl ?_
  refine P_callS C (as := [.int p0]) (st := []) (p_isNoPair l D dA M p0) l_Orb_53 s_Orb_isNoPair rfl (by decide) (by decide) (by decide) (Nat.le_of_ble_eq_true rfl) d_Orb_seen_1 (kk := ?_)
  refine J_if_eq C 15 d_Orb_seen_4 (by decide) (fun hc4 => absurd hc4 hbad) (fun hc4 => ?_)
  exact J_throw C hfl rfl hnoh xcl_Orb_57 xin_IllegalArgumentException xini_IllegalArgumentException (by decide +kernel) (by decide +kernel) xat_Orb_59 (by decide) (Nat.le_of_ble_eq_true rfl) d_Orb_seen_7 d_Orb_seen_10 d_Orb_seen_11 d_Orb_seen_14

def RepC (M : Mem) : Int32 := if M 55 3 = 0 then 0 else ((32768 ||| (if M 55 6 = 0 then 0 else nI 8192)) ||| (M 55 4 <<< (nI 12 &&& 31))) ||| (M 55 7 <<< (nI 8 &&& 31)) ||| M 55 5
set_option maxHeartbeats 4000000 in
set_option maxRecDepth 100000 in
theorem p_report (l : Launch) (D : va_G) (dA : Nat → ClassId) (M : Mem) (ho : M 3 9 = 0) : PT l D dA k_Orb_report 1 90 [.ref 0] (E M) (.int (RepC M)) := by
  refine PT.of (by decide +kernel) (Nat.le_of_ble_eq_true rfl) (by intro v hv; simp only [List.mem_cons, List.not_mem_nil, or_false] at hv; rcases hv with rfl <;> rfl) ?_
  intro A ad0 p e s m args below meth c C hr
  refine J_aload_n C 0 d_Orb_report_0 rfl rfl ?_
  refine J_get C f_Orb_22 (by decide) (e_0 _) rfl d_Orb_report_1 ?_
  refine J_get C f_Orb_71 (by decide) (e_3 _) rfl d_Orb_report_4 ?_
  refine J_if_eq C 18 d_Orb_report_7 (by decide) (fun hc7 => ?_) (fun hc7 => absurd ho hc7)
  refine J_aload_n C 0 d_Orb_report_18 rfl rfl ?_
  refine J_get C f_Orb_31 (by decide) (e_0 _) rfl d_Orb_report_19 ?_
  refine P_callV C (as := []) (st := []) (p_reportWord l D dA M) l_Orb_86 v_Ses_reportWord (by decide) (e_55 _) rfl (by decide) (by decide) (by decide) (Nat.le_of_ble_eq_true rfl) d_Orb_report_22 (kk := ?_)
  exact P_iretE C hr rfl d_Orb_report_25

set_option maxHeartbeats 4000000 in
set_option maxRecDepth 100000 in
theorem x_report (l : Launch) (D : va_G) (dA : Nat → ClassId) (hfl : l.flags = pinnedFlags ++ [noTraceFlag]) (M : Mem) (ho : ¬ M 3 9 = 0) : XT l D dA k_Orb_report 1 90 [.ref 0] (E M) "java/lang/UnsupportedOperationException" := by
  refine XT.of (by decide +kernel) (Nat.le_of_ble_eq_true rfl) (by intro v hv; simp only [List.mem_cons, List.not_mem_nil, or_false] at hv; rcases hv with rfl <;> rfl) ?_
  intro A ad0 p e s m args below meth c C hnoh
  refine J_aload_n C 0 d_Orb_report_0 rfl rfl ?_
  refine J_get C f_Orb_22 (by decide) (e_0 _) rfl d_Orb_report_1 ?_
  refine J_get C f_Orb_71 (by decide) (e_3 _) rfl d_Orb_report_4 ?_
  refine J_if_eq C 18 d_Orb_report_7 (by decide) (fun hc7 => absurd hc7 ho) (fun hc7 => ?_)
  exact J_throw C hfl rfl hnoh xcl_Orb_75 xin_UnsupportedOperationException xini_UnsupportedOperationException (by decide +kernel) (by decide +kernel) xat_Orb_77 (by decide) (Nat.le_of_ble_eq_true rfl) d_Orb_report_10 d_Orb_report_13 d_Orb_report_14 d_Orb_report_17

set_option maxHeartbeats 4000000 in
set_option maxRecDepth 100000 in
theorem x_receive (l : Launch) (D : va_G) (dA : Nat → ClassId) (hfl : l.flags = pinnedFlags ++ [noTraceFlag]) (M : Mem) (p0 p1 : Int32) (ho : ¬ M 3 9 = 0) : XT l D dA k_Orb_receive 1 90 [.ref 0, .int p0, .int p1] (E M) "java/lang/UnsupportedOperationException" := by
  refine XT.of (by decide +kernel) (Nat.le_of_ble_eq_true rfl) (by intro v hv; simp only [List.mem_cons, List.not_mem_nil, or_false] at hv; rcases hv with rfl | rfl | rfl <;> rfl) ?_
  intro A ad0 p e s m args below meth c C hnoh
  refine J_aload_n C 0 d_Orb_receive_0 rfl rfl ?_
  refine J_get C f_Orb_22 (by decide) (e_0 _) rfl d_Orb_receive_1 ?_
  refine J_get C f_Orb_71 (by decide) (e_3 _) rfl d_Orb_receive_4 ?_
  refine J_if_eq C 18 d_Orb_receive_7 (by decide) (fun hc7 => absurd hc7 ho) (fun hc7 => ?_)
  exact J_throw C hfl rfl hnoh xcl_Orb_75 xin_UnsupportedOperationException xini_UnsupportedOperationException (by decide +kernel) (by decide +kernel) xat_Orb_77 (by decide) (Nat.le_of_ble_eq_true rfl) d_Orb_receive_10 d_Orb_receive_13 d_Orb_receive_14 d_Orb_receive_17

set_option maxHeartbeats 4000000 in
set_option maxRecDepth 100000 in
theorem x_send (l : Launch) (D : va_G) (dA : Nat → ClassId) (hfl : l.flags = pinnedFlags ++ [noTraceFlag]) (M : Mem) (p0 : Int32) (ho : ¬ M 3 9 = 0) : XT l D dA k_Orb_send 1 90 [.ref 0, .int p0] (E M) "java/lang/UnsupportedOperationException" := by
  refine XT.of (by decide +kernel) (Nat.le_of_ble_eq_true rfl) (by intro v hv; simp only [List.mem_cons, List.not_mem_nil, or_false] at hv; rcases hv with rfl | rfl <;> rfl) ?_
  intro A ad0 p e s m args below meth c C hnoh
  refine J_aload_n C 0 d_Orb_send_0 rfl rfl ?_
  refine J_get C f_Orb_22 (by decide) (e_0 _) rfl d_Orb_send_1 ?_
  refine J_get C f_Orb_71 (by decide) (e_3 _) rfl d_Orb_send_4 ?_
  refine J_if_eq C 18 d_Orb_send_7 (by decide) (fun hc7 => absurd hc7 ho) (fun hc7 => ?_)
  exact J_throw C hfl rfl hnoh xcl_Orb_75 xin_UnsupportedOperationException xini_UnsupportedOperationException (by decide +kernel) (by decide +kernel) xat_Orb_77 (by decide) (Nat.le_of_ble_eq_true rfl) d_Orb_send_10 d_Orb_send_13 d_Orb_send_14 d_Orb_send_17

set_option maxHeartbeats 4000000 in
set_option maxRecDepth 100000 in
theorem x_fail (l : Launch) (D : va_G) (dA : Nat → ClassId) (hfl : l.flags = pinnedFlags ++ [noTraceFlag]) (M : Mem) (p0 : Int32) (ho : ¬ M 3 9 = 0) : XT l D dA k_Orb_fail 0 90 [.ref 0, .int p0] (E M) "java/lang/UnsupportedOperationException" := by
  refine XT.of (by decide +kernel) (Nat.le_of_ble_eq_true rfl) (by intro v hv; simp only [List.mem_cons, List.not_mem_nil, or_false] at hv; rcases hv with rfl | rfl <;> rfl) ?_
  intro A ad0 p e s m args below meth c C hnoh
  refine J_aload_n C 0 d_Orb_fail_0 rfl rfl ?_
  refine J_get C f_Orb_22 (by decide) (e_0 _) rfl d_Orb_fail_1 ?_
  refine J_get C f_Orb_71 (by decide) (e_3 _) rfl d_Orb_fail_4 ?_
  refine J_if_eq C 18 d_Orb_fail_7 (by decide) (fun hc7 => absurd hc7 ho) (fun hc7 => ?_)
  exact J_throw C hfl rfl hnoh xcl_Orb_75 xin_UnsupportedOperationException xini_UnsupportedOperationException (by decide +kernel) (by decide +kernel) xat_Orb_77 (by decide) (Nat.le_of_ble_eq_true rfl) d_Orb_fail_10 d_Orb_fail_13 d_Orb_fail_14 d_Orb_fail_17

set_option maxHeartbeats 4000000 in
set_option maxRecDepth 100000 in
theorem x_receiveN (l : Launch) (D : va_G) (dA : Nat → ClassId) (hfl : l.flags = pinnedFlags ++ [noTraceFlag]) (M : Mem) (p0 p1 : Int32) (ho : M 3 9 = 0) (hbad : p1 < nI 1 ∨ ¬ p1 ≤ nI 4) : XT l D dA k_Orb_receive 1 90 [.ref 0, .int p0, .int p1] (E M) "java/lang/IllegalArgumentException" := by
  refine XT.of (by decide +kernel) (Nat.le_of_ble_eq_true rfl) (by intro v hv; simp only [List.mem_cons, List.not_mem_nil, or_false] at hv; rcases hv with rfl | rfl | rfl <;> rfl) ?_
  intro A ad0 p e s m args below meth c C hnoh
  refine J_aload_n C 0 d_Orb_receive_0 rfl rfl ?_
  refine J_get C f_Orb_22 (by decide) (e_0 _) rfl d_Orb_receive_1 ?_
  refine J_get C f_Orb_71 (by decide) (e_3 _) rfl d_Orb_receive_4 ?_
  refine J_if_eq C 18 d_Orb_receive_7 (by decide) (fun hc7 => ?_) (fun hc7 => absurd ho hc7)
  refine J_iload_n C 2 d_Orb_receive_18 rfl rfl ?_
  refine J_iconst C d_Orb_receive_19 (v := nI 1) rfl ?_
  refine J_icmp_lt C 28 d_Orb_receive_20 (by decide) (fun hc20 => ?_) (fun hc20 => ?_)
  · exact J_throw C hfl rfl hnoh xcl_Orb_57 xin_IllegalArgumentException xini_IllegalArgumentException (by decide +kernel) (by decide +kernel) xat_Orb_59 (by decide) (Nat.le_of_ble_eq_true rfl) d_Orb_receive_28 d_Orb_receive_31 d_Orb_receive_32 d_Orb_receive_35
  · refine J_iload_n C 2 d_Orb_receive_23 rfl rfl ?_
    refine J_iconst C d_Orb_receive_24 (v := nI 4) rfl ?_
    refine J_icmp_le C 36 d_Orb_receive_25 (by decide) (fun hc25 => ?_) (fun hc25 => ?_)
    · exact absurd hbad (by rintro (h | h) <;> first | contradiction | contradiction)
    · exact J_throw C hfl rfl hnoh xcl_Orb_57 xin_IllegalArgumentException xini_IllegalArgumentException (by decide +kernel) (by decide +kernel) xat_Orb_59 (by decide) (Nat.le_of_ble_eq_true rfl) d_Orb_receive_28 d_Orb_receive_31 d_Orb_receive_32 d_Orb_receive_35

set_option maxHeartbeats 4000000 in
set_option maxRecDepth 100000 in
theorem f_fail (l : Launch) (D : va_G) (dA : Nat → ClassId) (M : Mem) (n : Int32) (ho : M 3 9 = 0) (h1 : ¬ n < nI 1) (h2 : n ≤ nI 100) : CF l D dA k_Orb_fail 0 [.ref 0, .int n] M (none) (mu M 3 8 n) := by
  refine CF.of (by decide +kernel) (Nat.le_of_ble_eq_true rfl) (by intro v hv; simp only [List.mem_cons, List.not_mem_nil, or_false] at hv; rcases hv with rfl | rfl <;> rfl) ?_
  intro A ad0 p e s m args below meth c C hr
  refine J_aload_n C 0 d_Orb_fail_0 rfl rfl ?_
  refine J_get C f_Orb_22 (by decide) (e_0 _) rfl d_Orb_fail_1 ?_
  refine J_get C f_Orb_71 (by decide) (e_3 _) rfl d_Orb_fail_4 ?_
  refine J_if_eq C 18 d_Orb_fail_7 (by decide) (fun hc7 => ?_) (fun hc7 => absurd ho hc7)
  refine J_iload_n C 1 d_Orb_fail_18 rfl rfl ?_
  refine J_iconst C d_Orb_fail_19 (v := nI 1) rfl ?_
  refine J_icmp_lt C 29 d_Orb_fail_20 (by decide) (fun hc20 => absurd hc20 h1) (fun hc20 => ?_)
  refine J_iload_n C 1 d_Orb_fail_23 rfl rfl ?_
  refine J_bipush C d_Orb_fail_24 (v := nI 100) rfl ?_
  refine J_icmp_le C 37 d_Orb_fail_26 (by decide) (fun hc26 => ?_) (fun hc26 => absurd h2 hc26)
  refine J_aload_n C 0 d_Orb_fail_37 rfl rfl ?_
  refine J_get C f_Orb_22 (by decide) (e_0 _) rfl d_Orb_fail_38 ?_
  refine J_iload_n C 1 d_Orb_fail_41 rfl rfl ?_
  refine K_putI C f_Orb_106 (by decide) (e_3 _) (Nat.le_of_ble_eq_true rfl) rfl d_Orb_fail_42 (kk := ?_)
  exact F_ret C hr rfl d_Orb_fail_45

set_option maxHeartbeats 4000000 in
set_option maxRecDepth 100000 in
theorem x_failN (l : Launch) (D : va_G) (dA : Nat → ClassId) (hfl : l.flags = pinnedFlags ++ [noTraceFlag]) (M : Mem) (n : Int32) (ho : M 3 9 = 0) (hbad : n < nI 1 ∨ ¬ n ≤ nI 100) : XT l D dA k_Orb_fail 0 90 [.ref 0, .int n] (E M) "java/lang/IllegalArgumentException" := by
  refine XT.of (by decide +kernel) (Nat.le_of_ble_eq_true rfl) (by intro v hv; simp only [List.mem_cons, List.not_mem_nil, or_false] at hv; rcases hv with rfl | rfl <;> rfl) ?_
  intro A ad0 p e s m args below meth c C hnoh
  refine J_aload_n C 0 d_Orb_fail_0 rfl rfl ?_
  refine J_get C f_Orb_22 (by decide) (e_0 _) rfl d_Orb_fail_1 ?_
  refine J_get C f_Orb_71 (by decide) (e_3 _) rfl d_Orb_fail_4 ?_
  refine J_if_eq C 18 d_Orb_fail_7 (by decide) (fun hc7 => ?_) (fun hc7 => absurd ho hc7)
  refine J_iload_n C 1 d_Orb_fail_18 rfl rfl ?_
  refine J_iconst C d_Orb_fail_19 (v := nI 1) rfl ?_
  refine J_icmp_lt C 29 d_Orb_fail_20 (by decide) (fun hc20 => ?_) (fun hc20 => ?_)
  · exact J_throw C hfl rfl hnoh xcl_Orb_57 xin_IllegalArgumentException xini_IllegalArgumentException (by decide +kernel) (by decide +kernel) xat_Orb_59 (by decide) (Nat.le_of_ble_eq_true rfl) d_Orb_fail_29 d_Orb_fail_32 d_Orb_fail_33 d_Orb_fail_36
  · refine J_iload_n C 1 d_Orb_fail_23 rfl rfl ?_
    refine J_bipush C d_Orb_fail_24 (v := nI 100) rfl ?_
    refine J_icmp_le C 37 d_Orb_fail_26 (by decide) (fun hc26 => ?_) (fun hc26 => ?_)
    · exact absurd hbad (by rintro (h | h) <;> first | contradiction | contradiction)
    · exact J_throw C hfl rfl hnoh xcl_Orb_57 xin_IllegalArgumentException xini_IllegalArgumentException (by decide +kernel) (by decide +kernel) xat_Orb_59 (by decide) (Nat.le_of_ble_eq_true rfl) d_Orb_fail_29 d_Orb_fail_32 d_Orb_fail_33 d_Orb_fail_36

set_option maxHeartbeats 4000000 in
set_option maxRecDepth 100000 in
theorem x_sendN (l : Launch) (D : va_G) (dA : Nat → ClassId) (hfl : l.flags = pinnedFlags ++ [noTraceFlag]) (M : Mem) (p0 : Int32) (ho : M 3 9 = 0) (hbad : ¬ nPair p0 = 0) : XT l D dA k_Orb_send 1 90 [.ref 0, .int p0] (E M) "java/lang/IllegalArgumentException" := by
  refine XT.of (by decide +kernel) (Nat.le_of_ble_eq_true rfl) (by intro v hv; simp only [List.mem_cons, List.not_mem_nil, or_false] at hv; rcases hv with rfl | rfl <;> rfl) ?_
  intro A ad0 p e s m args below meth c C hnoh
  refine J_aload_n C 0 d_Orb_send_0 rfl rfl ?_
  refine J_get C f_Orb_22 (by decide) (e_0 _) rfl d_Orb_send_1 ?_
  refine J_get C f_Orb_71 (by decide) (e_3 _) rfl d_Orb_send_4 ?_
  refine J_if_eq C 18 d_Orb_send_7 (by decide) (fun hc7 => ?_) (fun hc7 => absurd ho hc7)
  refine J_iload_n C 1 d_Orb_send_18 rfl rfl ?_
  refine P_callS C (as := [.int p0]) (st := []) (p_isNoPair l D dA M p0) l_Orb_53 s_Orb_isNoPair rfl (by decide) (by decide) (by decide) (Nat.le_of_ble_eq_true rfl) d_Orb_send_19 (kk := ?_)
  refine J_if_eq C 33 d_Orb_send_22 (by decide) (fun hc22 => absurd hc22 hbad) (fun hc22 => ?_)
  exact J_throw C hfl rfl hnoh xcl_Orb_57 xin_IllegalArgumentException xini_IllegalArgumentException (by decide +kernel) (by decide +kernel) xat_Orb_59 (by decide) (Nat.le_of_ble_eq_true rfl) d_Orb_send_25 d_Orb_send_28 d_Orb_send_29 d_Orb_send_32

set_option maxHeartbeats 4000000 in
set_option maxRecDepth 100000 in
theorem x_sendS0 (l : Launch) (D : va_G) (dA : Nat → ClassId) (hfl : l.flags = pinnedFlags ++ [noTraceFlag]) (M : Mem) (ho : M 3 9 = 0) (hp : ¬ (M 2 1).toInt64 = 0) (hbad : fOpen (M 0 6) (M 2 0) (M 2 1) (M 2 2) = 0) : XT l D dA k_Orb_send 1 90 [.ref 0, .int (nI 0)] (E M) "java/lang/IllegalStateException" := by
  refine XT.of (by decide +kernel) (Nat.le_of_ble_eq_true rfl) (by intro v hv; simp only [List.mem_cons, List.not_mem_nil, or_false] at hv; rcases hv with rfl | rfl <;> rfl) ?_
  intro A ad0 p e s m args below meth c C hnoh
  refine J_aload_n C 0 d_Orb_send_0 rfl rfl ?_
  refine J_get C f_Orb_22 (by decide) (e_0 _) rfl d_Orb_send_1 ?_
  refine J_get C f_Orb_71 (by decide) (e_3 _) rfl d_Orb_send_4 ?_
  refine J_if_eq C 18 d_Orb_send_7 (by decide) (fun hc7 => ?_) (fun hc7 => absurd ho hc7)
  refine J_iload_n C 1 d_Orb_send_18 rfl rfl ?_
  refine P_callS C (as := [.int (nI 0)]) (st := []) (p_isNoPair l D dA M (nI 0)) l_Orb_53 s_Orb_isNoPair rfl (by decide) (by decide) (by decide) (Nat.le_of_ble_eq_true rfl) d_Orb_send_19 (kk := ?_)
  refine J_val (y := nI 0) (by decide) ?_
  refine J_ifN_eq C 33 d_Orb_send_22 (by decide) (by omega) (fun hc22 => ?_) (fun hc22 => absurd hc22 (by decide))
  refine J_aload_n C 0 d_Orb_send_33 rfl rfl ?_
  refine J_get C f_Orb_16 (by decide) (e_0 _) rfl d_Orb_send_34 ?_
  refine J_aload_n C 0 d_Orb_send_37 rfl rfl ?_
  refine J_get C f_Orb_49 (by decide) (e_0 _) rfl d_Orb_send_38 ?_
  refine P_callV C (as := [.int (M 0 6)]) (st := []) (p_isOpen_2 l D dA M (M 0 6) hp) l_Orb_68 v_Win_isOpen (by decide) (e_2 _) rfl (by decide) (by decide) (by decide) (Nat.le_of_ble_eq_true rfl) d_Orb_send_41 (kk := ?_)
  refine J_if_ne C 55 d_Orb_send_44 (by decide) (fun hc44 => absurd hbad hc44) (fun hc44 => ?_)
  exact J_throw C hfl rfl hnoh xcl_Orb_89 xin_IllegalStateException xini_IllegalStateException (by decide +kernel) (by decide +kernel) xat_Orb_91 (by decide) (Nat.le_of_ble_eq_true rfl) d_Orb_send_47 d_Orb_send_50 d_Orb_send_51 d_Orb_send_54

set_option maxHeartbeats 4000000 in
set_option maxRecDepth 100000 in
theorem x_sendS1 (l : Launch) (D : va_G) (dA : Nat → ClassId) (hfl : l.flags = pinnedFlags ++ [noTraceFlag]) (M : Mem) (ho : M 3 9 = 0) (hp : ¬ (M 2 1).toInt64 = 0) (hbad : fOpen (M 0 6) (M 2 0) (M 2 1) (M 2 2) = 0) : XT l D dA k_Orb_send 1 90 [.ref 0, .int (nI 1)] (E M) "java/lang/IllegalStateException" := by
  refine XT.of (by decide +kernel) (Nat.le_of_ble_eq_true rfl) (by intro v hv; simp only [List.mem_cons, List.not_mem_nil, or_false] at hv; rcases hv with rfl | rfl <;> rfl) ?_
  intro A ad0 p e s m args below meth c C hnoh
  refine J_aload_n C 0 d_Orb_send_0 rfl rfl ?_
  refine J_get C f_Orb_22 (by decide) (e_0 _) rfl d_Orb_send_1 ?_
  refine J_get C f_Orb_71 (by decide) (e_3 _) rfl d_Orb_send_4 ?_
  refine J_if_eq C 18 d_Orb_send_7 (by decide) (fun hc7 => ?_) (fun hc7 => absurd ho hc7)
  refine J_iload_n C 1 d_Orb_send_18 rfl rfl ?_
  refine P_callS C (as := [.int (nI 1)]) (st := []) (p_isNoPair l D dA M (nI 1)) l_Orb_53 s_Orb_isNoPair rfl (by decide) (by decide) (by decide) (Nat.le_of_ble_eq_true rfl) d_Orb_send_19 (kk := ?_)
  refine J_val (y := nI 0) (by decide) ?_
  refine J_ifN_eq C 33 d_Orb_send_22 (by decide) (by omega) (fun hc22 => ?_) (fun hc22 => absurd hc22 (by decide))
  refine J_aload_n C 0 d_Orb_send_33 rfl rfl ?_
  refine J_get C f_Orb_16 (by decide) (e_0 _) rfl d_Orb_send_34 ?_
  refine J_aload_n C 0 d_Orb_send_37 rfl rfl ?_
  refine J_get C f_Orb_49 (by decide) (e_0 _) rfl d_Orb_send_38 ?_
  refine P_callV C (as := [.int (M 0 6)]) (st := []) (p_isOpen_2 l D dA M (M 0 6) hp) l_Orb_68 v_Win_isOpen (by decide) (e_2 _) rfl (by decide) (by decide) (by decide) (Nat.le_of_ble_eq_true rfl) d_Orb_send_41 (kk := ?_)
  refine J_if_ne C 55 d_Orb_send_44 (by decide) (fun hc44 => absurd hbad hc44) (fun hc44 => ?_)
  exact J_throw C hfl rfl hnoh xcl_Orb_89 xin_IllegalStateException xini_IllegalStateException (by decide +kernel) (by decide +kernel) xat_Orb_91 (by decide) (Nat.le_of_ble_eq_true rfl) d_Orb_send_47 d_Orb_send_50 d_Orb_send_51 d_Orb_send_54

def hasB (M : Mem) (i : Int32) : Int32 := if M 73 2 = 0 then 0 else if i < 0 then 0 else if nI 32 ≤ i then 0 else 1
set_option maxHeartbeats 4000000 in
set_option maxRecDepth 100000 in
theorem p_sent (l : Launch) (D : va_G) (dA : Nat → ClassId) (M : Mem) (i : Nat) (hi : i < 32) (ha : ¬ M 73 2 = 0) : PT l D dA k_Orb_sent 1 90 [.ref 0, .int (nI i)] (E M) (.int (M 74 i)) := by
  refine PT.of (by decide +kernel) (Nat.le_of_ble_eq_true rfl) (by intro v hv; simp only [List.mem_cons, List.not_mem_nil, or_false] at hv; rcases hv with rfl | rfl <;> rfl) ?_
  intro A ad0 p e s m args below meth c C hr
  refine J_aload_n C 0 d_Orb_sent_0 rfl rfl ?_
  refine J_get C f_Orb_45 (by decide) (e_0 _) rfl d_Orb_sent_1 ?_
  refine J_iload_n C 1 d_Orb_sent_4 rfl rfl ?_
  refine P_callV C (as := [.int (nI i)]) (st := []) (p_hasByte l D dA M (nI i)) l_Orb_96 v_Ear_hasByte (by decide) (e_73 _) rfl (by decide) (by decide) (by decide) (Nat.le_of_ble_eq_true rfl) d_Orb_sent_5 (kk := ?_)
  refine J_if_ne C 19 d_Orb_sent_8 (by decide) (fun hc8 => ?_) (fun hc8 => absurd hc8 (by rw [if_neg ha, if_neg (nI_pos (by omega)), if_neg (fun q => absurd ((nI_leI (by decide) (by omega)).mp q) (by omega))]; decide))
  refine J_aload_n C 0 d_Orb_sent_19 rfl rfl ?_
  refine J_get C f_Orb_45 (by decide) (e_0 _) rfl d_Orb_sent_20 ?_
  refine J_get C f_Orb_102 (by decide) (e_73 _) rfl d_Orb_sent_23 ?_
  refine J_iload_n C 1 d_Orb_sent_26 rfl rfl ?_
  refine K_ial C a_74 (j := i) rfl (by omega) d_Orb_sent_27 ?_
  exact P_iretE C hr rfl d_Orb_sent_28

set_option maxHeartbeats 4000000 in
set_option maxRecDepth 100000 in
theorem x_sent (l : Launch) (D : va_G) (dA : Nat → ClassId) (hfl : l.flags = pinnedFlags ++ [noTraceFlag]) (M : Mem) (i : Int32) (hbad : hasB M i = 0) : XT l D dA k_Orb_sent 1 90 [.ref 0, .int i] (E M) "java/lang/IndexOutOfBoundsException" := by
  refine XT.of (by decide +kernel) (Nat.le_of_ble_eq_true rfl) (by intro v hv; simp only [List.mem_cons, List.not_mem_nil, or_false] at hv; rcases hv with rfl | rfl <;> rfl) ?_
  intro A ad0 p e s m args below meth c C hnoh
  refine J_aload_n C 0 d_Orb_sent_0 rfl rfl ?_
  refine J_get C f_Orb_45 (by decide) (e_0 _) rfl d_Orb_sent_1 ?_
  refine J_iload_n C 1 d_Orb_sent_4 rfl rfl ?_
  refine P_callV C (as := [.int i]) (st := []) (p_hasByte l D dA M i) l_Orb_96 v_Ear_hasByte (by decide) (e_73 _) rfl (by decide) (by decide) (by decide) (Nat.le_of_ble_eq_true rfl) d_Orb_sent_5 (kk := ?_)
  refine J_if_ne C 19 d_Orb_sent_8 (by decide) (fun hc8 => absurd hbad hc8) (fun hc8 => ?_)
  exact J_throw C hfl rfl hnoh xcl_Orb_99 xin_IndexOutOfBoundsException xini_IndexOutOfBoundsException (by decide +kernel) (by decide +kernel) xat_Orb_101 (by decide) (Nat.le_of_ble_eq_true rfl) d_Orb_sent_11 d_Orb_sent_14 d_Orb_sent_15 d_Orb_sent_18

theorem fFg_p (M : Mem) (j : Nat) {p : Nat} (h : p < 61) : fFg M j p = M p := by unfold fFg; rw [mu_p _ _ _ (by omega), mu_p _ _ _ (by omega)]
theorem fFS_p (M : Mem) {p : Nat} (h : p < 61) : fFS M p = M p := by unfold fFS; rw [fFg_p _ _ h, fFg_p _ _ h, fFg_p _ _ h, fFg_p _ _ h]
def fPowC (M : Mem) (q : Nat → Nat) (cn : Nat) : Mem := mu (fFS (mu (fRst q cn (mu (mu M 3 9 (nI 0)) 3 8 (nI 0))) 55 3 (nI 0))) 69 2 (nI 0)
set_option maxHeartbeats 4000000 in
set_option maxRecDepth 100000 in
theorem f_power (l : Launch) (D : va_G) (dA : Nat → ClassId) (M : Mem) (cn : Nat) (q : Nat → Nat) (hcn : M 3 3 = nI cn) (hc24 : cn ≤ 24) (hq : ∀ k, k < 24 → M 6 k = nI (q k)) (hq2 : ∀ k, k < 24 → q k < 24) : CF l D dA k_Orb_power 3 [.ref 0] M (some (.int (nI cn))) (fPowC M q cn) := by
  refine CF.of (by decide +kernel) (Nat.le_of_ble_eq_true rfl) (by intro v hv; simp only [List.mem_cons, List.not_mem_nil, or_false] at hv; rcases hv with rfl <;> rfl) ?_
  intro A ad0 p e s m args below meth c C hr
  refine J_aload_n C 0 d_Orb_power_0 rfl rfl ?_
  refine J_get C f_Orb_22 (by decide) (e_0 _) rfl d_Orb_power_1 ?_
  refine F_callV C (as := []) (st := []) (f_restart l D dA M cn q hcn hc24 hq hq2) l_Orb_109 v_Sto_restart (by decide) (e_3 _) rfl (by decide) (by decide) (Nat.le_of_ble_eq_true rfl) d_Orb_power_4 (kk := ?_)
  refine J_aload_n C 0 d_Orb_power_7 rfl rfl ?_
  refine J_get C f_Orb_31 (by decide) (e_0 _) rfl d_Orb_power_8 ?_
  refine F_callV C (as := []) (st := []) (f_srestart l D dA (fRst q cn (mu (mu M 3 9 (nI 0)) 3 8 (nI 0)))) l_Orb_112 v_Ses_restart (by decide) (e_55 _) rfl (by decide) (by decide) (Nat.le_of_ble_eq_true rfl) d_Orb_power_11 (kk := ?_)
  refine J_aload_n C 0 d_Orb_power_14 rfl rfl ?_
  refine J_get C f_Orb_38 (by decide) (e_0 _) rfl d_Orb_power_15 ?_
  refine F_callV C (as := []) (st := []) (f_forgetAll l D dA (fFS (mu (fRst q cn (mu (mu M 3 9 (nI 0)) 3 8 (nI 0))) 55 3 (nI 0)))) l_Orb_113 v_Lan_forgetAll (by decide) (e_69 _) rfl (by decide) (by decide) (Nat.le_of_ble_eq_true rfl) d_Orb_power_18 (kk := ?_)
  refine J_aload_n C 0 d_Orb_power_21 rfl rfl ?_
  refine J_get C f_Orb_22 (by decide) (e_0 _) rfl d_Orb_power_22 ?_
  refine J_get C f_Orb_116 (by decide) (e_3 _) rfl d_Orb_power_25 ?_
  refine J_val (y := nI cn) (by rw [mu_p _ _ _ (by decide), fFS_p _ (by decide), mu_p _ _ _ (by decide), fRst_p _ _ _ (by decide)]; exact hcn) ?_
  exact F_iret C hr rfl rfl d_Orb_power_28

set_option maxHeartbeats 4000000 in
set_option maxRecDepth 100000 in
theorem p_out (l : Launch) (D : va_G) (dA : Nat → ClassId) (M : Mem) (hz : M 3 9 = 0 ∨ M 3 9 = 1) : PT l D dA k_Orb_out 0 90 [.ref 0] (E M) (.int (M 3 9)) := by
  refine PT.of (by decide +kernel) (Nat.le_of_ble_eq_true rfl) (by intro v hv; simp only [List.mem_cons, List.not_mem_nil, or_false] at hv; rcases hv with rfl <;> rfl) ?_
  intro A ad0 p e s m args below meth c C hr
  refine J_aload_n C 0 d_Orb_out_0 rfl rfl ?_
  refine J_get C f_Orb_22 (by decide) (e_0 _) rfl d_Orb_out_1 ?_
  refine J_get C f_Orb_71 (by decide) (e_3 _) rfl d_Orb_out_4 ?_
  exact P_zretE C hr hz rfl d_Orb_out_7

set_option maxHeartbeats 4000000 in
set_option maxRecDepth 100000 in
theorem p_store0 (l : Launch) (D : va_G) (dA : Nat → ClassId) (M : Mem) : PT l D dA k_Orb_store 0 90 [.ref 0, .int (nI 0)] (E M) (.int (M 3 3)) := by
  refine PT.of (by decide +kernel) (Nat.le_of_ble_eq_true rfl) (by intro v hv; simp only [List.mem_cons, List.not_mem_nil, or_false] at hv; rcases hv with rfl | rfl <;> rfl) ?_
  intro A ad0 p e s m args below meth c C hr
  refine J_iload_n C 1 d_Orb_store_0 rfl rfl ?_
  refine J_tableIn C 32 d_Orb_store_1 (off := 31) (by decide) (by decide) (by decide) (by decide) ?_
  refine J_aload_n C 0 d_Orb_store_32 rfl rfl ?_
  refine J_get C f_Orb_22 (by decide) (e_0 _) rfl d_Orb_store_33 ?_
  refine J_get C f_Orb_116 (by decide) (e_3 _) rfl d_Orb_store_36 ?_
  exact P_iretE C hr rfl d_Orb_store_39

set_option maxHeartbeats 4000000 in
set_option maxRecDepth 100000 in
theorem p_store1 (l : Launch) (D : va_G) (dA : Nat → ClassId) (M : Mem) : PT l D dA k_Orb_store 0 90 [.ref 0, .int (nI 1)] (E M) (.int (M 3 4)) := by
  refine PT.of (by decide +kernel) (Nat.le_of_ble_eq_true rfl) (by intro v hv; simp only [List.mem_cons, List.not_mem_nil, or_false] at hv; rcases hv with rfl | rfl <;> rfl) ?_
  intro A ad0 p e s m args below meth c C hr
  refine J_iload_n C 1 d_Orb_store_0 rfl rfl ?_
  refine J_tableIn C 40 d_Orb_store_1 (off := 39) (by decide) (by decide) (by decide) (by decide) ?_
  refine J_aload_n C 0 d_Orb_store_40 rfl rfl ?_
  refine J_get C f_Orb_22 (by decide) (e_0 _) rfl d_Orb_store_41 ?_
  refine J_get C f_Orb_119 (by decide) (e_3 _) rfl d_Orb_store_44 ?_
  exact P_iretE C hr rfl d_Orb_store_47

set_option maxHeartbeats 4000000 in
set_option maxRecDepth 100000 in
theorem p_store2 (l : Launch) (D : va_G) (dA : Nat → ClassId) (M : Mem) : PT l D dA k_Orb_store 0 90 [.ref 0, .int (nI 2)] (E M) (.int (M 3 6)) := by
  refine PT.of (by decide +kernel) (Nat.le_of_ble_eq_true rfl) (by intro v hv; simp only [List.mem_cons, List.not_mem_nil, or_false] at hv; rcases hv with rfl | rfl <;> rfl) ?_
  intro A ad0 p e s m args below meth c C hr
  refine J_iload_n C 1 d_Orb_store_0 rfl rfl ?_
  refine J_tableIn C 48 d_Orb_store_1 (off := 47) (by decide) (by decide) (by decide) (by decide) ?_
  refine J_aload_n C 0 d_Orb_store_48 rfl rfl ?_
  refine J_get C f_Orb_22 (by decide) (e_0 _) rfl d_Orb_store_49 ?_
  refine J_get C f_Orb_122 (by decide) (e_3 _) rfl d_Orb_store_52 ?_
  exact P_iretE C hr rfl d_Orb_store_55

set_option maxHeartbeats 4000000 in
set_option maxRecDepth 100000 in
theorem p_store3 (l : Launch) (D : va_G) (dA : Nat → ClassId) (M : Mem) : PT l D dA k_Orb_store 0 90 [.ref 0, .int (nI 3)] (E M) (.int (M 3 7)) := by
  refine PT.of (by decide +kernel) (Nat.le_of_ble_eq_true rfl) (by intro v hv; simp only [List.mem_cons, List.not_mem_nil, or_false] at hv; rcases hv with rfl | rfl <;> rfl) ?_
  intro A ad0 p e s m args below meth c C hr
  refine J_iload_n C 1 d_Orb_store_0 rfl rfl ?_
  refine J_tableIn C 56 d_Orb_store_1 (off := 55) (by decide) (by decide) (by decide) (by decide) ?_
  refine J_aload_n C 0 d_Orb_store_56 rfl rfl ?_
  refine J_get C f_Orb_22 (by decide) (e_0 _) rfl d_Orb_store_57 ?_
  refine J_get C f_Orb_125 (by decide) (e_3 _) rfl d_Orb_store_60 ?_
  exact P_iretE C hr rfl d_Orb_store_63

set_option maxHeartbeats 4000000 in
set_option maxRecDepth 100000 in
theorem x_store (l : Launch) (D : va_G) (dA : Nat → ClassId) (hfl : l.flags = pinnedFlags ++ [noTraceFlag]) (M : Mem) (p0 : Int32) (hbad : ∀ k, 0 ≤ k → k ≤ 3 → ¬ p0 = nI k) : XT l D dA k_Orb_store 0 90 [.ref 0, .int p0] (E M) "java/lang/IllegalArgumentException" := by
  refine XT.of (by decide +kernel) (Nat.le_of_ble_eq_true rfl) (by intro v hv; simp only [List.mem_cons, List.not_mem_nil, or_false] at hv; rcases hv with rfl | rfl <;> rfl) ?_
  intro A ad0 p e s m args below meth c C hnoh
  refine J_iload_n C 1 d_Orb_store_0 rfl rfl ?_
  by_cases hs1_0 : p0 = nI 0
  · refine J_val hs1_0 ?_
    refine J_tableIn C 32 d_Orb_store_1 (off := 31) (by decide) (by decide) (by decide) (by decide) ?_
    exact absurd hs1_0 (hbad 0 (by omega) (by omega))
  by_cases hs1_1 : p0 = nI 1
  · refine J_val hs1_1 ?_
    refine J_tableIn C 40 d_Orb_store_1 (off := 39) (by decide) (by decide) (by decide) (by decide) ?_
    exact absurd hs1_1 (hbad 1 (by omega) (by omega))
  by_cases hs1_2 : p0 = nI 2
  · refine J_val hs1_2 ?_
    refine J_tableIn C 48 d_Orb_store_1 (off := 47) (by decide) (by decide) (by decide) (by decide) ?_
    exact absurd hs1_2 (hbad 2 (by omega) (by omega))
  by_cases hs1_3 : p0 = nI 3
  · refine J_val hs1_3 ?_
    refine J_tableIn C 56 d_Orb_store_1 (off := 55) (by decide) (by decide) (by decide) (by decide) ?_
    exact absurd hs1_3 (hbad 3 (by omega) (by omega))
  refine J_tableOut C 64 d_Orb_store_1 (sw_out 0 3 (by decide) (fun k h1 h2 => by rcases (show k = 0 ∨ k = 1 ∨ k = 2 ∨ k = 3 by omega) with rfl | rfl | rfl | rfl <;> assumption)) (by decide) ?_
  exact J_throw C hfl rfl hnoh xcl_Orb_57 xin_IllegalArgumentException xini_IllegalArgumentException (by decide +kernel) (by decide +kernel) xat_Orb_59 (by decide) (Nat.le_of_ble_eq_true rfl) d_Orb_store_64 d_Orb_store_67 d_Orb_store_68 d_Orb_store_71

def hasP (M : Mem) (i : Int32) : Int32 := if i < 0 then 0 else if M 3 3 ≤ i then 0 else 1
theorem hasP_1 {M : Mem} {i cn : Nat} (hcn : M 3 3 = nI cn) (hc24 : cn ≤ 24) (hi : i < cn) : ¬ hasP M (nI i) = 0 := by unfold hasP; rw [if_neg (nI_pos (by omega)), if_neg (fun q => by rw [hcn] at q; exact absurd ((nI_leI (by omega) (by omega)).mp q) (by omega))]; decide
set_option maxHeartbeats 4000000 in
set_option maxRecDepth 100000 in
theorem p_packet0 (l : Launch) (D : va_G) (dA : Nat → ClassId) (M : Mem) (i cn : Nat) (q : Nat → Nat) (hcn : M 3 3 = nI cn) (hc24 : cn ≤ 24) (hi : i < cn) (hq : ∀ k, k < 24 → M 6 k = nI (q k)) (hq2 : ∀ k, k < 24 → q k < 24) (j : Nat) (hj : q i = j) : PT l D dA k_Orb_packet 1 90 [.ref 0, .int (nI i), .int (nI 0)] (E M) (.int (M (7 + 2 * j) 1)) := by
  refine PT.of (by decide +kernel) (Nat.le_of_ble_eq_true rfl) (by intro v hv; simp only [List.mem_cons, List.not_mem_nil, or_false] at hv; rcases hv with rfl | rfl | rfl <;> rfl) ?_
  intro A ad0 p e s m args below meth c C hr
  refine J_aload_n C 0 d_Orb_packet_0 rfl rfl ?_
  refine J_get C f_Orb_22 (by decide) (e_0 _) rfl d_Orb_packet_1 ?_
  refine J_iload_n C 1 d_Orb_packet_4 rfl rfl ?_
  refine P_callV C (as := [.int (nI i)]) (st := []) (p_has l D dA M (nI i)) l_Orb_128 v_Sto_has (by decide) (e_3 _) rfl (by decide) (by decide) (by decide) (Nat.le_of_ble_eq_true rfl) d_Orb_packet_5 (kk := ?_)
  refine J_if_ne C 19 d_Orb_packet_8 (by decide) (fun hc8 => ?_) (fun hc8 => absurd hc8 (hasP_1 hcn hc24 hi))
  refine J_aload_n C 0 d_Orb_packet_19 rfl rfl ?_
  refine J_get C f_Orb_22 (by decide) (e_0 _) rfl d_Orb_packet_20 ?_
  refine J_get C f_Orb_131 (by decide) (e_3 _) rfl d_Orb_packet_23 ?_
  refine J_iload_n C 1 d_Orb_packet_26 rfl rfl ?_
  have b1 := hq2 i (by omega)
  refine K_pkld C (j := i) (x := j) rfl (by omega) (by rw [← hj]; exact hq i (by omega)) (by omega) d_Orb_packet_27 ?_
  refine J_astore_n C 3 d_Orb_packet_28 rfl (by decide) rfl ?_
  refine J_iload_n C 2 d_Orb_packet_29 rfl rfl ?_
  refine J_tableIn C 64 d_Orb_packet_30 (off := 34) (by decide) (by decide) (by decide) (by decide) ?_
  refine J_aload_n C 3 d_Orb_packet_64 rfl rfl ?_
  refine J_get C f_Orb_135 (by omega) (e_pk _ (by omega)) rfl d_Orb_packet_65 ?_
  exact P_iretE C hr rfl d_Orb_packet_68

set_option maxHeartbeats 4000000 in
set_option maxRecDepth 100000 in
theorem p_packet1 (l : Launch) (D : va_G) (dA : Nat → ClassId) (M : Mem) (i cn : Nat) (q : Nat → Nat) (hcn : M 3 3 = nI cn) (hc24 : cn ≤ 24) (hi : i < cn) (hq : ∀ k, k < 24 → M 6 k = nI (q k)) (hq2 : ∀ k, k < 24 → q k < 24) (j : Nat) (hj : q i = j) : PT l D dA k_Orb_packet 1 90 [.ref 0, .int (nI i), .int (nI 1)] (E M) (.int (M (7 + 2 * j) 2)) := by
  refine PT.of (by decide +kernel) (Nat.le_of_ble_eq_true rfl) (by intro v hv; simp only [List.mem_cons, List.not_mem_nil, or_false] at hv; rcases hv with rfl | rfl | rfl <;> rfl) ?_
  intro A ad0 p e s m args below meth c C hr
  refine J_aload_n C 0 d_Orb_packet_0 rfl rfl ?_
  refine J_get C f_Orb_22 (by decide) (e_0 _) rfl d_Orb_packet_1 ?_
  refine J_iload_n C 1 d_Orb_packet_4 rfl rfl ?_
  refine P_callV C (as := [.int (nI i)]) (st := []) (p_has l D dA M (nI i)) l_Orb_128 v_Sto_has (by decide) (e_3 _) rfl (by decide) (by decide) (by decide) (Nat.le_of_ble_eq_true rfl) d_Orb_packet_5 (kk := ?_)
  refine J_if_ne C 19 d_Orb_packet_8 (by decide) (fun hc8 => ?_) (fun hc8 => absurd hc8 (hasP_1 hcn hc24 hi))
  refine J_aload_n C 0 d_Orb_packet_19 rfl rfl ?_
  refine J_get C f_Orb_22 (by decide) (e_0 _) rfl d_Orb_packet_20 ?_
  refine J_get C f_Orb_131 (by decide) (e_3 _) rfl d_Orb_packet_23 ?_
  refine J_iload_n C 1 d_Orb_packet_26 rfl rfl ?_
  have b1 := hq2 i (by omega)
  refine K_pkld C (j := i) (x := j) rfl (by omega) (by rw [← hj]; exact hq i (by omega)) (by omega) d_Orb_packet_27 ?_
  refine J_astore_n C 3 d_Orb_packet_28 rfl (by decide) rfl ?_
  refine J_iload_n C 2 d_Orb_packet_29 rfl rfl ?_
  refine J_tableIn C 69 d_Orb_packet_30 (off := 39) (by decide) (by decide) (by decide) (by decide) ?_
  refine J_aload_n C 3 d_Orb_packet_69 rfl rfl ?_
  refine J_get C f_Orb_140 (by omega) (e_pk _ (by omega)) rfl d_Orb_packet_70 ?_
  exact P_iretE C hr rfl d_Orb_packet_73

set_option maxHeartbeats 4000000 in
set_option maxRecDepth 100000 in
theorem p_packet2 (l : Launch) (D : va_G) (dA : Nat → ClassId) (M : Mem) (i cn : Nat) (q : Nat → Nat) (hcn : M 3 3 = nI cn) (hc24 : cn ≤ 24) (hi : i < cn) (hq : ∀ k, k < 24 → M 6 k = nI (q k)) (hq2 : ∀ k, k < 24 → q k < 24) (j : Nat) (hj : q i = j) : PT l D dA k_Orb_packet 1 90 [.ref 0, .int (nI i), .int (nI 2)] (E M) (.int (M (7 + 2 * j) 3)) := by
  refine PT.of (by decide +kernel) (Nat.le_of_ble_eq_true rfl) (by intro v hv; simp only [List.mem_cons, List.not_mem_nil, or_false] at hv; rcases hv with rfl | rfl | rfl <;> rfl) ?_
  intro A ad0 p e s m args below meth c C hr
  refine J_aload_n C 0 d_Orb_packet_0 rfl rfl ?_
  refine J_get C f_Orb_22 (by decide) (e_0 _) rfl d_Orb_packet_1 ?_
  refine J_iload_n C 1 d_Orb_packet_4 rfl rfl ?_
  refine P_callV C (as := [.int (nI i)]) (st := []) (p_has l D dA M (nI i)) l_Orb_128 v_Sto_has (by decide) (e_3 _) rfl (by decide) (by decide) (by decide) (Nat.le_of_ble_eq_true rfl) d_Orb_packet_5 (kk := ?_)
  refine J_if_ne C 19 d_Orb_packet_8 (by decide) (fun hc8 => ?_) (fun hc8 => absurd hc8 (hasP_1 hcn hc24 hi))
  refine J_aload_n C 0 d_Orb_packet_19 rfl rfl ?_
  refine J_get C f_Orb_22 (by decide) (e_0 _) rfl d_Orb_packet_20 ?_
  refine J_get C f_Orb_131 (by decide) (e_3 _) rfl d_Orb_packet_23 ?_
  refine J_iload_n C 1 d_Orb_packet_26 rfl rfl ?_
  have b1 := hq2 i (by omega)
  refine K_pkld C (j := i) (x := j) rfl (by omega) (by rw [← hj]; exact hq i (by omega)) (by omega) d_Orb_packet_27 ?_
  refine J_astore_n C 3 d_Orb_packet_28 rfl (by decide) rfl ?_
  refine J_iload_n C 2 d_Orb_packet_29 rfl rfl ?_
  refine J_tableIn C 74 d_Orb_packet_30 (off := 44) (by decide) (by decide) (by decide) (by decide) ?_
  refine J_aload_n C 3 d_Orb_packet_74 rfl rfl ?_
  refine J_get C f_Orb_143 (by omega) (e_pk _ (by omega)) rfl d_Orb_packet_75 ?_
  exact P_iretE C hr rfl d_Orb_packet_78

set_option maxHeartbeats 4000000 in
set_option maxRecDepth 100000 in
theorem p_packet3 (l : Launch) (D : va_G) (dA : Nat → ClassId) (M : Mem) (i cn : Nat) (q : Nat → Nat) (hcn : M 3 3 = nI cn) (hc24 : cn ≤ 24) (hi : i < cn) (hq : ∀ k, k < 24 → M 6 k = nI (q k)) (hq2 : ∀ k, k < 24 → q k < 24) (j : Nat) (hj : q i = j) : PT l D dA k_Orb_packet 1 90 [.ref 0, .int (nI i), .int (nI 3)] (E M) (.int (M (8 + 2 * j) 0)) := by
  refine PT.of (by decide +kernel) (Nat.le_of_ble_eq_true rfl) (by intro v hv; simp only [List.mem_cons, List.not_mem_nil, or_false] at hv; rcases hv with rfl | rfl | rfl <;> rfl) ?_
  intro A ad0 p e s m args below meth c C hr
  refine J_aload_n C 0 d_Orb_packet_0 rfl rfl ?_
  refine J_get C f_Orb_22 (by decide) (e_0 _) rfl d_Orb_packet_1 ?_
  refine J_iload_n C 1 d_Orb_packet_4 rfl rfl ?_
  refine P_callV C (as := [.int (nI i)]) (st := []) (p_has l D dA M (nI i)) l_Orb_128 v_Sto_has (by decide) (e_3 _) rfl (by decide) (by decide) (by decide) (Nat.le_of_ble_eq_true rfl) d_Orb_packet_5 (kk := ?_)
  refine J_if_ne C 19 d_Orb_packet_8 (by decide) (fun hc8 => ?_) (fun hc8 => absurd hc8 (hasP_1 hcn hc24 hi))
  refine J_aload_n C 0 d_Orb_packet_19 rfl rfl ?_
  refine J_get C f_Orb_22 (by decide) (e_0 _) rfl d_Orb_packet_20 ?_
  refine J_get C f_Orb_131 (by decide) (e_3 _) rfl d_Orb_packet_23 ?_
  refine J_iload_n C 1 d_Orb_packet_26 rfl rfl ?_
  have b1 := hq2 i (by omega)
  refine K_pkld C (j := i) (x := j) rfl (by omega) (by rw [← hj]; exact hq i (by omega)) (by omega) d_Orb_packet_27 ?_
  refine J_astore_n C 3 d_Orb_packet_28 rfl (by decide) rfl ?_
  refine J_iload_n C 2 d_Orb_packet_29 rfl rfl ?_
  refine J_tableIn C 79 d_Orb_packet_30 (off := 49) (by decide) (by decide) (by decide) (by decide) ?_
  refine J_aload_n C 3 d_Orb_packet_79 rfl rfl ?_
  refine J_get C f_Orb_146 (by omega) (e_pk _ (by omega)) rfl d_Orb_packet_80 ?_
  refine J_iconst C d_Orb_packet_83 (v := nI 0) rfl ?_
  refine K_ial C (a_pb (by omega)) (j := 0) rfl (by omega) d_Orb_packet_84 ?_
  exact P_iretE C hr rfl d_Orb_packet_85

set_option maxHeartbeats 4000000 in
set_option maxRecDepth 100000 in
theorem p_packet4 (l : Launch) (D : va_G) (dA : Nat → ClassId) (M : Mem) (i cn : Nat) (q : Nat → Nat) (hcn : M 3 3 = nI cn) (hc24 : cn ≤ 24) (hi : i < cn) (hq : ∀ k, k < 24 → M 6 k = nI (q k)) (hq2 : ∀ k, k < 24 → q k < 24) (j : Nat) (hj : q i = j) : PT l D dA k_Orb_packet 1 90 [.ref 0, .int (nI i), .int (nI 4)] (E M) (.int (M (7 + 2 * j) 4)) := by
  refine PT.of (by decide +kernel) (Nat.le_of_ble_eq_true rfl) (by intro v hv; simp only [List.mem_cons, List.not_mem_nil, or_false] at hv; rcases hv with rfl | rfl | rfl <;> rfl) ?_
  intro A ad0 p e s m args below meth c C hr
  refine J_aload_n C 0 d_Orb_packet_0 rfl rfl ?_
  refine J_get C f_Orb_22 (by decide) (e_0 _) rfl d_Orb_packet_1 ?_
  refine J_iload_n C 1 d_Orb_packet_4 rfl rfl ?_
  refine P_callV C (as := [.int (nI i)]) (st := []) (p_has l D dA M (nI i)) l_Orb_128 v_Sto_has (by decide) (e_3 _) rfl (by decide) (by decide) (by decide) (Nat.le_of_ble_eq_true rfl) d_Orb_packet_5 (kk := ?_)
  refine J_if_ne C 19 d_Orb_packet_8 (by decide) (fun hc8 => ?_) (fun hc8 => absurd hc8 (hasP_1 hcn hc24 hi))
  refine J_aload_n C 0 d_Orb_packet_19 rfl rfl ?_
  refine J_get C f_Orb_22 (by decide) (e_0 _) rfl d_Orb_packet_20 ?_
  refine J_get C f_Orb_131 (by decide) (e_3 _) rfl d_Orb_packet_23 ?_
  refine J_iload_n C 1 d_Orb_packet_26 rfl rfl ?_
  have b1 := hq2 i (by omega)
  refine K_pkld C (j := i) (x := j) rfl (by omega) (by rw [← hj]; exact hq i (by omega)) (by omega) d_Orb_packet_27 ?_
  refine J_astore_n C 3 d_Orb_packet_28 rfl (by decide) rfl ?_
  refine J_iload_n C 2 d_Orb_packet_29 rfl rfl ?_
  refine J_tableIn C 86 d_Orb_packet_30 (off := 56) (by decide) (by decide) (by decide) (by decide) ?_
  refine J_aload_n C 3 d_Orb_packet_86 rfl rfl ?_
  refine J_get C f_Orb_149 (by omega) (e_pk _ (by omega)) rfl d_Orb_packet_87 ?_
  exact P_iretE C hr rfl d_Orb_packet_90

set_option maxHeartbeats 4000000 in
set_option maxRecDepth 100000 in
theorem x_packet (l : Launch) (D : va_G) (dA : Nat → ClassId) (hfl : l.flags = pinnedFlags ++ [noTraceFlag]) (M : Mem) (i p1 : Int32) (hbad : hasP M i = 0) : XT l D dA k_Orb_packet 1 90 [.ref 0, .int i, .int p1] (E M) "java/lang/IndexOutOfBoundsException" := by
  refine XT.of (by decide +kernel) (Nat.le_of_ble_eq_true rfl) (by intro v hv; simp only [List.mem_cons, List.not_mem_nil, or_false] at hv; rcases hv with rfl | rfl | rfl <;> rfl) ?_
  intro A ad0 p e s m args below meth c C hnoh
  refine J_aload_n C 0 d_Orb_packet_0 rfl rfl ?_
  refine J_get C f_Orb_22 (by decide) (e_0 _) rfl d_Orb_packet_1 ?_
  refine J_iload_n C 1 d_Orb_packet_4 rfl rfl ?_
  refine P_callV C (as := [.int i]) (st := []) (p_has l D dA M i) l_Orb_128 v_Sto_has (by decide) (e_3 _) rfl (by decide) (by decide) (by decide) (Nat.le_of_ble_eq_true rfl) d_Orb_packet_5 (kk := ?_)
  refine J_if_ne C 19 d_Orb_packet_8 (by decide) (fun hc8 => absurd hbad hc8) (fun hc8 => ?_)
  exact J_throw C hfl rfl hnoh xcl_Orb_99 xin_IndexOutOfBoundsException xini_IndexOutOfBoundsException (by decide +kernel) (by decide +kernel) xat_Orb_101 (by decide) (Nat.le_of_ble_eq_true rfl) d_Orb_packet_11 d_Orb_packet_14 d_Orb_packet_15 d_Orb_packet_18

set_option maxHeartbeats 4000000 in
set_option maxRecDepth 100000 in
theorem x_packetN (l : Launch) (D : va_G) (dA : Nat → ClassId) (hfl : l.flags = pinnedFlags ++ [noTraceFlag]) (M : Mem) (i cn : Nat) (q : Nat → Nat) (hcn : M 3 3 = nI cn) (hc24 : cn ≤ 24) (hi : i < cn) (hq : ∀ k, k < 24 → M 6 k = nI (q k)) (hq2 : ∀ k, k < 24 → q k < 24) (j : Nat) (hj : q i = j) (p1 : Int32) (hbad : ∀ k, 0 ≤ k → k ≤ 4 → ¬ p1 = nI k) : XT l D dA k_Orb_packet 1 90 [.ref 0, .int (nI i), .int p1] (E M) "java/lang/IllegalArgumentException" := by
  refine XT.of (by decide +kernel) (Nat.le_of_ble_eq_true rfl) (by intro v hv; simp only [List.mem_cons, List.not_mem_nil, or_false] at hv; rcases hv with rfl | rfl | rfl <;> rfl) ?_
  intro A ad0 p e s m args below meth c C hnoh
  refine J_aload_n C 0 d_Orb_packet_0 rfl rfl ?_
  refine J_get C f_Orb_22 (by decide) (e_0 _) rfl d_Orb_packet_1 ?_
  refine J_iload_n C 1 d_Orb_packet_4 rfl rfl ?_
  refine P_callV C (as := [.int (nI i)]) (st := []) (p_has l D dA M (nI i)) l_Orb_128 v_Sto_has (by decide) (e_3 _) rfl (by decide) (by decide) (by decide) (Nat.le_of_ble_eq_true rfl) d_Orb_packet_5 (kk := ?_)
  refine J_if_ne C 19 d_Orb_packet_8 (by decide) (fun hc8 => ?_) (fun hc8 => absurd hc8 (hasP_1 hcn hc24 hi))
  refine J_aload_n C 0 d_Orb_packet_19 rfl rfl ?_
  refine J_get C f_Orb_22 (by decide) (e_0 _) rfl d_Orb_packet_20 ?_
  refine J_get C f_Orb_131 (by decide) (e_3 _) rfl d_Orb_packet_23 ?_
  refine J_iload_n C 1 d_Orb_packet_26 rfl rfl ?_
  have b1 := hq2 i (by omega)
  refine K_pkld C (j := i) (x := j) rfl (by omega) (by rw [← hj]; exact hq i (by omega)) (by omega) d_Orb_packet_27 ?_
  refine J_astore_n C 3 d_Orb_packet_28 rfl (by decide) rfl ?_
  refine J_iload_n C 2 d_Orb_packet_29 rfl rfl ?_
  by_cases hs30_0 : p1 = nI 0
  · refine J_val hs30_0 ?_
    refine J_tableIn C 64 d_Orb_packet_30 (off := 34) (by decide) (by decide) (by decide) (by decide) ?_
    exact absurd hs30_0 (hbad 0 (by omega) (by omega))
  by_cases hs30_1 : p1 = nI 1
  · refine J_val hs30_1 ?_
    refine J_tableIn C 69 d_Orb_packet_30 (off := 39) (by decide) (by decide) (by decide) (by decide) ?_
    exact absurd hs30_1 (hbad 1 (by omega) (by omega))
  by_cases hs30_2 : p1 = nI 2
  · refine J_val hs30_2 ?_
    refine J_tableIn C 74 d_Orb_packet_30 (off := 44) (by decide) (by decide) (by decide) (by decide) ?_
    exact absurd hs30_2 (hbad 2 (by omega) (by omega))
  by_cases hs30_3 : p1 = nI 3
  · refine J_val hs30_3 ?_
    refine J_tableIn C 79 d_Orb_packet_30 (off := 49) (by decide) (by decide) (by decide) (by decide) ?_
    exact absurd hs30_3 (hbad 3 (by omega) (by omega))
  by_cases hs30_4 : p1 = nI 4
  · refine J_val hs30_4 ?_
    refine J_tableIn C 86 d_Orb_packet_30 (off := 56) (by decide) (by decide) (by decide) (by decide) ?_
    exact absurd hs30_4 (hbad 4 (by omega) (by omega))
  refine J_tableOut C 91 d_Orb_packet_30 (sw_out 0 4 (by decide) (fun k h1 h2 => by rcases (show k = 0 ∨ k = 1 ∨ k = 2 ∨ k = 3 ∨ k = 4 by omega) with rfl | rfl | rfl | rfl | rfl <;> assumption)) (by decide) ?_
  exact J_throw C hfl rfl hnoh xcl_Orb_57 xin_IllegalArgumentException xini_IllegalArgumentException (by decide +kernel) (by decide +kernel) xat_Orb_59 (by decide) (Nat.le_of_ble_eq_true rfl) d_Orb_packet_91 d_Orb_packet_94 d_Orb_packet_95 d_Orb_packet_98

set_option maxHeartbeats 4000000 in
set_option maxRecDepth 100000 in
theorem p_content (l : Launch) (D : va_G) (dA : Nat → ClassId) (M : Mem) (i cn : Nat) (q : Nat → Nat) (hcn : M 3 3 = nI cn) (hc24 : cn ≤ 24) (hi : i < cn) (hq : ∀ k, k < 24 → M 6 k = nI (q k)) (hq2 : ∀ k, k < 24 → q k < 24) (j : Nat) (hj : q i = j) (k L b : Nat) (hL : M (7 + 2 * j) 2 = nI L) (hL60 : L ≤ 60) (hk : k < L) (hb : M (8 + 2 * j) (k / 20) = nI b) (hb2 : b < 24) : PT l D dA k_Orb_content 1 90 [.ref 0, .int (nI i), .int (nI k)] (E M) (.int (M 4 (b * 20 + k % 20))) := by
  refine PT.of (by decide +kernel) (Nat.le_of_ble_eq_true rfl) (by intro v hv; simp only [List.mem_cons, List.not_mem_nil, or_false] at hv; rcases hv with rfl | rfl | rfl <;> rfl) ?_
  intro A ad0 p e s m args below meth c C hr
  refine J_aload_n C 0 d_Orb_content_0 rfl rfl ?_
  refine J_get C f_Orb_22 (by decide) (e_0 _) rfl d_Orb_content_1 ?_
  refine J_iload_n C 1 d_Orb_content_4 rfl rfl ?_
  refine P_callV C (as := [.int (nI i)]) (st := []) (p_has l D dA M (nI i)) l_Orb_128 v_Sto_has (by decide) (e_3 _) rfl (by decide) (by decide) (by decide) (Nat.le_of_ble_eq_true rfl) d_Orb_content_5 (kk := ?_)
  refine J_if_eq C 31 d_Orb_content_8 (by decide) (fun hc8 => absurd hc8 (hasP_1 hcn hc24 hi)) (fun hc8 => ?_)
  refine J_iload_n C 2 d_Orb_content_11 rfl rfl ?_
  refine J_ifN_lt C d_Orb_content_12 31 (by decide) (by omega) ?_
  refine J_iload_n C 2 d_Orb_content_15 rfl rfl ?_
  refine J_aload_n C 0 d_Orb_content_16 rfl rfl ?_
  refine J_get C f_Orb_22 (by decide) (e_0 _) rfl d_Orb_content_17 ?_
  refine J_get C f_Orb_131 (by decide) (e_3 _) rfl d_Orb_content_20 ?_
  refine J_iload_n C 1 d_Orb_content_23 rfl rfl ?_
  have b1 := hq2 i (by omega)
  refine K_pkld C (j := i) (x := j) rfl (by omega) (by rw [← hj]; exact hq i (by omega)) (by omega) d_Orb_content_24 ?_
  refine J_get C f_Orb_140 (by omega) (e_pk _ (by omega)) rfl d_Orb_content_25 ?_
  refine J_val (y := nI L) hL ?_
  refine J_icmpN_lt C 39 d_Orb_content_28 (by decide) (by omega) (by omega) (fun hc28 => ?_) (fun hc28 => absurd hc28 (by omega))
  refine J_aload_n C 0 d_Orb_content_39 rfl rfl ?_
  refine J_get C f_Orb_22 (by decide) (e_0 _) rfl d_Orb_content_40 ?_
  refine J_aload_n C 0 d_Orb_content_43 rfl rfl ?_
  refine J_get C f_Orb_22 (by decide) (e_0 _) rfl d_Orb_content_44 ?_
  refine J_get C f_Orb_131 (by decide) (e_3 _) rfl d_Orb_content_47 ?_
  refine J_iload_n C 1 d_Orb_content_50 rfl rfl ?_
  refine K_pkld C (j := i) (x := j) rfl (by omega) (by rw [← hj]; exact hq i (by omega)) (by omega) d_Orb_content_51 ?_
  refine J_iload_n C 2 d_Orb_content_52 rfl rfl ?_
  refine P_callV C (as := [.ref (7 + 2 * j), .int (nI k)]) (st := []) (p_byteOf l D dA M j k b (by omega) (by omega) hb hb2) l_Orb_152 v_Sto_byteOf (by decide) (e_3 _) rfl (by decide) (by decide) (by decide) (Nat.le_of_ble_eq_true rfl) d_Orb_content_53 (kk := ?_)
  exact P_iretE C hr rfl d_Orb_content_56

set_option maxHeartbeats 4000000 in
set_option maxRecDepth 100000 in
theorem x_content (l : Launch) (D : va_G) (dA : Nat → ClassId) (hfl : l.flags = pinnedFlags ++ [noTraceFlag]) (M : Mem) (i k : Int32) (hbad : hasP M i = 0) : XT l D dA k_Orb_content 1 90 [.ref 0, .int i, .int k] (E M) "java/lang/IndexOutOfBoundsException" := by
  refine XT.of (by decide +kernel) (Nat.le_of_ble_eq_true rfl) (by intro v hv; simp only [List.mem_cons, List.not_mem_nil, or_false] at hv; rcases hv with rfl | rfl | rfl <;> rfl) ?_
  intro A ad0 p e s m args below meth c C hnoh
  refine J_aload_n C 0 d_Orb_content_0 rfl rfl ?_
  refine J_get C f_Orb_22 (by decide) (e_0 _) rfl d_Orb_content_1 ?_
  refine J_iload_n C 1 d_Orb_content_4 rfl rfl ?_
  refine P_callV C (as := [.int i]) (st := []) (p_has l D dA M i) l_Orb_128 v_Sto_has (by decide) (e_3 _) rfl (by decide) (by decide) (by decide) (Nat.le_of_ble_eq_true rfl) d_Orb_content_5 (kk := ?_)
  refine J_if_eq C 31 d_Orb_content_8 (by decide) (fun hc8 => ?_) (fun hc8 => absurd hbad hc8)
  exact J_throw C hfl rfl hnoh xcl_Orb_99 xin_IndexOutOfBoundsException xini_IndexOutOfBoundsException (by decide +kernel) (by decide +kernel) xat_Orb_101 (by decide) (Nat.le_of_ble_eq_true rfl) d_Orb_content_31 d_Orb_content_34 d_Orb_content_35 d_Orb_content_38

set_option maxHeartbeats 4000000 in
set_option maxRecDepth 100000 in
theorem x_contentN (l : Launch) (D : va_G) (dA : Nat → ClassId) (hfl : l.flags = pinnedFlags ++ [noTraceFlag]) (M : Mem) (i cn : Nat) (q : Nat → Nat) (hcn : M 3 3 = nI cn) (hc24 : cn ≤ 24) (hi : i < cn) (hq : ∀ k, k < 24 → M 6 k = nI (q k)) (hq2 : ∀ k, k < 24 → q k < 24) (j : Nat) (hj : q i = j) (k : Int32) (hbad : k < 0 ∨ M (7 + 2 * j) 2 ≤ k) : XT l D dA k_Orb_content 1 90 [.ref 0, .int (nI i), .int k] (E M) "java/lang/IndexOutOfBoundsException" := by
  refine XT.of (by decide +kernel) (Nat.le_of_ble_eq_true rfl) (by intro v hv; simp only [List.mem_cons, List.not_mem_nil, or_false] at hv; rcases hv with rfl | rfl | rfl <;> rfl) ?_
  intro A ad0 p e s m args below meth c C hnoh
  refine J_aload_n C 0 d_Orb_content_0 rfl rfl ?_
  refine J_get C f_Orb_22 (by decide) (e_0 _) rfl d_Orb_content_1 ?_
  refine J_iload_n C 1 d_Orb_content_4 rfl rfl ?_
  refine P_callV C (as := [.int (nI i)]) (st := []) (p_has l D dA M (nI i)) l_Orb_128 v_Sto_has (by decide) (e_3 _) rfl (by decide) (by decide) (by decide) (Nat.le_of_ble_eq_true rfl) d_Orb_content_5 (kk := ?_)
  refine J_if_eq C 31 d_Orb_content_8 (by decide) (fun hc8 => absurd hc8 (hasP_1 hcn hc24 hi)) (fun hc8 => ?_)
  refine J_iload_n C 2 d_Orb_content_11 rfl rfl ?_
  refine J_if_lt C 31 d_Orb_content_12 (by decide) (fun hc12 => ?_) (fun hc12 => ?_)
  · exact J_throw C hfl rfl hnoh xcl_Orb_99 xin_IndexOutOfBoundsException xini_IndexOutOfBoundsException (by decide +kernel) (by decide +kernel) xat_Orb_101 (by decide) (Nat.le_of_ble_eq_true rfl) d_Orb_content_31 d_Orb_content_34 d_Orb_content_35 d_Orb_content_38
  · refine J_iload_n C 2 d_Orb_content_15 rfl rfl ?_
    refine J_aload_n C 0 d_Orb_content_16 rfl rfl ?_
    refine J_get C f_Orb_22 (by decide) (e_0 _) rfl d_Orb_content_17 ?_
    refine J_get C f_Orb_131 (by decide) (e_3 _) rfl d_Orb_content_20 ?_
    refine J_iload_n C 1 d_Orb_content_23 rfl rfl ?_
    have b1 := hq2 i (by omega)
    refine K_pkld C (j := i) (x := j) rfl (by omega) (by rw [← hj]; exact hq i (by omega)) (by omega) d_Orb_content_24 ?_
    refine J_get C f_Orb_140 (by omega) (e_pk _ (by omega)) rfl d_Orb_content_25 ?_
    refine J_icmp_lt C 39 d_Orb_content_28 (by decide) (fun hc28 => ?_) (fun hc28 => ?_)
    · exact absurd hbad (by rintro (h | h) <;> first | contradiction | exact absurd h (Int32.not_le.mpr hc28))
    · exact J_throw C hfl rfl hnoh xcl_Orb_99 xin_IndexOutOfBoundsException xini_IndexOutOfBoundsException (by decide +kernel) (by decide +kernel) xat_Orb_101 (by decide) (Nat.le_of_ble_eq_true rfl) d_Orb_content_31 d_Orb_content_34 d_Orb_content_35 d_Orb_content_38
