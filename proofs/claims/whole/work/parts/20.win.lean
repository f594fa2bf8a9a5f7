def fOpen (t sh pe le : Int32) : Int32 := if 0 ≤ lg_cmp (t.toInt64 + sh.toInt64 - (t.toInt64 + sh.toInt64) / pe.toInt64 * pe.toInt64) le.toInt64 then 0 else 1
set_option maxHeartbeats 4000000 in
set_option maxRecDepth 100000 in
theorem p_isOpen_1 (l : Launch) (D : va_G) (dA : Nat → ClassId) (M : Mem) (t : Int32) (hp : ¬ (M 1 1).toInt64 = 0) : PT l D dA k_Win_isOpen 0 90 [.ref 1, .int t] (E M) (.int (fOpen t (M 1 0) (M 1 1) (M 1 2))) := by
  refine PT.of (by decide +kernel) (Nat.le_of_ble_eq_true rfl) (by intro v hv; simp only [List.mem_cons, List.not_mem_nil, or_false] at hv; rcases hv with rfl | rfl <;> rfl) ?_
  intro A ad0 p e s m args below meth c C hr
  refine J_iload_n C 1 d_Win_isOpen_0 rfl rfl ?_
  refine J_i2l C d_Win_isOpen_1 ?_
  refine J_aload_n C 0 d_Win_isOpen_2 rfl rfl ?_
  refine J_get C f_Win_7 (by decide) (e_1 _) rfl d_Win_isOpen_3 ?_
  refine J_i2l C d_Win_isOpen_6 ?_
  refine J_ladd C d_Win_isOpen_7 ?_
  refine J_aload_n C 0 d_Win_isOpen_8 rfl rfl ?_
  refine J_get C f_Win_13 (by decide) (e_1 _) rfl d_Win_isOpen_9 ?_
  refine J_i2l C d_Win_isOpen_12 ?_
  refine J_lrem C d_Win_isOpen_13 (by assumption) ?_
  refine J_aload_n C 0 d_Win_isOpen_14 rfl rfl ?_
  refine J_get C f_Win_16 (by decide) (e_1 _) rfl d_Win_isOpen_15 ?_
  refine J_i2l C d_Win_isOpen_18 ?_
  refine J_lcmp C d_Win_isOpen_19 ?_
  refine J_if_ge C 27 d_Win_isOpen_20 (by decide) (fun hc20 => ?_) (fun hc20 => ?_)
  · refine J_iconst C d_Win_isOpen_27 (v := nI 0) rfl ?_
    exact P_zretE C hr (Or.inl rfl) (by simp only [fOpen, hc20, if_true, if_false]; rfl) d_Win_isOpen_28
  · refine J_iconst C d_Win_isOpen_23 (v := nI 1) rfl ?_
    refine J_goto C 28 d_Win_isOpen_24 (by decide) ?_
    exact P_zretE C hr (Or.inr rfl) (by simp only [fOpen, hc20, if_true, if_false]; rfl) d_Win_isOpen_28

set_option maxHeartbeats 4000000 in
set_option maxRecDepth 100000 in
theorem f_set_1 (l : Launch) (D : va_G) (dA : Nat → ClassId) (M : Mem) (a b z : Int32) : CF l D dA k_Win_set 0 [.ref 1, .int a, .int b, .int z] M (none) (mu (mu (mu M 1 0 a) 1 1 b) 1 2 z) := by
  refine CF.of (by decide +kernel) (Nat.le_of_ble_eq_true rfl) (by intro v hv; simp only [List.mem_cons, List.not_mem_nil, or_false] at hv; rcases hv with rfl | rfl | rfl | rfl <;> rfl) ?_
  intro A ad0 p e s m args below meth c C hr
  refine J_aload_n C 0 d_Win_set_0 rfl rfl ?_
  refine J_iload_n C 1 d_Win_set_1 rfl rfl ?_
  refine K_putI C f_Win_7 (by decide) (e_1 _) (Nat.le_of_ble_eq_true rfl) rfl d_Win_set_2 (kk := ?_)
  refine J_aload_n C 0 d_Win_set_5 rfl rfl ?_
  refine J_iload_n C 2 d_Win_set_6 rfl rfl ?_
  refine K_putI C f_Win_13 (by decide) (e_1 _) (Nat.le_of_ble_eq_true rfl) rfl d_Win_set_7 (kk := ?_)
  refine J_aload_n C 0 d_Win_set_10 rfl rfl ?_
  refine J_iload_n C 3 d_Win_set_11 rfl rfl ?_
  refine K_putI C f_Win_16 (by decide) (e_1 _) (Nat.le_of_ble_eq_true rfl) rfl d_Win_set_12 (kk := ?_)
  exact F_ret C hr rfl d_Win_set_15

set_option maxHeartbeats 4000000 in
set_option maxRecDepth 100000 in
theorem p_isOpen_2 (l : Launch) (D : va_G) (dA : Nat → ClassId) (M : Mem) (t : Int32) (hp : ¬ (M 2 1).toInt64 = 0) : PT l D dA k_Win_isOpen 0 90 [.ref 2, .int t] (E M) (.int (fOpen t (M 2 0) (M 2 1) (M 2 2))) := by
  refine PT.of (by decide +kernel) (Nat.le_of_ble_eq_true rfl) (by intro v hv; simp only [List.mem_cons, List.not_mem_nil, or_false] at hv; rcases hv with rfl | rfl <;> rfl) ?_
  intro A ad0 p e s m args below meth c C hr
  refine J_iload_n C 1 d_Win_isOpen_0 rfl rfl ?_
  refine J_i2l C d_Win_isOpen_1 ?_
  refine J_aload_n C 0 d_Win_isOpen_2 rfl rfl ?_
  refine J_get C f_Win_7 (by decide) (e_2 _) rfl d_Win_isOpen_3 ?_
  refine J_i2l C d_Win_isOpen_6 ?_
  refine J_ladd C d_Win_isOpen_7 ?_
  refine J_aload_n C 0 d_Win_isOpen_8 rfl rfl ?_
  refine J_get C f_Win_13 (by decide) (e_2 _) rfl d_Win_isOpen_9 ?_
  refine J_i2l C d_Win_isOpen_12 ?_
  refine J_lrem C d_Win_isOpen_13 (by assumption) ?_
  refine J_aload_n C 0 d_Win_isOpen_14 rfl rfl ?_
  refine J_get C f_Win_16 (by decide) (e_2 _) rfl d_Win_isOpen_15 ?_
  refine J_i2l C d_Win_isOpen_18 ?_
  refine J_lcmp C d_Win_isOpen_19 ?_
  refine J_if_ge C 27 d_Win_isOpen_20 (by decide) (fun hc20 => ?_) (fun hc20 => ?_)
  · refine J_iconst C d_Win_isOpen_27 (v := nI 0) rfl ?_
    exact P_zretE C hr (Or.inl rfl) (by simp only [fOpen, hc20, if_true, if_false]; rfl) d_Win_isOpen_28
  · refine J_iconst C d_Win_isOpen_23 (v := nI 1) rfl ?_
    refine J_goto C 28 d_Win_isOpen_24 (by decide) ?_
    exact P_zretE C hr (Or.inr rfl) (by simp only [fOpen, hc20, if_true, if_false]; rfl) d_Win_isOpen_28

set_option maxHeartbeats 4000000 in
set_option maxRecDepth 100000 in
theorem f_set_2 (l : Launch) (D : va_G) (dA : Nat → ClassId) (M : Mem) (a b z : Int32) : CF l D dA k_Win_set 0 [.ref 2, .int a, .int b, .int z] M (none) (mu (mu (mu M 2 0 a) 2 1 b) 2 2 z) := by
  refine CF.of (by decide +kernel) (Nat.le_of_ble_eq_true rfl) (by intro v hv; simp only [List.mem_cons, List.not_mem_nil, or_false] at hv; rcases hv with rfl | rfl | rfl | rfl <;> rfl) ?_
  intro A ad0 p e s m args below meth c C hr
  refine J_aload_n C 0 d_Win_set_0 rfl rfl ?_
  refine J_iload_n C 1 d_Win_set_1 rfl rfl ?_
  refine K_putI C f_Win_7 (by decide) (e_2 _) (Nat.le_of_ble_eq_true rfl) rfl d_Win_set_2 (kk := ?_)
  refine J_aload_n C 0 d_Win_set_5 rfl rfl ?_
  refine J_iload_n C 2 d_Win_set_6 rfl rfl ?_
  refine K_putI C f_Win_13 (by decide) (e_2 _) (Nat.le_of_ble_eq_true rfl) rfl d_Win_set_7 (kk := ?_)
  refine J_aload_n C 0 d_Win_set_10 rfl rfl ?_
  refine J_iload_n C 3 d_Win_set_11 rfl rfl ?_
  refine K_putI C f_Win_16 (by decide) (e_2 _) (Nat.le_of_ble_eq_true rfl) rfl d_Win_set_12 (kk := ?_)
  exact F_ret C hr rfl d_Win_set_15
