theorem sw_out {x : Int32} (lo hi : Nat) (hb : hi < 2 ^ 31) (h : ∀ k, lo ≤ k → k ≤ hi → ¬ x = nI k) : x.toInt < ((lo : Nat) : Int) ∨ ((hi : Nat) : Int) < x.toInt := by
  rcases Int.lt_or_le x.toInt lo with h1 | h1
  · exact Or.inl h1
  · rcases Int.lt_or_le hi x.toInt with h2 | h2
    · exact Or.inr h2
    · exfalso
      refine h x.toInt.toNat (by omega) (by omega) ?_
      apply Int32.toInt_inj.mp
      rw [nI_toInt (by omega)]
      omega
set_option maxHeartbeats 4000000 in
set_option maxRecDepth 100000 in
theorem f_rangeCheck (l : Launch) (D : va_G) (dA : Nat → ClassId) (M : Mem) (a b d0 : Nat) (h1 : b ≤ d0) (h2 : d0 ≤ a) (ha : a < 1000) : CF l D dA k_Arr_rangeCheck 0 [.int (nI a), .int (nI b), .int (nI d0)] M (none) (M) := by
  refine CF.of (by decide +kernel) (Nat.le_of_ble_eq_true rfl) (by intro v hv; simp only [List.mem_cons, List.not_mem_nil, or_false] at hv; rcases hv with rfl | rfl | rfl <;> rfl) ?_
  intro A ad0 p e s m args below meth c C hr
  refine J_iload_n C 1 d_Arr_rangeCheck_0 rfl rfl ?_
  refine J_iload_n C 2 d_Arr_rangeCheck_1 rfl rfl ?_
  refine J_icmpN_le C 46 d_Arr_rangeCheck_2 (by decide) (by omega) (by omega) (fun hc2 => ?_) (fun hc2 => absurd hc2 (by omega))
  refine J_iload_n C 1 d_Arr_rangeCheck_46 rfl rfl ?_
  refine J_ifN_ge C d_Arr_rangeCheck_47 59 (by decide) (by omega) ?_
  refine J_iload_n C 2 d_Arr_rangeCheck_59 rfl rfl ?_
  refine J_iload_n C 0 d_Arr_rangeCheck_60 rfl rfl ?_
  refine J_icmpN_le C 73 d_Arr_rangeCheck_61 (by decide) (by omega) (by omega) (fun hc61 => ?_) (fun hc61 => absurd hc61 (by omega))
  exact F_ret C hr rfl d_Arr_rangeCheck_73

def fFil (v : Int32) : Nat → Nat → Mem → Mem
  | 0, _, M => M
  | r + 1, i, M => fFil v r (i + 1) (mu M 74 i v)
set_option maxHeartbeats 4000000 in
set_option maxRecDepth 100000 in
theorem f_fill (l : Launch) (D : va_G) (dA : Nat → ClassId) (M : Mem) : CF l D dA k_Arr_fill 1 [.ref 74, .int (nI 8), .int (nI 30), .int (nI 85)] M (none) (fFil (nI 85) 22 8 M) := by
  refine CF.of (by decide +kernel) (Nat.le_of_ble_eq_true rfl) (by intro v hv; simp only [List.mem_cons, List.not_mem_nil, or_false] at hv; rcases hv with rfl | rfl | rfl | rfl <;> rfl) ?_
  intro A ad0 p e s m args below meth c C hr
  refine J_aload_n C 0 d_Arr_fill_0 rfl rfl ?_
  refine K_alen C a_74 d_Arr_fill_1 ?_
  refine J_iload_n C 1 d_Arr_fill_2 rfl rfl ?_
  refine J_iload_n C 2 d_Arr_fill_3 rfl rfl ?_
  refine F_callS C (as := [.int (nI 32), .int (nI 8), .int (nI 30)]) (st := []) (f_rangeCheck l D dA M 32 8 30 (by omega) (by omega) (by omega)) l_Arr_13 s_Arr_rangeCheck rfl (by decide) (by decide) (Nat.le_of_ble_eq_true rfl) d_Arr_fill_4 (kk := ?_)
  refine J_iload_n C 1 d_Arr_fill_7 rfl rfl ?_
  refine J_istore C d_Arr_fill_8 (by decide) rfl ?_
  generalize hM9 : fFil (nI 85) 22 8 M = M9
  have lp : ∀ (fu : Nat) (i : Nat) (M : Mem), 30 - i < fu → (i ≤ 30) → (fFil (nI 85) (30 - i) i M = M9) → J D dA A (fun _ _ => True) ad0 90 k_Arr_fill.2.2.1 p l e (zR 1 0 0) s m args below meth c (FQ D dA A ad0 below args s (none) (M9)) 10 [some (.ref 74), some (.int (nI 8)), some (.int (nI 30)), some (.int (nI 85)), some (.int (nI i))] [] (E M) 90 0 0 := by
    intro fu
    induction fu with
    | zero => intro i M hfu; exact absurd hfu (Nat.not_lt_zero _)
    | succ fu ih =>
      intro i M hfu hi hF
      refine J_iload C d_Arr_fill_10 rfl ?_
      refine J_iload_n C 2 d_Arr_fill_12 rfl rfl ?_
      refine J_icmpN_ge C 27 d_Arr_fill_13 (by decide) (by omega) (by omega) (fun hc13 => ?_) (fun hc13 => ?_)
      · exact F_ret C hr (by rw [show 30 - i = 0 by omega] at hF; exact hF) d_Arr_fill_27
      · refine J_aload_n C 0 d_Arr_fill_16 rfl rfl ?_
        refine J_iload C d_Arr_fill_17 rfl ?_
        refine J_iload_n C 3 d_Arr_fill_19 rfl rfl ?_
        refine K_ias C a_74 (j := i) rfl (by omega) d_Arr_fill_20 (kk := ?_)
        refine J_iinc C d_Arr_fill_21 rfl (v := nI (i + 1)) (nI_1 _) (by decide) rfl ?_
        refine J_goto C 10 d_Arr_fill_24 (by decide) ?_
        exact ih (i + 1) _ (by omega) (by omega) (by rw [show 30 - i = (30 - (i + 1)) + 1 by omega] at hF; exact hF)
  exact lp 23 8 M (by omega) (by omega) hM9

set_option maxHeartbeats 4000000 in
set_option maxRecDepth 100000 in
theorem p_hasByte (l : Launch) (D : va_G) (dA : Nat → ClassId) (M : Mem) (i : Int32) : PT l D dA k_Ear_hasByte 0 90 [.ref 73, .int i] (E M) (.int (if M 73 2 = 0 then 0 else if i < 0 then 0 else if nI 32 ≤ i then 0 else 1)) := by
  refine PT.of (by decide +kernel) (Nat.le_of_ble_eq_true rfl) (by intro v hv; simp only [List.mem_cons, List.not_mem_nil, or_false] at hv; rcases hv with rfl | rfl <;> rfl) ?_
  intro A ad0 p e s m args below meth c C hr
  refine J_aload_n C 0 d_Ear_hasByte_0 rfl rfl ?_
  refine J_get C f_Ear_18 (by decide) (e_73 _) rfl d_Ear_hasByte_1 ?_
  refine J_if_eq C 21 d_Ear_hasByte_4 (by decide) (fun hc4 => ?_) (fun hc4 => ?_)
  · refine J_iconst C d_Ear_hasByte_21 (v := nI 0) rfl ?_
    exact P_zretE C hr (Or.inl rfl) (by simp only [hc4, if_true, if_false]; try rfl) d_Ear_hasByte_22
  · refine J_iload_n C 1 d_Ear_hasByte_7 rfl rfl ?_
    refine J_if_lt C 21 d_Ear_hasByte_8 (by decide) (fun hc8 => ?_) (fun hc8 => ?_)
    · refine J_iconst C d_Ear_hasByte_21 (v := nI 0) rfl ?_
      exact P_zretE C hr (Or.inl rfl) (by simp only [hc4, hc8, if_true, if_false]; try rfl) d_Ear_hasByte_22
    · refine J_iload_n C 1 d_Ear_hasByte_11 rfl rfl ?_
      refine J_bipush C d_Ear_hasByte_12 (v := nI 32) rfl ?_
      refine J_icmp_ge C 21 d_Ear_hasByte_14 (by decide) (fun hc14 => ?_) (fun hc14 => ?_)
      · refine J_iconst C d_Ear_hasByte_21 (v := nI 0) rfl ?_
        exact P_zretE C hr (Or.inl rfl) (by simp only [hc4, hc8, hc14, if_true, if_false]; try rfl) d_Ear_hasByte_22
      · refine J_iconst C d_Ear_hasByte_17 (v := nI 1) rfl ?_
        refine J_goto C 22 d_Ear_hasByte_18 (by decide) ?_
        exact P_zretE C hr (Or.inr rfl) (by simp only [hc4, hc8, hc14, if_true, if_false]; try rfl) d_Ear_hasByte_22

def fPN (M : Mem) (at0 : Nat) (x : Int32) : Nat → Mem
  | 0 => M
  | 1 => mu M 74 (at0 + 0) (ush x (nI 0) &&& nI 255)
  | 2 => mu (mu M 74 (at0 + 0) (ush x (nI 8) &&& nI 255)) 74 (at0 + 1) (ush x (nI 0) &&& nI 255)
  | _ => mu (mu (mu M 74 (at0 + 0) (ush x (nI 16) &&& nI 255)) 74 (at0 + 1) (ush x (nI 8) &&& nI 255)) 74 (at0 + 2) (ush x (nI 0) &&& nI 255)
set_option maxHeartbeats 4000000 in
set_option maxRecDepth 100000 in
theorem f_putNumber1 (l : Launch) (D : va_G) (dA : Nat → ClassId) (M : Mem) (x : Int32) (at0 : Nat) (ha : at0 + 1 ≤ 32) : CF l D dA k_Ear_putNumber 0 [.ref 73, .int x, .int (nI at0), .int (nI 1)] M (none) (fPN M at0 x 1) := by
  refine CF.of (by decide +kernel) (Nat.le_of_ble_eq_true rfl) (by intro v hv; simp only [List.mem_cons, List.not_mem_nil, or_false] at hv; rcases hv with rfl | rfl | rfl | rfl <;> rfl) ?_
  intro A ad0 p e s m args below meth c C hr
  refine J_iconst C d_Ear_putNumber_0 (v := nI 0) rfl ?_
  refine J_istore C d_Ear_putNumber_1 (by decide) rfl ?_
  refine J_iload C d_Ear_putNumber_3 rfl ?_
  refine J_iload_n C 3 d_Ear_putNumber_5 rfl rfl ?_
  refine J_icmpN_ge C 39 d_Ear_putNumber_6 (by decide) (by omega) (by omega) (fun hc6 => absurd hc6 (by decide)) (fun hc6 => ?_)
  refine J_aload_n C 0 d_Ear_putNumber_9 rfl rfl ?_
  refine J_get C f_Ear_11 (by decide) (e_73 _) rfl d_Ear_putNumber_10 ?_
  refine J_iload_n C 2 d_Ear_putNumber_13 rfl rfl ?_
  refine J_iload C d_Ear_putNumber_14 rfl ?_
  refine J_iaddN C d_Ear_putNumber_16 ?_
  refine J_iload_n C 1 d_Ear_putNumber_17 rfl rfl ?_
  refine J_bipush C d_Ear_putNumber_18 (v := nI 8) rfl ?_
  refine J_iload_n C 3 d_Ear_putNumber_20 rfl rfl ?_
  refine J_iconst C d_Ear_putNumber_21 (v := nI 1) rfl ?_
  refine J_isubN C d_Ear_putNumber_22 (by omega) ?_
  refine J_val (y := nI 0) rfl ?_
  refine J_iload C d_Ear_putNumber_23 rfl ?_
  refine J_isubN C d_Ear_putNumber_25 (by omega) ?_
  refine J_val (y := nI 0) rfl ?_
  refine J_imulN C d_Ear_putNumber_26 ?_
  refine J_val (y := nI 0) rfl ?_
  refine J_iushr C d_Ear_putNumber_27 rfl ?_
  refine J_sipush C d_Ear_putNumber_28 (v := nI 255) rfl ?_
  refine J_iand C d_Ear_putNumber_31 ?_
  refine K_ias C a_74 (j := at0 + 0) rfl (by omega) d_Ear_putNumber_32 (kk := ?_)
  refine J_iinc C d_Ear_putNumber_33 rfl (v := nI 1) rfl (by decide) rfl ?_
  refine J_goto C 3 d_Ear_putNumber_36 (by decide) ?_
  refine J_iload C d_Ear_putNumber_3 rfl ?_
  refine J_iload_n C 3 d_Ear_putNumber_5 rfl rfl ?_
  refine J_icmpN_ge C 39 d_Ear_putNumber_6 (by decide) (by omega) (by omega) (fun hc6 => ?_) (fun hc6 => absurd hc6 (by decide))
  exact F_ret C hr rfl d_Ear_putNumber_39

set_option maxHeartbeats 4000000 in
set_option maxRecDepth 100000 in
theorem f_putNumber2 (l : Launch) (D : va_G) (dA : Nat → ClassId) (M : Mem) (x : Int32) (at0 : Nat) (ha : at0 + 2 ≤ 32) : CF l D dA k_Ear_putNumber 0 [.ref 73, .int x, .int (nI at0), .int (nI 2)] M (none) (fPN M at0 x 2) := by
  refine CF.of (by decide +kernel) (Nat.le_of_ble_eq_true rfl) (by intro v hv; simp only [List.mem_cons, List.not_mem_nil, or_false] at hv; rcases hv with rfl | rfl | rfl | rfl <;> rfl) ?_
  intro A ad0 p e s m args below meth c C hr
  refine J_iconst C d_Ear_putNumber_0 (v := nI 0) rfl ?_
  refine J_istore C d_Ear_putNumber_1 (by decide) rfl ?_
  refine J_iload C d_Ear_putNumber_3 rfl ?_
  refine J_iload_n C 3 d_Ear_putNumber_5 rfl rfl ?_
  refine J_icmpN_ge C 39 d_Ear_putNumber_6 (by decide) (by omega) (by omega) (fun hc6 => absurd hc6 (by decide)) (fun hc6 => ?_)
  refine J_aload_n C 0 d_Ear_putNumber_9 rfl rfl ?_
  refine J_get C f_Ear_11 (by decide) (e_73 _) rfl d_Ear_putNumber_10 ?_
  refine J_iload_n C 2 d_Ear_putNumber_13 rfl rfl ?_
  refine J_iload C d_Ear_putNumber_14 rfl ?_
  refine J_iaddN C d_Ear_putNumber_16 ?_
  refine J_iload_n C 1 d_Ear_putNumber_17 rfl rfl ?_
  refine J_bipush C d_Ear_putNumber_18 (v := nI 8) rfl ?_
  refine J_iload_n C 3 d_Ear_putNumber_20 rfl rfl ?_
  refine J_iconst C d_Ear_putNumber_21 (v := nI 1) rfl ?_
  refine J_isubN C d_Ear_putNumber_22 (by omega) ?_
  refine J_val (y := nI 1) rfl ?_
  refine J_iload C d_Ear_putNumber_23 rfl ?_
  refine J_isubN C d_Ear_putNumber_25 (by omega) ?_
  refine J_val (y := nI 1) rfl ?_
  refine J_imulN C d_Ear_putNumber_26 ?_
  refine J_val (y := nI 8) rfl ?_
  refine J_iushr C d_Ear_putNumber_27 rfl ?_
  refine J_sipush C d_Ear_putNumber_28 (v := nI 255) rfl ?_
  refine J_iand C d_Ear_putNumber_31 ?_
  refine K_ias C a_74 (j := at0 + 0) rfl (by omega) d_Ear_putNumber_32 (kk := ?_)
  refine J_iinc C d_Ear_putNumber_33 rfl (v := nI 1) rfl (by decide) rfl ?_
  refine J_goto C 3 d_Ear_putNumber_36 (by decide) ?_
  refine J_iload C d_Ear_putNumber_3 rfl ?_
  refine J_iload_n C 3 d_Ear_putNumber_5 rfl rfl ?_
  refine J_icmpN_ge C 39 d_Ear_putNumber_6 (by decide) (by omega) (by omega) (fun hc6 => absurd hc6 (by decide)) (fun hc6 => ?_)
  refine J_aload_n C 0 d_Ear_putNumber_9 rfl rfl ?_
  refine J_get C f_Ear_11 (by decide) (e_73 _) rfl d_Ear_putNumber_10 ?_
  refine J_iload_n C 2 d_Ear_putNumber_13 rfl rfl ?_
  refine J_iload C d_Ear_putNumber_14 rfl ?_
  refine J_iaddN C d_Ear_putNumber_16 ?_
  refine J_iload_n C 1 d_Ear_putNumber_17 rfl rfl ?_
  refine J_bipush C d_Ear_putNumber_18 (v := nI 8) rfl ?_
  refine J_iload_n C 3 d_Ear_putNumber_20 rfl rfl ?_
  refine J_iconst C d_Ear_putNumber_21 (v := nI 1) rfl ?_
  refine J_isubN C d_Ear_putNumber_22 (by omega) ?_
  refine J_val (y := nI 1) rfl ?_
  refine J_iload C d_Ear_putNumber_23 rfl ?_
  refine J_isubN C d_Ear_putNumber_25 (by omega) ?_
  refine J_val (y := nI 0) rfl ?_
  refine J_imulN C d_Ear_putNumber_26 ?_
  refine J_val (y := nI 0) rfl ?_
  refine J_iushr C d_Ear_putNumber_27 rfl ?_
  refine J_sipush C d_Ear_putNumber_28 (v := nI 255) rfl ?_
  refine J_iand C d_Ear_putNumber_31 ?_
  refine K_ias C a_74 (j := at0 + 1) rfl (by omega) d_Ear_putNumber_32 (kk := ?_)
  refine J_iinc C d_Ear_putNumber_33 rfl (v := nI 2) rfl (by decide) rfl ?_
  refine J_goto C 3 d_Ear_putNumber_36 (by decide) ?_
  refine J_iload C d_Ear_putNumber_3 rfl ?_
  refine J_iload_n C 3 d_Ear_putNumber_5 rfl rfl ?_
  refine J_icmpN_ge C 39 d_Ear_putNumber_6 (by decide) (by omega) (by omega) (fun hc6 => ?_) (fun hc6 => absurd hc6 (by decide))
  exact F_ret C hr rfl d_Ear_putNumber_39

set_option maxHeartbeats 4000000 in
set_option maxRecDepth 100000 in
theorem f_putNumber3 (l : Launch) (D : va_G) (dA : Nat → ClassId) (M : Mem) (x : Int32) (at0 : Nat) (ha : at0 + 3 ≤ 32) : CF l D dA k_Ear_putNumber 0 [.ref 73, .int x, .int (nI at0), .int (nI 3)] M (none) (fPN M at0 x 3) := by
  refine CF.of (by decide +kernel) (Nat.le_of_ble_eq_true rfl) (by intro v hv; simp only [List.mem_cons, List.not_mem_nil, or_false] at hv; rcases hv with rfl | rfl | rfl | rfl <;> rfl) ?_
  intro A ad0 p e s m args below meth c C hr
  refine J_iconst C d_Ear_putNumber_0 (v := nI 0) rfl ?_
  refine J_istore C d_Ear_putNumber_1 (by decide) rfl ?_
  refine J_iload C d_Ear_putNumber_3 rfl ?_
  refine J_iload_n C 3 d_Ear_putNumber_5 rfl rfl ?_
  refine J_icmpN_ge C 39 d_Ear_putNumber_6 (by decide) (by omega) (by omega) (fun hc6 => absurd hc6 (by decide)) (fun hc6 => ?_)
  refine J_aload_n C 0 d_Ear_putNumber_9 rfl rfl ?_
  refine J_get C f_Ear_11 (by decide) (e_73 _) rfl d_Ear_putNumber_10 ?_
  refine J_iload_n C 2 d_Ear_putNumber_13 rfl rfl ?_
  refine J_iload C d_Ear_putNumber_14 rfl ?_
  refine J_iaddN C d_Ear_putNumber_16 ?_
  refine J_iload_n C 1 d_Ear_putNumber_17 rfl rfl ?_
  refine J_bipush C d_Ear_putNumber_18 (v := nI 8) rfl ?_
  refine J_iload_n C 3 d_Ear_putNumber_20 rfl rfl ?_
  refine J_iconst C d_Ear_putNumber_21 (v := nI 1) rfl ?_
  refine J_isubN C d_Ear_putNumber_22 (by omega) ?_
  refine J_val (y := nI 2) rfl ?_
  refine J_iload C d_Ear_putNumber_23 rfl ?_
  refine J_isubN C d_Ear_putNumber_25 (by omega) ?_
  refine J_val (y := nI 2) rfl ?_
  refine J_imulN C d_Ear_putNumber_26 ?_
  refine J_val (y := nI 16) rfl ?_
  refine J_iushr C d_Ear_putNumber_27 rfl ?_
  refine J_sipush C d_Ear_putNumber_28 (v := nI 255) rfl ?_
  refine J_iand C d_Ear_putNumber_31 ?_
  refine K_ias C a_74 (j := at0 + 0) rfl (by omega) d_Ear_putNumber_32 (kk := ?_)
  refine J_iinc C d_Ear_putNumber_33 rfl (v := nI 1) rfl (by decide) rfl ?_
  refine J_goto C 3 d_Ear_putNumber_36 (by decide) ?_
  refine J_iload C d_Ear_putNumber_3 rfl ?_
  refine J_iload_n C 3 d_Ear_putNumber_5 rfl rfl ?_
  refine J_icmpN_ge C 39 d_Ear_putNumber_6 (by decide) (by omega) (by omega) (fun hc6 => absurd hc6 (by decide)) (fun hc6 => ?_)
  refine J_aload_n C 0 d_Ear_putNumber_9 rfl rfl ?_
  refine J_get C f_Ear_11 (by decide) (e_73 _) rfl d_Ear_putNumber_10 ?_
  refine J_iload_n C 2 d_Ear_putNumber_13 rfl rfl ?_
  refine J_iload C d_Ear_putNumber_14 rfl ?_
  refine J_iaddN C d_Ear_putNumber_16 ?_
  refine J_iload_n C 1 d_Ear_putNumber_17 rfl rfl ?_
  refine J_bipush C d_Ear_putNumber_18 (v := nI 8) rfl ?_
  refine J_iload_n C 3 d_Ear_putNumber_20 rfl rfl ?_
  refine J_iconst C d_Ear_putNumber_21 (v := nI 1) rfl ?_
  refine J_isubN C d_Ear_putNumber_22 (by omega) ?_
  refine J_val (y := nI 2) rfl ?_
  refine J_iload C d_Ear_putNumber_23 rfl ?_
  refine J_isubN C d_Ear_putNumber_25 (by omega) ?_
  refine J_val (y := nI 1) rfl ?_
  refine J_imulN C d_Ear_putNumber_26 ?_
  refine J_val (y := nI 8) rfl ?_
  refine J_iushr C d_Ear_putNumber_27 rfl ?_
  refine J_sipush C d_Ear_putNumber_28 (v := nI 255) rfl ?_
  refine J_iand C d_Ear_putNumber_31 ?_
  refine K_ias C a_74 (j := at0 + 1) rfl (by omega) d_Ear_putNumber_32 (kk := ?_)
  refine J_iinc C d_Ear_putNumber_33 rfl (v := nI 2) rfl (by decide) rfl ?_
  refine J_goto C 3 d_Ear_putNumber_36 (by decide) ?_
  refine J_iload C d_Ear_putNumber_3 rfl ?_
  refine J_iload_n C 3 d_Ear_putNumber_5 rfl rfl ?_
  refine J_icmpN_ge C 39 d_Ear_putNumber_6 (by decide) (by omega) (by omega) (fun hc6 => absurd hc6 (by decide)) (fun hc6 => ?_)
  refine J_aload_n C 0 d_Ear_putNumber_9 rfl rfl ?_
  refine J_get C f_Ear_11 (by decide) (e_73 _) rfl d_Ear_putNumber_10 ?_
  refine J_iload_n C 2 d_Ear_putNumber_13 rfl rfl ?_
  refine J_iload C d_Ear_putNumber_14 rfl ?_
  refine J_iaddN C d_Ear_putNumber_16 ?_
  refine J_iload_n C 1 d_Ear_putNumber_17 rfl rfl ?_
  refine J_bipush C d_Ear_putNumber_18 (v := nI 8) rfl ?_
  refine J_iload_n C 3 d_Ear_putNumber_20 rfl rfl ?_
  refine J_iconst C d_Ear_putNumber_21 (v := nI 1) rfl ?_
  refine J_isubN C d_Ear_putNumber_22 (by omega) ?_
  refine J_val (y := nI 2) rfl ?_
  refine J_iload C d_Ear_putNumber_23 rfl ?_
  refine J_isubN C d_Ear_putNumber_25 (by omega) ?_
  refine J_val (y := nI 0) rfl ?_
  refine J_imulN C d_Ear_putNumber_26 ?_
  refine J_val (y := nI 0) rfl ?_
  refine J_iushr C d_Ear_putNumber_27 rfl ?_
  refine J_sipush C d_Ear_putNumber_28 (v := nI 255) rfl ?_
  refine J_iand C d_Ear_putNumber_31 ?_
  refine K_ias C a_74 (j := at0 + 2) rfl (by omega) d_Ear_putNumber_32 (kk := ?_)
  refine J_iinc C d_Ear_putNumber_33 rfl (v := nI 3) rfl (by decide) rfl ?_
  refine J_goto C 3 d_Ear_putNumber_36 (by decide) ?_
  refine J_iload C d_Ear_putNumber_3 rfl ?_
  refine J_iload_n C 3 d_Ear_putNumber_5 rfl rfl ?_
  refine J_icmpN_ge C 39 d_Ear_putNumber_6 (by decide) (by omega) (by omega) (fun hc6 => ?_) (fun hc6 => absurd hc6 (by decide))
  exact F_ret C hr rfl d_Ear_putNumber_39

def PtW (pt pl em : Nat) : Nat := if em = 0 then (if pt = 2046 then pl else if pt = 2047 then pl else pt) else (if pt = 2046 then 2047 else if pt = 2047 then 2047 else pt)
theorem PtW_lt {pt pl em : Nat} (h1 : pt < 2048) (h2 : pl < 2048) : PtW pt pl em < 2048 := by unfold PtW; (repeat' split) <;> omega
set_option maxHeartbeats 4000000 in
set_option maxRecDepth 100000 in
theorem p_pointerWith (l : Launch) (D : va_G) (dA : Nat → ClassId) (M : Mem) (j pl pt em : Nat) (hj : j < 24) (he : M (7 + 2 * j) 4 = nI em) (he2 : em < 1000) (hpl : pl < 2048) (hpt : pt < 2048) : PT l D dA k_Ear_pointerWith 0 90 [.ref (7 + 2 * j), .int (nI pl), .int (nI pt)] (E M) (.int (nI (PtW pt pl em))) := by
  refine PT.of (by decide +kernel) (Nat.le_of_ble_eq_true rfl) (by intro v hv; simp only [List.mem_cons, List.not_mem_nil, or_false] at hv; rcases hv with rfl | rfl | rfl <;> rfl) ?_
  intro A ad0 p e s m args below meth c C hr
  refine J_iload_n C 2 d_Ear_pointerWith_0 rfl rfl ?_
  refine J_sipush C d_Ear_pointerWith_1 (v := nI 2046) rfl ?_
  refine J_icmpN_eq C 14 d_Ear_pointerWith_4 (by decide) (by omega) (by omega) (fun hc4 => ?_) (fun hc4 => ?_)
  · refine J_iconst C d_Ear_pointerWith_14 (v := nI 1) rfl ?_
    refine J_goto C 19 d_Ear_pointerWith_15 (by decide) ?_
    refine J_istore_n C 3 d_Ear_pointerWith_19 rfl (by decide) rfl ?_
    refine J_aload_n C 0 d_Ear_pointerWith_20 rfl rfl ?_
    refine J_get C f_Ear_67 (by omega) (e_pk _ (by omega)) rfl d_Ear_pointerWith_21 ?_
    refine J_val (y := nI em) he ?_
    refine J_ifN_ne C 37 d_Ear_pointerWith_24 (by decide) (by omega) (fun hc24 => ?_) (fun hc24 => ?_)
    · refine J_iload_n C 3 d_Ear_pointerWith_37 rfl rfl ?_
      refine J_ifN_eq C 47 d_Ear_pointerWith_38 (by decide) (by omega) (fun hc38 => absurd hc38 (by decide)) (fun hc38 => ?_)
      refine J_sipush C d_Ear_pointerWith_41 (v := nI 2047) rfl ?_
      refine J_goto C 48 d_Ear_pointerWith_44 (by decide) ?_
      exact P_iretE C hr (by unfold PtW; (repeat' split) <;> first | contradiction | (exfalso; omega) | rfl) d_Ear_pointerWith_48
    · refine J_iload_n C 3 d_Ear_pointerWith_27 rfl rfl ?_
      refine J_ifN_eq C 35 d_Ear_pointerWith_28 (by decide) (by omega) (fun hc28 => absurd hc28 (by decide)) (fun hc28 => ?_)
      refine J_iload_n C 1 d_Ear_pointerWith_31 rfl rfl ?_
      refine J_goto C 36 d_Ear_pointerWith_32 (by decide) ?_
      exact P_iretE C hr (by unfold PtW; (repeat' split) <;> first | contradiction | (exfalso; omega) | rfl) d_Ear_pointerWith_36
  · refine J_iload_n C 2 d_Ear_pointerWith_7 rfl rfl ?_
    refine J_sipush C d_Ear_pointerWith_8 (v := nI 2047) rfl ?_
    refine J_icmpN_ne C 18 d_Ear_pointerWith_11 (by decide) (by omega) (by omega) (fun hc11 => ?_) (fun hc11 => ?_)
    · refine J_iconst C d_Ear_pointerWith_18 (v := nI 0) rfl ?_
      refine J_istore_n C 3 d_Ear_pointerWith_19 rfl (by decide) rfl ?_
      refine J_aload_n C 0 d_Ear_pointerWith_20 rfl rfl ?_
      refine J_get C f_Ear_67 (by omega) (e_pk _ (by omega)) rfl d_Ear_pointerWith_21 ?_
      refine J_val (y := nI em) he ?_
      refine J_ifN_ne C 37 d_Ear_pointerWith_24 (by decide) (by omega) (fun hc24 => ?_) (fun hc24 => ?_)
      · refine J_iload_n C 3 d_Ear_pointerWith_37 rfl rfl ?_
        refine J_ifN_eq C 47 d_Ear_pointerWith_38 (by decide) (by omega) (fun hc38 => ?_) (fun hc38 => absurd hc38 (by decide))
        refine J_iload_n C 2 d_Ear_pointerWith_47 rfl rfl ?_
        exact P_iretE C hr (by unfold PtW; (repeat' split) <;> first | contradiction | (exfalso; omega) | rfl) d_Ear_pointerWith_48
      · refine J_iload_n C 3 d_Ear_pointerWith_27 rfl rfl ?_
        refine J_ifN_eq C 35 d_Ear_pointerWith_28 (by decide) (by omega) (fun hc28 => ?_) (fun hc28 => absurd hc28 (by decide))
        refine J_iload_n C 2 d_Ear_pointerWith_35 rfl rfl ?_
        exact P_iretE C hr (by unfold PtW; (repeat' split) <;> first | contradiction | (exfalso; omega) | rfl) d_Ear_pointerWith_36
    · refine J_iconst C d_Ear_pointerWith_14 (v := nI 1) rfl ?_
      refine J_goto C 19 d_Ear_pointerWith_15 (by decide) ?_
      refine J_istore_n C 3 d_Ear_pointerWith_19 rfl (by decide) rfl ?_
      refine J_aload_n C 0 d_Ear_pointerWith_20 rfl rfl ?_
      refine J_get C f_Ear_67 (by omega) (e_pk _ (by omega)) rfl d_Ear_pointerWith_21 ?_
      refine J_val (y := nI em) he ?_
      refine J_ifN_ne C 37 d_Ear_pointerWith_24 (by decide) (by omega) (fun hc24 => ?_) (fun hc24 => ?_)
      · refine J_iload_n C 3 d_Ear_pointerWith_37 rfl rfl ?_
        refine J_ifN_eq C 47 d_Ear_pointerWith_38 (by decide) (by omega) (fun hc38 => absurd hc38 (by decide)) (fun hc38 => ?_)
        refine J_sipush C d_Ear_pointerWith_41 (v := nI 2047) rfl ?_
        refine J_goto C 48 d_Ear_pointerWith_44 (by decide) ?_
        exact P_iretE C hr (by unfold PtW; (repeat' split) <;> first | contradiction | (exfalso; omega) | rfl) d_Ear_pointerWith_48
      · refine J_iload_n C 3 d_Ear_pointerWith_27 rfl rfl ?_
        refine J_ifN_eq C 35 d_Ear_pointerWith_28 (by decide) (by omega) (fun hc28 => absurd hc28 (by decide)) (fun hc28 => ?_)
        refine J_iload_n C 1 d_Ear_pointerWith_31 rfl rfl ?_
        refine J_goto C 36 d_Ear_pointerWith_32 (by decide) ?_
        exact P_iretE C hr (by unfold PtW; (repeat' split) <;> first | contradiction | (exfalso; omega) | rfl) d_Ear_pointerWith_36

def fEmP (g : Nat → Int32) (j : Nat) : Nat → Nat → Nat → Mem → Mem
  | 0, _, _, M => M
  | r + 1, a, em, M => fEmP g j r (a + 1) (em + 1) (mu (mu M 74 a (g em)) (7 + 2 * j) 4 (nI (em + 1)))
set_option maxHeartbeats 4000000 in
set_option maxRecDepth 100000 in
theorem f_emitPart (l : Launch) (D : va_G) (dA : Nat → ClassId) (M : Mem) (j a0 em0 L : Nat) (b : Nat → Nat) (g : Nat → Int32) (hj : j < 24) (ha : a0 ≤ 30) (hem : em0 ≤ L) (hL60 : L ≤ 60) (he : M (7 + 2 * j) 4 = nI em0) (hL : M (7 + 2 * j) 2 = nI L) (hb : ∀ k, k < 3 → M (8 + 2 * j) k = nI (b k)) (hb2 : ∀ k, k < 3 → b k < 24) (hg : ∀ k, k < L → M 4 (b (k / 20) * 20 + k % 20) = g k) : CF l D dA k_Ear_emitPart 1 [.ref 73, .ref (7 + 2 * j), .int (nI a0), .ref 3] M (some (.int (nI (a0 + min (30 - a0) (L - em0))))) (fEmP g j (min (30 - a0) (L - em0)) a0 em0 M) := by
  refine CF.of (by decide +kernel) (Nat.le_of_ble_eq_true rfl) (by intro v hv; simp only [List.mem_cons, List.not_mem_nil, or_false] at hv; rcases hv with rfl | rfl | rfl | rfl <;> rfl) ?_
  intro A ad0 p e s m args below meth c C hr
  refine J_iload_n C 2 d_Ear_emitPart_0 rfl rfl ?_
  refine J_istore C d_Ear_emitPart_1 (by decide) rfl ?_
  generalize hM9 : fEmP g j (min (30 - a0) (L - em0)) a0 em0 M = M9
  have lp : ∀ (fu : Nat) (a : Nat) (em : Nat) (M : Mem), 30 - a < fu → (a ≤ 30) → (em ≤ L) → (a + min (30 - a) (L - em) = a0 + min (30 - a0) (L - em0)) → (M (7 + 2 * j) 4 = nI em) → (M (7 + 2 * j) 2 = nI L) → (∀ k, k < 3 → M (8 + 2 * j) k = nI (b k)) → (∀ k, k < L → M 4 (b (k / 20) * 20 + k % 20) = g k) → (fEmP g j (min (30 - a) (L - em)) a em M = M9) → J D dA A (fun _ _ => True) ad0 90 k_Ear_emitPart.2.2.1 p l e (zR 1 0 0) s m args below meth c (FQ D dA A ad0 below args s (some (.int (nI (a0 + min (30 - a0) (L - em0))))) (M9)) 3 [some (.ref 73), some (.ref (7 + 2 * j)), some (.int (nI a0)), some (.ref 3), some (.int (nI a))] [] (E M) 90 0 0 := by
    intro fu
    induction fu with
    | zero => intro a em M hfu; exact absurd hfu (Nat.not_lt_zero _)
    | succ fu ih =>
      intro a em M hfu ha hem hs he hL hb hg hF
      refine J_iload C d_Ear_emitPart_3 rfl ?_
      refine J_bipush C d_Ear_emitPart_5 (v := nI 30) rfl ?_
      refine J_icmpN_ge C 53 d_Ear_emitPart_7 (by decide) (by omega) (by omega) (fun hc7 => ?_) (fun hc7 => ?_)
      · refine J_iload C d_Ear_emitPart_53 rfl ?_
        exact F_iret C hr (by congr 1; omega) (by rw [show min (30 - a) (L - em) = 0 by omega] at hF; exact hF) d_Ear_emitPart_55
      · refine J_aload_n C 1 d_Ear_emitPart_10 rfl rfl ?_
        refine J_get C f_Ear_67 (by omega) (e_pk _ (by omega)) rfl d_Ear_emitPart_11 ?_
        refine J_val (y := nI em) he ?_
        refine J_aload_n C 1 d_Ear_emitPart_14 rfl rfl ?_
        refine J_get C f_Ear_70 (by omega) (e_pk _ (by omega)) rfl d_Ear_emitPart_15 ?_
        refine J_val (y := nI L) hL ?_
        refine J_icmpN_ge C 53 d_Ear_emitPart_18 (by decide) (by omega) (by omega) (fun hc18 => ?_) (fun hc18 => ?_)
        · refine J_iload C d_Ear_emitPart_53 rfl ?_
          exact F_iret C hr (by congr 1; omega) (by rw [show min (30 - a) (L - em) = 0 by omega] at hF; exact hF) d_Ear_emitPart_55
        · refine J_aload_n C 0 d_Ear_emitPart_21 rfl rfl ?_
          refine J_get C f_Ear_11 (by decide) (e_73 _) rfl d_Ear_emitPart_22 ?_
          refine J_iload C d_Ear_emitPart_25 rfl ?_
          refine J_aload_n C 3 d_Ear_emitPart_27 rfl rfl ?_
          refine J_aload_n C 1 d_Ear_emitPart_28 rfl rfl ?_
          refine J_aload_n C 1 d_Ear_emitPart_29 rfl rfl ?_
          refine J_get C f_Ear_67 (by omega) (e_pk _ (by omega)) rfl d_Ear_emitPart_30 ?_
          refine J_val (y := nI em) he ?_
          refine P_callV C (as := [.ref (7 + 2 * j), .int (nI em)]) (st := [.int (nI a), .ref 74]) (p_byteOf l D dA M j em (b (em / 20)) hj (by omega) (hb _ (by omega)) (hb2 _ (by omega))) l_Ear_73 v_Sto_byteOf (by decide) (e_3 _) rfl (by decide) (by decide) (by decide) (Nat.le_of_ble_eq_true rfl) d_Ear_emitPart_33 (kk := ?_)
          refine K_ias C a_74 (j := a) rfl (by omega) d_Ear_emitPart_36 (kk := ?_)
          refine J_aload_n C 1 d_Ear_emitPart_37 rfl rfl ?_
          refine J_dup C d_Ear_emitPart_38 rfl ?_
          refine J_get C f_Ear_67 (by omega) (e_pk _ (by omega)) rfl d_Ear_emitPart_39 ?_
          refine J_val (y := nI em) (by simp [mu, va_up, show ¬ 7 + 2 * j = 74 by omega]; exact he) ?_
          refine J_iconst C d_Ear_emitPart_42 (v := nI 1) rfl ?_
          refine J_iaddN C d_Ear_emitPart_43 ?_
          refine K_putI C f_Ear_67 (by omega) (e_pk _ (by omega)) (Nat.le_of_ble_eq_true rfl) (Ec_pk (by omega) _) d_Ear_emitPart_44 (kk := ?_)
          refine J_iinc C d_Ear_emitPart_47 rfl (v := nI (a + 1)) (nI_1 _) (by decide) rfl ?_
          refine J_goto C 3 d_Ear_emitPart_50 (by decide) ?_
          exact ih (a + 1) (em + 1) _ (by omega) (by omega) (by omega) (by omega) (by simp [mu, va_up, upd]) (by simp [mu, va_up, upd, show ¬ 7 + 2 * j = 74 by omega]; exact hL) (by intro k hk; simp [mu, va_up, show ¬ 8 + 2 * j = 7 + 2 * j by omega, show ¬ 8 + 2 * j = 74 by omega]; exact hb k hk) (by intro k hk; simp [mu, va_up, show ¬ 4 = 7 + 2 * j by omega]; exact hg k hk) (by rw [show min (30 - a) (L - em) = min (30 - (a + 1)) (L - (em + 1)) + 1 by omega] at hF; unfold fEmP at hF; rw [hg em (by omega)]; exact hF)
  exact lp (30 - a0 + 1) a0 em0 M (by omega) ha hem rfl he hL hb hg hM9
