theorem nI_shr {n : Nat} (k p : Nat) (h : n < 2 ^ 31) (hk : k < 32) (hp : 2 ^ k = p) : nI n >>> (nI k &&& 31) = nI (n / p) := by
  subst hp
  refine pk_shrN h (nI k &&& 31) k ?_
  revert k
  decide
theorem nI_and {n : Nat} (k p : Nat) (h : n < 2 ^ 31) (hk : k < 31) (hp : 2 ^ k = p) : nI n &&& nI (p - 1) = nI (n % p) := by
  subst hp
  refine pk_andN (by omega) k ?_
  have h1 : 2 ^ k < 2 ^ 31 := Nat.pow_lt_pow_right (by decide) hk
  rw [pk_tn (by omega)]
set_option maxHeartbeats 4000000 in
set_option maxRecDepth 100000 in
theorem f_put (l : Launch) (D : va_G) (dA : Nat → ClassId) (M : Mem) (n : Nat) (v : Int32) (hn : M 69 2 = nI n) (hn2 : n < 71) : CF l D dA k_Lan_put 0 [.ref 69, .int v] M (none) (mu (mu M 70 n v) 69 2 (nI (n + 1))) := by
  refine CF.of (by decide +kernel) (Nat.le_of_ble_eq_true rfl) (by intro v hv; simp only [List.mem_cons, List.not_mem_nil, or_false] at hv; rcases hv with rfl | rfl <;> rfl) ?_
  intro A ad0 p e s m args below meth c C hr
  refine J_aload_n C 0 d_Lan_put_0 rfl rfl ?_
  refine J_get C f_Lan_20 (by decide) (e_69 _) rfl d_Lan_put_1 ?_
  refine J_val (y := nI n) hn ?_
  refine J_bipush C d_Lan_put_4 (v := nI 71) rfl ?_
  refine J_icmpN_ge C 29 d_Lan_put_6 (by decide) (by omega) (by omega) (fun hc6 => absurd hc6 (by omega)) (fun hc6 => ?_)
  refine J_aload_n C 0 d_Lan_put_9 rfl rfl ?_
  refine J_get C f_Lan_11 (by decide) (e_69 _) rfl d_Lan_put_10 ?_
  refine J_aload_n C 0 d_Lan_put_13 rfl rfl ?_
  refine J_get C f_Lan_20 (by decide) (e_69 _) rfl d_Lan_put_14 ?_
  refine J_val (y := nI n) hn ?_
  refine J_iload_n C 1 d_Lan_put_17 rfl rfl ?_
  refine K_ias C a_70 (j := n) rfl (by omega) d_Lan_put_18 (kk := ?_)
  refine J_aload_n C 0 d_Lan_put_19 rfl rfl ?_
  refine J_dup C d_Lan_put_20 rfl ?_
  refine J_get C f_Lan_20 (by decide) (e_69 _) rfl d_Lan_put_21 ?_
  refine J_val (y := nI n) (by simp [mu, ma, va_up, upd, hn]) ?_
  refine J_iconst C d_Lan_put_24 (v := nI 1) rfl ?_
  refine J_iaddN C d_Lan_put_25 ?_
  refine K_putI C f_Lan_20 (by decide) (e_69 _) (Nat.le_of_ble_eq_true rfl) rfl d_Lan_put_26 (kk := ?_)
  exact F_ret C hr rfl d_Lan_put_29

set_option maxHeartbeats 4000000 in
set_option maxRecDepth 100000 in
theorem f_forgetAll (l : Launch) (D : va_G) (dA : Nat → ClassId) (M : Mem) : CF l D dA k_Lan_forgetAll 0 [.ref 69] M (none) (mu M 69 2 (nI 0)) := by
  refine CF.of (by decide +kernel) (Nat.le_of_ble_eq_true rfl) (by intro v hv; simp only [List.mem_cons, List.not_mem_nil, or_false] at hv; rcases hv with rfl <;> rfl) ?_
  intro A ad0 p e s m args below meth c C hr
  refine J_aload_n C 0 d_Lan_forgetAll_0 rfl rfl ?_
  refine J_iconst C d_Lan_forgetAll_1 (v := nI 0) rfl ?_
  refine K_putI C f_Lan_20 (by decide) (e_69 _) (Nat.le_of_ble_eq_true rfl) rfl d_Lan_forgetAll_2 (kk := ?_)
  exact F_ret C hr rfl d_Lan_forgetAll_5

set_option maxHeartbeats 4000000 in
set_option maxRecDepth 100000 in
theorem f_giveUp (l : Launch) (D : va_G) (dA : Nat → ClassId) (M : Mem) (n b : Nat) (hn : M 69 2 = nI n) (hn2 : n ≤ 71) (hb : b ≤ n) : CF l D dA k_Lan_giveUp 0 [.ref 69, .int (nI b)] M (none) (mu (ma M 70 (va_cpy (M 70) (M 70) b 0 (n - b))) 69 2 (nI (n - b))) := by
  refine CF.of (by decide +kernel) (Nat.le_of_ble_eq_true rfl) (by intro v hv; simp only [List.mem_cons, List.not_mem_nil, or_false] at hv; rcases hv with rfl | rfl <;> rfl) ?_
  intro A ad0 p e s m args below meth c C hr
  refine J_iload_n C 1 d_Lan_giveUp_0 rfl rfl ?_
  refine J_aload_n C 0 d_Lan_giveUp_1 rfl rfl ?_
  refine J_get C f_Lan_20 (by decide) (e_69 _) rfl d_Lan_giveUp_2 ?_
  refine J_val (y := nI n) hn ?_
  refine J_mmin C m_Lan_24 ms_min mi_Math mc_min (Nat.le_of_ble_eq_true rfl) (by decide) d_Lan_giveUp_5 ?_
  refine J_val (y := nI b) (by rw [if_neg (fun q => absurd ((nI_ltI (by omega) (by omega)).mp q) (by omega))]) ?_
  refine J_istore_n C 2 d_Lan_giveUp_8 rfl (by decide) rfl ?_
  refine J_aload_n C 0 d_Lan_giveUp_9 rfl rfl ?_
  refine J_get C f_Lan_11 (by decide) (e_69 _) rfl d_Lan_giveUp_10 ?_
  refine J_iload_n C 2 d_Lan_giveUp_13 rfl rfl ?_
  refine J_aload_n C 0 d_Lan_giveUp_14 rfl rfl ?_
  refine J_get C f_Lan_11 (by decide) (e_69 _) rfl d_Lan_giveUp_15 ?_
  refine J_iconst C d_Lan_giveUp_18 (v := nI 0) rfl ?_
  refine J_aload_n C 0 d_Lan_giveUp_19 rfl rfl ?_
  refine J_get C f_Lan_20 (by decide) (e_69 _) rfl d_Lan_giveUp_20 ?_
  refine J_val (y := nI n) hn ?_
  refine J_iload_n C 2 d_Lan_giveUp_23 rfl rfl ?_
  refine J_isubN C d_Lan_giveUp_24 (by omega) ?_
  refine K_copy C m_Lan_30 mn_copy ms_copy mi_Sys a_70 a_70 (by omega) (by omega) (Nat.le_of_ble_eq_true rfl) d_Lan_giveUp_25 (k := ?_)
  refine J_aload_n C 0 d_Lan_giveUp_28 rfl rfl ?_
  refine J_dup C d_Lan_giveUp_29 rfl ?_
  refine J_get C f_Lan_20 (by decide) (e_69 _) rfl d_Lan_giveUp_30 ?_
  refine J_val (y := nI n) (by simp [mu, ma, va_up, upd, hn]) ?_
  refine J_iload_n C 2 d_Lan_giveUp_33 rfl rfl ?_
  refine J_isubN C d_Lan_giveUp_34 (by omega) ?_
  refine K_putI C f_Lan_20 (by decide) (e_69 _) (Nat.le_of_ble_eq_true rfl) rfl d_Lan_giveUp_35 (kk := ?_)
  exact F_ret C hr rfl d_Lan_giveUp_38

set_option maxHeartbeats 4000000 in
set_option maxRecDepth 100000 in
theorem p_told (l : Launch) (D : va_G) (dA : Nat → ClassId) (M : Mem) (n : Nat) (w : Nat → Nat) (hw : ∀ i, i < n → M 70 i = nI (w i)) (hw2 : ∀ i, i < n → w i < 256) (hn7 : 7 ≤ n) : PT l D dA k_Lan_toldLength 0 90 [.ref 69] (E M) (.int (nI (w 5 % 8 * 256 + w 6 + 1))) := by
  refine PT.of (by decide +kernel) (Nat.le_of_ble_eq_true rfl) (by intro v hv; simp only [List.mem_cons, List.not_mem_nil, or_false] at hv; rcases hv with rfl <;> rfl) ?_
  intro A ad0 p e s m args below meth c C hr
  refine J_aload_n C 0 d_Lan_toldLength_0 rfl rfl ?_
  refine J_get C f_Lan_11 (by decide) (e_69 _) rfl d_Lan_toldLength_1 ?_
  refine J_iconst C d_Lan_toldLength_4 (v := nI 5) rfl ?_
  refine K_ial C a_70 (j := 5) rfl (by omega) d_Lan_toldLength_5 ?_
  refine J_val (y := nI (w 5)) (hw 5 (by omega)) ?_
  refine J_bipush C d_Lan_toldLength_6 (v := nI 7) rfl ?_
  refine J_iand C d_Lan_toldLength_8 ?_
  refine J_val (y := nI (w 5 % 8)) (nI_and 3 8 (by have := hw2 5 (by omega); omega) (by decide) rfl) ?_
  refine J_sipush C d_Lan_toldLength_9 (v := nI 256) rfl ?_
  refine J_imulN C d_Lan_toldLength_12 ?_
  refine J_aload_n C 0 d_Lan_toldLength_13 rfl rfl ?_
  refine J_get C f_Lan_11 (by decide) (e_69 _) rfl d_Lan_toldLength_14 ?_
  refine J_bipush C d_Lan_toldLength_17 (v := nI 6) rfl ?_
  refine K_ial C a_70 (j := 6) rfl (by omega) d_Lan_toldLength_19 ?_
  refine J_val (y := nI (w 6)) (hw 6 (by omega)) ?_
  refine J_iaddN C d_Lan_toldLength_20 ?_
  refine J_iconst C d_Lan_toldLength_21 (v := nI 1) rfl ?_
  refine J_iaddN C d_Lan_toldLength_22 ?_
  exact P_iretE C hr rfl d_Lan_toldLength_23

/-- the check of a frame of t bytes in the row f, at place 3 -/
def CkC (f : Nat → Int32) (t : Nat) : Prop := crcAll 32 10487813 f (3 + t - 3) 3 (nI 0) = f (3 + t) <<< (nI 24 &&& 31) ||| f (3 + t + 1) <<< (nI 16 &&& 31) ||| f (3 + t + 2) <<< (nI 8 &&& 31) ||| f (3 + t + 3)
set_option maxHeartbeats 4000000 in
set_option maxRecDepth 100000 in
theorem p_checkHolds (l : Launch) (D : va_G) (dA : Nat → ClassId) (M : Mem) (t : Nat) (ht : t ≤ 64) (r : Int32) (hr1 : CkC (M 70) t → r = 1) (hr0 : ¬ CkC (M 70) t → r = 0) : PT l D dA k_Lan_checkHolds 1 90 [.ref 69, .int (nI t)] (E M) (.int r) := by
  refine PT.of (by decide +kernel) (Nat.le_of_ble_eq_true rfl) (by intro v hv; simp only [List.mem_cons, List.not_mem_nil, or_false] at hv; rcases hv with rfl | rfl <;> rfl) ?_
  intro A ad0 p e s m args below meth c C hr
  refine J_iconst C d_Lan_checkHolds_0 (v := nI 3) rfl ?_
  refine J_iload_n C 1 d_Lan_checkHolds_1 rfl rfl ?_
  refine J_iaddN C d_Lan_checkHolds_2 ?_
  refine J_istore_n C 2 d_Lan_checkHolds_3 rfl (by decide) rfl ?_
  refine J_aload_n C 0 d_Lan_checkHolds_4 rfl rfl ?_
  refine J_get C f_Lan_11 (by decide) (e_69 _) rfl d_Lan_checkHolds_5 ?_
  refine J_iconst C d_Lan_checkHolds_8 (v := nI 3) rfl ?_
  refine J_iload_n C 2 d_Lan_checkHolds_9 rfl rfl ?_
  refine J_bipush C d_Lan_checkHolds_10 (v := nI 32) rfl ?_
  refine J_iconst C d_Lan_checkHolds_12 (v := nI 0) rfl ?_
  refine J_ldc C d_Lan_checkHolds_13 c_Lan_55 ?_
  refine P_callS C (as := [.ref 70, .int (nI 3), .int (nI (3 + t)), .int (nI 32), .int (nI 0), .int 10487813]) (st := []) (p_check70 l D dA M 3 (3 + t) 32 (nI 0) 10487813 (by omega) (by omega) (by omega) (by omega)) l_Lan_56 s_Orb_check rfl (by decide) (by decide) (by decide) (Nat.le_of_ble_eq_true rfl) d_Lan_checkHolds_15 (kk := ?_)
  refine J_istore_n C 3 d_Lan_checkHolds_18 rfl (by decide) rfl ?_
  refine J_aload_n C 0 d_Lan_checkHolds_19 rfl rfl ?_
  refine J_get C f_Lan_11 (by decide) (e_69 _) rfl d_Lan_checkHolds_20 ?_
  refine J_iload_n C 2 d_Lan_checkHolds_23 rfl rfl ?_
  refine K_ial C a_70 (j := 3 + t) rfl (by omega) d_Lan_checkHolds_24 ?_
  refine J_bipush C d_Lan_checkHolds_25 (v := nI 24) rfl ?_
  refine J_ishl C d_Lan_checkHolds_27 ?_
  refine J_aload_n C 0 d_Lan_checkHolds_28 rfl rfl ?_
  refine J_get C f_Lan_11 (by decide) (e_69 _) rfl d_Lan_checkHolds_29 ?_
  refine J_iload_n C 2 d_Lan_checkHolds_32 rfl rfl ?_
  refine J_iconst C d_Lan_checkHolds_33 (v := nI 1) rfl ?_
  refine J_iaddN C d_Lan_checkHolds_34 ?_
  refine K_ial C a_70 (j := (3 + t) + 1) rfl (by omega) d_Lan_checkHolds_35 ?_
  refine J_bipush C d_Lan_checkHolds_36 (v := nI 16) rfl ?_
  refine J_ishl C d_Lan_checkHolds_38 ?_
  refine J_ior C d_Lan_checkHolds_39 ?_
  refine J_aload_n C 0 d_Lan_checkHolds_40 rfl rfl ?_
  refine J_get C f_Lan_11 (by decide) (e_69 _) rfl d_Lan_checkHolds_41 ?_
  refine J_iload_n C 2 d_Lan_checkHolds_44 rfl rfl ?_
  refine J_iconst C d_Lan_checkHolds_45 (v := nI 2) rfl ?_
  refine J_iaddN C d_Lan_checkHolds_46 ?_
  refine K_ial C a_70 (j := (3 + t) + 2) rfl (by omega) d_Lan_checkHolds_47 ?_
  refine J_bipush C d_Lan_checkHolds_48 (v := nI 8) rfl ?_
  refine J_ishl C d_Lan_checkHolds_50 ?_
  refine J_ior C d_Lan_checkHolds_51 ?_
  refine J_aload_n C 0 d_Lan_checkHolds_52 rfl rfl ?_
  refine J_get C f_Lan_11 (by decide) (e_69 _) rfl d_Lan_checkHolds_53 ?_
  refine J_iload_n C 2 d_Lan_checkHolds_56 rfl rfl ?_
  refine J_iconst C d_Lan_checkHolds_57 (v := nI 3) rfl ?_
  refine J_iaddN C d_Lan_checkHolds_58 ?_
  refine K_ial C a_70 (j := (3 + t) + 3) rfl (by omega) d_Lan_checkHolds_59 ?_
  refine J_ior C d_Lan_checkHolds_60 ?_
  refine J_istore C d_Lan_checkHolds_61 (by decide) rfl ?_
  refine J_iload_n C 3 d_Lan_checkHolds_63 rfl rfl ?_
  refine J_iload C d_Lan_checkHolds_64 rfl ?_
  refine J_icmp_ne C 73 d_Lan_checkHolds_66 (by decide) (fun hc66 => ?_) (fun hc66 => ?_)
  · refine J_iconst C d_Lan_checkHolds_73 (v := nI 0) rfl ?_
    exact P_zretE C hr (Or.inl rfl) (by first | exact (hr1 hc66).symm | exact (hr0 hc66).symm) d_Lan_checkHolds_74
  · refine J_iconst C d_Lan_checkHolds_69 (v := nI 1) rfl ?_
    refine J_goto C 74 d_Lan_checkHolds_70 (by decide) ?_
    exact P_zretE C hr (Or.inr rfl) (by first | exact (hr1 hc66).symm | exact (hr0 hc66).symm) d_Lan_checkHolds_74

/-- what look answers: n bytes w, the check's answer ck -/
def LookC (n : Nat) (w : Nat → Nat) (ck : Int32) : Int32 :=
  if n = 0 then 0 else if ¬ w 0 = 250 then -1 else if n ≤ 1 then 0 else if ¬ w 1 = 243 then -1 else if n ≤ 2 then 0 else if ¬ w 2 = 32 then -1 else if n ≤ 3 then 0 else if ¬ w 3 / 64 = 2 then -1 else if n ≤ 6 then 0
  else if w 5 % 8 * 256 + w 6 + 1 < 5 then -1 else if 64 < w 5 % 8 * 256 + w 6 + 1 then -1 else if n < w 5 % 8 * 256 + w 6 + 8 then 0 else if ck = 0 then -1 else nI (w 5 % 8 * 256 + w 6 + 1)
set_option maxHeartbeats 4000000 in
set_option maxRecDepth 100000 in
theorem p_look (l : Launch) (D : va_G) (dA : Nat → ClassId) (M : Mem) (n : Nat) (hn : M 69 2 = nI n) (hn2 : n ≤ 71) (w : Nat → Nat) (hw : ∀ i, i < n → M 70 i = nI (w i)) (hw2 : ∀ i, i < n → w i < 256) (ck : Int32) (hr1 : CkC (M 70) (w 5 % 8 * 256 + w 6 + 1) → ck = 1) (hr0 : ¬ CkC (M 70) (w 5 % 8 * 256 + w 6 + 1) → ck = 0) : PT l D dA k_Lan_look 2 90 [.ref 69] (E M) (.int (LookC n w ck)) := by
  refine PT.of (by decide +kernel) (Nat.le_of_ble_eq_true rfl) (by intro v hv; simp only [List.mem_cons, List.not_mem_nil, or_false] at hv; rcases hv with rfl <;> rfl) ?_
  intro A ad0 p e s m args below meth c C hr
  refine J_iconst C d_Lan_look_0 (v := nI 0) rfl ?_
  refine J_istore_n C 1 d_Lan_look_1 rfl (by decide) rfl ?_
  refine J_iload_n C 1 d_Lan_look_2 rfl rfl ?_
  refine J_iconst C d_Lan_look_3 (v := nI 3) rfl ?_
  refine J_icmpN_ge C 39 d_Lan_look_4 (by decide) (by omega) (by omega) (fun hc4 => absurd hc4 (by decide)) (fun hc4 => ?_)
  refine J_aload_n C 0 d_Lan_look_7 rfl rfl ?_
  refine J_get C f_Lan_20 (by decide) (e_69 _) rfl d_Lan_look_8 ?_
  refine J_val (y := nI n) hn ?_
  refine J_iload_n C 1 d_Lan_look_11 rfl rfl ?_
  refine J_icmpN_gt C 17 d_Lan_look_12 (by decide) (by omega) (by omega) (fun hc12 => ?_) (fun hc12 => ?_)
  · refine J_aload_n C 0 d_Lan_look_17 rfl rfl ?_
    refine J_get C f_Lan_11 (by decide) (e_69 _) rfl d_Lan_look_18 ?_
    refine J_iload_n C 1 d_Lan_look_21 rfl rfl ?_
    refine K_ial C a_70 (j := 0) rfl (by omega) d_Lan_look_22 ?_
    refine J_val (y := nI (w 0)) (hw _ (by omega)) ?_
    refine J_mark C g_mark (by decide) d_Lan_look_23 ?_
    refine J_iload_n C 1 d_Lan_look_26 rfl rfl ?_
    refine J_markld C (j := 0) rfl (by omega) rfl (by decide) d_Lan_look_27 ?_
    refine J_val (y := nI 250) rfl ?_
    have b0 := hw2 (0) (by omega)
    refine J_icmpN_eq C 33 d_Lan_look_28 (by decide) (by omega) (by omega) (fun hc28 => ?_) (fun hc28 => ?_)
    · refine J_iinc C d_Lan_look_33 rfl (v := nI 1) rfl (by decide) rfl ?_
      refine J_goto C 2 d_Lan_look_36 (by decide) ?_
      refine J_iload_n C 1 d_Lan_look_2 rfl rfl ?_
      refine J_iconst C d_Lan_look_3 (v := nI 3) rfl ?_
      refine J_icmpN_ge C 39 d_Lan_look_4 (by decide) (by omega) (by omega) (fun hc4 => absurd hc4 (by decide)) (fun hc4 => ?_)
      refine J_aload_n C 0 d_Lan_look_7 rfl rfl ?_
      refine J_get C f_Lan_20 (by decide) (e_69 _) rfl d_Lan_look_8 ?_
      refine J_val (y := nI n) hn ?_
      refine J_iload_n C 1 d_Lan_look_11 rfl rfl ?_
      refine J_icmpN_gt C 17 d_Lan_look_12 (by decide) (by omega) (by omega) (fun hc12 => ?_) (fun hc12 => ?_)
      · refine J_aload_n C 0 d_Lan_look_17 rfl rfl ?_
        refine J_get C f_Lan_11 (by decide) (e_69 _) rfl d_Lan_look_18 ?_
        refine J_iload_n C 1 d_Lan_look_21 rfl rfl ?_
        refine K_ial C a_70 (j := 1) rfl (by omega) d_Lan_look_22 ?_
        refine J_val (y := nI (w 1)) (hw _ (by omega)) ?_
        refine J_mark C g_mark (by decide) d_Lan_look_23 ?_
        refine J_iload_n C 1 d_Lan_look_26 rfl rfl ?_
        refine J_markld C (j := 1) rfl (by omega) rfl (by decide) d_Lan_look_27 ?_
        refine J_val (y := nI 243) rfl ?_
        have b1 := hw2 (1) (by omega)
        refine J_icmpN_eq C 33 d_Lan_look_28 (by decide) (by omega) (by omega) (fun hc28 => ?_) (fun hc28 => ?_)
        · refine J_iinc C d_Lan_look_33 rfl (v := nI 2) rfl (by decide) rfl ?_
          refine J_goto C 2 d_Lan_look_36 (by decide) ?_
          refine J_iload_n C 1 d_Lan_look_2 rfl rfl ?_
          refine J_iconst C d_Lan_look_3 (v := nI 3) rfl ?_
          refine J_icmpN_ge C 39 d_Lan_look_4 (by decide) (by omega) (by omega) (fun hc4 => absurd hc4 (by decide)) (fun hc4 => ?_)
          refine J_aload_n C 0 d_Lan_look_7 rfl rfl ?_
          refine J_get C f_Lan_20 (by decide) (e_69 _) rfl d_Lan_look_8 ?_
          refine J_val (y := nI n) hn ?_
          refine J_iload_n C 1 d_Lan_look_11 rfl rfl ?_
          refine J_icmpN_gt C 17 d_Lan_look_12 (by decide) (by omega) (by omega) (fun hc12 => ?_) (fun hc12 => ?_)
          · refine J_aload_n C 0 d_Lan_look_17 rfl rfl ?_
            refine J_get C f_Lan_11 (by decide) (e_69 _) rfl d_Lan_look_18 ?_
            refine J_iload_n C 1 d_Lan_look_21 rfl rfl ?_
            refine K_ial C a_70 (j := 2) rfl (by omega) d_Lan_look_22 ?_
            refine J_val (y := nI (w 2)) (hw _ (by omega)) ?_
            refine J_mark C g_mark (by decide) d_Lan_look_23 ?_
            refine J_iload_n C 1 d_Lan_look_26 rfl rfl ?_
            refine J_markld C (j := 2) rfl (by omega) rfl (by decide) d_Lan_look_27 ?_
            refine J_val (y := nI 32) rfl ?_
            have b2 := hw2 (2) (by omega)
            refine J_icmpN_eq C 33 d_Lan_look_28 (by decide) (by omega) (by omega) (fun hc28 => ?_) (fun hc28 => ?_)
            · refine J_iinc C d_Lan_look_33 rfl (v := nI 3) rfl (by decide) rfl ?_
              refine J_goto C 2 d_Lan_look_36 (by decide) ?_
              refine J_iload_n C 1 d_Lan_look_2 rfl rfl ?_
              refine J_iconst C d_Lan_look_3 (v := nI 3) rfl ?_
              refine J_icmpN_ge C 39 d_Lan_look_4 (by decide) (by omega) (by omega) (fun hc4 => ?_) (fun hc4 => absurd hc4 (by decide))
              refine J_aload_n C 0 d_Lan_look_39 rfl rfl ?_
              refine J_get C f_Lan_20 (by decide) (e_69 _) rfl d_Lan_look_40 ?_
              refine J_val (y := nI n) hn ?_
              refine J_iconst C d_Lan_look_43 (v := nI 3) rfl ?_
              refine J_icmpN_gt C 49 d_Lan_look_44 (by decide) (by omega) (by omega) (fun hc44 => ?_) (fun hc44 => ?_)
              · refine J_aload_n C 0 d_Lan_look_49 rfl rfl ?_
                refine J_get C f_Lan_11 (by decide) (e_69 _) rfl d_Lan_look_50 ?_
                refine J_iconst C d_Lan_look_53 (v := nI 3) rfl ?_
                refine K_ial C a_70 (j := 3) rfl (by omega) d_Lan_look_54 ?_
                refine J_val (y := nI (w 3)) (hw _ (by omega)) ?_
                refine J_bipush C d_Lan_look_55 (v := nI 6) rfl ?_
                refine J_ishr C d_Lan_look_57 ?_
                refine J_val (y := nI (w 3 / 64)) (nI_shr 6 64 (by have := hw2 3 (by omega); omega) (by decide) rfl) ?_
                refine J_iconst C d_Lan_look_58 (v := nI 2) rfl ?_
                have b3 := hw2 3 (by omega)
                refine J_icmpN_eq C 64 d_Lan_look_59 (by decide) (by omega) (by omega) (fun hc59 => ?_) (fun hc59 => ?_)
                · refine J_aload_n C 0 d_Lan_look_64 rfl rfl ?_
                  refine J_get C f_Lan_20 (by decide) (e_69 _) rfl d_Lan_look_65 ?_
                  refine J_val (y := nI n) hn ?_
                  refine J_bipush C d_Lan_look_68 (v := nI 6) rfl ?_
                  refine J_icmpN_gt C 75 d_Lan_look_70 (by decide) (by omega) (by omega) (fun hc70 => ?_) (fun hc70 => ?_)
                  · refine J_aload_n C 0 d_Lan_look_75 rfl rfl ?_
                    refine P_callV C (as := []) (st := []) (p_told l D dA M n w hw hw2 (by omega)) l_Lan_39 v_Lan_toldLength (by decide) (e_69 _) rfl (by decide) (by decide) (by decide) (Nat.le_of_ble_eq_true rfl) d_Lan_look_76 (kk := ?_)
                    have b5 := hw2 5 (by omega)
                    have b6 := hw2 6 (by omega)
                    refine J_istore_n C 1 d_Lan_look_79 rfl (by decide) rfl ?_
                    refine J_iload_n C 1 d_Lan_look_80 rfl rfl ?_
                    refine J_iconst C d_Lan_look_81 (v := nI 5) rfl ?_
                    refine J_icmpN_lt C 91 d_Lan_look_82 (by decide) (by omega) (by omega) (fun hc82 => ?_) (fun hc82 => ?_)
                    · refine J_iconst C d_Lan_look_91 (v := -1) rfl ?_
                      exact P_iretE C hr (by unfold LookC; (repeat (first | rw [if_pos (by omega)] | rw [if_neg (by omega)] | rw [if_pos (by assumption)] | rw [if_neg (by assumption)])) <;> rfl) d_Lan_look_92
                    · refine J_iload_n C 1 d_Lan_look_85 rfl rfl ?_
                      refine J_bipush C d_Lan_look_86 (v := nI 64) rfl ?_
                      refine J_icmpN_le C 93 d_Lan_look_88 (by decide) (by omega) (by omega) (fun hc88 => ?_) (fun hc88 => ?_)
                      · refine J_aload_n C 0 d_Lan_look_93 rfl rfl ?_
                        refine J_get C f_Lan_20 (by decide) (e_69 _) rfl d_Lan_look_94 ?_
                        refine J_val (y := nI n) hn ?_
                        refine J_iconst C d_Lan_look_97 (v := nI 3) rfl ?_
                        refine J_iload_n C 1 d_Lan_look_98 rfl rfl ?_
                        refine J_iaddN C d_Lan_look_99 ?_
                        refine J_iconst C d_Lan_look_100 (v := nI 4) rfl ?_
                        refine J_iaddN C d_Lan_look_101 ?_
                        refine J_icmpN_ge C 107 d_Lan_look_102 (by decide) (by omega) (by omega) (fun hc102 => ?_) (fun hc102 => ?_)
                        · refine J_aload_n C 0 d_Lan_look_107 rfl rfl ?_
                          refine J_iload_n C 1 d_Lan_look_108 rfl rfl ?_
                          refine P_callV C (as := [.int (nI (w 5 % 8 * 256 + w 6 + 1))]) (st := []) (p_checkHolds l D dA M (w 5 % 8 * 256 + w 6 + 1) (by omega) ck hr1 hr0) l_Lan_43 v_Lan_checkHolds (by decide) (e_69 _) rfl (by decide) (by decide) (by decide) (Nat.le_of_ble_eq_true rfl) d_Lan_look_109 (kk := ?_)
                          refine J_if_eq C 119 d_Lan_look_112 (by decide) (fun hc112 => ?_) (fun hc112 => ?_)
                          · refine J_iconst C d_Lan_look_119 (v := -1) rfl ?_
                            exact P_iretE C hr (by unfold LookC; (repeat (first | rw [if_pos (by omega)] | rw [if_neg (by omega)] | rw [if_pos (by assumption)] | rw [if_neg (by assumption)])) <;> rfl) d_Lan_look_120
                          · refine J_iload_n C 1 d_Lan_look_115 rfl rfl ?_
                            refine J_goto C 120 d_Lan_look_116 (by decide) ?_
                            exact P_iretE C hr (by unfold LookC; (repeat (first | rw [if_pos (by omega)] | rw [if_neg (by omega)] | rw [if_pos (by assumption)] | rw [if_neg (by assumption)])) <;> rfl) d_Lan_look_120
                        · refine J_iconst C d_Lan_look_105 (v := nI 0) rfl ?_
                          exact P_iretE C hr (by unfold LookC; (repeat (first | rw [if_pos (by omega)] | rw [if_neg (by omega)] | rw [if_pos (by assumption)] | rw [if_neg (by assumption)])) <;> rfl) d_Lan_look_106
                      · refine J_iconst C d_Lan_look_91 (v := -1) rfl ?_
                        exact P_iretE C hr (by unfold LookC; (repeat (first | rw [if_pos (by omega)] | rw [if_neg (by omega)] | rw [if_pos (by assumption)] | rw [if_neg (by assumption)])) <;> rfl) d_Lan_look_92
                  · refine J_iconst C d_Lan_look_73 (v := nI 0) rfl ?_
                    exact P_iretE C hr (by unfold LookC; (repeat (first | rw [if_pos (by omega)] | rw [if_neg (by omega)] | rw [if_pos (by assumption)] | rw [if_neg (by assumption)])) <;> rfl) d_Lan_look_74
                · refine J_iconst C d_Lan_look_62 (v := -1) rfl ?_
                  exact P_iretE C hr (by unfold LookC; (repeat (first | rw [if_pos (by omega)] | rw [if_neg (by omega)] | rw [if_pos (by assumption)] | rw [if_neg (by assumption)])) <;> rfl) d_Lan_look_63
              · refine J_iconst C d_Lan_look_47 (v := nI 0) rfl ?_
                exact P_iretE C hr (by unfold LookC; (repeat (first | rw [if_pos (by omega)] | rw [if_neg (by omega)] | rw [if_pos (by assumption)] | rw [if_neg (by assumption)])) <;> rfl) d_Lan_look_48
            · refine J_iconst C d_Lan_look_31 (v := -1) rfl ?_
              exact P_iretE C hr (by unfold LookC; (repeat (first | rw [if_pos (by omega)] | rw [if_neg (by omega)] | rw [if_pos (by assumption)] | rw [if_neg (by assumption)])) <;> rfl) d_Lan_look_32
          · refine J_iconst C d_Lan_look_15 (v := nI 0) rfl ?_
            exact P_iretE C hr (by unfold LookC; (repeat (first | rw [if_pos (by omega)] | rw [if_neg (by omega)] | rw [if_pos (by assumption)] | rw [if_neg (by assumption)])) <;> rfl) d_Lan_look_16
        · refine J_iconst C d_Lan_look_31 (v := -1) rfl ?_
          exact P_iretE C hr (by unfold LookC; (repeat (first | rw [if_pos (by omega)] | rw [if_neg (by omega)] | rw [if_pos (by assumption)] | rw [if_neg (by assumption)])) <;> rfl) d_Lan_look_32
      · refine J_iconst C d_Lan_look_15 (v := nI 0) rfl ?_
        exact P_iretE C hr (by unfold LookC; (repeat (first | rw [if_pos (by omega)] | rw [if_neg (by omega)] | rw [if_pos (by assumption)] | rw [if_neg (by assumption)])) <;> rfl) d_Lan_look_16
    · refine J_iconst C d_Lan_look_31 (v := -1) rfl ?_
      exact P_iretE C hr (by unfold LookC; (repeat (first | rw [if_pos (by omega)] | rw [if_neg (by omega)] | rw [if_pos (by assumption)] | rw [if_neg (by assumption)])) <;> rfl) d_Lan_look_32
  · refine J_iconst C d_Lan_look_15 (v := nI 0) rfl ?_
    exact P_iretE C hr (by unfold LookC; (repeat (first | rw [if_pos (by omega)] | rw [if_neg (by omega)] | rw [if_pos (by assumption)] | rw [if_neg (by assumption)])) <;> rfl) d_Lan_look_16

set_option maxHeartbeats 4000000 in
set_option maxRecDepth 100000 in
theorem f_copy (l : Launch) (D : va_G) (dA : Nat → ClassId) (M : Mem) (t : Nat) (h5 : 5 ≤ t) (h64 : t ≤ 64) : CF l D dA k_Frm_copy 0 [.ref 71, .ref 70, .int (nI 3), .int (nI t)] M (none) (ma (mu M 71 1 (nI t)) 72 (va_cpy (M 70) (M 72) 3 0 t)) := by
  refine CF.of (by decide +kernel) (Nat.le_of_ble_eq_true rfl) (by intro v hv; simp only [List.mem_cons, List.not_mem_nil, or_false] at hv; rcases hv with rfl | rfl | rfl | rfl <;> rfl) ?_
  intro A ad0 p e s m args below meth c C hr
  refine J_aload_n C 0 d_Frm_copy_0 rfl rfl ?_
  refine J_iconst C d_Frm_copy_1 (v := nI 5) rfl ?_
  refine J_bipush C d_Frm_copy_2 (v := nI 64) rfl ?_
  refine J_iload_n C 3 d_Frm_copy_4 rfl rfl ?_
  refine J_mmin C m_Frm_17 ms_min mi_Math mc_min (Nat.le_of_ble_eq_true rfl) (by decide) d_Frm_copy_5 ?_
  refine J_val (y := nI t) (by rw [nI_min (by omega) (by omega), Nat.min_eq_right h64]) ?_
  refine J_mmax C m_Frm_23 ms_max mi_Math mc_max (Nat.le_of_ble_eq_true rfl) (by decide) d_Frm_copy_8 ?_
  refine J_val (y := nI t) (by rw [nI_max (by omega) (by omega), Nat.max_eq_right h5]) ?_
  refine K_putI C f_Frm_13 (by decide) (e_71 _) (Nat.le_of_ble_eq_true rfl) rfl d_Frm_copy_11 (kk := ?_)
  refine J_aload_n C 1 d_Frm_copy_14 rfl rfl ?_
  refine J_iload_n C 2 d_Frm_copy_15 rfl rfl ?_
  refine J_aload_n C 0 d_Frm_copy_16 rfl rfl ?_
  refine J_get C f_Frm_9 (by decide) (e_71 _) rfl d_Frm_copy_17 ?_
  refine J_iconst C d_Frm_copy_20 (v := nI 0) rfl ?_
  refine J_aload_n C 0 d_Frm_copy_21 rfl rfl ?_
  refine J_get C f_Frm_13 (by decide) (e_71 _) rfl d_Frm_copy_22 ?_
  refine J_val (y := nI t) rfl ?_
  refine K_copy C m_Frm_26 mn_copy ms_copy mi_Sys a_70 a_72 (by omega) (by omega) (Nat.le_of_ble_eq_true rfl) d_Frm_copy_25 (k := ?_)
  exact F_ret C hr rfl d_Frm_copy_28

def fTake (M : Mem) (n t : Nat) : Mem := mu (ma (ma (mu M 71 1 (nI t)) 72 (va_cpy (M 70) (M 72) 3 0 t)) 70 (va_cpy (M 70) (M 70) (3 + t + 4) 0 (n - (3 + t + 4)))) 69 2 (nI (n - (3 + t + 4)))
set_option maxHeartbeats 4000000 in
set_option maxRecDepth 100000 in
theorem f_takeFrame (l : Launch) (D : va_G) (dA : Nat → ClassId) (M : Mem) (n : Nat) (hn : M 69 2 = nI n) (hn2 : n ≤ 71) (w : Nat → Nat) (hw : ∀ i, i < n → M 70 i = nI (w i)) (hw2 : ∀ i, i < n → w i < 256) (t : Nat) (ht : w 5 % 8 * 256 + w 6 + 1 = t) (h5 : 5 ≤ t) (h64 : t ≤ 64) (hnt : 3 + t + 4 ≤ n) : CF l D dA k_Lan_takeFrame 1 [.ref 69] M (none) (fTake M n t) := by
  refine CF.of (by decide +kernel) (Nat.le_of_ble_eq_true rfl) (by intro v hv; simp only [List.mem_cons, List.not_mem_nil, or_false] at hv; rcases hv with rfl <;> rfl) ?_
  intro A ad0 p e s m args below meth c C hr
  refine J_aload_n C 0 d_Lan_takeFrame_0 rfl rfl ?_
  refine P_callV C (as := []) (st := []) (p_told l D dA M n w hw hw2 (by omega)) l_Lan_39 v_Lan_toldLength (by decide) (e_69 _) rfl (by decide) (by decide) (by decide) (Nat.le_of_ble_eq_true rfl) d_Lan_takeFrame_1 (kk := ?_)
  rw [ht]
  refine J_istore_n C 1 d_Lan_takeFrame_4 rfl (by decide) rfl ?_
  refine J_aload_n C 0 d_Lan_takeFrame_5 rfl rfl ?_
  refine J_get C f_Lan_16 (by decide) (e_69 _) rfl d_Lan_takeFrame_6 ?_
  refine J_aload_n C 0 d_Lan_takeFrame_9 rfl rfl ?_
  refine J_get C f_Lan_11 (by decide) (e_69 _) rfl d_Lan_takeFrame_10 ?_
  refine J_iconst C d_Lan_takeFrame_13 (v := nI 3) rfl ?_
  refine J_iload_n C 1 d_Lan_takeFrame_14 rfl rfl ?_
  refine F_callV C (as := [.ref 70, .int (nI 3), .int (nI t)]) (st := []) (f_copy l D dA M t (by omega) (by omega)) l_Lan_47 v_Frm_copy (by decide) (e_71 _) rfl (by decide) (by decide) (Nat.le_of_ble_eq_true rfl) d_Lan_takeFrame_15 (kk := ?_)
  refine J_aload_n C 0 d_Lan_takeFrame_18 rfl rfl ?_
  refine J_iconst C d_Lan_takeFrame_19 (v := nI 3) rfl ?_
  refine J_iload_n C 1 d_Lan_takeFrame_20 rfl rfl ?_
  refine J_iaddN C d_Lan_takeFrame_21 ?_
  refine J_iconst C d_Lan_takeFrame_22 (v := nI 4) rfl ?_
  refine J_iaddN C d_Lan_takeFrame_23 ?_
  refine F_callV C (as := [.int (nI ((3 + t) + 4))]) (st := []) (f_giveUp l D dA (ma (mu M 71 1 (nI t)) 72 (va_cpy (M 70) (M 72) 3 0 t)) n ((3 + t) + 4) (by first | assumption | (simp [mu, ma, va_up]; exact hn)) hn2 (by omega)) l_Lan_51 v_Lan_giveUp (by decide) (e_69 _) rfl (by decide) (by decide) (Nat.le_of_ble_eq_true rfl) d_Lan_takeFrame_24 (kk := ?_)
  exact F_ret C hr rfl d_Lan_takeFrame_27
