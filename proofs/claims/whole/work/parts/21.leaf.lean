set_option maxHeartbeats 4000000 in
set_option maxRecDepth 100000 in
theorem p_isExpedited (l : Launch) (D : va_G) (dA : Nat → ClassId) (M : Mem) : PT l D dA k_Frm_isExpedited 0 90 [.ref 71] (E M) (.int (if (M 72 0 &&& nI 32) = 0 then 0 else 1)) := by
  refine PT.of (by decide +kernel) (Nat.le_of_ble_eq_true rfl) (by intro v hv; simp only [List.mem_cons, List.not_mem_nil, or_false] at hv; rcases hv with rfl <;> rfl) ?_
  intro A ad0 p e s m args below meth c C hr
  refine J_aload_n C 0 d_Frm_isExpedited_0 rfl rfl ?_
  refine J_get C f_Frm_9 (by decide) (e_71 _) rfl d_Frm_isExpedited_1 ?_
  refine J_iconst C d_Frm_isExpedited_4 (v := nI 0) rfl ?_
  refine K_ial C a_72 (j := 0) rfl (by omega) d_Frm_isExpedited_5 ?_
  refine J_bipush C d_Frm_isExpedited_6 (v := nI 32) rfl ?_
  refine J_iand C d_Frm_isExpedited_8 ?_
  refine J_if_eq C 16 d_Frm_isExpedited_9 (by decide) (fun hc9 => ?_) (fun hc9 => ?_)
  · refine J_iconst C d_Frm_isExpedited_16 (v := nI 0) rfl ?_
    exact P_zretE C hr (Or.inl rfl) (by simp only [hc9, if_true, if_false, if_pos, if_neg, not_false_eq_true]; try rfl) d_Frm_isExpedited_17
  · refine J_iconst C d_Frm_isExpedited_12 (v := nI 1) rfl ?_
    refine J_goto C 17 d_Frm_isExpedited_13 (by decide) ?_
    exact P_zretE C hr (Or.inr rfl) (by simp only [hc9, if_true, if_false, if_pos, if_neg, not_false_eq_true]; try rfl) d_Frm_isExpedited_17

set_option maxHeartbeats 4000000 in
set_option maxRecDepth 100000 in
theorem p_isDirective (l : Launch) (D : va_G) (dA : Nat → ClassId) (M : Mem) : PT l D dA k_Frm_isDirective 0 90 [.ref 71] (E M) (.int (if (M 72 0 &&& nI 16) = 0 then 0 else 1)) := by
  refine PT.of (by decide +kernel) (Nat.le_of_ble_eq_true rfl) (by intro v hv; simp only [List.mem_cons, List.not_mem_nil, or_false] at hv; rcases hv with rfl <;> rfl) ?_
  intro A ad0 p e s m args below meth c C hr
  refine J_aload_n C 0 d_Frm_isDirective_0 rfl rfl ?_
  refine J_get C f_Frm_9 (by decide) (e_71 _) rfl d_Frm_isDirective_1 ?_
  refine J_iconst C d_Frm_isDirective_4 (v := nI 0) rfl ?_
  refine K_ial C a_72 (j := 0) rfl (by omega) d_Frm_isDirective_5 ?_
  refine J_bipush C d_Frm_isDirective_6 (v := nI 16) rfl ?_
  refine J_iand C d_Frm_isDirective_8 ?_
  refine J_if_eq C 16 d_Frm_isDirective_9 (by decide) (fun hc9 => ?_) (fun hc9 => ?_)
  · refine J_iconst C d_Frm_isDirective_16 (v := nI 0) rfl ?_
    exact P_zretE C hr (Or.inl rfl) (by simp only [hc9, if_true, if_false, if_pos, if_neg, not_false_eq_true]; try rfl) d_Frm_isDirective_17
  · refine J_iconst C d_Frm_isDirective_12 (v := nI 1) rfl ?_
    refine J_goto C 17 d_Frm_isDirective_13 (by decide) ?_
    exact P_zretE C hr (Or.inr rfl) (by simp only [hc9, if_true, if_false, if_pos, if_neg, not_false_eq_true]; try rfl) d_Frm_isDirective_17

set_option maxHeartbeats 4000000 in
set_option maxRecDepth 100000 in
theorem p_form (l : Launch) (D : va_G) (dA : Nat → ClassId) (M : Mem) : PT l D dA k_Frm_form 0 90 [.ref 71] (E M) (.int ((M 72 0 >>> (nI 2 &&& 31)) &&& nI 3)) := by
  refine PT.of (by decide +kernel) (Nat.le_of_ble_eq_true rfl) (by intro v hv; simp only [List.mem_cons, List.not_mem_nil, or_false] at hv; rcases hv with rfl <;> rfl) ?_
  intro A ad0 p e s m args below meth c C hr
  refine J_aload_n C 0 d_Frm_form_0 rfl rfl ?_
  refine J_get C f_Frm_9 (by decide) (e_71 _) rfl d_Frm_form_1 ?_
  refine J_iconst C d_Frm_form_4 (v := nI 0) rfl ?_
  refine K_ial C a_72 (j := 0) rfl (by omega) d_Frm_form_5 ?_
  refine J_iconst C d_Frm_form_6 (v := nI 2) rfl ?_
  refine J_ishr C d_Frm_form_7 ?_
  refine J_iconst C d_Frm_form_8 (v := nI 3) rfl ?_
  refine J_iand C d_Frm_form_9 ?_
  exact P_iretE C hr rfl d_Frm_form_10

set_option maxHeartbeats 4000000 in
set_option maxRecDepth 100000 in
theorem p_spacecraft (l : Launch) (D : va_G) (dA : Nat → ClassId) (M : Mem) : PT l D dA k_Frm_spacecraft 0 90 [.ref 71] (E M) (.int ((M 72 0 &&& nI 3) * nI 256 + M 72 1)) := by
  refine PT.of (by decide +kernel) (Nat.le_of_ble_eq_true rfl) (by intro v hv; simp only [List.mem_cons, List.not_mem_nil, or_false] at hv; rcases hv with rfl <;> rfl) ?_
  intro A ad0 p e s m args below meth c C hr
  refine J_aload_n C 0 d_Frm_spacecraft_0 rfl rfl ?_
  refine J_get C f_Frm_9 (by decide) (e_71 _) rfl d_Frm_spacecraft_1 ?_
  refine J_iconst C d_Frm_spacecraft_4 (v := nI 0) rfl ?_
  refine K_ial C a_72 (j := 0) rfl (by omega) d_Frm_spacecraft_5 ?_
  refine J_iconst C d_Frm_spacecraft_6 (v := nI 3) rfl ?_
  refine J_iand C d_Frm_spacecraft_7 ?_
  refine J_sipush C d_Frm_spacecraft_8 (v := nI 256) rfl ?_
  refine J_imul C d_Frm_spacecraft_11 ?_
  refine J_aload_n C 0 d_Frm_spacecraft_12 rfl rfl ?_
  refine J_get C f_Frm_9 (by decide) (e_71 _) rfl d_Frm_spacecraft_13 ?_
  refine J_iconst C d_Frm_spacecraft_16 (v := nI 1) rfl ?_
  refine K_ial C a_72 (j := 1) rfl (by omega) d_Frm_spacecraft_17 ?_
  refine J_iadd C d_Frm_spacecraft_18 ?_
  exact P_iretE C hr rfl d_Frm_spacecraft_19

set_option maxHeartbeats 4000000 in
set_option maxRecDepth 100000 in
theorem p_channel (l : Launch) (D : va_G) (dA : Nat → ClassId) (M : Mem) : PT l D dA k_Frm_channel 0 90 [.ref 71] (E M) (.int (M 72 2 >>> (nI 7 &&& 31))) := by
  refine PT.of (by decide +kernel) (Nat.le_of_ble_eq_true rfl) (by intro v hv; simp only [List.mem_cons, List.not_mem_nil, or_false] at hv; rcases hv with rfl <;> rfl) ?_
  intro A ad0 p e s m args below meth c C hr
  refine J_aload_n C 0 d_Frm_channel_0 rfl rfl ?_
  refine J_get C f_Frm_9 (by decide) (e_71 _) rfl d_Frm_channel_1 ?_
  refine J_iconst C d_Frm_channel_4 (v := nI 2) rfl ?_
  refine K_ial C a_72 (j := 2) rfl (by omega) d_Frm_channel_5 ?_
  refine J_bipush C d_Frm_channel_6 (v := nI 7) rfl ?_
  refine J_ishr C d_Frm_channel_8 ?_
  exact P_iretE C hr rfl d_Frm_channel_9

set_option maxHeartbeats 4000000 in
set_option maxRecDepth 100000 in
theorem p_number (l : Launch) (D : va_G) (dA : Nat → ClassId) (M : Mem) : PT l D dA k_Frm_number 0 90 [.ref 71] (E M) (.int (M 72 4)) := by
  refine PT.of (by decide +kernel) (Nat.le_of_ble_eq_true rfl) (by intro v hv; simp only [List.mem_cons, List.not_mem_nil, or_false] at hv; rcases hv with rfl <;> rfl) ?_
  intro A ad0 p e s m args below meth c C hr
  refine J_aload_n C 0 d_Frm_number_0 rfl rfl ?_
  refine J_get C f_Frm_9 (by decide) (e_71 _) rfl d_Frm_number_1 ?_
  refine J_iconst C d_Frm_number_4 (v := nI 4) rfl ?_
  refine K_ial C a_72 (j := 4) rfl (by omega) d_Frm_number_5 ?_
  exact P_iretE C hr rfl d_Frm_number_6

set_option maxHeartbeats 4000000 in
set_option maxRecDepth 100000 in
theorem p_dataLength (l : Launch) (D : va_G) (dA : Nat → ClassId) (M : Mem) (L : Nat) (hL : M 71 1 = nI L) (h5 : 5 ≤ L) : PT l D dA k_Frm_dataLength 0 90 [.ref 71] (E M) (.int (nI (L - 5))) := by
  refine PT.of (by decide +kernel) (Nat.le_of_ble_eq_true rfl) (by intro v hv; simp only [List.mem_cons, List.not_mem_nil, or_false] at hv; rcases hv with rfl <;> rfl) ?_
  intro A ad0 p e s m args below meth c C hr
  refine J_aload_n C 0 d_Frm_dataLength_0 rfl rfl ?_
  refine J_get C f_Frm_13 (by decide) (e_71 _) rfl d_Frm_dataLength_1 ?_
  refine J_val (y := nI L) hL ?_
  refine J_iconst C d_Frm_dataLength_4 (v := nI 5) rfl ?_
  refine J_isubN C d_Frm_dataLength_5 (by omega) ?_
  exact P_iretE C hr rfl d_Frm_dataLength_6

set_option maxHeartbeats 4000000 in
set_option maxRecDepth 100000 in
theorem p_data (l : Launch) (D : va_G) (dA : Nat → ClassId) (M : Mem) (L k : Nat) (hL : M 71 1 = nI L) (h5 : 5 ≤ L) (h64 : L ≤ 64) (hk : k < 1000) : PT l D dA k_Frm_data 0 90 [.ref 71, .int (nI k)] (E M) (.int (if L - 5 ≤ k then 0 else M 72 (5 + k))) := by
  refine PT.of (by decide +kernel) (Nat.le_of_ble_eq_true rfl) (by intro v hv; simp only [List.mem_cons, List.not_mem_nil, or_false] at hv; rcases hv with rfl | rfl <;> rfl) ?_
  intro A ad0 p e s m args below meth c C hr
  refine J_iload_n C 1 d_Frm_data_0 rfl rfl ?_
  refine J_ifN_lt C d_Frm_data_1 25 (by decide) (by omega) ?_
  refine J_iload_n C 1 d_Frm_data_4 rfl rfl ?_
  refine J_aload_n C 0 d_Frm_data_5 rfl rfl ?_
  refine J_get C f_Frm_13 (by decide) (e_71 _) rfl d_Frm_data_6 ?_
  refine J_val (y := nI L) hL ?_
  refine J_iconst C d_Frm_data_9 (v := nI 5) rfl ?_
  refine J_isubN C d_Frm_data_10 (by omega) ?_
  refine J_icmpN_ge C 25 d_Frm_data_11 (by decide) (by omega) (by omega) (fun hc11 => ?_) (fun hc11 => ?_)
  · refine J_iconst C d_Frm_data_25 (v := nI 0) rfl ?_
    exact P_iretE C hr (by first | (rw [if_pos (by omega)]; rfl) | (rw [if_neg (by omega)])) d_Frm_data_26
  · refine J_aload_n C 0 d_Frm_data_14 rfl rfl ?_
    refine J_get C f_Frm_9 (by decide) (e_71 _) rfl d_Frm_data_15 ?_
    refine J_iconst C d_Frm_data_18 (v := nI 5) rfl ?_
    refine J_iload_n C 1 d_Frm_data_19 rfl rfl ?_
    refine J_iaddN C d_Frm_data_20 ?_
    refine K_ial C a_72 (j := 5 + k) rfl (by omega) d_Frm_data_21 ?_
    refine J_goto C 26 d_Frm_data_22 (by decide) ?_
    exact P_iretE C hr (by first | (rw [if_pos (by omega)]; rfl) | (rw [if_neg (by omega)])) d_Frm_data_26

set_option maxHeartbeats 4000000 in
set_option maxRecDepth 100000 in
theorem p_blocksFor (l : Launch) (D : va_G) (dA : Nat → ClassId) (M : Mem) (n : Nat) (hn : n < 1000) : PT l D dA k_Sto_blocksFor 0 90 [.int (nI n)] (E M) (.int (nI ((n + 20 - 1) / 20))) := by
  refine PT.of (by decide +kernel) (Nat.le_of_ble_eq_true rfl) (by intro v hv; simp only [List.mem_cons, List.not_mem_nil, or_false] at hv; rcases hv with rfl <;> rfl) ?_
  intro A ad0 p e s m args below meth c C hr
  refine J_iload_n C 0 d_Sto_blocksFor_0 rfl rfl ?_
  refine J_bipush C d_Sto_blocksFor_1 (v := nI 20) rfl ?_
  refine J_iaddN C d_Sto_blocksFor_3 ?_
  refine J_iconst C d_Sto_blocksFor_4 (v := nI 1) rfl ?_
  refine J_isubN C d_Sto_blocksFor_5 (by omega) ?_
  refine J_bipush C d_Sto_blocksFor_6 (v := nI 20) rfl ?_
  refine J_idivN C d_Sto_blocksFor_8 (by omega) (by omega) (by omega) ?_
  exact P_iretE C hr rfl d_Sto_blocksFor_9

set_option maxHeartbeats 4000000 in
set_option maxRecDepth 100000 in
theorem p_hasRoom (l : Launch) (D : va_G) (dA : Nat → ClassId) (M : Mem) (b f : Nat) (hf : M 3 4 = nI f) (hb : b < 1000) (hf2 : f < 1000) : PT l D dA k_Sto_hasRoom 0 90 [.ref 3, .int (nI b)] (E M) (.int (if f < b then 0 else 1)) := by
  refine PT.of (by decide +kernel) (Nat.le_of_ble_eq_true rfl) (by intro v hv; simp only [List.mem_cons, List.not_mem_nil, or_false] at hv; rcases hv with rfl | rfl <;> rfl) ?_
  intro A ad0 p e s m args below meth c C hr
  refine J_iload_n C 1 d_Sto_hasRoom_0 rfl rfl ?_
  refine J_aload_n C 0 d_Sto_hasRoom_1 rfl rfl ?_
  refine J_get C f_Sto_27 (by decide) (e_3 _) rfl d_Sto_hasRoom_2 ?_
  refine J_val (y := nI f) hf ?_
  refine J_icmpN_gt C 12 d_Sto_hasRoom_5 (by decide) (by omega) (by omega) (fun hc5 => ?_) (fun hc5 => ?_)
  · refine J_iconst C d_Sto_hasRoom_12 (v := nI 0) rfl ?_
    exact P_zretE C hr (Or.inl rfl) (by first | (rw [if_pos (by omega)]; rfl) | (rw [if_neg (by omega)]; rfl)) d_Sto_hasRoom_13
  · refine J_iconst C d_Sto_hasRoom_8 (v := nI 1) rfl ?_
    refine J_goto C 13 d_Sto_hasRoom_9 (by decide) ?_
    exact P_zretE C hr (Or.inr rfl) (by first | (rw [if_pos (by omega)]; rfl) | (rw [if_neg (by omega)]; rfl)) d_Sto_hasRoom_13

set_option maxHeartbeats 4000000 in
set_option maxRecDepth 100000 in
theorem p_has (l : Launch) (D : va_G) (dA : Nat → ClassId) (M : Mem) (i : Int32) : PT l D dA k_Sto_has 0 90 [.ref 3, .int i] (E M) (.int (if i < 0 then 0 else if M 3 3 ≤ i then 0 else 1)) := by
  refine PT.of (by decide +kernel) (Nat.le_of_ble_eq_true rfl) (by intro v hv; simp only [List.mem_cons, List.not_mem_nil, or_false] at hv; rcases hv with rfl | rfl <;> rfl) ?_
  intro A ad0 p e s m args below meth c C hr
  refine J_iload_n C 1 d_Sto_has_0 rfl rfl ?_
  refine J_if_lt C 16 d_Sto_has_1 (by decide) (fun hc1 => ?_) (fun hc1 => ?_)
  · refine J_iconst C d_Sto_has_16 (v := nI 0) rfl ?_
    exact P_zretE C hr (Or.inl rfl) (by simp only [hc1, if_true, if_false, if_pos, if_neg, not_false_eq_true]; try rfl) d_Sto_has_17
  · refine J_iload_n C 1 d_Sto_has_4 rfl rfl ?_
    refine J_aload_n C 0 d_Sto_has_5 rfl rfl ?_
    refine J_get C f_Sto_23 (by decide) (e_3 _) rfl d_Sto_has_6 ?_
    refine J_icmp_ge C 16 d_Sto_has_9 (by decide) (fun hc9 => ?_) (fun hc9 => ?_)
    · refine J_iconst C d_Sto_has_16 (v := nI 0) rfl ?_
      exact P_zretE C hr (Or.inl rfl) (by simp only [hc1, hc9, if_true, if_false, if_pos, if_neg, not_false_eq_true]; try rfl) d_Sto_has_17
    · refine J_iconst C d_Sto_has_12 (v := nI 1) rfl ?_
      refine J_goto C 17 d_Sto_has_13 (by decide) ?_
      exact P_zretE C hr (Or.inr rfl) (by simp only [hc1, hc9, if_true, if_false, if_pos, if_neg, not_false_eq_true]; try rfl) d_Sto_has_17

set_option maxHeartbeats 4000000 in
set_option maxRecDepth 100000 in
theorem p_byteOf (l : Launch) (D : va_G) (dA : Nat → ClassId) (M : Mem) (j k b : Nat) (hj : j < 24) (hk : k < 60) (hb : M (8 + 2 * j) (k / 20) = nI b) (hb2 : b < 24) : PT l D dA k_Sto_byteOf 0 90 [.ref 3, .ref (7 + 2 * j), .int (nI k)] (E M) (.int (M 4 (b * 20 + k % 20))) := by
  refine PT.of (by decide +kernel) (Nat.le_of_ble_eq_true rfl) (by intro v hv; simp only [List.mem_cons, List.not_mem_nil, or_false] at hv; rcases hv with rfl | rfl | rfl <;> rfl) ?_
  intro A ad0 p e s m args below meth c C hr
  refine J_aload_n C 0 d_Sto_byteOf_0 rfl rfl ?_
  refine J_get C f_Sto_9 (by decide) (e_3 _) rfl d_Sto_byteOf_1 ?_
  refine J_aload_n C 1 d_Sto_byteOf_4 rfl rfl ?_
  refine J_get C f_Sto_47 (by omega) (e_pk _ (by omega)) rfl d_Sto_byteOf_5 ?_
  refine J_iload_n C 2 d_Sto_byteOf_8 rfl rfl ?_
  refine J_bipush C d_Sto_byteOf_9 (v := nI 20) rfl ?_
  refine J_idivN C d_Sto_byteOf_11 (by omega) (by omega) (by omega) ?_
  refine K_ial C (a_pb (by omega)) (j := k / 20) rfl (by omega) d_Sto_byteOf_12 ?_
  refine J_val (y := nI b) hb ?_
  refine J_bipush C d_Sto_byteOf_13 (v := nI 20) rfl ?_
  refine J_imulN C d_Sto_byteOf_15 ?_
  refine J_iload_n C 2 d_Sto_byteOf_16 rfl rfl ?_
  refine J_bipush C d_Sto_byteOf_17 (v := nI 20) rfl ?_
  refine J_iremN C d_Sto_byteOf_19 (by omega) (by omega) (by omega) ?_
  refine J_iaddN C d_Sto_byteOf_20 ?_
  refine K_ial C a_4 (j := (b * 20) + (k % 20)) rfl (by omega) d_Sto_byteOf_21 ?_
  exact P_iretE C hr rfl d_Sto_byteOf_22

def fPla (f : Nat → Int32) (n a : Nat) : Int32 :=
  if n - a < 7 then 0 else if f a < nI 8 then 0 else if f a ≤ nI 15 then (if nI (n - a) < f (a + 4) * nI 256 + f (a + 5) + nI 7 then 0 else f (a + 4) * nI 256 + f (a + 5) + nI 7) else 0
set_option maxHeartbeats 4000000 in
set_option maxRecDepth 100000 in
theorem p_packetLengthAt (l : Launch) (D : va_G) (dA : Nat → ClassId) (M : Mem) (n a : Nat) (hn : M 56 3 = nI n) (hn2 : n ≤ 60) (ha : a ≤ n) : PT l D dA k_Har_packetLengthAt 0 90 [.ref 56, .int (nI a)] (E M) (.int (fPla (M 57) n a)) := by
  refine PT.of (by decide +kernel) (Nat.le_of_ble_eq_true rfl) (by intro v hv; simp only [List.mem_cons, List.not_mem_nil, or_false] at hv; rcases hv with rfl | rfl <;> rfl) ?_
  intro A ad0 p e s m args below meth c C hr
  refine J_aload_n C 0 d_Har_packetLengthAt_0 rfl rfl ?_
  refine J_get C f_Har_21 (by decide) (e_56 _) rfl d_Har_packetLengthAt_1 ?_
  refine J_val (y := nI n) hn ?_
  refine J_iload_n C 1 d_Har_packetLengthAt_4 rfl rfl ?_
  refine J_isubN C d_Har_packetLengthAt_5 (by omega) ?_
  refine J_bipush C d_Har_packetLengthAt_6 (v := nI 7) rfl ?_
  refine J_icmpN_lt C 33 d_Har_packetLengthAt_8 (by decide) (by omega) (by omega) (fun hc8 => ?_) (fun hc8 => ?_)
  · refine J_iconst C d_Har_packetLengthAt_33 (v := nI 0) rfl ?_
    exact P_iretE C hr (by simp only [fPla]; first | (rw [if_pos (by omega)]; rfl) | (rw [if_neg (by omega)]; simp only [hc8, if_true, if_false, not_false_eq_true]; try rfl)) d_Har_packetLengthAt_34
  · refine J_aload_n C 0 d_Har_packetLengthAt_11 rfl rfl ?_
    refine J_get C f_Har_9 (by decide) (e_56 _) rfl d_Har_packetLengthAt_12 ?_
    refine J_iload_n C 1 d_Har_packetLengthAt_15 rfl rfl ?_
    refine K_ial C a_57 (j := a) rfl (by omega) d_Har_packetLengthAt_16 ?_
    refine J_bipush C d_Har_packetLengthAt_17 (v := nI 8) rfl ?_
    refine J_icmp_lt C 33 d_Har_packetLengthAt_19 (by decide) (fun hc19 => ?_) (fun hc19 => ?_)
    · refine J_iconst C d_Har_packetLengthAt_33 (v := nI 0) rfl ?_
      exact P_iretE C hr (by simp only [fPla]; first | (rw [if_pos (by omega)]; rfl) | (rw [if_neg (by omega)]; simp only [hc8, hc19, if_true, if_false, not_false_eq_true]; try rfl)) d_Har_packetLengthAt_34
    · refine J_aload_n C 0 d_Har_packetLengthAt_22 rfl rfl ?_
      refine J_get C f_Har_9 (by decide) (e_56 _) rfl d_Har_packetLengthAt_23 ?_
      refine J_iload_n C 1 d_Har_packetLengthAt_26 rfl rfl ?_
      refine K_ial C a_57 (j := a) rfl (by omega) d_Har_packetLengthAt_27 ?_
      refine J_bipush C d_Har_packetLengthAt_28 (v := nI 15) rfl ?_
      refine J_icmp_le C 35 d_Har_packetLengthAt_30 (by decide) (fun hc30 => ?_) (fun hc30 => ?_)
      · refine J_aload_n C 0 d_Har_packetLengthAt_35 rfl rfl ?_
        refine J_get C f_Har_9 (by decide) (e_56 _) rfl d_Har_packetLengthAt_36 ?_
        refine J_iload_n C 1 d_Har_packetLengthAt_39 rfl rfl ?_
        refine J_iconst C d_Har_packetLengthAt_40 (v := nI 4) rfl ?_
        refine J_iaddN C d_Har_packetLengthAt_41 ?_
        refine K_ial C a_57 (j := a + 4) rfl (by omega) d_Har_packetLengthAt_42 ?_
        refine J_sipush C d_Har_packetLengthAt_43 (v := nI 256) rfl ?_
        refine J_imul C d_Har_packetLengthAt_46 ?_
        refine J_aload_n C 0 d_Har_packetLengthAt_47 rfl rfl ?_
        refine J_get C f_Har_9 (by decide) (e_56 _) rfl d_Har_packetLengthAt_48 ?_
        refine J_iload_n C 1 d_Har_packetLengthAt_51 rfl rfl ?_
        refine J_iconst C d_Har_packetLengthAt_52 (v := nI 5) rfl ?_
        refine J_iaddN C d_Har_packetLengthAt_53 ?_
        refine K_ial C a_57 (j := a + 5) rfl (by omega) d_Har_packetLengthAt_54 ?_
        refine J_iadd C d_Har_packetLengthAt_55 ?_
        refine J_bipush C d_Har_packetLengthAt_56 (v := nI 7) rfl ?_
        refine J_iadd C d_Har_packetLengthAt_58 ?_
        refine J_istore_n C 2 d_Har_packetLengthAt_59 rfl (by decide) rfl ?_
        refine J_iload_n C 2 d_Har_packetLengthAt_60 rfl rfl ?_
        refine J_aload_n C 0 d_Har_packetLengthAt_61 rfl rfl ?_
        refine J_get C f_Har_21 (by decide) (e_56 _) rfl d_Har_packetLengthAt_62 ?_
        refine J_val (y := nI n) hn ?_
        refine J_iload_n C 1 d_Har_packetLengthAt_65 rfl rfl ?_
        refine J_isubN C d_Har_packetLengthAt_66 (by omega) ?_
        refine J_icmp_gt C 74 d_Har_packetLengthAt_67 (by decide) (fun hc67 => ?_) (fun hc67 => ?_)
        · refine J_iconst C d_Har_packetLengthAt_74 (v := nI 0) rfl ?_
          exact P_iretE C hr (by simp only [fPla]; first | (rw [if_pos (by omega)]; rfl) | (rw [if_neg (by omega)]; simp only [hc8, hc19, hc30, hc67, if_true, if_false, not_false_eq_true]; try rfl)) d_Har_packetLengthAt_75
        · refine J_iload_n C 2 d_Har_packetLengthAt_70 rfl rfl ?_
          refine J_goto C 75 d_Har_packetLengthAt_71 (by decide) ?_
          exact P_iretE C hr (by simp only [fPla]; first | (rw [if_pos (by omega)]; rfl) | (rw [if_neg (by omega)]; simp only [hc8, hc19, hc30, hc67, if_true, if_false, not_false_eq_true]; try rfl)) d_Har_packetLengthAt_75
      · refine J_iconst C d_Har_packetLengthAt_33 (v := nI 0) rfl ?_
        exact P_iretE C hr (by simp only [fPla]; first | (rw [if_pos (by omega)]; rfl) | (rw [if_neg (by omega)]; simp only [hc8, hc19, hc30, if_true, if_false, not_false_eq_true]; try rfl)) d_Har_packetLengthAt_34
