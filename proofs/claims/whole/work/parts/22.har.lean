/-- a packet's length at a, in a row of n bytes g; 0 if there is none -/
def Pla (g : Nat → Nat) (n a : Nat) : Nat := if n - a < 7 then 0 else if g a < 8 then 0 else if 15 < g a then 0 else if n - a < g (a + 4) * 256 + g (a + 5) + 7 then 0 else g (a + 4) * 256 + g (a + 5) + 7
theorem Pla_le (g : Nat → Nat) (n a : Nat) : Pla g n a ≤ n - a := by unfold Pla; split; omega; split; omega; split; omega; split <;> omega
def nb (n : Nat) : Nat := (n + 19) / 20
set_option maxHeartbeats 4000000 in
set_option maxRecDepth 100000 in
theorem p_pla (l : Launch) (D : va_G) (dA : Nat → ClassId) (M : Mem) (n a : Nat) (hn : M 56 3 = nI n) (hn2 : n ≤ 60) (ha : a ≤ n) (g : Nat → Nat) (hg : ∀ i, i < n → M 57 i = nI (g i)) (hg2 : ∀ i, i < n → g i < 256) : PT l D dA k_Har_packetLengthAt 0 90 [.ref 56, .int (nI a)] (E M) (.int (nI (Pla g n a))) := by
  refine PT.of (by decide +kernel) (Nat.le_of_ble_eq_true rfl) (by intro v hv; simp only [List.mem_cons, List.not_mem_nil, or_false] at hv; rcases hv with rfl | rfl <;> rfl) ?_
  intro A ad0 p e s m args below meth c C hr
  refine J_aload_n C 0 d_Har_packetLengthAt_0 rfl rfl ?_
  refine J_get C f_Har_21 (by decide) (e_56 _) rfl d_Har_packetLengthAt_1 ?_
  refine J_val (y := nI n) hn ?_
  refine J_iload_n C 1 d_Har_packetLengthAt_4 rfl rfl ?_
  refine J_isubN C d_Har_packetLengthAt_5 (by omega) ?_
  refine J_bipush C d_Har_packetLengthAt_6 (v := nI 7) rfl ?_
  refine J_icmpN_lt C 33 d_Har_packetLengthAt_8 (by decide) (by omega) (by omega) (fun hc8 => ?_) (fun hc8 => ?_)
  · refine J_iconst C d_Har_packetLengthAt_33 (v := nI 0) rfl ?_
    exact P_iretE C hr (by unfold Pla; (repeat' split) <;> first | rfl | (exfalso; omega)) d_Har_packetLengthAt_34
  · refine J_aload_n C 0 d_Har_packetLengthAt_11 rfl rfl ?_
    refine J_get C f_Har_9 (by decide) (e_56 _) rfl d_Har_packetLengthAt_12 ?_
    refine J_iload_n C 1 d_Har_packetLengthAt_15 rfl rfl ?_
    refine K_ial C a_57 (j := a) rfl (by omega) d_Har_packetLengthAt_16 ?_
    refine J_val (y := nI (g a)) (hg _ (by omega)) ?_
    have b1 := hg2 a (by omega)
    refine J_bipush C d_Har_packetLengthAt_17 (v := nI 8) rfl ?_
    refine J_icmpN_lt C 33 d_Har_packetLengthAt_19 (by decide) (by omega) (by omega) (fun hc19 => ?_) (fun hc19 => ?_)
    · refine J_iconst C d_Har_packetLengthAt_33 (v := nI 0) rfl ?_
      exact P_iretE C hr (by unfold Pla; (repeat' split) <;> first | rfl | (exfalso; omega)) d_Har_packetLengthAt_34
    · refine J_aload_n C 0 d_Har_packetLengthAt_22 rfl rfl ?_
      refine J_get C f_Har_9 (by decide) (e_56 _) rfl d_Har_packetLengthAt_23 ?_
      refine J_iload_n C 1 d_Har_packetLengthAt_26 rfl rfl ?_
      refine K_ial C a_57 (j := a) rfl (by omega) d_Har_packetLengthAt_27 ?_
      refine J_val (y := nI (g a)) (hg _ (by omega)) ?_
      refine J_bipush C d_Har_packetLengthAt_28 (v := nI 15) rfl ?_
      refine J_icmpN_le C 35 d_Har_packetLengthAt_30 (by decide) (by omega) (by omega) (fun hc30 => ?_) (fun hc30 => ?_)
      · have b4 := hg2 (a + 4) (by omega)
        have b5 := hg2 (a + 5) (by omega)
        refine J_aload_n C 0 d_Har_packetLengthAt_35 rfl rfl ?_
        refine J_get C f_Har_9 (by decide) (e_56 _) rfl d_Har_packetLengthAt_36 ?_
        refine J_iload_n C 1 d_Har_packetLengthAt_39 rfl rfl ?_
        refine J_iconst C d_Har_packetLengthAt_40 (v := nI 4) rfl ?_
        refine J_iaddN C d_Har_packetLengthAt_41 ?_
        refine K_ial C a_57 (j := a + 4) rfl (by omega) d_Har_packetLengthAt_42 ?_
        refine J_val (y := nI (g (a + 4))) (hg _ (by omega)) ?_
        refine J_sipush C d_Har_packetLengthAt_43 (v := nI 256) rfl ?_
        refine J_imulN C d_Har_packetLengthAt_46 ?_
        refine J_aload_n C 0 d_Har_packetLengthAt_47 rfl rfl ?_
        refine J_get C f_Har_9 (by decide) (e_56 _) rfl d_Har_packetLengthAt_48 ?_
        refine J_iload_n C 1 d_Har_packetLengthAt_51 rfl rfl ?_
        refine J_iconst C d_Har_packetLengthAt_52 (v := nI 5) rfl ?_
        refine J_iaddN C d_Har_packetLengthAt_53 ?_
        refine K_ial C a_57 (j := a + 5) rfl (by omega) d_Har_packetLengthAt_54 ?_
        refine J_val (y := nI (g (a + 5))) (hg _ (by omega)) ?_
        refine J_iaddN C d_Har_packetLengthAt_55 ?_
        refine J_bipush C d_Har_packetLengthAt_56 (v := nI 7) rfl ?_
        refine J_iaddN C d_Har_packetLengthAt_58 ?_
        refine J_istore_n C 2 d_Har_packetLengthAt_59 rfl (by decide) rfl ?_
        refine J_iload_n C 2 d_Har_packetLengthAt_60 rfl rfl ?_
        refine J_aload_n C 0 d_Har_packetLengthAt_61 rfl rfl ?_
        refine J_get C f_Har_21 (by decide) (e_56 _) rfl d_Har_packetLengthAt_62 ?_
        refine J_val (y := nI n) hn ?_
        refine J_iload_n C 1 d_Har_packetLengthAt_65 rfl rfl ?_
        refine J_isubN C d_Har_packetLengthAt_66 (by omega) ?_
        refine J_icmpN_gt C 74 d_Har_packetLengthAt_67 (by decide) (by omega) (by omega) (fun hc67 => ?_) (fun hc67 => ?_)
        · refine J_iconst C d_Har_packetLengthAt_74 (v := nI 0) rfl ?_
          exact P_iretE C hr (by unfold Pla; (repeat' split) <;> first | rfl | (exfalso; omega)) d_Har_packetLengthAt_75
        · refine J_iload_n C 2 d_Har_packetLengthAt_70 rfl rfl ?_
          refine J_goto C 75 d_Har_packetLengthAt_71 (by decide) ?_
          exact P_iretE C hr (by unfold Pla; (repeat' split) <;> first | rfl | (exfalso; omega)) d_Har_packetLengthAt_75
      · refine J_iconst C d_Har_packetLengthAt_33 (v := nI 0) rfl ?_
        exact P_iretE C hr (by unfold Pla; (repeat' split) <;> first | rfl | (exfalso; omega)) d_Har_packetLengthAt_34

set_option maxHeartbeats 4000000 in
set_option maxRecDepth 100000 in
theorem f_hclear (l : Launch) (D : va_G) (dA : Nat → ClassId) (M : Mem) : CF l D dA k_Har_clear 0 [.ref 56] M (none) (mu (mu M 56 3 (nI 0)) 56 4 (nI 0)) := by
  refine CF.of (by decide +kernel) (Nat.le_of_ble_eq_true rfl) (by intro v hv; simp only [List.mem_cons, List.not_mem_nil, or_false] at hv; rcases hv with rfl <;> rfl) ?_
  intro A ad0 p e s m args below meth c C hr
  refine J_aload_n C 0 d_Har_clear_0 rfl rfl ?_
  refine J_iconst C d_Har_clear_1 (v := nI 0) rfl ?_
  refine K_putI C f_Har_21 (by decide) (e_56 _) (Nat.le_of_ble_eq_true rfl) rfl d_Har_clear_2 (kk := ?_)
  refine J_aload_n C 0 d_Har_clear_5 rfl rfl ?_
  refine J_iconst C d_Har_clear_6 (v := nI 0) rfl ?_
  refine K_putI C f_Har_25 (by decide) (e_56 _) (Nat.le_of_ble_eq_true rfl) rfl d_Har_clear_7 (kk := ?_)
  exact F_ret C hr rfl d_Har_clear_10

set_option maxHeartbeats 4000000 in
set_option maxRecDepth 100000 in
theorem f_append (l : Launch) (D : va_G) (dA : Nat → ClassId) (M : Mem) (n : Nat) (v : Int32) (hn : M 56 3 = nI n) (hn2 : n < 60) : CF l D dA k_Har_append 0 [.ref 56, .int v] M (none) (mu (mu M 57 n v) 56 3 (nI (n + 1))) := by
  refine CF.of (by decide +kernel) (Nat.le_of_ble_eq_true rfl) (by intro v hv; simp only [List.mem_cons, List.not_mem_nil, or_false] at hv; rcases hv with rfl | rfl <;> rfl) ?_
  intro A ad0 p e s m args below meth c C hr
  refine J_aload_n C 0 d_Har_append_0 rfl rfl ?_
  refine J_get C f_Har_21 (by decide) (e_56 _) rfl d_Har_append_1 ?_
  refine J_val (y := nI n) hn ?_
  refine J_bipush C d_Har_append_4 (v := nI 60) rfl ?_
  refine J_icmpN_ge C 29 d_Har_append_6 (by decide) (by omega) (by omega) (fun hc6 => absurd hc6 (by omega)) (fun hc6 => ?_)
  refine J_aload_n C 0 d_Har_append_9 rfl rfl ?_
  refine J_get C f_Har_9 (by decide) (e_56 _) rfl d_Har_append_10 ?_
  refine J_aload_n C 0 d_Har_append_13 rfl rfl ?_
  refine J_get C f_Har_21 (by decide) (e_56 _) rfl d_Har_append_14 ?_
  refine J_val (y := nI n) hn ?_
  refine J_iload_n C 1 d_Har_append_17 rfl rfl ?_
  refine K_ias C a_57 (j := n) rfl (by omega) d_Har_append_18 (kk := ?_)
  refine J_aload_n C 0 d_Har_append_19 rfl rfl ?_
  refine J_dup C d_Har_append_20 rfl ?_
  refine J_get C f_Har_21 (by decide) (e_56 _) rfl d_Har_append_21 ?_
  refine J_val (y := nI n) (by simp [mu, ma, va_up, upd, hn]) ?_
  refine J_iconst C d_Har_append_24 (v := nI 1) rfl ?_
  refine J_iaddN C d_Har_append_25 ?_
  refine K_putI C f_Har_21 (by decide) (e_56 _) (Nat.le_of_ble_eq_true rfl) rfl d_Har_append_26 (kk := ?_)
  exact F_ret C hr rfl d_Har_append_29

/-- what findPackets writes: from place a on, c packets found before, at most r more -/
def fFind (g : Nat → Nat) (n : Nat) : Nat → Nat → Nat → Mem → Mem
  | 0, _, _, M => M
  | r + 1, a, c, M => if Pla g n a = 0 then M else fFind g n r (a + Pla g n a) (c + 1) (mu (mu (mu M 58 c (nI a)) 59 c (nI (Pla g n a))) 56 4 (nI (c + 1)))
set_option maxHeartbeats 4000000 in
set_option maxRecDepth 100000 in
theorem f_findPackets (l : Launch) (D : va_G) (dA : Nat → ClassId) (M M9 : Mem) (n : Nat) (g : Nat → Nat) (hn : M 56 3 = nI n) (hn2 : n ≤ 60) (hc : M 56 4 = nI 0) (hg : ∀ i, i < n → M 57 i = nI (g i)) (hg2 : ∀ i, i < n → g i < 256) (h9 : fFind g n 8 0 0 M = M9) : CF l D dA k_Har_findPackets 1 [.ref 56] M (none) (M9) := by
  refine CF.of (by decide +kernel) (Nat.le_of_ble_eq_true rfl) (by intro v hv; simp only [List.mem_cons, List.not_mem_nil, or_false] at hv; rcases hv with rfl <;> rfl) ?_
  intro A ad0 p e s m args below meth c C hr
  have lp : ∀ (fu : Nat) (a : Nat) (k : Nat) (M : Mem), 8 - k < fu → (k ≤ 8) → (a ≤ n) → (M 56 3 = nI n) → (M 56 4 = nI k) → (∀ i, i < n → M 57 i = nI (g i)) → (fFind g n (8 - k) a k M = M9) → J D dA A (fun _ _ => True) ad0 90 k_Har_findPackets.2.2.1 p l e (zR 1 0 0) s m args below meth c (FQ D dA A ad0 below args s (none) (M9)) 4 [some (.ref 56), some (.int (nI a)), some (.int (nI k)), none] [] (E M) 90 0 0 := by
    intro fu
    induction fu with
    | zero => intro a k M hfu; exact absurd hfu (Nat.not_lt_zero _)
    | succ fu ih =>
      intro a k M hfu hk ha hn hc hg hF
      refine J_iload_n C 2 d_Har_findPackets_4 rfl rfl ?_
      refine J_bipush C d_Har_findPackets_5 (v := nI 8) rfl ?_
      refine J_icmpN_ge C 61 d_Har_findPackets_7 (by decide) (by omega) (by omega) (fun hc7 => ?_) (fun hc7 => ?_)
      · exact F_ret C hr (by rw [show 8 - k = 0 by omega] at hF; exact hF) d_Har_findPackets_61
      · refine J_aload_n C 0 d_Har_findPackets_10 rfl rfl ?_
        refine J_iload_n C 1 d_Har_findPackets_11 rfl rfl ?_
        refine P_callV C (as := [.int (nI a)]) (st := []) (p_pla l D dA M n a (by first | assumption | simpa [mu, va_up] using hn) hn2 (by omega) g (by first | assumption | simpa [mu, va_up] using hg) hg2) l_Har_28 v_Har_packetLengthAt (by decide) (e_56 _) rfl (by decide) (by decide) (by decide) (Nat.le_of_ble_eq_true rfl) d_Har_findPackets_12 (kk := ?_)
        refine J_istore_n C 3 d_Har_findPackets_15 rfl (by decide) rfl ?_
        refine J_iload_n C 3 d_Har_findPackets_16 rfl rfl ?_
        have hq := Pla_le g n a
        refine J_ifN_ne C 21 d_Har_findPackets_17 (by decide) (by omega) (fun hc17 => ?_) (fun hc17 => ?_)
        · refine J_aload_n C 0 d_Har_findPackets_21 rfl rfl ?_
          refine J_get C f_Har_15 (by decide) (e_56 _) rfl d_Har_findPackets_22 ?_
          refine J_aload_n C 0 d_Har_findPackets_25 rfl rfl ?_
          refine J_get C f_Har_25 (by decide) (e_56 _) rfl d_Har_findPackets_26 ?_
          refine J_val (y := nI k) hc ?_
          refine J_iload_n C 1 d_Har_findPackets_29 rfl rfl ?_
          refine K_ias C a_58 (j := k) rfl (by omega) d_Har_findPackets_30 (kk := ?_)
          refine J_aload_n C 0 d_Har_findPackets_31 rfl rfl ?_
          refine J_get C f_Har_18 (by decide) (e_56 _) rfl d_Har_findPackets_32 ?_
          refine J_aload_n C 0 d_Har_findPackets_35 rfl rfl ?_
          refine J_get C f_Har_25 (by decide) (e_56 _) rfl d_Har_findPackets_36 ?_
          refine J_val (y := nI k) (by simp [mu, ma, va_up, upd, hc]) ?_
          refine J_iload_n C 3 d_Har_findPackets_39 rfl rfl ?_
          refine K_ias C a_59 (j := k) rfl (by omega) d_Har_findPackets_40 (kk := ?_)
          refine J_aload_n C 0 d_Har_findPackets_41 rfl rfl ?_
          refine J_dup C d_Har_findPackets_42 rfl ?_
          refine J_get C f_Har_25 (by decide) (e_56 _) rfl d_Har_findPackets_43 ?_
          refine J_val (y := nI k) (by simp [mu, ma, va_up, upd, hc]) ?_
          refine J_iconst C d_Har_findPackets_46 (v := nI 1) rfl ?_
          refine J_iaddN C d_Har_findPackets_47 ?_
          refine K_putI C f_Har_25 (by decide) (e_56 _) (Nat.le_of_ble_eq_true rfl) rfl d_Har_findPackets_48 (kk := ?_)
          refine J_iload_n C 1 d_Har_findPackets_51 rfl rfl ?_
          refine J_iload_n C 3 d_Har_findPackets_52 rfl rfl ?_
          refine J_iaddN C d_Har_findPackets_53 ?_
          refine J_istore_n C 1 d_Har_findPackets_54 rfl (by decide) rfl ?_
          refine J_iinc C d_Har_findPackets_55 rfl (v := nI (k + 1)) (nI_1 _) (by decide) rfl ?_
          refine J_goto C 4 d_Har_findPackets_58 (by decide) ?_
          refine J_lv (lv' := [some (.ref 56), some (.int (nI (a + Pla g n a))), some (.int (nI (k + 1))), none]) (by intro i v hv; match i, hv with | 0, hv => exact hv | 1, hv => exact hv | 2, hv => exact hv | 3, hv => simp at hv) ?_
          exact ih (a + Pla g n a) (k + 1) _ (by omega) (by omega) (by have := Pla_le g n a; omega) (by simp [mu, va_up, upd, hn]) (by simp [mu, va_up, upd]) (by intro i hi; simp [mu, va_up]; exact hg i hi) (by rw [show 8 - k = (8 - (k + 1)) + 1 by omega] at hF; unfold fFind at hF; rw [if_neg (by assumption)] at hF; exact hF)
        · exact F_ret C hr (by rw [show 8 - k = (8 - (k + 1)) + 1 by omega] at hF; unfold fFind at hF; rw [if_pos (by assumption)] at hF; exact hF) d_Har_findPackets_20
  refine J_iconst C d_Har_findPackets_0 (v := nI 0) rfl ?_
  refine J_istore_n C 1 d_Har_findPackets_1 rfl (by decide) rfl ?_
  refine J_iconst C d_Har_findPackets_2 (v := nI 0) rfl ?_
  refine J_istore_n C 2 d_Har_findPackets_3 rfl (by decide) rfl ?_
  exact lp 9 0 0 M (by omega) (by omega) (by omega) hn hc hg h9

set_option maxHeartbeats 4000000 in
set_option maxRecDepth 100000 in
theorem f_findOne (l : Launch) (D : va_G) (dA : Nat → ClassId) (M : Mem) (n : Nat) (g : Nat → Nat) (hn : M 56 3 = nI n) (hn2 : n ≤ 60) (hg : ∀ i, i < n → M 57 i = nI (g i)) (hg2 : ∀ i, i < n → g i < 256) : CF l D dA k_Har_findOneWholePacket 1 [.ref 56] M (none) (if 0 < n ∧ Pla g n 0 = n then mu (mu (mu M 58 0 (nI 0)) 59 0 (nI n)) 56 4 (nI 1) else M) := by
  refine CF.of (by decide +kernel) (Nat.le_of_ble_eq_true rfl) (by intro v hv; simp only [List.mem_cons, List.not_mem_nil, or_false] at hv; rcases hv with rfl <;> rfl) ?_
  intro A ad0 p e s m args below meth c C hr
  refine J_aload_n C 0 d_Har_findOneWholePacket_0 rfl rfl ?_
  refine J_get C f_Har_21 (by decide) (e_56 _) rfl d_Har_findOneWholePacket_1 ?_
  refine J_val (y := nI n) hn ?_
  refine J_ifN_le C 41 d_Har_findOneWholePacket_4 (by decide) (by omega) (fun hc4 => ?_) (fun hc4 => ?_)
  · exact F_ret C hr (by split <;> first | rfl | (exfalso; omega)) d_Har_findOneWholePacket_41
  · refine J_aload_n C 0 d_Har_findOneWholePacket_7 rfl rfl ?_
    refine J_iconst C d_Har_findOneWholePacket_8 (v := nI 0) rfl ?_
    refine P_callV C (as := [.int (nI 0)]) (st := []) (p_pla l D dA M n 0 (by first | assumption | simpa [mu, va_up] using hn) hn2 (by omega) g (by first | assumption | simpa [mu, va_up] using hg) hg2) l_Har_28 v_Har_packetLengthAt (by decide) (e_56 _) rfl (by decide) (by decide) (by decide) (Nat.le_of_ble_eq_true rfl) d_Har_findOneWholePacket_9 (kk := ?_)
    have hq := Pla_le g n 0
    refine J_aload_n C 0 d_Har_findOneWholePacket_12 rfl rfl ?_
    refine J_get C f_Har_21 (by decide) (e_56 _) rfl d_Har_findOneWholePacket_13 ?_
    refine J_val (y := nI n) hn ?_
    refine J_icmpN_ne C 41 d_Har_findOneWholePacket_16 (by decide) (by omega) (by omega) (fun hc16 => ?_) (fun hc16 => ?_)
    · exact F_ret C hr (by split <;> first | rfl | (exfalso; omega)) d_Har_findOneWholePacket_41
    · refine J_aload_n C 0 d_Har_findOneWholePacket_19 rfl rfl ?_
      refine J_get C f_Har_15 (by decide) (e_56 _) rfl d_Har_findOneWholePacket_20 ?_
      refine J_iconst C d_Har_findOneWholePacket_23 (v := nI 0) rfl ?_
      refine J_iconst C d_Har_findOneWholePacket_24 (v := nI 0) rfl ?_
      refine K_ias C a_58 (j := 0) rfl (by omega) d_Har_findOneWholePacket_25 (kk := ?_)
      refine J_aload_n C 0 d_Har_findOneWholePacket_26 rfl rfl ?_
      refine J_get C f_Har_18 (by decide) (e_56 _) rfl d_Har_findOneWholePacket_27 ?_
      refine J_iconst C d_Har_findOneWholePacket_30 (v := nI 0) rfl ?_
      refine J_aload_n C 0 d_Har_findOneWholePacket_31 rfl rfl ?_
      refine J_get C f_Har_21 (by decide) (e_56 _) rfl d_Har_findOneWholePacket_32 ?_
      refine J_val (y := nI n) (by simp [mu, ma, va_up, upd, hn]) ?_
      refine K_ias C a_59 (j := 0) rfl (by omega) d_Har_findOneWholePacket_35 (kk := ?_)
      refine J_aload_n C 0 d_Har_findOneWholePacket_36 rfl rfl ?_
      refine J_iconst C d_Har_findOneWholePacket_37 (v := nI 1) rfl ?_
      refine K_putI C f_Har_25 (by decide) (e_56 _) (Nat.le_of_ble_eq_true rfl) rfl d_Har_findOneWholePacket_38 (kk := ?_)
      exact F_ret C hr (by split <;> first | rfl | (exfalso; omega)) d_Har_findOneWholePacket_41

def fSumB (ln : Nat → Nat) : Nat → Nat
  | 0 => 0
  | k + 1 => fSumB ln k + (ln k + 20 - 1) / 20
theorem fSumB_le {ln : Nat → Nat} (k : Nat) (h : ∀ i, i < k → ln i ≤ 60) : fSumB ln k ≤ 3 * k := by
  induction k with
  | zero => simp [fSumB]
  | succ k ih =>
    have h1 := ih (fun i hi => h i (by omega))
    have h2 := h k (by omega)
    unfold fSumB
    omega
set_option maxHeartbeats 4000000 in
set_option maxRecDepth 100000 in
theorem p_blocksOfAll (l : Launch) (D : va_G) (dA : Nat → ClassId) (M : Mem) (c0 : Nat) (ln : Nat → Nat) (hc : M 56 4 = nI c0) (hc2 : c0 ≤ 8) (hl : ∀ i, i < c0 → M 59 i = nI (ln i)) (hl2 : ∀ i, i < c0 → ln i ≤ 60) : PT l D dA k_Har_blocksOfAll 1 90 [.ref 56] (E M) (.int (nI (fSumB ln c0))) := by
  refine PT.of (by decide +kernel) (Nat.le_of_ble_eq_true rfl) (by intro v hv; simp only [List.mem_cons, List.not_mem_nil, or_false] at hv; rcases hv with rfl <;> rfl) ?_
  intro A ad0 p e s m args below meth c C hr
  have lp : ∀ (fu : Nat) (k : Nat), c0 - k < fu → (k ≤ c0) → J D dA A (fun H locs => H = s.heap ∧ locs = []) ad0 90 k_Har_blocksOfAll.2.2.1 p l e (zR 1 0 0) s m args below meth c (MQ below (zQp ad0 (.int (nI (fSumB ln c0)))) args s 0 0 (fun _ => False)) 4 [some (.ref 56), some (.int (nI (fSumB ln k))), some (.int (nI k))] [] (E M) 90 0 0 := by
    intro fu
    induction fu with
    | zero => intro k hfu; exact absurd hfu (Nat.not_lt_zero _)
    | succ fu ih =>
      intro k hfu hk
      refine J_iload_n C 2 d_Har_blocksOfAll_4 rfl rfl ?_
      refine J_aload_n C 0 d_Har_blocksOfAll_5 rfl rfl ?_
      refine J_get C f_Har_25 (by decide) (e_56 _) rfl d_Har_blocksOfAll_6 ?_
      refine J_val (y := nI c0) hc ?_
      refine J_icmpN_ge C 30 d_Har_blocksOfAll_9 (by decide) (by omega) (by omega) (fun hc9 => ?_) (fun hc9 => ?_)
      · refine J_iload_n C 1 d_Har_blocksOfAll_30 rfl rfl ?_
        exact P_iretE C hr (by rw [show c0 = k by omega]) d_Har_blocksOfAll_31
      · have b2 := fSumB_le (ln := ln) k (fun i hi => hl2 i (by omega))
        refine J_iload_n C 1 d_Har_blocksOfAll_12 rfl rfl ?_
        refine J_aload_n C 0 d_Har_blocksOfAll_13 rfl rfl ?_
        refine J_get C f_Har_18 (by decide) (e_56 _) rfl d_Har_blocksOfAll_14 ?_
        refine J_iload_n C 2 d_Har_blocksOfAll_17 rfl rfl ?_
        have b1 := hl2 k (by omega)
        refine K_ial C a_59 (j := k) rfl (by omega) d_Har_blocksOfAll_18 ?_
        refine J_val (y := nI (ln k)) (hl k (by omega)) ?_
        refine P_callS C (as := [.int (nI (ln k))]) (st := [.int (nI (fSumB ln k))]) (p_blocksFor l D dA M (ln k) (by omega)) l_Har_32 s_Sto_blocksFor rfl (by decide) (by decide) (by decide) (Nat.le_of_ble_eq_true rfl) d_Har_blocksOfAll_19 (kk := ?_)
        refine J_iaddN C d_Har_blocksOfAll_22 ?_
        refine J_istore_n C 1 d_Har_blocksOfAll_23 rfl (by decide) rfl ?_
        refine J_iinc C d_Har_blocksOfAll_24 rfl (v := nI (k + 1)) (nI_1 _) (by decide) rfl ?_
        refine J_goto C 4 d_Har_blocksOfAll_27 (by decide) ?_
        exact ih (k + 1) (by omega) (by omega)
  refine J_iconst C d_Har_blocksOfAll_0 (v := nI 0) rfl ?_
  refine J_istore_n C 1 d_Har_blocksOfAll_1 rfl (by decide) rfl ?_
  refine J_iconst C d_Har_blocksOfAll_2 (v := nI 0) rfl ?_
  refine J_istore_n C 2 d_Har_blocksOfAll_3 rfl (by decide) rfl ?_
  exact lp (c0 + 1) 0 (by omega) (by omega)
