def fWrM (M : Mem) : Mem := if M 76 4 ≤ 0 then mu M 76 23 (M 76 23 + nI 1) else if M 76 4 - nI 1 = 0 then mu (mu (mu M 76 23 (M 76 23 + nI 1)) 76 4 (M 76 4 - nI 1)) 76 3 (nI 1) else mu (mu M 76 23 (M 76 23 + nI 1)) 76 4 (M 76 4 - nI 1)
def rWrM (M : Mem) : Int32 := if M 76 4 ≤ 0 then (if M 76 3 = 0 then 1 else 0) else if M 76 4 - nI 1 = 0 then 0 else (if M 76 3 = 0 then 1 else 0)
theorem rWrM_z (M : Mem) : rWrM M = 0 ∨ rWrM M = 1 := by unfold rWrM; (repeat' split) <;> first | exact Or.inl rfl | exact Or.inr rfl
def fJrM (M : Mem) : Mem := if nI 40 ≤ M 76 22 then fWrM (mu M 76 22 (M 76 15)) else M
def rJrM (M : Mem) : Int32 := if nI 40 ≤ M 76 22 then rWrM (mu M 76 22 (M 76 15)) else 1
set_option maxHeartbeats 4000000 in
set_option maxRecDepth 100000 in
theorem fm_write (l : Launch) (D : va_G) (dA : Nat → ClassId) (M : Mem) : CF l D dA k_Mod_write 0 [.ref 76] M (some (.int (rWrM M))) (fWrM M) := by
  refine CF.of (by decide +kernel) (Nat.le_of_ble_eq_true rfl) (by intro v hv; simp only [List.mem_cons, List.not_mem_nil, or_false] at hv; rcases hv with rfl <;> rfl) ?_
  intro A ad0 p e s m args below meth c C hr
  refine J_aload_n C 0 d_Mod_write_0 rfl rfl ?_
  refine J_dup C d_Mod_write_1 rfl ?_
  refine J_get C f_Mod_82 (by decide) (e_76 _) rfl d_Mod_write_2 ?_
  refine J_iconst C d_Mod_write_5 (v := nI 1) rfl ?_
  refine J_iadd C d_Mod_write_6 ?_
  refine K_putI C f_Mod_82 (by decide) (e_76 _) (Nat.le_of_ble_eq_true rfl) rfl d_Mod_write_7 (kk := ?_)
  refine J_aload_n C 0 d_Mod_write_10 rfl rfl ?_
  refine J_get C f_Mod_24 (by decide) (e_76 _) rfl d_Mod_write_11 ?_
  refine J_val (y := M 76 4) rfl ?_
  refine J_if_le C 39 d_Mod_write_14 (by decide) (fun hc14 => ?_) (fun hc14 => ?_)
  · refine J_aload_n C 0 d_Mod_write_39 rfl rfl ?_
    refine J_get C f_Mod_20 (by decide) (e_76 _) rfl d_Mod_write_40 ?_
    refine J_val (y := M 76 3) rfl ?_
    refine J_if_ne C 50 d_Mod_write_43 (by decide) (fun hc43 => ?_) (fun hc43 => ?_)
    · refine J_iconst C d_Mod_write_50 (v := nI 0) rfl ?_
      exact F_zret C hr (Or.inl rfl) (by unfold rWrM; (repeat' split) <;> first | contradiction | (exfalso; omega) | rfl) (by unfold fWrM; (repeat' split) <;> first | contradiction | (exfalso; omega) | rfl) d_Mod_write_51
    · refine J_iconst C d_Mod_write_46 (v := nI 1) rfl ?_
      refine J_goto C 51 d_Mod_write_47 (by decide) ?_
      exact F_zret C hr (Or.inr rfl) (by unfold rWrM; (repeat' split) <;> first | contradiction | (exfalso; omega) | rfl) (by unfold fWrM; (repeat' split) <;> first | contradiction | (exfalso; omega) | rfl) d_Mod_write_51
  · refine J_aload_n C 0 d_Mod_write_17 rfl rfl ?_
    refine J_dup C d_Mod_write_18 rfl ?_
    refine J_get C f_Mod_24 (by decide) (e_76 _) rfl d_Mod_write_19 ?_
    refine J_val (y := M 76 4) rfl ?_
    refine J_iconst C d_Mod_write_22 (v := nI 1) rfl ?_
    refine J_isub C d_Mod_write_23 ?_
    refine K_putI C f_Mod_24 (by decide) (e_76 _) (Nat.le_of_ble_eq_true rfl) rfl d_Mod_write_24 (kk := ?_)
    refine J_aload_n C 0 d_Mod_write_27 rfl rfl ?_
    refine J_get C f_Mod_24 (by decide) (e_76 _) rfl d_Mod_write_28 ?_
    refine J_val (y := (M 76 4) - (nI 1)) rfl ?_
    refine J_if_ne C 39 d_Mod_write_31 (by decide) (fun hc31 => ?_) (fun hc31 => ?_)
    · refine J_aload_n C 0 d_Mod_write_39 rfl rfl ?_
      refine J_get C f_Mod_20 (by decide) (e_76 _) rfl d_Mod_write_40 ?_
      refine J_val (y := M 76 3) rfl ?_
      refine J_if_ne C 50 d_Mod_write_43 (by decide) (fun hc43 => ?_) (fun hc43 => ?_)
      · refine J_iconst C d_Mod_write_50 (v := nI 0) rfl ?_
        exact F_zret C hr (Or.inl rfl) (by unfold rWrM; (repeat' split) <;> first | contradiction | (exfalso; omega) | rfl) (by unfold fWrM; (repeat' split) <;> first | contradiction | (exfalso; omega) | rfl) d_Mod_write_51
      · refine J_iconst C d_Mod_write_46 (v := nI 1) rfl ?_
        refine J_goto C 51 d_Mod_write_47 (by decide) ?_
        exact F_zret C hr (Or.inr rfl) (by unfold rWrM; (repeat' split) <;> first | contradiction | (exfalso; omega) | rfl) (by unfold fWrM; (repeat' split) <;> first | contradiction | (exfalso; omega) | rfl) d_Mod_write_51
    · refine J_aload_n C 0 d_Mod_write_34 rfl rfl ?_
      refine J_iconst C d_Mod_write_35 (v := nI 1) rfl ?_
      refine K_putZ C f_Mod_20 (by decide) (e_76 _) (Nat.le_of_ble_eq_true rfl) (Or.inr rfl) rfl d_Mod_write_36 (kk := ?_)
      refine J_aload_n C 0 d_Mod_write_39 rfl rfl ?_
      refine J_get C f_Mod_20 (by decide) (e_76 _) rfl d_Mod_write_40 ?_
      refine J_val (y := nI 1) rfl ?_
      refine J_ifN_ne C 50 d_Mod_write_43 (by decide) (by omega) (fun hc43 => ?_) (fun hc43 => absurd hc43 (by decide))
      refine J_iconst C d_Mod_write_50 (v := nI 0) rfl ?_
      exact F_zret C hr (Or.inl rfl) (by unfold rWrM; (repeat' split) <;> first | contradiction | (exfalso; omega) | rfl) (by unfold fWrM; (repeat' split) <;> first | contradiction | (exfalso; omega) | rfl) d_Mod_write_51

set_option maxHeartbeats 4000000 in
set_option maxRecDepth 100000 in
theorem fm_journal (l : Launch) (D : va_G) (dA : Nat → ClassId) (M : Mem) : CF l D dA k_Mod_journal 1 [.ref 76] M (some (.int (rJrM M))) (fJrM M) := by
  refine CF.of (by decide +kernel) (Nat.le_of_ble_eq_true rfl) (by intro v hv; simp only [List.mem_cons, List.not_mem_nil, or_false] at hv; rcases hv with rfl <;> rfl) ?_
  intro A ad0 p e s m args below meth c C hr
  refine J_aload_n C 0 d_Mod_journal_0 rfl rfl ?_
  refine J_get C f_Mod_79 (by decide) (e_76 _) rfl d_Mod_journal_1 ?_
  refine J_bipush C d_Mod_journal_4 (v := nI 40) rfl ?_
  refine J_icmp_ge C 11 d_Mod_journal_6 (by decide) (fun hc6 => ?_) (fun hc6 => ?_)
  · refine J_aload_n C 0 d_Mod_journal_11 rfl rfl ?_
    refine J_aload_n C 0 d_Mod_journal_12 rfl rfl ?_
    refine J_get C f_Mod_58 (by decide) (e_76 _) rfl d_Mod_journal_13 ?_
    refine K_putI C f_Mod_79 (by decide) (e_76 _) (Nat.le_of_ble_eq_true rfl) rfl d_Mod_journal_16 (kk := ?_)
    refine J_aload_n C 0 d_Mod_journal_19 rfl rfl ?_
    refine F_callV C (as := []) (st := []) (fm_write l D dA (mu M 76 22 (M 76 15))) l_Mod_94 v_Mod_write (by decide) (e_76 _) rfl (by decide) (by decide) (Nat.le_of_ble_eq_true rfl) d_Mod_journal_20 (kk := ?_)
    exact F_zret C hr (rWrM_z _) (by unfold rJrM; (repeat' split) <;> first | contradiction | (exfalso; omega) | rfl) (by unfold fJrM; (repeat' split) <;> first | contradiction | (exfalso; omega) | rfl) d_Mod_journal_23
  · refine J_iconst C d_Mod_journal_9 (v := nI 1) rfl ?_
    exact F_zret C hr (Or.inr rfl) (by unfold rJrM; (repeat' split) <;> first | contradiction | (exfalso; omega) | rfl) (by unfold fJrM; (repeat' split) <;> first | contradiction | (exfalso; omega) | rfl) d_Mod_journal_10

set_option maxHeartbeats 4000000 in
set_option maxRecDepth 100000 in
theorem pm_blocksOf (l : Launch) (D : va_G) (dA : Nat → ClassId) (M : Mem) (n : Nat) (hn : n < 1000) : PT l D dA k_Mod_blocksOf 0 90 [.int (nI n)] (E M) (.int (nI ((n + 19) / 20))) := by
  refine PT.of (by decide +kernel) (Nat.le_of_ble_eq_true rfl) (by intro v hv; simp only [List.mem_cons, List.not_mem_nil, or_false] at hv; rcases hv with rfl <;> rfl) ?_
  intro A ad0 p e s m args below meth c C hr
  refine J_iload_n C 0 d_Mod_blocksOf_0 rfl rfl ?_
  refine J_bipush C d_Mod_blocksOf_1 (v := nI 19) rfl ?_
  refine J_iaddN C d_Mod_blocksOf_3 ?_
  refine J_bipush C d_Mod_blocksOf_4 (v := nI 20) rfl ?_
  refine J_idivN C d_Mod_blocksOf_6 (by omega) (by omega) (by omega) ?_
  exact P_iretE C hr rfl d_Mod_blocksOf_7

set_option maxHeartbeats 4000000 in
set_option maxRecDepth 100000 in
theorem pm_thrown (l : Launch) (D : va_G) (dA : Nat → ClassId) (M : Mem) : PT l D dA k_Mod_thrown 0 90 [.ref 76] (E M) (.int (M 76 0)) := by
  refine PT.of (by decide +kernel) (Nat.le_of_ble_eq_true rfl) (by intro v hv; simp only [List.mem_cons, List.not_mem_nil, or_false] at hv; rcases hv with rfl <;> rfl) ?_
  intro A ad0 p e s m args below meth c C hr
  refine J_aload_n C 0 d_Mod_thrown_0 rfl rfl ?_
  refine J_get C f_Mod_7 (by decide) (e_76 _) rfl d_Mod_thrown_1 ?_
  exact P_iretE C hr rfl d_Mod_thrown_4

set_option maxHeartbeats 4000000 in
set_option maxRecDepth 100000 in
theorem pm_seenBy0 (l : Launch) (D : va_G) (dA : Nat → ClassId) (M : Mem) (hp : ¬ (M 77 1).toInt64 = 0) : PT l D dA k_Mod_seenBy 0 90 [.ref 76, .int (nI 0)] (E M) (.int (fOpen (M 76 1) (M 77 0) (M 77 1) (M 77 2))) := by
  refine PT.of (by decide +kernel) (Nat.le_of_ble_eq_true rfl) (by intro v hv; simp only [List.mem_cons, List.not_mem_nil, or_false] at hv; rcases hv with rfl | rfl <;> rfl) ?_
  intro A ad0 p e s m args below meth c C hr
  refine J_aload_n C 0 d_Mod_seenBy_0 rfl rfl ?_
  refine J_get C f_Mod_13 (by decide) (e_76 _) rfl d_Mod_seenBy_1 ?_
  refine J_i2l C d_Mod_seenBy_4 ?_
  refine J_aload_n C 0 d_Mod_seenBy_5 rfl rfl ?_
  refine J_get C f_Mod_16 (by decide) (e_76 _) rfl d_Mod_seenBy_6 ?_
  refine J_iconst C d_Mod_seenBy_9 (v := nI 3) rfl ?_
  refine J_iload_n C 1 d_Mod_seenBy_10 rfl rfl ?_
  refine J_imulN C d_Mod_seenBy_11 ?_
  refine J_val (y := nI 0) rfl ?_
  refine K_ial C a_77 (j := 0) rfl (by omega) d_Mod_seenBy_12 ?_
  refine J_i2l C d_Mod_seenBy_13 ?_
  refine J_ladd C d_Mod_seenBy_14 ?_
  refine J_lstore_n C 2 d_Mod_seenBy_15 rfl (by decide) rfl ?_
  refine J_lload_n C 2 d_Mod_seenBy_16 rfl rfl ?_
  refine J_aload_n C 0 d_Mod_seenBy_17 rfl rfl ?_
  refine J_get C f_Mod_16 (by decide) (e_76 _) rfl d_Mod_seenBy_18 ?_
  refine J_iconst C d_Mod_seenBy_21 (v := nI 3) rfl ?_
  refine J_iload_n C 1 d_Mod_seenBy_22 rfl rfl ?_
  refine J_imulN C d_Mod_seenBy_23 ?_
  refine J_val (y := nI 0) rfl ?_
  refine J_iconst C d_Mod_seenBy_24 (v := nI 1) rfl ?_
  refine J_iaddN C d_Mod_seenBy_25 ?_
  refine J_val (y := nI 1) rfl ?_
  refine K_ial C a_77 (j := 1) rfl (by omega) d_Mod_seenBy_26 ?_
  refine J_i2l C d_Mod_seenBy_27 ?_
  refine J_lrem C d_Mod_seenBy_28 (by assumption) ?_
  refine J_aload_n C 0 d_Mod_seenBy_29 rfl rfl ?_
  refine J_get C f_Mod_16 (by decide) (e_76 _) rfl d_Mod_seenBy_30 ?_
  refine J_iconst C d_Mod_seenBy_33 (v := nI 3) rfl ?_
  refine J_iload_n C 1 d_Mod_seenBy_34 rfl rfl ?_
  refine J_imulN C d_Mod_seenBy_35 ?_
  refine J_val (y := nI 0) rfl ?_
  refine J_iconst C d_Mod_seenBy_36 (v := nI 2) rfl ?_
  refine J_iaddN C d_Mod_seenBy_37 ?_
  refine J_val (y := nI 2) rfl ?_
  refine K_ial C a_77 (j := 2) rfl (by omega) d_Mod_seenBy_38 ?_
  refine J_i2l C d_Mod_seenBy_39 ?_
  refine J_lcmp C d_Mod_seenBy_40 ?_
  refine J_if_ge C 48 d_Mod_seenBy_41 (by decide) (fun hc41 => ?_) (fun hc41 => ?_)
  · refine J_iconst C d_Mod_seenBy_48 (v := nI 0) rfl ?_
    exact P_zretE C hr (Or.inl rfl) (by simp only [fOpen, hc41, if_true, if_false]; try rfl) d_Mod_seenBy_49
  · refine J_iconst C d_Mod_seenBy_44 (v := nI 1) rfl ?_
    refine J_goto C 49 d_Mod_seenBy_45 (by decide) ?_
    exact P_zretE C hr (Or.inr rfl) (by simp only [fOpen, hc41, if_true, if_false]; try rfl) d_Mod_seenBy_49

set_option maxHeartbeats 4000000 in
set_option maxRecDepth 100000 in
theorem pm_seenBy1 (l : Launch) (D : va_G) (dA : Nat → ClassId) (M : Mem) (hp : ¬ (M 77 4).toInt64 = 0) : PT l D dA k_Mod_seenBy 0 90 [.ref 76, .int (nI 1)] (E M) (.int (fOpen (M 76 1) (M 77 3) (M 77 4) (M 77 5))) := by
  refine PT.of (by decide +kernel) (Nat.le_of_ble_eq_true rfl) (by intro v hv; simp only [List.mem_cons, List.not_mem_nil, or_false] at hv; rcases hv with rfl | rfl <;> rfl) ?_
  intro A ad0 p e s m args below meth c C hr
  refine J_aload_n C 0 d_Mod_seenBy_0 rfl rfl ?_
  refine J_get C f_Mod_13 (by decide) (e_76 _) rfl d_Mod_seenBy_1 ?_
  refine J_i2l C d_Mod_seenBy_4 ?_
  refine J_aload_n C 0 d_Mod_seenBy_5 rfl rfl ?_
  refine J_get C f_Mod_16 (by decide) (e_76 _) rfl d_Mod_seenBy_6 ?_
  refine J_iconst C d_Mod_seenBy_9 (v := nI 3) rfl ?_
  refine J_iload_n C 1 d_Mod_seenBy_10 rfl rfl ?_
  refine J_imulN C d_Mod_seenBy_11 ?_
  refine J_val (y := nI 3) rfl ?_
  refine K_ial C a_77 (j := 3) rfl (by omega) d_Mod_seenBy_12 ?_
  refine J_i2l C d_Mod_seenBy_13 ?_
  refine J_ladd C d_Mod_seenBy_14 ?_
  refine J_lstore_n C 2 d_Mod_seenBy_15 rfl (by decide) rfl ?_
  refine J_lload_n C 2 d_Mod_seenBy_16 rfl rfl ?_
  refine J_aload_n C 0 d_Mod_seenBy_17 rfl rfl ?_
  refine J_get C f_Mod_16 (by decide) (e_76 _) rfl d_Mod_seenBy_18 ?_
  refine J_iconst C d_Mod_seenBy_21 (v := nI 3) rfl ?_
  refine J_iload_n C 1 d_Mod_seenBy_22 rfl rfl ?_
  refine J_imulN C d_Mod_seenBy_23 ?_
  refine J_val (y := nI 3) rfl ?_
  refine J_iconst C d_Mod_seenBy_24 (v := nI 1) rfl ?_
  refine J_iaddN C d_Mod_seenBy_25 ?_
  refine J_val (y := nI 4) rfl ?_
  refine K_ial C a_77 (j := 4) rfl (by omega) d_Mod_seenBy_26 ?_
  refine J_i2l C d_Mod_seenBy_27 ?_
  refine J_lrem C d_Mod_seenBy_28 (by assumption) ?_
  refine J_aload_n C 0 d_Mod_seenBy_29 rfl rfl ?_
  refine J_get C f_Mod_16 (by decide) (e_76 _) rfl d_Mod_seenBy_30 ?_
  refine J_iconst C d_Mod_seenBy_33 (v := nI 3) rfl ?_
  refine J_iload_n C 1 d_Mod_seenBy_34 rfl rfl ?_
  refine J_imulN C d_Mod_seenBy_35 ?_
  refine J_val (y := nI 3) rfl ?_
  refine J_iconst C d_Mod_seenBy_36 (v := nI 2) rfl ?_
  refine J_iaddN C d_Mod_seenBy_37 ?_
  refine J_val (y := nI 5) rfl ?_
  refine K_ial C a_77 (j := 5) rfl (by omega) d_Mod_seenBy_38 ?_
  refine J_i2l C d_Mod_seenBy_39 ?_
  refine J_lcmp C d_Mod_seenBy_40 ?_
  refine J_if_ge C 48 d_Mod_seenBy_41 (by decide) (fun hc41 => ?_) (fun hc41 => ?_)
  · refine J_iconst C d_Mod_seenBy_48 (v := nI 0) rfl ?_
    exact P_zretE C hr (Or.inl rfl) (by simp only [fOpen, hc41, if_true, if_false]; try rfl) d_Mod_seenBy_49
  · refine J_iconst C d_Mod_seenBy_44 (v := nI 1) rfl ?_
    refine J_goto C 49 d_Mod_seenBy_45 (by decide) ?_
    exact P_zretE C hr (Or.inr rfl) (by simp only [fOpen, hc41, if_true, if_false]; try rfl) d_Mod_seenBy_49

def PlaM (g : Nat → Nat) (a en : Nat) : Nat := if en < a + 7 then 0 else if g a < 8 then 0 else if 15 < g a then 0 else if 60 < g (a + 4) * 256 + g (a + 5) + 7 then 0 else if en < a + (g (a + 4) * 256 + g (a + 5) + 7) then 0 else g (a + 4) * 256 + g (a + 5) + 7
theorem PlaM_le (g : Nat → Nat) (a en : Nat) : PlaM g a en ≤ 60 ∧ (PlaM g a en = 0 ∨ a + PlaM g a en ≤ en) := by unfold PlaM; (repeat' split) <;> constructor <;> first | omega | (left; rfl) | (right; omega)
set_option maxHeartbeats 4000000 in
set_option maxRecDepth 100000 in
theorem pm_packetAt78 (l : Launch) (D : va_G) (dA : Nat → ClassId) (M : Mem) (a en : Nat) (hen : en ≤ 80) (ha : a ≤ en) (g : Nat → Nat) (hg : ∀ i, a ≤ i → i < en → M 78 i = nI (g i)) (hg2 : ∀ i, a ≤ i → i < en → g i < 256) : PT l D dA k_Mod_packetAt 0 90 [.ref 78, .int (nI a), .int (nI en)] (E M) (.int (nI (PlaM g a en))) := by
  refine PT.of (by decide +kernel) (Nat.le_of_ble_eq_true rfl) (by intro v hv; simp only [List.mem_cons, List.not_mem_nil, or_false] at hv; rcases hv with rfl | rfl | rfl <;> rfl) ?_
  intro A ad0 p e s m args below meth c C hr
  refine J_iload_n C 1 d_Mod_packetAt_0 rfl rfl ?_
  refine J_bipush C d_Mod_packetAt_1 (v := nI 7) rfl ?_
  refine J_iaddN C d_Mod_packetAt_3 ?_
  refine J_iload_n C 2 d_Mod_packetAt_4 rfl rfl ?_
  refine J_icmpN_gt C 24 d_Mod_packetAt_5 (by decide) (by omega) (by omega) (fun hc5 => ?_) (fun hc5 => ?_)
  · refine J_iconst C d_Mod_packetAt_24 (v := nI 0) rfl ?_
    exact P_iretE C hr (by unfold PlaM; (repeat' split) <;> first | (exfalso; omega) | rfl) d_Mod_packetAt_25
  · refine J_aload_n C 0 d_Mod_packetAt_8 rfl rfl ?_
    refine J_iload_n C 1 d_Mod_packetAt_9 rfl rfl ?_
    refine K_ial C a_78 (j := a) rfl (by omega) d_Mod_packetAt_10 ?_
    refine J_val (y := nI (g a)) (hg _ (by omega) (by omega)) ?_
    have b1 := hg2 a (by omega) (by omega)
    refine J_bipush C d_Mod_packetAt_11 (v := nI 8) rfl ?_
    refine J_icmpN_lt C 24 d_Mod_packetAt_13 (by decide) (by omega) (by omega) (fun hc13 => ?_) (fun hc13 => ?_)
    · refine J_iconst C d_Mod_packetAt_24 (v := nI 0) rfl ?_
      exact P_iretE C hr (by unfold PlaM; (repeat' split) <;> first | (exfalso; omega) | rfl) d_Mod_packetAt_25
    · refine J_aload_n C 0 d_Mod_packetAt_16 rfl rfl ?_
      refine J_iload_n C 1 d_Mod_packetAt_17 rfl rfl ?_
      refine K_ial C a_78 (j := a) rfl (by omega) d_Mod_packetAt_18 ?_
      refine J_val (y := nI (g a)) (hg _ (by omega) (by omega)) ?_
      refine J_bipush C d_Mod_packetAt_19 (v := nI 15) rfl ?_
      refine J_icmpN_le C 26 d_Mod_packetAt_21 (by decide) (by omega) (by omega) (fun hc21 => ?_) (fun hc21 => ?_)
      · have b4 := hg2 (a + 4) (by omega) (by omega)
        have b5 := hg2 (a + 5) (by omega) (by omega)
        refine J_aload_n C 0 d_Mod_packetAt_26 rfl rfl ?_
        refine J_iload_n C 1 d_Mod_packetAt_27 rfl rfl ?_
        refine J_iconst C d_Mod_packetAt_28 (v := nI 4) rfl ?_
        refine J_iaddN C d_Mod_packetAt_29 ?_
        refine K_ial C a_78 (j := a + 4) rfl (by omega) d_Mod_packetAt_30 ?_
        refine J_val (y := nI (g (a + 4))) (hg _ (by omega) (by omega)) ?_
        refine J_sipush C d_Mod_packetAt_31 (v := nI 256) rfl ?_
        refine J_imulN C d_Mod_packetAt_34 ?_
        refine J_aload_n C 0 d_Mod_packetAt_35 rfl rfl ?_
        refine J_iload_n C 1 d_Mod_packetAt_36 rfl rfl ?_
        refine J_iconst C d_Mod_packetAt_37 (v := nI 5) rfl ?_
        refine J_iaddN C d_Mod_packetAt_38 ?_
        refine K_ial C a_78 (j := a + 5) rfl (by omega) d_Mod_packetAt_39 ?_
        refine J_val (y := nI (g (a + 5))) (hg _ (by omega) (by omega)) ?_
        refine J_iaddN C d_Mod_packetAt_40 ?_
        refine J_bipush C d_Mod_packetAt_41 (v := nI 7) rfl ?_
        refine J_iaddN C d_Mod_packetAt_43 ?_
        refine J_istore_n C 3 d_Mod_packetAt_44 rfl (by decide) rfl ?_
        refine J_iload_n C 3 d_Mod_packetAt_45 rfl rfl ?_
        refine J_bipush C d_Mod_packetAt_46 (v := nI 60) rfl ?_
        refine J_icmpN_gt C 62 d_Mod_packetAt_48 (by decide) (by omega) (by omega) (fun hc48 => ?_) (fun hc48 => ?_)
        · refine J_iconst C d_Mod_packetAt_62 (v := nI 0) rfl ?_
          exact P_iretE C hr (by unfold PlaM; (repeat' split) <;> first | (exfalso; omega) | rfl) d_Mod_packetAt_63
        · refine J_iload_n C 1 d_Mod_packetAt_51 rfl rfl ?_
          refine J_iload_n C 3 d_Mod_packetAt_52 rfl rfl ?_
          refine J_iaddN C d_Mod_packetAt_53 ?_
          refine J_iload_n C 2 d_Mod_packetAt_54 rfl rfl ?_
          refine J_icmpN_gt C 62 d_Mod_packetAt_55 (by decide) (by omega) (by omega) (fun hc55 => ?_) (fun hc55 => ?_)
          · refine J_iconst C d_Mod_packetAt_62 (v := nI 0) rfl ?_
            exact P_iretE C hr (by unfold PlaM; (repeat' split) <;> first | (exfalso; omega) | rfl) d_Mod_packetAt_63
          · refine J_iload_n C 3 d_Mod_packetAt_58 rfl rfl ?_
            refine J_goto C 63 d_Mod_packetAt_59 (by decide) ?_
            exact P_iretE C hr (by unfold PlaM; (repeat' split) <;> first | (exfalso; omega) | rfl) d_Mod_packetAt_63
      · refine J_iconst C d_Mod_packetAt_24 (v := nI 0) rfl ?_
        exact P_iretE C hr (by unfold PlaM; (repeat' split) <;> first | (exfalso; omega) | rfl) d_Mod_packetAt_25

set_option maxHeartbeats 4000000 in
set_option maxRecDepth 100000 in
theorem pm_packetAt81 (l : Launch) (D : va_G) (dA : Nat → ClassId) (M : Mem) (a en : Nat) (hen : en ≤ 240) (ha : a ≤ en) (g : Nat → Nat) (hg : ∀ i, a ≤ i → i < en → M 81 i = nI (g i)) (hg2 : ∀ i, a ≤ i → i < en → g i < 256) : PT l D dA k_Mod_packetAt 0 90 [.ref 81, .int (nI a), .int (nI en)] (E M) (.int (nI (PlaM g a en))) := by
  refine PT.of (by decide +kernel) (Nat.le_of_ble_eq_true rfl) (by intro v hv; simp only [List.mem_cons, List.not_mem_nil, or_false] at hv; rcases hv with rfl | rfl | rfl <;> rfl) ?_
  intro A ad0 p e s m args below meth c C hr
  refine J_iload_n C 1 d_Mod_packetAt_0 rfl rfl ?_
  refine J_bipush C d_Mod_packetAt_1 (v := nI 7) rfl ?_
  refine J_iaddN C d_Mod_packetAt_3 ?_
  refine J_iload_n C 2 d_Mod_packetAt_4 rfl rfl ?_
  refine J_icmpN_gt C 24 d_Mod_packetAt_5 (by decide) (by omega) (by omega) (fun hc5 => ?_) (fun hc5 => ?_)
  · refine J_iconst C d_Mod_packetAt_24 (v := nI 0) rfl ?_
    exact P_iretE C hr (by unfold PlaM; (repeat' split) <;> first | (exfalso; omega) | rfl) d_Mod_packetAt_25
  · refine J_aload_n C 0 d_Mod_packetAt_8 rfl rfl ?_
    refine J_iload_n C 1 d_Mod_packetAt_9 rfl rfl ?_
    refine K_ial C a_81 (j := a) rfl (by omega) d_Mod_packetAt_10 ?_
    refine J_val (y := nI (g a)) (hg _ (by omega) (by omega)) ?_
    have b1 := hg2 a (by omega) (by omega)
    refine J_bipush C d_Mod_packetAt_11 (v := nI 8) rfl ?_
    refine J_icmpN_lt C 24 d_Mod_packetAt_13 (by decide) (by omega) (by omega) (fun hc13 => ?_) (fun hc13 => ?_)
    · refine J_iconst C d_Mod_packetAt_24 (v := nI 0) rfl ?_
      exact P_iretE C hr (by unfold PlaM; (repeat' split) <;> first | (exfalso; omega) | rfl) d_Mod_packetAt_25
    · refine J_aload_n C 0 d_Mod_packetAt_16 rfl rfl ?_
      refine J_iload_n C 1 d_Mod_packetAt_17 rfl rfl ?_
      refine K_ial C a_81 (j := a) rfl (by omega) d_Mod_packetAt_18 ?_
      refine J_val (y := nI (g a)) (hg _ (by omega) (by omega)) ?_
      refine J_bipush C d_Mod_packetAt_19 (v := nI 15) rfl ?_
      refine J_icmpN_le C 26 d_Mod_packetAt_21 (by decide) (by omega) (by omega) (fun hc21 => ?_) (fun hc21 => ?_)
      · have b4 := hg2 (a + 4) (by omega) (by omega)
        have b5 := hg2 (a + 5) (by omega) (by omega)
        refine J_aload_n C 0 d_Mod_packetAt_26 rfl rfl ?_
        refine J_iload_n C 1 d_Mod_packetAt_27 rfl rfl ?_
        refine J_iconst C d_Mod_packetAt_28 (v := nI 4) rfl ?_
        refine J_iaddN C d_Mod_packetAt_29 ?_
        refine K_ial C a_81 (j := a + 4) rfl (by omega) d_Mod_packetAt_30 ?_
        refine J_val (y := nI (g (a + 4))) (hg _ (by omega) (by omega)) ?_
        refine J_sipush C d_Mod_packetAt_31 (v := nI 256) rfl ?_
        refine J_imulN C d_Mod_packetAt_34 ?_
        refine J_aload_n C 0 d_Mod_packetAt_35 rfl rfl ?_
        refine J_iload_n C 1 d_Mod_packetAt_36 rfl rfl ?_
        refine J_iconst C d_Mod_packetAt_37 (v := nI 5) rfl ?_
        refine J_iaddN C d_Mod_packetAt_38 ?_
        refine K_ial C a_81 (j := a + 5) rfl (by omega) d_Mod_packetAt_39 ?_
        refine J_val (y := nI (g (a + 5))) (hg _ (by omega) (by omega)) ?_
        refine J_iaddN C d_Mod_packetAt_40 ?_
        refine J_bipush C d_Mod_packetAt_41 (v := nI 7) rfl ?_
        refine J_iaddN C d_Mod_packetAt_43 ?_
        refine J_istore_n C 3 d_Mod_packetAt_44 rfl (by decide) rfl ?_
        refine J_iload_n C 3 d_Mod_packetAt_45 rfl rfl ?_
        refine J_bipush C d_Mod_packetAt_46 (v := nI 60) rfl ?_
        refine J_icmpN_gt C 62 d_Mod_packetAt_48 (by decide) (by omega) (by omega) (fun hc48 => ?_) (fun hc48 => ?_)
        · refine J_iconst C d_Mod_packetAt_62 (v := nI 0) rfl ?_
          exact P_iretE C hr (by unfold PlaM; (repeat' split) <;> first | (exfalso; omega) | rfl) d_Mod_packetAt_63
        · refine J_iload_n C 1 d_Mod_packetAt_51 rfl rfl ?_
          refine J_iload_n C 3 d_Mod_packetAt_52 rfl rfl ?_
          refine J_iaddN C d_Mod_packetAt_53 ?_
          refine J_iload_n C 2 d_Mod_packetAt_54 rfl rfl ?_
          refine J_icmpN_gt C 62 d_Mod_packetAt_55 (by decide) (by omega) (by omega) (fun hc55 => ?_) (fun hc55 => ?_)
          · refine J_iconst C d_Mod_packetAt_62 (v := nI 0) rfl ?_
            exact P_iretE C hr (by unfold PlaM; (repeat' split) <;> first | (exfalso; omega) | rfl) d_Mod_packetAt_63
          · refine J_iload_n C 3 d_Mod_packetAt_58 rfl rfl ?_
            refine J_goto C 63 d_Mod_packetAt_59 (by decide) ?_
            exact P_iretE C hr (by unfold PlaM; (repeat' split) <;> first | (exfalso; omega) | rfl) d_Mod_packetAt_63
      · refine J_iconst C d_Mod_packetAt_24 (v := nI 0) rfl ?_
        exact P_iretE C hr (by unfold PlaM; (repeat' split) <;> first | (exfalso; omega) | rfl) d_Mod_packetAt_25

set_option maxHeartbeats 4000000 in
set_option maxRecDepth 100000 in
theorem pm_isFree (l : Launch) (D : va_G) (dA : Nat → ClassId) (M : Mem) (cn : Nat) (b0 r : Int32) (hcn : M 76 15 = nI cn) (hc24 : cn ≤ 24) (h1 : (∀ q, q < 3 * cn → ¬ M 85 q = b0) → r = 1) (h0 : (∃ q, q < 3 * cn ∧ M 85 q = b0) → r = 0) : PT l D dA k_Mod_isFree 0 90 [.ref 76, .int b0] (E M) (.int r) := by
  refine PT.of (by decide +kernel) (Nat.le_of_ble_eq_true rfl) (by intro v hv; simp only [List.mem_cons, List.not_mem_nil, or_false] at hv; rcases hv with rfl | rfl <;> rfl) ?_
  intro A ad0 p e s m args below meth c C hr
  have lp : ∀ (fu p0 : Nat), cn - p0 < fu → p0 ≤ cn → (∀ q, q < 3 * p0 → ¬ M 85 q = b0) → J D dA A (fun H locs => H = s.heap ∧ locs = []) ad0 90 k_Mod_isFree.2.2.1 p l e (zR 0 0 0) s m args below meth c (MQ below (zQp ad0 (.int r)) args s 0 0 (fun _ => False)) 2 [some (.ref 76), some (.int b0), some (.int (nI p0)), none] [] (E M) 90 0 0 := by
    intro fu
    induction fu with
    | zero => intro p0 hfu; exact absurd hfu (Nat.not_lt_zero _)
    | succ fu iho =>
    intro p0 hfu hp0 hno
    have lpi : p0 < cn → ∀ (k0 : Nat), k0 ≤ 3 → 3 - k0 < 4 → (∀ q, q < 3 * p0 + k0 → ¬ M 85 q = b0) → J D dA A (fun H locs => H = s.heap ∧ locs = []) ad0 90 k_Mod_isFree.2.2.1 p l e (zR 0 0 0) s m args below meth c (MQ below (zQp ad0 (.int r)) args s 0 0 (fun _ => False)) 12 [some (.ref 76), some (.int b0), some (.int (nI p0)), some (.int (nI k0))] [] (E M) 90 0 0 := by
      intro hpc k0 hk0 hk3
      obtain ⟨fu2, hfu2⟩ : ∃ fu2, fu2 = 4 := ⟨_, rfl⟩
      rw [← hfu2] at hk3
      clear hfu2
      revert k0
      induction fu2 with
      | zero => intro k0 hk0 hk3; exact absurd hk3 (Nat.not_lt_zero _)
      | succ fu2 ih =>
        intro k0 hk0 hk3 hno
        refine J_iload_n C 3 d_Mod_isFree_12 rfl rfl ?_
        refine J_iconst C d_Mod_isFree_13 (v := nI 3) rfl ?_
        refine J_icmpN_ge C 39 d_Mod_isFree_14 (by decide) (by omega) (by omega) (fun hc14 => ?_) (fun hc14 => ?_)
        · refine J_iinc C d_Mod_isFree_39 rfl (v := nI (p0 + 1)) (nI_1 _) (by decide) rfl ?_
          refine J_goto C 2 d_Mod_isFree_42 (by decide) ?_
          refine J_lv (lv' := [some (.ref 76), some (.int b0), some (.int (nI (p0 + 1))), none]) (by intro i v hv; match i, hv with | 0, hv => exact hv | 1, hv => exact hv | 2, hv => exact hv | 3, hv => simp at hv | _ + 4, hv => simp at hv) ?_
          exact iho (p0 + 1) (by omega) (by omega) (fun q hq => hno q (by omega))
        · refine J_aload_n C 0 d_Mod_isFree_17 rfl rfl ?_
          refine J_get C f_Mod_70 (by decide) (e_76 _) rfl d_Mod_isFree_18 ?_
          refine J_iconst C d_Mod_isFree_21 (v := nI 3) rfl ?_
          refine J_iload_n C 2 d_Mod_isFree_22 rfl rfl ?_
          refine J_imulN C d_Mod_isFree_23 ?_
          refine J_iload_n C 3 d_Mod_isFree_24 rfl rfl ?_
          refine J_iaddN C d_Mod_isFree_25 ?_
          refine K_ial C a_85 (j := (3 * p0) + k0) rfl (by omega) d_Mod_isFree_26 ?_
          refine J_iload_n C 1 d_Mod_isFree_27 rfl rfl ?_
          refine J_icmp_ne C 33 d_Mod_isFree_28 (by decide) (fun hc28 => ?_) (fun hc28 => ?_)
          · refine J_iinc C d_Mod_isFree_33 rfl (v := nI (k0 + 1)) (nI_1 _) (by decide) rfl ?_
            refine J_goto C 12 d_Mod_isFree_36 (by decide) ?_
            exact ih (k0 + 1) (by omega) (by omega) (fun q hq => by rcases (show q < 3 * p0 + k0 ∨ q = 3 * p0 + k0 by omega) with h | h; exact hno q h; rw [h]; exact hc28)
          · refine J_iconst C d_Mod_isFree_31 (v := nI 0) rfl ?_
            exact P_zretE C hr (Or.inl rfl) ((h0 ⟨3 * p0 + k0, by omega, hc28⟩).symm) d_Mod_isFree_32
    refine J_iload_n C 2 d_Mod_isFree_2 rfl rfl ?_
    refine J_aload_n C 0 d_Mod_isFree_3 rfl rfl ?_
    refine J_get C f_Mod_58 (by decide) (e_76 _) rfl d_Mod_isFree_4 ?_
    refine J_val (y := nI cn) hcn ?_
    refine J_icmpN_ge C 45 d_Mod_isFree_7 (by decide) (by omega) (by omega) (fun hc7 => ?_) (fun hc7 => ?_)
    · refine J_iconst C d_Mod_isFree_45 (v := nI 1) rfl ?_
      exact P_zretE C hr (Or.inr rfl) ((h1 (fun q hq => hno q (by omega))).symm) d_Mod_isFree_46
    · refine J_iconst C d_Mod_isFree_10 (v := nI 0) rfl ?_
      refine J_istore_n C 3 d_Mod_isFree_11 rfl (by decide) rfl ?_
      exact lpi hc7 0 (by omega) (by omega) hno
  refine J_iconst C d_Mod_isFree_0 (v := nI 0) rfl ?_
  refine J_istore_n C 2 d_Mod_isFree_1 rfl (by decide) rfl ?_
  exact lp (cn + 1) 0 (by omega) (by omega) (fun q hq => absurd hq (by omega))

def cntF (u : Nat → Nat) : Nat → Nat
  | 0 => 0
  | k + 1 => cntF u k + u k
theorem cntF_le {u : Nat → Nat} (h : ∀ b, u b ≤ 1) (k : Nat) : cntF u k ≤ k := by
  induction k with
  | zero => exact Nat.le_refl _
  | succ k ih => unfold cntF; have := h k; omega
set_option maxHeartbeats 4000000 in
set_option maxRecDepth 100000 in
theorem pm_freeBlocks (l : Launch) (D : va_G) (dA : Nat → ClassId) (M : Mem) (cn : Nat) (u : Nat → Nat) (hcn : M 76 15 = nI cn) (hc24 : cn ≤ 24) (hu : ∀ b, u b ≤ 1) (hu1 : ∀ b, b < 24 → (∀ q, q < 3 * cn → ¬ M 85 q = nI b) → nI (u b) = 1) (hu0 : ∀ b, b < 24 → (∃ q, q < 3 * cn ∧ M 85 q = nI b) → nI (u b) = 0) : PT l D dA k_Mod_freeBlocks 1 90 [.ref 76] (E M) (.int (nI (cntF u 24))) := by
  refine PT.of (by decide +kernel) (Nat.le_of_ble_eq_true rfl) (by intro v hv; simp only [List.mem_cons, List.not_mem_nil, or_false] at hv; rcases hv with rfl <;> rfl) ?_
  intro A ad0 p e s m args below meth c C hr
  have lp : ∀ (fu : Nat) (k : Nat), 24 - k < fu → (k ≤ 24) → J D dA A (fun H locs => H = s.heap ∧ locs = []) ad0 90 k_Mod_freeBlocks.2.2.1 p l e (zR 1 0 0) s m args below meth c (MQ below (zQp ad0 (.int (nI (cntF u 24)))) args s 0 0 (fun _ => False)) 4 [some (.ref 76), some (.int (nI (cntF u k))), some (.int (nI k))] [] (E M) 90 0 0 := by
    intro fu
    induction fu with
    | zero => intro k hfu; exact absurd hfu (Nat.not_lt_zero _)
    | succ fu ih =>
      intro k hfu hk
      have ih2 : k < 24 → ∀ z : Nat, z = cntF u (k + 1) → J D dA A (fun H locs => H = s.heap ∧ locs = []) ad0 90 k_Mod_freeBlocks.2.2.1 p l e (zR 1 0 0) s m args below meth c (MQ below (zQp ad0 (.int (nI (cntF u 24)))) args s 0 0 (fun _ => False)) 4 [some (.ref 76), some (.int (nI z)), some (.int (nI (k + 1)))] [] (E M) 90 0 0 := fun hk2 z hz => by rw [hz]; exact ih (k + 1) (by omega) (by omega)
      refine J_iload_n C 2 d_Mod_freeBlocks_4 rfl rfl ?_
      refine J_bipush C d_Mod_freeBlocks_5 (v := nI 24) rfl ?_
      refine J_icmpN_ge C 32 d_Mod_freeBlocks_7 (by decide) (by omega) (by omega) (fun hc7 => ?_) (fun hc7 => ?_)
      · refine J_iload_n C 1 d_Mod_freeBlocks_32 rfl rfl ?_
        exact P_iretE C hr (by rw [show k = 24 by omega]) d_Mod_freeBlocks_33
      · refine J_iload_n C 1 d_Mod_freeBlocks_10 rfl rfl ?_
        refine J_aload_n C 0 d_Mod_freeBlocks_11 rfl rfl ?_
        refine J_iload_n C 2 d_Mod_freeBlocks_12 rfl rfl ?_
        refine P_callV C (as := [.int (nI k)]) (st := [.int (nI (cntF u k))]) (pm_isFree l D dA M cn (nI k) (nI (u k)) hcn hc24 (hu1 k (by omega)) (hu0 k (by omega))) l_Mod_98 v_Mod_isFree (by decide) (e_76 _) rfl (by decide) (by decide) (by decide) (Nat.le_of_ble_eq_true rfl) d_Mod_freeBlocks_13 (kk := ?_)
        have b1 := hu k
        have b2 := cntF_le hu k
        refine J_ifN_eq C 23 d_Mod_freeBlocks_16 (by decide) (by omega) (fun hc16 => ?_) (fun hc16 => ?_)
        · refine J_iconst C d_Mod_freeBlocks_23 (v := nI 0) rfl ?_
          refine J_iaddN C d_Mod_freeBlocks_24 ?_
          refine J_istore_n C 1 d_Mod_freeBlocks_25 rfl (by decide) rfl ?_
          refine J_iinc C d_Mod_freeBlocks_26 rfl (v := nI (k + 1)) (nI_1 _) (by decide) rfl ?_
          refine J_goto C 4 d_Mod_freeBlocks_29 (by decide) ?_
          exact ih2 hc7 _ (by show _ = cntF u k + u k; omega)
        · refine J_iconst C d_Mod_freeBlocks_19 (v := nI 1) rfl ?_
          refine J_goto C 24 d_Mod_freeBlocks_20 (by decide) ?_
          refine J_iaddN C d_Mod_freeBlocks_24 ?_
          refine J_istore_n C 1 d_Mod_freeBlocks_25 rfl (by decide) rfl ?_
          refine J_iinc C d_Mod_freeBlocks_26 rfl (v := nI (k + 1)) (nI_1 _) (by decide) rfl ?_
          refine J_goto C 4 d_Mod_freeBlocks_29 (by decide) ?_
          exact ih2 hc7 _ (by show _ = cntF u k + u k; omega)
  refine J_iconst C d_Mod_freeBlocks_0 (v := nI 0) rfl ?_
  refine J_istore_n C 1 d_Mod_freeBlocks_1 rfl (by decide) rfl ?_
  refine J_iconst C d_Mod_freeBlocks_2 (v := nI 0) rfl ?_
  refine J_istore_n C 2 d_Mod_freeBlocks_3 rfl (by decide) rfl ?_
  exact lp 25 0 (by omega) (by omega)
