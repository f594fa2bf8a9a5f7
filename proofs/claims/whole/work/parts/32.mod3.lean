def crcSM (row x : Int32) (k : Nat) : Int32 := if (ush row (nI 31) ^^^ ((x >>> (nI k &&& 31)) &&& nI 1)) = nI 1 then (row <<< (nI 1 &&& 31)) ^^^ 10487813 else row <<< (nI 1 &&& 31)
theorem crcSM_t {row x : Int32} {k : Nat} (h : (ush row (nI 31) ^^^ ((x >>> (nI k &&& 31)) &&& nI 1)) = nI 1) : crcSM row x k = (row <<< (nI 1 &&& 31)) ^^^ 10487813 := if_pos h
theorem crcSM_f {row x : Int32} {k : Nat} (h : ¬ (ush row (nI 31) ^^^ ((x >>> (nI k &&& 31)) &&& nI 1)) = nI 1) : crcSM row x k = row <<< (nI 1 &&& 31) := if_neg h
def crcBitsM (x : Int32) : Nat → Int32 → Int32
  | 0, row => row
  | r + 1, row => crcBitsM x r (crcSM row x r)
def crcAllM (f : Nat → Int32) : Nat → Nat → Int32 → Int32
  | 0, _, row => row
  | r + 1, i, row => crcAllM f r (i + 1) (crcBitsM (f (3 + i)) 8 row)
def crcS6 (row x : Int32) (k : Nat) : Int32 := if ((row >>> (nI 15 &&& 31)) ^^^ ((x >>> (nI k &&& 31)) &&& nI 1)) = nI 1 then ((row <<< (nI 1 &&& 31)) &&& 65535) ^^^ nI 4129 else (row <<< (nI 1 &&& 31)) &&& 65535
theorem crcS6_t {row x : Int32} {k : Nat} (h : ((row >>> (nI 15 &&& 31)) ^^^ ((x >>> (nI k &&& 31)) &&& nI 1)) = nI 1) : crcS6 row x k = ((row <<< (nI 1 &&& 31)) &&& 65535) ^^^ nI 4129 := if_pos h
theorem crcS6_f {row x : Int32} {k : Nat} (h : ¬ ((row >>> (nI 15 &&& 31)) ^^^ ((x >>> (nI k &&& 31)) &&& nI 1)) = nI 1) : crcS6 row x k = (row <<< (nI 1 &&& 31)) &&& 65535 := if_neg h
def crcBits6 (x : Int32) : Nat → Int32 → Int32
  | 0, row => row
  | r + 1, row => crcBits6 x r (crcS6 row x r)
def crcAll6 (f : Nat → Int32) : Nat → Nat → Int32 → Int32
  | 0, _, row => row
  | r + 1, i, row => crcAll6 f r (i + 1) (crcBits6 (f i) 8 row)
def CkM (f : Nat → Int32) (t : Nat) : Prop := crcAllM f t 0 (nI 0) = f (3 + t) <<< (nI 24 &&& 31) ||| f (4 + t) <<< (nI 16 &&& 31) ||| f (5 + t) <<< (nI 8 &&& 31) ||| f (6 + t)
set_option maxHeartbeats 4000000 in
set_option maxRecDepth 100000 in
theorem pm_checked (l : Launch) (D : va_G) (dA : Nat → ClassId) (M : Mem) (t : Nat) (ht : t ≤ 64) (r0 : Int32) (hr1 : CkM (M 78) t → r0 = 1) (hr0 : ¬ CkM (M 78) t → r0 = 0) : PT l D dA k_Mod_checked 0 90 [.ref 76, .int (nI t)] (E M) (.int r0) := by
  refine PT.of (by decide +kernel) (Nat.le_of_ble_eq_true rfl) (by intro v hv; simp only [List.mem_cons, List.not_mem_nil, or_false] at hv; rcases hv with rfl | rfl <;> rfl) ?_
  intro A ad0 p e s m args below meth c C hr
  have lp : ∀ (fu i : Nat) (row : Int32), t - i < fu → i ≤ t → crcAllM (M 78) (t - i) i row = crcAllM (M 78) t 0 (nI 0) → J D dA A (fun H locs => H = s.heap ∧ locs = []) ad0 90 k_Mod_checked.2.2.1 p l e (zR 0 0 0) s m args below meth c (MQ below (zQp ad0 (.int r0)) args s 0 0 (fun _ => False)) 4 [some (.ref 76), some (.int (nI t)), some (.int row), some (.int (nI i)), none, none] [] (E M) 90 0 0 := by
    intro fu
    induction fu with
    | zero => intro i row hfu; exact absurd hfu (Nat.not_lt_zero _)
    | succ fu ih =>
    intro i row hfu hi hF
    have lpi : i < t → ∀ (row9 : Int32), (J D dA A (fun H locs => H = s.heap ∧ locs = []) ad0 90 k_Mod_checked.2.2.1 p l e (zR 0 0 0) s m args below meth c (MQ below (zQp ad0 (.int r0)) args s 0 0 (fun _ => False)) 59 [some (.ref 76), some (.int (nI t)), some (.int row9), some (.int (nI i)), none, none] [] (E M) 90 0 0) → ∀ (r : Nat) (row : Int32), r ≤ 8 → crcBitsM (M 78 (3 + i)) r row = row9 → J D dA A (fun H locs => H = s.heap ∧ locs = []) ad0 90 k_Mod_checked.2.2.1 p l e (zR 0 0 0) s m args below meth c (MQ below (zQp ad0 (.int r0)) args s 0 0 (fun _ => False)) 13 [some (.ref 76), some (.int (nI t)), some (.int row), some (.int (nI i)), some (.int (bitOf r)), none] [] (E M) 90 0 0 := by
      intro hil row9 hk r
      induction r with
      | zero =>
        intro row hr9 h9
        have h9 : row = row9 := h9
        subst h9
        show J D dA A (fun H locs => H = s.heap ∧ locs = []) ad0 90 k_Mod_checked.2.2.1 p l e (zR 0 0 0) s m args below meth c (MQ below (zQp ad0 (.int r0)) args s 0 0 (fun _ => False)) 13 [some (.ref 76), some (.int (nI t)), some (.int row), some (.int (nI i)), some (.int (-1)), none] [] (E M) 90 0 0
        refine J_iload C d_Mod_checked_13 rfl ?_
        refine J_if_lt C 59 d_Mod_checked_15 (by decide) (fun hc15 => ?_) (fun hc15 => absurd (show (-1 : Int32) < 0 by decide) hc15)
        refine J_lv (lv' := [some (.ref 76), some (.int (nI t)), some (.int row), some (.int (nI i)), none, none]) (by intro i v hv; match i, hv with | 0, hv => exact hv | 1, hv => exact hv | 2, hv => exact hv | 3, hv => exact hv | 4, hv => simp at hv | 5, hv => simp at hv | _ + 6, hv => simp at hv) ?_
        exact hk
      | succ r ih =>
        intro row hr9 h9
        show J D dA A (fun H locs => H = s.heap ∧ locs = []) ad0 90 k_Mod_checked.2.2.1 p l e (zR 0 0 0) s m args below meth c (MQ below (zQp ad0 (.int r0)) args s 0 0 (fun _ => False)) 13 [some (.ref 76), some (.int (nI t)), some (.int row), some (.int (nI i)), some (.int (nI r)), none] [] (E M) 90 0 0
        have ih : ∀ (row : Int32), crcBitsM (M 78 (3 + i)) r row = row9 → _ := fun row h => ih row (by omega) h
        refine J_iload C d_Mod_checked_13 rfl ?_
        refine J_ifN_lt C d_Mod_checked_15 59 (by decide) (by omega) ?_
        refine J_iload_n C 2 d_Mod_checked_18 rfl rfl ?_
        refine J_bipush C d_Mod_checked_19 (v := nI 31) rfl ?_
        refine J_iushr C d_Mod_checked_21 rfl ?_
        refine J_aload_n C 0 d_Mod_checked_22 rfl rfl ?_
        refine J_get C f_Mod_27 (by decide) (e_76 _) rfl d_Mod_checked_23 ?_
        refine J_iconst C d_Mod_checked_26 (v := nI 3) rfl ?_
        refine J_iload_n C 3 d_Mod_checked_27 rfl rfl ?_
        refine J_iaddN C d_Mod_checked_28 ?_
        refine K_ial C a_78 (j := 3 + i) rfl (by omega) d_Mod_checked_29 ?_
        refine J_iload C d_Mod_checked_30 rfl ?_
        refine J_ishr C d_Mod_checked_32 ?_
        refine J_iconst C d_Mod_checked_33 (v := nI 1) rfl ?_
        refine J_iand C d_Mod_checked_34 ?_
        refine J_ixor C d_Mod_checked_35 ?_
        refine J_istore C d_Mod_checked_36 (by decide) rfl ?_
        refine J_iload_n C 2 d_Mod_checked_38 rfl rfl ?_
        refine J_iconst C d_Mod_checked_39 (v := nI 1) rfl ?_
        refine J_ishl C d_Mod_checked_40 ?_
        refine J_istore_n C 2 d_Mod_checked_41 rfl (by decide) rfl ?_
        refine J_iload C d_Mod_checked_42 rfl ?_
        refine J_iconst C d_Mod_checked_44 (v := nI 1) rfl ?_
        refine J_icmp_ne C 53 d_Mod_checked_45 (by decide) (fun hc45 => ?_) (fun hc45 => ?_)
        · refine J_iinc C d_Mod_checked_53 rfl (v := bitOf r) (bitOf_s r) (by decide) rfl ?_
          refine J_goto C 13 d_Mod_checked_56 (by decide) ?_
          refine J_lv (lv' := [some (.ref 76), some (.int (nI t)), some (.int (row <<< ((nI 1) &&& 31))), some (.int (nI i)), some (.int (bitOf r)), none]) (by intro i v hv; match i, hv with | 0, hv => exact hv | 1, hv => exact hv | 2, hv => exact hv | 3, hv => exact hv | 4, hv => exact hv | 5, hv => simp at hv | _ + 6, hv => simp at hv) ?_
          exact ih _ (by rw [← h9]; show _ = crcBitsM (M 78 (3 + i)) r (crcSM row (M 78 (3 + i)) r); first | rw [crcSM_t hc45] | rw [crcSM_f hc45])
        · refine J_iload_n C 2 d_Mod_checked_48 rfl rfl ?_
          refine J_ldc C d_Mod_checked_49 c_Mod_139 ?_
          refine J_ixor C d_Mod_checked_51 ?_
          refine J_istore_n C 2 d_Mod_checked_52 rfl (by decide) rfl ?_
          refine J_iinc C d_Mod_checked_53 rfl (v := bitOf r) (bitOf_s r) (by decide) rfl ?_
          refine J_goto C 13 d_Mod_checked_56 (by decide) ?_
          refine J_lv (lv' := [some (.ref 76), some (.int (nI t)), some (.int ((row <<< ((nI 1) &&& 31)) ^^^ 10487813)), some (.int (nI i)), some (.int (bitOf r)), none]) (by intro i v hv; match i, hv with | 0, hv => exact hv | 1, hv => exact hv | 2, hv => exact hv | 3, hv => exact hv | 4, hv => exact hv | 5, hv => simp at hv | _ + 6, hv => simp at hv) ?_
          exact ih _ (by rw [← h9]; show _ = crcBitsM (M 78 (3 + i)) r (crcSM row (M 78 (3 + i)) r); first | rw [crcSM_t hc45] | rw [crcSM_f hc45])
    refine J_iload_n C 3 d_Mod_checked_4 rfl rfl ?_
    refine J_iload_n C 1 d_Mod_checked_5 rfl rfl ?_
    refine J_icmpN_ge C 65 d_Mod_checked_6 (by decide) (by omega) (by omega) (fun hc6 => ?_) (fun hc6 => ?_)
    · refine J_iload_n C 2 d_Mod_checked_65 rfl rfl ?_
      refine J_aload_n C 0 d_Mod_checked_66 rfl rfl ?_
      refine J_get C f_Mod_27 (by decide) (e_76 _) rfl d_Mod_checked_67 ?_
      refine J_iconst C d_Mod_checked_70 (v := nI 3) rfl ?_
      refine J_iload_n C 1 d_Mod_checked_71 rfl rfl ?_
      refine J_iaddN C d_Mod_checked_72 ?_
      refine K_ial C a_78 (j := 3 + t) rfl (by omega) d_Mod_checked_73 ?_
      refine J_bipush C d_Mod_checked_74 (v := nI 24) rfl ?_
      refine J_ishl C d_Mod_checked_76 ?_
      refine J_aload_n C 0 d_Mod_checked_77 rfl rfl ?_
      refine J_get C f_Mod_27 (by decide) (e_76 _) rfl d_Mod_checked_78 ?_
      refine J_iconst C d_Mod_checked_81 (v := nI 4) rfl ?_
      refine J_iload_n C 1 d_Mod_checked_82 rfl rfl ?_
      refine J_iaddN C d_Mod_checked_83 ?_
      refine K_ial C a_78 (j := 4 + t) rfl (by omega) d_Mod_checked_84 ?_
      refine J_bipush C d_Mod_checked_85 (v := nI 16) rfl ?_
      refine J_ishl C d_Mod_checked_87 ?_
      refine J_ior C d_Mod_checked_88 ?_
      refine J_aload_n C 0 d_Mod_checked_89 rfl rfl ?_
      refine J_get C f_Mod_27 (by decide) (e_76 _) rfl d_Mod_checked_90 ?_
      refine J_iconst C d_Mod_checked_93 (v := nI 5) rfl ?_
      refine J_iload_n C 1 d_Mod_checked_94 rfl rfl ?_
      refine J_iaddN C d_Mod_checked_95 ?_
      refine K_ial C a_78 (j := 5 + t) rfl (by omega) d_Mod_checked_96 ?_
      refine J_bipush C d_Mod_checked_97 (v := nI 8) rfl ?_
      refine J_ishl C d_Mod_checked_99 ?_
      refine J_ior C d_Mod_checked_100 ?_
      refine J_aload_n C 0 d_Mod_checked_101 rfl rfl ?_
      refine J_get C f_Mod_27 (by decide) (e_76 _) rfl d_Mod_checked_102 ?_
      refine J_bipush C d_Mod_checked_105 (v := nI 6) rfl ?_
      refine J_iload_n C 1 d_Mod_checked_107 rfl rfl ?_
      refine J_iaddN C d_Mod_checked_108 ?_
      refine K_ial C a_78 (j := 6 + t) rfl (by omega) d_Mod_checked_109 ?_
      refine J_ior C d_Mod_checked_110 ?_
      refine J_icmp_ne C 118 d_Mod_checked_111 (by decide) (fun hc111 => ?_) (fun hc111 => ?_)
      · refine J_iconst C d_Mod_checked_118 (v := nI 0) rfl ?_
        exact P_zretE C hr (Or.inl rfl) (by first | exact (hr1 (by rw [show t - i = 0 by omega] at hF; have hF : row = _ := hF; unfold CkM; rw [← hF]; exact hc111)).symm | exact (hr0 (by rw [show t - i = 0 by omega] at hF; have hF : row = _ := hF; unfold CkM; rw [← hF]; exact hc111)).symm) d_Mod_checked_119
      · refine J_iconst C d_Mod_checked_114 (v := nI 1) rfl ?_
        refine J_goto C 119 d_Mod_checked_115 (by decide) ?_
        exact P_zretE C hr (Or.inr rfl) (by first | exact (hr1 (by rw [show t - i = 0 by omega] at hF; have hF : row = _ := hF; unfold CkM; rw [← hF]; exact hc111)).symm | exact (hr0 (by rw [show t - i = 0 by omega] at hF; have hF : row = _ := hF; unfold CkM; rw [← hF]; exact hc111)).symm) d_Mod_checked_119
    · refine J_bipush C d_Mod_checked_9 (v := nI 7) rfl ?_
      refine J_istore C d_Mod_checked_11 (by decide) rfl ?_
      refine lpi hc6 _ ?_ 8 row (by omega) rfl
      refine J_iinc C d_Mod_checked_59 rfl (v := nI (i + 1)) (nI_1 _) (by decide) rfl ?_
      refine J_goto C 4 d_Mod_checked_62 (by decide) ?_
      exact ih (i + 1) _ (by omega) (by omega) (by rw [show t - i = (t - (i + 1)) + 1 by omega] at hF; exact hF)
  refine J_iconst C d_Mod_checked_0 (v := nI 0) rfl ?_
  refine J_istore_n C 2 d_Mod_checked_1 rfl (by decide) rfl ?_
  refine J_iconst C d_Mod_checked_2 (v := nI 0) rfl ?_
  refine J_istore_n C 3 d_Mod_checked_3 rfl (by decide) rfl ?_
  exact lp (t + 1) 0 (nI 0) (by omega) (by omega) rfl

set_option maxHeartbeats 4000000 in
set_option maxRecDepth 100000 in
theorem fm_check16 (l : Launch) (D : va_G) (dA : Nat → ClassId) (M : Mem) : CF l D dA k_Mod_check16 0 [.ref 76] M (none) (mu (mu M 87 30 (crcAll6 (M 87) 30 0 65535 >>> (nI 8 &&& 31))) 87 31 (crcAll6 (M 87) 30 0 65535 &&& nI 255)) := by
  refine CF.of (by decide +kernel) (Nat.le_of_ble_eq_true rfl) (by intro v hv; simp only [List.mem_cons, List.not_mem_nil, or_false] at hv; rcases hv with rfl <;> rfl) ?_
  intro A ad0 p e s m args below meth c C hr
  have lp : ∀ (fu i : Nat) (row : Int32), 30 - i < fu → i ≤ 30 → crcAll6 (M 87) (30 - i) i row = crcAll6 (M 87) 30 0 65535 → J D dA A (fun _ _ => True) ad0 90 k_Mod_check16.2.2.1 p l e (zR 0 0 0) s m args below meth c (FQ D dA A ad0 below args s (none) (mu (mu M 87 30 (crcAll6 (M 87) 30 0 65535 >>> (nI 8 &&& 31))) 87 31 (crcAll6 (M 87) 30 0 65535 &&& nI 255))) 5 [some (.ref 76), some (.int row), some (.int (nI i)), none, none] [] (E M) 90 0 0 := by
    intro fu
    induction fu with
    | zero => intro i row hfu; exact absurd hfu (Nat.not_lt_zero _)
    | succ fu ih =>
    intro i row hfu hi hF
    have lpi : i < 30 → ∀ (row9 : Int32), (J D dA A (fun _ _ => True) ad0 90 k_Mod_check16.2.2.1 p l e (zR 0 0 0) s m args below meth c (FQ D dA A ad0 below args s (none) (mu (mu M 87 30 (crcAll6 (M 87) 30 0 65535 >>> (nI 8 &&& 31))) 87 31 (crcAll6 (M 87) 30 0 65535 &&& nI 255))) 60 [some (.ref 76), some (.int row9), some (.int (nI i)), none, none] [] (E M) 90 0 0) → ∀ (r : Nat) (row : Int32), r ≤ 8 → crcBits6 (M 87 i) r row = row9 → J D dA A (fun _ _ => True) ad0 90 k_Mod_check16.2.2.1 p l e (zR 0 0 0) s m args below meth c (FQ D dA A ad0 below args s (none) (mu (mu M 87 30 (crcAll6 (M 87) 30 0 65535 >>> (nI 8 &&& 31))) 87 31 (crcAll6 (M 87) 30 0 65535 &&& nI 255))) 14 [some (.ref 76), some (.int row), some (.int (nI i)), some (.int (bitOf r)), none] [] (E M) 90 0 0 := by
      intro hil row9 hk r
      induction r with
      | zero =>
        intro row hr9 h9
        have h9 : row = row9 := h9
        subst h9
        show J D dA A (fun _ _ => True) ad0 90 k_Mod_check16.2.2.1 p l e (zR 0 0 0) s m args below meth c (FQ D dA A ad0 below args s (none) (mu (mu M 87 30 (crcAll6 (M 87) 30 0 65535 >>> (nI 8 &&& 31))) 87 31 (crcAll6 (M 87) 30 0 65535 &&& nI 255))) 14 [some (.ref 76), some (.int row), some (.int (nI i)), some (.int (-1)), none] [] (E M) 90 0 0
        refine J_iload_n C 3 d_Mod_check16_14 rfl rfl ?_
        refine J_if_lt C 60 d_Mod_check16_15 (by decide) (fun hc15 => ?_) (fun hc15 => absurd (show (-1 : Int32) < 0 by decide) hc15)
        refine J_lv (lv' := [some (.ref 76), some (.int row), some (.int (nI i)), none, none]) (by intro i v hv; match i, hv with | 0, hv => exact hv | 1, hv => exact hv | 2, hv => exact hv | 3, hv => simp at hv | 4, hv => simp at hv | _ + 5, hv => simp at hv) ?_
        exact hk
      | succ r ih =>
        intro row hr9 h9
        show J D dA A (fun _ _ => True) ad0 90 k_Mod_check16.2.2.1 p l e (zR 0 0 0) s m args below meth c (FQ D dA A ad0 below args s (none) (mu (mu M 87 30 (crcAll6 (M 87) 30 0 65535 >>> (nI 8 &&& 31))) 87 31 (crcAll6 (M 87) 30 0 65535 &&& nI 255))) 14 [some (.ref 76), some (.int row), some (.int (nI i)), some (.int (nI r)), none] [] (E M) 90 0 0
        have ih : ∀ (row : Int32), crcBits6 (M 87 i) r row = row9 → _ := fun row h => ih row (by omega) h
        refine J_iload_n C 3 d_Mod_check16_14 rfl rfl ?_
        refine J_ifN_lt C d_Mod_check16_15 60 (by decide) (by omega) ?_
        refine J_iload_n C 1 d_Mod_check16_18 rfl rfl ?_
        refine J_bipush C d_Mod_check16_19 (v := nI 15) rfl ?_
        refine J_ishr C d_Mod_check16_21 ?_
        refine J_aload_n C 0 d_Mod_check16_22 rfl rfl ?_
        refine J_get C f_Mod_85 (by decide) (e_76 _) rfl d_Mod_check16_23 ?_
        refine J_iload_n C 2 d_Mod_check16_26 rfl rfl ?_
        refine K_ial C a_87 (j := i) rfl (by omega) d_Mod_check16_27 ?_
        refine J_iload_n C 3 d_Mod_check16_28 rfl rfl ?_
        refine J_ishr C d_Mod_check16_29 ?_
        refine J_iconst C d_Mod_check16_30 (v := nI 1) rfl ?_
        refine J_iand C d_Mod_check16_31 ?_
        refine J_ixor C d_Mod_check16_32 ?_
        refine J_istore C d_Mod_check16_33 (by decide) rfl ?_
        refine J_iload_n C 1 d_Mod_check16_35 rfl rfl ?_
        refine J_iconst C d_Mod_check16_36 (v := nI 1) rfl ?_
        refine J_ishl C d_Mod_check16_37 ?_
        refine J_ldc C d_Mod_check16_38 c_Mod_153 ?_
        refine J_iand C d_Mod_check16_40 ?_
        refine J_istore_n C 1 d_Mod_check16_41 rfl (by decide) rfl ?_
        refine J_iload C d_Mod_check16_42 rfl ?_
        refine J_iconst C d_Mod_check16_44 (v := nI 1) rfl ?_
        refine J_icmp_ne C 54 d_Mod_check16_45 (by decide) (fun hc45 => ?_) (fun hc45 => ?_)
        · refine J_iinc C d_Mod_check16_54 rfl (v := bitOf r) (bitOf_s r) (by decide) rfl ?_
          refine J_goto C 14 d_Mod_check16_57 (by decide) ?_
          refine J_lv (lv' := [some (.ref 76), some (.int ((row <<< ((nI 1) &&& 31)) &&& 65535)), some (.int (nI i)), some (.int (bitOf r)), none]) (by intro i v hv; match i, hv with | 0, hv => exact hv | 1, hv => exact hv | 2, hv => exact hv | 3, hv => exact hv | 4, hv => simp at hv | _ + 5, hv => simp at hv) ?_
          exact ih _ (by rw [← h9]; show _ = crcBits6 (M 87 i) r (crcS6 row (M 87 i) r); first | rw [crcS6_t hc45] | rw [crcS6_f hc45])
        · refine J_iload_n C 1 d_Mod_check16_48 rfl rfl ?_
          refine J_sipush C d_Mod_check16_49 (v := nI 4129) rfl ?_
          refine J_ixor C d_Mod_check16_52 ?_
          refine J_istore_n C 1 d_Mod_check16_53 rfl (by decide) rfl ?_
          refine J_iinc C d_Mod_check16_54 rfl (v := bitOf r) (bitOf_s r) (by decide) rfl ?_
          refine J_goto C 14 d_Mod_check16_57 (by decide) ?_
          refine J_lv (lv' := [some (.ref 76), some (.int (((row <<< ((nI 1) &&& 31)) &&& 65535) ^^^ (nI 4129))), some (.int (nI i)), some (.int (bitOf r)), none]) (by intro i v hv; match i, hv with | 0, hv => exact hv | 1, hv => exact hv | 2, hv => exact hv | 3, hv => exact hv | 4, hv => simp at hv | _ + 5, hv => simp at hv) ?_
          exact ih _ (by rw [← h9]; show _ = crcBits6 (M 87 i) r (crcS6 row (M 87 i) r); first | rw [crcS6_t hc45] | rw [crcS6_f hc45])
    refine J_iload_n C 2 d_Mod_check16_5 rfl rfl ?_
    refine J_bipush C d_Mod_check16_6 (v := nI 30) rfl ?_
    refine J_icmpN_ge C 66 d_Mod_check16_8 (by decide) (by omega) (by omega) (fun hc8 => ?_) (fun hc8 => ?_)
    · refine J_aload_n C 0 d_Mod_check16_66 rfl rfl ?_
      refine J_get C f_Mod_85 (by decide) (e_76 _) rfl d_Mod_check16_67 ?_
      refine J_bipush C d_Mod_check16_70 (v := nI 30) rfl ?_
      refine J_iload_n C 1 d_Mod_check16_72 rfl rfl ?_
      refine J_bipush C d_Mod_check16_73 (v := nI 8) rfl ?_
      refine J_ishr C d_Mod_check16_75 ?_
      refine K_ias C a_87 (j := 30) rfl (by omega) d_Mod_check16_76 (kk := ?_)
      refine J_aload_n C 0 d_Mod_check16_77 rfl rfl ?_
      refine J_get C f_Mod_85 (by decide) (e_76 _) rfl d_Mod_check16_78 ?_
      refine J_bipush C d_Mod_check16_81 (v := nI 31) rfl ?_
      refine J_iload_n C 1 d_Mod_check16_83 rfl rfl ?_
      refine J_sipush C d_Mod_check16_84 (v := nI 255) rfl ?_
      refine J_iand C d_Mod_check16_87 ?_
      refine K_ias C a_87 (j := 31) rfl (by omega) d_Mod_check16_88 (kk := ?_)
      exact F_ret C hr (by rw [show 30 - i = 0 by omega] at hF; have hF : row = _ := hF; rw [hF]) d_Mod_check16_89
    · refine J_bipush C d_Mod_check16_11 (v := nI 7) rfl ?_
      refine J_istore_n C 3 d_Mod_check16_13 rfl (by decide) rfl ?_
      refine lpi hc8 _ ?_ 8 row (by omega) rfl
      refine J_iinc C d_Mod_check16_60 rfl (v := nI (i + 1)) (nI_1 _) (by decide) rfl ?_
      refine J_goto C 5 d_Mod_check16_63 (by decide) ?_
      exact ih (i + 1) _ (by omega) (by omega) (by rw [show 30 - i = (30 - (i + 1)) + 1 by omega] at hF; exact hF)
  refine J_ldc C d_Mod_check16_0 c_Mod_153 ?_
  refine J_istore_n C 1 d_Mod_check16_2 rfl (by decide) rfl ?_
  refine J_iconst C d_Mod_check16_3 (v := nI 0) rfl ?_
  refine J_istore_n C 2 d_Mod_check16_4 rfl (by decide) rfl ?_
  exact lp 31 0 65535 (by omega) (by omega) rfl

def fLv (b : Nat) : Nat → Nat → Mem → Mem
  | 0, _, M => M
  | r + 1, i, M => fLv b r (i + 1) (mu M 78 i (M 78 (i + b)))
set_option maxHeartbeats 4000000 in
set_option maxRecDepth 100000 in
theorem fm_leave (l : Launch) (D : va_G) (dA : Nat → ClassId) (M : Mem) (n b : Nat) (hn : M 76 6 = nI n) (hn2 : n ≤ 80) (hb : b ≤ n) : CF l D dA k_Mod_leave 0 [.ref 76, .int (nI b)] M (none) (fLv b (n - b) 0 (mu M 76 6 (nI (n - b)))) := by
  refine CF.of (by decide +kernel) (Nat.le_of_ble_eq_true rfl) (by intro v hv; simp only [List.mem_cons, List.not_mem_nil, or_false] at hv; rcases hv with rfl | rfl <;> rfl) ?_
  intro A ad0 p e s m args below meth c C hr
  refine J_aload_n C 0 d_Mod_leave_0 rfl rfl ?_
  refine J_dup C d_Mod_leave_1 rfl ?_
  refine J_get C f_Mod_30 (by decide) (e_76 _) rfl d_Mod_leave_2 ?_
  refine J_val (y := nI n) hn ?_
  refine J_iload_n C 1 d_Mod_leave_5 rfl rfl ?_
  refine J_isubN C d_Mod_leave_6 (by omega) ?_
  refine K_putI C f_Mod_30 (by decide) (e_76 _) (Nat.le_of_ble_eq_true rfl) rfl d_Mod_leave_7 (kk := ?_)
  refine J_iconst C d_Mod_leave_10 (v := nI 0) rfl ?_
  refine J_istore_n C 2 d_Mod_leave_11 rfl (by decide) rfl ?_
  generalize hM9 : fLv b (n - b) 0 (mu M 76 6 (nI (n - b))) = M9
  have lp : ∀ (fu : Nat) (i : Nat) (M : Mem), n - b - i < fu → (i ≤ n - b) → (M 76 6 = nI (n - b)) → (fLv b (n - b - i) i M = M9) → J D dA A (fun _ _ => True) ad0 90 k_Mod_leave.2.2.1 p l e (zR 0 0 0) s m args below meth c (FQ D dA A ad0 below args s (none) (M9)) 12 [some (.ref 76), some (.int (nI b)), some (.int (nI i))] [] (E M) 90 0 0 := by
    intro fu
    induction fu with
    | zero => intro i M hfu; exact absurd hfu (Nat.not_lt_zero _)
    | succ fu ih =>
      intro i M hfu hi hn hF
      refine J_iload_n C 2 d_Mod_leave_12 rfl rfl ?_
      refine J_aload_n C 0 d_Mod_leave_13 rfl rfl ?_
      refine J_get C f_Mod_30 (by decide) (e_76 _) rfl d_Mod_leave_14 ?_
      refine J_val (y := nI (n - b)) hn ?_
      refine J_icmpN_ge C 40 d_Mod_leave_17 (by decide) (by omega) (by omega) (fun hc17 => ?_) (fun hc17 => ?_)
      · exact F_ret C hr (by rw [show n - b - i = 0 by omega] at hF; exact hF) d_Mod_leave_40
      · refine J_aload_n C 0 d_Mod_leave_20 rfl rfl ?_
        refine J_get C f_Mod_27 (by decide) (e_76 _) rfl d_Mod_leave_21 ?_
        refine J_iload_n C 2 d_Mod_leave_24 rfl rfl ?_
        refine J_aload_n C 0 d_Mod_leave_25 rfl rfl ?_
        refine J_get C f_Mod_27 (by decide) (e_76 _) rfl d_Mod_leave_26 ?_
        refine J_iload_n C 2 d_Mod_leave_29 rfl rfl ?_
        refine J_iload_n C 1 d_Mod_leave_30 rfl rfl ?_
        refine J_iaddN C d_Mod_leave_31 ?_
        refine K_ial C a_78 (j := i + b) rfl (by omega) d_Mod_leave_32 ?_
        refine K_ias C a_78 (j := i) rfl (by omega) d_Mod_leave_33 (kk := ?_)
        refine J_iinc C d_Mod_leave_34 rfl (v := nI (i + 1)) (nI_1 _) (by decide) rfl ?_
        refine J_goto C 12 d_Mod_leave_37 (by decide) ?_
        exact ih (i + 1) _ (by omega) (by omega) (by simp [mu, va_up]; exact hn) (by rw [show n - b - i = (n - b - (i + 1)) + 1 by omega] at hF; exact hF)
  exact lp (n - b + 1) 0 _ (by omega) (by omega) (by simp [mu, va_up, upd]) hM9

def LookM (n : Nat) (w : Nat → Nat) (ck : Int32) : Int32 :=
  if n = 0 then 0 else if ¬ w 0 = 250 then 1 else if n ≤ 1 then 0 else if ¬ w 1 = 243 then 1 else if n ≤ 2 then 0 else if ¬ w 2 = 32 then 1 else if n ≤ 3 then 0 else if ¬ w 3 / 64 = 2 then 1 else if n ≤ 6 then 0
  else if w 5 % 8 * 256 + w 6 + 1 < 5 then 1 else if 64 < w 5 % 8 * 256 + w 6 + 1 then 1 else if n < w 5 % 8 * 256 + w 6 + 8 then 0 else if ck = 0 then 1 else 2
set_option maxHeartbeats 4000000 in
set_option maxRecDepth 100000 in
theorem pm_look (l : Launch) (D : va_G) (dA : Nat → ClassId) (M : Mem) (n : Nat) (hn : M 76 6 = nI n) (hn2 : n ≤ 80) (w : Nat → Nat) (hw : ∀ i, i < n → M 78 i = nI (w i)) (hw2 : ∀ i, i < n → w i < 256) (ck : Int32) (hr1 : CkM (M 78) (w 5 % 8 * 256 + w 6 + 1) → ck = 1) (hr0 : ¬ CkM (M 78) (w 5 % 8 * 256 + w 6 + 1) → ck = 0) : PT l D dA k_Mod_look 1 90 [.ref 76] (E M) (.int (LookM n w ck)) := by
  refine PT.of (by decide +kernel) (Nat.le_of_ble_eq_true rfl) (by intro v hv; simp only [List.mem_cons, List.not_mem_nil, or_false] at hv; rcases hv with rfl <;> rfl) ?_
  intro A ad0 p e s m args below meth c C hr
  refine J_aload_n C 0 d_Mod_look_0 rfl rfl ?_
  refine J_get C f_Mod_30 (by decide) (e_76 _) rfl d_Mod_look_1 ?_
  refine J_val (y := nI n) hn ?_
  refine J_ifN_ne C 9 d_Mod_look_4 (by decide) (by omega) (fun hc4 => ?_) (fun hc4 => ?_)
  · refine J_aload_n C 0 d_Mod_look_9 rfl rfl ?_
    refine J_get C f_Mod_27 (by decide) (e_76 _) rfl d_Mod_look_10 ?_
    refine J_iconst C d_Mod_look_13 (v := nI 0) rfl ?_
    refine K_ial C a_78 (j := 0) rfl (by omega) d_Mod_look_14 ?_
    refine J_val (y := nI (w 0)) (hw _ (by omega)) ?_
    have b0 := hw2 0 (by omega)
    refine J_sipush C d_Mod_look_15 (v := nI 250) rfl ?_
    refine J_icmpN_ne C 60 d_Mod_look_18 (by decide) (by omega) (by omega) (fun hc18 => ?_) (fun hc18 => ?_)
    · refine J_iconst C d_Mod_look_60 (v := nI 1) rfl ?_
      exact P_iretE C hr (by first | (exfalso; omega) | (unfold LookM; (repeat (first | rw [if_pos (by omega)] | rw [if_neg (by omega)] | rw [if_pos (by assumption)] | rw [if_neg (by assumption)])) <;> rfl)) d_Mod_look_61
    · refine J_aload_n C 0 d_Mod_look_21 rfl rfl ?_
      refine J_get C f_Mod_30 (by decide) (e_76 _) rfl d_Mod_look_22 ?_
      refine J_val (y := nI n) hn ?_
      refine J_iconst C d_Mod_look_25 (v := nI 1) rfl ?_
      refine J_icmpN_le C 41 d_Mod_look_26 (by decide) (by omega) (by omega) (fun hc26 => ?_) (fun hc26 => ?_)
      · refine J_aload_n C 0 d_Mod_look_41 rfl rfl ?_
        refine J_get C f_Mod_30 (by decide) (e_76 _) rfl d_Mod_look_42 ?_
        refine J_val (y := nI n) hn ?_
        refine J_iconst C d_Mod_look_45 (v := nI 2) rfl ?_
        refine J_icmpN_le C 62 d_Mod_look_46 (by decide) (by omega) (by omega) (fun hc46 => ?_) (fun hc46 => ?_)
        · refine J_aload_n C 0 d_Mod_look_62 rfl rfl ?_
          refine J_get C f_Mod_30 (by decide) (e_76 _) rfl d_Mod_look_63 ?_
          refine J_val (y := nI n) hn ?_
          refine J_iconst C d_Mod_look_66 (v := nI 4) rfl ?_
          refine J_icmpN_ge C 72 d_Mod_look_67 (by decide) (by omega) (by omega) (fun hc67 => ?_) (fun hc67 => ?_)
          · refine J_aload_n C 0 d_Mod_look_72 rfl rfl ?_
            refine J_get C f_Mod_27 (by decide) (e_76 _) rfl d_Mod_look_73 ?_
            refine J_iconst C d_Mod_look_76 (v := nI 3) rfl ?_
            refine K_ial C a_78 (j := 3) rfl (by omega) d_Mod_look_77 ?_
            refine J_val (y := nI (w 3)) (hw _ (by omega)) ?_
            have b3 := hw2 3 (by omega)
            refine J_bipush C d_Mod_look_78 (v := nI 6) rfl ?_
            refine J_ishr C d_Mod_look_80 ?_
            refine J_val (y := nI (w 3 / 64)) (nI_shr 6 64 (by omega) (by decide) rfl) ?_
            refine J_iconst C d_Mod_look_81 (v := nI 2) rfl ?_
            refine J_icmpN_eq C 87 d_Mod_look_82 (by decide) (by omega) (by omega) (fun hc82 => ?_) (fun hc82 => ?_)
            · refine J_aload_n C 0 d_Mod_look_87 rfl rfl ?_
              refine J_get C f_Mod_30 (by decide) (e_76 _) rfl d_Mod_look_88 ?_
              refine J_val (y := nI n) hn ?_
              refine J_bipush C d_Mod_look_91 (v := nI 7) rfl ?_
              refine J_icmpN_ge C 98 d_Mod_look_93 (by decide) (by omega) (by omega) (fun hc93 => ?_) (fun hc93 => ?_)
              · refine J_aload_n C 0 d_Mod_look_98 rfl rfl ?_
                refine J_get C f_Mod_27 (by decide) (e_76 _) rfl d_Mod_look_99 ?_
                refine J_iconst C d_Mod_look_102 (v := nI 5) rfl ?_
                refine K_ial C a_78 (j := 5) rfl (by omega) d_Mod_look_103 ?_
                refine J_val (y := nI (w 5)) (hw _ (by omega)) ?_
                have b5 := hw2 5 (by omega)
                refine J_bipush C d_Mod_look_104 (v := nI 7) rfl ?_
                refine J_iand C d_Mod_look_106 ?_
                refine J_val (y := nI (w 5 % 8)) (nI_and 3 8 (by omega) (by decide) rfl) ?_
                refine J_sipush C d_Mod_look_107 (v := nI 256) rfl ?_
                refine J_imulN C d_Mod_look_110 ?_
                refine J_aload_n C 0 d_Mod_look_111 rfl rfl ?_
                refine J_get C f_Mod_27 (by decide) (e_76 _) rfl d_Mod_look_112 ?_
                refine J_bipush C d_Mod_look_115 (v := nI 6) rfl ?_
                refine K_ial C a_78 (j := 6) rfl (by omega) d_Mod_look_117 ?_
                refine J_val (y := nI (w 6)) (hw _ (by omega)) ?_
                have b6 := hw2 6 (by omega)
                refine J_iaddN C d_Mod_look_118 ?_
                refine J_iconst C d_Mod_look_119 (v := nI 1) rfl ?_
                refine J_iaddN C d_Mod_look_120 ?_
                refine J_istore_n C 1 d_Mod_look_121 rfl (by decide) rfl ?_
                refine J_iload_n C 1 d_Mod_look_122 rfl rfl ?_
                refine J_iconst C d_Mod_look_123 (v := nI 5) rfl ?_
                refine J_icmpN_lt C 133 d_Mod_look_124 (by decide) (by omega) (by omega) (fun hc124 => ?_) (fun hc124 => ?_)
                · refine J_iconst C d_Mod_look_133 (v := nI 1) rfl ?_
                  exact P_iretE C hr (by first | (exfalso; omega) | (unfold LookM; (repeat (first | rw [if_pos (by omega)] | rw [if_neg (by omega)] | rw [if_pos (by assumption)] | rw [if_neg (by assumption)])) <;> rfl)) d_Mod_look_134
                · refine J_iload_n C 1 d_Mod_look_127 rfl rfl ?_
                  refine J_bipush C d_Mod_look_128 (v := nI 64) rfl ?_
                  refine J_icmpN_le C 135 d_Mod_look_130 (by decide) (by omega) (by omega) (fun hc130 => ?_) (fun hc130 => ?_)
                  · refine J_aload_n C 0 d_Mod_look_135 rfl rfl ?_
                    refine J_get C f_Mod_30 (by decide) (e_76 _) rfl d_Mod_look_136 ?_
                    refine J_val (y := nI n) hn ?_
                    refine J_iload_n C 1 d_Mod_look_139 rfl rfl ?_
                    refine J_bipush C d_Mod_look_140 (v := nI 7) rfl ?_
                    refine J_iaddN C d_Mod_look_142 ?_
                    refine J_icmpN_ge C 148 d_Mod_look_143 (by decide) (by omega) (by omega) (fun hc143 => ?_) (fun hc143 => ?_)
                    · refine J_aload_n C 0 d_Mod_look_148 rfl rfl ?_
                      refine J_iload_n C 1 d_Mod_look_149 rfl rfl ?_
                      refine P_callV C (as := [.int (nI ((((w 5 % 8) * 256) + (w 6)) + 1))]) (st := []) (pm_checked l D dA M ((((w 5 % 8) * 256) + (w 6)) + 1) (by omega) ck hr1 hr0) l_Mod_140 v_Mod_checked (by decide) (e_76 _) rfl (by decide) (by decide) (by decide) (Nat.le_of_ble_eq_true rfl) d_Mod_look_150 (kk := ?_)
                      refine J_if_eq C 160 d_Mod_look_153 (by decide) (fun hc153 => ?_) (fun hc153 => ?_)
                      · refine J_iconst C d_Mod_look_160 (v := nI 1) rfl ?_
                        exact P_iretE C hr (by first | (exfalso; omega) | (unfold LookM; (repeat (first | rw [if_pos (by omega)] | rw [if_neg (by omega)] | rw [if_pos (by assumption)] | rw [if_neg (by assumption)])) <;> rfl)) d_Mod_look_161
                      · refine J_iconst C d_Mod_look_156 (v := nI 2) rfl ?_
                        refine J_goto C 161 d_Mod_look_157 (by decide) ?_
                        exact P_iretE C hr (by first | (exfalso; omega) | (unfold LookM; (repeat (first | rw [if_pos (by omega)] | rw [if_neg (by omega)] | rw [if_pos (by assumption)] | rw [if_neg (by assumption)])) <;> rfl)) d_Mod_look_161
                    · refine J_iconst C d_Mod_look_146 (v := nI 0) rfl ?_
                      exact P_iretE C hr (by first | (exfalso; omega) | (unfold LookM; (repeat (first | rw [if_pos (by omega)] | rw [if_neg (by omega)] | rw [if_pos (by assumption)] | rw [if_neg (by assumption)])) <;> rfl)) d_Mod_look_147
                  · refine J_iconst C d_Mod_look_133 (v := nI 1) rfl ?_
                    exact P_iretE C hr (by first | (exfalso; omega) | (unfold LookM; (repeat (first | rw [if_pos (by omega)] | rw [if_neg (by omega)] | rw [if_pos (by assumption)] | rw [if_neg (by assumption)])) <;> rfl)) d_Mod_look_134
              · refine J_iconst C d_Mod_look_96 (v := nI 0) rfl ?_
                exact P_iretE C hr (by first | (exfalso; omega) | (unfold LookM; (repeat (first | rw [if_pos (by omega)] | rw [if_neg (by omega)] | rw [if_pos (by assumption)] | rw [if_neg (by assumption)])) <;> rfl)) d_Mod_look_97
            · refine J_iconst C d_Mod_look_85 (v := nI 1) rfl ?_
              exact P_iretE C hr (by first | (exfalso; omega) | (unfold LookM; (repeat (first | rw [if_pos (by omega)] | rw [if_neg (by omega)] | rw [if_pos (by assumption)] | rw [if_neg (by assumption)])) <;> rfl)) d_Mod_look_86
          · refine J_iconst C d_Mod_look_70 (v := nI 0) rfl ?_
            exact P_iretE C hr (by first | (exfalso; omega) | (unfold LookM; (repeat (first | rw [if_pos (by omega)] | rw [if_neg (by omega)] | rw [if_pos (by assumption)] | rw [if_neg (by assumption)])) <;> rfl)) d_Mod_look_71
        · refine J_aload_n C 0 d_Mod_look_49 rfl rfl ?_
          refine J_get C f_Mod_27 (by decide) (e_76 _) rfl d_Mod_look_50 ?_
          refine J_iconst C d_Mod_look_53 (v := nI 2) rfl ?_
          refine K_ial C a_78 (j := 2) rfl (by omega) d_Mod_look_54 ?_
          refine J_val (y := nI (w 2)) (hw _ (by omega)) ?_
          have b2 := hw2 2 (by omega)
          refine J_bipush C d_Mod_look_55 (v := nI 32) rfl ?_
          refine J_icmpN_eq C 62 d_Mod_look_57 (by decide) (by omega) (by omega) (fun hc57 => ?_) (fun hc57 => ?_)
          · refine J_aload_n C 0 d_Mod_look_62 rfl rfl ?_
            refine J_get C f_Mod_30 (by decide) (e_76 _) rfl d_Mod_look_63 ?_
            refine J_val (y := nI n) hn ?_
            refine J_iconst C d_Mod_look_66 (v := nI 4) rfl ?_
            refine J_icmpN_ge C 72 d_Mod_look_67 (by decide) (by omega) (by omega) (fun hc67 => ?_) (fun hc67 => ?_)
            · refine J_aload_n C 0 d_Mod_look_72 rfl rfl ?_
              refine J_get C f_Mod_27 (by decide) (e_76 _) rfl d_Mod_look_73 ?_
              refine J_iconst C d_Mod_look_76 (v := nI 3) rfl ?_
              refine K_ial C a_78 (j := 3) rfl (by omega) d_Mod_look_77 ?_
              refine J_val (y := nI (w 3)) (hw _ (by omega)) ?_
              have b3 := hw2 3 (by omega)
              refine J_bipush C d_Mod_look_78 (v := nI 6) rfl ?_
              refine J_ishr C d_Mod_look_80 ?_
              refine J_val (y := nI (w 3 / 64)) (nI_shr 6 64 (by omega) (by decide) rfl) ?_
              refine J_iconst C d_Mod_look_81 (v := nI 2) rfl ?_
              refine J_icmpN_eq C 87 d_Mod_look_82 (by decide) (by omega) (by omega) (fun hc82 => ?_) (fun hc82 => ?_)
              · refine J_aload_n C 0 d_Mod_look_87 rfl rfl ?_
                refine J_get C f_Mod_30 (by decide) (e_76 _) rfl d_Mod_look_88 ?_
                refine J_val (y := nI n) hn ?_
                refine J_bipush C d_Mod_look_91 (v := nI 7) rfl ?_
                refine J_icmpN_ge C 98 d_Mod_look_93 (by decide) (by omega) (by omega) (fun hc93 => ?_) (fun hc93 => ?_)
                · refine J_aload_n C 0 d_Mod_look_98 rfl rfl ?_
                  refine J_get C f_Mod_27 (by decide) (e_76 _) rfl d_Mod_look_99 ?_
                  refine J_iconst C d_Mod_look_102 (v := nI 5) rfl ?_
                  refine K_ial C a_78 (j := 5) rfl (by omega) d_Mod_look_103 ?_
                  refine J_val (y := nI (w 5)) (hw _ (by omega)) ?_
                  have b5 := hw2 5 (by omega)
                  refine J_bipush C d_Mod_look_104 (v := nI 7) rfl ?_
                  refine J_iand C d_Mod_look_106 ?_
                  refine J_val (y := nI (w 5 % 8)) (nI_and 3 8 (by omega) (by decide) rfl) ?_
                  refine J_sipush C d_Mod_look_107 (v := nI 256) rfl ?_
                  refine J_imulN C d_Mod_look_110 ?_
                  refine J_aload_n C 0 d_Mod_look_111 rfl rfl ?_
                  refine J_get C f_Mod_27 (by decide) (e_76 _) rfl d_Mod_look_112 ?_
                  refine J_bipush C d_Mod_look_115 (v := nI 6) rfl ?_
                  refine K_ial C a_78 (j := 6) rfl (by omega) d_Mod_look_117 ?_
                  refine J_val (y := nI (w 6)) (hw _ (by omega)) ?_
                  have b6 := hw2 6 (by omega)
                  refine J_iaddN C d_Mod_look_118 ?_
                  refine J_iconst C d_Mod_look_119 (v := nI 1) rfl ?_
                  refine J_iaddN C d_Mod_look_120 ?_
                  refine J_istore_n C 1 d_Mod_look_121 rfl (by decide) rfl ?_
                  refine J_iload_n C 1 d_Mod_look_122 rfl rfl ?_
                  refine J_iconst C d_Mod_look_123 (v := nI 5) rfl ?_
                  refine J_icmpN_lt C 133 d_Mod_look_124 (by decide) (by omega) (by omega) (fun hc124 => ?_) (fun hc124 => ?_)
                  · refine J_iconst C d_Mod_look_133 (v := nI 1) rfl ?_
                    exact P_iretE C hr (by first | (exfalso; omega) | (unfold LookM; (repeat (first | rw [if_pos (by omega)] | rw [if_neg (by omega)] | rw [if_pos (by assumption)] | rw [if_neg (by assumption)])) <;> rfl)) d_Mod_look_134
                  · refine J_iload_n C 1 d_Mod_look_127 rfl rfl ?_
                    refine J_bipush C d_Mod_look_128 (v := nI 64) rfl ?_
                    refine J_icmpN_le C 135 d_Mod_look_130 (by decide) (by omega) (by omega) (fun hc130 => ?_) (fun hc130 => ?_)
                    · refine J_aload_n C 0 d_Mod_look_135 rfl rfl ?_
                      refine J_get C f_Mod_30 (by decide) (e_76 _) rfl d_Mod_look_136 ?_
                      refine J_val (y := nI n) hn ?_
                      refine J_iload_n C 1 d_Mod_look_139 rfl rfl ?_
                      refine J_bipush C d_Mod_look_140 (v := nI 7) rfl ?_
                      refine J_iaddN C d_Mod_look_142 ?_
                      refine J_icmpN_ge C 148 d_Mod_look_143 (by decide) (by omega) (by omega) (fun hc143 => ?_) (fun hc143 => ?_)
                      · refine J_aload_n C 0 d_Mod_look_148 rfl rfl ?_
                        refine J_iload_n C 1 d_Mod_look_149 rfl rfl ?_
                        refine P_callV C (as := [.int (nI ((((w 5 % 8) * 256) + (w 6)) + 1))]) (st := []) (pm_checked l D dA M ((((w 5 % 8) * 256) + (w 6)) + 1) (by omega) ck hr1 hr0) l_Mod_140 v_Mod_checked (by decide) (e_76 _) rfl (by decide) (by decide) (by decide) (Nat.le_of_ble_eq_true rfl) d_Mod_look_150 (kk := ?_)
                        refine J_if_eq C 160 d_Mod_look_153 (by decide) (fun hc153 => ?_) (fun hc153 => ?_)
                        · refine J_iconst C d_Mod_look_160 (v := nI 1) rfl ?_
                          exact P_iretE C hr (by first | (exfalso; omega) | (unfold LookM; (repeat (first | rw [if_pos (by omega)] | rw [if_neg (by omega)] | rw [if_pos (by assumption)] | rw [if_neg (by assumption)])) <;> rfl)) d_Mod_look_161
                        · refine J_iconst C d_Mod_look_156 (v := nI 2) rfl ?_
                          refine J_goto C 161 d_Mod_look_157 (by decide) ?_
                          exact P_iretE C hr (by first | (exfalso; omega) | (unfold LookM; (repeat (first | rw [if_pos (by omega)] | rw [if_neg (by omega)] | rw [if_pos (by assumption)] | rw [if_neg (by assumption)])) <;> rfl)) d_Mod_look_161
                      · refine J_iconst C d_Mod_look_146 (v := nI 0) rfl ?_
                        exact P_iretE C hr (by first | (exfalso; omega) | (unfold LookM; (repeat (first | rw [if_pos (by omega)] | rw [if_neg (by omega)] | rw [if_pos (by assumption)] | rw [if_neg (by assumption)])) <;> rfl)) d_Mod_look_147
                    · refine J_iconst C d_Mod_look_133 (v := nI 1) rfl ?_
                      exact P_iretE C hr (by first | (exfalso; omega) | (unfold LookM; (repeat (first | rw [if_pos (by omega)] | rw [if_neg (by omega)] | rw [if_pos (by assumption)] | rw [if_neg (by assumption)])) <;> rfl)) d_Mod_look_134
                · refine J_iconst C d_Mod_look_96 (v := nI 0) rfl ?_
                  exact P_iretE C hr (by first | (exfalso; omega) | (unfold LookM; (repeat (first | rw [if_pos (by omega)] | rw [if_neg (by omega)] | rw [if_pos (by assumption)] | rw [if_neg (by assumption)])) <;> rfl)) d_Mod_look_97
              · refine J_iconst C d_Mod_look_85 (v := nI 1) rfl ?_
                exact P_iretE C hr (by first | (exfalso; omega) | (unfold LookM; (repeat (first | rw [if_pos (by omega)] | rw [if_neg (by omega)] | rw [if_pos (by assumption)] | rw [if_neg (by assumption)])) <;> rfl)) d_Mod_look_86
            · refine J_iconst C d_Mod_look_70 (v := nI 0) rfl ?_
              exact P_iretE C hr (by first | (exfalso; omega) | (unfold LookM; (repeat (first | rw [if_pos (by omega)] | rw [if_neg (by omega)] | rw [if_pos (by assumption)] | rw [if_neg (by assumption)])) <;> rfl)) d_Mod_look_71
          · refine J_iconst C d_Mod_look_60 (v := nI 1) rfl ?_
            exact P_iretE C hr (by first | (exfalso; omega) | (unfold LookM; (repeat (first | rw [if_pos (by omega)] | rw [if_neg (by omega)] | rw [if_pos (by assumption)] | rw [if_neg (by assumption)])) <;> rfl)) d_Mod_look_61
      · refine J_aload_n C 0 d_Mod_look_29 rfl rfl ?_
        refine J_get C f_Mod_27 (by decide) (e_76 _) rfl d_Mod_look_30 ?_
        refine J_iconst C d_Mod_look_33 (v := nI 1) rfl ?_
        refine K_ial C a_78 (j := 1) rfl (by omega) d_Mod_look_34 ?_
        refine J_val (y := nI (w 1)) (hw _ (by omega)) ?_
        have b1 := hw2 1 (by omega)
        refine J_sipush C d_Mod_look_35 (v := nI 243) rfl ?_
        refine J_icmpN_ne C 60 d_Mod_look_38 (by decide) (by omega) (by omega) (fun hc38 => ?_) (fun hc38 => ?_)
        · refine J_iconst C d_Mod_look_60 (v := nI 1) rfl ?_
          exact P_iretE C hr (by first | (exfalso; omega) | (unfold LookM; (repeat (first | rw [if_pos (by omega)] | rw [if_neg (by omega)] | rw [if_pos (by assumption)] | rw [if_neg (by assumption)])) <;> rfl)) d_Mod_look_61
        · refine J_aload_n C 0 d_Mod_look_41 rfl rfl ?_
          refine J_get C f_Mod_30 (by decide) (e_76 _) rfl d_Mod_look_42 ?_
          refine J_val (y := nI n) hn ?_
          refine J_iconst C d_Mod_look_45 (v := nI 2) rfl ?_
          refine J_icmpN_le C 62 d_Mod_look_46 (by decide) (by omega) (by omega) (fun hc46 => ?_) (fun hc46 => ?_)
          · refine J_aload_n C 0 d_Mod_look_62 rfl rfl ?_
            refine J_get C f_Mod_30 (by decide) (e_76 _) rfl d_Mod_look_63 ?_
            refine J_val (y := nI n) hn ?_
            refine J_iconst C d_Mod_look_66 (v := nI 4) rfl ?_
            refine J_icmpN_ge C 72 d_Mod_look_67 (by decide) (by omega) (by omega) (fun hc67 => ?_) (fun hc67 => ?_)
            · refine J_aload_n C 0 d_Mod_look_72 rfl rfl ?_
              refine J_get C f_Mod_27 (by decide) (e_76 _) rfl d_Mod_look_73 ?_
              refine J_iconst C d_Mod_look_76 (v := nI 3) rfl ?_
              refine K_ial C a_78 (j := 3) rfl (by omega) d_Mod_look_77 ?_
              refine J_val (y := nI (w 3)) (hw _ (by omega)) ?_
              have b3 := hw2 3 (by omega)
              refine J_bipush C d_Mod_look_78 (v := nI 6) rfl ?_
              refine J_ishr C d_Mod_look_80 ?_
              refine J_val (y := nI (w 3 / 64)) (nI_shr 6 64 (by omega) (by decide) rfl) ?_
              refine J_iconst C d_Mod_look_81 (v := nI 2) rfl ?_
              refine J_icmpN_eq C 87 d_Mod_look_82 (by decide) (by omega) (by omega) (fun hc82 => ?_) (fun hc82 => ?_)
              · refine J_aload_n C 0 d_Mod_look_87 rfl rfl ?_
                refine J_get C f_Mod_30 (by decide) (e_76 _) rfl d_Mod_look_88 ?_
                refine J_val (y := nI n) hn ?_
                refine J_bipush C d_Mod_look_91 (v := nI 7) rfl ?_
                refine J_icmpN_ge C 98 d_Mod_look_93 (by decide) (by omega) (by omega) (fun hc93 => ?_) (fun hc93 => ?_)
                · refine J_aload_n C 0 d_Mod_look_98 rfl rfl ?_
                  refine J_get C f_Mod_27 (by decide) (e_76 _) rfl d_Mod_look_99 ?_
                  refine J_iconst C d_Mod_look_102 (v := nI 5) rfl ?_
                  refine K_ial C a_78 (j := 5) rfl (by omega) d_Mod_look_103 ?_
                  refine J_val (y := nI (w 5)) (hw _ (by omega)) ?_
                  have b5 := hw2 5 (by omega)
                  refine J_bipush C d_Mod_look_104 (v := nI 7) rfl ?_
                  refine J_iand C d_Mod_look_106 ?_
                  refine J_val (y := nI (w 5 % 8)) (nI_and 3 8 (by omega) (by decide) rfl) ?_
                  refine J_sipush C d_Mod_look_107 (v := nI 256) rfl ?_
                  refine J_imulN C d_Mod_look_110 ?_
                  refine J_aload_n C 0 d_Mod_look_111 rfl rfl ?_
                  refine J_get C f_Mod_27 (by decide) (e_76 _) rfl d_Mod_look_112 ?_
                  refine J_bipush C d_Mod_look_115 (v := nI 6) rfl ?_
                  refine K_ial C a_78 (j := 6) rfl (by omega) d_Mod_look_117 ?_
                  refine J_val (y := nI (w 6)) (hw _ (by omega)) ?_
                  have b6 := hw2 6 (by omega)
                  refine J_iaddN C d_Mod_look_118 ?_
                  refine J_iconst C d_Mod_look_119 (v := nI 1) rfl ?_
                  refine J_iaddN C d_Mod_look_120 ?_
                  refine J_istore_n C 1 d_Mod_look_121 rfl (by decide) rfl ?_
                  refine J_iload_n C 1 d_Mod_look_122 rfl rfl ?_
                  refine J_iconst C d_Mod_look_123 (v := nI 5) rfl ?_
                  refine J_icmpN_lt C 133 d_Mod_look_124 (by decide) (by omega) (by omega) (fun hc124 => ?_) (fun hc124 => ?_)
                  · refine J_iconst C d_Mod_look_133 (v := nI 1) rfl ?_
                    exact P_iretE C hr (by first | (exfalso; omega) | (unfold LookM; (repeat (first | rw [if_pos (by omega)] | rw [if_neg (by omega)] | rw [if_pos (by assumption)] | rw [if_neg (by assumption)])) <;> rfl)) d_Mod_look_134
                  · refine J_iload_n C 1 d_Mod_look_127 rfl rfl ?_
                    refine J_bipush C d_Mod_look_128 (v := nI 64) rfl ?_
                    refine J_icmpN_le C 135 d_Mod_look_130 (by decide) (by omega) (by omega) (fun hc130 => ?_) (fun hc130 => ?_)
                    · refine J_aload_n C 0 d_Mod_look_135 rfl rfl ?_
                      refine J_get C f_Mod_30 (by decide) (e_76 _) rfl d_Mod_look_136 ?_
                      refine J_val (y := nI n) hn ?_
                      refine J_iload_n C 1 d_Mod_look_139 rfl rfl ?_
                      refine J_bipush C d_Mod_look_140 (v := nI 7) rfl ?_
                      refine J_iaddN C d_Mod_look_142 ?_
                      refine J_icmpN_ge C 148 d_Mod_look_143 (by decide) (by omega) (by omega) (fun hc143 => ?_) (fun hc143 => ?_)
                      · refine J_aload_n C 0 d_Mod_look_148 rfl rfl ?_
                        refine J_iload_n C 1 d_Mod_look_149 rfl rfl ?_
                        refine P_callV C (as := [.int (nI ((((w 5 % 8) * 256) + (w 6)) + 1))]) (st := []) (pm_checked l D dA M ((((w 5 % 8) * 256) + (w 6)) + 1) (by omega) ck hr1 hr0) l_Mod_140 v_Mod_checked (by decide) (e_76 _) rfl (by decide) (by decide) (by decide) (Nat.le_of_ble_eq_true rfl) d_Mod_look_150 (kk := ?_)
                        refine J_if_eq C 160 d_Mod_look_153 (by decide) (fun hc153 => ?_) (fun hc153 => ?_)
                        · refine J_iconst C d_Mod_look_160 (v := nI 1) rfl ?_
                          exact P_iretE C hr (by first | (exfalso; omega) | (unfold LookM; (repeat (first | rw [if_pos (by omega)] | rw [if_neg (by omega)] | rw [if_pos (by assumption)] | rw [if_neg (by assumption)])) <;> rfl)) d_Mod_look_161
                        · refine J_iconst C d_Mod_look_156 (v := nI 2) rfl ?_
                          refine J_goto C 161 d_Mod_look_157 (by decide) ?_
                          exact P_iretE C hr (by first | (exfalso; omega) | (unfold LookM; (repeat (first | rw [if_pos (by omega)] | rw [if_neg (by omega)] | rw [if_pos (by assumption)] | rw [if_neg (by assumption)])) <;> rfl)) d_Mod_look_161
                      · refine J_iconst C d_Mod_look_146 (v := nI 0) rfl ?_
                        exact P_iretE C hr (by first | (exfalso; omega) | (unfold LookM; (repeat (first | rw [if_pos (by omega)] | rw [if_neg (by omega)] | rw [if_pos (by assumption)] | rw [if_neg (by assumption)])) <;> rfl)) d_Mod_look_147
                    · refine J_iconst C d_Mod_look_133 (v := nI 1) rfl ?_
                      exact P_iretE C hr (by first | (exfalso; omega) | (unfold LookM; (repeat (first | rw [if_pos (by omega)] | rw [if_neg (by omega)] | rw [if_pos (by assumption)] | rw [if_neg (by assumption)])) <;> rfl)) d_Mod_look_134
                · refine J_iconst C d_Mod_look_96 (v := nI 0) rfl ?_
                  exact P_iretE C hr (by first | (exfalso; omega) | (unfold LookM; (repeat (first | rw [if_pos (by omega)] | rw [if_neg (by omega)] | rw [if_pos (by assumption)] | rw [if_neg (by assumption)])) <;> rfl)) d_Mod_look_97
              · refine J_iconst C d_Mod_look_85 (v := nI 1) rfl ?_
                exact P_iretE C hr (by first | (exfalso; omega) | (unfold LookM; (repeat (first | rw [if_pos (by omega)] | rw [if_neg (by omega)] | rw [if_pos (by assumption)] | rw [if_neg (by assumption)])) <;> rfl)) d_Mod_look_86
            · refine J_iconst C d_Mod_look_70 (v := nI 0) rfl ?_
              exact P_iretE C hr (by first | (exfalso; omega) | (unfold LookM; (repeat (first | rw [if_pos (by omega)] | rw [if_neg (by omega)] | rw [if_pos (by assumption)] | rw [if_neg (by assumption)])) <;> rfl)) d_Mod_look_71
          · refine J_aload_n C 0 d_Mod_look_49 rfl rfl ?_
            refine J_get C f_Mod_27 (by decide) (e_76 _) rfl d_Mod_look_50 ?_
            refine J_iconst C d_Mod_look_53 (v := nI 2) rfl ?_
            refine K_ial C a_78 (j := 2) rfl (by omega) d_Mod_look_54 ?_
            refine J_val (y := nI (w 2)) (hw _ (by omega)) ?_
            have b2 := hw2 2 (by omega)
            refine J_bipush C d_Mod_look_55 (v := nI 32) rfl ?_
            refine J_icmpN_eq C 62 d_Mod_look_57 (by decide) (by omega) (by omega) (fun hc57 => ?_) (fun hc57 => ?_)
            · refine J_aload_n C 0 d_Mod_look_62 rfl rfl ?_
              refine J_get C f_Mod_30 (by decide) (e_76 _) rfl d_Mod_look_63 ?_
              refine J_val (y := nI n) hn ?_
              refine J_iconst C d_Mod_look_66 (v := nI 4) rfl ?_
              refine J_icmpN_ge C 72 d_Mod_look_67 (by decide) (by omega) (by omega) (fun hc67 => ?_) (fun hc67 => ?_)
              · refine J_aload_n C 0 d_Mod_look_72 rfl rfl ?_
                refine J_get C f_Mod_27 (by decide) (e_76 _) rfl d_Mod_look_73 ?_
                refine J_iconst C d_Mod_look_76 (v := nI 3) rfl ?_
                refine K_ial C a_78 (j := 3) rfl (by omega) d_Mod_look_77 ?_
                refine J_val (y := nI (w 3)) (hw _ (by omega)) ?_
                have b3 := hw2 3 (by omega)
                refine J_bipush C d_Mod_look_78 (v := nI 6) rfl ?_
                refine J_ishr C d_Mod_look_80 ?_
                refine J_val (y := nI (w 3 / 64)) (nI_shr 6 64 (by omega) (by decide) rfl) ?_
                refine J_iconst C d_Mod_look_81 (v := nI 2) rfl ?_
                refine J_icmpN_eq C 87 d_Mod_look_82 (by decide) (by omega) (by omega) (fun hc82 => ?_) (fun hc82 => ?_)
                · refine J_aload_n C 0 d_Mod_look_87 rfl rfl ?_
                  refine J_get C f_Mod_30 (by decide) (e_76 _) rfl d_Mod_look_88 ?_
                  refine J_val (y := nI n) hn ?_
                  refine J_bipush C d_Mod_look_91 (v := nI 7) rfl ?_
                  refine J_icmpN_ge C 98 d_Mod_look_93 (by decide) (by omega) (by omega) (fun hc93 => ?_) (fun hc93 => ?_)
                  · refine J_aload_n C 0 d_Mod_look_98 rfl rfl ?_
                    refine J_get C f_Mod_27 (by decide) (e_76 _) rfl d_Mod_look_99 ?_
                    refine J_iconst C d_Mod_look_102 (v := nI 5) rfl ?_
                    refine K_ial C a_78 (j := 5) rfl (by omega) d_Mod_look_103 ?_
                    refine J_val (y := nI (w 5)) (hw _ (by omega)) ?_
                    have b5 := hw2 5 (by omega)
                    refine J_bipush C d_Mod_look_104 (v := nI 7) rfl ?_
                    refine J_iand C d_Mod_look_106 ?_
                    refine J_val (y := nI (w 5 % 8)) (nI_and 3 8 (by omega) (by decide) rfl) ?_
                    refine J_sipush C d_Mod_look_107 (v := nI 256) rfl ?_
                    refine J_imulN C d_Mod_look_110 ?_
                    refine J_aload_n C 0 d_Mod_look_111 rfl rfl ?_
                    refine J_get C f_Mod_27 (by decide) (e_76 _) rfl d_Mod_look_112 ?_
                    refine J_bipush C d_Mod_look_115 (v := nI 6) rfl ?_
                    refine K_ial C a_78 (j := 6) rfl (by omega) d_Mod_look_117 ?_
                    refine J_val (y := nI (w 6)) (hw _ (by omega)) ?_
                    have b6 := hw2 6 (by omega)
                    refine J_iaddN C d_Mod_look_118 ?_
                    refine J_iconst C d_Mod_look_119 (v := nI 1) rfl ?_
                    refine J_iaddN C d_Mod_look_120 ?_
                    refine J_istore_n C 1 d_Mod_look_121 rfl (by decide) rfl ?_
                    refine J_iload_n C 1 d_Mod_look_122 rfl rfl ?_
                    refine J_iconst C d_Mod_look_123 (v := nI 5) rfl ?_
                    refine J_icmpN_lt C 133 d_Mod_look_124 (by decide) (by omega) (by omega) (fun hc124 => ?_) (fun hc124 => ?_)
                    · refine J_iconst C d_Mod_look_133 (v := nI 1) rfl ?_
                      exact P_iretE C hr (by first | (exfalso; omega) | (unfold LookM; (repeat (first | rw [if_pos (by omega)] | rw [if_neg (by omega)] | rw [if_pos (by assumption)] | rw [if_neg (by assumption)])) <;> rfl)) d_Mod_look_134
                    · refine J_iload_n C 1 d_Mod_look_127 rfl rfl ?_
                      refine J_bipush C d_Mod_look_128 (v := nI 64) rfl ?_
                      refine J_icmpN_le C 135 d_Mod_look_130 (by decide) (by omega) (by omega) (fun hc130 => ?_) (fun hc130 => ?_)
                      · refine J_aload_n C 0 d_Mod_look_135 rfl rfl ?_
                        refine J_get C f_Mod_30 (by decide) (e_76 _) rfl d_Mod_look_136 ?_
                        refine J_val (y := nI n) hn ?_
                        refine J_iload_n C 1 d_Mod_look_139 rfl rfl ?_
                        refine J_bipush C d_Mod_look_140 (v := nI 7) rfl ?_
                        refine J_iaddN C d_Mod_look_142 ?_
                        refine J_icmpN_ge C 148 d_Mod_look_143 (by decide) (by omega) (by omega) (fun hc143 => ?_) (fun hc143 => ?_)
                        · refine J_aload_n C 0 d_Mod_look_148 rfl rfl ?_
                          refine J_iload_n C 1 d_Mod_look_149 rfl rfl ?_
                          refine P_callV C (as := [.int (nI ((((w 5 % 8) * 256) + (w 6)) + 1))]) (st := []) (pm_checked l D dA M ((((w 5 % 8) * 256) + (w 6)) + 1) (by omega) ck hr1 hr0) l_Mod_140 v_Mod_checked (by decide) (e_76 _) rfl (by decide) (by decide) (by decide) (Nat.le_of_ble_eq_true rfl) d_Mod_look_150 (kk := ?_)
                          refine J_if_eq C 160 d_Mod_look_153 (by decide) (fun hc153 => ?_) (fun hc153 => ?_)
                          · refine J_iconst C d_Mod_look_160 (v := nI 1) rfl ?_
                            exact P_iretE C hr (by first | (exfalso; omega) | (unfold LookM; (repeat (first | rw [if_pos (by omega)] | rw [if_neg (by omega)] | rw [if_pos (by assumption)] | rw [if_neg (by assumption)])) <;> rfl)) d_Mod_look_161
                          · refine J_iconst C d_Mod_look_156 (v := nI 2) rfl ?_
                            refine J_goto C 161 d_Mod_look_157 (by decide) ?_
                            exact P_iretE C hr (by first | (exfalso; omega) | (unfold LookM; (repeat (first | rw [if_pos (by omega)] | rw [if_neg (by omega)] | rw [if_pos (by assumption)] | rw [if_neg (by assumption)])) <;> rfl)) d_Mod_look_161
                        · refine J_iconst C d_Mod_look_146 (v := nI 0) rfl ?_
                          exact P_iretE C hr (by first | (exfalso; omega) | (unfold LookM; (repeat (first | rw [if_pos (by omega)] | rw [if_neg (by omega)] | rw [if_pos (by assumption)] | rw [if_neg (by assumption)])) <;> rfl)) d_Mod_look_147
                      · refine J_iconst C d_Mod_look_133 (v := nI 1) rfl ?_
                        exact P_iretE C hr (by first | (exfalso; omega) | (unfold LookM; (repeat (first | rw [if_pos (by omega)] | rw [if_neg (by omega)] | rw [if_pos (by assumption)] | rw [if_neg (by assumption)])) <;> rfl)) d_Mod_look_134
                  · refine J_iconst C d_Mod_look_96 (v := nI 0) rfl ?_
                    exact P_iretE C hr (by first | (exfalso; omega) | (unfold LookM; (repeat (first | rw [if_pos (by omega)] | rw [if_neg (by omega)] | rw [if_pos (by assumption)] | rw [if_neg (by assumption)])) <;> rfl)) d_Mod_look_97
                · refine J_iconst C d_Mod_look_85 (v := nI 1) rfl ?_
                  exact P_iretE C hr (by first | (exfalso; omega) | (unfold LookM; (repeat (first | rw [if_pos (by omega)] | rw [if_neg (by omega)] | rw [if_pos (by assumption)] | rw [if_neg (by assumption)])) <;> rfl)) d_Mod_look_86
              · refine J_iconst C d_Mod_look_70 (v := nI 0) rfl ?_
                exact P_iretE C hr (by first | (exfalso; omega) | (unfold LookM; (repeat (first | rw [if_pos (by omega)] | rw [if_neg (by omega)] | rw [if_pos (by assumption)] | rw [if_neg (by assumption)])) <;> rfl)) d_Mod_look_71
            · refine J_iconst C d_Mod_look_60 (v := nI 1) rfl ?_
              exact P_iretE C hr (by first | (exfalso; omega) | (unfold LookM; (repeat (first | rw [if_pos (by omega)] | rw [if_neg (by omega)] | rw [if_pos (by assumption)] | rw [if_neg (by assumption)])) <;> rfl)) d_Mod_look_61
  · refine J_iconst C d_Mod_look_7 (v := nI 0) rfl ?_
    exact P_iretE C hr (by first | (exfalso; omega) | (unfold LookM; (repeat (first | rw [if_pos (by omega)] | rw [if_neg (by omega)] | rw [if_pos (by assumption)] | rw [if_neg (by assumption)])) <;> rfl)) d_Mod_look_8
