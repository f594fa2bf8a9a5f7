def hdM (X : Mem) (w : Nat) : Mem := mu (mu (mu (mu (mu (mu (mu (mu X 76 0 (nI 0)) 88 w ((X 88 w + nI 1) &&& 16777215)) 87 0 (nI (21312 + w) >>> (nI 8 &&& 31))) 87 1 (nI (21312 + w) &&& nI 255)) 87 2 (X 88 w >>> (nI 16 &&& 31))) 87 3 ((X 88 w >>> (nI 8 &&& 31)) &&& nI 255)) 87 4 (X 88 w &&& nI 255)) 87 5 (nI 0)
def c16 (X : Mem) : Mem := mu (mu X 87 30 (crcAll6 (X 87) 30 0 65535 >>> (nI 8 &&& 31))) 87 31 (crcAll6 (X 87) 30 0 65535 &&& nI 255)
def frM (X : Mem) (w : Nat) : Mem := mu (c16 (flM (cX X) (nI w) 22 8 0 (-1) 0 (hdM X w))) 76 25 (nI 1)
def fSnd (X : Mem) (w : Nat) : Mem := dpM 60 0 (frM X w)
theorem XSv.hd {c0 : Nat} {ln em : Nat → Nat} {bk : Nat → Nat → Nat} {X : Mem} (h : XSv c0 ln em bk X) (w : Nat) : XSv c0 ln em bk (hdM X w) := h
theorem XSv.fr {c0 : Nat} {ln em : Nat → Nat} {bk : Nat → Nat → Nat} {X : Mem} (h : XSv c0 ln em bk X) (w : Nat) : ∃ em', XSv c0 ln em' bk (frM X w) := by
  obtain ⟨em', h'⟩ := XSv.fl c0 ln bk (nI w) 22 8 0 (-1) 0 em (hdM X w) h (Nat.zero_le _)
  refine ⟨em', ?_⟩
  unfold frM
  rw [h.c]
  exact h' 
set_option maxHeartbeats 4000000 in
set_option maxRecDepth 100000 in
theorem fm_send0 (l : Launch) (D : va_G) (dA : Nat → ClassId) (M : Mem) (hX : XS M) (ho : M 76 3 = 0) (hp : ¬ (M 77 4).toInt64 = 0) (hse : ¬ fOpen (M 76 1) (M 77 3) (M 77 4) (M 77 5) = 0) : CF l D dA k_Mod_send 3 [.ref 76, .int (nI 0)] M (some (.int (M 88 0))) (fSnd M 0) := by
  refine CF.of (by decide +kernel) (Nat.le_of_ble_eq_true rfl) (by intro v hv; simp only [List.mem_cons, List.not_mem_nil, or_false] at hv; rcases hv with rfl | rfl <;> rfl) ?_
  intro A ad0 p e s m args below meth c C hr
  obtain ⟨c0, ln, em, bk, hS⟩ := hX
  refine J_aload_n C 0 d_Mod_send_0 rfl rfl ?_
  refine J_aload_n C 0 d_Mod_send_1 rfl rfl ?_
  refine J_get C f_Mod_20 (by decide) (e_76 _) rfl d_Mod_send_2 ?_
  refine J_if_eq C 12 d_Mod_send_5 (by decide) (fun hc5 => ?_) (fun hc5 => absurd ho hc5)
  refine J_iload_n C 1 d_Mod_send_12 rfl rfl ?_
  refine J_ifN_lt C d_Mod_send_13 21 (by decide) (by omega) ?_
  refine J_iload_n C 1 d_Mod_send_16 rfl rfl ?_
  refine J_iconst C d_Mod_send_17 (v := nI 1) rfl ?_
  refine J_icmpN_le C 25 d_Mod_send_18 (by decide) (by omega) (by omega) (fun hc18 => ?_) (fun hc18 => absurd hc18 (by decide))
  refine J_aload_n C 0 d_Mod_send_25 rfl rfl ?_
  refine J_iconst C d_Mod_send_26 (v := nI 1) rfl ?_
  refine P_callV C (as := [.int (nI 1)]) (st := [.ref 76]) (pm_seenBy1 l D dA M hp) l_Mod_125 v_Mod_seenBy (by decide) (e_76 _) rfl (by decide) (by decide) (by decide) (Nat.le_of_ble_eq_true rfl) d_Mod_send_27 (kk := ?_)
  refine J_if_ne C 37 d_Mod_send_30 (by decide) (fun hc30 => ?_) (fun hc30 => absurd hc30 hse)
  refine J_iconst C d_Mod_send_37 (v := nI 0) rfl ?_
  refine K_putI C f_Mod_7 (by decide) (e_76 _) (Nat.le_of_ble_eq_true rfl) rfl d_Mod_send_38 (kk := ?_)
  refine J_aload_n C 0 d_Mod_send_41 rfl rfl ?_
  refine J_get C f_Mod_7 (by decide) (e_76 _) rfl d_Mod_send_42 ?_
  refine J_val (y := nI 0) rfl ?_
  refine J_ifN_eq C 50 d_Mod_send_45 (by decide) (by omega) (fun hc45 => ?_) (fun hc45 => absurd hc45 (by decide))
  refine J_aload_n C 0 d_Mod_send_50 rfl rfl ?_
  refine J_get C f_Mod_91 (by decide) (e_76 _) rfl d_Mod_send_51 ?_
  refine J_iload_n C 1 d_Mod_send_54 rfl rfl ?_
  refine K_ial C a_88 (j := 0) rfl (by omega) d_Mod_send_55 ?_
  refine J_val (y := M 88 0) rfl ?_
  refine J_istore_n C 2 d_Mod_send_56 rfl (by decide) rfl ?_
  refine J_aload_n C 0 d_Mod_send_57 rfl rfl ?_
  refine J_get C f_Mod_91 (by decide) (e_76 _) rfl d_Mod_send_58 ?_
  refine J_iload_n C 1 d_Mod_send_61 rfl rfl ?_
  refine J_iload_n C 2 d_Mod_send_62 rfl rfl ?_
  refine J_iconst C d_Mod_send_63 (v := nI 1) rfl ?_
  refine J_iadd C d_Mod_send_64 ?_
  refine J_ldc C d_Mod_send_65 c_Mod_158 ?_
  refine J_iand C d_Mod_send_67 ?_
  refine K_ias C a_88 (j := 0) rfl (by omega) d_Mod_send_68 (kk := ?_)
  refine J_aload_n C 0 d_Mod_send_69 rfl rfl ?_
  refine J_get C f_Mod_85 (by decide) (e_76 _) rfl d_Mod_send_70 ?_
  refine J_iconst C d_Mod_send_73 (v := nI 0) rfl ?_
  refine J_sipush C d_Mod_send_74 (v := nI 21312) rfl ?_
  refine J_iload_n C 1 d_Mod_send_77 rfl rfl ?_
  refine J_iaddN C d_Mod_send_78 ?_
  refine J_val (y := nI 21312) rfl ?_
  refine J_bipush C d_Mod_send_79 (v := nI 8) rfl ?_
  refine J_ishr C d_Mod_send_81 ?_
  refine K_ias C a_87 (j := 0) rfl (by omega) d_Mod_send_82 (kk := ?_)
  refine J_aload_n C 0 d_Mod_send_83 rfl rfl ?_
  refine J_get C f_Mod_85 (by decide) (e_76 _) rfl d_Mod_send_84 ?_
  refine J_iconst C d_Mod_send_87 (v := nI 1) rfl ?_
  refine J_sipush C d_Mod_send_88 (v := nI 21312) rfl ?_
  refine J_iload_n C 1 d_Mod_send_91 rfl rfl ?_
  refine J_iaddN C d_Mod_send_92 ?_
  refine J_val (y := nI 21312) rfl ?_
  refine J_sipush C d_Mod_send_93 (v := nI 255) rfl ?_
  refine J_iand C d_Mod_send_96 ?_
  refine K_ias C a_87 (j := 1) rfl (by omega) d_Mod_send_97 (kk := ?_)
  refine J_aload_n C 0 d_Mod_send_98 rfl rfl ?_
  refine J_get C f_Mod_85 (by decide) (e_76 _) rfl d_Mod_send_99 ?_
  refine J_iconst C d_Mod_send_102 (v := nI 2) rfl ?_
  refine J_iload_n C 2 d_Mod_send_103 rfl rfl ?_
  refine J_bipush C d_Mod_send_104 (v := nI 16) rfl ?_
  refine J_ishr C d_Mod_send_106 ?_
  refine K_ias C a_87 (j := 2) rfl (by omega) d_Mod_send_107 (kk := ?_)
  refine J_aload_n C 0 d_Mod_send_108 rfl rfl ?_
  refine J_get C f_Mod_85 (by decide) (e_76 _) rfl d_Mod_send_109 ?_
  refine J_iconst C d_Mod_send_112 (v := nI 3) rfl ?_
  refine J_iload_n C 2 d_Mod_send_113 rfl rfl ?_
  refine J_bipush C d_Mod_send_114 (v := nI 8) rfl ?_
  refine J_ishr C d_Mod_send_116 ?_
  refine J_sipush C d_Mod_send_117 (v := nI 255) rfl ?_
  refine J_iand C d_Mod_send_120 ?_
  refine K_ias C a_87 (j := 3) rfl (by omega) d_Mod_send_121 (kk := ?_)
  refine J_aload_n C 0 d_Mod_send_122 rfl rfl ?_
  refine J_get C f_Mod_85 (by decide) (e_76 _) rfl d_Mod_send_123 ?_
  refine J_iconst C d_Mod_send_126 (v := nI 4) rfl ?_
  refine J_iload_n C 2 d_Mod_send_127 rfl rfl ?_
  refine J_sipush C d_Mod_send_128 (v := nI 255) rfl ?_
  refine J_iand C d_Mod_send_131 ?_
  refine K_ias C a_87 (j := 4) rfl (by omega) d_Mod_send_132 (kk := ?_)
  refine J_aload_n C 0 d_Mod_send_133 rfl rfl ?_
  refine J_get C f_Mod_85 (by decide) (e_76 _) rfl d_Mod_send_134 ?_
  refine J_iconst C d_Mod_send_137 (v := nI 5) rfl ?_
  refine J_iconst C d_Mod_send_138 (v := nI 0) rfl ?_
  refine K_ias C a_87 (j := 5) rfl (by omega) d_Mod_send_139 (kk := ?_)
  refine J_mem (M2 := hdM M 0) rfl ?_
  refine J_aload_n C 0 d_Mod_send_140 rfl rfl ?_
  refine J_iload_n C 1 d_Mod_send_141 rfl rfl ?_
  refine F_callV C (as := [.int (nI 0)]) (st := []) (fm_fill l D dA (hdM M 0) (nI 0) c0 ln (hS.hd 0).toFL) l_Mod_159 v_Mod_fill (by decide) (e_76 _) rfl (by decide) (by decide) (Nat.le_of_ble_eq_true rfl) d_Mod_send_142 (kk := ?_)
  refine J_aload_n C 0 d_Mod_send_145 rfl rfl ?_
  refine F_callV C (as := []) (st := []) (fm_check16 l D dA (flM c0 (nI 0) 22 8 0 (-1) 0 (hdM M 0))) l_Mod_162 v_Mod_check16 (by decide) (e_76 _) rfl (by decide) (by decide) (Nat.le_of_ble_eq_true rfl) d_Mod_send_146 (kk := ?_)
  refine J_aload_n C 0 d_Mod_send_149 rfl rfl ?_
  refine J_iconst C d_Mod_send_150 (v := nI 1) rfl ?_
  refine K_putZ C f_Mod_88 (by decide) (e_76 _) (Nat.le_of_ble_eq_true rfl) (Or.inr rfl) rfl d_Mod_send_151 (kk := ?_)
  refine J_mem (M2 := frM M 0) (by unfold frM c16; rw [hS.c]) ?_
  refine J_iconst C d_Mod_send_154 (v := nI 0) rfl ?_
  refine J_istore_n C 3 d_Mod_send_155 rfl (by decide) rfl ?_
  refine J_lv (lv' := [some (.ref 76), none, some (.int (M 88 0)), some (.int (nI 0))]) (by intro i v hv; match i, hv with | 0, hv => exact hv | 1, hv => simp at hv | 2, hv => exact hv | 3, hv => exact hv | _ + 4, hv => simp at hv) ?_
  generalize hM9 : fSnd M 0 = M9
  generalize hn0 : M 88 0 = n0
  unfold fSnd at hM9
  obtain ⟨em2, hS2⟩ := hS.fr 0
  have lp : ∀ (fu i : Nat) (X : Mem), XS X → 2 * (cX X - i) + (if X 76 3 = 0 then 1 else 0) < fu → i ≤ cX X → dpM fu i X = M9 → J D dA A (fun _ _ => True) ad0 90 k_Mod_send.2.2.1 p l e (zR 3 0 0) s m args below meth c (FQ D dA A ad0 below args s (some (.int n0)) (M9)) 156 [some (.ref 76), none, some (.int n0), some (.int (nI i))] [] (E X) 90 0 0 := by
    intro fu
    induction fu with
    | zero => intro i X _ hfu; exact absurd hfu (Nat.not_lt_zero _)
    | succ fu ih =>
      intro i X hX hm hi hF
      have hcn : X 76 15 = nI (cX X) := by obtain ⟨c0, ln, em, bk, hS⟩ := hX; rw [hS.c]; exact hS.1
      have hc99 : cX X ≤ 24 := by obtain ⟨c0, ln, em, bk, hS⟩ := hX; rw [hS.c]; exact hS.2.1
      refine J_iload_n C 3 d_Mod_send_156 rfl rfl ?_
      refine J_aload_n C 0 d_Mod_send_157 rfl rfl ?_
      refine J_get C f_Mod_58 (by decide) (e_76 _) rfl d_Mod_send_158 ?_
      refine J_val (y := nI (cX X)) hcn ?_
      refine J_icmpN_ge C 200 d_Mod_send_161 (by decide) (by omega) (by omega) (fun hc161 => ?_) (fun hc161 => ?_)
      · refine J_iload_n C 2 d_Mod_send_200 rfl rfl ?_
        exact F_iret C hr rfl (by unfold dpM at hF; rw [if_neg (by omega)] at hF; exact hF) d_Mod_send_201
      · obtain ⟨c0, ln, em, bk, hS⟩ := hX
        have hcc := hS.c
        refine J_aload_n C 0 d_Mod_send_164 rfl rfl ?_
        refine J_get C f_Mod_20 (by decide) (e_76 _) rfl d_Mod_send_165 ?_
        refine J_if_ne C 200 d_Mod_send_168 (by decide) (fun hc168 => ?_) (fun hc168 => ?_)
        · refine J_iload_n C 2 d_Mod_send_200 rfl rfl ?_
          exact F_iret C hr rfl (by unfold dpM at hF; rw [if_pos hc161, if_neg hc168] at hF; exact hF) d_Mod_send_201
        · have hc24 := hS.2.1
          refine J_aload_n C 0 d_Mod_send_171 rfl rfl ?_
          refine J_get C f_Mod_73 (by decide) (e_76 _) rfl d_Mod_send_172 ?_
          refine J_iload_n C 3 d_Mod_send_175 rfl rfl ?_
          refine K_ial C a_86 (j := i) rfl (by omega) d_Mod_send_176 ?_
          refine J_aload_n C 0 d_Mod_send_177 rfl rfl ?_
          refine J_get C f_Mod_64 (by decide) (e_76 _) rfl d_Mod_send_178 ?_
          refine J_iload_n C 3 d_Mod_send_181 rfl rfl ?_
          refine K_ial C a_83 (j := i) rfl (by omega) d_Mod_send_182 ?_
          refine J_icmp_ne C 194 d_Mod_send_183 (by decide) (fun hc183 => ?_) (fun hc183 => ?_)
          · refine J_iinc C d_Mod_send_194 rfl (v := nI (i + 1)) (nI_1 _) (by decide) rfl ?_
            refine J_goto C 156 d_Mod_send_197 (by decide) ?_
            unfold dpM at hF
            rw [if_pos hc161, if_pos hc168, if_neg hc183] at hF
            exact ih (i + 1) X ⟨c0, ln, em, bk, hS⟩ (by rw [if_pos hc168] at hm ⊢; omega) (by omega) hF
          · refine J_aload_n C 0 d_Mod_send_186 rfl rfl ?_
            refine J_iload_n C 3 d_Mod_send_187 rfl rfl ?_
            refine F_callV C (as := [.int (nI i)]) (st := []) (fm_drop l D dA X i c0 hS.1 hS.2.1 (by omega) hc168) l_Mod_165 v_Mod_drop (by decide) (e_76 _) rfl (by decide) (by decide) (Nat.le_of_ble_eq_true rfl) d_Mod_send_188 (kk := ?_)
            refine J_goto C 156 d_Mod_send_191 (by decide) ?_
            unfold dpM at hF
            rw [if_pos hc161, if_pos hc168, if_pos hc183] at hF
            have hd := XS.drop hS (i := i) (by omega)
            exact ih i _ hd.1 (by rw [if_pos hc168] at hm; rcases hd.2 with q | q; (rw [q]; split <;> omega); (rw [q.1, if_neg q.2]; omega)) (by rcases hd.2 with q | q; (rw [q]; omega); (rw [q.1]; omega)) hF
  exact lp 60 0 _ ⟨_, _, _, _, hS2⟩ (by rw [hS2.c]; have := hS.2.1; split <;> omega) (Nat.zero_le _) hM9

set_option maxHeartbeats 4000000 in
set_option maxRecDepth 100000 in
theorem fm_send1 (l : Launch) (D : va_G) (dA : Nat → ClassId) (M : Mem) (hX : XS M) (ho : M 76 3 = 0) (hp : ¬ (M 77 4).toInt64 = 0) (hse : ¬ fOpen (M 76 1) (M 77 3) (M 77 4) (M 77 5) = 0) : CF l D dA k_Mod_send 3 [.ref 76, .int (nI 1)] M (some (.int (M 88 1))) (fSnd M 1) := by
  refine CF.of (by decide +kernel) (Nat.le_of_ble_eq_true rfl) (by intro v hv; simp only [List.mem_cons, List.not_mem_nil, or_false] at hv; rcases hv with rfl | rfl <;> rfl) ?_
  intro A ad0 p e s m args below meth c C hr
  obtain ⟨c0, ln, em, bk, hS⟩ := hX
  refine J_aload_n C 0 d_Mod_send_0 rfl rfl ?_
  refine J_aload_n C 0 d_Mod_send_1 rfl rfl ?_
  refine J_get C f_Mod_20 (by decide) (e_76 _) rfl d_Mod_send_2 ?_
  refine J_if_eq C 12 d_Mod_send_5 (by decide) (fun hc5 => ?_) (fun hc5 => absurd ho hc5)
  refine J_iload_n C 1 d_Mod_send_12 rfl rfl ?_
  refine J_ifN_lt C d_Mod_send_13 21 (by decide) (by omega) ?_
  refine J_iload_n C 1 d_Mod_send_16 rfl rfl ?_
  refine J_iconst C d_Mod_send_17 (v := nI 1) rfl ?_
  refine J_icmpN_le C 25 d_Mod_send_18 (by decide) (by omega) (by omega) (fun hc18 => ?_) (fun hc18 => absurd hc18 (by decide))
  refine J_aload_n C 0 d_Mod_send_25 rfl rfl ?_
  refine J_iconst C d_Mod_send_26 (v := nI 1) rfl ?_
  refine P_callV C (as := [.int (nI 1)]) (st := [.ref 76]) (pm_seenBy1 l D dA M hp) l_Mod_125 v_Mod_seenBy (by decide) (e_76 _) rfl (by decide) (by decide) (by decide) (Nat.le_of_ble_eq_true rfl) d_Mod_send_27 (kk := ?_)
  refine J_if_ne C 37 d_Mod_send_30 (by decide) (fun hc30 => ?_) (fun hc30 => absurd hc30 hse)
  refine J_iconst C d_Mod_send_37 (v := nI 0) rfl ?_
  refine K_putI C f_Mod_7 (by decide) (e_76 _) (Nat.le_of_ble_eq_true rfl) rfl d_Mod_send_38 (kk := ?_)
  refine J_aload_n C 0 d_Mod_send_41 rfl rfl ?_
  refine J_get C f_Mod_7 (by decide) (e_76 _) rfl d_Mod_send_42 ?_
  refine J_val (y := nI 0) rfl ?_
  refine J_ifN_eq C 50 d_Mod_send_45 (by decide) (by omega) (fun hc45 => ?_) (fun hc45 => absurd hc45 (by decide))
  refine J_aload_n C 0 d_Mod_send_50 rfl rfl ?_
  refine J_get C f_Mod_91 (by decide) (e_76 _) rfl d_Mod_send_51 ?_
  refine J_iload_n C 1 d_Mod_send_54 rfl rfl ?_
  refine K_ial C a_88 (j := 1) rfl (by omega) d_Mod_send_55 ?_
  refine J_val (y := M 88 1) rfl ?_
  refine J_istore_n C 2 d_Mod_send_56 rfl (by decide) rfl ?_
  refine J_aload_n C 0 d_Mod_send_57 rfl rfl ?_
  refine J_get C f_Mod_91 (by decide) (e_76 _) rfl d_Mod_send_58 ?_
  refine J_iload_n C 1 d_Mod_send_61 rfl rfl ?_
  refine J_iload_n C 2 d_Mod_send_62 rfl rfl ?_
  refine J_iconst C d_Mod_send_63 (v := nI 1) rfl ?_
  refine J_iadd C d_Mod_send_64 ?_
  refine J_ldc C d_Mod_send_65 c_Mod_158 ?_
  refine J_iand C d_Mod_send_67 ?_
  refine K_ias C a_88 (j := 1) rfl (by omega) d_Mod_send_68 (kk := ?_)
  refine J_aload_n C 0 d_Mod_send_69 rfl rfl ?_
  refine J_get C f_Mod_85 (by decide) (e_76 _) rfl d_Mod_send_70 ?_
  refine J_iconst C d_Mod_send_73 (v := nI 0) rfl ?_
  refine J_sipush C d_Mod_send_74 (v := nI 21312) rfl ?_
  refine J_iload_n C 1 d_Mod_send_77 rfl rfl ?_
  refine J_iaddN C d_Mod_send_78 ?_
  refine J_val (y := nI 21313) rfl ?_
  refine J_bipush C d_Mod_send_79 (v := nI 8) rfl ?_
  refine J_ishr C d_Mod_send_81 ?_
  refine K_ias C a_87 (j := 0) rfl (by omega) d_Mod_send_82 (kk := ?_)
  refine J_aload_n C 0 d_Mod_send_83 rfl rfl ?_
  refine J_get C f_Mod_85 (by decide) (e_76 _) rfl d_Mod_send_84 ?_
  refine J_iconst C d_Mod_send_87 (v := nI 1) rfl ?_
  refine J_sipush C d_Mod_send_88 (v := nI 21312) rfl ?_
  refine J_iload_n C 1 d_Mod_send_91 rfl rfl ?_
  refine J_iaddN C d_Mod_send_92 ?_
  refine J_val (y := nI 21313) rfl ?_
  refine J_sipush C d_Mod_send_93 (v := nI 255) rfl ?_
  refine J_iand C d_Mod_send_96 ?_
  refine K_ias C a_87 (j := 1) rfl (by omega) d_Mod_send_97 (kk := ?_)
  refine J_aload_n C 0 d_Mod_send_98 rfl rfl ?_
  refine J_get C f_Mod_85 (by decide) (e_76 _) rfl d_Mod_send_99 ?_
  refine J_iconst C d_Mod_send_102 (v := nI 2) rfl ?_
  refine J_iload_n C 2 d_Mod_send_103 rfl rfl ?_
  refine J_bipush C d_Mod_send_104 (v := nI 16) rfl ?_
  refine J_ishr C d_Mod_send_106 ?_
  refine K_ias C a_87 (j := 2) rfl (by omega) d_Mod_send_107 (kk := ?_)
  refine J_aload_n C 0 d_Mod_send_108 rfl rfl ?_
  refine J_get C f_Mod_85 (by decide) (e_76 _) rfl d_Mod_send_109 ?_
  refine J_iconst C d_Mod_send_112 (v := nI 3) rfl ?_
  refine J_iload_n C 2 d_Mod_send_113 rfl rfl ?_
  refine J_bipush C d_Mod_send_114 (v := nI 8) rfl ?_
  refine J_ishr C d_Mod_send_116 ?_
  refine J_sipush C d_Mod_send_117 (v := nI 255) rfl ?_
  refine J_iand C d_Mod_send_120 ?_
  refine K_ias C a_87 (j := 3) rfl (by omega) d_Mod_send_121 (kk := ?_)
  refine J_aload_n C 0 d_Mod_send_122 rfl rfl ?_
  refine J_get C f_Mod_85 (by decide) (e_76 _) rfl d_Mod_send_123 ?_
  refine J_iconst C d_Mod_send_126 (v := nI 4) rfl ?_
  refine J_iload_n C 2 d_Mod_send_127 rfl rfl ?_
  refine J_sipush C d_Mod_send_128 (v := nI 255) rfl ?_
  refine J_iand C d_Mod_send_131 ?_
  refine K_ias C a_87 (j := 4) rfl (by omega) d_Mod_send_132 (kk := ?_)
  refine J_aload_n C 0 d_Mod_send_133 rfl rfl ?_
  refine J_get C f_Mod_85 (by decide) (e_76 _) rfl d_Mod_send_134 ?_
  refine J_iconst C d_Mod_send_137 (v := nI 5) rfl ?_
  refine J_iconst C d_Mod_send_138 (v := nI 0) rfl ?_
  refine K_ias C a_87 (j := 5) rfl (by omega) d_Mod_send_139 (kk := ?_)
  refine J_mem (M2 := hdM M 1) rfl ?_
  refine J_aload_n C 0 d_Mod_send_140 rfl rfl ?_
  refine J_iload_n C 1 d_Mod_send_141 rfl rfl ?_
  refine F_callV C (as := [.int (nI 1)]) (st := []) (fm_fill l D dA (hdM M 1) (nI 1) c0 ln (hS.hd 1).toFL) l_Mod_159 v_Mod_fill (by decide) (e_76 _) rfl (by decide) (by decide) (Nat.le_of_ble_eq_true rfl) d_Mod_send_142 (kk := ?_)
  refine J_aload_n C 0 d_Mod_send_145 rfl rfl ?_
  refine F_callV C (as := []) (st := []) (fm_check16 l D dA (flM c0 (nI 1) 22 8 0 (-1) 0 (hdM M 1))) l_Mod_162 v_Mod_check16 (by decide) (e_76 _) rfl (by decide) (by decide) (Nat.le_of_ble_eq_true rfl) d_Mod_send_146 (kk := ?_)
  refine J_aload_n C 0 d_Mod_send_149 rfl rfl ?_
  refine J_iconst C d_Mod_send_150 (v := nI 1) rfl ?_
  refine K_putZ C f_Mod_88 (by decide) (e_76 _) (Nat.le_of_ble_eq_true rfl) (Or.inr rfl) rfl d_Mod_send_151 (kk := ?_)
  refine J_mem (M2 := frM M 1) (by unfold frM c16; rw [hS.c]) ?_
  refine J_iconst C d_Mod_send_154 (v := nI 0) rfl ?_
  refine J_istore_n C 3 d_Mod_send_155 rfl (by decide) rfl ?_
  refine J_lv (lv' := [some (.ref 76), none, some (.int (M 88 1)), some (.int (nI 0))]) (by intro i v hv; match i, hv with | 0, hv => exact hv | 1, hv => simp at hv | 2, hv => exact hv | 3, hv => exact hv | _ + 4, hv => simp at hv) ?_
  generalize hM9 : fSnd M 1 = M9
  generalize hn0 : M 88 1 = n0
  unfold fSnd at hM9
  obtain ⟨em2, hS2⟩ := hS.fr 1
  have lp : ∀ (fu i : Nat) (X : Mem), XS X → 2 * (cX X - i) + (if X 76 3 = 0 then 1 else 0) < fu → i ≤ cX X → dpM fu i X = M9 → J D dA A (fun _ _ => True) ad0 90 k_Mod_send.2.2.1 p l e (zR 3 0 0) s m args below meth c (FQ D dA A ad0 below args s (some (.int n0)) (M9)) 156 [some (.ref 76), none, some (.int n0), some (.int (nI i))] [] (E X) 90 0 0 := by
    intro fu
    induction fu with
    | zero => intro i X _ hfu; exact absurd hfu (Nat.not_lt_zero _)
    | succ fu ih =>
      intro i X hX hm hi hF
      have hcn : X 76 15 = nI (cX X) := by obtain ⟨c0, ln, em, bk, hS⟩ := hX; rw [hS.c]; exact hS.1
      have hc99 : cX X ≤ 24 := by obtain ⟨c0, ln, em, bk, hS⟩ := hX; rw [hS.c]; exact hS.2.1
      refine J_iload_n C 3 d_Mod_send_156 rfl rfl ?_
      refine J_aload_n C 0 d_Mod_send_157 rfl rfl ?_
      refine J_get C f_Mod_58 (by decide) (e_76 _) rfl d_Mod_send_158 ?_
      refine J_val (y := nI (cX X)) hcn ?_
      refine J_icmpN_ge C 200 d_Mod_send_161 (by decide) (by omega) (by omega) (fun hc161 => ?_) (fun hc161 => ?_)
      · refine J_iload_n C 2 d_Mod_send_200 rfl rfl ?_
        exact F_iret C hr rfl (by unfold dpM at hF; rw [if_neg (by omega)] at hF; exact hF) d_Mod_send_201
      · obtain ⟨c0, ln, em, bk, hS⟩ := hX
        have hcc := hS.c
        refine J_aload_n C 0 d_Mod_send_164 rfl rfl ?_
        refine J_get C f_Mod_20 (by decide) (e_76 _) rfl d_Mod_send_165 ?_
        refine J_if_ne C 200 d_Mod_send_168 (by decide) (fun hc168 => ?_) (fun hc168 => ?_)
        · refine J_iload_n C 2 d_Mod_send_200 rfl rfl ?_
          exact F_iret C hr rfl (by unfold dpM at hF; rw [if_pos hc161, if_neg hc168] at hF; exact hF) d_Mod_send_201
        · have hc24 := hS.2.1
          refine J_aload_n C 0 d_Mod_send_171 rfl rfl ?_
          refine J_get C f_Mod_73 (by decide) (e_76 _) rfl d_Mod_send_172 ?_
          refine J_iload_n C 3 d_Mod_send_175 rfl rfl ?_
          refine K_ial C a_86 (j := i) rfl (by omega) d_Mod_send_176 ?_
          refine J_aload_n C 0 d_Mod_send_177 rfl rfl ?_
          refine J_get C f_Mod_64 (by decide) (e_76 _) rfl d_Mod_send_178 ?_
          refine J_iload_n C 3 d_Mod_send_181 rfl rfl ?_
          refine K_ial C a_83 (j := i) rfl (by omega) d_Mod_send_182 ?_
          refine J_icmp_ne C 194 d_Mod_send_183 (by decide) (fun hc183 => ?_) (fun hc183 => ?_)
          · refine J_iinc C d_Mod_send_194 rfl (v := nI (i + 1)) (nI_1 _) (by decide) rfl ?_
            refine J_goto C 156 d_Mod_send_197 (by decide) ?_
            unfold dpM at hF
            rw [if_pos hc161, if_pos hc168, if_neg hc183] at hF
            exact ih (i + 1) X ⟨c0, ln, em, bk, hS⟩ (by rw [if_pos hc168] at hm ⊢; omega) (by omega) hF
          · refine J_aload_n C 0 d_Mod_send_186 rfl rfl ?_
            refine J_iload_n C 3 d_Mod_send_187 rfl rfl ?_
            refine F_callV C (as := [.int (nI i)]) (st := []) (fm_drop l D dA X i c0 hS.1 hS.2.1 (by omega) hc168) l_Mod_165 v_Mod_drop (by decide) (e_76 _) rfl (by decide) (by decide) (Nat.le_of_ble_eq_true rfl) d_Mod_send_188 (kk := ?_)
            refine J_goto C 156 d_Mod_send_191 (by decide) ?_
            unfold dpM at hF
            rw [if_pos hc161, if_pos hc168, if_pos hc183] at hF
            have hd := XS.drop hS (i := i) (by omega)
            exact ih i _ hd.1 (by rw [if_pos hc168] at hm; rcases hd.2 with q | q; (rw [q]; split <;> omega); (rw [q.1, if_neg q.2]; omega)) (by rcases hd.2 with q | q; (rw [q]; omega); (rw [q.1]; omega)) hF
  exact lp 60 0 _ ⟨_, _, _, _, hS2⟩ (by rw [hS2.c]; have := hS.2.1; split <;> omega) (Nat.zero_le _) hM9

set_option maxHeartbeats 4000000 in
set_option maxRecDepth 100000 in
theorem fm_sendX (l : Launch) (D : va_G) (dA : Nat → ClassId) (M : Mem) (p0 : Int32) (ho : ¬ M 76 3 = 0) : CF l D dA k_Mod_send 3 [.ref 76, .int p0] M (some (.int (nI 0))) (mu M 76 0 (nI 1)) := by
  refine CF.of (by decide +kernel) (Nat.le_of_ble_eq_true rfl) (by intro v hv; simp only [List.mem_cons, List.not_mem_nil, or_false] at hv; rcases hv with rfl | rfl <;> rfl) ?_
  intro A ad0 p e s m args below meth c C hr
  refine J_aload_n C 0 d_Mod_send_0 rfl rfl ?_
  refine J_aload_n C 0 d_Mod_send_1 rfl rfl ?_
  refine J_get C f_Mod_20 (by decide) (e_76 _) rfl d_Mod_send_2 ?_
  refine J_if_eq C 12 d_Mod_send_5 (by decide) (fun hc5 => absurd hc5 ho) (fun hc5 => ?_)
  refine J_iconst C d_Mod_send_8 (v := nI 1) rfl ?_
  refine J_goto C 38 d_Mod_send_9 (by decide) ?_
  refine K_putI C f_Mod_7 (by decide) (e_76 _) (Nat.le_of_ble_eq_true rfl) rfl d_Mod_send_38 (kk := ?_)
  refine J_aload_n C 0 d_Mod_send_41 rfl rfl ?_
  refine J_get C f_Mod_7 (by decide) (e_76 _) rfl d_Mod_send_42 ?_
  refine J_val (y := nI 1) rfl ?_
  refine J_ifN_eq C 50 d_Mod_send_45 (by decide) (by omega) (fun hc45 => absurd hc45 (by decide)) (fun hc45 => ?_)
  refine J_iconst C d_Mod_send_48 (v := nI 0) rfl ?_
  exact F_iret C hr rfl rfl d_Mod_send_49

set_option maxHeartbeats 4000000 in
set_option maxRecDepth 100000 in
theorem fm_sendN (l : Launch) (D : va_G) (dA : Nat → ClassId) (M : Mem) (p0 : Int32) (ho : M 76 3 = 0) (hbad : p0 < 0 ∨ ¬ p0 ≤ nI 1) : CF l D dA k_Mod_send 3 [.ref 76, .int p0] M (some (.int (nI 0))) (mu M 76 0 (nI 2)) := by
  refine CF.of (by decide +kernel) (Nat.le_of_ble_eq_true rfl) (by intro v hv; simp only [List.mem_cons, List.not_mem_nil, or_false] at hv; rcases hv with rfl | rfl <;> rfl) ?_
  intro A ad0 p e s m args below meth c C hr
  refine J_aload_n C 0 d_Mod_send_0 rfl rfl ?_
  refine J_aload_n C 0 d_Mod_send_1 rfl rfl ?_
  refine J_get C f_Mod_20 (by decide) (e_76 _) rfl d_Mod_send_2 ?_
  refine J_if_eq C 12 d_Mod_send_5 (by decide) (fun hc5 => ?_) (fun hc5 => absurd ho hc5)
  refine J_iload_n C 1 d_Mod_send_12 rfl rfl ?_
  refine J_if_lt C 21 d_Mod_send_13 (by decide) (fun hc13 => ?_) (fun hc13 => ?_)
  · refine J_iconst C d_Mod_send_21 (v := nI 2) rfl ?_
    refine J_goto C 38 d_Mod_send_22 (by decide) ?_
    refine K_putI C f_Mod_7 (by decide) (e_76 _) (Nat.le_of_ble_eq_true rfl) rfl d_Mod_send_38 (kk := ?_)
    refine J_aload_n C 0 d_Mod_send_41 rfl rfl ?_
    refine J_get C f_Mod_7 (by decide) (e_76 _) rfl d_Mod_send_42 ?_
    refine J_val (y := nI 2) rfl ?_
    refine J_ifN_eq C 50 d_Mod_send_45 (by decide) (by omega) (fun hc45 => absurd hc45 (by decide)) (fun hc45 => ?_)
    refine J_iconst C d_Mod_send_48 (v := nI 0) rfl ?_
    exact F_iret C hr rfl rfl d_Mod_send_49
  · refine J_iload_n C 1 d_Mod_send_16 rfl rfl ?_
    refine J_iconst C d_Mod_send_17 (v := nI 1) rfl ?_
    refine J_icmp_le C 25 d_Mod_send_18 (by decide) (fun hc18 => ?_) (fun hc18 => ?_)
    · exact absurd hbad (by rintro (h | h) <;> contradiction)
    · refine J_iconst C d_Mod_send_21 (v := nI 2) rfl ?_
      refine J_goto C 38 d_Mod_send_22 (by decide) ?_
      refine K_putI C f_Mod_7 (by decide) (e_76 _) (Nat.le_of_ble_eq_true rfl) rfl d_Mod_send_38 (kk := ?_)
      refine J_aload_n C 0 d_Mod_send_41 rfl rfl ?_
      refine J_get C f_Mod_7 (by decide) (e_76 _) rfl d_Mod_send_42 ?_
      refine J_val (y := nI 2) rfl ?_
      refine J_ifN_eq C 50 d_Mod_send_45 (by decide) (by omega) (fun hc45 => absurd hc45 (by decide)) (fun hc45 => ?_)
      refine J_iconst C d_Mod_send_48 (v := nI 0) rfl ?_
      exact F_iret C hr rfl rfl d_Mod_send_49

set_option maxHeartbeats 4000000 in
set_option maxRecDepth 100000 in
theorem fm_sendS0 (l : Launch) (D : va_G) (dA : Nat → ClassId) (M : Mem) (ho : M 76 3 = 0) (hp : ¬ (M 77 4).toInt64 = 0) (hse : fOpen (M 76 1) (M 77 3) (M 77 4) (M 77 5) = 0) : CF l D dA k_Mod_send 3 [.ref 76, .int (nI 0)] M (some (.int (nI 0))) (mu M 76 0 (nI 3)) := by
  refine CF.of (by decide +kernel) (Nat.le_of_ble_eq_true rfl) (by intro v hv; simp only [List.mem_cons, List.not_mem_nil, or_false] at hv; rcases hv with rfl | rfl <;> rfl) ?_
  intro A ad0 p e s m args below meth c C hr
  refine J_aload_n C 0 d_Mod_send_0 rfl rfl ?_
  refine J_aload_n C 0 d_Mod_send_1 rfl rfl ?_
  refine J_get C f_Mod_20 (by decide) (e_76 _) rfl d_Mod_send_2 ?_
  refine J_if_eq C 12 d_Mod_send_5 (by decide) (fun hc5 => ?_) (fun hc5 => absurd ho hc5)
  refine J_iload_n C 1 d_Mod_send_12 rfl rfl ?_
  refine J_ifN_lt C d_Mod_send_13 21 (by decide) (by omega) ?_
  refine J_iload_n C 1 d_Mod_send_16 rfl rfl ?_
  refine J_iconst C d_Mod_send_17 (v := nI 1) rfl ?_
  refine J_icmpN_le C 25 d_Mod_send_18 (by decide) (by omega) (by omega) (fun hc18 => ?_) (fun hc18 => absurd hc18 (by decide))
  refine J_aload_n C 0 d_Mod_send_25 rfl rfl ?_
  refine J_iconst C d_Mod_send_26 (v := nI 1) rfl ?_
  refine P_callV C (as := [.int (nI 1)]) (st := [.ref 76]) (pm_seenBy1 l D dA M hp) l_Mod_125 v_Mod_seenBy (by decide) (e_76 _) rfl (by decide) (by decide) (by decide) (Nat.le_of_ble_eq_true rfl) d_Mod_send_27 (kk := ?_)
  refine J_if_ne C 37 d_Mod_send_30 (by decide) (fun hc30 => absurd hse hc30) (fun hc30 => ?_)
  refine J_iconst C d_Mod_send_33 (v := nI 3) rfl ?_
  refine J_goto C 38 d_Mod_send_34 (by decide) ?_
  refine K_putI C f_Mod_7 (by decide) (e_76 _) (Nat.le_of_ble_eq_true rfl) rfl d_Mod_send_38 (kk := ?_)
  refine J_aload_n C 0 d_Mod_send_41 rfl rfl ?_
  refine J_get C f_Mod_7 (by decide) (e_76 _) rfl d_Mod_send_42 ?_
  refine J_val (y := nI 3) rfl ?_
  refine J_ifN_eq C 50 d_Mod_send_45 (by decide) (by omega) (fun hc45 => absurd hc45 (by decide)) (fun hc45 => ?_)
  refine J_iconst C d_Mod_send_48 (v := nI 0) rfl ?_
  exact F_iret C hr rfl rfl d_Mod_send_49

set_option maxHeartbeats 4000000 in
set_option maxRecDepth 100000 in
theorem fm_sendS1 (l : Launch) (D : va_G) (dA : Nat → ClassId) (M : Mem) (ho : M 76 3 = 0) (hp : ¬ (M 77 4).toInt64 = 0) (hse : fOpen (M 76 1) (M 77 3) (M 77 4) (M 77 5) = 0) : CF l D dA k_Mod_send 3 [.ref 76, .int (nI 1)] M (some (.int (nI 0))) (mu M 76 0 (nI 3)) := by
  refine CF.of (by decide +kernel) (Nat.le_of_ble_eq_true rfl) (by intro v hv; simp only [List.mem_cons, List.not_mem_nil, or_false] at hv; rcases hv with rfl | rfl <;> rfl) ?_
  intro A ad0 p e s m args below meth c C hr
  refine J_aload_n C 0 d_Mod_send_0 rfl rfl ?_
  refine J_aload_n C 0 d_Mod_send_1 rfl rfl ?_
  refine J_get C f_Mod_20 (by decide) (e_76 _) rfl d_Mod_send_2 ?_
  refine J_if_eq C 12 d_Mod_send_5 (by decide) (fun hc5 => ?_) (fun hc5 => absurd ho hc5)
  refine J_iload_n C 1 d_Mod_send_12 rfl rfl ?_
  refine J_ifN_lt C d_Mod_send_13 21 (by decide) (by omega) ?_
  refine J_iload_n C 1 d_Mod_send_16 rfl rfl ?_
  refine J_iconst C d_Mod_send_17 (v := nI 1) rfl ?_
  refine J_icmpN_le C 25 d_Mod_send_18 (by decide) (by omega) (by omega) (fun hc18 => ?_) (fun hc18 => absurd hc18 (by decide))
  refine J_aload_n C 0 d_Mod_send_25 rfl rfl ?_
  refine J_iconst C d_Mod_send_26 (v := nI 1) rfl ?_
  refine P_callV C (as := [.int (nI 1)]) (st := [.ref 76]) (pm_seenBy1 l D dA M hp) l_Mod_125 v_Mod_seenBy (by decide) (e_76 _) rfl (by decide) (by decide) (by decide) (Nat.le_of_ble_eq_true rfl) d_Mod_send_27 (kk := ?_)
  refine J_if_ne C 37 d_Mod_send_30 (by decide) (fun hc30 => absurd hse hc30) (fun hc30 => ?_)
  refine J_iconst C d_Mod_send_33 (v := nI 3) rfl ?_
  refine J_goto C 38 d_Mod_send_34 (by decide) ?_
  refine K_putI C f_Mod_7 (by decide) (e_76 _) (Nat.le_of_ble_eq_true rfl) rfl d_Mod_send_38 (kk := ?_)
  refine J_aload_n C 0 d_Mod_send_41 rfl rfl ?_
  refine J_get C f_Mod_7 (by decide) (e_76 _) rfl d_Mod_send_42 ?_
  refine J_val (y := nI 3) rfl ?_
  refine J_ifN_eq C 50 d_Mod_send_45 (by decide) (by omega) (fun hc45 => absurd hc45 (by decide)) (fun hc45 => ?_)
  refine J_iconst C d_Mod_send_48 (v := nI 0) rfl ?_
  exact F_iret C hr rfl rfl d_Mod_send_49
