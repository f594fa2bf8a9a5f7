def shM1 (i : Nat) (X : Mem) : Mem := cpX 85 (3 * i) 85 (3 * i + 3) 3 0 (cpX 84 (60 * i) 84 (60 * i + 60) 60 0 (mu (mu (mu X 82 i (X 82 (i + 1))) 83 i (X 83 (i + 1))) 86 i (X 86 (i + 1))))
def shM : Nat → Nat → Mem → Mem
  | 0, _, X => X
  | r + 1, i, X => shM r (i + 1) (shM1 i X)
def fDr1 (X : Mem) (c0 i : Nat) : Mem := fWrM (shM (c0 - 1 - i) i (mu (mu X 76 22 (X 76 22 + nI 1)) 76 15 (nI (c0 - 1))))
/-- the packet i is dropped -/
def fDropM (X : Mem) (i : Nat) : Mem := if fJrM X 76 3 = 0 then fDr1 (fJrM X) (cX X) i else fJrM X
theorem cpX_p (pos a src b : Nat) : ∀ (r k : Nat) (X : Mem) {p : Nat}, p ≠ pos → cpX pos a src b r k X p = X p
  | 0, _, _, _, _ => rfl
  | r + 1, k, X, p, h => by unfold cpX; rw [cpX_p pos a src b r (k + 1) _ h, mu_p _ _ _ h]
set_option maxHeartbeats 4000000 in
set_option maxRecDepth 100000 in
theorem fm_drop (l : Launch) (D : va_G) (dA : Nat → ClassId) (M : Mem) (i0 c0 : Nat) (hcn : M 76 15 = nI c0) (hc24 : c0 ≤ 24) (hi : i0 < c0) (ho : M 76 3 = 0) : CF l D dA k_Mod_drop 2 [.ref 76, .int (nI i0)] M (none) (fDropM M i0) := by
  refine CF.of (by decide +kernel) (Nat.le_of_ble_eq_true rfl) (by intro v hv; simp only [List.mem_cons, List.not_mem_nil, or_false] at hv; rcases hv with rfl | rfl <;> rfl) ?_
  intro A ad0 p e s m args below meth c C hr
  refine J_aload_n C 0 d_Mod_drop_0 rfl rfl ?_
  refine F_callV C (as := []) (st := []) (fm_journal l D dA M) l_Mod_102 v_Mod_journal (by decide) (e_76 _) rfl (by decide) (by decide) (Nat.le_of_ble_eq_true rfl) d_Mod_drop_1 (kk := ?_)
  refine J_if_ne C 8 d_Mod_drop_4 (by decide) (fun hc4 => ?_) (fun hc4 => ?_)
  · refine J_aload_n C 0 d_Mod_drop_8 rfl rfl ?_
    refine J_dup C d_Mod_drop_9 rfl ?_
    refine J_get C f_Mod_79 (by decide) (e_76 _) rfl d_Mod_drop_10 ?_
    refine J_iconst C d_Mod_drop_13 (v := nI 1) rfl ?_
    refine J_iadd C d_Mod_drop_14 ?_
    refine K_putI C f_Mod_79 (by decide) (e_76 _) (Nat.le_of_ble_eq_true rfl) rfl d_Mod_drop_15 (kk := ?_)
    refine J_aload_n C 0 d_Mod_drop_18 rfl rfl ?_
    refine J_dup C d_Mod_drop_19 rfl ?_
    refine J_get C f_Mod_58 (by decide) (e_76 _) rfl d_Mod_drop_20 ?_
    refine J_val (y := nI c0) (by simp [mu, va_up, upd, fWrM_k, fJrM_k]; exact hcn) ?_
    refine J_iconst C d_Mod_drop_23 (v := nI 1) rfl ?_
    refine J_isubN C d_Mod_drop_24 (by omega) ?_
    refine K_putI C f_Mod_58 (by decide) (e_76 _) (Nat.le_of_ble_eq_true rfl) rfl d_Mod_drop_25 (kk := ?_)
    refine J_iload_n C 1 d_Mod_drop_28 rfl rfl ?_
    refine J_istore_n C 2 d_Mod_drop_29 rfl (by decide) rfl ?_
    generalize hM9 : fDropM M i0 = M9
    unfold fDropM fDr1 at hM9
    rw [cX_nI hcn (by omega), if_pos (rJrM_1 ho hc4)] at hM9
    have lp : ∀ (fu i : Nat) (X : Mem), c0 - 1 - i < fu → i ≤ c0 - 1 → X 76 15 = nI (c0 - 1) → fWrM (shM (c0 - 1 - i) i X) = M9 → J D dA A (fun _ _ => True) ad0 90 k_Mod_drop.2.2.1 p l e (zR 2 0 0) s m args below meth c (FQ D dA A ad0 below args s (none) (M9)) 30 [some (.ref 76), some (.int (nI i0)), some (.int (nI i)), none] [] (E X) 90 0 0 := by
      intro fu
      induction fu with
      | zero => intro i X hfu; exact absurd hfu (Nat.not_lt_zero _)
      | succ fu ih =>
        intro i X hfu hi hcn hF
        have lpi : i < c0 - 1 → ∀ (fu k : Nat) (Y Y9 : Mem), 60 - k < fu → k ≤ 60 → cpX 84 (60 * i) 84 (60 * i + 60) (60 - k) k Y = Y9 → J D dA A (fun _ _ => True) ad0 90 k_Mod_drop.2.2.1 p l e (zR 2 0 0) s m args below meth c (FQ D dA A ad0 below args s (none) (M9)) 30 [some (.ref 76), some (.int (nI i0)), some (.int (nI (i + 1))), none] [] (E (cpX 85 (3 * i) 85 (3 * i + 3) 3 0 Y9)) 90 0 0 → J D dA A (fun _ _ => True) ad0 90 k_Mod_drop.2.2.1 p l e (zR 2 0 0) s m args below meth c (FQ D dA A ad0 below args s (none) (M9)) 82 [some (.ref 76), some (.int (nI i0)), some (.int (nI i)), some (.int (nI k))] [] (E Y) 90 0 0 := by
          intro hil fu
          induction fu with
          | zero => intro k Y Y9 hfu; exact absurd hfu (Nat.not_lt_zero _)
          | succ fu ih =>
            intro k Y Y9 hfu hk hF hK
            have ih : ∀ (k : Nat) (Y : Mem), 60 - k < fu → k ≤ 60 → cpX 84 (60 * i) 84 (60 * i + 60) (60 - k) k Y = Y9 → _ := fun k Y a b d => ih k Y Y9 a b d hK
            refine J_iload_n C 3 d_Mod_drop_82 rfl rfl ?_
            refine J_bipush C d_Mod_drop_83 (v := nI 60) rfl ?_
            refine J_icmpN_ge C 119 d_Mod_drop_85 (by decide) (by omega) (by omega) (fun hc85 => ?_) (fun hc85 => ?_)
            · rw [show 60 - k = 0 by omega] at hF
              have hF : Y = Y9 := hF
              subst hF
              refine J_lv (lv' := [some (.ref 76), some (.int (nI i0)), some (.int (nI i)), none]) (by intro i v hv; match i, hv with | 0, hv => exact hv | 1, hv => exact hv | 2, hv => exact hv | 3, hv => simp at hv | _ + 4, hv => simp at hv) ?_
              refine J_iconst C d_Mod_drop_119 (v := nI 0) rfl ?_
              refine J_istore_n C 3 d_Mod_drop_120 rfl (by decide) rfl ?_
              refine J_iload_n C 3 d_Mod_drop_121 rfl rfl ?_
              refine J_iconst C d_Mod_drop_122 (v := nI 3) rfl ?_
              refine J_icmpN_ge C 154 d_Mod_drop_123 (by decide) (by omega) (by omega) (fun hc123 => absurd hc123 (by decide)) (fun hc123 => ?_)
              refine J_aload_n C 0 d_Mod_drop_126 rfl rfl ?_
              refine J_get C f_Mod_70 (by decide) (e_76 _) rfl d_Mod_drop_127 ?_
              refine J_iconst C d_Mod_drop_130 (v := nI 3) rfl ?_
              refine J_iload_n C 2 d_Mod_drop_131 rfl rfl ?_
              refine J_imulN C d_Mod_drop_132 ?_
              refine J_iload_n C 3 d_Mod_drop_133 rfl rfl ?_
              refine J_iaddN C d_Mod_drop_134 ?_
              refine J_aload_n C 0 d_Mod_drop_135 rfl rfl ?_
              refine J_get C f_Mod_70 (by decide) (e_76 _) rfl d_Mod_drop_136 ?_
              refine J_iconst C d_Mod_drop_139 (v := nI 3) rfl ?_
              refine J_iload_n C 2 d_Mod_drop_140 rfl rfl ?_
              refine J_imulN C d_Mod_drop_141 ?_
              refine J_iconst C d_Mod_drop_142 (v := nI 3) rfl ?_
              refine J_iaddN C d_Mod_drop_143 ?_
              refine J_iload_n C 3 d_Mod_drop_144 rfl rfl ?_
              refine J_iaddN C d_Mod_drop_145 ?_
              refine K_ial C a_85 (j := ((3 * i) + 3) + 0) rfl (by omega) d_Mod_drop_146 ?_
              refine K_ias C a_85 (j := (3 * i) + 0) rfl (by omega) d_Mod_drop_147 (kk := ?_)
              refine J_iinc C d_Mod_drop_148 rfl (v := nI 1) rfl (by decide) rfl ?_
              refine J_goto C 121 d_Mod_drop_151 (by decide) ?_
              refine J_iload_n C 3 d_Mod_drop_121 rfl rfl ?_
              refine J_iconst C d_Mod_drop_122 (v := nI 3) rfl ?_
              refine J_icmpN_ge C 154 d_Mod_drop_123 (by decide) (by omega) (by omega) (fun hc123 => absurd hc123 (by decide)) (fun hc123 => ?_)
              refine J_aload_n C 0 d_Mod_drop_126 rfl rfl ?_
              refine J_get C f_Mod_70 (by decide) (e_76 _) rfl d_Mod_drop_127 ?_
              refine J_iconst C d_Mod_drop_130 (v := nI 3) rfl ?_
              refine J_iload_n C 2 d_Mod_drop_131 rfl rfl ?_
              refine J_imulN C d_Mod_drop_132 ?_
              refine J_iload_n C 3 d_Mod_drop_133 rfl rfl ?_
              refine J_iaddN C d_Mod_drop_134 ?_
              refine J_aload_n C 0 d_Mod_drop_135 rfl rfl ?_
              refine J_get C f_Mod_70 (by decide) (e_76 _) rfl d_Mod_drop_136 ?_
              refine J_iconst C d_Mod_drop_139 (v := nI 3) rfl ?_
              refine J_iload_n C 2 d_Mod_drop_140 rfl rfl ?_
              refine J_imulN C d_Mod_drop_141 ?_
              refine J_iconst C d_Mod_drop_142 (v := nI 3) rfl ?_
              refine J_iaddN C d_Mod_drop_143 ?_
              refine J_iload_n C 3 d_Mod_drop_144 rfl rfl ?_
              refine J_iaddN C d_Mod_drop_145 ?_
              refine K_ial C a_85 (j := ((3 * i) + 3) + 1) rfl (by omega) d_Mod_drop_146 ?_
              refine K_ias C a_85 (j := (3 * i) + 1) rfl (by omega) d_Mod_drop_147 (kk := ?_)
              refine J_iinc C d_Mod_drop_148 rfl (v := nI 2) rfl (by decide) rfl ?_
              refine J_goto C 121 d_Mod_drop_151 (by decide) ?_
              refine J_iload_n C 3 d_Mod_drop_121 rfl rfl ?_
              refine J_iconst C d_Mod_drop_122 (v := nI 3) rfl ?_
              refine J_icmpN_ge C 154 d_Mod_drop_123 (by decide) (by omega) (by omega) (fun hc123 => absurd hc123 (by decide)) (fun hc123 => ?_)
              refine J_aload_n C 0 d_Mod_drop_126 rfl rfl ?_
              refine J_get C f_Mod_70 (by decide) (e_76 _) rfl d_Mod_drop_127 ?_
              refine J_iconst C d_Mod_drop_130 (v := nI 3) rfl ?_
              refine J_iload_n C 2 d_Mod_drop_131 rfl rfl ?_
              refine J_imulN C d_Mod_drop_132 ?_
              refine J_iload_n C 3 d_Mod_drop_133 rfl rfl ?_
              refine J_iaddN C d_Mod_drop_134 ?_
              refine J_aload_n C 0 d_Mod_drop_135 rfl rfl ?_
              refine J_get C f_Mod_70 (by decide) (e_76 _) rfl d_Mod_drop_136 ?_
              refine J_iconst C d_Mod_drop_139 (v := nI 3) rfl ?_
              refine J_iload_n C 2 d_Mod_drop_140 rfl rfl ?_
              refine J_imulN C d_Mod_drop_141 ?_
              refine J_iconst C d_Mod_drop_142 (v := nI 3) rfl ?_
              refine J_iaddN C d_Mod_drop_143 ?_
              refine J_iload_n C 3 d_Mod_drop_144 rfl rfl ?_
              refine J_iaddN C d_Mod_drop_145 ?_
              refine K_ial C a_85 (j := ((3 * i) + 3) + 2) rfl (by omega) d_Mod_drop_146 ?_
              refine K_ias C a_85 (j := (3 * i) + 2) rfl (by omega) d_Mod_drop_147 (kk := ?_)
              refine J_iinc C d_Mod_drop_148 rfl (v := nI 3) rfl (by decide) rfl ?_
              refine J_goto C 121 d_Mod_drop_151 (by decide) ?_
              refine J_iload_n C 3 d_Mod_drop_121 rfl rfl ?_
              refine J_iconst C d_Mod_drop_122 (v := nI 3) rfl ?_
              refine J_icmpN_ge C 154 d_Mod_drop_123 (by decide) (by omega) (by omega) (fun hc123 => ?_) (fun hc123 => absurd hc123 (by decide))
              refine J_iinc C d_Mod_drop_154 rfl (v := nI (i + 1)) (nI_1 _) (by decide) rfl ?_
              refine J_goto C 30 d_Mod_drop_157 (by decide) ?_
              refine J_lv (lv' := [some (.ref 76), some (.int (nI i0)), some (.int (nI (i + 1))), none]) (by intro i v hv; match i, hv with | 0, hv => exact hv | 1, hv => exact hv | 2, hv => exact hv | 3, hv => simp at hv | _ + 4, hv => simp at hv) ?_
              exact hK
            · refine J_aload_n C 0 d_Mod_drop_88 rfl rfl ?_
              refine J_get C f_Mod_67 (by decide) (e_76 _) rfl d_Mod_drop_89 ?_
              refine J_bipush C d_Mod_drop_92 (v := nI 60) rfl ?_
              refine J_iload_n C 2 d_Mod_drop_94 rfl rfl ?_
              refine J_imulN C d_Mod_drop_95 ?_
              refine J_iload_n C 3 d_Mod_drop_96 rfl rfl ?_
              refine J_iaddN C d_Mod_drop_97 ?_
              refine J_aload_n C 0 d_Mod_drop_98 rfl rfl ?_
              refine J_get C f_Mod_67 (by decide) (e_76 _) rfl d_Mod_drop_99 ?_
              refine J_bipush C d_Mod_drop_102 (v := nI 60) rfl ?_
              refine J_iload_n C 2 d_Mod_drop_104 rfl rfl ?_
              refine J_imulN C d_Mod_drop_105 ?_
              refine J_bipush C d_Mod_drop_106 (v := nI 60) rfl ?_
              refine J_iaddN C d_Mod_drop_108 ?_
              refine J_iload_n C 3 d_Mod_drop_109 rfl rfl ?_
              refine J_iaddN C d_Mod_drop_110 ?_
              refine K_ial C a_84 (j := ((60 * i) + 60) + k) rfl (by omega) d_Mod_drop_111 ?_
              refine K_ias C a_84 (j := (60 * i) + k) rfl (by omega) d_Mod_drop_112 (kk := ?_)
              refine J_iinc C d_Mod_drop_113 rfl (v := nI (k + 1)) (nI_1 _) (by decide) rfl ?_
              refine J_goto C 82 d_Mod_drop_116 (by decide) ?_
              exact ih (k + 1) _ (by omega) (by omega) (by rw [show 60 - k = (60 - (k + 1)) + 1 by omega] at hF; exact hF)
        refine J_iload_n C 2 d_Mod_drop_30 rfl rfl ?_
        refine J_aload_n C 0 d_Mod_drop_31 rfl rfl ?_
        refine J_get C f_Mod_58 (by decide) (e_76 _) rfl d_Mod_drop_32 ?_
        refine J_val (y := nI (c0 - 1)) hcn ?_
        refine J_icmpN_ge C 160 d_Mod_drop_35 (by decide) (by omega) (by omega) (fun hc35 => ?_) (fun hc35 => ?_)
        · refine J_aload_n C 0 d_Mod_drop_160 rfl rfl ?_
          refine F_callV C (as := []) (st := []) (fm_write l D dA X) l_Mod_94 v_Mod_write (by decide) (e_76 _) rfl (by decide) (by decide) (Nat.le_of_ble_eq_true rfl) d_Mod_drop_161 (kk := ?_)
          refine J_pop C d_Mod_drop_164 rfl ?_
          exact F_ret C hr (by rw [show c0 - 1 - i = 0 by omega] at hF; exact hF) d_Mod_drop_165
        · refine J_aload_n C 0 d_Mod_drop_38 rfl rfl ?_
          refine J_get C f_Mod_61 (by decide) (e_76 _) rfl d_Mod_drop_39 ?_
          refine J_iload_n C 2 d_Mod_drop_42 rfl rfl ?_
          refine J_aload_n C 0 d_Mod_drop_43 rfl rfl ?_
          refine J_get C f_Mod_61 (by decide) (e_76 _) rfl d_Mod_drop_44 ?_
          refine J_iload_n C 2 d_Mod_drop_47 rfl rfl ?_
          refine J_iconst C d_Mod_drop_48 (v := nI 1) rfl ?_
          refine J_iaddN C d_Mod_drop_49 ?_
          refine K_ial C a_82 (j := i + 1) rfl (by omega) d_Mod_drop_50 ?_
          refine K_ias C a_82 (j := i) rfl (by omega) d_Mod_drop_51 (kk := ?_)
          refine J_aload_n C 0 d_Mod_drop_52 rfl rfl ?_
          refine J_get C f_Mod_64 (by decide) (e_76 _) rfl d_Mod_drop_53 ?_
          refine J_iload_n C 2 d_Mod_drop_56 rfl rfl ?_
          refine J_aload_n C 0 d_Mod_drop_57 rfl rfl ?_
          refine J_get C f_Mod_64 (by decide) (e_76 _) rfl d_Mod_drop_58 ?_
          refine J_iload_n C 2 d_Mod_drop_61 rfl rfl ?_
          refine J_iconst C d_Mod_drop_62 (v := nI 1) rfl ?_
          refine J_iaddN C d_Mod_drop_63 ?_
          refine K_ial C a_83 (j := i + 1) rfl (by omega) d_Mod_drop_64 ?_
          refine J_val (y := X 83 (i + 1)) rfl ?_
          refine K_ias C a_83 (j := i) rfl (by omega) d_Mod_drop_65 (kk := ?_)
          refine J_aload_n C 0 d_Mod_drop_66 rfl rfl ?_
          refine J_get C f_Mod_73 (by decide) (e_76 _) rfl d_Mod_drop_67 ?_
          refine J_iload_n C 2 d_Mod_drop_70 rfl rfl ?_
          refine J_aload_n C 0 d_Mod_drop_71 rfl rfl ?_
          refine J_get C f_Mod_73 (by decide) (e_76 _) rfl d_Mod_drop_72 ?_
          refine J_iload_n C 2 d_Mod_drop_75 rfl rfl ?_
          refine J_iconst C d_Mod_drop_76 (v := nI 1) rfl ?_
          refine J_iaddN C d_Mod_drop_77 ?_
          refine K_ial C a_86 (j := i + 1) rfl (by omega) d_Mod_drop_78 ?_
          refine J_val (y := X 86 (i + 1)) rfl ?_
          refine K_ias C a_86 (j := i) rfl (by omega) d_Mod_drop_79 (kk := ?_)
          refine J_iconst C d_Mod_drop_80 (v := nI 0) rfl ?_
          refine J_istore_n C 3 d_Mod_drop_81 rfl (by decide) rfl ?_
          refine lpi hc35 61 0 _ (cpX 84 (60 * i) 84 (60 * i + 60) 60 0 (mu (mu (mu X 82 i (X 82 (i + 1))) 83 i (X 83 (i + 1))) 86 i (X 86 (i + 1)))) (by omega) (by omega) rfl ?_
          rw [show c0 - 1 - i = (c0 - 1 - (i + 1)) + 1 by omega] at hF
          exact ih (i + 1) _ (by omega) (by omega) (by show cpX _ _ _ _ _ _ _ 76 15 = _; rw [cpX_p _ _ _ _ _ _ _ (by decide), cpX_p _ _ _ _ _ _ _ (by decide)]; simp [mu, va_up]; exact hcn) hF
    exact lp (c0 - 1 - i0 + 1) i0 _ (by omega) (by omega) (by simp [mu, va_up, upd]) hM9
  · exact F_ret C hr (by unfold fDropM; rw [if_neg (rJrM_0 ho hc4)]) d_Mod_drop_7
