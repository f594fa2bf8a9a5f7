def scB (u : Nat → Nat) (c0 n : Nat) : Nat → Nat → Nat → Mem → Mem
  | 0, _, _, X => X
  | r + 1, b, k, X => if n ≤ 20 * k then X else if X 76 3 = 0 then (if u b = 0 then scB u c0 n r (b + 1) k X else scB u c0 n r (b + 1) (k + 1) (fWrM (mu X 85 (3 * c0 + k) (nI b)))) else X
def cpX (pos a src b : Nat) : Nat → Nat → Mem → Mem
  | 0, _, X => X
  | r + 1, k, X => cpX pos a src b r (k + 1) (mu X pos (a + k) (X src (b + k)))
def fKp3 (X : Mem) (c0 n : Nat) : Mem := fWrM (mu (mu (mu (mu (mu X 82 c0 (X 76 21)) 83 c0 (nI n)) 86 c0 (nI 0)) 76 21 (X 76 21 + nI 1)) 76 15 (nI (c0 + 1)))
def fKp2 (X : Mem) (c0 n src at0 : Nat) : Mem := fKp3 (cpX 84 (60 * c0) src at0 n 0 (mu X 76 22 (X 76 22 + nI 1))) c0 n
def fKp1 (X : Mem) (c0 n src at0 : Nat) : Mem := if X 76 3 = 0 then (if fJrM X 76 3 = 0 then fKp2 (fJrM X) c0 n src at0 else fJrM X) else X
def fKp0 (X : Mem) (c0 : Nat) : Mem := mu (mu (mu X 85 (3 * c0 + 0) (-1)) 85 (3 * c0 + 1) (-1)) 85 (3 * c0 + 2) (-1)
/-- a packet of n bytes, from place at0 of the row src, is kept -/
def fKeep (X : Mem) (src at0 n : Nat) : Mem := fKp1 (scB (uX X) (cX X) n 24 0 0 (fKp0 X (cX X))) (cX X) n src at0
theorem scB_stop (u : Nat → Nat) (c0 n r b k : Nat) (X : Mem) (h : n ≤ 20 * k ∨ ¬ X 76 3 = 0) : scB u c0 n r b k X = X := by
  cases r with
  | zero => rfl
  | succ r =>
    unfold scB
    rcases h with h | h
    · rw [if_pos h]
    · split
      · rfl
      · rfl
set_option maxHeartbeats 4000000 in
set_option maxRecDepth 100000 in
theorem fm_keep78 (l : Launch) (D : va_G) (dA : Nat → ClassId) (M : Mem) (at0 n c0 : Nat) (u : Nat → Nat) (hcn : M 76 15 = nI c0) (hc24 : c0 < 24) (ho : M 76 3 = 0) (hn0 : 0 < n) (hn : n ≤ 60) (hat : at0 + n ≤ 80) (hu : uX M = u) (hroom : (n + 19) / 20 ≤ cntF u 24) : CF l D dA k_Mod_keepPacket 2 [.ref 76, .ref 78, .int (nI at0), .int (nI n)] M (none) (fKeep M 78 at0 n) := by
  refine CF.of (by decide +kernel) (Nat.le_of_ble_eq_true rfl) (by intro v hv; simp only [List.mem_cons, List.not_mem_nil, or_false] at hv; rcases hv with rfl | rfl | rfl | rfl <;> rfl) ?_
  intro A ad0 p e s m args below meth c C hr
  refine J_iconst C d_Mod_keepPacket_0 (v := nI 0) rfl ?_
  refine J_istore C d_Mod_keepPacket_1 (by decide) rfl ?_
  refine J_iconst C d_Mod_keepPacket_3 (v := nI 0) rfl ?_
  refine J_istore C d_Mod_keepPacket_4 (by decide) rfl ?_
  refine J_iload C d_Mod_keepPacket_6 rfl ?_
  refine J_iconst C d_Mod_keepPacket_8 (v := nI 3) rfl ?_
  refine J_icmpN_ge C 33 d_Mod_keepPacket_9 (by decide) (by omega) (by omega) (fun hc9 => absurd hc9 (by decide)) (fun hc9 => ?_)
  refine J_aload_n C 0 d_Mod_keepPacket_12 rfl rfl ?_
  refine J_get C f_Mod_70 (by decide) (e_76 _) rfl d_Mod_keepPacket_13 ?_
  refine J_iconst C d_Mod_keepPacket_16 (v := nI 3) rfl ?_
  refine J_aload_n C 0 d_Mod_keepPacket_17 rfl rfl ?_
  refine J_get C f_Mod_58 (by decide) (e_76 _) rfl d_Mod_keepPacket_18 ?_
  refine J_val (y := nI c0) hcn ?_
  refine J_imulN C d_Mod_keepPacket_21 ?_
  refine J_iload C d_Mod_keepPacket_22 rfl ?_
  refine J_iaddN C d_Mod_keepPacket_24 ?_
  refine J_iconst C d_Mod_keepPacket_25 (v := -1) rfl ?_
  refine K_ias C a_85 (j := (3 * c0) + 0) rfl (by omega) d_Mod_keepPacket_26 (kk := ?_)
  refine J_iinc C d_Mod_keepPacket_27 rfl (v := nI 1) rfl (by decide) rfl ?_
  refine J_goto C 6 d_Mod_keepPacket_30 (by decide) ?_
  refine J_iload C d_Mod_keepPacket_6 rfl ?_
  refine J_iconst C d_Mod_keepPacket_8 (v := nI 3) rfl ?_
  refine J_icmpN_ge C 33 d_Mod_keepPacket_9 (by decide) (by omega) (by omega) (fun hc9 => absurd hc9 (by decide)) (fun hc9 => ?_)
  refine J_aload_n C 0 d_Mod_keepPacket_12 rfl rfl ?_
  refine J_get C f_Mod_70 (by decide) (e_76 _) rfl d_Mod_keepPacket_13 ?_
  refine J_iconst C d_Mod_keepPacket_16 (v := nI 3) rfl ?_
  refine J_aload_n C 0 d_Mod_keepPacket_17 rfl rfl ?_
  refine J_get C f_Mod_58 (by decide) (e_76 _) rfl d_Mod_keepPacket_18 ?_
  refine J_val (y := nI c0) (by simp [mu, va_up, upd, fWrM_k, fJrM_k]; exact hcn) ?_
  refine J_imulN C d_Mod_keepPacket_21 ?_
  refine J_iload C d_Mod_keepPacket_22 rfl ?_
  refine J_iaddN C d_Mod_keepPacket_24 ?_
  refine J_iconst C d_Mod_keepPacket_25 (v := -1) rfl ?_
  refine K_ias C a_85 (j := (3 * c0) + 1) rfl (by omega) d_Mod_keepPacket_26 (kk := ?_)
  refine J_iinc C d_Mod_keepPacket_27 rfl (v := nI 2) rfl (by decide) rfl ?_
  refine J_goto C 6 d_Mod_keepPacket_30 (by decide) ?_
  refine J_iload C d_Mod_keepPacket_6 rfl ?_
  refine J_iconst C d_Mod_keepPacket_8 (v := nI 3) rfl ?_
  refine J_icmpN_ge C 33 d_Mod_keepPacket_9 (by decide) (by omega) (by omega) (fun hc9 => absurd hc9 (by decide)) (fun hc9 => ?_)
  refine J_aload_n C 0 d_Mod_keepPacket_12 rfl rfl ?_
  refine J_get C f_Mod_70 (by decide) (e_76 _) rfl d_Mod_keepPacket_13 ?_
  refine J_iconst C d_Mod_keepPacket_16 (v := nI 3) rfl ?_
  refine J_aload_n C 0 d_Mod_keepPacket_17 rfl rfl ?_
  refine J_get C f_Mod_58 (by decide) (e_76 _) rfl d_Mod_keepPacket_18 ?_
  refine J_val (y := nI c0) (by simp [mu, va_up, upd, fWrM_k, fJrM_k]; exact hcn) ?_
  refine J_imulN C d_Mod_keepPacket_21 ?_
  refine J_iload C d_Mod_keepPacket_22 rfl ?_
  refine J_iaddN C d_Mod_keepPacket_24 ?_
  refine J_iconst C d_Mod_keepPacket_25 (v := -1) rfl ?_
  refine K_ias C a_85 (j := (3 * c0) + 2) rfl (by omega) d_Mod_keepPacket_26 (kk := ?_)
  refine J_iinc C d_Mod_keepPacket_27 rfl (v := nI 3) rfl (by decide) rfl ?_
  refine J_goto C 6 d_Mod_keepPacket_30 (by decide) ?_
  refine J_iload C d_Mod_keepPacket_6 rfl ?_
  refine J_iconst C d_Mod_keepPacket_8 (v := nI 3) rfl ?_
  refine J_icmpN_ge C 33 d_Mod_keepPacket_9 (by decide) (by omega) (by omega) (fun hc9 => ?_) (fun hc9 => absurd hc9 (by decide))
  refine J_iconst C d_Mod_keepPacket_33 (v := nI 0) rfl ?_
  refine J_istore C d_Mod_keepPacket_34 (by decide) rfl ?_
  refine J_bipush C d_Mod_keepPacket_36 (v := nI 20) rfl ?_
  refine J_iload C d_Mod_keepPacket_38 rfl ?_
  refine J_imulN C d_Mod_keepPacket_40 ?_
  refine J_val (y := nI 0) rfl ?_
  refine J_iload_n C 3 d_Mod_keepPacket_41 rfl rfl ?_
  refine J_icmpN_ge C 93 d_Mod_keepPacket_42 (by decide) (by omega) (by omega) (fun hc42 => absurd hc42 (by omega)) (fun hc42 => ?_)
  generalize hM9 : fKeep M 78 at0 n = M9
  unfold fKeep at hM9
  rw [cX_nI hcn (by omega), hu] at hM9
  have hu1 := fun b hb => uX_hu1 (cX_nI hcn (by omega)) (X := M) b hb
  have hu0 := fun b hb => uX_hu0 (cX_nI hcn (by omega)) (X := M) b hb
  have hule0 := uX_le M
  rw [hu] at hu1 hu0 hule0
  have lp2 : ∀ (fu : Nat) (i : Nat) (X : Mem), n - i < fu → (i ≤ n) → (X 76 15 = nI c0) → (fKp3 (cpX 84 (60 * c0) 78 at0 (n - i) i X) c0 n = M9) → J D dA A (fun _ _ => True) ad0 90 k_Mod_keepPacket.2.2.1 p l e (zR 2 0 0) s m args below meth c (FQ D dA A ad0 below args s (none) (M9)) 114 [some (.ref 76), some (.ref 78), some (.int (nI at0)), some (.int (nI n)), none, some (.int (nI i))] [] (E X) 90 0 0 := by
    intro fu
    induction fu with
    | zero => intro i X hfu; exact absurd hfu (Nat.not_lt_zero _)
    | succ fu ih =>
      intro i X hfu hi hcn hF
      refine J_iload C d_Mod_keepPacket_114 rfl ?_
      refine J_iload_n C 3 d_Mod_keepPacket_116 rfl rfl ?_
      refine J_icmpN_ge C 147 d_Mod_keepPacket_117 (by decide) (by omega) (by omega) (fun hc117 => ?_) (fun hc117 => ?_)
      · refine J_aload_n C 0 d_Mod_keepPacket_147 rfl rfl ?_
        refine J_get C f_Mod_61 (by decide) (e_76 _) rfl d_Mod_keepPacket_148 ?_
        refine J_aload_n C 0 d_Mod_keepPacket_151 rfl rfl ?_
        refine J_get C f_Mod_58 (by decide) (e_76 _) rfl d_Mod_keepPacket_152 ?_
        refine J_val (y := nI c0) hcn ?_
        refine J_aload_n C 0 d_Mod_keepPacket_155 rfl rfl ?_
        refine J_get C f_Mod_76 (by decide) (e_76 _) rfl d_Mod_keepPacket_156 ?_
        refine K_ias C a_82 (j := c0) rfl (by omega) d_Mod_keepPacket_159 (kk := ?_)
        refine J_aload_n C 0 d_Mod_keepPacket_160 rfl rfl ?_
        refine J_get C f_Mod_64 (by decide) (e_76 _) rfl d_Mod_keepPacket_161 ?_
        refine J_aload_n C 0 d_Mod_keepPacket_164 rfl rfl ?_
        refine J_get C f_Mod_58 (by decide) (e_76 _) rfl d_Mod_keepPacket_165 ?_
        refine J_val (y := nI c0) (by simp [mu, va_up, upd, fWrM_k, fJrM_k]; exact hcn) ?_
        refine J_iload_n C 3 d_Mod_keepPacket_168 rfl rfl ?_
        refine K_ias C a_83 (j := c0) rfl (by omega) d_Mod_keepPacket_169 (kk := ?_)
        refine J_aload_n C 0 d_Mod_keepPacket_170 rfl rfl ?_
        refine J_get C f_Mod_73 (by decide) (e_76 _) rfl d_Mod_keepPacket_171 ?_
        refine J_aload_n C 0 d_Mod_keepPacket_174 rfl rfl ?_
        refine J_get C f_Mod_58 (by decide) (e_76 _) rfl d_Mod_keepPacket_175 ?_
        refine J_val (y := nI c0) (by simp [mu, va_up, upd, fWrM_k, fJrM_k]; exact hcn) ?_
        refine J_iconst C d_Mod_keepPacket_178 (v := nI 0) rfl ?_
        refine K_ias C a_86 (j := c0) rfl (by omega) d_Mod_keepPacket_179 (kk := ?_)
        refine J_aload_n C 0 d_Mod_keepPacket_180 rfl rfl ?_
        refine J_dup C d_Mod_keepPacket_181 rfl ?_
        refine J_get C f_Mod_76 (by decide) (e_76 _) rfl d_Mod_keepPacket_182 ?_
        refine J_val (y := X 76 21) rfl ?_
        refine J_iconst C d_Mod_keepPacket_185 (v := nI 1) rfl ?_
        refine J_iadd C d_Mod_keepPacket_186 ?_
        refine K_putI C f_Mod_76 (by decide) (e_76 _) (Nat.le_of_ble_eq_true rfl) rfl d_Mod_keepPacket_187 (kk := ?_)
        refine J_aload_n C 0 d_Mod_keepPacket_190 rfl rfl ?_
        refine J_dup C d_Mod_keepPacket_191 rfl ?_
        refine J_get C f_Mod_58 (by decide) (e_76 _) rfl d_Mod_keepPacket_192 ?_
        refine J_val (y := nI c0) (by simp [mu, va_up, upd, fWrM_k, fJrM_k]; exact hcn) ?_
        refine J_iconst C d_Mod_keepPacket_195 (v := nI 1) rfl ?_
        refine J_iaddN C d_Mod_keepPacket_196 ?_
        refine K_putI C f_Mod_58 (by decide) (e_76 _) (Nat.le_of_ble_eq_true rfl) rfl d_Mod_keepPacket_197 (kk := ?_)
        refine J_aload_n C 0 d_Mod_keepPacket_200 rfl rfl ?_
        refine F_callV C (as := []) (st := []) (fm_write l D dA (mu (mu (mu (mu (mu X 82 c0 (X 76 21)) 83 c0 (nI n)) 86 c0 (nI 0)) 76 21 ((X 76 21) + (nI 1))) 76 15 (nI (c0 + 1)))) l_Mod_94 v_Mod_write (by decide) (e_76 _) rfl (by decide) (by decide) (Nat.le_of_ble_eq_true rfl) d_Mod_keepPacket_201 (kk := ?_)
        refine J_pop C d_Mod_keepPacket_204 rfl ?_
        exact F_ret C hr (by rw [show n - i = 0 by omega] at hF; exact hF) d_Mod_keepPacket_205
      · refine J_aload_n C 0 d_Mod_keepPacket_120 rfl rfl ?_
        refine J_get C f_Mod_67 (by decide) (e_76 _) rfl d_Mod_keepPacket_121 ?_
        refine J_bipush C d_Mod_keepPacket_124 (v := nI 60) rfl ?_
        refine J_aload_n C 0 d_Mod_keepPacket_126 rfl rfl ?_
        refine J_get C f_Mod_58 (by decide) (e_76 _) rfl d_Mod_keepPacket_127 ?_
        refine J_val (y := nI c0) hcn ?_
        refine J_imulN C d_Mod_keepPacket_130 ?_
        refine J_iload C d_Mod_keepPacket_131 rfl ?_
        refine J_iaddN C d_Mod_keepPacket_133 ?_
        refine J_aload_n C 1 d_Mod_keepPacket_134 rfl rfl ?_
        refine J_iload_n C 2 d_Mod_keepPacket_135 rfl rfl ?_
        refine J_iload C d_Mod_keepPacket_136 rfl ?_
        refine J_iaddN C d_Mod_keepPacket_138 ?_
        refine K_ial C a_78 (j := at0 + i) rfl (by omega) d_Mod_keepPacket_139 ?_
        refine K_ias C a_84 (j := (60 * c0) + i) rfl (by omega) d_Mod_keepPacket_140 (kk := ?_)
        refine J_iinc C d_Mod_keepPacket_141 rfl (v := nI (i + 1)) (nI_1 _) (by decide) rfl ?_
        refine J_goto C 114 d_Mod_keepPacket_144 (by decide) ?_
        exact ih (i + 1) _ (by omega) (by omega) (by simp [mu, va_up]; exact hcn) (by rw [show n - i = (n - (i + 1)) + 1 by omega] at hF; exact hF)
  have hex : ∀ (X : Mem) (b k : Nat), X 76 3 = 0 → X 76 15 = nI c0 → fKp1 X c0 n 78 at0 = M9 → J D dA A (fun _ _ => True) ad0 90 k_Mod_keepPacket.2.2.1 p l e (zR 2 0 0) s m args below meth c (FQ D dA A ad0 below args s (none) (M9)) 93 [some (.ref 76), some (.ref 78), some (.int (nI at0)), some (.int (nI n)), some (.int (nI b)), some (.int (nI k))] [] (E X) 90 0 0 := by
    intro X b k ho hcn hF
    refine J_aload_n C 0 d_Mod_keepPacket_93 rfl rfl ?_
    refine F_callV C (as := []) (st := []) (fm_journal l D dA X) l_Mod_102 v_Mod_journal (by decide) (e_76 _) rfl (by decide) (by decide) (Nat.le_of_ble_eq_true rfl) d_Mod_keepPacket_94 (kk := ?_)
    refine J_if_ne C 101 d_Mod_keepPacket_97 (by decide) (fun hc97 => ?_) (fun hc97 => ?_)
    · refine J_aload_n C 0 d_Mod_keepPacket_101 rfl rfl ?_
      refine J_dup C d_Mod_keepPacket_102 rfl ?_
      refine J_get C f_Mod_79 (by decide) (e_76 _) rfl d_Mod_keepPacket_103 ?_
      refine J_iconst C d_Mod_keepPacket_106 (v := nI 1) rfl ?_
      refine J_iadd C d_Mod_keepPacket_107 ?_
      refine K_putI C f_Mod_79 (by decide) (e_76 _) (Nat.le_of_ble_eq_true rfl) rfl d_Mod_keepPacket_108 (kk := ?_)
      refine J_iconst C d_Mod_keepPacket_111 (v := nI 0) rfl ?_
      refine J_istore C d_Mod_keepPacket_112 (by decide) rfl ?_
      refine J_lv (lv' := [some (.ref 76), some (.ref 78), some (.int (nI at0)), some (.int (nI n)), none, some (.int (nI 0))]) (by intro i v hv; match i, hv with | 0, hv => exact hv | 1, hv => exact hv | 2, hv => exact hv | 3, hv => exact hv | 4, hv => simp at hv | 5, hv => exact hv | _ + 6, hv => simp at hv) ?_
      exact lp2 (n + 1) 0 _ (by omega) (by omega) (by simp [mu, va_up, upd, fJrM_k]; exact hcn) (by unfold fKp1 at hF; rw [if_pos ho, if_pos (rJrM_1 ho hc97)] at hF; exact hF)
    · exact F_ret C hr (by unfold fKp1 at hF; rw [if_pos ho, if_neg (rJrM_0 ho hc97)] at hF; exact hF) d_Mod_keepPacket_100
  have lp : ∀ (fu b k : Nat) (X : Mem), 24 - b < fu → b ≤ 24 → (∀ q, q < 3 * c0 → X 85 q = M 85 q) → X 76 15 = nI c0 → X 76 3 = 0 → 20 * k < n → (n + 19) / 20 + cntF u b ≤ k + cntF u 24 → fKp1 (scB u c0 n (24 - b) b k X) c0 n 78 at0 = M9 → J D dA A (fun _ _ => True) ad0 90 k_Mod_keepPacket.2.2.1 p l e (zR 2 0 0) s m args below meth c (FQ D dA A ad0 below args s (none) (M9)) 45 [some (.ref 76), some (.ref 78), some (.int (nI at0)), some (.int (nI n)), some (.int (nI b)), some (.int (nI k))] [] (E X) 90 0 0 := by
    intro fu
    induction fu with
    | zero => intro b k X hfu; exact absurd hfu (Nat.not_lt_zero _)
    | succ fu ih =>
      intro b k X hfu hb hq hcn ho hk hroom hF
      have hb24 : b < 24 := by
        rcases Nat.lt_or_ge b 24 with h | h
        · exact h
        · rw [show b = 24 by omega] at hroom; omega
      rw [show 24 - b = (24 - (b + 1)) + 1 by omega] at hF
      unfold scB at hF
      rw [if_neg (by omega), if_pos ho] at hF
      have hcs : cntF u (b + 1) = cntF u b + u b := rfl
      refine J_aload_n C 0 d_Mod_keepPacket_45 rfl rfl ?_
      refine J_iload C d_Mod_keepPacket_46 rfl ?_
      refine P_callV C (as := [.int (nI b)]) (st := []) (pm_isFree l D dA X c0 (nI b) (nI (u b)) hcn (by omega) (fun q => hu1 b hb24 (fun x hx => by rw [← hq x hx]; exact q x hx)) (fun q => hu0 b hb24 (by obtain ⟨x, hx, hy⟩ := q; exact ⟨x, hx, by rw [← hq x hx]; exact hy⟩))) l_Mod_98 v_Mod_isFree (by decide) (e_76 _) rfl (by decide) (by decide) (by decide) (Nat.le_of_ble_eq_true rfl) d_Mod_keepPacket_48 (kk := ?_)
      have hule := hule0 b
      refine J_ifN_ne C 60 d_Mod_keepPacket_51 (by decide) (by omega) (fun hc51 => ?_) (fun hc51 => ?_)
      · refine J_aload_n C 0 d_Mod_keepPacket_60 rfl rfl ?_
        refine J_get C f_Mod_70 (by decide) (e_76 _) rfl d_Mod_keepPacket_61 ?_
        refine J_iconst C d_Mod_keepPacket_64 (v := nI 3) rfl ?_
        refine J_aload_n C 0 d_Mod_keepPacket_65 rfl rfl ?_
        refine J_get C f_Mod_58 (by decide) (e_76 _) rfl d_Mod_keepPacket_66 ?_
        refine J_val (y := nI c0) hcn ?_
        refine J_imulN C d_Mod_keepPacket_69 ?_
        refine J_iload C d_Mod_keepPacket_70 rfl ?_
        refine J_iaddN C d_Mod_keepPacket_72 ?_
        refine J_iload C d_Mod_keepPacket_73 rfl ?_
        refine K_ias C a_85 (j := (3 * c0) + k) rfl (by omega) d_Mod_keepPacket_75 (kk := ?_)
        refine J_iinc C d_Mod_keepPacket_76 rfl (v := nI (b + 1)) (nI_1 _) (by decide) rfl ?_
        refine J_aload_n C 0 d_Mod_keepPacket_79 rfl rfl ?_
        refine F_callV C (as := []) (st := []) (fm_write l D dA (mu X 85 ((3 * c0) + k) (nI b))) l_Mod_94 v_Mod_write (by decide) (e_76 _) rfl (by decide) (by decide) (Nat.le_of_ble_eq_true rfl) d_Mod_keepPacket_80 (kk := ?_)
        refine J_if_ne C 87 d_Mod_keepPacket_83 (by decide) (fun hc83 => ?_) (fun hc83 => ?_)
        · refine J_iinc C d_Mod_keepPacket_87 rfl (v := nI (k + 1)) (nI_1 _) (by decide) rfl ?_
          refine J_goto C 36 d_Mod_keepPacket_90 (by decide) ?_
          refine J_bipush C d_Mod_keepPacket_36 (v := nI 20) rfl ?_
          refine J_iload C d_Mod_keepPacket_38 rfl ?_
          refine J_imulN C d_Mod_keepPacket_40 ?_
          refine J_iload_n C 3 d_Mod_keepPacket_41 rfl rfl ?_
          refine J_icmpN_ge C 93 d_Mod_keepPacket_42 (by decide) (by omega) (by omega) (fun hc42 => ?_) (fun hc42 => ?_)
          · rw [if_neg hc51] at hF
            refine hex _ (b + 1) (k + 1) (rWrM_1 hc83) (by rw [fWrM_k _ (by decide) (by decide) (by decide)]; simp [mu, va_up]; exact hcn) ?_
            rw [scB_stop _ _ _ _ _ _ _ (Or.inl (by omega))] at hF
            exact hF
          · rw [if_neg hc51] at hF
            exact ih (b + 1) (k + 1) _ (by omega) (by omega) (by intro x hx; rw [fWrM_p _ (by decide), mu_row]; simp only [upd]; rw [if_neg (by omega)]; exact hq x hx) (by rw [fWrM_k _ (by decide) (by decide) (by decide)]; simp [mu, va_up]; exact hcn) (rWrM_1 hc83) (by omega) (by omega) hF
        · exact F_ret C hr (by rw [if_neg hc51, scB_stop _ _ _ _ _ _ _ (Or.inr (rWrM_0 hc83))] at hF; unfold fKp1 at hF; rw [if_neg (rWrM_0 hc83)] at hF; exact hF) d_Mod_keepPacket_86
      · refine J_iinc C d_Mod_keepPacket_54 rfl (v := nI (b + 1)) (nI_1 _) (by decide) rfl ?_
        refine J_goto C 45 d_Mod_keepPacket_57 (by decide) ?_
        rw [if_pos hc51] at hF
        exact ih (b + 1) k X (by omega) (by omega) hq hcn ho hk (by omega) hF
  exact lp 25 0 0 _ (by omega) (by omega) (by intro x hx; simp only [mu_row, upd]; rw [if_neg (by omega), if_neg (by omega), if_neg (by omega)]) (by simp [mu, va_up]; exact hcn) (by simp [mu, va_up]; exact ho) (by omega) (by show _ + 0 ≤ 0 + _; omega) hM9

set_option maxHeartbeats 4000000 in
set_option maxRecDepth 100000 in
theorem fm_keep81 (l : Launch) (D : va_G) (dA : Nat → ClassId) (M : Mem) (at0 n c0 : Nat) (u : Nat → Nat) (hcn : M 76 15 = nI c0) (hc24 : c0 < 24) (ho : M 76 3 = 0) (hn0 : 0 < n) (hn : n ≤ 60) (hat : at0 + n ≤ 240) (hu : uX M = u) (hroom : (n + 19) / 20 ≤ cntF u 24) : CF l D dA k_Mod_keepPacket 2 [.ref 76, .ref 81, .int (nI at0), .int (nI n)] M (none) (fKeep M 81 at0 n) := by
  refine CF.of (by decide +kernel) (Nat.le_of_ble_eq_true rfl) (by intro v hv; simp only [List.mem_cons, List.not_mem_nil, or_false] at hv; rcases hv with rfl | rfl | rfl | rfl <;> rfl) ?_
  intro A ad0 p e s m args below meth c C hr
  refine J_iconst C d_Mod_keepPacket_0 (v := nI 0) rfl ?_
  refine J_istore C d_Mod_keepPacket_1 (by decide) rfl ?_
  refine J_iconst C d_Mod_keepPacket_3 (v := nI 0) rfl ?_
  refine J_istore C d_Mod_keepPacket_4 (by decide) rfl ?_
  refine J_iload C d_Mod_keepPacket_6 rfl ?_
  refine J_iconst C d_Mod_keepPacket_8 (v := nI 3) rfl ?_
  refine J_icmpN_ge C 33 d_Mod_keepPacket_9 (by decide) (by omega) (by omega) (fun hc9 => absurd hc9 (by decide)) (fun hc9 => ?_)
  refine J_aload_n C 0 d_Mod_keepPacket_12 rfl rfl ?_
  refine J_get C f_Mod_70 (by decide) (e_76 _) rfl d_Mod_keepPacket_13 ?_
  refine J_iconst C d_Mod_keepPacket_16 (v := nI 3) rfl ?_
  refine J_aload_n C 0 d_Mod_keepPacket_17 rfl rfl ?_
  refine J_get C f_Mod_58 (by decide) (e_76 _) rfl d_Mod_keepPacket_18 ?_
  refine J_val (y := nI c0) hcn ?_
  refine J_imulN C d_Mod_keepPacket_21 ?_
  refine J_iload C d_Mod_keepPacket_22 rfl ?_
  refine J_iaddN C d_Mod_keepPacket_24 ?_
  refine J_iconst C d_Mod_keepPacket_25 (v := -1) rfl ?_
  refine K_ias C a_85 (j := (3 * c0) + 0) rfl (by omega) d_Mod_keepPacket_26 (kk := ?_)
  refine J_iinc C d_Mod_keepPacket_27 rfl (v := nI 1) rfl (by decide) rfl ?_
  refine J_goto C 6 d_Mod_keepPacket_30 (by decide) ?_
  refine J_iload C d_Mod_keepPacket_6 rfl ?_
  refine J_iconst C d_Mod_keepPacket_8 (v := nI 3) rfl ?_
  refine J_icmpN_ge C 33 d_Mod_keepPacket_9 (by decide) (by omega) (by omega) (fun hc9 => absurd hc9 (by decide)) (fun hc9 => ?_)
  refine J_aload_n C 0 d_Mod_keepPacket_12 rfl rfl ?_
  refine J_get C f_Mod_70 (by decide) (e_76 _) rfl d_Mod_keepPacket_13 ?_
  refine J_iconst C d_Mod_keepPacket_16 (v := nI 3) rfl ?_
  refine J_aload_n C 0 d_Mod_keepPacket_17 rfl rfl ?_
  refine J_get C f_Mod_58 (by decide) (e_76 _) rfl d_Mod_keepPacket_18 ?_
  refine J_val (y := nI c0) (by simp [mu, va_up, upd, fWrM_k, fJrM_k]; exact hcn) ?_
  refine J_imulN C d_Mod_keepPacket_21 ?_
  refine J_iload C d_Mod_keepPacket_22 rfl ?_
  refine J_iaddN C d_Mod_keepPacket_24 ?_
  refine J_iconst C d_Mod_keepPacket_25 (v := -1) rfl ?_
  refine K_ias C a_85 (j := (3 * c0) + 1) rfl (by omega) d_Mod_keepPacket_26 (kk := ?_)
  refine J_iinc C d_Mod_keepPacket_27 rfl (v := nI 2) rfl (by decide) rfl ?_
  refine J_goto C 6 d_Mod_keepPacket_30 (by decide) ?_
  refine J_iload C d_Mod_keepPacket_6 rfl ?_
  refine J_iconst C d_Mod_keepPacket_8 (v := nI 3) rfl ?_
  refine J_icmpN_ge C 33 d_Mod_keepPacket_9 (by decide) (by omega) (by omega) (fun hc9 => absurd hc9 (by decide)) (fun hc9 => ?_)
  refine J_aload_n C 0 d_Mod_keepPacket_12 rfl rfl ?_
  refine J_get C f_Mod_70 (by decide) (e_76 _) rfl d_Mod_keepPacket_13 ?_
  refine J_iconst C d_Mod_keepPacket_16 (v := nI 3) rfl ?_
  refine J_aload_n C 0 d_Mod_keepPacket_17 rfl rfl ?_
  refine J_get C f_Mod_58 (by decide) (e_76 _) rfl d_Mod_keepPacket_18 ?_
  refine J_val (y := nI c0) (by simp [mu, va_up, upd, fWrM_k, fJrM_k]; exact hcn) ?_
  refine J_imulN C d_Mod_keepPacket_21 ?_
  refine J_iload C d_Mod_keepPacket_22 rfl ?_
  refine J_iaddN C d_Mod_keepPacket_24 ?_
  refine J_iconst C d_Mod_keepPacket_25 (v := -1) rfl ?_
  refine K_ias C a_85 (j := (3 * c0) + 2) rfl (by omega) d_Mod_keepPacket_26 (kk := ?_)
  refine J_iinc C d_Mod_keepPacket_27 rfl (v := nI 3) rfl (by decide) rfl ?_
  refine J_goto C 6 d_Mod_keepPacket_30 (by decide) ?_
  refine J_iload C d_Mod_keepPacket_6 rfl ?_
  refine J_iconst C d_Mod_keepPacket_8 (v := nI 3) rfl ?_
  refine J_icmpN_ge C 33 d_Mod_keepPacket_9 (by decide) (by omega) (by omega) (fun hc9 => ?_) (fun hc9 => absurd hc9 (by decide))
  refine J_iconst C d_Mod_keepPacket_33 (v := nI 0) rfl ?_
  refine J_istore C d_Mod_keepPacket_34 (by decide) rfl ?_
  refine J_bipush C d_Mod_keepPacket_36 (v := nI 20) rfl ?_
  refine J_iload C d_Mod_keepPacket_38 rfl ?_
  refine J_imulN C d_Mod_keepPacket_40 ?_
  refine J_val (y := nI 0) rfl ?_
  refine J_iload_n C 3 d_Mod_keepPacket_41 rfl rfl ?_
  refine J_icmpN_ge C 93 d_Mod_keepPacket_42 (by decide) (by omega) (by omega) (fun hc42 => absurd hc42 (by omega)) (fun hc42 => ?_)
  generalize hM9 : fKeep M 81 at0 n = M9
  unfold fKeep at hM9
  rw [cX_nI hcn (by omega), hu] at hM9
  have hu1 := fun b hb => uX_hu1 (cX_nI hcn (by omega)) (X := M) b hb
  have hu0 := fun b hb => uX_hu0 (cX_nI hcn (by omega)) (X := M) b hb
  have hule0 := uX_le M
  rw [hu] at hu1 hu0 hule0
  have lp2 : ∀ (fu : Nat) (i : Nat) (X : Mem), n - i < fu → (i ≤ n) → (X 76 15 = nI c0) → (fKp3 (cpX 84 (60 * c0) 81 at0 (n - i) i X) c0 n = M9) → J D dA A (fun _ _ => True) ad0 90 k_Mod_keepPacket.2.2.1 p l e (zR 2 0 0) s m args below meth c (FQ D dA A ad0 below args s (none) (M9)) 114 [some (.ref 76), some (.ref 81), some (.int (nI at0)), some (.int (nI n)), none, some (.int (nI i))] [] (E X) 90 0 0 := by
    intro fu
    induction fu with
    | zero => intro i X hfu; exact absurd hfu (Nat.not_lt_zero _)
    | succ fu ih =>
      intro i X hfu hi hcn hF
      refine J_iload C d_Mod_keepPacket_114 rfl ?_
      refine J_iload_n C 3 d_Mod_keepPacket_116 rfl rfl ?_
      refine J_icmpN_ge C 147 d_Mod_keepPacket_117 (by decide) (by omega) (by omega) (fun hc117 => ?_) (fun hc117 => ?_)
      · refine J_aload_n C 0 d_Mod_keepPacket_147 rfl rfl ?_
        refine J_get C f_Mod_61 (by decide) (e_76 _) rfl d_Mod_keepPacket_148 ?_
        refine J_aload_n C 0 d_Mod_keepPacket_151 rfl rfl ?_
        refine J_get C f_Mod_58 (by decide) (e_76 _) rfl d_Mod_keepPacket_152 ?_
        refine J_val (y := nI c0) hcn ?_
        refine J_aload_n C 0 d_Mod_keepPacket_155 rfl rfl ?_
        refine J_get C f_Mod_76 (by decide) (e_76 _) rfl d_Mod_keepPacket_156 ?_
        refine K_ias C a_82 (j := c0) rfl (by omega) d_Mod_keepPacket_159 (kk := ?_)
        refine J_aload_n C 0 d_Mod_keepPacket_160 rfl rfl ?_
        refine J_get C f_Mod_64 (by decide) (e_76 _) rfl d_Mod_keepPacket_161 ?_
        refine J_aload_n C 0 d_Mod_keepPacket_164 rfl rfl ?_
        refine J_get C f_Mod_58 (by decide) (e_76 _) rfl d_Mod_keepPacket_165 ?_
        refine J_val (y := nI c0) (by simp [mu, va_up, upd, fWrM_k, fJrM_k]; exact hcn) ?_
        refine J_iload_n C 3 d_Mod_keepPacket_168 rfl rfl ?_
        refine K_ias C a_83 (j := c0) rfl (by omega) d_Mod_keepPacket_169 (kk := ?_)
        refine J_aload_n C 0 d_Mod_keepPacket_170 rfl rfl ?_
        refine J_get C f_Mod_73 (by decide) (e_76 _) rfl d_Mod_keepPacket_171 ?_
        refine J_aload_n C 0 d_Mod_keepPacket_174 rfl rfl ?_
        refine J_get C f_Mod_58 (by decide) (e_76 _) rfl d_Mod_keepPacket_175 ?_
        refine J_val (y := nI c0) (by simp [mu, va_up, upd, fWrM_k, fJrM_k]; exact hcn) ?_
        refine J_iconst C d_Mod_keepPacket_178 (v := nI 0) rfl ?_
        refine K_ias C a_86 (j := c0) rfl (by omega) d_Mod_keepPacket_179 (kk := ?_)
        refine J_aload_n C 0 d_Mod_keepPacket_180 rfl rfl ?_
        refine J_dup C d_Mod_keepPacket_181 rfl ?_
        refine J_get C f_Mod_76 (by decide) (e_76 _) rfl d_Mod_keepPacket_182 ?_
        refine J_val (y := X 76 21) rfl ?_
        refine J_iconst C d_Mod_keepPacket_185 (v := nI 1) rfl ?_
        refine J_iadd C d_Mod_keepPacket_186 ?_
        refine K_putI C f_Mod_76 (by decide) (e_76 _) (Nat.le_of_ble_eq_true rfl) rfl d_Mod_keepPacket_187 (kk := ?_)
        refine J_aload_n C 0 d_Mod_keepPacket_190 rfl rfl ?_
        refine J_dup C d_Mod_keepPacket_191 rfl ?_
        refine J_get C f_Mod_58 (by decide) (e_76 _) rfl d_Mod_keepPacket_192 ?_
        refine J_val (y := nI c0) (by simp [mu, va_up, upd, fWrM_k, fJrM_k]; exact hcn) ?_
        refine J_iconst C d_Mod_keepPacket_195 (v := nI 1) rfl ?_
        refine J_iaddN C d_Mod_keepPacket_196 ?_
        refine K_putI C f_Mod_58 (by decide) (e_76 _) (Nat.le_of_ble_eq_true rfl) rfl d_Mod_keepPacket_197 (kk := ?_)
        refine J_aload_n C 0 d_Mod_keepPacket_200 rfl rfl ?_
        refine F_callV C (as := []) (st := []) (fm_write l D dA (mu (mu (mu (mu (mu X 82 c0 (X 76 21)) 83 c0 (nI n)) 86 c0 (nI 0)) 76 21 ((X 76 21) + (nI 1))) 76 15 (nI (c0 + 1)))) l_Mod_94 v_Mod_write (by decide) (e_76 _) rfl (by decide) (by decide) (Nat.le_of_ble_eq_true rfl) d_Mod_keepPacket_201 (kk := ?_)
        refine J_pop C d_Mod_keepPacket_204 rfl ?_
        exact F_ret C hr (by rw [show n - i = 0 by omega] at hF; exact hF) d_Mod_keepPacket_205
      · refine J_aload_n C 0 d_Mod_keepPacket_120 rfl rfl ?_
        refine J_get C f_Mod_67 (by decide) (e_76 _) rfl d_Mod_keepPacket_121 ?_
        refine J_bipush C d_Mod_keepPacket_124 (v := nI 60) rfl ?_
        refine J_aload_n C 0 d_Mod_keepPacket_126 rfl rfl ?_
        refine J_get C f_Mod_58 (by decide) (e_76 _) rfl d_Mod_keepPacket_127 ?_
        refine J_val (y := nI c0) hcn ?_
        refine J_imulN C d_Mod_keepPacket_130 ?_
        refine J_iload C d_Mod_keepPacket_131 rfl ?_
        refine J_iaddN C d_Mod_keepPacket_133 ?_
        refine J_aload_n C 1 d_Mod_keepPacket_134 rfl rfl ?_
        refine J_iload_n C 2 d_Mod_keepPacket_135 rfl rfl ?_
        refine J_iload C d_Mod_keepPacket_136 rfl ?_
        refine J_iaddN C d_Mod_keepPacket_138 ?_
        refine K_ial C a_81 (j := at0 + i) rfl (by omega) d_Mod_keepPacket_139 ?_
        refine K_ias C a_84 (j := (60 * c0) + i) rfl (by omega) d_Mod_keepPacket_140 (kk := ?_)
        refine J_iinc C d_Mod_keepPacket_141 rfl (v := nI (i + 1)) (nI_1 _) (by decide) rfl ?_
        refine J_goto C 114 d_Mod_keepPacket_144 (by decide) ?_
        exact ih (i + 1) _ (by omega) (by omega) (by simp [mu, va_up]; exact hcn) (by rw [show n - i = (n - (i + 1)) + 1 by omega] at hF; exact hF)
  have hex : ∀ (X : Mem) (b k : Nat), X 76 3 = 0 → X 76 15 = nI c0 → fKp1 X c0 n 81 at0 = M9 → J D dA A (fun _ _ => True) ad0 90 k_Mod_keepPacket.2.2.1 p l e (zR 2 0 0) s m args below meth c (FQ D dA A ad0 below args s (none) (M9)) 93 [some (.ref 76), some (.ref 81), some (.int (nI at0)), some (.int (nI n)), some (.int (nI b)), some (.int (nI k))] [] (E X) 90 0 0 := by
    intro X b k ho hcn hF
    refine J_aload_n C 0 d_Mod_keepPacket_93 rfl rfl ?_
    refine F_callV C (as := []) (st := []) (fm_journal l D dA X) l_Mod_102 v_Mod_journal (by decide) (e_76 _) rfl (by decide) (by decide) (Nat.le_of_ble_eq_true rfl) d_Mod_keepPacket_94 (kk := ?_)
    refine J_if_ne C 101 d_Mod_keepPacket_97 (by decide) (fun hc97 => ?_) (fun hc97 => ?_)
    · refine J_aload_n C 0 d_Mod_keepPacket_101 rfl rfl ?_
      refine J_dup C d_Mod_keepPacket_102 rfl ?_
      refine J_get C f_Mod_79 (by decide) (e_76 _) rfl d_Mod_keepPacket_103 ?_
      refine J_iconst C d_Mod_keepPacket_106 (v := nI 1) rfl ?_
      refine J_iadd C d_Mod_keepPacket_107 ?_
      refine K_putI C f_Mod_79 (by decide) (e_76 _) (Nat.le_of_ble_eq_true rfl) rfl d_Mod_keepPacket_108 (kk := ?_)
      refine J_iconst C d_Mod_keepPacket_111 (v := nI 0) rfl ?_
      refine J_istore C d_Mod_keepPacket_112 (by decide) rfl ?_
      refine J_lv (lv' := [some (.ref 76), some (.ref 81), some (.int (nI at0)), some (.int (nI n)), none, some (.int (nI 0))]) (by intro i v hv; match i, hv with | 0, hv => exact hv | 1, hv => exact hv | 2, hv => exact hv | 3, hv => exact hv | 4, hv => simp at hv | 5, hv => exact hv | _ + 6, hv => simp at hv) ?_
      exact lp2 (n + 1) 0 _ (by omega) (by omega) (by simp [mu, va_up, upd, fJrM_k]; exact hcn) (by unfold fKp1 at hF; rw [if_pos ho, if_pos (rJrM_1 ho hc97)] at hF; exact hF)
    · exact F_ret C hr (by unfold fKp1 at hF; rw [if_pos ho, if_neg (rJrM_0 ho hc97)] at hF; exact hF) d_Mod_keepPacket_100
  have lp : ∀ (fu b k : Nat) (X : Mem), 24 - b < fu → b ≤ 24 → (∀ q, q < 3 * c0 → X 85 q = M 85 q) → X 76 15 = nI c0 → X 76 3 = 0 → 20 * k < n → (n + 19) / 20 + cntF u b ≤ k + cntF u 24 → fKp1 (scB u c0 n (24 - b) b k X) c0 n 81 at0 = M9 → J D dA A (fun _ _ => True) ad0 90 k_Mod_keepPacket.2.2.1 p l e (zR 2 0 0) s m args below meth c (FQ D dA A ad0 below args s (none) (M9)) 45 [some (.ref 76), some (.ref 81), some (.int (nI at0)), some (.int (nI n)), some (.int (nI b)), some (.int (nI k))] [] (E X) 90 0 0 := by
    intro fu
    induction fu with
    | zero => intro b k X hfu; exact absurd hfu (Nat.not_lt_zero _)
    | succ fu ih =>
      intro b k X hfu hb hq hcn ho hk hroom hF
      have hb24 : b < 24 := by
        rcases Nat.lt_or_ge b 24 with h | h
        · exact h
        · rw [show b = 24 by omega] at hroom; omega
      rw [show 24 - b = (24 - (b + 1)) + 1 by omega] at hF
      unfold scB at hF
      rw [if_neg (by omega), if_pos ho] at hF
      have hcs : cntF u (b + 1) = cntF u b + u b := rfl
      refine J_aload_n C 0 d_Mod_keepPacket_45 rfl rfl ?_
      refine J_iload C d_Mod_keepPacket_46 rfl ?_
      refine P_callV C (as := [.int (nI b)]) (st := []) (pm_isFree l D dA X c0 (nI b) (nI (u b)) hcn (by omega) (fun q => hu1 b hb24 (fun x hx => by rw [← hq x hx]; exact q x hx)) (fun q => hu0 b hb24 (by obtain ⟨x, hx, hy⟩ := q; exact ⟨x, hx, by rw [← hq x hx]; exact hy⟩))) l_Mod_98 v_Mod_isFree (by decide) (e_76 _) rfl (by decide) (by decide) (by decide) (Nat.le_of_ble_eq_true rfl) d_Mod_keepPacket_48 (kk := ?_)
      have hule := hule0 b
      refine J_ifN_ne C 60 d_Mod_keepPacket_51 (by decide) (by omega) (fun hc51 => ?_) (fun hc51 => ?_)
      · refine J_aload_n C 0 d_Mod_keepPacket_60 rfl rfl ?_
        refine J_get C f_Mod_70 (by decide) (e_76 _) rfl d_Mod_keepPacket_61 ?_
        refine J_iconst C d_Mod_keepPacket_64 (v := nI 3) rfl ?_
        refine J_aload_n C 0 d_Mod_keepPacket_65 rfl rfl ?_
        refine J_get C f_Mod_58 (by decide) (e_76 _) rfl d_Mod_keepPacket_66 ?_
        refine J_val (y := nI c0) hcn ?_
        refine J_imulN C d_Mod_keepPacket_69 ?_
        refine J_iload C d_Mod_keepPacket_70 rfl ?_
        refine J_iaddN C d_Mod_keepPacket_72 ?_
        refine J_iload C d_Mod_keepPacket_73 rfl ?_
        refine K_ias C a_85 (j := (3 * c0) + k) rfl (by omega) d_Mod_keepPacket_75 (kk := ?_)
        refine J_iinc C d_Mod_keepPacket_76 rfl (v := nI (b + 1)) (nI_1 _) (by decide) rfl ?_
        refine J_aload_n C 0 d_Mod_keepPacket_79 rfl rfl ?_
        refine F_callV C (as := []) (st := []) (fm_write l D dA (mu X 85 ((3 * c0) + k) (nI b))) l_Mod_94 v_Mod_write (by decide) (e_76 _) rfl (by decide) (by decide) (Nat.le_of_ble_eq_true rfl) d_Mod_keepPacket_80 (kk := ?_)
        refine J_if_ne C 87 d_Mod_keepPacket_83 (by decide) (fun hc83 => ?_) (fun hc83 => ?_)
        · refine J_iinc C d_Mod_keepPacket_87 rfl (v := nI (k + 1)) (nI_1 _) (by decide) rfl ?_
          refine J_goto C 36 d_Mod_keepPacket_90 (by decide) ?_
          refine J_bipush C d_Mod_keepPacket_36 (v := nI 20) rfl ?_
          refine J_iload C d_Mod_keepPacket_38 rfl ?_
          refine J_imulN C d_Mod_keepPacket_40 ?_
          refine J_iload_n C 3 d_Mod_keepPacket_41 rfl rfl ?_
          refine J_icmpN_ge C 93 d_Mod_keepPacket_42 (by decide) (by omega) (by omega) (fun hc42 => ?_) (fun hc42 => ?_)
          · rw [if_neg hc51] at hF
            refine hex _ (b + 1) (k + 1) (rWrM_1 hc83) (by rw [fWrM_k _ (by decide) (by decide) (by decide)]; simp [mu, va_up]; exact hcn) ?_
            rw [scB_stop _ _ _ _ _ _ _ (Or.inl (by omega))] at hF
            exact hF
          · rw [if_neg hc51] at hF
            exact ih (b + 1) (k + 1) _ (by omega) (by omega) (by intro x hx; rw [fWrM_p _ (by decide), mu_row]; simp only [upd]; rw [if_neg (by omega)]; exact hq x hx) (by rw [fWrM_k _ (by decide) (by decide) (by decide)]; simp [mu, va_up]; exact hcn) (rWrM_1 hc83) (by omega) (by omega) hF
        · exact F_ret C hr (by rw [if_neg hc51, scB_stop _ _ _ _ _ _ _ (Or.inr (rWrM_0 hc83))] at hF; unfold fKp1 at hF; rw [if_neg (rWrM_0 hc83)] at hF; exact hF) d_Mod_keepPacket_86
      · refine J_iinc C d_Mod_keepPacket_54 rfl (v := nI (b + 1)) (nI_1 _) (by decide) rfl ?_
        refine J_goto C 45 d_Mod_keepPacket_57 (by decide) ?_
        rw [if_pos hc51] at hF
        exact ih (b + 1) k X (by omega) (by omega) hq hcn ho hk (by omega) hF
  exact lp 25 0 0 _ (by omega) (by omega) (by intro x hx; simp only [mu_row, upd]; rw [if_neg (by omega), if_neg (by omega), if_neg (by omega)]) (by simp [mu, va_up]; exact hcn) (by simp [mu, va_up]; exact ho) (by omega) (by show _ + 0 ≤ 0 + _; omega) hM9
