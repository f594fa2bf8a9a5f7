def wbS (j n st b k : Nat) (M : Mem) : Mem := fWr (mu (ma M 4 (va_cpy (M 57) (M 4) (st + 20 * k) (b * 20) (min 20 (n - 20 * k)))) (8 + 2 * j) k (nI b))
def wbM (j n st : Nat) : Nat → Nat → Nat → Mem → Mem
  | 0, _, _, M => M
  | r + 1, b, k, M => if n ≤ 20 * k then M else if M 3 9 = 0 then (if M 5 b = 0 then wbM j n st r (b + 1) (k + 1) (wbS j n st b k M) else wbM j n st r (b + 1) k M) else M
theorem wbS_p (j n st b k : Nat) (M : Mem) {p : Nat} (h1 : p ≠ 3) (h2 : p ≠ 4) (h3 : p ≠ 8 + 2 * j) : wbS j n st b k M p = M p := by unfold wbS; rw [fWr_p _ h1, mu_p _ _ _ h3, ma_p _ _ h2]
theorem wbM_p (j n st : Nat) : ∀ (r b k : Nat) (M : Mem) {p : Nat}, p ≠ 3 → p ≠ 4 → p ≠ 8 + 2 * j → wbM j n st r b k M p = M p
  | 0, _, _, _, _, _, _, _ => rfl
  | r + 1, b, k, M, p, h1, h2, h3 => by
    unfold wbM
    (repeat' split)
    · rfl
    · rw [wbM_p j n st r _ _ _ h1 h2 h3, wbS_p _ _ _ _ _ _ h1 h2 h3]
    · exact wbM_p j n st r _ _ _ h1 h2 h3
    · rfl
theorem wbM_stop (j n st r b k : Nat) (M : Mem) (h : n ≤ 20 * k ∨ ¬ M 3 9 = 0) : wbM j n st r b k M = M := by
  cases r with
  | zero => rfl
  | succ r =>
    unfold wbM
    rcases h with h | h
    · rw [if_pos h]
    · split
      · rfl
      · rfl
set_option maxHeartbeats 4000000 in
set_option maxRecDepth 100000 in
theorem f_writeBlocks (l : Launch) (D : va_G) (dA : Nat → ClassId) (M : Mem) (j n st : Nat) (hj : j < 24) (hL : M (7 + 2 * j) 2 = nI n) (hn : n ≤ 60) (hst : st + n ≤ 60) : CF l D dA k_Sto_writeBlocks 1 [.ref 3, .ref (7 + 2 * j), .ref 57, .int (nI st)] M (none) (wbM j n st 24 0 0 M) := by
  refine CF.of (by decide +kernel) (Nat.le_of_ble_eq_true rfl) (by intro v hv; simp only [List.mem_cons, List.not_mem_nil, or_false] at hv; rcases hv with rfl | rfl | rfl | rfl <;> rfl) ?_
  intro A ad0 p e s m args below meth c C hr
  refine J_iconst C d_Sto_writeBlocks_0 (v := nI 0) rfl ?_
  refine J_istore C d_Sto_writeBlocks_1 (by decide) rfl ?_
  refine J_iconst C d_Sto_writeBlocks_3 (v := nI 0) rfl ?_
  refine J_istore C d_Sto_writeBlocks_4 (by decide) rfl ?_
  generalize hM9 : wbM j n st 24 0 0 M = M9
  have lp : ∀ (fu : Nat) (b : Nat) (k : Nat) (M : Mem), 24 - b < fu → (b ≤ 24) → (k ≤ b) → (M (7 + 2 * j) 2 = nI n) → (wbM j n st (24 - b) b k M = M9) → J D dA A (fun _ _ => True) ad0 90 k_Sto_writeBlocks.2.2.1 p l e (zR 1 0 0) s m args below meth c (FQ D dA A ad0 below args s (none) (M9)) 6 [some (.ref 3), some (.ref (7 + 2 * j)), some (.ref 57), some (.int (nI st)), some (.int (nI (20 * k))), some (.int (nI b)), none] [] (E M) 90 0 0 := by
    intro fu
    induction fu with
    | zero => intro b k M hfu; exact absurd hfu (Nat.not_lt_zero _)
    | succ fu ih =>
      intro b k M hfu hb hkb hL hF
      refine J_iload C d_Sto_writeBlocks_6 rfl ?_
      refine J_bipush C d_Sto_writeBlocks_8 (v := nI 24) rfl ?_
      refine J_icmpN_ge C 97 d_Sto_writeBlocks_10 (by decide) (by omega) (by omega) (fun hc10 => ?_) (fun hc10 => ?_)
      · exact F_ret C hr (by rw [show 24 - b = 0 by omega] at hF; exact hF) d_Sto_writeBlocks_97
      · refine J_iload C d_Sto_writeBlocks_13 rfl ?_
        refine J_aload_n C 1 d_Sto_writeBlocks_15 rfl rfl ?_
        refine J_get C f_Sto_61 (by omega) (e_pk _ (by omega)) rfl d_Sto_writeBlocks_16 ?_
        refine J_val (y := nI n) hL ?_
        refine J_icmpN_ge C 97 d_Sto_writeBlocks_19 (by decide) (by omega) (by omega) (fun hc19 => ?_) (fun hc19 => ?_)
        · exact F_ret C hr (by rw [wbM_stop _ _ _ _ _ _ _ (Or.inl (by omega))] at hF; exact hF) d_Sto_writeBlocks_97
        · refine J_aload_n C 0 d_Sto_writeBlocks_22 rfl rfl ?_
          refine J_get C f_Sto_42 (by decide) (e_3 _) rfl d_Sto_writeBlocks_23 ?_
          refine J_if_ne C 97 d_Sto_writeBlocks_26 (by decide) (fun hc26 => ?_) (fun hc26 => ?_)
          · exact F_ret C hr (by rw [wbM_stop _ _ _ _ _ _ _ (Or.inr hc26)] at hF; exact hF) d_Sto_writeBlocks_97
          · rw [show 24 - b = (24 - (b + 1)) + 1 by omega] at hF
            unfold wbM at hF
            rw [if_neg (by omega), if_pos hc26] at hF
            refine J_aload_n C 0 d_Sto_writeBlocks_29 rfl rfl ?_
            refine J_get C f_Sto_13 (by decide) (e_3 _) rfl d_Sto_writeBlocks_30 ?_
            refine J_iload C d_Sto_writeBlocks_33 rfl ?_
            refine K_bal C a_5 (j := b) rfl (by omega) d_Sto_writeBlocks_35 ?_
            refine J_if_ne C 91 d_Sto_writeBlocks_36 (by decide) (fun hc36 => ?_) (fun hc36 => ?_)
            · refine J_iinc C d_Sto_writeBlocks_91 rfl (v := nI (b + 1)) (nI_1 _) (by decide) rfl ?_
              refine J_goto C 6 d_Sto_writeBlocks_94 (by decide) ?_
              rw [if_neg hc36] at hF
              exact ih (b + 1) k M (by omega) (by omega) (by omega) hL hF
            · refine J_bipush C d_Sto_writeBlocks_39 (v := nI 20) rfl ?_
              refine J_aload_n C 1 d_Sto_writeBlocks_41 rfl rfl ?_
              refine J_get C f_Sto_61 (by omega) (e_pk _ (by omega)) rfl d_Sto_writeBlocks_42 ?_
              refine J_val (y := nI n) hL ?_
              refine J_iload C d_Sto_writeBlocks_45 rfl ?_
              refine J_isubN C d_Sto_writeBlocks_47 (by omega) ?_
              refine J_mmin C m_Sto_82 ms_min mi_Math mc_min (Nat.le_of_ble_eq_true rfl) (by decide) d_Sto_writeBlocks_48 ?_
              refine J_val (y := nI (min 20 (n - 20 * k))) (nI_min (by omega) (by omega)) ?_
              refine J_istore C d_Sto_writeBlocks_51 (by decide) rfl ?_
              refine J_aload_n C 2 d_Sto_writeBlocks_53 rfl rfl ?_
              refine J_iload_n C 3 d_Sto_writeBlocks_54 rfl rfl ?_
              refine J_iload C d_Sto_writeBlocks_55 rfl ?_
              refine J_iaddN C d_Sto_writeBlocks_57 ?_
              refine J_aload_n C 0 d_Sto_writeBlocks_58 rfl rfl ?_
              refine J_get C f_Sto_9 (by decide) (e_3 _) rfl d_Sto_writeBlocks_59 ?_
              refine J_iload C d_Sto_writeBlocks_62 rfl ?_
              refine J_bipush C d_Sto_writeBlocks_64 (v := nI 20) rfl ?_
              refine J_imulN C d_Sto_writeBlocks_66 ?_
              refine J_iload C d_Sto_writeBlocks_67 rfl ?_
              refine K_copy C m_Sto_88 mn_copy ms_copy mi_Sys a_57 a_4 (by omega) (by omega) (Nat.le_of_ble_eq_true rfl) d_Sto_writeBlocks_69 (k := ?_)
              refine J_aload_n C 1 d_Sto_writeBlocks_72 rfl rfl ?_
              refine J_get C f_Sto_47 (by omega) (e_pk _ (by omega)) rfl d_Sto_writeBlocks_73 ?_
              refine J_iload C d_Sto_writeBlocks_76 rfl ?_
              refine J_bipush C d_Sto_writeBlocks_78 (v := nI 20) rfl ?_
              refine J_idivN C d_Sto_writeBlocks_80 (by omega) (by omega) (by omega) ?_
              refine J_val (y := nI k) (congrArg nI (by omega)) ?_
              refine J_iload C d_Sto_writeBlocks_81 rfl ?_
              refine K_ias C (a_pb (by omega)) (j := k) rfl (by omega) d_Sto_writeBlocks_83 (kk := ?_)
              refine J_iinc C d_Sto_writeBlocks_84 rfl (v := nI (20 * (k + 1))) (by rw [show 20 * (k + 1) = 20 * k + 20 by omega]; exact nI_add _ _) (by decide) rfl ?_
              refine J_aload_n C 0 d_Sto_writeBlocks_87 rfl rfl ?_
              refine F_callV C (as := []) (st := []) (f_write l D dA (mu (ma M 4 (va_cpy (M 57) (M 4) (st + (20 * k)) (b * 20) (min 20 (n - 20 * k)))) (8 + 2 * j) k (nI b))) l_Sto_94 v_Sto_write (by decide) (e_3 _) rfl (by decide) (by decide) (Nat.le_of_ble_eq_true rfl) d_Sto_writeBlocks_88 (kk := ?_)
              refine J_iinc C d_Sto_writeBlocks_91 rfl (v := nI (b + 1)) (nI_1 _) (by decide) rfl ?_
              refine J_goto C 6 d_Sto_writeBlocks_94 (by decide) ?_
              rw [if_pos hc36] at hF
              refine J_lv (lv' := [some (.ref 3), some (.ref (7 + 2 * j)), some (.ref 57), some (.int (nI st)), some (.int (nI (20 * (k + 1)))), some (.int (nI (b + 1))), none]) (by intro i v hv; match i, hv with | 0, hv => exact hv | 1, hv => exact hv | 2, hv => exact hv | 3, hv => exact hv | 4, hv => exact hv | 5, hv => exact hv | 6, hv => simp at hv | _ + 7, hv => simp at hv) ?_
              exact ih (b + 1) (k + 1) _ (by omega) (by omega) (by omega) (by rw [fWr_p _ (by omega), mu_p _ _ _ (by omega), ma_p _ _ (by omega)]; exact hL) hF
  exact lp 25 0 0 M (by omega) (by omega) (by omega) hL hM9

def pkS (M : Mem) (j n st : Nat) : Mem := mu (mu (mu M (7 + 2 * j) 2 (nI n)) (7 + 2 * j) 3 ((M 57 st &&& nI 7) * nI 256 + M 57 (st + 1))) (7 + 2 * j) 4 (nI 0)
def adW (M : Mem) (j n st : Nat) : Mem := fRen (wbM j n st 24 0 0 (pkS M j n st))
def bkO (M : Mem) (j k : Nat) : Nat := (M (8 + 2 * j) k).toNatClampNeg
def fAdd (M : Mem) (j n st f : Nat) : Mem := fEA (adW M j n st) j n f (bkO (adW M j n st) j)
theorem fRen_p (M : Mem) {p : Nat} (h : p ≠ 3) : fRen M p = M p := by unfold fRen; (repeat' split); rfl; rw [fWr_p _ h, mu_p _ _ _ h]; rfl
theorem fRen_k (M : Mem) {k : Nat} (h6 : k ≠ 6) (h7 : k ≠ 7) (h8 : k ≠ 8) (h9 : k ≠ 9) : fRen M 3 k = M 3 k := by unfold fRen; (repeat' split); rfl; rw [fWr_k _ h7 h8 h9, mu_k _ _ _ h6]; rfl
theorem pkS_p (M : Mem) (j n st : Nat) {p : Nat} (h : p ≠ 7 + 2 * j) : pkS M j n st p = M p := by unfold pkS; rw [mu_p _ _ _ h, mu_p _ _ _ h, mu_p _ _ _ h]
theorem wbS_k (j n st b k : Nat) (M : Mem) {x : Nat} (h7 : x ≠ 7) (h8 : x ≠ 8) (h9 : x ≠ 9) : wbS j n st b k M 3 x = M 3 x := by unfold wbS; rw [fWr_k _ h7 h8 h9, mu_p _ _ _ (by omega), ma_p _ _ (by decide)]
theorem wbM_k (j n st : Nat) : ∀ (r b k : Nat) (M : Mem) {x : Nat}, x ≠ 7 → x ≠ 8 → x ≠ 9 → wbM j n st r b k M 3 x = M 3 x
  | 0, _, _, _, _, _, _, _ => rfl
  | r + 1, b, k, M, x, h1, h2, h3 => by
    unfold wbM
    (repeat' split)
    · rfl
    · rw [wbM_k j n st r _ _ _ h1 h2 h3, wbS_k _ _ _ _ _ _ h1 h2 h3]
    · exact wbM_k j n st r _ _ _ h1 h2 h3
    · rfl
/-- every number of a block that a packet's place holds is one of a block -/
def okB (M : Mem) (j : Nat) : Prop := ∀ k, k < 3 → ∃ b, b < 24 ∧ M (8 + 2 * j) k = nI b
theorem okB.b {M : Mem} {j : Nat} (h : okB M j) {k : Nat} (hk : k < 3) : M (8 + 2 * j) k = nI (bkO M j k) ∧ bkO M j k < 24 := by
  obtain ⟨b, h1, h2⟩ := h k hk
  have e : bkO M j k = b := by unfold bkO; rw [h2, nI_clamp (by omega)]
  rw [e]; exact ⟨h2, h1⟩
theorem okB.wbS {j n st b k : Nat} {M : Mem} (h : okB M j) (hb : b < 24) : okB (wbS j n st b k M) j := fun x hx => by
  show ∃ y, y < 24 ∧ fWr _ (8 + 2 * j) x = nI y
  rw [fWr_p _ (by omega)]
  by_cases q : x = k
  · rw [q]; exact ⟨b, hb, mu_same _ _ _ _⟩
  · rw [mu_k _ _ _ q, ma_p _ _ (by omega)]; exact h x hx
theorem okB.wbM {j n st : Nat} : ∀ (r b k : Nat) (M : Mem), b + r ≤ 24 → okB M j → okB (wbM j n st r b k M) j
  | 0, _, _, _, _, h => h
  | r + 1, b, k, M, hb, h => by
    show okB (if n ≤ 20 * k then M else _) j
    by_cases h1 : n ≤ 20 * k
    · rw [if_pos h1]; exact h
    rw [if_neg h1]
    by_cases h2 : M 3 9 = 0
    · rw [if_pos h2]
      by_cases h3 : M 5 b = 0
      · rw [if_pos h3]; exact okB.wbM r _ _ _ (by omega) (h.wbS (by omega))
      · rw [if_neg h3]; exact okB.wbM r _ _ _ (by omega) h
    · rw [if_neg h2]; exact h
theorem okB.adW {j n st : Nat} {M : Mem} (h : okB M j) : okB (adW M j n st) j := fun x hx => by
  show ∃ y, y < 24 ∧ fRen _ (8 + 2 * j) x = nI y
  rw [fRen_p _ (by omega)]
  exact okB.wbM 24 0 0 (pkS M j n st) (by omega) (fun x hx => by rw [pkS_p _ _ _ _ (by omega)]; exact h x hx) x hx
set_option maxHeartbeats 4000000 in
set_option maxRecDepth 100000 in
theorem f_add (l : Launch) (D : va_G) (dA : Nat → ClassId) (M : Mem) (n st c0 f : Nat) (hcn : M 3 3 = nI c0) (hc24 : c0 ≤ 24) (hf : M 3 4 = nI f) (hf2 : f ≤ 24) (h7 : 7 ≤ n) (hn : n ≤ 60) (hst : st + n ≤ 60) (j : Nat) (ho : M 3 9 = 0) (hlt : c0 < 24) (hr : (n + 20 - 1) / 20 ≤ f) (hj : j < 24) (hq : M 6 c0 = nI j) (hok : okB M j) : CF l D dA k_Sto_add 3 [.ref 3, .ref 57, .int (nI st), .int (nI n)] M (none) (fAdd M j n st f) := by
  refine CF.of (by decide +kernel) (Nat.le_of_ble_eq_true rfl) (by intro v hv; simp only [List.mem_cons, List.not_mem_nil, or_false] at hv; rcases hv with rfl | rfl | rfl | rfl <;> rfl) ?_
  intro A ad0 p e s m args below meth c C hr
  refine J_aload_n C 0 d_Sto_add_0 rfl rfl ?_
  refine J_get C f_Sto_42 (by decide) (e_3 _) rfl d_Sto_add_1 ?_
  refine J_if_ne C 27 d_Sto_add_4 (by decide) (fun hc4 => absurd ho hc4) (fun hc4 => ?_)
  refine J_aload_n C 0 d_Sto_add_7 rfl rfl ?_
  refine J_get C f_Sto_23 (by decide) (e_3 _) rfl d_Sto_add_8 ?_
  refine J_val (y := nI c0) hcn ?_
  refine J_bipush C d_Sto_add_11 (v := nI 24) rfl ?_
  refine J_icmpN_ge C 27 d_Sto_add_13 (by decide) (by omega) (by omega) (fun hc13 => absurd hc13 (by omega)) (fun hc13 => ?_)
  refine J_aload_n C 0 d_Sto_add_16 rfl rfl ?_
  refine J_iload_n C 3 d_Sto_add_17 rfl rfl ?_
  refine P_callS C (as := [.int (nI n)]) (st := [.ref 3]) (p_blocksFor l D dA M n (by omega)) l_Sto_53 s_Sto_blocksFor rfl (by decide) (by decide) (by decide) (Nat.le_of_ble_eq_true rfl) d_Sto_add_18 (kk := ?_)
  refine P_callV C (as := [.int (nI ((n + 20 - 1) / 20))]) (st := []) (p_hasRoom l D dA M ((n + 20 - 1) / 20) f hf (by omega) (by omega)) l_Sto_57 v_Sto_hasRoom (by decide) (e_3 _) rfl (by decide) (by decide) (by decide) (Nat.le_of_ble_eq_true rfl) d_Sto_add_21 (kk := ?_)
  refine J_if_ne C 28 d_Sto_add_24 (by decide) (fun _ => ?_) (fun q24 => absurd q24 (by rw [if_neg (by omega)]; decide))
  refine J_aload_n C 0 d_Sto_add_28 rfl rfl ?_
  refine J_get C f_Sto_19 (by decide) (e_3 _) rfl d_Sto_add_29 ?_
  refine J_aload_n C 0 d_Sto_add_32 rfl rfl ?_
  refine J_get C f_Sto_23 (by decide) (e_3 _) rfl d_Sto_add_33 ?_
  refine J_val (y := nI c0) hcn ?_
  refine K_pkld C (j := c0) (x := j) rfl (by omega) hq (by omega) d_Sto_add_36 ?_
  refine J_astore C d_Sto_add_37 (by decide) rfl ?_
  refine J_aload C d_Sto_add_39 rfl ?_
  refine J_iload_n C 3 d_Sto_add_41 rfl rfl ?_
  refine K_putI C f_Sto_61 (by omega) (e_pk _ (by omega)) (Nat.le_of_ble_eq_true rfl) (Ec_pk (by omega) _) d_Sto_add_42 (kk := ?_)
  refine J_aload C d_Sto_add_45 rfl ?_
  refine J_aload_n C 1 d_Sto_add_47 rfl rfl ?_
  refine J_iload_n C 2 d_Sto_add_48 rfl rfl ?_
  refine K_ial C a_57 (j := st) rfl (by omega) d_Sto_add_49 ?_
  refine J_val (y := M 57 st) (by simp [mu, ma, va_up, upd, show ¬ (57 : Nat) = 7 + 2 * j by omega]) ?_
  refine J_bipush C d_Sto_add_50 (v := nI 7) rfl ?_
  refine J_iand C d_Sto_add_52 ?_
  refine J_sipush C d_Sto_add_53 (v := nI 256) rfl ?_
  refine J_imul C d_Sto_add_56 ?_
  refine J_aload_n C 1 d_Sto_add_57 rfl rfl ?_
  refine J_iload_n C 2 d_Sto_add_58 rfl rfl ?_
  refine J_iconst C d_Sto_add_59 (v := nI 1) rfl ?_
  refine J_iaddN C d_Sto_add_60 ?_
  refine K_ial C a_57 (j := st + 1) rfl (by omega) d_Sto_add_61 ?_
  refine J_val (y := M 57 (st + 1)) (by simp [mu, ma, va_up, upd, show ¬ (57 : Nat) = 7 + 2 * j by omega]) ?_
  refine J_iadd C d_Sto_add_62 ?_
  refine K_putI C f_Sto_64 (by omega) (e_pk _ (by omega)) (Nat.le_of_ble_eq_true rfl) (Ec_pk (by omega) _) d_Sto_add_63 (kk := ?_)
  refine J_aload C d_Sto_add_66 rfl ?_
  refine J_iconst C d_Sto_add_68 (v := nI 0) rfl ?_
  refine K_putI C f_Sto_50 (by omega) (e_pk _ (by omega)) (Nat.le_of_ble_eq_true rfl) (Ec_pk (by omega) _) d_Sto_add_69 (kk := ?_)
  refine J_mem (M2 := pkS M j n st) rfl ?_
  refine J_aload_n C 0 d_Sto_add_72 rfl rfl ?_
  refine J_aload C d_Sto_add_73 rfl ?_
  refine J_aload_n C 1 d_Sto_add_75 rfl rfl ?_
  refine J_iload_n C 2 d_Sto_add_76 rfl rfl ?_
  refine F_callV C (as := [.ref (7 + 2 * j), .ref 57, .int (nI st)]) (st := []) (f_writeBlocks l D dA (pkS M j n st) j n st hj (by unfold pkS; rw [mu_k _ _ _ (by decide), mu_k _ _ _ (by decide), mu_same]) hn hst) l_Sto_67 v_Sto_writeBlocks (by decide) (e_3 _) rfl (by decide) (by decide) (Nat.le_of_ble_eq_true rfl) d_Sto_add_77 (kk := ?_)
  refine J_aload_n C 0 d_Sto_add_80 rfl rfl ?_
  refine F_callV C (as := []) (st := []) (f_renew l D dA (wbM j n st 24 0 0 (pkS M j n st))) l_Sto_71 v_Sto_renewFullJournal (by decide) (e_3 _) rfl (by decide) (by decide) (Nat.le_of_ble_eq_true rfl) d_Sto_add_81 (kk := ?_)
  refine J_mem (M2 := adW M j n st) rfl ?_
  refine J_aload_n C 0 d_Sto_add_84 rfl rfl ?_
  refine J_aload C d_Sto_add_85 rfl ?_
  refine F_callV C (as := [.ref (7 + 2 * j)]) (st := []) (f_enterAdded l D dA (adW M j n st) j n f (bkO (adW M j n st) j) hj (by unfold adW; rw [fRen_p _ (by omega), wbM_p _ _ _ _ _ _ _ (by omega) (by omega) (by omega)]; unfold pkS; rw [mu_k _ _ _ (by decide), mu_k _ _ _ (by decide), mu_same]) hn (fun k hk => (hok.adW.b (show k < 3 by omega)).1) (fun k hk => (hok.adW.b (show k < 3 by omega)).2) (by unfold adW; rw [fRen_k _ (by decide) (by decide) (by decide) (by decide), wbM_k _ _ _ _ _ _ _ (by decide) (by decide) (by decide), pkS_p _ _ _ _ (by omega)]; exact hf) hf2 (by omega)) l_Sto_74 v_Sto_enterAdded (by decide) (e_3 _) rfl (by decide) (by decide) (Nat.le_of_ble_eq_true rfl) d_Sto_add_87 (kk := ?_)
  exact F_ret C hr rfl d_Sto_add_90

set_option maxHeartbeats 4000000 in
set_option maxRecDepth 100000 in
theorem f_add0 (l : Launch) (D : va_G) (dA : Nat → ClassId) (M : Mem) (n st c0 f : Nat) (hcn : M 3 3 = nI c0) (hc24 : c0 ≤ 24) (hf : M 3 4 = nI f) (hf2 : f ≤ 24) (h7 : 7 ≤ n) (hn : n ≤ 60) (hst : st + n ≤ 60) (hno : ¬ M 3 9 = 0 ∨ c0 = 24 ∨ f < (n + 20 - 1) / 20) : CF l D dA k_Sto_add 3 [.ref 3, .ref 57, .int (nI st), .int (nI n)] M (none) (M) := by
  refine CF.of (by decide +kernel) (Nat.le_of_ble_eq_true rfl) (by intro v hv; simp only [List.mem_cons, List.not_mem_nil, or_false] at hv; rcases hv with rfl | rfl | rfl | rfl <;> rfl) ?_
  intro A ad0 p e s m args below meth c C hr
  refine J_aload_n C 0 d_Sto_add_0 rfl rfl ?_
  refine J_get C f_Sto_42 (by decide) (e_3 _) rfl d_Sto_add_1 ?_
  refine J_if_ne C 27 d_Sto_add_4 (by decide) (fun hc4 => ?_) (fun hc4 => ?_)
  · exact F_ret C hr rfl d_Sto_add_27
  · refine J_aload_n C 0 d_Sto_add_7 rfl rfl ?_
    refine J_get C f_Sto_23 (by decide) (e_3 _) rfl d_Sto_add_8 ?_
    refine J_val (y := nI c0) hcn ?_
    refine J_bipush C d_Sto_add_11 (v := nI 24) rfl ?_
    refine J_icmpN_ge C 27 d_Sto_add_13 (by decide) (by omega) (by omega) (fun hc13 => ?_) (fun hc13 => ?_)
    · exact F_ret C hr rfl d_Sto_add_27
    · refine J_aload_n C 0 d_Sto_add_16 rfl rfl ?_
      refine J_iload_n C 3 d_Sto_add_17 rfl rfl ?_
      refine P_callS C (as := [.int (nI n)]) (st := [.ref 3]) (p_blocksFor l D dA M n (by omega)) l_Sto_53 s_Sto_blocksFor rfl (by decide) (by decide) (by decide) (Nat.le_of_ble_eq_true rfl) d_Sto_add_18 (kk := ?_)
      refine P_callV C (as := [.int (nI ((n + 20 - 1) / 20))]) (st := []) (p_hasRoom l D dA M ((n + 20 - 1) / 20) f hf (by omega) (by omega)) l_Sto_57 v_Sto_hasRoom (by decide) (e_3 _) rfl (by decide) (by decide) (by decide) (Nat.le_of_ble_eq_true rfl) d_Sto_add_21 (kk := ?_)
      refine J_if_ne C 28 d_Sto_add_24 (by decide) (fun hc24' => ?_) (fun hc24' => ?_)
      · exact absurd hno (by rintro (h | h | h); exact h hc4; omega; exact hc24' (if_pos h))
      · exact F_ret C hr rfl d_Sto_add_27
