theorem nI_addneg {a b : Nat} (h : b ≤ a) : nI a + -nI b = nI (a - b) := by rw [← Int32.sub_eq_add_neg, pk_sub h]
def fWr (M : Mem) : Mem := if M 3 8 ≤ 0 then mu M 3 7 (M 3 7 + nI 1) else mu (mu (mu M 3 7 (M 3 7 + nI 1)) 3 8 (M 3 8 - nI 1)) 3 9 (if M 3 8 - nI 1 = 0 then nI 1 else nI 0)
theorem fWr_p (M : Mem) {p : Nat} (h : p ≠ 3) : fWr M p = M p := by unfold fWr; split <;> simp [mu, va_up, h]
theorem fWr_k (M : Mem) {k : Nat} (h7 : k ≠ 7) (h8 : k ≠ 8) (h9 : k ≠ 9) : fWr M 3 k = M 3 k := by unfold fWr; split <;> simp [mu, va_up, upd, h7, h8, h9]
set_option maxHeartbeats 4000000 in
set_option maxRecDepth 100000 in
theorem f_write (l : Launch) (D : va_G) (dA : Nat → ClassId) (M : Mem) : CF l D dA k_Sto_write 0 [.ref 3] M (none) (fWr M) := by
  refine CF.of (by decide +kernel) (Nat.le_of_ble_eq_true rfl) (by intro v hv; simp only [List.mem_cons, List.not_mem_nil, or_false] at hv; rcases hv with rfl <;> rfl) ?_
  intro A ad0 p e s m args below meth c C hr
  refine J_aload_n C 0 d_Sto_write_0 rfl rfl ?_
  refine J_dup C d_Sto_write_1 rfl ?_
  refine J_get C f_Sto_36 (by decide) (e_3 _) rfl d_Sto_write_2 ?_
  refine J_iconst C d_Sto_write_5 (v := nI 1) rfl ?_
  refine J_iadd C d_Sto_write_6 ?_
  refine K_putI C f_Sto_36 (by decide) (e_3 _) (Nat.le_of_ble_eq_true rfl) rfl d_Sto_write_7 (kk := ?_)
  refine J_aload_n C 0 d_Sto_write_10 rfl rfl ?_
  refine J_get C f_Sto_39 (by decide) (e_3 _) rfl d_Sto_write_11 ?_
  refine J_val (y := M 3 8) rfl ?_
  refine J_if_le C 43 d_Sto_write_14 (by decide) (fun hc14 => ?_) (fun hc14 => ?_)
  · exact F_ret C hr (by unfold fWr; (repeat' split) <;> first | contradiction | (exfalso; omega) | rfl) d_Sto_write_43
  · refine J_aload_n C 0 d_Sto_write_17 rfl rfl ?_
    refine J_dup C d_Sto_write_18 rfl ?_
    refine J_get C f_Sto_39 (by decide) (e_3 _) rfl d_Sto_write_19 ?_
    refine J_val (y := M 3 8) rfl ?_
    refine J_iconst C d_Sto_write_22 (v := nI 1) rfl ?_
    refine J_isub C d_Sto_write_23 ?_
    refine K_putI C f_Sto_39 (by decide) (e_3 _) (Nat.le_of_ble_eq_true rfl) rfl d_Sto_write_24 (kk := ?_)
    refine J_aload_n C 0 d_Sto_write_27 rfl rfl ?_
    refine J_aload_n C 0 d_Sto_write_28 rfl rfl ?_
    refine J_get C f_Sto_39 (by decide) (e_3 _) rfl d_Sto_write_29 ?_
    refine J_val (y := (M 3 8) - (nI 1)) rfl ?_
    refine J_if_ne C 39 d_Sto_write_32 (by decide) (fun hc32 => ?_) (fun hc32 => ?_)
    · refine J_iconst C d_Sto_write_39 (v := nI 0) rfl ?_
      refine K_putZ C f_Sto_42 (by decide) (e_3 _) (Nat.le_of_ble_eq_true rfl) (Or.inl rfl) rfl d_Sto_write_40 (kk := ?_)
      exact F_ret C hr (by unfold fWr; (repeat' split) <;> first | contradiction | (exfalso; omega) | rfl) d_Sto_write_43
    · refine J_iconst C d_Sto_write_35 (v := nI 1) rfl ?_
      refine J_goto C 40 d_Sto_write_36 (by decide) ?_
      refine K_putZ C f_Sto_42 (by decide) (e_3 _) (Nat.le_of_ble_eq_true rfl) (Or.inr rfl) rfl d_Sto_write_40 (kk := ?_)
      exact F_ret C hr (by unfold fWr; (repeat' split) <;> first | contradiction | (exfalso; omega) | rfl) d_Sto_write_43

def fRen (M : Mem) : Mem := if M 3 9 = 0 then (if M 3 6 < nI 40 then M else fWr (mu M 3 6 (M 3 3))) else M
set_option maxHeartbeats 4000000 in
set_option maxRecDepth 100000 in
theorem f_renew (l : Launch) (D : va_G) (dA : Nat → ClassId) (M : Mem) : CF l D dA k_Sto_renewFullJournal 1 [.ref 3] M (none) (fRen M) := by
  refine CF.of (by decide +kernel) (Nat.le_of_ble_eq_true rfl) (by intro v hv; simp only [List.mem_cons, List.not_mem_nil, or_false] at hv; rcases hv with rfl <;> rfl) ?_
  intro A ad0 p e s m args below meth c C hr
  refine J_aload_n C 0 d_Sto_renewFullJournal_0 rfl rfl ?_
  refine J_get C f_Sto_42 (by decide) (e_3 _) rfl d_Sto_renewFullJournal_1 ?_
  refine J_if_ne C 28 d_Sto_renewFullJournal_4 (by decide) (fun hc4 => ?_) (fun hc4 => ?_)
  · exact F_ret C hr (by unfold fRen; (repeat' split) <;> first | contradiction | (exfalso; omega) | rfl) d_Sto_renewFullJournal_28
  · refine J_aload_n C 0 d_Sto_renewFullJournal_7 rfl rfl ?_
    refine J_get C f_Sto_33 (by decide) (e_3 _) rfl d_Sto_renewFullJournal_8 ?_
    refine J_bipush C d_Sto_renewFullJournal_11 (v := nI 40) rfl ?_
    refine J_icmp_lt C 28 d_Sto_renewFullJournal_13 (by decide) (fun hc13 => ?_) (fun hc13 => ?_)
    · exact F_ret C hr (by unfold fRen; (repeat' split) <;> first | contradiction | (exfalso; omega) | rfl) d_Sto_renewFullJournal_28
    · refine J_aload_n C 0 d_Sto_renewFullJournal_16 rfl rfl ?_
      refine J_aload_n C 0 d_Sto_renewFullJournal_17 rfl rfl ?_
      refine J_get C f_Sto_23 (by decide) (e_3 _) rfl d_Sto_renewFullJournal_18 ?_
      refine K_putI C f_Sto_33 (by decide) (e_3 _) (Nat.le_of_ble_eq_true rfl) rfl d_Sto_renewFullJournal_21 (kk := ?_)
      refine J_aload_n C 0 d_Sto_renewFullJournal_24 rfl rfl ?_
      refine F_callV C (as := []) (st := []) (f_write l D dA (mu M 3 6 (M 3 3))) l_Sto_94 v_Sto_write (by decide) (e_3 _) rfl (by decide) (by decide) (Nat.le_of_ble_eq_true rfl) d_Sto_renewFullJournal_25 (kk := ?_)
      exact F_ret C hr (by unfold fRen; (repeat' split) <;> first | contradiction | (exfalso; omega) | rfl) d_Sto_renewFullJournal_28

def mkB (M : Mem) (b : Nat → Nat) (z : Int32) : Nat → Mem
  | 0 => M
  | k + 1 => mu (mkB M b z k) 5 (b k) z
theorem mkB_p (M : Mem) (b : Nat → Nat) (z : Int32) (k : Nat) {p : Nat} (h : p ≠ 5) : mkB M b z k p = M p := by
  induction k with
  | zero => rfl
  | succ k ih => unfold mkB; rw [mu_p _ _ _ h]; exact ih
set_option maxHeartbeats 4000000 in
set_option maxRecDepth 100000 in
theorem f_mark1 (l : Launch) (D : va_G) (dA : Nat → ClassId) (M : Mem) (j L f : Nat) (b : Nat → Nat) (hj : j < 24) (hL : M (7 + 2 * j) 2 = nI L) (hL2 : L ≤ 60) (hb : ∀ k, k < (L + 20 - 1) / 20 → M (8 + 2 * j) k = nI (b k)) (hb2 : ∀ k, k < (L + 20 - 1) / 20 → b k < 24) (hf : M 3 4 = nI f) (hf2 : f ≤ 24) (hf3 : (L + 20 - 1) / 20 ≤ f) : CF l D dA k_Sto_markBlocks 1 [.ref 3, .ref (7 + 2 * j), .int (nI 1)] M (none) (mu (mkB M b (nI 1) ((L + 20 - 1) / 20)) 3 4 (nI (f - (L + 20 - 1) / 20))) := by
  refine CF.of (by decide +kernel) (Nat.le_of_ble_eq_true rfl) (by intro v hv; simp only [List.mem_cons, List.not_mem_nil, or_false] at hv; rcases hv with rfl | rfl | rfl <;> rfl) ?_
  intro A ad0 p e s m args below meth c C hr
  have lp : ∀ (fu : Nat) (k : Nat), (L + 20 - 1) / 20 - k < fu → (k ≤ (L + 20 - 1) / 20) → J D dA A (fun _ _ => True) ad0 90 k_Sto_markBlocks.2.2.1 p l e (zR 1 0 0) s m args below meth c (FQ D dA A ad0 below args s (none) (mu (mkB M b (nI 1) ((L + 20 - 1) / 20)) 3 4 (nI (f - (L + 20 - 1) / 20)))) 11 [some (.ref 3), some (.ref (7 + 2 * j)), some (.int (nI 1)), some (.int (nI ((L + 20 - 1) / 20))), some (.int (nI k))] [] (E (mkB M b (nI 1) k)) 90 0 0 := by
    intro fu
    induction fu with
    | zero => intro k hfu; exact absurd hfu (Nat.not_lt_zero _)
    | succ fu ih =>
      intro k hfu hk
      refine J_iload C d_Sto_markBlocks_11 rfl ?_
      refine J_iload_n C 3 d_Sto_markBlocks_13 rfl rfl ?_
      refine J_icmpN_ge C 36 d_Sto_markBlocks_14 (by decide) (by omega) (by omega) (fun hc14 => ?_) (fun hc14 => ?_)
      · refine J_aload_n C 0 d_Sto_markBlocks_36 rfl rfl ?_
        refine J_dup C d_Sto_markBlocks_37 rfl ?_
        refine J_get C f_Sto_27 (by decide) (e_3 _) rfl d_Sto_markBlocks_38 ?_
        refine J_val (y := nI f) (by rw [mkB_p _ _ _ _ (by omega)]; exact hf) ?_
        refine J_iload_n C 2 d_Sto_markBlocks_41 rfl rfl ?_
        refine J_ifN_eq C 50 d_Sto_markBlocks_42 (by decide) (by omega) (fun hc42 => absurd hc42 (by decide)) (fun hc42 => ?_)
        refine J_iload_n C 3 d_Sto_markBlocks_45 rfl rfl ?_
        refine J_ineg C d_Sto_markBlocks_46 ?_
        refine J_goto C 51 d_Sto_markBlocks_47 (by decide) ?_
        refine J_iadd C d_Sto_markBlocks_51 ?_
        refine J_val (y := nI (f - (L + 20 - 1) / 20)) (nI_addneg hf3) ?_
        refine K_putI C f_Sto_27 (by decide) (e_3 _) (Nat.le_of_ble_eq_true rfl) rfl d_Sto_markBlocks_52 (kk := ?_)
        exact F_ret C hr (by rw [show (L + 20 - 1) / 20 = k by omega]) d_Sto_markBlocks_55
      · refine J_aload_n C 0 d_Sto_markBlocks_17 rfl rfl ?_
        refine J_get C f_Sto_13 (by decide) (e_3 _) rfl d_Sto_markBlocks_18 ?_
        refine J_aload_n C 1 d_Sto_markBlocks_21 rfl rfl ?_
        refine J_get C f_Sto_47 (by omega) (e_pk _ (by omega)) rfl d_Sto_markBlocks_22 ?_
        refine J_iload C d_Sto_markBlocks_25 rfl ?_
        refine K_ial C (a_pb (by omega)) (j := k) rfl (by omega) d_Sto_markBlocks_27 ?_
        refine J_val (y := nI (b k)) (by rw [mkB_p _ _ _ _ (by omega)]; exact hb k (by omega)) ?_
        have b1 := hb2 k (by omega)
        refine J_iload_n C 2 d_Sto_markBlocks_28 rfl rfl ?_
        refine K_bas C a_5 (j := b k) rfl (by omega) (Or.inr rfl) d_Sto_markBlocks_29 (kk := ?_)
        refine J_iinc C d_Sto_markBlocks_30 rfl (v := nI (k + 1)) (nI_1 _) (by decide) rfl ?_
        refine J_goto C 11 d_Sto_markBlocks_33 (by decide) ?_
        exact ih (k + 1) (by omega) (by omega)
  refine J_aload_n C 1 d_Sto_markBlocks_0 rfl rfl ?_
  refine J_get C f_Sto_61 (by omega) (e_pk _ (by omega)) rfl d_Sto_markBlocks_1 ?_
  refine J_val (y := nI L) hL ?_
  refine P_callS C (as := [.int (nI L)]) (st := []) (p_blocksFor l D dA M L (by omega)) l_Sto_53 s_Sto_blocksFor rfl (by decide) (by decide) (by decide) (Nat.le_of_ble_eq_true rfl) d_Sto_markBlocks_4 (kk := ?_)
  refine J_istore_n C 3 d_Sto_markBlocks_7 rfl (by decide) rfl ?_
  refine J_iconst C d_Sto_markBlocks_8 (v := nI 0) rfl ?_
  refine J_istore C d_Sto_markBlocks_9 (by decide) rfl ?_
  exact lp ((L + 20 - 1) / 20 + 1) 0 (by omega) (by omega)

set_option maxHeartbeats 4000000 in
set_option maxRecDepth 100000 in
theorem f_mark0 (l : Launch) (D : va_G) (dA : Nat → ClassId) (M : Mem) (j L f : Nat) (b : Nat → Nat) (hj : j < 24) (hL : M (7 + 2 * j) 2 = nI L) (hL2 : L ≤ 60) (hb : ∀ k, k < (L + 20 - 1) / 20 → M (8 + 2 * j) k = nI (b k)) (hb2 : ∀ k, k < (L + 20 - 1) / 20 → b k < 24) (hf : M 3 4 = nI f) (hf2 : f ≤ 24) : CF l D dA k_Sto_markBlocks 1 [.ref 3, .ref (7 + 2 * j), .int (nI 0)] M (none) (mu (mkB M b (nI 0) ((L + 20 - 1) / 20)) 3 4 (nI (f + (L + 20 - 1) / 20))) := by
  refine CF.of (by decide +kernel) (Nat.le_of_ble_eq_true rfl) (by intro v hv; simp only [List.mem_cons, List.not_mem_nil, or_false] at hv; rcases hv with rfl | rfl | rfl <;> rfl) ?_
  intro A ad0 p e s m args below meth c C hr
  have lp : ∀ (fu : Nat) (k : Nat), (L + 20 - 1) / 20 - k < fu → (k ≤ (L + 20 - 1) / 20) → J D dA A (fun _ _ => True) ad0 90 k_Sto_markBlocks.2.2.1 p l e (zR 1 0 0) s m args below meth c (FQ D dA A ad0 below args s (none) (mu (mkB M b (nI 0) ((L + 20 - 1) / 20)) 3 4 (nI (f + (L + 20 - 1) / 20)))) 11 [some (.ref 3), some (.ref (7 + 2 * j)), some (.int (nI 0)), some (.int (nI ((L + 20 - 1) / 20))), some (.int (nI k))] [] (E (mkB M b (nI 0) k)) 90 0 0 := by
    intro fu
    induction fu with
    | zero => intro k hfu; exact absurd hfu (Nat.not_lt_zero _)
    | succ fu ih =>
      intro k hfu hk
      refine J_iload C d_Sto_markBlocks_11 rfl ?_
      refine J_iload_n C 3 d_Sto_markBlocks_13 rfl rfl ?_
      refine J_icmpN_ge C 36 d_Sto_markBlocks_14 (by decide) (by omega) (by omega) (fun hc14 => ?_) (fun hc14 => ?_)
      · refine J_aload_n C 0 d_Sto_markBlocks_36 rfl rfl ?_
        refine J_dup C d_Sto_markBlocks_37 rfl ?_
        refine J_get C f_Sto_27 (by decide) (e_3 _) rfl d_Sto_markBlocks_38 ?_
        refine J_val (y := nI f) (by rw [mkB_p _ _ _ _ (by omega)]; exact hf) ?_
        refine J_iload_n C 2 d_Sto_markBlocks_41 rfl rfl ?_
        refine J_ifN_eq C 50 d_Sto_markBlocks_42 (by decide) (by omega) (fun hc42 => ?_) (fun hc42 => absurd hc42 (by decide))
        refine J_iload_n C 3 d_Sto_markBlocks_50 rfl rfl ?_
        refine J_iaddN C d_Sto_markBlocks_51 ?_
        refine K_putI C f_Sto_27 (by decide) (e_3 _) (Nat.le_of_ble_eq_true rfl) rfl d_Sto_markBlocks_52 (kk := ?_)
        exact F_ret C hr (by rw [show (L + 20 - 1) / 20 = k by omega]) d_Sto_markBlocks_55
      · refine J_aload_n C 0 d_Sto_markBlocks_17 rfl rfl ?_
        refine J_get C f_Sto_13 (by decide) (e_3 _) rfl d_Sto_markBlocks_18 ?_
        refine J_aload_n C 1 d_Sto_markBlocks_21 rfl rfl ?_
        refine J_get C f_Sto_47 (by omega) (e_pk _ (by omega)) rfl d_Sto_markBlocks_22 ?_
        refine J_iload C d_Sto_markBlocks_25 rfl ?_
        refine K_ial C (a_pb (by omega)) (j := k) rfl (by omega) d_Sto_markBlocks_27 ?_
        refine J_val (y := nI (b k)) (by rw [mkB_p _ _ _ _ (by omega)]; exact hb k (by omega)) ?_
        have b1 := hb2 k (by omega)
        refine J_iload_n C 2 d_Sto_markBlocks_28 rfl rfl ?_
        refine K_bas C a_5 (j := b k) rfl (by omega) (Or.inl rfl) d_Sto_markBlocks_29 (kk := ?_)
        refine J_iinc C d_Sto_markBlocks_30 rfl (v := nI (k + 1)) (nI_1 _) (by decide) rfl ?_
        refine J_goto C 11 d_Sto_markBlocks_33 (by decide) ?_
        exact ih (k + 1) (by omega) (by omega)
  refine J_aload_n C 1 d_Sto_markBlocks_0 rfl rfl ?_
  refine J_get C f_Sto_61 (by omega) (e_pk _ (by omega)) rfl d_Sto_markBlocks_1 ?_
  refine J_val (y := nI L) hL ?_
  refine P_callS C (as := [.int (nI L)]) (st := []) (p_blocksFor l D dA M L (by omega)) l_Sto_53 s_Sto_blocksFor rfl (by decide) (by decide) (by decide) (Nat.le_of_ble_eq_true rfl) d_Sto_markBlocks_4 (kk := ?_)
  refine J_istore_n C 3 d_Sto_markBlocks_7 rfl (by decide) rfl ?_
  refine J_iconst C d_Sto_markBlocks_8 (v := nI 0) rfl ?_
  refine J_istore C d_Sto_markBlocks_9 (by decide) rfl ?_
  exact lp ((L + 20 - 1) / 20 + 1) 0 (by omega) (by omega)

def fEA (M : Mem) (j L f : Nat) (b : Nat → Nat) : Mem := if M 3 9 = 0 then fWr (mu (mkB (mu (mu (mu (mu M 3 6 (M 3 6 + nI 1)) (7 + 2 * j) 1 (M 3 5)) 3 5 (M 3 5 + nI 1)) 3 3 (M 3 3 + nI 1)) b (nI 1) ((L + 20 - 1) / 20)) 3 4 (nI (f - (L + 20 - 1) / 20))) else M
set_option maxHeartbeats 4000000 in
set_option maxRecDepth 100000 in
theorem f_enterAdded (l : Launch) (D : va_G) (dA : Nat → ClassId) (M : Mem) (j L f : Nat) (b : Nat → Nat) (hj : j < 24) (hL : M (7 + 2 * j) 2 = nI L) (hL2 : L ≤ 60) (hb : ∀ k, k < (L + 20 - 1) / 20 → M (8 + 2 * j) k = nI (b k)) (hb2 : ∀ k, k < (L + 20 - 1) / 20 → b k < 24) (hf : M 3 4 = nI f) (hf2 : f ≤ 24) (hf3 : (L + 20 - 1) / 20 ≤ f) : CF l D dA k_Sto_enterAdded 2 [.ref 3, .ref (7 + 2 * j)] M (none) (fEA M j L f b) := by
  refine CF.of (by decide +kernel) (Nat.le_of_ble_eq_true rfl) (by intro v hv; simp only [List.mem_cons, List.not_mem_nil, or_false] at hv; rcases hv with rfl | rfl <;> rfl) ?_
  intro A ad0 p e s m args below meth c C hr
  refine J_aload_n C 0 d_Sto_enterAdded_0 rfl rfl ?_
  refine J_get C f_Sto_42 (by decide) (e_3 _) rfl d_Sto_enterAdded_1 ?_
  refine J_if_eq C 8 d_Sto_enterAdded_4 (by decide) (fun hc4 => ?_) (fun hc4 => ?_)
  · refine J_aload_n C 0 d_Sto_enterAdded_8 rfl rfl ?_
    refine J_dup C d_Sto_enterAdded_9 rfl ?_
    refine J_get C f_Sto_33 (by decide) (e_3 _) rfl d_Sto_enterAdded_10 ?_
    refine J_iconst C d_Sto_enterAdded_13 (v := nI 1) rfl ?_
    refine J_iadd C d_Sto_enterAdded_14 ?_
    refine K_putI C f_Sto_33 (by decide) (e_3 _) (Nat.le_of_ble_eq_true rfl) rfl d_Sto_enterAdded_15 (kk := ?_)
    refine J_aload_n C 1 d_Sto_enterAdded_18 rfl rfl ?_
    refine J_aload_n C 0 d_Sto_enterAdded_19 rfl rfl ?_
    refine J_get C f_Sto_30 (by decide) (e_3 _) rfl d_Sto_enterAdded_20 ?_
    refine J_val (y := M 3 5) rfl ?_
    refine K_putI C f_Sto_97 (by omega) (e_pk _ (by omega)) (Nat.le_of_ble_eq_true rfl) (Ec_pk (by omega) _) d_Sto_enterAdded_23 (kk := ?_)
    refine J_aload_n C 0 d_Sto_enterAdded_26 rfl rfl ?_
    refine J_dup C d_Sto_enterAdded_27 rfl ?_
    refine J_get C f_Sto_30 (by decide) (e_3 _) rfl d_Sto_enterAdded_28 ?_
    refine J_val (y := M 3 5) (by simp [mu, ma, va_up, upd, show ¬ (3 : Nat) = 7 + 2 * j by omega]) ?_
    refine J_iconst C d_Sto_enterAdded_31 (v := nI 1) rfl ?_
    refine J_iadd C d_Sto_enterAdded_32 ?_
    refine K_putI C f_Sto_30 (by decide) (e_3 _) (Nat.le_of_ble_eq_true rfl) rfl d_Sto_enterAdded_33 (kk := ?_)
    refine J_aload_n C 0 d_Sto_enterAdded_36 rfl rfl ?_
    refine J_dup C d_Sto_enterAdded_37 rfl ?_
    refine J_get C f_Sto_23 (by decide) (e_3 _) rfl d_Sto_enterAdded_38 ?_
    refine J_val (y := M 3 3) (by simp [mu, ma, va_up, upd, show ¬ (3 : Nat) = 7 + 2 * j by omega]) ?_
    refine J_iconst C d_Sto_enterAdded_41 (v := nI 1) rfl ?_
    refine J_iadd C d_Sto_enterAdded_42 ?_
    refine K_putI C f_Sto_23 (by decide) (e_3 _) (Nat.le_of_ble_eq_true rfl) rfl d_Sto_enterAdded_43 (kk := ?_)
    refine J_aload_n C 0 d_Sto_enterAdded_46 rfl rfl ?_
    refine J_aload_n C 1 d_Sto_enterAdded_47 rfl rfl ?_
    refine J_iconst C d_Sto_enterAdded_48 (v := nI 1) rfl ?_
    refine F_callV C (as := [.ref (7 + 2 * j), .int (nI 1)]) (st := []) (f_mark1 l D dA (mu (mu (mu (mu M 3 6 ((M 3 6) + (nI 1))) (7 + 2 * j) 1 (M 3 5)) 3 5 ((M 3 5) + (nI 1))) 3 3 ((M 3 3) + (nI 1))) j L f b hj (by simp [mu, ma, va_up, upd, show ¬ 7 + 2 * j = 3 by omega, show ¬ 8 + 2 * j = 3 by omega, show ¬ 8 + 2 * j = 7 + 2 * j by omega, show ¬ 3 = 7 + 2 * j by omega]; exact hL) hL2 (by simp [mu, ma, va_up, upd, show ¬ 7 + 2 * j = 3 by omega, show ¬ 8 + 2 * j = 3 by omega, show ¬ 8 + 2 * j = 7 + 2 * j by omega, show ¬ 3 = 7 + 2 * j by omega]; exact hb) hb2 (by simp [mu, ma, va_up, upd, show ¬ 7 + 2 * j = 3 by omega, show ¬ 8 + 2 * j = 3 by omega, show ¬ 8 + 2 * j = 7 + 2 * j by omega, show ¬ 3 = 7 + 2 * j by omega]; exact hf) hf2 hf3) l_Sto_100 v_Sto_markBlocks (by decide) (e_3 _) rfl (by decide) (by decide) (Nat.le_of_ble_eq_true rfl) d_Sto_enterAdded_49 (kk := ?_)
    refine J_aload_n C 0 d_Sto_enterAdded_52 rfl rfl ?_
    refine F_callV C (as := []) (st := []) (f_write l D dA (mu (mkB (mu (mu (mu (mu M 3 6 ((M 3 6) + (nI 1))) (7 + 2 * j) 1 (M 3 5)) 3 5 ((M 3 5) + (nI 1))) 3 3 ((M 3 3) + (nI 1))) b (nI 1) ((L + 20 - 1) / 20)) 3 4 (nI (f - (L + 20 - 1) / 20)))) l_Sto_94 v_Sto_write (by decide) (e_3 _) rfl (by decide) (by decide) (Nat.le_of_ble_eq_true rfl) d_Sto_enterAdded_53 (kk := ?_)
    exact F_ret C hr (by unfold fEA; (repeat' split) <;> first | contradiction | (exfalso; omega) | rfl) d_Sto_enterAdded_56
  · exact F_ret C hr (by unfold fEA; (repeat' split) <;> first | contradiction | (exfalso; omega) | rfl) d_Sto_enterAdded_7

def fShift (q : Nat → Nat) : Nat → Nat → Mem → Mem
  | 0, _, M => M
  | r + 1, k, M => fShift q r (k + 1) (mu M 6 k (nI (q (k + 1))))
def fED (M : Mem) (q : Nat → Nat) (i cn j L f : Nat) (b : Nat → Nat) : Mem := if M 3 9 = 0 then fWr (mu (fShift q (cn - 1 - i) i (mu (mu (mkB (mu M 3 6 (M 3 6 + nI 1)) b (nI 0) ((L + 20 - 1) / 20)) 3 4 (nI (f + (L + 20 - 1) / 20))) 3 3 (nI (cn - 1)))) 6 (cn - 1) (nI j)) else M
theorem fShift_p (q : Nat → Nat) : ∀ (r k : Nat) (M : Mem) {p : Nat}, p ≠ 6 → fShift q r k M p = M p
  | 0, _, _, _, _ => rfl
  | r + 1, k, M, p, h => by unfold fShift; rw [fShift_p q r (k + 1) _ h, mu_p _ _ _ h]
set_option maxHeartbeats 4000000 in
set_option maxRecDepth 100000 in
theorem f_enterDropped (l : Launch) (D : va_G) (dA : Nat → ClassId) (M : Mem) (j L f : Nat) (b : Nat → Nat) (hj : j < 24) (hL : M (7 + 2 * j) 2 = nI L) (hL2 : L ≤ 60) (hb : ∀ k, k < (L + 20 - 1) / 20 → M (8 + 2 * j) k = nI (b k)) (hb2 : ∀ k, k < (L + 20 - 1) / 20 → b k < 24) (hf : M 3 4 = nI f) (hf2 : f ≤ 24) (q : Nat → Nat) (i cn : Nat) (hi : i < cn) (hc24 : cn ≤ 24) (hq : ∀ k, k < 24 → M 6 k = nI (q k)) (hq2 : ∀ k, k < 24 → q k < 24) (hqi : q i = j) (hcn : M 3 3 = nI cn) : CF l D dA k_Sto_enterDropped 3 [.ref 3, .int (nI i)] M (none) (fED M q i cn j L f b) := by
  refine CF.of (by decide +kernel) (Nat.le_of_ble_eq_true rfl) (by intro v hv; simp only [List.mem_cons, List.not_mem_nil, or_false] at hv; rcases hv with rfl | rfl <;> rfl) ?_
  intro A ad0 p e s m args below meth c C hr
  refine J_aload_n C 0 d_Sto_enterDropped_0 rfl rfl ?_
  refine J_get C f_Sto_42 (by decide) (e_3 _) rfl d_Sto_enterDropped_1 ?_
  refine J_if_eq C 8 d_Sto_enterDropped_4 (by decide) (fun hc4 => ?_) (fun hc4 => ?_)
  · refine J_aload_n C 0 d_Sto_enterDropped_8 rfl rfl ?_
    refine J_dup C d_Sto_enterDropped_9 rfl ?_
    refine J_get C f_Sto_33 (by decide) (e_3 _) rfl d_Sto_enterDropped_10 ?_
    refine J_iconst C d_Sto_enterDropped_13 (v := nI 1) rfl ?_
    refine J_iadd C d_Sto_enterDropped_14 ?_
    refine K_putI C f_Sto_33 (by decide) (e_3 _) (Nat.le_of_ble_eq_true rfl) rfl d_Sto_enterDropped_15 (kk := ?_)
    refine J_aload_n C 0 d_Sto_enterDropped_18 rfl rfl ?_
    refine J_get C f_Sto_19 (by decide) (e_3 _) rfl d_Sto_enterDropped_19 ?_
    refine J_iload_n C 1 d_Sto_enterDropped_22 rfl rfl ?_
    refine K_pkld C (j := i) (x := j) rfl (by omega) (by rw [← hqi]; simp [mu, va_up, upd]; exact hq i (by omega)) (by omega) d_Sto_enterDropped_23 ?_
    refine J_astore_n C 2 d_Sto_enterDropped_24 rfl (by decide) rfl ?_
    refine J_aload_n C 0 d_Sto_enterDropped_25 rfl rfl ?_
    refine J_aload_n C 2 d_Sto_enterDropped_26 rfl rfl ?_
    refine J_iconst C d_Sto_enterDropped_27 (v := nI 0) rfl ?_
    refine F_callV C (as := [.ref (7 + 2 * j), .int (nI 0)]) (st := []) (f_mark0 l D dA (mu M 3 6 ((M 3 6) + (nI 1))) j L f b hj (by simp [mu, ma, va_up, upd, show ¬ 7 + 2 * j = 3 by omega, show ¬ 8 + 2 * j = 3 by omega, show ¬ 8 + 2 * j = 7 + 2 * j by omega, show ¬ 3 = 7 + 2 * j by omega]; exact hL) hL2 (by simp [mu, ma, va_up, upd, show ¬ 7 + 2 * j = 3 by omega, show ¬ 8 + 2 * j = 3 by omega, show ¬ 8 + 2 * j = 7 + 2 * j by omega, show ¬ 3 = 7 + 2 * j by omega]; exact hb) hb2 (by simp [mu, ma, va_up, upd, show ¬ 7 + 2 * j = 3 by omega, show ¬ 8 + 2 * j = 3 by omega, show ¬ 8 + 2 * j = 7 + 2 * j by omega, show ¬ 3 = 7 + 2 * j by omega]; exact hf) hf2) l_Sto_100 v_Sto_markBlocks (by decide) (e_3 _) rfl (by decide) (by decide) (Nat.le_of_ble_eq_true rfl) d_Sto_enterDropped_28 (kk := ?_)
    refine J_aload_n C 0 d_Sto_enterDropped_31 rfl rfl ?_
    refine J_dup C d_Sto_enterDropped_32 rfl ?_
    refine J_get C f_Sto_23 (by decide) (e_3 _) rfl d_Sto_enterDropped_33 ?_
    refine J_val (y := nI cn) (by simp [mu, va_up, upd]; first | rfl | (rw [mkB_p _ _ _ _ (by omega)]; simp [mu, va_up, upd]; exact hcn)) ?_
    refine J_iconst C d_Sto_enterDropped_36 (v := nI 1) rfl ?_
    refine J_isubN C d_Sto_enterDropped_37 (by omega) ?_
    refine K_putI C f_Sto_23 (by decide) (e_3 _) (Nat.le_of_ble_eq_true rfl) rfl d_Sto_enterDropped_38 (kk := ?_)
    refine J_iload_n C 1 d_Sto_enterDropped_41 rfl rfl ?_
    refine J_istore_n C 3 d_Sto_enterDropped_42 rfl (by decide) rfl ?_
    generalize hM9 : fED M q i cn j L f b = M9
    unfold fED at hM9
    rw [if_pos (by assumption)] at hM9
    have lp : ∀ (fu : Nat) (k : Nat) (M1 : Mem), cn - 1 - k < fu → (k ≤ cn - 1) → (∀ x, k ≤ x → x < 24 → M1 6 x = nI (q x)) → (M1 3 3 = nI (cn - 1)) → (fWr (mu (fShift q (cn - 1 - k) k M1) 6 (cn - 1) (nI j)) = M9) → J D dA A (fun _ _ => True) ad0 90 k_Sto_enterDropped.2.2.1 p l e (zR 3 0 0) s m args below meth c (FQ D dA A ad0 below args s (none) (M9)) 43 [some (.ref 3), some (.int (nI i)), some (.ref (7 + 2 * j)), some (.int (nI k))] [] (E M1) 90 0 0 := by
      intro fu
      induction fu with
      | zero => intro k M1 hfu; exact absurd hfu (Nat.not_lt_zero _)
      | succ fu ih =>
        intro k M1 hfu hk hq1 hcn1 hF
        refine J_iload_n C 3 d_Sto_enterDropped_43 rfl rfl ?_
        refine J_aload_n C 0 d_Sto_enterDropped_44 rfl rfl ?_
        refine J_get C f_Sto_23 (by decide) (e_3 _) rfl d_Sto_enterDropped_45 ?_
        refine J_val (y := nI (cn - 1)) hcn1 ?_
        refine J_icmpN_ge C 71 d_Sto_enterDropped_48 (by decide) (by omega) (by omega) (fun hc48 => ?_) (fun hc48 => ?_)
        · refine J_aload_n C 0 d_Sto_enterDropped_71 rfl rfl ?_
          refine J_get C f_Sto_19 (by decide) (e_3 _) rfl d_Sto_enterDropped_72 ?_
          refine J_aload_n C 0 d_Sto_enterDropped_75 rfl rfl ?_
          refine J_get C f_Sto_23 (by decide) (e_3 _) rfl d_Sto_enterDropped_76 ?_
          refine J_val (y := nI (cn - 1)) hcn1 ?_
          refine J_aload_n C 2 d_Sto_enterDropped_79 rfl rfl ?_
          refine K_pkst C (j := cn - 1) (x := j) rfl (by omega) (by omega) d_Sto_enterDropped_80 (kk := ?_)
          refine J_aload_n C 0 d_Sto_enterDropped_81 rfl rfl ?_
          refine F_callV C (as := []) (st := []) (f_write l D dA (mu M1 6 (cn - 1) (nI j))) l_Sto_94 v_Sto_write (by decide) (e_3 _) rfl (by decide) (by decide) (Nat.le_of_ble_eq_true rfl) d_Sto_enterDropped_82 (kk := ?_)
          exact F_ret C hr (by rw [show cn - 1 - k = 0 by omega] at hF; exact hF) d_Sto_enterDropped_85
        · refine J_aload_n C 0 d_Sto_enterDropped_51 rfl rfl ?_
          refine J_get C f_Sto_19 (by decide) (e_3 _) rfl d_Sto_enterDropped_52 ?_
          refine J_iload_n C 3 d_Sto_enterDropped_55 rfl rfl ?_
          refine J_aload_n C 0 d_Sto_enterDropped_56 rfl rfl ?_
          refine J_get C f_Sto_19 (by decide) (e_3 _) rfl d_Sto_enterDropped_57 ?_
          refine J_iload_n C 3 d_Sto_enterDropped_60 rfl rfl ?_
          refine J_iconst C d_Sto_enterDropped_61 (v := nI 1) rfl ?_
          refine J_iaddN C d_Sto_enterDropped_62 ?_
          have b2 := hq2 (k + 1) (by omega)
          refine K_pkld C (j := k + 1) (x := q (k + 1)) rfl (by omega) (hq1 _ (by omega) (by omega)) (by omega) d_Sto_enterDropped_63 ?_
          refine K_pkst C (j := k) (x := (q (k + 1))) rfl (by omega) (by omega) d_Sto_enterDropped_64 (kk := ?_)
          refine J_iinc C d_Sto_enterDropped_65 rfl (v := nI (k + 1)) (nI_1 _) (by decide) rfl ?_
          refine J_goto C 43 d_Sto_enterDropped_68 (by decide) ?_
          exact ih (k + 1) _ (by omega) (by omega) (by intro x h1 h2; rw [mu_row]; rw [show upd (M1 6) k (nI (q (k + 1))) x = M1 6 x by simp [upd, show ¬ x = k by omega]]; exact hq1 x (by omega) h2) (by simp [mu, va_up]; exact hcn1) (by rw [show cn - 1 - k = (cn - 1 - (k + 1)) + 1 by omega] at hF; exact hF)
    exact lp (cn - 1 - i + 1) i _ (by omega) (by omega) (by intro x h1 h2; simp [mu, va_up]; rw [mkB_p _ _ _ _ (by omega)]; simp [mu, va_up]; exact hq x h2) (by simp [mu, va_up, upd]) hM9
  · exact F_ret C hr (by unfold fED; rw [if_neg (by assumption)]) d_Sto_enterDropped_7

def fRst (q : Nat → Nat) : Nat → Mem → Mem
  | 0, M => M
  | k + 1, M => mu (fRst q k M) (7 + 2 * q k) 4 (nI 0)
theorem fRst_p (q : Nat → Nat) (k : Nat) (M : Mem) {p : Nat} (h : p < 7) : fRst q k M p = M p := by
  induction k with
  | zero => rfl
  | succ k ih => unfold fRst; rw [mu_p _ _ _ (by omega)]; exact ih
set_option maxHeartbeats 4000000 in
set_option maxRecDepth 100000 in
theorem f_restart (l : Launch) (D : va_G) (dA : Nat → ClassId) (M : Mem) (cn : Nat) (q : Nat → Nat) (hcn : M 3 3 = nI cn) (hc24 : cn ≤ 24) (hq : ∀ k, k < 24 → M 6 k = nI (q k)) (hq2 : ∀ k, k < 24 → q k < 24) : CF l D dA k_Sto_restart 0 [.ref 3] M (none) (fRst q cn (mu (mu M 3 9 (nI 0)) 3 8 (nI 0))) := by
  refine CF.of (by decide +kernel) (Nat.le_of_ble_eq_true rfl) (by intro v hv; simp only [List.mem_cons, List.not_mem_nil, or_false] at hv; rcases hv with rfl <;> rfl) ?_
  intro A ad0 p e s m args below meth c C hr
  have lp : ∀ (fu : Nat) (k : Nat), cn - k < fu → (k ≤ cn) → J D dA A (fun _ _ => True) ad0 90 k_Sto_restart.2.2.1 p l e (zR 0 0 0) s m args below meth c (FQ D dA A ad0 below args s (none) (fRst q cn (mu (mu M 3 9 (nI 0)) 3 8 (nI 0)))) 12 [some (.ref 3), some (.int (nI k))] [] (E (fRst q k (mu (mu M 3 9 (nI 0)) 3 8 (nI 0)))) 90 0 0 := by
    intro fu
    induction fu with
    | zero => intro k hfu; exact absurd hfu (Nat.not_lt_zero _)
    | succ fu ih =>
      intro k hfu hk
      refine J_iload_n C 1 d_Sto_restart_12 rfl rfl ?_
      refine J_aload_n C 0 d_Sto_restart_13 rfl rfl ?_
      refine J_get C f_Sto_23 (by decide) (e_3 _) rfl d_Sto_restart_14 ?_
      refine J_val (y := nI cn) (by rw [fRst_p _ _ _ (by omega)]; exact hcn) ?_
      refine J_icmpN_ge C 36 d_Sto_restart_17 (by decide) (by omega) (by omega) (fun hc17 => ?_) (fun hc17 => ?_)
      · exact F_ret C hr (by rw [show cn = k by omega]) d_Sto_restart_36
      · refine J_aload_n C 0 d_Sto_restart_20 rfl rfl ?_
        refine J_get C f_Sto_19 (by decide) (e_3 _) rfl d_Sto_restart_21 ?_
        refine J_iload_n C 1 d_Sto_restart_24 rfl rfl ?_
        have b2 := hq2 k (by omega)
        refine K_pkld C (j := k) (x := q k) rfl (by omega) (by rw [fRst_p _ _ _ (by omega)]; exact hq k (by omega)) (by omega) d_Sto_restart_25 ?_
        refine J_iconst C d_Sto_restart_26 (v := nI 0) rfl ?_
        refine K_putI C f_Sto_50 (by omega) (e_pk _ (by omega)) (Nat.le_of_ble_eq_true rfl) (Ec_pk (by omega) _) d_Sto_restart_27 (kk := ?_)
        refine J_iinc C d_Sto_restart_30 rfl (v := nI (k + 1)) (nI_1 _) (by decide) rfl ?_
        refine J_goto C 12 d_Sto_restart_33 (by decide) ?_
        exact ih (k + 1) (by omega) (by omega)
  refine J_aload_n C 0 d_Sto_restart_0 rfl rfl ?_
  refine J_iconst C d_Sto_restart_1 (v := nI 0) rfl ?_
  refine K_putZ C f_Sto_42 (by decide) (e_3 _) (Nat.le_of_ble_eq_true rfl) (Or.inl rfl) rfl d_Sto_restart_2 (kk := ?_)
  refine J_aload_n C 0 d_Sto_restart_5 rfl rfl ?_
  refine J_iconst C d_Sto_restart_6 (v := nI 0) rfl ?_
  refine K_putI C f_Sto_39 (by decide) (e_3 _) (Nat.le_of_ble_eq_true rfl) rfl d_Sto_restart_7 (kk := ?_)
  refine J_iconst C d_Sto_restart_10 (v := nI 0) rfl ?_
  refine J_istore_n C 1 d_Sto_restart_11 rfl (by decide) rfl ?_
  exact lp (cn + 1) 0 (by omega) (by omega)
