section ZV
variable {D : va_G} {dA : Nat → ClassId} {A : Nat → Prop} {Φ : Heap → List Loc → Prop} {ad0 : Nat → Nat} {n0 nL : Nat} {p : Program} {l : Launch} {e : Env} {R : Room} {s : State} {m : MethodId} {args : Array Value} {below : List Frame} {meth : Method} {c : Code} {Q : State → Prop} {pc : Nat} {lv : List (Option Value)} {st : List Value} {h : Nat → va_E} {n kc ks : Nat} {own : String} {cc : ByteArray}
theorem J_vref {x y : Value} (hv : x = y) (k : J D dA A Φ ad0 n0 nL p l e R s m args below meth c Q (pc) (lv) (y :: st) (h) n kc ks) : J D dA A Φ ad0 n0 nL p l e R s m args below meth c Q (pc) (lv) (x :: st) (h) n kc ks := by subst hv; exact k
end ZV
theorem Ec55_t (r : Nat → Int32) {j : Nat} (hj : j < 4) : Ec 55 (upd r 8 (nI (j + 1))) = .inr (4, [.ref 3, .ref 56, .ref 60, .int (r 3), .int (r 4), .int (r 5), .int (r 6), .int (r 7), .ref (61 + 2 * j), .int (r 9)]) := by
  show Sum.inr (4, [Value.ref 3, .ref 56, .ref 60, .int (r 3), .int (r 4), .int (r 5), .int (r 6), .int (r 7), zT (nI (j + 1)), .int (r 9)]) = _
  rw [zT_s hj]
theorem Ec55_n (r : Nat → Int32) : Ec 55 (upd r 8 (nI 0)) = .inr (4, [.ref 3, .ref 56, .ref 60, .int (r 3), .int (r 4), .int (r 5), .int (r 6), .int (r 7), .null, .int (r 9)]) := rfl
def fFg (M : Mem) (j : Nat) : Mem := mu (mu M (61 + 2 * j) 2 (nI 0)) (61 + 2 * j) 1 (nI 0)
def fFS (M : Mem) : Mem := fFg (fFg (fFg (fFg M 0) 1) 2) 3
set_option maxHeartbeats 4000000 in
set_option maxRecDepth 100000 in
theorem f_forget (l : Launch) (D : va_G) (dA : Nat → ClassId) (M : Mem) (j : Nat) (hj : j < 4) : CF l D dA k_Str_forget 0 [.ref (61 + 2 * j)] M (none) (fFg M j) := by
  refine CF.of (by decide +kernel) (Nat.le_of_ble_eq_true rfl) (by intro v hv; simp only [List.mem_cons, List.not_mem_nil, or_false] at hv; rcases hv with rfl <;> rfl) ?_
  intro A ad0 p e s m args below meth c C hr
  refine J_aload_n C 0 d_Str_forget_0 rfl rfl ?_
  refine J_iconst C d_Str_forget_1 (v := nI 0) rfl ?_
  refine K_putZ C f_Str_19 (by omega) (e_st _ (by omega)) (Nat.le_of_ble_eq_true rfl) (Or.inl rfl) (Ec_st (by omega) _) d_Str_forget_2 (kk := ?_)
  refine J_aload_n C 0 d_Str_forget_5 rfl rfl ?_
  refine J_iconst C d_Str_forget_6 (v := nI 0) rfl ?_
  refine K_putI C f_Str_15 (by omega) (e_st _ (by omega)) (Nat.le_of_ble_eq_true rfl) (Ec_st (by omega) _) d_Str_forget_7 (kk := ?_)
  exact F_ret C hr rfl d_Str_forget_10

set_option maxHeartbeats 4000000 in
set_option maxRecDepth 100000 in
theorem f_hold (l : Launch) (D : va_G) (dA : Nat → ClassId) (M : Mem) (j n : Nat) (hj : j < 4) (hn : M 56 3 = nI n) (hn2 : n ≤ 60) : CF l D dA k_Str_hold 0 [.ref (61 + 2 * j), .ref 56] M (none) (ma (mu (mu M (61 + 2 * j) 2 (nI 1)) (61 + 2 * j) 1 (nI n)) (62 + 2 * j) (va_cpy (M 57) (M (62 + 2 * j)) 0 0 n)) := by
  refine CF.of (by decide +kernel) (Nat.le_of_ble_eq_true rfl) (by intro v hv; simp only [List.mem_cons, List.not_mem_nil, or_false] at hv; rcases hv with rfl | rfl <;> rfl) ?_
  intro A ad0 p e s m args below meth c C hr
  refine J_aload_n C 0 d_Str_hold_0 rfl rfl ?_
  refine J_iconst C d_Str_hold_1 (v := nI 1) rfl ?_
  refine K_putZ C f_Str_19 (by omega) (e_st _ (by omega)) (Nat.le_of_ble_eq_true rfl) (Or.inr rfl) (Ec_st (by omega) _) d_Str_hold_2 (kk := ?_)
  refine J_aload_n C 0 d_Str_hold_5 rfl rfl ?_
  refine J_aload_n C 1 d_Str_hold_6 rfl rfl ?_
  refine J_get C f_Str_23 (by decide) (e_56 _) rfl d_Str_hold_7 ?_
  refine J_val (y := nI n) (by simp [mu, va_up, show ¬ (56 : Nat) = 61 + 2 * j by omega]; exact hn) ?_
  refine K_putI C f_Str_15 (by omega) (e_st _ (by omega)) (Nat.le_of_ble_eq_true rfl) (Ec_st (by omega) _) d_Str_hold_10 (kk := ?_)
  refine J_aload_n C 1 d_Str_hold_13 rfl rfl ?_
  refine J_get C f_Str_26 (by decide) (e_56 _) rfl d_Str_hold_14 ?_
  refine J_iconst C d_Str_hold_17 (v := nI 0) rfl ?_
  refine J_aload_n C 0 d_Str_hold_18 rfl rfl ?_
  refine J_get C f_Str_9 (by omega) (e_st _ (by omega)) rfl d_Str_hold_19 ?_
  refine J_iconst C d_Str_hold_22 (v := nI 0) rfl ?_
  refine J_aload_n C 0 d_Str_hold_23 rfl rfl ?_
  refine J_get C f_Str_15 (by omega) (e_st _ (by omega)) rfl d_Str_hold_24 ?_
  refine J_val (y := nI n) (by simp [mu, va_up, upd]) ?_
  refine K_copy C m_Str_29 mn_copy ms_copy mi_Sys a_57 (a_sp (by omega)) (by omega) (by omega) (Nat.le_of_ble_eq_true rfl) d_Str_hold_27 (k := ?_)
  refine J_mem (M2 := ma (mu (mu M (61 + 2 * j) 2 (nI 1)) (61 + 2 * j) 1 (nI n)) (62 + 2 * j) (va_cpy (M 57) (M (62 + 2 * j)) 0 0 n)) (by congr 1; congr 1 <;> (simp only [mu, va_up]; rw [if_neg (by omega), if_neg (by omega)])) ?_
  exact F_ret C hr rfl d_Str_hold_30

set_option maxHeartbeats 4000000 in
set_option maxRecDepth 100000 in
theorem f_forgetSegments (l : Launch) (D : va_G) (dA : Nat → ClassId) (M : Mem) : CF l D dA k_Ses_forgetSegments 1 [.ref 55] M (none) (fFS M) := by
  refine CF.of (by decide +kernel) (Nat.le_of_ble_eq_true rfl) (by intro v hv; simp only [List.mem_cons, List.not_mem_nil, or_false] at hv; rcases hv with rfl <;> rfl) ?_
  intro A ad0 p e s m args below meth c C hr
  refine J_iconst C d_Ses_forgetSegments_0 (v := nI 0) rfl ?_
  refine J_istore_n C 1 d_Ses_forgetSegments_1 rfl (by decide) rfl ?_
  refine J_iload_n C 1 d_Ses_forgetSegments_2 rfl rfl ?_
  refine J_iconst C d_Ses_forgetSegments_3 (v := nI 4) rfl ?_
  refine J_icmpN_ge C 22 d_Ses_forgetSegments_4 (by decide) (by omega) (by omega) (fun hc4 => absurd hc4 (by decide)) (fun hc4 => ?_)
  refine J_aload_n C 0 d_Ses_forgetSegments_7 rfl rfl ?_
  refine J_get C f_Ses_20 (by decide) (e_55 _) rfl d_Ses_forgetSegments_8 ?_
  refine J_iload_n C 1 d_Ses_forgetSegments_11 rfl rfl ?_
  refine K_stld C (j := 0) rfl (by omega) d_Ses_forgetSegments_12 ?_
  refine F_callV C (as := []) (st := []) (f_forget l D dA M 0 (by omega)) l_Ses_110 v_Str_forget (by omega) (e_st _ (by omega)) rfl (by decide) (by decide) (Nat.le_of_ble_eq_true rfl) d_Ses_forgetSegments_13 (kk := ?_)
  refine J_iinc C d_Ses_forgetSegments_16 rfl (v := nI 1) rfl (by decide) rfl ?_
  refine J_goto C 2 d_Ses_forgetSegments_19 (by decide) ?_
  refine J_iload_n C 1 d_Ses_forgetSegments_2 rfl rfl ?_
  refine J_iconst C d_Ses_forgetSegments_3 (v := nI 4) rfl ?_
  refine J_icmpN_ge C 22 d_Ses_forgetSegments_4 (by decide) (by omega) (by omega) (fun hc4 => absurd hc4 (by decide)) (fun hc4 => ?_)
  refine J_aload_n C 0 d_Ses_forgetSegments_7 rfl rfl ?_
  refine J_get C f_Ses_20 (by decide) (e_55 _) rfl d_Ses_forgetSegments_8 ?_
  refine J_iload_n C 1 d_Ses_forgetSegments_11 rfl rfl ?_
  refine K_stld C (j := 1) rfl (by omega) d_Ses_forgetSegments_12 ?_
  refine F_callV C (as := []) (st := []) (f_forget l D dA (fFg M 0) 1 (by omega)) l_Ses_110 v_Str_forget (by omega) (e_st _ (by omega)) rfl (by decide) (by decide) (Nat.le_of_ble_eq_true rfl) d_Ses_forgetSegments_13 (kk := ?_)
  refine J_iinc C d_Ses_forgetSegments_16 rfl (v := nI 2) rfl (by decide) rfl ?_
  refine J_goto C 2 d_Ses_forgetSegments_19 (by decide) ?_
  refine J_iload_n C 1 d_Ses_forgetSegments_2 rfl rfl ?_
  refine J_iconst C d_Ses_forgetSegments_3 (v := nI 4) rfl ?_
  refine J_icmpN_ge C 22 d_Ses_forgetSegments_4 (by decide) (by omega) (by omega) (fun hc4 => absurd hc4 (by decide)) (fun hc4 => ?_)
  refine J_aload_n C 0 d_Ses_forgetSegments_7 rfl rfl ?_
  refine J_get C f_Ses_20 (by decide) (e_55 _) rfl d_Ses_forgetSegments_8 ?_
  refine J_iload_n C 1 d_Ses_forgetSegments_11 rfl rfl ?_
  refine K_stld C (j := 2) rfl (by omega) d_Ses_forgetSegments_12 ?_
  refine F_callV C (as := []) (st := []) (f_forget l D dA (fFg (fFg M 0) 1) 2 (by omega)) l_Ses_110 v_Str_forget (by omega) (e_st _ (by omega)) rfl (by decide) (by decide) (Nat.le_of_ble_eq_true rfl) d_Ses_forgetSegments_13 (kk := ?_)
  refine J_iinc C d_Ses_forgetSegments_16 rfl (v := nI 3) rfl (by decide) rfl ?_
  refine J_goto C 2 d_Ses_forgetSegments_19 (by decide) ?_
  refine J_iload_n C 1 d_Ses_forgetSegments_2 rfl rfl ?_
  refine J_iconst C d_Ses_forgetSegments_3 (v := nI 4) rfl ?_
  refine J_icmpN_ge C 22 d_Ses_forgetSegments_4 (by decide) (by omega) (by omega) (fun hc4 => absurd hc4 (by decide)) (fun hc4 => ?_)
  refine J_aload_n C 0 d_Ses_forgetSegments_7 rfl rfl ?_
  refine J_get C f_Ses_20 (by decide) (e_55 _) rfl d_Ses_forgetSegments_8 ?_
  refine J_iload_n C 1 d_Ses_forgetSegments_11 rfl rfl ?_
  refine K_stld C (j := 3) rfl (by omega) d_Ses_forgetSegments_12 ?_
  refine F_callV C (as := []) (st := []) (f_forget l D dA (fFg (fFg (fFg M 0) 1) 2) 3 (by omega)) l_Ses_110 v_Str_forget (by omega) (e_st _ (by omega)) rfl (by decide) (by decide) (Nat.le_of_ble_eq_true rfl) d_Ses_forgetSegments_13 (kk := ?_)
  refine J_iinc C d_Ses_forgetSegments_16 rfl (v := nI 4) rfl (by decide) rfl ?_
  refine J_goto C 2 d_Ses_forgetSegments_19 (by decide) ?_
  refine J_iload_n C 1 d_Ses_forgetSegments_2 rfl rfl ?_
  refine J_iconst C d_Ses_forgetSegments_3 (v := nI 4) rfl ?_
  refine J_icmpN_ge C 22 d_Ses_forgetSegments_4 (by decide) (by omega) (by omega) (fun hc4 => ?_) (fun hc4 => absurd hc4 (by decide))
  exact F_ret C hr rfl d_Ses_forgetSegments_22

set_option maxHeartbeats 4000000 in
set_option maxRecDepth 100000 in
theorem f_srestart (l : Launch) (D : va_G) (dA : Nat → ClassId) (M : Mem) : CF l D dA k_Ses_restart 2 [.ref 55] M (none) (fFS (mu M 55 3 (nI 0))) := by
  refine CF.of (by decide +kernel) (Nat.le_of_ble_eq_true rfl) (by intro v hv; simp only [List.mem_cons, List.not_mem_nil, or_false] at hv; rcases hv with rfl <;> rfl) ?_
  intro A ad0 p e s m args below meth c C hr
  refine J_aload_n C 0 d_Ses_restart_0 rfl rfl ?_
  refine J_iconst C d_Ses_restart_1 (v := nI 0) rfl ?_
  refine K_putZ C f_Ses_24 (by decide) (e_55 _) (Nat.le_of_ble_eq_true rfl) (Or.inl rfl) rfl d_Ses_restart_2 (kk := ?_)
  refine J_aload_n C 0 d_Ses_restart_5 rfl rfl ?_
  refine F_callV C (as := []) (st := []) (f_forgetSegments l D dA (mu M 55 3 (nI 0))) l_Ses_53 v_Ses_forgetSegments (by decide) (e_55 _) rfl (by decide) (by decide) (Nat.le_of_ble_eq_true rfl) d_Ses_restart_6 (kk := ?_)
  exact F_ret C hr rfl d_Ses_restart_9

set_option maxHeartbeats 4000000 in
set_option maxRecDepth 100000 in
theorem f_begin (l : Launch) (D : va_G) (dA : Nat → ClassId) (M : Mem) (ch : Int32) : CF l D dA k_Ses_begin 2 [.ref 55, .int ch] M (none) (fFS (mu (mu (mu (mu (mu M 55 3 (nI 1)) 55 4 ch) 55 5 (nI 0)) 55 6 (nI 0)) 55 7 (nI 0))) := by
  refine CF.of (by decide +kernel) (Nat.le_of_ble_eq_true rfl) (by intro v hv; simp only [List.mem_cons, List.not_mem_nil, or_false] at hv; rcases hv with rfl | rfl <;> rfl) ?_
  intro A ad0 p e s m args below meth c C hr
  refine J_aload_n C 0 d_Ses_begin_0 rfl rfl ?_
  refine J_iconst C d_Ses_begin_1 (v := nI 1) rfl ?_
  refine K_putZ C f_Ses_24 (by decide) (e_55 _) (Nat.le_of_ble_eq_true rfl) (Or.inr rfl) rfl d_Ses_begin_2 (kk := ?_)
  refine J_aload_n C 0 d_Ses_begin_5 rfl rfl ?_
  refine J_iload_n C 1 d_Ses_begin_6 rfl rfl ?_
  refine K_putI C f_Ses_28 (by decide) (e_55 _) (Nat.le_of_ble_eq_true rfl) rfl d_Ses_begin_7 (kk := ?_)
  refine J_aload_n C 0 d_Ses_begin_10 rfl rfl ?_
  refine J_iconst C d_Ses_begin_11 (v := nI 0) rfl ?_
  refine K_putI C f_Ses_32 (by decide) (e_55 _) (Nat.le_of_ble_eq_true rfl) rfl d_Ses_begin_12 (kk := ?_)
  refine J_aload_n C 0 d_Ses_begin_15 rfl rfl ?_
  refine J_iconst C d_Ses_begin_16 (v := nI 0) rfl ?_
  refine K_putZ C f_Ses_35 (by decide) (e_55 _) (Nat.le_of_ble_eq_true rfl) (Or.inl rfl) rfl d_Ses_begin_17 (kk := ?_)
  refine J_aload_n C 0 d_Ses_begin_20 rfl rfl ?_
  refine J_iconst C d_Ses_begin_21 (v := nI 0) rfl ?_
  refine K_putI C f_Ses_38 (by decide) (e_55 _) (Nat.le_of_ble_eq_true rfl) rfl d_Ses_begin_22 (kk := ?_)
  refine J_aload_n C 0 d_Ses_begin_25 rfl rfl ?_
  refine F_callV C (as := []) (st := []) (f_forgetSegments l D dA (mu (mu (mu (mu (mu M 55 3 (nI 1)) 55 4 ch) 55 5 (nI 0)) 55 6 (nI 0)) 55 7 (nI 0))) l_Ses_53 v_Ses_forgetSegments (by decide) (e_55 _) rfl (by decide) (by decide) (Nat.le_of_ble_eq_true rfl) d_Ses_begin_26 (kk := ?_)
  exact F_ret C hr rfl d_Ses_begin_29

def ChF (M : Mem) : Int32 := M 72 2 >>> (nI 7 &&& 31)
set_option maxHeartbeats 4000000 in
set_option maxRecDepth 100000 in
theorem p_isOnFor (l : Launch) (D : va_G) (dA : Nat → ClassId) (M : Mem) : PT l D dA k_Ses_isOnFor 1 90 [.ref 55, .ref 71] (E M) (.int (if M 55 3 = 0 then 0 else if ChF M = M 55 4 then 1 else 0)) := by
  refine PT.of (by decide +kernel) (Nat.le_of_ble_eq_true rfl) (by intro v hv; simp only [List.mem_cons, List.not_mem_nil, or_false] at hv; rcases hv with rfl | rfl <;> rfl) ?_
  intro A ad0 p e s m args below meth c C hr
  refine J_aload_n C 0 d_Ses_isOnFor_0 rfl rfl ?_
  refine J_get C f_Ses_24 (by decide) (e_55 _) rfl d_Ses_isOnFor_1 ?_
  refine J_if_eq C 22 d_Ses_isOnFor_4 (by decide) (fun hc4 => ?_) (fun hc4 => ?_)
  · refine J_iconst C d_Ses_isOnFor_22 (v := nI 0) rfl ?_
    exact P_zretE C hr (Or.inl rfl) (by simp only [ChF, hc4, if_true, if_false]; try rfl) d_Ses_isOnFor_23
  · refine J_aload_n C 1 d_Ses_isOnFor_7 rfl rfl ?_
    refine P_callV C (as := []) (st := []) (p_channel l D dA M) l_Ses_97 v_Frm_channel (by decide) (e_71 _) rfl (by decide) (by decide) (by decide) (Nat.le_of_ble_eq_true rfl) d_Ses_isOnFor_8 (kk := ?_)
    refine J_aload_n C 0 d_Ses_isOnFor_11 rfl rfl ?_
    refine J_get C f_Ses_28 (by decide) (e_55 _) rfl d_Ses_isOnFor_12 ?_
    refine J_icmp_ne C 22 d_Ses_isOnFor_15 (by decide) (fun hc15 => ?_) (fun hc15 => ?_)
    · refine J_iconst C d_Ses_isOnFor_22 (v := nI 0) rfl ?_
      exact P_zretE C hr (Or.inl rfl) (by simp only [ChF, hc4, hc15, if_true, if_false]; try rfl) d_Ses_isOnFor_23
    · refine J_iconst C d_Ses_isOnFor_18 (v := nI 1) rfl ?_
      refine J_goto C 23 d_Ses_isOnFor_19 (by decide) ?_
      exact P_zretE C hr (Or.inr rfl) (by simp only [ChF, hc4, hc15, if_true, if_false]; try rfl) d_Ses_isOnFor_23

set_option maxHeartbeats 4000000 in
set_option maxRecDepth 100000 in
theorem p_reportWord (l : Launch) (D : va_G) (dA : Nat → ClassId) (M : Mem) : PT l D dA k_Ses_reportWord 0 90 [.ref 55] (E M) (.int (if M 55 3 = 0 then 0 else ((32768 ||| (if M 55 6 = 0 then 0 else nI 8192)) ||| (M 55 4 <<< (nI 12 &&& 31))) ||| (M 55 7 <<< (nI 8 &&& 31)) ||| M 55 5)) := by
  refine PT.of (by decide +kernel) (Nat.le_of_ble_eq_true rfl) (by intro v hv; simp only [List.mem_cons, List.not_mem_nil, or_false] at hv; rcases hv with rfl <;> rfl) ?_
  intro A ad0 p e s m args below meth c C hr
  refine J_aload_n C 0 d_Ses_reportWord_0 rfl rfl ?_
  refine J_get C f_Ses_24 (by decide) (e_55 _) rfl d_Ses_reportWord_1 ?_
  refine J_if_ne C 9 d_Ses_reportWord_4 (by decide) (fun hc4 => ?_) (fun hc4 => ?_)
  · refine J_ldc C d_Ses_reportWord_9 c_Ses_56 ?_
    refine J_aload_n C 0 d_Ses_reportWord_11 rfl rfl ?_
    refine J_get C f_Ses_35 (by decide) (e_55 _) rfl d_Ses_reportWord_12 ?_
    refine J_if_eq C 24 d_Ses_reportWord_15 (by decide) (fun hc15 => ?_) (fun hc15 => ?_)
    · refine J_iconst C d_Ses_reportWord_24 (v := nI 0) rfl ?_
      refine J_ior C d_Ses_reportWord_25 ?_
      refine J_aload_n C 0 d_Ses_reportWord_26 rfl rfl ?_
      refine J_get C f_Ses_28 (by decide) (e_55 _) rfl d_Ses_reportWord_27 ?_
      refine J_bipush C d_Ses_reportWord_30 (v := nI 12) rfl ?_
      refine J_ishl C d_Ses_reportWord_32 ?_
      refine J_ior C d_Ses_reportWord_33 ?_
      refine J_aload_n C 0 d_Ses_reportWord_34 rfl rfl ?_
      refine J_get C f_Ses_38 (by decide) (e_55 _) rfl d_Ses_reportWord_35 ?_
      refine J_bipush C d_Ses_reportWord_38 (v := nI 8) rfl ?_
      refine J_ishl C d_Ses_reportWord_40 ?_
      refine J_ior C d_Ses_reportWord_41 ?_
      refine J_aload_n C 0 d_Ses_reportWord_42 rfl rfl ?_
      refine J_get C f_Ses_32 (by decide) (e_55 _) rfl d_Ses_reportWord_43 ?_
      refine J_ior C d_Ses_reportWord_46 ?_
      exact P_iretE C hr (by simp only [hc4, hc15, if_true, if_false]; try rfl) d_Ses_reportWord_47
    · refine J_sipush C d_Ses_reportWord_18 (v := nI 8192) rfl ?_
      refine J_goto C 25 d_Ses_reportWord_21 (by decide) ?_
      refine J_ior C d_Ses_reportWord_25 ?_
      refine J_aload_n C 0 d_Ses_reportWord_26 rfl rfl ?_
      refine J_get C f_Ses_28 (by decide) (e_55 _) rfl d_Ses_reportWord_27 ?_
      refine J_bipush C d_Ses_reportWord_30 (v := nI 12) rfl ?_
      refine J_ishl C d_Ses_reportWord_32 ?_
      refine J_ior C d_Ses_reportWord_33 ?_
      refine J_aload_n C 0 d_Ses_reportWord_34 rfl rfl ?_
      refine J_get C f_Ses_38 (by decide) (e_55 _) rfl d_Ses_reportWord_35 ?_
      refine J_bipush C d_Ses_reportWord_38 (v := nI 8) rfl ?_
      refine J_ishl C d_Ses_reportWord_40 ?_
      refine J_ior C d_Ses_reportWord_41 ?_
      refine J_aload_n C 0 d_Ses_reportWord_42 rfl rfl ?_
      refine J_get C f_Ses_32 (by decide) (e_55 _) rfl d_Ses_reportWord_43 ?_
      refine J_ior C d_Ses_reportWord_46 ?_
      exact P_iretE C hr (by simp only [hc4, hc15, if_true, if_false]; try rfl) d_Ses_reportWord_47
  · refine J_iconst C d_Ses_reportWord_7 (v := nI 0) rfl ?_
    exact P_iretE C hr (by simp only [hc4, if_true, if_false]; try rfl) d_Ses_reportWord_8

set_option maxHeartbeats 4000000 in
set_option maxRecDepth 100000 in
theorem f_admitExpedited (l : Launch) (D : va_G) (dA : Nat → ClassId) (M : Mem) : CF l D dA k_Ses_admitExpedited 0 [.ref 55] M (some (.int (nI 1))) (mu M 55 7 ((M 55 7 + nI 1) &&& nI 7)) := by
  refine CF.of (by decide +kernel) (Nat.le_of_ble_eq_true rfl) (by intro v hv; simp only [List.mem_cons, List.not_mem_nil, or_false] at hv; rcases hv with rfl <;> rfl) ?_
  intro A ad0 p e s m args below meth c C hr
  refine J_aload_n C 0 d_Ses_admitExpedited_0 rfl rfl ?_
  refine J_aload_n C 0 d_Ses_admitExpedited_1 rfl rfl ?_
  refine J_get C f_Ses_38 (by decide) (e_55 _) rfl d_Ses_admitExpedited_2 ?_
  refine J_iconst C d_Ses_admitExpedited_5 (v := nI 1) rfl ?_
  refine J_iadd C d_Ses_admitExpedited_6 ?_
  refine J_bipush C d_Ses_admitExpedited_7 (v := nI 7) rfl ?_
  refine J_iand C d_Ses_admitExpedited_9 ?_
  refine K_putI C f_Ses_38 (by decide) (e_55 _) (Nat.le_of_ble_eq_true rfl) rfl d_Ses_admitExpedited_10 (kk := ?_)
  refine J_iconst C d_Ses_admitExpedited_13 (v := nI 1) rfl ?_
  exact F_zret C hr (Or.inr rfl) rfl rfl d_Ses_admitExpedited_14

def fApp (f : Nat → Int32) : Nat → Nat → Nat → Mem → Mem
  | 0, _, _, M => M
  | r + 1, k, n, M => fApp f r (k + 1) (n + 1) (mu (mu M 57 n (f (5 + k))) 56 3 (nI (n + 1)))
set_option maxHeartbeats 4000000 in
set_option maxRecDepth 100000 in
theorem f_appendData (l : Launch) (D : va_G) (dA : Nat → ClassId) (M : Mem) (L n fr : Nat) (hL : M 71 1 = nI L) (h5 : 5 ≤ L) (h64 : L ≤ 64) (hfr : fr ≤ L - 5) (hn : M 56 3 = nI n) (hn2 : n + (L - 5 - fr) ≤ 60) (f : Nat → Int32) (hf : M 72 = f) : CF l D dA k_Ses_appendData 1 [.ref 55, .ref 71, .int (nI fr)] M (none) (fApp f (L - 5 - fr) fr n M) := by
  refine CF.of (by decide +kernel) (Nat.le_of_ble_eq_true rfl) (by intro v hv; simp only [List.mem_cons, List.not_mem_nil, or_false] at hv; rcases hv with rfl | rfl | rfl <;> rfl) ?_
  intro A ad0 p e s m args below meth c C hr
  refine J_iload_n C 2 d_Ses_appendData_0 rfl rfl ?_
  refine J_istore_n C 3 d_Ses_appendData_1 rfl (by decide) rfl ?_
  generalize hM9 : fApp f (L - 5 - fr) fr n M = M9
  have lp : ∀ (fu : Nat) (k : Nat) (n : Nat) (M : Mem), L - 5 - k < fu → (k ≤ L - 5) → (n + (L - 5 - k) ≤ 60) → (M 56 3 = nI n) → (M 71 1 = nI L) → (M 72 = f) → (fApp f (L - 5 - k) k n M = M9) → J D dA A (fun _ _ => True) ad0 90 k_Ses_appendData.2.2.1 p l e (zR 1 0 0) s m args below meth c (FQ D dA A ad0 below args s (none) (M9)) 2 [some (.ref 55), some (.ref 71), some (.int (nI fr)), some (.int (nI k))] [] (E M) 90 0 0 := by
    intro fu
    induction fu with
    | zero => intro k n M hfu; exact absurd hfu (Nat.not_lt_zero _)
    | succ fu ih =>
      intro k n M hfu hk hnk hn hL hf hF
      refine J_iload_n C 3 d_Ses_appendData_2 rfl rfl ?_
      refine J_aload_n C 1 d_Ses_appendData_3 rfl rfl ?_
      refine P_callV C (as := []) (st := [.int (nI k)]) (p_dataLength l D dA M L hL h5) l_Ses_99 v_Frm_dataLength (by decide) (e_71 _) rfl (by decide) (by decide) (by decide) (Nat.le_of_ble_eq_true rfl) d_Ses_appendData_4 (kk := ?_)
      refine J_icmpN_ge C 28 d_Ses_appendData_7 (by decide) (by omega) (by omega) (fun hc7 => ?_) (fun hc7 => ?_)
      · exact F_ret C hr (by rw [show L - 5 - k = 0 by omega] at hF; exact hF) d_Ses_appendData_28
      · refine J_aload_n C 0 d_Ses_appendData_10 rfl rfl ?_
        refine J_get C f_Ses_12 (by decide) (e_55 _) rfl d_Ses_appendData_11 ?_
        refine J_aload_n C 1 d_Ses_appendData_14 rfl rfl ?_
        refine J_iload_n C 3 d_Ses_appendData_15 rfl rfl ?_
        refine P_callV C (as := [.int (nI k)]) (st := [.ref 56]) (p_data l D dA M L k hL h5 h64 (by omega)) l_Ses_102 v_Frm_data (by decide) (e_71 _) rfl (by decide) (by decide) (by decide) (Nat.le_of_ble_eq_true rfl) d_Ses_appendData_16 (kk := ?_)
        refine J_val (y := M 72 (5 + k)) (if_neg (by omega)) ?_
        refine F_callV C (as := [.int (M 72 (5 + k))]) (st := []) (f_append l D dA M n (M 72 (5 + k)) hn (by omega)) l_Ses_165 v_Har_append (by decide) (e_56 _) rfl (by decide) (by decide) (Nat.le_of_ble_eq_true rfl) d_Ses_appendData_19 (kk := ?_)
        refine J_iinc C d_Ses_appendData_22 rfl (v := nI (k + 1)) (nI_1 _) (by decide) rfl ?_
        refine J_goto C 2 d_Ses_appendData_25 (by decide) ?_
        exact ih (k + 1) (n + 1) _ (by omega) (by omega) (by omega) (by simp [mu, va_up, upd]) (by simp [mu, va_up]; exact hL) (by simp [mu, va_up]; exact hf) (by rw [show L - 5 - k = (L - 5 - (k + 1)) + 1 by omega] at hF; unfold fApp at hF; rw [hf]; exact hF)
  exact lp (L - 5 - fr + 1) fr n M (by omega) hfr (by omega) hn hL hf hM9

def fASq (M : Mem) (num rm : Int32) : Mem := if (num - M 55 5) &&& nI 255 ≤ nI 127 then (if (num - M 55 5) &&& nI 255 = 0 then (if rm = 0 then mu M 55 6 (nI 1) else mu (mu M 55 6 (nI 0)) 55 5 ((M 55 5 + nI 1) &&& nI 255)) else mu M 55 6 (nI 1)) else M
def rASq (M : Mem) (num rm : Int32) : Int32 := if (num - M 55 5) &&& nI 255 ≤ nI 127 then (if (num - M 55 5) &&& nI 255 = 0 then (if rm = 0 then 0 else 1) else 0) else 0
set_option maxHeartbeats 4000000 in
set_option maxRecDepth 100000 in
theorem f_admitSequenced (l : Launch) (D : va_G) (dA : Nat → ClassId) (M : Mem) (num rm : Int32) (c0 fr : Nat) (ln : Nat → Nat) (hc0 : M 56 4 = nI c0) (hc8 : c0 ≤ 8) (hl : ∀ i, i < c0 → M 59 i = nI (ln i)) (hl2 : ∀ i, i < c0 → ln i ≤ 60) (hfr : M 3 4 = nI fr) (hf2 : fr < 1000) (hrm : rm = if fr < fSumB ln c0 then 0 else 1) : CF l D dA k_Ses_admitSequenced 2 [.ref 55, .int num] M (some (.int (rASq M num rm))) (fASq M num rm) := by
  refine CF.of (by decide +kernel) (Nat.le_of_ble_eq_true rfl) (by intro v hv; simp only [List.mem_cons, List.not_mem_nil, or_false] at hv; rcases hv with rfl | rfl <;> rfl) ?_
  intro A ad0 p e s m args below meth c C hr
  refine J_iload_n C 1 d_Ses_admitSequenced_0 rfl rfl ?_
  refine J_aload_n C 0 d_Ses_admitSequenced_1 rfl rfl ?_
  refine J_get C f_Ses_32 (by decide) (e_55 _) rfl d_Ses_admitSequenced_2 ?_
  refine J_isub C d_Ses_admitSequenced_5 ?_
  refine J_sipush C d_Ses_admitSequenced_6 (v := nI 255) rfl ?_
  refine J_iand C d_Ses_admitSequenced_9 ?_
  refine J_istore_n C 2 d_Ses_admitSequenced_10 rfl (by decide) rfl ?_
  refine J_iload_n C 2 d_Ses_admitSequenced_11 rfl rfl ?_
  refine J_bipush C d_Ses_admitSequenced_12 (v := nI 127) rfl ?_
  refine J_icmp_le C 19 d_Ses_admitSequenced_14 (by decide) (fun hc14 => ?_) (fun hc14 => ?_)
  · refine J_iload_n C 2 d_Ses_admitSequenced_19 rfl rfl ?_
    refine J_if_ne C 44 d_Ses_admitSequenced_20 (by decide) (fun hc20 => ?_) (fun hc20 => ?_)
    · refine J_iconst C d_Ses_admitSequenced_44 (v := nI 0) rfl ?_
      refine J_istore_n C 3 d_Ses_admitSequenced_45 rfl (by decide) rfl ?_
      refine J_aload_n C 0 d_Ses_admitSequenced_46 rfl rfl ?_
      refine J_iload_n C 3 d_Ses_admitSequenced_47 rfl rfl ?_
      refine J_ifN_ne C 55 d_Ses_admitSequenced_48 (by decide) (by omega) (fun hc48 => absurd hc48 (by decide)) (fun hc48 => ?_)
      refine J_iconst C d_Ses_admitSequenced_51 (v := nI 1) rfl ?_
      refine J_goto C 56 d_Ses_admitSequenced_52 (by decide) ?_
      refine K_putZ C f_Ses_35 (by decide) (e_55 _) (Nat.le_of_ble_eq_true rfl) (Or.inr rfl) rfl d_Ses_admitSequenced_56 (kk := ?_)
      refine J_iload_n C 3 d_Ses_admitSequenced_59 rfl rfl ?_
      refine J_ifN_eq C 77 d_Ses_admitSequenced_60 (by decide) (by omega) (fun hc60 => ?_) (fun hc60 => absurd hc60 (by decide))
      refine J_iload_n C 3 d_Ses_admitSequenced_77 rfl rfl ?_
      exact F_zret C hr (Or.inl rfl) (by unfold rASq; (repeat' split) <;> first | contradiction | (exfalso; omega) | rfl) (by unfold fASq; (repeat' split) <;> first | contradiction | (exfalso; omega) | rfl) d_Ses_admitSequenced_78
    · refine J_aload_n C 0 d_Ses_admitSequenced_23 rfl rfl ?_
      refine J_get C f_Ses_48 (by decide) (e_55 _) rfl d_Ses_admitSequenced_24 ?_
      refine J_aload_n C 0 d_Ses_admitSequenced_27 rfl rfl ?_
      refine J_get C f_Ses_12 (by decide) (e_55 _) rfl d_Ses_admitSequenced_28 ?_
      refine P_callV C (as := []) (st := [.ref 3]) (p_blocksOfAll l D dA M c0 ln hc0 hc8 hl hl2) l_Ses_113 v_Har_blocksOfAll (by decide) (e_56 _) rfl (by decide) (by decide) (by decide) (Nat.le_of_ble_eq_true rfl) d_Ses_admitSequenced_31 (kk := ?_)
      refine P_callV C (as := [.int (nI (fSumB ln c0))]) (st := []) (p_hasRoom l D dA M (fSumB ln c0) fr hfr (by have := fSumB_le (ln := ln) c0 hl2; omega) hf2) l_Ses_116 v_Sto_hasRoom (by decide) (e_3 _) rfl (by decide) (by decide) (by decide) (Nat.le_of_ble_eq_true rfl) d_Ses_admitSequenced_34 (kk := ?_)
      refine J_val (y := rm) hrm.symm ?_
      refine J_if_eq C 44 d_Ses_admitSequenced_37 (by decide) (fun hc37 => ?_) (fun hc37 => ?_)
      · refine J_iconst C d_Ses_admitSequenced_44 (v := nI 0) rfl ?_
        refine J_istore_n C 3 d_Ses_admitSequenced_45 rfl (by decide) rfl ?_
        refine J_aload_n C 0 d_Ses_admitSequenced_46 rfl rfl ?_
        refine J_iload_n C 3 d_Ses_admitSequenced_47 rfl rfl ?_
        refine J_ifN_ne C 55 d_Ses_admitSequenced_48 (by decide) (by omega) (fun hc48 => absurd hc48 (by decide)) (fun hc48 => ?_)
        refine J_iconst C d_Ses_admitSequenced_51 (v := nI 1) rfl ?_
        refine J_goto C 56 d_Ses_admitSequenced_52 (by decide) ?_
        refine K_putZ C f_Ses_35 (by decide) (e_55 _) (Nat.le_of_ble_eq_true rfl) (Or.inr rfl) rfl d_Ses_admitSequenced_56 (kk := ?_)
        refine J_iload_n C 3 d_Ses_admitSequenced_59 rfl rfl ?_
        refine J_ifN_eq C 77 d_Ses_admitSequenced_60 (by decide) (by omega) (fun hc60 => ?_) (fun hc60 => absurd hc60 (by decide))
        refine J_iload_n C 3 d_Ses_admitSequenced_77 rfl rfl ?_
        exact F_zret C hr (Or.inl rfl) (by unfold rASq; (repeat' split) <;> first | contradiction | (exfalso; omega) | rfl) (by unfold fASq; (repeat' split) <;> first | contradiction | (exfalso; omega) | rfl) d_Ses_admitSequenced_78
      · refine J_iconst C d_Ses_admitSequenced_40 (v := nI 1) rfl ?_
        refine J_goto C 45 d_Ses_admitSequenced_41 (by decide) ?_
        refine J_istore_n C 3 d_Ses_admitSequenced_45 rfl (by decide) rfl ?_
        refine J_aload_n C 0 d_Ses_admitSequenced_46 rfl rfl ?_
        refine J_iload_n C 3 d_Ses_admitSequenced_47 rfl rfl ?_
        refine J_ifN_ne C 55 d_Ses_admitSequenced_48 (by decide) (by omega) (fun hc48 => ?_) (fun hc48 => absurd hc48 (by decide))
        refine J_iconst C d_Ses_admitSequenced_55 (v := nI 0) rfl ?_
        refine K_putZ C f_Ses_35 (by decide) (e_55 _) (Nat.le_of_ble_eq_true rfl) (Or.inl rfl) rfl d_Ses_admitSequenced_56 (kk := ?_)
        refine J_iload_n C 3 d_Ses_admitSequenced_59 rfl rfl ?_
        refine J_ifN_eq C 77 d_Ses_admitSequenced_60 (by decide) (by omega) (fun hc60 => absurd hc60 (by decide)) (fun hc60 => ?_)
        refine J_aload_n C 0 d_Ses_admitSequenced_63 rfl rfl ?_
        refine J_aload_n C 0 d_Ses_admitSequenced_64 rfl rfl ?_
        refine J_get C f_Ses_32 (by decide) (e_55 _) rfl d_Ses_admitSequenced_65 ?_
        refine J_val (y := M 55 5) rfl ?_
        refine J_iconst C d_Ses_admitSequenced_68 (v := nI 1) rfl ?_
        refine J_iadd C d_Ses_admitSequenced_69 ?_
        refine J_sipush C d_Ses_admitSequenced_70 (v := nI 255) rfl ?_
        refine J_iand C d_Ses_admitSequenced_73 ?_
        refine K_putI C f_Ses_32 (by decide) (e_55 _) (Nat.le_of_ble_eq_true rfl) rfl d_Ses_admitSequenced_74 (kk := ?_)
        refine J_iload_n C 3 d_Ses_admitSequenced_77 rfl rfl ?_
        exact F_zret C hr (Or.inr rfl) (by unfold rASq; (repeat' split) <;> first | contradiction | (exfalso; omega) | rfl) (by unfold fASq; (repeat' split) <;> first | contradiction | (exfalso; omega) | rfl) d_Ses_admitSequenced_78
  · refine J_iconst C d_Ses_admitSequenced_17 (v := nI 0) rfl ?_
    exact F_zret C hr (Or.inl rfl) (by unfold rASq; (repeat' split) <;> first | contradiction | (exfalso; omega) | rfl) (by unfold fASq; (repeat' split) <;> first | contradiction | (exfalso; omega) | rfl) d_Ses_admitSequenced_18

def fSet (M : Mem) (j n : Nat) : Mem := if M 55 9 = 0 then fFg M j else ma (mu (mu M (61 + 2 * j) 2 (nI 1)) (61 + 2 * j) 1 (nI n)) (62 + 2 * j) (va_cpy (M 57) (M (62 + 2 * j)) 0 0 n)
set_option maxHeartbeats 4000000 in
set_option maxRecDepth 100000 in
theorem f_settle (l : Launch) (D : va_G) (dA : Nat → ClassId) (M : Mem) (j n : Nat) (hj : j < 4) (ht : M 55 8 = nI (j + 1)) (hn : M 56 3 = nI n) (hn2 : n ≤ 60) : CF l D dA k_Ses_settleStream 1 [.ref 55] M (none) (fSet M j n) := by
  refine CF.of (by decide +kernel) (Nat.le_of_ble_eq_true rfl) (by intro v hv; simp only [List.mem_cons, List.not_mem_nil, or_false] at hv; rcases hv with rfl <;> rfl) ?_
  intro A ad0 p e s m args below meth c C hr
  refine J_aload_n C 0 d_Ses_settleStream_0 rfl rfl ?_
  refine J_get C f_Ses_41 (by decide) (e_55 _) rfl d_Ses_settleStream_1 ?_
  refine J_vref (show zT (M 55 8) = .ref (61 + 2 * j) by rw [ht]; exact zT_s hj) ?_
  refine J_ifnonnull C 8 d_Ses_settleStream_4 (by decide) ?_
  refine J_aload_n C 0 d_Ses_settleStream_8 rfl rfl ?_
  refine J_get C f_Ses_45 (by decide) (e_55 _) rfl d_Ses_settleStream_9 ?_
  refine J_if_eq C 29 d_Ses_settleStream_12 (by decide) (fun hc12 => ?_) (fun hc12 => ?_)
  · refine J_aload_n C 0 d_Ses_settleStream_29 rfl rfl ?_
    refine J_get C f_Ses_41 (by decide) (e_55 _) rfl d_Ses_settleStream_30 ?_
    refine J_vref (show zT (M 55 8) = .ref (61 + 2 * j) by rw [ht]; exact zT_s hj) ?_
    refine F_callV C (as := []) (st := []) (f_forget l D dA M j (by omega)) l_Ses_110 v_Str_forget (by omega) (e_st _ (by omega)) rfl (by decide) (by decide) (Nat.le_of_ble_eq_true rfl) d_Ses_settleStream_33 (kk := ?_)
    exact F_ret C hr (by unfold fSet; (repeat' split) <;> first | contradiction | (exfalso; omega) | rfl) d_Ses_settleStream_36
  · refine J_aload_n C 0 d_Ses_settleStream_15 rfl rfl ?_
    refine J_get C f_Ses_41 (by decide) (e_55 _) rfl d_Ses_settleStream_16 ?_
    refine J_vref (show zT (M 55 8) = .ref (61 + 2 * j) by rw [ht]; exact zT_s hj) ?_
    refine J_aload_n C 0 d_Ses_settleStream_19 rfl rfl ?_
    refine J_get C f_Ses_12 (by decide) (e_55 _) rfl d_Ses_settleStream_20 ?_
    refine F_callV C (as := [.ref 56]) (st := []) (f_hold l D dA M j n hj hn hn2) l_Ses_171 v_Str_hold (by omega) (e_st _ (by omega)) rfl (by decide) (by decide) (Nat.le_of_ble_eq_true rfl) d_Ses_settleStream_23 (kk := ?_)
    refine J_goto C 36 d_Ses_settleStream_26 (by decide) ?_
    exact F_ret C hr (by unfold fSet; (repeat' split) <;> first | contradiction | (exfalso; omega) | rfl) d_Ses_settleStream_36

set_option maxHeartbeats 4000000 in
set_option maxRecDepth 100000 in
theorem f_settle0 (l : Launch) (D : va_G) (dA : Nat → ClassId) (M : Mem) (ht : M 55 8 = nI 0) : CF l D dA k_Ses_settleStream 1 [.ref 55] M (none) (M) := by
  refine CF.of (by decide +kernel) (Nat.le_of_ble_eq_true rfl) (by intro v hv; simp only [List.mem_cons, List.not_mem_nil, or_false] at hv; rcases hv with rfl <;> rfl) ?_
  intro A ad0 p e s m args below meth c C hr
  refine J_aload_n C 0 d_Ses_settleStream_0 rfl rfl ?_
  refine J_get C f_Ses_41 (by decide) (e_55 _) rfl d_Ses_settleStream_1 ?_
  refine J_vref (show zT (M 55 8) = .null by rw [ht]; rfl) ?_
  refine J_ifnonnullN C d_Ses_settleStream_4 ?_
  exact F_ret C hr rfl d_Ses_settleStream_7
