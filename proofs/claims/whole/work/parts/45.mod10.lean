theorem LookM_0 {n : Nat} {w : Nat → Nat} {ck : Int32} (h : LookM n w ck = 0) : n ≤ 70 := by
  rcases Nat.lt_or_ge 70 n with h1 | h1
  · exfalso
    revert h
    unfold LookM
    rw [if_neg (by omega)]
    by_cases a1 : ¬ w 0 = 250
    · rw [if_pos a1]; decide
    rw [if_neg a1, if_neg (by omega)]
    by_cases a2 : ¬ w 1 = 243
    · rw [if_pos a2]; decide
    rw [if_neg a2, if_neg (by omega)]
    by_cases a3 : ¬ w 2 = 32
    · rw [if_pos a3]; decide
    rw [if_neg a3, if_neg (by omega)]
    by_cases a4 : ¬ w 3 / 64 = 2
    · rw [if_pos a4]; decide
    rw [if_neg a4, if_neg (by omega)]
    by_cases a5 : w 5 % 8 * 256 + w 6 + 1 < 5
    · rw [if_pos a5]; decide
    rw [if_neg a5]
    by_cases a6 : 64 < w 5 % 8 * 256 + w 6 + 1
    · rw [if_pos a6]; decide
    rw [if_neg a6, if_neg (by omega)]
    by_cases a7 : ck = 0
    · rw [if_pos a7]; decide
    · rw [if_neg a7]; decide
  · exact h1
theorem tdX_b {X : Mem} (h0 : ¬ lkX X = 0) (h1 : ¬ lkX X = nI 1) : 5 ≤ tdX X ∧ tdX X ≤ 64 ∧ tdX X + 7 ≤ nX X := by
  have h := LookM_2 h0 h1
  have e : tdX X = wX X 5 % 8 * 256 + wX X 6 + 1 := rfl
  omega
theorem byM_inv : ∀ (f : Nat) (X : Mem), nX X < f → XA X → XW X → XA (byM f X) ∧ XW (byM f X) ∧ (byM f X 76 3 = 0 → nX (byM f X) ≤ 70)
  | 0, _, h, _, _ => absurd h (Nat.not_lt_zero _)
  | f + 1, X, h, hA, hW => by
    unfold byM
    by_cases h0 : lkX X = 0
    · rw [if_pos h0]; exact ⟨hA, hW, fun _ => LookM_0 h0⟩
    rw [if_neg h0]
    have hn := LookM_n h0
    by_cases h1 : X 76 3 = 0
    · rw [if_pos h1]
      by_cases h2 : lkX X = nI 1
      · rw [if_pos h2]
        exact byM_inv f _ (by rw [nX_lv _ _ hW.2.1]; omega) (hA.lv 1) (hW.lv (by omega))
      · rw [if_neg h2]
        have hb := tdX_b h0 h2
        exact byM_inv f _ (by rw [nX_lv _ _ (by rw [nX_tk]; exact hW.2.1), nX_tk]; omega) ((hA.tk hb.1 hb.2.1 (fun i hi => (hW.2.2 i (by omega)).1) (fun i hi => (hW.2.2 i (by omega)).2)).lv _) ((hW.tk _ _).lv (by omega))
    · rw [if_neg h1]; exact ⟨hA, hW, fun q => absurd q h1⟩
def byt (p0 : Int32) (i : Nat) : Nat := ((p0 >>> (nI (8 * i) &&& 31)) &&& nI 255).toNatClampNeg
theorem and255 (x : Int32) : ∃ v, v < 256 ∧ x &&& nI 255 = nI v := by
  refine ⟨(x &&& nI 255).toBitVec.toNat, ?_, ?_⟩
  · have : (x &&& nI 255).toBitVec = x.toBitVec &&& 255#32 := rfl
    rw [this, BitVec.toNat_and]
    exact Nat.lt_of_le_of_lt Nat.and_le_right (by decide)
  · apply Int32.toBitVec_inj.mp
    apply BitVec.eq_of_toNat_eq
    show _ = (BitVec.ofNat 32 _).toNat
    rw [BitVec.toNat_ofNat, Nat.mod_eq_of_lt (BitVec.isLt _)]
theorem byt_eq (p0 : Int32) (i : Nat) : (p0 >>> (nI (8 * i) &&& 31)) &&& nI 255 = nI (byt p0 i) ∧ byt p0 i < 256 := by
  obtain ⟨v, h1, h2⟩ := and255 (p0 >>> (nI (8 * i) &&& 31))
  have e : byt p0 i = v := by unfold byt; rw [h2, nI_clamp (by omega)]
  rw [e]
  exact ⟨h2, h1⟩
def rcM (p0 : Int32) : Nat → Mem → Mem
  | 0, X => X
  | i + 1, X => if X 76 3 = 0 then rcM p0 i (byM 72 (putX X (nI (byt p0 i)))) else X
def rcN (p0 : Int32) : Nat → Mem → Nat
  | 0, _ => 0
  | i + 1, X => if X 76 3 = 0 then byN 72 (putX X (nI (byt p0 i))) + rcN p0 i (byM 72 (putX X (nI (byt p0 i)))) else 0
theorem rc_inv (p0 : Int32) : ∀ (i : Nat) (X : Mem), XA X → XW X → (X 76 3 = 0 → nX X ≤ 70) → XA (rcM p0 i X) ∧ XW (rcM p0 i X) ∧ (rcM p0 i X 76 3 = 0 → nX (rcM p0 i X) ≤ 70)
  | 0, X, hA, hW, h70 => ⟨hA, hW, h70⟩
  | i + 1, X, hA, hW, h70 => by
    unfold rcM
    by_cases h1 : X 76 3 = 0
    · rw [if_pos h1]
      have q := byM_inv 72 (putX X (nI (byt p0 i))) (by rw [nX_put _ hW.2.1]; have := h70 h1; omega) (hA.put _) (hW.put (h70 h1) (byt_eq p0 i).2)
      exact rc_inv p0 i _ q.1 q.2.1 q.2.2
    · rw [if_neg h1]; exact ⟨hA, hW, h70⟩
set_option maxHeartbeats 4000000 in
set_option maxRecDepth 100000 in
theorem fm_receive (l : Launch) (D : va_G) (dA : Nat → ClassId) (M : Mem) (p0 : Int32) (n : Nat) (hn1 : 1 ≤ n) (hn4 : n ≤ 4) (ho : M 76 3 = 0) (hA : XA M) (hW : XW M) (h70 : nX M ≤ 70) : CF l D dA k_Mod_receive 7 [.ref 76, .int p0, .int (nI n)] M (some (.int (nI (rcN p0 n (mu M 76 0 (nI 0)))))) (rcM p0 n (mu M 76 0 (nI 0))) := by
  refine CF.of (by decide +kernel) (Nat.le_of_ble_eq_true rfl) (by intro v hv; simp only [List.mem_cons, List.not_mem_nil, or_false] at hv; rcases hv with rfl | rfl | rfl <;> rfl) ?_
  intro A ad0 p e s m args below meth c C hr
  refine J_aload_n C 0 d_Mod_receive_0 rfl rfl ?_
  refine J_aload_n C 0 d_Mod_receive_1 rfl rfl ?_
  refine J_get C f_Mod_20 (by decide) (e_76 _) rfl d_Mod_receive_2 ?_
  refine J_if_eq C 12 d_Mod_receive_5 (by decide) (fun hc5 => ?_) (fun hc5 => absurd ho hc5)
  refine J_iload_n C 2 d_Mod_receive_12 rfl rfl ?_
  refine J_iconst C d_Mod_receive_13 (v := nI 1) rfl ?_
  refine J_icmpN_lt C 22 d_Mod_receive_14 (by decide) (by omega) (by omega) (fun hc14 => absurd hc14 (by omega)) (fun hc14 => ?_)
  refine J_iload_n C 2 d_Mod_receive_17 rfl rfl ?_
  refine J_iconst C d_Mod_receive_18 (v := nI 4) rfl ?_
  refine J_icmpN_le C 26 d_Mod_receive_19 (by decide) (by omega) (by omega) (fun hc19 => ?_) (fun hc19 => absurd hc19 (by omega))
  refine J_iconst C d_Mod_receive_26 (v := nI 0) rfl ?_
  refine K_putI C f_Mod_7 (by decide) (e_76 _) (Nat.le_of_ble_eq_true rfl) rfl d_Mod_receive_27 (kk := ?_)
  refine J_aload_n C 0 d_Mod_receive_30 rfl rfl ?_
  refine J_get C f_Mod_7 (by decide) (e_76 _) rfl d_Mod_receive_31 ?_
  refine J_val (y := nI 0) rfl ?_
  refine J_ifN_eq C 39 d_Mod_receive_34 (by decide) (by omega) (fun hc34 => ?_) (fun hc34 => absurd hc34 (by decide))
  refine J_iconst C d_Mod_receive_39 (v := nI 0) rfl ?_
  refine J_istore_n C 3 d_Mod_receive_40 rfl (by decide) rfl ?_
  refine J_iload_n C 2 d_Mod_receive_41 rfl rfl ?_
  refine J_iconst C d_Mod_receive_42 (v := nI 1) rfl ?_
  refine J_isubN C d_Mod_receive_43 (by omega) ?_
  refine J_istore C d_Mod_receive_44 (by decide) rfl ?_
  generalize hM9 : rcM p0 n (mu M 76 0 (nI 0)) = M9
  generalize hN9 : rcN p0 n (mu M 76 0 (nI 0)) = N9
  refine J_lv (lv' := [some (.ref 76), some (.int p0), none, some (.int (nI 0)), some (.int (nI (n - 1)))]) (by intro i v hv; match i, hv with | 0, hv => exact hv | 1, hv => exact hv | 2, hv => simp at hv | 3, hv => exact hv | 4, hv => exact hv | _ + 5, hv => simp at hv) ?_
  have lp : ∀ (r k : Nat) (X : Mem), r ≤ 4 → XA X → XW X → (X 76 3 = 0 → nX X ≤ 70) → k + rcN p0 r X = N9 → rcM p0 r X = M9 → J D dA A (fun _ _ => True) ad0 90 k_Mod_receive.2.2.1 p l e (zR 7 0 0) s m args below meth c (FQ D dA A ad0 below args s (some (.int (nI N9))) (M9)) 46 [some (.ref 76), some (.int p0), none, some (.int (nI k)), some (.int (bitOf r))] [] (E X) 90 0 0 := by
    intro r
    induction r with
    | zero =>
      intro k X hr4 hA hW h70 hN hF
      have hN : k = N9 := hN
      show J D dA A (fun _ _ => True) ad0 90 k_Mod_receive.2.2.1 p l e (zR 7 0 0) s m args below meth c (FQ D dA A ad0 below args s (some (.int (nI N9))) (M9)) 46 [some (.ref 76), some (.int p0), none, some (.int (nI k)), some (.int (-1))] [] (E X) 90 0 0
      refine J_iload C d_Mod_receive_46 rfl ?_
      refine J_if_lt C 82 d_Mod_receive_48 (by decide) (fun hc48 => ?_) (fun hc48 => absurd (show (-1 : Int32) < 0 by decide) hc48)
      refine J_iload_n C 3 d_Mod_receive_82 rfl rfl ?_
      exact F_iret C hr (by congr 1) hF d_Mod_receive_83
    | succ r ih =>
      intro k X hr4 hA hW h70 hN hF
      show J D dA A (fun _ _ => True) ad0 90 k_Mod_receive.2.2.1 p l e (zR 7 0 0) s m args below meth c (FQ D dA A ad0 below args s (some (.int (nI N9))) (M9)) 46 [some (.ref 76), some (.int p0), none, some (.int (nI k)), some (.int (nI r))] [] (E X) 90 0 0
      refine J_iload C d_Mod_receive_46 rfl ?_
      refine J_ifN_lt C d_Mod_receive_48 82 (by decide) (by omega) ?_
      refine J_aload_n C 0 d_Mod_receive_51 rfl rfl ?_
      refine J_get C f_Mod_20 (by decide) (e_76 _) rfl d_Mod_receive_52 ?_
      refine J_if_ne C 82 d_Mod_receive_55 (by decide) (fun hc55 => ?_) (fun hc55 => ?_)
      · refine J_iload_n C 3 d_Mod_receive_82 rfl rfl ?_
        exact F_iret C hr (by unfold rcN at hN; rw [if_neg hc55] at hN; congr 1) (by unfold rcM at hF; rw [if_neg hc55] at hF; exact hF) d_Mod_receive_83
      · refine J_iload_n C 3 d_Mod_receive_58 rfl rfl ?_
        refine J_aload_n C 0 d_Mod_receive_59 rfl rfl ?_
        refine J_iload_n C 1 d_Mod_receive_60 rfl rfl ?_
        refine J_bipush C d_Mod_receive_61 (v := nI 8) rfl ?_
        refine J_iload C d_Mod_receive_63 rfl ?_
        refine J_imulN C d_Mod_receive_65 ?_
        refine J_ishr C d_Mod_receive_66 ?_
        refine J_sipush C d_Mod_receive_67 (v := nI 255) rfl ?_
        refine J_iand C d_Mod_receive_70 ?_
        refine J_val (y := nI (byt p0 r)) (byt_eq p0 r).1 ?_
        refine F_callV C (as := [.int (nI (byt p0 r))]) (st := [.int (nI k)]) (fm_byteIn l D dA X (byt p0 r) (byt_eq p0 r).2 hA hW (h70 hc55)) l_Mod_154 v_Mod_byteIn (by decide) (e_76 _) rfl (by decide) (by decide) (Nat.le_of_ble_eq_true rfl) d_Mod_receive_71 (kk := ?_)
        refine J_iaddN C d_Mod_receive_74 ?_
        refine J_istore_n C 3 d_Mod_receive_75 rfl (by decide) rfl ?_
        refine J_iinc C d_Mod_receive_76 rfl (v := bitOf r) (bitOf_s r) (by decide) rfl ?_
        refine J_goto C 46 d_Mod_receive_79 (by decide) ?_
        refine J_lv (lv' := [some (.ref 76), some (.int p0), none, some (.int (nI (k + (byN 72 (putX X (nI (byt p0 r))))))), some (.int (bitOf r))]) (by intro i v hv; match i, hv with | 0, hv => exact hv | 1, hv => exact hv | 2, hv => simp at hv | 3, hv => exact hv | 4, hv => exact hv | _ + 5, hv => simp at hv) ?_
        unfold rcM at hF
        unfold rcN at hN
        rw [if_pos hc55] at hF hN
        have q := byM_inv 72 (putX X (nI (byt p0 r))) (by rw [nX_put _ hW.2.1]; have := h70 hc55; omega) (hA.put _) (hW.put (h70 hc55) (byt_eq p0 r).2)
        exact ih _ _ (by omega) q.1 q.2.1 q.2.2 (by omega) hF
  obtain ⟨r, rfl⟩ : ∃ r, n = r + 1 := ⟨n - 1, by omega⟩
  exact lp (r + 1) 0 _ hn4 (hA.k _ (by decide) (by decide) (by decide) (by decide)) (hW.eq rfl rfl) (fun _ => h70) (by omega) hM9

set_option maxHeartbeats 4000000 in
set_option maxRecDepth 100000 in
theorem fm_receiveX (l : Launch) (D : va_G) (dA : Nat → ClassId) (M : Mem) (p0 p1 : Int32) (ho : ¬ M 76 3 = 0) : CF l D dA k_Mod_receive 7 [.ref 76, .int p0, .int p1] M (some (.int (nI 0))) (mu M 76 0 (nI 1)) := by
  refine CF.of (by decide +kernel) (Nat.le_of_ble_eq_true rfl) (by intro v hv; simp only [List.mem_cons, List.not_mem_nil, or_false] at hv; rcases hv with rfl | rfl | rfl <;> rfl) ?_
  intro A ad0 p e s m args below meth c C hr
  refine J_aload_n C 0 d_Mod_receive_0 rfl rfl ?_
  refine J_aload_n C 0 d_Mod_receive_1 rfl rfl ?_
  refine J_get C f_Mod_20 (by decide) (e_76 _) rfl d_Mod_receive_2 ?_
  refine J_if_eq C 12 d_Mod_receive_5 (by decide) (fun hc5 => absurd hc5 ho) (fun hc5 => ?_)
  refine J_iconst C d_Mod_receive_8 (v := nI 1) rfl ?_
  refine J_goto C 27 d_Mod_receive_9 (by decide) ?_
  refine K_putI C f_Mod_7 (by decide) (e_76 _) (Nat.le_of_ble_eq_true rfl) rfl d_Mod_receive_27 (kk := ?_)
  refine J_aload_n C 0 d_Mod_receive_30 rfl rfl ?_
  refine J_get C f_Mod_7 (by decide) (e_76 _) rfl d_Mod_receive_31 ?_
  refine J_val (y := nI 1) rfl ?_
  refine J_ifN_eq C 39 d_Mod_receive_34 (by decide) (by omega) (fun hc34 => absurd hc34 (by decide)) (fun hc34 => ?_)
  refine J_iconst C d_Mod_receive_37 (v := nI 0) rfl ?_
  exact F_iret C hr rfl rfl d_Mod_receive_38

set_option maxHeartbeats 4000000 in
set_option maxRecDepth 100000 in
theorem fm_receiveN (l : Launch) (D : va_G) (dA : Nat → ClassId) (M : Mem) (p0 p1 : Int32) (ho : M 76 3 = 0) (hbad : p1 < nI 1 ∨ ¬ p1 ≤ nI 4) : CF l D dA k_Mod_receive 7 [.ref 76, .int p0, .int p1] M (some (.int (nI 0))) (mu M 76 0 (nI 2)) := by
  refine CF.of (by decide +kernel) (Nat.le_of_ble_eq_true rfl) (by intro v hv; simp only [List.mem_cons, List.not_mem_nil, or_false] at hv; rcases hv with rfl | rfl | rfl <;> rfl) ?_
  intro A ad0 p e s m args below meth c C hr
  refine J_aload_n C 0 d_Mod_receive_0 rfl rfl ?_
  refine J_aload_n C 0 d_Mod_receive_1 rfl rfl ?_
  refine J_get C f_Mod_20 (by decide) (e_76 _) rfl d_Mod_receive_2 ?_
  refine J_if_eq C 12 d_Mod_receive_5 (by decide) (fun hc5 => ?_) (fun hc5 => absurd ho hc5)
  refine J_iload_n C 2 d_Mod_receive_12 rfl rfl ?_
  refine J_iconst C d_Mod_receive_13 (v := nI 1) rfl ?_
  refine J_icmp_lt C 22 d_Mod_receive_14 (by decide) (fun hc14 => ?_) (fun hc14 => ?_)
  · refine J_iconst C d_Mod_receive_22 (v := nI 2) rfl ?_
    refine J_goto C 27 d_Mod_receive_23 (by decide) ?_
    refine K_putI C f_Mod_7 (by decide) (e_76 _) (Nat.le_of_ble_eq_true rfl) rfl d_Mod_receive_27 (kk := ?_)
    refine J_aload_n C 0 d_Mod_receive_30 rfl rfl ?_
    refine J_get C f_Mod_7 (by decide) (e_76 _) rfl d_Mod_receive_31 ?_
    refine J_val (y := nI 2) rfl ?_
    refine J_ifN_eq C 39 d_Mod_receive_34 (by decide) (by omega) (fun hc34 => absurd hc34 (by decide)) (fun hc34 => ?_)
    refine J_iconst C d_Mod_receive_37 (v := nI 0) rfl ?_
    exact F_iret C hr rfl rfl d_Mod_receive_38
  · refine J_iload_n C 2 d_Mod_receive_17 rfl rfl ?_
    refine J_iconst C d_Mod_receive_18 (v := nI 4) rfl ?_
    refine J_icmp_le C 26 d_Mod_receive_19 (by decide) (fun hc19 => ?_) (fun hc19 => ?_)
    · exact absurd hbad (by rintro (h | h) <;> contradiction)
    · refine J_iconst C d_Mod_receive_22 (v := nI 2) rfl ?_
      refine J_goto C 27 d_Mod_receive_23 (by decide) ?_
      refine K_putI C f_Mod_7 (by decide) (e_76 _) (Nat.le_of_ble_eq_true rfl) rfl d_Mod_receive_27 (kk := ?_)
      refine J_aload_n C 0 d_Mod_receive_30 rfl rfl ?_
      refine J_get C f_Mod_7 (by decide) (e_76 _) rfl d_Mod_receive_31 ?_
      refine J_val (y := nI 2) rfl ?_
      refine J_ifN_eq C 39 d_Mod_receive_34 (by decide) (by omega) (fun hc34 => absurd hc34 (by decide)) (fun hc34 => ?_)
      refine J_iconst C d_Mod_receive_37 (v := nI 0) rfl ?_
      exact F_iret C hr rfl rfl d_Mod_receive_38
