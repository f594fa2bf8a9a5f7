set_option maxHeartbeats 4000000 in
set_option maxRecDepth 100000 in
theorem k_receive (l : Launch) (D : va_G) (dA : Nat → ClassId) (M0 X0 X9 : Mem) (p0 : Int32) (n N9 : Nat) (hn1 : 1 ≤ n) (hn4 : n ≤ 4) (ho : X0 76 3 = 0) (hRc : RcR M0 X0) (hA : XA X0) (hW : XW X0) (h70 : nX X0 ≤ 70) (hX9 : rcM p0 n X0 = X9) (hN9 : rcN p0 n X0 = N9) : CM l D dA k_Orb_receive 7 [.ref 0, .int p0, .int (nI n)] M0 (fun v M' => v = some (.int (nI N9)) ∧ RcR M' X9 ∧ ∀ p0, 73 ≤ p0 → M' p0 = M0 p0) := by
  refine CM.of (by decide +kernel) (Nat.le_of_ble_eq_true rfl) (by intro v hv; simp only [List.mem_cons, List.not_mem_nil, or_false] at hv; rcases hv with rfl | rfl | rfl <;> rfl) ?_
  intro A ad0 p e s m args below meth c C hr
  have ho3 : M0 3 9 = 0 := by obtain ⟨⟨c0, ln, em, bk, q, hS, hR⟩, _⟩ := hRc; rw [hR.2.2.2.2.2.2.1]; exact ho
  have lp : ∀ (r k : Nat) (M X : Mem), r ≤ 4 → RcR M X → XA X → XW X → (X 76 3 = 0 → nX X ≤ 70) → (∀ p0, 73 ≤ p0 → M p0 = M0 p0) → k + rcN p0 r X = N9 → rcM p0 r X = X9 → J D dA A (fun _ _ => True) ad0 90 k_Orb_receive.2.2.1 p l e (zR 7 0 0) s m args below meth c (KQ D dA A ad0 below args s (fun v M' => v = some (.int (nI N9)) ∧ RcR M' X9 ∧ ∀ p0, 73 ≤ p0 → M' p0 = M0 p0)) 43 [some (.ref 0), some (.int p0), none, some (.int (nI k)), some (.int (bitOf r))] [] (E M) 90 0 0 := by
    intro r
    induction r with
    | zero =>
      intro k M X hr4 hRc hA hW h70 hfr hN hF
      have hN : k = N9 := hN
      show J D dA A (fun _ _ => True) ad0 90 k_Orb_receive.2.2.1 p l e (zR 7 0 0) s m args below meth c (KQ D dA A ad0 below args s (fun v M' => v = some (.int (nI N9)) ∧ RcR M' X9 ∧ ∀ p0, 73 ≤ p0 → M' p0 = M0 p0)) 43 [some (.ref 0), some (.int p0), none, some (.int (nI k)), some (.int (-1))] [] (E M) 90 0 0
      refine J_iload C d_Orb_receive_43 rfl ?_
      refine J_if_lt C 89 d_Orb_receive_45 (by decide) (fun hc45 => ?_) (fun hc45 => absurd (show (-1 : Int32) < 0 by decide) hc45)
      refine J_iload_n C 3 d_Orb_receive_89 rfl rfl ?_
      refine KK_iret C hr ?_ d_Orb_receive_90
      rw [← hN, ← show X = X9 from hF]
      exact ⟨rfl, hRc, hfr⟩
    | succ r ih =>
      intro k M X hr4 hRc hA hW h70 hfr hN hF
      show J D dA A (fun _ _ => True) ad0 90 k_Orb_receive.2.2.1 p l e (zR 7 0 0) s m args below meth c (KQ D dA A ad0 below args s (fun v M' => v = some (.int (nI N9)) ∧ RcR M' X9 ∧ ∀ p0, 73 ≤ p0 → M' p0 = M0 p0)) 43 [some (.ref 0), some (.int p0), none, some (.int (nI k)), some (.int (nI r))] [] (E M) 90 0 0
      refine J_iload C d_Orb_receive_43 rfl ?_
      refine J_ifN_lt C d_Orb_receive_45 89 (by decide) (by omega) ?_
      refine J_aload_n C 0 d_Orb_receive_48 rfl rfl ?_
      refine J_get C f_Orb_22 (by decide) (e_0 _) rfl d_Orb_receive_49 ?_
      refine J_get C f_Orb_71 (by decide) (e_3 _) rfl d_Orb_receive_52 ?_
      refine J_if_ne C 89 d_Orb_receive_55 (by decide) (fun hc55 => ?_) (fun hc55 => ?_)
      · refine J_iload_n C 3 d_Orb_receive_89 rfl rfl ?_
        refine KK_iret C hr ?_ d_Orb_receive_90
        have hoX : ¬ X 76 3 = 0 := by obtain ⟨⟨c0, ln, em, bk, q, hS, hR⟩, _⟩ := hRc; rw [← hR.2.2.2.2.2.2.1]; exact hc55
        unfold rcM at hF
        unfold rcN at hN
        rw [if_neg hoX] at hF hN
        rw [← hN, ← hF]
        exact ⟨rfl, hRc, hfr⟩
      · have hoX : X 76 3 = 0 := by obtain ⟨⟨c0, ln, em, bk, q, hS, hR⟩, _⟩ := hRc; rw [← hR.2.2.2.2.2.2.1]; exact hc55
        refine J_aload_n C 0 d_Orb_receive_58 rfl rfl ?_
        refine J_get C f_Orb_38 (by decide) (e_0 _) rfl d_Orb_receive_59 ?_
        refine J_iload_n C 1 d_Orb_receive_62 rfl rfl ?_
        refine J_bipush C d_Orb_receive_63 (v := nI 8) rfl ?_
        refine J_iload C d_Orb_receive_65 rfl ?_
        refine J_imulN C d_Orb_receive_67 ?_
        refine J_iushr C d_Orb_receive_68 rfl ?_
        refine J_sipush C d_Orb_receive_69 (v := nI 255) rfl ?_
        refine J_iand C d_Orb_receive_72 ?_
        refine J_val (y := nI (byt p0 r)) ((wb_eq p0 (8 * r) (by omega)).trans (byt_eq p0 r).1) ?_
        refine F_callV C (as := [.int (nI (byt p0 r))]) (st := []) (f_put l D dA M (nX X) (nI (byt p0 r)) (hRc.2.2.2.1.1.trans hW.1) (by have := h70 hoX; omega)) l_Orb_78 v_Lan_put (by decide) (e_69 _) rfl (by decide) (by decide) (Nat.le_of_ble_eq_true rfl) d_Orb_receive_73 (kk := ?_)
        refine J_iload_n C 3 d_Orb_receive_76 rfl rfl ?_
        refine J_aload_n C 0 d_Orb_receive_77 rfl rfl ?_
        refine K_callV C (as := []) (st := [.int (nI k)]) (k_takeFrames l D dA (mu (mu M 70 (nX X) (nI (byt p0 r))) 69 2 (nI (nX X + 1))) (putX X (nI (byt p0 r))) _ _ (put_rel hRc rfl (h70 hoX)) (hA.put _) (hW.put (h70 hoX) (byt_eq p0 r).2) rfl rfl) l_Orb_82 v_Orb_takeFrames (by decide) (e_0 _) rfl (by decide) (by decide) (Nat.le_of_ble_eq_true rfl) d_Orb_receive_78 (kk := ?_)
        intro v M2 hP
        obtain ⟨rfl, hRc2, hfr2⟩ := hP
        refine J_mem (M2 := M2) rfl ?_
        refine J_iaddN C d_Orb_receive_81 ?_
        refine J_istore_n C 3 d_Orb_receive_82 rfl (by decide) rfl ?_
        refine J_iinc C d_Orb_receive_83 rfl (v := bitOf r) (bitOf_s r) (by decide) rfl ?_
        refine J_goto C 43 d_Orb_receive_86 (by decide) ?_
        unfold rcM at hF
        unfold rcN at hN
        rw [if_pos hoX] at hF hN
        have q := byM_inv 72 (putX X (nI (byt p0 r))) (by rw [nX_put _ hW.2.1]; have := h70 hoX; omega) (hA.put _) (hW.put (h70 hoX) (byt_eq p0 r).2)
        exact ih _ M2 _ (by omega) hRc2 q.1 q.2.1 q.2.2 (fun p0 a => by rw [hfr2 p0 a, mu_p _ _ _ (by omega), mu_p _ _ _ (by omega)]; exact hfr p0 a) (by omega) hF
  refine J_aload_n C 0 d_Orb_receive_0 rfl rfl ?_
  refine J_get C f_Orb_22 (by decide) (e_0 _) rfl d_Orb_receive_1 ?_
  refine J_get C f_Orb_71 (by decide) (e_3 _) rfl d_Orb_receive_4 ?_
  refine J_if_eq C 18 d_Orb_receive_7 (by decide) (fun hc7 => ?_) (fun hc7 => absurd ho3 hc7)
  refine J_iload_n C 2 d_Orb_receive_18 rfl rfl ?_
  refine J_iconst C d_Orb_receive_19 (v := nI 1) rfl ?_
  refine J_icmpN_lt C 28 d_Orb_receive_20 (by decide) (by omega) (by omega) (fun hc20 => absurd hc20 (by omega)) (fun hc20 => ?_)
  refine J_iload_n C 2 d_Orb_receive_23 rfl rfl ?_
  refine J_iconst C d_Orb_receive_24 (v := nI 4) rfl ?_
  refine J_icmpN_le C 36 d_Orb_receive_25 (by decide) (by omega) (by omega) (fun hc25 => ?_) (fun hc25 => absurd hc25 (by omega))
  refine J_iconst C d_Orb_receive_36 (v := nI 0) rfl ?_
  refine J_istore_n C 3 d_Orb_receive_37 rfl (by decide) rfl ?_
  refine J_iload_n C 2 d_Orb_receive_38 rfl rfl ?_
  refine J_iconst C d_Orb_receive_39 (v := nI 1) rfl ?_
  refine J_isubN C d_Orb_receive_40 (by omega) ?_
  refine J_istore C d_Orb_receive_41 (by decide) rfl ?_
  refine J_lv (lv' := [some (.ref 0), some (.int p0), none, some (.int (nI 0)), some (.int (nI (n - 1)))]) (by intro i v hv; match i, hv with | 0, hv => exact hv | 1, hv => exact hv | 2, hv => simp at hv | 3, hv => exact hv | 4, hv => exact hv | _ + 5, hv => simp at hv) ?_
  obtain ⟨r, rfl⟩ : ∃ r, n = r + 1 := ⟨n - 1, by omega⟩
  exact lp (r + 1) 0 M0 X0 hn4 hRc hA hW (fun _ => h70) (fun _ _ => rfl) (by omega) hX9

set_option maxHeartbeats 4000000 in
set_option maxRecDepth 100000 in
theorem k_send (l : Launch) (D : va_G) (dA : Nat → ClassId) (M0 X : Mem) (w n0 : Nat) (hw : w ≤ 1) (hn : n0 < 1000) (hSR : SR M0 X) (hER : ER n0 M0 X) (hEL : EL X) (ho : X 76 3 = 0) (hp : ¬ (M0 2 1).toInt64 = 0) (hse : ¬ fOpen (M0 0 6) (M0 2 0) (M0 2 1) (M0 2 2) = 0) : CM l D dA k_Orb_send 6 [.ref 0, .int (nI w)] M0 (fun v M' => v = some (.int (M0 75 w)) ∧ SR M' (fSnd X w) ∧ ER (n0 + 1) M' (fSnd X w) ∧ EL (fSnd X w) ∧ ∀ p0, p0 < 3 ∨ 55 ≤ p0 → p0 ≠ 73 → p0 ≠ 74 → p0 ≠ 75 → M' p0 = M0 p0) := by
  refine CM.of (by decide +kernel) (Nat.le_of_ble_eq_true rfl) (by intro v hv; simp only [List.mem_cons, List.not_mem_nil, or_false] at hv; rcases hv with rfl | rfl <;> rfl) ?_
  intro A ad0 p e s m args below meth c C hr
  have ho3 : M0 3 9 = 0 := by obtain ⟨c0, ln, em, bk, q, hS, hR⟩ := hSR; rw [hR.2.2.2.2.2.2.1]; exact ho
  refine J_aload_n C 0 d_Orb_send_0 rfl rfl ?_
  refine J_get C f_Orb_22 (by decide) (e_0 _) rfl d_Orb_send_1 ?_
  refine J_get C f_Orb_71 (by decide) (e_3 _) rfl d_Orb_send_4 ?_
  refine J_if_eq C 18 d_Orb_send_7 (by decide) (fun hc7 => ?_) (fun hc7 => absurd ho3 hc7)
  refine J_iload_n C 1 d_Orb_send_18 rfl rfl ?_
  refine P_callS C (as := [.int (nI w)]) (st := []) (p_isNoPair l D dA M0 (nI w)) l_Orb_53 s_Orb_isNoPair rfl (by decide) (by decide) (by decide) (Nat.le_of_ble_eq_true rfl) d_Orb_send_19 (kk := ?_)
  refine J_val (y := nI 0) (by rcases (show w = 0 ∨ w = 1 by omega) with z | z <;> subst z <;> decide) ?_
  refine J_ifN_eq C 33 d_Orb_send_22 (by decide) (by omega) (fun hc22 => ?_) (fun hc22 => absurd hc22 (by decide))
  refine J_aload_n C 0 d_Orb_send_33 rfl rfl ?_
  refine J_get C f_Orb_16 (by decide) (e_0 _) rfl d_Orb_send_34 ?_
  refine J_aload_n C 0 d_Orb_send_37 rfl rfl ?_
  refine J_get C f_Orb_49 (by decide) (e_0 _) rfl d_Orb_send_38 ?_
  refine P_callV C (as := [.int (M0 0 6)]) (st := []) (p_isOpen_2 l D dA M0 (M0 0 6) hp) l_Orb_68 v_Win_isOpen (by decide) (e_2 _) rfl (by decide) (by decide) (by decide) (Nat.le_of_ble_eq_true rfl) d_Orb_send_41 (kk := ?_)
  refine J_if_ne C 55 d_Orb_send_44 (by decide) (fun hc44 => ?_) (fun hc44 => absurd hc44 hse)
  refine J_aload_n C 0 d_Orb_send_55 rfl rfl ?_
  refine J_get C f_Orb_45 (by decide) (e_0 _) rfl d_Orb_send_56 ?_
  refine J_iload_n C 1 d_Orb_send_59 rfl rfl ?_
  refine J_aload_n C 0 d_Orb_send_60 rfl rfl ?_
  refine J_get C f_Orb_22 (by decide) (e_0 _) rfl d_Orb_send_61 ?_
  refine K_callV C (as := [.int (nI w), .ref 3]) (st := []) (k_emit l D dA M0 X w n0 hw hn hSR hER hEL ho) l_Orb_92 v_Ear_emit (by decide) (e_73 _) rfl (by decide) (by decide) (Nat.le_of_ble_eq_true rfl) d_Orb_send_64 (kk := ?_)
  intro v M2 hP
  obtain ⟨rfl, hq⟩ := hP
  refine J_mem (M2 := M2) rfl ?_
  refine KK_iret C hr ?_ d_Orb_send_67
  exact ⟨rfl, hq⟩
