set_option maxHeartbeats 4000000 in
set_option maxRecDepth 100000 in
theorem w_receive (l : Launch) (D : va_G) (dA : Nat → ClassId) (hfl : l.flags = pinnedFlags ++ [noTraceFlag]) (M : Mem) (n : Nat) (p0 p1 : Int32) (hRel : Rel n M M) (hn : n < 1000) : CMw l D dA k_Law_receive [(0, 10, 13, 27), (0, 10, 17, 13)] 8 [.ref 0, .int p0, .int p1, .ref 89] M (fun v M1 => LPo l D dA k_Mod_receive 7 [.ref 76, .int p0, .int p1] n M v M1) := by
  refine CTw.of (by decide +kernel) (Nat.le_of_ble_eq_true rfl) (by intro v hv; simp only [List.mem_cons, List.not_mem_nil, or_false] at hv; rcases hv with rfl | rfl | rfl | rfl <;> rfl) ?_
  intro A ad0 p e s m args below meth c C hr hex
  obtain ⟨⟨r1, r2, r3, r4, r5⟩, er, el, xa, xw, h70, h77, h10⟩ := id hRel
  have hz3 : M 76 3 = 0 ∨ M 76 3 = 1 := by obtain ⟨c0, ln, em, bk, q, hS, hR⟩ := r1; exact hS.2.2.1
  have ho39 : M 3 9 = M 76 3 := by obtain ⟨c0, ln, em, bk, q, hS, hR⟩ := r1; exact hR.2.2.2.2.2.2.1
  by_cases ho : M 76 3 = 0
  · by_cases hb : p1 < nI 1 ∨ ¬ p1 ≤ nI 4
    · refine J_aload_n C 3 d_Law_receive_0 rfl rfl ?_
      refine J_iconst C d_Law_receive_1 (v := nI 0) rfl ?_
      refine J_aload_n C 0 d_Law_receive_2 rfl rfl ?_
      refine J_iload_n C 1 d_Law_receive_3 rfl rfl ?_
      refine J_iload_n C 2 d_Law_receive_4 rfl rfl ?_
      refine J_catchV C (i := 4) (as := [.int p0, .int p1]) (st := [.int (nI 0), .ref 89]) (X0 := "java/lang/IllegalArgumentException") (x_receiveN l D dA hfl M p0 p1 (by rw [ho39]; exact ho) hb) l_Law_23 (tb_in 475 (by decide +kernel) (by decide +kernel)) v_Orb_receive (by decide) (e_0 _) rfl (by decide) (by decide) (by decide) (Nat.le_of_ble_eq_true rfl) d_Law_receive_5 [((⟨0, 10, 13, 27⟩ : ExceptionTableEntry), "java/lang/UnsupportedOperationException")] (⟨0, 10, 17, 13⟩ : ExceptionTableEntry) [] hex (by intro y hy; simp only [List.mem_cons, List.not_mem_nil, or_false] at hy; rcases hy with rfl; (exact ⟨by decide, by decide, tb_in 474 (by decide +kernel) (by decide +kernel), tb_in 1323 (by decide +kernel) (by decide +kernel)⟩)) (by decide) (by decide) (tb_in 371 (by decide +kernel) (by decide +kernel)) (tb_in 381 (by decide +kernel) (by decide +kernel)) (hpc := 17) (pc' := 19) rfl (Or.inr ⟨d_Law_receive_17, rfl⟩) (by decide) rfl (kk := ?_)
      refine J_iconst C d_Law_receive_19 (v := nI 2) rfl ?_
      refine WK_iret C hr ?_ (by decide) (by decide) d_Law_receive_20
      exact ⟨fun _ _ _ => rfl, 2, mu M 76 0 (nI 2), nI 0, rfl, by decide, (fun A => by have h := fm_receiveN l D dA (mg A M) p0 p1 ho hb; simp only [mg_76, mg_77, mg_82, mg_83, mg_84, mg_85, mg_86, mg_87, mg_88, um_76, um_77, ite_mg] at h; exact h), mu_same _ _ _ _, hRel.t _, fun z => absurd z (by decide)⟩
    · obtain ⟨i9, hi1, hi4, rfl⟩ := rng (p := p1) (a := 1) (b := 4) (fun z => hb (Or.inl z)) (Classical.byContradiction fun z => hb (Or.inr z)) (by decide) (by decide)
      refine J_aload_n C 3 d_Law_receive_0 rfl rfl ?_
      refine J_iconst C d_Law_receive_1 (v := nI 0) rfl ?_
      refine J_aload_n C 0 d_Law_receive_2 rfl rfl ?_
      refine J_iload_n C 1 d_Law_receive_3 rfl rfl ?_
      refine J_iload_n C 2 d_Law_receive_4 rfl rfl ?_
      refine K_callV C (as := [.int p0, .int (nI i9)]) (st := [.int (nI 0), .ref 89]) (k_receive l D dA M (mu M 76 0 (nI 0)) _ p0 i9 _ hi1 hi4 ho (hRel.t (nI 0)).1 (hRel.t (nI 0)).2.2.2.1 (hRel.t (nI 0)).2.2.2.2.1 (h70 ho) rfl rfl) l_Law_23 v_Orb_receive (by decide) (e_0 _) rfl (by decide) (by decide) (Nat.le_of_ble_eq_true rfl) d_Law_receive_5 (kk := ?_)
      intro v M2 hP
      obtain ⟨rfl, hRc, hfr⟩ := hP
      refine J_mem (M2 := M2) rfl ?_
      refine J_i2l C d_Law_receive_8 ?_
      refine K_lst C (x := nI (rcN p0 i9 (mu M 76 0 (nI 0)))) rfl rfl d_Law_receive_9 (kk := ?_)
      refine J_goto C 21 d_Law_receive_10 (by decide) ?_
      refine J_iconst C d_Law_receive_21 (v := nI 0) rfl ?_
      refine WK_iret C hr ?_ (by decide) (by decide) d_Law_receive_22
      exact ⟨fun p a b => by rw [mu_p _ _ _ (by omega)]; exact hfr p (by omega), 0, rcM p0 i9 (mu M 76 0 (nI 0)), nI (rcN p0 i9 (mu M 76 0 (nI 0))), rfl, by decide, (fun A => by have hg : Rel n M (mg A M) := hRel.fr (fun _ _ => rfl) (fun p h1 h2 => mg_hi _ _ ⟨h1, h2⟩); have h := fm_receive l D dA (mg A M) p0 i9 hi1 hi4 ho hg.2.2.2.1 hg.2.2.2.2.1 (hg.2.2.2.2.2.1 ho); rw [um_76, rcN_g, rcM_g] at h; exact h), (rc_keep p0 i9 (mu M 76 0 (nI 0)) (hRel.t (nI 0)).2.2.2.1 (hRel.t (nI 0)).2.2.2.2.1 (fun _ => h70 ho) (hRel.t (nI 0)).2.2.1).2.2.2.2.2.2, ((hRel.t (nI 0)).rcv hRc (fun q hq => hfr q hq)).o _, fun _ => mu_same _ _ _ _⟩
  · refine J_aload_n C 3 d_Law_receive_0 rfl rfl ?_
    refine J_iconst C d_Law_receive_1 (v := nI 0) rfl ?_
    refine J_aload_n C 0 d_Law_receive_2 rfl rfl ?_
    refine J_iload_n C 1 d_Law_receive_3 rfl rfl ?_
    refine J_iload_n C 2 d_Law_receive_4 rfl rfl ?_
    refine J_catchV C (i := 4) (as := [.int p0, .int p1]) (st := [.int (nI 0), .ref 89]) (X0 := "java/lang/UnsupportedOperationException") (x_receive l D dA hfl M p0 p1 (by rw [ho39]; exact ho)) l_Law_23 (tb_in 475 (by decide +kernel) (by decide +kernel)) v_Orb_receive (by decide) (e_0 _) rfl (by decide) (by decide) (by decide) (Nat.le_of_ble_eq_true rfl) d_Law_receive_5 [] (⟨0, 10, 13, 27⟩ : ExceptionTableEntry) [(⟨0, 10, 17, 13⟩ : ExceptionTableEntry)] hex (by intro y hy; cases hy) (by decide) (by decide) (tb_in 474 (by decide +kernel) (by decide +kernel)) (tb_in 481 (by decide +kernel) (by decide +kernel)) (hpc := 13) (pc' := 15) rfl (Or.inr ⟨d_Law_receive_13, rfl⟩) (by decide) rfl (kk := ?_)
    refine J_iconst C d_Law_receive_15 (v := nI 1) rfl ?_
    refine WK_iret C hr ?_ (by decide) (by decide) d_Law_receive_16
    exact ⟨fun _ _ _ => rfl, 1, mu M 76 0 (nI 1), nI 0, rfl, by decide, (fun A => by have h := fm_receiveX l D dA (mg A M) p0 p1 ho; simp only [mg_76, mg_77, mg_82, mg_83, mg_84, mg_85, mg_86, mg_87, mg_88, um_76, um_77, ite_mg] at h; exact h), mu_same _ _ _ _, hRel.t _, fun z => absurd z (by decide)⟩

set_option maxHeartbeats 4000000 in
set_option maxRecDepth 100000 in
theorem w_report (l : Launch) (D : va_G) (dA : Nat → ClassId) (hfl : l.flags = pinnedFlags ++ [noTraceFlag]) (M : Mem) (n : Nat)  (hRel : Rel n M M) (hn : n < 1000) : CMw l D dA k_Law_report [(0, 8, 11, 27)] 8 [.ref 0, .ref 89] M (fun v M1 => LPo l D dA k_Mod_report 0 [.ref 76] n M v M1) := by
  refine CTw.of (by decide +kernel) (Nat.le_of_ble_eq_true rfl) (by intro v hv; simp only [List.mem_cons, List.not_mem_nil, or_false] at hv; rcases hv with rfl | rfl <;> rfl) ?_
  intro A ad0 p e s m args below meth c C hr hex
  obtain ⟨⟨r1, r2, r3, r4, r5⟩, er, el, xa, xw, h70, h77, h10⟩ := id hRel
  have hz3 : M 76 3 = 0 ∨ M 76 3 = 1 := by obtain ⟨c0, ln, em, bk, q, hS, hR⟩ := r1; exact hS.2.2.1
  have ho39 : M 3 9 = M 76 3 := by obtain ⟨c0, ln, em, bk, q, hS, hR⟩ := r1; exact hR.2.2.2.2.2.2.1
  by_cases ho : M 76 3 = 0
  · refine J_aload_n C 1 d_Law_report_0 rfl rfl ?_
    refine J_iconst C d_Law_report_1 (v := nI 0) rfl ?_
    refine J_aload_n C 0 d_Law_report_2 rfl rfl ?_
    refine P_callV C (as := []) (st := [.int (nI 0), .ref 89]) (p_report l D dA M (by rw [ho39]; exact ho)) l_Law_29 v_Orb_report (by decide) (e_0 _) rfl (by decide) (by decide) (by decide) (Nat.le_of_ble_eq_true rfl) d_Law_report_3 (kk := ?_)
    obtain ⟨rv, hrv⟩ : ∃ r, RepC M = r := ⟨_, rfl⟩
    refine J_val (y := rv) hrv ?_
    refine J_i2l C d_Law_report_6 ?_
    refine K_lst C (x := rv) rfl rfl d_Law_report_7 (kk := ?_)
    refine J_goto C 14 d_Law_report_8 (by decide) ?_
    refine J_iconst C d_Law_report_14 (v := nI 0) rfl ?_
    refine WK_iret C hr ?_ (by decide) (by decide) d_Law_report_15
    exact ⟨fun p a b => by rw [mu_p _ _ _ (by omega)], 0, mu M 76 0 (nI 0), (if M 76 7 = 0 then 0 else (((32768 ||| (M 76 10 <<< (nI 13 &&& 31))) ||| (M 76 8 <<< (nI 12 &&& 31))) ||| (M 76 11 <<< (nI 8 &&& 31))) ||| M 76 9), rfl, by decide, (fun A => by have h := fm_report l D dA (mg A M); rw [if_pos (show mg A M 76 3 = 0 from ho), if_pos (show mg A M 76 3 = 0 from ho), um_76] at h; exact h), rfl, (hRel.t _).o _, fun _ => by rw [mu_same, ← hrv]; exact rep_eq r2 h10⟩
  · refine J_aload_n C 1 d_Law_report_0 rfl rfl ?_
    refine J_iconst C d_Law_report_1 (v := nI 0) rfl ?_
    refine J_aload_n C 0 d_Law_report_2 rfl rfl ?_
    refine J_catchV C (i := 2) (as := []) (st := [.int (nI 0), .ref 89]) (X0 := "java/lang/UnsupportedOperationException") (x_report l D dA hfl M (by rw [ho39]; exact ho)) l_Law_29 (tb_in 685 (by decide +kernel) (by decide +kernel)) v_Orb_report (by decide) (e_0 _) rfl (by decide) (by decide) (by decide) (Nat.le_of_ble_eq_true rfl) d_Law_report_3 [] (⟨0, 8, 11, 27⟩ : ExceptionTableEntry) [] hex (by intro y hy; cases hy) (by decide) (by decide) (tb_in 474 (by decide +kernel) (by decide +kernel)) (tb_in 481 (by decide +kernel) (by decide +kernel)) (hpc := 11) (pc' := 12) rfl (Or.inl ⟨2, rfl, d_Law_report_11, rfl⟩) (by decide) rfl (kk := ?_)
    refine J_iconst C d_Law_report_12 (v := nI 1) rfl ?_
    refine WK_iret C hr ?_ (by decide) (by decide) d_Law_report_13
    exact ⟨fun _ _ _ => rfl, 1, mu M 76 0 (nI 1), nI 0, rfl, by decide, (fun A => by have h := fm_report l D dA (mg A M); rw [if_neg (show ¬ mg A M 76 3 = 0 from ho), if_neg (show ¬ mg A M 76 3 = 0 from ho), um_76] at h; exact h), mu_same _ _ _ _, hRel.t _, fun z => absurd z (by decide)⟩

set_option maxHeartbeats 4000000 in
set_option maxRecDepth 100000 in
theorem w_send (l : Launch) (D : va_G) (dA : Nat → ClassId) (hfl : l.flags = pinnedFlags ++ [noTraceFlag]) (M : Mem) (n : Nat) (p0 : Int32) (hRel : Rel n M M) (hn : n < 1000) : CMw l D dA k_Law_send [(0, 9, 12, 27), (0, 9, 15, 13), (0, 9, 18, 36)] 8 [.ref 0, .int p0, .ref 89] M (fun v M1 => LPo l D dA k_Mod_send 3 [.ref 76, .int p0] (n + 1) M v M1) := by
  refine CTw.of (by decide +kernel) (Nat.le_of_ble_eq_true rfl) (by intro v hv; simp only [List.mem_cons, List.not_mem_nil, or_false] at hv; rcases hv with rfl | rfl | rfl <;> rfl) ?_
  intro A ad0 p e s m args below meth c C hr hex
  obtain ⟨⟨r1, r2, r3, r4, r5⟩, er, el, xa, xw, h70, h77, h10⟩ := id hRel
  have hz3 : M 76 3 = 0 ∨ M 76 3 = 1 := by obtain ⟨c0, ln, em, bk, q, hS, hR⟩ := r1; exact hS.2.2.1
  have ho39 : M 3 9 = M 76 3 := by obtain ⟨c0, ln, em, bk, q, hS, hR⟩ := r1; exact hR.2.2.2.2.2.2.1
  by_cases ho : M 76 3 = 0
  · by_cases hb : nPair p0 = 0
    · rcases nPair_ok hb with rfl | rfl
      · by_cases hse : fOpen (M 76 1) (M 77 3) (M 77 4) (M 77 5) = 0
        · refine J_aload_n C 2 d_Law_send_0 rfl rfl ?_
          refine J_iconst C d_Law_send_1 (v := nI 0) rfl ?_
          refine J_aload_n C 0 d_Law_send_2 rfl rfl ?_
          refine J_iload_n C 1 d_Law_send_3 rfl rfl ?_
          refine J_catchV C (i := 3) (as := [.int (nI 0)]) (st := [.int (nI 0), .ref 89]) (X0 := "java/lang/IllegalStateException") (x_sendS0 l D dA hfl M (by rw [ho39]; exact ho) (by rw [r5.2.2.2.2.2.1]; exact h77) (by rw [r5.1, r5.2.2.2.2.1, r5.2.2.2.2.2.1, r5.2.2.2.2.2.2]; exact hse)) l_Law_33 (tb_in 698 (by decide +kernel) (by decide +kernel)) v_Orb_send (by decide) (e_0 _) rfl (by decide) (by decide) (by decide) (Nat.le_of_ble_eq_true rfl) d_Law_send_4 [((⟨0, 9, 12, 27⟩ : ExceptionTableEntry), "java/lang/UnsupportedOperationException"), ((⟨0, 9, 15, 13⟩ : ExceptionTableEntry), "java/lang/IllegalArgumentException")] (⟨0, 9, 18, 36⟩ : ExceptionTableEntry) [] hex (by intro y hy; simp only [List.mem_cons, List.not_mem_nil, or_false] at hy; rcases hy with rfl | rfl; (exact ⟨by decide, by decide, tb_in 474 (by decide +kernel) (by decide +kernel), tb_in 1324 (by decide +kernel) (by decide +kernel)⟩); (exact ⟨by decide, by decide, tb_in 371 (by decide +kernel) (by decide +kernel), tb_in 1325 (by decide +kernel) (by decide +kernel)⟩)) (by decide) (by decide) (tb_in 697 (by decide +kernel) (by decide +kernel)) (tb_in 704 (by decide +kernel) (by decide +kernel)) (hpc := 18) (pc' := 19) rfl (Or.inl ⟨3, rfl, d_Law_send_18, rfl⟩) (by decide) rfl (kk := ?_)
          refine J_iconst C d_Law_send_19 (v := nI 3) rfl ?_
          refine WK_iret C hr ?_ (by decide) (by decide) d_Law_send_20
          exact ⟨fun _ _ _ => rfl, 3, mu M 76 0 (nI 3), nI 0, rfl, by decide, (fun A => by have h := fm_sendS0 l D dA (mg A M) ho h77 hse; simp only [mg_76, mg_77, mg_82, mg_83, mg_84, mg_85, mg_86, mg_87, mg_88, um_76, um_77, ite_mg] at h; exact h), mu_same _ _ _ _, (hRel.t _).mono (Nat.le_succ n), fun z => absurd z (by decide)⟩
        · refine J_aload_n C 2 d_Law_send_0 rfl rfl ?_
          refine J_iconst C d_Law_send_1 (v := nI 0) rfl ?_
          refine J_aload_n C 0 d_Law_send_2 rfl rfl ?_
          refine J_iload_n C 1 d_Law_send_3 rfl rfl ?_
          refine K_callV C (as := [.int (nI 0)]) (st := [.int (nI 0), .ref 89]) (k_send l D dA M M 0 n (by decide) hn r1 er el ho (by rw [r5.2.2.2.2.2.1]; exact h77) (by rw [r5.1, r5.2.2.2.2.1, r5.2.2.2.2.2.1, r5.2.2.2.2.2.2]; exact hse)) l_Law_33 v_Orb_send (by decide) (e_0 _) rfl (by decide) (by decide) (Nat.le_of_ble_eq_true rfl) d_Law_send_4 (kk := ?_)
          intro v M2 hP
          obtain ⟨rfl, q1, q2, q3, q4⟩ := hP
          refine J_mem (M2 := M2) rfl ?_
          refine J_i2l C d_Law_send_7 ?_
          refine K_lst C (x := M 75 0) rfl rfl d_Law_send_8 (kk := ?_)
          refine J_goto C 21 d_Law_send_9 (by decide) ?_
          refine J_iconst C d_Law_send_21 (v := nI 0) rfl ?_
          refine WK_iret C hr ?_ (by decide) (by decide) d_Law_send_22
          exact ⟨fun p a b => by rw [mu_p _ _ _ (by omega)]; exact q4 p (by omega) (by omega) (by omega) (by omega), 0, fSnd M 0, M 88 0, rfl, by decide, (fun A => by have hg : Rel n M (mg A M) := hRel.fr (fun _ _ => rfl) (fun p h1 h2 => mg_hi _ _ ⟨h1, h2⟩); have h := fm_send0 l D dA (mg A M) hg.2.2.2.1.1 ho hg.2.2.2.2.2.2.1 hse; rw [fSnd_g] at h; exact h), snd_0 _ _, (hRel.snd ho q1 q2 q3 q4).o _, fun _ => by rw [mu_same]; obtain ⟨_, _, kk, hk⟩ := er; rw [(hk 0 (by decide)).2.1, (hk 0 (by decide)).2.2]⟩
      · by_cases hse : fOpen (M 76 1) (M 77 3) (M 77 4) (M 77 5) = 0
        · refine J_aload_n C 2 d_Law_send_0 rfl rfl ?_
          refine J_iconst C d_Law_send_1 (v := nI 0) rfl ?_
          refine J_aload_n C 0 d_Law_send_2 rfl rfl ?_
          refine J_iload_n C 1 d_Law_send_3 rfl rfl ?_
          refine J_catchV C (i := 3) (as := [.int (nI 1)]) (st := [.int (nI 0), .ref 89]) (X0 := "java/lang/IllegalStateException") (x_sendS1 l D dA hfl M (by rw [ho39]; exact ho) (by rw [r5.2.2.2.2.2.1]; exact h77) (by rw [r5.1, r5.2.2.2.2.1, r5.2.2.2.2.2.1, r5.2.2.2.2.2.2]; exact hse)) l_Law_33 (tb_in 698 (by decide +kernel) (by decide +kernel)) v_Orb_send (by decide) (e_0 _) rfl (by decide) (by decide) (by decide) (Nat.le_of_ble_eq_true rfl) d_Law_send_4 [((⟨0, 9, 12, 27⟩ : ExceptionTableEntry), "java/lang/UnsupportedOperationException"), ((⟨0, 9, 15, 13⟩ : ExceptionTableEntry), "java/lang/IllegalArgumentException")] (⟨0, 9, 18, 36⟩ : ExceptionTableEntry) [] hex (by intro y hy; simp only [List.mem_cons, List.not_mem_nil, or_false] at hy; rcases hy with rfl | rfl; (exact ⟨by decide, by decide, tb_in 474 (by decide +kernel) (by decide +kernel), tb_in 1324 (by decide +kernel) (by decide +kernel)⟩); (exact ⟨by decide, by decide, tb_in 371 (by decide +kernel) (by decide +kernel), tb_in 1325 (by decide +kernel) (by decide +kernel)⟩)) (by decide) (by decide) (tb_in 697 (by decide +kernel) (by decide +kernel)) (tb_in 704 (by decide +kernel) (by decide +kernel)) (hpc := 18) (pc' := 19) rfl (Or.inl ⟨3, rfl, d_Law_send_18, rfl⟩) (by decide) rfl (kk := ?_)
          refine J_iconst C d_Law_send_19 (v := nI 3) rfl ?_
          refine WK_iret C hr ?_ (by decide) (by decide) d_Law_send_20
          exact ⟨fun _ _ _ => rfl, 3, mu M 76 0 (nI 3), nI 0, rfl, by decide, (fun A => by have h := fm_sendS1 l D dA (mg A M) ho h77 hse; simp only [mg_76, mg_77, mg_82, mg_83, mg_84, mg_85, mg_86, mg_87, mg_88, um_76, um_77, ite_mg] at h; exact h), mu_same _ _ _ _, (hRel.t _).mono (Nat.le_succ n), fun z => absurd z (by decide)⟩
        · refine J_aload_n C 2 d_Law_send_0 rfl rfl ?_
          refine J_iconst C d_Law_send_1 (v := nI 0) rfl ?_
          refine J_aload_n C 0 d_Law_send_2 rfl rfl ?_
          refine J_iload_n C 1 d_Law_send_3 rfl rfl ?_
          refine K_callV C (as := [.int (nI 1)]) (st := [.int (nI 0), .ref 89]) (k_send l D dA M M 1 n (by decide) hn r1 er el ho (by rw [r5.2.2.2.2.2.1]; exact h77) (by rw [r5.1, r5.2.2.2.2.1, r5.2.2.2.2.2.1, r5.2.2.2.2.2.2]; exact hse)) l_Law_33 v_Orb_send (by decide) (e_0 _) rfl (by decide) (by decide) (Nat.le_of_ble_eq_true rfl) d_Law_send_4 (kk := ?_)
          intro v M2 hP
          obtain ⟨rfl, q1, q2, q3, q4⟩ := hP
          refine J_mem (M2 := M2) rfl ?_
          refine J_i2l C d_Law_send_7 ?_
          refine K_lst C (x := M 75 1) rfl rfl d_Law_send_8 (kk := ?_)
          refine J_goto C 21 d_Law_send_9 (by decide) ?_
          refine J_iconst C d_Law_send_21 (v := nI 0) rfl ?_
          refine WK_iret C hr ?_ (by decide) (by decide) d_Law_send_22
          exact ⟨fun p a b => by rw [mu_p _ _ _ (by omega)]; exact q4 p (by omega) (by omega) (by omega) (by omega), 0, fSnd M 1, M 88 1, rfl, by decide, (fun A => by have hg : Rel n M (mg A M) := hRel.fr (fun _ _ => rfl) (fun p h1 h2 => mg_hi _ _ ⟨h1, h2⟩); have h := fm_send1 l D dA (mg A M) hg.2.2.2.1.1 ho hg.2.2.2.2.2.2.1 hse; rw [fSnd_g] at h; exact h), snd_0 _ _, (hRel.snd ho q1 q2 q3 q4).o _, fun _ => by rw [mu_same]; obtain ⟨_, _, kk, hk⟩ := er; rw [(hk 1 (by decide)).2.1, (hk 1 (by decide)).2.2]⟩
    · refine J_aload_n C 2 d_Law_send_0 rfl rfl ?_
      refine J_iconst C d_Law_send_1 (v := nI 0) rfl ?_
      refine J_aload_n C 0 d_Law_send_2 rfl rfl ?_
      refine J_iload_n C 1 d_Law_send_3 rfl rfl ?_
      refine J_catchV C (i := 3) (as := [.int p0]) (st := [.int (nI 0), .ref 89]) (X0 := "java/lang/IllegalArgumentException") (x_sendN l D dA hfl M p0 (by rw [ho39]; exact ho) hb) l_Law_33 (tb_in 698 (by decide +kernel) (by decide +kernel)) v_Orb_send (by decide) (e_0 _) rfl (by decide) (by decide) (by decide) (Nat.le_of_ble_eq_true rfl) d_Law_send_4 [((⟨0, 9, 12, 27⟩ : ExceptionTableEntry), "java/lang/UnsupportedOperationException")] (⟨0, 9, 15, 13⟩ : ExceptionTableEntry) [(⟨0, 9, 18, 36⟩ : ExceptionTableEntry)] hex (by intro y hy; simp only [List.mem_cons, List.not_mem_nil, or_false] at hy; rcases hy with rfl; (exact ⟨by decide, by decide, tb_in 474 (by decide +kernel) (by decide +kernel), tb_in 1323 (by decide +kernel) (by decide +kernel)⟩)) (by decide) (by decide) (tb_in 371 (by decide +kernel) (by decide +kernel)) (tb_in 381 (by decide +kernel) (by decide +kernel)) (hpc := 15) (pc' := 16) rfl (Or.inl ⟨3, rfl, d_Law_send_15, rfl⟩) (by decide) rfl (kk := ?_)
      refine J_iconst C d_Law_send_16 (v := nI 2) rfl ?_
      refine WK_iret C hr ?_ (by decide) (by decide) d_Law_send_17
      exact ⟨fun _ _ _ => rfl, 2, mu M 76 0 (nI 2), nI 0, rfl, by decide, (fun A => by have h := fm_sendN l D dA (mg A M) p0 ho (by rcases nPair_bad hb with q | q; (exact Or.inl q); (exact Or.inr (Int32.not_le.mpr q))); simp only [mg_76, mg_77, mg_82, mg_83, mg_84, mg_85, mg_86, mg_87, mg_88, um_76, um_77, ite_mg] at h; exact h), mu_same _ _ _ _, (hRel.t _).mono (Nat.le_succ n), fun z => absurd z (by decide)⟩
  · refine J_aload_n C 2 d_Law_send_0 rfl rfl ?_
    refine J_iconst C d_Law_send_1 (v := nI 0) rfl ?_
    refine J_aload_n C 0 d_Law_send_2 rfl rfl ?_
    refine J_iload_n C 1 d_Law_send_3 rfl rfl ?_
    refine J_catchV C (i := 3) (as := [.int p0]) (st := [.int (nI 0), .ref 89]) (X0 := "java/lang/UnsupportedOperationException") (x_send l D dA hfl M p0 (by rw [ho39]; exact ho)) l_Law_33 (tb_in 698 (by decide +kernel) (by decide +kernel)) v_Orb_send (by decide) (e_0 _) rfl (by decide) (by decide) (by decide) (Nat.le_of_ble_eq_true rfl) d_Law_send_4 [] (⟨0, 9, 12, 27⟩ : ExceptionTableEntry) [(⟨0, 9, 15, 13⟩ : ExceptionTableEntry), (⟨0, 9, 18, 36⟩ : ExceptionTableEntry)] hex (by intro y hy; cases hy) (by decide) (by decide) (tb_in 474 (by decide +kernel) (by decide +kernel)) (tb_in 481 (by decide +kernel) (by decide +kernel)) (hpc := 12) (pc' := 13) rfl (Or.inl ⟨3, rfl, d_Law_send_12, rfl⟩) (by decide) rfl (kk := ?_)
    refine J_iconst C d_Law_send_13 (v := nI 1) rfl ?_
    refine WK_iret C hr ?_ (by decide) (by decide) d_Law_send_14
    exact ⟨fun _ _ _ => rfl, 1, mu M 76 0 (nI 1), nI 0, rfl, by decide, (fun A => by have h := fm_sendX l D dA (mg A M) p0 ho; simp only [mg_76, mg_77, mg_82, mg_83, mg_84, mg_85, mg_86, mg_87, mg_88, um_76, um_77, ite_mg] at h; exact h), mu_same _ _ _ _, (hRel.t _).mono (Nat.le_succ n), fun z => absurd z (by decide)⟩

set_option maxHeartbeats 4000000 in
set_option maxRecDepth 100000 in
theorem w_sent (l : Launch) (D : va_G) (dA : Nat → ClassId) (hfl : l.flags = pinnedFlags ++ [noTraceFlag]) (M : Mem) (n : Nat) (p0 : Int32) (hRel : Rel n M M) (hn : n < 1000) : CMw l D dA k_Law_sent [(0, 9, 12, 41)] 8 [.ref 0, .int p0, .ref 89] M (fun v M1 => LPo l D dA k_Mod_sent 0 [.ref 76, .int p0] n M v M1) := by
  refine CTw.of (by decide +kernel) (Nat.le_of_ble_eq_true rfl) (by intro v hv; simp only [List.mem_cons, List.not_mem_nil, or_false] at hv; rcases hv with rfl | rfl | rfl <;> rfl) ?_
  intro A ad0 p e s m args below meth c C hr hex
  obtain ⟨⟨r1, r2, r3, r4, r5⟩, er, el, xa, xw, h70, h77, h10⟩ := id hRel
  have hz3 : M 76 3 = 0 ∨ M 76 3 = 1 := by obtain ⟨c0, ln, em, bk, q, hS, hR⟩ := r1; exact hS.2.2.1
  have ho39 : M 3 9 = M 76 3 := by obtain ⟨c0, ln, em, bk, q, hS, hR⟩ := r1; exact hR.2.2.2.2.2.2.1
  by_cases hb : hasB M p0 = 0
  · refine J_aload_n C 2 d_Law_sent_0 rfl rfl ?_
    refine J_iconst C d_Law_sent_1 (v := nI 0) rfl ?_
    refine J_aload_n C 0 d_Law_sent_2 rfl rfl ?_
    refine J_iload_n C 1 d_Law_sent_3 rfl rfl ?_
    refine J_catchV C (i := 3) (as := [.int p0]) (st := [.int (nI 0), .ref 89]) (X0 := "java/lang/IndexOutOfBoundsException") (x_sent l D dA hfl M p0 hb) l_Law_38 (tb_in 1030 (by decide +kernel) (by decide +kernel)) v_Orb_sent (by decide) (e_0 _) rfl (by decide) (by decide) (by decide) (Nat.le_of_ble_eq_true rfl) d_Law_sent_4 [] (⟨0, 9, 12, 41⟩ : ExceptionTableEntry) [] hex (by intro y hy; cases hy) (by decide) (by decide) (tb_in 1029 (by decide +kernel) (by decide +kernel)) (tb_in 1040 (by decide +kernel) (by decide +kernel)) (hpc := 12) (pc' := 13) rfl (Or.inl ⟨3, rfl, d_Law_sent_12, rfl⟩) (by decide) rfl (kk := ?_)
    refine J_iconst C d_Law_sent_13 (v := nI 1) rfl ?_
    refine WK_iret C hr ?_ (by decide) (by decide) d_Law_sent_14
    exact ⟨fun _ _ _ => rfl, 1, mu M 76 0 (nI 1), nI 0, rfl, by decide, (fun A => by have h := fm_sentX l D dA (mg A M) p0 (by rcases hasB_bad hb with q | q; (exact Or.inl (show M 76 25 = 0 by rw [← er.2.1]; exact q)); (exact Or.inr q)); simp only [mg_76, mg_77, mg_82, mg_83, mg_84, mg_85, mg_86, mg_87, mg_88, um_76, um_77, ite_mg] at h; exact h), mu_same _ _ _ _, hRel.t _, fun z => absurd z (by decide)⟩
  · obtain ⟨ha9, k9, hk9, rfl⟩ := hasB_ok hb
    refine J_aload_n C 2 d_Law_sent_0 rfl rfl ?_
    refine J_iconst C d_Law_sent_1 (v := nI 0) rfl ?_
    refine J_aload_n C 0 d_Law_sent_2 rfl rfl ?_
    refine J_iload_n C 1 d_Law_sent_3 rfl rfl ?_
    refine P_callV C (as := [.int (nI k9)]) (st := [.int (nI 0), .ref 89]) (p_sent l D dA M k9 hk9 ha9) l_Law_38 v_Orb_sent (by decide) (e_0 _) rfl (by decide) (by decide) (by decide) (Nat.le_of_ble_eq_true rfl) d_Law_sent_4 (kk := ?_)
    refine J_i2l C d_Law_sent_7 ?_
    refine K_lst C (x := M 74 k9) rfl rfl d_Law_sent_8 (kk := ?_)
    refine J_goto C 15 d_Law_sent_9 (by decide) ?_
    refine J_iconst C d_Law_sent_15 (v := nI 0) rfl ?_
    refine WK_iret C hr ?_ (by decide) (by decide) d_Law_sent_16
    exact ⟨fun p a b => by rw [mu_p _ _ _ (by omega)], 0, mu M 76 0 (nI 0), M 87 k9, rfl, by decide, (fun A => by have h := fm_sent l D dA (mg A M) k9 hk9 (show ¬ M 76 25 = 0 by rw [← er.2.1]; exact ha9); simp only [mg_76, mg_77, mg_82, mg_83, mg_84, mg_85, mg_86, mg_87, mg_88, um_76, um_77, ite_mg] at h; exact h), rfl, (hRel.t _).o _, fun _ => by rw [mu_same]; exact er.1 k9 hk9⟩

set_option maxHeartbeats 4000000 in
set_option maxRecDepth 100000 in
theorem w_fail (l : Launch) (D : va_G) (dA : Nat → ClassId) (hfl : l.flags = pinnedFlags ++ [noTraceFlag]) (M : Mem) (n : Nat) (p0 : Int32) (hRel : Rel n M M) (hn : n < 1000) : CMw l D dA k_Law_fail [(0, 5, 8, 27), (0, 5, 11, 13)] 8 [.ref 0, .int p0] M (fun v M1 => LPv l D dA k_Mod_fail 0 [.ref 76, .int p0] n M v M1) := by
  refine CTw.of (by decide +kernel) (Nat.le_of_ble_eq_true rfl) (by intro v hv; simp only [List.mem_cons, List.not_mem_nil, or_false] at hv; rcases hv with rfl | rfl <;> rfl) ?_
  intro A ad0 p e s m args below meth c C hr hex
  obtain ⟨⟨r1, r2, r3, r4, r5⟩, er, el, xa, xw, h70, h77, h10⟩ := id hRel
  have hz3 : M 76 3 = 0 ∨ M 76 3 = 1 := by obtain ⟨c0, ln, em, bk, q, hS, hR⟩ := r1; exact hS.2.2.1
  have ho39 : M 3 9 = M 76 3 := by obtain ⟨c0, ln, em, bk, q, hS, hR⟩ := r1; exact hR.2.2.2.2.2.2.1
  by_cases ho : M 76 3 = 0
  · by_cases h1 : p0 < nI 1
    · refine J_aload_n C 0 d_Law_fail_0 rfl rfl ?_
      refine J_iload_n C 1 d_Law_fail_1 rfl rfl ?_
      refine J_catchV C (i := 2) (as := [.int p0]) (st := []) (X0 := "java/lang/IllegalArgumentException") (x_failN l D dA hfl M p0 (by rw [ho39]; exact ho) (Or.inl h1)) l_Law_43 (tb_in 1056 (by decide +kernel) (by decide +kernel)) v_Orb_fail (by decide) (e_0 _) rfl (by decide) (by decide) (by decide) (Nat.le_of_ble_eq_true rfl) d_Law_fail_2 [((⟨0, 5, 8, 27⟩ : ExceptionTableEntry), "java/lang/UnsupportedOperationException")] (⟨0, 5, 11, 13⟩ : ExceptionTableEntry) [] hex (by intro y hy; simp only [List.mem_cons, List.not_mem_nil, or_false] at hy; rcases hy with rfl; (exact ⟨by decide, by decide, tb_in 474 (by decide +kernel) (by decide +kernel), tb_in 1323 (by decide +kernel) (by decide +kernel)⟩)) (by decide) (by decide) (tb_in 371 (by decide +kernel) (by decide +kernel)) (tb_in 381 (by decide +kernel) (by decide +kernel)) (hpc := 11) (pc' := 12) rfl (Or.inl ⟨2, rfl, d_Law_fail_11, rfl⟩) (by decide) rfl (kk := ?_)
      refine J_iconst C d_Law_fail_12 (v := nI 2) rfl ?_
      refine WK_iret C hr ?_ (by decide) (by decide) d_Law_fail_13
      exact ⟨fun _ _ _ => rfl, 2, mu M 76 0 (nI 2), rfl, by decide, (fun A => by have h := fm_fail l D dA (mg A M) p0; rw [if_pos (show mg A M 76 3 = 0 from ho), if_pos h1] at h; simp only [mg_76, mg_77, mg_82, mg_83, mg_84, mg_85, mg_86, mg_87, mg_88, um_76, um_77, ite_mg] at h; exact h), mu_same _ _ _ _, hRel.t _⟩
    · by_cases h2 : p0 ≤ nI 100
      · refine J_aload_n C 0 d_Law_fail_0 rfl rfl ?_
        refine J_iload_n C 1 d_Law_fail_1 rfl rfl ?_
        refine F_callV C (as := [.int p0]) (st := []) (f_fail l D dA M p0 (by rw [ho39]; exact ho) h1 h2) l_Law_43 v_Orb_fail (by decide) (e_0 _) rfl (by decide) (by decide) (Nat.le_of_ble_eq_true rfl) d_Law_fail_2 (kk := ?_)
        refine J_goto C 14 d_Law_fail_5 (by decide) ?_
        refine J_iconst C d_Law_fail_14 (v := nI 0) rfl ?_
        refine WK_iret C hr ?_ (by decide) (by decide) d_Law_fail_15
        exact ⟨fun p a b => by rw [mu_p _ _ _ (by omega)], 0, mu (mu M 76 0 (nI 0)) 76 4 p0, rfl, by decide, (fun A => by have h := fm_fail l D dA (mg A M) p0; rw [if_pos (show mg A M 76 3 = 0 from ho), if_neg h1, if_pos h2] at h; simp only [mg_76, mg_77, mg_82, mg_83, mg_84, mg_85, mg_86, mg_87, mg_88, um_76, um_77, ite_mg] at h; exact h), rfl, hRel.fail p0⟩
      · refine J_aload_n C 0 d_Law_fail_0 rfl rfl ?_
        refine J_iload_n C 1 d_Law_fail_1 rfl rfl ?_
        refine J_catchV C (i := 2) (as := [.int p0]) (st := []) (X0 := "java/lang/IllegalArgumentException") (x_failN l D dA hfl M p0 (by rw [ho39]; exact ho) (Or.inr h2)) l_Law_43 (tb_in 1056 (by decide +kernel) (by decide +kernel)) v_Orb_fail (by decide) (e_0 _) rfl (by decide) (by decide) (by decide) (Nat.le_of_ble_eq_true rfl) d_Law_fail_2 [((⟨0, 5, 8, 27⟩ : ExceptionTableEntry), "java/lang/UnsupportedOperationException")] (⟨0, 5, 11, 13⟩ : ExceptionTableEntry) [] hex (by intro y hy; simp only [List.mem_cons, List.not_mem_nil, or_false] at hy; rcases hy with rfl; (exact ⟨by decide, by decide, tb_in 474 (by decide +kernel) (by decide +kernel), tb_in 1323 (by decide +kernel) (by decide +kernel)⟩)) (by decide) (by decide) (tb_in 371 (by decide +kernel) (by decide +kernel)) (tb_in 381 (by decide +kernel) (by decide +kernel)) (hpc := 11) (pc' := 12) rfl (Or.inl ⟨2, rfl, d_Law_fail_11, rfl⟩) (by decide) rfl (kk := ?_)
        refine J_iconst C d_Law_fail_12 (v := nI 2) rfl ?_
        refine WK_iret C hr ?_ (by decide) (by decide) d_Law_fail_13
        exact ⟨fun _ _ _ => rfl, 2, mu M 76 0 (nI 2), rfl, by decide, (fun A => by have h := fm_fail l D dA (mg A M) p0; rw [if_pos (show mg A M 76 3 = 0 from ho), if_neg h1, if_neg h2] at h; simp only [mg_76, mg_77, mg_82, mg_83, mg_84, mg_85, mg_86, mg_87, mg_88, um_76, um_77, ite_mg] at h; exact h), mu_same _ _ _ _, hRel.t _⟩
  · refine J_aload_n C 0 d_Law_fail_0 rfl rfl ?_
    refine J_iload_n C 1 d_Law_fail_1 rfl rfl ?_
    refine J_catchV C (i := 2) (as := [.int p0]) (st := []) (X0 := "java/lang/UnsupportedOperationException") (x_fail l D dA hfl M p0 (by rw [ho39]; exact ho)) l_Law_43 (tb_in 1056 (by decide +kernel) (by decide +kernel)) v_Orb_fail (by decide) (e_0 _) rfl (by decide) (by decide) (by decide) (Nat.le_of_ble_eq_true rfl) d_Law_fail_2 [] (⟨0, 5, 8, 27⟩ : ExceptionTableEntry) [(⟨0, 5, 11, 13⟩ : ExceptionTableEntry)] hex (by intro y hy; cases hy) (by decide) (by decide) (tb_in 474 (by decide +kernel) (by decide +kernel)) (tb_in 481 (by decide +kernel) (by decide +kernel)) (hpc := 8) (pc' := 9) rfl (Or.inl ⟨2, rfl, d_Law_fail_8, rfl⟩) (by decide) rfl (kk := ?_)
    refine J_iconst C d_Law_fail_9 (v := nI 1) rfl ?_
    refine WK_iret C hr ?_ (by decide) (by decide) d_Law_fail_10
    exact ⟨fun _ _ _ => rfl, 1, mu M 76 0 (nI 1), rfl, by decide, (fun A => by have h := fm_fail l D dA (mg A M) p0; rw [if_neg (show ¬ mg A M 76 3 = 0 from ho)] at h; simp only [mg_76, mg_77, mg_82, mg_83, mg_84, mg_85, mg_86, mg_87, mg_88, um_76, um_77, ite_mg] at h; exact h), mu_same _ _ _ _, hRel.t _⟩
