set_option maxHeartbeats 4000000 in
set_option maxRecDepth 100000 in
theorem w_store (l : Launch) (D : va_G) (dA : Nat → ClassId) (hfl : l.flags = pinnedFlags ++ [noTraceFlag]) (M : Mem) (n : Nat) (p0 : Int32) (hRel : Rel n M M) (hn : n < 1000) : CMw l D dA k_Law_store [(0, 9, 12, 13)] 8 [.ref 0, .int p0, .ref 89] M (fun v M1 => LPo l D dA k_Mod_store 2 [.ref 76, .int p0] n M v M1) := by
  refine CTw.of (by decide +kernel) (Nat.le_of_ble_eq_true rfl) (by intro v hv; simp only [List.mem_cons, List.not_mem_nil, or_false] at hv; rcases hv with rfl | rfl | rfl <;> rfl) ?_
  intro A ad0 p e s m args below meth c C hr hex
  obtain ⟨⟨r1, r2, r3, r4, r5⟩, er, el, xa, xw, h70, h77, h10⟩ := id hRel
  have hz3 : M 76 3 = 0 ∨ M 76 3 = 1 := by obtain ⟨c0, ln, em, bk, q, hS, hR⟩ := r1; exact hS.2.2.1
  have ho39 : M 3 9 = M 76 3 := by obtain ⟨c0, ln, em, bk, q, hS, hR⟩ := r1; exact hR.2.2.2.2.2.2.1
  obtain ⟨c0, ln, em, bk, q, hS, hR⟩ := id r1
  have hc24 := hS.2.1
  have hq : ∀ k, k < 24 → M 6 k = nI (q k) := fun k hk => (hR.2.2.2.2.2.2.2.2.1 k hk).1
  have hq2 : ∀ k, k < 24 → q k < 24 := fun k hk => (hR.2.2.2.2.2.2.2.2.1 k hk).2
  by_cases e0 : p0 = nI 0
  · subst e0
    refine J_aload_n C 2 d_Law_store_0 rfl rfl ?_
    refine J_iconst C d_Law_store_1 (v := nI 0) rfl ?_
    refine J_aload_n C 0 d_Law_store_2 rfl rfl ?_
    refine J_iload_n C 1 d_Law_store_3 rfl rfl ?_
    refine P_callV C (as := [.int (nI 0)]) (st := [.int (nI 0), .ref 89]) (p_store0 l D dA M) l_Law_47 v_Orb_store (by decide) (e_0 _) rfl (by decide) (by decide) (by decide) (Nat.le_of_ble_eq_true rfl) d_Law_store_4 (kk := ?_)
    refine J_i2l C d_Law_store_7 ?_
    refine K_lst C (x := M 3 3) rfl rfl d_Law_store_8 (kk := ?_)
    refine J_goto C 15 d_Law_store_9 (by decide) ?_
    refine J_iconst C d_Law_store_15 (v := nI 0) rfl ?_
    refine WK_iret C hr ?_ (by decide) (by decide) d_Law_store_16
    exact ⟨fun p a b => by rw [mu_p _ _ _ (by omega)], 0, mu M 76 0 (nI 0), M 76 15, rfl, by decide, (fun A => by have h := fm_store0 l D dA (mg A M); simp only [mg_76, mg_77, mg_82, mg_83, mg_84, mg_85, mg_86, mg_87, mg_88, um_76, um_77, ite_mg] at h; exact h), rfl, (hRel.t _).o _, fun _ => by rw [mu_same]; exact hR.1.trans hS.1.symm⟩
  · by_cases e1 : p0 = nI 1
    · subst e1
      refine J_aload_n C 2 d_Law_store_0 rfl rfl ?_
      refine J_iconst C d_Law_store_1 (v := nI 0) rfl ?_
      refine J_aload_n C 0 d_Law_store_2 rfl rfl ?_
      refine J_iload_n C 1 d_Law_store_3 rfl rfl ?_
      refine P_callV C (as := [.int (nI 1)]) (st := [.int (nI 0), .ref 89]) (p_store1 l D dA M) l_Law_47 v_Orb_store (by decide) (e_0 _) rfl (by decide) (by decide) (by decide) (Nat.le_of_ble_eq_true rfl) d_Law_store_4 (kk := ?_)
      refine J_i2l C d_Law_store_7 ?_
      refine K_lst C (x := M 3 4) rfl rfl d_Law_store_8 (kk := ?_)
      refine J_goto C 15 d_Law_store_9 (by decide) ?_
      refine J_iconst C d_Law_store_15 (v := nI 0) rfl ?_
      refine WK_iret C hr ?_ (by decide) (by decide) d_Law_store_16
      exact ⟨fun p a b => by rw [mu_p _ _ _ (by omega)], 0, mu M 76 0 (nI 0), nI (cntF (uX M) 24), rfl, by decide, (fun A => by have h := fm_store1 l D dA (mg A M) c0 (uX M) hS.1 hS.2.1 (uX_le M) (uX_hu1 hS.c) (uX_hu0 hS.c); simp only [mg_76, mg_77, mg_82, mg_83, mg_84, mg_85, mg_86, mg_87, mg_88, um_76, um_77, ite_mg] at h; exact h), rfl, (hRel.t _).o _, fun _ => by rw [mu_same]; exact hR.2.1⟩
    · by_cases e2 : p0 = nI 2
      · subst e2
        refine J_aload_n C 2 d_Law_store_0 rfl rfl ?_
        refine J_iconst C d_Law_store_1 (v := nI 0) rfl ?_
        refine J_aload_n C 0 d_Law_store_2 rfl rfl ?_
        refine J_iload_n C 1 d_Law_store_3 rfl rfl ?_
        refine P_callV C (as := [.int (nI 2)]) (st := [.int (nI 0), .ref 89]) (p_store2 l D dA M) l_Law_47 v_Orb_store (by decide) (e_0 _) rfl (by decide) (by decide) (by decide) (Nat.le_of_ble_eq_true rfl) d_Law_store_4 (kk := ?_)
        refine J_i2l C d_Law_store_7 ?_
        refine K_lst C (x := M 3 6) rfl rfl d_Law_store_8 (kk := ?_)
        refine J_goto C 15 d_Law_store_9 (by decide) ?_
        refine J_iconst C d_Law_store_15 (v := nI 0) rfl ?_
        refine WK_iret C hr ?_ (by decide) (by decide) d_Law_store_16
        exact ⟨fun p a b => by rw [mu_p _ _ _ (by omega)], 0, mu M 76 0 (nI 0), M 76 22, rfl, by decide, (fun A => by have h := fm_store2 l D dA (mg A M); simp only [mg_76, mg_77, mg_82, mg_83, mg_84, mg_85, mg_86, mg_87, mg_88, um_76, um_77, ite_mg] at h; exact h), rfl, (hRel.t _).o _, fun _ => by rw [mu_same]; exact hR.2.2.2.1⟩
      · by_cases e3 : p0 = nI 3
        · subst e3
          refine J_aload_n C 2 d_Law_store_0 rfl rfl ?_
          refine J_iconst C d_Law_store_1 (v := nI 0) rfl ?_
          refine J_aload_n C 0 d_Law_store_2 rfl rfl ?_
          refine J_iload_n C 1 d_Law_store_3 rfl rfl ?_
          refine P_callV C (as := [.int (nI 3)]) (st := [.int (nI 0), .ref 89]) (p_store3 l D dA M) l_Law_47 v_Orb_store (by decide) (e_0 _) rfl (by decide) (by decide) (by decide) (Nat.le_of_ble_eq_true rfl) d_Law_store_4 (kk := ?_)
          refine J_i2l C d_Law_store_7 ?_
          refine K_lst C (x := M 3 7) rfl rfl d_Law_store_8 (kk := ?_)
          refine J_goto C 15 d_Law_store_9 (by decide) ?_
          refine J_iconst C d_Law_store_15 (v := nI 0) rfl ?_
          refine WK_iret C hr ?_ (by decide) (by decide) d_Law_store_16
          exact ⟨fun p a b => by rw [mu_p _ _ _ (by omega)], 0, mu M 76 0 (nI 0), M 76 23, rfl, by decide, (fun A => by have h := fm_store3 l D dA (mg A M); simp only [mg_76, mg_77, mg_82, mg_83, mg_84, mg_85, mg_86, mg_87, mg_88, um_76, um_77, ite_mg] at h; exact h), rfl, (hRel.t _).o _, fun _ => by rw [mu_same]; exact hR.2.2.2.2.1⟩
        · have hbad : ∀ k, 0 ≤ k → k ≤ 3 → ¬ p0 = nI k := fun k _ h3 e => by rcases (show k = 0 ∨ k = 1 ∨ k = 2 ∨ k = 3 by omega) with z | z | z | z <;> subst z <;> contradiction
          refine J_aload_n C 2 d_Law_store_0 rfl rfl ?_
          refine J_iconst C d_Law_store_1 (v := nI 0) rfl ?_
          refine J_aload_n C 0 d_Law_store_2 rfl rfl ?_
          refine J_iload_n C 1 d_Law_store_3 rfl rfl ?_
          refine J_catchV C (i := 3) (as := [.int p0]) (st := [.int (nI 0), .ref 89]) (X0 := "java/lang/IllegalArgumentException") (x_store l D dA hfl M p0 hbad) l_Law_47 (tb_in 1063 (by decide +kernel) (by decide +kernel)) v_Orb_store (by decide) (e_0 _) rfl (by decide) (by decide) (by decide) (Nat.le_of_ble_eq_true rfl) d_Law_store_4 [] (⟨0, 9, 12, 13⟩ : ExceptionTableEntry) [] hex (by intro y hy; cases hy) (by decide) (by decide) (tb_in 371 (by decide +kernel) (by decide +kernel)) (tb_in 381 (by decide +kernel) (by decide +kernel)) (hpc := 12) (pc' := 13) rfl (Or.inl ⟨3, rfl, d_Law_store_12, rfl⟩) (by decide) rfl (kk := ?_)
          refine J_iconst C d_Law_store_13 (v := nI 1) rfl ?_
          refine WK_iret C hr ?_ (by decide) (by decide) d_Law_store_14
          exact ⟨fun _ _ _ => rfl, 1, mu M 76 0 (nI 1), nI 0, rfl, by decide, (fun A => by have h := fm_storeX l D dA (mg A M) p0 (what_bad (by decide) hbad); simp only [mg_76, mg_77, mg_82, mg_83, mg_84, mg_85, mg_86, mg_87, mg_88, um_76, um_77, ite_mg] at h; exact h), mu_same _ _ _ _, hRel.t _, fun z => absurd z (by decide)⟩

set_option maxHeartbeats 4000000 in
set_option maxRecDepth 100000 in
theorem w_packet (l : Launch) (D : va_G) (dA : Nat → ClassId) (hfl : l.flags = pinnedFlags ++ [noTraceFlag]) (M : Mem) (n : Nat) (p0 p1 : Int32) (hRel : Rel n M M) (hn : n < 1000) : CMw l D dA k_Law_packet [(0, 10, 13, 41), (0, 10, 17, 13)] 8 [.ref 0, .int p0, .int p1, .ref 89] M (fun v M1 => LPo l D dA k_Mod_packet 0 [.ref 76, .int p0, .int p1] n M v M1) := by
  refine CTw.of (by decide +kernel) (Nat.le_of_ble_eq_true rfl) (by intro v hv; simp only [List.mem_cons, List.not_mem_nil, or_false] at hv; rcases hv with rfl | rfl | rfl | rfl <;> rfl) ?_
  intro A ad0 p e s m args below meth c C hr hex
  obtain ⟨⟨r1, r2, r3, r4, r5⟩, er, el, xa, xw, h70, h77, h10⟩ := id hRel
  have hz3 : M 76 3 = 0 ∨ M 76 3 = 1 := by obtain ⟨c0, ln, em, bk, q, hS, hR⟩ := r1; exact hS.2.2.1
  have ho39 : M 3 9 = M 76 3 := by obtain ⟨c0, ln, em, bk, q, hS, hR⟩ := r1; exact hR.2.2.2.2.2.2.1
  obtain ⟨c0, ln, em, bk, q, hS, hR⟩ := id r1
  have hc24 := hS.2.1
  have hq : ∀ k, k < 24 → M 6 k = nI (q k) := fun k hk => (hR.2.2.2.2.2.2.2.2.1 k hk).1
  have hq2 : ∀ k, k < 24 → q k < 24 := fun k hk => (hR.2.2.2.2.2.2.2.2.1 k hk).2
  by_cases hb : hasP M p0 = 0
  · refine J_aload_n C 3 d_Law_packet_0 rfl rfl ?_
    refine J_iconst C d_Law_packet_1 (v := nI 0) rfl ?_
    refine J_aload_n C 0 d_Law_packet_2 rfl rfl ?_
    refine J_iload_n C 1 d_Law_packet_3 rfl rfl ?_
    refine J_iload_n C 2 d_Law_packet_4 rfl rfl ?_
    refine J_catchV C (i := 4) (as := [.int p0, .int p1]) (st := [.int (nI 0), .ref 89]) (X0 := "java/lang/IndexOutOfBoundsException") (x_packet l D dA hfl M p0 p1 hb) l_Law_50 (tb_in 1070 (by decide +kernel) (by decide +kernel)) v_Orb_packet (by decide) (e_0 _) rfl (by decide) (by decide) (by decide) (Nat.le_of_ble_eq_true rfl) d_Law_packet_5 [] (⟨0, 10, 13, 41⟩ : ExceptionTableEntry) [(⟨0, 10, 17, 13⟩ : ExceptionTableEntry)] hex (by intro y hy; cases hy) (by decide) (by decide) (tb_in 1029 (by decide +kernel) (by decide +kernel)) (tb_in 1040 (by decide +kernel) (by decide +kernel)) (hpc := 13) (pc' := 15) rfl (Or.inr ⟨d_Law_packet_13, rfl⟩) (by decide) rfl (kk := ?_)
    refine J_iconst C d_Law_packet_15 (v := nI 1) rfl ?_
    refine WK_iret C hr ?_ (by decide) (by decide) d_Law_packet_16
    exact ⟨fun _ _ _ => rfl, 1, mu M 76 0 (nI 1), nI 0, rfl, by decide, (fun A => by have h := fm_packetX l D dA (mg A M) p0 p1 (by rcases hasP_bad hb with w | w; (exact Or.inl w); (exact Or.inr (show M 76 15 ≤ p0 by rw [hS.1, ← hR.1]; exact w))); simp only [mg_76, mg_77, mg_82, mg_83, mg_84, mg_85, mg_86, mg_87, mg_88, um_76, um_77, ite_mg] at h; exact h), mu_same _ _ _ _, hRel.t _, fun z => absurd z (by decide)⟩
  · obtain ⟨i9, hi9, rfl⟩ := hasP_ok hR.1 hc24 hb
    by_cases e0 : p1 = nI 0
    · subst e0
      refine J_aload_n C 3 d_Law_packet_0 rfl rfl ?_
      refine J_iconst C d_Law_packet_1 (v := nI 0) rfl ?_
      refine J_aload_n C 0 d_Law_packet_2 rfl rfl ?_
      refine J_iload_n C 1 d_Law_packet_3 rfl rfl ?_
      refine J_iload_n C 2 d_Law_packet_4 rfl rfl ?_
      refine P_callV C (as := [.int (nI i9), .int (nI 0)]) (st := [.int (nI 0), .ref 89]) (p_packet0 l D dA M i9 c0 q hR.1 hc24 hi9 hq hq2 (q i9) rfl) l_Law_50 v_Orb_packet (by decide) (e_0 _) rfl (by decide) (by decide) (by decide) (Nat.le_of_ble_eq_true rfl) d_Law_packet_5 (kk := ?_)
      refine J_i2l C d_Law_packet_8 ?_
      refine K_lst C (x := M (7 + 2 * q i9) 1) rfl rfl d_Law_packet_9 (kk := ?_)
      refine J_goto C 21 d_Law_packet_10 (by decide) ?_
      refine J_iconst C d_Law_packet_21 (v := nI 0) rfl ?_
      refine WK_iret C hr ?_ (by decide) (by decide) d_Law_packet_22
      exact ⟨fun p a b => by rw [mu_p _ _ _ (by omega)], 0, mu M 76 0 (nI 0), M 82 i9, rfl, by decide, (fun A => by have h := fm_packet0 l D dA (mg A M) i9 c0 hS.1 hc24 hi9; simp only [mg_76, mg_77, mg_82, mg_83, mg_84, mg_85, mg_86, mg_87, mg_88, um_76, um_77, ite_mg] at h; exact h), rfl, (hRel.t _).o _, fun _ => by rw [mu_same]; exact (hR.2.2.2.2.2.2.2.2.2.2.2.1 i9 hi9).1⟩
    · by_cases e1 : p1 = nI 1
      · subst e1
        refine J_aload_n C 3 d_Law_packet_0 rfl rfl ?_
        refine J_iconst C d_Law_packet_1 (v := nI 0) rfl ?_
        refine J_aload_n C 0 d_Law_packet_2 rfl rfl ?_
        refine J_iload_n C 1 d_Law_packet_3 rfl rfl ?_
        refine J_iload_n C 2 d_Law_packet_4 rfl rfl ?_
        refine P_callV C (as := [.int (nI i9), .int (nI 1)]) (st := [.int (nI 0), .ref 89]) (p_packet1 l D dA M i9 c0 q hR.1 hc24 hi9 hq hq2 (q i9) rfl) l_Law_50 v_Orb_packet (by decide) (e_0 _) rfl (by decide) (by decide) (by decide) (Nat.le_of_ble_eq_true rfl) d_Law_packet_5 (kk := ?_)
        refine J_i2l C d_Law_packet_8 ?_
        refine K_lst C (x := M (7 + 2 * q i9) 2) rfl rfl d_Law_packet_9 (kk := ?_)
        refine J_goto C 21 d_Law_packet_10 (by decide) ?_
        refine J_iconst C d_Law_packet_21 (v := nI 0) rfl ?_
        refine WK_iret C hr ?_ (by decide) (by decide) d_Law_packet_22
        exact ⟨fun p a b => by rw [mu_p _ _ _ (by omega)], 0, mu M 76 0 (nI 0), M 83 i9, rfl, by decide, (fun A => by have h := fm_packet1 l D dA (mg A M) i9 c0 hS.1 hc24 hi9; simp only [mg_76, mg_77, mg_82, mg_83, mg_84, mg_85, mg_86, mg_87, mg_88, um_76, um_77, ite_mg] at h; exact h), rfl, (hRel.t _).o _, fun _ => by rw [mu_same]; exact (hR.2.2.2.2.2.2.2.2.2.2.2.1 i9 hi9).2.1.trans (hS.2.2.2.1 i9 hi9).1.symm⟩
      · by_cases e2 : p1 = nI 2
        · subst e2
          refine J_aload_n C 3 d_Law_packet_0 rfl rfl ?_
          refine J_iconst C d_Law_packet_1 (v := nI 0) rfl ?_
          refine J_aload_n C 0 d_Law_packet_2 rfl rfl ?_
          refine J_iload_n C 1 d_Law_packet_3 rfl rfl ?_
          refine J_iload_n C 2 d_Law_packet_4 rfl rfl ?_
          refine P_callV C (as := [.int (nI i9), .int (nI 2)]) (st := [.int (nI 0), .ref 89]) (p_packet2 l D dA M i9 c0 q hR.1 hc24 hi9 hq hq2 (q i9) rfl) l_Law_50 v_Orb_packet (by decide) (e_0 _) rfl (by decide) (by decide) (by decide) (Nat.le_of_ble_eq_true rfl) d_Law_packet_5 (kk := ?_)
          refine J_i2l C d_Law_packet_8 ?_
          refine K_lst C (x := M (7 + 2 * q i9) 3) rfl rfl d_Law_packet_9 (kk := ?_)
          refine J_goto C 21 d_Law_packet_10 (by decide) ?_
          refine J_iconst C d_Law_packet_21 (v := nI 0) rfl ?_
          refine WK_iret C hr ?_ (by decide) (by decide) d_Law_packet_22
          exact ⟨fun p a b => by rw [mu_p _ _ _ (by omega)], 0, mu M 76 0 (nI 0), (M 84 (60 * i9) &&& nI 7) * nI 256 + M 84 (60 * i9 + 1), rfl, by decide, (fun A => by have h := fm_packet2 l D dA (mg A M) i9 c0 hS.1 hc24 hi9; simp only [mg_76, mg_77, mg_82, mg_83, mg_84, mg_85, mg_86, mg_87, mg_88, um_76, um_77, ite_mg] at h; exact h), rfl, (hRel.t _).o _, fun _ => by rw [mu_same]; exact (hR.2.2.2.2.2.2.2.2.2.2.2.1 i9 hi9).2.2.1⟩
        · by_cases e3 : p1 = nI 3
          · subst e3
            refine J_aload_n C 3 d_Law_packet_0 rfl rfl ?_
            refine J_iconst C d_Law_packet_1 (v := nI 0) rfl ?_
            refine J_aload_n C 0 d_Law_packet_2 rfl rfl ?_
            refine J_iload_n C 1 d_Law_packet_3 rfl rfl ?_
            refine J_iload_n C 2 d_Law_packet_4 rfl rfl ?_
            refine P_callV C (as := [.int (nI i9), .int (nI 3)]) (st := [.int (nI 0), .ref 89]) (p_packet3 l D dA M i9 c0 q hR.1 hc24 hi9 hq hq2 (q i9) rfl) l_Law_50 v_Orb_packet (by decide) (e_0 _) rfl (by decide) (by decide) (by decide) (Nat.le_of_ble_eq_true rfl) d_Law_packet_5 (kk := ?_)
            refine J_i2l C d_Law_packet_8 ?_
            refine K_lst C (x := M (8 + 2 * q i9) 0) rfl rfl d_Law_packet_9 (kk := ?_)
            refine J_goto C 21 d_Law_packet_10 (by decide) ?_
            refine J_iconst C d_Law_packet_21 (v := nI 0) rfl ?_
            refine WK_iret C hr ?_ (by decide) (by decide) d_Law_packet_22
            exact ⟨fun p a b => by rw [mu_p _ _ _ (by omega)], 0, mu M 76 0 (nI 0), M 85 (3 * i9), rfl, by decide, (fun A => by have h := fm_packet3 l D dA (mg A M) i9 c0 hS.1 hc24 hi9; simp only [mg_76, mg_77, mg_82, mg_83, mg_84, mg_85, mg_86, mg_87, mg_88, um_76, um_77, ite_mg] at h; exact h), rfl, (hRel.t _).o _, fun _ => by rw [mu_same]; have l9 := (hS.2.2.2.1 i9 hi9).2; exact (hR.2.2.2.2.2.2.2.2.2.2.2.2.1 i9 0 hi9 (by omega)).trans (hS.2.2.2.2.2.1 i9 0 hi9 (by omega)).1.symm⟩
          · by_cases e4 : p1 = nI 4
            · subst e4
              refine J_aload_n C 3 d_Law_packet_0 rfl rfl ?_
              refine J_iconst C d_Law_packet_1 (v := nI 0) rfl ?_
              refine J_aload_n C 0 d_Law_packet_2 rfl rfl ?_
              refine J_iload_n C 1 d_Law_packet_3 rfl rfl ?_
              refine J_iload_n C 2 d_Law_packet_4 rfl rfl ?_
              refine P_callV C (as := [.int (nI i9), .int (nI 4)]) (st := [.int (nI 0), .ref 89]) (p_packet4 l D dA M i9 c0 q hR.1 hc24 hi9 hq hq2 (q i9) rfl) l_Law_50 v_Orb_packet (by decide) (e_0 _) rfl (by decide) (by decide) (by decide) (Nat.le_of_ble_eq_true rfl) d_Law_packet_5 (kk := ?_)
              refine J_i2l C d_Law_packet_8 ?_
              refine K_lst C (x := M (7 + 2 * q i9) 4) rfl rfl d_Law_packet_9 (kk := ?_)
              refine J_goto C 21 d_Law_packet_10 (by decide) ?_
              refine J_iconst C d_Law_packet_21 (v := nI 0) rfl ?_
              refine WK_iret C hr ?_ (by decide) (by decide) d_Law_packet_22
              exact ⟨fun p a b => by rw [mu_p _ _ _ (by omega)], 0, mu M 76 0 (nI 0), M 86 i9, rfl, by decide, (fun A => by have h := fm_packet4 l D dA (mg A M) i9 c0 hS.1 hc24 hi9; simp only [mg_76, mg_77, mg_82, mg_83, mg_84, mg_85, mg_86, mg_87, mg_88, um_76, um_77, ite_mg] at h; exact h), rfl, (hRel.t _).o _, fun _ => by rw [mu_same]; exact (hR.2.2.2.2.2.2.2.2.2.2.2.1 i9 hi9).2.2.2.trans (hS.2.2.2.2.1 i9 hi9).1.symm⟩
            · have hbad : ∀ k, 0 ≤ k → k ≤ 4 → ¬ p1 = nI k := fun k _ h3 e => by rcases (show k = 0 ∨ k = 1 ∨ k = 2 ∨ k = 3 ∨ k = 4 by omega) with z | z | z | z | z <;> subst z <;> contradiction
              refine J_aload_n C 3 d_Law_packet_0 rfl rfl ?_
              refine J_iconst C d_Law_packet_1 (v := nI 0) rfl ?_
              refine J_aload_n C 0 d_Law_packet_2 rfl rfl ?_
              refine J_iload_n C 1 d_Law_packet_3 rfl rfl ?_
              refine J_iload_n C 2 d_Law_packet_4 rfl rfl ?_
              refine J_catchV C (i := 4) (as := [.int (nI i9), .int p1]) (st := [.int (nI 0), .ref 89]) (X0 := "java/lang/IllegalArgumentException") (x_packetN l D dA hfl M i9 c0 q hR.1 hc24 hi9 hq hq2 (q i9) rfl p1 hbad) l_Law_50 (tb_in 1070 (by decide +kernel) (by decide +kernel)) v_Orb_packet (by decide) (e_0 _) rfl (by decide) (by decide) (by decide) (Nat.le_of_ble_eq_true rfl) d_Law_packet_5 [((⟨0, 10, 13, 41⟩ : ExceptionTableEntry), "java/lang/IndexOutOfBoundsException")] (⟨0, 10, 17, 13⟩ : ExceptionTableEntry) [] hex (by intro y hy; simp only [List.mem_cons, List.not_mem_nil, or_false] at hy; rcases hy with rfl; (exact ⟨by decide, by decide, tb_in 1029 (by decide +kernel) (by decide +kernel), tb_in 1326 (by decide +kernel) (by decide +kernel)⟩)) (by decide) (by decide) (tb_in 371 (by decide +kernel) (by decide +kernel)) (tb_in 381 (by decide +kernel) (by decide +kernel)) (hpc := 17) (pc' := 19) rfl (Or.inr ⟨d_Law_packet_17, rfl⟩) (by decide) rfl (kk := ?_)
              refine J_iconst C d_Law_packet_19 (v := nI 2) rfl ?_
              refine WK_iret C hr ?_ (by decide) (by decide) d_Law_packet_20
              exact ⟨fun _ _ _ => rfl, 2, mu M 76 0 (nI 2), nI 0, rfl, by decide, (fun A => by have h := fm_packetY l D dA (mg A M) i9 c0 hS.1 hc24 hi9 p1 (what_bad (by decide) hbad); simp only [mg_76, mg_77, mg_82, mg_83, mg_84, mg_85, mg_86, mg_87, mg_88, um_76, um_77, ite_mg] at h; exact h), mu_same _ _ _ _, hRel.t _, fun z => absurd z (by decide)⟩

set_option maxHeartbeats 4000000 in
set_option maxRecDepth 100000 in
theorem w_content (l : Launch) (D : va_G) (dA : Nat → ClassId) (hfl : l.flags = pinnedFlags ++ [noTraceFlag]) (M : Mem) (n : Nat) (p0 p1 : Int32) (hRel : Rel n M M) (hn : n < 1000) : CMw l D dA k_Law_content [(0, 10, 13, 41)] 8 [.ref 0, .int p0, .int p1, .ref 89] M (fun v M1 => LPo l D dA k_Mod_content 0 [.ref 76, .int p0, .int p1] n M v M1) := by
  refine CTw.of (by decide +kernel) (Nat.le_of_ble_eq_true rfl) (by intro v hv; simp only [List.mem_cons, List.not_mem_nil, or_false] at hv; rcases hv with rfl | rfl | rfl | rfl <;> rfl) ?_
  intro A ad0 p e s m args below meth c C hr hex
  obtain ⟨⟨r1, r2, r3, r4, r5⟩, er, el, xa, xw, h70, h77, h10⟩ := id hRel
  have hz3 : M 76 3 = 0 ∨ M 76 3 = 1 := by obtain ⟨c0, ln, em, bk, q, hS, hR⟩ := r1; exact hS.2.2.1
  have ho39 : M 3 9 = M 76 3 := by obtain ⟨c0, ln, em, bk, q, hS, hR⟩ := r1; exact hR.2.2.2.2.2.2.1
  obtain ⟨c0, ln, em, bk, q, hS, hR⟩ := id r1
  have hc24 := hS.2.1
  have hq : ∀ k, k < 24 → M 6 k = nI (q k) := fun k hk => (hR.2.2.2.2.2.2.2.2.1 k hk).1
  have hq2 : ∀ k, k < 24 → q k < 24 := fun k hk => (hR.2.2.2.2.2.2.2.2.1 k hk).2
  by_cases hb : hasP M p0 = 0
  · refine J_aload_n C 3 d_Law_content_0 rfl rfl ?_
    refine J_iconst C d_Law_content_1 (v := nI 0) rfl ?_
    refine J_aload_n C 0 d_Law_content_2 rfl rfl ?_
    refine J_iload_n C 1 d_Law_content_3 rfl rfl ?_
    refine J_iload_n C 2 d_Law_content_4 rfl rfl ?_
    refine J_catchV C (i := 4) (as := [.int p0, .int p1]) (st := [.int (nI 0), .ref 89]) (X0 := "java/lang/IndexOutOfBoundsException") (x_content l D dA hfl M p0 p1 hb) l_Law_53 (tb_in 1081 (by decide +kernel) (by decide +kernel)) v_Orb_content (by decide) (e_0 _) rfl (by decide) (by decide) (by decide) (Nat.le_of_ble_eq_true rfl) d_Law_content_5 [] (⟨0, 10, 13, 41⟩ : ExceptionTableEntry) [] hex (by intro y hy; cases hy) (by decide) (by decide) (tb_in 1029 (by decide +kernel) (by decide +kernel)) (tb_in 1040 (by decide +kernel) (by decide +kernel)) (hpc := 13) (pc' := 15) rfl (Or.inr ⟨d_Law_content_13, rfl⟩) (by decide) rfl (kk := ?_)
    refine J_iconst C d_Law_content_15 (v := nI 1) rfl ?_
    refine WK_iret C hr ?_ (by decide) (by decide) d_Law_content_16
    exact ⟨fun _ _ _ => rfl, 1, mu M 76 0 (nI 1), nI 0, rfl, by decide, (fun A => by have h := fm_contentX l D dA (mg A M) p0 p1 (by rcases hasP_bad hb with w | w; (exact Or.inl w); (exact Or.inr (show M 76 15 ≤ p0 by rw [hS.1, ← hR.1]; exact w))); simp only [mg_76, mg_77, mg_82, mg_83, mg_84, mg_85, mg_86, mg_87, mg_88, um_76, um_77, ite_mg] at h; exact h), mu_same _ _ _ _, hRel.t _, fun z => absurd z (by decide)⟩
  · obtain ⟨i9, hi9, rfl⟩ := hasP_ok hR.1 hc24 hb
    have l9 := (hS.2.2.2.1 i9 hi9).2
    by_cases hk : p1 < 0 ∨ M (7 + 2 * q i9) 2 ≤ p1
    · refine J_aload_n C 3 d_Law_content_0 rfl rfl ?_
      refine J_iconst C d_Law_content_1 (v := nI 0) rfl ?_
      refine J_aload_n C 0 d_Law_content_2 rfl rfl ?_
      refine J_iload_n C 1 d_Law_content_3 rfl rfl ?_
      refine J_iload_n C 2 d_Law_content_4 rfl rfl ?_
      refine J_catchV C (i := 4) (as := [.int (nI i9), .int p1]) (st := [.int (nI 0), .ref 89]) (X0 := "java/lang/IndexOutOfBoundsException") (x_contentN l D dA hfl M i9 c0 q hR.1 hc24 hi9 hq hq2 (q i9) rfl p1 hk) l_Law_53 (tb_in 1081 (by decide +kernel) (by decide +kernel)) v_Orb_content (by decide) (e_0 _) rfl (by decide) (by decide) (by decide) (Nat.le_of_ble_eq_true rfl) d_Law_content_5 [] (⟨0, 10, 13, 41⟩ : ExceptionTableEntry) [] hex (by intro y hy; cases hy) (by decide) (by decide) (tb_in 1029 (by decide +kernel) (by decide +kernel)) (tb_in 1040 (by decide +kernel) (by decide +kernel)) (hpc := 13) (pc' := 15) rfl (Or.inr ⟨d_Law_content_13, rfl⟩) (by decide) rfl (kk := ?_)
      refine J_iconst C d_Law_content_15 (v := nI 1) rfl ?_
      refine WK_iret C hr ?_ (by decide) (by decide) d_Law_content_16
      exact ⟨fun _ _ _ => rfl, 1, mu M 76 0 (nI 1), nI 0, rfl, by decide, (fun A => by have h := fm_contentY l D dA (mg A M) i9 c0 hS.1 hc24 hi9 p1 (by rcases hk with w | w; (exact Or.inl w); (exact Or.inr (show M 83 i9 ≤ p1 by rw [(hS.2.2.2.1 i9 hi9).1, ← ((hR.2.2.2.2.2.2.2.2.2.2.2.1 i9 hi9).2.1)]; exact w))); simp only [mg_76, mg_77, mg_82, mg_83, mg_84, mg_85, mg_86, mg_87, mg_88, um_76, um_77, ite_mg] at h; exact h), mu_same _ _ _ _, hRel.t _, fun z => absurd z (by decide)⟩
    · have hk1 := i32_ge (fun w => hk (Or.inl w))
      obtain ⟨k9, hk9, rfl⟩ : ∃ k9, k9 < ln i9 ∧ p1 = nI k9 := by
        refine ⟨p1.toNatClampNeg, ?_, hk1.1⟩
        rcases Nat.lt_or_ge p1.toNatClampNeg (ln i9) with w | w
        · exact w
        · exact absurd (Or.inr (by rw [((hR.2.2.2.2.2.2.2.2.2.2.2.1 i9 hi9).2.1), hk1.1]; exact nI_le w hk1.2)) hk
      refine J_aload_n C 3 d_Law_content_0 rfl rfl ?_
      refine J_iconst C d_Law_content_1 (v := nI 0) rfl ?_
      refine J_aload_n C 0 d_Law_content_2 rfl rfl ?_
      refine J_iload_n C 1 d_Law_content_3 rfl rfl ?_
      refine J_iload_n C 2 d_Law_content_4 rfl rfl ?_
      refine P_callV C (as := [.int (nI i9), .int (nI k9)]) (st := [.int (nI 0), .ref 89]) (p_content l D dA M i9 c0 q hR.1 hc24 hi9 hq hq2 (q i9) rfl k9 (ln i9) (bk i9 (k9 / 20)) ((hR.2.2.2.2.2.2.2.2.2.2.2.1 i9 hi9).2.1) l9.2 hk9 (hR.2.2.2.2.2.2.2.2.2.2.2.2.1 i9 (k9 / 20) hi9 (by omega)) (hS.2.2.2.2.2.1 i9 (k9 / 20) hi9 (by omega)).2) l_Law_53 v_Orb_content (by decide) (e_0 _) rfl (by decide) (by decide) (by decide) (Nat.le_of_ble_eq_true rfl) d_Law_content_5 (kk := ?_)
      refine J_i2l C d_Law_content_8 ?_
      refine K_lst C (x := M 4 (bk i9 (k9 / 20) * 20 + k9 % 20)) rfl rfl d_Law_content_9 (kk := ?_)
      refine J_goto C 17 d_Law_content_10 (by decide) ?_
      refine J_iconst C d_Law_content_17 (v := nI 0) rfl ?_
      refine WK_iret C hr ?_ (by decide) (by decide) d_Law_content_18
      exact ⟨fun p a b => by rw [mu_p _ _ _ (by omega)], 0, mu M 76 0 (nI 0), M 84 (60 * i9 + k9), rfl, by decide, (fun A => by have h := fm_content l D dA (mg A M) i9 c0 hS.1 hc24 hi9 k9 (ln i9) (hS.2.2.2.1 i9 hi9).1 l9.2 hk9; simp only [mg_76, mg_77, mg_82, mg_83, mg_84, mg_85, mg_86, mg_87, mg_88, um_76, um_77, ite_mg] at h; exact h), rfl, (hRel.t _).o _, fun _ => by rw [mu_same]; exact hR.2.2.2.2.2.2.2.2.2.2.2.2.2 i9 k9 hi9 hk9⟩
