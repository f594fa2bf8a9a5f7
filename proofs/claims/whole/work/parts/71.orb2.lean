set_option maxHeartbeats 4000000 in
set_option maxRecDepth 100000 in
theorem k_takeFrames (l : Launch) (D : va_G) (dA : Nat → ClassId) (M0 X0 X9 : Mem) (N9 : Nat) (hRc : RcR M0 X0) (hA : XA X0) (hW : XW X0) (hX9 : byM 72 X0 = X9) (hN9 : byN 72 X0 = N9) : CM l D dA k_Orb_takeFrames 6 [.ref 0] M0 (fun v M' => v = some (.int (nI N9)) ∧ RcR M' X9 ∧ ∀ p0, 73 ≤ p0 → M' p0 = M0 p0) := by
  refine CM.of (by decide +kernel) (Nat.le_of_ble_eq_true rfl) (by intro v hv; simp only [List.mem_cons, List.not_mem_nil, or_false] at hv; rcases hv with rfl <;> rfl) ?_
  intro A ad0 p e s m args below meth c C hr
  have lp : ∀ (fu i k : Nat) (M X : Mem), nX X < fu → nX X + i ≤ 71 → RcR M X → XA X → XW X → (∀ p0, 73 ≤ p0 → M p0 = M0 p0) → byM fu X = X9 → k + byN fu X = N9 → J D dA A (fun _ _ => True) ad0 90 k_Orb_takeFrames.2.2.1 p l e (zR 6 0 0) s m args below meth c (KQ D dA A ad0 below args s (fun v M' => v = some (.int (nI N9)) ∧ RcR M' X9 ∧ ∀ p0, 73 ≤ p0 → M' p0 = M0 p0)) 4 [some (.ref 0), some (.int (nI k)), some (.int (nI i)), none] [] (E M) 90 0 0 := by
    intro fu
    induction fu with
    | zero => intro i k M X hfu; exact absurd hfu (Nat.not_lt_zero _)
    | succ fu ih =>
      intro i k M X hfu hi hRc hA hW hfr hF hN
      generalize hfs : fu + 1 = fu1 at hF hN
      refine J_iload_n C 2 d_Orb_takeFrames_4 rfl rfl ?_
      refine J_bipush C d_Orb_takeFrames_5 (v := nI 71) rfl ?_
      refine J_icmpN_ge C 95 d_Orb_takeFrames_7 (by decide) (by omega) (by omega) (fun hc7 => ?_) (fun hc7 => ?_)
      · refine J_iload_n C 1 d_Orb_takeFrames_95 rfl rfl ?_
        refine KK_iret C hr ?_ d_Orb_takeFrames_96
        have hz : nX X = 0 := by omega
        have q := by_0 (lk_n0 hz) fu1
        rw [q.1] at hF
        rw [q.2] at hN
        rw [← hF, ← hN]
        exact ⟨rfl, hRc, hfr⟩
      · refine J_aload_n C 0 d_Orb_takeFrames_10 rfl rfl ?_
        refine J_get C f_Orb_22 (by decide) (e_0 _) rfl d_Orb_takeFrames_11 ?_
        refine J_get C f_Orb_71 (by decide) (e_3 _) rfl d_Orb_takeFrames_14 ?_
        refine J_if_ne C 95 d_Orb_takeFrames_17 (by decide) (fun hc17 => ?_) (fun hc17 => ?_)
        · refine J_iload_n C 1 d_Orb_takeFrames_95 rfl rfl ?_
          refine KK_iret C hr ?_ d_Orb_takeFrames_96
          have hoX : ¬ X 76 3 = 0 := by obtain ⟨⟨c0, ln, em, bk, q, hS, hR⟩, _⟩ := hRc; rw [← hR.2.2.2.2.2.2.1]; exact hc17
          have q := by_out hoX fu1
          rw [q.1] at hF
          rw [q.2] at hN
          rw [← hF, ← hN]
          exact ⟨rfl, hRc, hfr⟩
        · obtain ⟨hSR, hSs, hSt, hL, hWn⟩ := hRc
          have hn : M 69 2 = nI (nX X) := hL.1.trans hW.1
          have hn71 := hW.2.1
          obtain ⟨ck, k1, k0⟩ := ck_ex (CkC (M 70) (tdX X))
          have hcase := look_rel k1 k0 hL hW
          have hoX : X 76 3 = 0 := by obtain ⟨c0, ln, em, bk, q, hS, hR⟩ := hSR; rw [← hR.2.2.2.2.2.2.1]; exact hc17
          refine J_aload_n C 0 d_Orb_takeFrames_20 rfl rfl ?_
          refine J_get C f_Orb_38 (by decide) (e_0 _) rfl d_Orb_takeFrames_21 ?_
          refine P_callV C (as := []) (st := []) (p_look l D dA M (nX X) hn hn71 (wX X) (fun i hi => (hL.2 i hi).trans (hW.2.2 i hi).1) (fun i hi => (hW.2.2 i hi).2) ck k1 k0) l_Orb_156 v_Lan_look (by decide) (e_69 _) rfl (by decide) (by decide) (by decide) (Nat.le_of_ble_eq_true rfl) d_Orb_takeFrames_24 (kk := ?_)
          obtain ⟨lk, hlk⟩ : ∃ r, LookC (nX X) (wX X) ck = r := ⟨_, rfl⟩
          refine J_val (y := lk) hlk ?_
          rw [hlk] at hcase
          refine J_istore_n C 3 d_Orb_takeFrames_27 rfl (by decide) rfl ?_
          refine J_iload_n C 3 d_Orb_takeFrames_28 rfl rfl ?_
          refine J_if_ne C 35 d_Orb_takeFrames_29 (by decide) (fun hc29 => ?_) (fun hc29 => ?_)
          · refine J_iload_n C 3 d_Orb_takeFrames_35 rfl rfl ?_
            refine J_iconst C d_Orb_takeFrames_36 (v := -1) rfl ?_
            refine J_icmp_ne C 51 d_Orb_takeFrames_37 (by decide) (fun hc37 => ?_) (fun hc37 => ?_)
            · have h2 : lkX X = 2 ∧ 5 ≤ tdX X ∧ tdX X ≤ 64 ∧ tdX X + 7 ≤ nX X := by rcases hcase with q | q | q; (exact absurd q.1 hc29); (exact absurd q.1 hc37); (exact q.2)
              refine J_aload_n C 0 d_Orb_takeFrames_51 rfl rfl ?_
              refine J_get C f_Orb_38 (by decide) (e_0 _) rfl d_Orb_takeFrames_52 ?_
              refine F_callV C (as := []) (st := []) (f_takeFrame l D dA M (nX X) hn hn71 (wX X) (fun i hi => (hL.2 i hi).trans (hW.2.2 i hi).1) (fun i hi => (hW.2.2 i hi).2) (tdX X) rfl h2.2.1 h2.2.2.1 (by omega)) l_Orb_162 v_Lan_takeFrame (by decide) (e_69 _) rfl (by decide) (by decide) (Nat.le_of_ble_eq_true rfl) d_Orb_takeFrames_55 (kk := ?_)
              have hWn2 : WnR (fTake M (nX X) (tdX X)) X := hWn.eq (fTake_p _ _ _ (by decide)) (fTake_p _ _ _ (by decide)) (fTake_p _ _ _ (by decide)) rfl rfl
              have hSR2 : SR (fTake M (nX X) (tdX X)) X := hSR.fr (fun p0 a b => fTake_p _ _ _ (by omega))
              have hSs2 : SsR (fTake M (nX X) (tdX X)) X := hSs.eq (fun k _ _ => by rw [fTake_p _ _ _ (by decide)]) (fun _ _ _ => rfl)
              have hSt2 : StR (fTake M (nX X) (tdX X)) X := hSt.fr (fun p0 a b => fTake_p _ _ _ (by omega))
              refine J_iinc C d_Orb_takeFrames_58 rfl (v := nI (k + 1)) (nI_1 _) (by decide) rfl ?_
              refine J_aload_n C 0 d_Orb_takeFrames_61 rfl rfl ?_
              refine J_get C f_Orb_10 (by decide) (e_0 _) rfl d_Orb_takeFrames_62 ?_
              refine J_aload_n C 0 d_Orb_takeFrames_65 rfl rfl ?_
              refine J_get C f_Orb_49 (by decide) (e_0 _) rfl d_Orb_takeFrames_66 ?_
              refine P_callV C (as := [.int ((fTake M (nX X) (tdX X)) 0 6)]) (st := []) (p_isOpen_1 l D dA (fTake M (nX X) (tdX X)) (fTake M (nX X) (tdX X) 0 6) (by rw [hWn2.2.2.1]; exact hA.2.2.2)) l_Orb_68 v_Win_isOpen (by decide) (e_1 _) rfl (by decide) (by decide) (by decide) (Nat.le_of_ble_eq_true rfl) d_Orb_takeFrames_69 (kk := ?_)
              refine J_val (y := fOpen (X 76 1) (X 77 0) (X 77 1) (X 77 2)) (by rw [hWn2.1, hWn2.2.1, hWn2.2.2.1, hWn2.2.2.2.1]) ?_
              refine J_if_eq C 89 d_Orb_takeFrames_72 (by decide) (fun hc72 => ?_) (fun hc72 => ?_)
              · refine J_iinc C d_Orb_takeFrames_89 rfl (v := nI (i + 1)) (nI_1 _) (by decide) rfl ?_
                refine J_goto C 4 d_Orb_takeFrames_92 (by decide) ?_
                refine J_lv (lv' := [some (.ref 0), some (.int (nI (k + 1))), some (.int (nI (i + 1))), none]) (by intro i v hv; match i, hv with | 0, hv => exact hv | 1, hv => exact hv | 2, hv => exact hv | 3, hv => simp at hv | _ + 4, hv => simp at hv) ?_
                subst hfs
                rw [(by_2 h2.1 hoX _).1] at hF
                rw [(by_2 h2.1 hoX _).2] at hN
                have hAt : XA (fTk X (wX X) (tdX X)) := hA.tk h2.2.1 h2.2.2.1 (fun i hi => (hW.2.2 i (by omega)).1) (fun i hi => (hW.2.2 i (by omega)).2)
                have hWt : XW (fTk X (wX X) (tdX X)) := hW.tk _ _
                have hnt := nX_tk X (wX X) (tdX X)
                have t6 : fTk X (wX X) (tdX X) 76 6 = X 76 6 := fTk_k _ _ _ (by decide) (by decide) (by decide) (by decide) (by decide) (by decide) (by decide) (by decide) (by decide) (by decide) (by decide)
                have t1 : fTk X (wX X) (tdX X) 76 1 = X 76 1 := fTk_k _ _ _ (by decide) (by decide) (by decide) (by decide) (by decide) (by decide) (by decide) (by decide) (by decide) (by decide) (by decide)
                have t78 : fTk X (wX X) (tdX X) 78 = X 78 := fTk_p _ _ _ (by decide) (by decide) (by decide) (by decide) (by decide) (by decide) (by decide) (by decide) (by decide)
                have t77 : fTk X (wX X) (tdX X) 77 = X 77 := fTk_p _ _ _ (by decide) (by decide) (by decide) (by decide) (by decide) (by decide) (by decide) (by decide) (by decide)
                have hsh := tk_shut (g := wX X) (t := tdX X) hc72
                exact ih (i + 1) (k + 1) _ (lvX (fTk X (wX X) (tdX X)) (tdX X + 7)) (by rw [nX_lv _ _ (by omega), hnt]; omega) (by rw [nX_lv _ _ (by omega), hnt]; omega) (RcR.lv (by rw [hsh]; exact hSR2) (by rw [hsh]; exact hSs2) (by rw [hsh]; exact hSt2) (take_lk hL hW rfl t6 t78) (hWn2.eq rfl rfl rfl t1 t77)) (hAt.lv _) (hWt.lv (by omega)) (fun p0 a => by rw [fTake_p _ _ _ (by omega)]; exact hfr p0 a) hF (by omega)
              · refine J_aload_n C 0 d_Orb_takeFrames_75 rfl rfl ?_
                refine J_get C f_Orb_31 (by decide) (e_0 _) rfl d_Orb_takeFrames_76 ?_
                refine J_aload_n C 0 d_Orb_takeFrames_79 rfl rfl ?_
                refine J_get C f_Orb_38 (by decide) (e_0 _) rfl d_Orb_takeFrames_80 ?_
                refine J_get C f_Orb_165 (by decide) (e_69 _) rfl d_Orb_takeFrames_83 ?_
                refine K_callV C (as := [.ref 71]) (st := []) (k_heed l D dA (fTake M (nX X) (tdX X)) X (tdX X) (wX X) (take_fr hL hW rfl h2.2.1 h2.2.2.1 (by omega)) hSR2 hSs2 hSt2 hA.2.1 hA.2.2.1 hoX hc72) l_Orb_168 v_Ses_heed (by decide) (e_55 _) rfl (by decide) (by decide) (Nat.le_of_ble_eq_true rfl) d_Orb_takeFrames_86 (kk := ?_)
                intro v M2 hP
                obtain ⟨rfl, hP1, hP2, hP3, hP4⟩ := hP
                refine J_mem (M2 := M2) rfl ?_
                refine J_iinc C d_Orb_takeFrames_89 rfl (v := nI (i + 1)) (nI_1 _) (by decide) rfl ?_
                refine J_goto C 4 d_Orb_takeFrames_92 (by decide) ?_
                refine J_lv (lv' := [some (.ref 0), some (.int (nI (k + 1))), some (.int (nI (i + 1))), none]) (by intro i v hv; match i, hv with | 0, hv => exact hv | 1, hv => exact hv | 2, hv => exact hv | 3, hv => simp at hv | _ + 4, hv => simp at hv) ?_
                subst hfs
                rw [(by_2 h2.1 hoX _).1] at hF
                rw [(by_2 h2.1 hoX _).2] at hN
                have hAt : XA (fTk X (wX X) (tdX X)) := hA.tk h2.2.1 h2.2.2.1 (fun i hi => (hW.2.2 i (by omega)).1) (fun i hi => (hW.2.2 i (by omega)).2)
                have hWt : XW (fTk X (wX X) (tdX X)) := hW.tk _ _
                have hnt := nX_tk X (wX X) (tdX X)
                have t6 : fTk X (wX X) (tdX X) 76 6 = X 76 6 := fTk_k _ _ _ (by decide) (by decide) (by decide) (by decide) (by decide) (by decide) (by decide) (by decide) (by decide) (by decide) (by decide)
                have t1 : fTk X (wX X) (tdX X) 76 1 = X 76 1 := fTk_k _ _ _ (by decide) (by decide) (by decide) (by decide) (by decide) (by decide) (by decide) (by decide) (by decide) (by decide) (by decide)
                have t78 : fTk X (wX X) (tdX X) 78 = X 78 := fTk_p _ _ _ (by decide) (by decide) (by decide) (by decide) (by decide) (by decide) (by decide) (by decide) (by decide)
                have t77 : fTk X (wX X) (tdX X) 77 = X 77 := fTk_p _ _ _ (by decide) (by decide) (by decide) (by decide) (by decide) (by decide) (by decide) (by decide) (by decide)
                exact ih (i + 1) (k + 1) _ (lvX (fTk X (wX X) (tdX X)) (tdX X + 7)) (by rw [nX_lv _ _ (by omega), hnt]; omega) (by rw [nX_lv _ _ (by omega), hnt]; omega) (RcR.lv hP1 hP2 hP3 ((take_lk hL hW rfl t6 t78).fr (hP4 69 (by omega)) (hP4 70 (by omega)) rfl rfl) (hWn2.eq (hP4 0 (by omega)) (hP4 1 (by omega)) (hP4 2 (by omega)) t1 t77)) (hAt.lv _) (hWt.lv (by omega)) (fun p0 a => by rw [hP4 p0 (by omega), fTake_p _ _ _ (by omega)]; exact hfr p0 a) hF (by omega)
            · have h1 : lkX X = 1 := by rcases hcase with q | q | q; (exact absurd q.1 hc29); (exact q.2); (exact absurd (q.1.symm.trans hc37) (nI_ne_m1 (by omega)))
              have hn1 : 1 ≤ nX X := LookM_n (show ¬ lkX X = 0 by rw [h1]; decide)
              refine J_aload_n C 0 d_Orb_takeFrames_40 rfl rfl ?_
              refine J_get C f_Orb_38 (by decide) (e_0 _) rfl d_Orb_takeFrames_41 ?_
              refine J_iconst C d_Orb_takeFrames_44 (v := nI 1) rfl ?_
              refine F_callV C (as := [.int (nI 1)]) (st := []) (f_giveUp l D dA M (nX X) 1 hn hn71 hn1) l_Orb_159 v_Lan_giveUp (by decide) (e_69 _) rfl (by decide) (by decide) (Nat.le_of_ble_eq_true rfl) d_Orb_takeFrames_45 (kk := ?_)
              refine J_goto C 89 d_Orb_takeFrames_48 (by decide) ?_
              refine J_iinc C d_Orb_takeFrames_89 rfl (v := nI (i + 1)) (nI_1 _) (by decide) rfl ?_
              refine J_goto C 4 d_Orb_takeFrames_92 (by decide) ?_
              refine J_lv (lv' := [some (.ref 0), some (.int (nI k)), some (.int (nI (i + 1))), none]) (by intro i v hv; match i, hv with | 0, hv => exact hv | 1, hv => exact hv | 2, hv => exact hv | 3, hv => simp at hv | _ + 4, hv => simp at hv) ?_
              subst hfs
              rw [(by_1 h1 hoX _).1] at hF
              rw [(by_1 h1 hoX _).2] at hN
              exact ih (i + 1) k _ (lvX X 1) (by rw [nX_lv _ _ hn71]; omega) (by rw [nX_lv _ _ hn71]; omega) (RcR.lv (hSR.fr (fun p0 a b => by rw [mu_p _ _ _ (by omega), ma_p _ _ (by omega)])) (hSs.eq (fun k _ _ => by rw [mu_p _ _ _ (by decide), ma_p _ _ (by decide)]) (fun _ _ _ => rfl)) (hSt.fr (fun p0 a b => by rw [mu_p _ _ _ (by omega), ma_p _ _ (by omega)])) (lk_rel hL hW (by decide) (mu_same _ _ _ _) (by rw [mu_p _ _ _ (by decide), ma_row])) (hWn.eq (by rw [mu_p _ _ _ (by decide), ma_p _ _ (by decide)]) (by rw [mu_p _ _ _ (by decide), ma_p _ _ (by decide)]) (by rw [mu_p _ _ _ (by decide), ma_p _ _ (by decide)]) rfl rfl)) (hA.lv _) (hW.lv (by decide)) (fun p0 a => by rw [mu_p _ _ _ (by omega), ma_p _ _ (by omega)]; exact hfr p0 a) hF hN
          · refine J_goto C 95 d_Orb_takeFrames_32 (by decide) ?_
            refine J_iload_n C 1 d_Orb_takeFrames_95 rfl rfl ?_
            refine KK_iret C hr ?_ d_Orb_takeFrames_96
            have h0 : lkX X = 0 := by rcases hcase with q | q | q; (exact q.2); (exact absurd (q.1.symm.trans hc29) (by decide)); (exact absurd (q.1.symm.trans hc29) (nI_ne0 (by omega) (by omega)))
            have q := by_0 h0 fu1
            rw [q.1] at hF
            rw [q.2] at hN
            rw [← hF, ← hN]
            exact ⟨rfl, ⟨hSR, hSs, hSt, hL, hWn⟩, hfr⟩
  refine J_iconst C d_Orb_takeFrames_0 (v := nI 0) rfl ?_
  refine J_istore_n C 1 d_Orb_takeFrames_1 rfl (by decide) rfl ?_
  refine J_iconst C d_Orb_takeFrames_2 (v := nI 0) rfl ?_
  refine J_istore_n C 2 d_Orb_takeFrames_3 rfl (by decide) rfl ?_
  exact lp 72 0 0 M0 X0 (by have := hW.2.1; omega) hW.2.1 hRc hA hW (fun _ _ => rfl) hX9 (by omega)
