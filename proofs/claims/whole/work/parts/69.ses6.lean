set_option maxHeartbeats 4000000 in
set_option maxRecDepth 100000 in
theorem k_heed (l : Launch) (D : va_G) (dA : Nat → ClassId) (M X : Mem) (t : Nat) (g : Nat → Nat) (hFr : FrR t g M X) (hSR : SR M X) (hSs : SsR M X) (hSt : StR M X) (hXt : XSt X) (hI : XI X) (ho : X 76 3 = 0) (hopen : ¬ fOpen (X 76 1) (X 77 0) (X 77 1) (X 77 2) = 0) : CM l D dA k_Ses_heed 5 [.ref 55, .ref 71] M (fun v M' => v = none ∧ HP M (fTk X g t) M') := by
  refine CM.of (by decide +kernel) (Nat.le_of_ble_eq_true rfl) (by intro v hv; simp only [List.mem_cons, List.not_mem_nil, or_false] at hv; rcases hv with rfl | rfl <;> rfl) ?_
  intro A ad0 p e s m args below meth c C hr
  have h5 := hFr.2.1
  have h64 := hFr.2.2.1
  have hg3 : g 3 < 256 := hFr.2.2.2.2.2 3 (by omega)
  have hg4 : g 4 < 256 := hFr.2.2.2.2.2 4 (by omega)
  refine J_aload_n C 1 d_Ses_heed_0 rfl rfl ?_
  refine P_callV C (as := []) (st := []) (p_spacecraft l D dA M) l_Ses_57 v_Frm_spacecraft (by decide) (e_71 _) rfl (by decide) (by decide) (by decide) (Nat.le_of_ble_eq_true rfl) d_Ses_heed_1 (kk := ?_)
  refine J_val (y := nI (g 3 % 4 * 256 + g 4)) (show (M 72 0 &&& nI 3) * nI 256 + M 72 1 = _ by rw [show M 72 0 = nI (g 3) from hFr.2.2.2.1 0 (by omega), show M 72 1 = nI (g 4) from hFr.2.2.2.1 1 (by omega)]; exact fl_sc (hFr.2.2.2.2.2 _ (by omega)) (hFr.2.2.2.2.2 _ (by omega))) ?_
  refine J_bipush C d_Ses_heed_4 (v := nI 77) rfl ?_
  refine J_icmpN_eq C 10 d_Ses_heed_6 (by decide) (by omega) (by omega) (fun hc6 => ?_) (fun hc6 => ?_)
  · have hsc : g 3 % 4 * 256 + g 4 = 77 := by omega
    refine J_aload_n C 1 d_Ses_heed_10 rfl rfl ?_
    refine P_callV C (as := []) (st := []) (p_isDirective l D dA M) l_Ses_63 v_Frm_isDirective (by decide) (e_71 _) rfl (by decide) (by decide) (by decide) (Nat.le_of_ble_eq_true rfl) d_Ses_heed_11 (kk := ?_)
    refine J_val (y := nI (g 3 / 16 % 2)) (show (if (M 72 0 &&& nI 16) = 0 then (0 : Int32) else 1) = _ by rw [show M 72 0 = nI (g 3) from hFr.2.2.2.1 0 (by omega)]; exact fl_16 (hFr.2.2.2.2.2 _ (by omega))) ?_
    refine J_ifN_eq C 25 d_Ses_heed_14 (by decide) (by omega) (fun hc14 => ?_) (fun hc14 => ?_)
    · have hnd : ¬ g 3 / 16 % 2 = 1 := by omega
      refine J_aload_n C 0 d_Ses_heed_25 rfl rfl ?_
      refine J_aload_n C 1 d_Ses_heed_26 rfl rfl ?_
      refine P_callV C (as := [.ref 71]) (st := []) (p_isOnFor l D dA M) l_Ses_71 v_Ses_isOnFor (by decide) (e_55 _) rfl (by decide) (by decide) (by decide) (Nat.le_of_ble_eq_true rfl) d_Ses_heed_27 (kk := ?_)
      obtain ⟨rO, hrO⟩ : ∃ r, (if M 55 3 = 0 then (0 : Int32) else if ChF M = M 55 4 then 1 else 0) = r := ⟨_, rfl⟩
      refine J_val (y := rO) hrO ?_
      refine J_if_eq C 74 d_Ses_heed_30 (by decide) (fun hc30 => ?_) (fun hc30 => ?_)
      · refine KK_ret C hr ?_ d_Ses_heed_74
        refine ⟨rfl, ?_⟩
        have hch : ChF M = nI (g 5 / 128) := by unfold ChF; rw [hFr.2.2.2.1 2 (by omega)]; exact fl_ch (hFr.2.2.2.2.2 _ (by omega))
        rw [hSs.1, hSs.2.1, hch] at hrO
        rw [tk_off hsc hnd (by
          by_cases w1 : X 76 7 = 0
          · exact Or.inl w1
          · rw [if_neg w1] at hrO
            refine Or.inr (fun w2 => ?_)
            rw [if_pos w2.symm] at hrO
            exact absurd hrO (by rw [hc30]; decide))]
        exact ⟨hSR, hSs, hSt, fun _ _ => rfl⟩
      · have hch : ChF M = nI (g 5 / 128) := by unfold ChF; rw [hFr.2.2.2.1 2 (by omega)]; exact fl_ch (hFr.2.2.2.2.2 _ (by omega))
        rw [hSs.1, hSs.2.1, hch] at hrO
        have h7 : ¬ X 76 7 = 0 := fun z => by rw [if_pos z] at hrO; exact hc30 hrO.symm
        rw [if_neg h7] at hrO
        have h8 : X 76 8 = nI (g 5 / 128) := Classical.byContradiction fun z => by rw [if_neg (fun w => z w.symm)] at hrO; exact hc30 hrO.symm
        by_cases hex : g 3 / 32 % 2 = 1
        · refine J_aload_n C 0 d_Ses_heed_33 rfl rfl ?_
          refine J_aload_n C 1 d_Ses_heed_34 rfl rfl ?_
          refine K_callV C (as := [.ref 71]) (st := []) (k_gather l D dA M (mu X 76 11 (nI ((kX X + 1) % 8))) t g (nI 0) (hFr.fr rfl rfl rfl) (hSt.eq rfl rfl rfl) (hXt.eq rfl rfl rfl) ho (Or.inl rfl)) l_Ses_75 v_Ses_gather (by decide) (e_55 _) rfl (by decide) (by decide) (Nat.le_of_ble_eq_true rfl) d_Ses_heed_35 (kk := ?_)
          intro v M1 hP
          obtain ⟨rfl, hG⟩ := hP
          refine J_mem (M2 := M1) rfl ?_
          replace hFr : FrR t g M1 X := hFr.fr (hG.1 71 (by decide) (by decide) (by decide) (by decide) (by decide)) (hG.1 72 (by decide) (by decide) (by decide) (by decide) (by decide)) rfl
          have hr9 : ¬ rF (mu X 76 11 (nI ((kX X + 1) % 8))) g (3 + t) (nI 0) (g 3 / 4 % 4) = 0 := by obtain ⟨_, _, c9, n9, s9, a9, b9, d9, Y9, _, _, _, _, _, e9, _⟩ := hG; rw [e9, if_pos (show nI 0 = 0 from rfl)]; decide
          refine J_aload_n C 1 d_Ses_heed_38 rfl rfl ?_
          refine P_callV C (as := []) (st := []) (p_isExpedited l D dA M1) l_Ses_78 v_Frm_isExpedited (by decide) (e_71 _) rfl (by decide) (by decide) (by decide) (Nat.le_of_ble_eq_true rfl) d_Ses_heed_39 (kk := ?_)
          refine J_val (y := nI (g 3 / 32 % 2)) (show (if (M1 72 0 &&& nI 32) = 0 then (0 : Int32) else 1) = _ by rw [show M1 72 0 = nI (g 3) from hFr.2.2.2.1 0 (by omega)]; exact fl_32 (hFr.2.2.2.2.2 _ (by omega))) ?_
          refine J_ifN_eq C 55 d_Ses_heed_42 (by decide) (by omega) (fun hc42 => absurd hc42 (by omega)) (fun hc42 => ?_)
          refine J_aload_n C 0 d_Ses_heed_45 rfl rfl ?_
          refine F_callV C (as := []) (st := []) (f_admitExpedited l D dA M1) l_Ses_81 v_Ses_admitExpedited (by decide) (e_55 _) rfl (by decide) (by decide) (Nat.le_of_ble_eq_true rfl) d_Ses_heed_46 (kk := ?_)
          refine J_ifN_eq C 74 d_Ses_heed_49 (by decide) (by omega) (fun hc49 => absurd hc49 (by decide)) (fun hc49 => ?_)
          refine J_goto C 66 d_Ses_heed_52 (by decide) ?_
          have hT := hG.tail (M2 := mu M1 55 7 ((M1 55 7 + nI 1) &&& nI 7)) hr9 (hSR.se (SE.k _ (by decide) (by decide) (by decide) (by decide) (by decide) (by decide))) (fun p0 a => mu_p _ _ _ a) (mu_k _ _ _ (by decide)) (mu_k _ _ _ (by decide))
          obtain ⟨c8, n8, src, st8, ln8, at8, Y, hsrc, hse, hcase⟩ := hT
          rcases hcase with ⟨q8, qst, qsr, qhv⟩ | ⟨j, qj, q8, q3, qn, qst, qsr, qhv⟩
          · refine J_aload_n C 0 d_Ses_heed_66 rfl rfl ?_
            refine F_callV C (as := []) (st := []) (f_settle0 l D dA (mu M1 55 7 ((M1 55 7 + nI 1) &&& nI 7)) q8) l_Ses_91 v_Ses_settleStream (by decide) (e_55 _) rfl (by decide) (by decide) (Nat.le_of_ble_eq_true rfl) d_Ses_heed_67 (kk := ?_)
            refine J_aload_n C 0 d_Ses_heed_70 rfl rfl ?_
            refine K_callV C (as := []) (st := []) (k_keepWhatFits l D dA (mu M1 55 7 ((M1 55 7 + nI 1) &&& nI 7)) Y _ c8 src st8 ln8 at8 qsr qhv hsrc rfl) l_Ses_94 v_Ses_keepWhatFits (by decide) (e_55 _) rfl (by decide) (by decide) (Nat.le_of_ble_eq_true rfl) d_Ses_heed_71 (kk := ?_)
            intro v M9 hP
            obtain ⟨rfl, hSR9, hfr9⟩ := hP
            refine J_mem (M2 := M9) rfl ?_
            refine KK_ret C hr ?_ d_Ses_heed_74
            have e55 : M9 55 = (mu M1 55 7 ((M1 55 7 + nI 1) &&& nI 7)) 55 := by rw [hfr9 55 (by omega)]
            refine ⟨rfl, ?_⟩
            rw [tk_exp hopen hsc hnd h7 h8 hex]
            refine ⟨hSR9.se hse, ?_, qst.fr (fun p0 a b => hfr9 p0 (by omega)), fun p0 hp => ?_⟩
            · have hk := hG.2.1
              refine SsR.eq (M := mu M 55 7 (nI ((kX X + 1) % 8))) (X := mu X 76 11 (nI ((kX X + 1) % 8))) ⟨hSs.1, hSs.2.1, hSs.2.2.1, hSs.2.2.2.1, rfl⟩ (fun k a b => ?_) (fun k a b => fF_k _ _ _ _ _ (by omega) (by omega) (by omega) (by omega) (by omega) (by omega))
              rw [e55]
              by_cases z : k = 7
              · subst z; rw [mu_same, mu_same, hk 7 (by decide), hSs.2.2.2.2, hI.2.2.1]; exact inc7 hI.2.2.2
              · rw [mu_k _ _ _ z, mu_k _ _ _ z]; exact hk k b
            · rw [hfr9 p0 (by omega), mu_p _ _ _ (by omega)]
              exact hG.1 p0 (by omega) (by omega) (by omega) (by omega) (by omega)
          · refine J_aload_n C 0 d_Ses_heed_66 rfl rfl ?_
            refine F_callV C (as := []) (st := []) (f_settle l D dA (mu M1 55 7 ((M1 55 7 + nI 1) &&& nI 7)) j n8 qj q8 q3 qn) l_Ses_91 v_Ses_settleStream (by decide) (e_55 _) rfl (by decide) (by decide) (Nat.le_of_ble_eq_true rfl) d_Ses_heed_67 (kk := ?_)
            refine J_aload_n C 0 d_Ses_heed_70 rfl rfl ?_
            refine K_callV C (as := []) (st := []) (k_keepWhatFits l D dA (fSet (mu M1 55 7 ((M1 55 7 + nI 1) &&& nI 7)) j n8) Y _ c8 src st8 ln8 at8 qsr qhv hsrc rfl) l_Ses_94 v_Ses_keepWhatFits (by decide) (e_55 _) rfl (by decide) (by decide) (Nat.le_of_ble_eq_true rfl) d_Ses_heed_71 (kk := ?_)
            intro v M9 hP
            obtain ⟨rfl, hSR9, hfr9⟩ := hP
            refine J_mem (M2 := M9) rfl ?_
            refine KK_ret C hr ?_ d_Ses_heed_74
            have e55 : M9 55 = (mu M1 55 7 ((M1 55 7 + nI 1) &&& nI 7)) 55 := by rw [hfr9 55 (by omega), fSet_p _ _ _ qj (by omega)]
            refine ⟨rfl, ?_⟩
            rw [tk_exp hopen hsc hnd h7 h8 hex]
            refine ⟨hSR9.se hse, ?_, qst.fr (fun p0 a b => hfr9 p0 (by omega)), fun p0 hp => ?_⟩
            · have hk := hG.2.1
              refine SsR.eq (M := mu M 55 7 (nI ((kX X + 1) % 8))) (X := mu X 76 11 (nI ((kX X + 1) % 8))) ⟨hSs.1, hSs.2.1, hSs.2.2.1, hSs.2.2.2.1, rfl⟩ (fun k a b => ?_) (fun k a b => fF_k _ _ _ _ _ (by omega) (by omega) (by omega) (by omega) (by omega) (by omega))
              rw [e55]
              by_cases z : k = 7
              · subst z; rw [mu_same, mu_same, hk 7 (by decide), hSs.2.2.2.2, hI.2.2.1]; exact inc7 hI.2.2.2
              · rw [mu_k _ _ _ z, mu_k _ _ _ z]; exact hk k b
            · rw [hfr9 p0 (by omega), fSet_p _ _ _ qj (by omega), mu_p _ _ _ (by omega)]
              exact hG.1 p0 (by omega) (by omega) (by omega) (by omega) (by omega)
        · refine J_aload_n C 0 d_Ses_heed_33 rfl rfl ?_
          refine J_aload_n C 1 d_Ses_heed_34 rfl rfl ?_
          refine K_callV C (as := [.ref 71]) (st := []) (k_gather l D dA M X t g (nI 1) (hFr.fr rfl rfl rfl) (hSt.eq rfl rfl rfl) (hXt.eq rfl rfl rfl) ho (Or.inr rfl)) l_Ses_75 v_Ses_gather (by decide) (e_55 _) rfl (by decide) (by decide) (Nat.le_of_ble_eq_true rfl) d_Ses_heed_35 (kk := ?_)
          intro v M1 hP
          obtain ⟨rfl, hG⟩ := hP
          refine J_mem (M2 := M1) rfl ?_
          replace hFr : FrR t g M1 X := hFr.fr (hG.1 71 (by decide) (by decide) (by decide) (by decide) (by decide)) (hG.1 72 (by decide) (by decide) (by decide) (by decide) (by decide)) rfl
          refine J_aload_n C 1 d_Ses_heed_38 rfl rfl ?_
          refine P_callV C (as := []) (st := []) (p_isExpedited l D dA M1) l_Ses_78 v_Frm_isExpedited (by decide) (e_71 _) rfl (by decide) (by decide) (by decide) (Nat.le_of_ble_eq_true rfl) d_Ses_heed_39 (kk := ?_)
          refine J_val (y := nI (g 3 / 32 % 2)) (show (if (M1 72 0 &&& nI 32) = 0 then (0 : Int32) else 1) = _ by rw [show M1 72 0 = nI (g 3) from hFr.2.2.2.1 0 (by omega)]; exact fl_32 (hFr.2.2.2.2.2 _ (by omega))) ?_
          refine J_ifN_eq C 55 d_Ses_heed_42 (by decide) (by omega) (fun hc42 => ?_) (fun hc42 => absurd hc42 (by omega))
          obtain ⟨_, _, c9, n9, s9, a9, b9, d9, Y9, _, _, _, hv9, _, e9, h09, _⟩ := id hG
          rw [if_neg (show ¬ nI 1 = 0 by decide)] at e9
          have hvv : X 76 9 = nI (vX X) := hI.1
          have hv256 := hI.2.1
          have hg7 : g 7 < 256 := hFr.2.2.2.2.2 7 (by omega)
          have h55 : M1 55 5 = nI (vX X) := by rw [hG.2.1 5 (by decide), hSs.2.2.1]; exact hvv
          have hfree : M1 3 4 = nI (cntF (uX X) 24) := by
            obtain ⟨c0, ln, em, bk, q, hS, hR⟩ := hSR
            rw [hG.1 3 (by decide) (by decide) (by decide) (by decide) (by decide)]; exact hR.2.1
          have hSR1 : SR M1 X := hSR.fr (fun p0 a b => hG.1 p0 (by omega) (by omega) (by omega) (by omega) (by omega))
          have hSt1 : StR M1 X := hSt.fr (fun p0 a b => hG.1 p0 (by omega) (by omega) (by omega) (by omega) (by omega))
          have hfr1 : ∀ p0, p0 < 3 ∨ 69 ≤ p0 → M1 p0 = M p0 := fun p0 hp => hG.1 p0 (by omega) (by omega) (by omega) (by omega) (by omega)
          by_cases ha0 : (g 7 + 256 - vX X) % 256 = 0
          · by_cases hroom : cntF (uX X) 24 < fSumB b9 c9
            · refine J_aload_n C 0 d_Ses_heed_55 rfl rfl ?_
              refine J_aload_n C 1 d_Ses_heed_56 rfl rfl ?_
              refine P_callV C (as := []) (st := [.ref 55]) (p_number l D dA M1) l_Ses_84 v_Frm_number (by decide) (e_71 _) rfl (by decide) (by decide) (by decide) (Nat.le_of_ble_eq_true rfl) d_Ses_heed_57 (kk := ?_)
              refine J_val (y := nI (g 7)) (show M1 72 4 = _ from hFr.2.2.2.1 4 (by omega)) ?_
              refine F_callV C (as := [.int (nI (g 7))]) (st := []) (f_admitSequenced l D dA M1 (nI (g 7)) 0 c9 (cntF (uX X) 24) b9 hv9.1 hv9.2.1 (fun i hi => (hv9.2.2 i hi).2.1) (fun i hi => by have := (hv9.2.2 i hi).2.2.2.1; omega) hfree (by have := cntF_le (uX_le X) 24; omega) (if_pos hroom).symm) l_Ses_87 v_Ses_admitSequenced (by decide) (e_55 _) rfl (by decide) (by decide) (Nat.le_of_ble_eq_true rfl) d_Ses_heed_60 (kk := ?_)
              refine J_val (y := nI 0) (asq_mid hg7 hv256 h55 (by omega) (Or.inr rfl)).1 ?_
              refine J_mem (M2 := mu M1 55 6 (nI 1)) (asq_mid hg7 hv256 h55 (by omega) (Or.inr rfl)).2 ?_
              refine J_ifN_eq C 74 d_Ses_heed_63 (by decide) (by omega) (fun hc63 => ?_) (fun hc63 => absurd hc63 (by decide))
              refine KK_ret C hr ?_ d_Ses_heed_74
              refine ⟨rfl, ?_⟩
              rw [if_pos hroom] at e9
              have h00 := h09 e9
              rw [tk_seq hopen hsc hnd h7 h8 hex, fTkS_F _ _ _ _ ha0, e9]
              refine ⟨((hSR1.fr (fun p0 a b => mu_p _ _ _ (by omega))).se h00.1).se (fTk3_se _ _ _), ?_, fTk3_st _ _ (h00.2.fr (fun p0 a b => mu_p _ _ _ (by omega))), fun p0 hp => by rw [mu_p _ _ _ (by omega)]; exact hfr1 p0 hp⟩
              have hk := hG.2.1
              unfold fTk3
              rw [if_pos rfl]
              refine SsR.eq (M := mu M1 55 6 (nI 1)) (X := mu X 76 10 (nI 1)) ⟨(hk 3 (by decide)).trans hSs.1, (hk 4 (by decide)).trans hSs.2.1, (hk 5 (by decide)).trans hSs.2.2.1, rfl, (hk 7 (by decide)).trans hSs.2.2.2.2⟩ (fun _ _ _ => rfl) (fun k a b => ?_)
              by_cases z : k = 10
              · subst z; rw [mu_same, mu_same]
              · rw [mu_k _ _ _ z, mu_k _ _ _ z]; exact fF_k _ _ _ _ _ (by omega) (by omega) (by omega) (by omega) (by omega) (by omega)
            · refine J_aload_n C 0 d_Ses_heed_55 rfl rfl ?_
              refine J_aload_n C 1 d_Ses_heed_56 rfl rfl ?_
              refine P_callV C (as := []) (st := [.ref 55]) (p_number l D dA M1) l_Ses_84 v_Frm_number (by decide) (e_71 _) rfl (by decide) (by decide) (by decide) (Nat.le_of_ble_eq_true rfl) d_Ses_heed_57 (kk := ?_)
              refine J_val (y := nI (g 7)) (show M1 72 4 = _ from hFr.2.2.2.1 4 (by omega)) ?_
              refine F_callV C (as := [.int (nI (g 7))]) (st := []) (f_admitSequenced l D dA M1 (nI (g 7)) 1 c9 (cntF (uX X) 24) b9 hv9.1 hv9.2.1 (fun i hi => (hv9.2.2 i hi).2.1) (fun i hi => by have := (hv9.2.2 i hi).2.2.2.1; omega) hfree (by have := cntF_le (uX_le X) 24; omega) (if_neg hroom).symm) l_Ses_87 v_Ses_admitSequenced (by decide) (e_55 _) rfl (by decide) (by decide) (Nat.le_of_ble_eq_true rfl) d_Ses_heed_60 (kk := ?_)
              refine J_val (y := nI 1) (asq_yes hg7 hv256 h55 ha0 (by decide)).1 ?_
              refine J_mem (M2 := mu (mu M1 55 6 (nI 0)) 55 5 (nI ((vX X + 1) % 256))) (asq_yes hg7 hv256 h55 ha0 (by decide)).2 ?_
              refine J_ifN_eq C 74 d_Ses_heed_63 (by decide) (by omega) (fun hc63 => absurd hc63 (by decide)) (fun hc63 => ?_)
              rw [if_neg hroom] at e9
              have hr9 : ¬ rF X g (3 + t) (nI 1) (g 3 / 4 % 4) = 0 := by rw [e9]; decide
              have hT := hG.tail (M2 := mu (mu M1 55 6 (nI 0)) 55 5 (nI ((vX X + 1) % 256))) hr9 hSR (fun p0 a => by rw [mu_p _ _ _ a, mu_p _ _ _ a]) (by rw [mu_k _ _ _ (by decide), mu_k _ _ _ (by decide)]) (by rw [mu_k _ _ _ (by decide), mu_k _ _ _ (by decide)])
              obtain ⟨c8, n8, src, st8, ln8, at8, Y, hsrc, hse, hcase⟩ := hT
              rcases hcase with ⟨q8, qst, qsr, qhv⟩ | ⟨j, qj, q8, q3, qn, qst, qsr, qhv⟩
              · refine J_aload_n C 0 d_Ses_heed_66 rfl rfl ?_
                refine F_callV C (as := []) (st := []) (f_settle0 l D dA (mu (mu M1 55 6 (nI 0)) 55 5 (nI ((vX X + 1) % 256))) q8) l_Ses_91 v_Ses_settleStream (by decide) (e_55 _) rfl (by decide) (by decide) (Nat.le_of_ble_eq_true rfl) d_Ses_heed_67 (kk := ?_)
                refine J_aload_n C 0 d_Ses_heed_70 rfl rfl ?_
                refine K_callV C (as := []) (st := []) (k_keepWhatFits l D dA (mu (mu M1 55 6 (nI 0)) 55 5 (nI ((vX X + 1) % 256))) Y _ c8 src st8 ln8 at8 qsr qhv hsrc rfl) l_Ses_94 v_Ses_keepWhatFits (by decide) (e_55 _) rfl (by decide) (by decide) (Nat.le_of_ble_eq_true rfl) d_Ses_heed_71 (kk := ?_)
                intro v M9 hP
                obtain ⟨rfl, hSR9, hfr9⟩ := hP
                refine J_mem (M2 := M9) rfl ?_
                refine KK_ret C hr ?_ d_Ses_heed_74
                have e55 : M9 55 = (mu (mu M1 55 6 (nI 0)) 55 5 (nI ((vX X + 1) % 256))) 55 := by rw [hfr9 55 (by omega)]
                refine ⟨rfl, ?_⟩
                rw [tk_seq hopen hsc hnd h7 h8 hex, fTkS_F _ _ _ _ ha0]
                refine ⟨(hSR9.se hse).se (fTk3_se _ _ _), ?_, fTk3_st _ _ (qst.fr (fun p0 a b => hfr9 p0 (by omega))), fun p0 hp => ?_⟩
                · have hk := hG.2.1
                  unfold fTk3
                  rw [if_neg hr9]
                  refine SsR.eq (M := mu (mu M 55 6 (nI 0)) 55 5 (nI ((vX X + 1) % 256))) (X := mu (mu X 76 9 (nI ((vX X + 1) % 256))) 76 10 (nI 0)) ⟨hSs.1, hSs.2.1, rfl, rfl, hSs.2.2.2.2⟩ (fun k a b => ?_) (fun k a b => ?_)
                  · rw [e55]
                    by_cases z : k = 5
                    · subst z; rw [mu_same, mu_same]
                    · by_cases z2 : k = 6
                      · subst z2; rw [mu_k _ _ _ z, mu_k _ _ _ z, mu_same, mu_same]
                      · rw [mu_k _ _ _ z, mu_k _ _ _ z, mu_k _ _ _ z2, mu_k _ _ _ z2]; exact hk k b
                  · by_cases z : k = 10
                    · subst z; rw [mu_same, mu_same]
                    · by_cases z2 : k = 9
                      · subst z2; rw [mu_k _ _ _ z, mu_k _ _ _ z, mu_same, mu_same]
                      · rw [mu_k _ _ _ z, mu_k _ _ _ z, mu_k _ _ _ z2, mu_k _ _ _ z2]; exact fF_k _ _ _ _ _ (by omega) (by omega) (by omega) (by omega) (by omega) (by omega)
                · rw [hfr9 p0 (by omega), mu_p _ _ _ (by omega), mu_p _ _ _ (by omega)]
                  exact hG.1 p0 (by omega) (by omega) (by omega) (by omega) (by omega)
              · refine J_aload_n C 0 d_Ses_heed_66 rfl rfl ?_
                refine F_callV C (as := []) (st := []) (f_settle l D dA (mu (mu M1 55 6 (nI 0)) 55 5 (nI ((vX X + 1) % 256))) j n8 qj q8 q3 qn) l_Ses_91 v_Ses_settleStream (by decide) (e_55 _) rfl (by decide) (by decide) (Nat.le_of_ble_eq_true rfl) d_Ses_heed_67 (kk := ?_)
                refine J_aload_n C 0 d_Ses_heed_70 rfl rfl ?_
                refine K_callV C (as := []) (st := []) (k_keepWhatFits l D dA (fSet (mu (mu M1 55 6 (nI 0)) 55 5 (nI ((vX X + 1) % 256))) j n8) Y _ c8 src st8 ln8 at8 qsr qhv hsrc rfl) l_Ses_94 v_Ses_keepWhatFits (by decide) (e_55 _) rfl (by decide) (by decide) (Nat.le_of_ble_eq_true rfl) d_Ses_heed_71 (kk := ?_)
                intro v M9 hP
                obtain ⟨rfl, hSR9, hfr9⟩ := hP
                refine J_mem (M2 := M9) rfl ?_
                refine KK_ret C hr ?_ d_Ses_heed_74
                have e55 : M9 55 = (mu (mu M1 55 6 (nI 0)) 55 5 (nI ((vX X + 1) % 256))) 55 := by rw [hfr9 55 (by omega), fSet_p _ _ _ qj (by omega)]
                refine ⟨rfl, ?_⟩
                rw [tk_seq hopen hsc hnd h7 h8 hex, fTkS_F _ _ _ _ ha0]
                refine ⟨(hSR9.se hse).se (fTk3_se _ _ _), ?_, fTk3_st _ _ (qst.fr (fun p0 a b => hfr9 p0 (by omega))), fun p0 hp => ?_⟩
                · have hk := hG.2.1
                  unfold fTk3
                  rw [if_neg hr9]
                  refine SsR.eq (M := mu (mu M 55 6 (nI 0)) 55 5 (nI ((vX X + 1) % 256))) (X := mu (mu X 76 9 (nI ((vX X + 1) % 256))) 76 10 (nI 0)) ⟨hSs.1, hSs.2.1, rfl, rfl, hSs.2.2.2.2⟩ (fun k a b => ?_) (fun k a b => ?_)
                  · rw [e55]
                    by_cases z : k = 5
                    · subst z; rw [mu_same, mu_same]
                    · by_cases z2 : k = 6
                      · subst z2; rw [mu_k _ _ _ z, mu_k _ _ _ z, mu_same, mu_same]
                      · rw [mu_k _ _ _ z, mu_k _ _ _ z, mu_k _ _ _ z2, mu_k _ _ _ z2]; exact hk k b
                  · by_cases z : k = 10
                    · subst z; rw [mu_same, mu_same]
                    · by_cases z2 : k = 9
                      · subst z2; rw [mu_k _ _ _ z, mu_k _ _ _ z, mu_same, mu_same]
                      · rw [mu_k _ _ _ z, mu_k _ _ _ z, mu_k _ _ _ z2, mu_k _ _ _ z2]; exact fF_k _ _ _ _ _ (by omega) (by omega) (by omega) (by omega) (by omega) (by omega)
                · rw [hfr9 p0 (by omega), fSet_p _ _ _ qj (by omega), mu_p _ _ _ (by omega), mu_p _ _ _ (by omega)]
                  exact hG.1 p0 (by omega) (by omega) (by omega) (by omega) (by omega)
          · by_cases ha : (g 7 + 256 - vX X) % 256 < 128
            · refine J_aload_n C 0 d_Ses_heed_55 rfl rfl ?_
              refine J_aload_n C 1 d_Ses_heed_56 rfl rfl ?_
              refine P_callV C (as := []) (st := [.ref 55]) (p_number l D dA M1) l_Ses_84 v_Frm_number (by decide) (e_71 _) rfl (by decide) (by decide) (by decide) (Nat.le_of_ble_eq_true rfl) d_Ses_heed_57 (kk := ?_)
              refine J_val (y := nI (g 7)) (show M1 72 4 = _ from hFr.2.2.2.1 4 (by omega)) ?_
              refine F_callV C (as := [.int (nI (g 7))]) (st := []) (f_admitSequenced l D dA M1 (nI (g 7)) (if cntF (uX X) 24 < fSumB b9 c9 then 0 else 1) c9 (cntF (uX X) 24) b9 hv9.1 hv9.2.1 (fun i hi => (hv9.2.2 i hi).2.1) (fun i hi => by have := (hv9.2.2 i hi).2.2.2.1; omega) hfree (by have := cntF_le (uX_le X) 24; omega) rfl) l_Ses_87 v_Ses_admitSequenced (by decide) (e_55 _) rfl (by decide) (by decide) (Nat.le_of_ble_eq_true rfl) d_Ses_heed_60 (kk := ?_)
              refine J_val (y := nI 0) (asq_mid hg7 hv256 h55 ha (Or.inl ha0)).1 ?_
              refine J_mem (M2 := mu M1 55 6 (nI 1)) (asq_mid hg7 hv256 h55 ha (Or.inl ha0)).2 ?_
              refine J_ifN_eq C 74 d_Ses_heed_63 (by decide) (by omega) (fun hc63 => ?_) (fun hc63 => absurd hc63 (by decide))
              refine KK_ret C hr ?_ d_Ses_heed_74
              refine ⟨rfl, ?_⟩
              rw [tk_seq hopen hsc hnd h7 h8 hex, tk_mid ha0 ha]
              refine ⟨(hSR1.fr (fun p0 a b => mu_p _ _ _ (by omega))).se (SE.k _ (by decide) (by decide) (by decide) (by decide) (by decide) (by decide)), ?_, (hSt1.fr (fun p0 a b => mu_p _ _ _ (by omega))).eq rfl rfl rfl, fun p0 hp => by rw [mu_p _ _ _ (by omega)]; exact hfr1 p0 hp⟩
              have hk := hG.2.1
              exact ⟨(hk 3 (by decide)).trans hSs.1, (hk 4 (by decide)).trans hSs.2.1, (hk 5 (by decide)).trans hSs.2.2.1, rfl, (hk 7 (by decide)).trans hSs.2.2.2.2⟩
            · refine J_aload_n C 0 d_Ses_heed_55 rfl rfl ?_
              refine J_aload_n C 1 d_Ses_heed_56 rfl rfl ?_
              refine P_callV C (as := []) (st := [.ref 55]) (p_number l D dA M1) l_Ses_84 v_Frm_number (by decide) (e_71 _) rfl (by decide) (by decide) (by decide) (Nat.le_of_ble_eq_true rfl) d_Ses_heed_57 (kk := ?_)
              refine J_val (y := nI (g 7)) (show M1 72 4 = _ from hFr.2.2.2.1 4 (by omega)) ?_
              refine F_callV C (as := [.int (nI (g 7))]) (st := []) (f_admitSequenced l D dA M1 (nI (g 7)) (if cntF (uX X) 24 < fSumB b9 c9 then 0 else 1) c9 (cntF (uX X) 24) b9 hv9.1 hv9.2.1 (fun i hi => (hv9.2.2 i hi).2.1) (fun i hi => by have := (hv9.2.2 i hi).2.2.2.1; omega) hfree (by have := cntF_le (uX_le X) 24; omega) rfl) l_Ses_87 v_Ses_admitSequenced (by decide) (e_55 _) rfl (by decide) (by decide) (Nat.le_of_ble_eq_true rfl) d_Ses_heed_60 (kk := ?_)
              refine J_val (y := nI 0) (asq_far hg7 hv256 h55 ha).1 ?_
              refine J_mem (M2 := M1) (asq_far hg7 hv256 h55 ha).2 ?_
              refine J_ifN_eq C 74 d_Ses_heed_63 (by decide) (by omega) (fun hc63 => ?_) (fun hc63 => absurd hc63 (by decide))
              refine KK_ret C hr ?_ d_Ses_heed_74
              refine ⟨rfl, ?_⟩
              rw [tk_seq hopen hsc hnd h7 h8 hex, tk_out ha]
              exact ⟨hSR1, hSs.eq (fun k a b => hG.2.1 k b) (fun _ _ _ => rfl), hSt1, hfr1⟩
    · refine J_aload_n C 0 d_Ses_heed_17 rfl rfl ?_
      refine J_aload_n C 1 d_Ses_heed_18 rfl rfl ?_
      refine K_callV C (as := [.ref 71]) (st := []) (k_obey l D dA M X t g hFr hSs hSt) l_Ses_67 v_Ses_obey (by decide) (e_55 _) rfl (by decide) (by decide) (Nat.le_of_ble_eq_true rfl) d_Ses_heed_19 (kk := ?_)
      intro v M9 hP
      obtain ⟨rfl, hSs9, hSt9, hfr9⟩ := hP
      refine J_mem (M2 := M9) rfl ?_
      refine J_goto C 74 d_Ses_heed_22 (by decide) ?_
      refine KK_ret C hr ?_ d_Ses_heed_74
      refine ⟨rfl, ?_⟩
      rw [tk_dir hopen hsc (by omega)]
      exact ⟨(hSR.fr (fun p0 a b => hfr9 p0 (by omega) (by omega))).se (fDir_se _ _ _ _), hSs9, hSt9, fun p0 hp => hfr9 p0 (by omega) (by omega)⟩
  · refine KK_ret C hr ?_ d_Ses_heed_9
    refine ⟨rfl, ?_⟩
    rw [tk_far hc6]
    exact ⟨hSR, hSs, hSt, fun _ _ => rfl⟩
