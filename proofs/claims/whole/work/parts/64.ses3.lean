set_option maxHeartbeats 4000000 in
set_option maxRecDepth 100000 in
theorem k_obey (l : Launch) (D : va_G) (dA : Nat → ClassId) (M X : Mem) (t : Nat) (g : Nat → Nat) (hFr : FrR t g M X) (hSs : SsR M X) (hSt : StR M X) : CM l D dA k_Ses_obey 3 [.ref 55, .ref 71] M (fun v M' => v = none ∧ SsR M' (fDir X g (3 + t) (nI (g 5 / 128))) ∧ StR M' (fDir X g (3 + t) (nI (g 5 / 128))) ∧ ∀ p0, p0 ≠ 55 → (p0 < 61 ∨ 69 ≤ p0) → M' p0 = M p0) := by
  refine CM.of (by decide +kernel) (Nat.le_of_ble_eq_true rfl) (by intro v hv; simp only [List.mem_cons, List.not_mem_nil, or_false] at hv; rcases hv with rfl | rfl <;> rfl) ?_
  intro A ad0 p e s m args below meth c C hr
  have h5 := hFr.2.1
  have h64 := hFr.2.2.1
  refine J_aload_n C 1 d_Ses_obey_0 rfl rfl ?_
  refine P_callV C (as := []) (st := []) (p_dataLength l D dA M t hFr.1 hFr.2.1) l_Ses_99 v_Frm_dataLength (by decide) (e_71 _) rfl (by decide) (by decide) (by decide) (Nat.le_of_ble_eq_true rfl) d_Ses_obey_1 (kk := ?_)
  refine J_iconst C d_Ses_obey_4 (v := nI 2) rfl ?_
  refine J_icmpN_ge C 9 d_Ses_obey_5 (by decide) (by omega) (by omega) (fun hc5 => ?_) (fun hc5 => ?_)
  · have hg8b : g 8 < 2 ^ 31 := by have := hFr.2.2.2.2.2 8 (by omega); omega
    refine J_aload_n C 1 d_Ses_obey_9 rfl rfl ?_
    refine J_iconst C d_Ses_obey_10 (v := nI 0) rfl ?_
    refine P_callV C (as := [.int (nI 0)]) (st := []) (p_data l D dA M t 0 hFr.1 hFr.2.1 hFr.2.2.1 (by decide)) l_Ses_102 v_Frm_data (by decide) (e_71 _) rfl (by decide) (by decide) (by decide) (Nat.le_of_ble_eq_true rfl) d_Ses_obey_11 (kk := ?_)
    refine J_val (y := nI (g 8)) (show (if t - 5 ≤ 0 then 0 else M 72 5) = nI (g 8) by rw [if_neg (by omega)]; exact hFr.2.2.2.1 5 (by omega)) ?_
    by_cases hs14_1 : nI (g 8) = nI 1
    · refine J_val hs14_1 ?_
      refine J_tableIn C 40 d_Ses_obey_14 (off := 26) (by decide) (by decide) (by decide) (by decide) ?_
      refine J_aload_n C 0 d_Ses_obey_40 rfl rfl ?_
      refine J_aload_n C 1 d_Ses_obey_41 rfl rfl ?_
      refine P_callV C (as := []) (st := [.ref 55]) (p_channel l D dA M) l_Ses_97 v_Frm_channel (by decide) (e_71 _) rfl (by decide) (by decide) (by decide) (Nat.le_of_ble_eq_true rfl) d_Ses_obey_42 (kk := ?_)
      refine J_val (y := nI (g 5 / 128)) (show M 72 2 >>> (nI 7 &&& 31) = _ by rw [show M 72 2 = nI (g 5) from hFr.2.2.2.1 2 (by omega)]; exact fl_ch (hFr.2.2.2.2.2 _ (by omega))) ?_
      refine F_callV C (as := [.int (nI (g 5 / 128))]) (st := []) (f_begin l D dA M (nI (g 5 / 128))) l_Ses_106 v_Ses_begin (by decide) (e_55 _) rfl (by decide) (by decide) (Nat.le_of_ble_eq_true rfl) d_Ses_obey_45 (kk := ?_)
      refine J_goto C 84 d_Ses_obey_48 (by decide) ?_
      refine KK_ret C hr ?_ d_Ses_obey_84
      unfold fDir
      rw [if_neg (show ¬ 3 + t < 10 by omega)]
      rw [if_pos ((nI_eq hg8b (by decide)).mp hs14_1)]
      exact ⟨rfl, beg_rel.1, beg_rel.2, fun p0 a b => by (rcases b with b | b); (rw [fFS_p _ b]; simp only [mu_p _ _ _ a]); (rw [fFS_hi _ b]; simp only [mu_p _ _ _ a])⟩
    by_cases hs14_2 : nI (g 8) = nI 2
    · refine J_val hs14_2 ?_
      refine J_tableIn C 51 d_Ses_obey_14 (off := 37) (by decide) (by decide) (by decide) (by decide) ?_
      refine J_aload_n C 0 d_Ses_obey_51 rfl rfl ?_
      refine J_iconst C d_Ses_obey_52 (v := nI 0) rfl ?_
      refine K_putZ C f_Ses_24 (by decide) (e_55 _) (Nat.le_of_ble_eq_true rfl) (Or.inl rfl) rfl d_Ses_obey_53 (kk := ?_)
      refine J_goto C 84 d_Ses_obey_56 (by decide) ?_
      refine KK_ret C hr ?_ d_Ses_obey_84
      unfold fDir
      rw [if_neg (show ¬ 3 + t < 10 by omega)]
      rw [if_neg (fun z => hs14_1 (by rw [z]))]
      rw [if_pos ((nI_eq hg8b (by decide)).mp hs14_2)]
      exact ⟨rfl, ⟨rfl, hSs.2.1, hSs.2.2.1, hSs.2.2.2.1, hSs.2.2.2.2⟩, hSt.fr (fun p0 a b => mu_p _ _ _ (by omega)), fun p0 a _ => mu_p _ _ _ a⟩
    by_cases hs14_3 : nI (g 8) = nI 3
    · refine J_val hs14_3 ?_
      refine J_tableIn C 59 d_Ses_obey_14 (off := 45) (by decide) (by decide) (by decide) (by decide) ?_
      refine J_aload_n C 0 d_Ses_obey_59 rfl rfl ?_
      refine J_aload_n C 1 d_Ses_obey_60 rfl rfl ?_
      refine P_callV C (as := [.ref 71]) (st := []) (p_isOnFor l D dA M) l_Ses_71 v_Ses_isOnFor (by decide) (e_55 _) rfl (by decide) (by decide) (by decide) (Nat.le_of_ble_eq_true rfl) d_Ses_obey_61 (kk := ?_)
      obtain ⟨rO, hrO⟩ : ∃ r, (if M 55 3 = 0 then (0 : Int32) else if ChF M = M 55 4 then 1 else 0) = r := ⟨_, rfl⟩
      refine J_val (y := rO) hrO ?_
      refine J_if_eq C 84 d_Ses_obey_64 (by decide) (fun hc64 => ?_) (fun hc64 => ?_)
      · refine KK_ret C hr ?_ d_Ses_obey_84
        have hch : ChF M = nI (g 5 / 128) := by unfold ChF; rw [hFr.2.2.2.1 2 (by omega)]; exact fl_ch (hFr.2.2.2.2.2 _ (by omega))
        unfold fDir
        rw [if_neg (show ¬ 3 + t < 10 by omega)]
        rw [if_neg (fun z => hs14_1 (by rw [z]))]
        rw [if_neg (fun z => hs14_2 (by rw [z]))]
        rw [if_pos ((nI_eq hg8b (by decide)).mp hs14_3)]
        rw [hSs.1, hSs.2.1, hch] at hrO
        by_cases w1 : X 76 7 = 0
        · rw [if_pos w1]; exact ⟨rfl, hSs, hSt, fun _ _ _ => rfl⟩
        · rw [if_neg w1] at hrO ⊢
          by_cases w2 : X 76 8 = nI (g 5 / 128)
          · rw [if_pos w2.symm] at hrO; exact absurd hrO (by rw [hc64]; decide)
          · rw [if_neg w2]; exact ⟨rfl, hSs, hSt, fun _ _ _ => rfl⟩
      · refine J_aload_n C 0 d_Ses_obey_67 rfl rfl ?_
        refine J_aload_n C 1 d_Ses_obey_68 rfl rfl ?_
        refine J_iconst C d_Ses_obey_69 (v := nI 1) rfl ?_
        refine P_callV C (as := [.int (nI 1)]) (st := [.ref 55]) (p_data l D dA M t 1 hFr.1 hFr.2.1 hFr.2.2.1 (by decide)) l_Ses_102 v_Frm_data (by decide) (e_71 _) rfl (by decide) (by decide) (by decide) (Nat.le_of_ble_eq_true rfl) d_Ses_obey_70 (kk := ?_)
        refine J_val (y := nI (g 9)) (show (if t - 5 ≤ 1 then 0 else M 72 6) = nI (g 9) by rw [if_neg (by omega)]; exact hFr.2.2.2.1 6 (by omega)) ?_
        refine K_putI C f_Ses_32 (by decide) (e_55 _) (Nat.le_of_ble_eq_true rfl) rfl d_Ses_obey_73 (kk := ?_)
        refine J_aload_n C 0 d_Ses_obey_76 rfl rfl ?_
        refine J_iconst C d_Ses_obey_77 (v := nI 0) rfl ?_
        refine K_putZ C f_Ses_35 (by decide) (e_55 _) (Nat.le_of_ble_eq_true rfl) (Or.inl rfl) rfl d_Ses_obey_78 (kk := ?_)
        refine J_goto C 84 d_Ses_obey_81 (by decide) ?_
        refine KK_ret C hr ?_ d_Ses_obey_84
        have hch : ChF M = nI (g 5 / 128) := by unfold ChF; rw [hFr.2.2.2.1 2 (by omega)]; exact fl_ch (hFr.2.2.2.2.2 _ (by omega))
        unfold fDir
        rw [if_neg (show ¬ 3 + t < 10 by omega)]
        rw [if_neg (fun z => hs14_1 (by rw [z]))]
        rw [if_neg (fun z => hs14_2 (by rw [z]))]
        rw [if_pos ((nI_eq hg8b (by decide)).mp hs14_3)]
        rw [hSs.1, hSs.2.1, hch] at hrO
        by_cases w1 : X 76 7 = 0
        · rw [if_pos w1] at hrO; exact absurd hrO.symm hc64
        · rw [if_neg w1] at hrO ⊢
          by_cases w2 : X 76 8 = nI (g 5 / 128)
          · rw [if_pos w2]; exact ⟨rfl, ⟨hSs.1, hSs.2.1, rfl, rfl, hSs.2.2.2.2⟩, hSt.fr (fun p0 a b => by rw [mu_p _ _ _ (by omega), mu_p _ _ _ (by omega)]), fun p0 a _ => by rw [mu_p _ _ _ a, mu_p _ _ _ a]⟩
          · rw [if_neg (fun z => w2 z.symm)] at hrO; exact absurd hrO.symm hc64
    refine J_tableOut C 84 d_Ses_obey_14 (sw_out 1 3 (by decide) (fun k h1 h2 => by rcases (show k = 1 ∨ k = 2 ∨ k = 3 by omega) with rfl | rfl | rfl <;> assumption)) (by decide) ?_
    refine KK_ret C hr ?_ d_Ses_obey_84
    unfold fDir
    rw [if_neg (show ¬ 3 + t < 10 by omega)]
    rw [if_neg (fun z => hs14_1 (by rw [z]))]
    rw [if_neg (fun z => hs14_2 (by rw [z]))]
    rw [if_neg (fun z => hs14_3 (by rw [z]))]
    exact ⟨rfl, hSs, hSt, fun _ _ _ => rfl⟩
  · refine KK_ret C hr ?_ d_Ses_obey_8
    unfold fDir
    rw [if_pos (by omega)]
    exact ⟨rfl, hSs, hSt, fun _ _ _ => rfl⟩
