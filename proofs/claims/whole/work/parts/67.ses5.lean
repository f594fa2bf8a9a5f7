set_option maxHeartbeats 4000000 in
set_option maxRecDepth 100000 in
theorem k_gather (l : Launch) (D : va_G) (dA : Nat → ClassId) (M Z : Mem) (t : Nat) (g : Nat → Nat) (sq : Int32) (hFr : FrR t g M Z) (hSt : StR M Z) (hXt : XSt Z) (ho : Z 76 3 = 0) (hsq : sq = 0 ∨ sq = 1) : CM l D dA k_Ses_gather 3 [.ref 55, .ref 71] M (fun v M' => v = none ∧ GO (fF Z g (3 + t) sq (g 3 / 4 % 4)) (rF Z g (3 + t) sq (g 3 / 4 % 4)) sq Z M M') := by
  refine CM.of (by decide +kernel) (Nat.le_of_ble_eq_true rfl) (by intro v hv; simp only [List.mem_cons, List.not_mem_nil, or_false] at hv; rcases hv with rfl | rfl <;> rfl) ?_
  intro A ad0 p e s m args below meth c C hr
  have h5 := hFr.2.1
  have h64 := hFr.2.2.1
  refine J_aload_n C 0 d_Ses_gather_0 rfl rfl ?_
  refine J_get C f_Ses_12 (by decide) (e_55 _) rfl d_Ses_gather_1 ?_
  refine F_callV C (as := []) (st := []) (f_hclear l D dA M) l_Ses_138 v_Har_clear (by decide) (e_56 _) rfl (by decide) (by decide) (Nat.le_of_ble_eq_true rfl) d_Ses_gather_4 (kk := ?_)
  refine J_aload_n C 0 d_Ses_gather_7 rfl rfl ?_
  refine J_null C d_Ses_gather_8 ?_
  refine K_put C f_Ses_41 (by decide) (e_55 _) (Nat.le_of_ble_eq_true rfl) (w := .null) (v := nI 0) (fun _ => Or.inr trivial) (fun _ => rfl) (fun _ => rfl) (Ec55_n _) d_Ses_gather_9 (kk := ?_)
  refine J_mem (M2 := gB M) rfl ?_
  refine J_aload_n C 1 d_Ses_gather_12 rfl rfl ?_
  refine P_callV C (as := []) (st := []) (p_form l D dA (gB M)) l_Ses_141 v_Frm_form (by decide) (e_71 _) rfl (by decide) (by decide) (by decide) (Nat.le_of_ble_eq_true rfl) d_Ses_gather_13 (kk := ?_)
  refine J_val (y := nI (g 3 / 4 % 4)) (show ((gB M) 72 0 >>> (nI 2 &&& 31)) &&& nI 3 = _ by rw [show (gB M) 72 0 = nI (g 3) from hFr.2.2.2.1 0 (by omega)]; exact fl_form (hFr.2.2.2.2.2 _ (by omega))) ?_
  refine J_ifN_ne C 35 d_Ses_gather_16 (by decide) (by omega) (fun hc16 => ?_) (fun hc16 => ?_)
  · refine J_aload_n C 1 d_Ses_gather_35 rfl rfl ?_
    refine P_callV C (as := []) (st := []) (p_form l D dA (gB M)) l_Ses_141 v_Frm_form (by decide) (e_71 _) rfl (by decide) (by decide) (by decide) (Nat.le_of_ble_eq_true rfl) d_Ses_gather_36 (kk := ?_)
    refine J_val (y := nI (g 3 / 4 % 4)) (show ((gB M) 72 0 >>> (nI 2 &&& 31)) &&& nI 3 = _ by rw [show (gB M) 72 0 = nI (g 3) from hFr.2.2.2.1 0 (by omega)]; exact fl_form (hFr.2.2.2.2.2 _ (by omega))) ?_
    refine J_iconst C d_Ses_gather_39 (v := nI 1) rfl ?_
    refine J_icmpN_ne C 55 d_Ses_gather_40 (by decide) (by omega) (by omega) (fun hc40 => ?_) (fun hc40 => ?_)
    · refine KK_ret C hr ?_ d_Ses_gather_55
      unfold fF rF
      rw [if_neg (show ¬ g 3 / 4 % 4 = 0 by omega), if_neg (show ¬ g 3 / 4 % 4 = 0 by omega)]
      rw [if_neg (show ¬ g 3 / 4 % 4 = 1 by omega), if_neg (show ¬ g 3 / 4 % 4 = 1 by omega)]
      exact ⟨rfl, GO.none hSt⟩
    · refine J_aload_n C 1 d_Ses_gather_43 rfl rfl ?_
      refine P_callV C (as := []) (st := []) (p_dataLength l D dA (gB M) t hFr.1 hFr.2.1) l_Ses_99 v_Frm_dataLength (by decide) (e_71 _) rfl (by decide) (by decide) (by decide) (Nat.le_of_ble_eq_true rfl) d_Ses_gather_44 (kk := ?_)
      refine J_ifN_le C 55 d_Ses_gather_47 (by decide) (by omega) (fun hc47 => ?_) (fun hc47 => ?_)
      · refine KK_ret C hr ?_ d_Ses_gather_55
        unfold fF rF
        rw [if_neg (show ¬ g 3 / 4 % 4 = 0 by omega), if_neg (show ¬ g 3 / 4 % 4 = 0 by omega)]
        rw [if_pos (show g 3 / 4 % 4 = 1 by omega), if_pos (show g 3 / 4 % 4 = 1 by omega)]
        unfold fSgX rSgX fSeg rSeg
        rw [if_pos (show 3 + t = 8 by omega), if_pos (show 3 + t = 8 by omega)]
        exact ⟨rfl, GO.none hSt⟩
      · refine J_aload_n C 0 d_Ses_gather_50 rfl rfl ?_
        refine J_aload_n C 1 d_Ses_gather_51 rfl rfl ?_
        refine K_callV C (as := [.ref 71]) (st := []) (k_gatherSegment l D dA M Z t g sq hFr hSt hXt ho hsq (by omega)) l_Ses_151 v_Ses_gatherSegment (by decide) (e_55 _) rfl (by decide) (by decide) (Nat.le_of_ble_eq_true rfl) d_Ses_gather_52 (kk := ?_)
        intro v M2 hP
        obtain ⟨rfl, hG⟩ := hP
        refine J_mem (M2 := M2) rfl ?_
        refine KK_ret C hr ?_ d_Ses_gather_55
        unfold fF rF
        rw [if_neg (show ¬ g 3 / 4 % 4 = 0 by omega), if_neg (show ¬ g 3 / 4 % 4 = 0 by omega)]
        rw [if_pos (show g 3 / 4 % 4 = 1 by omega), if_pos (show g 3 / 4 % 4 = 1 by omega)]
        exact ⟨rfl, hG⟩
  · refine J_aload_n C 0 d_Ses_gather_19 rfl rfl ?_
    refine J_aload_n C 1 d_Ses_gather_20 rfl rfl ?_
    refine J_iconst C d_Ses_gather_21 (v := nI 0) rfl ?_
    refine F_callV C (as := [.ref 71, .int (nI 0)]) (st := []) (f_appendData l D dA (gB M) t 0 0 hFr.1 hFr.2.1 hFr.2.2.1 (by omega) rfl (by omega) (M 72) rfl) l_Ses_144 v_Ses_appendData (by decide) (e_55 _) rfl (by decide) (by decide) (Nat.le_of_ble_eq_true rfl) d_Ses_gather_22 (kk := ?_)
    refine J_mem (M2 := fApp (M 72) (t - 5) 0 0 (gB M)) rfl ?_
    refine J_aload_n C 0 d_Ses_gather_25 rfl rfl ?_
    refine J_get C f_Ses_12 (by decide) (e_55 _) rfl d_Ses_gather_26 ?_
    refine F_callV C (as := []) (st := []) (f_findPackets l D dA (fApp (M 72) (t - 5) 0 0 (gB M)) _ (t - 5) (fun k => g (8 + k)) (by rw [fApp_3 _ _ _ _ _ rfl, Nat.zero_add]) (by omega) (by rw [fApp_k _ _ _ _ _ (by decide)]; rfl) (fun i hi => by rw [fApp_57, if_pos (by omega), hFr.2.2.2.1 _ (by omega)]; congr 2; omega) (fun i hi => hFr.2.2.2.2.2 _ (by omega)) rfl) l_Ses_148 v_Har_findPackets (by decide) (e_56 _) rfl (by decide) (by decide) (Nat.le_of_ble_eq_true rfl) d_Ses_gather_29 (kk := ?_)
    refine J_goto C 55 d_Ses_gather_32 (by decide) ?_
    refine KK_ret C hr ?_ d_Ses_gather_55
    unfold fF rF
    rw [if_pos (show g 3 / 4 % 4 = 0 by omega), if_pos (show g 3 / 4 % 4 = 0 by omega)]
    exact ⟨rfl, GO.pk hSt hFr⟩
