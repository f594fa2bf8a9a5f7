set_option maxHeartbeats 4000000 in
set_option maxRecDepth 100000 in
theorem k_gatherSegment (l : Launch) (D : va_G) (dA : Nat → ClassId) (M Z : Mem) (t : Nat) (g : Nat → Nat) (sq : Int32) (hFr : FrR t g M Z) (hSt : StR M Z) (hXt : XSt Z) (ho : Z 76 3 = 0) (hsq : sq = 0 ∨ sq = 1) (h6 : 6 ≤ t) : CM l D dA k_Ses_gatherSegment 2 [.ref 55, .ref 71] (gB M) (fun v M' => v = none ∧ GO (fSgX Z g (3 + t) sq) (rSgX Z g (3 + t) sq) sq Z M M') := by
  refine CM.of (by decide +kernel) (Nat.le_of_ble_eq_true rfl) (by intro v hv; simp only [List.mem_cons, List.not_mem_nil, or_false] at hv; rcases hv with rfl | rfl <;> rfl) ?_
  intro A ad0 p e s m args below meth c C hr
  have h64 := hFr.2.2.1
  have hg8 : g 8 < 256 := hFr.2.2.2.2.2 8 (by omega)
  refine J_aload_n C 1 d_Ses_gatherSegment_0 rfl rfl ?_
  refine J_iconst C d_Ses_gatherSegment_1 (v := nI 0) rfl ?_
  refine P_callV C (as := [.int (nI 0)]) (st := []) (p_data l D dA (gB M) t 0 hFr.1 hFr.2.1 hFr.2.2.1 (by decide)) l_Ses_102 v_Frm_data (by decide) (e_71 _) rfl (by decide) (by decide) (by decide) (Nat.le_of_ble_eq_true rfl) d_Ses_gatherSegment_2 (kk := ?_)
  refine J_val (y := nI (g 8)) (show (if t - 5 ≤ 0 then 0 else (gB M) 72 5) = nI (g 8) by rw [if_neg (by omega)]; exact hFr.2.2.2.1 5 (by omega)) ?_
  refine J_bipush C d_Ses_gatherSegment_5 (v := nI 64) rfl ?_
  refine J_iand C d_Ses_gatherSegment_7 ?_
  refine J_if_eq C 15 d_Ses_gatherSegment_8 (by decide) (fun hc8 => ?_) (fun hc8 => ?_)
  · refine J_iconst C d_Ses_gatherSegment_15 (v := nI 0) rfl ?_
    refine J_istore_n C 2 d_Ses_gatherSegment_16 rfl (by decide) rfl ?_
    refine J_aload_n C 1 d_Ses_gatherSegment_17 rfl rfl ?_
    refine J_iconst C d_Ses_gatherSegment_18 (v := nI 0) rfl ?_
    refine P_callV C (as := [.int (nI 0)]) (st := []) (p_data l D dA (gB M) t 0 hFr.1 hFr.2.1 hFr.2.2.1 (by decide)) l_Ses_102 v_Frm_data (by decide) (e_71 _) rfl (by decide) (by decide) (by decide) (Nat.le_of_ble_eq_true rfl) d_Ses_gatherSegment_19 (kk := ?_)
    refine J_val (y := nI (g 8)) (show (if t - 5 ≤ 0 then 0 else (gB M) 72 5) = nI (g 8) by rw [if_neg (by omega)]; exact hFr.2.2.2.1 5 (by omega)) ?_
    refine J_sipush C d_Ses_gatherSegment_22 (v := nI 128) rfl ?_
    refine J_iand C d_Ses_gatherSegment_25 ?_
    refine J_if_eq C 33 d_Ses_gatherSegment_26 (by decide) (fun hc26 => ?_) (fun hc26 => ?_)
    · refine J_iconst C d_Ses_gatherSegment_33 (v := nI 0) rfl ?_
      refine J_istore_n C 3 d_Ses_gatherSegment_34 rfl (by decide) rfl ?_
      refine J_aload_n C 1 d_Ses_gatherSegment_35 rfl rfl ?_
      refine J_iconst C d_Ses_gatherSegment_36 (v := nI 0) rfl ?_
      refine P_callV C (as := [.int (nI 0)]) (st := []) (p_data l D dA (gB M) t 0 hFr.1 hFr.2.1 hFr.2.2.1 (by decide)) l_Ses_102 v_Frm_data (by decide) (e_71 _) rfl (by decide) (by decide) (by decide) (Nat.le_of_ble_eq_true rfl) d_Ses_gatherSegment_37 (kk := ?_)
      refine J_val (y := nI (g 8)) (show (if t - 5 ≤ 0 then 0 else (gB M) 72 5) = nI (g 8) by rw [if_neg (by omega)]; exact hFr.2.2.2.1 5 (by omega)) ?_
      refine J_bipush C d_Ses_gatherSegment_40 (v := nI 63) rfl ?_
      refine J_iand C d_Ses_gatherSegment_42 ?_
      refine J_val (y := nI (g 8 % 64)) (fl_63 hg8) ?_
      refine J_istore C d_Ses_gatherSegment_43 (by decide) rfl ?_
      refine J_iload C d_Ses_gatherSegment_45 rfl ?_
      refine J_iconst C d_Ses_gatherSegment_47 (v := nI 4) rfl ?_
      refine J_icmpN_lt C 52 d_Ses_gatherSegment_48 (by decide) (by omega) (by omega) (fun hc48 => ?_) (fun hc48 => ?_)
      · obtain ⟨j, hjd⟩ : ∃ j, g 8 % 64 = j := ⟨_, rfl⟩
        rw [hjd]
        rw [hjd] at hc48
        refine J_aload_n C 0 d_Ses_gatherSegment_52 rfl rfl ?_
        refine J_aload_n C 0 d_Ses_gatherSegment_53 rfl rfl ?_
        refine J_get C f_Ses_20 (by decide) (e_55 _) rfl d_Ses_gatherSegment_54 ?_
        refine J_iload C d_Ses_gatherSegment_57 rfl ?_
        refine K_stld C (j := j) rfl (by omega) d_Ses_gatherSegment_59 ?_
        refine K_put C f_Ses_41 (by decide) (e_55 _) (Nat.le_of_ble_eq_true rfl) (w := .ref (61 + 2 * j)) (v := nI (j + 1)) (fun _ => Or.inr trivial) (fun _ => rfl) (fun _ => rfl) (Ec55_t _ hc48) d_Ses_gatherSegment_60 (kk := ?_)
        refine J_aload_n C 0 d_Ses_gatherSegment_63 rfl rfl ?_
        refine J_iconst C d_Ses_gatherSegment_64 (v := nI 0) rfl ?_
        refine K_putZ C f_Ses_45 (by decide) (e_55 _) (Nat.le_of_ble_eq_true rfl) (Or.inl rfl) rfl d_Ses_gatherSegment_65 (kk := ?_)
        refine J_mem (M2 := gT M j) rfl ?_
        refine J_iload_n C 2 d_Ses_gatherSegment_68 rfl rfl ?_
        refine J_ifN_ne C 140 d_Ses_gatherSegment_69 (by decide) (by omega) (fun hc69 => absurd hc69 (by decide)) (fun hc69 => ?_)
        refine J_aload_n C 0 d_Ses_gatherSegment_72 rfl rfl ?_
        refine J_get C f_Ses_41 (by decide) (e_55 _) rfl d_Ses_gatherSegment_73 ?_
        refine J_vref (show zT ((gT M j) 55 8) = .ref (61 + 2 * j) by rw [show (gT M j) 55 8 = nI (j + 1) from rfl]; exact zT_s hc48) ?_
        refine J_get C f_Ses_154 (by omega) (e_st _ (by omega)) rfl d_Ses_gatherSegment_76 ?_
        refine J_val (y := Z 79 j) (by rw [gT_p _ _ (by omega) (by omega)]; exact (hSt j hc48).1) ?_
        refine J_if_eq C 101 d_Ses_gatherSegment_79 (by decide) (fun hc79 => ?_) (fun hc79 => ?_)
        · refine KK_ret C hr ?_ d_Ses_gatherSegment_101
          exact ⟨rfl, GO.s_lost hSt hXt h6 hjd hc48 hg8 ((fl_64 hg8).mp hc8) (Or.inl hc79)⟩
        · obtain ⟨pl, hpl⟩ : ∃ pl, pX Z j = pl := ⟨_, rfl⟩
          have hs := (hXt j hc48).2 hc79
          rw [hpl] at hs
          have hpl60 := hs.2.1
          have hM1 : gT M j (61 + 2 * j) 1 = nI pl := by rw [gT_p _ _ (by omega) (by omega)]; exact ((hSt j hc48).2 hc79).1.trans hs.1
          refine J_aload_n C 0 d_Ses_gatherSegment_82 rfl rfl ?_
          refine J_get C f_Ses_41 (by decide) (e_55 _) rfl d_Ses_gatherSegment_83 ?_
          refine J_vref (show zT ((gT M j) 55 8) = .ref (61 + 2 * j) by rw [show (gT M j) 55 8 = nI (j + 1) from rfl]; exact zT_s hc48) ?_
          refine J_get C f_Ses_157 (by omega) (e_st _ (by omega)) rfl d_Ses_gatherSegment_86 ?_
          refine J_val (y := nI pl) hM1 ?_
          refine J_aload_n C 1 d_Ses_gatherSegment_89 rfl rfl ?_
          refine P_callV C (as := []) (st := [.int (nI pl)]) (p_dataLength l D dA (gT M j) t hFr.1 hFr.2.1) l_Ses_99 v_Frm_dataLength (by decide) (e_71 _) rfl (by decide) (by decide) (by decide) (Nat.le_of_ble_eq_true rfl) d_Ses_gatherSegment_90 (kk := ?_)
          refine J_iaddN C d_Ses_gatherSegment_93 ?_
          refine J_iconst C d_Ses_gatherSegment_94 (v := nI 1) rfl ?_
          refine J_isubN C d_Ses_gatherSegment_95 (by omega) ?_
          refine J_bipush C d_Ses_gatherSegment_96 (v := nI 60) rfl ?_
          refine J_icmpN_le C 102 d_Ses_gatherSegment_98 (by decide) (by omega) (by omega) (fun hc98 => ?_) (fun hc98 => ?_)
          · refine J_iconst C d_Ses_gatherSegment_102 (v := nI 0) rfl ?_
            refine J_istore C d_Ses_gatherSegment_103 (by decide) rfl ?_
            have h60 : pl + (3 + t - 9) ≤ 60 := by omega
            have h140 : J D dA A (fun _ _ => True) ad0 90 k_Ses_gatherSegment.2.2.1 p l e (zR 2 0 0) s m args below meth c (KQ D dA A ad0 below args s (fun v M' => v = none ∧ GO (fSgX Z g (3 + t) sq) (rSgX Z g (3 + t) sq) sq Z M M')) 140 [some (.ref 55), some (.ref 71), some (.int (nI 0)), some (.int (nI 0)), some (.int (nI j)), none] [] (E (fAp2 (M (62 + 2 * j)) pl 0 (gT M j))) 90 0 0 := by
              refine J_aload_n C 0 d_Ses_gatherSegment_140 rfl rfl ?_
              refine J_aload_n C 1 d_Ses_gatherSegment_141 rfl rfl ?_
              refine J_iconst C d_Ses_gatherSegment_142 (v := nI 1) rfl ?_
              refine F_callV C (as := [.ref 71, .int (nI 1)]) (st := []) (f_appendData l D dA (fAp2 (M (62 + 2 * j)) pl 0 (gT M j)) t pl 1 (by rw [fAp2_p _ _ _ _ (by decide) (by decide), gT_p _ _ (by decide) (by decide)]; exact hFr.1) hFr.2.1 hFr.2.2.1 (by omega) (by rw [fAp2_3 _ _ _ _ rfl, Nat.zero_add]) (by omega) (M 72) (by rw [fAp2_p _ _ _ _ (by decide) (by decide), gT_p _ _ (by decide) (by decide)])) l_Ses_144 v_Ses_appendData (by decide) (e_55 _) rfl (by decide) (by decide) (Nat.le_of_ble_eq_true rfl) d_Ses_gatherSegment_143 (kk := ?_)
              refine J_mem (M2 := gR M t j pl) rfl ?_
              refine J_aload_n C 0 d_Ses_gatherSegment_146 rfl rfl ?_
              refine J_iload_n C 3 d_Ses_gatherSegment_147 rfl rfl ?_
              refine J_ifN_ne C 155 d_Ses_gatherSegment_148 (by decide) (by omega) (fun hc148 => absurd hc148 (by decide)) (fun hc148 => ?_)
              refine J_iconst C d_Ses_gatherSegment_151 (v := nI 1) rfl ?_
              refine J_goto C 156 d_Ses_gatherSegment_152 (by decide) ?_
              refine K_putZ C f_Ses_45 (by decide) (e_55 _) (Nat.le_of_ble_eq_true rfl) (Or.inr rfl) rfl d_Ses_gatherSegment_156 (kk := ?_)
              refine J_iload_n C 3 d_Ses_gatherSegment_159 rfl rfl ?_
              refine J_ifN_eq C 170 d_Ses_gatherSegment_160 (by decide) (by omega) (fun hc160 => ?_) (fun hc160 => absurd hc160 (by decide))
              refine KK_ret C hr ?_ d_Ses_gatherSegment_170
              exact ⟨rfl, GO.s_0 hSt hXt hFr h6 hjd hc48 hg8 ((fl_64 hg8).mp hc8) ((fl_128 hg8).mp hc26) hc79 hpl h60⟩
            have lp : ∀ (fu k : Nat) (Q : Mem), pl - k < fu → k ≤ pl → Q 56 3 = nI k → (∀ p0, p0 ≠ 56 → p0 ≠ 57 → Q p0 = gT M j p0) → fAp2 (M (62 + 2 * j)) (pl - k) k Q = fAp2 (M (62 + 2 * j)) pl 0 (gT M j) → J D dA A (fun _ _ => True) ad0 90 k_Ses_gatherSegment.2.2.1 p l e (zR 2 0 0) s m args below meth c (KQ D dA A ad0 below args s (fun v M' => v = none ∧ GO (fSgX Z g (3 + t) sq) (rSgX Z g (3 + t) sq) sq Z M M')) 105 [some (.ref 55), some (.ref 71), some (.int (nI 0)), some (.int (nI 0)), some (.int (nI j)), some (.int (nI k))] [] (E Q) 90 0 0 := by
              intro fu
              induction fu with
              | zero => intro k Q hfu; exact absurd hfu (Nat.not_lt_zero _)
              | succ fu ih =>
                intro k Q hfu hk hQ3 hQ hF
                refine J_iload C d_Ses_gatherSegment_105 rfl ?_
                refine J_aload_n C 0 d_Ses_gatherSegment_107 rfl rfl ?_
                refine J_get C f_Ses_41 (by decide) (e_55 _) rfl d_Ses_gatherSegment_108 ?_
                refine J_vref (show zT (Q 55 8) = .ref (61 + 2 * j) by rw [show Q 55 8 = nI (j + 1) from (by rw [hQ 55 (by decide) (by decide)]; rfl)]; exact zT_s hc48) ?_
                refine J_get C f_Ses_157 (by omega) (e_st _ (by omega)) rfl d_Ses_gatherSegment_111 ?_
                refine J_val (y := nI pl) (by rw [hQ _ (by omega) (by omega)]; exact hM1) ?_
                refine J_icmpN_ge C 140 d_Ses_gatherSegment_114 (by decide) (by omega) (by omega) (fun hc114 => ?_) (fun hc114 => ?_)
                · refine J_lv (lv' := [some (.ref 55), some (.ref 71), some (.int (nI 0)), some (.int (nI 0)), some (.int (nI j)), none]) (by intro i v hv; match i, hv with | 0, hv => exact hv | 1, hv => exact hv | 2, hv => exact hv | 3, hv => exact hv | 4, hv => exact hv | 5, hv => simp at hv | _ + 6, hv => simp at hv) ?_
                  rw [show pl - k = 0 by omega] at hF
                  rw [show Q = fAp2 (M (62 + 2 * j)) pl 0 (gT M j) from hF]
                  exact h140
                · refine J_aload_n C 0 d_Ses_gatherSegment_117 rfl rfl ?_
                  refine J_get C f_Ses_12 (by decide) (e_55 _) rfl d_Ses_gatherSegment_118 ?_
                  refine J_aload_n C 0 d_Ses_gatherSegment_121 rfl rfl ?_
                  refine J_get C f_Ses_41 (by decide) (e_55 _) rfl d_Ses_gatherSegment_122 ?_
                  refine J_vref (show zT (Q 55 8) = .ref (61 + 2 * j) by rw [show Q 55 8 = nI (j + 1) from (by rw [hQ 55 (by decide) (by decide)]; rfl)]; exact zT_s hc48) ?_
                  refine J_get C f_Ses_162 (by omega) (e_st _ (by omega)) rfl d_Ses_gatherSegment_125 ?_
                  refine J_iload C d_Ses_gatherSegment_128 rfl ?_
                  refine K_ial C (a_sp (by omega)) (j := k) rfl (by omega) d_Ses_gatherSegment_130 ?_
                  refine J_val (y := M (62 + 2 * j) k) (by rw [hQ _ (by omega) (by omega), gT_p _ _ (by omega) (by omega)]) ?_
                  refine F_callV C (as := [.int (M (62 + 2 * j) k)]) (st := []) (f_append l D dA Q k (M (62 + 2 * j) k) hQ3 (by omega)) l_Ses_165 v_Har_append (by decide) (e_56 _) rfl (by decide) (by decide) (Nat.le_of_ble_eq_true rfl) d_Ses_gatherSegment_131 (kk := ?_)
                  refine J_iinc C d_Ses_gatherSegment_134 rfl (v := nI (k + 1)) (nI_1 _) (by decide) rfl ?_
                  refine J_goto C 105 d_Ses_gatherSegment_137 (by decide) ?_
                  exact ih (k + 1) _ (by omega) (by omega) rfl (fun p0 a b => by rw [mu_p _ _ _ a, mu_p _ _ _ b]; exact hQ p0 a b) (by rw [show pl - k = (pl - (k + 1)) + 1 by omega] at hF; exact hF)
            exact lp (pl + 1) 0 (gT M j) (by omega) (by omega) rfl (fun _ _ _ => rfl) rfl
          · refine KK_ret C hr ?_ d_Ses_gatherSegment_101
            exact ⟨rfl, GO.s_lost hSt hXt h6 hjd hc48 hg8 ((fl_64 hg8).mp hc8) (Or.inr (by rw [hpl]; omega))⟩
      · refine KK_ret C hr ?_ d_Ses_gatherSegment_51
        exact ⟨rfl, GO.s_no hSt h6 (by omega)⟩
    · refine J_iconst C d_Ses_gatherSegment_29 (v := nI 1) rfl ?_
      refine J_goto C 34 d_Ses_gatherSegment_30 (by decide) ?_
      refine J_istore_n C 3 d_Ses_gatherSegment_34 rfl (by decide) rfl ?_
      refine J_aload_n C 1 d_Ses_gatherSegment_35 rfl rfl ?_
      refine J_iconst C d_Ses_gatherSegment_36 (v := nI 0) rfl ?_
      refine P_callV C (as := [.int (nI 0)]) (st := []) (p_data l D dA (gB M) t 0 hFr.1 hFr.2.1 hFr.2.2.1 (by decide)) l_Ses_102 v_Frm_data (by decide) (e_71 _) rfl (by decide) (by decide) (by decide) (Nat.le_of_ble_eq_true rfl) d_Ses_gatherSegment_37 (kk := ?_)
      refine J_val (y := nI (g 8)) (show (if t - 5 ≤ 0 then 0 else (gB M) 72 5) = nI (g 8) by rw [if_neg (by omega)]; exact hFr.2.2.2.1 5 (by omega)) ?_
      refine J_bipush C d_Ses_gatherSegment_40 (v := nI 63) rfl ?_
      refine J_iand C d_Ses_gatherSegment_42 ?_
      refine J_val (y := nI (g 8 % 64)) (fl_63 hg8) ?_
      refine J_istore C d_Ses_gatherSegment_43 (by decide) rfl ?_
      refine J_iload C d_Ses_gatherSegment_45 rfl ?_
      refine J_iconst C d_Ses_gatherSegment_47 (v := nI 4) rfl ?_
      refine J_icmpN_lt C 52 d_Ses_gatherSegment_48 (by decide) (by omega) (by omega) (fun hc48 => ?_) (fun hc48 => ?_)
      · obtain ⟨j, hjd⟩ : ∃ j, g 8 % 64 = j := ⟨_, rfl⟩
        rw [hjd]
        rw [hjd] at hc48
        refine J_aload_n C 0 d_Ses_gatherSegment_52 rfl rfl ?_
        refine J_aload_n C 0 d_Ses_gatherSegment_53 rfl rfl ?_
        refine J_get C f_Ses_20 (by decide) (e_55 _) rfl d_Ses_gatherSegment_54 ?_
        refine J_iload C d_Ses_gatherSegment_57 rfl ?_
        refine K_stld C (j := j) rfl (by omega) d_Ses_gatherSegment_59 ?_
        refine K_put C f_Ses_41 (by decide) (e_55 _) (Nat.le_of_ble_eq_true rfl) (w := .ref (61 + 2 * j)) (v := nI (j + 1)) (fun _ => Or.inr trivial) (fun _ => rfl) (fun _ => rfl) (Ec55_t _ hc48) d_Ses_gatherSegment_60 (kk := ?_)
        refine J_aload_n C 0 d_Ses_gatherSegment_63 rfl rfl ?_
        refine J_iconst C d_Ses_gatherSegment_64 (v := nI 0) rfl ?_
        refine K_putZ C f_Ses_45 (by decide) (e_55 _) (Nat.le_of_ble_eq_true rfl) (Or.inl rfl) rfl d_Ses_gatherSegment_65 (kk := ?_)
        refine J_mem (M2 := gT M j) rfl ?_
        refine J_iload_n C 2 d_Ses_gatherSegment_68 rfl rfl ?_
        refine J_ifN_ne C 140 d_Ses_gatherSegment_69 (by decide) (by omega) (fun hc69 => absurd hc69 (by decide)) (fun hc69 => ?_)
        refine J_aload_n C 0 d_Ses_gatherSegment_72 rfl rfl ?_
        refine J_get C f_Ses_41 (by decide) (e_55 _) rfl d_Ses_gatherSegment_73 ?_
        refine J_vref (show zT ((gT M j) 55 8) = .ref (61 + 2 * j) by rw [show (gT M j) 55 8 = nI (j + 1) from rfl]; exact zT_s hc48) ?_
        refine J_get C f_Ses_154 (by omega) (e_st _ (by omega)) rfl d_Ses_gatherSegment_76 ?_
        refine J_val (y := Z 79 j) (by rw [gT_p _ _ (by omega) (by omega)]; exact (hSt j hc48).1) ?_
        refine J_if_eq C 101 d_Ses_gatherSegment_79 (by decide) (fun hc79 => ?_) (fun hc79 => ?_)
        · refine KK_ret C hr ?_ d_Ses_gatherSegment_101
          exact ⟨rfl, GO.s_lost hSt hXt h6 hjd hc48 hg8 ((fl_64 hg8).mp hc8) (Or.inl hc79)⟩
        · obtain ⟨pl, hpl⟩ : ∃ pl, pX Z j = pl := ⟨_, rfl⟩
          have hs := (hXt j hc48).2 hc79
          rw [hpl] at hs
          have hpl60 := hs.2.1
          have hM1 : gT M j (61 + 2 * j) 1 = nI pl := by rw [gT_p _ _ (by omega) (by omega)]; exact ((hSt j hc48).2 hc79).1.trans hs.1
          refine J_aload_n C 0 d_Ses_gatherSegment_82 rfl rfl ?_
          refine J_get C f_Ses_41 (by decide) (e_55 _) rfl d_Ses_gatherSegment_83 ?_
          refine J_vref (show zT ((gT M j) 55 8) = .ref (61 + 2 * j) by rw [show (gT M j) 55 8 = nI (j + 1) from rfl]; exact zT_s hc48) ?_
          refine J_get C f_Ses_157 (by omega) (e_st _ (by omega)) rfl d_Ses_gatherSegment_86 ?_
          refine J_val (y := nI pl) hM1 ?_
          refine J_aload_n C 1 d_Ses_gatherSegment_89 rfl rfl ?_
          refine P_callV C (as := []) (st := [.int (nI pl)]) (p_dataLength l D dA (gT M j) t hFr.1 hFr.2.1) l_Ses_99 v_Frm_dataLength (by decide) (e_71 _) rfl (by decide) (by decide) (by decide) (Nat.le_of_ble_eq_true rfl) d_Ses_gatherSegment_90 (kk := ?_)
          refine J_iaddN C d_Ses_gatherSegment_93 ?_
          refine J_iconst C d_Ses_gatherSegment_94 (v := nI 1) rfl ?_
          refine J_isubN C d_Ses_gatherSegment_95 (by omega) ?_
          refine J_bipush C d_Ses_gatherSegment_96 (v := nI 60) rfl ?_
          refine J_icmpN_le C 102 d_Ses_gatherSegment_98 (by decide) (by omega) (by omega) (fun hc98 => ?_) (fun hc98 => ?_)
          · refine J_iconst C d_Ses_gatherSegment_102 (v := nI 0) rfl ?_
            refine J_istore C d_Ses_gatherSegment_103 (by decide) rfl ?_
            have h60 : pl + (3 + t - 9) ≤ 60 := by omega
            have h140 : J D dA A (fun _ _ => True) ad0 90 k_Ses_gatherSegment.2.2.1 p l e (zR 2 0 0) s m args below meth c (KQ D dA A ad0 below args s (fun v M' => v = none ∧ GO (fSgX Z g (3 + t) sq) (rSgX Z g (3 + t) sq) sq Z M M')) 140 [some (.ref 55), some (.ref 71), some (.int (nI 0)), some (.int (nI 1)), some (.int (nI j)), none] [] (E (fAp2 (M (62 + 2 * j)) pl 0 (gT M j))) 90 0 0 := by
              refine J_aload_n C 0 d_Ses_gatherSegment_140 rfl rfl ?_
              refine J_aload_n C 1 d_Ses_gatherSegment_141 rfl rfl ?_
              refine J_iconst C d_Ses_gatherSegment_142 (v := nI 1) rfl ?_
              refine F_callV C (as := [.ref 71, .int (nI 1)]) (st := []) (f_appendData l D dA (fAp2 (M (62 + 2 * j)) pl 0 (gT M j)) t pl 1 (by rw [fAp2_p _ _ _ _ (by decide) (by decide), gT_p _ _ (by decide) (by decide)]; exact hFr.1) hFr.2.1 hFr.2.2.1 (by omega) (by rw [fAp2_3 _ _ _ _ rfl, Nat.zero_add]) (by omega) (M 72) (by rw [fAp2_p _ _ _ _ (by decide) (by decide), gT_p _ _ (by decide) (by decide)])) l_Ses_144 v_Ses_appendData (by decide) (e_55 _) rfl (by decide) (by decide) (Nat.le_of_ble_eq_true rfl) d_Ses_gatherSegment_143 (kk := ?_)
              refine J_mem (M2 := gR M t j pl) rfl ?_
              refine J_aload_n C 0 d_Ses_gatherSegment_146 rfl rfl ?_
              refine J_iload_n C 3 d_Ses_gatherSegment_147 rfl rfl ?_
              refine J_ifN_ne C 155 d_Ses_gatherSegment_148 (by decide) (by omega) (fun hc148 => ?_) (fun hc148 => absurd hc148 (by decide))
              refine J_iconst C d_Ses_gatherSegment_155 (v := nI 0) rfl ?_
              refine K_putZ C f_Ses_45 (by decide) (e_55 _) (Nat.le_of_ble_eq_true rfl) (Or.inl rfl) rfl d_Ses_gatherSegment_156 (kk := ?_)
              refine J_iload_n C 3 d_Ses_gatherSegment_159 rfl rfl ?_
              refine J_ifN_eq C 170 d_Ses_gatherSegment_160 (by decide) (by omega) (fun hc160 => absurd hc160 (by decide)) (fun hc160 => ?_)
              refine J_aload_n C 0 d_Ses_gatherSegment_163 rfl rfl ?_
              refine J_get C f_Ses_12 (by decide) (e_55 _) rfl d_Ses_gatherSegment_164 ?_
              refine F_callV C (as := []) (st := []) (f_findOne l D dA (mu (gR M t j pl) 55 9 (nI 0)) (pl + (t - 5 - 1)) (fun k => tX (segG Z (3 + t) j) (60 * j + k)) (by rw [mu_p _ _ _ (by decide), gR_3]) (by omega) (fun i hi => by rw [mu_p _ _ _ (by decide)]; exact ((gR_by hFr hSt hXt h6 hc48 hc79 hpl h60) i hi).1) (fun i hi => ((gR_by hFr hSt hXt h6 hc48 hc79 hpl h60) i hi).2)) l_Ses_168 v_Har_findOneWholePacket (by decide) (e_56 _) rfl (by decide) (by decide) (Nat.le_of_ble_eq_true rfl) d_Ses_gatherSegment_167 (kk := ?_)
              refine J_mem (M2 := fOne (mu (gR M t j pl) 55 9 (nI 0)) (fun k => tX (segG Z (3 + t) j) (60 * j + k)) (pl + (t - 5 - 1))) rfl ?_
              refine KK_ret C hr ?_ d_Ses_gatherSegment_170
              exact ⟨rfl, GO.s_2 hSt hXt hFr h6 ho hsq hjd hc48 hg8 ((fl_64 hg8).mp hc8) (fun z => hc26 ((fl_128 hg8).mpr z)) hc79 hpl h60⟩
            have lp : ∀ (fu k : Nat) (Q : Mem), pl - k < fu → k ≤ pl → Q 56 3 = nI k → (∀ p0, p0 ≠ 56 → p0 ≠ 57 → Q p0 = gT M j p0) → fAp2 (M (62 + 2 * j)) (pl - k) k Q = fAp2 (M (62 + 2 * j)) pl 0 (gT M j) → J D dA A (fun _ _ => True) ad0 90 k_Ses_gatherSegment.2.2.1 p l e (zR 2 0 0) s m args below meth c (KQ D dA A ad0 below args s (fun v M' => v = none ∧ GO (fSgX Z g (3 + t) sq) (rSgX Z g (3 + t) sq) sq Z M M')) 105 [some (.ref 55), some (.ref 71), some (.int (nI 0)), some (.int (nI 1)), some (.int (nI j)), some (.int (nI k))] [] (E Q) 90 0 0 := by
              intro fu
              induction fu with
              | zero => intro k Q hfu; exact absurd hfu (Nat.not_lt_zero _)
              | succ fu ih =>
                intro k Q hfu hk hQ3 hQ hF
                refine J_iload C d_Ses_gatherSegment_105 rfl ?_
                refine J_aload_n C 0 d_Ses_gatherSegment_107 rfl rfl ?_
                refine J_get C f_Ses_41 (by decide) (e_55 _) rfl d_Ses_gatherSegment_108 ?_
                refine J_vref (show zT (Q 55 8) = .ref (61 + 2 * j) by rw [show Q 55 8 = nI (j + 1) from (by rw [hQ 55 (by decide) (by decide)]; rfl)]; exact zT_s hc48) ?_
                refine J_get C f_Ses_157 (by omega) (e_st _ (by omega)) rfl d_Ses_gatherSegment_111 ?_
                refine J_val (y := nI pl) (by rw [hQ _ (by omega) (by omega)]; exact hM1) ?_
                refine J_icmpN_ge C 140 d_Ses_gatherSegment_114 (by decide) (by omega) (by omega) (fun hc114 => ?_) (fun hc114 => ?_)
                · refine J_lv (lv' := [some (.ref 55), some (.ref 71), some (.int (nI 0)), some (.int (nI 1)), some (.int (nI j)), none]) (by intro i v hv; match i, hv with | 0, hv => exact hv | 1, hv => exact hv | 2, hv => exact hv | 3, hv => exact hv | 4, hv => exact hv | 5, hv => simp at hv | _ + 6, hv => simp at hv) ?_
                  rw [show pl - k = 0 by omega] at hF
                  rw [show Q = fAp2 (M (62 + 2 * j)) pl 0 (gT M j) from hF]
                  exact h140
                · refine J_aload_n C 0 d_Ses_gatherSegment_117 rfl rfl ?_
                  refine J_get C f_Ses_12 (by decide) (e_55 _) rfl d_Ses_gatherSegment_118 ?_
                  refine J_aload_n C 0 d_Ses_gatherSegment_121 rfl rfl ?_
                  refine J_get C f_Ses_41 (by decide) (e_55 _) rfl d_Ses_gatherSegment_122 ?_
                  refine J_vref (show zT (Q 55 8) = .ref (61 + 2 * j) by rw [show Q 55 8 = nI (j + 1) from (by rw [hQ 55 (by decide) (by decide)]; rfl)]; exact zT_s hc48) ?_
                  refine J_get C f_Ses_162 (by omega) (e_st _ (by omega)) rfl d_Ses_gatherSegment_125 ?_
                  refine J_iload C d_Ses_gatherSegment_128 rfl ?_
                  refine K_ial C (a_sp (by omega)) (j := k) rfl (by omega) d_Ses_gatherSegment_130 ?_
                  refine J_val (y := M (62 + 2 * j) k) (by rw [hQ _ (by omega) (by omega), gT_p _ _ (by omega) (by omega)]) ?_
                  refine F_callV C (as := [.int (M (62 + 2 * j) k)]) (st := []) (f_append l D dA Q k (M (62 + 2 * j) k) hQ3 (by omega)) l_Ses_165 v_Har_append (by decide) (e_56 _) rfl (by decide) (by decide) (Nat.le_of_ble_eq_true rfl) d_Ses_gatherSegment_131 (kk := ?_)
                  refine J_iinc C d_Ses_gatherSegment_134 rfl (v := nI (k + 1)) (nI_1 _) (by decide) rfl ?_
                  refine J_goto C 105 d_Ses_gatherSegment_137 (by decide) ?_
                  exact ih (k + 1) _ (by omega) (by omega) rfl (fun p0 a b => by rw [mu_p _ _ _ a, mu_p _ _ _ b]; exact hQ p0 a b) (by rw [show pl - k = (pl - (k + 1)) + 1 by omega] at hF; exact hF)
            exact lp (pl + 1) 0 (gT M j) (by omega) (by omega) rfl (fun _ _ _ => rfl) rfl
          · refine KK_ret C hr ?_ d_Ses_gatherSegment_101
            exact ⟨rfl, GO.s_lost hSt hXt h6 hjd hc48 hg8 ((fl_64 hg8).mp hc8) (Or.inr (by rw [hpl]; omega))⟩
      · refine KK_ret C hr ?_ d_Ses_gatherSegment_51
        exact ⟨rfl, GO.s_no hSt h6 (by omega)⟩
  · refine J_iconst C d_Ses_gatherSegment_11 (v := nI 1) rfl ?_
    refine J_goto C 16 d_Ses_gatherSegment_12 (by decide) ?_
    refine J_istore_n C 2 d_Ses_gatherSegment_16 rfl (by decide) rfl ?_
    refine J_aload_n C 1 d_Ses_gatherSegment_17 rfl rfl ?_
    refine J_iconst C d_Ses_gatherSegment_18 (v := nI 0) rfl ?_
    refine P_callV C (as := [.int (nI 0)]) (st := []) (p_data l D dA (gB M) t 0 hFr.1 hFr.2.1 hFr.2.2.1 (by decide)) l_Ses_102 v_Frm_data (by decide) (e_71 _) rfl (by decide) (by decide) (by decide) (Nat.le_of_ble_eq_true rfl) d_Ses_gatherSegment_19 (kk := ?_)
    refine J_val (y := nI (g 8)) (show (if t - 5 ≤ 0 then 0 else (gB M) 72 5) = nI (g 8) by rw [if_neg (by omega)]; exact hFr.2.2.2.1 5 (by omega)) ?_
    refine J_sipush C d_Ses_gatherSegment_22 (v := nI 128) rfl ?_
    refine J_iand C d_Ses_gatherSegment_25 ?_
    refine J_if_eq C 33 d_Ses_gatherSegment_26 (by decide) (fun hc26 => ?_) (fun hc26 => ?_)
    · refine J_iconst C d_Ses_gatherSegment_33 (v := nI 0) rfl ?_
      refine J_istore_n C 3 d_Ses_gatherSegment_34 rfl (by decide) rfl ?_
      refine J_aload_n C 1 d_Ses_gatherSegment_35 rfl rfl ?_
      refine J_iconst C d_Ses_gatherSegment_36 (v := nI 0) rfl ?_
      refine P_callV C (as := [.int (nI 0)]) (st := []) (p_data l D dA (gB M) t 0 hFr.1 hFr.2.1 hFr.2.2.1 (by decide)) l_Ses_102 v_Frm_data (by decide) (e_71 _) rfl (by decide) (by decide) (by decide) (Nat.le_of_ble_eq_true rfl) d_Ses_gatherSegment_37 (kk := ?_)
      refine J_val (y := nI (g 8)) (show (if t - 5 ≤ 0 then 0 else (gB M) 72 5) = nI (g 8) by rw [if_neg (by omega)]; exact hFr.2.2.2.1 5 (by omega)) ?_
      refine J_bipush C d_Ses_gatherSegment_40 (v := nI 63) rfl ?_
      refine J_iand C d_Ses_gatherSegment_42 ?_
      refine J_val (y := nI (g 8 % 64)) (fl_63 hg8) ?_
      refine J_istore C d_Ses_gatherSegment_43 (by decide) rfl ?_
      refine J_iload C d_Ses_gatherSegment_45 rfl ?_
      refine J_iconst C d_Ses_gatherSegment_47 (v := nI 4) rfl ?_
      refine J_icmpN_lt C 52 d_Ses_gatherSegment_48 (by decide) (by omega) (by omega) (fun hc48 => ?_) (fun hc48 => ?_)
      · obtain ⟨j, hjd⟩ : ∃ j, g 8 % 64 = j := ⟨_, rfl⟩
        rw [hjd]
        rw [hjd] at hc48
        refine J_aload_n C 0 d_Ses_gatherSegment_52 rfl rfl ?_
        refine J_aload_n C 0 d_Ses_gatherSegment_53 rfl rfl ?_
        refine J_get C f_Ses_20 (by decide) (e_55 _) rfl d_Ses_gatherSegment_54 ?_
        refine J_iload C d_Ses_gatherSegment_57 rfl ?_
        refine K_stld C (j := j) rfl (by omega) d_Ses_gatherSegment_59 ?_
        refine K_put C f_Ses_41 (by decide) (e_55 _) (Nat.le_of_ble_eq_true rfl) (w := .ref (61 + 2 * j)) (v := nI (j + 1)) (fun _ => Or.inr trivial) (fun _ => rfl) (fun _ => rfl) (Ec55_t _ hc48) d_Ses_gatherSegment_60 (kk := ?_)
        refine J_aload_n C 0 d_Ses_gatherSegment_63 rfl rfl ?_
        refine J_iconst C d_Ses_gatherSegment_64 (v := nI 0) rfl ?_
        refine K_putZ C f_Ses_45 (by decide) (e_55 _) (Nat.le_of_ble_eq_true rfl) (Or.inl rfl) rfl d_Ses_gatherSegment_65 (kk := ?_)
        refine J_mem (M2 := gT M j) rfl ?_
        refine J_iload_n C 2 d_Ses_gatherSegment_68 rfl rfl ?_
        refine J_ifN_ne C 140 d_Ses_gatherSegment_69 (by decide) (by omega) (fun hc69 => ?_) (fun hc69 => absurd hc69 (by decide))
        refine J_aload_n C 0 d_Ses_gatherSegment_140 rfl rfl ?_
        refine J_aload_n C 1 d_Ses_gatherSegment_141 rfl rfl ?_
        refine J_iconst C d_Ses_gatherSegment_142 (v := nI 1) rfl ?_
        refine F_callV C (as := [.ref 71, .int (nI 1)]) (st := []) (f_appendData l D dA (gT M j) t 0 1 hFr.1 hFr.2.1 hFr.2.2.1 (by omega) rfl (by omega) (M 72) rfl) l_Ses_144 v_Ses_appendData (by decide) (e_55 _) rfl (by decide) (by decide) (Nat.le_of_ble_eq_true rfl) d_Ses_gatherSegment_143 (kk := ?_)
        refine J_mem (M2 := gR M t j 0) rfl ?_
        refine J_aload_n C 0 d_Ses_gatherSegment_146 rfl rfl ?_
        refine J_iload_n C 3 d_Ses_gatherSegment_147 rfl rfl ?_
        refine J_ifN_ne C 155 d_Ses_gatherSegment_148 (by decide) (by omega) (fun hc148 => absurd hc148 (by decide)) (fun hc148 => ?_)
        refine J_iconst C d_Ses_gatherSegment_151 (v := nI 1) rfl ?_
        refine J_goto C 156 d_Ses_gatherSegment_152 (by decide) ?_
        refine K_putZ C f_Ses_45 (by decide) (e_55 _) (Nat.le_of_ble_eq_true rfl) (Or.inr rfl) rfl d_Ses_gatherSegment_156 (kk := ?_)
        refine J_iload_n C 3 d_Ses_gatherSegment_159 rfl rfl ?_
        refine J_ifN_eq C 170 d_Ses_gatherSegment_160 (by decide) (by omega) (fun hc160 => ?_) (fun hc160 => absurd hc160 (by decide))
        refine KK_ret C hr ?_ d_Ses_gatherSegment_170
        exact ⟨rfl, GO.s_1 hSt hXt hFr h6 hjd hc48 hg8 (fun z => hc8 ((fl_64 hg8).mpr z)) ((fl_128 hg8).mp hc26)⟩
      · refine KK_ret C hr ?_ d_Ses_gatherSegment_51
        exact ⟨rfl, GO.s_no hSt h6 (by omega)⟩
    · refine J_iconst C d_Ses_gatherSegment_29 (v := nI 1) rfl ?_
      refine J_goto C 34 d_Ses_gatherSegment_30 (by decide) ?_
      refine J_istore_n C 3 d_Ses_gatherSegment_34 rfl (by decide) rfl ?_
      refine J_aload_n C 1 d_Ses_gatherSegment_35 rfl rfl ?_
      refine J_iconst C d_Ses_gatherSegment_36 (v := nI 0) rfl ?_
      refine P_callV C (as := [.int (nI 0)]) (st := []) (p_data l D dA (gB M) t 0 hFr.1 hFr.2.1 hFr.2.2.1 (by decide)) l_Ses_102 v_Frm_data (by decide) (e_71 _) rfl (by decide) (by decide) (by decide) (Nat.le_of_ble_eq_true rfl) d_Ses_gatherSegment_37 (kk := ?_)
      refine J_val (y := nI (g 8)) (show (if t - 5 ≤ 0 then 0 else (gB M) 72 5) = nI (g 8) by rw [if_neg (by omega)]; exact hFr.2.2.2.1 5 (by omega)) ?_
      refine J_bipush C d_Ses_gatherSegment_40 (v := nI 63) rfl ?_
      refine J_iand C d_Ses_gatherSegment_42 ?_
      refine J_val (y := nI (g 8 % 64)) (fl_63 hg8) ?_
      refine J_istore C d_Ses_gatherSegment_43 (by decide) rfl ?_
      refine J_iload C d_Ses_gatherSegment_45 rfl ?_
      refine J_iconst C d_Ses_gatherSegment_47 (v := nI 4) rfl ?_
      refine J_icmpN_lt C 52 d_Ses_gatherSegment_48 (by decide) (by omega) (by omega) (fun hc48 => ?_) (fun hc48 => ?_)
      · obtain ⟨j, hjd⟩ : ∃ j, g 8 % 64 = j := ⟨_, rfl⟩
        rw [hjd]
        rw [hjd] at hc48
        refine J_aload_n C 0 d_Ses_gatherSegment_52 rfl rfl ?_
        refine J_aload_n C 0 d_Ses_gatherSegment_53 rfl rfl ?_
        refine J_get C f_Ses_20 (by decide) (e_55 _) rfl d_Ses_gatherSegment_54 ?_
        refine J_iload C d_Ses_gatherSegment_57 rfl ?_
        refine K_stld C (j := j) rfl (by omega) d_Ses_gatherSegment_59 ?_
        refine K_put C f_Ses_41 (by decide) (e_55 _) (Nat.le_of_ble_eq_true rfl) (w := .ref (61 + 2 * j)) (v := nI (j + 1)) (fun _ => Or.inr trivial) (fun _ => rfl) (fun _ => rfl) (Ec55_t _ hc48) d_Ses_gatherSegment_60 (kk := ?_)
        refine J_aload_n C 0 d_Ses_gatherSegment_63 rfl rfl ?_
        refine J_iconst C d_Ses_gatherSegment_64 (v := nI 0) rfl ?_
        refine K_putZ C f_Ses_45 (by decide) (e_55 _) (Nat.le_of_ble_eq_true rfl) (Or.inl rfl) rfl d_Ses_gatherSegment_65 (kk := ?_)
        refine J_mem (M2 := gT M j) rfl ?_
        refine J_iload_n C 2 d_Ses_gatherSegment_68 rfl rfl ?_
        refine J_ifN_ne C 140 d_Ses_gatherSegment_69 (by decide) (by omega) (fun hc69 => ?_) (fun hc69 => absurd hc69 (by decide))
        refine J_aload_n C 0 d_Ses_gatherSegment_140 rfl rfl ?_
        refine J_aload_n C 1 d_Ses_gatherSegment_141 rfl rfl ?_
        refine J_iconst C d_Ses_gatherSegment_142 (v := nI 1) rfl ?_
        refine F_callV C (as := [.ref 71, .int (nI 1)]) (st := []) (f_appendData l D dA (gT M j) t 0 1 hFr.1 hFr.2.1 hFr.2.2.1 (by omega) rfl (by omega) (M 72) rfl) l_Ses_144 v_Ses_appendData (by decide) (e_55 _) rfl (by decide) (by decide) (Nat.le_of_ble_eq_true rfl) d_Ses_gatherSegment_143 (kk := ?_)
        refine J_mem (M2 := gR M t j 0) rfl ?_
        refine J_aload_n C 0 d_Ses_gatherSegment_146 rfl rfl ?_
        refine J_iload_n C 3 d_Ses_gatherSegment_147 rfl rfl ?_
        refine J_ifN_ne C 155 d_Ses_gatherSegment_148 (by decide) (by omega) (fun hc148 => ?_) (fun hc148 => absurd hc148 (by decide))
        refine J_iconst C d_Ses_gatherSegment_155 (v := nI 0) rfl ?_
        refine K_putZ C f_Ses_45 (by decide) (e_55 _) (Nat.le_of_ble_eq_true rfl) (Or.inl rfl) rfl d_Ses_gatherSegment_156 (kk := ?_)
        refine J_iload_n C 3 d_Ses_gatherSegment_159 rfl rfl ?_
        refine J_ifN_eq C 170 d_Ses_gatherSegment_160 (by decide) (by omega) (fun hc160 => absurd hc160 (by decide)) (fun hc160 => ?_)
        refine J_aload_n C 0 d_Ses_gatherSegment_163 rfl rfl ?_
        refine J_get C f_Ses_12 (by decide) (e_55 _) rfl d_Ses_gatherSegment_164 ?_
        refine F_callV C (as := []) (st := []) (f_findOne l D dA (mu (gR M t j 0) 55 9 (nI 0)) (0 + (t - 5 - 1)) (fun k => g (9 + k)) (by rw [mu_p _ _ _ (by decide), gR_3]) (by omega) (fun i hi => by rw [mu_p _ _ _ (by decide)]; exact ((gR_by0 hFr h6 (j := j)) i hi).1) (fun i hi => ((gR_by0 hFr h6 (j := j)) i hi).2)) l_Ses_168 v_Har_findOneWholePacket (by decide) (e_56 _) rfl (by decide) (by decide) (Nat.le_of_ble_eq_true rfl) d_Ses_gatherSegment_167 (kk := ?_)
        refine J_mem (M2 := fOne (mu (gR M t j 0) 55 9 (nI 0)) (fun k => g (9 + k)) (0 + (t - 5 - 1))) rfl ?_
        refine KK_ret C hr ?_ d_Ses_gatherSegment_170
        exact ⟨rfl, GO.s_3 hSt hXt hFr h6 ho hjd hc48 hg8 (fun z => hc8 ((fl_64 hg8).mpr z)) (fun z => hc26 ((fl_128 hg8).mpr z))⟩
      · refine KK_ret C hr ?_ d_Ses_gatherSegment_51
        exact ⟨rfl, GO.s_no hSt h6 (by omega)⟩
