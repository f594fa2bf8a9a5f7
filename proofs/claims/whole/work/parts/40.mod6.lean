theorem PlaM_ge (g : Nat → Nat) (a en : Nat) : PlaM g a en = 0 ∨ (7 ≤ PlaM g a en ∧ PlaM g a en ≤ 60 ∧ a + PlaM g a en ≤ en) := by unfold PlaM; (repeat' split) <;> first | (left; rfl) | (right; omega)
def fNd (g : Nat → Nat) (en : Nat) : Nat → Nat → Nat
  | 0, _ => 0
  | f + 1, i => if PlaM g i en = 0 then 0 else (PlaM g i en + 19) / 20 + fNd g en f (i + PlaM g i en)
theorem fNd_le (g : Nat → Nat) (en : Nat) : ∀ (f i : Nat), fNd g en f i ≤ 3 * f
  | 0, _ => Nat.le_refl _
  | f + 1, i => by
    have h1 := fNd_le g en f (i + PlaM g i en)
    have h2 := PlaM_ge g i en
    unfold fNd
    split <;> omega
def fPkI (g : Nat → Nat) (en : Nat) : Nat → Nat → Mem → Mem
  | 0, _, X => X
  | f + 1, i, X => if PlaM g i en = 0 then X else if X 76 3 = 0 then fPkI g en f (i + PlaM g i en) (if (PlaM g i en + 19) / 20 ≤ cntF (uX X) 24 then fKeep X 78 i (PlaM g i en) else X) else X
/-- packets in a frame: does the whole of them stay out? -/
def cPIn (X : Mem) (g : Nat → Nat) (en : Nat) (sq : Int32) : Prop := ¬ sq = 0 ∧ cntF (uX X) 24 < fNd g en 81 8
set_option maxHeartbeats 4000000 in
set_option maxRecDepth 100000 in
theorem fm_packetsIn (l : Launch) (D : va_G) (dA : Nat → ClassId) (M M9 : Mem) (en : Nat) (sq r9 : Int32) (g : Nat → Nat) (hX : XS M) (h8 : 8 ≤ en) (hen : en ≤ 80) (hg : ∀ i, i < en → M 78 i = nI (g i)) (hg2 : ∀ i, i < en → g i < 256) (hr0 : cPIn M g en sq → r9 = 0) (hr1 : ¬ cPIn M g en sq → r9 = 1) (hM0 : cPIn M g en sq → M = M9) (hM9 : ¬ cPIn M g en sq → fPkI g en 81 8 M = M9) : CF l D dA k_Mod_packetsIn 3 [.ref 76, .int (nI 8), .int (nI en), .int sq] M (some (.int r9)) (M9) := by
  refine CF.of (by decide +kernel) (Nat.le_of_ble_eq_true rfl) (by intro v hv; simp only [List.mem_cons, List.not_mem_nil, or_false] at hv; rcases hv with rfl | rfl | rfl | rfl <;> rfl) ?_
  intro A ad0 p e s m args below meth c C hr
  obtain ⟨T, hTT⟩ : ∃ T, fNd g en 81 8 = T := ⟨_, rfl⟩
  have hTl : T ≤ 243 := by rw [← hTT]; exact fNd_le g en 81 8
  have h70 : ¬ cPIn M g en sq → J D dA A (fun _ _ => True) ad0 90 k_Mod_packetsIn.2.2.1 p l e (zR 3 0 0) s m args below meth c (FQ D dA A ad0 below args s (some (.int r9)) (M9)) 70 [some (.ref 76), some (.int (nI 8)), some (.int (nI en)), some (.int sq), none, none, none] [] (E M) 90 0 0 := by
    intro hcd
    have hr1 := hr1 hcd
    have lp2 : ∀ (fu : Nat) (i : Nat) (X : Mem), en - i < fu → (i ≤ en) → (XS X) → (∀ i, i < en → X 78 i = nI (g i)) → (fPkI g en (fu) i X = M9) → J D dA A (fun _ _ => True) ad0 90 k_Mod_packetsIn.2.2.1 p l e (zR 3 0 0) s m args below meth c (FQ D dA A ad0 below args s (some (.int r9)) (M9)) 85 [some (.ref 76), some (.int (nI 8)), some (.int (nI en)), some (.int sq), none, some (.int (nI i)), some (.int (nI (PlaM g i en)))] [] (E X) 90 0 0 := by
      intro fu
      induction fu with
      | zero => intro i X hfu; exact absurd hfu (Nat.not_lt_zero _)
      | succ fu ih =>
        intro i X hfu hi hX hg hF
        have hge := PlaM_ge g i en
        refine J_iload C d_Mod_packetsIn_85 rfl ?_
        refine J_ifN_le C 143 d_Mod_packetsIn_87 (by decide) (by omega) (fun hc87 => ?_) (fun hc87 => ?_)
        · refine J_iconst C d_Mod_packetsIn_143 (v := nI 1) rfl ?_
          exact F_zret C hr (Or.inr rfl) hr1.symm (by first | (unfold fPkI at hF; rw [if_pos (by omega)] at hF; exact hF) | (rw [if_neg hc94] at hF; exact hF)) d_Mod_packetsIn_144
        · refine J_aload_n C 0 d_Mod_packetsIn_90 rfl rfl ?_
          unfold fPkI at hF
          rw [if_neg (by omega)] at hF
          refine J_get C f_Mod_20 (by decide) (e_76 _) rfl d_Mod_packetsIn_91 ?_
          refine J_if_ne C 143 d_Mod_packetsIn_94 (by decide) (fun hc94 => ?_) (fun hc94 => ?_)
          · refine J_iconst C d_Mod_packetsIn_143 (v := nI 1) rfl ?_
            exact F_zret C hr (Or.inr rfl) hr1.symm (by first | (unfold fPkI at hF; rw [if_pos (by omega)] at hF; exact hF) | (rw [if_neg hc94] at hF; exact hF)) d_Mod_packetsIn_144
          · have ho : X 76 3 = 0 := hc94
            rw [if_pos ho] at hF
            obtain ⟨c0, ln, em, bk, hS⟩ := hX
            refine J_iload C d_Mod_packetsIn_97 rfl ?_
            refine P_callS C (as := [.int (nI (PlaM g i en))]) (st := []) (pm_blocksOf l D dA X (PlaM g i en) (by omega)) l_Mod_109 s_Mod_blocksOf rfl (by decide) (by decide) (by decide) (Nat.le_of_ble_eq_true rfl) d_Mod_packetsIn_99 (kk := ?_)
            refine J_aload_n C 0 d_Mod_packetsIn_102 rfl rfl ?_
            refine P_callV C (as := []) (st := [.int (nI (((PlaM g i en) + 19) / 20))]) (pm_freeBlocks l D dA X c0 (uX X) hS.1 hS.2.1 (uX_le X) (uX_hu1 hS.c) (uX_hu0 hS.c)) l_Mod_113 v_Mod_freeBlocks (by decide) (e_76 _) rfl (by decide) (by decide) (by decide) (Nat.le_of_ble_eq_true rfl) d_Mod_packetsIn_103 (kk := ?_)
            have bfr := cntF_le (uX_le X) 24
            refine J_icmpN_gt C 121 d_Mod_packetsIn_106 (by decide) (by omega) (by omega) (fun hc106 => ?_) (fun hc106 => ?_)
            · refine J_iload C d_Mod_packetsIn_121 rfl ?_
              refine J_iload C d_Mod_packetsIn_123 rfl ?_
              refine J_iaddN C d_Mod_packetsIn_125 ?_
              refine J_istore C d_Mod_packetsIn_126 (by decide) rfl ?_
              refine J_aload_n C 0 d_Mod_packetsIn_128 rfl rfl ?_
              refine J_get C f_Mod_27 (by decide) (e_76 _) rfl d_Mod_packetsIn_129 ?_
              refine J_iload C d_Mod_packetsIn_132 rfl ?_
              refine J_iload_n C 2 d_Mod_packetsIn_134 rfl rfl ?_
              refine P_callS C (as := [.ref 78, .int (nI (i + (PlaM g i en))), .int (nI en)]) (st := []) (pm_packetAt78 l D dA X (i + (PlaM g i en)) en hen (by omega) g (fun i _ hi => hg i hi) (fun i _ hi => hg2 i hi)) l_Mod_105 s_Mod_packetAt rfl (by decide) (by decide) (by decide) (Nat.le_of_ble_eq_true rfl) d_Mod_packetsIn_135 (kk := ?_)
              refine J_istore C d_Mod_packetsIn_138 (by decide) rfl ?_
              refine J_goto C 85 d_Mod_packetsIn_140 (by decide) ?_
              refine J_lv (lv' := [some (.ref 76), some (.int (nI 8)), some (.int (nI en)), some (.int sq), none, some (.int (nI (i + (PlaM g i en)))), some (.int (nI (PlaM g (i + (PlaM g i en)) en)))]) (by intro i v hv; match i, hv with | 0, hv => exact hv | 1, hv => exact hv | 2, hv => exact hv | 3, hv => exact hv | 4, hv => simp at hv | 5, hv => exact hv | 6, hv => exact hv | _ + 7, hv => simp at hv) ?_
              exact ih _ _ (by omega) (by omega) ⟨c0, ln, em, bk, hS⟩ hg (by rw [if_neg (by omega)] at hF; exact hF)
            · refine J_aload_n C 0 d_Mod_packetsIn_109 rfl rfl ?_
              refine J_aload_n C 0 d_Mod_packetsIn_110 rfl rfl ?_
              refine J_get C f_Mod_27 (by decide) (e_76 _) rfl d_Mod_packetsIn_111 ?_
              refine J_iload C d_Mod_packetsIn_114 rfl ?_
              refine J_iload C d_Mod_packetsIn_116 rfl ?_
              refine F_callV C (as := [.ref 78, .int (nI i), .int (nI (PlaM g i en))]) (st := []) (fm_keep78 l D dA X i (PlaM g i en) c0 (uX X) hS.1 (by have := hS.room; omega) ho (by omega) (by omega) (by omega) rfl (by omega)) l_Mod_117 v_Mod_keepPacket (by decide) (e_76 _) rfl (by decide) (by decide) (Nat.le_of_ble_eq_true rfl) d_Mod_packetsIn_118 (kk := ?_)
              refine J_iload C d_Mod_packetsIn_121 rfl ?_
              refine J_iload C d_Mod_packetsIn_123 rfl ?_
              refine J_iaddN C d_Mod_packetsIn_125 ?_
              refine J_istore C d_Mod_packetsIn_126 (by decide) rfl ?_
              refine J_aload_n C 0 d_Mod_packetsIn_128 rfl rfl ?_
              refine J_get C f_Mod_27 (by decide) (e_76 _) rfl d_Mod_packetsIn_129 ?_
              refine J_iload C d_Mod_packetsIn_132 rfl ?_
              refine J_iload_n C 2 d_Mod_packetsIn_134 rfl rfl ?_
              refine P_callS C (as := [.ref 78, .int (nI (i + (PlaM g i en))), .int (nI en)]) (st := []) (pm_packetAt78 l D dA (fKeep X 78 i (PlaM g i en)) (i + (PlaM g i en)) en hen (by omega) g (fun i _ hi => (by rw [fKeep_p _ _ _ _ (by decide) (by decide) (by decide) (by decide) (by decide) (by decide)]; exact hg i hi)) (fun i _ hi => hg2 i hi)) l_Mod_105 s_Mod_packetAt rfl (by decide) (by decide) (by decide) (Nat.le_of_ble_eq_true rfl) d_Mod_packetsIn_135 (kk := ?_)
              refine J_istore C d_Mod_packetsIn_138 (by decide) rfl ?_
              refine J_goto C 85 d_Mod_packetsIn_140 (by decide) ?_
              refine J_lv (lv' := [some (.ref 76), some (.int (nI 8)), some (.int (nI en)), some (.int sq), none, some (.int (nI (i + (PlaM g i en)))), some (.int (nI (PlaM g (i + (PlaM g i en)) en)))]) (by intro i v hv; match i, hv with | 0, hv => exact hv | 1, hv => exact hv | 2, hv => exact hv | 3, hv => exact hv | 4, hv => simp at hv | 5, hv => exact hv | 6, hv => exact hv | _ + 7, hv => simp at hv) ?_
              exact ih _ _ (by omega) (by omega) (hS.keep (by omega) (by omega) (by omega) (by decide) (by decide) (by decide) (fun k hk => ⟨g (i + k), hg2 _ (by omega), hg _ (by omega)⟩)) (fun i hi => by rw [fKeep_p _ _ _ _ (by decide) (by decide) (by decide) (by decide) (by decide) (by decide)]; exact hg i hi) (by rw [if_pos (by omega)] at hF; exact hF)
    refine J_iload_n C 1 d_Mod_packetsIn_70 rfl rfl ?_
    refine J_istore C d_Mod_packetsIn_71 (by decide) rfl ?_
    refine J_aload_n C 0 d_Mod_packetsIn_73 rfl rfl ?_
    refine J_get C f_Mod_27 (by decide) (e_76 _) rfl d_Mod_packetsIn_74 ?_
    refine J_iload C d_Mod_packetsIn_77 rfl ?_
    refine J_iload_n C 2 d_Mod_packetsIn_79 rfl rfl ?_
    refine P_callS C (as := [.ref 78, .int (nI 8), .int (nI en)]) (st := []) (pm_packetAt78 l D dA M 8 en hen (by omega) g (fun i _ hi => hg i hi) (fun i _ hi => hg2 i hi)) l_Mod_105 s_Mod_packetAt rfl (by decide) (by decide) (by decide) (Nat.le_of_ble_eq_true rfl) d_Mod_packetsIn_80 (kk := ?_)
    refine J_istore C d_Mod_packetsIn_83 (by decide) rfl ?_
    exact lp2 81 8 M (by omega) (by omega) hX hg (hM9 hcd)
  have h55 : J D dA A (fun _ _ => True) ad0 90 k_Mod_packetsIn.2.2.1 p l e (zR 3 0 0) s m args below meth c (FQ D dA A ad0 below args s (some (.int r9)) (M9)) 55 [some (.ref 76), some (.int (nI 8)), some (.int (nI en)), some (.int sq), some (.int (nI T)), none, none] [] (E M) 90 0 0 := by
    refine J_iload_n C 3 d_Mod_packetsIn_55 rfl rfl ?_
    refine J_if_eq C 70 d_Mod_packetsIn_56 (by decide) (fun hc56 => ?_) (fun hc56 => ?_)
    · refine J_lv (lv' := [some (.ref 76), some (.int (nI 8)), some (.int (nI en)), some (.int sq), none, none, none]) (by intro i v hv; match i, hv with | 0, hv => exact hv | 1, hv => exact hv | 2, hv => exact hv | 3, hv => exact hv | 4, hv => simp at hv | 5, hv => simp at hv | 6, hv => simp at hv | _ + 7, hv => simp at hv) ?_
      exact h70 (by first | exact fun q => q.1 hc56 | exact fun q => absurd q.2 (by omega))
    · obtain ⟨c0, ln, em, bk, hS⟩ := hX
      refine J_iload C d_Mod_packetsIn_59 rfl ?_
      refine J_aload_n C 0 d_Mod_packetsIn_61 rfl rfl ?_
      refine P_callV C (as := []) (st := [.int (nI T)]) (pm_freeBlocks l D dA M c0 (uX M) hS.1 hS.2.1 (uX_le M) (uX_hu1 hS.c) (uX_hu0 hS.c)) l_Mod_113 v_Mod_freeBlocks (by decide) (e_76 _) rfl (by decide) (by decide) (by decide) (Nat.le_of_ble_eq_true rfl) d_Mod_packetsIn_62 (kk := ?_)
      have bfr := cntF_le (uX_le M) 24
      refine J_icmpN_le C 70 d_Mod_packetsIn_65 (by decide) (by omega) (by omega) (fun hc65 => ?_) (fun hc65 => ?_)
      · refine J_lv (lv' := [some (.ref 76), some (.int (nI 8)), some (.int (nI en)), some (.int sq), none, none, none]) (by intro i v hv; match i, hv with | 0, hv => exact hv | 1, hv => exact hv | 2, hv => exact hv | 3, hv => exact hv | 4, hv => simp at hv | 5, hv => simp at hv | 6, hv => simp at hv | _ + 7, hv => simp at hv) ?_
        exact h70 (by first | exact fun q => q.1 hc56 | exact fun q => absurd q.2 (by omega))
      · refine J_iconst C d_Mod_packetsIn_68 (v := nI 0) rfl ?_
        exact F_zret C hr (Or.inl rfl) (hr0 ⟨hc56, by omega⟩).symm (hM0 ⟨hc56, by omega⟩) d_Mod_packetsIn_69
  have lp1 : ∀ (fu nd i : Nat), en - i < fu → i ≤ en → nd + fNd g en fu i = T → J D dA A (fun _ _ => True) ad0 90 k_Mod_packetsIn.2.2.1 p l e (zR 3 0 0) s m args below meth c (FQ D dA A ad0 below args s (some (.int r9)) (M9)) 18 [some (.ref 76), some (.int (nI 8)), some (.int (nI en)), some (.int sq), some (.int (nI nd)), some (.int (nI i)), some (.int (nI (PlaM g i en)))] [] (E M) 90 0 0 := by
    intro fu
    induction fu with
    | zero => intro nd i hfu; exact absurd hfu (Nat.not_lt_zero _)
    | succ fu ih =>
      intro nd i hfu hi hT
      have hge := PlaM_ge g i en
      refine J_iload C d_Mod_packetsIn_18 rfl ?_
      refine J_ifN_le C 55 d_Mod_packetsIn_20 (by decide) (by omega) (fun hc20 => ?_) (fun hc20 => ?_)
      · unfold fNd at hT
        rw [if_pos (by omega)] at hT
        have hT : nd = T := hT
        subst hT
        refine J_lv (lv' := [some (.ref 76), some (.int (nI 8)), some (.int (nI en)), some (.int sq), some (.int (nI nd)), none, none]) (by intro i v hv; match i, hv with | 0, hv => exact hv | 1, hv => exact hv | 2, hv => exact hv | 3, hv => exact hv | 4, hv => exact hv | 5, hv => simp at hv | 6, hv => simp at hv | _ + 7, hv => simp at hv) ?_
        exact h55
      · unfold fNd at hT
        rw [if_neg (by omega)] at hT
        refine J_iload C d_Mod_packetsIn_23 rfl ?_
        refine J_iload C d_Mod_packetsIn_25 rfl ?_
        refine P_callS C (as := [.int (nI (PlaM g i en))]) (st := [.int (nI nd)]) (pm_blocksOf l D dA M (PlaM g i en) (by omega)) l_Mod_109 s_Mod_blocksOf rfl (by decide) (by decide) (by decide) (Nat.le_of_ble_eq_true rfl) d_Mod_packetsIn_27 (kk := ?_)
        refine J_iaddN C d_Mod_packetsIn_30 ?_
        refine J_istore C d_Mod_packetsIn_31 (by decide) rfl ?_
        refine J_iload C d_Mod_packetsIn_33 rfl ?_
        refine J_iload C d_Mod_packetsIn_35 rfl ?_
        refine J_iaddN C d_Mod_packetsIn_37 ?_
        refine J_istore C d_Mod_packetsIn_38 (by decide) rfl ?_
        refine J_aload_n C 0 d_Mod_packetsIn_40 rfl rfl ?_
        refine J_get C f_Mod_27 (by decide) (e_76 _) rfl d_Mod_packetsIn_41 ?_
        refine J_iload C d_Mod_packetsIn_44 rfl ?_
        refine J_iload_n C 2 d_Mod_packetsIn_46 rfl rfl ?_
        refine P_callS C (as := [.ref 78, .int (nI (i + (PlaM g i en))), .int (nI en)]) (st := []) (pm_packetAt78 l D dA M (i + (PlaM g i en)) en hen (by omega) g (fun i _ hi => hg i hi) (fun i _ hi => hg2 i hi)) l_Mod_105 s_Mod_packetAt rfl (by decide) (by decide) (by decide) (Nat.le_of_ble_eq_true rfl) d_Mod_packetsIn_47 (kk := ?_)
        refine J_istore C d_Mod_packetsIn_50 (by decide) rfl ?_
        refine J_goto C 18 d_Mod_packetsIn_52 (by decide) ?_
        exact ih _ _ (by omega) (by omega) (by omega)
  refine J_iconst C d_Mod_packetsIn_0 (v := nI 0) rfl ?_
  refine J_istore C d_Mod_packetsIn_1 (by decide) rfl ?_
  refine J_iload_n C 1 d_Mod_packetsIn_3 rfl rfl ?_
  refine J_istore C d_Mod_packetsIn_4 (by decide) rfl ?_
  refine J_aload_n C 0 d_Mod_packetsIn_6 rfl rfl ?_
  refine J_get C f_Mod_27 (by decide) (e_76 _) rfl d_Mod_packetsIn_7 ?_
  refine J_iload C d_Mod_packetsIn_10 rfl ?_
  refine J_iload_n C 2 d_Mod_packetsIn_12 rfl rfl ?_
  refine P_callS C (as := [.ref 78, .int (nI 8), .int (nI en)]) (st := []) (pm_packetAt78 l D dA M 8 en hen (by omega) g (fun i _ hi => hg i hi) (fun i _ hi => hg2 i hi)) l_Mod_105 s_Mod_packetAt rfl (by decide) (by decide) (by decide) (Nat.le_of_ble_eq_true rfl) d_Mod_packetsIn_13 (kk := ?_)
  refine J_istore C d_Mod_packetsIn_16 (by decide) rfl ?_
  exact lp1 81 0 8 (by omega) (by omega) (by omega)
