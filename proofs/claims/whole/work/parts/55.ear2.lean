/-- between two packets: k bytes of the frame stand -/
def FZ (c0 : Nat) (ln : Nat → Nat) (bk : Nat → Nat → Nat) (q : Nat → Nat) (M0 : Mem) (i k : Nat) (M X : Mem) : Prop := ∃ em, XSv c0 ln em bk X ∧ CRv c0 ln em bk q M X ∧ (∀ x, i ≤ x → x < c0 → em x < ln x) ∧ (∀ y, y < k → y ≠ 6 → y ≠ 7 → M 74 y = X 87 y) ∧ (∀ y, k ≤ y → y < 30 → M 74 y = nI 85) ∧ (∀ p0, p0 ≠ 74 → (∀ j, j < 24 → p0 ≠ 7 + 2 * j) → M p0 = M0 p0)
/-- the frame is filled -/
def FZe (c0 : Nat) (ln : Nat → Nat) (bk : Nat → Nat → Nat) (q : Nat → Nat) (M0 X9 : Mem) (pt : Nat) (M : Mem) : Prop := ∃ em X, X9 = endF X (nI pt) ∧ pt < 2048 ∧ XSv c0 ln em bk X ∧ CRv c0 ln em bk q M X ∧ (∀ y, y < 30 → y ≠ 6 → y ≠ 7 → M 74 y = X 87 y) ∧ (∀ p0, p0 ≠ 74 → (∀ j, j < 24 → p0 ≠ 7 + 2 * j) → M p0 = M0 p0)
set_option maxHeartbeats 4000000 in
set_option maxRecDepth 100000 in
theorem k_fillZone (l : Launch) (D : va_G) (dA : Nat → ClassId) (M0 X0 X9 : Mem) (c0 w : Nat) (ln em : Nat → Nat) (bk : Nat → Nat → Nat) (q : Nat → Nat) (hw : w ≤ 1) (hS : XSv c0 ln em bk X0) (hR : CRv c0 ln em bk q M0 X0) (hel : ∀ x, x < c0 → em x < ln x) (hhd : ∀ y, y < 6 → M0 74 y = X0 87 y) (hX9 : flM c0 (nI w) 22 8 0 (-1) 0 X0 = X9) : CM l D dA k_Ear_fillZone 2 [.ref 73, .int (nI w), .ref 3] M0 (fun v M' => ∃ pt, v = some (.int (nI pt)) ∧ FZe c0 ln bk q M0 X9 pt M') := by
  refine CM.of (by decide +kernel) (Nat.le_of_ble_eq_true rfl) (by intro v hv; simp only [List.mem_cons, List.not_mem_nil, or_false] at hv; rcases hv with rfl | rfl | rfl <;> rfl) ?_
  intro A ad0 p e s m args below meth c C hr
  have hc24 := hS.2.1
  have lp : ∀ (fu i k pt so : Nat) (pX : Int32) (M X : Mem), c0 - i < fu → i ≤ c0 → 8 ≤ k → k ≤ 30 → PTR pt pX so → FZ c0 ln bk q M0 i k M X → flM c0 (nI w) (30 - k) k i pX so X = X9 → J D dA A (fun _ _ => True) ad0 90 k_Ear_fillZone.2.2.1 p l e (zR 2 0 0) s m args below meth c (KQ D dA A ad0 below args s (fun v M' => ∃ pt, v = some (.int (nI pt)) ∧ FZe c0 ln bk q M0 X9 pt M')) 24 [some (.ref 73), some (.int (nI w)), some (.ref 3), some (.int (nI pt)), some (.int (nI k)), some (.int (nI i)), none] [] (E M) 90 0 0 := by
    intro fu
    induction fu with
    | zero => intro i k pt so pX M X hfu; exact absurd hfu (Nat.not_lt_zero _)
    | succ fu ih =>
      intro i k pt so pX M X hfu hi h8 h30 hPT hZ hF
      have hcnt : M 3 3 = nI c0 := by obtain ⟨em, hS, hR, hlt, hfa, hfb, hfr⟩ := hZ; exact hR.1
      have hpt := hPT.told.2
      refine J_iload C d_Ear_fillZone_24 rfl ?_
      refine J_aload_n C 2 d_Ear_fillZone_26 rfl rfl ?_
      refine J_get C f_Ear_46 (by decide) (e_3 _) rfl d_Ear_fillZone_27 ?_
      refine J_val (y := nI c0) hcnt ?_
      refine J_icmpN_ge C 89 d_Ear_fillZone_30 (by decide) (by omega) (by omega) (fun hc30 => ?_) (fun hc30 => ?_)
      · refine J_iload_n C 3 d_Ear_fillZone_89 rfl rfl ?_
        refine KK_iret C hr ?_ d_Ear_fillZone_90
        obtain ⟨em, hS, hR, hlt, hfa, hfb, hfr⟩ := hZ
        refine ⟨pt, rfl, ?_⟩
        rw [show i = c0 by omega, flM_end] at hF
        exact ⟨em, filX (30 - k) k X, hF.symm.trans (congrArg _ hPT.told.1), hPT.told.2, hS.f87 (fun p0 a => filX_p _ _ _ a), hR.f74 (by omega) (fun _ _ => rfl) (fun p0 a => filX_p _ _ _ a), fun y a b c => by rw [filX_87]; by_cases z : k ≤ y ∧ y < k + (30 - k); (rw [if_pos z]; exact hfb y z.1 a); (rw [if_neg z]; exact hfa y (by omega) b c), hfr⟩
      · refine J_iload C d_Ear_fillZone_33 rfl ?_
        refine J_bipush C d_Ear_fillZone_35 (v := nI 30) rfl ?_
        refine J_icmpN_ge C 89 d_Ear_fillZone_37 (by decide) (by omega) (by omega) (fun hc37 => ?_) (fun hc37 => ?_)
        · refine J_iload_n C 3 d_Ear_fillZone_89 rfl rfl ?_
          refine KK_iret C hr ?_ d_Ear_fillZone_90
          obtain ⟨em, hS, hR, hlt, hfa, hfb, hfr⟩ := hZ
          refine ⟨pt, rfl, ?_⟩
          rw [show 30 - k = 0 by omega] at hF
          exact ⟨em, X, hF.symm.trans (congrArg (endF X) hPT.told.1), hPT.told.2, hS, hR, fun y a b c => hfa y (by omega) b c, hfr⟩
        · obtain ⟨em, hS, hR, hlt, hfa, hfb, hfr⟩ := hZ
          have hqi := hR.2.2.2.2.2.2.2.2.1 i (by omega)
          have hpk := hR.2.2.2.2.2.2.2.2.2.2.2.1 i hc30
          have hqb := hqi.2
          have hle := (hS.2.2.2.2.1 i hc30)
          have hl60 := (hS.2.2.2.1 i hc30)
          have hap := ap_eq hS hc30
          have hel := hlt i (Nat.le_refl _) hc30
          refine J_aload_n C 2 d_Ear_fillZone_40 rfl rfl ?_
          refine J_get C f_Ear_50 (by decide) (e_3 _) rfl d_Ear_fillZone_41 ?_
          refine J_iload C d_Ear_fillZone_44 rfl ?_
          refine K_pkld C (j := i) (x := q i) rfl (by omega) hqi.1 (by omega) d_Ear_fillZone_46 ?_
          refine J_astore C d_Ear_fillZone_47 (by decide) rfl ?_
          refine J_aload C d_Ear_fillZone_49 rfl ?_
          refine J_get C f_Ear_54 (by omega) (e_pk _ (by omega)) rfl d_Ear_fillZone_51 ?_
          refine J_val (y := nI (apX X i)) (hpk.2.2.1.trans hap.1) ?_
          refine J_iconst C d_Ear_fillZone_54 (v := nI 2) rfl ?_
          refine J_iremN C d_Ear_fillZone_55 (by omega) (by omega) (by omega) ?_
          refine J_iload_n C 1 d_Ear_fillZone_56 rfl rfl ?_
          refine J_icmpN_ne C 83 d_Ear_fillZone_57 (by decide) (by omega) (by omega) (fun hc57 => ?_) (fun hc57 => ?_)
          · refine J_iinc C d_Ear_fillZone_83 rfl (v := nI (i + 1)) (nI_1 _) (by decide) rfl ?_
            refine J_goto C 24 d_Ear_fillZone_86 (by decide) ?_
            refine J_lv (lv' := [some (.ref 73), some (.int (nI w)), some (.ref 3), some (.int (nI pt)), some (.int (nI k)), some (.int (nI (i + 1))), none]) (by intro i v hv; match i, hv with | 0, hv => exact hv | 1, hv => exact hv | 2, hv => exact hv | 3, hv => exact hv | 4, hv => exact hv | 5, hv => exact hv | 6, hv => simp at hv | _ + 7, hv => simp at hv) ?_
            rw [flM_skip (by omega) hc30 (Or.inl (by rw [hap.2.2]; exact fun z => hc57 ((nI_eq (by omega) (by omega)).mp z)))] at hF
            exact ih (i + 1) k pt so pX M X (by omega) (by omega) h8 h30 hPT ⟨em, hS, hR, fun x a b => hlt x (by omega) b, hfa, hfb, hfr⟩ hF
          · have hpar : X 84 (60 * i + 1) &&& nI 1 = nI w := by rw [hap.2.2, hc57]
            generalize hm : min (30 - k) (ln i - em i) = m9
            have hptl := hPT.told.2
            refine J_aload C d_Ear_fillZone_60 rfl ?_
            refine J_iload C d_Ear_fillZone_62 rfl ?_
            refine J_bipush C d_Ear_fillZone_64 (v := nI 8) rfl ?_
            refine J_isubN C d_Ear_fillZone_66 (by omega) ?_
            refine J_iload_n C 3 d_Ear_fillZone_67 rfl rfl ?_
            refine P_callS C (as := [.ref (7 + 2 * (q i)), .int (nI (k - 8)), .int (nI pt)]) (st := []) (p_pointerWith l D dA M (q i) (k - 8) pt (em i) hqb hpk.2.2.2 (by omega) (by omega) (by omega)) l_Ear_59 s_Ear_pointerWith rfl (by decide) (by decide) (by decide) (Nat.le_of_ble_eq_true rfl) d_Ear_fillZone_68 (kk := ?_)
            refine J_istore_n C 3 d_Ear_fillZone_71 rfl (by decide) rfl ?_
            have hgg : ∀ x, x < ln i → M 4 (bkO M (q i) (x / 20) * 20 + x % 20) = X 84 (60 * i + x) := by
              intro x hx
              have e1 : bkO M (q i) (x / 20) = bk i (x / 20) := by unfold bkO; rw [hR.2.2.2.2.2.2.2.2.2.2.2.2.1 i (x / 20) hc30 (by omega), nI_clamp (by have := (hS.2.2.2.2.2.1 i (x / 20) hc30 (by omega)).2; omega)]
              rw [e1]
              exact hR.2.2.2.2.2.2.2.2.2.2.2.2.2 i x hc30 hx
            refine J_aload_n C 0 d_Ear_fillZone_72 rfl rfl ?_
            refine J_aload C d_Ear_fillZone_73 rfl ?_
            refine J_iload C d_Ear_fillZone_75 rfl ?_
            refine J_aload_n C 2 d_Ear_fillZone_77 rfl rfl ?_
            refine F_callV C (as := [.ref (7 + 2 * (q i)), .int (nI k), .ref 3]) (st := []) (f_emitPart l D dA M (q i) k (em i) (ln i) (bkO M (q i)) (fun x => X 84 (60 * i + x)) hqb (by omega) (by omega) hl60.2.2 hpk.2.2.2 hpk.2.1 (fun x hx => ((hR.2.2.2.2.2.2.2.2.2.2.1 (q i) hqb).b hx).1) (fun x hx => ((hR.2.2.2.2.2.2.2.2.2.2.1 (q i) hqb).b hx).2) hgg) l_Ear_63 v_Ear_emitPart (by decide) (e_73 _) rfl (by decide) (by decide) (Nat.le_of_ble_eq_true rfl) d_Ear_fillZone_78 (kk := ?_)
            rw [hm]
            refine J_istore C d_Ear_fillZone_81 (by decide) rfl ?_
            refine J_iinc C d_Ear_fillZone_83 rfl (v := nI (i + 1)) (nI_1 _) (by decide) rfl ?_
            refine J_goto C 24 d_Ear_fillZone_86 (by decide) ?_
            have hm1 : 1 ≤ m9 := by omega
            have hmk : k + m9 ≤ 30 := by omega
            have hml : em i + m9 ≤ ln i := by omega
            have e0 := hS.e hc30
            rw [flM_emit hc30 hl60.2.2 m9 (30 - k) k so pX X hm1 (by omega) hpar hl60.1 (by rw [e0]; exact hle.1) (by rw [e0]; omega), e0, show 30 - k - m9 = 30 - (k + m9) by omega] at hF
            have hS2 := hS.emRt (k := k) hc30 hml
            have hR2 := hR.emRt hS (k := k) hc30 hml (fun x => X 84 (60 * i + x))
            have hfa2 : ∀ y, y < k + m9 → y ≠ 6 → y ≠ 7 → fEmP (fun x => X 84 (60 * i + x)) (q i) m9 k (em i) M 74 y = emR i m9 k X 87 y := by
              intro y y1 y2 y3
              rw [fEmP_74, emR_87 _ _ _ _ _ (by omega), e0]
              by_cases z : k ≤ y ∧ y < k + m9
              · rw [if_pos z, if_pos z]
              · rw [if_neg z, if_neg z]; exact hfa y (by omega) y2 y3
            have hfb2 : ∀ y, k + m9 ≤ y → y < 30 → fEmP (fun x => X 84 (60 * i + x)) (q i) m9 k (em i) M 74 y = nI 85 := by
              intro y y1 y2
              rw [fEmP_74, if_neg (by omega)]
              exact hfb y (by omega) y2
            have hfr2 : ∀ p0, p0 ≠ 74 → (∀ j, j < 24 → p0 ≠ 7 + 2 * j) → fEmP (fun x => X 84 (60 * i + x)) (q i) m9 k (em i) M p0 = M0 p0 := by
              intro p0 a b
              rw [fEmP_p _ _ _ _ _ _ a (b _ hqb)]
              exact hfr p0 a b
            have hZ2 : FZ c0 ln bk q M0 (i + 1) (k + m9) (fEmP (fun x => X 84 (60 * i + x)) (q i) m9 k (em i) M) (emR i m9 k X) := ⟨_, hS2, hR2, fun x a b => by rw [ex1_n _ _ (by omega)]; exact hlt x (by omega) b, hfa2, hfb2, hfr2⟩
            have hF2 : flM c0 (nI w) (30 - (k + m9)) (k + m9) (i + 1) (if em i = 0 then (if pX < 0 then nI (k - 8) else pX) else pX) 1 (emR i m9 k X) = X9 := by
              by_cases z : k + m9 = 30
              · rw [show 30 - (k + m9) = 0 by omega] at hF ⊢; exact hF
              · rw [flM_skip (by omega) hc30 (Or.inr (by rw [(hS2.2.2.2.2.1 i hc30).1, ex1_c, (hS2.2.2.2.1 i hc30).1, show em i + m9 = ln i by omega]))] at hF
                exact hF
            refine J_lv (lv' := [some (.ref 73), some (.int (nI w)), some (.ref 3), some (.int (nI (PtW pt (k - 8) (em i)))), some (.int (nI (k + m9))), some (.int (nI (i + 1))), none]) (by intro i v hv; match i, hv with | 0, hv => exact hv | 1, hv => exact hv | 2, hv => exact hv | 3, hv => exact hv | 4, hv => exact hv | 5, hv => exact hv | 6, hv => simp at hv | _ + 7, hv => simp at hv) ?_
            exact ih (i + 1) (k + m9) _ 1 _ _ _ (by omega) (by omega) (by omega) hmk (hPT.step h8 (by omega)) hZ2 hF2
  refine J_aload_n C 0 d_Ear_fillZone_0 rfl rfl ?_
  refine J_get C f_Ear_11 (by decide) (e_73 _) rfl d_Ear_fillZone_1 ?_
  refine J_bipush C d_Ear_fillZone_4 (v := nI 8) rfl ?_
  refine J_bipush C d_Ear_fillZone_6 (v := nI 30) rfl ?_
  refine J_bipush C d_Ear_fillZone_8 (v := nI 85) rfl ?_
  refine F_callS C (as := [.ref 74, .int (nI 8), .int (nI 30), .int (nI 85)]) (st := []) (f_fill l D dA M0) l_Ear_40 s_Arr_fill rfl (by decide) (by decide) (Nat.le_of_ble_eq_true rfl) d_Ear_fillZone_10 (kk := ?_)
  refine J_sipush C d_Ear_fillZone_13 (v := nI 2046) rfl ?_
  refine J_istore_n C 3 d_Ear_fillZone_16 rfl (by decide) rfl ?_
  refine J_bipush C d_Ear_fillZone_17 (v := nI 8) rfl ?_
  refine J_istore C d_Ear_fillZone_19 (by decide) rfl ?_
  refine J_iconst C d_Ear_fillZone_21 (v := nI 0) rfl ?_
  refine J_istore C d_Ear_fillZone_22 (by decide) rfl ?_
  exact lp (c0 + 1) 0 8 2046 0 (-1) _ X0 (by omega) (by omega) (by omega) (by omega) (Or.inl ⟨rfl, rfl, rfl⟩) ⟨em, hS, hR.f74 hc24 (fun p0 a => fFil_p _ _ _ _ a) (fun _ _ => rfl), fun x _ b => hel x b, fun y a b c => by rw [fFil_74, if_neg (by omega)]; exact hhd y (by omega), fun y a b => by rw [fFil_74, if_pos (by omega)], fun p0 a b => fFil_p _ _ _ _ a⟩ hX9
