set_option maxHeartbeats 4000000 in
set_option maxRecDepth 100000 in
theorem k_dropEmitted (l : Launch) (D : va_G) (dA : Nat → ClassId) (M0 X X9 : Mem) (hSR : SR M0 X) (hX9 : dpM 60 0 X = X9) : CM l D dA k_Sto_dropEmitted 4 [.ref 3] M0 (fun v M' => v = none ∧ SR M' X9 ∧ ∀ p0, p0 ≠ 3 → p0 ≠ 5 → p0 ≠ 6 → M' p0 = M0 p0) := by
  refine CM.of (by decide +kernel) (Nat.le_of_ble_eq_true rfl) (by intro v hv; simp only [List.mem_cons, List.not_mem_nil, or_false] at hv; rcases hv with rfl <;> rfl) ?_
  intro A ad0 p e s m args below meth c C hr
  have hcn : M0 3 3 = nI (cX X) := by obtain ⟨c0, ln, em, bk, q, hS, hR⟩ := hSR; rw [hS.c]; exact hR.1
  have hc24 : cX X ≤ 24 := by obtain ⟨c0, ln, em, bk, q, hS, hR⟩ := hSR; rw [hS.c]; exact hS.2.1
  have hout : ∀ (X : Mem) (fu i lf : Nat) (M : Mem), lf ≤ 24 → SR M X → ¬ X 76 3 = 0 → (∀ p0, p0 ≠ 3 → p0 ≠ 5 → p0 ≠ 6 → M p0 = M0 p0) → dpM fu i X = X9 → J D dA A (fun _ _ => True) ad0 90 k_Sto_dropEmitted.2.2.1 p l e (zR 4 0 0) s m args below meth c (KQ D dA A ad0 below args s (fun v M' => v = none ∧ SR M' X9 ∧ ∀ p0, p0 ≠ 3 → p0 ≠ 5 → p0 ≠ 6 → M' p0 = M0 p0)) 7 [some (.ref 3), some (.int (nI i)), some (.int (nI lf))] [] (E M) 90 0 0 := by
    intro X fu i lf M hlf hSR hoX hfr hF
    refine J_iload_n C 2 d_Sto_dropEmitted_7 rfl rfl ?_
    refine J_ifN_le C 60 d_Sto_dropEmitted_8 (by decide) (by omega) (fun hc8 => ?_) (fun hc8 => ?_)
    · refine KK_ret C hr ?_ d_Sto_dropEmitted_60
      have hF2 : X = X9 := by cases fu with
        | zero => exact hF
        | succ fu =>
          unfold dpM at hF
          by_cases w : i < cX X
          · rw [if_pos w, if_neg hoX] at hF; exact hF
          · rw [if_neg w] at hF; exact hF
      rw [← hF2]
      exact ⟨rfl, hSR, hfr⟩
    · obtain ⟨c0, ln, em, bk, q, hS, hR⟩ := hSR
      refine J_aload_n C 0 d_Sto_dropEmitted_11 rfl rfl ?_
      refine J_get C f_Sto_42 (by decide) (e_3 _) rfl d_Sto_dropEmitted_12 ?_
      refine J_if_ne C 60 d_Sto_dropEmitted_15 (by decide) (fun hc15 => ?_) (fun hc15 => absurd hc15 (by rw [hR.2.2.2.2.2.2.1]; exact hoX))
      refine KK_ret C hr ?_ d_Sto_dropEmitted_60
      have hF2 : X = X9 := by cases fu with
        | zero => exact hF
        | succ fu =>
          unfold dpM at hF
          by_cases w : i < cX X
          · rw [if_pos w, if_neg hoX] at hF; exact hF
          · rw [if_neg w] at hF; exact hF
      rw [← hF2]
      exact ⟨rfl, ⟨c0, ln, em, bk, q, hS, hR⟩, hfr⟩
  have lp : ∀ (fu i lf : Nat) (M X : Mem), 2 * (cX X - i) + (if X 76 3 = 0 then 1 else 0) < fu → SR M X → lf = cX X - i → lf ≤ 24 → (∀ p0, p0 ≠ 3 → p0 ≠ 5 → p0 ≠ 6 → M p0 = M0 p0) → dpM fu i X = X9 → J D dA A (fun _ _ => True) ad0 90 k_Sto_dropEmitted.2.2.1 p l e (zR 4 0 0) s m args below meth c (KQ D dA A ad0 below args s (fun v M' => v = none ∧ SR M' X9 ∧ ∀ p0, p0 ≠ 3 → p0 ≠ 5 → p0 ≠ 6 → M' p0 = M0 p0)) 7 [some (.ref 3), some (.int (nI i)), some (.int (nI lf))] [] (E M) 90 0 0 := by
    intro fu
    induction fu with
    | zero => intro i lf M X hfu; exact absurd hfu (Nat.not_lt_zero _)
    | succ fu ih =>
      intro i lf M X hm hSR hlf hlf24 hfr hF
      refine J_iload_n C 2 d_Sto_dropEmitted_7 rfl rfl ?_
      refine J_ifN_le C 60 d_Sto_dropEmitted_8 (by decide) (by omega) (fun hc8 => ?_) (fun hc8 => ?_)
      · refine KK_ret C hr ?_ d_Sto_dropEmitted_60
        unfold dpM at hF
        rw [if_neg (by omega)] at hF
        rw [← hF]
        exact ⟨rfl, hSR, hfr⟩
      · obtain ⟨c0, ln, em, bk, q, hS, hR⟩ := hSR
        have hcc := hS.c
        have hc24 := hS.2.1
        have hic : i < c0 := by omega
        have hqi := hR.2.2.2.2.2.2.2.2.1 i (by omega)
        have hpk := hR.2.2.2.2.2.2.2.2.2.2.2.1 i hic
        refine J_aload_n C 0 d_Sto_dropEmitted_11 rfl rfl ?_
        refine J_get C f_Sto_42 (by decide) (e_3 _) rfl d_Sto_dropEmitted_12 ?_
        refine J_if_ne C 60 d_Sto_dropEmitted_15 (by decide) (fun hc15 => ?_) (fun hc15 => ?_)
        · refine KK_ret C hr ?_ d_Sto_dropEmitted_60
          have hoX : ¬ X 76 3 = 0 := by rw [← hR.2.2.2.2.2.2.1]; exact hc15
          unfold dpM at hF
          rw [if_pos (by omega), if_neg hoX] at hF
          rw [← hF]
          exact ⟨rfl, ⟨c0, ln, em, bk, q, hS, hR⟩, hfr⟩
        · refine J_aload_n C 0 d_Sto_dropEmitted_18 rfl rfl ?_
          refine J_get C f_Sto_19 (by decide) (e_3 _) rfl d_Sto_dropEmitted_19 ?_
          refine J_iload_n C 1 d_Sto_dropEmitted_22 rfl rfl ?_
          have hqb := hqi.2
          have hle := (hS.2.2.2.2.1 i hic)
          have hl60 := (hS.2.2.2.1 i hic)
          refine K_pkld C (j := i) (x := q i) rfl (by omega) hqi.1 (by omega) d_Sto_dropEmitted_23 ?_
          refine J_get C f_Sto_50 (by omega) (e_pk _ (by omega)) rfl d_Sto_dropEmitted_24 ?_
          refine J_val (y := nI (em i)) hpk.2.2.2 ?_
          refine J_aload_n C 0 d_Sto_dropEmitted_27 rfl rfl ?_
          refine J_get C f_Sto_19 (by decide) (e_3 _) rfl d_Sto_dropEmitted_28 ?_
          refine J_iload_n C 1 d_Sto_dropEmitted_31 rfl rfl ?_
          refine K_pkld C (j := i) (x := q i) rfl (by omega) hqi.1 (by omega) d_Sto_dropEmitted_32 ?_
          refine J_get C f_Sto_61 (by omega) (e_pk _ (by omega)) rfl d_Sto_dropEmitted_33 ?_
          refine J_val (y := nI (ln i)) hpk.2.1 ?_
          refine J_icmpN_ne C 51 d_Sto_dropEmitted_36 (by decide) (by omega) (by omega) (fun hc36 => ?_) (fun hc36 => ?_)
          · refine J_iinc C d_Sto_dropEmitted_51 rfl (v := nI (i + 1)) (nI_1 _) (by decide) rfl ?_
            refine J_iinc C d_Sto_dropEmitted_54 rfl (v := nI (lf - 1)) (by obtain ⟨y, rfl⟩ : ∃ y, lf = y + 1 := ⟨lf - 1, by omega⟩; exact pk_m1 y) (by decide) rfl ?_
            refine J_goto C 7 d_Sto_dropEmitted_57 (by decide) ?_
            have hoX : X 76 3 = 0 := by rw [← hR.2.2.2.2.2.2.1]; exact hc15
            unfold dpM at hF
            rw [if_pos (by omega), if_pos hoX, if_neg (by rw [hle.1, hl60.1]; exact fun z => hc36 ((nI_eq (by omega) (by omega)).mp z))] at hF
            exact ih (i + 1) (lf - 1) M X (by rw [if_pos hoX] at hm ⊢; omega) ⟨c0, ln, em, bk, q, hS, hR⟩ (by omega) (by omega) hfr hF
          · refine J_aload_n C 0 d_Sto_dropEmitted_39 rfl rfl ?_
            refine F_callV C (as := []) (st := []) (f_renew l D dA M) l_Sto_71 v_Sto_renewFullJournal (by decide) (e_3 _) rfl (by decide) (by decide) (Nat.le_of_ble_eq_true rfl) d_Sto_dropEmitted_40 (kk := ?_)
            refine J_aload_n C 0 d_Sto_dropEmitted_43 rfl rfl ?_
            refine J_iload_n C 1 d_Sto_dropEmitted_44 rfl rfl ?_
            refine F_callV C (as := [.int (nI i)]) (st := []) (f_enterDropped l D dA (fRen M) (q i) (ln i) (cntF (uX X) 24) (bk i) (hR.2.2.2.2.2.2.2.2.1 i (by omega)).2 (by rw [fRen_p _ (by omega)]; exact (hR.2.2.2.2.2.2.2.2.2.2.2.1 i hic).2.1) (hS.2.2.2.1 i hic).2.2 (fun k hk => by rw [fRen_p _ (by omega)]; exact hR.2.2.2.2.2.2.2.2.2.2.2.2.1 i k hic (by omega)) (fun k hk => (hS.2.2.2.2.2.1 i k hic (by omega)).2) (by rw [fRen_k _ (by decide) (by decide) (by decide) (by decide)]; exact hR.2.1) (cntF_le (uX_le X) 24) q i c0 hic hS.2.1 (fun k hk => by rw [fRen_p _ (by decide)]; exact (hR.2.2.2.2.2.2.2.2.1 k hk).1) (fun k hk => (hR.2.2.2.2.2.2.2.2.1 k hk).2) rfl (by rw [fRen_k _ (by decide) (by decide) (by decide) (by decide)]; exact hR.1)) l_Sto_78 v_Sto_enterDropped (by decide) (e_3 _) rfl (by decide) (by decide) (Nat.le_of_ble_eq_true rfl) d_Sto_dropEmitted_45 (kk := ?_)
            refine J_goto C 54 d_Sto_dropEmitted_48 (by decide) ?_
            refine J_iinc C d_Sto_dropEmitted_54 rfl (v := nI (lf - 1)) (by obtain ⟨y, rfl⟩ : ∃ y, lf = y + 1 := ⟨lf - 1, by omega⟩; exact pk_m1 y) (by decide) rfl ?_
            refine J_goto C 7 d_Sto_dropEmitted_57 (by decide) ?_
            have hoX : X 76 3 = 0 := by rw [← hR.2.2.2.2.2.2.1]; exact hc15
            unfold dpM at hF
            rw [if_pos (by omega), if_pos hoX, if_pos (by rw [hle.1, hl60.1, hc36])] at hF
            have hd := XS.drop hS (i := i) hic
            have hrel := drop_rel hR hS hoX hic
            rcases hd.2 with z | z
            · exact ih i (lf - 1) _ (fDropM X i) (by rw [if_pos hoX] at hm; rw [z]; split <;> omega) hrel (by omega) (by omega) (fun p0 a b c => by rw [fED_p _ _ _ _ _ _ _ _ a b c, fRen_p _ a]; exact hfr p0 a b c) hF
            · refine hout (fDropM X i) fu i (lf - 1) _ (by omega) hrel z.2 ?_ hF
              exact fun p0 a b c => by rw [fED_p _ _ _ _ _ _ _ _ a b c, fRen_p _ a]; exact hfr p0 a b c
  refine J_iconst C d_Sto_dropEmitted_0 (v := nI 0) rfl ?_
  refine J_istore_n C 1 d_Sto_dropEmitted_1 rfl (by decide) rfl ?_
  refine J_aload_n C 0 d_Sto_dropEmitted_2 rfl rfl ?_
  refine J_get C f_Sto_23 (by decide) (e_3 _) rfl d_Sto_dropEmitted_3 ?_
  refine J_val (y := nI (cX X)) hcn ?_
  refine J_istore_n C 2 d_Sto_dropEmitted_6 rfl (by decide) rfl ?_
  exact lp 60 0 (cX X) M0 X (by split <;> omega) hSR (by omega) hc24 (fun _ _ _ _ => rfl) hX9
