theorem EL.se {X Y : Mem} (h : EL X) (e : SE Y X) : EL Y := by
  have hc := e.c1
  obtain ⟨a1, a2, a3, a4, a5, a6, a7, a8, a9, a10, a11⟩ := e
  intro ho i hi
  rw [a8, a11]
  exact h (a1.symm.trans ho) i (by rw [← hc]; exact hi)
theorem EL.out {X : Mem} (h : ¬ X 76 3 = 0) : EL X := fun z => absurd z h
theorem EL.keep {c0 : Nat} {ln em : Nat → Nat} {bk : Nat → Nat → Nat} {X : Mem} {src at0 n : Nat} (h : XSv c0 ln em bk X) (hE : EL X) (ho : X 76 3 = 0) (h7 : 7 ≤ n) (h60 : n ≤ 60) (hr : (n + 19) / 20 ≤ cntF (uX X) 24) (hs1 : src ≠ 76) (hs2 : src ≠ 84) (hs3 : src ≠ 85) (hb : ∀ k, k < n → ∃ v, v < 256 ∧ X src (at0 + k) = nI v) : EL (fKeep X src at0 n) := by
  have hlt := h.EL hE ho
  rw [fKeep_eq h]
  unfold fKp1
  by_cases z1 : scX X c0 n 76 3 = 0
  · rw [if_pos z1]
    by_cases z2 : fJrM (scX X c0 n) 76 3 = 0
    · rw [if_pos z2]
      obtain ⟨v, hv, hi⟩ := scX_new hr z1
      have B := (fKeep_B h h7 h60 hr hs1 hs2 hs3 hb v hv hi).1
      intro _ i hi2
      rw [B.c] at hi2
      rw [(B.2.2.2.1 i hi2).1, (B.2.2.2.2.1 i hi2).1]
      have l := (B.2.2.2.1 i hi2).2
      intro q
      have q2 := (nI_eq (by have := (B.2.2.2.2.1 i hi2).2; omega) (by omega)).mp q
      by_cases w : i = c0
      · subst w
        rw [ex1_c, ex1_c] at q2
        omega
      · rw [ex1_n _ _ w, ex1_n _ _ w] at q2
        have := hlt i (by omega)
        omega
    · rw [if_neg z2]; exact EL.out z2
  · rw [if_neg z1]; exact EL.out z1
theorem EL.pkI (g : Nat → Nat) (en : Nat) (hg2 : ∀ i, i < en → g i < 256) : ∀ (f i : Nat) (X : Mem), XS X → EL X → (∀ i, i < en → X 78 i = nI (g i)) → EL (fPkI g en f i X)
  | 0, _, _, _, h, _ => h
  | f + 1, i, X, hX, h, hg => by
    have hge := PlaM_ge g i en
    unfold fPkI
    by_cases h0 : PlaM g i en = 0
    · rw [if_pos h0]; exact h
    · rw [if_neg h0]
      by_cases h1 : X 76 3 = 0
      · rw [if_pos h1]
        by_cases h2 : (PlaM g i en + 19) / 20 ≤ cntF (uX X) 24
        · rw [if_pos h2]
          obtain ⟨c0, ln, em, bk, hS⟩ := hX
          have hb : ∀ k, k < PlaM g i en → ∃ v, v < 256 ∧ X 78 (i + k) = nI v := fun k hk => ⟨g (i + k), hg2 _ (by omega), hg _ (by omega)⟩
          exact EL.pkI g en hg2 f _ _ (hS.keep (by omega) (by omega) h2 (by decide) (by decide) (by decide) hb) (EL.keep hS h h1 (by omega) (by omega) h2 (by decide) (by decide) (by decide) hb) (fun i hi => by rw [fKeep_p _ _ _ _ (by decide) (by decide) (by decide) (by decide) (by decide) (by decide)]; exact hg i hi)
        · rw [if_neg h2]
          exact EL.pkI g en hg2 f _ _ hX h hg
      · rw [if_neg h1]; exact h
theorem EL.pIn {X : Mem} {g : Nat → Nat} {en : Nat} (hX : XS X) (h : EL X) (hg : ∀ i, i < en → X 78 i = nI (g i)) (hg2 : ∀ i, i < en → g i < 256) (sq : Int32) : EL (fPIn X g en sq) := by
  unfold fPIn
  (repeat' split)
  · exact EL.pkI g en hg2 _ _ _ hX h hg
  · exact h
  · exact EL.pkI g en hg2 _ _ _ hX h hg
theorem EL.p79 {X : Mem} (h : EL X) (j : Nat) (v : Int32) : EL (mu X 79 j v) := h.se (SE.mu1 _ _ (by decide) (by decide) (by decide) (by decide) (by decide) (by decide))
theorem EL.p80 {X : Mem} (h : EL X) (j : Nat) (v : Int32) : EL (mu X 80 j v) := h.se (SE.mu1 _ _ (by decide) (by decide) (by decide) (by decide) (by decide) (by decide))
theorem EL.goLt {X : Mem} (h : EL X) (j r i pl : Nat) : EL (goL j r i pl X) := h.se ⟨by rw [goL_p _ _ _ _ _ (by decide) (by decide)], by rw [goL_p _ _ _ _ _ (by decide) (by decide)], by rw [goL_p _ _ _ _ _ (by decide) (by decide)], by rw [goL_p _ _ _ _ _ (by decide) (by decide)], by rw [goL_p _ _ _ _ _ (by decide) (by decide)], by rw [goL_p _ _ _ _ _ (by decide) (by decide)], goL_p _ _ _ _ _ (by decide) (by decide), goL_p _ _ _ _ _ (by decide) (by decide), goL_p _ _ _ _ _ (by decide) (by decide), goL_p _ _ _ _ _ (by decide) (by decide), goL_p _ _ _ _ _ (by decide) (by decide)⟩
theorem EL.sgX {X : Mem} {g : Nat → Nat} {en : Nat} {sq : Int32} (hX : XS X) (h : EL X) (hT : XSt X) (ho : X 76 3 = 0) (h8 : 8 ≤ en) (hen : en ≤ 67) (hg : ∀ i, i < en → X 78 i = nI (g i)) (hg2 : ∀ i, i < en → g i < 256) : EL (fSgX X g en sq) := by
  have hge := PlaM_ge g 9 en
  unfold fSgX fSeg
  by_cases h0 : en = 8
  · rw [if_pos h0]; exact h
  rw [if_neg h0]
  by_cases h1 : 3 < g 8 % 64
  · rw [if_pos h1]; exact h
  rw [if_neg h1]
  generalize g 8 % 64 = j at *
  by_cases h2 : g 8 / 64 = 3
  · rw [if_pos h2]
    unfold fSg3
    by_cases h3 : PlaM g 9 en = en - 9
    · rw [if_pos h3]
      by_cases h4 : PlaM g 9 en = 0
      · rw [if_pos h4]; exact h.p79 _ _
      · rw [if_neg h4]
        by_cases h5 : cntF (uX X) 24 < (PlaM g 9 en + 19) / 20
        · rw [if_pos h5]; exact h.p79 _ _
        · rw [if_neg h5]
          obtain ⟨c0, ln, em, bk, hS⟩ := hX
          exact (EL.keep hS h ho (by omega) (by omega) (by omega) (by decide) (by decide) (by decide) (fun k hk => ⟨g (9 + k), hg2 _ (by omega), hg _ (by omega)⟩)).p79 _ _
    · rw [if_neg h3]; exact h.p79 _ _
  rw [if_neg h2]
  by_cases h3 : g 8 / 64 = 1
  · rw [if_pos h3]
    unfold segM1
    exact ((h.p79 _ _).p80 _ _).goLt _ _ _ _
  rw [if_neg h3]
  by_cases h4 : g 8 / 64 = 2
  · rw [if_pos h4]
    unfold segM2
    by_cases h5 : X 79 j = 0
    · rw [if_pos h5]; exact h.p79 _ _
    rw [if_neg h5]
    by_cases h6 : pX X j + (en - 9) ≤ 60
    · rw [if_pos h6]
      have hsg := segN_ge X en j
      have hb := ((hT j (by omega)).2 h5).2.2
      have hG : XS (mu (segG X en j) 79 j (nI 0)) := (hX.goLt _ _ _ _).p79 _ _
      have hEG : EL (mu (segG X en j) 79 j (nI 0)) := (h.goLt _ _ _ _).p79 _ _
      have hoG : mu (segG X en j) 79 j (nI 0) 76 3 = 0 := by rw [mu_p _ _ _ (by decide)]; unfold segG; rw [goL_p _ _ _ _ _ (by decide) (by decide)]; exact ho
      unfold fSg2
      by_cases h7 : segN X en j = 0
      · rw [if_pos h7]; exact hEG
      rw [if_neg h7]
      by_cases h8 : segN X en j = pX X j + (en - 9)
      · rw [if_pos h8]
        by_cases h9 : cntF (uX (mu (segG X en j) 79 j (nI 0))) 24 < (segN X en j + 19) / 20
        · rw [if_pos h9]; exact (hEG.p79 _ _).p80 _ _
        · rw [if_neg h9]
          obtain ⟨c0, ln, em, bk, hS⟩ := hG
          refine EL.keep hS hEG hoG (by omega) (by omega) (by omega) (by decide) (by decide) (by decide) (fun k hk => ?_)
          rw [mu_p _ _ _ (by decide)]
          exact goL_bytes hb (by omega) hg hg2 _ (by omega) (by omega)
      · rw [if_neg h8]; exact hEG
    · rw [if_neg h6]; exact h.p79 _ _
  rw [if_neg h4]
  unfold fGo
  by_cases h5 : X 79 j = 0
  · rw [if_pos h5]; exact h.p79 _ _
  rw [if_neg h5]
  by_cases h6 : pX X j + (en - 9) ≤ 60
  · rw [if_pos h6]; exact h.goLt _ _ _ _
  · rw [if_neg h6]; exact h.p79 _ _
theorem EL.tk {X : Mem} {g : Nat → Nat} {t : Nat} (hA : XA X) (h : EL X) (ho : X 76 3 = 0) (h5 : 5 ≤ t) (h64 : t ≤ 64) (hg : ∀ i, i < 3 + t → X 78 i = nI (g i)) (hg2 : ∀ i, i < 3 + t → g i < 256) : EL (fTk X g t) := by
  have hAE : XA (mu X 76 11 (nI ((kX X + 1) % 8))) := hA.c (by omega)
  have hE : EL (mu X 76 11 (nI ((kX X + 1) % 8))) := h.se (SE.k _ (by decide) (by decide) (by decide) (by decide) (by decide) (by decide))
  have h10 : ∀ (Y : Mem) (al : Int32) (vv : Nat), EL Y → EL (fTk3 Y al vv) := fun Y al vv q => q.se (fTk3_se _ _ _)
  unfold fTk fTkE fTkS
  (repeat' split)
  · exact h
  · exact h.se (fDir_se _ _ _ _)
  · exact h
  · exact EL.pIn hAE.1 hE hg hg2 _
  · exact EL.sgX hAE.1 hE hAE.2.1 ho (by omega) (by omega) hg hg2
  · exact hE
  · exact h10 _ _ _ (EL.pIn hA.1 h hg hg2 _)
  · exact h10 _ _ _ (EL.sgX hA.1 h hA.2.1 ho (by omega) (by omega) hg hg2)
  · exact h10 _ _ _ h
  · exact h.se (SE.k _ (by decide) (by decide) (by decide) (by decide) (by decide) (by decide))
  · exact h
  · exact h
  · exact h
theorem lv_se (X : Mem) (b : Nat) : SE (lvX X b) X := by
  unfold SE
  rw [lvX_k _ _ (by decide), lvX_k _ _ (by decide), lvX_k _ _ (by decide), lvX_k _ _ (by decide), lvX_k _ _ (by decide), lvX_k _ _ (by decide), lvX_p _ _ (by decide) (by decide), lvX_p _ _ (by decide) (by decide), lvX_p _ _ (by decide) (by decide), lvX_p _ _ (by decide) (by decide), lvX_p _ _ (by decide) (by decide)]
  exact SE.refl X
/-- what a byte leaves as it was, and that no packet is wholly emitted -/
theorem by_keep : ∀ (f : Nat) (X : Mem), nX X < f → XA X → XW X → EL X → EL (byM f X) ∧ byM f X 77 = X 77 ∧ byM f X 87 = X 87 ∧ byM f X 88 = X 88 ∧ byM f X 76 25 = X 76 25 ∧ byM f X 76 1 = X 76 1 ∧ byM f X 76 0 = X 76 0
  | 0, _, h, _, _, _ => absurd h (Nat.not_lt_zero _)
  | f + 1, X, h, hA, hW, hE => by
    unfold byM
    by_cases h0 : lkX X = 0
    · rw [if_pos h0]; exact ⟨hE, rfl, rfl, rfl, rfl, rfl, rfl⟩
    rw [if_neg h0]
    have hn := LookM_n h0
    by_cases h1 : X 76 3 = 0
    · rw [if_pos h1]
      by_cases h2 : lkX X = nI 1
      · rw [if_pos h2]
        have q := by_keep f _ (by rw [nX_lv _ _ hW.2.1]; omega) (hA.lv 1) (hW.lv (by omega)) (hE.se (lv_se _ _))
        rw [lvX_p _ _ (by decide) (by decide), lvX_p _ _ (by decide) (by decide), lvX_p _ _ (by decide) (by decide), lvX_k _ _ (by decide), lvX_k _ _ (by decide), lvX_k _ _ (by decide)] at q
        exact q
      · rw [if_neg h2]
        have hb := tdX_b h0 h2
        have g1 : ∀ i, i < 3 + tdX X → X 78 i = nI (wX X i) := fun i hi => (hW.2.2 i (by omega)).1
        have g2 : ∀ i, i < 3 + tdX X → wX X i < 256 := fun i hi => (hW.2.2 i (by omega)).2
        have q := by_keep f (lvX (fTk X (wX X) (tdX X)) (tdX X + 7)) (by rw [nX_lv _ _ (by rw [nX_tk]; exact hW.2.1), nX_tk]; omega) ((hA.tk hb.1 hb.2.1 g1 g2).lv _) ((hW.tk _ _).lv (by omega)) ((EL.tk hA hE h1 hb.1 hb.2.1 g1 g2).se (lv_se _ _))
        rw [lvX_p _ _ (by decide) (by decide), lvX_p _ _ (by decide) (by decide), lvX_p _ _ (by decide) (by decide), lvX_k _ _ (by decide), lvX_k _ _ (by decide), lvX_k _ _ (by decide)] at q
        rw [fTk_p _ _ _ (by decide) (by decide) (by decide) (by decide) (by decide) (by decide) (by decide) (by decide) (by decide), fTk_p _ _ _ (by decide) (by decide) (by decide) (by decide) (by decide) (by decide) (by decide) (by decide) (by decide), fTk_p _ _ _ (by decide) (by decide) (by decide) (by decide) (by decide) (by decide) (by decide) (by decide) (by decide), fTk_k _ _ _ (by decide) (by decide) (by decide) (by decide) (by decide) (by decide) (by decide) (by decide) (by decide) (by decide) (by decide), fTk_k _ _ _ (by decide) (by decide) (by decide) (by decide) (by decide) (by decide) (by decide) (by decide) (by decide) (by decide) (by decide), fTk_k _ _ _ (by decide) (by decide) (by decide) (by decide) (by decide) (by decide) (by decide) (by decide) (by decide) (by decide) (by decide)] at q
        exact q
    · rw [if_neg h1]; exact ⟨hE, rfl, rfl, rfl, rfl, rfl, rfl⟩
theorem rc_keep (p0 : Int32) : ∀ (i : Nat) (X : Mem), XA X → XW X → (X 76 3 = 0 → nX X ≤ 70) → EL X → EL (rcM p0 i X) ∧ rcM p0 i X 77 = X 77 ∧ rcM p0 i X 87 = X 87 ∧ rcM p0 i X 88 = X 88 ∧ rcM p0 i X 76 25 = X 76 25 ∧ rcM p0 i X 76 1 = X 76 1 ∧ rcM p0 i X 76 0 = X 76 0
  | 0, X, _, _, _, hE => ⟨hE, rfl, rfl, rfl, rfl, rfl, rfl⟩
  | i + 1, X, hA, hW, h70, hE => by
    unfold rcM
    by_cases h1 : X 76 3 = 0
    · rw [if_pos h1]
      have hnl : nX (putX X (nI (byt p0 i))) < 72 := by rw [nX_put _ hW.2.1]; have := h70 h1; omega
      have q := byM_inv 72 (putX X (nI (byt p0 i))) hnl (hA.put _) (hW.put (h70 h1) (byt_eq p0 i).2)
      have k := by_keep 72 (putX X (nI (byt p0 i))) hnl (hA.put _) (hW.put (h70 h1) (byt_eq p0 i).2) (hE.se ⟨rfl, rfl, rfl, rfl, rfl, rfl, rfl, rfl, rfl, rfl, rfl⟩)
      have r := rc_keep p0 i _ q.1 q.2.1 q.2.2 k.1
      exact ⟨r.1, r.2.1.trans k.2.1, r.2.2.1.trans k.2.2.1, r.2.2.2.1.trans k.2.2.2.1, r.2.2.2.2.1.trans k.2.2.2.2.1, r.2.2.2.2.2.1.trans k.2.2.2.2.2.1, r.2.2.2.2.2.2.trans k.2.2.2.2.2.2⟩
    · rw [if_neg h1]; exact ⟨hE, rfl, rfl, rfl, rfl, rfl, rfl⟩
