theorem XS.eq {X Y : Mem} (h : XS X) (h15 : Y 76 15 = X 76 15) (h3 : Y 76 3 = X 76 3) (h83 : Y 83 = X 83) (h84 : Y 84 = X 84) (h85 : Y 85 = X 85) (h86 : Y 86 = X 86) : XS Y := by
  obtain ⟨c0, ln, em, bk, hS⟩ := h
  exact ⟨c0, ln, em, bk, hS.same h15 (by rw [h3]; exact hS.2.2.1) (fun i _ => by rw [h83]) (fun i _ => by rw [h86]) (fun i _ => by rw [h85]) (fun i _ => by rw [h84])⟩
theorem XSt.eq {X Y : Mem} (h : XSt X) (h79 : Y 79 = X 79) (h80 : Y 80 = X 80) (h81 : Y 81 = X 81) : XSt Y := by
  unfold XSt pX at h ⊢
  rw [h79, h80, h81]
  exact h
theorem XSt.upd {X Y : Mem} (h : XSt X) (j : Nat) (h79 : ∀ x, x ≠ j → Y 79 x = X 79 x) (h80 : ∀ x, x ≠ j → Y 80 x = X 80 x) (h81 : ∀ x k, x ≠ j → k < 60 → Y 81 (60 * x + k) = X 81 (60 * x + k)) (hz : Y 79 j = 0 ∨ Y 79 j = 1) (hY : ¬ Y 79 j = 0 → ∃ pl, pl ≤ 60 ∧ Y 80 j = nI pl ∧ ∀ k, k < pl → ∃ v, v < 256 ∧ Y 81 (60 * j + k) = nI v) : XSt Y := by
  intro x hx
  by_cases hxj : x = j
  · subst hxj
    refine ⟨hz, fun q => ?_⟩
    obtain ⟨pl, h1, h2, h3⟩ := hY q
    have e : pX Y x = pl := by unfold pX; rw [h2, nI_clamp (by omega)]
    rw [e]
    exact ⟨h2, h1, h3⟩
  · have e : pX Y x = pX X x := by unfold pX; rw [h80 x hxj]
    rw [h79 x hxj, h80 x hxj, e]
    have h0 := h x hx
    refine ⟨h0.1, fun q => ⟨(h0.2 q).1, (h0.2 q).2.1, fun k hk => ?_⟩⟩
    rw [h81 x k hxj (by have := (h0.2 q).2.1; omega)]
    exact (h0.2 q).2.2 k hk
theorem XSt.off {X : Mem} (h : XSt X) (j : Nat) : XSt (mu X 79 j (nI 0)) :=
  h.upd j (fun x hx => mu_k _ _ _ hx) (fun x _ => by rw [mu_p _ _ _ (by decide)]) (fun x k _ _ => by rw [mu_p _ _ _ (by decide)]) (Or.inl (mu_same _ _ _ _)) (fun q => absurd (mu_same _ _ _ _) q)
theorem XSt.k76 {X : Mem} (h : XSt X) (k : Nat) (v : Int32) : XSt (mu X 76 k v) := h.eq (mu_p _ _ _ (by decide)) (mu_p _ _ _ (by decide)) (mu_p _ _ _ (by decide))
theorem XSt.keep {X : Mem} (h : XSt X) (src at0 n : Nat) : XSt (fKeep X src at0 n) := h.eq (fKeep_p _ _ _ _ (by decide) (by decide) (by decide) (by decide) (by decide) (by decide)) (fKeep_p _ _ _ _ (by decide) (by decide) (by decide) (by decide) (by decide) (by decide)) (fKeep_p _ _ _ _ (by decide) (by decide) (by decide) (by decide) (by decide) (by decide))
theorem XS.p79 {X : Mem} (h : XS X) (j : Nat) (v : Int32) : XS (mu X 79 j v) := h.eq (by rw [mu_p _ _ _ (by decide)]) (by rw [mu_p _ _ _ (by decide)]) (mu_p _ _ _ (by decide)) (mu_p _ _ _ (by decide)) (mu_p _ _ _ (by decide)) (mu_p _ _ _ (by decide))
theorem XS.p80 {X : Mem} (h : XS X) (j : Nat) (v : Int32) : XS (mu X 80 j v) := h.eq (by rw [mu_p _ _ _ (by decide)]) (by rw [mu_p _ _ _ (by decide)]) (mu_p _ _ _ (by decide)) (mu_p _ _ _ (by decide)) (mu_p _ _ _ (by decide)) (mu_p _ _ _ (by decide))
theorem XS.goLt {X : Mem} (h : XS X) (j r i pl : Nat) : XS (goL j r i pl X) := h.eq (by rw [goL_p _ _ _ _ _ (by decide) (by decide)]) (by rw [goL_p _ _ _ _ _ (by decide) (by decide)]) (goL_p _ _ _ _ _ (by decide) (by decide)) (goL_p _ _ _ _ _ (by decide) (by decide)) (goL_p _ _ _ _ _ (by decide) (by decide)) (goL_p _ _ _ _ _ (by decide) (by decide))
theorem XS.pkI (g : Nat → Nat) (en : Nat) (hg2 : ∀ i, i < en → g i < 256) : ∀ (f i : Nat) (X : Mem), XS X → (∀ i, i < en → X 78 i = nI (g i)) → XS (fPkI g en f i X)
  | 0, _, _, h, _ => h
  | f + 1, i, X, h, hg => by
    have hge := PlaM_ge g i en
    unfold fPkI
    by_cases h0 : PlaM g i en = 0
    · rw [if_pos h0]; exact h
    · rw [if_neg h0]
      by_cases h1 : X 76 3 = 0
      · rw [if_pos h1]
        by_cases h2 : (PlaM g i en + 19) / 20 ≤ cntF (uX X) 24
        · rw [if_pos h2]
          obtain ⟨c0, ln, em, bk, hS⟩ := h
          exact XS.pkI g en hg2 f _ _ (hS.keep (by omega) (by omega) h2 (by decide) (by decide) (by decide) (fun k hk => ⟨g (i + k), hg2 _ (by omega), hg _ (by omega)⟩)) (fun i hi => by rw [fKeep_p _ _ _ _ (by decide) (by decide) (by decide) (by decide) (by decide) (by decide)]; exact hg i hi)
        · rw [if_neg h2]
          exact XS.pkI g en hg2 f _ _ h hg
      · rw [if_neg h1]; exact h
theorem XS.pIn {X : Mem} {g : Nat → Nat} {en : Nat} (h : XS X) (hg : ∀ i, i < en → X 78 i = nI (g i)) (hg2 : ∀ i, i < en → g i < 256) (sq : Int32) : XS (fPIn X g en sq) := by
  unfold fPIn
  (repeat' split)
  · exact XS.pkI g en hg2 _ _ _ h hg
  · exact h
  · exact XS.pkI g en hg2 _ _ _ h hg
theorem XSt.pIn {X : Mem} {g : Nat → Nat} {en : Nat} (h : XSt X) (sq : Int32) : XSt (fPIn X g en sq) := h.eq (fPIn_p _ _ _ _ (by decide) (by decide) (by decide) (by decide) (by decide) (by decide)) (fPIn_p _ _ _ _ (by decide) (by decide) (by decide) (by decide) (by decide) (by decide)) (fPIn_p _ _ _ _ (by decide) (by decide) (by decide) (by decide) (by decide) (by decide))
theorem goL_st {X : Mem} {g : Nat → Nat} {j en pl : Nat} (h : XSt X) (hj : j < 4) (hb : ¬ X 79 j = 0) (hpl : X 80 j = nI pl) (h60 : pl + (en - 9) ≤ 60) (h9 : 9 ≤ en) (hby : ∀ k, k < pl → ∃ v, v < 256 ∧ X 81 (60 * j + k) = nI v) (hg : ∀ i, i < en → X 78 i = nI (g i)) (hg2 : ∀ i, i < en → g i < 256) : XSt (goL j (en - 9) 9 pl X) :=
  h.upd j (fun x hx => by rw [goL_p _ _ _ _ _ (by decide) (by decide)]) (fun x hx => goL_80n _ _ _ _ _ hx) (fun x k hx hk => by rw [goL_81, if_neg (by intro q; rcases Nat.lt_or_gt_of_ne hx with h1 | h1 <;> omega)]) (by rw [goL_p _ _ _ _ _ (by decide) (by decide)]; exact (h j hj).1) (fun _ => ⟨pl + (en - 9), h60, goL_80 _ _ _ _ _ hpl, fun k hk => goL_bytes hby h9 hg hg2 _ (by omega) (by omega)⟩)
section ZSG
variable {X : Mem} {g : Nat → Nat} {en : Nat} {sq : Int32}
theorem segN_ge (X : Mem) (en j : Nat) : segN X en j = 0 ∨ (7 ≤ segN X en j ∧ segN X en j ≤ 60 ∧ 60 * j + segN X en j ≤ 60 * j + (pX X j + (en - 9))) := PlaM_ge _ _ _
theorem XS.sgX (h : XS X) (hT : XSt X) (h8 : 8 ≤ en) (hen : en ≤ 67) (hg : ∀ i, i < en → X 78 i = nI (g i)) (hg2 : ∀ i, i < en → g i < 256) : XS (fSgX X g en sq) := by
  have hge := PlaM_ge g 9 en
  unfold fSgX fSeg
  by_cases h0 : en = 8
  · rw [if_pos h0]; exact h
  rw [if_neg h0]
  by_cases h1 : 3 < g 8 % 64
  · rw [if_pos h1]; exact h
  rw [if_neg h1]
  generalize g 8 % 64 = j at *
  by_cases h2 : g 8 / 64 = 3
  · rw [if_pos h2]
    unfold fSg3
    by_cases h3 : PlaM g 9 en = en - 9
    · rw [if_pos h3]
      by_cases h4 : PlaM g 9 en = 0
      · rw [if_pos h4]; exact h.p79 _ _
      · rw [if_neg h4]
        by_cases h5 : cntF (uX X) 24 < (PlaM g 9 en + 19) / 20
        · rw [if_pos h5]; exact h.p79 _ _
        · rw [if_neg h5]
          obtain ⟨c0, ln, em, bk, hS⟩ := h
          exact (hS.keep (by omega) (by omega) (by omega) (by decide) (by decide) (by decide) (fun k hk => ⟨g (9 + k), hg2 _ (by omega), hg _ (by omega)⟩)).p79 _ _
    · rw [if_neg h3]; exact h.p79 _ _
  rw [if_neg h2]
  by_cases h3 : g 8 / 64 = 1
  · rw [if_pos h3]
    unfold segM1
    exact ((h.p79 _ _).p80 _ _).goLt _ _ _ _
  rw [if_neg h3]
  by_cases h4 : g 8 / 64 = 2
  · rw [if_pos h4]
    unfold segM2
    by_cases h5 : X 79 j = 0
    · rw [if_pos h5]; exact h.p79 _ _
    rw [if_neg h5]
    by_cases h6 : pX X j + (en - 9) ≤ 60
    · rw [if_pos h6]
      have hsg := segN_ge X en j
      have hb := ((hT j (by omega)).2 h5).2.2
      have hG : XS (mu (segG X en j) 79 j (nI 0)) := (h.goLt _ _ _ _).p79 _ _
      unfold fSg2
      by_cases h7 : segN X en j = 0
      · rw [if_pos h7]; exact hG
      rw [if_neg h7]
      by_cases h8 : segN X en j = pX X j + (en - 9)
      · rw [if_pos h8]
        by_cases h9 : cntF (uX (mu (segG X en j) 79 j (nI 0))) 24 < (segN X en j + 19) / 20
        · rw [if_pos h9]; exact (hG.p79 _ _).p80 _ _
        · rw [if_neg h9]
          obtain ⟨c0, ln, em, bk, hS⟩ := hG
          refine hS.keep (by omega) (by omega) (by omega) (by decide) (by decide) (by decide) (fun k hk => ?_)
          rw [mu_p _ _ _ (by decide)]
          exact goL_bytes hb (by omega) hg hg2 _ (by omega) (by omega)
      · rw [if_neg h8]; exact hG
    · rw [if_neg h6]; exact h.p79 _ _
  rw [if_neg h4]
  unfold fGo
  by_cases h5 : X 79 j = 0
  · rw [if_pos h5]; exact h.p79 _ _
  rw [if_neg h5]
  by_cases h6 : pX X j + (en - 9) ≤ 60
  · rw [if_pos h6]; exact h.goLt _ _ _ _
  · rw [if_neg h6]; exact h.p79 _ _
theorem XSt.sgX (hT : XSt X) (h8 : 8 ≤ en) (hen : en ≤ 67) (hsq : sq = 0 ∨ sq = 1) (hg : ∀ i, i < en → X 78 i = nI (g i)) (hg2 : ∀ i, i < en → g i < 256) : XSt (fSgX X g en sq) := by
  unfold fSgX fSeg
  by_cases h0 : en = 8
  · rw [if_pos h0]; exact hT
  rw [if_neg h0]
  by_cases h1 : 3 < g 8 % 64
  · rw [if_pos h1]; exact hT
  rw [if_neg h1]
  generalize g 8 % 64 = j at *
  have hj : j < 4 := by omega
  by_cases h2 : g 8 / 64 = 3
  · rw [if_pos h2]
    unfold fSg3
    by_cases h3 : PlaM g 9 en = en - 9
    · rw [if_pos h3]
      by_cases h4 : PlaM g 9 en = 0
      · rw [if_pos h4]; exact hT.off _
      · rw [if_neg h4]
        by_cases h5 : cntF (uX X) 24 < (PlaM g 9 en + 19) / 20
        · rw [if_pos h5]
          by_cases h6 : sq = 0
          · rw [if_pos h6]; exact hT.off _
          · rw [if_neg h6]
            by_cases h7 : X 79 j = 0
            · rw [if_pos h7]; exact hT.off _
            · rw [if_neg h7]
              refine hT.upd j (fun x hx => mu_k _ _ _ hx) (fun x _ => by rw [mu_p _ _ _ (by decide)]) (fun x k _ _ => by rw [mu_p _ _ _ (by decide)]) (Or.inr (mu_same _ _ _ _)) (fun _ => ⟨pX X j, ((hT j hj).2 h7).2.1, ?_, fun k hk => ?_⟩)
              · rw [mu_p _ _ _ (by decide)]; exact ((hT j hj).2 h7).1
              · rw [mu_p _ _ _ (by decide)]; exact ((hT j hj).2 h7).2.2 k hk
        · rw [if_neg h5]
          exact (hT.keep _ _ _).off _
    · rw [if_neg h3]; exact hT.off _
  rw [if_neg h2]
  by_cases h3 : g 8 / 64 = 1
  · rw [if_pos h3]
    unfold segM1
    have hY : XSt (mu (mu X 79 j (nI 1)) 80 j (nI 0)) := hT.upd j (fun x hx => by rw [mu_p _ _ _ (by decide), mu_k _ _ _ hx]) (fun x hx => by rw [mu_k _ _ _ hx, mu_p _ _ _ (by decide)]) (fun x k _ _ => by rw [mu_p _ _ _ (by decide), mu_p _ _ _ (by decide)]) (by rw [mu_p _ _ _ (by decide), mu_same]; exact Or.inr rfl) (fun _ => ⟨0, by omega, mu_same _ _ _ _, fun k hk => absurd hk (by omega)⟩)
    exact goL_st hY hj (by rw [mu_p _ _ _ (by decide), mu_same]; decide) (mu_same _ _ _ _) (by omega) (by omega) (fun k hk => absurd hk (by omega)) hg hg2
  rw [if_neg h3]
  by_cases h4 : g 8 / 64 = 2
  · rw [if_pos h4]
    unfold segM2
    by_cases h5 : X 79 j = 0
    · rw [if_pos h5]; exact hT.off _
    rw [if_neg h5]
    by_cases h6 : pX X j + (en - 9) ≤ 60
    · rw [if_pos h6]
      obtain ⟨hb0, hb1, hb⟩ := (hT j hj).2 h5
      have hG0 : XSt (segG X en j) := goL_st hT hj h5 hb0 h6 (by omega) hb hg hg2
      have hG := hG0.off j
      unfold fSg2
      by_cases h7 : segN X en j = 0
      · rw [if_pos h7]; exact hG
      rw [if_neg h7]
      by_cases h8 : segN X en j = pX X j + (en - 9)
      · rw [if_pos h8]
        by_cases h9 : cntF (uX (mu (segG X en j) 79 j (nI 0))) 24 < (segN X en j + 19) / 20
        · rw [if_pos h9]
          refine hG.upd j (fun x hx => by rw [mu_p _ _ _ (by decide), mu_k _ _ _ hx]) (fun x hx => by rw [mu_k _ _ _ hx, mu_p _ _ _ (by decide)]) (fun x k _ _ => by rw [mu_p _ _ _ (by decide), mu_p _ _ _ (by decide)]) (by rw [mu_p _ _ _ (by decide), mu_same]; exact hsq) (fun _ => ⟨pX X j, hb1, by rw [mu_same]; exact hb0, fun k hk => ?_⟩)
          rw [mu_p _ _ _ (by decide), mu_p _ _ _ (by decide), mu_p _ _ _ (by decide), segG, goL_81, if_neg (by omega)]
          exact hb k hk
        · rw [if_neg h9]; exact hG.keep _ _ _
      · rw [if_neg h8]; exact hG
    · rw [if_neg h6]; exact hT.off _
  rw [if_neg h4]
  unfold fGo
  by_cases h5 : X 79 j = 0
  · rw [if_pos h5]; exact hT.off _
  rw [if_neg h5]
  by_cases h6 : pX X j + (en - 9) ≤ 60
  · rw [if_pos h6]
    obtain ⟨hb0, hb1, hb⟩ := (hT j hj).2 h5
    exact goL_st hT hj h5 hb0 h6 (by omega) hb hg hg2
  · rw [if_neg h6]; exact hT.off _
end ZSG
theorem XI.of {X : Mem} (h9 : ∃ v, v < 256 ∧ X 76 9 = nI v) (h11 : ∃ k, k < 8 ∧ X 76 11 = nI k) : XI X := by
  obtain ⟨v, h1, h2⟩ := h9
  obtain ⟨k, h3, h4⟩ := h11
  have e1 : vX X = v := by unfold vX; rw [h2, nI_clamp (by omega)]
  have e2 : kX X = k := by unfold kX; rw [h4, nI_clamp (by omega)]
  unfold XI
  rw [e1, e2]
  exact ⟨h2, h1, h4, h3⟩
theorem XI.v {X : Mem} (h : XI X) : ∃ v, v < 256 ∧ X 76 9 = nI v := ⟨vX X, h.2.1, h.1⟩
theorem XI.k {X : Mem} (h : XI X) : ∃ k, k < 8 ∧ X 76 11 = nI k := ⟨kX X, h.2.2.2, h.2.2.1⟩
/-- the reference between two bytes -/
def XA (X : Mem) : Prop := XS X ∧ XSt X ∧ XI X ∧ ¬ (X 77 1).toInt64 = 0
theorem XI.eq {X Y : Mem} (h : XI X) (h9 : Y 76 9 = X 76 9) (h11 : Y 76 11 = X 76 11) : XI Y := XI.of (by rw [h9]; exact h.v) (by rw [h11]; exact h.k)
