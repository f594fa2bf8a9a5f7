theorem nI_ne_m1 {b : Nat} (h : b < 2 ^ 31) : ¬ nI b = -1 := fun q => nI_pos h (by rw [q]; decide)
def ex1 {α : Type} (f : Nat → α) (c0 : Nat) (x : α) : Nat → α := fun i => if i = c0 then x else f i
theorem ex1_c {α : Type} (f : Nat → α) (c0 : Nat) (x : α) : ex1 f c0 x c0 = x := if_pos rfl
theorem ex1_n {α : Type} (f : Nat → α) {c0 i : Nat} (x : α) (h : i ≠ c0) : ex1 f c0 x i = f i := if_neg h
theorem fKp0_p (X : Mem) (c0 : Nat) {p : Nat} (h : p ≠ 85) : fKp0 X c0 p = X p := by unfold fKp0; rw [mu_p _ _ _ h, mu_p _ _ _ h, mu_p _ _ _ h]
theorem fKp0_lo (X : Mem) (c0 : Nat) {q : Nat} (h : q < 3 * c0) : fKp0 X c0 85 q = X 85 q := by unfold fKp0; rw [mu_k _ _ _ (by omega), mu_k _ _ _ (by omega), mu_k _ _ _ (by omega)]
theorem fKp0_hi (X : Mem) (c0 : Nat) {j : Nat} (h : j < 3) : fKp0 X c0 85 (3 * c0 + j) = -1 := by
  unfold fKp0
  rcases (show j = 0 ∨ j = 1 ∨ j = 2 by omega) with rfl | rfl | rfl
  · rw [mu_k _ _ _ (by omega), mu_k _ _ _ (by omega), mu_same]
  · rw [mu_k _ _ _ (by omega), mu_same]
  · rw [mu_same]
theorem fKp3_p (X : Mem) (c0 n : Nat) {p : Nat} (h1 : p ≠ 76) (h2 : p ≠ 82) (h3 : p ≠ 83) (h4 : p ≠ 86) : fKp3 X c0 n p = X p := by
  unfold fKp3; rw [fWrM_p _ h1, mu_p _ _ _ h1, mu_p _ _ _ h1, mu_p _ _ _ h4, mu_p _ _ _ h3, mu_p _ _ _ h2]
theorem fKp3_82 (X : Mem) (c0 n : Nat) : fKp3 X c0 n 82 = upd (X 82) c0 (X 76 21) := by unfold fKp3; rw [fWrM_p _ (by decide)]; rfl
theorem fKp3_83 (X : Mem) (c0 n : Nat) : fKp3 X c0 n 83 = upd (X 83) c0 (nI n) := by unfold fKp3; rw [fWrM_p _ (by decide)]; rfl
theorem fKp3_86 (X : Mem) (c0 n : Nat) : fKp3 X c0 n 86 = upd (X 86) c0 (nI 0) := by unfold fKp3; rw [fWrM_p _ (by decide)]; rfl
theorem fKp3_15 (X : Mem) (c0 n : Nat) : fKp3 X c0 n 76 15 = nI (c0 + 1) := by unfold fKp3; rw [fWrM_k _ (by decide) (by decide) (by decide)]; rfl
theorem fKp3_21 (X : Mem) (c0 n : Nat) : fKp3 X c0 n 76 21 = X 76 21 + nI 1 := by unfold fKp3; rw [fWrM_k _ (by decide) (by decide) (by decide)]; rfl
theorem fKp3_k (X : Mem) (c0 n : Nat) {x : Nat} (h1 : x ≠ 3) (h2 : x ≠ 4) (h3 : x ≠ 23) (h4 : x ≠ 15) (h5 : x ≠ 21) : fKp3 X c0 n 76 x = X 76 x := by
  unfold fKp3; rw [fWrM_k _ h1 h2 h3, mu_k _ _ _ h4, mu_k _ _ _ h5]; rfl
theorem fKp3_o (X : Mem) (c0 n : Nat) (h : X 76 3 = 0 ∨ X 76 3 = 1) : fKp3 X c0 n 76 3 = 0 ∨ fKp3 X c0 n 76 3 = 1 := fWrM_o _ h
theorem fKeep_p (X : Mem) (src at0 n : Nat) {p : Nat} (h1 : p ≠ 76) (h2 : p ≠ 82) (h3 : p ≠ 83) (h4 : p ≠ 84) (h5 : p ≠ 85) (h6 : p ≠ 86) : fKeep X src at0 n p = X p := by
  unfold fKeep fKp1 fKp2
  (repeat' split)
  · rw [fKp3_p _ _ _ h1 h2 h3 h6, cpX_p _ _ _ _ _ _ _ h4, mu_p _ _ _ h1, fJrM_p _ h1, scB_p _ _ _ _ _ _ _ h1 h5, fKp0_p _ _ h5]
  · rw [fJrM_p _ h1, scB_p _ _ _ _ _ _ _ h1 h5, fKp0_p _ _ h5]
  · rw [scB_p _ _ _ _ _ _ _ h1 h5, fKp0_p _ _ h5]
theorem fKeep_k (X : Mem) (src at0 n : Nat) {x : Nat} (h1 : x ≠ 3) (h2 : x ≠ 4) (h3 : x ≠ 23) (h4 : x ≠ 15) (h5 : x ≠ 21) (h6 : x ≠ 22) : fKeep X src at0 n 76 x = X 76 x := by
  unfold fKeep fKp1 fKp2
  (repeat' split)
  · rw [fKp3_k _ _ _ h1 h2 h3 h4 h5, cpX_p _ _ _ _ _ _ _ (by decide), mu_k _ _ _ h6, fJrM_k _ h1 h2 h6 h3, scB_k _ _ _ _ _ _ _ h1 h2 h3, fKp0_p _ _ (by decide)]
  · rw [fJrM_k _ h1 h2 h6 h3, scB_k _ _ _ _ _ _ _ h1 h2 h3, fKp0_p _ _ (by decide)]
  · rw [scB_k _ _ _ _ _ _ _ h1 h2 h3, fKp0_p _ _ (by decide)]
section ZKP
variable {c0 : Nat} {ln em : Nat → Nat} {bk : Nat → Nat → Nat} {X : Mem} {n src at0 : Nat}
/-- the reference's store when the blocks have been chosen -/
def scX (X : Mem) (c0 n : Nat) : Mem := scB (uX X) c0 n 24 0 0 (fKp0 X c0)
theorem scX_o (h : XSv c0 ln em bk X) : scX X c0 n 76 3 = 0 ∨ scX X c0 n 76 3 = 1 := scB_o _ _ _ _ _ _ _ (by rw [fKp0_p _ _ (by decide)]; exact h.2.2.1)
theorem scX_p {p : Nat} (h1 : p ≠ 76) (h5 : p ≠ 85) : scX X c0 n p = X p := by unfold scX; rw [scB_p _ _ _ _ _ _ _ h1 h5, fKp0_p _ _ h5]
theorem scX_k {x : Nat} (h1 : x ≠ 3) (h2 : x ≠ 4) (h3 : x ≠ 23) : scX X c0 n 76 x = X 76 x := by unfold scX; rw [scB_k _ _ _ _ _ _ _ h1 h2 h3, fKp0_p _ _ (by decide)]
theorem scX_lo {q : Nat} (h : q < 3 * c0) : scX X c0 n 85 q = X 85 q := by unfold scX; rw [scB_85 _ _ _ _ _ _ _ (by omega), fKp0_lo _ _ h]
theorem scX_hi {j : Nat} (h : (n + 19) / 20 ≤ j) (h3 : j < 3) : scX X c0 n 85 (3 * c0 + j) = -1 := by unfold scX; rw [scB_85 _ _ _ _ _ _ _ (by omega), fKp0_hi _ _ h3]
theorem scX_new (hr : (n + 19) / 20 ≤ cntF (uX X) 24) (ho : scX X c0 n 76 3 = 0) : ∃ v : Nat → Nat, (∀ j, j < (n + 19) / 20 → scX X c0 n 85 (3 * c0 + j) = nI (v j) ∧ v j < 24 ∧ uX X (v j) = 1) ∧ (∀ i j, i < j → j < (n + 19) / 20 → v i < v j) := by
  obtain ⟨v, a1, a2⟩ := scB_new (uX X) (uX_le X) c0 n 24 0 0 (fKp0 X c0) (by omega) (by show _ + 0 ≤ 0 + _; omega) ho
  exact ⟨v, fun j hj => ⟨(a1 j (by omega) hj).1, (a1 j (by omega) hj).2.2⟩, fun i j h1 h2 => a2 i j (by omega) h1 h2⟩
theorem fKeep_eq (h : XSv c0 ln em bk X) : fKeep X src at0 n = fKp1 (scX X c0 n) c0 n src at0 := by unfold fKeep scX; rw [h.c]
theorem XSv.scX (h : XSv c0 ln em bk X) : XSv c0 ln em bk (scX X c0 n) :=
  h.same (scX_k (by decide) (by decide) (by decide)) (scX_o h) (fun i _ => by rw [scX_p (by decide) (by decide)]) (fun i _ => by rw [scX_p (by decide) (by decide)]) (fun q hq => scX_lo hq) (fun q _ => by rw [scX_p (by decide) (by decide)])
theorem XSv.jr (h : XSv c0 ln em bk X) : XSv c0 ln em bk (fJrM X) :=
  h.same (fJrM_k _ (by decide) (by decide) (by decide) (by decide)) (fJrM_o _ h.2.2.1) (fun i _ => by rw [fJrM_p _ (by decide)]) (fun i _ => by rw [fJrM_p _ (by decide)]) (fun q _ => by rw [fJrM_p _ (by decide)]) (fun q _ => by rw [fJrM_p _ (by decide)])
theorem fKp2_84 (hs : src ≠ 76) (hs2 : src ≠ 84) (y : Nat) : fKp2 X c0 n src at0 84 y = if 60 * c0 ≤ y ∧ y < 60 * c0 + n then X src (at0 + (y - 60 * c0)) else X 84 y := by
  unfold fKp2
  rw [fKp3_p _ _ _ (by decide) (by decide) (by decide) (by decide), cpX_to _ _ _ _ hs2, mu_p _ _ _ hs, mu_p _ _ _ (by decide)]
  rfl
theorem fKp2_85 : fKp2 X c0 n src at0 85 = X 85 := by
  unfold fKp2
  rw [fKp3_p _ _ _ (by decide) (by decide) (by decide) (by decide), cpX_p _ _ _ _ _ _ _ (by decide), mu_p _ _ _ (by decide)]
theorem fKp2_83 : fKp2 X c0 n src at0 83 = upd (X 83) c0 (nI n) := by
  unfold fKp2
  rw [fKp3_83, cpX_p _ _ _ _ _ _ _ (by decide), mu_p _ _ _ (by decide)]
theorem fKp2_86 : fKp2 X c0 n src at0 86 = upd (X 86) c0 (nI 0) := by
  unfold fKp2
  rw [fKp3_86, cpX_p _ _ _ _ _ _ _ (by decide), mu_p _ _ _ (by decide)]
theorem fKp2_82 : fKp2 X c0 n src at0 82 = upd (X 82) c0 (X 76 21) := by
  unfold fKp2
  rw [fKp3_82, cpX_p _ _ _ _ _ _ _ (by decide), cpX_p _ _ _ _ _ _ _ (by decide), mu_p _ _ _ (by decide), mu_k _ _ _ (by decide)]
theorem fKp2_15 : fKp2 X c0 n src at0 76 15 = nI (c0 + 1) := by unfold fKp2; rw [fKp3_15]
theorem fKp2_21 : fKp2 X c0 n src at0 76 21 = X 76 21 + nI 1 := by
  unfold fKp2
  rw [fKp3_21, cpX_p _ _ _ _ _ _ _ (by decide), mu_k _ _ _ (by decide)]
theorem fKp2_22 : fKp2 X c0 n src at0 76 22 = X 76 22 + nI 1 := by
  unfold fKp2
  rw [fKp3_k _ _ _ (by decide) (by decide) (by decide) (by decide) (by decide), cpX_p _ _ _ _ _ _ _ (by decide), mu_same]
theorem fKp2_o (h : X 76 3 = 0 ∨ X 76 3 = 1) : fKp2 X c0 n src at0 76 3 = 0 ∨ fKp2 X c0 n src at0 76 3 = 1 := by
  unfold fKp2
  refine fKp3_o _ _ _ ?_
  rw [cpX_p _ _ _ _ _ _ _ (by decide), mu_k _ _ _ (by decide)]
  exact h
theorem fKeep_B (h : XSv c0 ln em bk X) (h7 : 7 ≤ n) (h60 : n ≤ 60) (hr : (n + 19) / 20 ≤ cntF (uX X) 24) (hs1 : src ≠ 76) (hs2 : src ≠ 84) (hs3 : src ≠ 85) (hb : ∀ k, k < n → ∃ v, v < 256 ∧ X src (at0 + k) = nI v) (v : Nat → Nat)
    (hv : ∀ j, j < (n + 19) / 20 → scX X c0 n 85 (3 * c0 + j) = nI (v j) ∧ v j < 24 ∧ uX X (v j) = 1) (hi : ∀ i j, i < j → j < (n + 19) / 20 → v i < v j) :
    XSv (c0 + 1) (ex1 ln c0 n) (ex1 em c0 0) (ex1 bk c0 v) (fKp2 (fJrM (scX X c0 n)) c0 n src at0) ∧ ∀ b, b < 24 → uX (fKp2 (fJrM (scX X c0 n)) c0 n src at0) b = mkU (uX X) v 0 ((n + 19) / 20) b := by
  have hroom := h.room
  have h2 := (h.scX (n := n)).jr
  have hc := h.c
  have e85 : fKp2 (fJrM (scX X c0 n)) c0 n src at0 85 = scX X c0 n 85 := by rw [fKp2_85, fJrM_p _ (by decide)]
  have hcZ : cX (fKp2 (fJrM (scX X c0 n)) c0 n src at0) = c0 + 1 := cX_nI fKp2_15 (by omega)
  have hu : ∀ b, b < 24 → uX (fKp2 (fJrM (scX X c0 n)) c0 n src at0) b = mkU (uX X) v 0 ((n + 19) / 20) b := by
    intro b hb24
    by_cases hex : ∃ j, j < (n + 19) / 20 ∧ b = v j
    · obtain ⟨j, hj, rfl⟩ := hex
      rw [mkU_eq hj]
      exact uX_0 ⟨3 * c0 + j, by omega, by rw [e85]; exact (hv j hj).1⟩
    · rw [mkU_ne (fun j hj q => hex ⟨j, hj, q⟩)]
      rcases (show uX X b = 0 ∨ uX X b = 1 by have := uX_le X b; omega) with q | q
      · rw [q]
        obtain ⟨x, hx, hy⟩ := uX_0' q
        exact uX_0 ⟨x, by omega, by rw [e85, scX_lo (by omega)]; exact hy⟩
      · rw [q]
        refine uX_1 (fun x hx => ?_)
        rw [e85]
        rcases Nat.lt_or_ge x (3 * c0) with hx2 | hx2
        · rw [scX_lo hx2]
          exact uX_1' q x (by omega)
        · obtain ⟨j, rfl⟩ : ∃ j, x = 3 * c0 + j := ⟨x - 3 * c0, by omega⟩
          rcases Nat.lt_or_ge j ((n + 19) / 20) with hj | hj
          · rw [(hv j hj).1]
            intro q2
            exact hex ⟨j, hj, ((nI_eq (by have := (hv j hj).2.1; omega) (by omega)).mp q2).symm⟩
          · rw [scX_hi hj (by omega)]
            exact fun q2 => nI_ne_m1 (show b < 2 ^ 31 by omega) q2.symm
  refine ⟨⟨fKp2_15, by omega, fKp2_o h2.2.2.1, ?_, ?_, ?_, ?_, ?_, ?_, ?_⟩, hu⟩
  · intro i hi2
    rw [fKp2_83, fJrM_p _ (by decide), scX_p (by decide) (by decide)]
    by_cases h1 : i = c0
    · subst h1
      rw [ex1_c]
      exact ⟨by simp [upd], h7, h60⟩
    · rw [ex1_n _ _ h1]
      simp only [upd, h1, if_false]
      exact h.2.2.2.1 i (by omega)
  · intro i hi2
    rw [fKp2_86, fJrM_p _ (by decide), scX_p (by decide) (by decide)]
    by_cases h1 : i = c0
    · subst h1
      rw [ex1_c, ex1_c]
      exact ⟨by simp [upd], by omega⟩
    · rw [ex1_n _ _ h1, ex1_n _ _ h1]
      simp only [upd, h1, if_false]
      exact h.2.2.2.2.1 i (by omega)
  · intro i k hi2 hk
    rw [e85]
    by_cases h1 : i = c0
    · subst h1
      rw [ex1_c] at hk
      rw [ex1_c]
      exact ⟨(hv k hk).1, (hv k hk).2.1⟩
    · rw [ex1_n _ _ h1] at hk
      rw [ex1_n _ _ h1]
      have := (h.2.2.2.1 i (by omega)).2.2
      rw [scX_lo (by omega)]
      exact h.2.2.2.2.2.1 i k (by omega) hk
  · intro i k hi2 hk hk3
    rw [e85]
    by_cases h1 : i = c0
    · subst h1
      rw [ex1_c] at hk
      exact scX_hi hk hk3
    · rw [ex1_n _ _ h1] at hk
      rw [scX_lo (by omega)]
      exact h.2.2.2.2.2.2.1 i k (by omega) hk hk3
  · have hfree : ∀ i k, i < c0 → k < (ln i + 19) / 20 → uX X (bk i k) = 0 := fun i k q1 q2 => by
      have := (h.2.2.2.1 i q1).2.2
      exact uX_0 ⟨3 * i + k, by omega, (h.2.2.2.2.2.1 i k q1 q2).1⟩
    intro i k i' k' q1 q2 q3 q4 q5
    by_cases h1 : i = c0 <;> by_cases h1' : i' = c0
    · subst h1; subst h1'
      rw [ex1_c] at q3 q4
      rw [ex1_c] at q5
      refine ⟨rfl, ?_⟩
      rcases Nat.lt_trichotomy k k' with h3 | h3 | h3
      · exact absurd q5 (Nat.ne_of_lt (hi k k' h3 q4))
      · exact h3
      · exact absurd q5 (Nat.ne_of_gt (hi k' k h3 q3))
    · subst h1
      rw [ex1_n _ _ h1'] at q4
      rw [ex1_c] at q3
      rw [ex1_c, ex1_n _ _ h1'] at q5
      have z1 := (hv k q3).2.2
      rw [q5, hfree i' k' (by omega) q4] at z1
      exact absurd z1 (by decide)
    · subst h1'
      rw [ex1_n _ _ h1] at q3
      rw [ex1_c] at q4
      rw [ex1_c, ex1_n _ _ h1] at q5
      have z1 := (hv k' q4).2.2
      rw [← q5, hfree i k (by omega) q3] at z1
      exact absurd z1 (by decide)
    · rw [ex1_n _ _ h1] at q3 q5
      rw [ex1_n _ _ h1'] at q4 q5
      exact h.2.2.2.2.2.2.2.1 i k i' k' (by omega) (by omega) q3 q4 q5
  · rw [cntF_congr 24 hu]
    have e1 := cntF_mk0 (uX X) v ((n + 19) / 20) (fun j hj => (hv j hj).2) (fun i j q1 q2 => Nat.ne_of_lt (hi i j q1 q2))
    have e2 : fSumB (ex1 ln c0 n) (c0 + 1) = fSumB ln c0 + (n + 20 - 1) / 20 := by
      show fSumB (ex1 ln c0 n) c0 + (ex1 ln c0 n c0 + 20 - 1) / 20 = _
      rw [ex1_c, fSumB_congr c0 (fun i q => ex1_n _ _ (by omega))]
    have e3 := h.2.2.2.2.2.2.2.2.1
    rw [e2]
    omega
  · intro i k hi2 hk
    rw [fKp2_84 hs1 hs2, fJrM_p _ hs1, scX_p hs1 hs3, fJrM_p _ (by decide), scX_p (by decide) (by decide)]
    by_cases h1 : i = c0
    · subst h1
      rw [ex1_c] at hk
      rw [if_pos (by omega), show 60 * i + k - 60 * i = k by omega]
      exact hb k hk
    · rw [ex1_n _ _ h1] at hk
      have := (h.2.2.2.1 i (by omega)).2.2
      rw [if_neg (by omega)]
      exact h.2.2.2.2.2.2.2.2.2 i k (by omega) hk
/-- the store stays a store -/
def XS (X : Mem) : Prop := ∃ (c0 : Nat) (ln em : Nat → Nat) (bk : Nat → Nat → Nat), XSv c0 ln em bk X
theorem XSv.keep (h : XSv c0 ln em bk X) (h7 : 7 ≤ n) (h60 : n ≤ 60) (hr : (n + 19) / 20 ≤ cntF (uX X) 24) (hs1 : src ≠ 76) (hs2 : src ≠ 84) (hs3 : src ≠ 85) (hb : ∀ k, k < n → ∃ v, v < 256 ∧ X src (at0 + k) = nI v) : XS (fKeep X src at0 n) := by
  rw [fKeep_eq h]
  unfold fKp1
  split
  · rename_i ho
    split
    · obtain ⟨v, hv, hi⟩ := scX_new hr ho
      exact ⟨_, _, _, _, (fKeep_B h h7 h60 hr hs1 hs2 hs3 hb v hv hi).1⟩
    · exact ⟨_, _, _, _, h.scX.jr⟩
  · exact ⟨_, _, _, _, h.scX⟩
end ZKP
