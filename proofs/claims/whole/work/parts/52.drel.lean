def SR (M X : Mem) : Prop := ∃ (c0 : Nat) (ln em : Nat → Nat) (bk : Nat → Nat → Nat) (q : Nat → Nat), XSv c0 ln em bk X ∧ CRv c0 ln em bk q M X
theorem fShift_6 (q : Nat → Nat) : ∀ (r k : Nat) (M : Mem) (x : Nat), fShift q r k M 6 x = if k ≤ x ∧ x < k + r then nI (q (x + 1)) else M 6 x
  | 0, k, M, x => by rw [if_neg (by omega)]; rfl
  | r + 1, k, M, x => by
    unfold fShift
    rw [fShift_6 q r (k + 1) _ x]
    by_cases h1 : x = k
    · rw [if_neg (by omega), if_pos (by omega), h1, mu_same]
    · rw [mu_k _ _ _ h1]
      by_cases h2 : k + 1 ≤ x ∧ x < k + 1 + r
      · rw [if_pos h2, if_pos (by omega)]
      · rw [if_neg h2, if_neg (by omega)]
/-- the places of the packets when the packet i has gone -/
def qD (q : Nat → Nat) (i c0 : Nat) : Nat → Nat := fun k => if k < i then q k else if k < c0 - 1 then q (k + 1) else if k = c0 - 1 then q i else q k
theorem qD_lo (q : Nat → Nat) {i c0 k : Nat} (hk : k < c0 - 1) : qD q i c0 k = sh q i k := by
  unfold qD sh
  by_cases h : k < i
  · rw [if_pos h, if_pos h]
  · rw [if_neg h, if_pos hk, if_neg h]
theorem qD_cases (q : Nat → Nat) {i c0 k : Nat} (hi : i < c0) : ∃ k', qD q i c0 k = q k' ∧ ((k < i ∧ k' = k) ∨ (i ≤ k ∧ k < c0 - 1 ∧ k' = k + 1) ∨ (k = c0 - 1 ∧ k' = i) ∨ (c0 ≤ k ∧ k' = k)) := by
  unfold qD
  by_cases h : k < i
  · rw [if_pos h]; exact ⟨k, rfl, Or.inl ⟨h, rfl⟩⟩
  · rw [if_neg h]
    by_cases h2 : k < c0 - 1
    · rw [if_pos h2]; exact ⟨k + 1, rfl, Or.inr (Or.inl ⟨by omega, h2, rfl⟩)⟩
    · rw [if_neg h2]
      by_cases h3 : k = c0 - 1
      · rw [if_pos h3]; exact ⟨i, rfl, Or.inr (Or.inr (Or.inl ⟨h3, rfl⟩))⟩
      · rw [if_neg h3]; exact ⟨k, rfl, Or.inr (Or.inr (Or.inr ⟨by omega, rfl⟩))⟩
section ZDL
variable {c0 : Nat} {ln em : Nat → Nat} {bk : Nat → Nat → Nat} {q : Nat → Nat} {M X : Mem} {i : Nat}
theorem drop_rel (h : CRv c0 ln em bk q M X) (hS : XSv c0 ln em bk X) (ho : X 76 3 = 0) (hi : i < c0) : SR (fED (fRen M) q i c0 (q i) (ln i) (cntF (uX X) 24) (bk i)) (fDropM X i) := by
  have hc24 := hS.2.1
  have hh := h
  obtain ⟨r1, r2, r3, r4, r5, r6, r7, r8, r9, r10, r11, r12, r13, r14⟩ := hh
  have rr := ren_rel M X c0 r1 hS.1 r4 r5 r6 r7 ho
  have hu2 : ∀ b, uX (fJrM X) b = uX X b := uX_same (fJrM_k _ (by decide) (by decide) (by decide) (by decide)) (fun z _ => by rw [fJrM_p _ (by decide)])
  have hl := (hS.2.2.2.1 i hi).2
  have hnb : (ln i + 20 - 1) / 20 = (ln i + 19) / 20 := by omega
  unfold fDropM fED
  rw [hS.c]
  by_cases z : fJrM X 76 3 = 0
  · rw [if_pos z, if_pos (rr.2.2.2.trans z), hnb]
    have D := hS.jr.drop hi
    refine ⟨_, _, _, _, qD q i c0, D.1, ?_⟩
    generalize hY : mu (mu (mkB (mu (fRen M) 3 6 (fRen M 3 6 + nI 1)) (bk i) (nI 0) ((ln i + 19) / 20)) 3 4 (nI (cntF (uX X) 24 + (ln i + 19) / 20))) 3 3 (nI (c0 - 1)) = Y
    have y3 : ∀ {x : Nat}, x ≠ 3 → x ≠ 4 → x ≠ 6 → Y 3 x = fRen M 3 x := fun a1 a2 a3 => by rw [← hY, mu_k _ _ _ a1, mu_k _ _ _ a2, mkB_p _ _ _ _ (by decide), mu_k _ _ _ a3]
    have yp : ∀ {p : Nat}, p ≠ 3 → p ≠ 5 → Y p = M p := fun a1 a2 => by rw [← hY, mu_p _ _ _ a1, mu_p _ _ _ a1, mkB_p _ _ _ _ a2, mu_p _ _ _ a1, fRen_p _ a1]
    have y36 : Y 3 6 = fJrM X 76 22 + nI 1 := by rw [← hY, mu_k _ _ _ (by decide), mu_k _ _ _ (by decide), mkB_p _ _ _ _ (by decide), mu_same, rr.1]
    generalize hV : mu (fShift q (c0 - 1 - i) i Y) 6 (c0 - 1) (nI (q i)) = V
    have vp : ∀ {p : Nat}, p ≠ 6 → V p = Y p := fun a => by rw [← hV, mu_p _ _ _ a, fShift_p _ _ _ _ a]
    have wr := wr_rel V (shM (c0 - 1 - i) i (mu (mu (fJrM X) 76 22 (fJrM X 76 22 + nI 1)) 76 15 (nI (c0 - 1))))
      (by rw [vp (by decide), y3 (by decide) (by decide) (by decide), shM_p _ _ _ (by decide) (by decide) (by decide) (by decide) (by decide), mu_k _ _ _ (by decide), mu_k _ _ _ (by decide)]; exact rr.2.1)
      (by rw [vp (by decide), y3 (by decide) (by decide) (by decide), shM_p _ _ _ (by decide) (by decide) (by decide) (by decide) (by decide), mu_k _ _ _ (by decide), mu_k _ _ _ (by decide)]; exact rr.2.2.1)
      (by rw [vp (by decide), y3 (by decide) (by decide) (by decide), shM_p _ _ _ (by decide) (by decide) (by decide) (by decide) (by decide), mu_k _ _ _ (by decide), mu_k _ _ _ (by decide)]; exact rr.2.2.2)
      (by rw [shM_p _ _ _ (by decide) (by decide) (by decide) (by decide) (by decide), mu_k _ _ _ (by decide), mu_k _ _ _ (by decide)]; exact z)
    have sx : ∀ x, x < c0 - 1 → ∃ y, y < c0 ∧ (∀ {α : Type} (f : Nat → α), sh f i x = f y) := fun x hx => by
      by_cases w : x < i
      · exact ⟨x, by omega, fun f => sh_lo f w⟩
      · exact ⟨x + 1, by omega, fun f => sh_hi f (by omega)⟩
    have fp : ∀ {p : Nat}, p ≠ 3 → p ≠ 5 → p ≠ 6 → fWr V p = M p := fun a b c => by rw [fWr_p _ a, vp c, yp a b]
    refine ⟨?_, ?_, ?_, ?_, wr.1, wr.2.1, wr.2.2, ?_, ?_, ?_, ?_, ?_, ?_, ?_⟩
    · rw [fWr_k _ (by decide) (by decide) (by decide), vp (by decide), ← hY, mu_same]
    · rw [fWr_k _ (by decide) (by decide) (by decide), vp (by decide), ← hY, mu_k _ _ _ (by decide), mu_same, cntF_congr 24 D.2, cntF_mk1 (uX (fJrM X)) (bk i) _ (fun k hk => ⟨(hS.2.2.2.2.2.1 i k hi hk).2, by rw [hu2]; exact hS.used hi hk⟩) (fun j j' q1 q2 q3 => absurd (hS.2.2.2.2.2.2.2.1 i j i j' hi hi (by omega) q2 q3).2 (by omega)), cntF_congr 24 (fun b _ => hu2 b)]
    · rw [fWr_k _ (by decide) (by decide) (by decide), vp (by decide), y3 (by decide) (by decide) (by decide), fRen_k _ (by decide) (by decide) (by decide) (by decide), fDr1_k (by decide) (by decide) (by decide) (by decide) (by decide), fJrM_k _ (by decide) (by decide) (by decide) (by decide)]
      exact r3
    · rw [fWr_k _ (by decide) (by decide) (by decide), vp (by decide), y36, fDr1_22]
    · intro b hb
      rw [fWr_p _ (by decide), vp (by decide), D.2 b hb, ← hY, mu_p _ _ _ (by decide), mu_p _ _ _ (by decide)]
      by_cases hex : ∃ k, k < (ln i + 19) / 20 ∧ b = bk i k
      · obtain ⟨k, hk, rfl⟩ := hex
        rw [mkB_in hk, mkU_eq hk]
      · rw [mkB_out (fun k hk e => hex ⟨k, hk, e⟩), mkU_ne (fun k hk e => hex ⟨k, hk, e⟩), mu_p _ _ _ (by decide), fRen_p _ (by decide), hu2]
        exact r8 b hb
    · intro k hk
      rw [fWr_p _ (by decide), ← hV]
      obtain ⟨k', e, cs⟩ := qD_cases q (k := k) hi
      have hk' : k' < 24 := by omega
      refine ⟨?_, by rw [e]; exact (r9 k' hk').2⟩
      rw [e]
      by_cases w : k = c0 - 1
      · rw [w, mu_same]
        have : k' = i := by omega
        rw [this]
      · rw [mu_k _ _ _ w, fShift_6]
        by_cases w2 : i ≤ k ∧ k < i + (c0 - 1 - i)
        · rw [if_pos w2]
          have : k' = k + 1 := by omega
          rw [this]
        · rw [if_neg w2, yp (by decide) (by decide)]
          have : k' = k := by omega
          rw [this]
          exact (r9 k hk).1
    · intro k k2 hk hk2 e
      obtain ⟨a, ea, ca⟩ := qD_cases q (k := k) hi
      obtain ⟨b, eb, cb⟩ := qD_cases q (k := k2) hi
      have := r10 a b (by omega) (by omega) (by rw [← ea, ← eb]; exact e)
      omega
    · intro j hj k hk
      rw [fp (by omega) (by omega) (by omega)]
      exact r11 j hj k hk
    · intro x hx
      obtain ⟨y, y1, y2⟩ := sx x hx
      have hq := (r9 y (by omega)).2
      rw [qD_lo q hx, y2, y2, y2, fp (by omega) (by omega) (by omega), fDr1_col (Or.inl rfl) hi hx, y2]
      have e0 := fDr1_84 (X := fJrM X) (k := 0) hi hx (by omega)
      have e1 := fDr1_84 (X := fJrM X) (k := 1) hi hx (by omega)
      rw [y2] at e0 e1
      rw [show 60 * x = 60 * x + 0 by omega, e0, show 60 * x + 0 + 1 = 60 * x + 1 by omega, e1, fJrM_p _ (by decide), fJrM_p _ (by decide)]
      exact r12 y y1
    · intro x k hx hk
      obtain ⟨y, y1, y2⟩ := sx x hx
      have hq := (r9 y (by omega)).2
      rw [y2] at hk
      rw [qD_lo q hx, y2, y2, fp (by omega) (by omega) (by omega)]
      exact r13 y k y1 hk
    · intro x k hx hk
      obtain ⟨y, y1, y2⟩ := sx x hx
      rw [y2] at hk
      rw [fDr1_84 hi hx (by have := (hS.2.2.2.1 y y1).2; omega), y2, y2, fp (by decide) (by decide) (by decide), fJrM_p _ (by decide)]
      exact r14 y k y1 hk
  · rw [if_neg z, if_neg (by rw [rr.2.2.2]; exact z)]
    refine ⟨c0, ln, em, bk, q, hS.jr, (fRen_k _ (by decide) (by decide) (by decide) (by decide)).trans r1, ?_, ?_, rr.1, rr.2.1, rr.2.2.1, rr.2.2.2, ?_, ?_, r10, ?_, ?_, ?_, ?_⟩
    · rw [fRen_k _ (by decide) (by decide) (by decide) (by decide), r2, cntF_congr 24 (fun b _ => hu2 b)]
    · rw [fRen_k _ (by decide) (by decide) (by decide) (by decide), fJrM_k _ (by decide) (by decide) (by decide) (by decide)]; exact r3
    · intro b hb; rw [fRen_p _ (by decide), hu2]; exact r8 b hb
    · rw [fRen_p _ (by decide)]; exact r9
    · intro j hj k hk; rw [fRen_p _ (by omega)]; exact r11 j hj k hk
    · intro i hi; rw [fRen_p _ (by omega), fJrM_p _ (by decide), fJrM_p _ (by decide)]; exact r12 i hi
    · intro i k hi hk; rw [fRen_p _ (by omega)]; exact r13 i k hi hk
    · intro i k hi hk; rw [fRen_p _ (by decide), fJrM_p _ (by decide)]; exact r14 i k hi hk
theorem fED_p (M : Mem) (q : Nat → Nat) (i cn j L f : Nat) (b : Nat → Nat) {p : Nat} (h3 : p ≠ 3) (h5 : p ≠ 5) (h6 : p ≠ 6) : fED M q i cn j L f b p = M p := by
  unfold fED
  split
  · rw [fWr_p _ h3, mu_p _ _ _ h6, fShift_p _ _ _ _ h6, mu_p _ _ _ h3, mu_p _ _ _ h3, mkB_p _ _ _ _ h5, mu_p _ _ _ h3]
  · rfl
end ZDL
