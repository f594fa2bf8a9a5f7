theorem shM1_p (i : Nat) (X : Mem) {p : Nat} (h2 : p ≠ 82) (h3 : p ≠ 83) (h4 : p ≠ 84) (h5 : p ≠ 85) (h6 : p ≠ 86) : shM1 i X p = X p := by
  unfold shM1
  rw [cpX_p _ _ _ _ _ _ _ h5, cpX_p _ _ _ _ _ _ _ h4, mu_p _ _ _ h6, mu_p _ _ _ h3, mu_p _ _ _ h2]
theorem shM1_82 (i : Nat) (X : Mem) : shM1 i X 82 = upd (X 82) i (X 82 (i + 1)) := by
  unfold shM1
  rw [cpX_p _ _ _ _ _ _ _ (by decide), cpX_p _ _ _ _ _ _ _ (by decide)]; rfl
theorem shM1_83 (i : Nat) (X : Mem) : shM1 i X 83 = upd (X 83) i (X 83 (i + 1)) := by
  unfold shM1
  rw [cpX_p _ _ _ _ _ _ _ (by decide), cpX_p _ _ _ _ _ _ _ (by decide)]; rfl
theorem shM1_86 (i : Nat) (X : Mem) : shM1 i X 86 = upd (X 86) i (X 86 (i + 1)) := by
  unfold shM1
  rw [cpX_p _ _ _ _ _ _ _ (by decide), cpX_p _ _ _ _ _ _ _ (by decide)]; rfl
theorem shM1_84 (i : Nat) (X : Mem) (y : Nat) : shM1 i X 84 y = if 60 * i ≤ y ∧ y < 60 * i + 60 then X 84 (y + 60) else X 84 y := by
  unfold shM1
  rw [cpX_p _ _ _ _ _ _ _ (by decide), cpX_self _ _ _ (by omega)]
  by_cases h : 60 * i ≤ y ∧ y < 60 * i + 60
  · rw [if_pos (by omega), if_pos h, show 60 * i + 60 + (y - 60 * i) = y + 60 by omega]; rfl
  · rw [if_neg (by omega), if_neg h]; rfl
theorem shM1_85 (i : Nat) (X : Mem) (y : Nat) : shM1 i X 85 y = if 3 * i ≤ y ∧ y < 3 * i + 3 then X 85 (y + 3) else X 85 y := by
  unfold shM1
  rw [cpX_self _ _ _ (by omega), cpX_p _ _ _ _ _ _ _ (by decide)]
  by_cases h : 3 * i ≤ y ∧ y < 3 * i + 3
  · rw [if_pos (by omega), if_pos h, show 3 * i + 3 + (y - 3 * i) = y + 3 by omega]; rfl
  · rw [if_neg (by omega), if_neg h]; rfl
theorem shM_p : ∀ (r i : Nat) (X : Mem) {p : Nat}, p ≠ 82 → p ≠ 83 → p ≠ 84 → p ≠ 85 → p ≠ 86 → shM r i X p = X p
  | 0, _, _, _, _, _, _, _, _ => rfl
  | r + 1, i, X, p, h2, h3, h4, h5, h6 => by unfold shM; rw [shM_p r _ _ h2 h3 h4 h5 h6, shM1_p _ _ h2 h3 h4 h5 h6]
theorem shM_82 : ∀ (r i : Nat) (X : Mem) (x : Nat), shM r i X 82 x = if i ≤ x ∧ x < i + r then X 82 (x + 1) else X 82 x
  | 0, i, X, x => by rw [if_neg (by omega)]; rfl
  | r + 1, i, X, x => by
    unfold shM
    rw [shM_82 r (i + 1) _ x, shM1_82]
    by_cases h1 : x = i
    · rw [if_neg (by omega), if_pos (by omega), h1]; simp [upd]
    · by_cases h2 : i + 1 ≤ x ∧ x < i + 1 + r
      · rw [if_pos h2, if_pos (by omega)]; simp only [upd]; rw [if_neg (by omega)]
      · rw [if_neg h2, if_neg (by omega)]; simp only [upd]; rw [if_neg h1]
theorem shM_83 : ∀ (r i : Nat) (X : Mem) (x : Nat), shM r i X 83 x = if i ≤ x ∧ x < i + r then X 83 (x + 1) else X 83 x
  | 0, i, X, x => by rw [if_neg (by omega)]; rfl
  | r + 1, i, X, x => by
    unfold shM
    rw [shM_83 r (i + 1) _ x, shM1_83]
    by_cases h1 : x = i
    · rw [if_neg (by omega), if_pos (by omega), h1]; simp [upd]
    · by_cases h2 : i + 1 ≤ x ∧ x < i + 1 + r
      · rw [if_pos h2, if_pos (by omega)]; simp only [upd]; rw [if_neg (by omega)]
      · rw [if_neg h2, if_neg (by omega)]; simp only [upd]; rw [if_neg h1]
theorem shM_86 : ∀ (r i : Nat) (X : Mem) (x : Nat), shM r i X 86 x = if i ≤ x ∧ x < i + r then X 86 (x + 1) else X 86 x
  | 0, i, X, x => by rw [if_neg (by omega)]; rfl
  | r + 1, i, X, x => by
    unfold shM
    rw [shM_86 r (i + 1) _ x, shM1_86]
    by_cases h1 : x = i
    · rw [if_neg (by omega), if_pos (by omega), h1]; simp [upd]
    · by_cases h2 : i + 1 ≤ x ∧ x < i + 1 + r
      · rw [if_pos h2, if_pos (by omega)]; simp only [upd]; rw [if_neg (by omega)]
      · rw [if_neg h2, if_neg (by omega)]; simp only [upd]; rw [if_neg h1]
theorem shM_84 : ∀ (r i : Nat) (X : Mem) (y : Nat), shM r i X 84 y = if 60 * i ≤ y ∧ y < 60 * (i + r) then X 84 (y + 60) else X 84 y
  | 0, i, X, y => by rw [if_neg (by omega)]; rfl
  | r + 1, i, X, y => by
    unfold shM
    rw [shM_84 r (i + 1) _ y, shM1_84, shM1_84]
    by_cases h1 : 60 * i ≤ y ∧ y < 60 * i + 60
    · rw [if_neg (by omega), if_pos h1, if_pos (by omega)]
    · rw [if_neg h1]
      by_cases h2 : 60 * (i + 1) ≤ y ∧ y < 60 * (i + 1 + r)
      · rw [if_pos h2, if_neg (by omega), if_pos (by omega)]
      · rw [if_neg h2, if_neg (by omega)]
theorem shM_85 : ∀ (r i : Nat) (X : Mem) (y : Nat), shM r i X 85 y = if 3 * i ≤ y ∧ y < 3 * (i + r) then X 85 (y + 3) else X 85 y
  | 0, i, X, y => by rw [if_neg (by omega)]; rfl
  | r + 1, i, X, y => by
    unfold shM
    rw [shM_85 r (i + 1) _ y, shM1_85, shM1_85]
    by_cases h1 : 3 * i ≤ y ∧ y < 3 * i + 3
    · rw [if_neg (by omega), if_pos h1, if_pos (by omega)]
    · rw [if_neg h1]
      by_cases h2 : 3 * (i + 1) ≤ y ∧ y < 3 * (i + 1 + r)
      · rw [if_pos h2, if_neg (by omega), if_pos (by omega)]
      · rw [if_neg h2, if_neg (by omega)]
def sh {α : Type} (f : Nat → α) (i : Nat) : Nat → α := fun x => if x < i then f x else f (x + 1)
theorem sh_lo {α : Type} (f : Nat → α) {i x : Nat} (h : x < i) : sh f i x = f x := if_pos h
theorem sh_hi {α : Type} (f : Nat → α) {i x : Nat} (h : i ≤ x) : sh f i x = f (x + 1) := if_neg (by omega)
theorem fSumB_sh (f : Nat → Nat) (i : Nat) : ∀ (c0 : Nat), i ≤ c0 → fSumB (sh f i) c0 + (f i + 20 - 1) / 20 = fSumB f (c0 + 1)
  | 0, h => by rw [show i = 0 by omega]; rfl
  | c0 + 1, h => by
    by_cases h1 : i = c0 + 1
    · rw [fSumB_congr (c0 + 1) (fun x hx => sh_lo f (by omega)), h1]; rfl
    · have ih := fSumB_sh f i c0 (by omega)
      show fSumB (sh f i) c0 + (sh f i c0 + 20 - 1) / 20 + _ = fSumB f (c0 + 1) + (f (c0 + 1) + 20 - 1) / 20
      rw [sh_hi f (by omega)]
      omega
section ZDR
variable {c0 : Nat} {ln em : Nat → Nat} {bk : Nat → Nat → Nat} {X : Mem} {i : Nat}
theorem fDr1_p {p : Nat} (h1 : p ≠ 76) (h2 : p ≠ 82) (h3 : p ≠ 83) (h4 : p ≠ 84) (h5 : p ≠ 85) (h6 : p ≠ 86) : fDr1 X c0 i p = X p := by unfold fDr1; rw [fWrM_p _ h1, shM_p _ _ _ h2 h3 h4 h5 h6, mu_p _ _ _ h1, mu_p _ _ _ h1]
theorem fDr1_k {x : Nat} (h3 : x ≠ 3) (h4 : x ≠ 4) (h23 : x ≠ 23) (h15 : x ≠ 15) (h22 : x ≠ 22) : fDr1 X c0 i 76 x = X 76 x := by unfold fDr1; rw [fWrM_k _ h3 h4 h23, shM_p _ _ _ (by decide) (by decide) (by decide) (by decide) (by decide), mu_k _ _ _ h15, mu_k _ _ _ h22]
theorem fDr1_15 : fDr1 X c0 i 76 15 = nI (c0 - 1) := by unfold fDr1; rw [fWrM_k _ (by decide) (by decide) (by decide), shM_p _ _ _ (by decide) (by decide) (by decide) (by decide) (by decide), mu_same]
theorem fDr1_22 : fDr1 X c0 i 76 22 = X 76 22 + nI 1 := by unfold fDr1; rw [fWrM_k _ (by decide) (by decide) (by decide), shM_p _ _ _ (by decide) (by decide) (by decide) (by decide) (by decide), mu_k _ _ _ (by decide), mu_same]
theorem fDr1_o (h : X 76 3 = 0 ∨ X 76 3 = 1) : fDr1 X c0 i 76 3 = 0 ∨ fDr1 X c0 i 76 3 = 1 := by
  unfold fDr1
  refine fWrM_o _ ?_
  rw [shM_p _ _ _ (by decide) (by decide) (by decide) (by decide) (by decide), mu_k _ _ _ (by decide), mu_k _ _ _ (by decide)]
  exact h
theorem fDr1_col {p : Nat} (hp : p = 82 ∨ p = 83 ∨ p = 86) {x : Nat} (hi : i < c0) (hx : x < c0 - 1) : fDr1 X c0 i p x = sh (X p) i x := by
  unfold fDr1 sh
  rcases hp with rfl | rfl | rfl
  all_goals rw [fWrM_p _ (by decide)]
  · rw [shM_82, mu_p _ _ _ (by decide), mu_p _ _ _ (by decide)]
    by_cases h : x < i
    · rw [if_neg (by omega), if_pos h]
    · rw [if_pos (by omega), if_neg h]
  · rw [shM_83, mu_p _ _ _ (by decide), mu_p _ _ _ (by decide)]
    by_cases h : x < i
    · rw [if_neg (by omega), if_pos h]
    · rw [if_pos (by omega), if_neg h]
  · rw [shM_86, mu_p _ _ _ (by decide), mu_p _ _ _ (by decide)]
    by_cases h : x < i
    · rw [if_neg (by omega), if_pos h]
    · rw [if_pos (by omega), if_neg h]
theorem fDr1_84 {x k : Nat} (hi : i < c0) (hx : x < c0 - 1) (hk : k < 60) : fDr1 X c0 i 84 (60 * x + k) = sh (fun x => X 84 (60 * x + k)) i x := by
  unfold fDr1 sh
  rw [fWrM_p _ (by decide), shM_84, mu_p _ _ _ (by decide), mu_p _ _ _ (by decide)]
  by_cases h : x < i
  · rw [if_neg (by omega), if_pos h]
  · rw [if_pos (by omega), if_neg h, show 60 * x + k + 60 = 60 * (x + 1) + k by omega]
theorem fDr1_85 {x k : Nat} (hi : i < c0) (hx : x < c0 - 1) (hk : k < 3) : fDr1 X c0 i 85 (3 * x + k) = sh (fun x => X 85 (3 * x + k)) i x := by
  unfold fDr1 sh
  rw [fWrM_p _ (by decide), shM_85, mu_p _ _ _ (by decide), mu_p _ _ _ (by decide)]
  by_cases h : x < i
  · rw [if_neg (by omega), if_pos h]
  · rw [if_pos (by omega), if_neg h, show 3 * x + k + 3 = 3 * (x + 1) + k by omega]
theorem sh_eq {α : Type} (f : Nat → α) (i x : Nat) : ∃ y, sh f i x = f y ∧ y ≠ i ∧ ((x < i ∧ y = x) ∨ (i ≤ x ∧ y = x + 1)) := by
  by_cases h : x < i
  · exact ⟨x, sh_lo f h, by omega, Or.inl ⟨h, rfl⟩⟩
  · exact ⟨x + 1, sh_hi f (by omega), by omega, Or.inr ⟨by omega, rfl⟩⟩
theorem XSv.drop (h : XSv c0 ln em bk X) (hi : i < c0) : XSv (c0 - 1) (sh ln i) (sh em i) (sh bk i) (fDr1 X c0 i) ∧ ∀ b, b < 24 → uX (fDr1 X c0 i) b = mkU (uX X) (bk i) 1 ((ln i + 19) / 20) b := by
  have hc := h.c
  obtain ⟨a1, a2, a3, a4, a5, a6, a7, a8, a9, a10⟩ := h
  have hcZ : cX (fDr1 X c0 i) = c0 - 1 := cX_nI fDr1_15 (by omega)
  have sx : ∀ x, x < c0 - 1 → ∃ y, y < c0 ∧ y ≠ i ∧ (∀ {α : Type} (f : Nat → α), sh f i x = f y) := fun x hx => by
    by_cases q : x < i
    · exact ⟨x, by omega, by omega, fun f => sh_lo f q⟩
    · exact ⟨x + 1, by omega, by omega, fun f => sh_hi f (by omega)⟩
  have hl3 : ∀ x, x < c0 → (ln x + 19) / 20 ≤ 3 := fun x hx => by have := (a4 x hx).2.2; omega
  have hu : ∀ b, b < 24 → uX (fDr1 X c0 i) b = mkU (uX X) (bk i) 1 ((ln i + 19) / 20) b := by
    intro b hb
    by_cases hex : ∃ j, j < (ln i + 19) / 20 ∧ b = bk i j
    · obtain ⟨j, hj, rfl⟩ := hex
      rw [mkU_eq hj]
      refine uX_1 (fun q hq => ?_)
      obtain ⟨x, k, hk, rfl⟩ : ∃ x k, k < 3 ∧ q = 3 * x + k := ⟨q / 3, q % 3, by omega, by omega⟩
      have hx : x < c0 - 1 := by omega
      rw [fDr1_85 hi hx hk]
      obtain ⟨y, y1, y2, y3⟩ := sx x hx
      rw [y3]
      rcases Nat.lt_or_ge k ((ln y + 19) / 20) with z | z
      · rw [(a6 y k y1 z).1]
        intro w
        have w2 := (nI_eq (by have := (a6 y k y1 z).2; omega) (by omega)).mp w
        exact y2 (a8 y k i j y1 hi z hj w2).1
      · rw [a7 y k y1 z hk]
        exact fun w => nI_ne_m1 (show bk i j < 2 ^ 31 by omega) w.symm
    · rw [mkU_ne (fun j hj q => hex ⟨j, hj, q⟩)]
      rcases (show uX X b = 0 ∨ uX X b = 1 by have := uX_le X b; omega) with q | q
      · rw [q]
        obtain ⟨z, hz, hy⟩ := uX_0' q
        obtain ⟨x, k, hk, rfl⟩ : ∃ x k, k < 3 ∧ z = 3 * x + k := ⟨z / 3, z % 3, by omega, by omega⟩
        have hx : x < c0 := by omega
        have hxi : x ≠ i := by
          intro e
          subst e
          rcases Nat.lt_or_ge k ((ln x + 19) / 20) with w | w
          · rw [(a6 x k hx w).1] at hy
            exact hex ⟨k, w, ((nI_eq (by have := (a6 x k hx w).2; omega) (by omega)).mp hy).symm⟩
          · rw [a7 x k hx w hk] at hy
            exact nI_ne_m1 (show b < 2 ^ 31 by omega) hy.symm
        rcases Nat.lt_or_ge x i with w | w
        · exact uX_0 ⟨3 * x + k, by omega, by rw [fDr1_85 hi (by omega) hk, sh_lo _ w]; exact hy⟩
        · refine uX_0 ⟨3 * (x - 1) + k, by omega, ?_⟩
          rw [fDr1_85 hi (by omega) hk, sh_hi _ (by omega)]
          show X 85 (3 * (x - 1 + 1) + k) = _
          rw [show x - 1 + 1 = x by omega]
          exact hy
      · rw [q]
        refine uX_1 (fun z hz => ?_)
        obtain ⟨x, k, hk, rfl⟩ : ∃ x k, k < 3 ∧ z = 3 * x + k := ⟨z / 3, z % 3, by omega, by omega⟩
        rw [fDr1_85 hi (by omega) hk]
        obtain ⟨y, y1, y2, y3⟩ := sx x (by omega)
        rw [y3]
        exact uX_1' q _ (by omega)
  refine ⟨⟨fDr1_15, by omega, fDr1_o a3, ?_, ?_, ?_, ?_, ?_, ?_, ?_⟩, hu⟩
  · intro x hx
    obtain ⟨y, y1, y2, y3⟩ := sx x hx
    rw [fDr1_col (Or.inr (Or.inl rfl)) hi hx, y3, y3]
    exact a4 y y1
  · intro x hx
    obtain ⟨y, y1, y2, y3⟩ := sx x hx
    rw [fDr1_col (Or.inr (Or.inr rfl)) hi hx, y3, y3, y3]
    exact a5 y y1
  · intro x k hx hk
    obtain ⟨y, y1, y2, y3⟩ := sx x hx
    rw [y3] at hk
    rw [fDr1_85 hi hx (by have := hl3 y y1; omega), y3, y3]
    exact a6 y k y1 hk
  · intro x k hx hk hk3
    obtain ⟨y, y1, y2, y3⟩ := sx x hx
    rw [y3] at hk
    rw [fDr1_85 hi hx hk3, y3]
    exact a7 y k y1 hk hk3
  · intro x k x' k' hx hx' hk hk' he
    by_cases w : x < i <;> by_cases w' : x' < i
    · rw [sh_lo _ w] at hk he; rw [sh_lo _ w'] at hk' he
      exact a8 x k x' k' (by omega) (by omega) hk hk' he
    · rw [sh_lo _ w] at hk he; rw [sh_hi _ (by omega)] at hk' he
      have := a8 x k (x' + 1) k' (by omega) (by omega) hk hk' he
      omega
    · rw [sh_hi _ (by omega)] at hk he; rw [sh_lo _ w'] at hk' he
      have := a8 (x + 1) k x' k' (by omega) (by omega) hk hk' he
      omega
    · rw [sh_hi _ (by omega)] at hk he; rw [sh_hi _ (show i ≤ x' by omega)] at hk' he
      have := a8 (x + 1) k (x' + 1) k' (by omega) (by omega) hk hk' he
      omega
  · rw [cntF_congr 24 hu, cntF_mk1 (uX X) (bk i) _ (fun j hj => ⟨(a6 i j hi hj).2, uX_0 ⟨3 * i + j, by have := hl3 i hi; omega, (a6 i j hi hj).1⟩⟩) (fun j j' q1 q2 q3 => absurd (a8 i j i j' hi hi (by omega) q2 q3).2 (by omega))]
    have e := fSumB_sh ln i (c0 - 1) (by omega)
    rw [show c0 - 1 + 1 = c0 by omega] at e
    omega
  · intro x k hx hk
    obtain ⟨y, y1, y2, y3⟩ := sx x hx
    rw [y3] at hk
    rw [fDr1_84 hi hx (by have := (a4 y y1).2.2; omega), y3]
    exact a10 y k y1 hk
theorem XS.drop (h : XSv c0 ln em bk X) (hi : i < c0) : XS (fDropM X i) ∧ ((cX (fDropM X i) = c0 - 1) ∨ (cX (fDropM X i) = c0 ∧ ¬ fDropM X i 76 3 = 0)) := by
  unfold fDropM
  have hj := h.jr
  rw [h.c]
  by_cases q : fJrM X 76 3 = 0
  · rw [if_pos q]
    exact ⟨⟨_, _, _, _, (hj.drop hi).1⟩, Or.inl (hj.drop hi).1.c⟩
  · rw [if_neg q]
    exact ⟨⟨_, _, _, _, hj⟩, Or.inr ⟨hj.c, q⟩⟩
theorem XSv.e (h : XSv c0 ln em bk X) (hi : i < c0) : eX X i = em i := by
  have h1 := h.2.2.2.2.1 i hi
  have h2 := h.2.2.2.1 i hi
  unfold eX
  rw [h1.1, nI_clamp (by omega)]
theorem XSv.toFL (h : XSv c0 ln em bk X) : FL X c0 ln := ⟨h.1, h.2.1, fun i hi => ⟨(h.2.2.2.1 i hi).1, (h.2.2.2.1 i hi).2.2⟩, fun i hi => by rw [h.e hi]; exact h.2.2.2.2.1 i hi⟩
theorem XSv.p87 (h : XSv c0 ln em bk X) (k : Nat) (v : Int32) : XSv c0 ln em bk (mu X 87 k v) := h
theorem XSv.em1 (h : XSv c0 ln em bk X) (hi : i < c0) (he : em i < ln i) (k : Nat) : XSv c0 ln (ex1 em i (em i + 1)) bk (emB X k i) := by
  have e0 := h.e hi
  obtain ⟨a1, a2, a3, a4, a5, a6, a7, a8, a9, a10⟩ := h
  refine ⟨a1, a2, a3, a4, fun x hx => ?_, a6, a7, a8, a9, a10⟩
  show mu _ 86 i (nI (eX X i + 1)) 86 x = _ ∧ _
  by_cases q : x = i
  · subst q
    rw [mu_same, ex1_c, e0]
    exact ⟨rfl, by omega⟩
  · rw [mu_k _ _ _ q, ex1_n _ _ q]
    exact a5 x hx
theorem skX_c (X : Mem) (c0 : Nat) (ch : Int32) : ∀ (f i : Nat), i ≤ c0 → c0 - i < f → i ≤ skX X c0 ch f i ∧ skX X c0 ch f i ≤ c0 ∧ (skX X c0 ch f i < c0 → X 84 (60 * skX X c0 ch f i + 1) &&& nI 1 = ch ∧ ¬ X 86 (skX X c0 ch f i) = X 83 (skX X c0 ch f i))
  | 0, i, h, hf => absurd hf (Nat.not_lt_zero _)
  | f + 1, i, h, hf => by
    by_cases h1 : i < c0
    · have ih := skX_c X c0 ch f (i + 1) (by omega) (by omega)
      by_cases h2 : X 84 (60 * i + 1) &&& nI 1 = ch
      · by_cases h3 : X 86 i = X 83 i
        · have e : skX X c0 ch (f + 1) i = skX X c0 ch f (i + 1) := ((if_pos h1).trans (if_pos h2)).trans (if_pos h3)
          rw [e]; exact ⟨by omega, ih.2⟩
        · have e : skX X c0 ch (f + 1) i = i := ((if_pos h1).trans (if_pos h2)).trans (if_neg h3)
          rw [e]; exact ⟨Nat.le_refl _, h, fun _ => ⟨h2, h3⟩⟩
      · have e : skX X c0 ch (f + 1) i = skX X c0 ch f (i + 1) := (if_pos h1).trans (if_neg h2)
        rw [e]; exact ⟨by omega, ih.2⟩
    · have e : skX X c0 ch (f + 1) i = i := if_neg h1
      rw [e]; exact ⟨Nat.le_refl _, h, fun q => absurd q h1⟩
theorem XSv.fl (c0 : Nat) (ln : Nat → Nat) (bk : Nat → Nat → Nat) (ch : Int32) : ∀ (r k i : Nat) (pt : Int32) (so : Nat) (em : Nat → Nat) (X : Mem), XSv c0 ln em bk X → i ≤ c0 → ∃ em', XSv c0 ln em' bk (flM c0 ch r k i pt so X)
  | 0, _, _, _, _, em, _, h, _ => ⟨em, h⟩
  | r + 1, k, i, pt, so, em, X, h, hi => by
    have hs := skX_c X c0 ch 25 i hi (by have := h.2.1; omega)
    unfold flM
    by_cases q : skX X c0 ch 25 i = c0
    · rw [if_pos q]
      exact XSv.fl c0 ln bk ch r _ _ _ _ em _ (h.p87 _ _) hs.2.1
    · rw [if_neg q]
      have hlt : skX X c0 ch 25 i < c0 := by omega
      have hne := (hs.2.2 hlt).2
      rw [(h.2.2.2.1 _ hlt).1, (h.2.2.2.2.1 _ hlt).1] at hne
      have hle := (h.2.2.2.2.1 _ hlt).2
      exact XSv.fl c0 ln bk ch r _ _ _ _ _ _ (h.em1 hlt (by rcases Nat.lt_or_ge (em (skX X c0 ch 25 i)) (ln (skX X c0 ch 25 i)) with z | z; exact z; exact absurd (by rw [show em (skX X c0 ch 25 i) = ln (skX X c0 ch 25 i) by omega]) hne) k) hs.2.1
end ZDR
def dpM : Nat → Nat → Mem → Mem
  | 0, _, X => X
  | f + 1, i, X => if i < cX X then (if X 76 3 = 0 then (if X 86 i = X 83 i then dpM f i (fDropM X i) else dpM f (i + 1) X) else X) else X
