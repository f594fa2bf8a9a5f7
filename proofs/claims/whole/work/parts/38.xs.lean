theorem fSumB_congr {f g : Nat → Nat} : ∀ (k : Nat), (∀ i, i < k → f i = g i) → fSumB f k = fSumB g k
  | 0, _ => rfl
  | k + 1, h => by
    unfold fSumB
    rw [fSumB_congr k (fun i hi => h i (by omega)), h k (by omega)]
theorem fSumB_ge {ln : Nat → Nat} : ∀ (k : Nat), (∀ i, i < k → 7 ≤ ln i) → k ≤ fSumB ln k
  | 0, _ => Nat.zero_le _
  | k + 1, h => by
    have h1 := fSumB_ge k (fun i hi => h i (by omega))
    have h2 := h k (by omega)
    unfold fSumB
    omega
theorem cntF_congr {u v : Nat → Nat} : ∀ (N : Nat), (∀ b, b < N → u b = v b) → cntF u N = cntF v N
  | 0, _ => rfl
  | N + 1, h => by
    unfold cntF
    rw [cntF_congr N (fun b hb => h b (by omega)), h N (by omega)]
theorem cntF_upd (u : Nat → Nat) (b z : Nat) : ∀ (N : Nat), cntF (fun x => if x = b then z else u x) N + (if b < N then u b else 0) = cntF u N + (if b < N then z else 0)
  | 0 => by simp [cntF]
  | N + 1 => by
    have ih := cntF_upd u b z N
    by_cases h1 : N = b
    · subst h1
      rw [if_neg (by omega), if_neg (by omega)] at ih
      show cntF _ N + (if N = N then z else u N) + (if N < N + 1 then u N else 0) = cntF u N + u N + (if N < N + 1 then z else 0)
      rw [if_pos rfl, if_pos (Nat.lt_succ_self _), if_pos (Nat.lt_succ_self _)]
      omega
    · show cntF _ N + (if N = b then z else u N) + (if b < N + 1 then u b else 0) = cntF u N + u N + (if b < N + 1 then z else 0)
      rw [if_neg h1]
      by_cases h2 : b < N
      · rw [if_pos h2, if_pos h2] at ih
        rw [if_pos (show b < N + 1 by omega), if_pos (show b < N + 1 by omega)]
        omega
      · rw [if_neg h2, if_neg h2] at ih
        rw [if_neg (show ¬ b < N + 1 by omega), if_neg (show ¬ b < N + 1 by omega)]
        omega
/-- u, with z at the places v 0 .. v (k - 1) -/
def mkU (u v : Nat → Nat) (z : Nat) : Nat → Nat → Nat
  | 0 => u
  | k + 1 => fun x => if x = v k then z else mkU u v z k x
theorem mkU_ne {u v : Nat → Nat} {z x : Nat} : ∀ {k : Nat}, (∀ j, j < k → x ≠ v j) → mkU u v z k x = u x
  | 0, _ => rfl
  | k + 1, h => by
    unfold mkU
    rw [if_neg (h k (by omega))]
    exact mkU_ne (fun j hj => h j (by omega))
theorem mkU_eq {u v : Nat → Nat} {z j : Nat} : ∀ {k : Nat}, j < k → mkU u v z k (v j) = z
  | 0, h => absurd h (Nat.not_lt_zero _)
  | k + 1, h => by
    unfold mkU
    by_cases h1 : v j = v k
    · rw [if_pos h1]
    · rw [if_neg h1]
      exact mkU_eq (by rcases (show j < k ∨ j = k by omega) with h2 | h2; exact h2; exact absurd (by rw [h2]) h1)
theorem cntF_mk0 (u v : Nat → Nat) : ∀ (k : Nat), (∀ j, j < k → v j < 24 ∧ u (v j) = 1) → (∀ i j, i < j → j < k → v i ≠ v j) → cntF (mkU u v 0 k) 24 + k = cntF u 24
  | 0, _, _ => rfl
  | k + 1, h, hd => by
    have ih := cntF_mk0 u v k (fun j hj => h j (by omega)) (fun i j a b => hd i j a (by omega))
    have e := cntF_upd (mkU u v 0 k) (v k) 0 24
    have h1 := h k (by omega)
    rw [if_pos h1.1, if_pos h1.1, mkU_ne (fun j hj q => hd j k hj (by omega) q.symm), h1.2] at e
    show cntF (fun x => if x = v k then 0 else mkU u v 0 k x) 24 + (k + 1) = _
    omega
theorem cntF_mk1 (u v : Nat → Nat) : ∀ (k : Nat), (∀ j, j < k → v j < 24 ∧ u (v j) = 0) → (∀ i j, i < j → j < k → v i ≠ v j) → cntF (mkU u v 1 k) 24 = cntF u 24 + k
  | 0, _, _ => rfl
  | k + 1, h, hd => by
    have ih := cntF_mk1 u v k (fun j hj => h j (by omega)) (fun i j a b => hd i j a (by omega))
    have e := cntF_upd (mkU u v 1 k) (v k) 1 24
    have h1 := h k (by omega)
    rw [if_pos h1.1, if_pos h1.1, mkU_ne (fun j hj q => hd j k hj (by omega) q.symm), h1.2] at e
    show cntF (fun x => if x = v k then 1 else mkU u v 1 k x) 24 = _
    omega
theorem scB_p (u : Nat → Nat) (c0 n : Nat) : ∀ (r b k : Nat) (X : Mem) {p : Nat}, p ≠ 76 → p ≠ 85 → scB u c0 n r b k X p = X p
  | 0, _, _, _, _, _, _ => rfl
  | r + 1, b, k, X, p, h1, h2 => by
    unfold scB
    (repeat' split)
    · rfl
    · exact scB_p u c0 n r _ _ _ h1 h2
    · rw [scB_p u c0 n r _ _ _ h1 h2, fWrM_p _ h1, mu_p _ _ _ h2]
    · rfl
theorem scB_k (u : Nat → Nat) (c0 n : Nat) : ∀ (r b k : Nat) (X : Mem) {x : Nat}, x ≠ 3 → x ≠ 4 → x ≠ 23 → scB u c0 n r b k X 76 x = X 76 x
  | 0, _, _, _, _, _, _, _ => rfl
  | r + 1, b, k, X, x, h1, h2, h3 => by
    unfold scB
    (repeat' split)
    · rfl
    · exact scB_k u c0 n r _ _ _ h1 h2 h3
    · rw [scB_k u c0 n r _ _ _ h1 h2 h3, fWrM_k _ h1 h2 h3]; rfl
    · rfl
theorem fWrM_o (X : Mem) (h : X 76 3 = 0 ∨ X 76 3 = 1) : fWrM X 76 3 = 0 ∨ fWrM X 76 3 = 1 := by
  unfold fWrM
  (repeat' split)
  · exact h
  · exact Or.inr rfl
  · exact h
theorem fJrM_o (X : Mem) (h : X 76 3 = 0 ∨ X 76 3 = 1) : fJrM X 76 3 = 0 ∨ fJrM X 76 3 = 1 := by
  unfold fJrM
  split
  · exact fWrM_o _ h
  · exact h
theorem scB_o (u : Nat → Nat) (c0 n : Nat) : ∀ (r b k : Nat) (X : Mem), (X 76 3 = 0 ∨ X 76 3 = 1) → scB u c0 n r b k X 76 3 = 0 ∨ scB u c0 n r b k X 76 3 = 1
  | 0, _, _, _, h => h
  | r + 1, b, k, X, h => by
    unfold scB
    (repeat' split)
    · exact h
    · exact scB_o u c0 n r _ _ _ h
    · exact scB_o u c0 n r _ _ _ (fWrM_o _ h)
    · exact h
theorem scB_85 (u : Nat → Nat) (c0 n : Nat) : ∀ (r b k : Nat) (X : Mem) {q : Nat}, (q < 3 * c0 + k ∨ 3 * c0 + (n + 19) / 20 ≤ q) → scB u c0 n r b k X 85 q = X 85 q
  | 0, _, _, _, _, _ => rfl
  | r + 1, b, k, X, q, h => by
    unfold scB
    (repeat' split)
    · rfl
    · exact scB_85 u c0 n r _ _ _ h
    · rw [scB_85 u c0 n r _ _ _ (by omega), fWrM_p _ (by decide), mu_k _ _ _ (by omega)]
    · rfl
theorem scB_new (u : Nat → Nat) (hu : ∀ b, u b ≤ 1) (c0 n : Nat) : ∀ (r b k : Nat) (X : Mem), b + r = 24 → (n + 19) / 20 + cntF u b ≤ k + cntF u 24 → scB u c0 n r b k X 76 3 = 0 →
    ∃ v : Nat → Nat, (∀ j, k ≤ j → j < (n + 19) / 20 → scB u c0 n r b k X 85 (3 * c0 + j) = nI (v j) ∧ b ≤ v j ∧ v j < 24 ∧ u (v j) = 1) ∧ (∀ i j, k ≤ i → i < j → j < (n + 19) / 20 → v i < v j)
  | 0, b, k, X, hb, hr, _ => by
    rw [show b = 24 by omega] at hr
    exact ⟨fun _ => 0, fun j h1 h2 => absurd h1 (by omega), fun i j h1 h2 h3 => absurd h1 (by omega)⟩
  | r + 1, b, k, X, hb, hr, ho => by
    have hcs : cntF u (b + 1) = cntF u b + u b := rfl
    have hub := hu b
    unfold scB at ho ⊢
    by_cases h1 : n ≤ 20 * k
    · exact ⟨fun _ => 0, fun j h1 h2 => absurd h1 (by omega), fun i j h1 h2 h3 => absurd h1 (by omega)⟩
    · rw [if_neg h1] at ho ⊢
      by_cases h2 : X 76 3 = 0
      · rw [if_pos h2] at ho ⊢
        by_cases h3 : u b = 0
        · rw [if_pos h3] at ho ⊢
          obtain ⟨v, a1, a2⟩ := scB_new u hu c0 n r (b + 1) k X (by omega) (by omega) ho
          exact ⟨v, fun j q1 q2 => ⟨(a1 j q1 q2).1, by have := (a1 j q1 q2).2.1; omega, (a1 j q1 q2).2.2⟩, a2⟩
        · rw [if_neg h3] at ho ⊢
          obtain ⟨v, a1, a2⟩ := scB_new u hu c0 n r (b + 1) (k + 1) _ (by omega) (by omega) ho
          refine ⟨fun j => if j = k then b else v j, fun j q1 q2 => ?_, fun i j q1 q2 q3 => ?_⟩
          · by_cases h4 : j = k
            · subst h4
              simp only [if_true]
              refine ⟨?_, Nat.le_refl _, by omega, by omega⟩
              rw [scB_85 u c0 n r _ _ _ (by omega), fWrM_p _ (by decide), mu_same]
            · simp only [h4, if_false]
              have := a1 j (by omega) q2
              exact ⟨this.1, by omega, this.2.2⟩
          · by_cases h4 : i = k
            · simp only [h4, if_true]
              rw [if_neg (by omega)]
              have := a1 j (by omega) q3
              omega
            · simp only [h4, if_false]
              rw [if_neg (by omega)]
              exact a2 i j (by omega) q2 q3
      · rw [if_neg h2] at ho
        exact absurd ho h2
theorem cpX_to (pos a src b : Nat) (hs : src ≠ pos) : ∀ (r k : Nat) (X : Mem) (y : Nat), cpX pos a src b r k X pos y = if a + k ≤ y ∧ y < a + k + r then X src (b + (y - a)) else X pos y
  | 0, k, X, y => by rw [if_neg (by omega)]; rfl
  | r + 1, k, X, y => by
    unfold cpX
    rw [cpX_to pos a src b hs r (k + 1) _ y, mu_p _ _ _ hs]
    by_cases h1 : y = a + k
    · rw [if_neg (by omega), if_pos (by omega), h1, mu_same, show a + k - a = k by omega]
    · rw [mu_k _ _ _ h1]
      by_cases h2 : a + (k + 1) ≤ y ∧ y < a + (k + 1) + r
      · rw [if_pos h2, if_pos (by omega)]
      · rw [if_neg h2, if_neg (by omega)]
theorem cpX_self (pos a b : Nat) (hs : a < b) : ∀ (r k : Nat) (X : Mem) (y : Nat), cpX pos a pos b r k X pos y = if a + k ≤ y ∧ y < a + k + r then X pos (b + (y - a)) else X pos y
  | 0, k, X, y => by rw [if_neg (by omega)]; rfl
  | r + 1, k, X, y => by
    unfold cpX
    rw [cpX_self pos a b hs r (k + 1) _ y]
    by_cases h1 : y = a + k
    · rw [if_neg (by omega), if_pos (by omega), h1, mu_same, show a + k - a = k by omega]
    · rw [mu_k _ _ _ h1]
      by_cases h2 : a + (k + 1) ≤ y ∧ y < a + (k + 1) + r
      · rw [if_pos h2, if_pos (by omega), mu_k _ _ _ (by omega)]
      · rw [if_neg h2, if_neg (by omega)]
/-- the reference's store: c0 packets of lengths ln, of which em bytes have been emitted, in the blocks bk -/
def XSv (c0 : Nat) (ln em : Nat → Nat) (bk : Nat → Nat → Nat) (X : Mem) : Prop :=
  X 76 15 = nI c0 ∧ c0 ≤ 24 ∧ (X 76 3 = 0 ∨ X 76 3 = 1) ∧
  (∀ i, i < c0 → X 83 i = nI (ln i) ∧ 7 ≤ ln i ∧ ln i ≤ 60) ∧
  (∀ i, i < c0 → X 86 i = nI (em i) ∧ em i ≤ ln i) ∧
  (∀ i k, i < c0 → k < (ln i + 19) / 20 → X 85 (3 * i + k) = nI (bk i k) ∧ bk i k < 24) ∧
  (∀ i k, i < c0 → (ln i + 19) / 20 ≤ k → k < 3 → X 85 (3 * i + k) = -1) ∧
  (∀ i k i' k', i < c0 → i' < c0 → k < (ln i + 19) / 20 → k' < (ln i' + 19) / 20 → bk i k = bk i' k' → i = i' ∧ k = k') ∧
  fSumB ln c0 + cntF (uX X) 24 = 24 ∧
  (∀ i k, i < c0 → k < ln i → ∃ v, v < 256 ∧ X 84 (60 * i + k) = nI v)
theorem XSv.c {c0 : Nat} {ln em : Nat → Nat} {bk : Nat → Nat → Nat} {X : Mem} (h : XSv c0 ln em bk X) : cX X = c0 := cX_nI h.1 h.2.1
theorem XSv.room {c0 : Nat} {ln em : Nat → Nat} {bk : Nat → Nat → Nat} {X : Mem} (h : XSv c0 ln em bk X) : c0 + cntF (uX X) 24 ≤ 24 := by
  have h1 := fSumB_ge (ln := ln) c0 (fun i hi => (h.2.2.2.1 i hi).2.1)
  have h2 := h.2.2.2.2.2.2.2.2.1
  omega
theorem uX_same {X Y : Mem} (h15 : Y 76 15 = X 76 15) (h85 : ∀ q, q < 3 * cX X → Y 85 q = X 85 q) (b : Nat) : uX Y b = uX X b := by
  have hc' : cX Y = cX X := by unfold cX; rw [h15]
  rcases (show uX X b = 0 ∨ uX X b = 1 by have := uX_le X b; omega) with q | q
  · rw [q]
    obtain ⟨x, hx, hy⟩ := uX_0' q
    exact uX_0 ⟨x, by omega, by rw [h85 x hx]; exact hy⟩
  · rw [q]
    exact uX_1 (fun x hx => by rw [h85 x (by omega)]; exact uX_1' q x (by omega))
/-- only the flags of power have changed, and what lies behind the packets -/
theorem XSv.same {c0 : Nat} {ln em : Nat → Nat} {bk : Nat → Nat → Nat} {X Y : Mem} (h : XSv c0 ln em bk X) (h15 : Y 76 15 = X 76 15) (h3 : Y 76 3 = 0 ∨ Y 76 3 = 1) (h83 : ∀ i, i < c0 → Y 83 i = X 83 i) (h86 : ∀ i, i < c0 → Y 86 i = X 86 i) (h85 : ∀ q, q < 3 * c0 → Y 85 q = X 85 q) (h84 : ∀ q, q < 60 * c0 → Y 84 q = X 84 q) : XSv c0 ln em bk Y := by
  have hc := h.c
  obtain ⟨a1, a2, a3, a4, a5, a6, a7, a8, a9, a10⟩ := h
  have hc' : cX Y = c0 := by rw [← hc]; unfold cX; rw [h15]
  refine ⟨h15.trans a1, a2, h3, fun i hi => ?_, fun i hi => ?_, fun i k hi hk => ?_, fun i k hi hk hk3 => ?_, a8, ?_, fun i k hi hk => ?_⟩
  · rw [h83 i hi]; exact a4 i hi
  · rw [h86 i hi]; exact a5 i hi
  · have := (a4 i hi).2.2
    rw [h85 _ (by omega)]; exact a6 i k hi hk
  · rw [h85 _ (by omega)]; exact a7 i k hi hk hk3
  · rw [cntF_congr 24 (fun b _ => uX_same h15 (fun q hq => h85 q (by omega)) b)]
    exact a9
  · have := (a4 i hi).2.2
    rw [h84 _ (by omega)]; exact a10 i k hi hk
