theorem fl_32 {a : Nat} (h : a < 256) : (if (nI a &&& nI 32) = 0 then (0 : Int32) else 1) = nI (a / 32 % 2) := by
  have : ∀ a, a < 256 → (if (nI a &&& nI 32) = 0 then (0 : Int32) else 1) = nI (a / 32 % 2) := by decide +kernel
  exact this a h
theorem fl_16 {a : Nat} (h : a < 256) : (if (nI a &&& nI 16) = 0 then (0 : Int32) else 1) = nI (a / 16 % 2) := by
  have : ∀ a, a < 256 → (if (nI a &&& nI 16) = 0 then (0 : Int32) else 1) = nI (a / 16 % 2) := by decide +kernel
  exact this a h
theorem fl_64 {a : Nat} (h : a < 256) : ((nI a &&& nI 64) = 0 ↔ a / 64 % 2 = 0) := by
  have : ∀ a, a < 256 → ((nI a &&& nI 64) = 0 ↔ a / 64 % 2 = 0) := by decide +kernel
  exact this a h
theorem fl_128 {a : Nat} (h : a < 256) : ((nI a &&& nI 128) = 0 ↔ a / 128 = 0) := by
  have : ∀ a, a < 256 → ((nI a &&& nI 128) = 0 ↔ a / 128 = 0) := by decide +kernel
  exact this a h
theorem fl_63 {a : Nat} (h : a < 256) : nI a &&& nI 63 = nI (a % 64) := nI_and (n := a) 6 64 (by omega) (by decide) (by decide)
theorem fl_form {a : Nat} (h : a < 256) : (nI a >>> (nI 2 &&& 31)) &&& nI 3 = nI (a / 4 % 4) := by
  rw [nI_shr 2 4 (by omega) (by decide) (by decide)]
  exact nI_and (n := a / 4) 2 4 (by omega) (by decide) (by decide)
theorem fl_sc {a b : Nat} (h : a < 256) (h2 : b < 256) : (nI a &&& nI 3) * nI 256 + nI b = nI (a % 4 * 256 + b) := by
  rw [show nI a &&& nI 3 = nI (a % 4) from nI_and (n := a) 2 4 (by omega) (by decide) (by decide), pk_mul, nI_add]
theorem fl_ch {a : Nat} (h : a < 256) : nI a >>> (nI 7 &&& 31) = nI (a / 128) := nI_shr 7 128 (by omega) (by decide) (by decide)
/-- a directive's begin, here as there -/
theorem beg_rel {M X : Mem} {ch : Int32} : SsR (fFS (mu (mu (mu (mu (mu M 55 3 (nI 1)) 55 4 ch) 55 5 (nI 0)) 55 6 (nI 0)) 55 7 (nI 0))) (fBeg0 (mu (mu (mu (mu (mu X 76 7 (nI 1)) 76 8 ch) 76 9 (nI 0)) 76 10 (nI 0)) 76 11 (nI 0))) ∧ StR (fFS (mu (mu (mu (mu (mu M 55 3 (nI 1)) 55 4 ch) 55 5 (nI 0)) 55 6 (nI 0)) 55 7 (nI 0))) (fBeg0 (mu (mu (mu (mu (mu X 76 7 (nI 1)) 76 8 ch) 76 9 (nI 0)) 76 10 (nI 0)) 76 11 (nI 0))) := by
  refine ⟨?_, ?_⟩
  · unfold SsR
    rw [fFS_p _ (by decide), fBeg0_p _ (by decide)]
    exact ⟨rfl, rfl, rfl, rfl, rfl⟩
  · intro j hj
    rcases (show j = 0 ∨ j = 1 ∨ j = 2 ∨ j = 3 by omega) with z | z | z | z <;> subst z <;> exact ⟨rfl, fun b => absurd rfl b⟩
theorem fFS_hi (M : Mem) {p : Nat} (h : 69 ≤ p) : fFS M p = M p := by
  unfold fFS fFg
  rw [mu_p _ _ _ (by omega), mu_p _ _ _ (by omega), mu_p _ _ _ (by omega), mu_p _ _ _ (by omega), mu_p _ _ _ (by omega), mu_p _ _ _ (by omega), mu_p _ _ _ (by omega), mu_p _ _ _ (by omega)]
theorem SsR.eq {M X M' X' : Mem} (h : SsR M X) (hM : ∀ k, 3 ≤ k → k < 8 → M' 55 k = M 55 k) (hX : ∀ k, 7 ≤ k → k < 12 → X' 76 k = X 76 k) : SsR M' X' := by
  unfold SsR at h ⊢
  rw [hM 3 (by decide) (by decide), hM 4 (by decide) (by decide), hM 5 (by decide) (by decide), hM 6 (by decide) (by decide), hM 7 (by decide) (by decide), hX 7 (by decide) (by decide), hX 8 (by decide) (by decide), hX 9 (by decide) (by decide), hX 10 (by decide) (by decide), hX 11 (by decide) (by decide)]
  exact h
theorem fDir_se (X : Mem) (g : Nat → Nat) (en : Nat) (ch : Int32) : SE (fDir X g en ch) X :=
  ⟨fDir_k _ _ _ _ (by decide) (by decide) (by decide) (by decide) (by decide), fDir_k _ _ _ _ (by decide) (by decide) (by decide) (by decide) (by decide), fDir_k _ _ _ _ (by decide) (by decide) (by decide) (by decide) (by decide), fDir_k _ _ _ _ (by decide) (by decide) (by decide) (by decide) (by decide), fDir_k _ _ _ _ (by decide) (by decide) (by decide) (by decide) (by decide), fDir_k _ _ _ _ (by decide) (by decide) (by decide) (by decide) (by decide), fDir_p _ _ _ _ (by decide) (by decide), fDir_p _ _ _ _ (by decide) (by decide), fDir_p _ _ _ _ (by decide) (by decide), fDir_p _ _ _ _ (by decide) (by decide), fDir_p _ _ _ _ (by decide) (by decide)⟩
theorem fF_k (Z : Mem) (g : Nat → Nat) (en : Nat) (sq : Int32) (fm : Nat) {x : Nat} (h1 : x ≠ 3) (h2 : x ≠ 4) (h3 : x ≠ 23) (h4 : x ≠ 15) (h5 : x ≠ 21) (h6 : x ≠ 22) : fF Z g en sq fm 76 x = Z 76 x := by
  unfold fF
  by_cases a : fm = 0
  · rw [if_pos a, fPIn_k _ _ _ _ h1 h2 h3 h4 h5 h6]
  · rw [if_neg a]
    by_cases b : fm = 1
    · rw [if_pos b, fSgX_k _ _ _ _ h1 h2 h3 h4 h5 h6]
    · rw [if_neg b]
theorem fTkE_F (X : Mem) (g : Nat → Nat) (t : Nat) : fTkE X g t = fF X g (3 + t) (nI 0) (g 3 / 4 % 4) := rfl
theorem fTkS_F (X : Mem) (g : Nat → Nat) (t vv : Nat) (h : (g 7 + 256 - vv) % 256 = 0) : fTkS X g t vv = fTk3 (fF X g (3 + t) (nI 1) (g 3 / 4 % 4)) (rF X g (3 + t) (nI 1) (g 3 / 4 % 4)) vv := by
  unfold fTkS fF rF
  rw [if_pos h]
  by_cases a : g 3 / 4 % 4 = 0
  · rw [if_pos a, if_pos a, if_pos a]
  · rw [if_neg a, if_neg a, if_neg a]
    by_cases b : g 3 / 4 % 4 = 1
    · rw [if_pos b, if_pos b, if_pos b]
    · rw [if_neg b, if_neg b, if_neg b]
theorem fSet_55 (M : Mem) (j n k : Nat) (v : Int32) (hk : k ≠ 9) {p : Nat} (hp : 61 ≤ p) : fSet (mu M 55 k v) j n p = fSet M j n p := by
  unfold fSet
  rw [mu_k _ _ _ hk.symm]
  by_cases a : M 55 9 = 0
  · rw [if_pos a, if_pos a]
    unfold fFg
    by_cases b : p = 61 + 2 * j
    · subst b; rw [mu_row, mu_row, mu_row, mu_row, mu_p _ _ _ (by omega)]
    · rw [mu_p _ _ _ b, mu_p _ _ _ b, mu_p _ _ _ b, mu_p _ _ _ b, mu_p _ _ _ (by omega)]
  · rw [if_neg a, if_neg a]
    by_cases b : p = 62 + 2 * j
    · subst b; rw [ma_row, ma_row, mu_p _ _ _ (by decide), mu_p _ _ _ (by omega)]
    · rw [ma_p _ _ b, ma_p _ _ b]
      by_cases d : p = 61 + 2 * j
      · subst d; rw [mu_row, mu_row, mu_row, mu_row, mu_p _ _ _ (by omega)]
      · rw [mu_p _ _ _ d, mu_p _ _ _ d, mu_p _ _ _ d, mu_p _ _ _ d, mu_p _ _ _ (by omega)]
theorem fSet_p (M : Mem) (j n : Nat) {p : Nat} (hj : j < 4) (h : p < 61 ∨ 69 ≤ p) : fSet M j n p = M p := by
  unfold fSet fFg
  split
  · rw [mu_p _ _ _ (by omega), mu_p _ _ _ (by omega)]
  · rw [ma_p _ _ (by omega), mu_p _ _ _ (by omega), mu_p _ _ _ (by omega)]
