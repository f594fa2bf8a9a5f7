theorem i32_ge {p : Int32} (h : ¬ p < 0) : p = nI p.toNatClampNeg ∧ p.toNatClampNeg < 2 ^ 31 := by
  have h1 : ¬ p.toInt < 0 := fun q => h (Int32.lt_iff_toInt_lt.mpr (by rw [Int32.toInt_zero]; exact q))
  have h2 := p.toInt_lt
  have h3 : p.toNatClampNeg = p.toInt.toNat := rfl
  have h4 : p.toNatClampNeg < 2 ^ 31 := by rw [h3]; omega
  refine ⟨?_, h4⟩
  apply Int32.toInt_inj.mp
  rw [nI_toInt h4, h3]
  omega
theorem rng {p : Int32} {a b : Nat} (h1 : ¬ p < nI a) (h2 : p ≤ nI b) (ha : a < 2 ^ 31) (hb : b < 2 ^ 31) : ∃ n, a ≤ n ∧ n ≤ b ∧ p = nI n := by
  have q1 : ¬ p.toInt < a := fun q => h1 (Int32.lt_iff_toInt_lt.mpr (by rw [nI_toInt ha]; exact q))
  have q2 : p.toInt ≤ b := by have := Int32.le_iff_toInt_le.mp h2; rw [nI_toInt hb] at this; exact this
  refine ⟨p.toInt.toNat, by omega, by omega, ?_⟩
  apply Int32.toInt_inj.mp
  rw [nI_toInt (by omega)]
  omega
theorem nPair_ok {p : Int32} (h : nPair p = 0) : p = nI 0 ∨ p = nI 1 := by
  unfold nPair at h
  by_cases a : p = 0
  · exact Or.inl a
  · rw [if_neg a] at h
    by_cases b : p = nI 1
    · exact Or.inr b
    · rw [if_neg b] at h; exact absurd h (by decide)
theorem nPair_bad {p : Int32} (h : ¬ nPair p = 0) : p < 0 ∨ nI 1 < p := by
  rcases Classical.em (p < 0) with a | a
  · exact Or.inl a
  · right
    rcases Classical.em (nI 1 < p) with b | b
    · exact b
    · exfalso
      obtain ⟨n, h1, h2, rfl⟩ := rng (p := p) (a := 0) (b := 1) a (Int32.not_lt.mp b) (by decide) (by decide)
      rcases (show n = 0 ∨ n = 1 by omega) with z | z <;> subst z <;> exact h (by decide)
theorem what_bad {p : Int32} {b : Nat} (hb : b < 2 ^ 31) (h : ∀ k, 0 ≤ k → k ≤ b → ¬ p = nI k) : p < 0 ∨ nI b < p := by
  rcases Classical.em (p < 0) with a | a
  · exact Or.inl a
  · right
    rcases Classical.em (nI b < p) with d | d
    · exact d
    · exfalso
      obtain ⟨n, h1, h2, e⟩ := rng (p := p) (a := 0) (b := b) a (Int32.not_lt.mp d) (by decide) hb
      exact h n h1 h2 e
theorem hasB_ok {M : Mem} {i : Int32} (h : ¬ hasB M i = 0) : ¬ M 73 2 = 0 ∧ ∃ k, k < 32 ∧ i = nI k := by
  unfold hasB at h
  by_cases a : M 73 2 = 0
  · rw [if_pos a] at h; exact absurd rfl h
  · rw [if_neg a] at h
    by_cases b : i < 0
    · rw [if_pos b] at h; exact absurd rfl h
    · rw [if_neg b] at h
      by_cases d : nI 32 ≤ i
      · rw [if_pos d] at h; exact absurd rfl h
      · have e := i32_ge b
        refine ⟨a, i.toNatClampNeg, ?_, e.1⟩
        rcases Nat.lt_or_ge i.toNatClampNeg 32 with w | w
        · exact w
        · exact absurd (by rw [e.1]; exact nI_le w e.2) d
theorem hasB_bad {M : Mem} {i : Int32} (h : hasB M i = 0) : M 73 2 = 0 ∨ i < 0 ∨ nI 31 < i := by
  unfold hasB at h
  by_cases a : M 73 2 = 0
  · exact Or.inl a
  · rw [if_neg a] at h
    by_cases b : i < 0
    · exact Or.inr (Or.inl b)
    · rw [if_neg b] at h
      by_cases d : nI 32 ≤ i
      · right; right
        have e := i32_ge b
        rw [e.1] at d ⊢
        have := (nI_leI (by decide) e.2).mp d
        exact nI_lt (by omega) e.2
      · rw [if_neg d] at h; exact absurd h (by decide)
theorem hasP_ok {M : Mem} {i : Int32} {cn : Nat} (hcn : M 3 3 = nI cn) (hc : cn ≤ 24) (h : ¬ hasP M i = 0) : ∃ k, k < cn ∧ i = nI k := by
  unfold hasP at h
  by_cases b : i < 0
  · rw [if_pos b] at h; exact absurd rfl h
  · rw [if_neg b] at h
    by_cases d : M 3 3 ≤ i
    · rw [if_pos d] at h; exact absurd rfl h
    · have e := i32_ge b
      refine ⟨i.toNatClampNeg, ?_, e.1⟩
      rcases Nat.lt_or_ge i.toNatClampNeg cn with w | w
      · exact w
      · exact absurd (by rw [hcn, e.1]; exact nI_le w e.2) d
theorem hasP_bad {M : Mem} {i : Int32} (h : hasP M i = 0) : i < 0 ∨ M 3 3 ≤ i := by
  unfold hasP at h
  by_cases b : i < 0
  · exact Or.inl b
  · rw [if_neg b] at h
    by_cases d : M 3 3 ≤ i
    · exact Or.inr d
    · rw [if_neg d] at h; exact absurd h (by decide)
theorem rep_eq {M X : Mem} (hs : SsR M X) (h10 : F10 X) : RepC M = if X 76 7 = 0 then 0 else (((32768 ||| (X 76 10 <<< (nI 13 &&& 31))) ||| (X 76 8 <<< (nI 12 &&& 31))) ||| (X 76 11 <<< (nI 8 &&& 31))) ||| X 76 9 := by
  unfold RepC
  rw [hs.1, hs.2.1, hs.2.2.1, hs.2.2.2.1, hs.2.2.2.2]
  by_cases a : X 76 7 = 0
  · rw [if_pos a, if_pos a]
  · rw [if_neg a, if_neg a]
    have e : (if X 76 10 = 0 then 0 else nI 8192) = X 76 10 <<< (nI 13 &&& 31) := by
      rcases h10 with z | z <;> rw [z] <;> decide
    rw [e]
theorem fOpen01 (a b c d : Int32) : fOpen a b c d = 0 ∨ fOpen a b c d = 1 := by
  unfold fOpen
  split
  · exact Or.inl rfl
  · exact Or.inr rfl
