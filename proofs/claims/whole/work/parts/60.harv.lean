theorem Pla_M (g : Nat → Nat) (n a : Nat) (hn : n ≤ 60) (ha : a ≤ n) (b : Nat) : Pla (fun k => g (b + k)) n a = PlaM g (b + a) (b + n) := by
  unfold Pla PlaM
  simp only [show b + (a + 4) = b + a + 4 by omega, show b + (a + 5) = b + a + 5 by omega]
  by_cases h1 : n - a < 7
  · rw [if_pos h1, if_pos (by omega)]
  · rw [if_neg h1, if_neg (show ¬ b + n < b + a + 7 by omega)]
    by_cases h2 : g (b + a) < 8
    · rw [if_pos h2, if_pos h2]
    · rw [if_neg h2, if_neg h2]
      by_cases h3 : 15 < g (b + a)
      · rw [if_pos h3, if_pos h3]
      · rw [if_neg h3, if_neg h3]
        generalize g (b + a + 4) * 256 + g (b + a + 5) + 7 = T
        by_cases h4 : n - a < T
        · rw [if_pos h4]
          by_cases h5 : 60 < T
          · rw [if_pos h5]
          · rw [if_neg h5, if_pos (by omega)]
        · rw [if_neg h4, if_neg (by omega), if_neg (by omega)]
theorem Pla_7 (g : Nat → Nat) (n a : Nat) : Pla g n a = 0 ∨ 7 ≤ Pla g n a := by
  unfold Pla
  (repeat' split) <;> omega
theorem Pla_congr {g h : Nat → Nat} {n : Nat} (e : ∀ k, k < n → g k = h k) {a : Nat} (ha : a ≤ n) : Pla g n a = Pla h n a := by
  unfold Pla
  by_cases h1 : n - a < 7
  · rw [if_pos h1, if_pos h1]
  · rw [if_neg h1, if_neg h1, e a (by omega), e (a + 4) (by omega), e (a + 5) (by omega)]
/-- the store's part of the reference's memory -/
def SE (X Y : Mem) : Prop := X 76 3 = Y 76 3 ∧ X 76 4 = Y 76 4 ∧ X 76 15 = Y 76 15 ∧ X 76 21 = Y 76 21 ∧ X 76 22 = Y 76 22 ∧ X 76 23 = Y 76 23 ∧ X 82 = Y 82 ∧ X 83 = Y 83 ∧ X 84 = Y 84 ∧ X 85 = Y 85 ∧ X 86 = Y 86
theorem SE.refl (X : Mem) : SE X X := ⟨rfl, rfl, rfl, rfl, rfl, rfl, rfl, rfl, rfl, rfl, rfl⟩
theorem SE.symm {X Y : Mem} (h : SE X Y) : SE Y X := by
  obtain ⟨a1, a2, a3, a4, a5, a6, a7, a8, a9, a10, a11⟩ := h
  exact ⟨a1.symm, a2.symm, a3.symm, a4.symm, a5.symm, a6.symm, a7.symm, a8.symm, a9.symm, a10.symm, a11.symm⟩
theorem SE.trans {X Y Z : Mem} (h : SE X Y) (k : SE Y Z) : SE X Z := by
  obtain ⟨a1, a2, a3, a4, a5, a6, a7, a8, a9, a10, a11⟩ := h
  obtain ⟨b1, b2, b3, b4, b5, b6, b7, b8, b9, b10, b11⟩ := k
  exact ⟨a1.trans b1, a2.trans b2, a3.trans b3, a4.trans b4, a5.trans b5, a6.trans b6, a7.trans b7, a8.trans b8, a9.trans b9, a10.trans b10, a11.trans b11⟩
theorem SE.u1 {X Y : Mem} (h : SE X Y) : uX X = uX Y := by
  funext b
  exact uX_same h.2.2.1 (fun q _ => by rw [h.2.2.2.2.2.2.2.2.2.1]) b
theorem SE.c1 {X Y : Mem} (h : SE X Y) : cX X = cX Y := by unfold cX; rw [h.2.2.1]
theorem SE.mu1 {X : Mem} {p : Nat} (k : Nat) (v : Int32) (h76 : p ≠ 76) (h82 : p ≠ 82) (h83 : p ≠ 83) (h84 : p ≠ 84) (h85 : p ≠ 85) (h86 : p ≠ 86) : SE (mu X p k v) X := by
  unfold SE
  rw [mu_p _ _ _ h76.symm, mu_p _ _ _ h82.symm, mu_p _ _ _ h83.symm, mu_p _ _ _ h84.symm, mu_p _ _ _ h85.symm, mu_p _ _ _ h86.symm]
  exact SE.refl X
theorem SE.k {X : Mem} {k : Nat} (v : Int32) (h1 : k ≠ 3) (h2 : k ≠ 4) (h3 : k ≠ 15) (h4 : k ≠ 21) (h5 : k ≠ 22) (h6 : k ≠ 23) : SE (mu X 76 k v) X := by
  unfold SE
  rw [mu_k _ _ _ h1.symm, mu_k _ _ _ h2.symm, mu_k _ _ _ h3.symm, mu_k _ _ _ h4.symm, mu_k _ _ _ h5.symm, mu_k _ _ _ h6.symm]
  exact ⟨rfl, rfl, rfl, rfl, rfl, rfl, rfl, rfl, rfl, rfl, rfl⟩
theorem XSv.se {c0 : Nat} {ln em : Nat → Nat} {bk : Nat → Nat → Nat} {X Y : Mem} (h : XSv c0 ln em bk X) (e : SE Y X) : XSv c0 ln em bk Y := by
  obtain ⟨a1, a2, a3, a4, a5, a6, a7, a8, a9, a10, a11⟩ := e
  exact h.same a3 (by rw [a1]; exact h.2.2.1) (fun i _ => by rw [a8]) (fun i _ => by rw [a11]) (fun i _ => by rw [a10]) (fun i _ => by rw [a9])
theorem SR.se {M X Y : Mem} (h : SR M X) (e : SE Y X) : SR M Y := by
  obtain ⟨c0, ln, em, bk, q, hS, hR⟩ := h
  have hS2 := hS.se e
  obtain ⟨a1, a2, a3, a4, a5, a6, a7, a8, a9, a10, a11⟩ := e
  exact ⟨c0, ln, em, bk, q, hS2, hR.fr hS.2.1 (fun _ _ _ => rfl) a3 a4 a5 a6 a2 a1 a7 a9 a10⟩
theorem SR.fr {M M' X : Mem} (h : SR M X) (hM : ∀ p, 3 ≤ p → p < 55 → M' p = M p) : SR M' X := by
  obtain ⟨c0, ln, em, bk, q, hS, hR⟩ := h
  exact ⟨c0, ln, em, bk, q, hS, hR.fr hS.2.1 hM rfl rfl rfl rfl rfl rfl rfl rfl rfl⟩
theorem SR.xs {M X : Mem} (h : SR M X) : XS X := by
  obtain ⟨c0, ln, em, bk, q, hS, hR⟩ := h
  exact ⟨c0, ln, em, bk, hS⟩
/-- the packets of a row are kept, one after the other, as far as there is power and room -/
def kwF (src : Nat) (at0 ln : Nat → Nat) : Nat → Nat → Mem → Mem
  | 0, _, X => X
  | r + 1, i, X => kwF src at0 ln r (i + 1) (if X 76 3 = 0 then (if (ln i + 19) / 20 ≤ cntF (uX X) 24 then fKeep X src (at0 i) (ln i) else X) else X)
theorem kwF_out {src : Nat} {at0 ln : Nat → Nat} : ∀ (r i : Nat) {X : Mem}, ¬ X 76 3 = 0 → kwF src at0 ln r i X = X
  | 0, _, _, _ => rfl
  | r + 1, i, X, h => by unfold kwF; rw [if_neg h]; exact kwF_out r (i + 1) h
/-- where the i-th packet of a row begins -/
def fa (g : Nat → Nat) (n : Nat) : Nat → Nat
  | 0 => 0
  | i + 1 => fa g n i + Pla g n (fa g n i)
def fl (g : Nat → Nat) (n i : Nat) : Nat := Pla g n (fa g n i)
def fc (g : Nat → Nat) (n : Nat) : Nat → Nat → Nat
  | 0, _ => 0
  | r + 1, i => if fl g n i = 0 then 0 else fc g n r (i + 1) + 1
theorem fc_le (g : Nat → Nat) (n : Nat) : ∀ (r i : Nat), fc g n r i ≤ r
  | 0, _ => Nat.le_refl _
  | r + 1, i => by unfold fc; split; omega; have := fc_le g n r (i + 1); omega
theorem fa_le (g : Nat → Nat) (n : Nat) : ∀ (i : Nat), fa g n i ≤ n
  | 0 => Nat.zero_le _
  | i + 1 => by unfold fa; have := fa_le g n i; have := Pla_le g n (fa g n i); omega
theorem fc_in (g : Nat → Nat) (n : Nat) : ∀ (r i x : Nat), i ≤ x → x < i + fc g n r i → ¬ fl g n x = 0
  | 0, i, x, h1, h2 => by unfold fc at h2; omega
  | r + 1, i, x, h1, h2 => by
    unfold fc at h2
    by_cases z : fl g n i = 0
    · rw [if_pos z] at h2; omega
    · rw [if_neg z] at h2
      by_cases y : x = i
      · rw [y]; exact z
      · exact fc_in g n r (i + 1) x (by omega) (by omega)
theorem fFind_p (g : Nat → Nat) (n : Nat) : ∀ (r a c : Nat) (M : Mem) {p : Nat}, p ≠ 56 → p ≠ 58 → p ≠ 59 → fFind g n r a c M p = M p
  | 0, _, _, _, _, _, _, _ => rfl
  | r + 1, a, c, M, p, h1, h2, h3 => by
    unfold fFind
    by_cases z : Pla g n a = 0
    · rw [if_pos z]
    · rw [if_neg z, fFind_p g n r _ _ _ h1 h2 h3, mu_p _ _ _ h1, mu_p _ _ _ h3, mu_p _ _ _ h2]
theorem fFind_k (g : Nat → Nat) (n : Nat) : ∀ (r a c : Nat) (M : Mem) {k : Nat}, k ≠ 4 → fFind g n r a c M 56 k = M 56 k
  | 0, _, _, _, _, _ => rfl
  | r + 1, a, c, M, k, h => by
    unfold fFind
    by_cases z : Pla g n a = 0
    · rw [if_pos z]
    · rw [if_neg z, fFind_k g n r _ _ _ h, mu_k _ _ _ h, mu_p _ _ _ (by decide), mu_p _ _ _ (by decide)]
theorem fFind_c (g : Nat → Nat) (n : Nat) : ∀ (r i : Nat) (M : Mem), M 56 4 = nI i → fFind g n r (fa g n i) i M 56 4 = nI (i + fc g n r i)
  | 0, _, _, h => h
  | r + 1, i, M, h => by
    unfold fFind fc
    by_cases z : fl g n i = 0
    · have z' : Pla g n (fa g n i) = 0 := z
      rw [if_pos z, if_pos z']; exact h
    · have z' : ¬ Pla g n (fa g n i) = 0 := z
      rw [if_neg z, if_neg z']
      have := fFind_c g n r (i + 1) (mu (mu (mu M 58 i (nI (fa g n i))) 59 i (nI (Pla g n (fa g n i)))) 56 4 (nI (i + 1))) (mu_same _ _ _ _)
      rw [show i + (fc g n r (i + 1) + 1) = i + 1 + fc g n r (i + 1) by omega]
      exact this
theorem fFind_58 (g : Nat → Nat) (n : Nat) : ∀ (r i : Nat) (M : Mem) (x : Nat), (i ≤ x ∧ x < i + fc g n r i → fFind g n r (fa g n i) i M 58 x = nI (fa g n x) ∧ fFind g n r (fa g n i) i M 59 x = nI (fl g n x)) ∧ (x < i → fFind g n r (fa g n i) i M 58 x = M 58 x ∧ fFind g n r (fa g n i) i M 59 x = M 59 x)
  | 0, i, M, x => ⟨fun h => absurd h.2 (by unfold fc; omega), fun _ => ⟨rfl, rfl⟩⟩
  | r + 1, i, M, x => by
    unfold fFind fc
    by_cases z : fl g n i = 0
    · rw [if_pos z]
      have z' : Pla g n (fa g n i) = 0 := z
      rw [if_pos z']
      exact ⟨fun h => absurd h.2 (by omega), fun _ => ⟨rfl, rfl⟩⟩
    · have z' : ¬ Pla g n (fa g n i) = 0 := z
      rw [if_neg z, if_neg z']
      have ih := fFind_58 g n r (i + 1) (mu (mu (mu M 58 i (nI (fa g n i))) 59 i (nI (Pla g n (fa g n i)))) 56 4 (nI (i + 1))) x
      have e8 : ∀ y, mu (mu (mu M 58 i (nI (fa g n i))) 59 i (nI (Pla g n (fa g n i)))) 56 4 (nI (i + 1)) 58 y = upd (M 58) i (nI (fa g n i)) y := fun y => rfl
      have e9 : ∀ y, mu (mu (mu M 58 i (nI (fa g n i))) 59 i (nI (Pla g n (fa g n i)))) 56 4 (nI (i + 1)) 59 y = upd (M 59) i (nI (fl g n i)) y := fun y => rfl
      have s1 : fa g n (i + 1) = fa g n i + Pla g n (fa g n i) := rfl
      rw [s1] at ih
      refine ⟨fun h => ?_, fun h => ?_⟩
      · by_cases y : x = i
        · rw [(ih.2 (by omega)).1, (ih.2 (by omega)).2, e8, e9, y]
          simp [upd]
        · exact ih.1 ⟨by omega, by omega⟩
      · rw [(ih.2 (by omega)).1, (ih.2 (by omega)).2, e8, e9]
        simp only [upd, if_neg (show ¬ x = i by omega), and_self]
theorem fa_ge (g : Nat → Nat) (n : Nat) : ∀ (r i x : Nat), x ≤ fc g n r i → fa g n i + 7 * x ≤ fa g n (i + x)
  | _, _, 0, _ => by rw [Nat.mul_zero, Nat.add_zero, Nat.add_zero]; exact Nat.le_refl _
  | 0, i, x + 1, h => by unfold fc at h; omega
  | r + 1, i, x + 1, h => by
    unfold fc at h
    by_cases z : fl g n i = 0
    · rw [if_pos z] at h; omega
    · rw [if_neg z] at h
      have ih := fa_ge g n r (i + 1) x (by omega)
      have s1 : fa g n (i + 1) = fa g n i + fl g n i := rfl
      have := Pla_7 g n (fa g n i)
      have e : fl g n i = Pla g n (fa g n i) := rfl
      rw [show i + (x + 1) = i + 1 + x by omega]
      omega
theorem pk_kw (g h : Nat → Nat) (n : Nat) (hn : n ≤ 60) (hh : ∀ k, h k = g (8 + k)) : ∀ (r f i : Nat) (X : Mem), n < fa h n i + 7 * (r + 1) → r < f → fPkI g (8 + n) f (8 + fa h n i) X = kwF 78 (fun x => 8 + fa h n x) (fl h n) (fc h n r i) i X
  | r, 0, _, _, _, hf => absurd hf (Nat.not_lt_zero _)
  | 0, f + 1, i, X, hm, _ => by
    have e : PlaM g (8 + fa h n i) (8 + n) = fl h n i := by rw [← Pla_M g n _ hn (fa_le h n i) 8]; exact (Pla_congr (fun k _ => (hh k)) (fa_le h n i)).symm
    have z : fl h n i = 0 := by
      have := Pla_7 h n (fa h n i)
      have := Pla_le h n (fa h n i)
      unfold fl; omega
    unfold fPkI
    rw [e, if_pos z]
    rfl
  | r + 1, f + 1, i, X, hm, hf => by
    have e : PlaM g (8 + fa h n i) (8 + n) = fl h n i := by rw [← Pla_M g n _ hn (fa_le h n i) 8]; exact (Pla_congr (fun k _ => (hh k)) (fa_le h n i)).symm
    unfold fPkI fc
    rw [e]
    by_cases z : fl h n i = 0
    · rw [if_pos z, if_pos z]; rfl
    · rw [if_neg z, if_neg z]
      show _ = kwF 78 _ _ (fc h n r (i + 1)) (i + 1) (if X 76 3 = 0 then (if (fl h n i + 19) / 20 ≤ cntF (uX X) 24 then fKeep X 78 (8 + fa h n i) (fl h n i) else X) else X)
      by_cases o : X 76 3 = 0
      · rw [if_pos o, if_pos o]
        have s1 : fa h n (i + 1) = fa h n i + fl h n i := rfl
        have := Pla_7 h n (fa h n i)
        have e2 : fl h n i = Pla h n (fa h n i) := rfl
        rw [show 8 + fa h n i + fl h n i = 8 + fa h n (i + 1) by omega]
        exact pk_kw g h n hn hh r f (i + 1) _ (by omega) (by omega)
      · rw [if_neg o, if_neg o, kwF_out _ _ o]
theorem nd_sum (g h : Nat → Nat) (n : Nat) (hn : n ≤ 60) (hh : ∀ k, h k = g (8 + k)) : ∀ (r f i : Nat), n < fa h n i + 7 * (r + 1) → r < f → fSumB (fl h n) i + fNd g (8 + n) f (8 + fa h n i) = fSumB (fl h n) (i + fc h n r i)
  | r, 0, _, _, hf => absurd hf (Nat.not_lt_zero _)
  | 0, f + 1, i, hm, _ => by
    have e : PlaM g (8 + fa h n i) (8 + n) = fl h n i := by rw [← Pla_M g n _ hn (fa_le h n i) 8]; exact (Pla_congr (fun k _ => (hh k)) (fa_le h n i)).symm
    have z : fl h n i = 0 := by
      have := Pla_7 h n (fa h n i)
      have := Pla_le h n (fa h n i)
      unfold fl; omega
    unfold fNd
    rw [e, if_pos z]
    rfl
  | r + 1, f + 1, i, hm, hf => by
    have e : PlaM g (8 + fa h n i) (8 + n) = fl h n i := by rw [← Pla_M g n _ hn (fa_le h n i) 8]; exact (Pla_congr (fun k _ => (hh k)) (fa_le h n i)).symm
    unfold fNd fc
    rw [e]
    by_cases z : fl h n i = 0
    · rw [if_pos z, if_pos z]; rfl
    · rw [if_neg z, if_neg z]
      have s1 : fa h n (i + 1) = fa h n i + fl h n i := rfl
      have := Pla_7 h n (fa h n i)
      have e2 : fl h n i = Pla h n (fa h n i) := rfl
      have ih := nd_sum g h n hn hh r f (i + 1) (by omega) (by omega)
      have s2 : fSumB (fl h n) (i + 1) = fSumB (fl h n) i + (fl h n i + 20 - 1) / 20 := rfl
      rw [show 8 + fa h n i + fl h n i = 8 + fa h n (i + 1) by omega, show i + (fc h n r (i + 1) + 1) = i + 1 + fc h n r (i + 1) by omega]
      omega
