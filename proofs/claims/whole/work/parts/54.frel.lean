theorem skX_fuel (X : Mem) (c0 : Nat) (ch : Int32) : ∀ (f f' i : Nat), c0 - i < f → c0 - i < f' → skX X c0 ch f i = skX X c0 ch f' i
  | 0, _, _, h, _ => absurd h (Nat.not_lt_zero _)
  | _ + 1, 0, _, _, h => absurd h (Nat.not_lt_zero _)
  | f + 1, f' + 1, i, h, h' => by
    unfold skX
    by_cases h1 : i < c0
    · rw [if_pos h1, if_pos h1, skX_fuel X c0 ch f f' (i + 1) (by omega) (by omega)]
    · rw [if_neg h1, if_neg h1]
theorem skX_skip {X : Mem} {c0 i : Nat} {ch : Int32} (hc : c0 ≤ 24) (hi : i < c0) (hs : ¬ X 84 (60 * i + 1) &&& nI 1 = ch ∨ X 86 i = X 83 i) : skX X c0 ch 25 i = skX X c0 ch 25 (i + 1) := by
  have e : skX X c0 ch 25 i = skX X c0 ch 24 (i + 1) := by
    rcases hs with h | h
    · exact (if_pos hi).trans (if_neg h)
    · by_cases h2 : X 84 (60 * i + 1) &&& nI 1 = ch
      · exact ((if_pos hi).trans (if_pos h2)).trans (if_pos h)
      · exact (if_pos hi).trans (if_neg h2)
  rw [e]
  exact skX_fuel X c0 ch 24 25 (i + 1) (by omega) (by omega)
theorem skX_here {X : Mem} {c0 i : Nat} {ch : Int32} (hi : i < c0) (h1 : X 84 (60 * i + 1) &&& nI 1 = ch) (h2 : ¬ X 86 i = X 83 i) : skX X c0 ch 25 i = i := ((if_pos hi).trans (if_pos h1)).trans (if_neg h2)
theorem skX_end {X : Mem} {c0 : Nat} {ch : Int32} : skX X c0 ch 25 c0 = c0 := if_neg (Nat.lt_irrefl _)
theorem flM_skip {X : Mem} {c0 i r k so : Nat} {ch pt : Int32} (hc : c0 ≤ 24) (hi : i < c0) (hs : ¬ X 84 (60 * i + 1) &&& nI 1 = ch ∨ X 86 i = X 83 i) : flM c0 ch r k i pt so X = flM c0 ch r k (i + 1) pt so X := by
  cases r with
  | zero => rfl
  | succ r =>
    unfold flM
    rw [skX_skip hc hi hs]
def filX : Nat → Nat → Mem → Mem
  | 0, _, X => X
  | r + 1, k, X => filX r (k + 1) (mu X 87 k (nI 85))
theorem filX_p : ∀ (r k : Nat) (X : Mem) {p : Nat}, p ≠ 87 → filX r k X p = X p
  | 0, _, _, _, _ => rfl
  | r + 1, k, X, p, h => by unfold filX; rw [filX_p r (k + 1) _ h, mu_p _ _ _ h]
theorem filX_87 : ∀ (r k : Nat) (X : Mem) (y : Nat), filX r k X 87 y = if k ≤ y ∧ y < k + r then nI 85 else X 87 y
  | 0, k, X, y => by rw [if_neg (by omega)]; rfl
  | r + 1, k, X, y => by
    unfold filX
    rw [filX_87 r (k + 1) _ y]
    by_cases h1 : y = k
    · rw [if_neg (by omega), if_pos (by omega), h1, mu_same]
    · rw [mu_k _ _ _ h1]
      by_cases h2 : k + 1 ≤ y ∧ y < k + 1 + r
      · rw [if_pos h2, if_pos (by omega)]
      · rw [if_neg h2, if_neg (by omega)]
theorem flM_end {c0 so : Nat} {ch pt : Int32} : ∀ (r k : Nat) (X : Mem), flM c0 ch r k c0 pt so X = endF (filX r k X) (toldX pt so)
  | 0, _, _ => rfl
  | r + 1, k, X => by
    unfold flM
    rw [skX_end, if_pos rfl, flM_end r (k + 1) _]
    rfl
def emR (i : Nat) : Nat → Nat → Mem → Mem
  | 0, _, X => X
  | m + 1, k, X => emR i m (k + 1) (emB X k i)
theorem emB_86 (X : Mem) (k i : Nat) : emB X k i 86 i = nI (eX X i + 1) := mu_same _ _ _ _
theorem eX_emB {X : Mem} {k i : Nat} (h : eX X i < 60) : eX (emB X k i) i = eX X i + 1 := by show (emB X k i 86 i).toNatClampNeg = _; rw [emB_86, nI_clamp (by omega)]
theorem emB_p (X : Mem) (k i : Nat) {p : Nat} (h1 : p ≠ 86) (h2 : p ≠ 87) : emB X k i p = X p := by unfold emB; rw [mu_p _ _ _ h1, mu_p _ _ _ h2]
theorem emR_p (i : Nat) : ∀ (m k : Nat) (X : Mem) {p : Nat}, p ≠ 86 → p ≠ 87 → emR i m k X p = X p
  | 0, _, _, _, _, _ => rfl
  | m + 1, k, X, p, h1, h2 => by unfold emR; rw [emR_p i m _ _ h1 h2, emB_p _ _ _ h1 h2]
theorem emR_86n (i : Nat) : ∀ (m k : Nat) (X : Mem) {x : Nat}, x ≠ i → emR i m k X 86 x = X 86 x
  | 0, _, _, _, _ => rfl
  | m + 1, k, X, x, h => by unfold emR; rw [emR_86n i m _ _ h]; unfold emB; rw [mu_k _ _ _ h, mu_p _ _ _ (by decide)]
theorem emR_86 (i : Nat) : ∀ (m k : Nat) (X : Mem), X 86 i = nI (eX X i) → eX X i + m ≤ 60 → emR i m k X 86 i = nI (eX X i + m)
  | 0, _, _, h, _ => h
  | m + 1, k, X, h, hm => by
    unfold emR
    have e := eX_emB (X := X) (k := k) (i := i) (by omega)
    rw [emR_86 i m (k + 1) _ (by rw [emB_86, e]) (by omega), e, show eX X i + 1 + m = eX X i + (m + 1) by omega]
theorem emR_87 (i : Nat) : ∀ (m k : Nat) (X : Mem) (y : Nat), eX X i + m ≤ 60 → emR i m k X 87 y = if k ≤ y ∧ y < k + m then X 84 (60 * i + (eX X i + (y - k))) else X 87 y
  | 0, k, X, y, _ => by rw [if_neg (by omega)]; rfl
  | m + 1, k, X, y, hm => by
    unfold emR
    have e := eX_emB (X := X) (k := k) (i := i) (by omega)
    rw [emR_87 i m (k + 1) _ y (by omega), e, emB_p _ _ _ (show (84 : Nat) ≠ 86 by decide) (by decide)]
    have e2 : emB X k i 87 y = upd (X 87) k (X 84 (60 * i + eX X i)) y := by unfold emB; rw [mu_p _ _ _ (by decide), mu_row]
    rw [e2]
    by_cases h1 : y = k
    · rw [if_neg (by omega), if_pos (by omega), h1]
      simp only [upd, if_true]
      rw [show eX X i + (k - k) = eX X i by omega]
    · simp only [upd, h1, if_false]
      by_cases h2 : k + 1 ≤ y ∧ y < k + 1 + m
      · rw [if_pos h2, if_pos (by omega), show eX X i + 1 + (y - (k + 1)) = eX X i + (y - k) by omega]
      · rw [if_neg h2, if_neg (by omega)]
theorem flM_emit {c0 i ln0 : Nat} {ch : Int32} (hi : i < c0) (h60 : ln0 ≤ 60) : ∀ (m r k so : Nat) (pt : Int32) (X : Mem), 1 ≤ m → m ≤ r → X 84 (60 * i + 1) &&& nI 1 = ch → X 83 i = nI ln0 → X 86 i = nI (eX X i) → eX X i + m ≤ ln0 →
    flM c0 ch r k i pt so X = flM c0 ch (r - m) (k + m) i (if eX X i = 0 then (if pt < 0 then nI (k - 8) else pt) else pt) 1 (emR i m k X)
  | 0, _, _, _, _, _, h, _, _, _, _, _ => absurd h (by omega)
  | m + 1, 0, _, _, _, _, _, h, _, _, _, _ => absurd h (by omega)
  | m + 1, r + 1, k, so, pt, X, h1, hr, hp, h83, h86, hl => by
    have hs := skX_here (X := X) hi hp (by rw [h86, h83]; exact fun z => absurd ((nI_eq (by omega) (by omega)).mp z) (by omega))
    have e := eX_emB (X := X) (k := k) (i := i) (by omega)
    conv => lhs; unfold flM
    rw [hs, if_neg (by omega)]
    by_cases hm : m = 0
    · subst hm
      rw [show r + 1 - (0 + 1) = r by omega]
      rfl
    · rw [flM_emit hi h60 m r (k + 1) 1 _ (emB X k i) (by omega) (by omega) (by rw [emB_p _ _ _ (by decide) (by decide)]; exact hp) (by rw [emB_p _ _ _ (by decide) (by decide)]; exact h83) (by rw [emB_86, e]) (by omega), e, if_neg (by omega), show r + 1 - (m + 1) = r - m by omega, show k + 1 + m = k + (m + 1) by omega]
      rfl
theorem fEmP_p (g : Nat → Int32) (j : Nat) : ∀ (r a e : Nat) (M : Mem) {p : Nat}, p ≠ 74 → p ≠ 7 + 2 * j → fEmP g j r a e M p = M p
  | 0, _, _, _, _, _, _ => rfl
  | r + 1, a, e, M, p, h1, h2 => by unfold fEmP; rw [fEmP_p g j r _ _ _ h1 h2, mu_p _ _ _ h2, mu_p _ _ _ h1]
theorem fEmP_k (g : Nat → Int32) (j : Nat) : ∀ (r a e : Nat) (M : Mem) {x : Nat}, x ≠ 4 → fEmP g j r a e M (7 + 2 * j) x = M (7 + 2 * j) x
  | 0, _, _, _, _, _ => rfl
  | r + 1, a, e, M, x, h => by unfold fEmP; rw [fEmP_k g j r _ _ _ h, mu_k _ _ _ h]; by_cases q : 7 + 2 * j = 74; omega; rw [mu_p _ _ _ q]
theorem fEmP_4 (g : Nat → Int32) (j : Nat) : ∀ (r a e : Nat) (M : Mem), M (7 + 2 * j) 4 = nI e → fEmP g j r a e M (7 + 2 * j) 4 = nI (e + r)
  | 0, _, _, _, h => h
  | r + 1, a, e, M, h => by unfold fEmP; rw [fEmP_4 g j r _ _ _ (mu_same _ _ _ _), show e + 1 + r = e + (r + 1) by omega]
theorem fEmP_74 (g : Nat → Int32) (j : Nat) : ∀ (r a e : Nat) (M : Mem) (y : Nat), fEmP g j r a e M 74 y = if a ≤ y ∧ y < a + r then g (e + (y - a)) else M 74 y
  | 0, a, e, M, y => by rw [if_neg (by omega)]; rfl
  | r + 1, a, e, M, y => by
    unfold fEmP
    rw [fEmP_74 g j r (a + 1) (e + 1) _ y, mu_p _ _ _ (by omega)]
    by_cases h1 : y = a
    · rw [if_neg (by omega), if_pos (by omega), h1, mu_same, show e + (a - a) = e by omega]
    · rw [mu_k _ _ _ h1]
      by_cases h2 : a + 1 ≤ y ∧ y < a + 1 + r
      · rw [if_pos h2, if_pos (by omega), show e + 1 + (y - (a + 1)) = e + (y - a) by omega]
      · rw [if_neg h2, if_neg (by omega)]
section ZFR
variable {c0 : Nat} {ln em : Nat → Nat} {bk : Nat → Nat → Nat} {q : Nat → Nat} {M X : Mem}
theorem XSv.emRt (hS : XSv c0 ln em bk X) {i m k : Nat} (hi : i < c0) (hm : em i + m ≤ ln i) : XSv c0 ln (ex1 em i (em i + m)) bk (emR i m k X) := by
  have e0 := hS.e hi
  have hl := (hS.2.2.2.1 i hi).2.2
  have h86 := (hS.2.2.2.2.1 i hi).1
  have hc := hS.c
  have huu : ∀ b, uX (emR i m k X) b = uX X b := uX_same (by rw [emR_p _ _ _ _ (by decide) (by decide)]) (fun z _ => by rw [emR_p _ _ _ _ (by decide) (by decide)])
  obtain ⟨a1, a2, a3, a4, a5, a6, a7, a8, a9, a10⟩ := hS
  refine ⟨by rw [emR_p _ _ _ _ (by decide) (by decide)]; exact a1, a2, by rw [emR_p _ _ _ _ (by decide) (by decide)]; exact a3, by rw [emR_p _ _ _ _ (by decide) (by decide)]; exact a4, fun x hx => ?_, by rw [emR_p _ _ _ _ (by decide) (by decide)]; exact a6, by rw [emR_p _ _ _ _ (by decide) (by decide)]; exact a7, a8, by rw [cntF_congr 24 (fun b _ => huu b)]; exact a9, by rw [emR_p _ _ _ _ (by decide) (by decide)]; exact a10⟩
  by_cases z : x = i
  · subst z
    rw [ex1_c, emR_86 _ _ _ _ (by rw [e0]; exact h86) (by omega), e0]
    exact ⟨rfl, hm⟩
  · rw [ex1_n _ _ z, emR_86n _ _ _ _ z]
    exact a5 x hx
theorem CRv.emRt (h : CRv c0 ln em bk q M X) (hS : XSv c0 ln em bk X) {i m k : Nat} (hi : i < c0) (hm : em i + m ≤ ln i) (g : Nat → Int32) : CRv c0 ln (ex1 em i (em i + m)) bk q (fEmP g (q i) m k (em i) M) (emR i m k X) := by
  have huu : ∀ b, uX (emR i m k X) b = uX X b := uX_same (by rw [emR_p _ _ _ _ (by decide) (by decide)]) (fun z _ => by rw [emR_p _ _ _ _ (by decide) (by decide)])
  have hc24 := hS.2.1
  obtain ⟨r1, r2, r3, r4, r5, r6, r7, r8, r9, r10, r11, r12, r13, r14⟩ := h
  have hqi := (r9 i (by omega)).2
  refine ⟨?_, ?_, ?_, ?_, ?_, ?_, ?_, ?_, ?_, r10, ?_, ?_, ?_, ?_⟩
  · rw [fEmP_p _ _ _ _ _ _ (by decide) (by omega)]; exact r1
  · rw [fEmP_p _ _ _ _ _ _ (by decide) (by omega), cntF_congr 24 (fun b _ => huu b)]; exact r2
  · rw [fEmP_p _ _ _ _ _ _ (by decide) (by omega), emR_p _ _ _ _ (by decide) (by decide)]; exact r3
  · rw [fEmP_p _ _ _ _ _ _ (by decide) (by omega), emR_p _ _ _ _ (by decide) (by decide)]; exact r4
  · rw [fEmP_p _ _ _ _ _ _ (by decide) (by omega), emR_p _ _ _ _ (by decide) (by decide)]; exact r5
  · rw [fEmP_p _ _ _ _ _ _ (by decide) (by omega), emR_p _ _ _ _ (by decide) (by decide)]; exact r6
  · rw [fEmP_p _ _ _ _ _ _ (by decide) (by omega), emR_p _ _ _ _ (by decide) (by decide)]; exact r7
  · intro b hb; rw [fEmP_p _ _ _ _ _ _ (by decide) (by omega), huu]; exact r8 b hb
  · rw [fEmP_p _ _ _ _ _ _ (by decide) (by omega)]; exact r9
  · intro j hj x hx; rw [fEmP_p _ _ _ _ _ _ (by omega) (by omega)]; exact r11 j hj x hx
  · intro x hx
    have hqx := (r9 x (by omega)).2
    rw [emR_p _ _ _ _ (show (82 : Nat) ≠ 86 by decide) (by decide), emR_p _ _ _ _ (show (84 : Nat) ≠ 86 by decide) (by decide)]
    by_cases z : x = i
    · subst z
      rw [ex1_c, fEmP_k _ _ _ _ _ _ (by decide), fEmP_k _ _ _ _ _ _ (by decide), fEmP_k _ _ _ _ _ _ (by decide), fEmP_4 _ _ _ _ _ _ (r12 x hx).2.2.2]
      exact ⟨(r12 x hx).1, (r12 x hx).2.1, (r12 x hx).2.2.1, rfl⟩
    · have hne : q x ≠ q i := fun e => z (r10 x i (by omega) (by omega) e)
      rw [ex1_n _ _ z, fEmP_p _ _ _ _ _ _ (by omega) (by omega)]
      exact r12 x hx
  · intro x y hx hy
    have hqx := (r9 x (by omega)).2
    rw [fEmP_p _ _ _ _ _ _ (by omega) (by omega)]; exact r13 x y hx hy
  · intro x y hx hy; rw [fEmP_p _ _ _ _ _ _ (by decide) (by omega), emR_p _ _ _ _ (by decide) (by decide)]; exact r14 x y hx hy
theorem CRv.f74 (h : CRv c0 ln em bk q M X) (hc : c0 ≤ 24) {M' X' : Mem} (hM : ∀ p, p ≠ 74 → M' p = M p) (hX : ∀ p, p ≠ 87 → X' p = X p) : CRv c0 ln em bk q M' X' := by
  have huu : ∀ b, uX X' b = uX X b := uX_same (by rw [hX 76 (by decide)]) (fun z _ => by rw [hX 85 (by decide)])
  obtain ⟨r1, r2, r3, r4, r5, r6, r7, r8, r9, r10, r11, r12, r13, r14⟩ := h
  refine ⟨?_, ?_, ?_, ?_, ?_, ?_, ?_, ?_, ?_, r10, ?_, ?_, ?_, ?_⟩
  · rw [hM 3 (by decide)]; exact r1
  · rw [hM 3 (by decide), cntF_congr 24 (fun b _ => huu b)]; exact r2
  · rw [hM 3 (by decide), hX 76 (by decide)]; exact r3
  · rw [hM 3 (by decide), hX 76 (by decide)]; exact r4
  · rw [hM 3 (by decide), hX 76 (by decide)]; exact r5
  · rw [hM 3 (by decide), hX 76 (by decide)]; exact r6
  · rw [hM 3 (by decide), hX 76 (by decide)]; exact r7
  · intro b hb; rw [hM 5 (by decide), huu]; exact r8 b hb
  · rw [hM 6 (by decide)]; exact r9
  · intro j hj x hx; rw [hM _ (by omega)]; exact r11 j hj x hx
  · intro x hx; rw [hM _ (by omega), hX 82 (by decide), hX 84 (by decide)]; exact r12 x hx
  · intro x y hx hy; have := (r9 x (by omega)).2; rw [hM _ (by omega)]; exact r13 x y hx hy
  · intro x y hx hy; rw [hM 4 (by decide), hX 84 (by decide)]; exact r14 x y hx hy
theorem XSv.f87 (h : XSv c0 ln em bk X) {X' : Mem} (hX : ∀ p, p ≠ 87 → X' p = X p) : XSv c0 ln em bk X' := h.same (by rw [hX 76 (by decide)]) (by rw [hX 76 (by decide)]; exact h.2.2.1) (fun i _ => by rw [hX 83 (by decide)]) (fun i _ => by rw [hX 86 (by decide)]) (fun i _ => by rw [hX 85 (by decide)]) (fun i _ => by rw [hX 84 (by decide)])
def tB (X : Mem) (y : Nat) : Nat := (X 84 y).toNatClampNeg
def apX (X : Mem) (i : Nat) : Nat := tB X (60 * i) % 8 * 256 + tB X (60 * i + 1)
theorem tB_eq {y : Nat} (h : ∃ v, v < 256 ∧ X 84 y = nI v) : X 84 y = nI (tB X y) ∧ tB X y < 256 := by
  obtain ⟨v, h1, h2⟩ := h
  have e : tB X y = v := by unfold tB; rw [h2, nI_clamp (by omega)]
  rw [e]; exact ⟨h2, h1⟩
theorem ap_eq (hS : XSv c0 ln em bk X) {i : Nat} (hi : i < c0) : (X 84 (60 * i) &&& nI 7) * nI 256 + X 84 (60 * i + 1) = nI (apX X i) ∧ apX X i < 4096 ∧ X 84 (60 * i + 1) &&& nI 1 = nI (apX X i % 2) := by
  have hl := (hS.2.2.2.1 i hi).2
  have b0 := tB_eq (hS.2.2.2.2.2.2.2.2.2 i 0 hi (by omega))
  have b1 := tB_eq (hS.2.2.2.2.2.2.2.2.2 i 1 hi (by omega))
  rw [show 60 * i + 0 = 60 * i by omega] at b0
  have e1 : nI (tB X (60 * i)) &&& nI 7 = nI (tB X (60 * i) % 8) := nI_and 3 8 (by omega) (by decide) rfl
  have e2 : nI (tB X (60 * i + 1)) &&& nI 1 = nI (tB X (60 * i + 1) % 2) := nI_and 1 2 (by omega) (by decide) rfl
  refine ⟨?_, ?_, ?_⟩
  · rw [b0.1, b1.1, e1, pk_mul, nI_add]; rfl
  · unfold apX; omega
  · rw [b1.1, e2]; unfold apX; congr 1; omega
end ZFR
/-- the class's pointer, and what the reference holds of it -/
def PTR (pt : Nat) (pX : Int32) (so : Nat) : Prop := (pt = 2046 ∧ pX = -1 ∧ so = 0) ∨ (pt = 2047 ∧ pX = -1 ∧ so = 1) ∨ (pt ≤ 21 ∧ pX = nI pt ∧ so = 1)
theorem PTR.told {pt so : Nat} {pX : Int32} (h : PTR pt pX so) : toldX pX so = nI pt ∧ pt < 2048 := by
  unfold toldX
  rcases h with ⟨rfl, rfl, rfl⟩ | ⟨rfl, rfl, rfl⟩ | ⟨h1, rfl, rfl⟩
  · exact ⟨by decide, by omega⟩
  · exact ⟨by decide, by omega⟩
  · rw [if_neg (nI_pos (by omega))]; exact ⟨rfl, by omega⟩
theorem PTR.step {pt so k e : Nat} {pX : Int32} (h : PTR pt pX so) (h8 : 8 ≤ k) (h30 : k < 30) : PTR (PtW pt (k - 8) e) (if e = 0 then (if pX < 0 then nI (k - 8) else pX) else pX) 1 := by
  unfold PtW
  by_cases he : e = 0
  · rw [if_pos he, if_pos he]
    rcases h with ⟨rfl, rfl, rfl⟩ | ⟨rfl, rfl, rfl⟩ | ⟨h1, rfl, rfl⟩
    · rw [if_pos rfl, if_pos (by decide)]; exact Or.inr (Or.inr ⟨by omega, rfl, rfl⟩)
    · rw [if_neg (by decide), if_pos rfl, if_pos (by decide)]; exact Or.inr (Or.inr ⟨by omega, rfl, rfl⟩)
    · rw [if_neg (by omega), if_neg (by omega), if_neg (nI_pos (by omega))]; exact Or.inr (Or.inr ⟨h1, rfl, rfl⟩)
  · rw [if_neg he, if_neg he]
    rcases h with ⟨rfl, rfl, rfl⟩ | ⟨rfl, rfl, rfl⟩ | ⟨h1, rfl, rfl⟩
    · rw [if_pos rfl]; exact Or.inr (Or.inl ⟨rfl, rfl, rfl⟩)
    · rw [if_neg (by decide), if_pos rfl]; exact Or.inr (Or.inl ⟨rfl, rfl, rfl⟩)
    · rw [if_neg (by omega), if_neg (by omega)]; exact Or.inr (Or.inr ⟨h1, rfl, rfl⟩)
theorem fFil_p (v : Int32) : ∀ (r k : Nat) (M : Mem) {p : Nat}, p ≠ 74 → fFil v r k M p = M p
  | 0, _, _, _, _ => rfl
  | r + 1, k, M, p, h => by unfold fFil; rw [fFil_p v r (k + 1) _ h, mu_p _ _ _ h]
theorem fFil_74 (v : Int32) : ∀ (r k : Nat) (M : Mem) (y : Nat), fFil v r k M 74 y = if k ≤ y ∧ y < k + r then v else M 74 y
  | 0, k, M, y => by rw [if_neg (by omega)]; rfl
  | r + 1, k, M, y => by
    unfold fFil
    rw [fFil_74 v r (k + 1) _ y]
    by_cases h1 : y = k
    · rw [if_neg (by omega), if_pos (by omega), h1, mu_same]
    · rw [mu_k _ _ _ h1]
      by_cases h2 : k + 1 ≤ y ∧ y < k + 1 + r
      · rw [if_pos h2, if_pos (by omega)]
      · rw [if_neg h2, if_neg (by omega)]
