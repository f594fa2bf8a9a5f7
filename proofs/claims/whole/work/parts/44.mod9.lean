theorem fBeg0_p (X : Mem) {p : Nat} (h : p ≠ 79) : fBeg0 X p = X p := by unfold fBeg0; rw [mu_p _ _ _ h, mu_p _ _ _ h, mu_p _ _ _ h, mu_p _ _ _ h]
theorem fDir_p (X : Mem) (g : Nat → Nat) (en : Nat) (ch : Int32) {p : Nat} (h1 : p ≠ 76) (h7 : p ≠ 79) : fDir X g en ch p = X p := by
  unfold fDir
  (repeat' split)
  · rfl
  · rw [fBeg0_p _ h7, mu_p _ _ _ h1, mu_p _ _ _ h1, mu_p _ _ _ h1, mu_p _ _ _ h1, mu_p _ _ _ h1]
  · rw [mu_p _ _ _ h1]
  · rfl
  · rw [mu_p _ _ _ h1, mu_p _ _ _ h1]
  · rfl
  · rfl
theorem fDir_k (X : Mem) (g : Nat → Nat) (en : Nat) (ch : Int32) {x : Nat} (h7 : x ≠ 7) (h8 : x ≠ 8) (h9 : x ≠ 9) (h10 : x ≠ 10) (h11 : x ≠ 11) : fDir X g en ch 76 x = X 76 x := by
  unfold fDir
  (repeat' split)
  · rfl
  · rw [fBeg0_p _ (by decide), mu_k _ _ _ h11, mu_k _ _ _ h10, mu_k _ _ _ h9, mu_k _ _ _ h8, mu_k _ _ _ h7]
  · rw [mu_k _ _ _ h7]
  · rfl
  · rw [mu_k _ _ _ h10, mu_k _ _ _ h9]
  · rfl
  · rfl
theorem fTk3_p (X : Mem) (al : Int32) (vv : Nat) {p : Nat} (h1 : p ≠ 76) : fTk3 X al vv p = X p := by
  unfold fTk3
  split
  · rw [mu_p _ _ _ h1]
  · rw [mu_p _ _ _ h1, mu_p _ _ _ h1]
theorem fTk3_k (X : Mem) (al : Int32) (vv : Nat) {x : Nat} (h9 : x ≠ 9) (h10 : x ≠ 10) : fTk3 X al vv 76 x = X 76 x := by
  unfold fTk3
  split
  · rw [mu_k _ _ _ h10]
  · rw [mu_k _ _ _ h10, mu_k _ _ _ h9]
theorem fTk_p (X : Mem) (g : Nat → Nat) (t : Nat) {p : Nat} (h1 : p ≠ 76) (h2 : p ≠ 82) (h3 : p ≠ 83) (h4 : p ≠ 84) (h5 : p ≠ 85) (h6 : p ≠ 86) (h7 : p ≠ 79) (h8 : p ≠ 80) (h9 : p ≠ 81) : fTk X g t p = X p := by
  unfold fTk fTkE fTkS
  (repeat' split) <;> first | rfl | rw [fDir_p _ _ _ _ h1 h7] | rw [fTk3_p _ _ _ h1, fPIn_p _ _ _ _ h1 h2 h3 h4 h5 h6] | rw [fTk3_p _ _ _ h1, fSgX_p _ _ _ _ h1 h2 h3 h4 h5 h6 h7 h8 h9] | rw [fPIn_p _ _ _ _ h1 h2 h3 h4 h5 h6, mu_p _ _ _ h1] | rw [fSgX_p _ _ _ _ h1 h2 h3 h4 h5 h6 h7 h8 h9, mu_p _ _ _ h1] | rw [mu_p _ _ _ h1] | rw [fTk3_p _ _ _ h1]
theorem fTk_k (X : Mem) (g : Nat → Nat) (t : Nat) {x : Nat} (h1 : x ≠ 3) (h2 : x ≠ 4) (h3 : x ≠ 23) (h4 : x ≠ 15) (h5 : x ≠ 21) (h6 : x ≠ 22) (h7 : x ≠ 7) (h8 : x ≠ 8) (h9 : x ≠ 9) (h10 : x ≠ 10) (h11 : x ≠ 11) : fTk X g t 76 x = X 76 x := by
  unfold fTk fTkE fTkS
  (repeat' split) <;> first | rfl | rw [fDir_k _ _ _ _ h7 h8 h9 h10 h11] | rw [fTk3_k _ _ _ h9 h10, fPIn_k _ _ _ _ h1 h2 h3 h4 h5 h6] | rw [fTk3_k _ _ _ h9 h10, fSgX_k _ _ _ _ h1 h2 h3 h4 h5 h6] | rw [fPIn_k _ _ _ _ h1 h2 h3 h4 h5 h6, mu_k _ _ _ h11] | rw [fSgX_k _ _ _ _ h1 h2 h3 h4 h5 h6, mu_k _ _ _ h11] | rw [mu_k _ _ _ h10] | rw [mu_k _ _ _ h11] | rw [fTk3_k _ _ _ h9 h10]
theorem XA.k {X : Mem} (h : XA X) {k : Nat} (v : Int32) (h3 : k ≠ 3) (h15 : k ≠ 15) (h9 : k ≠ 9) (h11 : k ≠ 11) : XA (mu X 76 k v) := ⟨h.1.k _ h3 h15, h.2.1.k76 _ _, h.2.2.1.eq (mu_k _ _ _ (Ne.symm h9)) (mu_k _ _ _ (Ne.symm h11)), by rw [mu_p _ _ _ (by decide)]; exact h.2.2.2⟩
theorem XA.v {X : Mem} (h : XA X) {v : Nat} (hv : v < 256) : XA (mu X 76 9 (nI v)) := ⟨h.1.k _ (by decide) (by decide), h.2.1.k76 _ _, XI.of ⟨v, hv, mu_same _ _ _ _⟩ (by rw [mu_k _ _ _ (by decide)]; exact h.2.2.1.k), by rw [mu_p _ _ _ (by decide)]; exact h.2.2.2⟩
theorem XA.c {X : Mem} (h : XA X) {v : Nat} (hv : v < 8) : XA (mu X 76 11 (nI v)) := ⟨h.1.k _ (by decide) (by decide), h.2.1.k76 _ _, XI.of (by rw [mu_k _ _ _ (by decide)]; exact h.2.2.1.v) ⟨v, hv, mu_same _ _ _ _⟩, by rw [mu_p _ _ _ (by decide)]; exact h.2.2.2⟩
theorem XA.off {X : Mem} (h : XA X) (j : Nat) : XA (mu X 79 j (nI 0)) := ⟨h.1.p79 _ _, h.2.1.off _, h.2.2.1.eq (by rw [mu_p _ _ _ (by decide)]) (by rw [mu_p _ _ _ (by decide)]), by rw [mu_p _ _ _ (by decide)]; exact h.2.2.2⟩
theorem XA.pIn {X : Mem} {g : Nat → Nat} {en : Nat} (h : XA X) (hg : ∀ i, i < en → X 78 i = nI (g i)) (hg2 : ∀ i, i < en → g i < 256) (sq : Int32) : XA (fPIn X g en sq) := ⟨h.1.pIn hg hg2 sq, h.2.1.pIn sq, h.2.2.1.eq (fPIn_k _ _ _ _ (by decide) (by decide) (by decide) (by decide) (by decide) (by decide)) (fPIn_k _ _ _ _ (by decide) (by decide) (by decide) (by decide) (by decide) (by decide)), by rw [fPIn_p _ _ _ _ (by decide) (by decide) (by decide) (by decide) (by decide) (by decide)]; exact h.2.2.2⟩
theorem XA.sgX {X : Mem} {g : Nat → Nat} {en : Nat} {sq : Int32} (h : XA X) (h8 : 8 ≤ en) (hen : en ≤ 67) (hsq : sq = 0 ∨ sq = 1) (hg : ∀ i, i < en → X 78 i = nI (g i)) (hg2 : ∀ i, i < en → g i < 256) : XA (fSgX X g en sq) := ⟨h.1.sgX h.2.1 h8 hen hg hg2, h.2.1.sgX h8 hen hsq hg hg2, h.2.2.1.eq (fSgX_k _ _ _ _ (by decide) (by decide) (by decide) (by decide) (by decide) (by decide)) (fSgX_k _ _ _ _ (by decide) (by decide) (by decide) (by decide) (by decide) (by decide)), by rw [fSgX_p _ _ _ _ (by decide) (by decide) (by decide) (by decide) (by decide) (by decide) (by decide) (by decide) (by decide)]; exact h.2.2.2⟩
theorem XA.tk3 {X : Mem} (h : XA X) (al : Int32) (vv : Nat) : XA (fTk3 X al vv) := by
  unfold fTk3
  split
  · exact h.k _ (by decide) (by decide) (by decide) (by decide)
  · exact (h.v (by omega)).k _ (by decide) (by decide) (by decide) (by decide)
theorem XA.dir {X : Mem} {g : Nat → Nat} {en : Nat} (h : XA X) (hg2 : ∀ i, i < en → g i < 256) (ch : Int32) : XA (fDir X g en ch) := by
  unfold fDir
  by_cases h0 : en < 10
  · rw [if_pos h0]; exact h
  rw [if_neg h0]
  have b9 := hg2 9 (by omega)
  (repeat' split)
  · exact ((((((((h.k _ (by decide) (by decide) (by decide) (by decide)).k _ (by decide) (by decide) (by decide) (by decide)).v (by decide)).k _ (by decide) (by decide) (by decide) (by decide)).c (by decide)).off 0).off 1).off 2).off 3
  · exact h.k _ (by decide) (by decide) (by decide) (by decide)
  · exact h
  · exact (h.v b9).k _ (by decide) (by decide) (by decide) (by decide)
  · exact h
  · exact h
theorem XA.tk {X : Mem} {g : Nat → Nat} {t : Nat} (h : XA X) (h5 : 5 ≤ t) (h64 : t ≤ 64) (hg : ∀ i, i < 3 + t → X 78 i = nI (g i)) (hg2 : ∀ i, i < 3 + t → g i < 256) : XA (fTk X g t) := by
  have hE : XA (mu X 76 11 (nI ((kX X + 1) % 8))) := h.c (by omega)
  unfold fTk fTkE fTkS
  (repeat' split)
  · exact h
  · exact h.dir hg2 _
  · exact h
  · exact hE.pIn hg hg2 _
  · exact hE.sgX (by omega) (by omega) (Or.inl rfl) hg hg2
  · exact hE
  · exact (h.pIn hg hg2 _).tk3 _ _
  · exact (h.sgX (by omega) (by omega) (Or.inr rfl) hg hg2).tk3 _ _
  · exact h.tk3 _ _
  · exact h.k _ (by decide) (by decide) (by decide) (by decide)
  · exact h
  · exact h
  · exact h
/-- the row of bytes -/
def nX (X : Mem) : Nat := (X 76 6).toNatClampNeg
def wX (X : Mem) (i : Nat) : Nat := (X 78 i).toNatClampNeg
def tdX (X : Mem) : Nat := wX X 5 % 8 * 256 + wX X 6 + 1
def ckX (X : Mem) : Int32 := if crcAllM (X 78) (tdX X) 0 (nI 0) = X 78 (3 + tdX X) <<< (nI 24 &&& 31) ||| X 78 (4 + tdX X) <<< (nI 16 &&& 31) ||| X 78 (5 + tdX X) <<< (nI 8 &&& 31) ||| X 78 (6 + tdX X) then 1 else 0
theorem ckX_1 {X : Mem} (h : CkM (X 78) (tdX X)) : ckX X = 1 := if_pos h
theorem ckX_0 {X : Mem} (h : ¬ CkM (X 78) (tdX X)) : ckX X = 0 := if_neg h
def lkX (X : Mem) : Int32 := LookM (nX X) (wX X) (ckX X)
def lvX (X : Mem) (b : Nat) : Mem := fLv b (nX X - b) 0 (mu X 76 6 (nI (nX X - b)))
def XW (X : Mem) : Prop := X 76 6 = nI (nX X) ∧ nX X ≤ 71 ∧ ∀ i, i < nX X → X 78 i = nI (wX X i) ∧ wX X i < 256
theorem XW.of {X : Mem} {n : Nat} (h : X 76 6 = nI n) (hn : n ≤ 71) (hw : ∀ i, i < n → ∃ v, v < 256 ∧ X 78 i = nI v) : XW X := by
  have e : nX X = n := by unfold nX; rw [h, nI_clamp (by omega)]
  unfold XW
  rw [e]
  refine ⟨h, hn, fun i hi => ?_⟩
  obtain ⟨v, h1, h2⟩ := hw i hi
  have e2 : wX X i = v := by unfold wX; rw [h2, nI_clamp (by omega)]
  rw [e2]
  exact ⟨h2, h1⟩
theorem XW.eq {X Y : Mem} (h : XW X) (h6 : Y 76 6 = X 76 6) (h78 : Y 78 = X 78) : XW Y := XW.of (h6.trans h.1) h.2.1 (fun i hi => ⟨wX X i, (h.2.2 i hi).2, by rw [h78]; exact (h.2.2 i hi).1⟩)
theorem fLv_p (b : Nat) : ∀ (r i : Nat) (X : Mem) {p : Nat}, p ≠ 78 → fLv b r i X p = X p
  | 0, _, _, _, _ => rfl
  | r + 1, i, X, p, h => by unfold fLv; rw [fLv_p b r _ _ h, mu_p _ _ _ h]
theorem fLv_78 (b : Nat) (hb : 0 < b) : ∀ (r i : Nat) (X : Mem) (y : Nat), fLv b r i X 78 y = if i ≤ y ∧ y < i + r then X 78 (y + b) else X 78 y
  | 0, i, X, y => by rw [if_neg (by omega)]; rfl
  | r + 1, i, X, y => by
    unfold fLv
    rw [fLv_78 b hb r (i + 1) _ y]
    by_cases h1 : y = i
    · rw [if_neg (by omega), if_pos (by omega), h1, mu_same]
    · rw [mu_k _ _ _ h1]
      by_cases h2 : i + 1 ≤ y ∧ y < i + 1 + r
      · rw [if_pos h2, if_pos (by omega), mu_k _ _ _ (by omega)]
      · rw [if_neg h2, if_neg (by omega)]
theorem lvX_p (X : Mem) (b : Nat) {p : Nat} (h1 : p ≠ 78) (h2 : p ≠ 76) : lvX X b p = X p := by unfold lvX; rw [fLv_p _ _ _ _ h1, mu_p _ _ _ h2]
theorem lvX_k (X : Mem) (b : Nat) {x : Nat} (h : x ≠ 6) : lvX X b 76 x = X 76 x := by unfold lvX; rw [fLv_p _ _ _ _ (by decide), mu_k _ _ _ h]
theorem lvX_6 (X : Mem) (b : Nat) : lvX X b 76 6 = nI (nX X - b) := by unfold lvX; rw [fLv_p _ _ _ _ (by decide), mu_same]
theorem lvX_78 (X : Mem) {b : Nat} (hb : 0 < b) {y : Nat} (hy : y < nX X - b) : lvX X b 78 y = X 78 (y + b) := by unfold lvX; rw [fLv_78 b hb, if_pos (by omega), mu_p _ _ _ (by decide)]
theorem XW.lv {X : Mem} (h : XW X) {b : Nat} (hb : 0 < b) : XW (lvX X b) := XW.of (lvX_6 X b) (by have := h.2.1; omega) (fun i hi => ⟨wX X (i + b), (h.2.2 _ (by omega)).2, by rw [lvX_78 X hb hi]; exact (h.2.2 _ (by omega)).1⟩)
theorem XA.lv {X : Mem} (h : XA X) (b : Nat) : XA (lvX X b) := ⟨h.1.eq (lvX_k _ _ (by decide)) (lvX_k _ _ (by decide)) (lvX_p _ _ (by decide) (by decide)) (lvX_p _ _ (by decide) (by decide)) (lvX_p _ _ (by decide) (by decide)) (lvX_p _ _ (by decide) (by decide)), h.2.1.eq (lvX_p _ _ (by decide) (by decide)) (lvX_p _ _ (by decide) (by decide)) (lvX_p _ _ (by decide) (by decide)), h.2.2.1.eq (lvX_k _ _ (by decide)) (lvX_k _ _ (by decide)), by rw [lvX_p _ _ (by decide) (by decide)]; exact h.2.2.2⟩
theorem LookM_c (n : Nat) (w : Nat → Nat) (ck : Int32) : LookM n w ck = 0 ∨ LookM n w ck = 1 ∨ (LookM n w ck = 2 ∧ 5 ≤ w 5 % 8 * 256 + w 6 + 1 ∧ w 5 % 8 * 256 + w 6 + 1 ≤ 64 ∧ w 5 % 8 * 256 + w 6 + 8 ≤ n) := by
  unfold LookM
  by_cases a0 : n = 0
  · rw [if_pos a0]; exact Or.inl rfl
  rw [if_neg a0]
  by_cases a1 : ¬ w 0 = 250
  · rw [if_pos a1]; exact Or.inr (Or.inl rfl)
  rw [if_neg a1]
  by_cases a2 : n ≤ 1
  · rw [if_pos a2]; exact Or.inl rfl
  rw [if_neg a2]
  by_cases a3 : ¬ w 1 = 243
  · rw [if_pos a3]; exact Or.inr (Or.inl rfl)
  rw [if_neg a3]
  by_cases a4 : n ≤ 2
  · rw [if_pos a4]; exact Or.inl rfl
  rw [if_neg a4]
  by_cases a5 : ¬ w 2 = 32
  · rw [if_pos a5]; exact Or.inr (Or.inl rfl)
  rw [if_neg a5]
  by_cases a6 : n ≤ 3
  · rw [if_pos a6]; exact Or.inl rfl
  rw [if_neg a6]
  by_cases a7 : ¬ w 3 / 64 = 2
  · rw [if_pos a7]; exact Or.inr (Or.inl rfl)
  rw [if_neg a7]
  by_cases a8 : n ≤ 6
  · rw [if_pos a8]; exact Or.inl rfl
  rw [if_neg a8]
  by_cases a9 : w 5 % 8 * 256 + w 6 + 1 < 5
  · rw [if_pos a9]; exact Or.inr (Or.inl rfl)
  rw [if_neg a9]
  by_cases a10 : 64 < w 5 % 8 * 256 + w 6 + 1
  · rw [if_pos a10]; exact Or.inr (Or.inl rfl)
  rw [if_neg a10]
  by_cases a11 : n < w 5 % 8 * 256 + w 6 + 8
  · rw [if_pos a11]; exact Or.inl rfl
  rw [if_neg a11]
  by_cases a12 : ck = 0
  · rw [if_pos a12]; exact Or.inr (Or.inl rfl)
  rw [if_neg a12]
  exact Or.inr (Or.inr ⟨rfl, by omega, by omega, by omega⟩)
theorem LookM_2 {n : Nat} {w : Nat → Nat} {ck : Int32} (h0 : ¬ LookM n w ck = 0) (h1 : ¬ LookM n w ck = 1) : LookM n w ck = 2 ∧ 5 ≤ w 5 % 8 * 256 + w 6 + 1 ∧ w 5 % 8 * 256 + w 6 + 1 ≤ 64 ∧ w 5 % 8 * 256 + w 6 + 8 ≤ n := by
  rcases LookM_c n w ck with h | h | h
  · exact absurd h h0
  · exact absurd h h1
  · exact h
theorem LookM_n {n : Nat} {w : Nat → Nat} {ck : Int32} (h0 : ¬ LookM n w ck = 0) : 0 < n := by
  rcases Nat.eq_zero_or_pos n with h | h
  · exact absurd (by unfold LookM; rw [if_pos h]) h0
  · exact h
def byM : Nat → Mem → Mem
  | 0, X => X
  | f + 1, X => if lkX X = 0 then X else if X 76 3 = 0 then (if lkX X = nI 1 then byM f (lvX X 1) else byM f (lvX (fTk X (wX X) (tdX X)) (tdX X + 7))) else X
def byN : Nat → Mem → Nat
  | 0, _ => 0
  | f + 1, X => if lkX X = 0 then 0 else if X 76 3 = 0 then (if lkX X = nI 1 then byN f (lvX X 1) else byN f (lvX (fTk X (wX X) (tdX X)) (tdX X + 7)) + 1) else 0
theorem byN_le : ∀ (f : Nat) (X : Mem), byN f X ≤ f
  | 0, _ => Nat.le_refl _
  | f + 1, X => by
    have h1 := byN_le f (lvX X 1)
    have h2 := byN_le f (lvX (fTk X (wX X) (tdX X)) (tdX X + 7))
    unfold byN
    (repeat' split) <;> omega
theorem XW.tk {X : Mem} (h : XW X) (g : Nat → Nat) (t : Nat) : XW (fTk X g t) := h.eq (fTk_k _ _ _ (by decide) (by decide) (by decide) (by decide) (by decide) (by decide) (by decide) (by decide) (by decide) (by decide) (by decide)) (fTk_p _ _ _ (by decide) (by decide) (by decide) (by decide) (by decide) (by decide) (by decide) (by decide) (by decide))
theorem nX_tk (X : Mem) (g : Nat → Nat) (t : Nat) : nX (fTk X g t) = nX X := by unfold nX; rw [fTk_k _ _ _ (by decide) (by decide) (by decide) (by decide) (by decide) (by decide) (by decide) (by decide) (by decide) (by decide) (by decide)]
theorem nX_lv (X : Mem) (b : Nat) (h : nX X ≤ 71) : nX (lvX X b) = nX X - b := by unfold nX; rw [lvX_6, nI_clamp (by omega)]; rfl
def putX (X : Mem) (b0 : Int32) : Mem := mu (mu X 78 (nX X) b0) 76 6 (nI (nX X + 1))
theorem XW.put {X : Mem} (h : XW X) (h70 : nX X ≤ 70) {v : Nat} (hv : v < 256) : XW (putX X (nI v)) := XW.of (mu_same _ _ _ _) (by omega) (fun i hi => by
  unfold putX
  rw [mu_p _ _ _ (by decide)]
  by_cases h1 : i = nX X
  · rw [h1]; exact ⟨v, hv, mu_same _ _ _ _⟩
  · rw [mu_k _ _ _ h1]; exact ⟨wX X i, (h.2.2 i (by omega)).2, (h.2.2 i (by omega)).1⟩)
theorem XA.put {X : Mem} (h : XA X) (b0 : Int32) : XA (putX X b0) := ⟨h.1.eq rfl rfl rfl rfl rfl rfl, h.2.1.eq rfl rfl rfl, h.2.2.1.eq rfl rfl, h.2.2.2⟩
theorem nX_put (X : Mem) (h : nX X ≤ 71) (b0 : Int32) : nX (putX X b0) = nX X + 1 := by unfold nX putX; rw [mu_same, nI_clamp (by omega)]; rfl
set_option maxHeartbeats 4000000 in
set_option maxRecDepth 100000 in
theorem fm_byteIn (l : Launch) (D : va_G) (dA : Nat → ClassId) (M : Mem) (b0 : Nat) (hb : b0 < 256) (hA : XA M) (hW : XW M) (h70 : nX M ≤ 70) : CF l D dA k_Mod_byteIn 6 [.ref 76, .int (nI b0)] M (some (.int (nI (byN 72 (putX M (nI b0)))))) (byM 72 (putX M (nI b0))) := by
  refine CF.of (by decide +kernel) (Nat.le_of_ble_eq_true rfl) (by intro v hv; simp only [List.mem_cons, List.not_mem_nil, or_false] at hv; rcases hv with rfl | rfl <;> rfl) ?_
  intro A ad0 p e s m args below meth c C hr
  refine J_iconst C d_Mod_byteIn_0 (v := nI 0) rfl ?_
  refine J_istore_n C 2 d_Mod_byteIn_1 rfl (by decide) rfl ?_
  refine J_aload_n C 0 d_Mod_byteIn_2 rfl rfl ?_
  refine J_get C f_Mod_27 (by decide) (e_76 _) rfl d_Mod_byteIn_3 ?_
  refine J_aload_n C 0 d_Mod_byteIn_6 rfl rfl ?_
  refine J_get C f_Mod_30 (by decide) (e_76 _) rfl d_Mod_byteIn_7 ?_
  refine J_val (y := nI (nX M)) hW.1 ?_
  refine J_iload_n C 1 d_Mod_byteIn_10 rfl rfl ?_
  refine K_ias C a_78 (j := nX M) rfl (by omega) d_Mod_byteIn_11 (kk := ?_)
  refine J_aload_n C 0 d_Mod_byteIn_12 rfl rfl ?_
  refine J_dup C d_Mod_byteIn_13 rfl ?_
  refine J_get C f_Mod_30 (by decide) (e_76 _) rfl d_Mod_byteIn_14 ?_
  refine J_val (y := nI (nX M)) hW.1 ?_
  refine J_iconst C d_Mod_byteIn_17 (v := nI 1) rfl ?_
  refine J_iaddN C d_Mod_byteIn_18 ?_
  refine K_putI C f_Mod_30 (by decide) (e_76 _) (Nat.le_of_ble_eq_true rfl) rfl d_Mod_byteIn_19 (kk := ?_)
  have hWp : XW _ := hW.put h70 hb
  refine J_mem (M2 := putX M (nI b0)) rfl ?_
  refine J_aload_n C 0 d_Mod_byteIn_22 rfl rfl ?_
  refine P_callV C (as := []) (st := []) (pm_look l D dA (putX M (nI b0)) (nX (putX M (nI b0))) hWp.1 (by have := hWp.2.1; omega) (wX (putX M (nI b0))) (fun i hi => (hWp.2.2 i hi).1) (fun i hi => (hWp.2.2 i hi).2) (ckX (putX M (nI b0))) ckX_1 ckX_0) l_Mod_143 v_Mod_look (by decide) (e_76 _) rfl (by decide) (by decide) (by decide) (Nat.le_of_ble_eq_true rfl) d_Mod_byteIn_23 (kk := ?_)
  refine J_istore_n C 3 d_Mod_byteIn_26 rfl (by decide) rfl ?_
  generalize hM9 : byM 72 (putX M (nI b0)) = M9
  generalize hN9 : byN 72 (putX M (nI b0)) = N9
  have lp : ∀ (fu k : Nat) (X : Mem), nX X < fu → XA X → XW X → k + byN fu X = N9 → byM fu X = M9 → J D dA A (fun _ _ => True) ad0 90 k_Mod_byteIn.2.2.1 p l e (zR 6 0 0) s m args below meth c (FQ D dA A ad0 below args s (some (.int (nI N9))) (M9)) 27 [some (.ref 76), some (.int (nI b0)), some (.int (nI k)), some (.int (lkX X)), none] [] (E X) 90 0 0 := by
    intro fu
    induction fu with
    | zero => intro k X hfu; exact absurd hfu (Nat.not_lt_zero _)
    | succ fu ih =>
      intro k X hfu hA hW hN hF
      refine J_iload_n C 3 d_Mod_byteIn_27 rfl rfl ?_
      refine J_if_eq C 104 d_Mod_byteIn_28 (by decide) (fun hc28 => ?_) (fun hc28 => ?_)
      · refine J_iload_n C 2 d_Mod_byteIn_104 rfl rfl ?_
        exact F_iret C hr (by unfold byN at hN; rw [if_pos hc28] at hN; congr 1) (by unfold byM at hF; rw [if_pos hc28] at hF; exact hF) d_Mod_byteIn_105
      · refine J_aload_n C 0 d_Mod_byteIn_31 rfl rfl ?_
        refine J_get C f_Mod_20 (by decide) (e_76 _) rfl d_Mod_byteIn_32 ?_
        refine J_if_ne C 104 d_Mod_byteIn_35 (by decide) (fun hc35 => ?_) (fun hc35 => ?_)
        · refine J_iload_n C 2 d_Mod_byteIn_104 rfl rfl ?_
          exact F_iret C hr (by unfold byN at hN; rw [if_neg hc28, if_neg hc35] at hN; congr 1) (by unfold byM at hF; rw [if_neg hc28, if_neg hc35] at hF; exact hF) d_Mod_byteIn_105
        · have hpos := LookM_n hc28
          unfold byM at hF
          unfold byN at hN
          rw [if_neg hc28, if_pos hc35] at hF hN
          have hbn := byN_le fu (lvX X 1)
          have hbn2 := byN_le fu (lvX (fTk X (wX X) (tdX X)) (tdX X + 7))
          refine J_iload_n C 3 d_Mod_byteIn_38 rfl rfl ?_
          refine J_iconst C d_Mod_byteIn_39 (v := nI 1) rfl ?_
          refine J_icmp_ne C 47 d_Mod_byteIn_40 (by decide) (fun hc40 => ?_) (fun hc40 => ?_)
          · have h2 := LookM_2 hc28 hc40
            have b5 := hW.2.2 5 (by have := h2.2.2.2; omega)
            have b6 := hW.2.2 6 (by have := h2.2.2.2; omega)
            refine J_aload_n C 0 d_Mod_byteIn_47 rfl rfl ?_
            refine J_get C f_Mod_27 (by decide) (e_76 _) rfl d_Mod_byteIn_48 ?_
            refine J_iconst C d_Mod_byteIn_51 (v := nI 5) rfl ?_
            refine K_ial C a_78 (j := 5) rfl (by omega) d_Mod_byteIn_52 ?_
            refine J_val (y := nI (wX X 5)) b5.1 ?_
            refine J_bipush C d_Mod_byteIn_53 (v := nI 7) rfl ?_
            refine J_iand C d_Mod_byteIn_55 ?_
            refine J_val (y := nI (wX X 5 % 8)) (nI_and 3 8 (by have := b5.2; omega) (by decide) rfl) ?_
            refine J_sipush C d_Mod_byteIn_56 (v := nI 256) rfl ?_
            refine J_imulN C d_Mod_byteIn_59 ?_
            refine J_aload_n C 0 d_Mod_byteIn_60 rfl rfl ?_
            refine J_get C f_Mod_27 (by decide) (e_76 _) rfl d_Mod_byteIn_61 ?_
            refine J_bipush C d_Mod_byteIn_64 (v := nI 6) rfl ?_
            refine K_ial C a_78 (j := 6) rfl (by omega) d_Mod_byteIn_66 ?_
            refine J_val (y := nI (wX X 6)) b6.1 ?_
            refine J_iaddN C d_Mod_byteIn_67 ?_
            refine J_bipush C d_Mod_byteIn_68 (v := nI 8) rfl ?_
            refine J_iaddN C d_Mod_byteIn_70 ?_
            refine J_val (y := nI (tdX X + 7)) (by unfold tdX; congr 1) ?_
            refine J_istore C d_Mod_byteIn_71 (by decide) rfl ?_
            refine J_iload_n C 3 d_Mod_byteIn_73 rfl rfl ?_
            refine J_iconst C d_Mod_byteIn_74 (v := nI 2) rfl ?_
            refine J_icmp_ne C 90 d_Mod_byteIn_75 (by decide) (fun hc75 => absurd h2.1 hc75) (fun hc75 => ?_)
            refine J_iinc C d_Mod_byteIn_78 rfl (v := nI (k + 1)) (nI_1 _) (by decide) rfl ?_
            refine J_aload_n C 0 d_Mod_byteIn_81 rfl rfl ?_
            refine J_iload C d_Mod_byteIn_82 rfl ?_
            refine J_bipush C d_Mod_byteIn_84 (v := nI 7) rfl ?_
            refine J_isubN C d_Mod_byteIn_86 (by omega) ?_
            refine F_callV C (as := [.int (nI ((tdX X + 7) - 7))]) (st := []) (fm_taken l D dA X (tdX X) (nX X) (wX X) hA.1 hA.2.1 hA.2.2.1 hc35 h2.2.1 h2.2.2.1 (by have := h2.2.2.2; unfold tdX; omega) (fun i hi => (hW.2.2 i hi).1) (fun i hi => (hW.2.2 i hi).2) hA.2.2.2) l_Mod_146 v_Mod_taken (by decide) (e_76 _) rfl (by decide) (by decide) (Nat.le_of_ble_eq_true rfl) d_Mod_byteIn_87 (kk := ?_)
            refine J_aload_n C 0 d_Mod_byteIn_90 rfl rfl ?_
            refine J_iload C d_Mod_byteIn_91 rfl ?_
            refine F_callV C (as := [.int (nI (tdX X + 7))]) (st := []) (fm_leave l D dA (fTk X (wX X) (tdX X)) (nX (fTk X (wX X) (tdX X))) (tdX X + 7) (hW.tk (wX X) (tdX X)).1 (by have := (hW.tk (wX X) (tdX X)).2.1; omega) (by rw [nX_tk]; have := h2.2.2.2; unfold tdX; omega)) l_Mod_150 v_Mod_leave (by decide) (e_76 _) rfl (by decide) (by decide) (Nat.le_of_ble_eq_true rfl) d_Mod_byteIn_93 (kk := ?_)
            refine J_aload_n C 0 d_Mod_byteIn_96 rfl rfl ?_
            refine P_callV C (as := []) (st := []) (pm_look l D dA (lvX (fTk X (wX X) (tdX X)) (tdX X + 7)) (nX (lvX (fTk X (wX X) (tdX X)) (tdX X + 7))) ((hW.tk (wX X) (tdX X)).lv (b := tdX X + 7) (by omega)).1 (by have := ((hW.tk (wX X) (tdX X)).lv (b := tdX X + 7) (by omega)).2.1; omega) (wX (lvX (fTk X (wX X) (tdX X)) (tdX X + 7))) (fun i hi => (((hW.tk (wX X) (tdX X)).lv (b := tdX X + 7) (by omega)).2.2 i hi).1) (fun i hi => (((hW.tk (wX X) (tdX X)).lv (b := tdX X + 7) (by omega)).2.2 i hi).2) (ckX (lvX (fTk X (wX X) (tdX X)) (tdX X + 7))) ckX_1 ckX_0) l_Mod_143 v_Mod_look (by decide) (e_76 _) rfl (by decide) (by decide) (by decide) (Nat.le_of_ble_eq_true rfl) d_Mod_byteIn_97 (kk := ?_)
            refine J_istore_n C 3 d_Mod_byteIn_100 rfl (by decide) rfl ?_
            refine J_goto C 27 d_Mod_byteIn_101 (by decide) ?_
            refine J_lv (lv' := [some (.ref 76), some (.int (nI b0)), some (.int (nI (k + 1))), some (.int (lkX (lvX (fTk X (wX X) (tdX X)) (tdX X + 7)))), none]) (by intro i v hv; match i, hv with | 0, hv => exact hv | 1, hv => exact hv | 2, hv => exact hv | 3, hv => exact hv | 4, hv => simp at hv | _ + 5, hv => simp at hv) ?_
            exact ih (k + 1) (lvX (fTk X (wX X) (tdX X)) (tdX X + 7)) (by rw [nX_lv _ _ (by rw [nX_tk]; exact hW.2.1), nX_tk]; omega) ((hA.tk h2.2.1 h2.2.2.1 (fun i hi => (hW.2.2 i (by have h9 := h2.2.2.2; have e9 : tdX X = wX X 5 % 8 * 256 + wX X 6 + 1 := rfl; omega)).1) (fun i hi => (hW.2.2 i (by have h9 := h2.2.2.2; have e9 : tdX X = wX X 5 % 8 * 256 + wX X 6 + 1 := rfl; omega)).2)).lv _) ((hW.tk _ _).lv (by omega)) (by rw [if_neg hc40] at hN; omega) (by rw [if_neg hc40] at hF; exact hF)
          · refine J_iconst C d_Mod_byteIn_43 (v := nI 1) rfl ?_
            refine J_goto C 71 d_Mod_byteIn_44 (by decide) ?_
            refine J_istore C d_Mod_byteIn_71 (by decide) rfl ?_
            refine J_iload_n C 3 d_Mod_byteIn_73 rfl rfl ?_
            refine J_iconst C d_Mod_byteIn_74 (v := nI 2) rfl ?_
            refine J_icmp_ne C 90 d_Mod_byteIn_75 (by decide) (fun hc75 => ?_) (fun hc75 => absurd (hc40.symm.trans hc75) (by decide))
            refine J_aload_n C 0 d_Mod_byteIn_90 rfl rfl ?_
            refine J_iload C d_Mod_byteIn_91 rfl ?_
            refine F_callV C (as := [.int (nI 1)]) (st := []) (fm_leave l D dA X (nX X) 1 hW.1 (by have := hW.2.1; omega) (by omega)) l_Mod_150 v_Mod_leave (by decide) (e_76 _) rfl (by decide) (by decide) (Nat.le_of_ble_eq_true rfl) d_Mod_byteIn_93 (kk := ?_)
            refine J_aload_n C 0 d_Mod_byteIn_96 rfl rfl ?_
            refine P_callV C (as := []) (st := []) (pm_look l D dA (lvX X 1) (nX (lvX X 1)) (hW.lv (b := 1) (by omega)).1 (by have := (hW.lv (b := 1) (by omega)).2.1; omega) (wX (lvX X 1)) (fun i hi => ((hW.lv (b := 1) (by omega)).2.2 i hi).1) (fun i hi => ((hW.lv (b := 1) (by omega)).2.2 i hi).2) (ckX (lvX X 1)) ckX_1 ckX_0) l_Mod_143 v_Mod_look (by decide) (e_76 _) rfl (by decide) (by decide) (by decide) (Nat.le_of_ble_eq_true rfl) d_Mod_byteIn_97 (kk := ?_)
            refine J_istore_n C 3 d_Mod_byteIn_100 rfl (by decide) rfl ?_
            refine J_goto C 27 d_Mod_byteIn_101 (by decide) ?_
            refine J_lv (lv' := [some (.ref 76), some (.int (nI b0)), some (.int (nI k)), some (.int (lkX (lvX X 1))), none]) (by intro i v hv; match i, hv with | 0, hv => exact hv | 1, hv => exact hv | 2, hv => exact hv | 3, hv => exact hv | 4, hv => simp at hv | _ + 5, hv => simp at hv) ?_
            exact ih k (lvX X 1) (by rw [nX_lv _ _ hW.2.1]; omega) (hA.lv 1) (hW.lv (by omega)) (by rw [if_pos hc40] at hN; exact hN) (by rw [if_pos hc40] at hF; exact hF)
  exact lp 72 0 _ (by rw [nX_put _ hW.2.1]; omega) (hA.put _) hWp (by omega) hM9
