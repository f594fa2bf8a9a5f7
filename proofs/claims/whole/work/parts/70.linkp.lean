def LkR (M X : Mem) : Prop := M 69 2 = X 76 6 ∧ ∀ i, i < nX X → M 70 i = X 78 i
def WnR (M X : Mem) : Prop := M 0 6 = X 76 1 ∧ M 1 0 = X 77 0 ∧ M 1 1 = X 77 1 ∧ M 1 2 = X 77 2 ∧ M 2 0 = X 77 3 ∧ M 2 1 = X 77 4 ∧ M 2 2 = X 77 5
def RcR (M X : Mem) : Prop := SR M X ∧ SsR M X ∧ StR M X ∧ LkR M X ∧ WnR M X
theorem WnR.eq {M X M' X' : Mem} (h : WnR M X) (h0 : M' 0 = M 0) (h1 : M' 1 = M 1) (h2 : M' 2 = M 2) (x1 : X' 76 1 = X 76 1) (x7 : X' 77 = X 77) : WnR M' X' := by
  unfold WnR at h ⊢
  rw [h0, h1, h2, x1, x7]; exact h
theorem ck_ex (P : Prop) : ∃ ck : Int32, (P → ck = 1) ∧ (¬ P → ck = 0) := by
  rcases Classical.em P with h | h
  · exact ⟨1, fun _ => rfl, fun k => absurd h k⟩
  · exact ⟨0, fun k => absurd k h, fun _ => rfl⟩
theorem ck_iff {M X : Mem} {ck : Int32} (k1 : CkC (M 70) (tdX X) → ck = 1) (k0 : ¬ CkC (M 70) (tdX X) → ck = 0) (hL : LkR M X) (hn : tdX X + 7 ≤ nX X) : ck = 0 ↔ ckX X = 0 := by
  have e : crcAll 32 10487813 (M 70) (3 + tdX X - 3) 3 (nI 0) = crcAllM (X 78) (tdX X) 0 (nI 0) := by
    rw [show 3 + tdX X - 3 = tdX X by omega]
    exact crcAll_32 (M 70) (X 78) (tdX X) 0 (nI 0) (fun y _ hy => hL.2 _ (by omega))
  have k : CkC (M 70) (tdX X) ↔ crcAllM (X 78) (tdX X) 0 (nI 0) = X 78 (3 + tdX X) <<< (nI 24 &&& 31) ||| X 78 (4 + tdX X) <<< (nI 16 &&& 31) ||| X 78 (5 + tdX X) <<< (nI 8 &&& 31) ||| X 78 (6 + tdX X) := by
    unfold CkC
    rw [e, hL.2 _ (by omega), hL.2 _ (by omega), hL.2 _ (by omega), hL.2 _ (by omega), show 3 + tdX X + 1 = 4 + tdX X by omega, show 3 + tdX X + 2 = 5 + tdX X by omega, show 3 + tdX X + 3 = 6 + tdX X by omega]
  unfold ckX
  by_cases z : CkC (M 70) (tdX X)
  · rw [k1 z, if_pos (k.mp z)]
  · rw [k0 z, if_neg (fun w => z (k.mpr w))]
theorem look_rel {M X : Mem} {ck : Int32} (k1 : CkC (M 70) (tdX X) → ck = 1) (k0 : ¬ CkC (M 70) (tdX X) → ck = 0) (hL : LkR M X) (hW : XW X) : (LookC (nX X) (wX X) ck = 0 ∧ lkX X = 0) ∨ (LookC (nX X) (wX X) ck = -1 ∧ lkX X = 1) ∨ (LookC (nX X) (wX X) ck = nI (tdX X) ∧ lkX X = 2 ∧ 5 ≤ tdX X ∧ tdX X ≤ 64 ∧ tdX X + 7 ≤ nX X) := by
  have e9 : tdX X = wX X 5 % 8 * 256 + wX X 6 + 1 := rfl
  have hk : tdX X + 7 ≤ nX X → (ck = 0 ↔ ckX X = 0) := ck_iff k1 k0 hL
  unfold lkX LookC LookM
  generalize ckX X = c2 at hk ⊢
  generalize nX X = n at hk ⊢
  rw [← e9]
  have e8 : wX X 5 % 8 * 256 + wX X 6 + 8 = tdX X + 7 := by omega
  rw [e8]
  generalize tdX X = t at hk ⊢
  by_cases h1 : n = 0
  · rw [if_pos h1, if_pos h1]; exact Or.inl ⟨rfl, rfl⟩
  rw [if_neg h1, if_neg h1]
  by_cases h2 : ¬ wX X 0 = 250
  · rw [if_pos h2, if_pos h2]; exact Or.inr (Or.inl ⟨rfl, rfl⟩)
  rw [if_neg h2, if_neg h2]
  by_cases h3 : n ≤ 1
  · rw [if_pos h3, if_pos h3]; exact Or.inl ⟨rfl, rfl⟩
  rw [if_neg h3, if_neg h3]
  by_cases h4 : ¬ wX X 1 = 243
  · rw [if_pos h4, if_pos h4]; exact Or.inr (Or.inl ⟨rfl, rfl⟩)
  rw [if_neg h4, if_neg h4]
  by_cases h5 : n ≤ 2
  · rw [if_pos h5, if_pos h5]; exact Or.inl ⟨rfl, rfl⟩
  rw [if_neg h5, if_neg h5]
  by_cases h6 : ¬ wX X 2 = 32
  · rw [if_pos h6, if_pos h6]; exact Or.inr (Or.inl ⟨rfl, rfl⟩)
  rw [if_neg h6, if_neg h6]
  by_cases h7 : n ≤ 3
  · rw [if_pos h7, if_pos h7]; exact Or.inl ⟨rfl, rfl⟩
  rw [if_neg h7, if_neg h7]
  by_cases h8 : ¬ wX X 3 / 64 = 2
  · rw [if_pos h8, if_pos h8]; exact Or.inr (Or.inl ⟨rfl, rfl⟩)
  rw [if_neg h8, if_neg h8]
  by_cases h9 : n ≤ 6
  · rw [if_pos h9, if_pos h9]; exact Or.inl ⟨rfl, rfl⟩
  rw [if_neg h9, if_neg h9]
  by_cases h10 : t < 5
  · rw [if_pos h10, if_pos h10]; exact Or.inr (Or.inl ⟨rfl, rfl⟩)
  rw [if_neg h10, if_neg h10]
  by_cases h11 : 64 < t
  · rw [if_pos h11, if_pos h11]; exact Or.inr (Or.inl ⟨rfl, rfl⟩)
  rw [if_neg h11, if_neg h11]
  by_cases h12 : n < t + 7
  · rw [if_pos h12, if_pos h12]; exact Or.inl ⟨rfl, rfl⟩
  rw [if_neg h12, if_neg h12]
  have q := hk (by omega)
  by_cases h13 : ck = 0
  · rw [if_pos h13, if_pos (q.mp h13)]; exact Or.inr (Or.inl ⟨rfl, rfl⟩)
  · rw [if_neg h13, if_neg (fun w => h13 (q.mpr w))]; exact Or.inr (Or.inr ⟨rfl, rfl, by omega, by omega, by omega⟩)
theorem lk_rel {M M' X : Mem} {b : Nat} (hL : LkR M X) (hW : XW X) (hb : 0 < b) (h2 : M' 69 2 = nI (nX X - b)) (h7 : M' 70 = va_cpy (M 70) (M 70) b 0 (nX X - b)) : LkR M' (lvX X b) := by
  have hn := hW.2.1
  refine ⟨by rw [h2, lvX_6], fun i hi => ?_⟩
  rw [nX_lv _ _ hn] at hi
  rw [h7, lvX_78 X hb hi, pk_cpy_in (by omega) (by omega), hL.2 _ (by omega)]
  congr 1; omega
theorem LkR.fr {M M' X X' : Mem} (h : LkR M X) (h1 : M' 69 = M 69) (h2 : M' 70 = M 70) (x1 : X' 76 6 = X 76 6) (x2 : X' 78 = X 78) : LkR M' X' := by
  have e : nX X' = nX X := by unfold nX; rw [x1]
  unfold LkR at h ⊢
  rw [h1, h2, x1, x2, e]; exact h
/-- all but the link, after some bytes are given up -/
theorem RcR.lv {M' X : Mem} {b : Nat} (h1 : SR M' X) (h2 : SsR M' X) (h3 : StR M' X) (h4 : LkR M' (lvX X b)) (h5 : WnR M' X) : RcR M' (lvX X b) := by
  refine ⟨h1.se ?_, h2.eq (fun _ _ _ => rfl) (fun k a b => lvX_k _ _ (by omega)), h3.eq (lvX_p _ _ (by decide) (by decide)) (lvX_p _ _ (by decide) (by decide)) (lvX_p _ _ (by decide) (by decide)), h4, h5.eq rfl rfl rfl (lvX_k _ _ (by decide)) (lvX_p _ _ (by decide) (by decide))⟩
  unfold SE
  rw [lvX_k _ _ (by decide), lvX_k _ _ (by decide), lvX_k _ _ (by decide), lvX_k _ _ (by decide), lvX_k _ _ (by decide), lvX_k _ _ (by decide), lvX_p _ _ (by decide) (by decide), lvX_p _ _ (by decide) (by decide), lvX_p _ _ (by decide) (by decide), lvX_p _ _ (by decide) (by decide), lvX_p _ _ (by decide) (by decide)]
  exact SE.refl X
theorem fTake_p (M : Mem) (n t : Nat) {p : Nat} (h : p < 69 ∨ 73 ≤ p) : fTake M n t p = M p := by
  unfold fTake
  rw [mu_p _ _ _ (by omega), ma_p _ _ (by omega), ma_p _ _ (by omega), mu_p _ _ _ (by omega)]
/-- the frame at hand, after it is taken -/
theorem take_fr {M X : Mem} {n : Nat} (hL : LkR M X) (hW : XW X) (hn : nX X = n) (h5 : 5 ≤ tdX X) (h64 : tdX X ≤ 64) (hl : tdX X + 7 ≤ n) : FrR (tdX X) (wX X) (fTake M n (tdX X)) X := by
  refine ⟨rfl, h5, h64, fun i hi => ?_, fun i hi => (hW.2.2 i (by omega)).1, fun i hi => (hW.2.2 i (by omega)).2⟩
  show va_cpy (M 70) (M 72) 3 0 (tdX X) i = _
  rw [pk_cpy_in (by omega) (by omega), hL.2 _ (by omega), (hW.2.2 _ (by omega)).1]
  congr 2
theorem take_lk {M X Y : Mem} {n : Nat} (hL : LkR M X) (hW : XW X) (hn : nX X = n) (h6 : Y 76 6 = X 76 6) (h78 : Y 78 = X 78) : LkR (fTake M n (tdX X)) (lvX Y (tdX X + 7)) := by
  have e : nX Y = nX X := by unfold nX; rw [h6]
  have hWY : XW Y := hW.eq h6 h78
  have hLY : LkR M Y := hL.fr rfl rfl h6 h78
  refine lk_rel (M := M) hLY hWY (by omega) ?_ ?_
  · show nI (n - (3 + tdX X + 4)) = _
    congr 1; omega
  · show va_cpy (M 70) (M 70) (3 + tdX X + 4) 0 (n - (3 + tdX X + 4)) = _
    rw [show 3 + tdX X + 4 = tdX X + 7 by omega, e, hn]
theorem by_0 {X : Mem} (h : lkX X = 0) : ∀ (f : Nat), byM f X = X ∧ byN f X = 0
  | 0 => ⟨rfl, rfl⟩
  | f + 1 => by unfold byM byN; rw [if_pos h, if_pos h]; exact ⟨rfl, rfl⟩
theorem by_out {X : Mem} (h : ¬ X 76 3 = 0) : ∀ (f : Nat), byM f X = X ∧ byN f X = 0
  | 0 => ⟨rfl, rfl⟩
  | f + 1 => by unfold byM byN; rw [if_neg h, if_neg h]; exact ⟨by split <;> rfl, by split <;> rfl⟩
theorem by_1 {X : Mem} (h : lkX X = 1) (ho : X 76 3 = 0) (f : Nat) : byM (f + 1) X = byM f (lvX X 1) ∧ byN (f + 1) X = byN f (lvX X 1) := by
  have e0 : ¬ lkX X = 0 := by rw [h]; decide
  have e1 : lkX X = nI 1 := h
  refine ⟨?_, ?_⟩
  · (show (if lkX X = 0 then X else if X 76 3 = 0 then (if lkX X = nI 1 then byM f (lvX X 1) else byM f (lvX (fTk X (wX X) (tdX X)) (tdX X + 7))) else X) = _); rw [if_neg e0, if_pos ho, if_pos e1]
  · (show (if lkX X = 0 then 0 else if X 76 3 = 0 then (if lkX X = nI 1 then byN f (lvX X 1) else byN f (lvX (fTk X (wX X) (tdX X)) (tdX X + 7)) + 1) else 0) = _); rw [if_neg e0, if_pos ho, if_pos e1]
theorem by_2 {X : Mem} (h : lkX X = 2) (ho : X 76 3 = 0) (f : Nat) : byM (f + 1) X = byM f (lvX (fTk X (wX X) (tdX X)) (tdX X + 7)) ∧ byN (f + 1) X = byN f (lvX (fTk X (wX X) (tdX X)) (tdX X + 7)) + 1 := by
  have e0 : ¬ lkX X = 0 := by rw [h]; decide
  have e1 : ¬ lkX X = nI 1 := by rw [h]; decide
  refine ⟨?_, ?_⟩
  · (show (if lkX X = 0 then X else if X 76 3 = 0 then (if lkX X = nI 1 then byM f (lvX X 1) else byM f (lvX (fTk X (wX X) (tdX X)) (tdX X + 7))) else X) = _); rw [if_neg e0, if_pos ho, if_neg e1]
  · (show (if lkX X = 0 then 0 else if X 76 3 = 0 then (if lkX X = nI 1 then byN f (lvX X 1) else byN f (lvX (fTk X (wX X) (tdX X)) (tdX X + 7)) + 1) else 0) = _); rw [if_neg e0, if_pos ho, if_neg e1]
theorem lk_n0 {X : Mem} (h : nX X = 0) : lkX X = 0 := by unfold lkX LookM; rw [h, if_pos rfl]
theorem tk_shut {X : Mem} {g : Nat → Nat} {t : Nat} (h : fOpen (X 76 1) (X 77 0) (X 77 1) (X 77 2) = 0) : fTk X g t = X := by unfold fTk; rw [if_pos h]
/-- a byte is put, here as there -/
theorem put_rel {M X : Mem} {n v : Nat} (h : RcR M X) (hn : nX X = n) (h70 : n ≤ 70) : RcR (mu (mu M 70 n (nI v)) 69 2 (nI (n + 1))) (putX X (nI v)) := by
  obtain ⟨a, b, c, d, e⟩ := h
  refine ⟨(a.fr (fun p _ _ => by rw [mu_p _ _ _ (by omega), mu_p _ _ _ (by omega)])).se ?_, b, (c.fr (fun p _ _ => by rw [mu_p _ _ _ (by omega), mu_p _ _ _ (by omega)])).eq rfl rfl rfl, ⟨?_, fun i hi => ?_⟩, e⟩
  · exact ⟨rfl, rfl, rfl, rfl, rfl, rfl, rfl, rfl, rfl, rfl, rfl⟩
  · show nI (n + 1) = nI (nX X + 1)
    rw [hn]
  · rw [nX_put X (by omega)] at hi
    show upd (M 70) n (nI v) i = upd (X 78) (nX X) (nI v) i
    rw [hn]
    by_cases z : i = n
    · simp [upd, z]
    · simp only [upd, if_neg z]; exact d.2 i (by omega)
