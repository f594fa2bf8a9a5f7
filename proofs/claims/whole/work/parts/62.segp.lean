def SsR (M X : Mem) : Prop := M 55 3 = X 76 7 ∧ M 55 4 = X 76 8 ∧ M 55 5 = X 76 9 ∧ M 55 6 = X 76 10 ∧ M 55 7 = X 76 11
def StR (M X : Mem) : Prop := ∀ j, j < 4 → M (61 + 2 * j) 2 = X 79 j ∧ (¬ X 79 j = 0 → M (61 + 2 * j) 1 = X 80 j ∧ ∀ k, k < pX X j → M (62 + 2 * j) k = X 81 (60 * j + k))
theorem StR.fr {M M' X : Mem} (h : StR M X) (hM : ∀ p, 61 ≤ p → p < 69 → M' p = M p) : StR M' X := fun j hj => by
  rw [hM _ (by omega) (by omega), hM _ (by omega) (by omega)]
  exact h j hj
theorem StR.eq {M X Y : Mem} (h : StR M X) (h79 : Y 79 = X 79) (h80 : Y 80 = X 80) (h81 : Y 81 = X 81) : StR M Y := fun j hj => by
  have e : pX Y j = pX X j := by unfold pX; rw [h80]
  rw [h79, h80, h81, e]
  exact h j hj
/-- one stream has changed -/
theorem StR.one {M M' X Y : Mem} (h : StR M X) {j : Nat} (hM : ∀ x, x < 4 → x ≠ j → M' (61 + 2 * x) = M (61 + 2 * x) ∧ M' (62 + 2 * x) = M (62 + 2 * x)) (hX : ∀ x, x < 4 → x ≠ j → Y 79 x = X 79 x ∧ Y 80 x = X 80 x ∧ ∀ k, k < 60 → Y 81 (60 * x + k) = X 81 (60 * x + k)) (hT : XSt X) (hj : M' (61 + 2 * j) 2 = Y 79 j ∧ (¬ Y 79 j = 0 → M' (61 + 2 * j) 1 = Y 80 j ∧ ∀ k, k < pX Y j → M' (62 + 2 * j) k = Y 81 (60 * j + k))) : StR M' Y := fun x hx => by
  by_cases z : x = j
  · rw [z]; exact hj
  · have e := hX x hx z
    have p80 : pX Y x = pX X x := by unfold pX; rw [e.2.1]
    rw [(hM x hx z).1, (hM x hx z).2, e.1, e.2.1, p80]
    refine ⟨(h x hx).1, fun b => ⟨((h x hx).2 b).1, fun k hk => ?_⟩⟩
    rw [((h x hx).2 b).2 k hk, e.2.2 k (by have := ((hT x hx).2 b).2.1; omega)]
def gB (M : Mem) : Mem := mu (mu (mu M 56 3 (nI 0)) 56 4 (nI 0)) 55 8 (nI 0)
theorem fApp_p (f : Nat → Int32) : ∀ (r k n : Nat) (M : Mem) {p : Nat}, p ≠ 56 → p ≠ 57 → fApp f r k n M p = M p
  | 0, _, _, _, _, _, _ => rfl
  | r + 1, k, n, M, p, h1, h2 => by unfold fApp; rw [fApp_p f r _ _ _ h1 h2, mu_p _ _ _ h1, mu_p _ _ _ h2]
theorem fApp_k (f : Nat → Int32) : ∀ (r k n : Nat) (M : Mem) {x : Nat}, x ≠ 3 → fApp f r k n M 56 x = M 56 x
  | 0, _, _, _, _, _ => rfl
  | r + 1, k, n, M, x, h => by unfold fApp; rw [fApp_k f r _ _ _ h, mu_k _ _ _ h, mu_p _ _ _ (by decide)]
theorem fApp_3 (f : Nat → Int32) : ∀ (r k n : Nat) (M : Mem), M 56 3 = nI n → fApp f r k n M 56 3 = nI (n + r)
  | 0, _, _, _, h => h
  | r + 1, k, n, M, h => by unfold fApp; rw [fApp_3 f r (k + 1) (n + 1) _ (mu_same _ _ _ _)]; congr 1; omega
theorem fApp_57 (f : Nat → Int32) : ∀ (r k n : Nat) (M : Mem) (y : Nat), fApp f r k n M 57 y = if n ≤ y ∧ y < n + r then f (5 + k + (y - n)) else M 57 y
  | 0, k, n, M, y => by rw [if_neg (by omega)]; rfl
  | r + 1, k, n, M, y => by
    unfold fApp
    rw [fApp_57 f r (k + 1) (n + 1) _ y]
    have e : ∀ z, mu (mu M 57 n (f (5 + k))) 56 3 (nI (n + 1)) 57 z = upd (M 57) n (f (5 + k)) z := fun z => rfl
    rw [e]
    by_cases a : n + 1 ≤ y ∧ y < n + 1 + r
    · rw [if_pos a, if_pos (by omega)]; congr 1; omega
    · rw [if_neg a]
      by_cases b : y = n
      · rw [if_pos (by omega), b]; simp [upd]
      · rw [if_neg (by omega)]; simp [upd, b]
def fF (Z : Mem) (g : Nat → Nat) (en : Nat) (sq : Int32) (fm : Nat) : Mem := if fm = 0 then fPIn Z g en sq else if fm = 1 then fSgX Z g en sq else Z
def rF (Z : Mem) (g : Nat → Nat) (en : Nat) (sq : Int32) (fm : Nat) : Int32 := if fm = 0 then rPIn Z g en sq else if fm = 1 then rSgX Z g en sq else 1
/-- what gathering has come to -/
def GO (Z9 : Mem) (r9 : Int32) (sq : Int32) (Z M M1 : Mem) : Prop :=
  (∀ p0, p0 ≠ 55 → p0 ≠ 56 → p0 ≠ 57 → p0 ≠ 58 → p0 ≠ 59 → M1 p0 = M p0) ∧ (∀ k, k < 8 → M1 55 k = M 55 k) ∧
  ∃ (c n src : Nat) (st ln at0 : Nat → Nat) (Y : Mem), M1 56 3 = nI n ∧ n ≤ 60 ∧ (77 ≤ src ∧ src ≤ 81) ∧ Hv c st ln at0 src M1 Y ∧ SE Y Z ∧
    r9 = (if sq = 0 then 1 else if cntF (uX Z) 24 < fSumB ln c then 0 else 1) ∧
    (r9 = 0 → SE Z9 Z ∧ StR M1 Z9) ∧
    (¬ r9 = 0 → SE Z9 (kwF src at0 ln c 0 Y) ∧ ((M1 55 8 = nI 0 ∧ StR M1 Z9) ∨ ∃ j, j < 4 ∧ M1 55 8 = nI (j + 1) ∧ StR (fSet M1 j n) Z9))
/-- the bytes of the frame at hand: those of the reference's row -/
def FrR (t : Nat) (g : Nat → Nat) (M Z : Mem) : Prop := M 71 1 = nI t ∧ 5 ≤ t ∧ t ≤ 64 ∧ (∀ i, i < t → M 72 i = nI (g (3 + i))) ∧ (∀ i, i < 3 + t → Z 78 i = nI (g i)) ∧ ∀ i, i < 3 + t → g i < 256
theorem GO.none {Z M : Mem} {sq : Int32} (hT : StR M Z) : GO Z 1 sq Z M (gB M) := by
  refine ⟨fun p0 h1 h2 _ _ _ => by unfold gB; rw [mu_p _ _ _ h1, mu_p _ _ _ h2, mu_p _ _ _ h2], fun k hk => by unfold gB; rw [mu_k _ _ _ (by omega), mu_p _ _ _ (by decide), mu_p _ _ _ (by decide)], 0, 0, 78, fun _ => 0, fun _ => 0, fun _ => 0, Z, rfl, by omega, by omega, ⟨rfl, by omega, fun i hi => absurd hi (Nat.not_lt_zero _)⟩, SE.refl Z, ?_, fun h => absurd h (by decide), fun _ => ⟨SE.refl Z, Or.inl ⟨rfl, hT.fr (fun p h1 h2 => ?_)⟩⟩⟩
  · show 1 = if sq = 0 then 1 else if cntF (uX Z) 24 < 0 then 0 else 1
    rw [if_neg (Nat.not_lt_zero (cntF (uX Z) 24))]; split <;> rfl
  · unfold gB; rw [mu_p _ _ _ (by omega), mu_p _ _ _ (by omega), mu_p _ _ _ (by omega)]
theorem fPIn_0 (X : Mem) (g : Nat → Nat) (en : Nat) {sq : Int32} (h : rPIn X g en sq = 0) : fPIn X g en sq = X := by
  unfold rPIn at h
  unfold fPIn
  by_cases a : sq = 0
  · rw [if_pos a] at h; exact absurd h (by decide)
  · rw [if_neg a] at h ⊢
    by_cases b : cntF (uX X) 24 < fNd g en 81 8
    · rw [if_pos b]
    · rw [if_neg b] at h; exact absurd h (by decide)
theorem fPIn_1 (X : Mem) (g : Nat → Nat) (en : Nat) {sq : Int32} (h : ¬ rPIn X g en sq = 0) : fPIn X g en sq = fPkI g en 81 8 X := by
  unfold rPIn at h
  unfold fPIn
  by_cases a : sq = 0
  · rw [if_pos a]
  · rw [if_neg a] at h ⊢
    by_cases b : cntF (uX X) 24 < fNd g en 81 8
    · rw [if_pos b] at h; exact absurd rfl h
    · rw [if_neg b]
theorem GO.pk {Z M : Mem} {t : Nat} {g : Nat → Nat} {sq : Int32} (hT : StR M Z) (hF : FrR t g M Z) : GO (fPIn Z g (3 + t) sq) (rPIn Z g (3 + t) sq) sq Z M (fFind (fun k => g (8 + k)) (t - 5) 8 0 0 (fApp (M 72) (t - 5) 0 0 (gB M))) := by
  obtain ⟨f1, f2, f3, f4, f5, f6⟩ := hF
  generalize hn : t - 5 = n
  have hn60 : n ≤ 60 := by omega
  have e3 : 3 + t = 8 + n := by omega
  generalize hh : (fun k => g (8 + k)) = h
  have hhk : ∀ k, h k = g (8 + k) := fun k => by rw [← hh]
  have pm : ∀ {p0}, p0 ≠ 55 → p0 ≠ 56 → p0 ≠ 57 → p0 ≠ 58 → p0 ≠ 59 → fFind h n 8 0 0 (fApp (M 72) n 0 0 (gB M)) p0 = M p0 := fun h1 h2 h3 h4 h5 => by
    rw [fFind_p _ _ _ _ _ _ h2 h4 h5, fApp_p _ _ _ _ _ h2 h3]; unfold gB; rw [mu_p _ _ _ h1, mu_p _ _ _ h2, mu_p _ _ _ h2]
  have p55 : fFind h n 8 0 0 (fApp (M 72) n 0 0 (gB M)) 55 = gB M 55 := by rw [fFind_p _ _ _ _ _ _ (by decide) (by decide) (by decide), fApp_p _ _ _ _ _ (by decide) (by decide)]
  have b4 : fApp (M 72) n 0 0 (gB M) 56 4 = nI 0 := by rw [fApp_k _ _ _ _ _ (by decide)]; rfl
  have r57 : ∀ y, y < n → fFind h n 8 0 0 (fApp (M 72) n 0 0 (gB M)) 57 y = nI (g (8 + y)) := fun y hy => by
    rw [fFind_p _ _ _ _ _ _ (by decide) (by decide) (by decide), fApp_57, if_pos (by omega), f4 _ (by omega)]
    congr 2; omega
  have hc := fFind_c h n 8 0 (fApp (M 72) n 0 0 (gB M)) b4
  have hsum := nd_sum g h n hn60 hhk 8 81 0 (by show n < 0 + 7 * 9; omega) (by omega)
  have hkw := pk_kw g h n hn60 hhk 8 81 0 Z (by show n < 0 + 7 * 9; omega) (by omega)
  rw [Nat.zero_add] at hc hsum
  have hstr : StR (fFind h n 8 0 0 (fApp (M 72) n 0 0 (gB M))) Z := hT.fr (fun p h1 h2 => pm (by omega) (by omega) (by omega) (by omega) (by omega))
  refine ⟨fun p0 => pm, fun k hk => by rw [p55]; unfold gB; rw [mu_k _ _ _ (by omega), mu_p _ _ _ (by decide), mu_p _ _ _ (by decide)], fc h n 8 0, n, 78, fa h n, fl h n, fun x => 8 + fa h n x, Z, ?_, hn60, by omega, ⟨hc, fc_le _ _ _ _, fun i hi => ?_⟩, SE.refl Z, ?_, fun h0 => ?_, fun h0 => ?_⟩
  · rw [fFind_k _ _ _ _ _ _ (by decide), fApp_3 _ _ _ _ _ rfl]; congr 1; omega
  · have a := (fFind_58 h n 8 0 (fApp (M 72) n 0 0 (gB M)) i).1 ⟨by omega, by omega⟩
    have z := fc_in h n 8 0 i (by omega) (by omega)
    have l1 := Pla_7 h n (fa h n i)
    have l2 := Pla_le h n (fa h n i)
    have l3 := fa_le h n i
    have l4 : fl h n i = Pla h n (fa h n i) := rfl
    refine ⟨a.1, a.2, by omega, by omega, fun k hk => ⟨g (8 + (fa h n i + k)), f6 _ (by omega), ?_, ?_⟩⟩
    · show Z 78 (8 + fa h n i + k) = _
      rw [f5 _ (by omega)]; congr 2; omega
    · exact r57 _ (by omega)
  · unfold rPIn
    rw [e3, ← hsum]
    show _ = if sq = 0 then 1 else if cntF (uX Z) 24 < 0 + fNd g (8 + n) 81 (8 + 0) then 0 else 1
    rw [Nat.zero_add]
  · rw [fPIn_0 _ _ _ h0]; exact ⟨SE.refl Z, hstr⟩
  · rw [fPIn_1 _ _ _ h0, e3]
    refine ⟨?_, Or.inl ⟨?_, hstr.eq (fPkI_p _ _ (by decide) (by decide) (by decide) (by decide) (by decide) (by decide) _ _ _) (fPkI_p _ _ (by decide) (by decide) (by decide) (by decide) (by decide) (by decide) _ _ _) (fPkI_p _ _ (by decide) (by decide) (by decide) (by decide) (by decide) (by decide) _ _ _)⟩⟩
    · have : fPkI g (8 + n) 81 8 Z = kwF 78 (fun x => 8 + fa h n x) (fl h n) (fc h n 8 0) 0 Z := hkw
      rw [this]; exact SE.refl _
    · rw [p55]; rfl
/-- the stream j is touched, and does not go on -/
def gT (M : Mem) (j : Nat) : Mem := mu (mu (gB M) 55 8 (nI (j + 1))) 55 9 (nI 0)
theorem gT_p (M : Mem) (j : Nat) {p : Nat} (h5 : p ≠ 55) (h6 : p ≠ 56) : gT M j p = M p := by unfold gT gB; rw [mu_p _ _ _ h5, mu_p _ _ _ h5, mu_p _ _ _ h5, mu_p _ _ _ h6, mu_p _ _ _ h6]
theorem gT_k (M : Mem) (j : Nat) {k : Nat} (h : k < 8) : gT M j 55 k = M 55 k := by unfold gT gB; rw [mu_k _ _ _ (by omega), mu_k _ _ _ (by omega), mu_k _ _ _ (by omega), mu_p _ _ _ (by decide), mu_p _ _ _ (by decide)]
theorem fSet_0 {M : Mem} {j n : Nat} (h : M 55 9 = 0) : fSet M j n = fFg M j := if_pos h
theorem fSet_1 {M : Mem} {j n : Nat} (h : ¬ M 55 9 = 0) : fSet M j n = ma (mu (mu M (61 + 2 * j) 2 (nI 1)) (61 + 2 * j) 1 (nI n)) (62 + 2 * j) (va_cpy (M 57) (M (62 + 2 * j)) 0 0 n) := if_neg h
/-- a stream is forgotten, here as there -/
theorem StR.forget {M M1 Z Y : Mem} {j : Nat} (h : StR M Z) (hT : XSt Z) (hj : j < 4) (hM : ∀ p, 61 ≤ p → p < 69 → M1 p = M p) (hY : Y 79 j = 0) (hX : ∀ x, x < 4 → x ≠ j → Y 79 x = Z 79 x ∧ Y 80 x = Z 80 x ∧ ∀ k, k < 60 → Y 81 (60 * x + k) = Z 81 (60 * x + k)) : StR (fFg M1 j) Y := by
  refine StR.one (j := j) h (fun x hx z => ?_) hX hT ⟨?_, fun b => absurd hY b⟩
  · unfold fFg
    rw [mu_p _ _ _ (by omega), mu_p _ _ _ (by omega), mu_p _ _ _ (by omega), mu_p _ _ _ (by omega), hM _ (by omega) (by omega), hM _ (by omega) (by omega)]
    exact ⟨rfl, rfl⟩
  · unfold fFg
    rw [mu_k _ _ _ (by decide), mu_same, hY]; rfl
/-- a stream is held, here as there -/
theorem StR.hold {M M1 Z Y : Mem} {j n : Nat} (h : StR M Z) (hT : XSt Z) (hj : j < 4) (hn : n ≤ 60) (hM : ∀ p, 61 ≤ p → p < 69 → M1 p = M p) (h9 : ¬ M1 55 9 = 0) (hY : Y 79 j = 1) (hY8 : Y 80 j = nI n) (hby : ∀ k, k < n → M1 57 k = Y 81 (60 * j + k)) (hX : ∀ x, x < 4 → x ≠ j → Y 79 x = Z 79 x ∧ Y 80 x = Z 80 x ∧ ∀ k, k < 60 → Y 81 (60 * x + k) = Z 81 (60 * x + k)) : StR (fSet M1 j n) Y := by
  rw [fSet_1 h9]
  refine StR.one (j := j) h (fun x hx z => ?_) hX hT ⟨?_, fun b => ⟨?_, fun k hk => ?_⟩⟩
  · rw [ma_p _ _ (by omega), mu_p _ _ _ (by omega), mu_p _ _ _ (by omega), ma_p _ _ (by omega), mu_p _ _ _ (by omega), mu_p _ _ _ (by omega), hM _ (by omega) (by omega), hM _ (by omega) (by omega)]
    exact ⟨rfl, rfl⟩
  · rw [ma_p _ _ (by omega), mu_k _ _ _ (by decide), mu_same, hY]; rfl
  · rw [ma_p _ _ (by omega), mu_same, hY8]
  · have e : pX Y j = n := by unfold pX; rw [hY8, nI_clamp (by omega)]
    rw [e] at hk
    rw [ma_row, pk_cpy_in (by omega) (by omega), ← hby k hk]
    congr 1; omega
theorem mu79_o (Z : Mem) (j : Nat) (v : Int32) {x : Nat} (h : x ≠ j) : mu Z 79 j v 79 x = Z 79 x ∧ mu Z 79 j v 80 x = Z 80 x ∧ ∀ k, k < 60 → mu Z 79 j v 81 (60 * x + k) = Z 81 (60 * x + k) := ⟨mu_k _ _ _ h, by rw [mu_p _ _ _ (by decide)], fun k _ => by rw [mu_p _ _ _ (by decide)]⟩
section ZSEG
variable {Z M : Mem} {t j : Nat} {g : Nat → Nat} {sq : Int32}
/-- what a segment is to the reference, by its kind -/
theorem sgX_eq (h8 : ¬ t = 5) (hj : g 8 % 64 = j) (hj4 : j < 4) : fSgX Z g (3 + t) sq = (if g 8 / 64 = 3 then fSg3 Z (3 + t) j (PlaM g 9 (3 + t)) sq else if g 8 / 64 = 1 then segM1 Z (3 + t) j else if g 8 / 64 = 2 then segM2 Z (3 + t) j sq else fGo Z j (3 + t) (pX Z j)) ∧ rSgX Z g (3 + t) sq = (if g 8 / 64 = 3 then rSg3 Z (3 + t) (PlaM g 9 (3 + t)) sq else if g 8 / 64 = 1 then 1 else if g 8 / 64 = 2 then segR2 Z (3 + t) j sq else 1) := by
  unfold fSgX rSgX fSeg rSeg
  have a1 : ¬ 3 + t = 8 := by omega
  have a2 : ¬ 3 < j := by omega
  rw [hj, if_neg a1, if_neg a2, if_neg a1, if_neg a2]
  exact ⟨rfl, rfl⟩
theorem GO.lost (hT : StR M Z) (hX : XSt Z) (hj4 : j < 4) : GO (mu Z 79 j (nI 0)) 1 sq Z M (gT M j) := by
  refine ⟨fun p0 h1 h2 _ _ _ => gT_p _ _ h1 h2, fun k hk => gT_k _ _ hk, 0, 0, 78, fun _ => 0, fun _ => 0, fun _ => 0, Z, rfl, by omega, by omega, ⟨rfl, by omega, fun i hi => absurd hi (Nat.not_lt_zero _)⟩, SE.refl Z, ?_, fun h => absurd h (by decide), fun _ => ⟨SE.mu1 _ _ (by decide) (by decide) (by decide) (by decide) (by decide) (by decide), Or.inr ⟨j, hj4, rfl, ?_⟩⟩⟩
  · show 1 = if sq = 0 then 1 else if cntF (uX Z) 24 < 0 then 0 else 1
    rw [if_neg (Nat.not_lt_zero (cntF (uX Z) 24))]; split <;> rfl
  · rw [fSet_0 rfl]
    exact hT.forget hX hj4 (fun p a b => gT_p _ _ (by omega) (by omega)) (mu_same _ _ _ _) (fun x _ z => mu79_o Z j _ z)
/-- a segment goes on: the row n of the harvest, held -/
theorem GO.on {M1 Y : Mem} {n : Nat} (hT : StR M Z) (hX : XSt Z) (hj4 : j < 4) (hn : n ≤ 60) (hM : ∀ p0, p0 ≠ 55 → p0 ≠ 56 → p0 ≠ 57 → p0 ≠ 58 → p0 ≠ 59 → M1 p0 = M p0) (hk : ∀ k, k < 8 → M1 55 k = M 55 k) (h3 : M1 56 3 = nI n) (h4 : M1 56 4 = nI 0) (h8 : M1 55 8 = nI (j + 1)) (h9 : M1 55 9 = nI 1) (hY : Y 79 j = 1) (hY8 : Y 80 j = nI n) (hby : ∀ k, k < n → M1 57 k = Y 81 (60 * j + k)) (hO : ∀ x, x < 4 → x ≠ j → Y 79 x = Z 79 x ∧ Y 80 x = Z 80 x ∧ ∀ k, k < 60 → Y 81 (60 * x + k) = Z 81 (60 * x + k)) (hS : SE Y Z) : GO Y 1 sq Z M M1 := by
  refine ⟨hM, hk, 0, n, 78, fun _ => 0, fun _ => 0, fun _ => 0, Z, h3, hn, by omega, ⟨h4, by omega, fun i hi => absurd hi (Nat.not_lt_zero _)⟩, SE.refl Z, ?_, fun h => absurd h (by decide), fun _ => ⟨hS, Or.inr ⟨j, hj4, h8, ?_⟩⟩⟩
  · show 1 = if sq = 0 then 1 else if cntF (uX Z) 24 < 0 then 0 else 1
    rw [if_neg (Nat.not_lt_zero (cntF (uX Z) 24))]; split <;> rfl
  · exact hT.hold hX hj4 hn (fun p a b => hM p (by omega) (by omega) (by omega) (by omega) (by omega)) (by rw [h9]; decide) hY hY8 hby hO
/-- a segment ends: one packet, or none; r: the reference's answer -/
theorem GO.end {M1 Y Z9 : Mem} {n src a0 : Nat} {r9 : Int32} (hT : StR M Z) (hX : XSt Z) (hj4 : j < 4) (hn : n ≤ 60) (hM : ∀ p0, p0 ≠ 55 → p0 ≠ 56 → p0 ≠ 57 → p0 ≠ 58 → p0 ≠ 59 → M1 p0 = M p0) (hk : ∀ k, k < 8 → M1 55 k = M 55 k) (h3 : M1 56 3 = nI n) (h8 : M1 55 8 = nI (j + 1)) (h9 : M1 55 9 = nI 0) (hs : 77 ≤ src ∧ src ≤ 81) (hS : SE Y Z) (c : Nat) (hc1 : c ≤ 1) (hc : M1 56 4 = nI c) (h7 : c = 1 → 7 ≤ n ∧ M1 58 0 = nI 0 ∧ M1 59 0 = nI n) (hby : ∀ k, k < n → ∃ v, v < 256 ∧ Y src (a0 + k) = nI v ∧ M1 57 k = nI v)
    (hr : r9 = if sq = 0 then 1 else if cntF (uX Z) 24 < (if c = 1 then (n + 19) / 20 else 0) then 0 else 1) (h0 : r9 = 0 → SE Z9 Z ∧ StR M Z9) (h1 : ¬ r9 = 0 → SE Z9 (if c = 1 then (if Z 76 3 = 0 then (if (n + 19) / 20 ≤ cntF (uX Z) 24 then fKeep Y src a0 n else Y) else Y) else Y) ∧ Z9 79 j = 0 ∧ ∀ x, x < 4 → x ≠ j → Z9 79 x = Z 79 x ∧ Z9 80 x = Z 80 x ∧ ∀ k, k < 60 → Z9 81 (60 * x + k) = Z 81 (60 * x + k)) : GO Z9 r9 sq Z M M1 := by
  have hMs : ∀ p, 61 ≤ p → p < 69 → M1 p = M p := fun p a b => hM p (by omega) (by omega) (by omega) (by omega) (by omega)
  refine ⟨hM, hk, c, n, src, fun _ => 0, fun _ => n, fun _ => a0, Y, h3, hn, hs, ⟨hc, by omega, fun i hi => ?_⟩, hS, ?_, fun h => ⟨(h0 h).1, (h0 h).2.fr hMs⟩, fun h => ⟨?_, Or.inr ⟨j, hj4, h8, ?_⟩⟩⟩
  · have e : i = 0 := by omega
    subst e
    have q := h7 (by omega)
    refine ⟨q.2.1, q.2.2, q.1, by show 0 + n ≤ 60; omega, fun k hk2 => ?_⟩
    obtain ⟨v, a, b, d⟩ := hby k hk2
    exact ⟨v, a, b, by rw [Nat.zero_add]; exact d⟩
  · rw [hr]
    rcases (show c = 0 ∨ c = 1 by omega) with z | z <;> subst z
    · rfl
    · show _ = if sq = 0 then 1 else if cntF (uX Z) 24 < 0 + (n + 20 - 1) / 20 then 0 else 1
      rw [if_pos rfl, show 0 + (n + 20 - 1) / 20 = (n + 19) / 20 by omega]
  · have q := (h1 h).1
    rcases (show c = 0 ∨ c = 1 by omega) with z | z <;> subst z
    · exact q
    · show SE Z9 (if Y 76 3 = 0 then (if (n + 19) / 20 ≤ cntF (uX Y) 24 then fKeep Y src a0 n else Y) else Y)
      rw [hS.1, hS.u1]
      exact q
  · rw [fSet_0 (by rw [h9]; rfl)]
    exact hT.forget hX hj4 hMs (h1 h).2.1 (h1 h).2.2
end ZSEG
def fAp2 (f : Nat → Int32) : Nat → Nat → Mem → Mem
  | 0, _, M => M
  | r + 1, k, M => fAp2 f r (k + 1) (mu (mu M 57 k (f k)) 56 3 (nI (k + 1)))
theorem fAp2_p (f : Nat → Int32) : ∀ (r k : Nat) (M : Mem) {p : Nat}, p ≠ 56 → p ≠ 57 → fAp2 f r k M p = M p
  | 0, _, _, _, _, _ => rfl
  | r + 1, k, M, p, h1, h2 => by unfold fAp2; rw [fAp2_p f r _ _ h1 h2, mu_p _ _ _ h1, mu_p _ _ _ h2]
theorem fAp2_k (f : Nat → Int32) : ∀ (r k : Nat) (M : Mem) {x : Nat}, x ≠ 3 → fAp2 f r k M 56 x = M 56 x
  | 0, _, _, _, _ => rfl
  | r + 1, k, M, x, h => by unfold fAp2; rw [fAp2_k f r _ _ h, mu_k _ _ _ h, mu_p _ _ _ (by decide)]
theorem fAp2_3 (f : Nat → Int32) : ∀ (r k : Nat) (M : Mem), M 56 3 = nI k → fAp2 f r k M 56 3 = nI (k + r)
  | 0, _, _, h => h
  | r + 1, k, M, h => by unfold fAp2; rw [fAp2_3 f r (k + 1) _ (mu_same _ _ _ _)]; congr 1; omega
theorem fAp2_57 (f : Nat → Int32) : ∀ (r k : Nat) (M : Mem) (y : Nat), fAp2 f r k M 57 y = if k ≤ y ∧ y < k + r then f y else M 57 y
  | 0, k, M, y => by rw [if_neg (by omega)]; rfl
  | r + 1, k, M, y => by
    unfold fAp2
    rw [fAp2_57 f r (k + 1) _ y]
    have e : ∀ z, mu (mu M 57 k (f k)) 56 3 (nI (k + 1)) 57 z = upd (M 57) k (f k) z := fun z => rfl
    rw [e]
    by_cases a : k + 1 ≤ y ∧ y < k + 1 + r
    · rw [if_pos a, if_pos (by omega)]
    · rw [if_neg a]
      by_cases b : y = k
      · rw [if_pos (by omega), b]; simp [upd]
      · rw [if_neg (by omega)]; simp [upd, b]
def fOne (M : Mem) (h : Nat → Nat) (n : Nat) : Mem := if 0 < n ∧ Pla h n 0 = n then mu (mu (mu M 58 0 (nI 0)) 59 0 (nI n)) 56 4 (nI 1) else M
/-- the row: what the stream has held (pl bytes), then what the segment brings -/
def gR (M : Mem) (t j pl : Nat) : Mem := fApp (M 72) (t - 5 - 1) 1 pl (fAp2 (M (62 + 2 * j)) pl 0 (gT M j))
theorem gR_p (M : Mem) (t j pl : Nat) {p : Nat} (h5 : p ≠ 55) (h6 : p ≠ 56) (h7 : p ≠ 57) : gR M t j pl p = M p := by unfold gR; rw [fApp_p _ _ _ _ _ h6 h7, fAp2_p _ _ _ _ h6 h7, gT_p _ _ h5 h6]
theorem gR_55 (M : Mem) (t j pl : Nat) : gR M t j pl 55 = gT M j 55 := by unfold gR; rw [fApp_p _ _ _ _ _ (by decide) (by decide), fAp2_p _ _ _ _ (by decide) (by decide)]
theorem gR_3 (M : Mem) (t j pl : Nat) : gR M t j pl 56 3 = nI (pl + (t - 5 - 1)) := by unfold gR; rw [fApp_3 _ _ _ _ _ (by rw [fAp2_3 _ _ _ _ rfl, Nat.zero_add])]
theorem gR_4 (M : Mem) (t j pl : Nat) : gR M t j pl 56 4 = nI 0 := by unfold gR; rw [fApp_k _ _ _ _ _ (by decide), fAp2_k _ _ _ _ (by decide)]; rfl
theorem gR_57 (M : Mem) (t j pl : Nat) (y : Nat) (h : y < pl + (t - 5 - 1)) : gR M t j pl 57 y = if y < pl then M (62 + 2 * j) y else M 72 (6 + (y - pl)) := by
  unfold gR
  rw [fApp_57, fAp2_57]
  by_cases z : y < pl
  · rw [if_neg (by omega), if_pos (by omega), if_pos z]
  · rw [if_pos (by omega), if_neg z]
section ZSEG2
variable {Z M : Mem} {t j pl : Nat} {g : Nat → Nat} {sq : Int32}
/-- what stands after the row has gone on, in the reference -/
theorem go_o (hj4 : j < 4) (h60 : pl + (3 + t - 9) ≤ 60) (X : Mem) {x : Nat} (z : x ≠ j) : goL j (3 + t - 9) 9 pl X 79 x = X 79 x ∧ goL j (3 + t - 9) 9 pl X 80 x = X 80 x ∧ ∀ k, k < 60 → goL j (3 + t - 9) 9 pl X 81 (60 * x + k) = X 81 (60 * x + k) :=
  ⟨by rw [goL_p _ _ _ _ _ (by decide) (by decide)], goL_80n _ _ _ _ _ z, fun k hk => by rw [goL_81, if_neg (by omega)]⟩
theorem go_se (X : Mem) : SE (goL j (3 + t - 9) 9 pl X) X := by
  unfold SE
  rw [goL_p _ _ _ _ _ (by decide) (by decide), goL_p _ _ _ _ _ (by decide) (by decide), goL_p _ _ _ _ _ (by decide) (by decide), goL_p _ _ _ _ _ (by decide) (by decide), goL_p _ _ _ _ _ (by decide) (by decide), goL_p _ _ _ _ _ (by decide) (by decide)]
  exact SE.refl X
theorem gR_go (hF : FrR t g M Z) (h6 : 6 ≤ t) (h60 : pl + (3 + t - 9) ≤ 60) {X : Mem} (hX : X 78 = Z 78) (hpl : ∀ k, k < pl → M (62 + 2 * j) k = X 81 (60 * j + k)) : ∀ k, k < pl + (t - 5 - 1) → gR M t j pl 57 k = goL j (3 + t - 9) 9 pl X 81 (60 * j + k) := by
  intro k hk
  obtain ⟨f1, f2, f3, f4, f5, f6⟩ := hF
  rw [gR_57 _ _ _ _ _ hk, goL_81]
  by_cases z : k < pl
  · rw [if_pos z, if_neg (by omega)]; exact hpl k z
  · rw [if_neg z, if_pos (by omega), f4 _ (by omega), hX, f5 _ (by omega)]
    congr 2; omega
theorem GO.k1 (hT : StR M Z) (hX : XSt Z) (hF : FrR t g M Z) (h6 : 6 ≤ t) (hj4 : j < 4) : GO (segM1 Z (3 + t) j) 1 sq Z M (mu (gR M t j 0) 55 9 (nI 1)) := by
  have h64 := hF.2.2.1
  refine GO.on (n := 0 + (t - 5 - 1)) (j := j) hT hX hj4 (by omega) (fun p0 a b c _ _ => by rw [mu_p _ _ _ a, gR_p _ _ _ _ a b c]) (fun k hk => by rw [mu_k _ _ _ (by omega), gR_55, gT_k _ _ hk]) ?_ ?_ ?_ (mu_same _ _ _ _) ?_ ?_ ?_ ?_ ?_
  · rw [mu_p _ _ _ (by decide), gR_3]
  · rw [mu_p _ _ _ (by decide), gR_4]
  · rw [mu_k _ _ _ (by decide), gR_55]; rfl
  · unfold segM1
    rw [goL_p _ _ _ _ _ (by decide) (by decide), mu_p _ _ _ (by decide), mu_same]; rfl
  · unfold segM1
    rw [goL_80 _ _ _ _ _ (mu_same _ _ _ _)]; congr 1; omega
  · intro k hk
    rw [mu_p _ _ _ (by decide)]
    exact gR_go (j := j) (X := mu (mu Z 79 j (nI 1)) 80 j (nI 0)) hF h6 (by omega) rfl (fun k hk => absurd hk (Nat.not_lt_zero _)) k hk
  · intro x _ z
    unfold segM1
    have e := go_o (t := t) (pl := 0) hj4 (by omega) (mu (mu Z 79 j (nI 1)) 80 j (nI 0)) z
    refine ⟨e.1.trans ?_, e.2.1.trans ?_, fun k hk => (e.2.2 k hk).trans ?_⟩
    · rw [mu_p _ _ _ (by decide), mu_k _ _ _ z]
    · rw [mu_k _ _ _ z, mu_p _ _ _ (by decide)]
    · rw [mu_p _ _ _ (by decide), mu_p _ _ _ (by decide)]
  · exact (go_se _).trans ((SE.mu1 _ _ (by decide) (by decide) (by decide) (by decide) (by decide) (by decide)).trans (SE.mu1 _ _ (by decide) (by decide) (by decide) (by decide) (by decide) (by decide)))
theorem GO.k0 (hT : StR M Z) (hX : XSt Z) (hF : FrR t g M Z) (h6 : 6 ≤ t) (hj4 : j < 4) (hb : ¬ Z 79 j = 0) (hpl : pX Z j = pl) (h60 : pl + (3 + t - 9) ≤ 60) : GO (goL j (3 + t - 9) 9 pl Z) 1 sq Z M (mu (gR M t j pl) 55 9 (nI 1)) := by
  have hs := (hX j hj4).2 hb
  rw [hpl] at hs
  have hm := (hT j hj4).2 hb
  rw [hpl] at hm
  refine GO.on (n := pl + (t - 5 - 1)) (j := j) hT hX hj4 (by omega) (fun p0 a b c _ _ => by rw [mu_p _ _ _ a, gR_p _ _ _ _ a b c]) (fun k hk => by rw [mu_k _ _ _ (by omega), gR_55, gT_k _ _ hk]) ?_ ?_ ?_ (mu_same _ _ _ _) ?_ ?_ ?_ (fun x _ z => go_o hj4 h60 Z z) (go_se _)
  · rw [mu_p _ _ _ (by decide), gR_3]
  · rw [mu_p _ _ _ (by decide), gR_4]
  · rw [mu_k _ _ _ (by decide), gR_55]; rfl
  · rw [goL_p _ _ _ _ _ (by decide) (by decide)]
    rcases (hX j hj4).1 with z | z
    · exact absurd z hb
    · exact z
  · rw [goL_80 _ _ _ _ _ hs.1]; congr 1; omega
  · intro k hk
    rw [mu_p _ _ _ (by decide)]
    exact gR_go hF h6 h60 rfl hm.2 k hk
theorem fOne_p (C : Mem) (h : Nat → Nat) (n : Nat) {p : Nat} (h6 : p ≠ 56) (h8 : p ≠ 58) (h9 : p ≠ 59) : fOne C h n p = C p := by
  unfold fOne
  split
  · rw [mu_p _ _ _ h6, mu_p _ _ _ h9, mu_p _ _ _ h8]
  · rfl
theorem fOne_3 (C : Mem) (h : Nat → Nat) (n : Nat) : fOne C h n 56 3 = C 56 3 := by
  unfold fOne
  split
  · rw [mu_k _ _ _ (by decide), mu_p _ _ _ (by decide), mu_p _ _ _ (by decide)]
  · rfl
theorem fOne_c (C : Mem) (h : Nat → Nat) (n : Nat) (h4 : C 56 4 = nI 0) : ∃ c, c ≤ 1 ∧ fOne C h n 56 4 = nI c ∧ (c = 1 → 7 ≤ n ∧ fOne C h n 58 0 = nI 0 ∧ fOne C h n 59 0 = nI n) ∧ (c = 1 ↔ 0 < n ∧ Pla h n 0 = n) := by
  by_cases z : 0 < n ∧ Pla h n 0 = n
  · have e : fOne C h n = mu (mu (mu C 58 0 (nI 0)) 59 0 (nI n)) 56 4 (nI 1) := if_pos z
    have := Pla_7 h n 0
    rw [e]
    exact ⟨1, by omega, mu_same _ _ _ _, fun _ => ⟨by omega, rfl, rfl⟩, fun _ => z, fun _ => rfl⟩
  · have e : fOne C h n = C := if_neg z
    rw [e]
    exact ⟨0, by omega, h4, fun q => absurd q (by decide), fun q => absurd q (by decide), fun q => absurd q z⟩
theorem GO.k3 (hT : StR M Z) (hX : XSt Z) (hF : FrR t g M Z) (h6 : 6 ≤ t) (hj4 : j < 4) (ho : Z 76 3 = 0) : GO (fSg3 Z (3 + t) j (PlaM g 9 (3 + t)) sq) (rSg3 Z (3 + t) (PlaM g 9 (3 + t)) sq) sq Z M (fOne (mu (gR M t j 0) 55 9 (nI 0)) (fun k => g (9 + k)) (0 + (t - 5 - 1))) := by
  have hFF := hF
  obtain ⟨f1, f2, f3, f4, f5, f6⟩ := hFF
  generalize hn : 0 + (t - 5 - 1) = n
  have hn2 : n = t - 6 := by omega
  have hn60 : n ≤ 60 := by omega
  have eP : PlaM g 9 (3 + t) = Pla (fun k => g (9 + k)) n 0 := by rw [Pla_M g n 0 hn60 (by omega) 9, show 9 + n = 3 + t by omega]
  rw [eP]
  obtain ⟨c, c1, c2, c3, c4⟩ := fOne_c (mu (gR M t j 0) 55 9 (nI 0)) (fun k => g (9 + k)) n (by rw [mu_p _ _ _ (by decide), gR_4])
  generalize hN : Pla (fun k => g (9 + k)) n 0 = N at c4
  have hb : ∀ k, k < n → ∃ v, v < 256 ∧ Z 78 (9 + k) = nI v ∧ fOne (mu (gR M t j 0) 55 9 (nI 0)) (fun k => g (9 + k)) n 57 k = nI v := fun k hk => by
    refine ⟨g (9 + k), f6 _ (by omega), f5 _ (by omega), ?_⟩
    rw [fOne_p _ _ _ (by decide) (by decide) (by decide), mu_p _ _ _ (by decide), gR_57 _ _ _ _ _ (by omega), if_neg (by omega), f4 _ (by omega)]
    congr 2; omega
  refine GO.end (n := n) (src := 78) (a0 := 9) (Y := Z) (j := j) hT hX hj4 hn60 (fun p0 a b d e f => by rw [fOne_p _ _ _ b e f, mu_p _ _ _ a, gR_p _ _ _ _ a b d]) (fun k hk => by rw [fOne_p _ _ _ (by decide) (by decide) (by decide), mu_k _ _ _ (by omega), gR_55, gT_k _ _ hk]) ?_ ?_ ?_ (by omega) (SE.refl Z) c c1 c2 c3 hb ?_ ?_ ?_
  · rw [fOne_3, mu_p _ _ _ (by decide), gR_3, hn]
  · rw [fOne_p _ _ _ (by decide) (by decide) (by decide), mu_k _ _ _ (by decide), gR_55]; rfl
  · rw [fOne_p _ _ _ (by decide) (by decide) (by decide), mu_same]
  · unfold rSg3
    by_cases z : c = 1
    · have q := c4.mp z
      rw [if_pos (show N = 3 + t - 9 by omega), if_neg (show ¬ N = 0 by omega), if_pos z, q.2]
      by_cases y : cntF (uX Z) 24 < (n + 19) / 20
      · rw [if_pos y, if_pos y]
      · rw [if_neg y, if_neg y]; split <;> rfl
    · have q : ¬ (0 < n ∧ N = n) := fun w => z (c4.mpr w)
      rw [if_neg z, if_neg (Nat.not_lt_zero (cntF (uX Z) 24))]
      by_cases y : N = 3 + t - 9
      · rw [if_pos y, if_pos (show N = 0 by omega)]; split <;> rfl
      · rw [if_neg y]; split <;> rfl
  · intro h0
    unfold rSg3 at h0
    unfold fSg3
    by_cases y : N = 3 + t - 9
    · rw [if_pos y] at h0 ⊢
      by_cases w : N = 0
      · rw [if_pos w] at h0; exact absurd h0 (by decide)
      · rw [if_neg w] at h0 ⊢
        by_cases u : cntF (uX Z) 24 < (N + 19) / 20
        · rw [if_pos u] at h0 ⊢
          by_cases s0 : sq = 0
          · rw [if_pos s0] at h0; exact absurd h0 (by decide)
          · rw [if_neg s0]
            refine ⟨SE.mu1 _ _ (by decide) (by decide) (by decide) (by decide) (by decide) (by decide), ?_⟩
            have e : mu Z 79 j (if Z 79 j = 0 then nI 0 else nI 1) = Z := by
              have : (if Z 79 j = 0 then nI 0 else nI 1) = Z 79 j := by
                rcases (hX j hj4).1 with v | v
                · rw [if_pos v, v]; rfl
                · rw [if_neg (by rw [v]; decide), v]; rfl
              rw [this]
              funext p k
              by_cases pp : p = 79
              · subst pp
                by_cases kk : k = j
                · subst kk; rw [mu_same]
                · rw [mu_k _ _ _ kk]
              · rw [mu_p _ _ _ pp]
            rw [e]; exact hT
        · rw [if_neg u] at h0; exact absurd h0 (by decide)
    · rw [if_neg y] at h0; exact absurd h0 (by decide)
  · intro h0
    have oth : ∀ (X : Mem) (v : Int32), X 79 = Z 79 → X 80 = Z 80 → X 81 = Z 81 → ∀ x, x < 4 → x ≠ j → mu X 79 j v 79 x = Z 79 x ∧ mu X 79 j v 80 x = Z 80 x ∧ ∀ k, k < 60 → mu X 79 j v 81 (60 * x + k) = Z 81 (60 * x + k) := fun X v a b d x _ z => by
      have := mu79_o X j v z
      rw [a, b, d] at this; exact this
    have sm : ∀ (X : Mem) (v : Int32), SE (mu X 79 j v) X := fun X v => SE.mu1 _ _ (by decide) (by decide) (by decide) (by decide) (by decide) (by decide)
    unfold rSg3 at h0
    unfold fSg3
    by_cases z : c = 1
    · have q := c4.mp z
      rw [if_pos z, if_pos ho]
      rw [if_pos (show N = 3 + t - 9 by omega), if_neg (show ¬ N = 0 by omega), q.2] at h0 ⊢
      by_cases u : cntF (uX Z) 24 < (n + 19) / 20
      · rw [if_pos u] at h0 ⊢
        have s0 : sq = 0 := Classical.byContradiction fun s0 => by rw [if_neg s0] at h0; exact h0 rfl
        rw [if_pos s0, if_neg (by omega)]
        exact ⟨sm _ _, mu_same _ _ _ _, oth Z _ rfl rfl rfl⟩
      · rw [if_neg u, if_pos (by omega)]
        exact ⟨sm _ _, mu_same _ _ _ _, oth _ _ (fKeep_p _ _ _ _ (by decide) (by decide) (by decide) (by decide) (by decide) (by decide)) (fKeep_p _ _ _ _ (by decide) (by decide) (by decide) (by decide) (by decide) (by decide)) (fKeep_p _ _ _ _ (by decide) (by decide) (by decide) (by decide) (by decide) (by decide))⟩
    · have q : ¬ (0 < n ∧ N = n) := fun w => z (c4.mpr w)
      rw [if_neg z]
      by_cases y : N = 3 + t - 9
      · rw [if_pos y, if_pos (show N = 0 by omega)]
        exact ⟨sm _ _, mu_same _ _ _ _, oth Z _ rfl rfl rfl⟩
      · rw [if_neg y]
        exact ⟨sm _ _, mu_same _ _ _ _, oth Z _ rfl rfl rfl⟩
end ZSEG2
section ZSEG3
variable {Z M : Mem} {t j pl : Nat} {g : Nat → Nat} {sq : Int32}
theorem GO.k2 (hT : StR M Z) (hX : XSt Z) (hF : FrR t g M Z) (h6 : 6 ≤ t) (hj4 : j < 4) (ho : Z 76 3 = 0) (hsq : sq = 0 ∨ sq = 1) (hb : ¬ Z 79 j = 0) (hpl : pX Z j = pl) (h60 : pl + (3 + t - 9) ≤ 60) : GO (segM2 Z (3 + t) j sq) (segR2 Z (3 + t) j sq) sq Z M (fOne (mu (gR M t j pl) 55 9 (nI 0)) (fun k => tX (segG Z (3 + t) j) (60 * j + k)) (pl + (t - 5 - 1))) := by
  have hFF := hF
  obtain ⟨f1, f2, f3, f4, f5, f6⟩ := hFF
  have hs := (hX j hj4).2 hb
  have hm := (hT j hj4).2 hb
  have h79 : Z 79 j = 1 := by
    rcases (hX j hj4).1 with z | z
    · exact absurd z hb
    · exact z
  unfold segM2 segR2
  rw [if_neg hb, if_neg hb]
  unfold segN
  rw [hpl] at hs hm ⊢
  rw [if_pos h60, if_pos h60]
  have hsg : segG Z (3 + t) j = goL j (3 + t - 9) 9 pl Z := by unfold segG; rw [hpl]
  rw [hsg]
  generalize hG : goL j (3 + t - 9) 9 pl Z = G
  have gse : SE G Z := by rw [← hG]; exact go_se Z
  have g79 : G 79 = Z 79 := by rw [← hG, goL_p _ _ _ _ _ (by decide) (by decide)]
  have g80 : ∀ x, x ≠ j → G 80 x = Z 80 x := fun x z => by rw [← hG]; exact goL_80n _ _ _ _ _ z
  have g81 : ∀ x k, x ≠ j → k < 60 → G 81 (60 * x + k) = Z 81 (60 * x + k) := fun x k z hk => by rw [← hG, goL_81, if_neg (by omega)]
  have g81j : ∀ k, k < pl → G 81 (60 * j + k) = Z 81 (60 * j + k) := fun k hk => by rw [← hG, goL_81, if_neg (by omega)]
  have gby : ∀ k, k < pl + (t - 5 - 1) → G 81 (60 * j + k) = nI (tX G (60 * j + k)) ∧ tX G (60 * j + k) < 256 := fun k hk => by
    obtain ⟨v, hv, e⟩ := goL_bytes (j := j) (pl := pl) (en := 3 + t) hs.2.2 (by omega) f5 f6 (60 * j + k) (by omega) (by omega)
    rw [hG] at e
    have : tX G (60 * j + k) = v := by unfold tX; rw [e, nI_clamp (by omega)]
    rw [this]; exact ⟨e, hv⟩
  have grow : ∀ k, k < pl + (t - 5 - 1) → gR M t j pl 57 k = G 81 (60 * j + k) := fun k hk => by
    rw [← hG]; exact gR_go hF h6 h60 rfl hm.2 k hk
  generalize hn : pl + (t - 5 - 1) = n at gby grow
  have hn2 : pl + (3 + t - 9) = n := by omega
  have hn60 : n ≤ 60 := by omega
  have eP : PlaM (tX G) (60 * j) (60 * j + n) = Pla (fun k => tX G (60 * j + k)) n 0 := (Pla_M (tX G) n 0 hn60 (by omega) (60 * j)).symm
  rw [hn2, eP]
  obtain ⟨c, c1, c2, c3, c4⟩ := fOne_c (mu (gR M t j pl) 55 9 (nI 0)) (fun k => tX G (60 * j + k)) n (by rw [mu_p _ _ _ (by decide), gR_4])
  generalize hN : Pla (fun k => tX G (60 * j + k)) n 0 = N at c4
  generalize hY : mu G 79 j (nI 0) = Y
  have yse : SE Y Z := by rw [← hY]; exact (SE.mu1 _ _ (by decide) (by decide) (by decide) (by decide) (by decide) (by decide)).trans gse
  have y81 : Y 81 = G 81 := by rw [← hY, mu_p _ _ _ (by decide)]
  have y80 : Y 80 = G 80 := by rw [← hY, mu_p _ _ _ (by decide)]
  have y79 : Y 79 j = 0 := by rw [← hY, mu_same]; rfl
  have y79n : ∀ x, x ≠ j → Y 79 x = Z 79 x := fun x z => by rw [← hY, mu_k _ _ _ z, g79]
  have yo : ∀ x, x < 4 → x ≠ j → Y 79 x = Z 79 x ∧ Y 80 x = Z 80 x ∧ ∀ k, k < 60 → Y 81 (60 * x + k) = Z 81 (60 * x + k) := fun x _ z => ⟨y79n x z, by rw [y80]; exact g80 x z, fun k hk => by rw [y81]; exact g81 x k z hk⟩
  have kp : ∀ (p : Nat), p = 79 ∨ p = 80 ∨ p = 81 → fKeep Y 81 (60 * j) n p = Y p := fun p hp => fKeep_p _ _ _ _ (by omega) (by omega) (by omega) (by omega) (by omega) (by omega)
  have hbb : ∀ k, k < n → ∃ v, v < 256 ∧ Y 81 (60 * j + k) = nI v ∧ fOne (mu (gR M t j pl) 55 9 (nI 0)) (fun k => tX G (60 * j + k)) n 57 k = nI v := fun k hk => by
    refine ⟨tX G (60 * j + k), (gby k hk).2, by rw [y81]; exact (gby k hk).1, ?_⟩
    rw [fOne_p _ _ _ (by decide) (by decide) (by decide), mu_p _ _ _ (by decide), grow k hk]
    exact (gby k hk).1
  have uu : uX Y = uX Z := yse.u1
  refine GO.end (n := n) (src := 81) (a0 := 60 * j) (Y := Y) (j := j) hT hX hj4 hn60 (fun p0 a b d e f => by rw [fOne_p _ _ _ b e f, mu_p _ _ _ a, gR_p _ _ _ _ a b d]) (fun k hk => by rw [fOne_p _ _ _ (by decide) (by decide) (by decide), mu_k _ _ _ (by omega), gR_55, gT_k _ _ hk]) ?_ ?_ ?_ (by omega) yse c c1 c2 c3 hbb ?_ ?_ ?_
  · rw [fOne_3, mu_p _ _ _ (by decide), gR_3, hn]
  · rw [fOne_p _ _ _ (by decide) (by decide) (by decide), mu_k _ _ _ (by decide), gR_55]; rfl
  · rw [fOne_p _ _ _ (by decide) (by decide) (by decide), mu_same]
  · unfold rSg2
    rw [uu]
    by_cases z : c = 1
    · have q := c4.mp z
      rw [if_neg (show ¬ N = 0 by omega), if_pos q.2, if_pos z, q.2]
      by_cases y : cntF (uX Z) 24 < (n + 19) / 20
      · rw [if_pos y, if_pos y]
      · rw [if_neg y, if_neg y]; split <;> rfl
    · have q : ¬ (0 < n ∧ N = n) := fun w => z (c4.mpr w)
      rw [if_neg z, if_neg (Nat.not_lt_zero (cntF (uX Z) 24))]
      by_cases y : N = 0
      · rw [if_pos y]; split <;> rfl
      · rw [if_neg y, if_neg (show ¬ N = n by omega)]; split <;> rfl
  · intro h0
    unfold rSg2 at h0
    unfold fSg2
    rw [uu] at h0 ⊢
    by_cases y : N = 0
    · rw [if_pos y] at h0; exact absurd h0 (by decide)
    · rw [if_neg y] at h0 ⊢
      by_cases w : N = n
      · rw [if_pos w] at h0 ⊢
        by_cases u : cntF (uX Z) 24 < (N + 19) / 20
        · rw [if_pos u] at h0 ⊢
          have s0 : ¬ sq = 0 := fun s0 => by rw [if_pos s0] at h0; exact absurd h0 (by decide)
          have s1 : sq = 1 := by rcases hsq with v | v; exact absurd v s0; exact v
          refine ⟨(SE.mu1 _ _ (by decide) (by decide) (by decide) (by decide) (by decide) (by decide)).trans ((SE.mu1 _ _ (by decide) (by decide) (by decide) (by decide) (by decide) (by decide)).trans yse), ?_⟩
          have e80 : mu (mu Y 79 j sq) 80 j (Z 80 j) 80 j = Z 80 j := mu_same _ _ _ _
          refine StR.one (j := j) hT (fun x _ _ => ⟨rfl, rfl⟩) (fun x hx z => ⟨?_, ?_, fun k hk => ?_⟩) hX ⟨?_, fun _ => ⟨?_, fun k hk => ?_⟩⟩
          · rw [mu_p _ _ _ (by decide), mu_k _ _ _ z]; exact (yo x hx z).1
          · rw [mu_k _ _ _ z, mu_p _ _ _ (by decide)]; exact (yo x hx z).2.1
          · rw [mu_p _ _ _ (by decide), mu_p _ _ _ (by decide)]; exact (yo x hx z).2.2 k hk
          · rw [mu_p _ _ _ (by decide), mu_same, s1, ← h79]; exact (hT j hj4).1
          · rw [e80]; exact hm.1
          · have e : pX (mu (mu Y 79 j sq) 80 j (Z 80 j)) j = pl := by unfold pX; rw [e80, hs.1, nI_clamp (by omega)]
            rw [e] at hk
            rw [mu_p _ _ _ (by decide), mu_p _ _ _ (by decide), y81, g81j k hk]; exact hm.2 k hk
        · rw [if_neg u] at h0; exact absurd h0 (by decide)
      · rw [if_neg w] at h0; exact absurd h0 (by decide)
  · intro h0
    unfold rSg2 at h0
    unfold fSg2
    rw [uu] at h0 ⊢
    by_cases z : c = 1
    · have q := c4.mp z
      rw [if_pos z, if_pos ho]
      rw [if_neg (show ¬ N = 0 by omega), if_pos q.2, q.2] at h0 ⊢
      by_cases u : cntF (uX Z) 24 < (n + 19) / 20
      · rw [if_pos u] at h0 ⊢
        have s0 : sq = 0 := Classical.byContradiction fun s0 => by rw [if_neg s0] at h0; exact h0 rfl
        rw [s0, if_neg (by omega)]
        refine ⟨(SE.mu1 _ _ (by decide) (by decide) (by decide) (by decide) (by decide) (by decide)).trans (SE.mu1 _ _ (by decide) (by decide) (by decide) (by decide) (by decide) (by decide)), by rw [mu_p _ _ _ (by decide), mu_same], fun x hx z => ⟨?_, ?_, fun k hk => ?_⟩⟩
        · rw [mu_p _ _ _ (by decide), mu_k _ _ _ z]; exact (yo x hx z).1
        · rw [mu_k _ _ _ z, mu_p _ _ _ (by decide)]; exact (yo x hx z).2.1
        · rw [mu_p _ _ _ (by decide), mu_p _ _ _ (by decide)]; exact (yo x hx z).2.2 k hk
      · rw [if_neg u, if_pos (by omega)]
        refine ⟨SE.refl _, by rw [kp 79 (by omega)]; exact y79, fun x hx z => ?_⟩
        rw [kp 79 (by omega), kp 80 (by omega), kp 81 (by omega)]
        exact yo x hx z
    · have q : ¬ (0 < n ∧ N = n) := fun w => z (c4.mpr w)
      rw [if_neg z]
      by_cases y : N = 0
      · rw [if_pos y]
        exact ⟨SE.refl _, y79, yo⟩
      · rw [if_neg y, if_neg (show ¬ N = n by omega)]
        exact ⟨SE.refl _, y79, yo⟩
end ZSEG3
