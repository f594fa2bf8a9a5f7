/-- where power is on, no packet is wholly emitted -/
def EL (X : Mem) : Prop := X 76 3 = 0 → ∀ i, i < cX X → ¬ X 86 i = X 83 i
/-- the frames to Earth: here as there; n: no channel has had more -/
def ER (n : Nat) (M X : Mem) : Prop := (∀ y, y < 32 → M 74 y = X 87 y) ∧ M 73 2 = X 76 25 ∧ ∃ kk : Nat → Nat, ∀ w, w < 2 → kk w ≤ n ∧ M 75 w = nI (kk w) ∧ X 88 w = nI (kk w)
theorem fDropM_p (X : Mem) (i : Nat) {p : Nat} (h1 : p ≠ 76) (h2 : p ≠ 82) (h3 : p ≠ 83) (h4 : p ≠ 84) (h5 : p ≠ 85) (h6 : p ≠ 86) : fDropM X i p = X p := by
  unfold fDropM
  by_cases z : fJrM X 76 3 = 0
  · rw [if_pos z, fDr1_p h1 h2 h3 h4 h5 h6, fJrM_p _ h1]
  · rw [if_neg z, fJrM_p _ h1]
theorem fDropM_k (X : Mem) (i : Nat) {x : Nat} (h3 : x ≠ 3) (h4 : x ≠ 4) (h23 : x ≠ 23) (h15 : x ≠ 15) (h22 : x ≠ 22) : fDropM X i 76 x = X 76 x := by
  unfold fDropM
  by_cases z : fJrM X 76 3 = 0
  · rw [if_pos z, fDr1_k h3 h4 h23 h15 h22, fJrM_k _ h3 h4 h22 h23]
  · rw [if_neg z, fJrM_k _ h3 h4 h22 h23]
theorem dpM_p : ∀ (f i : Nat) (X : Mem) {p : Nat}, p ≠ 76 → p ≠ 82 → p ≠ 83 → p ≠ 84 → p ≠ 85 → p ≠ 86 → dpM f i X p = X p
  | 0, _, _, _, _, _, _, _, _, _ => rfl
  | f + 1, i, X, p, h1, h2, h3, h4, h5, h6 => by
    unfold dpM
    by_cases a : i < cX X
    · rw [if_pos a]
      by_cases b : X 76 3 = 0
      · rw [if_pos b]
        by_cases c : X 86 i = X 83 i
        · rw [if_pos c, dpM_p f i _ h1 h2 h3 h4 h5 h6, fDropM_p X i h1 h2 h3 h4 h5 h6]
        · rw [if_neg c, dpM_p f (i + 1) _ h1 h2 h3 h4 h5 h6]
      · rw [if_neg b]
    · rw [if_neg a]
theorem dpM_k : ∀ (f i : Nat) (X : Mem) {x : Nat}, x ≠ 3 → x ≠ 4 → x ≠ 23 → x ≠ 15 → x ≠ 22 → dpM f i X 76 x = X 76 x
  | 0, _, _, _, _, _, _, _, _ => rfl
  | f + 1, i, X, x, h1, h2, h3, h4, h5 => by
    unfold dpM
    by_cases a : i < cX X
    · rw [if_pos a]
      by_cases b : X 76 3 = 0
      · rw [if_pos b]
        by_cases c : X 86 i = X 83 i
        · rw [if_pos c, dpM_k f i _ h1 h2 h3 h4 h5, fDropM_k X i h1 h2 h3 h4 h5]
        · rw [if_neg c, dpM_k f (i + 1) _ h1 h2 h3 h4 h5]
      · rw [if_neg b]
    · rw [if_neg a]
theorem dpM_EL : ∀ (f i : Nat) (X : Mem), XS X → 2 * (cX X - i) + (if X 76 3 = 0 then 1 else 0) < f → i ≤ cX X → (∀ j, j < i → ¬ X 86 j = X 83 j) → EL (dpM f i X)
  | 0, _, _, _, h, _, _ => absurd h (Nat.not_lt_zero _)
  | f + 1, i, X, hX, hm, hi, hl => by
    unfold dpM
    by_cases a : i < cX X
    · rw [if_pos a]
      by_cases b : X 76 3 = 0
      · rw [if_pos b]
        rw [if_pos b] at hm
        by_cases c : X 86 i = X 83 i
        · rw [if_pos c]
          obtain ⟨c0, ln, em, bk, hS⟩ := hX
          have hcc := hS.c
          have hd := XS.drop hS (i := i) (by omega)
          refine dpM_EL f i _ hd.1 (by rcases hd.2 with q | q; (rw [q]; split <;> omega); (rw [q.1, if_neg q.2]; omega)) (by rcases hd.2 with q | q; (rw [q]; omega); (rw [q.1]; omega)) ?_
          intro j hj
          have e : ∀ p, p = 83 ∨ p = 86 → fDropM X i p j = X p j := by
            intro p hp
            unfold fDropM
            by_cases z : fJrM X 76 3 = 0
            · rw [if_pos z, hcc, fDr1_col (by omega) (by omega) (by omega), sh_lo _ hj, fJrM_p _ (by omega)]
            · rw [if_neg z, fJrM_p _ (by omega)]
          rw [e 86 (Or.inr rfl), e 83 (Or.inl rfl)]
          exact hl j hj
        · rw [if_neg c]
          refine dpM_EL f (i + 1) X hX (by rw [if_pos b]; omega) (by omega) (fun j hj => ?_)
          by_cases z : j = i
          · rw [z]; exact c
          · exact hl j (by omega)
      · rw [if_neg b]; exact fun z => absurd z b
    · rw [if_neg a]
      intro _ j hj
      exact hl j (by omega)
theorem XSv.EL {c0 : Nat} {ln em : Nat → Nat} {bk : Nat → Nat → Nat} {X : Mem} (h : XSv c0 ln em bk X) (hE : EL X) (ho : X 76 3 = 0) : ∀ x, x < c0 → em x < ln x := by
  intro x hx
  have a := hE ho x (by rw [h.c]; exact hx)
  have l := h.2.2.2.1 x hx
  have e := h.2.2.2.2.1 x hx
  rw [l.1, e.1] at a
  rcases Nat.lt_or_ge (em x) (ln x) with z | z
  · exact z
  · exact absurd (by rw [show em x = ln x by omega]) a
theorem CRv.fr {c0 : Nat} {ln em : Nat → Nat} {bk : Nat → Nat → Nat} {q : Nat → Nat} {M X : Mem} (h : CRv c0 ln em bk q M X) (hc : c0 ≤ 24) {M' X' : Mem} (hM : ∀ p, 3 ≤ p → p < 55 → M' p = M p) (h15 : X' 76 15 = X 76 15) (h21 : X' 76 21 = X 76 21) (h22 : X' 76 22 = X 76 22) (h23 : X' 76 23 = X 76 23) (h4 : X' 76 4 = X 76 4) (h3 : X' 76 3 = X 76 3) (h82 : X' 82 = X 82) (h84 : X' 84 = X 84) (h85 : X' 85 = X 85) : CRv c0 ln em bk q M' X' := by
  have huu : ∀ b, uX X' b = uX X b := uX_same h15 (fun z _ => by rw [h85])
  obtain ⟨r1, r2, r3, r4, r5, r6, r7, r8, r9, r10, r11, r12, r13, r14⟩ := h
  have e3 := hM 3 (by decide) (by decide)
  refine ⟨?_, ?_, ?_, ?_, ?_, ?_, ?_, ?_, ?_, r10, ?_, ?_, ?_, ?_⟩
  · rw [e3]; exact r1
  · rw [e3, cntF_congr 24 (fun b _ => huu b)]; exact r2
  · rw [e3, h21]; exact r3
  · rw [e3, h22]; exact r4
  · rw [e3, h23]; exact r5
  · rw [e3, h4]; exact r6
  · rw [e3, h3]; exact r7
  · intro b hb; rw [hM 5 (by decide) (by decide), huu]; exact r8 b hb
  · rw [hM 6 (by decide) (by decide)]; exact r9
  · intro j hj x hx; rw [hM _ (by omega) (by omega)]; exact r11 j hj x hx
  · intro x hx; have := (r9 x (by omega)).2; rw [hM _ (by omega) (by omega), h82, h84]; exact r12 x hx
  · intro x y hx hy; have := (r9 x (by omega)).2; rw [hM _ (by omega) (by omega)]; exact r13 x y hx hy
  · intro x y hx hy; rw [hM 4 (by decide) (by decide), h84]; exact r14 x y hx hy
theorem fPN2 (M : Mem) (a : Nat) (x : Int32) : fPN M a x 2 = mu (mu M 74 (a + 0) (ush x (nI 8) &&& nI 255)) 74 (a + 1) (ush x (nI 0) &&& nI 255) := rfl
theorem fPN3 (M : Mem) (a : Nat) (x : Int32) : fPN M a x 3 = mu (mu (mu M 74 (a + 0) (ush x (nI 16) &&& nI 255)) 74 (a + 1) (ush x (nI 8) &&& nI 255)) 74 (a + 2) (ush x (nI 0) &&& nI 255) := rfl
theorem fPN1 (M : Mem) (a : Nat) (x : Int32) : fPN M a x 1 = mu M 74 (a + 0) (ush x (nI 0) &&& nI 255) := rfl
theorem fPN2_p (M : Mem) (a : Nat) (x : Int32) {p : Nat} (h : p ≠ 74) : fPN M a x 2 p = M p := by rw [fPN2, mu_p _ _ _ h, mu_p _ _ _ h]
theorem fPN2_n (M : Mem) (a : Nat) (x : Int32) {y : Nat} (h : y ≠ a) (h2 : y ≠ a + 1) : fPN M a x 2 74 y = M 74 y := by rw [fPN2, mu_k _ _ _ h2, mu_k _ _ _ (by omega)]
theorem fPN2_0 (M : Mem) (a : Nat) (x : Int32) : fPN M a x 2 74 a = ush x (nI 8) &&& nI 255 := by rw [fPN2, mu_k _ _ _ (by omega)]; exact mu_same _ _ _ _
theorem fPN2_1 (M : Mem) (a : Nat) (x : Int32) : fPN M a x 2 74 (a + 1) = ush x (nI 0) &&& nI 255 := by rw [fPN2, mu_same]
def hdC (M : Mem) (w : Nat) : Mem := fPN (fPN (fPN (mu (mu M 75 w (M 75 w + nI 1)) 73 2 (nI 1)) 0 (nI (21312 + w)) 2) 2 (M 75 w) 3) 5 (nI 0) 1
theorem hdC_p (M : Mem) (w : Nat) {p : Nat} (h3 : p ≠ 73) (h4 : p ≠ 74) (h5 : p ≠ 75) : hdC M w p = M p := by
  unfold hdC
  rw [fPN1, mu_p _ _ _ h4, fPN3, mu_p _ _ _ h4, mu_p _ _ _ h4, mu_p _ _ _ h4, fPN2_p _ _ _ h4, mu_p _ _ _ h3, mu_p _ _ _ h5]
theorem hdC_73 (M : Mem) (w : Nat) : hdC M w 73 2 = nI 1 := rfl
theorem hdC_75 (M : Mem) (w : Nat) : hdC M w 75 = upd (M 75) w (M 75 w + nI 1) := rfl
theorem sh_byte {k : Nat} (hk : k < 2 ^ 24) : ush (nI k) (nI 16) &&& nI 255 = nI k >>> (nI 16 &&& 31) ∧ ush (nI k) (nI 0) &&& nI 255 = nI k &&& nI 255 := by
  refine ⟨?_, ?_⟩
  · rw [wb_eq _ 16 (by decide), nI_shr 16 65536 (by omega) (by decide) (by decide), show (255 : Nat) = 256 - 1 from rfl, nI_and 8 256 (by omega) (by decide) (by decide)]
    congr 1
    omega
  · rw [wb_eq _ 0 (by decide), nI_shr 0 1 (by omega) (by decide) (by decide), Nat.div_one]
theorem hdC_74 {M X : Mem} {w k : Nat} (hw : w ≤ 1) (hk : k < 2 ^ 24) (hM : M 75 w = nI k) (hX : X 88 w = nI k) : ∀ y, y < 6 → hdC M w 74 y = hdM X w 87 y := by
  intro y hy
  have e := sh_byte hk
  have e8 := wb_eq (nI k) 8 (by decide)
  have ew : (ush (nI (21312 + w)) (nI 8) &&& nI 255 = nI (21312 + w) >>> (nI 8 &&& 31)) ∧ (ush (nI (21312 + w)) (nI 0) &&& nI 255 = nI (21312 + w) &&& nI 255) := by
    rcases (show w = 0 ∨ w = 1 by omega) with z | z <;> rw [z] <;> decide
  rcases (show y = 0 ∨ y = 1 ∨ y = 2 ∨ y = 3 ∨ y = 4 ∨ y = 5 by omega) with z | z | z | z | z | z <;> subst z
  · exact ew.1
  · exact ew.2
  · show ush (M 75 w) (nI 16) &&& nI 255 = X 88 w >>> (nI 16 &&& 31)
    rw [hM, hX]; exact e.1
  · show ush (M 75 w) (nI 8) &&& nI 255 = (X 88 w >>> (nI 8 &&& 31)) &&& nI 255
    rw [hM, hX]; exact e8
  · show ush (M 75 w) (nI 0) &&& nI 255 = X 88 w &&& nI 255
    rw [hM, hX]; exact e.2
  · show ush (nI 0) (nI 0) &&& nI 255 = nI 0
    decide
theorem flM_p (c0 : Nat) (ch : Int32) : ∀ (r k i : Nat) (pt : Int32) (so : Nat) (X : Mem) {p : Nat}, p ≠ 86 → p ≠ 87 → flM c0 ch r k i pt so X p = X p
  | 0, _, _, _, _, _, _, _, h => by unfold flM endF; rw [mu_p _ _ _ h, mu_p _ _ _ h]
  | r + 1, k, i, pt, so, X, p, h6, h7 => by
    unfold flM
    by_cases z : skX X c0 ch 25 i = c0
    · rw [if_pos z, flM_p c0 ch r _ _ _ _ _ h6 h7, mu_p _ _ _ h7]
    · rw [if_neg z, flM_p c0 ch r _ _ _ _ _ h6 h7, emB_p _ _ _ h6 h7]
theorem frM_eq {X : Mem} {w c0 : Nat} (h : cX X = c0) : frM X w = mu (c16 (flM c0 (nI w) 22 8 0 (-1) 0 (hdM X w))) 76 25 (nI 1) := by unfold frM; rw [h]
/-- the frame to Earth is whole -/
theorem em_fin {c0 w pt : Nat} {ln : Nat → Nat} {bk : Nat → Nat → Nat} {q : Nat → Nat} {M1 M2 X : Mem} (hc : cX X = c0) (hZ : FZe c0 ln bk q M1 (flM c0 (nI w) 22 8 0 (-1) 0 (hdM X w)) pt M2) :
    SR (fPN (fPN M2 6 (nI pt) 2) 30 (crcAll 16 (nI 4129) (fPN M2 6 (nI pt) 2 74) 30 0 65535) 2) (frM X w) ∧
    (∀ y, y < 32 → fPN (fPN M2 6 (nI pt) 2) 30 (crcAll 16 (nI 4129) (fPN M2 6 (nI pt) 2 74) 30 0 65535) 2 74 y = frM X w 87 y) := by
  obtain ⟨em, Y, hY, hpt, hS, hR, h74, hfr⟩ := hZ
  rw [frM_eq hc, hY]
  have hc24 := hS.2.1
  have e6 : ush (nI pt) (nI 8) &&& nI 255 = nI pt >>> (nI 8 &&& 31) := by
    rw [wb_eq _ 8 (by decide), nI_shr 8 256 (by omega) (by decide) (by decide), show (255 : Nat) = 256 - 1 from rfl, nI_and 8 256 (by omega) (by decide) (by decide)]
    congr 1
    omega
  have e7 : ush (nI pt) (nI 0) &&& nI 255 = nI pt &&& nI 255 := (sh_byte (k := pt) (by omega)).2
  have a30 : ∀ y, y < 30 → fPN M2 6 (nI pt) 2 74 y = endF Y (nI pt) 87 y := by
    intro y hy
    unfold endF
    by_cases z6 : y = 6
    · subst z6; rw [fPN2_0, mu_k _ _ _ (by decide), mu_same]; exact e6
    · by_cases z7 : y = 7
      · subst z7; rw [fPN2_1, mu_same]; exact e7
      · rw [fPN2_n _ _ _ z6 z7, mu_k _ _ _ z7, mu_k _ _ _ z6]; exact h74 y hy z6 z7
  generalize hM3 : fPN M2 6 (nI pt) 2 = M3 at a30 ⊢
  have m3 : ∀ p, p ≠ 74 → M3 p = M2 p := fun p hp => by rw [← hM3, fPN2_p _ _ _ hp]
  generalize hr : crcAll 16 (nI 4129) (M3 74) 30 0 65535 = r
  have er : r &&& 65535 = crcAll6 (endF Y (nI pt) 87) 30 0 65535 := by
    rw [← hr, show nI 4129 = (4129 : Int32) from rfl, crcAll_16 _ (endF Y (nI pt) 87) 30 0 _ (fun y _ hy => a30 y (by omega))]
    rfl
  refine ⟨⟨c0, ln, em, bk, q, ?_, ?_⟩, ?_⟩
  · exact hS
  · refine hR.fr hc24 (fun p h1 h2 => by rw [fPN2_p _ _ _ (by omega), m3 p (by omega)]) rfl rfl rfl rfl rfl rfl rfl rfl rfl
  · intro y hy
    show _ = c16 (endF Y (nI pt)) 87 y
    unfold c16
    by_cases z0 : y = 30
    · subst z0; rw [fPN2_0, mu_k _ _ _ (by decide), mu_same, b16_hi, er]
    · by_cases z1 : y = 31
      · subst z1; rw [fPN2_1, mu_same, b16_lo, er]
      · rw [fPN2_n _ _ _ z0 z1, mu_k _ _ _ z1, mu_k _ _ _ z0]; exact a30 y (by omega)
/-- a frame to Earth, here as there -/
theorem snd_rel {w n : Nat} {M0 M4 M9 X : Mem} (hX : XS X) (hw : w ≤ 1) (hn : n < 1000) (hER : ER n M0 X) (h4 : SR M4 (frM X w)) (h74 : ∀ y, y < 32 → M4 74 y = frM X w 87 y) (h73 : M4 73 2 = nI 1) (h75 : M4 75 = upd (M0 75) w (M0 75 w + nI 1)) (h9 : ∀ p0, p0 ≠ 3 → p0 ≠ 5 → p0 ≠ 6 → M9 p0 = M4 p0) : ER (n + 1) M9 (fSnd X w) ∧ EL (fSnd X w) := by
  obtain ⟨c0, ln, em, bk, hS⟩ := hX
  obtain ⟨em', hS'⟩ := hS.fr w
  refine ⟨⟨fun y hy => ?_, ?_, ?_⟩, ?_⟩
  · rw [h9 74 (by decide) (by decide) (by decide), h74 y hy]; unfold fSnd; rw [dpM_p _ _ _ (by decide) (by decide) (by decide) (by decide) (by decide) (by decide)]
  · rw [h9 73 (by decide) (by decide) (by decide), h73]; unfold fSnd; rw [dpM_k _ _ _ (by decide) (by decide) (by decide) (by decide) (by decide)]; rfl
  · obtain ⟨e1, e2, kk, hk⟩ := hER
    refine ⟨fun x => if x = w then kk x + 1 else kk x, fun x hx => ?_⟩
    have hx1 := hk x hx
    have hw1 := hk w (by omega)
    have e88 : fSnd X w 88 x = hdM X w 88 x := by
      unfold fSnd
      rw [dpM_p _ _ _ (by decide) (by decide) (by decide) (by decide) (by decide) (by decide), frM_eq hS.c]
      show flM c0 (nI w) 22 8 0 (-1) 0 (hdM X w) 88 x = _
      rw [flM_p _ _ _ _ _ _ _ _ (by decide) (by decide)]
    have e88' : hdM X w 88 x = upd (X 88) w ((X 88 w + nI 1) &&& 16777215) x := rfl
    rw [h9 75 (by decide) (by decide) (by decide), h75, e88, e88']
    by_cases z : x = w
    · subst z
      simp only [upd, if_true]
      have hb : nI (kk x) + nI 1 = nI (kk x + 1) := (nI_1 _)
      refine ⟨by omega, by rw [hx1.2.1, hb], ?_⟩
      rw [hx1.2.2, hb, show (16777215 : Int32) = nI (16777216 - 1) from rfl, nI_and 24 16777216 (by omega) (by decide) (by decide), Nat.mod_eq_of_lt (by omega)]
    · simp only [upd, if_neg z]
      exact ⟨by omega, hx1.2.1, hx1.2.2⟩
  · exact dpM_EL 60 0 _ ⟨_, _, _, _, hS'⟩ (by rw [hS'.c]; have := hS.2.1; split <;> omega) (Nat.zero_le _) (fun j hj => absurd hj (Nat.not_lt_zero _))
