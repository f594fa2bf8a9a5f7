def F10 (X : Mem) : Prop := X 76 10 = 0 ∨ X 76 10 = 1
theorem F10.eq {X Y : Mem} (h : F10 X) (e : Y 76 10 = X 76 10) : F10 Y := by unfold F10 at h ⊢; rw [e]; exact h
/-- the class's memory A and the reference's X stand alike; no channel has had more than n frames -/
def Rel (n : Nat) (A X : Mem) : Prop := RcR A X ∧ ER n A X ∧ EL X ∧ XA X ∧ XW X ∧ (X 76 3 = 0 → nX X ≤ 70) ∧ ¬ (X 77 4).toInt64 = 0 ∧ F10 X
theorem se_of {X Y : Mem} (h : ∀ p, 76 ≤ p → p < 89 → Y p = X p) : SE Y X := by
  unfold SE
  rw [h 76 (by decide) (by decide), h 82 (by decide) (by decide), h 83 (by decide) (by decide), h 84 (by decide) (by decide), h 85 (by decide) (by decide), h 86 (by decide) (by decide)]
  exact SE.refl X
theorem XA.eq {X Y : Mem} (h : XA X) (e : SE Y X) (h79 : Y 79 = X 79) (h80 : Y 80 = X 80) (h81 : Y 81 = X 81) (h9 : Y 76 9 = X 76 9) (h11 : Y 76 11 = X 76 11) (h77 : Y 77 1 = X 77 1) : XA Y := by
  obtain ⟨a1, a2, a3, a4, a5, a6, a7, a8, a9, a10, a11⟩ := e
  exact ⟨h.1.eq a3 a1 a8 a9 a10 a11, h.2.1.eq h79 h80 h81, h.2.2.1.eq h9 h11, by rw [h77]; exact h.2.2.2⟩
theorem ER.eq {n : Nat} {A X A' X' : Mem} (h : ER n A X) (h4 : A' 74 = A 74) (h3 : A' 73 = A 73) (h5 : A' 75 = A 75) (x7 : X' 87 = X 87) (x25 : X' 76 25 = X 76 25) (x8 : X' 88 = X 88) : ER n A' X' := by
  unfold ER at h ⊢
  rw [h4, h3, h5, x7, x25, x8]; exact h
theorem Rel.mono {n n' : Nat} {A X : Mem} (h : Rel n A X) (hn : n ≤ n') : Rel n' A X := by
  obtain ⟨a, ⟨b1, b2, kk, b3⟩, c⟩ := h
  exact ⟨a, ⟨b1, b2, kk, fun w hw => ⟨by have := (b3 w hw).1; omega, (b3 w hw).2⟩⟩, c⟩
theorem Rel.fr {n : Nat} {A X A' X' : Mem} (h : Rel n A X) (hA : ∀ p, p < 76 → A' p = A p) (hX : ∀ p, 76 ≤ p → p < 89 → X' p = X p) : Rel n A' X' := by
  obtain ⟨⟨r1, r2, r3, r4, r5⟩, e, el, xa, xw, h70, h77, h10⟩ := h
  have se := se_of hX
  have x : ∀ p, 76 ≤ p → p < 89 → X' p = X p := hX
  refine ⟨⟨(r1.fr (fun p _ _ => hA p (by omega))).se se, r2.eq (fun k _ _ => by rw [hA 55 (by decide)]) (fun k _ _ => by rw [x 76 (by decide) (by decide)]), (r3.fr (fun p _ _ => hA p (by omega))).eq (x _ (by decide) (by decide)) (x _ (by decide) (by decide)) (x _ (by decide) (by decide)), r4.fr (hA _ (by decide)) (hA _ (by decide)) (by rw [x 76 (by decide) (by decide)]) (x _ (by decide) (by decide)), r5.eq (hA _ (by decide)) (hA _ (by decide)) (hA _ (by decide)) (by rw [x 76 (by decide) (by decide)]) (x _ (by decide) (by decide))⟩, e.eq (hA _ (by decide)) (hA _ (by decide)) (hA _ (by decide)) (x _ (by decide) (by decide)) (by rw [x 76 (by decide) (by decide)]) (x _ (by decide) (by decide)), el.se se, xa.eq se (x _ (by decide) (by decide)) (x _ (by decide) (by decide)) (x _ (by decide) (by decide)) (by rw [x 76 (by decide) (by decide)]) (by rw [x 76 (by decide) (by decide)]) (by rw [x 77 (by decide) (by decide)]), xw.eq (by rw [x 76 (by decide) (by decide)]) (x _ (by decide) (by decide)), ?_, by rw [x 77 (by decide) (by decide)]; exact h77, h10.eq (by rw [x 76 (by decide) (by decide)])⟩
  intro ho
  have en : nX X' = nX X := by unfold nX; rw [x 76 (by decide) (by decide)]
  rw [en]
  exact h70 (by rw [← x 76 (by decide) (by decide)]; exact ho)
theorem Rel.mg1 {n : Nat} {A X : Mem} (h : Rel n A X) : Rel n (mg A X) (mg A X) := h.fr (fun p hp => mg_lo _ _ (Or.inl hp)) (fun p h1 h2 => mg_hi _ _ ⟨h1, h2⟩)
theorem Rel.o {n : Nat} {A X : Mem} (h : Rel n A X) (v : Int32) : Rel n (mu A 89 0 v) X := h.fr (fun p hp => mu_p _ _ _ (by omega)) (fun _ _ _ => rfl)
/-- the reference's last answer may change -/
theorem Rel.t {n : Nat} {A X : Mem} (h : Rel n A X) (v : Int32) : Rel n A (mu X 76 0 v) := by
  obtain ⟨⟨r1, r2, r3, r4, r5⟩, e, el, xa, xw, h70, h77, h10⟩ := h
  have se : SE (mu X 76 0 v) X := SE.k _ (by decide) (by decide) (by decide) (by decide) (by decide) (by decide)
  exact ⟨⟨r1.se se, r2, r3.eq rfl rfl rfl, r4.fr rfl rfl rfl rfl, r5⟩, e, el.se se, xa.eq se rfl rfl rfl rfl rfl rfl, xw.eq rfl rfl, h70, h77, h10⟩
theorem toI64_pos {p : Int32} (h : ¬ p < nI 1) : ¬ p.toInt64 = 0 := by
  intro q
  have a : p.toInt64.toInt = 0 := by rw [q]; rfl
  rw [Int32.toInt_toInt64] at a
  have b : ¬ p.toInt < (nI 1).toInt := fun w => h (Int32.lt_iff_toInt_lt.mpr w)
  rw [nI_toInt (by decide)] at b
  omega
theorem Rel.win0 {n : Nat} {A X : Mem} (h : Rel n A X) {p1 p2 p3 : Int32} (h2 : ¬ p2 < nI 1) : Rel n (mu (mu (mu A 1 0 p1) 1 1 p2) 1 2 p3) (mu (mu (mu (mu X 76 0 (nI 0)) 77 0 p1) 77 1 p2) 77 2 p3) := by
  obtain ⟨⟨r1, r2, r3, r4, r5⟩, e, el, xa, xw, h70, h77, h10⟩ := h.t (nI 0)
  generalize mu X 76 0 (nI 0) = X at *
  have se : SE (mu (mu (mu X 77 0 p1) 77 1 p2) 77 2 p3) X := ⟨rfl, rfl, rfl, rfl, rfl, rfl, rfl, rfl, rfl, rfl, rfl⟩
  exact ⟨⟨(r1.fr (fun p a b => by rw [mu_p _ _ _ (by omega), mu_p _ _ _ (by omega), mu_p _ _ _ (by omega)])).se se, r2, (r3.fr (fun p a b => by rw [mu_p _ _ _ (by omega), mu_p _ _ _ (by omega), mu_p _ _ _ (by omega)])).eq rfl rfl rfl, r4.fr rfl rfl rfl rfl, ⟨r5.1, rfl, rfl, rfl, r5.2.2.2.2⟩⟩, e, el.se se, ⟨xa.1.eq rfl rfl rfl rfl rfl rfl, xa.2.1.eq rfl rfl rfl, xa.2.2.1.eq rfl rfl, toI64_pos h2⟩, xw.eq rfl rfl, h70, h77, h10⟩
theorem Rel.win1 {n : Nat} {A X : Mem} (h : Rel n A X) {p1 p2 p3 : Int32} (h2 : ¬ p2 < nI 1) : Rel n (mu (mu (mu A 2 0 p1) 2 1 p2) 2 2 p3) (mu (mu (mu (mu X 76 0 (nI 0)) 77 3 p1) 77 4 p2) 77 5 p3) := by
  obtain ⟨⟨r1, r2, r3, r4, r5⟩, e, el, xa, xw, h70, h77, h10⟩ := h.t (nI 0)
  generalize mu X 76 0 (nI 0) = X at *
  have se : SE (mu (mu (mu X 77 3 p1) 77 4 p2) 77 5 p3) X := ⟨rfl, rfl, rfl, rfl, rfl, rfl, rfl, rfl, rfl, rfl, rfl⟩
  exact ⟨⟨(r1.fr (fun p a b => by rw [mu_p _ _ _ (by omega), mu_p _ _ _ (by omega), mu_p _ _ _ (by omega)])).se se, r2, (r3.fr (fun p a b => by rw [mu_p _ _ _ (by omega), mu_p _ _ _ (by omega), mu_p _ _ _ (by omega)])).eq rfl rfl rfl, r4.fr rfl rfl rfl rfl, ⟨r5.1, r5.2.1, r5.2.2.1, r5.2.2.2.1, rfl, rfl, rfl⟩⟩, e, el.se se, ⟨xa.1.eq rfl rfl rfl rfl rfl rfl, xa.2.1.eq rfl rfl rfl, xa.2.2.1.eq rfl rfl, xa.2.2.2⟩, xw.eq rfl rfl, h70, toI64_pos h2, h10⟩
theorem Rel.min {n : Nat} {A X : Mem} (h : Rel n A X) (v : Int32) : Rel n (mu A 0 6 (A 0 6 + v)) (mu (mu X 76 0 (nI 0)) 76 1 (X 76 1 + v)) := by
  obtain ⟨⟨r1, r2, r3, r4, r5⟩, e, el, xa, xw, h70, h77, h10⟩ := h
  have se : SE (mu (mu X 76 0 (nI 0)) 76 1 (X 76 1 + v)) X := ⟨rfl, rfl, rfl, rfl, rfl, rfl, rfl, rfl, rfl, rfl, rfl⟩
  have w : A 0 6 + v = X 76 1 + v := by rw [r5.1]
  exact ⟨⟨(r1.fr (fun p a b => by rw [mu_p _ _ _ (by omega)])).se se, r2, (r3.fr (fun p a b => by rw [mu_p _ _ _ (by omega)])).eq rfl rfl rfl, r4.fr rfl rfl rfl rfl, ⟨w, r5.2⟩⟩, e, el.se se, xa.eq se rfl rfl rfl rfl rfl rfl, xw.eq rfl rfl, h70, h77, h10⟩
theorem Rel.fail {n : Nat} {A X : Mem} (h : Rel n A X) (v : Int32) : Rel n (mu A 3 8 v) (mu (mu X 76 0 (nI 0)) 76 4 v) := by
  obtain ⟨⟨r1, r2, r3, r4, r5⟩, e, el, xa, xw, h70, h77, h10⟩ := h
  obtain ⟨c0, ln, em, bk, q, hS, hR⟩ := r1
  have hS2 : XSv c0 ln em bk (mu (mu X 76 0 (nI 0)) 76 4 v) := hS.same rfl hS.2.2.1 (fun _ _ => rfl) (fun _ _ => rfl) (fun _ _ => rfl) (fun _ _ => rfl)
  have hu : ∀ b, uX (mu (mu X 76 0 (nI 0)) 76 4 v) b = uX X b := uX_same rfl (fun _ _ => rfl)
  refine ⟨⟨⟨c0, ln, em, bk, q, hS2, ?_⟩, r2, (r3.fr (fun p a b => by rw [mu_p _ _ _ (by omega)])).eq rfl rfl rfl, r4.fr rfl rfl rfl rfl, r5⟩, e, el, ⟨xa.1.eq rfl rfl rfl rfl rfl rfl, xa.2.1.eq rfl rfl rfl, xa.2.2.1.eq rfl rfl, xa.2.2.2⟩, xw.eq rfl rfl, h70, h77, h10⟩
  have hc := hS.2.1
  obtain ⟨a1, a2, a3, a4, a5, a6, a7, a8, a9, a10, a11, a12, a13, a14⟩ := hR
  refine ⟨a1, ?_, a3, a4, a5, rfl, a7, fun b hb => by rw [hu]; exact a8 b hb, a9, a10, fun j hj x hx => by rw [mu_p _ _ _ (by omega)]; exact a11 j hj x hx, fun i hi => by have := (a9 i (by omega)).2; rw [mu_p _ _ _ (by omega)]; exact a12 i hi, fun i k hi hk => by have := (a9 i (by omega)).2; rw [mu_p _ _ _ (by omega)]; exact a13 i k hi hk, a14⟩
  rw [cntF_congr 24 (fun b _ => hu b)]; exact a2
theorem snd_p (X : Mem) (w : Nat) {p : Nat} (h76 : p ≠ 76) (h82 : p ≠ 82) (h83 : p ≠ 83) (h84 : p ≠ 84) (h85 : p ≠ 85) (h86 : p ≠ 86) (h87 : p ≠ 87) (h88 : p ≠ 88) : fSnd X w p = X p := by
  unfold fSnd
  rw [dpM_p _ _ _ h76 h82 h83 h84 h85 h86]
  unfold frM c16
  rw [mu_p _ _ _ h76, mu_p _ _ _ h87, mu_p _ _ _ h87, flM_p _ _ _ _ _ _ _ _ h86 h87]
  unfold hdM
  rw [mu_p _ _ _ h87, mu_p _ _ _ h87, mu_p _ _ _ h87, mu_p _ _ _ h87, mu_p _ _ _ h87, mu_p _ _ _ h87, mu_p _ _ _ h88, mu_p _ _ _ h76]
theorem snd_k (X : Mem) (w : Nat) {x : Nat} (h0 : x ≠ 0) (h3 : x ≠ 3) (h4 : x ≠ 4) (h15 : x ≠ 15) (h22 : x ≠ 22) (h23 : x ≠ 23) (h25 : x ≠ 25) : fSnd X w 76 x = X 76 x := by
  unfold fSnd
  rw [dpM_k _ _ _ h3 h4 h23 h15 h22]
  unfold frM c16
  rw [mu_k _ _ _ h25, mu_p _ _ _ (by decide), mu_p _ _ _ (by decide), flM_p _ _ _ _ _ _ _ _ (by decide) (by decide)]
  unfold hdM
  rw [mu_p _ _ _ (by decide), mu_p _ _ _ (by decide), mu_p _ _ _ (by decide), mu_p _ _ _ (by decide), mu_p _ _ _ (by decide), mu_p _ _ _ (by decide), mu_p _ _ _ (by decide), mu_k _ _ _ h0]
theorem snd_0 (X : Mem) (w : Nat) : fSnd X w 76 0 = nI 0 := by
  unfold fSnd
  rw [dpM_k _ _ _ (by decide) (by decide) (by decide) (by decide) (by decide)]
  unfold frM c16
  rw [mu_k _ _ _ (by decide), mu_p _ _ _ (by decide), mu_p _ _ _ (by decide), flM_p _ _ _ _ _ _ _ _ (by decide) (by decide)]
  rfl
theorem Rel.snd {n w : Nat} {A X A' : Mem} (h : Rel n A X) (ho : X 76 3 = 0) (h1 : SR A' (fSnd X w)) (h2 : ER (n + 1) A' (fSnd X w)) (h3 : EL (fSnd X w)) (hf : ∀ p0, p0 < 3 ∨ 55 ≤ p0 → p0 ≠ 73 → p0 ≠ 74 → p0 ≠ 75 → A' p0 = A p0) : Rel (n + 1) A' (fSnd X w) := by
  obtain ⟨⟨r1, r2, r3, r4, r5⟩, e, el, xa, xw, h70, h77, h10⟩ := h
  have P : ∀ {p}, p = 77 ∨ p = 78 ∨ p = 79 ∨ p = 80 ∨ p = 81 → fSnd X w p = X p := fun hp => snd_p X w (by omega) (by omega) (by omega) (by omega) (by omega) (by omega) (by omega) (by omega)
  have K : ∀ {x}, x = 1 ∨ x = 6 ∨ (7 ≤ x ∧ x < 12) → fSnd X w 76 x = X 76 x := fun hx => snd_k X w (by omega) (by omega) (by omega) (by omega) (by omega) (by omega) (by omega)
  refine ⟨⟨h1, r2.eq (fun k _ _ => by rw [hf 55 (by decide) (by decide) (by decide) (by decide)]) (fun k a b => K (by omega)), (r3.fr (fun p a b => hf p (by omega) (by omega) (by omega) (by omega))).eq (P (by omega)) (P (by omega)) (P (by omega)), r4.fr (hf _ (by decide) (by decide) (by decide) (by decide)) (hf _ (by decide) (by decide) (by decide) (by decide)) (K (by omega)) (P (by omega)), r5.eq (hf _ (by decide) (by decide) (by decide) (by decide)) (hf _ (by decide) (by decide) (by decide) (by decide)) (hf _ (by decide) (by decide) (by decide) (by decide)) (K (by omega)) (P (by omega))⟩, h2, h3, ⟨h1.xs, xa.2.1.eq (P (by omega)) (P (by omega)) (P (by omega)), xa.2.2.1.eq (K (by omega)) (K (by omega)), by rw [P (by omega)]; exact xa.2.2.2⟩, xw.eq (K (by omega)) (P (by omega)), ?_, by rw [P (by omega)]; exact h77, h10.eq (K (by omega))⟩
  intro _
  have en : nX (fSnd X w) = nX X := by unfold nX; rw [K (by omega)]
  rw [en]
  exact h70 ho
theorem F10.set {X : Mem} {v : Int32} (h : v = 0 ∨ v = 1) : F10 (mu X 76 10 v) := by unfold F10; rw [mu_same]; exact h
theorem F10.tk3 {X : Mem} (al : Int32) (vv : Nat) : F10 (fTk3 X al vv) := by
  unfold fTk3
  split
  · exact F10.set (Or.inr rfl)
  · exact F10.set (Or.inl rfl)
theorem F10.tk {X : Mem} (h : F10 X) (g : Nat → Nat) (t : Nat) : F10 (fTk X g t) := by
  have p1 : ∀ (Y : Mem) (sq : Int32), F10 Y → F10 (fPIn Y g (3 + t) sq) := fun Y sq q => q.eq (fPIn_k _ _ _ _ (by decide) (by decide) (by decide) (by decide) (by decide) (by decide))
  have p2 : ∀ (Y : Mem) (sq : Int32), F10 Y → F10 (fSgX Y g (3 + t) sq) := fun Y sq q => q.eq (fSgX_k _ _ _ _ (by decide) (by decide) (by decide) (by decide) (by decide) (by decide))
  have p3 : F10 (mu X 76 11 (nI ((kX X + 1) % 8))) := h.eq rfl
  unfold fTk fTkE fTkS
  (repeat' split)
  · exact h
  · unfold fDir
    (repeat' split)
    · exact h
    · exact Or.inl (by rw [fBeg0_p _ (by decide)]; rfl)
    · exact h
    · exact h
    · exact F10.set (Or.inl rfl)
    · exact h
    · exact h
  · exact h
  · exact p1 _ _ p3
  · exact p2 _ _ p3
  · exact p3
  · exact F10.tk3 _ _
  · exact F10.tk3 _ _
  · exact F10.tk3 _ _
  · exact F10.set (Or.inr rfl)
  · exact h
  · exact h
  · exact h
theorem by_10 : ∀ (f : Nat) (X : Mem), F10 X → F10 (byM f X)
  | 0, _, h => h
  | f + 1, X, h => by
    unfold byM
    (repeat' split)
    · exact h
    · exact by_10 f _ (h.eq (lvX_k _ _ (by decide)))
    · exact by_10 f _ ((h.tk _ _).eq (lvX_k _ _ (by decide)))
    · exact h
theorem rc_10 (p0 : Int32) : ∀ (i : Nat) (X : Mem), XA X → XW X → (X 76 3 = 0 → nX X ≤ 70) → F10 X → F10 (rcM p0 i X)
  | 0, X, _, _, _, h => h
  | i + 1, X, hA, hW, h70, h => by
    unfold rcM
    by_cases h1 : X 76 3 = 0
    · rw [if_pos h1]
      have q := byM_inv 72 (putX X (nI (byt p0 i))) (by rw [nX_put _ hW.2.1]; have := h70 h1; omega) (hA.put _) (hW.put (h70 h1) (byt_eq p0 i).2)
      exact rc_10 p0 i _ q.1 q.2.1 q.2.2 (by_10 72 _ (h.eq rfl))
    · rw [if_neg h1]; exact h
theorem Rel.rcv {n : Nat} {A X A' : Mem} {p0 : Int32} {i : Nat} (h : Rel n A X) (h1 : RcR A' (rcM p0 i X)) (hf : ∀ q, 73 ≤ q → A' q = A q) : Rel n A' (rcM p0 i X) := by
  obtain ⟨⟨r1, r2, r3, r4, r5⟩, e, el, xa, xw, h70, h77, h10⟩ := h
  have k := rc_keep p0 i X xa xw h70 el
  have v := rc_inv p0 i X xa xw h70
  exact ⟨h1, e.eq (hf _ (by decide)) (hf _ (by decide)) (hf _ (by decide)) k.2.2.1 k.2.2.2.2.1 k.2.2.2.1, k.1, v.1, v.2.1, v.2.2, by rw [k.2.1]; exact h77, rc_10 p0 i X xa xw h70 h10⟩
theorem fRst_n (q : Nat → Nat) : ∀ (k : Nat) (M : Mem) {p : Nat}, (∀ i, i < k → p ≠ 7 + 2 * q i) → fRst q k M p = M p
  | 0, _, _, _ => rfl
  | k + 1, M, p, h => by unfold fRst; rw [mu_p _ _ _ (h k (by omega))]; exact fRst_n q k M (fun i hi => h i (by omega))
theorem fRst_k (q : Nat → Nat) : ∀ (k : Nat) (M : Mem) (p : Nat) {x : Nat}, x ≠ 4 → fRst q k M p x = M p x
  | 0, _, _, _, _ => rfl
  | k + 1, M, p, x, h => by
    unfold fRst
    by_cases z : p = 7 + 2 * q k
    · subst z; rw [mu_k _ _ _ h]; exact fRst_k q k M _ h
    · rw [mu_p _ _ _ z]; exact fRst_k q k M _ h
theorem fRst_4 (q : Nat → Nat) : ∀ (k : Nat) (M : Mem) {i : Nat}, i < k → fRst q k M (7 + 2 * q i) 4 = nI 0
  | 0, _, _, h => absurd h (Nat.not_lt_zero _)
  | k + 1, M, i, h => by
    unfold fRst
    by_cases z : 7 + 2 * q i = 7 + 2 * q k
    · rw [z, mu_same]
    · rw [mu_p _ _ _ z]
      exact fRst_4 q k M (by rcases (show i < k ∨ i = k by omega) with w | w; exact w; exact absurd (by rw [w]) z)
theorem fPowM_86 : ∀ (k : Nat) (M : Mem) {i : Nat}, i < k → fPowM k M 86 i = nI 0
  | 0, _, _, h => absurd h (Nat.not_lt_zero _)
  | k + 1, M, i, h => by
    unfold fPowM
    by_cases z : i = k
    · rw [z, mu_same]
    · rw [mu_k _ _ _ z]; exact fPowM_86 k M (by omega)
theorem fFS_2 (M : Mem) {j : Nat} (hj : j < 4) : fFS M (61 + 2 * j) 2 = nI 0 := by
  rcases (show j = 0 ∨ j = 1 ∨ j = 2 ∨ j = 3 by omega) with z | z | z | z <;> subst z <;> rfl
theorem Rel.pow {n : Nat} {A X : Mem} (h : Rel n A X) {c0 : Nat} {ln em : Nat → Nat} {bk : Nat → Nat → Nat} {q : Nat → Nat} (hS : XSv c0 ln em bk X) (hR : CRv c0 ln em bk q A X) : Rel n (fPowC A q c0) (fPowM c0 (fPow0 X)) := by
  obtain ⟨⟨r1, r2, r3, r4, r5⟩, e, el, xa, xw, h70, h77, h10⟩ := h
  have hc := hS.2.1
  obtain ⟨a1, a2, a3, a4, a5, a6, a7, a8, a9, a10, a11, a12, a13, a14⟩ := hR
  have yp : ∀ {p}, p ≠ 86 → fPowM c0 (fPow0 X) p = fPow0 X p := fun hp => fPowM_p _ _ hp
  have y0 : ∀ {p}, p ≠ 86 → p ≠ 76 → p ≠ 79 → fPowM c0 (fPow0 X) p = X p := fun h1 h2 h3 => by
    rw [yp h1]; unfold fPow0
    rw [mu_p _ _ _ h3, mu_p _ _ _ h3, mu_p _ _ _ h3, mu_p _ _ _ h3, mu_p _ _ _ h2, mu_p _ _ _ h2, mu_p _ _ _ h2, mu_p _ _ _ h2, mu_p _ _ _ h2]
  have yk : ∀ {x}, x ≠ 0 → x ≠ 3 → x ≠ 4 → x ≠ 6 → x ≠ 7 → fPowM c0 (fPow0 X) 76 x = X 76 x := fun h0 h3 h4 h6 h7 => by
    rw [yp (by decide)]; unfold fPow0
    rw [mu_p _ _ _ (by decide), mu_p _ _ _ (by decide), mu_p _ _ _ (by decide), mu_p _ _ _ (by decide), mu_k _ _ _ h6, mu_k _ _ _ h7, mu_k _ _ _ h4, mu_k _ _ _ h3, mu_k _ _ _ h0]
  have y3 : fPowM c0 (fPow0 X) 76 3 = 0 := by rw [yp (by decide)]; rfl
  have y4 : fPowM c0 (fPow0 X) 76 4 = 0 := by rw [yp (by decide)]; rfl
  have y6 : fPowM c0 (fPow0 X) 76 6 = nI 0 := by rw [yp (by decide)]; rfl
  have y7 : fPowM c0 (fPow0 X) 76 7 = nI 0 := by rw [yp (by decide)]; rfl
  have y79 : ∀ j, j < 4 → fPowM c0 (fPow0 X) 79 j = 0 := fun j hj => by
    rw [yp (by decide)]
    rcases (show j = 0 ∨ j = 1 ∨ j = 2 ∨ j = 3 by omega) with z | z | z | z <;> subst z <;> rfl
  have y86 : ∀ i, i < c0 → fPowM c0 (fPow0 X) 86 i = nI 0 := fun i hi => fPowM_86 _ _ hi
  have hS2 : XSv c0 ln (fun _ => 0) bk (fPowM c0 (fPow0 X)) := by
    have hu : ∀ b, uX (fPowM c0 (fPow0 X)) b = uX X b := uX_same (yk (by decide) (by decide) (by decide) (by decide) (by decide)) (fun z _ => by rw [y0 (by decide) (by decide) (by decide)])
    obtain ⟨b1, b2, b3, b4, b5, b6, b7, b8, b9, b10⟩ := hS
    refine ⟨(yk (by decide) (by decide) (by decide) (by decide) (by decide)).trans b1, b2, Or.inl y3, fun i hi => by rw [y0 (by decide) (by decide) (by decide)]; exact b4 i hi, fun i hi => ⟨y86 i hi, Nat.zero_le _⟩, fun i k hi hk => by rw [y0 (by decide) (by decide) (by decide)]; exact b6 i k hi hk, fun i k hi hk hk3 => by rw [y0 (by decide) (by decide) (by decide)]; exact b7 i k hi hk hk3, b8, ?_, fun i k hi hk => by rw [y0 (by decide) (by decide) (by decide)]; exact b10 i k hi hk⟩
    rw [cntF_congr 24 (fun b _ => hu b)]; exact b9
  have hu : ∀ b, uX (fPowM c0 (fPow0 X)) b = uX X b := uX_same (yk (by decide) (by decide) (by decide) (by decide) (by decide)) (fun z _ => by rw [y0 (by decide) (by decide) (by decide)])
  have cA : ∀ {p}, p < 55 → fPowC A q c0 p = fRst q c0 (mu (mu A 3 9 (nI 0)) 3 8 (nI 0)) p := fun hp => by
    unfold fPowC
    rw [mu_p _ _ _ (by omega), fFS_p _ (by omega), mu_p _ _ _ (by omega)]
  have c7 : ∀ {p}, p < 7 → p ≠ 3 → fPowC A q c0 p = A p := fun hp h3 => by rw [cA (by omega), fRst_p _ _ _ hp, mu_p _ _ _ h3, mu_p _ _ _ h3]
  have c3 : ∀ {x}, x ≠ 9 → x ≠ 8 → fPowC A q c0 3 x = A 3 x := fun h9 h8 => by rw [cA (by omega), fRst_p _ _ _ (by omega), mu_k _ _ _ h8, mu_k _ _ _ h9]
  have cP : ∀ {j x}, j < 24 → x ≠ 4 → fPowC A q c0 (7 + 2 * j) x = A (7 + 2 * j) x := fun hj hx => by rw [cA (by omega), fRst_k _ _ _ _ hx, mu_p _ _ _ (by omega), mu_p _ _ _ (by omega)]
  have cB : ∀ {j}, j < 24 → fPowC A q c0 (8 + 2 * j) = A (8 + 2 * j) := fun hj => by rw [cA (by omega), fRst_n _ _ _ (fun i _ => by omega), mu_p _ _ _ (by omega), mu_p _ _ _ (by omega)]
  have cH : ∀ {p}, 70 ≤ p → fPowC A q c0 p = A p := fun hp => by
    unfold fPowC
    rw [mu_p _ _ _ (by omega), fFS_hi _ (by omega), mu_p _ _ _ (by omega), fRst_n _ _ _ (fun i hi => by have := (a9 i (by omega)).2; omega), mu_p _ _ _ (by omega), mu_p _ _ _ (by omega)]
  have c55 : ∀ {x}, x ≠ 3 → fPowC A q c0 55 x = A 55 x := fun hx => by
    unfold fPowC
    rw [mu_p _ _ _ (by omega), fFS_p _ (by omega), mu_k _ _ _ hx, fRst_n _ _ _ (fun i hi => by have := (a9 i (by omega)).2; omega), mu_p _ _ _ (by omega), mu_p _ _ _ (by omega)]
  have hR2 : CRv c0 ln (fun _ => 0) bk q (fPowC A q c0) (fPowM c0 (fPow0 X)) := by
    refine ⟨(c3 (by decide) (by decide)).trans a1, ?_, ?_, ?_, ?_, ?_, ?_, fun b hb => by rw [c7 (by decide) (by decide), hu]; exact a8 b hb, fun k hk => by rw [c7 (by decide) (by decide)]; exact a9 k hk, a10, fun j hj x hx => by rw [cB hj]; exact a11 j hj x hx, fun i hi => ?_, fun i k hi hk => ?_, fun i k hi hk => ?_⟩
    · rw [c3 (by decide) (by decide), cntF_congr 24 (fun b _ => hu b)]; exact a2
    · rw [c3 (by decide) (by decide), yk (by decide) (by decide) (by decide) (by decide) (by decide)]; exact a3
    · rw [c3 (by decide) (by decide), yk (by decide) (by decide) (by decide) (by decide) (by decide)]; exact a4
    · rw [c3 (by decide) (by decide), yk (by decide) (by decide) (by decide) (by decide) (by decide)]; exact a5
    · rw [y4, cA (by omega), fRst_p _ _ _ (by omega)]; rfl
    · rw [y3, cA (by omega), fRst_p _ _ _ (by omega)]; rfl
    · have hq := (a9 i (by omega)).2
      have b := a12 i hi
      rw [cP hq (by decide), cP hq (by decide), cP hq (by decide), y0 (by decide) (by decide) (by decide), y0 (by decide) (by decide) (by decide)]
      refine ⟨b.1, b.2.1, b.2.2.1, ?_⟩
      rw [cA (by omega)]; exact fRst_4 q c0 _ hi
    · rw [cB (a9 i (by omega)).2]; exact a13 i k hi hk
    · rw [c7 (by decide) (by decide), y0 (by decide) (by decide) (by decide)]; exact a14 i k hi hk
  refine ⟨⟨⟨c0, ln, _, bk, q, hS2, hR2⟩, ?_, ?_, ?_, ?_⟩, e.eq (cH (by decide)) (cH (by decide)) (cH (by decide)) (y0 (by decide) (by decide) (by decide)) (yk (by decide) (by decide) (by decide) (by decide) (by decide)) (y0 (by decide) (by decide) (by decide)), ?_, ⟨⟨c0, ln, _, bk, hS2⟩, fun j hj => ⟨Or.inl (y79 j hj), fun b => absurd (y79 j hj) b⟩, xa.2.2.1.eq (yk (by decide) (by decide) (by decide) (by decide) (by decide)) (yk (by decide) (by decide) (by decide) (by decide) (by decide)), by rw [y0 (by decide) (by decide) (by decide)]; exact xa.2.2.2⟩, ?_, ?_, by rw [y0 (by decide) (by decide) (by decide)]; exact h77, h10.eq (yk (by decide) (by decide) (by decide) (by decide) (by decide))⟩
  · refine ⟨?_, ?_, ?_, ?_, ?_⟩
    · rw [y7]; unfold fPowC; rw [mu_p _ _ _ (by decide), fFS_p _ (by decide), mu_same]
    · rw [c55 (by decide), yk (by decide) (by decide) (by decide) (by decide) (by decide)]; exact r2.2.1
    · rw [c55 (by decide), yk (by decide) (by decide) (by decide) (by decide) (by decide)]; exact r2.2.2.1
    · rw [c55 (by decide), yk (by decide) (by decide) (by decide) (by decide) (by decide)]; exact r2.2.2.2.1
    · rw [c55 (by decide), yk (by decide) (by decide) (by decide) (by decide) (by decide)]; exact r2.2.2.2.2
  · intro j hj
    refine ⟨?_, fun b => absurd (y79 j hj) b⟩
    rw [y79 j hj]; unfold fPowC; rw [mu_p _ _ _ (by omega), fFS_2 _ hj]; rfl
  · refine ⟨?_, fun i hi => ?_⟩
    · rw [y6]; unfold fPowC; rw [mu_same]
    · have : nX (fPowM c0 (fPow0 X)) = 0 := by unfold nX; rw [y6]; rfl
      omega
  · exact r5.eq (c7 (by decide) (by decide)) (c7 (by decide) (by decide)) (c7 (by decide) (by decide)) (yk (by decide) (by decide) (by decide) (by decide) (by decide)) (y0 (by decide) (by decide) (by decide))
  · intro _ i hi
    rw [hS2.c] at hi
    rw [y86 i hi, (hS2.2.2.2.1 i hi).1]
    have := (hS2.2.2.2.1 i hi).2
    exact fun z => absurd ((nI_eq (by decide) (by omega)).mp z) (by omega)
  · exact XW.of y6 (by decide) (fun i hi => absurd hi (Nat.not_lt_zero _))
  · intro _
    have : nX (fPowM c0 (fPow0 X)) = 0 := by unfold nX; rw [y6]; rfl
    omega
