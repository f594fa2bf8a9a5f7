def CRv (c0 : Nat) (ln em : Nat → Nat) (bk : Nat → Nat → Nat) (q : Nat → Nat) (M X : Mem) : Prop :=
  M 3 3 = nI c0 ∧ M 3 4 = nI (cntF (uX X) 24) ∧ M 3 5 = X 76 21 ∧ M 3 6 = X 76 22 ∧ M 3 7 = X 76 23 ∧ M 3 8 = X 76 4 ∧ M 3 9 = X 76 3 ∧
  (∀ b, b < 24 → M 5 b = nI (1 - uX X b)) ∧
  (∀ k, k < 24 → M 6 k = nI (q k) ∧ q k < 24) ∧ (∀ k k', k < 24 → k' < 24 → q k = q k' → k = k') ∧ (∀ j, j < 24 → okB M j) ∧
  (∀ i, i < c0 → M (7 + 2 * q i) 1 = X 82 i ∧ M (7 + 2 * q i) 2 = nI (ln i) ∧ M (7 + 2 * q i) 3 = (X 84 (60 * i) &&& nI 7) * nI 256 + X 84 (60 * i + 1) ∧ M (7 + 2 * q i) 4 = nI (em i)) ∧
  (∀ i k, i < c0 → k < (ln i + 19) / 20 → M (8 + 2 * q i) k = nI (bk i k)) ∧
  (∀ i k, i < c0 → k < ln i → M 4 (bk i (k / 20) * 20 + k % 20) = X 84 (60 * i + k))
theorem wr_rel (M X : Mem) (h7 : M 3 7 = X 76 23) (h8 : M 3 8 = X 76 4) (h9 : M 3 9 = X 76 3) (ho : X 76 3 = 0) : fWr M 3 7 = fWrM X 76 23 ∧ fWr M 3 8 = fWrM X 76 4 ∧ fWr M 3 9 = fWrM X 76 3 := by
  unfold fWr fWrM
  by_cases q : X 76 4 ≤ 0
  · rw [if_pos (by rw [h8]; exact q), if_pos q]
    exact ⟨by rw [mu_same, mu_same, h7], by rw [mu_k _ _ _ (by decide), mu_k _ _ _ (by decide), h8], by rw [mu_k _ _ _ (by decide), mu_k _ _ _ (by decide), h9]⟩
  · rw [if_neg (by rw [h8]; exact q), if_neg q]
    by_cases w : X 76 4 - nI 1 = 0
    · rw [if_pos w, h8, if_pos w]
      exact ⟨by rw [mu_k _ _ _ (by decide), mu_k _ _ _ (by decide), mu_same, mu_k _ _ _ (by decide), mu_k _ _ _ (by decide), mu_same, h7], by rw [mu_k _ _ _ (by decide), mu_same, mu_k _ _ _ (by decide), mu_same], by rw [mu_same, mu_same]⟩
    · rw [if_neg w, h8, if_neg w]
      exact ⟨by rw [mu_k _ _ _ (by decide), mu_k _ _ _ (by decide), mu_same, mu_k _ _ _ (by decide), mu_same, h7], by rw [mu_k _ _ _ (by decide), mu_same, mu_same], by rw [mu_same, mu_k _ _ _ (by decide), mu_k _ _ _ (by decide), ho]; rfl⟩
theorem wb_rel (u : Nat → Nat) (hu : ∀ b, u b ≤ 1) (c0 n j st : Nat) (hj : j < 24) (row : Nat → Int32) : ∀ (r b k : Nat) (M X : Mem), b + r = 24 → M 57 = row → (∀ b, b < 24 → M 5 b = nI (1 - u b)) → M 3 7 = X 76 23 → M 3 8 = X 76 4 → M 3 9 = X 76 3 → (n + 19) / 20 + cntF u b ≤ k + cntF u 24 →
    (wbM j n st r b k M 3 7 = scB u c0 n r b k X 76 23 ∧ wbM j n st r b k M 3 8 = scB u c0 n r b k X 76 4 ∧ wbM j n st r b k M 3 9 = scB u c0 n r b k X 76 3) ∧
    (∀ x, x < k → wbM j n st r b k M (8 + 2 * j) x = M (8 + 2 * j) x) ∧
    (∀ y, (u (y / 20) = 0 ∨ y / 20 < b) → wbM j n st r b k M 4 y = M 4 y) ∧
    (scB u c0 n r b k X 76 3 = 0 → (∀ x, k ≤ x → x < (n + 19) / 20 → wbM j n st r b k M (8 + 2 * j) x = scB u c0 n r b k X 85 (3 * c0 + x)) ∧
      (∀ x, 20 * k ≤ x → x < n → ∃ v, v < 24 ∧ scB u c0 n r b k X 85 (3 * c0 + x / 20) = nI v ∧ wbM j n st r b k M 4 (v * 20 + x % 20) = row (st + x)))
  | 0, b, k, M, X, hb, hrow, h5, h7, h8, h9, hr => by
    rw [show b = 24 by omega] at hr
    exact ⟨⟨h7, h8, h9⟩, fun _ _ => rfl, fun _ _ => rfl, fun _ => ⟨fun x q1 q2 => absurd q1 (by omega), fun x q1 q2 => absurd q1 (by omega)⟩⟩
  | r + 1, b, k, M, X, hb, hrow, h5, h7, h8, h9, hr => by
    have hcs : cntF u (b + 1) = cntF u b + u b := rfl
    have hub := hu b
    unfold wbM scB
    by_cases q1 : n ≤ 20 * k
    · simp only [if_pos q1]
      exact ⟨⟨h7, h8, h9⟩, fun _ _ => trivial, fun _ _ => trivial, fun _ => ⟨fun x q1 q2 => absurd q1 (by omega), fun x q1 q2 => absurd q1 (by omega)⟩⟩
    simp only [if_neg q1]
    by_cases q2 : X 76 3 = 0
    · have q2' : M 3 9 = 0 := h9.trans q2
      simp only [if_pos q2, if_pos q2']
      by_cases q3 : u b = 0
      · have e5 : ¬ M 5 b = 0 := by rw [h5 b (by omega), q3]; decide
        simp only [if_pos q3, if_neg e5]
        have ih := wb_rel u hu c0 n j st hj row r (b + 1) k M X (by omega) hrow h5 h7 h8 h9 (by omega)
        exact ⟨ih.1, ih.2.1, fun y hy => ih.2.2.1 y (by omega), ih.2.2.2⟩
      · have e5 : M 5 b = 0 := by rw [h5 b (by omega), show u b = 1 by omega]; rfl
        simp only [if_neg q3, if_pos e5]
        have w := wr_rel (mu (ma M 4 (va_cpy (M 57) (M 4) (st + 20 * k) (b * 20) (min 20 (n - 20 * k)))) (8 + 2 * j) k (nI b)) (mu X 85 (3 * c0 + k) (nI b)) (by rw [mu_p _ _ _ (by omega), ma_p _ _ (by decide), mu_p _ _ _ (by decide)]; exact h7) (by rw [mu_p _ _ _ (by omega), ma_p _ _ (by decide), mu_p _ _ _ (by decide)]; exact h8) (by rw [mu_p _ _ _ (by omega), ma_p _ _ (by decide), mu_p _ _ _ (by decide)]; exact h9) (by rw [mu_p _ _ _ (by decide)]; exact q2)
        have e4 : ∀ y, wbS j n st b k M 4 y = va_cpy (M 57) (M 4) (st + 20 * k) (b * 20) (min 20 (n - 20 * k)) y := fun y => by unfold wbS; rw [fWr_p _ (by decide), mu_p _ _ _ (by omega), ma_row]
        have e8 : ∀ x, wbS j n st b k M (8 + 2 * j) x = upd (M (8 + 2 * j)) k (nI b) x := fun x => by unfold wbS; rw [fWr_p _ (by omega), mu_row, ma_p _ _ (by omega)]
        have ih := wb_rel u hu c0 n j st hj row r (b + 1) (k + 1) (wbS j n st b k M) (fWrM (mu X 85 (3 * c0 + k) (nI b))) (by omega) (by rw [wbS_p _ _ _ _ _ _ (by decide) (by decide) (by omega)]; exact hrow) (by rw [wbS_p _ _ _ _ _ _ (by decide) (by decide) (by omega)]; exact h5) w.1 w.2.1 w.2.2 (by omega)
        refine ⟨ih.1, fun x hx => ?_, fun y hy => ?_, fun ho => ⟨fun x x1 x2 => ?_, fun x x1 x2 => ?_⟩⟩
        · rw [ih.2.1 x (by omega), e8]; simp only [upd]; rw [if_neg (by omega)]
        · have hyb : y / 20 ≠ b := by rcases hy with z | z; (intro e; rw [e] at z; exact q3 z); omega
          rw [ih.2.2.1 y (by omega), e4, pk_cpy_out (by omega)]
        · by_cases z : x = k
          · rw [z, ih.2.1 k (by omega), e8, scB_85 _ _ _ _ _ _ _ (by omega), fWrM_p _ (by decide), mu_same]
            simp [upd]
          · exact (ih.2.2.2 ho).1 x (by omega) x2
        · by_cases z : x < 20 * (k + 1)
          · refine ⟨b, by omega, ?_, ?_⟩
            · rw [show x / 20 = k by omega, scB_85 _ _ _ _ _ _ _ (by omega), fWrM_p _ (by decide), mu_same]
            · rw [ih.2.2.1 _ (by omega), e4, pk_cpy_in (by omega) (by omega), hrow]
              congr 1
              omega
          · exact (ih.2.2.2 ho).2 x (by omega) x2
    · have q2' : ¬ M 3 9 = 0 := by rw [h9]; exact q2
      simp only [if_neg q2, if_neg q2']
      exact ⟨⟨h7, h8, h9⟩, fun _ _ => trivial, fun _ _ => trivial, fun z => absurd z q2⟩
theorem ren_rel (M X : Mem) (c0 : Nat) (h3 : M 3 3 = nI c0) (h15 : X 76 15 = nI c0) (h6 : M 3 6 = X 76 22) (h7 : M 3 7 = X 76 23) (h8 : M 3 8 = X 76 4) (h9 : M 3 9 = X 76 3) (ho : X 76 3 = 0) : fRen M 3 6 = fJrM X 76 22 ∧ fRen M 3 7 = fJrM X 76 23 ∧ fRen M 3 8 = fJrM X 76 4 ∧ fRen M 3 9 = fJrM X 76 3 := by
  unfold fRen fJrM
  rw [if_pos (h9.trans ho)]
  by_cases q : M 3 6 < nI 40
  · rw [if_pos q, if_neg (by rw [← h6]; exact Int32.not_le.mpr q)]
    exact ⟨h6, h7, h8, h9⟩
  · rw [if_neg q, if_pos (by rw [← h6]; exact Int32.not_lt.mp q)]
    have w := wr_rel (mu M 3 6 (M 3 3)) (mu X 76 22 (X 76 15)) (by rw [mu_k _ _ _ (by decide), mu_k _ _ _ (by decide)]; exact h7) (by rw [mu_k _ _ _ (by decide), mu_k _ _ _ (by decide)]; exact h8) (by rw [mu_k _ _ _ (by decide), mu_k _ _ _ (by decide)]; exact h9) (by rw [mu_k _ _ _ (by decide)]; exact ho)
    exact ⟨by rw [fWr_k _ (by decide) (by decide) (by decide), mu_same, fWrM_k _ (by decide) (by decide) (by decide), mu_same, h3, h15], w⟩
theorem mkB_in {M : Mem} {b : Nat → Nat} {z : Int32} {i : Nat} : ∀ {k : Nat}, i < k → mkB M b z k 5 (b i) = z
  | 0, h => absurd h (Nat.not_lt_zero _)
  | k + 1, h => by
    unfold mkB
    by_cases q : b i = b k
    · rw [q, mu_same]
    · rw [mu_k _ _ _ q]
      exact mkB_in (by rcases (show i < k ∨ i = k by omega) with w | w; exact w; exact absurd (by rw [w]) q)
theorem mkB_out {M : Mem} {b : Nat → Nat} {z : Int32} {x : Nat} : ∀ {k : Nat}, (∀ i, i < k → x ≠ b i) → mkB M b z k 5 x = M 5 x
  | 0, _ => rfl
  | k + 1, h => by
    unfold mkB
    rw [mu_k _ _ _ (h k (by omega))]
    exact mkB_out (fun i hi => h i (by omega))
section ZCR
variable {c0 : Nat} {ln em : Nat → Nat} {bk : Nat → Nat → Nat} {q : Nat → Nat} {M X : Mem}
theorem XSv.used (hS : XSv c0 ln em bk X) {i k : Nat} (hi : i < c0) (hk : k < (ln i + 19) / 20) : uX X (bk i k) = 0 := by
  have := (hS.2.2.2.1 i hi).2.2
  have := hS.c
  exact uX_0 ⟨3 * i + k, by omega, (hS.2.2.2.2.2.1 i k hi hk).1⟩
/-- nothing of the packets has changed: only the place of the next one, power, and free blocks -/
theorem CRv.mid (h : CRv c0 ln em bk q M X) (hS : XSv c0 ln em bk X) (hlt : c0 < 24) {M' X' : Mem} (h15 : X' 76 15 = X 76 15) (h21 : X' 76 21 = X 76 21) (h82 : ∀ i, i < c0 → X' 82 i = X 82 i) (h84 : ∀ y, y < 60 * c0 → X' 84 y = X 84 y) (h85 : ∀ y, y < 3 * c0 → X' 85 y = X 85 y)
    (e6 : M' 3 6 = X' 76 22) (e7 : M' 3 7 = X' 76 23) (e8 : M' 3 8 = X' 76 4) (e9 : M' 3 9 = X' 76 3) (m3 : M' 3 3 = M 3 3) (m4 : M' 3 4 = M 3 4) (m5 : M' 3 5 = M 3 5) (M5 : M' 5 = M 5) (M6 : M' 6 = M 6)
    (mo : ∀ x, x < 24 → x ≠ q c0 → M' (7 + 2 * x) = M (7 + 2 * x) ∧ M' (8 + 2 * x) = M (8 + 2 * x)) (ok : okB M' (q c0)) (mb : ∀ y, uX X (y / 20) = 0 → M' 4 y = M 4 y) : CRv c0 ln em bk q M' X' := by
  obtain ⟨r1, r2, r3, r4, r5, r6, r7, r8, r9, r10, r11, r12, r13, r14⟩ := h
  have hu : ∀ b, uX X' b = uX X b := uX_same h15 (fun z hz => h85 z (by rw [hS.c] at hz; exact hz))
  have hne : ∀ i, i < c0 → q i < 24 ∧ q i ≠ q c0 := fun i hi => ⟨(r9 i (by omega)).2, fun e => absurd (r10 i c0 (by omega) hlt e) (by omega)⟩
  refine ⟨m3.trans r1, ?_, by rw [m5, h21]; exact r3, e6, e7, e8, e9, fun b hb => by rw [M5, hu]; exact r8 b hb, fun k hk => by rw [M6]; exact r9 k hk, r10, fun j hj => ?_, fun i hi => ?_, fun i k hi hk => ?_, fun i k hi hk => ?_⟩
  · rw [m4, r2, cntF_congr 24 (fun b _ => hu b)]
  · by_cases z : j = q c0
    · rw [z]; exact ok
    · intro k hk
      rw [(mo j hj z).2]
      exact r11 j hj k hk
  · have l := (hS.2.2.2.1 i hi).2
    rw [(mo _ (hne i hi).1 (hne i hi).2).1, h82 i hi, h84 _ (by omega), h84 _ (by omega)]
    exact r12 i hi
  · rw [(mo _ (hne i hi).1 (hne i hi).2).2]
    exact r13 i k hi hk
  · have l := (hS.2.2.2.1 i hi).2
    have l2 := hS.2.2.2.2.2.1 i (k / 20) hi (by omega)
    rw [mb _ (by rw [show (bk i (k / 20) * 20 + k % 20) / 20 = bk i (k / 20) by omega]; exact hS.used hi (by omega)), h84 _ (by omega)]
    exact r14 i k hi hk
/-- a packet is added, here as there -/
theorem add_rel (h : CRv c0 ln em bk q M X) (hS : XSv c0 ln em bk X) (ho : X 76 3 = 0) {n st src at0 : Nat} (h7 : 7 ≤ n) (h60 : n ≤ 60) (hr : (n + 19) / 20 ≤ cntF (uX X) 24) (hs1 : src ≠ 76) (hs2 : src ≠ 84) (hs3 : src ≠ 85) (hb : ∀ k, k < n → ∃ v, v < 256 ∧ X src (at0 + k) = nI v) (hrow : ∀ k, k < n → M 57 (st + k) = X src (at0 + k)) :
    ∃ c' ln' em' bk', XSv c' ln' em' bk' (fKeep X src at0 n) ∧ CRv c' ln' em' bk' q (fAdd M (q c0) n st (cntF (uX X) 24)) (fKeep X src at0 n) := by
  have hroom := hS.room
  have hlt : c0 < 24 := by omega
  have hh := h
  obtain ⟨r1, r2, r3, r4, r5, r6, r7, r8, r9, r10, r11, r12, r13, r14⟩ := hh
  have hj := (r9 c0 hlt).2
  generalize hjq : q c0 = j at hj
  have pk3 : pkS M j n st 3 = M 3 := pkS_p _ _ _ _ (by omega)
  have w := wb_rel (uX X) (uX_le X) c0 n j st hj (M 57) 24 0 0 (pkS M j n st) (fKp0 X c0) (by omega) (pkS_p _ _ _ _ (by omega)) (by rw [pkS_p _ _ _ _ (by omega)]; exact r8) (by rw [pk3, fKp0_p _ _ (by decide)]; exact r5) (by rw [pk3, fKp0_p _ _ (by decide)]; exact r6) (by rw [pk3, fKp0_p _ _ (by decide)]; exact r7) (by show _ + 0 ≤ 0 + _; omega)
  change (wbM j n st 24 0 0 (pkS M j n st) 3 7 = scX X c0 n 76 23 ∧ wbM j n st 24 0 0 (pkS M j n st) 3 8 = scX X c0 n 76 4 ∧ wbM j n st 24 0 0 (pkS M j n st) 3 9 = scX X c0 n 76 3) ∧ _ at w
  have wp : ∀ {p : Nat}, p ≠ 3 → p ≠ 4 → p ≠ 8 + 2 * j → p ≠ 7 + 2 * j → wbM j n st 24 0 0 (pkS M j n st) p = M p := fun a1 a2 a3 a4 => by rw [wbM_p _ _ _ _ _ _ _ a1 a2 a3, pkS_p _ _ _ _ a4]
  have w3 : ∀ {x : Nat}, x ≠ 7 → x ≠ 8 → x ≠ 9 → wbM j n st 24 0 0 (pkS M j n st) 3 x = M 3 x := fun a1 a2 a3 => by rw [wbM_k _ _ _ _ _ _ _ a1 a2 a3, pk3]
  have w4 : ∀ y, uX X (y / 20) = 0 → wbM j n st 24 0 0 (pkS M j n st) 4 y = M 4 y := fun y hy => by rw [w.2.2.1 y (Or.inl hy), pkS_p _ _ _ _ (by omega)]
  have wok : okB (wbM j n st 24 0 0 (pkS M j n st)) j := okB.wbM 24 0 0 _ (by omega) (fun x hx => by rw [pkS_p _ _ _ _ (by omega)]; exact r11 j hj x hx)
  generalize hW : wbM j n st 24 0 0 (pkS M j n st) = W at w wp w3 w4 wok
  have hR : adW M j n st = fRen W := by unfold adW; rw [hW]
  have hSc := hS.scX (n := n)
  have w36 : W 3 6 = scX X c0 n 76 22 := by rw [w3 (by decide) (by decide) (by decide), scX_k (by decide) (by decide) (by decide)]; exact r4
  rw [fKeep_eq hS]
  unfold fKp1
  by_cases z1 : scX X c0 n 76 3 = 0
  · rw [if_pos z1]
    have rr := ren_rel W (scX X c0 n) c0 ((w3 (by decide) (by decide) (by decide)).trans r1) hSc.1 w36 w.1.1 w.1.2.1 w.1.2.2 z1
    by_cases z2 : fJrM (scX X c0 n) 76 3 = 0
    · rw [if_pos z2]
      obtain ⟨v, hv, hi⟩ := scX_new hr z1
      have B := fKeep_B hS h7 h60 hr hs1 hs2 hs3 hb v hv hi
      refine ⟨_, _, _, _, B.1, ?_⟩
      have hbv : ∀ k, k < (n + 19) / 20 → bkO (fRen W) j k = v k := fun k hk => by
        unfold bkO
        rw [fRen_p _ (by omega), (w.2.2.2 z1).1 k (by omega) hk]
        show (scX X c0 n 85 (3 * c0 + k)).toNatClampNeg = _
        rw [(hv k hk).1, nI_clamp (by have := (hv k hk).2.1; omega)]
      have hmb : ∀ k, k ≤ (n + 19) / 20 → ∀ Y : Mem, mkB Y (bkO (fRen W) j) (nI 1) k = mkB Y v (nI 1) k := by
        intro k
        induction k with
        | zero => intro _ _; rfl
        | succ k ih =>
          intro hk Y
          show mu (mkB Y _ _ k) 5 (bkO (fRen W) j k) _ = mu (mkB Y _ _ k) 5 (v k) _
          rw [ih (by omega), hbv k (by omega)]
      have hnb : (n + 20 - 1) / 20 = (n + 19) / 20 := by omega
      unfold fAdd fEA
      rw [hR, hnb, if_pos (rr.2.2.2.trans z2), hmb _ (Nat.le_refl _)]
      generalize hY : mu (mu (mu (mu (fRen W) 3 6 (fRen W 3 6 + nI 1)) (7 + 2 * j) 1 (fRen W 3 5)) 3 5 (fRen W 3 5 + nI 1)) 3 3 (fRen W 3 3 + nI 1) = Y
      have y3 : ∀ {x : Nat}, x ≠ 3 → x ≠ 5 → x ≠ 6 → Y 3 x = fRen W 3 x := fun a1 a2 a3 => by rw [← hY, mu_k _ _ _ a1, mu_k _ _ _ a2, mu_p _ _ _ (by omega), mu_k _ _ _ a3]
      have yp : ∀ {p : Nat}, p ≠ 3 → p ≠ 7 + 2 * j → Y p = W p := fun a1 a2 => by rw [← hY, mu_p _ _ _ a1, mu_p _ _ _ a1, mu_p _ _ _ a2, mu_p _ _ _ a1, fRen_p _ a1]
      have y33 : Y 3 3 = nI (c0 + 1) := by rw [← hY, mu_same, fRen_k _ (by decide) (by decide) (by decide) (by decide), w3 (by decide) (by decide) (by decide), r1, nI_add]
      have y35 : Y 3 5 = X 76 21 + nI 1 := by rw [← hY, mu_k _ _ _ (by decide), mu_same, fRen_k _ (by decide) (by decide) (by decide) (by decide), w3 (by decide) (by decide) (by decide), r3]
      have y36 : Y 3 6 = fJrM (scX X c0 n) 76 22 + nI 1 := by rw [← hY, mu_k _ _ _ (by decide), mu_k _ _ _ (by decide), mu_p _ _ _ (by omega), mu_same, rr.1]
      have y71 : Y (7 + 2 * j) 1 = X 76 21 := by rw [← hY, mu_p _ _ _ (by omega), mu_p _ _ _ (by omega), mu_same, fRen_k _ (by decide) (by decide) (by decide) (by decide), w3 (by decide) (by decide) (by decide), r3]
      have y7 : ∀ {x : Nat}, x ≠ 1 → Y (7 + 2 * j) x = pkS M j n st (7 + 2 * j) x := fun a => by rw [← hY, mu_p _ _ _ (by omega), mu_p _ _ _ (by omega), mu_k _ _ _ a, mu_p _ _ _ (by omega), fRen_p _ (by omega), ← hW, wbM_p _ _ _ _ _ _ _ (by omega) (by omega) (by omega)]
      generalize hV : mu (mkB Y v (nI 1) ((n + 19) / 20)) 3 4 (nI (cntF (uX X) 24 - (n + 19) / 20)) = V
      have v3 : ∀ {x : Nat}, x ≠ 4 → V 3 x = Y 3 x := fun a => by rw [← hV, mu_k _ _ _ a, mkB_p _ _ _ _ (by decide)]
      have vp : ∀ {p : Nat}, p ≠ 3 → p ≠ 5 → V p = Y p := fun a b => by rw [← hV, mu_p _ _ _ a, mkB_p _ _ _ _ b]
      have wr := wr_rel V (mu (mu (mu (mu (mu (cpX 84 (60 * c0) src at0 n 0 (mu (fJrM (scX X c0 n)) 76 22 (fJrM (scX X c0 n) 76 22 + nI 1))) 82 c0 (cpX 84 (60 * c0) src at0 n 0 (mu (fJrM (scX X c0 n)) 76 22 (fJrM (scX X c0 n) 76 22 + nI 1)) 76 21)) 83 c0 (nI n)) 86 c0 (nI 0)) 76 21 (cpX 84 (60 * c0) src at0 n 0 (mu (fJrM (scX X c0 n)) 76 22 (fJrM (scX X c0 n) 76 22 + nI 1)) 76 21 + nI 1)) 76 15 (nI (c0 + 1)))
        (by rw [v3 (by decide), y3 (by decide) (by decide) (by decide), mu_k _ _ _ (by decide), mu_k _ _ _ (by decide), mu_p _ _ _ (by decide), mu_p _ _ _ (by decide), mu_p _ _ _ (by decide), cpX_p _ _ _ _ _ _ _ (by decide), mu_k _ _ _ (by decide)]; exact rr.2.1)
        (by rw [v3 (by decide), y3 (by decide) (by decide) (by decide), mu_k _ _ _ (by decide), mu_k _ _ _ (by decide), mu_p _ _ _ (by decide), mu_p _ _ _ (by decide), mu_p _ _ _ (by decide), cpX_p _ _ _ _ _ _ _ (by decide), mu_k _ _ _ (by decide)]; exact rr.2.2.1)
        (by rw [v3 (by decide), y3 (by decide) (by decide) (by decide), mu_k _ _ _ (by decide), mu_k _ _ _ (by decide), mu_p _ _ _ (by decide), mu_p _ _ _ (by decide), mu_p _ _ _ (by decide), cpX_p _ _ _ _ _ _ _ (by decide), mu_k _ _ _ (by decide)]; exact rr.2.2.2)
        (by rw [mu_k _ _ _ (by decide), mu_k _ _ _ (by decide), mu_p _ _ _ (by decide), mu_p _ _ _ (by decide), mu_p _ _ _ (by decide), cpX_p _ _ _ _ _ _ _ (by decide), mu_k _ _ _ (by decide)]; exact z2)
      have hne : ∀ i, i < c0 → q i < 24 ∧ q i ≠ j := fun i hi => ⟨(r9 i (by omega)).2, fun e => absurd (r10 i c0 (by omega) hlt (e.trans hjq.symm)) (by omega)⟩
      have e84 : ∀ y, y < 60 * c0 → fKp2 (fJrM (scX X c0 n)) c0 n src at0 84 y = X 84 y := fun y hy => by rw [fKp2_84 hs1 hs2, if_neg (by omega), fJrM_p _ (by decide), scX_p (by decide) (by decide)]
      have e84n : ∀ k, k < n → fKp2 (fJrM (scX X c0 n)) c0 n src at0 84 (60 * c0 + k) = M 57 (st + k) := fun k hk => by rw [fKp2_84 hs1 hs2, if_pos (by omega), fJrM_p _ hs1, scX_p hs1 hs3, show at0 + (60 * c0 + k - 60 * c0) = at0 + k by omega, hrow k hk]
      refine ⟨?_, ?_, ?_, ?_, wr.1, wr.2.1, wr.2.2, ?_, ?_, r10, ?_, ?_, ?_, ?_⟩
      · rw [fWr_k _ (by decide) (by decide) (by decide), v3 (by decide), y33]
      · rw [fWr_k _ (by decide) (by decide) (by decide), ← hV, mu_same, cntF_congr 24 B.2]
        have := cntF_mk0 (uX X) v ((n + 19) / 20) (fun j hj => (hv j hj).2) (fun i j a b => Nat.ne_of_lt (hi i j a b))
        congr 1
        omega
      · rw [fWr_k _ (by decide) (by decide) (by decide), v3 (by decide), y35, fKp2_21, fJrM_k _ (by decide) (by decide) (by decide) (by decide), scX_k (by decide) (by decide) (by decide)]
      · rw [fWr_k _ (by decide) (by decide) (by decide), v3 (by decide), y36, fKp2_22]
      · intro b hb24
        rw [fWr_p _ (by decide), B.2 b hb24, ← hV, mu_p _ _ _ (by decide)]
        by_cases hex : ∃ k, k < (n + 19) / 20 ∧ b = v k
        · obtain ⟨k, hk, rfl⟩ := hex
          rw [mkB_in hk, mkU_eq hk]
        · rw [mkB_out (fun k hk e => hex ⟨k, hk, e⟩), mkU_ne (fun k hk e => hex ⟨k, hk, e⟩), yp (by decide) (by omega), wp (by decide) (by decide) (by omega) (by omega)]
          exact r8 b hb24
      · intro k hk
        rw [fWr_p _ (by decide), vp (by decide) (by decide), yp (by decide) (by omega), wp (by decide) (by decide) (by omega) (by omega)]
        exact r9 k hk
      · intro x hx k hk
        rw [fWr_p _ (by omega), vp (by omega) (by omega), yp (by omega) (by omega)]
        by_cases z : x = j
        · rw [z]; exact wok k hk
        · rw [wp (by omega) (by omega) (by omega) (by omega)]
          exact r11 x hx k hk
      · intro i hi2
        rw [fWr_p _ (by omega), vp (by omega) (by omega)]
        by_cases z : i = c0
        · subst z
          rw [hjq, ex1_c, ex1_c, y71, y7 (by decide), y7 (by decide), y7 (by decide), fKp2_82, fJrM_k _ (by decide) (by decide) (by decide) (by decide), scX_k (by decide) (by decide) (by decide)]
          refine ⟨by simp [upd], ?_, ?_, ?_⟩
          · unfold pkS; rw [mu_k _ _ _ (by decide), mu_k _ _ _ (by decide), mu_same]
          · unfold pkS; rw [mu_k _ _ _ (by decide), mu_same]
            have a0 := e84n 0 (by omega)
            have a1 := e84n 1 (by omega)
            rw [show 60 * i + 0 = 60 * i by omega] at a0
            rw [a0, a1]
            rfl
          · unfold pkS; rw [mu_same]
        · have hh := hne i (by omega)
          have l := (hS.2.2.2.1 i (by omega)).2
          rw [ex1_n _ _ z, ex1_n _ _ z, yp (by omega) (by omega), wp (by omega) (by omega) (by omega) (by omega), e84 _ (by omega), e84 _ (by omega), fKp2_82]
          simp only [upd]
          rw [if_neg z, fJrM_p _ (by decide), scX_p (by decide) (by decide)]
          exact r12 i (by omega)
      · intro i k hi2 hk
        rw [fWr_p _ (by omega), vp (by omega) (by omega), yp (by omega) (by omega)]
        by_cases z : i = c0
        · subst z
          rw [ex1_c] at hk
          rw [hjq, ex1_c, (w.2.2.2 z1).1 k (by omega) hk]
          exact (hv k hk).1
        · have hh := hne i (by omega)
          rw [ex1_n _ _ z] at hk
          rw [ex1_n _ _ z, wp (by omega) (by omega) (by omega) (by omega)]
          exact r13 i k (by omega) hk
      · intro i k hi2 hk
        rw [fWr_p _ (by decide), vp (by decide) (by decide), yp (by decide) (by omega)]
        by_cases z : i = c0
        · subst z
          rw [ex1_c] at hk
          rw [ex1_c, e84n k hk]
          obtain ⟨y, y0, y1, y2⟩ := (w.2.2.2 z1).2 k (by omega) hk
          have e : y = v (k / 20) := (nI_eq (by omega) (by have := (hv (k / 20) (by omega)).2.1; omega)).mp (y1.symm.trans (hv (k / 20) (by omega)).1)
          rw [← e]
          exact y2
        · have l := (hS.2.2.2.1 i (by omega)).2
          rw [ex1_n _ _ z] at hk
          rw [ex1_n _ _ z, e84 _ (by omega), w4 _ (by rw [show (bk i (k / 20) * 20 + k % 20) / 20 = bk i (k / 20) by omega]; exact hS.used (by omega) (by omega))]
          exact r14 i k (by omega) hk
    · rw [if_neg z2]
      refine ⟨_, _, _, _, hSc.jr, ?_⟩
      unfold fAdd fEA
      rw [hR, if_neg (by rw [rr.2.2.2]; exact z2)]
      refine h.mid hS hlt ?_ ?_ (fun i _ => ?_) (fun i _ => ?_) (fun i hi => ?_) rr.1 rr.2.1 rr.2.2.1 rr.2.2.2 ?_ ?_ ?_ ?_ ?_ (fun x hx hxn => ?_) ?_ (fun y hy => ?_)
      · rw [fJrM_k _ (by decide) (by decide) (by decide) (by decide), scX_k (by decide) (by decide) (by decide)]
      · rw [fJrM_k _ (by decide) (by decide) (by decide) (by decide), scX_k (by decide) (by decide) (by decide)]
      · rw [fJrM_p _ (by decide), scX_p (by decide) (by decide)]
      · rw [fJrM_p _ (by decide), scX_p (by decide) (by decide)]
      · rw [fJrM_p _ (by decide), scX_lo hi]
      · rw [fRen_k _ (by decide) (by decide) (by decide) (by decide), w3 (by decide) (by decide) (by decide)]
      · rw [fRen_k _ (by decide) (by decide) (by decide) (by decide), w3 (by decide) (by decide) (by decide)]
      · rw [fRen_k _ (by decide) (by decide) (by decide) (by decide), w3 (by decide) (by decide) (by decide)]
      · rw [fRen_p _ (by decide), wp (by decide) (by decide) (by omega) (by omega)]
      · rw [fRen_p _ (by decide), wp (by decide) (by decide) (by omega) (by omega)]
      · rw [hjq] at hxn
        exact ⟨by rw [fRen_p _ (by omega), wp (by omega) (by omega) (by omega) (by omega)], by rw [fRen_p _ (by omega), wp (by omega) (by omega) (by omega) (by omega)]⟩
      · rw [hjq]; intro k hk; rw [fRen_p _ (by omega)]; exact wok k hk
      · rw [fRen_p _ (by decide)]; exact w4 y hy
  · rw [if_neg z1]
    have hRW : fRen W = W := by unfold fRen; rw [if_neg (by rw [w.1.2.2]; exact z1)]
    refine ⟨_, _, _, _, hSc, ?_⟩
    unfold fAdd fEA
    rw [hR, hRW, if_neg (by rw [w.1.2.2]; exact z1)]
    refine h.mid hS hlt ?_ ?_ (fun i _ => ?_) (fun i _ => ?_) (fun i hi => scX_lo hi) w36 w.1.1 w.1.2.1 w.1.2.2 (w3 (by decide) (by decide) (by decide)) (w3 (by decide) (by decide) (by decide)) (w3 (by decide) (by decide) (by decide)) (wp (by decide) (by decide) (by omega) (by omega)) (wp (by decide) (by decide) (by omega) (by omega)) (fun x hx hxn => ?_) (by rw [hjq]; exact wok) (fun y hy => w4 y hy)
    · rw [scX_k (by decide) (by decide) (by decide)]
    · rw [scX_k (by decide) (by decide) (by decide)]
    · rw [scX_p (by decide) (by decide)]
    · rw [scX_p (by decide) (by decide)]
    · rw [hjq] at hxn
      exact ⟨wp (by omega) (by omega) (by omega) (by omega), wp (by omega) (by omega) (by omega) (by omega)⟩
end ZCR
