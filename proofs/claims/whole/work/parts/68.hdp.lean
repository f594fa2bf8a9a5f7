theorem FrR.fr {t : Nat} {g : Nat → Nat} {M M' Z Z' : Mem} (h : FrR t g M Z) (h1 : M' 71 = M 71) (h2 : M' 72 = M 72) (h3 : Z' 78 = Z 78) : FrR t g M' Z' := by
  unfold FrR at h ⊢
  rw [h1, h2, h3]; exact h
theorem Hv.fr {c : Nat} {st ln at0 : Nat → Nat} {src : Nat} {M M' X : Mem} (h : Hv c st ln at0 src M X) (hM : ∀ p, 56 ≤ p → p < 60 → M' p = M p) : Hv c st ln at0 src M' X := by
  unfold Hv at h ⊢
  rw [hM 56 (by decide) (by decide), hM 57 (by decide) (by decide), hM 58 (by decide) (by decide), hM 59 (by decide) (by decide)]; exact h
theorem fSet_eq {M1 M2 : Mem} (h : ∀ p, p ≠ 55 → M2 p = M1 p) (h9 : M2 55 9 = M1 55 9) (j n : Nat) {p : Nat} (hp : 61 ≤ p) : fSet M2 j n p = fSet M1 j n p := by
  unfold fSet
  rw [h9]
  by_cases a : M1 55 9 = 0
  · rw [if_pos a, if_pos a]
    unfold fFg
    by_cases b : p = 61 + 2 * j
    · subst b; rw [mu_row, mu_row, mu_row, mu_row, h _ (by omega)]
    · rw [mu_p _ _ _ b, mu_p _ _ _ b, mu_p _ _ _ b, mu_p _ _ _ b, h _ (by omega)]
  · rw [if_neg a, if_neg a]
    by_cases b : p = 62 + 2 * j
    · subst b; rw [ma_row, ma_row, h 57 (by decide), h _ (by omega)]
    · rw [ma_p _ _ b, ma_p _ _ b]
      by_cases d : p = 61 + 2 * j
      · subst d; rw [mu_row, mu_row, mu_row, mu_row, h _ (by omega)]
      · rw [mu_p _ _ _ d, mu_p _ _ _ d, mu_p _ _ _ d, mu_p _ _ _ d, h _ (by omega)]
/-- the frame counts: what is left to do -/
theorem GO.tail {Z9 Z M M1 M2 : Mem} {r9 sq : Int32} (hG : GO Z9 r9 sq Z M M1) (hr : ¬ r9 = 0) (hSR : SR M Z) (h2 : ∀ p, p ≠ 55 → M2 p = M1 p) (h8 : M2 55 8 = M1 55 8) (h9 : M2 55 9 = M1 55 9) :
    ∃ (c n src : Nat) (st ln at0 : Nat → Nat) (Y : Mem), (77 ≤ src ∧ src ≤ 81) ∧ SE Z9 (kwF src at0 ln c 0 Y) ∧
      ((M2 55 8 = nI 0 ∧ StR M2 Z9 ∧ SR M2 Y ∧ Hv c st ln at0 src M2 Y) ∨ (∃ j, j < 4 ∧ M2 55 8 = nI (j + 1) ∧ M2 56 3 = nI n ∧ n ≤ 60 ∧ StR (fSet M2 j n) Z9 ∧ SR (fSet M2 j n) Y ∧ Hv c st ln at0 src (fSet M2 j n) Y)) := by
  obtain ⟨g1, g2, c, n, src, st, ln, at0, Y, a1, a2, a3, a4, a5, a6, a7, a8⟩ := hG
  have b := a8 hr
  have hY : SR M Y := hSR.se a5
  refine ⟨c, n, src, st, ln, at0, Y, a3, b.1, ?_⟩
  rcases b.2 with q | ⟨j, q1, q2, q3⟩
  · left
    exact ⟨h8.trans q.1, q.2.fr (fun p _ _ => h2 p (by omega)), hY.fr (fun p _ _ => by rw [h2 p (by omega), g1 p (by omega) (by omega) (by omega) (by omega) (by omega)]), a4.fr (fun p _ _ => h2 p (by omega))⟩
  · right
    refine ⟨j, q1, h8.trans q2, by rw [h2 56 (by decide)]; exact a1, a2, q3.fr (fun p x _ => fSet_eq h2 h9 j n x), hY.fr (fun p _ _ => by rw [fSet_p _ _ _ q1 (by omega), h2 p (by omega), g1 p (by omega) (by omega) (by omega) (by omega) (by omega)]), a4.fr (fun p _ _ => by rw [fSet_p _ _ _ q1 (by omega), h2 p (by omega)])⟩
theorem sub255 {a b : Nat} (ha : a < 256) (hb : b < 256) : (nI a - nI b) &&& nI 255 = nI ((a + 256 - b) % 256) := by
  obtain ⟨v, hv, e⟩ := and255 (nI a - nI b)
  rw [e]
  congr 1
  have h1 : ((nI a - nI b) &&& nI 255).toBitVec.toNat = v := by rw [e]; show (BitVec.ofNat 32 v).toNat = v; rw [BitVec.toNat_ofNat]; omega
  have h2 : ((nI a - nI b) &&& nI 255).toBitVec.toNat = (2 ^ 32 - b + a) % 2 ^ 32 % 256 := by
    rw [Int32.toBitVec_and, BitVec.toNat_and, Int32.toBitVec_sub, BitVec.toNat_sub]
    show ((2 ^ 32 - (BitVec.ofNat 32 b).toNat + (BitVec.ofNat 32 a).toNat) % 2 ^ 32) &&& (BitVec.ofNat 32 255).toNat = _
    rw [BitVec.toNat_ofNat, BitVec.toNat_ofNat, BitVec.toNat_ofNat, Nat.mod_eq_of_lt (by omega : b < 2 ^ 32), Nat.mod_eq_of_lt (by omega : a < 2 ^ 32)]
    exact Nat.and_two_pow_sub_one_eq_mod _ 8
  omega
theorem inc255 {v : Nat} (hv : v < 256) : (nI v + nI 1) &&& nI 255 = nI ((v + 1) % 256) := by
  rw [nI_add]
  exact nI_and (n := v + 1) 8 256 (by omega) (by decide) (by decide)
theorem inc7 {v : Nat} (hv : v < 8) : (nI v + nI 1) &&& nI 7 = nI ((v + 1) % 8) := by
  rw [nI_add]
  exact nI_and (n := v + 1) 3 8 (by omega) (by decide) (by decide)
section ZASQ
variable {M : Mem} {a v : Nat} {rm : Int32}
theorem asq_far (ha : a < 256) (hv : v < 256) (h5 : M 55 5 = nI v) (h : ¬ (a + 256 - v) % 256 < 128) : rASq M (nI a) rm = nI 0 ∧ fASq M (nI a) rm = M := by
  unfold rASq fASq
  rw [h5, sub255 ha hv, if_neg (by rw [nI_leI (by omega) (by decide)]; omega), if_neg (by rw [nI_leI (by omega) (by decide)]; omega)]
  exact ⟨rfl, rfl⟩
theorem asq_mid (ha : a < 256) (hv : v < 256) (h5 : M 55 5 = nI v) (h : (a + 256 - v) % 256 < 128) (h0 : ¬ (a + 256 - v) % 256 = 0 ∨ rm = 0) : rASq M (nI a) rm = nI 0 ∧ fASq M (nI a) rm = mu M 55 6 (nI 1) := by
  unfold rASq fASq
  have h1 : nI ((a + 256 - v) % 256) ≤ nI 127 := by rw [nI_leI (by omega) (by decide)]; omega
  rw [h5, sub255 ha hv, if_pos h1, if_pos h1]
  by_cases z : (a + 256 - v) % 256 = 0
  · have e : rm = 0 := by rcases h0 with w | w; exact absurd z w; exact w
    have e0 : nI 0 = 0 := rfl
    rw [z, if_pos e0, if_pos e0, if_pos e, if_pos e]; exact ⟨rfl, rfl⟩
  · have e : ¬ nI ((a + 256 - v) % 256) = 0 := nI_ne0 (by omega) (by omega)
    rw [if_neg e, if_neg e]; exact ⟨rfl, rfl⟩
theorem asq_yes (ha : a < 256) (hv : v < 256) (h5 : M 55 5 = nI v) (h : (a + 256 - v) % 256 = 0) (h0 : ¬ rm = 0) : rASq M (nI a) rm = nI 1 ∧ fASq M (nI a) rm = mu (mu M 55 6 (nI 0)) 55 5 (nI ((v + 1) % 256)) := by
  unfold rASq fASq
  have e0 : nI 0 = 0 := rfl
  have e1 : nI 0 ≤ nI 127 := by decide
  rw [h5, sub255 ha hv, h, if_pos e1, if_pos e1, if_pos e0, if_pos e0, if_neg h0, if_neg h0, inc255 hv]
  exact ⟨rfl, rfl⟩
end ZASQ
section ZTK
variable {X : Mem} {g : Nat → Nat} {t : Nat}
theorem tk_far (h : ¬ g 3 % 4 * 256 + g 4 = 77) : fTk X g t = X := by
  unfold fTk
  split
  · rfl
  · rfl
theorem tk_dir (ho : ¬ fOpen (X 76 1) (X 77 0) (X 77 1) (X 77 2) = 0) (h : g 3 % 4 * 256 + g 4 = 77) (hd : g 3 / 16 % 2 = 1) : fTk X g t = fDir X g (3 + t) (nI (g 5 / 128)) := by
  unfold fTk; rw [if_neg ho, if_pos h, if_pos hd]
theorem tk_off (h : g 3 % 4 * 256 + g 4 = 77) (hd : ¬ g 3 / 16 % 2 = 1) (hn : X 76 7 = 0 ∨ ¬ X 76 8 = nI (g 5 / 128)) : fTk X g t = X := by
  unfold fTk
  rw [if_pos h, if_neg hd]
  by_cases z : X 76 7 = 0
  · rw [if_pos z]; split <;> rfl
  · rw [if_neg z]
    have w : ¬ X 76 8 = nI (g 5 / 128) := by rcases hn with w | w; exact absurd w z; exact w
    rw [if_neg w]; split <;> rfl
theorem tk_exp (ho : ¬ fOpen (X 76 1) (X 77 0) (X 77 1) (X 77 2) = 0) (h : g 3 % 4 * 256 + g 4 = 77) (hd : ¬ g 3 / 16 % 2 = 1) (h7 : ¬ X 76 7 = 0) (h8 : X 76 8 = nI (g 5 / 128)) (he : g 3 / 32 % 2 = 1) : fTk X g t = fF (mu X 76 11 (nI ((kX X + 1) % 8))) g (3 + t) (nI 0) (g 3 / 4 % 4) := by
  unfold fTk
  rw [if_neg ho, if_pos h, if_neg hd, if_neg h7, if_pos h8, if_pos he]; rfl
theorem tk_seq (ho : ¬ fOpen (X 76 1) (X 77 0) (X 77 1) (X 77 2) = 0) (h : g 3 % 4 * 256 + g 4 = 77) (hd : ¬ g 3 / 16 % 2 = 1) (h7 : ¬ X 76 7 = 0) (h8 : X 76 8 = nI (g 5 / 128)) (he : ¬ g 3 / 32 % 2 = 1) : fTk X g t = fTkS X g t (vX X) := by
  unfold fTk
  rw [if_neg ho, if_pos h, if_neg hd, if_neg h7, if_pos h8, if_neg he]
theorem tk_mid {vv : Nat} (h0 : ¬ (g 7 + 256 - vv) % 256 = 0) (h : (g 7 + 256 - vv) % 256 < 128) : fTkS X g t vv = mu X 76 10 (nI 1) := by unfold fTkS; rw [if_neg h0, if_pos h]
theorem tk_out {vv : Nat} (h : ¬ (g 7 + 256 - vv) % 256 < 128) : fTkS X g t vv = X := by unfold fTkS; rw [if_neg (by omega), if_neg h]
end ZTK
/-- what heeding a frame has come to -/
def HP (M X9 M' : Mem) : Prop := SR M' X9 ∧ SsR M' X9 ∧ StR M' X9 ∧ ∀ p0, p0 < 3 ∨ 69 ≤ p0 → M' p0 = M p0
theorem fTk3_se (X : Mem) (al : Int32) (vv : Nat) : SE (fTk3 X al vv) X := by
  unfold fTk3
  split
  · exact SE.k _ (by decide) (by decide) (by decide) (by decide) (by decide) (by decide)
  · exact (SE.k _ (by decide) (by decide) (by decide) (by decide) (by decide) (by decide)).trans (SE.k _ (by decide) (by decide) (by decide) (by decide) (by decide) (by decide))
theorem fTk3_st {M X : Mem} (al : Int32) (vv : Nat) (h : StR M X) : StR M (fTk3 X al vv) := h.eq (fTk3_p _ _ _ (by decide)) (fTk3_p _ _ _ (by decide)) (fTk3_p _ _ _ (by decide))
