def pX (X : Mem) (j : Nat) : Nat := (X 80 j).toNatClampNeg
def tX (X : Mem) (i : Nat) : Nat := (X 81 i).toNatClampNeg
def cGo (X : Mem) (j en pl : Nat) : Prop := ¬ X 79 j = 0 ∧ pl + (en - 9) ≤ 60
def goL (j : Nat) : Nat → Nat → Nat → Mem → Mem
  | 0, _, _, X => X
  | r + 1, i, pl, X => goL j r (i + 1) (pl + 1) (mu (mu X 81 (60 * j + pl) (X 78 i)) 80 j (nI (pl + 1)))
theorem goL_p (j : Nat) : ∀ (r i pl : Nat) (X : Mem) {p : Nat}, p ≠ 80 → p ≠ 81 → goL j r i pl X p = X p
  | 0, _, _, _, _, _, _ => rfl
  | r + 1, i, pl, X, p, h1, h2 => by unfold goL; rw [goL_p j r _ _ _ h1 h2, mu_p _ _ _ h1, mu_p _ _ _ h2]
theorem goL_80 (j : Nat) : ∀ (r i pl : Nat) (X : Mem), X 80 j = nI pl → goL j r i pl X 80 j = nI (pl + r)
  | 0, _, _, _, h => h
  | r + 1, i, pl, X, h => by unfold goL; rw [goL_80 j r (i + 1) (pl + 1) _ (mu_same _ _ _ _), show pl + 1 + r = pl + (r + 1) by omega]
theorem goL_80n (j : Nat) : ∀ (r i pl : Nat) (X : Mem) {x : Nat}, x ≠ j → goL j r i pl X 80 x = X 80 x
  | 0, _, _, _, _, _ => rfl
  | r + 1, i, pl, X, x, h => by unfold goL; rw [goL_80n j r (i + 1) (pl + 1) _ h, mu_k _ _ _ h, mu_p _ _ _ (by decide)]
theorem goL_81 (j : Nat) : ∀ (r i pl : Nat) (X : Mem) (y : Nat), goL j r i pl X 81 y = if 60 * j + pl ≤ y ∧ y < 60 * j + pl + r then X 78 (i + (y - (60 * j + pl))) else X 81 y
  | 0, i, pl, X, y => by rw [if_neg (by omega)]; rfl
  | r + 1, i, pl, X, y => by
    unfold goL
    rw [goL_81 j r (i + 1) (pl + 1) _ y, mu_p _ _ _ (by decide), mu_p _ _ _ (by decide), mu_p _ _ _ (show (81 : Nat) ≠ 80 by decide)]
    by_cases h1 : y = 60 * j + pl
    · rw [if_neg (by omega), if_pos (by omega), h1, mu_same, show i + (60 * j + pl - (60 * j + pl)) = i by omega]
    · rw [mu_k _ _ _ h1]
      by_cases h2 : 60 * j + (pl + 1) ≤ y ∧ y < 60 * j + (pl + 1) + r
      · rw [if_pos h2, if_pos (by omega), show i + 1 + (y - (60 * j + (pl + 1))) = i + (y - (60 * j + pl)) by omega]
      · rw [if_neg h2, if_neg (by omega)]
set_option maxHeartbeats 4000000 in
set_option maxRecDepth 100000 in
theorem fm_goesOn (l : Launch) (D : va_G) (dA : Nat → ClassId) (M M9 : Mem) (j en pl : Nat) (r9 : Int32) (hj : j < 4) (h9 : 9 ≤ en) (hen : en ≤ 67) (hpl : ¬ M 79 j = 0 → M 80 j = nI pl ∧ pl ≤ 60) (h0 : ¬ cGo M j en pl → r9 = 0 ∧ mu M 79 j (nI 0) = M9) (h1 : cGo M j en pl → r9 = 1 ∧ goL j (en - 9) 9 pl M = M9) : CF l D dA k_Mod_goesOn 0 [.ref 76, .int (nI j), .int (nI 9), .int (nI en)] M (some (.int r9)) (M9) := by
  refine CF.of (by decide +kernel) (Nat.le_of_ble_eq_true rfl) (by intro v hv; simp only [List.mem_cons, List.not_mem_nil, or_false] at hv; rcases hv with rfl | rfl | rfl | rfl <;> rfl) ?_
  intro A ad0 p e s m args below meth c C hr
  refine J_aload_n C 0 d_Mod_goesOn_0 rfl rfl ?_
  refine J_get C f_Mod_48 (by decide) (e_76 _) rfl d_Mod_goesOn_1 ?_
  refine J_iload_n C 1 d_Mod_goesOn_4 rfl rfl ?_
  refine K_bal C a_79 (j := j) rfl (by omega) d_Mod_goesOn_5 ?_
  refine J_if_eq C 24 d_Mod_goesOn_6 (by decide) (fun hc6 => ?_) (fun hc6 => ?_)
  · refine J_aload_n C 0 d_Mod_goesOn_24 rfl rfl ?_
    refine J_get C f_Mod_48 (by decide) (e_76 _) rfl d_Mod_goesOn_25 ?_
    refine J_iload_n C 1 d_Mod_goesOn_28 rfl rfl ?_
    refine J_iconst C d_Mod_goesOn_29 (v := nI 0) rfl ?_
    refine K_bas C a_79 (j := j) rfl (by omega) (Or.inl rfl) d_Mod_goesOn_30 (kk := ?_)
    refine J_iconst C d_Mod_goesOn_31 (v := nI 0) rfl ?_
    exact F_zret C hr (Or.inl rfl) (h0 (by rintro ⟨q1, q2⟩; first | exact q1 hc6 | omega)).1.symm (h0 (by rintro ⟨q1, q2⟩; first | exact q1 hc6 | omega)).2 d_Mod_goesOn_32
  · refine J_aload_n C 0 d_Mod_goesOn_9 rfl rfl ?_
    refine J_get C f_Mod_52 (by decide) (e_76 _) rfl d_Mod_goesOn_10 ?_
    refine J_iload_n C 1 d_Mod_goesOn_13 rfl rfl ?_
    refine K_ial C a_80 (j := j) rfl (by omega) d_Mod_goesOn_14 ?_
    refine J_val (y := nI pl) (hpl hc6).1 ?_
    have hpl2 := hpl hc6
    refine J_iload_n C 3 d_Mod_goesOn_15 rfl rfl ?_
    refine J_iaddN C d_Mod_goesOn_16 ?_
    refine J_iload_n C 2 d_Mod_goesOn_17 rfl rfl ?_
    refine J_isubN C d_Mod_goesOn_18 (by omega) ?_
    refine J_bipush C d_Mod_goesOn_19 (v := nI 60) rfl ?_
    refine J_icmpN_le C 33 d_Mod_goesOn_21 (by decide) (by omega) (by omega) (fun hc21 => ?_) (fun hc21 => ?_)
    · refine J_iload_n C 2 d_Mod_goesOn_33 rfl rfl ?_
      refine J_istore C d_Mod_goesOn_34 (by decide) rfl ?_
      obtain ⟨hr1, hM9⟩ := h1 ⟨hc6, by omega⟩
      have lp : ∀ (fu : Nat) (i : Nat) (q : Nat) (X : Mem), en - i < fu → (9 ≤ i) → (i ≤ en) → (q + (en - i) ≤ 60) → (X 80 j = nI q) → (goL j (en - i) i q X = M9) → J D dA A (fun _ _ => True) ad0 90 k_Mod_goesOn.2.2.1 p l e (zR 0 0 0) s m args below meth c (FQ D dA A ad0 below args s (some (.int r9)) (M9)) 36 [some (.ref 76), some (.int (nI j)), some (.int (nI 9)), some (.int (nI en)), some (.int (nI i))] [] (E X) 90 0 0 := by
        intro fu
        induction fu with
        | zero => intro i q X hfu; exact absurd hfu (Nat.not_lt_zero _)
        | succ fu ih =>
          intro i q X hfu hi hi2 hq hX hF
          refine J_iload C d_Mod_goesOn_36 rfl ?_
          refine J_iload_n C 3 d_Mod_goesOn_38 rfl rfl ?_
          refine J_icmpN_ge C 85 d_Mod_goesOn_39 (by decide) (by omega) (by omega) (fun hc39 => ?_) (fun hc39 => ?_)
          · refine J_iconst C d_Mod_goesOn_85 (v := nI 1) rfl ?_
            exact F_zret C hr (Or.inr rfl) hr1.symm (by rw [show en - i = 0 by omega] at hF; exact hF) d_Mod_goesOn_86
          · refine J_aload_n C 0 d_Mod_goesOn_42 rfl rfl ?_
            refine J_get C f_Mod_55 (by decide) (e_76 _) rfl d_Mod_goesOn_43 ?_
            refine J_bipush C d_Mod_goesOn_46 (v := nI 60) rfl ?_
            refine J_iload_n C 1 d_Mod_goesOn_48 rfl rfl ?_
            refine J_imulN C d_Mod_goesOn_49 ?_
            refine J_aload_n C 0 d_Mod_goesOn_50 rfl rfl ?_
            refine J_get C f_Mod_52 (by decide) (e_76 _) rfl d_Mod_goesOn_51 ?_
            refine J_iload_n C 1 d_Mod_goesOn_54 rfl rfl ?_
            refine K_ial C a_80 (j := j) rfl (by omega) d_Mod_goesOn_55 ?_
            refine J_val (y := nI q) hX ?_
            refine J_iaddN C d_Mod_goesOn_56 ?_
            refine J_aload_n C 0 d_Mod_goesOn_57 rfl rfl ?_
            refine J_get C f_Mod_27 (by decide) (e_76 _) rfl d_Mod_goesOn_58 ?_
            refine J_iload C d_Mod_goesOn_61 rfl ?_
            refine K_ial C a_78 (j := i) rfl (by omega) d_Mod_goesOn_63 ?_
            refine K_ias C a_81 (j := (60 * j) + q) rfl (by omega) d_Mod_goesOn_64 (kk := ?_)
            refine J_aload_n C 0 d_Mod_goesOn_65 rfl rfl ?_
            refine J_get C f_Mod_52 (by decide) (e_76 _) rfl d_Mod_goesOn_66 ?_
            refine J_iload_n C 1 d_Mod_goesOn_69 rfl rfl ?_
            refine J_aload_n C 0 d_Mod_goesOn_70 rfl rfl ?_
            refine J_get C f_Mod_52 (by decide) (e_76 _) rfl d_Mod_goesOn_71 ?_
            refine J_iload_n C 1 d_Mod_goesOn_74 rfl rfl ?_
            refine K_ial C a_80 (j := j) rfl (by omega) d_Mod_goesOn_75 ?_
            refine J_val (y := nI q) (by rw [mu_p _ _ _ (by decide)]; exact hX) ?_
            refine J_iconst C d_Mod_goesOn_76 (v := nI 1) rfl ?_
            refine J_iaddN C d_Mod_goesOn_77 ?_
            refine K_ias C a_80 (j := j) rfl (by omega) d_Mod_goesOn_78 (kk := ?_)
            refine J_iinc C d_Mod_goesOn_79 rfl (v := nI (i + 1)) (nI_1 _) (by decide) rfl ?_
            refine J_goto C 36 d_Mod_goesOn_82 (by decide) ?_
            exact ih (i + 1) (q + 1) _ (by omega) (by omega) (by omega) (by omega) (mu_same _ _ _ _) (by rw [show en - i = (en - (i + 1)) + 1 by omega] at hF; exact hF)
      exact lp (en - 9 + 1) 9 pl M (by omega) (by omega) h9 (by omega) (hpl hc6).1 hM9
    · refine J_aload_n C 0 d_Mod_goesOn_24 rfl rfl ?_
      refine J_get C f_Mod_48 (by decide) (e_76 _) rfl d_Mod_goesOn_25 ?_
      refine J_iload_n C 1 d_Mod_goesOn_28 rfl rfl ?_
      refine J_iconst C d_Mod_goesOn_29 (v := nI 0) rfl ?_
      refine K_bas C a_79 (j := j) rfl (by omega) (Or.inl rfl) d_Mod_goesOn_30 (kk := ?_)
      refine J_iconst C d_Mod_goesOn_31 (v := nI 0) rfl ?_
      exact F_zret C hr (Or.inl rfl) (h0 (by rintro ⟨q1, q2⟩; first | exact q1 hc6 | omega)).1.symm (h0 (by rintro ⟨q1, q2⟩; first | exact q1 hc6 | omega)).2 d_Mod_goesOn_32

/-- the streams of the reference -/
def XSt (X : Mem) : Prop := ∀ j, j < 4 → (X 79 j = 0 ∨ X 79 j = 1) ∧ (¬ X 79 j = 0 → X 80 j = nI (pX X j) ∧ pX X j ≤ 60 ∧ ∀ k, k < pX X j → ∃ v, v < 256 ∧ X 81 (60 * j + k) = nI v)
theorem tX_nI {X : Mem} {i : Nat} (h : ∃ v, v < 256 ∧ X 81 i = nI v) : X 81 i = nI (tX X i) ∧ tX X i < 256 := by
  obtain ⟨v, h1, h2⟩ := h
  have : tX X i = v := by unfold tX; rw [h2, nI_clamp (by omega)]
  rw [this]; exact ⟨h2, h1⟩
theorem goL_bytes {X : Mem} {g : Nat → Nat} {j en pl : Nat} (hb : ∀ k, k < pl → ∃ v, v < 256 ∧ X 81 (60 * j + k) = nI v) (h9 : 9 ≤ en) (hg : ∀ i, i < en → X 78 i = nI (g i)) (hg2 : ∀ i, i < en → g i < 256) : ∀ i, 60 * j ≤ i → i < 60 * j + (pl + (en - 9)) → ∃ v, v < 256 ∧ goL j (en - 9) 9 pl X 81 i = nI v := by
  intro i h1 h2
  rw [goL_81]
  split
  · exact ⟨_, hg2 _ (by omega), hg _ (by omega)⟩
  · obtain ⟨k, rfl⟩ : ∃ k, i = 60 * j + k := ⟨i - 60 * j, by omega⟩
    exact hb k (by omega)
def fSg3 (X : Mem) (en j n : Nat) (sq : Int32) : Mem := if n = en - 9 then (if n = 0 then mu X 79 j (nI 0) else if cntF (uX X) 24 < (n + 19) / 20 then mu X 79 j (if sq = 0 then nI 0 else if X 79 j = 0 then nI 0 else nI 1) else mu (fKeep X 78 9 n) 79 j (nI 0)) else mu X 79 j (nI 0)
def rSg3 (X : Mem) (en n : Nat) (sq : Int32) : Int32 := if n = en - 9 then (if n = 0 then 1 else if cntF (uX X) 24 < (n + 19) / 20 then (if sq = 0 then 1 else 0) else 1) else 1
def fSg2 (Y : Mem) (j n al : Nat) (had sq : Int32) : Mem := if n = 0 then Y else if n = al then (if cntF (uX Y) 24 < (n + 19) / 20 then mu (mu Y 79 j sq) 80 j had else fKeep Y 81 (60 * j) n) else Y
def rSg2 (Y : Mem) (n al : Nat) (sq : Int32) : Int32 := if n = 0 then 1 else if n = al then (if cntF (uX Y) 24 < (n + 19) / 20 then (if sq = 0 then 1 else 0) else 1) else 1
def fSeg (X : Mem) (g : Nat → Nat) (en j kd : Nat) (sq : Int32) (M1 M0 M2 : Mem) : Mem := if en = 8 then X else if 3 < j then X else if kd = 3 then fSg3 X en j (PlaM g 9 en) sq else if kd = 1 then M1 else if kd = 2 then M2 else M0
def rSeg (X : Mem) (g : Nat → Nat) (en j kd : Nat) (sq : Int32) (r2 : Int32) : Int32 := if en = 8 then 1 else if 3 < j then 1 else if kd = 3 then rSg3 X en (PlaM g 9 en) sq else if kd = 1 then 1 else if kd = 2 then r2 else 1
def segM1 (X : Mem) (en j : Nat) : Mem := goL j (en - 9) 9 0 (mu (mu X 79 j (nI 1)) 80 j (nI 0))
def segG (X : Mem) (en j : Nat) : Mem := goL j (en - 9) 9 (pX X j) X
def segN (X : Mem) (en j : Nat) : Nat := PlaM (tX (segG X en j)) (60 * j) (60 * j + (pX X j + (en - 9)))

set_option maxHeartbeats 4000000 in
set_option maxRecDepth 100000 in
theorem fm_segmentIn (l : Launch) (D : va_G) (dA : Nat → ClassId) (M MG M2 : Mem) (en j kd : Nat) (sq rG r2 : Int32) (g : Nat → Nat) (hX : XS M) (hT : XSt M) (ho : M 76 3 = 0) (h8 : 8 ≤ en) (hen : en ≤ 67) (hg : ∀ i, i < en → M 78 i = nI (g i)) (hg2 : ∀ i, i < en → g i < 256) (hj : g 8 % 64 = j) (hkd : g 8 / 64 = kd) (hsq : sq = 0 ∨ sq = 1) (hG0 : ¬ cGo M j en (pX M j) → rG = 0 ∧ mu M 79 j (nI 0) = MG) (hG1 : cGo M j en (pX M j) → rG = 1 ∧ goL j (en - 9) 9 (pX M j) M = MG) (hr20 : ¬ cGo M j en (pX M j) → r2 = 1 ∧ mu M 79 j (nI 0) = M2) (hr21 : cGo M j en (pX M j) → r2 = rSg2 (mu (segG M en j) 79 j (nI 0)) (segN M en j) (pX M j + (en - 9)) sq ∧ fSg2 (mu (segG M en j) 79 j (nI 0)) j (segN M en j) (pX M j + (en - 9)) (M 80 j) sq = M2) : CF l D dA k_Mod_segmentIn 3 [.ref 76, .int (nI 8), .int (nI en), .int sq] M (some (.int (rSeg M g en j kd sq r2))) (fSeg M g en j kd sq (segM1 M en j) MG M2) := by
  refine CF.of (by decide +kernel) (Nat.le_of_ble_eq_true rfl) (by intro v hv; simp only [List.mem_cons, List.not_mem_nil, or_false] at hv; rcases hv with rfl | rfl | rfl | rfl <;> rfl) ?_
  intro A ad0 p e s m args below meth c C hr
  refine J_iload_n C 1 d_Mod_segmentIn_0 rfl rfl ?_
  refine J_iload_n C 2 d_Mod_segmentIn_1 rfl rfl ?_
  refine J_icmpN_eq C 18 d_Mod_segmentIn_2 (by decide) (by omega) (by omega) (fun hc2 => ?_) (fun hc2 => ?_)
  · refine J_iconst C d_Mod_segmentIn_18 (v := nI 1) rfl ?_
    exact F_zret C hr (Or.inr rfl) (by unfold rSeg; (try unfold rSg3); (try unfold rSg2); (repeat' split) <;> first | (exfalso; omega) | contradiction | rfl) (by unfold fSeg; (try unfold fSg3); (try unfold fSg2); (repeat' split) <;> first | (exfalso; omega) | contradiction | rfl) d_Mod_segmentIn_19
  · refine J_aload_n C 0 d_Mod_segmentIn_5 rfl rfl ?_
    refine J_get C f_Mod_27 (by decide) (e_76 _) rfl d_Mod_segmentIn_6 ?_
    refine J_iload_n C 1 d_Mod_segmentIn_9 rfl rfl ?_
    refine K_ial C a_78 (j := 8) rfl (by omega) d_Mod_segmentIn_10 ?_
    refine J_val (y := nI (g 8)) (hg 8 (by omega)) ?_
    refine J_bipush C d_Mod_segmentIn_11 (v := nI 63) rfl ?_
    refine J_iand C d_Mod_segmentIn_13 ?_
    refine J_val (y := nI j) (by rw [← hj]; exact nI_and 6 64 (by have := hg2 8 (by omega); omega) (by decide) rfl) ?_
    refine J_iconst C d_Mod_segmentIn_14 (v := nI 3) rfl ?_
    refine J_icmpN_le C 20 d_Mod_segmentIn_15 (by decide) (by omega) (by omega) (fun hc15 => ?_) (fun hc15 => ?_)
    · refine J_aload_n C 0 d_Mod_segmentIn_20 rfl rfl ?_
      refine J_get C f_Mod_27 (by decide) (e_76 _) rfl d_Mod_segmentIn_21 ?_
      refine J_iload_n C 1 d_Mod_segmentIn_24 rfl rfl ?_
      refine K_ial C a_78 (j := 8) rfl (by omega) d_Mod_segmentIn_25 ?_
      refine J_val (y := nI (g 8)) (hg 8 (by omega)) ?_
      refine J_bipush C d_Mod_segmentIn_26 (v := nI 63) rfl ?_
      refine J_iand C d_Mod_segmentIn_28 ?_
      refine J_val (y := nI j) (by rw [← hj]; exact nI_and 6 64 (by have := hg2 8 (by omega); omega) (by decide) rfl) ?_
      refine J_istore C d_Mod_segmentIn_29 (by decide) rfl ?_
      refine J_aload_n C 0 d_Mod_segmentIn_31 rfl rfl ?_
      refine J_get C f_Mod_27 (by decide) (e_76 _) rfl d_Mod_segmentIn_32 ?_
      refine J_iload_n C 1 d_Mod_segmentIn_35 rfl rfl ?_
      refine K_ial C a_78 (j := 8) rfl (by omega) d_Mod_segmentIn_36 ?_
      refine J_val (y := nI (g 8)) (hg 8 (by omega)) ?_
      refine J_bipush C d_Mod_segmentIn_37 (v := nI 6) rfl ?_
      refine J_ishr C d_Mod_segmentIn_39 ?_
      refine J_val (y := nI kd) (by rw [← hkd]; exact nI_shr 6 64 (by have := hg2 8 (by omega); omega) (by decide) rfl) ?_
      refine J_istore C d_Mod_segmentIn_40 (by decide) rfl ?_
      refine J_aload_n C 0 d_Mod_segmentIn_42 rfl rfl ?_
      refine J_get C f_Mod_48 (by decide) (e_76 _) rfl d_Mod_segmentIn_43 ?_
      refine J_iload C d_Mod_segmentIn_46 rfl ?_
      have hj4 : j < 4 := by omega
      have hg8 : g 8 < 256 := hg2 8 (by omega)
      refine K_bal C a_79 (j := j) rfl (by omega) d_Mod_segmentIn_48 ?_
      refine J_istore C d_Mod_segmentIn_49 (by decide) rfl ?_
      refine J_aload_n C 0 d_Mod_segmentIn_51 rfl rfl ?_
      refine J_get C f_Mod_52 (by decide) (e_76 _) rfl d_Mod_segmentIn_52 ?_
      refine J_iload C d_Mod_segmentIn_55 rfl ?_
      refine K_ial C a_80 (j := j) rfl (by omega) d_Mod_segmentIn_57 ?_
      refine J_istore C d_Mod_segmentIn_58 (by decide) rfl ?_
      refine J_iload C d_Mod_segmentIn_60 rfl ?_
      refine J_iconst C d_Mod_segmentIn_62 (v := nI 3) rfl ?_
      refine J_icmpN_ne C 160 d_Mod_segmentIn_63 (by decide) (by omega) (by omega) (fun hc63 => ?_) (fun hc63 => ?_)
      · refine J_iload C d_Mod_segmentIn_160 rfl ?_
        refine J_iconst C d_Mod_segmentIn_162 (v := nI 1) rfl ?_
        refine J_icmpN_ne C 182 d_Mod_segmentIn_163 (by decide) (by omega) (by omega) (fun hc163 => ?_) (fun hc163 => ?_)
        · refine J_aload_n C 0 d_Mod_segmentIn_182 rfl rfl ?_
          refine J_iload C d_Mod_segmentIn_183 rfl ?_
          refine J_iload_n C 1 d_Mod_segmentIn_185 rfl rfl ?_
          refine J_iconst C d_Mod_segmentIn_186 (v := nI 1) rfl ?_
          refine J_iaddN C d_Mod_segmentIn_187 ?_
          refine J_val (y := nI 9) rfl ?_
          refine J_iload_n C 2 d_Mod_segmentIn_188 rfl rfl ?_
          refine F_callV C (as := [.int (nI j), .int (nI 9), .int (nI en)]) (st := []) (fm_goesOn l D dA M MG j en (pX M j) rG (by omega) (by omega) (by omega) (fun q => ⟨((hT j (by omega)).2 q).1, ((hT j (by omega)).2 q).2.1⟩) hG0 hG1) l_Mod_121 v_Mod_goesOn (by decide) (e_76 _) rfl (by decide) (by decide) (Nat.le_of_ble_eq_true rfl) d_Mod_segmentIn_189 (kk := ?_)
          refine J_if_eq C 201 d_Mod_segmentIn_192 (by decide) (fun hc192 => ?_) (fun hc192 => ?_)
          · refine J_iconst C d_Mod_segmentIn_201 (v := nI 1) rfl ?_
            exact F_zret C hr (Or.inr rfl) (by have hng : ¬ cGo M j en (pX M j) := fun q => absurd ((hG1 q).1.symm.trans hc192) (by decide); have e20 := hr20 hng; unfold rSeg; (repeat' split) <;> first | (exfalso; omega) | contradiction | rfl | exact e20.1.symm) (by have hng : ¬ cGo M j en (pX M j) := fun q => absurd ((hG1 q).1.symm.trans hc192) (by decide); have e20 := hr20 hng; have eMG := hG0 hng; unfold fSeg; (repeat' split) <;> first | (exfalso; omega) | contradiction | rfl | exact eMG.2.symm.trans e20.2) d_Mod_segmentIn_202
          · refine J_iload C d_Mod_segmentIn_195 rfl ?_
            refine J_iconst C d_Mod_segmentIn_197 (v := nI 2) rfl ?_
            refine J_icmpN_eq C 203 d_Mod_segmentIn_198 (by decide) (by omega) (by omega) (fun hc198 => ?_) (fun hc198 => ?_)
            · have hgo : cGo M j en (pX M j) := by
                rcases Classical.em (cGo M j en (pX M j)) with q | q
                · exact q
                · exact absurd (hG0 q).1 hc192
              have hplT := (hT j hj4).2 hgo.1
              have hMG : MG = segG M en j := (hG1 hgo).2.symm
              have h60 := hgo.2
              subst hMG
              obtain ⟨hr2, hM2⟩ := hr21 hgo
              subst hr2
              subst hM2
              have hby := goL_bytes (X := M) hplT.2.2 (by omega) hg hg2
              obtain ⟨c0, ln, em, bk, hS⟩ := hX
              have hSG : XSv c0 ln em bk (segG M en j) := hS.same (by rw [segG, goL_p _ _ _ _ _ (by decide) (by decide)]) (by rw [segG, goL_p _ _ _ _ _ (by decide) (by decide)]; exact hS.2.2.1) (fun i _ => by rw [segG, goL_p _ _ _ _ _ (by decide) (by decide)]) (fun i _ => by rw [segG, goL_p _ _ _ _ _ (by decide) (by decide)]) (fun i _ => by rw [segG, goL_p _ _ _ _ _ (by decide) (by decide)]) (fun i _ => by rw [segG, goL_p _ _ _ _ _ (by decide) (by decide)])
              have hSG2 : XSv c0 ln em bk (mu (segG M en j) 79 j (nI 0)) := hSG
              refine J_aload_n C 0 d_Mod_segmentIn_203 rfl rfl ?_
              refine J_get C f_Mod_52 (by decide) (e_76 _) rfl d_Mod_segmentIn_204 ?_
              refine J_iload C d_Mod_segmentIn_207 rfl ?_
              refine K_ial C a_80 (j := j) rfl (by omega) d_Mod_segmentIn_209 ?_
              refine J_val (y := nI (pX M j + (en - 9))) (by unfold segG; exact goL_80 j _ _ _ _ hplT.1) ?_
              refine J_istore C d_Mod_segmentIn_210 (by decide) rfl ?_
              refine J_aload_n C 0 d_Mod_segmentIn_212 rfl rfl ?_
              refine J_get C f_Mod_55 (by decide) (e_76 _) rfl d_Mod_segmentIn_213 ?_
              refine J_bipush C d_Mod_segmentIn_216 (v := nI 60) rfl ?_
              refine J_iload C d_Mod_segmentIn_218 rfl ?_
              refine J_imulN C d_Mod_segmentIn_220 ?_
              refine J_bipush C d_Mod_segmentIn_221 (v := nI 60) rfl ?_
              refine J_iload C d_Mod_segmentIn_223 rfl ?_
              refine J_imulN C d_Mod_segmentIn_225 ?_
              refine J_iload C d_Mod_segmentIn_226 rfl ?_
              refine J_iaddN C d_Mod_segmentIn_228 ?_
              refine P_callS C (as := [.ref 81, .int (nI (60 * j)), .int (nI ((60 * j) + (pX M j + (en - 9))))]) (st := []) (pm_packetAt81 l D dA (segG M en j) (60 * j) (60 * j + (pX M j + (en - 9))) (by omega) (by omega) (tX (segG M en j)) (fun i h1 h2 => (tX_nI (hby i h1 h2)).1) (fun i h1 h2 => (tX_nI (hby i h1 h2)).2)) l_Mod_105 s_Mod_packetAt rfl (by decide) (by decide) (by decide) (Nat.le_of_ble_eq_true rfl) d_Mod_segmentIn_229 (kk := ?_)
              refine J_val (y := nI (segN M en j)) rfl ?_
              have hge : segN M en j = 0 ∨ (7 ≤ segN M en j ∧ segN M en j ≤ 60 ∧ 60 * j + segN M en j ≤ 60 * j + (pX M j + (en - 9))) := PlaM_ge (tX (segG M en j)) (60 * j) (60 * j + (pX M j + (en - 9)))
              refine J_istore C d_Mod_segmentIn_232 (by decide) rfl ?_
              refine J_aload_n C 0 d_Mod_segmentIn_234 rfl rfl ?_
              refine J_get C f_Mod_48 (by decide) (e_76 _) rfl d_Mod_segmentIn_235 ?_
              refine J_iload C d_Mod_segmentIn_238 rfl ?_
              refine J_iconst C d_Mod_segmentIn_240 (v := nI 0) rfl ?_
              refine K_bas C a_79 (j := j) rfl (by omega) (Or.inl rfl) d_Mod_segmentIn_241 (kk := ?_)
              refine J_iload C d_Mod_segmentIn_242 rfl ?_
              refine J_ifN_eq C 254 d_Mod_segmentIn_244 (by decide) (by omega) (fun hc244 => ?_) (fun hc244 => ?_)
              · refine J_iconst C d_Mod_segmentIn_254 (v := nI 1) rfl ?_
                exact F_zret C hr (Or.inr rfl) (by unfold rSeg; (try unfold rSg3); (try unfold rSg2); (repeat' split) <;> first | (exfalso; omega) | contradiction | rfl) (by unfold fSeg; (try unfold fSg3); (try unfold fSg2); (repeat' split) <;> first | (exfalso; omega) | contradiction | rfl) d_Mod_segmentIn_255
              · refine J_iload C d_Mod_segmentIn_247 rfl ?_
                refine J_iload C d_Mod_segmentIn_249 rfl ?_
                refine J_icmpN_eq C 256 d_Mod_segmentIn_251 (by decide) (by omega) (by omega) (fun hc251 => ?_) (fun hc251 => ?_)
                · refine J_iload C d_Mod_segmentIn_256 rfl ?_
                  refine P_callS C (as := [.int (nI (segN M en j))]) (st := []) (pm_blocksOf l D dA (mu (segG M en j) 79 j (nI 0)) (segN M en j) (by omega)) l_Mod_109 s_Mod_blocksOf rfl (by decide) (by decide) (by decide) (Nat.le_of_ble_eq_true rfl) d_Mod_segmentIn_258 (kk := ?_)
                  refine J_aload_n C 0 d_Mod_segmentIn_261 rfl rfl ?_
                  refine P_callV C (as := []) (st := [.int (nI (((segN M en j) + 19) / 20))]) (pm_freeBlocks l D dA (mu (segG M en j) 79 j (nI 0)) c0 (uX (mu (segG M en j) 79 j (nI 0))) (by rw [mu_p _ _ _ (by decide)]; exact hSG.1) (by have := hS.2.1; omega) (uX_le (mu (segG M en j) 79 j (nI 0))) (uX_hu1 (cX_nI (by rw [mu_p _ _ _ (by decide)]; exact hSG.1) hS.2.1)) (uX_hu0 (cX_nI (by rw [mu_p _ _ _ (by decide)]; exact hSG.1) hS.2.1))) l_Mod_113 v_Mod_freeBlocks (by decide) (e_76 _) rfl (by decide) (by decide) (by decide) (Nat.le_of_ble_eq_true rfl) d_Mod_segmentIn_262 (kk := ?_)
                  have bfr := cntF_le (uX_le (mu (segG M en j) 79 j (nI 0))) 24
                  refine J_icmpN_le C 295 d_Mod_segmentIn_265 (by decide) (by omega) (by omega) (fun hc265 => ?_) (fun hc265 => ?_)
                  · refine J_aload_n C 0 d_Mod_segmentIn_295 rfl rfl ?_
                    refine J_aload_n C 0 d_Mod_segmentIn_296 rfl rfl ?_
                    refine J_get C f_Mod_55 (by decide) (e_76 _) rfl d_Mod_segmentIn_297 ?_
                    refine J_bipush C d_Mod_segmentIn_300 (v := nI 60) rfl ?_
                    refine J_iload C d_Mod_segmentIn_302 rfl ?_
                    refine J_imulN C d_Mod_segmentIn_304 ?_
                    refine J_iload C d_Mod_segmentIn_305 rfl ?_
                    refine F_callV C (as := [.ref 81, .int (nI (60 * j)), .int (nI (segN M en j))]) (st := []) (fm_keep81 l D dA (mu (segG M en j) 79 j (nI 0)) (60 * j) (segN M en j) c0 (uX (mu (segG M en j) 79 j (nI 0))) (by rw [mu_p _ _ _ (by decide)]; exact hSG.1) (by have := hSG2.room; omega) (by rw [mu_p _ _ _ (by decide), segG, goL_p _ _ _ _ _ (by decide) (by decide)]; exact ho) (by omega) (by omega) (by omega) rfl (by omega)) l_Mod_117 v_Mod_keepPacket (by decide) (e_76 _) rfl (by decide) (by decide) (Nat.le_of_ble_eq_true rfl) d_Mod_segmentIn_307 (kk := ?_)
                    refine J_iconst C d_Mod_segmentIn_310 (v := nI 1) rfl ?_
                    exact F_zret C hr (Or.inr rfl) (by unfold rSeg; (try unfold rSg3); (try unfold rSg2); (repeat' split) <;> first | (exfalso; omega) | contradiction | rfl) (by unfold fSeg; (try unfold fSg3); (try unfold fSg2); (repeat' split) <;> first | (exfalso; omega) | contradiction | rfl) d_Mod_segmentIn_311
                  · refine J_aload_n C 0 d_Mod_segmentIn_268 rfl rfl ?_
                    refine J_get C f_Mod_48 (by decide) (e_76 _) rfl d_Mod_segmentIn_269 ?_
                    refine J_iload C d_Mod_segmentIn_272 rfl ?_
                    refine J_iload_n C 3 d_Mod_segmentIn_274 rfl rfl ?_
                    refine K_bas C a_79 (j := j) rfl (by omega) hsq d_Mod_segmentIn_275 (kk := ?_)
                    refine J_aload_n C 0 d_Mod_segmentIn_276 rfl rfl ?_
                    refine J_get C f_Mod_52 (by decide) (e_76 _) rfl d_Mod_segmentIn_277 ?_
                    refine J_iload C d_Mod_segmentIn_280 rfl ?_
                    refine J_iload C d_Mod_segmentIn_282 rfl ?_
                    refine K_ias C a_80 (j := j) rfl (by omega) d_Mod_segmentIn_284 (kk := ?_)
                    refine J_iload_n C 3 d_Mod_segmentIn_285 rfl rfl ?_
                    refine J_if_ne C 293 d_Mod_segmentIn_286 (by decide) (fun hc286 => ?_) (fun hc286 => ?_)
                    · refine J_iconst C d_Mod_segmentIn_293 (v := nI 0) rfl ?_
                      exact F_zret C hr (Or.inl rfl) (by unfold rSeg; (try unfold rSg3); (try unfold rSg2); (repeat' split) <;> first | (exfalso; omega) | contradiction | rfl) (by unfold fSeg; (try unfold fSg3); (try unfold fSg2); (repeat' split) <;> first | (exfalso; omega) | contradiction | rfl) d_Mod_segmentIn_294
                    · refine J_iconst C d_Mod_segmentIn_289 (v := nI 1) rfl ?_
                      refine J_goto C 294 d_Mod_segmentIn_290 (by decide) ?_
                      exact F_zret C hr (Or.inr rfl) (by unfold rSeg; (try unfold rSg3); (try unfold rSg2); (repeat' split) <;> first | (exfalso; omega) | contradiction | rfl) (by unfold fSeg; (try unfold fSg3); (try unfold fSg2); (repeat' split) <;> first | (exfalso; omega) | contradiction | rfl) d_Mod_segmentIn_294
                · refine J_iconst C d_Mod_segmentIn_254 (v := nI 1) rfl ?_
                  exact F_zret C hr (Or.inr rfl) (by unfold rSeg; (try unfold rSg3); (try unfold rSg2); (repeat' split) <;> first | (exfalso; omega) | contradiction | rfl) (by unfold fSeg; (try unfold fSg3); (try unfold fSg2); (repeat' split) <;> first | (exfalso; omega) | contradiction | rfl) d_Mod_segmentIn_255
            · refine J_iconst C d_Mod_segmentIn_201 (v := nI 1) rfl ?_
              exact F_zret C hr (Or.inr rfl) (by unfold rSeg; (try unfold rSg3); (try unfold rSg2); (repeat' split) <;> first | (exfalso; omega) | contradiction | rfl) (by unfold fSeg; (try unfold fSg3); (try unfold fSg2); (repeat' split) <;> first | (exfalso; omega) | contradiction | rfl) d_Mod_segmentIn_202
        · refine J_aload_n C 0 d_Mod_segmentIn_166 rfl rfl ?_
          refine J_get C f_Mod_48 (by decide) (e_76 _) rfl d_Mod_segmentIn_167 ?_
          refine J_iload C d_Mod_segmentIn_170 rfl ?_
          refine J_iconst C d_Mod_segmentIn_172 (v := nI 1) rfl ?_
          refine K_bas C a_79 (j := j) rfl (by omega) (Or.inr rfl) d_Mod_segmentIn_173 (kk := ?_)
          refine J_aload_n C 0 d_Mod_segmentIn_174 rfl rfl ?_
          refine J_get C f_Mod_52 (by decide) (e_76 _) rfl d_Mod_segmentIn_175 ?_
          refine J_iload C d_Mod_segmentIn_178 rfl ?_
          refine J_iconst C d_Mod_segmentIn_180 (v := nI 0) rfl ?_
          refine K_ias C a_80 (j := j) rfl (by omega) d_Mod_segmentIn_181 (kk := ?_)
          refine J_aload_n C 0 d_Mod_segmentIn_182 rfl rfl ?_
          refine J_iload C d_Mod_segmentIn_183 rfl ?_
          refine J_iload_n C 1 d_Mod_segmentIn_185 rfl rfl ?_
          refine J_iconst C d_Mod_segmentIn_186 (v := nI 1) rfl ?_
          refine J_iaddN C d_Mod_segmentIn_187 ?_
          refine J_val (y := nI 9) rfl ?_
          refine J_iload_n C 2 d_Mod_segmentIn_188 rfl rfl ?_
          refine F_callV C (as := [.int (nI j), .int (nI 9), .int (nI en)]) (st := []) (fm_goesOn l D dA (mu (mu M 79 j (nI 1)) 80 j (nI 0)) (segM1 M en j) j en 0 (nI 1) (by omega) (by omega) (by omega) (fun _ => ⟨mu_same _ _ _ _, by omega⟩) (fun q => absurd ⟨by rw [mu_p _ _ _ (by decide), mu_same]; decide, by omega⟩ q) (fun _ => ⟨rfl, rfl⟩)) l_Mod_121 v_Mod_goesOn (by decide) (e_76 _) rfl (by decide) (by decide) (Nat.le_of_ble_eq_true rfl) d_Mod_segmentIn_189 (kk := ?_)
          refine J_ifN_eq C 201 d_Mod_segmentIn_192 (by decide) (by omega) (fun hc192 => absurd hc192 (by decide)) (fun hc192 => ?_)
          refine J_iload C d_Mod_segmentIn_195 rfl ?_
          refine J_iconst C d_Mod_segmentIn_197 (v := nI 2) rfl ?_
          refine J_icmpN_eq C 203 d_Mod_segmentIn_198 (by decide) (by omega) (by omega) (fun hc198 => ?_) (fun hc198 => ?_)
          · exfalso; omega
          · refine J_iconst C d_Mod_segmentIn_201 (v := nI 1) rfl ?_
            exact F_zret C hr (Or.inr rfl) (by unfold rSeg; (try unfold rSg3); (try unfold rSg2); (repeat' split) <;> first | (exfalso; omega) | contradiction | rfl) (by unfold fSeg; (try unfold fSg3); (try unfold fSg2); (repeat' split) <;> first | (exfalso; omega) | contradiction | rfl) d_Mod_segmentIn_202
      · refine J_aload_n C 0 d_Mod_segmentIn_66 rfl rfl ?_
        refine J_get C f_Mod_27 (by decide) (e_76 _) rfl d_Mod_segmentIn_67 ?_
        refine J_iload_n C 1 d_Mod_segmentIn_70 rfl rfl ?_
        refine J_iconst C d_Mod_segmentIn_71 (v := nI 1) rfl ?_
        refine J_iaddN C d_Mod_segmentIn_72 ?_
        refine J_val (y := nI 9) rfl ?_
        refine J_iload_n C 2 d_Mod_segmentIn_73 rfl rfl ?_
        refine P_callS C (as := [.ref 78, .int (nI 9), .int (nI en)]) (st := []) (pm_packetAt78 l D dA M 9 en (by omega) (by omega) g (fun i _ hi => hg i hi) (fun i _ hi => hg2 i hi)) l_Mod_105 s_Mod_packetAt rfl (by decide) (by decide) (by decide) (Nat.le_of_ble_eq_true rfl) d_Mod_segmentIn_74 (kk := ?_)
        have hge := PlaM_ge g 9 en
        refine J_istore C d_Mod_segmentIn_77 (by decide) rfl ?_
        refine J_iload C d_Mod_segmentIn_79 rfl ?_
        refine J_iload_n C 2 d_Mod_segmentIn_81 rfl rfl ?_
        refine J_iload_n C 1 d_Mod_segmentIn_82 rfl rfl ?_
        refine J_isubN C d_Mod_segmentIn_83 (by omega) ?_
        refine J_iconst C d_Mod_segmentIn_84 (v := nI 1) rfl ?_
        refine J_isubN C d_Mod_segmentIn_85 (by omega) ?_
        refine J_icmpN_ne C 150 d_Mod_segmentIn_86 (by decide) (by omega) (by omega) (fun hc86 => ?_) (fun hc86 => ?_)
        · refine J_aload_n C 0 d_Mod_segmentIn_150 rfl rfl ?_
          refine J_get C f_Mod_48 (by decide) (e_76 _) rfl d_Mod_segmentIn_151 ?_
          refine J_iload C d_Mod_segmentIn_154 rfl ?_
          refine J_iconst C d_Mod_segmentIn_156 (v := nI 0) rfl ?_
          refine K_bas C a_79 (j := j) rfl (by omega) (Or.inl rfl) d_Mod_segmentIn_157 (kk := ?_)
          refine J_iconst C d_Mod_segmentIn_158 (v := nI 1) rfl ?_
          exact F_zret C hr (Or.inr rfl) (by unfold rSeg; (try unfold rSg3); (try unfold rSg2); (repeat' split) <;> first | (exfalso; omega) | contradiction | rfl) (by unfold fSeg; (try unfold fSg3); (try unfold fSg2); (repeat' split) <;> first | (exfalso; omega) | contradiction | rfl) d_Mod_segmentIn_159
        · refine J_iload C d_Mod_segmentIn_89 rfl ?_
          refine J_ifN_le C 150 d_Mod_segmentIn_91 (by decide) (by omega) (fun hc91 => ?_) (fun hc91 => ?_)
          · refine J_aload_n C 0 d_Mod_segmentIn_150 rfl rfl ?_
            refine J_get C f_Mod_48 (by decide) (e_76 _) rfl d_Mod_segmentIn_151 ?_
            refine J_iload C d_Mod_segmentIn_154 rfl ?_
            refine J_iconst C d_Mod_segmentIn_156 (v := nI 0) rfl ?_
            refine K_bas C a_79 (j := j) rfl (by omega) (Or.inl rfl) d_Mod_segmentIn_157 (kk := ?_)
            refine J_iconst C d_Mod_segmentIn_158 (v := nI 1) rfl ?_
            exact F_zret C hr (Or.inr rfl) (by unfold rSeg; (try unfold rSg3); (try unfold rSg2); (repeat' split) <;> first | (exfalso; omega) | contradiction | rfl) (by unfold fSeg; (try unfold fSg3); (try unfold fSg2); (repeat' split) <;> first | (exfalso; omega) | contradiction | rfl) d_Mod_segmentIn_159
          · obtain ⟨c0, ln, em, bk, hS⟩ := hX
            refine J_iload C d_Mod_segmentIn_94 rfl ?_
            refine P_callS C (as := [.int (nI (PlaM g 9 en))]) (st := []) (pm_blocksOf l D dA M (PlaM g 9 en) (by omega)) l_Mod_109 s_Mod_blocksOf rfl (by decide) (by decide) (by decide) (Nat.le_of_ble_eq_true rfl) d_Mod_segmentIn_96 (kk := ?_)
            refine J_aload_n C 0 d_Mod_segmentIn_99 rfl rfl ?_
            refine P_callV C (as := []) (st := [.int (nI (((PlaM g 9 en) + 19) / 20))]) (pm_freeBlocks l D dA M c0 (uX M) hS.1 (by have := hS.2.1; omega) (uX_le M) (uX_hu1 (cX_nI hS.1 hS.2.1)) (uX_hu0 (cX_nI hS.1 hS.2.1))) l_Mod_113 v_Mod_freeBlocks (by decide) (e_76 _) rfl (by decide) (by decide) (by decide) (Nat.le_of_ble_eq_true rfl) d_Mod_segmentIn_100 (kk := ?_)
            have bfr := cntF_le (uX_le M) 24
            refine J_icmpN_le C 137 d_Mod_segmentIn_103 (by decide) (by omega) (by omega) (fun hc103 => ?_) (fun hc103 => ?_)
            · refine J_aload_n C 0 d_Mod_segmentIn_137 rfl rfl ?_
              refine J_aload_n C 0 d_Mod_segmentIn_138 rfl rfl ?_
              refine J_get C f_Mod_27 (by decide) (e_76 _) rfl d_Mod_segmentIn_139 ?_
              refine J_iload_n C 1 d_Mod_segmentIn_142 rfl rfl ?_
              refine J_iconst C d_Mod_segmentIn_143 (v := nI 1) rfl ?_
              refine J_iaddN C d_Mod_segmentIn_144 ?_
              refine J_val (y := nI 9) rfl ?_
              refine J_iload C d_Mod_segmentIn_145 rfl ?_
              refine F_callV C (as := [.ref 78, .int (nI 9), .int (nI (PlaM g 9 en))]) (st := []) (fm_keep78 l D dA M 9 (PlaM g 9 en) c0 (uX M) hS.1 (by have := hS.room; omega) ho (by omega) (by omega) (by omega) rfl (by omega)) l_Mod_117 v_Mod_keepPacket (by decide) (e_76 _) rfl (by decide) (by decide) (Nat.le_of_ble_eq_true rfl) d_Mod_segmentIn_147 (kk := ?_)
              refine J_aload_n C 0 d_Mod_segmentIn_150 rfl rfl ?_
              refine J_get C f_Mod_48 (by decide) (e_76 _) rfl d_Mod_segmentIn_151 ?_
              refine J_iload C d_Mod_segmentIn_154 rfl ?_
              refine J_iconst C d_Mod_segmentIn_156 (v := nI 0) rfl ?_
              refine K_bas C a_79 (j := j) rfl (by omega) (Or.inl rfl) d_Mod_segmentIn_157 (kk := ?_)
              refine J_iconst C d_Mod_segmentIn_158 (v := nI 1) rfl ?_
              exact F_zret C hr (Or.inr rfl) (by unfold rSeg; (try unfold rSg3); (try unfold rSg2); (repeat' split) <;> first | (exfalso; omega) | contradiction | rfl) (by unfold fSeg; (try unfold fSg3); (try unfold fSg2); (repeat' split) <;> first | (exfalso; omega) | contradiction | rfl) d_Mod_segmentIn_159
            · refine J_aload_n C 0 d_Mod_segmentIn_106 rfl rfl ?_
              refine J_get C f_Mod_48 (by decide) (e_76 _) rfl d_Mod_segmentIn_107 ?_
              refine J_iload C d_Mod_segmentIn_110 rfl ?_
              refine J_iload_n C 3 d_Mod_segmentIn_112 rfl rfl ?_
              refine J_if_eq C 125 d_Mod_segmentIn_113 (by decide) (fun hc113 => ?_) (fun hc113 => ?_)
              · refine J_iconst C d_Mod_segmentIn_125 (v := nI 0) rfl ?_
                refine K_bas C a_79 (j := j) rfl (by omega) (by first | exact Or.inl rfl | exact Or.inr rfl) d_Mod_segmentIn_126 (kk := ?_)
                refine J_iload_n C 3 d_Mod_segmentIn_127 rfl rfl ?_
                refine J_if_ne C 135 d_Mod_segmentIn_128 (by decide) (fun hc128 => ?_) (fun hc128 => ?_)
                · refine J_iconst C d_Mod_segmentIn_135 (v := nI 0) rfl ?_
                  exact F_zret C hr (Or.inl rfl) (by unfold rSeg; (try unfold rSg3); (try unfold rSg2); (repeat' split) <;> first | (exfalso; omega) | contradiction | rfl) (by unfold fSeg; (try unfold fSg3); (try unfold fSg2); (repeat' split) <;> first | (exfalso; omega) | contradiction | rfl) d_Mod_segmentIn_136
                · refine J_iconst C d_Mod_segmentIn_131 (v := nI 1) rfl ?_
                  refine J_goto C 136 d_Mod_segmentIn_132 (by decide) ?_
                  exact F_zret C hr (Or.inr rfl) (by unfold rSeg; (try unfold rSg3); (try unfold rSg2); (repeat' split) <;> first | (exfalso; omega) | contradiction | rfl) (by unfold fSeg; (try unfold fSg3); (try unfold fSg2); (repeat' split) <;> first | (exfalso; omega) | contradiction | rfl) d_Mod_segmentIn_136
              · refine J_iload C d_Mod_segmentIn_116 rfl ?_
                refine J_if_eq C 125 d_Mod_segmentIn_118 (by decide) (fun hc118 => ?_) (fun hc118 => ?_)
                · refine J_iconst C d_Mod_segmentIn_125 (v := nI 0) rfl ?_
                  refine K_bas C a_79 (j := j) rfl (by omega) (by first | exact Or.inl rfl | exact Or.inr rfl) d_Mod_segmentIn_126 (kk := ?_)
                  refine J_iload_n C 3 d_Mod_segmentIn_127 rfl rfl ?_
                  refine J_if_ne C 135 d_Mod_segmentIn_128 (by decide) (fun hc128 => ?_) (fun hc128 => ?_)
                  · refine J_iconst C d_Mod_segmentIn_135 (v := nI 0) rfl ?_
                    exact F_zret C hr (Or.inl rfl) (by unfold rSeg; (try unfold rSg3); (try unfold rSg2); (repeat' split) <;> first | (exfalso; omega) | contradiction | rfl) (by unfold fSeg; (try unfold fSg3); (try unfold fSg2); (repeat' split) <;> first | (exfalso; omega) | contradiction | rfl) d_Mod_segmentIn_136
                  · refine J_iconst C d_Mod_segmentIn_131 (v := nI 1) rfl ?_
                    refine J_goto C 136 d_Mod_segmentIn_132 (by decide) ?_
                    exact F_zret C hr (Or.inr rfl) (by unfold rSeg; (try unfold rSg3); (try unfold rSg2); (repeat' split) <;> first | (exfalso; omega) | contradiction | rfl) (by unfold fSeg; (try unfold fSg3); (try unfold fSg2); (repeat' split) <;> first | (exfalso; omega) | contradiction | rfl) d_Mod_segmentIn_136
                · refine J_iconst C d_Mod_segmentIn_121 (v := nI 1) rfl ?_
                  refine J_goto C 126 d_Mod_segmentIn_122 (by decide) ?_
                  refine K_bas C a_79 (j := j) rfl (by omega) (by first | exact Or.inl rfl | exact Or.inr rfl) d_Mod_segmentIn_126 (kk := ?_)
                  refine J_iload_n C 3 d_Mod_segmentIn_127 rfl rfl ?_
                  refine J_if_ne C 135 d_Mod_segmentIn_128 (by decide) (fun hc128 => ?_) (fun hc128 => ?_)
                  · refine J_iconst C d_Mod_segmentIn_135 (v := nI 0) rfl ?_
                    exact F_zret C hr (Or.inl rfl) (by unfold rSeg; (try unfold rSg3); (try unfold rSg2); (repeat' split) <;> first | (exfalso; omega) | contradiction | rfl) (by unfold fSeg; (try unfold fSg3); (try unfold fSg2); (repeat' split) <;> first | (exfalso; omega) | contradiction | rfl) d_Mod_segmentIn_136
                  · refine J_iconst C d_Mod_segmentIn_131 (v := nI 1) rfl ?_
                    refine J_goto C 136 d_Mod_segmentIn_132 (by decide) ?_
                    exact F_zret C hr (Or.inr rfl) (by unfold rSeg; (try unfold rSg3); (try unfold rSg2); (repeat' split) <;> first | (exfalso; omega) | contradiction | rfl) (by unfold fSeg; (try unfold fSg3); (try unfold fSg2); (repeat' split) <;> first | (exfalso; omega) | contradiction | rfl) d_Mod_segmentIn_136
    · refine J_iconst C d_Mod_segmentIn_18 (v := nI 1) rfl ?_
      exact F_zret C hr (Or.inr rfl) (by unfold rSeg; (try unfold rSg3); (try unfold rSg2); (repeat' split) <;> first | (exfalso; omega) | contradiction | rfl) (by unfold fSeg; (try unfold fSg3); (try unfold fSg2); (repeat' split) <;> first | (exfalso; omega) | contradiction | rfl) d_Mod_segmentIn_19
