def fPIn (X : Mem) (g : Nat → Nat) (en : Nat) (sq : Int32) : Mem := if sq = 0 then fPkI g en 81 8 X else if cntF (uX X) 24 < fNd g en 81 8 then X else fPkI g en 81 8 X
def rPIn (X : Mem) (g : Nat → Nat) (en : Nat) (sq : Int32) : Int32 := if sq = 0 then 1 else if cntF (uX X) 24 < fNd g en 81 8 then 0 else 1
theorem fm_packetsIn' (l : Launch) (D : va_G) (dA : Nat → ClassId) (M : Mem) (en : Nat) (sq : Int32) (g : Nat → Nat) (hX : XS M) (h8 : 8 ≤ en) (hen : en ≤ 80) (hg : ∀ i, i < en → M 78 i = nI (g i)) (hg2 : ∀ i, i < en → g i < 256) : CF l D dA k_Mod_packetsIn 3 [.ref 76, .int (nI 8), .int (nI en), .int sq] M (some (.int (rPIn M g en sq))) (fPIn M g en sq) :=
  fm_packetsIn l D dA M _ en sq _ g hX h8 hen hg hg2 (fun q => by unfold rPIn; rw [if_neg q.1, if_pos q.2]) (fun q => by unfold rPIn; by_cases h : sq = 0; rw [if_pos h]; rw [if_neg h, if_neg (fun z => q ⟨h, z⟩)]) (fun q => by unfold fPIn; rw [if_neg q.1, if_pos q.2]) (fun q => by unfold fPIn; by_cases h : sq = 0; rw [if_pos h]; rw [if_neg h, if_neg (fun z => q ⟨h, z⟩)])
def fGo (X : Mem) (j en pl : Nat) : Mem := if X 79 j = 0 then mu X 79 j (nI 0) else if pl + (en - 9) ≤ 60 then goL j (en - 9) 9 pl X else mu X 79 j (nI 0)
def rGo (X : Mem) (j en pl : Nat) : Int32 := if X 79 j = 0 then 0 else if pl + (en - 9) ≤ 60 then 1 else 0
def segM2 (X : Mem) (en j : Nat) (sq : Int32) : Mem := if X 79 j = 0 then mu X 79 j (nI 0) else if pX X j + (en - 9) ≤ 60 then fSg2 (mu (segG X en j) 79 j (nI 0)) j (segN X en j) (pX X j + (en - 9)) (X 80 j) sq else mu X 79 j (nI 0)
def segR2 (X : Mem) (en j : Nat) (sq : Int32) : Int32 := if X 79 j = 0 then 1 else if pX X j + (en - 9) ≤ 60 then rSg2 (mu (segG X en j) 79 j (nI 0)) (segN X en j) (pX X j + (en - 9)) sq else 1
def fSgX (X : Mem) (g : Nat → Nat) (en : Nat) (sq : Int32) : Mem := fSeg X g en (g 8 % 64) (g 8 / 64) sq (segM1 X en (g 8 % 64)) (fGo X (g 8 % 64) en (pX X (g 8 % 64))) (segM2 X en (g 8 % 64) sq)
def rSgX (X : Mem) (g : Nat → Nat) (en : Nat) (sq : Int32) : Int32 := rSeg X g en (g 8 % 64) (g 8 / 64) sq (segR2 X en (g 8 % 64) sq)
theorem cGo_if {α : Type} {X : Mem} {j en pl : Nat} (a b : α) : (¬ cGo X j en pl → (if X 79 j = 0 then a else if pl + (en - 9) ≤ 60 then b else a) = a) ∧ (cGo X j en pl → (if X 79 j = 0 then a else if pl + (en - 9) ≤ 60 then b else a) = b) := by
  constructor
  · intro q
    by_cases h1 : X 79 j = 0
    · rw [if_pos h1]
    · rw [if_neg h1, if_neg (fun z => q ⟨h1, z⟩)]
  · intro q
    rw [if_neg q.1, if_pos q.2]
theorem fm_segmentIn' (l : Launch) (D : va_G) (dA : Nat → ClassId) (M : Mem) (en : Nat) (sq : Int32) (g : Nat → Nat) (hX : XS M) (hT : XSt M) (ho : M 76 3 = 0) (h8 : 8 ≤ en) (hen : en ≤ 67) (hg : ∀ i, i < en → M 78 i = nI (g i)) (hg2 : ∀ i, i < en → g i < 256) (hsq : sq = 0 ∨ sq = 1) : CF l D dA k_Mod_segmentIn 3 [.ref 76, .int (nI 8), .int (nI en), .int sq] M (some (.int (rSgX M g en sq))) (fSgX M g en sq) :=
  fm_segmentIn l D dA M (fGo M (g 8 % 64) en (pX M (g 8 % 64))) (segM2 M en (g 8 % 64) sq) en (g 8 % 64) (g 8 / 64) sq (rGo M (g 8 % 64) en (pX M (g 8 % 64))) (segR2 M en (g 8 % 64) sq) g hX hT ho h8 hen hg hg2 rfl rfl hsq (fun q => ⟨(cGo_if _ _).1 q, ((cGo_if _ _).1 q).symm⟩) (fun q => ⟨(cGo_if _ _).2 q, ((cGo_if _ _).2 q).symm⟩) (fun q => ⟨(cGo_if _ _).1 q, ((cGo_if _ _).1 q).symm⟩) (fun q => ⟨(cGo_if _ _).2 q, ((cGo_if _ _).2 q).symm⟩)
theorem fPkI_k (g : Nat → Nat) (en : Nat) {x : Nat} (h1 : x ≠ 3) (h2 : x ≠ 4) (h3 : x ≠ 23) (h4 : x ≠ 15) (h5 : x ≠ 21) (h6 : x ≠ 22) : ∀ (f i : Nat) (X : Mem), fPkI g en f i X 76 x = X 76 x
  | 0, _, _ => rfl
  | f + 1, i, X => by
    unfold fPkI
    (repeat' split)
    · rfl
    · rw [fPkI_k g en h1 h2 h3 h4 h5 h6 f, fKeep_k _ _ _ _ h1 h2 h3 h4 h5 h6]
    · rw [fPkI_k g en h1 h2 h3 h4 h5 h6 f]
    · rfl
theorem fPkI_p (g : Nat → Nat) (en : Nat) {p : Nat} (h1 : p ≠ 76) (h2 : p ≠ 82) (h3 : p ≠ 83) (h4 : p ≠ 84) (h5 : p ≠ 85) (h6 : p ≠ 86) : ∀ (f i : Nat) (X : Mem), fPkI g en f i X p = X p
  | 0, _, _ => rfl
  | f + 1, i, X => by
    unfold fPkI
    (repeat' split)
    · rfl
    · rw [fPkI_p g en h1 h2 h3 h4 h5 h6 f, fKeep_p _ _ _ _ h1 h2 h3 h4 h5 h6]
    · rw [fPkI_p g en h1 h2 h3 h4 h5 h6 f]
    · rfl
theorem fPIn_k (X : Mem) (g : Nat → Nat) (en : Nat) (sq : Int32) {x : Nat} (h1 : x ≠ 3) (h2 : x ≠ 4) (h3 : x ≠ 23) (h4 : x ≠ 15) (h5 : x ≠ 21) (h6 : x ≠ 22) : fPIn X g en sq 76 x = X 76 x := by
  unfold fPIn; (repeat' split) <;> first | exact fPkI_k g en h1 h2 h3 h4 h5 h6 _ _ _ | rfl
theorem fPIn_p (X : Mem) (g : Nat → Nat) (en : Nat) (sq : Int32) {p : Nat} (h1 : p ≠ 76) (h2 : p ≠ 82) (h3 : p ≠ 83) (h4 : p ≠ 84) (h5 : p ≠ 85) (h6 : p ≠ 86) : fPIn X g en sq p = X p := by
  unfold fPIn; (repeat' split) <;> first | exact fPkI_p g en h1 h2 h3 h4 h5 h6 _ _ _ | rfl
theorem fSg3_k (X : Mem) (en j n : Nat) (sq : Int32) {x : Nat} (h1 : x ≠ 3) (h2 : x ≠ 4) (h3 : x ≠ 23) (h4 : x ≠ 15) (h5 : x ≠ 21) (h6 : x ≠ 22) : fSg3 X en j n sq 76 x = X 76 x := by unfold fSg3; (repeat' split) <;> simp only [mu_p _ _ _ (show (76 : Nat) ≠ 79 by decide), mu_p _ _ _ (show (76 : Nat) ≠ 80 by decide), goL_p _ _ _ _ _ (show (76 : Nat) ≠ 80 by decide) (show (76 : Nat) ≠ 81 by decide), fKeep_k _ _ _ _ h1 h2 h3 h4 h5 h6]
theorem fSg2_k (X : Mem) (j n al : Nat) (had sq : Int32) {x : Nat} (h1 : x ≠ 3) (h2 : x ≠ 4) (h3 : x ≠ 23) (h4 : x ≠ 15) (h5 : x ≠ 21) (h6 : x ≠ 22) : fSg2 X j n al had sq 76 x = X 76 x := by unfold fSg2; (repeat' split) <;> first | rfl | simp only [mu_p _ _ _ (show (76 : Nat) ≠ 79 by decide), mu_p _ _ _ (show (76 : Nat) ≠ 80 by decide), goL_p _ _ _ _ _ (show (76 : Nat) ≠ 80 by decide) (show (76 : Nat) ≠ 81 by decide), fKeep_k _ _ _ _ h1 h2 h3 h4 h5 h6]
theorem segM1_k (X : Mem) (en j : Nat) {x : Nat} (h1 : x ≠ 3) (h2 : x ≠ 4) (h3 : x ≠ 23) (h4 : x ≠ 15) (h5 : x ≠ 21) (h6 : x ≠ 22) : segM1 X en j 76 x = X 76 x := by unfold segM1; simp only [mu_p _ _ _ (show (76 : Nat) ≠ 79 by decide), mu_p _ _ _ (show (76 : Nat) ≠ 80 by decide), goL_p _ _ _ _ _ (show (76 : Nat) ≠ 80 by decide) (show (76 : Nat) ≠ 81 by decide), fKeep_k _ _ _ _ h1 h2 h3 h4 h5 h6]
theorem fGo_k (X : Mem) (j en pl : Nat) {x : Nat} (h1 : x ≠ 3) (h2 : x ≠ 4) (h3 : x ≠ 23) (h4 : x ≠ 15) (h5 : x ≠ 21) (h6 : x ≠ 22) : fGo X j en pl 76 x = X 76 x := by unfold fGo; (repeat' split) <;> simp only [mu_p _ _ _ (show (76 : Nat) ≠ 79 by decide), mu_p _ _ _ (show (76 : Nat) ≠ 80 by decide), goL_p _ _ _ _ _ (show (76 : Nat) ≠ 80 by decide) (show (76 : Nat) ≠ 81 by decide), fKeep_k _ _ _ _ h1 h2 h3 h4 h5 h6]
theorem segM2_k (X : Mem) (en j : Nat) (sq : Int32) {x : Nat} (h1 : x ≠ 3) (h2 : x ≠ 4) (h3 : x ≠ 23) (h4 : x ≠ 15) (h5 : x ≠ 21) (h6 : x ≠ 22) : segM2 X en j sq 76 x = X 76 x := by
  unfold segM2
  (repeat' split)
  · simp only [mu_p _ _ _ (show (76 : Nat) ≠ 79 by decide), mu_p _ _ _ (show (76 : Nat) ≠ 80 by decide), goL_p _ _ _ _ _ (show (76 : Nat) ≠ 80 by decide) (show (76 : Nat) ≠ 81 by decide), fKeep_k _ _ _ _ h1 h2 h3 h4 h5 h6]
  · rw [fSg2_k _ _ _ _ _ _ h1 h2 h3 h4 h5 h6]; unfold segG; simp only [mu_p _ _ _ (show (76 : Nat) ≠ 79 by decide), mu_p _ _ _ (show (76 : Nat) ≠ 80 by decide), goL_p _ _ _ _ _ (show (76 : Nat) ≠ 80 by decide) (show (76 : Nat) ≠ 81 by decide), fKeep_k _ _ _ _ h1 h2 h3 h4 h5 h6]
  · simp only [mu_p _ _ _ (show (76 : Nat) ≠ 79 by decide), mu_p _ _ _ (show (76 : Nat) ≠ 80 by decide), goL_p _ _ _ _ _ (show (76 : Nat) ≠ 80 by decide) (show (76 : Nat) ≠ 81 by decide), fKeep_k _ _ _ _ h1 h2 h3 h4 h5 h6]
theorem fSgX_k (X : Mem) (g : Nat → Nat) (en : Nat) (sq : Int32) {x : Nat} (h1 : x ≠ 3) (h2 : x ≠ 4) (h3 : x ≠ 23) (h4 : x ≠ 15) (h5 : x ≠ 21) (h6 : x ≠ 22) : fSgX X g en sq 76 x = X 76 x := by
  unfold fSgX fSeg
  (repeat' split)
  · rfl
  · rfl
  · exact fSg3_k _ _ _ _ _ h1 h2 h3 h4 h5 h6
  · exact segM1_k _ _ _ h1 h2 h3 h4 h5 h6
  · exact segM2_k _ _ _ _ h1 h2 h3 h4 h5 h6
  · exact fGo_k _ _ _ _ h1 h2 h3 h4 h5 h6
theorem fSg3_p (X : Mem) (en j n : Nat) (sq : Int32) {p : Nat} (h1 : p ≠ 76) (h2 : p ≠ 82) (h3 : p ≠ 83) (h4 : p ≠ 84) (h5 : p ≠ 85) (h6 : p ≠ 86) (h7 : p ≠ 79) (h8 : p ≠ 80) (h9 : p ≠ 81) : fSg3 X en j n sq p = X p := by unfold fSg3; (repeat' split) <;> simp only [mu_p _ _ _ h7, mu_p _ _ _ h8, goL_p _ _ _ _ _ h8 h9, fKeep_p _ _ _ _ h1 h2 h3 h4 h5 h6]
theorem fSg2_p (X : Mem) (j n al : Nat) (had sq : Int32) {p : Nat} (h1 : p ≠ 76) (h2 : p ≠ 82) (h3 : p ≠ 83) (h4 : p ≠ 84) (h5 : p ≠ 85) (h6 : p ≠ 86) (h7 : p ≠ 79) (h8 : p ≠ 80) (h9 : p ≠ 81) : fSg2 X j n al had sq p = X p := by unfold fSg2; (repeat' split) <;> first | rfl | simp only [mu_p _ _ _ h7, mu_p _ _ _ h8, goL_p _ _ _ _ _ h8 h9, fKeep_p _ _ _ _ h1 h2 h3 h4 h5 h6]
theorem segM1_p (X : Mem) (en j : Nat) {p : Nat} (h1 : p ≠ 76) (h2 : p ≠ 82) (h3 : p ≠ 83) (h4 : p ≠ 84) (h5 : p ≠ 85) (h6 : p ≠ 86) (h7 : p ≠ 79) (h8 : p ≠ 80) (h9 : p ≠ 81) : segM1 X en j p = X p := by unfold segM1; simp only [mu_p _ _ _ h7, mu_p _ _ _ h8, goL_p _ _ _ _ _ h8 h9, fKeep_p _ _ _ _ h1 h2 h3 h4 h5 h6]
theorem fGo_p (X : Mem) (j en pl : Nat) {p : Nat} (h1 : p ≠ 76) (h2 : p ≠ 82) (h3 : p ≠ 83) (h4 : p ≠ 84) (h5 : p ≠ 85) (h6 : p ≠ 86) (h7 : p ≠ 79) (h8 : p ≠ 80) (h9 : p ≠ 81) : fGo X j en pl p = X p := by unfold fGo; (repeat' split) <;> simp only [mu_p _ _ _ h7, mu_p _ _ _ h8, goL_p _ _ _ _ _ h8 h9, fKeep_p _ _ _ _ h1 h2 h3 h4 h5 h6]
theorem segM2_p (X : Mem) (en j : Nat) (sq : Int32) {p : Nat} (h1 : p ≠ 76) (h2 : p ≠ 82) (h3 : p ≠ 83) (h4 : p ≠ 84) (h5 : p ≠ 85) (h6 : p ≠ 86) (h7 : p ≠ 79) (h8 : p ≠ 80) (h9 : p ≠ 81) : segM2 X en j sq p = X p := by
  unfold segM2
  (repeat' split)
  · simp only [mu_p _ _ _ h7, mu_p _ _ _ h8, goL_p _ _ _ _ _ h8 h9, fKeep_p _ _ _ _ h1 h2 h3 h4 h5 h6]
  · rw [fSg2_p _ _ _ _ _ _ h1 h2 h3 h4 h5 h6 h7 h8 h9]; unfold segG; simp only [mu_p _ _ _ h7, mu_p _ _ _ h8, goL_p _ _ _ _ _ h8 h9, fKeep_p _ _ _ _ h1 h2 h3 h4 h5 h6]
  · simp only [mu_p _ _ _ h7, mu_p _ _ _ h8, goL_p _ _ _ _ _ h8 h9, fKeep_p _ _ _ _ h1 h2 h3 h4 h5 h6]
theorem fSgX_p (X : Mem) (g : Nat → Nat) (en : Nat) (sq : Int32) {p : Nat} (h1 : p ≠ 76) (h2 : p ≠ 82) (h3 : p ≠ 83) (h4 : p ≠ 84) (h5 : p ≠ 85) (h6 : p ≠ 86) (h7 : p ≠ 79) (h8 : p ≠ 80) (h9 : p ≠ 81) : fSgX X g en sq p = X p := by
  unfold fSgX fSeg
  (repeat' split)
  · rfl
  · rfl
  · exact fSg3_p _ _ _ _ _ h1 h2 h3 h4 h5 h6 h7 h8 h9
  · exact segM1_p _ _ _ h1 h2 h3 h4 h5 h6 h7 h8 h9
  · exact segM2_p _ _ _ _ h1 h2 h3 h4 h5 h6 h7 h8 h9
  · exact fGo_p _ _ _ _ h1 h2 h3 h4 h5 h6 h7 h8 h9
theorem XS.k {X : Mem} (h : XS X) {k : Nat} (v : Int32) (h3 : k ≠ 3) (h15 : k ≠ 15) : XS (mu X 76 k v) := by
  obtain ⟨c0, ln, em, bk, hS⟩ := h
  exact ⟨c0, ln, em, bk, hS.same (mu_k _ _ _ (Ne.symm h15)) (by rw [mu_k _ _ _ (Ne.symm h3)]; exact hS.2.2.1) (fun i _ => by rw [mu_p _ _ _ (by decide)]) (fun i _ => by rw [mu_p _ _ _ (by decide)]) (fun i _ => by rw [mu_p _ _ _ (by decide)]) (fun i _ => by rw [mu_p _ _ _ (by decide)])⟩
def fBeg0 (X : Mem) : Mem := mu (mu (mu (mu X 79 0 (nI 0)) 79 1 (nI 0)) 79 2 (nI 0)) 79 3 (nI 0)
def fDir (X : Mem) (g : Nat → Nat) (en : Nat) (ch : Int32) : Mem := if en < 10 then X else if g 8 = 1 then fBeg0 (mu (mu (mu (mu (mu X 76 7 (nI 1)) 76 8 ch) 76 9 (nI 0)) 76 10 (nI 0)) 76 11 (nI 0)) else if g 8 = 2 then mu X 76 7 (nI 0) else if g 8 = 3 then (if X 76 7 = 0 then X else if X 76 8 = ch then mu (mu X 76 9 (nI (g 9))) 76 10 (nI 0) else X) else X
set_option maxHeartbeats 4000000 in
set_option maxRecDepth 100000 in
theorem fm_directive (l : Launch) (D : va_G) (dA : Nat → ClassId) (M : Mem) (en : Nat) (ch : Int32) (g : Nat → Nat) (h8 : 8 ≤ en) (hen : en ≤ 80) (hg : ∀ i, i < en → M 78 i = nI (g i)) (hg2 : ∀ i, i < en → g i < 256) : CF l D dA k_Mod_directive 0 [.ref 76, .int (nI 8), .int (nI en), .int ch] M (none) (fDir M g en ch) := by
  refine CF.of (by decide +kernel) (Nat.le_of_ble_eq_true rfl) (by intro v hv; simp only [List.mem_cons, List.not_mem_nil, or_false] at hv; rcases hv with rfl | rfl | rfl | rfl <;> rfl) ?_
  intro A ad0 p e s m args below meth c C hr
  refine J_iload_n C 2 d_Mod_directive_0 rfl rfl ?_
  refine J_iload_n C 1 d_Mod_directive_1 rfl rfl ?_
  refine J_isubN C d_Mod_directive_2 (by omega) ?_
  refine J_iconst C d_Mod_directive_3 (v := nI 2) rfl ?_
  refine J_icmpN_ge C 8 d_Mod_directive_4 (by decide) (by omega) (by omega) (fun hc4 => ?_) (fun hc4 => ?_)
  · refine J_aload_n C 0 d_Mod_directive_8 rfl rfl ?_
    refine J_get C f_Mod_27 (by decide) (e_76 _) rfl d_Mod_directive_9 ?_
    refine J_iload_n C 1 d_Mod_directive_12 rfl rfl ?_
    have hg8 := hg2 8 (by omega)
    refine K_ial C a_78 (j := 8) rfl (by omega) d_Mod_directive_13 ?_
    refine J_val (y := nI (g 8)) (hg 8 (by omega)) ?_
    refine J_iconst C d_Mod_directive_14 (v := nI 1) rfl ?_
    refine J_icmpN_ne C 66 d_Mod_directive_15 (by decide) (by omega) (by omega) (fun hc15 => ?_) (fun hc15 => ?_)
    · refine J_aload_n C 0 d_Mod_directive_66 rfl rfl ?_
      refine J_get C f_Mod_27 (by decide) (e_76 _) rfl d_Mod_directive_67 ?_
      refine J_iload_n C 1 d_Mod_directive_70 rfl rfl ?_
      refine K_ial C a_78 (j := 8) rfl (by omega) d_Mod_directive_71 ?_
      refine J_val (y := nI (g 8)) (hg 8 (by omega)) ?_
      refine J_iconst C d_Mod_directive_72 (v := nI 2) rfl ?_
      refine J_icmpN_ne C 81 d_Mod_directive_73 (by decide) (by omega) (by omega) (fun hc73 => ?_) (fun hc73 => ?_)
      · refine J_aload_n C 0 d_Mod_directive_81 rfl rfl ?_
        refine J_get C f_Mod_27 (by decide) (e_76 _) rfl d_Mod_directive_82 ?_
        refine J_iload_n C 1 d_Mod_directive_85 rfl rfl ?_
        refine K_ial C a_78 (j := 8) rfl (by omega) d_Mod_directive_86 ?_
        refine J_val (y := nI (g 8)) (hg 8 (by omega)) ?_
        refine J_iconst C d_Mod_directive_87 (v := nI 3) rfl ?_
        refine J_icmpN_ne C 123 d_Mod_directive_88 (by decide) (by omega) (by omega) (fun hc88 => ?_) (fun hc88 => ?_)
        · exact F_ret C hr (by unfold fDir; (repeat' split) <;> first | (exfalso; omega) | contradiction | rfl) d_Mod_directive_123
        · refine J_aload_n C 0 d_Mod_directive_91 rfl rfl ?_
          refine J_get C f_Mod_33 (by decide) (e_76 _) rfl d_Mod_directive_92 ?_
          refine J_if_eq C 123 d_Mod_directive_95 (by decide) (fun hc95 => ?_) (fun hc95 => ?_)
          · exact F_ret C hr (by unfold fDir; (repeat' split) <;> first | (exfalso; omega) | contradiction | rfl) d_Mod_directive_123
          · refine J_aload_n C 0 d_Mod_directive_98 rfl rfl ?_
            refine J_get C f_Mod_36 (by decide) (e_76 _) rfl d_Mod_directive_99 ?_
            refine J_iload_n C 3 d_Mod_directive_102 rfl rfl ?_
            refine J_icmp_ne C 123 d_Mod_directive_103 (by decide) (fun hc103 => ?_) (fun hc103 => ?_)
            · exact F_ret C hr (by unfold fDir; (repeat' split) <;> first | (exfalso; omega) | contradiction | rfl) d_Mod_directive_123
            · refine J_aload_n C 0 d_Mod_directive_106 rfl rfl ?_
              refine J_aload_n C 0 d_Mod_directive_107 rfl rfl ?_
              refine J_get C f_Mod_27 (by decide) (e_76 _) rfl d_Mod_directive_108 ?_
              refine J_iload_n C 1 d_Mod_directive_111 rfl rfl ?_
              refine J_iconst C d_Mod_directive_112 (v := nI 1) rfl ?_
              refine J_iaddN C d_Mod_directive_113 ?_
              refine J_val (y := nI 9) rfl ?_
              refine K_ial C a_78 (j := 9) rfl (by omega) d_Mod_directive_114 ?_
              refine J_val (y := nI (g 9)) (hg 9 (by omega)) ?_
              refine K_putI C f_Mod_39 (by decide) (e_76 _) (Nat.le_of_ble_eq_true rfl) rfl d_Mod_directive_115 (kk := ?_)
              refine J_aload_n C 0 d_Mod_directive_118 rfl rfl ?_
              refine J_iconst C d_Mod_directive_119 (v := nI 0) rfl ?_
              refine K_putI C f_Mod_42 (by decide) (e_76 _) (Nat.le_of_ble_eq_true rfl) rfl d_Mod_directive_120 (kk := ?_)
              exact F_ret C hr (by unfold fDir; (repeat' split) <;> first | (exfalso; omega) | contradiction | rfl) d_Mod_directive_123
      · refine J_aload_n C 0 d_Mod_directive_76 rfl rfl ?_
        refine J_iconst C d_Mod_directive_77 (v := nI 0) rfl ?_
        refine K_putZ C f_Mod_33 (by decide) (e_76 _) (Nat.le_of_ble_eq_true rfl) (Or.inl rfl) rfl d_Mod_directive_78 (kk := ?_)
        refine J_aload_n C 0 d_Mod_directive_81 rfl rfl ?_
        refine J_get C f_Mod_27 (by decide) (e_76 _) rfl d_Mod_directive_82 ?_
        refine J_iload_n C 1 d_Mod_directive_85 rfl rfl ?_
        refine K_ial C a_78 (j := 8) rfl (by omega) d_Mod_directive_86 ?_
        refine J_val (y := nI (g 8)) (hg 8 (by omega)) ?_
        refine J_iconst C d_Mod_directive_87 (v := nI 3) rfl ?_
        refine J_icmpN_ne C 123 d_Mod_directive_88 (by decide) (by omega) (by omega) (fun hc88 => ?_) (fun hc88 => ?_)
        · exact F_ret C hr (by unfold fDir; (repeat' split) <;> first | (exfalso; omega) | contradiction | rfl) d_Mod_directive_123
        · refine J_aload_n C 0 d_Mod_directive_91 rfl rfl ?_
          refine J_get C f_Mod_33 (by decide) (e_76 _) rfl d_Mod_directive_92 ?_
          refine J_val (y := nI 0) rfl ?_
          refine J_ifN_eq C 123 d_Mod_directive_95 (by decide) (by omega) (fun hc95 => ?_) (fun hc95 => absurd hc95 (by decide))
          exact F_ret C hr (by unfold fDir; (repeat' split) <;> first | (exfalso; omega) | contradiction | rfl) d_Mod_directive_123
    · refine J_aload_n C 0 d_Mod_directive_18 rfl rfl ?_
      refine J_iconst C d_Mod_directive_19 (v := nI 1) rfl ?_
      refine K_putZ C f_Mod_33 (by decide) (e_76 _) (Nat.le_of_ble_eq_true rfl) (Or.inr rfl) rfl d_Mod_directive_20 (kk := ?_)
      refine J_aload_n C 0 d_Mod_directive_23 rfl rfl ?_
      refine J_iload_n C 3 d_Mod_directive_24 rfl rfl ?_
      refine K_putI C f_Mod_36 (by decide) (e_76 _) (Nat.le_of_ble_eq_true rfl) rfl d_Mod_directive_25 (kk := ?_)
      refine J_aload_n C 0 d_Mod_directive_28 rfl rfl ?_
      refine J_iconst C d_Mod_directive_29 (v := nI 0) rfl ?_
      refine K_putI C f_Mod_39 (by decide) (e_76 _) (Nat.le_of_ble_eq_true rfl) rfl d_Mod_directive_30 (kk := ?_)
      refine J_aload_n C 0 d_Mod_directive_33 rfl rfl ?_
      refine J_iconst C d_Mod_directive_34 (v := nI 0) rfl ?_
      refine K_putI C f_Mod_42 (by decide) (e_76 _) (Nat.le_of_ble_eq_true rfl) rfl d_Mod_directive_35 (kk := ?_)
      refine J_aload_n C 0 d_Mod_directive_38 rfl rfl ?_
      refine J_iconst C d_Mod_directive_39 (v := nI 0) rfl ?_
      refine K_putI C f_Mod_45 (by decide) (e_76 _) (Nat.le_of_ble_eq_true rfl) rfl d_Mod_directive_40 (kk := ?_)
      refine J_iconst C d_Mod_directive_43 (v := nI 0) rfl ?_
      refine J_istore C d_Mod_directive_44 (by decide) rfl ?_
      refine J_iload C d_Mod_directive_46 rfl ?_
      refine J_iconst C d_Mod_directive_48 (v := nI 4) rfl ?_
      refine J_icmpN_ge C 66 d_Mod_directive_49 (by decide) (by omega) (by omega) (fun hc49 => absurd hc49 (by decide)) (fun hc49 => ?_)
      refine J_aload_n C 0 d_Mod_directive_52 rfl rfl ?_
      refine J_get C f_Mod_48 (by decide) (e_76 _) rfl d_Mod_directive_53 ?_
      refine J_iload C d_Mod_directive_56 rfl ?_
      refine J_iconst C d_Mod_directive_58 (v := nI 0) rfl ?_
      refine K_bas C a_79 (j := 0) rfl (by omega) (Or.inl rfl) d_Mod_directive_59 (kk := ?_)
      refine J_iinc C d_Mod_directive_60 rfl (v := nI 1) rfl (by decide) rfl ?_
      refine J_goto C 46 d_Mod_directive_63 (by decide) ?_
      refine J_iload C d_Mod_directive_46 rfl ?_
      refine J_iconst C d_Mod_directive_48 (v := nI 4) rfl ?_
      refine J_icmpN_ge C 66 d_Mod_directive_49 (by decide) (by omega) (by omega) (fun hc49 => absurd hc49 (by decide)) (fun hc49 => ?_)
      refine J_aload_n C 0 d_Mod_directive_52 rfl rfl ?_
      refine J_get C f_Mod_48 (by decide) (e_76 _) rfl d_Mod_directive_53 ?_
      refine J_iload C d_Mod_directive_56 rfl ?_
      refine J_iconst C d_Mod_directive_58 (v := nI 0) rfl ?_
      refine K_bas C a_79 (j := 1) rfl (by omega) (Or.inl rfl) d_Mod_directive_59 (kk := ?_)
      refine J_iinc C d_Mod_directive_60 rfl (v := nI 2) rfl (by decide) rfl ?_
      refine J_goto C 46 d_Mod_directive_63 (by decide) ?_
      refine J_iload C d_Mod_directive_46 rfl ?_
      refine J_iconst C d_Mod_directive_48 (v := nI 4) rfl ?_
      refine J_icmpN_ge C 66 d_Mod_directive_49 (by decide) (by omega) (by omega) (fun hc49 => absurd hc49 (by decide)) (fun hc49 => ?_)
      refine J_aload_n C 0 d_Mod_directive_52 rfl rfl ?_
      refine J_get C f_Mod_48 (by decide) (e_76 _) rfl d_Mod_directive_53 ?_
      refine J_iload C d_Mod_directive_56 rfl ?_
      refine J_iconst C d_Mod_directive_58 (v := nI 0) rfl ?_
      refine K_bas C a_79 (j := 2) rfl (by omega) (Or.inl rfl) d_Mod_directive_59 (kk := ?_)
      refine J_iinc C d_Mod_directive_60 rfl (v := nI 3) rfl (by decide) rfl ?_
      refine J_goto C 46 d_Mod_directive_63 (by decide) ?_
      refine J_iload C d_Mod_directive_46 rfl ?_
      refine J_iconst C d_Mod_directive_48 (v := nI 4) rfl ?_
      refine J_icmpN_ge C 66 d_Mod_directive_49 (by decide) (by omega) (by omega) (fun hc49 => absurd hc49 (by decide)) (fun hc49 => ?_)
      refine J_aload_n C 0 d_Mod_directive_52 rfl rfl ?_
      refine J_get C f_Mod_48 (by decide) (e_76 _) rfl d_Mod_directive_53 ?_
      refine J_iload C d_Mod_directive_56 rfl ?_
      refine J_iconst C d_Mod_directive_58 (v := nI 0) rfl ?_
      refine K_bas C a_79 (j := 3) rfl (by omega) (Or.inl rfl) d_Mod_directive_59 (kk := ?_)
      refine J_iinc C d_Mod_directive_60 rfl (v := nI 4) rfl (by decide) rfl ?_
      refine J_goto C 46 d_Mod_directive_63 (by decide) ?_
      refine J_iload C d_Mod_directive_46 rfl ?_
      refine J_iconst C d_Mod_directive_48 (v := nI 4) rfl ?_
      refine J_icmpN_ge C 66 d_Mod_directive_49 (by decide) (by omega) (by omega) (fun hc49 => ?_) (fun hc49 => absurd hc49 (by decide))
      refine J_aload_n C 0 d_Mod_directive_66 rfl rfl ?_
      refine J_get C f_Mod_27 (by decide) (e_76 _) rfl d_Mod_directive_67 ?_
      refine J_iload_n C 1 d_Mod_directive_70 rfl rfl ?_
      refine K_ial C a_78 (j := 8) rfl (by omega) d_Mod_directive_71 ?_
      refine J_val (y := nI (g 8)) (hg 8 (by omega)) ?_
      refine J_iconst C d_Mod_directive_72 (v := nI 2) rfl ?_
      refine J_icmpN_ne C 81 d_Mod_directive_73 (by decide) (by omega) (by omega) (fun hc73 => ?_) (fun hc73 => ?_)
      · refine J_aload_n C 0 d_Mod_directive_81 rfl rfl ?_
        refine J_get C f_Mod_27 (by decide) (e_76 _) rfl d_Mod_directive_82 ?_
        refine J_iload_n C 1 d_Mod_directive_85 rfl rfl ?_
        refine K_ial C a_78 (j := 8) rfl (by omega) d_Mod_directive_86 ?_
        refine J_val (y := nI (g 8)) (hg 8 (by omega)) ?_
        refine J_iconst C d_Mod_directive_87 (v := nI 3) rfl ?_
        refine J_icmpN_ne C 123 d_Mod_directive_88 (by decide) (by omega) (by omega) (fun hc88 => ?_) (fun hc88 => ?_)
        · exact F_ret C hr (by unfold fDir; (repeat' split) <;> first | (exfalso; omega) | contradiction | rfl) d_Mod_directive_123
        · refine J_aload_n C 0 d_Mod_directive_91 rfl rfl ?_
          refine J_get C f_Mod_33 (by decide) (e_76 _) rfl d_Mod_directive_92 ?_
          refine J_val (y := nI 1) rfl ?_
          refine J_ifN_eq C 123 d_Mod_directive_95 (by decide) (by omega) (fun hc95 => absurd hc95 (by decide)) (fun hc95 => ?_)
          refine J_aload_n C 0 d_Mod_directive_98 rfl rfl ?_
          refine J_get C f_Mod_36 (by decide) (e_76 _) rfl d_Mod_directive_99 ?_
          refine J_val (y := ch) rfl ?_
          refine J_iload_n C 3 d_Mod_directive_102 rfl rfl ?_
          refine J_icmp_ne C 123 d_Mod_directive_103 (by decide) (fun hc103 => ?_) (fun hc103 => ?_)
          · exact F_ret C hr (by unfold fDir; (repeat' split) <;> first | (exfalso; omega) | contradiction | rfl) d_Mod_directive_123
          · refine J_aload_n C 0 d_Mod_directive_106 rfl rfl ?_
            refine J_aload_n C 0 d_Mod_directive_107 rfl rfl ?_
            refine J_get C f_Mod_27 (by decide) (e_76 _) rfl d_Mod_directive_108 ?_
            refine J_iload_n C 1 d_Mod_directive_111 rfl rfl ?_
            refine J_iconst C d_Mod_directive_112 (v := nI 1) rfl ?_
            refine J_iaddN C d_Mod_directive_113 ?_
            refine J_val (y := nI 9) rfl ?_
            refine K_ial C a_78 (j := 9) rfl (by omega) d_Mod_directive_114 ?_
            refine J_val (y := nI (g 9)) (hg 9 (by omega)) ?_
            refine K_putI C f_Mod_39 (by decide) (e_76 _) (Nat.le_of_ble_eq_true rfl) rfl d_Mod_directive_115 (kk := ?_)
            refine J_aload_n C 0 d_Mod_directive_118 rfl rfl ?_
            refine J_iconst C d_Mod_directive_119 (v := nI 0) rfl ?_
            refine K_putI C f_Mod_42 (by decide) (e_76 _) (Nat.le_of_ble_eq_true rfl) rfl d_Mod_directive_120 (kk := ?_)
            exact F_ret C hr (by unfold fDir; (repeat' split) <;> first | (exfalso; omega) | contradiction | rfl) d_Mod_directive_123
      · refine J_aload_n C 0 d_Mod_directive_76 rfl rfl ?_
        refine J_iconst C d_Mod_directive_77 (v := nI 0) rfl ?_
        refine K_putZ C f_Mod_33 (by decide) (e_76 _) (Nat.le_of_ble_eq_true rfl) (Or.inl rfl) rfl d_Mod_directive_78 (kk := ?_)
        refine J_aload_n C 0 d_Mod_directive_81 rfl rfl ?_
        refine J_get C f_Mod_27 (by decide) (e_76 _) rfl d_Mod_directive_82 ?_
        refine J_iload_n C 1 d_Mod_directive_85 rfl rfl ?_
        refine K_ial C a_78 (j := 8) rfl (by omega) d_Mod_directive_86 ?_
        refine J_val (y := nI (g 8)) (hg 8 (by omega)) ?_
        refine J_iconst C d_Mod_directive_87 (v := nI 3) rfl ?_
        refine J_icmpN_ne C 123 d_Mod_directive_88 (by decide) (by omega) (by omega) (fun hc88 => ?_) (fun hc88 => ?_)
        · exact F_ret C hr (by unfold fDir; (repeat' split) <;> first | (exfalso; omega) | contradiction | rfl) d_Mod_directive_123
        · refine J_aload_n C 0 d_Mod_directive_91 rfl rfl ?_
          refine J_get C f_Mod_33 (by decide) (e_76 _) rfl d_Mod_directive_92 ?_
          refine J_val (y := nI 0) rfl ?_
          refine J_ifN_eq C 123 d_Mod_directive_95 (by decide) (by omega) (fun hc95 => ?_) (fun hc95 => absurd hc95 (by decide))
          exact F_ret C hr (by unfold fDir; (repeat' split) <;> first | (exfalso; omega) | contradiction | rfl) d_Mod_directive_123
  · exact F_ret C hr (by unfold fDir; (repeat' split) <;> first | (exfalso; omega) | contradiction | rfl) d_Mod_directive_7

def vX (X : Mem) : Nat := (X 76 9).toNatClampNeg
def kX (X : Mem) : Nat := (X 76 11).toNatClampNeg
def XI (X : Mem) : Prop := X 76 9 = nI (vX X) ∧ vX X < 256 ∧ X 76 11 = nI (kX X) ∧ kX X < 8
def fTk3 (X : Mem) (al : Int32) (vv : Nat) : Mem := if al = 0 then mu X 76 10 (nI 1) else mu (mu X 76 9 (nI ((vv + 1) % 256))) 76 10 (nI 0)
def fTkS (X : Mem) (g : Nat → Nat) (t vv : Nat) : Mem := if (g 7 + 256 - vv) % 256 = 0 then (if g 3 / 4 % 4 = 0 then fTk3 (fPIn X g (3 + t) (nI 1)) (rPIn X g (3 + t) (nI 1)) vv else if g 3 / 4 % 4 = 1 then fTk3 (fSgX X g (3 + t) (nI 1)) (rSgX X g (3 + t) (nI 1)) vv else fTk3 X 1 vv) else if (g 7 + 256 - vv) % 256 < 128 then mu X 76 10 (nI 1) else X
def fTkE (X : Mem) (g : Nat → Nat) (t : Nat) : Mem := if g 3 / 4 % 4 = 0 then fPIn X g (3 + t) (nI 0) else if g 3 / 4 % 4 = 1 then fSgX X g (3 + t) (nI 0) else X
/-- a whole frame of t bytes is taken -/
def fTk (X : Mem) (g : Nat → Nat) (t : Nat) : Mem := if fOpen (X 76 1) (X 77 0) (X 77 1) (X 77 2) = 0 then X else if g 3 % 4 * 256 + g 4 = 77 then (if g 3 / 16 % 2 = 1 then fDir X g (3 + t) (nI (g 5 / 128)) else if X 76 7 = 0 then X else if X 76 8 = nI (g 5 / 128) then (if g 3 / 32 % 2 = 1 then fTkE (mu X 76 11 (nI ((kX X + 1) % 8))) g t else fTkS X g t (vX X)) else X) else X
theorem nI_sub256 {a b : Nat} (h : b ≤ 256) : nI a - nI b + nI 256 = nI (a + 256 - b) := by
  rw [← pk_sub (show b ≤ a + 256 by omega), ← nI_add]
  rw [Int32.sub_eq_add_neg, Int32.sub_eq_add_neg, Int32.add_assoc, Int32.add_assoc, Int32.add_comm (-nI b)]
set_option maxHeartbeats 4000000 in
set_option maxRecDepth 100000 in
theorem fm_taken (l : Launch) (D : va_G) (dA : Nat → ClassId) (M : Mem) (t n : Nat) (g : Nat → Nat) (hX : XS M) (hT : XSt M) (hI : XI M) (ho : M 76 3 = 0) (h5 : 5 ≤ t) (h64 : t ≤ 64) (hn : t + 7 ≤ n) (hg : ∀ i, i < n → M 78 i = nI (g i)) (hg2 : ∀ i, i < n → g i < 256) (hp : ¬ (M 77 1).toInt64 = 0) : CF l D dA k_Mod_taken 4 [.ref 76, .int (nI t)] M (none) (fTk M g t) := by
  refine CF.of (by decide +kernel) (Nat.le_of_ble_eq_true rfl) (by intro v hv; simp only [List.mem_cons, List.not_mem_nil, or_false] at hv; rcases hv with rfl | rfl <;> rfl) ?_
  intro A ad0 p e s m args below meth c C hr
  have hg3 : ∀ i, i < 3 + t → M 78 i = nI (g i) := fun i hi => hg i (by omega)
  have hg23 : ∀ i, i < 3 + t → g i < 256 := fun i hi => hg2 i (by omega)
  have b3 := hg2 3 (by omega)
  have b4 := hg2 4 (by omega)
  have b5 := hg2 5 (by omega)
  have b7 := hg2 7 (by omega)
  obtain ⟨hv1, hv2, hk1, hk2⟩ := hI
  refine J_aload_n C 0 d_Mod_taken_0 rfl rfl ?_
  refine J_get C f_Mod_27 (by decide) (e_76 _) rfl d_Mod_taken_1 ?_
  refine J_iconst C d_Mod_taken_4 (v := nI 3) rfl ?_
  refine K_ial C a_78 (j := 3) rfl (by omega) d_Mod_taken_5 ?_
  refine J_val (y := nI (g 3)) (hg 3 (by omega)) ?_
  refine J_istore_n C 2 d_Mod_taken_6 rfl (by decide) rfl ?_
  refine J_aload_n C 0 d_Mod_taken_7 rfl rfl ?_
  refine J_get C f_Mod_27 (by decide) (e_76 _) rfl d_Mod_taken_8 ?_
  refine J_iconst C d_Mod_taken_11 (v := nI 5) rfl ?_
  refine K_ial C a_78 (j := 5) rfl (by omega) d_Mod_taken_12 ?_
  refine J_val (y := nI (g 5)) (hg 5 (by omega)) ?_
  refine J_bipush C d_Mod_taken_13 (v := nI 7) rfl ?_
  refine J_ishr C d_Mod_taken_15 ?_
  refine J_val (y := nI (g 5 / 128)) (nI_shr 7 128 (by omega) (by decide) rfl) ?_
  refine J_istore_n C 3 d_Mod_taken_16 rfl (by decide) rfl ?_
  refine J_aload_n C 0 d_Mod_taken_17 rfl rfl ?_
  refine J_iconst C d_Mod_taken_18 (v := nI 0) rfl ?_
  refine P_callV C (as := [.int (nI 0)]) (st := []) (pm_seenBy0 l D dA M hp) l_Mod_125 v_Mod_seenBy (by decide) (e_76 _) rfl (by decide) (by decide) (by decide) (Nat.le_of_ble_eq_true rfl) d_Mod_taken_19 (kk := ?_)
  refine J_if_eq C 44 d_Mod_taken_22 (by decide) (fun hc22 => ?_) (fun hc22 => ?_)
  · exact F_ret C hr (by unfold fTk; (first | rw [if_pos hc22] | rw [if_neg hc22] | rw [if_pos (by omega)] | rw [if_neg (by omega)] | skip); try rfl) d_Mod_taken_44
  · refine J_iload_n C 2 d_Mod_taken_25 rfl rfl ?_
    refine J_iconst C d_Mod_taken_26 (v := nI 3) rfl ?_
    refine J_iand C d_Mod_taken_27 ?_
    refine J_val (y := nI (g 3 % 4)) (nI_and 2 4 (by omega) (by decide) rfl) ?_
    refine J_sipush C d_Mod_taken_28 (v := nI 256) rfl ?_
    refine J_imulN C d_Mod_taken_31 ?_
    refine J_aload_n C 0 d_Mod_taken_32 rfl rfl ?_
    refine J_get C f_Mod_27 (by decide) (e_76 _) rfl d_Mod_taken_33 ?_
    refine J_iconst C d_Mod_taken_36 (v := nI 4) rfl ?_
    refine K_ial C a_78 (j := 4) rfl (by omega) d_Mod_taken_37 ?_
    refine J_val (y := nI (g 4)) (hg 4 (by omega)) ?_
    refine J_iaddN C d_Mod_taken_38 ?_
    refine J_bipush C d_Mod_taken_39 (v := nI 77) rfl ?_
    refine J_icmpN_eq C 45 d_Mod_taken_41 (by decide) (by omega) (by omega) (fun hc41 => ?_) (fun hc41 => ?_)
    · refine J_iload_n C 2 d_Mod_taken_45 rfl rfl ?_
      refine J_iconst C d_Mod_taken_46 (v := nI 4) rfl ?_
      refine J_ishr C d_Mod_taken_47 ?_
      refine J_val (y := nI (g 3 / 16)) (nI_shr 4 16 (by omega) (by decide) rfl) ?_
      refine J_iconst C d_Mod_taken_48 (v := nI 1) rfl ?_
      refine J_iand C d_Mod_taken_49 ?_
      refine J_val (y := nI (g 3 / 16 % 2)) (nI_and 1 2 (by omega) (by decide) rfl) ?_
      refine J_iconst C d_Mod_taken_50 (v := nI 1) rfl ?_
      refine J_icmpN_ne C 65 d_Mod_taken_51 (by decide) (by omega) (by omega) (fun hc51 => ?_) (fun hc51 => ?_)
      · refine J_aload_n C 0 d_Mod_taken_65 rfl rfl ?_
        refine J_get C f_Mod_33 (by decide) (e_76 _) rfl d_Mod_taken_66 ?_
        refine J_if_eq C 80 d_Mod_taken_69 (by decide) (fun hc69 => ?_) (fun hc69 => ?_)
        · exact F_ret C hr (by unfold fTk; (first | rw [if_pos hc22] | rw [if_neg hc22] | rw [if_pos (by omega)] | rw [if_neg (by omega)] | skip); (first | rw [if_pos hc41] | rw [if_neg hc41] | rw [if_pos (by omega)] | rw [if_neg (by omega)] | skip); (first | rw [if_pos hc51] | rw [if_neg hc51] | rw [if_pos (by omega)] | rw [if_neg (by omega)] | skip); (first | rw [if_pos hc69] | rw [if_neg hc69] | rw [if_pos (by omega)] | rw [if_neg (by omega)] | skip); try rfl) d_Mod_taken_80
        · refine J_aload_n C 0 d_Mod_taken_72 rfl rfl ?_
          refine J_get C f_Mod_36 (by decide) (e_76 _) rfl d_Mod_taken_73 ?_
          refine J_iload_n C 3 d_Mod_taken_76 rfl rfl ?_
          refine J_icmp_eq C 81 d_Mod_taken_77 (by decide) (fun hc77 => ?_) (fun hc77 => ?_)
          · refine J_iload_n C 2 d_Mod_taken_81 rfl rfl ?_
            refine J_iconst C d_Mod_taken_82 (v := nI 2) rfl ?_
            refine J_ishr C d_Mod_taken_83 ?_
            refine J_val (y := nI (g 3 / 4)) (nI_shr 2 4 (by omega) (by decide) rfl) ?_
            refine J_iconst C d_Mod_taken_84 (v := nI 3) rfl ?_
            refine J_iand C d_Mod_taken_85 ?_
            refine J_val (y := nI (g 3 / 4 % 4)) (nI_and 2 4 (by omega) (by decide) rfl) ?_
            refine J_istore C d_Mod_taken_86 (by decide) rfl ?_
            refine J_iload_n C 2 d_Mod_taken_88 rfl rfl ?_
            refine J_iconst C d_Mod_taken_89 (v := nI 5) rfl ?_
            refine J_ishr C d_Mod_taken_90 ?_
            refine J_val (y := nI (g 3 / 32)) (nI_shr 5 32 (by omega) (by decide) rfl) ?_
            refine J_iconst C d_Mod_taken_91 (v := nI 1) rfl ?_
            refine J_iand C d_Mod_taken_92 ?_
            refine J_val (y := nI (g 3 / 32 % 2)) (nI_and 1 2 (by omega) (by decide) rfl) ?_
            refine J_iconst C d_Mod_taken_93 (v := nI 1) rfl ?_
            refine J_icmpN_ne C 144 d_Mod_taken_94 (by decide) (by omega) (by omega) (fun hc94 => ?_) (fun hc94 => ?_)
            · refine J_aload_n C 0 d_Mod_taken_144 rfl rfl ?_
              refine J_get C f_Mod_27 (by decide) (e_76 _) rfl d_Mod_taken_145 ?_
              refine J_bipush C d_Mod_taken_148 (v := nI 7) rfl ?_
              refine K_ial C a_78 (j := 7) rfl (by omega) d_Mod_taken_150 ?_
              refine J_val (y := nI (g 7)) (hg 7 (by omega)) ?_
              refine J_aload_n C 0 d_Mod_taken_151 rfl rfl ?_
              refine J_get C f_Mod_39 (by decide) (e_76 _) rfl d_Mod_taken_152 ?_
              refine J_val (y := nI (vX M)) hv1 ?_
              refine J_isub C d_Mod_taken_155 ?_
              refine J_sipush C d_Mod_taken_156 (v := nI 256) rfl ?_
              refine J_iadd C d_Mod_taken_159 ?_
              refine J_val (y := nI (g 7 + 256 - vX M)) (nI_sub256 (by omega)) ?_
              refine J_sipush C d_Mod_taken_160 (v := nI 256) rfl ?_
              refine J_iremN C d_Mod_taken_163 (by omega) (by omega) (by omega) ?_
              refine J_istore C d_Mod_taken_164 (by decide) rfl ?_
              refine J_iload C d_Mod_taken_166 rfl ?_
              refine J_ifN_ne C 247 d_Mod_taken_168 (by decide) (by omega) (fun hc168 => ?_) (fun hc168 => ?_)
              · refine J_iload C d_Mod_taken_247 rfl ?_
                refine J_sipush C d_Mod_taken_249 (v := nI 128) rfl ?_
                refine J_icmpN_ge C 260 d_Mod_taken_252 (by decide) (by omega) (by omega) (fun hc252 => ?_) (fun hc252 => ?_)
                · exact F_ret C hr (by unfold fTk; (first | rw [if_pos hc22] | rw [if_neg hc22] | rw [if_pos (by omega)] | rw [if_neg (by omega)] | skip); (first | rw [if_pos hc41] | rw [if_neg hc41] | rw [if_pos (by omega)] | rw [if_neg (by omega)] | skip); (first | rw [if_pos hc51] | rw [if_neg hc51] | rw [if_pos (by omega)] | rw [if_neg (by omega)] | skip); (first | rw [if_pos hc69] | rw [if_neg hc69] | rw [if_pos (by omega)] | rw [if_neg (by omega)] | skip); (first | rw [if_pos hc77] | rw [if_neg hc77] | rw [if_pos (by omega)] | rw [if_neg (by omega)] | skip); (first | rw [if_pos hc94] | rw [if_neg hc94] | rw [if_pos (by omega)] | rw [if_neg (by omega)] | skip); (try unfold fTkE); (try unfold fTkS); (first | rw [if_pos hc168] | rw [if_neg hc168] | rw [if_pos (by omega)] | rw [if_neg (by omega)] | skip); (first | rw [if_pos hc252] | rw [if_neg hc252] | rw [if_pos (by omega)] | rw [if_neg (by omega)] | skip); try rfl) d_Mod_taken_260
                · refine J_aload_n C 0 d_Mod_taken_255 rfl rfl ?_
                  refine J_iconst C d_Mod_taken_256 (v := nI 1) rfl ?_
                  refine K_putI C f_Mod_42 (by decide) (e_76 _) (Nat.le_of_ble_eq_true rfl) rfl d_Mod_taken_257 (kk := ?_)
                  exact F_ret C hr (by unfold fTk; (first | rw [if_pos hc22] | rw [if_neg hc22] | rw [if_pos (by omega)] | rw [if_neg (by omega)] | skip); (first | rw [if_pos hc41] | rw [if_neg hc41] | rw [if_pos (by omega)] | rw [if_neg (by omega)] | skip); (first | rw [if_pos hc51] | rw [if_neg hc51] | rw [if_pos (by omega)] | rw [if_neg (by omega)] | skip); (first | rw [if_pos hc69] | rw [if_neg hc69] | rw [if_pos (by omega)] | rw [if_neg (by omega)] | skip); (first | rw [if_pos hc77] | rw [if_neg hc77] | rw [if_pos (by omega)] | rw [if_neg (by omega)] | skip); (first | rw [if_pos hc94] | rw [if_neg hc94] | rw [if_pos (by omega)] | rw [if_neg (by omega)] | skip); (try unfold fTkE); (try unfold fTkS); (first | rw [if_pos hc168] | rw [if_neg hc168] | rw [if_pos (by omega)] | rw [if_neg (by omega)] | skip); (first | rw [if_pos hc252] | rw [if_neg hc252] | rw [if_pos (by omega)] | rw [if_neg (by omega)] | skip); try rfl) d_Mod_taken_260
              · refine J_iload C d_Mod_taken_171 rfl ?_
                refine J_ifN_ne C 189 d_Mod_taken_173 (by decide) (by omega) (fun hc173 => ?_) (fun hc173 => ?_)
                · refine J_iload C d_Mod_taken_189 rfl ?_
                  refine J_iconst C d_Mod_taken_191 (v := nI 1) rfl ?_
                  refine J_icmpN_ne C 208 d_Mod_taken_192 (by decide) (by omega) (by omega) (fun hc192 => ?_) (fun hc192 => ?_)
                  · refine J_iconst C d_Mod_taken_208 (v := nI 1) rfl ?_
                    refine J_istore C d_Mod_taken_209 (by decide) rfl ?_
                    refine J_iload C d_Mod_taken_211 rfl ?_
                    refine J_ifN_eq C 230 d_Mod_taken_213 (by decide) (by omega) (fun hc213 => absurd hc213 (by decide)) (fun hc213 => ?_)
                    refine J_aload_n C 0 d_Mod_taken_216 rfl rfl ?_
                    refine J_aload_n C 0 d_Mod_taken_217 rfl rfl ?_
                    refine J_get C f_Mod_39 (by decide) (e_76 _) rfl d_Mod_taken_218 ?_
                    refine J_val (y := nI (vX M)) hv1 ?_
                    refine J_iconst C d_Mod_taken_221 (v := nI 1) rfl ?_
                    refine J_iaddN C d_Mod_taken_222 ?_
                    refine J_sipush C d_Mod_taken_223 (v := nI 256) rfl ?_
                    refine J_iremN C d_Mod_taken_226 (by omega) (by omega) (by omega) ?_
                    refine K_putI C f_Mod_39 (by decide) (e_76 _) (Nat.le_of_ble_eq_true rfl) rfl d_Mod_taken_227 (kk := ?_)
                    refine J_aload_n C 0 d_Mod_taken_230 rfl rfl ?_
                    refine J_iload C d_Mod_taken_231 rfl ?_
                    refine J_ifN_eq C 240 d_Mod_taken_233 (by decide) (by omega) (fun hc233 => absurd hc233 (by decide)) (fun hc233 => ?_)
                    refine J_iconst C d_Mod_taken_236 (v := nI 0) rfl ?_
                    refine J_goto C 241 d_Mod_taken_237 (by decide) ?_
                    refine K_putI C f_Mod_42 (by decide) (e_76 _) (Nat.le_of_ble_eq_true rfl) rfl d_Mod_taken_241 (kk := ?_)
                    refine J_goto C 260 d_Mod_taken_244 (by decide) ?_
                    exact F_ret C hr (by first | contradiction | (unfold fTk; (first | rw [if_pos hc22] | rw [if_neg hc22] | rw [if_pos (by omega)] | rw [if_neg (by omega)] | skip); (first | rw [if_pos hc41] | rw [if_neg hc41] | rw [if_pos (by omega)] | rw [if_neg (by omega)] | skip); (first | rw [if_pos hc51] | rw [if_neg hc51] | rw [if_pos (by omega)] | rw [if_neg (by omega)] | skip); (first | rw [if_pos hc69] | rw [if_neg hc69] | rw [if_pos (by omega)] | rw [if_neg (by omega)] | skip); (first | rw [if_pos hc77] | rw [if_neg hc77] | rw [if_pos (by omega)] | rw [if_neg (by omega)] | skip); (first | rw [if_pos hc94] | rw [if_neg hc94] | rw [if_pos (by omega)] | rw [if_neg (by omega)] | skip); (try unfold fTkE); (try unfold fTkS); (first | rw [if_pos hc168] | rw [if_neg hc168] | rw [if_pos (by omega)] | rw [if_neg (by omega)] | skip); (first | rw [if_pos hc173] | rw [if_neg hc173] | rw [if_pos (by omega)] | rw [if_neg (by omega)] | skip); (try unfold fTk3); (first | rw [if_pos hc192] | rw [if_neg hc192] | rw [if_pos (by omega)] | rw [if_neg (by omega)] | skip); (try unfold fTk3); (first | rw [if_pos hc213] | rw [if_neg hc213] | skip); (first | rw [if_pos hc233] | rw [if_neg hc233] | skip); try rfl)) d_Mod_taken_260
                  · refine J_aload_n C 0 d_Mod_taken_195 rfl rfl ?_
                    refine J_bipush C d_Mod_taken_196 (v := nI 8) rfl ?_
                    refine J_iconst C d_Mod_taken_198 (v := nI 3) rfl ?_
                    refine J_iload_n C 1 d_Mod_taken_199 rfl rfl ?_
                    refine J_iaddN C d_Mod_taken_200 ?_
                    refine J_iconst C d_Mod_taken_201 (v := nI 1) rfl ?_
                    refine F_callV C (as := [.int (nI 8), .int (nI (3 + t)), .int (nI 1)]) (st := []) (fm_segmentIn' l D dA M (3 + t) (nI 1) g hX hT ho (by omega) (by omega) hg3 hg23 (Or.inr rfl)) l_Mod_136 v_Mod_segmentIn (by decide) (e_76 _) rfl (by decide) (by decide) (Nat.le_of_ble_eq_true rfl) d_Mod_taken_202 (kk := ?_)
                    refine J_goto C 209 d_Mod_taken_205 (by decide) ?_
                    refine J_istore C d_Mod_taken_209 (by decide) rfl ?_
                    refine J_iload C d_Mod_taken_211 rfl ?_
                    refine J_if_eq C 230 d_Mod_taken_213 (by decide) (fun hc213 => ?_) (fun hc213 => ?_)
                    · refine J_aload_n C 0 d_Mod_taken_230 rfl rfl ?_
                      refine J_iload C d_Mod_taken_231 rfl ?_
                      refine J_if_eq C 240 d_Mod_taken_233 (by decide) (fun hc233 => ?_) (fun hc233 => ?_)
                      · refine J_iconst C d_Mod_taken_240 (v := nI 1) rfl ?_
                        refine K_putI C f_Mod_42 (by decide) (e_76 _) (Nat.le_of_ble_eq_true rfl) rfl d_Mod_taken_241 (kk := ?_)
                        refine J_goto C 260 d_Mod_taken_244 (by decide) ?_
                        exact F_ret C hr (by first | contradiction | (unfold fTk; (first | rw [if_pos hc22] | rw [if_neg hc22] | rw [if_pos (by omega)] | rw [if_neg (by omega)] | skip); (first | rw [if_pos hc41] | rw [if_neg hc41] | rw [if_pos (by omega)] | rw [if_neg (by omega)] | skip); (first | rw [if_pos hc51] | rw [if_neg hc51] | rw [if_pos (by omega)] | rw [if_neg (by omega)] | skip); (first | rw [if_pos hc69] | rw [if_neg hc69] | rw [if_pos (by omega)] | rw [if_neg (by omega)] | skip); (first | rw [if_pos hc77] | rw [if_neg hc77] | rw [if_pos (by omega)] | rw [if_neg (by omega)] | skip); (first | rw [if_pos hc94] | rw [if_neg hc94] | rw [if_pos (by omega)] | rw [if_neg (by omega)] | skip); (try unfold fTkE); (try unfold fTkS); (first | rw [if_pos hc168] | rw [if_neg hc168] | rw [if_pos (by omega)] | rw [if_neg (by omega)] | skip); (first | rw [if_pos hc173] | rw [if_neg hc173] | rw [if_pos (by omega)] | rw [if_neg (by omega)] | skip); (try unfold fTk3); (first | rw [if_pos hc192] | rw [if_neg hc192] | rw [if_pos (by omega)] | rw [if_neg (by omega)] | skip); (try unfold fTk3); (first | rw [if_pos hc213] | rw [if_neg hc213] | skip); (first | rw [if_pos hc233] | rw [if_neg hc233] | skip); try rfl)) d_Mod_taken_260
                      · refine J_iconst C d_Mod_taken_236 (v := nI 0) rfl ?_
                        refine J_goto C 241 d_Mod_taken_237 (by decide) ?_
                        refine K_putI C f_Mod_42 (by decide) (e_76 _) (Nat.le_of_ble_eq_true rfl) rfl d_Mod_taken_241 (kk := ?_)
                        refine J_goto C 260 d_Mod_taken_244 (by decide) ?_
                        exact F_ret C hr (by first | contradiction | (unfold fTk; (first | rw [if_pos hc22] | rw [if_neg hc22] | rw [if_pos (by omega)] | rw [if_neg (by omega)] | skip); (first | rw [if_pos hc41] | rw [if_neg hc41] | rw [if_pos (by omega)] | rw [if_neg (by omega)] | skip); (first | rw [if_pos hc51] | rw [if_neg hc51] | rw [if_pos (by omega)] | rw [if_neg (by omega)] | skip); (first | rw [if_pos hc69] | rw [if_neg hc69] | rw [if_pos (by omega)] | rw [if_neg (by omega)] | skip); (first | rw [if_pos hc77] | rw [if_neg hc77] | rw [if_pos (by omega)] | rw [if_neg (by omega)] | skip); (first | rw [if_pos hc94] | rw [if_neg hc94] | rw [if_pos (by omega)] | rw [if_neg (by omega)] | skip); (try unfold fTkE); (try unfold fTkS); (first | rw [if_pos hc168] | rw [if_neg hc168] | rw [if_pos (by omega)] | rw [if_neg (by omega)] | skip); (first | rw [if_pos hc173] | rw [if_neg hc173] | rw [if_pos (by omega)] | rw [if_neg (by omega)] | skip); (try unfold fTk3); (first | rw [if_pos hc192] | rw [if_neg hc192] | rw [if_pos (by omega)] | rw [if_neg (by omega)] | skip); (try unfold fTk3); (first | rw [if_pos hc213] | rw [if_neg hc213] | skip); (first | rw [if_pos hc233] | rw [if_neg hc233] | skip); try rfl)) d_Mod_taken_260
                    · refine J_aload_n C 0 d_Mod_taken_216 rfl rfl ?_
                      refine J_aload_n C 0 d_Mod_taken_217 rfl rfl ?_
                      refine J_get C f_Mod_39 (by decide) (e_76 _) rfl d_Mod_taken_218 ?_
                      refine J_val (y := nI (vX M)) (by first | exact hv1 | (rw [fPIn_k _ _ _ _ (by decide) (by decide) (by decide) (by decide) (by decide) (by decide)]; exact hv1) | (rw [fSgX_k _ _ _ _ (by decide) (by decide) (by decide) (by decide) (by decide) (by decide)]; exact hv1)) ?_
                      refine J_iconst C d_Mod_taken_221 (v := nI 1) rfl ?_
                      refine J_iaddN C d_Mod_taken_222 ?_
                      refine J_sipush C d_Mod_taken_223 (v := nI 256) rfl ?_
                      refine J_iremN C d_Mod_taken_226 (by omega) (by omega) (by omega) ?_
                      refine K_putI C f_Mod_39 (by decide) (e_76 _) (Nat.le_of_ble_eq_true rfl) rfl d_Mod_taken_227 (kk := ?_)
                      refine J_aload_n C 0 d_Mod_taken_230 rfl rfl ?_
                      refine J_iload C d_Mod_taken_231 rfl ?_
                      refine J_if_eq C 240 d_Mod_taken_233 (by decide) (fun hc233 => ?_) (fun hc233 => ?_)
                      · refine J_iconst C d_Mod_taken_240 (v := nI 1) rfl ?_
                        refine K_putI C f_Mod_42 (by decide) (e_76 _) (Nat.le_of_ble_eq_true rfl) rfl d_Mod_taken_241 (kk := ?_)
                        refine J_goto C 260 d_Mod_taken_244 (by decide) ?_
                        exact F_ret C hr (by first | contradiction | (unfold fTk; (first | rw [if_pos hc22] | rw [if_neg hc22] | rw [if_pos (by omega)] | rw [if_neg (by omega)] | skip); (first | rw [if_pos hc41] | rw [if_neg hc41] | rw [if_pos (by omega)] | rw [if_neg (by omega)] | skip); (first | rw [if_pos hc51] | rw [if_neg hc51] | rw [if_pos (by omega)] | rw [if_neg (by omega)] | skip); (first | rw [if_pos hc69] | rw [if_neg hc69] | rw [if_pos (by omega)] | rw [if_neg (by omega)] | skip); (first | rw [if_pos hc77] | rw [if_neg hc77] | rw [if_pos (by omega)] | rw [if_neg (by omega)] | skip); (first | rw [if_pos hc94] | rw [if_neg hc94] | rw [if_pos (by omega)] | rw [if_neg (by omega)] | skip); (try unfold fTkE); (try unfold fTkS); (first | rw [if_pos hc168] | rw [if_neg hc168] | rw [if_pos (by omega)] | rw [if_neg (by omega)] | skip); (first | rw [if_pos hc173] | rw [if_neg hc173] | rw [if_pos (by omega)] | rw [if_neg (by omega)] | skip); (try unfold fTk3); (first | rw [if_pos hc192] | rw [if_neg hc192] | rw [if_pos (by omega)] | rw [if_neg (by omega)] | skip); (try unfold fTk3); (first | rw [if_pos hc213] | rw [if_neg hc213] | skip); (first | rw [if_pos hc233] | rw [if_neg hc233] | skip); try rfl)) d_Mod_taken_260
                      · refine J_iconst C d_Mod_taken_236 (v := nI 0) rfl ?_
                        refine J_goto C 241 d_Mod_taken_237 (by decide) ?_
                        refine K_putI C f_Mod_42 (by decide) (e_76 _) (Nat.le_of_ble_eq_true rfl) rfl d_Mod_taken_241 (kk := ?_)
                        refine J_goto C 260 d_Mod_taken_244 (by decide) ?_
                        exact F_ret C hr (by first | contradiction | (unfold fTk; (first | rw [if_pos hc22] | rw [if_neg hc22] | rw [if_pos (by omega)] | rw [if_neg (by omega)] | skip); (first | rw [if_pos hc41] | rw [if_neg hc41] | rw [if_pos (by omega)] | rw [if_neg (by omega)] | skip); (first | rw [if_pos hc51] | rw [if_neg hc51] | rw [if_pos (by omega)] | rw [if_neg (by omega)] | skip); (first | rw [if_pos hc69] | rw [if_neg hc69] | rw [if_pos (by omega)] | rw [if_neg (by omega)] | skip); (first | rw [if_pos hc77] | rw [if_neg hc77] | rw [if_pos (by omega)] | rw [if_neg (by omega)] | skip); (first | rw [if_pos hc94] | rw [if_neg hc94] | rw [if_pos (by omega)] | rw [if_neg (by omega)] | skip); (try unfold fTkE); (try unfold fTkS); (first | rw [if_pos hc168] | rw [if_neg hc168] | rw [if_pos (by omega)] | rw [if_neg (by omega)] | skip); (first | rw [if_pos hc173] | rw [if_neg hc173] | rw [if_pos (by omega)] | rw [if_neg (by omega)] | skip); (try unfold fTk3); (first | rw [if_pos hc192] | rw [if_neg hc192] | rw [if_pos (by omega)] | rw [if_neg (by omega)] | skip); (try unfold fTk3); (first | rw [if_pos hc213] | rw [if_neg hc213] | skip); (first | rw [if_pos hc233] | rw [if_neg hc233] | skip); try rfl)) d_Mod_taken_260
                · refine J_aload_n C 0 d_Mod_taken_176 rfl rfl ?_
                  refine J_bipush C d_Mod_taken_177 (v := nI 8) rfl ?_
                  refine J_iconst C d_Mod_taken_179 (v := nI 3) rfl ?_
                  refine J_iload_n C 1 d_Mod_taken_180 rfl rfl ?_
                  refine J_iaddN C d_Mod_taken_181 ?_
                  refine J_iconst C d_Mod_taken_182 (v := nI 1) rfl ?_
                  refine F_callV C (as := [.int (nI 8), .int (nI (3 + t)), .int (nI 1)]) (st := []) (fm_packetsIn' l D dA M (3 + t) (nI 1) g hX (by omega) (by omega) hg3 hg23) l_Mod_132 v_Mod_packetsIn (by decide) (e_76 _) rfl (by decide) (by decide) (Nat.le_of_ble_eq_true rfl) d_Mod_taken_183 (kk := ?_)
                  refine J_goto C 209 d_Mod_taken_186 (by decide) ?_
                  refine J_istore C d_Mod_taken_209 (by decide) rfl ?_
                  refine J_iload C d_Mod_taken_211 rfl ?_
                  refine J_if_eq C 230 d_Mod_taken_213 (by decide) (fun hc213 => ?_) (fun hc213 => ?_)
                  · refine J_aload_n C 0 d_Mod_taken_230 rfl rfl ?_
                    refine J_iload C d_Mod_taken_231 rfl ?_
                    refine J_if_eq C 240 d_Mod_taken_233 (by decide) (fun hc233 => ?_) (fun hc233 => ?_)
                    · refine J_iconst C d_Mod_taken_240 (v := nI 1) rfl ?_
                      refine K_putI C f_Mod_42 (by decide) (e_76 _) (Nat.le_of_ble_eq_true rfl) rfl d_Mod_taken_241 (kk := ?_)
                      refine J_goto C 260 d_Mod_taken_244 (by decide) ?_
                      exact F_ret C hr (by first | contradiction | (unfold fTk; (first | rw [if_pos hc22] | rw [if_neg hc22] | rw [if_pos (by omega)] | rw [if_neg (by omega)] | skip); (first | rw [if_pos hc41] | rw [if_neg hc41] | rw [if_pos (by omega)] | rw [if_neg (by omega)] | skip); (first | rw [if_pos hc51] | rw [if_neg hc51] | rw [if_pos (by omega)] | rw [if_neg (by omega)] | skip); (first | rw [if_pos hc69] | rw [if_neg hc69] | rw [if_pos (by omega)] | rw [if_neg (by omega)] | skip); (first | rw [if_pos hc77] | rw [if_neg hc77] | rw [if_pos (by omega)] | rw [if_neg (by omega)] | skip); (first | rw [if_pos hc94] | rw [if_neg hc94] | rw [if_pos (by omega)] | rw [if_neg (by omega)] | skip); (try unfold fTkE); (try unfold fTkS); (first | rw [if_pos hc168] | rw [if_neg hc168] | rw [if_pos (by omega)] | rw [if_neg (by omega)] | skip); (first | rw [if_pos hc173] | rw [if_neg hc173] | rw [if_pos (by omega)] | rw [if_neg (by omega)] | skip); (try unfold fTk3); (first | rw [if_pos hc213] | rw [if_neg hc213] | skip); (first | rw [if_pos hc233] | rw [if_neg hc233] | skip); try rfl)) d_Mod_taken_260
                    · refine J_iconst C d_Mod_taken_236 (v := nI 0) rfl ?_
                      refine J_goto C 241 d_Mod_taken_237 (by decide) ?_
                      refine K_putI C f_Mod_42 (by decide) (e_76 _) (Nat.le_of_ble_eq_true rfl) rfl d_Mod_taken_241 (kk := ?_)
                      refine J_goto C 260 d_Mod_taken_244 (by decide) ?_
                      exact F_ret C hr (by first | contradiction | (unfold fTk; (first | rw [if_pos hc22] | rw [if_neg hc22] | rw [if_pos (by omega)] | rw [if_neg (by omega)] | skip); (first | rw [if_pos hc41] | rw [if_neg hc41] | rw [if_pos (by omega)] | rw [if_neg (by omega)] | skip); (first | rw [if_pos hc51] | rw [if_neg hc51] | rw [if_pos (by omega)] | rw [if_neg (by omega)] | skip); (first | rw [if_pos hc69] | rw [if_neg hc69] | rw [if_pos (by omega)] | rw [if_neg (by omega)] | skip); (first | rw [if_pos hc77] | rw [if_neg hc77] | rw [if_pos (by omega)] | rw [if_neg (by omega)] | skip); (first | rw [if_pos hc94] | rw [if_neg hc94] | rw [if_pos (by omega)] | rw [if_neg (by omega)] | skip); (try unfold fTkE); (try unfold fTkS); (first | rw [if_pos hc168] | rw [if_neg hc168] | rw [if_pos (by omega)] | rw [if_neg (by omega)] | skip); (first | rw [if_pos hc173] | rw [if_neg hc173] | rw [if_pos (by omega)] | rw [if_neg (by omega)] | skip); (try unfold fTk3); (first | rw [if_pos hc213] | rw [if_neg hc213] | skip); (first | rw [if_pos hc233] | rw [if_neg hc233] | skip); try rfl)) d_Mod_taken_260
                  · refine J_aload_n C 0 d_Mod_taken_216 rfl rfl ?_
                    refine J_aload_n C 0 d_Mod_taken_217 rfl rfl ?_
                    refine J_get C f_Mod_39 (by decide) (e_76 _) rfl d_Mod_taken_218 ?_
                    refine J_val (y := nI (vX M)) (by first | exact hv1 | (rw [fPIn_k _ _ _ _ (by decide) (by decide) (by decide) (by decide) (by decide) (by decide)]; exact hv1) | (rw [fSgX_k _ _ _ _ (by decide) (by decide) (by decide) (by decide) (by decide) (by decide)]; exact hv1)) ?_
                    refine J_iconst C d_Mod_taken_221 (v := nI 1) rfl ?_
                    refine J_iaddN C d_Mod_taken_222 ?_
                    refine J_sipush C d_Mod_taken_223 (v := nI 256) rfl ?_
                    refine J_iremN C d_Mod_taken_226 (by omega) (by omega) (by omega) ?_
                    refine K_putI C f_Mod_39 (by decide) (e_76 _) (Nat.le_of_ble_eq_true rfl) rfl d_Mod_taken_227 (kk := ?_)
                    refine J_aload_n C 0 d_Mod_taken_230 rfl rfl ?_
                    refine J_iload C d_Mod_taken_231 rfl ?_
                    refine J_if_eq C 240 d_Mod_taken_233 (by decide) (fun hc233 => ?_) (fun hc233 => ?_)
                    · refine J_iconst C d_Mod_taken_240 (v := nI 1) rfl ?_
                      refine K_putI C f_Mod_42 (by decide) (e_76 _) (Nat.le_of_ble_eq_true rfl) rfl d_Mod_taken_241 (kk := ?_)
                      refine J_goto C 260 d_Mod_taken_244 (by decide) ?_
                      exact F_ret C hr (by first | contradiction | (unfold fTk; (first | rw [if_pos hc22] | rw [if_neg hc22] | rw [if_pos (by omega)] | rw [if_neg (by omega)] | skip); (first | rw [if_pos hc41] | rw [if_neg hc41] | rw [if_pos (by omega)] | rw [if_neg (by omega)] | skip); (first | rw [if_pos hc51] | rw [if_neg hc51] | rw [if_pos (by omega)] | rw [if_neg (by omega)] | skip); (first | rw [if_pos hc69] | rw [if_neg hc69] | rw [if_pos (by omega)] | rw [if_neg (by omega)] | skip); (first | rw [if_pos hc77] | rw [if_neg hc77] | rw [if_pos (by omega)] | rw [if_neg (by omega)] | skip); (first | rw [if_pos hc94] | rw [if_neg hc94] | rw [if_pos (by omega)] | rw [if_neg (by omega)] | skip); (try unfold fTkE); (try unfold fTkS); (first | rw [if_pos hc168] | rw [if_neg hc168] | rw [if_pos (by omega)] | rw [if_neg (by omega)] | skip); (first | rw [if_pos hc173] | rw [if_neg hc173] | rw [if_pos (by omega)] | rw [if_neg (by omega)] | skip); (try unfold fTk3); (first | rw [if_pos hc213] | rw [if_neg hc213] | skip); (first | rw [if_pos hc233] | rw [if_neg hc233] | skip); try rfl)) d_Mod_taken_260
                    · refine J_iconst C d_Mod_taken_236 (v := nI 0) rfl ?_
                      refine J_goto C 241 d_Mod_taken_237 (by decide) ?_
                      refine K_putI C f_Mod_42 (by decide) (e_76 _) (Nat.le_of_ble_eq_true rfl) rfl d_Mod_taken_241 (kk := ?_)
                      refine J_goto C 260 d_Mod_taken_244 (by decide) ?_
                      exact F_ret C hr (by first | contradiction | (unfold fTk; (first | rw [if_pos hc22] | rw [if_neg hc22] | rw [if_pos (by omega)] | rw [if_neg (by omega)] | skip); (first | rw [if_pos hc41] | rw [if_neg hc41] | rw [if_pos (by omega)] | rw [if_neg (by omega)] | skip); (first | rw [if_pos hc51] | rw [if_neg hc51] | rw [if_pos (by omega)] | rw [if_neg (by omega)] | skip); (first | rw [if_pos hc69] | rw [if_neg hc69] | rw [if_pos (by omega)] | rw [if_neg (by omega)] | skip); (first | rw [if_pos hc77] | rw [if_neg hc77] | rw [if_pos (by omega)] | rw [if_neg (by omega)] | skip); (first | rw [if_pos hc94] | rw [if_neg hc94] | rw [if_pos (by omega)] | rw [if_neg (by omega)] | skip); (try unfold fTkE); (try unfold fTkS); (first | rw [if_pos hc168] | rw [if_neg hc168] | rw [if_pos (by omega)] | rw [if_neg (by omega)] | skip); (first | rw [if_pos hc173] | rw [if_neg hc173] | rw [if_pos (by omega)] | rw [if_neg (by omega)] | skip); (try unfold fTk3); (first | rw [if_pos hc213] | rw [if_neg hc213] | skip); (first | rw [if_pos hc233] | rw [if_neg hc233] | skip); try rfl)) d_Mod_taken_260
            · refine J_aload_n C 0 d_Mod_taken_97 rfl rfl ?_
              refine J_aload_n C 0 d_Mod_taken_98 rfl rfl ?_
              refine J_get C f_Mod_45 (by decide) (e_76 _) rfl d_Mod_taken_99 ?_
              refine J_val (y := nI (kX M)) hk1 ?_
              refine J_iconst C d_Mod_taken_102 (v := nI 1) rfl ?_
              refine J_iaddN C d_Mod_taken_103 ?_
              refine J_bipush C d_Mod_taken_104 (v := nI 8) rfl ?_
              refine J_iremN C d_Mod_taken_106 (by omega) (by omega) (by omega) ?_
              refine K_putI C f_Mod_45 (by decide) (e_76 _) (Nat.le_of_ble_eq_true rfl) rfl d_Mod_taken_107 (kk := ?_)
              refine J_iload C d_Mod_taken_110 rfl ?_
              refine J_ifN_ne C 126 d_Mod_taken_112 (by decide) (by omega) (fun hc112 => ?_) (fun hc112 => ?_)
              · refine J_iload C d_Mod_taken_126 rfl ?_
                refine J_iconst C d_Mod_taken_128 (v := nI 1) rfl ?_
                refine J_icmpN_ne C 143 d_Mod_taken_129 (by decide) (by omega) (by omega) (fun hc129 => ?_) (fun hc129 => ?_)
                · exact F_ret C hr (by unfold fTk; (first | rw [if_pos hc22] | rw [if_neg hc22] | rw [if_pos (by omega)] | rw [if_neg (by omega)] | skip); (first | rw [if_pos hc41] | rw [if_neg hc41] | rw [if_pos (by omega)] | rw [if_neg (by omega)] | skip); (first | rw [if_pos hc51] | rw [if_neg hc51] | rw [if_pos (by omega)] | rw [if_neg (by omega)] | skip); (first | rw [if_pos hc69] | rw [if_neg hc69] | rw [if_pos (by omega)] | rw [if_neg (by omega)] | skip); (first | rw [if_pos hc77] | rw [if_neg hc77] | rw [if_pos (by omega)] | rw [if_neg (by omega)] | skip); (first | rw [if_pos hc94] | rw [if_neg hc94] | rw [if_pos (by omega)] | rw [if_neg (by omega)] | skip); (try unfold fTkE); (try unfold fTkS); (first | rw [if_pos hc112] | rw [if_neg hc112] | rw [if_pos (by omega)] | rw [if_neg (by omega)] | skip); (first | rw [if_pos hc129] | rw [if_neg hc129] | rw [if_pos (by omega)] | rw [if_neg (by omega)] | skip); try rfl) d_Mod_taken_143
                · refine J_aload_n C 0 d_Mod_taken_132 rfl rfl ?_
                  refine J_bipush C d_Mod_taken_133 (v := nI 8) rfl ?_
                  refine J_iconst C d_Mod_taken_135 (v := nI 3) rfl ?_
                  refine J_iload_n C 1 d_Mod_taken_136 rfl rfl ?_
                  refine J_iaddN C d_Mod_taken_137 ?_
                  refine J_iconst C d_Mod_taken_138 (v := nI 0) rfl ?_
                  refine F_callV C (as := [.int (nI 8), .int (nI (3 + t)), .int (nI 0)]) (st := []) (fm_segmentIn' l D dA (mu M 76 11 (nI (((kX M) + 1) % 8))) (3 + t) (nI 0) g (hX.k _ (by decide) (by decide)) hT ho (by omega) (by omega) hg3 hg23 (Or.inl rfl)) l_Mod_136 v_Mod_segmentIn (by decide) (e_76 _) rfl (by decide) (by decide) (Nat.le_of_ble_eq_true rfl) d_Mod_taken_139 (kk := ?_)
                  refine J_pop C d_Mod_taken_142 rfl ?_
                  exact F_ret C hr (by unfold fTk; (first | rw [if_pos hc22] | rw [if_neg hc22] | rw [if_pos (by omega)] | rw [if_neg (by omega)] | skip); (first | rw [if_pos hc41] | rw [if_neg hc41] | rw [if_pos (by omega)] | rw [if_neg (by omega)] | skip); (first | rw [if_pos hc51] | rw [if_neg hc51] | rw [if_pos (by omega)] | rw [if_neg (by omega)] | skip); (first | rw [if_pos hc69] | rw [if_neg hc69] | rw [if_pos (by omega)] | rw [if_neg (by omega)] | skip); (first | rw [if_pos hc77] | rw [if_neg hc77] | rw [if_pos (by omega)] | rw [if_neg (by omega)] | skip); (first | rw [if_pos hc94] | rw [if_neg hc94] | rw [if_pos (by omega)] | rw [if_neg (by omega)] | skip); (try unfold fTkE); (try unfold fTkS); (first | rw [if_pos hc112] | rw [if_neg hc112] | rw [if_pos (by omega)] | rw [if_neg (by omega)] | skip); (first | rw [if_pos hc129] | rw [if_neg hc129] | rw [if_pos (by omega)] | rw [if_neg (by omega)] | skip); try rfl) d_Mod_taken_143
              · refine J_aload_n C 0 d_Mod_taken_115 rfl rfl ?_
                refine J_bipush C d_Mod_taken_116 (v := nI 8) rfl ?_
                refine J_iconst C d_Mod_taken_118 (v := nI 3) rfl ?_
                refine J_iload_n C 1 d_Mod_taken_119 rfl rfl ?_
                refine J_iaddN C d_Mod_taken_120 ?_
                refine J_iconst C d_Mod_taken_121 (v := nI 0) rfl ?_
                refine F_callV C (as := [.int (nI 8), .int (nI (3 + t)), .int (nI 0)]) (st := []) (fm_packetsIn' l D dA (mu M 76 11 (nI (((kX M) + 1) % 8))) (3 + t) (nI 0) g (hX.k _ (by decide) (by decide)) (by omega) (by omega) hg3 hg23) l_Mod_132 v_Mod_packetsIn (by decide) (e_76 _) rfl (by decide) (by decide) (Nat.le_of_ble_eq_true rfl) d_Mod_taken_122 (kk := ?_)
                refine J_pop C d_Mod_taken_125 rfl ?_
                refine J_iload C d_Mod_taken_126 rfl ?_
                refine J_iconst C d_Mod_taken_128 (v := nI 1) rfl ?_
                refine J_icmpN_ne C 143 d_Mod_taken_129 (by decide) (by omega) (by omega) (fun hc129 => ?_) (fun hc129 => ?_)
                · exact F_ret C hr (by unfold fTk; (first | rw [if_pos hc22] | rw [if_neg hc22] | rw [if_pos (by omega)] | rw [if_neg (by omega)] | skip); (first | rw [if_pos hc41] | rw [if_neg hc41] | rw [if_pos (by omega)] | rw [if_neg (by omega)] | skip); (first | rw [if_pos hc51] | rw [if_neg hc51] | rw [if_pos (by omega)] | rw [if_neg (by omega)] | skip); (first | rw [if_pos hc69] | rw [if_neg hc69] | rw [if_pos (by omega)] | rw [if_neg (by omega)] | skip); (first | rw [if_pos hc77] | rw [if_neg hc77] | rw [if_pos (by omega)] | rw [if_neg (by omega)] | skip); (first | rw [if_pos hc94] | rw [if_neg hc94] | rw [if_pos (by omega)] | rw [if_neg (by omega)] | skip); (try unfold fTkE); (try unfold fTkS); (first | rw [if_pos hc112] | rw [if_neg hc112] | rw [if_pos (by omega)] | rw [if_neg (by omega)] | skip); (first | rw [if_pos hc129] | rw [if_neg hc129] | rw [if_pos (by omega)] | rw [if_neg (by omega)] | skip); try rfl) d_Mod_taken_143
                · exfalso; omega
          · exact F_ret C hr (by unfold fTk; (first | rw [if_pos hc22] | rw [if_neg hc22] | rw [if_pos (by omega)] | rw [if_neg (by omega)] | skip); (first | rw [if_pos hc41] | rw [if_neg hc41] | rw [if_pos (by omega)] | rw [if_neg (by omega)] | skip); (first | rw [if_pos hc51] | rw [if_neg hc51] | rw [if_pos (by omega)] | rw [if_neg (by omega)] | skip); (first | rw [if_pos hc69] | rw [if_neg hc69] | rw [if_pos (by omega)] | rw [if_neg (by omega)] | skip); (first | rw [if_pos hc77] | rw [if_neg hc77] | rw [if_pos (by omega)] | rw [if_neg (by omega)] | skip); try rfl) d_Mod_taken_80
      · refine J_aload_n C 0 d_Mod_taken_54 rfl rfl ?_
        refine J_bipush C d_Mod_taken_55 (v := nI 8) rfl ?_
        refine J_iconst C d_Mod_taken_57 (v := nI 3) rfl ?_
        refine J_iload_n C 1 d_Mod_taken_58 rfl rfl ?_
        refine J_iaddN C d_Mod_taken_59 ?_
        refine J_iload_n C 3 d_Mod_taken_60 rfl rfl ?_
        refine F_callV C (as := [.int (nI 8), .int (nI (3 + t)), .int (nI (g 5 / 128))]) (st := []) (fm_directive l D dA M (3 + t) (nI (g 5 / 128)) g (by omega) (by omega) hg3 hg23) l_Mod_128 v_Mod_directive (by decide) (e_76 _) rfl (by decide) (by decide) (Nat.le_of_ble_eq_true rfl) d_Mod_taken_61 (kk := ?_)
        exact F_ret C hr (by unfold fTk; (first | rw [if_pos hc22] | rw [if_neg hc22] | rw [if_pos (by omega)] | rw [if_neg (by omega)] | skip); (first | rw [if_pos hc41] | rw [if_neg hc41] | rw [if_pos (by omega)] | rw [if_neg (by omega)] | skip); (first | rw [if_pos hc51] | rw [if_neg hc51] | rw [if_pos (by omega)] | rw [if_neg (by omega)] | skip); try rfl) d_Mod_taken_64
    · exact F_ret C hr (by unfold fTk; (first | rw [if_pos hc22] | rw [if_neg hc22] | rw [if_pos (by omega)] | rw [if_neg (by omega)] | skip); (first | rw [if_pos hc41] | rw [if_neg hc41] | rw [if_pos (by omega)] | rw [if_neg (by omega)] | skip); try rfl) d_Mod_taken_44
