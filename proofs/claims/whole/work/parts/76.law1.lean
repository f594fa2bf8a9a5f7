/-- contracts of the law's own methods, by a predicate: at most one cell of six places is made (an exception) -/
def CMw (l : Launch) (D : va_G) (dA : Nat → ClassId) (k : zK) (hs : List (Nat × Nat × Nat × Nat)) (d : Nat) (as : List Value) (M : Mem) (P : Option Value → Mem → Prop) : Prop := CTw l D dA k hs d 1 6 90 as (E M) (fun v h' n' => n' = 90 ∧ ∃ M1, h' = E M1 ∧ P v M1)
section ZCW
variable {D : va_G} {dA : Nat → ClassId} {A : Nat → Prop} {Φ : Heap → List Loc → Prop} {ad0 : Nat → Nat} {n0 nL : Nat} {p : Program} {l : Launch} {e : Env} {R : Room} {s : State} {m : MethodId} {args : Array Value} {below : List Frame} {meth : Method} {c : Code} {Q : State → Prop} {pc : Nat} {lv : List (Option Value)} {st : List Value} {h : Nat → va_E} {n kc ks : Nat} {own : String} {cc : ByteArray} {M : Mem}
theorem WK_iret (C : Cx D dA A ad0 own cc nL p R s m args meth c) {PP : Option Value → Mem → Prop} {v : Int32} (hr : meth.sig.returnType = some .int) (hP : PP (some (.int v)) M) (hk : kc ≤ 1) (hks : ks ≤ 6) (hd : decode cc pc = .ok (.ireturn, 1)) : J D dA A Φ ad0 90 nL p l e R s m args below meth c (MQ below (zQc D dA A ad0 90 (fun v h' n' => n' = 90 ∧ ∃ M1, h' = E M1 ∧ PP v M1)) args s 1 6 A) pc lv [.int v] (E M) 90 kc ks :=
  J_widen hk hks (J_ireturn C hr (Nat.le_refl _) ⟨rfl, M, rfl, hP⟩ hd)
end ZCW
/-- the reference, from M, comes to Y with the answer r: whatever stands in the class's places -/
def RO (l : Launch) (D : va_G) (dA : Nat → ClassId) (k : zK) (d : Nat) (as : List Value) (M : Mem) (r : Option Value) (Y : Mem) : Prop := ∀ A, CF l D dA k d as (mg A M) r (mg A Y)
def LPo (l : Launch) (D : va_G) (dA : Nat → ClassId) (k : zK) (d : Nat) (as : List Value) (n' : Nat) (M : Mem) (v : Option Value) (M1 : Mem) : Prop := (∀ p, 76 ≤ p → p < 89 → M1 p = M p) ∧ ∃ (kk : Nat) (Y : Mem) (b : Int32), v = some (.int (nI kk)) ∧ kk < 4 ∧ RO l D dA k d as M (some (.int b)) Y ∧ Y 76 0 = nI kk ∧ Rel n' M1 Y ∧ (kk = 0 → M1 89 0 = b)
def LPz (l : Launch) (D : va_G) (dA : Nat → ClassId) (k : zK) (d : Nat) (as : List Value) (n' : Nat) (M : Mem) (v : Option Value) (M1 : Mem) : Prop := (∀ p, 76 ≤ p → p < 89 → M1 p = M p) ∧ ∃ (kk : Nat) (Y : Mem) (b : Int32), v = some (.int (nI kk)) ∧ kk < 4 ∧ RO l D dA k d as M (some (.int b)) Y ∧ Y 76 0 = nI kk ∧ Rel n' M1 Y ∧ (kk = 0 → M1 89 0 = b) ∧ (b = 0 ∨ b = 1)
def LPv (l : Launch) (D : va_G) (dA : Nat → ClassId) (k : zK) (d : Nat) (as : List Value) (n' : Nat) (M : Mem) (v : Option Value) (M1 : Mem) : Prop := (∀ p, 76 ≤ p → p < 89 → M1 p = M p) ∧ ∃ (kk : Nat) (Y : Mem), v = some (.int (nI kk)) ∧ kk < 4 ∧ RO l D dA k d as M none Y ∧ Y 76 0 = nI kk ∧ Rel n' M1 Y
set_option maxHeartbeats 4000000 in
set_option maxRecDepth 100000 in
theorem w_window (l : Launch) (D : va_G) (dA : Nat → ClassId) (hfl : l.flags = pinnedFlags ++ [noTraceFlag]) (M : Mem) (n : Nat) (p0 p1 p2 p3 : Int32) (hRel : Rel n M M) (hn : n < 1000) : CMw l D dA k_Law_window [(0, 9, 12, 13)] 8 [.ref 0, .int p0, .int p1, .int p2, .int p3] M (fun v M1 => LPv l D dA k_Mod_window 0 [.ref 76, .int p0, .int p1, .int p2, .int p3] n M v M1) := by
  refine CTw.of (by decide +kernel) (Nat.le_of_ble_eq_true rfl) (by intro v hv; simp only [List.mem_cons, List.not_mem_nil, or_false] at hv; rcases hv with rfl | rfl | rfl | rfl | rfl <;> rfl) ?_
  intro A ad0 p e s m args below meth c C hr hex
  obtain ⟨⟨r1, r2, r3, r4, r5⟩, er, el, xa, xw, h70, h77, h10⟩ := id hRel
  have hz3 : M 76 3 = 0 ∨ M 76 3 = 1 := by obtain ⟨c0, ln, em, bk, q, hS, hR⟩ := r1; exact hS.2.2.1
  have ho39 : M 3 9 = M 76 3 := by obtain ⟨c0, ln, em, bk, q, hS, hR⟩ := r1; exact hR.2.2.2.2.2.2.1
  by_cases hb : ¬ nPair p0 = 0 ∨ p1 < 0 ∨ p2 < nI 1 ∨ p3 < 0
  · refine J_aload_n C 0 d_Law_window_0 rfl rfl ?_
    refine J_iload_n C 1 d_Law_window_1 rfl rfl ?_
    refine J_iload_n C 2 d_Law_window_2 rfl rfl ?_
    refine J_iload_n C 3 d_Law_window_3 rfl rfl ?_
    refine J_iload C d_Law_window_4 rfl ?_
    refine J_catchV C (i := 5) (as := [.int p0, .int p1, .int p2, .int p3]) (st := []) (X0 := "java/lang/IllegalArgumentException") (x_window l D dA hfl M p0 p1 p2 p3 hb) l_Law_7 (tb_in 372 (by decide +kernel) (by decide +kernel)) v_Orb_window (by decide) (e_0 _) rfl (by decide) (by decide) (by decide) (Nat.le_of_ble_eq_true rfl) d_Law_window_6 [] (⟨0, 9, 12, 13⟩ : ExceptionTableEntry) [] hex (by intro y hy; cases hy) (by decide) (by decide) (tb_in 371 (by decide +kernel) (by decide +kernel)) (tb_in 381 (by decide +kernel) (by decide +kernel)) (hpc := 12) (pc' := 14) rfl (Or.inr ⟨d_Law_window_12, rfl⟩) (by decide) rfl (kk := ?_)
    refine J_iconst C d_Law_window_14 (v := nI 1) rfl ?_
    refine WK_iret C hr ?_ (by decide) (by decide) d_Law_window_15
    exact ⟨fun _ _ _ => rfl, 1, mu M 76 0 (nI 1), rfl, by decide, (fun A => by have h := fm_windowX l D dA (mg A M) p0 p1 p2 p3 (by rcases hb with q | q | q | q; (rcases nPair_bad q with w | w; (exact Or.inl w); (exact Or.inr (Or.inl w))); (exact Or.inr (Or.inr (Or.inl q))); (exact Or.inr (Or.inr (Or.inr (Or.inl q)))); (exact Or.inr (Or.inr (Or.inr (Or.inr q))))); simp only [mg_76, mg_77, mg_82, mg_83, mg_84, mg_85, mg_86, mg_87, mg_88, um_76, um_77, ite_mg] at h; exact h), mu_same _ _ _ _, hRel.t _⟩
  · have hb0 : nPair p0 = 0 := Classical.byContradiction fun z => hb (Or.inl z)
    have hb1 : ¬ p1 < 0 := fun z => hb (Or.inr (Or.inl z))
    have hb2 : ¬ p2 < nI 1 := fun z => hb (Or.inr (Or.inr (Or.inl z)))
    have hb3 : ¬ p3 < 0 := fun z => hb (Or.inr (Or.inr (Or.inr z)))
    rcases nPair_ok hb0 with rfl | rfl
    · refine J_aload_n C 0 d_Law_window_0 rfl rfl ?_
      refine J_iload_n C 1 d_Law_window_1 rfl rfl ?_
      refine J_iload_n C 2 d_Law_window_2 rfl rfl ?_
      refine J_iload_n C 3 d_Law_window_3 rfl rfl ?_
      refine J_iload C d_Law_window_4 rfl ?_
      refine F_callV C (as := [.int (nI 0), .int p1, .int p2, .int p3]) (st := []) (f_window0 l D dA M p1 p2 p3 hb1 hb2 (Int32.not_lt.mp hb3)) l_Law_7 v_Orb_window (by decide) (e_0 _) rfl (by decide) (by decide) (Nat.le_of_ble_eq_true rfl) d_Law_window_6 (kk := ?_)
      refine J_goto C 16 d_Law_window_9 (by decide) ?_
      refine J_iconst C d_Law_window_16 (v := nI 0) rfl ?_
      refine WK_iret C hr ?_ (by decide) (by decide) d_Law_window_17
      exact ⟨fun p0 a b => by rw [mu_p _ _ _ (by omega), mu_p _ _ _ (by omega), mu_p _ _ _ (by omega)], 0, mu (mu (mu (mu M 76 0 (nI 0)) 77 0 p1) 77 1 p2) 77 2 p3, rfl, by decide, (fun A => by have h := fm_window0 l D dA (mg A M) p1 p2 p3 hb1 hb2 (Int32.not_lt.mp hb3); simp only [mg_76, mg_77, mg_82, mg_83, mg_84, mg_85, mg_86, mg_87, mg_88, um_76, um_77, ite_mg] at h; exact h), rfl, hRel.win0 hb2⟩
    · refine J_aload_n C 0 d_Law_window_0 rfl rfl ?_
      refine J_iload_n C 1 d_Law_window_1 rfl rfl ?_
      refine J_iload_n C 2 d_Law_window_2 rfl rfl ?_
      refine J_iload_n C 3 d_Law_window_3 rfl rfl ?_
      refine J_iload C d_Law_window_4 rfl ?_
      refine F_callV C (as := [.int (nI 1), .int p1, .int p2, .int p3]) (st := []) (f_window1 l D dA M p1 p2 p3 hb1 hb2 (Int32.not_lt.mp hb3)) l_Law_7 v_Orb_window (by decide) (e_0 _) rfl (by decide) (by decide) (Nat.le_of_ble_eq_true rfl) d_Law_window_6 (kk := ?_)
      refine J_goto C 16 d_Law_window_9 (by decide) ?_
      refine J_iconst C d_Law_window_16 (v := nI 0) rfl ?_
      refine WK_iret C hr ?_ (by decide) (by decide) d_Law_window_17
      exact ⟨fun p0 a b => by rw [mu_p _ _ _ (by omega), mu_p _ _ _ (by omega), mu_p _ _ _ (by omega)], 0, mu (mu (mu (mu M 76 0 (nI 0)) 77 3 p1) 77 4 p2) 77 5 p3, rfl, by decide, (fun A => by have h := fm_window1 l D dA (mg A M) p1 p2 p3 hb1 hb2 (Int32.not_lt.mp hb3); simp only [mg_76, mg_77, mg_82, mg_83, mg_84, mg_85, mg_86, mg_87, mg_88, um_76, um_77, ite_mg] at h; exact h), rfl, hRel.win1 hb2⟩

set_option maxHeartbeats 4000000 in
set_option maxRecDepth 100000 in
theorem w_minute (l : Launch) (D : va_G) (dA : Nat → ClassId) (hfl : l.flags = pinnedFlags ++ [noTraceFlag]) (M : Mem) (n : Nat) (p0 : Int32) (hRel : Rel n M M) (hn : n < 1000) : CMw l D dA k_Law_minute [(0, 9, 12, 13)] 8 [.ref 0, .int p0, .ref 89] M (fun v M1 => LPo l D dA k_Mod_minute 0 [.ref 76, .int p0] n M v M1) := by
  refine CTw.of (by decide +kernel) (Nat.le_of_ble_eq_true rfl) (by intro v hv; simp only [List.mem_cons, List.not_mem_nil, or_false] at hv; rcases hv with rfl | rfl | rfl <;> rfl) ?_
  intro A ad0 p e s m args below meth c C hr hex
  obtain ⟨⟨r1, r2, r3, r4, r5⟩, er, el, xa, xw, h70, h77, h10⟩ := id hRel
  have hz3 : M 76 3 = 0 ∨ M 76 3 = 1 := by obtain ⟨c0, ln, em, bk, q, hS, hR⟩ := r1; exact hS.2.2.1
  have ho39 : M 3 9 = M 76 3 := by obtain ⟨c0, ln, em, bk, q, hS, hR⟩ := r1; exact hR.2.2.2.2.2.2.1
  by_cases h1 : p0 < nI 1
  · refine J_aload_n C 2 d_Law_minute_0 rfl rfl ?_
    refine J_iconst C d_Law_minute_1 (v := nI 0) rfl ?_
    refine J_aload_n C 0 d_Law_minute_2 rfl rfl ?_
    refine J_iload_n C 1 d_Law_minute_3 rfl rfl ?_
    refine J_catchV C (i := 3) (as := [.int p0]) (st := [.int (nI 0), .ref 89]) (X0 := "java/lang/IllegalArgumentException") (x_minute l D dA hfl M p0 (Or.inl h1)) l_Law_15 (tb_in 456 (by decide +kernel) (by decide +kernel)) v_Orb_minute (by decide) (e_0 _) rfl (by decide) (by decide) (by decide) (Nat.le_of_ble_eq_true rfl) d_Law_minute_4 [] (⟨0, 9, 12, 13⟩ : ExceptionTableEntry) [] hex (by intro y hy; cases hy) (by decide) (by decide) (tb_in 371 (by decide +kernel) (by decide +kernel)) (tb_in 381 (by decide +kernel) (by decide +kernel)) (hpc := 12) (pc' := 13) rfl (Or.inl ⟨3, rfl, d_Law_minute_12, rfl⟩) (by decide) rfl (kk := ?_)
    refine J_iconst C d_Law_minute_13 (v := nI 1) rfl ?_
    refine WK_iret C hr ?_ (by decide) (by decide) d_Law_minute_14
    exact ⟨fun _ _ _ => rfl, 1, mu M 76 0 (nI 1), nI 0, rfl, by decide, (fun A => by have h := fm_minute l D dA (mg A M) p0; rw [if_pos h1, if_pos h1] at h; simp only [mg_76, mg_77, mg_82, mg_83, mg_84, mg_85, mg_86, mg_87, mg_88, um_76, um_77, ite_mg] at h; exact h), mu_same _ _ _ _, hRel.t _, fun z => absurd z (by decide)⟩
  · by_cases h2 : p0 ≤ nI 1000
    · refine J_aload_n C 2 d_Law_minute_0 rfl rfl ?_
      refine J_iconst C d_Law_minute_1 (v := nI 0) rfl ?_
      refine J_aload_n C 0 d_Law_minute_2 rfl rfl ?_
      refine J_iload_n C 1 d_Law_minute_3 rfl rfl ?_
      refine F_callV C (as := [.int p0]) (st := [.int (nI 0), .ref 89]) (f_minute l D dA M p0 h1 h2) l_Law_15 v_Orb_minute (by decide) (e_0 _) rfl (by decide) (by decide) (Nat.le_of_ble_eq_true rfl) d_Law_minute_4 (kk := ?_)
      refine J_i2l C d_Law_minute_7 ?_
      refine K_lst C (x := M 0 6 + p0) rfl rfl d_Law_minute_8 (kk := ?_)
      refine J_goto C 15 d_Law_minute_9 (by decide) ?_
      refine J_iconst C d_Law_minute_15 (v := nI 0) rfl ?_
      refine WK_iret C hr ?_ (by decide) (by decide) d_Law_minute_16
      exact ⟨fun p0 a b => by rw [mu_p _ _ _ (by omega), mu_p _ _ _ (by omega)], 0, mu (mu M 76 0 (nI 0)) 76 1 (M 76 1 + p0), M 76 1 + p0, rfl, by decide, (fun A => by have h := fm_minute l D dA (mg A M) p0; rw [if_neg h1, if_pos h2, if_neg h1, if_pos h2] at h; simp only [mg_76, mg_77, mg_82, mg_83, mg_84, mg_85, mg_86, mg_87, mg_88, um_76, um_77, ite_mg] at h; exact h), rfl, (hRel.min p0).o _, fun _ => by rw [mu_same, r5.1]⟩
    · refine J_aload_n C 2 d_Law_minute_0 rfl rfl ?_
      refine J_iconst C d_Law_minute_1 (v := nI 0) rfl ?_
      refine J_aload_n C 0 d_Law_minute_2 rfl rfl ?_
      refine J_iload_n C 1 d_Law_minute_3 rfl rfl ?_
      refine J_catchV C (i := 3) (as := [.int p0]) (st := [.int (nI 0), .ref 89]) (X0 := "java/lang/IllegalArgumentException") (x_minute l D dA hfl M p0 (Or.inr h2)) l_Law_15 (tb_in 456 (by decide +kernel) (by decide +kernel)) v_Orb_minute (by decide) (e_0 _) rfl (by decide) (by decide) (by decide) (Nat.le_of_ble_eq_true rfl) d_Law_minute_4 [] (⟨0, 9, 12, 13⟩ : ExceptionTableEntry) [] hex (by intro y hy; cases hy) (by decide) (by decide) (tb_in 371 (by decide +kernel) (by decide +kernel)) (tb_in 381 (by decide +kernel) (by decide +kernel)) (hpc := 12) (pc' := 13) rfl (Or.inl ⟨3, rfl, d_Law_minute_12, rfl⟩) (by decide) rfl (kk := ?_)
      refine J_iconst C d_Law_minute_13 (v := nI 1) rfl ?_
      refine WK_iret C hr ?_ (by decide) (by decide) d_Law_minute_14
      exact ⟨fun _ _ _ => rfl, 1, mu M 76 0 (nI 1), nI 0, rfl, by decide, (fun A => by have h := fm_minute l D dA (mg A M) p0; rw [if_neg h1, if_neg h2, if_neg h1, if_neg h2] at h; simp only [mg_76, mg_77, mg_82, mg_83, mg_84, mg_85, mg_86, mg_87, mg_88, um_76, um_77, ite_mg] at h; exact h), mu_same _ _ _ _, hRel.t _, fun z => absurd z (by decide)⟩

set_option maxHeartbeats 4000000 in
set_option maxRecDepth 100000 in
theorem w_seen (l : Launch) (D : va_G) (dA : Nat → ClassId) (hfl : l.flags = pinnedFlags ++ [noTraceFlag]) (M : Mem) (n : Nat) (p0 : Int32) (hRel : Rel n M M) (hn : n < 1000) : CMw l D dA k_Law_seen [(0, 16, 19, 13)] 8 [.ref 0, .int p0, .ref 89] M (fun v M1 => LPz l D dA k_Mod_seen 1 [.ref 76, .int p0] n M v M1) := by
  refine CTw.of (by decide +kernel) (Nat.le_of_ble_eq_true rfl) (by intro v hv; simp only [List.mem_cons, List.not_mem_nil, or_false] at hv; rcases hv with rfl | rfl | rfl <;> rfl) ?_
  intro A ad0 p e s m args below meth c C hr hex
  obtain ⟨⟨r1, r2, r3, r4, r5⟩, er, el, xa, xw, h70, h77, h10⟩ := id hRel
  have hz3 : M 76 3 = 0 ∨ M 76 3 = 1 := by obtain ⟨c0, ln, em, bk, q, hS, hR⟩ := r1; exact hS.2.2.1
  have ho39 : M 3 9 = M 76 3 := by obtain ⟨c0, ln, em, bk, q, hS, hR⟩ := r1; exact hR.2.2.2.2.2.2.1
  by_cases hb : nPair p0 = 0
  · rcases nPair_ok hb with rfl | rfl
    · refine J_aload_n C 2 d_Law_seen_0 rfl rfl ?_
      refine J_iconst C d_Law_seen_1 (v := nI 0) rfl ?_
      refine J_aload_n C 0 d_Law_seen_2 rfl rfl ?_
      refine J_iload_n C 1 d_Law_seen_3 rfl rfl ?_
      refine P_callV C (as := [.int (nI 0)]) (st := [.int (nI 0), .ref 89]) (p_seen0 l D dA M (by rw [r5.2.2.1]; exact xa.2.2.2)) l_Law_19 v_Orb_seen (by decide) (e_0 _) rfl (by decide) (by decide) (by decide) (Nat.le_of_ble_eq_true rfl) d_Law_seen_4 (kk := ?_)
      refine J_val (y := fOpen (M 76 1) (M 77 0) (M 77 1) (M 77 2)) (by rw [r5.1, r5.2.1, r5.2.2.1, r5.2.2.2.1]) ?_
      refine J_if_eq C 14 d_Law_seen_7 (by decide) (fun hc7 => ?_) (fun hc7 => ?_)
      · refine J_lconst C d_Law_seen_14 (v := 0) rfl ?_
        refine K_lst C (x := nI 0) rfl (by decide) d_Law_seen_15 (kk := ?_)
        refine J_goto C 22 d_Law_seen_16 (by decide) ?_
        refine J_iconst C d_Law_seen_22 (v := nI 0) rfl ?_
        refine WK_iret C hr ?_ (by decide) (by decide) d_Law_seen_23
        exact ⟨fun p0 a b => by rw [mu_p _ _ _ (by omega)], 0, mu M 76 0 (nI 0), 0, rfl, by decide, (fun A => by have h := fm_seen0 l D dA (mg A M) xa.2.2.2; rw [if_pos (show fOpen (mg A M 76 1) (mg A M 77 0) (mg A M 77 1) (mg A M 77 2) = 0 from hc7)] at h; simp only [mg_76, mg_77, mg_82, mg_83, mg_84, mg_85, mg_86, mg_87, mg_88, um_76, um_77, ite_mg] at h; exact h), rfl, (hRel.t _).o _, fun _ => mu_same _ _ _ _, Or.inl rfl⟩
      · refine J_lconst C d_Law_seen_10 (v := 1) rfl ?_
        refine J_goto C 15 d_Law_seen_11 (by decide) ?_
        refine K_lst C (x := nI 1) rfl (by decide) d_Law_seen_15 (kk := ?_)
        refine J_goto C 22 d_Law_seen_16 (by decide) ?_
        refine J_iconst C d_Law_seen_22 (v := nI 0) rfl ?_
        refine WK_iret C hr ?_ (by decide) (by decide) d_Law_seen_23
        exact ⟨fun p0 a b => by rw [mu_p _ _ _ (by omega)], 0, mu M 76 0 (nI 0), 1, rfl, by decide, (fun A => by have h := fm_seen0 l D dA (mg A M) xa.2.2.2; rw [if_neg (show ¬ fOpen (mg A M 76 1) (mg A M 77 0) (mg A M 77 1) (mg A M 77 2) = 0 from hc7)] at h; simp only [mg_76, mg_77, mg_82, mg_83, mg_84, mg_85, mg_86, mg_87, mg_88, um_76, um_77, ite_mg] at h; exact h), rfl, (hRel.t _).o _, fun _ => mu_same _ _ _ _, Or.inr rfl⟩
    · refine J_aload_n C 2 d_Law_seen_0 rfl rfl ?_
      refine J_iconst C d_Law_seen_1 (v := nI 0) rfl ?_
      refine J_aload_n C 0 d_Law_seen_2 rfl rfl ?_
      refine J_iload_n C 1 d_Law_seen_3 rfl rfl ?_
      refine P_callV C (as := [.int (nI 1)]) (st := [.int (nI 0), .ref 89]) (p_seen1 l D dA M (by rw [r5.2.2.2.2.2.1]; exact h77)) l_Law_19 v_Orb_seen (by decide) (e_0 _) rfl (by decide) (by decide) (by decide) (Nat.le_of_ble_eq_true rfl) d_Law_seen_4 (kk := ?_)
      refine J_val (y := fOpen (M 76 1) (M 77 3) (M 77 4) (M 77 5)) (by rw [r5.1, r5.2.2.2.2.1, r5.2.2.2.2.2.1, r5.2.2.2.2.2.2]) ?_
      refine J_if_eq C 14 d_Law_seen_7 (by decide) (fun hc7 => ?_) (fun hc7 => ?_)
      · refine J_lconst C d_Law_seen_14 (v := 0) rfl ?_
        refine K_lst C (x := nI 0) rfl (by decide) d_Law_seen_15 (kk := ?_)
        refine J_goto C 22 d_Law_seen_16 (by decide) ?_
        refine J_iconst C d_Law_seen_22 (v := nI 0) rfl ?_
        refine WK_iret C hr ?_ (by decide) (by decide) d_Law_seen_23
        exact ⟨fun p0 a b => by rw [mu_p _ _ _ (by omega)], 0, mu M 76 0 (nI 0), 0, rfl, by decide, (fun A => by have h := fm_seen1 l D dA (mg A M) h77; rw [if_pos (show fOpen (mg A M 76 1) (mg A M 77 3) (mg A M 77 4) (mg A M 77 5) = 0 from hc7)] at h; simp only [mg_76, mg_77, mg_82, mg_83, mg_84, mg_85, mg_86, mg_87, mg_88, um_76, um_77, ite_mg] at h; exact h), rfl, (hRel.t _).o _, fun _ => mu_same _ _ _ _, Or.inl rfl⟩
      · refine J_lconst C d_Law_seen_10 (v := 1) rfl ?_
        refine J_goto C 15 d_Law_seen_11 (by decide) ?_
        refine K_lst C (x := nI 1) rfl (by decide) d_Law_seen_15 (kk := ?_)
        refine J_goto C 22 d_Law_seen_16 (by decide) ?_
        refine J_iconst C d_Law_seen_22 (v := nI 0) rfl ?_
        refine WK_iret C hr ?_ (by decide) (by decide) d_Law_seen_23
        exact ⟨fun p0 a b => by rw [mu_p _ _ _ (by omega)], 0, mu M 76 0 (nI 0), 1, rfl, by decide, (fun A => by have h := fm_seen1 l D dA (mg A M) h77; rw [if_neg (show ¬ fOpen (mg A M 76 1) (mg A M 77 3) (mg A M 77 4) (mg A M 77 5) = 0 from hc7)] at h; simp only [mg_76, mg_77, mg_82, mg_83, mg_84, mg_85, mg_86, mg_87, mg_88, um_76, um_77, ite_mg] at h; exact h), rfl, (hRel.t _).o _, fun _ => mu_same _ _ _ _, Or.inr rfl⟩
  · refine J_aload_n C 2 d_Law_seen_0 rfl rfl ?_
    refine J_iconst C d_Law_seen_1 (v := nI 0) rfl ?_
    refine J_aload_n C 0 d_Law_seen_2 rfl rfl ?_
    refine J_iload_n C 1 d_Law_seen_3 rfl rfl ?_
    refine J_catchV C (i := 3) (as := [.int p0]) (st := [.int (nI 0), .ref 89]) (X0 := "java/lang/IllegalArgumentException") (x_seen l D dA hfl M p0 hb) l_Law_19 (tb_in 463 (by decide +kernel) (by decide +kernel)) v_Orb_seen (by decide) (e_0 _) rfl (by decide) (by decide) (by decide) (Nat.le_of_ble_eq_true rfl) d_Law_seen_4 [] (⟨0, 16, 19, 13⟩ : ExceptionTableEntry) [] hex (by intro y hy; cases hy) (by decide) (by decide) (tb_in 371 (by decide +kernel) (by decide +kernel)) (tb_in 381 (by decide +kernel) (by decide +kernel)) (hpc := 19) (pc' := 20) rfl (Or.inl ⟨3, rfl, d_Law_seen_19, rfl⟩) (by decide) rfl (kk := ?_)
    refine J_iconst C d_Law_seen_20 (v := nI 1) rfl ?_
    refine WK_iret C hr ?_ (by decide) (by decide) d_Law_seen_21
    exact ⟨fun _ _ _ => rfl, 1, mu M 76 0 (nI 1), nI 0, rfl, by decide, (fun A => by have h := fm_seenX l D dA (mg A M) p0 (nPair_bad hb); simp only [mg_76, mg_77, mg_82, mg_83, mg_84, mg_85, mg_86, mg_87, mg_88, um_76, um_77, ite_mg] at h; exact h), mu_same _ _ _ _, hRel.t _, fun z => absurd z (by decide), Or.inl rfl⟩
