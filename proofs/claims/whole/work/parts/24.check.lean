theorem nI_min {a b : Nat} (ha : a < 2 ^ 31) (hb : b < 2 ^ 31) : (if nI a < nI b then nI a else nI b) = nI (min b a) := by
  by_cases h : a < b
  · rw [if_pos ((nI_ltI ha hb).mpr h), Nat.min_eq_right (by omega)]
  · rw [if_neg (fun q => h ((nI_ltI ha hb).mp q)), Nat.min_eq_left (by omega)]
theorem nI_max {a b : Nat} (ha : a < 2 ^ 31) (hb : b < 2 ^ 31) : (if nI a < nI b then nI b else nI a) = nI (max a b) := by
  by_cases h : a < b
  · rw [if_pos ((nI_ltI ha hb).mpr h), Nat.max_eq_right (by omega)]
  · rw [if_neg (fun q => h ((nI_ltI ha hb).mp q)), Nat.max_eq_left (by omega)]
abbrev ush (x y : Int32) : Int32 := (x.toUInt32 >>> (y.toUInt32 &&& Int32.toUInt32 31)).toInt32
/-- one bit of a check -/
def crcS (w : Nat) (pat row x : Int32) (k : Nat) : Int32 := if ((ush row (nI (w - 1)) ^^^ ush x (nI k)) &&& nI 1) = nI 1 then (row <<< (nI 1 &&& 31)) ^^^ pat else row <<< (nI 1 &&& 31)
theorem crcS_t {w : Nat} {pat row x : Int32} {k : Nat} (h : ((ush row (nI (w - 1)) ^^^ ush x (nI k)) &&& nI 1) = nI 1) : crcS w pat row x k = (row <<< (nI 1 &&& 31)) ^^^ pat := if_pos h
theorem crcS_f {w : Nat} {pat row x : Int32} {k : Nat} (h : ¬ ((ush row (nI (w - 1)) ^^^ ush x (nI k)) &&& nI 1) = nI 1) : crcS w pat row x k = row <<< (nI 1 &&& 31) := if_neg h
def crcBits (w : Nat) (pat x : Int32) : Nat → Int32 → Int32
  | 0, row => row
  | r + 1, row => crcBits w pat x r (crcS w pat row x r)
def crcAll (w : Nat) (pat : Int32) (f : Nat → Int32) : Nat → Nat → Int32 → Int32
  | 0, _, row => row
  | r + 1, i, row => crcAll w pat f r (i + 1) (crcBits w pat (f i) 8 row)
def bitOf (r : Nat) : Int32 := match r with
  | 0 => -1
  | r + 1 => nI r
theorem bitOf_s (r : Nat) : nI r + Int32.ofInt (-1) = bitOf r := by
  cases r with
  | zero => rfl
  | succ r => exact pk_m1 r
set_option maxHeartbeats 4000000 in
set_option maxRecDepth 100000 in
theorem p_check70 (l : Launch) (D : va_G) (dA : Nat → ClassId) (M : Mem) (fr en w : Nat) (f0 pat : Int32) (h1 : fr ≤ en) (h2 : en ≤ 71) (hw1 : 1 ≤ w) (hw2 : w ≤ 32) : PT l D dA k_Orb_check 0 90 [.ref 70, .int (nI fr), .int (nI en), .int (nI w), .int f0, .int pat] (E M) (.int (crcAll w pat (M 70) (en - fr) fr f0)) := by
  refine PT.of (by decide +kernel) (Nat.le_of_ble_eq_true rfl) (by intro v hv; simp only [List.mem_cons, List.not_mem_nil, or_false] at hv; rcases hv with rfl | rfl | rfl | rfl | rfl | rfl <;> rfl) ?_
  intro A ad0 p e s m args below meth c C hr
  have lp : ∀ (fu i : Nat) (row : Int32), en - i < fu → i ≤ en → crcAll w pat (M 70) (en - i) i row = crcAll w pat (M 70) (en - fr) fr f0 → J D dA A (fun H locs => H = s.heap ∧ locs = []) ad0 90 k_Orb_check.2.2.1 p l e (zR 0 0 0) s m args below meth c (MQ below (zQp ad0 (.int (crcAll w pat (M 70) (en - fr) fr f0))) args s 0 0 (fun _ => False)) 7 [some (.ref 70), some (.int (nI fr)), some (.int (nI en)), some (.int (nI w)), some (.int f0), some (.int pat), some (.int row), some (.int (nI i)), none, none] [] (E M) 90 0 0 := by
    intro fu
    induction fu with
    | zero => intro i row hfu; exact absurd hfu (Nat.not_lt_zero _)
    | succ fu ih =>
    intro i row hfu hi hF
    have lpi : i < en → ∀ (row9 : Int32), (J D dA A (fun H locs => H = s.heap ∧ locs = []) ad0 90 k_Orb_check.2.2.1 p l e (zR 0 0 0) s m args below meth c (MQ below (zQp ad0 (.int (crcAll w pat (M 70) (en - fr) fr f0))) args s 0 0 (fun _ => False)) 72 [some (.ref 70), some (.int (nI fr)), some (.int (nI en)), some (.int (nI w)), some (.int f0), some (.int pat), some (.int row9), some (.int (nI i)), none, none] [] (E M) 90 0 0) → ∀ (r : Nat) (row : Int32), r ≤ 8 → crcBits w pat (M 70 i) r row = row9 → J D dA A (fun H locs => H = s.heap ∧ locs = []) ad0 90 k_Orb_check.2.2.1 p l e (zR 0 0 0) s m args below meth c (MQ below (zQp ad0 (.int (crcAll w pat (M 70) (en - fr) fr f0))) args s 0 0 (fun _ => False)) 24 [some (.ref 70), some (.int (nI fr)), some (.int (nI en)), some (.int (nI w)), some (.int f0), some (.int pat), some (.int row), some (.int (nI i)), some (.int (bitOf r)), none] [] (E M) 90 0 0 := by
      intro hil row9 hk r
      induction r with
      | zero =>
        intro row hr9 h9
        have h9 : row = row9 := h9
        subst h9
        show J D dA A (fun H locs => H = s.heap ∧ locs = []) ad0 90 k_Orb_check.2.2.1 p l e (zR 0 0 0) s m args below meth c (MQ below (zQp ad0 (.int (crcAll w pat (M 70) (en - fr) fr f0))) args s 0 0 (fun _ => False)) 24 [some (.ref 70), some (.int (nI fr)), some (.int (nI en)), some (.int (nI w)), some (.int f0), some (.int pat), some (.int row), some (.int (nI i)), some (.int (-1)), none] [] (E M) 90 0 0
        refine J_iload C d_Orb_check_24 rfl ?_
        refine J_if_lt C 72 d_Orb_check_26 (by decide) (fun hc26 => ?_) (fun hc26 => absurd (show (-1 : Int32) < 0 by decide) hc26)
        refine J_lv (lv' := [some (.ref 70), some (.int (nI fr)), some (.int (nI en)), some (.int (nI w)), some (.int f0), some (.int pat), some (.int row), some (.int (nI i)), none, none]) (by intro i v hv; match i, hv with | 0, hv => exact hv | 1, hv => exact hv | 2, hv => exact hv | 3, hv => exact hv | 4, hv => exact hv | 5, hv => exact hv | 6, hv => exact hv | 7, hv => exact hv | 8, hv => simp at hv | 9, hv => simp at hv | _ + 10, hv => simp at hv) ?_
        exact hk
      | succ r ih =>
        intro row hr9 h9
        show J D dA A (fun H locs => H = s.heap ∧ locs = []) ad0 90 k_Orb_check.2.2.1 p l e (zR 0 0 0) s m args below meth c (MQ below (zQp ad0 (.int (crcAll w pat (M 70) (en - fr) fr f0))) args s 0 0 (fun _ => False)) 24 [some (.ref 70), some (.int (nI fr)), some (.int (nI en)), some (.int (nI w)), some (.int f0), some (.int pat), some (.int row), some (.int (nI i)), some (.int (nI r)), none] [] (E M) 90 0 0
        have ih : ∀ (row : Int32), crcBits w pat (M 70 i) r row = row9 → _ := fun row h => ih row (by omega) h
        refine J_iload C d_Orb_check_24 rfl ?_
        refine J_ifN_lt C d_Orb_check_26 72 (by decide) (by omega) ?_
        refine J_iload C d_Orb_check_29 rfl ?_
        refine J_iload_n C 3 d_Orb_check_31 rfl rfl ?_
        refine J_iconst C d_Orb_check_32 (v := nI 1) rfl ?_
        refine J_isubN C d_Orb_check_33 (by omega) ?_
        refine J_iushr C d_Orb_check_34 rfl ?_
        refine J_aload_n C 0 d_Orb_check_35 rfl rfl ?_
        refine J_iload C d_Orb_check_36 rfl ?_
        refine K_ial C a_70 (j := i) rfl (by omega) d_Orb_check_38 ?_
        refine J_iload C d_Orb_check_39 rfl ?_
        refine J_iushr C d_Orb_check_41 rfl ?_
        refine J_ixor C d_Orb_check_42 ?_
        refine J_iconst C d_Orb_check_43 (v := nI 1) rfl ?_
        refine J_iand C d_Orb_check_44 ?_
        refine J_istore C d_Orb_check_45 (by decide) rfl ?_
        refine J_iload C d_Orb_check_47 rfl ?_
        refine J_iconst C d_Orb_check_49 (v := nI 1) rfl ?_
        refine J_ishl C d_Orb_check_50 ?_
        refine J_istore C d_Orb_check_51 (by decide) rfl ?_
        refine J_iload C d_Orb_check_53 rfl ?_
        refine J_iconst C d_Orb_check_55 (v := nI 1) rfl ?_
        refine J_icmp_ne C 66 d_Orb_check_56 (by decide) (fun hc56 => ?_) (fun hc56 => ?_)
        · refine J_iinc C d_Orb_check_66 rfl (v := bitOf r) (bitOf_s r) (by decide) rfl ?_
          refine J_goto C 24 d_Orb_check_69 (by decide) ?_
          refine J_lv (lv' := [some (.ref 70), some (.int (nI fr)), some (.int (nI en)), some (.int (nI w)), some (.int f0), some (.int pat), some (.int (row <<< ((nI 1) &&& 31))), some (.int (nI i)), some (.int (bitOf r)), none]) (by intro i v hv; match i, hv with | 0, hv => exact hv | 1, hv => exact hv | 2, hv => exact hv | 3, hv => exact hv | 4, hv => exact hv | 5, hv => exact hv | 6, hv => exact hv | 7, hv => exact hv | 8, hv => exact hv | 9, hv => simp at hv | _ + 10, hv => simp at hv) ?_
          exact ih _ (by rw [← h9]; show _ = crcBits w pat (M 70 i) r (crcS w pat row (M 70 i) r); first | rw [crcS_t hc56] | rw [crcS_f hc56])
        · refine J_iload C d_Orb_check_59 rfl ?_
          refine J_iload C d_Orb_check_61 rfl ?_
          refine J_ixor C d_Orb_check_63 ?_
          refine J_istore C d_Orb_check_64 (by decide) rfl ?_
          refine J_iinc C d_Orb_check_66 rfl (v := bitOf r) (bitOf_s r) (by decide) rfl ?_
          refine J_goto C 24 d_Orb_check_69 (by decide) ?_
          refine J_lv (lv' := [some (.ref 70), some (.int (nI fr)), some (.int (nI en)), some (.int (nI w)), some (.int f0), some (.int pat), some (.int ((row <<< ((nI 1) &&& 31)) ^^^ pat)), some (.int (nI i)), some (.int (bitOf r)), none]) (by intro i v hv; match i, hv with | 0, hv => exact hv | 1, hv => exact hv | 2, hv => exact hv | 3, hv => exact hv | 4, hv => exact hv | 5, hv => exact hv | 6, hv => exact hv | 7, hv => exact hv | 8, hv => exact hv | 9, hv => simp at hv | _ + 10, hv => simp at hv) ?_
          exact ih _ (by rw [← h9]; show _ = crcBits w pat (M 70 i) r (crcS w pat row (M 70 i) r); first | rw [crcS_t hc56] | rw [crcS_f hc56])
    refine J_iload C d_Orb_check_7 rfl ?_
    refine J_iload_n C 2 d_Orb_check_9 rfl rfl ?_
    refine J_icmpN_ge C 78 d_Orb_check_10 (by decide) (by omega) (by omega) (fun hc10 => ?_) (fun hc10 => ?_)
    · refine J_iload C d_Orb_check_78 rfl ?_
      exact P_iretE C hr (by rw [show en - i = 0 by omega] at hF; exact hF) d_Orb_check_80
    · refine J_iload C d_Orb_check_13 rfl ?_
      refine J_aload_n C 0 d_Orb_check_15 rfl rfl ?_
      refine K_alen C a_70 d_Orb_check_16 ?_
      refine J_icmpN_ge C 78 d_Orb_check_17 (by decide) (by omega) (by omega) (fun hc17 => absurd hc17 (by omega)) (fun hc17 => ?_)
      refine J_bipush C d_Orb_check_20 (v := nI 7) rfl ?_
      refine J_istore C d_Orb_check_22 (by decide) rfl ?_
      refine lpi hc10 _ ?_ 8 row (by omega) rfl
      refine J_iinc C d_Orb_check_72 rfl (v := nI (i + 1)) (nI_1 _) (by decide) rfl ?_
      refine J_goto C 7 d_Orb_check_75 (by decide) ?_
      exact ih (i + 1) _ (by omega) (by omega) (by rw [show en - i = (en - (i + 1)) + 1 by omega] at hF; exact hF)
  refine J_iload C d_Orb_check_0 rfl ?_
  refine J_istore C d_Orb_check_2 (by decide) rfl ?_
  refine J_iload_n C 1 d_Orb_check_4 rfl rfl ?_
  refine J_istore C d_Orb_check_5 (by decide) rfl ?_
  exact lp (en - fr + 1) fr f0 (by omega) h1 rfl

set_option maxHeartbeats 4000000 in
set_option maxRecDepth 100000 in
theorem p_check74 (l : Launch) (D : va_G) (dA : Nat → ClassId) (M : Mem) (fr en w : Nat) (f0 pat : Int32) (h1 : fr ≤ en) (h2 : en ≤ 32) (hw1 : 1 ≤ w) (hw2 : w ≤ 32) : PT l D dA k_Orb_check 0 90 [.ref 74, .int (nI fr), .int (nI en), .int (nI w), .int f0, .int pat] (E M) (.int (crcAll w pat (M 74) (en - fr) fr f0)) := by
  refine PT.of (by decide +kernel) (Nat.le_of_ble_eq_true rfl) (by intro v hv; simp only [List.mem_cons, List.not_mem_nil, or_false] at hv; rcases hv with rfl | rfl | rfl | rfl | rfl | rfl <;> rfl) ?_
  intro A ad0 p e s m args below meth c C hr
  have lp : ∀ (fu i : Nat) (row : Int32), en - i < fu → i ≤ en → crcAll w pat (M 74) (en - i) i row = crcAll w pat (M 74) (en - fr) fr f0 → J D dA A (fun H locs => H = s.heap ∧ locs = []) ad0 90 k_Orb_check.2.2.1 p l e (zR 0 0 0) s m args below meth c (MQ below (zQp ad0 (.int (crcAll w pat (M 74) (en - fr) fr f0))) args s 0 0 (fun _ => False)) 7 [some (.ref 74), some (.int (nI fr)), some (.int (nI en)), some (.int (nI w)), some (.int f0), some (.int pat), some (.int row), some (.int (nI i)), none, none] [] (E M) 90 0 0 := by
    intro fu
    induction fu with
    | zero => intro i row hfu; exact absurd hfu (Nat.not_lt_zero _)
    | succ fu ih =>
    intro i row hfu hi hF
    have lpi : i < en → ∀ (row9 : Int32), (J D dA A (fun H locs => H = s.heap ∧ locs = []) ad0 90 k_Orb_check.2.2.1 p l e (zR 0 0 0) s m args below meth c (MQ below (zQp ad0 (.int (crcAll w pat (M 74) (en - fr) fr f0))) args s 0 0 (fun _ => False)) 72 [some (.ref 74), some (.int (nI fr)), some (.int (nI en)), some (.int (nI w)), some (.int f0), some (.int pat), some (.int row9), some (.int (nI i)), none, none] [] (E M) 90 0 0) → ∀ (r : Nat) (row : Int32), r ≤ 8 → crcBits w pat (M 74 i) r row = row9 → J D dA A (fun H locs => H = s.heap ∧ locs = []) ad0 90 k_Orb_check.2.2.1 p l e (zR 0 0 0) s m args below meth c (MQ below (zQp ad0 (.int (crcAll w pat (M 74) (en - fr) fr f0))) args s 0 0 (fun _ => False)) 24 [some (.ref 74), some (.int (nI fr)), some (.int (nI en)), some (.int (nI w)), some (.int f0), some (.int pat), some (.int row), some (.int (nI i)), some (.int (bitOf r)), none] [] (E M) 90 0 0 := by
      intro hil row9 hk r
      induction r with
      | zero =>
        intro row hr9 h9
        have h9 : row = row9 := h9
        subst h9
        show J D dA A (fun H locs => H = s.heap ∧ locs = []) ad0 90 k_Orb_check.2.2.1 p l e (zR 0 0 0) s m args below meth c (MQ below (zQp ad0 (.int (crcAll w pat (M 74) (en - fr) fr f0))) args s 0 0 (fun _ => False)) 24 [some (.ref 74), some (.int (nI fr)), some (.int (nI en)), some (.int (nI w)), some (.int f0), some (.int pat), some (.int row), some (.int (nI i)), some (.int (-1)), none] [] (E M) 90 0 0
        refine J_iload C d_Orb_check_24 rfl ?_
        refine J_if_lt C 72 d_Orb_check_26 (by decide) (fun hc26 => ?_) (fun hc26 => absurd (show (-1 : Int32) < 0 by decide) hc26)
        refine J_lv (lv' := [some (.ref 74), some (.int (nI fr)), some (.int (nI en)), some (.int (nI w)), some (.int f0), some (.int pat), some (.int row), some (.int (nI i)), none, none]) (by intro i v hv; match i, hv with | 0, hv => exact hv | 1, hv => exact hv | 2, hv => exact hv | 3, hv => exact hv | 4, hv => exact hv | 5, hv => exact hv | 6, hv => exact hv | 7, hv => exact hv | 8, hv => simp at hv | 9, hv => simp at hv | _ + 10, hv => simp at hv) ?_
        exact hk
      | succ r ih =>
        intro row hr9 h9
        show J D dA A (fun H locs => H = s.heap ∧ locs = []) ad0 90 k_Orb_check.2.2.1 p l e (zR 0 0 0) s m args below meth c (MQ below (zQp ad0 (.int (crcAll w pat (M 74) (en - fr) fr f0))) args s 0 0 (fun _ => False)) 24 [some (.ref 74), some (.int (nI fr)), some (.int (nI en)), some (.int (nI w)), some (.int f0), some (.int pat), some (.int row), some (.int (nI i)), some (.int (nI r)), none] [] (E M) 90 0 0
        have ih : ∀ (row : Int32), crcBits w pat (M 74 i) r row = row9 → _ := fun row h => ih row (by omega) h
        refine J_iload C d_Orb_check_24 rfl ?_
        refine J_ifN_lt C d_Orb_check_26 72 (by decide) (by omega) ?_
        refine J_iload C d_Orb_check_29 rfl ?_
        refine J_iload_n C 3 d_Orb_check_31 rfl rfl ?_
        refine J_iconst C d_Orb_check_32 (v := nI 1) rfl ?_
        refine J_isubN C d_Orb_check_33 (by omega) ?_
        refine J_iushr C d_Orb_check_34 rfl ?_
        refine J_aload_n C 0 d_Orb_check_35 rfl rfl ?_
        refine J_iload C d_Orb_check_36 rfl ?_
        refine K_ial C a_74 (j := i) rfl (by omega) d_Orb_check_38 ?_
        refine J_iload C d_Orb_check_39 rfl ?_
        refine J_iushr C d_Orb_check_41 rfl ?_
        refine J_ixor C d_Orb_check_42 ?_
        refine J_iconst C d_Orb_check_43 (v := nI 1) rfl ?_
        refine J_iand C d_Orb_check_44 ?_
        refine J_istore C d_Orb_check_45 (by decide) rfl ?_
        refine J_iload C d_Orb_check_47 rfl ?_
        refine J_iconst C d_Orb_check_49 (v := nI 1) rfl ?_
        refine J_ishl C d_Orb_check_50 ?_
        refine J_istore C d_Orb_check_51 (by decide) rfl ?_
        refine J_iload C d_Orb_check_53 rfl ?_
        refine J_iconst C d_Orb_check_55 (v := nI 1) rfl ?_
        refine J_icmp_ne C 66 d_Orb_check_56 (by decide) (fun hc56 => ?_) (fun hc56 => ?_)
        · refine J_iinc C d_Orb_check_66 rfl (v := bitOf r) (bitOf_s r) (by decide) rfl ?_
          refine J_goto C 24 d_Orb_check_69 (by decide) ?_
          refine J_lv (lv' := [some (.ref 74), some (.int (nI fr)), some (.int (nI en)), some (.int (nI w)), some (.int f0), some (.int pat), some (.int (row <<< ((nI 1) &&& 31))), some (.int (nI i)), some (.int (bitOf r)), none]) (by intro i v hv; match i, hv with | 0, hv => exact hv | 1, hv => exact hv | 2, hv => exact hv | 3, hv => exact hv | 4, hv => exact hv | 5, hv => exact hv | 6, hv => exact hv | 7, hv => exact hv | 8, hv => exact hv | 9, hv => simp at hv | _ + 10, hv => simp at hv) ?_
          exact ih _ (by rw [← h9]; show _ = crcBits w pat (M 74 i) r (crcS w pat row (M 74 i) r); first | rw [crcS_t hc56] | rw [crcS_f hc56])
        · refine J_iload C d_Orb_check_59 rfl ?_
          refine J_iload C d_Orb_check_61 rfl ?_
          refine J_ixor C d_Orb_check_63 ?_
          refine J_istore C d_Orb_check_64 (by decide) rfl ?_
          refine J_iinc C d_Orb_check_66 rfl (v := bitOf r) (bitOf_s r) (by decide) rfl ?_
          refine J_goto C 24 d_Orb_check_69 (by decide) ?_
          refine J_lv (lv' := [some (.ref 74), some (.int (nI fr)), some (.int (nI en)), some (.int (nI w)), some (.int f0), some (.int pat), some (.int ((row <<< ((nI 1) &&& 31)) ^^^ pat)), some (.int (nI i)), some (.int (bitOf r)), none]) (by intro i v hv; match i, hv with | 0, hv => exact hv | 1, hv => exact hv | 2, hv => exact hv | 3, hv => exact hv | 4, hv => exact hv | 5, hv => exact hv | 6, hv => exact hv | 7, hv => exact hv | 8, hv => exact hv | 9, hv => simp at hv | _ + 10, hv => simp at hv) ?_
          exact ih _ (by rw [← h9]; show _ = crcBits w pat (M 74 i) r (crcS w pat row (M 74 i) r); first | rw [crcS_t hc56] | rw [crcS_f hc56])
    refine J_iload C d_Orb_check_7 rfl ?_
    refine J_iload_n C 2 d_Orb_check_9 rfl rfl ?_
    refine J_icmpN_ge C 78 d_Orb_check_10 (by decide) (by omega) (by omega) (fun hc10 => ?_) (fun hc10 => ?_)
    · refine J_iload C d_Orb_check_78 rfl ?_
      exact P_iretE C hr (by rw [show en - i = 0 by omega] at hF; exact hF) d_Orb_check_80
    · refine J_iload C d_Orb_check_13 rfl ?_
      refine J_aload_n C 0 d_Orb_check_15 rfl rfl ?_
      refine K_alen C a_74 d_Orb_check_16 ?_
      refine J_icmpN_ge C 78 d_Orb_check_17 (by decide) (by omega) (by omega) (fun hc17 => absurd hc17 (by omega)) (fun hc17 => ?_)
      refine J_bipush C d_Orb_check_20 (v := nI 7) rfl ?_
      refine J_istore C d_Orb_check_22 (by decide) rfl ?_
      refine lpi hc10 _ ?_ 8 row (by omega) rfl
      refine J_iinc C d_Orb_check_72 rfl (v := nI (i + 1)) (nI_1 _) (by decide) rfl ?_
      refine J_goto C 7 d_Orb_check_75 (by decide) ?_
      exact ih (i + 1) _ (by omega) (by omega) (by rw [show en - i = (en - (i + 1)) + 1 by omega] at hF; exact hF)
  refine J_iload C d_Orb_check_0 rfl ?_
  refine J_istore C d_Orb_check_2 (by decide) rfl ?_
  refine J_iload_n C 1 d_Orb_check_4 rfl rfl ?_
  refine J_istore C d_Orb_check_5 (by decide) rfl ?_
  exact lp (en - fr + 1) fr f0 (by omega) h1 rfl
