set_option maxHeartbeats 4000000 in
set_option maxRecDepth 100000 in
theorem p_blocksForG (l : Launch) (D : va_G) (dA : Nat → ClassId) (h : Nat → va_E) (nn : Nat) (n : Nat) (hn : n < 1000) : PT l D dA k_Sto_blocksFor 0 nn [.int (nI n)] h (.int (nI ((n + 20 - 1) / 20))) := by
  refine PT.of (by decide +kernel) (Nat.le_of_ble_eq_true rfl) (by intro v hv; simp only [List.mem_cons, List.not_mem_nil, or_false] at hv; rcases hv with rfl <;> rfl) ?_
  intro A ad0 p e s m args below meth c C hr
  refine J_iload_n C 0 d_Sto_blocksFor_0 rfl rfl ?_
  refine J_bipush C d_Sto_blocksFor_1 (v := nI 20) rfl ?_
  refine J_iaddN C d_Sto_blocksFor_3 ?_
  refine J_iconst C d_Sto_blocksFor_4 (v := nI 1) rfl ?_
  refine J_isubN C d_Sto_blocksFor_5 (by omega) ?_
  refine J_bipush C d_Sto_blocksFor_6 (v := nI 20) rfl ?_
  refine J_idivN C d_Sto_blocksFor_8 (by omega) (by omega) (by omega) ?_
  exact P_iretE C hr rfl d_Sto_blocksFor_9

section ZC2
variable {D : va_G} {dA : Nat → ClassId} {A : Nat → Prop} {Φ : Heap → List Loc → Prop} {ad0 : Nat → Nat} {n0 nL : Nat} {p : Program} {l : Launch} {e : Env} {R : Room} {s : State} {m : MethodId} {args : Array Value} {below : List Frame} {meth : Method} {c : Code} {Q : State → Prop} {pc : Nat} {lv : List (Option Value)} {st : List Value} {h : Nat → va_E} {n kc ks : Nat} {own : String} {cc : ByteArray}
theorem J_nn {n1 n2 : Nat} (e9 : n1 = n2) (k : J D dA A Φ ad0 n0 nL p l e R s m args below meth c Q (pc) (lv) (st) (h) n2 kc ks) : J D dA A Φ ad0 n0 nL p l e R s m args below meth c Q (pc) (lv) (st) (h) n1 kc ks := by subst e9; exact k
end ZC2
set_option maxHeartbeats 4000000 in
set_option maxRecDepth 100000 in
theorem c_Pkt_init (l : Launch) (D : va_G) (dA : Nat → ClassId) (h : Nat → va_E) (o : Nat) (hn : o + 1 + 1 ≤ 900) (ho : h o = .inr (3, [.null, .int 0, .int 0, .int 0, .int 0])) (hLT : LT h (o + 1)) : CT l D dA k_Pkt_init 1 1 3 (o + 1) [.ref o] h (fun v h' n' => v = none ∧ n' = o + 1 + 1 ∧ LT h' n' ∧ (∀ k, k < o → h' k = h k) ∧ h' o = .inr (3, [.ref (o + 1), .int (nI 0), .int (nI 0), .int (nI 0), .int (nI 0)]) ∧ h' (o + 1) = .inl (0, 3, .inl (fun _ => 0))) := by
  refine CT.of (by decide +kernel) (Nat.le_of_ble_eq_true rfl) (by intro v hv; simp only [List.mem_cons, List.not_mem_nil, or_false] at hv; rcases hv with rfl <;> rfl) ?_
  intro A ad0 p e s m args below meth c C hr hnm
  have hfr : ∀ k, k < o → h k = h k := fun _ _ => rfl
  refine J_aload_n C 0 d_Pkt_init_0 rfl rfl ?_
  refine J_objInit C (tb_in 111 (by decide +kernel) (by decide +kernel)) (tb_in 81 (by decide +kernel) (by decide +kernel)) (tb_in 82 (by decide +kernel) (by decide +kernel)) (Nat.le_of_ble_eq_true rfl) d_Pkt_init_1 ?_
  refine J_aload_n C 0 d_Pkt_init_4 rfl rfl ?_
  refine J_bipush C d_Pkt_init_5 (v := nI 60) rfl ?_
  refine P_callS C (as := [.int (nI 60)]) (st := [.ref o]) (p_blocksForG l D dA h (o + 1) 60 (by decide)) l_Pkt_9 s_Sto_blocksFor rfl (by omega) (by decide) (hcz _ _ _ _ _ (by omega) (by omega)) (Nat.le_of_ble_eq_true rfl) d_Pkt_init_7 (kk := ?_)
  refine J_val (y := nI 3) rfl ?_
  refine J_newa C (t := 0) (N := 3) (ty := .int) rfl (tb_in 144 (by decide +kernel) (by decide +kernel)) (fun _ => (dA_of C.2.2.2.2.2.1).1) (f := .inl (fun _ => 0)) (fun _ => rfl) (fun _ => rfl) rfl (by decide) (by decide) hLT (by omega) (by omega) (by intro i v q; match i, q with | 0, q => obtain rfl := Option.some.inj (Option.some.inj q); exact okR (by omega) | _ + 1, q => exact absurd (show (none : Option (Option Value)) = some (some v) from q) (by simp)) (by intro v q; simp only [List.mem_cons, List.not_mem_nil, or_false] at q; rcases q with rfl; (exact okR (by omega))) (hcz _ _ _ _ _ (by omega) (by omega)) d_Pkt_init_10 (kk := ?_)
  obtain ⟨h1, e1⟩ : ∃ x, va_up h (o + 1) (.inl (0, 3, .inl (fun _ => 0))) = x := ⟨_, rfl⟩
  refine J_hh (h2 := h1) e1 ?_
  have l1 : LT h1 (o + 1 + 1) := by rw [← e1]; exact hLT.add trivial
  have co_1 : h1 o = .inr (3, [.null, .int 0, .int 0, .int 0, .int 0]) := by rw [← e1]; exact (va_up_ne _ _ (by omega)).trans ho
  have fr_1 : ∀ k, k < o → h1 k = h k := fun k hk => by rw [← e1]; exact (va_up_ne _ _ (by omega)).trans (hfr k hk)
  have co_1_1 : h1 (o + 1) = .inl (0, 3, .inl (fun _ => 0)) := by rw [← e1]; exact va_up_self _ _ _
  refine J_putC C (k := 0) ci_Pkt rfl (by decide) rfl rfl rfl (tb_in 115 (by decide +kernel) (by decide +kernel)) hnm (by omega) co_1 (Nat.le_of_ble_eq_true rfl) (fun _ => rfl) (fun _ => rfl) d_Pkt_init_12 (kk := ?_)
  obtain ⟨h2, e2⟩ : ∃ x, va_up h1 o (.inr (3, [.ref (o + 1), .int 0, .int 0, .int 0, .int 0])) = x := ⟨_, rfl⟩
  refine J_hh (h2 := h2) e2 ?_
  have l2 : LT h2 (o + 1 + 1) := by rw [← e2]; exact l1.put _ (by intro v q; simp only [List.mem_cons, List.not_mem_nil, or_false] at q; rcases q with rfl | rfl | rfl | rfl | rfl; (exact okR (by omega)); trivial; trivial; trivial; trivial)
  have fr_2 : ∀ k, k < o → h2 k = h k := fun k hk => by rw [← e2]; exact (va_up_ne _ _ (by omega)).trans (fr_1 k hk)
  have co_1_2 : h2 (o + 1) = .inl (0, 3, .inl (fun _ => 0)) := by rw [← e2]; exact (va_up_ne _ _ (by omega)).trans co_1_1
  have co_2 : h2 o = .inr (3, [.ref (o + 1), .int 0, .int 0, .int 0, .int 0]) := by rw [← e2]; exact va_up_self _ _ _
  refine J_aload_n C 0 d_Pkt_init_15 rfl rfl ?_
  refine J_iconst C d_Pkt_init_16 (v := nI 0) rfl ?_
  refine J_put C f_Pkt_19 (by omega) co_2 (Nat.le_of_ble_eq_true rfl) (fun _ => rfl) (fun _ => rfl) d_Pkt_init_17 (kk := ?_)
  obtain ⟨h3, e3⟩ : ∃ x, va_up h2 o (.inr (3, [.ref (o + 1), .int (nI 0), .int 0, .int 0, .int 0])) = x := ⟨_, rfl⟩
  refine J_hh (h2 := h3) e3 ?_
  have l3 : LT h3 (o + 1 + 1) := by rw [← e3]; exact l2.put _ (by intro v q; simp only [List.mem_cons, List.not_mem_nil, or_false] at q; rcases q with rfl | rfl | rfl | rfl | rfl; (exact okR (by omega)); trivial; trivial; trivial; trivial)
  have fr_3 : ∀ k, k < o → h3 k = h k := fun k hk => by rw [← e3]; exact (va_up_ne _ _ (by omega)).trans (fr_2 k hk)
  have co_1_3 : h3 (o + 1) = .inl (0, 3, .inl (fun _ => 0)) := by rw [← e3]; exact (va_up_ne _ _ (by omega)).trans co_1_2
  have co_3 : h3 o = .inr (3, [.ref (o + 1), .int (nI 0), .int 0, .int 0, .int 0]) := by rw [← e3]; exact va_up_self _ _ _
  refine J_aload_n C 0 d_Pkt_init_20 rfl rfl ?_
  refine J_iconst C d_Pkt_init_21 (v := nI 0) rfl ?_
  refine J_put C f_Pkt_23 (by omega) co_3 (Nat.le_of_ble_eq_true rfl) (fun _ => rfl) (fun _ => rfl) d_Pkt_init_22 (kk := ?_)
  obtain ⟨h4, e4⟩ : ∃ x, va_up h3 o (.inr (3, [.ref (o + 1), .int (nI 0), .int (nI 0), .int 0, .int 0])) = x := ⟨_, rfl⟩
  refine J_hh (h2 := h4) e4 ?_
  have l4 : LT h4 (o + 1 + 1) := by rw [← e4]; exact l3.put _ (by intro v q; simp only [List.mem_cons, List.not_mem_nil, or_false] at q; rcases q with rfl | rfl | rfl | rfl | rfl; (exact okR (by omega)); trivial; trivial; trivial; trivial)
  have fr_4 : ∀ k, k < o → h4 k = h k := fun k hk => by rw [← e4]; exact (va_up_ne _ _ (by omega)).trans (fr_3 k hk)
  have co_1_4 : h4 (o + 1) = .inl (0, 3, .inl (fun _ => 0)) := by rw [← e4]; exact (va_up_ne _ _ (by omega)).trans co_1_3
  have co_4 : h4 o = .inr (3, [.ref (o + 1), .int (nI 0), .int (nI 0), .int 0, .int 0]) := by rw [← e4]; exact va_up_self _ _ _
  refine J_aload_n C 0 d_Pkt_init_25 rfl rfl ?_
  refine J_iconst C d_Pkt_init_26 (v := nI 0) rfl ?_
  refine J_put C f_Pkt_26 (by omega) co_4 (Nat.le_of_ble_eq_true rfl) (fun _ => rfl) (fun _ => rfl) d_Pkt_init_27 (kk := ?_)
  obtain ⟨h5, e5⟩ : ∃ x, va_up h4 o (.inr (3, [.ref (o + 1), .int (nI 0), .int (nI 0), .int (nI 0), .int 0])) = x := ⟨_, rfl⟩
  refine J_hh (h2 := h5) e5 ?_
  have l5 : LT h5 (o + 1 + 1) := by rw [← e5]; exact l4.put _ (by intro v q; simp only [List.mem_cons, List.not_mem_nil, or_false] at q; rcases q with rfl | rfl | rfl | rfl | rfl; (exact okR (by omega)); trivial; trivial; trivial; trivial)
  have fr_5 : ∀ k, k < o → h5 k = h k := fun k hk => by rw [← e5]; exact (va_up_ne _ _ (by omega)).trans (fr_4 k hk)
  have co_1_5 : h5 (o + 1) = .inl (0, 3, .inl (fun _ => 0)) := by rw [← e5]; exact (va_up_ne _ _ (by omega)).trans co_1_4
  have co_5 : h5 o = .inr (3, [.ref (o + 1), .int (nI 0), .int (nI 0), .int (nI 0), .int 0]) := by rw [← e5]; exact va_up_self _ _ _
  refine J_aload_n C 0 d_Pkt_init_30 rfl rfl ?_
  refine J_iconst C d_Pkt_init_31 (v := nI 0) rfl ?_
  refine J_put C f_Pkt_29 (by omega) co_5 (Nat.le_of_ble_eq_true rfl) (fun _ => rfl) (fun _ => rfl) d_Pkt_init_32 (kk := ?_)
  obtain ⟨h6, e6⟩ : ∃ x, va_up h5 o (.inr (3, [.ref (o + 1), .int (nI 0), .int (nI 0), .int (nI 0), .int (nI 0)])) = x := ⟨_, rfl⟩
  refine J_hh (h2 := h6) e6 ?_
  have l6 : LT h6 (o + 1 + 1) := by rw [← e6]; exact l5.put _ (by intro v q; simp only [List.mem_cons, List.not_mem_nil, or_false] at q; rcases q with rfl | rfl | rfl | rfl | rfl; (exact okR (by omega)); trivial; trivial; trivial; trivial)
  have fr_6 : ∀ k, k < o → h6 k = h k := fun k hk => by rw [← e6]; exact (va_up_ne _ _ (by omega)).trans (fr_5 k hk)
  have co_1_6 : h6 (o + 1) = .inl (0, 3, .inl (fun _ => 0)) := by rw [← e6]; exact (va_up_ne _ _ (by omega)).trans co_1_5
  have co_6 : h6 o = .inr (3, [.ref (o + 1), .int (nI 0), .int (nI 0), .int (nI 0), .int (nI 0)]) := by rw [← e6]; exact va_up_self _ _ _
  refine J_widen (kc' := 1) (ks' := 3) (by omega) (by omega) ?_
  exact J_return C hr (by omega) ⟨rfl, rfl, l6, fr_6, co_6, co_1_6⟩ d_Pkt_init_35

set_option maxHeartbeats 4000000 in
set_option maxRecDepth 100000 in
theorem c_Str_init (l : Launch) (D : va_G) (dA : Nat → ClassId) (h : Nat → va_E) (o : Nat) (hn : o + 1 + 1 ≤ 900) (ho : h o = .inr (6, [.null, .int 0, .int 0])) (hLT : LT h (o + 1)) : CT l D dA k_Str_init 0 1 60 (o + 1) [.ref o] h (fun v h' n' => v = none ∧ n' = o + 1 + 1 ∧ LT h' n' ∧ (∀ k, k < o → h' k = h k) ∧ h' o = .inr (6, [.ref (o + 1), .int (nI 0), .int (nI 0)]) ∧ h' (o + 1) = .inl (0, 60, .inl (fun _ => 0))) := by
  refine CT.of (by decide +kernel) (Nat.le_of_ble_eq_true rfl) (by intro v hv; simp only [List.mem_cons, List.not_mem_nil, or_false] at hv; rcases hv with rfl <;> rfl) ?_
  intro A ad0 p e s m args below meth c C hr hnm
  have hfr : ∀ k, k < o → h k = h k := fun _ _ => rfl
  refine J_aload_n C 0 d_Str_init_0 rfl rfl ?_
  refine J_objInit C (tb_in 226 (by decide +kernel) (by decide +kernel)) (tb_in 81 (by decide +kernel) (by decide +kernel)) (tb_in 82 (by decide +kernel) (by decide +kernel)) (Nat.le_of_ble_eq_true rfl) d_Str_init_1 ?_
  refine J_aload_n C 0 d_Str_init_4 rfl rfl ?_
  refine J_bipush C d_Str_init_5 (v := nI 60) rfl ?_
  refine J_newa C (t := 0) (N := 60) (ty := .int) rfl (tb_in 144 (by decide +kernel) (by decide +kernel)) (fun _ => (dA_of C.2.2.2.2.2.1).1) (f := .inl (fun _ => 0)) (fun _ => rfl) (fun _ => rfl) rfl (by decide) (by decide) hLT (by omega) (by omega) (by intro i v q; match i, q with | 0, q => obtain rfl := Option.some.inj (Option.some.inj q); exact okR (by omega) | _ + 1, q => exact absurd (show (none : Option (Option Value)) = some (some v) from q) (by simp)) (by intro v q; simp only [List.mem_cons, List.not_mem_nil, or_false] at q; rcases q with rfl; (exact okR (by omega))) (hcz _ _ _ _ _ (by omega) (by omega)) d_Str_init_7 (kk := ?_)
  obtain ⟨h1, e1⟩ : ∃ x, va_up h (o + 1) (.inl (0, 60, .inl (fun _ => 0))) = x := ⟨_, rfl⟩
  refine J_hh (h2 := h1) e1 ?_
  have l1 : LT h1 (o + 1 + 1) := by rw [← e1]; exact hLT.add trivial
  have co_1 : h1 o = .inr (6, [.null, .int 0, .int 0]) := by rw [← e1]; exact (va_up_ne _ _ (by omega)).trans ho
  have fr_1 : ∀ k, k < o → h1 k = h k := fun k hk => by rw [← e1]; exact (va_up_ne _ _ (by omega)).trans (hfr k hk)
  have co_1_1 : h1 (o + 1) = .inl (0, 60, .inl (fun _ => 0)) := by rw [← e1]; exact va_up_self _ _ _
  refine J_putC C (k := 0) ci_Str rfl (by decide) rfl rfl rfl (tb_in 227 (by decide +kernel) (by decide +kernel)) hnm (by omega) co_1 (Nat.le_of_ble_eq_true rfl) (fun _ => rfl) (fun _ => rfl) d_Str_init_9 (kk := ?_)
  obtain ⟨h2, e2⟩ : ∃ x, va_up h1 o (.inr (6, [.ref (o + 1), .int 0, .int 0])) = x := ⟨_, rfl⟩
  refine J_hh (h2 := h2) e2 ?_
  have l2 : LT h2 (o + 1 + 1) := by rw [← e2]; exact l1.put _ (by intro v q; simp only [List.mem_cons, List.not_mem_nil, or_false] at q; rcases q with rfl | rfl | rfl; (exact okR (by omega)); trivial; trivial)
  have fr_2 : ∀ k, k < o → h2 k = h k := fun k hk => by rw [← e2]; exact (va_up_ne _ _ (by omega)).trans (fr_1 k hk)
  have co_1_2 : h2 (o + 1) = .inl (0, 60, .inl (fun _ => 0)) := by rw [← e2]; exact (va_up_ne _ _ (by omega)).trans co_1_1
  have co_2 : h2 o = .inr (6, [.ref (o + 1), .int 0, .int 0]) := by rw [← e2]; exact va_up_self _ _ _
  refine J_aload_n C 0 d_Str_init_12 rfl rfl ?_
  refine J_iconst C d_Str_init_13 (v := nI 0) rfl ?_
  refine J_put C f_Str_15 (by omega) co_2 (Nat.le_of_ble_eq_true rfl) (fun _ => rfl) (fun _ => rfl) d_Str_init_14 (kk := ?_)
  obtain ⟨h3, e3⟩ : ∃ x, va_up h2 o (.inr (6, [.ref (o + 1), .int (nI 0), .int 0])) = x := ⟨_, rfl⟩
  refine J_hh (h2 := h3) e3 ?_
  have l3 : LT h3 (o + 1 + 1) := by rw [← e3]; exact l2.put _ (by intro v q; simp only [List.mem_cons, List.not_mem_nil, or_false] at q; rcases q with rfl | rfl | rfl; (exact okR (by omega)); trivial; trivial)
  have fr_3 : ∀ k, k < o → h3 k = h k := fun k hk => by rw [← e3]; exact (va_up_ne _ _ (by omega)).trans (fr_2 k hk)
  have co_1_3 : h3 (o + 1) = .inl (0, 60, .inl (fun _ => 0)) := by rw [← e3]; exact (va_up_ne _ _ (by omega)).trans co_1_2
  have co_3 : h3 o = .inr (6, [.ref (o + 1), .int (nI 0), .int 0]) := by rw [← e3]; exact va_up_self _ _ _
  refine J_aload_n C 0 d_Str_init_17 rfl rfl ?_
  refine J_iconst C d_Str_init_18 (v := nI 0) rfl ?_
  refine J_put C f_Str_19 (by omega) co_3 (Nat.le_of_ble_eq_true rfl) (fun _ => rfl) (fun _ => rfl) d_Str_init_19 (kk := ?_)
  obtain ⟨h4, e4⟩ : ∃ x, va_up h3 o (.inr (6, [.ref (o + 1), .int (nI 0), .int (nI 0)])) = x := ⟨_, rfl⟩
  refine J_hh (h2 := h4) e4 ?_
  have l4 : LT h4 (o + 1 + 1) := by rw [← e4]; exact l3.put _ (by intro v q; simp only [List.mem_cons, List.not_mem_nil, or_false] at q; rcases q with rfl | rfl | rfl; (exact okR (by omega)); trivial; trivial)
  have fr_4 : ∀ k, k < o → h4 k = h k := fun k hk => by rw [← e4]; exact (va_up_ne _ _ (by omega)).trans (fr_3 k hk)
  have co_1_4 : h4 (o + 1) = .inl (0, 60, .inl (fun _ => 0)) := by rw [← e4]; exact (va_up_ne _ _ (by omega)).trans co_1_3
  have co_4 : h4 o = .inr (6, [.ref (o + 1), .int (nI 0), .int (nI 0)]) := by rw [← e4]; exact va_up_self _ _ _
  refine J_widen (kc' := 1) (ks' := 60) (by omega) (by omega) ?_
  exact J_return C hr (by omega) ⟨rfl, rfl, l4, fr_4, co_4, co_1_4⟩ d_Str_init_22

set_option maxHeartbeats 4000000 in
set_option maxRecDepth 100000 in
theorem c_Lan_init (l : Launch) (D : va_G) (dA : Nat → ClassId) (h : Nat → va_E) (hn : 70 + 3 ≤ 900) (ho : h 69 = .inr (7, [.null, .null, .int 0])) (hLT : LT h (70)) : CT l D dA k_Lan_init 1 3 137 (70) [.ref 69] h (fun v h' n' => v = none ∧ n' = 70 + 3 ∧ LT h' n' ∧ (∀ k, k < 69 → h' k = h k) ∧ h' 69 = .inr (7, [.ref 70, .ref 71, .int (nI 0)]) ∧ h' 70 = .inl (0, 71, .inl (fun _ => 0)) ∧ h' 71 = .inr (8, [.ref 72, .int (nI 5)]) ∧ h' 72 = .inl (0, 64, .inl (fun _ => 0))) := by
  refine CT.of (by decide +kernel) (Nat.le_of_ble_eq_true rfl) (by intro v hv; simp only [List.mem_cons, List.not_mem_nil, or_false] at hv; rcases hv with rfl <;> rfl) ?_
  intro A ad0 p e s m args below meth c C hr hnm
  have hfr : ∀ k, k < 69 → h k = h k := fun _ _ => rfl
  refine J_aload_n C 0 d_Lan_init_0 rfl rfl ?_
  refine J_objInit C (tb_in 276 (by decide +kernel) (by decide +kernel)) (tb_in 81 (by decide +kernel) (by decide +kernel)) (tb_in 82 (by decide +kernel) (by decide +kernel)) (Nat.le_of_ble_eq_true rfl) d_Lan_init_1 ?_
  refine J_aload_n C 0 d_Lan_init_4 rfl rfl ?_
  refine J_bipush C d_Lan_init_5 (v := nI 71) rfl ?_
  refine J_newa C (t := 0) (N := 71) (ty := .int) rfl (tb_in 144 (by decide +kernel) (by decide +kernel)) (fun _ => (dA_of C.2.2.2.2.2.1).1) (f := .inl (fun _ => 0)) (fun _ => rfl) (fun _ => rfl) rfl (by decide) (by decide) hLT (by omega) (by omega) (by intro i v q; match i, q with | 0, q => obtain rfl := Option.some.inj (Option.some.inj q); exact okR (by omega) | _ + 1, q => exact absurd (show (none : Option (Option Value)) = some (some v) from q) (by simp)) (by intro v q; simp only [List.mem_cons, List.not_mem_nil, or_false] at q; rcases q with rfl; (exact okR (by omega))) (hcz _ _ _ _ _ (by omega) (by omega)) d_Lan_init_7 (kk := ?_)
  obtain ⟨h1, e1⟩ : ∃ x, va_up h 70 (.inl (0, 71, .inl (fun _ => 0))) = x := ⟨_, rfl⟩
  refine J_hh (h2 := h1) e1 ?_
  have l1 : LT h1 (70 + 1) := by rw [← e1]; exact hLT.add trivial
  have co_1 : h1 69 = .inr (7, [.null, .null, .int 0]) := by rw [← e1]; exact (va_up_ne _ _ (by omega)).trans ho
  have fr_1 : ∀ k, k < 69 → h1 k = h k := fun k hk => by rw [← e1]; exact (va_up_ne _ _ (by omega)).trans (hfr k hk)
  have c70_1 : h1 70 = .inl (0, 71, .inl (fun _ => 0)) := by rw [← e1]; exact va_up_self _ _ _
  refine J_putC C (k := 0) ci_Lan rfl (by decide) rfl rfl rfl (tb_in 290 (by decide +kernel) (by decide +kernel)) hnm (by omega) co_1 (Nat.le_of_ble_eq_true rfl) (fun _ => rfl) (fun _ => rfl) d_Lan_init_9 (kk := ?_)
  obtain ⟨h2, e2⟩ : ∃ x, va_up h1 69 (.inr (7, [.ref 70, .null, .int 0])) = x := ⟨_, rfl⟩
  refine J_hh (h2 := h2) e2 ?_
  have l2 : LT h2 (71) := by rw [← e2]; exact l1.put _ (by intro v q; simp only [List.mem_cons, List.not_mem_nil, or_false] at q; rcases q with rfl | rfl | rfl; (exact okR (by omega)); trivial; trivial)
  have fr_2 : ∀ k, k < 69 → h2 k = h k := fun k hk => by rw [← e2]; exact (va_up_ne _ _ (by omega)).trans (fr_1 k hk)
  have c70_2 : h2 70 = .inl (0, 71, .inl (fun _ => 0)) := by rw [← e2]; exact (va_up_ne _ _ (by omega)).trans c70_1
  have c69_2 : h2 69 = .inr (7, [.ref 70, .null, .int 0]) := by rw [← e2]; exact va_up_self _ _ _
  refine J_aload_n C 0 d_Lan_init_12 rfl rfl ?_
  refine J_new C (ci := 8) (fs := [.null, .int 0]) in_tb.2.2.2.2.2.2.2.2.1 ty_Frm tk_Frm (tb_in 277 (by decide +kernel) (by decide +kernel)) (tb_in 278 (by decide +kernel) (by decide +kernel)) (tb_in 53 (by decide +kernel) (by decide +kernel)) rfl (by intro j hj; match j, hj with | 0, _ => rfl | 1, _ => rfl | _ + 2, hj => exact absurd hj (by omega)) (fun _ => rfl) l2 (by omega) (by omega) (by intro i v q; match i, q with | 0, q => obtain rfl := Option.some.inj (Option.some.inj q); exact okR (by omega) | _ + 1, q => exact absurd (show (none : Option (Option Value)) = some (some v) from q) (by simp)) (by intro v q; simp only [List.mem_cons, List.not_mem_nil, or_false] at q; rcases q with rfl; (exact okR (by omega))) (hcz _ _ _ _ _ (by omega) (by omega)) d_Lan_init_13 (kk := ?_)
  obtain ⟨h3, e3⟩ : ∃ x, va_up h2 71 (.inr (8, [.null, .int 0])) = x := ⟨_, rfl⟩
  refine J_hh (h2 := h3) e3 ?_
  have l3 : LT h3 (71 + 1) := by rw [← e3]; exact l2.add (by intro v q; simp only [List.mem_cons, List.not_mem_nil, or_false] at q; rcases q with rfl | rfl <;> trivial)
  have fr_3 : ∀ k, k < 69 → h3 k = h k := fun k hk => by rw [← e3]; exact (va_up_ne _ _ (by omega)).trans (fr_2 k hk)
  have c70_3 : h3 70 = .inl (0, 71, .inl (fun _ => 0)) := by rw [← e3]; exact (va_up_ne _ _ (by omega)).trans c70_2
  have c69_3 : h3 69 = .inr (7, [.ref 70, .null, .int 0]) := by rw [← e3]; exact (va_up_ne _ _ (by omega)).trans c69_2
  have c71_3 : h3 71 = .inr (8, [.null, .int 0]) := by rw [← e3]; exact va_up_self _ _ _
  refine J_dup C d_Lan_init_16 rfl ?_
  refine J_callI C (as := []) (st := [.ref 71, .ref 69]) (c_Frm_init l D dA h3   (by omega) c71_3 l3) l_Lan_15 ⟨rfl, (tb_in 280 (by decide +kernel) (by decide +kernel)), rfl⟩ rfl (by omega) (by omega) (by decide) (hcz _ _ _ _ _ (by omega) (by omega)) (Nat.le_of_ble_eq_true rfl) (fun v h1 n1 q => ⟨q.1, by have := q.2.1; omega⟩) (by intro i v q; match i, q with | 0, q => obtain rfl := Option.some.inj (Option.some.inj q); exact okR (by omega) | _ + 1, q => exact absurd (show (none : Option (Option Value)) = some (some v) from q) (by simp)) (by intro v q; simp only [List.mem_cons, List.not_mem_nil, or_false] at q; rcases q with rfl | rfl; (exact okR (by omega)); (exact okR (by omega))) d_Lan_init_17 (kk := ?_)
  intro h4 n1 q _
  obtain ⟨-, rfl, l4, f4, p4_0, p4_1⟩ := q
  have fr_4 : ∀ k, k < 69 → h4 k = h k := fun k hk => (f4 _ (by omega)).trans (fr_3 k hk)
  have c70_4 : h4 70 = .inl (0, 71, .inl (fun _ => 0)) := (f4 _ (by omega)).trans c70_3
  have c69_4 : h4 69 = .inr (7, [.ref 70, .null, .int 0]) := (f4 _ (by omega)).trans c69_3
  refine J_putC C (k := 1) ci_Lan rfl (by decide) rfl rfl rfl (tb_in 291 (by decide +kernel) (by decide +kernel)) hnm (by omega) c69_4 (Nat.le_of_ble_eq_true rfl) (fun _ => rfl) (fun _ => rfl) d_Lan_init_20 (kk := ?_)
  obtain ⟨h5, e5⟩ : ∃ x, va_up h4 69 (.inr (7, [.ref 70, .ref 71, .int 0])) = x := ⟨_, rfl⟩
  refine J_hh (h2 := h5) e5 ?_
  have l5 : LT h5 (73) := by rw [← e5]; exact l4.put _ (by intro v q; simp only [List.mem_cons, List.not_mem_nil, or_false] at q; rcases q with rfl | rfl | rfl; (exact okR (by omega)); (exact okR (by omega)); trivial)
  have fr_5 : ∀ k, k < 69 → h5 k = h k := fun k hk => by rw [← e5]; exact (va_up_ne _ _ (by omega)).trans (fr_4 k hk)
  have c70_5 : h5 70 = .inl (0, 71, .inl (fun _ => 0)) := by rw [← e5]; exact (va_up_ne _ _ (by omega)).trans c70_4
  have p4_0q0_5 : h5 71 = .inr (8, [.ref 72, .int (nI 5)]) := by rw [← e5]; exact (va_up_ne _ _ (by omega)).trans p4_0
  have p4_1q0_5 : h5 72 = .inl (0, 64, .inl (fun _ => 0)) := by rw [← e5]; exact (va_up_ne _ _ (by omega)).trans p4_1
  have c69_5 : h5 69 = .inr (7, [.ref 70, .ref 71, .int 0]) := by rw [← e5]; exact va_up_self _ _ _
  refine J_aload_n C 0 d_Lan_init_23 rfl rfl ?_
  refine J_iconst C d_Lan_init_24 (v := nI 0) rfl ?_
  refine J_put C f_Lan_20 (by omega) c69_5 (Nat.le_of_ble_eq_true rfl) (fun _ => rfl) (fun _ => rfl) d_Lan_init_25 (kk := ?_)
  obtain ⟨h6, e6⟩ : ∃ x, va_up h5 69 (.inr (7, [.ref 70, .ref 71, .int (nI 0)])) = x := ⟨_, rfl⟩
  refine J_hh (h2 := h6) e6 ?_
  have l6 : LT h6 (73) := by rw [← e6]; exact l5.put _ (by intro v q; simp only [List.mem_cons, List.not_mem_nil, or_false] at q; rcases q with rfl | rfl | rfl; (exact okR (by omega)); (exact okR (by omega)); trivial)
  have fr_6 : ∀ k, k < 69 → h6 k = h k := fun k hk => by rw [← e6]; exact (va_up_ne _ _ (by omega)).trans (fr_5 k hk)
  have c70_6 : h6 70 = .inl (0, 71, .inl (fun _ => 0)) := by rw [← e6]; exact (va_up_ne _ _ (by omega)).trans c70_5
  have p4_0q0_6 : h6 71 = .inr (8, [.ref 72, .int (nI 5)]) := by rw [← e6]; exact (va_up_ne _ _ (by omega)).trans p4_0q0_5
  have p4_1q0_6 : h6 72 = .inl (0, 64, .inl (fun _ => 0)) := by rw [← e6]; exact (va_up_ne _ _ (by omega)).trans p4_1q0_5
  have c69_6 : h6 69 = .inr (7, [.ref 70, .ref 71, .int (nI 0)]) := by rw [← e6]; exact va_up_self _ _ _
  refine J_widen (kc' := 3) (ks' := 137) (by omega) (by omega) ?_
  exact J_return C hr (by omega) ⟨rfl, rfl, l6, fr_6, c69_6, c70_6, p4_0q0_6, p4_1q0_6⟩ d_Lan_init_28

set_option maxHeartbeats 4000000 in
set_option maxRecDepth 100000 in
theorem c_Mod_init (l : Launch) (D : va_G) (dA : Nat → ClassId) (h : Nat → va_E) (hn : 77 + 12 ≤ 900) (ho : h 76 = .inr (10, [.int 0, .int 0, .null, .int 0, .int 0, .null, .int 0, .int 0, .int 0, .int 0, .int 0, .int 0, .null, .null, .null, .int 0, .null, .null, .null, .null, .null, .int 0, .int 0, .int 0, .null, .int 0, .null])) (hLT : LT h (77)) : CT l D dA k_Mod_init 0 12 1952 (77) [.ref 76] h (fun v h' n' => v = none ∧ n' = 77 + 12 ∧ LT h' n' ∧ (∀ k, k < 76 → h' k = h k) ∧ h' 76 = .inr (10, [.int (nI 0), .int (nI 0), .ref 77, .int (nI 0), .int (nI 0), .ref 78, .int (nI 0), .int (nI 0), .int (nI 0), .int (nI 0), .int (nI 0), .int (nI 0), .ref 79, .ref 80, .ref 81, .int (nI 0), .ref 82, .ref 83, .ref 84, .ref 85, .ref 86, .int (nI 0), .int (nI 0), .int (nI 0), .ref 87, .int (nI 0), .ref 88]) ∧ h' 77 = .inl (0, 6, .inl (upd (upd (upd (upd (fun _ => 0) 1 (nI 1)) 2 (nI 1)) 4 (nI 1)) 5 (nI 1))) ∧ h' 78 = .inl (0, 80, .inl (fun _ => 0)) ∧ h' 79 = .inl (1, 4, .inl (fun _ => 0)) ∧ h' 80 = .inl (0, 4, .inl (fun _ => 0)) ∧ h' 81 = .inl (0, 240, .inl (fun _ => 0)) ∧ h' 82 = .inl (0, 24, .inl (fun _ => 0)) ∧ h' 83 = .inl (0, 24, .inl (fun _ => 0)) ∧ h' 84 = .inl (0, 1440, .inl (fun _ => 0)) ∧ h' 85 = .inl (0, 72, .inl (fun _ => 0)) ∧ h' 86 = .inl (0, 24, .inl (fun _ => 0)) ∧ h' 87 = .inl (0, 32, .inl (fun _ => 0)) ∧ h' 88 = .inl (0, 2, .inl (fun _ => 0))) := by
  refine CT.of (by decide +kernel) (Nat.le_of_ble_eq_true rfl) (by intro v hv; simp only [List.mem_cons, List.not_mem_nil, or_false] at hv; rcases hv with rfl <;> rfl) ?_
  intro A ad0 p e s m args below meth c C hr hnm
  have hfr : ∀ k, k < 76 → h k = h k := fun _ _ => rfl
  refine J_aload_n C 0 d_Mod_init_0 rfl rfl ?_
  refine J_objInit C (tb_in 1091 (by decide +kernel) (by decide +kernel)) (tb_in 81 (by decide +kernel) (by decide +kernel)) (tb_in 82 (by decide +kernel) (by decide +kernel)) (Nat.le_of_ble_eq_true rfl) d_Mod_init_1 ?_
  refine J_aload_n C 0 d_Mod_init_4 rfl rfl ?_
  refine J_iconst C d_Mod_init_5 (v := nI 0) rfl ?_
  refine J_put C f_Mod_7 (by omega) ho (Nat.le_of_ble_eq_true rfl) (fun _ => rfl) (fun _ => rfl) d_Mod_init_6 (kk := ?_)
  obtain ⟨h1, e1⟩ : ∃ x, va_up h 76 (.inr (10, [.int (nI 0), .int 0, .null, .int 0, .int 0, .null, .int 0, .int 0, .int 0, .int 0, .int 0, .int 0, .null, .null, .null, .int 0, .null, .null, .null, .null, .null, .int 0, .int 0, .int 0, .null, .int 0, .null])) = x := ⟨_, rfl⟩
  refine J_hh (h2 := h1) e1 ?_
  have l1 : LT h1 (77) := by rw [← e1]; exact hLT.put _ (by intro v q; simp only [List.mem_cons, List.not_mem_nil, or_false] at q; rcases q with rfl | rfl | rfl | rfl | rfl | rfl | rfl | rfl | rfl | rfl | rfl | rfl | rfl | rfl | rfl | rfl | rfl | rfl | rfl | rfl | rfl | rfl | rfl | rfl | rfl | rfl | rfl; trivial; trivial; trivial; trivial; trivial; trivial; trivial; trivial; trivial; trivial; trivial; trivial; trivial; trivial; trivial; trivial; trivial; trivial; trivial; trivial; trivial; trivial; trivial; trivial; trivial; trivial; trivial)
  have fr_1 : ∀ k, k < 76 → h1 k = h k := fun k hk => by rw [← e1]; exact (va_up_ne _ _ (by omega)).trans (hfr k hk)
  have c76_1 : h1 76 = .inr (10, [.int (nI 0), .int 0, .null, .int 0, .int 0, .null, .int 0, .int 0, .int 0, .int 0, .int 0, .int 0, .null, .null, .null, .int 0, .null, .null, .null, .null, .null, .int 0, .int 0, .int 0, .null, .int 0, .null]) := by rw [← e1]; exact va_up_self _ _ _
  refine J_aload_n C 0 d_Mod_init_9 rfl rfl ?_
  refine J_iconst C d_Mod_init_10 (v := nI 0) rfl ?_
  refine J_put C f_Mod_13 (by omega) c76_1 (Nat.le_of_ble_eq_true rfl) (fun _ => rfl) (fun _ => rfl) d_Mod_init_11 (kk := ?_)
  obtain ⟨h2, e2⟩ : ∃ x, va_up h1 76 (.inr (10, [.int (nI 0), .int (nI 0), .null, .int 0, .int 0, .null, .int 0, .int 0, .int 0, .int 0, .int 0, .int 0, .null, .null, .null, .int 0, .null, .null, .null, .null, .null, .int 0, .int 0, .int 0, .null, .int 0, .null])) = x := ⟨_, rfl⟩
  refine J_hh (h2 := h2) e2 ?_
  have l2 : LT h2 (77) := by rw [← e2]; exact l1.put _ (by intro v q; simp only [List.mem_cons, List.not_mem_nil, or_false] at q; rcases q with rfl | rfl | rfl | rfl | rfl | rfl | rfl | rfl | rfl | rfl | rfl | rfl | rfl | rfl | rfl | rfl | rfl | rfl | rfl | rfl | rfl | rfl | rfl | rfl | rfl | rfl | rfl; trivial; trivial; trivial; trivial; trivial; trivial; trivial; trivial; trivial; trivial; trivial; trivial; trivial; trivial; trivial; trivial; trivial; trivial; trivial; trivial; trivial; trivial; trivial; trivial; trivial; trivial; trivial)
  have fr_2 : ∀ k, k < 76 → h2 k = h k := fun k hk => by rw [← e2]; exact (va_up_ne _ _ (by omega)).trans (fr_1 k hk)
  have c76_2 : h2 76 = .inr (10, [.int (nI 0), .int (nI 0), .null, .int 0, .int 0, .null, .int 0, .int 0, .int 0, .int 0, .int 0, .int 0, .null, .null, .null, .int 0, .null, .null, .null, .null, .null, .int 0, .int 0, .int 0, .null, .int 0, .null]) := by rw [← e2]; exact va_up_self _ _ _
  refine J_aload_n C 0 d_Mod_init_14 rfl rfl ?_
  refine J_bipush C d_Mod_init_15 (v := nI 6) rfl ?_
  refine J_newa C (t := 0) (N := 6) (ty := .int) rfl (tb_in 144 (by decide +kernel) (by decide +kernel)) (fun _ => (dA_of C.2.2.2.2.2.1).1) (f := .inl (fun _ => 0)) (fun _ => rfl) (fun _ => rfl) rfl (by decide) (by decide) l2 (by omega) (by omega) (by intro i v q; match i, q with | 0, q => obtain rfl := Option.some.inj (Option.some.inj q); exact okR (by omega) | 1, q => exact absurd (show (some none : Option (Option Value)) = some (some v) from q) (by simp) | _ + 2, q => exact absurd (show (none : Option (Option Value)) = some (some v) from q) (by simp)) (by intro v q; simp only [List.mem_cons, List.not_mem_nil, or_false] at q; rcases q with rfl; (exact okR (by omega))) (hcz _ _ _ _ _ (by omega) (by omega)) d_Mod_init_17 (kk := ?_)
  obtain ⟨h3, e3⟩ : ∃ x, va_up h2 77 (.inl (0, 6, .inl (fun _ => 0))) = x := ⟨_, rfl⟩
  refine J_hh (h2 := h3) e3 ?_
  have l3 : LT h3 (77 + 1) := by rw [← e3]; exact l2.add trivial
  have fr_3 : ∀ k, k < 76 → h3 k = h k := fun k hk => by rw [← e3]; exact (va_up_ne _ _ (by omega)).trans (fr_2 k hk)
  have c76_3 : h3 76 = .inr (10, [.int (nI 0), .int (nI 0), .null, .int 0, .int 0, .null, .int 0, .int 0, .int 0, .int 0, .int 0, .int 0, .null, .null, .null, .int 0, .null, .null, .null, .null, .null, .int 0, .int 0, .int 0, .null, .int 0, .null]) := by rw [← e3]; exact (va_up_ne _ _ (by omega)).trans c76_2
  have c77_3 : h3 77 = .inl (0, 6, .inl (fun _ => 0)) := by rw [← e3]; exact va_up_self _ _ _
  refine J_putC C (k := 2) ci_Mod rfl (by decide) rfl rfl rfl (tb_in 1094 (by decide +kernel) (by decide +kernel)) hnm (by omega) c76_3 (Nat.le_of_ble_eq_true rfl) (fun _ => rfl) (fun _ => rfl) d_Mod_init_19 (kk := ?_)
  obtain ⟨h4, e4⟩ : ∃ x, va_up h3 76 (.inr (10, [.int (nI 0), .int (nI 0), .ref 77, .int 0, .int 0, .null, .int 0, .int 0, .int 0, .int 0, .int 0, .int 0, .null, .null, .null, .int 0, .null, .null, .null, .null, .null, .int 0, .int 0, .int 0, .null, .int 0, .null])) = x := ⟨_, rfl⟩
  refine J_hh (h2 := h4) e4 ?_
  have l4 : LT h4 (78) := by rw [← e4]; exact l3.put _ (by intro v q; simp only [List.mem_cons, List.not_mem_nil, or_false] at q; rcases q with rfl | rfl | rfl | rfl | rfl | rfl | rfl | rfl | rfl | rfl | rfl | rfl | rfl | rfl | rfl | rfl | rfl | rfl | rfl | rfl | rfl | rfl | rfl | rfl | rfl | rfl | rfl; trivial; trivial; (exact okR (by omega)); trivial; trivial; trivial; trivial; trivial; trivial; trivial; trivial; trivial; trivial; trivial; trivial; trivial; trivial; trivial; trivial; trivial; trivial; trivial; trivial; trivial; trivial; trivial; trivial)
  have fr_4 : ∀ k, k < 76 → h4 k = h k := fun k hk => by rw [← e4]; exact (va_up_ne _ _ (by omega)).trans (fr_3 k hk)
  have c77_4 : h4 77 = .inl (0, 6, .inl (fun _ => 0)) := by rw [← e4]; exact (va_up_ne _ _ (by omega)).trans c77_3
  have c76_4 : h4 76 = .inr (10, [.int (nI 0), .int (nI 0), .ref 77, .int 0, .int 0, .null, .int 0, .int 0, .int 0, .int 0, .int 0, .int 0, .null, .null, .null, .int 0, .null, .null, .null, .null, .null, .int 0, .int 0, .int 0, .null, .int 0, .null]) := by rw [← e4]; exact va_up_self _ _ _
  refine J_aload_n C 0 d_Mod_init_22 rfl rfl ?_
  refine J_iconst C d_Mod_init_23 (v := nI 0) rfl ?_
  refine J_put C f_Mod_20 (by omega) c76_4 (Nat.le_of_ble_eq_true rfl) (fun _ => rfl) (fun _ => rfl) d_Mod_init_24 (kk := ?_)
  obtain ⟨h5, e5⟩ : ∃ x, va_up h4 76 (.inr (10, [.int (nI 0), .int (nI 0), .ref 77, .int (nI 0), .int 0, .null, .int 0, .int 0, .int 0, .int 0, .int 0, .int 0, .null, .null, .null, .int 0, .null, .null, .null, .null, .null, .int 0, .int 0, .int 0, .null, .int 0, .null])) = x := ⟨_, rfl⟩
  refine J_hh (h2 := h5) e5 ?_
  have l5 : LT h5 (78) := by rw [← e5]; exact l4.put _ (by intro v q; simp only [List.mem_cons, List.not_mem_nil, or_false] at q; rcases q with rfl | rfl | rfl | rfl | rfl | rfl | rfl | rfl | rfl | rfl | rfl | rfl | rfl | rfl | rfl | rfl | rfl | rfl | rfl | rfl | rfl | rfl | rfl | rfl | rfl | rfl | rfl; trivial; trivial; (exact okR (by omega)); trivial; trivial; trivial; trivial; trivial; trivial; trivial; trivial; trivial; trivial; trivial; trivial; trivial; trivial; trivial; trivial; trivial; trivial; trivial; trivial; trivial; trivial; trivial; trivial)
  have fr_5 : ∀ k, k < 76 → h5 k = h k := fun k hk => by rw [← e5]; exact (va_up_ne _ _ (by omega)).trans (fr_4 k hk)
  have c77_5 : h5 77 = .inl (0, 6, .inl (fun _ => 0)) := by rw [← e5]; exact (va_up_ne _ _ (by omega)).trans c77_4
  have c76_5 : h5 76 = .inr (10, [.int (nI 0), .int (nI 0), .ref 77, .int (nI 0), .int 0, .null, .int 0, .int 0, .int 0, .int 0, .int 0, .int 0, .null, .null, .null, .int 0, .null, .null, .null, .null, .null, .int 0, .int 0, .int 0, .null, .int 0, .null]) := by rw [← e5]; exact va_up_self _ _ _
  refine J_aload_n C 0 d_Mod_init_27 rfl rfl ?_
  refine J_iconst C d_Mod_init_28 (v := nI 0) rfl ?_
  refine J_put C f_Mod_24 (by omega) c76_5 (Nat.le_of_ble_eq_true rfl) (fun _ => rfl) (fun _ => rfl) d_Mod_init_29 (kk := ?_)
  obtain ⟨h6, e6⟩ : ∃ x, va_up h5 76 (.inr (10, [.int (nI 0), .int (nI 0), .ref 77, .int (nI 0), .int (nI 0), .null, .int 0, .int 0, .int 0, .int 0, .int 0, .int 0, .null, .null, .null, .int 0, .null, .null, .null, .null, .null, .int 0, .int 0, .int 0, .null, .int 0, .null])) = x := ⟨_, rfl⟩
  refine J_hh (h2 := h6) e6 ?_
  have l6 : LT h6 (78) := by rw [← e6]; exact l5.put _ (by intro v q; simp only [List.mem_cons, List.not_mem_nil, or_false] at q; rcases q with rfl | rfl | rfl | rfl | rfl | rfl | rfl | rfl | rfl | rfl | rfl | rfl | rfl | rfl | rfl | rfl | rfl | rfl | rfl | rfl | rfl | rfl | rfl | rfl | rfl | rfl | rfl; trivial; trivial; (exact okR (by omega)); trivial; trivial; trivial; trivial; trivial; trivial; trivial; trivial; trivial; trivial; trivial; trivial; trivial; trivial; trivial; trivial; trivial; trivial; trivial; trivial; trivial; trivial; trivial; trivial)
  have fr_6 : ∀ k, k < 76 → h6 k = h k := fun k hk => by rw [← e6]; exact (va_up_ne _ _ (by omega)).trans (fr_5 k hk)
  have c77_6 : h6 77 = .inl (0, 6, .inl (fun _ => 0)) := by rw [← e6]; exact (va_up_ne _ _ (by omega)).trans c77_5
  have c76_6 : h6 76 = .inr (10, [.int (nI 0), .int (nI 0), .ref 77, .int (nI 0), .int (nI 0), .null, .int 0, .int 0, .int 0, .int 0, .int 0, .int 0, .null, .null, .null, .int 0, .null, .null, .null, .null, .null, .int 0, .int 0, .int 0, .null, .int 0, .null]) := by rw [← e6]; exact va_up_self _ _ _
  refine J_aload_n C 0 d_Mod_init_32 rfl rfl ?_
  refine J_bipush C d_Mod_init_33 (v := nI 80) rfl ?_
  refine J_newa C (t := 0) (N := 80) (ty := .int) rfl (tb_in 144 (by decide +kernel) (by decide +kernel)) (fun _ => (dA_of C.2.2.2.2.2.1).1) (f := .inl (fun _ => 0)) (fun _ => rfl) (fun _ => rfl) rfl (by decide) (by decide) l6 (by omega) (by omega) (by intro i v q; match i, q with | 0, q => obtain rfl := Option.some.inj (Option.some.inj q); exact okR (by omega) | 1, q => exact absurd (show (some none : Option (Option Value)) = some (some v) from q) (by simp) | _ + 2, q => exact absurd (show (none : Option (Option Value)) = some (some v) from q) (by simp)) (by intro v q; simp only [List.mem_cons, List.not_mem_nil, or_false] at q; rcases q with rfl; (exact okR (by omega))) (hcz _ _ _ _ _ (by omega) (by omega)) d_Mod_init_35 (kk := ?_)
  obtain ⟨h7, e7⟩ : ∃ x, va_up h6 78 (.inl (0, 80, .inl (fun _ => 0))) = x := ⟨_, rfl⟩
  refine J_hh (h2 := h7) e7 ?_
  have l7 : LT h7 (78 + 1) := by rw [← e7]; exact l6.add trivial
  have fr_7 : ∀ k, k < 76 → h7 k = h k := fun k hk => by rw [← e7]; exact (va_up_ne _ _ (by omega)).trans (fr_6 k hk)
  have c77_7 : h7 77 = .inl (0, 6, .inl (fun _ => 0)) := by rw [← e7]; exact (va_up_ne _ _ (by omega)).trans c77_6
  have c76_7 : h7 76 = .inr (10, [.int (nI 0), .int (nI 0), .ref 77, .int (nI 0), .int (nI 0), .null, .int 0, .int 0, .int 0, .int 0, .int 0, .int 0, .null, .null, .null, .int 0, .null, .null, .null, .null, .null, .int 0, .int 0, .int 0, .null, .int 0, .null]) := by rw [← e7]; exact (va_up_ne _ _ (by omega)).trans c76_6
  have c78_7 : h7 78 = .inl (0, 80, .inl (fun _ => 0)) := by rw [← e7]; exact va_up_self _ _ _
  refine J_putC C (k := 5) ci_Mod rfl (by decide) rfl rfl rfl (tb_in 1097 (by decide +kernel) (by decide +kernel)) hnm (by omega) c76_7 (Nat.le_of_ble_eq_true rfl) (fun _ => rfl) (fun _ => rfl) d_Mod_init_37 (kk := ?_)
  obtain ⟨h8, e8⟩ : ∃ x, va_up h7 76 (.inr (10, [.int (nI 0), .int (nI 0), .ref 77, .int (nI 0), .int (nI 0), .ref 78, .int 0, .int 0, .int 0, .int 0, .int 0, .int 0, .null, .null, .null, .int 0, .null, .null, .null, .null, .null, .int 0, .int 0, .int 0, .null, .int 0, .null])) = x := ⟨_, rfl⟩
  refine J_hh (h2 := h8) e8 ?_
  have l8 : LT h8 (79) := by rw [← e8]; exact l7.put _ (by intro v q; simp only [List.mem_cons, List.not_mem_nil, or_false] at q; rcases q with rfl | rfl | rfl | rfl | rfl | rfl | rfl | rfl | rfl | rfl | rfl | rfl | rfl | rfl | rfl | rfl | rfl | rfl | rfl | rfl | rfl | rfl | rfl | rfl | rfl | rfl | rfl; trivial; trivial; (exact okR (by omega)); trivial; trivial; (exact okR (by omega)); trivial; trivial; trivial; trivial; trivial; trivial; trivial; trivial; trivial; trivial; trivial; trivial; trivial; trivial; trivial; trivial; trivial; trivial; trivial; trivial; trivial)
  have fr_8 : ∀ k, k < 76 → h8 k = h k := fun k hk => by rw [← e8]; exact (va_up_ne _ _ (by omega)).trans (fr_7 k hk)
  have c77_8 : h8 77 = .inl (0, 6, .inl (fun _ => 0)) := by rw [← e8]; exact (va_up_ne _ _ (by omega)).trans c77_7
  have c78_8 : h8 78 = .inl (0, 80, .inl (fun _ => 0)) := by rw [← e8]; exact (va_up_ne _ _ (by omega)).trans c78_7
  have c76_8 : h8 76 = .inr (10, [.int (nI 0), .int (nI 0), .ref 77, .int (nI 0), .int (nI 0), .ref 78, .int 0, .int 0, .int 0, .int 0, .int 0, .int 0, .null, .null, .null, .int 0, .null, .null, .null, .null, .null, .int 0, .int 0, .int 0, .null, .int 0, .null]) := by rw [← e8]; exact va_up_self _ _ _
  refine J_aload_n C 0 d_Mod_init_40 rfl rfl ?_
  refine J_iconst C d_Mod_init_41 (v := nI 0) rfl ?_
  refine J_put C f_Mod_30 (by omega) c76_8 (Nat.le_of_ble_eq_true rfl) (fun _ => rfl) (fun _ => rfl) d_Mod_init_42 (kk := ?_)
  obtain ⟨h9, e9⟩ : ∃ x, va_up h8 76 (.inr (10, [.int (nI 0), .int (nI 0), .ref 77, .int (nI 0), .int (nI 0), .ref 78, .int (nI 0), .int 0, .int 0, .int 0, .int 0, .int 0, .null, .null, .null, .int 0, .null, .null, .null, .null, .null, .int 0, .int 0, .int 0, .null, .int 0, .null])) = x := ⟨_, rfl⟩
  refine J_hh (h2 := h9) e9 ?_
  have l9 : LT h9 (79) := by rw [← e9]; exact l8.put _ (by intro v q; simp only [List.mem_cons, List.not_mem_nil, or_false] at q; rcases q with rfl | rfl | rfl | rfl | rfl | rfl | rfl | rfl | rfl | rfl | rfl | rfl | rfl | rfl | rfl | rfl | rfl | rfl | rfl | rfl | rfl | rfl | rfl | rfl | rfl | rfl | rfl; trivial; trivial; (exact okR (by omega)); trivial; trivial; (exact okR (by omega)); trivial; trivial; trivial; trivial; trivial; trivial; trivial; trivial; trivial; trivial; trivial; trivial; trivial; trivial; trivial; trivial; trivial; trivial; trivial; trivial; trivial)
  have fr_9 : ∀ k, k < 76 → h9 k = h k := fun k hk => by rw [← e9]; exact (va_up_ne _ _ (by omega)).trans (fr_8 k hk)
  have c77_9 : h9 77 = .inl (0, 6, .inl (fun _ => 0)) := by rw [← e9]; exact (va_up_ne _ _ (by omega)).trans c77_8
  have c78_9 : h9 78 = .inl (0, 80, .inl (fun _ => 0)) := by rw [← e9]; exact (va_up_ne _ _ (by omega)).trans c78_8
  have c76_9 : h9 76 = .inr (10, [.int (nI 0), .int (nI 0), .ref 77, .int (nI 0), .int (nI 0), .ref 78, .int (nI 0), .int 0, .int 0, .int 0, .int 0, .int 0, .null, .null, .null, .int 0, .null, .null, .null, .null, .null, .int 0, .int 0, .int 0, .null, .int 0, .null]) := by rw [← e9]; exact va_up_self _ _ _
  refine J_aload_n C 0 d_Mod_init_45 rfl rfl ?_
  refine J_iconst C d_Mod_init_46 (v := nI 0) rfl ?_
  refine J_put C f_Mod_33 (by omega) c76_9 (Nat.le_of_ble_eq_true rfl) (fun _ => rfl) (fun _ => rfl) d_Mod_init_47 (kk := ?_)
  obtain ⟨h10, e10⟩ : ∃ x, va_up h9 76 (.inr (10, [.int (nI 0), .int (nI 0), .ref 77, .int (nI 0), .int (nI 0), .ref 78, .int (nI 0), .int (nI 0), .int 0, .int 0, .int 0, .int 0, .null, .null, .null, .int 0, .null, .null, .null, .null, .null, .int 0, .int 0, .int 0, .null, .int 0, .null])) = x := ⟨_, rfl⟩
  refine J_hh (h2 := h10) e10 ?_
  have l10 : LT h10 (79) := by rw [← e10]; exact l9.put _ (by intro v q; simp only [List.mem_cons, List.not_mem_nil, or_false] at q; rcases q with rfl | rfl | rfl | rfl | rfl | rfl | rfl | rfl | rfl | rfl | rfl | rfl | rfl | rfl | rfl | rfl | rfl | rfl | rfl | rfl | rfl | rfl | rfl | rfl | rfl | rfl | rfl; trivial; trivial; (exact okR (by omega)); trivial; trivial; (exact okR (by omega)); trivial; trivial; trivial; trivial; trivial; trivial; trivial; trivial; trivial; trivial; trivial; trivial; trivial; trivial; trivial; trivial; trivial; trivial; trivial; trivial; trivial)
  have fr_10 : ∀ k, k < 76 → h10 k = h k := fun k hk => by rw [← e10]; exact (va_up_ne _ _ (by omega)).trans (fr_9 k hk)
  have c77_10 : h10 77 = .inl (0, 6, .inl (fun _ => 0)) := by rw [← e10]; exact (va_up_ne _ _ (by omega)).trans c77_9
  have c78_10 : h10 78 = .inl (0, 80, .inl (fun _ => 0)) := by rw [← e10]; exact (va_up_ne _ _ (by omega)).trans c78_9
  have c76_10 : h10 76 = .inr (10, [.int (nI 0), .int (nI 0), .ref 77, .int (nI 0), .int (nI 0), .ref 78, .int (nI 0), .int (nI 0), .int 0, .int 0, .int 0, .int 0, .null, .null, .null, .int 0, .null, .null, .null, .null, .null, .int 0, .int 0, .int 0, .null, .int 0, .null]) := by rw [← e10]; exact va_up_self _ _ _
  refine J_aload_n C 0 d_Mod_init_50 rfl rfl ?_
  refine J_iconst C d_Mod_init_51 (v := nI 0) rfl ?_
  refine J_put C f_Mod_36 (by omega) c76_10 (Nat.le_of_ble_eq_true rfl) (fun _ => rfl) (fun _ => rfl) d_Mod_init_52 (kk := ?_)
  obtain ⟨h11, e11⟩ : ∃ x, va_up h10 76 (.inr (10, [.int (nI 0), .int (nI 0), .ref 77, .int (nI 0), .int (nI 0), .ref 78, .int (nI 0), .int (nI 0), .int (nI 0), .int 0, .int 0, .int 0, .null, .null, .null, .int 0, .null, .null, .null, .null, .null, .int 0, .int 0, .int 0, .null, .int 0, .null])) = x := ⟨_, rfl⟩
  refine J_hh (h2 := h11) e11 ?_
  have l11 : LT h11 (79) := by rw [← e11]; exact l10.put _ (by intro v q; simp only [List.mem_cons, List.not_mem_nil, or_false] at q; rcases q with rfl | rfl | rfl | rfl | rfl | rfl | rfl | rfl | rfl | rfl | rfl | rfl | rfl | rfl | rfl | rfl | rfl | rfl | rfl | rfl | rfl | rfl | rfl | rfl | rfl | rfl | rfl; trivial; trivial; (exact okR (by omega)); trivial; trivial; (exact okR (by omega)); trivial; trivial; trivial; trivial; trivial; trivial; trivial; trivial; trivial; trivial; trivial; trivial; trivial; trivial; trivial; trivial; trivial; trivial; trivial; trivial; trivial)
  have fr_11 : ∀ k, k < 76 → h11 k = h k := fun k hk => by rw [← e11]; exact (va_up_ne _ _ (by omega)).trans (fr_10 k hk)
  have c77_11 : h11 77 = .inl (0, 6, .inl (fun _ => 0)) := by rw [← e11]; exact (va_up_ne _ _ (by omega)).trans c77_10
  have c78_11 : h11 78 = .inl (0, 80, .inl (fun _ => 0)) := by rw [← e11]; exact (va_up_ne _ _ (by omega)).trans c78_10
  have c76_11 : h11 76 = .inr (10, [.int (nI 0), .int (nI 0), .ref 77, .int (nI 0), .int (nI 0), .ref 78, .int (nI 0), .int (nI 0), .int (nI 0), .int 0, .int 0, .int 0, .null, .null, .null, .int 0, .null, .null, .null, .null, .null, .int 0, .int 0, .int 0, .null, .int 0, .null]) := by rw [← e11]; exact va_up_self _ _ _
  refine J_aload_n C 0 d_Mod_init_55 rfl rfl ?_
  refine J_iconst C d_Mod_init_56 (v := nI 0) rfl ?_
  refine J_put C f_Mod_39 (by omega) c76_11 (Nat.le_of_ble_eq_true rfl) (fun _ => rfl) (fun _ => rfl) d_Mod_init_57 (kk := ?_)
  obtain ⟨h12, e12⟩ : ∃ x, va_up h11 76 (.inr (10, [.int (nI 0), .int (nI 0), .ref 77, .int (nI 0), .int (nI 0), .ref 78, .int (nI 0), .int (nI 0), .int (nI 0), .int (nI 0), .int 0, .int 0, .null, .null, .null, .int 0, .null, .null, .null, .null, .null, .int 0, .int 0, .int 0, .null, .int 0, .null])) = x := ⟨_, rfl⟩
  refine J_hh (h2 := h12) e12 ?_
  have l12 : LT h12 (79) := by rw [← e12]; exact l11.put _ (by intro v q; simp only [List.mem_cons, List.not_mem_nil, or_false] at q; rcases q with rfl | rfl | rfl | rfl | rfl | rfl | rfl | rfl | rfl | rfl | rfl | rfl | rfl | rfl | rfl | rfl | rfl | rfl | rfl | rfl | rfl | rfl | rfl | rfl | rfl | rfl | rfl; trivial; trivial; (exact okR (by omega)); trivial; trivial; (exact okR (by omega)); trivial; trivial; trivial; trivial; trivial; trivial; trivial; trivial; trivial; trivial; trivial; trivial; trivial; trivial; trivial; trivial; trivial; trivial; trivial; trivial; trivial)
  have fr_12 : ∀ k, k < 76 → h12 k = h k := fun k hk => by rw [← e12]; exact (va_up_ne _ _ (by omega)).trans (fr_11 k hk)
  have c77_12 : h12 77 = .inl (0, 6, .inl (fun _ => 0)) := by rw [← e12]; exact (va_up_ne _ _ (by omega)).trans c77_11
  have c78_12 : h12 78 = .inl (0, 80, .inl (fun _ => 0)) := by rw [← e12]; exact (va_up_ne _ _ (by omega)).trans c78_11
  have c76_12 : h12 76 = .inr (10, [.int (nI 0), .int (nI 0), .ref 77, .int (nI 0), .int (nI 0), .ref 78, .int (nI 0), .int (nI 0), .int (nI 0), .int (nI 0), .int 0, .int 0, .null, .null, .null, .int 0, .null, .null, .null, .null, .null, .int 0, .int 0, .int 0, .null, .int 0, .null]) := by rw [← e12]; exact va_up_self _ _ _
  refine J_aload_n C 0 d_Mod_init_60 rfl rfl ?_
  refine J_iconst C d_Mod_init_61 (v := nI 0) rfl ?_
  refine J_put C f_Mod_42 (by omega) c76_12 (Nat.le_of_ble_eq_true rfl) (fun _ => rfl) (fun _ => rfl) d_Mod_init_62 (kk := ?_)
  obtain ⟨h13, e13⟩ : ∃ x, va_up h12 76 (.inr (10, [.int (nI 0), .int (nI 0), .ref 77, .int (nI 0), .int (nI 0), .ref 78, .int (nI 0), .int (nI 0), .int (nI 0), .int (nI 0), .int (nI 0), .int 0, .null, .null, .null, .int 0, .null, .null, .null, .null, .null, .int 0, .int 0, .int 0, .null, .int 0, .null])) = x := ⟨_, rfl⟩
  refine J_hh (h2 := h13) e13 ?_
  have l13 : LT h13 (79) := by rw [← e13]; exact l12.put _ (by intro v q; simp only [List.mem_cons, List.not_mem_nil, or_false] at q; rcases q with rfl | rfl | rfl | rfl | rfl | rfl | rfl | rfl | rfl | rfl | rfl | rfl | rfl | rfl | rfl | rfl | rfl | rfl | rfl | rfl | rfl | rfl | rfl | rfl | rfl | rfl | rfl; trivial; trivial; (exact okR (by omega)); trivial; trivial; (exact okR (by omega)); trivial; trivial; trivial; trivial; trivial; trivial; trivial; trivial; trivial; trivial; trivial; trivial; trivial; trivial; trivial; trivial; trivial; trivial; trivial; trivial; trivial)
  have fr_13 : ∀ k, k < 76 → h13 k = h k := fun k hk => by rw [← e13]; exact (va_up_ne _ _ (by omega)).trans (fr_12 k hk)
  have c77_13 : h13 77 = .inl (0, 6, .inl (fun _ => 0)) := by rw [← e13]; exact (va_up_ne _ _ (by omega)).trans c77_12
  have c78_13 : h13 78 = .inl (0, 80, .inl (fun _ => 0)) := by rw [← e13]; exact (va_up_ne _ _ (by omega)).trans c78_12
  have c76_13 : h13 76 = .inr (10, [.int (nI 0), .int (nI 0), .ref 77, .int (nI 0), .int (nI 0), .ref 78, .int (nI 0), .int (nI 0), .int (nI 0), .int (nI 0), .int (nI 0), .int 0, .null, .null, .null, .int 0, .null, .null, .null, .null, .null, .int 0, .int 0, .int 0, .null, .int 0, .null]) := by rw [← e13]; exact va_up_self _ _ _
  refine J_aload_n C 0 d_Mod_init_65 rfl rfl ?_
  refine J_iconst C d_Mod_init_66 (v := nI 0) rfl ?_
  refine J_put C f_Mod_45 (by omega) c76_13 (Nat.le_of_ble_eq_true rfl) (fun _ => rfl) (fun _ => rfl) d_Mod_init_67 (kk := ?_)
  obtain ⟨h14, e14⟩ : ∃ x, va_up h13 76 (.inr (10, [.int (nI 0), .int (nI 0), .ref 77, .int (nI 0), .int (nI 0), .ref 78, .int (nI 0), .int (nI 0), .int (nI 0), .int (nI 0), .int (nI 0), .int (nI 0), .null, .null, .null, .int 0, .null, .null, .null, .null, .null, .int 0, .int 0, .int 0, .null, .int 0, .null])) = x := ⟨_, rfl⟩
  refine J_hh (h2 := h14) e14 ?_
  have l14 : LT h14 (79) := by rw [← e14]; exact l13.put _ (by intro v q; simp only [List.mem_cons, List.not_mem_nil, or_false] at q; rcases q with rfl | rfl | rfl | rfl | rfl | rfl | rfl | rfl | rfl | rfl | rfl | rfl | rfl | rfl | rfl | rfl | rfl | rfl | rfl | rfl | rfl | rfl | rfl | rfl | rfl | rfl | rfl; trivial; trivial; (exact okR (by omega)); trivial; trivial; (exact okR (by omega)); trivial; trivial; trivial; trivial; trivial; trivial; trivial; trivial; trivial; trivial; trivial; trivial; trivial; trivial; trivial; trivial; trivial; trivial; trivial; trivial; trivial)
  have fr_14 : ∀ k, k < 76 → h14 k = h k := fun k hk => by rw [← e14]; exact (va_up_ne _ _ (by omega)).trans (fr_13 k hk)
  have c77_14 : h14 77 = .inl (0, 6, .inl (fun _ => 0)) := by rw [← e14]; exact (va_up_ne _ _ (by omega)).trans c77_13
  have c78_14 : h14 78 = .inl (0, 80, .inl (fun _ => 0)) := by rw [← e14]; exact (va_up_ne _ _ (by omega)).trans c78_13
  have c76_14 : h14 76 = .inr (10, [.int (nI 0), .int (nI 0), .ref 77, .int (nI 0), .int (nI 0), .ref 78, .int (nI 0), .int (nI 0), .int (nI 0), .int (nI 0), .int (nI 0), .int (nI 0), .null, .null, .null, .int 0, .null, .null, .null, .null, .null, .int 0, .int 0, .int 0, .null, .int 0, .null]) := by rw [← e14]; exact va_up_self _ _ _
  refine J_aload_n C 0 d_Mod_init_70 rfl rfl ?_
  refine J_iconst C d_Mod_init_71 (v := nI 4) rfl ?_
  refine J_newa C (t := 1) (N := 4) (ty := .boolean) rfl (tb_in 145 (by decide +kernel) (by decide +kernel)) (fun _ => (dA_of C.2.2.2.2.2.1).2.1) (f := .inl (fun _ => 0)) (fun _ => rfl) (fun _ => rfl) rfl (by decide) (by decide) l14 (by omega) (by omega) (by intro i v q; match i, q with | 0, q => obtain rfl := Option.some.inj (Option.some.inj q); exact okR (by omega) | 1, q => exact absurd (show (some none : Option (Option Value)) = some (some v) from q) (by simp) | _ + 2, q => exact absurd (show (none : Option (Option Value)) = some (some v) from q) (by simp)) (by intro v q; simp only [List.mem_cons, List.not_mem_nil, or_false] at q; rcases q with rfl; (exact okR (by omega))) (hcz _ _ _ _ _ (by omega) (by omega)) d_Mod_init_72 (kk := ?_)
  obtain ⟨h15, e15⟩ : ∃ x, va_up h14 79 (.inl (1, 4, .inl (fun _ => 0))) = x := ⟨_, rfl⟩
  refine J_hh (h2 := h15) e15 ?_
  have l15 : LT h15 (79 + 1) := by rw [← e15]; exact l14.add trivial
  have fr_15 : ∀ k, k < 76 → h15 k = h k := fun k hk => by rw [← e15]; exact (va_up_ne _ _ (by omega)).trans (fr_14 k hk)
  have c77_15 : h15 77 = .inl (0, 6, .inl (fun _ => 0)) := by rw [← e15]; exact (va_up_ne _ _ (by omega)).trans c77_14
  have c78_15 : h15 78 = .inl (0, 80, .inl (fun _ => 0)) := by rw [← e15]; exact (va_up_ne _ _ (by omega)).trans c78_14
  have c76_15 : h15 76 = .inr (10, [.int (nI 0), .int (nI 0), .ref 77, .int (nI 0), .int (nI 0), .ref 78, .int (nI 0), .int (nI 0), .int (nI 0), .int (nI 0), .int (nI 0), .int (nI 0), .null, .null, .null, .int 0, .null, .null, .null, .null, .null, .int 0, .int 0, .int 0, .null, .int 0, .null]) := by rw [← e15]; exact (va_up_ne _ _ (by omega)).trans c76_14
  have c79_15 : h15 79 = .inl (1, 4, .inl (fun _ => 0)) := by rw [← e15]; exact va_up_self _ _ _
  refine J_putC C (k := 12) ci_Mod rfl (by decide) rfl rfl rfl (tb_in 1104 (by decide +kernel) (by decide +kernel)) hnm (by omega) c76_15 (Nat.le_of_ble_eq_true rfl) (fun _ => rfl) (fun _ => rfl) d_Mod_init_74 (kk := ?_)
  obtain ⟨h16, e16⟩ : ∃ x, va_up h15 76 (.inr (10, [.int (nI 0), .int (nI 0), .ref 77, .int (nI 0), .int (nI 0), .ref 78, .int (nI 0), .int (nI 0), .int (nI 0), .int (nI 0), .int (nI 0), .int (nI 0), .ref 79, .null, .null, .int 0, .null, .null, .null, .null, .null, .int 0, .int 0, .int 0, .null, .int 0, .null])) = x := ⟨_, rfl⟩
  refine J_hh (h2 := h16) e16 ?_
  have l16 : LT h16 (80) := by rw [← e16]; exact l15.put _ (by intro v q; simp only [List.mem_cons, List.not_mem_nil, or_false] at q; rcases q with rfl | rfl | rfl | rfl | rfl | rfl | rfl | rfl | rfl | rfl | rfl | rfl | rfl | rfl | rfl | rfl | rfl | rfl | rfl | rfl | rfl | rfl | rfl | rfl | rfl | rfl | rfl; trivial; trivial; (exact okR (by omega)); trivial; trivial; (exact okR (by omega)); trivial; trivial; trivial; trivial; trivial; trivial; (exact okR (by omega)); trivial; trivial; trivial; trivial; trivial; trivial; trivial; trivial; trivial; trivial; trivial; trivial; trivial; trivial)
  have fr_16 : ∀ k, k < 76 → h16 k = h k := fun k hk => by rw [← e16]; exact (va_up_ne _ _ (by omega)).trans (fr_15 k hk)
  have c77_16 : h16 77 = .inl (0, 6, .inl (fun _ => 0)) := by rw [← e16]; exact (va_up_ne _ _ (by omega)).trans c77_15
  have c78_16 : h16 78 = .inl (0, 80, .inl (fun _ => 0)) := by rw [← e16]; exact (va_up_ne _ _ (by omega)).trans c78_15
  have c79_16 : h16 79 = .inl (1, 4, .inl (fun _ => 0)) := by rw [← e16]; exact (va_up_ne _ _ (by omega)).trans c79_15
  have c76_16 : h16 76 = .inr (10, [.int (nI 0), .int (nI 0), .ref 77, .int (nI 0), .int (nI 0), .ref 78, .int (nI 0), .int (nI 0), .int (nI 0), .int (nI 0), .int (nI 0), .int (nI 0), .ref 79, .null, .null, .int 0, .null, .null, .null, .null, .null, .int 0, .int 0, .int 0, .null, .int 0, .null]) := by rw [← e16]; exact va_up_self _ _ _
  refine J_aload_n C 0 d_Mod_init_77 rfl rfl ?_
  refine J_iconst C d_Mod_init_78 (v := nI 4) rfl ?_
  refine J_newa C (t := 0) (N := 4) (ty := .int) rfl (tb_in 144 (by decide +kernel) (by decide +kernel)) (fun _ => (dA_of C.2.2.2.2.2.1).1) (f := .inl (fun _ => 0)) (fun _ => rfl) (fun _ => rfl) rfl (by decide) (by decide) l16 (by omega) (by omega) (by intro i v q; match i, q with | 0, q => obtain rfl := Option.some.inj (Option.some.inj q); exact okR (by omega) | 1, q => exact absurd (show (some none : Option (Option Value)) = some (some v) from q) (by simp) | _ + 2, q => exact absurd (show (none : Option (Option Value)) = some (some v) from q) (by simp)) (by intro v q; simp only [List.mem_cons, List.not_mem_nil, or_false] at q; rcases q with rfl; (exact okR (by omega))) (hcz _ _ _ _ _ (by omega) (by omega)) d_Mod_init_79 (kk := ?_)
  obtain ⟨h17, e17⟩ : ∃ x, va_up h16 80 (.inl (0, 4, .inl (fun _ => 0))) = x := ⟨_, rfl⟩
  refine J_hh (h2 := h17) e17 ?_
  have l17 : LT h17 (80 + 1) := by rw [← e17]; exact l16.add trivial
  have fr_17 : ∀ k, k < 76 → h17 k = h k := fun k hk => by rw [← e17]; exact (va_up_ne _ _ (by omega)).trans (fr_16 k hk)
  have c77_17 : h17 77 = .inl (0, 6, .inl (fun _ => 0)) := by rw [← e17]; exact (va_up_ne _ _ (by omega)).trans c77_16
  have c78_17 : h17 78 = .inl (0, 80, .inl (fun _ => 0)) := by rw [← e17]; exact (va_up_ne _ _ (by omega)).trans c78_16
  have c79_17 : h17 79 = .inl (1, 4, .inl (fun _ => 0)) := by rw [← e17]; exact (va_up_ne _ _ (by omega)).trans c79_16
  have c76_17 : h17 76 = .inr (10, [.int (nI 0), .int (nI 0), .ref 77, .int (nI 0), .int (nI 0), .ref 78, .int (nI 0), .int (nI 0), .int (nI 0), .int (nI 0), .int (nI 0), .int (nI 0), .ref 79, .null, .null, .int 0, .null, .null, .null, .null, .null, .int 0, .int 0, .int 0, .null, .int 0, .null]) := by rw [← e17]; exact (va_up_ne _ _ (by omega)).trans c76_16
  have c80_17 : h17 80 = .inl (0, 4, .inl (fun _ => 0)) := by rw [← e17]; exact va_up_self _ _ _
  refine J_putC C (k := 13) ci_Mod rfl (by decide) rfl rfl rfl (tb_in 1105 (by decide +kernel) (by decide +kernel)) hnm (by omega) c76_17 (Nat.le_of_ble_eq_true rfl) (fun _ => rfl) (fun _ => rfl) d_Mod_init_81 (kk := ?_)
  obtain ⟨h18, e18⟩ : ∃ x, va_up h17 76 (.inr (10, [.int (nI 0), .int (nI 0), .ref 77, .int (nI 0), .int (nI 0), .ref 78, .int (nI 0), .int (nI 0), .int (nI 0), .int (nI 0), .int (nI 0), .int (nI 0), .ref 79, .ref 80, .null, .int 0, .null, .null, .null, .null, .null, .int 0, .int 0, .int 0, .null, .int 0, .null])) = x := ⟨_, rfl⟩
  refine J_hh (h2 := h18) e18 ?_
  have l18 : LT h18 (81) := by rw [← e18]; exact l17.put _ (by intro v q; simp only [List.mem_cons, List.not_mem_nil, or_false] at q; rcases q with rfl | rfl | rfl | rfl | rfl | rfl | rfl | rfl | rfl | rfl | rfl | rfl | rfl | rfl | rfl | rfl | rfl | rfl | rfl | rfl | rfl | rfl | rfl | rfl | rfl | rfl | rfl; trivial; trivial; (exact okR (by omega)); trivial; trivial; (exact okR (by omega)); trivial; trivial; trivial; trivial; trivial; trivial; (exact okR (by omega)); (exact okR (by omega)); trivial; trivial; trivial; trivial; trivial; trivial; trivial; trivial; trivial; trivial; trivial; trivial; trivial)
  have fr_18 : ∀ k, k < 76 → h18 k = h k := fun k hk => by rw [← e18]; exact (va_up_ne _ _ (by omega)).trans (fr_17 k hk)
  have c77_18 : h18 77 = .inl (0, 6, .inl (fun _ => 0)) := by rw [← e18]; exact (va_up_ne _ _ (by omega)).trans c77_17
  have c78_18 : h18 78 = .inl (0, 80, .inl (fun _ => 0)) := by rw [← e18]; exact (va_up_ne _ _ (by omega)).trans c78_17
  have c79_18 : h18 79 = .inl (1, 4, .inl (fun _ => 0)) := by rw [← e18]; exact (va_up_ne _ _ (by omega)).trans c79_17
  have c80_18 : h18 80 = .inl (0, 4, .inl (fun _ => 0)) := by rw [← e18]; exact (va_up_ne _ _ (by omega)).trans c80_17
  have c76_18 : h18 76 = .inr (10, [.int (nI 0), .int (nI 0), .ref 77, .int (nI 0), .int (nI 0), .ref 78, .int (nI 0), .int (nI 0), .int (nI 0), .int (nI 0), .int (nI 0), .int (nI 0), .ref 79, .ref 80, .null, .int 0, .null, .null, .null, .null, .null, .int 0, .int 0, .int 0, .null, .int 0, .null]) := by rw [← e18]; exact va_up_self _ _ _
  refine J_aload_n C 0 d_Mod_init_84 rfl rfl ?_
  refine J_sipush C d_Mod_init_85 (v := nI 240) rfl ?_
  refine J_newa C (t := 0) (N := 240) (ty := .int) rfl (tb_in 144 (by decide +kernel) (by decide +kernel)) (fun _ => (dA_of C.2.2.2.2.2.1).1) (f := .inl (fun _ => 0)) (fun _ => rfl) (fun _ => rfl) rfl (by decide) (by decide) l18 (by omega) (by omega) (by intro i v q; match i, q with | 0, q => obtain rfl := Option.some.inj (Option.some.inj q); exact okR (by omega) | 1, q => exact absurd (show (some none : Option (Option Value)) = some (some v) from q) (by simp) | _ + 2, q => exact absurd (show (none : Option (Option Value)) = some (some v) from q) (by simp)) (by intro v q; simp only [List.mem_cons, List.not_mem_nil, or_false] at q; rcases q with rfl; (exact okR (by omega))) (hcz _ _ _ _ _ (by omega) (by omega)) d_Mod_init_88 (kk := ?_)
  obtain ⟨h19, e19⟩ : ∃ x, va_up h18 81 (.inl (0, 240, .inl (fun _ => 0))) = x := ⟨_, rfl⟩
  refine J_hh (h2 := h19) e19 ?_
  have l19 : LT h19 (81 + 1) := by rw [← e19]; exact l18.add trivial
  have fr_19 : ∀ k, k < 76 → h19 k = h k := fun k hk => by rw [← e19]; exact (va_up_ne _ _ (by omega)).trans (fr_18 k hk)
  have c77_19 : h19 77 = .inl (0, 6, .inl (fun _ => 0)) := by rw [← e19]; exact (va_up_ne _ _ (by omega)).trans c77_18
  have c78_19 : h19 78 = .inl (0, 80, .inl (fun _ => 0)) := by rw [← e19]; exact (va_up_ne _ _ (by omega)).trans c78_18
  have c79_19 : h19 79 = .inl (1, 4, .inl (fun _ => 0)) := by rw [← e19]; exact (va_up_ne _ _ (by omega)).trans c79_18
  have c80_19 : h19 80 = .inl (0, 4, .inl (fun _ => 0)) := by rw [← e19]; exact (va_up_ne _ _ (by omega)).trans c80_18
  have c76_19 : h19 76 = .inr (10, [.int (nI 0), .int (nI 0), .ref 77, .int (nI 0), .int (nI 0), .ref 78, .int (nI 0), .int (nI 0), .int (nI 0), .int (nI 0), .int (nI 0), .int (nI 0), .ref 79, .ref 80, .null, .int 0, .null, .null, .null, .null, .null, .int 0, .int 0, .int 0, .null, .int 0, .null]) := by rw [← e19]; exact (va_up_ne _ _ (by omega)).trans c76_18
  have c81_19 : h19 81 = .inl (0, 240, .inl (fun _ => 0)) := by rw [← e19]; exact va_up_self _ _ _
  refine J_putC C (k := 14) ci_Mod rfl (by decide) rfl rfl rfl (tb_in 1106 (by decide +kernel) (by decide +kernel)) hnm (by omega) c76_19 (Nat.le_of_ble_eq_true rfl) (fun _ => rfl) (fun _ => rfl) d_Mod_init_90 (kk := ?_)
  obtain ⟨h20, e20⟩ : ∃ x, va_up h19 76 (.inr (10, [.int (nI 0), .int (nI 0), .ref 77, .int (nI 0), .int (nI 0), .ref 78, .int (nI 0), .int (nI 0), .int (nI 0), .int (nI 0), .int (nI 0), .int (nI 0), .ref 79, .ref 80, .ref 81, .int 0, .null, .null, .null, .null, .null, .int 0, .int 0, .int 0, .null, .int 0, .null])) = x := ⟨_, rfl⟩
  refine J_hh (h2 := h20) e20 ?_
  have l20 : LT h20 (82) := by rw [← e20]; exact l19.put _ (by intro v q; simp only [List.mem_cons, List.not_mem_nil, or_false] at q; rcases q with rfl | rfl | rfl | rfl | rfl | rfl | rfl | rfl | rfl | rfl | rfl | rfl | rfl | rfl | rfl | rfl | rfl | rfl | rfl | rfl | rfl | rfl | rfl | rfl | rfl | rfl | rfl; trivial; trivial; (exact okR (by omega)); trivial; trivial; (exact okR (by omega)); trivial; trivial; trivial; trivial; trivial; trivial; (exact okR (by omega)); (exact okR (by omega)); (exact okR (by omega)); trivial; trivial; trivial; trivial; trivial; trivial; trivial; trivial; trivial; trivial; trivial; trivial)
  have fr_20 : ∀ k, k < 76 → h20 k = h k := fun k hk => by rw [← e20]; exact (va_up_ne _ _ (by omega)).trans (fr_19 k hk)
  have c77_20 : h20 77 = .inl (0, 6, .inl (fun _ => 0)) := by rw [← e20]; exact (va_up_ne _ _ (by omega)).trans c77_19
  have c78_20 : h20 78 = .inl (0, 80, .inl (fun _ => 0)) := by rw [← e20]; exact (va_up_ne _ _ (by omega)).trans c78_19
  have c79_20 : h20 79 = .inl (1, 4, .inl (fun _ => 0)) := by rw [← e20]; exact (va_up_ne _ _ (by omega)).trans c79_19
  have c80_20 : h20 80 = .inl (0, 4, .inl (fun _ => 0)) := by rw [← e20]; exact (va_up_ne _ _ (by omega)).trans c80_19
  have c81_20 : h20 81 = .inl (0, 240, .inl (fun _ => 0)) := by rw [← e20]; exact (va_up_ne _ _ (by omega)).trans c81_19
  have c76_20 : h20 76 = .inr (10, [.int (nI 0), .int (nI 0), .ref 77, .int (nI 0), .int (nI 0), .ref 78, .int (nI 0), .int (nI 0), .int (nI 0), .int (nI 0), .int (nI 0), .int (nI 0), .ref 79, .ref 80, .ref 81, .int 0, .null, .null, .null, .null, .null, .int 0, .int 0, .int 0, .null, .int 0, .null]) := by rw [← e20]; exact va_up_self _ _ _
  refine J_aload_n C 0 d_Mod_init_93 rfl rfl ?_
  refine J_iconst C d_Mod_init_94 (v := nI 0) rfl ?_
  refine J_put C f_Mod_58 (by omega) c76_20 (Nat.le_of_ble_eq_true rfl) (fun _ => rfl) (fun _ => rfl) d_Mod_init_95 (kk := ?_)
  obtain ⟨h21, e21⟩ : ∃ x, va_up h20 76 (.inr (10, [.int (nI 0), .int (nI 0), .ref 77, .int (nI 0), .int (nI 0), .ref 78, .int (nI 0), .int (nI 0), .int (nI 0), .int (nI 0), .int (nI 0), .int (nI 0), .ref 79, .ref 80, .ref 81, .int (nI 0), .null, .null, .null, .null, .null, .int 0, .int 0, .int 0, .null, .int 0, .null])) = x := ⟨_, rfl⟩
  refine J_hh (h2 := h21) e21 ?_
  have l21 : LT h21 (82) := by rw [← e21]; exact l20.put _ (by intro v q; simp only [List.mem_cons, List.not_mem_nil, or_false] at q; rcases q with rfl | rfl | rfl | rfl | rfl | rfl | rfl | rfl | rfl | rfl | rfl | rfl | rfl | rfl | rfl | rfl | rfl | rfl | rfl | rfl | rfl | rfl | rfl | rfl | rfl | rfl | rfl; trivial; trivial; (exact okR (by omega)); trivial; trivial; (exact okR (by omega)); trivial; trivial; trivial; trivial; trivial; trivial; (exact okR (by omega)); (exact okR (by omega)); (exact okR (by omega)); trivial; trivial; trivial; trivial; trivial; trivial; trivial; trivial; trivial; trivial; trivial; trivial)
  have fr_21 : ∀ k, k < 76 → h21 k = h k := fun k hk => by rw [← e21]; exact (va_up_ne _ _ (by omega)).trans (fr_20 k hk)
  have c77_21 : h21 77 = .inl (0, 6, .inl (fun _ => 0)) := by rw [← e21]; exact (va_up_ne _ _ (by omega)).trans c77_20
  have c78_21 : h21 78 = .inl (0, 80, .inl (fun _ => 0)) := by rw [← e21]; exact (va_up_ne _ _ (by omega)).trans c78_20
  have c79_21 : h21 79 = .inl (1, 4, .inl (fun _ => 0)) := by rw [← e21]; exact (va_up_ne _ _ (by omega)).trans c79_20
  have c80_21 : h21 80 = .inl (0, 4, .inl (fun _ => 0)) := by rw [← e21]; exact (va_up_ne _ _ (by omega)).trans c80_20
  have c81_21 : h21 81 = .inl (0, 240, .inl (fun _ => 0)) := by rw [← e21]; exact (va_up_ne _ _ (by omega)).trans c81_20
  have c76_21 : h21 76 = .inr (10, [.int (nI 0), .int (nI 0), .ref 77, .int (nI 0), .int (nI 0), .ref 78, .int (nI 0), .int (nI 0), .int (nI 0), .int (nI 0), .int (nI 0), .int (nI 0), .ref 79, .ref 80, .ref 81, .int (nI 0), .null, .null, .null, .null, .null, .int 0, .int 0, .int 0, .null, .int 0, .null]) := by rw [← e21]; exact va_up_self _ _ _
  refine J_aload_n C 0 d_Mod_init_98 rfl rfl ?_
  refine J_bipush C d_Mod_init_99 (v := nI 24) rfl ?_
  refine J_newa C (t := 0) (N := 24) (ty := .int) rfl (tb_in 144 (by decide +kernel) (by decide +kernel)) (fun _ => (dA_of C.2.2.2.2.2.1).1) (f := .inl (fun _ => 0)) (fun _ => rfl) (fun _ => rfl) rfl (by decide) (by decide) l21 (by omega) (by omega) (by intro i v q; match i, q with | 0, q => obtain rfl := Option.some.inj (Option.some.inj q); exact okR (by omega) | 1, q => exact absurd (show (some none : Option (Option Value)) = some (some v) from q) (by simp) | _ + 2, q => exact absurd (show (none : Option (Option Value)) = some (some v) from q) (by simp)) (by intro v q; simp only [List.mem_cons, List.not_mem_nil, or_false] at q; rcases q with rfl; (exact okR (by omega))) (hcz _ _ _ _ _ (by omega) (by omega)) d_Mod_init_101 (kk := ?_)
  obtain ⟨h22, e22⟩ : ∃ x, va_up h21 82 (.inl (0, 24, .inl (fun _ => 0))) = x := ⟨_, rfl⟩
  refine J_hh (h2 := h22) e22 ?_
  have l22 : LT h22 (82 + 1) := by rw [← e22]; exact l21.add trivial
  have fr_22 : ∀ k, k < 76 → h22 k = h k := fun k hk => by rw [← e22]; exact (va_up_ne _ _ (by omega)).trans (fr_21 k hk)
  have c77_22 : h22 77 = .inl (0, 6, .inl (fun _ => 0)) := by rw [← e22]; exact (va_up_ne _ _ (by omega)).trans c77_21
  have c78_22 : h22 78 = .inl (0, 80, .inl (fun _ => 0)) := by rw [← e22]; exact (va_up_ne _ _ (by omega)).trans c78_21
  have c79_22 : h22 79 = .inl (1, 4, .inl (fun _ => 0)) := by rw [← e22]; exact (va_up_ne _ _ (by omega)).trans c79_21
  have c80_22 : h22 80 = .inl (0, 4, .inl (fun _ => 0)) := by rw [← e22]; exact (va_up_ne _ _ (by omega)).trans c80_21
  have c81_22 : h22 81 = .inl (0, 240, .inl (fun _ => 0)) := by rw [← e22]; exact (va_up_ne _ _ (by omega)).trans c81_21
  have c76_22 : h22 76 = .inr (10, [.int (nI 0), .int (nI 0), .ref 77, .int (nI 0), .int (nI 0), .ref 78, .int (nI 0), .int (nI 0), .int (nI 0), .int (nI 0), .int (nI 0), .int (nI 0), .ref 79, .ref 80, .ref 81, .int (nI 0), .null, .null, .null, .null, .null, .int 0, .int 0, .int 0, .null, .int 0, .null]) := by rw [← e22]; exact (va_up_ne _ _ (by omega)).trans c76_21
  have c82_22 : h22 82 = .inl (0, 24, .inl (fun _ => 0)) := by rw [← e22]; exact va_up_self _ _ _
  refine J_putC C (k := 16) ci_Mod rfl (by decide) rfl rfl rfl (tb_in 1108 (by decide +kernel) (by decide +kernel)) hnm (by omega) c76_22 (Nat.le_of_ble_eq_true rfl) (fun _ => rfl) (fun _ => rfl) d_Mod_init_103 (kk := ?_)
  obtain ⟨h23, e23⟩ : ∃ x, va_up h22 76 (.inr (10, [.int (nI 0), .int (nI 0), .ref 77, .int (nI 0), .int (nI 0), .ref 78, .int (nI 0), .int (nI 0), .int (nI 0), .int (nI 0), .int (nI 0), .int (nI 0), .ref 79, .ref 80, .ref 81, .int (nI 0), .ref 82, .null, .null, .null, .null, .int 0, .int 0, .int 0, .null, .int 0, .null])) = x := ⟨_, rfl⟩
  refine J_hh (h2 := h23) e23 ?_
  have l23 : LT h23 (83) := by rw [← e23]; exact l22.put _ (by intro v q; simp only [List.mem_cons, List.not_mem_nil, or_false] at q; rcases q with rfl | rfl | rfl | rfl | rfl | rfl | rfl | rfl | rfl | rfl | rfl | rfl | rfl | rfl | rfl | rfl | rfl | rfl | rfl | rfl | rfl | rfl | rfl | rfl | rfl | rfl | rfl; trivial; trivial; (exact okR (by omega)); trivial; trivial; (exact okR (by omega)); trivial; trivial; trivial; trivial; trivial; trivial; (exact okR (by omega)); (exact okR (by omega)); (exact okR (by omega)); trivial; (exact okR (by omega)); trivial; trivial; trivial; trivial; trivial; trivial; trivial; trivial; trivial; trivial)
  have fr_23 : ∀ k, k < 76 → h23 k = h k := fun k hk => by rw [← e23]; exact (va_up_ne _ _ (by omega)).trans (fr_22 k hk)
  have c77_23 : h23 77 = .inl (0, 6, .inl (fun _ => 0)) := by rw [← e23]; exact (va_up_ne _ _ (by omega)).trans c77_22
  have c78_23 : h23 78 = .inl (0, 80, .inl (fun _ => 0)) := by rw [← e23]; exact (va_up_ne _ _ (by omega)).trans c78_22
  have c79_23 : h23 79 = .inl (1, 4, .inl (fun _ => 0)) := by rw [← e23]; exact (va_up_ne _ _ (by omega)).trans c79_22
  have c80_23 : h23 80 = .inl (0, 4, .inl (fun _ => 0)) := by rw [← e23]; exact (va_up_ne _ _ (by omega)).trans c80_22
  have c81_23 : h23 81 = .inl (0, 240, .inl (fun _ => 0)) := by rw [← e23]; exact (va_up_ne _ _ (by omega)).trans c81_22
  have c82_23 : h23 82 = .inl (0, 24, .inl (fun _ => 0)) := by rw [← e23]; exact (va_up_ne _ _ (by omega)).trans c82_22
  have c76_23 : h23 76 = .inr (10, [.int (nI 0), .int (nI 0), .ref 77, .int (nI 0), .int (nI 0), .ref 78, .int (nI 0), .int (nI 0), .int (nI 0), .int (nI 0), .int (nI 0), .int (nI 0), .ref 79, .ref 80, .ref 81, .int (nI 0), .ref 82, .null, .null, .null, .null, .int 0, .int 0, .int 0, .null, .int 0, .null]) := by rw [← e23]; exact va_up_self _ _ _
  refine J_aload_n C 0 d_Mod_init_106 rfl rfl ?_
  refine J_bipush C d_Mod_init_107 (v := nI 24) rfl ?_
  refine J_newa C (t := 0) (N := 24) (ty := .int) rfl (tb_in 144 (by decide +kernel) (by decide +kernel)) (fun _ => (dA_of C.2.2.2.2.2.1).1) (f := .inl (fun _ => 0)) (fun _ => rfl) (fun _ => rfl) rfl (by decide) (by decide) l23 (by omega) (by omega) (by intro i v q; match i, q with | 0, q => obtain rfl := Option.some.inj (Option.some.inj q); exact okR (by omega) | 1, q => exact absurd (show (some none : Option (Option Value)) = some (some v) from q) (by simp) | _ + 2, q => exact absurd (show (none : Option (Option Value)) = some (some v) from q) (by simp)) (by intro v q; simp only [List.mem_cons, List.not_mem_nil, or_false] at q; rcases q with rfl; (exact okR (by omega))) (hcz _ _ _ _ _ (by omega) (by omega)) d_Mod_init_109 (kk := ?_)
  obtain ⟨h24, e24⟩ : ∃ x, va_up h23 83 (.inl (0, 24, .inl (fun _ => 0))) = x := ⟨_, rfl⟩
  refine J_hh (h2 := h24) e24 ?_
  have l24 : LT h24 (83 + 1) := by rw [← e24]; exact l23.add trivial
  have fr_24 : ∀ k, k < 76 → h24 k = h k := fun k hk => by rw [← e24]; exact (va_up_ne _ _ (by omega)).trans (fr_23 k hk)
  have c77_24 : h24 77 = .inl (0, 6, .inl (fun _ => 0)) := by rw [← e24]; exact (va_up_ne _ _ (by omega)).trans c77_23
  have c78_24 : h24 78 = .inl (0, 80, .inl (fun _ => 0)) := by rw [← e24]; exact (va_up_ne _ _ (by omega)).trans c78_23
  have c79_24 : h24 79 = .inl (1, 4, .inl (fun _ => 0)) := by rw [← e24]; exact (va_up_ne _ _ (by omega)).trans c79_23
  have c80_24 : h24 80 = .inl (0, 4, .inl (fun _ => 0)) := by rw [← e24]; exact (va_up_ne _ _ (by omega)).trans c80_23
  have c81_24 : h24 81 = .inl (0, 240, .inl (fun _ => 0)) := by rw [← e24]; exact (va_up_ne _ _ (by omega)).trans c81_23
  have c82_24 : h24 82 = .inl (0, 24, .inl (fun _ => 0)) := by rw [← e24]; exact (va_up_ne _ _ (by omega)).trans c82_23
  have c76_24 : h24 76 = .inr (10, [.int (nI 0), .int (nI 0), .ref 77, .int (nI 0), .int (nI 0), .ref 78, .int (nI 0), .int (nI 0), .int (nI 0), .int (nI 0), .int (nI 0), .int (nI 0), .ref 79, .ref 80, .ref 81, .int (nI 0), .ref 82, .null, .null, .null, .null, .int 0, .int 0, .int 0, .null, .int 0, .null]) := by rw [← e24]; exact (va_up_ne _ _ (by omega)).trans c76_23
  have c83_24 : h24 83 = .inl (0, 24, .inl (fun _ => 0)) := by rw [← e24]; exact va_up_self _ _ _
  refine J_putC C (k := 17) ci_Mod rfl (by decide) rfl rfl rfl (tb_in 1109 (by decide +kernel) (by decide +kernel)) hnm (by omega) c76_24 (Nat.le_of_ble_eq_true rfl) (fun _ => rfl) (fun _ => rfl) d_Mod_init_111 (kk := ?_)
  obtain ⟨h25, e25⟩ : ∃ x, va_up h24 76 (.inr (10, [.int (nI 0), .int (nI 0), .ref 77, .int (nI 0), .int (nI 0), .ref 78, .int (nI 0), .int (nI 0), .int (nI 0), .int (nI 0), .int (nI 0), .int (nI 0), .ref 79, .ref 80, .ref 81, .int (nI 0), .ref 82, .ref 83, .null, .null, .null, .int 0, .int 0, .int 0, .null, .int 0, .null])) = x := ⟨_, rfl⟩
  refine J_hh (h2 := h25) e25 ?_
  have l25 : LT h25 (84) := by rw [← e25]; exact l24.put _ (by intro v q; simp only [List.mem_cons, List.not_mem_nil, or_false] at q; rcases q with rfl | rfl | rfl | rfl | rfl | rfl | rfl | rfl | rfl | rfl | rfl | rfl | rfl | rfl | rfl | rfl | rfl | rfl | rfl | rfl | rfl | rfl | rfl | rfl | rfl | rfl | rfl; trivial; trivial; (exact okR (by omega)); trivial; trivial; (exact okR (by omega)); trivial; trivial; trivial; trivial; trivial; trivial; (exact okR (by omega)); (exact okR (by omega)); (exact okR (by omega)); trivial; (exact okR (by omega)); (exact okR (by omega)); trivial; trivial; trivial; trivial; trivial; trivial; trivial; trivial; trivial)
  have fr_25 : ∀ k, k < 76 → h25 k = h k := fun k hk => by rw [← e25]; exact (va_up_ne _ _ (by omega)).trans (fr_24 k hk)
  have c77_25 : h25 77 = .inl (0, 6, .inl (fun _ => 0)) := by rw [← e25]; exact (va_up_ne _ _ (by omega)).trans c77_24
  have c78_25 : h25 78 = .inl (0, 80, .inl (fun _ => 0)) := by rw [← e25]; exact (va_up_ne _ _ (by omega)).trans c78_24
  have c79_25 : h25 79 = .inl (1, 4, .inl (fun _ => 0)) := by rw [← e25]; exact (va_up_ne _ _ (by omega)).trans c79_24
  have c80_25 : h25 80 = .inl (0, 4, .inl (fun _ => 0)) := by rw [← e25]; exact (va_up_ne _ _ (by omega)).trans c80_24
  have c81_25 : h25 81 = .inl (0, 240, .inl (fun _ => 0)) := by rw [← e25]; exact (va_up_ne _ _ (by omega)).trans c81_24
  have c82_25 : h25 82 = .inl (0, 24, .inl (fun _ => 0)) := by rw [← e25]; exact (va_up_ne _ _ (by omega)).trans c82_24
  have c83_25 : h25 83 = .inl (0, 24, .inl (fun _ => 0)) := by rw [← e25]; exact (va_up_ne _ _ (by omega)).trans c83_24
  have c76_25 : h25 76 = .inr (10, [.int (nI 0), .int (nI 0), .ref 77, .int (nI 0), .int (nI 0), .ref 78, .int (nI 0), .int (nI 0), .int (nI 0), .int (nI 0), .int (nI 0), .int (nI 0), .ref 79, .ref 80, .ref 81, .int (nI 0), .ref 82, .ref 83, .null, .null, .null, .int 0, .int 0, .int 0, .null, .int 0, .null]) := by rw [← e25]; exact va_up_self _ _ _
  refine J_aload_n C 0 d_Mod_init_114 rfl rfl ?_
  refine J_sipush C d_Mod_init_115 (v := nI 1440) rfl ?_
  refine J_newa C (t := 0) (N := 1440) (ty := .int) rfl (tb_in 144 (by decide +kernel) (by decide +kernel)) (fun _ => (dA_of C.2.2.2.2.2.1).1) (f := .inl (fun _ => 0)) (fun _ => rfl) (fun _ => rfl) rfl (by decide) (by decide) l25 (by omega) (by omega) (by intro i v q; match i, q with | 0, q => obtain rfl := Option.some.inj (Option.some.inj q); exact okR (by omega) | 1, q => exact absurd (show (some none : Option (Option Value)) = some (some v) from q) (by simp) | _ + 2, q => exact absurd (show (none : Option (Option Value)) = some (some v) from q) (by simp)) (by intro v q; simp only [List.mem_cons, List.not_mem_nil, or_false] at q; rcases q with rfl; (exact okR (by omega))) (hcz _ _ _ _ _ (by omega) (by omega)) d_Mod_init_118 (kk := ?_)
  obtain ⟨h26, e26⟩ : ∃ x, va_up h25 84 (.inl (0, 1440, .inl (fun _ => 0))) = x := ⟨_, rfl⟩
  refine J_hh (h2 := h26) e26 ?_
  have l26 : LT h26 (84 + 1) := by rw [← e26]; exact l25.add trivial
  have fr_26 : ∀ k, k < 76 → h26 k = h k := fun k hk => by rw [← e26]; exact (va_up_ne _ _ (by omega)).trans (fr_25 k hk)
  have c77_26 : h26 77 = .inl (0, 6, .inl (fun _ => 0)) := by rw [← e26]; exact (va_up_ne _ _ (by omega)).trans c77_25
  have c78_26 : h26 78 = .inl (0, 80, .inl (fun _ => 0)) := by rw [← e26]; exact (va_up_ne _ _ (by omega)).trans c78_25
  have c79_26 : h26 79 = .inl (1, 4, .inl (fun _ => 0)) := by rw [← e26]; exact (va_up_ne _ _ (by omega)).trans c79_25
  have c80_26 : h26 80 = .inl (0, 4, .inl (fun _ => 0)) := by rw [← e26]; exact (va_up_ne _ _ (by omega)).trans c80_25
  have c81_26 : h26 81 = .inl (0, 240, .inl (fun _ => 0)) := by rw [← e26]; exact (va_up_ne _ _ (by omega)).trans c81_25
  have c82_26 : h26 82 = .inl (0, 24, .inl (fun _ => 0)) := by rw [← e26]; exact (va_up_ne _ _ (by omega)).trans c82_25
  have c83_26 : h26 83 = .inl (0, 24, .inl (fun _ => 0)) := by rw [← e26]; exact (va_up_ne _ _ (by omega)).trans c83_25
  have c76_26 : h26 76 = .inr (10, [.int (nI 0), .int (nI 0), .ref 77, .int (nI 0), .int (nI 0), .ref 78, .int (nI 0), .int (nI 0), .int (nI 0), .int (nI 0), .int (nI 0), .int (nI 0), .ref 79, .ref 80, .ref 81, .int (nI 0), .ref 82, .ref 83, .null, .null, .null, .int 0, .int 0, .int 0, .null, .int 0, .null]) := by rw [← e26]; exact (va_up_ne _ _ (by omega)).trans c76_25
  have c84_26 : h26 84 = .inl (0, 1440, .inl (fun _ => 0)) := by rw [← e26]; exact va_up_self _ _ _
  refine J_putC C (k := 18) ci_Mod rfl (by decide) rfl rfl rfl (tb_in 1110 (by decide +kernel) (by decide +kernel)) hnm (by omega) c76_26 (Nat.le_of_ble_eq_true rfl) (fun _ => rfl) (fun _ => rfl) d_Mod_init_120 (kk := ?_)
  obtain ⟨h27, e27⟩ : ∃ x, va_up h26 76 (.inr (10, [.int (nI 0), .int (nI 0), .ref 77, .int (nI 0), .int (nI 0), .ref 78, .int (nI 0), .int (nI 0), .int (nI 0), .int (nI 0), .int (nI 0), .int (nI 0), .ref 79, .ref 80, .ref 81, .int (nI 0), .ref 82, .ref 83, .ref 84, .null, .null, .int 0, .int 0, .int 0, .null, .int 0, .null])) = x := ⟨_, rfl⟩
  refine J_hh (h2 := h27) e27 ?_
  have l27 : LT h27 (85) := by rw [← e27]; exact l26.put _ (by intro v q; simp only [List.mem_cons, List.not_mem_nil, or_false] at q; rcases q with rfl | rfl | rfl | rfl | rfl | rfl | rfl | rfl | rfl | rfl | rfl | rfl | rfl | rfl | rfl | rfl | rfl | rfl | rfl | rfl | rfl | rfl | rfl | rfl | rfl | rfl | rfl; trivial; trivial; (exact okR (by omega)); trivial; trivial; (exact okR (by omega)); trivial; trivial; trivial; trivial; trivial; trivial; (exact okR (by omega)); (exact okR (by omega)); (exact okR (by omega)); trivial; (exact okR (by omega)); (exact okR (by omega)); (exact okR (by omega)); trivial; trivial; trivial; trivial; trivial; trivial; trivial; trivial)
  have fr_27 : ∀ k, k < 76 → h27 k = h k := fun k hk => by rw [← e27]; exact (va_up_ne _ _ (by omega)).trans (fr_26 k hk)
  have c77_27 : h27 77 = .inl (0, 6, .inl (fun _ => 0)) := by rw [← e27]; exact (va_up_ne _ _ (by omega)).trans c77_26
  have c78_27 : h27 78 = .inl (0, 80, .inl (fun _ => 0)) := by rw [← e27]; exact (va_up_ne _ _ (by omega)).trans c78_26
  have c79_27 : h27 79 = .inl (1, 4, .inl (fun _ => 0)) := by rw [← e27]; exact (va_up_ne _ _ (by omega)).trans c79_26
  have c80_27 : h27 80 = .inl (0, 4, .inl (fun _ => 0)) := by rw [← e27]; exact (va_up_ne _ _ (by omega)).trans c80_26
  have c81_27 : h27 81 = .inl (0, 240, .inl (fun _ => 0)) := by rw [← e27]; exact (va_up_ne _ _ (by omega)).trans c81_26
  have c82_27 : h27 82 = .inl (0, 24, .inl (fun _ => 0)) := by rw [← e27]; exact (va_up_ne _ _ (by omega)).trans c82_26
  have c83_27 : h27 83 = .inl (0, 24, .inl (fun _ => 0)) := by rw [← e27]; exact (va_up_ne _ _ (by omega)).trans c83_26
  have c84_27 : h27 84 = .inl (0, 1440, .inl (fun _ => 0)) := by rw [← e27]; exact (va_up_ne _ _ (by omega)).trans c84_26
  have c76_27 : h27 76 = .inr (10, [.int (nI 0), .int (nI 0), .ref 77, .int (nI 0), .int (nI 0), .ref 78, .int (nI 0), .int (nI 0), .int (nI 0), .int (nI 0), .int (nI 0), .int (nI 0), .ref 79, .ref 80, .ref 81, .int (nI 0), .ref 82, .ref 83, .ref 84, .null, .null, .int 0, .int 0, .int 0, .null, .int 0, .null]) := by rw [← e27]; exact va_up_self _ _ _
  refine J_aload_n C 0 d_Mod_init_123 rfl rfl ?_
  refine J_bipush C d_Mod_init_124 (v := nI 72) rfl ?_
  refine J_newa C (t := 0) (N := 72) (ty := .int) rfl (tb_in 144 (by decide +kernel) (by decide +kernel)) (fun _ => (dA_of C.2.2.2.2.2.1).1) (f := .inl (fun _ => 0)) (fun _ => rfl) (fun _ => rfl) rfl (by decide) (by decide) l27 (by omega) (by omega) (by intro i v q; match i, q with | 0, q => obtain rfl := Option.some.inj (Option.some.inj q); exact okR (by omega) | 1, q => exact absurd (show (some none : Option (Option Value)) = some (some v) from q) (by simp) | _ + 2, q => exact absurd (show (none : Option (Option Value)) = some (some v) from q) (by simp)) (by intro v q; simp only [List.mem_cons, List.not_mem_nil, or_false] at q; rcases q with rfl; (exact okR (by omega))) (hcz _ _ _ _ _ (by omega) (by omega)) d_Mod_init_126 (kk := ?_)
  obtain ⟨h28, e28⟩ : ∃ x, va_up h27 85 (.inl (0, 72, .inl (fun _ => 0))) = x := ⟨_, rfl⟩
  refine J_hh (h2 := h28) e28 ?_
  have l28 : LT h28 (85 + 1) := by rw [← e28]; exact l27.add trivial
  have fr_28 : ∀ k, k < 76 → h28 k = h k := fun k hk => by rw [← e28]; exact (va_up_ne _ _ (by omega)).trans (fr_27 k hk)
  have c77_28 : h28 77 = .inl (0, 6, .inl (fun _ => 0)) := by rw [← e28]; exact (va_up_ne _ _ (by omega)).trans c77_27
  have c78_28 : h28 78 = .inl (0, 80, .inl (fun _ => 0)) := by rw [← e28]; exact (va_up_ne _ _ (by omega)).trans c78_27
  have c79_28 : h28 79 = .inl (1, 4, .inl (fun _ => 0)) := by rw [← e28]; exact (va_up_ne _ _ (by omega)).trans c79_27
  have c80_28 : h28 80 = .inl (0, 4, .inl (fun _ => 0)) := by rw [← e28]; exact (va_up_ne _ _ (by omega)).trans c80_27
  have c81_28 : h28 81 = .inl (0, 240, .inl (fun _ => 0)) := by rw [← e28]; exact (va_up_ne _ _ (by omega)).trans c81_27
  have c82_28 : h28 82 = .inl (0, 24, .inl (fun _ => 0)) := by rw [← e28]; exact (va_up_ne _ _ (by omega)).trans c82_27
  have c83_28 : h28 83 = .inl (0, 24, .inl (fun _ => 0)) := by rw [← e28]; exact (va_up_ne _ _ (by omega)).trans c83_27
  have c84_28 : h28 84 = .inl (0, 1440, .inl (fun _ => 0)) := by rw [← e28]; exact (va_up_ne _ _ (by omega)).trans c84_27
  have c76_28 : h28 76 = .inr (10, [.int (nI 0), .int (nI 0), .ref 77, .int (nI 0), .int (nI 0), .ref 78, .int (nI 0), .int (nI 0), .int (nI 0), .int (nI 0), .int (nI 0), .int (nI 0), .ref 79, .ref 80, .ref 81, .int (nI 0), .ref 82, .ref 83, .ref 84, .null, .null, .int 0, .int 0, .int 0, .null, .int 0, .null]) := by rw [← e28]; exact (va_up_ne _ _ (by omega)).trans c76_27
  have c85_28 : h28 85 = .inl (0, 72, .inl (fun _ => 0)) := by rw [← e28]; exact va_up_self _ _ _
  refine J_putC C (k := 19) ci_Mod rfl (by decide) rfl rfl rfl (tb_in 1111 (by decide +kernel) (by decide +kernel)) hnm (by omega) c76_28 (Nat.le_of_ble_eq_true rfl) (fun _ => rfl) (fun _ => rfl) d_Mod_init_128 (kk := ?_)
  obtain ⟨h29, e29⟩ : ∃ x, va_up h28 76 (.inr (10, [.int (nI 0), .int (nI 0), .ref 77, .int (nI 0), .int (nI 0), .ref 78, .int (nI 0), .int (nI 0), .int (nI 0), .int (nI 0), .int (nI 0), .int (nI 0), .ref 79, .ref 80, .ref 81, .int (nI 0), .ref 82, .ref 83, .ref 84, .ref 85, .null, .int 0, .int 0, .int 0, .null, .int 0, .null])) = x := ⟨_, rfl⟩
  refine J_hh (h2 := h29) e29 ?_
  have l29 : LT h29 (86) := by rw [← e29]; exact l28.put _ (by intro v q; simp only [List.mem_cons, List.not_mem_nil, or_false] at q; rcases q with rfl | rfl | rfl | rfl | rfl | rfl | rfl | rfl | rfl | rfl | rfl | rfl | rfl | rfl | rfl | rfl | rfl | rfl | rfl | rfl | rfl | rfl | rfl | rfl | rfl | rfl | rfl; trivial; trivial; (exact okR (by omega)); trivial; trivial; (exact okR (by omega)); trivial; trivial; trivial; trivial; trivial; trivial; (exact okR (by omega)); (exact okR (by omega)); (exact okR (by omega)); trivial; (exact okR (by omega)); (exact okR (by omega)); (exact okR (by omega)); (exact okR (by omega)); trivial; trivial; trivial; trivial; trivial; trivial; trivial)
  have fr_29 : ∀ k, k < 76 → h29 k = h k := fun k hk => by rw [← e29]; exact (va_up_ne _ _ (by omega)).trans (fr_28 k hk)
  have c77_29 : h29 77 = .inl (0, 6, .inl (fun _ => 0)) := by rw [← e29]; exact (va_up_ne _ _ (by omega)).trans c77_28
  have c78_29 : h29 78 = .inl (0, 80, .inl (fun _ => 0)) := by rw [← e29]; exact (va_up_ne _ _ (by omega)).trans c78_28
  have c79_29 : h29 79 = .inl (1, 4, .inl (fun _ => 0)) := by rw [← e29]; exact (va_up_ne _ _ (by omega)).trans c79_28
  have c80_29 : h29 80 = .inl (0, 4, .inl (fun _ => 0)) := by rw [← e29]; exact (va_up_ne _ _ (by omega)).trans c80_28
  have c81_29 : h29 81 = .inl (0, 240, .inl (fun _ => 0)) := by rw [← e29]; exact (va_up_ne _ _ (by omega)).trans c81_28
  have c82_29 : h29 82 = .inl (0, 24, .inl (fun _ => 0)) := by rw [← e29]; exact (va_up_ne _ _ (by omega)).trans c82_28
  have c83_29 : h29 83 = .inl (0, 24, .inl (fun _ => 0)) := by rw [← e29]; exact (va_up_ne _ _ (by omega)).trans c83_28
  have c84_29 : h29 84 = .inl (0, 1440, .inl (fun _ => 0)) := by rw [← e29]; exact (va_up_ne _ _ (by omega)).trans c84_28
  have c85_29 : h29 85 = .inl (0, 72, .inl (fun _ => 0)) := by rw [← e29]; exact (va_up_ne _ _ (by omega)).trans c85_28
  have c76_29 : h29 76 = .inr (10, [.int (nI 0), .int (nI 0), .ref 77, .int (nI 0), .int (nI 0), .ref 78, .int (nI 0), .int (nI 0), .int (nI 0), .int (nI 0), .int (nI 0), .int (nI 0), .ref 79, .ref 80, .ref 81, .int (nI 0), .ref 82, .ref 83, .ref 84, .ref 85, .null, .int 0, .int 0, .int 0, .null, .int 0, .null]) := by rw [← e29]; exact va_up_self _ _ _
  refine J_aload_n C 0 d_Mod_init_131 rfl rfl ?_
  refine J_bipush C d_Mod_init_132 (v := nI 24) rfl ?_
  refine J_newa C (t := 0) (N := 24) (ty := .int) rfl (tb_in 144 (by decide +kernel) (by decide +kernel)) (fun _ => (dA_of C.2.2.2.2.2.1).1) (f := .inl (fun _ => 0)) (fun _ => rfl) (fun _ => rfl) rfl (by decide) (by decide) l29 (by omega) (by omega) (by intro i v q; match i, q with | 0, q => obtain rfl := Option.some.inj (Option.some.inj q); exact okR (by omega) | 1, q => exact absurd (show (some none : Option (Option Value)) = some (some v) from q) (by simp) | _ + 2, q => exact absurd (show (none : Option (Option Value)) = some (some v) from q) (by simp)) (by intro v q; simp only [List.mem_cons, List.not_mem_nil, or_false] at q; rcases q with rfl; (exact okR (by omega))) (hcz _ _ _ _ _ (by omega) (by omega)) d_Mod_init_134 (kk := ?_)
  obtain ⟨h30, e30⟩ : ∃ x, va_up h29 86 (.inl (0, 24, .inl (fun _ => 0))) = x := ⟨_, rfl⟩
  refine J_hh (h2 := h30) e30 ?_
  have l30 : LT h30 (86 + 1) := by rw [← e30]; exact l29.add trivial
  have fr_30 : ∀ k, k < 76 → h30 k = h k := fun k hk => by rw [← e30]; exact (va_up_ne _ _ (by omega)).trans (fr_29 k hk)
  have c77_30 : h30 77 = .inl (0, 6, .inl (fun _ => 0)) := by rw [← e30]; exact (va_up_ne _ _ (by omega)).trans c77_29
  have c78_30 : h30 78 = .inl (0, 80, .inl (fun _ => 0)) := by rw [← e30]; exact (va_up_ne _ _ (by omega)).trans c78_29
  have c79_30 : h30 79 = .inl (1, 4, .inl (fun _ => 0)) := by rw [← e30]; exact (va_up_ne _ _ (by omega)).trans c79_29
  have c80_30 : h30 80 = .inl (0, 4, .inl (fun _ => 0)) := by rw [← e30]; exact (va_up_ne _ _ (by omega)).trans c80_29
  have c81_30 : h30 81 = .inl (0, 240, .inl (fun _ => 0)) := by rw [← e30]; exact (va_up_ne _ _ (by omega)).trans c81_29
  have c82_30 : h30 82 = .inl (0, 24, .inl (fun _ => 0)) := by rw [← e30]; exact (va_up_ne _ _ (by omega)).trans c82_29
  have c83_30 : h30 83 = .inl (0, 24, .inl (fun _ => 0)) := by rw [← e30]; exact (va_up_ne _ _ (by omega)).trans c83_29
  have c84_30 : h30 84 = .inl (0, 1440, .inl (fun _ => 0)) := by rw [← e30]; exact (va_up_ne _ _ (by omega)).trans c84_29
  have c85_30 : h30 85 = .inl (0, 72, .inl (fun _ => 0)) := by rw [← e30]; exact (va_up_ne _ _ (by omega)).trans c85_29
  have c76_30 : h30 76 = .inr (10, [.int (nI 0), .int (nI 0), .ref 77, .int (nI 0), .int (nI 0), .ref 78, .int (nI 0), .int (nI 0), .int (nI 0), .int (nI 0), .int (nI 0), .int (nI 0), .ref 79, .ref 80, .ref 81, .int (nI 0), .ref 82, .ref 83, .ref 84, .ref 85, .null, .int 0, .int 0, .int 0, .null, .int 0, .null]) := by rw [← e30]; exact (va_up_ne _ _ (by omega)).trans c76_29
  have c86_30 : h30 86 = .inl (0, 24, .inl (fun _ => 0)) := by rw [← e30]; exact va_up_self _ _ _
  refine J_putC C (k := 20) ci_Mod rfl (by decide) rfl rfl rfl (tb_in 1112 (by decide +kernel) (by decide +kernel)) hnm (by omega) c76_30 (Nat.le_of_ble_eq_true rfl) (fun _ => rfl) (fun _ => rfl) d_Mod_init_136 (kk := ?_)
  obtain ⟨h31, e31⟩ : ∃ x, va_up h30 76 (.inr (10, [.int (nI 0), .int (nI 0), .ref 77, .int (nI 0), .int (nI 0), .ref 78, .int (nI 0), .int (nI 0), .int (nI 0), .int (nI 0), .int (nI 0), .int (nI 0), .ref 79, .ref 80, .ref 81, .int (nI 0), .ref 82, .ref 83, .ref 84, .ref 85, .ref 86, .int 0, .int 0, .int 0, .null, .int 0, .null])) = x := ⟨_, rfl⟩
  refine J_hh (h2 := h31) e31 ?_
  have l31 : LT h31 (87) := by rw [← e31]; exact l30.put _ (by intro v q; simp only [List.mem_cons, List.not_mem_nil, or_false] at q; rcases q with rfl | rfl | rfl | rfl | rfl | rfl | rfl | rfl | rfl | rfl | rfl | rfl | rfl | rfl | rfl | rfl | rfl | rfl | rfl | rfl | rfl | rfl | rfl | rfl | rfl | rfl | rfl; trivial; trivial; (exact okR (by omega)); trivial; trivial; (exact okR (by omega)); trivial; trivial; trivial; trivial; trivial; trivial; (exact okR (by omega)); (exact okR (by omega)); (exact okR (by omega)); trivial; (exact okR (by omega)); (exact okR (by omega)); (exact okR (by omega)); (exact okR (by omega)); (exact okR (by omega)); trivial; trivial; trivial; trivial; trivial; trivial)
  have fr_31 : ∀ k, k < 76 → h31 k = h k := fun k hk => by rw [← e31]; exact (va_up_ne _ _ (by omega)).trans (fr_30 k hk)
  have c77_31 : h31 77 = .inl (0, 6, .inl (fun _ => 0)) := by rw [← e31]; exact (va_up_ne _ _ (by omega)).trans c77_30
  have c78_31 : h31 78 = .inl (0, 80, .inl (fun _ => 0)) := by rw [← e31]; exact (va_up_ne _ _ (by omega)).trans c78_30
  have c79_31 : h31 79 = .inl (1, 4, .inl (fun _ => 0)) := by rw [← e31]; exact (va_up_ne _ _ (by omega)).trans c79_30
  have c80_31 : h31 80 = .inl (0, 4, .inl (fun _ => 0)) := by rw [← e31]; exact (va_up_ne _ _ (by omega)).trans c80_30
  have c81_31 : h31 81 = .inl (0, 240, .inl (fun _ => 0)) := by rw [← e31]; exact (va_up_ne _ _ (by omega)).trans c81_30
  have c82_31 : h31 82 = .inl (0, 24, .inl (fun _ => 0)) := by rw [← e31]; exact (va_up_ne _ _ (by omega)).trans c82_30
  have c83_31 : h31 83 = .inl (0, 24, .inl (fun _ => 0)) := by rw [← e31]; exact (va_up_ne _ _ (by omega)).trans c83_30
  have c84_31 : h31 84 = .inl (0, 1440, .inl (fun _ => 0)) := by rw [← e31]; exact (va_up_ne _ _ (by omega)).trans c84_30
  have c85_31 : h31 85 = .inl (0, 72, .inl (fun _ => 0)) := by rw [← e31]; exact (va_up_ne _ _ (by omega)).trans c85_30
  have c86_31 : h31 86 = .inl (0, 24, .inl (fun _ => 0)) := by rw [← e31]; exact (va_up_ne _ _ (by omega)).trans c86_30
  have c76_31 : h31 76 = .inr (10, [.int (nI 0), .int (nI 0), .ref 77, .int (nI 0), .int (nI 0), .ref 78, .int (nI 0), .int (nI 0), .int (nI 0), .int (nI 0), .int (nI 0), .int (nI 0), .ref 79, .ref 80, .ref 81, .int (nI 0), .ref 82, .ref 83, .ref 84, .ref 85, .ref 86, .int 0, .int 0, .int 0, .null, .int 0, .null]) := by rw [← e31]; exact va_up_self _ _ _
  refine J_aload_n C 0 d_Mod_init_139 rfl rfl ?_
  refine J_iconst C d_Mod_init_140 (v := nI 0) rfl ?_
  refine J_put C f_Mod_76 (by omega) c76_31 (Nat.le_of_ble_eq_true rfl) (fun _ => rfl) (fun _ => rfl) d_Mod_init_141 (kk := ?_)
  obtain ⟨h32, e32⟩ : ∃ x, va_up h31 76 (.inr (10, [.int (nI 0), .int (nI 0), .ref 77, .int (nI 0), .int (nI 0), .ref 78, .int (nI 0), .int (nI 0), .int (nI 0), .int (nI 0), .int (nI 0), .int (nI 0), .ref 79, .ref 80, .ref 81, .int (nI 0), .ref 82, .ref 83, .ref 84, .ref 85, .ref 86, .int (nI 0), .int 0, .int 0, .null, .int 0, .null])) = x := ⟨_, rfl⟩
  refine J_hh (h2 := h32) e32 ?_
  have l32 : LT h32 (87) := by rw [← e32]; exact l31.put _ (by intro v q; simp only [List.mem_cons, List.not_mem_nil, or_false] at q; rcases q with rfl | rfl | rfl | rfl | rfl | rfl | rfl | rfl | rfl | rfl | rfl | rfl | rfl | rfl | rfl | rfl | rfl | rfl | rfl | rfl | rfl | rfl | rfl | rfl | rfl | rfl | rfl; trivial; trivial; (exact okR (by omega)); trivial; trivial; (exact okR (by omega)); trivial; trivial; trivial; trivial; trivial; trivial; (exact okR (by omega)); (exact okR (by omega)); (exact okR (by omega)); trivial; (exact okR (by omega)); (exact okR (by omega)); (exact okR (by omega)); (exact okR (by omega)); (exact okR (by omega)); trivial; trivial; trivial; trivial; trivial; trivial)
  have fr_32 : ∀ k, k < 76 → h32 k = h k := fun k hk => by rw [← e32]; exact (va_up_ne _ _ (by omega)).trans (fr_31 k hk)
  have c77_32 : h32 77 = .inl (0, 6, .inl (fun _ => 0)) := by rw [← e32]; exact (va_up_ne _ _ (by omega)).trans c77_31
  have c78_32 : h32 78 = .inl (0, 80, .inl (fun _ => 0)) := by rw [← e32]; exact (va_up_ne _ _ (by omega)).trans c78_31
  have c79_32 : h32 79 = .inl (1, 4, .inl (fun _ => 0)) := by rw [← e32]; exact (va_up_ne _ _ (by omega)).trans c79_31
  have c80_32 : h32 80 = .inl (0, 4, .inl (fun _ => 0)) := by rw [← e32]; exact (va_up_ne _ _ (by omega)).trans c80_31
  have c81_32 : h32 81 = .inl (0, 240, .inl (fun _ => 0)) := by rw [← e32]; exact (va_up_ne _ _ (by omega)).trans c81_31
  have c82_32 : h32 82 = .inl (0, 24, .inl (fun _ => 0)) := by rw [← e32]; exact (va_up_ne _ _ (by omega)).trans c82_31
  have c83_32 : h32 83 = .inl (0, 24, .inl (fun _ => 0)) := by rw [← e32]; exact (va_up_ne _ _ (by omega)).trans c83_31
  have c84_32 : h32 84 = .inl (0, 1440, .inl (fun _ => 0)) := by rw [← e32]; exact (va_up_ne _ _ (by omega)).trans c84_31
  have c85_32 : h32 85 = .inl (0, 72, .inl (fun _ => 0)) := by rw [← e32]; exact (va_up_ne _ _ (by omega)).trans c85_31
  have c86_32 : h32 86 = .inl (0, 24, .inl (fun _ => 0)) := by rw [← e32]; exact (va_up_ne _ _ (by omega)).trans c86_31
  have c76_32 : h32 76 = .inr (10, [.int (nI 0), .int (nI 0), .ref 77, .int (nI 0), .int (nI 0), .ref 78, .int (nI 0), .int (nI 0), .int (nI 0), .int (nI 0), .int (nI 0), .int (nI 0), .ref 79, .ref 80, .ref 81, .int (nI 0), .ref 82, .ref 83, .ref 84, .ref 85, .ref 86, .int (nI 0), .int 0, .int 0, .null, .int 0, .null]) := by rw [← e32]; exact va_up_self _ _ _
  refine J_aload_n C 0 d_Mod_init_144 rfl rfl ?_
  refine J_iconst C d_Mod_init_145 (v := nI 0) rfl ?_
  refine J_put C f_Mod_79 (by omega) c76_32 (Nat.le_of_ble_eq_true rfl) (fun _ => rfl) (fun _ => rfl) d_Mod_init_146 (kk := ?_)
  obtain ⟨h33, e33⟩ : ∃ x, va_up h32 76 (.inr (10, [.int (nI 0), .int (nI 0), .ref 77, .int (nI 0), .int (nI 0), .ref 78, .int (nI 0), .int (nI 0), .int (nI 0), .int (nI 0), .int (nI 0), .int (nI 0), .ref 79, .ref 80, .ref 81, .int (nI 0), .ref 82, .ref 83, .ref 84, .ref 85, .ref 86, .int (nI 0), .int (nI 0), .int 0, .null, .int 0, .null])) = x := ⟨_, rfl⟩
  refine J_hh (h2 := h33) e33 ?_
  have l33 : LT h33 (87) := by rw [← e33]; exact l32.put _ (by intro v q; simp only [List.mem_cons, List.not_mem_nil, or_false] at q; rcases q with rfl | rfl | rfl | rfl | rfl | rfl | rfl | rfl | rfl | rfl | rfl | rfl | rfl | rfl | rfl | rfl | rfl | rfl | rfl | rfl | rfl | rfl | rfl | rfl | rfl | rfl | rfl; trivial; trivial; (exact okR (by omega)); trivial; trivial; (exact okR (by omega)); trivial; trivial; trivial; trivial; trivial; trivial; (exact okR (by omega)); (exact okR (by omega)); (exact okR (by omega)); trivial; (exact okR (by omega)); (exact okR (by omega)); (exact okR (by omega)); (exact okR (by omega)); (exact okR (by omega)); trivial; trivial; trivial; trivial; trivial; trivial)
  have fr_33 : ∀ k, k < 76 → h33 k = h k := fun k hk => by rw [← e33]; exact (va_up_ne _ _ (by omega)).trans (fr_32 k hk)
  have c77_33 : h33 77 = .inl (0, 6, .inl (fun _ => 0)) := by rw [← e33]; exact (va_up_ne _ _ (by omega)).trans c77_32
  have c78_33 : h33 78 = .inl (0, 80, .inl (fun _ => 0)) := by rw [← e33]; exact (va_up_ne _ _ (by omega)).trans c78_32
  have c79_33 : h33 79 = .inl (1, 4, .inl (fun _ => 0)) := by rw [← e33]; exact (va_up_ne _ _ (by omega)).trans c79_32
  have c80_33 : h33 80 = .inl (0, 4, .inl (fun _ => 0)) := by rw [← e33]; exact (va_up_ne _ _ (by omega)).trans c80_32
  have c81_33 : h33 81 = .inl (0, 240, .inl (fun _ => 0)) := by rw [← e33]; exact (va_up_ne _ _ (by omega)).trans c81_32
  have c82_33 : h33 82 = .inl (0, 24, .inl (fun _ => 0)) := by rw [← e33]; exact (va_up_ne _ _ (by omega)).trans c82_32
  have c83_33 : h33 83 = .inl (0, 24, .inl (fun _ => 0)) := by rw [← e33]; exact (va_up_ne _ _ (by omega)).trans c83_32
  have c84_33 : h33 84 = .inl (0, 1440, .inl (fun _ => 0)) := by rw [← e33]; exact (va_up_ne _ _ (by omega)).trans c84_32
  have c85_33 : h33 85 = .inl (0, 72, .inl (fun _ => 0)) := by rw [← e33]; exact (va_up_ne _ _ (by omega)).trans c85_32
  have c86_33 : h33 86 = .inl (0, 24, .inl (fun _ => 0)) := by rw [← e33]; exact (va_up_ne _ _ (by omega)).trans c86_32
  have c76_33 : h33 76 = .inr (10, [.int (nI 0), .int (nI 0), .ref 77, .int (nI 0), .int (nI 0), .ref 78, .int (nI 0), .int (nI 0), .int (nI 0), .int (nI 0), .int (nI 0), .int (nI 0), .ref 79, .ref 80, .ref 81, .int (nI 0), .ref 82, .ref 83, .ref 84, .ref 85, .ref 86, .int (nI 0), .int (nI 0), .int 0, .null, .int 0, .null]) := by rw [← e33]; exact va_up_self _ _ _
  refine J_aload_n C 0 d_Mod_init_149 rfl rfl ?_
  refine J_iconst C d_Mod_init_150 (v := nI 0) rfl ?_
  refine J_put C f_Mod_82 (by omega) c76_33 (Nat.le_of_ble_eq_true rfl) (fun _ => rfl) (fun _ => rfl) d_Mod_init_151 (kk := ?_)
  obtain ⟨h34, e34⟩ : ∃ x, va_up h33 76 (.inr (10, [.int (nI 0), .int (nI 0), .ref 77, .int (nI 0), .int (nI 0), .ref 78, .int (nI 0), .int (nI 0), .int (nI 0), .int (nI 0), .int (nI 0), .int (nI 0), .ref 79, .ref 80, .ref 81, .int (nI 0), .ref 82, .ref 83, .ref 84, .ref 85, .ref 86, .int (nI 0), .int (nI 0), .int (nI 0), .null, .int 0, .null])) = x := ⟨_, rfl⟩
  refine J_hh (h2 := h34) e34 ?_
  have l34 : LT h34 (87) := by rw [← e34]; exact l33.put _ (by intro v q; simp only [List.mem_cons, List.not_mem_nil, or_false] at q; rcases q with rfl | rfl | rfl | rfl | rfl | rfl | rfl | rfl | rfl | rfl | rfl | rfl | rfl | rfl | rfl | rfl | rfl | rfl | rfl | rfl | rfl | rfl | rfl | rfl | rfl | rfl | rfl; trivial; trivial; (exact okR (by omega)); trivial; trivial; (exact okR (by omega)); trivial; trivial; trivial; trivial; trivial; trivial; (exact okR (by omega)); (exact okR (by omega)); (exact okR (by omega)); trivial; (exact okR (by omega)); (exact okR (by omega)); (exact okR (by omega)); (exact okR (by omega)); (exact okR (by omega)); trivial; trivial; trivial; trivial; trivial; trivial)
  have fr_34 : ∀ k, k < 76 → h34 k = h k := fun k hk => by rw [← e34]; exact (va_up_ne _ _ (by omega)).trans (fr_33 k hk)
  have c77_34 : h34 77 = .inl (0, 6, .inl (fun _ => 0)) := by rw [← e34]; exact (va_up_ne _ _ (by omega)).trans c77_33
  have c78_34 : h34 78 = .inl (0, 80, .inl (fun _ => 0)) := by rw [← e34]; exact (va_up_ne _ _ (by omega)).trans c78_33
  have c79_34 : h34 79 = .inl (1, 4, .inl (fun _ => 0)) := by rw [← e34]; exact (va_up_ne _ _ (by omega)).trans c79_33
  have c80_34 : h34 80 = .inl (0, 4, .inl (fun _ => 0)) := by rw [← e34]; exact (va_up_ne _ _ (by omega)).trans c80_33
  have c81_34 : h34 81 = .inl (0, 240, .inl (fun _ => 0)) := by rw [← e34]; exact (va_up_ne _ _ (by omega)).trans c81_33
  have c82_34 : h34 82 = .inl (0, 24, .inl (fun _ => 0)) := by rw [← e34]; exact (va_up_ne _ _ (by omega)).trans c82_33
  have c83_34 : h34 83 = .inl (0, 24, .inl (fun _ => 0)) := by rw [← e34]; exact (va_up_ne _ _ (by omega)).trans c83_33
  have c84_34 : h34 84 = .inl (0, 1440, .inl (fun _ => 0)) := by rw [← e34]; exact (va_up_ne _ _ (by omega)).trans c84_33
  have c85_34 : h34 85 = .inl (0, 72, .inl (fun _ => 0)) := by rw [← e34]; exact (va_up_ne _ _ (by omega)).trans c85_33
  have c86_34 : h34 86 = .inl (0, 24, .inl (fun _ => 0)) := by rw [← e34]; exact (va_up_ne _ _ (by omega)).trans c86_33
  have c76_34 : h34 76 = .inr (10, [.int (nI 0), .int (nI 0), .ref 77, .int (nI 0), .int (nI 0), .ref 78, .int (nI 0), .int (nI 0), .int (nI 0), .int (nI 0), .int (nI 0), .int (nI 0), .ref 79, .ref 80, .ref 81, .int (nI 0), .ref 82, .ref 83, .ref 84, .ref 85, .ref 86, .int (nI 0), .int (nI 0), .int (nI 0), .null, .int 0, .null]) := by rw [← e34]; exact va_up_self _ _ _
  refine J_aload_n C 0 d_Mod_init_154 rfl rfl ?_
  refine J_bipush C d_Mod_init_155 (v := nI 32) rfl ?_
  refine J_newa C (t := 0) (N := 32) (ty := .int) rfl (tb_in 144 (by decide +kernel) (by decide +kernel)) (fun _ => (dA_of C.2.2.2.2.2.1).1) (f := .inl (fun _ => 0)) (fun _ => rfl) (fun _ => rfl) rfl (by decide) (by decide) l34 (by omega) (by omega) (by intro i v q; match i, q with | 0, q => obtain rfl := Option.some.inj (Option.some.inj q); exact okR (by omega) | 1, q => exact absurd (show (some none : Option (Option Value)) = some (some v) from q) (by simp) | _ + 2, q => exact absurd (show (none : Option (Option Value)) = some (some v) from q) (by simp)) (by intro v q; simp only [List.mem_cons, List.not_mem_nil, or_false] at q; rcases q with rfl; (exact okR (by omega))) (hcz _ _ _ _ _ (by omega) (by omega)) d_Mod_init_157 (kk := ?_)
  obtain ⟨h35, e35⟩ : ∃ x, va_up h34 87 (.inl (0, 32, .inl (fun _ => 0))) = x := ⟨_, rfl⟩
  refine J_hh (h2 := h35) e35 ?_
  have l35 : LT h35 (87 + 1) := by rw [← e35]; exact l34.add trivial
  have fr_35 : ∀ k, k < 76 → h35 k = h k := fun k hk => by rw [← e35]; exact (va_up_ne _ _ (by omega)).trans (fr_34 k hk)
  have c77_35 : h35 77 = .inl (0, 6, .inl (fun _ => 0)) := by rw [← e35]; exact (va_up_ne _ _ (by omega)).trans c77_34
  have c78_35 : h35 78 = .inl (0, 80, .inl (fun _ => 0)) := by rw [← e35]; exact (va_up_ne _ _ (by omega)).trans c78_34
  have c79_35 : h35 79 = .inl (1, 4, .inl (fun _ => 0)) := by rw [← e35]; exact (va_up_ne _ _ (by omega)).trans c79_34
  have c80_35 : h35 80 = .inl (0, 4, .inl (fun _ => 0)) := by rw [← e35]; exact (va_up_ne _ _ (by omega)).trans c80_34
  have c81_35 : h35 81 = .inl (0, 240, .inl (fun _ => 0)) := by rw [← e35]; exact (va_up_ne _ _ (by omega)).trans c81_34
  have c82_35 : h35 82 = .inl (0, 24, .inl (fun _ => 0)) := by rw [← e35]; exact (va_up_ne _ _ (by omega)).trans c82_34
  have c83_35 : h35 83 = .inl (0, 24, .inl (fun _ => 0)) := by rw [← e35]; exact (va_up_ne _ _ (by omega)).trans c83_34
  have c84_35 : h35 84 = .inl (0, 1440, .inl (fun _ => 0)) := by rw [← e35]; exact (va_up_ne _ _ (by omega)).trans c84_34
  have c85_35 : h35 85 = .inl (0, 72, .inl (fun _ => 0)) := by rw [← e35]; exact (va_up_ne _ _ (by omega)).trans c85_34
  have c86_35 : h35 86 = .inl (0, 24, .inl (fun _ => 0)) := by rw [← e35]; exact (va_up_ne _ _ (by omega)).trans c86_34
  have c76_35 : h35 76 = .inr (10, [.int (nI 0), .int (nI 0), .ref 77, .int (nI 0), .int (nI 0), .ref 78, .int (nI 0), .int (nI 0), .int (nI 0), .int (nI 0), .int (nI 0), .int (nI 0), .ref 79, .ref 80, .ref 81, .int (nI 0), .ref 82, .ref 83, .ref 84, .ref 85, .ref 86, .int (nI 0), .int (nI 0), .int (nI 0), .null, .int 0, .null]) := by rw [← e35]; exact (va_up_ne _ _ (by omega)).trans c76_34
  have c87_35 : h35 87 = .inl (0, 32, .inl (fun _ => 0)) := by rw [← e35]; exact va_up_self _ _ _
  refine J_putC C (k := 24) ci_Mod rfl (by decide) rfl rfl rfl (tb_in 1116 (by decide +kernel) (by decide +kernel)) hnm (by omega) c76_35 (Nat.le_of_ble_eq_true rfl) (fun _ => rfl) (fun _ => rfl) d_Mod_init_159 (kk := ?_)
  obtain ⟨h36, e36⟩ : ∃ x, va_up h35 76 (.inr (10, [.int (nI 0), .int (nI 0), .ref 77, .int (nI 0), .int (nI 0), .ref 78, .int (nI 0), .int (nI 0), .int (nI 0), .int (nI 0), .int (nI 0), .int (nI 0), .ref 79, .ref 80, .ref 81, .int (nI 0), .ref 82, .ref 83, .ref 84, .ref 85, .ref 86, .int (nI 0), .int (nI 0), .int (nI 0), .ref 87, .int 0, .null])) = x := ⟨_, rfl⟩
  refine J_hh (h2 := h36) e36 ?_
  have l36 : LT h36 (88) := by rw [← e36]; exact l35.put _ (by intro v q; simp only [List.mem_cons, List.not_mem_nil, or_false] at q; rcases q with rfl | rfl | rfl | rfl | rfl | rfl | rfl | rfl | rfl | rfl | rfl | rfl | rfl | rfl | rfl | rfl | rfl | rfl | rfl | rfl | rfl | rfl | rfl | rfl | rfl | rfl | rfl; trivial; trivial; (exact okR (by omega)); trivial; trivial; (exact okR (by omega)); trivial; trivial; trivial; trivial; trivial; trivial; (exact okR (by omega)); (exact okR (by omega)); (exact okR (by omega)); trivial; (exact okR (by omega)); (exact okR (by omega)); (exact okR (by omega)); (exact okR (by omega)); (exact okR (by omega)); trivial; trivial; trivial; (exact okR (by omega)); trivial; trivial)
  have fr_36 : ∀ k, k < 76 → h36 k = h k := fun k hk => by rw [← e36]; exact (va_up_ne _ _ (by omega)).trans (fr_35 k hk)
  have c77_36 : h36 77 = .inl (0, 6, .inl (fun _ => 0)) := by rw [← e36]; exact (va_up_ne _ _ (by omega)).trans c77_35
  have c78_36 : h36 78 = .inl (0, 80, .inl (fun _ => 0)) := by rw [← e36]; exact (va_up_ne _ _ (by omega)).trans c78_35
  have c79_36 : h36 79 = .inl (1, 4, .inl (fun _ => 0)) := by rw [← e36]; exact (va_up_ne _ _ (by omega)).trans c79_35
  have c80_36 : h36 80 = .inl (0, 4, .inl (fun _ => 0)) := by rw [← e36]; exact (va_up_ne _ _ (by omega)).trans c80_35
  have c81_36 : h36 81 = .inl (0, 240, .inl (fun _ => 0)) := by rw [← e36]; exact (va_up_ne _ _ (by omega)).trans c81_35
  have c82_36 : h36 82 = .inl (0, 24, .inl (fun _ => 0)) := by rw [← e36]; exact (va_up_ne _ _ (by omega)).trans c82_35
  have c83_36 : h36 83 = .inl (0, 24, .inl (fun _ => 0)) := by rw [← e36]; exact (va_up_ne _ _ (by omega)).trans c83_35
  have c84_36 : h36 84 = .inl (0, 1440, .inl (fun _ => 0)) := by rw [← e36]; exact (va_up_ne _ _ (by omega)).trans c84_35
  have c85_36 : h36 85 = .inl (0, 72, .inl (fun _ => 0)) := by rw [← e36]; exact (va_up_ne _ _ (by omega)).trans c85_35
  have c86_36 : h36 86 = .inl (0, 24, .inl (fun _ => 0)) := by rw [← e36]; exact (va_up_ne _ _ (by omega)).trans c86_35
  have c87_36 : h36 87 = .inl (0, 32, .inl (fun _ => 0)) := by rw [← e36]; exact (va_up_ne _ _ (by omega)).trans c87_35
  have c76_36 : h36 76 = .inr (10, [.int (nI 0), .int (nI 0), .ref 77, .int (nI 0), .int (nI 0), .ref 78, .int (nI 0), .int (nI 0), .int (nI 0), .int (nI 0), .int (nI 0), .int (nI 0), .ref 79, .ref 80, .ref 81, .int (nI 0), .ref 82, .ref 83, .ref 84, .ref 85, .ref 86, .int (nI 0), .int (nI 0), .int (nI 0), .ref 87, .int 0, .null]) := by rw [← e36]; exact va_up_self _ _ _
  refine J_aload_n C 0 d_Mod_init_162 rfl rfl ?_
  refine J_iconst C d_Mod_init_163 (v := nI 0) rfl ?_
  refine J_put C f_Mod_88 (by omega) c76_36 (Nat.le_of_ble_eq_true rfl) (fun _ => rfl) (fun _ => rfl) d_Mod_init_164 (kk := ?_)
  obtain ⟨h37, e37⟩ : ∃ x, va_up h36 76 (.inr (10, [.int (nI 0), .int (nI 0), .ref 77, .int (nI 0), .int (nI 0), .ref 78, .int (nI 0), .int (nI 0), .int (nI 0), .int (nI 0), .int (nI 0), .int (nI 0), .ref 79, .ref 80, .ref 81, .int (nI 0), .ref 82, .ref 83, .ref 84, .ref 85, .ref 86, .int (nI 0), .int (nI 0), .int (nI 0), .ref 87, .int (nI 0), .null])) = x := ⟨_, rfl⟩
  refine J_hh (h2 := h37) e37 ?_
  have l37 : LT h37 (88) := by rw [← e37]; exact l36.put _ (by intro v q; simp only [List.mem_cons, List.not_mem_nil, or_false] at q; rcases q with rfl | rfl | rfl | rfl | rfl | rfl | rfl | rfl | rfl | rfl | rfl | rfl | rfl | rfl | rfl | rfl | rfl | rfl | rfl | rfl | rfl | rfl | rfl | rfl | rfl | rfl | rfl; trivial; trivial; (exact okR (by omega)); trivial; trivial; (exact okR (by omega)); trivial; trivial; trivial; trivial; trivial; trivial; (exact okR (by omega)); (exact okR (by omega)); (exact okR (by omega)); trivial; (exact okR (by omega)); (exact okR (by omega)); (exact okR (by omega)); (exact okR (by omega)); (exact okR (by omega)); trivial; trivial; trivial; (exact okR (by omega)); trivial; trivial)
  have fr_37 : ∀ k, k < 76 → h37 k = h k := fun k hk => by rw [← e37]; exact (va_up_ne _ _ (by omega)).trans (fr_36 k hk)
  have c77_37 : h37 77 = .inl (0, 6, .inl (fun _ => 0)) := by rw [← e37]; exact (va_up_ne _ _ (by omega)).trans c77_36
  have c78_37 : h37 78 = .inl (0, 80, .inl (fun _ => 0)) := by rw [← e37]; exact (va_up_ne _ _ (by omega)).trans c78_36
  have c79_37 : h37 79 = .inl (1, 4, .inl (fun _ => 0)) := by rw [← e37]; exact (va_up_ne _ _ (by omega)).trans c79_36
  have c80_37 : h37 80 = .inl (0, 4, .inl (fun _ => 0)) := by rw [← e37]; exact (va_up_ne _ _ (by omega)).trans c80_36
  have c81_37 : h37 81 = .inl (0, 240, .inl (fun _ => 0)) := by rw [← e37]; exact (va_up_ne _ _ (by omega)).trans c81_36
  have c82_37 : h37 82 = .inl (0, 24, .inl (fun _ => 0)) := by rw [← e37]; exact (va_up_ne _ _ (by omega)).trans c82_36
  have c83_37 : h37 83 = .inl (0, 24, .inl (fun _ => 0)) := by rw [← e37]; exact (va_up_ne _ _ (by omega)).trans c83_36
  have c84_37 : h37 84 = .inl (0, 1440, .inl (fun _ => 0)) := by rw [← e37]; exact (va_up_ne _ _ (by omega)).trans c84_36
  have c85_37 : h37 85 = .inl (0, 72, .inl (fun _ => 0)) := by rw [← e37]; exact (va_up_ne _ _ (by omega)).trans c85_36
  have c86_37 : h37 86 = .inl (0, 24, .inl (fun _ => 0)) := by rw [← e37]; exact (va_up_ne _ _ (by omega)).trans c86_36
  have c87_37 : h37 87 = .inl (0, 32, .inl (fun _ => 0)) := by rw [← e37]; exact (va_up_ne _ _ (by omega)).trans c87_36
  have c76_37 : h37 76 = .inr (10, [.int (nI 0), .int (nI 0), .ref 77, .int (nI 0), .int (nI 0), .ref 78, .int (nI 0), .int (nI 0), .int (nI 0), .int (nI 0), .int (nI 0), .int (nI 0), .ref 79, .ref 80, .ref 81, .int (nI 0), .ref 82, .ref 83, .ref 84, .ref 85, .ref 86, .int (nI 0), .int (nI 0), .int (nI 0), .ref 87, .int (nI 0), .null]) := by rw [← e37]; exact va_up_self _ _ _
  refine J_aload_n C 0 d_Mod_init_167 rfl rfl ?_
  refine J_iconst C d_Mod_init_168 (v := nI 2) rfl ?_
  refine J_newa C (t := 0) (N := 2) (ty := .int) rfl (tb_in 144 (by decide +kernel) (by decide +kernel)) (fun _ => (dA_of C.2.2.2.2.2.1).1) (f := .inl (fun _ => 0)) (fun _ => rfl) (fun _ => rfl) rfl (by decide) (by decide) l37 (by omega) (by omega) (by intro i v q; match i, q with | 0, q => obtain rfl := Option.some.inj (Option.some.inj q); exact okR (by omega) | 1, q => exact absurd (show (some none : Option (Option Value)) = some (some v) from q) (by simp) | _ + 2, q => exact absurd (show (none : Option (Option Value)) = some (some v) from q) (by simp)) (by intro v q; simp only [List.mem_cons, List.not_mem_nil, or_false] at q; rcases q with rfl; (exact okR (by omega))) (hcz _ _ _ _ _ (by omega) (by omega)) d_Mod_init_169 (kk := ?_)
  obtain ⟨h38, e38⟩ : ∃ x, va_up h37 88 (.inl (0, 2, .inl (fun _ => 0))) = x := ⟨_, rfl⟩
  refine J_hh (h2 := h38) e38 ?_
  have l38 : LT h38 (88 + 1) := by rw [← e38]; exact l37.add trivial
  have fr_38 : ∀ k, k < 76 → h38 k = h k := fun k hk => by rw [← e38]; exact (va_up_ne _ _ (by omega)).trans (fr_37 k hk)
  have c77_38 : h38 77 = .inl (0, 6, .inl (fun _ => 0)) := by rw [← e38]; exact (va_up_ne _ _ (by omega)).trans c77_37
  have c78_38 : h38 78 = .inl (0, 80, .inl (fun _ => 0)) := by rw [← e38]; exact (va_up_ne _ _ (by omega)).trans c78_37
  have c79_38 : h38 79 = .inl (1, 4, .inl (fun _ => 0)) := by rw [← e38]; exact (va_up_ne _ _ (by omega)).trans c79_37
  have c80_38 : h38 80 = .inl (0, 4, .inl (fun _ => 0)) := by rw [← e38]; exact (va_up_ne _ _ (by omega)).trans c80_37
  have c81_38 : h38 81 = .inl (0, 240, .inl (fun _ => 0)) := by rw [← e38]; exact (va_up_ne _ _ (by omega)).trans c81_37
  have c82_38 : h38 82 = .inl (0, 24, .inl (fun _ => 0)) := by rw [← e38]; exact (va_up_ne _ _ (by omega)).trans c82_37
  have c83_38 : h38 83 = .inl (0, 24, .inl (fun _ => 0)) := by rw [← e38]; exact (va_up_ne _ _ (by omega)).trans c83_37
  have c84_38 : h38 84 = .inl (0, 1440, .inl (fun _ => 0)) := by rw [← e38]; exact (va_up_ne _ _ (by omega)).trans c84_37
  have c85_38 : h38 85 = .inl (0, 72, .inl (fun _ => 0)) := by rw [← e38]; exact (va_up_ne _ _ (by omega)).trans c85_37
  have c86_38 : h38 86 = .inl (0, 24, .inl (fun _ => 0)) := by rw [← e38]; exact (va_up_ne _ _ (by omega)).trans c86_37
  have c87_38 : h38 87 = .inl (0, 32, .inl (fun _ => 0)) := by rw [← e38]; exact (va_up_ne _ _ (by omega)).trans c87_37
  have c76_38 : h38 76 = .inr (10, [.int (nI 0), .int (nI 0), .ref 77, .int (nI 0), .int (nI 0), .ref 78, .int (nI 0), .int (nI 0), .int (nI 0), .int (nI 0), .int (nI 0), .int (nI 0), .ref 79, .ref 80, .ref 81, .int (nI 0), .ref 82, .ref 83, .ref 84, .ref 85, .ref 86, .int (nI 0), .int (nI 0), .int (nI 0), .ref 87, .int (nI 0), .null]) := by rw [← e38]; exact (va_up_ne _ _ (by omega)).trans c76_37
  have c88_38 : h38 88 = .inl (0, 2, .inl (fun _ => 0)) := by rw [← e38]; exact va_up_self _ _ _
  refine J_putC C (k := 26) ci_Mod rfl (by decide) rfl rfl rfl (tb_in 1118 (by decide +kernel) (by decide +kernel)) hnm (by omega) c76_38 (Nat.le_of_ble_eq_true rfl) (fun _ => rfl) (fun _ => rfl) d_Mod_init_171 (kk := ?_)
  obtain ⟨h39, e39⟩ : ∃ x, va_up h38 76 (.inr (10, [.int (nI 0), .int (nI 0), .ref 77, .int (nI 0), .int (nI 0), .ref 78, .int (nI 0), .int (nI 0), .int (nI 0), .int (nI 0), .int (nI 0), .int (nI 0), .ref 79, .ref 80, .ref 81, .int (nI 0), .ref 82, .ref 83, .ref 84, .ref 85, .ref 86, .int (nI 0), .int (nI 0), .int (nI 0), .ref 87, .int (nI 0), .ref 88])) = x := ⟨_, rfl⟩
  refine J_hh (h2 := h39) e39 ?_
  have l39 : LT h39 (89) := by rw [← e39]; exact l38.put _ (by intro v q; simp only [List.mem_cons, List.not_mem_nil, or_false] at q; rcases q with rfl | rfl | rfl | rfl | rfl | rfl | rfl | rfl | rfl | rfl | rfl | rfl | rfl | rfl | rfl | rfl | rfl | rfl | rfl | rfl | rfl | rfl | rfl | rfl | rfl | rfl | rfl; trivial; trivial; (exact okR (by omega)); trivial; trivial; (exact okR (by omega)); trivial; trivial; trivial; trivial; trivial; trivial; (exact okR (by omega)); (exact okR (by omega)); (exact okR (by omega)); trivial; (exact okR (by omega)); (exact okR (by omega)); (exact okR (by omega)); (exact okR (by omega)); (exact okR (by omega)); trivial; trivial; trivial; (exact okR (by omega)); trivial; (exact okR (by omega)))
  have fr_39 : ∀ k, k < 76 → h39 k = h k := fun k hk => by rw [← e39]; exact (va_up_ne _ _ (by omega)).trans (fr_38 k hk)
  have c77_39 : h39 77 = .inl (0, 6, .inl (fun _ => 0)) := by rw [← e39]; exact (va_up_ne _ _ (by omega)).trans c77_38
  have c78_39 : h39 78 = .inl (0, 80, .inl (fun _ => 0)) := by rw [← e39]; exact (va_up_ne _ _ (by omega)).trans c78_38
  have c79_39 : h39 79 = .inl (1, 4, .inl (fun _ => 0)) := by rw [← e39]; exact (va_up_ne _ _ (by omega)).trans c79_38
  have c80_39 : h39 80 = .inl (0, 4, .inl (fun _ => 0)) := by rw [← e39]; exact (va_up_ne _ _ (by omega)).trans c80_38
  have c81_39 : h39 81 = .inl (0, 240, .inl (fun _ => 0)) := by rw [← e39]; exact (va_up_ne _ _ (by omega)).trans c81_38
  have c82_39 : h39 82 = .inl (0, 24, .inl (fun _ => 0)) := by rw [← e39]; exact (va_up_ne _ _ (by omega)).trans c82_38
  have c83_39 : h39 83 = .inl (0, 24, .inl (fun _ => 0)) := by rw [← e39]; exact (va_up_ne _ _ (by omega)).trans c83_38
  have c84_39 : h39 84 = .inl (0, 1440, .inl (fun _ => 0)) := by rw [← e39]; exact (va_up_ne _ _ (by omega)).trans c84_38
  have c85_39 : h39 85 = .inl (0, 72, .inl (fun _ => 0)) := by rw [← e39]; exact (va_up_ne _ _ (by omega)).trans c85_38
  have c86_39 : h39 86 = .inl (0, 24, .inl (fun _ => 0)) := by rw [← e39]; exact (va_up_ne _ _ (by omega)).trans c86_38
  have c87_39 : h39 87 = .inl (0, 32, .inl (fun _ => 0)) := by rw [← e39]; exact (va_up_ne _ _ (by omega)).trans c87_38
  have c88_39 : h39 88 = .inl (0, 2, .inl (fun _ => 0)) := by rw [← e39]; exact (va_up_ne _ _ (by omega)).trans c88_38
  have c76_39 : h39 76 = .inr (10, [.int (nI 0), .int (nI 0), .ref 77, .int (nI 0), .int (nI 0), .ref 78, .int (nI 0), .int (nI 0), .int (nI 0), .int (nI 0), .int (nI 0), .int (nI 0), .ref 79, .ref 80, .ref 81, .int (nI 0), .ref 82, .ref 83, .ref 84, .ref 85, .ref 86, .int (nI 0), .int (nI 0), .int (nI 0), .ref 87, .int (nI 0), .ref 88]) := by rw [← e39]; exact va_up_self _ _ _
  refine J_iconst C d_Mod_init_174 (v := nI 0) rfl ?_
  refine J_istore_n C 1 d_Mod_init_175 rfl (by decide) rfl ?_
  refine J_iload_n C 1 d_Mod_init_176 rfl rfl ?_
  refine J_iconst C d_Mod_init_177 (v := nI 2) rfl ?_
  refine J_icmpN_ge C 209 d_Mod_init_178 (by decide) (by omega) (by omega) (fun hc => absurd hc (by decide)) (fun hc => ?_)
  refine J_aload_n C 0 d_Mod_init_181 rfl rfl ?_
  refine J_get C f_Mod_16 (by omega) c76_39 rfl d_Mod_init_182 ?_
  refine J_iconst C d_Mod_init_185 (v := nI 3) rfl ?_
  refine J_iload_n C 1 d_Mod_init_186 rfl rfl ?_
  refine J_imulN C d_Mod_init_187 ?_
  refine J_val (y := nI 0) rfl ?_
  refine J_iconst C d_Mod_init_188 (v := nI 1) rfl ?_
  refine J_iaddN C d_Mod_init_189 ?_
  refine J_val (y := nI 1) rfl ?_
  refine J_iconst C d_Mod_init_190 (v := nI 1) rfl ?_
  refine J_iastore C (by omega) c77_39 (vp_in_nI (by decide) (by decide)) d_Mod_init_191 (kk := ?_)
  obtain ⟨h40, e40⟩ : ∃ x, va_up h39 77 (.inl (0, 6, .inl (upd ((fun _ => 0)) 1 (nI 1)))) = x := ⟨_, rfl⟩
  refine J_hh (h2 := h40) e40 ?_
  have l40 : LT h40 (89) := by rw [← e40]; exact l39.put _ trivial
  have fr_40 : ∀ k, k < 76 → h40 k = h k := fun k hk => by rw [← e40]; exact (va_up_ne _ _ (by omega)).trans (fr_39 k hk)
  have c78_40 : h40 78 = .inl (0, 80, .inl (fun _ => 0)) := by rw [← e40]; exact (va_up_ne _ _ (by omega)).trans c78_39
  have c79_40 : h40 79 = .inl (1, 4, .inl (fun _ => 0)) := by rw [← e40]; exact (va_up_ne _ _ (by omega)).trans c79_39
  have c80_40 : h40 80 = .inl (0, 4, .inl (fun _ => 0)) := by rw [← e40]; exact (va_up_ne _ _ (by omega)).trans c80_39
  have c81_40 : h40 81 = .inl (0, 240, .inl (fun _ => 0)) := by rw [← e40]; exact (va_up_ne _ _ (by omega)).trans c81_39
  have c82_40 : h40 82 = .inl (0, 24, .inl (fun _ => 0)) := by rw [← e40]; exact (va_up_ne _ _ (by omega)).trans c82_39
  have c83_40 : h40 83 = .inl (0, 24, .inl (fun _ => 0)) := by rw [← e40]; exact (va_up_ne _ _ (by omega)).trans c83_39
  have c84_40 : h40 84 = .inl (0, 1440, .inl (fun _ => 0)) := by rw [← e40]; exact (va_up_ne _ _ (by omega)).trans c84_39
  have c85_40 : h40 85 = .inl (0, 72, .inl (fun _ => 0)) := by rw [← e40]; exact (va_up_ne _ _ (by omega)).trans c85_39
  have c86_40 : h40 86 = .inl (0, 24, .inl (fun _ => 0)) := by rw [← e40]; exact (va_up_ne _ _ (by omega)).trans c86_39
  have c87_40 : h40 87 = .inl (0, 32, .inl (fun _ => 0)) := by rw [← e40]; exact (va_up_ne _ _ (by omega)).trans c87_39
  have c88_40 : h40 88 = .inl (0, 2, .inl (fun _ => 0)) := by rw [← e40]; exact (va_up_ne _ _ (by omega)).trans c88_39
  have c76_40 : h40 76 = .inr (10, [.int (nI 0), .int (nI 0), .ref 77, .int (nI 0), .int (nI 0), .ref 78, .int (nI 0), .int (nI 0), .int (nI 0), .int (nI 0), .int (nI 0), .int (nI 0), .ref 79, .ref 80, .ref 81, .int (nI 0), .ref 82, .ref 83, .ref 84, .ref 85, .ref 86, .int (nI 0), .int (nI 0), .int (nI 0), .ref 87, .int (nI 0), .ref 88]) := by rw [← e40]; exact (va_up_ne _ _ (by omega)).trans c76_39
  have c77_40 : h40 77 = .inl (0, 6, .inl (upd ((fun _ => 0)) 1 (nI 1))) := by rw [← e40]; exact va_up_self _ _ _
  refine J_aload_n C 0 d_Mod_init_192 rfl rfl ?_
  refine J_get C f_Mod_16 (by omega) c76_40 rfl d_Mod_init_193 ?_
  refine J_iconst C d_Mod_init_196 (v := nI 3) rfl ?_
  refine J_iload_n C 1 d_Mod_init_197 rfl rfl ?_
  refine J_imulN C d_Mod_init_198 ?_
  refine J_val (y := nI 0) rfl ?_
  refine J_iconst C d_Mod_init_199 (v := nI 2) rfl ?_
  refine J_iaddN C d_Mod_init_200 ?_
  refine J_val (y := nI 2) rfl ?_
  refine J_iconst C d_Mod_init_201 (v := nI 1) rfl ?_
  refine J_iastore C (by omega) c77_40 (vp_in_nI (by decide) (by decide)) d_Mod_init_202 (kk := ?_)
  obtain ⟨h41, e41⟩ : ∃ x, va_up h40 77 (.inl (0, 6, .inl (upd ((upd ((fun _ => 0)) 1 (nI 1))) 2 (nI 1)))) = x := ⟨_, rfl⟩
  refine J_hh (h2 := h41) e41 ?_
  have l41 : LT h41 (89) := by rw [← e41]; exact l40.put _ trivial
  have fr_41 : ∀ k, k < 76 → h41 k = h k := fun k hk => by rw [← e41]; exact (va_up_ne _ _ (by omega)).trans (fr_40 k hk)
  have c78_41 : h41 78 = .inl (0, 80, .inl (fun _ => 0)) := by rw [← e41]; exact (va_up_ne _ _ (by omega)).trans c78_40
  have c79_41 : h41 79 = .inl (1, 4, .inl (fun _ => 0)) := by rw [← e41]; exact (va_up_ne _ _ (by omega)).trans c79_40
  have c80_41 : h41 80 = .inl (0, 4, .inl (fun _ => 0)) := by rw [← e41]; exact (va_up_ne _ _ (by omega)).trans c80_40
  have c81_41 : h41 81 = .inl (0, 240, .inl (fun _ => 0)) := by rw [← e41]; exact (va_up_ne _ _ (by omega)).trans c81_40
  have c82_41 : h41 82 = .inl (0, 24, .inl (fun _ => 0)) := by rw [← e41]; exact (va_up_ne _ _ (by omega)).trans c82_40
  have c83_41 : h41 83 = .inl (0, 24, .inl (fun _ => 0)) := by rw [← e41]; exact (va_up_ne _ _ (by omega)).trans c83_40
  have c84_41 : h41 84 = .inl (0, 1440, .inl (fun _ => 0)) := by rw [← e41]; exact (va_up_ne _ _ (by omega)).trans c84_40
  have c85_41 : h41 85 = .inl (0, 72, .inl (fun _ => 0)) := by rw [← e41]; exact (va_up_ne _ _ (by omega)).trans c85_40
  have c86_41 : h41 86 = .inl (0, 24, .inl (fun _ => 0)) := by rw [← e41]; exact (va_up_ne _ _ (by omega)).trans c86_40
  have c87_41 : h41 87 = .inl (0, 32, .inl (fun _ => 0)) := by rw [← e41]; exact (va_up_ne _ _ (by omega)).trans c87_40
  have c88_41 : h41 88 = .inl (0, 2, .inl (fun _ => 0)) := by rw [← e41]; exact (va_up_ne _ _ (by omega)).trans c88_40
  have c76_41 : h41 76 = .inr (10, [.int (nI 0), .int (nI 0), .ref 77, .int (nI 0), .int (nI 0), .ref 78, .int (nI 0), .int (nI 0), .int (nI 0), .int (nI 0), .int (nI 0), .int (nI 0), .ref 79, .ref 80, .ref 81, .int (nI 0), .ref 82, .ref 83, .ref 84, .ref 85, .ref 86, .int (nI 0), .int (nI 0), .int (nI 0), .ref 87, .int (nI 0), .ref 88]) := by rw [← e41]; exact (va_up_ne _ _ (by omega)).trans c76_40
  have c77_41 : h41 77 = .inl (0, 6, .inl (upd ((upd ((fun _ => 0)) 1 (nI 1))) 2 (nI 1))) := by rw [← e41]; exact va_up_self _ _ _
  refine J_iinc C d_Mod_init_203 rfl (v := nI 1) rfl (by decide) rfl ?_
  refine J_goto C 176 d_Mod_init_206 (by decide) ?_
  refine J_iload_n C 1 d_Mod_init_176 rfl rfl ?_
  refine J_iconst C d_Mod_init_177 (v := nI 2) rfl ?_
  refine J_icmpN_ge C 209 d_Mod_init_178 (by decide) (by omega) (by omega) (fun hc => absurd hc (by decide)) (fun hc => ?_)
  refine J_aload_n C 0 d_Mod_init_181 rfl rfl ?_
  refine J_get C f_Mod_16 (by omega) c76_41 rfl d_Mod_init_182 ?_
  refine J_iconst C d_Mod_init_185 (v := nI 3) rfl ?_
  refine J_iload_n C 1 d_Mod_init_186 rfl rfl ?_
  refine J_imulN C d_Mod_init_187 ?_
  refine J_val (y := nI 3) rfl ?_
  refine J_iconst C d_Mod_init_188 (v := nI 1) rfl ?_
  refine J_iaddN C d_Mod_init_189 ?_
  refine J_val (y := nI 4) rfl ?_
  refine J_iconst C d_Mod_init_190 (v := nI 1) rfl ?_
  refine J_iastore C (by omega) c77_41 (vp_in_nI (by decide) (by decide)) d_Mod_init_191 (kk := ?_)
  obtain ⟨h42, e42⟩ : ∃ x, va_up h41 77 (.inl (0, 6, .inl (upd ((upd ((upd ((fun _ => 0)) 1 (nI 1))) 2 (nI 1))) 4 (nI 1)))) = x := ⟨_, rfl⟩
  refine J_hh (h2 := h42) e42 ?_
  have l42 : LT h42 (89) := by rw [← e42]; exact l41.put _ trivial
  have fr_42 : ∀ k, k < 76 → h42 k = h k := fun k hk => by rw [← e42]; exact (va_up_ne _ _ (by omega)).trans (fr_41 k hk)
  have c78_42 : h42 78 = .inl (0, 80, .inl (fun _ => 0)) := by rw [← e42]; exact (va_up_ne _ _ (by omega)).trans c78_41
  have c79_42 : h42 79 = .inl (1, 4, .inl (fun _ => 0)) := by rw [← e42]; exact (va_up_ne _ _ (by omega)).trans c79_41
  have c80_42 : h42 80 = .inl (0, 4, .inl (fun _ => 0)) := by rw [← e42]; exact (va_up_ne _ _ (by omega)).trans c80_41
  have c81_42 : h42 81 = .inl (0, 240, .inl (fun _ => 0)) := by rw [← e42]; exact (va_up_ne _ _ (by omega)).trans c81_41
  have c82_42 : h42 82 = .inl (0, 24, .inl (fun _ => 0)) := by rw [← e42]; exact (va_up_ne _ _ (by omega)).trans c82_41
  have c83_42 : h42 83 = .inl (0, 24, .inl (fun _ => 0)) := by rw [← e42]; exact (va_up_ne _ _ (by omega)).trans c83_41
  have c84_42 : h42 84 = .inl (0, 1440, .inl (fun _ => 0)) := by rw [← e42]; exact (va_up_ne _ _ (by omega)).trans c84_41
  have c85_42 : h42 85 = .inl (0, 72, .inl (fun _ => 0)) := by rw [← e42]; exact (va_up_ne _ _ (by omega)).trans c85_41
  have c86_42 : h42 86 = .inl (0, 24, .inl (fun _ => 0)) := by rw [← e42]; exact (va_up_ne _ _ (by omega)).trans c86_41
  have c87_42 : h42 87 = .inl (0, 32, .inl (fun _ => 0)) := by rw [← e42]; exact (va_up_ne _ _ (by omega)).trans c87_41
  have c88_42 : h42 88 = .inl (0, 2, .inl (fun _ => 0)) := by rw [← e42]; exact (va_up_ne _ _ (by omega)).trans c88_41
  have c76_42 : h42 76 = .inr (10, [.int (nI 0), .int (nI 0), .ref 77, .int (nI 0), .int (nI 0), .ref 78, .int (nI 0), .int (nI 0), .int (nI 0), .int (nI 0), .int (nI 0), .int (nI 0), .ref 79, .ref 80, .ref 81, .int (nI 0), .ref 82, .ref 83, .ref 84, .ref 85, .ref 86, .int (nI 0), .int (nI 0), .int (nI 0), .ref 87, .int (nI 0), .ref 88]) := by rw [← e42]; exact (va_up_ne _ _ (by omega)).trans c76_41
  have c77_42 : h42 77 = .inl (0, 6, .inl (upd ((upd ((upd ((fun _ => 0)) 1 (nI 1))) 2 (nI 1))) 4 (nI 1))) := by rw [← e42]; exact va_up_self _ _ _
  refine J_aload_n C 0 d_Mod_init_192 rfl rfl ?_
  refine J_get C f_Mod_16 (by omega) c76_42 rfl d_Mod_init_193 ?_
  refine J_iconst C d_Mod_init_196 (v := nI 3) rfl ?_
  refine J_iload_n C 1 d_Mod_init_197 rfl rfl ?_
  refine J_imulN C d_Mod_init_198 ?_
  refine J_val (y := nI 3) rfl ?_
  refine J_iconst C d_Mod_init_199 (v := nI 2) rfl ?_
  refine J_iaddN C d_Mod_init_200 ?_
  refine J_val (y := nI 5) rfl ?_
  refine J_iconst C d_Mod_init_201 (v := nI 1) rfl ?_
  refine J_iastore C (by omega) c77_42 (vp_in_nI (by decide) (by decide)) d_Mod_init_202 (kk := ?_)
  obtain ⟨h43, e43⟩ : ∃ x, va_up h42 77 (.inl (0, 6, .inl (upd ((upd ((upd ((upd ((fun _ => 0)) 1 (nI 1))) 2 (nI 1))) 4 (nI 1))) 5 (nI 1)))) = x := ⟨_, rfl⟩
  refine J_hh (h2 := h43) e43 ?_
  have l43 : LT h43 (89) := by rw [← e43]; exact l42.put _ trivial
  have fr_43 : ∀ k, k < 76 → h43 k = h k := fun k hk => by rw [← e43]; exact (va_up_ne _ _ (by omega)).trans (fr_42 k hk)
  have c78_43 : h43 78 = .inl (0, 80, .inl (fun _ => 0)) := by rw [← e43]; exact (va_up_ne _ _ (by omega)).trans c78_42
  have c79_43 : h43 79 = .inl (1, 4, .inl (fun _ => 0)) := by rw [← e43]; exact (va_up_ne _ _ (by omega)).trans c79_42
  have c80_43 : h43 80 = .inl (0, 4, .inl (fun _ => 0)) := by rw [← e43]; exact (va_up_ne _ _ (by omega)).trans c80_42
  have c81_43 : h43 81 = .inl (0, 240, .inl (fun _ => 0)) := by rw [← e43]; exact (va_up_ne _ _ (by omega)).trans c81_42
  have c82_43 : h43 82 = .inl (0, 24, .inl (fun _ => 0)) := by rw [← e43]; exact (va_up_ne _ _ (by omega)).trans c82_42
  have c83_43 : h43 83 = .inl (0, 24, .inl (fun _ => 0)) := by rw [← e43]; exact (va_up_ne _ _ (by omega)).trans c83_42
  have c84_43 : h43 84 = .inl (0, 1440, .inl (fun _ => 0)) := by rw [← e43]; exact (va_up_ne _ _ (by omega)).trans c84_42
  have c85_43 : h43 85 = .inl (0, 72, .inl (fun _ => 0)) := by rw [← e43]; exact (va_up_ne _ _ (by omega)).trans c85_42
  have c86_43 : h43 86 = .inl (0, 24, .inl (fun _ => 0)) := by rw [← e43]; exact (va_up_ne _ _ (by omega)).trans c86_42
  have c87_43 : h43 87 = .inl (0, 32, .inl (fun _ => 0)) := by rw [← e43]; exact (va_up_ne _ _ (by omega)).trans c87_42
  have c88_43 : h43 88 = .inl (0, 2, .inl (fun _ => 0)) := by rw [← e43]; exact (va_up_ne _ _ (by omega)).trans c88_42
  have c76_43 : h43 76 = .inr (10, [.int (nI 0), .int (nI 0), .ref 77, .int (nI 0), .int (nI 0), .ref 78, .int (nI 0), .int (nI 0), .int (nI 0), .int (nI 0), .int (nI 0), .int (nI 0), .ref 79, .ref 80, .ref 81, .int (nI 0), .ref 82, .ref 83, .ref 84, .ref 85, .ref 86, .int (nI 0), .int (nI 0), .int (nI 0), .ref 87, .int (nI 0), .ref 88]) := by rw [← e43]; exact (va_up_ne _ _ (by omega)).trans c76_42
  have c77_43 : h43 77 = .inl (0, 6, .inl (upd ((upd ((upd ((upd ((fun _ => 0)) 1 (nI 1))) 2 (nI 1))) 4 (nI 1))) 5 (nI 1))) := by rw [← e43]; exact va_up_self _ _ _
  refine J_iinc C d_Mod_init_203 rfl (v := nI 2) rfl (by decide) rfl ?_
  refine J_goto C 176 d_Mod_init_206 (by decide) ?_
  refine J_iload_n C 1 d_Mod_init_176 rfl rfl ?_
  refine J_iconst C d_Mod_init_177 (v := nI 2) rfl ?_
  refine J_icmpN_ge C 209 d_Mod_init_178 (by decide) (by omega) (by omega) (fun hc => ?_) (fun hc => absurd hc (by decide))
  refine J_widen (kc' := 12) (ks' := 1952) (by omega) (by omega) ?_
  exact J_return C hr (by omega) ⟨rfl, rfl, l43, fr_43, c76_43, c77_43, c78_43, c79_43, c80_43, c81_43, c82_43, c83_43, c84_43, c85_43, c86_43, c87_43, c88_43⟩ d_Mod_init_209
