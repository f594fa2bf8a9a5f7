set_option maxHeartbeats 4000000 in
set_option maxRecDepth 100000 in
theorem c_Orb_init (l : Launch) (D : va_G) (dA : Nat → ClassId) (h : Nat → va_E) (hn : 1 + 75 ≤ 900) (ho : h 0 = .inr (0, [.null, .null, .null, .null, .null, .null, .int 0])) (hLT : LT h 1) : CT l D dA k_Orb_init 3 75 1260 1 [.ref 0] h (fun v h' n' => v = none ∧ n' = 1 + 75 ∧ LT h' n' ∧ (∀ k, k < 0 → h' k = h k) ∧ (h' 0 = .inr (0, [.ref 1, .ref 2, .ref 3, .ref 55, .ref 69, .ref 73, .int (nI 0)])) ∧ (h' 1 = .inr (1, [.int (nI 0), .int (nI 1), .int (nI 1)])) ∧ (h' 2 = .inr (1, [.int (nI 0), .int (nI 1), .int (nI 1)])) ∧ (h' 3 = .inr (2, [.ref 4, .ref 5, .ref 6, .int (nI 0), .int (nI 24), .int (nI 0), .int (nI 0), .int (nI 0), .int (nI 0), .int (nI 0)])) ∧ (h' 4 = .inl (0, 480, .inl (fun _ => 0))) ∧ (h' 5 = .inl (1, 24, .inl (fun _ => 0))) ∧ (∃ fP3 : Nat → Option Nat, (∀ j, j < 24 → fP3 j = some (7 + 2 * j)) ∧ h' 6 = .inl (3, 24, .inr (.inr (.inr (.inr fP3))))) ∧ (∀ j, j < 24 → h' (7 + 2 * j) = .inr (3, [.ref (8 + 2 * j), .int (nI 0), .int (nI 0), .int (nI 0), .int (nI 0)])) ∧ (∀ j, j < 24 → h' (8 + 2 * j) = .inl (0, 3, .inl (fun _ => 0))) ∧ (h' 55 = .inr (4, [.ref 3, .ref 56, .ref 60, .int (nI 0), .int (nI 0), .int (nI 0), .int (nI 0), .int (nI 0), .null, .int (nI 0)])) ∧ (h' 56 = .inr (5, [.ref 57, .ref 58, .ref 59, .int (nI 0), .int (nI 0)])) ∧ (h' 57 = .inl (0, 60, .inl (fun _ => 0))) ∧ (h' 58 = .inl (0, 8, .inl (fun _ => 0))) ∧ (h' 59 = .inl (0, 8, .inl (fun _ => 0))) ∧ (∃ fP4 : Nat → Option Nat, (∀ j, j < 4 → fP4 j = some (61 + 2 * j)) ∧ h' 60 = .inl (4, 4, .inr (.inr (.inr (.inr fP4))))) ∧ (∀ j, j < 4 → h' (61 + 2 * j) = .inr (6, [.ref (62 + 2 * j), .int (nI 0), .int (nI 0)])) ∧ (∀ j, j < 4 → h' (62 + 2 * j) = .inl (0, 60, .inl (fun _ => 0))) ∧ (h' 69 = .inr (7, [.ref 70, .ref 71, .int (nI 0)])) ∧ (h' 70 = .inl (0, 71, .inl (fun _ => 0))) ∧ (h' 71 = .inr (8, [.ref 72, .int (nI 5)])) ∧ (h' 72 = .inl (0, 64, .inl (fun _ => 0))) ∧ (h' 73 = .inr (9, [.ref 74, .ref 75, .int (nI 0)])) ∧ (h' 74 = .inl (0, 32, .inl (fun _ => 0))) ∧ (h' 75 = .inl (0, 2, .inl (fun _ => 0)))) := by
  refine CT.of (by decide +kernel) (Nat.le_of_ble_eq_true rfl) (by intro v hv; simp only [List.mem_cons, List.not_mem_nil, or_false] at hv; rcases hv with rfl <;> rfl) ?_
  intro A ad0 p e s m args below meth c C hr hnm
  refine J_aload_n C 0 d_Orb_init_0 rfl rfl ?_
  refine J_objInit C (tb_in 80 (by decide +kernel) (by decide +kernel)) (tb_in 81 (by decide +kernel) (by decide +kernel)) (tb_in 82 (by decide +kernel) (by decide +kernel)) (Nat.le_of_ble_eq_true rfl) d_Orb_init_1 ?_
  refine J_aload_n C 0 d_Orb_init_4 rfl rfl ?_
  refine J_new C (ci := 1) (fs := [.int 0, .int 0, .int 0]) in_tb.2.1 ty_Win tk_Win (tb_in 83 (by decide +kernel) (by decide +kernel)) (tb_in 84 (by decide +kernel) (by decide +kernel)) (tb_in 46 (by decide +kernel) (by decide +kernel)) rfl (by intro j hj; match j, hj with | 0, _ => rfl | 1, _ => rfl | 2, _ => rfl | _ + 3, hj => exact absurd hj (by omega)) (fun _ => rfl) hLT (by omega) (by omega) (by intro i v q; match i, q with | 0, q => obtain rfl := Option.some.inj (Option.some.inj q); exact okR (by omega) | _ + 1, q => exact absurd (show (none : Option (Option Value)) = some (some v) from q) (by simp)) (by intro v q; simp only [List.mem_cons, List.not_mem_nil, or_false] at q; rcases q with rfl; (exact okR (by omega))) (hcz _ _ _ _ _ (by omega) (by omega)) d_Orb_init_5 (kk := ?_)
  obtain ⟨h1, e1⟩ : ∃ x, va_up h 1 (.inr (1, [.int 0, .int 0, .int 0])) = x := ⟨_, rfl⟩
  refine J_hh (h2 := h1) e1 ?_
  have l1 : LT h1 (1 + 1) := by rw [← e1]; exact hLT.add (by intro v q; simp only [List.mem_cons, List.not_mem_nil, or_false] at q; rcases q with rfl | rfl | rfl <;> trivial)
  have co_1 : h1 0 = .inr (0, [.null, .null, .null, .null, .null, .null, .int 0]) := by rw [← e1]; exact (va_up_ne _ _ (by omega)).trans ho
  have c1_1 : h1 1 = .inr (1, [.int 0, .int 0, .int 0]) := by rw [← e1]; exact va_up_self _ _ _
  refine J_dup C d_Orb_init_8 rfl ?_
  refine J_callI C (as := []) (st := [.ref 1, .ref 0]) (c_Win_init l D dA h1 1  (by omega) c1_1 l1) l_Orb_9 ⟨rfl, (tb_in 86 (by decide +kernel) (by decide +kernel)), rfl⟩ rfl (by omega) (by omega) (by decide) (hcz _ _ _ _ _ (by omega) (by omega)) (Nat.le_of_ble_eq_true rfl) (fun v h1 n1 q => ⟨q.1, by have := q.2.1; omega⟩) (by intro i v q; match i, q with | 0, q => obtain rfl := Option.some.inj (Option.some.inj q); exact okR (by omega) | _ + 1, q => exact absurd (show (none : Option (Option Value)) = some (some v) from q) (by simp)) (by intro v q; simp only [List.mem_cons, List.not_mem_nil, or_false] at q; rcases q with rfl | rfl; (exact okR (by omega)); (exact okR (by omega))) d_Orb_init_9 (kk := ?_)
  intro h2 n1 q _
  obtain ⟨-, rfl, l2, f2, p2_0⟩ := q
  have co_2 : h2 0 = .inr (0, [.null, .null, .null, .null, .null, .null, .int 0]) := (f2 _ (by omega)).trans co_1
  refine J_putC C (k := 0) ci_Orb rfl (by decide) rfl rfl rfl (tb_in 318 (by decide +kernel) (by decide +kernel)) hnm (by omega) co_2 (Nat.le_of_ble_eq_true rfl) (fun _ => rfl) (fun _ => rfl) d_Orb_init_12 (kk := ?_)
  obtain ⟨h3, e3⟩ : ∃ x, va_up h2 0 (.inr (0, [.ref 1, .null, .null, .null, .null, .null, .int 0])) = x := ⟨_, rfl⟩
  refine J_hh (h2 := h3) e3 ?_
  have l3 : LT h3 (2) := by rw [← e3]; exact l2.put _ (by intro v q; simp only [List.mem_cons, List.not_mem_nil, or_false] at q; rcases q with rfl | rfl | rfl | rfl | rfl | rfl | rfl; (exact okR (by omega)); trivial; trivial; trivial; trivial; trivial; trivial)
  have p2_0q0_3 : h3 1 = .inr (1, [.int (nI 0), .int (nI 1), .int (nI 1)]) := by rw [← e3]; exact (va_up_ne _ _ (by omega)).trans p2_0
  have c0_3 : h3 0 = .inr (0, [.ref 1, .null, .null, .null, .null, .null, .int 0]) := by rw [← e3]; exact va_up_self _ _ _
  refine J_aload_n C 0 d_Orb_init_15 rfl rfl ?_
  refine J_new C (ci := 1) (fs := [.int 0, .int 0, .int 0]) in_tb.2.1 ty_Win tk_Win (tb_in 83 (by decide +kernel) (by decide +kernel)) (tb_in 84 (by decide +kernel) (by decide +kernel)) (tb_in 46 (by decide +kernel) (by decide +kernel)) rfl (by intro j hj; match j, hj with | 0, _ => rfl | 1, _ => rfl | 2, _ => rfl | _ + 3, hj => exact absurd hj (by omega)) (fun _ => rfl) l3 (by omega) (by omega) (by intro i v q; match i, q with | 0, q => obtain rfl := Option.some.inj (Option.some.inj q); exact okR (by omega) | _ + 1, q => exact absurd (show (none : Option (Option Value)) = some (some v) from q) (by simp)) (by intro v q; simp only [List.mem_cons, List.not_mem_nil, or_false] at q; rcases q with rfl; (exact okR (by omega))) (hcz _ _ _ _ _ (by omega) (by omega)) d_Orb_init_16 (kk := ?_)
  obtain ⟨h4, e4⟩ : ∃ x, va_up h3 2 (.inr (1, [.int 0, .int 0, .int 0])) = x := ⟨_, rfl⟩
  refine J_hh (h2 := h4) e4 ?_
  have l4 : LT h4 (2 + 1) := by rw [← e4]; exact l3.add (by intro v q; simp only [List.mem_cons, List.not_mem_nil, or_false] at q; rcases q with rfl | rfl | rfl <;> trivial)
  have p2_0q0_4 : h4 1 = .inr (1, [.int (nI 0), .int (nI 1), .int (nI 1)]) := by rw [← e4]; exact (va_up_ne _ _ (by omega)).trans p2_0q0_3
  have c0_4 : h4 0 = .inr (0, [.ref 1, .null, .null, .null, .null, .null, .int 0]) := by rw [← e4]; exact (va_up_ne _ _ (by omega)).trans c0_3
  have c2_4 : h4 2 = .inr (1, [.int 0, .int 0, .int 0]) := by rw [← e4]; exact va_up_self _ _ _
  refine J_dup C d_Orb_init_19 rfl ?_
  refine J_callI C (as := []) (st := [.ref 2, .ref 0]) (c_Win_init l D dA h4 2  (by omega) c2_4 l4) l_Orb_9 ⟨rfl, (tb_in 86 (by decide +kernel) (by decide +kernel)), rfl⟩ rfl (by omega) (by omega) (by decide) (hcz _ _ _ _ _ (by omega) (by omega)) (Nat.le_of_ble_eq_true rfl) (fun v h1 n1 q => ⟨q.1, by have := q.2.1; omega⟩) (by intro i v q; match i, q with | 0, q => obtain rfl := Option.some.inj (Option.some.inj q); exact okR (by omega) | _ + 1, q => exact absurd (show (none : Option (Option Value)) = some (some v) from q) (by simp)) (by intro v q; simp only [List.mem_cons, List.not_mem_nil, or_false] at q; rcases q with rfl | rfl; (exact okR (by omega)); (exact okR (by omega))) d_Orb_init_20 (kk := ?_)
  intro h5 n1 q _
  obtain ⟨-, rfl, l5, f5, p5_0⟩ := q
  have p2_0q0_5 : h5 1 = .inr (1, [.int (nI 0), .int (nI 1), .int (nI 1)]) := (f5 _ (by omega)).trans p2_0q0_4
  have c0_5 : h5 0 = .inr (0, [.ref 1, .null, .null, .null, .null, .null, .int 0]) := (f5 _ (by omega)).trans c0_4
  refine J_putC C (k := 1) ci_Orb rfl (by decide) rfl rfl rfl (tb_in 319 (by decide +kernel) (by decide +kernel)) hnm (by omega) c0_5 (Nat.le_of_ble_eq_true rfl) (fun _ => rfl) (fun _ => rfl) d_Orb_init_23 (kk := ?_)
  obtain ⟨h6, e6⟩ : ∃ x, va_up h5 0 (.inr (0, [.ref 1, .ref 2, .null, .null, .null, .null, .int 0])) = x := ⟨_, rfl⟩
  refine J_hh (h2 := h6) e6 ?_
  have l6 : LT h6 (3) := by rw [← e6]; exact l5.put _ (by intro v q; simp only [List.mem_cons, List.not_mem_nil, or_false] at q; rcases q with rfl | rfl | rfl | rfl | rfl | rfl | rfl; (exact okR (by omega)); (exact okR (by omega)); trivial; trivial; trivial; trivial; trivial)
  have p2_0q0_6 : h6 1 = .inr (1, [.int (nI 0), .int (nI 1), .int (nI 1)]) := by rw [← e6]; exact (va_up_ne _ _ (by omega)).trans p2_0q0_5
  have p5_0q0_6 : h6 2 = .inr (1, [.int (nI 0), .int (nI 1), .int (nI 1)]) := by rw [← e6]; exact (va_up_ne _ _ (by omega)).trans p5_0
  have c0_6 : h6 0 = .inr (0, [.ref 1, .ref 2, .null, .null, .null, .null, .int 0]) := by rw [← e6]; exact va_up_self _ _ _
  refine J_aload_n C 0 d_Orb_init_26 rfl rfl ?_
  refine J_new C (ci := 2) (fs := [.null, .null, .null, .int 0, .int 0, .int 0, .int 0, .int 0, .int 0, .int 0]) in_tb.2.2.1 ty_Sto tk_Sto (tb_in 99 (by decide +kernel) (by decide +kernel)) (tb_in 100 (by decide +kernel) (by decide +kernel)) (tb_in 47 (by decide +kernel) (by decide +kernel)) rfl (by intro j hj; match j, hj with | 0, _ => rfl | 1, _ => rfl | 2, _ => rfl | 3, _ => rfl | 4, _ => rfl | 5, _ => rfl | 6, _ => rfl | 7, _ => rfl | 8, _ => rfl | 9, _ => rfl | _ + 10, hj => exact absurd hj (by omega)) (fun _ => rfl) l6 (by omega) (by omega) (by intro i v q; match i, q with | 0, q => obtain rfl := Option.some.inj (Option.some.inj q); exact okR (by omega) | _ + 1, q => exact absurd (show (none : Option (Option Value)) = some (some v) from q) (by simp)) (by intro v q; simp only [List.mem_cons, List.not_mem_nil, or_false] at q; rcases q with rfl; (exact okR (by omega))) (hcz _ _ _ _ _ (by omega) (by omega)) d_Orb_init_27 (kk := ?_)
  obtain ⟨h7, e7⟩ : ∃ x, va_up h6 3 (.inr (2, [.null, .null, .null, .int 0, .int 0, .int 0, .int 0, .int 0, .int 0, .int 0])) = x := ⟨_, rfl⟩
  refine J_hh (h2 := h7) e7 ?_
  have l7 : LT h7 (3 + 1) := by rw [← e7]; exact l6.add (by intro v q; simp only [List.mem_cons, List.not_mem_nil, or_false] at q; rcases q with rfl | rfl | rfl | rfl | rfl | rfl | rfl | rfl | rfl | rfl <;> trivial)
  have p2_0q0_7 : h7 1 = .inr (1, [.int (nI 0), .int (nI 1), .int (nI 1)]) := by rw [← e7]; exact (va_up_ne _ _ (by omega)).trans p2_0q0_6
  have p5_0q0_7 : h7 2 = .inr (1, [.int (nI 0), .int (nI 1), .int (nI 1)]) := by rw [← e7]; exact (va_up_ne _ _ (by omega)).trans p5_0q0_6
  have c0_7 : h7 0 = .inr (0, [.ref 1, .ref 2, .null, .null, .null, .null, .int 0]) := by rw [← e7]; exact (va_up_ne _ _ (by omega)).trans c0_6
  have c3_7 : h7 3 = .inr (2, [.null, .null, .null, .int 0, .int 0, .int 0, .int 0, .int 0, .int 0, .int 0]) := by rw [← e7]; exact va_up_self _ _ _
  refine J_dup C d_Orb_init_30 rfl ?_
  refine J_callI C (as := []) (st := [.ref 3, .ref 0]) (c_Sto_init l D dA h7   (by omega) c3_7 l7) l_Orb_21 ⟨rfl, (tb_in 102 (by decide +kernel) (by decide +kernel)), rfl⟩ rfl (by omega) (by omega) (by decide) (hcz _ _ _ _ _ (by omega) (by omega)) (Nat.le_of_ble_eq_true rfl) (fun v h1 n1 q => ⟨q.1, by have := q.2.1; omega⟩) (by intro i v q; match i, q with | 0, q => obtain rfl := Option.some.inj (Option.some.inj q); exact okR (by omega) | _ + 1, q => exact absurd (show (none : Option (Option Value)) = some (some v) from q) (by simp)) (by intro v q; simp only [List.mem_cons, List.not_mem_nil, or_false] at q; rcases q with rfl | rfl; (exact okR (by omega)); (exact okR (by omega))) d_Orb_init_31 (kk := ?_)
  intro h8 n1 q _
  obtain ⟨-, rfl, l8, f8, p8_0, p8_1, p8_2, ⟨fP3, hfP3, p8_3⟩, p8_4, p8_5⟩ := q
  have p2_0q0_8 : h8 1 = .inr (1, [.int (nI 0), .int (nI 1), .int (nI 1)]) := (f8 _ (by omega)).trans p2_0q0_7
  have p5_0q0_8 : h8 2 = .inr (1, [.int (nI 0), .int (nI 1), .int (nI 1)]) := (f8 _ (by omega)).trans p5_0q0_7
  have c0_8 : h8 0 = .inr (0, [.ref 1, .ref 2, .null, .null, .null, .null, .int 0]) := (f8 _ (by omega)).trans c0_7
  refine J_putC C (k := 2) ci_Orb rfl (by decide) rfl rfl rfl (tb_in 320 (by decide +kernel) (by decide +kernel)) hnm (by omega) c0_8 (Nat.le_of_ble_eq_true rfl) (fun _ => rfl) (fun _ => rfl) d_Orb_init_34 (kk := ?_)
  obtain ⟨h9, e9⟩ : ∃ x, va_up h8 0 (.inr (0, [.ref 1, .ref 2, .ref 3, .null, .null, .null, .int 0])) = x := ⟨_, rfl⟩
  refine J_hh (h2 := h9) e9 ?_
  have l9 : LT h9 (55) := by rw [← e9]; exact l8.put _ (by intro v q; simp only [List.mem_cons, List.not_mem_nil, or_false] at q; rcases q with rfl | rfl | rfl | rfl | rfl | rfl | rfl; (exact okR (by omega)); (exact okR (by omega)); (exact okR (by omega)); trivial; trivial; trivial; trivial)
  have p2_0q0_9 : h9 1 = .inr (1, [.int (nI 0), .int (nI 1), .int (nI 1)]) := by rw [← e9]; exact (va_up_ne _ _ (by omega)).trans p2_0q0_8
  have p5_0q0_9 : h9 2 = .inr (1, [.int (nI 0), .int (nI 1), .int (nI 1)]) := by rw [← e9]; exact (va_up_ne _ _ (by omega)).trans p5_0q0_8
  have p8_0q0_9 : h9 3 = .inr (2, [.ref 4, .ref 5, .ref 6, .int (nI 0), .int (nI 24), .int (nI 0), .int (nI 0), .int (nI 0), .int (nI 0), .int (nI 0)]) := by rw [← e9]; exact (va_up_ne _ _ (by omega)).trans p8_0
  have p8_1q0_9 : h9 4 = .inl (0, 480, .inl (fun _ => 0)) := by rw [← e9]; exact (va_up_ne _ _ (by omega)).trans p8_1
  have p8_2q0_9 : h9 5 = .inl (1, 24, .inl (fun _ => 0)) := by rw [← e9]; exact (va_up_ne _ _ (by omega)).trans p8_2
  have p8_3q0_9 : h9 6 = .inl (3, 24, .inr (.inr (.inr (.inr fP3)))) := by rw [← e9]; exact (va_up_ne _ _ (by omega)).trans p8_3
  have p8_4q0_9 : ∀ j, j < 24 → h9 (7 + 2 * j) = .inr (3, [.ref (8 + 2 * j), .int (nI 0), .int (nI 0), .int (nI 0), .int (nI 0)]) := fun j hj => by rw [← e9]; exact (va_up_ne _ _ (by omega)).trans (p8_4 j hj)
  have p8_5q0_9 : ∀ j, j < 24 → h9 (8 + 2 * j) = .inl (0, 3, .inl (fun _ => 0)) := fun j hj => by rw [← e9]; exact (va_up_ne _ _ (by omega)).trans (p8_5 j hj)
  have c0_9 : h9 0 = .inr (0, [.ref 1, .ref 2, .ref 3, .null, .null, .null, .int 0]) := by rw [← e9]; exact va_up_self _ _ _
  refine J_aload_n C 0 d_Orb_init_37 rfl rfl ?_
  refine J_new C (ci := 4) (fs := [.null, .null, .null, .int 0, .int 0, .int 0, .int 0, .int 0, .null, .int 0]) in_tb.2.2.2.2.1 ty_Ses tk_Ses (tb_in 186 (by decide +kernel) (by decide +kernel)) (tb_in 187 (by decide +kernel) (by decide +kernel)) (tb_in 49 (by decide +kernel) (by decide +kernel)) rfl (by intro j hj; match j, hj with | 0, _ => rfl | 1, _ => rfl | 2, _ => rfl | 3, _ => rfl | 4, _ => rfl | 5, _ => rfl | 6, _ => rfl | 7, _ => rfl | 8, _ => rfl | 9, _ => rfl | _ + 10, hj => exact absurd hj (by omega)) (fun _ => rfl) l9 (by omega) (by omega) (by intro i v q; match i, q with | 0, q => obtain rfl := Option.some.inj (Option.some.inj q); exact okR (by omega) | _ + 1, q => exact absurd (show (none : Option (Option Value)) = some (some v) from q) (by simp)) (by intro v q; simp only [List.mem_cons, List.not_mem_nil, or_false] at q; rcases q with rfl; (exact okR (by omega))) (hcz _ _ _ _ _ (by omega) (by omega)) d_Orb_init_38 (kk := ?_)
  obtain ⟨h10, e10⟩ : ∃ x, va_up h9 55 (.inr (4, [.null, .null, .null, .int 0, .int 0, .int 0, .int 0, .int 0, .null, .int 0])) = x := ⟨_, rfl⟩
  refine J_hh (h2 := h10) e10 ?_
  have l10 : LT h10 (55 + 1) := by rw [← e10]; exact l9.add (by intro v q; simp only [List.mem_cons, List.not_mem_nil, or_false] at q; rcases q with rfl | rfl | rfl | rfl | rfl | rfl | rfl | rfl | rfl | rfl <;> trivial)
  have p2_0q0_10 : h10 1 = .inr (1, [.int (nI 0), .int (nI 1), .int (nI 1)]) := by rw [← e10]; exact (va_up_ne _ _ (by omega)).trans p2_0q0_9
  have p5_0q0_10 : h10 2 = .inr (1, [.int (nI 0), .int (nI 1), .int (nI 1)]) := by rw [← e10]; exact (va_up_ne _ _ (by omega)).trans p5_0q0_9
  have p8_0q0_10 : h10 3 = .inr (2, [.ref 4, .ref 5, .ref 6, .int (nI 0), .int (nI 24), .int (nI 0), .int (nI 0), .int (nI 0), .int (nI 0), .int (nI 0)]) := by rw [← e10]; exact (va_up_ne _ _ (by omega)).trans p8_0q0_9
  have p8_1q0_10 : h10 4 = .inl (0, 480, .inl (fun _ => 0)) := by rw [← e10]; exact (va_up_ne _ _ (by omega)).trans p8_1q0_9
  have p8_2q0_10 : h10 5 = .inl (1, 24, .inl (fun _ => 0)) := by rw [← e10]; exact (va_up_ne _ _ (by omega)).trans p8_2q0_9
  have p8_3q0_10 : h10 6 = .inl (3, 24, .inr (.inr (.inr (.inr fP3)))) := by rw [← e10]; exact (va_up_ne _ _ (by omega)).trans p8_3q0_9
  have p8_4q0_10 : ∀ j, j < 24 → h10 (7 + 2 * j) = .inr (3, [.ref (8 + 2 * j), .int (nI 0), .int (nI 0), .int (nI 0), .int (nI 0)]) := fun j hj => by rw [← e10]; exact (va_up_ne _ _ (by omega)).trans (p8_4q0_9 j hj)
  have p8_5q0_10 : ∀ j, j < 24 → h10 (8 + 2 * j) = .inl (0, 3, .inl (fun _ => 0)) := fun j hj => by rw [← e10]; exact (va_up_ne _ _ (by omega)).trans (p8_5q0_9 j hj)
  have c0_10 : h10 0 = .inr (0, [.ref 1, .ref 2, .ref 3, .null, .null, .null, .int 0]) := by rw [← e10]; exact (va_up_ne _ _ (by omega)).trans c0_9
  have c55_10 : h10 55 = .inr (4, [.null, .null, .null, .int 0, .int 0, .int 0, .int 0, .int 0, .null, .int 0]) := by rw [← e10]; exact va_up_self _ _ _
  refine J_dup C d_Orb_init_41 rfl ?_
  refine J_aload_n C 0 d_Orb_init_42 rfl rfl ?_
  refine J_get C f_Orb_22 (by omega) c0_10 rfl d_Orb_init_43 ?_
  refine J_callI C (as := [.ref 3]) (st := [.ref 55, .ref 0]) (c_Ses_init l D dA h10   (by omega) c55_10 l10) l_Orb_28 ⟨rfl, (tb_in 189 (by decide +kernel) (by decide +kernel)), rfl⟩ rfl (by omega) (by omega) (by decide) (hcz _ _ _ _ _ (by omega) (by omega)) (Nat.le_of_ble_eq_true rfl) (fun v h1 n1 q => ⟨q.1, by have := q.2.1; omega⟩) (by intro i v q; match i, q with | 0, q => obtain rfl := Option.some.inj (Option.some.inj q); exact okR (by omega) | _ + 1, q => exact absurd (show (none : Option (Option Value)) = some (some v) from q) (by simp)) (by intro v q; simp only [List.mem_cons, List.not_mem_nil, or_false] at q; rcases q with rfl | rfl; (exact okR (by omega)); (exact okR (by omega))) d_Orb_init_46 (kk := ?_)
  intro h11 n1 q _
  obtain ⟨-, rfl, l11, f11, p11_0, p11_1, p11_2, p11_3, p11_4, ⟨fP4, hfP4, p11_5⟩, p11_6, p11_7⟩ := q
  have p2_0q0_11 : h11 1 = .inr (1, [.int (nI 0), .int (nI 1), .int (nI 1)]) := (f11 _ (by omega)).trans p2_0q0_10
  have p5_0q0_11 : h11 2 = .inr (1, [.int (nI 0), .int (nI 1), .int (nI 1)]) := (f11 _ (by omega)).trans p5_0q0_10
  have p8_0q0_11 : h11 3 = .inr (2, [.ref 4, .ref 5, .ref 6, .int (nI 0), .int (nI 24), .int (nI 0), .int (nI 0), .int (nI 0), .int (nI 0), .int (nI 0)]) := (f11 _ (by omega)).trans p8_0q0_10
  have p8_1q0_11 : h11 4 = .inl (0, 480, .inl (fun _ => 0)) := (f11 _ (by omega)).trans p8_1q0_10
  have p8_2q0_11 : h11 5 = .inl (1, 24, .inl (fun _ => 0)) := (f11 _ (by omega)).trans p8_2q0_10
  have p8_3q0_11 : h11 6 = .inl (3, 24, .inr (.inr (.inr (.inr fP3)))) := (f11 _ (by omega)).trans p8_3q0_10
  have p8_4q0_11 : ∀ j, j < 24 → h11 (7 + 2 * j) = .inr (3, [.ref (8 + 2 * j), .int (nI 0), .int (nI 0), .int (nI 0), .int (nI 0)]) := fun j hj => (f11 _ (by omega)).trans (p8_4q0_10 j hj)
  have p8_5q0_11 : ∀ j, j < 24 → h11 (8 + 2 * j) = .inl (0, 3, .inl (fun _ => 0)) := fun j hj => (f11 _ (by omega)).trans (p8_5q0_10 j hj)
  have c0_11 : h11 0 = .inr (0, [.ref 1, .ref 2, .ref 3, .null, .null, .null, .int 0]) := (f11 _ (by omega)).trans c0_10
  refine J_putC C (k := 3) ci_Orb rfl (by decide) rfl rfl rfl (tb_in 321 (by decide +kernel) (by decide +kernel)) hnm (by omega) c0_11 (Nat.le_of_ble_eq_true rfl) (fun _ => rfl) (fun _ => rfl) d_Orb_init_49 (kk := ?_)
  obtain ⟨h12, e12⟩ : ∃ x, va_up h11 0 (.inr (0, [.ref 1, .ref 2, .ref 3, .ref 55, .null, .null, .int 0])) = x := ⟨_, rfl⟩
  refine J_hh (h2 := h12) e12 ?_
  have l12 : LT h12 (69) := by rw [← e12]; exact l11.put _ (by intro v q; simp only [List.mem_cons, List.not_mem_nil, or_false] at q; rcases q with rfl | rfl | rfl | rfl | rfl | rfl | rfl; (exact okR (by omega)); (exact okR (by omega)); (exact okR (by omega)); (exact okR (by omega)); trivial; trivial; trivial)
  have p2_0q0_12 : h12 1 = .inr (1, [.int (nI 0), .int (nI 1), .int (nI 1)]) := by rw [← e12]; exact (va_up_ne _ _ (by omega)).trans p2_0q0_11
  have p5_0q0_12 : h12 2 = .inr (1, [.int (nI 0), .int (nI 1), .int (nI 1)]) := by rw [← e12]; exact (va_up_ne _ _ (by omega)).trans p5_0q0_11
  have p8_0q0_12 : h12 3 = .inr (2, [.ref 4, .ref 5, .ref 6, .int (nI 0), .int (nI 24), .int (nI 0), .int (nI 0), .int (nI 0), .int (nI 0), .int (nI 0)]) := by rw [← e12]; exact (va_up_ne _ _ (by omega)).trans p8_0q0_11
  have p8_1q0_12 : h12 4 = .inl (0, 480, .inl (fun _ => 0)) := by rw [← e12]; exact (va_up_ne _ _ (by omega)).trans p8_1q0_11
  have p8_2q0_12 : h12 5 = .inl (1, 24, .inl (fun _ => 0)) := by rw [← e12]; exact (va_up_ne _ _ (by omega)).trans p8_2q0_11
  have p8_3q0_12 : h12 6 = .inl (3, 24, .inr (.inr (.inr (.inr fP3)))) := by rw [← e12]; exact (va_up_ne _ _ (by omega)).trans p8_3q0_11
  have p8_4q0_12 : ∀ j, j < 24 → h12 (7 + 2 * j) = .inr (3, [.ref (8 + 2 * j), .int (nI 0), .int (nI 0), .int (nI 0), .int (nI 0)]) := fun j hj => by rw [← e12]; exact (va_up_ne _ _ (by omega)).trans (p8_4q0_11 j hj)
  have p8_5q0_12 : ∀ j, j < 24 → h12 (8 + 2 * j) = .inl (0, 3, .inl (fun _ => 0)) := fun j hj => by rw [← e12]; exact (va_up_ne _ _ (by omega)).trans (p8_5q0_11 j hj)
  have p11_0q0_12 : h12 55 = .inr (4, [.ref 3, .ref 56, .ref 60, .int (nI 0), .int (nI 0), .int (nI 0), .int (nI 0), .int (nI 0), .null, .int (nI 0)]) := by rw [← e12]; exact (va_up_ne _ _ (by omega)).trans p11_0
  have p11_1q0_12 : h12 56 = .inr (5, [.ref 57, .ref 58, .ref 59, .int (nI 0), .int (nI 0)]) := by rw [← e12]; exact (va_up_ne _ _ (by omega)).trans p11_1
  have p11_2q0_12 : h12 57 = .inl (0, 60, .inl (fun _ => 0)) := by rw [← e12]; exact (va_up_ne _ _ (by omega)).trans p11_2
  have p11_3q0_12 : h12 58 = .inl (0, 8, .inl (fun _ => 0)) := by rw [← e12]; exact (va_up_ne _ _ (by omega)).trans p11_3
  have p11_4q0_12 : h12 59 = .inl (0, 8, .inl (fun _ => 0)) := by rw [← e12]; exact (va_up_ne _ _ (by omega)).trans p11_4
  have p11_5q0_12 : h12 60 = .inl (4, 4, .inr (.inr (.inr (.inr fP4)))) := by rw [← e12]; exact (va_up_ne _ _ (by omega)).trans p11_5
  have p11_6q0_12 : ∀ j, j < 4 → h12 (61 + 2 * j) = .inr (6, [.ref (62 + 2 * j), .int (nI 0), .int (nI 0)]) := fun j hj => by rw [← e12]; exact (va_up_ne _ _ (by omega)).trans (p11_6 j hj)
  have p11_7q0_12 : ∀ j, j < 4 → h12 (62 + 2 * j) = .inl (0, 60, .inl (fun _ => 0)) := fun j hj => by rw [← e12]; exact (va_up_ne _ _ (by omega)).trans (p11_7 j hj)
  have c0_12 : h12 0 = .inr (0, [.ref 1, .ref 2, .ref 3, .ref 55, .null, .null, .int 0]) := by rw [← e12]; exact va_up_self _ _ _
  refine J_aload_n C 0 d_Orb_init_52 rfl rfl ?_
  refine J_new C (ci := 7) (fs := [.null, .null, .int 0]) in_tb.2.2.2.2.2.2.2.1 ty_Lan tk_Lan (tb_in 271 (by decide +kernel) (by decide +kernel)) (tb_in 272 (by decide +kernel) (by decide +kernel)) (tb_in 52 (by decide +kernel) (by decide +kernel)) rfl (by intro j hj; match j, hj with | 0, _ => rfl | 1, _ => rfl | 2, _ => rfl | _ + 3, hj => exact absurd hj (by omega)) (fun _ => rfl) l12 (by omega) (by omega) (by intro i v q; match i, q with | 0, q => obtain rfl := Option.some.inj (Option.some.inj q); exact okR (by omega) | _ + 1, q => exact absurd (show (none : Option (Option Value)) = some (some v) from q) (by simp)) (by intro v q; simp only [List.mem_cons, List.not_mem_nil, or_false] at q; rcases q with rfl; (exact okR (by omega))) (hcz _ _ _ _ _ (by omega) (by omega)) d_Orb_init_53 (kk := ?_)
  obtain ⟨h13, e13⟩ : ∃ x, va_up h12 69 (.inr (7, [.null, .null, .int 0])) = x := ⟨_, rfl⟩
  refine J_hh (h2 := h13) e13 ?_
  have l13 : LT h13 (69 + 1) := by rw [← e13]; exact l12.add (by intro v q; simp only [List.mem_cons, List.not_mem_nil, or_false] at q; rcases q with rfl | rfl | rfl <;> trivial)
  have p2_0q0_13 : h13 1 = .inr (1, [.int (nI 0), .int (nI 1), .int (nI 1)]) := by rw [← e13]; exact (va_up_ne _ _ (by omega)).trans p2_0q0_12
  have p5_0q0_13 : h13 2 = .inr (1, [.int (nI 0), .int (nI 1), .int (nI 1)]) := by rw [← e13]; exact (va_up_ne _ _ (by omega)).trans p5_0q0_12
  have p8_0q0_13 : h13 3 = .inr (2, [.ref 4, .ref 5, .ref 6, .int (nI 0), .int (nI 24), .int (nI 0), .int (nI 0), .int (nI 0), .int (nI 0), .int (nI 0)]) := by rw [← e13]; exact (va_up_ne _ _ (by omega)).trans p8_0q0_12
  have p8_1q0_13 : h13 4 = .inl (0, 480, .inl (fun _ => 0)) := by rw [← e13]; exact (va_up_ne _ _ (by omega)).trans p8_1q0_12
  have p8_2q0_13 : h13 5 = .inl (1, 24, .inl (fun _ => 0)) := by rw [← e13]; exact (va_up_ne _ _ (by omega)).trans p8_2q0_12
  have p8_3q0_13 : h13 6 = .inl (3, 24, .inr (.inr (.inr (.inr fP3)))) := by rw [← e13]; exact (va_up_ne _ _ (by omega)).trans p8_3q0_12
  have p8_4q0_13 : ∀ j, j < 24 → h13 (7 + 2 * j) = .inr (3, [.ref (8 + 2 * j), .int (nI 0), .int (nI 0), .int (nI 0), .int (nI 0)]) := fun j hj => by rw [← e13]; exact (va_up_ne _ _ (by omega)).trans (p8_4q0_12 j hj)
  have p8_5q0_13 : ∀ j, j < 24 → h13 (8 + 2 * j) = .inl (0, 3, .inl (fun _ => 0)) := fun j hj => by rw [← e13]; exact (va_up_ne _ _ (by omega)).trans (p8_5q0_12 j hj)
  have p11_0q0_13 : h13 55 = .inr (4, [.ref 3, .ref 56, .ref 60, .int (nI 0), .int (nI 0), .int (nI 0), .int (nI 0), .int (nI 0), .null, .int (nI 0)]) := by rw [← e13]; exact (va_up_ne _ _ (by omega)).trans p11_0q0_12
  have p11_1q0_13 : h13 56 = .inr (5, [.ref 57, .ref 58, .ref 59, .int (nI 0), .int (nI 0)]) := by rw [← e13]; exact (va_up_ne _ _ (by omega)).trans p11_1q0_12
  have p11_2q0_13 : h13 57 = .inl (0, 60, .inl (fun _ => 0)) := by rw [← e13]; exact (va_up_ne _ _ (by omega)).trans p11_2q0_12
  have p11_3q0_13 : h13 58 = .inl (0, 8, .inl (fun _ => 0)) := by rw [← e13]; exact (va_up_ne _ _ (by omega)).trans p11_3q0_12
  have p11_4q0_13 : h13 59 = .inl (0, 8, .inl (fun _ => 0)) := by rw [← e13]; exact (va_up_ne _ _ (by omega)).trans p11_4q0_12
  have p11_5q0_13 : h13 60 = .inl (4, 4, .inr (.inr (.inr (.inr fP4)))) := by rw [← e13]; exact (va_up_ne _ _ (by omega)).trans p11_5q0_12
  have p11_6q0_13 : ∀ j, j < 4 → h13 (61 + 2 * j) = .inr (6, [.ref (62 + 2 * j), .int (nI 0), .int (nI 0)]) := fun j hj => by rw [← e13]; exact (va_up_ne _ _ (by omega)).trans (p11_6q0_12 j hj)
  have p11_7q0_13 : ∀ j, j < 4 → h13 (62 + 2 * j) = .inl (0, 60, .inl (fun _ => 0)) := fun j hj => by rw [← e13]; exact (va_up_ne _ _ (by omega)).trans (p11_7q0_12 j hj)
  have c0_13 : h13 0 = .inr (0, [.ref 1, .ref 2, .ref 3, .ref 55, .null, .null, .int 0]) := by rw [← e13]; exact (va_up_ne _ _ (by omega)).trans c0_12
  have c69_13 : h13 69 = .inr (7, [.null, .null, .int 0]) := by rw [← e13]; exact va_up_self _ _ _
  refine J_dup C d_Orb_init_56 rfl ?_
  refine J_callI C (as := []) (st := [.ref 69, .ref 0]) (c_Lan_init l D dA h13   (by omega) c69_13 l13) l_Orb_37 ⟨rfl, (tb_in 274 (by decide +kernel) (by decide +kernel)), rfl⟩ rfl (by omega) (by omega) (by decide) (hcz _ _ _ _ _ (by omega) (by omega)) (Nat.le_of_ble_eq_true rfl) (fun v h1 n1 q => ⟨q.1, by have := q.2.1; omega⟩) (by intro i v q; match i, q with | 0, q => obtain rfl := Option.some.inj (Option.some.inj q); exact okR (by omega) | _ + 1, q => exact absurd (show (none : Option (Option Value)) = some (some v) from q) (by simp)) (by intro v q; simp only [List.mem_cons, List.not_mem_nil, or_false] at q; rcases q with rfl | rfl; (exact okR (by omega)); (exact okR (by omega))) d_Orb_init_57 (kk := ?_)
  intro h14 n1 q _
  obtain ⟨-, rfl, l14, f14, p14_0, p14_1, p14_2, p14_3⟩ := q
  have p2_0q0_14 : h14 1 = .inr (1, [.int (nI 0), .int (nI 1), .int (nI 1)]) := (f14 _ (by omega)).trans p2_0q0_13
  have p5_0q0_14 : h14 2 = .inr (1, [.int (nI 0), .int (nI 1), .int (nI 1)]) := (f14 _ (by omega)).trans p5_0q0_13
  have p8_0q0_14 : h14 3 = .inr (2, [.ref 4, .ref 5, .ref 6, .int (nI 0), .int (nI 24), .int (nI 0), .int (nI 0), .int (nI 0), .int (nI 0), .int (nI 0)]) := (f14 _ (by omega)).trans p8_0q0_13
  have p8_1q0_14 : h14 4 = .inl (0, 480, .inl (fun _ => 0)) := (f14 _ (by omega)).trans p8_1q0_13
  have p8_2q0_14 : h14 5 = .inl (1, 24, .inl (fun _ => 0)) := (f14 _ (by omega)).trans p8_2q0_13
  have p8_3q0_14 : h14 6 = .inl (3, 24, .inr (.inr (.inr (.inr fP3)))) := (f14 _ (by omega)).trans p8_3q0_13
  have p8_4q0_14 : ∀ j, j < 24 → h14 (7 + 2 * j) = .inr (3, [.ref (8 + 2 * j), .int (nI 0), .int (nI 0), .int (nI 0), .int (nI 0)]) := fun j hj => (f14 _ (by omega)).trans (p8_4q0_13 j hj)
  have p8_5q0_14 : ∀ j, j < 24 → h14 (8 + 2 * j) = .inl (0, 3, .inl (fun _ => 0)) := fun j hj => (f14 _ (by omega)).trans (p8_5q0_13 j hj)
  have p11_0q0_14 : h14 55 = .inr (4, [.ref 3, .ref 56, .ref 60, .int (nI 0), .int (nI 0), .int (nI 0), .int (nI 0), .int (nI 0), .null, .int (nI 0)]) := (f14 _ (by omega)).trans p11_0q0_13
  have p11_1q0_14 : h14 56 = .inr (5, [.ref 57, .ref 58, .ref 59, .int (nI 0), .int (nI 0)]) := (f14 _ (by omega)).trans p11_1q0_13
  have p11_2q0_14 : h14 57 = .inl (0, 60, .inl (fun _ => 0)) := (f14 _ (by omega)).trans p11_2q0_13
  have p11_3q0_14 : h14 58 = .inl (0, 8, .inl (fun _ => 0)) := (f14 _ (by omega)).trans p11_3q0_13
  have p11_4q0_14 : h14 59 = .inl (0, 8, .inl (fun _ => 0)) := (f14 _ (by omega)).trans p11_4q0_13
  have p11_5q0_14 : h14 60 = .inl (4, 4, .inr (.inr (.inr (.inr fP4)))) := (f14 _ (by omega)).trans p11_5q0_13
  have p11_6q0_14 : ∀ j, j < 4 → h14 (61 + 2 * j) = .inr (6, [.ref (62 + 2 * j), .int (nI 0), .int (nI 0)]) := fun j hj => (f14 _ (by omega)).trans (p11_6q0_13 j hj)
  have p11_7q0_14 : ∀ j, j < 4 → h14 (62 + 2 * j) = .inl (0, 60, .inl (fun _ => 0)) := fun j hj => (f14 _ (by omega)).trans (p11_7q0_13 j hj)
  have c0_14 : h14 0 = .inr (0, [.ref 1, .ref 2, .ref 3, .ref 55, .null, .null, .int 0]) := (f14 _ (by omega)).trans c0_13
  refine J_putC C (k := 4) ci_Orb rfl (by decide) rfl rfl rfl (tb_in 322 (by decide +kernel) (by decide +kernel)) hnm (by omega) c0_14 (Nat.le_of_ble_eq_true rfl) (fun _ => rfl) (fun _ => rfl) d_Orb_init_60 (kk := ?_)
  obtain ⟨h15, e15⟩ : ∃ x, va_up h14 0 (.inr (0, [.ref 1, .ref 2, .ref 3, .ref 55, .ref 69, .null, .int 0])) = x := ⟨_, rfl⟩
  refine J_hh (h2 := h15) e15 ?_
  have l15 : LT h15 (73) := by rw [← e15]; exact l14.put _ (by intro v q; simp only [List.mem_cons, List.not_mem_nil, or_false] at q; rcases q with rfl | rfl | rfl | rfl | rfl | rfl | rfl; (exact okR (by omega)); (exact okR (by omega)); (exact okR (by omega)); (exact okR (by omega)); (exact okR (by omega)); trivial; trivial)
  have p2_0q0_15 : h15 1 = .inr (1, [.int (nI 0), .int (nI 1), .int (nI 1)]) := by rw [← e15]; exact (va_up_ne _ _ (by omega)).trans p2_0q0_14
  have p5_0q0_15 : h15 2 = .inr (1, [.int (nI 0), .int (nI 1), .int (nI 1)]) := by rw [← e15]; exact (va_up_ne _ _ (by omega)).trans p5_0q0_14
  have p8_0q0_15 : h15 3 = .inr (2, [.ref 4, .ref 5, .ref 6, .int (nI 0), .int (nI 24), .int (nI 0), .int (nI 0), .int (nI 0), .int (nI 0), .int (nI 0)]) := by rw [← e15]; exact (va_up_ne _ _ (by omega)).trans p8_0q0_14
  have p8_1q0_15 : h15 4 = .inl (0, 480, .inl (fun _ => 0)) := by rw [← e15]; exact (va_up_ne _ _ (by omega)).trans p8_1q0_14
  have p8_2q0_15 : h15 5 = .inl (1, 24, .inl (fun _ => 0)) := by rw [← e15]; exact (va_up_ne _ _ (by omega)).trans p8_2q0_14
  have p8_3q0_15 : h15 6 = .inl (3, 24, .inr (.inr (.inr (.inr fP3)))) := by rw [← e15]; exact (va_up_ne _ _ (by omega)).trans p8_3q0_14
  have p8_4q0_15 : ∀ j, j < 24 → h15 (7 + 2 * j) = .inr (3, [.ref (8 + 2 * j), .int (nI 0), .int (nI 0), .int (nI 0), .int (nI 0)]) := fun j hj => by rw [← e15]; exact (va_up_ne _ _ (by omega)).trans (p8_4q0_14 j hj)
  have p8_5q0_15 : ∀ j, j < 24 → h15 (8 + 2 * j) = .inl (0, 3, .inl (fun _ => 0)) := fun j hj => by rw [← e15]; exact (va_up_ne _ _ (by omega)).trans (p8_5q0_14 j hj)
  have p11_0q0_15 : h15 55 = .inr (4, [.ref 3, .ref 56, .ref 60, .int (nI 0), .int (nI 0), .int (nI 0), .int (nI 0), .int (nI 0), .null, .int (nI 0)]) := by rw [← e15]; exact (va_up_ne _ _ (by omega)).trans p11_0q0_14
  have p11_1q0_15 : h15 56 = .inr (5, [.ref 57, .ref 58, .ref 59, .int (nI 0), .int (nI 0)]) := by rw [← e15]; exact (va_up_ne _ _ (by omega)).trans p11_1q0_14
  have p11_2q0_15 : h15 57 = .inl (0, 60, .inl (fun _ => 0)) := by rw [← e15]; exact (va_up_ne _ _ (by omega)).trans p11_2q0_14
  have p11_3q0_15 : h15 58 = .inl (0, 8, .inl (fun _ => 0)) := by rw [← e15]; exact (va_up_ne _ _ (by omega)).trans p11_3q0_14
  have p11_4q0_15 : h15 59 = .inl (0, 8, .inl (fun _ => 0)) := by rw [← e15]; exact (va_up_ne _ _ (by omega)).trans p11_4q0_14
  have p11_5q0_15 : h15 60 = .inl (4, 4, .inr (.inr (.inr (.inr fP4)))) := by rw [← e15]; exact (va_up_ne _ _ (by omega)).trans p11_5q0_14
  have p11_6q0_15 : ∀ j, j < 4 → h15 (61 + 2 * j) = .inr (6, [.ref (62 + 2 * j), .int (nI 0), .int (nI 0)]) := fun j hj => by rw [← e15]; exact (va_up_ne _ _ (by omega)).trans (p11_6q0_14 j hj)
  have p11_7q0_15 : ∀ j, j < 4 → h15 (62 + 2 * j) = .inl (0, 60, .inl (fun _ => 0)) := fun j hj => by rw [← e15]; exact (va_up_ne _ _ (by omega)).trans (p11_7q0_14 j hj)
  have p14_0q0_15 : h15 69 = .inr (7, [.ref 70, .ref 71, .int (nI 0)]) := by rw [← e15]; exact (va_up_ne _ _ (by omega)).trans p14_0
  have p14_1q0_15 : h15 70 = .inl (0, 71, .inl (fun _ => 0)) := by rw [← e15]; exact (va_up_ne _ _ (by omega)).trans p14_1
  have p14_2q0_15 : h15 71 = .inr (8, [.ref 72, .int (nI 5)]) := by rw [← e15]; exact (va_up_ne _ _ (by omega)).trans p14_2
  have p14_3q0_15 : h15 72 = .inl (0, 64, .inl (fun _ => 0)) := by rw [← e15]; exact (va_up_ne _ _ (by omega)).trans p14_3
  have c0_15 : h15 0 = .inr (0, [.ref 1, .ref 2, .ref 3, .ref 55, .ref 69, .null, .int 0]) := by rw [← e15]; exact va_up_self _ _ _
  refine J_aload_n C 0 d_Orb_init_63 rfl rfl ?_
  refine J_new C (ci := 9) (fs := [.null, .null, .int 0]) in_tb.2.2.2.2.2.2.2.2.2.1 ty_Ear tk_Ear (tb_in 301 (by decide +kernel) (by decide +kernel)) (tb_in 302 (by decide +kernel) (by decide +kernel)) (tb_in 54 (by decide +kernel) (by decide +kernel)) rfl (by intro j hj; match j, hj with | 0, _ => rfl | 1, _ => rfl | 2, _ => rfl | _ + 3, hj => exact absurd hj (by omega)) (fun _ => rfl) l15 (by omega) (by omega) (by intro i v q; match i, q with | 0, q => obtain rfl := Option.some.inj (Option.some.inj q); exact okR (by omega) | _ + 1, q => exact absurd (show (none : Option (Option Value)) = some (some v) from q) (by simp)) (by intro v q; simp only [List.mem_cons, List.not_mem_nil, or_false] at q; rcases q with rfl; (exact okR (by omega))) (hcz _ _ _ _ _ (by omega) (by omega)) d_Orb_init_64 (kk := ?_)
  obtain ⟨h16, e16⟩ : ∃ x, va_up h15 73 (.inr (9, [.null, .null, .int 0])) = x := ⟨_, rfl⟩
  refine J_hh (h2 := h16) e16 ?_
  have l16 : LT h16 (73 + 1) := by rw [← e16]; exact l15.add (by intro v q; simp only [List.mem_cons, List.not_mem_nil, or_false] at q; rcases q with rfl | rfl | rfl <;> trivial)
  have p2_0q0_16 : h16 1 = .inr (1, [.int (nI 0), .int (nI 1), .int (nI 1)]) := by rw [← e16]; exact (va_up_ne _ _ (by omega)).trans p2_0q0_15
  have p5_0q0_16 : h16 2 = .inr (1, [.int (nI 0), .int (nI 1), .int (nI 1)]) := by rw [← e16]; exact (va_up_ne _ _ (by omega)).trans p5_0q0_15
  have p8_0q0_16 : h16 3 = .inr (2, [.ref 4, .ref 5, .ref 6, .int (nI 0), .int (nI 24), .int (nI 0), .int (nI 0), .int (nI 0), .int (nI 0), .int (nI 0)]) := by rw [← e16]; exact (va_up_ne _ _ (by omega)).trans p8_0q0_15
  have p8_1q0_16 : h16 4 = .inl (0, 480, .inl (fun _ => 0)) := by rw [← e16]; exact (va_up_ne _ _ (by omega)).trans p8_1q0_15
  have p8_2q0_16 : h16 5 = .inl (1, 24, .inl (fun _ => 0)) := by rw [← e16]; exact (va_up_ne _ _ (by omega)).trans p8_2q0_15
  have p8_3q0_16 : h16 6 = .inl (3, 24, .inr (.inr (.inr (.inr fP3)))) := by rw [← e16]; exact (va_up_ne _ _ (by omega)).trans p8_3q0_15
  have p8_4q0_16 : ∀ j, j < 24 → h16 (7 + 2 * j) = .inr (3, [.ref (8 + 2 * j), .int (nI 0), .int (nI 0), .int (nI 0), .int (nI 0)]) := fun j hj => by rw [← e16]; exact (va_up_ne _ _ (by omega)).trans (p8_4q0_15 j hj)
  have p8_5q0_16 : ∀ j, j < 24 → h16 (8 + 2 * j) = .inl (0, 3, .inl (fun _ => 0)) := fun j hj => by rw [← e16]; exact (va_up_ne _ _ (by omega)).trans (p8_5q0_15 j hj)
  have p11_0q0_16 : h16 55 = .inr (4, [.ref 3, .ref 56, .ref 60, .int (nI 0), .int (nI 0), .int (nI 0), .int (nI 0), .int (nI 0), .null, .int (nI 0)]) := by rw [← e16]; exact (va_up_ne _ _ (by omega)).trans p11_0q0_15
  have p11_1q0_16 : h16 56 = .inr (5, [.ref 57, .ref 58, .ref 59, .int (nI 0), .int (nI 0)]) := by rw [← e16]; exact (va_up_ne _ _ (by omega)).trans p11_1q0_15
  have p11_2q0_16 : h16 57 = .inl (0, 60, .inl (fun _ => 0)) := by rw [← e16]; exact (va_up_ne _ _ (by omega)).trans p11_2q0_15
  have p11_3q0_16 : h16 58 = .inl (0, 8, .inl (fun _ => 0)) := by rw [← e16]; exact (va_up_ne _ _ (by omega)).trans p11_3q0_15
  have p11_4q0_16 : h16 59 = .inl (0, 8, .inl (fun _ => 0)) := by rw [← e16]; exact (va_up_ne _ _ (by omega)).trans p11_4q0_15
  have p11_5q0_16 : h16 60 = .inl (4, 4, .inr (.inr (.inr (.inr fP4)))) := by rw [← e16]; exact (va_up_ne _ _ (by omega)).trans p11_5q0_15
  have p11_6q0_16 : ∀ j, j < 4 → h16 (61 + 2 * j) = .inr (6, [.ref (62 + 2 * j), .int (nI 0), .int (nI 0)]) := fun j hj => by rw [← e16]; exact (va_up_ne _ _ (by omega)).trans (p11_6q0_15 j hj)
  have p11_7q0_16 : ∀ j, j < 4 → h16 (62 + 2 * j) = .inl (0, 60, .inl (fun _ => 0)) := fun j hj => by rw [← e16]; exact (va_up_ne _ _ (by omega)).trans (p11_7q0_15 j hj)
  have p14_0q0_16 : h16 69 = .inr (7, [.ref 70, .ref 71, .int (nI 0)]) := by rw [← e16]; exact (va_up_ne _ _ (by omega)).trans p14_0q0_15
  have p14_1q0_16 : h16 70 = .inl (0, 71, .inl (fun _ => 0)) := by rw [← e16]; exact (va_up_ne _ _ (by omega)).trans p14_1q0_15
  have p14_2q0_16 : h16 71 = .inr (8, [.ref 72, .int (nI 5)]) := by rw [← e16]; exact (va_up_ne _ _ (by omega)).trans p14_2q0_15
  have p14_3q0_16 : h16 72 = .inl (0, 64, .inl (fun _ => 0)) := by rw [← e16]; exact (va_up_ne _ _ (by omega)).trans p14_3q0_15
  have c0_16 : h16 0 = .inr (0, [.ref 1, .ref 2, .ref 3, .ref 55, .ref 69, .null, .int 0]) := by rw [← e16]; exact (va_up_ne _ _ (by omega)).trans c0_15
  have c73_16 : h16 73 = .inr (9, [.null, .null, .int 0]) := by rw [← e16]; exact va_up_self _ _ _
  refine J_dup C d_Orb_init_67 rfl ?_
  refine J_callI C (as := []) (st := [.ref 73, .ref 0]) (c_Ear_init l D dA h16   (by omega) c73_16 l16) l_Orb_44 ⟨rfl, (tb_in 304 (by decide +kernel) (by decide +kernel)), rfl⟩ rfl (by omega) (by omega) (by decide) (hcz _ _ _ _ _ (by omega) (by omega)) (Nat.le_of_ble_eq_true rfl) (fun v h1 n1 q => ⟨q.1, by have := q.2.1; omega⟩) (by intro i v q; match i, q with | 0, q => obtain rfl := Option.some.inj (Option.some.inj q); exact okR (by omega) | _ + 1, q => exact absurd (show (none : Option (Option Value)) = some (some v) from q) (by simp)) (by intro v q; simp only [List.mem_cons, List.not_mem_nil, or_false] at q; rcases q with rfl | rfl; (exact okR (by omega)); (exact okR (by omega))) d_Orb_init_68 (kk := ?_)
  intro h17 n1 q _
  obtain ⟨-, rfl, l17, f17, p17_0, p17_1, p17_2⟩ := q
  have p2_0q0_17 : h17 1 = .inr (1, [.int (nI 0), .int (nI 1), .int (nI 1)]) := (f17 _ (by omega)).trans p2_0q0_16
  have p5_0q0_17 : h17 2 = .inr (1, [.int (nI 0), .int (nI 1), .int (nI 1)]) := (f17 _ (by omega)).trans p5_0q0_16
  have p8_0q0_17 : h17 3 = .inr (2, [.ref 4, .ref 5, .ref 6, .int (nI 0), .int (nI 24), .int (nI 0), .int (nI 0), .int (nI 0), .int (nI 0), .int (nI 0)]) := (f17 _ (by omega)).trans p8_0q0_16
  have p8_1q0_17 : h17 4 = .inl (0, 480, .inl (fun _ => 0)) := (f17 _ (by omega)).trans p8_1q0_16
  have p8_2q0_17 : h17 5 = .inl (1, 24, .inl (fun _ => 0)) := (f17 _ (by omega)).trans p8_2q0_16
  have p8_3q0_17 : h17 6 = .inl (3, 24, .inr (.inr (.inr (.inr fP3)))) := (f17 _ (by omega)).trans p8_3q0_16
  have p8_4q0_17 : ∀ j, j < 24 → h17 (7 + 2 * j) = .inr (3, [.ref (8 + 2 * j), .int (nI 0), .int (nI 0), .int (nI 0), .int (nI 0)]) := fun j hj => (f17 _ (by omega)).trans (p8_4q0_16 j hj)
  have p8_5q0_17 : ∀ j, j < 24 → h17 (8 + 2 * j) = .inl (0, 3, .inl (fun _ => 0)) := fun j hj => (f17 _ (by omega)).trans (p8_5q0_16 j hj)
  have p11_0q0_17 : h17 55 = .inr (4, [.ref 3, .ref 56, .ref 60, .int (nI 0), .int (nI 0), .int (nI 0), .int (nI 0), .int (nI 0), .null, .int (nI 0)]) := (f17 _ (by omega)).trans p11_0q0_16
  have p11_1q0_17 : h17 56 = .inr (5, [.ref 57, .ref 58, .ref 59, .int (nI 0), .int (nI 0)]) := (f17 _ (by omega)).trans p11_1q0_16
  have p11_2q0_17 : h17 57 = .inl (0, 60, .inl (fun _ => 0)) := (f17 _ (by omega)).trans p11_2q0_16
  have p11_3q0_17 : h17 58 = .inl (0, 8, .inl (fun _ => 0)) := (f17 _ (by omega)).trans p11_3q0_16
  have p11_4q0_17 : h17 59 = .inl (0, 8, .inl (fun _ => 0)) := (f17 _ (by omega)).trans p11_4q0_16
  have p11_5q0_17 : h17 60 = .inl (4, 4, .inr (.inr (.inr (.inr fP4)))) := (f17 _ (by omega)).trans p11_5q0_16
  have p11_6q0_17 : ∀ j, j < 4 → h17 (61 + 2 * j) = .inr (6, [.ref (62 + 2 * j), .int (nI 0), .int (nI 0)]) := fun j hj => (f17 _ (by omega)).trans (p11_6q0_16 j hj)
  have p11_7q0_17 : ∀ j, j < 4 → h17 (62 + 2 * j) = .inl (0, 60, .inl (fun _ => 0)) := fun j hj => (f17 _ (by omega)).trans (p11_7q0_16 j hj)
  have p14_0q0_17 : h17 69 = .inr (7, [.ref 70, .ref 71, .int (nI 0)]) := (f17 _ (by omega)).trans p14_0q0_16
  have p14_1q0_17 : h17 70 = .inl (0, 71, .inl (fun _ => 0)) := (f17 _ (by omega)).trans p14_1q0_16
  have p14_2q0_17 : h17 71 = .inr (8, [.ref 72, .int (nI 5)]) := (f17 _ (by omega)).trans p14_2q0_16
  have p14_3q0_17 : h17 72 = .inl (0, 64, .inl (fun _ => 0)) := (f17 _ (by omega)).trans p14_3q0_16
  have c0_17 : h17 0 = .inr (0, [.ref 1, .ref 2, .ref 3, .ref 55, .ref 69, .null, .int 0]) := (f17 _ (by omega)).trans c0_16
  refine J_putC C (k := 5) ci_Orb rfl (by decide) rfl rfl rfl (tb_in 323 (by decide +kernel) (by decide +kernel)) hnm (by omega) c0_17 (Nat.le_of_ble_eq_true rfl) (fun _ => rfl) (fun _ => rfl) d_Orb_init_71 (kk := ?_)
  obtain ⟨h18, e18⟩ : ∃ x, va_up h17 0 (.inr (0, [.ref 1, .ref 2, .ref 3, .ref 55, .ref 69, .ref 73, .int 0])) = x := ⟨_, rfl⟩
  refine J_hh (h2 := h18) e18 ?_
  have l18 : LT h18 (76) := by rw [← e18]; exact l17.put _ (by intro v q; simp only [List.mem_cons, List.not_mem_nil, or_false] at q; rcases q with rfl | rfl | rfl | rfl | rfl | rfl | rfl; (exact okR (by omega)); (exact okR (by omega)); (exact okR (by omega)); (exact okR (by omega)); (exact okR (by omega)); (exact okR (by omega)); trivial)
  have p2_0q0_18 : h18 1 = .inr (1, [.int (nI 0), .int (nI 1), .int (nI 1)]) := by rw [← e18]; exact (va_up_ne _ _ (by omega)).trans p2_0q0_17
  have p5_0q0_18 : h18 2 = .inr (1, [.int (nI 0), .int (nI 1), .int (nI 1)]) := by rw [← e18]; exact (va_up_ne _ _ (by omega)).trans p5_0q0_17
  have p8_0q0_18 : h18 3 = .inr (2, [.ref 4, .ref 5, .ref 6, .int (nI 0), .int (nI 24), .int (nI 0), .int (nI 0), .int (nI 0), .int (nI 0), .int (nI 0)]) := by rw [← e18]; exact (va_up_ne _ _ (by omega)).trans p8_0q0_17
  have p8_1q0_18 : h18 4 = .inl (0, 480, .inl (fun _ => 0)) := by rw [← e18]; exact (va_up_ne _ _ (by omega)).trans p8_1q0_17
  have p8_2q0_18 : h18 5 = .inl (1, 24, .inl (fun _ => 0)) := by rw [← e18]; exact (va_up_ne _ _ (by omega)).trans p8_2q0_17
  have p8_3q0_18 : h18 6 = .inl (3, 24, .inr (.inr (.inr (.inr fP3)))) := by rw [← e18]; exact (va_up_ne _ _ (by omega)).trans p8_3q0_17
  have p8_4q0_18 : ∀ j, j < 24 → h18 (7 + 2 * j) = .inr (3, [.ref (8 + 2 * j), .int (nI 0), .int (nI 0), .int (nI 0), .int (nI 0)]) := fun j hj => by rw [← e18]; exact (va_up_ne _ _ (by omega)).trans (p8_4q0_17 j hj)
  have p8_5q0_18 : ∀ j, j < 24 → h18 (8 + 2 * j) = .inl (0, 3, .inl (fun _ => 0)) := fun j hj => by rw [← e18]; exact (va_up_ne _ _ (by omega)).trans (p8_5q0_17 j hj)
  have p11_0q0_18 : h18 55 = .inr (4, [.ref 3, .ref 56, .ref 60, .int (nI 0), .int (nI 0), .int (nI 0), .int (nI 0), .int (nI 0), .null, .int (nI 0)]) := by rw [← e18]; exact (va_up_ne _ _ (by omega)).trans p11_0q0_17
  have p11_1q0_18 : h18 56 = .inr (5, [.ref 57, .ref 58, .ref 59, .int (nI 0), .int (nI 0)]) := by rw [← e18]; exact (va_up_ne _ _ (by omega)).trans p11_1q0_17
  have p11_2q0_18 : h18 57 = .inl (0, 60, .inl (fun _ => 0)) := by rw [← e18]; exact (va_up_ne _ _ (by omega)).trans p11_2q0_17
  have p11_3q0_18 : h18 58 = .inl (0, 8, .inl (fun _ => 0)) := by rw [← e18]; exact (va_up_ne _ _ (by omega)).trans p11_3q0_17
  have p11_4q0_18 : h18 59 = .inl (0, 8, .inl (fun _ => 0)) := by rw [← e18]; exact (va_up_ne _ _ (by omega)).trans p11_4q0_17
  have p11_5q0_18 : h18 60 = .inl (4, 4, .inr (.inr (.inr (.inr fP4)))) := by rw [← e18]; exact (va_up_ne _ _ (by omega)).trans p11_5q0_17
  have p11_6q0_18 : ∀ j, j < 4 → h18 (61 + 2 * j) = .inr (6, [.ref (62 + 2 * j), .int (nI 0), .int (nI 0)]) := fun j hj => by rw [← e18]; exact (va_up_ne _ _ (by omega)).trans (p11_6q0_17 j hj)
  have p11_7q0_18 : ∀ j, j < 4 → h18 (62 + 2 * j) = .inl (0, 60, .inl (fun _ => 0)) := fun j hj => by rw [← e18]; exact (va_up_ne _ _ (by omega)).trans (p11_7q0_17 j hj)
  have p14_0q0_18 : h18 69 = .inr (7, [.ref 70, .ref 71, .int (nI 0)]) := by rw [← e18]; exact (va_up_ne _ _ (by omega)).trans p14_0q0_17
  have p14_1q0_18 : h18 70 = .inl (0, 71, .inl (fun _ => 0)) := by rw [← e18]; exact (va_up_ne _ _ (by omega)).trans p14_1q0_17
  have p14_2q0_18 : h18 71 = .inr (8, [.ref 72, .int (nI 5)]) := by rw [← e18]; exact (va_up_ne _ _ (by omega)).trans p14_2q0_17
  have p14_3q0_18 : h18 72 = .inl (0, 64, .inl (fun _ => 0)) := by rw [← e18]; exact (va_up_ne _ _ (by omega)).trans p14_3q0_17
  have p17_0q0_18 : h18 73 = .inr (9, [.ref 74, .ref 75, .int (nI 0)]) := by rw [← e18]; exact (va_up_ne _ _ (by omega)).trans p17_0
  have p17_1q0_18 : h18 74 = .inl (0, 32, .inl (fun _ => 0)) := by rw [← e18]; exact (va_up_ne _ _ (by omega)).trans p17_1
  have p17_2q0_18 : h18 75 = .inl (0, 2, .inl (fun _ => 0)) := by rw [← e18]; exact (va_up_ne _ _ (by omega)).trans p17_2
  have c0_18 : h18 0 = .inr (0, [.ref 1, .ref 2, .ref 3, .ref 55, .ref 69, .ref 73, .int 0]) := by rw [← e18]; exact va_up_self _ _ _
  refine J_aload_n C 0 d_Orb_init_74 rfl rfl ?_
  refine J_iconst C d_Orb_init_75 (v := nI 0) rfl ?_
  refine J_put C f_Orb_49 (by omega) c0_18 (Nat.le_of_ble_eq_true rfl) (fun _ => rfl) (fun _ => rfl) d_Orb_init_76 (kk := ?_)
  obtain ⟨h19, e19⟩ : ∃ x, va_up h18 0 (.inr (0, [.ref 1, .ref 2, .ref 3, .ref 55, .ref 69, .ref 73, .int (nI 0)])) = x := ⟨_, rfl⟩
  refine J_hh (h2 := h19) e19 ?_
  have l19 : LT h19 (76) := by rw [← e19]; exact l18.put _ (by intro v q; simp only [List.mem_cons, List.not_mem_nil, or_false] at q; rcases q with rfl | rfl | rfl | rfl | rfl | rfl | rfl; (exact okR (by omega)); (exact okR (by omega)); (exact okR (by omega)); (exact okR (by omega)); (exact okR (by omega)); (exact okR (by omega)); trivial)
  have p2_0q0_19 : h19 1 = .inr (1, [.int (nI 0), .int (nI 1), .int (nI 1)]) := by rw [← e19]; exact (va_up_ne _ _ (by omega)).trans p2_0q0_18
  have p5_0q0_19 : h19 2 = .inr (1, [.int (nI 0), .int (nI 1), .int (nI 1)]) := by rw [← e19]; exact (va_up_ne _ _ (by omega)).trans p5_0q0_18
  have p8_0q0_19 : h19 3 = .inr (2, [.ref 4, .ref 5, .ref 6, .int (nI 0), .int (nI 24), .int (nI 0), .int (nI 0), .int (nI 0), .int (nI 0), .int (nI 0)]) := by rw [← e19]; exact (va_up_ne _ _ (by omega)).trans p8_0q0_18
  have p8_1q0_19 : h19 4 = .inl (0, 480, .inl (fun _ => 0)) := by rw [← e19]; exact (va_up_ne _ _ (by omega)).trans p8_1q0_18
  have p8_2q0_19 : h19 5 = .inl (1, 24, .inl (fun _ => 0)) := by rw [← e19]; exact (va_up_ne _ _ (by omega)).trans p8_2q0_18
  have p8_3q0_19 : h19 6 = .inl (3, 24, .inr (.inr (.inr (.inr fP3)))) := by rw [← e19]; exact (va_up_ne _ _ (by omega)).trans p8_3q0_18
  have p8_4q0_19 : ∀ j, j < 24 → h19 (7 + 2 * j) = .inr (3, [.ref (8 + 2 * j), .int (nI 0), .int (nI 0), .int (nI 0), .int (nI 0)]) := fun j hj => by rw [← e19]; exact (va_up_ne _ _ (by omega)).trans (p8_4q0_18 j hj)
  have p8_5q0_19 : ∀ j, j < 24 → h19 (8 + 2 * j) = .inl (0, 3, .inl (fun _ => 0)) := fun j hj => by rw [← e19]; exact (va_up_ne _ _ (by omega)).trans (p8_5q0_18 j hj)
  have p11_0q0_19 : h19 55 = .inr (4, [.ref 3, .ref 56, .ref 60, .int (nI 0), .int (nI 0), .int (nI 0), .int (nI 0), .int (nI 0), .null, .int (nI 0)]) := by rw [← e19]; exact (va_up_ne _ _ (by omega)).trans p11_0q0_18
  have p11_1q0_19 : h19 56 = .inr (5, [.ref 57, .ref 58, .ref 59, .int (nI 0), .int (nI 0)]) := by rw [← e19]; exact (va_up_ne _ _ (by omega)).trans p11_1q0_18
  have p11_2q0_19 : h19 57 = .inl (0, 60, .inl (fun _ => 0)) := by rw [← e19]; exact (va_up_ne _ _ (by omega)).trans p11_2q0_18
  have p11_3q0_19 : h19 58 = .inl (0, 8, .inl (fun _ => 0)) := by rw [← e19]; exact (va_up_ne _ _ (by omega)).trans p11_3q0_18
  have p11_4q0_19 : h19 59 = .inl (0, 8, .inl (fun _ => 0)) := by rw [← e19]; exact (va_up_ne _ _ (by omega)).trans p11_4q0_18
  have p11_5q0_19 : h19 60 = .inl (4, 4, .inr (.inr (.inr (.inr fP4)))) := by rw [← e19]; exact (va_up_ne _ _ (by omega)).trans p11_5q0_18
  have p11_6q0_19 : ∀ j, j < 4 → h19 (61 + 2 * j) = .inr (6, [.ref (62 + 2 * j), .int (nI 0), .int (nI 0)]) := fun j hj => by rw [← e19]; exact (va_up_ne _ _ (by omega)).trans (p11_6q0_18 j hj)
  have p11_7q0_19 : ∀ j, j < 4 → h19 (62 + 2 * j) = .inl (0, 60, .inl (fun _ => 0)) := fun j hj => by rw [← e19]; exact (va_up_ne _ _ (by omega)).trans (p11_7q0_18 j hj)
  have p14_0q0_19 : h19 69 = .inr (7, [.ref 70, .ref 71, .int (nI 0)]) := by rw [← e19]; exact (va_up_ne _ _ (by omega)).trans p14_0q0_18
  have p14_1q0_19 : h19 70 = .inl (0, 71, .inl (fun _ => 0)) := by rw [← e19]; exact (va_up_ne _ _ (by omega)).trans p14_1q0_18
  have p14_2q0_19 : h19 71 = .inr (8, [.ref 72, .int (nI 5)]) := by rw [← e19]; exact (va_up_ne _ _ (by omega)).trans p14_2q0_18
  have p14_3q0_19 : h19 72 = .inl (0, 64, .inl (fun _ => 0)) := by rw [← e19]; exact (va_up_ne _ _ (by omega)).trans p14_3q0_18
  have p17_0q0_19 : h19 73 = .inr (9, [.ref 74, .ref 75, .int (nI 0)]) := by rw [← e19]; exact (va_up_ne _ _ (by omega)).trans p17_0q0_18
  have p17_1q0_19 : h19 74 = .inl (0, 32, .inl (fun _ => 0)) := by rw [← e19]; exact (va_up_ne _ _ (by omega)).trans p17_1q0_18
  have p17_2q0_19 : h19 75 = .inl (0, 2, .inl (fun _ => 0)) := by rw [← e19]; exact (va_up_ne _ _ (by omega)).trans p17_2q0_18
  have c0_19 : h19 0 = .inr (0, [.ref 1, .ref 2, .ref 3, .ref 55, .ref 69, .ref 73, .int (nI 0)]) := by rw [← e19]; exact va_up_self _ _ _
  refine J_widen (kc' := 75) (ks' := 1260) (by omega) (by omega) ?_
  exact J_return C hr (by omega) ⟨rfl, rfl, l19, fun k hk => absurd hk (Nat.not_lt_zero _), c0_19, p2_0q0_19, p5_0q0_19, p8_0q0_19, p8_1q0_19, p8_2q0_19, ⟨fP3, hfP3, p8_3q0_19⟩, p8_4q0_19, p8_5q0_19, p11_0q0_19, p11_1q0_19, p11_2q0_19, p11_3q0_19, p11_4q0_19, ⟨fP4, hfP4, p11_5q0_19⟩, p11_6q0_19, p11_7q0_19, p14_0q0_19, p14_1q0_19, p14_2q0_19, p14_3q0_19, p17_0q0_19, p17_1q0_19, p17_2q0_19⟩ d_Orb_init_79
