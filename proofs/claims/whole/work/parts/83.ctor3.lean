set_option maxHeartbeats 4000000 in
set_option maxRecDepth 100000 in
theorem c_Sto_init (l : Launch) (D : va_G) (dA : Nat → ClassId) (h : Nat → va_E) (hn : 4 + 51 ≤ 900) (ho : h 3 = .inr (2, [.null, .null, .null, .int 0, .int 0, .int 0, .int 0, .int 0, .int 0, .int 0])) (hLT : LT h 4) : CT l D dA k_Sto_init 2 51 720 4 [.ref 3] h (fun v h' n' => v = none ∧ n' = 4 + 51 ∧ LT h' n' ∧ (∀ k, k < 3 → h' k = h k) ∧ (h' 3 = .inr (2, [.ref 4, .ref 5, .ref 6, .int (nI 0), .int (nI 24), .int (nI 0), .int (nI 0), .int (nI 0), .int (nI 0), .int (nI 0)])) ∧ (h' 4 = .inl (0, 480, .inl (fun _ => 0))) ∧ (h' 5 = .inl (1, 24, .inl (fun _ => 0))) ∧ (∃ fP3 : Nat → Option Nat, (∀ j, j < 24 → fP3 j = some (7 + 2 * j)) ∧ h' 6 = .inl (3, 24, .inr (.inr (.inr (.inr fP3))))) ∧ (∀ j, j < 24 → h' (7 + 2 * j) = .inr (3, [.ref (8 + 2 * j), .int (nI 0), .int (nI 0), .int (nI 0), .int (nI 0)])) ∧ (∀ j, j < 24 → h' (8 + 2 * j) = .inl (0, 3, .inl (fun _ => 0)))) := by
  refine CT.of (by decide +kernel) (Nat.le_of_ble_eq_true rfl) (by intro v hv; simp only [List.mem_cons, List.not_mem_nil, or_false] at hv; rcases hv with rfl <;> rfl) ?_
  intro A ad0 p e s m args below meth c C hr hnm
  have hfr : ∀ k, k < 3 → h k = h k := fun _ _ => rfl
  have lp : ∀ (fu t : Nat) (hh : Nat → va_E) (f : Nat → Option Nat), 24 - t < fu → t ≤ 24 → LT hh (7 + 2 * t) → (∀ k, k < 3 → hh k = h k) → (∀ j, j < t → f j = some (7 + 2 * j)) → hh 3 = .inr (2, [.ref 4, .ref 5, .ref 6, .int (nI 0), .int (nI 24), .int (nI 0), .int (nI 0), .int (nI 0), .int (nI 0), .int (nI 0)]) → hh 6 = .inl (3, 24, .inr (.inr (.inr (.inr f)))) → (∀ j, j < t → hh (7 + 2 * j) = .inr (3, [.ref (8 + 2 * j), .int (nI 0), .int (nI 0), .int (nI 0), .int (nI 0)])) → (∀ j, j < t → hh (8 + 2 * j) = .inl (0, 3, .inl (fun _ => 0))) → hh 4 = .inl (0, 480, .inl (fun _ => 0)) → hh 5 = .inl (1, 24, .inl (fun _ => 0)) → J D dA A (fun _ _ => True) ad0 4 2 p l e (zR 2 51 720) s m args below meth c (MQ below (zQc D dA A ad0 4 (fun v h' n' => v = none ∧ n' = 4 + 51 ∧ LT h' n' ∧ (∀ k, k < 3 → h' k = h k) ∧ (h' 3 = .inr (2, [.ref 4, .ref 5, .ref 6, .int (nI 0), .int (nI 24), .int (nI 0), .int (nI 0), .int (nI 0), .int (nI 0), .int (nI 0)])) ∧ (h' 4 = .inl (0, 480, .inl (fun _ => 0))) ∧ (h' 5 = .inl (1, 24, .inl (fun _ => 0))) ∧ (∃ fP3 : Nat → Option Nat, (∀ j, j < 24 → fP3 j = some (7 + 2 * j)) ∧ h' 6 = .inl (3, 24, .inr (.inr (.inr (.inr fP3))))) ∧ (∀ j, j < 24 → h' (7 + 2 * j) = .inr (3, [.ref (8 + 2 * j), .int (nI 0), .int (nI 0), .int (nI 0), .int (nI 0)])) ∧ (∀ j, j < 24 → h' (8 + 2 * j) = .inl (0, 3, .inl (fun _ => 0))))) args s 51 720 A) 68 [some (.ref 3), some (.int (nI t))] [] hh (7 + 2 * t) (3 + 2 * t) (528 + 8 * t) := by
    intro fu
    induction fu with
    | zero => intro t hh f hfu; exact absurd hfu (Nat.not_lt_zero _)
    | succ fu ih =>
      intro t hh f hfu ht hL9 w1 hf w0 w2 w3 w4 w5 w6
      refine J_iload_n C 1 d_Sto_init_68 rfl rfl ?_
      refine J_bipush C d_Sto_init_69 (v := nI 24) rfl ?_
      refine J_icmpN_ge C 93 d_Sto_init_71 (by decide) (by omega) (by omega) (fun hc => ?_) (fun hc => ?_)
      · have ht24 : t = 24 := by omega
        subst ht24
        refine J_widen (kc' := 51) (ks' := 720) (by omega) (by omega) ?_
        exact J_return C hr (by omega) ⟨rfl, rfl, hL9, w1, w0, w5, w6, ⟨f, hf, w2⟩, w3, w4⟩ d_Sto_init_93
      · refine J_aload_n C 0 d_Sto_init_74 rfl rfl ?_
        refine J_get C f_Sto_19 (by omega) w0 rfl d_Sto_init_75 ?_
        refine J_iload_n C 1 d_Sto_init_78 rfl rfl ?_
        refine J_new C (ci := 3) (fs := [.null, .int 0, .int 0, .int 0, .int 0]) in_tb.2.2.2.1 ty_Pkt tk_Pkt (tb_in 105 (by decide +kernel) (by decide +kernel)) (tb_in 107 (by decide +kernel) (by decide +kernel)) (tb_in 48 (by decide +kernel) (by decide +kernel)) rfl (by intro j hj; match j, hj with | 0, _ => rfl | 1, _ => rfl | 2, _ => rfl | 3, _ => rfl | 4, _ => rfl | _ + 5, hj => exact absurd hj (by omega)) (fun _ => rfl) hL9 (by omega) (by omega) (by intro i v q; match i, q with | 0, q => obtain rfl := Option.some.inj (Option.some.inj q); exact okR (by omega) | 1, q => obtain rfl := Option.some.inj (Option.some.inj q); trivial | _ + 2, q => exact absurd (show (none : Option (Option Value)) = some (some v) from q) (by simp)) (by intro v q; simp only [List.mem_cons, List.not_mem_nil, or_false] at q; rcases q with rfl | rfl; trivial; (exact okR (by omega))) (hcz _ _ _ _ _ (by omega) (by omega)) d_Sto_init_79 (kk := ?_)
        obtain ⟨bh1, be1⟩ : ∃ x, va_up hh (7 + 2 * t) (.inr (3, [.null, .int 0, .int 0, .int 0, .int 0])) = x := ⟨_, rfl⟩
        refine J_hh (h2 := bh1) be1 ?_
        have bl1 : LT bh1 (7 + 2 * t + 1) := by rw [← be1]; exact hL9.add (by intro v q; simp only [List.mem_cons, List.not_mem_nil, or_false] at q; rcases q with rfl | rfl | rfl | rfl | rfl <;> trivial)
        have bo_1 : bh1 3 = .inr (2, [.ref 4, .ref 5, .ref 6, .int (nI 0), .int (nI 24), .int (nI 0), .int (nI 0), .int (nI 0), .int (nI 0), .int (nI 0)]) := by rw [← be1]; exact (va_up_ne _ _ (by omega)).trans w0
        have bfr_1 : ∀ k, k < 3 → bh1 k = h k := fun k hk => by rw [← be1]; exact (va_up_ne _ _ (by omega)).trans (w1 k hk)
        have ba_1 : bh1 6 = .inl (3, 24, .inr (.inr (.inr (.inr f)))) := by rw [← be1]; exact (va_up_ne _ _ (by omega)).trans w2
        have bx_1 : ∀ j, j < t → bh1 (7 + 2 * j) = .inr (3, [.ref (8 + 2 * j), .int (nI 0), .int (nI 0), .int (nI 0), .int (nI 0)]) := fun j hj => by rw [← be1]; exact (va_up_ne _ _ (by omega)).trans (w3 j hj)
        have by_1 : ∀ j, j < t → bh1 (8 + 2 * j) = .inl (0, 3, .inl (fun _ => 0)) := fun j hj => by rw [← be1]; exact (va_up_ne _ _ (by omega)).trans (w4 j hj)
        have bf0_1 : bh1 4 = .inl (0, 480, .inl (fun _ => 0)) := by rw [← be1]; exact (va_up_ne _ _ (by omega)).trans w5
        have bf1_1 : bh1 5 = .inl (1, 24, .inl (fun _ => 0)) := by rw [← be1]; exact (va_up_ne _ _ (by omega)).trans w6
        have bc7_2_t_1 : bh1 (7 + 2 * t) = .inr (3, [.null, .int 0, .int 0, .int 0, .int 0]) := by rw [← be1]; exact va_up_self _ _ _
        refine J_dup C d_Sto_init_82 rfl ?_
        refine J_callI C (as := []) (st := [.ref (7 + 2 * t), .int (nI t), .ref 6]) (c_Pkt_init l D dA bh1 (7 + 2 * t)  (by omega) bc7_2_t_1 bl1) l_Sto_46 ⟨rfl, (tb_in 109 (by decide +kernel) (by decide +kernel)), rfl⟩ rfl (by omega) (by omega) (by decide) (hcz _ _ _ _ _ (by omega) (by omega)) (Nat.le_of_ble_eq_true rfl) (fun v h1 n1 q => ⟨q.1, by have := q.2.1; omega⟩) (by intro i v q; match i, q with | 0, q => obtain rfl := Option.some.inj (Option.some.inj q); exact okR (by omega) | 1, q => obtain rfl := Option.some.inj (Option.some.inj q); trivial | _ + 2, q => exact absurd (show (none : Option (Option Value)) = some (some v) from q) (by simp)) (by intro v q; simp only [List.mem_cons, List.not_mem_nil, or_false] at q; rcases q with rfl | rfl | rfl; (exact okR (by omega)); trivial; (exact okR (by omega))) d_Sto_init_83 (kk := ?_)
        intro bh2 n1 q _
        obtain ⟨-, rfl, bl2, bf2, bp2_0, bp2_1⟩ := q
        have bo_2 : bh2 3 = .inr (2, [.ref 4, .ref 5, .ref 6, .int (nI 0), .int (nI 24), .int (nI 0), .int (nI 0), .int (nI 0), .int (nI 0), .int (nI 0)]) := (bf2 _ (by omega)).trans bo_1
        have bfr_2 : ∀ k, k < 3 → bh2 k = h k := fun k hk => (bf2 _ (by omega)).trans (bfr_1 k hk)
        have ba_2 : bh2 6 = .inl (3, 24, .inr (.inr (.inr (.inr f)))) := (bf2 _ (by omega)).trans ba_1
        have bx_2 : ∀ j, j < t → bh2 (7 + 2 * j) = .inr (3, [.ref (8 + 2 * j), .int (nI 0), .int (nI 0), .int (nI 0), .int (nI 0)]) := fun j hj => (bf2 _ (by omega)).trans (bx_1 j hj)
        have by_2 : ∀ j, j < t → bh2 (8 + 2 * j) = .inl (0, 3, .inl (fun _ => 0)) := fun j hj => (bf2 _ (by omega)).trans (by_1 j hj)
        have bf0_2 : bh2 4 = .inl (0, 480, .inl (fun _ => 0)) := (bf2 _ (by omega)).trans bf0_1
        have bf1_2 : bh2 5 = .inl (1, 24, .inl (fun _ => 0)) := (bf2 _ (by omega)).trans bf1_1
        refine J_aastore C (Or.inl ⟨rfl, rfl⟩) (by omega) ba_2 (by omega) bp2_0 (vp_in_nI (by omega) (by decide)) d_Sto_init_86 (kk := ?_)
        refine J_hh (h2 := va_up bh2 6 (.inl (3, 24, .inr (.inr (.inr (.inr (va_up f t (some (7 + 2 * t))))))))) (by rw [nI_clamp (by omega)]) ?_
        have ltf : ∀ j k, f j = some k → k < 7 + 2 * t + 1 + 1 := by have q := bl2 6 (by omega); rw [ba_2] at q; exact q
        obtain ⟨bh3, be3⟩ : ∃ x, va_up bh2 6 (.inl (3, 24, .inr (.inr (.inr (.inr (va_up f t (some (7 + 2 * t)))))))) = x := ⟨_, rfl⟩
        refine J_hh (h2 := bh3) be3 ?_
        have bl3 : LT bh3 (7 + 2 * t + 1 + 1) := by rw [← be3]; exact bl2.put _ (fun j k q => by by_cases z : j = t; (subst z; rw [va_up_self] at q; have := Option.some.inj q; omega); (rw [va_up_ne _ _ z] at q; exact ltf j k q))
        have bo_3 : bh3 3 = .inr (2, [.ref 4, .ref 5, .ref 6, .int (nI 0), .int (nI 24), .int (nI 0), .int (nI 0), .int (nI 0), .int (nI 0), .int (nI 0)]) := by rw [← be3]; exact (va_up_ne _ _ (by omega)).trans bo_2
        have bfr_3 : ∀ k, k < 3 → bh3 k = h k := fun k hk => by rw [← be3]; exact (va_up_ne _ _ (by omega)).trans (bfr_2 k hk)
        have bx_3 : ∀ j, j < t → bh3 (7 + 2 * j) = .inr (3, [.ref (8 + 2 * j), .int (nI 0), .int (nI 0), .int (nI 0), .int (nI 0)]) := fun j hj => by rw [← be3]; exact (va_up_ne _ _ (by omega)).trans (bx_2 j hj)
        have by_3 : ∀ j, j < t → bh3 (8 + 2 * j) = .inl (0, 3, .inl (fun _ => 0)) := fun j hj => by rw [← be3]; exact (va_up_ne _ _ (by omega)).trans (by_2 j hj)
        have bf0_3 : bh3 4 = .inl (0, 480, .inl (fun _ => 0)) := by rw [← be3]; exact (va_up_ne _ _ (by omega)).trans bf0_2
        have bf1_3 : bh3 5 = .inl (1, 24, .inl (fun _ => 0)) := by rw [← be3]; exact (va_up_ne _ _ (by omega)).trans bf1_2
        have bp2_0q0_3 : bh3 (7 + 2 * t) = .inr (3, [.ref (7 + 2 * t + 1), .int (nI 0), .int (nI 0), .int (nI 0), .int (nI 0)]) := by rw [← be3]; exact (va_up_ne _ _ (by omega)).trans bp2_0
        have bp2_1q0_3 : bh3 (7 + 2 * t + 1) = .inl (0, 3, .inl (fun _ => 0)) := by rw [← be3]; exact (va_up_ne _ _ (by omega)).trans bp2_1
        have bc6_3 : bh3 6 = .inl (3, 24, .inr (.inr (.inr (.inr (va_up f t (some (7 + 2 * t))))))) := by rw [← be3]; exact va_up_self _ _ _
        refine J_iinc C d_Sto_init_87 rfl (v := nI (t + 1)) (nI_1 _) (by decide) rfl ?_
        refine J_goto C 68 d_Sto_init_90 (by decide) ?_
        refine J_nn (n2 := 7 + 2 * (t + 1)) (by omega) ?_
        refine J_widen (kc' := 3 + 2 * (t + 1)) (ks' := 528 + 8 * (t + 1)) (by omega) (by omega) ?_
        have x3 : ∀ j, j < t + 1 → bh3 (7 + 2 * j) = .inr (3, [.ref (8 + 2 * j), .int (nI 0), .int (nI 0), .int (nI 0), .int (nI 0)]) := fun j hj => by
          by_cases z : j = t
          · subst z; rw [show 8 + 2 * j = 7 + 2 * j + 1 by omega]; exact bp2_0q0_3
          · exact bx_3 j (by omega)
        have x4 : ∀ j, j < t + 1 → bh3 (8 + 2 * j) = .inl (0, 3, .inl (fun _ => 0)) := fun j hj => by
          by_cases z : j = t
          · subst z; rw [show 8 + 2 * j = 7 + 2 * j + 1 by omega]; exact bp2_1q0_3
          · exact by_3 j (by omega)
        have xf : ∀ j, j < t + 1 → va_up f t (some (7 + 2 * t)) j = some (7 + 2 * j) := fun j hj => by
          by_cases z : j = t
          · subst z; exact va_up_self _ _ _
          · exact (va_up_ne _ _ z).trans (hf j (by omega))
        exact ih (t + 1) bh3 _ (by omega) (by omega) (by rw [show 7 + 2 * (t + 1) = 7 + 2 * t + 1 + 1 by omega]; exact bl3) bfr_3 xf bo_3 bc6_3 x3 x4 bf0_3 bf1_3
  refine J_aload_n C 0 d_Sto_init_0 rfl rfl ?_
  refine J_objInit C (tb_in 104 (by decide +kernel) (by decide +kernel)) (tb_in 81 (by decide +kernel) (by decide +kernel)) (tb_in 82 (by decide +kernel) (by decide +kernel)) (Nat.le_of_ble_eq_true rfl) d_Sto_init_1 ?_
  refine J_aload_n C 0 d_Sto_init_4 rfl rfl ?_
  refine J_sipush C d_Sto_init_5 (v := nI 480) rfl ?_
  refine J_newa C (t := 0) (N := 480) (ty := .int) rfl (tb_in 144 (by decide +kernel) (by decide +kernel)) (fun _ => (dA_of C.2.2.2.2.2.1).1) (f := .inl (fun _ => 0)) (fun _ => rfl) (fun _ => rfl) rfl (by decide) (by decide) hLT (by omega) (by omega) (by intro i v q; match i, q with | 0, q => obtain rfl := Option.some.inj (Option.some.inj q); exact okR (by omega) | 1, q => exact absurd (show (some none : Option (Option Value)) = some (some v) from q) (by simp) | _ + 2, q => exact absurd (show (none : Option (Option Value)) = some (some v) from q) (by simp)) (by intro v q; simp only [List.mem_cons, List.not_mem_nil, or_false] at q; rcases q with rfl; (exact okR (by omega))) (hcz _ _ _ _ _ (by omega) (by omega)) d_Sto_init_8 (kk := ?_)
  obtain ⟨h1, e1⟩ : ∃ x, va_up h 4 (.inl (0, 480, .inl (fun _ => 0))) = x := ⟨_, rfl⟩
  refine J_hh (h2 := h1) e1 ?_
  have l1 : LT h1 (4 + 1) := by rw [← e1]; exact hLT.add trivial
  have co_1 : h1 3 = .inr (2, [.null, .null, .null, .int 0, .int 0, .int 0, .int 0, .int 0, .int 0, .int 0]) := by rw [← e1]; exact (va_up_ne _ _ (by omega)).trans ho
  have fr_1 : ∀ k, k < 3 → h1 k = h k := fun k hk => by rw [← e1]; exact (va_up_ne _ _ (by omega)).trans (hfr k hk)
  have c4_1 : h1 4 = .inl (0, 480, .inl (fun _ => 0)) := by rw [← e1]; exact va_up_self _ _ _
  refine J_putC C (k := 0) ci_Sto rfl (by decide) rfl rfl rfl (tb_in 146 (by decide +kernel) (by decide +kernel)) hnm (by omega) co_1 (Nat.le_of_ble_eq_true rfl) (fun _ => rfl) (fun _ => rfl) d_Sto_init_10 (kk := ?_)
  obtain ⟨h2, e2⟩ : ∃ x, va_up h1 3 (.inr (2, [.ref 4, .null, .null, .int 0, .int 0, .int 0, .int 0, .int 0, .int 0, .int 0])) = x := ⟨_, rfl⟩
  refine J_hh (h2 := h2) e2 ?_
  have l2 : LT h2 (5) := by rw [← e2]; exact l1.put _ (by intro v q; simp only [List.mem_cons, List.not_mem_nil, or_false] at q; rcases q with rfl | rfl | rfl | rfl | rfl | rfl | rfl | rfl | rfl | rfl; (exact okR (by omega)); trivial; trivial; trivial; trivial; trivial; trivial; trivial; trivial; trivial)
  have fr_2 : ∀ k, k < 3 → h2 k = h k := fun k hk => by rw [← e2]; exact (va_up_ne _ _ (by omega)).trans (fr_1 k hk)
  have c4_2 : h2 4 = .inl (0, 480, .inl (fun _ => 0)) := by rw [← e2]; exact (va_up_ne _ _ (by omega)).trans c4_1
  have c3_2 : h2 3 = .inr (2, [.ref 4, .null, .null, .int 0, .int 0, .int 0, .int 0, .int 0, .int 0, .int 0]) := by rw [← e2]; exact va_up_self _ _ _
  refine J_aload_n C 0 d_Sto_init_13 rfl rfl ?_
  refine J_bipush C d_Sto_init_14 (v := nI 24) rfl ?_
  refine J_newa C (t := 1) (N := 24) (ty := .boolean) rfl (tb_in 145 (by decide +kernel) (by decide +kernel)) (fun _ => (dA_of C.2.2.2.2.2.1).2.1) (f := .inl (fun _ => 0)) (fun _ => rfl) (fun _ => rfl) rfl (by decide) (by decide) l2 (by omega) (by omega) (by intro i v q; match i, q with | 0, q => obtain rfl := Option.some.inj (Option.some.inj q); exact okR (by omega) | 1, q => exact absurd (show (some none : Option (Option Value)) = some (some v) from q) (by simp) | _ + 2, q => exact absurd (show (none : Option (Option Value)) = some (some v) from q) (by simp)) (by intro v q; simp only [List.mem_cons, List.not_mem_nil, or_false] at q; rcases q with rfl; (exact okR (by omega))) (hcz _ _ _ _ _ (by omega) (by omega)) d_Sto_init_16 (kk := ?_)
  obtain ⟨h3, e3⟩ : ∃ x, va_up h2 5 (.inl (1, 24, .inl (fun _ => 0))) = x := ⟨_, rfl⟩
  refine J_hh (h2 := h3) e3 ?_
  have l3 : LT h3 (5 + 1) := by rw [← e3]; exact l2.add trivial
  have fr_3 : ∀ k, k < 3 → h3 k = h k := fun k hk => by rw [← e3]; exact (va_up_ne _ _ (by omega)).trans (fr_2 k hk)
  have c4_3 : h3 4 = .inl (0, 480, .inl (fun _ => 0)) := by rw [← e3]; exact (va_up_ne _ _ (by omega)).trans c4_2
  have c3_3 : h3 3 = .inr (2, [.ref 4, .null, .null, .int 0, .int 0, .int 0, .int 0, .int 0, .int 0, .int 0]) := by rw [← e3]; exact (va_up_ne _ _ (by omega)).trans c3_2
  have c5_3 : h3 5 = .inl (1, 24, .inl (fun _ => 0)) := by rw [← e3]; exact va_up_self _ _ _
  refine J_putC C (k := 1) ci_Sto rfl (by decide) rfl rfl rfl (tb_in 147 (by decide +kernel) (by decide +kernel)) hnm (by omega) c3_3 (Nat.le_of_ble_eq_true rfl) (fun _ => rfl) (fun _ => rfl) d_Sto_init_18 (kk := ?_)
  obtain ⟨h4, e4⟩ : ∃ x, va_up h3 3 (.inr (2, [.ref 4, .ref 5, .null, .int 0, .int 0, .int 0, .int 0, .int 0, .int 0, .int 0])) = x := ⟨_, rfl⟩
  refine J_hh (h2 := h4) e4 ?_
  have l4 : LT h4 (6) := by rw [← e4]; exact l3.put _ (by intro v q; simp only [List.mem_cons, List.not_mem_nil, or_false] at q; rcases q with rfl | rfl | rfl | rfl | rfl | rfl | rfl | rfl | rfl | rfl; (exact okR (by omega)); (exact okR (by omega)); trivial; trivial; trivial; trivial; trivial; trivial; trivial; trivial)
  have fr_4 : ∀ k, k < 3 → h4 k = h k := fun k hk => by rw [← e4]; exact (va_up_ne _ _ (by omega)).trans (fr_3 k hk)
  have c4_4 : h4 4 = .inl (0, 480, .inl (fun _ => 0)) := by rw [← e4]; exact (va_up_ne _ _ (by omega)).trans c4_3
  have c5_4 : h4 5 = .inl (1, 24, .inl (fun _ => 0)) := by rw [← e4]; exact (va_up_ne _ _ (by omega)).trans c5_3
  have c3_4 : h4 3 = .inr (2, [.ref 4, .ref 5, .null, .int 0, .int 0, .int 0, .int 0, .int 0, .int 0, .int 0]) := by rw [← e4]; exact va_up_self _ _ _
  refine J_aload_n C 0 d_Sto_init_21 rfl rfl ?_
  refine J_bipush C d_Sto_init_22 (v := nI 24) rfl ?_
  refine J_newq C (t := 3) (N := 24) (tb_in 105 (by decide +kernel) (by decide +kernel)) (tb_in 106 (by decide +kernel) (by decide +kernel)) (fun _ => (dA_of C.2.2.2.2.2.1).2.2.2.1) rfl (by decide) l4 (by omega) (by omega) (by intro i v q; match i, q with | 0, q => obtain rfl := Option.some.inj (Option.some.inj q); exact okR (by omega) | 1, q => exact absurd (show (some none : Option (Option Value)) = some (some v) from q) (by simp) | _ + 2, q => exact absurd (show (none : Option (Option Value)) = some (some v) from q) (by simp)) (by intro v q; simp only [List.mem_cons, List.not_mem_nil, or_false] at q; rcases q with rfl; (exact okR (by omega))) (hcz _ _ _ _ _ (by omega) (by omega)) d_Sto_init_24 (kk := ?_)
  obtain ⟨h5, e5⟩ : ∃ x, va_up h4 6 (.inl (3, 24, .inr (.inr (.inr (.inr (fun _ => none)))))) = x := ⟨_, rfl⟩
  refine J_hh (h2 := h5) e5 ?_
  have l5 : LT h5 (6 + 1) := by rw [← e5]; exact l4.add (fun _ _ q => by cases q)
  have fr_5 : ∀ k, k < 3 → h5 k = h k := fun k hk => by rw [← e5]; exact (va_up_ne _ _ (by omega)).trans (fr_4 k hk)
  have c4_5 : h5 4 = .inl (0, 480, .inl (fun _ => 0)) := by rw [← e5]; exact (va_up_ne _ _ (by omega)).trans c4_4
  have c5_5 : h5 5 = .inl (1, 24, .inl (fun _ => 0)) := by rw [← e5]; exact (va_up_ne _ _ (by omega)).trans c5_4
  have c3_5 : h5 3 = .inr (2, [.ref 4, .ref 5, .null, .int 0, .int 0, .int 0, .int 0, .int 0, .int 0, .int 0]) := by rw [← e5]; exact (va_up_ne _ _ (by omega)).trans c3_4
  have c6_5 : h5 6 = .inl (3, 24, .inr (.inr (.inr (.inr (fun _ => none))))) := by rw [← e5]; exact va_up_self _ _ _
  refine J_putC C (k := 2) ci_Sto rfl (by decide) rfl rfl rfl (tb_in 148 (by decide +kernel) (by decide +kernel)) hnm (by omega) c3_5 (Nat.le_of_ble_eq_true rfl) (fun _ => rfl) (fun _ => rfl) d_Sto_init_27 (kk := ?_)
  obtain ⟨h6, e6⟩ : ∃ x, va_up h5 3 (.inr (2, [.ref 4, .ref 5, .ref 6, .int 0, .int 0, .int 0, .int 0, .int 0, .int 0, .int 0])) = x := ⟨_, rfl⟩
  refine J_hh (h2 := h6) e6 ?_
  have l6 : LT h6 (7) := by rw [← e6]; exact l5.put _ (by intro v q; simp only [List.mem_cons, List.not_mem_nil, or_false] at q; rcases q with rfl | rfl | rfl | rfl | rfl | rfl | rfl | rfl | rfl | rfl; (exact okR (by omega)); (exact okR (by omega)); (exact okR (by omega)); trivial; trivial; trivial; trivial; trivial; trivial; trivial)
  have fr_6 : ∀ k, k < 3 → h6 k = h k := fun k hk => by rw [← e6]; exact (va_up_ne _ _ (by omega)).trans (fr_5 k hk)
  have c4_6 : h6 4 = .inl (0, 480, .inl (fun _ => 0)) := by rw [← e6]; exact (va_up_ne _ _ (by omega)).trans c4_5
  have c5_6 : h6 5 = .inl (1, 24, .inl (fun _ => 0)) := by rw [← e6]; exact (va_up_ne _ _ (by omega)).trans c5_5
  have c6_6 : h6 6 = .inl (3, 24, .inr (.inr (.inr (.inr (fun _ => none))))) := by rw [← e6]; exact (va_up_ne _ _ (by omega)).trans c6_5
  have c3_6 : h6 3 = .inr (2, [.ref 4, .ref 5, .ref 6, .int 0, .int 0, .int 0, .int 0, .int 0, .int 0, .int 0]) := by rw [← e6]; exact va_up_self _ _ _
  refine J_aload_n C 0 d_Sto_init_30 rfl rfl ?_
  refine J_iconst C d_Sto_init_31 (v := nI 0) rfl ?_
  refine J_put C f_Sto_23 (by omega) c3_6 (Nat.le_of_ble_eq_true rfl) (fun _ => rfl) (fun _ => rfl) d_Sto_init_32 (kk := ?_)
  obtain ⟨h7, e7⟩ : ∃ x, va_up h6 3 (.inr (2, [.ref 4, .ref 5, .ref 6, .int (nI 0), .int 0, .int 0, .int 0, .int 0, .int 0, .int 0])) = x := ⟨_, rfl⟩
  refine J_hh (h2 := h7) e7 ?_
  have l7 : LT h7 (7) := by rw [← e7]; exact l6.put _ (by intro v q; simp only [List.mem_cons, List.not_mem_nil, or_false] at q; rcases q with rfl | rfl | rfl | rfl | rfl | rfl | rfl | rfl | rfl | rfl; (exact okR (by omega)); (exact okR (by omega)); (exact okR (by omega)); trivial; trivial; trivial; trivial; trivial; trivial; trivial)
  have fr_7 : ∀ k, k < 3 → h7 k = h k := fun k hk => by rw [← e7]; exact (va_up_ne _ _ (by omega)).trans (fr_6 k hk)
  have c4_7 : h7 4 = .inl (0, 480, .inl (fun _ => 0)) := by rw [← e7]; exact (va_up_ne _ _ (by omega)).trans c4_6
  have c5_7 : h7 5 = .inl (1, 24, .inl (fun _ => 0)) := by rw [← e7]; exact (va_up_ne _ _ (by omega)).trans c5_6
  have c6_7 : h7 6 = .inl (3, 24, .inr (.inr (.inr (.inr (fun _ => none))))) := by rw [← e7]; exact (va_up_ne _ _ (by omega)).trans c6_6
  have c3_7 : h7 3 = .inr (2, [.ref 4, .ref 5, .ref 6, .int (nI 0), .int 0, .int 0, .int 0, .int 0, .int 0, .int 0]) := by rw [← e7]; exact va_up_self _ _ _
  refine J_aload_n C 0 d_Sto_init_35 rfl rfl ?_
  refine J_bipush C d_Sto_init_36 (v := nI 24) rfl ?_
  refine J_put C f_Sto_27 (by omega) c3_7 (Nat.le_of_ble_eq_true rfl) (fun _ => rfl) (fun _ => rfl) d_Sto_init_38 (kk := ?_)
  obtain ⟨h8, e8⟩ : ∃ x, va_up h7 3 (.inr (2, [.ref 4, .ref 5, .ref 6, .int (nI 0), .int (nI 24), .int 0, .int 0, .int 0, .int 0, .int 0])) = x := ⟨_, rfl⟩
  refine J_hh (h2 := h8) e8 ?_
  have l8 : LT h8 (7) := by rw [← e8]; exact l7.put _ (by intro v q; simp only [List.mem_cons, List.not_mem_nil, or_false] at q; rcases q with rfl | rfl | rfl | rfl | rfl | rfl | rfl | rfl | rfl | rfl; (exact okR (by omega)); (exact okR (by omega)); (exact okR (by omega)); trivial; trivial; trivial; trivial; trivial; trivial; trivial)
  have fr_8 : ∀ k, k < 3 → h8 k = h k := fun k hk => by rw [← e8]; exact (va_up_ne _ _ (by omega)).trans (fr_7 k hk)
  have c4_8 : h8 4 = .inl (0, 480, .inl (fun _ => 0)) := by rw [← e8]; exact (va_up_ne _ _ (by omega)).trans c4_7
  have c5_8 : h8 5 = .inl (1, 24, .inl (fun _ => 0)) := by rw [← e8]; exact (va_up_ne _ _ (by omega)).trans c5_7
  have c6_8 : h8 6 = .inl (3, 24, .inr (.inr (.inr (.inr (fun _ => none))))) := by rw [← e8]; exact (va_up_ne _ _ (by omega)).trans c6_7
  have c3_8 : h8 3 = .inr (2, [.ref 4, .ref 5, .ref 6, .int (nI 0), .int (nI 24), .int 0, .int 0, .int 0, .int 0, .int 0]) := by rw [← e8]; exact va_up_self _ _ _
  refine J_aload_n C 0 d_Sto_init_41 rfl rfl ?_
  refine J_iconst C d_Sto_init_42 (v := nI 0) rfl ?_
  refine J_put C f_Sto_30 (by omega) c3_8 (Nat.le_of_ble_eq_true rfl) (fun _ => rfl) (fun _ => rfl) d_Sto_init_43 (kk := ?_)
  obtain ⟨h9, e9⟩ : ∃ x, va_up h8 3 (.inr (2, [.ref 4, .ref 5, .ref 6, .int (nI 0), .int (nI 24), .int (nI 0), .int 0, .int 0, .int 0, .int 0])) = x := ⟨_, rfl⟩
  refine J_hh (h2 := h9) e9 ?_
  have l9 : LT h9 (7) := by rw [← e9]; exact l8.put _ (by intro v q; simp only [List.mem_cons, List.not_mem_nil, or_false] at q; rcases q with rfl | rfl | rfl | rfl | rfl | rfl | rfl | rfl | rfl | rfl; (exact okR (by omega)); (exact okR (by omega)); (exact okR (by omega)); trivial; trivial; trivial; trivial; trivial; trivial; trivial)
  have fr_9 : ∀ k, k < 3 → h9 k = h k := fun k hk => by rw [← e9]; exact (va_up_ne _ _ (by omega)).trans (fr_8 k hk)
  have c4_9 : h9 4 = .inl (0, 480, .inl (fun _ => 0)) := by rw [← e9]; exact (va_up_ne _ _ (by omega)).trans c4_8
  have c5_9 : h9 5 = .inl (1, 24, .inl (fun _ => 0)) := by rw [← e9]; exact (va_up_ne _ _ (by omega)).trans c5_8
  have c6_9 : h9 6 = .inl (3, 24, .inr (.inr (.inr (.inr (fun _ => none))))) := by rw [← e9]; exact (va_up_ne _ _ (by omega)).trans c6_8
  have c3_9 : h9 3 = .inr (2, [.ref 4, .ref 5, .ref 6, .int (nI 0), .int (nI 24), .int (nI 0), .int 0, .int 0, .int 0, .int 0]) := by rw [← e9]; exact va_up_self _ _ _
  refine J_aload_n C 0 d_Sto_init_46 rfl rfl ?_
  refine J_iconst C d_Sto_init_47 (v := nI 0) rfl ?_
  refine J_put C f_Sto_33 (by omega) c3_9 (Nat.le_of_ble_eq_true rfl) (fun _ => rfl) (fun _ => rfl) d_Sto_init_48 (kk := ?_)
  obtain ⟨h10, e10⟩ : ∃ x, va_up h9 3 (.inr (2, [.ref 4, .ref 5, .ref 6, .int (nI 0), .int (nI 24), .int (nI 0), .int (nI 0), .int 0, .int 0, .int 0])) = x := ⟨_, rfl⟩
  refine J_hh (h2 := h10) e10 ?_
  have l10 : LT h10 (7) := by rw [← e10]; exact l9.put _ (by intro v q; simp only [List.mem_cons, List.not_mem_nil, or_false] at q; rcases q with rfl | rfl | rfl | rfl | rfl | rfl | rfl | rfl | rfl | rfl; (exact okR (by omega)); (exact okR (by omega)); (exact okR (by omega)); trivial; trivial; trivial; trivial; trivial; trivial; trivial)
  have fr_10 : ∀ k, k < 3 → h10 k = h k := fun k hk => by rw [← e10]; exact (va_up_ne _ _ (by omega)).trans (fr_9 k hk)
  have c4_10 : h10 4 = .inl (0, 480, .inl (fun _ => 0)) := by rw [← e10]; exact (va_up_ne _ _ (by omega)).trans c4_9
  have c5_10 : h10 5 = .inl (1, 24, .inl (fun _ => 0)) := by rw [← e10]; exact (va_up_ne _ _ (by omega)).trans c5_9
  have c6_10 : h10 6 = .inl (3, 24, .inr (.inr (.inr (.inr (fun _ => none))))) := by rw [← e10]; exact (va_up_ne _ _ (by omega)).trans c6_9
  have c3_10 : h10 3 = .inr (2, [.ref 4, .ref 5, .ref 6, .int (nI 0), .int (nI 24), .int (nI 0), .int (nI 0), .int 0, .int 0, .int 0]) := by rw [← e10]; exact va_up_self _ _ _
  refine J_aload_n C 0 d_Sto_init_51 rfl rfl ?_
  refine J_iconst C d_Sto_init_52 (v := nI 0) rfl ?_
  refine J_put C f_Sto_36 (by omega) c3_10 (Nat.le_of_ble_eq_true rfl) (fun _ => rfl) (fun _ => rfl) d_Sto_init_53 (kk := ?_)
  obtain ⟨h11, e11⟩ : ∃ x, va_up h10 3 (.inr (2, [.ref 4, .ref 5, .ref 6, .int (nI 0), .int (nI 24), .int (nI 0), .int (nI 0), .int (nI 0), .int 0, .int 0])) = x := ⟨_, rfl⟩
  refine J_hh (h2 := h11) e11 ?_
  have l11 : LT h11 (7) := by rw [← e11]; exact l10.put _ (by intro v q; simp only [List.mem_cons, List.not_mem_nil, or_false] at q; rcases q with rfl | rfl | rfl | rfl | rfl | rfl | rfl | rfl | rfl | rfl; (exact okR (by omega)); (exact okR (by omega)); (exact okR (by omega)); trivial; trivial; trivial; trivial; trivial; trivial; trivial)
  have fr_11 : ∀ k, k < 3 → h11 k = h k := fun k hk => by rw [← e11]; exact (va_up_ne _ _ (by omega)).trans (fr_10 k hk)
  have c4_11 : h11 4 = .inl (0, 480, .inl (fun _ => 0)) := by rw [← e11]; exact (va_up_ne _ _ (by omega)).trans c4_10
  have c5_11 : h11 5 = .inl (1, 24, .inl (fun _ => 0)) := by rw [← e11]; exact (va_up_ne _ _ (by omega)).trans c5_10
  have c6_11 : h11 6 = .inl (3, 24, .inr (.inr (.inr (.inr (fun _ => none))))) := by rw [← e11]; exact (va_up_ne _ _ (by omega)).trans c6_10
  have c3_11 : h11 3 = .inr (2, [.ref 4, .ref 5, .ref 6, .int (nI 0), .int (nI 24), .int (nI 0), .int (nI 0), .int (nI 0), .int 0, .int 0]) := by rw [← e11]; exact va_up_self _ _ _
  refine J_aload_n C 0 d_Sto_init_56 rfl rfl ?_
  refine J_iconst C d_Sto_init_57 (v := nI 0) rfl ?_
  refine J_put C f_Sto_39 (by omega) c3_11 (Nat.le_of_ble_eq_true rfl) (fun _ => rfl) (fun _ => rfl) d_Sto_init_58 (kk := ?_)
  obtain ⟨h12, e12⟩ : ∃ x, va_up h11 3 (.inr (2, [.ref 4, .ref 5, .ref 6, .int (nI 0), .int (nI 24), .int (nI 0), .int (nI 0), .int (nI 0), .int (nI 0), .int 0])) = x := ⟨_, rfl⟩
  refine J_hh (h2 := h12) e12 ?_
  have l12 : LT h12 (7) := by rw [← e12]; exact l11.put _ (by intro v q; simp only [List.mem_cons, List.not_mem_nil, or_false] at q; rcases q with rfl | rfl | rfl | rfl | rfl | rfl | rfl | rfl | rfl | rfl; (exact okR (by omega)); (exact okR (by omega)); (exact okR (by omega)); trivial; trivial; trivial; trivial; trivial; trivial; trivial)
  have fr_12 : ∀ k, k < 3 → h12 k = h k := fun k hk => by rw [← e12]; exact (va_up_ne _ _ (by omega)).trans (fr_11 k hk)
  have c4_12 : h12 4 = .inl (0, 480, .inl (fun _ => 0)) := by rw [← e12]; exact (va_up_ne _ _ (by omega)).trans c4_11
  have c5_12 : h12 5 = .inl (1, 24, .inl (fun _ => 0)) := by rw [← e12]; exact (va_up_ne _ _ (by omega)).trans c5_11
  have c6_12 : h12 6 = .inl (3, 24, .inr (.inr (.inr (.inr (fun _ => none))))) := by rw [← e12]; exact (va_up_ne _ _ (by omega)).trans c6_11
  have c3_12 : h12 3 = .inr (2, [.ref 4, .ref 5, .ref 6, .int (nI 0), .int (nI 24), .int (nI 0), .int (nI 0), .int (nI 0), .int (nI 0), .int 0]) := by rw [← e12]; exact va_up_self _ _ _
  refine J_aload_n C 0 d_Sto_init_61 rfl rfl ?_
  refine J_iconst C d_Sto_init_62 (v := nI 0) rfl ?_
  refine J_put C f_Sto_42 (by omega) c3_12 (Nat.le_of_ble_eq_true rfl) (fun _ => rfl) (fun _ => rfl) d_Sto_init_63 (kk := ?_)
  obtain ⟨h13, e13⟩ : ∃ x, va_up h12 3 (.inr (2, [.ref 4, .ref 5, .ref 6, .int (nI 0), .int (nI 24), .int (nI 0), .int (nI 0), .int (nI 0), .int (nI 0), .int (nI 0)])) = x := ⟨_, rfl⟩
  refine J_hh (h2 := h13) e13 ?_
  have l13 : LT h13 (7) := by rw [← e13]; exact l12.put _ (by intro v q; simp only [List.mem_cons, List.not_mem_nil, or_false] at q; rcases q with rfl | rfl | rfl | rfl | rfl | rfl | rfl | rfl | rfl | rfl; (exact okR (by omega)); (exact okR (by omega)); (exact okR (by omega)); trivial; trivial; trivial; trivial; trivial; trivial; trivial)
  have fr_13 : ∀ k, k < 3 → h13 k = h k := fun k hk => by rw [← e13]; exact (va_up_ne _ _ (by omega)).trans (fr_12 k hk)
  have c4_13 : h13 4 = .inl (0, 480, .inl (fun _ => 0)) := by rw [← e13]; exact (va_up_ne _ _ (by omega)).trans c4_12
  have c5_13 : h13 5 = .inl (1, 24, .inl (fun _ => 0)) := by rw [← e13]; exact (va_up_ne _ _ (by omega)).trans c5_12
  have c6_13 : h13 6 = .inl (3, 24, .inr (.inr (.inr (.inr (fun _ => none))))) := by rw [← e13]; exact (va_up_ne _ _ (by omega)).trans c6_12
  have c3_13 : h13 3 = .inr (2, [.ref 4, .ref 5, .ref 6, .int (nI 0), .int (nI 24), .int (nI 0), .int (nI 0), .int (nI 0), .int (nI 0), .int (nI 0)]) := by rw [← e13]; exact va_up_self _ _ _
  refine J_iconst C d_Sto_init_66 (v := nI 0) rfl ?_
  refine J_istore_n C 1 d_Sto_init_67 rfl (by decide) rfl ?_
  refine J_widen (kc' := 3 + 2 * 0) (ks' := 528 + 8 * 0) (by omega) (by omega) ?_
  exact lp 25 0 h13 (fun _ => none) (by omega) (by omega) l13 fr_13 (fun j hj => absurd hj (Nat.not_lt_zero _)) c3_13 c6_13 (fun j hj => absurd hj (Nat.not_lt_zero _)) (fun j hj => absurd hj (Nat.not_lt_zero _)) c4_13 c5_13

set_option maxHeartbeats 4000000 in
set_option maxRecDepth 100000 in
theorem c_Ses_init (l : Launch) (D : va_G) (dA : Nat → ClassId) (h : Nat → va_E) (hn : 56 + 13 ≤ 900) (ho : h 55 = .inr (4, [.null, .null, .null, .int 0, .int 0, .int 0, .int 0, .int 0, .null, .int 0])) (hLT : LT h 56) : CT l D dA k_Ses_init 1 13 337 56 [.ref 55, .ref 3] h (fun v h' n' => v = none ∧ n' = 56 + 13 ∧ LT h' n' ∧ (∀ k, k < 55 → h' k = h k) ∧ (h' 55 = .inr (4, [.ref 3, .ref 56, .ref 60, .int (nI 0), .int (nI 0), .int (nI 0), .int (nI 0), .int (nI 0), .null, .int (nI 0)])) ∧ (h' 56 = .inr (5, [.ref 57, .ref 58, .ref 59, .int (nI 0), .int (nI 0)])) ∧ (h' 57 = .inl (0, 60, .inl (fun _ => 0))) ∧ (h' 58 = .inl (0, 8, .inl (fun _ => 0))) ∧ (h' 59 = .inl (0, 8, .inl (fun _ => 0))) ∧ (∃ fP4 : Nat → Option Nat, (∀ j, j < 4 → fP4 j = some (61 + 2 * j)) ∧ h' 60 = .inl (4, 4, .inr (.inr (.inr (.inr fP4))))) ∧ (∀ j, j < 4 → h' (61 + 2 * j) = .inr (6, [.ref (62 + 2 * j), .int (nI 0), .int (nI 0)])) ∧ (∀ j, j < 4 → h' (62 + 2 * j) = .inl (0, 60, .inl (fun _ => 0)))) := by
  refine CT.of (by decide +kernel) (Nat.le_of_ble_eq_true rfl) (by intro v hv; simp only [List.mem_cons, List.not_mem_nil, or_false] at hv; rcases hv with rfl | rfl <;> rfl) ?_
  intro A ad0 p e s m args below meth c C hr hnm
  have hfr : ∀ k, k < 55 → h k = h k := fun _ _ => rfl
  have lp : ∀ (fu t : Nat) (hh : Nat → va_E) (f : Nat → Option Nat), 4 - t < fu → t ≤ 4 → LT hh (61 + 2 * t) → (∀ k, k < 55 → hh k = h k) → (∀ j, j < t → f j = some (61 + 2 * j)) → hh 55 = .inr (4, [.ref 3, .ref 56, .ref 60, .int (nI 0), .int (nI 0), .int (nI 0), .int (nI 0), .int (nI 0), .null, .int (nI 0)]) → hh 60 = .inl (4, 4, .inr (.inr (.inr (.inr f)))) → (∀ j, j < t → hh (61 + 2 * j) = .inr (6, [.ref (62 + 2 * j), .int (nI 0), .int (nI 0)])) → (∀ j, j < t → hh (62 + 2 * j) = .inl (0, 60, .inl (fun _ => 0))) → hh 56 = .inr (5, [.ref 57, .ref 58, .ref 59, .int (nI 0), .int (nI 0)]) → hh 57 = .inl (0, 60, .inl (fun _ => 0)) → hh 58 = .inl (0, 8, .inl (fun _ => 0)) → hh 59 = .inl (0, 8, .inl (fun _ => 0)) → J D dA A (fun _ _ => True) ad0 56 3 p l e (zR 1 13 337) s m args below meth c (MQ below (zQc D dA A ad0 56 (fun v h' n' => v = none ∧ n' = 56 + 13 ∧ LT h' n' ∧ (∀ k, k < 55 → h' k = h k) ∧ (h' 55 = .inr (4, [.ref 3, .ref 56, .ref 60, .int (nI 0), .int (nI 0), .int (nI 0), .int (nI 0), .int (nI 0), .null, .int (nI 0)])) ∧ (h' 56 = .inr (5, [.ref 57, .ref 58, .ref 59, .int (nI 0), .int (nI 0)])) ∧ (h' 57 = .inl (0, 60, .inl (fun _ => 0))) ∧ (h' 58 = .inl (0, 8, .inl (fun _ => 0))) ∧ (h' 59 = .inl (0, 8, .inl (fun _ => 0))) ∧ (∃ fP4 : Nat → Option Nat, (∀ j, j < 4 → fP4 j = some (61 + 2 * j)) ∧ h' 60 = .inl (4, 4, .inr (.inr (.inr (.inr fP4))))) ∧ (∀ j, j < 4 → h' (61 + 2 * j) = .inr (6, [.ref (62 + 2 * j), .int (nI 0), .int (nI 0)])) ∧ (∀ j, j < 4 → h' (62 + 2 * j) = .inl (0, 60, .inl (fun _ => 0))))) args s 13 337 A) 65 [some (.ref 55), some (.ref 3), some (.int (nI t))] [] hh (61 + 2 * t) (5 + 2 * t) (85 + 63 * t) := by
    intro fu
    induction fu with
    | zero => intro t hh f hfu; exact absurd hfu (Nat.not_lt_zero _)
    | succ fu ih =>
      intro t hh f hfu ht hL9 w1 hf w0 w2 w3 w4 w5 w6 w7 w8
      refine J_iload_n C 2 d_Ses_init_65 rfl rfl ?_
      refine J_iconst C d_Ses_init_66 (v := nI 4) rfl ?_
      refine J_icmpN_ge C 89 d_Ses_init_67 (by decide) (by omega) (by omega) (fun hc => ?_) (fun hc => ?_)
      · have ht24 : t = 4 := by omega
        subst ht24
        refine J_widen (kc' := 13) (ks' := 337) (by omega) (by omega) ?_
        exact J_return C hr (by omega) ⟨rfl, rfl, hL9, w1, w0, w5, w6, w7, w8, ⟨f, hf, w2⟩, w3, w4⟩ d_Ses_init_89
      · refine J_aload_n C 0 d_Ses_init_70 rfl rfl ?_
        refine J_get C f_Ses_20 (by omega) w0 rfl d_Ses_init_71 ?_
        refine J_iload_n C 2 d_Ses_init_74 rfl rfl ?_
        refine J_new C (ci := 6) (fs := [.null, .int 0, .int 0]) in_tb.2.2.2.2.2.2.1 ty_Str tk_Str (tb_in 220 (by decide +kernel) (by decide +kernel)) (tb_in 222 (by decide +kernel) (by decide +kernel)) (tb_in 51 (by decide +kernel) (by decide +kernel)) rfl (by intro j hj; match j, hj with | 0, _ => rfl | 1, _ => rfl | 2, _ => rfl | _ + 3, hj => exact absurd hj (by omega)) (fun _ => rfl) hL9 (by omega) (by omega) (by intro i v q; match i, q with | 0, q => obtain rfl := Option.some.inj (Option.some.inj q); exact okR (by omega) | 1, q => obtain rfl := Option.some.inj (Option.some.inj q); exact okR (by omega) | 2, q => obtain rfl := Option.some.inj (Option.some.inj q); trivial | _ + 3, q => exact absurd (show (none : Option (Option Value)) = some (some v) from q) (by simp)) (by intro v q; simp only [List.mem_cons, List.not_mem_nil, or_false] at q; rcases q with rfl | rfl; trivial; (exact okR (by omega))) (hcz _ _ _ _ _ (by omega) (by omega)) d_Ses_init_75 (kk := ?_)
        obtain ⟨bh1, be1⟩ : ∃ x, va_up hh (61 + 2 * t) (.inr (6, [.null, .int 0, .int 0])) = x := ⟨_, rfl⟩
        refine J_hh (h2 := bh1) be1 ?_
        have bl1 : LT bh1 (61 + 2 * t + 1) := by rw [← be1]; exact hL9.add (by intro v q; simp only [List.mem_cons, List.not_mem_nil, or_false] at q; rcases q with rfl | rfl | rfl <;> trivial)
        have bo_1 : bh1 55 = .inr (4, [.ref 3, .ref 56, .ref 60, .int (nI 0), .int (nI 0), .int (nI 0), .int (nI 0), .int (nI 0), .null, .int (nI 0)]) := by rw [← be1]; exact (va_up_ne _ _ (by omega)).trans w0
        have bfr_1 : ∀ k, k < 55 → bh1 k = h k := fun k hk => by rw [← be1]; exact (va_up_ne _ _ (by omega)).trans (w1 k hk)
        have ba_1 : bh1 60 = .inl (4, 4, .inr (.inr (.inr (.inr f)))) := by rw [← be1]; exact (va_up_ne _ _ (by omega)).trans w2
        have bx_1 : ∀ j, j < t → bh1 (61 + 2 * j) = .inr (6, [.ref (62 + 2 * j), .int (nI 0), .int (nI 0)]) := fun j hj => by rw [← be1]; exact (va_up_ne _ _ (by omega)).trans (w3 j hj)
        have by_1 : ∀ j, j < t → bh1 (62 + 2 * j) = .inl (0, 60, .inl (fun _ => 0)) := fun j hj => by rw [← be1]; exact (va_up_ne _ _ (by omega)).trans (w4 j hj)
        have bf0_1 : bh1 56 = .inr (5, [.ref 57, .ref 58, .ref 59, .int (nI 0), .int (nI 0)]) := by rw [← be1]; exact (va_up_ne _ _ (by omega)).trans w5
        have bf1_1 : bh1 57 = .inl (0, 60, .inl (fun _ => 0)) := by rw [← be1]; exact (va_up_ne _ _ (by omega)).trans w6
        have bf2_1 : bh1 58 = .inl (0, 8, .inl (fun _ => 0)) := by rw [← be1]; exact (va_up_ne _ _ (by omega)).trans w7
        have bf3_1 : bh1 59 = .inl (0, 8, .inl (fun _ => 0)) := by rw [← be1]; exact (va_up_ne _ _ (by omega)).trans w8
        have bc61_2_t_1 : bh1 (61 + 2 * t) = .inr (6, [.null, .int 0, .int 0]) := by rw [← be1]; exact va_up_self _ _ _
        refine J_dup C d_Ses_init_78 rfl ?_
        refine J_callI C (as := []) (st := [.ref (61 + 2 * t), .int (nI t), .ref 60]) (c_Str_init l D dA bh1 (61 + 2 * t)  (by omega) bc61_2_t_1 bl1) l_Ses_52 ⟨rfl, (tb_in 224 (by decide +kernel) (by decide +kernel)), rfl⟩ rfl (by omega) (by omega) (by decide) (hcz _ _ _ _ _ (by omega) (by omega)) (Nat.le_of_ble_eq_true rfl) (fun v h1 n1 q => ⟨q.1, by have := q.2.1; omega⟩) (by intro i v q; match i, q with | 0, q => obtain rfl := Option.some.inj (Option.some.inj q); exact okR (by omega) | 1, q => obtain rfl := Option.some.inj (Option.some.inj q); exact okR (by omega) | 2, q => obtain rfl := Option.some.inj (Option.some.inj q); trivial | _ + 3, q => exact absurd (show (none : Option (Option Value)) = some (some v) from q) (by simp)) (by intro v q; simp only [List.mem_cons, List.not_mem_nil, or_false] at q; rcases q with rfl | rfl | rfl; (exact okR (by omega)); trivial; (exact okR (by omega))) d_Ses_init_79 (kk := ?_)
        intro bh2 n1 q _
        obtain ⟨-, rfl, bl2, bf2, bp2_0, bp2_1⟩ := q
        have bo_2 : bh2 55 = .inr (4, [.ref 3, .ref 56, .ref 60, .int (nI 0), .int (nI 0), .int (nI 0), .int (nI 0), .int (nI 0), .null, .int (nI 0)]) := (bf2 _ (by omega)).trans bo_1
        have bfr_2 : ∀ k, k < 55 → bh2 k = h k := fun k hk => (bf2 _ (by omega)).trans (bfr_1 k hk)
        have ba_2 : bh2 60 = .inl (4, 4, .inr (.inr (.inr (.inr f)))) := (bf2 _ (by omega)).trans ba_1
        have bx_2 : ∀ j, j < t → bh2 (61 + 2 * j) = .inr (6, [.ref (62 + 2 * j), .int (nI 0), .int (nI 0)]) := fun j hj => (bf2 _ (by omega)).trans (bx_1 j hj)
        have by_2 : ∀ j, j < t → bh2 (62 + 2 * j) = .inl (0, 60, .inl (fun _ => 0)) := fun j hj => (bf2 _ (by omega)).trans (by_1 j hj)
        have bf0_2 : bh2 56 = .inr (5, [.ref 57, .ref 58, .ref 59, .int (nI 0), .int (nI 0)]) := (bf2 _ (by omega)).trans bf0_1
        have bf1_2 : bh2 57 = .inl (0, 60, .inl (fun _ => 0)) := (bf2 _ (by omega)).trans bf1_1
        have bf2_2 : bh2 58 = .inl (0, 8, .inl (fun _ => 0)) := (bf2 _ (by omega)).trans bf2_1
        have bf3_2 : bh2 59 = .inl (0, 8, .inl (fun _ => 0)) := (bf2 _ (by omega)).trans bf3_1
        refine J_aastore C (Or.inr ⟨rfl, rfl⟩) (by omega) ba_2 (by omega) bp2_0 (vp_in_nI (by omega) (by decide)) d_Ses_init_82 (kk := ?_)
        refine J_hh (h2 := va_up bh2 60 (.inl (4, 4, .inr (.inr (.inr (.inr (va_up f t (some (61 + 2 * t))))))))) (by rw [nI_clamp (by omega)]) ?_
        have ltf : ∀ j k, f j = some k → k < 61 + 2 * t + 1 + 1 := by have q := bl2 60 (by omega); rw [ba_2] at q; exact q
        obtain ⟨bh3, be3⟩ : ∃ x, va_up bh2 60 (.inl (4, 4, .inr (.inr (.inr (.inr (va_up f t (some (61 + 2 * t)))))))) = x := ⟨_, rfl⟩
        refine J_hh (h2 := bh3) be3 ?_
        have bl3 : LT bh3 (61 + 2 * t + 1 + 1) := by rw [← be3]; exact bl2.put _ (fun j k q => by by_cases z : j = t; (subst z; rw [va_up_self] at q; have := Option.some.inj q; omega); (rw [va_up_ne _ _ z] at q; exact ltf j k q))
        have bo_3 : bh3 55 = .inr (4, [.ref 3, .ref 56, .ref 60, .int (nI 0), .int (nI 0), .int (nI 0), .int (nI 0), .int (nI 0), .null, .int (nI 0)]) := by rw [← be3]; exact (va_up_ne _ _ (by omega)).trans bo_2
        have bfr_3 : ∀ k, k < 55 → bh3 k = h k := fun k hk => by rw [← be3]; exact (va_up_ne _ _ (by omega)).trans (bfr_2 k hk)
        have bx_3 : ∀ j, j < t → bh3 (61 + 2 * j) = .inr (6, [.ref (62 + 2 * j), .int (nI 0), .int (nI 0)]) := fun j hj => by rw [← be3]; exact (va_up_ne _ _ (by omega)).trans (bx_2 j hj)
        have by_3 : ∀ j, j < t → bh3 (62 + 2 * j) = .inl (0, 60, .inl (fun _ => 0)) := fun j hj => by rw [← be3]; exact (va_up_ne _ _ (by omega)).trans (by_2 j hj)
        have bf0_3 : bh3 56 = .inr (5, [.ref 57, .ref 58, .ref 59, .int (nI 0), .int (nI 0)]) := by rw [← be3]; exact (va_up_ne _ _ (by omega)).trans bf0_2
        have bf1_3 : bh3 57 = .inl (0, 60, .inl (fun _ => 0)) := by rw [← be3]; exact (va_up_ne _ _ (by omega)).trans bf1_2
        have bf2_3 : bh3 58 = .inl (0, 8, .inl (fun _ => 0)) := by rw [← be3]; exact (va_up_ne _ _ (by omega)).trans bf2_2
        have bf3_3 : bh3 59 = .inl (0, 8, .inl (fun _ => 0)) := by rw [← be3]; exact (va_up_ne _ _ (by omega)).trans bf3_2
        have bp2_0q0_3 : bh3 (61 + 2 * t) = .inr (6, [.ref (61 + 2 * t + 1), .int (nI 0), .int (nI 0)]) := by rw [← be3]; exact (va_up_ne _ _ (by omega)).trans bp2_0
        have bp2_1q0_3 : bh3 (61 + 2 * t + 1) = .inl (0, 60, .inl (fun _ => 0)) := by rw [← be3]; exact (va_up_ne _ _ (by omega)).trans bp2_1
        have bc60_3 : bh3 60 = .inl (4, 4, .inr (.inr (.inr (.inr (va_up f t (some (61 + 2 * t))))))) := by rw [← be3]; exact va_up_self _ _ _
        refine J_iinc C d_Ses_init_83 rfl (v := nI (t + 1)) (nI_1 _) (by decide) rfl ?_
        refine J_goto C 65 d_Ses_init_86 (by decide) ?_
        refine J_nn (n2 := 61 + 2 * (t + 1)) (by omega) ?_
        refine J_widen (kc' := 5 + 2 * (t + 1)) (ks' := 85 + 63 * (t + 1)) (by omega) (by omega) ?_
        have x3 : ∀ j, j < t + 1 → bh3 (61 + 2 * j) = .inr (6, [.ref (62 + 2 * j), .int (nI 0), .int (nI 0)]) := fun j hj => by
          by_cases z : j = t
          · subst z; rw [show 62 + 2 * j = 61 + 2 * j + 1 by omega]; exact bp2_0q0_3
          · exact bx_3 j (by omega)
        have x4 : ∀ j, j < t + 1 → bh3 (62 + 2 * j) = .inl (0, 60, .inl (fun _ => 0)) := fun j hj => by
          by_cases z : j = t
          · subst z; rw [show 62 + 2 * j = 61 + 2 * j + 1 by omega]; exact bp2_1q0_3
          · exact by_3 j (by omega)
        have xf : ∀ j, j < t + 1 → va_up f t (some (61 + 2 * t)) j = some (61 + 2 * j) := fun j hj => by
          by_cases z : j = t
          · subst z; exact va_up_self _ _ _
          · exact (va_up_ne _ _ z).trans (hf j (by omega))
        exact ih (t + 1) bh3 _ (by omega) (by omega) (by rw [show 61 + 2 * (t + 1) = 61 + 2 * t + 1 + 1 by omega]; exact bl3) bfr_3 xf bo_3 bc60_3 x3 x4 bf0_3 bf1_3 bf2_3 bf3_3
  refine J_aload_n C 0 d_Ses_init_0 rfl rfl ?_
  refine J_objInit C (tb_in 191 (by decide +kernel) (by decide +kernel)) (tb_in 81 (by decide +kernel) (by decide +kernel)) (tb_in 82 (by decide +kernel) (by decide +kernel)) (Nat.le_of_ble_eq_true rfl) d_Ses_init_1 ?_
  refine J_aload_n C 0 d_Ses_init_4 rfl rfl ?_
  refine J_new C (ci := 5) (fs := [.null, .null, .null, .int 0, .int 0]) in_tb.2.2.2.2.2.1 ty_Har tk_Har (tb_in 192 (by decide +kernel) (by decide +kernel)) (tb_in 193 (by decide +kernel) (by decide +kernel)) (tb_in 50 (by decide +kernel) (by decide +kernel)) rfl (by intro j hj; match j, hj with | 0, _ => rfl | 1, _ => rfl | 2, _ => rfl | 3, _ => rfl | 4, _ => rfl | _ + 5, hj => exact absurd hj (by omega)) (fun _ => rfl) hLT (by omega) (by omega) (by intro i v q; match i, q with | 0, q => obtain rfl := Option.some.inj (Option.some.inj q); exact okR (by omega) | 1, q => obtain rfl := Option.some.inj (Option.some.inj q); exact okR (by omega) | 2, q => exact absurd (show (some none : Option (Option Value)) = some (some v) from q) (by simp) | _ + 3, q => exact absurd (show (none : Option (Option Value)) = some (some v) from q) (by simp)) (by intro v q; simp only [List.mem_cons, List.not_mem_nil, or_false] at q; rcases q with rfl; (exact okR (by omega))) (hcz _ _ _ _ _ (by omega) (by omega)) d_Ses_init_5 (kk := ?_)
  obtain ⟨h1, e1⟩ : ∃ x, va_up h 56 (.inr (5, [.null, .null, .null, .int 0, .int 0])) = x := ⟨_, rfl⟩
  refine J_hh (h2 := h1) e1 ?_
  have l1 : LT h1 (56 + 1) := by rw [← e1]; exact hLT.add (by intro v q; simp only [List.mem_cons, List.not_mem_nil, or_false] at q; rcases q with rfl | rfl | rfl | rfl | rfl <;> trivial)
  have co_1 : h1 55 = .inr (4, [.null, .null, .null, .int 0, .int 0, .int 0, .int 0, .int 0, .null, .int 0]) := by rw [← e1]; exact (va_up_ne _ _ (by omega)).trans ho
  have fr_1 : ∀ k, k < 55 → h1 k = h k := fun k hk => by rw [← e1]; exact (va_up_ne _ _ (by omega)).trans (hfr k hk)
  have c56_1 : h1 56 = .inr (5, [.null, .null, .null, .int 0, .int 0]) := by rw [← e1]; exact va_up_self _ _ _
  refine J_dup C d_Ses_init_8 rfl ?_
  refine J_callI C (as := []) (st := [.ref 56, .ref 55]) (c_Har_init l D dA h1   (by omega) c56_1 l1) l_Ses_11 ⟨rfl, (tb_in 195 (by decide +kernel) (by decide +kernel)), rfl⟩ rfl (by omega) (by omega) (by decide) (hcz _ _ _ _ _ (by omega) (by omega)) (Nat.le_of_ble_eq_true rfl) (fun v h1 n1 q => ⟨q.1, by have := q.2.1; omega⟩) (by intro i v q; match i, q with | 0, q => obtain rfl := Option.some.inj (Option.some.inj q); exact okR (by omega) | 1, q => obtain rfl := Option.some.inj (Option.some.inj q); exact okR (by omega) | 2, q => exact absurd (show (some none : Option (Option Value)) = some (some v) from q) (by simp) | _ + 3, q => exact absurd (show (none : Option (Option Value)) = some (some v) from q) (by simp)) (by intro v q; simp only [List.mem_cons, List.not_mem_nil, or_false] at q; rcases q with rfl | rfl; (exact okR (by omega)); (exact okR (by omega))) d_Ses_init_9 (kk := ?_)
  intro h2 n1 q _
  obtain ⟨-, rfl, l2, f2, p2_0, p2_1, p2_2, p2_3⟩ := q
  have co_2 : h2 55 = .inr (4, [.null, .null, .null, .int 0, .int 0, .int 0, .int 0, .int 0, .null, .int 0]) := (f2 _ (by omega)).trans co_1
  have fr_2 : ∀ k, k < 55 → h2 k = h k := fun k hk => (f2 _ (by omega)).trans (fr_1 k hk)
  refine J_putC C (k := 1) ci_Ses rfl (by decide) rfl rfl rfl (tb_in 241 (by decide +kernel) (by decide +kernel)) hnm (by omega) co_2 (Nat.le_of_ble_eq_true rfl) (fun _ => rfl) (fun _ => rfl) d_Ses_init_12 (kk := ?_)
  obtain ⟨h3, e3⟩ : ∃ x, va_up h2 55 (.inr (4, [.null, .ref 56, .null, .int 0, .int 0, .int 0, .int 0, .int 0, .null, .int 0])) = x := ⟨_, rfl⟩
  refine J_hh (h2 := h3) e3 ?_
  have l3 : LT h3 (60) := by rw [← e3]; exact l2.put _ (by intro v q; simp only [List.mem_cons, List.not_mem_nil, or_false] at q; rcases q with rfl | rfl | rfl | rfl | rfl | rfl | rfl | rfl | rfl | rfl; trivial; (exact okR (by omega)); trivial; trivial; trivial; trivial; trivial; trivial; trivial; trivial)
  have fr_3 : ∀ k, k < 55 → h3 k = h k := fun k hk => by rw [← e3]; exact (va_up_ne _ _ (by omega)).trans (fr_2 k hk)
  have p2_0q0_3 : h3 56 = .inr (5, [.ref 57, .ref 58, .ref 59, .int (nI 0), .int (nI 0)]) := by rw [← e3]; exact (va_up_ne _ _ (by omega)).trans p2_0
  have p2_1q0_3 : h3 57 = .inl (0, 60, .inl (fun _ => 0)) := by rw [← e3]; exact (va_up_ne _ _ (by omega)).trans p2_1
  have p2_2q0_3 : h3 58 = .inl (0, 8, .inl (fun _ => 0)) := by rw [← e3]; exact (va_up_ne _ _ (by omega)).trans p2_2
  have p2_3q0_3 : h3 59 = .inl (0, 8, .inl (fun _ => 0)) := by rw [← e3]; exact (va_up_ne _ _ (by omega)).trans p2_3
  have c55_3 : h3 55 = .inr (4, [.null, .ref 56, .null, .int 0, .int 0, .int 0, .int 0, .int 0, .null, .int 0]) := by rw [← e3]; exact va_up_self _ _ _
  refine J_aload_n C 0 d_Ses_init_15 rfl rfl ?_
  refine J_iconst C d_Ses_init_16 (v := nI 4) rfl ?_
  refine J_newq C (t := 4) (N := 4) (tb_in 220 (by decide +kernel) (by decide +kernel)) (tb_in 221 (by decide +kernel) (by decide +kernel)) (fun _ => (dA_of C.2.2.2.2.2.1).2.2.2.2) rfl (by decide) l3 (by omega) (by omega) (by intro i v q; match i, q with | 0, q => obtain rfl := Option.some.inj (Option.some.inj q); exact okR (by omega) | 1, q => obtain rfl := Option.some.inj (Option.some.inj q); exact okR (by omega) | 2, q => exact absurd (show (some none : Option (Option Value)) = some (some v) from q) (by simp) | _ + 3, q => exact absurd (show (none : Option (Option Value)) = some (some v) from q) (by simp)) (by intro v q; simp only [List.mem_cons, List.not_mem_nil, or_false] at q; rcases q with rfl; (exact okR (by omega))) (hcz _ _ _ _ _ (by omega) (by omega)) d_Ses_init_17 (kk := ?_)
  obtain ⟨h4, e4⟩ : ∃ x, va_up h3 60 (.inl (4, 4, .inr (.inr (.inr (.inr (fun _ => none)))))) = x := ⟨_, rfl⟩
  refine J_hh (h2 := h4) e4 ?_
  have l4 : LT h4 (60 + 1) := by rw [← e4]; exact l3.add (fun _ _ q => by cases q)
  have fr_4 : ∀ k, k < 55 → h4 k = h k := fun k hk => by rw [← e4]; exact (va_up_ne _ _ (by omega)).trans (fr_3 k hk)
  have p2_0q0_4 : h4 56 = .inr (5, [.ref 57, .ref 58, .ref 59, .int (nI 0), .int (nI 0)]) := by rw [← e4]; exact (va_up_ne _ _ (by omega)).trans p2_0q0_3
  have p2_1q0_4 : h4 57 = .inl (0, 60, .inl (fun _ => 0)) := by rw [← e4]; exact (va_up_ne _ _ (by omega)).trans p2_1q0_3
  have p2_2q0_4 : h4 58 = .inl (0, 8, .inl (fun _ => 0)) := by rw [← e4]; exact (va_up_ne _ _ (by omega)).trans p2_2q0_3
  have p2_3q0_4 : h4 59 = .inl (0, 8, .inl (fun _ => 0)) := by rw [← e4]; exact (va_up_ne _ _ (by omega)).trans p2_3q0_3
  have c55_4 : h4 55 = .inr (4, [.null, .ref 56, .null, .int 0, .int 0, .int 0, .int 0, .int 0, .null, .int 0]) := by rw [← e4]; exact (va_up_ne _ _ (by omega)).trans c55_3
  have c60_4 : h4 60 = .inl (4, 4, .inr (.inr (.inr (.inr (fun _ => none))))) := by rw [← e4]; exact va_up_self _ _ _
  refine J_putC C (k := 2) ci_Ses rfl (by decide) rfl rfl rfl (tb_in 242 (by decide +kernel) (by decide +kernel)) hnm (by omega) c55_4 (Nat.le_of_ble_eq_true rfl) (fun _ => rfl) (fun _ => rfl) d_Ses_init_20 (kk := ?_)
  obtain ⟨h5, e5⟩ : ∃ x, va_up h4 55 (.inr (4, [.null, .ref 56, .ref 60, .int 0, .int 0, .int 0, .int 0, .int 0, .null, .int 0])) = x := ⟨_, rfl⟩
  refine J_hh (h2 := h5) e5 ?_
  have l5 : LT h5 (61) := by rw [← e5]; exact l4.put _ (by intro v q; simp only [List.mem_cons, List.not_mem_nil, or_false] at q; rcases q with rfl | rfl | rfl | rfl | rfl | rfl | rfl | rfl | rfl | rfl; trivial; (exact okR (by omega)); (exact okR (by omega)); trivial; trivial; trivial; trivial; trivial; trivial; trivial)
  have fr_5 : ∀ k, k < 55 → h5 k = h k := fun k hk => by rw [← e5]; exact (va_up_ne _ _ (by omega)).trans (fr_4 k hk)
  have p2_0q0_5 : h5 56 = .inr (5, [.ref 57, .ref 58, .ref 59, .int (nI 0), .int (nI 0)]) := by rw [← e5]; exact (va_up_ne _ _ (by omega)).trans p2_0q0_4
  have p2_1q0_5 : h5 57 = .inl (0, 60, .inl (fun _ => 0)) := by rw [← e5]; exact (va_up_ne _ _ (by omega)).trans p2_1q0_4
  have p2_2q0_5 : h5 58 = .inl (0, 8, .inl (fun _ => 0)) := by rw [← e5]; exact (va_up_ne _ _ (by omega)).trans p2_2q0_4
  have p2_3q0_5 : h5 59 = .inl (0, 8, .inl (fun _ => 0)) := by rw [← e5]; exact (va_up_ne _ _ (by omega)).trans p2_3q0_4
  have c60_5 : h5 60 = .inl (4, 4, .inr (.inr (.inr (.inr (fun _ => none))))) := by rw [← e5]; exact (va_up_ne _ _ (by omega)).trans c60_4
  have c55_5 : h5 55 = .inr (4, [.null, .ref 56, .ref 60, .int 0, .int 0, .int 0, .int 0, .int 0, .null, .int 0]) := by rw [← e5]; exact va_up_self _ _ _
  refine J_aload_n C 0 d_Ses_init_23 rfl rfl ?_
  refine J_iconst C d_Ses_init_24 (v := nI 0) rfl ?_
  refine J_put C f_Ses_24 (by omega) c55_5 (Nat.le_of_ble_eq_true rfl) (fun _ => rfl) (fun _ => rfl) d_Ses_init_25 (kk := ?_)
  obtain ⟨h6, e6⟩ : ∃ x, va_up h5 55 (.inr (4, [.null, .ref 56, .ref 60, .int (nI 0), .int 0, .int 0, .int 0, .int 0, .null, .int 0])) = x := ⟨_, rfl⟩
  refine J_hh (h2 := h6) e6 ?_
  have l6 : LT h6 (61) := by rw [← e6]; exact l5.put _ (by intro v q; simp only [List.mem_cons, List.not_mem_nil, or_false] at q; rcases q with rfl | rfl | rfl | rfl | rfl | rfl | rfl | rfl | rfl | rfl; trivial; (exact okR (by omega)); (exact okR (by omega)); trivial; trivial; trivial; trivial; trivial; trivial; trivial)
  have fr_6 : ∀ k, k < 55 → h6 k = h k := fun k hk => by rw [← e6]; exact (va_up_ne _ _ (by omega)).trans (fr_5 k hk)
  have p2_0q0_6 : h6 56 = .inr (5, [.ref 57, .ref 58, .ref 59, .int (nI 0), .int (nI 0)]) := by rw [← e6]; exact (va_up_ne _ _ (by omega)).trans p2_0q0_5
  have p2_1q0_6 : h6 57 = .inl (0, 60, .inl (fun _ => 0)) := by rw [← e6]; exact (va_up_ne _ _ (by omega)).trans p2_1q0_5
  have p2_2q0_6 : h6 58 = .inl (0, 8, .inl (fun _ => 0)) := by rw [← e6]; exact (va_up_ne _ _ (by omega)).trans p2_2q0_5
  have p2_3q0_6 : h6 59 = .inl (0, 8, .inl (fun _ => 0)) := by rw [← e6]; exact (va_up_ne _ _ (by omega)).trans p2_3q0_5
  have c60_6 : h6 60 = .inl (4, 4, .inr (.inr (.inr (.inr (fun _ => none))))) := by rw [← e6]; exact (va_up_ne _ _ (by omega)).trans c60_5
  have c55_6 : h6 55 = .inr (4, [.null, .ref 56, .ref 60, .int (nI 0), .int 0, .int 0, .int 0, .int 0, .null, .int 0]) := by rw [← e6]; exact va_up_self _ _ _
  refine J_aload_n C 0 d_Ses_init_28 rfl rfl ?_
  refine J_iconst C d_Ses_init_29 (v := nI 0) rfl ?_
  refine J_put C f_Ses_28 (by omega) c55_6 (Nat.le_of_ble_eq_true rfl) (fun _ => rfl) (fun _ => rfl) d_Ses_init_30 (kk := ?_)
  obtain ⟨h7, e7⟩ : ∃ x, va_up h6 55 (.inr (4, [.null, .ref 56, .ref 60, .int (nI 0), .int (nI 0), .int 0, .int 0, .int 0, .null, .int 0])) = x := ⟨_, rfl⟩
  refine J_hh (h2 := h7) e7 ?_
  have l7 : LT h7 (61) := by rw [← e7]; exact l6.put _ (by intro v q; simp only [List.mem_cons, List.not_mem_nil, or_false] at q; rcases q with rfl | rfl | rfl | rfl | rfl | rfl | rfl | rfl | rfl | rfl; trivial; (exact okR (by omega)); (exact okR (by omega)); trivial; trivial; trivial; trivial; trivial; trivial; trivial)
  have fr_7 : ∀ k, k < 55 → h7 k = h k := fun k hk => by rw [← e7]; exact (va_up_ne _ _ (by omega)).trans (fr_6 k hk)
  have p2_0q0_7 : h7 56 = .inr (5, [.ref 57, .ref 58, .ref 59, .int (nI 0), .int (nI 0)]) := by rw [← e7]; exact (va_up_ne _ _ (by omega)).trans p2_0q0_6
  have p2_1q0_7 : h7 57 = .inl (0, 60, .inl (fun _ => 0)) := by rw [← e7]; exact (va_up_ne _ _ (by omega)).trans p2_1q0_6
  have p2_2q0_7 : h7 58 = .inl (0, 8, .inl (fun _ => 0)) := by rw [← e7]; exact (va_up_ne _ _ (by omega)).trans p2_2q0_6
  have p2_3q0_7 : h7 59 = .inl (0, 8, .inl (fun _ => 0)) := by rw [← e7]; exact (va_up_ne _ _ (by omega)).trans p2_3q0_6
  have c60_7 : h7 60 = .inl (4, 4, .inr (.inr (.inr (.inr (fun _ => none))))) := by rw [← e7]; exact (va_up_ne _ _ (by omega)).trans c60_6
  have c55_7 : h7 55 = .inr (4, [.null, .ref 56, .ref 60, .int (nI 0), .int (nI 0), .int 0, .int 0, .int 0, .null, .int 0]) := by rw [← e7]; exact va_up_self _ _ _
  refine J_aload_n C 0 d_Ses_init_33 rfl rfl ?_
  refine J_iconst C d_Ses_init_34 (v := nI 0) rfl ?_
  refine J_put C f_Ses_32 (by omega) c55_7 (Nat.le_of_ble_eq_true rfl) (fun _ => rfl) (fun _ => rfl) d_Ses_init_35 (kk := ?_)
  obtain ⟨h8, e8⟩ : ∃ x, va_up h7 55 (.inr (4, [.null, .ref 56, .ref 60, .int (nI 0), .int (nI 0), .int (nI 0), .int 0, .int 0, .null, .int 0])) = x := ⟨_, rfl⟩
  refine J_hh (h2 := h8) e8 ?_
  have l8 : LT h8 (61) := by rw [← e8]; exact l7.put _ (by intro v q; simp only [List.mem_cons, List.not_mem_nil, or_false] at q; rcases q with rfl | rfl | rfl | rfl | rfl | rfl | rfl | rfl | rfl | rfl; trivial; (exact okR (by omega)); (exact okR (by omega)); trivial; trivial; trivial; trivial; trivial; trivial; trivial)
  have fr_8 : ∀ k, k < 55 → h8 k = h k := fun k hk => by rw [← e8]; exact (va_up_ne _ _ (by omega)).trans (fr_7 k hk)
  have p2_0q0_8 : h8 56 = .inr (5, [.ref 57, .ref 58, .ref 59, .int (nI 0), .int (nI 0)]) := by rw [← e8]; exact (va_up_ne _ _ (by omega)).trans p2_0q0_7
  have p2_1q0_8 : h8 57 = .inl (0, 60, .inl (fun _ => 0)) := by rw [← e8]; exact (va_up_ne _ _ (by omega)).trans p2_1q0_7
  have p2_2q0_8 : h8 58 = .inl (0, 8, .inl (fun _ => 0)) := by rw [← e8]; exact (va_up_ne _ _ (by omega)).trans p2_2q0_7
  have p2_3q0_8 : h8 59 = .inl (0, 8, .inl (fun _ => 0)) := by rw [← e8]; exact (va_up_ne _ _ (by omega)).trans p2_3q0_7
  have c60_8 : h8 60 = .inl (4, 4, .inr (.inr (.inr (.inr (fun _ => none))))) := by rw [← e8]; exact (va_up_ne _ _ (by omega)).trans c60_7
  have c55_8 : h8 55 = .inr (4, [.null, .ref 56, .ref 60, .int (nI 0), .int (nI 0), .int (nI 0), .int 0, .int 0, .null, .int 0]) := by rw [← e8]; exact va_up_self _ _ _
  refine J_aload_n C 0 d_Ses_init_38 rfl rfl ?_
  refine J_iconst C d_Ses_init_39 (v := nI 0) rfl ?_
  refine J_put C f_Ses_35 (by omega) c55_8 (Nat.le_of_ble_eq_true rfl) (fun _ => rfl) (fun _ => rfl) d_Ses_init_40 (kk := ?_)
  obtain ⟨h9, e9⟩ : ∃ x, va_up h8 55 (.inr (4, [.null, .ref 56, .ref 60, .int (nI 0), .int (nI 0), .int (nI 0), .int (nI 0), .int 0, .null, .int 0])) = x := ⟨_, rfl⟩
  refine J_hh (h2 := h9) e9 ?_
  have l9 : LT h9 (61) := by rw [← e9]; exact l8.put _ (by intro v q; simp only [List.mem_cons, List.not_mem_nil, or_false] at q; rcases q with rfl | rfl | rfl | rfl | rfl | rfl | rfl | rfl | rfl | rfl; trivial; (exact okR (by omega)); (exact okR (by omega)); trivial; trivial; trivial; trivial; trivial; trivial; trivial)
  have fr_9 : ∀ k, k < 55 → h9 k = h k := fun k hk => by rw [← e9]; exact (va_up_ne _ _ (by omega)).trans (fr_8 k hk)
  have p2_0q0_9 : h9 56 = .inr (5, [.ref 57, .ref 58, .ref 59, .int (nI 0), .int (nI 0)]) := by rw [← e9]; exact (va_up_ne _ _ (by omega)).trans p2_0q0_8
  have p2_1q0_9 : h9 57 = .inl (0, 60, .inl (fun _ => 0)) := by rw [← e9]; exact (va_up_ne _ _ (by omega)).trans p2_1q0_8
  have p2_2q0_9 : h9 58 = .inl (0, 8, .inl (fun _ => 0)) := by rw [← e9]; exact (va_up_ne _ _ (by omega)).trans p2_2q0_8
  have p2_3q0_9 : h9 59 = .inl (0, 8, .inl (fun _ => 0)) := by rw [← e9]; exact (va_up_ne _ _ (by omega)).trans p2_3q0_8
  have c60_9 : h9 60 = .inl (4, 4, .inr (.inr (.inr (.inr (fun _ => none))))) := by rw [← e9]; exact (va_up_ne _ _ (by omega)).trans c60_8
  have c55_9 : h9 55 = .inr (4, [.null, .ref 56, .ref 60, .int (nI 0), .int (nI 0), .int (nI 0), .int (nI 0), .int 0, .null, .int 0]) := by rw [← e9]; exact va_up_self _ _ _
  refine J_aload_n C 0 d_Ses_init_43 rfl rfl ?_
  refine J_iconst C d_Ses_init_44 (v := nI 0) rfl ?_
  refine J_put C f_Ses_38 (by omega) c55_9 (Nat.le_of_ble_eq_true rfl) (fun _ => rfl) (fun _ => rfl) d_Ses_init_45 (kk := ?_)
  obtain ⟨h10, e10⟩ : ∃ x, va_up h9 55 (.inr (4, [.null, .ref 56, .ref 60, .int (nI 0), .int (nI 0), .int (nI 0), .int (nI 0), .int (nI 0), .null, .int 0])) = x := ⟨_, rfl⟩
  refine J_hh (h2 := h10) e10 ?_
  have l10 : LT h10 (61) := by rw [← e10]; exact l9.put _ (by intro v q; simp only [List.mem_cons, List.not_mem_nil, or_false] at q; rcases q with rfl | rfl | rfl | rfl | rfl | rfl | rfl | rfl | rfl | rfl; trivial; (exact okR (by omega)); (exact okR (by omega)); trivial; trivial; trivial; trivial; trivial; trivial; trivial)
  have fr_10 : ∀ k, k < 55 → h10 k = h k := fun k hk => by rw [← e10]; exact (va_up_ne _ _ (by omega)).trans (fr_9 k hk)
  have p2_0q0_10 : h10 56 = .inr (5, [.ref 57, .ref 58, .ref 59, .int (nI 0), .int (nI 0)]) := by rw [← e10]; exact (va_up_ne _ _ (by omega)).trans p2_0q0_9
  have p2_1q0_10 : h10 57 = .inl (0, 60, .inl (fun _ => 0)) := by rw [← e10]; exact (va_up_ne _ _ (by omega)).trans p2_1q0_9
  have p2_2q0_10 : h10 58 = .inl (0, 8, .inl (fun _ => 0)) := by rw [← e10]; exact (va_up_ne _ _ (by omega)).trans p2_2q0_9
  have p2_3q0_10 : h10 59 = .inl (0, 8, .inl (fun _ => 0)) := by rw [← e10]; exact (va_up_ne _ _ (by omega)).trans p2_3q0_9
  have c60_10 : h10 60 = .inl (4, 4, .inr (.inr (.inr (.inr (fun _ => none))))) := by rw [← e10]; exact (va_up_ne _ _ (by omega)).trans c60_9
  have c55_10 : h10 55 = .inr (4, [.null, .ref 56, .ref 60, .int (nI 0), .int (nI 0), .int (nI 0), .int (nI 0), .int (nI 0), .null, .int 0]) := by rw [← e10]; exact va_up_self _ _ _
  refine J_aload_n C 0 d_Ses_init_48 rfl rfl ?_
  refine J_null C d_Ses_init_49 ?_
  refine J_put C f_Ses_41 (by omega) c55_10 (Nat.le_of_ble_eq_true rfl) (fun _ => rfl) (fun _ => rfl) d_Ses_init_50 (kk := ?_)
  obtain ⟨h11, e11⟩ : ∃ x, va_up h10 55 (.inr (4, [.null, .ref 56, .ref 60, .int (nI 0), .int (nI 0), .int (nI 0), .int (nI 0), .int (nI 0), .null, .int 0])) = x := ⟨_, rfl⟩
  refine J_hh (h2 := h11) e11 ?_
  have l11 : LT h11 (61) := by rw [← e11]; exact l10.put _ (by intro v q; simp only [List.mem_cons, List.not_mem_nil, or_false] at q; rcases q with rfl | rfl | rfl | rfl | rfl | rfl | rfl | rfl | rfl | rfl; trivial; (exact okR (by omega)); (exact okR (by omega)); trivial; trivial; trivial; trivial; trivial; trivial; trivial)
  have fr_11 : ∀ k, k < 55 → h11 k = h k := fun k hk => by rw [← e11]; exact (va_up_ne _ _ (by omega)).trans (fr_10 k hk)
  have p2_0q0_11 : h11 56 = .inr (5, [.ref 57, .ref 58, .ref 59, .int (nI 0), .int (nI 0)]) := by rw [← e11]; exact (va_up_ne _ _ (by omega)).trans p2_0q0_10
  have p2_1q0_11 : h11 57 = .inl (0, 60, .inl (fun _ => 0)) := by rw [← e11]; exact (va_up_ne _ _ (by omega)).trans p2_1q0_10
  have p2_2q0_11 : h11 58 = .inl (0, 8, .inl (fun _ => 0)) := by rw [← e11]; exact (va_up_ne _ _ (by omega)).trans p2_2q0_10
  have p2_3q0_11 : h11 59 = .inl (0, 8, .inl (fun _ => 0)) := by rw [← e11]; exact (va_up_ne _ _ (by omega)).trans p2_3q0_10
  have c60_11 : h11 60 = .inl (4, 4, .inr (.inr (.inr (.inr (fun _ => none))))) := by rw [← e11]; exact (va_up_ne _ _ (by omega)).trans c60_10
  have c55_11 : h11 55 = .inr (4, [.null, .ref 56, .ref 60, .int (nI 0), .int (nI 0), .int (nI 0), .int (nI 0), .int (nI 0), .null, .int 0]) := by rw [← e11]; exact va_up_self _ _ _
  refine J_aload_n C 0 d_Ses_init_53 rfl rfl ?_
  refine J_iconst C d_Ses_init_54 (v := nI 0) rfl ?_
  refine J_put C f_Ses_45 (by omega) c55_11 (Nat.le_of_ble_eq_true rfl) (fun _ => rfl) (fun _ => rfl) d_Ses_init_55 (kk := ?_)
  obtain ⟨h12, e12⟩ : ∃ x, va_up h11 55 (.inr (4, [.null, .ref 56, .ref 60, .int (nI 0), .int (nI 0), .int (nI 0), .int (nI 0), .int (nI 0), .null, .int (nI 0)])) = x := ⟨_, rfl⟩
  refine J_hh (h2 := h12) e12 ?_
  have l12 : LT h12 (61) := by rw [← e12]; exact l11.put _ (by intro v q; simp only [List.mem_cons, List.not_mem_nil, or_false] at q; rcases q with rfl | rfl | rfl | rfl | rfl | rfl | rfl | rfl | rfl | rfl; trivial; (exact okR (by omega)); (exact okR (by omega)); trivial; trivial; trivial; trivial; trivial; trivial; trivial)
  have fr_12 : ∀ k, k < 55 → h12 k = h k := fun k hk => by rw [← e12]; exact (va_up_ne _ _ (by omega)).trans (fr_11 k hk)
  have p2_0q0_12 : h12 56 = .inr (5, [.ref 57, .ref 58, .ref 59, .int (nI 0), .int (nI 0)]) := by rw [← e12]; exact (va_up_ne _ _ (by omega)).trans p2_0q0_11
  have p2_1q0_12 : h12 57 = .inl (0, 60, .inl (fun _ => 0)) := by rw [← e12]; exact (va_up_ne _ _ (by omega)).trans p2_1q0_11
  have p2_2q0_12 : h12 58 = .inl (0, 8, .inl (fun _ => 0)) := by rw [← e12]; exact (va_up_ne _ _ (by omega)).trans p2_2q0_11
  have p2_3q0_12 : h12 59 = .inl (0, 8, .inl (fun _ => 0)) := by rw [← e12]; exact (va_up_ne _ _ (by omega)).trans p2_3q0_11
  have c60_12 : h12 60 = .inl (4, 4, .inr (.inr (.inr (.inr (fun _ => none))))) := by rw [← e12]; exact (va_up_ne _ _ (by omega)).trans c60_11
  have c55_12 : h12 55 = .inr (4, [.null, .ref 56, .ref 60, .int (nI 0), .int (nI 0), .int (nI 0), .int (nI 0), .int (nI 0), .null, .int (nI 0)]) := by rw [← e12]; exact va_up_self _ _ _
  refine J_aload_n C 0 d_Ses_init_58 rfl rfl ?_
  refine J_aload_n C 1 d_Ses_init_59 rfl rfl ?_
  refine J_putC C (k := 0) ci_Ses rfl (by decide) rfl rfl rfl (tb_in 240 (by decide +kernel) (by decide +kernel)) hnm (by omega) c55_12 (Nat.le_of_ble_eq_true rfl) (fun _ => rfl) (fun _ => rfl) d_Ses_init_60 (kk := ?_)
  obtain ⟨h13, e13⟩ : ∃ x, va_up h12 55 (.inr (4, [.ref 3, .ref 56, .ref 60, .int (nI 0), .int (nI 0), .int (nI 0), .int (nI 0), .int (nI 0), .null, .int (nI 0)])) = x := ⟨_, rfl⟩
  refine J_hh (h2 := h13) e13 ?_
  have l13 : LT h13 (61) := by rw [← e13]; exact l12.put _ (by intro v q; simp only [List.mem_cons, List.not_mem_nil, or_false] at q; rcases q with rfl | rfl | rfl | rfl | rfl | rfl | rfl | rfl | rfl | rfl; (exact okR (by omega)); (exact okR (by omega)); (exact okR (by omega)); trivial; trivial; trivial; trivial; trivial; trivial; trivial)
  have fr_13 : ∀ k, k < 55 → h13 k = h k := fun k hk => by rw [← e13]; exact (va_up_ne _ _ (by omega)).trans (fr_12 k hk)
  have p2_0q0_13 : h13 56 = .inr (5, [.ref 57, .ref 58, .ref 59, .int (nI 0), .int (nI 0)]) := by rw [← e13]; exact (va_up_ne _ _ (by omega)).trans p2_0q0_12
  have p2_1q0_13 : h13 57 = .inl (0, 60, .inl (fun _ => 0)) := by rw [← e13]; exact (va_up_ne _ _ (by omega)).trans p2_1q0_12
  have p2_2q0_13 : h13 58 = .inl (0, 8, .inl (fun _ => 0)) := by rw [← e13]; exact (va_up_ne _ _ (by omega)).trans p2_2q0_12
  have p2_3q0_13 : h13 59 = .inl (0, 8, .inl (fun _ => 0)) := by rw [← e13]; exact (va_up_ne _ _ (by omega)).trans p2_3q0_12
  have c60_13 : h13 60 = .inl (4, 4, .inr (.inr (.inr (.inr (fun _ => none))))) := by rw [← e13]; exact (va_up_ne _ _ (by omega)).trans c60_12
  have c55_13 : h13 55 = .inr (4, [.ref 3, .ref 56, .ref 60, .int (nI 0), .int (nI 0), .int (nI 0), .int (nI 0), .int (nI 0), .null, .int (nI 0)]) := by rw [← e13]; exact va_up_self _ _ _
  refine J_iconst C d_Ses_init_63 (v := nI 0) rfl ?_
  refine J_istore_n C 2 d_Ses_init_64 rfl (by decide) rfl ?_
  refine J_widen (kc' := 5 + 2 * 0) (ks' := 85 + 63 * 0) (by omega) (by omega) ?_
  exact lp 5 0 h13 (fun _ => none) (by omega) (by omega) l13 fr_13 (fun j hj => absurd hj (Nat.not_lt_zero _)) c55_13 c60_13 (fun j hj => absurd hj (Nat.not_lt_zero _)) (fun j hj => absurd hj (Nat.not_lt_zero _)) p2_0q0_13 p2_1q0_13 p2_2q0_13 p2_3q0_13
