section ZC1
variable {D : va_G} {dA : Nat → ClassId} {A : Nat → Prop} {Φ : Heap → List Loc → Prop} {ad0 : Nat → Nat} {n0 nL : Nat} {p : Program} {l : Launch} {e : Env} {R : Room} {s : State} {m : MethodId} {args : Array Value} {below : List Frame} {meth : Method} {c : Code} {Q : State → Prop} {pc : Nat} {lv : List (Option Value)} {st : List Value} {h : Nat → va_E} {n kc ks : Nat} {own : String} {cc : ByteArray}
theorem J_hh {h1 h2 : Nat → va_E} (e9 : h1 = h2) (k : J D dA A Φ ad0 n0 nL p l e R s m args below meth c Q (pc) (lv) (st) (h2) n kc ks) : J D dA A Φ ad0 n0 nL p l e R s m args below meth c Q (pc) (lv) (st) (h1) n kc ks := by subst e9; exact k
theorem J_putC (C : Cx D dA A ad0 own cc nL p R s m args meth c) {idx ci k pos : Nat} {fty : FieldType} {fs : List Value} {v : Value} {X : String} {T : u_T} {N : Nat} {ty : Nat → FieldType} (hCI : CI ci X T N ty) (hX : own = X) (hk : k < N) (hT1 : (T k).1 = X) (hfin : (T k).2.2.2 = true) (hty : ty k = fty) (hw : Cond.fieldLink own idx X (T k).2.1 (T k).2.2.1 ∈ tb) (hin2 : meth.name = "<init>") (hpos : pos < n) (he : h pos = .inr (ci, fs)) (hl : k < fs.length) (hn : ∀ ad, narrow fty (zV ad v) = zV ad v) (hf : ∀ ad, fits fty (zV ad v) = true) (hd : decode cc pc = .ok (.putfield idx, 3)) (hΦ : ∀ H locs, Φ H locs := by intros; trivial) (kk : J D dA A Φ ad0 n0 nL p l e R s m args below meth c Q (pc + 3) (lv) (st) (va_up h pos (.inr (ci, fs.set k v))) n kc ks) : J D dA A Φ ad0 n0 nL p l e R s m args below meth c Q (pc) (lv) (v :: .ref pos :: st) (h) n kc ks := by
  subst hX
  refine J_putF C ⟨own, T, N, ty, hCI, hk, hT1, hfin, hty, Or.inl hw⟩ hin2 ⟨T, N, hCI.1⟩ hpos he hl hn hf (fun T' N' q => ?_) hd hΦ kk
  have h3 := hCI.1.symm.trans q
  simp only [Option.some.injEq, Prod.mk.injEq] at h3
  obtain ⟨-, rfl, rfl⟩ := h3
  exact hw
end ZC1
theorem okR {n k : Nat} (h : k < n) : okV n (.ref k) := Or.inl h
theorem okS {n k : Nat} (h : 1000 ≤ k) : okV n (.ref k) := Or.inr h
theorem hcz (d mc ms a b : Nat) (h1 : a ≤ mc) (h2 : b ≤ ms) : a ≤ (zR d mc ms).cells ∧ b ≤ (zR d mc ms).slots := ⟨h1, h2⟩
set_option maxHeartbeats 4000000 in
set_option maxRecDepth 100000 in
theorem c_Win_init (l : Launch) (D : va_G) (dA : Nat → ClassId) (h : Nat → va_E) (o : Nat) (hn : o + 1 + 0 ≤ 900) (ho : h o = .inr (1, [.int 0, .int 0, .int 0])) (hLT : LT h (o + 1)) : CT l D dA k_Win_init 0 0 0 (o + 1) [.ref o] h (fun v h' n' => v = none ∧ n' = o + 1 + 0 ∧ LT h' n' ∧ (∀ k, k < o → h' k = h k) ∧ h' o = .inr (1, [.int (nI 0), .int (nI 1), .int (nI 1)])) := by
  refine CT.of (by decide +kernel) (Nat.le_of_ble_eq_true rfl) (by intro v hv; simp only [List.mem_cons, List.not_mem_nil, or_false] at hv; rcases hv with rfl <;> rfl) ?_
  intro A ad0 p e s m args below meth c C hr hnm
  have hfr : ∀ k, k < o → h k = h k := fun _ _ => rfl
  refine J_aload_n C 0 d_Win_init_0 rfl rfl ?_
  refine J_objInit C (tb_in 88 (by decide +kernel) (by decide +kernel)) (tb_in 81 (by decide +kernel) (by decide +kernel)) (tb_in 82 (by decide +kernel) (by decide +kernel)) (Nat.le_of_ble_eq_true rfl) d_Win_init_1 ?_
  refine J_aload_n C 0 d_Win_init_4 rfl rfl ?_
  refine J_iconst C d_Win_init_5 (v := nI 0) rfl ?_
  refine J_put C f_Win_7 (by omega) ho (Nat.le_of_ble_eq_true rfl) (fun _ => rfl) (fun _ => rfl) d_Win_init_6 (kk := ?_)
  obtain ⟨h1, e1⟩ : ∃ x, va_up h o (.inr (1, [.int (nI 0), .int 0, .int 0])) = x := ⟨_, rfl⟩
  refine J_hh (h2 := h1) e1 ?_
  have l1 : LT h1 (o + 1) := by rw [← e1]; exact hLT.put _ (by intro v q; simp only [List.mem_cons, List.not_mem_nil, or_false] at q; rcases q with rfl | rfl | rfl; trivial; trivial; trivial)
  have fr_1 : ∀ k, k < o → h1 k = h k := fun k hk => by rw [← e1]; exact (va_up_ne _ _ (by omega)).trans (hfr k hk)
  have co_1 : h1 o = .inr (1, [.int (nI 0), .int 0, .int 0]) := by rw [← e1]; exact va_up_self _ _ _
  refine J_aload_n C 0 d_Win_init_9 rfl rfl ?_
  refine J_iconst C d_Win_init_10 (v := nI 1) rfl ?_
  refine J_put C f_Win_13 (by omega) co_1 (Nat.le_of_ble_eq_true rfl) (fun _ => rfl) (fun _ => rfl) d_Win_init_11 (kk := ?_)
  obtain ⟨h2, e2⟩ : ∃ x, va_up h1 o (.inr (1, [.int (nI 0), .int (nI 1), .int 0])) = x := ⟨_, rfl⟩
  refine J_hh (h2 := h2) e2 ?_
  have l2 : LT h2 (o + 1) := by rw [← e2]; exact l1.put _ (by intro v q; simp only [List.mem_cons, List.not_mem_nil, or_false] at q; rcases q with rfl | rfl | rfl; trivial; trivial; trivial)
  have fr_2 : ∀ k, k < o → h2 k = h k := fun k hk => by rw [← e2]; exact (va_up_ne _ _ (by omega)).trans (fr_1 k hk)
  have co_2 : h2 o = .inr (1, [.int (nI 0), .int (nI 1), .int 0]) := by rw [← e2]; exact va_up_self _ _ _
  refine J_aload_n C 0 d_Win_init_14 rfl rfl ?_
  refine J_iconst C d_Win_init_15 (v := nI 1) rfl ?_
  refine J_put C f_Win_16 (by omega) co_2 (Nat.le_of_ble_eq_true rfl) (fun _ => rfl) (fun _ => rfl) d_Win_init_16 (kk := ?_)
  obtain ⟨h3, e3⟩ : ∃ x, va_up h2 o (.inr (1, [.int (nI 0), .int (nI 1), .int (nI 1)])) = x := ⟨_, rfl⟩
  refine J_hh (h2 := h3) e3 ?_
  have l3 : LT h3 (o + 1) := by rw [← e3]; exact l2.put _ (by intro v q; simp only [List.mem_cons, List.not_mem_nil, or_false] at q; rcases q with rfl | rfl | rfl; trivial; trivial; trivial)
  have fr_3 : ∀ k, k < o → h3 k = h k := fun k hk => by rw [← e3]; exact (va_up_ne _ _ (by omega)).trans (fr_2 k hk)
  have co_3 : h3 o = .inr (1, [.int (nI 0), .int (nI 1), .int (nI 1)]) := by rw [← e3]; exact va_up_self _ _ _
  refine J_widen (kc' := 0) (ks' := 0) (by omega) (by omega) ?_
  exact J_return C hr (by omega) ⟨rfl, rfl, l3, fr_3, co_3⟩ d_Win_init_19

set_option maxHeartbeats 4000000 in
set_option maxRecDepth 100000 in
theorem c_Frm_init (l : Launch) (D : va_G) (dA : Nat → ClassId) (h : Nat → va_E) (hn : 72 + 1 ≤ 900) (ho : h 71 = .inr (8, [.null, .int 0])) (hLT : LT h (72)) : CT l D dA k_Frm_init 0 1 64 (72) [.ref 71] h (fun v h' n' => v = none ∧ n' = 72 + 1 ∧ LT h' n' ∧ (∀ k, k < 71 → h' k = h k) ∧ h' 71 = .inr (8, [.ref 72, .int (nI 5)]) ∧ h' 72 = .inl (0, 64, .inl (fun _ => 0))) := by
  refine CT.of (by decide +kernel) (Nat.le_of_ble_eq_true rfl) (by intro v hv; simp only [List.mem_cons, List.not_mem_nil, or_false] at hv; rcases hv with rfl <;> rfl) ?_
  intro A ad0 p e s m args below meth c C hr hnm
  have hfr : ∀ k, k < 71 → h k = h k := fun _ _ => rfl
  refine J_aload_n C 0 d_Frm_init_0 rfl rfl ?_
  refine J_objInit C (tb_in 282 (by decide +kernel) (by decide +kernel)) (tb_in 81 (by decide +kernel) (by decide +kernel)) (tb_in 82 (by decide +kernel) (by decide +kernel)) (Nat.le_of_ble_eq_true rfl) d_Frm_init_1 ?_
  refine J_aload_n C 0 d_Frm_init_4 rfl rfl ?_
  refine J_bipush C d_Frm_init_5 (v := nI 64) rfl ?_
  refine J_newa C (t := 0) (N := 64) (ty := .int) rfl (tb_in 144 (by decide +kernel) (by decide +kernel)) (fun _ => (dA_of C.2.2.2.2.2.1).1) (f := .inl (fun _ => 0)) (fun _ => rfl) (fun _ => rfl) rfl (by decide) (by decide) hLT (by omega) (by omega) (by intro i v q; match i, q with | 0, q => obtain rfl := Option.some.inj (Option.some.inj q); exact okR (by omega) | _ + 1, q => exact absurd (show (none : Option (Option Value)) = some (some v) from q) (by simp)) (by intro v q; simp only [List.mem_cons, List.not_mem_nil, or_false] at q; rcases q with rfl; (exact okR (by omega))) (hcz _ _ _ _ _ (by omega) (by omega)) d_Frm_init_7 (kk := ?_)
  obtain ⟨h1, e1⟩ : ∃ x, va_up h 72 (.inl (0, 64, .inl (fun _ => 0))) = x := ⟨_, rfl⟩
  refine J_hh (h2 := h1) e1 ?_
  have l1 : LT h1 (72 + 1) := by rw [← e1]; exact hLT.add trivial
  have co_1 : h1 71 = .inr (8, [.null, .int 0]) := by rw [← e1]; exact (va_up_ne _ _ (by omega)).trans ho
  have fr_1 : ∀ k, k < 71 → h1 k = h k := fun k hk => by rw [← e1]; exact (va_up_ne _ _ (by omega)).trans (hfr k hk)
  have c72_1 : h1 72 = .inl (0, 64, .inl (fun _ => 0)) := by rw [← e1]; exact va_up_self _ _ _
  refine J_putC C (k := 0) ci_Frm rfl (by decide) rfl rfl rfl (tb_in 283 (by decide +kernel) (by decide +kernel)) hnm (by omega) co_1 (Nat.le_of_ble_eq_true rfl) (fun _ => rfl) (fun _ => rfl) d_Frm_init_9 (kk := ?_)
  obtain ⟨h2, e2⟩ : ∃ x, va_up h1 71 (.inr (8, [.ref 72, .int 0])) = x := ⟨_, rfl⟩
  refine J_hh (h2 := h2) e2 ?_
  have l2 : LT h2 (73) := by rw [← e2]; exact l1.put _ (by intro v q; simp only [List.mem_cons, List.not_mem_nil, or_false] at q; rcases q with rfl | rfl; (exact okR (by omega)); trivial)
  have fr_2 : ∀ k, k < 71 → h2 k = h k := fun k hk => by rw [← e2]; exact (va_up_ne _ _ (by omega)).trans (fr_1 k hk)
  have c72_2 : h2 72 = .inl (0, 64, .inl (fun _ => 0)) := by rw [← e2]; exact (va_up_ne _ _ (by omega)).trans c72_1
  have c71_2 : h2 71 = .inr (8, [.ref 72, .int 0]) := by rw [← e2]; exact va_up_self _ _ _
  refine J_aload_n C 0 d_Frm_init_12 rfl rfl ?_
  refine J_iconst C d_Frm_init_13 (v := nI 5) rfl ?_
  refine J_put C f_Frm_13 (by omega) c71_2 (Nat.le_of_ble_eq_true rfl) (fun _ => rfl) (fun _ => rfl) d_Frm_init_14 (kk := ?_)
  obtain ⟨h3, e3⟩ : ∃ x, va_up h2 71 (.inr (8, [.ref 72, .int (nI 5)])) = x := ⟨_, rfl⟩
  refine J_hh (h2 := h3) e3 ?_
  have l3 : LT h3 (73) := by rw [← e3]; exact l2.put _ (by intro v q; simp only [List.mem_cons, List.not_mem_nil, or_false] at q; rcases q with rfl | rfl; (exact okR (by omega)); trivial)
  have fr_3 : ∀ k, k < 71 → h3 k = h k := fun k hk => by rw [← e3]; exact (va_up_ne _ _ (by omega)).trans (fr_2 k hk)
  have c72_3 : h3 72 = .inl (0, 64, .inl (fun _ => 0)) := by rw [← e3]; exact (va_up_ne _ _ (by omega)).trans c72_2
  have c71_3 : h3 71 = .inr (8, [.ref 72, .int (nI 5)]) := by rw [← e3]; exact va_up_self _ _ _
  refine J_widen (kc' := 1) (ks' := 64) (by omega) (by omega) ?_
  exact J_return C hr (by omega) ⟨rfl, rfl, l3, fr_3, c71_3, c72_3⟩ d_Frm_init_17

set_option maxHeartbeats 4000000 in
set_option maxRecDepth 100000 in
theorem c_Har_init (l : Launch) (D : va_G) (dA : Nat → ClassId) (h : Nat → va_E) (hn : 57 + 3 ≤ 900) (ho : h 56 = .inr (5, [.null, .null, .null, .int 0, .int 0])) (hLT : LT h (57)) : CT l D dA k_Har_init 0 3 76 (57) [.ref 56] h (fun v h' n' => v = none ∧ n' = 57 + 3 ∧ LT h' n' ∧ (∀ k, k < 56 → h' k = h k) ∧ h' 56 = .inr (5, [.ref 57, .ref 58, .ref 59, .int (nI 0), .int (nI 0)]) ∧ h' 57 = .inl (0, 60, .inl (fun _ => 0)) ∧ h' 58 = .inl (0, 8, .inl (fun _ => 0)) ∧ h' 59 = .inl (0, 8, .inl (fun _ => 0))) := by
  refine CT.of (by decide +kernel) (Nat.le_of_ble_eq_true rfl) (by intro v hv; simp only [List.mem_cons, List.not_mem_nil, or_false] at hv; rcases hv with rfl <;> rfl) ?_
  intro A ad0 p e s m args below meth c C hr hnm
  have hfr : ∀ k, k < 56 → h k = h k := fun _ _ => rfl
  refine J_aload_n C 0 d_Har_init_0 rfl rfl ?_
  refine J_objInit C (tb_in 197 (by decide +kernel) (by decide +kernel)) (tb_in 81 (by decide +kernel) (by decide +kernel)) (tb_in 82 (by decide +kernel) (by decide +kernel)) (Nat.le_of_ble_eq_true rfl) d_Har_init_1 ?_
  refine J_aload_n C 0 d_Har_init_4 rfl rfl ?_
  refine J_bipush C d_Har_init_5 (v := nI 60) rfl ?_
  refine J_newa C (t := 0) (N := 60) (ty := .int) rfl (tb_in 144 (by decide +kernel) (by decide +kernel)) (fun _ => (dA_of C.2.2.2.2.2.1).1) (f := .inl (fun _ => 0)) (fun _ => rfl) (fun _ => rfl) rfl (by decide) (by decide) hLT (by omega) (by omega) (by intro i v q; match i, q with | 0, q => obtain rfl := Option.some.inj (Option.some.inj q); exact okR (by omega) | _ + 1, q => exact absurd (show (none : Option (Option Value)) = some (some v) from q) (by simp)) (by intro v q; simp only [List.mem_cons, List.not_mem_nil, or_false] at q; rcases q with rfl; (exact okR (by omega))) (hcz _ _ _ _ _ (by omega) (by omega)) d_Har_init_7 (kk := ?_)
  obtain ⟨h1, e1⟩ : ∃ x, va_up h 57 (.inl (0, 60, .inl (fun _ => 0))) = x := ⟨_, rfl⟩
  refine J_hh (h2 := h1) e1 ?_
  have l1 : LT h1 (57 + 1) := by rw [← e1]; exact hLT.add trivial
  have co_1 : h1 56 = .inr (5, [.null, .null, .null, .int 0, .int 0]) := by rw [← e1]; exact (va_up_ne _ _ (by omega)).trans ho
  have fr_1 : ∀ k, k < 56 → h1 k = h k := fun k hk => by rw [← e1]; exact (va_up_ne _ _ (by omega)).trans (hfr k hk)
  have c57_1 : h1 57 = .inl (0, 60, .inl (fun _ => 0)) := by rw [← e1]; exact va_up_self _ _ _
  refine J_putC C (k := 0) ci_Har rfl (by decide) rfl rfl rfl (tb_in 198 (by decide +kernel) (by decide +kernel)) hnm (by omega) co_1 (Nat.le_of_ble_eq_true rfl) (fun _ => rfl) (fun _ => rfl) d_Har_init_9 (kk := ?_)
  obtain ⟨h2, e2⟩ : ∃ x, va_up h1 56 (.inr (5, [.ref 57, .null, .null, .int 0, .int 0])) = x := ⟨_, rfl⟩
  refine J_hh (h2 := h2) e2 ?_
  have l2 : LT h2 (58) := by rw [← e2]; exact l1.put _ (by intro v q; simp only [List.mem_cons, List.not_mem_nil, or_false] at q; rcases q with rfl | rfl | rfl | rfl | rfl; (exact okR (by omega)); trivial; trivial; trivial; trivial)
  have fr_2 : ∀ k, k < 56 → h2 k = h k := fun k hk => by rw [← e2]; exact (va_up_ne _ _ (by omega)).trans (fr_1 k hk)
  have c57_2 : h2 57 = .inl (0, 60, .inl (fun _ => 0)) := by rw [← e2]; exact (va_up_ne _ _ (by omega)).trans c57_1
  have c56_2 : h2 56 = .inr (5, [.ref 57, .null, .null, .int 0, .int 0]) := by rw [← e2]; exact va_up_self _ _ _
  refine J_aload_n C 0 d_Har_init_12 rfl rfl ?_
  refine J_bipush C d_Har_init_13 (v := nI 8) rfl ?_
  refine J_newa C (t := 0) (N := 8) (ty := .int) rfl (tb_in 144 (by decide +kernel) (by decide +kernel)) (fun _ => (dA_of C.2.2.2.2.2.1).1) (f := .inl (fun _ => 0)) (fun _ => rfl) (fun _ => rfl) rfl (by decide) (by decide) l2 (by omega) (by omega) (by intro i v q; match i, q with | 0, q => obtain rfl := Option.some.inj (Option.some.inj q); exact okR (by omega) | _ + 1, q => exact absurd (show (none : Option (Option Value)) = some (some v) from q) (by simp)) (by intro v q; simp only [List.mem_cons, List.not_mem_nil, or_false] at q; rcases q with rfl; (exact okR (by omega))) (hcz _ _ _ _ _ (by omega) (by omega)) d_Har_init_15 (kk := ?_)
  obtain ⟨h3, e3⟩ : ∃ x, va_up h2 58 (.inl (0, 8, .inl (fun _ => 0))) = x := ⟨_, rfl⟩
  refine J_hh (h2 := h3) e3 ?_
  have l3 : LT h3 (58 + 1) := by rw [← e3]; exact l2.add trivial
  have fr_3 : ∀ k, k < 56 → h3 k = h k := fun k hk => by rw [← e3]; exact (va_up_ne _ _ (by omega)).trans (fr_2 k hk)
  have c57_3 : h3 57 = .inl (0, 60, .inl (fun _ => 0)) := by rw [← e3]; exact (va_up_ne _ _ (by omega)).trans c57_2
  have c56_3 : h3 56 = .inr (5, [.ref 57, .null, .null, .int 0, .int 0]) := by rw [← e3]; exact (va_up_ne _ _ (by omega)).trans c56_2
  have c58_3 : h3 58 = .inl (0, 8, .inl (fun _ => 0)) := by rw [← e3]; exact va_up_self _ _ _
  refine J_putC C (k := 1) ci_Har rfl (by decide) rfl rfl rfl (tb_in 201 (by decide +kernel) (by decide +kernel)) hnm (by omega) c56_3 (Nat.le_of_ble_eq_true rfl) (fun _ => rfl) (fun _ => rfl) d_Har_init_17 (kk := ?_)
  obtain ⟨h4, e4⟩ : ∃ x, va_up h3 56 (.inr (5, [.ref 57, .ref 58, .null, .int 0, .int 0])) = x := ⟨_, rfl⟩
  refine J_hh (h2 := h4) e4 ?_
  have l4 : LT h4 (59) := by rw [← e4]; exact l3.put _ (by intro v q; simp only [List.mem_cons, List.not_mem_nil, or_false] at q; rcases q with rfl | rfl | rfl | rfl | rfl; (exact okR (by omega)); (exact okR (by omega)); trivial; trivial; trivial)
  have fr_4 : ∀ k, k < 56 → h4 k = h k := fun k hk => by rw [← e4]; exact (va_up_ne _ _ (by omega)).trans (fr_3 k hk)
  have c57_4 : h4 57 = .inl (0, 60, .inl (fun _ => 0)) := by rw [← e4]; exact (va_up_ne _ _ (by omega)).trans c57_3
  have c58_4 : h4 58 = .inl (0, 8, .inl (fun _ => 0)) := by rw [← e4]; exact (va_up_ne _ _ (by omega)).trans c58_3
  have c56_4 : h4 56 = .inr (5, [.ref 57, .ref 58, .null, .int 0, .int 0]) := by rw [← e4]; exact va_up_self _ _ _
  refine J_aload_n C 0 d_Har_init_20 rfl rfl ?_
  refine J_bipush C d_Har_init_21 (v := nI 8) rfl ?_
  refine J_newa C (t := 0) (N := 8) (ty := .int) rfl (tb_in 144 (by decide +kernel) (by decide +kernel)) (fun _ => (dA_of C.2.2.2.2.2.1).1) (f := .inl (fun _ => 0)) (fun _ => rfl) (fun _ => rfl) rfl (by decide) (by decide) l4 (by omega) (by omega) (by intro i v q; match i, q with | 0, q => obtain rfl := Option.some.inj (Option.some.inj q); exact okR (by omega) | _ + 1, q => exact absurd (show (none : Option (Option Value)) = some (some v) from q) (by simp)) (by intro v q; simp only [List.mem_cons, List.not_mem_nil, or_false] at q; rcases q with rfl; (exact okR (by omega))) (hcz _ _ _ _ _ (by omega) (by omega)) d_Har_init_23 (kk := ?_)
  obtain ⟨h5, e5⟩ : ∃ x, va_up h4 59 (.inl (0, 8, .inl (fun _ => 0))) = x := ⟨_, rfl⟩
  refine J_hh (h2 := h5) e5 ?_
  have l5 : LT h5 (59 + 1) := by rw [← e5]; exact l4.add trivial
  have fr_5 : ∀ k, k < 56 → h5 k = h k := fun k hk => by rw [← e5]; exact (va_up_ne _ _ (by omega)).trans (fr_4 k hk)
  have c57_5 : h5 57 = .inl (0, 60, .inl (fun _ => 0)) := by rw [← e5]; exact (va_up_ne _ _ (by omega)).trans c57_4
  have c58_5 : h5 58 = .inl (0, 8, .inl (fun _ => 0)) := by rw [← e5]; exact (va_up_ne _ _ (by omega)).trans c58_4
  have c56_5 : h5 56 = .inr (5, [.ref 57, .ref 58, .null, .int 0, .int 0]) := by rw [← e5]; exact (va_up_ne _ _ (by omega)).trans c56_4
  have c59_5 : h5 59 = .inl (0, 8, .inl (fun _ => 0)) := by rw [← e5]; exact va_up_self _ _ _
  refine J_putC C (k := 2) ci_Har rfl (by decide) rfl rfl rfl (tb_in 203 (by decide +kernel) (by decide +kernel)) hnm (by omega) c56_5 (Nat.le_of_ble_eq_true rfl) (fun _ => rfl) (fun _ => rfl) d_Har_init_25 (kk := ?_)
  obtain ⟨h6, e6⟩ : ∃ x, va_up h5 56 (.inr (5, [.ref 57, .ref 58, .ref 59, .int 0, .int 0])) = x := ⟨_, rfl⟩
  refine J_hh (h2 := h6) e6 ?_
  have l6 : LT h6 (60) := by rw [← e6]; exact l5.put _ (by intro v q; simp only [List.mem_cons, List.not_mem_nil, or_false] at q; rcases q with rfl | rfl | rfl | rfl | rfl; (exact okR (by omega)); (exact okR (by omega)); (exact okR (by omega)); trivial; trivial)
  have fr_6 : ∀ k, k < 56 → h6 k = h k := fun k hk => by rw [← e6]; exact (va_up_ne _ _ (by omega)).trans (fr_5 k hk)
  have c57_6 : h6 57 = .inl (0, 60, .inl (fun _ => 0)) := by rw [← e6]; exact (va_up_ne _ _ (by omega)).trans c57_5
  have c58_6 : h6 58 = .inl (0, 8, .inl (fun _ => 0)) := by rw [← e6]; exact (va_up_ne _ _ (by omega)).trans c58_5
  have c59_6 : h6 59 = .inl (0, 8, .inl (fun _ => 0)) := by rw [← e6]; exact (va_up_ne _ _ (by omega)).trans c59_5
  have c56_6 : h6 56 = .inr (5, [.ref 57, .ref 58, .ref 59, .int 0, .int 0]) := by rw [← e6]; exact va_up_self _ _ _
  refine J_aload_n C 0 d_Har_init_28 rfl rfl ?_
  refine J_iconst C d_Har_init_29 (v := nI 0) rfl ?_
  refine J_put C f_Har_21 (by omega) c56_6 (Nat.le_of_ble_eq_true rfl) (fun _ => rfl) (fun _ => rfl) d_Har_init_30 (kk := ?_)
  obtain ⟨h7, e7⟩ : ∃ x, va_up h6 56 (.inr (5, [.ref 57, .ref 58, .ref 59, .int (nI 0), .int 0])) = x := ⟨_, rfl⟩
  refine J_hh (h2 := h7) e7 ?_
  have l7 : LT h7 (60) := by rw [← e7]; exact l6.put _ (by intro v q; simp only [List.mem_cons, List.not_mem_nil, or_false] at q; rcases q with rfl | rfl | rfl | rfl | rfl; (exact okR (by omega)); (exact okR (by omega)); (exact okR (by omega)); trivial; trivial)
  have fr_7 : ∀ k, k < 56 → h7 k = h k := fun k hk => by rw [← e7]; exact (va_up_ne _ _ (by omega)).trans (fr_6 k hk)
  have c57_7 : h7 57 = .inl (0, 60, .inl (fun _ => 0)) := by rw [← e7]; exact (va_up_ne _ _ (by omega)).trans c57_6
  have c58_7 : h7 58 = .inl (0, 8, .inl (fun _ => 0)) := by rw [← e7]; exact (va_up_ne _ _ (by omega)).trans c58_6
  have c59_7 : h7 59 = .inl (0, 8, .inl (fun _ => 0)) := by rw [← e7]; exact (va_up_ne _ _ (by omega)).trans c59_6
  have c56_7 : h7 56 = .inr (5, [.ref 57, .ref 58, .ref 59, .int (nI 0), .int 0]) := by rw [← e7]; exact va_up_self _ _ _
  refine J_aload_n C 0 d_Har_init_33 rfl rfl ?_
  refine J_iconst C d_Har_init_34 (v := nI 0) rfl ?_
  refine J_put C f_Har_25 (by omega) c56_7 (Nat.le_of_ble_eq_true rfl) (fun _ => rfl) (fun _ => rfl) d_Har_init_35 (kk := ?_)
  obtain ⟨h8, e8⟩ : ∃ x, va_up h7 56 (.inr (5, [.ref 57, .ref 58, .ref 59, .int (nI 0), .int (nI 0)])) = x := ⟨_, rfl⟩
  refine J_hh (h2 := h8) e8 ?_
  have l8 : LT h8 (60) := by rw [← e8]; exact l7.put _ (by intro v q; simp only [List.mem_cons, List.not_mem_nil, or_false] at q; rcases q with rfl | rfl | rfl | rfl | rfl; (exact okR (by omega)); (exact okR (by omega)); (exact okR (by omega)); trivial; trivial)
  have fr_8 : ∀ k, k < 56 → h8 k = h k := fun k hk => by rw [← e8]; exact (va_up_ne _ _ (by omega)).trans (fr_7 k hk)
  have c57_8 : h8 57 = .inl (0, 60, .inl (fun _ => 0)) := by rw [← e8]; exact (va_up_ne _ _ (by omega)).trans c57_7
  have c58_8 : h8 58 = .inl (0, 8, .inl (fun _ => 0)) := by rw [← e8]; exact (va_up_ne _ _ (by omega)).trans c58_7
  have c59_8 : h8 59 = .inl (0, 8, .inl (fun _ => 0)) := by rw [← e8]; exact (va_up_ne _ _ (by omega)).trans c59_7
  have c56_8 : h8 56 = .inr (5, [.ref 57, .ref 58, .ref 59, .int (nI 0), .int (nI 0)]) := by rw [← e8]; exact va_up_self _ _ _
  refine J_widen (kc' := 3) (ks' := 76) (by omega) (by omega) ?_
  exact J_return C hr (by omega) ⟨rfl, rfl, l8, fr_8, c56_8, c57_8, c58_8, c59_8⟩ d_Har_init_38

set_option maxHeartbeats 4000000 in
set_option maxRecDepth 100000 in
theorem c_Ear_init (l : Launch) (D : va_G) (dA : Nat → ClassId) (h : Nat → va_E) (hn : 74 + 2 ≤ 900) (ho : h 73 = .inr (9, [.null, .null, .int 0])) (hLT : LT h (74)) : CT l D dA k_Ear_init 0 2 34 (74) [.ref 73] h (fun v h' n' => v = none ∧ n' = 74 + 2 ∧ LT h' n' ∧ (∀ k, k < 73 → h' k = h k) ∧ h' 73 = .inr (9, [.ref 74, .ref 75, .int (nI 0)]) ∧ h' 74 = .inl (0, 32, .inl (fun _ => 0)) ∧ h' 75 = .inl (0, 2, .inl (fun _ => 0))) := by
  refine CT.of (by decide +kernel) (Nat.le_of_ble_eq_true rfl) (by intro v hv; simp only [List.mem_cons, List.not_mem_nil, or_false] at hv; rcases hv with rfl <;> rfl) ?_
  intro A ad0 p e s m args below meth c C hr hnm
  have hfr : ∀ k, k < 73 → h k = h k := fun _ _ => rfl
  refine J_aload_n C 0 d_Ear_init_0 rfl rfl ?_
  refine J_objInit C (tb_in 306 (by decide +kernel) (by decide +kernel)) (tb_in 81 (by decide +kernel) (by decide +kernel)) (tb_in 82 (by decide +kernel) (by decide +kernel)) (Nat.le_of_ble_eq_true rfl) d_Ear_init_1 ?_
  refine J_aload_n C 0 d_Ear_init_4 rfl rfl ?_
  refine J_bipush C d_Ear_init_5 (v := nI 32) rfl ?_
  refine J_newa C (t := 0) (N := 32) (ty := .int) rfl (tb_in 144 (by decide +kernel) (by decide +kernel)) (fun _ => (dA_of C.2.2.2.2.2.1).1) (f := .inl (fun _ => 0)) (fun _ => rfl) (fun _ => rfl) rfl (by decide) (by decide) hLT (by omega) (by omega) (by intro i v q; match i, q with | 0, q => obtain rfl := Option.some.inj (Option.some.inj q); exact okR (by omega) | _ + 1, q => exact absurd (show (none : Option (Option Value)) = some (some v) from q) (by simp)) (by intro v q; simp only [List.mem_cons, List.not_mem_nil, or_false] at q; rcases q with rfl; (exact okR (by omega))) (hcz _ _ _ _ _ (by omega) (by omega)) d_Ear_init_7 (kk := ?_)
  obtain ⟨h1, e1⟩ : ∃ x, va_up h 74 (.inl (0, 32, .inl (fun _ => 0))) = x := ⟨_, rfl⟩
  refine J_hh (h2 := h1) e1 ?_
  have l1 : LT h1 (74 + 1) := by rw [← e1]; exact hLT.add trivial
  have co_1 : h1 73 = .inr (9, [.null, .null, .int 0]) := by rw [← e1]; exact (va_up_ne _ _ (by omega)).trans ho
  have fr_1 : ∀ k, k < 73 → h1 k = h k := fun k hk => by rw [← e1]; exact (va_up_ne _ _ (by omega)).trans (hfr k hk)
  have c74_1 : h1 74 = .inl (0, 32, .inl (fun _ => 0)) := by rw [← e1]; exact va_up_self _ _ _
  refine J_putC C (k := 0) ci_Ear rfl (by decide) rfl rfl rfl (tb_in 307 (by decide +kernel) (by decide +kernel)) hnm (by omega) co_1 (Nat.le_of_ble_eq_true rfl) (fun _ => rfl) (fun _ => rfl) d_Ear_init_9 (kk := ?_)
  obtain ⟨h2, e2⟩ : ∃ x, va_up h1 73 (.inr (9, [.ref 74, .null, .int 0])) = x := ⟨_, rfl⟩
  refine J_hh (h2 := h2) e2 ?_
  have l2 : LT h2 (75) := by rw [← e2]; exact l1.put _ (by intro v q; simp only [List.mem_cons, List.not_mem_nil, or_false] at q; rcases q with rfl | rfl | rfl; (exact okR (by omega)); trivial; trivial)
  have fr_2 : ∀ k, k < 73 → h2 k = h k := fun k hk => by rw [← e2]; exact (va_up_ne _ _ (by omega)).trans (fr_1 k hk)
  have c74_2 : h2 74 = .inl (0, 32, .inl (fun _ => 0)) := by rw [← e2]; exact (va_up_ne _ _ (by omega)).trans c74_1
  have c73_2 : h2 73 = .inr (9, [.ref 74, .null, .int 0]) := by rw [← e2]; exact va_up_self _ _ _
  refine J_aload_n C 0 d_Ear_init_12 rfl rfl ?_
  refine J_iconst C d_Ear_init_13 (v := nI 2) rfl ?_
  refine J_newa C (t := 0) (N := 2) (ty := .int) rfl (tb_in 144 (by decide +kernel) (by decide +kernel)) (fun _ => (dA_of C.2.2.2.2.2.1).1) (f := .inl (fun _ => 0)) (fun _ => rfl) (fun _ => rfl) rfl (by decide) (by decide) l2 (by omega) (by omega) (by intro i v q; match i, q with | 0, q => obtain rfl := Option.some.inj (Option.some.inj q); exact okR (by omega) | _ + 1, q => exact absurd (show (none : Option (Option Value)) = some (some v) from q) (by simp)) (by intro v q; simp only [List.mem_cons, List.not_mem_nil, or_false] at q; rcases q with rfl; (exact okR (by omega))) (hcz _ _ _ _ _ (by omega) (by omega)) d_Ear_init_14 (kk := ?_)
  obtain ⟨h3, e3⟩ : ∃ x, va_up h2 75 (.inl (0, 2, .inl (fun _ => 0))) = x := ⟨_, rfl⟩
  refine J_hh (h2 := h3) e3 ?_
  have l3 : LT h3 (75 + 1) := by rw [← e3]; exact l2.add trivial
  have fr_3 : ∀ k, k < 73 → h3 k = h k := fun k hk => by rw [← e3]; exact (va_up_ne _ _ (by omega)).trans (fr_2 k hk)
  have c74_3 : h3 74 = .inl (0, 32, .inl (fun _ => 0)) := by rw [← e3]; exact (va_up_ne _ _ (by omega)).trans c74_2
  have c73_3 : h3 73 = .inr (9, [.ref 74, .null, .int 0]) := by rw [← e3]; exact (va_up_ne _ _ (by omega)).trans c73_2
  have c75_3 : h3 75 = .inl (0, 2, .inl (fun _ => 0)) := by rw [← e3]; exact va_up_self _ _ _
  refine J_putC C (k := 1) ci_Ear rfl (by decide) rfl rfl rfl (tb_in 309 (by decide +kernel) (by decide +kernel)) hnm (by omega) c73_3 (Nat.le_of_ble_eq_true rfl) (fun _ => rfl) (fun _ => rfl) d_Ear_init_16 (kk := ?_)
  obtain ⟨h4, e4⟩ : ∃ x, va_up h3 73 (.inr (9, [.ref 74, .ref 75, .int 0])) = x := ⟨_, rfl⟩
  refine J_hh (h2 := h4) e4 ?_
  have l4 : LT h4 (76) := by rw [← e4]; exact l3.put _ (by intro v q; simp only [List.mem_cons, List.not_mem_nil, or_false] at q; rcases q with rfl | rfl | rfl; (exact okR (by omega)); (exact okR (by omega)); trivial)
  have fr_4 : ∀ k, k < 73 → h4 k = h k := fun k hk => by rw [← e4]; exact (va_up_ne _ _ (by omega)).trans (fr_3 k hk)
  have c74_4 : h4 74 = .inl (0, 32, .inl (fun _ => 0)) := by rw [← e4]; exact (va_up_ne _ _ (by omega)).trans c74_3
  have c75_4 : h4 75 = .inl (0, 2, .inl (fun _ => 0)) := by rw [← e4]; exact (va_up_ne _ _ (by omega)).trans c75_3
  have c73_4 : h4 73 = .inr (9, [.ref 74, .ref 75, .int 0]) := by rw [← e4]; exact va_up_self _ _ _
  refine J_aload_n C 0 d_Ear_init_19 rfl rfl ?_
  refine J_iconst C d_Ear_init_20 (v := nI 0) rfl ?_
  refine J_put C f_Ear_18 (by omega) c73_4 (Nat.le_of_ble_eq_true rfl) (fun _ => rfl) (fun _ => rfl) d_Ear_init_21 (kk := ?_)
  obtain ⟨h5, e5⟩ : ∃ x, va_up h4 73 (.inr (9, [.ref 74, .ref 75, .int (nI 0)])) = x := ⟨_, rfl⟩
  refine J_hh (h2 := h5) e5 ?_
  have l5 : LT h5 (76) := by rw [← e5]; exact l4.put _ (by intro v q; simp only [List.mem_cons, List.not_mem_nil, or_false] at q; rcases q with rfl | rfl | rfl; (exact okR (by omega)); (exact okR (by omega)); trivial)
  have fr_5 : ∀ k, k < 73 → h5 k = h k := fun k hk => by rw [← e5]; exact (va_up_ne _ _ (by omega)).trans (fr_4 k hk)
  have c74_5 : h5 74 = .inl (0, 32, .inl (fun _ => 0)) := by rw [← e5]; exact (va_up_ne _ _ (by omega)).trans c74_4
  have c75_5 : h5 75 = .inl (0, 2, .inl (fun _ => 0)) := by rw [← e5]; exact (va_up_ne _ _ (by omega)).trans c75_4
  have c73_5 : h5 73 = .inr (9, [.ref 74, .ref 75, .int (nI 0)]) := by rw [← e5]; exact va_up_self _ _ _
  refine J_widen (kc' := 2) (ks' := 34) (by omega) (by omega) ?_
  exact J_return C hr (by omega) ⟨rfl, rfl, l5, fr_5, c73_5, c74_5, c75_5⟩ d_Ear_init_24
