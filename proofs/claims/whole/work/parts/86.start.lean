section ZS6
variable {D : va_G} {dA : Nat → ClassId} {A : Nat → Prop} {Φ : Heap → List Loc → Prop} {ad0 : Nat → Nat} {n0 nL : Nat} {p : Program} {l : Launch} {e : Env} {R : Room} {s : State} {m : MethodId} {args : Array Value} {below : List Frame} {meth : Method} {c : Code} {Q : State → Prop} {pc : Nat} {lv : List (Option Value)} {st : List Value} {h : Nat → va_E} {n kc ks : Nat} {own : String} {cc : ByteArray}
theorem J_base {n9 : Nat} (k : ∀ ad1 : Nat → Nat, (∀ k, n9 ≤ k → ad1 k = ad0 k) → J D dA A Φ ad1 n9 nL p l e R s m args below meth c Q (pc) (lv) (st) (h) n9 kc ks) : J D dA A Φ ad0 0 nL p l e R s m args below meth c Q (pc) (lv) (st) (h) n9 kc ks := fun ad H locs ls h0 hP hD hS hF hL => k ad (fun k hk => h0 k (Or.inr hk)) ad H locs ls (fun _ _ => rfl) hP hD hS hF hL
end ZS6
theorem st_tb {b : Nat} {s : State} (hts : ∀ w ∈ lw_tbl, w.before #[Value.ref b] s = true) (hgv : (Jvm.Cond.and given_1 narrow_1).before #[Value.ref b] s = true) : ∀ w ∈ tb, w.before #[Value.ref b] s = true := by
  intro w hw
  have h1 := (List.mem_filter.mp hw).1
  rcases List.mem_append.mp h1 with h | h
  · exact hts w h
  · have hs := flat_of_before _ hgv
    simp only [zNC, List.mem_cons, List.not_mem_nil, or_false] at h
    rcases h with rfl | rfl | rfl | rfl <;> exact hs _ (by decide +kernel)
theorem st_ro {b : Nat} {s : State} (htb : ∀ w ∈ tb, w.before #[Value.ref b] s = true) (hgv : (Jvm.Cond.and given_1 narrow_1).before #[Value.ref b] s = true) (hl1 : (Cond.laysStatic "RelayOrbiter$LanderLink" "MARK" "[I").before #[Value.ref b] s = true) (hl2 : (Cond.laysStatic "java/lang/Throwable" "UNASSIGNED_STACK" "[Ljava/lang/StackTraceElement;").before #[Value.ref b] s = true) (hl3 : (Cond.laysStatic "java/lang/Throwable" "SUPPRESSED_SENTINEL" "Ljava/util/List;").before #[Value.ref b] s = true) (hi : (Cond.initialized "RelayOrbiter$LanderLink").before #[Value.ref b] s = true) : ∃ aM, zRO (fun q => s.heap.size ≤ q) aM s s.heap := by
  have hs := flat_of_before _ hgv
  have hA : ∀ a : Nat, a < s.heap.size → ¬ (fun q => s.heap.size ≤ q) a := fun a h => Nat.not_le.mpr h
  have e0 := va_eqt (hs (.eq (.elem (.static "RelayOrbiter$LanderLink" "MARK" "[I") (.int 0)) (.int 250)) (by decide +kernel))
  have e1 := va_eqt (hs (.eq (.elem (.static "RelayOrbiter$LanderLink" "MARK" "[I") (.int 1)) (.int 243)) (by decide +kernel))
  have e2 := va_eqt (hs (.eq (.elem (.static "RelayOrbiter$LanderLink" "MARK" "[I") (.int 2)) (.int 32)) (by decide +kernel))
  have el := va_eqt (hs (.eq (.length (.static "RelayOrbiter$LanderLink" "MARK" "[I")) (.int 3)) (by decide +kernel))
  obtain ⟨aM, h1, h2⟩ := va_Tof (N := 3) (f := zMark) (A := fun q => s.heap.size ≤ q) (by decide) (hs (.arrayOf (.static "RelayOrbiter$LanderLink" "MARK" "[I") .int) (by decide +kernel)) el (fun j hj => by
    match j, hj with
    | 0, _ => exact e0
    | 1, _ => exact e1
    | 2, _ => exact e2
    | _ + 3, hj => exact absurd hj (by omega)) hA
  exact ⟨aM, va_Zof hl1 hi h1 hA, h2, zSC.of hl2 (hs _ (by decide +kernel)) hA, zSC.of hl3 (hs _ (by decide +kernel)) hA⟩
theorem st_dA {s : State} {args : Array Value} (h0 : (Cond.arrayClass .int).before args s = true) (h1 : (Cond.arrayClass .boolean).before args s = true) (h2 : (Cond.arrayClass .long).before args s = true) (h3 : (Cond.arrayOver (.object "RelayOrbiter$Packet")).before args s = true) (h4 : (Cond.arrayOver (.object "RelayOrbiter$Stream")).before args s = true) : ∃ dA : Nat → ClassId, ∀ (k : Nat) (q : ClassId × FieldType), (tyL dA)[k]? = some q → ArrOfT s q.1 q.2 ∧ va_RA s q.1 q.2 := by
  obtain ⟨c0, k0, p0, a0, b0, d0⟩ := Cond.arrayClass_spec h0
  obtain ⟨c1, k1, p1, a1, b1, d1⟩ := Cond.arrayClass_spec h1
  obtain ⟨c2, k2, p2, a2, b2, d2⟩ := Cond.arrayClass_spec h2
  obtain ⟨p3, c3, k3, x3, y3, z3, u3, w3⟩ := Cond.arrayOver_spec h3
  obtain ⟨p4, c4, k4, x4, y4, z4, u4, w4⟩ := Cond.arrayOver_spec h4
  refine ⟨fun k => match k with | 0 => c0 | 1 => c1 | 2 => c2 | 3 => c3 | _ => c4, fun k q hq => ?_⟩
  match k, hq with
  | 0, hq => obtain rfl := Option.some.inj hq; exact ⟨fun N z => ⟨(fun q hq => by cases hq), k0, b0, p0, d0⟩, a0⟩
  | 1, hq => obtain rfl := Option.some.inj hq; exact ⟨fun N z => ⟨(fun q hq => by cases hq), k1, b1, p1, d1⟩, a1⟩
  | 2, hq => obtain rfl := Option.some.inj hq; exact ⟨fun N z => ⟨(fun q hq => by cases hq), k2, b2, p2, d2⟩, a2⟩
  | 3, hq => obtain rfl := Option.some.inj hq; exact ⟨fun N z => ⟨(fun q hq => by cases hq), k3, z3, p3, u3⟩, k3, p3, z3, u3, x3, w3⟩
  | 4, hq => obtain rfl := Option.some.inj hq; exact ⟨fun N z => ⟨(fun q hq => by cases hq), k4, z4, p4, u4⟩, k4, p4, z4, u4, x4, w4⟩
  | k + 5, hq => exact absurd (show (none : Option (ClassId × FieldType)) = some q from hq) (by simp)
theorem st_D {b : Nat} {s : State} (htb : ∀ w ∈ tb, w.before #[Value.ref b] s = true) : ∃ D : va_G, ∀ (k : Nat) (q : vw_C), cls[k]? = some q → u_Kn s q.1 q.2.1 q.2.2 (D.1 k) (D.2 k) := by
  obtain ⟨c0, i0, hK0⟩ := u_known (C := R_Orb) (T := T_Orb) (N := 7) (n := 7) htb in_tb.1 (htb _ (tb_in 76 (by decide +kernel) (by decide +kernel)))
  obtain ⟨c1, i1, hK1⟩ := u_known (C := R_Win) (T := T_Win) (N := 3) (n := 3) htb in_tb.2.1 (htb _ (tb_in 84 (by decide +kernel) (by decide +kernel)))
  obtain ⟨c2, i2, hK2⟩ := u_known (C := R_Sto) (T := T_Sto) (N := 10) (n := 10) htb in_tb.2.2.1 (htb _ (tb_in 100 (by decide +kernel) (by decide +kernel)))
  obtain ⟨c3, i3, hK3⟩ := u_known (C := R_Pkt) (T := T_Pkt) (N := 5) (n := 5) htb in_tb.2.2.2.1 (htb _ (tb_in 107 (by decide +kernel) (by decide +kernel)))
  obtain ⟨c4, i4, hK4⟩ := u_known (C := R_Ses) (T := T_Ses) (N := 10) (n := 10) htb in_tb.2.2.2.2.1 (htb _ (tb_in 187 (by decide +kernel) (by decide +kernel)))
  obtain ⟨c5, i5, hK5⟩ := u_known (C := R_Har) (T := T_Har) (N := 5) (n := 5) htb in_tb.2.2.2.2.2.1 (htb _ (tb_in 193 (by decide +kernel) (by decide +kernel)))
  obtain ⟨c6, i6, hK6⟩ := u_known (C := R_Str) (T := T_Str) (N := 3) (n := 3) htb in_tb.2.2.2.2.2.2.1 (htb _ (tb_in 222 (by decide +kernel) (by decide +kernel)))
  obtain ⟨c7, i7, hK7⟩ := u_known (C := R_Lan) (T := T_Lan) (N := 3) (n := 3) htb in_tb.2.2.2.2.2.2.2.1 (htb _ (tb_in 272 (by decide +kernel) (by decide +kernel)))
  obtain ⟨c8, i8, hK8⟩ := u_known (C := R_Frm) (T := T_Frm) (N := 2) (n := 2) htb in_tb.2.2.2.2.2.2.2.2.1 (htb _ (tb_in 278 (by decide +kernel) (by decide +kernel)))
  obtain ⟨c9, i9, hK9⟩ := u_known (C := R_Ear) (T := T_Ear) (N := 3) (n := 3) htb in_tb.2.2.2.2.2.2.2.2.2.1 (htb _ (tb_in 302 (by decide +kernel) (by decide +kernel)))
  obtain ⟨c10, i10, hK10⟩ := u_known (C := R_Mod) (T := T_Mod) (N := 27) (n := 27) htb in_tb.2.2.2.2.2.2.2.2.2.2 (htb _ (tb_in 1087 (by decide +kernel) (by decide +kernel)))
  refine ⟨(fun k => match k with | 0 => c0 | 1 => c1 | 2 => c2 | 3 => c3 | 4 => c4 | 5 => c5 | 6 => c6 | 7 => c7 | 8 => c8 | 9 => c9 | _ => c10, fun k => match k with | 0 => i0 | 1 => i1 | 2 => i2 | 3 => i3 | 4 => i4 | 5 => i5 | 6 => i6 | 7 => i7 | 8 => i8 | 9 => i9 | _ => i10), fun k q hq => ?_⟩
  match k, hq with
  | 0, hq => obtain rfl := Option.some.inj hq; exact hK0
  | 1, hq => obtain rfl := Option.some.inj hq; exact hK1
  | 2, hq => obtain rfl := Option.some.inj hq; exact hK2
  | 3, hq => obtain rfl := Option.some.inj hq; exact hK3
  | 4, hq => obtain rfl := Option.some.inj hq; exact hK4
  | 5, hq => obtain rfl := Option.some.inj hq; exact hK5
  | 6, hq => obtain rfl := Option.some.inj hq; exact hK6
  | 7, hq => obtain rfl := Option.some.inj hq; exact hK7
  | 8, hq => obtain rfl := Option.some.inj hq; exact hK8
  | 9, hq => obtain rfl := Option.some.inj hq; exact hK9
  | 10, hq => obtain rfl := Option.some.inj hq; exact hK10
  | k + 11, hq => exact absurd (show (none : Option vw_C) = some q from hq) (by simp)
set_option maxHeartbeats 4000000 in
set_option maxRecDepth 100000 in
theorem law_start {D : va_G} {dA : Nat → ClassId} {A : Nat → Prop} {ad0 : Nat → Nat} {b L : Nat} {xs : Nat → Int32} {p : Program} {l : Launch} {e : Env} {s : State} {m : MethodId} {below : List Frame} {meth : Method} {c : Code} (hfl : l.flags = pinnedFlags ++ [noTraceFlag]) (C : Cx D dA A ad0 "RelayOrbiterLaw" code 7 p room_1 s m #[Value.ref b] meth c) (hr : meth.sig.returnType = ret) (hA : ∀ q, A q → s.heap.size ≤ q) (hX : va_X b L xs s s.heap) (hbl : b < s.heap.size) (hbA : ¬ A b) (hb1 : ad0 1001 = b) (hL : L ≤ 2560) (h0 : Nat → va_E) (hLT : LT h0 0) : J D dA A (fun _ _ => True) ad0 0 7 p l e room_1 s m #[Value.ref b] below meth c (lw_Z below #[Value.ref b] s) 0 [some (.ref 1001), none, none, none, none, none, none] [] h0 0 0 0 := by
  refine J_new C (ci := 0) (fs := [.null, .null, .null, .null, .null, .null, .int 0]) in_tb.1 ty_Orb tk_Orb (tb_in 75 (by decide +kernel) (by decide +kernel)) (tb_in 76 (by decide +kernel) (by decide +kernel)) (tb_in 45 (by decide +kernel) (by decide +kernel)) rfl (by intro j hj; match j, hj with | 0, _ => rfl | 1, _ => rfl | 2, _ => rfl | 3, _ => rfl | 4, _ => rfl | 5, _ => rfl | 6, _ => rfl | _ + 7, hj => exact absurd hj (by omega)) (fun _ => rfl) hLT (by omega) (by omega) (by intro i v q; match i, q with | 0, q => obtain rfl := Option.some.inj (Option.some.inj q); exact okS (by decide) | 1, q => exact absurd (show (some none : Option (Option Value)) = some (some v) from q) (by simp) | 2, q => exact absurd (show (some none : Option (Option Value)) = some (some v) from q) (by simp) | 3, q => exact absurd (show (some none : Option (Option Value)) = some (some v) from q) (by simp) | 4, q => exact absurd (show (some none : Option (Option Value)) = some (some v) from q) (by simp) | 5, q => exact absurd (show (some none : Option (Option Value)) = some (some v) from q) (by simp) | 6, q => exact absurd (show (some none : Option (Option Value)) = some (some v) from q) (by simp) | _ + 7, q => exact absurd (show (none : Option (Option Value)) = some (some v) from q) (by simp)) (by intro v q; cases q) (hcp _ _ (by omega) (by omega)) d_Law_law_0 (kk := ?_)
  obtain ⟨h1, e1⟩ : ∃ x, va_up h0 0 (.inr (0, [.null, .null, .null, .null, .null, .null, .int 0])) = x := ⟨_, rfl⟩
  refine J_hh (h2 := h1) e1 ?_
  have l1 : LT h1 (0 + 1) := by rw [← e1]; exact hLT.add (by intro v q; simp only [List.mem_cons, List.not_mem_nil, or_false] at q; rcases q with rfl | rfl | rfl | rfl | rfl | rfl | rfl <;> trivial)
  have c0_1 : h1 0 = .inr (0, [.null, .null, .null, .null, .null, .null, .int 0]) := by rw [← e1]; exact va_up_self _ _ _
  refine J_dup C d_Law_law_3 rfl ?_
  refine J_callI C (as := []) (st := [.ref 0]) (c_Orb_init l D dA h1   (by omega) c0_1 l1) l_Law_56 ⟨rfl, (tb_in 78 (by decide +kernel) (by decide +kernel)), rfl⟩ rfl (by omega) (by omega) (by decide) (hcp _ _ (by omega) (by omega)) (Nat.le_of_ble_eq_true rfl) (fun v h1 n1 q => ⟨q.1, by have := q.2.1; omega⟩) (by intro i v q; match i, q with | 0, q => obtain rfl := Option.some.inj (Option.some.inj q); exact okS (by decide) | 1, q => exact absurd (show (some none : Option (Option Value)) = some (some v) from q) (by simp) | 2, q => exact absurd (show (some none : Option (Option Value)) = some (some v) from q) (by simp) | 3, q => exact absurd (show (some none : Option (Option Value)) = some (some v) from q) (by simp) | 4, q => exact absurd (show (some none : Option (Option Value)) = some (some v) from q) (by simp) | 5, q => exact absurd (show (some none : Option (Option Value)) = some (some v) from q) (by simp) | 6, q => exact absurd (show (some none : Option (Option Value)) = some (some v) from q) (by simp) | _ + 7, q => exact absurd (show (none : Option (Option Value)) = some (some v) from q) (by simp)) (by intro v q; simp only [List.mem_cons, List.not_mem_nil, or_false] at q; rcases q with rfl; (exact okR (by omega))) d_Law_law_4 (kk := ?_)
  intro h2 n1 q _
  obtain ⟨-, rfl, l2, f2, p2_0, p2_1, p2_2, p2_3, p2_4, p2_5, ⟨fP3, hfP3, p2_6⟩, p2_7, p2_8, p2_9, p2_10, p2_11, p2_12, p2_13, ⟨fP4, hfP4, p2_14⟩, p2_15, p2_16, p2_17, p2_18, p2_19, p2_20, p2_21, p2_22, p2_23⟩ := q
  refine J_astore_n C 1 d_Law_law_7 rfl (by decide) rfl ?_
  refine J_new C (ci := 10) (fs := [.int 0, .int 0, .null, .int 0, .int 0, .null, .int 0, .int 0, .int 0, .int 0, .int 0, .int 0, .null, .null, .null, .int 0, .null, .null, .null, .null, .null, .int 0, .int 0, .int 0, .null, .int 0, .null]) in_tb.2.2.2.2.2.2.2.2.2.2 ty_Mod tk_Mod (tb_in 1086 (by decide +kernel) (by decide +kernel)) (tb_in 1087 (by decide +kernel) (by decide +kernel)) (tb_in 55 (by decide +kernel) (by decide +kernel)) rfl (by intro j hj; match j, hj with | 0, _ => rfl | 1, _ => rfl | 2, _ => rfl | 3, _ => rfl | 4, _ => rfl | 5, _ => rfl | 6, _ => rfl | 7, _ => rfl | 8, _ => rfl | 9, _ => rfl | 10, _ => rfl | 11, _ => rfl | 12, _ => rfl | 13, _ => rfl | 14, _ => rfl | 15, _ => rfl | 16, _ => rfl | 17, _ => rfl | 18, _ => rfl | 19, _ => rfl | 20, _ => rfl | 21, _ => rfl | 22, _ => rfl | 23, _ => rfl | 24, _ => rfl | 25, _ => rfl | 26, _ => rfl | _ + 27, hj => exact absurd hj (by omega)) (fun _ => rfl) l2 (by omega) (by omega) (by intro i v q; match i, q with | 0, q => obtain rfl := Option.some.inj (Option.some.inj q); exact okS (by decide) | 1, q => obtain rfl := Option.some.inj (Option.some.inj q); exact okR (by omega) | 2, q => exact absurd (show (some none : Option (Option Value)) = some (some v) from q) (by simp) | 3, q => exact absurd (show (some none : Option (Option Value)) = some (some v) from q) (by simp) | 4, q => exact absurd (show (some none : Option (Option Value)) = some (some v) from q) (by simp) | 5, q => exact absurd (show (some none : Option (Option Value)) = some (some v) from q) (by simp) | 6, q => exact absurd (show (some none : Option (Option Value)) = some (some v) from q) (by simp) | _ + 7, q => exact absurd (show (none : Option (Option Value)) = some (some v) from q) (by simp)) (by intro v q; cases q) (hcp _ _ (by omega) (by omega)) d_Law_law_8 (kk := ?_)
  obtain ⟨h3, e3⟩ : ∃ x, va_up h2 76 (.inr (10, [.int 0, .int 0, .null, .int 0, .int 0, .null, .int 0, .int 0, .int 0, .int 0, .int 0, .int 0, .null, .null, .null, .int 0, .null, .null, .null, .null, .null, .int 0, .int 0, .int 0, .null, .int 0, .null])) = x := ⟨_, rfl⟩
  refine J_hh (h2 := h3) e3 ?_
  have l3 : LT h3 (76 + 1) := by rw [← e3]; exact l2.add (by intro v q; simp only [List.mem_cons, List.not_mem_nil, or_false] at q; rcases q with rfl | rfl | rfl | rfl | rfl | rfl | rfl | rfl | rfl | rfl | rfl | rfl | rfl | rfl | rfl | rfl | rfl | rfl | rfl | rfl | rfl | rfl | rfl | rfl | rfl | rfl | rfl <;> trivial)
  have p2_0q0_3 : h3 0 = .inr (0, [.ref 1, .ref 2, .ref 3, .ref 55, .ref 69, .ref 73, .int (nI 0)]) := by rw [← e3]; exact (va_up_ne _ _ (by omega)).trans p2_0
  have p2_1q0_3 : h3 1 = .inr (1, [.int (nI 0), .int (nI 1), .int (nI 1)]) := by rw [← e3]; exact (va_up_ne _ _ (by omega)).trans p2_1
  have p2_2q0_3 : h3 2 = .inr (1, [.int (nI 0), .int (nI 1), .int (nI 1)]) := by rw [← e3]; exact (va_up_ne _ _ (by omega)).trans p2_2
  have p2_3q0_3 : h3 3 = .inr (2, [.ref 4, .ref 5, .ref 6, .int (nI 0), .int (nI 24), .int (nI 0), .int (nI 0), .int (nI 0), .int (nI 0), .int (nI 0)]) := by rw [← e3]; exact (va_up_ne _ _ (by omega)).trans p2_3
  have p2_4q0_3 : h3 4 = .inl (0, 480, .inl (fun _ => 0)) := by rw [← e3]; exact (va_up_ne _ _ (by omega)).trans p2_4
  have p2_5q0_3 : h3 5 = .inl (1, 24, .inl (fun _ => 0)) := by rw [← e3]; exact (va_up_ne _ _ (by omega)).trans p2_5
  have p2_6q0_3 : h3 6 = .inl (3, 24, .inr (.inr (.inr (.inr fP3)))) := by rw [← e3]; exact (va_up_ne _ _ (by omega)).trans p2_6
  have p2_7q0_3 : ∀ j, j < 24 → h3 (7 + 2 * j) = .inr (3, [.ref (8 + 2 * j), .int (nI 0), .int (nI 0), .int (nI 0), .int (nI 0)]) := fun j hj => by rw [← e3]; exact (va_up_ne _ _ (by omega)).trans (p2_7 j hj)
  have p2_8q0_3 : ∀ j, j < 24 → h3 (8 + 2 * j) = .inl (0, 3, .inl (fun _ => 0)) := fun j hj => by rw [← e3]; exact (va_up_ne _ _ (by omega)).trans (p2_8 j hj)
  have p2_9q0_3 : h3 55 = .inr (4, [.ref 3, .ref 56, .ref 60, .int (nI 0), .int (nI 0), .int (nI 0), .int (nI 0), .int (nI 0), .null, .int (nI 0)]) := by rw [← e3]; exact (va_up_ne _ _ (by omega)).trans p2_9
  have p2_10q0_3 : h3 56 = .inr (5, [.ref 57, .ref 58, .ref 59, .int (nI 0), .int (nI 0)]) := by rw [← e3]; exact (va_up_ne _ _ (by omega)).trans p2_10
  have p2_11q0_3 : h3 57 = .inl (0, 60, .inl (fun _ => 0)) := by rw [← e3]; exact (va_up_ne _ _ (by omega)).trans p2_11
  have p2_12q0_3 : h3 58 = .inl (0, 8, .inl (fun _ => 0)) := by rw [← e3]; exact (va_up_ne _ _ (by omega)).trans p2_12
  have p2_13q0_3 : h3 59 = .inl (0, 8, .inl (fun _ => 0)) := by rw [← e3]; exact (va_up_ne _ _ (by omega)).trans p2_13
  have p2_14q0_3 : h3 60 = .inl (4, 4, .inr (.inr (.inr (.inr fP4)))) := by rw [← e3]; exact (va_up_ne _ _ (by omega)).trans p2_14
  have p2_15q0_3 : ∀ j, j < 4 → h3 (61 + 2 * j) = .inr (6, [.ref (62 + 2 * j), .int (nI 0), .int (nI 0)]) := fun j hj => by rw [← e3]; exact (va_up_ne _ _ (by omega)).trans (p2_15 j hj)
  have p2_16q0_3 : ∀ j, j < 4 → h3 (62 + 2 * j) = .inl (0, 60, .inl (fun _ => 0)) := fun j hj => by rw [← e3]; exact (va_up_ne _ _ (by omega)).trans (p2_16 j hj)
  have p2_17q0_3 : h3 69 = .inr (7, [.ref 70, .ref 71, .int (nI 0)]) := by rw [← e3]; exact (va_up_ne _ _ (by omega)).trans p2_17
  have p2_18q0_3 : h3 70 = .inl (0, 71, .inl (fun _ => 0)) := by rw [← e3]; exact (va_up_ne _ _ (by omega)).trans p2_18
  have p2_19q0_3 : h3 71 = .inr (8, [.ref 72, .int (nI 5)]) := by rw [← e3]; exact (va_up_ne _ _ (by omega)).trans p2_19
  have p2_20q0_3 : h3 72 = .inl (0, 64, .inl (fun _ => 0)) := by rw [← e3]; exact (va_up_ne _ _ (by omega)).trans p2_20
  have p2_21q0_3 : h3 73 = .inr (9, [.ref 74, .ref 75, .int (nI 0)]) := by rw [← e3]; exact (va_up_ne _ _ (by omega)).trans p2_21
  have p2_22q0_3 : h3 74 = .inl (0, 32, .inl (fun _ => 0)) := by rw [← e3]; exact (va_up_ne _ _ (by omega)).trans p2_22
  have p2_23q0_3 : h3 75 = .inl (0, 2, .inl (fun _ => 0)) := by rw [← e3]; exact (va_up_ne _ _ (by omega)).trans p2_23
  have c76_3 : h3 76 = .inr (10, [.int 0, .int 0, .null, .int 0, .int 0, .null, .int 0, .int 0, .int 0, .int 0, .int 0, .int 0, .null, .null, .null, .int 0, .null, .null, .null, .null, .null, .int 0, .int 0, .int 0, .null, .int 0, .null]) := by rw [← e3]; exact va_up_self _ _ _
  refine J_dup C d_Law_law_11 rfl ?_
  refine J_callI C (as := []) (st := [.ref 76]) (c_Mod_init l D dA h3   (by omega) c76_3 l3) l_Law_59 ⟨rfl, (tb_in 1089 (by decide +kernel) (by decide +kernel)), rfl⟩ rfl (by omega) (by omega) (by decide) (hcp _ _ (by omega) (by omega)) (Nat.le_of_ble_eq_true rfl) (fun v h1 n1 q => ⟨q.1, by have := q.2.1; omega⟩) (by intro i v q; match i, q with | 0, q => obtain rfl := Option.some.inj (Option.some.inj q); exact okS (by decide) | 1, q => obtain rfl := Option.some.inj (Option.some.inj q); exact okR (by omega) | 2, q => exact absurd (show (some none : Option (Option Value)) = some (some v) from q) (by simp) | 3, q => exact absurd (show (some none : Option (Option Value)) = some (some v) from q) (by simp) | 4, q => exact absurd (show (some none : Option (Option Value)) = some (some v) from q) (by simp) | 5, q => exact absurd (show (some none : Option (Option Value)) = some (some v) from q) (by simp) | 6, q => exact absurd (show (some none : Option (Option Value)) = some (some v) from q) (by simp) | _ + 7, q => exact absurd (show (none : Option (Option Value)) = some (some v) from q) (by simp)) (by intro v q; simp only [List.mem_cons, List.not_mem_nil, or_false] at q; rcases q with rfl; (exact okR (by omega))) d_Law_law_12 (kk := ?_)
  intro h4 n1 q _
  obtain ⟨-, rfl, l4, f4, p4_0, p4_1, p4_2, p4_3, p4_4, p4_5, p4_6, p4_7, p4_8, p4_9, p4_10, p4_11, p4_12⟩ := q
  have p2_0q0_4 : h4 0 = .inr (0, [.ref 1, .ref 2, .ref 3, .ref 55, .ref 69, .ref 73, .int (nI 0)]) := (f4 _ (by omega)).trans p2_0q0_3
  have p2_1q0_4 : h4 1 = .inr (1, [.int (nI 0), .int (nI 1), .int (nI 1)]) := (f4 _ (by omega)).trans p2_1q0_3
  have p2_2q0_4 : h4 2 = .inr (1, [.int (nI 0), .int (nI 1), .int (nI 1)]) := (f4 _ (by omega)).trans p2_2q0_3
  have p2_3q0_4 : h4 3 = .inr (2, [.ref 4, .ref 5, .ref 6, .int (nI 0), .int (nI 24), .int (nI 0), .int (nI 0), .int (nI 0), .int (nI 0), .int (nI 0)]) := (f4 _ (by omega)).trans p2_3q0_3
  have p2_4q0_4 : h4 4 = .inl (0, 480, .inl (fun _ => 0)) := (f4 _ (by omega)).trans p2_4q0_3
  have p2_5q0_4 : h4 5 = .inl (1, 24, .inl (fun _ => 0)) := (f4 _ (by omega)).trans p2_5q0_3
  have p2_6q0_4 : h4 6 = .inl (3, 24, .inr (.inr (.inr (.inr fP3)))) := (f4 _ (by omega)).trans p2_6q0_3
  have p2_7q0_4 : ∀ j, j < 24 → h4 (7 + 2 * j) = .inr (3, [.ref (8 + 2 * j), .int (nI 0), .int (nI 0), .int (nI 0), .int (nI 0)]) := fun j hj => (f4 _ (by omega)).trans (p2_7q0_3 j hj)
  have p2_8q0_4 : ∀ j, j < 24 → h4 (8 + 2 * j) = .inl (0, 3, .inl (fun _ => 0)) := fun j hj => (f4 _ (by omega)).trans (p2_8q0_3 j hj)
  have p2_9q0_4 : h4 55 = .inr (4, [.ref 3, .ref 56, .ref 60, .int (nI 0), .int (nI 0), .int (nI 0), .int (nI 0), .int (nI 0), .null, .int (nI 0)]) := (f4 _ (by omega)).trans p2_9q0_3
  have p2_10q0_4 : h4 56 = .inr (5, [.ref 57, .ref 58, .ref 59, .int (nI 0), .int (nI 0)]) := (f4 _ (by omega)).trans p2_10q0_3
  have p2_11q0_4 : h4 57 = .inl (0, 60, .inl (fun _ => 0)) := (f4 _ (by omega)).trans p2_11q0_3
  have p2_12q0_4 : h4 58 = .inl (0, 8, .inl (fun _ => 0)) := (f4 _ (by omega)).trans p2_12q0_3
  have p2_13q0_4 : h4 59 = .inl (0, 8, .inl (fun _ => 0)) := (f4 _ (by omega)).trans p2_13q0_3
  have p2_14q0_4 : h4 60 = .inl (4, 4, .inr (.inr (.inr (.inr fP4)))) := (f4 _ (by omega)).trans p2_14q0_3
  have p2_15q0_4 : ∀ j, j < 4 → h4 (61 + 2 * j) = .inr (6, [.ref (62 + 2 * j), .int (nI 0), .int (nI 0)]) := fun j hj => (f4 _ (by omega)).trans (p2_15q0_3 j hj)
  have p2_16q0_4 : ∀ j, j < 4 → h4 (62 + 2 * j) = .inl (0, 60, .inl (fun _ => 0)) := fun j hj => (f4 _ (by omega)).trans (p2_16q0_3 j hj)
  have p2_17q0_4 : h4 69 = .inr (7, [.ref 70, .ref 71, .int (nI 0)]) := (f4 _ (by omega)).trans p2_17q0_3
  have p2_18q0_4 : h4 70 = .inl (0, 71, .inl (fun _ => 0)) := (f4 _ (by omega)).trans p2_18q0_3
  have p2_19q0_4 : h4 71 = .inr (8, [.ref 72, .int (nI 5)]) := (f4 _ (by omega)).trans p2_19q0_3
  have p2_20q0_4 : h4 72 = .inl (0, 64, .inl (fun _ => 0)) := (f4 _ (by omega)).trans p2_20q0_3
  have p2_21q0_4 : h4 73 = .inr (9, [.ref 74, .ref 75, .int (nI 0)]) := (f4 _ (by omega)).trans p2_21q0_3
  have p2_22q0_4 : h4 74 = .inl (0, 32, .inl (fun _ => 0)) := (f4 _ (by omega)).trans p2_22q0_3
  have p2_23q0_4 : h4 75 = .inl (0, 2, .inl (fun _ => 0)) := (f4 _ (by omega)).trans p2_23q0_3
  refine J_astore_n C 2 d_Law_law_15 rfl (by decide) rfl ?_
  refine J_iconst C d_Law_law_16 (v := nI 1) rfl ?_
  refine J_newa C (t := 2) (N := 1) (ty := .long) rfl (tb_in 1312 (by decide +kernel) (by decide +kernel)) (fun _ => (dA_of C.2.2.2.2.2.1).2.2.1) (f := .inr (.inl (fun _ => 0))) (fun _ => rfl) (fun _ => rfl) rfl (by decide) (by decide) l4 (by omega) (by omega) (by intro i v q; match i, q with | 0, q => obtain rfl := Option.some.inj (Option.some.inj q); exact okS (by decide) | 1, q => obtain rfl := Option.some.inj (Option.some.inj q); exact okR (by omega) | 2, q => obtain rfl := Option.some.inj (Option.some.inj q); exact okR (by omega) | 3, q => exact absurd (show (some none : Option (Option Value)) = some (some v) from q) (by simp) | 4, q => exact absurd (show (some none : Option (Option Value)) = some (some v) from q) (by simp) | 5, q => exact absurd (show (some none : Option (Option Value)) = some (some v) from q) (by simp) | 6, q => exact absurd (show (some none : Option (Option Value)) = some (some v) from q) (by simp) | _ + 7, q => exact absurd (show (none : Option (Option Value)) = some (some v) from q) (by simp)) (by intro v q; cases q) (hcp _ _ (by omega) (by omega)) d_Law_law_17 (kk := ?_)
  obtain ⟨h5, e5⟩ : ∃ x, va_up h4 89 (.inl (2, 1, .inr (.inl (fun _ => 0)))) = x := ⟨_, rfl⟩
  refine J_hh (h2 := h5) e5 ?_
  have l5 : LT h5 (89 + 1) := by rw [← e5]; exact l4.add trivial
  have p2_0q0_5 : h5 0 = .inr (0, [.ref 1, .ref 2, .ref 3, .ref 55, .ref 69, .ref 73, .int (nI 0)]) := by rw [← e5]; exact (va_up_ne _ _ (by omega)).trans p2_0q0_4
  have p2_1q0_5 : h5 1 = .inr (1, [.int (nI 0), .int (nI 1), .int (nI 1)]) := by rw [← e5]; exact (va_up_ne _ _ (by omega)).trans p2_1q0_4
  have p2_2q0_5 : h5 2 = .inr (1, [.int (nI 0), .int (nI 1), .int (nI 1)]) := by rw [← e5]; exact (va_up_ne _ _ (by omega)).trans p2_2q0_4
  have p2_3q0_5 : h5 3 = .inr (2, [.ref 4, .ref 5, .ref 6, .int (nI 0), .int (nI 24), .int (nI 0), .int (nI 0), .int (nI 0), .int (nI 0), .int (nI 0)]) := by rw [← e5]; exact (va_up_ne _ _ (by omega)).trans p2_3q0_4
  have p2_4q0_5 : h5 4 = .inl (0, 480, .inl (fun _ => 0)) := by rw [← e5]; exact (va_up_ne _ _ (by omega)).trans p2_4q0_4
  have p2_5q0_5 : h5 5 = .inl (1, 24, .inl (fun _ => 0)) := by rw [← e5]; exact (va_up_ne _ _ (by omega)).trans p2_5q0_4
  have p2_6q0_5 : h5 6 = .inl (3, 24, .inr (.inr (.inr (.inr fP3)))) := by rw [← e5]; exact (va_up_ne _ _ (by omega)).trans p2_6q0_4
  have p2_7q0_5 : ∀ j, j < 24 → h5 (7 + 2 * j) = .inr (3, [.ref (8 + 2 * j), .int (nI 0), .int (nI 0), .int (nI 0), .int (nI 0)]) := fun j hj => by rw [← e5]; exact (va_up_ne _ _ (by omega)).trans (p2_7q0_4 j hj)
  have p2_8q0_5 : ∀ j, j < 24 → h5 (8 + 2 * j) = .inl (0, 3, .inl (fun _ => 0)) := fun j hj => by rw [← e5]; exact (va_up_ne _ _ (by omega)).trans (p2_8q0_4 j hj)
  have p2_9q0_5 : h5 55 = .inr (4, [.ref 3, .ref 56, .ref 60, .int (nI 0), .int (nI 0), .int (nI 0), .int (nI 0), .int (nI 0), .null, .int (nI 0)]) := by rw [← e5]; exact (va_up_ne _ _ (by omega)).trans p2_9q0_4
  have p2_10q0_5 : h5 56 = .inr (5, [.ref 57, .ref 58, .ref 59, .int (nI 0), .int (nI 0)]) := by rw [← e5]; exact (va_up_ne _ _ (by omega)).trans p2_10q0_4
  have p2_11q0_5 : h5 57 = .inl (0, 60, .inl (fun _ => 0)) := by rw [← e5]; exact (va_up_ne _ _ (by omega)).trans p2_11q0_4
  have p2_12q0_5 : h5 58 = .inl (0, 8, .inl (fun _ => 0)) := by rw [← e5]; exact (va_up_ne _ _ (by omega)).trans p2_12q0_4
  have p2_13q0_5 : h5 59 = .inl (0, 8, .inl (fun _ => 0)) := by rw [← e5]; exact (va_up_ne _ _ (by omega)).trans p2_13q0_4
  have p2_14q0_5 : h5 60 = .inl (4, 4, .inr (.inr (.inr (.inr fP4)))) := by rw [← e5]; exact (va_up_ne _ _ (by omega)).trans p2_14q0_4
  have p2_15q0_5 : ∀ j, j < 4 → h5 (61 + 2 * j) = .inr (6, [.ref (62 + 2 * j), .int (nI 0), .int (nI 0)]) := fun j hj => by rw [← e5]; exact (va_up_ne _ _ (by omega)).trans (p2_15q0_4 j hj)
  have p2_16q0_5 : ∀ j, j < 4 → h5 (62 + 2 * j) = .inl (0, 60, .inl (fun _ => 0)) := fun j hj => by rw [← e5]; exact (va_up_ne _ _ (by omega)).trans (p2_16q0_4 j hj)
  have p2_17q0_5 : h5 69 = .inr (7, [.ref 70, .ref 71, .int (nI 0)]) := by rw [← e5]; exact (va_up_ne _ _ (by omega)).trans p2_17q0_4
  have p2_18q0_5 : h5 70 = .inl (0, 71, .inl (fun _ => 0)) := by rw [← e5]; exact (va_up_ne _ _ (by omega)).trans p2_18q0_4
  have p2_19q0_5 : h5 71 = .inr (8, [.ref 72, .int (nI 5)]) := by rw [← e5]; exact (va_up_ne _ _ (by omega)).trans p2_19q0_4
  have p2_20q0_5 : h5 72 = .inl (0, 64, .inl (fun _ => 0)) := by rw [← e5]; exact (va_up_ne _ _ (by omega)).trans p2_20q0_4
  have p2_21q0_5 : h5 73 = .inr (9, [.ref 74, .ref 75, .int (nI 0)]) := by rw [← e5]; exact (va_up_ne _ _ (by omega)).trans p2_21q0_4
  have p2_22q0_5 : h5 74 = .inl (0, 32, .inl (fun _ => 0)) := by rw [← e5]; exact (va_up_ne _ _ (by omega)).trans p2_22q0_4
  have p2_23q0_5 : h5 75 = .inl (0, 2, .inl (fun _ => 0)) := by rw [← e5]; exact (va_up_ne _ _ (by omega)).trans p2_23q0_4
  have p4_0q0_5 : h5 76 = .inr (10, [.int (nI 0), .int (nI 0), .ref 77, .int (nI 0), .int (nI 0), .ref 78, .int (nI 0), .int (nI 0), .int (nI 0), .int (nI 0), .int (nI 0), .int (nI 0), .ref 79, .ref 80, .ref 81, .int (nI 0), .ref 82, .ref 83, .ref 84, .ref 85, .ref 86, .int (nI 0), .int (nI 0), .int (nI 0), .ref 87, .int (nI 0), .ref 88]) := by rw [← e5]; exact (va_up_ne _ _ (by omega)).trans p4_0
  have p4_1q0_5 : h5 77 = .inl (0, 6, .inl (upd (upd (upd (upd (fun _ => 0) 1 (nI 1)) 2 (nI 1)) 4 (nI 1)) 5 (nI 1))) := by rw [← e5]; exact (va_up_ne _ _ (by omega)).trans p4_1
  have p4_2q0_5 : h5 78 = .inl (0, 80, .inl (fun _ => 0)) := by rw [← e5]; exact (va_up_ne _ _ (by omega)).trans p4_2
  have p4_3q0_5 : h5 79 = .inl (1, 4, .inl (fun _ => 0)) := by rw [← e5]; exact (va_up_ne _ _ (by omega)).trans p4_3
  have p4_4q0_5 : h5 80 = .inl (0, 4, .inl (fun _ => 0)) := by rw [← e5]; exact (va_up_ne _ _ (by omega)).trans p4_4
  have p4_5q0_5 : h5 81 = .inl (0, 240, .inl (fun _ => 0)) := by rw [← e5]; exact (va_up_ne _ _ (by omega)).trans p4_5
  have p4_6q0_5 : h5 82 = .inl (0, 24, .inl (fun _ => 0)) := by rw [← e5]; exact (va_up_ne _ _ (by omega)).trans p4_6
  have p4_7q0_5 : h5 83 = .inl (0, 24, .inl (fun _ => 0)) := by rw [← e5]; exact (va_up_ne _ _ (by omega)).trans p4_7
  have p4_8q0_5 : h5 84 = .inl (0, 1440, .inl (fun _ => 0)) := by rw [← e5]; exact (va_up_ne _ _ (by omega)).trans p4_8
  have p4_9q0_5 : h5 85 = .inl (0, 72, .inl (fun _ => 0)) := by rw [← e5]; exact (va_up_ne _ _ (by omega)).trans p4_9
  have p4_10q0_5 : h5 86 = .inl (0, 24, .inl (fun _ => 0)) := by rw [← e5]; exact (va_up_ne _ _ (by omega)).trans p4_10
  have p4_11q0_5 : h5 87 = .inl (0, 32, .inl (fun _ => 0)) := by rw [← e5]; exact (va_up_ne _ _ (by omega)).trans p4_11
  have p4_12q0_5 : h5 88 = .inl (0, 2, .inl (fun _ => 0)) := by rw [← e5]; exact (va_up_ne _ _ (by omega)).trans p4_12
  have c89_5 : h5 89 = .inl (2, 1, .inr (.inl (fun _ => 0))) := by rw [← e5]; exact va_up_self _ _ _
  refine J_astore_n C 3 d_Law_law_19 rfl (by decide) rfl ?_
  refine J_iconst C d_Law_law_20 (v := nI 0) rfl ?_
  refine J_istore C d_Law_law_21 (by decide) rfl ?_
  refine J_arr (k := 6) (f' := fun j => some (zPk (M0 6 j))) (by decide) p2_6q0_5 (fun j hj => (hfP3 j hj).trans (by show some (7 + 2 * j) = some (7 + 2 * (nI j).toNatClampNeg); rw [nI_clamp (by omega)])) ?_
  refine J_arr (k := 60) (f' := fun j => some (61 + 2 * j)) (by decide) ((va_up_ne _ _ (by decide)).trans p2_14q0_5) (fun j hj => hfP4 j hj) ?_
  refine J_cong (h' := E M0) (fun k hk => ?_) ?_
  · rcases Nat.lt_or_ge k 7 with a | a
    · match k, a with
      | 0, _ => exact (va_up_ne _ _ (by decide)).trans ((va_up_ne _ _ (by decide)).trans (p2_0q0_5.trans rfl))
      | 1, _ => exact (va_up_ne _ _ (by decide)).trans ((va_up_ne _ _ (by decide)).trans (p2_1q0_5.trans rfl))
      | 2, _ => exact (va_up_ne _ _ (by decide)).trans ((va_up_ne _ _ (by decide)).trans (p2_2q0_5.trans rfl))
      | 3, _ => exact (va_up_ne _ _ (by decide)).trans ((va_up_ne _ _ (by decide)).trans (p2_3q0_5.trans rfl))
      | 4, _ => exact (va_up_ne _ _ (by decide)).trans ((va_up_ne _ _ (by decide)).trans (p2_4q0_5.trans rfl))
      | 5, _ => exact (va_up_ne _ _ (by decide)).trans ((va_up_ne _ _ (by decide)).trans (p2_5q0_5.trans rfl))
      | 6, _ => exact (va_up_ne _ _ (by decide)).trans ((va_up_self _ _ _).trans rfl)
      | _ + 7, a => exact absurd a (by omega)
    · rcases Nat.lt_or_ge k 55 with a2 | a2
      · obtain ⟨j, hj, q⟩ : ∃ j, j < 24 ∧ (k = 7 + 2 * j ∨ k = 8 + 2 * j) := ⟨(k - 7) / 2, by omega, by omega⟩
        have zz : ∀ x, M0 (7 + 2 * j) x = 0 := fun x => by rw [M0_z (by omega) (by omega) (by omega) (by omega) (by omega) (by omega)]
        rcases q with rfl | rfl
        · refine (va_up_ne _ _ (by omega)).trans ((va_up_ne _ _ (by omega)).trans ((p2_7q0_5 j hj).trans ?_))
          rw [e_pk _ hj, zz, zz, zz, zz]; rfl
        · refine (va_up_ne _ _ (by omega)).trans ((va_up_ne _ _ (by omega)).trans ((p2_8q0_5 j hj).trans ?_))
          show _ = Ec (8 + 2 * j) (M0 (8 + 2 * j)); rw [(a_pb hj).2.2, M0_z (by omega) (by omega) (by omega) (by omega) (by omega) (by omega)]
      · rcases Nat.lt_or_ge k 61 with a3 | a3
        · obtain ⟨i, rfl⟩ : ∃ i, k = 55 + i := ⟨k - 55, by omega⟩
          match i, a3 with
          | 0, _ => exact (va_up_ne _ _ (by decide)).trans ((va_up_ne _ _ (by decide)).trans (p2_9q0_5.trans rfl))
          | 1, _ => exact (va_up_ne _ _ (by decide)).trans ((va_up_ne _ _ (by decide)).trans (p2_10q0_5.trans rfl))
          | 2, _ => exact (va_up_ne _ _ (by decide)).trans ((va_up_ne _ _ (by decide)).trans (p2_11q0_5.trans rfl))
          | 3, _ => exact (va_up_ne _ _ (by decide)).trans ((va_up_ne _ _ (by decide)).trans (p2_12q0_5.trans rfl))
          | 4, _ => exact (va_up_ne _ _ (by decide)).trans ((va_up_ne _ _ (by decide)).trans (p2_13q0_5.trans rfl))
          | 5, _ => exact (va_up_self _ _ _).trans rfl
          | _ + 6, a3 => exact absurd a3 (by omega)
        · rcases Nat.lt_or_ge k 69 with a4 | a4
          · obtain ⟨j, hj, q⟩ : ∃ j, j < 4 ∧ (k = 61 + 2 * j ∨ k = 62 + 2 * j) := ⟨(k - 61) / 2, by omega, by omega⟩
            have zz : ∀ x, M0 (61 + 2 * j) x = 0 := fun x => by rw [M0_z (by omega) (by omega) (by omega) (by omega) (by omega) (by omega)]
            rcases q with rfl | rfl
            · refine (va_up_ne _ _ (by omega)).trans ((va_up_ne _ _ (by omega)).trans ((p2_15q0_5 j hj).trans ?_))
              rw [e_st _ hj, zz, zz]; rfl
            · refine (va_up_ne _ _ (by omega)).trans ((va_up_ne _ _ (by omega)).trans ((p2_16q0_5 j hj).trans ?_))
              show _ = Ec (62 + 2 * j) (M0 (62 + 2 * j)); rw [(a_sp hj).2.2, M0_z (by omega) (by omega) (by omega) (by omega) (by omega) (by omega)]
          · obtain ⟨i, rfl⟩ : ∃ i, k = 69 + i := ⟨k - 69, by omega⟩
            match i, hk with
            | 0, _ => exact (va_up_ne _ _ (by decide)).trans ((va_up_ne _ _ (by decide)).trans (p2_17q0_5.trans rfl))
            | 1, _ => exact (va_up_ne _ _ (by decide)).trans ((va_up_ne _ _ (by decide)).trans (p2_18q0_5.trans rfl))
            | 2, _ => exact (va_up_ne _ _ (by decide)).trans ((va_up_ne _ _ (by decide)).trans (p2_19q0_5.trans rfl))
            | 3, _ => exact (va_up_ne _ _ (by decide)).trans ((va_up_ne _ _ (by decide)).trans (p2_20q0_5.trans rfl))
            | 4, _ => exact (va_up_ne _ _ (by decide)).trans ((va_up_ne _ _ (by decide)).trans (p2_21q0_5.trans rfl))
            | 5, _ => exact (va_up_ne _ _ (by decide)).trans ((va_up_ne _ _ (by decide)).trans (p2_22q0_5.trans rfl))
            | 6, _ => exact (va_up_ne _ _ (by decide)).trans ((va_up_ne _ _ (by decide)).trans (p2_23q0_5.trans rfl))
            | 7, _ => exact (va_up_ne _ _ (by decide)).trans ((va_up_ne _ _ (by decide)).trans (p4_0q0_5.trans rfl))
            | 8, _ => exact (va_up_ne _ _ (by decide)).trans ((va_up_ne _ _ (by decide)).trans (p4_1q0_5.trans rfl))
            | 9, _ => exact (va_up_ne _ _ (by decide)).trans ((va_up_ne _ _ (by decide)).trans (p4_2q0_5.trans rfl))
            | 10, _ => exact (va_up_ne _ _ (by decide)).trans ((va_up_ne _ _ (by decide)).trans (p4_3q0_5.trans rfl))
            | 11, _ => exact (va_up_ne _ _ (by decide)).trans ((va_up_ne _ _ (by decide)).trans (p4_4q0_5.trans rfl))
            | 12, _ => exact (va_up_ne _ _ (by decide)).trans ((va_up_ne _ _ (by decide)).trans (p4_5q0_5.trans rfl))
            | 13, _ => exact (va_up_ne _ _ (by decide)).trans ((va_up_ne _ _ (by decide)).trans (p4_6q0_5.trans rfl))
            | 14, _ => exact (va_up_ne _ _ (by decide)).trans ((va_up_ne _ _ (by decide)).trans (p4_7q0_5.trans rfl))
            | 15, _ => exact (va_up_ne _ _ (by decide)).trans ((va_up_ne _ _ (by decide)).trans (p4_8q0_5.trans rfl))
            | 16, _ => exact (va_up_ne _ _ (by decide)).trans ((va_up_ne _ _ (by decide)).trans (p4_9q0_5.trans rfl))
            | 17, _ => exact (va_up_ne _ _ (by decide)).trans ((va_up_ne _ _ (by decide)).trans (p4_10q0_5.trans rfl))
            | 18, _ => exact (va_up_ne _ _ (by decide)).trans ((va_up_ne _ _ (by decide)).trans (p4_11q0_5.trans rfl))
            | 19, _ => exact (va_up_ne _ _ (by decide)).trans ((va_up_ne _ _ (by decide)).trans (p4_12q0_5.trans rfl))
            | 20, _ => exact (va_up_ne _ _ (by decide)).trans ((va_up_ne _ _ (by decide)).trans (c89_5.trans rfl))
            | _ + 21, hk => exact absurd hk (by omega)
  refine J_widen (kc' := 90 + 0) (ks' := 3247 + 6 * 0) (by omega) (by omega) ?_
  refine J_base (fun ad1 had => ?_)
  have C1 : Cx D dA A ad1 "RelayOrbiterLaw" code 7 p room_1 s m #[Value.ref b] meth c := ⟨C.1, C.2.1, C.2.2.1, C.2.2.2.1, C.2.2.2.2.1, C.2.2.2.2.2.1, C.2.2.2.2.2.2.1, C.2.2.2.2.2.2.2.1, by rw [had 1000 (by decide)]; exact C.2.2.2.2.2.2.2.2.1, C.2.2.2.2.2.2.2.2.2⟩
  exact law_loop hfl C1 hr hA hX hbl hbA ((had 1001 (by decide)).trans hb1) hL 90 3247 (by decide) (by decide) (L + 1) 0 M0 (by omega) (by omega) Rel0
