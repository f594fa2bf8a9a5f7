set_option maxHeartbeats 4000000 in
set_option maxRecDepth 100000 in
theorem k_emit (l : Launch) (D : va_G) (dA : Nat → ClassId) (M0 X : Mem) (w n0 : Nat) (hw : w ≤ 1) (hn : n0 < 1000) (hSR : SR M0 X) (hER : ER n0 M0 X) (hEL : EL X) (ho : X 76 3 = 0) : CM l D dA k_Ear_emit 5 [.ref 73, .int (nI w), .ref 3] M0 (fun v M' => v = some (.int (M0 75 w)) ∧ SR M' (fSnd X w) ∧ ER (n0 + 1) M' (fSnd X w) ∧ EL (fSnd X w) ∧ ∀ p0, p0 < 3 ∨ 55 ≤ p0 → p0 ≠ 73 → p0 ≠ 74 → p0 ≠ 75 → M' p0 = M0 p0) := by
  refine CM.of (by decide +kernel) (Nat.le_of_ble_eq_true rfl) (by intro v hv; simp only [List.mem_cons, List.not_mem_nil, or_false] at hv; rcases hv with rfl | rfl | rfl <;> rfl) ?_
  intro A ad0 p e s m args below meth c C hr
  obtain ⟨c0, ln, em, bk, q, hS, hR⟩ := hSR
  obtain ⟨kw, hkk⟩ : ∃ k, k < 2 ^ 24 ∧ M0 75 w = nI k ∧ X 88 w = nI k := by
    obtain ⟨_, _, kk, hk⟩ := hER
    have := hk w (by omega)
    exact ⟨kk w, by omega, this.2⟩
  refine J_aload_n C 0 d_Ear_emit_0 rfl rfl ?_
  refine J_get C f_Ear_15 (by decide) (e_73 _) rfl d_Ear_emit_1 ?_
  refine J_iload_n C 1 d_Ear_emit_4 rfl rfl ?_
  refine K_ial C a_75 (j := w) rfl (by omega) d_Ear_emit_5 ?_
  refine J_istore_n C 3 d_Ear_emit_6 rfl (by decide) rfl ?_
  refine J_aload_n C 0 d_Ear_emit_7 rfl rfl ?_
  refine J_get C f_Ear_15 (by decide) (e_73 _) rfl d_Ear_emit_8 ?_
  refine J_iload_n C 1 d_Ear_emit_11 rfl rfl ?_
  refine J_dup2 C d_Ear_emit_12 rfl rfl ?_
  refine K_ial C a_75 (j := w) rfl (by omega) d_Ear_emit_13 ?_
  refine J_iconst C d_Ear_emit_14 (v := nI 1) rfl ?_
  refine J_iadd C d_Ear_emit_15 ?_
  refine K_ias C a_75 (j := w) rfl (by omega) d_Ear_emit_16 (kk := ?_)
  refine J_aload_n C 0 d_Ear_emit_17 rfl rfl ?_
  refine J_iconst C d_Ear_emit_18 (v := nI 1) rfl ?_
  refine K_putZ C f_Ear_18 (by decide) (e_73 _) (Nat.le_of_ble_eq_true rfl) (Or.inr rfl) rfl d_Ear_emit_19 (kk := ?_)
  refine J_aload_n C 0 d_Ear_emit_22 rfl rfl ?_
  refine J_sipush C d_Ear_emit_23 (v := nI 21312) rfl ?_
  refine J_iload_n C 1 d_Ear_emit_26 rfl rfl ?_
  refine J_iaddN C d_Ear_emit_27 ?_
  refine J_iconst C d_Ear_emit_28 (v := nI 0) rfl ?_
  refine J_iconst C d_Ear_emit_29 (v := nI 2) rfl ?_
  refine F_callV C (as := [.int (nI (21312 + w)), .int (nI 0), .int (nI 2)]) (st := []) (f_putNumber2 l D dA (mu (mu M0 75 w ((M0 75 w) + (nI 1))) 73 2 (nI 1)) (nI (21312 + w)) 0 (by decide)) l_Ear_22 v_Ear_putNumber (by decide) (e_73 _) rfl (by decide) (by decide) (Nat.le_of_ble_eq_true rfl) d_Ear_emit_30 (kk := ?_)
  refine J_aload_n C 0 d_Ear_emit_33 rfl rfl ?_
  refine J_iload_n C 3 d_Ear_emit_34 rfl rfl ?_
  refine J_iconst C d_Ear_emit_35 (v := nI 2) rfl ?_
  refine J_iconst C d_Ear_emit_36 (v := nI 3) rfl ?_
  refine F_callV C (as := [.int (M0 75 w), .int (nI 2), .int (nI 3)]) (st := []) (f_putNumber3 l D dA (fPN (mu (mu M0 75 w ((M0 75 w) + (nI 1))) 73 2 (nI 1)) 0 (nI (21312 + w)) 2) (M0 75 w) 2 (by decide)) l_Ear_22 v_Ear_putNumber (by decide) (e_73 _) rfl (by decide) (by decide) (Nat.le_of_ble_eq_true rfl) d_Ear_emit_37 (kk := ?_)
  refine J_aload_n C 0 d_Ear_emit_40 rfl rfl ?_
  refine J_iconst C d_Ear_emit_41 (v := nI 0) rfl ?_
  refine J_iconst C d_Ear_emit_42 (v := nI 5) rfl ?_
  refine J_iconst C d_Ear_emit_43 (v := nI 1) rfl ?_
  refine F_callV C (as := [.int (nI 0), .int (nI 5), .int (nI 1)]) (st := []) (f_putNumber1 l D dA (fPN (fPN (mu (mu M0 75 w ((M0 75 w) + (nI 1))) 73 2 (nI 1)) 0 (nI (21312 + w)) 2) 2 (M0 75 w) 3) (nI 0) 5 (by decide)) l_Ear_22 v_Ear_putNumber (by decide) (e_73 _) rfl (by decide) (by decide) (Nat.le_of_ble_eq_true rfl) d_Ear_emit_44 (kk := ?_)
  refine J_mem (M2 := hdC M0 w) rfl ?_
  refine J_aload_n C 0 d_Ear_emit_47 rfl rfl ?_
  refine J_aload_n C 0 d_Ear_emit_48 rfl rfl ?_
  refine J_iload_n C 1 d_Ear_emit_49 rfl rfl ?_
  refine J_aload_n C 2 d_Ear_emit_50 rfl rfl ?_
  refine K_callV C (as := [.int (nI w), .ref 3]) (st := [.ref 73]) (k_fillZone l D dA (hdC M0 w) (hdM X w) _ c0 w ln em bk q hw (hS.hd w) (hR.fr hS.2.1 (fun p0 h1 h2 => hdC_p M0 w (by omega) (by omega) (by omega)) rfl rfl rfl rfl rfl rfl rfl rfl rfl) (hS.EL hEL ho) (hdC_74 hw hkk.1 hkk.2.1 hkk.2.2) rfl) l_Ear_26 v_Ear_fillZone (by decide) (e_73 _) rfl (by decide) (by decide) (Nat.le_of_ble_eq_true rfl) d_Ear_emit_51 (kk := ?_)
  intro v M2 hP
  obtain ⟨pt, rfl, hZ⟩ := hP
  refine J_mem (M2 := M2) rfl ?_
  refine J_bipush C d_Ear_emit_54 (v := nI 6) rfl ?_
  refine J_iconst C d_Ear_emit_56 (v := nI 2) rfl ?_
  refine F_callV C (as := [.int (nI pt), .int (nI 6), .int (nI 2)]) (st := []) (f_putNumber2 l D dA M2 (nI pt) 6 (by decide)) l_Ear_22 v_Ear_putNumber (by decide) (e_73 _) rfl (by decide) (by decide) (Nat.le_of_ble_eq_true rfl) d_Ear_emit_57 (kk := ?_)
  refine J_aload_n C 0 d_Ear_emit_60 rfl rfl ?_
  refine J_aload_n C 0 d_Ear_emit_61 rfl rfl ?_
  refine J_get C f_Ear_11 (by decide) (e_73 _) rfl d_Ear_emit_62 ?_
  refine J_iconst C d_Ear_emit_65 (v := nI 0) rfl ?_
  refine J_bipush C d_Ear_emit_66 (v := nI 30) rfl ?_
  refine J_bipush C d_Ear_emit_68 (v := nI 16) rfl ?_
  refine J_ldc C d_Ear_emit_70 c_Ear_30 ?_
  refine J_sipush C d_Ear_emit_72 (v := nI 4129) rfl ?_
  refine P_callS C (as := [.ref 74, .int (nI 0), .int (nI 30), .int (nI 16), .int 65535, .int (nI 4129)]) (st := [.ref 73]) (p_check74 l D dA (fPN M2 6 (nI pt) 2) 0 30 16 65535 (nI 4129) (by decide) (by decide) (by decide) (by decide)) l_Ear_31 s_Orb_check rfl (by decide) (by decide) (by decide) (Nat.le_of_ble_eq_true rfl) d_Ear_emit_75 (kk := ?_)
  refine J_bipush C d_Ear_emit_78 (v := nI 30) rfl ?_
  refine J_iconst C d_Ear_emit_80 (v := nI 2) rfl ?_
  refine F_callV C (as := [.int (crcAll 16 (nI 4129) ((fPN M2 6 (nI pt) 2) 74) (30 - 0) 0 65535), .int (nI 30), .int (nI 2)]) (st := []) (f_putNumber2 l D dA (fPN M2 6 (nI pt) 2) (crcAll 16 (nI 4129) ((fPN M2 6 (nI pt) 2) 74) (30 - 0) 0 65535) 30 (by decide)) l_Ear_22 v_Ear_putNumber (by decide) (e_73 _) rfl (by decide) (by decide) (Nat.le_of_ble_eq_true rfl) d_Ear_emit_81 (kk := ?_)
  have hfin := em_fin hS.c hZ
  obtain ⟨M4, hM4⟩ : ∃ M4, fPN (fPN M2 6 (nI pt) 2) 30 (crcAll 16 (nI 4129) ((fPN M2 6 (nI pt) 2) 74) (30 - 0) 0 65535) 2 = M4 := ⟨_, rfl⟩
  refine J_mem (M2 := M4) hM4 ?_
  rw [show 30 - 0 = 30 from rfl] at hM4
  rw [hM4] at hfin
  have hfr4 : ∀ p0, p0 ≠ 74 → (∀ j, j < 24 → p0 ≠ 7 + 2 * j) → M4 p0 = hdC M0 w p0 := by
    intro p0 h1 h2
    obtain ⟨em2, Y, y1, y2, y3, y4, y5, y6⟩ := hZ
    rw [← hM4, fPN2_p _ _ _ h1, fPN2_p _ _ _ h1]
    exact y6 p0 h1 h2
  refine J_aload_n C 2 d_Ear_emit_84 rfl rfl ?_
  refine K_callV C (as := []) (st := []) (k_dropEmitted l D dA M4 (frM X w) _ hfin.1 rfl) l_Ear_35 v_Sto_dropEmitted (by decide) (e_3 _) rfl (by decide) (by decide) (Nat.le_of_ble_eq_true rfl) d_Ear_emit_85 (kk := ?_)
  intro v M9 hP
  obtain ⟨rfl, hSR9, hfr9⟩ := hP
  refine J_mem (M2 := M9) rfl ?_
  refine J_iload_n C 3 d_Ear_emit_88 rfl rfl ?_
  refine KK_iret C hr ?_ d_Ear_emit_89
  have hsr := snd_rel ⟨c0, ln, em, bk, hS⟩ hw hn hER hfin.1 hfin.2 (by rw [hfr4 73 (by decide) (by omega)]; exact hdC_73 _ _) (by rw [hfr4 75 (by decide) (by omega)]; exact hdC_75 _ _) hfr9
  refine ⟨rfl, hSR9, hsr.1, hsr.2, fun p0 h1 h2 h3 h4 => ?_⟩
  rw [hfr9 p0 (by omega) (by omega) (by omega), hfr4 p0 h3 (by omega)]
  exact hdC_p _ _ h2 h3 h4
