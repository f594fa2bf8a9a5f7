theorem CM.mono {l : Launch} {D : va_G} {dA : Nat → ClassId} {k : zK} {d : Nat} {as : List Value} {M : Mem} {P Q : Option Value → Mem → Prop} (h : CM l D dA k d as M P) (hPQ : ∀ v M', P v M' → Q v M') : CM l D dA k d as M Q := fun ad0 sz => MetFree.mono (h ad0 sz) (fun _ _ q => q) (fun _ _ _ _ _ q => q) (fun a s o s' _ q => ⟨by
  obtain ⟨⟨⟨ad', h', n', v, x1, x2, x3, x4, x5, x6⟩, x7⟩, x8⟩ := q
  obtain ⟨y1, M', y2, y3⟩ := x4
  exact ⟨⟨ad', h', n', v, x1, x2, x3, ⟨y1, M', y2, hPQ _ _ y3⟩, x5, x6⟩, x7⟩, q.2⟩)
theorem fAdd_p (M : Mem) (j n st f : Nat) {p : Nat} (hj : j < 24) (h : p < 3 ∨ 55 ≤ p) : fAdd M j n st f p = M p := by
  have e : adW M j n st p = M p := by unfold adW; rw [fRen_p _ (by omega), wbM_p _ _ _ _ _ _ _ (by omega) (by omega) (by omega), pkS_p _ _ _ _ (by omega)]
  unfold fAdd fEA
  by_cases z : adW M j n st 3 9 = 0
  · rw [if_pos z, fWr_p _ (by omega), mu_p _ _ _ (by omega), mkB_p _ _ _ _ (by omega), mu_p _ _ _ (by omega), mu_p _ _ _ (by omega), mu_p _ _ _ (by omega), mu_p _ _ _ (by omega), e]
  · rw [if_neg z, e]
theorem k_add (l : Launch) (D : va_G) (dA : Nat → ClassId) (M X : Mem) (n st src at0 : Nat) (hSR : SR M X) (h7 : 7 ≤ n) (h60 : n ≤ 60) (hst : st + n ≤ 60) (s1 : src ≠ 76) (s2 : src ≠ 84) (s3 : src ≠ 85) (hb : ∀ k, k < n → ∃ v, v < 256 ∧ X src (at0 + k) = nI v) (hrow : ∀ k, k < n → M 57 (st + k) = X src (at0 + k)) : CM l D dA k_Sto_add 3 [.ref 3, .ref 57, .int (nI st), .int (nI n)] M (fun v M' => v = none ∧ SR M' (if X 76 3 = 0 then (if (n + 19) / 20 ≤ cntF (uX X) 24 then fKeep X src at0 n else X) else X) ∧ ∀ p0, p0 < 3 ∨ 55 ≤ p0 → M' p0 = M p0) := by
  obtain ⟨c0, ln, em, bk, q, hS, hR⟩ := hSR
  have hc24 := hS.2.1
  have hroom := hS.room
  by_cases ho : X 76 3 = 0
  · rw [if_pos ho]
    by_cases hr : (n + 19) / 20 ≤ cntF (uX X) 24
    · rw [if_pos hr]
      have hlt : c0 < 24 := by omega
      have hq := hR.2.2.2.2.2.2.2.2.1 c0 hlt
      refine CM.mono (f_add l D dA M n st c0 (cntF (uX X) 24) hR.1 hc24 hR.2.1 (by omega) h7 h60 hst (q c0) (hR.2.2.2.2.2.2.1.trans ho) hlt (by omega) hq.2 hq.1 (hR.2.2.2.2.2.2.2.2.2.2.1 _ hq.2)) ?_
      rintro v M' ⟨rfl, rfl⟩
      obtain ⟨c', ln', em', bk', a, b⟩ := add_rel hR hS ho h7 h60 hr s1 s2 s3 hb hrow
      exact ⟨rfl, ⟨c', ln', em', bk', q, a, b⟩, fun p0 hp => fAdd_p _ _ _ _ _ hq.2 hp⟩
    · rw [if_neg hr]
      refine CM.mono (f_add0 l D dA M n st c0 (cntF (uX X) 24) hR.1 hc24 hR.2.1 (by omega) h7 h60 hst (Or.inr (Or.inr (by omega)))) ?_
      rintro v M' ⟨rfl, rfl⟩
      exact ⟨rfl, ⟨c0, ln, em, bk, q, hS, hR⟩, fun p0 hp => rfl⟩
  · rw [if_neg ho]
    refine CM.mono (f_add0 l D dA M n st c0 (cntF (uX X) 24) hR.1 hc24 hR.2.1 (by omega) h7 h60 hst (Or.inl (by rw [hR.2.2.2.2.2.2.1]; exact ho))) ?_
    rintro v M' ⟨rfl, rfl⟩
    exact ⟨rfl, ⟨c0, ln, em, bk, q, hS, hR⟩, fun p0 hp => rfl⟩
/-- what the harvest holds: c packets of the row, the bytes of which stand in the reference's row src -/
def Hv (c : Nat) (st ln at0 : Nat → Nat) (src : Nat) (M X : Mem) : Prop := M 56 4 = nI c ∧ c ≤ 8 ∧ ∀ i, i < c → M 58 i = nI (st i) ∧ M 59 i = nI (ln i) ∧ 7 ≤ ln i ∧ st i + ln i ≤ 60 ∧ ∀ k, k < ln i → ∃ v, v < 256 ∧ X src (at0 i + k) = nI v ∧ M 57 (st i + k) = nI v
set_option maxHeartbeats 4000000 in
set_option maxRecDepth 100000 in
theorem k_keepWhatFits (l : Launch) (D : va_G) (dA : Nat → ClassId) (M0 X0 X9 : Mem) (c8 src : Nat) (st ln at0 : Nat → Nat) (hSR : SR M0 X0) (hH : Hv c8 st ln at0 src M0 X0) (hs : 77 ≤ src ∧ src ≤ 81) (hX9 : kwF src at0 ln c8 0 X0 = X9) : CM l D dA k_Ses_keepWhatFits 4 [.ref 55] M0 (fun v M' => v = none ∧ SR M' X9 ∧ ∀ p0, p0 < 3 ∨ 55 ≤ p0 → M' p0 = M0 p0) := by
  refine CM.of (by decide +kernel) (Nat.le_of_ble_eq_true rfl) (by intro v hv; simp only [List.mem_cons, List.not_mem_nil, or_false] at hv; rcases hv with rfl <;> rfl) ?_
  intro A ad0 p e s m args below meth c C hr
  have lp : ∀ (fu i : Nat) (M X : Mem), c8 - i < fu → i ≤ c8 → SR M X → (∀ p0, p0 < 3 ∨ 55 ≤ p0 → M p0 = M0 p0) → X src = X0 src → kwF src at0 ln (c8 - i) i X = X9 → J D dA A (fun _ _ => True) ad0 90 k_Ses_keepWhatFits.2.2.1 p l e (zR 4 0 0) s m args below meth c (KQ D dA A ad0 below args s (fun v M' => v = none ∧ SR M' X9 ∧ ∀ p0, p0 < 3 ∨ 55 ≤ p0 → M' p0 = M0 p0)) 2 [some (.ref 55), some (.int (nI i))] [] (E M) 90 0 0 := by
    intro fu
    induction fu with
    | zero => intro i M X hfu; exact absurd hfu (Nat.not_lt_zero _)
    | succ fu ih =>
      intro i M X hfu hi hSR hfr hXs hF
      have hcn : M 56 4 = nI c8 := by rw [hfr 56 (by omega)]; exact hH.1
      have hc8 := hH.2.1
      refine J_iload_n C 1 d_Ses_keepWhatFits_2 rfl rfl ?_
      refine J_aload_n C 0 d_Ses_keepWhatFits_3 rfl rfl ?_
      refine J_get C f_Ses_12 (by decide) (e_55 _) rfl d_Ses_keepWhatFits_4 ?_
      refine J_get C f_Ses_121 (by decide) (e_56 _) rfl d_Ses_keepWhatFits_7 ?_
      refine J_val (y := nI c8) hcn ?_
      refine J_icmpN_ge C 51 d_Ses_keepWhatFits_10 (by decide) (by omega) (by omega) (fun hc10 => ?_) (fun hc10 => ?_)
      · refine KK_ret C hr ?_ d_Ses_keepWhatFits_51
        rw [show c8 - i = 0 by omega] at hF
        rw [← hF]
        exact ⟨rfl, hSR, hfr⟩
      · have hh := hH.2.2 i hc10
        have h58 : M 58 i = nI (st i) := by rw [hfr 58 (by omega)]; exact hh.1
        have h59 : M 59 i = nI (ln i) := by rw [hfr 59 (by omega)]; exact hh.2.1
        have hc8 := hH.2.1
        refine J_aload_n C 0 d_Ses_keepWhatFits_13 rfl rfl ?_
        refine J_get C f_Ses_48 (by decide) (e_55 _) rfl d_Ses_keepWhatFits_14 ?_
        refine J_aload_n C 0 d_Ses_keepWhatFits_17 rfl rfl ?_
        refine J_get C f_Ses_12 (by decide) (e_55 _) rfl d_Ses_keepWhatFits_18 ?_
        refine J_get C f_Ses_124 (by decide) (e_56 _) rfl d_Ses_keepWhatFits_21 ?_
        refine J_aload_n C 0 d_Ses_keepWhatFits_24 rfl rfl ?_
        refine J_get C f_Ses_12 (by decide) (e_55 _) rfl d_Ses_keepWhatFits_25 ?_
        refine J_get C f_Ses_128 (by decide) (e_56 _) rfl d_Ses_keepWhatFits_28 ?_
        refine J_iload_n C 1 d_Ses_keepWhatFits_31 rfl rfl ?_
        refine K_ial C a_58 (j := i) rfl (by omega) d_Ses_keepWhatFits_32 ?_
        refine J_val (y := nI (st i)) h58 ?_
        refine J_aload_n C 0 d_Ses_keepWhatFits_33 rfl rfl ?_
        refine J_get C f_Ses_12 (by decide) (e_55 _) rfl d_Ses_keepWhatFits_34 ?_
        refine J_get C f_Ses_131 (by decide) (e_56 _) rfl d_Ses_keepWhatFits_37 ?_
        refine J_iload_n C 1 d_Ses_keepWhatFits_40 rfl rfl ?_
        refine K_ial C a_59 (j := i) rfl (by omega) d_Ses_keepWhatFits_41 ?_
        refine J_val (y := nI (ln i)) h59 ?_
        refine K_callV C (as := [.ref 57, .int (nI (st i)), .int (nI (ln i))]) (st := []) (k_add l D dA M X (ln i) (st i) src (at0 i) hSR hh.2.2.1 (by omega) hh.2.2.2.1 (by omega) (by omega) (by omega) (fun k hk => by obtain ⟨v, a, b, c⟩ := hh.2.2.2.2 k hk; exact ⟨v, a, by rw [hXs]; exact b⟩) (fun k hk => by obtain ⟨v, a, b, c⟩ := hh.2.2.2.2 k hk; rw [hXs, hfr 57 (by omega), b, c])) l_Ses_134 v_Sto_add (by decide) (e_3 _) rfl (by decide) (by decide) (Nat.le_of_ble_eq_true rfl) d_Ses_keepWhatFits_42 (kk := ?_)
        intro v M2 hP
        obtain ⟨rfl, hSR2, hfr2⟩ := hP
        refine J_mem (M2 := M2) rfl ?_
        refine J_iinc C d_Ses_keepWhatFits_45 rfl (v := nI (i + 1)) (nI_1 _) (by decide) rfl ?_
        refine J_goto C 2 d_Ses_keepWhatFits_48 (by decide) ?_
        rw [show c8 - i = (c8 - (i + 1)) + 1 by omega] at hF
        exact ih (i + 1) M2 _ (by omega) (by omega) hSR2 (fun p0 hp => by rw [hfr2 p0 hp]; exact hfr p0 hp) (by (repeat' split) <;> first | exact hXs | (rw [fKeep_p _ _ _ _ (by omega) (by omega) (by omega) (by omega) (by omega) (by omega)]; exact hXs)) hF
  refine J_iconst C d_Ses_keepWhatFits_0 (v := nI 0) rfl ?_
  refine J_istore_n C 1 d_Ses_keepWhatFits_1 rfl (by decide) rfl ?_
  exact lp (c8 + 1) 0 M0 X0 (by omega) (by omega) hSR (fun _ _ => rfl) rfl hX9
