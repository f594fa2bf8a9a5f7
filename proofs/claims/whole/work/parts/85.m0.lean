def M0 : Mem := mu (mu (mu (mu (mu (mu (ma (ma (fun _ _ => 0) 77 (upd (upd (upd (upd (fun _ => 0) 1 (nI 1)) 2 (nI 1)) 4 (nI 1)) 5 (nI 1))) 6 (fun j => nI j)) 1 1 (nI 1)) 1 2 (nI 1)) 2 1 (nI 1)) 2 2 (nI 1)) 3 4 (nI 24)) 71 1 (nI 5)
theorem M0_z {p : Nat} (h1 : p ≠ 1) (h2 : p ≠ 2) (h3 : p ≠ 3) (h6 : p ≠ 6) (h71 : p ≠ 71) (h77 : p ≠ 77) : M0 p = fun _ => 0 := by
  unfold M0
  rw [mu_p _ _ _ h71, mu_p _ _ _ h3, mu_p _ _ _ h2, mu_p _ _ _ h2, mu_p _ _ _ h1, mu_p _ _ _ h1, ma_p _ _ h6, ma_p _ _ h77]
theorem u_M0 (b : Nat) : uX M0 b = 1 := by
  have hc : cX M0 = 0 := by
    unfold cX
    rw [M0_z (by decide) (by decide) (by decide) (by decide) (by decide) (by decide)]
    rfl
  unfold uX
  rw [hc]
  rfl
theorem Rel0 : Rel 0 M0 M0 := by
  have z : ∀ {p}, p ≠ 1 → p ≠ 2 → p ≠ 3 → p ≠ 6 → p ≠ 71 → p ≠ 77 → M0 p = fun _ => 0 := fun h1 h2 h3 h6 h71 h77 => M0_z h1 h2 h3 h6 h71 h77
  have z76 : M0 76 = fun _ => 0 := z (by decide) (by decide) (by decide) (by decide) (by decide) (by decide)
  have z79 : M0 79 = fun _ => 0 := z (by decide) (by decide) (by decide) (by decide) (by decide) (by decide)
  have hcnt : cntF (uX M0) 24 = 24 := by
    rw [cntF_congr (v := fun _ => 1) 24 (fun b _ => u_M0 b)]
    rfl
  have hS : XSv 0 (fun _ => 0) (fun _ => 0) (fun _ _ => 0) M0 := by
    refine ⟨by rw [z76]; rfl, by omega, Or.inl (by rw [z76]), fun i hi => absurd hi (Nat.not_lt_zero _), fun i hi => absurd hi (Nat.not_lt_zero _), fun i k hi => absurd hi (Nat.not_lt_zero _), fun i k hi => absurd hi (Nat.not_lt_zero _), fun i k i' k' hi => absurd hi (Nat.not_lt_zero _), ?_, fun i k hi => absurd hi (Nat.not_lt_zero _)⟩
    rw [hcnt]; rfl
  have hR : CRv 0 (fun _ => 0) (fun _ => 0) (fun _ _ => 0) (fun k => k) M0 M0 := by
    refine ⟨rfl, by rw [hcnt]; rfl, by rw [z76]; rfl, by rw [z76]; rfl, by rw [z76]; rfl, by rw [z76]; rfl, by rw [z76]; rfl, fun b hb => ?_, fun k hk => ⟨rfl, hk⟩, fun k k' _ _ q => q, fun j hj x hx => ⟨0, by omega, ?_⟩, fun i hi => absurd hi (Nat.not_lt_zero _), fun i k hi => absurd hi (Nat.not_lt_zero _), fun i k hi => absurd hi (Nat.not_lt_zero _)⟩
    · rw [u_M0, z (by decide) (by decide) (by decide) (by decide) (by decide) (by decide)]; rfl
    · rw [z (by omega) (by omega) (by omega) (by omega) (by omega) (by omega)]; rfl
  have hT : XSt M0 := fun j hj => ⟨Or.inl (by rw [z79]), fun b => absurd (by rw [z79]) b⟩
  refine ⟨⟨⟨0, _, _, _, _, hS, hR⟩, ⟨rfl, rfl, rfl, rfl, rfl⟩, fun j hj => ⟨?_, fun b => absurd (by rw [z79]) b⟩, ⟨rfl, fun i hi => ?_⟩, ⟨rfl, rfl, rfl, rfl, rfl, rfl, rfl⟩⟩, ⟨fun y _ => rfl, rfl, fun _ => 0, fun w hw => ⟨Nat.le_refl _, ?_, ?_⟩⟩, ?_, ⟨⟨0, _, _, _, hS⟩, hT, XI.of ⟨0, by decide, by rw [z76]; rfl⟩ ⟨0, by decide, by rw [z76]; rfl⟩, ?_⟩, XW.of (n := 0) (by rw [z76]; rfl) (by omega) (fun i hi => absurd hi (Nat.not_lt_zero _)), ?_, ?_, Or.inl (by rw [z76])⟩
  · rw [z (by omega) (by omega) (by omega) (by omega) (by omega) (by omega), z79]
  · have : nX M0 = 0 := by unfold nX; rw [z76]; rfl
    omega
  · rw [z (by decide) (by decide) (by decide) (by decide) (by decide) (by decide)]; rfl
  · rw [z (by decide) (by decide) (by decide) (by decide) (by decide) (by decide)]; rfl
  · intro _ i hi
    have : cX M0 = 0 := hS.c
    omega
  · show ¬ (nI 1).toInt64 = 0
    decide
  · intro _
    have : nX M0 = 0 := by unfold nX; rw [z76]; rfl
    omega
  · show ¬ (nI 1).toInt64 = 0
    decide
theorem arrV_cong (cA : ClassId) {N : Nat} {f g : Nat → Value} (h : ∀ j, j < N → f j = g j) : arrV cA N f = arrV cA N g := by
  have e : (fun j : Fin N => f j.val) = fun j : Fin N => g j.val := funext fun j => h j.val j.isLt
  unfold arrV
  rw [e]
section ZA5
variable {D : va_G} {dA : Nat → ClassId} {A : Nat → Prop} {Φ : Heap → List Loc → Prop} {ad0 : Nat → Nat} {n0 nL : Nat} {p : Program} {l : Launch} {e : Env} {R : Room} {s : State} {m : MethodId} {args : Array Value} {below : List Frame} {meth : Method} {c : Code} {Q : State → Prop} {pc : Nat} {lv : List (Option Value)} {st : List Value} {h : Nat → va_E} {n kc ks : Nat} {own : String} {cc : ByteArray}
/-- what stands behind the end of an array of references is nobody's matter -/
theorem J_arr {k t N : Nat} {f f' : Nat → Option Nat} (hk : k < n) (he : h k = .inl (t, N, .inr (.inr (.inr (.inr f))))) (hff : ∀ j, j < N → f j = f' j) (kk : J D dA A Φ ad0 n0 nL p l e R s m args below meth c Q (pc) (lv) (st) (va_up h k (.inl (t, N, .inr (.inr (.inr (.inr f')))))) n kc ks) : J D dA A Φ ad0 n0 nL p l e R s m args below meth c Q (pc) (lv) (st) (h) n kc ks := by
  intro ad H locs ls h0 hP hD hS hF hL
  refine kk ad H locs ls h0 (fun i q hq => ?_) ⟨fun i j p q hp hq e9 => ?_, fun i q hq => ?_⟩ hS hF hL
  · obtain ⟨hi, rfl⟩ := wl_lt hq
    have h1 := hP i _ (wl_get hi)
    by_cases z : i = k
    · subst z
      rw [va_up_self]
      rw [he] at h1
      have h2 : H[ad i]? = some (vp_cell (dA t) (N, .inr (.inr (.inr (.inr (zO ad f)))))) := h1
      show H[ad i]? = some (vp_cell (dA t) (N, .inr (.inr (.inr (.inr (zO ad f'))))))
      rw [h2]
      show some (arrV (dA t) N (fun j => va_rf (zO ad f j))) = some (arrV (dA t) N (fun j => va_rf (zO ad f' j)))
      exact congrArg some (arrV_cong (dA t) (fun j hj => by show va_rf ((f j).map ad) = va_rf ((f' j).map ad); rw [hff j hj]))
    · rw [va_up_ne _ _ z]; exact h1
  · obtain ⟨hi, rfl⟩ := wl_lt hp
    obtain ⟨hj, rfl⟩ := wl_lt hq
    exact hD.1 i j _ _ (wl_get hi) (wl_get hj) e9
  · obtain ⟨hi, rfl⟩ := wl_lt hq
    exact hD.2 i (ad i, zE dA ad (h i)) (wl_get hi)
end ZA5