section ZK
variable {D : va_G} {dA : Nat → ClassId} {A : Nat → Prop} {Φ : Heap → List Loc → Prop} {ad0 : Nat → Nat} {n0 nL : Nat} {p : Program} {l : Launch} {e : Env} {R : Room} {s : State} {m : MethodId} {args : Array Value} {below : List Frame} {meth : Method} {c : Code} {Q : State → Prop} {pc : Nat} {lv : List (Option Value)} {st : List Value} {h : Nat → va_E} {n kc ks : Nat} {own : String} {cc : ByteArray} {M : Mem}
abbrev KQ (D : va_G) (dA : Nat → ClassId) (A : Nat → Prop) (ad0 : Nat → Nat) (below : List Frame) (args : Array Value) (s : State) (PP : Option Value → Mem → Prop) : State → Prop := MQ below (zQc D dA A ad0 90 (fun v h' n' => n' = 90 ∧ ∃ M1, h' = E M1 ∧ PP v M1)) args s 0 0 A
theorem CM.of {k : zK} {d : Nat} {as : List Value} {PP : Option Value → Mem → Prop} (hy : plainName k.1.cls = true) (hl : as.length ≤ k.2.2.1) (hc : ∀ v ∈ as, v.category = 1)
    (body : ∀ (A : Nat → Prop) (ad0 : Nat → Nat) (p : Program) (e : Env) (s : State) (m : MethodId) (args : Array Value) (below : List Frame) (meth : Method) (c : Code), Cx D dA A ad0 k.1.cls k.2.1 k.2.2.1 p (zR d 0 0) s m args meth c → meth.sig.returnType = k.2.2.2 →
      J D dA A (fun _ _ => True) ad0 90 k.2.2.1 p l e (zR d 0 0) s m args below meth c (KQ D dA A ad0 below args s PP) 0 (zLv as k.2.2.1) [] (E M) 90 0 0) : CM l D dA k d as M PP :=
  CT.of hy hl hc (fun A ad0 p e s m args below meth c C hr _ => body A ad0 p e s m args below meth c C hr)
theorem KK_iret (C : Cx D dA A ad0 own cc nL p R s m args meth c) {PP : Option Value → Mem → Prop} {v : Int32} (hr : meth.sig.returnType = some .int) (hP : PP (some (.int v)) M) (hd : decode cc pc = .ok (.ireturn, 1)) : J D dA A Φ ad0 90 nL p l e R s m args below meth c (KQ D dA A ad0 below args s PP) pc lv [.int v] (E M) 90 0 0 := J_ireturn C hr (Nat.le_refl _) ⟨rfl, M, rfl, hP⟩ hd
theorem KK_zret (C : Cx D dA A ad0 own cc nL p R s m args meth c) {PP : Option Value → Mem → Prop} {v : Int32} (hr : meth.sig.returnType = some .boolean) (hb : v = 0 ∨ v = 1) (hP : PP (some (.int v)) M) (hd : decode cc pc = .ok (.ireturn, 1)) : J D dA A Φ ad0 90 nL p l e R s m args below meth c (KQ D dA A ad0 below args s PP) pc lv [.int v] (E M) 90 0 0 := J_zreturn C hr hb (Nat.le_refl _) ⟨rfl, M, rfl, hP⟩ hd
theorem KK_ret (C : Cx D dA A ad0 own cc nL p R s m args meth c) {PP : Option Value → Mem → Prop} (hr : meth.sig.returnType = none) (hP : PP none M) (hd : decode cc pc = .ok (.return_, 1)) : J D dA A Φ ad0 90 nL p l e R s m args below meth c (KQ D dA A ad0 below args s PP) pc lv [] (E M) 90 0 0 := J_return C hr (Nat.le_refl _) ⟨rfl, M, rfl, hP⟩ hd
end ZK
theorem fWrM_p (X : Mem) {p : Nat} (h : p ≠ 76) : fWrM X p = X p := by unfold fWrM; (repeat' split) <;> simp [mu, va_up, h]
theorem fWrM_k (X : Mem) {k : Nat} (h3 : k ≠ 3) (h4 : k ≠ 4) (h23 : k ≠ 23) : fWrM X 76 k = X 76 k := by unfold fWrM; (repeat' split) <;> simp [mu, va_up, upd, h3, h4, h23]
theorem rWrM_eq (X : Mem) : rWrM X = if fWrM X 76 3 = 0 then 1 else 0 := by
  unfold rWrM fWrM
  by_cases h1 : X 76 4 ≤ 0
  · simp [h1, mu, va_up, upd]
  · by_cases h2 : X 76 4 - nI 1 = 0
    · simp only [h1, h2, if_true, if_false]
      rw [if_neg]
      simp [mu, va_up, upd]
      decide
    · simp [h1, h2, mu, va_up, upd]
theorem fJrM_p (X : Mem) {p : Nat} (h : p ≠ 76) : fJrM X p = X p := by unfold fJrM; split; rw [fWrM_p _ h, mu_p _ _ _ h]; rfl
theorem fJrM_k (X : Mem) {k : Nat} (h3 : k ≠ 3) (h4 : k ≠ 4) (h22 : k ≠ 22) (h23 : k ≠ 23) : fJrM X 76 k = X 76 k := by unfold fJrM; split; rw [fWrM_k _ h3 h4 h23, mu_k _ _ _ h22]; rfl
theorem rJrM_eq (X : Mem) (h : X 76 3 = 0) : rJrM X = if fJrM X 76 3 = 0 then 1 else 0 := by
  unfold rJrM fJrM
  split
  · exact rWrM_eq _
  · first | rfl | rw [if_pos h]
theorem rWrM_0 {X : Mem} (h : rWrM X = 0) : ¬ fWrM X 76 3 = 0 := by intro q; rw [rWrM_eq, if_pos q] at h; exact absurd h (by decide)
theorem rWrM_1 {X : Mem} (h : ¬ rWrM X = 0) : fWrM X 76 3 = 0 := by
  by_cases q : fWrM X 76 3 = 0
  · exact q
  · rw [rWrM_eq, if_neg q] at h; exact absurd rfl h
theorem rJrM_0 {X : Mem} (h0 : X 76 3 = 0) (h : rJrM X = 0) : ¬ fJrM X 76 3 = 0 := by intro q; rw [rJrM_eq _ h0, if_pos q] at h; exact absurd h (by decide)
theorem rJrM_1 {X : Mem} (h0 : X 76 3 = 0) (h : ¬ rJrM X = 0) : fJrM X 76 3 = 0 := by
  by_cases q : fJrM X 76 3 = 0
  · exact q
  · rw [rJrM_eq _ h0, if_neg q] at h; exact absurd rfl h
theorem cntF_mono (u : Nat → Nat) {a b : Nat} (h : a ≤ b) : cntF u a ≤ cntF u b := by
  induction b with
  | zero => rw [Nat.le_zero.mp h]; exact Nat.le_refl _
  | succ b ih =>
    rcases Nat.lt_or_ge b a with h1 | h1
    · rw [show a = b + 1 by omega]; exact Nat.le_refl _
    · have := ih h1
      show _ ≤ cntF u b + u b
      omega
/-- the reference's packets and which blocks are free -/
def cX (X : Mem) : Nat := (X 76 15).toNatClampNeg
def uX (X : Mem) (b : Nat) : Nat := if (List.range (3 * cX X)).any (fun q => X 85 q == nI b) then 0 else 1
theorem uX_le (X : Mem) (b : Nat) : uX X b ≤ 1 := by unfold uX; split <;> omega
theorem uX_1 {X : Mem} {b : Nat} : (∀ q, q < 3 * cX X → ¬ X 85 q = nI b) → uX X b = 1 := by
  intro h
  unfold uX
  rw [if_neg]
  intro q
  obtain ⟨x, hx, hy⟩ := List.any_eq_true.mp q
  exact h x (List.mem_range.mp hx) (by simpa using hy)
theorem uX_0 {X : Mem} {b : Nat} : (∃ q, q < 3 * cX X ∧ X 85 q = nI b) → uX X b = 0 := by
  rintro ⟨q, h1, h2⟩
  unfold uX
  rw [if_pos]
  exact List.any_eq_true.mpr ⟨q, List.mem_range.mpr h1, by simpa using h2⟩
theorem uX_1' {X : Mem} {b : Nat} (h : uX X b = 1) : ∀ q, q < 3 * cX X → ¬ X 85 q = nI b := by
  intro q h1 h2
  rw [uX_0 ⟨q, h1, h2⟩] at h
  exact absurd h (by decide)
theorem uX_0' {X : Mem} {b : Nat} (h : uX X b = 0) : ∃ q, q < 3 * cX X ∧ X 85 q = nI b := by
  rcases Classical.em (∃ q, q < 3 * cX X ∧ X 85 q = nI b) with h1 | h1
  · exact h1
  · rw [uX_1 (fun q h2 h3 => h1 ⟨q, h2, h3⟩)] at h
    exact absurd h (by decide)
theorem cX_nI {X : Mem} {c : Nat} (h : X 76 15 = nI c) (hc : c ≤ 24) : cX X = c := by unfold cX; rw [h, nI_clamp (by omega)]
theorem uX_hu1 {X : Mem} {c : Nat} (hc : cX X = c) (b : Nat) (_ : b < 24) : (∀ q, q < 3 * c → ¬ X 85 q = nI b) → nI (uX X b) = 1 := by subst hc; intro h; rw [uX_1 h]; rfl
theorem uX_hu0 {X : Mem} {c : Nat} (hc : cX X = c) (b : Nat) (_ : b < 24) : (∃ q, q < 3 * c ∧ X 85 q = nI b) → nI (uX X b) = 0 := by subst hc; intro h; rw [uX_0 h]; rfl

