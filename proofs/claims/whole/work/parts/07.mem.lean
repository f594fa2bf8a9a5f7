abbrev Mem : Type := Nat → Nat → Int32
def mu (M : Mem) (p k : Nat) (v : Int32) : Mem := va_up M p (upd (M p) k v)
def ma (M : Mem) (p : Nat) (f : Nat → Int32) : Mem := va_up M p f
def zPk (x : Int32) : Nat := 7 + 2 * x.toNatClampNeg
def zT (x : Int32) : Value := match x.toNatClampNeg with
  | 0 => .null
  | k + 1 => .ref (61 + 2 * k)
def Ec (a : Nat) (r : Nat → Int32) : va_E :=
  if 7 ≤ a ∧ a < 55 then (if a % 2 = 1 then .inr (3, [.ref (a + 1), .int (r 1), .int (r 2), .int (r 3), .int (r 4)]) else .inl (0, 3, .inl r))
  else if 61 ≤ a ∧ a < 69 then (if a % 2 = 1 then .inr (6, [.ref (a + 1), .int (r 1), .int (r 2)]) else .inl (0, 60, .inl r))
  else if a = 0 then .inr (0, [.ref 1, .ref 2, .ref 3, .ref 55, .ref 69, .ref 73, .int (r 6)])
  else if a = 1 then .inr (1, [.int (r 0), .int (r 1), .int (r 2)])
  else if a = 2 then .inr (1, [.int (r 0), .int (r 1), .int (r 2)])
  else if a = 3 then .inr (2, [.ref 4, .ref 5, .ref 6, .int (r 3), .int (r 4), .int (r 5), .int (r 6), .int (r 7), .int (r 8), .int (r 9)])
  else if a = 4 then .inl (0, 480, .inl r)
  else if a = 5 then .inl (1, 24, .inl r)
  else if a = 6 then .inl (3, 24, .inr (.inr (.inr (.inr (fun j => some (zPk (r j)))))))
  else if a = 55 then .inr (4, [.ref 3, .ref 56, .ref 60, .int (r 3), .int (r 4), .int (r 5), .int (r 6), .int (r 7), zT (r 8), .int (r 9)])
  else if a = 56 then .inr (5, [.ref 57, .ref 58, .ref 59, .int (r 3), .int (r 4)])
  else if a = 57 then .inl (0, 60, .inl r)
  else if a = 58 then .inl (0, 8, .inl r)
  else if a = 59 then .inl (0, 8, .inl r)
  else if a = 60 then .inl (4, 4, .inr (.inr (.inr (.inr (fun j => some (61 + 2 * j))))))
  else if a = 69 then .inr (7, [.ref 70, .ref 71, .int (r 2)])
  else if a = 70 then .inl (0, 71, .inl r)
  else if a = 71 then .inr (8, [.ref 72, .int (r 1)])
  else if a = 72 then .inl (0, 64, .inl r)
  else if a = 73 then .inr (9, [.ref 74, .ref 75, .int (r 2)])
  else if a = 74 then .inl (0, 32, .inl r)
  else if a = 75 then .inl (0, 2, .inl r)
  else if a = 76 then .inr (10, [.int (r 0), .int (r 1), .ref 77, .int (r 3), .int (r 4), .ref 78, .int (r 6), .int (r 7), .int (r 8), .int (r 9), .int (r 10), .int (r 11), .ref 79, .ref 80, .ref 81, .int (r 15), .ref 82, .ref 83, .ref 84, .ref 85, .ref 86, .int (r 21), .int (r 22), .int (r 23), .ref 87, .int (r 25), .ref 88])
  else if a = 77 then .inl (0, 6, .inl r)
  else if a = 78 then .inl (0, 80, .inl r)
  else if a = 79 then .inl (1, 4, .inl r)
  else if a = 80 then .inl (0, 4, .inl r)
  else if a = 81 then .inl (0, 240, .inl r)
  else if a = 82 then .inl (0, 24, .inl r)
  else if a = 83 then .inl (0, 24, .inl r)
  else if a = 84 then .inl (0, 1440, .inl r)
  else if a = 85 then .inl (0, 72, .inl r)
  else if a = 86 then .inl (0, 24, .inl r)
  else if a = 87 then .inl (0, 32, .inl r)
  else if a = 88 then .inl (0, 2, .inl r)
  else .inl (2, 1, .inr (.inl (fun j => (r j).toInt64)))
def E (M : Mem) : Nat → va_E := fun a => Ec a (M a)
theorem e_0 (M : Mem) : E M 0 = .inr (0, [.ref 1, .ref 2, .ref 3, .ref 55, .ref 69, .ref 73, .int ((M 0) 6)]) := rfl
theorem e_1 (M : Mem) : E M 1 = .inr (1, [.int ((M 1) 0), .int ((M 1) 1), .int ((M 1) 2)]) := rfl
theorem e_2 (M : Mem) : E M 2 = .inr (1, [.int ((M 2) 0), .int ((M 2) 1), .int ((M 2) 2)]) := rfl
theorem e_3 (M : Mem) : E M 3 = .inr (2, [.ref 4, .ref 5, .ref 6, .int ((M 3) 3), .int ((M 3) 4), .int ((M 3) 5), .int ((M 3) 6), .int ((M 3) 7), .int ((M 3) 8), .int ((M 3) 9)]) := rfl
theorem e_4 (M : Mem) : E M 4 = .inl (0, 480, .inl (M 4)) := rfl
theorem e_5 (M : Mem) : E M 5 = .inl (1, 24, .inl (M 5)) := rfl
theorem e_6 (M : Mem) : E M 6 = .inl (3, 24, .inr (.inr (.inr (.inr (fun j => some (zPk ((M 6) j))))))) := rfl
theorem e_55 (M : Mem) : E M 55 = .inr (4, [.ref 3, .ref 56, .ref 60, .int ((M 55) 3), .int ((M 55) 4), .int ((M 55) 5), .int ((M 55) 6), .int ((M 55) 7), zT ((M 55) 8), .int ((M 55) 9)]) := rfl
theorem e_56 (M : Mem) : E M 56 = .inr (5, [.ref 57, .ref 58, .ref 59, .int ((M 56) 3), .int ((M 56) 4)]) := rfl
theorem e_57 (M : Mem) : E M 57 = .inl (0, 60, .inl (M 57)) := rfl
theorem e_58 (M : Mem) : E M 58 = .inl (0, 8, .inl (M 58)) := rfl
theorem e_59 (M : Mem) : E M 59 = .inl (0, 8, .inl (M 59)) := rfl
theorem e_60 (M : Mem) : E M 60 = .inl (4, 4, .inr (.inr (.inr (.inr (fun j => some (61 + 2 * j)))))) := rfl
theorem e_69 (M : Mem) : E M 69 = .inr (7, [.ref 70, .ref 71, .int ((M 69) 2)]) := rfl
theorem e_70 (M : Mem) : E M 70 = .inl (0, 71, .inl (M 70)) := rfl
theorem e_71 (M : Mem) : E M 71 = .inr (8, [.ref 72, .int ((M 71) 1)]) := rfl
theorem e_72 (M : Mem) : E M 72 = .inl (0, 64, .inl (M 72)) := rfl
theorem e_73 (M : Mem) : E M 73 = .inr (9, [.ref 74, .ref 75, .int ((M 73) 2)]) := rfl
theorem e_74 (M : Mem) : E M 74 = .inl (0, 32, .inl (M 74)) := rfl
theorem e_75 (M : Mem) : E M 75 = .inl (0, 2, .inl (M 75)) := rfl
theorem e_76 (M : Mem) : E M 76 = .inr (10, [.int ((M 76) 0), .int ((M 76) 1), .ref 77, .int ((M 76) 3), .int ((M 76) 4), .ref 78, .int ((M 76) 6), .int ((M 76) 7), .int ((M 76) 8), .int ((M 76) 9), .int ((M 76) 10), .int ((M 76) 11), .ref 79, .ref 80, .ref 81, .int ((M 76) 15), .ref 82, .ref 83, .ref 84, .ref 85, .ref 86, .int ((M 76) 21), .int ((M 76) 22), .int ((M 76) 23), .ref 87, .int ((M 76) 25), .ref 88]) := rfl
theorem e_77 (M : Mem) : E M 77 = .inl (0, 6, .inl (M 77)) := rfl
theorem e_78 (M : Mem) : E M 78 = .inl (0, 80, .inl (M 78)) := rfl
theorem e_79 (M : Mem) : E M 79 = .inl (1, 4, .inl (M 79)) := rfl
theorem e_80 (M : Mem) : E M 80 = .inl (0, 4, .inl (M 80)) := rfl
theorem e_81 (M : Mem) : E M 81 = .inl (0, 240, .inl (M 81)) := rfl
theorem e_82 (M : Mem) : E M 82 = .inl (0, 24, .inl (M 82)) := rfl
theorem e_83 (M : Mem) : E M 83 = .inl (0, 24, .inl (M 83)) := rfl
theorem e_84 (M : Mem) : E M 84 = .inl (0, 1440, .inl (M 84)) := rfl
theorem e_85 (M : Mem) : E M 85 = .inl (0, 72, .inl (M 85)) := rfl
theorem e_86 (M : Mem) : E M 86 = .inl (0, 24, .inl (M 86)) := rfl
theorem e_87 (M : Mem) : E M 87 = .inl (0, 32, .inl (M 87)) := rfl
theorem e_88 (M : Mem) : E M 88 = .inl (0, 2, .inl (M 88)) := rfl
theorem e_89 (M : Mem) : E M 89 = .inl (2, 1, .inr (.inl (fun j => ((M 89) j).toInt64))) := rfl
theorem E_mu (M : Mem) (p k : Nat) (v : Int32) : E (mu M p k v) = va_up (E M) p (Ec p (upd (M p) k v)) := by
  funext a
  by_cases h : a = p
  · subst h; simp [E, mu, va_up]
  · simp [E, mu, va_up, h]
theorem E_ma (M : Mem) (p : Nat) (f : Nat → Int32) : E (ma M p f) = va_up (E M) p (Ec p f) := by
  funext a
  by_cases h : a = p
  · subst h; simp [E, ma, va_up]
  · simp [E, ma, va_up, h]
def isI (p len : Nat) : Prop := p < 90 ∧ len < 2 ^ 31 ∧ ∀ r, Ec p r = .inl (0, len, .inl r)
def isZ (p len : Nat) : Prop := p < 90 ∧ len < 2 ^ 31 ∧ ∀ r, Ec p r = .inl (1, len, .inl r)
theorem a_4 : isI 4 480 := ⟨by decide, by decide, fun _ => rfl⟩
theorem a_57 : isI 57 60 := ⟨by decide, by decide, fun _ => rfl⟩
theorem a_58 : isI 58 8 := ⟨by decide, by decide, fun _ => rfl⟩
theorem a_59 : isI 59 8 := ⟨by decide, by decide, fun _ => rfl⟩
theorem a_70 : isI 70 71 := ⟨by decide, by decide, fun _ => rfl⟩
theorem a_72 : isI 72 64 := ⟨by decide, by decide, fun _ => rfl⟩
theorem a_74 : isI 74 32 := ⟨by decide, by decide, fun _ => rfl⟩
theorem a_75 : isI 75 2 := ⟨by decide, by decide, fun _ => rfl⟩
theorem a_77 : isI 77 6 := ⟨by decide, by decide, fun _ => rfl⟩
theorem a_78 : isI 78 80 := ⟨by decide, by decide, fun _ => rfl⟩
theorem a_80 : isI 80 4 := ⟨by decide, by decide, fun _ => rfl⟩
theorem a_81 : isI 81 240 := ⟨by decide, by decide, fun _ => rfl⟩
theorem a_82 : isI 82 24 := ⟨by decide, by decide, fun _ => rfl⟩
theorem a_83 : isI 83 24 := ⟨by decide, by decide, fun _ => rfl⟩
theorem a_84 : isI 84 1440 := ⟨by decide, by decide, fun _ => rfl⟩
theorem a_85 : isI 85 72 := ⟨by decide, by decide, fun _ => rfl⟩
theorem a_86 : isI 86 24 := ⟨by decide, by decide, fun _ => rfl⟩
theorem a_87 : isI 87 32 := ⟨by decide, by decide, fun _ => rfl⟩
theorem a_88 : isI 88 2 := ⟨by decide, by decide, fun _ => rfl⟩
theorem a_5 : isZ 5 24 := ⟨by decide, by decide, fun _ => rfl⟩
theorem a_79 : isZ 79 4 := ⟨by decide, by decide, fun _ => rfl⟩
theorem Ec_pk {j : Nat} (hj : j < 24) (r : Nat → Int32) : Ec (7 + 2 * j) r = .inr (3, [.ref (8 + 2 * j), .int (r 1), .int (r 2), .int (r 3), .int (r 4)]) := by
  unfold Ec
  rw [if_pos ⟨by omega, by omega⟩, if_pos (by omega), show 7 + 2 * j + 1 = 8 + 2 * j by omega]
theorem a_pb {j : Nat} (hj : j < 24) : isI (8 + 2 * j) 3 := ⟨by omega, by decide, fun r => by
  unfold Ec
  rw [if_pos ⟨by omega, by omega⟩, if_neg (by omega)]⟩
theorem Ec_st {j : Nat} (hj : j < 4) (r : Nat → Int32) : Ec (61 + 2 * j) r = .inr (6, [.ref (62 + 2 * j), .int (r 1), .int (r 2)]) := by
  unfold Ec
  rw [if_neg (by omega), if_pos ⟨by omega, by omega⟩, if_pos (by omega), show 61 + 2 * j + 1 = 62 + 2 * j by omega]
theorem a_sp {j : Nat} (hj : j < 4) : isI (62 + 2 * j) 60 := ⟨by omega, by decide, fun r => by
  unfold Ec
  rw [if_neg (by omega), if_pos ⟨by omega, by omega⟩, if_neg (by omega)]⟩
theorem e_pk (M : Mem) {j : Nat} (hj : j < 24) : E M (7 + 2 * j) = .inr (3, [.ref (8 + 2 * j), .int (M (7 + 2 * j) 1), .int (M (7 + 2 * j) 2), .int (M (7 + 2 * j) 3), .int (M (7 + 2 * j) 4)]) := Ec_pk hj _
theorem e_st (M : Mem) {j : Nat} (hj : j < 4) : E M (61 + 2 * j) = .inr (6, [.ref (62 + 2 * j), .int (M (61 + 2 * j) 1), .int (M (61 + 2 * j) 2)]) := Ec_st hj _
theorem zPk_nI {j : Nat} (hj : j < 24) : zPk (nI j) = 7 + 2 * j := by unfold zPk; rw [nI_clamp (by omega)]
theorem zT_0 : zT 0 = .null := rfl
theorem zT_s {j : Nat} (hj : j < 4) : zT (nI (j + 1)) = .ref (61 + 2 * j) := by unfold zT; rw [nI_clamp (by omega)]
theorem mu_same (M : Mem) (p k : Nat) (v : Int32) : mu M p k v p k = v := by simp [mu, va_up, upd]
theorem mu_k (M : Mem) (p : Nat) {k j : Nat} (v : Int32) (h : j ≠ k) : mu M p k v p j = M p j := by simp [mu, va_up, upd, h]
theorem mu_p (M : Mem) {p q : Nat} (k : Nat) (v : Int32) (h : q ≠ p) : mu M p k v q = M q := by simp [mu, va_up, h]
theorem mu_row (M : Mem) (p k : Nat) (v : Int32) : mu M p k v p = upd (M p) k v := by simp [mu, va_up]
theorem ma_row (M : Mem) (p : Nat) (f : Nat → Int32) : ma M p f p = f := by simp [ma, va_up]
theorem ma_p (M : Mem) {p q : Nat} (f : Nat → Int32) (h : q ≠ p) : ma M p f q = M q := by simp [ma, va_up, h]
section ZM
variable {D : va_G} {dA : Nat → ClassId} {A : Nat → Prop} {Φ : Heap → List Loc → Prop} {ad0 : Nat → Nat} {n0 nL : Nat} {p : Program} {l : Launch} {e : Env} {R : Room} {s : State} {m : MethodId} {args : Array Value} {below : List Frame} {meth : Method} {c : Code} {Q : State → Prop} {pc : Nat} {lv : List (Option Value)} {st : List Value} {h : Nat → va_E} {n kc ks : Nat} {own : String} {cc : ByteArray} {M : Mem} {Post : Option Value → (Nat → va_E) → Nat → Prop}
theorem K_put (C : Cx D dA A ad0 own cc nL p R s m args meth c) {idx ci k pos : Nat} {fty : FieldType} {fs : List Value} {v : Int32} {w : Value} (F : FG own idx ci k false fty) (hpos : pos < 90) (he : E M pos = .inr (ci, fs)) (hl : k < fs.length) (hw : ∀ ad, zV ad w = w ∨ True) (hn : ∀ ad, narrow fty (zV ad w) = zV ad w) (hf : ∀ ad, fits fty (zV ad w) = true) (hu : Ec pos (upd (M pos) k v) = .inr (ci, fs.set k w)) (hd : decode cc pc = .ok (.putfield idx, 3)) (hΦ : ∀ H locs, Φ H locs := by intros; trivial) (kk : J D dA A Φ ad0 n0 nL p l e R s m args below meth c Q (pc + 3) (lv) (st) (E (mu M pos k v)) 90 kc ks) : J D dA A Φ ad0 n0 nL p l e R s m args below meth c Q (pc) (lv) (w :: .ref pos :: st) (E M) 90 kc ks := J_put C F hpos he hl hn hf hd hΦ (by rw [← hu, ← E_mu]; exact kk)
theorem K_putI (C : Cx D dA A ad0 own cc nL p R s m args meth c) {idx ci k pos : Nat} {fs : List Value} {v : Int32} (F : FG own idx ci k false .int) (hpos : pos < 90) (he : E M pos = .inr (ci, fs)) (hl : k < fs.length) (hu : Ec pos (upd (M pos) k v) = .inr (ci, fs.set k (.int v))) (hd : decode cc pc = .ok (.putfield idx, 3)) (hΦ : ∀ H locs, Φ H locs := by intros; trivial) (kk : J D dA A Φ ad0 n0 nL p l e R s m args below meth c Q (pc + 3) (lv) (st) (E (mu M pos k v)) 90 kc ks) : J D dA A Φ ad0 n0 nL p l e R s m args below meth c Q (pc) (lv) (.int v :: .ref pos :: st) (E M) 90 kc ks := K_put C F hpos he hl (fun _ => Or.inr trivial) (fun _ => rfl) (fun _ => rfl) hu hd hΦ kk
theorem K_putZ (C : Cx D dA A ad0 own cc nL p R s m args meth c) {idx ci k pos : Nat} {fs : List Value} {v : Int32} (F : FG own idx ci k false .boolean) (hpos : pos < 90) (he : E M pos = .inr (ci, fs)) (hl : k < fs.length) (hz : v = 0 ∨ v = 1) (hu : Ec pos (upd (M pos) k v) = .inr (ci, fs.set k (.int v))) (hd : decode cc pc = .ok (.putfield idx, 3)) (hΦ : ∀ H locs, Φ H locs := by intros; trivial) (kk : J D dA A Φ ad0 n0 nL p l e R s m args below meth c Q (pc + 3) (lv) (st) (E (mu M pos k v)) 90 kc ks) : J D dA A Φ ad0 n0 nL p l e R s m args below meth c Q (pc) (lv) (.int v :: .ref pos :: st) (E M) 90 kc ks := K_put C F hpos he hl (fun _ => Or.inr trivial) (fun _ => by rcases hz with rfl | rfl <;> rfl) (fun _ => by rcases hz with rfl | rfl <;> rfl) hu hd hΦ kk
theorem K_ial (C : Cx D dA A ad0 own cc nL p R s m args meth c) {pos len j : Nat} {i : Int32} (ha : isI pos len) (hj : i = nI j) (hlt : j < len) (hd : decode cc pc = .ok (.iaload, 1)) (kk : J D dA A Φ ad0 n0 nL p l e R s m args below meth c Q (pc + 1) (lv) (.int (M pos j) :: st) (E M) 90 kc ks) : J D dA A Φ ad0 n0 nL p l e R s m args below meth c Q (pc) (lv) (.int i :: .ref pos :: st) (E M) 90 kc ks := J_iaload C ha.1 (ha.2.2 _) (by rw [hj]; exact vp_in_nI hlt ha.2.1) hd (by rw [hj, nI_clamp (Nat.lt_trans hlt ha.2.1)]; exact kk)
theorem K_bal (C : Cx D dA A ad0 own cc nL p R s m args meth c) {pos len j : Nat} {i : Int32} (ha : isZ pos len) (hj : i = nI j) (hlt : j < len) (hd : decode cc pc = .ok (.baload, 1)) (kk : J D dA A Φ ad0 n0 nL p l e R s m args below meth c Q (pc + 1) (lv) (.int (M pos j) :: st) (E M) 90 kc ks) : J D dA A Φ ad0 n0 nL p l e R s m args below meth c Q (pc) (lv) (.int i :: .ref pos :: st) (E M) 90 kc ks := J_baload C ha.1 (ha.2.2 _) (by rw [hj]; exact vp_in_nI hlt ha.2.1) hd (by rw [hj, nI_clamp (Nat.lt_trans hlt ha.2.1)]; exact kk)
theorem K_ias (C : Cx D dA A ad0 own cc nL p R s m args meth c) {pos len j : Nat} {i x : Int32} (ha : isI pos len) (hj : i = nI j) (hlt : j < len) (hd : decode cc pc = .ok (.iastore, 1)) (hΦ : ∀ H locs, Φ H locs := by intros; trivial) (kk : J D dA A Φ ad0 n0 nL p l e R s m args below meth c Q (pc + 1) (lv) (st) (E (mu M pos j x)) 90 kc ks) : J D dA A Φ ad0 n0 nL p l e R s m args below meth c Q (pc) (lv) (.int x :: .int i :: .ref pos :: st) (E M) 90 kc ks := J_iastore C ha.1 (ha.2.2 _) (by rw [hj]; exact vp_in_nI hlt ha.2.1) hd hΦ (by rw [hj, nI_clamp (Nat.lt_trans hlt ha.2.1), ← ha.2.2, ← E_mu]; exact kk)
theorem K_bas (C : Cx D dA A ad0 own cc nL p R s m args meth c) {pos len j : Nat} {i x : Int32} (ha : isZ pos len) (hj : i = nI j) (hlt : j < len) (hx : x = 0 ∨ x = 1) (hd : decode cc pc = .ok (.bastore, 1)) (hΦ : ∀ H locs, Φ H locs := by intros; trivial) (kk : J D dA A Φ ad0 n0 nL p l e R s m args below meth c Q (pc + 1) (lv) (st) (E (mu M pos j x)) 90 kc ks) : J D dA A Φ ad0 n0 nL p l e R s m args below meth c Q (pc) (lv) (.int x :: .int i :: .ref pos :: st) (E M) 90 kc ks := J_bastore C ha.1 (ha.2.2 _) (by rw [hj]; exact vp_in_nI hlt ha.2.1) hd hΦ (by rw [hj, nI_clamp (Nat.lt_trans hlt ha.2.1), show vp_nar .boolean x = x by rcases hx with rfl | rfl <;> rfl, ← ha.2.2, ← E_mu]; exact kk)
theorem K_alen (C : Cx D dA A ad0 own cc nL p R s m args meth c) {pos len : Nat} (ha : isI pos len) (hd : decode cc pc = .ok (.arraylength, 1)) (kk : J D dA A Φ ad0 n0 nL p l e R s m args below meth c Q (pc + 1) (lv) (.int (nI len) :: st) (E M) 90 kc ks) : J D dA A Φ ad0 n0 nL p l e R s m args below meth c Q (pc) (lv) (.ref pos :: st) (E M) 90 kc ks := J_alen C ha.1 (ha.2.2 _) hd kk
theorem K_pkld (C : Cx D dA A ad0 own cc nL p R s m args meth c) {j x : Nat} {i : Int32} (hj : i = nI j) (hlt : j < 24) (hx : M 6 j = nI x) (hx2 : x < 24) (hd : decode cc pc = .ok (.aaload, 1)) (kk : J D dA A Φ ad0 n0 nL p l e R s m args below meth c Q (pc + 1) (lv) (.ref (7 + 2 * x) :: st) (E M) 90 kc ks) : J D dA A Φ ad0 n0 nL p l e R s m args below meth c Q (pc) (lv) (.int i :: .ref 6 :: st) (E M) 90 kc ks := J_aaload C (Or.inl rfl) (by decide) (e_6 M) (by rw [hj]; exact vp_in_nI hlt (by decide)) (by rw [hj, nI_clamp (by omega), hx, zPk_nI hx2]) hd kk
theorem K_pkst (C : Cx D dA A ad0 own cc nL p R s m args meth c) {j x : Nat} {i : Int32} (hj : i = nI j) (hlt : j < 24) (hx2 : x < 24) (hd : decode cc pc = .ok (.aastore, 1)) (hΦ : ∀ H locs, Φ H locs := by intros; trivial) (kk : J D dA A Φ ad0 n0 nL p l e R s m args below meth c Q (pc + 1) (lv) (st) (E (mu M 6 j (nI x))) 90 kc ks) : J D dA A Φ ad0 n0 nL p l e R s m args below meth c Q (pc) (lv) (.ref (7 + 2 * x) :: .int i :: .ref 6 :: st) (E M) 90 kc ks := by
  refine J_aastore C (Or.inl ⟨rfl, rfl⟩) (by decide) (e_6 M) (by omega) (e_pk M hx2) (by rw [hj]; exact vp_in_nI hlt (by decide)) hd hΦ ?_
  have e1 : E (mu M 6 j (nI x)) = va_up (E M) 6 (.inl (3, 24, .inr (.inr (.inr (.inr (va_up (fun j => some (zPk (M 6 j))) i.toNatClampNeg (some (7 + 2 * x)))))))) := by
    rw [E_mu, hj, nI_clamp (by omega)]
    congr 1
    show Sum.inl (3, 24, Sum.inr (Sum.inr (Sum.inr (Sum.inr (fun a => some (zPk (upd (M 6) j (nI x) a))))))) = _
    have e2 : (fun a => some (zPk (upd (M 6) j (nI x) a))) = va_up (fun j => some (zPk (M 6 j))) j (some (7 + 2 * x)) := by
      funext a
      by_cases h : a = j
      · simp [upd, va_up, h, zPk_nI hx2]
      · simp [upd, va_up, h]
    rw [e2]
  rw [← e1]
  exact kk
theorem K_stld (C : Cx D dA A ad0 own cc nL p R s m args meth c) {j : Nat} {i : Int32} (hj : i = nI j) (hlt : j < 4) (hd : decode cc pc = .ok (.aaload, 1)) (kk : J D dA A Φ ad0 n0 nL p l e R s m args below meth c Q (pc + 1) (lv) (.ref (61 + 2 * j) :: st) (E M) 90 kc ks) : J D dA A Φ ad0 n0 nL p l e R s m args below meth c Q (pc) (lv) (.int i :: .ref 60 :: st) (E M) 90 kc ks := J_aaload C (Or.inr rfl) (by decide) (e_60 M) (by rw [hj]; exact vp_in_nI hlt (by decide)) (by rw [hj, nI_clamp (by omega)]) hd kk
/-- A CONTRACT OVER THE MEMORY -/
def CM (l : Launch) (D : va_G) (dA : Nat → ClassId) (k : zK) (d : Nat) (as : List Value) (M : Mem) (P : Option Value → Mem → Prop) : Prop := CT l D dA k d 0 0 90 as (E M) (fun v h' n' => n' = 90 ∧ ∃ M', h' = E M' ∧ P v M')
theorem K_callV (C : Cx D dA A ad0 own cc nL p R s m args meth c) {k : zK} {idx d np ci b : Nat} {as fs : List Value} {PP : Option Value → Mem → Prop} (hM : CM l D dA k d (.ref b :: as) M PP) (hl : ML own idx k np) (hv : MV k ci) (hb : b < 90) (he : E M b = .inr (ci, fs)) (hn : as.length = np) (hR : d + 11 ≤ R.frames ∧ k.2.2.1 + 319 + 60 * d ≤ R.locals) (hcap : kc + 0 ≤ R.cells ∧ ks + 0 ≤ R.slots) (hst : zCat st ≤ 8) (hd : decode cc pc = .ok (.invokevirtual idx, 3)) (hΦ : ∀ H locs, Φ H locs := by intros; trivial) 
    (kk : ∀ v M', PP v M' → J D dA A Φ ad0 n0 nL p l e R s m args below meth c Q (pc + 3) (lv) (v.toList ++ st) (E M') 90 kc ks) : J D dA A Φ ad0 n0 nL p l e R s m args below meth c Q (pc) (lv) (as.reverse ++ .ref b :: st) (E M) 90 kc ks :=
  J_callV C hM hl hv hb he hn (by decide) hR hcap hst (fun _ _ _ q => q.1) hd hΦ (fun v h' q => by obtain ⟨-, M', rfl, q⟩ := q; exact kk v M' q)
theorem K_callS (C : Cx D dA A ad0 own cc nL p R s m args meth c) {k : zK} {idx d np : Nat} {as : List Value} {PP : Option Value → Mem → Prop} (hM : CM l D dA k d as M PP) (hl : ML own idx k np) (hv : Cond.static k.1 ∈ tb) (hn : as.length = np) (hR : d + 11 ≤ R.frames ∧ k.2.2.1 + 319 + 60 * d ≤ R.locals) (hcap : kc + 0 ≤ R.cells ∧ ks + 0 ≤ R.slots) (hst : zCat st ≤ 8) (hd : decode cc pc = .ok (.invokestatic idx, 3)) (hΦ : ∀ H locs, Φ H locs := by intros; trivial) 
    (kk : ∀ v M', PP v M' → J D dA A Φ ad0 n0 nL p l e R s m args below meth c Q (pc + 3) (lv) (v.toList ++ st) (E M') 90 kc ks) : J D dA A Φ ad0 n0 nL p l e R s m args below meth c Q (pc) (lv) (as.reverse ++ st) (E M) 90 kc ks :=
  J_callS C hM hl hv hn (by decide) hR hcap hst (fun _ _ _ q => q.1) hd hΦ (fun v h' q => by obtain ⟨-, M', rfl, q⟩ := q; exact kk v M' q)
theorem K_iret (C : Cx D dA A ad0 own cc nL p R s m args meth c) {PP : Option Value → Mem → Prop} {v : Int32} (hr : meth.sig.returnType = some .int) (hP : PP (some (.int v)) M) (hd : decode cc pc = .ok (.ireturn, 1)) : J D dA A Φ ad0 90 nL p l e R s m args below meth c (MQ below (zQc D dA A ad0 90 (fun v h' n' => n' = 90 ∧ ∃ M', h' = E M' ∧ PP v M')) args s 0 0 A) pc lv ([.int v]) (E M) 90 0 0 := J_ireturn C hr (Nat.le_refl _) ⟨rfl, M, rfl, hP⟩ hd
theorem K_zret (C : Cx D dA A ad0 own cc nL p R s m args meth c) {PP : Option Value → Mem → Prop} {v : Int32} (hr : meth.sig.returnType = some .boolean) (hv : v = 0 ∨ v = 1) (hP : PP (some (.int v)) M) (hd : decode cc pc = .ok (.ireturn, 1)) : J D dA A Φ ad0 90 nL p l e R s m args below meth c (MQ below (zQc D dA A ad0 90 (fun v h' n' => n' = 90 ∧ ∃ M', h' = E M' ∧ PP v M')) args s 0 0 A) pc lv ([.int v]) (E M) 90 0 0 := J_zreturn C hr hv (Nat.le_refl _) ⟨rfl, M, rfl, hP⟩ hd
theorem K_aret (C : Cx D dA A ad0 own cc nL p R s m args meth c) {PP : Option Value → Mem → Prop} {x : Nat} {T : String} (hr : meth.sig.returnType = some (.object T)) (hP : PP (some (.ref x)) M) (hd : decode cc pc = .ok (.areturn, 1)) : J D dA A Φ ad0 90 nL p l e R s m args below meth c (MQ below (zQc D dA A ad0 90 (fun v h' n' => n' = 90 ∧ ∃ M', h' = E M' ∧ PP v M')) args s 0 0 A) pc lv ([.ref x]) (E M) 90 0 0 := J_areturn C hr (Nat.le_refl _) ⟨rfl, M, rfl, hP⟩ hd
theorem K_ret (C : Cx D dA A ad0 own cc nL p R s m args meth c) {PP : Option Value → Mem → Prop} (hr : meth.sig.returnType = none) (hP : PP none M) (hd : decode cc pc = .ok (.return_, 1)) : J D dA A Φ ad0 90 nL p l e R s m args below meth c (MQ below (zQc D dA A ad0 90 (fun v h' n' => n' = 90 ∧ ∃ M', h' = E M' ∧ PP v M')) args s 0 0 A) pc lv ([]) (E M) 90 0 0 := J_return C hr (Nat.le_refl _) ⟨rfl, M, rfl, hP⟩ hd
end ZM
