def zQp (ad0 : Nat → Nat) (r : Value) : Array Value → State → Outcome → State → Prop := fun _ st o t => o = .returned (some (zV ad0 r)) ∧ t.heap = st.heap
/-- A CONTRACT THAT ONLY READS: the answer is r -/
def PT (l : Launch) (D : va_G) (dA : Nat → ClassId) (k : zK) (d n : Nat) (as : List Value) (h : Nat → va_E) (r : Value) : Prop :=
  ∀ (ad0 : Nat → Nat) (sz : Nat), Met l k.1 [Cond.code k.1 k.2.1 k.2.2.1 k.2.2.2] (zR d 0 0) (zPc D dA ad0 h n sz as) (zQp ad0 r) 0 0 (fun _ => False)
section ZX
variable {D : va_G} {dA : Nat → ClassId} {A : Nat → Prop} {Φ : Heap → List Loc → Prop} {ad0 : Nat → Nat} {n0 nL : Nat} {p : Program} {l : Launch} {e : Env} {R : Room} {s : State} {m : MethodId} {args : Array Value} {below : List Frame} {meth : Method} {c : Code} {Q : State → Prop} {pc : Nat} {lv : List (Option Value)} {st : List Value} {h : Nat → va_E} {n kc ks : Nat} {own : String} {cc : ByteArray}
theorem zEnter {k : zK} {d mc ms n sz : Nat} {as : List Value} {ad0 : Nat → Nat} {args : Array Value} {s₁ : State} {S : Spec} (hS : S.room = zR d mc ms) (B : BodyLoose p l k.1 S k.2.1 k.2.2.1 k.2.2.2 e s m args below meth c s₁) (hml : c.maxLocals = k.2.2.1) (hv : zPc D dA ad0 h n sz as args s) :
    args = (as.map (zV ad0)).toArray ∧ va_P D cls (wl dA ad0 h n) s.heap ∧ va_D (zA ad0 n s.heap.size) (wl dA ad0 h n) ∧ Cx D dA (zA ad0 n s.heap.size) ad0 k.1.cls k.2.1 k.2.2.1 p (zR d mc ms) s m args meth c := by
  obtain ⟨rfl, hsz, hP, hD0, hK, hT, hRO⟩ := hv
  subst hsz
  have hown : s.vm.findClass k.1.cls = some m.cls := findClass_of_methodNamed B.named
  refine ⟨rfl, hP, ⟨hD0.1, fun i q hq => ?_⟩, B.exec, B.bytes, hml, hown, hT.use _, hK, fun q hq => Or.inr hq, B.notSynchronized, hRO, hT, by unfold zR; simp; omega, by unfold zR; simp; omega⟩
  obtain ⟨hi, rfl⟩ := wl_lt hq
  exact Or.inl ⟨i, hi, rfl⟩
theorem PT.of {k : zK} {d : Nat} {as : List Value} {r : Value} (hy : plainName k.1.cls = true) (hl : as.length ≤ k.2.2.1) (hc : ∀ v ∈ as, v.category = 1)
    (body : ∀ (A : Nat → Prop) (ad0 : Nat → Nat) (p : Program) (e : Env) (s : State) (m : MethodId) (args : Array Value) (below : List Frame) (meth : Method) (c : Code), Cx D dA A ad0 k.1.cls k.2.1 k.2.2.1 p (zR d 0 0) s m args meth c → meth.sig.returnType = k.2.2.2 →
      J D dA A (fun H locs => H = s.heap ∧ locs = []) ad0 n k.2.2.1 p l e (zR d 0 0) s m args below meth c (MQ below (zQp ad0 r) args s 0 0 (fun _ => False)) 0 (zLv as k.2.2.1) [] h n 0 0) : PT l D dA k d n as h r := by
  intro ad0 sz
  refine Met.ofW (cc := k.2.1) (maxL := k.2.2.1) (ret := k.2.2.2) (ws' := []) hy rfl ?_
  intro p e s m args below meth c s₁ B hml hv
  obtain ⟨rfl, hP, hD, C⟩ := zEnter (d := d) (mc := 0) (ms := 0) rfl B hml hv
  rw [lg_entry_eq]
  exact body _ ad0 p e s m _ below meth c C B.returns ad0 s.heap [] _ (fun _ _ => rfl) hP hD va_S.rf ⟨rfl, rfl⟩ (LV.entry hc hl)
theorem P_iret (C : Cx D dA A ad0 own cc nL p R s m args meth c) {v : Int32} (hr : meth.sig.returnType = some .int) (hd : decode cc pc = .ok (.ireturn, 1)) : J D dA A (fun H locs => H = s.heap ∧ locs = []) ad0 n nL p l e R s m args below meth c (MQ below (zQp ad0 (.int v)) args s 0 0 (fun _ => False)) (pc) (lv) ([.int v]) (h) n 0 0 := by
  intro ad H locs ls h0 hP hD hS hF hL
  obtain ⟨rfl, rfl⟩ := hF
  exact W.iret C.1 C.2.1 hr (fun t ht hW => ⟨rfl, ht⟩) (fun q hq => by cases hq) hd (hlocks := C.2.2.2.2.2.2.2.1)
theorem P_zret (C : Cx D dA A ad0 own cc nL p R s m args meth c) {v : Int32} (hr : meth.sig.returnType = some .boolean) (hv : v = 0 ∨ v = 1) (hd : decode cc pc = .ok (.ireturn, 1)) : J D dA A (fun H locs => H = s.heap ∧ locs = []) ad0 n nL p l e R s m args below meth c (MQ below (zQp ad0 (.int v)) args s 0 0 (fun _ => False)) (pc) (lv) ([.int v]) (h) n 0 0 := by
  intro ad H locs ls h0 hP hD hS hF hL
  obtain ⟨rfl, rfl⟩ := hF
  exact W.zret C.1 C.2.1 hr (by rcases hv with rfl | rfl <;> rfl) (fun t ht hW => ⟨rfl, ht⟩) (fun q hq => by cases hq) hd (hlocks := C.2.2.2.2.2.2.2.1)
theorem P_aret (C : Cx D dA A ad0 own cc nL p R s m args meth c) {x : Nat} {T : String} (hr : meth.sig.returnType = some (.object T)) (hd : decode cc pc = .ok (.areturn, 1)) : J D dA A (fun H locs => H = s.heap ∧ locs = []) ad0 n nL p l e R s m args below meth c (MQ below (zQp ad0 (.ref x)) args s 0 0 (fun _ => False)) (pc) (lv) ([.ref x]) (h) n 0 0 := by
  intro ad H locs ls h0 hP hD hS hF hL
  obtain ⟨rfl, rfl⟩ := hF
  obtain rfl : ad = ad0 := funext fun k => h0 k (Nat.lt_or_ge k n)
  exact W.aret C.1 C.2.1 hr (Or.inl ⟨T, rfl⟩) (Or.inr ⟨_, rfl⟩) (fun t ht hW => ⟨rfl, ht⟩) (fun q hq => by cases hq) hd (hlocks := C.2.2.2.2.2.2.2.1)
theorem zAfterP {ls : Array Slot} {as rest : List Value} {r : Value} {ad : Nat → Nat} {H : Heap} {locs : List Loc} {av : Array Value} (hrun : va_Run p l e R s m args below meth c H locs kc ks 0 0 (F0 m pc ls as) rest (zQp ad r av) (fun _ => False))
    (kk : W p l e R s m args below meth c H locs kc ks Q (F0 m (pc + 3) ls (zV ad r :: rest))) : W p l e R s m args below meth c H locs kc ks Q (F0 m pc ls as) := by
  intro T hT X
  obtain ⟨v, st₀, t, T', L, e0, X', hL', e1, e2, ⟨hv, hh⟩, st⟩ := hrun T hT X
  cases hv
  obtain ⟨t2, a1, b1⟩ := kk T' (by rw [e1, hh, e0]) (Stand.forget X' (fun q h => (hL' q h).elim))
  exact ⟨t2, st t2 a1, b1⟩
theorem P_callV (C : Cx D dA A ad0 own cc nL p R s m args meth c) {k : zK} {idx d np ci b : Nat} {as fs : List Value} {r : Value} (hM : PT l D dA k d n (.ref b :: as) h r) (hl : ML own idx k np) (hv : MV k ci) (hb : b < n) (he : h b = .inr (ci, fs)) (hn : as.length = np) (hn1 : n ≤ 1000) (hR : d + 11 ≤ R.frames ∧ k.2.2.1 + 319 + 60 * d ≤ R.locals) (hcap : kc + 0 ≤ R.cells ∧ ks + 0 ≤ R.slots) (hst : zCat st ≤ 8) (hd : decode cc pc = .ok (.invokevirtual idx, 3))
    (kk : J D dA A Φ ad0 n0 nL p l e R s m args below meth c Q (pc + 3) (lv) (r :: st) (h) n kc ks) : J D dA A Φ ad0 n0 nL p l e R s m args below meth c Q (pc) (lv) (as.reverse ++ .ref b :: st) (h) n kc ks := by
  intro ad H locs ls h0 hP hD hS hF hL
  have hpre := zPre (as := .ref b :: as) C h0 hn1 hP hD hS
  have hstk : (as.reverse ++ .ref b :: st).map (zV ad) = (as.map (zV ad)).reverse ++ .ref (ad b) :: st.map (zV ad) := by simp [zV]
  have hrun : va_Run p l e R s m args below meth c H locs kc ks 0 0 (F0 m pc ls ((as.reverse ++ .ref b :: st).map (zV ad))) (st.map (zV ad)) (zQp ad r (Value.ref (ad b) :: as.map (zV ad)).toArray) (fun _ => False) := by
    rcases hl.1 with hlk | ⟨host, hlk⟩
    · exact va_runV (C := k.1.cls) (b := ad b) ⟨C.1, C.2.1, C.2.2.1, C.2.2.2.1, C.2.2.2.2.1⟩ (hM ad H.size) ⟨zCb C hl.2 hlk hR, C.2.2.2.2.1 _ hv.1, C.2.2.2.2.1 _ hv.2.1⟩ ⟨zPc_blind, zRecv C hv.2.2 hb he hP, hpre⟩ rfl (by rw [List.length_map]; exact hn) hL.1 hstk (lv_room (by rw [zCat_map]; exact hst)) hd hcap
    · exact va_runVN (C := k.1.cls) (b := ad b) ⟨C.1, C.2.1, C.2.2.1, C.2.2.2.1, C.2.2.2.2.1⟩ (hM ad H.size) ⟨zCn C hl.2 hlk hR, C.2.2.2.2.1 _ hv.1, C.2.2.2.2.1 _ hv.2.1⟩ ⟨zPc_blind, zRecv C hv.2.2 hb he hP, hpre⟩ rfl (by rw [List.length_map]; exact hn) hL.1 hstk (lv_room (by rw [zCat_map]; exact hst)) hd hcap
  exact zAfterP hrun (kk ad H locs ls h0 hP hD hS hF hL)
theorem P_callS (C : Cx D dA A ad0 own cc nL p R s m args meth c) {k : zK} {idx d np : Nat} {as : List Value} {r : Value} (hM : PT l D dA k d n as h r) (hl : ML own idx k np) (hv : Cond.static k.1 ∈ tb) (hn : as.length = np) (hn1 : n ≤ 1000) (hR : d + 11 ≤ R.frames ∧ k.2.2.1 + 319 + 60 * d ≤ R.locals) (hcap : kc + 0 ≤ R.cells ∧ ks + 0 ≤ R.slots) (hst : zCat st ≤ 8) (hd : decode cc pc = .ok (.invokestatic idx, 3))
    (kk : J D dA A Φ ad0 n0 nL p l e R s m args below meth c Q (pc + 3) (lv) (r :: st) (h) n kc ks) : J D dA A Φ ad0 n0 nL p l e R s m args below meth c Q (pc) (lv) (as.reverse ++ st) (h) n kc ks := by
  intro ad H locs ls h0 hP hD hS hF hL
  have hpre := zPre (as := as) C h0 hn1 hP hD hS
  have hstk : (as.reverse ++ st).map (zV ad) = (as.map (zV ad)).reverse ++ st.map (zV ad) := by simp
  have hrun : va_Run p l e R s m args below meth c H locs kc ks 0 0 (F0 m pc ls ((as.reverse ++ st).map (zV ad))) (st.map (zV ad)) (zQp ad r (as.map (zV ad)).toArray) (fun _ => False) := by
    rcases hl.1 with hlk | ⟨host, hlk⟩
    · exact va_runS ⟨C.1, C.2.1, C.2.2.1, C.2.2.2.1, C.2.2.2.2.1⟩ (hM ad H.size) ⟨zCb C hl.2 hlk hR, C.2.2.2.2.1 _ hv⟩ ⟨zPc_blind, hpre⟩ rfl (by rw [List.length_map]; exact hn) hL.1 hstk (lv_room (by rw [zCat_map]; exact hst)) hd hcap
    · exact va_runSN ⟨C.1, C.2.1, C.2.2.1, C.2.2.2.1, C.2.2.2.2.1⟩ (hM ad H.size) ⟨zCn C hl.2 hlk hR, C.2.2.2.2.1 _ hv, trivial⟩ ⟨zPc_blind, hpre⟩ rfl (by rw [List.length_map]; exact hn) hL.1 hstk (lv_room (by rw [zCat_map]; exact hst)) hd hcap
  exact zAfterP hrun (kk ad H locs ls h0 hP hD hS hF hL)
-- throwing
def zQx (X : String) : Array Value → State → Outcome → State → Prop := fun _ st o t => ∃ (a : Addr) (ce : Cell), o = .threw a ∧ st.WarmedH t.vm ∧ st.sameButNew ({ t with vm := st.vm } : State) [] 1 6 ∧ t.heap[a]? = some ce ∧ st.vm.findClass X = some ce.cls ∧ ce.vm = .none
def XT (l : Launch) (D : va_G) (dA : Nat → ClassId) (k : zK) (d n : Nat) (as : List Value) (h : Nat → va_E) (X : String) : Prop :=
  ∀ (ad0 : Nat → Nat) (sz : Nat), MetFree l k.1 (headSpec [Cond.code k.1 k.2.1 k.2.2.1 k.2.2.2] (zR d 1 6)) (zPc D dA ad0 h n sz as) (fun _ _ _ _ _ => True) (zQx X)
def MX (below : List Frame) (X : String) (args : Array Value) (s : State) : State → Prop := fun t => ∃ o, t.status = .running ∧ Ended t below o ∧ zQx X args s o t
theorem XT.of {k : zK} {d : Nat} {as : List Value} {X : String} (hy : plainName k.1.cls = true) (hl : as.length ≤ k.2.2.1) (hc : ∀ v ∈ as, v.category = 1)
    (body : ∀ (A : Nat → Prop) (ad0 : Nat → Nat) (p : Program) (e : Env) (s : State) (m : MethodId) (args : Array Value) (below : List Frame) (meth : Method) (c : Code), Cx D dA A ad0 k.1.cls k.2.1 k.2.2.1 p (zR d 1 6) s m args meth c → c.exceptionTable.isEmpty = true →
      J D dA A (fun H locs => H = s.heap ∧ locs = []) ad0 n k.2.2.1 p l e (zR d 1 6) s m args below meth c (MX below X args s) 0 (zLv as k.2.2.1) [] h n 0 0) : XT l D dA k d n as h X := by
  intro ad0 sz
  refine MetFree.of_bodyS (code := k.2.1) (maxLocals := k.2.2.1) (ret := k.2.2.2) hy ?_ ?_
  · intro args s m h hn
    obtain ⟨meth, c, h1, h2, h3, h4, h5, h6, -, -⟩ := Cond.code_spec hn (atoms_spec (ws := [Cond.code k.1 k.2.1 k.2.2.1 k.2.2.2]) h _ List.mem_cons_self)
    exact ⟨meth, c, h1, h2, h3, h4, h5, h6⟩
  · intro p e s m args below meth c s₁ B hml hv _
    have hnoh := BodyLoose.noHandlers B (atoms_spec (ws := [Cond.code k.1 k.2.1 k.2.2.1 k.2.2.2]) B.pre _ List.mem_cons_self)
    obtain ⟨rfl, hP, hD, C⟩ := zEnter (d := d) (mc := 1) (ms := 6) rfl B hml hv
    have b := body _ ad0 p e s m _ below meth c C hnoh ad0 s.heap [] _ (fun _ _ => rfl) hP hD va_S.rf ⟨rfl, rfl⟩ (LV.entry hc hl)
    rw [lg_entry_eq]
    have hh0 : s₁.heap = s.heap := by rw [B.state]; rfl
    obtain ⟨t, a1, o, b1, b2, b3⟩ := b s₁ hh0 (Stand.of_body B)
    exact ⟨t, o, a1, b1, b2, b3⟩
def zIsSC (w : Cond) : Bool := match w with
  | .laysStatic a b d => (a == "java/lang/Throwable") && ((b == "UNASSIGNED_STACK" && d == "[Ljava/lang/StackTraceElement;") || (b == "SUPPRESSED_SENTINEL" && d == "Ljava/util/List;"))
  | .isRef (.static a b d) => (a == "java/lang/Throwable") && ((b == "UNASSIGNED_STACK" && d == "[Ljava/lang/StackTraceElement;") || (b == "SUPPRESSED_SENTINEL" && d == "Ljava/util/List;"))
  | _ => false
theorem zSC_word (C : Cx D dA A ad0 own cc nL p R s m args meth c) {w : Cond} (h : zIsSC w = true) : w.before args s = true := by
  have hRO := C.2.2.2.2.2.2.2.2.1
  unfold zIsSC at h
  split at h
  · simp only [Bool.and_eq_true, Bool.or_eq_true, beq_iff_eq] at h
    obtain ⟨rfl, ⟨rfl, rfl⟩ | ⟨rfl, rfl⟩⟩ := h
    · exact hRO.2.2.1.lays
    · exact hRO.2.2.2.lays
  · simp only [Bool.and_eq_true, Bool.or_eq_true, beq_iff_eq] at h
    obtain ⟨rfl, ⟨rfl, rfl⟩ | ⟨rfl, rfl⟩⟩ := h
    · exact hRO.2.2.1.isRef
    · exact hRO.2.2.2.isRef
  · cases h
theorem J_throw (C : Cx D dA A ad0 own cc nL p R s m args meth c) {d idx ic : Nat} {X : String} {names : List String} (hfl : l.flags = pinnedFlags ++ [noTraceFlag]) (hRR : R = zR d 1 6) (hnoh : c.exceptionTable.isEmpty = true) (hcl : Cond.classLink own idx X ∈ tb) (hins : Cond.instantiable X 6 ∈ tb) (hini : Cond.initialized X ∈ tb) (hX : Bundle.fit X = true) (hnm : ∀ n ∈ names, Bundle.fit n = true) (hat : ∀ w ∈ Bundle.ownAtoms0 own ic X names, w ∈ tb ∨ zIsSC w = true) (hlen : names.length ≤ 3) (hst : zCat st ≤ 8)
    (hd0 : decode cc pc = .ok (.new idx, 3)) (hd1 : decode cc (pc + 3) = .ok (.dup, 1)) (hd2 : decode cc (pc + 4) = .ok (.invokespecial ic, 3)) (hd3 : decode cc (pc + 7) = .ok (.athrow, 1)) :
    J D dA A (fun H locs => H = s.heap ∧ locs = []) ad0 n nL p l e R s m args below meth c (MX below X args s) pc lv st h n 0 0 := by
  intro ad H locs ls h0 hP hD hS hF hL
  obtain ⟨rfl, rfl⟩ := hF
  subst hRR
  refine W.newc C.1 C.2.1 C.2.2.2.1 (C.2.2.2.2.1 _ hcl) (C.2.2.2.2.1 _ hins) (C.2.2.2.2.1 _ hini) rfl hd0 (by show 0 + 1 ≤ 1; omega) (by show 0 + 6 ≤ 6; omega) (fun cC kC hf hk hord hsz => ?_)
  refine W.eq (g2 := F0 m (pc + 3) ls (.ref s.heap.size :: st.map (zV ad))) rfl ?_
  refine lv_dup C.1 C.2.1 hd1 rfl ?_
  intro T hT Y
  have hcell : T.heap[s.heap.size]? = some (freshCell cC kC) := by rw [hT, Array.getElem?_push_size]
  have hemp : c.exceptionTable.toList = [] := by
    have h1 : c.exceptionTable.size = 0 := by simpa [Array.isEmpty] using hnoh
    exact List.eq_nil_of_length_eq_zero (by simpa using h1)
  have hcat : (((Value.ref s.heap.size :: st.map (zV ad)).map fun v => v.category).sum) ≤ 9 := by
    rw [List.map_cons, List.sum_cons, zCat_map]
    show 1 + zCat st ≤ 9
    omega
  obtain ⟨U, st1, hrun, hend, hW, hsame, ce, hce, hoc⟩ := Y.ctorThrow0 C.1 (Launch.traces_off hfl Y.admits) C.2.2.2.1 hX hnm
    (fun a ha => (hat a ha).elim (fun q => C.2.2.2.2.1 _ q) (fun q => zSC_word C q)) (fun x hx => by cases hx) hf hk hcell (Nat.le_refl _)
    (g := F0 m (pc + 3 + 1) ls (.ref s.heap.size :: .ref s.heap.size :: st.map (zV ad))) rfl (by rw [C.2.2.1]; exact hL.1) rfl rfl rfl (by rw [C.2.1]; exact hd2) (by rw [C.2.1]; exact hd3) (by rw [hemp]; intro x hx; cases hx)
    (by show names.length + 3 < 10 + d; omega) (by show 2 * 0 + _ + (13 * (names.length + 1) + 41) ≤ 300 + 60 * d; omega) (hlocks := C.2.2.2.2.2.2.2.1)
  exact ⟨U, st1, .threw _, hrun, hend, _, ce, rfl, hW, hsame, hce, hoc.cls, hoc.vm⟩
end ZX

