abbrev zK : Type := MethodName × ByteArray × Nat × Option FieldType
def zR (d mc ms : Nat) : Room := { frames := 10 + d, cells := mc, slots := ms, locals := 300 + 60 * d }
def zPc (D : va_G) (dA : Nat → ClassId) (ad0 : Nat → Nat) (h : Nat → va_E) (n sz : Nat) (as : List Value) : Array Value → State → Prop := va_Pc (as.map (zV ad0)) (fun U => U.heap.size = sz ∧ va_P D cls (wl dA ad0 h n) U.heap ∧ va_D (fun _ => True) (wl dA ad0 h n) ∧ va_K D cls (tyL dA) U ∧ TB U ∧ zRO (zA ad0 n sz) (ad0 1000) U U.heap)
def zQc (D : va_G) (dA : Nat → ClassId) (A : Nat → Prop) (ad0 : Nat → Nat) (n : Nat) (Post : Option Value → (Nat → va_E) → Nat → Prop) : Array Value → State → Outcome → State → Prop := fun _ st o t =>
  (∃ (ad' : Nat → Nat) (h' : Nat → va_E) (n' : Nat) (v : Option Value), (∀ k, k < n ∨ n' ≤ k → ad' k = ad0 k) ∧ n ≤ n' ∧ o = .returned (v.map (zV ad')) ∧ Post v h' n' ∧ va_P D cls (wl dA ad' h' n') t.heap ∧ va_D A (wl dA ad' h' n')) ∧ va_F A st t
/-- A CONTRACT: the method k, at depth d, making mc cells of ms slots, with n cells h, from the arguments as, comes to Post -/
def CT (l : Launch) (D : va_G) (dA : Nat → ClassId) (k : zK) (d mc ms n : Nat) (as : List Value) (h : Nat → va_E) (Post : Option Value → (Nat → va_E) → Nat → Prop) : Prop :=
  ∀ (ad0 : Nat → Nat) (sz : Nat), Met l k.1 [Cond.code k.1 k.2.1 k.2.2.1 k.2.2.2] (zR d mc ms) (zPc D dA ad0 h n sz as) (zQc D dA (zA ad0 n sz) ad0 n Post) mc ms (zA ad0 n sz)
theorem zPc_blind {D : va_G} {dA : Nat → ClassId} {ad0 : Nat → Nat} {h : Nat → va_E} {n sz : Nat} {as : List Value} : FrameBlind (zPc D dA ad0 h n sz as) := by
  intro a U g mk q
  obtain ⟨q0, q1, qP, qD, qK, qT, qR⟩ := q
  exact ⟨q0, q1, qP, qD, va_K.moved (u := U) (U := U.calling g mk a) (Vm.Alike.refl U.vm) qK, TB.move (U := U.calling g mk a) qT (State.WarmedH.refl U), zRO.moved (u := U) (U := U.calling g mk a) (Vm.Alike.refl U.vm) qR⟩
theorem lv_args_mem : ∀ (vs : List Value) (k : Nat), (∀ v ∈ vs, v.category = 1) → ∀ (i : Nat) (v : Value), vs[i]? = some v → (k + i, v) ∈ lv_args k vs
  | [], _, _, i, v, h => by simp at h
  | w :: vs, k, hc, i, v, h => by
    have hw : ¬ w.category = 2 := by rw [hc w List.mem_cons_self]; decide
    unfold lv_args
    rw [if_neg hw]
    cases i with
    | zero => simp at h; subst h; exact List.mem_cons_self
    | succ j =>
      refine List.mem_cons_of_mem _ ?_
      have := lv_args_mem vs (k + 1) (fun v hv => hc v (List.mem_cons_of_mem _ hv)) j v (by simpa using h)
      rwa [show k + 1 + j = k + (j + 1) by omega] at this
theorem lg_sl_len {vs : List Value} (hc : ∀ v ∈ vs, v.category = 1) : (lg_sl vs).length = vs.length := by
  induction vs with
  | nil => rfl
  | cons w t ih =>
    have hw : ¬ w.category = 2 := by rw [hc w List.mem_cons_self]; decide
    have := ih (fun v hv => hc v (List.mem_cons_of_mem _ hv))
    unfold lg_sl at this ⊢
    rw [List.flatMap_cons, if_neg hw, List.length_append, this]
    simp [Nat.add_comm]
def zLv (as : List Value) (nL : Nat) : List (Option Value) := as.map some ++ List.replicate (nL - as.length) none
theorem zLv_at {as : List Value} {nL i : Nat} {v : Value} (h : (zLv as nL)[i]? = some (some v)) : as[i]? = some v := by
  unfold zLv at h
  by_cases hi : i < as.length
  · rw [List.getElem?_append_left (by simpa using hi), List.getElem?_map] at h
    cases hv : as[i]? with
    | none => rw [hv] at h; cases h
    | some w => rw [hv] at h; simp at h; rw [h]
  · rw [List.getElem?_append_right (by simpa using Nat.not_lt.mp hi), List.getElem?_replicate] at h
    split at h <;> simp at h
section ZC
variable {D : va_G} {dA : Nat → ClassId} {A : Nat → Prop} {Φ : Heap → List Loc → Prop} {ad0 : Nat → Nat} {n0 nL : Nat} {p : Program} {l : Launch} {e : Env} {R : Room} {s : State} {m : MethodId} {args : Array Value} {below : List Frame} {meth : Method} {c : Code} {Q : State → Prop} {pc : Nat} {lv : List (Option Value)} {st : List Value} {h : Nat → va_E} {n kc ks : Nat} {own : String} {cc : ByteArray}
variable {Post : Option Value → (Nat → va_E) → Nat → Prop}
theorem LV.entry {as : List Value} {ad : Nat → Nat} (hc : ∀ v ∈ as, v.category = 1) (hl : as.length ≤ nL) : LV nL ad (zLv as nL) ((lg_sl (as.map (zV ad)) ++ List.replicate (nL - (lg_sl (as.map (zV ad))).length) Slot.unset).toArray) := by
  have hc' : ∀ v ∈ as.map (zV ad), v.category = 1 := by
    intro v hv
    obtain ⟨w, hw, rfl⟩ := List.mem_map.mp hv
    rw [zV_cat]; exact hc w hw
  obtain ⟨h1, h2, h3⟩ := lv_entry (as.map (zV ad)) (n := nL) (by rw [lg_sl_len hc', List.length_map]; exact hl)
  refine ⟨h1, h2, fun i v hv => ?_⟩
  have := lv_args_mem (as.map (zV ad)) 0 hc' i (zV ad v) (by rw [List.getElem?_map, zLv_at hv]; rfl)
  rw [Nat.zero_add] at this
  exact h3 _ this
theorem CT.of {k : zK} {d mc ms : Nat} {as : List Value} (hy : plainName k.1.cls = true) (hl : as.length ≤ k.2.2.1) (hc : ∀ v ∈ as, v.category = 1)
    (body : ∀ (A : Nat → Prop) (ad0 : Nat → Nat) (p : Program) (e : Env) (s : State) (m : MethodId) (args : Array Value) (below : List Frame) (meth : Method) (c : Code), Cx D dA A ad0 k.1.cls k.2.1 k.2.2.1 p (zR d mc ms) s m args meth c → meth.sig.returnType = k.2.2.2 → meth.name = k.1.name →
      J D dA A (fun _ _ => True) ad0 n k.2.2.1 p l e (zR d mc ms) s m args below meth c (MQ below (zQc D dA A ad0 n Post) args s mc ms A) 0 (zLv as k.2.2.1) [] h n 0 0) : CT l D dA k d mc ms n as h Post := by
  intro ad0 sz
  refine Met.ofW (cc := k.2.1) (maxL := k.2.2.1) (ret := k.2.2.2) (ws' := []) hy rfl ?_
  intro p e s m args below meth c s₁ B hml hv
  obtain ⟨rfl, hsz, hP, hD0, hK, hT, hRO⟩ := hv
  subst hsz
  have hown : s.vm.findClass k.1.cls = some m.cls := findClass_of_methodNamed B.named
  have C : Cx D dA (zA ad0 n s.heap.size) ad0 k.1.cls k.2.1 k.2.2.1 p (zR d mc ms) s m (as.map (zV ad0)).toArray meth c := ⟨B.exec, B.bytes, hml, hown, hT.use _, hK, fun q hq => Or.inr hq, B.notSynchronized, hRO, hT, by unfold zR; simp; omega, by unfold zR; simp; omega⟩
  have hD : va_D (zA ad0 n s.heap.size) (wl dA ad0 h n) := ⟨hD0.1, fun i q hq => by
    obtain ⟨hi, rfl⟩ := wl_lt hq
    exact Or.inl ⟨i, hi, rfl⟩⟩
  have b := body (zA ad0 n s.heap.size) ad0 p e s m (as.map (zV ad0)).toArray below meth c C B.returns (name_of_methodNamed B.named B.method).1
  rw [lg_entry_eq]
  exact b ad0 s.heap [] _ (fun _ _ => rfl) hP hD va_S.rf trivial (LV.entry hc hl)
-- ends
theorem J_ireturn (C : Cx D dA A ad0 own cc nL p R s m args meth c) {v : Int32} (hr : meth.sig.returnType = some .int) (hn0 : n0 ≤ n) (hPost : Post (some (.int v)) h n) (hd : decode cc pc = .ok (.ireturn, 1)) : J D dA A Φ ad0 n0 nL p l e R s m args below meth c (MQ below (zQc D dA A ad0 n0 Post) args s kc ks A) (pc) (lv) ([.int v]) (h) n kc ks := by
  intro ad H locs ls h0 hP hD hS hF hL
  exact W.iret C.1 C.2.1 hr (fun t ht hW => ⟨⟨ad, h, n, some (.int v), h0, hn0, rfl, hPost, by rw [ht]; exact hP, hD⟩, hS.F ht⟩) hS.2.2 hd (hlocks := C.2.2.2.2.2.2.2.1)
theorem J_zreturn (C : Cx D dA A ad0 own cc nL p R s m args meth c) {v : Int32} (hr : meth.sig.returnType = some .boolean) (hv : v = 0 ∨ v = 1) (hn0 : n0 ≤ n) (hPost : Post (some (.int v)) h n) (hd : decode cc pc = .ok (.ireturn, 1)) : J D dA A Φ ad0 n0 nL p l e R s m args below meth c (MQ below (zQc D dA A ad0 n0 Post) args s kc ks A) (pc) (lv) ([.int v]) (h) n kc ks := by
  intro ad H locs ls h0 hP hD hS hF hL
  exact W.zret C.1 C.2.1 hr (by rcases hv with rfl | rfl <;> rfl) (fun t ht hW => ⟨⟨ad, h, n, some (.int v), h0, hn0, rfl, hPost, by rw [ht]; exact hP, hD⟩, hS.F ht⟩) hS.2.2 hd (hlocks := C.2.2.2.2.2.2.2.1)
theorem J_areturn (C : Cx D dA A ad0 own cc nL p R s m args meth c) {x : Nat} {T : String} (hr : meth.sig.returnType = some (.object T)) (hn0 : n0 ≤ n) (hPost : Post (some (.ref x)) h n) (hd : decode cc pc = .ok (.areturn, 1)) : J D dA A Φ ad0 n0 nL p l e R s m args below meth c (MQ below (zQc D dA A ad0 n0 Post) args s kc ks A) (pc) (lv) ([.ref x]) (h) n kc ks := by
  intro ad H locs ls h0 hP hD hS hF hL
  exact W.aret C.1 C.2.1 hr (Or.inl ⟨T, rfl⟩) (Or.inr ⟨_, rfl⟩) (fun t ht hW => ⟨⟨ad, h, n, some (.ref x), h0, hn0, rfl, hPost, by rw [ht]; exact hP, hD⟩, hS.F ht⟩) hS.2.2 hd (hlocks := C.2.2.2.2.2.2.2.1)
theorem J_return (C : Cx D dA A ad0 own cc nL p R s m args meth c) (hr : meth.sig.returnType = none) (hn0 : n0 ≤ n) (hPost : Post none h n) (hd : decode cc pc = .ok (.return_, 1)) : J D dA A Φ ad0 n0 nL p l e R s m args below meth c (MQ below (zQc D dA A ad0 n0 Post) args s kc ks A) (pc) (lv) ([]) (h) n kc ks := by
  intro ad H locs ls h0 hP hD hS hF hL
  exact W.vret C.1 C.2.1 hr (fun t ht hW => ⟨⟨ad, h, n, none, h0, hn0, rfl, hPost, by rw [ht]; exact hP, hD⟩, hS.F ht⟩) hS.2.2 hd (hlocks := C.2.2.2.2.2.2.2.1)
-- calls
def ML (own : String) (idx : Nat) (k : zK) (np : Nat) : Prop := (Cond.methodLink own idx k.1 ∈ tb ∨ ∃ host, Cond.methodLinkNest own idx k.1 host ∈ tb) ∧ Cond.code k.1 k.2.1 k.2.2.1 k.2.2.2 ∈ tb ∧ Cond.initialized k.1.cls ∈ tb ∧ (k.1.cls ≠ "java/lang/invoke/MethodHandle" ∧ k.1.cls ≠ "java/lang/invoke/VarHandle") ∧ (parseMethodDescriptor k.1.desc).map (fun d => d.parameters.length) = some np
def MV (k : zK) (ci : Nat) : Prop := Cond.instanceMethod k.1 ∈ tb ∧ Cond.selects k.1.cls k.1 k.1 ∈ tb ∧ ∃ T N, cls[ci]? = some (k.1.cls, T, N)
def MI (k : zK) : Prop := k.1.name = "<init>" ∧ Cond.instanceMethod k.1 ∈ tb ∧ k.2.2.2 = none
/-- behind a call: the world that came back -/
theorem zAfter {mc ms n' : Nat} {h' : Nat → va_E} {as rest : List Value} {g : JFrame} {ls : Array Slot} {ad : Nat → Nat} {H : Heap} {locs : List Loc} {av : Array Value} (hrun : va_Run p l e R s m args below meth c H locs kc ks mc ms (F0 m pc ls as) rest (zQc D dA (zA ad n H.size) ad n Post av) (zA ad n H.size)) (hA : ∀ q, s.heap.size ≤ q → A q) (hP : va_P D cls (wl dA ad h n) H) (hD : va_D A (wl dA ad h n)) (hS : va_S A s.heap H locs)
    (kk : ∀ (v : Option Value) (ad' : Nat → Nat) (h' : Nat → va_E) (n' : Nat) (H1 : Heap) (locs1 : List Loc), (∀ k, k < n ∨ n' ≤ k → ad' k = ad k) → n ≤ n' → Post v h' n' → va_P D cls (wl dA ad' h' n') H1 → va_D A (wl dA ad' h' n') → va_S A s.heap H1 locs1 →
      W p l e R s m args below meth c H1 locs1 (kc + mc) (ks + ms) Q (F0 m (pc + 3) ls ((v.map (zV ad')).toList ++ rest))) : W p l e R s m args below meth c H locs kc ks Q (F0 m pc ls as) := by
  have hAA : ∀ q, zA ad n H.size q → A q := by
    rintro q (⟨k, hk, rfl⟩ | hq)
    · exact hD.2 k _ (wl_get hk)
    · exact hA q (Nat.le_trans hS.1 hq)
  intro T hT X
  obtain ⟨v, st₀, t, T', L, e0, X', hL', e1, e2, ⟨⟨ad', h', n', v', h0', hn', hv, hp, hP', hD'⟩, hz, hk⟩, st⟩ := hrun T hT X
  cases hv
  rw [e0] at hz hk
  obtain ⟨t2, a1, b1⟩ := kk v' ad' h' n' T'.heap (locs ++ L) h0' hn' hp (by rw [e1]; exact hP') (hD'.weaken (fun _ q _ hq => hAA _ hq))
    ⟨Nat.le_trans hS.1 (by rw [e1]; exact hz), fun q h1 h2 => by rw [e1, hk q (Nat.lt_of_lt_of_le h1 hS.1) (fun z => h2 (hAA q z))]; exact hS.2.1 q h1 h2, fun q hq => by
      rcases List.mem_append.mp hq with h | h
      · exact hS.2.2 q h
      · exact hAA _ (hL' q h)⟩ T' rfl X'
  exact ⟨t2, st t2 a1, b1⟩
theorem zPre (C : Cx D dA A ad0 own cc nL p R s m args meth c) {as : List Value} {ad : Nat → Nat} {H : Heap} {locs : List Loc} (h0 : ∀ k, k < n0 ∨ n ≤ k → ad k = ad0 k) (hn1 : n ≤ 1000) (hP : va_P D cls (wl dA ad h n) H) (hD : va_D A (wl dA ad h n)) (hS : va_S A s.heap H locs) : ∀ U : State, U.heap = H → s.WarmedH U.vm → zPc D dA ad h n H.size as (as.map (zV ad)).toArray U := by
  have hAA : ∀ q, zA ad n H.size q → A q := by
    rintro q (⟨k, hk, rfl⟩ | hq)
    · exact hD.2 k _ (wl_get hk)
    · exact C.2.2.2.2.2.2.1 q (Nat.le_trans hS.1 hq)
  intro U hU hW
  refine ⟨rfl, by rw [hU], by rw [hU]; exact hP, hD.weaken (fun _ _ _ _ => trivial), va_K.moved hW.alike C.2.2.2.2.2.1, C.2.2.2.2.2.2.2.2.2.1.move hW, ?_⟩
  rw [hU, h0 1000 (Or.inr hn1)]
  exact zRO.moved hW.alike ((C.2.2.2.2.2.2.2.2.1.kept (fun a h1 h2 => hS.2.1 a h1 h2)).narrow hAA)
theorem zCb (C : Cx D dA A ad0 own cc nL p R s m args meth c) {k : zK} {idx d mc ms np : Nat} (hk : Cond.code k.1 k.2.1 k.2.2.1 k.2.2.2 ∈ tb ∧ Cond.initialized k.1.cls ∈ tb ∧ (k.1.cls ≠ "java/lang/invoke/MethodHandle" ∧ k.1.cls ≠ "java/lang/invoke/VarHandle") ∧ (parseMethodDescriptor k.1.desc).map (fun d => d.parameters.length) = some np) (hl : Cond.methodLink own idx k.1 ∈ tb) (hR : d + 11 ≤ R.frames ∧ k.2.2.1 + 319 + 60 * d ≤ R.locals) : CallB R s args own idx k.1 k.2.1 k.2.2.1 k.2.2.2 [Cond.code k.1 k.2.1 k.2.2.1 k.2.2.2] (zR d mc ms) mc ms np := by
  obtain ⟨h1, h2, h3, h4⟩ := hk
  refine ⟨rfl, rfl, by show 10 + d + 1 ≤ _; omega, by show 8 + (k.2.2.1 + 11) + (300 + 60 * d) ≤ _; omega, fun w hw a' U hW => ?_, List.mem_singleton.mpr rfl, C.2.2.2.2.1 _ h1, C.2.2.2.2.1 _ h2, h3, fun sig hs => ?_, C.2.2.2.2.1 _ hl⟩
  · rw [List.mem_singleton.mp hw]
    exact zw_move (tb_ok h1) hW (C.2.2.2.2.1 _ h1)
  · rw [hs] at h4
    exact (Option.some.inj h4).symm
theorem zCn (C : Cx D dA A ad0 own cc nL p R s m args meth c) {k : zK} {idx d mc ms np : Nat} {host : String} (hk : Cond.code k.1 k.2.1 k.2.2.1 k.2.2.2 ∈ tb ∧ Cond.initialized k.1.cls ∈ tb ∧ (k.1.cls ≠ "java/lang/invoke/MethodHandle" ∧ k.1.cls ≠ "java/lang/invoke/VarHandle") ∧ (parseMethodDescriptor k.1.desc).map (fun d => d.parameters.length) = some np) (hl : Cond.methodLinkNest own idx k.1 host ∈ tb) (hR : d + 11 ≤ R.frames ∧ k.2.2.1 + 319 + 60 * d ≤ R.locals) : va_CN R s args own idx k.1 host k.2.1 k.2.2.1 k.2.2.2 [Cond.code k.1 k.2.1 k.2.2.1 k.2.2.2] (zR d mc ms) mc ms np := by
  obtain ⟨h1, h2, h3, h4⟩ := hk
  refine ⟨⟨rfl, rfl, by show 10 + d + 1 ≤ _; omega, by show 8 + (k.2.2.1 + 11) + (300 + 60 * d) ≤ _; omega, fun w hw a' U hW => ?_, List.mem_singleton.mpr rfl⟩, C.2.2.2.2.1 _ h1, C.2.2.2.2.1 _ h2, h3, fun sig hs => ?_, C.2.2.2.2.1 _ hl⟩
  · rw [List.mem_singleton.mp hw]
    exact zw_move (tb_ok h1) hW (C.2.2.2.2.1 _ h1)
  · rw [hs] at h4
    exact (Option.some.inj h4).symm
def zCat (st : List Value) : Nat := (st.map fun v => v.category).sum
theorem zCat_map {ad : Nat → Nat} (st : List Value) : ((st.map (zV ad)).map fun v => v.category).sum = zCat st := by
  unfold zCat
  rw [List.map_map]
  congr 1
  exact List.map_congr_left (fun v _ => zV_cat ad v)
theorem zRecv (C : Cx D dA A ad0 own cc nL p R s m args meth c) {ci b : Nat} {fs : List Value} {y : String} {ad : Nat → Nat} {H : Heap} (hc : ∃ T N, cls[ci]? = some (y, T, N)) (hb : b < n) (he : h b = .inr (ci, fs)) (hP : va_P D cls (wl dA ad h n) H) : ∃ cellB : Cell, H[ad b]? = some cellB ∧ cellB.vm.isStatics = false ∧ s.vm.findClass y = some cellB.cls := by
  obtain ⟨T, N, hc⟩ := hc
  have hw := wl_get (dA := dA) (ad := ad) (h := h) hb
  rw [he] at hw
  exact va_recv (q := (y, T, N)) C.2.2.2.2.2.1 hP hc hw
/-- a call of an instance method (no cells of the world are made) -/
theorem J_callV (C : Cx D dA A ad0 own cc nL p R s m args meth c) {k : zK} {idx d mc ms np ci b : Nat} {as fs : List Value} (hM : CT l D dA k d mc ms n (.ref b :: as) h Post) (hl : ML own idx k np) (hv : MV k ci) (hb : b < n) (he : h b = .inr (ci, fs)) (hn : as.length = np) (hn1 : n ≤ 1000) (hR : d + 11 ≤ R.frames ∧ k.2.2.1 + 319 + 60 * d ≤ R.locals) (hcap : kc + mc ≤ R.cells ∧ ks + ms ≤ R.slots) (hst : zCat st ≤ 8) (hPn : ∀ v h' n', Post v h' n' → n' = n) (hd : decode cc pc = .ok (.invokevirtual idx, 3)) (hΦ : ∀ H locs, Φ H locs := by intros; trivial) 
    (kk : ∀ v h', Post v h' n → J D dA A Φ ad0 n0 nL p l e R s m args below meth c Q (pc + 3) (lv) (v.toList ++ st) (h') n (kc + mc) (ks + ms)) : J D dA A Φ ad0 n0 nL p l e R s m args below meth c Q (pc) (lv) (as.reverse ++ .ref b :: st) (h) n kc ks := by
  intro ad H locs ls h0 hP hD hS hF hL
  have hpre := zPre (as := .ref b :: as) C h0 hn1 hP hD hS
  have hstk : (as.reverse ++ .ref b :: st).map (zV ad) = (as.map (zV ad)).reverse ++ .ref (ad b) :: st.map (zV ad) := by simp [zV]
  have hrun : va_Run p l e R s m args below meth c H locs kc ks mc ms (F0 m pc ls ((as.reverse ++ .ref b :: st).map (zV ad))) (st.map (zV ad)) (zQc D dA (zA ad n H.size) ad n Post (Value.ref (ad b) :: as.map (zV ad)).toArray) (zA ad n H.size) := by
    rcases hl.1 with hlk | ⟨host, hlk⟩
    · exact va_runV (C := k.1.cls) (b := ad b) ⟨C.1, C.2.1, C.2.2.1, C.2.2.2.1, C.2.2.2.2.1⟩ (hM ad H.size) ⟨zCb C hl.2 hlk hR, C.2.2.2.2.1 _ hv.1, C.2.2.2.2.1 _ hv.2.1⟩ ⟨zPc_blind, zRecv C hv.2.2 hb he hP, hpre⟩ rfl (by rw [List.length_map]; exact hn) hL.1 hstk (lv_room (by rw [zCat_map]; exact hst)) hd hcap
    · exact va_runVN (C := k.1.cls) (b := ad b) ⟨C.1, C.2.1, C.2.2.1, C.2.2.2.1, C.2.2.2.2.1⟩ (hM ad H.size) ⟨zCn C hl.2 hlk hR, C.2.2.2.2.1 _ hv.1, C.2.2.2.2.1 _ hv.2.1⟩ ⟨zPc_blind, zRecv C hv.2.2 hb he hP, hpre⟩ rfl (by rw [List.length_map]; exact hn) hL.1 hstk (lv_room (by rw [zCat_map]; exact hst)) hd hcap
  refine zAfter (n' := n) (h' := h) (g := F0 m pc ls []) hrun C.2.2.2.2.2.2.1 hP hD hS ?_
  intro v ad' h' n' H1 locs1 ha hn' hp hP1 hD1 hS1
  obtain rfl := hPn v h' n' hp
  obtain rfl : ad' = ad := funext fun k => ha k (Nat.lt_or_ge k n')
  have e9 : (v.toList ++ st).map (zV ad') = (v.map (zV ad')).toList ++ st.map (zV ad') := by cases v <;> simp
  rw [← e9]
  exact kk v h' hp ad' H1 locs1 ls h0 hP1 hD1 hS1 (hΦ H1 locs1) hL
/-- a call of a static method -/
theorem J_callS (C : Cx D dA A ad0 own cc nL p R s m args meth c) {k : zK} {idx d mc ms np : Nat} {as : List Value} (hM : CT l D dA k d mc ms n as h Post) (hl : ML own idx k np) (hv : Cond.static k.1 ∈ tb) (hn : as.length = np) (hn1 : n ≤ 1000) (hR : d + 11 ≤ R.frames ∧ k.2.2.1 + 319 + 60 * d ≤ R.locals) (hcap : kc + mc ≤ R.cells ∧ ks + ms ≤ R.slots) (hst : zCat st ≤ 8) (hPn : ∀ v h' n', Post v h' n' → n' = n) (hd : decode cc pc = .ok (.invokestatic idx, 3)) (hΦ : ∀ H locs, Φ H locs := by intros; trivial) 
    (kk : ∀ v h', Post v h' n → J D dA A Φ ad0 n0 nL p l e R s m args below meth c Q (pc + 3) (lv) (v.toList ++ st) (h') n (kc + mc) (ks + ms)) : J D dA A Φ ad0 n0 nL p l e R s m args below meth c Q (pc) (lv) (as.reverse ++ st) (h) n kc ks := by
  intro ad H locs ls h0 hP hD hS hF hL
  have hpre := zPre (as := as) C h0 hn1 hP hD hS
  have hstk : (as.reverse ++ st).map (zV ad) = (as.map (zV ad)).reverse ++ st.map (zV ad) := by simp
  have hrun : va_Run p l e R s m args below meth c H locs kc ks mc ms (F0 m pc ls ((as.reverse ++ st).map (zV ad))) (st.map (zV ad)) (zQc D dA (zA ad n H.size) ad n Post (as.map (zV ad)).toArray) (zA ad n H.size) := by
    rcases hl.1 with hlk | ⟨host, hlk⟩
    · exact va_runS ⟨C.1, C.2.1, C.2.2.1, C.2.2.2.1, C.2.2.2.2.1⟩ (hM ad H.size) ⟨zCb C hl.2 hlk hR, C.2.2.2.2.1 _ hv⟩ ⟨zPc_blind, hpre⟩ rfl (by rw [List.length_map]; exact hn) hL.1 hstk (lv_room (by rw [zCat_map]; exact hst)) hd hcap
    · exact va_runSN ⟨C.1, C.2.1, C.2.2.1, C.2.2.2.1, C.2.2.2.2.1⟩ (hM ad H.size) ⟨zCn C hl.2 hlk hR, C.2.2.2.2.1 _ hv, trivial⟩ ⟨zPc_blind, hpre⟩ rfl (by rw [List.length_map]; exact hn) hL.1 hstk (lv_room (by rw [zCat_map]; exact hst)) hd hcap
  refine zAfter (n' := n) (h' := h) (g := F0 m pc ls []) hrun C.2.2.2.2.2.2.1 hP hD hS ?_
  intro v ad' h' n' H1 locs1 ha hn' hp hP1 hD1 hS1
  obtain rfl := hPn v h' n' hp
  obtain rfl : ad' = ad := funext fun k => ha k (Nat.lt_or_ge k n')
  have e9 : (v.toList ++ st).map (zV ad') = (v.map (zV ad')).toList ++ st.map (zV ad') := by cases v <;> simp
  rw [← e9]
  exact kk v h' hp ad' H1 locs1 ls h0 hP1 hD1 hS1 (hΦ H1 locs1) hL
end ZC

