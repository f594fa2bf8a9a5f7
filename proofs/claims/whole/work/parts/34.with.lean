def CTw (l : Launch) (D : va_G) (dA : Nat → ClassId) (k : zK) (hs : List (Nat × Nat × Nat × Nat)) (d mc ms n : Nat) (as : List Value) (h : Nat → va_E) (Post : Option Value → (Nat → va_E) → Nat → Prop) : Prop :=
  ∀ (ad0 : Nat → Nat) (sz : Nat), Met l k.1 [Cond.codeWith k.1 k.2.1 k.2.2.1 k.2.2.2 hs] (zR d mc ms) (zPc D dA ad0 h n sz as) (zQc D dA (zA ad0 n sz) ad0 n Post) mc ms (zA ad0 n sz)
section ZW
variable {D : va_G} {dA : Nat → ClassId} {A : Nat → Prop} {Φ : Heap → List Loc → Prop} {ad0 : Nat → Nat} {n0 nL : Nat} {p : Program} {l : Launch} {e : Env} {R : Room} {s : State} {m : MethodId} {args : Array Value} {below : List Frame} {meth : Method} {c : Code} {Q : State → Prop} {pc : Nat} {lv : List (Option Value)} {st : List Value} {h : Nat → va_E} {n kc ks : Nat} {own : String} {cc : ByteArray} {Post : Option Value → (Nat → va_E) → Nat → Prop} {M : Mem}
theorem CTw.of {k : zK} {hs : List (Nat × Nat × Nat × Nat)} {d mc ms : Nat} {as : List Value} (hy : plainName k.1.cls = true) (hl : as.length ≤ k.2.2.1) (hc : ∀ v ∈ as, v.category = 1)
    (body : ∀ (A : Nat → Prop) (ad0 : Nat → Nat) (p : Program) (e : Env) (s : State) (m : MethodId) (args : Array Value) (below : List Frame) (meth : Method) (c : Code), Cx D dA A ad0 k.1.cls k.2.1 k.2.2.1 p (zR d mc ms) s m args meth c → meth.sig.returnType = k.2.2.2 → c.exceptionTable.toList = tableOf hs →
      J D dA A (fun _ _ => True) ad0 n k.2.2.1 p l e (zR d mc ms) s m args below meth c (MQ below (zQc D dA A ad0 n Post) args s mc ms A) 0 (zLv as k.2.2.1) [] h n 0 0) : CTw l D dA k hs d mc ms n as h Post := by
  intro ad0 sz
  refine MetFree.of_bodyS (code := k.2.1) (maxLocals := k.2.2.1) (ret := k.2.2.2) hy ?_ ?_
  · intro args s m h hn
    obtain ⟨m', meth, c, hn', h1, h2, h3, h4, -, h5, h6, -⟩ := Cond.codeWith_spec (atoms_spec (ws := [Cond.codeWith k.1 k.2.1 k.2.2.1 k.2.2.2 hs]) h _ List.mem_cons_self)
    cases hn.symm.trans hn'
    exact ⟨meth, c, h1, h2, h3, h4, h5, h6⟩
  · intro p e s m args below meth c s₁ B hml hv _
    obtain ⟨m', meth', c', hn', h1, h2, -, -, htab, -, -, -⟩ := Cond.codeWith_spec (atoms_spec (ws := [Cond.codeWith k.1 k.2.1 k.2.2.1 k.2.2.2 hs]) B.pre _ List.mem_cons_self)
    cases B.named.symm.trans hn'
    cases B.method.symm.trans h1
    cases (Stand.of_body B).code.symm.trans h2
    have hex : c.exceptionTable.toList = tableOf hs := by rw [← htab, table_eq]
    have hsz : s.heap.size = sz := hv.2.1
    subst hsz
    obtain ⟨rfl, hP, hD, C⟩ := zEnter (d := d) (mc := mc) (ms := ms) rfl B hml hv
    have b := body _ ad0 p e s m _ below meth c C B.returns hex ad0 s.heap [] _ (fun _ _ => rfl) hP hD va_S.rf trivial (LV.entry hc hl)
    rw [lg_entry_eq]
    have hh0 : s₁.heap = s.heap := by rw [B.state]; rfl
    obtain ⟨t, a1, o, b1, b2, b3⟩ := b s₁ hh0 (Stand.of_body B)
    exact ⟨t, o, a1, b1, b2, ⟨b3.1, b3.2⟩⟩
theorem J_callSw (C : Cx D dA A ad0 own cc nL p R s m args meth c) {k : zK} {hs : List (Nat × Nat × Nat × Nat)} {idx d mc ms np : Nat} {as : List Value} (hM : CTw l D dA k hs d mc ms n as h Post) (hlk : Cond.methodLink own idx k.1 ∈ tb) (hcw : Cond.codeWith k.1 k.2.1 k.2.2.1 k.2.2.2 hs ∈ tb) (hini : Cond.initialized k.1.cls ∈ tb) (hy : k.1.cls ≠ "java/lang/invoke/MethodHandle" ∧ k.1.cls ≠ "java/lang/invoke/VarHandle") (hpar : (parseMethodDescriptor k.1.desc).map (fun d => d.parameters.length) = some np) (hv : Cond.static k.1 ∈ tb) (hn : as.length = np) (hn1 : n ≤ 1000) (hR : d + 11 ≤ R.frames ∧ k.2.2.1 + 319 + 60 * d ≤ R.locals) (hcap : kc + mc ≤ R.cells ∧ ks + ms ≤ R.slots) (hst : zCat st ≤ 8) (hPn : ∀ v h' n', Post v h' n' → n' = n) (hd : decode cc pc = .ok (.invokestatic idx, 3)) (hΦ : ∀ H locs, Φ H locs := by intros; trivial)
    (kk : ∀ v h', Post v h' n → J D dA A Φ ad0 n0 nL p l e R s m args below meth c Q (pc + 3) (lv) (v.toList ++ st) (h') n (kc + mc) (ks + ms)) : J D dA A Φ ad0 n0 nL p l e R s m args below meth c Q (pc) (lv) (as.reverse ++ st) (h) n kc ks := by
  intro ad H locs ls h0 hP hD hS hF hL
  have hpre := zPre (as := as) C h0 hn1 hP hD hS
  have hts := C.2.2.2.2.1
  have hstk : (as.reverse ++ st).map (zV ad) = (as.map (zV ad)).reverse ++ st.map (zV ad) := by simp
  have hBack : Back l R p e below s args k.1 3 8 (PreOf R mc ms (zPc D dA ad h n H.size as)) (PostOf (zQc D dA (zA ad n H.size) ad n Post) mc ms (zA ad n H.size)) := by
    refine Jvm.Free.Back.of_freeWith (handlers := hs) (S := headSpec [Cond.codeWith k.1 k.2.1 k.2.2.1 k.2.2.2 hs] (zR d mc ms)) (P := zPc D dA ad h n H.size as) (K := fun _ _ _ _ _ => True) (Q := fun a st o t => zQc D dA (zA ad n H.size) ad n Post a st o t ∧ ∃ L, FrameEnd st o t L mc ms ∧ ∀ q ∈ L, zA ad n H.size q.base) (bytes := k.2.1) (maxL := k.2.2.1) (ret := k.2.2.2)
      (E := fun a st o t L x y => x = mc ∧ y = ms ∧ ∀ q ∈ L, zA ad n H.size q.base) (hM ad H.size) (by show 10 + d + 1 ≤ _; omega) (by show 8 + (k.2.2.1 + 11) + (300 + 60 * d) ≤ _; omega) ?_ ?_ (fun _ _ _ _ _ _ _ _ _ => trivial) ?_ ?_
    · intro m meth c A a X hp
      have hcw' := zw_move (tb_ok hcw) (a' := a) X.warmed (hts _ hcw)
      exact ⟨atoms_intro fun w hw => by rw [List.mem_singleton.mp hw]; exact hcw', hcw', zw_move (tb_ok hini) X.warmed (hts _ hini), hp.1, hp.2.1⟩
    · intro m meth c A a g mk X hp
      exact zPc_blind _ _ _ _ hp.2.2
    · intro a st o t ⟨hq, L, hF, hL⟩
      exact ⟨L, mc, ms, hF, rfl, rfl, hL⟩
    · intro m meth c A a g mk v t L x y X hp hq hF ⟨e1, e2, hL⟩
      subst e1; subst e2
      exact ⟨g, mk, t, L, rfl, rfl, hq.1, rfl, hL, rfl, rfl⟩
  have hrun : va_Run p l e R s m args below meth c H locs kc ks mc ms (F0 m pc ls ((as.reverse ++ st).map (zV ad))) (st.map (zV ad)) (zQc D dA (zA ad n H.size) ad n Post (as.map (zV ad)).toArray) (zA ad n H.size) := by
    intro T hT Y
    obtain ⟨mk, methM, cM, hnamed, hmethM, hcM, -, -, -, -, -, hsigM⟩ := Cond.codeWith_spec (hts _ hcw)
    have hstatic : methM.isStatic = true := Cond.static_spec hnamed hmethM (hts _ hv)
    obtain ⟨kP, hkP, -⟩ := className_of_methodNamed hnamed
    have hinitP : kP.init = .initialized := Cond.initialized_spec (findClass_of_methodNamed hnamed) hkP (hts _ hini)
    have hlen : (as.map (zV ad)).length = methM.sig.parameters.length := by
      rw [hsigM] at hpar
      rw [List.length_map, hn]
      exact (Option.some.inj hpar).symm
    obtain ⟨vm₁, Y₁, hstep₁⟩ := Y.invokestatic C.1 C.2.2.2.1 (hts _ hlk) hnamed hmethM hstatic hkP hinitP hy (g := F0 m pc ls ((as.reverse ++ st).map (zV ad))) rfl (argsL := as.map (zV ad)) (rest := st.map (zV ad)) hlen hstk (by rw [C.2.1]; exact hd)
    obtain ⟨v, ⟨U', l2, c2, s2⟩, Y', ⟨g', mk', t, L, e1, e2, hq, h1, hL', h2, h3⟩, hsteps⟩ := hBack m meth c ⟨T.setVm vm₁, locs, kc, ks⟩ (F0 m pc ls (st.map (zV ad))) (.invokestatic idx) mk (as.map (zV ad)).toArray Y₁ rfl (by rw [C.2.2.1]; exact hL.1) (by rw [C.2.1]; exact hd) (lv_room (by rw [zCat_map]; exact hst)) (Y₁.named hnamed) ⟨hcap.1, hcap.2, hpre (T.setVm vm₁) hT Y₁.warmed⟩
    dsimp only [Pt.U, Pt.locs, Pt.cells, Pt.slots] at Y' e1 e2 h1 h2 h3 hsteps
    subst h1; subst h2; subst h3
    refine ⟨v, (T.setVm vm₁).calling g' mk' (as.map (zV ad)).toArray, t, U', L, hT, Y', hL', e1, e2, hq, ?_⟩
    intro target h9
    exact hstep₁ _ fun acts => by rw [doInvoke_state]; exact hsteps.trans h9
  refine zAfter (n' := n) (h' := h) (g := F0 m pc ls []) hrun C.2.2.2.2.2.2.1 hP hD hS ?_
  intro v ad' h' n' H1 locs1 ha hn' hp hP1 hD1 hS1
  obtain rfl := hPn v h' n' hp
  obtain rfl : ad' = ad := funext fun k => ha k (Nat.lt_or_ge k n')
  have e9 : (v.toList ++ st).map (zV ad') = (v.map (zV ad')).toList ++ st.map (zV ad') := by cases v <;> simp
  rw [← e9]
  exact kk v h' hp ad' H1 locs1 ls h0 hP1 hD1 hS1 (hΦ H1 locs1) hL
theorem K_lld (C : Cx D dA A ad0 own cc nL p R s m args meth c) {i : Int32} (hi : i = nI 0) (hd : decode cc pc = .ok (.laload, 1)) (kk : J D dA A Φ ad0 n0 nL p l e R s m args below meth c Q (pc + 1) (lv) (.long (M 89 0).toInt64 :: st) (E M) 90 kc ks) : J D dA A Φ ad0 n0 nL p l e R s m args below meth c Q (pc) (lv) (.int i :: .ref 89 :: st) (E M) 90 kc ks :=
  J_laload C (by decide) (e_89 M) (by rw [hi]; exact vp_in_nI (by decide) (by decide)) hd (by rw [hi, nI_clamp (by decide)]; exact kk)
theorem K_lst (C : Cx D dA A ad0 own cc nL p R s m args meth c) {i x : Int32} {v : Int64} (hi : i = nI 0) (hv : v = x.toInt64) (hd : decode cc pc = .ok (.lastore, 1)) (hΦ : ∀ H locs, Φ H locs := by intros; trivial) (kk : J D dA A Φ ad0 n0 nL p l e R s m args below meth c Q (pc + 1) (lv) (st) (E (mu M 89 0 x)) 90 kc ks) : J D dA A Φ ad0 n0 nL p l e R s m args below meth c Q (pc) (lv) (.long v :: .int i :: .ref 89 :: st) (E M) 90 kc ks := by
  refine J_lastore C (by decide) (e_89 M) (by rw [hi]; exact vp_in_nI (by decide) (by decide)) hd hΦ ?_
  rw [hi, nI_clamp (by decide), hv]
  have e1 : E (mu M 89 0 x) = va_up (E M) 89 (.inl (2, 1, .inr (.inl (vp_updL (fun j => (M 89 j).toInt64) 0 x.toInt64)))) := by
    rw [E_mu]
    congr 1
    show Sum.inl (2, 1, Sum.inr (Sum.inl (fun j => (upd (M 89) 0 x j).toInt64))) = _
    have e2 : (fun j => (upd (M 89) 0 x j).toInt64) = vp_updL (fun j => (M 89 j).toInt64) 0 x.toInt64 := by
      funext j
      by_cases h : j = 0 <;> simp [upd, vp_updL, h]
    rw [e2]
  rw [← e1]
  exact kk
/-- functional contracts of the law's own methods: at most one cell of six places is made (an exception) -/
def CFw (l : Launch) (D : va_G) (dA : Nat → ClassId) (k : zK) (hs : List (Nat × Nat × Nat × Nat)) (d : Nat) (as : List Value) (M : Mem) (r : Option Value) (M' : Mem) : Prop := CTw l D dA k hs d 1 6 90 as (E M) (fun v h' n' => n' = 90 ∧ ∃ M1, h' = E M1 ∧ (v = r ∧ M1 = M'))
theorem W_iret (C : Cx D dA A ad0 own cc nL p R s m args meth c) {v w : Int32} {M' : Mem} (hr : meth.sig.returnType = some .int) (hv : v = w) (hM : M = M') (hk : kc ≤ 1) (hks : ks ≤ 6) (hd : decode cc pc = .ok (.ireturn, 1)) : J D dA A Φ ad0 90 nL p l e R s m args below meth c (MQ below (zQc D dA A ad0 90 (fun v h' n' => n' = 90 ∧ ∃ M1, h' = E M1 ∧ (v = some (.int w) ∧ M1 = M'))) args s 1 6 A) pc lv [.int v] (E M) 90 kc ks := by
  subst hv
  exact J_widen hk hks (J_ireturn C hr (Nat.le_refl _) ⟨rfl, M, rfl, rfl, hM⟩ hd)
end ZW

