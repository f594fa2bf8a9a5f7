/-- what the search for a handler gives, and the tables that it leaves -/
def zFT (e : Env) (S : State) (f : JFrame) (a : Addr) (hd : Handler) (vm' : Vm) : Prop := ∀ (Q : Handler → Pre) (E : CtlPost) (d : Bool) (acts : List Action), wp (findHandler f a) Q E e d acts S ↔ Q hd d acts (S.setVm vm')
theorem zGoL {e : Env} {S : State} {f : JFrame} {a : Addr} {Q : Handler → Pre} {E : CtlPost} {d : Bool} {acts : List Action} {x : ExceptionTableEntry} {t : List ExceptionTableEntry} {c : ClassId} {cell : Cell} (b : Bool) (hx : covers x f.pc = true) (h0 : x.catchType ≠ 0) (hl : S.vm.ClassLinks e.platform f.method.cls x.catchType c) (hcell : S.heap[a]? = some cell) (hobj : ∀ k, cell.vm ≠ .statics k) (hk : ∃ k, S.vm.classes[cell.cls]? = some k) (hc : ∃ k, S.vm.classes[c]? = some k) (hb : S.vm.assignable cell.cls c = b) :
    wp (findHandler.go f a (x :: t)) Q E e d acts S ↔ (if b = true then Q (.found x.handlerPc) d acts (S.setVm (S.vm.noted f.method.cls x.catchType (.cls c))) else wp (findHandler.go f a t) Q E e d acts (S.setVm (S.vm.noted f.method.cls x.catchType (.cls c)))) := by
  simp only [covers] at hx
  obtain ⟨ha, ht⟩ := (resolveClass_links e.toSetting hl).op (op := VmOp.resolveClass f.method.cls x.catchType) rfl
  have hal : S.vm.Alike (S.vm.noted f.method.cls x.catchType (.cls c)) := (Vm.Alike.refl S.vm).noted _ _ _
  obtain ⟨k1, hk1⟩ := hk
  obtain ⟨k2, hk2⟩ := hc
  obtain ⟨k1', hk1', -⟩ := hal.2.2 _ _ hk1
  obtain ⟨k2', hk2', -⟩ := hal.2.2 _ _ hk2
  have hfit : (S.vm.noted f.method.cls x.catchType (.cls c)).assignable cell.cls c = b := by rw [hal.assignable]; exact hb
  cases b <;> simp [findHandler.go, hx, h0, ha, ht, hcell, hobj, hk1', hk2', hfit, VmOp.dirties, VmOp.acts]
/-- an entry that is passed: it covers the place, its class links, the thrown class can't be cast to it -/
def zPs (pl : Platform) (s₀ : State) (d : ClassId) (pc : Nat) (th : ClassId) (y : ExceptionTableEntry) : Prop := covers y pc = true ∧ y.catchType ≠ 0 ∧ ∃ c, s₀.vm.ClassLinks pl d y.catchType c ∧ s₀.vm.assignable th c = false
theorem zGoAll {e : Env} {s₀ : State} {f : JFrame} {a : Addr} {cell : Cell} {c : ClassId} (hobj : ∀ k, cell.vm ≠ .statics k) (hk0 : ∃ k, s₀.vm.classes[cell.cls]? = some k) (x : ExceptionTableEntry) (rest : List ExceptionTableEntry) (hx : covers x f.pc = true) (h0 : x.catchType ≠ 0) (hl : s₀.vm.ClassLinks e.platform f.method.cls x.catchType c) (hfit : s₀.vm.assignable cell.cls c = true) :
    ∀ (pre : List ExceptionTableEntry) (S : State), s₀.WarmedH S.vm → S.heap[a]? = some cell → (∀ y ∈ pre, zPs e.platform s₀ f.method.cls f.pc cell.cls y) → ∃ vm', s₀.WarmedH vm' ∧ ∀ (Q : Handler → Pre) (E : CtlPost) (d : Bool) (acts : List Action), wp (findHandler.go f a (pre ++ x :: rest)) Q E e d acts S ↔ Q (.found x.handlerPc) d acts (S.setVm vm') := by
  obtain ⟨k0, hk0⟩ := hk0
  intro pre
  induction pre with
  | nil =>
    intro S hW hcell _
    obtain ⟨k0', hk0', -⟩ := hW.alike.2.2 _ _ hk0
    obtain ⟨dk, _, _, kt, hd, _, _, _, _, hkt, _, hopen⟩ := hl.here
    obtain ⟨kt', hkt', -⟩ := hW.alike.2.2 _ _ hkt
    refine ⟨_, hW.noted hd hopen (State.rightAt_cls hl), fun Q E d acts => ?_⟩
    rw [List.nil_append, zGoL true hx h0 (hW.classLinks hl) hcell hobj ⟨k0', hk0'⟩ ⟨kt', hkt'⟩ (by rw [hW.alike.assignable]; exact hfit), if_pos rfl]
  | cons y ys ih =>
    intro S hW hcell hpass
    obtain ⟨k0', hk0', -⟩ := hW.alike.2.2 _ _ hk0
    obtain ⟨hcov, hy0, cy, hly, hno⟩ := hpass y List.mem_cons_self
    obtain ⟨dk, _, _, kt, hd, _, _, _, _, hkt, _, hopen⟩ := hly.here
    obtain ⟨kt', hkt', -⟩ := hW.alike.2.2 _ _ hkt
    obtain ⟨vm', hW', hq⟩ := ih (S.setVm (S.vm.noted f.method.cls y.catchType (.cls cy))) (hW.noted hd hopen (State.rightAt_cls hly)) hcell (fun z hz => hpass z (List.mem_cons_of_mem _ hz))
    refine ⟨vm', hW', fun Q E d acts => ?_⟩
    rw [List.cons_append, zGoL false hcov hy0 (hW.classLinks hly) hcell hobj ⟨k0', hk0'⟩ ⟨kt', hkt'⟩ (by rw [hW.alike.assignable]; exact hno), if_neg (by decide)]
    exact hq Q E d acts
theorem zStepCatch {e : Env} {S : State} {a : Addr} {f : JFrame} {r : List Frame} {pc : Nat} {vm' : Vm} (hf : zFT e S f a (.found pc) vm') : (stepThrowing e S a (.java f :: r)).Is ((S.setVm vm').setFrames (.java { f with pc := pc, stack := [.ref a] } :: r)) [] := by
  simp only [stepThrowing, searchFrame, vmDo]
  generalize hr : Sem.go _ e false [] S = res
  obtain ⟨as, rfl, ha⟩ := Sem.eq_ok_of hr (a := Handler.found pc) (s' := S.setVm vm') (acts' := []) (by simp [hf _ _ _ _])
  exact ⟨rfl, ha⟩
section ZY
variable {D : va_G} {dA : Nat → ClassId} {A : Nat → Prop} {Φ : Heap → List Loc → Prop} {ad0 : Nat → Nat} {n0 nL : Nat} {p : Program} {l : Launch} {e : Env} {R : Room} {s : State} {m : MethodId} {args : Array Value} {below : List Frame} {meth : Method} {c : Code} {Q : State → Prop} {pc : Nat} {lv : List (Option Value)} {st : List Value} {h : Nat → va_E} {n kc ks : Nat} {own : String} {cc : ByteArray}
theorem zCaught {T : State} {locs : List Loc} (X : Stand p l e R s m args below meth c T locs kc ks) (a : Addr) {g : JFrame} (hg : g.method = m) {cell : Cell} (hcell : T.heap[a]? = some cell) (hobj : cell.vm = .none) (hk0 : ∃ k, s.vm.classes[cell.cls]? = some k) (pre : List ExceptionTableEntry) (x : ExceptionTableEntry) (rest : List ExceptionTableEntry) (hsplit : c.exceptionTable.toList = pre ++ x :: rest) (hpass : ∀ y ∈ pre, zPs e.platform s m.cls g.pc cell.cls y) (hx : covers x g.pc = true) (h0 : x.catchType ≠ 0) {cX : ClassId} (hl : s.vm.ClassLinks e.platform m.cls x.catchType cX) (hfit : s.vm.assignable cell.cls cX = true) :
    ∃ vm', Stand p l e R s m args below meth c (T.setVm vm') locs kc ks ∧ ∀ target, Steps p.tables e below ((T.setVm vm').setTop { g with pc := x.handlerPc, stack := [.ref a] }) target → Steps p.tables e below ((T.setTop g).pushFrame (.throwing a)) target := by
  subst hg
  have hob : ∀ k, cell.vm ≠ .statics k := fun k hk => by rw [hobj] at hk; cases hk
  obtain ⟨vm', hW', hq⟩ := zGoAll (e := e) (f := g) (a := a) hob hk0 x rest hx h0 hl hfit pre ((T.setTop g).pushFrame (.throwing a)) X.warmed hcell hpass
  have hf : zFT e ((T.setTop g).pushFrame (.throwing a)) g a (.found x.handlerPc) vm' := fun Q E d acts => by
    rw [W.findHandler_eq (s := (T.setTop g).pushFrame (.throwing a)) (meth := meth) (code := c) X.method' X.code, hsplit]
    exact hq Q E d acts
  refine ⟨vm', X.noted hW', fun target hrest => ?_⟩
  have h : At T g.method c below := X.here
  obtain ⟨hgo, hw⟩ := h.throwing a
  refine Steps.head hgo hw ?_
  rw [stepThread_throwing (frames_entered h.top _), (zStepCatch (S := (T.setTop g).pushFrame (.throwing a)) hf).1]
  obtain ⟨g₀, hg0⟩ := Option.isSome_iff_exists.mp h.top
  obtain ⟨r, hr⟩ := State.topJava?_eq_some.mp hg0
  have hr' : (T.setVm vm').frames = .java g₀ :: r := hr
  rw [State.setTop_of_frames _ hr'] at hrest
  have e1 : ∀ (u : State) (F G : List Frame), ((u.setFrames F).setVm vm').setFrames G = (u.setVm vm').setFrames G := fun u F G => by
    rw [show (u.setFrames F).setVm vm' = (u.setVm vm').setFrames F from rfl, State.setFrames_setFrames]
  rw [hr, List.tail_cons, State.pushFrame, e1, State.setTop_of_frames _ hr, e1]
  exact hrest
/-- the callee throws: where the walk stands then -/
theorem zThrown {U : State} {locs : List Loc} (X : Stand p l e R s m args below meth c U locs kc ks) {k : zK} {d len : Nat} {Pc : Array Value → State → Prop} {X0 : String} (hM : MetFree l k.1 (headSpec [Cond.code k.1 k.2.1 k.2.2.1 k.2.2.2] (zR d 1 6)) Pc (fun _ _ _ _ _ => True) (zQx X0)) (hbl : FrameBlind Pc) {g : JFrame} (hg : g.method = m) (hsize : g.locals.size = c.maxLocals) {ig : Instr} (hdg : decode c.code g.pc = .ok (ig, len)) {mk : MethodId} {av : Array Value} (hn : U.methodNamed? k.1 = some mk) (hcode : (Cond.code k.1 k.2.1 k.2.2.1 k.2.2.2).before av U = true) (hini : (Cond.initialized k.1.cls).before av U = true) (hP : Pc av U) (hW : 2 * g.monitorRoom + (g.stack.map fun v => v.category).sum ≤ 8) (hR : d + 11 ≤ R.frames ∧ k.2.2.1 + 319 + 60 * d ≤ R.locals) (hcap : kc + 1 ≤ R.cells ∧ ks + 6 ≤ R.slots) :
    ∃ (a : Addr) (ce : Cell) (T' : State), Stand p l e R s m args below meth c T' locs (kc + 1) (ks + 6) ∧ U.heap.size ≤ T'.heap.size ∧ (∀ q, q < U.heap.size → T'.heap[q]? = U.heap[q]?) ∧ T'.heap[a]? = some ce ∧ U.vm.findClass X0 = some ce.cls ∧ ce.vm = .none ∧ Steps p.tables e below (doInvoke e (U.setTop g) [] mk av).1 ((T'.setTop g).pushFrame (.throwing a)) := by
  obtain ⟨methY, cY, hmY, hcY, -, hlY, -, -, -, -⟩ := Cond.code_spec hn hcode
  obtain ⟨kY, hkY, -⟩ := className_of_methodNamed hn
  have hinitY : kY.init = .initialized := Cond.initialized_spec (findClass_of_methodNamed hn) hkY hini
  have h : At U g.method c below := by rw [hg]; exact X.here
  have happ : (headSpec [Cond.code k.1 k.2.1 k.2.2.1 k.2.2.2] (zR d 1 6)).appliesLoose k.1 e.platform (U.calling g mk av) = true :=
    Spec.appliesLoose_calling (g := g) h hdg hn hkY hinitY
      (X.room_calling (g := g) (R' := zR d 1 6) hsize hmY hcY (by show 10 + d + 1 ≤ _; omega) (by rw [hlY]; show _ + (k.2.2.1 + 11) + (300 + 60 * d) ≤ _; omega) hcap.1 hcap.2)
      (atoms_intro (fun w hw => by rw [List.mem_singleton.mp hw]; exact hcode))
  obtain ⟨mid, hmid⟩ := h.above
  have hfr : (U.setTop g).frames = (.java g :: mid) ++ below := by rw [State.frames_setTop' g h.top, hmid]; rfl
  obtain ⟨o, s₂, hsteps, -, hend, hq⟩ := Steps.callFree hM p X.admits X.cas X.clock (acts := []) hfr happ (hbl _ _ _ _ hP) trivial
  rw [State.frames_setTop' g h.top] at hend
  have hq' : zQx X0 av (U.calling g mk av) o s₂ := hq
  obtain ⟨a, ce, rfl, hW₂, hsame0, hce, hfc, hvm⟩ := hq'
  obtain ⟨e2, q2, q3, q4, q5, q6⟩ := id hsame0
  have e3 : s₂ = ({ (U.calling g mk av).setFrames s₂.frames with heap := s₂.heap, slotsUsed := s₂.slotsUsed } : State).setVm s₂.vm := by
    have : s₂ = ({ s₂ with vm := (U.calling g mk av).vm } : State).setVm s₂.vm := rfl
    rw [e2] at this
    exact this
  have hf₂ : s₂.frames = .throwing a :: .java g :: U.frames.tail := hend
  have hW' : U.WarmedH s₂.vm := hW₂
  obtain ⟨g₀, hg0⟩ := Option.isSome_iff_exists.mp h.top
  obtain ⟨r, hr⟩ := State.topJava?_eq_some.mp hg0
  have hs₂ : s₂ = ((({ U with heap := s₂.heap, slotsUsed := s₂.slotsUsed } : State).setVm s₂.vm).setTop g).pushFrame (.throwing a) := by
    have hr' : (({ U with heap := s₂.heap, slotsUsed := s₂.slotsUsed } : State).setVm s₂.vm).frames = .java g₀ :: r := hr
    refine e3.trans ?_
    rw [hf₂, State.calling_eq h.top, State.setFrames_setFrames, State.pushFrame, State.frames_setTop _ hr', State.setTop_of_frames _ hr', State.setFrames_setFrames, hr]
    rfl
  have hsame : U.sameButNew ({ U with heap := s₂.heap, slotsUsed := s₂.slotsUsed } : State) [] 1 6 := by
    refine ⟨?_, q2, q3, q4, q5, q6⟩
    obtain ⟨t, ht, -⟩ := State.frames_cons hr
    show ({ U with heap := s₂.heap, slotsUsed := s₂.slotsUsed } : State) = { U.setFrames U.frames with heap := s₂.heap, slotsUsed := s₂.slotsUsed }
    rw [State.setFrames_self ht]
  subst hg
  refine ⟨a, ce, (({ U with heap := s₂.heap, slotsUsed := s₂.slotsUsed } : State).setVm s₂.vm), ?_, q2, ?_, hce, hfc, hvm, ?_⟩
  · have hs9 := X.same.trans (hsame.setVm s.vm)
    rw [List.append_nil] at hs9
    exact ⟨X.admits, X.cas, X.clock, X.frames, X.room, X.hears, X.method, X.code, (X.here.setHeapUsed s₂.heap s₂.slotsUsed).setVm hW'.alike, X.tail, State.WarmedH.trans X.warmed hW', X.limits, X.bytes, hs9⟩
  · intro q hq
    show s₂.heap[q]? = U.heap[q]?
    have hq1 : U.heap[q]? = some U.heap[q] := Array.getElem?_eq_getElem hq
    obtain ⟨c', h1, h2, h3, h4⟩ := q6 q _ hq1
    rw [hq1]
    have h5 : c'.slots = U.heap[q].slots := by
      apply Array.ext_getElem?
      intro i
      exact h4 i (by simp)
    have h6 : c' = U.heap[q] := by rw [h2, h5]
    rw [← h6]
    exact h1
  · show Steps p.tables e below _ (((({ U with heap := s₂.heap, slotsUsed := s₂.slotsUsed } : State).setVm s₂.vm).setTop g).pushFrame (.throwing a))
    rw [← hs₂]
    exact hsteps
/-- a call that throws, caught; the handler's first instruction puts the exception away into the place i -/
theorem J_catchV (C : Cx D dA A ad0 own cc nL p R s m args meth c) {k : zK} {idx d np ci b i : Nat} {as fs : List Value} {X0 : String} (hM : XT l D dA k d n (.ref b :: as) h X0) (hl : ML own idx k np) (hlk : Cond.methodLink own idx k.1 ∈ tb) (hv : MV k ci) (hb : b < n) (he : h b = .inr (ci, fs)) (hn : as.length = np) (hn1 : n ≤ 1000) (hR : d + 11 ≤ R.frames ∧ k.2.2.1 + 319 + 60 * d ≤ R.locals) (hcap : kc + 1 ≤ R.cells ∧ ks + 6 ≤ R.slots) (hst : zCat st ≤ 8) (hd : decode cc pc = .ok (.invokevirtual idx, 3))
    (pre : List (ExceptionTableEntry × String)) (x : ExceptionTableEntry) (rest : List ExceptionTableEntry) (hex : c.exceptionTable.toList = pre.map (·.1) ++ x :: rest) (hpre : ∀ y ∈ pre, covers y.1 pc = true ∧ y.1.catchType ≠ 0 ∧ Cond.classLink own y.1.catchType y.2 ∈ tb ∧ Cond.not (.castable X0 y.2) ∈ tb) (hx : covers x pc = true) (hx0 : x.catchType ≠ 0) (hxl : Cond.classLink own x.catchType X0 ∈ tb) (hself : Cond.castable X0 X0 ∈ tb)
    {hpc pc' : Nat} (hh : x.handlerPc = hpc) (hds : (∃ kf : Fin 4, (kf : Nat) = i ∧ decode cc hpc = .ok (.astore_n kf, 1) ∧ pc' = hpc + 1) ∨ (decode cc hpc = .ok (.astore i, 2) ∧ pc' = hpc + 2)) (hi : i < nL) (hz : zNL lv i = true) (hΦ : ∀ H locs, Φ H locs := by intros; trivial)
    (kk : J D dA A Φ ad0 n0 nL p l e R s m args below meth c Q (pc') (lv.set i none) ([]) (h) n (kc + 1) (ks + 6)) : J D dA A Φ ad0 n0 nL p l e R s m args below meth c Q (pc) (lv) (as.reverse ++ .ref b :: st) (h) n kc ks := by
  intro ad H locs ls h0 hP hD hS hF hL
  have hpr := zPre (as := .ref b :: as) C h0 hn1 hP hD hS
  have hstk : (as.reverse ++ .ref b :: st).map (zV ad) = (as.map (zV ad)).reverse ++ .ref (ad b) :: st.map (zV ad) := by simp [zV]
  rw [hstk]
  obtain ⟨cellB, hcB, hoB, hclB⟩ := zRecv C hv.2.2 hb he hP
  intro T hT Y
  have hts := C.2.2.2.2.1
  obtain ⟨mk, methM, hnamed, hmethM, hstM, habM⟩ := Cond.instanceMethod_spec (hts _ hv.1)
  obtain ⟨methM', cM, hmethM', -, -, -, -, -, -, hsigM⟩ := Cond.code_spec hnamed (hts _ hl.2.1)
  cases hmethM.symm.trans hmethM'
  obtain ⟨c2, r2, m2, q1, q2, q3, q4, kP, hkP, hkPi⟩ := Cond.selects_spec (hts _ hv.2.1)
  cases hclB.symm.trans q1
  cases (State.methodFound?_of_named hnamed hl.2.2.2.1).symm.trans q2
  cases hnamed.symm.trans q3
  have hselP : selectMethod e.platform s.vm cellB.cls mk = .method mk := by rw [Launch.admits_selectMethod Y.admits]; exact q4
  have hlen : (as.map (zV ad)).length = methM.sig.parameters.length := by
    have h2 := hl.2.2.2.2
    rw [hsigM] at h2
    rw [List.length_map, hn]
    exact (Option.some.inj h2).symm
  obtain ⟨vm₁, Y₁, hstep₁⟩ := Y.invokevirtual C.1 C.2.2.2.1 (hts _ hlk) hnamed hmethM hstM hkP hkPi hl.2.2.2.1 (a := ad b) (cell := cellB) (by rw [hT]; exact hcB)
    (fun z hz => by rw [hz] at hoB; cases hoB) hselP hmethM habM hkP hkPi (g := F0 m pc ls ((as.map (zV ad)).reverse ++ .ref (ad b) :: st.map (zV ad))) rfl (argsL := as.map (zV ad)) (rest := st.map (zV ad)) hlen rfl (by rw [C.2.1]; exact hd)
  have hwarm : s.WarmedH (T.setVm vm₁).vm := Y₁.warmed
  obtain ⟨a, ce, T', Y2, hsz, hold, hce, hfc, hvm, hst2⟩ := zThrown (g := F0 m pc ls (st.map (zV ad))) Y₁ (hM ad H.size) zPc_blind rfl (by rw [C.2.2.1]; exact hL.1) (by rw [C.2.1]; exact hd) (mk := mk) (av := (Value.ref (ad b) :: as.map (zV ad)).toArray) (Y₁.named hnamed)
    (zw_move (tb_ok hl.2.1) hwarm (hts _ hl.2.1)) (zw_move (tb_ok hl.2.2.1) hwarm (hts _ hl.2.2.1)) (hpr (T.setVm vm₁) hT hwarm) (lv_room (by rw [zCat_map]; exact hst)) hR hcap
  have hfcs : s.vm.findClass X0 = some ce.cls := by rw [← hwarm.alike.findClass]; exact hfc
  have hpl : e.platform.magicAccessors = ({} : Platform).magicAccessors := by rw [Y.admits.platform]
  obtain ⟨cX, hcX, hclX⟩ := Cond.classLink_spec C.2.2.2.1 (hts _ hxl) e.platform hpl
  cases hfcs.symm.trans hcX
  have hfit : s.vm.assignable ce.cls ce.cls = true := by
    obtain ⟨c3, c4, hc3, hc4, hasg⟩ := Cond.castable_spec (hts _ hself)
    cases hc3.symm.trans hfcs
    cases hc4.symm.trans hfcs
    exact hasg
  have hk0 : ∃ k, s.vm.classes[ce.cls]? = some k := Vm.classAt_of_findClass hfcs
  obtain ⟨vm', Y3, hgo⟩ := zCaught (g := F0 m pc ls (st.map (zV ad))) Y2 a rfl hce hvm hk0 (pre.map (·.1)) x rest hex (fun y hy => by
      obtain ⟨z, hz, rfl⟩ := List.mem_map.mp hy
      obtain ⟨g1, g2, g3, g4⟩ := hpre z hz
      obtain ⟨cy, hcy, hly⟩ := Cond.classLink_spec C.2.2.2.1 (hts _ g3) e.platform hpl
      refine ⟨g1, g2, cy, hly, ?_⟩
      have h9 := Cond.holds_not_iff.mp (hts _ g4)
      simp only [Cond.value, hfcs, hcy] at h9
      exact Option.some.inj h9) hx hx0 hclX hfit
  have hTU : (T.setVm vm₁).heap = H := hT
  rw [hTU] at hsz hold
  have hold' : ∀ q, q < H.size → T'.heap[q]? = H[q]? := hold
  have hP1 : va_P D cls (wl dA ad h n) T'.heap := hP.kept (fun j q hq => hold' q.1 (hP j q hq).lt)
  have hS1 : va_S A s.heap T'.heap locs := ⟨Nat.le_trans hS.1 hsz, fun q h1 h2 => by rw [hold' q (Nat.lt_of_lt_of_le h1 hS.1)]; exact hS.2.1 q h1 h2, hS.2.2⟩
  have key : ∀ ls' : Array Slot, lv_has ls' nL ((i, Value.ref a) :: (zAl ad lv).filter (fun q => !(q.1 == i) && !(q.1 + 1 == i && q.2.category == 2))) → W p l e R s m args below meth c T'.heap locs (kc + 1) (ks + 6) Q (F0 m pc' ls' []) := by
    intro ls' h'
    refine kk ad T'.heap locs ls' h0 hP1 hD hS1 (hΦ _ _) ⟨h'.1, h'.2.1, fun j v hj => ?_⟩
    have hji : j ≠ i := by
      rintro rfl
      rw [List.getElem?_set] at hj
      rw [if_pos rfl] at hj
      split at hj <;> simp at hj
    rw [List.getElem?_set_ne (Ne.symm hji)] at hj
    refine h'.2.2 (j, zV ad v) (List.mem_cons_of_mem _ (List.mem_filter.mpr ⟨zAl_mem.mpr ⟨v, hj, rfl⟩, ?_⟩))
    have h1 : (j == i) = false := by simpa using hji
    simp only [h1, Bool.not_false, Bool.true_and, Bool.not_eq_true', Bool.and_eq_false_iff]
    by_cases h2 : j + 1 = i
    · right
      subst h2
      simp only [zNL, hj] at hz
      rw [zV_cat]
      cases v <;> simp_all [Value.category]
    · left; simpa using h2
  have hfin : W p l e R s m args below meth c T'.heap locs (kc + 1) (ks + 6) Q (F0 m hpc ls [.ref a]) := by
    rcases hds with ⟨kf, hkf, hdk, rfl⟩ | ⟨hdk, rfl⟩
    · exact lv_astore_n C.1 C.2.1 hdk hkf hL.has hi rfl key
    · exact lv_astore C.1 C.2.1 hdk hL.has hi rfl key
  obtain ⟨t, b1, b2⟩ := hfin (T'.setVm vm') rfl Y3
  refine ⟨t, hstep₁ _ (fun acts => ?_), b2⟩
  rw [doInvoke_state]
  subst hh
  exact hst2.trans (hgo t b1)
end ZY

