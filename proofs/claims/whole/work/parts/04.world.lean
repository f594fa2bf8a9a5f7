
theorem zw_move {w : Cond} (hw : zOk w = true) {s U : State} (hW : s.WarmedH U.vm) {a a' : Array Value} (h : w.before a s = true) : w.before a' U = true := by
  unfold zOk at hw
  rcases Bool.or_eq_true _ _ ▸ hw with hw | hw
  · rcases Bool.or_eq_true _ _ ▸ hw with hg | hn
    · exact word_at hW (good_of_word hg) h
    · cases w <;> simp only [zNest] at hn <;> first | exact va_Nw.use rfl (va_Nw.warmF hW (va_Nw.of rfl h)) | exact va_Nw.use rfl (va_Nw.warmM hW (va_Nw.of rfl h)) | cases hn
  · match w, hw, h with
    | .castable x y, _, h =>
      have h1 : (Cond.castable x y).before a (s.setVm U.vm) = true := Cond.before_shiftedFace (State.Shifted.of_warmed hW) _ rfl h
      exact va_tabs rfl (rfl : (s.setVm U.vm).vm = U.vm) h1
    | .declares x, _, h =>
      have h1 : (Cond.declares x).before a (s.setVm U.vm) = true := Cond.before_shiftedFace (State.Shifted.of_warmed hW) _ rfl h
      exact va_tabs rfl (rfl : (s.setVm U.vm).vm = U.vm) h1
    | .not (.castable x y), _, h =>
      have h1 : (Cond.not (.castable x y)).before a (s.setVm U.vm) = true := Cond.castAtom_setVm hW.alike _ rfl h
      exact h1
    | .arrayOver (.object C), _, h => exact va_AO.use (va_AO.moved hW.alike (va_AO.of h))
def TB (U : State) : Prop := ∀ w ∈ tb, w.before #[] U = true
theorem TB.move {s U : State} (h : TB s) (hW : s.WarmedH U.vm) : TB U := fun w hw => zw_move (tb_ok hw) hW (h w hw)
theorem TB.use {s : State} (h : TB s) (a : Array Value) : ∀ w ∈ tb, w.before a s = true := fun w hw => zw_move (tb_ok hw) (State.WarmedH.refl s) (h w hw)
/-- a value by its position -/
def zV (ad : Nat → Nat) : Value → Value
  | .ref k => .ref (ad k)
  | v => v
def zO (ad : Nat → Nat) (f : Nat → Option Nat) : Nat → Option Nat := fun j => (f j).map ad
def zE (dA : Nat → ClassId) (ad : Nat → Nat) : va_E → va_E
  | .inl (t, n, .inl f) => .inl (dA t, n, .inl f)
  | .inl (t, n, .inr (.inl f)) => .inl (dA t, n, .inr (.inl f))
  | .inl (t, n, .inr (.inr (.inl f))) => .inl (dA t, n, .inr (.inr (.inl f)))
  | .inl (t, n, .inr (.inr (.inr (.inl f)))) => .inl (dA t, n, .inr (.inr (.inr (.inl f))))
  | .inl (t, n, .inr (.inr (.inr (.inr f)))) => .inl (dA t, n, .inr (.inr (.inr (.inr (zO ad f)))))
  | .inr (ci, fs) => .inr (ci, fs.map (zV ad))
def wl (dA : Nat → ClassId) (ad : Nat → Nat) (h : Nat → va_E) (n : Nat) : va_W := (List.range n).map fun k => (ad k, zE dA ad (h k))
theorem wl_get {dA : Nat → ClassId} {ad : Nat → Nat} {h : Nat → va_E} {n k : Nat} (hk : k < n) : (wl dA ad h n)[k]? = some (ad k, zE dA ad (h k)) := by
  simp [wl, hk]
theorem wl_lt {dA : Nat → ClassId} {ad : Nat → Nat} {h : Nat → va_E} {n k : Nat} {q : Nat × va_E} (hq : (wl dA ad h n)[k]? = some q) : k < n ∧ q = (ad k, zE dA ad (h k)) := by
  have hk : k < n := by
    have := (List.getElem?_eq_some_iff.mp hq).1
    simpa [wl] using this
  rw [wl_get hk] at hq
  exact ⟨hk, (Option.some.inj hq).symm⟩
theorem wl_set {dA : Nat → ClassId} {ad : Nat → Nat} {h : Nat → va_E} {n k : Nat} (e : va_E) (hk : k < n) : (wl dA ad h n).set k (ad k, zE dA ad e) = wl dA ad (va_up h k e) n := by
  apply List.ext_getElem?
  intro i
  by_cases hi : i = k
  · subst hi
    rw [List.getElem?_set_self (by simpa [wl] using hk), wl_get hk, va_up_self]
  · rw [List.getElem?_set_ne (Ne.symm hi)]
    by_cases hin : i < n
    · rw [wl_get hin, wl_get hin, va_up_ne h e hi]
    · have h1 : (wl dA ad h n)[i]? = none := by simp [wl, hin]
      have h2 : (wl dA ad (va_up h k e) n)[i]? = none := by simp [wl, hin]
      rw [h1, h2]
/-- which cells a method may change -/
def zA (ad : Nat → Nat) (n sz : Nat) : Nat → Prop := fun q => (∃ k, k < n ∧ q = ad k) ∨ sz ≤ q
def tyL (dA : Nat → ClassId) : List (ClassId × FieldType) := [(dA 0, .int), (dA 1, .boolean), (dA 2, .long), (dA 3, .object "RelayOrbiter$Packet"), (dA 4, .object "RelayOrbiter$Stream")]
def zMark : Nat → Value := fun j => match j with
  | 0 => .int 250
  | 1 => .int 243
  | _ => .int 32
def zRf (v : Value) : Prop := v = .null ∨ ∃ a, v = .ref a
/-- a static of Throwable's that is laid and holds a reference or null, and that nobody writes -/
def zSC (A : Nat → Prop) (nm ds : String) (U : State) (H : Heap) : Prop := ∃ (c : ClassId) (k : Class) (i : Nat) (f : Field) (a : Nat) (cell : Cell) (v : Value), U.vm.findClass "java/lang/Throwable" = some c ∧ U.fieldFound? "java/lang/Throwable" nm ds = some (c, k, i, f) ∧ f.isStatic = true ∧ k.statics = some a ∧ H[a]? = some cell ∧ cell.vm.isStatics = true ∧ cell.cls = c ∧ f.slot < cell.slots.size ∧ k.staticTypes[f.slot]? = some f.type ∧ cell.slots[f.slot]? = some v ∧ zRf v ∧ ¬ A a
theorem zSC.moved {A : Nat → Prop} {nm ds : String} {u U : State} {H : Heap} (hvm : u.vm.Alike U.vm) (h : zSC A nm ds u H) : zSC A nm ds U H := by
  obtain ⟨c, k, i, f, a, cell, v, h1, h2, h3, h4, h5, h6, h7, h8, h9, h10, h11, h12⟩ := h
  obtain ⟨k', hi', he⟩ := State.fieldFound?_setVm hvm h2
  exact ⟨c, k', i, f, a, cell, v, by rw [hvm.findClass]; exact h1, hi', h3, by rw [he]; exact h4, h5, h6, h7, h8, by rw [he]; exact h9, h10, h11, h12⟩
theorem zSC.kept {A : Nat → Prop} {nm ds : String} {U : State} {H H1 : Heap} (h : zSC A nm ds U H) (hq : ∀ a : Nat, a < H.size → ¬ A a → H1[a]? = H[a]?) : zSC A nm ds U H1 := by
  obtain ⟨c, k, i, f, a, cell, v, h1, h2, h3, h4, h5, h6, h7, h8, h9, h10, h11, h12⟩ := h
  exact ⟨c, k, i, f, a, cell, v, h1, h2, h3, h4, by rw [hq a (Array.getElem?_eq_some_iff.mp h5).1 h12]; exact h5, h6, h7, h8, h9, h10, h11, h12⟩
theorem zSC.narrow {A B : Nat → Prop} {nm ds : String} {U : State} {H : Heap} (h : zSC A nm ds U H) (hAB : ∀ q, B q → A q) : zSC B nm ds U H := by
  obtain ⟨c, k, i, f, a, cell, v, h1, h2, h3, h4, h5, h6, h7, h8, h9, h10, h11, h12⟩ := h
  exact ⟨c, k, i, f, a, cell, v, h1, h2, h3, h4, h5, h6, h7, h8, h9, h10, h11, fun z => h12 (hAB a z)⟩
theorem zSC.lays {A : Nat → Prop} {nm ds : String} {U : State} {args : Array Value} (h : zSC A nm ds U U.heap) : (Cond.laysStatic "java/lang/Throwable" nm ds).before args U = true := by
  obtain ⟨c, k, i, f, a, cell, v, h1, h2, h3, h4, h5, h6, h7, h8, h9, h10, h11, h12⟩ := h
  simp [Cond.before, Cond.holds, Cond.value, h1, h2, h3, h4, h5, h6, h7, h8, h9]
theorem zSC.isRef {A : Nat → Prop} {nm ds : String} {U : State} {args : Array Value} (h : zSC A nm ds U U.heap) : (Cond.isRef (.static "java/lang/Throwable" nm ds)).before args U = true := by
  obtain ⟨c, k, i, f, a, cell, v, h1, h2, h3, h4, h5, h6, h7, h8, h9, h10, h11, h12⟩ := h
  have hv : (Term.static "java/lang/Throwable" nm ds).eval args U none [] U = some v := by
    simp [Term.eval, State.fieldNamed?, h2, h3, h4, h5, h6, h10]
  rcases h11 with rfl | ⟨b, rfl⟩ <;> simp [Cond.before, Cond.holds, Cond.value, hv]
theorem zSC.of {A : Nat → Prop} {nm ds : String} {s : State} {args : Array Value} (hl : (Cond.laysStatic "java/lang/Throwable" nm ds).before args s = true) (hr : (Cond.isRef (.static "java/lang/Throwable" nm ds)).before args s = true) (hA : ∀ a : Nat, a < s.heap.size → ¬ A a) : zSC A nm ds s s.heap := by
  obtain ⟨c, k, i, f, a, cell, h1, h2, h3, h4, h5, h6, h7, h8, h9⟩ := Cond.laysStatic_spec hl
  obtain ⟨v, hv⟩ : ∃ v, cell.slots[f.slot]? = some v := ⟨_, Array.getElem?_eq_getElem h8⟩
  have he : (Term.static "java/lang/Throwable" nm ds).eval args s none [] s = some v := by
    simp [Term.eval, State.fieldNamed?, h2, h3, h4, h5, h6, hv]
  refine ⟨c, k, i, f, a, cell, v, h1, h2, h3, h4, h5, h6, h7, h8, h9, hv, ?_, hA a (Array.getElem?_eq_some_iff.mp h5).1⟩
  cases v with
  | null => exact Or.inl rfl
  | ref b => exact Or.inr ⟨b, rfl⟩
  | _ => simp [Cond.before, Cond.holds, Cond.value, he] at hr
/-- what nobody writes: the array MARK, and what Throwable's constructor reads -/
def zRO (A : Nat → Prop) (aM : Nat) (U : State) (H : Heap) : Prop :=
  va_Z "RelayOrbiter$LanderLink" "MARK" "[I" (.ref aM) A U H ∧ va_T .int aM 3 zMark A U H ∧
  zSC A "UNASSIGNED_STACK" "[Ljava/lang/StackTraceElement;" U H ∧ zSC A "SUPPRESSED_SENTINEL" "Ljava/util/List;" U H
theorem zRO.moved {A : Nat → Prop} {aM : Nat} {u U : State} {H : Heap} (hvm : u.vm.Alike U.vm) (h : zRO A aM u H) : zRO A aM U H := ⟨h.1.moved hvm, h.2.1.moved hvm, h.2.2.1.moved hvm, h.2.2.2.moved hvm⟩
theorem zRO.kept {A : Nat → Prop} {aM : Nat} {U : State} {H H1 : Heap} (h : zRO A aM U H) (hq : ∀ a : Nat, a < H.size → ¬ A a → H1[a]? = H[a]?) : zRO A aM U H1 := ⟨h.1.kept hq, h.2.1.kept hq, h.2.2.1.kept hq, h.2.2.2.kept hq⟩
theorem zRO.narrow {A B : Nat → Prop} {aM : Nat} {U : State} {H : Heap} (h : zRO A aM U H) (hAB : ∀ q, B q → A q) : zRO B aM U H := ⟨h.1.narrow hAB, h.2.1.narrow hAB, h.2.2.1.narrow hAB, h.2.2.2.narrow hAB⟩
def LV (nL : Nat) (ad : Nat → Nat) (lv : List (Option Value)) (ls : Array Slot) : Prop := ls.size = nL ∧ lv_wf ls ∧ ∀ (i : Nat) (v : Value), lv[i]? = some (some v) → ls[i]? = some (.val (zV ad v))
/-- what is known in an invocation -/
def Cx (D : va_G) (dA : Nat → ClassId) (A : Nat → Prop) (ad0 : Nat → Nat) (own : String) (cc : ByteArray) (nL : Nat) (p : Program) (R : Room) (s : State) (m : MethodId) (args : Array Value) (meth : Method) (c : Code) : Prop :=
  p.tables.exec = Jvm.exec ∧ c.code = cc ∧ c.maxLocals = nL ∧ s.vm.findClass own = some m.cls ∧ (∀ w ∈ tb, w.before args s = true) ∧ va_K D cls (tyL dA) s ∧ (∀ q, s.heap.size ≤ q → A q) ∧ meth.locks = false ∧ zRO A (ad0 1000) s s.heap ∧ TB s ∧ 8 ≤ R.frames ∧ 200 ≤ R.locals
def J (D : va_G) (dA : Nat → ClassId) (A : Nat → Prop) (Φ : Heap → List Loc → Prop) (ad0 : Nat → Nat) (n0 : Nat) (nL : Nat) (p : Program) (l : Launch) (e : Env) (R : Room) (s : State) (m : MethodId) (args : Array Value) (below : List Frame) (meth : Method) (c : Code) (Q : State → Prop) (pc : Nat) (lv : List (Option Value)) (st : List Value) (h : Nat → va_E) (n kc ks : Nat) : Prop :=
  ∀ (ad : Nat → Nat) (H : Heap) (locs : List Loc) (ls : Array Slot), (∀ k, k < n0 ∨ n ≤ k → ad k = ad0 k) → va_P D cls (wl dA ad h n) H → va_D A (wl dA ad h n) → va_S A s.heap H locs → Φ H locs → LV nL ad lv ls →
    W p l e R s m args below meth c H locs kc ks Q (F0 m pc ls (st.map (zV ad)))
theorem LV.get {nL : Nat} {ad : Nat → Nat} {lv : List (Option Value)} {ls : Array Slot} (h : LV nL ad lv ls) {i : Nat} {v : Value} (hi : lv[i]? = some (some v)) : ls[i]? = some (.val (zV ad v)) := h.2.2 i v hi
/-- the locals as the kit lists them -/
def zAl (ad : Nat → Nat) (lv : List (Option Value)) : List (Nat × Value) := (List.range lv.length).filterMap fun i => (lv[i]?.bind id).map fun v => (i, zV ad v)
theorem zAl_mem {ad : Nat → Nat} {lv : List (Option Value)} {q : Nat × Value} : q ∈ zAl ad lv ↔ ∃ v, lv[q.1]? = some (some v) ∧ q.2 = zV ad v := by
  constructor
  · intro h
    obtain ⟨i, -, hi⟩ := List.mem_filterMap.mp h
    cases hv : lv[i]? with
    | none => simp [hv] at hi
    | some o =>
      cases o with
      | none => simp [hv] at hi
      | some v =>
        simp [hv] at hi
        subst hi
        exact ⟨v, hv, rfl⟩
  · rintro ⟨v, h1, h2⟩
    refine List.mem_filterMap.mpr ⟨q.1, List.mem_range.mpr ?_, ?_⟩
    · exact (List.getElem?_eq_some_iff.mp h1).1
    · simp [h1, ← h2]
theorem LV.has {nL : Nat} {ad : Nat → Nat} {lv : List (Option Value)} {ls : Array Slot} (h : LV nL ad lv ls) : lv_has ls nL (zAl ad lv) := ⟨h.1, h.2.1, fun q hq => by
  obtain ⟨v, h1, h2⟩ := zAl_mem.mp hq
  rw [h2]; exact h.2.2 q.1 v h1⟩
def zNL (lv : List (Option Value)) (i : Nat) : Bool := match i with
  | 0 => true
  | j + 1 => match lv[j]? with
    | some (some (.long _)) => false
    | some (some (.double _)) => false
    | _ => true
theorem zV_cat (ad : Nat → Nat) (v : Value) : (zV ad v).category = v.category := by cases v <;> rfl
theorem LV.set {nL : Nat} {ad : Nat → Nat} {lv : List (Option Value)} {ls : Array Slot} {i : Nat} {x : Value} (hn : zNL lv i = true) (h : lv_has ls nL ((i, zV ad x) :: (zAl ad lv).filter (fun q => !(q.1 == i) && !(q.1 + 1 == i && q.2.category == 2)))) : LV nL ad (lv.set i (some x)) ls := by
  refine ⟨h.1, h.2.1, fun j v hj => ?_⟩
  by_cases hji : j = i
  · subst hji
    have hl : j < lv.length := by
      have := (List.getElem?_eq_some_iff.mp hj).1
      simpa using this
    rw [List.getElem?_set_self hl] at hj
    cases hj
    exact h.2.2 (j, zV ad x) List.mem_cons_self
  · rw [List.getElem?_set_ne (Ne.symm hji)] at hj
    refine h.2.2 (j, zV ad v) (List.mem_cons_of_mem _ (List.mem_filter.mpr ⟨zAl_mem.mpr ⟨v, hj, rfl⟩, ?_⟩))
    have h1 : (j == i) = false := by simpa using hji
    simp only [h1, Bool.not_false, Bool.true_and, Bool.not_eq_true', Bool.and_eq_false_iff]
    by_cases h2 : j + 1 = i
    · right
      subst h2
      simp only [zNL, hj] at hn
      rw [zV_cat]
      cases v <;> simp_all [Value.category]
    · left; simpa using h2
theorem LV.weak {nL : Nat} {ad : Nat → Nat} {lv lv' : List (Option Value)} {ls : Array Slot} (h : LV nL ad lv ls) (hw : ∀ (i : Nat) (v : Value), lv'[i]? = some (some v) → lv[i]? = some (some v)) : LV nL ad lv' ls := ⟨h.1, h.2.1, fun i v hv => h.2.2 i v (hw i v hv)⟩
