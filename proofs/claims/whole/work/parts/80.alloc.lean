def okV (n : Nat) : Value → Prop
  | .ref k => k < n ∨ 1000 ≤ k
  | _ => True
def ltE (n : Nat) : va_E → Prop
  | .inl (_, _, .inr (.inr (.inr (.inr f)))) => ∀ j k, f j = some k → k < n
  | .inl _ => True
  | .inr (_, fs) => ∀ v ∈ fs, okV n v
/-- the cells name cells that are there -/
def LT (h : Nat → va_E) (n : Nat) : Prop := ∀ k, k < n → ltE n (h k)
theorem okV.mono {n n' : Nat} {v : Value} (hn : n ≤ n') (h : okV n v) : okV n' v := by
  cases v with
  | ref k =>
    rcases (show k < n ∨ 1000 ≤ k from h) with q | q
    · exact Or.inl (Nat.lt_of_lt_of_le q hn)
    · exact Or.inr q
  | _ => trivial
theorem ltE.mono {n n' : Nat} (hn : n ≤ n') : ∀ {e : va_E}, ltE n e → ltE n' e
  | .inl (_, _, .inl _), _ => trivial
  | .inl (_, _, .inr (.inl _)), _ => trivial
  | .inl (_, _, .inr (.inr (.inl _))), _ => trivial
  | .inl (_, _, .inr (.inr (.inr (.inl _)))), _ => trivial
  | .inl (_, _, .inr (.inr (.inr (.inr f)))), h => fun j k q => Nat.lt_of_lt_of_le (h j k q) hn
  | .inr (_, fs), h => fun v hv => (h v hv).mono hn
theorem LT.put {h : Nat → va_E} {n : Nat} (hL : LT h n) (k : Nat) {e : va_E} (he : ltE n e) : LT (va_up h k e) n := by
  intro j hj
  by_cases z : j = k
  · subst z; rw [va_up_self]; exact he
  · rw [va_up_ne h e z]; exact hL j hj
theorem LT.add {h : Nat → va_E} {n : Nat} (hL : LT h n) {e : va_E} (he : ltE (n + 1) e) : LT (va_up h n e) (n + 1) := by
  intro j hj
  by_cases z : j = n
  · subst z; rw [va_up_self]; exact he
  · rw [va_up_ne h e z]; exact (hL j (by omega)).mono (Nat.le_succ n)
section ZG0
variable {dA : Nat → ClassId} {ad ad' : Nat → Nat} {n : Nat}
theorem zV_ok (h : ∀ k, k < n ∨ 1000 ≤ k → ad' k = ad k) {v : Value} (hv : okV n v) : zV ad' v = zV ad v := by
  cases v with
  | ref k => show Value.ref (ad' k) = Value.ref (ad k); rw [h k hv]
  | _ => rfl
theorem zE_ok (h : ∀ k, k < n ∨ 1000 ≤ k → ad' k = ad k) : ∀ {e : va_E}, ltE n e → zE dA ad' e = zE dA ad e
  | .inl (_, _, .inl _), _ => rfl
  | .inl (_, _, .inr (.inl _)), _ => rfl
  | .inl (_, _, .inr (.inr (.inl _))), _ => rfl
  | .inl (_, _, .inr (.inr (.inr (.inl _)))), _ => rfl
  | .inl (t, N, .inr (.inr (.inr (.inr f)))), he => by
    have e1 : zO ad' f = zO ad f := by
      funext j
      unfold zO
      cases hf : f j with
      | none => rfl
      | some k => show some (ad' k) = some (ad k); rw [h k (Or.inl (he j k hf))]
    show (Sum.inl (dA t, N, Sum.inr (Sum.inr (Sum.inr (Sum.inr (zO ad' f))))) : va_E) = Sum.inl (dA t, N, Sum.inr (Sum.inr (Sum.inr (Sum.inr (zO ad f)))))
    rw [e1]
  | .inr (ci, fs), he => by
    show (Sum.inr (ci, fs.map (zV ad')) : va_E) = Sum.inr (ci, fs.map (zV ad))
    rw [List.map_congr_left (fun v hv => zV_ok h (he v hv))]
theorem wl_ok (h : ∀ k, k < n ∨ 1000 ≤ k → ad' k = ad k) {hh : Nat → va_E} (hL : LT hh n) : wl dA ad' hh n = wl dA ad hh n := by
  unfold wl
  refine List.map_congr_left (fun k hk => ?_)
  have hk' : k < n := List.mem_range.mp hk
  rw [h k (Or.inl hk'), zE_ok h (hL k hk')]
theorem wl_cong {h h' : Nat → va_E} (e : ∀ k, k < n → h k = h' k) : wl dA ad h n = wl dA ad h' n := by
  unfold wl
  refine List.map_congr_left (fun k hk => ?_)
  rw [e k (List.mem_range.mp hk)]
theorem wl_push {h : Nat → va_E} {q : Nat} (hn : n < 1000) (hL : LT h n) (e : va_E) : wl dA (va_up ad n q) (va_up h n e) (n + 1) = wl dA ad h n ++ [(q, zE dA (va_up ad n q) e)] := by
  have h1 : ∀ k, k < n ∨ 1000 ≤ k → va_up ad n q k = ad k := fun k hk => va_up_ne ad q (by omega)
  rw [← wl_ok h1 hL]
  unfold wl
  rw [List.range_succ, List.map_append]
  congr 1
  · refine List.map_congr_left (fun k hk => ?_)
    rw [va_up_ne h e (by have := List.mem_range.mp hk; omega)]
  · simp [va_up_self]
end ZG0
theorem LV.ok {nL : Nat} {ad ad' : Nat → Nat} {n : Nat} {lv : List (Option Value)} {ls : Array Slot} (h : ∀ k, k < n ∨ 1000 ≤ k → ad' k = ad k) (hL : LV nL ad lv ls) (hv : ∀ (i : Nat) (v : Value), lv[i]? = some (some v) → okV n v) : LV nL ad' lv ls :=
  ⟨hL.1, hL.2.1, fun i v q => by rw [zV_ok h (hv i v q)]; exact hL.2.2 i v q⟩
theorem st_ok {ad ad' : Nat → Nat} {n : Nat} {st : List Value} (h : ∀ k, k < n ∨ 1000 ≤ k → ad' k = ad k) (hv : ∀ v ∈ st, okV n v) : st.map (zV ad') = st.map (zV ad) := List.map_congr_left (fun v q => zV_ok h (hv v q))
/-- the class of the arrays is the one that is known -/
theorem dA_of {D : va_G} {dA : Nat → ClassId} {U : State} (hK : va_K D cls (tyL dA) U) {cA : ClassId} : (va_RA U cA .int → cA = dA 0) ∧ (va_RA U cA .boolean → cA = dA 1) ∧ (va_RA U cA .long → cA = dA 2) ∧ (va_RA U cA (.object "RelayOrbiter$Packet") → cA = dA 3) ∧ (va_RA U cA (.object "RelayOrbiter$Stream") → cA = dA 4) := by
  have h0 := (hK.2 0 _ rfl).2
  have h1 := (hK.2 1 _ rfl).2
  have h2 := (hK.2 2 _ rfl).2
  obtain ⟨_, _, _, _, _, h3⟩ := (hK.2 3 _ rfl).2
  obtain ⟨_, _, _, _, _, h4⟩ := (hK.2 4 _ rfl).2
  refine ⟨fun q => Option.some.inj (Eq.trans (Eq.symm q) h0), fun q => Option.some.inj (Eq.trans (Eq.symm q) h1), fun q => Option.some.inj (Eq.trans (Eq.symm q) h2), ?_, ?_⟩
  · rintro ⟨_, _, _, _, _, q⟩; exact Option.some.inj (q.symm.trans h3)
  · rintro ⟨_, _, _, _, _, q⟩; exact Option.some.inj (q.symm.trans h4)
theorem in_tb : (∀ w ∈ u_ws R_Orb T_Orb 7, w ∈ tb) ∧ (∀ w ∈ u_ws R_Win T_Win 3, w ∈ tb) ∧ (∀ w ∈ u_ws R_Sto T_Sto 10, w ∈ tb) ∧ (∀ w ∈ u_ws R_Pkt T_Pkt 5, w ∈ tb) ∧ (∀ w ∈ u_ws R_Ses T_Ses 10, w ∈ tb) ∧ (∀ w ∈ u_ws R_Har T_Har 5, w ∈ tb) ∧ (∀ w ∈ u_ws R_Str T_Str 3, w ∈ tb) ∧ (∀ w ∈ u_ws R_Lan T_Lan 3, w ∈ tb) ∧ (∀ w ∈ u_ws R_Frm T_Frm 2, w ∈ tb) ∧ (∀ w ∈ u_ws R_Ear T_Ear 3, w ∈ tb) ∧ (∀ w ∈ u_ws R_Mod T_Mod 27, w ∈ tb) :=
  ⟨by decide +kernel, by decide +kernel, by decide +kernel, by decide +kernel, by decide +kernel, by decide +kernel, by decide +kernel, by decide +kernel, by decide +kernel, by decide +kernel, by decide +kernel⟩
section ZG
variable {D : va_G} {dA : Nat → ClassId} {A : Nat → Prop} {Φ : Heap → List Loc → Prop} {ad0 : Nat → Nat} {n0 nL : Nat} {p : Program} {l : Launch} {e : Env} {R : Room} {s : State} {m : MethodId} {args : Array Value} {below : List Frame} {meth : Method} {c : Code} {Q : State → Prop} {pc : Nat} {lv : List (Option Value)} {st : List Value} {h : Nat → va_E} {n kc ks : Nat} {own : String} {cc : ByteArray}
theorem J_cong {h' : Nat → va_E} (hh : ∀ k, k < n → h k = h' k) (k : J D dA A Φ ad0 n0 nL p l e R s m args below meth c Q (pc) (lv) (st) (h') n kc ks) : J D dA A Φ ad0 n0 nL p l e R s m args below meth c Q (pc) (lv) (st) (h) n kc ks := fun ad H locs ls h0 hP hD hS hF hL => k ad H locs ls h0 (by rw [← wl_cong hh]; exact hP) (by rw [← wl_cong hh]; exact hD) hS hF hL
theorem J_new (C : Cx D dA A ad0 own cc nL p R s m args meth c) {X : String} {T : u_T} {N ci idx : Nat} (hin : ∀ w ∈ u_ws X T N, w ∈ tb) (ty : Nat → FieldType) (hty : ∀ k, k < N → parseFieldDescriptor (T k).2.2.1 = some (ty k)) (hcl : Cond.classLink own idx X ∈ tb) (hinst : Cond.instantiable X N ∈ tb) (hini : Cond.initialized X ∈ tb) (hc : cls[ci]? = some (X, T, N)) {fs : List Value} (hfs : ∀ j, j < N → defaultValue (ty j) = vp_V fs j) (hf0 : ∀ ad, fs.map (zV ad) = fs) (hL : LT h n) (hn0 : n0 ≤ n) (hn1 : n < 1000) (hlv : ∀ (i : Nat) (v : Value), lv[i]? = some (some v) → okV n v) (hst : ∀ v ∈ st, okV n v) (hcap : kc + 1 ≤ R.cells ∧ ks + N ≤ R.slots) (hd : decode cc pc = .ok (.new idx, 3)) (hΦ : ∀ H locs, Φ H locs := by intros; trivial)
    (kk : J D dA A Φ ad0 n0 nL p l e R s m args below meth c Q (pc + 3) (lv) (.ref n :: st) (va_up h n (.inr (ci, fs))) (n + 1) (kc + 1) (ks + N)) : J D dA A Φ ad0 n0 nL p l e R s m args below meth c Q (pc) (lv) (st) (h) n kc ks := by
  intro ad H locs ls h0 hP hD hS hF hL2
  refine va_new (ci := ci) (fs := fs) C.1 C.2.1 C.2.2.2.2.1 hin ty hty C.2.2.2.1 (C.2.2.2.2.1 _ hcl) (C.2.2.2.2.1 _ hinst) (C.2.2.2.2.1 _ hini) C.2.2.2.2.2.1 hP hD hS C.2.2.2.2.2.2.1 hc hfs hcap.1 hcap.2 hd (fun q H1 hP1 hD1 hS1 => ?_)
  have ha : ∀ k, k < n ∨ 1000 ≤ k → va_up ad n q k = ad k := fun k hk => va_up_ne ad q (by omega)
  have e1 : wl dA (va_up ad n q) (va_up h n (.inr (ci, fs))) (n + 1) = wl dA ad h n ++ [(q, .inr (ci, fs))] := by
    rw [wl_push hn1 hL]
    show _ ++ [(q, (Sum.inr (ci, fs.map (zV (va_up ad n q))) : va_E))] = _
    rw [hf0]
  have k1 := kk (va_up ad n q) H1 locs ls (fun k hk => by rw [va_up_ne ad q (by omega)]; exact h0 k (by omega)) (by rw [e1]; exact hP1) (by rw [e1]; exact hD1) hS1 (hΦ _ _) (hL2.ok ha hlv)
  have e2 : (Value.ref n :: st).map (zV (va_up ad n q)) = .ref q :: st.map (zV ad) := by
    rw [List.map_cons, st_ok ha hst]
    show Value.ref (va_up ad n q n) :: _ = _
    rw [va_up_self]
  rw [e2] at k1
  exact k1
theorem J_newa (C : Cx D dA A ad0 own cc nL p R s m args meth c) {atype : ArrayType} {t N : Nat} {ty : FieldType} {i : Int32} (hty : newarray.typeOf atype = ty) (harr : Cond.arrayClass (newarray.typeOf atype) ∈ tb) (ht : ∀ cA, va_RA s cA ty → cA = dA t) {f : (Nat → Int32) ⊕ (Nat → Int64) ⊕ (Nat → UInt32) ⊕ (Nat → UInt64) ⊕ (Nat → Option Nat)} (hz : ∀ ad, zE dA ad (.inl (t, N, f)) = .inl (dA t, N, f)) (ha : ∀ cA : ClassId, vp_cell cA (N, f) = arrV cA N (fun _ => defaultValue ty)) (hi : i = nI N) (hN : N < 100000) (hby : N * componentBytes ty ≤ 536870912) (hL : LT h n) (hn0 : n0 ≤ n) (hn1 : n < 1000) (hlv : ∀ (i : Nat) (v : Value), lv[i]? = some (some v) → okV n v) (hst : ∀ v ∈ st, okV n v) (hcap : kc + 1 ≤ R.cells ∧ ks + N ≤ R.slots) (hd : decode cc pc = .ok (.newarray atype, 2)) (hΦ : ∀ H locs, Φ H locs := by intros; trivial)
    (kk : J D dA A Φ ad0 n0 nL p l e R s m args below meth c Q (pc + 2) (lv) (.ref n :: st) (va_up h n (.inl (t, N, f))) (n + 1) (kc + 1) (ks + N)) : J D dA A Φ ad0 n0 nL p l e R s m args below meth c Q (pc) (lv) (.int i :: st) (h) n kc ks := by
  intro ad H locs ls h0 hP hD hS hF hL2
  refine va_newa C.1 C.2.1 (C.2.2.2.2.1 _ harr) hty C.2.2.2.2.2.1 hP hD hS C.2.2.2.2.2.2.1 (a0 := (N, f)) ha (by rw [hi]; exact nI_pos (by omega)) (by rw [hi, nI_clamp (by omega)]) hby hcap.1 hcap.2 hd (fun q cA H1 hK1 hP1 hD1 hS1 => ?_)
  have hcA : cA = dA t := ht cA (hK1.2 5 (cA, ty) rfl).2
  subst hcA
  have ha : ∀ k, k < n ∨ 1000 ≤ k → va_up ad n q k = ad k := fun k hk => va_up_ne ad q (by omega)
  have e1 : wl dA (va_up ad n q) (va_up h n (.inl (t, N, f))) (n + 1) = wl dA ad h n ++ [(q, .inl (dA t, N, f))] := by
    rw [wl_push hn1 hL, hz]
  have k1 := kk (va_up ad n q) H1 locs ls (fun k hk => by rw [va_up_ne ad q (by omega)]; exact h0 k (by omega)) (by rw [e1]; exact hP1) (by rw [e1]; exact hD1) hS1 (hΦ _ _) (hL2.ok ha hlv)
  have e2 : (Value.ref n :: st).map (zV (va_up ad n q)) = .ref q :: st.map (zV ad) := by
    rw [List.map_cons, st_ok ha hst]
    show Value.ref (va_up ad n q n) :: _ = _
    rw [va_up_self]
  rw [e2] at k1
  exact k1
theorem J_newq (C : Cx D dA A ad0 own cc nL p R s m args meth c) {X : String} {t N idx : Nat} {i : Int32} (hcl : Cond.classLink own idx X ∈ tb) (hov : Cond.arrayOver (.object X) ∈ tb) (ht : ∀ cA, va_RA s cA (.object X) → cA = dA t) (hi : i = nI N) (hN : N < 100000) (hL : LT h n) (hn0 : n0 ≤ n) (hn1 : n < 1000) (hlv : ∀ (i : Nat) (v : Value), lv[i]? = some (some v) → okV n v) (hst : ∀ v ∈ st, okV n v) (hcap : kc + 1 ≤ R.cells ∧ ks + N ≤ R.slots) (hd : decode cc pc = .ok (.anewarray idx, 3)) (hΦ : ∀ H locs, Φ H locs := by intros; trivial)
    (kk : J D dA A Φ ad0 n0 nL p l e R s m args below meth c Q (pc + 3) (lv) (.ref n :: st) (va_up h n (.inl (t, N, .inr (.inr (.inr (.inr (fun _ => none))))))) (n + 1) (kc + 1) (ks + N)) : J D dA A Φ ad0 n0 nL p l e R s m args below meth c Q (pc) (lv) (.int i :: st) (h) n kc ks := by
  intro ad H locs ls h0 hP hD hS hF hL2
  refine va_newq C.1 C.2.1 C.2.2.2.1 (C.2.2.2.2.1 _ hcl) (va_AO.of (C.2.2.2.2.1 _ hov)) C.2.2.2.2.2.1 hP hD hS C.2.2.2.2.2.2.1 (by rw [hi]; exact nI_pos (by omega)) (by rw [hi, nI_clamp (by omega)]) (by omega) hcap.1 hcap.2 hd (fun q cA H1 hK1 hP1 hD1 hS1 => ?_)
  have hcA : cA = dA t := ht cA (hK1.2 5 (cA, .object X) rfl).2
  subst hcA
  have ha : ∀ k, k < n ∨ 1000 ≤ k → va_up ad n q k = ad k := fun k hk => va_up_ne ad q (by omega)
  have e1 : wl dA (va_up ad n q) (va_up h n (.inl (t, N, .inr (.inr (.inr (.inr (fun _ => none))))))) (n + 1) = wl dA ad h n ++ [(q, .inl (dA t, N, .inr (.inr (.inr (.inr (fun _ => none))))))] := by
    rw [wl_push hn1 hL]; rfl
  have k1 := kk (va_up ad n q) H1 locs ls (fun k hk => by rw [va_up_ne ad q (by omega)]; exact h0 k (by omega)) (by rw [e1]; exact hP1) (by rw [e1]; exact hD1) hS1 (hΦ _ _) (hL2.ok ha hlv)
  have e2 : (Value.ref n :: st).map (zV (va_up ad n q)) = .ref q :: st.map (zV ad) := by
    rw [List.map_cons, st_ok ha hst]
    show Value.ref (va_up ad n q n) :: _ = _
    rw [va_up_self]
  rw [e2] at k1
  exact k1
theorem J_objInit (C : Cx D dA A ad0 own cc nL p R s m args meth c) {idx b : Nat} (hlk : Cond.methodLink own idx Lib.objectInit ∈ tb) (hin : Cond.instanceMethod Lib.objectInit ∈ tb) (hco : Cond.code Lib.objectInit ⟨#[0xb1]⟩ 1 none ∈ tb) (hst : zCat st ≤ 8) (hd : decode cc pc = .ok (.invokespecial idx, 3)) (kk : J D dA A Φ ad0 n0 nL p l e R s m args below meth c Q (pc + 3) (lv) (st) (h) n kc ks) : J D dA A Φ ad0 n0 nL p l e R s m args below meth c Q (pc) (lv) (.ref b :: st) (h) n kc ks := by
  intro ad H locs ls h0 hP hD hS hF hL
  refine W.objInit C.1 C.2.1 C.2.2.2.1 (C.2.2.2.2.1 _ hlk) (C.2.2.2.2.1 _ hin) (C.2.2.2.2.1 _ hco) (g := F0 m pc ls (.ref (ad b) :: st.map (zV ad))) rfl (by rw [C.2.2.1]; exact hL.1) rfl hd (by have := C.2.2.2.2.2.2.2.2.2.2.1; omega) ?_ (kk ad H locs ls h0 hP hD hS hF hL)
  have h1 : 2 * (F0 m pc ls (.ref (ad b) :: st.map (zV ad))).monitorRoom + ((st.map (zV ad)).map fun v => v.category).sum ≤ 8 := lv_room (by rw [zCat_map]; exact hst)
  have := C.2.2.2.2.2.2.2.2.2.2.2
  omega
theorem J_callI (C : Cx D dA A ad0 own cc nL p R s m args meth c) {k : zK} {idx d mc ms np b : Nat} {as : List Value} {Post : Option Value → (Nat → va_E) → Nat → Prop} (hM : CT l D dA k d mc ms n (.ref b :: as) h Post) (hl : ML own idx k np) (hv : MI k) (hn : as.length = np) (hn0 : n0 ≤ n) (hn1 : n ≤ 1000) (hR : d + 11 ≤ R.frames ∧ k.2.2.1 + 319 + 60 * d ≤ R.locals) (hcap : kc + mc ≤ R.cells ∧ ks + ms ≤ R.slots) (hst : zCat st ≤ 8) (hPn : ∀ v h' n', Post v h' n' → v = none ∧ n' ≤ 1000) (hlv : ∀ (i : Nat) (v : Value), lv[i]? = some (some v) → okV n v) (hsv : ∀ v ∈ st, okV n v) (hd : decode cc pc = .ok (.invokespecial idx, 3)) (hΦ : ∀ H locs, Φ H locs := by intros; trivial)
    (kk : ∀ h' n', Post none h' n' → n ≤ n' → J D dA A Φ ad0 n0 nL p l e R s m args below meth c Q (pc + 3) (lv) (st) (h') n' (kc + mc) (ks + ms)) : J D dA A Φ ad0 n0 nL p l e R s m args below meth c Q (pc) (lv) (as.reverse ++ .ref b :: st) (h) n kc ks := by
  intro ad H locs ls h0 hP hD hS hF hL
  have hpre := zPre (as := .ref b :: as) C h0 hn1 hP hD hS
  have hstk : (as.reverse ++ .ref b :: st).map (zV ad) = (as.map (zV ad)).reverse ++ .ref (ad b) :: st.map (zV ad) := by simp [zV]
  obtain ⟨y, bytes, maxL, ret⟩ := k
  obtain ⟨hv1, hv2, hv3⟩ := hv
  have hv3 : ret = none := hv3
  subst hv3
  have hrun : va_Run p l e R s m args below meth c H locs kc ks mc ms (F0 m pc ls ((as.reverse ++ .ref b :: st).map (zV ad))) (st.map (zV ad)) (zQc D dA (zA ad n H.size) ad n Post (Value.ref (ad b) :: as.map (zV ad)).toArray) (zA ad n H.size) := by
    rcases hl.1 with hlk | ⟨host, hlk⟩
    · exact va_runI (b := ad b) ⟨C.1, C.2.1, C.2.2.1, C.2.2.2.1, C.2.2.2.2.1⟩ (hM ad H.size) ⟨zCb C hl.2 hlk hR, hv1, C.2.2.2.2.1 _ hv2⟩ ⟨zPc_blind, hpre⟩ rfl (by rw [List.length_map]; exact hn) hL.1 hstk (lv_room (by rw [zCat_map]; exact hst)) hd hcap
    · exact va_runIN (b := ad b) ⟨C.1, C.2.1, C.2.2.1, C.2.2.2.1, C.2.2.2.2.1⟩ (hM ad H.size) ⟨zCn C hl.2 hlk hR, hv1, C.2.2.2.2.1 _ hv2⟩ ⟨zPc_blind, hpre⟩ rfl (by rw [List.length_map]; exact hn) hL.1 hstk (lv_room (by rw [zCat_map]; exact hst)) hd hcap
  refine zAfter (n' := n) (h' := h) (g := F0 m pc ls []) hrun C.2.2.2.2.2.2.1 hP hD hS ?_
  intro v ad' h' n' H1 locs1 ha hn' hp hP1 hD1 hS1
  obtain ⟨rfl, hn9⟩ := hPn v h' n' hp
  have ha2 : ∀ k, k < n ∨ 1000 ≤ k → ad' k = ad k := fun k hk => ha k (by omega)
  have k1 := kk h' n' hp hn' ad' H1 locs1 ls (fun k hk => by rw [ha k (by omega)]; exact h0 k (by omega)) hP1 hD1 hS1 (hΦ H1 locs1) (hL.ok ha2 hlv)
  rw [st_ok ha2 hsv] at k1
  exact k1
end ZG