def R_law : String := "RelayOrbiterLaw"
def lw_P (b : Addr) (xs : List Int32) (args : Array Value) (s : State) : Prop := args = #[.ref b] ∧ s.IntsAt b xs ∧ xs.length ≤ 2560 ∧ (Jvm.Cond.and given_1 narrow_1).before args s = true
def lw_Q (_ : Array Value) (s : State) (o : Outcome) (t : State) : Prop := o = .returned (some (.int 1)) ∧ Framed s o t [] 601024 7293034
def lw_Z (below : List Frame) (a : Array Value) (s : State) : State → Prop := fun t => ∃ o, t.status = .running ∧ Ended t below o ∧ lw_Q a s o t
/-- the law's own end, with 1 on the stack, nothing written that was there before, its room as the claim has it -/
theorem lw_ret {p : Program} {l : Launch} {e : Env} {s : State} {m : MethodId} {below : List Frame} {meth : Method} {c : Code} {b : Nat} (hx : p.tables.exec = Jvm.exec) (hb : c.code = code) (hr : meth.sig.returnType = ret) (hlocks : meth.locks = false) {pc : Nat} {H : Heap} {ls : Array Slot} (hdg : decode code pc = .ok (.ireturn, 1)) : W p l e room_1 s m #[Value.ref b] below meth c H [] 601024 7293034 (lw_Z below #[Value.ref b] s) (F0 m pc ls [.int 1]) := by
  intro T hT X
  obtain ⟨fs, hret, hrun, hended, hW, hframe⟩ := X.leave (v := some (.int 1)) (hlocks := hlocks) (fun h => by rw [hr] at h; cases h)
  have hmeth' : T.vm.method? m = some meth := X.method'
  refine ⟨T.setFrames fs, ?_, .returned (some (.int 1)), hrun, hended, rfl, ⟨_, rfl⟩, hW, hframe⟩
  jvm_step X.here [X.here.top, hx, hb, hdg, hmeth', hr, ret, narrow_b1]
  (try refine ⟨rfl, ?_⟩); (try refine ⟨rfl, ?_⟩)
  first | (intro acts; rw [hret _ acts rfl rfl rfl]) | rw [hret _ _ rfl rfl rfl]
  exact Steps.refl _
/-- what holds at the law's entry: the machine, the code, the tables' words (any of lw_tbl by 'hts w (by decide +kernel)'), the script of L ints xs at the cell b, what the Statement gives of the start (any of its parts by flat_of_before) -/
def lw_At (p : Program) (s : State) (m : MethodId) (meth : Method) (c : Code) (b L : Nat) (xs : Nat → Int32) : Prop :=
  p.tables.exec = Jvm.exec ∧ c.code = code ∧ meth.sig.returnType = ret ∧ c.maxLocals = 7 ∧ s.vm.findClass R_law = some m.cls ∧ (∀ w ∈ lw_tbl, w.before #[Value.ref b] s = true) ∧ va_X b L xs s s.heap ∧ b < s.heap.size ∧ meth.locks = false ∧ (Jvm.Cond.and given_1 narrow_1).before #[Value.ref b] s = true
section ZLL
variable {D : va_G} {dA : Nat → ClassId} {A : Nat → Prop} {Φ : Heap → List Loc → Prop} {ad0 : Nat → Nat} {n0 nL : Nat} {p : Program} {l : Launch} {e : Env} {R : Room} {s : State} {m : MethodId} {args : Array Value} {below : List Frame} {meth : Method} {c : Code} {Q : State → Prop} {pc : Nat} {lv : List (Option Value)} {st : List Value} {h : Nat → va_E} {n kc ks : Nat} {own : String} {cc : ByteArray} {M : Mem}
theorem J_sld (C : Cx D dA A ad0 own cc nL p R s m args meth c) {b L : Nat} {xs : Nat → Int32} (hX : va_X b L xs s s.heap) (hbl : b < s.heap.size) (hbA : ¬ A b) (hb1 : ad0 1001 = b) {i : Int32} {j : Nat} (hij : i = nI j) (hj : j < L) (hL : L < 2 ^ 31) (hn1 : n ≤ 1000) (hd : decode cc pc = .ok (.iaload, 1)) (kk : J D dA A Φ ad0 n0 nL p l e R s m args below meth c Q (pc + 1) (lv) (.int (xs j) :: st) (h) n kc ks) : J D dA A Φ ad0 n0 nL p l e R s m args below meth c Q (pc) (lv) (.int i :: .ref 1001 :: st) (h) n kc ks := by
  intro ad H locs ls h0 hP hD hS hF hL2
  have h1 := kk ad H locs ls h0 hP hD hS hF hL2
  show W p l e R s m args below meth c H locs kc ks Q (F0 m pc ls (.int i :: .ref (ad 1001) :: st.map (zV ad)))
  rw [h0 1001 (Or.inr (by omega)), hb1]
  refine va_sld C.1 C.2.1 hX hbl hbA hS (by rw [hij]; exact vp_in_nI hj hL) hd ?_
  rw [hij, nI_clamp (by omega)]
  exact h1
theorem J_slen (C : Cx D dA A ad0 own cc nL p R s m args meth c) {b L : Nat} {xs : Nat → Int32} (hX : va_X b L xs s s.heap) (hbl : b < s.heap.size) (hbA : ¬ A b) (hb1 : ad0 1001 = b) (hn1 : n ≤ 1000) (hd : decode cc pc = .ok (.arraylength, 1)) (kk : J D dA A Φ ad0 n0 nL p l e R s m args below meth c Q (pc + 1) (lv) (.int (nI L) :: st) (h) n kc ks) : J D dA A Φ ad0 n0 nL p l e R s m args below meth c Q (pc) (lv) (.ref 1001 :: st) (h) n kc ks := by
  intro ad H locs ls h0 hP hD hS hF hL2
  have h1 := kk ad H locs ls h0 hP hD hS hF hL2
  show W p l e R s m args below meth c H locs kc ks Q (F0 m pc ls (.ref (ad 1001) :: st.map (zV ad)))
  rw [h0 1001 (Or.inr (by omega)), hb1]
  exact va_slen C.1 C.2.1 hX hbl hbA hS hd h1
theorem W_callS (C : Cx D dA A ad0 own cc nL p R s m args meth c) {k : zK} {hs : List (Nat × Nat × Nat × Nat)} {idx d np : Nat} {as : List Value} {P : Option Value → Mem → Prop} (hM : CMw l D dA k hs d as M P) (hlk : Cond.methodLink own idx k.1 ∈ tb) (hcw : Cond.codeWith k.1 k.2.1 k.2.2.1 k.2.2.2 hs ∈ tb) (hini : Cond.initialized k.1.cls ∈ tb) (hy : k.1.cls ≠ "java/lang/invoke/MethodHandle" ∧ k.1.cls ≠ "java/lang/invoke/VarHandle") (hpar : (parseMethodDescriptor k.1.desc).map (fun d => d.parameters.length) = some np) (hv : Cond.static k.1 ∈ tb) (hn : as.length = np) (hR : d + 11 ≤ R.frames ∧ k.2.2.1 + 319 + 60 * d ≤ R.locals) (hcap : kc + 1 ≤ R.cells ∧ ks + 6 ≤ R.slots) (hst : zCat st ≤ 8) (hd : decode cc pc = .ok (.invokestatic idx, 3)) (hΦ : ∀ H locs, Φ H locs := by intros; trivial)
    (kk : ∀ v M', P v M' → J D dA A Φ ad0 n0 nL p l e R s m args below meth c Q (pc + 3) (lv) (v.toList ++ st) (E M') 90 (kc + 1) (ks + 6)) : J D dA A Φ ad0 n0 nL p l e R s m args below meth c Q (pc) (lv) (as.reverse ++ st) (E M) 90 kc ks :=
  J_callSw C hM hlk hcw hini hy hpar hv hn (by decide) hR hcap hst (fun v h' n' q => q.1) hd hΦ (fun v h' q => by obtain ⟨_, M', rfl, hP⟩ := q; exact kk v M' hP)
end ZLL
theorem J_lawret {D : va_G} {dA : Nat → ClassId} {A : Nat → Prop} {ad0 : Nat → Nat} {n0 n kc ks b : Nat} {p : Program} {l : Launch} {e : Env} {s : State} {m : MethodId} {below : List Frame} {meth : Method} {c : Code} {pc : Nat} {lv : List (Option Value)} {h : Nat → va_E} (C : Cx D dA A ad0 "RelayOrbiterLaw" code 7 p room_1 s m #[Value.ref b] meth c) (hr : meth.sig.returnType = ret) (hA : ∀ q, A q → s.heap.size ≤ q) (hk : kc ≤ 601024) (hks : ks ≤ 7293034) (hd : decode code pc = .ok (.ireturn, 1)) : J D dA A (fun _ _ => True) ad0 n0 7 p l e room_1 s m #[Value.ref b] below meth c (lw_Z below #[Value.ref b] s) pc lv [.int (nI 1)] h n kc ks := by
  intro ad H locs ls h0 hP hD hS hF hL
  refine va_forget (fun q hq => hA _ (hS.2.2 q hq)) ?_
  exact W.widen hk hks (lw_ret C.1 C.2.1 hr C.2.2.2.2.2.2.2.1 hd)
theorem lg_self (x : Int64) : lg_cmp x x = nI 0 := by
  unfold lg_cmp
  rw [if_neg (by simp), if_pos rfl]
  rfl
theorem hcp (a b : Nat) (h1 : a ≤ 601024) (h2 : b ≤ 7293034) : a ≤ room_1.cells ∧ b ≤ room_1.slots := ⟨h1, h2⟩
theorem law_cmp {L t : Nat} (hL : L ≤ 2560) (ht : 5 * t ≤ L) : (nI L - nI 5 < nI (5 * t)) ↔ L < 5 * t + 5 := by
  rw [Int32.lt_iff_toInt_lt, nI_toInt (by omega), Int32.toInt_sub, nI_toInt (by omega), nI_toInt (by omega)]
  rw [Int.bmod_eq_of_le (by omega) (by omega)]
  omega
theorem mg_of {A X : Mem} (h : ∀ p, 76 ≤ p → p < 89 → A p = X p) : A = mg A X := by
  funext p
  by_cases z : p < 76 ∨ 89 ≤ p
  · rw [mg_lo _ _ z]
  · rw [mg_hi _ _ (by omega), h p (by omega) (by omega)]
theorem powC_hi (A : Mem) {q : Nat → Nat} (c0 : Nat) (hq : ∀ k, k < 24 → q k < 24) (hc : c0 ≤ 24) {p : Nat} (hp : 70 ≤ p) : fPowC A q c0 p = A p := by
  unfold fPowC
  rw [mu_p _ _ _ (by omega), fFS_hi _ (by omega), mu_p _ _ _ (by omega), fRst_n _ _ _ (fun i hi => by have := hq i (by omega); omega), mu_p _ _ _ (by omega), mu_p _ _ _ (by omega)]
set_option maxHeartbeats 4000000 in
set_option maxRecDepth 100000 in
theorem lc_window {D : va_G} {dA : Nat → ClassId} {A : Nat → Prop} {ad0 : Nat → Nat} {b L : Nat} {xs : Nat → Int32} {p : Program} {l : Launch} {e : Env} {s : State} {m : MethodId} {below : List Frame} {meth : Method} {c : Code} (hfl : l.flags = pinnedFlags ++ [noTraceFlag]) (C : Cx D dA A ad0 "RelayOrbiterLaw" code 7 p room_1 s m #[Value.ref b] meth c) (hr : meth.sig.returnType = ret) (hA : ∀ q, A q → s.heap.size ≤ q) (hX : va_X b L xs s s.heap) (hbl : b < s.heap.size) (hbA : ¬ A b) (hb1 : ad0 1001 = b) (hL : L ≤ 2560) (kA sA : Nat) (hkA : kA ≤ 1000) (hsA : sA ≤ 100000) (t : Nat) (M : Mem) (hRel : Rel t M M) (ht : 5 * t + 5 ≤ L) (hloop : ∀ M1, Rel (t + 1) M1 M1 → J D dA A (fun _ _ => True) ad0 90 7 p l e room_1 s m #[Value.ref b] below meth c (lw_Z below #[Value.ref b] s) 773 [some (.ref 1001), some (.ref 0), some (.ref 76), some (.ref 89), some (.int (nI (5 * t))), none, none] [] (E M1) 90 (kA + t + 1) (sA + 6 * t + 6)) : J D dA A (fun _ _ => True) ad0 90 7 p l e room_1 s m #[Value.ref b] below meth c (lw_Z below #[Value.ref b] s) 104 [some (.ref 1001), some (.ref 0), some (.ref 76), some (.ref 89), some (.int (nI (5 * t))), none, none] [] (E M) 90 (kA + t) (sA + 6 * t) := by
  refine J_aload_n C 1 d_Law_law_104 rfl rfl ?_
  refine J_aload_n C 0 d_Law_law_105 rfl rfl ?_
  refine J_iload C d_Law_law_106 rfl ?_
  refine J_iconst C d_Law_law_108 (v := nI 1) rfl ?_
  refine J_iaddN C d_Law_law_109 ?_
  refine J_sld C hX hbl hbA hb1 (j := (5 * t) + 1) rfl (by omega) (by omega) (by decide) d_Law_law_110 ?_
  refine J_aload_n C 0 d_Law_law_111 rfl rfl ?_
  refine J_iload C d_Law_law_112 rfl ?_
  refine J_iconst C d_Law_law_114 (v := nI 2) rfl ?_
  refine J_iaddN C d_Law_law_115 ?_
  refine J_sld C hX hbl hbA hb1 (j := (5 * t) + 2) rfl (by omega) (by omega) (by decide) d_Law_law_116 ?_
  refine J_aload_n C 0 d_Law_law_117 rfl rfl ?_
  refine J_iload C d_Law_law_118 rfl ?_
  refine J_iconst C d_Law_law_120 (v := nI 3) rfl ?_
  refine J_iaddN C d_Law_law_121 ?_
  refine J_sld C hX hbl hbA hb1 (j := (5 * t) + 3) rfl (by omega) (by omega) (by decide) d_Law_law_122 ?_
  refine J_aload_n C 0 d_Law_law_123 rfl rfl ?_
  refine J_iload C d_Law_law_124 rfl ?_
  refine J_iconst C d_Law_law_126 (v := nI 4) rfl ?_
  refine J_iaddN C d_Law_law_127 ?_
  refine J_sld C hX hbl hbA hb1 (j := (5 * t) + 4) rfl (by omega) (by omega) (by decide) d_Law_law_128 ?_
  refine W_callS C (np := 5) (as := [.ref 0, .int (xs ((5 * t) + 1)), .int (xs ((5 * t) + 2)), .int (xs ((5 * t) + 3)), .int (xs ((5 * t) + 4))]) (st := []) (w_window l D dA hfl M t (xs ((5 * t) + 1)) (xs ((5 * t) + 2)) (xs ((5 * t) + 3)) (xs ((5 * t) + 4)) hRel (by omega)) (tb_in 368 (by decide +kernel) (by decide +kernel)) (tb_in 370 (by decide +kernel) (by decide +kernel)) (tb_in 44 (by decide +kernel) (by decide +kernel)) ⟨by decide, by decide⟩ (by decide +kernel) (tb_in 369 (by decide +kernel) (by decide +kernel)) rfl (by decide) (hcp _ _ (by omega) (by omega)) (Nat.le_of_ble_eq_true rfl) d_Law_law_129 (kk := ?_)
  intro v M1 hP
  obtain ⟨hm1, kk, Y, rfl, hk4, hRO, hY0, hRel2⟩ := hP
  refine J_mem (M2 := mg M1 M) (mg_of hm1) ?_
  refine J_istore C d_Law_law_132 (by decide) rfl ?_
  refine J_aload_n C 2 d_Law_law_134 rfl rfl ?_
  refine J_aload_n C 0 d_Law_law_135 rfl rfl ?_
  refine J_iload C d_Law_law_136 rfl ?_
  refine J_iconst C d_Law_law_138 (v := nI 1) rfl ?_
  refine J_iaddN C d_Law_law_139 ?_
  refine J_sld C hX hbl hbA hb1 (j := (5 * t) + 1) rfl (by omega) (by omega) (by decide) d_Law_law_140 ?_
  refine J_aload_n C 0 d_Law_law_141 rfl rfl ?_
  refine J_iload C d_Law_law_142 rfl ?_
  refine J_iconst C d_Law_law_144 (v := nI 2) rfl ?_
  refine J_iaddN C d_Law_law_145 ?_
  refine J_sld C hX hbl hbA hb1 (j := (5 * t) + 2) rfl (by omega) (by omega) (by decide) d_Law_law_146 ?_
  refine J_aload_n C 0 d_Law_law_147 rfl rfl ?_
  refine J_iload C d_Law_law_148 rfl ?_
  refine J_iconst C d_Law_law_150 (v := nI 3) rfl ?_
  refine J_iaddN C d_Law_law_151 ?_
  refine J_sld C hX hbl hbA hb1 (j := (5 * t) + 3) rfl (by omega) (by omega) (by decide) d_Law_law_152 ?_
  refine J_aload_n C 0 d_Law_law_153 rfl rfl ?_
  refine J_iload C d_Law_law_154 rfl ?_
  refine J_iconst C d_Law_law_156 (v := nI 4) rfl ?_
  refine J_iaddN C d_Law_law_157 ?_
  refine J_sld C hX hbl hbA hb1 (j := (5 * t) + 4) rfl (by omega) (by omega) (by decide) d_Law_law_158 ?_
  refine F_callV C (as := [.int (xs ((5 * t) + 1)), .int (xs ((5 * t) + 2)), .int (xs ((5 * t) + 3)), .int (xs ((5 * t) + 4))]) (st := []) (hRO M1) l_Law_65 v_Mod_window (by decide) (e_76 _) rfl (by decide) (hcp _ _ (by omega) (by omega)) (Nat.le_of_ble_eq_true rfl) d_Law_law_159 (kk := ?_)
  refine J_aload_n C 2 d_Law_law_162 rfl rfl ?_
  refine P_callV C (as := []) (st := []) (pm_thrown l D dA (mg M1 Y)) l_Law_66 v_Mod_thrown (by decide) (e_76 _) rfl (by decide) (by decide) (hcp _ _ (by omega) (by omega)) (Nat.le_of_ble_eq_true rfl) d_Law_law_163 (kk := ?_)
  refine J_val (y := nI kk) (show mg M1 Y 76 0 = nI kk from hY0) ?_
  refine J_iload C d_Law_law_166 rfl ?_
  refine J_icmpN_eq C 173 d_Law_law_168 (by decide) (by omega) (by omega) (fun hc168 => ?_) (fun hc168 => absurd rfl hc168)
  refine J_goto C 773 d_Law_law_173 (by decide) ?_
  refine J_lv (lv' := [some (.ref 1001), some (.ref 0), some (.ref 76), some (.ref 89), some (.int (nI (5 * t))), none, none]) (by intro i v hv; match i, hv with | 0, hv => exact hv | 1, hv => exact hv | 2, hv => exact hv | 3, hv => exact hv | 4, hv => exact hv | 5, hv => simp at hv | 6, hv => simp at hv | _ + 7, hv => simp at hv) ?_
  exact hloop _ ((hRel2.mono (Nat.le_succ t)).mg1)

set_option maxHeartbeats 4000000 in
set_option maxRecDepth 100000 in
theorem lc_minute {D : va_G} {dA : Nat → ClassId} {A : Nat → Prop} {ad0 : Nat → Nat} {b L : Nat} {xs : Nat → Int32} {p : Program} {l : Launch} {e : Env} {s : State} {m : MethodId} {below : List Frame} {meth : Method} {c : Code} (hfl : l.flags = pinnedFlags ++ [noTraceFlag]) (C : Cx D dA A ad0 "RelayOrbiterLaw" code 7 p room_1 s m #[Value.ref b] meth c) (hr : meth.sig.returnType = ret) (hA : ∀ q, A q → s.heap.size ≤ q) (hX : va_X b L xs s s.heap) (hbl : b < s.heap.size) (hbA : ¬ A b) (hb1 : ad0 1001 = b) (hL : L ≤ 2560) (kA sA : Nat) (hkA : kA ≤ 1000) (hsA : sA ≤ 100000) (t : Nat) (M : Mem) (hRel : Rel t M M) (ht : 5 * t + 5 ≤ L) (hloop : ∀ M1, Rel (t + 1) M1 M1 → J D dA A (fun _ _ => True) ad0 90 7 p l e room_1 s m #[Value.ref b] below meth c (lw_Z below #[Value.ref b] s) 773 [some (.ref 1001), some (.ref 0), some (.ref 76), some (.ref 89), some (.int (nI (5 * t))), none, none] [] (E M1) 90 (kA + t + 1) (sA + 6 * t + 6)) : J D dA A (fun _ _ => True) ad0 90 7 p l e room_1 s m #[Value.ref b] below meth c (lw_Z below #[Value.ref b] s) 176 [some (.ref 1001), some (.ref 0), some (.ref 76), some (.ref 89), some (.int (nI (5 * t))), none, none] [] (E M) 90 (kA + t) (sA + 6 * t) := by
  refine J_aload_n C 1 d_Law_law_176 rfl rfl ?_
  refine J_aload_n C 0 d_Law_law_177 rfl rfl ?_
  refine J_iload C d_Law_law_178 rfl ?_
  refine J_iconst C d_Law_law_180 (v := nI 1) rfl ?_
  refine J_iaddN C d_Law_law_181 ?_
  refine J_sld C hX hbl hbA hb1 (j := (5 * t) + 1) rfl (by omega) (by omega) (by decide) d_Law_law_182 ?_
  refine J_aload_n C 3 d_Law_law_183 rfl rfl ?_
  refine W_callS C (np := 3) (as := [.ref 0, .int (xs ((5 * t) + 1)), .ref 89]) (st := []) (w_minute l D dA hfl M t (xs ((5 * t) + 1)) hRel (by omega)) (tb_in 453 (by decide +kernel) (by decide +kernel)) (tb_in 455 (by decide +kernel) (by decide +kernel)) (tb_in 44 (by decide +kernel) (by decide +kernel)) ⟨by decide, by decide⟩ (by decide +kernel) (tb_in 454 (by decide +kernel) (by decide +kernel)) rfl (by decide) (hcp _ _ (by omega) (by omega)) (Nat.le_of_ble_eq_true rfl) d_Law_law_184 (kk := ?_)
  intro v M1 hP
  obtain ⟨hm1, kk, Y, b9, rfl, hk4, hRO, hY0, hRel2, h89⟩ := hP
  refine J_mem (M2 := mg M1 M) (mg_of hm1) ?_
  refine J_istore C d_Law_law_187 (by decide) rfl ?_
  refine J_aload_n C 2 d_Law_law_189 rfl rfl ?_
  refine J_aload_n C 0 d_Law_law_190 rfl rfl ?_
  refine J_iload C d_Law_law_191 rfl ?_
  refine J_iconst C d_Law_law_193 (v := nI 1) rfl ?_
  refine J_iaddN C d_Law_law_194 ?_
  refine J_sld C hX hbl hbA hb1 (j := (5 * t) + 1) rfl (by omega) (by omega) (by decide) d_Law_law_195 ?_
  refine F_callV C (as := [.int (xs ((5 * t) + 1))]) (st := []) (hRO M1) l_Law_72 v_Mod_minute (by decide) (e_76 _) rfl (by decide) (hcp _ _ (by omega) (by omega)) (Nat.le_of_ble_eq_true rfl) d_Law_law_196 (kk := ?_)
  refine J_istore C d_Law_law_199 (by decide) rfl ?_
  refine J_aload_n C 2 d_Law_law_201 rfl rfl ?_
  refine P_callV C (as := []) (st := []) (pm_thrown l D dA (mg M1 Y)) l_Law_66 v_Mod_thrown (by decide) (e_76 _) rfl (by decide) (by decide) (hcp _ _ (by omega) (by omega)) (Nat.le_of_ble_eq_true rfl) d_Law_law_202 (kk := ?_)
  refine J_val (y := nI kk) (show mg M1 Y 76 0 = nI kk from hY0) ?_
  refine J_iload C d_Law_law_205 rfl ?_
  refine J_icmpN_eq C 212 d_Law_law_207 (by decide) (by omega) (by omega) (fun hc207 => ?_) (fun hc207 => absurd rfl hc207)
  refine J_iload C d_Law_law_212 rfl ?_
  refine J_ifN_ne C 229 d_Law_law_214 (by decide) (by omega) (fun hc214 => ?_) (fun hc214 => ?_)
  · refine J_goto C 773 d_Law_law_229 (by decide) ?_
    refine J_lv (lv' := [some (.ref 1001), some (.ref 0), some (.ref 76), some (.ref 89), some (.int (nI (5 * t))), none, none]) (by intro i v hv; match i, hv with | 0, hv => exact hv | 1, hv => exact hv | 2, hv => exact hv | 3, hv => exact hv | 4, hv => exact hv | 5, hv => simp at hv | 6, hv => simp at hv | _ + 7, hv => simp at hv) ?_
    exact hloop _ ((hRel2.mono (Nat.le_succ t)).mg1)
  · refine J_aload_n C 3 d_Law_law_217 rfl rfl ?_
    refine J_iconst C d_Law_law_218 (v := nI 0) rfl ?_
    refine K_lld C rfl d_Law_law_219 ?_
    refine J_iload C d_Law_law_220 rfl ?_
    refine J_i2l C d_Law_law_222 ?_
    refine J_lcmp C d_Law_law_223 ?_
    refine J_val (y := nI 0) (by rw [show mg M1 Y 89 0 = b9 from (show M1 89 0 = b9 from h89 (by omega))]; exact lg_self _) ?_
    refine J_ifN_eq C 229 d_Law_law_224 (by decide) (by omega) (fun hc224 => ?_) (fun hc224 => absurd hc224 (by decide))
    refine J_goto C 773 d_Law_law_229 (by decide) ?_
    refine J_lv (lv' := [some (.ref 1001), some (.ref 0), some (.ref 76), some (.ref 89), some (.int (nI (5 * t))), none, none]) (by intro i v hv; match i, hv with | 0, hv => exact hv | 1, hv => exact hv | 2, hv => exact hv | 3, hv => exact hv | 4, hv => exact hv | 5, hv => simp at hv | 6, hv => simp at hv | _ + 7, hv => simp at hv) ?_
    exact hloop _ ((hRel2.mono (Nat.le_succ t)).mg1)

set_option maxHeartbeats 4000000 in
set_option maxRecDepth 100000 in
theorem lc_seen {D : va_G} {dA : Nat → ClassId} {A : Nat → Prop} {ad0 : Nat → Nat} {b L : Nat} {xs : Nat → Int32} {p : Program} {l : Launch} {e : Env} {s : State} {m : MethodId} {below : List Frame} {meth : Method} {c : Code} (hfl : l.flags = pinnedFlags ++ [noTraceFlag]) (C : Cx D dA A ad0 "RelayOrbiterLaw" code 7 p room_1 s m #[Value.ref b] meth c) (hr : meth.sig.returnType = ret) (hA : ∀ q, A q → s.heap.size ≤ q) (hX : va_X b L xs s s.heap) (hbl : b < s.heap.size) (hbA : ¬ A b) (hb1 : ad0 1001 = b) (hL : L ≤ 2560) (kA sA : Nat) (hkA : kA ≤ 1000) (hsA : sA ≤ 100000) (t : Nat) (M : Mem) (hRel : Rel t M M) (ht : 5 * t + 5 ≤ L) (hloop : ∀ M1, Rel (t + 1) M1 M1 → J D dA A (fun _ _ => True) ad0 90 7 p l e room_1 s m #[Value.ref b] below meth c (lw_Z below #[Value.ref b] s) 773 [some (.ref 1001), some (.ref 0), some (.ref 76), some (.ref 89), some (.int (nI (5 * t))), none, none] [] (E M1) 90 (kA + t + 1) (sA + 6 * t + 6)) : J D dA A (fun _ _ => True) ad0 90 7 p l e room_1 s m #[Value.ref b] below meth c (lw_Z below #[Value.ref b] s) 232 [some (.ref 1001), some (.ref 0), some (.ref 76), some (.ref 89), some (.int (nI (5 * t))), none, none] [] (E M) 90 (kA + t) (sA + 6 * t) := by
  refine J_aload_n C 1 d_Law_law_232 rfl rfl ?_
  refine J_aload_n C 0 d_Law_law_233 rfl rfl ?_
  refine J_iload C d_Law_law_234 rfl ?_
  refine J_iconst C d_Law_law_236 (v := nI 1) rfl ?_
  refine J_iaddN C d_Law_law_237 ?_
  refine J_sld C hX hbl hbA hb1 (j := (5 * t) + 1) rfl (by omega) (by omega) (by decide) d_Law_law_238 ?_
  refine J_aload_n C 3 d_Law_law_239 rfl rfl ?_
  refine W_callS C (np := 3) (as := [.ref 0, .int (xs ((5 * t) + 1)), .ref 89]) (st := []) (w_seen l D dA hfl M t (xs ((5 * t) + 1)) hRel (by omega)) (tb_in 460 (by decide +kernel) (by decide +kernel)) (tb_in 462 (by decide +kernel) (by decide +kernel)) (tb_in 44 (by decide +kernel) (by decide +kernel)) ⟨by decide, by decide⟩ (by decide +kernel) (tb_in 461 (by decide +kernel) (by decide +kernel)) rfl (by decide) (hcp _ _ (by omega) (by omega)) (Nat.le_of_ble_eq_true rfl) d_Law_law_240 (kk := ?_)
  intro v M1 hP
  obtain ⟨hm1, kk, Y, b9, rfl, hk4, hRO, hY0, hRel2, h89, hb01⟩ := hP
  refine J_mem (M2 := mg M1 M) (mg_of hm1) ?_
  refine J_istore C d_Law_law_243 (by decide) rfl ?_
  refine J_aload_n C 2 d_Law_law_245 rfl rfl ?_
  refine J_aload_n C 0 d_Law_law_246 rfl rfl ?_
  refine J_iload C d_Law_law_247 rfl ?_
  refine J_iconst C d_Law_law_249 (v := nI 1) rfl ?_
  refine J_iaddN C d_Law_law_250 ?_
  refine J_sld C hX hbl hbA hb1 (j := (5 * t) + 1) rfl (by omega) (by omega) (by decide) d_Law_law_251 ?_
  refine F_callV C (as := [.int (xs ((5 * t) + 1))]) (st := []) (hRO M1) l_Law_75 v_Mod_seen (by decide) (e_76 _) rfl (by decide) (hcp _ _ (by omega) (by omega)) (Nat.le_of_ble_eq_true rfl) d_Law_law_252 (kk := ?_)
  refine J_istore C d_Law_law_255 (by decide) rfl ?_
  refine J_aload_n C 2 d_Law_law_257 rfl rfl ?_
  refine P_callV C (as := []) (st := []) (pm_thrown l D dA (mg M1 Y)) l_Law_66 v_Mod_thrown (by decide) (e_76 _) rfl (by decide) (by decide) (hcp _ _ (by omega) (by omega)) (Nat.le_of_ble_eq_true rfl) d_Law_law_258 (kk := ?_)
  refine J_val (y := nI kk) (show mg M1 Y 76 0 = nI kk from hY0) ?_
  refine J_iload C d_Law_law_261 rfl ?_
  refine J_icmpN_eq C 268 d_Law_law_263 (by decide) (by omega) (by omega) (fun hc263 => ?_) (fun hc263 => absurd rfl hc263)
  refine J_iload C d_Law_law_268 rfl ?_
  refine J_ifN_ne C 292 d_Law_law_270 (by decide) (by omega) (fun hc270 => ?_) (fun hc270 => ?_)
  · refine J_goto C 773 d_Law_law_292 (by decide) ?_
    refine J_lv (lv' := [some (.ref 1001), some (.ref 0), some (.ref 76), some (.ref 89), some (.int (nI (5 * t))), none, none]) (by intro i v hv; match i, hv with | 0, hv => exact hv | 1, hv => exact hv | 2, hv => exact hv | 3, hv => exact hv | 4, hv => exact hv | 5, hv => simp at hv | 6, hv => simp at hv | _ + 7, hv => simp at hv) ?_
    exact hloop _ ((hRel2.mono (Nat.le_succ t)).mg1)
  · refine J_aload_n C 3 d_Law_law_273 rfl rfl ?_
    refine J_iconst C d_Law_law_274 (v := nI 0) rfl ?_
    refine K_lld C rfl d_Law_law_275 ?_
    refine J_iload C d_Law_law_276 rfl ?_
    refine J_if_eq C 285 d_Law_law_278 (by decide) (fun hc278 => ?_) (fun hc278 => ?_)
    · have hcz := hc278
      refine J_lconst C d_Law_law_285 (v := 0) rfl ?_
      refine J_lcmp C d_Law_law_286 ?_
      refine J_val (y := nI 0) (by rw [show mg M1 Y 89 0 = nI 0 from (show M1 89 0 = nI 0 by rw [h89 (by omega)]; exact hcz)]; exact lg_self _) ?_
      refine J_ifN_eq C 292 d_Law_law_287 (by decide) (by omega) (fun hc287 => ?_) (fun hc287 => absurd hc287 (by decide))
      refine J_goto C 773 d_Law_law_292 (by decide) ?_
      refine J_lv (lv' := [some (.ref 1001), some (.ref 0), some (.ref 76), some (.ref 89), some (.int (nI (5 * t))), none, none]) (by intro i v hv; match i, hv with | 0, hv => exact hv | 1, hv => exact hv | 2, hv => exact hv | 3, hv => exact hv | 4, hv => exact hv | 5, hv => simp at hv | 6, hv => simp at hv | _ + 7, hv => simp at hv) ?_
      exact hloop _ ((hRel2.mono (Nat.le_succ t)).mg1)
    · have hcz := hc278
      refine J_lconst C d_Law_law_281 (v := 1) rfl ?_
      refine J_goto C 286 d_Law_law_282 (by decide) ?_
      refine J_lcmp C d_Law_law_286 ?_
      refine J_val (y := nI 0) (by rw [show mg M1 Y 89 0 = nI 1 from (show M1 89 0 = nI 1 by rw [h89 (by omega)]; exact (by rcases hb01 with w | w; (exact absurd w hcz); (exact w)))]; exact lg_self _) ?_
      refine J_ifN_eq C 292 d_Law_law_287 (by decide) (by omega) (fun hc287 => ?_) (fun hc287 => absurd hc287 (by decide))
      refine J_goto C 773 d_Law_law_292 (by decide) ?_
      refine J_lv (lv' := [some (.ref 1001), some (.ref 0), some (.ref 76), some (.ref 89), some (.int (nI (5 * t))), none, none]) (by intro i v hv; match i, hv with | 0, hv => exact hv | 1, hv => exact hv | 2, hv => exact hv | 3, hv => exact hv | 4, hv => exact hv | 5, hv => simp at hv | 6, hv => simp at hv | _ + 7, hv => simp at hv) ?_
      exact hloop _ ((hRel2.mono (Nat.le_succ t)).mg1)

set_option maxHeartbeats 4000000 in
set_option maxRecDepth 100000 in
theorem lc_receive {D : va_G} {dA : Nat → ClassId} {A : Nat → Prop} {ad0 : Nat → Nat} {b L : Nat} {xs : Nat → Int32} {p : Program} {l : Launch} {e : Env} {s : State} {m : MethodId} {below : List Frame} {meth : Method} {c : Code} (hfl : l.flags = pinnedFlags ++ [noTraceFlag]) (C : Cx D dA A ad0 "RelayOrbiterLaw" code 7 p room_1 s m #[Value.ref b] meth c) (hr : meth.sig.returnType = ret) (hA : ∀ q, A q → s.heap.size ≤ q) (hX : va_X b L xs s s.heap) (hbl : b < s.heap.size) (hbA : ¬ A b) (hb1 : ad0 1001 = b) (hL : L ≤ 2560) (kA sA : Nat) (hkA : kA ≤ 1000) (hsA : sA ≤ 100000) (t : Nat) (M : Mem) (hRel : Rel t M M) (ht : 5 * t + 5 ≤ L) (hloop : ∀ M1, Rel (t + 1) M1 M1 → J D dA A (fun _ _ => True) ad0 90 7 p l e room_1 s m #[Value.ref b] below meth c (lw_Z below #[Value.ref b] s) 773 [some (.ref 1001), some (.ref 0), some (.ref 76), some (.ref 89), some (.int (nI (5 * t))), none, none] [] (E M1) 90 (kA + t + 1) (sA + 6 * t + 6)) : J D dA A (fun _ _ => True) ad0 90 7 p l e room_1 s m #[Value.ref b] below meth c (lw_Z below #[Value.ref b] s) 295 [some (.ref 1001), some (.ref 0), some (.ref 76), some (.ref 89), some (.int (nI (5 * t))), none, none] [] (E M) 90 (kA + t) (sA + 6 * t) := by
  refine J_aload_n C 1 d_Law_law_295 rfl rfl ?_
  refine J_aload_n C 0 d_Law_law_296 rfl rfl ?_
  refine J_iload C d_Law_law_297 rfl ?_
  refine J_iconst C d_Law_law_299 (v := nI 1) rfl ?_
  refine J_iaddN C d_Law_law_300 ?_
  refine J_sld C hX hbl hbA hb1 (j := (5 * t) + 1) rfl (by omega) (by omega) (by decide) d_Law_law_301 ?_
  refine J_aload_n C 0 d_Law_law_302 rfl rfl ?_
  refine J_iload C d_Law_law_303 rfl ?_
  refine J_iconst C d_Law_law_305 (v := nI 2) rfl ?_
  refine J_iaddN C d_Law_law_306 ?_
  refine J_sld C hX hbl hbA hb1 (j := (5 * t) + 2) rfl (by omega) (by omega) (by decide) d_Law_law_307 ?_
  refine J_aload_n C 3 d_Law_law_308 rfl rfl ?_
  refine W_callS C (np := 4) (as := [.ref 0, .int (xs ((5 * t) + 1)), .int (xs ((5 * t) + 2)), .ref 89]) (st := []) (w_receive l D dA hfl M t (xs ((5 * t) + 1)) (xs ((5 * t) + 2)) hRel (by omega)) (tb_in 471 (by decide +kernel) (by decide +kernel)) (tb_in 473 (by decide +kernel) (by decide +kernel)) (tb_in 44 (by decide +kernel) (by decide +kernel)) ⟨by decide, by decide⟩ (by decide +kernel) (tb_in 472 (by decide +kernel) (by decide +kernel)) rfl (by decide) (hcp _ _ (by omega) (by omega)) (Nat.le_of_ble_eq_true rfl) d_Law_law_309 (kk := ?_)
  intro v M1 hP
  obtain ⟨hm1, kk, Y, b9, rfl, hk4, hRO, hY0, hRel2, h89⟩ := hP
  refine J_mem (M2 := mg M1 M) (mg_of hm1) ?_
  refine J_istore C d_Law_law_312 (by decide) rfl ?_
  refine J_aload_n C 2 d_Law_law_314 rfl rfl ?_
  refine J_aload_n C 0 d_Law_law_315 rfl rfl ?_
  refine J_iload C d_Law_law_316 rfl ?_
  refine J_iconst C d_Law_law_318 (v := nI 1) rfl ?_
  refine J_iaddN C d_Law_law_319 ?_
  refine J_sld C hX hbl hbA hb1 (j := (5 * t) + 1) rfl (by omega) (by omega) (by decide) d_Law_law_320 ?_
  refine J_aload_n C 0 d_Law_law_321 rfl rfl ?_
  refine J_iload C d_Law_law_322 rfl ?_
  refine J_iconst C d_Law_law_324 (v := nI 2) rfl ?_
  refine J_iaddN C d_Law_law_325 ?_
  refine J_sld C hX hbl hbA hb1 (j := (5 * t) + 2) rfl (by omega) (by omega) (by decide) d_Law_law_326 ?_
  refine F_callV C (as := [.int (xs ((5 * t) + 1)), .int (xs ((5 * t) + 2))]) (st := []) (hRO M1) l_Law_79 v_Mod_receive (by decide) (e_76 _) rfl (by decide) (hcp _ _ (by omega) (by omega)) (Nat.le_of_ble_eq_true rfl) d_Law_law_327 (kk := ?_)
  refine J_istore C d_Law_law_330 (by decide) rfl ?_
  refine J_aload_n C 2 d_Law_law_332 rfl rfl ?_
  refine P_callV C (as := []) (st := []) (pm_thrown l D dA (mg M1 Y)) l_Law_66 v_Mod_thrown (by decide) (e_76 _) rfl (by decide) (by decide) (hcp _ _ (by omega) (by omega)) (Nat.le_of_ble_eq_true rfl) d_Law_law_333 (kk := ?_)
  refine J_val (y := nI kk) (show mg M1 Y 76 0 = nI kk from hY0) ?_
  refine J_iload C d_Law_law_336 rfl ?_
  refine J_icmpN_eq C 343 d_Law_law_338 (by decide) (by omega) (by omega) (fun hc338 => ?_) (fun hc338 => absurd rfl hc338)
  refine J_iload C d_Law_law_343 rfl ?_
  refine J_ifN_ne C 360 d_Law_law_345 (by decide) (by omega) (fun hc345 => ?_) (fun hc345 => ?_)
  · refine J_goto C 773 d_Law_law_360 (by decide) ?_
    refine J_lv (lv' := [some (.ref 1001), some (.ref 0), some (.ref 76), some (.ref 89), some (.int (nI (5 * t))), none, none]) (by intro i v hv; match i, hv with | 0, hv => exact hv | 1, hv => exact hv | 2, hv => exact hv | 3, hv => exact hv | 4, hv => exact hv | 5, hv => simp at hv | 6, hv => simp at hv | _ + 7, hv => simp at hv) ?_
    exact hloop _ ((hRel2.mono (Nat.le_succ t)).mg1)
  · refine J_aload_n C 3 d_Law_law_348 rfl rfl ?_
    refine J_iconst C d_Law_law_349 (v := nI 0) rfl ?_
    refine K_lld C rfl d_Law_law_350 ?_
    refine J_iload C d_Law_law_351 rfl ?_
    refine J_i2l C d_Law_law_353 ?_
    refine J_lcmp C d_Law_law_354 ?_
    refine J_val (y := nI 0) (by rw [show mg M1 Y 89 0 = b9 from (show M1 89 0 = b9 from h89 (by omega))]; exact lg_self _) ?_
    refine J_ifN_eq C 360 d_Law_law_355 (by decide) (by omega) (fun hc355 => ?_) (fun hc355 => absurd hc355 (by decide))
    refine J_goto C 773 d_Law_law_360 (by decide) ?_
    refine J_lv (lv' := [some (.ref 1001), some (.ref 0), some (.ref 76), some (.ref 89), some (.int (nI (5 * t))), none, none]) (by intro i v hv; match i, hv with | 0, hv => exact hv | 1, hv => exact hv | 2, hv => exact hv | 3, hv => exact hv | 4, hv => exact hv | 5, hv => simp at hv | 6, hv => simp at hv | _ + 7, hv => simp at hv) ?_
    exact hloop _ ((hRel2.mono (Nat.le_succ t)).mg1)

set_option maxHeartbeats 4000000 in
set_option maxRecDepth 100000 in
theorem lc_report {D : va_G} {dA : Nat → ClassId} {A : Nat → Prop} {ad0 : Nat → Nat} {b L : Nat} {xs : Nat → Int32} {p : Program} {l : Launch} {e : Env} {s : State} {m : MethodId} {below : List Frame} {meth : Method} {c : Code} (hfl : l.flags = pinnedFlags ++ [noTraceFlag]) (C : Cx D dA A ad0 "RelayOrbiterLaw" code 7 p room_1 s m #[Value.ref b] meth c) (hr : meth.sig.returnType = ret) (hA : ∀ q, A q → s.heap.size ≤ q) (hX : va_X b L xs s s.heap) (hbl : b < s.heap.size) (hbA : ¬ A b) (hb1 : ad0 1001 = b) (hL : L ≤ 2560) (kA sA : Nat) (hkA : kA ≤ 1000) (hsA : sA ≤ 100000) (t : Nat) (M : Mem) (hRel : Rel t M M) (ht : 5 * t + 5 ≤ L) (hloop : ∀ M1, Rel (t + 1) M1 M1 → J D dA A (fun _ _ => True) ad0 90 7 p l e room_1 s m #[Value.ref b] below meth c (lw_Z below #[Value.ref b] s) 773 [some (.ref 1001), some (.ref 0), some (.ref 76), some (.ref 89), some (.int (nI (5 * t))), none, none] [] (E M1) 90 (kA + t + 1) (sA + 6 * t + 6)) : J D dA A (fun _ _ => True) ad0 90 7 p l e room_1 s m #[Value.ref b] below meth c (lw_Z below #[Value.ref b] s) 363 [some (.ref 1001), some (.ref 0), some (.ref 76), some (.ref 89), some (.int (nI (5 * t))), none, none] [] (E M) 90 (kA + t) (sA + 6 * t) := by
  refine J_aload_n C 1 d_Law_law_363 rfl rfl ?_
  refine J_aload_n C 3 d_Law_law_364 rfl rfl ?_
  refine W_callS C (np := 2) (as := [.ref 0, .ref 89]) (st := []) (w_report l D dA hfl M t  hRel (by omega)) (tb_in 682 (by decide +kernel) (by decide +kernel)) (tb_in 684 (by decide +kernel) (by decide +kernel)) (tb_in 44 (by decide +kernel) (by decide +kernel)) ⟨by decide, by decide⟩ (by decide +kernel) (tb_in 683 (by decide +kernel) (by decide +kernel)) rfl (by decide) (hcp _ _ (by omega) (by omega)) (Nat.le_of_ble_eq_true rfl) d_Law_law_365 (kk := ?_)
  intro v M1 hP
  obtain ⟨hm1, kk, Y, b9, rfl, hk4, hRO, hY0, hRel2, h89⟩ := hP
  refine J_mem (M2 := mg M1 M) (mg_of hm1) ?_
  refine J_istore C d_Law_law_368 (by decide) rfl ?_
  refine J_aload_n C 2 d_Law_law_370 rfl rfl ?_
  refine F_callV C (as := []) (st := []) (hRO M1) l_Law_83 v_Mod_report (by decide) (e_76 _) rfl (by decide) (hcp _ _ (by omega) (by omega)) (Nat.le_of_ble_eq_true rfl) d_Law_law_371 (kk := ?_)
  refine J_istore C d_Law_law_374 (by decide) rfl ?_
  refine J_aload_n C 2 d_Law_law_376 rfl rfl ?_
  refine P_callV C (as := []) (st := []) (pm_thrown l D dA (mg M1 Y)) l_Law_66 v_Mod_thrown (by decide) (e_76 _) rfl (by decide) (by decide) (hcp _ _ (by omega) (by omega)) (Nat.le_of_ble_eq_true rfl) d_Law_law_377 (kk := ?_)
  refine J_val (y := nI kk) (show mg M1 Y 76 0 = nI kk from hY0) ?_
  refine J_iload C d_Law_law_380 rfl ?_
  refine J_icmpN_eq C 387 d_Law_law_382 (by decide) (by omega) (by omega) (fun hc382 => ?_) (fun hc382 => absurd rfl hc382)
  refine J_iload C d_Law_law_387 rfl ?_
  refine J_ifN_ne C 404 d_Law_law_389 (by decide) (by omega) (fun hc389 => ?_) (fun hc389 => ?_)
  · refine J_goto C 773 d_Law_law_404 (by decide) ?_
    refine J_lv (lv' := [some (.ref 1001), some (.ref 0), some (.ref 76), some (.ref 89), some (.int (nI (5 * t))), none, none]) (by intro i v hv; match i, hv with | 0, hv => exact hv | 1, hv => exact hv | 2, hv => exact hv | 3, hv => exact hv | 4, hv => exact hv | 5, hv => simp at hv | 6, hv => simp at hv | _ + 7, hv => simp at hv) ?_
    exact hloop _ ((hRel2.mono (Nat.le_succ t)).mg1)
  · refine J_aload_n C 3 d_Law_law_392 rfl rfl ?_
    refine J_iconst C d_Law_law_393 (v := nI 0) rfl ?_
    refine K_lld C rfl d_Law_law_394 ?_
    refine J_iload C d_Law_law_395 rfl ?_
    refine J_i2l C d_Law_law_397 ?_
    refine J_lcmp C d_Law_law_398 ?_
    refine J_val (y := nI 0) (by rw [show mg M1 Y 89 0 = b9 from (show M1 89 0 = b9 from h89 (by omega))]; exact lg_self _) ?_
    refine J_ifN_eq C 404 d_Law_law_399 (by decide) (by omega) (fun hc399 => ?_) (fun hc399 => absurd hc399 (by decide))
    refine J_goto C 773 d_Law_law_404 (by decide) ?_
    refine J_lv (lv' := [some (.ref 1001), some (.ref 0), some (.ref 76), some (.ref 89), some (.int (nI (5 * t))), none, none]) (by intro i v hv; match i, hv with | 0, hv => exact hv | 1, hv => exact hv | 2, hv => exact hv | 3, hv => exact hv | 4, hv => exact hv | 5, hv => simp at hv | 6, hv => simp at hv | _ + 7, hv => simp at hv) ?_
    exact hloop _ ((hRel2.mono (Nat.le_succ t)).mg1)

set_option maxHeartbeats 4000000 in
set_option maxRecDepth 100000 in
theorem lc_send {D : va_G} {dA : Nat → ClassId} {A : Nat → Prop} {ad0 : Nat → Nat} {b L : Nat} {xs : Nat → Int32} {p : Program} {l : Launch} {e : Env} {s : State} {m : MethodId} {below : List Frame} {meth : Method} {c : Code} (hfl : l.flags = pinnedFlags ++ [noTraceFlag]) (C : Cx D dA A ad0 "RelayOrbiterLaw" code 7 p room_1 s m #[Value.ref b] meth c) (hr : meth.sig.returnType = ret) (hA : ∀ q, A q → s.heap.size ≤ q) (hX : va_X b L xs s s.heap) (hbl : b < s.heap.size) (hbA : ¬ A b) (hb1 : ad0 1001 = b) (hL : L ≤ 2560) (kA sA : Nat) (hkA : kA ≤ 1000) (hsA : sA ≤ 100000) (t : Nat) (M : Mem) (hRel : Rel t M M) (ht : 5 * t + 5 ≤ L) (hloop : ∀ M1, Rel (t + 1) M1 M1 → J D dA A (fun _ _ => True) ad0 90 7 p l e room_1 s m #[Value.ref b] below meth c (lw_Z below #[Value.ref b] s) 773 [some (.ref 1001), some (.ref 0), some (.ref 76), some (.ref 89), some (.int (nI (5 * t))), none, none] [] (E M1) 90 (kA + t + 1) (sA + 6 * t + 6)) : J D dA A (fun _ _ => True) ad0 90 7 p l e room_1 s m #[Value.ref b] below meth c (lw_Z below #[Value.ref b] s) 407 [some (.ref 1001), some (.ref 0), some (.ref 76), some (.ref 89), some (.int (nI (5 * t))), none, none] [] (E M) 90 (kA + t) (sA + 6 * t) := by
  refine J_aload_n C 1 d_Law_law_407 rfl rfl ?_
  refine J_aload_n C 0 d_Law_law_408 rfl rfl ?_
  refine J_iload C d_Law_law_409 rfl ?_
  refine J_iconst C d_Law_law_411 (v := nI 1) rfl ?_
  refine J_iaddN C d_Law_law_412 ?_
  refine J_sld C hX hbl hbA hb1 (j := (5 * t) + 1) rfl (by omega) (by omega) (by decide) d_Law_law_413 ?_
  refine J_aload_n C 3 d_Law_law_414 rfl rfl ?_
  refine W_callS C (np := 3) (as := [.ref 0, .int (xs ((5 * t) + 1)), .ref 89]) (st := []) (w_send l D dA hfl M t (xs ((5 * t) + 1)) hRel (by omega)) (tb_in 694 (by decide +kernel) (by decide +kernel)) (tb_in 696 (by decide +kernel) (by decide +kernel)) (tb_in 44 (by decide +kernel) (by decide +kernel)) ⟨by decide, by decide⟩ (by decide +kernel) (tb_in 695 (by decide +kernel) (by decide +kernel)) rfl (by decide) (hcp _ _ (by omega) (by omega)) (Nat.le_of_ble_eq_true rfl) d_Law_law_415 (kk := ?_)
  intro v M1 hP
  obtain ⟨hm1, kk, Y, b9, rfl, hk4, hRO, hY0, hRel2, h89⟩ := hP
  refine J_mem (M2 := mg M1 M) (mg_of hm1) ?_
  refine J_istore C d_Law_law_418 (by decide) rfl ?_
  refine J_aload_n C 2 d_Law_law_420 rfl rfl ?_
  refine J_aload_n C 0 d_Law_law_421 rfl rfl ?_
  refine J_iload C d_Law_law_422 rfl ?_
  refine J_iconst C d_Law_law_424 (v := nI 1) rfl ?_
  refine J_iaddN C d_Law_law_425 ?_
  refine J_sld C hX hbl hbA hb1 (j := (5 * t) + 1) rfl (by omega) (by omega) (by decide) d_Law_law_426 ?_
  refine F_callV C (as := [.int (xs ((5 * t) + 1))]) (st := []) (hRO M1) l_Law_86 v_Mod_send (by decide) (e_76 _) rfl (by decide) (hcp _ _ (by omega) (by omega)) (Nat.le_of_ble_eq_true rfl) d_Law_law_427 (kk := ?_)
  refine J_istore C d_Law_law_430 (by decide) rfl ?_
  refine J_aload_n C 2 d_Law_law_432 rfl rfl ?_
  refine P_callV C (as := []) (st := []) (pm_thrown l D dA (mg M1 Y)) l_Law_66 v_Mod_thrown (by decide) (e_76 _) rfl (by decide) (by decide) (hcp _ _ (by omega) (by omega)) (Nat.le_of_ble_eq_true rfl) d_Law_law_433 (kk := ?_)
  refine J_val (y := nI kk) (show mg M1 Y 76 0 = nI kk from hY0) ?_
  refine J_iload C d_Law_law_436 rfl ?_
  refine J_icmpN_eq C 443 d_Law_law_438 (by decide) (by omega) (by omega) (fun hc438 => ?_) (fun hc438 => absurd rfl hc438)
  refine J_iload C d_Law_law_443 rfl ?_
  refine J_ifN_ne C 460 d_Law_law_445 (by decide) (by omega) (fun hc445 => ?_) (fun hc445 => ?_)
  · refine J_goto C 773 d_Law_law_460 (by decide) ?_
    refine J_lv (lv' := [some (.ref 1001), some (.ref 0), some (.ref 76), some (.ref 89), some (.int (nI (5 * t))), none, none]) (by intro i v hv; match i, hv with | 0, hv => exact hv | 1, hv => exact hv | 2, hv => exact hv | 3, hv => exact hv | 4, hv => exact hv | 5, hv => simp at hv | 6, hv => simp at hv | _ + 7, hv => simp at hv) ?_
    exact hloop _ ((hRel2).mg1)
  · refine J_aload_n C 3 d_Law_law_448 rfl rfl ?_
    refine J_iconst C d_Law_law_449 (v := nI 0) rfl ?_
    refine K_lld C rfl d_Law_law_450 ?_
    refine J_iload C d_Law_law_451 rfl ?_
    refine J_i2l C d_Law_law_453 ?_
    refine J_lcmp C d_Law_law_454 ?_
    refine J_val (y := nI 0) (by rw [show mg M1 Y 89 0 = b9 from (show M1 89 0 = b9 from h89 (by omega))]; exact lg_self _) ?_
    refine J_ifN_eq C 460 d_Law_law_455 (by decide) (by omega) (fun hc455 => ?_) (fun hc455 => absurd hc455 (by decide))
    refine J_goto C 773 d_Law_law_460 (by decide) ?_
    refine J_lv (lv' := [some (.ref 1001), some (.ref 0), some (.ref 76), some (.ref 89), some (.int (nI (5 * t))), none, none]) (by intro i v hv; match i, hv with | 0, hv => exact hv | 1, hv => exact hv | 2, hv => exact hv | 3, hv => exact hv | 4, hv => exact hv | 5, hv => simp at hv | 6, hv => simp at hv | _ + 7, hv => simp at hv) ?_
    exact hloop _ ((hRel2).mg1)

set_option maxHeartbeats 4000000 in
set_option maxRecDepth 100000 in
theorem lc_sent {D : va_G} {dA : Nat → ClassId} {A : Nat → Prop} {ad0 : Nat → Nat} {b L : Nat} {xs : Nat → Int32} {p : Program} {l : Launch} {e : Env} {s : State} {m : MethodId} {below : List Frame} {meth : Method} {c : Code} (hfl : l.flags = pinnedFlags ++ [noTraceFlag]) (C : Cx D dA A ad0 "RelayOrbiterLaw" code 7 p room_1 s m #[Value.ref b] meth c) (hr : meth.sig.returnType = ret) (hA : ∀ q, A q → s.heap.size ≤ q) (hX : va_X b L xs s s.heap) (hbl : b < s.heap.size) (hbA : ¬ A b) (hb1 : ad0 1001 = b) (hL : L ≤ 2560) (kA sA : Nat) (hkA : kA ≤ 1000) (hsA : sA ≤ 100000) (t : Nat) (M : Mem) (hRel : Rel t M M) (ht : 5 * t + 5 ≤ L) (hloop : ∀ M1, Rel (t + 1) M1 M1 → J D dA A (fun _ _ => True) ad0 90 7 p l e room_1 s m #[Value.ref b] below meth c (lw_Z below #[Value.ref b] s) 773 [some (.ref 1001), some (.ref 0), some (.ref 76), some (.ref 89), some (.int (nI (5 * t))), none, none] [] (E M1) 90 (kA + t + 1) (sA + 6 * t + 6)) : J D dA A (fun _ _ => True) ad0 90 7 p l e room_1 s m #[Value.ref b] below meth c (lw_Z below #[Value.ref b] s) 463 [some (.ref 1001), some (.ref 0), some (.ref 76), some (.ref 89), some (.int (nI (5 * t))), none, none] [] (E M) 90 (kA + t) (sA + 6 * t) := by
  refine J_aload_n C 1 d_Law_law_463 rfl rfl ?_
  refine J_aload_n C 0 d_Law_law_464 rfl rfl ?_
  refine J_iload C d_Law_law_465 rfl ?_
  refine J_iconst C d_Law_law_467 (v := nI 1) rfl ?_
  refine J_iaddN C d_Law_law_468 ?_
  refine J_sld C hX hbl hbA hb1 (j := (5 * t) + 1) rfl (by omega) (by omega) (by decide) d_Law_law_469 ?_
  refine J_aload_n C 3 d_Law_law_470 rfl rfl ?_
  refine W_callS C (np := 3) (as := [.ref 0, .int (xs ((5 * t) + 1)), .ref 89]) (st := []) (w_sent l D dA hfl M t (xs ((5 * t) + 1)) hRel (by omega)) (tb_in 1026 (by decide +kernel) (by decide +kernel)) (tb_in 1028 (by decide +kernel) (by decide +kernel)) (tb_in 44 (by decide +kernel) (by decide +kernel)) ⟨by decide, by decide⟩ (by decide +kernel) (tb_in 1027 (by decide +kernel) (by decide +kernel)) rfl (by decide) (hcp _ _ (by omega) (by omega)) (Nat.le_of_ble_eq_true rfl) d_Law_law_471 (kk := ?_)
  intro v M1 hP
  obtain ⟨hm1, kk, Y, b9, rfl, hk4, hRO, hY0, hRel2, h89⟩ := hP
  refine J_mem (M2 := mg M1 M) (mg_of hm1) ?_
  refine J_istore C d_Law_law_474 (by decide) rfl ?_
  refine J_aload_n C 2 d_Law_law_476 rfl rfl ?_
  refine J_aload_n C 0 d_Law_law_477 rfl rfl ?_
  refine J_iload C d_Law_law_478 rfl ?_
  refine J_iconst C d_Law_law_480 (v := nI 1) rfl ?_
  refine J_iaddN C d_Law_law_481 ?_
  refine J_sld C hX hbl hbA hb1 (j := (5 * t) + 1) rfl (by omega) (by omega) (by decide) d_Law_law_482 ?_
  refine F_callV C (as := [.int (xs ((5 * t) + 1))]) (st := []) (hRO M1) l_Law_89 v_Mod_sent (by decide) (e_76 _) rfl (by decide) (hcp _ _ (by omega) (by omega)) (Nat.le_of_ble_eq_true rfl) d_Law_law_483 (kk := ?_)
  refine J_istore C d_Law_law_486 (by decide) rfl ?_
  refine J_aload_n C 2 d_Law_law_488 rfl rfl ?_
  refine P_callV C (as := []) (st := []) (pm_thrown l D dA (mg M1 Y)) l_Law_66 v_Mod_thrown (by decide) (e_76 _) rfl (by decide) (by decide) (hcp _ _ (by omega) (by omega)) (Nat.le_of_ble_eq_true rfl) d_Law_law_489 (kk := ?_)
  refine J_val (y := nI kk) (show mg M1 Y 76 0 = nI kk from hY0) ?_
  refine J_iload C d_Law_law_492 rfl ?_
  refine J_icmpN_eq C 499 d_Law_law_494 (by decide) (by omega) (by omega) (fun hc494 => ?_) (fun hc494 => absurd rfl hc494)
  refine J_iload C d_Law_law_499 rfl ?_
  refine J_ifN_ne C 516 d_Law_law_501 (by decide) (by omega) (fun hc501 => ?_) (fun hc501 => ?_)
  · refine J_goto C 773 d_Law_law_516 (by decide) ?_
    refine J_lv (lv' := [some (.ref 1001), some (.ref 0), some (.ref 76), some (.ref 89), some (.int (nI (5 * t))), none, none]) (by intro i v hv; match i, hv with | 0, hv => exact hv | 1, hv => exact hv | 2, hv => exact hv | 3, hv => exact hv | 4, hv => exact hv | 5, hv => simp at hv | 6, hv => simp at hv | _ + 7, hv => simp at hv) ?_
    exact hloop _ ((hRel2.mono (Nat.le_succ t)).mg1)
  · refine J_aload_n C 3 d_Law_law_504 rfl rfl ?_
    refine J_iconst C d_Law_law_505 (v := nI 0) rfl ?_
    refine K_lld C rfl d_Law_law_506 ?_
    refine J_iload C d_Law_law_507 rfl ?_
    refine J_i2l C d_Law_law_509 ?_
    refine J_lcmp C d_Law_law_510 ?_
    refine J_val (y := nI 0) (by rw [show mg M1 Y 89 0 = b9 from (show M1 89 0 = b9 from h89 (by omega))]; exact lg_self _) ?_
    refine J_ifN_eq C 516 d_Law_law_511 (by decide) (by omega) (fun hc511 => ?_) (fun hc511 => absurd hc511 (by decide))
    refine J_goto C 773 d_Law_law_516 (by decide) ?_
    refine J_lv (lv' := [some (.ref 1001), some (.ref 0), some (.ref 76), some (.ref 89), some (.int (nI (5 * t))), none, none]) (by intro i v hv; match i, hv with | 0, hv => exact hv | 1, hv => exact hv | 2, hv => exact hv | 3, hv => exact hv | 4, hv => exact hv | 5, hv => simp at hv | 6, hv => simp at hv | _ + 7, hv => simp at hv) ?_
    exact hloop _ ((hRel2.mono (Nat.le_succ t)).mg1)

set_option maxHeartbeats 4000000 in
set_option maxRecDepth 100000 in
theorem lc_fail {D : va_G} {dA : Nat → ClassId} {A : Nat → Prop} {ad0 : Nat → Nat} {b L : Nat} {xs : Nat → Int32} {p : Program} {l : Launch} {e : Env} {s : State} {m : MethodId} {below : List Frame} {meth : Method} {c : Code} (hfl : l.flags = pinnedFlags ++ [noTraceFlag]) (C : Cx D dA A ad0 "RelayOrbiterLaw" code 7 p room_1 s m #[Value.ref b] meth c) (hr : meth.sig.returnType = ret) (hA : ∀ q, A q → s.heap.size ≤ q) (hX : va_X b L xs s s.heap) (hbl : b < s.heap.size) (hbA : ¬ A b) (hb1 : ad0 1001 = b) (hL : L ≤ 2560) (kA sA : Nat) (hkA : kA ≤ 1000) (hsA : sA ≤ 100000) (t : Nat) (M : Mem) (hRel : Rel t M M) (ht : 5 * t + 5 ≤ L) (hloop : ∀ M1, Rel (t + 1) M1 M1 → J D dA A (fun _ _ => True) ad0 90 7 p l e room_1 s m #[Value.ref b] below meth c (lw_Z below #[Value.ref b] s) 773 [some (.ref 1001), some (.ref 0), some (.ref 76), some (.ref 89), some (.int (nI (5 * t))), none, none] [] (E M1) 90 (kA + t + 1) (sA + 6 * t + 6)) : J D dA A (fun _ _ => True) ad0 90 7 p l e room_1 s m #[Value.ref b] below meth c (lw_Z below #[Value.ref b] s) 519 [some (.ref 1001), some (.ref 0), some (.ref 76), some (.ref 89), some (.int (nI (5 * t))), none, none] [] (E M) 90 (kA + t) (sA + 6 * t) := by
  refine J_aload_n C 1 d_Law_law_519 rfl rfl ?_
  refine J_aload_n C 0 d_Law_law_520 rfl rfl ?_
  refine J_iload C d_Law_law_521 rfl ?_
  refine J_iconst C d_Law_law_523 (v := nI 1) rfl ?_
  refine J_iaddN C d_Law_law_524 ?_
  refine J_sld C hX hbl hbA hb1 (j := (5 * t) + 1) rfl (by omega) (by omega) (by decide) d_Law_law_525 ?_
  refine W_callS C (np := 2) (as := [.ref 0, .int (xs ((5 * t) + 1))]) (st := []) (w_fail l D dA hfl M t (xs ((5 * t) + 1)) hRel (by omega)) (tb_in 1053 (by decide +kernel) (by decide +kernel)) (tb_in 1055 (by decide +kernel) (by decide +kernel)) (tb_in 44 (by decide +kernel) (by decide +kernel)) ⟨by decide, by decide⟩ (by decide +kernel) (tb_in 1054 (by decide +kernel) (by decide +kernel)) rfl (by decide) (hcp _ _ (by omega) (by omega)) (Nat.le_of_ble_eq_true rfl) d_Law_law_526 (kk := ?_)
  intro v M1 hP
  obtain ⟨hm1, kk, Y, rfl, hk4, hRO, hY0, hRel2⟩ := hP
  refine J_mem (M2 := mg M1 M) (mg_of hm1) ?_
  refine J_istore C d_Law_law_529 (by decide) rfl ?_
  refine J_aload_n C 2 d_Law_law_531 rfl rfl ?_
  refine J_aload_n C 0 d_Law_law_532 rfl rfl ?_
  refine J_iload C d_Law_law_533 rfl ?_
  refine J_iconst C d_Law_law_535 (v := nI 1) rfl ?_
  refine J_iaddN C d_Law_law_536 ?_
  refine J_sld C hX hbl hbA hb1 (j := (5 * t) + 1) rfl (by omega) (by omega) (by decide) d_Law_law_537 ?_
  refine F_callV C (as := [.int (xs ((5 * t) + 1))]) (st := []) (hRO M1) l_Law_93 v_Mod_fail (by decide) (e_76 _) rfl (by decide) (hcp _ _ (by omega) (by omega)) (Nat.le_of_ble_eq_true rfl) d_Law_law_538 (kk := ?_)
  refine J_aload_n C 2 d_Law_law_541 rfl rfl ?_
  refine P_callV C (as := []) (st := []) (pm_thrown l D dA (mg M1 Y)) l_Law_66 v_Mod_thrown (by decide) (e_76 _) rfl (by decide) (by decide) (hcp _ _ (by omega) (by omega)) (Nat.le_of_ble_eq_true rfl) d_Law_law_542 (kk := ?_)
  refine J_val (y := nI kk) (show mg M1 Y 76 0 = nI kk from hY0) ?_
  refine J_iload C d_Law_law_545 rfl ?_
  refine J_icmpN_eq C 552 d_Law_law_547 (by decide) (by omega) (by omega) (fun hc547 => ?_) (fun hc547 => absurd rfl hc547)
  refine J_goto C 773 d_Law_law_552 (by decide) ?_
  refine J_lv (lv' := [some (.ref 1001), some (.ref 0), some (.ref 76), some (.ref 89), some (.int (nI (5 * t))), none, none]) (by intro i v hv; match i, hv with | 0, hv => exact hv | 1, hv => exact hv | 2, hv => exact hv | 3, hv => exact hv | 4, hv => exact hv | 5, hv => simp at hv | 6, hv => simp at hv | _ + 7, hv => simp at hv) ?_
  exact hloop _ ((hRel2.mono (Nat.le_succ t)).mg1)

set_option maxHeartbeats 4000000 in
set_option maxRecDepth 100000 in
theorem lc_power {D : va_G} {dA : Nat → ClassId} {A : Nat → Prop} {ad0 : Nat → Nat} {b L : Nat} {xs : Nat → Int32} {p : Program} {l : Launch} {e : Env} {s : State} {m : MethodId} {below : List Frame} {meth : Method} {c : Code} (hfl : l.flags = pinnedFlags ++ [noTraceFlag]) (C : Cx D dA A ad0 "RelayOrbiterLaw" code 7 p room_1 s m #[Value.ref b] meth c) (hr : meth.sig.returnType = ret) (hA : ∀ q, A q → s.heap.size ≤ q) (hX : va_X b L xs s s.heap) (hbl : b < s.heap.size) (hbA : ¬ A b) (hb1 : ad0 1001 = b) (hL : L ≤ 2560) (kA sA : Nat) (hkA : kA ≤ 1000) (hsA : sA ≤ 100000) (t : Nat) (M : Mem) (hRel : Rel t M M) (ht : 5 * t + 5 ≤ L) (hloop : ∀ M1, Rel (t + 1) M1 M1 → J D dA A (fun _ _ => True) ad0 90 7 p l e room_1 s m #[Value.ref b] below meth c (lw_Z below #[Value.ref b] s) 773 [some (.ref 1001), some (.ref 0), some (.ref 76), some (.ref 89), some (.int (nI (5 * t))), none, none] [] (E M1) 90 (kA + t + 1) (sA + 6 * t + 6)) : J D dA A (fun _ _ => True) ad0 90 7 p l e room_1 s m #[Value.ref b] below meth c (lw_Z below #[Value.ref b] s) 555 [some (.ref 1001), some (.ref 0), some (.ref 76), some (.ref 89), some (.int (nI (5 * t))), none, none] [] (E M) 90 (kA + t) (sA + 6 * t) := by
  obtain ⟨c0, ln, em, bk, q, hS, hR⟩ := id hRel.1.1
  refine J_aload_n C 1 d_Law_law_555 rfl rfl ?_
  refine F_callV C (as := []) (st := []) (f_power l D dA M c0 q hR.1 hS.2.1 (fun k hk => (hR.2.2.2.2.2.2.2.2.1 k hk).1) (fun k hk => (hR.2.2.2.2.2.2.2.2.1 k hk).2)) l_Law_94 v_Orb_power (by decide) (e_0 _) rfl (by decide) (hcp _ _ (by omega) (by omega)) (Nat.le_of_ble_eq_true rfl) d_Law_law_556 (kk := ?_)
  refine J_mem (M2 := mg (fPowC M q c0) M) (mg_of (fun p h1 h2 => powC_hi M c0 (fun k hk => (hR.2.2.2.2.2.2.2.2.1 k hk).2) hS.2.1 (by omega))) ?_
  have hc24 := hS.2.1
  refine J_aload_n C 2 d_Law_law_559 rfl rfl ?_
  refine F_callV C (as := []) (st := [.int (nI c0)]) (by have h := fm_power l D dA (mg (fPowC M q c0) M) c0 hS.1 hS.2.1; rw [fPow0_g, fPowM_g] at h; exact h) l_Law_97 v_Mod_power (by decide) (e_76 _) rfl (by decide) (hcp _ _ (by omega) (by omega)) (Nat.le_of_ble_eq_true rfl) d_Law_law_560 (kk := ?_)
  refine J_mem (M2 := mg (fPowC M q c0) (fPowM c0 (fPow0 M))) rfl ?_
  refine J_icmpN_eq C 773 d_Law_law_563 (by decide) (by omega) (by omega) (fun hc563 => ?_) (fun hc563 => absurd rfl hc563)
  refine J_widen (kc' := kA + t + 1) (ks' := sA + 6 * t + 6) (by omega) (by omega) ?_
  exact hloop _ (((hRel.pow hS hR).mono (Nat.le_succ t)).mg1)

set_option maxHeartbeats 4000000 in
set_option maxRecDepth 100000 in
theorem lc_out {D : va_G} {dA : Nat → ClassId} {A : Nat → Prop} {ad0 : Nat → Nat} {b L : Nat} {xs : Nat → Int32} {p : Program} {l : Launch} {e : Env} {s : State} {m : MethodId} {below : List Frame} {meth : Method} {c : Code} (hfl : l.flags = pinnedFlags ++ [noTraceFlag]) (C : Cx D dA A ad0 "RelayOrbiterLaw" code 7 p room_1 s m #[Value.ref b] meth c) (hr : meth.sig.returnType = ret) (hA : ∀ q, A q → s.heap.size ≤ q) (hX : va_X b L xs s s.heap) (hbl : b < s.heap.size) (hbA : ¬ A b) (hb1 : ad0 1001 = b) (hL : L ≤ 2560) (kA sA : Nat) (hkA : kA ≤ 1000) (hsA : sA ≤ 100000) (t : Nat) (M : Mem) (hRel : Rel t M M) (ht : 5 * t + 5 ≤ L) (hloop : ∀ M1, Rel (t + 1) M1 M1 → J D dA A (fun _ _ => True) ad0 90 7 p l e room_1 s m #[Value.ref b] below meth c (lw_Z below #[Value.ref b] s) 773 [some (.ref 1001), some (.ref 0), some (.ref 76), some (.ref 89), some (.int (nI (5 * t))), none, none] [] (E M1) 90 (kA + t + 1) (sA + 6 * t + 6)) : J D dA A (fun _ _ => True) ad0 90 7 p l e room_1 s m #[Value.ref b] below meth c (lw_Z below #[Value.ref b] s) 568 [some (.ref 1001), some (.ref 0), some (.ref 76), some (.ref 89), some (.int (nI (5 * t))), none, none] [] (E M) 90 (kA + t) (sA + 6 * t) := by
  have hz3 : M 76 3 = 0 ∨ M 76 3 = 1 := by obtain ⟨⟨c0, ln, em, bk, q, hS, hR⟩, _⟩ := hRel.1; exact hS.2.2.1
  have ho39 : M 3 9 = M 76 3 := by obtain ⟨⟨c0, ln, em, bk, q, hS, hR⟩, _⟩ := hRel.1; exact hR.2.2.2.2.2.2.1
  refine J_aload_n C 1 d_Law_law_568 rfl rfl ?_
  refine P_callV C (as := []) (st := []) (p_out l D dA M (by rw [ho39]; exact hz3)) l_Law_98 v_Orb_out (by decide) (e_0 _) rfl (by decide) (by decide) (hcp _ _ (by omega) (by omega)) (Nat.le_of_ble_eq_true rfl) d_Law_law_569 (kk := ?_)
  refine J_val (y := M 76 3) ho39 ?_
  refine J_aload_n C 2 d_Law_law_572 rfl rfl ?_
  refine F_callV C (as := []) (st := [.int (M 76 3)]) (fm_out l D dA M hz3) l_Law_102 v_Mod_out (by decide) (e_76 _) rfl (by decide) (hcp _ _ (by omega) (by omega)) (Nat.le_of_ble_eq_true rfl) d_Law_law_573 (kk := ?_)
  refine J_icmp_eq C 773 d_Law_law_576 (by decide) (fun hc576 => ?_) (fun hc576 => absurd rfl hc576)
  refine J_widen (kc' := kA + t + 1) (ks' := sA + 6 * t + 6) (by omega) (by omega) ?_
  exact hloop _ (((hRel.t (nI 0)).mono (Nat.le_succ t)).fr (fun p hp => mu_p _ _ _ (by omega)) (fun _ _ _ => rfl))

set_option maxHeartbeats 4000000 in
set_option maxRecDepth 100000 in
theorem lc_store {D : va_G} {dA : Nat → ClassId} {A : Nat → Prop} {ad0 : Nat → Nat} {b L : Nat} {xs : Nat → Int32} {p : Program} {l : Launch} {e : Env} {s : State} {m : MethodId} {below : List Frame} {meth : Method} {c : Code} (hfl : l.flags = pinnedFlags ++ [noTraceFlag]) (C : Cx D dA A ad0 "RelayOrbiterLaw" code 7 p room_1 s m #[Value.ref b] meth c) (hr : meth.sig.returnType = ret) (hA : ∀ q, A q → s.heap.size ≤ q) (hX : va_X b L xs s s.heap) (hbl : b < s.heap.size) (hbA : ¬ A b) (hb1 : ad0 1001 = b) (hL : L ≤ 2560) (kA sA : Nat) (hkA : kA ≤ 1000) (hsA : sA ≤ 100000) (t : Nat) (M : Mem) (hRel : Rel t M M) (ht : 5 * t + 5 ≤ L) (hloop : ∀ M1, Rel (t + 1) M1 M1 → J D dA A (fun _ _ => True) ad0 90 7 p l e room_1 s m #[Value.ref b] below meth c (lw_Z below #[Value.ref b] s) 773 [some (.ref 1001), some (.ref 0), some (.ref 76), some (.ref 89), some (.int (nI (5 * t))), none, none] [] (E M1) 90 (kA + t + 1) (sA + 6 * t + 6)) : J D dA A (fun _ _ => True) ad0 90 7 p l e room_1 s m #[Value.ref b] below meth c (lw_Z below #[Value.ref b] s) 581 [some (.ref 1001), some (.ref 0), some (.ref 76), some (.ref 89), some (.int (nI (5 * t))), none, none] [] (E M) 90 (kA + t) (sA + 6 * t) := by
  refine J_aload_n C 1 d_Law_law_581 rfl rfl ?_
  refine J_aload_n C 0 d_Law_law_582 rfl rfl ?_
  refine J_iload C d_Law_law_583 rfl ?_
  refine J_iconst C d_Law_law_585 (v := nI 1) rfl ?_
  refine J_iaddN C d_Law_law_586 ?_
  refine J_sld C hX hbl hbA hb1 (j := (5 * t) + 1) rfl (by omega) (by omega) (by decide) d_Law_law_587 ?_
  refine J_aload_n C 3 d_Law_law_588 rfl rfl ?_
  refine W_callS C (np := 3) (as := [.ref 0, .int (xs ((5 * t) + 1)), .ref 89]) (st := []) (w_store l D dA hfl M t (xs ((5 * t) + 1)) hRel (by omega)) (tb_in 1060 (by decide +kernel) (by decide +kernel)) (tb_in 1062 (by decide +kernel) (by decide +kernel)) (tb_in 44 (by decide +kernel) (by decide +kernel)) ⟨by decide, by decide⟩ (by decide +kernel) (tb_in 1061 (by decide +kernel) (by decide +kernel)) rfl (by decide) (hcp _ _ (by omega) (by omega)) (Nat.le_of_ble_eq_true rfl) d_Law_law_589 (kk := ?_)
  intro v M1 hP
  obtain ⟨hm1, kk, Y, b9, rfl, hk4, hRO, hY0, hRel2, h89⟩ := hP
  refine J_mem (M2 := mg M1 M) (mg_of hm1) ?_
  refine J_istore C d_Law_law_592 (by decide) rfl ?_
  refine J_aload_n C 2 d_Law_law_594 rfl rfl ?_
  refine J_aload_n C 0 d_Law_law_595 rfl rfl ?_
  refine J_iload C d_Law_law_596 rfl ?_
  refine J_iconst C d_Law_law_598 (v := nI 1) rfl ?_
  refine J_iaddN C d_Law_law_599 ?_
  refine J_sld C hX hbl hbA hb1 (j := (5 * t) + 1) rfl (by omega) (by omega) (by decide) d_Law_law_600 ?_
  refine F_callV C (as := [.int (xs ((5 * t) + 1))]) (st := []) (hRO M1) l_Law_105 v_Mod_store (by decide) (e_76 _) rfl (by decide) (hcp _ _ (by omega) (by omega)) (Nat.le_of_ble_eq_true rfl) d_Law_law_601 (kk := ?_)
  refine J_istore C d_Law_law_604 (by decide) rfl ?_
  refine J_aload_n C 2 d_Law_law_606 rfl rfl ?_
  refine P_callV C (as := []) (st := []) (pm_thrown l D dA (mg M1 Y)) l_Law_66 v_Mod_thrown (by decide) (e_76 _) rfl (by decide) (by decide) (hcp _ _ (by omega) (by omega)) (Nat.le_of_ble_eq_true rfl) d_Law_law_607 (kk := ?_)
  refine J_val (y := nI kk) (show mg M1 Y 76 0 = nI kk from hY0) ?_
  refine J_iload C d_Law_law_610 rfl ?_
  refine J_icmpN_eq C 617 d_Law_law_612 (by decide) (by omega) (by omega) (fun hc612 => ?_) (fun hc612 => absurd rfl hc612)
  refine J_iload C d_Law_law_617 rfl ?_
  refine J_ifN_ne C 634 d_Law_law_619 (by decide) (by omega) (fun hc619 => ?_) (fun hc619 => ?_)
  · refine J_goto C 773 d_Law_law_634 (by decide) ?_
    refine J_lv (lv' := [some (.ref 1001), some (.ref 0), some (.ref 76), some (.ref 89), some (.int (nI (5 * t))), none, none]) (by intro i v hv; match i, hv with | 0, hv => exact hv | 1, hv => exact hv | 2, hv => exact hv | 3, hv => exact hv | 4, hv => exact hv | 5, hv => simp at hv | 6, hv => simp at hv | _ + 7, hv => simp at hv) ?_
    exact hloop _ ((hRel2.mono (Nat.le_succ t)).mg1)
  · refine J_aload_n C 3 d_Law_law_622 rfl rfl ?_
    refine J_iconst C d_Law_law_623 (v := nI 0) rfl ?_
    refine K_lld C rfl d_Law_law_624 ?_
    refine J_iload C d_Law_law_625 rfl ?_
    refine J_i2l C d_Law_law_627 ?_
    refine J_lcmp C d_Law_law_628 ?_
    refine J_val (y := nI 0) (by rw [show mg M1 Y 89 0 = b9 from (show M1 89 0 = b9 from h89 (by omega))]; exact lg_self _) ?_
    refine J_ifN_eq C 634 d_Law_law_629 (by decide) (by omega) (fun hc629 => ?_) (fun hc629 => absurd hc629 (by decide))
    refine J_goto C 773 d_Law_law_634 (by decide) ?_
    refine J_lv (lv' := [some (.ref 1001), some (.ref 0), some (.ref 76), some (.ref 89), some (.int (nI (5 * t))), none, none]) (by intro i v hv; match i, hv with | 0, hv => exact hv | 1, hv => exact hv | 2, hv => exact hv | 3, hv => exact hv | 4, hv => exact hv | 5, hv => simp at hv | 6, hv => simp at hv | _ + 7, hv => simp at hv) ?_
    exact hloop _ ((hRel2.mono (Nat.le_succ t)).mg1)

set_option maxHeartbeats 4000000 in
set_option maxRecDepth 100000 in
theorem lc_packet {D : va_G} {dA : Nat → ClassId} {A : Nat → Prop} {ad0 : Nat → Nat} {b L : Nat} {xs : Nat → Int32} {p : Program} {l : Launch} {e : Env} {s : State} {m : MethodId} {below : List Frame} {meth : Method} {c : Code} (hfl : l.flags = pinnedFlags ++ [noTraceFlag]) (C : Cx D dA A ad0 "RelayOrbiterLaw" code 7 p room_1 s m #[Value.ref b] meth c) (hr : meth.sig.returnType = ret) (hA : ∀ q, A q → s.heap.size ≤ q) (hX : va_X b L xs s s.heap) (hbl : b < s.heap.size) (hbA : ¬ A b) (hb1 : ad0 1001 = b) (hL : L ≤ 2560) (kA sA : Nat) (hkA : kA ≤ 1000) (hsA : sA ≤ 100000) (t : Nat) (M : Mem) (hRel : Rel t M M) (ht : 5 * t + 5 ≤ L) (hloop : ∀ M1, Rel (t + 1) M1 M1 → J D dA A (fun _ _ => True) ad0 90 7 p l e room_1 s m #[Value.ref b] below meth c (lw_Z below #[Value.ref b] s) 773 [some (.ref 1001), some (.ref 0), some (.ref 76), some (.ref 89), some (.int (nI (5 * t))), none, none] [] (E M1) 90 (kA + t + 1) (sA + 6 * t + 6)) : J D dA A (fun _ _ => True) ad0 90 7 p l e room_1 s m #[Value.ref b] below meth c (lw_Z below #[Value.ref b] s) 637 [some (.ref 1001), some (.ref 0), some (.ref 76), some (.ref 89), some (.int (nI (5 * t))), none, none] [] (E M) 90 (kA + t) (sA + 6 * t) := by
  refine J_aload_n C 1 d_Law_law_637 rfl rfl ?_
  refine J_aload_n C 0 d_Law_law_638 rfl rfl ?_
  refine J_iload C d_Law_law_639 rfl ?_
  refine J_iconst C d_Law_law_641 (v := nI 1) rfl ?_
  refine J_iaddN C d_Law_law_642 ?_
  refine J_sld C hX hbl hbA hb1 (j := (5 * t) + 1) rfl (by omega) (by omega) (by decide) d_Law_law_643 ?_
  refine J_aload_n C 0 d_Law_law_644 rfl rfl ?_
  refine J_iload C d_Law_law_645 rfl ?_
  refine J_iconst C d_Law_law_647 (v := nI 2) rfl ?_
  refine J_iaddN C d_Law_law_648 ?_
  refine J_sld C hX hbl hbA hb1 (j := (5 * t) + 2) rfl (by omega) (by omega) (by decide) d_Law_law_649 ?_
  refine J_aload_n C 3 d_Law_law_650 rfl rfl ?_
  refine W_callS C (np := 4) (as := [.ref 0, .int (xs ((5 * t) + 1)), .int (xs ((5 * t) + 2)), .ref 89]) (st := []) (w_packet l D dA hfl M t (xs ((5 * t) + 1)) (xs ((5 * t) + 2)) hRel (by omega)) (tb_in 1067 (by decide +kernel) (by decide +kernel)) (tb_in 1069 (by decide +kernel) (by decide +kernel)) (tb_in 44 (by decide +kernel) (by decide +kernel)) ⟨by decide, by decide⟩ (by decide +kernel) (tb_in 1068 (by decide +kernel) (by decide +kernel)) rfl (by decide) (hcp _ _ (by omega) (by omega)) (Nat.le_of_ble_eq_true rfl) d_Law_law_651 (kk := ?_)
  intro v M1 hP
  obtain ⟨hm1, kk, Y, b9, rfl, hk4, hRO, hY0, hRel2, h89⟩ := hP
  refine J_mem (M2 := mg M1 M) (mg_of hm1) ?_
  refine J_istore C d_Law_law_654 (by decide) rfl ?_
  refine J_aload_n C 2 d_Law_law_656 rfl rfl ?_
  refine J_aload_n C 0 d_Law_law_657 rfl rfl ?_
  refine J_iload C d_Law_law_658 rfl ?_
  refine J_iconst C d_Law_law_660 (v := nI 1) rfl ?_
  refine J_iaddN C d_Law_law_661 ?_
  refine J_sld C hX hbl hbA hb1 (j := (5 * t) + 1) rfl (by omega) (by omega) (by decide) d_Law_law_662 ?_
  refine J_aload_n C 0 d_Law_law_663 rfl rfl ?_
  refine J_iload C d_Law_law_664 rfl ?_
  refine J_iconst C d_Law_law_666 (v := nI 2) rfl ?_
  refine J_iaddN C d_Law_law_667 ?_
  refine J_sld C hX hbl hbA hb1 (j := (5 * t) + 2) rfl (by omega) (by omega) (by decide) d_Law_law_668 ?_
  refine F_callV C (as := [.int (xs ((5 * t) + 1)), .int (xs ((5 * t) + 2))]) (st := []) (hRO M1) l_Law_108 v_Mod_packet (by decide) (e_76 _) rfl (by decide) (hcp _ _ (by omega) (by omega)) (Nat.le_of_ble_eq_true rfl) d_Law_law_669 (kk := ?_)
  refine J_istore C d_Law_law_672 (by decide) rfl ?_
  refine J_aload_n C 2 d_Law_law_674 rfl rfl ?_
  refine P_callV C (as := []) (st := []) (pm_thrown l D dA (mg M1 Y)) l_Law_66 v_Mod_thrown (by decide) (e_76 _) rfl (by decide) (by decide) (hcp _ _ (by omega) (by omega)) (Nat.le_of_ble_eq_true rfl) d_Law_law_675 (kk := ?_)
  refine J_val (y := nI kk) (show mg M1 Y 76 0 = nI kk from hY0) ?_
  refine J_iload C d_Law_law_678 rfl ?_
  refine J_icmpN_eq C 685 d_Law_law_680 (by decide) (by omega) (by omega) (fun hc680 => ?_) (fun hc680 => absurd rfl hc680)
  refine J_iload C d_Law_law_685 rfl ?_
  refine J_ifN_ne C 702 d_Law_law_687 (by decide) (by omega) (fun hc687 => ?_) (fun hc687 => ?_)
  · refine J_goto C 773 d_Law_law_702 (by decide) ?_
    refine J_lv (lv' := [some (.ref 1001), some (.ref 0), some (.ref 76), some (.ref 89), some (.int (nI (5 * t))), none, none]) (by intro i v hv; match i, hv with | 0, hv => exact hv | 1, hv => exact hv | 2, hv => exact hv | 3, hv => exact hv | 4, hv => exact hv | 5, hv => simp at hv | 6, hv => simp at hv | _ + 7, hv => simp at hv) ?_
    exact hloop _ ((hRel2.mono (Nat.le_succ t)).mg1)
  · refine J_aload_n C 3 d_Law_law_690 rfl rfl ?_
    refine J_iconst C d_Law_law_691 (v := nI 0) rfl ?_
    refine K_lld C rfl d_Law_law_692 ?_
    refine J_iload C d_Law_law_693 rfl ?_
    refine J_i2l C d_Law_law_695 ?_
    refine J_lcmp C d_Law_law_696 ?_
    refine J_val (y := nI 0) (by rw [show mg M1 Y 89 0 = b9 from (show M1 89 0 = b9 from h89 (by omega))]; exact lg_self _) ?_
    refine J_ifN_eq C 702 d_Law_law_697 (by decide) (by omega) (fun hc697 => ?_) (fun hc697 => absurd hc697 (by decide))
    refine J_goto C 773 d_Law_law_702 (by decide) ?_
    refine J_lv (lv' := [some (.ref 1001), some (.ref 0), some (.ref 76), some (.ref 89), some (.int (nI (5 * t))), none, none]) (by intro i v hv; match i, hv with | 0, hv => exact hv | 1, hv => exact hv | 2, hv => exact hv | 3, hv => exact hv | 4, hv => exact hv | 5, hv => simp at hv | 6, hv => simp at hv | _ + 7, hv => simp at hv) ?_
    exact hloop _ ((hRel2.mono (Nat.le_succ t)).mg1)

set_option maxHeartbeats 4000000 in
set_option maxRecDepth 100000 in
theorem lc_content {D : va_G} {dA : Nat → ClassId} {A : Nat → Prop} {ad0 : Nat → Nat} {b L : Nat} {xs : Nat → Int32} {p : Program} {l : Launch} {e : Env} {s : State} {m : MethodId} {below : List Frame} {meth : Method} {c : Code} (hfl : l.flags = pinnedFlags ++ [noTraceFlag]) (C : Cx D dA A ad0 "RelayOrbiterLaw" code 7 p room_1 s m #[Value.ref b] meth c) (hr : meth.sig.returnType = ret) (hA : ∀ q, A q → s.heap.size ≤ q) (hX : va_X b L xs s s.heap) (hbl : b < s.heap.size) (hbA : ¬ A b) (hb1 : ad0 1001 = b) (hL : L ≤ 2560) (kA sA : Nat) (hkA : kA ≤ 1000) (hsA : sA ≤ 100000) (t : Nat) (M : Mem) (hRel : Rel t M M) (ht : 5 * t + 5 ≤ L) (hloop : ∀ M1, Rel (t + 1) M1 M1 → J D dA A (fun _ _ => True) ad0 90 7 p l e room_1 s m #[Value.ref b] below meth c (lw_Z below #[Value.ref b] s) 773 [some (.ref 1001), some (.ref 0), some (.ref 76), some (.ref 89), some (.int (nI (5 * t))), none, none] [] (E M1) 90 (kA + t + 1) (sA + 6 * t + 6)) : J D dA A (fun _ _ => True) ad0 90 7 p l e room_1 s m #[Value.ref b] below meth c (lw_Z below #[Value.ref b] s) 705 [some (.ref 1001), some (.ref 0), some (.ref 76), some (.ref 89), some (.int (nI (5 * t))), none, none] [] (E M) 90 (kA + t) (sA + 6 * t) := by
  refine J_aload_n C 1 d_Law_law_705 rfl rfl ?_
  refine J_aload_n C 0 d_Law_law_706 rfl rfl ?_
  refine J_iload C d_Law_law_707 rfl ?_
  refine J_iconst C d_Law_law_709 (v := nI 1) rfl ?_
  refine J_iaddN C d_Law_law_710 ?_
  refine J_sld C hX hbl hbA hb1 (j := (5 * t) + 1) rfl (by omega) (by omega) (by decide) d_Law_law_711 ?_
  refine J_aload_n C 0 d_Law_law_712 rfl rfl ?_
  refine J_iload C d_Law_law_713 rfl ?_
  refine J_iconst C d_Law_law_715 (v := nI 2) rfl ?_
  refine J_iaddN C d_Law_law_716 ?_
  refine J_sld C hX hbl hbA hb1 (j := (5 * t) + 2) rfl (by omega) (by omega) (by decide) d_Law_law_717 ?_
  refine J_aload_n C 3 d_Law_law_718 rfl rfl ?_
  refine W_callS C (np := 4) (as := [.ref 0, .int (xs ((5 * t) + 1)), .int (xs ((5 * t) + 2)), .ref 89]) (st := []) (w_content l D dA hfl M t (xs ((5 * t) + 1)) (xs ((5 * t) + 2)) hRel (by omega)) (tb_in 1078 (by decide +kernel) (by decide +kernel)) (tb_in 1080 (by decide +kernel) (by decide +kernel)) (tb_in 44 (by decide +kernel) (by decide +kernel)) ⟨by decide, by decide⟩ (by decide +kernel) (tb_in 1079 (by decide +kernel) (by decide +kernel)) rfl (by decide) (hcp _ _ (by omega) (by omega)) (Nat.le_of_ble_eq_true rfl) d_Law_law_719 (kk := ?_)
  intro v M1 hP
  obtain ⟨hm1, kk, Y, b9, rfl, hk4, hRO, hY0, hRel2, h89⟩ := hP
  refine J_mem (M2 := mg M1 M) (mg_of hm1) ?_
  refine J_istore C d_Law_law_722 (by decide) rfl ?_
  refine J_aload_n C 2 d_Law_law_724 rfl rfl ?_
  refine J_aload_n C 0 d_Law_law_725 rfl rfl ?_
  refine J_iload C d_Law_law_726 rfl ?_
  refine J_iconst C d_Law_law_728 (v := nI 1) rfl ?_
  refine J_iaddN C d_Law_law_729 ?_
  refine J_sld C hX hbl hbA hb1 (j := (5 * t) + 1) rfl (by omega) (by omega) (by decide) d_Law_law_730 ?_
  refine J_aload_n C 0 d_Law_law_731 rfl rfl ?_
  refine J_iload C d_Law_law_732 rfl ?_
  refine J_iconst C d_Law_law_734 (v := nI 2) rfl ?_
  refine J_iaddN C d_Law_law_735 ?_
  refine J_sld C hX hbl hbA hb1 (j := (5 * t) + 2) rfl (by omega) (by omega) (by decide) d_Law_law_736 ?_
  refine F_callV C (as := [.int (xs ((5 * t) + 1)), .int (xs ((5 * t) + 2))]) (st := []) (hRO M1) l_Law_111 v_Mod_content (by decide) (e_76 _) rfl (by decide) (hcp _ _ (by omega) (by omega)) (Nat.le_of_ble_eq_true rfl) d_Law_law_737 (kk := ?_)
  refine J_istore C d_Law_law_740 (by decide) rfl ?_
  refine J_aload_n C 2 d_Law_law_742 rfl rfl ?_
  refine P_callV C (as := []) (st := []) (pm_thrown l D dA (mg M1 Y)) l_Law_66 v_Mod_thrown (by decide) (e_76 _) rfl (by decide) (by decide) (hcp _ _ (by omega) (by omega)) (Nat.le_of_ble_eq_true rfl) d_Law_law_743 (kk := ?_)
  refine J_val (y := nI kk) (show mg M1 Y 76 0 = nI kk from hY0) ?_
  refine J_iload C d_Law_law_746 rfl ?_
  refine J_icmpN_eq C 753 d_Law_law_748 (by decide) (by omega) (by omega) (fun hc748 => ?_) (fun hc748 => absurd rfl hc748)
  refine J_iload C d_Law_law_753 rfl ?_
  refine J_ifN_ne C 770 d_Law_law_755 (by decide) (by omega) (fun hc755 => ?_) (fun hc755 => ?_)
  · refine J_goto C 773 d_Law_law_770 (by decide) ?_
    refine J_lv (lv' := [some (.ref 1001), some (.ref 0), some (.ref 76), some (.ref 89), some (.int (nI (5 * t))), none, none]) (by intro i v hv; match i, hv with | 0, hv => exact hv | 1, hv => exact hv | 2, hv => exact hv | 3, hv => exact hv | 4, hv => exact hv | 5, hv => simp at hv | 6, hv => simp at hv | _ + 7, hv => simp at hv) ?_
    exact hloop _ ((hRel2.mono (Nat.le_succ t)).mg1)
  · refine J_aload_n C 3 d_Law_law_758 rfl rfl ?_
    refine J_iconst C d_Law_law_759 (v := nI 0) rfl ?_
    refine K_lld C rfl d_Law_law_760 ?_
    refine J_iload C d_Law_law_761 rfl ?_
    refine J_i2l C d_Law_law_763 ?_
    refine J_lcmp C d_Law_law_764 ?_
    refine J_val (y := nI 0) (by rw [show mg M1 Y 89 0 = b9 from (show M1 89 0 = b9 from h89 (by omega))]; exact lg_self _) ?_
    refine J_ifN_eq C 770 d_Law_law_765 (by decide) (by omega) (fun hc765 => ?_) (fun hc765 => absurd hc765 (by decide))
    refine J_goto C 773 d_Law_law_770 (by decide) ?_
    refine J_lv (lv' := [some (.ref 1001), some (.ref 0), some (.ref 76), some (.ref 89), some (.int (nI (5 * t))), none, none]) (by intro i v hv; match i, hv with | 0, hv => exact hv | 1, hv => exact hv | 2, hv => exact hv | 3, hv => exact hv | 4, hv => exact hv | 5, hv => simp at hv | 6, hv => simp at hv | _ + 7, hv => simp at hv) ?_
    exact hloop _ ((hRel2.mono (Nat.le_succ t)).mg1)

set_option maxHeartbeats 4000000 in
set_option maxRecDepth 100000 in
theorem law_loop {D : va_G} {dA : Nat → ClassId} {A : Nat → Prop} {ad0 : Nat → Nat} {b L : Nat} {xs : Nat → Int32} {p : Program} {l : Launch} {e : Env} {s : State} {m : MethodId} {below : List Frame} {meth : Method} {c : Code} (hfl : l.flags = pinnedFlags ++ [noTraceFlag]) (C : Cx D dA A ad0 "RelayOrbiterLaw" code 7 p room_1 s m #[Value.ref b] meth c) (hr : meth.sig.returnType = ret) (hA : ∀ q, A q → s.heap.size ≤ q) (hX : va_X b L xs s s.heap) (hbl : b < s.heap.size) (hbA : ¬ A b) (hb1 : ad0 1001 = b) (hL : L ≤ 2560) (kA sA : Nat) (hkA : kA ≤ 1000) (hsA : sA ≤ 100000) : ∀ (fu t : Nat) (M : Mem), L - 5 * t < fu → 5 * t ≤ L → Rel t M M → J D dA A (fun _ _ => True) ad0 90 7 p l e room_1 s m #[Value.ref b] below meth c (lw_Z below #[Value.ref b] s) 23 [some (.ref 1001), some (.ref 0), some (.ref 76), some (.ref 89), some (.int (nI (5 * t))), none, none] [] (E M) 90 (kA + t) (sA + 6 * t) := by
  intro fu
  induction fu with
  | zero => intro t M hfu; exact absurd hfu (Nat.not_lt_zero _)
  | succ fu ih =>
    intro t M hfu ht hRel
    refine J_iload C d_Law_law_23 rfl ?_
    refine J_aload_n C 0 d_Law_law_25 rfl rfl ?_
    refine J_slen C hX hbl hbA hb1 (by decide) d_Law_law_26 ?_
    refine J_iconst C d_Law_law_27 (v := nI 5) rfl ?_
    refine J_isub C d_Law_law_28 ?_
    refine J_icmp_gt C 779 d_Law_law_29 (by decide) (fun hc29 => ?_) (fun hc29 => ?_)
    · refine J_iconst C d_Law_law_779 (v := nI 1) rfl ?_
      exact J_lawret C hr hA (by omega) (by omega) d_Law_law_780
    · have ht5 : 5 * t + 5 ≤ L := Nat.not_lt.mp fun q => hc29 ((law_cmp hL ht).mpr q)
      have hloop : ∀ M1, Rel (t + 1) M1 M1 → J D dA A (fun _ _ => True) ad0 90 7 p l e room_1 s m #[Value.ref b] below meth c (lw_Z below #[Value.ref b] s) 773 [some (.ref 1001), some (.ref 0), some (.ref 76), some (.ref 89), some (.int (nI (5 * t))), none, none] [] (E M1) 90 (kA + t + 1) (sA + 6 * t + 6) := by
        intro M1 hR1
        refine J_iinc C d_Law_law_773 rfl (v := nI (5 * (t + 1))) (nI_add (5 * t) 5) (by decide) rfl ?_
        refine J_goto C 23 d_Law_law_776 (by decide) ?_
        exact ih (t + 1) M1 (by omega) (by omega) hR1
      refine J_aload_n C 0 d_Law_law_32 rfl rfl ?_
      refine J_iload C d_Law_law_33 rfl ?_
      refine J_sld C hX hbl hbA hb1 (j := 5 * t) rfl (by omega) (by omega) (by decide) d_Law_law_35 ?_
      refine J_bipush C d_Law_law_36 (v := nI 15) rfl ?_
      refine J_iand C d_Law_law_38 ?_
      by_cases hs0 : (xs (5 * t)) &&& (nI 15) = nI 0
      · refine J_val hs0 ?_
        refine J_tableIn C 104 d_Law_law_39 (off := 65) (by decide) (by decide) (by decide) (by decide) ?_
        exact lc_window hfl C hr hA hX hbl hbA hb1 hL kA sA hkA hsA t M hRel (by omega) hloop
      by_cases hs1 : (xs (5 * t)) &&& (nI 15) = nI 1
      · refine J_val hs1 ?_
        refine J_tableIn C 176 d_Law_law_39 (off := 137) (by decide) (by decide) (by decide) (by decide) ?_
        exact lc_minute hfl C hr hA hX hbl hbA hb1 hL kA sA hkA hsA t M hRel (by omega) hloop
      by_cases hs2 : (xs (5 * t)) &&& (nI 15) = nI 2
      · refine J_val hs2 ?_
        refine J_tableIn C 232 d_Law_law_39 (off := 193) (by decide) (by decide) (by decide) (by decide) ?_
        exact lc_seen hfl C hr hA hX hbl hbA hb1 hL kA sA hkA hsA t M hRel (by omega) hloop
      by_cases hs3 : (xs (5 * t)) &&& (nI 15) = nI 3
      · refine J_val hs3 ?_
        refine J_tableIn C 295 d_Law_law_39 (off := 256) (by decide) (by decide) (by decide) (by decide) ?_
        exact lc_receive hfl C hr hA hX hbl hbA hb1 hL kA sA hkA hsA t M hRel (by omega) hloop
      by_cases hs4 : (xs (5 * t)) &&& (nI 15) = nI 4
      · refine J_val hs4 ?_
        refine J_tableIn C 363 d_Law_law_39 (off := 324) (by decide) (by decide) (by decide) (by decide) ?_
        exact lc_report hfl C hr hA hX hbl hbA hb1 hL kA sA hkA hsA t M hRel (by omega) hloop
      by_cases hs5 : (xs (5 * t)) &&& (nI 15) = nI 5
      · refine J_val hs5 ?_
        refine J_tableIn C 407 d_Law_law_39 (off := 368) (by decide) (by decide) (by decide) (by decide) ?_
        exact lc_send hfl C hr hA hX hbl hbA hb1 hL kA sA hkA hsA t M hRel (by omega) hloop
      by_cases hs6 : (xs (5 * t)) &&& (nI 15) = nI 6
      · refine J_val hs6 ?_
        refine J_tableIn C 463 d_Law_law_39 (off := 424) (by decide) (by decide) (by decide) (by decide) ?_
        exact lc_sent hfl C hr hA hX hbl hbA hb1 hL kA sA hkA hsA t M hRel (by omega) hloop
      by_cases hs7 : (xs (5 * t)) &&& (nI 15) = nI 7
      · refine J_val hs7 ?_
        refine J_tableIn C 519 d_Law_law_39 (off := 480) (by decide) (by decide) (by decide) (by decide) ?_
        exact lc_fail hfl C hr hA hX hbl hbA hb1 hL kA sA hkA hsA t M hRel (by omega) hloop
      by_cases hs8 : (xs (5 * t)) &&& (nI 15) = nI 8
      · refine J_val hs8 ?_
        refine J_tableIn C 555 d_Law_law_39 (off := 516) (by decide) (by decide) (by decide) (by decide) ?_
        exact lc_power hfl C hr hA hX hbl hbA hb1 hL kA sA hkA hsA t M hRel (by omega) hloop
      by_cases hs9 : (xs (5 * t)) &&& (nI 15) = nI 9
      · refine J_val hs9 ?_
        refine J_tableIn C 568 d_Law_law_39 (off := 529) (by decide) (by decide) (by decide) (by decide) ?_
        exact lc_out hfl C hr hA hX hbl hbA hb1 hL kA sA hkA hsA t M hRel (by omega) hloop
      by_cases hs10 : (xs (5 * t)) &&& (nI 15) = nI 10
      · refine J_val hs10 ?_
        refine J_tableIn C 581 d_Law_law_39 (off := 542) (by decide) (by decide) (by decide) (by decide) ?_
        exact lc_store hfl C hr hA hX hbl hbA hb1 hL kA sA hkA hsA t M hRel (by omega) hloop
      by_cases hs11 : (xs (5 * t)) &&& (nI 15) = nI 11
      · refine J_val hs11 ?_
        refine J_tableIn C 637 d_Law_law_39 (off := 598) (by decide) (by decide) (by decide) (by decide) ?_
        exact lc_packet hfl C hr hA hX hbl hbA hb1 hL kA sA hkA hsA t M hRel (by omega) hloop
      by_cases hs12 : (xs (5 * t)) &&& (nI 15) = nI 12
      · refine J_val hs12 ?_
        refine J_tableIn C 705 d_Law_law_39 (off := 666) (by decide) (by decide) (by decide) (by decide) ?_
        exact lc_content hfl C hr hA hX hbl hbA hb1 hL kA sA hkA hsA t M hRel (by omega) hloop
      refine J_tableOut C 773 d_Law_law_39 (sw_out 0 12 (by decide) (fun k h1 h2 => by rcases (show k = 0 ∨ k = 1 ∨ k = 2 ∨ k = 3 ∨ k = 4 ∨ k = 5 ∨ k = 6 ∨ k = 7 ∨ k = 8 ∨ k = 9 ∨ k = 10 ∨ k = 11 ∨ k = 12 by omega) with rfl | rfl | rfl | rfl | rfl | rfl | rfl | rfl | rfl | rfl | rfl | rfl | rfl <;> assumption)) (by decide) ?_
      refine J_widen (kc' := kA + t + 1) (ks' := sA + 6 * t + 6) (by omega) (by omega) ?_
      exact hloop _ (hRel.mono (Nat.le_succ t))
