def eX (X : Mem) (i : Nat) : Nat := (X 86 i).toNatClampNeg
def skX (X : Mem) (c0 : Nat) (ch : Int32) : Nat → Nat → Nat
  | 0, i => i
  | f + 1, i => if i < c0 then (if X 84 (60 * i + 1) &&& nI 1 = ch then (if X 86 i = X 83 i then skX X c0 ch f (i + 1) else i) else skX X c0 ch f (i + 1)) else i
def toldX (pt : Int32) (so : Nat) : Int32 := if pt < 0 then (if so = 0 then nI 2046 else nI 2047) else pt
def endF (X : Mem) (td : Int32) : Mem := mu (mu X 87 6 (td >>> (nI 8 &&& 31))) 87 7 (td &&& nI 255)
def emB (X : Mem) (k i : Nat) : Mem := mu (mu X 87 k (X 84 (60 * i + eX X i))) 86 i (nI (eX X i + 1))
def flM (c0 : Nat) (ch : Int32) : Nat → Nat → Nat → Int32 → Nat → Mem → Mem
  | 0, _, _, pt, so, X => endF X (toldX pt so)
  | r + 1, k, i, pt, so, X => if skX X c0 ch 25 i = c0 then flM c0 ch r (k + 1) (skX X c0 ch 25 i) pt so (mu X 87 k (nI 85)) else flM c0 ch r (k + 1) (skX X c0 ch 25 i) (if eX X (skX X c0 ch 25 i) = 0 then (if pt < 0 then nI (k - 8) else pt) else pt) 1 (emB X k (skX X c0 ch 25 i))
def FL (X : Mem) (c0 : Nat) (ln : Nat → Nat) : Prop := X 76 15 = nI c0 ∧ c0 ≤ 24 ∧ (∀ i, i < c0 → X 83 i = nI (ln i) ∧ ln i ≤ 60) ∧ ∀ i, i < c0 → X 86 i = nI (eX X i) ∧ eX X i ≤ ln i
theorem FL.p87 {X : Mem} {c0 : Nat} {ln : Nat → Nat} (h : FL X c0 ln) (k : Nat) (v : Int32) : FL (mu X 87 k v) c0 ln := h
theorem FL.em1 {X : Mem} {c0 : Nat} {ln : Nat → Nat} (h : FL X c0 ln) (k : Nat) {i : Nat} (hi : i < c0) (he : eX X i < ln i) : FL (emB X k i) c0 ln := by
  refine ⟨h.1, h.2.1, h.2.2.1, fun x hx => ?_⟩
  by_cases hxi : x = i
  · subst hxi
    have e1 : emB X k x 86 x = nI (eX X x + 1) := mu_same _ _ _ _
    have b := (h.2.2.1 x hx).2
    have e2 : eX (emB X k x) x = eX X x + 1 := by show (emB X k x 86 x).toNatClampNeg = _; rw [e1, nI_clamp (by omega)]
    rw [e1, e2]
    exact ⟨rfl, by omega⟩
  · have e1 : emB X k i 86 x = X 86 x := by show mu _ 86 i _ 86 x = _; rw [mu_k _ _ _ hxi]; rfl
    have e2 : eX (emB X k i) x = eX X x := by show (emB X k i 86 x).toNatClampNeg = _; rw [e1]; rfl
    rw [e1, e2]
    exact h.2.2.2 x hx
set_option maxHeartbeats 4000000 in
set_option maxRecDepth 100000 in
theorem fm_fill (l : Launch) (D : va_G) (dA : Nat → ClassId) (M : Mem) (ch : Int32) (c0 : Nat) (ln : Nat → Nat) (hL : FL M c0 ln) : CF l D dA k_Mod_fill 0 [.ref 76, .int ch] M (none) (flM c0 ch 22 8 0 (-1) 0 M) := by
  refine CF.of (by decide +kernel) (Nat.le_of_ble_eq_true rfl) (by intro v hv; simp only [List.mem_cons, List.not_mem_nil, or_false] at hv; rcases hv with rfl | rfl <;> rfl) ?_
  intro A ad0 p e s m args below meth c C hr
  refine J_iconst C d_Mod_fill_0 (v := nI 0) rfl ?_
  refine J_istore_n C 2 d_Mod_fill_1 rfl (by decide) rfl ?_
  refine J_iconst C d_Mod_fill_2 (v := -1) rfl ?_
  refine J_istore_n C 3 d_Mod_fill_3 rfl (by decide) rfl ?_
  refine J_iconst C d_Mod_fill_4 (v := nI 0) rfl ?_
  refine J_istore C d_Mod_fill_5 (by decide) rfl ?_
  refine J_bipush C d_Mod_fill_7 (v := nI 8) rfl ?_
  refine J_istore C d_Mod_fill_9 (by decide) rfl ?_
  generalize hM9 : flM c0 ch 22 8 0 (-1) 0 M = M9
  have lp : ∀ (fu k q so : Nat) (pt : Int32) (X : Mem), 30 - k < fu → 8 ≤ k → k ≤ 30 → q ≤ c0 → so ≤ 1 → FL X c0 ln → flM c0 ch (30 - k) k q pt so X = M9 → J D dA A (fun _ _ => True) ad0 90 k_Mod_fill.2.2.1 p l e (zR 0 0 0) s m args below meth c (FQ D dA A ad0 below args s (none) (M9)) 11 [some (.ref 76), some (.int ch), some (.int (nI q)), some (.int pt), some (.int (nI so)), some (.int (nI k))] [] (E X) 90 0 0 := by
    intro fu
    induction fu with
    | zero => intro k q so pt X hfu; exact absurd hfu (Nat.not_lt_zero _)
    | succ fu ih =>
      intro k q so pt X hfu h8 h30 hq hso hL hF
      have hc24 := hL.2.1
      have lpi : ∀ (fu q : Nat), c0 - q < fu → q ≤ c0 → (∀ x, x = skX X c0 ch fu q → x ≤ c0 → (x < c0 → ¬ X 86 x = X 83 x) → J D dA A (fun _ _ => True) ad0 90 k_Mod_fill.2.2.1 p l e (zR 0 0 0) s m args below meth c (FQ D dA A ad0 below args s (none) (M9)) 64 [some (.ref 76), some (.int ch), some (.int (nI x)), some (.int pt), some (.int (nI so)), some (.int (nI k))] [] (E X) 90 0 0) → J D dA A (fun _ _ => True) ad0 90 k_Mod_fill.2.2.1 p l e (zR 0 0 0) s m args below meth c (FQ D dA A ad0 below args s (none) (M9)) 18 [some (.ref 76), some (.int ch), some (.int (nI q)), some (.int pt), some (.int (nI so)), some (.int (nI k))] [] (E X) 90 0 0 := by
        intro fu
        induction fu with
        | zero => intro q hfu; exact absurd hfu (Nat.not_lt_zero _)
        | succ fu ih =>
          intro q hfu hq hK
          refine J_iload_n C 2 d_Mod_fill_18 rfl rfl ?_
          refine J_aload_n C 0 d_Mod_fill_19 rfl rfl ?_
          refine J_get C f_Mod_58 (by decide) (e_76 _) rfl d_Mod_fill_20 ?_
          refine J_val (y := nI c0) hL.1 ?_
          refine J_icmpN_ge C 64 d_Mod_fill_23 (by decide) (by omega) (by omega) (fun hc23 => ?_) (fun hc23 => ?_)
          · exact hK q (if_neg (by omega : ¬ q < c0)).symm hq (fun z => absurd z (by omega))
          · refine J_aload_n C 0 d_Mod_fill_26 rfl rfl ?_
            refine J_get C f_Mod_67 (by decide) (e_76 _) rfl d_Mod_fill_27 ?_
            refine J_bipush C d_Mod_fill_30 (v := nI 60) rfl ?_
            refine J_iload_n C 2 d_Mod_fill_32 rfl rfl ?_
            refine J_imulN C d_Mod_fill_33 ?_
            refine J_iconst C d_Mod_fill_34 (v := nI 1) rfl ?_
            refine J_iaddN C d_Mod_fill_35 ?_
            refine K_ial C a_84 (j := (60 * q) + 1) rfl (by omega) d_Mod_fill_36 ?_
            refine J_iconst C d_Mod_fill_37 (v := nI 1) rfl ?_
            refine J_iand C d_Mod_fill_38 ?_
            refine J_iload_n C 1 d_Mod_fill_39 rfl rfl ?_
            refine J_icmp_ne C 58 d_Mod_fill_40 (by decide) (fun hc40 => ?_) (fun hc40 => ?_)
            · refine J_iinc C d_Mod_fill_58 rfl (v := nI (q + 1)) (nI_1 _) (by decide) rfl ?_
              refine J_goto C 18 d_Mod_fill_61 (by decide) ?_
              have hs : skX X c0 ch (fu + 1) q = skX X c0 ch fu (q + 1) := (if_pos hc23).trans (if_neg hc40)
              exact ih (q + 1) (by omega) (by omega) (fun x h1 h2 h3 => hK x (h1.trans hs.symm) h2 h3)
            · refine J_aload_n C 0 d_Mod_fill_43 rfl rfl ?_
              refine J_get C f_Mod_73 (by decide) (e_76 _) rfl d_Mod_fill_44 ?_
              refine J_iload_n C 2 d_Mod_fill_47 rfl rfl ?_
              refine K_ial C a_86 (j := q) rfl (by omega) d_Mod_fill_48 ?_
              refine J_aload_n C 0 d_Mod_fill_49 rfl rfl ?_
              refine J_get C f_Mod_64 (by decide) (e_76 _) rfl d_Mod_fill_50 ?_
              refine J_iload_n C 2 d_Mod_fill_53 rfl rfl ?_
              refine K_ial C a_83 (j := q) rfl (by omega) d_Mod_fill_54 ?_
              refine J_icmp_ne C 64 d_Mod_fill_55 (by decide) (fun hc55 => ?_) (fun hc55 => ?_)
              · exact hK q (((if_pos hc23).trans (if_pos hc40)).trans (if_neg hc55)).symm hq (fun _ => hc55)
              · refine J_iinc C d_Mod_fill_58 rfl (v := nI (q + 1)) (nI_1 _) (by decide) rfl ?_
                refine J_goto C 18 d_Mod_fill_61 (by decide) ?_
                have hs : skX X c0 ch (fu + 1) q = skX X c0 ch fu (q + 1) := ((if_pos hc23).trans (if_pos hc40)).trans (if_pos hc55)
                exact ih (q + 1) (by omega) (by omega) (fun x h1 h2 h3 => hK x (h1.trans hs.symm) h2 h3)
      refine J_iload C d_Mod_fill_11 rfl ?_
      refine J_bipush C d_Mod_fill_13 (v := nI 30) rfl ?_
      refine J_icmpN_ge C 149 d_Mod_fill_15 (by decide) (by omega) (by omega) (fun hc15 => ?_) (fun hc15 => ?_)
      · refine J_iload_n C 3 d_Mod_fill_149 rfl rfl ?_
        refine J_if_lt C 157 d_Mod_fill_150 (by decide) (fun hc150 => ?_) (fun hc150 => ?_)
        · refine J_iload C d_Mod_fill_157 rfl ?_
          refine J_ifN_eq C 168 d_Mod_fill_159 (by decide) (by omega) (fun hc159 => ?_) (fun hc159 => ?_)
          · refine J_sipush C d_Mod_fill_168 (v := nI 2046) rfl ?_
            refine J_istore C d_Mod_fill_171 (by decide) rfl ?_
            refine J_aload_n C 0 d_Mod_fill_173 rfl rfl ?_
            refine J_get C f_Mod_85 (by decide) (e_76 _) rfl d_Mod_fill_174 ?_
            refine J_bipush C d_Mod_fill_177 (v := nI 6) rfl ?_
            refine J_iload C d_Mod_fill_179 rfl ?_
            refine J_bipush C d_Mod_fill_181 (v := nI 8) rfl ?_
            refine J_ishr C d_Mod_fill_183 ?_
            refine K_ias C a_87 (j := 6) rfl (by omega) d_Mod_fill_184 (kk := ?_)
            refine J_aload_n C 0 d_Mod_fill_185 rfl rfl ?_
            refine J_get C f_Mod_85 (by decide) (e_76 _) rfl d_Mod_fill_186 ?_
            refine J_bipush C d_Mod_fill_189 (v := nI 7) rfl ?_
            refine J_iload C d_Mod_fill_191 rfl ?_
            refine J_sipush C d_Mod_fill_193 (v := nI 255) rfl ?_
            refine J_iand C d_Mod_fill_196 ?_
            refine K_ias C a_87 (j := 7) rfl (by omega) d_Mod_fill_197 (kk := ?_)
            exact F_ret C hr (by rw [show 30 - k = 0 by omega] at hF; rw [← hF]; show _ = endF X (toldX pt so); unfold endF toldX; skip; (first | rw [if_pos hc150] | rw [if_neg hc150] | rw [if_neg (Int32.not_lt.mpr hc150)]); (first | rw [if_pos hc159] | rw [if_neg hc159] | rw [if_neg (Int32.not_lt.mpr hc159)])) d_Mod_fill_198
          · refine J_sipush C d_Mod_fill_162 (v := nI 2047) rfl ?_
            refine J_goto C 171 d_Mod_fill_165 (by decide) ?_
            refine J_istore C d_Mod_fill_171 (by decide) rfl ?_
            refine J_aload_n C 0 d_Mod_fill_173 rfl rfl ?_
            refine J_get C f_Mod_85 (by decide) (e_76 _) rfl d_Mod_fill_174 ?_
            refine J_bipush C d_Mod_fill_177 (v := nI 6) rfl ?_
            refine J_iload C d_Mod_fill_179 rfl ?_
            refine J_bipush C d_Mod_fill_181 (v := nI 8) rfl ?_
            refine J_ishr C d_Mod_fill_183 ?_
            refine K_ias C a_87 (j := 6) rfl (by omega) d_Mod_fill_184 (kk := ?_)
            refine J_aload_n C 0 d_Mod_fill_185 rfl rfl ?_
            refine J_get C f_Mod_85 (by decide) (e_76 _) rfl d_Mod_fill_186 ?_
            refine J_bipush C d_Mod_fill_189 (v := nI 7) rfl ?_
            refine J_iload C d_Mod_fill_191 rfl ?_
            refine J_sipush C d_Mod_fill_193 (v := nI 255) rfl ?_
            refine J_iand C d_Mod_fill_196 ?_
            refine K_ias C a_87 (j := 7) rfl (by omega) d_Mod_fill_197 (kk := ?_)
            exact F_ret C hr (by rw [show 30 - k = 0 by omega] at hF; rw [← hF]; show _ = endF X (toldX pt so); unfold endF toldX; skip; (first | rw [if_pos hc150] | rw [if_neg hc150] | rw [if_neg (Int32.not_lt.mpr hc150)]); (first | rw [if_pos hc159] | rw [if_neg hc159] | rw [if_neg (Int32.not_lt.mpr hc159)])) d_Mod_fill_198
        · refine J_iload_n C 3 d_Mod_fill_153 rfl rfl ?_
          refine J_goto C 171 d_Mod_fill_154 (by decide) ?_
          refine J_istore C d_Mod_fill_171 (by decide) rfl ?_
          refine J_aload_n C 0 d_Mod_fill_173 rfl rfl ?_
          refine J_get C f_Mod_85 (by decide) (e_76 _) rfl d_Mod_fill_174 ?_
          refine J_bipush C d_Mod_fill_177 (v := nI 6) rfl ?_
          refine J_iload C d_Mod_fill_179 rfl ?_
          refine J_bipush C d_Mod_fill_181 (v := nI 8) rfl ?_
          refine J_ishr C d_Mod_fill_183 ?_
          refine K_ias C a_87 (j := 6) rfl (by omega) d_Mod_fill_184 (kk := ?_)
          refine J_aload_n C 0 d_Mod_fill_185 rfl rfl ?_
          refine J_get C f_Mod_85 (by decide) (e_76 _) rfl d_Mod_fill_186 ?_
          refine J_bipush C d_Mod_fill_189 (v := nI 7) rfl ?_
          refine J_iload C d_Mod_fill_191 rfl ?_
          refine J_sipush C d_Mod_fill_193 (v := nI 255) rfl ?_
          refine J_iand C d_Mod_fill_196 ?_
          refine K_ias C a_87 (j := 7) rfl (by omega) d_Mod_fill_197 (kk := ?_)
          exact F_ret C hr (by rw [show 30 - k = 0 by omega] at hF; rw [← hF]; show _ = endF X (toldX pt so); unfold endF toldX; skip; (first | rw [if_pos hc150] | rw [if_neg hc150] | rw [if_neg (Int32.not_lt.mpr hc150)])) d_Mod_fill_198
      · refine lpi 25 q (by omega) hq (fun x h1 h2 h3 => ?_)
        rw [show 30 - k = (30 - (k + 1)) + 1 by omega] at hF
        unfold flM at hF
        rw [← h1] at hF
        refine J_iload_n C 2 d_Mod_fill_64 rfl rfl ?_
        refine J_aload_n C 0 d_Mod_fill_65 rfl rfl ?_
        refine J_get C f_Mod_58 (by decide) (e_76 _) rfl d_Mod_fill_66 ?_
        refine J_val (y := nI c0) hL.1 ?_
        refine J_icmpN_ne C 84 d_Mod_fill_69 (by decide) (by omega) (by omega) (fun hc69 => ?_) (fun hc69 => ?_)
        · have hxc : x < c0 := by omega
          have b1 := hL.2.2.2 x hxc
          have b2 := hL.2.2.1 x hxc
          have hlt : eX X x < ln x := by
            rcases Nat.lt_or_ge (eX X x) (ln x) with z | z
            · exact z
            · exact absurd (by rw [b1.1, b2.1, show eX X x = ln x by omega]) (h3 hxc)
          refine J_aload_n C 0 d_Mod_fill_84 rfl rfl ?_
          refine J_get C f_Mod_73 (by decide) (e_76 _) rfl d_Mod_fill_85 ?_
          refine J_iload_n C 2 d_Mod_fill_88 rfl rfl ?_
          refine K_ial C a_86 (j := x) rfl (by omega) d_Mod_fill_89 ?_
          refine J_val (y := nI (eX X x)) (hL.2.2.2 x (by omega)).1 ?_
          refine J_ifN_ne C 103 d_Mod_fill_90 (by decide) (by omega) (fun hc90 => ?_) (fun hc90 => ?_)
          · refine J_iconst C d_Mod_fill_103 (v := nI 1) rfl ?_
            refine J_istore C d_Mod_fill_104 (by decide) rfl ?_
            refine J_aload_n C 0 d_Mod_fill_106 rfl rfl ?_
            refine J_get C f_Mod_85 (by decide) (e_76 _) rfl d_Mod_fill_107 ?_
            refine J_iload C d_Mod_fill_110 rfl ?_
            refine J_aload_n C 0 d_Mod_fill_112 rfl rfl ?_
            refine J_get C f_Mod_67 (by decide) (e_76 _) rfl d_Mod_fill_113 ?_
            refine J_bipush C d_Mod_fill_116 (v := nI 60) rfl ?_
            refine J_iload_n C 2 d_Mod_fill_118 rfl rfl ?_
            refine J_imulN C d_Mod_fill_119 ?_
            refine J_aload_n C 0 d_Mod_fill_120 rfl rfl ?_
            refine J_get C f_Mod_73 (by decide) (e_76 _) rfl d_Mod_fill_121 ?_
            refine J_iload_n C 2 d_Mod_fill_124 rfl rfl ?_
            refine K_ial C a_86 (j := x) rfl (by omega) d_Mod_fill_125 ?_
            refine J_val (y := nI (eX X x)) (hL.2.2.2 x (by omega)).1 ?_
            refine J_iaddN C d_Mod_fill_126 ?_
            refine K_ial C a_84 (j := (60 * x) + (eX X x)) rfl (by omega) d_Mod_fill_127 ?_
            refine K_ias C a_87 (j := k) rfl (by omega) d_Mod_fill_128 (kk := ?_)
            refine J_aload_n C 0 d_Mod_fill_129 rfl rfl ?_
            refine J_get C f_Mod_73 (by decide) (e_76 _) rfl d_Mod_fill_130 ?_
            refine J_iload_n C 2 d_Mod_fill_133 rfl rfl ?_
            refine J_aload_n C 0 d_Mod_fill_134 rfl rfl ?_
            refine J_get C f_Mod_73 (by decide) (e_76 _) rfl d_Mod_fill_135 ?_
            refine J_iload_n C 2 d_Mod_fill_138 rfl rfl ?_
            refine K_ial C a_86 (j := x) rfl (by omega) d_Mod_fill_139 ?_
            refine J_val (y := nI (eX X x)) (hL.2.2.2 x (by omega)).1 ?_
            refine J_iconst C d_Mod_fill_140 (v := nI 1) rfl ?_
            refine J_iaddN C d_Mod_fill_141 ?_
            refine K_ias C a_86 (j := x) rfl (by omega) d_Mod_fill_142 (kk := ?_)
            refine J_iinc C d_Mod_fill_143 rfl (v := nI (k + 1)) (nI_1 _) (by decide) rfl ?_
            refine J_goto C 11 d_Mod_fill_146 (by decide) ?_
            rw [if_neg hc69] at hF
            rw [if_neg hc90] at hF
            exact ih _ _ _ _ _ (by omega) (by omega) (by omega) h2 (by omega) (hL.em1 k (by omega) hlt) hF
          · refine J_iload_n C 3 d_Mod_fill_93 rfl rfl ?_
            refine J_if_ge C 103 d_Mod_fill_94 (by decide) (fun hc94 => ?_) (fun hc94 => ?_)
            · refine J_iconst C d_Mod_fill_103 (v := nI 1) rfl ?_
              refine J_istore C d_Mod_fill_104 (by decide) rfl ?_
              refine J_aload_n C 0 d_Mod_fill_106 rfl rfl ?_
              refine J_get C f_Mod_85 (by decide) (e_76 _) rfl d_Mod_fill_107 ?_
              refine J_iload C d_Mod_fill_110 rfl ?_
              refine J_aload_n C 0 d_Mod_fill_112 rfl rfl ?_
              refine J_get C f_Mod_67 (by decide) (e_76 _) rfl d_Mod_fill_113 ?_
              refine J_bipush C d_Mod_fill_116 (v := nI 60) rfl ?_
              refine J_iload_n C 2 d_Mod_fill_118 rfl rfl ?_
              refine J_imulN C d_Mod_fill_119 ?_
              refine J_aload_n C 0 d_Mod_fill_120 rfl rfl ?_
              refine J_get C f_Mod_73 (by decide) (e_76 _) rfl d_Mod_fill_121 ?_
              refine J_iload_n C 2 d_Mod_fill_124 rfl rfl ?_
              refine K_ial C a_86 (j := x) rfl (by omega) d_Mod_fill_125 ?_
              refine J_val (y := nI (eX X x)) (hL.2.2.2 x (by omega)).1 ?_
              refine J_iaddN C d_Mod_fill_126 ?_
              refine K_ial C a_84 (j := (60 * x) + (eX X x)) rfl (by omega) d_Mod_fill_127 ?_
              refine K_ias C a_87 (j := k) rfl (by omega) d_Mod_fill_128 (kk := ?_)
              refine J_aload_n C 0 d_Mod_fill_129 rfl rfl ?_
              refine J_get C f_Mod_73 (by decide) (e_76 _) rfl d_Mod_fill_130 ?_
              refine J_iload_n C 2 d_Mod_fill_133 rfl rfl ?_
              refine J_aload_n C 0 d_Mod_fill_134 rfl rfl ?_
              refine J_get C f_Mod_73 (by decide) (e_76 _) rfl d_Mod_fill_135 ?_
              refine J_iload_n C 2 d_Mod_fill_138 rfl rfl ?_
              refine K_ial C a_86 (j := x) rfl (by omega) d_Mod_fill_139 ?_
              refine J_val (y := nI (eX X x)) (hL.2.2.2 x (by omega)).1 ?_
              refine J_iconst C d_Mod_fill_140 (v := nI 1) rfl ?_
              refine J_iaddN C d_Mod_fill_141 ?_
              refine K_ias C a_86 (j := x) rfl (by omega) d_Mod_fill_142 (kk := ?_)
              refine J_iinc C d_Mod_fill_143 rfl (v := nI (k + 1)) (nI_1 _) (by decide) rfl ?_
              refine J_goto C 11 d_Mod_fill_146 (by decide) ?_
              rw [if_neg hc69] at hF
              rw [if_pos hc90, if_neg (Int32.not_lt.mpr hc94)] at hF
              exact ih _ _ _ _ _ (by omega) (by omega) (by omega) h2 (by omega) (hL.em1 k (by omega) hlt) hF
            · refine J_iload C d_Mod_fill_97 rfl ?_
              refine J_bipush C d_Mod_fill_99 (v := nI 8) rfl ?_
              refine J_isubN C d_Mod_fill_101 (by omega) ?_
              refine J_istore_n C 3 d_Mod_fill_102 rfl (by decide) rfl ?_
              refine J_iconst C d_Mod_fill_103 (v := nI 1) rfl ?_
              refine J_istore C d_Mod_fill_104 (by decide) rfl ?_
              refine J_aload_n C 0 d_Mod_fill_106 rfl rfl ?_
              refine J_get C f_Mod_85 (by decide) (e_76 _) rfl d_Mod_fill_107 ?_
              refine J_iload C d_Mod_fill_110 rfl ?_
              refine J_aload_n C 0 d_Mod_fill_112 rfl rfl ?_
              refine J_get C f_Mod_67 (by decide) (e_76 _) rfl d_Mod_fill_113 ?_
              refine J_bipush C d_Mod_fill_116 (v := nI 60) rfl ?_
              refine J_iload_n C 2 d_Mod_fill_118 rfl rfl ?_
              refine J_imulN C d_Mod_fill_119 ?_
              refine J_aload_n C 0 d_Mod_fill_120 rfl rfl ?_
              refine J_get C f_Mod_73 (by decide) (e_76 _) rfl d_Mod_fill_121 ?_
              refine J_iload_n C 2 d_Mod_fill_124 rfl rfl ?_
              refine K_ial C a_86 (j := x) rfl (by omega) d_Mod_fill_125 ?_
              refine J_val (y := nI (eX X x)) (hL.2.2.2 x (by omega)).1 ?_
              refine J_iaddN C d_Mod_fill_126 ?_
              refine K_ial C a_84 (j := (60 * x) + (eX X x)) rfl (by omega) d_Mod_fill_127 ?_
              refine K_ias C a_87 (j := k) rfl (by omega) d_Mod_fill_128 (kk := ?_)
              refine J_aload_n C 0 d_Mod_fill_129 rfl rfl ?_
              refine J_get C f_Mod_73 (by decide) (e_76 _) rfl d_Mod_fill_130 ?_
              refine J_iload_n C 2 d_Mod_fill_133 rfl rfl ?_
              refine J_aload_n C 0 d_Mod_fill_134 rfl rfl ?_
              refine J_get C f_Mod_73 (by decide) (e_76 _) rfl d_Mod_fill_135 ?_
              refine J_iload_n C 2 d_Mod_fill_138 rfl rfl ?_
              refine K_ial C a_86 (j := x) rfl (by omega) d_Mod_fill_139 ?_
              refine J_val (y := nI (eX X x)) (hL.2.2.2 x (by omega)).1 ?_
              refine J_iconst C d_Mod_fill_140 (v := nI 1) rfl ?_
              refine J_iaddN C d_Mod_fill_141 ?_
              refine K_ias C a_86 (j := x) rfl (by omega) d_Mod_fill_142 (kk := ?_)
              refine J_iinc C d_Mod_fill_143 rfl (v := nI (k + 1)) (nI_1 _) (by decide) rfl ?_
              refine J_goto C 11 d_Mod_fill_146 (by decide) ?_
              rw [if_neg hc69] at hF
              rw [if_pos hc90, if_pos (Int32.not_le.mp hc94)] at hF
              exact ih _ _ _ _ _ (by omega) (by omega) (by omega) h2 (by omega) (hL.em1 k (by omega) hlt) hF
        · refine J_aload_n C 0 d_Mod_fill_72 rfl rfl ?_
          refine J_get C f_Mod_85 (by decide) (e_76 _) rfl d_Mod_fill_73 ?_
          refine J_iload C d_Mod_fill_76 rfl ?_
          refine J_bipush C d_Mod_fill_78 (v := nI 85) rfl ?_
          refine K_ias C a_87 (j := k) rfl (by omega) d_Mod_fill_80 (kk := ?_)
          refine J_goto C 143 d_Mod_fill_81 (by decide) ?_
          refine J_iinc C d_Mod_fill_143 rfl (v := nI (k + 1)) (nI_1 _) (by decide) rfl ?_
          refine J_goto C 11 d_Mod_fill_146 (by decide) ?_
          rw [if_pos hc69] at hF
          exact ih _ _ _ _ _ (by omega) (by omega) (by omega) h2 hso (hL.p87 _ _) hF
  exact lp 23 8 0 0 (-1) M (by omega) (by omega) (by omega) (by omega) (by omega) hL hM9
