set_option maxRecDepth 20000 in
theorem m_Lan_24 : Cond.methodLink "RelayOrbiter$LanderLink" 24 Lib.Math.min.name ∈ tb := tb_in 524 (by decide +kernel) (by decide +kernel)
set_option maxRecDepth 20000 in
theorem m_Lan_30 : Cond.methodLink "RelayOrbiter$LanderLink" 30 arraycopyName ∈ tb := tb_in 527 (by decide +kernel) (by decide +kernel)
set_option maxRecDepth 20000 in
theorem m_Frm_17 : Cond.methodLink "RelayOrbiter$Frame" 17 Lib.Math.min.name ∈ tb := tb_in 538 (by decide +kernel) (by decide +kernel)
set_option maxRecDepth 20000 in
theorem m_Frm_23 : Cond.methodLink "RelayOrbiter$Frame" 23 Lib.Math.max.name ∈ tb := tb_in 539 (by decide +kernel) (by decide +kernel)
set_option maxRecDepth 20000 in
theorem m_Frm_26 : Cond.methodLink "RelayOrbiter$Frame" 26 arraycopyName ∈ tb := tb_in 542 (by decide +kernel) (by decide +kernel)
set_option maxRecDepth 20000 in
theorem m_Str_29 : Cond.methodLink "RelayOrbiter$Stream" 29 arraycopyName ∈ tb := tb_in 649 (by decide +kernel) (by decide +kernel)
set_option maxRecDepth 20000 in
theorem m_Sto_82 : Cond.methodLink "RelayOrbiter$Store" 82 Lib.Math.min.name ∈ tb := tb_in 664 (by decide +kernel) (by decide +kernel)
set_option maxRecDepth 20000 in
theorem m_Sto_88 : Cond.methodLink "RelayOrbiter$Store" 88 arraycopyName ∈ tb := tb_in 665 (by decide +kernel) (by decide +kernel)
set_option maxRecDepth 20000 in
theorem ms_min : Cond.static Lib.Math.min.name ∈ tb := tb_in 525 (by decide +kernel) (by decide +kernel)
set_option maxRecDepth 20000 in
theorem mc_min : Cond.code Lib.Math.min.name Lib.Math.min.code 2 (some .int) ∈ tb := tb_in 526 (by decide +kernel) (by decide +kernel)
set_option maxRecDepth 20000 in
theorem ms_max : Cond.static Lib.Math.max.name ∈ tb := tb_in 540 (by decide +kernel) (by decide +kernel)
set_option maxRecDepth 20000 in
theorem mc_max : Cond.code Lib.Math.max.name Lib.Math.max.code 2 (some .int) ∈ tb := tb_in 541 (by decide +kernel) (by decide +kernel)
set_option maxRecDepth 20000 in
theorem mi_Math : Cond.initialized "java/lang/Math" ∈ tb := tb_in 61 (by decide +kernel) (by decide +kernel)
set_option maxRecDepth 20000 in
theorem mi_Sys : Cond.initialized "java/lang/System" ∈ tb := tb_in 62 (by decide +kernel) (by decide +kernel)
set_option maxRecDepth 20000 in
theorem mn_copy : Cond.native arraycopyName ∈ tb := tb_in 529 (by decide +kernel) (by decide +kernel)
set_option maxRecDepth 20000 in
theorem ms_copy : Cond.static arraycopyName ∈ tb := tb_in 528 (by decide +kernel) (by decide +kernel)
set_option maxRecDepth 20000 in
theorem xin_IllegalArgumentException : Cond.instantiable "java/lang/IllegalArgumentException" 6 ∈ tb := tb_in 380 (by decide +kernel) (by decide +kernel)
set_option maxRecDepth 20000 in
theorem xini_IllegalArgumentException : Cond.initialized "java/lang/IllegalArgumentException" ∈ tb := tb_in 59 (by decide +kernel) (by decide +kernel)
set_option maxRecDepth 20000 in
theorem xself_IllegalArgumentException : Cond.castable "java/lang/IllegalArgumentException" "java/lang/IllegalArgumentException" ∈ tb := tb_in 381 (by decide +kernel) (by decide +kernel)
set_option maxRecDepth 20000 in
theorem xcl_Law_13 : Cond.classLink "RelayOrbiterLaw" 13 "java/lang/IllegalArgumentException" ∈ tb := tb_in 371 (by decide +kernel) (by decide +kernel)
set_option maxRecDepth 20000 in
theorem xcl_Orb_57 : Cond.classLink "RelayOrbiter" 57 "java/lang/IllegalArgumentException" ∈ tb := tb_in 379 (by decide +kernel) (by decide +kernel)
set_option maxRecDepth 20000 in
theorem xab_Orb_59 : (Bundle.ownAtoms0 "RelayOrbiter" 59 "java/lang/IllegalArgumentException" ["java/lang/RuntimeException", "java/lang/Exception"]).all (fun w => decide (w ∈ tb) || zIsSC w) = true := by decide +kernel
theorem xat_Orb_59 : ∀ w ∈ Bundle.ownAtoms0 "RelayOrbiter" 59 "java/lang/IllegalArgumentException" ["java/lang/RuntimeException", "java/lang/Exception"], w ∈ tb ∨ zIsSC w = true := fun w hw => by
  have h := List.all_eq_true.mp xab_Orb_59 w hw
  rw [Bool.or_eq_true, decide_eq_true_eq] at h
  exact h
set_option maxRecDepth 20000 in
theorem xin_UnsupportedOperationException : Cond.instantiable "java/lang/UnsupportedOperationException" 6 ∈ tb := tb_in 480 (by decide +kernel) (by decide +kernel)
set_option maxRecDepth 20000 in
theorem xini_UnsupportedOperationException : Cond.initialized "java/lang/UnsupportedOperationException" ∈ tb := tb_in 60 (by decide +kernel) (by decide +kernel)
set_option maxRecDepth 20000 in
theorem xself_UnsupportedOperationException : Cond.castable "java/lang/UnsupportedOperationException" "java/lang/UnsupportedOperationException" ∈ tb := tb_in 481 (by decide +kernel) (by decide +kernel)
set_option maxRecDepth 20000 in
theorem xcl_Law_27 : Cond.classLink "RelayOrbiterLaw" 27 "java/lang/UnsupportedOperationException" ∈ tb := tb_in 474 (by decide +kernel) (by decide +kernel)
set_option maxRecDepth 20000 in
theorem xcl_Orb_75 : Cond.classLink "RelayOrbiter" 75 "java/lang/UnsupportedOperationException" ∈ tb := tb_in 479 (by decide +kernel) (by decide +kernel)
set_option maxRecDepth 20000 in
theorem xab_Orb_77 : (Bundle.ownAtoms0 "RelayOrbiter" 77 "java/lang/UnsupportedOperationException" ["java/lang/RuntimeException", "java/lang/Exception"]).all (fun w => decide (w ∈ tb) || zIsSC w) = true := by decide +kernel
theorem xat_Orb_77 : ∀ w ∈ Bundle.ownAtoms0 "RelayOrbiter" 77 "java/lang/UnsupportedOperationException" ["java/lang/RuntimeException", "java/lang/Exception"], w ∈ tb ∨ zIsSC w = true := fun w hw => by
  have h := List.all_eq_true.mp xab_Orb_77 w hw
  rw [Bool.or_eq_true, decide_eq_true_eq] at h
  exact h
set_option maxRecDepth 20000 in
theorem xin_IllegalStateException : Cond.instantiable "java/lang/IllegalStateException" 6 ∈ tb := tb_in 703 (by decide +kernel) (by decide +kernel)
set_option maxRecDepth 20000 in
theorem xini_IllegalStateException : Cond.initialized "java/lang/IllegalStateException" ∈ tb := tb_in 63 (by decide +kernel) (by decide +kernel)
set_option maxRecDepth 20000 in
theorem xself_IllegalStateException : Cond.castable "java/lang/IllegalStateException" "java/lang/IllegalStateException" ∈ tb := tb_in 704 (by decide +kernel) (by decide +kernel)
set_option maxRecDepth 20000 in
theorem xcl_Law_36 : Cond.classLink "RelayOrbiterLaw" 36 "java/lang/IllegalStateException" ∈ tb := tb_in 697 (by decide +kernel) (by decide +kernel)
set_option maxRecDepth 20000 in
theorem xcl_Orb_89 : Cond.classLink "RelayOrbiter" 89 "java/lang/IllegalStateException" ∈ tb := tb_in 702 (by decide +kernel) (by decide +kernel)
set_option maxRecDepth 20000 in
theorem xab_Orb_91 : (Bundle.ownAtoms0 "RelayOrbiter" 91 "java/lang/IllegalStateException" ["java/lang/RuntimeException", "java/lang/Exception"]).all (fun w => decide (w ∈ tb) || zIsSC w) = true := by decide +kernel
theorem xat_Orb_91 : ∀ w ∈ Bundle.ownAtoms0 "RelayOrbiter" 91 "java/lang/IllegalStateException" ["java/lang/RuntimeException", "java/lang/Exception"], w ∈ tb ∨ zIsSC w = true := fun w hw => by
  have h := List.all_eq_true.mp xab_Orb_91 w hw
  rw [Bool.or_eq_true, decide_eq_true_eq] at h
  exact h
set_option maxRecDepth 20000 in
theorem xin_IndexOutOfBoundsException : Cond.instantiable "java/lang/IndexOutOfBoundsException" 6 ∈ tb := tb_in 1039 (by decide +kernel) (by decide +kernel)
set_option maxRecDepth 20000 in
theorem xini_IndexOutOfBoundsException : Cond.initialized "java/lang/IndexOutOfBoundsException" ∈ tb := tb_in 73 (by decide +kernel) (by decide +kernel)
set_option maxRecDepth 20000 in
theorem xself_IndexOutOfBoundsException : Cond.castable "java/lang/IndexOutOfBoundsException" "java/lang/IndexOutOfBoundsException" ∈ tb := tb_in 1040 (by decide +kernel) (by decide +kernel)
set_option maxRecDepth 20000 in
theorem xcl_Law_41 : Cond.classLink "RelayOrbiterLaw" 41 "java/lang/IndexOutOfBoundsException" ∈ tb := tb_in 1029 (by decide +kernel) (by decide +kernel)
set_option maxRecDepth 20000 in
theorem xcl_Orb_99 : Cond.classLink "RelayOrbiter" 99 "java/lang/IndexOutOfBoundsException" ∈ tb := tb_in 1038 (by decide +kernel) (by decide +kernel)
set_option maxRecDepth 20000 in
theorem xab_Orb_101 : (Bundle.ownAtoms0 "RelayOrbiter" 101 "java/lang/IndexOutOfBoundsException" ["java/lang/RuntimeException", "java/lang/Exception"]).all (fun w => decide (w ∈ tb) || zIsSC w) = true := by decide +kernel
theorem xat_Orb_101 : ∀ w ∈ Bundle.ownAtoms0 "RelayOrbiter" 101 "java/lang/IndexOutOfBoundsException" ["java/lang/RuntimeException", "java/lang/Exception"], w ∈ tb ∨ zIsSC w = true := fun w hw => by
  have h := List.all_eq_true.mp xab_Orb_101 w hw
  rw [Bool.or_eq_true, decide_eq_true_eq] at h
  exact h
set_option maxRecDepth 20000 in
theorem xno_IllegalArgumentException_UnsupportedOperationException : Cond.not (.castable "java/lang/IllegalArgumentException" "java/lang/UnsupportedOperationException") ∈ tb := tb_in 1323 (by decide +kernel) (by decide +kernel)
set_option maxRecDepth 20000 in
theorem xno_IllegalStateException_UnsupportedOperationException : Cond.not (.castable "java/lang/IllegalStateException" "java/lang/UnsupportedOperationException") ∈ tb := tb_in 1324 (by decide +kernel) (by decide +kernel)
set_option maxRecDepth 20000 in
theorem xno_IllegalStateException_IllegalArgumentException : Cond.not (.castable "java/lang/IllegalStateException" "java/lang/IllegalArgumentException") ∈ tb := tb_in 1325 (by decide +kernel) (by decide +kernel)
set_option maxRecDepth 20000 in
theorem xno_IllegalArgumentException_IndexOutOfBoundsException : Cond.not (.castable "java/lang/IllegalArgumentException" "java/lang/IndexOutOfBoundsException") ∈ tb := tb_in 1326 (by decide +kernel) (by decide +kernel)
