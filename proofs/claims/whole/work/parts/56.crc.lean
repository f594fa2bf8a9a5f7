theorem bv_ush (x : Int32) (k : Nat) (hk : k < 32) : (ush x (nI k)).toBitVec = x.toBitVec >>> k := by
  unfold ush
  have h : ((nI k &&& 31).toUInt32.toBitVec.toNat % 32) = k := by
    revert k; decide
  show (x.toUInt32 >>> (nI k &&& 31).toUInt32).toBitVec = _
  rw [UInt32.toBitVec_shiftRight]
  show x.toBitVec >>> ((nI k &&& 31).toUInt32.toBitVec % 32) = _
  rw [BitVec.ushiftRight_eq', BitVec.toNat_umod]
  show x.toBitVec >>> ((nI k &&& 31).toUInt32.toBitVec.toNat % 32) = _
  rw [h]
theorem bv_sar (x : Int32) (k : Nat) (hk : k < 32) : (x >>> (nI k &&& 31)).toBitVec = x.toBitVec.sshiftRight k := by
  have h : ((nI k &&& 31).toBitVec.smod 32).toNat = k := by
    revert k; decide
  show BitVec.sshiftRight' x.toBitVec ((nI k &&& 31).toBitVec.smod 32) = _
  unfold BitVec.sshiftRight'
  rw [h]
theorem bv_shl (x : Int32) (k : Nat) (hk : k < 32) : (x <<< (nI k &&& 31)).toBitVec = x.toBitVec <<< k := by
  have h : ((nI k &&& 31).toBitVec.smod 32).toNat = k := by
    revert k; decide
  show x.toBitVec <<< ((nI k &&& 31).toBitVec.smod 32) = _
  rw [BitVec.shiftLeft_eq', h]
theorem i32_ext {a b : Int32} (h : a.toBitVec = b.toBitVec) : a = b := Int32.toBitVec_inj.mp h
/-- the bit chosen by the 32 bit check -/
theorem ch32 (row x : Int32) (k : Nat) (hk : k < 32) : ((ush row (nI 31) ^^^ ush x (nI k)) &&& nI 1) = (ush row (nI 31) ^^^ ((x >>> (nI k &&& 31)) &&& nI 1)) := by
  apply i32_ext
  simp only [Int32.toBitVec_and, Int32.toBitVec_xor, bv_ush _ _ hk, bv_ush _ _ (show 31 < 32 by decide), bv_sar _ _ hk]
  show (row.toBitVec >>> 31 ^^^ x.toBitVec >>> k) &&& 1#32 = row.toBitVec >>> 31 ^^^ (x.toBitVec.sshiftRight k &&& 1#32)
  ext i hi
  simp only [BitVec.getElem_and, BitVec.getElem_xor, BitVec.getElem_ushiftRight, BitVec.getElem_sshiftRight, BitVec.getElem_one]
  by_cases h0 : i = 0
  · subst h0
    simp [hk, BitVec.getLsbD_eq_getElem]
  · simp [h0]
    apply BitVec.getLsbD_of_ge
    omega
theorem crcS_32 (row x : Int32) (k : Nat) (hk : k < 32) : crcS 32 10487813 row x k = crcSM row x k := by
  unfold crcS crcSM
  rw [show 32 - 1 = 31 from rfl, ch32 row x k hk]
theorem crcBits_32 (x : Int32) : ∀ (r : Nat) (row : Int32), r ≤ 32 → crcBits 32 10487813 x r row = crcBitsM x r row
  | 0, _, _ => rfl
  | r + 1, row, h => by unfold crcBits crcBitsM; rw [crcS_32 _ _ _ (by omega), crcBits_32 x r _ (by omega)]
theorem crcAll_32 (f g : Nat → Int32) : ∀ (r i : Nat) (row : Int32), (∀ y, i ≤ y → y < i + r → f (3 + y) = g (3 + y)) → crcAll 32 10487813 f r (3 + i) row = crcAllM g r i row
  | 0, _, _, _ => rfl
  | r + 1, i, row, h => by
    unfold crcAll crcAllM
    rw [crcBits_32 _ _ _ (by omega), h i (by omega) (by omega), show 3 + i + 1 = 3 + (i + 1) by omega]
    exact crcAll_32 f g r (i + 1) _ (fun y a b => h y (by omega) (by omega))
theorem ch16 (row x : Int32) (k : Nat) (hk : k < 32) : ((ush row (nI 15) ^^^ ush x (nI k)) &&& nI 1) = (((row &&& 65535) >>> (nI 15 &&& 31)) ^^^ ((x >>> (nI k &&& 31)) &&& nI 1)) := by
  apply i32_ext
  simp only [Int32.toBitVec_and, Int32.toBitVec_xor, bv_ush _ _ hk, bv_ush _ _ (show 15 < 32 by decide), bv_sar _ _ hk, bv_sar _ _ (show 15 < 32 by decide)]
  show (row.toBitVec >>> 15 ^^^ x.toBitVec >>> k) &&& 1#32 = (row.toBitVec &&& 65535#32).sshiftRight 15 ^^^ (x.toBitVec.sshiftRight k &&& 1#32)
  rw [BitVec.sshiftRight_eq_of_msb_false (by rw [BitVec.msb_and]; simp; intro _; decide)]
  have e65 : ∀ i, (65535#32).getLsbD i = decide (i < 16) := fun i => by
    by_cases h : i < 32
    · revert i; decide
    · rw [BitVec.getLsbD_of_ge _ _ (by omega)]; simp; omega
  ext i hi
  simp only [BitVec.getElem_and, BitVec.getElem_xor, BitVec.getElem_ushiftRight, BitVec.getElem_sshiftRight, BitVec.getElem_one, BitVec.getLsbD_and, e65]
  by_cases h0 : i = 0
  · subst h0
    simp [hk, BitVec.getLsbD_eq_getElem]
  · simp [h0]
    intro _
    omega
theorem shl16 (row : Int32) : (row <<< (nI 1 &&& 31)) &&& 65535 = ((row &&& 65535) <<< (nI 1 &&& 31)) &&& 65535 := by
  apply i32_ext
  simp only [Int32.toBitVec_and, bv_shl _ _ (show 1 < 32 by decide)]
  show (row.toBitVec <<< 1) &&& 65535#32 = ((row.toBitVec &&& 65535#32) <<< 1) &&& 65535#32
  have e65 : ∀ i, (65535#32).getLsbD i = decide (i < 16) := fun i => by
    by_cases h : i < 32
    · revert i; decide
    · rw [BitVec.getLsbD_of_ge _ _ (by omega)]; simp; omega
  apply BitVec.eq_of_getLsbD_eq
  intro i hi
  simp only [BitVec.getLsbD_and, BitVec.getLsbD_shiftLeft, e65]
  by_cases h : i < 16
  · have : i - 1 < 16 := by omega
    simp [h, this]
  · simp [h]
theorem xor16 (a : Int32) : (a ^^^ nI 4129) &&& 65535 = (a &&& 65535) ^^^ nI 4129 := by
  apply i32_ext
  simp only [Int32.toBitVec_and, Int32.toBitVec_xor]
  show (a.toBitVec ^^^ 4129#32) &&& 65535#32 = (a.toBitVec &&& 65535#32) ^^^ 4129#32
  apply BitVec.eq_of_getLsbD_eq
  intro i hi
  simp only [BitVec.getLsbD_and, BitVec.getLsbD_xor]
  have e : (4129#32).getLsbD i = ((4129#32).getLsbD i && (65535#32).getLsbD i) := by revert i; decide
  rw [e]
  cases a.toBitVec.getLsbD i <;> cases (4129#32).getLsbD i <;> cases (65535#32).getLsbD i <;> rfl
theorem crcS_16 (row x : Int32) (k : Nat) (hk : k < 32) : crcS 16 4129 row x k &&& 65535 = crcS6 (row &&& 65535) x k := by
  unfold crcS crcS6
  rw [show 16 - 1 = 15 from rfl, ch16 row x k hk]
  by_cases h : ((row &&& 65535) >>> (nI 15 &&& 31)) ^^^ ((x >>> (nI k &&& 31)) &&& nI 1) = nI 1
  · rw [if_pos h, if_pos h, show (4129 : Int32) = nI 4129 from rfl, xor16, shl16]
  · rw [if_neg h, if_neg h, shl16]
theorem crcBits_16 (x : Int32) : ∀ (r : Nat) (row : Int32), r ≤ 32 → crcBits 16 4129 x r row &&& 65535 = crcBits6 x r (row &&& 65535)
  | 0, _, _ => rfl
  | r + 1, row, h => by unfold crcBits crcBits6; rw [crcBits_16 x r _ (by omega), crcS_16 _ _ _ (by omega)]
theorem crcAll_16 (f g : Nat → Int32) : ∀ (r i : Nat) (row : Int32), (∀ y, i ≤ y → y < i + r → f y = g y) → crcAll 16 4129 f r i row &&& 65535 = crcAll6 g r i (row &&& 65535)
  | 0, _, _, _ => rfl
  | r + 1, i, row, h => by
    unfold crcAll crcAll6
    rw [crcAll_16 f g r (i + 1) _ (fun y a b => h y (by omega) (by omega)), crcBits_16 _ _ _ (by omega), h i (by omega) (by omega)]
/-- the two bytes of the check -/
theorem b16_hi (a : Int32) : ush a (nI 8) &&& nI 255 = (a &&& 65535) >>> (nI 8 &&& 31) := by
  apply i32_ext
  simp only [Int32.toBitVec_and, bv_ush _ _ (show 8 < 32 by decide), bv_sar _ _ (show 8 < 32 by decide)]
  show (a.toBitVec >>> 8) &&& 255#32 = (a.toBitVec &&& 65535#32).sshiftRight 8
  rw [BitVec.sshiftRight_eq_of_msb_false (by rw [BitVec.msb_and]; simp; intro _; decide)]
  have e65 : ∀ i, (65535#32).getLsbD i = decide (i < 16) := fun i => by
    by_cases h : i < 32
    · revert i; decide
    · rw [BitVec.getLsbD_of_ge _ _ (by omega)]; simp; omega
  have e25 : ∀ i, (255#32).getLsbD i = decide (i < 8) := fun i => by
    by_cases h : i < 32
    · revert i; decide
    · rw [BitVec.getLsbD_of_ge _ _ (by omega)]; simp; omega
  apply BitVec.eq_of_getLsbD_eq
  intro i hi
  simp only [BitVec.getLsbD_and, BitVec.getLsbD_ushiftRight, e65, e25]
  by_cases h : i < 8
  · have : 8 + i < 16 := by omega
    simp [h, this]
  · have : ¬ 8 + i < 16 := by omega
    simp [h, this]
theorem b16_lo (a : Int32) : ush a (nI 0) &&& nI 255 = (a &&& 65535) &&& nI 255 := by
  apply i32_ext
  simp only [Int32.toBitVec_and, bv_ush _ _ (show 0 < 32 by decide)]
  show (a.toBitVec >>> 0) &&& 255#32 = (a.toBitVec &&& 65535#32) &&& 255#32
  rw [BitVec.and_assoc]
  simp
/-- a byte of a word, shifted in either way -/
theorem wb_eq (x : Int32) (k : Nat) (hk : k ≤ 24) : ush x (nI k) &&& nI 255 = (x >>> (nI k &&& 31)) &&& nI 255 := by
  apply i32_ext
  simp only [Int32.toBitVec_and, bv_ush _ _ (show k < 32 by omega), bv_sar _ _ (show k < 32 by omega)]
  show (x.toBitVec >>> k) &&& 255#32 = (x.toBitVec.sshiftRight k) &&& 255#32
  have e25 : ∀ i, (255#32).getLsbD i = decide (i < 8) := fun i => by
    by_cases h : i < 32
    · revert i; decide
    · rw [BitVec.getLsbD_of_ge _ _ (by omega)]; simp; omega
  apply BitVec.eq_of_getLsbD_eq
  intro i hi
  simp only [BitVec.getLsbD_and, BitVec.getLsbD_ushiftRight, BitVec.getLsbD_sshiftRight, e25]
  by_cases h : i < 8
  · have h1 : k + i < 32 := by omega
    have h2 : ¬ 32 ≤ i := by omega
    simp [h, h1, h2]
  · simp [h]
