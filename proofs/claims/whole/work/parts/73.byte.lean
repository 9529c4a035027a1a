/-! bytes: the class's are signed, the reference's are not -/
def bN (y : Int64) (q : Nat) : Nat := (y >>> ((nI (8 * q)).toInt64 &&& 63)).toInt32.toInt8.toBitVec.toNat
theorem bN_lt (y : Int64) (q : Nat) : bN y q < 256 := BitVec.isLt _
theorem i8_all : ∀ b, b < 256 → (Int8.ofBitVec (BitVec.ofNat 8 b)).toInt32.toInt8.toInt32 = sbI b := by decide +kernel
theorem bX_s (y : Int64) (q : Nat) : bX y q = sbI (bN y q) := by
  unfold bX bN
  generalize (y >>> ((nI (8 * q)).toInt64 &&& 63)).toInt32.toInt8 = w
  rw [← i8_all _ (BitVec.isLt _)]
  congr 3
  apply Int8.toBitVec_inj.mp
  show w.toBitVec = BitVec.ofNat 8 w.toBitVec.toNat
  simp
theorem bM_n (y : Int64) (q : Nat) : bM y q = nI (bN y q) := by
  unfold bM bN
  generalize (y >>> ((nI (8 * q)).toInt64 &&& 63)) = w
  apply Int32.toBitVec_inj.mp
  show ((w.toBitVec &&& 255#64).signExtend 32) = BitVec.ofNat 32 ((w.toBitVec.signExtend 32).signExtend 8).toNat
  apply BitVec.eq_of_toNat_eq
  rw [BitVec.signExtend_eq_setWidth_of_le _ (by decide), BitVec.signExtend_eq_setWidth_of_le _ (by decide), BitVec.signExtend_eq_setWidth_of_le _ (by decide)]
  simp only [BitVec.toNat_setWidth, BitVec.toNat_and, BitVec.toNat_ofNat]
  have e : (255 % 2 ^ 64 : Nat) = 2 ^ 8 - 1 := by decide
  rw [e, Nat.and_two_pow_sub_one_eq_mod]
  omega
