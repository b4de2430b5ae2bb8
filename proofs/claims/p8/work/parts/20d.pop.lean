theorem bc_end {w : Int64} (h : w.toBitVec.toNat < 9223372036854775808) : (Int64.toInt32 w) &&& 127 = Int32.ofNat (w.toBitVec.toNat % 128) := by
  apply Int32.toBitVec.inj
  have e : (Int64.toInt32 w &&& 127).toBitVec = w.toBitVec.setWidth 32 &&& 127#32 := by
    show (w.toBitVec.signExtend 32) &&& 127#32 = _
    rw [BitVec.signExtend_eq_setWidth_of_le _ (by decide)]
  rw [e]
  apply BitVec.eq_of_toNat_eq
  show (w.toBitVec.setWidth 32 &&& 127#32).toNat = (BitVec.ofNat 32 (w.toBitVec.toNat % 128)).toNat
  rw [BitVec.toNat_and, BitVec.toNat_setWidth, BitVec.toNat_ofNat, BitVec.toNat_ofNat]
  show w.toBitVec.toNat % 2 ^ 32 &&& (2 ^ 7 - 1) = _
  rw [Nat.and_two_pow_sub_one_eq_mod]
  omega
theorem add_sh {x : Int64} {i : Nat} (hi : i < 64) (h : x.toBitVec.toNat + x.toBitVec.toNat / 2 ^ i < 18446744073709551616) : (x + lush x (Int32.ofNat i)).toBitVec.toNat = x.toBitVec.toNat + x.toBitVec.toNat / 2 ^ i := by
  show (x.toBitVec + (lush x (Int32.ofNat i)).toBitVec).toNat = _
  rw [lush_bv hi, BitVec.toNat_add, BitVec.toNat_ushiftRight, Nat.shiftRight_eq_div_pow]
  exact Nat.mod_eq_of_lt h
theorem lush_n {x : Int64} {i : Nat} (hi : i < 64) : (lush x (Int32.ofNat i)).toBitVec.toNat = x.toBitVec.toNat / 2 ^ i := by
  rw [lush_bv hi, BitVec.toNat_ushiftRight, Nat.shiftRight_eq_div_pow]
