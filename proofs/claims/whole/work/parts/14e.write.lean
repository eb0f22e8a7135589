theorem sL56 : ((64 - ((8 : Int32) <<< (nI 0 &&& 31))).toInt64 &&& 63) = 56 ∧ ((64 - ((8 : Int32) <<< (nI 1 &&& 31))).toInt64 &&& 63) = 48 ∧ ((64 - ((8 : Int32) <<< (nI 2 &&& 31))).toInt64 &&& 63) = 32 ∧ ((64 - ((8 : Int32) <<< (nI 3 &&& 31))).toInt64 &&& 63) = 0 := by decide
theorem cut_toInt (b : BitVec 64) (k : Nat) (hk : 0 < k) (hk2 : k < 64) : ((b <<< (64 - k)).sshiftRight (64 - k)).toInt = b.toInt.bmod (2 ^ k) := by
  rw [cut_bits b k hk hk2, BitVec.toInt_signExtend_of_le (by omega)]
  show (b.setWidth k).toInt = _
  rw [BitVec.toInt_setWidth, BitVec.toInt_eq_toNat_bmod, Int.bmod_bmod_of_dvd]
  exact_mod_cast Nat.pow_dvd_pow 2 (by omega : k ≤ 64)
theorem cut_8 (x : Int64) : (x <<< (56 : Int64)) >>> (56 : Int64) = x.toInt32.toInt8.toInt32.toInt64 := by
  rw [← Int64.toInt_inj, Int32.toInt_toInt64, Int8.toInt_toInt32, Int32.toInt_toInt8, Int64.toInt_toInt32, Int.bmod_bmod_of_dvd (by decide)]
  show (((x.toBitVec <<< (56 : Nat)).sshiftRight (56 : Nat))).toInt = _
  exact cut_toInt x.toBitVec 8 (by omega) (by omega)
theorem cut_16 (x : Int64) : (x <<< (48 : Int64)) >>> (48 : Int64) = x.toInt32.toInt16.toInt32.toInt64 := by
  rw [← Int64.toInt_inj, Int32.toInt_toInt64, Int16.toInt_toInt32, Int32.toInt_toInt16, Int64.toInt_toInt32, Int.bmod_bmod_of_dvd (by decide)]
  show (((x.toBitVec <<< (48 : Nat)).sshiftRight (48 : Nat))).toInt = _
  exact cut_toInt x.toBitVec 16 (by omega) (by omega)
theorem cut_32 (x : Int64) : (x <<< (32 : Int64)) >>> (32 : Int64) = x.toInt32.toInt64 := by
  rw [← Int64.toInt_inj, Int32.toInt_toInt64, Int64.toInt_toInt32]
  show (((x.toBitVec <<< (32 : Nat)).sshiftRight (32 : Nat))).toInt = _
  exact cut_toInt x.toBitVec 32 (by omega) (by omega)
theorem cut_64 (x : Int64) : (x <<< (0 : Int64)) >>> (0 : Int64) = x := by
  rw [← Int64.toInt_inj]
  show (((x.toBitVec <<< (0 : Nat)).sshiftRight (0 : Nat))).toInt = x.toBitVec.toInt
  rw [BitVec.shiftLeft_zero, BitVec.sshiftRight_zero]
