theorem cut_bits (b : BitVec 64) (k : Nat) (hk : 0 < k) (hk2 : k < 64) : (b <<< (64 - k)).sshiftRight (64 - k) = (b.truncate k).signExtend 64 := by
  apply BitVec.eq_of_getLsbD_eq
  intro i hi
  rw [BitVec.getLsbD_sshiftRight, BitVec.getLsbD_signExtend]
  simp only [BitVec.getLsbD_shiftLeft, BitVec.getLsbD_setWidth, BitVec.msb_eq_getLsbD_last, BitVec.truncate]
  by_cases h1 : i < k
  · have e1 : 64 - k + i < 64 := by omega
    have e2 : ¬ (64 - k + i < 64 - k) := by omega
    have e3 : 64 - k + i - (64 - k) = i := by omega
    simp [h1, e1, e2, e3, hi]
  · have e1 : ¬ (64 - k + i < 64) := by omega
    have e4 : 64 - 1 - (64 - k) = k - 1 := by omega
    have e5 : ¬ (64 - 1 < 64 - k) := by omega
    have e6 : k - 1 < k := by omega
    simp [h1, e1, e4, e5, e6, hi]
    try omega
