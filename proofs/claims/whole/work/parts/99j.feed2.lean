theorem shA : ∀ k, k < 8 → (((nI (8 * k)).toInt64 &&& 63).toBitVec.smod 64).toNat = 8 * k := by decide +kernel
theorem byL_bv (w : Int64) {k : Nat} (hk : k < 8) : (byL w k).toBitVec = ((w.toBitVec.sshiftRight (8 * k)) &&& 255#64).signExtend 32 := by
  unfold byL jlshr
  show (((w >>> ((nI (8 * k)).toInt64 &&& 63)).toBitVec) &&& 255#64).signExtend 32 = _
  rw [Int64.toBitVec_shiftRight]
  show ((w.toBitVec.sshiftRight _) &&& 255#64).signExtend 32 = _
  rw [shA k hk]
theorem by_bits (v : BitVec 64) {k : Nat} (hk : k < 8) : ((v.sshiftRight (8 * k)) &&& 255#64).signExtend 32 = ((v >>> (8 * k)).signExtend 32) &&& 255#32 := by
  have h32 : ∀ i, i < 32 → (255#32).getLsbD i = decide (i < 8) := by decide
  have h64 : ∀ i, i < 64 → (255#64).getLsbD i = decide (i < 8) := by decide
  apply BitVec.eq_of_getLsbD_eq
  intro i hi
  rw [BitVec.getLsbD_and, BitVec.getLsbD_signExtend, BitVec.getLsbD_signExtend, decide_eq_true hi, if_pos (by omega), if_pos (by omega), BitVec.getLsbD_and, h32 i hi, h64 i (by omega)]
  by_cases c : i < 8
  · rw [decide_eq_true c, BitVec.getLsbD_sshiftRight, BitVec.getLsbD_ushiftRight, if_pos (by omega)]
    simp
    omega
  · rw [decide_eq_false c, Bool.and_false, Bool.and_false, Bool.and_false]
