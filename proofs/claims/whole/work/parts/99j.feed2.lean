theorem shA : ∀ k, k < 8 → (((nI (8 * k)).toInt64 &&& 63).toBitVec.smod 64).toNat = 8 * k := by decide +kernel
theorem byL_bv (w : Int64) {k : Nat} (hk : k < 8) : (byL w k).toBitVec = ((w.toBitVec.sshiftRight (8 * k)) &&& 255#64).signExtend 32 := by
  unfold byL jlshr
  show (((w >>> ((nI (8 * k)).toInt64 &&& 63)).toBitVec) &&& 255#64).signExtend 32 = _
  rw [Int64.toBitVec_shiftRight]
  show ((w.toBitVec.sshiftRight _) &&& 255#64).signExtend 32 = _
  rw [shA k hk]
theorem by_bits (v : BitVec 64) {k : Nat} (hk : k < 8) : ((v.sshiftRight (8 * k)) &&& 255#64).signExtend 32 = ((v >>> (8 * k)).signExtend 32) &&& 255#32 := by
  have h32 : ∀ i, i < 32 → (255#32).getLsbD i = decide (i < 8) := by decide
  have h64 : ∀ i, i < 64 → (255#64).getLsbD i = decide (i < 8) := by decide
  apply BitVec.eq_of_getLsbD_eq
  intro i hi
  rw [BitVec.getLsbD_and, BitVec.getLsbD_signExtend, BitVec.getLsbD_signExtend, decide_eq_true hi, if_pos (by omega), if_pos (by omega), BitVec.getLsbD_and, h32 i hi, h64 i (by omega)]
  by_cases c : i < 8
  · rw [decide_eq_true c, BitVec.getLsbD_sshiftRight, BitVec.getLsbD_ushiftRight, if_pos (by omega)]
    simp
    omega
  · rw [decide_eq_false c, Bool.and_false, Bool.and_false, Bool.and_false]

theorem shLu : ∀ k, k < 8 → (((nI (8 * k)).toInt64.toUInt64 &&& Int64.toUInt64 63).toBitVec.toNat % 64) = 8 * k := by decide +kernel
theorem byC_bv (w : Int64) {k : Nat} (hk : k < 8) : ((jlushr w (nI (8 * k))).toInt32 &&& 255).toBitVec = ((w.toBitVec >>> (8 * k)).signExtend 32) &&& 255#32 := by
  unfold jlushr
  show ((w.toUInt64 >>> ((nI (8 * k)).toInt64.toUInt64 &&& Int64.toUInt64 63)).toBitVec.signExtend 32) &&& 255#32 = _
  rw [UInt64.toBitVec_shiftRight]
  have e1 : (((nI (8 * k)).toInt64.toUInt64 &&& Int64.toUInt64 63).toBitVec % 64).toNat = 8 * k := by
    rw [BitVec.toNat_umod]
    exact shLu k hk
  rw [BitVec.ushiftRight_eq', e1]
  rfl
theorem by_eq (w : Int64) {k : Nat} (hk : k < 8) : (jlushr w (nI (8 * k))).toInt32 &&& 255 = byL w k := by
  rw [← Int32.toBitVec_inj, byC_bv w hk, byL_bv w hk, by_bits w.toBitVec hk]
theorem by_lt (w : Int64) {k : Nat} (hk : k < 8) : ∃ v, v < 256 ∧ byL w k = nI v := by
  rw [← by_eq w hk]
  exact and_255 _
theorem fd_ok {σ : Rw} (hI : Inv σ) (w : Int64) {n6 : Nat} (e6 : σ 6 = nI n6) : ∀ m, m ≤ 8 → n6 + m ≤ 50 → Inv (fdF σ w m) ∧ fdF σ w m 6 = nI (n6 + m)
  | 0, _, _ => ⟨hI, e6⟩
  | m + 1, h8, h => by
    obtain ⟨i1, i2⟩ := fd_ok hI w e6 m (by omega) (by omega)
    obtain ⟨v, lv, ev⟩ := by_lt w (k := m) (by omega)
    have e9 : fdF σ w (m + 1) = upd (upd (fdF σ w m) (195 + (n6 + m)) (nI v)) 6 (nI (n6 + m + 1)) := by
      show upd (upd (fdF σ w m) (195 + iN (fdF σ w m 6)) (byL w m)) 6 (fdF σ w m 6 + 1) = _
      rw [i2, ev, nI_1, show iN (nI (n6 + m)) = n6 + m from nI_clamp (by omega)]
    rw [e9]
    exact ⟨Inv_byt i1 (by omega) lv, upd_at⟩
