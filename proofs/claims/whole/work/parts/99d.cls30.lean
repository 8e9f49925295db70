theorem low8 (v : Int32) : v.toInt8.toInt32 &&& 255 = v &&& 255 := by
  rw [← Int32.toBitVec_inj]
  show (v.toBitVec.signExtend 8).signExtend 32 &&& 255#32 = v.toBitVec &&& 255#32
  apply BitVec.eq_of_getLsbD_eq
  intro i hi
  have hb : ∀ i, i < 32 → (255#32).getLsbD i = decide (i < 8) := by decide
  rw [BitVec.getLsbD_and, BitVec.getLsbD_and, hb i hi]
  by_cases c : i < 8
  · rw [BitVec.getLsbD_signExtend, decide_eq_true hi, if_pos c, BitVec.getLsbD_signExtend, decide_eq_true c, if_pos hi]
    simp
  · rw [decide_eq_false c, Bool.and_false, Bool.and_false]
theorem low16 (v : Int32) : v.toInt16.toInt32 &&& 65535 = v &&& 65535 := by
  rw [← Int32.toBitVec_inj]
  show (v.toBitVec.signExtend 16).signExtend 32 &&& 65535#32 = v.toBitVec &&& 65535#32
  apply BitVec.eq_of_getLsbD_eq
  intro i hi
  have hb : ∀ i, i < 32 → (65535#32).getLsbD i = decide (i < 16) := by decide
  rw [BitVec.getLsbD_and, BitVec.getLsbD_and, hb i hi]
  by_cases c : i < 16
  · rw [BitVec.getLsbD_signExtend, decide_eq_true hi, if_pos c, BitVec.getLsbD_signExtend, decide_eq_true c, if_pos hi]
    simp
  · rw [decide_eq_false c, Bool.and_false, Bool.and_false]
theorem mk_cut {b v : Int32} (hb : isB b = true) (h0 : b ≠ 0) : mkV b (cutF b v) = mkV b v := by
  unfold isB at hb
  rw [Bool.or_eq_true, Bool.or_eq_true, Bool.or_eq_true] at hb
  rcases hb with ((h | h) | h) | h
  · exact absurd (of_decide_eq_true h) h0
  · rw [of_decide_eq_true h]
    show (if (8 : Int32) = 32 then _ else v.toInt8.toInt32 &&& (jshl 1 8 - 1)) = (if (8 : Int32) = 32 then _ else v &&& (jshl 1 8 - 1))
    rw [if_neg (by decide), if_neg (by decide), show (jshl 1 8 - 1 : Int32) = 255 from by decide]
    exact low8 v
  · rw [of_decide_eq_true h]
    show (if (16 : Int32) = 32 then _ else v.toInt16.toInt32 &&& (jshl 1 16 - 1)) = (if (16 : Int32) = 32 then _ else v &&& (jshl 1 16 - 1))
    rw [if_neg (by decide), if_neg (by decide), show (jshl 1 16 - 1 : Int32) = 65535 from by decide]
    exact low16 v
  · rw [of_decide_eq_true h]
    rfl

set_option maxHeartbeats 1000000 in
theorem c_change7 {Γ : Cx} {s n sz : Nat} {b0 z0 : Int32} {f : Rw} {M : Nat → Option va_E} (h0 : M s = some (.inr (7, [.ref n, .int b0, .int z0]))) (h1 : M n = aI Γ 40 f) {K : Wd → Prop} {x v : Int32} (zn : Nat) (ez : z0 = nI zn) (hz : zn ≤ 40) (ex : x = nI (iN x)) (lx : iN x < zn) (k : K (va_up M n (aI Γ 40 (upd f (iN x) (mkV b0 v))), sz)) : Spec Γ mX7_change 0 0 [.ref s, .int x, .int v] (M, sz) (cv K) := by
  refine spec_in [some (.ref s), some (.int x), some (.int v)] 0 (by decide) rfl rfl ?_
  refine ok_iload_n (pc := 0) dX7_change_0 rfl ?_
  refine ok_if_lt (pc := 1) 50 dX7_change_1 (by decide) (fun cc_1 => ?_) (fun cc_1 => ?_)
  · rw [ex] at cc_1
    exact absurd cc_1 (nI_pos (by omega))
  · have ce_1 := Int32.not_lt.mp cc_1
    refine ok_iload_n (pc := 4) dX7_change_4 rfl ?_
    refine ok_aload_n (pc := 5) dX7_change_5 rfl ?_
    refine ok_getf (pc := 6) dX7_change_6 fl_X7_19 h0 rfl ?_
    refine ok_icmp_ge (pc := 9) 50 dX7_change_9 (by decide) (fun cc_9 => ?_) (fun cc_9 => ?_)
    · rw [ex, ez] at cc_9
      exact absurd cc_9 (nI_ge lx (by omega))
    · have ce_9 := Int32.not_le.mp cc_9
      refine ok_iload_n (pc := 12) dX7_change_12 rfl ?_
      refine ok_aload_n (pc := 13) dX7_change_13 rfl ?_
      refine ok_getf (pc := 14) dX7_change_14 fl_X7_9 h0 rfl ?_
      refine ok_alen (pc := 17) (t := 0) dX7_change_17 h1 rfl ?_
      refine ok_icmp_ge (pc := 18) 50 dX7_change_18 (by decide) (fun cc_18 => ?_) (fun cc_18 => ?_)
      · rw [ex] at cc_18
        exact absurd cc_18 (nI_ge (by omega) (by omega))
      · have ce_18 := Int32.not_le.mp cc_18
        refine ok_aload_n (pc := 21) dX7_change_21 rfl ?_
        refine ok_getf (pc := 22) dX7_change_22 fl_X7_9 h0 rfl ?_
        refine ok_iload_n (pc := 25) dX7_change_25 rfl ?_
        refine ok_aload_n (pc := 26) dX7_change_26 rfl ?_
        refine ok_getf (pc := 27) dX7_change_27 fl_X7_15 h0 rfl ?_
        refine ok_bipush (pc := 30) (v := 32) dX7_change_30 (by decide) ?_
        refine ok_icmp_ne (pc := 32) 39 dX7_change_32 (by decide) (fun cc_32 => ?_) (fun cc_32 => ?_)
        · have em : mkV b0 v = v &&& (jshl 1 b0 - 1) := if_neg cc_32
          refine ok_iload_n (pc := 39) dX7_change_39 rfl ?_
          refine ok_iconst (pc := 40) (v := 1) dX7_change_40 (by decide) ?_
          refine ok_aload_n (pc := 41) dX7_change_41 rfl ?_
          refine ok_getf (pc := 42) dX7_change_42 fl_X7_15 h0 rfl ?_
          refine ok_ishl (pc := 45) dX7_change_45 ?_
          refine ok_iconst (pc := 46) (v := 1) dX7_change_46 (by decide) ?_
          refine ok_isub (pc := 47) dX7_change_47 ?_
          refine ok_iand (pc := 48) dX7_change_48 ?_
          refine ok_iast (pc := 49) (iN x) dX7_change_49 h1 ex (by omega) (by decide) ?_
          rw [← em]
          refine ok_vret (pc := 50) dX7_change_50 rfl ?_
          exact k
        · have em : mkV b0 v = v := if_pos cc_32
          refine ok_iload_n (pc := 35) dX7_change_35 rfl ?_
          refine ok_goto (pc := 36) 49 dX7_change_36 (by decide) ?_
          refine ok_iast (pc := 49) (iN x) dX7_change_49 h1 ex (by omega) (by decide) ?_
          rw [← em]
          refine ok_vret (pc := 50) dX7_change_50 rfl ?_
          exact k
