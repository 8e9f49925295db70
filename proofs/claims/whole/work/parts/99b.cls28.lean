set_option maxHeartbeats 1000000 in
theorem c_isMissing {Γ : Cx} {s n sz : Nat} {b0 z0 : Int32} {f : Rw} {M : Nat → Option va_E} (h0 : M s = some (.inr (7, [.ref n, .int b0, .int z0]))) {K : Int32 → Wd → Prop} (k : K (bI (decide (b0 = 0))) (M, sz)) : Spec Γ mX7_isMissing 0 0 [.ref s] (M, sz) (ci K) := by
  refine spec_in [some (.ref s)] 0 (by decide) rfl rfl ?_
  refine ok_aload_n (pc := 0) dX7_isMissing_0 rfl ?_
  refine ok_getf (pc := 1) dX7_isMissing_1 fl_X7_15 h0 rfl ?_
  refine ok_if_ne (pc := 4) 11 dX7_isMissing_4 (by decide) (fun cc_4 => ?_) (fun cc_4 => ?_)
  · refine ok_iconst (pc := 11) (v := 0) dX7_isMissing_11 (by decide) ?_
    refine ok_zret (pc := 12) dX7_isMissing_12 rfl rfl ?_
    simpa [bI, cc_4] using k
  · refine ok_iconst (pc := 7) (v := 1) dX7_isMissing_7 (by decide) ?_
    refine ok_goto (pc := 8) 12 dX7_isMissing_8 (by decide) ?_
    refine ok_zret (pc := 12) dX7_isMissing_12 rfl rfl ?_
    simpa [bI, cc_4] using k

set_option maxHeartbeats 1000000 in
theorem c_holds {Γ : Cx} {s n sz : Nat} {b0 z0 : Int32} {f : Rw} {M : Nat → Option va_E} (h0 : M s = some (.inr (7, [.ref n, .int b0, .int z0]))) {K : Int32 → Wd → Prop} {x y : Int32} (k : K (bI (decide (0 ≤ x) && decide (0 ≤ y) && decide (x ≤ z0) && decide (y ≤ z0 - x))) (M, sz)) : Spec Γ mX7_holds 0 0 [.ref s, .int x, .int y] (M, sz) (ci K) := by
  refine spec_in [some (.ref s), some (.int x), some (.int y)] 0 (by decide) rfl rfl ?_
  refine ok_iload_n (pc := 0) dX7_holds_0 rfl ?_
  refine ok_if_lt (pc := 1) 30 dX7_holds_1 (by decide) (fun cc_1 => ?_) (fun cc_1 => ?_)
  · have ce_1 := Int32.not_le.mpr cc_1
    refine ok_iconst (pc := 30) (v := 0) dX7_holds_30 (by decide) ?_
    refine ok_zret (pc := 31) dX7_holds_31 rfl rfl ?_
    first
      | (rw [decide_eq_false (Int32.not_le.mpr cc_1), Bool.false_and, Bool.false_and, Bool.false_and] at k; exact k)
      | (rw [decide_eq_false (Int32.not_le.mpr cc_5), Bool.and_false, Bool.false_and, Bool.false_and] at k; exact k)
      | (rw [decide_eq_false (Int32.not_le.mpr cc_13), Bool.and_false, Bool.false_and] at k; exact k)
      | (rw [decide_eq_false (Int32.not_le.mpr cc_23), Bool.and_false] at k; exact k)
      | (rw [decide_eq_true (Int32.not_lt.mp cc_1), decide_eq_true (Int32.not_lt.mp cc_5), decide_eq_true (Int32.not_lt.mp cc_13), decide_eq_true (Int32.not_lt.mp cc_23)] at k; exact k)
  · have ce_1 := Int32.not_lt.mp cc_1
    refine ok_iload_n (pc := 4) dX7_holds_4 rfl ?_
    refine ok_if_lt (pc := 5) 30 dX7_holds_5 (by decide) (fun cc_5 => ?_) (fun cc_5 => ?_)
    · have ce_5 := Int32.not_le.mpr cc_5
      refine ok_iconst (pc := 30) (v := 0) dX7_holds_30 (by decide) ?_
      refine ok_zret (pc := 31) dX7_holds_31 rfl rfl ?_
      first
        | (rw [decide_eq_false (Int32.not_le.mpr cc_1), Bool.false_and, Bool.false_and, Bool.false_and] at k; exact k)
        | (rw [decide_eq_false (Int32.not_le.mpr cc_5), Bool.and_false, Bool.false_and, Bool.false_and] at k; exact k)
        | (rw [decide_eq_false (Int32.not_le.mpr cc_13), Bool.and_false, Bool.false_and] at k; exact k)
        | (rw [decide_eq_false (Int32.not_le.mpr cc_23), Bool.and_false] at k; exact k)
        | (rw [decide_eq_true (Int32.not_lt.mp cc_1), decide_eq_true (Int32.not_lt.mp cc_5), decide_eq_true (Int32.not_lt.mp cc_13), decide_eq_true (Int32.not_lt.mp cc_23)] at k; exact k)
    · have ce_5 := Int32.not_lt.mp cc_5
      refine ok_iload_n (pc := 8) dX7_holds_8 rfl ?_
      refine ok_aload_n (pc := 9) dX7_holds_9 rfl ?_
      refine ok_getf (pc := 10) dX7_holds_10 fl_X7_19 h0 rfl ?_
      refine ok_icmp_gt (pc := 13) 30 dX7_holds_13 (by decide) (fun cc_13 => ?_) (fun cc_13 => ?_)
      · have ce_13 := Int32.not_le.mpr cc_13
        refine ok_iconst (pc := 30) (v := 0) dX7_holds_30 (by decide) ?_
        refine ok_zret (pc := 31) dX7_holds_31 rfl rfl ?_
        first
          | (rw [decide_eq_false (Int32.not_le.mpr cc_1), Bool.false_and, Bool.false_and, Bool.false_and] at k; exact k)
          | (rw [decide_eq_false (Int32.not_le.mpr cc_5), Bool.and_false, Bool.false_and, Bool.false_and] at k; exact k)
          | (rw [decide_eq_false (Int32.not_le.mpr cc_13), Bool.and_false, Bool.false_and] at k; exact k)
          | (rw [decide_eq_false (Int32.not_le.mpr cc_23), Bool.and_false] at k; exact k)
          | (rw [decide_eq_true (Int32.not_lt.mp cc_1), decide_eq_true (Int32.not_lt.mp cc_5), decide_eq_true (Int32.not_lt.mp cc_13), decide_eq_true (Int32.not_lt.mp cc_23)] at k; exact k)
      · have ce_13 := Int32.not_lt.mp cc_13
        refine ok_iload_n (pc := 16) dX7_holds_16 rfl ?_
        refine ok_aload_n (pc := 17) dX7_holds_17 rfl ?_
        refine ok_getf (pc := 18) dX7_holds_18 fl_X7_19 h0 rfl ?_
        refine ok_iload_n (pc := 21) dX7_holds_21 rfl ?_
        refine ok_isub (pc := 22) dX7_holds_22 ?_
        refine ok_icmp_gt (pc := 23) 30 dX7_holds_23 (by decide) (fun cc_23 => ?_) (fun cc_23 => ?_)
        · have ce_23 := Int32.not_le.mpr cc_23
          refine ok_iconst (pc := 30) (v := 0) dX7_holds_30 (by decide) ?_
          refine ok_zret (pc := 31) dX7_holds_31 rfl rfl ?_
          first
            | (rw [decide_eq_false (Int32.not_le.mpr cc_1), Bool.false_and, Bool.false_and, Bool.false_and] at k; exact k)
            | (rw [decide_eq_false (Int32.not_le.mpr cc_5), Bool.and_false, Bool.false_and, Bool.false_and] at k; exact k)
            | (rw [decide_eq_false (Int32.not_le.mpr cc_13), Bool.and_false, Bool.false_and] at k; exact k)
            | (rw [decide_eq_false (Int32.not_le.mpr cc_23), Bool.and_false] at k; exact k)
            | (rw [decide_eq_true (Int32.not_lt.mp cc_1), decide_eq_true (Int32.not_lt.mp cc_5), decide_eq_true (Int32.not_lt.mp cc_13), decide_eq_true (Int32.not_lt.mp cc_23)] at k; exact k)
        · have ce_23 := Int32.not_lt.mp cc_23
          refine ok_iconst (pc := 26) (v := 1) dX7_holds_26 (by decide) ?_
          refine ok_goto (pc := 27) 31 dX7_holds_27 (by decide) ?_
          refine ok_zret (pc := 31) dX7_holds_31 rfl rfl ?_
          first
            | (rw [decide_eq_false (Int32.not_le.mpr cc_1), Bool.false_and, Bool.false_and, Bool.false_and] at k; exact k)
            | (rw [decide_eq_false (Int32.not_le.mpr cc_5), Bool.and_false, Bool.false_and, Bool.false_and] at k; exact k)
            | (rw [decide_eq_false (Int32.not_le.mpr cc_13), Bool.and_false, Bool.false_and] at k; exact k)
            | (rw [decide_eq_false (Int32.not_le.mpr cc_23), Bool.and_false] at k; exact k)
            | (rw [decide_eq_true (Int32.not_lt.mp cc_1), decide_eq_true (Int32.not_lt.mp cc_5), decide_eq_true (Int32.not_lt.mp cc_13), decide_eq_true (Int32.not_lt.mp cc_23)] at k; exact k)

set_option maxHeartbeats 1000000 in
theorem c_become {Γ : Cx} {s n sz : Nat} {b0 z0 : Int32} {f : Rw} {M : Nat → Option va_E} (h0 : M s = some (.inr (7, [.ref n, .int b0, .int z0]))) (h1 : M n = aI Γ 40 f) (hne : s ≠ n) {K : Wd → Prop} {x y : Int32} (k : ∀ M' g, M' s = some (.inr (7, [.ref n, .int x, .int y])) → M' n = aI Γ 40 g → (∀ j, j < 40 → g j = 0) → (∀ q, q ≠ s → q ≠ n → M' q = M q) → K (M', sz)) : Spec Γ mX7_become 1 0 [.ref s, .int x, .int y] (M, sz) (cv K) := by
  refine spec_in [some (.ref s), some (.int x), some (.int y)] 0 (by decide) rfl rfl ?_
  refine ok_aload_n (pc := 0) dX7_become_0 rfl ?_
  refine ok_iload_n (pc := 1) dX7_become_1 rfl ?_
  refine ok_putf (pc := 2) dX7_become_2 pl_X7_15 h0 rfl rfl (by show 1 < 3; decide) ?_
  have h0 : va_up M s (some (.inr (7, [.ref n, .int x, .int z0]))) s = some (.inr (7, [.ref n, .int x, .int z0])) := up_eq
  refine ok_aload_n (pc := 5) dX7_become_5 rfl ?_
  refine ok_iload_n (pc := 6) dX7_become_6 rfl ?_
  refine ok_putf (pc := 7) dX7_become_7 pl_X7_19 h0 rfl rfl (by show 2 < 3; decide) ?_
  have h0 : va_up (va_up M s (some (.inr (7, [.ref n, .int x, .int z0])))) s (some (.inr (7, [.ref n, .int x, .int y]))) s = some (.inr (7, [.ref n, .int x, .int y])) := up_eq
  have h1 : va_up (va_up M s (some (.inr (7, [.ref n, .int x, .int z0])))) s (some (.inr (7, [.ref n, .int x, .int y]))) n = aI Γ 40 f := (up_ne (Ne.symm hne)).trans ((up_ne (Ne.symm hne)).trans h1)
  refine ok_aload_n (pc := 10) dX7_become_10 rfl ?_
  refine ok_getf (pc := 11) dX7_become_11 fl_X7_9 h0 rfl ?_
  refine ok_iconst (pc := 14) (v := 0) dX7_become_14 (by decide) ?_
  refine ok_callSv2 (pc := 15) (d' := 0) dX7_become_15 sl_X7_22 rfl (by decide) ?_
  refine c_fill (n0 := 40) (by decide) h1 (fun M9 g9 a1 a2 a3 => ?_)
  refine ok_vret (pc := 18) dX7_become_18 rfl ?_
  exact k _ g9 ((a3 s (by omega)).trans h0) a1 a2 (fun q g1 g2 => (a3 q (by omega)).trans ((up_ne g1).trans (up_ne g1)))

set_option maxHeartbeats 1000000 in
theorem c_sheetAt {Γ : Cx} {a e z sz : Nat} {σ κ vi : Rw} {va : Nat → Rw} {M : Nat → Option va_E} {K : Option Nat → Wd → Prop} (hC : ClsR Γ a e z σ κ vi va M) (hI : Inv σ) (hae : a + 92 ≤ e) {x : Int32} (k1 : x = nI (iN x) → iN x < 4 → K (some (a + 84 + 2 * iN x)) (M, sz)) (k2 : wi x 0 3 = false → K none (M, sz)) : Spec Γ mX11_sheetAt 1 0 [.ref a, .int x] (M, sz) (cr K) := by
  refine spec_in [some (.ref a), some (.int x)] 0 (by decide) rfl rfl ?_
  refine ok_iload_n (pc := 0) dX11_sheetAt_0 rfl ?_
  refine ok_iconst (pc := 1) (v := 0) dX11_sheetAt_1 (by decide) ?_
  refine ok_iconst (pc := 2) (v := 3) dX11_sheetAt_2 (by decide) ?_
  refine ok_callSi3 (pc := 3) (d' := 0) dX11_sheetAt_3 sl_X11_45 rfl (by decide) ?_
  refine c_within ?_
  refine ok_if_eq (pc := 6) 18 dX11_sheetAt_6 (by decide) (fun cc_6 => ?_) (fun cc_6 => ?_)
  · have cq_6 := bI_0.mp cc_6
    refine ok_null (pc := 18) dX11_sheetAt_18 ?_
    refine ok_aret (r := none) (pc := 19) dX11_sheetAt_19 rfl (Or.inl ⟨_, rfl⟩) ?_
    first
      | exact k1 ex9 (by omega)
      | exact k2 cq_6
  · have cq_6 := bI_n0.mp cc_6
    refine ok_aload_n (pc := 9) dX11_sheetAt_9 rfl ?_
    refine ok_getf (pc := 10) dX11_sheetAt_10 fl_X11_33 hC.1 rfl ?_
    refine ok_iload_n (pc := 13) dX11_sheetAt_13 rfl ?_
    obtain ⟨ex9, -, lx9⟩ := wi_lit (a := 0) (c := 3) rfl rfl (by decide) (by decide) cq_6
    obtain ⟨⟨sr, s1, s2⟩, -⟩ := id hC.2.2.2.2.2.1
    refine ok_aald (pc := 14) (t := 2) (iN x) dX11_sheetAt_14 s1 rfl ex9 (by omega) (by decide) ?_
    rw [s2 _ (by omega)]
    refine ok_goto (pc := 15) 19 dX11_sheetAt_15 (by decide) ?_
    refine ok_aret (r := some (a + 84 + 2 * iN x)) (pc := 19) dX11_sheetAt_19 rfl (Or.inl ⟨_, rfl⟩) ?_
    first
      | exact k1 ex9 (by omega)
      | exact k2 cq_6
