theorem wi_T {x y : Int32} {n : Nat} (hy : y = nI n) (hn : n < 2 ^ 30) (h0 : 0 ≤ x) (h1 : x < y) : wi x 0 (y - 1) = true := by
  subst hy
  unfold wi
  rw [decide_eq_true h0, decide_eq_true]
  · rfl
  · rw [Int32.le_iff_toInt_le, show (nI n - 1).toInt = (n : Int) - 1 from pk_sub_toInt (b := 1) hn (by decide)]
    have h := Int32.lt_iff_toInt_lt.mp h1
    rw [nI_toInt (by omega)] at h
    omega
theorem wi_F1 {x y : Int32} (h : x < 0) : wi x 0 y = false := by
  unfold wi
  rw [decide_eq_false (Int32.not_le.mpr h)]
  rfl
theorem wi_F2 {x y : Int32} {n : Nat} (hy : y = nI n) (hn : n < 2 ^ 30) (h1 : y ≤ x) : wi x 0 (y - 1) = false := by
  subst hy
  unfold wi
  rw [Bool.and_eq_false_iff]
  right
  apply decide_eq_false
  rw [Int32.le_iff_toInt_le, show (nI n - 1).toInt = (n : Int) - 1 from pk_sub_toInt (b := 1) hn (by decide)]
  have h := Int32.le_iff_toInt_le.mp h1
  rw [nI_toInt (by omega)] at h
  omega
theorem lt_cnt {x y : Int32} {n : Nat} (hy : y = nI n) (hn : n < 2 ^ 30) (h0 : 0 ≤ x) (h1 : x < y) : x = nI (iN x) ∧ iN x < n := wi_cnt hy hn (wi_T hy hn h0 h1)
theorem place_eq (v : Int32) : 16 * (v / 16) + jrem v 16 = v := by
  unfold jrem
  rw [Int32.mul_comm 16, Int32.add_comm, Int32.sub_add_cancel]
theorem wi_nI {k a b : Nat} (ha : a ≤ k) (hb : k ≤ b) (h : b < 2 ^ 30) : wi (nI k) (nI a) (nI b) = true := by
  unfold wi
  rw [decide_eq_true (nI_le ha (by omega)), decide_eq_true (nI_le hb (by omega))]
  rfl
theorem or_0 (x : Int32) : x ||| 0 = x := Int32.or_zero

set_option maxHeartbeats 1000000 in
theorem c_within {Γ : Cx} {G : Wd} {K : Int32 → Wd → Prop} {v x y : Int32} (k : K (bI (wi v x y)) G) : Spec Γ mX11_within 0 0 [.int v, .int x, .int y] G (ci K) := by
  refine spec_in [some (.int v), some (.int x), some (.int y)] 0 (by decide) rfl rfl ?_
  refine ok_iload_n (pc := 0) dX11_within_0 rfl ?_
  refine ok_iload_n (pc := 1) dX11_within_1 rfl ?_
  refine ok_icmp_lt (pc := 2) 14 dX11_within_2 (by decide) (fun cc_2 => ?_) (fun cc_2 => ?_)
  · have ce_2 := Int32.not_le.mpr cc_2
    refine ok_iconst (pc := 14) (v := 0) dX11_within_14 (by decide) ?_
    refine ok_zret (pc := 15) dX11_within_15 rfl rfl ?_
    simpa [wi, bI, cc_2, ce_2] using k
  · have ce_2 := Int32.not_lt.mp cc_2
    refine ok_iload_n (pc := 5) dX11_within_5 rfl ?_
    refine ok_iload_n (pc := 6) dX11_within_6 rfl ?_
    refine ok_icmp_gt (pc := 7) 14 dX11_within_7 (by decide) (fun cc_7 => ?_) (fun cc_7 => ?_)
    · have ce_7 := Int32.not_le.mpr cc_7
      refine ok_iconst (pc := 14) (v := 0) dX11_within_14 (by decide) ?_
      refine ok_zret (pc := 15) dX11_within_15 rfl rfl ?_
      simpa [wi, bI, cc_2, ce_2, cc_7, ce_7] using k
    · have ce_7 := Int32.not_lt.mp cc_7
      refine ok_iconst (pc := 10) (v := 1) dX11_within_10 (by decide) ?_
      refine ok_goto (pc := 11) 15 dX11_within_11 (by decide) ?_
      refine ok_zret (pc := 15) dX11_within_15 rfl rfl ?_
      simpa [wi, bI, cc_2, ce_2, cc_7, ce_7] using k

set_option maxHeartbeats 1000000 in
theorem c_isHill {Γ : Cx} {p e z sz : Nat} {σ : Rw} {M : Nat → Option va_E} {K : Int32 → Wd → Prop} (hP : PstR Γ p e z σ M) (eH : σ 1 = nI (cH σ)) (lH : cH σ ≤ 9) {x : Int32} (k : K (bI (wi x 0 (σ 1 - 1))) (M, sz)) : Spec Γ mX5_isHill 0 0 [.ref p, .int x] (M, sz) (ci K) := by
  refine spec_in [some (.ref p), some (.int x)] 0 (by decide) rfl rfl ?_
  refine ok_iload_n (pc := 0) dX5_isHill_0 rfl ?_
  refine ok_if_lt (pc := 1) 22 dX5_isHill_1 (by decide) (fun cc_1 => ?_) (fun cc_1 => ?_)
  · have ce_1 := Int32.not_le.mpr cc_1
    refine ok_iconst (pc := 22) (v := 0) dX5_isHill_22 (by decide) ?_
    refine ok_zret (pc := 23) dX5_isHill_23 rfl rfl ?_
    first
      | (rw [wi_T eH (by omega) (Int32.not_lt.mp cc_1) (Int32.not_le.mp cc_9)] at k; exact k)
      | (rw [wi_F1 cc_1] at k; exact k)
      | (rw [wi_F2 eH (by omega) cc_9] at k; exact k)
      | (exfalso
         obtain ⟨e1, l1⟩ := lt_cnt eH (by omega) (Int32.not_lt.mp cc_1) (Int32.not_le.mp cc_9)
         rw [e1] at cc_15
         exact absurd cc_15 (nI_ge (b := 9) (by omega) (by decide)))
  · have ce_1 := Int32.not_lt.mp cc_1
    refine ok_iload_n (pc := 4) dX5_isHill_4 rfl ?_
    refine ok_aload_n (pc := 5) dX5_isHill_5 rfl ?_
    refine ok_getf (pc := 6) dX5_isHill_6 fl_X5_77 hP.o rfl ?_
    refine ok_icmp_ge (pc := 9) 22 dX5_isHill_9 (by decide) (fun cc_9 => ?_) (fun cc_9 => ?_)
    · have ce_9 := Int32.not_lt.mpr cc_9
      refine ok_iconst (pc := 22) (v := 0) dX5_isHill_22 (by decide) ?_
      refine ok_zret (pc := 23) dX5_isHill_23 rfl rfl ?_
      first
        | (rw [wi_T eH (by omega) (Int32.not_lt.mp cc_1) (Int32.not_le.mp cc_9)] at k; exact k)
        | (rw [wi_F1 cc_1] at k; exact k)
        | (rw [wi_F2 eH (by omega) cc_9] at k; exact k)
        | (exfalso
           obtain ⟨e1, l1⟩ := lt_cnt eH (by omega) (Int32.not_lt.mp cc_1) (Int32.not_le.mp cc_9)
           rw [e1] at cc_15
           exact absurd cc_15 (nI_ge (b := 9) (by omega) (by decide)))
    · have ce_9 := Int32.not_le.mp cc_9
      refine ok_iload_n (pc := 12) dX5_isHill_12 rfl ?_
      refine ok_bipush (pc := 13) (v := 9) dX5_isHill_13 (by decide) ?_
      refine ok_icmp_ge (pc := 15) 22 dX5_isHill_15 (by decide) (fun cc_15 => ?_) (fun cc_15 => ?_)
      · have ce_15 := Int32.not_lt.mpr cc_15
        refine ok_iconst (pc := 22) (v := 0) dX5_isHill_22 (by decide) ?_
        refine ok_zret (pc := 23) dX5_isHill_23 rfl rfl ?_
        first
          | (rw [wi_T eH (by omega) (Int32.not_lt.mp cc_1) (Int32.not_le.mp cc_9)] at k; exact k)
          | (rw [wi_F1 cc_1] at k; exact k)
          | (rw [wi_F2 eH (by omega) cc_9] at k; exact k)
          | (exfalso
             obtain ⟨e1, l1⟩ := lt_cnt eH (by omega) (Int32.not_lt.mp cc_1) (Int32.not_le.mp cc_9)
             rw [e1] at cc_15
             exact absurd cc_15 (nI_ge (b := 9) (by omega) (by decide)))
      · have ce_15 := Int32.not_le.mp cc_15
        refine ok_iconst (pc := 18) (v := 1) dX5_isHill_18 (by decide) ?_
        refine ok_goto (pc := 19) 23 dX5_isHill_19 (by decide) ?_
        refine ok_zret (pc := 23) dX5_isHill_23 rfl rfl ?_
        first
          | (rw [wi_T eH (by omega) (Int32.not_lt.mp cc_1) (Int32.not_le.mp cc_9)] at k; exact k)
          | (rw [wi_F1 cc_1] at k; exact k)
          | (rw [wi_F2 eH (by omega) cc_9] at k; exact k)
          | (exfalso
             obtain ⟨e1, l1⟩ := lt_cnt eH (by omega) (Int32.not_lt.mp cc_1) (Int32.not_le.mp cc_9)
             rw [e1] at cc_15
             exact absurd cc_15 (nI_ge (b := 9) (by omega) (by decide)))

set_option maxHeartbeats 1000000 in
theorem c_isLetter {Γ : Cx} {p e z sz : Nat} {σ : Rw} {M : Nat → Option va_E} {K : Int32 → Wd → Prop} (hP : PstR Γ p e z σ M) (eL : σ 3 = nI (cL σ)) (lL : cL σ ≤ 12) {x : Int32} (k : K (bI (wi x 0 (σ 3 - 1))) (M, sz)) : Spec Γ mX5_isLetter 0 0 [.ref p, .int x] (M, sz) (ci K) := by
  refine spec_in [some (.ref p), some (.int x)] 0 (by decide) rfl rfl ?_
  refine ok_iload_n (pc := 0) dX5_isLetter_0 rfl ?_
  refine ok_if_lt (pc := 1) 22 dX5_isLetter_1 (by decide) (fun cc_1 => ?_) (fun cc_1 => ?_)
  · have ce_1 := Int32.not_le.mpr cc_1
    refine ok_iconst (pc := 22) (v := 0) dX5_isLetter_22 (by decide) ?_
    refine ok_zret (pc := 23) dX5_isLetter_23 rfl rfl ?_
    first
      | (rw [wi_T eL (by omega) (Int32.not_lt.mp cc_1) (Int32.not_le.mp cc_9)] at k; exact k)
      | (rw [wi_F1 cc_1] at k; exact k)
      | (rw [wi_F2 eL (by omega) cc_9] at k; exact k)
      | (exfalso
         obtain ⟨e1, l1⟩ := lt_cnt eL (by omega) (Int32.not_lt.mp cc_1) (Int32.not_le.mp cc_9)
         rw [e1] at cc_15
         exact absurd cc_15 (nI_ge (b := 12) (by omega) (by decide)))
  · have ce_1 := Int32.not_lt.mp cc_1
    refine ok_iload_n (pc := 4) dX5_isLetter_4 rfl ?_
    refine ok_aload_n (pc := 5) dX5_isLetter_5 rfl ?_
    refine ok_getf (pc := 6) dX5_isLetter_6 fl_X5_83 hP.o rfl ?_
    refine ok_icmp_ge (pc := 9) 22 dX5_isLetter_9 (by decide) (fun cc_9 => ?_) (fun cc_9 => ?_)
    · have ce_9 := Int32.not_lt.mpr cc_9
      refine ok_iconst (pc := 22) (v := 0) dX5_isLetter_22 (by decide) ?_
      refine ok_zret (pc := 23) dX5_isLetter_23 rfl rfl ?_
      first
        | (rw [wi_T eL (by omega) (Int32.not_lt.mp cc_1) (Int32.not_le.mp cc_9)] at k; exact k)
        | (rw [wi_F1 cc_1] at k; exact k)
        | (rw [wi_F2 eL (by omega) cc_9] at k; exact k)
        | (exfalso
           obtain ⟨e1, l1⟩ := lt_cnt eL (by omega) (Int32.not_lt.mp cc_1) (Int32.not_le.mp cc_9)
           rw [e1] at cc_15
           exact absurd cc_15 (nI_ge (b := 12) (by omega) (by decide)))
    · have ce_9 := Int32.not_le.mp cc_9
      refine ok_iload_n (pc := 12) dX5_isLetter_12 rfl ?_
      refine ok_bipush (pc := 13) (v := 12) dX5_isLetter_13 (by decide) ?_
      refine ok_icmp_ge (pc := 15) 22 dX5_isLetter_15 (by decide) (fun cc_15 => ?_) (fun cc_15 => ?_)
      · have ce_15 := Int32.not_lt.mpr cc_15
        refine ok_iconst (pc := 22) (v := 0) dX5_isLetter_22 (by decide) ?_
        refine ok_zret (pc := 23) dX5_isLetter_23 rfl rfl ?_
        first
          | (rw [wi_T eL (by omega) (Int32.not_lt.mp cc_1) (Int32.not_le.mp cc_9)] at k; exact k)
          | (rw [wi_F1 cc_1] at k; exact k)
          | (rw [wi_F2 eL (by omega) cc_9] at k; exact k)
          | (exfalso
             obtain ⟨e1, l1⟩ := lt_cnt eL (by omega) (Int32.not_lt.mp cc_1) (Int32.not_le.mp cc_9)
             rw [e1] at cc_15
             exact absurd cc_15 (nI_ge (b := 12) (by omega) (by decide)))
      · have ce_15 := Int32.not_le.mp cc_15
        refine ok_iconst (pc := 18) (v := 1) dX5_isLetter_18 (by decide) ?_
        refine ok_goto (pc := 19) 23 dX5_isLetter_19 (by decide) ?_
        refine ok_zret (pc := 23) dX5_isLetter_23 rfl rfl ?_
        first
          | (rw [wi_T eL (by omega) (Int32.not_lt.mp cc_1) (Int32.not_le.mp cc_9)] at k; exact k)
          | (rw [wi_F1 cc_1] at k; exact k)
          | (rw [wi_F2 eL (by omega) cc_9] at k; exact k)
          | (exfalso
             obtain ⟨e1, l1⟩ := lt_cnt eL (by omega) (Int32.not_lt.mp cc_1) (Int32.not_le.mp cc_9)
             rw [e1] at cc_15
             exact absurd cc_15 (nI_ge (b := 12) (by omega) (by decide)))

set_option maxHeartbeats 1000000 in
theorem c_areTwoHills {Γ : Cx} {p e z sz : Nat} {σ : Rw} {M : Nat → Option va_E} {K : Int32 → Wd → Prop} (hP : PstR Γ p e z σ M) (eH : σ 1 = nI (cH σ)) (lH : cH σ ≤ 9) {x y : Int32} (k : K (bI (wi x 0 (σ 1 - 1) && wi y 0 (σ 1 - 1) && !(decide (x = y)))) (M, sz)) : Spec Γ mX5_areTwoHills 1 0 [.ref p, .int x, .int y] (M, sz) (ci K) := by
  refine spec_in [some (.ref p), some (.int x), some (.int y)] 0 (by decide) rfl rfl ?_
  refine ok_aload_n (pc := 0) dX5_areTwoHills_0 rfl ?_
  refine ok_iload_n (pc := 1) dX5_areTwoHills_1 rfl ?_
  refine ok_callVi1 (pc := 2) (d' := 0) dX5_areTwoHills_2 vl_X5_99 hP.o rfl rfl rfl (by decide) ?_
  refine c_isHill hP eH lH ?_
  refine ok_if_eq (pc := 5) 25 dX5_areTwoHills_5 (by decide) (fun cc_5 => ?_) (fun cc_5 => ?_)
  · have cq_5 := bI_0.mp cc_5
    refine ok_iconst (pc := 25) (v := 0) dX5_areTwoHills_25 (by decide) ?_
    refine ok_zret (pc := 26) dX5_areTwoHills_26 rfl rfl ?_
    simpa [bI, cq_5] using k
  · have cq_5 := bI_n0.mp cc_5
    refine ok_aload_n (pc := 8) dX5_areTwoHills_8 rfl ?_
    refine ok_iload_n (pc := 9) dX5_areTwoHills_9 rfl ?_
    refine ok_callVi1 (pc := 10) (d' := 0) dX5_areTwoHills_10 vl_X5_99 hP.o rfl rfl rfl (by decide) ?_
    refine c_isHill hP eH lH ?_
    refine ok_if_eq (pc := 13) 25 dX5_areTwoHills_13 (by decide) (fun cc_13 => ?_) (fun cc_13 => ?_)
    · have cq_13 := bI_0.mp cc_13
      refine ok_iconst (pc := 25) (v := 0) dX5_areTwoHills_25 (by decide) ?_
      refine ok_zret (pc := 26) dX5_areTwoHills_26 rfl rfl ?_
      simpa [bI, cq_5, cq_13] using k
    · have cq_13 := bI_n0.mp cc_13
      refine ok_iload_n (pc := 16) dX5_areTwoHills_16 rfl ?_
      refine ok_iload_n (pc := 17) dX5_areTwoHills_17 rfl ?_
      refine ok_icmp_eq (pc := 18) 25 dX5_areTwoHills_18 (by decide) (fun cc_18 => ?_) (fun cc_18 => ?_)
      · refine ok_iconst (pc := 25) (v := 0) dX5_areTwoHills_25 (by decide) ?_
        refine ok_zret (pc := 26) dX5_areTwoHills_26 rfl rfl ?_
        simpa [bI, cq_5, cq_13, cc_18] using k
      · refine ok_iconst (pc := 21) (v := 1) dX5_areTwoHills_21 (by decide) ?_
        refine ok_goto (pc := 22) 26 dX5_areTwoHills_22 (by decide) ?_
        refine ok_zret (pc := 26) dX5_areTwoHills_26 rfl rfl ?_
        simpa [bI, cq_5, cq_13, cc_18] using k

set_option maxHeartbeats 1000000 in
theorem c_xOf {Γ : Cx} {p e z sz : Nat} {σ : Rw} {M : Nat → Option va_E} {K : Int32 → Wd → Prop} (hP : PstR Γ p e z σ M) {x : Int32} (h : Nat) (ex : x = nI h) (h9 : h < 9) (k : K (hx σ h) (M, sz)) : Spec Γ mX5_xOf 0 0 [.ref p, .int x] (M, sz) (ci K) := by
  refine spec_in [some (.ref p), some (.int x)] 0 (by decide) rfl rfl ?_
  refine ok_iload_n (pc := 0) dX5_xOf_0 rfl ?_
  refine ok_if_lt (pc := 1) 19 dX5_xOf_1 (by decide) (fun cc_1 => ?_) (fun cc_1 => ?_)
  · rw [ex] at cc_1
    exact absurd cc_1 (nI_pos (by omega))
  · have ce_1 := Int32.not_lt.mp cc_1
    refine ok_iload_n (pc := 4) dX5_xOf_4 rfl ?_
    refine ok_bipush (pc := 5) (v := 9) dX5_xOf_5 (by decide) ?_
    refine ok_icmp_ge (pc := 7) 19 dX5_xOf_7 (by decide) (fun cc_7 => ?_) (fun cc_7 => ?_)
    · rw [ex] at cc_7
      exact absurd cc_7 (nI_ge (b := 9) h9 (by decide))
    · have ce_7 := Int32.not_le.mp cc_7
      refine ok_aload_n (pc := 10) dX5_xOf_10 rfl ?_
      refine ok_getf (pc := 11) dX5_xOf_11 fl_X5_9 hP.o rfl ?_
      refine ok_iload_n (pc := 14) dX5_xOf_14 rfl ?_
      refine ok_rde (pc := 15) (h) dX5_xOf_15 hP.xs ex h9 (by decide) ?_
      refine ok_goto (pc := 16) 20 dX5_xOf_16 (by decide) ?_
      refine ok_iret (pc := 20) dX5_xOf_20 rfl ?_
      exact k

set_option maxHeartbeats 1000000 in
theorem c_yOf {Γ : Cx} {p e z sz : Nat} {σ : Rw} {M : Nat → Option va_E} {K : Int32 → Wd → Prop} (hP : PstR Γ p e z σ M) {x : Int32} (h : Nat) (ex : x = nI h) (h9 : h < 9) (k : K (hy σ h) (M, sz)) : Spec Γ mX5_yOf 0 0 [.ref p, .int x] (M, sz) (ci K) := by
  refine spec_in [some (.ref p), some (.int x)] 0 (by decide) rfl rfl ?_
  refine ok_iload_n (pc := 0) dX5_yOf_0 rfl ?_
  refine ok_if_lt (pc := 1) 19 dX5_yOf_1 (by decide) (fun cc_1 => ?_) (fun cc_1 => ?_)
  · rw [ex] at cc_1
    exact absurd cc_1 (nI_pos (by omega))
  · have ce_1 := Int32.not_lt.mp cc_1
    refine ok_iload_n (pc := 4) dX5_yOf_4 rfl ?_
    refine ok_bipush (pc := 5) (v := 9) dX5_yOf_5 (by decide) ?_
    refine ok_icmp_ge (pc := 7) 19 dX5_yOf_7 (by decide) (fun cc_7 => ?_) (fun cc_7 => ?_)
    · rw [ex] at cc_7
      exact absurd cc_7 (nI_ge (b := 9) h9 (by decide))
    · have ce_7 := Int32.not_le.mp cc_7
      refine ok_aload_n (pc := 10) dX5_yOf_10 rfl ?_
      refine ok_getf (pc := 11) dX5_yOf_11 fl_X5_15 hP.o rfl ?_
      refine ok_iload_n (pc := 14) dX5_yOf_14 rfl ?_
      refine ok_rde (pc := 15) (h) dX5_yOf_15 hP.ys ex h9 (by decide) ?_
      refine ok_goto (pc := 16) 20 dX5_yOf_16 (by decide) ?_
      refine ok_iret (pc := 20) dX5_yOf_20 rfl ?_
      exact k

set_option maxHeartbeats 1000000 in
theorem c_placeOf {Γ : Cx} {p e z sz : Nat} {σ : Rw} {M : Nat → Option va_E} {K : Int32 → Wd → Prop} (hP : PstR Γ p e z σ M) {x : Int32} (h : Nat) (ex : x = nI h) (h9 : h < 9) (k : K (σ (9 + 2 * h)) (M, sz)) : Spec Γ mX5_placeOf 1 0 [.ref p, .int x] (M, sz) (ci K) := by
  refine spec_in [some (.ref p), some (.int x)] 0 (by decide) rfl rfl ?_
  refine ok_bipush (pc := 0) (v := 16) dX5_placeOf_0 (by decide) ?_
  refine ok_aload_n (pc := 2) dX5_placeOf_2 rfl ?_
  refine ok_iload_n (pc := 3) dX5_placeOf_3 rfl ?_
  refine ok_callVi1 (pc := 4) (d' := 0) dX5_placeOf_4 vl_X5_111 hP.o rfl rfl rfl (by decide) ?_
  refine c_xOf hP h ex h9 ?_
  refine ok_imul (pc := 7) dX5_placeOf_7 ?_
  refine ok_aload_n (pc := 8) dX5_placeOf_8 rfl ?_
  refine ok_iload_n (pc := 9) dX5_placeOf_9 rfl ?_
  refine ok_callVi1 (pc := 10) (d' := 0) dX5_placeOf_10 vl_X5_114 hP.o rfl rfl rfl (by decide) ?_
  refine c_yOf hP h ex h9 ?_
  refine ok_iadd (pc := 13) dX5_placeOf_13 ?_
  refine ok_iret (pc := 14) dX5_placeOf_14 rfl ?_
  have e9 : 16 * hx σ h + hy σ h = σ (9 + 2 * h) := place_eq _
  rw [e9]
  exact k

set_option maxHeartbeats 1000000 in
theorem l_hillAt {Γ : Cx} {p e z sz : Nat} {σ : Rw} {M : Nat → Option va_E} {K : Int32 → Wd → Prop} (hP : PstR Γ p e z σ M) (eH : σ 1 = nI (cH σ)) (lH : cH σ ≤ 9) {xy : Int32} (k : ∀ r, (takF σ xy (cH σ) = true → 0 ≤ r) → (takF σ xy (cH σ) = false → r < 0) → K r (M, sz)) : ∀ (n : Nat) (j : Nat) (xi : Int32), j + n = cH σ → xi = nI j → takF σ xy j = false → Ok Γ mX5_hillAt 2 0 2 [some (.ref p), some (.int xy), some (.int xi)] [] (M, sz) (ci K) := by
  intro n
  induction n with
  | zero =>
    intro j xi h1 ei hq
    refine ok_iload_n (pc := 2) dX5_hillAt_2 rfl ?_
    refine ok_aload_n (pc := 3) dX5_hillAt_3 rfl ?_
    refine ok_getf (pc := 4) dX5_hillAt_4 fl_X5_77 hP.o rfl ?_
    refine ok_icmp_ge (pc := 7) 27 dX5_hillAt_7 (by decide) (fun cc_7 => ?_) (fun cc_7 => ?_)
    · have ce_7 := Int32.not_lt.mpr cc_7
      have e9 : j = cH σ := by omega
      subst e9
      refine ok_iconst (pc := 27) (v := -1) dX5_hillAt_27 (by decide) ?_
      refine ok_iret (pc := 28) dX5_hillAt_28 rfl ?_
      exact k _ (fun h9 => by rw [hq] at h9; cases h9) (fun _ => by decide)
    · exact absurd (by rw [eH, ei]; exact nI_le (by omega) (by omega)) cc_7
  | succ n ih =>
    intro j xi h1 ei hq
    refine ok_iload_n (pc := 2) dX5_hillAt_2 rfl ?_
    refine ok_aload_n (pc := 3) dX5_hillAt_3 rfl ?_
    refine ok_getf (pc := 4) dX5_hillAt_4 fl_X5_77 hP.o rfl ?_
    refine ok_icmp_ge (pc := 7) 27 dX5_hillAt_7 (by decide) (fun cc_7 => ?_) (fun cc_7 => ?_)
    · rw [eH, ei] at cc_7
      exact absurd cc_7 (nI_ge (by omega) (by omega))
    · have ce_7 := Int32.not_le.mp cc_7
      refine ok_aload_n (pc := 10) dX5_hillAt_10 rfl ?_
      refine ok_iload_n (pc := 11) dX5_hillAt_11 rfl ?_
      refine ok_callVi1 (pc := 12) (d' := 1) dX5_hillAt_12 vl_X5_103 hP.o rfl rfl rfl (by decide) ?_
      refine c_placeOf hP j ei (by omega) ?_
      refine ok_iload_n (pc := 15) dX5_hillAt_15 rfl ?_
      refine ok_icmp_ne (pc := 16) 21 dX5_hillAt_16 (by decide) (fun cc_16 => ?_) (fun cc_16 => ?_)
      · refine ok_iinc2 (pc := 21) (v := 1) dX5_hillAt_21 (by decide) (by decide) rfl ?_
        refine ok_goto (pc := 24) 2 dX5_hillAt_24 (by decide) ?_
        exact ih (j + 1) _ (by omega) (by rw [ei, nI_1]) (by unfold takF; rw [hq, decide_eq_false cc_16]; rfl)
      · refine ok_iload_n (pc := 19) dX5_hillAt_19 rfl ?_
        refine ok_iret (pc := 20) dX5_hillAt_20 rfl ?_
        have hup : ∀ q, j < q → takF σ xy q = true := by
          intro q
          induction q with
          | zero => intro h; exact absurd h (Nat.not_lt_zero _)
          | succ q ihq =>
            intro h
            unfold takF
            rcases Nat.lt_or_ge j q with g | g
            · rw [ihq g]; rfl
            · have e9 : j = q := by omega
              subst e9
              rw [decide_eq_true cc_16]
              exact Bool.or_true _
        exact k _ (fun _ => by rw [ei]; exact nI_pos' (by omega)) (fun h9 => by rw [hup (cH σ) (by omega)] at h9; cases h9)

set_option maxHeartbeats 1000000 in
theorem c_hillAt {Γ : Cx} {p e z sz : Nat} {σ : Rw} {M : Nat → Option va_E} {K : Int32 → Wd → Prop} (hP : PstR Γ p e z σ M) (eH : σ 1 = nI (cH σ)) (lH : cH σ ≤ 9) {xy : Int32} (k : ∀ r, (takF σ xy (cH σ) = true → 0 ≤ r) → (takF σ xy (cH σ) = false → r < 0) → K r (M, sz)) : Spec Γ mX5_hillAt 2 0 [.ref p, .int xy] (M, sz) (ci K) := by
  refine spec_in [some (.ref p), some (.int xy), none] 1 (by decide) rfl rfl ?_
  refine ok_iconst (pc := 0) (v := 0) dX5_hillAt_0 (by decide) ?_
  refine ok_istore_n2 (pc := 1) dX5_hillAt_1 (by decide) rfl ?_
  exact l_hillAt hP eH lH k (cH σ) 0 _ (by omega) rfl rfl

set_option maxHeartbeats 1000000 in
theorem c_heightOf {Γ : Cx} {p e z sz : Nat} {σ : Rw} {M : Nat → Option va_E} {K : Int32 → Wd → Prop} (hP : PstR Γ p e z σ M) (eH : σ 1 = nI (cH σ)) (lH : cH σ ≤ 9) {x : Int32} (h : Nat) (ex : x = nI h) (hh : h < cH σ) (k : K (hz σ h) (M, sz)) : Spec Γ mX5_heightOf 1 0 [.ref p, .int x] (M, sz) (ci K) := by
  refine spec_in [some (.ref p), some (.int x)] 0 (by decide) rfl rfl ?_
  refine ok_aload_n (pc := 0) dX5_heightOf_0 rfl ?_
  refine ok_iload_n (pc := 1) dX5_heightOf_1 rfl ?_
  refine ok_callVi1 (pc := 2) (d' := 0) dX5_heightOf_2 vl_X5_99 hP.o rfl rfl rfl (by decide) ?_
  refine c_isHill hP eH lH ?_
  refine ok_if_eq (pc := 5) 17 dX5_heightOf_5 (by decide) (fun cc_5 => ?_) (fun cc_5 => ?_)
  · have h9 := bI_0.mp cc_5
    rw [wi_T eH (by omega) (by rw [ex]; exact nI_pos' (by omega)) (by rw [ex, eH]; exact nI_lt hh (by omega))] at h9
    cases h9
  · have cq_5 := bI_n0.mp cc_5
    refine ok_aload_n (pc := 8) dX5_heightOf_8 rfl ?_
    refine ok_getf (pc := 9) dX5_heightOf_9 fl_X5_18 hP.o rfl ?_
    refine ok_iload_n (pc := 12) dX5_heightOf_12 rfl ?_
    refine ok_rde (pc := 13) (h) dX5_heightOf_13 hP.hz ex (by omega) (by decide) ?_
    refine ok_goto (pc := 14) 18 dX5_heightOf_14 (by decide) ?_
    refine ok_iret (pc := 18) dX5_heightOf_18 rfl ?_
    exact k

set_option maxHeartbeats 1000000 in
theorem c_far {Γ : Cx} {p e z sz : Nat} {σ : Rw} {M : Nat → Option va_E} {K : Int32 → Wd → Prop} (hP : PstR Γ p e z σ M) {xI yI : Int32} (x y : Nat) (ex : xI = nI x) (ey : yI = nI y) (hx9 : x < 9) (hy9 : y < 9) (k : K (farF σ x y) (M, sz)) : Spec Γ mX5_far 1 0 [.ref p, .int xI, .int yI] (M, sz) (ci K) := by
  refine spec_in [some (.ref p), some (.int xI), some (.int yI)] 0 (by decide) rfl rfl ?_
  refine ok_aload_n (pc := 0) dX5_far_0 rfl ?_
  refine ok_iload_n (pc := 1) dX5_far_1 rfl ?_
  refine ok_callVi1 (pc := 2) (d' := 0) dX5_far_2 vl_X5_111 hP.o rfl rfl rfl (by decide) ?_
  refine c_xOf hP x ex hx9 ?_
  refine ok_aload_n (pc := 5) dX5_far_5 rfl ?_
  refine ok_iload_n (pc := 6) dX5_far_6 rfl ?_
  refine ok_callVi1 (pc := 7) (d' := 0) dX5_far_7 vl_X5_111 hP.o rfl rfl rfl (by decide) ?_
  refine c_xOf hP y ey hy9 ?_
  refine ok_isub (pc := 10) dX5_far_10 ?_
  refine ok_mabs (pc := 11) dX5_far_11 tw_569 rfl (by decide) ?_
  refine ok_aload_n (pc := 14) dX5_far_14 rfl ?_
  refine ok_iload_n (pc := 15) dX5_far_15 rfl ?_
  refine ok_callVi1 (pc := 16) (d' := 0) dX5_far_16 vl_X5_114 hP.o rfl rfl rfl (by decide) ?_
  refine c_yOf hP x ex hx9 ?_
  refine ok_aload_n (pc := 19) dX5_far_19 rfl ?_
  refine ok_iload_n (pc := 20) dX5_far_20 rfl ?_
  refine ok_callVi1 (pc := 21) (d' := 0) dX5_far_21 vl_X5_114 hP.o rfl rfl rfl (by decide) ?_
  refine c_yOf hP y ey hy9 ?_
  refine ok_isub (pc := 24) dX5_far_24 ?_
  refine ok_mabs (pc := 25) dX5_far_25 tw_569 rfl (by decide) ?_
  refine ok_iadd (pc := 28) dX5_far_28 ?_
  refine ok_iret (pc := 29) dX5_far_29 rfl ?_
  exact k

set_option maxHeartbeats 1000000 in
theorem c_windAt {Γ : Cx} {p e z sz : Nat} {σ : Rw} {M : Nat → Option va_E} {K : Int32 → Wd → Prop} (hP : PstR Γ p e z σ M) {w : Int32} (t : Nat) (ew : w = nI t) (ht : t < 2 ^ 30) (k : K (σ (27 + t % 24)) (M, sz)) : Spec Γ mX5_windAt 0 0 [.ref p, .int w] (M, sz) (ci K) := by
  refine spec_in [some (.ref p), some (.int w), none] 1 (by decide) rfl rfl ?_
  refine ok_iload_n (pc := 0) dX5_windAt_0 rfl ?_
  refine ok_bipush (pc := 1) (v := 24) dX5_windAt_1 (by decide) ?_
  refine ok_irem (pc := 3) dX5_windAt_3 (by decide) ?_
  have em : jrem w 24 = nI (t % 24) := by rw [ew]; exact pk_rem (by omega) (by decide) (by decide)
  rw [em]
  refine ok_istore_n2 (pc := 4) dX5_windAt_4 (by decide) rfl ?_
  refine ok_iload_n (pc := 5) dX5_windAt_5 rfl ?_
  refine ok_if_lt (pc := 6) 18 dX5_windAt_6 (by decide) (fun cc_6 => ?_) (fun cc_6 => ?_)
  · exact absurd cc_6 (nI_pos (by omega))
  · have ce_6 := Int32.not_lt.mp cc_6
    refine ok_aload_n (pc := 9) dX5_windAt_9 rfl ?_
    refine ok_getf (pc := 10) dX5_windAt_10 fl_X5_21 hP.o rfl ?_
    refine ok_iload_n (pc := 13) dX5_windAt_13 rfl ?_
    refine ok_rde (pc := 14) (t % 24) dX5_windAt_14 hP.wd rfl (Nat.mod_lt _ (by decide)) (by decide) ?_
    refine ok_goto (pc := 15) 19 dX5_windAt_15 (by decide) ?_
    refine ok_iret (pc := 19) dX5_windAt_19 rfl ?_
    exact k

set_option maxHeartbeats 1000000 in
theorem c_aimOf {Γ : Cx} {p e z sz : Nat} {σ : Rw} {M : Nat → Option va_E} {K : Int32 → Wd → Prop} (hP : PstR Γ p e z σ M) {x : Int32} (k0 : Nat) (ex : x = nI k0) (hk : k0 < 8) (k : K (kf σ k0 5) (M, sz)) : Spec Γ mX5_aimOf 1 0 [.ref p, .int x] (M, sz) (ci K) := by
  refine spec_in [some (.ref p), some (.int x)] 0 (by decide) rfl rfl ?_
  refine ok_iload_n (pc := 0) dX5_aimOf_0 rfl ?_
  refine ok_iconst (pc := 1) (v := 0) dX5_aimOf_1 (by decide) ?_
  refine ok_bipush (pc := 2) (v := 7) dX5_aimOf_2 (by decide) ?_
  refine ok_callSNi3 (pc := 4) (d' := 0) dX5_aimOf_4 snl_X5_122 rfl (by decide) ?_
  refine c_within ?_
  refine ok_if_eq (pc := 7) 19 dX5_aimOf_7 (by decide) (fun cc_7 => ?_) (fun cc_7 => ?_)
  · have h9 := bI_0.mp cc_7
    rw [ex, show wi (nI k0) 0 7 = true from wi_nI (a := 0) (b := 7) (by omega) (by omega) (by decide)] at h9
    cases h9
  · have cq_7 := bI_n0.mp cc_7
    refine ok_aload_n (pc := 10) dX5_aimOf_10 rfl ?_
    refine ok_getf (pc := 11) dX5_aimOf_11 fl_X5_30 hP.o rfl ?_
    refine ok_iload_n (pc := 14) dX5_aimOf_14 rfl ?_
    refine ok_rde (pc := 15) (k0) dX5_aimOf_15 hP.am ex hk (by decide) ?_
    refine ok_goto (pc := 16) 20 dX5_aimOf_16 (by decide) ?_
    refine ok_iret (pc := 20) dX5_aimOf_20 rfl ?_
    exact k

set_option maxHeartbeats 1000000 in
theorem c_ofOne {Γ : Cx} {p e z sz : Nat} {σ : Rw} {M : Nat → Option va_E} {K : Int32 → Wd → Prop} (hP : PstR Γ p e z σ M) (eL : σ 3 = nI (cL σ)) (lL : cL σ ≤ 12) {x y : Int32} (l w : Nat) (ex : x = nI l) (ey : y = nI w) (hl : l < cL σ) (hw : w < 7) (k : K (lf σ l w) (M, sz)) : Spec Γ mX5_ofOne 1 0 [.ref p, .int x, .int y] (M, sz) (ci K) := by
  refine spec_in [some (.ref p), some (.int x), some (.int y)] 0 (by decide) rfl rfl ?_
  refine ok_aload_n (pc := 0) dX5_ofOne_0 rfl ?_
  refine ok_iload_n (pc := 1) dX5_ofOne_1 rfl ?_
  refine ok_callVi1 (pc := 2) (d' := 0) dX5_ofOne_2 vl_X5_224 hP.o rfl rfl rfl (by decide) ?_
  refine c_isLetter hP eL lL ?_
  refine ok_if_eq (pc := 5) 32 dX5_ofOne_5 (by decide) (fun cc_5 => ?_) (fun cc_5 => ?_)
  · have h9 := bI_0.mp cc_5
    rw [wi_T eL (by omega) (by rw [ex]; exact nI_pos' (by omega)) (by rw [ex, eL]; exact nI_lt hl (by omega))] at h9
    cases h9
  · have cq_5 := bI_n0.mp cc_5
    refine ok_iload_n (pc := 8) dX5_ofOne_8 rfl ?_
    refine ok_iconst (pc := 9) (v := 0) dX5_ofOne_9 (by decide) ?_
    refine ok_bipush (pc := 10) (v := 6) dX5_ofOne_10 (by decide) ?_
    refine ok_callSNi3 (pc := 12) (d' := 0) dX5_ofOne_12 snl_X5_122 rfl (by decide) ?_
    refine c_within ?_
    refine ok_if_eq (pc := 15) 32 dX5_ofOne_15 (by decide) (fun cc_15 => ?_) (fun cc_15 => ?_)
    · have h9 := bI_0.mp cc_15
      rw [ey, show wi (nI w) 0 6 = true from wi_nI (a := 0) (b := 6) (by omega) (by omega) (by decide)] at h9
      cases h9
    · have cq_15 := bI_n0.mp cc_15
      refine ok_aload_n (pc := 18) dX5_ofOne_18 rfl ?_
      refine ok_getf (pc := 19) dX5_ofOne_19 fl_X5_33 hP.o rfl ?_
      refine ok_iload_n (pc := 22) dX5_ofOne_22 rfl ?_
      refine ok_bipush (pc := 23) (v := 7) dX5_ofOne_23 (by decide) ?_
      refine ok_imul (pc := 25) dX5_ofOne_25 ?_
      refine ok_iload_n (pc := 26) dX5_ofOne_26 rfl ?_
      refine ok_iadd (pc := 27) dX5_ofOne_27 ?_
      refine ok_rde (pc := 28) (l * 7 + w) dX5_ofOne_28 hP.lt (by rw [ex, ey]; simp only [fa_lit, pk_mul, nI_add]) (by omega) (by decide) ?_
      refine ok_goto (pc := 29) 33 dX5_ofOne_29 (by decide) ?_
      refine ok_iret (pc := 33) dX5_ofOne_33 rfl ?_
      have e9 : σ (99 + (l * 7 + w)) = lf σ l w := by unfold lf; rw [show 99 + (l * 7 + w) = 99 + 7 * l + w by omega]
      rw [e9]
      exact k

set_option maxHeartbeats 1000000 in
theorem c_waitsOn {Γ : Cx} {p e z sz : Nat} {σ : Rw} {M : Nat → Option va_E} {K : Int32 → Wd → Prop} (hP : PstR Γ p e z σ M) (eL : σ 3 = nI (cL σ)) (lL : cL σ ≤ 12) {x y : Int32} (l : Nat) (ex : x = nI l) (hl : l < cL σ) (k : K (bI (decide (lf σ l 5 = y) && decide (lf σ l 6 < 0))) (M, sz)) : Spec Γ mX5_waitsOn 2 0 [.ref p, .int x, .int y] (M, sz) (ci K) := by
  refine spec_in [some (.ref p), some (.int x), some (.int y)] 0 (by decide) rfl rfl ?_
  refine ok_aload_n (pc := 0) dX5_waitsOn_0 rfl ?_
  refine ok_iload_n (pc := 1) dX5_waitsOn_1 rfl ?_
  refine ok_iconst (pc := 2) (v := 5) dX5_waitsOn_2 (by decide) ?_
  refine ok_callVi2 (pc := 3) (d' := 1) dX5_waitsOn_3 vl_X5_231 hP.o rfl rfl rfl (by decide) ?_
  refine c_ofOne hP eL lL l 5 ex rfl hl (by decide) ?_
  refine ok_iload_n (pc := 6) dX5_waitsOn_6 rfl ?_
  refine ok_icmp_ne (pc := 7) 24 dX5_waitsOn_7 (by decide) (fun cc_7 => ?_) (fun cc_7 => ?_)
  · refine ok_iconst (pc := 24) (v := 0) dX5_waitsOn_24 (by decide) ?_
    refine ok_zret (pc := 25) dX5_waitsOn_25 rfl rfl ?_
    simpa [bI, cc_7] using k
  · refine ok_aload_n (pc := 10) dX5_waitsOn_10 rfl ?_
    refine ok_iload_n (pc := 11) dX5_waitsOn_11 rfl ?_
    refine ok_bipush (pc := 12) (v := 6) dX5_waitsOn_12 (by decide) ?_
    refine ok_callVi2 (pc := 14) (d' := 1) dX5_waitsOn_14 vl_X5_231 hP.o rfl rfl rfl (by decide) ?_
    refine c_ofOne hP eL lL l 6 ex rfl hl (by decide) ?_
    refine ok_if_ge (pc := 17) 24 dX5_waitsOn_17 (by decide) (fun cc_17 => ?_) (fun cc_17 => ?_)
    · have ce_17 := Int32.not_lt.mpr cc_17
      refine ok_iconst (pc := 24) (v := 0) dX5_waitsOn_24 (by decide) ?_
      refine ok_zret (pc := 25) dX5_waitsOn_25 rfl rfl ?_
      simpa [bI, cc_7, cc_17, ce_17] using k
    · have ce_17 := Int32.not_le.mp cc_17
      refine ok_iconst (pc := 20) (v := 1) dX5_waitsOn_20 (by decide) ?_
      refine ok_goto (pc := 21) 25 dX5_waitsOn_21 (by decide) ?_
      refine ok_zret (pc := 25) dX5_waitsOn_25 rfl rfl ?_
      simpa [bI, cc_7, cc_17, ce_17] using k

set_option maxHeartbeats 1000000 in
theorem l_cLettersOn {Γ : Cx} {p e z sz : Nat} {σ : Rw} {M : Nat → Option va_E} {K : Int32 → Wd → Prop} (hP : PstR Γ p e z σ M) (eL : σ 3 = nI (cL σ)) (lL : cL σ ≤ 12) {y : Int32} (k : K (lonF σ y (cL σ)) (M, sz)) : ∀ (n : Nat) (j : Nat) (x2 : Int32) (xi : Int32), j + n = cL σ → xi = nI j → x2 = lonF σ y j → Ok Γ mX5_lettersOn 3 0 4 [some (.ref p), some (.int y), some (.int x2), some (.int xi)] [] (M, sz) (ci K) := by
  intro n
  induction n with
  | zero =>
    intro j x2 xi h1 ei hq
    refine ok_iload_n (pc := 4) dX5_lettersOn_4 rfl ?_
    refine ok_aload_n (pc := 5) dX5_lettersOn_5 rfl ?_
    refine ok_getf (pc := 6) dX5_lettersOn_6 fl_X5_83 hP.o rfl ?_
    refine ok_icmp_ge (pc := 9) 33 dX5_lettersOn_9 (by decide) (fun cc_9 => ?_) (fun cc_9 => ?_)
    · have ce_9 := Int32.not_lt.mpr cc_9
      have e9 : j = cL σ := by omega
      subst e9
      rw [hq]
      refine ok_iload_n (pc := 33) dX5_lettersOn_33 rfl ?_
      refine ok_iret (pc := 34) dX5_lettersOn_34 rfl ?_
      exact k
    · exact absurd (by rw [eL, ei]; exact nI_le (by omega) (by omega)) cc_9
  | succ n ih =>
    intro j x2 xi h1 ei hq
    refine ok_iload_n (pc := 4) dX5_lettersOn_4 rfl ?_
    refine ok_aload_n (pc := 5) dX5_lettersOn_5 rfl ?_
    refine ok_getf (pc := 6) dX5_lettersOn_6 fl_X5_83 hP.o rfl ?_
    refine ok_icmp_ge (pc := 9) 33 dX5_lettersOn_9 (by decide) (fun cc_9 => ?_) (fun cc_9 => ?_)
    · rw [eL, ei] at cc_9
      exact absurd cc_9 (nI_ge (by omega) (by omega))
    · have ce_9 := Int32.not_le.mp cc_9
      refine ok_aload_n (pc := 12) dX5_lettersOn_12 rfl ?_
      refine ok_iload_n (pc := 13) dX5_lettersOn_13 rfl ?_
      refine ok_iload_n (pc := 14) dX5_lettersOn_14 rfl ?_
      refine ok_callVi2 (pc := 15) (d' := 2) dX5_lettersOn_15 vl_X5_234 hP.o rfl rfl rfl (by decide) ?_
      refine c_waitsOn hP eL lL j ei (by omega) ?_
      refine ok_if_eq (pc := 18) 27 dX5_lettersOn_18 (by decide) (fun cc_18 => ?_) (fun cc_18 => ?_)
      · have cq_18 := bI_0.mp cc_18
        have enx : lonF σ y (j + 1) = lonF σ y j := by
          show lonF σ y j ||| _ = _
          rw [if_neg (fun h9 => by rw [decide_eq_true h9.1, decide_eq_true h9.2] at cq_18; cases cq_18), or_0]
        refine ok_iinc3 (pc := 27) (v := 1) dX5_lettersOn_27 (by decide) (by decide) rfl ?_
        refine ok_goto (pc := 30) 4 dX5_lettersOn_30 (by decide) ?_
        exact ih (j + 1) _ _ (by omega) (by rw [ei, nI_1]) (by rw [enx, hq]; try rw [ei])
      · have cq_18 := bI_n0.mp cc_18
        rw [Bool.and_eq_true] at cq_18
        have enx : lonF σ y (j + 1) = lonF σ y j ||| jshl 1 (nI j) := by
          show lonF σ y j ||| _ = _
          rw [if_pos ⟨of_decide_eq_true cq_18.1, of_decide_eq_true cq_18.2⟩]
        refine ok_iload_n (pc := 21) dX5_lettersOn_21 rfl ?_
        refine ok_iconst (pc := 22) (v := 1) dX5_lettersOn_22 (by decide) ?_
        refine ok_iload_n (pc := 23) dX5_lettersOn_23 rfl ?_
        refine ok_ishl (pc := 24) dX5_lettersOn_24 ?_
        refine ok_ior (pc := 25) dX5_lettersOn_25 ?_
        refine ok_istore_n2 (pc := 26) dX5_lettersOn_26 (by decide) rfl ?_
        refine ok_iinc3 (pc := 27) (v := 1) dX5_lettersOn_27 (by decide) (by decide) rfl ?_
        refine ok_goto (pc := 30) 4 dX5_lettersOn_30 (by decide) ?_
        exact ih (j + 1) _ _ (by omega) (by rw [ei, nI_1]) (by rw [enx, hq]; try rw [ei])

set_option maxHeartbeats 1000000 in
theorem c_lettersOn {Γ : Cx} {p e z sz : Nat} {σ : Rw} {M : Nat → Option va_E} {K : Int32 → Wd → Prop} (hP : PstR Γ p e z σ M) (eL : σ 3 = nI (cL σ)) (lL : cL σ ≤ 12) {y : Int32} (k : K (lonF σ y (cL σ)) (M, sz)) : Spec Γ mX5_lettersOn 3 0 [.ref p, .int y] (M, sz) (ci K) := by
  refine spec_in [some (.ref p), some (.int y), none, none] 2 (by decide) rfl rfl ?_
  refine ok_iconst (pc := 0) (v := 0) dX5_lettersOn_0 (by decide) ?_
  refine ok_istore_n2 (pc := 1) dX5_lettersOn_1 (by decide) rfl ?_
  refine ok_iconst (pc := 2) (v := 0) dX5_lettersOn_2 (by decide) ?_
  refine ok_istore_n3 (pc := 3) dX5_lettersOn_3 (by decide) rfl ?_
  exact l_cLettersOn hP eL lL k (cL σ) 0 _ _ (by omega) rfl rfl

set_option maxHeartbeats 1000000 in
theorem c_kiteAt {Γ : Cx} {p e z sz : Nat} {σ : Rw} {M : Nat → Option va_E} {K : Option Nat → Wd → Prop} (hP : PstR Γ p e z σ M) (eK : σ 2 = nI (cK σ)) (lK : cK σ ≤ 8) {x : Int32} (k1 : ∀ q, x = nI (iN x) → iN x < cK σ → KtQ e z σ (iN x) q M → K (some q) (M, sz)) (k2 : wi x 0 (σ 2 - 1) = false → K none (M, sz)) : Spec Γ mX5_kiteAt 0 0 [.ref p, .int x] (M, sz) (cr K) := by
  refine spec_in [some (.ref p), some (.int x)] 0 (by decide) rfl rfl ?_
  refine ok_iload_n (pc := 0) dX5_kiteAt_0 rfl ?_
  refine ok_if_lt (pc := 1) 27 dX5_kiteAt_1 (by decide) (fun cc_1 => ?_) (fun cc_1 => ?_)
  · have ce_1 := Int32.not_le.mpr cc_1
    refine ok_null (pc := 27) dX5_kiteAt_27 ?_
    first
      | (refine ok_aret (pc := 28) (r := none) dX5_kiteAt_28 rfl (Or.inl ⟨_, rfl⟩) ?_
         first
           | exact k2 (wi_F1 cc_1)
           | exact k2 (wi_F2 eK (by omega) cc_9)
           | (exfalso
              obtain ⟨ex, lx⟩ := lt_cnt eK (by omega) (Int32.not_lt.mp cc_1) (Int32.not_le.mp cc_9)
              rw [ex] at cc_15
              exact absurd cc_15 (nI_ge (b := 8) (by omega) (by decide))))
      | (refine ok_aret (pc := 28) (r := some q) dX5_kiteAt_28 rfl (Or.inl ⟨_, rfl⟩) ?_
         exact k1 q ex lx hq)
  · have ce_1 := Int32.not_lt.mp cc_1
    refine ok_iload_n (pc := 4) dX5_kiteAt_4 rfl ?_
    refine ok_aload_n (pc := 5) dX5_kiteAt_5 rfl ?_
    refine ok_getf (pc := 6) dX5_kiteAt_6 fl_X5_80 hP.o rfl ?_
    refine ok_icmp_ge (pc := 9) 27 dX5_kiteAt_9 (by decide) (fun cc_9 => ?_) (fun cc_9 => ?_)
    · have ce_9 := Int32.not_lt.mpr cc_9
      refine ok_null (pc := 27) dX5_kiteAt_27 ?_
      first
        | (refine ok_aret (pc := 28) (r := none) dX5_kiteAt_28 rfl (Or.inl ⟨_, rfl⟩) ?_
           first
             | exact k2 (wi_F1 cc_1)
             | exact k2 (wi_F2 eK (by omega) cc_9)
             | (exfalso
                obtain ⟨ex, lx⟩ := lt_cnt eK (by omega) (Int32.not_lt.mp cc_1) (Int32.not_le.mp cc_9)
                rw [ex] at cc_15
                exact absurd cc_15 (nI_ge (b := 8) (by omega) (by decide))))
        | (refine ok_aret (pc := 28) (r := some q) dX5_kiteAt_28 rfl (Or.inl ⟨_, rfl⟩) ?_
           exact k1 q ex lx hq)
    · have ce_9 := Int32.not_le.mp cc_9
      refine ok_iload_n (pc := 12) dX5_kiteAt_12 rfl ?_
      refine ok_bipush (pc := 13) (v := 8) dX5_kiteAt_13 (by decide) ?_
      refine ok_icmp_ge (pc := 15) 27 dX5_kiteAt_15 (by decide) (fun cc_15 => ?_) (fun cc_15 => ?_)
      · have ce_15 := Int32.not_lt.mpr cc_15
        refine ok_null (pc := 27) dX5_kiteAt_27 ?_
        first
          | (refine ok_aret (pc := 28) (r := none) dX5_kiteAt_28 rfl (Or.inl ⟨_, rfl⟩) ?_
             first
               | exact k2 (wi_F1 cc_1)
               | exact k2 (wi_F2 eK (by omega) cc_9)
               | (exfalso
                  obtain ⟨ex, lx⟩ := lt_cnt eK (by omega) (Int32.not_lt.mp cc_1) (Int32.not_le.mp cc_9)
                  rw [ex] at cc_15
                  exact absurd cc_15 (nI_ge (b := 8) (by omega) (by decide))))
          | (refine ok_aret (pc := 28) (r := some q) dX5_kiteAt_28 rfl (Or.inl ⟨_, rfl⟩) ?_
             exact k1 q ex lx hq)
      · have ce_15 := Int32.not_le.mp cc_15
        refine ok_aload_n (pc := 18) dX5_kiteAt_18 rfl ?_
        refine ok_getf (pc := 19) dX5_kiteAt_19 fl_X5_26 hP.o rfl ?_
        refine ok_iload_n (pc := 22) dX5_kiteAt_22 rfl ?_
        obtain ⟨kr, ek1, ek2, -⟩ := id hP.kt
        obtain ⟨ex, lx⟩ := lt_cnt eK (by omega) (Int32.not_lt.mp cc_1) (Int32.not_le.mp cc_9)
        obtain ⟨q, eq, hq⟩ := ek2 _ lx
        refine ok_aald (pc := 23) (t := 1) (iN x) dX5_kiteAt_23 ek1 rfl ex (by omega) (by decide) ?_
        rw [eq]
        refine ok_goto (pc := 24) 28 dX5_kiteAt_24 (by decide) ?_
        first
          | (refine ok_aret (pc := 28) (r := none) dX5_kiteAt_28 rfl (Or.inl ⟨_, rfl⟩) ?_
             first
               | exact k2 (wi_F1 cc_1)
               | exact k2 (wi_F2 eK (by omega) cc_9)
               | (exfalso
                  obtain ⟨ex, lx⟩ := lt_cnt eK (by omega) (Int32.not_lt.mp cc_1) (Int32.not_le.mp cc_9)
                  rw [ex] at cc_15
                  exact absurd cc_15 (nI_ge (b := 8) (by omega) (by decide))))
          | (refine ok_aret (pc := 28) (r := some q) dX5_kiteAt_28 rfl (Or.inl ⟨_, rfl⟩) ?_
             exact k1 q ex lx hq)
