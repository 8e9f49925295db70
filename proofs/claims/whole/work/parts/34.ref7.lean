set_option maxHeartbeats 1000000 in
theorem r_pull {Γ : Cx} {m sz : Nat} {M0 M : Nat → Option va_E} {σ κ vi : Rw} {va : Nat → Rw} {K : Int32 → Wd → Prop} (hW : RefW Γ m M0 σ κ vi va M) (hI : Inv σ) {x y z : Int32} (k : ∀ M', RefW Γ m M0 σ κ vi (eU va (op_pull σ x y z).1) M' → K (op_pull σ x y z).2 (M', sz)) : Spec Γ mX12_pull 5 0 [.ref m, .int x, .int y, .int z] (M, sz) (ci K) := by
  obtain ⟨ri, ra, hR, hv, hw⟩ := hW
  obtain ⟨⟨⟨eH, lH⟩, ⟨eK, lK⟩, ⟨eL, lL⟩, ⟨eA, lA⟩, ⟨eT, lT⟩⟩, iK, iH, iW, iL, iO, iB, hT⟩ := id hI
  
  refine spec_in [some (.ref m), some (.int x), some (.int y), some (.int z)] 0 (by decide) rfl rfl ?_
  refine ok_aload_n (pc := 0) dX12_pull_0 rfl ?_
  refine ok_iload_n (pc := 1) dX12_pull_1 rfl ?_
  refine ok_iconst (pc := 2) (v := 2) dX12_pull_2 (by decide) ?_
  refine ok_callVi2 (pc := 3) (d' := 1) dX12_pull_3 vl_X12_100 hR.o rfl rfl rfl (by decide) ?_
  refine r_is hR 2 rfl (by decide) ?_
  refine ok_if_eq (pc := 6) 25 dX12_pull_6 (by decide) (fun cc_6 => ?_) (fun cc_6 => ?_)
  · have cq_6 := bI_0.mp cc_6
    refine ok_aload_n (pc := 25) dX12_pull_25 rfl ?_
    refine ok_ldc (pc := 26) (v := -1000000001) dX12_pull_26 tw_1205 ?_
    refine ok_callVi1 (pc := 28) (d' := 0) dX12_pull_28 vl_X12_84 hR.o rfl rfl rfl (by decide) ?_
    refine r_finding hR 1 (by decide) (by decide) (fun M hR => ?_)
    refine ok_iret (pc := 31) dX12_pull_31 rfl ?_
    have eo : op_pull σ x y z = (1, -1000000001) := by simp [op_pull, cq_6]
    rw [eo] at k
    exact k _ (RefW.err 1 (by decide) hR hv hw)
  · have cq_6 := bI_n0.mp cc_6
    refine ok_aload_n (pc := 9) dX12_pull_9 rfl ?_
    refine ok_iload_n (pc := 10) dX12_pull_10 rfl ?_
    refine ok_iconst (pc := 11) (v := 1) dX12_pull_11 (by decide) ?_
    refine ok_callVi2 (pc := 12) (d' := 1) dX12_pull_12 vl_X12_100 hR.o rfl rfl rfl (by decide) ?_
    refine r_is hR 1 rfl (by decide) ?_
    refine ok_if_eq (pc := 15) 25 dX12_pull_15 (by decide) (fun cc_15 => ?_) (fun cc_15 => ?_)
    · have cq_15 := bI_0.mp cc_15
      refine ok_aload_n (pc := 25) dX12_pull_25 rfl ?_
      refine ok_ldc (pc := 26) (v := -1000000001) dX12_pull_26 tw_1205 ?_
      refine ok_callVi1 (pc := 28) (d' := 0) dX12_pull_28 vl_X12_84 hR.o rfl rfl rfl (by decide) ?_
      refine r_finding hR 1 (by decide) (by decide) (fun M hR => ?_)
      refine ok_iret (pc := 31) dX12_pull_31 rfl ?_
      have eo : op_pull σ x y z = (1, -1000000001) := by simp [op_pull, cq_6, cq_15]
      rw [eo] at k
      exact k _ (RefW.err 1 (by decide) hR hv hw)
    · have cq_15 := bI_n0.mp cc_15
      refine ok_iload_n (pc := 18) dX12_pull_18 rfl ?_
      refine ok_callSi1 (pc := 19) (d' := 1) dX12_pull_19 sl_X12_156 rfl (by decide) ?_
      refine r_isLoad ?_
      refine ok_if_ne (pc := 22) 32 dX12_pull_22 (by decide) (fun cc_22 => ?_) (fun cc_22 => ?_)
      · have cq_22 := bI_n0.mp cc_22
        refine ok_aload_n (pc := 32) dX12_pull_32 rfl ?_
        refine ok_iload_n (pc := 33) dX12_pull_33 rfl ?_
        refine ok_iload_n (pc := 34) dX12_pull_34 rfl ?_
        refine ok_iload_n (pc := 35) dX12_pull_35 rfl ?_
        refine ok_aload_n (pc := 36) dX12_pull_36 rfl ?_
        refine ok_getf (pc := 37) dX12_pull_37 fl_X12_9 hR.o rfl ?_
        refine ok_iconst (pc := 40) (v := 0) dX12_pull_40 (by decide) ?_
        refine ok_iald (pc := 41) (0) dX12_pull_41 hR.a0 rfl (by decide) (by decide) ?_
        refine ok_bipush (pc := 42) (v := 24) dX12_pull_42 (by decide) ?_
        refine ok_irem (pc := 44) dX12_pull_44 (by decide) ?_
        refine ok_aload_n (pc := 45) dX12_pull_45 rfl ?_
        refine ok_getf (pc := 46) dX12_pull_46 fl_X12_9 hR.o rfl ?_
        refine ok_iconst (pc := 49) (v := 0) dX12_pull_49 (by decide) ?_
        refine ok_iald (pc := 50) (0) dX12_pull_50 hR.a0 rfl (by decide) (by decide) ?_
        refine ok_callVi5 (pc := 51) (d' := 4) dX12_pull_51 vl_X12_149 hR.o rfl rfl rfl (by decide) ?_
        obtain ⟨ea, la⟩ := wi_cnt eK (by omega) cq_6
        obtain ⟨eb, lb⟩ := wi_cnt eH (by omega) cq_15
        have hom : jrem (σ 0) 24 = nI (cT σ % 24) := by rw [eT]; exact pk_rem (by omega) (by decide) (by decide)
        refine r_pullOf hR (iN x) (iN y) (cT σ % 24) (hmF σ (iN x)) ea eb hom (iK _ la).1.1 (by omega) (by omega) (Nat.mod_lt _ (by decide)) (by have := (iK _ la).1.2; omega) hT (fun M rb hR hs => ?_)
        refine ok_iret (pc := 54) dX12_pull_54 rfl ?_
        have eo : op_pull σ x y z = (0, pullF σ (iN x) (iN y) z (cT σ % 24) (σ 0) (hmF σ (iN x))) := by simp [op_pull, cq_6, cq_15, cq_22]
        rw [eo] at k
        exact k _ (RefW.oks hR hs hv hw)
      · have cq_22 := bI_0.mp cc_22
        refine ok_aload_n (pc := 25) dX12_pull_25 rfl ?_
        refine ok_ldc (pc := 26) (v := -1000000001) dX12_pull_26 tw_1205 ?_
        refine ok_callVi1 (pc := 28) (d' := 0) dX12_pull_28 vl_X12_84 hR.o rfl rfl rfl (by decide) ?_
        refine r_finding hR 1 (by decide) (by decide) (fun M hR => ?_)
        refine ok_iret (pc := 31) dX12_pull_31 rfl ?_
        have eo : op_pull σ x y z = (1, -1000000001) := by simp [op_pull, cq_6, cq_15, cq_22]
        rw [eo] at k
        exact k _ (RefW.err 1 (by decide) hR hv hw)

set_option maxHeartbeats 1000000 in
theorem r_stands {Γ : Cx} {m sz : Nat} {M0 M : Nat → Option va_E} {σ κ vi : Rw} {va : Nat → Rw} {K : Int32 → Wd → Prop} (hW : RefW Γ m M0 σ κ vi va M) (hI : Inv σ) {x y z : Int32} (k : ∀ M', RefW Γ m M0 σ κ vi (eU va (op_stands σ x y z).1) M' → K (op_stands σ x y z).2 (M', sz)) : Spec Γ mX12_stands 7 0 [.ref m, .int x, .int y, .int z] (M, sz) (ci K) := by
  obtain ⟨ri, ra, hR, hv, hw⟩ := hW
  obtain ⟨⟨⟨eH, lH⟩, ⟨eK, lK⟩, ⟨eL, lL⟩, ⟨eA, lA⟩, ⟨eT, lT⟩⟩, iK, iH, iW, iL, iO, iB, hT⟩ := id hI
  
  refine spec_in [some (.ref m), some (.int x), some (.int y), some (.int z)] 0 (by decide) rfl rfl ?_
  refine ok_aload_n (pc := 0) dX12_stands_0 rfl ?_
  refine ok_iload_n (pc := 1) dX12_stands_1 rfl ?_
  refine ok_iconst (pc := 2) (v := 2) dX12_stands_2 (by decide) ?_
  refine ok_callVi2 (pc := 3) (d' := 1) dX12_stands_3 vl_X12_100 hR.o rfl rfl rfl (by decide) ?_
  refine r_is hR 2 rfl (by decide) ?_
  refine ok_if_eq (pc := 6) 25 dX12_stands_6 (by decide) (fun cc_6 => ?_) (fun cc_6 => ?_)
  · have cq_6 := bI_0.mp cc_6
    refine ok_aload_n (pc := 25) dX12_stands_25 rfl ?_
    refine ok_ldc (pc := 26) (v := -1000000001) dX12_stands_26 tw_1205 ?_
    refine ok_callVi1 (pc := 28) (d' := 0) dX12_stands_28 vl_X12_84 hR.o rfl rfl rfl (by decide) ?_
    refine r_finding hR 1 (by decide) (by decide) (fun M hR => ?_)
    refine ok_iret (pc := 31) dX12_stands_31 rfl ?_
    have eo : op_stands σ x y z = (1, -1000000001) := by simp [op_stands, cq_6]
    rw [eo] at k
    exact k _ (RefW.err 1 (by decide) hR hv hw)
  · have cq_6 := bI_n0.mp cc_6
    refine ok_aload_n (pc := 9) dX12_stands_9 rfl ?_
    refine ok_iload_n (pc := 10) dX12_stands_10 rfl ?_
    refine ok_iconst (pc := 11) (v := 1) dX12_stands_11 (by decide) ?_
    refine ok_callVi2 (pc := 12) (d' := 1) dX12_stands_12 vl_X12_100 hR.o rfl rfl rfl (by decide) ?_
    refine r_is hR 1 rfl (by decide) ?_
    refine ok_if_eq (pc := 15) 25 dX12_stands_15 (by decide) (fun cc_15 => ?_) (fun cc_15 => ?_)
    · have cq_15 := bI_0.mp cc_15
      refine ok_aload_n (pc := 25) dX12_stands_25 rfl ?_
      refine ok_ldc (pc := 26) (v := -1000000001) dX12_stands_26 tw_1205 ?_
      refine ok_callVi1 (pc := 28) (d' := 0) dX12_stands_28 vl_X12_84 hR.o rfl rfl rfl (by decide) ?_
      refine r_finding hR 1 (by decide) (by decide) (fun M hR => ?_)
      refine ok_iret (pc := 31) dX12_stands_31 rfl ?_
      have eo : op_stands σ x y z = (1, -1000000001) := by simp [op_stands, cq_6, cq_15]
      rw [eo] at k
      exact k _ (RefW.err 1 (by decide) hR hv hw)
    · have cq_15 := bI_n0.mp cc_15
      refine ok_iload_n (pc := 18) dX12_stands_18 rfl ?_
      refine ok_callSi1 (pc := 19) (d' := 1) dX12_stands_19 sl_X12_156 rfl (by decide) ?_
      refine r_isLoad ?_
      refine ok_if_ne (pc := 22) 32 dX12_stands_22 (by decide) (fun cc_22 => ?_) (fun cc_22 => ?_)
      · have cq_22 := bI_n0.mp cc_22
        refine ok_aload_n (pc := 32) dX12_stands_32 rfl ?_
        refine ok_iload_n (pc := 33) dX12_stands_33 rfl ?_
        refine ok_iload_n (pc := 34) dX12_stands_34 rfl ?_
        refine ok_iload_n (pc := 35) dX12_stands_35 rfl ?_
        refine ok_callVi3 (pc := 36) (d' := 6) dX12_stands_36 vl_X12_159 hR.o rfl rfl rfl (by decide) ?_
        obtain ⟨ea, la⟩ := wi_cnt eK (by omega) cq_6
        obtain ⟨eb, lb⟩ := wi_cnt eH (by omega) cq_15
        refine r_standsNow hR (iN x) (iN y) ea eb la lb hI (fun M rb hR hs => ?_)
        refine ok_if_eq (pc := 39) 46 dX12_stands_39 (by decide) (fun cc_39 => ?_) (fun cc_39 => ?_)
        · have cq_39 := bI_0.mp cc_39
          refine ok_iconst (pc := 46) (v := 0) dX12_stands_46 (by decide) ?_
          refine ok_iret (pc := 47) dX12_stands_47 rfl ?_
          have eo : op_stands σ x y z = (0, bI (stN σ (iN x) (iN y) z)) := by simp [op_stands, cq_6, cq_15, cq_22, cq_39]
          rw [eo] at k
          simp only [cq_6, cq_15, cq_22, cq_39] at k
          exact k _ (RefW.oks hR hs hv hw)
        · have cq_39 := bI_n0.mp cc_39
          refine ok_iconst (pc := 42) (v := 1) dX12_stands_42 (by decide) ?_
          refine ok_goto (pc := 43) 47 dX12_stands_43 (by decide) ?_
          refine ok_iret (pc := 47) dX12_stands_47 rfl ?_
          have eo : op_stands σ x y z = (0, bI (stN σ (iN x) (iN y) z)) := by simp [op_stands, cq_6, cq_15, cq_22, cq_39]
          rw [eo] at k
          simp only [cq_6, cq_15, cq_22, cq_39] at k
          exact k _ (RefW.oks hR hs hv hw)
      · have cq_22 := bI_0.mp cc_22
        refine ok_aload_n (pc := 25) dX12_stands_25 rfl ?_
        refine ok_ldc (pc := 26) (v := -1000000001) dX12_stands_26 tw_1205 ?_
        refine ok_callVi1 (pc := 28) (d' := 0) dX12_stands_28 vl_X12_84 hR.o rfl rfl rfl (by decide) ?_
        refine r_finding hR 1 (by decide) (by decide) (fun M hR => ?_)
        refine ok_iret (pc := 31) dX12_stands_31 rfl ?_
        have eo : op_stands σ x y z = (1, -1000000001) := by simp [op_stands, cq_6, cq_15, cq_22]
        rw [eo] at k
        exact k _ (RefW.err 1 (by decide) hR hv hw)

set_option maxHeartbeats 1000000 in
theorem l_over {Γ : Cx} {m sz : Nat} {M0 : Nat → Option va_E} {σ κ : Rw} {ri : Nat → Int32} {K : Int32 → Wd → Prop} {ra0 : Nat → Rw} {x y z : Int32} (k0 hour : Nat) (ek : x = nI k0) (eo : y = nI hour) (hk : k0 < cK σ) (ho : hour < 24) (hI : Inv σ) (k : ∀ M' ra', RefX Γ m M0 σ κ ri ra' M' → Sc ra0 ra' → K (ovF σ k0 z hour (σ 0) (cH σ)) (M', sz)) : ∀ (n : Nat) (i : Nat) (x4 : Int32) (xi : Int32) (M : Nat → Option va_E) (ra : Nat → Rw), i + n = cH σ → xi = nI i → x4 = ovF σ k0 z hour (σ 0) i → RefX Γ m M0 σ κ ri ra M → Sc ra0 ra → Ok Γ mX12_over 6 0 39 [some (.ref m), some (.int x), some (.int y), some (.int z), some (.int x4), some (.int xi)] [] (M, sz) (ci K) := by
  have eH := hI.1.1.1
  have lH := hI.1.1.2
  intro n
  induction n with
  | zero =>
    intro i x4 xi M ra h1 ei hq hR hs0
    refine ok_iload (pc := 39) dX12_over_39 rfl ?_
    refine ok_aload_n (pc := 41) dX12_over_41 rfl ?_
    refine ok_getf (pc := 42) dX12_over_42 fl_X12_9 hR.o rfl ?_
    refine ok_iconst (pc := 45) (v := 1) dX12_over_45 (by decide) ?_
    refine ok_iald (pc := 46) (1) dX12_over_46 hR.a0 rfl (by decide) (by decide) ?_
    refine ok_icmp_ge (pc := 47) 87 dX12_over_47 (by decide) (fun cc_47 => ?_) (fun cc_47 => ?_)
    · have ce_47 := Int32.not_lt.mpr cc_47
      have en : i = cH σ := by omega
      subst en
      rw [← hq] at k
      refine ok_iload (pc := 87) dX12_over_87 rfl ?_
      refine ok_iret (pc := 89) dX12_over_89 rfl ?_
      exact k _ _ hR hs0
    · exact absurd (by rw [eH, ei]; exact nI_le (by omega) (by omega)) cc_47
  | succ n ih =>
    intro i x4 xi M ra h1 ei hq hR hs0
    refine ok_iload (pc := 39) dX12_over_39 rfl ?_
    refine ok_aload_n (pc := 41) dX12_over_41 rfl ?_
    refine ok_getf (pc := 42) dX12_over_42 fl_X12_9 hR.o rfl ?_
    refine ok_iconst (pc := 45) (v := 1) dX12_over_45 (by decide) ?_
    refine ok_iald (pc := 46) (1) dX12_over_46 hR.a0 rfl (by decide) (by decide) ?_
    refine ok_icmp_ge (pc := 47) 87 dX12_over_47 (by decide) (fun cc_47 => ?_) (fun cc_47 => ?_)
    · exact absurd (by rw [eH, ei] at cc_47; exact cc_47) (nI_ge (by omega) (by omega))
    · have ce_47 := Int32.not_le.mp cc_47
      refine ok_iload (pc := 50) dX12_over_50 rfl ?_
      refine ok_aload_n (pc := 52) dX12_over_52 rfl ?_
      refine ok_iload_n (pc := 53) dX12_over_53 rfl ?_
      refine ok_iload (pc := 54) dX12_over_54 rfl ?_
      refine ok_iload_n (pc := 56) dX12_over_56 rfl ?_
      refine ok_iload_n (pc := 57) dX12_over_57 rfl ?_
      refine ok_aload_n (pc := 58) dX12_over_58 rfl ?_
      refine ok_getf (pc := 59) dX12_over_59 fl_X12_9 hR.o rfl ?_
      refine ok_iconst (pc := 62) (v := 0) dX12_over_62 (by decide) ?_
      refine ok_iald (pc := 63) (0) dX12_over_63 hR.a0 rfl (by decide) (by decide) ?_
      refine ok_callVi5 (pc := 64) (d' := 5) dX12_over_64 vl_X12_152 hR.o rfl rfl rfl (by decide) ?_
      refine r_standsOver hR k0 i hour ek ei eo hk (by omega) ho hI (fun M rb hR hs => ?_)
      have hs0 := hs0.tr hs
      refine ok_if_eq (pc := 67) 77 dX12_over_67 (by decide) (fun cc_67 => ?_) (fun cc_67 => ?_)
      · have cq_67 := bI_0.mp cc_67
        refine ok_iconst (pc := 77) (v := 0) dX12_over_77 (by decide) ?_
        refine ok_ior (pc := 78) dX12_over_78 ?_
        refine ok_istore4 (pc := 79) dX12_over_79 (by decide) rfl ?_
        refine ok_iinc5 (pc := 81) (v := 1) dX12_over_81 (by decide) (by decide) rfl ?_
        refine ok_goto (pc := 84) 39 dX12_over_84 (by decide) ?_
        exact ih (i + 1) _ _ _ _ (by omega) (by rw [ei, nI_1]) (by simp [ovF, hq, ei, cc_47, ce_47, cq_67]) hR hs0
      · have cq_67 := bI_n0.mp cc_67
        refine ok_iconst (pc := 70) (v := 1) dX12_over_70 (by decide) ?_
        refine ok_iload (pc := 71) dX12_over_71 rfl ?_
        refine ok_ishl (pc := 73) dX12_over_73 ?_
        refine ok_goto (pc := 74) 78 dX12_over_74 (by decide) ?_
        refine ok_ior (pc := 78) dX12_over_78 ?_
        refine ok_istore4 (pc := 79) dX12_over_79 (by decide) rfl ?_
        refine ok_iinc5 (pc := 81) (v := 1) dX12_over_81 (by decide) (by decide) rfl ?_
        refine ok_goto (pc := 84) 39 dX12_over_84 (by decide) ?_
        exact ih (i + 1) _ _ _ _ (by omega) (by rw [ei, nI_1]) (by simp [ovF, hq, ei, cc_47, ce_47, cq_67]) hR hs0

set_option maxHeartbeats 1000000 in
theorem r_over {Γ : Cx} {m sz : Nat} {M0 M : Nat → Option va_E} {σ κ vi : Rw} {va : Nat → Rw} {K : Int32 → Wd → Prop} (hW : RefW Γ m M0 σ κ vi va M) (hI : Inv σ) {x y z : Int32} (k : ∀ M', RefW Γ m M0 σ κ vi (eU va (op_over σ x y z).1) M' → K (op_over σ x y z).2 (M', sz)) : Spec Γ mX12_over 6 0 [.ref m, .int x, .int y, .int z] (M, sz) (ci K) := by
  obtain ⟨ri, ra, hR, hv, hw⟩ := hW
  obtain ⟨⟨⟨eH, lH⟩, ⟨eK, lK⟩, ⟨eL, lL⟩, ⟨eA, lA⟩, ⟨eT, lT⟩⟩, iK, iH, iW, iL, iO, iB, hT⟩ := id hI
  
  refine spec_in [some (.ref m), some (.int x), some (.int y), some (.int z), none, none] 2 (by decide) rfl rfl ?_
  refine ok_aload_n (pc := 0) dX12_over_0 rfl ?_
  refine ok_iload_n (pc := 1) dX12_over_1 rfl ?_
  refine ok_iconst (pc := 2) (v := 2) dX12_over_2 (by decide) ?_
  refine ok_callVi2 (pc := 3) (d' := 1) dX12_over_3 vl_X12_100 hR.o rfl rfl rfl (by decide) ?_
  refine r_is hR 2 rfl (by decide) ?_
  refine ok_if_eq (pc := 6) 26 dX12_over_6 (by decide) (fun cc_6 => ?_) (fun cc_6 => ?_)
  · have cq_6 := bI_0.mp cc_6
    refine ok_aload_n (pc := 26) dX12_over_26 rfl ?_
    refine ok_ldc (pc := 27) (v := -1000000001) dX12_over_27 tw_1205 ?_
    refine ok_callVi1 (pc := 29) (d' := 0) dX12_over_29 vl_X12_84 hR.o rfl rfl rfl (by decide) ?_
    refine r_finding hR 1 (by decide) (by decide) (fun M hR => ?_)
    refine ok_iret (pc := 32) dX12_over_32 rfl ?_
    have eo : op_over σ x y z = (1, -1000000001) := by simp [op_over, cq_6]
    rw [eo] at k
    exact k _ (RefW.err 1 (by decide) hR hv hw)
  · have cq_6 := bI_n0.mp cc_6
    refine ok_iload_n (pc := 9) dX12_over_9 rfl ?_
    refine ok_iconst (pc := 10) (v := 0) dX12_over_10 (by decide) ?_
    refine ok_bipush (pc := 11) (v := 23) dX12_over_11 (by decide) ?_
    refine ok_callSi3 (pc := 13) (d' := 0) dX12_over_13 sl_X12_75 rfl (by decide) ?_
    refine r_within ?_
    refine ok_if_eq (pc := 16) 26 dX12_over_16 (by decide) (fun cc_16 => ?_) (fun cc_16 => ?_)
    · have cq_16 := bI_0.mp cc_16
      refine ok_aload_n (pc := 26) dX12_over_26 rfl ?_
      refine ok_ldc (pc := 27) (v := -1000000001) dX12_over_27 tw_1205 ?_
      refine ok_callVi1 (pc := 29) (d' := 0) dX12_over_29 vl_X12_84 hR.o rfl rfl rfl (by decide) ?_
      refine r_finding hR 1 (by decide) (by decide) (fun M hR => ?_)
      refine ok_iret (pc := 32) dX12_over_32 rfl ?_
      have eo : op_over σ x y z = (1, -1000000001) := by simp [op_over, cq_6, cq_16]
      rw [eo] at k
      exact k _ (RefW.err 1 (by decide) hR hv hw)
    · have cq_16 := bI_n0.mp cc_16
      refine ok_iload_n (pc := 19) dX12_over_19 rfl ?_
      refine ok_callSi1 (pc := 20) (d' := 1) dX12_over_20 sl_X12_156 rfl (by decide) ?_
      refine r_isLoad ?_
      refine ok_if_ne (pc := 23) 33 dX12_over_23 (by decide) (fun cc_23 => ?_) (fun cc_23 => ?_)
      · have cq_23 := bI_n0.mp cc_23
        refine ok_iconst (pc := 33) (v := 0) dX12_over_33 (by decide) ?_
        refine ok_istore4 (pc := 34) dX12_over_34 (by decide) rfl ?_
        refine ok_iconst (pc := 36) (v := 0) dX12_over_36 (by decide) ?_
        refine ok_istore5 (pc := 37) dX12_over_37 (by decide) rfl ?_
        obtain ⟨ea, la⟩ := wi_cnt eK (by omega) cq_6
        obtain ⟨eb, -, lb⟩ := wi_lit (a := 0) (c := 23) rfl rfl (by decide) (by decide) cq_16
        have eo : op_over σ x y z = (0, ovF σ (iN x) z (iN y) (σ 0) (cH σ)) := by simp [op_over, cq_6, cq_16, cq_23]
        rw [eo] at k
        exact l_over (ra0 := ra) (iN x) (iN y) ea eb la (by omega) hI (fun M rb hR hs => k _ (RefW.oks hR hs hv hw)) (cH σ) 0 0 0 M ra (by omega) rfl rfl hR Sc.rf
      · have cq_23 := bI_0.mp cc_23
        refine ok_aload_n (pc := 26) dX12_over_26 rfl ?_
        refine ok_ldc (pc := 27) (v := -1000000001) dX12_over_27 tw_1205 ?_
        refine ok_callVi1 (pc := 29) (d' := 0) dX12_over_29 vl_X12_84 hR.o rfl rfl rfl (by decide) ?_
        refine r_finding hR 1 (by decide) (by decide) (fun M hR => ?_)
        refine ok_iret (pc := 32) dX12_over_32 rfl ?_
        have eo : op_over σ x y z = (1, -1000000001) := by simp [op_over, cq_6, cq_16, cq_23]
        rw [eo] at k
        exact k _ (RefW.err 1 (by decide) hR hv hw)

set_option maxHeartbeats 1000000 in
theorem r_ofKite {Γ : Cx} {m sz : Nat} {M0 M : Nat → Option va_E} {σ κ vi : Rw} {va : Nat → Rw} {K : Int32 → Wd → Prop} (hW : RefW Γ m M0 σ κ vi va M) (hI : Inv σ) {x y : Int32} (k : ∀ M', RefW Γ m M0 σ κ vi (eU va (op_ofKite σ x y).1) M' → K (op_ofKite σ x y).2 (M', sz)) : Spec Γ mX12_ofKite 2 0 [.ref m, .int x, .int y] (M, sz) (ci K) := by
  obtain ⟨ri, ra, hR, hv, hw⟩ := hW
  obtain ⟨⟨⟨eH, lH⟩, ⟨eK, lK⟩, ⟨eL, lL⟩, ⟨eA, lA⟩, ⟨eT, lT⟩⟩, iK, iH, iW, iL, iO, iB, hT⟩ := id hI
  
  refine spec_in [some (.ref m), some (.int x), some (.int y)] 0 (by decide) rfl rfl ?_
  refine ok_aload_n (pc := 0) dX12_ofKite_0 rfl ?_
  refine ok_iload_n (pc := 1) dX12_ofKite_1 rfl ?_
  refine ok_iconst (pc := 2) (v := 2) dX12_ofKite_2 (by decide) ?_
  refine ok_callVi2 (pc := 3) (d' := 1) dX12_ofKite_3 vl_X12_100 hR.o rfl rfl rfl (by decide) ?_
  refine r_is hR 2 rfl (by decide) ?_
  refine ok_if_eq (pc := 6) 27 dX12_ofKite_6 (by decide) (fun cc_6 => ?_) (fun cc_6 => ?_)
  · have cq_6 := bI_0.mp cc_6
    refine ok_aload_n (pc := 27) dX12_ofKite_27 rfl ?_
    refine ok_ldc (pc := 28) (v := -1000000001) dX12_ofKite_28 tw_1205 ?_
    refine ok_callVi1 (pc := 30) (d' := 0) dX12_ofKite_30 vl_X12_84 hR.o rfl rfl rfl (by decide) ?_
    refine r_finding hR 1 (by decide) (by decide) (fun M hR => ?_)
    refine ok_iret (pc := 33) dX12_ofKite_33 rfl ?_
    have eo : op_ofKite σ x y = (1, -1000000001) := by simp [op_ofKite, cq_6]
    rw [eo] at k
    exact k _ (RefW.err 1 (by decide) hR hv hw)
  · have cq_6 := bI_n0.mp cc_6
    refine ok_iload_n (pc := 9) dX12_ofKite_9 rfl ?_
    refine ok_iconst (pc := 10) (v := 0) dX12_ofKite_10 (by decide) ?_
    refine ok_iconst (pc := 11) (v := 5) dX12_ofKite_11 (by decide) ?_
    refine ok_callSi3 (pc := 12) (d' := 0) dX12_ofKite_12 sl_X12_75 rfl (by decide) ?_
    refine r_within ?_
    refine ok_if_eq (pc := 15) 27 dX12_ofKite_15 (by decide) (fun cc_15 => ?_) (fun cc_15 => ?_)
    · have cq_15 := bI_0.mp cc_15
      refine ok_aload_n (pc := 27) dX12_ofKite_27 rfl ?_
      refine ok_ldc (pc := 28) (v := -1000000001) dX12_ofKite_28 tw_1205 ?_
      refine ok_callVi1 (pc := 30) (d' := 0) dX12_ofKite_30 vl_X12_84 hR.o rfl rfl rfl (by decide) ?_
      refine r_finding hR 1 (by decide) (by decide) (fun M hR => ?_)
      refine ok_iret (pc := 33) dX12_ofKite_33 rfl ?_
      have eo : op_ofKite σ x y = (1, -1000000001) := by simp [op_ofKite, cq_6, cq_15]
      rw [eo] at k
      exact k _ (RefW.err 1 (by decide) hR hv hw)
    · have cq_15 := bI_n0.mp cc_15
      refine ok_aload_n (pc := 18) dX12_ofKite_18 rfl ?_
      refine ok_iload_n (pc := 19) dX12_ofKite_19 rfl ?_
      refine ok_iload_n (pc := 20) dX12_ofKite_20 rfl ?_
      refine ok_callVi2 (pc := 21) (d' := 0) dX12_ofKite_21 vl_X12_117 hR.o rfl rfl rfl (by decide) ?_
      obtain ⟨ea, la⟩ := wi_cnt eK (by omega) cq_6
      obtain ⟨eb, -, lb⟩ := wi_lit (a := 0) (c := 5) rfl rfl (by decide) (by decide) cq_15
      refine r_kiteIs hR (iN x) ea (iN y) eb (by omega) (by omega) ?_
      refine ok_goto (pc := 24) 33 dX12_ofKite_24 (by decide) ?_
      refine ok_iret (pc := 33) dX12_ofKite_33 rfl ?_
      have eo : op_ofKite σ x y = (0, kf σ (iN x) (iN y)) := by simp [op_ofKite, cq_6, cq_15]
      rw [eo] at k
      exact k _ (RefW.ok hR hv hw)

set_option maxHeartbeats 1000000 in
theorem r_ofLetter {Γ : Cx} {m sz : Nat} {M0 M : Nat → Option va_E} {σ κ vi : Rw} {va : Nat → Rw} {K : Int32 → Wd → Prop} (hW : RefW Γ m M0 σ κ vi va M) (hI : Inv σ) {x y : Int32} (k : ∀ M', RefW Γ m M0 σ κ vi (eU va (op_ofLetter σ x y).1) M' → K (op_ofLetter σ x y).2 (M', sz)) : Spec Γ mX12_ofLetter 2 0 [.ref m, .int x, .int y] (M, sz) (ci K) := by
  obtain ⟨ri, ra, hR, hv, hw⟩ := hW
  obtain ⟨⟨⟨eH, lH⟩, ⟨eK, lK⟩, ⟨eL, lL⟩, ⟨eA, lA⟩, ⟨eT, lT⟩⟩, iK, iH, iW, iL, iO, iB, hT⟩ := id hI
  
  refine spec_in [some (.ref m), some (.int x), some (.int y)] 0 (by decide) rfl rfl ?_
  refine ok_aload_n (pc := 0) dX12_ofLetter_0 rfl ?_
  refine ok_iload_n (pc := 1) dX12_ofLetter_1 rfl ?_
  refine ok_iconst (pc := 2) (v := 3) dX12_ofLetter_2 (by decide) ?_
  refine ok_callVi2 (pc := 3) (d' := 1) dX12_ofLetter_3 vl_X12_100 hR.o rfl rfl rfl (by decide) ?_
  refine r_is hR 3 rfl (by decide) ?_
  refine ok_if_eq (pc := 6) 28 dX12_ofLetter_6 (by decide) (fun cc_6 => ?_) (fun cc_6 => ?_)
  · have cq_6 := bI_0.mp cc_6
    refine ok_aload_n (pc := 28) dX12_ofLetter_28 rfl ?_
    refine ok_ldc (pc := 29) (v := -1000000001) dX12_ofLetter_29 tw_1205 ?_
    refine ok_callVi1 (pc := 31) (d' := 0) dX12_ofLetter_31 vl_X12_84 hR.o rfl rfl rfl (by decide) ?_
    refine r_finding hR 1 (by decide) (by decide) (fun M hR => ?_)
    refine ok_iret (pc := 34) dX12_ofLetter_34 rfl ?_
    have eo : op_ofLetter σ x y = (1, -1000000001) := by simp [op_ofLetter, cq_6]
    rw [eo] at k
    exact k _ (RefW.err 1 (by decide) hR hv hw)
  · have cq_6 := bI_n0.mp cc_6
    refine ok_iload_n (pc := 9) dX12_ofLetter_9 rfl ?_
    refine ok_iconst (pc := 10) (v := 0) dX12_ofLetter_10 (by decide) ?_
    refine ok_bipush (pc := 11) (v := 6) dX12_ofLetter_11 (by decide) ?_
    refine ok_callSi3 (pc := 13) (d' := 0) dX12_ofLetter_13 sl_X12_75 rfl (by decide) ?_
    refine r_within ?_
    refine ok_if_eq (pc := 16) 28 dX12_ofLetter_16 (by decide) (fun cc_16 => ?_) (fun cc_16 => ?_)
    · have cq_16 := bI_0.mp cc_16
      refine ok_aload_n (pc := 28) dX12_ofLetter_28 rfl ?_
      refine ok_ldc (pc := 29) (v := -1000000001) dX12_ofLetter_29 tw_1205 ?_
      refine ok_callVi1 (pc := 31) (d' := 0) dX12_ofLetter_31 vl_X12_84 hR.o rfl rfl rfl (by decide) ?_
      refine r_finding hR 1 (by decide) (by decide) (fun M hR => ?_)
      refine ok_iret (pc := 34) dX12_ofLetter_34 rfl ?_
      have eo : op_ofLetter σ x y = (1, -1000000001) := by simp [op_ofLetter, cq_6, cq_16]
      rw [eo] at k
      exact k _ (RefW.err 1 (by decide) hR hv hw)
    · have cq_16 := bI_n0.mp cc_16
      refine ok_aload_n (pc := 19) dX12_ofLetter_19 rfl ?_
      refine ok_iload_n (pc := 20) dX12_ofLetter_20 rfl ?_
      refine ok_iload_n (pc := 21) dX12_ofLetter_21 rfl ?_
      refine ok_callVi2 (pc := 22) (d' := 0) dX12_ofLetter_22 vl_X12_97 hR.o rfl rfl rfl (by decide) ?_
      obtain ⟨ea, la⟩ := wi_cnt eL (by omega) cq_6
      obtain ⟨eb, -, lb⟩ := wi_lit (a := 0) (c := 6) rfl rfl (by decide) (by decide) cq_16
      refine r_letterIs hR (iN x) ea (iN y) eb (by omega) (by omega) ?_
      refine ok_goto (pc := 25) 34 dX12_ofLetter_25 (by decide) ?_
      refine ok_iret (pc := 34) dX12_ofLetter_34 rfl ?_
      have eo : op_ofLetter σ x y = (0, lf σ (iN x) (iN y)) := by simp [op_ofLetter, cq_6, cq_16]
      rw [eo] at k
      exact k _ (RefW.ok hR hv hw)

set_option maxHeartbeats 1000000 in
theorem r_ofHill {Γ : Cx} {m sz : Nat} {M0 M : Nat → Option va_E} {σ κ vi : Rw} {va : Nat → Rw} {K : Int32 → Wd → Prop} (hW : RefW Γ m M0 σ κ vi va M) (hI : Inv σ) {x y : Int32} (k : ∀ M', RefW Γ m M0 σ κ vi (eU va (op_ofHill σ x y).1) M' → K (op_ofHill σ x y).2 (M', sz)) : Spec Γ mX12_ofHill 2 0 [.ref m, .int x, .int y] (M, sz) (ci K) := by
  obtain ⟨ri, ra, hR, hv, hw⟩ := hW
  obtain ⟨⟨⟨eH, lH⟩, ⟨eK, lK⟩, ⟨eL, lL⟩, ⟨eA, lA⟩, ⟨eT, lT⟩⟩, iK, iH, iW, iL, iO, iB, hT⟩ := id hI
  
  refine spec_in [some (.ref m), some (.int x), some (.int y)] 0 (by decide) rfl rfl ?_
  refine ok_aload_n (pc := 0) dX12_ofHill_0 rfl ?_
  refine ok_iload_n (pc := 1) dX12_ofHill_1 rfl ?_
  refine ok_iconst (pc := 2) (v := 1) dX12_ofHill_2 (by decide) ?_
  refine ok_callVi2 (pc := 3) (d' := 1) dX12_ofHill_3 vl_X12_100 hR.o rfl rfl rfl (by decide) ?_
  refine r_is hR 1 rfl (by decide) ?_
  refine ok_if_eq (pc := 6) 18 dX12_ofHill_6 (by decide) (fun cc_6 => ?_) (fun cc_6 => ?_)
  · have cq_6 := bI_0.mp cc_6
    refine ok_aload_n (pc := 18) dX12_ofHill_18 rfl ?_
    refine ok_ldc (pc := 19) (v := -1000000001) dX12_ofHill_19 tw_1205 ?_
    refine ok_callVi1 (pc := 21) (d' := 0) dX12_ofHill_21 vl_X12_84 hR.o rfl rfl rfl (by decide) ?_
    refine r_finding hR 1 (by decide) (by decide) (fun M hR => ?_)
    refine ok_iret (pc := 24) dX12_ofHill_24 rfl ?_
    have eo : op_ofHill σ x y = (1, -1000000001) := by simp [op_ofHill, cq_6]
    rw [eo] at k
    exact k _ (RefW.err 1 (by decide) hR hv hw)
  · have cq_6 := bI_n0.mp cc_6
    refine ok_iload_n (pc := 9) dX12_ofHill_9 rfl ?_
    refine ok_iconst (pc := 10) (v := 0) dX12_ofHill_10 (by decide) ?_
    refine ok_iconst (pc := 11) (v := 2) dX12_ofHill_11 (by decide) ?_
    refine ok_callSi3 (pc := 12) (d' := 0) dX12_ofHill_12 sl_X12_75 rfl (by decide) ?_
    refine r_within ?_
    refine ok_if_ne (pc := 15) 25 dX12_ofHill_15 (by decide) (fun cc_15 => ?_) (fun cc_15 => ?_)
    · have cq_15 := bI_n0.mp cc_15
      obtain ⟨ea, la⟩ := wi_cnt eH (by omega) cq_6
      obtain ⟨eb, -, lb⟩ := wi_lit (a := 0) (c := 2) rfl rfl (by decide) (by decide) cq_15
      refine ok_iload_n (pc := 25) dX12_ofHill_25 rfl ?_
      refine ok_iconst (pc := 26) (v := 2) dX12_ofHill_26 (by decide) ?_
      refine ok_icmp_ge (pc := 27) 46 dX12_ofHill_27 (by decide) (fun cc_27 => ?_) (fun cc_27 => ?_)
      · have ce_27 := Int32.not_lt.mpr cc_27
        refine ok_aload_n (pc := 46) dX12_ofHill_46 rfl ?_
        refine ok_iload_n (pc := 47) dX12_ofHill_47 rfl ?_
        refine ok_callVi1 (pc := 48) (d' := 1) dX12_ofHill_48 vl_X12_104 hR.o rfl rfl rfl (by decide) ?_
        refine r_lettersOn hR (cL σ) eL lL ?_
        refine ok_iret (pc := 51) dX12_ofHill_51 rfl ?_
        have eo : op_ofHill σ x y = (0, lonF σ x (cL σ)) := by simp [op_ofHill, cq_6, cq_15, cc_27, ce_27]
        rw [eo] at k
        exact k _ (RefW.ok hR hv hw)
      · have ce_27 := Int32.not_le.mp cc_27
        refine ok_aload_n (pc := 30) dX12_ofHill_30 rfl ?_
        refine ok_getf (pc := 31) dX12_ofHill_31 fl_X12_9 hR.o rfl ?_
        refine ok_bipush (pc := 34) (v := 9) dX12_ofHill_34 (by decide) ?_
        refine ok_iconst (pc := 36) (v := 2) dX12_ofHill_36 (by decide) ?_
        refine ok_iload_n (pc := 37) dX12_ofHill_37 rfl ?_
        refine ok_imul (pc := 38) dX12_ofHill_38 ?_
        refine ok_iadd (pc := 39) dX12_ofHill_39 ?_
        refine ok_iload_n (pc := 40) dX12_ofHill_40 rfl ?_
        refine ok_iadd (pc := 41) dX12_ofHill_41 ?_
        refine ok_iald (pc := 42) (9 + 2 * iN x + iN y) dX12_ofHill_42 hR.a0 (by have e1 := ea; have e2 := eb; generalize iN x = p at *; generalize iN y = q at *; subst e1; subst e2; simp only [fa_lit, pk_mul, nI_add]) (by omega) (by decide) ?_
        refine ok_goto (pc := 43) 51 dX12_ofHill_43 (by decide) ?_
        refine ok_iret (pc := 51) dX12_ofHill_51 rfl ?_
        have eo : op_ofHill σ x y = (0, σ (9 + 2 * iN x + iN y)) := by simp [op_ofHill, cq_6, cq_15, cc_27, ce_27]
        rw [eo] at k
        exact k _ (RefW.ok hR hv hw)
    · have cq_15 := bI_0.mp cc_15
      refine ok_aload_n (pc := 18) dX12_ofHill_18 rfl ?_
      refine ok_ldc (pc := 19) (v := -1000000001) dX12_ofHill_19 tw_1205 ?_
      refine ok_callVi1 (pc := 21) (d' := 0) dX12_ofHill_21 vl_X12_84 hR.o rfl rfl rfl (by decide) ?_
      refine r_finding hR 1 (by decide) (by decide) (fun M hR => ?_)
      refine ok_iret (pc := 24) dX12_ofHill_24 rfl ?_
      have eo : op_ofHill σ x y = (1, -1000000001) := by simp [op_ofHill, cq_6, cq_15]
      rw [eo] at k
      exact k _ (RefW.err 1 (by decide) hR hv hw)
