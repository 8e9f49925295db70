set_option maxHeartbeats 1000000 in
theorem r_hill {Γ : Cx} {m sz : Nat} {M0 M : Nat → Option va_E} {σ κ vi : Rw} {va : Nat → Rw} {K : Int32 → Wd → Prop} (hW : RefW Γ m M0 σ κ vi va M) (hI : Inv σ) {x y : Int32} (k : ∀ M', RefW Γ m M0 (op_hill σ x y).2.2 κ vi (eU va (op_hill σ x y).1) M' → K (op_hill σ x y).2.1 (M', sz)) : Spec Γ mX12_hill 2 0 [.ref m, .int x, .int y] (M, sz) (ci K) := by
  obtain ⟨ri, ra, hR, hv, hw⟩ := hW
  obtain ⟨⟨⟨eH, lH⟩, ⟨eK, lK⟩, ⟨eL, lL⟩, ⟨eA, lA⟩, ⟨eT, lT⟩⟩, iK, iH, iW, iL, iO, iB, hT⟩ := id hI
  
  refine spec_in [some (.ref m), some (.int x), some (.int y)] 0 (by decide) rfl rfl ?_
  refine ok_iload_n (pc := 0) dX12_hill_0 rfl ?_
  refine ok_iconst (pc := 1) (v := 0) dX12_hill_1 (by decide) ?_
  refine ok_sipush (pc := 2) (v := 255) dX12_hill_2 (by decide) ?_
  refine ok_callSi3 (pc := 5) (d' := 0) dX12_hill_5 sl_X12_75 rfl (by decide) ?_
  refine r_within ?_
  refine ok_if_eq (pc := 8) 21 dX12_hill_8 (by decide) (fun cc_8 => ?_) (fun cc_8 => ?_)
  · have cq_8 := bI_0.mp cc_8
    refine ok_aload_n (pc := 21) dX12_hill_21 rfl ?_
    refine ok_ldc (pc := 22) (v := -1000000001) dX12_hill_22 tw_1205 ?_
    refine ok_callVi1 (pc := 24) (d' := 0) dX12_hill_24 vl_X12_84 hR.o rfl rfl rfl (by decide) ?_
    refine r_finding hR 1 (by decide) (by decide) (fun M hR => ?_)
    refine ok_iret (pc := 27) dX12_hill_27 rfl ?_
    have eo : op_hill σ x y = ((1, -1000000001, σ) : Op3) := by simp [op_hill, e3, cq_8]; try decide
    rw [eo] at k
    exact k _ (RefW.err 1 (by decide) hR hv hw)
  · have cq_8 := bI_n0.mp cc_8
    refine ok_iload_n (pc := 11) dX12_hill_11 rfl ?_
    refine ok_iconst (pc := 12) (v := 0) dX12_hill_12 (by decide) ?_
    refine ok_bipush (pc := 13) (v := 9) dX12_hill_13 (by decide) ?_
    refine ok_callSi3 (pc := 15) (d' := 0) dX12_hill_15 sl_X12_75 rfl (by decide) ?_
    refine r_within ?_
    refine ok_if_ne (pc := 18) 28 dX12_hill_18 (by decide) (fun cc_18 => ?_) (fun cc_18 => ?_)
    · have cq_18 := bI_n0.mp cc_18
      refine ok_aload_n (pc := 28) dX12_hill_28 rfl ?_
      refine ok_iload_n (pc := 29) dX12_hill_29 rfl ?_
      refine ok_callVi1 (pc := 30) (d' := 0) dX12_hill_30 vl_X12_88 hR.o rfl rfl rfl (by decide) ?_
      refine r_isTaken hR (cH σ) eH lH ?_
      refine ok_if_eq (pc := 33) 43 dX12_hill_33 (by decide) (fun cc_33 => ?_) (fun cc_33 => ?_)
      · have cq_33 := bI_0.mp cc_33
        refine ok_aload_n (pc := 43) dX12_hill_43 rfl ?_
        refine ok_getf (pc := 44) dX12_hill_44 fl_X12_9 hR.o rfl ?_
        refine ok_iconst (pc := 47) (v := 1) dX12_hill_47 (by decide) ?_
        refine ok_iald (pc := 48) (1) dX12_hill_48 hR.a0 rfl (by decide) (by decide) ?_
        refine ok_bipush (pc := 49) (v := 9) dX12_hill_49 (by decide) ?_
        refine ok_icmp_ne (pc := 51) 63 dX12_hill_51 (by decide) (fun cc_51 => ?_) (fun cc_51 => ?_)
        · refine ok_aload_n (pc := 63) dX12_hill_63 rfl ?_
          refine ok_iload_n (pc := 64) dX12_hill_64 rfl ?_
          refine ok_iload_n (pc := 65) dX12_hill_65 rfl ?_
          refine ok_callVi2 (pc := 66) (d' := 0) dX12_hill_66 vl_X12_94 hR.o rfl rfl rfl (by decide) ?_
          refine r_rises hR (cH σ) eH (by have h9 : cH σ ≠ 9 := (fun h9 => cc_51 (by rw [eH, h9]; rfl)); omega) (fun M hR => ?_)
          refine ok_iret (pc := 69) dX12_hill_69 rfl ?_
          have eo : op_hill σ x y = ((0, nI (cH σ), risF σ (cH σ) x y) : Op3) := by simp [op_hill, cq_8, cq_18, cq_33, cc_51]
          rw [eo] at k
          exact k _ (RefW.ok hR hv hw)
        · refine ok_aload_n (pc := 54) dX12_hill_54 rfl ?_
          refine ok_ldc (pc := 55) (v := -1000000004) dX12_hill_55 tw_1216 ?_
          refine ok_callVi1 (pc := 57) (d' := 0) dX12_hill_57 vl_X12_84 hR.o rfl rfl rfl (by decide) ?_
          refine r_finding hR 4 (by decide) (by decide) (fun M hR => ?_)
          refine ok_goto (pc := 60) 69 dX12_hill_60 (by decide) ?_
          refine ok_iret (pc := 69) dX12_hill_69 rfl ?_
          have eo : op_hill σ x y = ((4, -1000000004, σ) : Op3) := by simp [op_hill, e3, cq_8, cq_18, cq_33, cc_51]; try decide
          rw [eo] at k
          exact k _ (RefW.err 4 (by decide) hR hv hw)
      · have cq_33 := bI_n0.mp cc_33
        refine ok_aload_n (pc := 36) dX12_hill_36 rfl ?_
        refine ok_ldc (pc := 37) (v := -1000000003) dX12_hill_37 tw_1215 ?_
        refine ok_callVi1 (pc := 39) (d' := 0) dX12_hill_39 vl_X12_84 hR.o rfl rfl rfl (by decide) ?_
        refine r_finding hR 3 (by decide) (by decide) (fun M hR => ?_)
        refine ok_iret (pc := 42) dX12_hill_42 rfl ?_
        have eo : op_hill σ x y = ((3, -1000000003, σ) : Op3) := by simp [op_hill, e3, cq_8, cq_18, cq_33]; try decide
        rw [eo] at k
        exact k _ (RefW.err 3 (by decide) hR hv hw)
    · have cq_18 := bI_0.mp cc_18
      refine ok_aload_n (pc := 21) dX12_hill_21 rfl ?_
      refine ok_ldc (pc := 22) (v := -1000000001) dX12_hill_22 tw_1205 ?_
      refine ok_callVi1 (pc := 24) (d' := 0) dX12_hill_24 vl_X12_84 hR.o rfl rfl rfl (by decide) ?_
      refine r_finding hR 1 (by decide) (by decide) (fun M hR => ?_)
      refine ok_iret (pc := 27) dX12_hill_27 rfl ?_
      have eo : op_hill σ x y = ((1, -1000000001, σ) : Op3) := by simp [op_hill, e3, cq_8, cq_18]; try decide
      rw [eo] at k
      exact k _ (RefW.err 1 (by decide) hR hv hw)

set_option maxHeartbeats 1000000 in
theorem r_wind {Γ : Cx} {m sz : Nat} {M0 M : Nat → Option va_E} {σ κ vi : Rw} {va : Nat → Rw} {K : Int32 → Wd → Prop} (hW : RefW Γ m M0 σ κ vi va M) (hI : Inv σ) {x y : Int32} (k : ∀ M', RefW Γ m M0 (op_wind σ x y).2.2 κ vi (eU va (op_wind σ x y).1) M' → K (op_wind σ x y).2.1 (M', sz)) : Spec Γ mX12_wind 2 0 [.ref m, .int x, .int y] (M, sz) (ci K) := by
  obtain ⟨ri, ra, hR, hv, hw⟩ := hW
  obtain ⟨⟨⟨eH, lH⟩, ⟨eK, lK⟩, ⟨eL, lL⟩, ⟨eA, lA⟩, ⟨eT, lT⟩⟩, iK, iH, iW, iL, iO, iB, hT⟩ := id hI
  
  refine spec_in [some (.ref m), some (.int x), some (.int y)] 0 (by decide) rfl rfl ?_
  refine ok_iload_n (pc := 0) dX12_wind_0 rfl ?_
  refine ok_iconst (pc := 1) (v := 0) dX12_wind_1 (by decide) ?_
  refine ok_bipush (pc := 2) (v := 23) dX12_wind_2 (by decide) ?_
  refine ok_callSi3 (pc := 4) (d' := 0) dX12_wind_4 sl_X12_75 rfl (by decide) ?_
  refine r_within ?_
  refine ok_if_eq (pc := 7) 29 dX12_wind_7 (by decide) (fun cc_7 => ?_) (fun cc_7 => ?_)
  · have cq_7 := bI_0.mp cc_7
    refine ok_aload_n (pc := 29) dX12_wind_29 rfl ?_
    refine ok_ldc (pc := 30) (v := -1000000001) dX12_wind_30 tw_1205 ?_
    refine ok_callVi1 (pc := 32) (d' := 0) dX12_wind_32 vl_X12_84 hR.o rfl rfl rfl (by decide) ?_
    refine r_finding hR 1 (by decide) (by decide) (fun M hR => ?_)
    refine ok_iret (pc := 35) dX12_wind_35 rfl ?_
    have eo : op_wind σ x y = ((1, -1000000001, σ) : Op3) := by simp [op_wind, e3, cq_7]; try decide
    rw [eo] at k
    exact k _ (RefW.err 1 (by decide) hR hv hw)
  · have cq_7 := bI_n0.mp cc_7
    refine ok_iload_n (pc := 10) dX12_wind_10 rfl ?_
    refine ok_callSi1 (pc := 11) (d' := 1) dX12_wind_11 sl_X12_107 rfl (by decide) ?_
    refine r_isWind ?_
    refine ok_if_eq (pc := 14) 29 dX12_wind_14 (by decide) (fun cc_14 => ?_) (fun cc_14 => ?_)
    · have cq_14 := bI_0.mp cc_14
      refine ok_aload_n (pc := 29) dX12_wind_29 rfl ?_
      refine ok_ldc (pc := 30) (v := -1000000001) dX12_wind_30 tw_1205 ?_
      refine ok_callVi1 (pc := 32) (d' := 0) dX12_wind_32 vl_X12_84 hR.o rfl rfl rfl (by decide) ?_
      refine r_finding hR 1 (by decide) (by decide) (fun M hR => ?_)
      refine ok_iret (pc := 35) dX12_wind_35 rfl ?_
      have eo : op_wind σ x y = ((1, -1000000001, σ) : Op3) := by simp [op_wind, e3, cq_7, cq_14]; try decide
      rw [eo] at k
      exact k _ (RefW.err 1 (by decide) hR hv hw)
    · have cq_14 := bI_n0.mp cc_14
      refine ok_aload_n (pc := 17) dX12_wind_17 rfl ?_
      refine ok_bipush (pc := 18) (v := 27) dX12_wind_18 (by decide) ?_
      refine ok_iload_n (pc := 20) dX12_wind_20 rfl ?_
      refine ok_iadd (pc := 21) dX12_wind_21 ?_
      refine ok_iload_n (pc := 22) dX12_wind_22 rfl ?_
      refine ok_callVi2 (pc := 23) (d' := 0) dX12_wind_23 vl_X12_110 hR.o rfl rfl rfl (by decide) ?_
      obtain ⟨eb, -, lb⟩ := wi_lit (a := 0) (c := 23) rfl rfl (by decide) (by decide) cq_7
      refine r_become hR (27 + iN x) (by have e1 := eb; generalize iN x = p at *; subst e1; simp only [fa_lit, nI_add]) (by omega) (fun M hR => ?_)
      refine ok_goto (pc := 26) 35 dX12_wind_26 (by decide) ?_
      refine ok_iret (pc := 35) dX12_wind_35 rfl ?_
      have eo : op_wind σ x y = ((0, σ (27 + iN x), upd σ (27 + iN x) y) : Op3) := by simp [op_wind, cq_7, cq_14]
      rw [eo] at k
      exact k _ (RefW.ok hR hv hw)

set_option maxHeartbeats 1000000 in
theorem r_kite {Γ : Cx} {m sz : Nat} {M0 M : Nat → Option va_E} {σ κ vi : Rw} {va : Nat → Rw} {K : Int32 → Wd → Prop} (hW : RefW Γ m M0 σ κ vi va M) (hI : Inv σ) {x y z : Int32} (k : ∀ M', RefW Γ m M0 (op_kite σ x y z).2.2 κ vi (eU va (op_kite σ x y z).1) M' → K (op_kite σ x y z).2.1 (M', sz)) : Spec Γ mX12_kite 2 0 [.ref m, .int x, .int y, .int z] (M, sz) (ci K) := by
  obtain ⟨ri, ra, hR, hv, hw⟩ := hW
  obtain ⟨⟨⟨eH, lH⟩, ⟨eK, lK⟩, ⟨eL, lL⟩, ⟨eA, lA⟩, ⟨eT, lT⟩⟩, iK, iH, iW, iL, iO, iB, hT⟩ := id hI
  
  refine spec_in [some (.ref m), some (.int x), some (.int y), some (.int z)] 0 (by decide) rfl rfl ?_
  refine ok_iload_n (pc := 0) dX12_kite_0 rfl ?_
  refine ok_iconst (pc := 1) (v := 0) dX12_kite_1 (by decide) ?_
  refine ok_bipush (pc := 2) (v := 69) dX12_kite_2 (by decide) ?_
  refine ok_callSi3 (pc := 4) (d' := 0) dX12_kite_4 sl_X12_75 rfl (by decide) ?_
  refine r_within ?_
  refine ok_if_eq (pc := 7) 43 dX12_kite_7 (by decide) (fun cc_7 => ?_) (fun cc_7 => ?_)
  · have cq_7 := bI_0.mp cc_7
    refine ok_aload_n (pc := 43) dX12_kite_43 rfl ?_
    refine ok_ldc (pc := 44) (v := -1000000001) dX12_kite_44 tw_1205 ?_
    refine ok_callVi1 (pc := 46) (d' := 0) dX12_kite_46 vl_X12_84 hR.o rfl rfl rfl (by decide) ?_
    refine r_finding hR 1 (by decide) (by decide) (fun M hR => ?_)
    refine ok_iret (pc := 49) dX12_kite_49 rfl ?_
    have eo : op_kite σ x y z = ((1, -1000000001, σ) : Op3) := by simp [op_kite, e3, cq_7]; try decide
    rw [eo] at k
    exact k _ (RefW.err 1 (by decide) hR hv hw)
  · have cq_7 := bI_n0.mp cc_7
    refine ok_aload_n (pc := 10) dX12_kite_10 rfl ?_
    refine ok_iload_n (pc := 11) dX12_kite_11 rfl ?_
    refine ok_iconst (pc := 12) (v := 1) dX12_kite_12 (by decide) ?_
    refine ok_callVi2 (pc := 13) (d' := 1) dX12_kite_13 vl_X12_100 hR.o rfl rfl rfl (by decide) ?_
    refine r_is hR 1 rfl (by decide) ?_
    refine ok_if_eq (pc := 16) 43 dX12_kite_16 (by decide) (fun cc_16 => ?_) (fun cc_16 => ?_)
    · have cq_16 := bI_0.mp cc_16
      refine ok_aload_n (pc := 43) dX12_kite_43 rfl ?_
      refine ok_ldc (pc := 44) (v := -1000000001) dX12_kite_44 tw_1205 ?_
      refine ok_callVi1 (pc := 46) (d' := 0) dX12_kite_46 vl_X12_84 hR.o rfl rfl rfl (by decide) ?_
      refine r_finding hR 1 (by decide) (by decide) (fun M hR => ?_)
      refine ok_iret (pc := 49) dX12_kite_49 rfl ?_
      have eo : op_kite σ x y z = ((1, -1000000001, σ) : Op3) := by simp [op_kite, e3, cq_7, cq_16]; try decide
      rw [eo] at k
      exact k _ (RefW.err 1 (by decide) hR hv hw)
    · have cq_16 := bI_n0.mp cc_16
      refine ok_iload_n (pc := 19) dX12_kite_19 rfl ?_
      refine ok_iconst (pc := 20) (v := 0) dX12_kite_20 (by decide) ?_
      refine ok_sipush (pc := 21) (v := 9999) dX12_kite_21 (by decide) ?_
      refine ok_callSi3 (pc := 24) (d' := 0) dX12_kite_24 sl_X12_75 rfl (by decide) ?_
      refine r_within ?_
      refine ok_if_eq (pc := 27) 43 dX12_kite_27 (by decide) (fun cc_27 => ?_) (fun cc_27 => ?_)
      · have cq_27 := bI_0.mp cc_27
        refine ok_aload_n (pc := 43) dX12_kite_43 rfl ?_
        refine ok_ldc (pc := 44) (v := -1000000001) dX12_kite_44 tw_1205 ?_
        refine ok_callVi1 (pc := 46) (d' := 0) dX12_kite_46 vl_X12_84 hR.o rfl rfl rfl (by decide) ?_
        refine r_finding hR 1 (by decide) (by decide) (fun M hR => ?_)
        refine ok_iret (pc := 49) dX12_kite_49 rfl ?_
        have eo : op_kite σ x y z = ((1, -1000000001, σ) : Op3) := by simp [op_kite, e3, cq_7, cq_16, cq_27]; try decide
        rw [eo] at k
        exact k _ (RefW.err 1 (by decide) hR hv hw)
      · have cq_27 := bI_n0.mp cc_27
        refine ok_iload_n (pc := 30) dX12_kite_30 rfl ?_
        refine ok_bipush (pc := 31) (v := 100) dX12_kite_31 (by decide) ?_
        refine ok_irem (pc := 33) dX12_kite_33 (by decide) ?_
        refine ok_iconst (pc := 34) (v := 1) dX12_kite_34 (by decide) ?_
        refine ok_bipush (pc := 35) (v := 40) dX12_kite_35 (by decide) ?_
        refine ok_callSi3 (pc := 37) (d' := 0) dX12_kite_37 sl_X12_75 rfl (by decide) ?_
        refine r_within ?_
        refine ok_if_ne (pc := 40) 50 dX12_kite_40 (by decide) (fun cc_40 => ?_) (fun cc_40 => ?_)
        · have cq_40 := bI_n0.mp cc_40
          refine ok_aload_n (pc := 50) dX12_kite_50 rfl ?_
          refine ok_getf (pc := 51) dX12_kite_51 fl_X12_9 hR.o rfl ?_
          refine ok_iconst (pc := 54) (v := 2) dX12_kite_54 (by decide) ?_
          refine ok_iald (pc := 55) (2) dX12_kite_55 hR.a0 rfl (by decide) (by decide) ?_
          refine ok_bipush (pc := 56) (v := 8) dX12_kite_56 (by decide) ?_
          refine ok_icmp_ne (pc := 58) 70 dX12_kite_58 (by decide) (fun cc_58 => ?_) (fun cc_58 => ?_)
          · refine ok_aload_n (pc := 70) dX12_kite_70 rfl ?_
            refine ok_iload_n (pc := 71) dX12_kite_71 rfl ?_
            refine ok_bipush (pc := 72) (v := 10) dX12_kite_72 (by decide) ?_
            refine ok_idiv (pc := 74) dX12_kite_74 (by decide) ?_
            refine ok_iload_n (pc := 75) dX12_kite_75 rfl ?_
            refine ok_bipush (pc := 76) (v := 10) dX12_kite_76 (by decide) ?_
            refine ok_irem (pc := 78) dX12_kite_78 (by decide) ?_
            refine ok_iload_n (pc := 79) dX12_kite_79 rfl ?_
            refine ok_iload_n (pc := 80) dX12_kite_80 rfl ?_
            refine ok_bipush (pc := 81) (v := 100) dX12_kite_81 (by decide) ?_
            refine ok_idiv (pc := 83) dX12_kite_83 (by decide) ?_
            refine ok_iload_n (pc := 84) dX12_kite_84 rfl ?_
            refine ok_bipush (pc := 85) (v := 100) dX12_kite_85 (by decide) ?_
            refine ok_irem (pc := 87) dX12_kite_87 (by decide) ?_
            refine ok_callVi5 (pc := 88) (d' := 0) dX12_kite_88 vl_X12_113 hR.o rfl rfl rfl (by decide) ?_
            refine r_flies hR (cK σ) eK (by have h9 : cK σ ≠ 8 := (fun h9 => cc_58 (by rw [eK, h9]; rfl)); omega) (fun M hR => ?_)
            refine ok_iret (pc := 91) dX12_kite_91 rfl ?_
            have eo : op_kite σ x y z = ((0, nI (cK σ), flyF σ (cK σ) (x / 10) (jrem x 10) y (z / 100) (jrem z 100)) : Op3) := by simp [op_kite, cq_7, cq_16, cq_27, cq_40, cc_58]
            rw [eo] at k
            exact k _ (RefW.ok hR hv hw)
          · refine ok_aload_n (pc := 61) dX12_kite_61 rfl ?_
            refine ok_ldc (pc := 62) (v := -1000000004) dX12_kite_62 tw_1216 ?_
            refine ok_callVi1 (pc := 64) (d' := 0) dX12_kite_64 vl_X12_84 hR.o rfl rfl rfl (by decide) ?_
            refine r_finding hR 4 (by decide) (by decide) (fun M hR => ?_)
            refine ok_goto (pc := 67) 91 dX12_kite_67 (by decide) ?_
            refine ok_iret (pc := 91) dX12_kite_91 rfl ?_
            have eo : op_kite σ x y z = ((4, -1000000004, σ) : Op3) := by simp [op_kite, e3, cq_7, cq_16, cq_27, cq_40, cc_58]; try decide
            rw [eo] at k
            exact k _ (RefW.err 4 (by decide) hR hv hw)
        · have cq_40 := bI_0.mp cc_40
          refine ok_aload_n (pc := 43) dX12_kite_43 rfl ?_
          refine ok_ldc (pc := 44) (v := -1000000001) dX12_kite_44 tw_1205 ?_
          refine ok_callVi1 (pc := 46) (d' := 0) dX12_kite_46 vl_X12_84 hR.o rfl rfl rfl (by decide) ?_
          refine r_finding hR 1 (by decide) (by decide) (fun M hR => ?_)
          refine ok_iret (pc := 49) dX12_kite_49 rfl ?_
          have eo : op_kite σ x y z = ((1, -1000000001, σ) : Op3) := by simp [op_kite, e3, cq_7, cq_16, cq_27, cq_40]; try decide
          rw [eo] at k
          exact k _ (RefW.err 1 (by decide) hR hv hw)

set_option maxHeartbeats 1000000 in
theorem r_aim {Γ : Cx} {m sz : Nat} {M0 M : Nat → Option va_E} {σ κ vi : Rw} {va : Nat → Rw} {K : Int32 → Wd → Prop} (hW : RefW Γ m M0 σ κ vi va M) (hI : Inv σ) {x y : Int32} (k : ∀ M', RefW Γ m M0 (op_aim σ x y).2.2 κ vi (eU va (op_aim σ x y).1) M' → K (op_aim σ x y).2.1 (M', sz)) : Spec Γ mX12_aim 2 0 [.ref m, .int x, .int y] (M, sz) (ci K) := by
  obtain ⟨ri, ra, hR, hv, hw⟩ := hW
  obtain ⟨⟨⟨eH, lH⟩, ⟨eK, lK⟩, ⟨eL, lL⟩, ⟨eA, lA⟩, ⟨eT, lT⟩⟩, iK, iH, iW, iL, iO, iB, hT⟩ := id hI
  
  refine spec_in [some (.ref m), some (.int x), some (.int y)] 0 (by decide) rfl rfl ?_
  refine ok_aload_n (pc := 0) dX12_aim_0 rfl ?_
  refine ok_iload_n (pc := 1) dX12_aim_1 rfl ?_
  refine ok_iconst (pc := 2) (v := 2) dX12_aim_2 (by decide) ?_
  refine ok_callVi2 (pc := 3) (d' := 1) dX12_aim_3 vl_X12_100 hR.o rfl rfl rfl (by decide) ?_
  refine r_is hR 2 rfl (by decide) ?_
  refine ok_if_eq (pc := 6) 23 dX12_aim_6 (by decide) (fun cc_6 => ?_) (fun cc_6 => ?_)
  · have cq_6 := bI_0.mp cc_6
    refine ok_aload_n (pc := 23) dX12_aim_23 rfl ?_
    refine ok_ldc (pc := 24) (v := -1000000001) dX12_aim_24 tw_1205 ?_
    refine ok_callVi1 (pc := 26) (d' := 0) dX12_aim_26 vl_X12_84 hR.o rfl rfl rfl (by decide) ?_
    refine r_finding hR 1 (by decide) (by decide) (fun M hR => ?_)
    refine ok_iret (pc := 29) dX12_aim_29 rfl ?_
    have eo : op_aim σ x y = ((1, -1000000001, σ) : Op3) := by simp [op_aim, e3, cq_6]; try decide
    rw [eo] at k
    exact k _ (RefW.err 1 (by decide) hR hv hw)
  · have cq_6 := bI_n0.mp cc_6
    refine ok_iload_n (pc := 9) dX12_aim_9 rfl ?_
    refine ok_iconst (pc := 10) (v := -1) dX12_aim_10 (by decide) ?_
    refine ok_icmp_eq (pc := 11) 30 dX12_aim_11 (by decide) (fun cc_11 => ?_) (fun cc_11 => ?_)
    · refine ok_iload_n (pc := 30) dX12_aim_30 rfl ?_
      refine ok_aload_n (pc := 31) dX12_aim_31 rfl ?_
      refine ok_iload_n (pc := 32) dX12_aim_32 rfl ?_
      refine ok_iconst (pc := 33) (v := 2) dX12_aim_33 (by decide) ?_
      refine ok_callVi2 (pc := 34) (d' := 0) dX12_aim_34 vl_X12_117 hR.o rfl rfl rfl (by decide) ?_
      obtain ⟨ea, la⟩ := wi_cnt eK (by omega) cq_6
      refine r_kiteIs hR (iN x) ea 2 rfl (by omega) (by decide) ?_
      refine ok_icmp_ne (pc := 37) 49 dX12_aim_37 (by decide) (fun cc_37 => ?_) (fun cc_37 => ?_)
      · refine ok_aload_n (pc := 49) dX12_aim_49 rfl ?_
        refine ok_bipush (pc := 50) (v := 51) dX12_aim_50 (by decide) ?_
        refine ok_bipush (pc := 52) (v := 6) dX12_aim_52 (by decide) ?_
        refine ok_iload_n (pc := 54) dX12_aim_54 rfl ?_
        refine ok_imul (pc := 55) dX12_aim_55 ?_
        refine ok_iadd (pc := 56) dX12_aim_56 ?_
        refine ok_iconst (pc := 57) (v := 5) dX12_aim_57 (by decide) ?_
        refine ok_iadd (pc := 58) dX12_aim_58 ?_
        refine ok_iload_n (pc := 59) dX12_aim_59 rfl ?_
        refine ok_callVi2 (pc := 60) (d' := 0) dX12_aim_60 vl_X12_110 hR.o rfl rfl rfl (by decide) ?_
        refine r_become hR (51 + 6 * iN x + 5) (by have e1 := ea; generalize iN x = p at *; subst e1; simp only [fa_lit, pk_mul, nI_add]) (by omega) (fun M hR => ?_)
        refine ok_iret (pc := 63) dX12_aim_63 rfl ?_
        have hc : (wi x 0 (σ 2 - 1) && (decide (y = -1) || wi y 0 (σ 1 - 1))) = true := by first | (simp [cq_6, cq_20]; done) | (simp [cq_6, cc_11]; done)
        have eo : op_aim σ x y = ((0, kf σ (iN x) 5, upd σ (51 + 6 * iN x + 5) y) : Op3) := by
          unfold op_aim
          rw [if_pos hc, if_neg cc_37]
        rw [eo] at k
        exact k _ (RefW.ok hR hv hw)
      · refine ok_aload_n (pc := 40) dX12_aim_40 rfl ?_
        refine ok_ldc (pc := 41) (v := -1000000003) dX12_aim_41 tw_1215 ?_
        refine ok_callVi1 (pc := 43) (d' := 0) dX12_aim_43 vl_X12_84 hR.o rfl rfl rfl (by decide) ?_
        refine r_finding hR 3 (by decide) (by decide) (fun M hR => ?_)
        refine ok_goto (pc := 46) 63 dX12_aim_46 (by decide) ?_
        refine ok_iret (pc := 63) dX12_aim_63 rfl ?_
        have hc : (wi x 0 (σ 2 - 1) && (decide (y = -1) || wi y 0 (σ 1 - 1))) = true := by first | (simp [cq_6, cq_20]; done) | (simp [cq_6, cc_11]; done)
        have eo : op_aim σ x y = ((3, -1000000003, σ) : Op3) := by
          unfold op_aim
          rw [if_pos hc, if_pos cc_37]
          rfl
        rw [eo] at k
        exact k _ (RefW.err 3 (by decide) hR hv hw)
    · refine ok_aload_n (pc := 14) dX12_aim_14 rfl ?_
      refine ok_iload_n (pc := 15) dX12_aim_15 rfl ?_
      refine ok_iconst (pc := 16) (v := 1) dX12_aim_16 (by decide) ?_
      refine ok_callVi2 (pc := 17) (d' := 1) dX12_aim_17 vl_X12_100 hR.o rfl rfl rfl (by decide) ?_
      refine r_is hR 1 rfl (by decide) ?_
      refine ok_if_ne (pc := 20) 30 dX12_aim_20 (by decide) (fun cc_20 => ?_) (fun cc_20 => ?_)
      · have cq_20 := bI_n0.mp cc_20
        refine ok_iload_n (pc := 30) dX12_aim_30 rfl ?_
        refine ok_aload_n (pc := 31) dX12_aim_31 rfl ?_
        refine ok_iload_n (pc := 32) dX12_aim_32 rfl ?_
        refine ok_iconst (pc := 33) (v := 2) dX12_aim_33 (by decide) ?_
        refine ok_callVi2 (pc := 34) (d' := 0) dX12_aim_34 vl_X12_117 hR.o rfl rfl rfl (by decide) ?_
        obtain ⟨ea, la⟩ := wi_cnt eK (by omega) cq_6
        refine r_kiteIs hR (iN x) ea 2 rfl (by omega) (by decide) ?_
        refine ok_icmp_ne (pc := 37) 49 dX12_aim_37 (by decide) (fun cc_37 => ?_) (fun cc_37 => ?_)
        · refine ok_aload_n (pc := 49) dX12_aim_49 rfl ?_
          refine ok_bipush (pc := 50) (v := 51) dX12_aim_50 (by decide) ?_
          refine ok_bipush (pc := 52) (v := 6) dX12_aim_52 (by decide) ?_
          refine ok_iload_n (pc := 54) dX12_aim_54 rfl ?_
          refine ok_imul (pc := 55) dX12_aim_55 ?_
          refine ok_iadd (pc := 56) dX12_aim_56 ?_
          refine ok_iconst (pc := 57) (v := 5) dX12_aim_57 (by decide) ?_
          refine ok_iadd (pc := 58) dX12_aim_58 ?_
          refine ok_iload_n (pc := 59) dX12_aim_59 rfl ?_
          refine ok_callVi2 (pc := 60) (d' := 0) dX12_aim_60 vl_X12_110 hR.o rfl rfl rfl (by decide) ?_
          refine r_become hR (51 + 6 * iN x + 5) (by have e1 := ea; generalize iN x = p at *; subst e1; simp only [fa_lit, pk_mul, nI_add]) (by omega) (fun M hR => ?_)
          refine ok_iret (pc := 63) dX12_aim_63 rfl ?_
          have hc : (wi x 0 (σ 2 - 1) && (decide (y = -1) || wi y 0 (σ 1 - 1))) = true := by first | (simp [cq_6, cq_20]; done) | (simp [cq_6, cc_11]; done)
          have eo : op_aim σ x y = ((0, kf σ (iN x) 5, upd σ (51 + 6 * iN x + 5) y) : Op3) := by
            unfold op_aim
            rw [if_pos hc, if_neg cc_37]
          rw [eo] at k
          exact k _ (RefW.ok hR hv hw)
        · refine ok_aload_n (pc := 40) dX12_aim_40 rfl ?_
          refine ok_ldc (pc := 41) (v := -1000000003) dX12_aim_41 tw_1215 ?_
          refine ok_callVi1 (pc := 43) (d' := 0) dX12_aim_43 vl_X12_84 hR.o rfl rfl rfl (by decide) ?_
          refine r_finding hR 3 (by decide) (by decide) (fun M hR => ?_)
          refine ok_goto (pc := 46) 63 dX12_aim_46 (by decide) ?_
          refine ok_iret (pc := 63) dX12_aim_63 rfl ?_
          have hc : (wi x 0 (σ 2 - 1) && (decide (y = -1) || wi y 0 (σ 1 - 1))) = true := by first | (simp [cq_6, cq_20]; done) | (simp [cq_6, cc_11]; done)
          have eo : op_aim σ x y = ((3, -1000000003, σ) : Op3) := by
            unfold op_aim
            rw [if_pos hc, if_pos cc_37]
            rfl
          rw [eo] at k
          exact k _ (RefW.err 3 (by decide) hR hv hw)
      · have cq_20 := bI_0.mp cc_20
        refine ok_aload_n (pc := 23) dX12_aim_23 rfl ?_
        refine ok_ldc (pc := 24) (v := -1000000001) dX12_aim_24 tw_1205 ?_
        refine ok_callVi1 (pc := 26) (d' := 0) dX12_aim_26 vl_X12_84 hR.o rfl rfl rfl (by decide) ?_
        refine r_finding hR 1 (by decide) (by decide) (fun M hR => ?_)
        refine ok_iret (pc := 29) dX12_aim_29 rfl ?_
        have eo : op_aim σ x y = ((1, -1000000001, σ) : Op3) := by simp [op_aim, e3, cq_6, cc_11, cq_20]; try decide
        rw [eo] at k
        exact k _ (RefW.err 1 (by decide) hR hv hw)

set_option maxHeartbeats 1000000 in
theorem r_seed {Γ : Cx} {m sz : Nat} {M0 M : Nat → Option va_E} {σ κ vi : Rw} {va : Nat → Rw} {K : Int32 → Wd → Prop} (hW : RefW Γ m M0 σ κ vi va M) (hI : Inv σ) {v : Int32} (k : ∀ M', RefW Γ m M0 (op_seed σ v).2.2 κ vi (eU va (op_seed σ v).1) M' → K (op_seed σ v).2.1 (M', sz)) : Spec Γ mX12_seed 1 0 [.ref m, .int v] (M, sz) (ci K) := by
  obtain ⟨ri, ra, hR, hv, hw⟩ := hW
  obtain ⟨⟨⟨eH, lH⟩, ⟨eK, lK⟩, ⟨eL, lL⟩, ⟨eA, lA⟩, ⟨eT, lT⟩⟩, iK, iH, iW, iL, iO, iB, hT⟩ := id hI
  
  refine spec_in [some (.ref m), some (.int v)] 0 (by decide) rfl rfl ?_
  refine ok_aload_n (pc := 0) dX12_seed_0 rfl ?_
  refine ok_bipush (pc := 1) (v := 8) dX12_seed_1 (by decide) ?_
  refine ok_iload_n (pc := 3) dX12_seed_3 rfl ?_
  refine ok_callVi2 (pc := 4) (d' := 0) dX12_seed_4 vl_X12_110 hR.o rfl rfl rfl (by decide) ?_
  refine r_become hR 8 rfl (by decide) (fun M hR => ?_)
  refine ok_iret (pc := 7) dX12_seed_7 rfl ?_
  exact k _ (RefW.ok hR hv hw)

set_option maxHeartbeats 1000000 in
theorem r_tell {Γ : Cx} {m sz : Nat} {M0 M : Nat → Option va_E} {σ κ vi : Rw} {va : Nat → Rw} {K : Int32 → Wd → Prop} (hW : RefW Γ m M0 σ κ vi va M) (hI : Inv σ) {v : Int32} (k : ∀ M', RefW Γ m M0 (op_tell σ v).2.2 κ vi (eU va (op_tell σ v).1) M' → K (op_tell σ v).2.1 (M', sz)) : Spec Γ mX12_tell 1 0 [.ref m, .int v] (M, sz) (ci K) := by
  obtain ⟨ri, ra, hR, hv, hw⟩ := hW
  obtain ⟨⟨⟨eH, lH⟩, ⟨eK, lK⟩, ⟨eL, lL⟩, ⟨eA, lA⟩, ⟨eT, lT⟩⟩, iK, iH, iW, iL, iO, iB, hT⟩ := id hI
  obtain ⟨n, en, hn⟩ := iB.2.1
  have ein : iN (σ 7) = n := by rw [en]; exact nI_clamp (by omega)
  have e77 : upd σ (245 + n) v 7 = σ 7 := upd_ne (by omega)
  refine spec_in [some (.ref m), some (.int v)] 0 (by decide) rfl rfl ?_
  refine ok_aload_n (pc := 0) dX12_tell_0 rfl ?_
  refine ok_getf (pc := 1) dX12_tell_1 fl_X12_9 hR.o rfl ?_
  refine ok_bipush (pc := 4) (v := 7) dX12_tell_4 (by decide) ?_
  refine ok_iald (pc := 6) (7) dX12_tell_6 hR.a0 rfl (by decide) (by decide) ?_
  refine ok_bipush (pc := 7) (v := 20) dX12_tell_7 (by decide) ?_
  refine ok_icmp_ne (pc := 9) 19 dX12_tell_9 (by decide) (fun cc_9 => ?_) (fun cc_9 => ?_)
  · refine ok_aload_n (pc := 19) dX12_tell_19 rfl ?_
    refine ok_getf (pc := 20) dX12_tell_20 fl_X12_9 hR.o rfl ?_
    refine ok_sipush (pc := 23) (v := 245) dX12_tell_23 (by decide) ?_
    refine ok_aload_n (pc := 26) dX12_tell_26 rfl ?_
    refine ok_getf (pc := 27) dX12_tell_27 fl_X12_9 hR.o rfl ?_
    refine ok_bipush (pc := 30) (v := 7) dX12_tell_30 (by decide) ?_
    refine ok_iald (pc := 32) (7) dX12_tell_32 hR.a0 rfl (by decide) (by decide) ?_
    refine ok_iadd (pc := 33) dX12_tell_33 ?_
    refine ok_iload_n (pc := 34) dX12_tell_34 rfl ?_
    refine ok_rst0 (pc := 35) (245 + n) dX12_tell_35 hR (by rw [en]; simp only [fa_lit, nI_add]) (by have h9 : n ≠ 20 := (fun h9 => cc_9 (by rw [en, h9]; rfl)); omega) (fun M hR => ?_)
    refine ok_aload_n (pc := 36) dX12_tell_36 rfl ?_
    refine ok_getf (pc := 37) dX12_tell_37 fl_X12_9 hR.o rfl ?_
    refine ok_bipush (pc := 40) (v := 7) dX12_tell_40 (by decide) ?_
    refine ok_dup2 (pc := 42) dX12_tell_42 rfl rfl ?_
    refine ok_iald (pc := 43) (7) dX12_tell_43 hR.a0 rfl (by decide) (by decide) ?_
    refine ok_iconst (pc := 44) (v := 1) dX12_tell_44 (by decide) ?_
    refine ok_iadd (pc := 45) dX12_tell_45 ?_
    refine ok_rst0 (pc := 46) (7) dX12_tell_46 hR rfl (by decide) (fun M hR => ?_)
    refine ok_aload_n (pc := 47) dX12_tell_47 rfl ?_
    refine ok_getf (pc := 48) dX12_tell_48 fl_X12_9 hR.o rfl ?_
    refine ok_bipush (pc := 51) (v := 7) dX12_tell_51 (by decide) ?_
    refine ok_iald (pc := 53) (7) dX12_tell_53 hR.a0 rfl (by decide) (by decide) ?_
    refine ok_iret (pc := 54) dX12_tell_54 rfl ?_
    have eo : op_tell σ v = ((0, σ 7 + 1, upd (upd σ (245 + n) v) 7 (σ 7 + 1)) : Op3) := by simp [op_tell, ein, cc_9]
    rw [eo] at k
    rw [e77] at hR ⊢
    rw [upd_at]
    exact k _ (RefW.ok hR hv hw)
  · refine ok_aload_n (pc := 12) dX12_tell_12 rfl ?_
    refine ok_ldc (pc := 13) (v := -1000000004) dX12_tell_13 tw_1216 ?_
    refine ok_callVi1 (pc := 15) (d' := 0) dX12_tell_15 vl_X12_84 hR.o rfl rfl rfl (by decide) ?_
    refine r_finding hR 4 (by decide) (by decide) (fun M hR => ?_)
    refine ok_iret (pc := 18) dX12_tell_18 rfl ?_
    have eo : op_tell σ v = ((4, -1000000004, σ) : Op3) := by simp [op_tell, e3, cc_9]; try decide
    rw [eo] at k
    exact k _ (RefW.err 4 (by decide) hR hv hw)

set_option maxHeartbeats 1000000 in
theorem r_count {Γ : Cx} {m sz : Nat} {M0 M : Nat → Option va_E} {σ κ vi : Rw} {va : Nat → Rw} {K : Int32 → Wd → Prop} (hW : RefW Γ m M0 σ κ vi va M) (hI : Inv σ) {x : Int32} (k : ∀ M', RefW Γ m M0 σ κ vi (eU va (op_count σ (vi 19) x).1) M' → K (op_count σ (vi 19) x).2 (M', sz)) : Spec Γ mX12_count 1 0 [.ref m, .int x] (M, sz) (ci K) := by
  obtain ⟨ri, ra, hR, hv, hw⟩ := hW
  obtain ⟨⟨⟨eH, lH⟩, ⟨eK, lK⟩, ⟨eL, lL⟩, ⟨eA, lA⟩, ⟨eT, lT⟩⟩, iK, iH, iW, iL, iO, iB, hT⟩ := id hI
  
  refine spec_in [some (.ref m), some (.int x)] 0 (by decide) rfl rfl ?_
  refine ok_iload_n (pc := 0) dX12_count_0 rfl ?_
  refine ok_iconst (pc := 1) (v := 0) dX12_count_1 (by decide) ?_
  refine ok_bipush (pc := 2) (v := 9) dX12_count_2 (by decide) ?_
  refine ok_callSi3 (pc := 4) (d' := 0) dX12_count_4 sl_X12_75 rfl (by decide) ?_
  refine r_within ?_
  refine ok_if_ne (pc := 7) 17 dX12_count_7 (by decide) (fun cc_7 => ?_) (fun cc_7 => ?_)
  · have cq_7 := bI_n0.mp cc_7
    obtain ⟨eb, -, lb⟩ := wi_lit (a := 0) (c := 9) rfl rfl (by decide) (by decide) cq_7
    refine ok_iload_n (pc := 17) dX12_count_17 rfl ?_
    refine ok_bipush (pc := 18) (v := 8) dX12_count_18 (by decide) ?_
    refine ok_icmp_ge (pc := 20) 32 dX12_count_20 (by decide) (fun cc_20 => ?_) (fun cc_20 => ?_)
    · have ce_20 := Int32.not_lt.mpr cc_20
      refine ok_iload_n (pc := 32) dX12_count_32 rfl ?_
      refine ok_bipush (pc := 33) (v := 8) dX12_count_33 (by decide) ?_
      refine ok_icmp_ne (pc := 35) 45 dX12_count_35 (by decide) (fun cc_35 => ?_) (fun cc_35 => ?_)
      · refine ok_aload_n (pc := 45) dX12_count_45 rfl ?_
        refine ok_getf (pc := 46) dX12_count_46 fl_X12_9 hR.o rfl ?_
        refine ok_bipush (pc := 49) (v := 8) dX12_count_49 (by decide) ?_
        refine ok_iald (pc := 51) (8) dX12_count_51 hR.a0 rfl (by decide) (by decide) ?_
        refine ok_iret (pc := 52) dX12_count_52 rfl ?_
        have eo := hv.2
        simp only [op_count, cq_7, cc_20, ce_20, cc_35, if_true] at k
        first
          | exact k _ (RefW.ok hR hv hw)
          | (rw [← eo] at k; exact k _ (RefW.ok hR hv hw))
          | (simp [cq_7, cc_20, ce_20, cc_35] at k; exact k _ (RefW.ok hR hv hw))
          | (simp [cq_7, cc_20, ce_20, cc_35, ← eo] at k; exact k _ (RefW.ok hR hv hw))
      · refine ok_aload_n (pc := 38) dX12_count_38 rfl ?_
        refine ok_getf (pc := 39) dX12_count_39 fl_X12_317 hR.o rfl ?_
        refine ok_goto (pc := 42) 52 dX12_count_42 (by decide) ?_
        refine ok_iret (pc := 52) dX12_count_52 rfl ?_
        have eo := hv.2
        simp only [op_count, cq_7, cc_20, ce_20, cc_35, if_true] at k
        first
          | exact k _ (RefW.ok hR hv hw)
          | (rw [← eo] at k; exact k _ (RefW.ok hR hv hw))
          | (simp [cq_7, cc_20, ce_20, cc_35] at k; exact k _ (RefW.ok hR hv hw))
          | (simp [cq_7, cc_20, ce_20, cc_35, ← eo] at k; exact k _ (RefW.ok hR hv hw))
    · have ce_20 := Int32.not_le.mp cc_20
      refine ok_aload_n (pc := 23) dX12_count_23 rfl ?_
      skip
      refine ok_getf (pc := 24) dX12_count_24 fl_X12_9 hR.o rfl ?_
      refine ok_iload_n (pc := 27) dX12_count_27 rfl ?_
      refine ok_iald (pc := 28) (iN x) dX12_count_28 hR.a0 eb (by omega) (by decide) ?_
      refine ok_goto (pc := 29) 52 dX12_count_29 (by decide) ?_
      refine ok_iret (pc := 52) dX12_count_52 rfl ?_
      have eo := hv.2
      simp only [op_count, cq_7, cc_20, ce_20, if_true] at k
      first
        | exact k _ (RefW.ok hR hv hw)
        | (rw [← eo] at k; exact k _ (RefW.ok hR hv hw))
        | (simp [cq_7, cc_20, ce_20] at k; exact k _ (RefW.ok hR hv hw))
        | (simp [cq_7, cc_20, ce_20, ← eo] at k; exact k _ (RefW.ok hR hv hw))
  · have cq_7 := bI_0.mp cc_7
    refine ok_aload_n (pc := 10) dX12_count_10 rfl ?_
    refine ok_ldc (pc := 11) (v := -1000000001) dX12_count_11 tw_1205 ?_
    refine ok_callVi1 (pc := 13) (d' := 0) dX12_count_13 vl_X12_84 hR.o rfl rfl rfl (by decide) ?_
    refine r_finding hR 1 (by decide) (by decide) (fun M hR => ?_)
    refine ok_iret (pc := 16) dX12_count_16 rfl ?_
    have eo : op_count σ (vi 19) x = (1, -1000000001) := by simp [op_count, cq_7]
    rw [eo] at k
    exact k _ (RefW.err 1 (by decide) hR hv hw)

set_option maxHeartbeats 1000000 in
theorem r_told {Γ : Cx} {m sz : Nat} {M0 M : Nat → Option va_E} {σ κ vi : Rw} {va : Nat → Rw} {K : Int32 → Wd → Prop} (hW : RefW Γ m M0 σ κ vi va M) (hI : Inv σ) {x : Int32} (k : ∀ M', RefW Γ m M0 σ κ vi (eU va (op_told (va 4) x).1) M' → K (op_told (va 4) x).2 (M', sz)) : Spec Γ mX12_told 1 0 [.ref m, .int x] (M, sz) (ci K) := by
  obtain ⟨ri, ra, hR, hv, hw⟩ := hW
  obtain ⟨⟨⟨eH, lH⟩, ⟨eK, lK⟩, ⟨eL, lL⟩, ⟨eA, lA⟩, ⟨eT, lT⟩⟩, iK, iH, iW, iL, iO, iB, hT⟩ := id hI
  
  refine spec_in [some (.ref m), some (.int x)] 0 (by decide) rfl rfl ?_
  refine ok_iload_n (pc := 0) dX12_told_0 rfl ?_
  refine ok_iconst (pc := 1) (v := 1) dX12_told_1 (by decide) ?_
  refine ok_iconst (pc := 2) (v := 5) dX12_told_2 (by decide) ?_
  refine ok_callSi3 (pc := 3) (d' := 0) dX12_told_3 sl_X12_75 rfl (by decide) ?_
  refine r_within ?_
  refine ok_if_eq (pc := 6) 18 dX12_told_6 (by decide) (fun cc_6 => ?_) (fun cc_6 => ?_)
  · have cq_6 := bI_0.mp cc_6
    refine ok_aload_n (pc := 18) dX12_told_18 rfl ?_
    refine ok_ldc (pc := 19) (v := -1000000001) dX12_told_19 tw_1205 ?_
    refine ok_callVi1 (pc := 21) (d' := 0) dX12_told_21 vl_X12_84 hR.o rfl rfl rfl (by decide) ?_
    refine r_finding hR 1 (by decide) (by decide) (fun M hR => ?_)
    refine ok_iret (pc := 24) dX12_told_24 rfl ?_
    have eo : op_told (va 4) x = (1, -1000000001) := by simp [op_told, cq_6]
    rw [eo] at k
    exact k _ (RefW.err 1 (by decide) hR hv hw)
  · have cq_6 := bI_n0.mp cc_6
    obtain ⟨eb, la, lb⟩ := wi_lit (a := 1) (c := 5) rfl rfl (by decide) (by decide) cq_6
    refine ok_aload_n (pc := 9) dX12_told_9 rfl ?_
    refine ok_getf (pc := 10) dX12_told_10 fl_X12_19 hR.o rfl ?_
    refine ok_iload_n (pc := 13) dX12_told_13 rfl ?_
    refine ok_iald (pc := 14) (iN x) dX12_told_14 hR.a4 eb (by omega) (by decide) ?_
    refine ok_goto (pc := 15) 24 dX12_told_15 (by decide) ?_
    refine ok_iret (pc := 24) dX12_told_24 rfl ?_
    have eo : op_told (va 4) x = (0, va 4 (iN x)) := by simp [op_told, cq_6]
    rw [eo] at k
    rw [hw.1]
    exact k _ (RefW.ok hR hv hw)

set_option maxHeartbeats 1000000 in
theorem r_image {Γ : Cx} {m sz : Nat} {M0 M : Nat → Option va_E} {σ κ vi : Rw} {va : Nat → Rw} {K : Int32 → Wd → Prop} (hW : RefW Γ m M0 σ κ vi va M) (hI : Inv σ) (k : ∀ M', RefW Γ m M0 σ σ (upd vi 3 (vi 3 + 1)) va M' → K (vi 3 + 1) (M', sz)) : Spec Γ mX12_image 1 0 [.ref m] (M, sz) (ci K) := by
  obtain ⟨ri, ra, hR, hv, hw⟩ := hW
  obtain ⟨⟨⟨eH, lH⟩, ⟨eK, lK⟩, ⟨eL, lL⟩, ⟨eA, lA⟩, ⟨eT, lT⟩⟩, iK, iH, iW, iL, iO, iB, hT⟩ := id hI
  
  refine spec_in [some (.ref m)] 0 (by decide) rfl rfl ?_
  refine ok_aload_n (pc := 0) dX12_image_0 rfl ?_
  refine ok_getf (pc := 1) dX12_image_1 fl_X12_9 hR.o rfl ?_
  refine ok_aload_n (pc := 4) dX12_image_4 rfl ?_
  refine ok_getf (pc := 5) dX12_image_5 fl_X12_13 hR.o rfl ?_
  refine ok_callSv2 (pc := 8) (d' := 0) dX12_image_8 sl_X12_79 rfl (by decide) ?_
  refine r_copy hR.a0 hR.a1 (by omega) ?_
  have hR := hR.s1 σ
  refine ok_aload_n (pc := 11) dX12_image_11 rfl ?_
  refine ok_dup (pc := 12) dX12_image_12 rfl ?_
  refine ok_getf (pc := 13) dX12_image_13 fl_X12_341 hR.o rfl ?_
  refine ok_iconst (pc := 16) (v := 1) dX12_image_16 (by decide) ?_
  refine ok_iadd (pc := 17) dX12_image_17 ?_
  refine ok_rpt3 (pc := 18) dX12_image_18 pl_X12_341 hR (fun M hR => ?_)
  refine ok_aload_n (pc := 21) dX12_image_21 rfl ?_
  refine ok_getf (pc := 22) dX12_image_22 fl_X12_341 hR.o rfl ?_
  refine ok_iret (pc := 25) dX12_image_25 rfl ?_
  have e1 : upd ri 3 (ri 3 + 1) 3 = vi 3 + 1 := by rw [upd_at, hv.1]
  rw [e1]
  exact k _ ⟨_, ra, hR, ⟨by rw [upd_at, upd_at, hv.1], by rw [upd_ne (by decide), upd_ne (by decide)]; exact hv.2⟩, hw⟩

set_option maxHeartbeats 1000000 in
theorem r_restore {Γ : Cx} {m sz : Nat} {M0 M : Nat → Option va_E} {σ κ vi : Rw} {va : Nat → Rw} {K : Int32 → Wd → Prop} (hW : RefW Γ m M0 σ κ vi va M) (hI : Inv σ) (k : ∀ M', RefW Γ m M0 (op_restore (vi 3) σ κ).2.2 κ vi (eU va (op_restore (vi 3) σ κ).1) M' → K (op_restore (vi 3) σ κ).2.1 (M', sz)) : Spec Γ mX12_restore 1 0 [.ref m] (M, sz) (ci K) := by
  obtain ⟨ri, ra, hR, hv, hw⟩ := hW
  obtain ⟨⟨⟨eH, lH⟩, ⟨eK, lK⟩, ⟨eL, lL⟩, ⟨eA, lA⟩, ⟨eT, lT⟩⟩, iK, iH, iW, iL, iO, iB, hT⟩ := id hI
  
  refine spec_in [some (.ref m)] 0 (by decide) rfl rfl ?_
  refine ok_aload_n (pc := 0) dX12_restore_0 rfl ?_
  refine ok_getf (pc := 1) dX12_restore_1 fl_X12_341 hR.o rfl ?_
  refine ok_if_ne (pc := 4) 15 dX12_restore_4 (by decide) (fun cc_4 => ?_) (fun cc_4 => ?_)
  · rw [hv.1] at cc_4
    refine ok_aload_n (pc := 15) dX12_restore_15 rfl ?_
    refine ok_getf (pc := 16) dX12_restore_16 fl_X12_13 hR.o rfl ?_
    refine ok_aload_n (pc := 19) dX12_restore_19 rfl ?_
    refine ok_getf (pc := 20) dX12_restore_20 fl_X12_9 hR.o rfl ?_
    refine ok_callSv2 (pc := 23) (d' := 0) dX12_restore_23 sl_X12_79 rfl (by decide) ?_
    refine r_copy hR.a1 hR.a0 (by omega) ?_
    have hR := hR.s0 κ
    refine ok_aload_n (pc := 26) dX12_restore_26 rfl ?_
    refine ok_getf (pc := 27) dX12_restore_27 fl_X12_9 hR.o rfl ?_
    refine ok_iconst (pc := 30) (v := 0) dX12_restore_30 (by decide) ?_
    refine ok_iald (pc := 31) (0) dX12_restore_31 hR.a0 rfl (by decide) (by decide) ?_
    refine ok_iret (pc := 32) dX12_restore_32 rfl ?_
    have eo : op_restore (vi 3) σ κ = ((0, κ 0, κ) : Op3) := by simp [op_restore, cc_4]
    rw [eo] at k
    exact k _ (RefW.ok hR hv hw)
  · rw [hv.1] at cc_4
    refine ok_aload_n (pc := 7) dX12_restore_7 rfl ?_
    refine ok_ldcw (pc := 8) (v := -1000000002) dX12_restore_8 tw_1536 ?_
    refine ok_callVi1 (pc := 11) (d' := 0) dX12_restore_11 vl_X12_84 hR.o rfl rfl rfl (by decide) ?_
    refine r_finding hR 2 (by decide) (by decide) (fun M hR => ?_)
    refine ok_iret (pc := 14) dX12_restore_14 rfl ?_
    have eo : op_restore (vi 3) σ κ = ((2, -1000000002, σ) : Op3) := by simp [op_restore, e3, cc_4]; try decide
    rw [eo] at k
    exact k _ (RefW.err 2 (by decide) hR hv hw)

set_option maxHeartbeats 1000000 in
theorem r_trace {Γ : Cx} {m sz : Nat} {M0 M : Nat → Option va_E} {σ κ vi : Rw} {va : Nat → Rw} {K : Int32 → Wd → Prop} (hW : RefW Γ m M0 σ κ vi va M) (hI : Inv σ) (hTr : ∃ n, vi 19 = nI n ∧ n ≤ 40) {x : Int32} (k : ∀ M', RefW Γ m M0 σ κ vi (eU va (op_trace (va 18) (vi 19) x).1) M' → K (op_trace (va 18) (vi 19) x).2 (M', sz)) : Spec Γ mX12_trace 1 0 [.ref m, .int x] (M, sz) (ci K) := by
  obtain ⟨ri, ra, hR, hv, hw⟩ := hW
  obtain ⟨⟨⟨eH, lH⟩, ⟨eK, lK⟩, ⟨eL, lL⟩, ⟨eA, lA⟩, ⟨eT, lT⟩⟩, iK, iH, iW, iL, iO, iB, hT⟩ := id hI
  have htr : 0 ≤ 0 := Nat.le_refl 0
  refine spec_in [some (.ref m), some (.int x)] 0 (by decide) rfl rfl ?_
  refine ok_iload_n (pc := 0) dX12_trace_0 rfl ?_
  refine ok_iconst (pc := 1) (v := 0) dX12_trace_1 (by decide) ?_
  refine ok_aload_n (pc := 2) dX12_trace_2 rfl ?_
  refine ok_getf (pc := 3) dX12_trace_3 fl_X12_317 hR.o rfl ?_
  refine ok_iconst (pc := 6) (v := 1) dX12_trace_6 (by decide) ?_
  refine ok_isub (pc := 7) dX12_trace_7 ?_
  refine ok_callSi3 (pc := 8) (d' := 0) dX12_trace_8 sl_X12_75 rfl (by decide) ?_
  refine r_within ?_
  refine ok_if_eq (pc := 11) 23 dX12_trace_11 (by decide) (fun cc_11 => ?_) (fun cc_11 => ?_)
  · have cq_11 := bI_0.mp cc_11
    refine ok_aload_n (pc := 23) dX12_trace_23 rfl ?_
    refine ok_ldcw (pc := 24) (v := -1000000002) dX12_trace_24 tw_1536 ?_
    refine ok_callVi1 (pc := 27) (d' := 0) dX12_trace_27 vl_X12_84 hR.o rfl rfl rfl (by decide) ?_
    refine r_finding hR 2 (by decide) (by decide) (fun M hR => ?_)
    refine ok_iret (pc := 30) dX12_trace_30 rfl ?_
    rw [hv.2] at cq_11
    have eo : op_trace (va 18) (vi 19) x = (2, -1000000002) := by simp [op_trace, cq_11]
    rw [eo] at k
    exact k _ (RefW.err 2 (by decide) hR hv hw)
  · have cq_11 := bI_n0.mp cc_11
    rw [hv.2] at cq_11
    obtain ⟨ntr, etr, ltr⟩ := hTr
    obtain ⟨eb, lb⟩ := wi_cnt etr (by omega) cq_11
    refine ok_aload_n (pc := 14) dX12_trace_14 rfl ?_
    refine ok_getf (pc := 15) dX12_trace_15 fl_X12_50 hR.o rfl ?_
    refine ok_iload_n (pc := 18) dX12_trace_18 rfl ?_
    refine ok_iald (pc := 19) (iN x) dX12_trace_19 hR.a18 eb (by omega) (by decide) ?_
    refine ok_goto (pc := 20) 30 dX12_trace_20 (by decide) ?_
    refine ok_iret (pc := 30) dX12_trace_30 rfl ?_
    have eo : op_trace (va 18) (vi 19) x = (0, va 18 (iN x)) := by simp [op_trace, cq_11]
    rw [eo] at k
    rw [hw.2.1]
    exact k _ (RefW.ok hR hv hw)
