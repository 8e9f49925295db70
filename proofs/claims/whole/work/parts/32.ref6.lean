set_option maxHeartbeats 1000000 in
theorem r_standsOver {Γ : Cx} {m sz : Nat} {M0 M : Nat → Option va_E} {σ κ : Rw} {ri : Nat → Int32} {ra : Nat → Nat → Int32} {K : Int32 → Wd → Prop} (hR : RefX Γ m M0 σ κ ri ra M) {kI hI9 load oI time : Int32} (k0 hill hour : Nat) (ek : kI = nI k0) (eh : hI9 = nI hill) (eo : oI = nI hour) (hk : k0 < cK σ) (hh : hill < cH σ) (ho : hour < 24) (hI : Inv σ) (k : ∀ M' ra', RefX Γ m M0 σ κ ri ra' M' → Sc ra ra' → K (bI (stS σ k0 hill load hour time)) (M', sz)) : Spec Γ mX12_standsOver 5 0 [.ref m, .int kI, .int hI9, .int load, .int oI, .int time] (M, sz) (ci K) := by
  obtain ⟨⟨⟨eH, lH⟩, ⟨eK, lK⟩, ⟨eL, lL⟩, ⟨eA, lA⟩, ⟨eT, lT⟩⟩, iK, iH, iW, iL, iO, iB, hT⟩ := id hI
  obtain ⟨⟨ehm, hmH⟩, -⟩ := iK k0 hk
  obtain ⟨ew, hw79⟩ := iW hour ho
  have k8 : k0 < 8 := by omega
  have h9 : hill < 9 := by omega
  have m9 : hmF σ k0 < 9 := by omega
  have ed : σ (27 + hour) / 10 = nI (wdF σ hour / 10) := by rw [ew, fa_lit 10, pk_div (by omega) (by decide) (by decide)]
  have edn : (σ (27 + hour) / 10).toNatClampNeg = wdF σ hour / 10 := by rw [ed]; exact nI_clamp (by omega)
  refine spec_in [some (.ref m), some (.int kI), some (.int hI9), some (.int load), some (.int oI), some (.int time), none, none, none] 3 (by decide) rfl rfl ?_
  refine ok_aload_n (pc := 0) dX12_standsOver_0 rfl ?_
  refine ok_iload_n (pc := 1) dX12_standsOver_1 rfl ?_
  refine ok_iconst (pc := 2) (v := 2) dX12_standsOver_2 (by decide) ?_
  refine ok_callVi2 (pc := 3) (d' := 0) dX12_standsOver_3 vl_X12_117 hR.o rfl rfl rfl (by decide) ?_
  refine r_kiteIs hR k0 ek 2 rfl k8 (by decide) ?_
  refine ok_istore6 (pc := 6) dX12_standsOver_6 (by decide) rfl ?_
  refine ok_aload_n (pc := 8) dX12_standsOver_8 rfl ?_
  refine ok_getf (pc := 9) dX12_standsOver_9 fl_X12_9 hR.o rfl ?_
  refine ok_bipush (pc := 12) (v := 27) dX12_standsOver_12 (by decide) ?_
  refine ok_iload (pc := 14) dX12_standsOver_14 rfl ?_
  refine ok_iadd (pc := 16) dX12_standsOver_16 ?_
  refine ok_iald (pc := 17) (27 + hour) dX12_standsOver_17 hR.a0 (by simp only [eo, fa_lit, pk_mul, nI_add]) (by omega) (by decide) ?_
  refine ok_istore7 (pc := 18) dX12_standsOver_18 (by decide) rfl ?_
  refine ok_iload_n (pc := 20) dX12_standsOver_20 rfl ?_
  refine ok_iload (pc := 21) dX12_standsOver_21 rfl ?_
  refine ok_icmp_eq (pc := 23) 50 dX12_standsOver_23 (by decide) (fun cc_23 => ?_) (fun cc_23 => ?_)
  · refine ok_iconst (pc := 50) (v := 0) dX12_standsOver_50 (by decide) ?_
    refine ok_zret (pc := 51) dX12_standsOver_51 rfl rfl ?_
    have e9 := k _ _ hR (by first | exact hs | exact Sc.rf)
    have e8 := eh
    simp only [stS, stF, alF, fcF, edn] at e9
    simpa [bI, ← eh, cc_23] using e9
  · refine ok_iload (pc := 26) dX12_standsOver_26 rfl ?_
    refine ok_bipush (pc := 28) (v := 10) dX12_standsOver_28 (by decide) ?_
    refine ok_irem (pc := 30) dX12_standsOver_30 (by decide) ?_
    refine ok_if_eq (pc := 31) 50 dX12_standsOver_31 (by decide) (fun cc_31 => ?_) (fun cc_31 => ?_)
    · refine ok_iconst (pc := 50) (v := 0) dX12_standsOver_50 (by decide) ?_
      refine ok_zret (pc := 51) dX12_standsOver_51 rfl rfl ?_
      have e9 := k _ _ hR (by first | exact hs | exact Sc.rf)
      have e8 := eh
      simp only [stS, stF, alF, fcF, edn] at e9
      simpa [bI, ← eh, cc_23, cc_31] using e9
    · refine ok_aload_n (pc := 34) dX12_standsOver_34 rfl ?_
      refine ok_iload (pc := 35) dX12_standsOver_35 rfl ?_
      refine ok_iload_n (pc := 37) dX12_standsOver_37 rfl ?_
      refine ok_callVi2 (pc := 38) (d' := 1) dX12_standsOver_38 vl_X12_136 hR.o rfl rfl rfl (by decide) ?_
      refine r_farOf hR (hmF σ k0) hill ehm eh m9 h9 ?_
      refine ok_aload_n (pc := 41) dX12_standsOver_41 rfl ?_
      refine ok_iload_n (pc := 42) dX12_standsOver_42 rfl ?_
      refine ok_iconst (pc := 43) (v := 4) dX12_standsOver_43 (by decide) ?_
      refine ok_callVi2 (pc := 44) (d' := 0) dX12_standsOver_44 vl_X12_117 hR.o rfl rfl rfl (by decide) ?_
      refine r_kiteIs hR k0 ek 4 rfl k8 (by decide) ?_
      refine ok_icmp_le (pc := 47) 52 dX12_standsOver_47 (by decide) (fun cc_47 => ?_) (fun cc_47 => ?_)
      · have ce_47 := Int32.not_lt.mpr cc_47
        refine ok_aload_n (pc := 52) dX12_standsOver_52 rfl ?_
        refine ok_iload_n (pc := 53) dX12_standsOver_53 rfl ?_
        refine ok_callVi1 (pc := 54) (d' := 0) dX12_standsOver_54 vl_X12_124 hR.o rfl rfl rfl (by decide) ?_
        refine r_xOf2 hR hill eh h9 ?_
        refine ok_aload_n (pc := 57) dX12_standsOver_57 rfl ?_
        refine ok_iload (pc := 58) dX12_standsOver_58 rfl ?_
        refine ok_callVi1 (pc := 60) (d' := 0) dX12_standsOver_60 vl_X12_124 hR.o rfl rfl rfl (by decide) ?_
        refine r_xOf2 hR (hmF σ k0) ehm m9 ?_
        refine ok_isub (pc := 63) dX12_standsOver_63 ?_
        refine ok_aload_n (pc := 64) dX12_standsOver_64 rfl ?_
        refine ok_getf (pc := 65) dX12_standsOver_65 fl_X12_22 hR.o rfl ?_
        refine ok_iload (pc := 68) dX12_standsOver_68 rfl ?_
        refine ok_bipush (pc := 70) (v := 10) dX12_standsOver_70 (by decide) ?_
        refine ok_idiv (pc := 72) dX12_standsOver_72 (by decide) ?_
        refine ok_iald (pc := 73) (wdF σ hour / 10) dX12_standsOver_73 hR.a5 ed (by omega) (by decide) ?_
        refine ok_imul (pc := 74) dX12_standsOver_74 ?_
        refine ok_aload_n (pc := 75) dX12_standsOver_75 rfl ?_
        refine ok_iload_n (pc := 76) dX12_standsOver_76 rfl ?_
        refine ok_callVi1 (pc := 77) (d' := 0) dX12_standsOver_77 vl_X12_130 hR.o rfl rfl rfl (by decide) ?_
        refine r_yOf hR hill eh h9 ?_
        refine ok_aload_n (pc := 80) dX12_standsOver_80 rfl ?_
        refine ok_iload (pc := 81) dX12_standsOver_81 rfl ?_
        refine ok_callVi1 (pc := 83) (d' := 0) dX12_standsOver_83 vl_X12_130 hR.o rfl rfl rfl (by decide) ?_
        refine r_yOf hR (hmF σ k0) ehm m9 ?_
        refine ok_isub (pc := 86) dX12_standsOver_86 ?_
        refine ok_aload_n (pc := 87) dX12_standsOver_87 rfl ?_
        refine ok_getf (pc := 88) dX12_standsOver_88 fl_X12_25 hR.o rfl ?_
        refine ok_iload (pc := 91) dX12_standsOver_91 rfl ?_
        refine ok_bipush (pc := 93) (v := 10) dX12_standsOver_93 (by decide) ?_
        refine ok_idiv (pc := 95) dX12_standsOver_95 (by decide) ?_
        refine ok_iald (pc := 96) (wdF σ hour / 10) dX12_standsOver_96 hR.a6 ed (by omega) (by decide) ?_
        refine ok_imul (pc := 97) dX12_standsOver_97 ?_
        refine ok_iadd (pc := 98) dX12_standsOver_98 ?_
        refine ok_istore8 (pc := 99) dX12_standsOver_99 (by decide) rfl ?_
        refine ok_iload (pc := 101) dX12_standsOver_101 rfl ?_
        refine ok_if_le (pc := 103) 124 dX12_standsOver_103 (by decide) (fun cc_103 => ?_) (fun cc_103 => ?_)
        · have ce_103 := Int32.not_lt.mpr cc_103
          refine ok_iconst (pc := 124) (v := 0) dX12_standsOver_124 (by decide) ?_
          refine ok_zret (pc := 125) dX12_standsOver_125 rfl rfl ?_
          have e9 := k _ _ hR (by first | exact hs | exact Sc.rf)
          have e8 := eh
          simp only [stS, stF, alF, fcF, edn] at e9
          simpa [bI, ← eh, cc_23, cc_31, cc_47, ce_47, cc_103, ce_103] using e9
        · have ce_103 := Int32.not_le.mp cc_103
          refine ok_aload_n (pc := 106) dX12_standsOver_106 rfl ?_
          refine ok_iload_n (pc := 107) dX12_standsOver_107 rfl ?_
          refine ok_iload_n (pc := 108) dX12_standsOver_108 rfl ?_
          refine ok_iload_n (pc := 109) dX12_standsOver_109 rfl ?_
          refine ok_iload (pc := 110) dX12_standsOver_110 rfl ?_
          refine ok_iload (pc := 112) dX12_standsOver_112 rfl ?_
          refine ok_callVi5 (pc := 114) (d' := 4) dX12_standsOver_114 vl_X12_149 hR.o rfl rfl rfl (by decide) ?_
          refine r_pullOf hR k0 hill hour (hmF σ k0) ek eh eo ehm k8 h9 ho m9 hT (fun M rb hR hs => ?_)
          refine ok_if_lt (pc := 117) 124 dX12_standsOver_117 (by decide) (fun cc_117 => ?_) (fun cc_117 => ?_)
          · have ce_117 := Int32.not_le.mpr cc_117
            refine ok_iconst (pc := 124) (v := 0) dX12_standsOver_124 (by decide) ?_
            refine ok_zret (pc := 125) dX12_standsOver_125 rfl rfl ?_
            have e9 := k _ _ hR (by first | exact hs | exact Sc.rf)
            have e8 := eh
            simp only [stS, stF, alF, fcF, edn] at e9
            simpa [bI, ← eh, cc_23, cc_31, cc_47, ce_47, cc_103, ce_103, cc_117, ce_117] using e9
          · have ce_117 := Int32.not_lt.mp cc_117
            refine ok_iconst (pc := 120) (v := 1) dX12_standsOver_120 (by decide) ?_
            refine ok_goto (pc := 121) 125 dX12_standsOver_121 (by decide) ?_
            refine ok_zret (pc := 125) dX12_standsOver_125 rfl rfl ?_
            have e9 := k _ _ hR (by first | exact hs | exact Sc.rf)
            have e8 := eh
            simp only [stS, stF, alF, fcF, edn] at e9
            simpa [bI, ← eh, cc_23, cc_31, cc_47, ce_47, cc_103, ce_103, cc_117, ce_117] using e9
      · have ce_47 := Int32.not_le.mp cc_47
        refine ok_iconst (pc := 50) (v := 0) dX12_standsOver_50 (by decide) ?_
        refine ok_zret (pc := 51) dX12_standsOver_51 rfl rfl ?_
        have e9 := k _ _ hR (by first | exact hs | exact Sc.rf)
        have e8 := eh
        simp only [stS, stF, alF, fcF, edn] at e9
        simpa [bI, ← eh, cc_23, cc_31, cc_47, ce_47] using e9

set_option maxHeartbeats 1000000 in
theorem r_standsNow {Γ : Cx} {m sz : Nat} {M0 M : Nat → Option va_E} {σ κ : Rw} {ri : Nat → Int32} {ra : Nat → Nat → Int32} {K : Int32 → Wd → Prop} (hR : RefX Γ m M0 σ κ ri ra M) {kI hI9 load : Int32} (k0 hill : Nat) (ek : kI = nI k0) (eh : hI9 = nI hill) (hk : k0 < cK σ) (hh : hill < cH σ) (hI : Inv σ) (k : ∀ M' ra', RefX Γ m M0 σ κ ri ra' M' → Sc ra ra' → K (bI (stN σ k0 hill load)) (M', sz)) : Spec Γ mX12_standsNow 6 0 [.ref m, .int kI, .int hI9, .int load] (M, sz) (ci K) := by
  have eT := hI.1.2.2.2.2.1
  have lT := hI.1.2.2.2.2.2
  refine spec_in [some (.ref m), some (.int kI), some (.int hI9), some (.int load)] 0 (by decide) rfl rfl ?_
  refine ok_aload_n (pc := 0) dX12_standsNow_0 rfl ?_
  refine ok_iload_n (pc := 1) dX12_standsNow_1 rfl ?_
  refine ok_iload_n (pc := 2) dX12_standsNow_2 rfl ?_
  refine ok_iload_n (pc := 3) dX12_standsNow_3 rfl ?_
  refine ok_aload_n (pc := 4) dX12_standsNow_4 rfl ?_
  refine ok_getf (pc := 5) dX12_standsNow_5 fl_X12_9 hR.o rfl ?_
  refine ok_iconst (pc := 8) (v := 0) dX12_standsNow_8 (by decide) ?_
  refine ok_iald (pc := 9) (0) dX12_standsNow_9 hR.a0 rfl (by decide) (by decide) ?_
  refine ok_bipush (pc := 10) (v := 24) dX12_standsNow_10 (by decide) ?_
  refine ok_irem (pc := 12) dX12_standsNow_12 (by decide) ?_
  refine ok_aload_n (pc := 13) dX12_standsNow_13 rfl ?_
  refine ok_getf (pc := 14) dX12_standsNow_14 fl_X12_9 hR.o rfl ?_
  refine ok_iconst (pc := 17) (v := 0) dX12_standsNow_17 (by decide) ?_
  refine ok_iald (pc := 18) (0) dX12_standsNow_18 hR.a0 rfl (by decide) (by decide) ?_
  refine ok_callVi5 (pc := 19) (d' := 5) dX12_standsNow_19 vl_X12_152 hR.o rfl rfl rfl (by decide) ?_
  refine r_standsOver hR k0 hill (cT σ % 24) ek eh (by rw [eT]; exact pk_rem (by omega) (by decide) (by decide)) hk hh (Nat.mod_lt _ (by decide)) hI (fun M rb hR hs => ?_)
  refine ok_zret (pc := 22) dX12_standsNow_22 rfl (bI_z _) ?_
  exact k _ _ hR hs
