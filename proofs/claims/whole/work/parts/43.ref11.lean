set_option maxHeartbeats 1000000 in
theorem r_lines {Γ : Cx} {m sz : Nat} {M0 M : Nat → Option va_E} {σ κ vi : Rw} {va : Nat → Rw} {K : Int32 → Wd → Prop} (hW : RefW Γ m M0 σ κ vi va M) (hI : Inv σ) {x : Int32} (k : ∀ M', RefW Γ m M0 σ κ vi (eU va (op_lines σ x).1) M' → K (op_lines σ x).2 (M', sz)) : Spec Γ mX12_lines 9 0 [.ref m, .int x] (M, sz) (ci K) := by
  obtain ⟨ri, ra, hR, hv, hw⟩ := hW
  obtain ⟨⟨⟨eH, lH⟩, ⟨eK, lK⟩, ⟨eL, lL⟩, ⟨eA, lA⟩, ⟨eT, lT⟩⟩, iK, iH, iW, iL, iO, iB, hT⟩ := id hI
  
  refine spec_in [some (.ref m), some (.int x), none] 1 (by decide) rfl rfl ?_
  refine ok_iload_n (pc := 0) dX12_lines_0 rfl ?_
  refine ok_iconst (pc := 1) (v := 0) dX12_lines_1 (by decide) ?_
  refine ok_iconst (pc := 2) (v := 1) dX12_lines_2 (by decide) ?_
  refine ok_callSi3 (pc := 3) (d' := 0) dX12_lines_3 sl_X12_75 rfl (by decide) ?_
  refine r_within ?_
  refine ok_if_ne (pc := 6) 16 dX12_lines_6 (by decide) (fun cc_6 => ?_) (fun cc_6 => ?_)
  · have cq_6 := bI_n0.mp cc_6
    refine ok_aload_n (pc := 16) dX12_lines_16 rfl ?_
    refine ok_callVi0 (pc := 17) (d' := 8) dX12_lines_17 vl_X12_252 hR.o rfl rfl rfl (by decide) ?_
    refine r_haveLines hR hI (fun M rb hR hs => ?_)
    rw [hvF_n σ _ (by omega)]
    refine ok_istore_n2 (pc := 20) dX12_lines_20 (by decide) rfl ?_
    refine ok_iload_n (pc := 21) dX12_lines_21 rfl ?_
    refine ok_if_ne (pc := 22) 29 dX12_lines_22 (by decide) (fun cc_22 => ?_) (fun cc_22 => ?_)
    · refine ok_iload_n (pc := 29) dX12_lines_29 rfl ?_
      refine ok_aload_n (pc := 30) dX12_lines_30 rfl ?_
      refine ok_iload_n (pc := 31) dX12_lines_31 rfl ?_
      refine ok_callVi1 (pc := 32) (d' := 4) dX12_lines_32 vl_X12_255 hR.o rfl rfl rfl (by decide) ?_
      refine r_stayUp hR (hvN σ (cK σ)) rfl (hvN_lt8 lK) hvN_aim hI ?_
      refine ok_iconst (pc := 35) (v := -1) dX12_lines_35 (by decide) ?_
      refine ok_ixor (pc := 36) dX12_lines_36 ?_
      refine ok_iand (pc := 37) dX12_lines_37 ?_
      refine ok_iret (pc := 38) dX12_lines_38 rfl ?_
      have e9 := k
      simp only [op_lines, cq_6, cc_22, if_true] at e9
      first
        | exact e9 _ (RefW.oks hR hs hv hw)
        | (simp [cq_6, cc_22] at e9; exact e9 _ (RefW.oks hR hs hv hw))
    · refine ok_iload_n (pc := 25) dX12_lines_25 rfl ?_
      refine ok_goto (pc := 26) 38 dX12_lines_26 (by decide) ?_
      refine ok_iret (pc := 38) dX12_lines_38 rfl ?_
      have e9 := k
      simp only [op_lines, cq_6, cc_22, if_true] at e9
      first
        | exact e9 _ (RefW.oks hR hs hv hw)
        | (simp [cq_6, cc_22] at e9; exact e9 _ (RefW.oks hR hs hv hw))
  · have cq_6 := bI_0.mp cc_6
    refine ok_aload_n (pc := 9) dX12_lines_9 rfl ?_
    refine ok_ldc (pc := 10) (v := -1000000001) dX12_lines_10 tw_1205 ?_
    refine ok_callVi1 (pc := 12) (d' := 0) dX12_lines_12 vl_X12_84 hR.o rfl rfl rfl (by decide) ?_
    refine r_finding hR 1 (by decide) (by decide) (fun M hR => ?_)
    refine ok_iret (pc := 15) dX12_lines_15 rfl ?_
    have eo : op_lines σ x = (1, -1000000001) := by simp [op_lines, cq_6]
    rw [eo] at k
    exact k _ (RefW.err 1 (by decide) hR hv hw)

set_option maxHeartbeats 1000000 in
theorem r_comesTo {Γ : Cx} {m sz : Nat} {M0 M : Nat → Option va_E} {σ κ : Rw} {ri : Nat → Int32} {ra : Nat → Nat → Int32} {K : Wd → Prop} (hR : RefX Γ m M0 σ κ ri ra M) {lI hI9 : Int32} (l0 : Nat) (el : lI = nI l0) (hl : l0 < 12) (eA : σ 4 = nI (cA σ)) (lA : cA σ < 12) (hT : ∀ u, u < 2 → TxOk σ u) (k : ∀ M' ra', RefX Γ m M0 (comF σ l0 hI9) κ ri ra' M' → Sc ra ra' → K (M', sz)) : Spec Γ mX12_comesTo 3 0 [.ref m, .int lI, .int hI9] (M, sz) (cv K) := by
  refine spec_in [some (.ref m), some (.int lI), some (.int hI9), none, none] 2 (by decide) rfl rfl ?_
  refine ok_bipush (pc := 0) (v := 99) dX12_comesTo_0 (by decide) ?_
  refine ok_bipush (pc := 2) (v := 7) dX12_comesTo_2 (by decide) ?_
  refine ok_iload_n (pc := 4) dX12_comesTo_4 rfl ?_
  refine ok_imul (pc := 5) dX12_comesTo_5 ?_
  refine ok_iadd (pc := 6) dX12_comesTo_6 ?_
  refine ok_istore_n3 (pc := 7) dX12_comesTo_7 (by decide) rfl ?_
  refine ok_aload_n (pc := 8) dX12_comesTo_8 rfl ?_
  refine ok_getf (pc := 9) dX12_comesTo_9 fl_X12_9 hR.o rfl ?_
  refine ok_iload_n (pc := 12) dX12_comesTo_12 rfl ?_
  refine ok_iconst (pc := 13) (v := 5) dX12_comesTo_13 (by decide) ?_
  refine ok_iadd (pc := 14) dX12_comesTo_14 ?_
  refine ok_iload_n (pc := 15) dX12_comesTo_15 rfl ?_
  refine ok_rst0 (pc := 16) (99 + 7 * l0 + 5) dX12_comesTo_16 hR (by simp only [el, fa_lit, pk_mul, nI_add]) (by omega) (fun M hR => ?_)
  refine ok_iload_n (pc := 17) dX12_comesTo_17 rfl ?_
  refine ok_aload_n (pc := 18) dX12_comesTo_18 rfl ?_
  refine ok_getf (pc := 19) dX12_comesTo_19 fl_X12_9 hR.o rfl ?_
  refine ok_iload_n (pc := 22) dX12_comesTo_22 rfl ?_
  refine ok_iconst (pc := 23) (v := 1) dX12_comesTo_23 (by decide) ?_
  refine ok_iadd (pc := 24) dX12_comesTo_24 ?_
  refine ok_iald (pc := 25) (99 + 7 * l0 + 1) dX12_comesTo_25 hR.a0 (by simp only [el, fa_lit, pk_mul, nI_add]) (by omega) (by decide) ?_
  rw [upd_ne (show 99 + 7 * l0 + 1 ≠ 99 + 7 * l0 + 5 by omega)]
  refine ok_icmp_ne (pc := 26) 127 dX12_comesTo_26 (by decide) (fun cc_26 => ?_) (fun cc_26 => ?_)
  · have eo : comF σ l0 hI9 = upd σ (99 + 7 * l0 + 5) hI9 := by unfold comF; exact if_neg cc_26
    rw [eo] at k
    refine ok_vret (pc := 127) dX12_comesTo_127 rfl ?_
    exact k _ _ hR (by first | exact hs | exact Sc.rf)
  · have eo : comF σ l0 hI9 = upd (upd (upd (upd (upd σ (99 + 7 * l0 + 5) hI9) (99 + 7 * l0 + 6) (σ 0 + 1)) (183 + cA σ) (nI l0)) 4 (σ 4 + 1)) 5 (jmin 999999 (σ 5 + givF σ 1 (σ 0 + 1 - lf σ l0 4) (lf σ l0 2) 0 0)) := by unfold comF; exact if_pos cc_26
    rw [eo, ← el] at k
    refine ok_aload_n (pc := 29) dX12_comesTo_29 rfl ?_
    refine ok_getf (pc := 30) dX12_comesTo_30 fl_X12_9 hR.o rfl ?_
    refine ok_iload_n (pc := 33) dX12_comesTo_33 rfl ?_
    refine ok_bipush (pc := 34) (v := 6) dX12_comesTo_34 (by decide) ?_
    refine ok_iadd (pc := 36) dX12_comesTo_36 ?_
    refine ok_aload_n (pc := 37) dX12_comesTo_37 rfl ?_
    refine ok_getf (pc := 38) dX12_comesTo_38 fl_X12_9 hR.o rfl ?_
    refine ok_iconst (pc := 41) (v := 0) dX12_comesTo_41 (by decide) ?_
    refine ok_iald (pc := 42) (0) dX12_comesTo_42 hR.a0 rfl (by decide) (by decide) ?_
    rw [upd_ne (show 0 ≠ 99 + 7 * l0 + 5 by omega)]
    refine ok_iconst (pc := 43) (v := 1) dX12_comesTo_43 (by decide) ?_
    refine ok_iadd (pc := 44) dX12_comesTo_44 ?_
    refine ok_rst0 (pc := 45) (99 + 7 * l0 + 6) dX12_comesTo_45 hR (by simp only [el, fa_lit, pk_mul, nI_add]) (by omega) (fun M hR => ?_)
    refine ok_aload_n (pc := 46) dX12_comesTo_46 rfl ?_
    refine ok_getf (pc := 47) dX12_comesTo_47 fl_X12_9 hR.o rfl ?_
    refine ok_sipush (pc := 50) (v := 183) dX12_comesTo_50 (by decide) ?_
    refine ok_aload_n (pc := 53) dX12_comesTo_53 rfl ?_
    refine ok_getf (pc := 54) dX12_comesTo_54 fl_X12_9 hR.o rfl ?_
    refine ok_iconst (pc := 57) (v := 4) dX12_comesTo_57 (by decide) ?_
    refine ok_iald (pc := 58) (4) dX12_comesTo_58 hR.a0 rfl (by decide) (by decide) ?_
    rw [upd_ne (show 4 ≠ 99 + 7 * l0 + 6 by omega), upd_ne (show 4 ≠ 99 + 7 * l0 + 5 by omega)]
    refine ok_iadd (pc := 59) dX12_comesTo_59 ?_
    refine ok_iload_n (pc := 60) dX12_comesTo_60 rfl ?_
    refine ok_rst0 (pc := 61) (183 + cA σ) dX12_comesTo_61 hR (by rw [eA, fa_lit 183, nI_add]) (by omega) (fun M hR => ?_)
    refine ok_aload_n (pc := 62) dX12_comesTo_62 rfl ?_
    refine ok_getf (pc := 63) dX12_comesTo_63 fl_X12_9 hR.o rfl ?_
    refine ok_iconst (pc := 66) (v := 4) dX12_comesTo_66 (by decide) ?_
    refine ok_dup2 (pc := 67) dX12_comesTo_67 rfl rfl ?_
    refine ok_iald (pc := 68) (4) dX12_comesTo_68 hR.a0 rfl (by decide) (by decide) ?_
    rw [upd_ne (show 4 ≠ 183 + cA σ by omega), upd_ne (show 4 ≠ 99 + 7 * l0 + 6 by omega), upd_ne (show 4 ≠ 99 + 7 * l0 + 5 by omega)]
    refine ok_iconst (pc := 69) (v := 1) dX12_comesTo_69 (by decide) ?_
    refine ok_iadd (pc := 70) dX12_comesTo_70 ?_
    refine ok_rst0 (pc := 71) (4) dX12_comesTo_71 hR rfl (by decide) (fun M hR => ?_)
    refine ok_aload_n (pc := 72) dX12_comesTo_72 rfl ?_
    refine ok_iconst (pc := 73) (v := 1) dX12_comesTo_73 (by decide) ?_
    refine ok_aload_n (pc := 74) dX12_comesTo_74 rfl ?_
    refine ok_getf (pc := 75) dX12_comesTo_75 fl_X12_9 hR.o rfl ?_
    refine ok_iconst (pc := 78) (v := 0) dX12_comesTo_78 (by decide) ?_
    refine ok_iald (pc := 79) (0) dX12_comesTo_79 hR.a0 rfl (by decide) (by decide) ?_
    rw [upd_ne (show 0 ≠ 4 by omega), upd_ne (show 0 ≠ 183 + cA σ by omega), upd_ne (show 0 ≠ 99 + 7 * l0 + 6 by omega), upd_ne (show 0 ≠ 99 + 7 * l0 + 5 by omega)]
    refine ok_iconst (pc := 80) (v := 1) dX12_comesTo_80 (by decide) ?_
    refine ok_iadd (pc := 81) dX12_comesTo_81 ?_
    refine ok_aload_n (pc := 82) dX12_comesTo_82 rfl ?_
    refine ok_getf (pc := 83) dX12_comesTo_83 fl_X12_9 hR.o rfl ?_
    refine ok_iload_n (pc := 86) dX12_comesTo_86 rfl ?_
    refine ok_iconst (pc := 87) (v := 4) dX12_comesTo_87 (by decide) ?_
    refine ok_iadd (pc := 88) dX12_comesTo_88 ?_
    refine ok_iald (pc := 89) (99 + 7 * l0 + 4) dX12_comesTo_89 hR.a0 (by simp only [el, fa_lit, pk_mul, nI_add]) (by omega) (by decide) ?_
    rw [upd_ne (show 99 + 7 * l0 + 4 ≠ 4 by omega), upd_ne (show 99 + 7 * l0 + 4 ≠ 183 + cA σ by omega), upd_ne (show 99 + 7 * l0 + 4 ≠ 99 + 7 * l0 + 6 by omega), upd_ne (show 99 + 7 * l0 + 4 ≠ 99 + 7 * l0 + 5 by omega)]
    refine ok_isub (pc := 90) dX12_comesTo_90 ?_
    refine ok_aload_n (pc := 91) dX12_comesTo_91 rfl ?_
    refine ok_getf (pc := 92) dX12_comesTo_92 fl_X12_9 hR.o rfl ?_
    refine ok_iload_n (pc := 95) dX12_comesTo_95 rfl ?_
    refine ok_iconst (pc := 96) (v := 2) dX12_comesTo_96 (by decide) ?_
    refine ok_iadd (pc := 97) dX12_comesTo_97 ?_
    refine ok_iald (pc := 98) (99 + 7 * l0 + 2) dX12_comesTo_98 hR.a0 (by simp only [el, fa_lit, pk_mul, nI_add]) (by omega) (by decide) ?_
    rw [upd_ne (show 99 + 7 * l0 + 2 ≠ 4 by omega), upd_ne (show 99 + 7 * l0 + 2 ≠ 183 + cA σ by omega), upd_ne (show 99 + 7 * l0 + 2 ≠ 99 + 7 * l0 + 6 by omega), upd_ne (show 99 + 7 * l0 + 2 ≠ 99 + 7 * l0 + 5 by omega)]
    refine ok_iconst (pc := 99) (v := 0) dX12_comesTo_99 (by decide) ?_
    refine ok_iconst (pc := 100) (v := 0) dX12_comesTo_100 (by decide) ?_
    refine ok_callVi5 (pc := 101) (d' := 2) dX12_comesTo_101 vl_X12_146 hR.o rfl rfl rfl (by decide) ?_
    have hsame : ∀ j, 265 ≤ j → (upd (upd (upd (upd σ (99 + 7 * l0 + 5) hI9) (99 + 7 * l0 + 6) (σ 0 + 1)) (183 + cA σ) lI) 4 (σ 4 + 1)) j = σ j := fun j hj => by rw [upd_ne (by omega), upd_ne (by omega), upd_ne (by omega), upd_ne (by omega)]
    refine r_given hR 1 rfl (by decide) (fun u hu => TxOk_same hsame (hT u hu)) (fun M rb hR hs => ?_)
    rw [givF_same hsame]
    refine ok_istore4 (pc := 104) dX12_comesTo_104 (by decide) rfl ?_
    refine ok_aload_n (pc := 106) dX12_comesTo_106 rfl ?_
    refine ok_getf (pc := 107) dX12_comesTo_107 fl_X12_9 hR.o rfl ?_
    refine ok_iconst (pc := 110) (v := 5) dX12_comesTo_110 (by decide) ?_
    refine ok_ldcw (pc := 111) (v := 999999) dX12_comesTo_111 tw_1492 ?_
    refine ok_aload_n (pc := 114) dX12_comesTo_114 rfl ?_
    refine ok_getf (pc := 115) dX12_comesTo_115 fl_X12_9 hR.o rfl ?_
    refine ok_iconst (pc := 118) (v := 5) dX12_comesTo_118 (by decide) ?_
    refine ok_iald (pc := 119) (5) dX12_comesTo_119 hR.a0 rfl (by decide) (by decide) ?_
    rw [upd_ne (show 5 ≠ 4 by omega), upd_ne (show 5 ≠ 183 + cA σ by omega), upd_ne (show 5 ≠ 99 + 7 * l0 + 6 by omega), upd_ne (show 5 ≠ 99 + 7 * l0 + 5 by omega)]
    refine ok_iload (pc := 120) dX12_comesTo_120 rfl ?_
    refine ok_iadd (pc := 122) dX12_comesTo_122 ?_
    refine ok_mmin (pc := 123) dX12_comesTo_123 tw_1327 rfl (by decide) ?_
    refine ok_rst0 (pc := 126) (5) dX12_comesTo_126 hR rfl (by decide) (fun M hR => ?_)
    refine ok_vret (pc := 127) dX12_comesTo_127 rfl ?_
    exact k _ _ hR (by first | exact hs | exact Sc.rf)
