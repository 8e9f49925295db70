set_option maxHeartbeats 1000000 in
theorem r_done {Γ : Cx} {G : Wd} {K : Int32 → Wd → Prop} {c x y : Int32} (k : K (opF c x y) G) : Spec Γ mX12_done 0 0 [.int c, .int x, .int y] G (ci K) := by
  refine spec_in [some (.int c), some (.int x), some (.int y)] 0 (by decide) rfl rfl ?_
  refine ok_iload_n (pc := 0) dX12_done_0 rfl ?_
  by_cases sw1_0 : c = 20000
  · refine ok_table (pc := 1) 52 dX12_done_1 (by rw [sw1_0]; decide) (by rw [sw1_0]; decide) (by rw [sw1_0]; rfl) (by decide) ?_
    refine ok_iload_n (pc := 52) dX12_done_52 rfl ?_
    refine ok_if_ne (pc := 53) 60 dX12_done_53 (by decide) (fun cc_53 => ?_) (fun cc_53 => ?_)
    · refine ok_iconst (pc := 60) (v := 1) dX12_done_60 (by decide) ?_
      refine ok_goto (pc := 61) 65 dX12_done_61 (by decide) ?_
      refine ok_iret (pc := 65) dX12_done_65 rfl ?_
      simpa [opF, sw1_0, cc_53] using k
    · refine ok_iload_n (pc := 56) dX12_done_56 rfl ?_
      refine ok_if_eq (pc := 57) 64 dX12_done_57 (by decide) (fun cc_57 => ?_) (fun cc_57 => ?_)
      · refine ok_iconst (pc := 64) (v := 0) dX12_done_64 (by decide) ?_
        refine ok_iret (pc := 65) dX12_done_65 rfl ?_
        simpa [opF, sw1_0, cc_53, cc_57] using k
      · refine ok_iconst (pc := 60) (v := 1) dX12_done_60 (by decide) ?_
        refine ok_goto (pc := 61) 65 dX12_done_61 (by decide) ?_
        refine ok_iret (pc := 65) dX12_done_65 rfl ?_
        simpa [opF, sw1_0, cc_53, cc_57] using k
  by_cases sw1_1 : c = 20001
  · refine ok_table (pc := 1) 66 dX12_done_1 (by rw [sw1_1]; decide) (by rw [sw1_1]; decide) (by rw [sw1_1]; rfl) (by decide) ?_
    refine ok_iload_n (pc := 66) dX12_done_66 rfl ?_
    refine ok_if_eq (pc := 67) 78 dX12_done_67 (by decide) (fun cc_67 => ?_) (fun cc_67 => ?_)
    · refine ok_iconst (pc := 78) (v := 0) dX12_done_78 (by decide) ?_
      refine ok_iret (pc := 79) dX12_done_79 rfl ?_
      simpa [opF, sw1_0, sw1_1, cc_67] using k
    · refine ok_iload_n (pc := 70) dX12_done_70 rfl ?_
      refine ok_if_eq (pc := 71) 78 dX12_done_71 (by decide) (fun cc_71 => ?_) (fun cc_71 => ?_)
      · refine ok_iconst (pc := 78) (v := 0) dX12_done_78 (by decide) ?_
        refine ok_iret (pc := 79) dX12_done_79 rfl ?_
        simpa [opF, sw1_0, sw1_1, cc_67, cc_71] using k
      · refine ok_iconst (pc := 74) (v := 1) dX12_done_74 (by decide) ?_
        refine ok_goto (pc := 75) 79 dX12_done_75 (by decide) ?_
        refine ok_iret (pc := 79) dX12_done_79 rfl ?_
        simpa [opF, sw1_0, sw1_1, cc_67, cc_71] using k
  by_cases sw1_2 : c = 20002
  · refine ok_table (pc := 1) 80 dX12_done_1 (by rw [sw1_2]; decide) (by rw [sw1_2]; decide) (by rw [sw1_2]; rfl) (by decide) ?_
    refine ok_iload_n (pc := 80) dX12_done_80 rfl ?_
    refine ok_iload_n (pc := 81) dX12_done_81 rfl ?_
    refine ok_icmp_ge (pc := 82) 89 dX12_done_82 (by decide) (fun cc_82 => ?_) (fun cc_82 => ?_)
    · have ce_82 := Int32.not_lt.mpr cc_82
      refine ok_iconst (pc := 89) (v := 0) dX12_done_89 (by decide) ?_
      refine ok_iret (pc := 90) dX12_done_90 rfl ?_
      simpa [opF, sw1_0, sw1_1, sw1_2, cc_82, ce_82] using k
    · have ce_82 := Int32.not_le.mp cc_82
      refine ok_iconst (pc := 85) (v := 1) dX12_done_85 (by decide) ?_
      refine ok_goto (pc := 86) 90 dX12_done_86 (by decide) ?_
      refine ok_iret (pc := 90) dX12_done_90 rfl ?_
      simpa [opF, sw1_0, sw1_1, sw1_2, cc_82, ce_82] using k
  by_cases sw1_3 : c = 20003
  · refine ok_table (pc := 1) 91 dX12_done_1 (by rw [sw1_3]; decide) (by rw [sw1_3]; decide) (by rw [sw1_3]; rfl) (by decide) ?_
    refine ok_iload_n (pc := 91) dX12_done_91 rfl ?_
    refine ok_iload_n (pc := 92) dX12_done_92 rfl ?_
    refine ok_icmp_ne (pc := 93) 100 dX12_done_93 (by decide) (fun cc_93 => ?_) (fun cc_93 => ?_)
    · refine ok_iconst (pc := 100) (v := 0) dX12_done_100 (by decide) ?_
      refine ok_iret (pc := 101) dX12_done_101 rfl ?_
      simpa [opF, sw1_0, sw1_1, sw1_2, sw1_3, cc_93] using k
    · refine ok_iconst (pc := 96) (v := 1) dX12_done_96 (by decide) ?_
      refine ok_goto (pc := 97) 101 dX12_done_97 (by decide) ?_
      refine ok_iret (pc := 101) dX12_done_101 rfl ?_
      simpa [opF, sw1_0, sw1_1, sw1_2, sw1_3, cc_93] using k
  by_cases sw1_4 : c = 20004
  · refine ok_table (pc := 1) 102 dX12_done_1 (by rw [sw1_4]; decide) (by rw [sw1_4]; decide) (by rw [sw1_4]; rfl) (by decide) ?_
    refine ok_iload_n (pc := 102) dX12_done_102 rfl ?_
    refine ok_iload_n (pc := 103) dX12_done_103 rfl ?_
    refine ok_icmp_le (pc := 104) 111 dX12_done_104 (by decide) (fun cc_104 => ?_) (fun cc_104 => ?_)
    · have ce_104 := Int32.not_lt.mpr cc_104
      refine ok_iconst (pc := 111) (v := 0) dX12_done_111 (by decide) ?_
      refine ok_iret (pc := 112) dX12_done_112 rfl ?_
      simpa [opF, sw1_0, sw1_1, sw1_2, sw1_3, sw1_4, cc_104, ce_104] using k
    · have ce_104 := Int32.not_le.mp cc_104
      refine ok_iconst (pc := 107) (v := 1) dX12_done_107 (by decide) ?_
      refine ok_goto (pc := 108) 112 dX12_done_108 (by decide) ?_
      refine ok_iret (pc := 112) dX12_done_112 rfl ?_
      simpa [opF, sw1_0, sw1_1, sw1_2, sw1_3, sw1_4, cc_104, ce_104] using k
  by_cases sw1_5 : c = 20005
  · refine ok_table (pc := 1) 113 dX12_done_1 (by rw [sw1_5]; decide) (by rw [sw1_5]; decide) (by rw [sw1_5]; rfl) (by decide) ?_
    refine ok_iload_n (pc := 113) dX12_done_113 rfl ?_
    refine ok_iload_n (pc := 114) dX12_done_114 rfl ?_
    refine ok_iadd (pc := 115) dX12_done_115 ?_
    refine ok_iret (pc := 116) dX12_done_116 rfl ?_
    simpa [opF, sw1_0, sw1_1, sw1_2, sw1_3, sw1_4, sw1_5] using k
  by_cases sw1_6 : c = 20006
  · refine ok_table (pc := 1) 117 dX12_done_1 (by rw [sw1_6]; decide) (by rw [sw1_6]; decide) (by rw [sw1_6]; rfl) (by decide) ?_
    refine ok_iload_n (pc := 117) dX12_done_117 rfl ?_
    refine ok_iload_n (pc := 118) dX12_done_118 rfl ?_
    refine ok_isub (pc := 119) dX12_done_119 ?_
    refine ok_iret (pc := 120) dX12_done_120 rfl ?_
    simpa [opF, sw1_0, sw1_1, sw1_2, sw1_3, sw1_4, sw1_5, sw1_6] using k
  by_cases sw1_7 : c = 20007
  · refine ok_table (pc := 1) 121 dX12_done_1 (by rw [sw1_7]; decide) (by rw [sw1_7]; decide) (by rw [sw1_7]; rfl) (by decide) ?_
    refine ok_iload_n (pc := 121) dX12_done_121 rfl ?_
    refine ok_iload_n (pc := 122) dX12_done_122 rfl ?_
    refine ok_imul (pc := 123) dX12_done_123 ?_
    refine ok_iret (pc := 124) dX12_done_124 rfl ?_
    simpa [opF, sw1_0, sw1_1, sw1_2, sw1_3, sw1_4, sw1_5, sw1_6, sw1_7] using k
  by_cases sw1_8 : c = 20008
  · refine ok_table (pc := 1) 125 dX12_done_1 (by rw [sw1_8]; decide) (by rw [sw1_8]; decide) (by rw [sw1_8]; rfl) (by decide) ?_
    refine ok_iload_n (pc := 125) dX12_done_125 rfl ?_
    refine ok_if_ne (pc := 126) 133 dX12_done_126 (by decide) (fun cc_126 => ?_) (fun cc_126 => ?_)
    · refine ok_iload_n (pc := 133) dX12_done_133 rfl ?_
      refine ok_iload_n (pc := 134) dX12_done_134 rfl ?_
      refine ok_idiv (pc := 135) dX12_done_135 cc_126 ?_
      refine ok_iret (pc := 136) dX12_done_136 rfl ?_
      simpa [opF, sw1_0, sw1_1, sw1_2, sw1_3, sw1_4, sw1_5, sw1_6, sw1_7, sw1_8, cc_126] using k
    · refine ok_iconst (pc := 129) (v := 0) dX12_done_129 (by decide) ?_
      refine ok_goto (pc := 130) 136 dX12_done_130 (by decide) ?_
      refine ok_iret (pc := 136) dX12_done_136 rfl ?_
      simpa [opF, sw1_0, sw1_1, sw1_2, sw1_3, sw1_4, sw1_5, sw1_6, sw1_7, sw1_8, cc_126] using k
  refine ok_tableOut (pc := 1) 137 dX12_done_1 (by have h := tab_out (20000) 9 (by decide) (by decide) (fun j hj => by match j, hj with | 0, _ => exact (fun h => sw1_0 (h.trans (by decide))) | 1, _ => exact (fun h => sw1_1 (h.trans (by decide))) | 2, _ => exact (fun h => sw1_2 (h.trans (by decide))) | 3, _ => exact (fun h => sw1_3 (h.trans (by decide))) | 4, _ => exact (fun h => sw1_4 (h.trans (by decide))) | 5, _ => exact (fun h => sw1_5 (h.trans (by decide))) | 6, _ => exact (fun h => sw1_6 (h.trans (by decide))) | 7, _ => exact (fun h => sw1_7 (h.trans (by decide))) | 8, _ => exact (fun h => sw1_8 (h.trans (by decide)))); exact h) (by decide) ?_
  refine ok_iload_n (pc := 137) dX12_done_137 rfl ?_
  refine ok_if_ne (pc := 138) 145 dX12_done_138 (by decide) (fun cc_138 => ?_) (fun cc_138 => ?_)
  · refine ok_iload_n (pc := 145) dX12_done_145 rfl ?_
    refine ok_iload_n (pc := 146) dX12_done_146 rfl ?_
    refine ok_irem (pc := 147) dX12_done_147 cc_138 ?_
    refine ok_iret (pc := 148) dX12_done_148 rfl ?_
    simpa [opF, sw1_0, sw1_1, sw1_2, sw1_3, sw1_4, sw1_5, sw1_6, sw1_7, sw1_8, cc_138] using k
  · refine ok_iconst (pc := 141) (v := 0) dX12_done_141 (by decide) ?_
    refine ok_goto (pc := 142) 148 dX12_done_142 (by decide) ?_
    refine ok_iret (pc := 148) dX12_done_148 rfl ?_
    simpa [opF, sw1_0, sw1_1, sw1_2, sw1_3, sw1_4, sw1_5, sw1_6, sw1_7, sw1_8, cc_138] using k

set_option maxHeartbeats 1000000 in
theorem l_worked {Γ : Cx} {m sz : Nat} {M0 : Nat → Option va_E} {σ κ : Rw} {ri : Nat → Int32} {ra : Nat → Nat → Int32} {K : Int32 → Wd → Prop} {fI : Int32} (fr n0 : Nat) (ef : fI = nI fr) (eN : σ (fr - 1) = nI n0) (hf : 1 ≤ fr) (hn : n0 ≤ 50) (hb : fr + n0 ≤ 369) (hw : wfT σ fr n0) (k : ∀ M' ra', RefX Γ m M0 σ κ ri ra' M' → (∀ s, s ≠ 15 → ra' s = ra s) → K ((wkP σ fr (ra 14) (ra 15) n0).2 0) (M', sz)) : ∀ (n : Nat) (j : Nat) (xk : Int32) (x2 : Int32) (M : Nat → Option va_E) (rb : Nat → Rw), j + n = n0 → xk = nI (fr + j) → x2 = nI (wkD σ fr j) → RefX Γ m M0 σ κ ri rb M → (∀ s, s ≠ 15 → rb s = ra s) → rb 15 = (wkP σ fr (ra 14) (ra 15) j).2 → Ok Γ mX12_worked 1 0 4 [some (.ref m), some (.int fI), some (.int x2), some (.int xk), none] [] (M, sz) (ci K) := by
  intro n
  induction n with
  | zero =>
    intro j xk x2 M rb h1 ek e2 hR hs e15
    refine ok_iload_n (pc := 4) dX12_worked_4 rfl ?_
    refine ok_iload_n (pc := 5) dX12_worked_5 rfl ?_
    refine ok_aload_n (pc := 6) dX12_worked_6 rfl ?_
    refine ok_getf (pc := 7) dX12_worked_7 fl_X12_9 hR.o rfl ?_
    refine ok_iload_n (pc := 10) dX12_worked_10 rfl ?_
    refine ok_iconst (pc := 11) (v := 1) dX12_worked_11 (by decide) ?_
    refine ok_isub (pc := 12) dX12_worked_12 ?_
    refine ok_iald (pc := 13) (fr - 1) dX12_worked_13 hR.a0 (by rw [ef, fa_lit 1, pk_sub (by omega)]) (by omega) (by decide) ?_
    refine ok_iadd (pc := 14) dX12_worked_14 ?_
    refine ok_icmp_ge (pc := 15) 141 dX12_worked_15 (by decide) (fun cc_15 => ?_) (fun cc_15 => ?_)
    · have ce_15 := Int32.not_lt.mpr cc_15
      have en : j = n0 := by omega
      subst en
      refine ok_aload_n (pc := 141) dX12_worked_141 rfl ?_
      refine ok_getf (pc := 142) dX12_worked_142 fl_X12_44 hR.o rfl ?_
      refine ok_iconst (pc := 145) (v := 0) dX12_worked_145 (by decide) ?_
      refine ok_iald (pc := 146) (0) dX12_worked_146 hR.a15 rfl (by decide) (by decide) ?_
      refine ok_iret (pc := 147) dX12_worked_147 rfl ?_
      have ee := k _ _ hR hs
      rw [← e15] at ee
      exact ee
    · exact absurd (by rw [ef, ek, eN, nI_add]; exact nI_le (by omega) (by omega)) cc_15
  | succ n ih =>
    intro j xk x2 M rb h1 ek e2 hR hs e15
    refine ok_iload_n (pc := 4) dX12_worked_4 rfl ?_
    refine ok_iload_n (pc := 5) dX12_worked_5 rfl ?_
    refine ok_aload_n (pc := 6) dX12_worked_6 rfl ?_
    refine ok_getf (pc := 7) dX12_worked_7 fl_X12_9 hR.o rfl ?_
    refine ok_iload_n (pc := 10) dX12_worked_10 rfl ?_
    refine ok_iconst (pc := 11) (v := 1) dX12_worked_11 (by decide) ?_
    refine ok_isub (pc := 12) dX12_worked_12 ?_
    refine ok_iald (pc := 13) (fr - 1) dX12_worked_13 hR.a0 (by rw [ef, fa_lit 1, pk_sub (by omega)]) (by omega) (by decide) ?_
    refine ok_iadd (pc := 14) dX12_worked_14 ?_
    refine ok_icmp_ge (pc := 15) 141 dX12_worked_15 (by decide) (fun cc_15 => ?_) (fun cc_15 => ?_)
    · exact absurd (by rw [ef, ek, eN, nI_add] at cc_15; exact cc_15) (nI_ge (by omega) (by omega))
    · have ce_15 := Int32.not_le.mp cc_15
      have hdj := wkD_le σ fr j
      obtain ⟨w1, w2, w3⟩ := hw j (by omega)
      refine ok_aload_n (pc := 18) dX12_worked_18 rfl ?_
      refine ok_getf (pc := 19) dX12_worked_19 fl_X12_9 hR.o rfl ?_
      refine ok_iload_n (pc := 22) dX12_worked_22 rfl ?_
      refine ok_iald (pc := 23) (fr + j) dX12_worked_23 hR.a0 ek (by omega) (by decide) ?_
      refine ok_istore4 (pc := 24) dX12_worked_24 (by decide) rfl ?_
      refine ok_iload (pc := 26) dX12_worked_26 rfl ?_
      refine ok_sipush (pc := 28) (v := 20000) dX12_worked_28 (by decide) ?_
      refine ok_icmp_ge (pc := 31) 70 dX12_worked_31 (by decide) (fun cc_31 => ?_) (fun cc_31 => ?_)
      · have ce_31 := Int32.not_lt.mpr cc_31
        refine ok_iload (pc := 70) dX12_worked_70 rfl ?_
        refine ok_sipush (pc := 72) (v := 20010) dX12_worked_72 (by decide) ?_
        refine ok_icmp_ne (pc := 75) 105 dX12_worked_75 (by decide) (fun cc_75 => ?_) (fun cc_75 => ?_)
        · have h2d := w3 cc_31 cc_75
          have e2a : x2 + -1 = nI (wkD σ fr j - 1) := by rw [e2, show (-1 : Int32) = -(nI 1) from rfl, ← Int32.sub_eq_add_neg, pk_sub (by omega)]
          have e2b : x2 + -1 - 1 = nI (wkD σ fr j - 2) := by rw [e2a, fa_lit 1, pk_sub (by omega), Nat.sub_sub]
          refine ok_iinc2 (pc := 105) (v := -1) dX12_worked_105 (by decide) (by decide) rfl ?_
          refine ok_aload_n (pc := 108) dX12_worked_108 rfl ?_
          refine ok_getf (pc := 109) dX12_worked_109 fl_X12_44 hR.o rfl ?_
          refine ok_iload_n (pc := 112) dX12_worked_112 rfl ?_
          refine ok_iconst (pc := 113) (v := 1) dX12_worked_113 (by decide) ?_
          refine ok_isub (pc := 114) dX12_worked_114 ?_
          refine ok_iload (pc := 115) dX12_worked_115 rfl ?_
          refine ok_aload_n (pc := 117) dX12_worked_117 rfl ?_
          refine ok_getf (pc := 118) dX12_worked_118 fl_X12_44 hR.o rfl ?_
          refine ok_iload_n (pc := 121) dX12_worked_121 rfl ?_
          refine ok_iconst (pc := 122) (v := 1) dX12_worked_122 (by decide) ?_
          refine ok_isub (pc := 123) dX12_worked_123 ?_
          refine ok_iald (pc := 124) (wkD σ fr j - 2) dX12_worked_124 hR.a15 e2b (by omega) (by decide) ?_
          refine ok_aload_n (pc := 125) dX12_worked_125 rfl ?_
          refine ok_getf (pc := 126) dX12_worked_126 fl_X12_44 hR.o rfl ?_
          refine ok_iload_n (pc := 129) dX12_worked_129 rfl ?_
          refine ok_iald (pc := 130) (wkD σ fr j - 1) dX12_worked_130 hR.a15 e2a (by omega) (by decide) ?_
          refine ok_callSi3 (pc := 131) (d' := 0) dX12_worked_131 sl_X12_220 rfl (by decide) ?_
          refine r_done ?_
          refine ok_rst15 (pc := 134) (wkD σ fr j - 2) dX12_worked_134 hR e2b (by omega) (fun M hR => ?_)
          refine ok_iinc3 (pc := 135) (v := 1) dX12_worked_135 (by decide) (by decide) rfl ?_
          refine ok_goto (pc := 138) 4 dX12_worked_138 (by decide) ?_
          refine ok_drop4 ?_
          exact ih (j + 1) _ _ _ _ (by omega) (by rw [ek]; exact nI_1 _) (by rw [show wkD σ fr (j + 1) = wkD σ fr j - 1 by simp only [wkD, if_neg ce_31, if_neg cc_75]]; exact e2a) hR (fun s hs9 => by rw [vup_ne hs9]; exact hs s hs9) (by rw [vup_eq]; rw [e15]; simp only [wkP, if_neg ce_31, if_neg cc_75, wkP_d])
        · have h1d := w2 cc_75
          refine ok_aload_n (pc := 78) dX12_worked_78 rfl ?_
          refine ok_getf (pc := 79) dX12_worked_79 fl_X12_44 hR.o rfl ?_
          refine ok_iload_n (pc := 82) dX12_worked_82 rfl ?_
          refine ok_iconst (pc := 83) (v := 1) dX12_worked_83 (by decide) ?_
          refine ok_isub (pc := 84) dX12_worked_84 ?_
          refine ok_aload_n (pc := 85) dX12_worked_85 rfl ?_
          refine ok_getf (pc := 86) dX12_worked_86 fl_X12_44 hR.o rfl ?_
          refine ok_iload_n (pc := 89) dX12_worked_89 rfl ?_
          refine ok_iconst (pc := 90) (v := 1) dX12_worked_90 (by decide) ?_
          refine ok_isub (pc := 91) dX12_worked_91 ?_
          refine ok_iald (pc := 92) (wkD σ fr j - 1) dX12_worked_92 hR.a15 (by rw [e2, fa_lit 1, pk_sub (by omega)]) (by omega) (by decide) ?_
          refine ok_if_ne (pc := 93) 100 dX12_worked_93 (by decide) (fun cc_93 => ?_) (fun cc_93 => ?_)
          · refine ok_iconst (pc := 100) (v := 0) dX12_worked_100 (by decide) ?_
            refine ok_rst15 (pc := 101) (wkD σ fr j - 1) dX12_worked_101 hR (by rw [e2, fa_lit 1, pk_sub (by omega)]) (by omega) (fun M hR => ?_)
            refine ok_goto (pc := 102) 135 dX12_worked_102 (by decide) ?_
            refine ok_iinc3 (pc := 135) (v := 1) dX12_worked_135 (by decide) (by decide) rfl ?_
            refine ok_goto (pc := 138) 4 dX12_worked_138 (by decide) ?_
            refine ok_drop4 ?_
            exact ih (j + 1) _ _ _ _ (by omega) (by rw [ek]; exact nI_1 _) (by rw [show wkD σ fr (j + 1) = wkD σ fr j by simp only [wkD, if_neg ce_31, if_pos cc_75], e2]) hR (fun s hs9 => by rw [vup_ne hs9]; exact hs s hs9) (by rw [vup_eq]; rw [e15] at cc_93 ⊢; simp only [wkP, if_neg ce_31, if_pos cc_75, wkP_d, if_neg cc_93])
          · refine ok_iconst (pc := 96) (v := 1) dX12_worked_96 (by decide) ?_
            refine ok_goto (pc := 97) 101 dX12_worked_97 (by decide) ?_
            refine ok_rst15 (pc := 101) (wkD σ fr j - 1) dX12_worked_101 hR (by rw [e2, fa_lit 1, pk_sub (by omega)]) (by omega) (fun M hR => ?_)
            refine ok_goto (pc := 102) 135 dX12_worked_102 (by decide) ?_
            refine ok_iinc3 (pc := 135) (v := 1) dX12_worked_135 (by decide) (by decide) rfl ?_
            refine ok_goto (pc := 138) 4 dX12_worked_138 (by decide) ?_
            refine ok_drop4 ?_
            exact ih (j + 1) _ _ _ _ (by omega) (by rw [ek]; exact nI_1 _) (by rw [show wkD σ fr (j + 1) = wkD σ fr j by simp only [wkD, if_neg ce_31, if_pos cc_75], e2]) hR (fun s hs9 => by rw [vup_ne hs9]; exact hs s hs9) (by rw [vup_eq]; rw [e15] at cc_93 ⊢; simp only [wkP, if_neg ce_31, if_pos cc_75, wkP_d, if_pos cc_93])
      · have ce_31 := Int32.not_le.mp cc_31
        refine ok_aload_n (pc := 34) dX12_worked_34 rfl ?_
        refine ok_getf (pc := 35) dX12_worked_35 fl_X12_44 hR.o rfl ?_
        refine ok_iload_n (pc := 38) dX12_worked_38 rfl ?_
        refine ok_iload (pc := 39) dX12_worked_39 rfl ?_
        refine ok_sipush (pc := 41) (v := 10000) dX12_worked_41 (by decide) ?_
        refine ok_icmp_ge (pc := 44) 52 dX12_worked_44 (by decide) (fun cc_44 => ?_) (fun cc_44 => ?_)
        · have ce_44 := Int32.not_lt.mpr cc_44
          have hix := idx_lo (n := 10000) (by decide) 4 (by decide) (by decide) cc_44 (w1 ce_31).2
          refine ok_aload_n (pc := 52) dX12_worked_52 rfl ?_
          refine ok_getf (pc := 53) dX12_worked_53 fl_X12_41 hR.o rfl ?_
          refine ok_iload (pc := 56) dX12_worked_56 rfl ?_
          refine ok_sipush (pc := 58) (v := 10000) dX12_worked_58 (by decide) ?_
          refine ok_isub (pc := 61) dX12_worked_61 ?_
          refine ok_iald (pc := 62) ((σ (fr + j) - 10000).toNatClampNeg) dX12_worked_62 hR.a14 hix.1 hix.2 (by decide) ?_
          refine ok_rst15 (pc := 63) (wkD σ fr j) dX12_worked_63 hR e2 (by omega) (fun M hR => ?_)
          refine ok_iinc2 (pc := 64) (v := 1) dX12_worked_64 (by decide) (by decide) rfl ?_
          refine ok_goto (pc := 67) 135 dX12_worked_67 (by decide) ?_
          refine ok_iinc3 (pc := 135) (v := 1) dX12_worked_135 (by decide) (by decide) rfl ?_
          refine ok_goto (pc := 138) 4 dX12_worked_138 (by decide) ?_
          refine ok_drop4 ?_
          exact ih (j + 1) _ _ _ _ (by omega) (by rw [ek]; exact nI_1 _) (by rw [show wkD σ fr (j + 1) = wkD σ fr j + 1 by simp only [wkD, if_pos ce_31], e2, nI_1]) hR (fun s hs9 => by rw [vup_ne hs9]; exact hs s hs9) (by rw [vup_eq]; rw [e15, hs 14 (by decide)]; simp only [wkP, if_pos ce_31, if_neg ce_44, wkP_d])
        · have ce_44 := Int32.not_le.mp cc_44
          refine ok_iload (pc := 47) dX12_worked_47 rfl ?_
          refine ok_goto (pc := 49) 63 dX12_worked_49 (by decide) ?_
          refine ok_rst15 (pc := 63) (wkD σ fr j) dX12_worked_63 hR e2 (by omega) (fun M hR => ?_)
          refine ok_iinc2 (pc := 64) (v := 1) dX12_worked_64 (by decide) (by decide) rfl ?_
          refine ok_goto (pc := 67) 135 dX12_worked_67 (by decide) ?_
          refine ok_iinc3 (pc := 135) (v := 1) dX12_worked_135 (by decide) (by decide) rfl ?_
          refine ok_goto (pc := 138) 4 dX12_worked_138 (by decide) ?_
          refine ok_drop4 ?_
          exact ih (j + 1) _ _ _ _ (by omega) (by rw [ek]; exact nI_1 _) (by rw [show wkD σ fr (j + 1) = wkD σ fr j + 1 by simp only [wkD, if_pos ce_31], e2, nI_1]) hR (fun s hs9 => by rw [vup_ne hs9]; exact hs s hs9) (by rw [vup_eq]; rw [e15]; simp only [wkP, if_pos ce_31, if_pos ce_44, wkP_d])

set_option maxHeartbeats 1000000 in
theorem r_worked {Γ : Cx} {m sz : Nat} {M0 M : Nat → Option va_E} {σ κ : Rw} {ri : Nat → Int32} {ra : Nat → Nat → Int32} {K : Int32 → Wd → Prop} (hR : RefX Γ m M0 σ κ ri ra M) {fI : Int32} (fr n0 : Nat) (ef : fI = nI fr) (eN : σ (fr - 1) = nI n0) (hf : 1 ≤ fr) (hn : n0 ≤ 50) (hb : fr + n0 ≤ 369) (hw : wfT σ fr n0) (k : ∀ M' ra', RefX Γ m M0 σ κ ri ra' M' → (∀ s, s ≠ 15 → ra' s = ra s) → K ((wkP σ fr (ra 14) (ra 15) n0).2 0) (M', sz)) : Spec Γ mX12_worked 1 0 [.ref m, .int fI] (M, sz) (ci K) := by
  refine spec_in [some (.ref m), some (.int fI), none, none, none] 3 (by decide) rfl rfl ?_
  refine ok_iconst (pc := 0) (v := 0) dX12_worked_0 (by decide) ?_
  refine ok_istore_n2 (pc := 1) dX12_worked_1 (by decide) rfl ?_
  refine ok_iload_n (pc := 2) dX12_worked_2 rfl ?_
  refine ok_istore_n3 (pc := 3) dX12_worked_3 (by decide) rfl ?_
  exact l_worked fr n0 ef eN hf hn hb hw k n0 0 _ _ M ra (by omega) (by rw [ef]; rfl) rfl hR (fun _ _ => rfl) rfl
