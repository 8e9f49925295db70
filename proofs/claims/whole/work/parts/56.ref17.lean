set_option maxHeartbeats 1000000 in
theorem r_letter {Γ : Cx} {m sz : Nat} {M0 M : Nat → Option va_E} {σ κ vi : Rw} {va : Nat → Rw} {K : Int32 → Wd → Prop} (hW : RefW Γ m M0 σ κ vi va M) (hI : Inv σ) {x y z w : Int32} (k : ∀ M', RefW Γ m M0 (op_letter σ x y z w).2.2 κ vi (eU va (op_letter σ x y z w).1) M' → K (op_letter σ x y z w).2.1 (M', sz)) : Spec Γ mX12_letter 2 0 [.ref m, .int x, .int y, .int z, .int w] (M, sz) (ci K) := by
  obtain ⟨ri, ra, hR, hv, hw⟩ := hW
  obtain ⟨⟨⟨eH, lH⟩, ⟨eK, lK⟩, ⟨eL, lL⟩, ⟨eA, lA⟩, ⟨eT, lT⟩⟩, iK, iH, iW, iL, iO, iB, hT⟩ := id hI
  
  refine spec_in [some (.ref m), some (.int x), some (.int y), some (.int z), some (.int w), none, none, none] 3 (by decide) rfl rfl ?_
  refine ok_aload_n (pc := 0) dX12_letter_0 rfl ?_
  refine ok_iload_n (pc := 1) dX12_letter_1 rfl ?_
  refine ok_iconst (pc := 2) (v := 1) dX12_letter_2 (by decide) ?_
  refine ok_callVi2 (pc := 3) (d' := 1) dX12_letter_3 vl_X12_100 hR.o rfl rfl rfl (by decide) ?_
  refine r_is hR 1 rfl (by decide) ?_
  refine ok_if_eq (pc := 6) 53 dX12_letter_6 (by decide) (fun cc_6 => ?_) (fun cc_6 => ?_)
  · have cq_6 := bI_0.mp cc_6
    refine ok_iconst (pc := 53) (v := 0) dX12_letter_53 (by decide) ?_
    refine ok_istore5 (pc := 54) dX12_letter_54 (by decide) rfl ?_
    refine ok_iload (pc := 56) dX12_letter_56 rfl ?_
    refine ok_if_ne (pc := 58) 68 dX12_letter_58 (by decide) (fun cc_58 => ?_) (fun cc_58 => ?_)
    · refine ok_aload_n (pc := 68) dX12_letter_68 rfl ?_
      refine ok_getf (pc := 69) dX12_letter_69 fl_X12_9 hR.o rfl ?_
      refine ok_iconst (pc := 72) (v := 3) dX12_letter_72 (by decide) ?_
      refine ok_iald (pc := 73) (3) dX12_letter_73 hR.a0 rfl (by decide) (by decide) ?_
      refine ok_istore6 (pc := 74) dX12_letter_74 (by decide) rfl ?_
      refine ok_iload (pc := 76) dX12_letter_76 rfl ?_
      refine ok_bipush (pc := 78) (v := 12) dX12_letter_78 (by decide) ?_
      refine ok_icmp_ne (pc := 80) 90 dX12_letter_80 (by decide) (fun cc_80 => ?_) (fun cc_80 => ?_)
      · have l12 : cL σ < 12 := by have h9 : cL σ ≠ 12 := (fun h9 => cc_80 (by rw [eL, h9]; rfl)); omega
        refine ok_bipush (pc := 90) (v := 99) dX12_letter_90 (by decide) ?_
        refine ok_bipush (pc := 92) (v := 7) dX12_letter_92 (by decide) ?_
        refine ok_iload (pc := 94) dX12_letter_94 rfl ?_
        refine ok_imul (pc := 96) dX12_letter_96 ?_
        refine ok_iadd (pc := 97) dX12_letter_97 ?_
        refine ok_istore7 (pc := 98) dX12_letter_98 (by decide) rfl ?_
        refine ok_aload_n (pc := 100) dX12_letter_100 rfl ?_
        refine ok_getf (pc := 101) dX12_letter_101 fl_X12_9 hR.o rfl ?_
        refine ok_iload (pc := 104) dX12_letter_104 rfl ?_
        refine ok_iconst (pc := 106) (v := 0) dX12_letter_106 (by decide) ?_
        refine ok_iadd (pc := 107) dX12_letter_107 ?_
        refine ok_iload_n (pc := 108) dX12_letter_108 rfl ?_
        refine ok_rst0 (pc := 109) (99 + 7 * cL σ) dX12_letter_109 hR (by simp only [eL, Nat.add_zero, fa_lit, pk_mul, nI_add]) (by omega) (fun M hR => ?_)
        refine ok_aload_n (pc := 110) dX12_letter_110 rfl ?_
        refine ok_getf (pc := 111) dX12_letter_111 fl_X12_9 hR.o rfl ?_
        refine ok_iload (pc := 114) dX12_letter_114 rfl ?_
        refine ok_iconst (pc := 116) (v := 1) dX12_letter_116 (by decide) ?_
        refine ok_iadd (pc := 117) dX12_letter_117 ?_
        refine ok_iload_n (pc := 118) dX12_letter_118 rfl ?_
        refine ok_rst0 (pc := 119) (99 + 7 * cL σ + 1) dX12_letter_119 hR (by simp only [eL, fa_lit, pk_mul, nI_add]) (by omega) (fun M hR => ?_)
        refine ok_aload_n (pc := 120) dX12_letter_120 rfl ?_
        refine ok_getf (pc := 121) dX12_letter_121 fl_X12_9 hR.o rfl ?_
        refine ok_iload (pc := 124) dX12_letter_124 rfl ?_
        refine ok_iconst (pc := 126) (v := 2) dX12_letter_126 (by decide) ?_
        refine ok_iadd (pc := 127) dX12_letter_127 ?_
        refine ok_iload_n (pc := 128) dX12_letter_128 rfl ?_
        refine ok_rst0 (pc := 129) (99 + 7 * cL σ + 2) dX12_letter_129 hR (by simp only [eL, fa_lit, pk_mul, nI_add]) (by omega) (fun M hR => ?_)
        refine ok_aload_n (pc := 130) dX12_letter_130 rfl ?_
        refine ok_getf (pc := 131) dX12_letter_131 fl_X12_9 hR.o rfl ?_
        refine ok_iload (pc := 134) dX12_letter_134 rfl ?_
        refine ok_iconst (pc := 136) (v := 3) dX12_letter_136 (by decide) ?_
        refine ok_iadd (pc := 137) dX12_letter_137 ?_
        refine ok_iload (pc := 138) dX12_letter_138 rfl ?_
        refine ok_rst0 (pc := 140) (99 + 7 * cL σ + 3) dX12_letter_140 hR (by simp only [eL, fa_lit, pk_mul, nI_add]) (by omega) (fun M hR => ?_)
        refine ok_aload_n (pc := 141) dX12_letter_141 rfl ?_
        refine ok_getf (pc := 142) dX12_letter_142 fl_X12_9 hR.o rfl ?_
        refine ok_iload (pc := 145) dX12_letter_145 rfl ?_
        refine ok_iconst (pc := 147) (v := 4) dX12_letter_147 (by decide) ?_
        refine ok_iadd (pc := 148) dX12_letter_148 ?_
        refine ok_aload_n (pc := 149) dX12_letter_149 rfl ?_
        refine ok_getf (pc := 150) dX12_letter_150 fl_X12_9 hR.o rfl ?_
        refine ok_iconst (pc := 153) (v := 0) dX12_letter_153 (by decide) ?_
        refine ok_iald (pc := 154) (0) dX12_letter_154 hR.a0 rfl (by decide) (by decide) ?_
        rw [upd_ne (show 0 ≠ 99 + 7 * cL σ + 3 by omega), upd_ne (show 0 ≠ 99 + 7 * cL σ + 2 by omega), upd_ne (show 0 ≠ 99 + 7 * cL σ + 1 by omega), upd_ne (show 0 ≠ 99 + 7 * cL σ by omega)]
        refine ok_rst0 (pc := 155) (99 + 7 * cL σ + 4) dX12_letter_155 hR (by simp only [eL, fa_lit, pk_mul, nI_add]) (by omega) (fun M hR => ?_)
        refine ok_aload_n (pc := 156) dX12_letter_156 rfl ?_
        refine ok_getf (pc := 157) dX12_letter_157 fl_X12_9 hR.o rfl ?_
        refine ok_iload (pc := 160) dX12_letter_160 rfl ?_
        refine ok_iconst (pc := 162) (v := 5) dX12_letter_162 (by decide) ?_
        refine ok_iadd (pc := 163) dX12_letter_163 ?_
        refine ok_iload_n (pc := 164) dX12_letter_164 rfl ?_
        refine ok_rst0 (pc := 165) (99 + 7 * cL σ + 5) dX12_letter_165 hR (by simp only [eL, fa_lit, pk_mul, nI_add]) (by omega) (fun M hR => ?_)
        refine ok_aload_n (pc := 166) dX12_letter_166 rfl ?_
        refine ok_getf (pc := 167) dX12_letter_167 fl_X12_9 hR.o rfl ?_
        refine ok_iload (pc := 170) dX12_letter_170 rfl ?_
        refine ok_bipush (pc := 172) (v := 6) dX12_letter_172 (by decide) ?_
        refine ok_iadd (pc := 174) dX12_letter_174 ?_
        refine ok_iconst (pc := 175) (v := -1) dX12_letter_175 (by decide) ?_
        refine ok_rst0 (pc := 176) (99 + 7 * cL σ + 6) dX12_letter_176 hR (by simp only [eL, fa_lit, pk_mul, nI_add]) (by omega) (fun M hR => ?_)
        refine ok_aload_n (pc := 177) dX12_letter_177 rfl ?_
        refine ok_getf (pc := 178) dX12_letter_178 fl_X12_9 hR.o rfl ?_
        refine ok_iconst (pc := 181) (v := 3) dX12_letter_181 (by decide) ?_
        refine ok_dup2 (pc := 182) dX12_letter_182 rfl rfl ?_
        refine ok_iald (pc := 183) (3) dX12_letter_183 hR.a0 rfl (by decide) (by decide) ?_
        refine ok_iconst (pc := 184) (v := 1) dX12_letter_184 (by decide) ?_
        refine ok_iadd (pc := 185) dX12_letter_185 ?_
        refine ok_rst0 (pc := 186) (3) dX12_letter_186 hR rfl (by decide) (fun M hR => ?_)
        refine ok_iload (pc := 187) dX12_letter_187 rfl ?_
        refine ok_iret (pc := 189) dX12_letter_189 rfl ?_
        have e3_ : (upd (upd (upd (upd (upd (upd (upd σ (99 + 7 * cL σ) x) (99 + 7 * cL σ + 1) y) (99 + 7 * cL σ + 2) z) (99 + 7 * cL σ + 3) w) (99 + 7 * cL σ + 4) (σ 0)) (99 + 7 * cL σ + 5) x) (99 + 7 * cL σ + 6) (-1)) 3 = σ 3 := by rw [upd_ne (by omega), upd_ne (by omega), upd_ne (by omega), upd_ne (by omega), upd_ne (by omega), upd_ne (by omega), upd_ne (by omega)]
        first
          | exact absurd rfl cc_58
          | (have hc : (wi x 0 (σ 1 - 1) && wi y 0 (σ 1 - 1) && !(decide (x = y)) && wi z 0 30 && (decide (w = -1) || wi w 0 (σ 3 - 1))) = true := by first | (simp [cq_6, cq_15, cc_20, cq_30, cq_46]; done) | (simp [cq_6, cq_15, cc_20, cq_30, cc_36]; done)
             have eo : op_letter σ x y z w = ((0, nI (cL σ), letF σ (cL σ) x y z w) : Op3) := by
               unfold op_letter
               rw [if_pos hc, if_neg cc_80]
             rw [eo] at k
             rw [e3_] at hR
             rw [eL]
             exact k _ (RefW.ok hR hv hw))
      · refine ok_aload_n (pc := 83) dX12_letter_83 rfl ?_
        refine ok_ldc (pc := 84) (v := -1000000004) dX12_letter_84 tw_1216 ?_
        refine ok_callVi1 (pc := 86) (d' := 0) dX12_letter_86 vl_X12_84 hR.o rfl rfl rfl (by decide) ?_
        refine r_finding hR 4 (by decide) (by decide) (fun M hR => ?_)
        refine ok_iret (pc := 89) dX12_letter_89 rfl ?_
        first
          | exact absurd rfl cc_58
          | (have hc : (wi x 0 (σ 1 - 1) && wi y 0 (σ 1 - 1) && !(decide (x = y)) && wi z 0 30 && (decide (w = -1) || wi w 0 (σ 3 - 1))) = true := by first | (simp [cq_6, cq_15, cc_20, cq_30, cq_46]; done) | (simp [cq_6, cq_15, cc_20, cq_30, cc_36]; done)
             have eo : op_letter σ x y z w = ((4, -1000000004, σ) : Op3) := by
               unfold op_letter
               rw [if_pos hc, if_pos cc_80]
               rfl
             rw [eo] at k
             exact k _ (RefW.err 4 (by decide) hR hv hw))
    · refine ok_aload_n (pc := 61) dX12_letter_61 rfl ?_
      refine ok_ldc (pc := 62) (v := -1000000001) dX12_letter_62 tw_1205 ?_
      refine ok_callVi1 (pc := 64) (d' := 0) dX12_letter_64 vl_X12_84 hR.o rfl rfl rfl (by decide) ?_
      refine r_finding hR 1 (by decide) (by decide) (fun M hR => ?_)
      refine ok_iret (pc := 67) dX12_letter_67 rfl ?_
      first
        | exact absurd cc_58 (by decide)
        | (have eo : op_letter σ x y z w = ((1, -1000000001, σ) : Op3) := by simp [op_letter, e3, cq_6, cc_58]; try decide
           rw [eo] at k
           exact k _ (RefW.err 1 (by decide) hR hv hw))
  · have cq_6 := bI_n0.mp cc_6
    refine ok_aload_n (pc := 9) dX12_letter_9 rfl ?_
    refine ok_iload_n (pc := 10) dX12_letter_10 rfl ?_
    refine ok_iconst (pc := 11) (v := 1) dX12_letter_11 (by decide) ?_
    refine ok_callVi2 (pc := 12) (d' := 1) dX12_letter_12 vl_X12_100 hR.o rfl rfl rfl (by decide) ?_
    refine r_is hR 1 rfl (by decide) ?_
    refine ok_if_eq (pc := 15) 53 dX12_letter_15 (by decide) (fun cc_15 => ?_) (fun cc_15 => ?_)
    · have cq_15 := bI_0.mp cc_15
      refine ok_iconst (pc := 53) (v := 0) dX12_letter_53 (by decide) ?_
      refine ok_istore5 (pc := 54) dX12_letter_54 (by decide) rfl ?_
      refine ok_iload (pc := 56) dX12_letter_56 rfl ?_
      refine ok_if_ne (pc := 58) 68 dX12_letter_58 (by decide) (fun cc_58 => ?_) (fun cc_58 => ?_)
      · refine ok_aload_n (pc := 68) dX12_letter_68 rfl ?_
        refine ok_getf (pc := 69) dX12_letter_69 fl_X12_9 hR.o rfl ?_
        refine ok_iconst (pc := 72) (v := 3) dX12_letter_72 (by decide) ?_
        refine ok_iald (pc := 73) (3) dX12_letter_73 hR.a0 rfl (by decide) (by decide) ?_
        refine ok_istore6 (pc := 74) dX12_letter_74 (by decide) rfl ?_
        refine ok_iload (pc := 76) dX12_letter_76 rfl ?_
        refine ok_bipush (pc := 78) (v := 12) dX12_letter_78 (by decide) ?_
        refine ok_icmp_ne (pc := 80) 90 dX12_letter_80 (by decide) (fun cc_80 => ?_) (fun cc_80 => ?_)
        · have l12 : cL σ < 12 := by have h9 : cL σ ≠ 12 := (fun h9 => cc_80 (by rw [eL, h9]; rfl)); omega
          refine ok_bipush (pc := 90) (v := 99) dX12_letter_90 (by decide) ?_
          refine ok_bipush (pc := 92) (v := 7) dX12_letter_92 (by decide) ?_
          refine ok_iload (pc := 94) dX12_letter_94 rfl ?_
          refine ok_imul (pc := 96) dX12_letter_96 ?_
          refine ok_iadd (pc := 97) dX12_letter_97 ?_
          refine ok_istore7 (pc := 98) dX12_letter_98 (by decide) rfl ?_
          refine ok_aload_n (pc := 100) dX12_letter_100 rfl ?_
          refine ok_getf (pc := 101) dX12_letter_101 fl_X12_9 hR.o rfl ?_
          refine ok_iload (pc := 104) dX12_letter_104 rfl ?_
          refine ok_iconst (pc := 106) (v := 0) dX12_letter_106 (by decide) ?_
          refine ok_iadd (pc := 107) dX12_letter_107 ?_
          refine ok_iload_n (pc := 108) dX12_letter_108 rfl ?_
          refine ok_rst0 (pc := 109) (99 + 7 * cL σ) dX12_letter_109 hR (by simp only [eL, Nat.add_zero, fa_lit, pk_mul, nI_add]) (by omega) (fun M hR => ?_)
          refine ok_aload_n (pc := 110) dX12_letter_110 rfl ?_
          refine ok_getf (pc := 111) dX12_letter_111 fl_X12_9 hR.o rfl ?_
          refine ok_iload (pc := 114) dX12_letter_114 rfl ?_
          refine ok_iconst (pc := 116) (v := 1) dX12_letter_116 (by decide) ?_
          refine ok_iadd (pc := 117) dX12_letter_117 ?_
          refine ok_iload_n (pc := 118) dX12_letter_118 rfl ?_
          refine ok_rst0 (pc := 119) (99 + 7 * cL σ + 1) dX12_letter_119 hR (by simp only [eL, fa_lit, pk_mul, nI_add]) (by omega) (fun M hR => ?_)
          refine ok_aload_n (pc := 120) dX12_letter_120 rfl ?_
          refine ok_getf (pc := 121) dX12_letter_121 fl_X12_9 hR.o rfl ?_
          refine ok_iload (pc := 124) dX12_letter_124 rfl ?_
          refine ok_iconst (pc := 126) (v := 2) dX12_letter_126 (by decide) ?_
          refine ok_iadd (pc := 127) dX12_letter_127 ?_
          refine ok_iload_n (pc := 128) dX12_letter_128 rfl ?_
          refine ok_rst0 (pc := 129) (99 + 7 * cL σ + 2) dX12_letter_129 hR (by simp only [eL, fa_lit, pk_mul, nI_add]) (by omega) (fun M hR => ?_)
          refine ok_aload_n (pc := 130) dX12_letter_130 rfl ?_
          refine ok_getf (pc := 131) dX12_letter_131 fl_X12_9 hR.o rfl ?_
          refine ok_iload (pc := 134) dX12_letter_134 rfl ?_
          refine ok_iconst (pc := 136) (v := 3) dX12_letter_136 (by decide) ?_
          refine ok_iadd (pc := 137) dX12_letter_137 ?_
          refine ok_iload (pc := 138) dX12_letter_138 rfl ?_
          refine ok_rst0 (pc := 140) (99 + 7 * cL σ + 3) dX12_letter_140 hR (by simp only [eL, fa_lit, pk_mul, nI_add]) (by omega) (fun M hR => ?_)
          refine ok_aload_n (pc := 141) dX12_letter_141 rfl ?_
          refine ok_getf (pc := 142) dX12_letter_142 fl_X12_9 hR.o rfl ?_
          refine ok_iload (pc := 145) dX12_letter_145 rfl ?_
          refine ok_iconst (pc := 147) (v := 4) dX12_letter_147 (by decide) ?_
          refine ok_iadd (pc := 148) dX12_letter_148 ?_
          refine ok_aload_n (pc := 149) dX12_letter_149 rfl ?_
          refine ok_getf (pc := 150) dX12_letter_150 fl_X12_9 hR.o rfl ?_
          refine ok_iconst (pc := 153) (v := 0) dX12_letter_153 (by decide) ?_
          refine ok_iald (pc := 154) (0) dX12_letter_154 hR.a0 rfl (by decide) (by decide) ?_
          rw [upd_ne (show 0 ≠ 99 + 7 * cL σ + 3 by omega), upd_ne (show 0 ≠ 99 + 7 * cL σ + 2 by omega), upd_ne (show 0 ≠ 99 + 7 * cL σ + 1 by omega), upd_ne (show 0 ≠ 99 + 7 * cL σ by omega)]
          refine ok_rst0 (pc := 155) (99 + 7 * cL σ + 4) dX12_letter_155 hR (by simp only [eL, fa_lit, pk_mul, nI_add]) (by omega) (fun M hR => ?_)
          refine ok_aload_n (pc := 156) dX12_letter_156 rfl ?_
          refine ok_getf (pc := 157) dX12_letter_157 fl_X12_9 hR.o rfl ?_
          refine ok_iload (pc := 160) dX12_letter_160 rfl ?_
          refine ok_iconst (pc := 162) (v := 5) dX12_letter_162 (by decide) ?_
          refine ok_iadd (pc := 163) dX12_letter_163 ?_
          refine ok_iload_n (pc := 164) dX12_letter_164 rfl ?_
          refine ok_rst0 (pc := 165) (99 + 7 * cL σ + 5) dX12_letter_165 hR (by simp only [eL, fa_lit, pk_mul, nI_add]) (by omega) (fun M hR => ?_)
          refine ok_aload_n (pc := 166) dX12_letter_166 rfl ?_
          refine ok_getf (pc := 167) dX12_letter_167 fl_X12_9 hR.o rfl ?_
          refine ok_iload (pc := 170) dX12_letter_170 rfl ?_
          refine ok_bipush (pc := 172) (v := 6) dX12_letter_172 (by decide) ?_
          refine ok_iadd (pc := 174) dX12_letter_174 ?_
          refine ok_iconst (pc := 175) (v := -1) dX12_letter_175 (by decide) ?_
          refine ok_rst0 (pc := 176) (99 + 7 * cL σ + 6) dX12_letter_176 hR (by simp only [eL, fa_lit, pk_mul, nI_add]) (by omega) (fun M hR => ?_)
          refine ok_aload_n (pc := 177) dX12_letter_177 rfl ?_
          refine ok_getf (pc := 178) dX12_letter_178 fl_X12_9 hR.o rfl ?_
          refine ok_iconst (pc := 181) (v := 3) dX12_letter_181 (by decide) ?_
          refine ok_dup2 (pc := 182) dX12_letter_182 rfl rfl ?_
          refine ok_iald (pc := 183) (3) dX12_letter_183 hR.a0 rfl (by decide) (by decide) ?_
          refine ok_iconst (pc := 184) (v := 1) dX12_letter_184 (by decide) ?_
          refine ok_iadd (pc := 185) dX12_letter_185 ?_
          refine ok_rst0 (pc := 186) (3) dX12_letter_186 hR rfl (by decide) (fun M hR => ?_)
          refine ok_iload (pc := 187) dX12_letter_187 rfl ?_
          refine ok_iret (pc := 189) dX12_letter_189 rfl ?_
          have e3_ : (upd (upd (upd (upd (upd (upd (upd σ (99 + 7 * cL σ) x) (99 + 7 * cL σ + 1) y) (99 + 7 * cL σ + 2) z) (99 + 7 * cL σ + 3) w) (99 + 7 * cL σ + 4) (σ 0)) (99 + 7 * cL σ + 5) x) (99 + 7 * cL σ + 6) (-1)) 3 = σ 3 := by rw [upd_ne (by omega), upd_ne (by omega), upd_ne (by omega), upd_ne (by omega), upd_ne (by omega), upd_ne (by omega), upd_ne (by omega)]
          first
            | exact absurd rfl cc_58
            | (have hc : (wi x 0 (σ 1 - 1) && wi y 0 (σ 1 - 1) && !(decide (x = y)) && wi z 0 30 && (decide (w = -1) || wi w 0 (σ 3 - 1))) = true := by first | (simp [cq_6, cq_15, cc_20, cq_30, cq_46]; done) | (simp [cq_6, cq_15, cc_20, cq_30, cc_36]; done)
               have eo : op_letter σ x y z w = ((0, nI (cL σ), letF σ (cL σ) x y z w) : Op3) := by
                 unfold op_letter
                 rw [if_pos hc, if_neg cc_80]
               rw [eo] at k
               rw [e3_] at hR
               rw [eL]
               exact k _ (RefW.ok hR hv hw))
        · refine ok_aload_n (pc := 83) dX12_letter_83 rfl ?_
          refine ok_ldc (pc := 84) (v := -1000000004) dX12_letter_84 tw_1216 ?_
          refine ok_callVi1 (pc := 86) (d' := 0) dX12_letter_86 vl_X12_84 hR.o rfl rfl rfl (by decide) ?_
          refine r_finding hR 4 (by decide) (by decide) (fun M hR => ?_)
          refine ok_iret (pc := 89) dX12_letter_89 rfl ?_
          first
            | exact absurd rfl cc_58
            | (have hc : (wi x 0 (σ 1 - 1) && wi y 0 (σ 1 - 1) && !(decide (x = y)) && wi z 0 30 && (decide (w = -1) || wi w 0 (σ 3 - 1))) = true := by first | (simp [cq_6, cq_15, cc_20, cq_30, cq_46]; done) | (simp [cq_6, cq_15, cc_20, cq_30, cc_36]; done)
               have eo : op_letter σ x y z w = ((4, -1000000004, σ) : Op3) := by
                 unfold op_letter
                 rw [if_pos hc, if_pos cc_80]
                 rfl
               rw [eo] at k
               exact k _ (RefW.err 4 (by decide) hR hv hw))
      · refine ok_aload_n (pc := 61) dX12_letter_61 rfl ?_
        refine ok_ldc (pc := 62) (v := -1000000001) dX12_letter_62 tw_1205 ?_
        refine ok_callVi1 (pc := 64) (d' := 0) dX12_letter_64 vl_X12_84 hR.o rfl rfl rfl (by decide) ?_
        refine r_finding hR 1 (by decide) (by decide) (fun M hR => ?_)
        refine ok_iret (pc := 67) dX12_letter_67 rfl ?_
        first
          | exact absurd cc_58 (by decide)
          | (have eo : op_letter σ x y z w = ((1, -1000000001, σ) : Op3) := by simp [op_letter, e3, cq_6, cq_15, cc_58]; try decide
             rw [eo] at k
             exact k _ (RefW.err 1 (by decide) hR hv hw))
    · have cq_15 := bI_n0.mp cc_15
      refine ok_iload_n (pc := 18) dX12_letter_18 rfl ?_
      refine ok_iload_n (pc := 19) dX12_letter_19 rfl ?_
      refine ok_icmp_eq (pc := 20) 53 dX12_letter_20 (by decide) (fun cc_20 => ?_) (fun cc_20 => ?_)
      · refine ok_iconst (pc := 53) (v := 0) dX12_letter_53 (by decide) ?_
        refine ok_istore5 (pc := 54) dX12_letter_54 (by decide) rfl ?_
        refine ok_iload (pc := 56) dX12_letter_56 rfl ?_
        refine ok_if_ne (pc := 58) 68 dX12_letter_58 (by decide) (fun cc_58 => ?_) (fun cc_58 => ?_)
        · refine ok_aload_n (pc := 68) dX12_letter_68 rfl ?_
          refine ok_getf (pc := 69) dX12_letter_69 fl_X12_9 hR.o rfl ?_
          refine ok_iconst (pc := 72) (v := 3) dX12_letter_72 (by decide) ?_
          refine ok_iald (pc := 73) (3) dX12_letter_73 hR.a0 rfl (by decide) (by decide) ?_
          refine ok_istore6 (pc := 74) dX12_letter_74 (by decide) rfl ?_
          refine ok_iload (pc := 76) dX12_letter_76 rfl ?_
          refine ok_bipush (pc := 78) (v := 12) dX12_letter_78 (by decide) ?_
          refine ok_icmp_ne (pc := 80) 90 dX12_letter_80 (by decide) (fun cc_80 => ?_) (fun cc_80 => ?_)
          · have l12 : cL σ < 12 := by have h9 : cL σ ≠ 12 := (fun h9 => cc_80 (by rw [eL, h9]; rfl)); omega
            refine ok_bipush (pc := 90) (v := 99) dX12_letter_90 (by decide) ?_
            refine ok_bipush (pc := 92) (v := 7) dX12_letter_92 (by decide) ?_
            refine ok_iload (pc := 94) dX12_letter_94 rfl ?_
            refine ok_imul (pc := 96) dX12_letter_96 ?_
            refine ok_iadd (pc := 97) dX12_letter_97 ?_
            refine ok_istore7 (pc := 98) dX12_letter_98 (by decide) rfl ?_
            refine ok_aload_n (pc := 100) dX12_letter_100 rfl ?_
            refine ok_getf (pc := 101) dX12_letter_101 fl_X12_9 hR.o rfl ?_
            refine ok_iload (pc := 104) dX12_letter_104 rfl ?_
            refine ok_iconst (pc := 106) (v := 0) dX12_letter_106 (by decide) ?_
            refine ok_iadd (pc := 107) dX12_letter_107 ?_
            refine ok_iload_n (pc := 108) dX12_letter_108 rfl ?_
            refine ok_rst0 (pc := 109) (99 + 7 * cL σ) dX12_letter_109 hR (by simp only [eL, Nat.add_zero, fa_lit, pk_mul, nI_add]) (by omega) (fun M hR => ?_)
            refine ok_aload_n (pc := 110) dX12_letter_110 rfl ?_
            refine ok_getf (pc := 111) dX12_letter_111 fl_X12_9 hR.o rfl ?_
            refine ok_iload (pc := 114) dX12_letter_114 rfl ?_
            refine ok_iconst (pc := 116) (v := 1) dX12_letter_116 (by decide) ?_
            refine ok_iadd (pc := 117) dX12_letter_117 ?_
            refine ok_iload_n (pc := 118) dX12_letter_118 rfl ?_
            refine ok_rst0 (pc := 119) (99 + 7 * cL σ + 1) dX12_letter_119 hR (by simp only [eL, fa_lit, pk_mul, nI_add]) (by omega) (fun M hR => ?_)
            refine ok_aload_n (pc := 120) dX12_letter_120 rfl ?_
            refine ok_getf (pc := 121) dX12_letter_121 fl_X12_9 hR.o rfl ?_
            refine ok_iload (pc := 124) dX12_letter_124 rfl ?_
            refine ok_iconst (pc := 126) (v := 2) dX12_letter_126 (by decide) ?_
            refine ok_iadd (pc := 127) dX12_letter_127 ?_
            refine ok_iload_n (pc := 128) dX12_letter_128 rfl ?_
            refine ok_rst0 (pc := 129) (99 + 7 * cL σ + 2) dX12_letter_129 hR (by simp only [eL, fa_lit, pk_mul, nI_add]) (by omega) (fun M hR => ?_)
            refine ok_aload_n (pc := 130) dX12_letter_130 rfl ?_
            refine ok_getf (pc := 131) dX12_letter_131 fl_X12_9 hR.o rfl ?_
            refine ok_iload (pc := 134) dX12_letter_134 rfl ?_
            refine ok_iconst (pc := 136) (v := 3) dX12_letter_136 (by decide) ?_
            refine ok_iadd (pc := 137) dX12_letter_137 ?_
            refine ok_iload (pc := 138) dX12_letter_138 rfl ?_
            refine ok_rst0 (pc := 140) (99 + 7 * cL σ + 3) dX12_letter_140 hR (by simp only [eL, fa_lit, pk_mul, nI_add]) (by omega) (fun M hR => ?_)
            refine ok_aload_n (pc := 141) dX12_letter_141 rfl ?_
            refine ok_getf (pc := 142) dX12_letter_142 fl_X12_9 hR.o rfl ?_
            refine ok_iload (pc := 145) dX12_letter_145 rfl ?_
            refine ok_iconst (pc := 147) (v := 4) dX12_letter_147 (by decide) ?_
            refine ok_iadd (pc := 148) dX12_letter_148 ?_
            refine ok_aload_n (pc := 149) dX12_letter_149 rfl ?_
            refine ok_getf (pc := 150) dX12_letter_150 fl_X12_9 hR.o rfl ?_
            refine ok_iconst (pc := 153) (v := 0) dX12_letter_153 (by decide) ?_
            refine ok_iald (pc := 154) (0) dX12_letter_154 hR.a0 rfl (by decide) (by decide) ?_
            rw [upd_ne (show 0 ≠ 99 + 7 * cL σ + 3 by omega), upd_ne (show 0 ≠ 99 + 7 * cL σ + 2 by omega), upd_ne (show 0 ≠ 99 + 7 * cL σ + 1 by omega), upd_ne (show 0 ≠ 99 + 7 * cL σ by omega)]
            refine ok_rst0 (pc := 155) (99 + 7 * cL σ + 4) dX12_letter_155 hR (by simp only [eL, fa_lit, pk_mul, nI_add]) (by omega) (fun M hR => ?_)
            refine ok_aload_n (pc := 156) dX12_letter_156 rfl ?_
            refine ok_getf (pc := 157) dX12_letter_157 fl_X12_9 hR.o rfl ?_
            refine ok_iload (pc := 160) dX12_letter_160 rfl ?_
            refine ok_iconst (pc := 162) (v := 5) dX12_letter_162 (by decide) ?_
            refine ok_iadd (pc := 163) dX12_letter_163 ?_
            refine ok_iload_n (pc := 164) dX12_letter_164 rfl ?_
            refine ok_rst0 (pc := 165) (99 + 7 * cL σ + 5) dX12_letter_165 hR (by simp only [eL, fa_lit, pk_mul, nI_add]) (by omega) (fun M hR => ?_)
            refine ok_aload_n (pc := 166) dX12_letter_166 rfl ?_
            refine ok_getf (pc := 167) dX12_letter_167 fl_X12_9 hR.o rfl ?_
            refine ok_iload (pc := 170) dX12_letter_170 rfl ?_
            refine ok_bipush (pc := 172) (v := 6) dX12_letter_172 (by decide) ?_
            refine ok_iadd (pc := 174) dX12_letter_174 ?_
            refine ok_iconst (pc := 175) (v := -1) dX12_letter_175 (by decide) ?_
            refine ok_rst0 (pc := 176) (99 + 7 * cL σ + 6) dX12_letter_176 hR (by simp only [eL, fa_lit, pk_mul, nI_add]) (by omega) (fun M hR => ?_)
            refine ok_aload_n (pc := 177) dX12_letter_177 rfl ?_
            refine ok_getf (pc := 178) dX12_letter_178 fl_X12_9 hR.o rfl ?_
            refine ok_iconst (pc := 181) (v := 3) dX12_letter_181 (by decide) ?_
            refine ok_dup2 (pc := 182) dX12_letter_182 rfl rfl ?_
            refine ok_iald (pc := 183) (3) dX12_letter_183 hR.a0 rfl (by decide) (by decide) ?_
            refine ok_iconst (pc := 184) (v := 1) dX12_letter_184 (by decide) ?_
            refine ok_iadd (pc := 185) dX12_letter_185 ?_
            refine ok_rst0 (pc := 186) (3) dX12_letter_186 hR rfl (by decide) (fun M hR => ?_)
            refine ok_iload (pc := 187) dX12_letter_187 rfl ?_
            refine ok_iret (pc := 189) dX12_letter_189 rfl ?_
            have e3_ : (upd (upd (upd (upd (upd (upd (upd σ (99 + 7 * cL σ) x) (99 + 7 * cL σ + 1) y) (99 + 7 * cL σ + 2) z) (99 + 7 * cL σ + 3) w) (99 + 7 * cL σ + 4) (σ 0)) (99 + 7 * cL σ + 5) x) (99 + 7 * cL σ + 6) (-1)) 3 = σ 3 := by rw [upd_ne (by omega), upd_ne (by omega), upd_ne (by omega), upd_ne (by omega), upd_ne (by omega), upd_ne (by omega), upd_ne (by omega)]
            first
              | exact absurd rfl cc_58
              | (have hc : (wi x 0 (σ 1 - 1) && wi y 0 (σ 1 - 1) && !(decide (x = y)) && wi z 0 30 && (decide (w = -1) || wi w 0 (σ 3 - 1))) = true := by first | (simp [cq_6, cq_15, cc_20, cq_30, cq_46]; done) | (simp [cq_6, cq_15, cc_20, cq_30, cc_36]; done)
                 have eo : op_letter σ x y z w = ((0, nI (cL σ), letF σ (cL σ) x y z w) : Op3) := by
                   unfold op_letter
                   rw [if_pos hc, if_neg cc_80]
                 rw [eo] at k
                 rw [e3_] at hR
                 rw [eL]
                 exact k _ (RefW.ok hR hv hw))
          · refine ok_aload_n (pc := 83) dX12_letter_83 rfl ?_
            refine ok_ldc (pc := 84) (v := -1000000004) dX12_letter_84 tw_1216 ?_
            refine ok_callVi1 (pc := 86) (d' := 0) dX12_letter_86 vl_X12_84 hR.o rfl rfl rfl (by decide) ?_
            refine r_finding hR 4 (by decide) (by decide) (fun M hR => ?_)
            refine ok_iret (pc := 89) dX12_letter_89 rfl ?_
            first
              | exact absurd rfl cc_58
              | (have hc : (wi x 0 (σ 1 - 1) && wi y 0 (σ 1 - 1) && !(decide (x = y)) && wi z 0 30 && (decide (w = -1) || wi w 0 (σ 3 - 1))) = true := by first | (simp [cq_6, cq_15, cc_20, cq_30, cq_46]; done) | (simp [cq_6, cq_15, cc_20, cq_30, cc_36]; done)
                 have eo : op_letter σ x y z w = ((4, -1000000004, σ) : Op3) := by
                   unfold op_letter
                   rw [if_pos hc, if_pos cc_80]
                   rfl
                 rw [eo] at k
                 exact k _ (RefW.err 4 (by decide) hR hv hw))
        · refine ok_aload_n (pc := 61) dX12_letter_61 rfl ?_
          refine ok_ldc (pc := 62) (v := -1000000001) dX12_letter_62 tw_1205 ?_
          refine ok_callVi1 (pc := 64) (d' := 0) dX12_letter_64 vl_X12_84 hR.o rfl rfl rfl (by decide) ?_
          refine r_finding hR 1 (by decide) (by decide) (fun M hR => ?_)
          refine ok_iret (pc := 67) dX12_letter_67 rfl ?_
          first
            | exact absurd cc_58 (by decide)
            | (have eo : op_letter σ x y z w = ((1, -1000000001, σ) : Op3) := by simp [op_letter, e3, cq_6, cq_15, cc_20, cc_58]; try decide
               rw [eo] at k
               exact k _ (RefW.err 1 (by decide) hR hv hw))
      · refine ok_iload_n (pc := 23) dX12_letter_23 rfl ?_
        refine ok_iconst (pc := 24) (v := 0) dX12_letter_24 (by decide) ?_
        refine ok_bipush (pc := 25) (v := 30) dX12_letter_25 (by decide) ?_
        refine ok_callSi3 (pc := 27) (d' := 0) dX12_letter_27 sl_X12_75 rfl (by decide) ?_
        refine r_within ?_
        refine ok_if_eq (pc := 30) 53 dX12_letter_30 (by decide) (fun cc_30 => ?_) (fun cc_30 => ?_)
        · have cq_30 := bI_0.mp cc_30
          refine ok_iconst (pc := 53) (v := 0) dX12_letter_53 (by decide) ?_
          refine ok_istore5 (pc := 54) dX12_letter_54 (by decide) rfl ?_
          refine ok_iload (pc := 56) dX12_letter_56 rfl ?_
          refine ok_if_ne (pc := 58) 68 dX12_letter_58 (by decide) (fun cc_58 => ?_) (fun cc_58 => ?_)
          · refine ok_aload_n (pc := 68) dX12_letter_68 rfl ?_
            refine ok_getf (pc := 69) dX12_letter_69 fl_X12_9 hR.o rfl ?_
            refine ok_iconst (pc := 72) (v := 3) dX12_letter_72 (by decide) ?_
            refine ok_iald (pc := 73) (3) dX12_letter_73 hR.a0 rfl (by decide) (by decide) ?_
            refine ok_istore6 (pc := 74) dX12_letter_74 (by decide) rfl ?_
            refine ok_iload (pc := 76) dX12_letter_76 rfl ?_
            refine ok_bipush (pc := 78) (v := 12) dX12_letter_78 (by decide) ?_
            refine ok_icmp_ne (pc := 80) 90 dX12_letter_80 (by decide) (fun cc_80 => ?_) (fun cc_80 => ?_)
            · have l12 : cL σ < 12 := by have h9 : cL σ ≠ 12 := (fun h9 => cc_80 (by rw [eL, h9]; rfl)); omega
              refine ok_bipush (pc := 90) (v := 99) dX12_letter_90 (by decide) ?_
              refine ok_bipush (pc := 92) (v := 7) dX12_letter_92 (by decide) ?_
              refine ok_iload (pc := 94) dX12_letter_94 rfl ?_
              refine ok_imul (pc := 96) dX12_letter_96 ?_
              refine ok_iadd (pc := 97) dX12_letter_97 ?_
              refine ok_istore7 (pc := 98) dX12_letter_98 (by decide) rfl ?_
              refine ok_aload_n (pc := 100) dX12_letter_100 rfl ?_
              refine ok_getf (pc := 101) dX12_letter_101 fl_X12_9 hR.o rfl ?_
              refine ok_iload (pc := 104) dX12_letter_104 rfl ?_
              refine ok_iconst (pc := 106) (v := 0) dX12_letter_106 (by decide) ?_
              refine ok_iadd (pc := 107) dX12_letter_107 ?_
              refine ok_iload_n (pc := 108) dX12_letter_108 rfl ?_
              refine ok_rst0 (pc := 109) (99 + 7 * cL σ) dX12_letter_109 hR (by simp only [eL, Nat.add_zero, fa_lit, pk_mul, nI_add]) (by omega) (fun M hR => ?_)
              refine ok_aload_n (pc := 110) dX12_letter_110 rfl ?_
              refine ok_getf (pc := 111) dX12_letter_111 fl_X12_9 hR.o rfl ?_
              refine ok_iload (pc := 114) dX12_letter_114 rfl ?_
              refine ok_iconst (pc := 116) (v := 1) dX12_letter_116 (by decide) ?_
              refine ok_iadd (pc := 117) dX12_letter_117 ?_
              refine ok_iload_n (pc := 118) dX12_letter_118 rfl ?_
              refine ok_rst0 (pc := 119) (99 + 7 * cL σ + 1) dX12_letter_119 hR (by simp only [eL, fa_lit, pk_mul, nI_add]) (by omega) (fun M hR => ?_)
              refine ok_aload_n (pc := 120) dX12_letter_120 rfl ?_
              refine ok_getf (pc := 121) dX12_letter_121 fl_X12_9 hR.o rfl ?_
              refine ok_iload (pc := 124) dX12_letter_124 rfl ?_
              refine ok_iconst (pc := 126) (v := 2) dX12_letter_126 (by decide) ?_
              refine ok_iadd (pc := 127) dX12_letter_127 ?_
              refine ok_iload_n (pc := 128) dX12_letter_128 rfl ?_
              refine ok_rst0 (pc := 129) (99 + 7 * cL σ + 2) dX12_letter_129 hR (by simp only [eL, fa_lit, pk_mul, nI_add]) (by omega) (fun M hR => ?_)
              refine ok_aload_n (pc := 130) dX12_letter_130 rfl ?_
              refine ok_getf (pc := 131) dX12_letter_131 fl_X12_9 hR.o rfl ?_
              refine ok_iload (pc := 134) dX12_letter_134 rfl ?_
              refine ok_iconst (pc := 136) (v := 3) dX12_letter_136 (by decide) ?_
              refine ok_iadd (pc := 137) dX12_letter_137 ?_
              refine ok_iload (pc := 138) dX12_letter_138 rfl ?_
              refine ok_rst0 (pc := 140) (99 + 7 * cL σ + 3) dX12_letter_140 hR (by simp only [eL, fa_lit, pk_mul, nI_add]) (by omega) (fun M hR => ?_)
              refine ok_aload_n (pc := 141) dX12_letter_141 rfl ?_
              refine ok_getf (pc := 142) dX12_letter_142 fl_X12_9 hR.o rfl ?_
              refine ok_iload (pc := 145) dX12_letter_145 rfl ?_
              refine ok_iconst (pc := 147) (v := 4) dX12_letter_147 (by decide) ?_
              refine ok_iadd (pc := 148) dX12_letter_148 ?_
              refine ok_aload_n (pc := 149) dX12_letter_149 rfl ?_
              refine ok_getf (pc := 150) dX12_letter_150 fl_X12_9 hR.o rfl ?_
              refine ok_iconst (pc := 153) (v := 0) dX12_letter_153 (by decide) ?_
              refine ok_iald (pc := 154) (0) dX12_letter_154 hR.a0 rfl (by decide) (by decide) ?_
              rw [upd_ne (show 0 ≠ 99 + 7 * cL σ + 3 by omega), upd_ne (show 0 ≠ 99 + 7 * cL σ + 2 by omega), upd_ne (show 0 ≠ 99 + 7 * cL σ + 1 by omega), upd_ne (show 0 ≠ 99 + 7 * cL σ by omega)]
              refine ok_rst0 (pc := 155) (99 + 7 * cL σ + 4) dX12_letter_155 hR (by simp only [eL, fa_lit, pk_mul, nI_add]) (by omega) (fun M hR => ?_)
              refine ok_aload_n (pc := 156) dX12_letter_156 rfl ?_
              refine ok_getf (pc := 157) dX12_letter_157 fl_X12_9 hR.o rfl ?_
              refine ok_iload (pc := 160) dX12_letter_160 rfl ?_
              refine ok_iconst (pc := 162) (v := 5) dX12_letter_162 (by decide) ?_
              refine ok_iadd (pc := 163) dX12_letter_163 ?_
              refine ok_iload_n (pc := 164) dX12_letter_164 rfl ?_
              refine ok_rst0 (pc := 165) (99 + 7 * cL σ + 5) dX12_letter_165 hR (by simp only [eL, fa_lit, pk_mul, nI_add]) (by omega) (fun M hR => ?_)
              refine ok_aload_n (pc := 166) dX12_letter_166 rfl ?_
              refine ok_getf (pc := 167) dX12_letter_167 fl_X12_9 hR.o rfl ?_
              refine ok_iload (pc := 170) dX12_letter_170 rfl ?_
              refine ok_bipush (pc := 172) (v := 6) dX12_letter_172 (by decide) ?_
              refine ok_iadd (pc := 174) dX12_letter_174 ?_
              refine ok_iconst (pc := 175) (v := -1) dX12_letter_175 (by decide) ?_
              refine ok_rst0 (pc := 176) (99 + 7 * cL σ + 6) dX12_letter_176 hR (by simp only [eL, fa_lit, pk_mul, nI_add]) (by omega) (fun M hR => ?_)
              refine ok_aload_n (pc := 177) dX12_letter_177 rfl ?_
              refine ok_getf (pc := 178) dX12_letter_178 fl_X12_9 hR.o rfl ?_
              refine ok_iconst (pc := 181) (v := 3) dX12_letter_181 (by decide) ?_
              refine ok_dup2 (pc := 182) dX12_letter_182 rfl rfl ?_
              refine ok_iald (pc := 183) (3) dX12_letter_183 hR.a0 rfl (by decide) (by decide) ?_
              refine ok_iconst (pc := 184) (v := 1) dX12_letter_184 (by decide) ?_
              refine ok_iadd (pc := 185) dX12_letter_185 ?_
              refine ok_rst0 (pc := 186) (3) dX12_letter_186 hR rfl (by decide) (fun M hR => ?_)
              refine ok_iload (pc := 187) dX12_letter_187 rfl ?_
              refine ok_iret (pc := 189) dX12_letter_189 rfl ?_
              have e3_ : (upd (upd (upd (upd (upd (upd (upd σ (99 + 7 * cL σ) x) (99 + 7 * cL σ + 1) y) (99 + 7 * cL σ + 2) z) (99 + 7 * cL σ + 3) w) (99 + 7 * cL σ + 4) (σ 0)) (99 + 7 * cL σ + 5) x) (99 + 7 * cL σ + 6) (-1)) 3 = σ 3 := by rw [upd_ne (by omega), upd_ne (by omega), upd_ne (by omega), upd_ne (by omega), upd_ne (by omega), upd_ne (by omega), upd_ne (by omega)]
              first
                | exact absurd rfl cc_58
                | (have hc : (wi x 0 (σ 1 - 1) && wi y 0 (σ 1 - 1) && !(decide (x = y)) && wi z 0 30 && (decide (w = -1) || wi w 0 (σ 3 - 1))) = true := by first | (simp [cq_6, cq_15, cc_20, cq_30, cq_46]; done) | (simp [cq_6, cq_15, cc_20, cq_30, cc_36]; done)
                   have eo : op_letter σ x y z w = ((0, nI (cL σ), letF σ (cL σ) x y z w) : Op3) := by
                     unfold op_letter
                     rw [if_pos hc, if_neg cc_80]
                   rw [eo] at k
                   rw [e3_] at hR
                   rw [eL]
                   exact k _ (RefW.ok hR hv hw))
            · refine ok_aload_n (pc := 83) dX12_letter_83 rfl ?_
              refine ok_ldc (pc := 84) (v := -1000000004) dX12_letter_84 tw_1216 ?_
              refine ok_callVi1 (pc := 86) (d' := 0) dX12_letter_86 vl_X12_84 hR.o rfl rfl rfl (by decide) ?_
              refine r_finding hR 4 (by decide) (by decide) (fun M hR => ?_)
              refine ok_iret (pc := 89) dX12_letter_89 rfl ?_
              first
                | exact absurd rfl cc_58
                | (have hc : (wi x 0 (σ 1 - 1) && wi y 0 (σ 1 - 1) && !(decide (x = y)) && wi z 0 30 && (decide (w = -1) || wi w 0 (σ 3 - 1))) = true := by first | (simp [cq_6, cq_15, cc_20, cq_30, cq_46]; done) | (simp [cq_6, cq_15, cc_20, cq_30, cc_36]; done)
                   have eo : op_letter σ x y z w = ((4, -1000000004, σ) : Op3) := by
                     unfold op_letter
                     rw [if_pos hc, if_pos cc_80]
                     rfl
                   rw [eo] at k
                   exact k _ (RefW.err 4 (by decide) hR hv hw))
          · refine ok_aload_n (pc := 61) dX12_letter_61 rfl ?_
            refine ok_ldc (pc := 62) (v := -1000000001) dX12_letter_62 tw_1205 ?_
            refine ok_callVi1 (pc := 64) (d' := 0) dX12_letter_64 vl_X12_84 hR.o rfl rfl rfl (by decide) ?_
            refine r_finding hR 1 (by decide) (by decide) (fun M hR => ?_)
            refine ok_iret (pc := 67) dX12_letter_67 rfl ?_
            first
              | exact absurd cc_58 (by decide)
              | (have eo : op_letter σ x y z w = ((1, -1000000001, σ) : Op3) := by simp [op_letter, e3, cq_6, cq_15, cc_20, cq_30, cc_58]; try decide
                 rw [eo] at k
                 exact k _ (RefW.err 1 (by decide) hR hv hw))
        · have cq_30 := bI_n0.mp cc_30
          refine ok_iload (pc := 33) dX12_letter_33 rfl ?_
          refine ok_iconst (pc := 35) (v := -1) dX12_letter_35 (by decide) ?_
          refine ok_icmp_eq (pc := 36) 49 dX12_letter_36 (by decide) (fun cc_36 => ?_) (fun cc_36 => ?_)
          · refine ok_iconst (pc := 49) (v := 1) dX12_letter_49 (by decide) ?_
            refine ok_goto (pc := 50) 54 dX12_letter_50 (by decide) ?_
            refine ok_istore5 (pc := 54) dX12_letter_54 (by decide) rfl ?_
            refine ok_iload (pc := 56) dX12_letter_56 rfl ?_
            refine ok_if_ne (pc := 58) 68 dX12_letter_58 (by decide) (fun cc_58 => ?_) (fun cc_58 => ?_)
            · refine ok_aload_n (pc := 68) dX12_letter_68 rfl ?_
              refine ok_getf (pc := 69) dX12_letter_69 fl_X12_9 hR.o rfl ?_
              refine ok_iconst (pc := 72) (v := 3) dX12_letter_72 (by decide) ?_
              refine ok_iald (pc := 73) (3) dX12_letter_73 hR.a0 rfl (by decide) (by decide) ?_
              refine ok_istore6 (pc := 74) dX12_letter_74 (by decide) rfl ?_
              refine ok_iload (pc := 76) dX12_letter_76 rfl ?_
              refine ok_bipush (pc := 78) (v := 12) dX12_letter_78 (by decide) ?_
              refine ok_icmp_ne (pc := 80) 90 dX12_letter_80 (by decide) (fun cc_80 => ?_) (fun cc_80 => ?_)
              · have l12 : cL σ < 12 := by have h9 : cL σ ≠ 12 := (fun h9 => cc_80 (by rw [eL, h9]; rfl)); omega
                refine ok_bipush (pc := 90) (v := 99) dX12_letter_90 (by decide) ?_
                refine ok_bipush (pc := 92) (v := 7) dX12_letter_92 (by decide) ?_
                refine ok_iload (pc := 94) dX12_letter_94 rfl ?_
                refine ok_imul (pc := 96) dX12_letter_96 ?_
                refine ok_iadd (pc := 97) dX12_letter_97 ?_
                refine ok_istore7 (pc := 98) dX12_letter_98 (by decide) rfl ?_
                refine ok_aload_n (pc := 100) dX12_letter_100 rfl ?_
                refine ok_getf (pc := 101) dX12_letter_101 fl_X12_9 hR.o rfl ?_
                refine ok_iload (pc := 104) dX12_letter_104 rfl ?_
                refine ok_iconst (pc := 106) (v := 0) dX12_letter_106 (by decide) ?_
                refine ok_iadd (pc := 107) dX12_letter_107 ?_
                refine ok_iload_n (pc := 108) dX12_letter_108 rfl ?_
                refine ok_rst0 (pc := 109) (99 + 7 * cL σ) dX12_letter_109 hR (by simp only [eL, Nat.add_zero, fa_lit, pk_mul, nI_add]) (by omega) (fun M hR => ?_)
                refine ok_aload_n (pc := 110) dX12_letter_110 rfl ?_
                refine ok_getf (pc := 111) dX12_letter_111 fl_X12_9 hR.o rfl ?_
                refine ok_iload (pc := 114) dX12_letter_114 rfl ?_
                refine ok_iconst (pc := 116) (v := 1) dX12_letter_116 (by decide) ?_
                refine ok_iadd (pc := 117) dX12_letter_117 ?_
                refine ok_iload_n (pc := 118) dX12_letter_118 rfl ?_
                refine ok_rst0 (pc := 119) (99 + 7 * cL σ + 1) dX12_letter_119 hR (by simp only [eL, fa_lit, pk_mul, nI_add]) (by omega) (fun M hR => ?_)
                refine ok_aload_n (pc := 120) dX12_letter_120 rfl ?_
                refine ok_getf (pc := 121) dX12_letter_121 fl_X12_9 hR.o rfl ?_
                refine ok_iload (pc := 124) dX12_letter_124 rfl ?_
                refine ok_iconst (pc := 126) (v := 2) dX12_letter_126 (by decide) ?_
                refine ok_iadd (pc := 127) dX12_letter_127 ?_
                refine ok_iload_n (pc := 128) dX12_letter_128 rfl ?_
                refine ok_rst0 (pc := 129) (99 + 7 * cL σ + 2) dX12_letter_129 hR (by simp only [eL, fa_lit, pk_mul, nI_add]) (by omega) (fun M hR => ?_)
                refine ok_aload_n (pc := 130) dX12_letter_130 rfl ?_
                refine ok_getf (pc := 131) dX12_letter_131 fl_X12_9 hR.o rfl ?_
                refine ok_iload (pc := 134) dX12_letter_134 rfl ?_
                refine ok_iconst (pc := 136) (v := 3) dX12_letter_136 (by decide) ?_
                refine ok_iadd (pc := 137) dX12_letter_137 ?_
                refine ok_iload (pc := 138) dX12_letter_138 rfl ?_
                refine ok_rst0 (pc := 140) (99 + 7 * cL σ + 3) dX12_letter_140 hR (by simp only [eL, fa_lit, pk_mul, nI_add]) (by omega) (fun M hR => ?_)
                refine ok_aload_n (pc := 141) dX12_letter_141 rfl ?_
                refine ok_getf (pc := 142) dX12_letter_142 fl_X12_9 hR.o rfl ?_
                refine ok_iload (pc := 145) dX12_letter_145 rfl ?_
                refine ok_iconst (pc := 147) (v := 4) dX12_letter_147 (by decide) ?_
                refine ok_iadd (pc := 148) dX12_letter_148 ?_
                refine ok_aload_n (pc := 149) dX12_letter_149 rfl ?_
                refine ok_getf (pc := 150) dX12_letter_150 fl_X12_9 hR.o rfl ?_
                refine ok_iconst (pc := 153) (v := 0) dX12_letter_153 (by decide) ?_
                refine ok_iald (pc := 154) (0) dX12_letter_154 hR.a0 rfl (by decide) (by decide) ?_
                rw [upd_ne (show 0 ≠ 99 + 7 * cL σ + 3 by omega), upd_ne (show 0 ≠ 99 + 7 * cL σ + 2 by omega), upd_ne (show 0 ≠ 99 + 7 * cL σ + 1 by omega), upd_ne (show 0 ≠ 99 + 7 * cL σ by omega)]
                refine ok_rst0 (pc := 155) (99 + 7 * cL σ + 4) dX12_letter_155 hR (by simp only [eL, fa_lit, pk_mul, nI_add]) (by omega) (fun M hR => ?_)
                refine ok_aload_n (pc := 156) dX12_letter_156 rfl ?_
                refine ok_getf (pc := 157) dX12_letter_157 fl_X12_9 hR.o rfl ?_
                refine ok_iload (pc := 160) dX12_letter_160 rfl ?_
                refine ok_iconst (pc := 162) (v := 5) dX12_letter_162 (by decide) ?_
                refine ok_iadd (pc := 163) dX12_letter_163 ?_
                refine ok_iload_n (pc := 164) dX12_letter_164 rfl ?_
                refine ok_rst0 (pc := 165) (99 + 7 * cL σ + 5) dX12_letter_165 hR (by simp only [eL, fa_lit, pk_mul, nI_add]) (by omega) (fun M hR => ?_)
                refine ok_aload_n (pc := 166) dX12_letter_166 rfl ?_
                refine ok_getf (pc := 167) dX12_letter_167 fl_X12_9 hR.o rfl ?_
                refine ok_iload (pc := 170) dX12_letter_170 rfl ?_
                refine ok_bipush (pc := 172) (v := 6) dX12_letter_172 (by decide) ?_
                refine ok_iadd (pc := 174) dX12_letter_174 ?_
                refine ok_iconst (pc := 175) (v := -1) dX12_letter_175 (by decide) ?_
                refine ok_rst0 (pc := 176) (99 + 7 * cL σ + 6) dX12_letter_176 hR (by simp only [eL, fa_lit, pk_mul, nI_add]) (by omega) (fun M hR => ?_)
                refine ok_aload_n (pc := 177) dX12_letter_177 rfl ?_
                refine ok_getf (pc := 178) dX12_letter_178 fl_X12_9 hR.o rfl ?_
                refine ok_iconst (pc := 181) (v := 3) dX12_letter_181 (by decide) ?_
                refine ok_dup2 (pc := 182) dX12_letter_182 rfl rfl ?_
                refine ok_iald (pc := 183) (3) dX12_letter_183 hR.a0 rfl (by decide) (by decide) ?_
                refine ok_iconst (pc := 184) (v := 1) dX12_letter_184 (by decide) ?_
                refine ok_iadd (pc := 185) dX12_letter_185 ?_
                refine ok_rst0 (pc := 186) (3) dX12_letter_186 hR rfl (by decide) (fun M hR => ?_)
                refine ok_iload (pc := 187) dX12_letter_187 rfl ?_
                refine ok_iret (pc := 189) dX12_letter_189 rfl ?_
                have e3_ : (upd (upd (upd (upd (upd (upd (upd σ (99 + 7 * cL σ) x) (99 + 7 * cL σ + 1) y) (99 + 7 * cL σ + 2) z) (99 + 7 * cL σ + 3) w) (99 + 7 * cL σ + 4) (σ 0)) (99 + 7 * cL σ + 5) x) (99 + 7 * cL σ + 6) (-1)) 3 = σ 3 := by rw [upd_ne (by omega), upd_ne (by omega), upd_ne (by omega), upd_ne (by omega), upd_ne (by omega), upd_ne (by omega), upd_ne (by omega)]
                first
                  | exact absurd rfl cc_58
                  | (have hc : (wi x 0 (σ 1 - 1) && wi y 0 (σ 1 - 1) && !(decide (x = y)) && wi z 0 30 && (decide (w = -1) || wi w 0 (σ 3 - 1))) = true := by first | (simp [cq_6, cq_15, cc_20, cq_30, cq_46]; done) | (simp [cq_6, cq_15, cc_20, cq_30, cc_36]; done)
                     have eo : op_letter σ x y z w = ((0, nI (cL σ), letF σ (cL σ) x y z w) : Op3) := by
                       unfold op_letter
                       rw [if_pos hc, if_neg cc_80]
                     rw [eo] at k
                     rw [e3_] at hR
                     rw [eL]
                     exact k _ (RefW.ok hR hv hw))
              · refine ok_aload_n (pc := 83) dX12_letter_83 rfl ?_
                refine ok_ldc (pc := 84) (v := -1000000004) dX12_letter_84 tw_1216 ?_
                refine ok_callVi1 (pc := 86) (d' := 0) dX12_letter_86 vl_X12_84 hR.o rfl rfl rfl (by decide) ?_
                refine r_finding hR 4 (by decide) (by decide) (fun M hR => ?_)
                refine ok_iret (pc := 89) dX12_letter_89 rfl ?_
                first
                  | exact absurd rfl cc_58
                  | (have hc : (wi x 0 (σ 1 - 1) && wi y 0 (σ 1 - 1) && !(decide (x = y)) && wi z 0 30 && (decide (w = -1) || wi w 0 (σ 3 - 1))) = true := by first | (simp [cq_6, cq_15, cc_20, cq_30, cq_46]; done) | (simp [cq_6, cq_15, cc_20, cq_30, cc_36]; done)
                     have eo : op_letter σ x y z w = ((4, -1000000004, σ) : Op3) := by
                       unfold op_letter
                       rw [if_pos hc, if_pos cc_80]
                       rfl
                     rw [eo] at k
                     exact k _ (RefW.err 4 (by decide) hR hv hw))
            · refine ok_aload_n (pc := 61) dX12_letter_61 rfl ?_
              refine ok_ldc (pc := 62) (v := -1000000001) dX12_letter_62 tw_1205 ?_
              refine ok_callVi1 (pc := 64) (d' := 0) dX12_letter_64 vl_X12_84 hR.o rfl rfl rfl (by decide) ?_
              refine r_finding hR 1 (by decide) (by decide) (fun M hR => ?_)
              refine ok_iret (pc := 67) dX12_letter_67 rfl ?_
              first
                | exact absurd cc_58 (by decide)
                | (have eo : op_letter σ x y z w = ((1, -1000000001, σ) : Op3) := by simp [op_letter, e3, cq_6, cq_15, cc_20, cq_30, cc_36, cc_58]; try decide
                   rw [eo] at k
                   exact k _ (RefW.err 1 (by decide) hR hv hw))
          · refine ok_aload_n (pc := 39) dX12_letter_39 rfl ?_
            refine ok_iload (pc := 40) dX12_letter_40 rfl ?_
            refine ok_iconst (pc := 42) (v := 3) dX12_letter_42 (by decide) ?_
            refine ok_callVi2 (pc := 43) (d' := 1) dX12_letter_43 vl_X12_100 hR.o rfl rfl rfl (by decide) ?_
            refine r_is hR 3 rfl (by decide) ?_
            refine ok_if_eq (pc := 46) 53 dX12_letter_46 (by decide) (fun cc_46 => ?_) (fun cc_46 => ?_)
            · have cq_46 := bI_0.mp cc_46
              refine ok_iconst (pc := 53) (v := 0) dX12_letter_53 (by decide) ?_
              refine ok_istore5 (pc := 54) dX12_letter_54 (by decide) rfl ?_
              refine ok_iload (pc := 56) dX12_letter_56 rfl ?_
              refine ok_if_ne (pc := 58) 68 dX12_letter_58 (by decide) (fun cc_58 => ?_) (fun cc_58 => ?_)
              · refine ok_aload_n (pc := 68) dX12_letter_68 rfl ?_
                refine ok_getf (pc := 69) dX12_letter_69 fl_X12_9 hR.o rfl ?_
                refine ok_iconst (pc := 72) (v := 3) dX12_letter_72 (by decide) ?_
                refine ok_iald (pc := 73) (3) dX12_letter_73 hR.a0 rfl (by decide) (by decide) ?_
                refine ok_istore6 (pc := 74) dX12_letter_74 (by decide) rfl ?_
                refine ok_iload (pc := 76) dX12_letter_76 rfl ?_
                refine ok_bipush (pc := 78) (v := 12) dX12_letter_78 (by decide) ?_
                refine ok_icmp_ne (pc := 80) 90 dX12_letter_80 (by decide) (fun cc_80 => ?_) (fun cc_80 => ?_)
                · have l12 : cL σ < 12 := by have h9 : cL σ ≠ 12 := (fun h9 => cc_80 (by rw [eL, h9]; rfl)); omega
                  refine ok_bipush (pc := 90) (v := 99) dX12_letter_90 (by decide) ?_
                  refine ok_bipush (pc := 92) (v := 7) dX12_letter_92 (by decide) ?_
                  refine ok_iload (pc := 94) dX12_letter_94 rfl ?_
                  refine ok_imul (pc := 96) dX12_letter_96 ?_
                  refine ok_iadd (pc := 97) dX12_letter_97 ?_
                  refine ok_istore7 (pc := 98) dX12_letter_98 (by decide) rfl ?_
                  refine ok_aload_n (pc := 100) dX12_letter_100 rfl ?_
                  refine ok_getf (pc := 101) dX12_letter_101 fl_X12_9 hR.o rfl ?_
                  refine ok_iload (pc := 104) dX12_letter_104 rfl ?_
                  refine ok_iconst (pc := 106) (v := 0) dX12_letter_106 (by decide) ?_
                  refine ok_iadd (pc := 107) dX12_letter_107 ?_
                  refine ok_iload_n (pc := 108) dX12_letter_108 rfl ?_
                  refine ok_rst0 (pc := 109) (99 + 7 * cL σ) dX12_letter_109 hR (by simp only [eL, Nat.add_zero, fa_lit, pk_mul, nI_add]) (by omega) (fun M hR => ?_)
                  refine ok_aload_n (pc := 110) dX12_letter_110 rfl ?_
                  refine ok_getf (pc := 111) dX12_letter_111 fl_X12_9 hR.o rfl ?_
                  refine ok_iload (pc := 114) dX12_letter_114 rfl ?_
                  refine ok_iconst (pc := 116) (v := 1) dX12_letter_116 (by decide) ?_
                  refine ok_iadd (pc := 117) dX12_letter_117 ?_
                  refine ok_iload_n (pc := 118) dX12_letter_118 rfl ?_
                  refine ok_rst0 (pc := 119) (99 + 7 * cL σ + 1) dX12_letter_119 hR (by simp only [eL, fa_lit, pk_mul, nI_add]) (by omega) (fun M hR => ?_)
                  refine ok_aload_n (pc := 120) dX12_letter_120 rfl ?_
                  refine ok_getf (pc := 121) dX12_letter_121 fl_X12_9 hR.o rfl ?_
                  refine ok_iload (pc := 124) dX12_letter_124 rfl ?_
                  refine ok_iconst (pc := 126) (v := 2) dX12_letter_126 (by decide) ?_
                  refine ok_iadd (pc := 127) dX12_letter_127 ?_
                  refine ok_iload_n (pc := 128) dX12_letter_128 rfl ?_
                  refine ok_rst0 (pc := 129) (99 + 7 * cL σ + 2) dX12_letter_129 hR (by simp only [eL, fa_lit, pk_mul, nI_add]) (by omega) (fun M hR => ?_)
                  refine ok_aload_n (pc := 130) dX12_letter_130 rfl ?_
                  refine ok_getf (pc := 131) dX12_letter_131 fl_X12_9 hR.o rfl ?_
                  refine ok_iload (pc := 134) dX12_letter_134 rfl ?_
                  refine ok_iconst (pc := 136) (v := 3) dX12_letter_136 (by decide) ?_
                  refine ok_iadd (pc := 137) dX12_letter_137 ?_
                  refine ok_iload (pc := 138) dX12_letter_138 rfl ?_
                  refine ok_rst0 (pc := 140) (99 + 7 * cL σ + 3) dX12_letter_140 hR (by simp only [eL, fa_lit, pk_mul, nI_add]) (by omega) (fun M hR => ?_)
                  refine ok_aload_n (pc := 141) dX12_letter_141 rfl ?_
                  refine ok_getf (pc := 142) dX12_letter_142 fl_X12_9 hR.o rfl ?_
                  refine ok_iload (pc := 145) dX12_letter_145 rfl ?_
                  refine ok_iconst (pc := 147) (v := 4) dX12_letter_147 (by decide) ?_
                  refine ok_iadd (pc := 148) dX12_letter_148 ?_
                  refine ok_aload_n (pc := 149) dX12_letter_149 rfl ?_
                  refine ok_getf (pc := 150) dX12_letter_150 fl_X12_9 hR.o rfl ?_
                  refine ok_iconst (pc := 153) (v := 0) dX12_letter_153 (by decide) ?_
                  refine ok_iald (pc := 154) (0) dX12_letter_154 hR.a0 rfl (by decide) (by decide) ?_
                  rw [upd_ne (show 0 ≠ 99 + 7 * cL σ + 3 by omega), upd_ne (show 0 ≠ 99 + 7 * cL σ + 2 by omega), upd_ne (show 0 ≠ 99 + 7 * cL σ + 1 by omega), upd_ne (show 0 ≠ 99 + 7 * cL σ by omega)]
                  refine ok_rst0 (pc := 155) (99 + 7 * cL σ + 4) dX12_letter_155 hR (by simp only [eL, fa_lit, pk_mul, nI_add]) (by omega) (fun M hR => ?_)
                  refine ok_aload_n (pc := 156) dX12_letter_156 rfl ?_
                  refine ok_getf (pc := 157) dX12_letter_157 fl_X12_9 hR.o rfl ?_
                  refine ok_iload (pc := 160) dX12_letter_160 rfl ?_
                  refine ok_iconst (pc := 162) (v := 5) dX12_letter_162 (by decide) ?_
                  refine ok_iadd (pc := 163) dX12_letter_163 ?_
                  refine ok_iload_n (pc := 164) dX12_letter_164 rfl ?_
                  refine ok_rst0 (pc := 165) (99 + 7 * cL σ + 5) dX12_letter_165 hR (by simp only [eL, fa_lit, pk_mul, nI_add]) (by omega) (fun M hR => ?_)
                  refine ok_aload_n (pc := 166) dX12_letter_166 rfl ?_
                  refine ok_getf (pc := 167) dX12_letter_167 fl_X12_9 hR.o rfl ?_
                  refine ok_iload (pc := 170) dX12_letter_170 rfl ?_
                  refine ok_bipush (pc := 172) (v := 6) dX12_letter_172 (by decide) ?_
                  refine ok_iadd (pc := 174) dX12_letter_174 ?_
                  refine ok_iconst (pc := 175) (v := -1) dX12_letter_175 (by decide) ?_
                  refine ok_rst0 (pc := 176) (99 + 7 * cL σ + 6) dX12_letter_176 hR (by simp only [eL, fa_lit, pk_mul, nI_add]) (by omega) (fun M hR => ?_)
                  refine ok_aload_n (pc := 177) dX12_letter_177 rfl ?_
                  refine ok_getf (pc := 178) dX12_letter_178 fl_X12_9 hR.o rfl ?_
                  refine ok_iconst (pc := 181) (v := 3) dX12_letter_181 (by decide) ?_
                  refine ok_dup2 (pc := 182) dX12_letter_182 rfl rfl ?_
                  refine ok_iald (pc := 183) (3) dX12_letter_183 hR.a0 rfl (by decide) (by decide) ?_
                  refine ok_iconst (pc := 184) (v := 1) dX12_letter_184 (by decide) ?_
                  refine ok_iadd (pc := 185) dX12_letter_185 ?_
                  refine ok_rst0 (pc := 186) (3) dX12_letter_186 hR rfl (by decide) (fun M hR => ?_)
                  refine ok_iload (pc := 187) dX12_letter_187 rfl ?_
                  refine ok_iret (pc := 189) dX12_letter_189 rfl ?_
                  have e3_ : (upd (upd (upd (upd (upd (upd (upd σ (99 + 7 * cL σ) x) (99 + 7 * cL σ + 1) y) (99 + 7 * cL σ + 2) z) (99 + 7 * cL σ + 3) w) (99 + 7 * cL σ + 4) (σ 0)) (99 + 7 * cL σ + 5) x) (99 + 7 * cL σ + 6) (-1)) 3 = σ 3 := by rw [upd_ne (by omega), upd_ne (by omega), upd_ne (by omega), upd_ne (by omega), upd_ne (by omega), upd_ne (by omega), upd_ne (by omega)]
                  first
                    | exact absurd rfl cc_58
                    | (have hc : (wi x 0 (σ 1 - 1) && wi y 0 (σ 1 - 1) && !(decide (x = y)) && wi z 0 30 && (decide (w = -1) || wi w 0 (σ 3 - 1))) = true := by first | (simp [cq_6, cq_15, cc_20, cq_30, cq_46]; done) | (simp [cq_6, cq_15, cc_20, cq_30, cc_36]; done)
                       have eo : op_letter σ x y z w = ((0, nI (cL σ), letF σ (cL σ) x y z w) : Op3) := by
                         unfold op_letter
                         rw [if_pos hc, if_neg cc_80]
                       rw [eo] at k
                       rw [e3_] at hR
                       rw [eL]
                       exact k _ (RefW.ok hR hv hw))
                · refine ok_aload_n (pc := 83) dX12_letter_83 rfl ?_
                  refine ok_ldc (pc := 84) (v := -1000000004) dX12_letter_84 tw_1216 ?_
                  refine ok_callVi1 (pc := 86) (d' := 0) dX12_letter_86 vl_X12_84 hR.o rfl rfl rfl (by decide) ?_
                  refine r_finding hR 4 (by decide) (by decide) (fun M hR => ?_)
                  refine ok_iret (pc := 89) dX12_letter_89 rfl ?_
                  first
                    | exact absurd rfl cc_58
                    | (have hc : (wi x 0 (σ 1 - 1) && wi y 0 (σ 1 - 1) && !(decide (x = y)) && wi z 0 30 && (decide (w = -1) || wi w 0 (σ 3 - 1))) = true := by first | (simp [cq_6, cq_15, cc_20, cq_30, cq_46]; done) | (simp [cq_6, cq_15, cc_20, cq_30, cc_36]; done)
                       have eo : op_letter σ x y z w = ((4, -1000000004, σ) : Op3) := by
                         unfold op_letter
                         rw [if_pos hc, if_pos cc_80]
                         rfl
                       rw [eo] at k
                       exact k _ (RefW.err 4 (by decide) hR hv hw))
              · refine ok_aload_n (pc := 61) dX12_letter_61 rfl ?_
                refine ok_ldc (pc := 62) (v := -1000000001) dX12_letter_62 tw_1205 ?_
                refine ok_callVi1 (pc := 64) (d' := 0) dX12_letter_64 vl_X12_84 hR.o rfl rfl rfl (by decide) ?_
                refine r_finding hR 1 (by decide) (by decide) (fun M hR => ?_)
                refine ok_iret (pc := 67) dX12_letter_67 rfl ?_
                first
                  | exact absurd cc_58 (by decide)
                  | (have eo : op_letter σ x y z w = ((1, -1000000001, σ) : Op3) := by simp [op_letter, e3, cq_6, cq_15, cc_20, cq_30, cc_36, cq_46, cc_58]; try decide
                     rw [eo] at k
                     exact k _ (RefW.err 1 (by decide) hR hv hw))
            · have cq_46 := bI_n0.mp cc_46
              refine ok_iconst (pc := 49) (v := 1) dX12_letter_49 (by decide) ?_
              refine ok_goto (pc := 50) 54 dX12_letter_50 (by decide) ?_
              refine ok_istore5 (pc := 54) dX12_letter_54 (by decide) rfl ?_
              refine ok_iload (pc := 56) dX12_letter_56 rfl ?_
              refine ok_if_ne (pc := 58) 68 dX12_letter_58 (by decide) (fun cc_58 => ?_) (fun cc_58 => ?_)
              · refine ok_aload_n (pc := 68) dX12_letter_68 rfl ?_
                refine ok_getf (pc := 69) dX12_letter_69 fl_X12_9 hR.o rfl ?_
                refine ok_iconst (pc := 72) (v := 3) dX12_letter_72 (by decide) ?_
                refine ok_iald (pc := 73) (3) dX12_letter_73 hR.a0 rfl (by decide) (by decide) ?_
                refine ok_istore6 (pc := 74) dX12_letter_74 (by decide) rfl ?_
                refine ok_iload (pc := 76) dX12_letter_76 rfl ?_
                refine ok_bipush (pc := 78) (v := 12) dX12_letter_78 (by decide) ?_
                refine ok_icmp_ne (pc := 80) 90 dX12_letter_80 (by decide) (fun cc_80 => ?_) (fun cc_80 => ?_)
                · have l12 : cL σ < 12 := by have h9 : cL σ ≠ 12 := (fun h9 => cc_80 (by rw [eL, h9]; rfl)); omega
                  refine ok_bipush (pc := 90) (v := 99) dX12_letter_90 (by decide) ?_
                  refine ok_bipush (pc := 92) (v := 7) dX12_letter_92 (by decide) ?_
                  refine ok_iload (pc := 94) dX12_letter_94 rfl ?_
                  refine ok_imul (pc := 96) dX12_letter_96 ?_
                  refine ok_iadd (pc := 97) dX12_letter_97 ?_
                  refine ok_istore7 (pc := 98) dX12_letter_98 (by decide) rfl ?_
                  refine ok_aload_n (pc := 100) dX12_letter_100 rfl ?_
                  refine ok_getf (pc := 101) dX12_letter_101 fl_X12_9 hR.o rfl ?_
                  refine ok_iload (pc := 104) dX12_letter_104 rfl ?_
                  refine ok_iconst (pc := 106) (v := 0) dX12_letter_106 (by decide) ?_
                  refine ok_iadd (pc := 107) dX12_letter_107 ?_
                  refine ok_iload_n (pc := 108) dX12_letter_108 rfl ?_
                  refine ok_rst0 (pc := 109) (99 + 7 * cL σ) dX12_letter_109 hR (by simp only [eL, Nat.add_zero, fa_lit, pk_mul, nI_add]) (by omega) (fun M hR => ?_)
                  refine ok_aload_n (pc := 110) dX12_letter_110 rfl ?_
                  refine ok_getf (pc := 111) dX12_letter_111 fl_X12_9 hR.o rfl ?_
                  refine ok_iload (pc := 114) dX12_letter_114 rfl ?_
                  refine ok_iconst (pc := 116) (v := 1) dX12_letter_116 (by decide) ?_
                  refine ok_iadd (pc := 117) dX12_letter_117 ?_
                  refine ok_iload_n (pc := 118) dX12_letter_118 rfl ?_
                  refine ok_rst0 (pc := 119) (99 + 7 * cL σ + 1) dX12_letter_119 hR (by simp only [eL, fa_lit, pk_mul, nI_add]) (by omega) (fun M hR => ?_)
                  refine ok_aload_n (pc := 120) dX12_letter_120 rfl ?_
                  refine ok_getf (pc := 121) dX12_letter_121 fl_X12_9 hR.o rfl ?_
                  refine ok_iload (pc := 124) dX12_letter_124 rfl ?_
                  refine ok_iconst (pc := 126) (v := 2) dX12_letter_126 (by decide) ?_
                  refine ok_iadd (pc := 127) dX12_letter_127 ?_
                  refine ok_iload_n (pc := 128) dX12_letter_128 rfl ?_
                  refine ok_rst0 (pc := 129) (99 + 7 * cL σ + 2) dX12_letter_129 hR (by simp only [eL, fa_lit, pk_mul, nI_add]) (by omega) (fun M hR => ?_)
                  refine ok_aload_n (pc := 130) dX12_letter_130 rfl ?_
                  refine ok_getf (pc := 131) dX12_letter_131 fl_X12_9 hR.o rfl ?_
                  refine ok_iload (pc := 134) dX12_letter_134 rfl ?_
                  refine ok_iconst (pc := 136) (v := 3) dX12_letter_136 (by decide) ?_
                  refine ok_iadd (pc := 137) dX12_letter_137 ?_
                  refine ok_iload (pc := 138) dX12_letter_138 rfl ?_
                  refine ok_rst0 (pc := 140) (99 + 7 * cL σ + 3) dX12_letter_140 hR (by simp only [eL, fa_lit, pk_mul, nI_add]) (by omega) (fun M hR => ?_)
                  refine ok_aload_n (pc := 141) dX12_letter_141 rfl ?_
                  refine ok_getf (pc := 142) dX12_letter_142 fl_X12_9 hR.o rfl ?_
                  refine ok_iload (pc := 145) dX12_letter_145 rfl ?_
                  refine ok_iconst (pc := 147) (v := 4) dX12_letter_147 (by decide) ?_
                  refine ok_iadd (pc := 148) dX12_letter_148 ?_
                  refine ok_aload_n (pc := 149) dX12_letter_149 rfl ?_
                  refine ok_getf (pc := 150) dX12_letter_150 fl_X12_9 hR.o rfl ?_
                  refine ok_iconst (pc := 153) (v := 0) dX12_letter_153 (by decide) ?_
                  refine ok_iald (pc := 154) (0) dX12_letter_154 hR.a0 rfl (by decide) (by decide) ?_
                  rw [upd_ne (show 0 ≠ 99 + 7 * cL σ + 3 by omega), upd_ne (show 0 ≠ 99 + 7 * cL σ + 2 by omega), upd_ne (show 0 ≠ 99 + 7 * cL σ + 1 by omega), upd_ne (show 0 ≠ 99 + 7 * cL σ by omega)]
                  refine ok_rst0 (pc := 155) (99 + 7 * cL σ + 4) dX12_letter_155 hR (by simp only [eL, fa_lit, pk_mul, nI_add]) (by omega) (fun M hR => ?_)
                  refine ok_aload_n (pc := 156) dX12_letter_156 rfl ?_
                  refine ok_getf (pc := 157) dX12_letter_157 fl_X12_9 hR.o rfl ?_
                  refine ok_iload (pc := 160) dX12_letter_160 rfl ?_
                  refine ok_iconst (pc := 162) (v := 5) dX12_letter_162 (by decide) ?_
                  refine ok_iadd (pc := 163) dX12_letter_163 ?_
                  refine ok_iload_n (pc := 164) dX12_letter_164 rfl ?_
                  refine ok_rst0 (pc := 165) (99 + 7 * cL σ + 5) dX12_letter_165 hR (by simp only [eL, fa_lit, pk_mul, nI_add]) (by omega) (fun M hR => ?_)
                  refine ok_aload_n (pc := 166) dX12_letter_166 rfl ?_
                  refine ok_getf (pc := 167) dX12_letter_167 fl_X12_9 hR.o rfl ?_
                  refine ok_iload (pc := 170) dX12_letter_170 rfl ?_
                  refine ok_bipush (pc := 172) (v := 6) dX12_letter_172 (by decide) ?_
                  refine ok_iadd (pc := 174) dX12_letter_174 ?_
                  refine ok_iconst (pc := 175) (v := -1) dX12_letter_175 (by decide) ?_
                  refine ok_rst0 (pc := 176) (99 + 7 * cL σ + 6) dX12_letter_176 hR (by simp only [eL, fa_lit, pk_mul, nI_add]) (by omega) (fun M hR => ?_)
                  refine ok_aload_n (pc := 177) dX12_letter_177 rfl ?_
                  refine ok_getf (pc := 178) dX12_letter_178 fl_X12_9 hR.o rfl ?_
                  refine ok_iconst (pc := 181) (v := 3) dX12_letter_181 (by decide) ?_
                  refine ok_dup2 (pc := 182) dX12_letter_182 rfl rfl ?_
                  refine ok_iald (pc := 183) (3) dX12_letter_183 hR.a0 rfl (by decide) (by decide) ?_
                  refine ok_iconst (pc := 184) (v := 1) dX12_letter_184 (by decide) ?_
                  refine ok_iadd (pc := 185) dX12_letter_185 ?_
                  refine ok_rst0 (pc := 186) (3) dX12_letter_186 hR rfl (by decide) (fun M hR => ?_)
                  refine ok_iload (pc := 187) dX12_letter_187 rfl ?_
                  refine ok_iret (pc := 189) dX12_letter_189 rfl ?_
                  have e3_ : (upd (upd (upd (upd (upd (upd (upd σ (99 + 7 * cL σ) x) (99 + 7 * cL σ + 1) y) (99 + 7 * cL σ + 2) z) (99 + 7 * cL σ + 3) w) (99 + 7 * cL σ + 4) (σ 0)) (99 + 7 * cL σ + 5) x) (99 + 7 * cL σ + 6) (-1)) 3 = σ 3 := by rw [upd_ne (by omega), upd_ne (by omega), upd_ne (by omega), upd_ne (by omega), upd_ne (by omega), upd_ne (by omega), upd_ne (by omega)]
                  first
                    | exact absurd rfl cc_58
                    | (have hc : (wi x 0 (σ 1 - 1) && wi y 0 (σ 1 - 1) && !(decide (x = y)) && wi z 0 30 && (decide (w = -1) || wi w 0 (σ 3 - 1))) = true := by first | (simp [cq_6, cq_15, cc_20, cq_30, cq_46]; done) | (simp [cq_6, cq_15, cc_20, cq_30, cc_36]; done)
                       have eo : op_letter σ x y z w = ((0, nI (cL σ), letF σ (cL σ) x y z w) : Op3) := by
                         unfold op_letter
                         rw [if_pos hc, if_neg cc_80]
                       rw [eo] at k
                       rw [e3_] at hR
                       rw [eL]
                       exact k _ (RefW.ok hR hv hw))
                · refine ok_aload_n (pc := 83) dX12_letter_83 rfl ?_
                  refine ok_ldc (pc := 84) (v := -1000000004) dX12_letter_84 tw_1216 ?_
                  refine ok_callVi1 (pc := 86) (d' := 0) dX12_letter_86 vl_X12_84 hR.o rfl rfl rfl (by decide) ?_
                  refine r_finding hR 4 (by decide) (by decide) (fun M hR => ?_)
                  refine ok_iret (pc := 89) dX12_letter_89 rfl ?_
                  first
                    | exact absurd rfl cc_58
                    | (have hc : (wi x 0 (σ 1 - 1) && wi y 0 (σ 1 - 1) && !(decide (x = y)) && wi z 0 30 && (decide (w = -1) || wi w 0 (σ 3 - 1))) = true := by first | (simp [cq_6, cq_15, cc_20, cq_30, cq_46]; done) | (simp [cq_6, cq_15, cc_20, cq_30, cc_36]; done)
                       have eo : op_letter σ x y z w = ((4, -1000000004, σ) : Op3) := by
                         unfold op_letter
                         rw [if_pos hc, if_pos cc_80]
                         rfl
                       rw [eo] at k
                       exact k _ (RefW.err 4 (by decide) hR hv hw))
              · refine ok_aload_n (pc := 61) dX12_letter_61 rfl ?_
                refine ok_ldc (pc := 62) (v := -1000000001) dX12_letter_62 tw_1205 ?_
                refine ok_callVi1 (pc := 64) (d' := 0) dX12_letter_64 vl_X12_84 hR.o rfl rfl rfl (by decide) ?_
                refine r_finding hR 1 (by decide) (by decide) (fun M hR => ?_)
                refine ok_iret (pc := 67) dX12_letter_67 rfl ?_
                first
                  | exact absurd cc_58 (by decide)
                  | (have eo : op_letter σ x y z w = ((1, -1000000001, σ) : Op3) := by simp [op_letter, e3, cq_6, cq_15, cc_20, cq_30, cc_36, cq_46, cc_58]; try decide
                     rw [eo] at k
                     exact k _ (RefW.err 1 (by decide) hR hv hw))
