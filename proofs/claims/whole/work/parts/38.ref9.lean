set_option maxHeartbeats 1000000 in
theorem r_overlap {Γ : Cx} {m sz : Nat} {M0 M : Nat → Option va_E} {σ κ : Rw} {ri : Nat → Int32} {ra : Nat → Nat → Int32} {K : Int32 → Wd → Prop} (hR : RefX Γ m M0 σ κ ri ra M) {xI yI zI wI : Int32} (x y z w : Nat) (ex : xI = nI x) (ey : yI = nI y) (ez : zI = nI z) (ew : wI = nI w) (hx9 : x < 9) (hy9 : y < 9) (hz9 : z < 9) (hw9 : w < 9) (k : K (bI (ovlF σ x y z w)) (M, sz)) : Spec Γ mX12_overlap 1 0 [.ref m, .int xI, .int yI, .int zI, .int wI] (M, sz) (ci K) := by
  refine spec_in [some (.ref m), some (.int xI), some (.int yI), some (.int zI), some (.int wI), none, none, none, none] 4 (by decide) rfl rfl ?_
  refine ok_aload_n (pc := 0) dX12_overlap_0 rfl ?_
  refine ok_iload_n (pc := 1) dX12_overlap_1 rfl ?_
  refine ok_callVi1 (pc := 2) (d' := 0) dX12_overlap_2 vl_X12_124 hR.o rfl rfl rfl (by decide) ?_
  refine r_xOf2 hR x ex hx9 ?_
  refine ok_aload_n (pc := 5) dX12_overlap_5 rfl ?_
  refine ok_iload_n (pc := 6) dX12_overlap_6 rfl ?_
  refine ok_callVi1 (pc := 7) (d' := 0) dX12_overlap_7 vl_X12_124 hR.o rfl rfl rfl (by decide) ?_
  refine r_xOf2 hR y ey hy9 ?_
  refine ok_mmin (pc := 10) dX12_overlap_10 tw_1327 rfl (by decide) ?_
  refine ok_aload_n (pc := 13) dX12_overlap_13 rfl ?_
  refine ok_iload_n (pc := 14) dX12_overlap_14 rfl ?_
  refine ok_callVi1 (pc := 15) (d' := 0) dX12_overlap_15 vl_X12_124 hR.o rfl rfl rfl (by decide) ?_
  refine r_xOf2 hR z ez hz9 ?_
  refine ok_aload_n (pc := 18) dX12_overlap_18 rfl ?_
  refine ok_iload (pc := 19) dX12_overlap_19 rfl ?_
  refine ok_callVi1 (pc := 21) (d' := 0) dX12_overlap_21 vl_X12_124 hR.o rfl rfl rfl (by decide) ?_
  refine r_xOf2 hR w ew hw9 ?_
  refine ok_mmin (pc := 24) dX12_overlap_24 tw_1327 rfl (by decide) ?_
  refine ok_mmax (pc := 27) dX12_overlap_27 tw_1291 rfl (by decide) ?_
  refine ok_istore5 (pc := 30) dX12_overlap_30 (by decide) rfl ?_
  refine ok_aload_n (pc := 32) dX12_overlap_32 rfl ?_
  refine ok_iload_n (pc := 33) dX12_overlap_33 rfl ?_
  refine ok_callVi1 (pc := 34) (d' := 0) dX12_overlap_34 vl_X12_124 hR.o rfl rfl rfl (by decide) ?_
  refine r_xOf2 hR x ex hx9 ?_
  refine ok_aload_n (pc := 37) dX12_overlap_37 rfl ?_
  refine ok_iload_n (pc := 38) dX12_overlap_38 rfl ?_
  refine ok_callVi1 (pc := 39) (d' := 0) dX12_overlap_39 vl_X12_124 hR.o rfl rfl rfl (by decide) ?_
  refine r_xOf2 hR y ey hy9 ?_
  refine ok_mmax (pc := 42) dX12_overlap_42 tw_1291 rfl (by decide) ?_
  refine ok_aload_n (pc := 45) dX12_overlap_45 rfl ?_
  refine ok_iload_n (pc := 46) dX12_overlap_46 rfl ?_
  refine ok_callVi1 (pc := 47) (d' := 0) dX12_overlap_47 vl_X12_124 hR.o rfl rfl rfl (by decide) ?_
  refine r_xOf2 hR z ez hz9 ?_
  refine ok_aload_n (pc := 50) dX12_overlap_50 rfl ?_
  refine ok_iload (pc := 51) dX12_overlap_51 rfl ?_
  refine ok_callVi1 (pc := 53) (d' := 0) dX12_overlap_53 vl_X12_124 hR.o rfl rfl rfl (by decide) ?_
  refine r_xOf2 hR w ew hw9 ?_
  refine ok_mmax (pc := 56) dX12_overlap_56 tw_1291 rfl (by decide) ?_
  refine ok_mmin (pc := 59) dX12_overlap_59 tw_1327 rfl (by decide) ?_
  refine ok_istore6 (pc := 62) dX12_overlap_62 (by decide) rfl ?_
  refine ok_aload_n (pc := 64) dX12_overlap_64 rfl ?_
  refine ok_iload_n (pc := 65) dX12_overlap_65 rfl ?_
  refine ok_callVi1 (pc := 66) (d' := 0) dX12_overlap_66 vl_X12_130 hR.o rfl rfl rfl (by decide) ?_
  refine r_yOf hR x ex hx9 ?_
  refine ok_aload_n (pc := 69) dX12_overlap_69 rfl ?_
  refine ok_iload_n (pc := 70) dX12_overlap_70 rfl ?_
  refine ok_callVi1 (pc := 71) (d' := 0) dX12_overlap_71 vl_X12_130 hR.o rfl rfl rfl (by decide) ?_
  refine r_yOf hR y ey hy9 ?_
  refine ok_mmin (pc := 74) dX12_overlap_74 tw_1327 rfl (by decide) ?_
  refine ok_aload_n (pc := 77) dX12_overlap_77 rfl ?_
  refine ok_iload_n (pc := 78) dX12_overlap_78 rfl ?_
  refine ok_callVi1 (pc := 79) (d' := 0) dX12_overlap_79 vl_X12_130 hR.o rfl rfl rfl (by decide) ?_
  refine r_yOf hR z ez hz9 ?_
  refine ok_aload_n (pc := 82) dX12_overlap_82 rfl ?_
  refine ok_iload (pc := 83) dX12_overlap_83 rfl ?_
  refine ok_callVi1 (pc := 85) (d' := 0) dX12_overlap_85 vl_X12_130 hR.o rfl rfl rfl (by decide) ?_
  refine r_yOf hR w ew hw9 ?_
  refine ok_mmin (pc := 88) dX12_overlap_88 tw_1327 rfl (by decide) ?_
  refine ok_mmax (pc := 91) dX12_overlap_91 tw_1291 rfl (by decide) ?_
  refine ok_istore7 (pc := 94) dX12_overlap_94 (by decide) rfl ?_
  refine ok_aload_n (pc := 96) dX12_overlap_96 rfl ?_
  refine ok_iload_n (pc := 97) dX12_overlap_97 rfl ?_
  refine ok_callVi1 (pc := 98) (d' := 0) dX12_overlap_98 vl_X12_130 hR.o rfl rfl rfl (by decide) ?_
  refine r_yOf hR x ex hx9 ?_
  refine ok_aload_n (pc := 101) dX12_overlap_101 rfl ?_
  refine ok_iload_n (pc := 102) dX12_overlap_102 rfl ?_
  refine ok_callVi1 (pc := 103) (d' := 0) dX12_overlap_103 vl_X12_130 hR.o rfl rfl rfl (by decide) ?_
  refine r_yOf hR y ey hy9 ?_
  refine ok_mmax (pc := 106) dX12_overlap_106 tw_1291 rfl (by decide) ?_
  refine ok_aload_n (pc := 109) dX12_overlap_109 rfl ?_
  refine ok_iload_n (pc := 110) dX12_overlap_110 rfl ?_
  refine ok_callVi1 (pc := 111) (d' := 0) dX12_overlap_111 vl_X12_130 hR.o rfl rfl rfl (by decide) ?_
  refine r_yOf hR z ez hz9 ?_
  refine ok_aload_n (pc := 114) dX12_overlap_114 rfl ?_
  refine ok_iload (pc := 115) dX12_overlap_115 rfl ?_
  refine ok_callVi1 (pc := 117) (d' := 0) dX12_overlap_117 vl_X12_130 hR.o rfl rfl rfl (by decide) ?_
  refine r_yOf hR w ew hw9 ?_
  refine ok_mmax (pc := 120) dX12_overlap_120 tw_1291 rfl (by decide) ?_
  refine ok_mmin (pc := 123) dX12_overlap_123 tw_1327 rfl (by decide) ?_
  refine ok_istore8 (pc := 126) dX12_overlap_126 (by decide) rfl ?_
  refine ok_iload (pc := 128) dX12_overlap_128 rfl ?_
  refine ok_iload (pc := 130) dX12_overlap_130 rfl ?_
  refine ok_icmp_gt (pc := 132) 160 dX12_overlap_132 (by decide) (fun cc_132 => ?_) (fun cc_132 => ?_)
  · have ce_132 := Int32.not_le.mpr cc_132
    refine ok_iconst (pc := 160) (v := 0) dX12_overlap_160 (by decide) ?_
    refine ok_zret (pc := 161) dX12_overlap_161 rfl rfl ?_
    simpa [ovlF, bI, cc_132, ce_132] using k
  · have ce_132 := Int32.not_lt.mp cc_132
    refine ok_iload (pc := 135) dX12_overlap_135 rfl ?_
    refine ok_iload (pc := 137) dX12_overlap_137 rfl ?_
    refine ok_icmp_gt (pc := 139) 160 dX12_overlap_139 (by decide) (fun cc_139 => ?_) (fun cc_139 => ?_)
    · have ce_139 := Int32.not_le.mpr cc_139
      refine ok_iconst (pc := 160) (v := 0) dX12_overlap_160 (by decide) ?_
      refine ok_zret (pc := 161) dX12_overlap_161 rfl rfl ?_
      simpa [ovlF, bI, cc_132, ce_132, cc_139, ce_139] using k
    · have ce_139 := Int32.not_lt.mp cc_139
      refine ok_iload (pc := 142) dX12_overlap_142 rfl ?_
      refine ok_iload (pc := 144) dX12_overlap_144 rfl ?_
      refine ok_icmp_lt (pc := 146) 156 dX12_overlap_146 (by decide) (fun cc_146 => ?_) (fun cc_146 => ?_)
      · have ce_146 := Int32.not_le.mpr cc_146
        refine ok_iconst (pc := 156) (v := 1) dX12_overlap_156 (by decide) ?_
        refine ok_goto (pc := 157) 161 dX12_overlap_157 (by decide) ?_
        refine ok_zret (pc := 161) dX12_overlap_161 rfl rfl ?_
        simpa [ovlF, bI, cc_132, ce_132, cc_139, ce_139, cc_146, ce_146] using k
      · have ce_146 := Int32.not_lt.mp cc_146
        refine ok_iload (pc := 149) dX12_overlap_149 rfl ?_
        refine ok_iload (pc := 151) dX12_overlap_151 rfl ?_
        refine ok_icmp_ge (pc := 153) 160 dX12_overlap_153 (by decide) (fun cc_153 => ?_) (fun cc_153 => ?_)
        · have ce_153 := Int32.not_lt.mpr cc_153
          refine ok_iconst (pc := 160) (v := 0) dX12_overlap_160 (by decide) ?_
          refine ok_zret (pc := 161) dX12_overlap_161 rfl rfl ?_
          simpa [ovlF, bI, cc_132, ce_132, cc_139, ce_139, cc_146, ce_146, cc_153, ce_153] using k
        · have ce_153 := Int32.not_le.mp cc_153
          refine ok_iconst (pc := 156) (v := 1) dX12_overlap_156 (by decide) ?_
          refine ok_goto (pc := 157) 161 dX12_overlap_157 (by decide) ?_
          refine ok_zret (pc := 161) dX12_overlap_161 rfl rfl ?_
          simpa [ovlF, bI, cc_132, ce_132, cc_139, ce_139, cc_146, ce_146, cc_153, ce_153] using k

set_option maxHeartbeats 1000000 in
theorem r_haveMore {Γ : Cx} {m sz : Nat} {M0 M : Nat → Option va_E} {σ κ : Rw} {ri : Nat → Int32} {ra : Nat → Nat → Int32} {K : Int32 → Wd → Prop} (hR : RefX Γ m M0 σ κ ri ra M) {xI yI zI wI : Int32} (x y z w : Nat) (ex : xI = nI x) (ey : yI = nI y) (ez : zI = nI z) (ew : wI = nI w) (hx9 : x < 9) (hy9 : y < 9) (hz9 : z < 9) (hw9 : w < 9) (k : K (bI (hmrF σ x y z w)) (M, sz)) : Spec Γ mX12_haveMore 2 0 [.ref m, .int xI, .int yI, .int zI, .int wI] (M, sz) (ci K) := by
  refine spec_in [some (.ref m), some (.int xI), some (.int yI), some (.int zI), some (.int wI), none] 1 (by decide) rfl rfl ?_
  refine ok_aload_n (pc := 0) dX12_haveMore_0 rfl ?_
  refine ok_iload_n (pc := 1) dX12_haveMore_1 rfl ?_
  refine ok_iload_n (pc := 2) dX12_haveMore_2 rfl ?_
  refine ok_iload_n (pc := 3) dX12_haveMore_3 rfl ?_
  refine ok_callVi3 (pc := 4) (d' := 1) dX12_haveMore_4 vl_X12_230 hR.o rfl rfl rfl (by decide) ?_
  refine r_sideOf hR x y z ex ey ez hx9 hy9 hz9 ?_
  refine ok_if_ne (pc := 7) 31 dX12_haveMore_7 (by decide) (fun cc_7 => ?_) (fun cc_7 => ?_)
  · refine ok_iload_n (pc := 31) dX12_haveMore_31 rfl ?_
    refine ok_iload_n (pc := 32) dX12_haveMore_32 rfl ?_
    refine ok_icmp_eq (pc := 33) 53 dX12_haveMore_33 (by decide) (fun cc_33 => ?_) (fun cc_33 => ?_)
    · have cn_33 : x = z := (nI_eq (by omega) (by omega)).mp (by rw [← ex, ← ez]; exact cc_33)
      refine ok_iconst (pc := 53) (v := 0) dX12_haveMore_53 (by decide) ?_
      refine ok_zret (pc := 54) dX12_haveMore_54 rfl rfl ?_
      have hcol : ¬ (sgF (turnF σ x y z) = 0 ∧ sgF (turnF σ x y w) = 0) := by first | exact fun h => cc_7 h.1 | exact fun h => cc_18 h.2
      have hsh : x = z ∨ x = w ∨ y = z ∨ y = w := by omega
      have eo : hmrF σ x y z w = false := by
        unfold hmrF
        rw [if_neg hcol, if_pos hsh]
      rw [eo] at k
      exact k
    · have cn_33 : ¬ x = z := fun h => cc_33 (by rw [ex, ez, h])
      refine ok_iload_n (pc := 36) dX12_haveMore_36 rfl ?_
      refine ok_iload (pc := 37) dX12_haveMore_37 rfl ?_
      refine ok_icmp_eq (pc := 39) 53 dX12_haveMore_39 (by decide) (fun cc_39 => ?_) (fun cc_39 => ?_)
      · have cn_39 : x = w := (nI_eq (by omega) (by omega)).mp (by rw [← ex, ← ew]; exact cc_39)
        refine ok_iconst (pc := 53) (v := 0) dX12_haveMore_53 (by decide) ?_
        refine ok_zret (pc := 54) dX12_haveMore_54 rfl rfl ?_
        have hcol : ¬ (sgF (turnF σ x y z) = 0 ∧ sgF (turnF σ x y w) = 0) := by first | exact fun h => cc_7 h.1 | exact fun h => cc_18 h.2
        have hsh : x = z ∨ x = w ∨ y = z ∨ y = w := by omega
        have eo : hmrF σ x y z w = false := by
          unfold hmrF
          rw [if_neg hcol, if_pos hsh]
        rw [eo] at k
        exact k
      · have cn_39 : ¬ x = w := fun h => cc_39 (by rw [ex, ew, h])
        refine ok_iload_n (pc := 42) dX12_haveMore_42 rfl ?_
        refine ok_iload_n (pc := 43) dX12_haveMore_43 rfl ?_
        refine ok_icmp_eq (pc := 44) 53 dX12_haveMore_44 (by decide) (fun cc_44 => ?_) (fun cc_44 => ?_)
        · have cn_44 : y = z := (nI_eq (by omega) (by omega)).mp (by rw [← ey, ← ez]; exact cc_44)
          refine ok_iconst (pc := 53) (v := 0) dX12_haveMore_53 (by decide) ?_
          refine ok_zret (pc := 54) dX12_haveMore_54 rfl rfl ?_
          have hcol : ¬ (sgF (turnF σ x y z) = 0 ∧ sgF (turnF σ x y w) = 0) := by first | exact fun h => cc_7 h.1 | exact fun h => cc_18 h.2
          have hsh : x = z ∨ x = w ∨ y = z ∨ y = w := by omega
          have eo : hmrF σ x y z w = false := by
            unfold hmrF
            rw [if_neg hcol, if_pos hsh]
          rw [eo] at k
          exact k
        · have cn_44 : ¬ y = z := fun h => cc_44 (by rw [ey, ez, h])
          refine ok_iload_n (pc := 47) dX12_haveMore_47 rfl ?_
          refine ok_iload (pc := 48) dX12_haveMore_48 rfl ?_
          refine ok_icmp_ne (pc := 50) 55 dX12_haveMore_50 (by decide) (fun cc_50 => ?_) (fun cc_50 => ?_)
          · have cn_50 : ¬ y = w := fun h => cc_50 (by rw [ey, ew, h])
            refine ok_aload_n (pc := 55) dX12_haveMore_55 rfl ?_
            refine ok_iload_n (pc := 56) dX12_haveMore_56 rfl ?_
            refine ok_iload_n (pc := 57) dX12_haveMore_57 rfl ?_
            refine ok_iload_n (pc := 58) dX12_haveMore_58 rfl ?_
            refine ok_callVi3 (pc := 59) (d' := 1) dX12_haveMore_59 vl_X12_230 hR.o rfl rfl rfl (by decide) ?_
            refine r_sideOf hR x y z ex ey ez hx9 hy9 hz9 ?_
            refine ok_aload_n (pc := 62) dX12_haveMore_62 rfl ?_
            refine ok_iload_n (pc := 63) dX12_haveMore_63 rfl ?_
            refine ok_iload_n (pc := 64) dX12_haveMore_64 rfl ?_
            refine ok_iload (pc := 65) dX12_haveMore_65 rfl ?_
            refine ok_callVi3 (pc := 67) (d' := 1) dX12_haveMore_67 vl_X12_230 hR.o rfl rfl rfl (by decide) ?_
            refine r_sideOf hR x y w ex ey ew hx9 hy9 hw9 ?_
            refine ok_imul (pc := 70) dX12_haveMore_70 ?_
            refine ok_if_gt (pc := 71) 94 dX12_haveMore_71 (by decide) (fun cc_71 => ?_) (fun cc_71 => ?_)
            · have ce_71 := Int32.not_le.mpr cc_71
              refine ok_iconst (pc := 94) (v := 1) dX12_haveMore_94 (by decide) ?_
              refine ok_goto (pc := 95) 99 dX12_haveMore_95 (by decide) ?_
              refine ok_istore5 (pc := 99) dX12_haveMore_99 (by decide) rfl ?_
              refine ok_iload (pc := 101) dX12_haveMore_101 rfl ?_
              refine ok_if_ne (pc := 103) 110 dX12_haveMore_103 (by decide) (fun cc_103 => ?_) (fun cc_103 => ?_)
              · refine ok_iconst (pc := 110) (v := 0) dX12_haveMore_110 (by decide) ?_
                refine ok_zret (pc := 111) dX12_haveMore_111 rfl rfl ?_
                have hcol : ¬ (sgF (turnF σ x y z) = 0 ∧ sgF (turnF σ x y w) = 0) := by first | exact fun h => cc_7 h.1 | exact fun h => cc_18 h.2
                have hns : ¬ (x = z ∨ x = w ∨ y = z ∨ y = w) := by omega
                have eo : hmrF σ x y z w = !(decide (0 < sgF (turnF σ x y z) * sgF (turnF σ x y w)) || decide (0 < sgF (turnF σ z w x) * sgF (turnF σ z w y))) := by
                  unfold hmrF
                  rw [if_neg hcol, if_neg hns]
                rw [eo] at k
                first
                  | exact absurd cc_103 (by decide)
                  | exact absurd rfl cc_103
                  | (simpa [bI, cc_71] using k)
                  | (simpa [bI, ce_71, ce_91] using k)
                  | (simpa [bI, ce_71, cc_91] using k)
                  | (simpa [bI, cc_71, cc_91] using k)
              · refine ok_iconst (pc := 106) (v := 1) dX12_haveMore_106 (by decide) ?_
                refine ok_goto (pc := 107) 111 dX12_haveMore_107 (by decide) ?_
                refine ok_zret (pc := 111) dX12_haveMore_111 rfl rfl ?_
                have hcol : ¬ (sgF (turnF σ x y z) = 0 ∧ sgF (turnF σ x y w) = 0) := by first | exact fun h => cc_7 h.1 | exact fun h => cc_18 h.2
                have hns : ¬ (x = z ∨ x = w ∨ y = z ∨ y = w) := by omega
                have eo : hmrF σ x y z w = !(decide (0 < sgF (turnF σ x y z) * sgF (turnF σ x y w)) || decide (0 < sgF (turnF σ z w x) * sgF (turnF σ z w y))) := by
                  unfold hmrF
                  rw [if_neg hcol, if_neg hns]
                rw [eo] at k
                first
                  | exact absurd cc_103 (by decide)
                  | exact absurd rfl cc_103
                  | (simpa [bI, cc_71] using k)
                  | (simpa [bI, ce_71, ce_91] using k)
                  | (simpa [bI, ce_71, cc_91] using k)
                  | (simpa [bI, cc_71, cc_91] using k)
            · have ce_71 := Int32.not_lt.mp cc_71
              refine ok_aload_n (pc := 74) dX12_haveMore_74 rfl ?_
              refine ok_iload_n (pc := 75) dX12_haveMore_75 rfl ?_
              refine ok_iload (pc := 76) dX12_haveMore_76 rfl ?_
              refine ok_iload_n (pc := 78) dX12_haveMore_78 rfl ?_
              refine ok_callVi3 (pc := 79) (d' := 1) dX12_haveMore_79 vl_X12_230 hR.o rfl rfl rfl (by decide) ?_
              refine r_sideOf hR z w x ez ew ex hz9 hw9 hx9 ?_
              refine ok_aload_n (pc := 82) dX12_haveMore_82 rfl ?_
              refine ok_iload_n (pc := 83) dX12_haveMore_83 rfl ?_
              refine ok_iload (pc := 84) dX12_haveMore_84 rfl ?_
              refine ok_iload_n (pc := 86) dX12_haveMore_86 rfl ?_
              refine ok_callVi3 (pc := 87) (d' := 1) dX12_haveMore_87 vl_X12_230 hR.o rfl rfl rfl (by decide) ?_
              refine r_sideOf hR z w y ez ew ey hz9 hw9 hy9 ?_
              refine ok_imul (pc := 90) dX12_haveMore_90 ?_
              refine ok_if_le (pc := 91) 98 dX12_haveMore_91 (by decide) (fun cc_91 => ?_) (fun cc_91 => ?_)
              · have ce_91 := Int32.not_lt.mpr cc_91
                refine ok_iconst (pc := 98) (v := 0) dX12_haveMore_98 (by decide) ?_
                refine ok_istore5 (pc := 99) dX12_haveMore_99 (by decide) rfl ?_
                refine ok_iload (pc := 101) dX12_haveMore_101 rfl ?_
                refine ok_if_ne (pc := 103) 110 dX12_haveMore_103 (by decide) (fun cc_103 => ?_) (fun cc_103 => ?_)
                · refine ok_iconst (pc := 110) (v := 0) dX12_haveMore_110 (by decide) ?_
                  refine ok_zret (pc := 111) dX12_haveMore_111 rfl rfl ?_
                  have hcol : ¬ (sgF (turnF σ x y z) = 0 ∧ sgF (turnF σ x y w) = 0) := by first | exact fun h => cc_7 h.1 | exact fun h => cc_18 h.2
                  have hns : ¬ (x = z ∨ x = w ∨ y = z ∨ y = w) := by omega
                  have eo : hmrF σ x y z w = !(decide (0 < sgF (turnF σ x y z) * sgF (turnF σ x y w)) || decide (0 < sgF (turnF σ z w x) * sgF (turnF σ z w y))) := by
                    unfold hmrF
                    rw [if_neg hcol, if_neg hns]
                  rw [eo] at k
                  first
                    | exact absurd cc_103 (by decide)
                    | exact absurd rfl cc_103
                    | (simpa [bI, cc_71] using k)
                    | (simpa [bI, ce_71, ce_91] using k)
                    | (simpa [bI, ce_71, cc_91] using k)
                    | (simpa [bI, cc_71, cc_91] using k)
                · refine ok_iconst (pc := 106) (v := 1) dX12_haveMore_106 (by decide) ?_
                  refine ok_goto (pc := 107) 111 dX12_haveMore_107 (by decide) ?_
                  refine ok_zret (pc := 111) dX12_haveMore_111 rfl rfl ?_
                  have hcol : ¬ (sgF (turnF σ x y z) = 0 ∧ sgF (turnF σ x y w) = 0) := by first | exact fun h => cc_7 h.1 | exact fun h => cc_18 h.2
                  have hns : ¬ (x = z ∨ x = w ∨ y = z ∨ y = w) := by omega
                  have eo : hmrF σ x y z w = !(decide (0 < sgF (turnF σ x y z) * sgF (turnF σ x y w)) || decide (0 < sgF (turnF σ z w x) * sgF (turnF σ z w y))) := by
                    unfold hmrF
                    rw [if_neg hcol, if_neg hns]
                  rw [eo] at k
                  first
                    | exact absurd cc_103 (by decide)
                    | exact absurd rfl cc_103
                    | (simpa [bI, cc_71] using k)
                    | (simpa [bI, ce_71, ce_91] using k)
                    | (simpa [bI, ce_71, cc_91] using k)
                    | (simpa [bI, cc_71, cc_91] using k)
              · have ce_91 := Int32.not_le.mp cc_91
                refine ok_iconst (pc := 94) (v := 1) dX12_haveMore_94 (by decide) ?_
                refine ok_goto (pc := 95) 99 dX12_haveMore_95 (by decide) ?_
                refine ok_istore5 (pc := 99) dX12_haveMore_99 (by decide) rfl ?_
                refine ok_iload (pc := 101) dX12_haveMore_101 rfl ?_
                refine ok_if_ne (pc := 103) 110 dX12_haveMore_103 (by decide) (fun cc_103 => ?_) (fun cc_103 => ?_)
                · refine ok_iconst (pc := 110) (v := 0) dX12_haveMore_110 (by decide) ?_
                  refine ok_zret (pc := 111) dX12_haveMore_111 rfl rfl ?_
                  have hcol : ¬ (sgF (turnF σ x y z) = 0 ∧ sgF (turnF σ x y w) = 0) := by first | exact fun h => cc_7 h.1 | exact fun h => cc_18 h.2
                  have hns : ¬ (x = z ∨ x = w ∨ y = z ∨ y = w) := by omega
                  have eo : hmrF σ x y z w = !(decide (0 < sgF (turnF σ x y z) * sgF (turnF σ x y w)) || decide (0 < sgF (turnF σ z w x) * sgF (turnF σ z w y))) := by
                    unfold hmrF
                    rw [if_neg hcol, if_neg hns]
                  rw [eo] at k
                  first
                    | exact absurd cc_103 (by decide)
                    | exact absurd rfl cc_103
                    | (simpa [bI, cc_71] using k)
                    | (simpa [bI, ce_71, ce_91] using k)
                    | (simpa [bI, ce_71, cc_91] using k)
                    | (simpa [bI, cc_71, cc_91] using k)
                · refine ok_iconst (pc := 106) (v := 1) dX12_haveMore_106 (by decide) ?_
                  refine ok_goto (pc := 107) 111 dX12_haveMore_107 (by decide) ?_
                  refine ok_zret (pc := 111) dX12_haveMore_111 rfl rfl ?_
                  have hcol : ¬ (sgF (turnF σ x y z) = 0 ∧ sgF (turnF σ x y w) = 0) := by first | exact fun h => cc_7 h.1 | exact fun h => cc_18 h.2
                  have hns : ¬ (x = z ∨ x = w ∨ y = z ∨ y = w) := by omega
                  have eo : hmrF σ x y z w = !(decide (0 < sgF (turnF σ x y z) * sgF (turnF σ x y w)) || decide (0 < sgF (turnF σ z w x) * sgF (turnF σ z w y))) := by
                    unfold hmrF
                    rw [if_neg hcol, if_neg hns]
                  rw [eo] at k
                  first
                    | exact absurd cc_103 (by decide)
                    | exact absurd rfl cc_103
                    | (simpa [bI, cc_71] using k)
                    | (simpa [bI, ce_71, ce_91] using k)
                    | (simpa [bI, ce_71, cc_91] using k)
                    | (simpa [bI, cc_71, cc_91] using k)
          · have cn_50 : y = w := (nI_eq (by omega) (by omega)).mp (by rw [← ey, ← ew]; exact cc_50)
            refine ok_iconst (pc := 53) (v := 0) dX12_haveMore_53 (by decide) ?_
            refine ok_zret (pc := 54) dX12_haveMore_54 rfl rfl ?_
            have hcol : ¬ (sgF (turnF σ x y z) = 0 ∧ sgF (turnF σ x y w) = 0) := by first | exact fun h => cc_7 h.1 | exact fun h => cc_18 h.2
            have hsh : x = z ∨ x = w ∨ y = z ∨ y = w := by omega
            have eo : hmrF σ x y z w = false := by
              unfold hmrF
              rw [if_neg hcol, if_pos hsh]
            rw [eo] at k
            exact k
  · refine ok_aload_n (pc := 10) dX12_haveMore_10 rfl ?_
    refine ok_iload_n (pc := 11) dX12_haveMore_11 rfl ?_
    refine ok_iload_n (pc := 12) dX12_haveMore_12 rfl ?_
    refine ok_iload (pc := 13) dX12_haveMore_13 rfl ?_
    refine ok_callVi3 (pc := 15) (d' := 1) dX12_haveMore_15 vl_X12_230 hR.o rfl rfl rfl (by decide) ?_
    refine r_sideOf hR x y w ex ey ew hx9 hy9 hw9 ?_
    refine ok_if_ne (pc := 18) 31 dX12_haveMore_18 (by decide) (fun cc_18 => ?_) (fun cc_18 => ?_)
    · refine ok_iload_n (pc := 31) dX12_haveMore_31 rfl ?_
      refine ok_iload_n (pc := 32) dX12_haveMore_32 rfl ?_
      refine ok_icmp_eq (pc := 33) 53 dX12_haveMore_33 (by decide) (fun cc_33 => ?_) (fun cc_33 => ?_)
      · have cn_33 : x = z := (nI_eq (by omega) (by omega)).mp (by rw [← ex, ← ez]; exact cc_33)
        refine ok_iconst (pc := 53) (v := 0) dX12_haveMore_53 (by decide) ?_
        refine ok_zret (pc := 54) dX12_haveMore_54 rfl rfl ?_
        have hcol : ¬ (sgF (turnF σ x y z) = 0 ∧ sgF (turnF σ x y w) = 0) := by first | exact fun h => cc_7 h.1 | exact fun h => cc_18 h.2
        have hsh : x = z ∨ x = w ∨ y = z ∨ y = w := by omega
        have eo : hmrF σ x y z w = false := by
          unfold hmrF
          rw [if_neg hcol, if_pos hsh]
        rw [eo] at k
        exact k
      · have cn_33 : ¬ x = z := fun h => cc_33 (by rw [ex, ez, h])
        refine ok_iload_n (pc := 36) dX12_haveMore_36 rfl ?_
        refine ok_iload (pc := 37) dX12_haveMore_37 rfl ?_
        refine ok_icmp_eq (pc := 39) 53 dX12_haveMore_39 (by decide) (fun cc_39 => ?_) (fun cc_39 => ?_)
        · have cn_39 : x = w := (nI_eq (by omega) (by omega)).mp (by rw [← ex, ← ew]; exact cc_39)
          refine ok_iconst (pc := 53) (v := 0) dX12_haveMore_53 (by decide) ?_
          refine ok_zret (pc := 54) dX12_haveMore_54 rfl rfl ?_
          have hcol : ¬ (sgF (turnF σ x y z) = 0 ∧ sgF (turnF σ x y w) = 0) := by first | exact fun h => cc_7 h.1 | exact fun h => cc_18 h.2
          have hsh : x = z ∨ x = w ∨ y = z ∨ y = w := by omega
          have eo : hmrF σ x y z w = false := by
            unfold hmrF
            rw [if_neg hcol, if_pos hsh]
          rw [eo] at k
          exact k
        · have cn_39 : ¬ x = w := fun h => cc_39 (by rw [ex, ew, h])
          refine ok_iload_n (pc := 42) dX12_haveMore_42 rfl ?_
          refine ok_iload_n (pc := 43) dX12_haveMore_43 rfl ?_
          refine ok_icmp_eq (pc := 44) 53 dX12_haveMore_44 (by decide) (fun cc_44 => ?_) (fun cc_44 => ?_)
          · have cn_44 : y = z := (nI_eq (by omega) (by omega)).mp (by rw [← ey, ← ez]; exact cc_44)
            refine ok_iconst (pc := 53) (v := 0) dX12_haveMore_53 (by decide) ?_
            refine ok_zret (pc := 54) dX12_haveMore_54 rfl rfl ?_
            have hcol : ¬ (sgF (turnF σ x y z) = 0 ∧ sgF (turnF σ x y w) = 0) := by first | exact fun h => cc_7 h.1 | exact fun h => cc_18 h.2
            have hsh : x = z ∨ x = w ∨ y = z ∨ y = w := by omega
            have eo : hmrF σ x y z w = false := by
              unfold hmrF
              rw [if_neg hcol, if_pos hsh]
            rw [eo] at k
            exact k
          · have cn_44 : ¬ y = z := fun h => cc_44 (by rw [ey, ez, h])
            refine ok_iload_n (pc := 47) dX12_haveMore_47 rfl ?_
            refine ok_iload (pc := 48) dX12_haveMore_48 rfl ?_
            refine ok_icmp_ne (pc := 50) 55 dX12_haveMore_50 (by decide) (fun cc_50 => ?_) (fun cc_50 => ?_)
            · have cn_50 : ¬ y = w := fun h => cc_50 (by rw [ey, ew, h])
              refine ok_aload_n (pc := 55) dX12_haveMore_55 rfl ?_
              refine ok_iload_n (pc := 56) dX12_haveMore_56 rfl ?_
              refine ok_iload_n (pc := 57) dX12_haveMore_57 rfl ?_
              refine ok_iload_n (pc := 58) dX12_haveMore_58 rfl ?_
              refine ok_callVi3 (pc := 59) (d' := 1) dX12_haveMore_59 vl_X12_230 hR.o rfl rfl rfl (by decide) ?_
              refine r_sideOf hR x y z ex ey ez hx9 hy9 hz9 ?_
              refine ok_aload_n (pc := 62) dX12_haveMore_62 rfl ?_
              refine ok_iload_n (pc := 63) dX12_haveMore_63 rfl ?_
              refine ok_iload_n (pc := 64) dX12_haveMore_64 rfl ?_
              refine ok_iload (pc := 65) dX12_haveMore_65 rfl ?_
              refine ok_callVi3 (pc := 67) (d' := 1) dX12_haveMore_67 vl_X12_230 hR.o rfl rfl rfl (by decide) ?_
              refine r_sideOf hR x y w ex ey ew hx9 hy9 hw9 ?_
              refine ok_imul (pc := 70) dX12_haveMore_70 ?_
              refine ok_if_gt (pc := 71) 94 dX12_haveMore_71 (by decide) (fun cc_71 => ?_) (fun cc_71 => ?_)
              · have ce_71 := Int32.not_le.mpr cc_71
                refine ok_iconst (pc := 94) (v := 1) dX12_haveMore_94 (by decide) ?_
                refine ok_goto (pc := 95) 99 dX12_haveMore_95 (by decide) ?_
                refine ok_istore5 (pc := 99) dX12_haveMore_99 (by decide) rfl ?_
                refine ok_iload (pc := 101) dX12_haveMore_101 rfl ?_
                refine ok_if_ne (pc := 103) 110 dX12_haveMore_103 (by decide) (fun cc_103 => ?_) (fun cc_103 => ?_)
                · refine ok_iconst (pc := 110) (v := 0) dX12_haveMore_110 (by decide) ?_
                  refine ok_zret (pc := 111) dX12_haveMore_111 rfl rfl ?_
                  have hcol : ¬ (sgF (turnF σ x y z) = 0 ∧ sgF (turnF σ x y w) = 0) := by first | exact fun h => cc_7 h.1 | exact fun h => cc_18 h.2
                  have hns : ¬ (x = z ∨ x = w ∨ y = z ∨ y = w) := by omega
                  have eo : hmrF σ x y z w = !(decide (0 < sgF (turnF σ x y z) * sgF (turnF σ x y w)) || decide (0 < sgF (turnF σ z w x) * sgF (turnF σ z w y))) := by
                    unfold hmrF
                    rw [if_neg hcol, if_neg hns]
                  rw [eo] at k
                  first
                    | exact absurd cc_103 (by decide)
                    | exact absurd rfl cc_103
                    | (simpa [bI, cc_71] using k)
                    | (simpa [bI, ce_71, ce_91] using k)
                    | (simpa [bI, ce_71, cc_91] using k)
                    | (simpa [bI, cc_71, cc_91] using k)
                · refine ok_iconst (pc := 106) (v := 1) dX12_haveMore_106 (by decide) ?_
                  refine ok_goto (pc := 107) 111 dX12_haveMore_107 (by decide) ?_
                  refine ok_zret (pc := 111) dX12_haveMore_111 rfl rfl ?_
                  have hcol : ¬ (sgF (turnF σ x y z) = 0 ∧ sgF (turnF σ x y w) = 0) := by first | exact fun h => cc_7 h.1 | exact fun h => cc_18 h.2
                  have hns : ¬ (x = z ∨ x = w ∨ y = z ∨ y = w) := by omega
                  have eo : hmrF σ x y z w = !(decide (0 < sgF (turnF σ x y z) * sgF (turnF σ x y w)) || decide (0 < sgF (turnF σ z w x) * sgF (turnF σ z w y))) := by
                    unfold hmrF
                    rw [if_neg hcol, if_neg hns]
                  rw [eo] at k
                  first
                    | exact absurd cc_103 (by decide)
                    | exact absurd rfl cc_103
                    | (simpa [bI, cc_71] using k)
                    | (simpa [bI, ce_71, ce_91] using k)
                    | (simpa [bI, ce_71, cc_91] using k)
                    | (simpa [bI, cc_71, cc_91] using k)
              · have ce_71 := Int32.not_lt.mp cc_71
                refine ok_aload_n (pc := 74) dX12_haveMore_74 rfl ?_
                refine ok_iload_n (pc := 75) dX12_haveMore_75 rfl ?_
                refine ok_iload (pc := 76) dX12_haveMore_76 rfl ?_
                refine ok_iload_n (pc := 78) dX12_haveMore_78 rfl ?_
                refine ok_callVi3 (pc := 79) (d' := 1) dX12_haveMore_79 vl_X12_230 hR.o rfl rfl rfl (by decide) ?_
                refine r_sideOf hR z w x ez ew ex hz9 hw9 hx9 ?_
                refine ok_aload_n (pc := 82) dX12_haveMore_82 rfl ?_
                refine ok_iload_n (pc := 83) dX12_haveMore_83 rfl ?_
                refine ok_iload (pc := 84) dX12_haveMore_84 rfl ?_
                refine ok_iload_n (pc := 86) dX12_haveMore_86 rfl ?_
                refine ok_callVi3 (pc := 87) (d' := 1) dX12_haveMore_87 vl_X12_230 hR.o rfl rfl rfl (by decide) ?_
                refine r_sideOf hR z w y ez ew ey hz9 hw9 hy9 ?_
                refine ok_imul (pc := 90) dX12_haveMore_90 ?_
                refine ok_if_le (pc := 91) 98 dX12_haveMore_91 (by decide) (fun cc_91 => ?_) (fun cc_91 => ?_)
                · have ce_91 := Int32.not_lt.mpr cc_91
                  refine ok_iconst (pc := 98) (v := 0) dX12_haveMore_98 (by decide) ?_
                  refine ok_istore5 (pc := 99) dX12_haveMore_99 (by decide) rfl ?_
                  refine ok_iload (pc := 101) dX12_haveMore_101 rfl ?_
                  refine ok_if_ne (pc := 103) 110 dX12_haveMore_103 (by decide) (fun cc_103 => ?_) (fun cc_103 => ?_)
                  · refine ok_iconst (pc := 110) (v := 0) dX12_haveMore_110 (by decide) ?_
                    refine ok_zret (pc := 111) dX12_haveMore_111 rfl rfl ?_
                    have hcol : ¬ (sgF (turnF σ x y z) = 0 ∧ sgF (turnF σ x y w) = 0) := by first | exact fun h => cc_7 h.1 | exact fun h => cc_18 h.2
                    have hns : ¬ (x = z ∨ x = w ∨ y = z ∨ y = w) := by omega
                    have eo : hmrF σ x y z w = !(decide (0 < sgF (turnF σ x y z) * sgF (turnF σ x y w)) || decide (0 < sgF (turnF σ z w x) * sgF (turnF σ z w y))) := by
                      unfold hmrF
                      rw [if_neg hcol, if_neg hns]
                    rw [eo] at k
                    first
                      | exact absurd cc_103 (by decide)
                      | exact absurd rfl cc_103
                      | (simpa [bI, cc_71] using k)
                      | (simpa [bI, ce_71, ce_91] using k)
                      | (simpa [bI, ce_71, cc_91] using k)
                      | (simpa [bI, cc_71, cc_91] using k)
                  · refine ok_iconst (pc := 106) (v := 1) dX12_haveMore_106 (by decide) ?_
                    refine ok_goto (pc := 107) 111 dX12_haveMore_107 (by decide) ?_
                    refine ok_zret (pc := 111) dX12_haveMore_111 rfl rfl ?_
                    have hcol : ¬ (sgF (turnF σ x y z) = 0 ∧ sgF (turnF σ x y w) = 0) := by first | exact fun h => cc_7 h.1 | exact fun h => cc_18 h.2
                    have hns : ¬ (x = z ∨ x = w ∨ y = z ∨ y = w) := by omega
                    have eo : hmrF σ x y z w = !(decide (0 < sgF (turnF σ x y z) * sgF (turnF σ x y w)) || decide (0 < sgF (turnF σ z w x) * sgF (turnF σ z w y))) := by
                      unfold hmrF
                      rw [if_neg hcol, if_neg hns]
                    rw [eo] at k
                    first
                      | exact absurd cc_103 (by decide)
                      | exact absurd rfl cc_103
                      | (simpa [bI, cc_71] using k)
                      | (simpa [bI, ce_71, ce_91] using k)
                      | (simpa [bI, ce_71, cc_91] using k)
                      | (simpa [bI, cc_71, cc_91] using k)
                · have ce_91 := Int32.not_le.mp cc_91
                  refine ok_iconst (pc := 94) (v := 1) dX12_haveMore_94 (by decide) ?_
                  refine ok_goto (pc := 95) 99 dX12_haveMore_95 (by decide) ?_
                  refine ok_istore5 (pc := 99) dX12_haveMore_99 (by decide) rfl ?_
                  refine ok_iload (pc := 101) dX12_haveMore_101 rfl ?_
                  refine ok_if_ne (pc := 103) 110 dX12_haveMore_103 (by decide) (fun cc_103 => ?_) (fun cc_103 => ?_)
                  · refine ok_iconst (pc := 110) (v := 0) dX12_haveMore_110 (by decide) ?_
                    refine ok_zret (pc := 111) dX12_haveMore_111 rfl rfl ?_
                    have hcol : ¬ (sgF (turnF σ x y z) = 0 ∧ sgF (turnF σ x y w) = 0) := by first | exact fun h => cc_7 h.1 | exact fun h => cc_18 h.2
                    have hns : ¬ (x = z ∨ x = w ∨ y = z ∨ y = w) := by omega
                    have eo : hmrF σ x y z w = !(decide (0 < sgF (turnF σ x y z) * sgF (turnF σ x y w)) || decide (0 < sgF (turnF σ z w x) * sgF (turnF σ z w y))) := by
                      unfold hmrF
                      rw [if_neg hcol, if_neg hns]
                    rw [eo] at k
                    first
                      | exact absurd cc_103 (by decide)
                      | exact absurd rfl cc_103
                      | (simpa [bI, cc_71] using k)
                      | (simpa [bI, ce_71, ce_91] using k)
                      | (simpa [bI, ce_71, cc_91] using k)
                      | (simpa [bI, cc_71, cc_91] using k)
                  · refine ok_iconst (pc := 106) (v := 1) dX12_haveMore_106 (by decide) ?_
                    refine ok_goto (pc := 107) 111 dX12_haveMore_107 (by decide) ?_
                    refine ok_zret (pc := 111) dX12_haveMore_111 rfl rfl ?_
                    have hcol : ¬ (sgF (turnF σ x y z) = 0 ∧ sgF (turnF σ x y w) = 0) := by first | exact fun h => cc_7 h.1 | exact fun h => cc_18 h.2
                    have hns : ¬ (x = z ∨ x = w ∨ y = z ∨ y = w) := by omega
                    have eo : hmrF σ x y z w = !(decide (0 < sgF (turnF σ x y z) * sgF (turnF σ x y w)) || decide (0 < sgF (turnF σ z w x) * sgF (turnF σ z w y))) := by
                      unfold hmrF
                      rw [if_neg hcol, if_neg hns]
                    rw [eo] at k
                    first
                      | exact absurd cc_103 (by decide)
                      | exact absurd rfl cc_103
                      | (simpa [bI, cc_71] using k)
                      | (simpa [bI, ce_71, ce_91] using k)
                      | (simpa [bI, ce_71, cc_91] using k)
                      | (simpa [bI, cc_71, cc_91] using k)
            · have cn_50 : y = w := (nI_eq (by omega) (by omega)).mp (by rw [← ey, ← ew]; exact cc_50)
              refine ok_iconst (pc := 53) (v := 0) dX12_haveMore_53 (by decide) ?_
              refine ok_zret (pc := 54) dX12_haveMore_54 rfl rfl ?_
              have hcol : ¬ (sgF (turnF σ x y z) = 0 ∧ sgF (turnF σ x y w) = 0) := by first | exact fun h => cc_7 h.1 | exact fun h => cc_18 h.2
              have hsh : x = z ∨ x = w ∨ y = z ∨ y = w := by omega
              have eo : hmrF σ x y z w = false := by
                unfold hmrF
                rw [if_neg hcol, if_pos hsh]
              rw [eo] at k
              exact k
    · refine ok_aload_n (pc := 21) dX12_haveMore_21 rfl ?_
      refine ok_iload_n (pc := 22) dX12_haveMore_22 rfl ?_
      refine ok_iload_n (pc := 23) dX12_haveMore_23 rfl ?_
      refine ok_iload_n (pc := 24) dX12_haveMore_24 rfl ?_
      refine ok_iload (pc := 25) dX12_haveMore_25 rfl ?_
      refine ok_callVi4 (pc := 27) (d' := 1) dX12_haveMore_27 vl_X12_233 hR.o rfl rfl rfl (by decide) ?_
      refine r_overlap hR x y z w ex ey ez ew hx9 hy9 hz9 hw9 ?_
      refine ok_zret (pc := 30) dX12_haveMore_30 rfl (bI_z _) ?_
      have eo : hmrF σ x y z w = ovlF σ x y z w := by
        unfold hmrF
        rw [if_pos ⟨cc_7, cc_18⟩]
      rw [eo] at k
      exact k

set_option maxHeartbeats 1000000 in
theorem r_isAheadOf {Γ : Cx} {m sz : Nat} {M0 M : Nat → Option va_E} {σ κ : Rw} {ri : Nat → Int32} {ra : Nat → Nat → Int32} {K : Int32 → Wd → Prop} (hR : RefX Γ m M0 σ κ ri ra M) {kI oI : Int32} (k0 o0 : Nat) (ek : kI = nI k0) (eo : oI = nI o0) (hk : k0 < 8) (ho : o0 < 8) (k : K (bI (ahF σ k0 o0)) (M, sz)) : Spec Γ mX12_isAheadOf 1 0 [.ref m, .int kI, .int oI] (M, sz) (ci K) := by
  refine spec_in [some (.ref m), some (.int kI), some (.int oI)] 0 (by decide) rfl rfl ?_
  refine ok_aload_n (pc := 0) dX12_isAheadOf_0 rfl ?_
  refine ok_iload_n (pc := 1) dX12_isAheadOf_1 rfl ?_
  refine ok_iconst (pc := 2) (v := 3) dX12_isAheadOf_2 (by decide) ?_
  refine ok_callVi2 (pc := 3) (d' := 0) dX12_isAheadOf_3 vl_X12_117 hR.o rfl rfl rfl (by decide) ?_
  refine r_kiteIs hR k0 ek 3 rfl hk (by decide) ?_
  refine ok_aload_n (pc := 6) dX12_isAheadOf_6 rfl ?_
  refine ok_iload_n (pc := 7) dX12_isAheadOf_7 rfl ?_
  refine ok_iconst (pc := 8) (v := 3) dX12_isAheadOf_8 (by decide) ?_
  refine ok_callVi2 (pc := 9) (d' := 0) dX12_isAheadOf_9 vl_X12_117 hR.o rfl rfl rfl (by decide) ?_
  refine r_kiteIs hR o0 eo 3 rfl ho (by decide) ?_
  refine ok_icmp_gt (pc := 12) 35 dX12_isAheadOf_12 (by decide) (fun cc_12 => ?_) (fun cc_12 => ?_)
  · have ce_12 := Int32.not_le.mpr cc_12
    refine ok_iconst (pc := 35) (v := 1) dX12_isAheadOf_35 (by decide) ?_
    refine ok_goto (pc := 36) 40 dX12_isAheadOf_36 (by decide) ?_
    refine ok_zret (pc := 40) dX12_isAheadOf_40 rfl rfl ?_
    first
      | (simpa [ahF, bI, cc_12, ce_12] using k)
      | (simpa [ahF, bI, cn_32, cc_12, ce_12] using k)
  · have ce_12 := Int32.not_lt.mp cc_12
    refine ok_aload_n (pc := 15) dX12_isAheadOf_15 rfl ?_
    refine ok_iload_n (pc := 16) dX12_isAheadOf_16 rfl ?_
    refine ok_iconst (pc := 17) (v := 3) dX12_isAheadOf_17 (by decide) ?_
    refine ok_callVi2 (pc := 18) (d' := 0) dX12_isAheadOf_18 vl_X12_117 hR.o rfl rfl rfl (by decide) ?_
    refine r_kiteIs hR k0 ek 3 rfl hk (by decide) ?_
    refine ok_aload_n (pc := 21) dX12_isAheadOf_21 rfl ?_
    refine ok_iload_n (pc := 22) dX12_isAheadOf_22 rfl ?_
    refine ok_iconst (pc := 23) (v := 3) dX12_isAheadOf_23 (by decide) ?_
    refine ok_callVi2 (pc := 24) (d' := 0) dX12_isAheadOf_24 vl_X12_117 hR.o rfl rfl rfl (by decide) ?_
    refine r_kiteIs hR o0 eo 3 rfl ho (by decide) ?_
    refine ok_icmp_ne (pc := 27) 39 dX12_isAheadOf_27 (by decide) (fun cc_27 => ?_) (fun cc_27 => ?_)
    · refine ok_iconst (pc := 39) (v := 0) dX12_isAheadOf_39 (by decide) ?_
      refine ok_zret (pc := 40) dX12_isAheadOf_40 rfl rfl ?_
      first
        | (simpa [ahF, bI, cc_12, ce_12, cc_27] using k)
        | (simpa [ahF, bI, cn_32, cc_12, ce_12, cc_27] using k)
    · refine ok_iload_n (pc := 30) dX12_isAheadOf_30 rfl ?_
      refine ok_iload_n (pc := 31) dX12_isAheadOf_31 rfl ?_
      refine ok_icmp_ge (pc := 32) 39 dX12_isAheadOf_32 (by decide) (fun cc_32 => ?_) (fun cc_32 => ?_)
      · have ce_32 := Int32.not_lt.mpr cc_32
        have cn_32 : ¬ k0 < o0 := fun h => by rw [ek, eo] at cc_32; exact nI_ge h (by omega) cc_32
        refine ok_iconst (pc := 39) (v := 0) dX12_isAheadOf_39 (by decide) ?_
        refine ok_zret (pc := 40) dX12_isAheadOf_40 rfl rfl ?_
        first
          | (simpa [ahF, bI, cc_12, ce_12, cc_27, cc_32, ce_32] using k)
          | (simpa [ahF, bI, cn_32, cc_12, ce_12, cc_27, cc_32, ce_32] using k)
      · have ce_32 := Int32.not_le.mp cc_32
        have cn_32 : k0 < o0 := by rw [ek, eo] at ce_32; exact (nI_ltI (by omega) (by omega)).mp ce_32
        refine ok_iconst (pc := 35) (v := 1) dX12_isAheadOf_35 (by decide) ?_
        refine ok_goto (pc := 36) 40 dX12_isAheadOf_36 (by decide) ?_
        refine ok_zret (pc := 40) dX12_isAheadOf_40 rfl rfl ?_
        first
          | (simpa [ahF, bI, cc_12, ce_12, cc_27, cc_32, ce_32] using k)
          | (simpa [ahF, bI, cn_32, cc_12, ce_12, cc_27, cc_32, ce_32] using k)

set_option maxHeartbeats 1000000 in
theorem r_crossEachOther {Γ : Cx} {m sz : Nat} {M0 M : Nat → Option va_E} {σ κ : Rw} {ri : Nat → Int32} {ra : Nat → Nat → Int32} {K : Int32 → Wd → Prop} (hR : RefX Γ m M0 σ κ ri ra M) {kI oI : Int32} (k0 o0 : Nat) (ek : kI = nI k0) (eo : oI = nI o0) (hk : k0 < cK σ) (ho : o0 < cK σ) (hI : Inv σ) (ak : 0 ≤ kf σ k0 5) (ao : 0 ≤ kf σ o0 5) (k : K (bI (crF σ k0 o0)) (M, sz)) : Spec Γ mX12_crossEachOther 3 0 [.ref m, .int kI, .int oI] (M, sz) (ci K) := by
  obtain ⟨⟨⟨eH, lH⟩, ⟨eK, lK⟩, -⟩, iK, -⟩ := id hI
  obtain ⟨⟨ehk, lhk⟩, -⟩ := iK k0 hk
  obtain ⟨⟨eho, lho⟩, -⟩ := iK o0 ho
  obtain ⟨eak, lak, -⟩ := InvK.aim iK hk ak
  obtain ⟨eao, lao, -⟩ := InvK.aim iK ho ao
  refine spec_in [some (.ref m), some (.int kI), some (.int oI)] 0 (by decide) rfl rfl ?_
  refine ok_aload_n (pc := 0) dX12_crossEachOther_0 rfl ?_
  refine ok_aload_n (pc := 1) dX12_crossEachOther_1 rfl ?_
  refine ok_iload_n (pc := 2) dX12_crossEachOther_2 rfl ?_
  refine ok_iconst (pc := 3) (v := 2) dX12_crossEachOther_3 (by decide) ?_
  refine ok_callVi2 (pc := 4) (d' := 0) dX12_crossEachOther_4 vl_X12_117 hR.o rfl rfl rfl (by decide) ?_
  refine r_kiteIs hR k0 ek 2 rfl (by omega) (by decide) ?_
  refine ok_aload_n (pc := 7) dX12_crossEachOther_7 rfl ?_
  refine ok_iload_n (pc := 8) dX12_crossEachOther_8 rfl ?_
  refine ok_iconst (pc := 9) (v := 5) dX12_crossEachOther_9 (by decide) ?_
  refine ok_callVi2 (pc := 10) (d' := 0) dX12_crossEachOther_10 vl_X12_117 hR.o rfl rfl rfl (by decide) ?_
  refine r_kiteIs hR k0 ek 5 rfl (by omega) (by decide) ?_
  refine ok_aload_n (pc := 13) dX12_crossEachOther_13 rfl ?_
  refine ok_iload_n (pc := 14) dX12_crossEachOther_14 rfl ?_
  refine ok_iconst (pc := 15) (v := 2) dX12_crossEachOther_15 (by decide) ?_
  refine ok_callVi2 (pc := 16) (d' := 0) dX12_crossEachOther_16 vl_X12_117 hR.o rfl rfl rfl (by decide) ?_
  refine r_kiteIs hR o0 eo 2 rfl (by omega) (by decide) ?_
  refine ok_aload_n (pc := 19) dX12_crossEachOther_19 rfl ?_
  refine ok_iload_n (pc := 20) dX12_crossEachOther_20 rfl ?_
  refine ok_iconst (pc := 21) (v := 5) dX12_crossEachOther_21 (by decide) ?_
  refine ok_callVi2 (pc := 22) (d' := 0) dX12_crossEachOther_22 vl_X12_117 hR.o rfl rfl rfl (by decide) ?_
  refine r_kiteIs hR o0 eo 5 rfl (by omega) (by decide) ?_
  refine ok_callVi4 (pc := 25) (d' := 2) dX12_crossEachOther_25 vl_X12_237 hR.o rfl rfl rfl (by decide) ?_
  refine r_haveMore hR (hmF σ k0) (amF σ k0) (hmF σ o0) (amF σ o0) ehk eak eho eao (by omega) (by omega) (by omega) (by omega) ?_
  refine ok_zret (pc := 28) dX12_crossEachOther_28 rfl (bI_z _) ?_
  exact k

set_option maxHeartbeats 1000000 in
theorem r_hasLine {Γ : Cx} {m sz : Nat} {M0 M : Nat → Option va_E} {σ κ : Rw} {ri : Nat → Int32} {ra : Nat → Nat → Int32} {K : Int32 → Wd → Prop} (hR : RefX Γ m M0 σ κ ri ra M) {kI : Int32} (k0 : Nat) (ek : kI = nI k0) (hk : k0 < cK σ) (hI : Inv σ) (k : ∀ M' ra', RefX Γ m M0 σ κ ri ra' M' → Sc ra ra' → K (bI (lnF σ k0)) (M', sz)) : Spec Γ mX12_hasLine 7 0 [.ref m, .int kI] (M, sz) (ci K) := by
  obtain ⟨⟨⟨eH, lH⟩, ⟨eK, lK⟩, -⟩, iK, -⟩ := id hI
  refine spec_in [some (.ref m), some (.int kI)] 0 (by decide) rfl rfl ?_
  refine ok_aload_n (pc := 0) dX12_hasLine_0 rfl ?_
  refine ok_iload_n (pc := 1) dX12_hasLine_1 rfl ?_
  refine ok_iconst (pc := 2) (v := 5) dX12_hasLine_2 (by decide) ?_
  refine ok_callVi2 (pc := 3) (d' := 0) dX12_hasLine_3 vl_X12_117 hR.o rfl rfl rfl (by decide) ?_
  refine r_kiteIs hR k0 ek 5 rfl (by omega) (by decide) ?_
  refine ok_if_lt (pc := 6) 28 dX12_hasLine_6 (by decide) (fun cc_6 => ?_) (fun cc_6 => ?_)
  · have ce_6 := Int32.not_le.mpr cc_6
    refine ok_iconst (pc := 28) (v := 0) dX12_hasLine_28 (by decide) ?_
    refine ok_zret (pc := 29) dX12_hasLine_29 rfl rfl ?_
    have e9 := k _ _ hR (by first | exact hs | exact Sc.rf)
    simpa [lnF, bI, cc_6, ce_6] using e9
  · have ce_6 := Int32.not_lt.mp cc_6
    refine ok_aload_n (pc := 9) dX12_hasLine_9 rfl ?_
    refine ok_iload_n (pc := 10) dX12_hasLine_10 rfl ?_
    refine ok_aload_n (pc := 11) dX12_hasLine_11 rfl ?_
    refine ok_iload_n (pc := 12) dX12_hasLine_12 rfl ?_
    refine ok_iconst (pc := 13) (v := 5) dX12_hasLine_13 (by decide) ?_
    refine ok_callVi2 (pc := 14) (d' := 0) dX12_hasLine_14 vl_X12_117 hR.o rfl rfl rfl (by decide) ?_
    refine r_kiteIs hR k0 ek 5 rfl (by omega) (by decide) ?_
    refine ok_iconst (pc := 17) (v := 0) dX12_hasLine_17 (by decide) ?_
    refine ok_callVi3 (pc := 18) (d' := 6) dX12_hasLine_18 vl_X12_159 hR.o rfl rfl rfl (by decide) ?_
    obtain ⟨eak, lak, -⟩ := InvK.aim iK hk ce_6
    refine r_standsNow hR k0 (amF σ k0) ek eak hk lak hI (fun M rb hR hs => ?_)
    refine ok_if_eq (pc := 21) 28 dX12_hasLine_21 (by decide) (fun cc_21 => ?_) (fun cc_21 => ?_)
    · have cq_21 := bI_0.mp cc_21
      refine ok_iconst (pc := 28) (v := 0) dX12_hasLine_28 (by decide) ?_
      refine ok_zret (pc := 29) dX12_hasLine_29 rfl rfl ?_
      have e9 := k _ _ hR (by first | exact hs | exact Sc.rf)
      simpa [lnF, bI, cc_6, ce_6, cq_21] using e9
    · have cq_21 := bI_n0.mp cc_21
      refine ok_iconst (pc := 24) (v := 1) dX12_hasLine_24 (by decide) ?_
      refine ok_goto (pc := 25) 29 dX12_hasLine_25 (by decide) ?_
      refine ok_zret (pc := 29) dX12_hasLine_29 rfl rfl ?_
      have e9 := k _ _ hR (by first | exact hs | exact Sc.rf)
      simpa [lnF, bI, cc_6, ce_6, cq_21] using e9

set_option maxHeartbeats 1000000 in
theorem l_haveLines {Γ : Cx} {m sz : Nat} {M0 : Nat → Option va_E} {σ κ : Rw} {ri : Nat → Int32} {K : Int32 → Wd → Prop} {ra0 : Nat → Rw} (hI : Inv σ) (k : ∀ M' ra', RefX Γ m M0 σ κ ri ra' M' → Sc ra0 ra' → K (hvF σ (cK σ)) (M', sz)) : ∀ (n : Nat) (i : Nat) (x1 : Int32) (xi : Int32) (M : Nat → Option va_E) (ra : Nat → Rw), i + n = cK σ → xi = nI i → x1 = hvF σ i → RefX Γ m M0 σ κ ri ra M → Sc ra0 ra → Ok Γ mX12_haveLines 8 0 4 [some (.ref m), some (.int x1), some (.int xi)] [] (M, sz) (ci K) := by
  have eK := hI.1.2.1.1
  have lK := hI.1.2.1.2
  intro n
  induction n with
  | zero =>
    intro i x1 xi M ra h1 ei hq hR hs0
    refine ok_iload_n (pc := 4) dX12_haveLines_4 rfl ?_
    refine ok_aload_n (pc := 5) dX12_haveLines_5 rfl ?_
    refine ok_getf (pc := 6) dX12_haveLines_6 fl_X12_9 hR.o rfl ?_
    refine ok_iconst (pc := 9) (v := 2) dX12_haveLines_9 (by decide) ?_
    refine ok_iald (pc := 10) (2) dX12_haveLines_10 hR.a0 rfl (by decide) (by decide) ?_
    refine ok_icmp_ge (pc := 11) 38 dX12_haveLines_11 (by decide) (fun cc_11 => ?_) (fun cc_11 => ?_)
    · have ce_11 := Int32.not_lt.mpr cc_11
      have en : i = cK σ := by omega
      subst en
      rw [← hq] at k
      refine ok_iload_n (pc := 38) dX12_haveLines_38 rfl ?_
      refine ok_iret (pc := 39) dX12_haveLines_39 rfl ?_
      exact k _ _ hR hs0
    · exact absurd (by rw [eK, ei]; exact nI_le (by omega) (by omega)) cc_11
  | succ n ih =>
    intro i x1 xi M ra h1 ei hq hR hs0
    refine ok_iload_n (pc := 4) dX12_haveLines_4 rfl ?_
    refine ok_aload_n (pc := 5) dX12_haveLines_5 rfl ?_
    refine ok_getf (pc := 6) dX12_haveLines_6 fl_X12_9 hR.o rfl ?_
    refine ok_iconst (pc := 9) (v := 2) dX12_haveLines_9 (by decide) ?_
    refine ok_iald (pc := 10) (2) dX12_haveLines_10 hR.a0 rfl (by decide) (by decide) ?_
    refine ok_icmp_ge (pc := 11) 38 dX12_haveLines_11 (by decide) (fun cc_11 => ?_) (fun cc_11 => ?_)
    · exact absurd (by rw [eK, ei] at cc_11; exact cc_11) (nI_ge (by omega) (by omega))
    · have ce_11 := Int32.not_le.mp cc_11
      refine ok_iload_n (pc := 14) dX12_haveLines_14 rfl ?_
      refine ok_aload_n (pc := 15) dX12_haveLines_15 rfl ?_
      refine ok_iload_n (pc := 16) dX12_haveLines_16 rfl ?_
      refine ok_callVi1 (pc := 17) (d' := 7) dX12_haveLines_17 vl_X12_240 hR.o rfl rfl rfl (by decide) ?_
      refine r_hasLine hR i ei (by omega) hI (fun M rb hR hs => ?_)
      have hs0 := hs0.tr hs
      refine ok_if_eq (pc := 20) 29 dX12_haveLines_20 (by decide) (fun cc_20 => ?_) (fun cc_20 => ?_)
      · have cq_20 := bI_0.mp cc_20
        refine ok_iconst (pc := 29) (v := 0) dX12_haveLines_29 (by decide) ?_
        refine ok_ior (pc := 30) dX12_haveLines_30 ?_
        refine ok_istore_n1 (pc := 31) dX12_haveLines_31 (by decide) rfl ?_
        refine ok_iinc2 (pc := 32) (v := 1) dX12_haveLines_32 (by decide) (by decide) rfl ?_
        refine ok_goto (pc := 35) 4 dX12_haveLines_35 (by decide) ?_
        exact ih (i + 1) _ _ _ _ (by omega) (by rw [ei, nI_1]) (by simp [hvF, hq, ei, cc_11, ce_11, cq_20]) hR hs0
      · have cq_20 := bI_n0.mp cc_20
        refine ok_iconst (pc := 23) (v := 1) dX12_haveLines_23 (by decide) ?_
        refine ok_iload_n (pc := 24) dX12_haveLines_24 rfl ?_
        refine ok_ishl (pc := 25) dX12_haveLines_25 ?_
        refine ok_goto (pc := 26) 30 dX12_haveLines_26 (by decide) ?_
        refine ok_ior (pc := 30) dX12_haveLines_30 ?_
        refine ok_istore_n1 (pc := 31) dX12_haveLines_31 (by decide) rfl ?_
        refine ok_iinc2 (pc := 32) (v := 1) dX12_haveLines_32 (by decide) (by decide) rfl ?_
        refine ok_goto (pc := 35) 4 dX12_haveLines_35 (by decide) ?_
        exact ih (i + 1) _ _ _ _ (by omega) (by rw [ei, nI_1]) (by simp [hvF, hq, ei, cc_11, ce_11, cq_20]) hR hs0

set_option maxHeartbeats 1000000 in
theorem r_haveLines {Γ : Cx} {m sz : Nat} {M0 M : Nat → Option va_E} {σ κ : Rw} {ri : Nat → Int32} {ra : Nat → Nat → Int32} {K : Int32 → Wd → Prop} (hR : RefX Γ m M0 σ κ ri ra M) (hI : Inv σ) (k : ∀ M' ra', RefX Γ m M0 σ κ ri ra' M' → Sc ra ra' → K (hvF σ (cK σ)) (M', sz)) : Spec Γ mX12_haveLines 8 0 [.ref m] (M, sz) (ci K) := by
  refine spec_in [some (.ref m), none, none] 2 (by decide) rfl rfl ?_
  refine ok_iconst (pc := 0) (v := 0) dX12_haveLines_0 (by decide) ?_
  refine ok_istore_n1 (pc := 1) dX12_haveLines_1 (by decide) rfl ?_
  refine ok_iconst (pc := 2) (v := 0) dX12_haveLines_2 (by decide) ?_
  refine ok_istore_n2 (pc := 3) dX12_haveLines_3 (by decide) rfl ?_
  exact l_haveLines (ra0 := ra) hI k (cK σ) 0 0 0 M ra (by omega) rfl rfl hR Sc.rf

set_option maxHeartbeats 1000000 in
theorem r_cross {Γ : Cx} {m sz : Nat} {M0 M : Nat → Option va_E} {σ κ vi : Rw} {va : Nat → Rw} {K : Int32 → Wd → Prop} (hW : RefW Γ m M0 σ κ vi va M) (hI : Inv σ) {x y : Int32} (k : ∀ M', RefW Γ m M0 σ κ vi (eU va (op_cross σ x y).1) M' → K (op_cross σ x y).2 (M', sz)) : Spec Γ mX12_cross 8 0 [.ref m, .int x, .int y] (M, sz) (ci K) := by
  obtain ⟨ri, ra, hR, hv, hw⟩ := hW
  obtain ⟨⟨⟨eH, lH⟩, ⟨eK, lK⟩, ⟨eL, lL⟩, ⟨eA, lA⟩, ⟨eT, lT⟩⟩, iK, iH, iW, iL, iO, iB, hT⟩ := id hI
  
  refine spec_in [some (.ref m), some (.int x), some (.int y)] 0 (by decide) rfl rfl ?_
  refine ok_aload_n (pc := 0) dX12_cross_0 rfl ?_
  refine ok_iload_n (pc := 1) dX12_cross_1 rfl ?_
  refine ok_iconst (pc := 2) (v := 2) dX12_cross_2 (by decide) ?_
  refine ok_callVi2 (pc := 3) (d' := 1) dX12_cross_3 vl_X12_100 hR.o rfl rfl rfl (by decide) ?_
  refine r_is hR 2 rfl (by decide) ?_
  refine ok_if_eq (pc := 6) 23 dX12_cross_6 (by decide) (fun cc_6 => ?_) (fun cc_6 => ?_)
  · have cq_6 := bI_0.mp cc_6
    refine ok_aload_n (pc := 23) dX12_cross_23 rfl ?_
    refine ok_ldc (pc := 24) (v := -1000000001) dX12_cross_24 tw_1205 ?_
    refine ok_callVi1 (pc := 26) (d' := 0) dX12_cross_26 vl_X12_84 hR.o rfl rfl rfl (by decide) ?_
    refine r_finding hR 1 (by decide) (by decide) (fun M hR => ?_)
    refine ok_iret (pc := 29) dX12_cross_29 rfl ?_
    have eo : op_cross σ x y = (1, -1000000001) := by simp [op_cross, cq_6]
    rw [eo] at k
    exact k _ (RefW.err 1 (by decide) hR hv hw)
  · have cq_6 := bI_n0.mp cc_6
    refine ok_aload_n (pc := 9) dX12_cross_9 rfl ?_
    refine ok_iload_n (pc := 10) dX12_cross_10 rfl ?_
    refine ok_iconst (pc := 11) (v := 2) dX12_cross_11 (by decide) ?_
    refine ok_callVi2 (pc := 12) (d' := 1) dX12_cross_12 vl_X12_100 hR.o rfl rfl rfl (by decide) ?_
    refine r_is hR 2 rfl (by decide) ?_
    refine ok_if_eq (pc := 15) 23 dX12_cross_15 (by decide) (fun cc_15 => ?_) (fun cc_15 => ?_)
    · have cq_15 := bI_0.mp cc_15
      refine ok_aload_n (pc := 23) dX12_cross_23 rfl ?_
      refine ok_ldc (pc := 24) (v := -1000000001) dX12_cross_24 tw_1205 ?_
      refine ok_callVi1 (pc := 26) (d' := 0) dX12_cross_26 vl_X12_84 hR.o rfl rfl rfl (by decide) ?_
      refine r_finding hR 1 (by decide) (by decide) (fun M hR => ?_)
      refine ok_iret (pc := 29) dX12_cross_29 rfl ?_
      have eo : op_cross σ x y = (1, -1000000001) := by simp [op_cross, cq_6, cq_15]
      rw [eo] at k
      exact k _ (RefW.err 1 (by decide) hR hv hw)
    · have cq_15 := bI_n0.mp cc_15
      refine ok_iload_n (pc := 18) dX12_cross_18 rfl ?_
      refine ok_iload_n (pc := 19) dX12_cross_19 rfl ?_
      refine ok_icmp_ne (pc := 20) 30 dX12_cross_20 (by decide) (fun cc_20 => ?_) (fun cc_20 => ?_)
      · refine ok_aload_n (pc := 30) dX12_cross_30 rfl ?_
        refine ok_iload_n (pc := 31) dX12_cross_31 rfl ?_
        refine ok_callVi1 (pc := 32) (d' := 7) dX12_cross_32 vl_X12_240 hR.o rfl rfl rfl (by decide) ?_
        obtain ⟨ea, la⟩ := wi_cnt eK (by omega) cq_6
        obtain ⟨eb, lb⟩ := wi_cnt eK (by omega) cq_15
        refine r_hasLine hR (iN x) ea la hI (fun M rb hR hs => ?_)
        have hs9 := hs
        refine ok_if_eq (pc := 35) 59 dX12_cross_35 (by decide) (fun cc_35 => ?_) (fun cc_35 => ?_)
        · have cq_35 := bI_0.mp cc_35
          refine ok_iconst (pc := 59) (v := 0) dX12_cross_59 (by decide) ?_
          refine ok_iret (pc := 60) dX12_cross_60 rfl ?_
          have eo : op_cross σ x y = (0, bI (lnF σ (iN x) && lnF σ (iN y) && crF σ (iN x) (iN y))) := by simp [op_cross, cq_6, cq_15, cc_20]
          rw [eo] at k
          simp only [cq_6, cq_15, cc_20, cq_35, Bool.true_and, Bool.and_true, Bool.false_and, Bool.and_false] at k
          exact k _ (RefW.oks hR hs9 hv hw)
        · have cq_35 := bI_n0.mp cc_35
          refine ok_aload_n (pc := 38) dX12_cross_38 rfl ?_
          refine ok_iload_n (pc := 39) dX12_cross_39 rfl ?_
          refine ok_callVi1 (pc := 40) (d' := 7) dX12_cross_40 vl_X12_240 hR.o rfl rfl rfl (by decide) ?_
          refine r_hasLine hR (iN y) eb lb hI (fun M rb hR hs => ?_)
          have hs9 := hs9.tr hs
          refine ok_if_eq (pc := 43) 59 dX12_cross_43 (by decide) (fun cc_43 => ?_) (fun cc_43 => ?_)
          · have cq_43 := bI_0.mp cc_43
            refine ok_iconst (pc := 59) (v := 0) dX12_cross_59 (by decide) ?_
            refine ok_iret (pc := 60) dX12_cross_60 rfl ?_
            have eo : op_cross σ x y = (0, bI (lnF σ (iN x) && lnF σ (iN y) && crF σ (iN x) (iN y))) := by simp [op_cross, cq_6, cq_15, cc_20]
            rw [eo] at k
            simp only [cq_6, cq_15, cc_20, cq_35, cq_43, Bool.true_and, Bool.and_true, Bool.false_and, Bool.and_false] at k
            exact k _ (RefW.oks hR hs9 hv hw)
          · have cq_43 := bI_n0.mp cc_43
            refine ok_aload_n (pc := 46) dX12_cross_46 rfl ?_
            refine ok_iload_n (pc := 47) dX12_cross_47 rfl ?_
            refine ok_iload_n (pc := 48) dX12_cross_48 rfl ?_
            refine ok_callVi2 (pc := 49) (d' := 3) dX12_cross_49 vl_X12_243 hR.o rfl rfl rfl (by decide) ?_
            have a1 : 0 ≤ kf σ (iN x) 5 := by have h9 := cq_35; unfold lnF at h9; rw [Bool.and_eq_true] at h9; exact of_decide_eq_true h9.1
            have a2 : 0 ≤ kf σ (iN y) 5 := by have h9 := cq_43; unfold lnF at h9; rw [Bool.and_eq_true] at h9; exact of_decide_eq_true h9.1
            refine r_crossEachOther hR (iN x) (iN y) ea eb la lb hI a1 a2 ?_
            refine ok_if_eq (pc := 52) 59 dX12_cross_52 (by decide) (fun cc_52 => ?_) (fun cc_52 => ?_)
            · have cq_52 := bI_0.mp cc_52
              refine ok_iconst (pc := 59) (v := 0) dX12_cross_59 (by decide) ?_
              refine ok_iret (pc := 60) dX12_cross_60 rfl ?_
              have eo : op_cross σ x y = (0, bI (lnF σ (iN x) && lnF σ (iN y) && crF σ (iN x) (iN y))) := by simp [op_cross, cq_6, cq_15, cc_20]
              rw [eo] at k
              simp only [cq_6, cq_15, cc_20, cq_35, cq_43, cq_52, Bool.true_and, Bool.and_true, Bool.false_and, Bool.and_false] at k
              exact k _ (RefW.oks hR hs9 hv hw)
            · have cq_52 := bI_n0.mp cc_52
              refine ok_iconst (pc := 55) (v := 1) dX12_cross_55 (by decide) ?_
              refine ok_goto (pc := 56) 60 dX12_cross_56 (by decide) ?_
              refine ok_iret (pc := 60) dX12_cross_60 rfl ?_
              have eo : op_cross σ x y = (0, bI (lnF σ (iN x) && lnF σ (iN y) && crF σ (iN x) (iN y))) := by simp [op_cross, cq_6, cq_15, cc_20]
              rw [eo] at k
              simp only [cq_6, cq_15, cc_20, cq_35, cq_43, cq_52, Bool.true_and, Bool.and_true, Bool.false_and, Bool.and_false] at k
              exact k _ (RefW.oks hR hs9 hv hw)
      · refine ok_aload_n (pc := 23) dX12_cross_23 rfl ?_
        refine ok_ldc (pc := 24) (v := -1000000001) dX12_cross_24 tw_1205 ?_
        refine ok_callVi1 (pc := 26) (d' := 0) dX12_cross_26 vl_X12_84 hR.o rfl rfl rfl (by decide) ?_
        refine r_finding hR 1 (by decide) (by decide) (fun M hR => ?_)
        refine ok_iret (pc := 29) dX12_cross_29 rfl ?_
        have eo : op_cross σ x y = (1, -1000000001) := by simp [op_cross, cq_6, cq_15, cc_20]
        rw [eo] at k
        exact k _ (RefW.err 1 (by decide) hR hv hw)
