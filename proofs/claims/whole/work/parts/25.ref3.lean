set_option maxHeartbeats 1000000 in
theorem l_isTaken {Γ : Cx} {m sz : Nat} {M0 M : Nat → Option va_E} {σ κ : Rw} {ri : Nat → Int32} {ra : Nat → Nat → Int32} {K : Int32 → Wd → Prop} (hR : RefX Γ m M0 σ κ ri ra M) {xy : Int32} (nh : Nat) (eN : σ 1 = nI nh) (hN : nh ≤ 9) (k : K (bI (takF σ xy nh)) (M, sz)) : ∀ (n : Nat) (i : Nat) (xi : Int32) (x2 : Int32), i + n = nh → xi = nI i → x2 = bI (takF σ xy i) → Ok Γ mX12_isTaken 0 0 4 [some (.ref m), some (.int xy), some (.int x2), some (.int xi)] [] (M, sz) (ci K) := by
  intro n
  induction n with
  | zero =>
    intro i xi x2 h1 ei hq
    refine ok_iload_n (pc := 4) dX12_isTaken_4 rfl ?_
    refine ok_aload_n (pc := 5) dX12_isTaken_5 rfl ?_
    refine ok_getf (pc := 6) dX12_isTaken_6 fl_X12_9 hR.o rfl ?_
    refine ok_iconst (pc := 9) (v := 1) dX12_isTaken_9 (by decide) ?_
    refine ok_iald (pc := 10) (1) dX12_isTaken_10 hR.a0 rfl (by decide) (by decide) ?_
    refine ok_icmp_ge (pc := 11) 45 dX12_isTaken_11 (by decide) (fun cc_11 => ?_) (fun cc_11 => ?_)
    · have ce_11 := Int32.not_lt.mpr cc_11
      have en : i = nh := by omega
      subst en
      rw [← hq] at k
      refine ok_iload_n (pc := 45) dX12_isTaken_45 rfl ?_
      refine ok_zret (pc := 46) dX12_isTaken_46 rfl (by rw [hq]; exact bI_z _) ?_
      exact k
    · exact absurd (by rw [eN, ei]; exact nI_le (by omega) (by omega)) cc_11
  | succ n ih =>
    intro i xi x2 h1 ei hq
    refine ok_iload_n (pc := 4) dX12_isTaken_4 rfl ?_
    refine ok_aload_n (pc := 5) dX12_isTaken_5 rfl ?_
    refine ok_getf (pc := 6) dX12_isTaken_6 fl_X12_9 hR.o rfl ?_
    refine ok_iconst (pc := 9) (v := 1) dX12_isTaken_9 (by decide) ?_
    refine ok_iald (pc := 10) (1) dX12_isTaken_10 hR.a0 rfl (by decide) (by decide) ?_
    refine ok_icmp_ge (pc := 11) 45 dX12_isTaken_11 (by decide) (fun cc_11 => ?_) (fun cc_11 => ?_)
    · exact absurd (by rw [eN, ei] at cc_11; exact cc_11) (nI_ge (by omega) (by omega))
    · have ce_11 := Int32.not_le.mp cc_11
      refine ok_iload_n (pc := 14) dX12_isTaken_14 rfl ?_
      refine ok_if_ne (pc := 15) 33 dX12_isTaken_15 (by decide) (fun cc_15 => ?_) (fun cc_15 => ?_)
      · have hq1 : takF σ xy i = true := by rw [hq] at cc_15; exact bI_n0.mp cc_15
        refine ok_iconst (pc := 33) (v := 1) dX12_isTaken_33 (by decide) ?_
        refine ok_goto (pc := 34) 38 dX12_isTaken_34 (by decide) ?_
        refine ok_istore_n2 (pc := 38) dX12_isTaken_38 (by decide) rfl ?_
        refine ok_iinc3 (pc := 39) (v := 1) dX12_isTaken_39 (by decide) (by decide) rfl ?_
        refine ok_goto (pc := 42) 4 dX12_isTaken_42 (by decide) ?_
        exact ih (i + 1) _ _ (by omega) (by rw [ei, nI_1]) (by simp [takF, bI, hq1, cc_11, ce_11, cc_15])
      · have hq1 : takF σ xy i = false := by rw [hq] at cc_15; exact bI_0.mp cc_15
        refine ok_aload_n (pc := 18) dX12_isTaken_18 rfl ?_
        refine ok_getf (pc := 19) dX12_isTaken_19 fl_X12_9 hR.o rfl ?_
        refine ok_bipush (pc := 22) (v := 9) dX12_isTaken_22 (by decide) ?_
        refine ok_iconst (pc := 24) (v := 2) dX12_isTaken_24 (by decide) ?_
        refine ok_iload_n (pc := 25) dX12_isTaken_25 rfl ?_
        refine ok_imul (pc := 26) dX12_isTaken_26 ?_
        refine ok_iadd (pc := 27) dX12_isTaken_27 ?_
        refine ok_iald (pc := 28) (9 + 2 * i) dX12_isTaken_28 hR.a0 (by simp only [ei, fa_lit, pk_mul, nI_add]) (by omega) (by decide) ?_
        refine ok_iload_n (pc := 29) dX12_isTaken_29 rfl ?_
        refine ok_icmp_ne (pc := 30) 37 dX12_isTaken_30 (by decide) (fun cc_30 => ?_) (fun cc_30 => ?_)
        · refine ok_iconst (pc := 37) (v := 0) dX12_isTaken_37 (by decide) ?_
          refine ok_istore_n2 (pc := 38) dX12_isTaken_38 (by decide) rfl ?_
          refine ok_iinc3 (pc := 39) (v := 1) dX12_isTaken_39 (by decide) (by decide) rfl ?_
          refine ok_goto (pc := 42) 4 dX12_isTaken_42 (by decide) ?_
          exact ih (i + 1) _ _ (by omega) (by rw [ei, nI_1]) (by simp [takF, bI, hq1, cc_11, ce_11, cc_15, cc_30])
        · refine ok_iconst (pc := 33) (v := 1) dX12_isTaken_33 (by decide) ?_
          refine ok_goto (pc := 34) 38 dX12_isTaken_34 (by decide) ?_
          refine ok_istore_n2 (pc := 38) dX12_isTaken_38 (by decide) rfl ?_
          refine ok_iinc3 (pc := 39) (v := 1) dX12_isTaken_39 (by decide) (by decide) rfl ?_
          refine ok_goto (pc := 42) 4 dX12_isTaken_42 (by decide) ?_
          exact ih (i + 1) _ _ (by omega) (by rw [ei, nI_1]) (by simp [takF, bI, hq1, cc_11, ce_11, cc_15, cc_30])

set_option maxHeartbeats 1000000 in
theorem r_isTaken {Γ : Cx} {m sz : Nat} {M0 M : Nat → Option va_E} {σ κ : Rw} {ri : Nat → Int32} {ra : Nat → Nat → Int32} {K : Int32 → Wd → Prop} (hR : RefX Γ m M0 σ κ ri ra M) {xy : Int32} (nh : Nat) (eN : σ 1 = nI nh) (hN : nh ≤ 9) (k : K (bI (takF σ xy nh)) (M, sz)) : Spec Γ mX12_isTaken 0 0 [.ref m, .int xy] (M, sz) (ci K) := by
  refine spec_in [some (.ref m), some (.int xy), none, none] 2 (by decide) rfl rfl ?_
  refine ok_iconst (pc := 0) (v := 0) dX12_isTaken_0 (by decide) ?_
  refine ok_istore_n2 (pc := 1) dX12_isTaken_1 (by decide) rfl ?_
  refine ok_iconst (pc := 2) (v := 0) dX12_isTaken_2 (by decide) ?_
  refine ok_istore_n3 (pc := 3) dX12_isTaken_3 (by decide) rfl ?_
  exact l_isTaken hR nh eN hN k nh 0 0 0 (by omega) rfl rfl

set_option maxHeartbeats 1000000 in
theorem r_rises {Γ : Cx} {m sz : Nat} {M0 M : Nat → Option va_E} {σ κ : Rw} {ri : Nat → Int32} {ra : Nat → Nat → Int32} {K : Int32 → Wd → Prop} (hR : RefX Γ m M0 σ κ ri ra M) {xy hi : Int32} (nh : Nat) (eN : σ 1 = nI nh) (hN : nh < 9) (k : ∀ M', RefX Γ m M0 (risF σ nh xy hi) κ ri ra M' → K (nI nh) (M', sz)) : Spec Γ mX12_rises 0 0 [.ref m, .int xy, .int hi] (M, sz) (ci K) := by
  refine spec_in [some (.ref m), some (.int xy), some (.int hi), none] 1 (by decide) rfl rfl ?_
  refine ok_aload_n (pc := 0) dX12_rises_0 rfl ?_
  refine ok_getf (pc := 1) dX12_rises_1 fl_X12_9 hR.o rfl ?_
  refine ok_iconst (pc := 4) (v := 1) dX12_rises_4 (by decide) ?_
  refine ok_iald (pc := 5) (1) dX12_rises_5 hR.a0 rfl (by decide) (by decide) ?_
  refine ok_istore_n3 (pc := 6) dX12_rises_6 (by decide) rfl ?_
  refine ok_aload_n (pc := 7) dX12_rises_7 rfl ?_
  refine ok_getf (pc := 8) dX12_rises_8 fl_X12_9 hR.o rfl ?_
  refine ok_bipush (pc := 11) (v := 9) dX12_rises_11 (by decide) ?_
  refine ok_iconst (pc := 13) (v := 2) dX12_rises_13 (by decide) ?_
  refine ok_iload_n (pc := 14) dX12_rises_14 rfl ?_
  refine ok_imul (pc := 15) dX12_rises_15 ?_
  refine ok_iadd (pc := 16) dX12_rises_16 ?_
  refine ok_iload_n (pc := 17) dX12_rises_17 rfl ?_
  refine ok_rst0 (pc := 18) (9 + 2 * nh) dX12_rises_18 hR (by simp only [eN, fa_lit, pk_mul, nI_add]) (by omega) (fun M hR => ?_)
  refine ok_aload_n (pc := 19) dX12_rises_19 rfl ?_
  refine ok_getf (pc := 20) dX12_rises_20 fl_X12_9 hR.o rfl ?_
  refine ok_bipush (pc := 23) (v := 9) dX12_rises_23 (by decide) ?_
  refine ok_iconst (pc := 25) (v := 2) dX12_rises_25 (by decide) ?_
  refine ok_iload_n (pc := 26) dX12_rises_26 rfl ?_
  refine ok_imul (pc := 27) dX12_rises_27 ?_
  refine ok_iadd (pc := 28) dX12_rises_28 ?_
  refine ok_iconst (pc := 29) (v := 1) dX12_rises_29 (by decide) ?_
  refine ok_iadd (pc := 30) dX12_rises_30 ?_
  refine ok_iload_n (pc := 31) dX12_rises_31 rfl ?_
  refine ok_rst0 (pc := 32) (9 + 2 * nh + 1) dX12_rises_32 hR (by simp only [eN, fa_lit, pk_mul, nI_add]) (by omega) (fun M hR => ?_)
  refine ok_aload_n (pc := 33) dX12_rises_33 rfl ?_
  refine ok_getf (pc := 34) dX12_rises_34 fl_X12_9 hR.o rfl ?_
  refine ok_iconst (pc := 37) (v := 1) dX12_rises_37 (by decide) ?_
  refine ok_dup2 (pc := 38) dX12_rises_38 rfl rfl ?_
  refine ok_iald (pc := 39) (1) dX12_rises_39 hR.a0 rfl (by decide) (by decide) ?_
  refine ok_iconst (pc := 40) (v := 1) dX12_rises_40 (by decide) ?_
  refine ok_iadd (pc := 41) dX12_rises_41 ?_
  refine ok_rst0 (pc := 42) (1) dX12_rises_42 hR rfl (by decide) (fun M hR => ?_)
  refine ok_iload_n (pc := 43) dX12_rises_43 rfl ?_
  refine ok_iret (pc := 44) dX12_rises_44 rfl ?_
  have e1 : upd (upd σ (9 + 2 * nh) xy) (9 + 2 * nh + 1) hi 1 = σ 1 := by rw [upd_ne (by omega), upd_ne (by omega)]
  rw [e1] at hR
  rw [eN]
  exact k _ hR

set_option maxHeartbeats 1000000 in
theorem r_flies {Γ : Cx} {m sz : Nat} {M0 M : Nat → Option va_E} {σ κ : Rw} {ri : Nat → Int32} {ra : Nat → Nat → Int32} {K : Int32 → Wd → Prop} (hR : RefX Γ m M0 σ κ ri ra M) {v0 v1 v2 v3 v4 : Int32} (nk : Nat) (eN : σ 2 = nI nk) (hN : nk < 8) (k : ∀ M', RefX Γ m M0 (flyF σ nk v0 v1 v2 v3 v4) κ ri ra M' → K (nI nk) (M', sz)) : Spec Γ mX12_flies 0 0 [.ref m, .int v0, .int v1, .int v2, .int v3, .int v4] (M, sz) (ci K) := by
  refine spec_in [some (.ref m), some (.int v0), some (.int v1), some (.int v2), some (.int v3), some (.int v4), none, none] 2 (by decide) rfl rfl ?_
  refine ok_aload_n (pc := 0) dX12_flies_0 rfl ?_
  refine ok_getf (pc := 1) dX12_flies_1 fl_X12_9 hR.o rfl ?_
  refine ok_iconst (pc := 4) (v := 2) dX12_flies_4 (by decide) ?_
  refine ok_iald (pc := 5) (2) dX12_flies_5 hR.a0 rfl (by decide) (by decide) ?_
  refine ok_istore6 (pc := 6) dX12_flies_6 (by decide) rfl ?_
  refine ok_bipush (pc := 8) (v := 51) dX12_flies_8 (by decide) ?_
  refine ok_bipush (pc := 10) (v := 6) dX12_flies_10 (by decide) ?_
  refine ok_iload (pc := 12) dX12_flies_12 rfl ?_
  refine ok_imul (pc := 14) dX12_flies_14 ?_
  refine ok_iadd (pc := 15) dX12_flies_15 ?_
  refine ok_istore7 (pc := 16) dX12_flies_16 (by decide) rfl ?_
  refine ok_aload_n (pc := 18) dX12_flies_18 rfl ?_
  refine ok_getf (pc := 19) dX12_flies_19 fl_X12_9 hR.o rfl ?_
  refine ok_iload (pc := 22) dX12_flies_22 rfl ?_
  refine ok_iconst (pc := 24) (v := 0) dX12_flies_24 (by decide) ?_
  refine ok_iadd (pc := 25) dX12_flies_25 ?_
  refine ok_iload_n (pc := 26) dX12_flies_26 rfl ?_
  refine ok_rst0 (pc := 27) (51 + 6 * nk) dX12_flies_27 hR (by simp only [eN, Nat.add_zero, fa_lit, pk_mul, nI_add]) (by omega) (fun M hR => ?_)
  refine ok_aload_n (pc := 28) dX12_flies_28 rfl ?_
  refine ok_getf (pc := 29) dX12_flies_29 fl_X12_9 hR.o rfl ?_
  refine ok_iload (pc := 32) dX12_flies_32 rfl ?_
  refine ok_iconst (pc := 34) (v := 1) dX12_flies_34 (by decide) ?_
  refine ok_iadd (pc := 35) dX12_flies_35 ?_
  refine ok_iload_n (pc := 36) dX12_flies_36 rfl ?_
  refine ok_rst0 (pc := 37) (51 + 6 * nk + 1) dX12_flies_37 hR (by simp only [eN, fa_lit, pk_mul, nI_add]) (by omega) (fun M hR => ?_)
  refine ok_aload_n (pc := 38) dX12_flies_38 rfl ?_
  refine ok_getf (pc := 39) dX12_flies_39 fl_X12_9 hR.o rfl ?_
  refine ok_iload (pc := 42) dX12_flies_42 rfl ?_
  refine ok_iconst (pc := 44) (v := 2) dX12_flies_44 (by decide) ?_
  refine ok_iadd (pc := 45) dX12_flies_45 ?_
  refine ok_iload_n (pc := 46) dX12_flies_46 rfl ?_
  refine ok_rst0 (pc := 47) (51 + 6 * nk + 2) dX12_flies_47 hR (by simp only [eN, fa_lit, pk_mul, nI_add]) (by omega) (fun M hR => ?_)
  refine ok_aload_n (pc := 48) dX12_flies_48 rfl ?_
  refine ok_getf (pc := 49) dX12_flies_49 fl_X12_9 hR.o rfl ?_
  refine ok_iload (pc := 52) dX12_flies_52 rfl ?_
  refine ok_iconst (pc := 54) (v := 3) dX12_flies_54 (by decide) ?_
  refine ok_iadd (pc := 55) dX12_flies_55 ?_
  refine ok_iload (pc := 56) dX12_flies_56 rfl ?_
  refine ok_rst0 (pc := 58) (51 + 6 * nk + 3) dX12_flies_58 hR (by simp only [eN, fa_lit, pk_mul, nI_add]) (by omega) (fun M hR => ?_)
  refine ok_aload_n (pc := 59) dX12_flies_59 rfl ?_
  refine ok_getf (pc := 60) dX12_flies_60 fl_X12_9 hR.o rfl ?_
  refine ok_iload (pc := 63) dX12_flies_63 rfl ?_
  refine ok_iconst (pc := 65) (v := 4) dX12_flies_65 (by decide) ?_
  refine ok_iadd (pc := 66) dX12_flies_66 ?_
  refine ok_iload (pc := 67) dX12_flies_67 rfl ?_
  refine ok_rst0 (pc := 69) (51 + 6 * nk + 4) dX12_flies_69 hR (by simp only [eN, fa_lit, pk_mul, nI_add]) (by omega) (fun M hR => ?_)
  refine ok_aload_n (pc := 70) dX12_flies_70 rfl ?_
  refine ok_getf (pc := 71) dX12_flies_71 fl_X12_9 hR.o rfl ?_
  refine ok_iload (pc := 74) dX12_flies_74 rfl ?_
  refine ok_iconst (pc := 76) (v := 5) dX12_flies_76 (by decide) ?_
  refine ok_iadd (pc := 77) dX12_flies_77 ?_
  refine ok_iconst (pc := 78) (v := -1) dX12_flies_78 (by decide) ?_
  refine ok_rst0 (pc := 79) (51 + 6 * nk + 5) dX12_flies_79 hR (by simp only [eN, fa_lit, pk_mul, nI_add]) (by omega) (fun M hR => ?_)
  refine ok_aload_n (pc := 80) dX12_flies_80 rfl ?_
  refine ok_getf (pc := 81) dX12_flies_81 fl_X12_9 hR.o rfl ?_
  refine ok_iconst (pc := 84) (v := 2) dX12_flies_84 (by decide) ?_
  refine ok_dup2 (pc := 85) dX12_flies_85 rfl rfl ?_
  refine ok_iald (pc := 86) (2) dX12_flies_86 hR.a0 rfl (by decide) (by decide) ?_
  refine ok_iconst (pc := 87) (v := 1) dX12_flies_87 (by decide) ?_
  refine ok_iadd (pc := 88) dX12_flies_88 ?_
  refine ok_rst0 (pc := 89) (2) dX12_flies_89 hR rfl (by decide) (fun M hR => ?_)
  refine ok_iload (pc := 90) dX12_flies_90 rfl ?_
  refine ok_iret (pc := 92) dX12_flies_92 rfl ?_
  have e1 : upd (upd (upd (upd (upd (upd σ (51 + 6 * nk) v0) (51 + 6 * nk + 1) v1) (51 + 6 * nk + 2) v2) (51 + 6 * nk + 3) v3) (51 + 6 * nk + 4) v4) (51 + 6 * nk + 5) (-1) 2 = σ 2 := by rw [upd_ne (by omega), upd_ne (by omega), upd_ne (by omega), upd_ne (by omega), upd_ne (by omega), upd_ne (by omega)]
  rw [e1] at hR
  rw [eN]
  exact k _ hR

set_option maxHeartbeats 1000000 in
theorem l_lettersOn {Γ : Cx} {m sz : Nat} {M0 M : Nat → Option va_E} {σ κ : Rw} {ri : Nat → Int32} {ra : Nat → Nat → Int32} {K : Int32 → Wd → Prop} (hR : RefX Γ m M0 σ κ ri ra M) {hI : Int32} (nl : Nat) (eN : σ 3 = nI nl) (hN : nl ≤ 12) (k : K (lonF σ hI nl) (M, sz)) : ∀ (n : Nat) (i : Nat) (xi : Int32) (x2 : Int32), i + n = nl → xi = nI i → x2 = lonF σ hI i → Ok Γ mX12_lettersOn 1 0 4 [some (.ref m), some (.int hI), some (.int x2), some (.int xi)] [] (M, sz) (ci K) := by
  intro n
  induction n with
  | zero =>
    intro i xi x2 h1 ei hq
    refine ok_iload_n (pc := 4) dX12_lettersOn_4 rfl ?_
    refine ok_aload_n (pc := 5) dX12_lettersOn_5 rfl ?_
    refine ok_getf (pc := 6) dX12_lettersOn_6 fl_X12_9 hR.o rfl ?_
    refine ok_iconst (pc := 9) (v := 3) dX12_lettersOn_9 (by decide) ?_
    refine ok_iald (pc := 10) (3) dX12_lettersOn_10 hR.a0 rfl (by decide) (by decide) ?_
    refine ok_icmp_ge (pc := 11) 50 dX12_lettersOn_11 (by decide) (fun cc_11 => ?_) (fun cc_11 => ?_)
    · have ce_11 := Int32.not_lt.mpr cc_11
      have en : i = nl := by omega
      subst en
      rw [← hq] at k
      refine ok_iload_n (pc := 50) dX12_lettersOn_50 rfl ?_
      refine ok_iret (pc := 51) dX12_lettersOn_51 rfl ?_
      exact k
    · exact absurd (by rw [eN, ei]; exact nI_le (by omega) (by omega)) cc_11
  | succ n ih =>
    intro i xi x2 h1 ei hq
    refine ok_iload_n (pc := 4) dX12_lettersOn_4 rfl ?_
    refine ok_aload_n (pc := 5) dX12_lettersOn_5 rfl ?_
    refine ok_getf (pc := 6) dX12_lettersOn_6 fl_X12_9 hR.o rfl ?_
    refine ok_iconst (pc := 9) (v := 3) dX12_lettersOn_9 (by decide) ?_
    refine ok_iald (pc := 10) (3) dX12_lettersOn_10 hR.a0 rfl (by decide) (by decide) ?_
    refine ok_icmp_ge (pc := 11) 50 dX12_lettersOn_11 (by decide) (fun cc_11 => ?_) (fun cc_11 => ?_)
    · exact absurd (by rw [eN, ei] at cc_11; exact cc_11) (nI_ge (by omega) (by omega))
    · have ce_11 := Int32.not_le.mp cc_11
      refine ok_iload_n (pc := 14) dX12_lettersOn_14 rfl ?_
      refine ok_aload_n (pc := 15) dX12_lettersOn_15 rfl ?_
      refine ok_iload_n (pc := 16) dX12_lettersOn_16 rfl ?_
      refine ok_iconst (pc := 17) (v := 5) dX12_lettersOn_17 (by decide) ?_
      refine ok_callVi2 (pc := 18) (d' := 0) dX12_lettersOn_18 vl_X12_97 hR.o rfl rfl rfl (by decide) ?_
      refine r_letterIs hR i ei 5 rfl (by omega) (by decide) ?_
      refine ok_iload_n (pc := 21) dX12_lettersOn_21 rfl ?_
      refine ok_icmp_ne (pc := 22) 41 dX12_lettersOn_22 (by decide) (fun cc_22 => ?_) (fun cc_22 => ?_)
      · refine ok_iconst (pc := 41) (v := 0) dX12_lettersOn_41 (by decide) ?_
        refine ok_ior (pc := 42) dX12_lettersOn_42 ?_
        refine ok_istore_n2 (pc := 43) dX12_lettersOn_43 (by decide) rfl ?_
        refine ok_iinc3 (pc := 44) (v := 1) dX12_lettersOn_44 (by decide) (by decide) rfl ?_
        refine ok_goto (pc := 47) 4 dX12_lettersOn_47 (by decide) ?_
        exact ih (i + 1) _ _ (by omega) (by rw [ei, nI_1]) (by simp [lonF, hq, ei, cc_11, ce_11, cc_22])
      · refine ok_aload_n (pc := 25) dX12_lettersOn_25 rfl ?_
        refine ok_iload_n (pc := 26) dX12_lettersOn_26 rfl ?_
        refine ok_bipush (pc := 27) (v := 6) dX12_lettersOn_27 (by decide) ?_
        refine ok_callVi2 (pc := 29) (d' := 0) dX12_lettersOn_29 vl_X12_97 hR.o rfl rfl rfl (by decide) ?_
        refine r_letterIs hR i ei 6 rfl (by omega) (by decide) ?_
        refine ok_if_ge (pc := 32) 41 dX12_lettersOn_32 (by decide) (fun cc_32 => ?_) (fun cc_32 => ?_)
        · have ce_32 := Int32.not_lt.mpr cc_32
          refine ok_iconst (pc := 41) (v := 0) dX12_lettersOn_41 (by decide) ?_
          refine ok_ior (pc := 42) dX12_lettersOn_42 ?_
          refine ok_istore_n2 (pc := 43) dX12_lettersOn_43 (by decide) rfl ?_
          refine ok_iinc3 (pc := 44) (v := 1) dX12_lettersOn_44 (by decide) (by decide) rfl ?_
          refine ok_goto (pc := 47) 4 dX12_lettersOn_47 (by decide) ?_
          exact ih (i + 1) _ _ (by omega) (by rw [ei, nI_1]) (by simp [lonF, hq, ei, cc_11, ce_11, cc_22, cc_32, ce_32])
        · have ce_32 := Int32.not_le.mp cc_32
          refine ok_iconst (pc := 35) (v := 1) dX12_lettersOn_35 (by decide) ?_
          refine ok_iload_n (pc := 36) dX12_lettersOn_36 rfl ?_
          refine ok_ishl (pc := 37) dX12_lettersOn_37 ?_
          refine ok_goto (pc := 38) 42 dX12_lettersOn_38 (by decide) ?_
          refine ok_ior (pc := 42) dX12_lettersOn_42 ?_
          refine ok_istore_n2 (pc := 43) dX12_lettersOn_43 (by decide) rfl ?_
          refine ok_iinc3 (pc := 44) (v := 1) dX12_lettersOn_44 (by decide) (by decide) rfl ?_
          refine ok_goto (pc := 47) 4 dX12_lettersOn_47 (by decide) ?_
          exact ih (i + 1) _ _ (by omega) (by rw [ei, nI_1]) (by simp [lonF, hq, ei, cc_11, ce_11, cc_22, cc_32, ce_32])

set_option maxHeartbeats 1000000 in
theorem r_lettersOn {Γ : Cx} {m sz : Nat} {M0 M : Nat → Option va_E} {σ κ : Rw} {ri : Nat → Int32} {ra : Nat → Nat → Int32} {K : Int32 → Wd → Prop} (hR : RefX Γ m M0 σ κ ri ra M) {hI : Int32} (nl : Nat) (eN : σ 3 = nI nl) (hN : nl ≤ 12) (k : K (lonF σ hI nl) (M, sz)) : Spec Γ mX12_lettersOn 1 0 [.ref m, .int hI] (M, sz) (ci K) := by
  refine spec_in [some (.ref m), some (.int hI), none, none] 2 (by decide) rfl rfl ?_
  refine ok_iconst (pc := 0) (v := 0) dX12_lettersOn_0 (by decide) ?_
  refine ok_istore_n2 (pc := 1) dX12_lettersOn_1 (by decide) rfl ?_
  refine ok_iconst (pc := 2) (v := 0) dX12_lettersOn_2 (by decide) ?_
  refine ok_istore_n3 (pc := 3) dX12_lettersOn_3 (by decide) rfl ?_
  exact l_lettersOn hR nl eN hN k nl 0 0 0 (by omega) rfl rfl

set_option maxHeartbeats 1000000 in
theorem l_copy {Γ : Cx} {sz : Nat} {M : Nat → Option va_E} {ad bd : Nat} {fa fb : Rw} {K : Wd → Prop} (ha : M ad = aI Γ 369 fa) (hb : M bd = aI Γ 369 fb) (hne : ad ≠ bd) (k : K (va_up M bd (aI Γ 369 fa), sz)) : ∀ (n : Nat) (i : Nat) (xi : Int32), i + n = 369 → xi = nI i → Ok Γ mX12_copy 0 0 2 [some (.ref ad), some (.ref bd), some (.int xi)] [] (va_up M bd (aI Γ 369 (fa_fill fa fb i)), sz) (cv K) := by
  intro n
  induction n with
  | zero =>
    intro i xi h1 ei
    refine ok_iload_n (pc := 2) dX12_copy_2 rfl ?_
    refine ok_sipush (pc := 3) (v := 369) dX12_copy_3 (by decide) ?_
    refine ok_icmp_ge (pc := 6) 21 dX12_copy_6 (by decide) (fun cc_6 => ?_) (fun cc_6 => ?_)
    · have ce_6 := Int32.not_lt.mpr cc_6
      have en : i = 369 := by omega
      subst en
      refine ok_repr (gn := fa) (fun j hj => fa_fill_in hj) ?_
      refine ok_vret (pc := 21) dX12_copy_21 rfl ?_
      exact k
    · exact absurd (by rw [ei]; exact nI_le (a := 369) (by omega) (by omega)) cc_6
  | succ n ih =>
    intro i xi h1 ei
    refine ok_iload_n (pc := 2) dX12_copy_2 rfl ?_
    refine ok_sipush (pc := 3) (v := 369) dX12_copy_3 (by decide) ?_
    refine ok_icmp_ge (pc := 6) 21 dX12_copy_6 (by decide) (fun cc_6 => ?_) (fun cc_6 => ?_)
    · exact absurd (by rw [ei] at cc_6; exact cc_6) (nI_ge (b := 369) (by omega) (by omega))
    · have ce_6 := Int32.not_le.mp cc_6
      refine ok_aload_n (pc := 9) dX12_copy_9 rfl ?_
      refine ok_iload_n (pc := 10) dX12_copy_10 rfl ?_
      refine ok_aload_n (pc := 11) dX12_copy_11 rfl ?_
      refine ok_iload_n (pc := 12) dX12_copy_12 rfl ?_
      refine ok_iald (pc := 13) (i) dX12_copy_13 ((up_ne hne).trans ha) ei (by omega) (by decide) ?_
      refine ok_iast (pc := 14) (i) dX12_copy_14 up_eq ei (by omega) (by decide) ?_
      rw [show ((va_up M bd (aI Γ 369 (fa_fill fa fb i)), sz) : Wd).1 = va_up M bd (aI Γ 369 (fa_fill fa fb i)) from rfl, up_up, fa_fill_succ]
      refine ok_iinc2 (pc := 15) (v := 1) dX12_copy_15 (by decide) (by decide) rfl ?_
      refine ok_goto (pc := 18) 2 dX12_copy_18 (by decide) ?_
      exact ih (i + 1) _ (by omega) (by rw [ei, nI_1])

set_option maxHeartbeats 1000000 in
theorem r_copy {Γ : Cx} {sz : Nat} {M : Nat → Option va_E} {ad bd : Nat} {fa fb : Rw} {K : Wd → Prop} (ha : M ad = aI Γ 369 fa) (hb : M bd = aI Γ 369 fb) (hne : ad ≠ bd) (k : K (va_up M bd (aI Γ 369 fa), sz)) : Spec Γ mX12_copy 0 0 [.ref ad, .ref bd] (M, sz) (cv K) := by
  have e0 : (M, sz) = ((va_up M bd (aI Γ 369 (fa_fill fa fb 0)), sz) : Wd) := by rw [fa_fill_0, up_same hb]
  refine spec_in [some (.ref ad), some (.ref bd), none] 1 (by decide) rfl rfl ?_
  refine ok_iconst (pc := 0) (v := 0) dX12_copy_0 (by decide) ?_
  refine ok_istore_n2 (pc := 1) dX12_copy_1 (by decide) rfl ?_
  rw [e0]
  exact l_copy ha hb hne k 369 0 0 (by omega) rfl

set_option maxHeartbeats 1000000 in
theorem r_putBack {Γ : Cx} {m sz : Nat} {M0 M : Nat → Option va_E} {σ κ : Rw} {ri : Nat → Int32} {ra : Nat → Nat → Int32} {K : Int32 → Wd → Prop} (hR : RefX Γ m M0 σ κ ri ra M) {v : Int32} (k : ∀ M', RefX Γ m M0 (ra 2) κ ri ra M' → K v (M', sz)) : Spec Γ mX12_putBack 1 0 [.ref m, .int v] (M, sz) (ci K) := by
  refine spec_in [some (.ref m), some (.int v)] 0 (by decide) rfl rfl ?_
  refine ok_aload_n (pc := 0) dX12_putBack_0 rfl ?_
  refine ok_getf (pc := 1) dX12_putBack_1 fl_X12_16 hR.o rfl ?_
  refine ok_aload_n (pc := 4) dX12_putBack_4 rfl ?_
  refine ok_getf (pc := 5) dX12_putBack_5 fl_X12_9 hR.o rfl ?_
  refine ok_callSv2 (pc := 8) (d' := 0) dX12_putBack_8 sl_X12_79 rfl (by decide) ?_
  refine r_copy hR.a2 hR.a0 (by omega) ?_
  have hR := hR.s0 (ra 2)
  refine ok_iload_n (pc := 11) dX12_putBack_11 rfl ?_
  refine ok_iret (pc := 12) dX12_putBack_12 rfl ?_
  exact k _ hR
