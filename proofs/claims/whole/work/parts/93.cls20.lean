set_option maxHeartbeats 1000000 in
theorem x_soonest {Γ : Cx} {a e z sz : Nat} {σ κ vi : Rw} {va : Nat → Rw} {M : Nat → Option va_E} {K : Int32 → Wd → Prop} (hC : ClsR Γ a e z σ κ vi va M) (hI : Inv σ) (hae : a + 92 ≤ e) (hc9 : cT σ ≤ 9999) {x y w : Int32} (k : ∀ M', ClsR Γ a e z σ κ vi (eU va (op_soonest σ x y w).1) M' → Off a 92 M M' → K (op_soonest σ x y w).2 (M', sz)) : Spec Γ mX11_soonest 6 0 [.ref a, .int x, .int y, .int w] (M, sz) (ci K) := by
  obtain ⟨⟨⟨eH, lH⟩, ⟨eK, lK⟩, ⟨eL, lL⟩, ⟨eA, lA⟩, ⟨eT, lT⟩⟩, iK, iH, iW, iL, iO, iB, hT⟩ := id hI
  
  refine spec_in [some (.ref a), some (.int x), some (.int y), some (.int w), none] 1 (by decide) rfl rfl ?_
  refine ok_aload_n (pc := 0) dX11_soonest_0 rfl ?_
  refine ok_getf (pc := 1) dX11_soonest_1 fl_X11_10 hC.1 rfl ?_
  refine ok_iload_n (pc := 4) dX11_soonest_4 rfl ?_
  refine ok_iload_n (pc := 5) dX11_soonest_5 rfl ?_
  refine ok_callVi2 (pc := 6) (d' := 1) dX11_soonest_6 vl_X11_176 hC.2.1.o rfl rfl rfl (by decide) ?_
  refine c_areTwoHills hC.2.1 eH lH ?_
  refine ok_if_eq (pc := 9) 23 dX11_soonest_9 (by decide) (fun cc_9 => ?_) (fun cc_9 => ?_)
  · have cq_9 := bI_0.mp cc_9
    refine ok_aload_n (pc := 23) dX11_soonest_23 rfl ?_
    refine ok_iconst (pc := 24) (v := 1) dX11_soonest_24 (by decide) ?_
    refine ok_callVi1 (pc := 25) (d' := 1) dX11_soonest_25 vl_X11_49 hC.1 rfl rfl rfl (by decide) ?_
    refine c_error hC hI hae 1 rfl (by decide) (by decide) (fun M2 hC2 hO2 => ?_)
    refine ok_iret (pc := 28) dX11_soonest_28 rfl ?_
    have hop : op_soonest σ x y w = (1, -1000000001) := if_neg (by unfold wyF; first | (rw [cq_9, Bool.false_and]; decide) | (rw [cq_20, Bool.and_false]; decide))
    rw [hop] at k
    rw [er_1]
    exact k _ hC2 hO2
  · have cq_9 := bI_n0.mp cc_9
    refine ok_iload_n (pc := 12) dX11_soonest_12 rfl ?_
    refine ok_iconst (pc := 13) (v := 0) dX11_soonest_13 (by decide) ?_
    refine ok_sipush (pc := 14) (v := 999) dX11_soonest_14 (by decide) ?_
    refine ok_callSi3 (pc := 17) (d' := 0) dX11_soonest_17 sl_X11_45 rfl (by decide) ?_
    refine c_within ?_
    refine ok_if_ne (pc := 20) 29 dX11_soonest_20 (by decide) (fun cc_20 => ?_) (fun cc_20 => ?_)
    · have cq_20 := bI_n0.mp cc_20
      refine ok_aload_n (pc := 29) dX11_soonest_29 rfl ?_
      refine ok_getf (pc := 30) dX11_soonest_30 fl_X11_10 hC.1 rfl ?_
      refine ok_iload_n (pc := 33) dX11_soonest_33 rfl ?_
      refine ok_iload_n (pc := 34) dX11_soonest_34 rfl ?_
      refine ok_iload_n (pc := 35) dX11_soonest_35 rfl ?_
      refine ok_bipush (pc := 36) (v := 72) dX11_soonest_36 (by decide) ?_
      refine ok_callVi4 (pc := 38) (d' := 5) dX11_soonest_38 vl_X11_208 hC.2.1.o rfl rfl rfl (by decide) ?_
      rw [Bool.and_eq_true, Bool.and_eq_true] at cq_9
      obtain ⟨⟨g1, g2⟩, g3⟩ := cq_9
      obtain ⟨ex9, lx9⟩ := wi_cnt eH (by omega) g1
      obtain ⟨ey9, ly9⟩ := wi_cnt eH (by omega) g2
      have w9 := cq_20
      unfold wi at w9
      rw [Bool.and_eq_true] at w9
      refine c_fewestHours hC.2.1 hI (by omega) (iN x) (iN y) 72 ex9 ey9 rfl (by omega) (by omega) (by decide) (of_decide_eq_true w9.1) (of_decide_eq_true w9.2) (by omega) (fun M9 hP9 hO9 => ?_)
      have hC := hC.po hI hae hP9 (fun q hq => hO9 q (by omega))
      have hO : Off a 92 M M9 := hO9.sub (by omega) (by omega)
      have hwy : wyF σ x y w = true := by unfold wyF; rw [g1, g2, g3, cq_20]; rfl
      refine ok_istore4 (pc := 41) dX11_soonest_41 (by decide) rfl ?_
      refine ok_iload (pc := 43) dX11_soonest_43 rfl ?_
      refine ok_if_ge (pc := 45) 56 dX11_soonest_45 (by decide) (fun cc_45 => ?_) (fun cc_45 => ?_)
      · have ce_45 := Int32.not_lt.mpr cc_45
        refine ok_iload (pc := 56) dX11_soonest_56 rfl ?_
        refine ok_iret (pc := 58) dX11_soonest_58 rfl ?_
        first
          | (have hop : op_soonest σ x y w = (2, -1000000002) := (if_pos hwy).trans (if_pos (Int32.not_le.mp cc_45))
             rw [hop] at k
             rw [er_2]
             exact k _ hC2 (hO.trans hO2))
          | (have hop : op_soonest σ x y w = (0, soA σ (iN x) (iN y) w 72 0) := (if_pos hwy).trans (if_neg (Int32.not_lt.mpr cc_45))
             rw [hop] at k
             rw [eU_0] at k
             exact k _ hC hO)
      · have ce_45 := Int32.not_le.mp cc_45
        refine ok_aload_n (pc := 48) dX11_soonest_48 rfl ?_
        refine ok_iconst (pc := 49) (v := 2) dX11_soonest_49 (by decide) ?_
        refine ok_callVi1 (pc := 50) (d' := 1) dX11_soonest_50 vl_X11_49 hC.1 rfl rfl rfl (by decide) ?_
        refine c_error hC hI hae 2 rfl (by decide) (by decide) (fun M2 hC2 hO2 => ?_)
        refine ok_goto (pc := 53) 58 dX11_soonest_53 (by decide) ?_
        refine ok_iret (pc := 58) dX11_soonest_58 rfl ?_
        first
          | (have hop : op_soonest σ x y w = (2, -1000000002) := (if_pos hwy).trans (if_pos (Int32.not_le.mp cc_45))
             rw [hop] at k
             rw [er_2]
             exact k _ hC2 (hO.trans hO2))
          | (have hop : op_soonest σ x y w = (0, soA σ (iN x) (iN y) w 72 0) := (if_pos hwy).trans (if_neg (Int32.not_lt.mpr cc_45))
             rw [hop] at k
             rw [eU_0] at k
             exact k _ hC hO)
    · have cq_20 := bI_0.mp cc_20
      refine ok_aload_n (pc := 23) dX11_soonest_23 rfl ?_
      refine ok_iconst (pc := 24) (v := 1) dX11_soonest_24 (by decide) ?_
      refine ok_callVi1 (pc := 25) (d' := 1) dX11_soonest_25 vl_X11_49 hC.1 rfl rfl rfl (by decide) ?_
      refine c_error hC hI hae 1 rfl (by decide) (by decide) (fun M2 hC2 hO2 => ?_)
      refine ok_iret (pc := 28) dX11_soonest_28 rfl ?_
      have hop : op_soonest σ x y w = (1, -1000000001) := if_neg (by unfold wyF; first | (rw [cq_9, Bool.false_and]; decide) | (rw [cq_20, Bool.and_false]; decide))
      rw [hop] at k
      rw [er_1]
      exact k _ hC2 hO2

set_option maxHeartbeats 1000000 in
theorem x_then {Γ : Cx} {a e z sz : Nat} {σ κ vi : Rw} {va : Nat → Rw} {M : Nat → Option va_E} {K : Int32 → Wd → Prop} (hC : ClsR Γ a e z σ κ vi va M) (hI : Inv σ) (hae : a + 92 ≤ e) (hc9 : cT σ ≤ 9999) {x y : Int32} (k : ∀ M', ClsR Γ a e z σ κ vi (eU va (op_then σ x y).1) M' → Off a 92 M M' → K (op_then σ x y).2 (M', sz)) : Spec Γ mX11_then 7 0 [.ref a, .int x, .int y] (M, sz) (ci K) := by
  obtain ⟨⟨⟨eH, lH⟩, ⟨eK, lK⟩, ⟨eL, lL⟩, ⟨eA, lA⟩, ⟨eT, lT⟩⟩, iK, iH, iW, iL, iO, iB, hT⟩ := id hI
  obtain ⟨τa, iτa, hah⟩ := id hC.2.2.1
  
  refine spec_in [some (.ref a), some (.int x), some (.int y)] 0 (by decide) rfl rfl ?_
  refine ok_iload_n (pc := 0) dX11_then_0 rfl ?_
  refine ok_iconst (pc := 1) (v := 0) dX11_then_1 (by decide) ?_
  refine ok_bipush (pc := 2) (v := 72) dX11_then_2 (by decide) ?_
  refine ok_callSi3 (pc := 4) (d' := 0) dX11_then_4 sl_X11_45 rfl (by decide) ?_
  refine c_within ?_
  refine ok_if_eq (pc := 7) 19 dX11_then_7 (by decide) (fun cc_7 => ?_) (fun cc_7 => ?_)
  · have cq_7 := bI_0.mp cc_7
    refine ok_aload_n (pc := 19) dX11_then_19 rfl ?_
    refine ok_iconst (pc := 20) (v := 1) dX11_then_20 (by decide) ?_
    refine ok_callVi1 (pc := 21) (d' := 1) dX11_then_21 vl_X11_49 hC.1 rfl rfl rfl (by decide) ?_
    refine c_error hC hI hae 1 rfl (by decide) (by decide) (fun M2 hC2 hO2 => ?_)
    refine ok_iret (pc := 24) dX11_then_24 rfl ?_
    have hop : op_then σ x y = (1, -1000000001) := if_neg (by first | (rw [cq_7, Bool.false_and]; decide) | (rw [cq_16, Bool.and_false]; decide))
    rw [hop] at k
    rw [er_1]
    exact k _ hC2 hO2
  · have cq_7 := bI_n0.mp cc_7
    refine ok_iload_n (pc := 10) dX11_then_10 rfl ?_
    refine ok_iconst (pc := 11) (v := 0) dX11_then_11 (by decide) ?_
    refine ok_iconst (pc := 12) (v := 1) dX11_then_12 (by decide) ?_
    refine ok_callSi3 (pc := 13) (d' := 0) dX11_then_13 sl_X11_45 rfl (by decide) ?_
    refine c_within ?_
    refine ok_if_ne (pc := 16) 25 dX11_then_16 (by decide) (fun cc_16 => ?_) (fun cc_16 => ?_)
    · have cq_16 := bI_n0.mp cc_16
      refine ok_aload_n (pc := 25) dX11_then_25 rfl ?_
      refine ok_getf (pc := 26) dX11_then_26 fl_X11_16 hC.1 rfl ?_
      refine ok_aload_n (pc := 29) dX11_then_29 rfl ?_
      refine ok_getf (pc := 30) dX11_then_30 fl_X11_10 hC.1 rfl ?_
      refine ok_callVv1 (pc := 33) (d' := 3) dX11_then_33 vl_X11_198 hah.o rfl rfl rfl (by decide) ?_
      obtain ⟨ex9, -, lx9⟩ := wi_lit (a := 0) (c := 72) rfl rfl (by decide) (by decide) cq_7
      obtain ⟨ey9, -, ly9⟩ := wi_lit (a := 0) (c := 1) rfl rfl (by decide) (by decide) cq_16
      refine c_copyFrom hah iτa.1.2.1.2 hC.2.1 hI (by omega) (by omega) (Or.inr (by omega)) (fun M9 hah hS9 hO9 => ?_)
      have hC := hC.ah hI hae hI hah (fun q hq => hO9 q (by omega))
      have hO : Off a 92 M M9 := hO9.sub (by omega) (by omega)
      refine ok_aload_n (pc := 36) dX11_then_36 rfl ?_
      refine ok_getf (pc := 37) dX11_then_37 fl_X11_16 hC.1 rfl ?_
      refine ok_iload_n (pc := 40) dX11_then_40 rfl ?_
      refine ok_callVv1 (pc := 41) (d' := 6) dX11_then_41 vl_X11_191 hah.o rfl rfl rfl (by decide) ?_
      refine c_passHours hah hI (by omega) (iN x) ex9 (by omega) (by omega) (fun M8 hah hO8 => ?_)
      obtain ⟨t1, t2⟩ := hrs_ok hI (iN x) (by omega)
      have hC := hC.ah hI hae t1 hah (fun q hq => hO8 q (by omega))
      have hO : Off a 92 M M8 := hO.trans (hO8.sub (by omega) (by omega))
      refine ok_iload_n (pc := 44) dX11_then_44 rfl ?_
      refine ok_if_ne (pc := 45) 61 dX11_then_45 (by decide) (fun cc_45 => ?_) (fun cc_45 => ?_)
      · refine ok_aload_n (pc := 61) dX11_then_61 rfl ?_
        refine ok_getf (pc := 62) dX11_then_62 fl_X11_16 hC.1 rfl ?_
        refine ok_getf (pc := 65) dX11_then_65 fl_X11_205 hah.o rfl ?_
        refine ok_iret (pc := 68) dX11_then_68 rfl ?_
        have hop : op_then σ x y = (0, hrsF σ (iN x) (4 + iN y)) := if_pos (by rw [cq_7, cq_16]; rfl)
        rw [hop] at k
        rw [eU_0] at k
        first
          | (have e0 : iN y = 0 := by rw [cc_45]; rfl
             rw [e0] at k
             exact k _ hC hO)
          | (have e0 : iN y = 1 := by
               rcases (show iN y = 0 ∨ iN y = 1 by omega) with g | g
               · rw [g] at ey9; exact absurd ey9 cc_45
               · exact g
             rw [e0] at k
             exact k _ hC hO)
      · refine ok_aload_n (pc := 48) dX11_then_48 rfl ?_
        refine ok_getf (pc := 49) dX11_then_49 fl_X11_16 hC.1 rfl ?_
        refine ok_getf (pc := 52) dX11_then_52 fl_X11_202 hah.o rfl ?_
        refine ok_getf (pc := 55) dX11_then_55 fl_X11_140 hah.ar.1 rfl ?_
        refine ok_goto (pc := 58) 68 dX11_then_58 (by decide) ?_
        refine ok_iret (pc := 68) dX11_then_68 rfl ?_
        have hop : op_then σ x y = (0, hrsF σ (iN x) (4 + iN y)) := if_pos (by rw [cq_7, cq_16]; rfl)
        rw [hop] at k
        rw [eU_0] at k
        first
          | (have e0 : iN y = 0 := by rw [cc_45]; rfl
             rw [e0] at k
             exact k _ hC hO)
          | (have e0 : iN y = 1 := by
               rcases (show iN y = 0 ∨ iN y = 1 by omega) with g | g
               · rw [g] at ey9; exact absurd ey9 cc_45
               · exact g
             rw [e0] at k
             exact k _ hC hO)
    · have cq_16 := bI_0.mp cc_16
      refine ok_aload_n (pc := 19) dX11_then_19 rfl ?_
      refine ok_iconst (pc := 20) (v := 1) dX11_then_20 (by decide) ?_
      refine ok_callVi1 (pc := 21) (d' := 1) dX11_then_21 vl_X11_49 hC.1 rfl rfl rfl (by decide) ?_
      refine c_error hC hI hae 1 rfl (by decide) (by decide) (fun M2 hC2 hO2 => ?_)
      refine ok_iret (pc := 24) dX11_then_24 rfl ?_
      have hop : op_then σ x y = (1, -1000000001) := if_neg (by first | (rw [cq_7, Bool.false_and]; decide) | (rw [cq_16, Bool.and_false]; decide))
      rw [hop] at k
      rw [er_1]
      exact k _ hC2 hO2

set_option maxHeartbeats 1000000 in
theorem x_where {Γ : Cx} {a e z sz : Nat} {σ κ vi : Rw} {va : Nat → Rw} {M : Nat → Option va_E} {K : Int32 → Wd → Prop} (hC : ClsR Γ a e z σ κ vi va M) (hI : Inv σ) (hae : a + 92 ≤ e) (hc9 : cT σ ≤ 9999) {x y w : Int32} (k : ∀ M', ClsR Γ a e z σ κ vi (eU va (op_where σ x y w).1) M' → Off a 92 M M' → K (op_where σ x y w).2 (M', sz)) : Spec Γ mX11_where 7 0 [.ref a, .int x, .int y, .int w] (M, sz) (ci K) := by
  obtain ⟨⟨⟨eH, lH⟩, ⟨eK, lK⟩, ⟨eL, lL⟩, ⟨eA, lA⟩, ⟨eT, lT⟩⟩, iK, iH, iW, iL, iO, iB, hT⟩ := id hI
  obtain ⟨τa, iτa, hah⟩ := id hC.2.2.1
  
  refine spec_in [some (.ref a), some (.int x), some (.int y), some (.int w)] 0 (by decide) rfl rfl ?_
  refine ok_iload_n (pc := 0) dX11_where_0 rfl ?_
  refine ok_iconst (pc := 1) (v := 0) dX11_where_1 (by decide) ?_
  refine ok_bipush (pc := 2) (v := 72) dX11_where_2 (by decide) ?_
  refine ok_callSi3 (pc := 4) (d' := 0) dX11_where_4 sl_X11_45 rfl (by decide) ?_
  refine c_within ?_
  refine ok_if_eq (pc := 7) 31 dX11_where_7 (by decide) (fun cc_7 => ?_) (fun cc_7 => ?_)
  · have cq_7 := bI_0.mp cc_7
    refine ok_aload_n (pc := 31) dX11_where_31 rfl ?_
    refine ok_iconst (pc := 32) (v := 1) dX11_where_32 (by decide) ?_
    refine ok_callVi1 (pc := 33) (d' := 1) dX11_where_33 vl_X11_49 hC.1 rfl rfl rfl (by decide) ?_
    refine c_error hC hI hae 1 rfl (by decide) (by decide) (fun M2 hC2 hO2 => ?_)
    refine ok_iret (pc := 36) dX11_where_36 rfl ?_
    have hop : op_where σ x y w = (1, -1000000001) := if_neg (by first | (rw [cq_7, Bool.false_and, Bool.false_and]; decide) | (rw [cq_18, Bool.and_false, Bool.false_and]; decide) | (rw [cq_28, Bool.and_false]; decide))
    rw [hop] at k
    rw [er_1]
    exact k _ hC2 hO2
  · have cq_7 := bI_n0.mp cc_7
    refine ok_aload_n (pc := 10) dX11_where_10 rfl ?_
    refine ok_getf (pc := 11) dX11_where_11 fl_X11_10 hC.1 rfl ?_
    refine ok_iload_n (pc := 14) dX11_where_14 rfl ?_
    refine ok_callVi1 (pc := 15) (d' := 0) dX11_where_15 vl_X11_185 hC.2.1.o rfl rfl rfl (by decide) ?_
    refine c_isLetter hC.2.1 eL lL ?_
    refine ok_if_eq (pc := 18) 31 dX11_where_18 (by decide) (fun cc_18 => ?_) (fun cc_18 => ?_)
    · have cq_18 := bI_0.mp cc_18
      refine ok_aload_n (pc := 31) dX11_where_31 rfl ?_
      refine ok_iconst (pc := 32) (v := 1) dX11_where_32 (by decide) ?_
      refine ok_callVi1 (pc := 33) (d' := 1) dX11_where_33 vl_X11_49 hC.1 rfl rfl rfl (by decide) ?_
      refine c_error hC hI hae 1 rfl (by decide) (by decide) (fun M2 hC2 hO2 => ?_)
      refine ok_iret (pc := 36) dX11_where_36 rfl ?_
      have hop : op_where σ x y w = (1, -1000000001) := if_neg (by first | (rw [cq_7, Bool.false_and, Bool.false_and]; decide) | (rw [cq_18, Bool.and_false, Bool.false_and]; decide) | (rw [cq_28, Bool.and_false]; decide))
      rw [hop] at k
      rw [er_1]
      exact k _ hC2 hO2
    · have cq_18 := bI_n0.mp cc_18
      refine ok_iload_n (pc := 21) dX11_where_21 rfl ?_
      refine ok_iconst (pc := 22) (v := 5) dX11_where_22 (by decide) ?_
      refine ok_bipush (pc := 23) (v := 6) dX11_where_23 (by decide) ?_
      refine ok_callSi3 (pc := 25) (d' := 0) dX11_where_25 sl_X11_45 rfl (by decide) ?_
      refine c_within ?_
      refine ok_if_ne (pc := 28) 37 dX11_where_28 (by decide) (fun cc_28 => ?_) (fun cc_28 => ?_)
      · have cq_28 := bI_n0.mp cc_28
        refine ok_aload_n (pc := 37) dX11_where_37 rfl ?_
        refine ok_getf (pc := 38) dX11_where_38 fl_X11_16 hC.1 rfl ?_
        refine ok_aload_n (pc := 41) dX11_where_41 rfl ?_
        refine ok_getf (pc := 42) dX11_where_42 fl_X11_10 hC.1 rfl ?_
        refine ok_callVv1 (pc := 45) (d' := 3) dX11_where_45 vl_X11_198 hah.o rfl rfl rfl (by decide) ?_
        obtain ⟨ex9, -, lx9⟩ := wi_lit (a := 0) (c := 72) rfl rfl (by decide) (by decide) cq_7
        obtain ⟨ey9, ly9⟩ := wi_cnt eL (by omega) cq_18
        obtain ⟨ew9, -, lw9⟩ := wi_lit (a := 5) (c := 6) rfl rfl (by decide) (by decide) cq_28
        refine c_copyFrom hah iτa.1.2.1.2 hC.2.1 hI (by omega) (by omega) (Or.inr (by omega)) (fun M9 hah hS9 hO9 => ?_)
        have hC := hC.ah hI hae hI hah (fun q hq => hO9 q (by omega))
        have hO : Off a 92 M M9 := hO9.sub (by omega) (by omega)
        refine ok_aload_n (pc := 48) dX11_where_48 rfl ?_
        refine ok_getf (pc := 49) dX11_where_49 fl_X11_16 hC.1 rfl ?_
        refine ok_iload_n (pc := 52) dX11_where_52 rfl ?_
        refine ok_callVv1 (pc := 53) (d' := 6) dX11_where_53 vl_X11_191 hah.o rfl rfl rfl (by decide) ?_
        refine c_passHours hah hI (by omega) (iN x) ex9 (by omega) (by omega) (fun M8 hah hO8 => ?_)
        obtain ⟨t1, t2⟩ := hrs_ok hI (iN x) (by omega)
        have hC := hC.ah hI hae t1 hah (fun q hq => hO8 q (by omega))
        have hO : Off a 92 M M8 := hO.trans (hO8.sub (by omega) (by omega))
        refine ok_aload_n (pc := 56) dX11_where_56 rfl ?_
        refine ok_getf (pc := 57) dX11_where_57 fl_X11_16 hC.1 rfl ?_
        refine ok_iload_n (pc := 60) dX11_where_60 rfl ?_
        refine ok_iload_n (pc := 61) dX11_where_61 rfl ?_
        refine ok_callVi2 (pc := 62) (d' := 1) dX11_where_62 vl_X11_188 hah.o rfl rfl rfl (by decide) ?_
        have eL8 := t1.1.2.2.1
        have cL8 : cL (hrsF σ (iN x)) = cL σ := t2.1
        refine c_ofOne hah eL8.1 eL8.2 (iN y) (iN w) ey9 ew9 (by omega) (by omega) ?_
        refine ok_iret (pc := 65) dX11_where_65 rfl ?_
        have hop : op_where σ x y w = (0, lf (hrsF σ (iN x)) (iN y) (iN w)) := if_pos (by rw [cq_7, cq_18, cq_28]; rfl)
        rw [hop] at k
        rw [eU_0] at k
        exact k _ hC hO
      · have cq_28 := bI_0.mp cc_28
        refine ok_aload_n (pc := 31) dX11_where_31 rfl ?_
        refine ok_iconst (pc := 32) (v := 1) dX11_where_32 (by decide) ?_
        refine ok_callVi1 (pc := 33) (d' := 1) dX11_where_33 vl_X11_49 hC.1 rfl rfl rfl (by decide) ?_
        refine c_error hC hI hae 1 rfl (by decide) (by decide) (fun M2 hC2 hO2 => ?_)
        refine ok_iret (pc := 36) dX11_where_36 rfl ?_
        have hop : op_where σ x y w = (1, -1000000001) := if_neg (by first | (rw [cq_7, Bool.false_and, Bool.false_and]; decide) | (rw [cq_18, Bool.and_false, Bool.false_and]; decide) | (rw [cq_28, Bool.and_false]; decide))
        rw [hop] at k
        rw [er_1]
        exact k _ hC2 hO2

set_option maxHeartbeats 1000000 in
theorem x_hours {Γ : Cx} {a e z sz : Nat} {σ κ vi : Rw} {va : Nat → Rw} {M : Nat → Option va_E} {K : Int32 → Wd → Prop} (hC : ClsR Γ a e z σ κ vi va M) (hI : Inv σ) (hae : a + 92 ≤ e) (hc9 : cT σ ≤ 9999) {x : Int32} (k : ∀ M', ClsR Γ a e z (op_hours σ x).2.2 κ vi (eU va (op_hours σ x).1) M' → Off a 92 M M' → K (op_hours σ x).2.1 (M', sz)) : Spec Γ mX11_hours 7 0 [.ref a, .int x] (M, sz) (ci K) := by
  obtain ⟨⟨⟨eH, lH⟩, ⟨eK, lK⟩, ⟨eL, lL⟩, ⟨eA, lA⟩, ⟨eT, lT⟩⟩, iK, iH, iW, iL, iO, iB, hT⟩ := id hI
  
  refine spec_in [some (.ref a), some (.int x)] 0 (by decide) rfl rfl ?_
  refine ok_iload_n (pc := 0) dX11_hours_0 rfl ?_
  refine ok_iconst (pc := 1) (v := 1) dX11_hours_1 (by decide) ?_
  refine ok_bipush (pc := 2) (v := 72) dX11_hours_2 (by decide) ?_
  refine ok_callSi3 (pc := 4) (d' := 0) dX11_hours_4 sl_X11_45 rfl (by decide) ?_
  refine c_within ?_
  refine ok_if_ne (pc := 7) 16 dX11_hours_7 (by decide) (fun cc_7 => ?_) (fun cc_7 => ?_)
  · have cq_7 := bI_n0.mp cc_7
    refine ok_aload_n (pc := 16) dX11_hours_16 rfl ?_
    refine ok_getf (pc := 17) dX11_hours_17 fl_X11_10 hC.1 rfl ?_
    refine ok_getf (pc := 20) dX11_hours_20 fl_X11_122 hC.2.1.o rfl ?_
    refine ok_iload_n (pc := 23) dX11_hours_23 rfl ?_
    refine ok_iadd (pc := 24) dX11_hours_24 ?_
    refine ok_sipush (pc := 25) (v := 9999) dX11_hours_25 (by decide) ?_
    refine ok_icmp_le (pc := 28) 37 dX11_hours_28 (by decide) (fun cc_28 => ?_) (fun cc_28 => ?_)
    · have ce_28 := Int32.not_lt.mpr cc_28
      refine ok_aload_n (pc := 37) dX11_hours_37 rfl ?_
      refine ok_getf (pc := 38) dX11_hours_38 fl_X11_10 hC.1 rfl ?_
      refine ok_iload_n (pc := 41) dX11_hours_41 rfl ?_
      refine ok_callVv1 (pc := 42) (d' := 6) dX11_hours_42 vl_X11_191 hC.2.1.o rfl rfl rfl (by decide) ?_
      obtain ⟨ex9, -, lx9⟩ := wi_lit (a := 1) (c := 72) rfl rfl (by decide) (by decide) cq_7
      refine c_passHours hC.2.1 hI (by omega) (iN x) ex9 (by omega) (by omega) (fun M9 hP9 hO9 => ?_)
      have hC := hC.po hI hae hP9 (fun q hq => hO9 q (by omega))
      have hO : Off a 92 M M9 := hO9.sub (by omega) (by omega)
      refine ok_aload_n (pc := 45) dX11_hours_45 rfl ?_
      refine ok_getf (pc := 46) dX11_hours_46 fl_X11_10 hC.1 rfl ?_
      refine ok_getf (pc := 49) dX11_hours_49 fl_X11_122 hC.2.1.o rfl ?_
      refine ok_iret (pc := 52) dX11_hours_52 rfl ?_
      have hop : op_hours σ x = (0, hrsF σ (iN x) 0, hrsF σ (iN x)) := (if_pos cq_7).trans (if_neg (Int32.not_lt.mpr cc_28))
      rw [hop] at k
      rw [eU_0] at k
      exact k _ hC hO
    · have ce_28 := Int32.not_le.mp cc_28
      refine ok_aload_n (pc := 31) dX11_hours_31 rfl ?_
      refine ok_iconst (pc := 32) (v := 3) dX11_hours_32 (by decide) ?_
      refine ok_callVi1 (pc := 33) (d' := 1) dX11_hours_33 vl_X11_49 hC.1 rfl rfl rfl (by decide) ?_
      refine c_error hC hI hae 3 rfl (by decide) (by decide) (fun M2 hC2 hO2 => ?_)
      refine ok_iret (pc := 36) dX11_hours_36 rfl ?_
      have hop : op_hours σ x = e3 3 σ := (if_pos cq_7).trans (if_pos (Int32.not_le.mp cc_28))
      rw [hop] at k
      exact k _ hC2 hO2
  · have cq_7 := bI_0.mp cc_7
    refine ok_aload_n (pc := 10) dX11_hours_10 rfl ?_
    refine ok_iconst (pc := 11) (v := 1) dX11_hours_11 (by decide) ?_
    refine ok_callVi1 (pc := 12) (d' := 1) dX11_hours_12 vl_X11_49 hC.1 rfl rfl rfl (by decide) ?_
    refine c_error hC hI hae 1 rfl (by decide) (by decide) (fun M2 hC2 hO2 => ?_)
    refine ok_iret (pc := 15) dX11_hours_15 rfl ?_
    have hop : op_hours σ x = e3 1 σ := if_neg (by rw [cq_7]; decide)
    rw [hop] at k
    exact k _ hC2 hO2
