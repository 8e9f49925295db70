set_option maxHeartbeats 1000000 in
theorem x_hill {Γ : Cx} {a e z sz : Nat} {σ κ vi : Rw} {va : Nat → Rw} {M : Nat → Option va_E} {K : Int32 → Wd → Prop} (hC : ClsR Γ a e z σ κ vi va M) (hI : Inv σ) (hae : a + 92 ≤ e) {x y : Int32} (k : ∀ M', ClsR Γ a e z (op_hill σ x y).2.2 κ vi (eU va (op_hill σ x y).1) M' → Off a 92 M M' → K (op_hill σ x y).2.1 (M', sz)) : Spec Γ mX11_hill 3 0 [.ref a, .int x, .int y] (M, sz) (ci K) := by
  obtain ⟨⟨⟨eH, lH⟩, ⟨eK, lK⟩, ⟨eL, lL⟩, ⟨eA, lA⟩, ⟨eT, lT⟩⟩, iK, iH, iW, iL, iO, iB, hT⟩ := id hI
  
  refine spec_in [some (.ref a), some (.int x), some (.int y)] 0 (by decide) rfl rfl ?_
  refine ok_iload_n (pc := 0) dX11_hill_0 rfl ?_
  refine ok_iconst (pc := 1) (v := 0) dX11_hill_1 (by decide) ?_
  refine ok_sipush (pc := 2) (v := 255) dX11_hill_2 (by decide) ?_
  refine ok_callSi3 (pc := 5) (d' := 0) dX11_hill_5 sl_X11_45 rfl (by decide) ?_
  refine c_within ?_
  refine ok_if_eq (pc := 8) 21 dX11_hill_8 (by decide) (fun cc_8 => ?_) (fun cc_8 => ?_)
  · have cq_8 := bI_0.mp cc_8
    refine ok_aload_n (pc := 21) dX11_hill_21 rfl ?_
    refine ok_iconst (pc := 22) (v := 1) dX11_hill_22 (by decide) ?_
    refine ok_callVi1 (pc := 23) (d' := 1) dX11_hill_23 vl_X11_49 hC.1 rfl rfl rfl (by decide) ?_
    refine c_error hC hI hae 1 rfl (by decide) (by decide) (fun M2 hC2 hO2 => ?_)
    refine ok_iret (pc := 26) dX11_hill_26 rfl ?_
    have hop : op_hill σ x y = e3 1 σ := if_neg (by first | (rw [cq_8, Bool.false_and]; decide) | (rw [cq_18, Bool.and_false]; decide))
    rw [hop] at k
    exact k _ hC2 hO2
  · have cq_8 := bI_n0.mp cc_8
    refine ok_iload_n (pc := 11) dX11_hill_11 rfl ?_
    refine ok_iconst (pc := 12) (v := 0) dX11_hill_12 (by decide) ?_
    refine ok_bipush (pc := 13) (v := 9) dX11_hill_13 (by decide) ?_
    refine ok_callSi3 (pc := 15) (d' := 0) dX11_hill_15 sl_X11_45 rfl (by decide) ?_
    refine c_within ?_
    refine ok_if_ne (pc := 18) 27 dX11_hill_18 (by decide) (fun cc_18 => ?_) (fun cc_18 => ?_)
    · have cq_18 := bI_n0.mp cc_18
      refine ok_aload_n (pc := 27) dX11_hill_27 rfl ?_
      refine ok_getf (pc := 28) dX11_hill_28 fl_X11_10 hC.1 rfl ?_
      refine ok_iload_n (pc := 31) dX11_hill_31 rfl ?_
      refine ok_callVi1 (pc := 32) (d' := 2) dX11_hill_32 vl_X11_53 hC.2.1.o rfl rfl rfl (by decide) ?_
      refine c_hillAt hC.2.1 eH lH (fun r9 hr1 hr2 => ?_)
      refine ok_if_lt (pc := 35) 44 dX11_hill_35 (by decide) (fun cc_35 => ?_) (fun cc_35 => ?_)
      · have ce_35 := Int32.not_le.mpr cc_35
        have htk : takF σ x (cH σ) = false := by
          cases h9 : takF σ x (cH σ) with
          | false => rfl
          | true => exact absurd cc_35 (Int32.not_lt.mpr (hr1 h9))
        refine ok_aload_n (pc := 44) dX11_hill_44 rfl ?_
        refine ok_getf (pc := 45) dX11_hill_45 fl_X11_10 hC.1 rfl ?_
        refine ok_getf (pc := 48) dX11_hill_48 fl_X11_56 hC.2.1.o rfl ?_
        refine ok_bipush (pc := 51) (v := 9) dX11_hill_51 (by decide) ?_
        refine ok_icmp_lt (pc := 53) 62 dX11_hill_53 (by decide) (fun cc_53 => ?_) (fun cc_53 => ?_)
        · have ce_53 := Int32.not_le.mpr cc_53
          refine ok_aload_n (pc := 62) dX11_hill_62 rfl ?_
          refine ok_getf (pc := 63) dX11_hill_63 fl_X11_10 hC.1 rfl ?_
          refine ok_iload_n (pc := 66) dX11_hill_66 rfl ?_
          refine ok_iload_n (pc := 67) dX11_hill_67 rfl ?_
          refine ok_callVi2 (pc := 68) (d' := 2) dX11_hill_68 vl_X11_60 hC.2.1.o rfl rfl rfl (by decide) ?_
          have h9 : cH σ < 9 := by
            rw [eH, fa_lit 9] at cc_53
            rcases Nat.lt_or_ge (cH σ) 9 with g | g
            · exact g
            · exact absurd cc_53 (nI_nlt g (by omega))
          refine c_addHill hC.2.1 hI.bd (by omega) (cH σ) eH h9 (fun M9 hP9 hO9 => ?_)
          have hC := hC.po hI hae hP9 (fun q hq => hO9 q (by omega))
          have hO : Off a 92 M M9 := hO9.sub (by omega) (by omega)
          refine ok_iret (pc := 71) dX11_hill_71 rfl ?_
          have hop : op_hill σ x y = (0, nI (cH σ), risF σ (cH σ) x y) := (if_pos (by rw [cq_8, cq_18]; rfl)).trans ((if_neg (by rw [htk]; decide)).trans (if_neg (by rw [eH]; intro h; have g9 := (nI_eq (b := 9) (by omega) (by decide)).mp h; omega)))
          rw [hop] at k
          rw [eU_0] at k
          exact k _ hC hO
        · have ce_53 := Int32.not_lt.mp cc_53
          refine ok_aload_n (pc := 56) dX11_hill_56 rfl ?_
          refine ok_iconst (pc := 57) (v := 4) dX11_hill_57 (by decide) ?_
          refine ok_callVi1 (pc := 58) (d' := 1) dX11_hill_58 vl_X11_49 hC.1 rfl rfl rfl (by decide) ?_
          refine c_error hC hI hae 4 rfl (by decide) (by decide) (fun M2 hC2 hO2 => ?_)
          refine ok_iret (pc := 61) dX11_hill_61 rfl ?_
          have hop : op_hill σ x y = e3 4 σ := (if_pos (by rw [cq_8, cq_18]; rfl)).trans ((if_neg (by rw [htk]; decide)).trans (if_pos (by rw [eH] at cc_53 ⊢; rcases Nat.lt_or_ge (cH σ) 9 with g | g; exact absurd (nI_lt (b := 9) g (by decide)) cc_53; rw [show cH σ = 9 by omega]; rfl)))
          rw [hop] at k
          exact k _ hC2 hO2
      · have ce_35 := Int32.not_lt.mp cc_35
        have htk : takF σ x (cH σ) = true := by
          cases h9 : takF σ x (cH σ) with
          | true => rfl
          | false => exact absurd (hr2 h9) cc_35
        refine ok_aload_n (pc := 38) dX11_hill_38 rfl ?_
        refine ok_iconst (pc := 39) (v := 3) dX11_hill_39 (by decide) ?_
        refine ok_callVi1 (pc := 40) (d' := 1) dX11_hill_40 vl_X11_49 hC.1 rfl rfl rfl (by decide) ?_
        refine c_error hC hI hae 3 rfl (by decide) (by decide) (fun M2 hC2 hO2 => ?_)
        refine ok_iret (pc := 43) dX11_hill_43 rfl ?_
        have hop : op_hill σ x y = e3 3 σ := (if_pos (by rw [cq_8, cq_18]; rfl)).trans (if_pos htk)
        rw [hop] at k
        exact k _ hC2 hO2
    · have cq_18 := bI_0.mp cc_18
      refine ok_aload_n (pc := 21) dX11_hill_21 rfl ?_
      refine ok_iconst (pc := 22) (v := 1) dX11_hill_22 (by decide) ?_
      refine ok_callVi1 (pc := 23) (d' := 1) dX11_hill_23 vl_X11_49 hC.1 rfl rfl rfl (by decide) ?_
      refine c_error hC hI hae 1 rfl (by decide) (by decide) (fun M2 hC2 hO2 => ?_)
      refine ok_iret (pc := 26) dX11_hill_26 rfl ?_
      have hop : op_hill σ x y = e3 1 σ := if_neg (by first | (rw [cq_8, Bool.false_and]; decide) | (rw [cq_18, Bool.and_false]; decide))
      rw [hop] at k
      exact k _ hC2 hO2

theorem wi_m1 {w y : Int32} {n : Nat} (hy : y = nI n) (hn : n < 2 ^ 30) : wi w (-1) (y - 1) = (decide (w = -1) || wi w 0 (y - 1)) := by
  have e1 : (y - 1).toInt = (n : Int) - 1 := by rw [hy]; exact pk_sub_toInt (b := 1) hn (by decide)
  have em : (-1 : Int32).toInt = -1 := rfl
  have e0 : (0 : Int32).toInt = 0 := rfl
  unfold wi
  by_cases c : w = -1
  · rw [decide_eq_true c, Bool.true_or, c]
    rw [decide_eq_true ((fa_le _ _).mpr (Int.le_refl _)), decide_eq_true ((fa_le _ _).mpr (by rw [em, e1]; omega))]
    rfl
  · rw [decide_eq_false c, Bool.false_or]
    have h9 : ((-1 : Int32) ≤ w) ↔ (0 ≤ w) := by
      rw [fa_le, fa_le, em, e0]
      have h8 : w.toInt ≠ -1 := fun h => c ((fa_eq _ _).mpr (h.trans em.symm))
      omega
    rw [decide_eq_decide.mpr h9]

set_option maxHeartbeats 1000000 in
theorem x_letter {Γ : Cx} {a e z sz : Nat} {σ κ vi : Rw} {va : Nat → Rw} {M : Nat → Option va_E} {K : Int32 → Wd → Prop} (hC : ClsR Γ a e z σ κ vi va M) (hI : Inv σ) (hae : a + 92 ≤ e) {x y w u : Int32} (k : ∀ M', ClsR Γ a e z (op_letter σ x y w u).2.2 κ vi (eU va (op_letter σ x y w u).1) M' → Off a 92 M M' → K (op_letter σ x y w u).2.1 (M', sz)) : Spec Γ mX11_letter 3 0 [.ref a, .int x, .int y, .int w, .int u] (M, sz) (ci K) := by
  obtain ⟨⟨⟨eH, lH⟩, ⟨eK, lK⟩, ⟨eL, lL⟩, ⟨eA, lA⟩, ⟨eT, lT⟩⟩, iK, iH, iW, iL, iO, iB, hT⟩ := id hI
  have hw1 := wi_m1 (w := u) eL (by omega)
  
  refine spec_in [some (.ref a), some (.int x), some (.int y), some (.int w), some (.int u)] 0 (by decide) rfl rfl ?_
  refine ok_aload_n (pc := 0) dX11_letter_0 rfl ?_
  refine ok_getf (pc := 1) dX11_letter_1 fl_X11_10 hC.1 rfl ?_
  refine ok_iload_n (pc := 4) dX11_letter_4 rfl ?_
  refine ok_iload_n (pc := 5) dX11_letter_5 rfl ?_
  refine ok_callVi2 (pc := 6) (d' := 1) dX11_letter_6 vl_X11_176 hC.2.1.o rfl rfl rfl (by decide) ?_
  refine c_areTwoHills hC.2.1 eH lH ?_
  refine ok_if_eq (pc := 9) 40 dX11_letter_9 (by decide) (fun cc_9 => ?_) (fun cc_9 => ?_)
  · have cq_9 := bI_0.mp cc_9
    refine ok_aload_n (pc := 40) dX11_letter_40 rfl ?_
    refine ok_iconst (pc := 41) (v := 1) dX11_letter_41 (by decide) ?_
    refine ok_callVi1 (pc := 42) (d' := 1) dX11_letter_42 vl_X11_49 hC.1 rfl rfl rfl (by decide) ?_
    refine c_error hC hI hae 1 rfl (by decide) (by decide) (fun M2 hC2 hO2 => ?_)
    refine ok_iret (pc := 45) dX11_letter_45 rfl ?_
    have hop : op_letter σ x y w u = e3 1 σ := if_neg (by rw [← hw1]; first | (rw [cq_9, Bool.false_and, Bool.false_and]; decide) | (rw [cq_19, Bool.and_false, Bool.false_and]; decide) | (rw [cq_37, Bool.and_false]; decide))
    rw [hop] at k
    exact k _ hC2 hO2
  · have cq_9 := bI_n0.mp cc_9
    refine ok_iload_n (pc := 12) dX11_letter_12 rfl ?_
    refine ok_iconst (pc := 13) (v := 0) dX11_letter_13 (by decide) ?_
    refine ok_bipush (pc := 14) (v := 30) dX11_letter_14 (by decide) ?_
    refine ok_callSi3 (pc := 16) (d' := 0) dX11_letter_16 sl_X11_45 rfl (by decide) ?_
    refine c_within ?_
    refine ok_if_eq (pc := 19) 40 dX11_letter_19 (by decide) (fun cc_19 => ?_) (fun cc_19 => ?_)
    · have cq_19 := bI_0.mp cc_19
      refine ok_aload_n (pc := 40) dX11_letter_40 rfl ?_
      refine ok_iconst (pc := 41) (v := 1) dX11_letter_41 (by decide) ?_
      refine ok_callVi1 (pc := 42) (d' := 1) dX11_letter_42 vl_X11_49 hC.1 rfl rfl rfl (by decide) ?_
      refine c_error hC hI hae 1 rfl (by decide) (by decide) (fun M2 hC2 hO2 => ?_)
      refine ok_iret (pc := 45) dX11_letter_45 rfl ?_
      have hop : op_letter σ x y w u = e3 1 σ := if_neg (by rw [← hw1]; first | (rw [cq_9, Bool.false_and, Bool.false_and]; decide) | (rw [cq_19, Bool.and_false, Bool.false_and]; decide) | (rw [cq_37, Bool.and_false]; decide))
      rw [hop] at k
      exact k _ hC2 hO2
    · have cq_19 := bI_n0.mp cc_19
      refine ok_iload (pc := 22) dX11_letter_22 rfl ?_
      refine ok_iconst (pc := 24) (v := -1) dX11_letter_24 (by decide) ?_
      refine ok_aload_n (pc := 25) dX11_letter_25 rfl ?_
      refine ok_getf (pc := 26) dX11_letter_26 fl_X11_10 hC.1 rfl ?_
      refine ok_getf (pc := 29) dX11_letter_29 fl_X11_179 hC.2.1.o rfl ?_
      refine ok_iconst (pc := 32) (v := 1) dX11_letter_32 (by decide) ?_
      refine ok_isub (pc := 33) dX11_letter_33 ?_
      refine ok_callSi3 (pc := 34) (d' := 0) dX11_letter_34 sl_X11_45 rfl (by decide) ?_
      refine c_within ?_
      refine ok_if_ne (pc := 37) 46 dX11_letter_37 (by decide) (fun cc_37 => ?_) (fun cc_37 => ?_)
      · have cq_37 := bI_n0.mp cc_37
        refine ok_aload_n (pc := 46) dX11_letter_46 rfl ?_
        refine ok_getf (pc := 47) dX11_letter_47 fl_X11_10 hC.1 rfl ?_
        refine ok_getf (pc := 50) dX11_letter_50 fl_X11_179 hC.2.1.o rfl ?_
        refine ok_bipush (pc := 53) (v := 12) dX11_letter_53 (by decide) ?_
        refine ok_icmp_lt (pc := 55) 64 dX11_letter_55 (by decide) (fun cc_55 => ?_) (fun cc_55 => ?_)
        · have ce_55 := Int32.not_le.mpr cc_55
          refine ok_aload_n (pc := 64) dX11_letter_64 rfl ?_
          refine ok_getf (pc := 65) dX11_letter_65 fl_X11_10 hC.1 rfl ?_
          refine ok_iload_n (pc := 68) dX11_letter_68 rfl ?_
          refine ok_iload_n (pc := 69) dX11_letter_69 rfl ?_
          refine ok_iload_n (pc := 70) dX11_letter_70 rfl ?_
          refine ok_iload (pc := 71) dX11_letter_71 rfl ?_
          refine ok_callVi4 (pc := 73) (d' := 2) dX11_letter_73 vl_X11_182 hC.2.1.o rfl rfl rfl (by decide) ?_
          have h9 : cL σ < 12 := by
            rw [eL, fa_lit 12] at cc_55
            rcases Nat.lt_or_ge (cL σ) 12 with g | g
            · exact g
            · exact absurd cc_55 (nI_nlt g (by omega))
          refine c_addLetter hC.2.1 hI.bd (by omega) (cL σ) eL h9 (fun M9 hP9 hO9 => ?_)
          have hC := hC.po hI hae hP9 (fun q hq => hO9 q (by omega))
          have hO : Off a 92 M M9 := hO9.sub (by omega) (by omega)
          refine ok_iret (pc := 76) dX11_letter_76 rfl ?_
          have hop : op_letter σ x y w u = (0, nI (cL σ), letF σ (cL σ) x y w u) := (if_pos (by rw [cq_9, cq_19, ← hw1, cq_37]; rfl)).trans (if_neg (by rw [eL]; intro h; have g9 := (nI_eq (b := 12) (by omega) (by decide)).mp h; omega))
          rw [hop] at k
          rw [eU_0] at k
          exact k _ hC hO
        · have ce_55 := Int32.not_lt.mp cc_55
          refine ok_aload_n (pc := 58) dX11_letter_58 rfl ?_
          refine ok_iconst (pc := 59) (v := 4) dX11_letter_59 (by decide) ?_
          refine ok_callVi1 (pc := 60) (d' := 1) dX11_letter_60 vl_X11_49 hC.1 rfl rfl rfl (by decide) ?_
          refine c_error hC hI hae 4 rfl (by decide) (by decide) (fun M2 hC2 hO2 => ?_)
          refine ok_iret (pc := 63) dX11_letter_63 rfl ?_
          have hop : op_letter σ x y w u = e3 4 σ := (if_pos (by rw [cq_9, cq_19, ← hw1, cq_37]; rfl)).trans (if_pos (by rw [eL] at cc_55 ⊢; rcases Nat.lt_or_ge (cL σ) 12 with g | g; exact absurd (nI_lt (b := 12) g (by decide)) cc_55; rw [show cL σ = 12 by omega]; rfl))
          rw [hop] at k
          exact k _ hC2 hO2
      · have cq_37 := bI_0.mp cc_37
        refine ok_aload_n (pc := 40) dX11_letter_40 rfl ?_
        refine ok_iconst (pc := 41) (v := 1) dX11_letter_41 (by decide) ?_
        refine ok_callVi1 (pc := 42) (d' := 1) dX11_letter_42 vl_X11_49 hC.1 rfl rfl rfl (by decide) ?_
        refine c_error hC hI hae 1 rfl (by decide) (by decide) (fun M2 hC2 hO2 => ?_)
        refine ok_iret (pc := 45) dX11_letter_45 rfl ?_
        have hop : op_letter σ x y w u = e3 1 σ := if_neg (by rw [← hw1]; first | (rw [cq_9, Bool.false_and, Bool.false_and]; decide) | (rw [cq_19, Bool.and_false, Bool.false_and]; decide) | (rw [cq_37, Bool.and_false]; decide))
        rw [hop] at k
        exact k _ hC2 hO2
