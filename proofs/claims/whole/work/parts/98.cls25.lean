set_option maxHeartbeats 1000000 in
theorem lx_loose {Γ : Cx} {a e z sz : Nat} {σ κ vi : Rw} {va : Nat → Rw} {K : Int32 → Wd → Prop} (hI : Inv σ) (hae : a + 92 ≤ e) {M0 : Nat → Option va_E} {x y : Int32} (hc9 : cT σ + iN x ≤ 9999) (ex9 : x = nI (iN x)) (lx9 : iN x ≤ 72) (k : ∀ M', ClsR Γ a e z (lsF σ y (iN x)) κ vi va M' → Off a 92 M0 M' → K (lsF σ y (iN x) 0) (M', sz)) : ∀ (n : Nat) (j : Nat) (xi : Int32) (M : Nat → Option va_E), j + n = iN x → xi = nI j → ClsR Γ a e z (lsF σ y j) κ vi va M → Off a 92 M0 M → Ok Γ mX11_loose 7 0 49 [some (.ref a), some (.int x), some (.int y), some (.int xi)] [] (M, sz) (ci K) := by
  intro n
  induction n with
  | zero =>
    intro j xi M h1 ei hC hO
    refine ok_iload_n (pc := 49) dX11_loose_49 rfl ?_
    refine ok_iload_n (pc := 50) dX11_loose_50 rfl ?_
    refine ok_icmp_ge (pc := 51) 98 dX11_loose_51 (by decide) (fun cc_51 => ?_) (fun cc_51 => ?_)
    · have ce_51 := Int32.not_lt.mpr cc_51
      have e9 : j = iN x := by omega
      subst e9
      refine ok_aload_n (pc := 98) dX11_loose_98 rfl ?_
      refine ok_getf (pc := 99) dX11_loose_99 fl_X11_10 hC.1 rfl ?_
      refine ok_getf (pc := 102) dX11_loose_102 fl_X11_122 hC.2.1.o rfl ?_
      refine ok_iret (pc := 105) dX11_loose_105 rfl ?_
      exact k _ hC hO
    · exact absurd (by rw [ex9, ei]; exact nI_le (by omega) (by omega)) cc_51
  | succ n ih =>
    intro j xi M h1 ei hC hO
    refine ok_iload_n (pc := 49) dX11_loose_49 rfl ?_
    refine ok_iload_n (pc := 50) dX11_loose_50 rfl ?_
    refine ok_icmp_ge (pc := 51) 98 dX11_loose_51 (by decide) (fun cc_51 => ?_) (fun cc_51 => ?_)
    · rw [ex9, ei] at cc_51
      exact absurd cc_51 (nI_ge (by omega) (by omega))
    · have ce_51 := Int32.not_le.mp cc_51
      refine ok_aload_n (pc := 54) dX11_loose_54 rfl ?_
      refine ok_getf (pc := 55) dX11_loose_55 fl_X11_10 hC.1 rfl ?_
      refine ok_callVi0 (pc := 58) (d' := 0) dX11_loose_58 vl_X11_194 hC.2.1.o rfl rfl rfl (by decide) ?_
      obtain ⟨t1, t2⟩ := ls_ok (ls := y) hI j (by omega)
      have t3 : Inv (upd (lsF σ y j) 8 (drw (lsF σ y j 8))) := Inv_free t1 (fun q _ hq => upd_ne hq)
      have t4 : cT (upd (lsF σ y j) 8 (drw (lsF σ y j 8))) = cT (lsF σ y j) := rfl
      refine c_nextDraw hC.2.1 t1.bd (by omega) (fun M9 hP9 hO9 => ?_)
      have hC := hC.po t1 hae hP9 (fun q hq => hO9 q (by omega))
      have hO := hO.trans (hO9.sub (a := a) (n := 92) (by omega) (by omega))
      refine ok_bipush (pc := 61) (v := 10) dX11_loose_61 (by decide) ?_
      refine ok_irem (pc := 63) dX11_loose_63 (by decide) ?_
      refine ok_iload_n (pc := 64) dX11_loose_64 rfl ?_
      refine ok_icmp_ge (pc := 65) 84 dX11_loose_65 (by decide) (fun cc_65 => ?_) (fun cc_65 => ?_)
      · have ce_65 := Int32.not_lt.mpr cc_65
        have enx : lsF σ y (j + 1) = hourF (upd (lsF σ y j) 8 (drw (lsF σ y j 8))) := if_neg (Int32.not_lt.mpr cc_65)
        refine ok_aload_n (pc := 84) dX11_loose_84 rfl ?_
        refine ok_getf (pc := 85) dX11_loose_85 fl_X11_10 hC.1 rfl ?_
        refine ok_iconst (pc := 88) (v := 1) dX11_loose_88 (by decide) ?_
        refine ok_callVv1 (pc := 89) (d' := 6) dX11_loose_89 vl_X11_191 hC.2.1.o rfl rfl rfl (by decide) ?_
        refine c_passHours hC.2.1 t3 (by omega) 1 rfl (by decide) (by omega) (fun M9 hP9 hO9 => ?_)
        have hC := hC.po t3 hae hP9 (fun q hq => hO9 q (by omega))
        have hO := hO.trans (hO9.sub (a := a) (n := 92) (by omega) (by omega))
        refine ok_iinc3 (pc := 92) (v := 1) dX11_loose_92 (by decide) (by decide) rfl ?_
        refine ok_goto (pc := 95) 49 dX11_loose_95 (by decide) ?_
        exact ih (j + 1) _ _ (by omega) (by rw [ei, nI_1]) (by rw [enx]; exact hC) hO
      · have ce_65 := Int32.not_le.mp cc_65
        have enx : lsF σ y (j + 1) = upd (upd (lsF σ y j) 8 (drw (lsF σ y j 8))) 0 (lsF σ y j 0 + 1) := if_pos (Int32.not_le.mp cc_65)
        refine ok_aload_n (pc := 68) dX11_loose_68 rfl ?_
        refine ok_getf (pc := 69) dX11_loose_69 fl_X11_10 hC.1 rfl ?_
        refine ok_dup (pc := 72) dX11_loose_72 rfl ?_
        refine ok_getf (pc := 73) dX11_loose_73 fl_X11_122 hC.2.1.o rfl ?_
        refine ok_iconst (pc := 76) (v := 1) dX11_loose_76 (by decide) ?_
        refine ok_iadd (pc := 77) dX11_loose_77 ?_
        refine ok_wtm (pc := 78) dX11_loose_78 pl_X11_122 hC.2.1 t3.bd (by omega) (fun M9 hP9 hO9 => ?_)
        have hC := hC.po t3 hae hP9 (fun q hq => hO9 q (by omega))
        have hO := hO.trans (hO9.sub (a := a) (n := 92) (by omega) (by omega))
        refine ok_goto (pc := 81) 92 dX11_loose_81 (by decide) ?_
        refine ok_iinc3 (pc := 92) (v := 1) dX11_loose_92 (by decide) (by decide) rfl ?_
        refine ok_goto (pc := 95) 49 dX11_loose_95 (by decide) ?_
        exact ih (j + 1) _ _ (by omega) (by rw [ei, nI_1]) (by rw [enx]; exact hC) hO

set_option maxHeartbeats 1000000 in
theorem x_loose {Γ : Cx} {a e z sz : Nat} {σ κ vi : Rw} {va : Nat → Rw} {M : Nat → Option va_E} {K : Int32 → Wd → Prop} (hC : ClsR Γ a e z σ κ vi va M) (hI : Inv σ) (hae : a + 92 ≤ e) (hc9 : cT σ ≤ 9999) {x y : Int32} (k : ∀ M', ClsR Γ a e z (op_loose σ x y).2.2 κ vi (eU va (op_loose σ x y).1) M' → Off a 92 M M' → K (op_loose σ x y).2.1 (M', sz)) : Spec Γ mX11_loose 7 0 [.ref a, .int x, .int y] (M, sz) (ci K) := by
  obtain ⟨⟨⟨eH, lH⟩, ⟨eK, lK⟩, ⟨eL, lL⟩, ⟨eA, lA⟩, ⟨eT, lT⟩⟩, iK, iH, iW, iL, iO, iB, hT⟩ := id hI
  
  refine spec_in [some (.ref a), some (.int x), some (.int y), none] 1 (by decide) rfl rfl ?_
  refine ok_iload_n (pc := 0) dX11_loose_0 rfl ?_
  refine ok_iconst (pc := 1) (v := 1) dX11_loose_1 (by decide) ?_
  refine ok_bipush (pc := 2) (v := 72) dX11_loose_2 (by decide) ?_
  refine ok_callSi3 (pc := 4) (d' := 0) dX11_loose_4 sl_X11_45 rfl (by decide) ?_
  refine c_within ?_
  refine ok_if_eq (pc := 7) 20 dX11_loose_7 (by decide) (fun cc_7 => ?_) (fun cc_7 => ?_)
  · have cq_7 := bI_0.mp cc_7
    refine ok_aload_n (pc := 20) dX11_loose_20 rfl ?_
    refine ok_iconst (pc := 21) (v := 1) dX11_loose_21 (by decide) ?_
    refine ok_callVi1 (pc := 22) (d' := 1) dX11_loose_22 vl_X11_49 hC.1 rfl rfl rfl (by decide) ?_
    refine c_error hC hI hae 1 rfl (by decide) (by decide) (fun M2 hC2 hO2 => ?_)
    refine ok_iret (pc := 25) dX11_loose_25 rfl ?_
    have hop : op_loose σ x y = e3 1 σ := if_neg (by first | (rw [cq_7, Bool.false_and]; decide) | (rw [cq_17, Bool.and_false]; decide))
    rw [hop] at k
    exact k _ hC2 hO2
  · have cq_7 := bI_n0.mp cc_7
    refine ok_iload_n (pc := 10) dX11_loose_10 rfl ?_
    refine ok_iconst (pc := 11) (v := 0) dX11_loose_11 (by decide) ?_
    refine ok_bipush (pc := 12) (v := 10) dX11_loose_12 (by decide) ?_
    refine ok_callSi3 (pc := 14) (d' := 0) dX11_loose_14 sl_X11_45 rfl (by decide) ?_
    refine c_within ?_
    refine ok_if_ne (pc := 17) 26 dX11_loose_17 (by decide) (fun cc_17 => ?_) (fun cc_17 => ?_)
    · have cq_17 := bI_n0.mp cc_17
      refine ok_aload_n (pc := 26) dX11_loose_26 rfl ?_
      refine ok_getf (pc := 27) dX11_loose_27 fl_X11_10 hC.1 rfl ?_
      refine ok_getf (pc := 30) dX11_loose_30 fl_X11_122 hC.2.1.o rfl ?_
      refine ok_iload_n (pc := 33) dX11_loose_33 rfl ?_
      refine ok_iadd (pc := 34) dX11_loose_34 ?_
      refine ok_sipush (pc := 35) (v := 9999) dX11_loose_35 (by decide) ?_
      refine ok_icmp_le (pc := 38) 47 dX11_loose_38 (by decide) (fun cc_38 => ?_) (fun cc_38 => ?_)
      · have ce_38 := Int32.not_lt.mpr cc_38
        refine ok_iconst (pc := 47) (v := 0) dX11_loose_47 (by decide) ?_
        refine ok_istore_n3 (pc := 48) dX11_loose_48 (by decide) rfl ?_
        obtain ⟨ex9, -, lx9⟩ := wi_lit (a := 1) (c := 72) rfl rfl (by decide) (by decide) cq_7
        have hop : op_loose σ x y = (0, lsF σ y (iN x) 0, lsF σ y (iN x)) := (if_pos (by rw [cq_7, cq_17]; rfl)).trans (if_neg (Int32.not_lt.mpr cc_38))
        rw [hop] at k
        rw [eU_0] at k
        have hcx : cT σ + iN x ≤ 9999 := by
          have h8 := cc_38
          rw [eT, ex9, nI_add, fa_lit 9999] at h8
          exact (nI_leI (by omega) (by omega)).mp h8
        exact lx_loose hI hae hcx ex9 lx9 k (iN x) 0 _ M (by omega) rfl hC Off.rfl'
      · have ce_38 := Int32.not_le.mp cc_38
        refine ok_aload_n (pc := 41) dX11_loose_41 rfl ?_
        refine ok_iconst (pc := 42) (v := 3) dX11_loose_42 (by decide) ?_
        refine ok_callVi1 (pc := 43) (d' := 1) dX11_loose_43 vl_X11_49 hC.1 rfl rfl rfl (by decide) ?_
        refine c_error hC hI hae 3 rfl (by decide) (by decide) (fun M2 hC2 hO2 => ?_)
        refine ok_iret (pc := 46) dX11_loose_46 rfl ?_
        have hop : op_loose σ x y = e3 3 σ := (if_pos (by rw [cq_7, cq_17]; rfl)).trans (if_pos (Int32.not_le.mp cc_38))
        rw [hop] at k
        exact k _ hC2 hO2
    · have cq_17 := bI_0.mp cc_17
      refine ok_aload_n (pc := 20) dX11_loose_20 rfl ?_
      refine ok_iconst (pc := 21) (v := 1) dX11_loose_21 (by decide) ?_
      refine ok_callVi1 (pc := 22) (d' := 1) dX11_loose_22 vl_X11_49 hC.1 rfl rfl rfl (by decide) ?_
      refine c_error hC hI hae 1 rfl (by decide) (by decide) (fun M2 hC2 hO2 => ?_)
      refine ok_iret (pc := 25) dX11_loose_25 rfl ?_
      have hop : op_loose σ x y = e3 1 σ := if_neg (by first | (rw [cq_7, Bool.false_and]; decide) | (rw [cq_17, Bool.and_false]; decide))
      rw [hop] at k
      exact k _ hC2 hO2
