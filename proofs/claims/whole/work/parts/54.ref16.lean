set_option maxHeartbeats 1000000 in
theorem r_hasArrived {Γ : Cx} {m sz : Nat} {M0 M : Nat → Option va_E} {σ κ : Rw} {ri : Nat → Int32} {ra : Nat → Nat → Int32} {K : Int32 → Wd → Prop} (hR : RefX Γ m M0 σ κ ri ra M) {lI : Int32} (l0 : Nat) (el : lI = nI l0) (hl : l0 < 12) (k : K (bI (arF σ l0)) (M, sz)) : Spec Γ mX12_hasArrived 1 0 [.ref m, .int lI] (M, sz) (ci K) := by
  refine spec_in [some (.ref m), some (.int lI)] 0 (by decide) rfl rfl ?_
  refine ok_aload_n (pc := 0) dX12_hasArrived_0 rfl ?_
  refine ok_iload_n (pc := 1) dX12_hasArrived_1 rfl ?_
  refine ok_bipush (pc := 2) (v := 6) dX12_hasArrived_2 (by decide) ?_
  refine ok_callVi2 (pc := 4) (d' := 0) dX12_hasArrived_4 vl_X12_97 hR.o rfl rfl rfl (by decide) ?_
  refine r_letterIs hR l0 el 6 rfl hl (by decide) ?_
  refine ok_if_lt (pc := 7) 14 dX12_hasArrived_7 (by decide) (fun cc_7 => ?_) (fun cc_7 => ?_)
  · have ce_7 := Int32.not_le.mpr cc_7
    refine ok_iconst (pc := 14) (v := 0) dX12_hasArrived_14 (by decide) ?_
    refine ok_zret (pc := 15) dX12_hasArrived_15 rfl rfl ?_
    simpa [arF, bI, cc_7, ce_7] using k
  · have ce_7 := Int32.not_lt.mp cc_7
    refine ok_iconst (pc := 10) (v := 1) dX12_hasArrived_10 (by decide) ?_
    refine ok_goto (pc := 11) 15 dX12_hasArrived_11 (by decide) ?_
    refine ok_zret (pc := 15) dX12_hasArrived_15 rfl rfl ?_
    simpa [arF, bI, cc_7, ce_7] using k

set_option maxHeartbeats 1000000 in
theorem l_before {Γ : Cx} {m sz : Nat} {M0 M : Nat → Option va_E} {σ κ vi : Rw} {va : Nat → Rw} {K : Int32 → Wd → Prop} {ri : Rw} {ra : Nat → Rw} (hR : RefX Γ m M0 σ κ ri ra M) (hv : ri 3 = vi 3 ∧ ri 19 = vi 19) (hw : ra 4 = va 4 ∧ ra 18 = va 18 ∧ ra 21 = va 21 ∧ ra 22 = va 22 ∧ ra 23 = va 23) (hI : Inv σ) (A0 : Option Nat) (k : ∀ M', RefW Γ m M0 σ κ vi (eU va (bfR A0).1) M' → K (bfR A0).2 (M', sz)) : ∀ (n : Nat) (i : Nat) (s : Nat) (xi : Int32), i + n = cA σ → xi = nI i → s < 2 ^ 12 → bfA σ n i s = A0 → Ok Γ mX12_before 1 0 4 [some (.ref m), some (.int (nI s)), some (.int xi), none, none] [] (M, sz) (ci K) := by
  obtain ⟨⟨⟨eH, lH⟩, ⟨eK, lK⟩, ⟨eL, lL⟩, ⟨eA, lA⟩, ⟨eT, lT⟩⟩, iK, iH, iW, iL, iO, iB, hT⟩ := id hI
  have lAL : cA σ ≤ cL σ := by rw [lA]; exact arN_le σ _
  intro n
  induction n with
  | zero =>
    intro i s xi h1 ei hs hA0
    refine ok_iload_n (pc := 4) dX12_before_4 rfl ?_
    refine ok_aload_n (pc := 5) dX12_before_5 rfl ?_
    refine ok_getf (pc := 6) dX12_before_6 fl_X12_9 hR.o rfl ?_
    refine ok_iconst (pc := 9) (v := 4) dX12_before_9 (by decide) ?_
    refine ok_iald (pc := 10) (4) dX12_before_10 hR.a0 rfl (by decide) (by decide) ?_
    refine ok_icmp_ge (pc := 11) 61 dX12_before_11 (by decide) (fun cc_11 => ?_) (fun cc_11 => ?_)
    · have ce_11 := Int32.not_lt.mpr cc_11
      have hA1 : none = A0 := hA0
      subst hA1
      refine ok_aload_n (pc := 61) dX12_before_61 rfl ?_
      refine ok_ldcw (pc := 62) (v := -1000000002) dX12_before_62 tw_1536 ?_
      refine ok_callVi1 (pc := 65) (d' := 0) dX12_before_65 vl_X12_84 hR.o rfl rfl rfl (by decide) ?_
      refine r_finding hR 2 (by decide) (by decide) (fun M hR => ?_)
      refine ok_iret (pc := 68) dX12_before_68 rfl ?_
      exact k _ (RefW.err 2 (by decide) hR hv hw)
    · exact absurd (by rw [eA, ei]; exact nI_le (by omega) (by omega)) cc_11
  | succ n ih =>
    intro i s xi h1 ei hs hA0
    refine ok_iload_n (pc := 4) dX12_before_4 rfl ?_
    refine ok_aload_n (pc := 5) dX12_before_5 rfl ?_
    refine ok_getf (pc := 6) dX12_before_6 fl_X12_9 hR.o rfl ?_
    refine ok_iconst (pc := 9) (v := 4) dX12_before_9 (by decide) ?_
    refine ok_iald (pc := 10) (4) dX12_before_10 hR.a0 rfl (by decide) (by decide) ?_
    refine ok_icmp_ge (pc := 11) 61 dX12_before_11 (by decide) (fun cc_11 => ?_) (fun cc_11 => ?_)
    · exact absurd (by rw [eA, ei] at cc_11; exact cc_11) (nI_ge (by omega) (by omega))
    · have ce_11 := Int32.not_le.mp cc_11
      refine ok_aload_n (pc := 14) dX12_before_14 rfl ?_
      refine ok_getf (pc := 15) dX12_before_15 fl_X12_9 hR.o rfl ?_
      refine ok_sipush (pc := 18) (v := 183) dX12_before_18 (by decide) ?_
      refine ok_iload_n (pc := 21) dX12_before_21 rfl ?_
      refine ok_iadd (pc := 22) dX12_before_22 ?_
      refine ok_iald (pc := 23) (183 + i) dX12_before_23 hR.a0 (by simp only [ei, fa_lit, pk_mul, nI_add]) (by omega) (by decide) ?_
      obtain ⟨eor, lor⟩ := iO i (by omega)
      rw [eor]
      refine ok_istore_n3 (pc := 24) dX12_before_24 (by decide) rfl ?_
      refine ok_aload_n (pc := 25) dX12_before_25 rfl ?_
      refine ok_iload_n (pc := 26) dX12_before_26 rfl ?_
      refine ok_iconst (pc := 27) (v := 3) dX12_before_27 (by decide) ?_
      refine ok_callVi2 (pc := 28) (d' := 0) dX12_before_28 vl_X12_97 hR.o rfl rfl rfl (by decide) ?_
      refine r_letterIs hR (orF σ i) rfl 3 rfl (by omega) (by decide) ?_
      refine ok_istore4 (pc := 31) dX12_before_31 (by decide) rfl ?_
      refine ok_iload (pc := 33) dX12_before_33 rfl ?_
      refine ok_if_lt (pc := 35) 49 dX12_before_35 (by decide) (fun cc_35 => ?_) (fun cc_35 => ?_)
      · have ce_35 := Int32.not_le.mpr cc_35
        have hA1 : bfA σ n (i + 1) (s ||| 2 ^ orF σ i) = A0 := by rw [← hA0]; exact (if_neg (by simp [ce_35])).symm
        refine ok_iload_n (pc := 49) dX12_before_49 rfl ?_
        refine ok_iconst (pc := 50) (v := 1) dX12_before_50 (by decide) ?_
        refine ok_iload_n (pc := 51) dX12_before_51 rfl ?_
        refine ok_ishl (pc := 52) dX12_before_52 ?_
        refine ok_ior (pc := 53) dX12_before_53 ?_
        refine ok_istore_n1 (pc := 54) dX12_before_54 (by decide) rfl ?_
        refine ok_iinc2 (pc := 55) (v := 1) dX12_before_55 (by decide) (by decide) rfl ?_
        refine ok_goto (pc := 58) 4 dX12_before_58 (by decide) ?_
        rw [jshl_1 (by omega), fa_or]
        refine ok_drop3 ?_
        refine ok_drop4 ?_
        exact ih (i + 1) _ _ (by omega) (by rw [ei, nI_1]) (or_lt hs (pw_lt (by omega))) hA1
      · have ce_35 := Int32.not_lt.mp cc_35
        refine ok_iload_n (pc := 38) dX12_before_38 rfl ?_
        refine ok_iload (pc := 39) dX12_before_39 rfl ?_
        refine ok_callSi2 (pc := 41) (d' := 0) dX12_before_41 sl_X12_246 rfl (by decide) ?_
        obtain ⟨ean, lan⟩ := InvL.an iL lor ce_35
        refine r_hasBit ?_
        rw [ean, hb_dec (by omega) (by omega)]
        refine ok_if_ne (pc := 44) 49 dX12_before_44 (by decide) (fun cc_44 => ?_) (fun cc_44 => ?_)
        · have cq_44 := bI_n0.mp cc_44
          have hA1 : bfA σ n (i + 1) (s ||| 2 ^ orF σ i) = A0 := by rw [← hA0]; exact (if_neg (by simp [cq_44])).symm
          refine ok_iload_n (pc := 49) dX12_before_49 rfl ?_
          refine ok_iconst (pc := 50) (v := 1) dX12_before_50 (by decide) ?_
          refine ok_iload_n (pc := 51) dX12_before_51 rfl ?_
          refine ok_ishl (pc := 52) dX12_before_52 ?_
          refine ok_ior (pc := 53) dX12_before_53 ?_
          refine ok_istore_n1 (pc := 54) dX12_before_54 (by decide) rfl ?_
          refine ok_iinc2 (pc := 55) (v := 1) dX12_before_55 (by decide) (by decide) rfl ?_
          refine ok_goto (pc := 58) 4 dX12_before_58 (by decide) ?_
          rw [jshl_1 (by omega), fa_or]
          refine ok_drop3 ?_
          refine ok_drop4 ?_
          exact ih (i + 1) _ _ (by omega) (by rw [ei, nI_1]) (or_lt hs (pw_lt (by omega))) hA1
        · have cq_44 := bI_0.mp cc_44
          have hA1 : some (orF σ i) = A0 := by rw [← hA0]; exact (if_pos (by simp [ce_35, cq_44])).symm
          subst hA1
          refine ok_iload_n (pc := 47) dX12_before_47 rfl ?_
          refine ok_iret (pc := 48) dX12_before_48 rfl ?_
          exact k _ (RefW.ok hR hv hw)

set_option maxHeartbeats 1000000 in
theorem r_before {Γ : Cx} {m sz : Nat} {M0 M : Nat → Option va_E} {σ κ vi : Rw} {va : Nat → Rw} {K : Int32 → Wd → Prop} (hW : RefW Γ m M0 σ κ vi va M) (hI : Inv σ) (k : ∀ M', RefW Γ m M0 σ κ vi (eU va (op_before σ).1) M' → K (op_before σ).2 (M', sz)) : Spec Γ mX12_before 1 0 [.ref m] (M, sz) (ci K) := by
  obtain ⟨ri, ra, hR, hv, hw⟩ := hW
  refine spec_in [some (.ref m), none, none, none, none] 4 (by decide) rfl rfl ?_
  refine ok_iconst (pc := 0) (v := 0) dX12_before_0 (by decide) ?_
  refine ok_istore_n1 (pc := 1) dX12_before_1 (by decide) rfl ?_
  refine ok_iconst (pc := 2) (v := 0) dX12_before_2 (by decide) ?_
  refine ok_istore_n2 (pc := 3) dX12_before_3 (by decide) rfl ?_
  exact l_before hR hv hw hI _ k (cA σ) 0 0 0 (by omega) rfl (by decide) rfl
