set_option maxHeartbeats 1000000 in
theorem r_hours {Γ : Cx} {m sz : Nat} {M0 M : Nat → Option va_E} {σ κ vi : Rw} {va : Nat → Rw} {K : Int32 → Wd → Prop} (hW : RefW Γ m M0 σ κ vi va M) (hI : Inv σ) {x : Int32} (hc9 : cT σ ≤ 9999) (k : ∀ M', RefW Γ m M0 (op_hours σ x).2.2 κ vi (eU va (op_hours σ x).1) M' → K (op_hours σ x).2.1 (M', sz)) : Spec Γ mX12_hours 11 0 [.ref m, .int x] (M, sz) (ci K) := by
  obtain ⟨ri, ra, hR, hv, hw⟩ := hW
  obtain ⟨⟨⟨eH, lH⟩, ⟨eK, lK⟩, ⟨eL, lL⟩, ⟨eA, lA⟩, ⟨eT, lT⟩⟩, iK, iH, iW, iL, iO, iB, hT⟩ := id hI
  
  refine spec_in [some (.ref m), some (.int x)] 0 (by decide) rfl rfl ?_
  refine ok_iload_n (pc := 0) dX12_hours_0 rfl ?_
  refine ok_callSi1 (pc := 1) (d' := 1) dX12_hours_1 sl_X12_269 rfl (by decide) ?_
  refine r_isSpan ?_
  refine ok_if_ne (pc := 4) 14 dX12_hours_4 (by decide) (fun cc_4 => ?_) (fun cc_4 => ?_)
  · have cq_4 := bI_n0.mp cc_4
    refine ok_aload_n (pc := 14) dX12_hours_14 rfl ?_
    refine ok_getf (pc := 15) dX12_hours_15 fl_X12_9 hR.o rfl ?_
    refine ok_iconst (pc := 18) (v := 0) dX12_hours_18 (by decide) ?_
    refine ok_iald (pc := 19) (0) dX12_hours_19 hR.a0 rfl (by decide) (by decide) ?_
    refine ok_iload_n (pc := 20) dX12_hours_20 rfl ?_
    refine ok_iadd (pc := 21) dX12_hours_21 ?_
    refine ok_sipush (pc := 22) (v := 9999) dX12_hours_22 (by decide) ?_
    refine ok_icmp_le (pc := 25) 35 dX12_hours_25 (by decide) (fun cc_25 => ?_) (fun cc_25 => ?_)
    · have ce_25 := Int32.not_lt.mpr cc_25
      refine ok_aload_n (pc := 35) dX12_hours_35 rfl ?_
      refine ok_iload_n (pc := 36) dX12_hours_36 rfl ?_
      refine ok_callVv1 (pc := 37) (d' := 10) dX12_hours_37 vl_X12_272 hR.o rfl rfl rfl (by decide) ?_
      obtain ⟨eb, la, lb⟩ := wi_lit (a := 1) (c := 72) rfl rfl (by decide) (by decide) cq_4
      refine r_hoursGo hR (iN x) eb lb hI (by omega) (fun M rb hR hs => ?_)
      refine ok_aload_n (pc := 40) dX12_hours_40 rfl ?_
      refine ok_getf (pc := 41) dX12_hours_41 fl_X12_9 hR.o rfl ?_
      refine ok_iconst (pc := 44) (v := 0) dX12_hours_44 (by decide) ?_
      refine ok_iald (pc := 45) (0) dX12_hours_45 hR.a0 rfl (by decide) (by decide) ?_
      refine ok_iret (pc := 46) dX12_hours_46 rfl ?_
      have eo : op_hours σ x = ((0, hrsF σ (iN x) 0, hrsF σ (iN x)) : Op3) := by simp [op_hours, cq_4, cc_25, ce_25]
      rw [eo] at k
      exact k _ (RefW.oks hR hs hv hw)
    · have ce_25 := Int32.not_le.mp cc_25
      refine ok_aload_n (pc := 28) dX12_hours_28 rfl ?_
      refine ok_ldc (pc := 29) (v := -1000000003) dX12_hours_29 tw_1215 ?_
      refine ok_callVi1 (pc := 31) (d' := 0) dX12_hours_31 vl_X12_84 hR.o rfl rfl rfl (by decide) ?_
      refine r_finding hR 3 (by decide) (by decide) (fun M hR => ?_)
      refine ok_iret (pc := 34) dX12_hours_34 rfl ?_
      have eo : op_hours σ x = ((3, -1000000003, σ) : Op3) := by simp [op_hours, e3, cq_4, cc_25, ce_25]; try decide
      rw [eo] at k
      exact k _ (RefW.err 3 (by decide) hR hv hw)
  · have cq_4 := bI_0.mp cc_4
    refine ok_aload_n (pc := 7) dX12_hours_7 rfl ?_
    refine ok_ldc (pc := 8) (v := -1000000001) dX12_hours_8 tw_1205 ?_
    refine ok_callVi1 (pc := 10) (d' := 0) dX12_hours_10 vl_X12_84 hR.o rfl rfl rfl (by decide) ?_
    refine r_finding hR 1 (by decide) (by decide) (fun M hR => ?_)
    refine ok_iret (pc := 13) dX12_hours_13 rfl ?_
    have eo : op_hours σ x = ((1, -1000000001, σ) : Op3) := by simp [op_hours, e3, cq_4]; try decide
    rw [eo] at k
    exact k _ (RefW.err 1 (by decide) hR hv hw)

set_option maxHeartbeats 1000000 in
theorem r_then {Γ : Cx} {m sz : Nat} {M0 M : Nat → Option va_E} {σ κ vi : Rw} {va : Nat → Rw} {K : Int32 → Wd → Prop} (hW : RefW Γ m M0 σ κ vi va M) (hI : Inv σ) (hc9 : cT σ ≤ 9999) {x y : Int32} (k : ∀ M', RefW Γ m M0 σ κ vi (eU va (op_then σ x y).1) M' → K (op_then σ x y).2 (M', sz)) : Spec Γ mX12_then 11 0 [.ref m, .int x, .int y] (M, sz) (ci K) := by
  obtain ⟨ri, ra, hR, hv, hw⟩ := hW
  obtain ⟨⟨⟨eH, lH⟩, ⟨eK, lK⟩, ⟨eL, lL⟩, ⟨eA, lA⟩, ⟨eT, lT⟩⟩, iK, iH, iW, iL, iO, iB, hT⟩ := id hI
  
  refine spec_in [some (.ref m), some (.int x), some (.int y)] 0 (by decide) rfl rfl ?_
  refine ok_iload_n (pc := 0) dX12_then_0 rfl ?_
  refine ok_callSi1 (pc := 1) (d' := 1) dX12_then_1 sl_X12_279 rfl (by decide) ?_
  refine r_isAhead ?_
  refine ok_if_eq (pc := 4) 16 dX12_then_4 (by decide) (fun cc_4 => ?_) (fun cc_4 => ?_)
  · have cq_4 := bI_0.mp cc_4
    refine ok_aload_n (pc := 16) dX12_then_16 rfl ?_
    refine ok_ldc (pc := 17) (v := -1000000001) dX12_then_17 tw_1205 ?_
    refine ok_callVi1 (pc := 19) (d' := 0) dX12_then_19 vl_X12_84 hR.o rfl rfl rfl (by decide) ?_
    refine r_finding hR 1 (by decide) (by decide) (fun M hR => ?_)
    refine ok_iret (pc := 22) dX12_then_22 rfl ?_
    have eo : op_then σ x y = (1, -1000000001) := by simp [op_then, cq_4]
    rw [eo] at k
    exact k _ (RefW.err 1 (by decide) hR hv hw)
  · have cq_4 := bI_n0.mp cc_4
    refine ok_iload_n (pc := 7) dX12_then_7 rfl ?_
    refine ok_iconst (pc := 8) (v := 0) dX12_then_8 (by decide) ?_
    refine ok_iconst (pc := 9) (v := 1) dX12_then_9 (by decide) ?_
    refine ok_callSi3 (pc := 10) (d' := 0) dX12_then_10 sl_X12_75 rfl (by decide) ?_
    refine r_within ?_
    refine ok_if_ne (pc := 13) 23 dX12_then_13 (by decide) (fun cc_13 => ?_) (fun cc_13 => ?_)
    · have cq_13 := bI_n0.mp cc_13
      refine ok_aload_n (pc := 23) dX12_then_23 rfl ?_
      refine ok_getf (pc := 24) dX12_then_24 fl_X12_9 hR.o rfl ?_
      refine ok_aload_n (pc := 27) dX12_then_27 rfl ?_
      refine ok_getf (pc := 28) dX12_then_28 fl_X12_16 hR.o rfl ?_
      refine ok_callSv2 (pc := 31) (d' := 0) dX12_then_31 sl_X12_79 rfl (by decide) ?_
      refine r_copy hR.a0 hR.a2 (by omega) ?_
      have hR := hR.s2 σ
      refine ok_aload_n (pc := 34) dX12_then_34 rfl ?_
      refine ok_iload_n (pc := 35) dX12_then_35 rfl ?_
      refine ok_callVv1 (pc := 36) (d' := 10) dX12_then_36 vl_X12_272 hR.o rfl rfl rfl (by decide) ?_
      obtain ⟨eb, -, lb⟩ := wi_lit (a := 0) (c := 72) rfl rfl (by decide) (by decide) cq_4
      obtain ⟨ec, -, lc⟩ := wi_lit (a := 0) (c := 1) rfl rfl (by decide) (by decide) cq_13
      refine r_hoursGo hR (iN x) eb lb hI (by omega) (fun M rb hR hs => ?_)
      refine ok_aload_n (pc := 39) dX12_then_39 rfl ?_
      refine ok_aload_n (pc := 40) dX12_then_40 rfl ?_
      refine ok_getf (pc := 41) dX12_then_41 fl_X12_9 hR.o rfl ?_
      refine ok_iconst (pc := 44) (v := 4) dX12_then_44 (by decide) ?_
      refine ok_iload_n (pc := 45) dX12_then_45 rfl ?_
      refine ok_iadd (pc := 46) dX12_then_46 ?_
      refine ok_iald (pc := 47) (4 + iN y) dX12_then_47 hR.a0 (by have e1 := ec; generalize iN y = p at *; subst e1; simp only [fa_lit, nI_add]) (by omega) (by decide) ?_
      refine ok_callVi1 (pc := 48) (d' := 1) dX12_then_48 vl_X12_282 hR.o rfl rfl rfl (by decide) ?_
      refine r_putBack hR (fun M hR => ?_)
      refine ok_iret (pc := 51) dX12_then_51 rfl ?_
      have eo : op_then σ x y = (0, hrsF σ (iN x) (4 + iN y)) := by simp [op_then, cq_4, cq_13]
      rw [eo] at k
      have e2 : rb 2 = σ := by rw [hs 2 (by decide) (by decide), vup_eq]
      rw [e2] at hR
      exact k _ (RefW.okv hR (Vs.up2.tr hs.vs) hv hw)
    · have cq_13 := bI_0.mp cc_13
      refine ok_aload_n (pc := 16) dX12_then_16 rfl ?_
      refine ok_ldc (pc := 17) (v := -1000000001) dX12_then_17 tw_1205 ?_
      refine ok_callVi1 (pc := 19) (d' := 0) dX12_then_19 vl_X12_84 hR.o rfl rfl rfl (by decide) ?_
      refine r_finding hR 1 (by decide) (by decide) (fun M hR => ?_)
      refine ok_iret (pc := 22) dX12_then_22 rfl ?_
      have eo : op_then σ x y = (1, -1000000001) := by simp [op_then, cq_4, cq_13]
      rw [eo] at k
      exact k _ (RefW.err 1 (by decide) hR hv hw)

set_option maxHeartbeats 1000000 in
theorem r_where {Γ : Cx} {m sz : Nat} {M0 M : Nat → Option va_E} {σ κ vi : Rw} {va : Nat → Rw} {K : Int32 → Wd → Prop} (hW : RefW Γ m M0 σ κ vi va M) (hI : Inv σ) (hc9 : cT σ ≤ 9999) {x y z : Int32} (k : ∀ M', RefW Γ m M0 σ κ vi (eU va (op_where σ x y z).1) M' → K (op_where σ x y z).2 (M', sz)) : Spec Γ mX12_where 11 0 [.ref m, .int x, .int y, .int z] (M, sz) (ci K) := by
  obtain ⟨ri, ra, hR, hv, hw⟩ := hW
  obtain ⟨⟨⟨eH, lH⟩, ⟨eK, lK⟩, ⟨eL, lL⟩, ⟨eA, lA⟩, ⟨eT, lT⟩⟩, iK, iH, iW, iL, iO, iB, hT⟩ := id hI
  
  refine spec_in [some (.ref m), some (.int x), some (.int y), some (.int z)] 0 (by decide) rfl rfl ?_
  refine ok_iload_n (pc := 0) dX12_where_0 rfl ?_
  refine ok_callSi1 (pc := 1) (d' := 1) dX12_where_1 sl_X12_279 rfl (by decide) ?_
  refine r_isAhead ?_
  refine ok_if_eq (pc := 4) 26 dX12_where_4 (by decide) (fun cc_4 => ?_) (fun cc_4 => ?_)
  · have cq_4 := bI_0.mp cc_4
    refine ok_aload_n (pc := 26) dX12_where_26 rfl ?_
    refine ok_ldc (pc := 27) (v := -1000000001) dX12_where_27 tw_1205 ?_
    refine ok_callVi1 (pc := 29) (d' := 0) dX12_where_29 vl_X12_84 hR.o rfl rfl rfl (by decide) ?_
    refine r_finding hR 1 (by decide) (by decide) (fun M hR => ?_)
    refine ok_iret (pc := 32) dX12_where_32 rfl ?_
    have eo : op_where σ x y z = (1, -1000000001) := by simp [op_where, cq_4]
    rw [eo] at k
    exact k _ (RefW.err 1 (by decide) hR hv hw)
  · have cq_4 := bI_n0.mp cc_4
    refine ok_aload_n (pc := 7) dX12_where_7 rfl ?_
    refine ok_iload_n (pc := 8) dX12_where_8 rfl ?_
    refine ok_iconst (pc := 9) (v := 3) dX12_where_9 (by decide) ?_
    refine ok_callVi2 (pc := 10) (d' := 1) dX12_where_10 vl_X12_100 hR.o rfl rfl rfl (by decide) ?_
    refine r_is hR 3 rfl (by decide) ?_
    refine ok_if_eq (pc := 13) 26 dX12_where_13 (by decide) (fun cc_13 => ?_) (fun cc_13 => ?_)
    · have cq_13 := bI_0.mp cc_13
      refine ok_aload_n (pc := 26) dX12_where_26 rfl ?_
      refine ok_ldc (pc := 27) (v := -1000000001) dX12_where_27 tw_1205 ?_
      refine ok_callVi1 (pc := 29) (d' := 0) dX12_where_29 vl_X12_84 hR.o rfl rfl rfl (by decide) ?_
      refine r_finding hR 1 (by decide) (by decide) (fun M hR => ?_)
      refine ok_iret (pc := 32) dX12_where_32 rfl ?_
      have eo : op_where σ x y z = (1, -1000000001) := by simp [op_where, cq_4, cq_13]
      rw [eo] at k
      exact k _ (RefW.err 1 (by decide) hR hv hw)
    · have cq_13 := bI_n0.mp cc_13
      refine ok_iload_n (pc := 16) dX12_where_16 rfl ?_
      refine ok_iconst (pc := 17) (v := 5) dX12_where_17 (by decide) ?_
      refine ok_bipush (pc := 18) (v := 6) dX12_where_18 (by decide) ?_
      refine ok_callSi3 (pc := 20) (d' := 0) dX12_where_20 sl_X12_75 rfl (by decide) ?_
      refine r_within ?_
      refine ok_if_ne (pc := 23) 33 dX12_where_23 (by decide) (fun cc_23 => ?_) (fun cc_23 => ?_)
      · have cq_23 := bI_n0.mp cc_23
        refine ok_aload_n (pc := 33) dX12_where_33 rfl ?_
        refine ok_getf (pc := 34) dX12_where_34 fl_X12_9 hR.o rfl ?_
        refine ok_aload_n (pc := 37) dX12_where_37 rfl ?_
        refine ok_getf (pc := 38) dX12_where_38 fl_X12_16 hR.o rfl ?_
        refine ok_callSv2 (pc := 41) (d' := 0) dX12_where_41 sl_X12_79 rfl (by decide) ?_
        refine r_copy hR.a0 hR.a2 (by omega) ?_
        have hR := hR.s2 σ
        refine ok_aload_n (pc := 44) dX12_where_44 rfl ?_
        refine ok_iload_n (pc := 45) dX12_where_45 rfl ?_
        refine ok_callVv1 (pc := 46) (d' := 10) dX12_where_46 vl_X12_272 hR.o rfl rfl rfl (by decide) ?_
        obtain ⟨eb, -, lb⟩ := wi_lit (a := 0) (c := 72) rfl rfl (by decide) (by decide) cq_4
        obtain ⟨ey, ly⟩ := wi_cnt eL (by omega) cq_13
        obtain ⟨ec, -, lc⟩ := wi_lit (a := 5) (c := 6) rfl rfl (by decide) (by decide) cq_23
        refine r_hoursGo hR (iN x) eb lb hI (by omega) (fun M rb hR hs => ?_)
        refine ok_aload_n (pc := 49) dX12_where_49 rfl ?_
        refine ok_aload_n (pc := 50) dX12_where_50 rfl ?_
        refine ok_iload_n (pc := 51) dX12_where_51 rfl ?_
        refine ok_iload_n (pc := 52) dX12_where_52 rfl ?_
        refine ok_callVi2 (pc := 53) (d' := 0) dX12_where_53 vl_X12_97 hR.o rfl rfl rfl (by decide) ?_
        refine r_letterIs hR (iN y) ey (iN z) ec (by omega) (by omega) ?_
        refine ok_callVi1 (pc := 56) (d' := 1) dX12_where_56 vl_X12_282 hR.o rfl rfl rfl (by decide) ?_
        refine r_putBack hR (fun M hR => ?_)
        refine ok_iret (pc := 59) dX12_where_59 rfl ?_
        have eo : op_where σ x y z = (0, lf (hrsF σ (iN x)) (iN y) (iN z)) := by simp [op_where, cq_4, cq_13, cq_23]
        rw [eo] at k
        have e2 : rb 2 = σ := by rw [hs 2 (by decide) (by decide), vup_eq]
        rw [e2] at hR
        exact k _ (RefW.okv hR (Vs.up2.tr hs.vs) hv hw)
      · have cq_23 := bI_0.mp cc_23
        refine ok_aload_n (pc := 26) dX12_where_26 rfl ?_
        refine ok_ldc (pc := 27) (v := -1000000001) dX12_where_27 tw_1205 ?_
        refine ok_callVi1 (pc := 29) (d' := 0) dX12_where_29 vl_X12_84 hR.o rfl rfl rfl (by decide) ?_
        refine r_finding hR 1 (by decide) (by decide) (fun M hR => ?_)
        refine ok_iret (pc := 32) dX12_where_32 rfl ?_
        have eo : op_where σ x y z = (1, -1000000001) := by simp [op_where, cq_4, cq_13, cq_23]
        rw [eo] at k
        exact k _ (RefW.err 1 (by decide) hR hv hw)

set_option maxHeartbeats 1000000 in
theorem r_drawn {Γ : Cx} {m sz : Nat} {M0 M : Nat → Option va_E} {σ κ : Rw} {ri : Nat → Int32} {ra : Nat → Nat → Int32} {K : Int32 → Wd → Prop} (hR : RefX Γ m M0 σ κ ri ra M) {tn : Int32} (et : tn = 10) (k : ∀ M', RefX Γ m M0 (upd σ 8 (drw (σ 8))) κ ri ra M' → K (drT (drw (σ 8))) (M', sz)) : Spec Γ mX12_drawn 0 0 [.ref m, .int tn] (M, sz) (ci K) := by
  refine spec_in [some (.ref m), some (.int tn)] 0 (by decide) rfl rfl ?_
  refine ok_aload_n (pc := 0) dX12_drawn_0 rfl ?_
  refine ok_getf (pc := 1) dX12_drawn_1 fl_X12_9 hR.o rfl ?_
  refine ok_bipush (pc := 4) (v := 8) dX12_drawn_4 (by decide) ?_
  refine ok_aload_n (pc := 6) dX12_drawn_6 rfl ?_
  refine ok_getf (pc := 7) dX12_drawn_7 fl_X12_9 hR.o rfl ?_
  refine ok_bipush (pc := 10) (v := 8) dX12_drawn_10 (by decide) ?_
  refine ok_iald (pc := 12) (8) dX12_drawn_12 hR.a0 rfl (by decide) (by decide) ?_
  refine ok_ldcw (pc := 13) (v := 1103515245) dX12_drawn_13 tw_1501 ?_
  refine ok_imul (pc := 16) dX12_drawn_16 ?_
  refine ok_sipush (pc := 17) (v := 12345) dX12_drawn_17 (by decide) ?_
  refine ok_iadd (pc := 20) dX12_drawn_20 ?_
  refine ok_rst0 (pc := 21) (8) dX12_drawn_21 hR rfl (by decide) (fun M hR => ?_)
  refine ok_aload_n (pc := 22) dX12_drawn_22 rfl ?_
  refine ok_getf (pc := 23) dX12_drawn_23 fl_X12_9 hR.o rfl ?_
  refine ok_bipush (pc := 26) (v := 8) dX12_drawn_26 (by decide) ?_
  refine ok_iald (pc := 28) (8) dX12_drawn_28 hR.a0 rfl (by decide) (by decide) ?_
  refine ok_bipush (pc := 29) (v := 8) dX12_drawn_29 (by decide) ?_
  refine ok_iushr (pc := 31) dX12_drawn_31 ?_
  refine ok_iload_n (pc := 32) dX12_drawn_32 rfl ?_
  refine ok_irem (pc := 33) dX12_drawn_33 (by rw [et]; decide) ?_
  refine ok_iret (pc := 34) dX12_drawn_34 rfl ?_
  rw [upd_at, et]
  exact k _ hR

set_option maxHeartbeats 1000000 in
theorem l_loose {Γ : Cx} {m sz : Nat} {M0 : Nat → Option va_E} {σ κ : Rw} {ri : Nat → Int32} {K : Int32 → Wd → Prop} {ra0 : Nat → Rw} {x y : Int32} (n0 : Nat) (en : x = nI n0) (hn : n0 ≤ 72) (hI : Inv σ) (ht : cT σ ≤ 10000) (k : ∀ M' ra', RefX Γ m M0 (lsF σ y n0) κ ri ra' M' → Sc ra0 ra' → K (lsF σ y n0 0) (M', sz)) : ∀ (n : Nat) (i : Nat) (xi : Int32) (M : Nat → Option va_E) (ra : Nat → Rw), i + n = n0 → xi = nI i → RefX Γ m M0 (lsF σ y i) κ ri ra M → Sc ra0 ra → Ok Γ mX12_loose 10 0 47 [some (.ref m), some (.int x), some (.int y), some (.int xi)] [] (M, sz) (ci K) := by
  intro n
  induction n with
  | zero =>
    intro i xi M ra h1 ei hR hs0
    refine ok_iload_n (pc := 47) dX12_loose_47 rfl ?_
    refine ok_iload_n (pc := 48) dX12_loose_48 rfl ?_
    refine ok_icmp_ge (pc := 49) 85 dX12_loose_49 (by decide) (fun cc_49 => ?_) (fun cc_49 => ?_)
    · have ce_49 := Int32.not_lt.mpr cc_49
      have en9 : i = n0 := by omega
      subst en9
      refine ok_aload_n (pc := 85) dX12_loose_85 rfl ?_
      refine ok_getf (pc := 86) dX12_loose_86 fl_X12_9 hR.o rfl ?_
      refine ok_iconst (pc := 89) (v := 0) dX12_loose_89 (by decide) ?_
      refine ok_iald (pc := 90) (0) dX12_loose_90 hR.a0 rfl (by decide) (by decide) ?_
      refine ok_iret (pc := 91) dX12_loose_91 rfl ?_
      exact k _ _ hR hs0
    · exact absurd (by rw [en, ei]; exact nI_le (by omega) (by omega)) cc_49
  | succ n ih =>
    intro i xi M ra h1 ei hR hs0
    refine ok_iload_n (pc := 47) dX12_loose_47 rfl ?_
    refine ok_iload_n (pc := 48) dX12_loose_48 rfl ?_
    refine ok_icmp_ge (pc := 49) 85 dX12_loose_49 (by decide) (fun cc_49 => ?_) (fun cc_49 => ?_)
    · exact absurd (by rw [en, ei] at cc_49; exact cc_49) (nI_ge (by omega) (by omega))
    · have ce_49 := Int32.not_le.mp cc_49
      refine ok_aload_n (pc := 52) dX12_loose_52 rfl ?_
      refine ok_bipush (pc := 53) (v := 10) dX12_loose_53 (by decide) ?_
      refine ok_callVi1 (pc := 55) (d' := 0) dX12_loose_55 vl_X12_276 hR.o rfl rfl rfl (by decide) ?_
      obtain ⟨t1, t2⟩ := ls_ok (ls := y) hI i (by omega)
      refine r_drawn hR rfl (fun M hR => ?_)
      refine ok_iload_n (pc := 58) dX12_loose_58 rfl ?_
      refine ok_icmp_ge (pc := 59) 75 dX12_loose_59 (by decide) (fun cc_59 => ?_) (fun cc_59 => ?_)
      · have ce_59 := Int32.not_lt.mpr cc_59
        have enx : lsF σ y (i + 1) = hourF (upd (lsF σ y i) 8 (drw ((lsF σ y i) 8))) := if_neg ce_59
        refine ok_aload_n (pc := 75) dX12_loose_75 rfl ?_
        refine ok_callVv0 (pc := 76) (d' := 9) dX12_loose_76 vl_X12_266 hR.o rfl rfl rfl (by decide) ?_
        have t3 : Inv (upd (lsF σ y i) 8 (drw ((lsF σ y i) 8))) := Inv_free t1 (fun j _ hj => upd_ne hj)
        refine r_hour hR t3 (fun M rb hR hs => ?_)
        have hs0 := hs0.tr hs
        refine ok_iinc3 (pc := 79) (v := 1) dX12_loose_79 (by decide) (by decide) rfl ?_
        refine ok_goto (pc := 82) 47 dX12_loose_82 (by decide) ?_
        exact ih (i + 1) _ _ _ (by omega) (by rw [ei, nI_1]) (by rw [enx]; exact hR) hs0
      · have ce_59 := Int32.not_le.mp cc_59
        have enx : lsF σ y (i + 1) = upd (upd (lsF σ y i) 8 (drw ((lsF σ y i) 8))) 0 ((lsF σ y i) 0 + 1) := if_pos ce_59
        refine ok_aload_n (pc := 62) dX12_loose_62 rfl ?_
        refine ok_getf (pc := 63) dX12_loose_63 fl_X12_9 hR.o rfl ?_
        refine ok_iconst (pc := 66) (v := 0) dX12_loose_66 (by decide) ?_
        refine ok_dup2 (pc := 67) dX12_loose_67 rfl rfl ?_
        refine ok_iald (pc := 68) (0) dX12_loose_68 hR.a0 rfl (by decide) (by decide) ?_
        refine ok_iconst (pc := 69) (v := 1) dX12_loose_69 (by decide) ?_
        refine ok_iadd (pc := 70) dX12_loose_70 ?_
        refine ok_rst0 (pc := 71) (0) dX12_loose_71 hR rfl (by decide) (fun M hR => ?_)
        have e0 : upd (lsF σ y i) 8 (drw ((lsF σ y i) 8)) 0 = (lsF σ y i) 0 := upd_ne (by decide)
        rw [e0] at hR
        refine ok_goto (pc := 72) 79 dX12_loose_72 (by decide) ?_
        refine ok_iinc3 (pc := 79) (v := 1) dX12_loose_79 (by decide) (by decide) rfl ?_
        refine ok_goto (pc := 82) 47 dX12_loose_82 (by decide) ?_
        exact ih (i + 1) _ _ _ (by omega) (by rw [ei, nI_1]) (by rw [enx]; exact hR) hs0

set_option maxHeartbeats 1000000 in
theorem r_loose {Γ : Cx} {m sz : Nat} {M0 M : Nat → Option va_E} {σ κ vi : Rw} {va : Nat → Rw} {K : Int32 → Wd → Prop} (hW : RefW Γ m M0 σ κ vi va M) (hI : Inv σ) {x y : Int32} (hc9 : cT σ ≤ 9999) (k : ∀ M', RefW Γ m M0 (op_loose σ x y).2.2 κ vi (eU va (op_loose σ x y).1) M' → K (op_loose σ x y).2.1 (M', sz)) : Spec Γ mX12_loose 10 0 [.ref m, .int x, .int y] (M, sz) (ci K) := by
  obtain ⟨ri, ra, hR, hv, hw⟩ := hW
  obtain ⟨⟨⟨eH, lH⟩, ⟨eK, lK⟩, ⟨eL, lL⟩, ⟨eA, lA⟩, ⟨eT, lT⟩⟩, iK, iH, iW, iL, iO, iB, hT⟩ := id hI
  
  refine spec_in [some (.ref m), some (.int x), some (.int y), none] 1 (by decide) rfl rfl ?_
  refine ok_iload_n (pc := 0) dX12_loose_0 rfl ?_
  refine ok_callSi1 (pc := 1) (d' := 1) dX12_loose_1 sl_X12_269 rfl (by decide) ?_
  refine r_isSpan ?_
  refine ok_if_eq (pc := 4) 17 dX12_loose_4 (by decide) (fun cc_4 => ?_) (fun cc_4 => ?_)
  · have cq_4 := bI_0.mp cc_4
    refine ok_aload_n (pc := 17) dX12_loose_17 rfl ?_
    refine ok_ldc (pc := 18) (v := -1000000001) dX12_loose_18 tw_1205 ?_
    refine ok_callVi1 (pc := 20) (d' := 0) dX12_loose_20 vl_X12_84 hR.o rfl rfl rfl (by decide) ?_
    refine r_finding hR 1 (by decide) (by decide) (fun M hR => ?_)
    refine ok_iret (pc := 23) dX12_loose_23 rfl ?_
    have eo : op_loose σ x y = ((1, -1000000001, σ) : Op3) := by simp [op_loose, e3, cq_4]; try decide
    rw [eo] at k
    exact k _ (RefW.err 1 (by decide) hR hv hw)
  · have cq_4 := bI_n0.mp cc_4
    refine ok_iload_n (pc := 7) dX12_loose_7 rfl ?_
    refine ok_iconst (pc := 8) (v := 0) dX12_loose_8 (by decide) ?_
    refine ok_bipush (pc := 9) (v := 10) dX12_loose_9 (by decide) ?_
    refine ok_callSi3 (pc := 11) (d' := 0) dX12_loose_11 sl_X12_75 rfl (by decide) ?_
    refine r_within ?_
    refine ok_if_ne (pc := 14) 24 dX12_loose_14 (by decide) (fun cc_14 => ?_) (fun cc_14 => ?_)
    · have cq_14 := bI_n0.mp cc_14
      refine ok_aload_n (pc := 24) dX12_loose_24 rfl ?_
      refine ok_getf (pc := 25) dX12_loose_25 fl_X12_9 hR.o rfl ?_
      refine ok_iconst (pc := 28) (v := 0) dX12_loose_28 (by decide) ?_
      refine ok_iald (pc := 29) (0) dX12_loose_29 hR.a0 rfl (by decide) (by decide) ?_
      refine ok_iload_n (pc := 30) dX12_loose_30 rfl ?_
      refine ok_iadd (pc := 31) dX12_loose_31 ?_
      refine ok_sipush (pc := 32) (v := 9999) dX12_loose_32 (by decide) ?_
      refine ok_icmp_le (pc := 35) 45 dX12_loose_35 (by decide) (fun cc_35 => ?_) (fun cc_35 => ?_)
      · have ce_35 := Int32.not_lt.mpr cc_35
        refine ok_iconst (pc := 45) (v := 0) dX12_loose_45 (by decide) ?_
        refine ok_istore_n3 (pc := 46) dX12_loose_46 (by decide) rfl ?_
        obtain ⟨eb, la, lb⟩ := wi_lit (a := 1) (c := 72) rfl rfl (by decide) (by decide) cq_4
        have eo : op_loose σ x y = ((0, lsF σ y (iN x) 0, lsF σ y (iN x)) : Op3) := by simp [op_loose, cq_4, cq_14, cc_35, ce_35]
        rw [eo] at k
        exact l_loose (ra0 := ra) (iN x) eb lb hI (by omega) (fun M rb hR hs => k _ (RefW.oks hR hs hv hw)) (iN x) 0 0 _ _ (by omega) rfl hR Sc.rf
      · have ce_35 := Int32.not_le.mp cc_35
        refine ok_aload_n (pc := 38) dX12_loose_38 rfl ?_
        refine ok_ldc (pc := 39) (v := -1000000003) dX12_loose_39 tw_1215 ?_
        refine ok_callVi1 (pc := 41) (d' := 0) dX12_loose_41 vl_X12_84 hR.o rfl rfl rfl (by decide) ?_
        refine r_finding hR 3 (by decide) (by decide) (fun M hR => ?_)
        refine ok_iret (pc := 44) dX12_loose_44 rfl ?_
        have eo : op_loose σ x y = ((3, -1000000003, σ) : Op3) := by simp [op_loose, e3, cq_4, cq_14, cc_35, ce_35]; try decide
        rw [eo] at k
        exact k _ (RefW.err 3 (by decide) hR hv hw)
    · have cq_14 := bI_0.mp cc_14
      refine ok_aload_n (pc := 17) dX12_loose_17 rfl ?_
      refine ok_ldc (pc := 18) (v := -1000000001) dX12_loose_18 tw_1205 ?_
      refine ok_callVi1 (pc := 20) (d' := 0) dX12_loose_20 vl_X12_84 hR.o rfl rfl rfl (by decide) ?_
      refine r_finding hR 1 (by decide) (by decide) (fun M hR => ?_)
      refine ok_iret (pc := 23) dX12_loose_23 rfl ?_
      have eo : op_loose σ x y = ((1, -1000000001, σ) : Op3) := by simp [op_loose, e3, cq_4, cq_14]; try decide
      rw [eo] at k
      exact k _ (RefW.err 1 (by decide) hR hv hw)
