set_option maxHeartbeats 1000000 in
theorem l_grown1 {Γ : Cx} {m sz : Nat} {M0 : Nat → Option va_E} {σ κ : Rw} {ri : Nat → Int32} {Q : Option Value → Wd → Prop} {ra0 : Nat → Rw} {w xk : Int32} {S tm A : Nat} (k0 : Nat) (ek : xk = nI k0) (hk : k0 < cK σ) (hA : A < 2 ^ 9) (htm : tm ≤ 20000) (hI : Inv σ) (kk : ∀ M' ra' xi, RefX Γ m M0 σ κ ri ra' M' → Sc ra0 ra' → Ok Γ mX12_grown 6 0 81 [some (.ref m), some (.int (nI S)), some (.int (nI tm)), some (.int w), some (.int (nI (gi σ k0 tm w A (cH σ)))), some (.int xk), some (.int xi)] [] (M', sz) Q) : ∀ (n : Nat) (i : Nat) (x4 : Int32) (xi : Int32) (M : Nat → Option va_E) (ra : Nat → Rw), i + n = cH σ → xi = nI i → x4 = nI (gi σ k0 tm w A i) → RefX Γ m M0 σ κ ri ra M → Sc ra0 ra → Ok Γ mX12_grown 6 0 34 [some (.ref m), some (.int (nI S)), some (.int (nI tm)), some (.int w), some (.int x4), some (.int xk), some (.int xi)] [] (M, sz) Q := by
  have eH := hI.1.1.1
  have lH := hI.1.1.2
  intro n
  induction n with
  | zero =>
    intro i x4 xi M ra h1 ei hq hR hs0
    refine ok_iload (pc := 34) dX12_grown_34 rfl ?_
    refine ok_aload_n (pc := 36) dX12_grown_36 rfl ?_
    refine ok_getf (pc := 37) dX12_grown_37 fl_X12_9 hR.o rfl ?_
    refine ok_iconst (pc := 40) (v := 1) dX12_grown_40 (by decide) ?_
    refine ok_iald (pc := 41) (1) dX12_grown_41 hR.a0 rfl (by decide) (by decide) ?_
    refine ok_icmp_ge (pc := 42) 81 dX12_grown_42 (by decide) (fun cc_42 => ?_) (fun cc_42 => ?_)
    · have en : i = cH σ := by omega
      subst en
      subst hq
      exact kk _ _ _ hR hs0
    · exact absurd (by rw [eH, ei]; exact nI_le (by omega) (by omega)) cc_42
  | succ n ih =>
    intro i x4 xi M ra h1 ei hq hR hs0
    refine ok_iload (pc := 34) dX12_grown_34 rfl ?_
    refine ok_aload_n (pc := 36) dX12_grown_36 rfl ?_
    refine ok_getf (pc := 37) dX12_grown_37 fl_X12_9 hR.o rfl ?_
    refine ok_iconst (pc := 40) (v := 1) dX12_grown_40 (by decide) ?_
    refine ok_iald (pc := 41) (1) dX12_grown_41 hR.a0 rfl (by decide) (by decide) ?_
    refine ok_icmp_ge (pc := 42) 81 dX12_grown_42 (by decide) (fun cc_42 => ?_) (fun cc_42 => ?_)
    · exact absurd (by rw [eH, ei] at cc_42; exact cc_42) (nI_ge (by omega) (by omega))
    · have ce_42 := Int32.not_le.mp cc_42
      refine ok_iload (pc := 45) dX12_grown_45 rfl ?_
      refine ok_aload_n (pc := 47) dX12_grown_47 rfl ?_
      refine ok_iload (pc := 48) dX12_grown_48 rfl ?_
      refine ok_iload (pc := 50) dX12_grown_50 rfl ?_
      refine ok_iload_n (pc := 52) dX12_grown_52 rfl ?_
      refine ok_iload_n (pc := 53) dX12_grown_53 rfl ?_
      refine ok_bipush (pc := 54) (v := 24) dX12_grown_54 (by decide) ?_
      refine ok_irem (pc := 56) dX12_grown_56 (by decide) ?_
      refine ok_iload_n (pc := 57) dX12_grown_57 rfl ?_
      refine ok_callVi5 (pc := 58) (d' := 5) dX12_grown_58 vl_X12_152 hR.o rfl rfl rfl (by decide) ?_
      refine r_standsOver hR k0 i (tm % 24) ek ei (pk_rem (by omega) (by decide) (by decide)) hk (by omega) (Nat.mod_lt _ (by decide)) hI (fun M rb hR hs => ?_)
      have hs0 := hs0.tr hs
      refine ok_if_eq (pc := 61) 71 dX12_grown_61 (by decide) (fun cc_61 => ?_) (fun cc_61 => ?_)
      · have cq_61 := bI_0.mp cc_61
        have enx : gi σ k0 tm w A (i + 1) = gi σ k0 tm w A i := if_neg (by rw [cq_61]; decide)
        refine ok_iconst (pc := 71) (v := 0) dX12_grown_71 (by decide) ?_
        refine ok_ior (pc := 72) dX12_grown_72 ?_
        refine ok_istore4 (pc := 73) dX12_grown_73 (by decide) rfl ?_
        refine ok_iinc6 (pc := 75) (v := 1) dX12_grown_75 (by decide) (by decide) rfl ?_
        refine ok_goto (pc := 78) 34 dX12_grown_78 (by decide) ?_
        exact ih (i + 1) _ _ _ _ (by omega) (by rw [ei, nI_1]) (by rw [enx, hq]; first | (rw [show (0 : Int32) = nI 0 from rfl, fa_or, Nat.or_zero]; done) | (rw [ei, jshl_1 (by omega), fa_or])) hR hs0
      · have cq_61 := bI_n0.mp cc_61
        have enx : gi σ k0 tm w A (i + 1) = gi σ k0 tm w A i ||| 2 ^ i := if_pos cq_61
        refine ok_iconst (pc := 64) (v := 1) dX12_grown_64 (by decide) ?_
        refine ok_iload (pc := 65) dX12_grown_65 rfl ?_
        refine ok_ishl (pc := 67) dX12_grown_67 ?_
        refine ok_goto (pc := 68) 72 dX12_grown_68 (by decide) ?_
        refine ok_ior (pc := 72) dX12_grown_72 ?_
        refine ok_istore4 (pc := 73) dX12_grown_73 (by decide) rfl ?_
        refine ok_iinc6 (pc := 75) (v := 1) dX12_grown_75 (by decide) (by decide) rfl ?_
        refine ok_goto (pc := 78) 34 dX12_grown_78 (by decide) ?_
        exact ih (i + 1) _ _ _ _ (by omega) (by rw [ei, nI_1]) (by rw [enx, hq]; first | (rw [show (0 : Int32) = nI 0 from rfl, fa_or, Nat.or_zero]; done) | (rw [ei, jshl_1 (by omega), fa_or])) hR hs0

set_option maxHeartbeats 1000000 in
theorem l_grown {Γ : Cx} {m sz : Nat} {M0 : Nat → Option va_E} {σ κ : Rw} {ri : Nat → Int32} {K : Int32 → Wd → Prop} {ra0 : Nat → Rw} {w : Int32} {S tm : Nat} (hS : S < 2 ^ 9) (htm : tm ≤ 20000) (hI : Inv σ) (k : ∀ M' ra', RefX Γ m M0 σ κ ri ra' M' → Sc ra0 ra' → K (nI (go σ S tm w (cK σ))) (M', sz)) : ∀ (n : Nat) (i : Nat) (x4 : Int32) (xi : Int32) (M : Nat → Option va_E) (ra : Nat → Rw), i + n = cK σ → xi = nI i → x4 = nI (go σ S tm w i) → RefX Γ m M0 σ κ ri ra M → Sc ra0 ra → Ok Γ mX12_grown 6 0 6 [some (.ref m), some (.int (nI S)), some (.int (nI tm)), some (.int w), some (.int x4), some (.int xi), none] [] (M, sz) (ci K) := by
  have eK := hI.1.2.1.1
  have lK := hI.1.2.1.2
  have lH := hI.1.1.2
  intro n
  induction n with
  | zero =>
    intro i x4 xi M ra h1 ei hq hR hs0
    refine ok_iload (pc := 6) dX12_grown_6 rfl ?_
    refine ok_aload_n (pc := 8) dX12_grown_8 rfl ?_
    refine ok_getf (pc := 9) dX12_grown_9 fl_X12_9 hR.o rfl ?_
    refine ok_iconst (pc := 12) (v := 2) dX12_grown_12 (by decide) ?_
    refine ok_iald (pc := 13) (2) dX12_grown_13 hR.a0 rfl (by decide) (by decide) ?_
    refine ok_icmp_ge (pc := 14) 87 dX12_grown_14 (by decide) (fun cc_14 => ?_) (fun cc_14 => ?_)
    · have ce_14 := Int32.not_lt.mpr cc_14
      have en : i = cK σ := by omega
      subst en
      rw [hq]
      refine ok_iload (pc := 87) dX12_grown_87 rfl ?_
      refine ok_iret (pc := 89) dX12_grown_89 rfl ?_
      exact k _ _ hR hs0
    · exact absurd (by rw [eK, ei]; exact nI_le (by omega) (by omega)) cc_14
  | succ n ih =>
    intro i x4 xi M ra h1 ei hq hR hs0
    refine ok_iload (pc := 6) dX12_grown_6 rfl ?_
    refine ok_aload_n (pc := 8) dX12_grown_8 rfl ?_
    refine ok_getf (pc := 9) dX12_grown_9 fl_X12_9 hR.o rfl ?_
    refine ok_iconst (pc := 12) (v := 2) dX12_grown_12 (by decide) ?_
    refine ok_iald (pc := 13) (2) dX12_grown_13 hR.a0 rfl (by decide) (by decide) ?_
    refine ok_icmp_ge (pc := 14) 87 dX12_grown_14 (by decide) (fun cc_14 => ?_) (fun cc_14 => ?_)
    · exact absurd (by rw [eK, ei] at cc_14; exact cc_14) (nI_ge (by omega) (by omega))
    · have ce_14 := Int32.not_le.mp cc_14
      refine ok_iload_n (pc := 17) dX12_grown_17 rfl ?_
      refine ok_aload_n (pc := 18) dX12_grown_18 rfl ?_
      refine ok_iload (pc := 19) dX12_grown_19 rfl ?_
      refine ok_iconst (pc := 21) (v := 2) dX12_grown_21 (by decide) ?_
      refine ok_callVi2 (pc := 22) (d' := 0) dX12_grown_22 vl_X12_117 hR.o rfl rfl rfl (by decide) ?_
      obtain ⟨⟨ehm, lhm⟩, -⟩ := hI.2.1 i (by omega)
      refine r_kiteIs hR i ei 2 rfl (by omega) (by decide) ?_
      rw [ehm]
      refine ok_callSi2 (pc := 25) (d' := 0) dX12_grown_25 sl_X12_246 rfl (by decide) ?_
      refine r_hasBit ?_
      refine ok_if_eq (pc := 28) 81 dX12_grown_28 (by decide) (fun cc_28 => ?_) (fun cc_28 => ?_)
      · have cq_28 := bI_0.mp cc_28
        rw [hb_dec (by omega) (by omega)] at cq_28
        have enx : go σ S tm w (i + 1) = go σ S tm w i := if_neg (by rw [cq_28]; decide)
        refine ok_iinc5 (pc := 81) (v := 1) dX12_grown_81 (by decide) (by decide) rfl ?_
        refine ok_goto (pc := 84) 6 dX12_grown_84 (by decide) ?_
        exact ih (i + 1) _ _ _ _ (by omega) (by rw [ei, nI_1]) (by rw [enx]; exact hq) hR hs0
      · have cq_28 := bI_n0.mp cc_28
        rw [hb_dec (by omega) (by omega)] at cq_28
        have enx : go σ S tm w (i + 1) = gi σ i tm w (go σ S tm w i) (cH σ) := if_pos cq_28
        refine ok_iconst (pc := 31) (v := 0) dX12_grown_31 (by decide) ?_
        refine ok_istore6 (pc := 32) dX12_grown_32 (by decide) rfl ?_
        subst hq
        refine l_grown1 (ra0 := ra0) i ei (by omega) (go_lt hS lH i) htm hI (fun M ra xj hR hs0 => ?_) (cH σ) 0 _ _ _ _ (by omega) rfl rfl hR hs0
        refine ok_drop6 ?_
        refine ok_iinc5 (pc := 81) (v := 1) dX12_grown_81 (by decide) (by decide) rfl ?_
        refine ok_goto (pc := 84) 6 dX12_grown_84 (by decide) ?_
        exact ih (i + 1) _ _ _ _ (by omega) (by rw [ei, nI_1]) (by rw [enx]) hR hs0

set_option maxHeartbeats 1000000 in
theorem r_grown {Γ : Cx} {m sz : Nat} {M0 M : Nat → Option va_E} {σ κ : Rw} {ri : Nat → Int32} {ra : Nat → Nat → Int32} {K : Int32 → Wd → Prop} (hR : RefX Γ m M0 σ κ ri ra M) {sI tI w : Int32} (S tm : Nat) (es : sI = nI S) (et : tI = nI tm) (hS : S < 2 ^ 9) (htm : tm ≤ 20000) (hI : Inv σ) (k : ∀ M' ra', RefX Γ m M0 σ κ ri ra' M' → Sc ra ra' → K (nI (go σ S tm w (cK σ))) (M', sz)) : Spec Γ mX12_grown 6 0 [.ref m, .int sI, .int tI, .int w] (M, sz) (ci K) := by
  refine spec_in [some (.ref m), some (.int sI), some (.int tI), some (.int w), none, none, none] 3 (by decide) rfl rfl ?_
  refine ok_iload_n (pc := 0) dX12_grown_0 rfl ?_
  refine ok_istore4 (pc := 1) dX12_grown_1 (by decide) rfl ?_
  refine ok_iconst (pc := 3) (v := 0) dX12_grown_3 (by decide) ?_
  refine ok_istore5 (pc := 4) dX12_grown_4 (by decide) rfl ?_
  subst es
  subst et
  exact l_grown (ra0 := ra) hS htm hI k (cK σ) 0 _ _ _ _ (by omega) rfl rfl hR Sc.rf

set_option maxHeartbeats 1000000 in
theorem r_isWay {Γ : Cx} {m sz : Nat} {M0 M : Nat → Option va_E} {σ κ : Rw} {ri : Nat → Int32} {ra : Nat → Nat → Int32} {K : Int32 → Wd → Prop} (hR : RefX Γ m M0 σ κ ri ra M) {x y z : Int32} (k : K (bI (wyF σ x y z)) (M, sz)) : Spec Γ mX12_isWay 2 0 [.ref m, .int x, .int y, .int z] (M, sz) (ci K) := by
  refine spec_in [some (.ref m), some (.int x), some (.int y), some (.int z)] 0 (by decide) rfl rfl ?_
  refine ok_aload_n (pc := 0) dX12_isWay_0 rfl ?_
  refine ok_iload_n (pc := 1) dX12_isWay_1 rfl ?_
  refine ok_iconst (pc := 2) (v := 1) dX12_isWay_2 (by decide) ?_
  refine ok_callVi2 (pc := 3) (d' := 1) dX12_isWay_3 vl_X12_100 hR.o rfl rfl rfl (by decide) ?_
  refine r_is hR 1 rfl (by decide) ?_
  refine ok_if_eq (pc := 6) 34 dX12_isWay_6 (by decide) (fun cc_6 => ?_) (fun cc_6 => ?_)
  · have cq_6 := bI_0.mp cc_6
    refine ok_iconst (pc := 34) (v := 0) dX12_isWay_34 (by decide) ?_
    refine ok_zret (pc := 35) dX12_isWay_35 rfl rfl ?_
    simpa [wyF, bI, cq_6] using k
  · have cq_6 := bI_n0.mp cc_6
    refine ok_aload_n (pc := 9) dX12_isWay_9 rfl ?_
    refine ok_iload_n (pc := 10) dX12_isWay_10 rfl ?_
    refine ok_iconst (pc := 11) (v := 1) dX12_isWay_11 (by decide) ?_
    refine ok_callVi2 (pc := 12) (d' := 1) dX12_isWay_12 vl_X12_100 hR.o rfl rfl rfl (by decide) ?_
    refine r_is hR 1 rfl (by decide) ?_
    refine ok_if_eq (pc := 15) 34 dX12_isWay_15 (by decide) (fun cc_15 => ?_) (fun cc_15 => ?_)
    · have cq_15 := bI_0.mp cc_15
      refine ok_iconst (pc := 34) (v := 0) dX12_isWay_34 (by decide) ?_
      refine ok_zret (pc := 35) dX12_isWay_35 rfl rfl ?_
      simpa [wyF, bI, cq_6, cq_15] using k
    · have cq_15 := bI_n0.mp cc_15
      refine ok_iload_n (pc := 18) dX12_isWay_18 rfl ?_
      refine ok_iload_n (pc := 19) dX12_isWay_19 rfl ?_
      refine ok_icmp_eq (pc := 20) 34 dX12_isWay_20 (by decide) (fun cc_20 => ?_) (fun cc_20 => ?_)
      · refine ok_iconst (pc := 34) (v := 0) dX12_isWay_34 (by decide) ?_
        refine ok_zret (pc := 35) dX12_isWay_35 rfl rfl ?_
        simpa [wyF, bI, cq_6, cq_15, cc_20] using k
      · refine ok_iload_n (pc := 23) dX12_isWay_23 rfl ?_
        refine ok_callSi1 (pc := 24) (d' := 1) dX12_isWay_24 sl_X12_156 rfl (by decide) ?_
        refine r_isLoad ?_
        refine ok_if_eq (pc := 27) 34 dX12_isWay_27 (by decide) (fun cc_27 => ?_) (fun cc_27 => ?_)
        · have cq_27 := bI_0.mp cc_27
          refine ok_iconst (pc := 34) (v := 0) dX12_isWay_34 (by decide) ?_
          refine ok_zret (pc := 35) dX12_isWay_35 rfl rfl ?_
          simpa [wyF, bI, cq_6, cq_15, cc_20, cq_27] using k
        · have cq_27 := bI_n0.mp cc_27
          refine ok_iconst (pc := 30) (v := 1) dX12_isWay_30 (by decide) ?_
          refine ok_goto (pc := 31) 35 dX12_isWay_31 (by decide) ?_
          refine ok_zret (pc := 35) dX12_isWay_35 rfl rfl ?_
          simpa [wyF, bI, cq_6, cq_15, cc_20, cq_27] using k

set_option maxHeartbeats 1000000 in
theorem l_soonestOf {Γ : Cx} {m sz : Nat} {M0 : Nat → Option va_E} {σ κ : Rw} {ri : Nat → Int32} {K : Int32 → Wd → Prop} {ra0 : Nat → Rw} {fI tI w : Int32} (f t : Nat) (et : tI = nI t) (hf : f < 9) (ht : t < 9) (hI : Inv σ) (hc9 : cT σ ≤ 10000) (A0 : Int32) (k : ∀ M' ra', RefX Γ m M0 σ κ ri ra' M' → Sc ra0 ra' → K A0 (M', sz)) : ∀ (n : Nat) (i : Nat) (x4 : Int32) (xi : Int32) (M : Nat → Option va_E) (ra : Nat → Rw), i + n = 72 → xi = nI i → x4 = nI (srS σ f w i) → soA σ f t w n i = A0 → RefX Γ m M0 σ κ ri ra M → Sc ra0 ra → Ok Γ mX12_soonestOf 7 0 8 [some (.ref m), some (.int fI), some (.int tI), some (.int w), some (.int x4), some (.int xi)] [] (M, sz) (ci K) := by
  have eT := hI.1.2.2.2.2.1
  have lH := hI.1.1.2
  intro n
  induction n with
  | zero =>
    intro i x4 xi M ra h1 ei hq hA0 hR hs0
    refine ok_iload (pc := 8) dX12_soonestOf_8 rfl ?_
    refine ok_bipush (pc := 10) (v := 72) dX12_soonestOf_10 (by decide) ?_
    refine ok_icmp_ge (pc := 12) 53 dX12_soonestOf_12 (by decide) (fun cc_12 => ?_) (fun cc_12 => ?_)
    · have ce_12 := Int32.not_lt.mpr cc_12
      have hA1 : (-1 : Int32) = A0 := hA0
      subst hA1
      refine ok_iconst (pc := 53) (v := -1) dX12_soonestOf_53 (by decide) ?_
      refine ok_iret (pc := 54) dX12_soonestOf_54 rfl ?_
      exact k _ _ hR hs0
    · exact absurd (by rw [ei]; exact nI_le (a := 72) (by omega) (by omega)) cc_12
  | succ n ih =>
    intro i x4 xi M ra h1 ei hq hA0 hR hs0
    refine ok_iload (pc := 8) dX12_soonestOf_8 rfl ?_
    refine ok_bipush (pc := 10) (v := 72) dX12_soonestOf_10 (by decide) ?_
    refine ok_icmp_ge (pc := 12) 53 dX12_soonestOf_12 (by decide) (fun cc_12 => ?_) (fun cc_12 => ?_)
    · exact absurd (by rw [ei] at cc_12; exact cc_12) (nI_ge (b := 72) (by omega) (by omega))
    · have ce_12 := Int32.not_le.mp cc_12
      refine ok_aload_n (pc := 15) dX12_soonestOf_15 rfl ?_
      refine ok_iload (pc := 16) dX12_soonestOf_16 rfl ?_
      refine ok_aload_n (pc := 18) dX12_soonestOf_18 rfl ?_
      refine ok_getf (pc := 19) dX12_soonestOf_19 fl_X12_9 hR.o rfl ?_
      refine ok_iconst (pc := 22) (v := 0) dX12_soonestOf_22 (by decide) ?_
      refine ok_iald (pc := 23) (0) dX12_soonestOf_23 hR.a0 rfl (by decide) (by decide) ?_
      refine ok_iload (pc := 24) dX12_soonestOf_24 rfl ?_
      refine ok_iadd (pc := 26) dX12_soonestOf_26 ?_
      refine ok_iload_n (pc := 27) dX12_soonestOf_27 rfl ?_
      refine ok_callVi3 (pc := 28) (d' := 6) dX12_soonestOf_28 vl_X12_285 hR.o rfl rfl rfl (by decide) ?_
      refine r_grown hR (srS σ f w i) (cT σ + i) hq (by rw [eT, ei, nI_add]) (srS_lt hf lH i) (by omega) hI (fun M rb hR hs => ?_)
      have hs0 := hs0.tr hs
      have hlt := srS_lt (w := w) hf lH (i + 1)
      have egr : go σ (srS σ f w i) (cT σ + i) w (cK σ) = srS σ f w (i + 1) := rfl
      rw [egr]
      refine ok_istore4 (pc := 31) dX12_soonestOf_31 (by decide) rfl ?_
      refine ok_iload (pc := 33) dX12_soonestOf_33 rfl ?_
      refine ok_iload_n (pc := 35) dX12_soonestOf_35 rfl ?_
      refine ok_callSi2 (pc := 36) (d' := 0) dX12_soonestOf_36 sl_X12_246 rfl (by decide) ?_
      refine r_hasBit ?_
      refine ok_if_eq (pc := 39) 47 dX12_soonestOf_39 (by decide) (fun cc_39 => ?_) (fun cc_39 => ?_)
      · have cq_39 := bI_0.mp cc_39
        rw [et, hb_dec (by omega) (by omega)] at cq_39
        have hA1 : soA σ f t w n (i + 1) = A0 := by rw [← hA0]; exact (if_neg (by rw [cq_39]; decide)).symm
        refine ok_iinc5 (pc := 47) (v := 1) dX12_soonestOf_47 (by decide) (by decide) rfl ?_
        refine ok_goto (pc := 50) 8 dX12_soonestOf_50 (by decide) ?_
        exact ih (i + 1) _ _ _ _ (by omega) (by rw [ei, nI_1]) rfl hA1 hR hs0
      · have cq_39 := bI_n0.mp cc_39
        rw [et, hb_dec (by omega) (by omega)] at cq_39
        have hA1 : nI (i + 1) = A0 := by rw [← hA0]; exact (if_pos cq_39).symm
        subst hA1
        refine ok_iload (pc := 42) dX12_soonestOf_42 rfl ?_
        refine ok_iconst (pc := 44) (v := 1) dX12_soonestOf_44 (by decide) ?_
        refine ok_iadd (pc := 45) dX12_soonestOf_45 ?_
        refine ok_iret (pc := 46) dX12_soonestOf_46 rfl ?_
        rw [ei, nI_1]
        exact k _ _ hR hs0

set_option maxHeartbeats 1000000 in
theorem r_soonestOf {Γ : Cx} {m sz : Nat} {M0 M : Nat → Option va_E} {σ κ : Rw} {ri : Nat → Int32} {ra : Nat → Nat → Int32} {K : Int32 → Wd → Prop} (hR : RefX Γ m M0 σ κ ri ra M) {fI tI w : Int32} (f t : Nat) (ef : fI = nI f) (et : tI = nI t) (hf : f < 9) (ht : t < 9) (hI : Inv σ) (hc9 : cT σ ≤ 10000) (k : ∀ M' ra', RefX Γ m M0 σ κ ri ra' M' → Sc ra ra' → K (soA σ f t w 72 0) (M', sz)) : Spec Γ mX12_soonestOf 7 0 [.ref m, .int fI, .int tI, .int w] (M, sz) (ci K) := by
  refine spec_in [some (.ref m), some (.int fI), some (.int tI), some (.int w), none, none] 2 (by decide) rfl rfl ?_
  refine ok_iconst (pc := 0) (v := 1) dX12_soonestOf_0 (by decide) ?_
  refine ok_iload_n (pc := 1) dX12_soonestOf_1 rfl ?_
  refine ok_ishl (pc := 2) dX12_soonestOf_2 ?_
  refine ok_istore4 (pc := 3) dX12_soonestOf_3 (by decide) rfl ?_
  refine ok_iconst (pc := 5) (v := 0) dX12_soonestOf_5 (by decide) ?_
  refine ok_istore5 (pc := 6) dX12_soonestOf_6 (by decide) rfl ?_
  exact l_soonestOf (ra0 := ra) f t et hf ht hI hc9 _ k 72 0 _ _ _ _ (by omega) rfl (by rw [ef]; exact jshl_1 (by omega)) rfl hR Sc.rf

set_option maxHeartbeats 1000000 in
theorem r_soonest {Γ : Cx} {m sz : Nat} {M0 M : Nat → Option va_E} {σ κ vi : Rw} {va : Nat → Rw} {K : Int32 → Wd → Prop} (hW : RefW Γ m M0 σ κ vi va M) (hI : Inv σ) (hc9 : cT σ ≤ 9999) {x y z : Int32} (k : ∀ M', RefW Γ m M0 σ κ vi (eU va (op_soonest σ x y z).1) M' → K (op_soonest σ x y z).2 (M', sz)) : Spec Γ mX12_soonest 8 0 [.ref m, .int x, .int y, .int z] (M, sz) (ci K) := by
  obtain ⟨ri, ra, hR, hv, hw⟩ := hW
  obtain ⟨⟨⟨eH, lH⟩, ⟨eK, lK⟩, ⟨eL, lL⟩, ⟨eA, lA⟩, ⟨eT, lT⟩⟩, iK, iH, iW, iL, iO, iB, hT⟩ := id hI
  
  refine spec_in [some (.ref m), some (.int x), some (.int y), some (.int z), none] 1 (by decide) rfl rfl ?_
  refine ok_aload_n (pc := 0) dX12_soonest_0 rfl ?_
  refine ok_iload_n (pc := 1) dX12_soonest_1 rfl ?_
  refine ok_iload_n (pc := 2) dX12_soonest_2 rfl ?_
  refine ok_iload_n (pc := 3) dX12_soonest_3 rfl ?_
  refine ok_callVi3 (pc := 4) (d' := 2) dX12_soonest_4 vl_X12_288 hR.o rfl rfl rfl (by decide) ?_
  refine r_isWay hR ?_
  refine ok_if_ne (pc := 7) 17 dX12_soonest_7 (by decide) (fun cc_7 => ?_) (fun cc_7 => ?_)
  · have cq_7 := bI_n0.mp cc_7
    refine ok_aload_n (pc := 17) dX12_soonest_17 rfl ?_
    refine ok_iload_n (pc := 18) dX12_soonest_18 rfl ?_
    refine ok_iload_n (pc := 19) dX12_soonest_19 rfl ?_
    refine ok_iload_n (pc := 20) dX12_soonest_20 rfl ?_
    refine ok_callVi3 (pc := 21) (d' := 7) dX12_soonest_21 vl_X12_291 hR.o rfl rfl rfl (by decide) ?_
    have hwy := cq_7
    unfold wyF at hwy
    simp only [Bool.and_eq_true] at hwy
    obtain ⟨ex, lx⟩ := wi_cnt eH (by omega) hwy.1.1.1
    obtain ⟨ey, ly⟩ := wi_cnt eH (by omega) hwy.1.1.2
    refine r_soonestOf hR (iN x) (iN y) ex ey (by omega) (by omega) hI (by omega) (fun M rb hR hs => ?_)
    refine ok_istore4 (pc := 24) dX12_soonest_24 (by decide) rfl ?_
    refine ok_iload (pc := 26) dX12_soonest_26 rfl ?_
    refine ok_if_ge (pc := 28) 41 dX12_soonest_28 (by decide) (fun cc_28 => ?_) (fun cc_28 => ?_)
    · have ce_28 := Int32.not_lt.mpr cc_28
      refine ok_iload (pc := 41) dX12_soonest_41 rfl ?_
      refine ok_iret (pc := 43) dX12_soonest_43 rfl ?_
      have eo : op_soonest σ x y z = (0, soA σ (iN x) (iN y) z 72 0) := by simp [op_soonest, cq_7, cc_28, ce_28]
      rw [eo] at k
      exact k _ (RefW.oks hR hs hv hw)
    · have ce_28 := Int32.not_le.mp cc_28
      refine ok_aload_n (pc := 31) dX12_soonest_31 rfl ?_
      refine ok_ldcw (pc := 32) (v := -1000000002) dX12_soonest_32 tw_1536 ?_
      refine ok_callVi1 (pc := 35) (d' := 0) dX12_soonest_35 vl_X12_84 hR.o rfl rfl rfl (by decide) ?_
      have hs9 := hs
      refine r_finding hR 2 (by decide) (by decide) (fun M hR => ?_)
      refine ok_goto (pc := 38) 43 dX12_soonest_38 (by decide) ?_
      refine ok_iret (pc := 43) dX12_soonest_43 rfl ?_
      have eo : op_soonest σ x y z = (2, -1000000002) := by simp [op_soonest, cq_7, cc_28, ce_28]
      rw [eo] at k
      exact k _ (RefW.err 2 (by decide) hR hv ⟨(hs9 4 (by decide) (by decide)).trans hw.1, (hs9 18 (by decide) (by decide)).trans hw.2.1, (hs9 21 (by decide) (by decide)).trans hw.2.2.1, (hs9 22 (by decide) (by decide)).trans hw.2.2.2.1, (hs9 23 (by decide) (by decide)).trans hw.2.2.2.2⟩)
  · have cq_7 := bI_0.mp cc_7
    refine ok_aload_n (pc := 10) dX12_soonest_10 rfl ?_
    refine ok_ldc (pc := 11) (v := -1000000001) dX12_soonest_11 tw_1205 ?_
    refine ok_callVi1 (pc := 13) (d' := 0) dX12_soonest_13 vl_X12_84 hR.o rfl rfl rfl (by decide) ?_
    refine r_finding hR 1 (by decide) (by decide) (fun M hR => ?_)
    refine ok_iret (pc := 16) dX12_soonest_16 rfl ?_
    have eo : op_soonest σ x y z = (1, -1000000001) := by simp [op_soonest, cq_7]
    rw [eo] at k
    exact k _ (RefW.err 1 (by decide) hR hv hw)
