set_option maxHeartbeats 1000000 in
theorem l_hour {Γ : Cx} {m sz : Nat} {M0 : Nat → Option va_E} {σ κ : Rw} {ri : Nat → Int32} {K : Wd → Prop} {ra0 : Nat → Rw} (hI : Inv σ) (k : ∀ M' ra', RefX Γ m M0 (hourF σ) κ ri ra' M' → Sc ra0 ra' → K (M', sz)) : ∀ (n : Nat) (i : Nat) (x2 : Int32) (xi : Int32) (M : Nat → Option va_E) (ra : Nat → Rw), i + n = cK σ → xi = nI i → x2 = nI (hrS σ (upN σ) i).2 → RefX Γ m M0 (hrS σ (upN σ) i).1 κ ri ra M → Sc ra0 ra → Ok Γ mX12_hour 9 0 13 [some (.ref m), some (.int (nI (upN σ))), some (.int x2), some (.int xi)] [] (M, sz) (cv K) := by
  have lK := hI.1.2.1.2
  have hup : upN σ < 2 ^ 8 := suN_lt 16 _ _ (hvN_lt8 lK) (by decide)
  intro n
  induction n with
  | zero =>
    intro i x2 xi M ra h1 ei e2 hR hs0
    obtain ⟨t1, t2, t3⟩ := hrS_ok hI (upN_ok hI) i (by omega)
    have eK := t1.1.2.1.1
    rw [t2.2.2.1] at eK
    refine ok_iload_n (pc := 13) dX12_hour_13 rfl ?_
    refine ok_aload_n (pc := 14) dX12_hour_14 rfl ?_
    refine ok_getf (pc := 15) dX12_hour_15 fl_X12_9 hR.o rfl ?_
    refine ok_iconst (pc := 18) (v := 2) dX12_hour_18 (by decide) ?_
    refine ok_iald (pc := 19) (2) dX12_hour_19 hR.a0 rfl (by decide) (by decide) ?_
    refine ok_icmp_ge (pc := 20) 46 dX12_hour_20 (by decide) (fun cc_20 => ?_) (fun cc_20 => ?_)
    · have ce_20 := Int32.not_lt.mpr cc_20
      have en : i = cK σ := by omega
      subst en
      refine ok_aload_n (pc := 46) dX12_hour_46 rfl ?_
      refine ok_getf (pc := 47) dX12_hour_47 fl_X12_9 hR.o rfl ?_
      refine ok_iconst (pc := 50) (v := 0) dX12_hour_50 (by decide) ?_
      refine ok_dup2 (pc := 51) dX12_hour_51 rfl rfl ?_
      refine ok_iald (pc := 52) (0) dX12_hour_52 hR.a0 rfl (by decide) (by decide) ?_
      refine ok_iconst (pc := 53) (v := 1) dX12_hour_53 (by decide) ?_
      refine ok_iadd (pc := 54) dX12_hour_54 ?_
      refine ok_rst0 (pc := 55) (0) dX12_hour_55 hR rfl (by decide) (fun M hR => ?_)
      refine ok_vret (pc := 56) dX12_hour_56 rfl ?_
      have e0 : (hrS σ (upN σ) (cK σ)).1 0 = σ 0 := t2.2.2.2.2 0 (by omega)
      rw [e0] at hR
      exact k _ _ hR hs0
    · exact absurd (by rw [eK, ei]; exact nI_le (by omega) (by omega)) cc_20
  | succ n ih =>
    intro i x2 xi M ra h1 ei e2 hR hs0
    obtain ⟨t1, t2, t3⟩ := hrS_ok hI (upN_ok hI) i (by omega)
    have eK := t1.1.2.1.1
    rw [t2.2.2.1] at eK
    refine ok_iload_n (pc := 13) dX12_hour_13 rfl ?_
    refine ok_aload_n (pc := 14) dX12_hour_14 rfl ?_
    refine ok_getf (pc := 15) dX12_hour_15 fl_X12_9 hR.o rfl ?_
    refine ok_iconst (pc := 18) (v := 2) dX12_hour_18 (by decide) ?_
    refine ok_iald (pc := 19) (2) dX12_hour_19 hR.a0 rfl (by decide) (by decide) ?_
    refine ok_icmp_ge (pc := 20) 46 dX12_hour_20 (by decide) (fun cc_20 => ?_) (fun cc_20 => ?_)
    · exact absurd (by rw [eK, ei] at cc_20; exact cc_20) (nI_ge (by omega) (by omega))
    · have ce_20 := Int32.not_le.mp cc_20
      refine ok_iload_n (pc := 23) dX12_hour_23 rfl ?_
      refine ok_iload_n (pc := 24) dX12_hour_24 rfl ?_
      refine ok_callSi2 (pc := 25) (d' := 0) dX12_hour_25 sl_X12_246 rfl (by decide) ?_
      refine r_hasBit ?_
      refine ok_if_eq (pc := 28) 40 dX12_hour_28 (by decide) (fun cc_28 => ?_) (fun cc_28 => ?_)
      · have cq_28 := bI_0.mp cc_28
        rw [ei, hb_dec (by omega) (by omega)] at cq_28
        have enx : hrS σ (upN σ) (i + 1) = (hrS σ (upN σ) i) := if_neg (by rw [cq_28]; decide)
        refine ok_iinc3 (pc := 40) (v := 1) dX12_hour_40 (by decide) (by decide) rfl ?_
        refine ok_goto (pc := 43) 13 dX12_hour_43 (by decide) ?_
        exact ih (i + 1) _ _ _ _ (by omega) (by rw [ei, nI_1]) (by rw [enx]; first | exact e2 | (rw [e2, fa_or]; rfl)) (by rw [enx]; exact hR) hs0
      · have cq_28 := bI_n0.mp cc_28
        rw [ei, hb_dec (by omega) (by omega)] at cq_28
        refine ok_iload_n (pc := 31) dX12_hour_31 rfl ?_
        refine ok_aload_n (pc := 32) dX12_hour_32 rfl ?_
        refine ok_iload_n (pc := 33) dX12_hour_33 rfl ?_
        refine ok_iload_n (pc := 34) dX12_hour_34 rfl ?_
        refine ok_callVi2 (pc := 35) (d' := 7) dX12_hour_35 vl_X12_259 hR.o rfl rfl rfl (by decide) ?_
        have hak : 0 ≤ kf (hrS σ (upN σ) i).1 i 5 := by rw [t2.kt (by omega) (by decide)]; exact (upN_ok hI i cq_28).2
        refine r_takesUp hR i (hrS σ (upN σ) i).2 ei e2 (by rw [t2.2.2.1]; omega) t3 hak t1 (fun M rb hR hs => ?_)
        have hs0 := hs0.tr hs
        have enx : hrS σ (upN σ) (i + 1) = ((tkS (hrS σ (upN σ) i).1 i (tkOn (hrS σ (upN σ) i).1 i (hrS σ (upN σ) i).2) (amF (hrS σ (upN σ) i).1 i) (cL (hrS σ (upN σ) i).1)).1, (hrS σ (upN σ) i).2 ||| (tkS (hrS σ (upN σ) i).1 i (tkOn (hrS σ (upN σ) i).1 i (hrS σ (upN σ) i).2) (amF (hrS σ (upN σ) i).1 i) (cL (hrS σ (upN σ) i).1)).2.2) := if_pos cq_28
        refine ok_ior (pc := 38) dX12_hour_38 ?_
        refine ok_istore_n2 (pc := 39) dX12_hour_39 (by decide) rfl ?_
        refine ok_iinc3 (pc := 40) (v := 1) dX12_hour_40 (by decide) (by decide) rfl ?_
        refine ok_goto (pc := 43) 13 dX12_hour_43 (by decide) ?_
        exact ih (i + 1) _ _ _ _ (by omega) (by rw [ei, nI_1]) (by rw [enx]; first | exact e2 | (rw [e2, fa_or]; rfl)) (by rw [enx]; exact hR) hs0

set_option maxHeartbeats 1000000 in
theorem r_hour {Γ : Cx} {m sz : Nat} {M0 M : Nat → Option va_E} {σ κ : Rw} {ri : Nat → Int32} {ra : Nat → Nat → Int32} {K : Wd → Prop} (hR : RefX Γ m M0 σ κ ri ra M) (hI : Inv σ) (k : ∀ M' ra', RefX Γ m M0 (hourF σ) κ ri ra' M' → Sc ra ra' → K (M', sz)) : Spec Γ mX12_hour 9 0 [.ref m] (M, sz) (cv K) := by
  have lK := hI.1.2.1.2
  refine spec_in [some (.ref m), none, none, none] 3 (by decide) rfl rfl ?_
  refine ok_aload_n (pc := 0) dX12_hour_0 rfl ?_
  refine ok_aload_n (pc := 1) dX12_hour_1 rfl ?_
  refine ok_callVi0 (pc := 2) (d' := 8) dX12_hour_2 vl_X12_252 hR.o rfl rfl rfl (by decide) ?_
  refine r_haveLines hR hI (fun M rb hR hs => ?_)
  rw [hvF_n σ _ (by omega)]
  refine ok_callVi1 (pc := 5) (d' := 4) dX12_hour_5 vl_X12_255 hR.o rfl rfl rfl (by decide) ?_
  refine r_stayUp hR (hvN σ (cK σ)) rfl (hvN_lt8 lK) hvN_aim hI ?_
  refine ok_istore_n1 (pc := 8) dX12_hour_8 (by decide) rfl ?_
  refine ok_iconst (pc := 9) (v := 0) dX12_hour_9 (by decide) ?_
  refine ok_istore_n2 (pc := 10) dX12_hour_10 (by decide) rfl ?_
  refine ok_iconst (pc := 11) (v := 0) dX12_hour_11 (by decide) ?_
  refine ok_istore_n3 (pc := 12) dX12_hour_12 (by decide) rfl ?_
  exact l_hour (ra0 := ra) hI k (cK σ) 0 0 0 _ _ (by omega) rfl rfl hR hs

def hrsF (σ : Rw) : Nat → Rw
  | 0 => σ
  | n + 1 => hourF (hrsF σ n)
theorem hrs_ok {σ : Rw} (hI : Inv σ) : ∀ n, cT σ + n ≤ 20000 → Inv (hrsF σ n) ∧ cL (hrsF σ n) = cL σ ∧ cH (hrsF σ n) = cH σ ∧ cK (hrsF σ n) = cK σ ∧ cT (hrsF σ n) = cT σ + n ∧ ∀ j, (6 ≤ j ∧ j < 99) ∨ 195 ≤ j ∨ (1 ≤ j ∧ j < 4) → hrsF σ n j = σ j
  | 0, _ => ⟨hI, rfl, rfl, rfl, rfl, fun _ _ => rfl⟩
  | n + 1, h => by
    obtain ⟨h1, h2, h3, h4, h5, h6⟩ := hrs_ok hI n (by omega)
    obtain ⟨g1, g2, g3, g4, g5, g6⟩ := Inv_hour h1 (by omega)
    exact ⟨g1, g2.trans h2, g3.trans h3, g4.trans h4, by show cT (hourF (hrsF σ n)) = _; omega, fun j hj => (g6 j hj).trans (h6 j hj)⟩

set_option maxHeartbeats 1000000 in
theorem l_hoursGo {Γ : Cx} {m sz : Nat} {M0 : Nat → Option va_E} {σ κ : Rw} {ri : Nat → Int32} {K : Wd → Prop} {ra0 : Nat → Rw} {nI9 : Int32} (n0 : Nat) (en : nI9 = nI n0) (hn : n0 ≤ 72) (hI : Inv σ) (ht : cT σ ≤ 10000) (k : ∀ M' ra', RefX Γ m M0 (hrsF σ n0) κ ri ra' M' → Sc ra0 ra' → K (M', sz)) : ∀ (n : Nat) (i : Nat) (xi : Int32) (M : Nat → Option va_E) (ra : Nat → Rw), i + n = n0 → xi = nI i → RefX Γ m M0 (hrsF σ i) κ ri ra M → Sc ra0 ra → Ok Γ mX12_hoursGo 10 0 2 [some (.ref m), some (.int nI9), some (.int xi)] [] (M, sz) (cv K) := by
  intro n
  induction n with
  | zero =>
    intro i xi M ra h1 ei hR hs0
    refine ok_iload_n (pc := 2) dX12_hoursGo_2 rfl ?_
    refine ok_iload_n (pc := 3) dX12_hoursGo_3 rfl ?_
    refine ok_icmp_ge (pc := 4) 17 dX12_hoursGo_4 (by decide) (fun cc_4 => ?_) (fun cc_4 => ?_)
    · have ce_4 := Int32.not_lt.mpr cc_4
      have en9 : i = n0 := by omega
      subst en9
      refine ok_vret (pc := 17) dX12_hoursGo_17 rfl ?_
      exact k _ _ hR hs0
    · exact absurd (by rw [en, ei]; exact nI_le (by omega) (by omega)) cc_4
  | succ n ih =>
    intro i xi M ra h1 ei hR hs0
    refine ok_iload_n (pc := 2) dX12_hoursGo_2 rfl ?_
    refine ok_iload_n (pc := 3) dX12_hoursGo_3 rfl ?_
    refine ok_icmp_ge (pc := 4) 17 dX12_hoursGo_4 (by decide) (fun cc_4 => ?_) (fun cc_4 => ?_)
    · exact absurd (by rw [en, ei] at cc_4; exact cc_4) (nI_ge (by omega) (by omega))
    · have ce_4 := Int32.not_le.mp cc_4
      refine ok_aload_n (pc := 7) dX12_hoursGo_7 rfl ?_
      refine ok_callVv0 (pc := 8) (d' := 9) dX12_hoursGo_8 vl_X12_266 hR.o rfl rfl rfl (by decide) ?_
      obtain ⟨t1, t2, t3, t4, t5, t6⟩ := hrs_ok hI i (by omega)
      refine r_hour hR t1 (fun M rb hR hs => ?_)
      have hs0 := hs0.tr hs
      refine ok_iinc2 (pc := 11) (v := 1) dX12_hoursGo_11 (by decide) (by decide) rfl ?_
      refine ok_goto (pc := 14) 2 dX12_hoursGo_14 (by decide) ?_
      exact ih (i + 1) _ _ _ (by omega) (by rw [ei, nI_1]) hR hs0

set_option maxHeartbeats 1000000 in
theorem r_hoursGo {Γ : Cx} {m sz : Nat} {M0 M : Nat → Option va_E} {σ κ : Rw} {ri : Nat → Int32} {ra : Nat → Nat → Int32} {K : Wd → Prop} (hR : RefX Γ m M0 σ κ ri ra M) {nI9 : Int32} (n0 : Nat) (en : nI9 = nI n0) (hn : n0 ≤ 72) (hI : Inv σ) (ht : cT σ ≤ 10000) (k : ∀ M' ra', RefX Γ m M0 (hrsF σ n0) κ ri ra' M' → Sc ra ra' → K (M', sz)) : Spec Γ mX12_hoursGo 10 0 [.ref m, .int nI9] (M, sz) (cv K) := by
  refine spec_in [some (.ref m), some (.int nI9), none] 1 (by decide) rfl rfl ?_
  refine ok_iconst (pc := 0) (v := 0) dX12_hoursGo_0 (by decide) ?_
  refine ok_istore_n2 (pc := 1) dX12_hoursGo_1 (by decide) rfl ?_
  exact l_hoursGo (ra0 := ra) n0 en hn hI ht k n0 0 _ _ _ (by omega) rfl hR Sc.rf
