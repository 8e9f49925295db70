set_option maxHeartbeats 1000000 in
theorem l_takesUp {Γ : Cx} {m sz : Nat} {M0 : Nat → Option va_E} {σ κ : Rw} {ri : Nat → Int32} {K : Int32 → Wd → Prop} {ra0 : Nat → Rw} {kI mI : Int32} (k0 on aim : Nat) (ek : kI = nI k0) (hk : k0 < cK σ) (hon : on < 2 ^ 12) (ha : aim < cH σ) (ho : ∀ l, on.testBit l = true → l < cL σ ∧ arF σ l = false) (hI : Inv σ) (k : ∀ M' ra', RefX Γ m M0 (tkS σ k0 on aim (cL σ)).1 κ ri ra' M' → Sc ra0 ra' → K (nI (tkS σ k0 on aim (cL σ)).2.2) (M', sz)) : ∀ (n : Nat) (i : Nat) (x5 : Int32) (x6 : Int32) (xi : Int32) (M : Nat → Option va_E) (ra : Nat → Rw), i + n = cL σ → xi = nI i → x5 = (tkS σ k0 on aim i).2.1 → x6 = nI (tkS σ k0 on aim i).2.2 → RefX Γ m M0 (tkS σ k0 on aim i).1 κ ri ra M → Sc ra0 ra → Ok Γ mX12_takesUp 7 0 32 [some (.ref m), some (.int kI), some (.int mI), some (.int (nI on)), some (.int (nI aim)), some (.int x5), some (.int x6), some (.int xi)] [] (M, sz) (ci K) := by
  intro n
  induction n with
  | zero =>
    intro i x5 x6 xi M ra h1 ei e5 e6 hR hs0
    obtain ⟨t1, t2, t3, t4⟩ := tkS_ok hI ha ho (k := k0) i (by omega)
    have eL := t1.1.2.2.1.1
    have lL := hI.1.2.2.1.2
    rw [t2.1] at eL
    refine ok_iload (pc := 32) dX12_takesUp_32 rfl ?_
    refine ok_aload_n (pc := 34) dX12_takesUp_34 rfl ?_
    refine ok_getf (pc := 35) dX12_takesUp_35 fl_X12_9 hR.o rfl ?_
    refine ok_iconst (pc := 38) (v := 3) dX12_takesUp_38 (by decide) ?_
    refine ok_iald (pc := 39) (3) dX12_takesUp_39 hR.a0 rfl (by decide) (by decide) ?_
    refine ok_icmp_ge (pc := 40) 107 dX12_takesUp_40 (by decide) (fun cc_40 => ?_) (fun cc_40 => ?_)
    · have ce_40 := Int32.not_lt.mpr cc_40
      have en : i = cL σ := by omega
      subst en
      rw [e6]
      refine ok_iload (pc := 107) dX12_takesUp_107 rfl ?_
      refine ok_iret (pc := 109) dX12_takesUp_109 rfl ?_
      exact k _ _ hR hs0
    · exact absurd (by rw [eL, ei]; exact nI_le (by omega) (by omega)) cc_40
  | succ n ih =>
    intro i x5 x6 xi M ra h1 ei e5 e6 hR hs0
    obtain ⟨t1, t2, t3, t4⟩ := tkS_ok hI ha ho (k := k0) i (by omega)
    have eL := t1.1.2.2.1.1
    have lL := hI.1.2.2.1.2
    rw [t2.1] at eL
    refine ok_iload (pc := 32) dX12_takesUp_32 rfl ?_
    refine ok_aload_n (pc := 34) dX12_takesUp_34 rfl ?_
    refine ok_getf (pc := 35) dX12_takesUp_35 fl_X12_9 hR.o rfl ?_
    refine ok_iconst (pc := 38) (v := 3) dX12_takesUp_38 (by decide) ?_
    refine ok_iald (pc := 39) (3) dX12_takesUp_39 hR.a0 rfl (by decide) (by decide) ?_
    refine ok_icmp_ge (pc := 40) 107 dX12_takesUp_40 (by decide) (fun cc_40 => ?_) (fun cc_40 => ?_)
    · exact absurd (by rw [eL, ei] at cc_40; exact cc_40) (nI_ge (by omega) (by omega))
    · have ce_40 := Int32.not_le.mp cc_40
      refine ok_iload_n (pc := 43) dX12_takesUp_43 rfl ?_
      refine ok_iload (pc := 44) dX12_takesUp_44 rfl ?_
      refine ok_callSi2 (pc := 46) (d' := 0) dX12_takesUp_46 sl_X12_246 rfl (by decide) ?_
      refine r_hasBit ?_
      refine ok_if_eq (pc := 49) 101 dX12_takesUp_49 (by decide) (fun cc_49 => ?_) (fun cc_49 => ?_)
      · have cq_49 := bI_0.mp cc_49
        rw [ei, hb_dec (by omega) (by omega)] at cq_49
        have enx : tkS σ k0 on aim (i + 1) = (tkS σ k0 on aim i) := if_neg (by rw [cq_49, Bool.false_and]; decide)
        refine ok_iinc7 (pc := 101) (v := 1) dX12_takesUp_101 (by decide) (by decide) rfl ?_
        refine ok_goto (pc := 104) 32 dX12_takesUp_104 (by decide) ?_
        exact ih (i + 1) _ _ _ _ _ (by omega) (by rw [ei, nI_1]) (by rw [enx, e5]) (by rw [enx]; first | exact e6 | (rw [e6, ei, jshl_1 (by omega), fa_or])) (by rw [enx]; exact hR) hs0
      · have cq_49 := bI_n0.mp cc_49
        rw [ei, hb_dec (by omega) (by omega)] at cq_49
        refine ok_aload_n (pc := 52) dX12_takesUp_52 rfl ?_
        refine ok_iload_n (pc := 53) dX12_takesUp_53 rfl ?_
        refine ok_iload (pc := 54) dX12_takesUp_54 rfl ?_
        refine ok_iload (pc := 56) dX12_takesUp_56 rfl ?_
        refine ok_aload_n (pc := 58) dX12_takesUp_58 rfl ?_
        refine ok_iload (pc := 59) dX12_takesUp_59 rfl ?_
        refine ok_iconst (pc := 61) (v := 2) dX12_takesUp_61 (by decide) ?_
        refine ok_callVi2 (pc := 62) (d' := 0) dX12_takesUp_62 vl_X12_97 hR.o rfl rfl rfl (by decide) ?_
        refine r_letterIs hR i ei 2 rfl (by omega) (by decide) ?_
        refine ok_iadd (pc := 65) dX12_takesUp_65 ?_
        refine ok_callVi3 (pc := 66) (d' := 6) dX12_takesUp_66 vl_X12_159 hR.o rfl rfl rfl (by decide) ?_
        refine r_standsNow hR k0 aim ek rfl (by rw [t2.2.2.1]; exact hk) (by rw [t2.2.1]; exact ha) t1 (fun M rb hR hs => ?_)
        have hs0 := hs0.tr hs
        refine ok_if_eq (pc := 69) 101 dX12_takesUp_69 (by decide) (fun cc_69 => ?_) (fun cc_69 => ?_)
        · have cq_69 := bI_0.mp cc_69
          rw [e5] at cq_69
          have enx : tkS σ k0 on aim (i + 1) = (tkS σ k0 on aim i) := if_neg (by rw [cq_49]; exact fun h9 => by rw [Bool.true_and] at h9; rw [h9] at cq_69; cases cq_69)
          refine ok_iinc7 (pc := 101) (v := 1) dX12_takesUp_101 (by decide) (by decide) rfl ?_
          refine ok_goto (pc := 104) 32 dX12_takesUp_104 (by decide) ?_
          exact ih (i + 1) _ _ _ _ _ (by omega) (by rw [ei, nI_1]) (by rw [enx, e5]) (by rw [enx]; first | exact e6 | (rw [e6, ei, jshl_1 (by omega), fa_or])) (by rw [enx]; exact hR) hs0
        · have cq_69 := bI_n0.mp cc_69
          rw [e5] at cq_69
          have enx : tkS σ k0 on aim (i + 1) = (comF (tkS σ k0 on aim i).1 i (nI aim), (tkS σ k0 on aim i).2.1 + lf (tkS σ k0 on aim i).1 i 2, (tkS σ k0 on aim i).2.2 ||| 2 ^ i) := if_pos (by rw [cq_49, Bool.true_and]; exact cq_69)
          refine ok_iload (pc := 72) dX12_takesUp_72 rfl ?_
          refine ok_aload_n (pc := 74) dX12_takesUp_74 rfl ?_
          refine ok_iload (pc := 75) dX12_takesUp_75 rfl ?_
          refine ok_iconst (pc := 77) (v := 2) dX12_takesUp_77 (by decide) ?_
          refine ok_callVi2 (pc := 78) (d' := 0) dX12_takesUp_78 vl_X12_97 hR.o rfl rfl rfl (by decide) ?_
          refine r_letterIs hR i ei 2 rfl (by omega) (by decide) ?_
          refine ok_iadd (pc := 81) dX12_takesUp_81 ?_
          refine ok_istore5 (pc := 82) dX12_takesUp_82 (by decide) rfl ?_
          refine ok_iload (pc := 84) dX12_takesUp_84 rfl ?_
          refine ok_iconst (pc := 86) (v := 1) dX12_takesUp_86 (by decide) ?_
          refine ok_iload (pc := 87) dX12_takesUp_87 rfl ?_
          refine ok_ishl (pc := 89) dX12_takesUp_89 ?_
          refine ok_ior (pc := 90) dX12_takesUp_90 ?_
          refine ok_istore6 (pc := 91) dX12_takesUp_91 (by decide) rfl ?_
          refine ok_aload_n (pc := 93) dX12_takesUp_93 rfl ?_
          refine ok_iload (pc := 94) dX12_takesUp_94 rfl ?_
          refine ok_iload (pc := 96) dX12_takesUp_96 rfl ?_
          refine ok_callVv2 (pc := 98) (d' := 3) dX12_takesUp_98 vl_X12_262 hR.o rfl rfl rfl (by decide) ?_
          obtain ⟨o1, o2⟩ := ho i cq_49
          have har : arF (tkS σ k0 on aim i).1 i = false := by
            unfold arF at o2 ⊢
            rw [t3 i 6 (Nat.le_refl _) (by omega) (by decide)]
            exact o2
          have hA : cA (tkS σ k0 on aim i).1 < 12 := by
            have g1 := t1.1.2.2.2.1.2
            have g2 := arN_lt (σ := (tkS σ k0 on aim i).1) (l := i) (n := cL (tkS σ k0 on aim i).1) (by rw [t2.1]; exact o1) har
            rw [t2.1] at g2
            rw [t2.1] at g1
            omega
          refine r_comesTo hR i ei (by omega) t1.1.2.2.2.1.1 hA t1.2.2.2.2.2.2.2 (fun M rb hR hs => ?_)
          have hs0 := hs0.tr hs
          refine ok_iinc7 (pc := 101) (v := 1) dX12_takesUp_101 (by decide) (by decide) rfl ?_
          refine ok_goto (pc := 104) 32 dX12_takesUp_104 (by decide) ?_
          exact ih (i + 1) _ _ _ _ _ (by omega) (by rw [ei, nI_1]) (by rw [enx, e5]) (by rw [enx]; first | exact e6 | (rw [e6, ei, jshl_1 (by omega), fa_or])) (by rw [enx]; exact hR) hs0

set_option maxHeartbeats 1000000 in
theorem r_takesUp {Γ : Cx} {m sz : Nat} {M0 M : Nat → Option va_E} {σ κ : Rw} {ri : Nat → Int32} {ra : Nat → Nat → Int32} {K : Int32 → Wd → Prop} (hR : RefX Γ m M0 σ κ ri ra M) {kI mI : Int32} (k0 mv : Nat) (ek : kI = nI k0) (em : mI = nI mv) (hk : k0 < cK σ) (hmv : mv < 2 ^ 12) (hak : 0 ≤ kf σ k0 5) (hI : Inv σ) (k : ∀ M' ra', RefX Γ m M0 (tkS σ k0 (exN (lonN σ (kf σ k0 2) (cL σ)) mv) (amF σ k0) (cL σ)).1 κ ri ra' M' → Sc ra ra' → K (nI (tkS σ k0 (exN (lonN σ (kf σ k0 2) (cL σ)) mv) (amF σ k0) (cL σ)).2.2) (M', sz)) : Spec Γ mX12_takesUp 7 0 [.ref m, .int kI, .int mI] (M, sz) (ci K) := by
  obtain ⟨⟨⟨eH, lH⟩, ⟨eK, lK⟩, ⟨eL, lL⟩, -⟩, iK, -⟩ := id hI
  obtain ⟨eak, lak, -⟩ := InvK.aim iK hk hak
  refine spec_in [some (.ref m), some (.int kI), some (.int mI), none, none, none, none, none] 5 (by decide) rfl rfl ?_
  refine ok_aload_n (pc := 0) dX12_takesUp_0 rfl ?_
  refine ok_aload_n (pc := 1) dX12_takesUp_1 rfl ?_
  refine ok_iload_n (pc := 2) dX12_takesUp_2 rfl ?_
  refine ok_iconst (pc := 3) (v := 2) dX12_takesUp_3 (by decide) ?_
  refine ok_callVi2 (pc := 4) (d' := 0) dX12_takesUp_4 vl_X12_117 hR.o rfl rfl rfl (by decide) ?_
  refine r_kiteIs hR k0 ek 2 rfl (by omega) (by decide) ?_
  refine ok_callVi1 (pc := 7) (d' := 1) dX12_takesUp_7 vl_X12_104 hR.o rfl rfl rfl (by decide) ?_
  refine r_lettersOn hR (cL σ) eL lL ?_
  refine ok_iload_n (pc := 10) dX12_takesUp_10 rfl ?_
  refine ok_iconst (pc := 11) (v := -1) dX12_takesUp_11 (by decide) ?_
  refine ok_ixor (pc := 12) dX12_takesUp_12 ?_
  refine ok_iand (pc := 13) dX12_takesUp_13 ?_
  rw [lonF_n σ _ _ (by omega), em, ex_n]
  refine ok_istore_n3 (pc := 14) dX12_takesUp_14 (by decide) rfl ?_
  refine ok_aload_n (pc := 15) dX12_takesUp_15 rfl ?_
  refine ok_iload_n (pc := 16) dX12_takesUp_16 rfl ?_
  refine ok_iconst (pc := 17) (v := 5) dX12_takesUp_17 (by decide) ?_
  refine ok_callVi2 (pc := 18) (d' := 0) dX12_takesUp_18 vl_X12_117 hR.o rfl rfl rfl (by decide) ?_
  refine r_kiteIs hR k0 ek 5 rfl (by omega) (by decide) ?_
  rw [eak]
  refine ok_istore4 (pc := 21) dX12_takesUp_21 (by decide) rfl ?_
  refine ok_iconst (pc := 23) (v := 0) dX12_takesUp_23 (by decide) ?_
  refine ok_istore5 (pc := 24) dX12_takesUp_24 (by decide) rfl ?_
  refine ok_iconst (pc := 26) (v := 0) dX12_takesUp_26 (by decide) ?_
  refine ok_istore6 (pc := 27) dX12_takesUp_27 (by decide) rfl ?_
  refine ok_iconst (pc := 29) (v := 0) dX12_takesUp_29 (by decide) ?_
  refine ok_istore7 (pc := 30) dX12_takesUp_30 (by decide) rfl ?_
  refine l_takesUp (ra0 := ra) k0 (exN (lonN σ (kf σ k0 2) (cL σ)) mv) (amF σ k0) ek hk (Nat.lt_of_le_of_lt ex_le (Nat.lt_of_lt_of_le (lonN_lt σ _ _) (Nat.pow_le_pow_right (by decide) lL))) lak (fun l hl9 => ?_) hI k (cL σ) 0 0 0 0 M ra (by omega) rfl rfl rfl hR Sc.rf
  have hl32 : l < 32 := by
    rcases Nat.lt_or_ge l 32 with g | g
    · exact g
    · have hz := Nat.testBit_lt_two_pow (x := exN (lonN σ (kf σ k0 2) (cL σ)) mv) (i := l) (Nat.lt_of_le_of_lt ex_le (Nat.lt_of_lt_of_le (lonN_lt σ _ _) (Nat.pow_le_pow_right (by decide) (by omega))))
      rw [hz] at hl9
      cases hl9
  rw [ex_bit hl32, Bool.and_eq_true, lonN_bit, Bool.and_eq_true, Bool.and_eq_true] at hl9
  refine ⟨of_decide_eq_true hl9.1.1, ?_⟩
  unfold arF
  exact decide_eq_false (Int32.not_le.mpr (of_decide_eq_true hl9.1.2.2))
