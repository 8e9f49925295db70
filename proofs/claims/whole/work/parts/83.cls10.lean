theorem ex_ex {A U : Nat} (hA : A < 2 ^ 8) (hU : U < 2 ^ 8) (h : ∀ k, U.testBit k = true → A.testBit k = true) : exN A (exN A U) = U := by
  apply Nat.eq_of_testBit_eq
  intro i
  rcases Nat.lt_or_ge i 32 with g | g
  · rw [ex_bit g, ex_bit g]
    cases hu : U.testBit i with
    | true => rw [h i hu]; rfl
    | false => cases A.testBit i <;> rfl
  · have h1 : exN A (exN A U) < 2 ^ 8 := Nat.lt_of_le_of_lt ex_le hA
    have h2 : (2 : Nat) ^ 8 ≤ 2 ^ i := Nat.pow_le_pow_right (by decide) (by omega)
    rw [Nat.testBit_lt_two_pow (Nat.lt_of_lt_of_le h1 h2), Nat.testBit_lt_two_pow (Nat.lt_of_lt_of_le hU h2)]
theorem mask_up {A U : Nat} (hA : A < 2 ^ 8) (hU : U < 2 ^ 8) (h : ∀ k, U.testBit k = true → A.testBit k = true) : nI A &&& ((nI A &&& (nI U ^^^ -1)) ^^^ -1) = nI U := by
  rw [ex_n, ex_n, ex_ex hA hU h]
theorem tk_none {σ : Rw} {k aim : Nat} : ∀ n, tkS σ k 0 aim n = (σ, 0, 0)
  | 0 => rfl
  | n + 1 => by
    have ih := tk_none (σ := σ) (k := k) (aim := aim) n
    show (if (0 : Nat).testBit n && _ then _ else tkS σ k 0 aim n) = _
    rw [Nat.zero_testBit, Bool.false_and, if_neg (by decide), ih]
theorem hr_none {σ : Rw} {up : Nat} (h : ∀ k, up.testBit k = true → lonN σ (kf σ k 2) (cL σ) = 0) : ∀ n, hrS σ up n = (σ, 0)
  | 0 => rfl
  | n + 1 => by
    have ih := hr_none h n
    by_cases hc : up.testBit n = true
    · show (if up.testBit n then _ else _) = _
      rw [if_pos hc, ih]
      have e : tkOn σ n 0 = 0 := by
        unfold tkOn
        rw [h n hc]
        exact Nat.le_zero.mp ex_le
      show ((tkS σ n (tkOn σ n 0) (amF σ n) (cL σ)).1, 0 ||| (tkS σ n (tkOn σ n 0) (amF σ n) (cL σ)).2.2) = _
      rw [e, tk_none]
      show (σ, 0 ||| 0) = (σ, 0)
      rw [Nat.or_zero]
    · show (if up.testBit n then _ else _) = _
      rw [if_neg hc, ih]
theorem hour_none {σ : Rw} (h : ∀ k, (upN σ).testBit k = true → lonN σ (kf σ k 2) (cL σ) = 0) : hourF σ = upd σ 0 (σ 0 + 1) := by
  unfold hourF
  rw [hr_none h]
theorem upN_sub {σ : Rw} : ∀ k, (upN σ).testBit k = true → (hvN σ (cK σ)).testBit k = true :=
  suN_sub 16 _ _ (fun k h => h) (fun k h => by rw [Nat.zero_testBit] at h; cases h)
theorem ahL_no {σ : Rw} {B : Nat} : ∀ n, ahL σ B n = false → ∀ k, k < n → B.testBit k = true → lonN σ (kf σ k 2) (cL σ) = 0
  | 0, _, k, hk, _ => absurd hk (Nat.not_lt_zero _)
  | n + 1, h, k, hk, hb => by
    unfold ahL at h
    rw [Bool.or_eq_false_iff] at h
    rcases Nat.lt_or_ge k n with g | g
    · exact ahL_no n h.1 k g hb
    · have e : k = n := by omega
      subst e
      have h2 := h.2
      rw [hb, Bool.true_and] at h2
      cases hd : decide (lonN σ (kf σ k 2) (cL σ) = 0) with
      | true => exact of_decide_eq_true hd
      | false => rw [hd] at h2; cases h2
theorem ahL_0 {σ : Rw} : ∀ n, ahL σ 0 n = false
  | 0 => rfl
  | n + 1 => by unfold ahL; rw [ahL_0 n, Nat.zero_testBit]; rfl
theorem lon_full {σ : Rw} (lL : cL σ ≤ 12) (h : arN σ (cL σ) = cL σ) (x : Int32) : lonN σ x (cL σ) = 0 := by
  have hlt := lonN_lt σ x (cL σ)
  apply bits_0 hlt
  intro i hi
  rw [lonN_bit]
  have har : arF σ i = true := by
    cases ha : arF σ i with
    | true => rfl
    | false => have := arN_lt hi ha; omega
  unfold arF at har
  rw [decide_eq_false (Int32.not_lt.mpr (of_decide_eq_true har)), Bool.and_false, Bool.and_false]

set_option maxHeartbeats 1000000 in
theorem l_passHour {Γ : Cx} {p e z sz : Nat} {σ : Rw} {K : Wd → Prop} {M0 : Nat → Option va_E} {x1 : Int32} (hI : Inv σ) (hpe : p + 26 ≤ e) (k : ∀ M', PstR Γ p e z (hourF σ) M' → Off p 26 M0 M' → K (M', sz)) : ∀ (n : Nat) (j : Nat) (x3 : Int32) (xi : Int32) (M : Nat → Option va_E), j + n = cK σ → xi = nI j → x3 = nI (hrS σ (upN σ) j).2 → PstR Γ p e z (hrS σ (upN σ) j).1 M → Off p 26 M0 M → Ok Γ mX5_passHour 5 0 50 [some (.ref p), some (.int x1), some (.int (nI (upN σ))), some (.int x3), some (.int xi)] [] (M, sz) (cv K) := by
  obtain ⟨⟨⟨eH, lH⟩, ⟨eK, lK⟩, ⟨eL, lL⟩, ⟨eA, lA⟩, ⟨eT, lT⟩⟩, iK, iH, iW, iL, iO, iB, hT⟩ := id hI
  have hup : upN σ < 2 ^ 8 := suN_lt 16 _ _ (hvN_lt8 lK) (by decide)
  
  intro n
  induction n with
  | zero =>
    intro j x3 xi M h1 ei e3 hP hO
    obtain ⟨t1, t2, t3⟩ := hrS_ok hI (upN_ok hI) j (by omega)
    have eKt := t1.1.2.1.1
    rw [t2.2.2.1] at eKt
    refine ok_iload (pc := 50) dX5_passHour_50 rfl ?_
    refine ok_aload_n (pc := 52) dX5_passHour_52 rfl ?_
    refine ok_getf (pc := 53) dX5_passHour_53 fl_X5_80 hP.o rfl ?_
    refine ok_icmp_ge (pc := 56) 84 dX5_passHour_56 (by decide) (fun cc_56 => ?_) (fun cc_56 => ?_)
    · have ce_56 := Int32.not_lt.mpr cc_56
      have e9 : j = cK σ := by omega
      subst e9
      refine ok_aload_n (pc := 84) dX5_passHour_84 rfl ?_
      refine ok_dup (pc := 85) dX5_passHour_85 rfl ?_
      refine ok_getf (pc := 86) dX5_passHour_86 fl_X5_93 hP.o rfl ?_
      refine ok_iconst (pc := 89) (v := 1) dX5_passHour_89 (by decide) ?_
      refine ok_iadd (pc := 90) dX5_passHour_90 ?_
      refine ok_wtm (pc := 91) dX5_passHour_91 pl_X5_93 hP t1.bd hpe (fun M5 hP hO5 => ?_)
      refine ok_vret (pc := 94) dX5_passHour_94 rfl ?_
      have e0 : (hrS σ (upN σ) (cK σ)).1 0 = σ 0 := t2.2.2.2.2 0 (by omega)
      rw [e0] at hP
      exact k _ hP (hO.trans hO5)
    · exact absurd (by rw [eKt, ei]; exact nI_le (by omega) (by omega)) cc_56
  | succ n ih =>
    intro j x3 xi M h1 ei e3 hP hO
    obtain ⟨t1, t2, t3⟩ := hrS_ok hI (upN_ok hI) j (by omega)
    have eKt := t1.1.2.1.1
    rw [t2.2.2.1] at eKt
    refine ok_iload (pc := 50) dX5_passHour_50 rfl ?_
    refine ok_aload_n (pc := 52) dX5_passHour_52 rfl ?_
    refine ok_getf (pc := 53) dX5_passHour_53 fl_X5_80 hP.o rfl ?_
    refine ok_icmp_ge (pc := 56) 84 dX5_passHour_56 (by decide) (fun cc_56 => ?_) (fun cc_56 => ?_)
    · rw [eKt, ei] at cc_56
      exact absurd cc_56 (nI_ge (by omega) (by omega))
    · have ce_56 := Int32.not_le.mp cc_56
      refine ok_iload_n (pc := 59) dX5_passHour_59 rfl ?_
      refine ok_iload (pc := 60) dX5_passHour_60 rfl ?_
      refine ok_ishr (pc := 62) dX5_passHour_62 ?_
      refine ok_iconst (pc := 63) (v := 1) dX5_passHour_63 (by decide) ?_
      refine ok_iand (pc := 64) dX5_passHour_64 ?_
      refine ok_if_eq (pc := 65) 78 dX5_passHour_65 (by decide) (fun cc_65 => ?_) (fun cc_65 => ?_)
      · rw [ei, hb_ne (by omega) (by omega)] at cc_65
        have enx : hrS σ (upN σ) (j + 1) = (hrS σ (upN σ) j) := if_neg (by rw [cc_65]; decide)
        refine ok_iinc4 (pc := 78) (v := 1) dX5_passHour_78 (by decide) (by decide) rfl ?_
        refine ok_goto (pc := 81) 50 dX5_passHour_81 (by decide) ?_
        exact ih (j + 1) _ _ _ (by omega) (by rw [ei, nI_1]) (by rw [enx]; first | exact e3 | (rw [e3, fa_or])) (by rw [enx]; exact hP) hO
      · rw [ei, hb_ne (by omega) (by omega)] at cc_65
        have hb9 := b_tr cc_65
        refine ok_iload_n (pc := 68) dX5_passHour_68 rfl ?_
        refine ok_aload_n (pc := 69) dX5_passHour_69 rfl ?_
        refine ok_iload (pc := 70) dX5_passHour_70 rfl ?_
        refine ok_iload_n (pc := 72) dX5_passHour_72 rfl ?_
        refine ok_callVi2 (pc := 73) (d' := 4) dX5_passHour_73 vl_X5_253 hP.o rfl rfl rfl (by decide) ?_
        have hak : 0 ≤ kf (hrS σ (upN σ) j).1 j 5 := by rw [t2.kt (by omega) (by decide)]; exact (upN_ok hI j hb9).2
        refine c_takenBy hP t1 hpe j (hrS σ (upN σ) j).2 ei e3 (by rw [t2.2.2.1]; omega) t3 hak (fun M hP hO2 => ?_)
        have hO := hO.trans hO2
        have enx : hrS σ (upN σ) (j + 1) = ((tkS (hrS σ (upN σ) j).1 j (tkOn (hrS σ (upN σ) j).1 j (hrS σ (upN σ) j).2) (amF (hrS σ (upN σ) j).1 j) (cL (hrS σ (upN σ) j).1)).1, (hrS σ (upN σ) j).2 ||| (tkS (hrS σ (upN σ) j).1 j (tkOn (hrS σ (upN σ) j).1 j (hrS σ (upN σ) j).2) (amF (hrS σ (upN σ) j).1 j) (cL (hrS σ (upN σ) j).1)).2.2) := if_pos hb9
        refine ok_ior (pc := 76) dX5_passHour_76 ?_
        refine ok_istore_n3 (pc := 77) dX5_passHour_77 (by decide) rfl ?_
        refine ok_iinc4 (pc := 78) (v := 1) dX5_passHour_78 (by decide) (by decide) rfl ?_
        refine ok_goto (pc := 81) 50 dX5_passHour_81 (by decide) ?_
        exact ih (j + 1) _ _ _ (by omega) (by rw [ei, nI_1]) (by rw [enx]; first | exact e3 | (rw [e3, fa_or])) (by rw [enx]; exact hP) hO

set_option maxHeartbeats 1000000 in
theorem l_ph25 {Γ : Cx} {p e z sz : Nat} {σ : Rw} {M : Nat → Option va_E} {K : Wd → Prop} (hP : PstR Γ p e z σ M) (hI : Inv σ) (hpe : p + 26 ≤ e) (hfull : arN σ (cL σ) = cL σ) (k : ∀ M', PstR Γ p e z (hourF σ) M' → Off p 26 M M' → K (M', sz)) : Ok Γ mX5_passHour 5 0 25 [some (.ref p), none, none, none, none] [] (M, sz) (cv K) := by
  obtain ⟨⟨⟨eH, lH⟩, ⟨eK, lK⟩, ⟨eL, lL⟩, ⟨eA, lA⟩, ⟨eT, lT⟩⟩, iK, iH, iW, iL, iO, iB, hT⟩ := id hI
  have hnoL : ∀ k9, (upN σ).testBit k9 = true → lonN σ (kf σ k9 2) (cL σ) = 0 := fun k9 _ => lon_full lL hfull _
  refine ok_iconst (pc := 25) (v := 0) dX5_passHour_25 (by decide) ?_
  refine ok_istore_n1 (pc := 26) dX5_passHour_26 (by decide) rfl ?_
  refine ok_aload_n (pc := 27) dX5_passHour_27 rfl ?_
  refine ok_iload_n (pc := 28) dX5_passHour_28 rfl ?_
  refine ok_callVi1 (pc := 29) (d' := 4) dX5_passHour_29 vl_X5_247 hP.o rfl rfl rfl (by decide) ?_
  refine c_anyHas hP hI 0 rfl (by decide) ?_
  refine ok_if_eq (pc := 32) 84 dX5_passHour_32 (by decide) (fun cc_32 => ?_) (fun cc_32 => ?_)
  · have cq_32 := bI_0.mp cc_32
    refine ok_aload_n (pc := 84) dX5_passHour_84 rfl ?_
    refine ok_dup (pc := 85) dX5_passHour_85 rfl ?_
    refine ok_getf (pc := 86) dX5_passHour_86 fl_X5_93 hP.o rfl ?_
    refine ok_iconst (pc := 89) (v := 1) dX5_passHour_89 (by decide) ?_
    refine ok_iadd (pc := 90) dX5_passHour_90 ?_
    refine ok_wtm (pc := 91) dX5_passHour_91 pl_X5_93 hP hI.bd hpe (fun M5 hP hO5 => ?_)
    refine ok_vret (pc := 94) dX5_passHour_94 rfl ?_
    have hno : hourF σ = upd σ 0 (σ 0 + 1) := hour_none hnoL
    rw [hno] at k
    exact k _ hP (by first | exact hO.trans hO5 | exact hO5)
  · exact absurd (by rw [ahL_0]; rfl) cc_32

set_option maxHeartbeats 1000000 in
theorem c_passHour {Γ : Cx} {p e z sz : Nat} {σ : Rw} {M : Nat → Option va_E} {K : Wd → Prop} (hP : PstR Γ p e z σ M) (hI : Inv σ) (hpe : p + 26 ≤ e) (k : ∀ M', PstR Γ p e z (hourF σ) M' → Off p 26 M M' → K (M', sz)) : Spec Γ mX5_passHour 5 0 [.ref p] (M, sz) (cv K) := by
  obtain ⟨⟨⟨eH, lH⟩, ⟨eK, lK⟩, ⟨eL, lL⟩, ⟨eA, lA⟩, ⟨eT, lT⟩⟩, iK, iH, iW, iL, iO, iB, hT⟩ := id hI
  
  refine spec_in [some (.ref p), none, none, none, none] 4 (by decide) rfl rfl ?_
  refine ok_aload_n (pc := 0) dX5_passHour_0 rfl ?_
  refine ok_getf (pc := 1) dX5_passHour_1 fl_X5_41 hP.o rfl ?_
  refine ok_getf (pc := 4) dX5_passHour_4 fl_X5_241 hP.ar.1 rfl ?_
  refine ok_aload_n (pc := 7) dX5_passHour_7 rfl ?_
  refine ok_getf (pc := 8) dX5_passHour_8 fl_X5_83 hP.o rfl ?_
  refine ok_icmp_ge (pc := 11) 25 dX5_passHour_11 (by decide) (fun cc_11 => ?_) (fun cc_11 => ?_)
  · have ce_11 := Int32.not_lt.mpr cc_11
    have hfull : arN σ (cL σ) = cL σ := by
      rw [eA, eL] at cc_11
      have h9 := (nI_leI (by omega) (by have := arN_le σ (cL σ); omega)).mp cc_11
      have := arN_le σ (cL σ)
      omega
    exact l_ph25 hP hI hpe hfull k
  · have ce_11 := Int32.not_le.mp cc_11
    refine ok_aload_n (pc := 14) dX5_passHour_14 rfl ?_
    refine ok_aload_n (pc := 15) dX5_passHour_15 rfl ?_
    refine ok_getf (pc := 16) dX5_passHour_16 fl_X5_93 hP.o rfl ?_
    refine ok_callVi1 (pc := 19) (d' := 4) dX5_passHour_19 vl_X5_244 hP.o rfl rfl rfl (by decide) ?_
    refine c_lineBits hP hI hpe rfl (fun M hP hO => ?_)
    rw [hvF_n σ _ (by omega)]
    refine ok_goto (pc := 22) 26 dX5_passHour_22 (by decide) ?_
    refine ok_istore_n1 (pc := 26) dX5_passHour_26 (by decide) rfl ?_
    refine ok_aload_n (pc := 27) dX5_passHour_27 rfl ?_
    refine ok_iload_n (pc := 28) dX5_passHour_28 rfl ?_
    refine ok_callVi1 (pc := 29) (d' := 4) dX5_passHour_29 vl_X5_247 hP.o rfl rfl rfl (by decide) ?_
    refine c_anyHas hP hI (hvN σ (cK σ)) rfl (hvN_lt8 lK) ?_
    refine ok_if_eq (pc := 32) 84 dX5_passHour_32 (by decide) (fun cc_32 => ?_) (fun cc_32 => ?_)
    · have cq_32 := bI_0.mp cc_32
      have hnoL : ∀ k9, (upN σ).testBit k9 = true → lonN σ (kf σ k9 2) (cL σ) = 0 := fun k9 h9 => ahL_no _ cq_32 k9 (upN_ok hI k9 h9).1 (upN_sub k9 h9)
      refine ok_aload_n (pc := 84) dX5_passHour_84 rfl ?_
      refine ok_dup (pc := 85) dX5_passHour_85 rfl ?_
      refine ok_getf (pc := 86) dX5_passHour_86 fl_X5_93 hP.o rfl ?_
      refine ok_iconst (pc := 89) (v := 1) dX5_passHour_89 (by decide) ?_
      refine ok_iadd (pc := 90) dX5_passHour_90 ?_
      refine ok_wtm (pc := 91) dX5_passHour_91 pl_X5_93 hP hI.bd hpe (fun M5 hP hO5 => ?_)
      refine ok_vret (pc := 94) dX5_passHour_94 rfl ?_
      have hno : hourF σ = upd σ 0 (σ 0 + 1) := hour_none hnoL
      rw [hno] at k
      exact k _ hP (by first | exact hO.trans hO5 | exact hO5)
    · have cq_32 := bI_n0.mp cc_32
      refine ok_iload_n (pc := 35) dX5_passHour_35 rfl ?_
      refine ok_aload_n (pc := 36) dX5_passHour_36 rfl ?_
      refine ok_iload_n (pc := 37) dX5_passHour_37 rfl ?_
      refine ok_callVi1 (pc := 38) (d' := 4) dX5_passHour_38 vl_X5_250 hP.o rfl rfl rfl (by decide) ?_
      refine c_downBits hP hI (hvN σ (cK σ)) rfl (hvN_lt8 lK) hvN_aim ?_
      refine ok_iconst (pc := 41) (v := -1) dX5_passHour_41 (by decide) ?_
      refine ok_ixor (pc := 42) dX5_passHour_42 ?_
      refine ok_iand (pc := 43) dX5_passHour_43 ?_
      have hsu : suN σ 8 (hvN σ (cK σ)) 0 = upN σ := suN_more 8 16 _ _ (bc8 (hvN_lt8 lK)) (Nat.le_trans (bc8 (hvN_lt8 lK)) (by decide)) (hvN_lt8 lK) (fun k9 h9 => (hvN_aim k9 h9).1)
      rw [hsu, mask_up (U := upN σ) (hvN_lt8 lK) (show upN σ < 2 ^ 8 from suN_lt 16 _ _ (hvN_lt8 lK) (by decide)) upN_sub]
      refine ok_istore_n2 (pc := 44) dX5_passHour_44 (by decide) rfl ?_
      refine ok_iconst (pc := 45) (v := 0) dX5_passHour_45 (by decide) ?_
      refine ok_istore_n3 (pc := 46) dX5_passHour_46 (by decide) rfl ?_
      refine ok_iconst (pc := 47) (v := 0) dX5_passHour_47 (by decide) ?_
      refine ok_istore4 (pc := 48) dX5_passHour_48 (by decide) rfl ?_
      exact l_passHour hI hpe k (cK σ) 0 _ _ _ (by omega) rfl rfl hP hO

set_option maxHeartbeats 1000000 in
theorem l_passHours {Γ : Cx} {p e z sz : Nat} {σ : Rw} {K : Wd → Prop} {M0 : Nat → Option va_E} {xn : Int32} (n0 : Nat) (en : xn = nI n0) (hn : n0 ≤ 72) (ht : cT σ ≤ 10000) (hI : Inv σ) (hpe : p + 26 ≤ e) (k : ∀ M', PstR Γ p e z (hrsF σ n0) M' → Off p 26 M0 M' → K (M', sz)) : ∀ (n : Nat) (j : Nat) (xi : Int32) (M : Nat → Option va_E), j + n = n0 → xi = nI j → PstR Γ p e z (hrsF σ j) M → Off p 26 M0 M → Ok Γ mX5_passHours 6 0 2 [some (.ref p), some (.int xn), some (.int xi)] [] (M, sz) (cv K) := by
  intro n
  induction n with
  | zero =>
    intro j xi M h1 ei hP hO
    refine ok_iload_n (pc := 2) dX5_passHours_2 rfl ?_
    refine ok_iload_n (pc := 3) dX5_passHours_3 rfl ?_
    refine ok_icmp_ge (pc := 4) 17 dX5_passHours_4 (by decide) (fun cc_4 => ?_) (fun cc_4 => ?_)
    · have ce_4 := Int32.not_lt.mpr cc_4
      have e9 : j = n0 := by omega
      subst e9
      refine ok_vret (pc := 17) dX5_passHours_17 rfl ?_
      exact k _ hP hO
    · exact absurd (by rw [en, ei]; exact nI_le (by omega) (by omega)) cc_4
  | succ n ih =>
    intro j xi M h1 ei hP hO
    refine ok_iload_n (pc := 2) dX5_passHours_2 rfl ?_
    refine ok_iload_n (pc := 3) dX5_passHours_3 rfl ?_
    refine ok_icmp_ge (pc := 4) 17 dX5_passHours_4 (by decide) (fun cc_4 => ?_) (fun cc_4 => ?_)
    · rw [en, ei] at cc_4
      exact absurd cc_4 (nI_ge (by omega) (by omega))
    · have ce_4 := Int32.not_le.mp cc_4
      refine ok_aload_n (pc := 7) dX5_passHours_7 rfl ?_
      refine ok_callVv0 (pc := 8) (d' := 5) dX5_passHours_8 vl_X5_237 hP.o rfl rfl rfl (by decide) ?_
      obtain ⟨t1, t2, t3, t4, t5, t6⟩ := hrs_ok hI j (by omega)
      refine c_passHour hP t1 hpe (fun M hP hO2 => ?_)
      have hO := hO.trans hO2
      refine ok_iinc2 (pc := 11) (v := 1) dX5_passHours_11 (by decide) (by decide) rfl ?_
      refine ok_goto (pc := 14) 2 dX5_passHours_14 (by decide) ?_
      exact ih (j + 1) _ _ (by omega) (by rw [ei, nI_1]) hP hO

set_option maxHeartbeats 1000000 in
theorem c_passHours {Γ : Cx} {p e z sz : Nat} {σ : Rw} {M : Nat → Option va_E} {K : Wd → Prop} (hP : PstR Γ p e z σ M) (hI : Inv σ) (hpe : p + 26 ≤ e) {xn : Int32} (n0 : Nat) (en : xn = nI n0) (hn : n0 ≤ 72) (ht : cT σ ≤ 10000) (k : ∀ M', PstR Γ p e z (hrsF σ n0) M' → Off p 26 M M' → K (M', sz)) : Spec Γ mX5_passHours 6 0 [.ref p, .int xn] (M, sz) (cv K) := by
  refine spec_in [some (.ref p), some (.int xn), none] 1 (by decide) rfl rfl ?_
  refine ok_iconst (pc := 0) (v := 0) dX5_passHours_0 (by decide) ?_
  refine ok_istore_n2 (pc := 1) dX5_passHours_1 (by decide) rfl ?_
  exact l_passHours n0 en hn ht hI hpe k n0 0 _ M (by omega) rfl hP Off.rfl'

set_option maxHeartbeats 1000000 in
theorem l_firstBefore {Γ : Cx} {p e z sz : Nat} {σ : Rw} {M : Nat → Option va_E} {K : Int32 → Wd → Prop} (hP : PstR Γ p e z σ M) (hI : Inv σ) (A0 : Option Nat) (k : K (oI A0) (M, sz)) : ∀ (n : Nat) (j : Nat) (s : Nat) (xi : Int32), j + n = cA σ → xi = nI j → s < 2 ^ 12 → bfA σ n j s = A0 → Ok Γ mX5_firstBeforeQuestion 2 0 4 [some (.ref p), some (.int (nI s)), some (.int xi), none, none] [] (M, sz) (ci K) := by
  obtain ⟨⟨⟨eH, lH⟩, ⟨eK, lK⟩, ⟨eL, lL⟩, ⟨eA, lA⟩, ⟨eT, lT⟩⟩, iK, iH, iW, iL, iO, iB, hT⟩ := id hI
  have lAL : cA σ ≤ cL σ := by rw [lA]; exact arN_le σ _
  
  intro n
  induction n with
  | zero =>
    intro j s xi h1 ei hs hA0
    refine ok_iload_n (pc := 4) dX5_firstBeforeQuestion_4 rfl ?_
    refine ok_aload_n (pc := 5) dX5_firstBeforeQuestion_5 rfl ?_
    refine ok_getf (pc := 6) dX5_firstBeforeQuestion_6 fl_X5_41 hP.o rfl ?_
    refine ok_getf (pc := 9) dX5_firstBeforeQuestion_9 fl_X5_241 hP.ar.1 rfl ?_
    refine ok_icmp_ge (pc := 12) 60 dX5_firstBeforeQuestion_12 (by decide) (fun cc_12 => ?_) (fun cc_12 => ?_)
    · have ce_12 := Int32.not_lt.mpr cc_12
      have hA1 : none = A0 := hA0
      subst hA1
      refine ok_iconst (pc := 60) (v := -1) dX5_firstBeforeQuestion_60 (by decide) ?_
      refine ok_iret (pc := 61) dX5_firstBeforeQuestion_61 rfl ?_
      exact k
    · exact absurd (by rw [eA, ei]; exact nI_le (by omega) (by omega)) cc_12
  | succ n ih =>
    intro j s xi h1 ei hs hA0
    refine ok_iload_n (pc := 4) dX5_firstBeforeQuestion_4 rfl ?_
    refine ok_aload_n (pc := 5) dX5_firstBeforeQuestion_5 rfl ?_
    refine ok_getf (pc := 6) dX5_firstBeforeQuestion_6 fl_X5_41 hP.o rfl ?_
    refine ok_getf (pc := 9) dX5_firstBeforeQuestion_9 fl_X5_241 hP.ar.1 rfl ?_
    refine ok_icmp_ge (pc := 12) 60 dX5_firstBeforeQuestion_12 (by decide) (fun cc_12 => ?_) (fun cc_12 => ?_)
    · rw [eA, ei] at cc_12
      exact absurd cc_12 (nI_ge (by omega) (by omega))
    · have ce_12 := Int32.not_le.mp cc_12
      refine ok_aload_n (pc := 15) dX5_firstBeforeQuestion_15 rfl ?_
      refine ok_getf (pc := 16) dX5_firstBeforeQuestion_16 fl_X5_41 hP.o rfl ?_
      refine ok_iload_n (pc := 19) dX5_firstBeforeQuestion_19 rfl ?_
      refine ok_callVi1 (pc := 20) (d' := 0) dX5_firstBeforeQuestion_20 vl_X5_272 hP.ar.1 rfl rfl rfl (by decide) ?_
      obtain ⟨-, fa, fa1, fa2⟩ := id hP.ar
      refine c_get hP.ar.1 fa1 (cA σ) eA (by omega) (by decide) j ei (by omega) ?_
      obtain ⟨eor, lor⟩ := iO j (by omega)
      have e9 : fa j = nI (orF σ j) := (fa2 j (by show j < cA σ; omega)).trans eor
      rw [e9]
      refine ok_istore_n3 (pc := 23) dX5_firstBeforeQuestion_23 (by decide) rfl ?_
      refine ok_aload_n (pc := 24) dX5_firstBeforeQuestion_24 rfl ?_
      refine ok_iload_n (pc := 25) dX5_firstBeforeQuestion_25 rfl ?_
      refine ok_iconst (pc := 26) (v := 3) dX5_firstBeforeQuestion_26 (by decide) ?_
      refine ok_callVi2 (pc := 27) (d' := 1) dX5_firstBeforeQuestion_27 vl_X5_231 hP.o rfl rfl rfl (by decide) ?_
      refine c_ofOne hP eL lL (orF σ j) 3 rfl rfl lor (by decide) ?_
      refine ok_istore4 (pc := 30) dX5_firstBeforeQuestion_30 (by decide) rfl ?_
      refine ok_iload (pc := 32) dX5_firstBeforeQuestion_32 rfl ?_
      refine ok_if_lt (pc := 34) 48 dX5_firstBeforeQuestion_34 (by decide) (fun cc_34 => ?_) (fun cc_34 => ?_)
      · have ce_34 := Int32.not_le.mpr cc_34
        have hA1 : bfA σ n (j + 1) (s ||| 2 ^ orF σ j) = A0 := by rw [← hA0]; exact (if_neg (by rw [decide_eq_false (Int32.not_le.mpr cc_34), Bool.false_and]; decide)).symm
        refine ok_iload_n (pc := 48) dX5_firstBeforeQuestion_48 rfl ?_
        refine ok_iconst (pc := 49) (v := 1) dX5_firstBeforeQuestion_49 (by decide) ?_
        refine ok_iload_n (pc := 50) dX5_firstBeforeQuestion_50 rfl ?_
        refine ok_ishl (pc := 51) dX5_firstBeforeQuestion_51 ?_
        refine ok_ior (pc := 52) dX5_firstBeforeQuestion_52 ?_
        refine ok_istore_n1 (pc := 53) dX5_firstBeforeQuestion_53 (by decide) rfl ?_
        refine ok_iinc2 (pc := 54) (v := 1) dX5_firstBeforeQuestion_54 (by decide) (by decide) rfl ?_
        refine ok_goto (pc := 57) 4 dX5_firstBeforeQuestion_57 (by decide) ?_
        rw [jshl_1 (by omega), fa_or]
        refine ok_drop3 ?_
        refine ok_drop4 ?_
        exact ih (j + 1) _ _ (by omega) (by rw [ei, nI_1]) (or_lt hs (pw_lt (by omega))) hA1
      · have ce_34 := Int32.not_lt.mp cc_34
        obtain ⟨ean, lan⟩ := InvL.an iL lor (Int32.not_lt.mp cc_34)
        refine ok_iload_n (pc := 37) dX5_firstBeforeQuestion_37 rfl ?_
        refine ok_iload (pc := 38) dX5_firstBeforeQuestion_38 rfl ?_
        refine ok_ishr (pc := 40) dX5_firstBeforeQuestion_40 ?_
        refine ok_iconst (pc := 41) (v := 1) dX5_firstBeforeQuestion_41 (by decide) ?_
        refine ok_iand (pc := 42) dX5_firstBeforeQuestion_42 ?_
        refine ok_if_ne (pc := 43) 48 dX5_firstBeforeQuestion_43 (by decide) (fun cc_43 => ?_) (fun cc_43 => ?_)
        · rw [ean, hb_ne (by omega) (by omega)] at cc_43
          have hA1 : bfA σ n (j + 1) (s ||| 2 ^ orF σ j) = A0 := by rw [← hA0]; exact (if_neg (by rw [b_tr cc_43]; simp)).symm
          refine ok_iload_n (pc := 48) dX5_firstBeforeQuestion_48 rfl ?_
          refine ok_iconst (pc := 49) (v := 1) dX5_firstBeforeQuestion_49 (by decide) ?_
          refine ok_iload_n (pc := 50) dX5_firstBeforeQuestion_50 rfl ?_
          refine ok_ishl (pc := 51) dX5_firstBeforeQuestion_51 ?_
          refine ok_ior (pc := 52) dX5_firstBeforeQuestion_52 ?_
          refine ok_istore_n1 (pc := 53) dX5_firstBeforeQuestion_53 (by decide) rfl ?_
          refine ok_iinc2 (pc := 54) (v := 1) dX5_firstBeforeQuestion_54 (by decide) (by decide) rfl ?_
          refine ok_goto (pc := 57) 4 dX5_firstBeforeQuestion_57 (by decide) ?_
          rw [jshl_1 (by omega), fa_or]
          refine ok_drop3 ?_
          refine ok_drop4 ?_
          exact ih (j + 1) _ _ (by omega) (by rw [ei, nI_1]) (or_lt hs (pw_lt (by omega))) hA1
        · rw [ean, hb_ne (by omega) (by omega)] at cc_43
          have hA1 : some (orF σ j) = A0 := by rw [← hA0]; exact (if_pos (by rw [cc_43, decide_eq_true (Int32.not_lt.mp cc_34)]; rfl)).symm
          subst hA1
          refine ok_iload_n (pc := 46) dX5_firstBeforeQuestion_46 rfl ?_
          refine ok_iret (pc := 47) dX5_firstBeforeQuestion_47 rfl ?_
          exact k

set_option maxHeartbeats 1000000 in
theorem c_firstBefore {Γ : Cx} {p e z sz : Nat} {σ : Rw} {M : Nat → Option va_E} {K : Int32 → Wd → Prop} (hP : PstR Γ p e z σ M) (hI : Inv σ) (k : K (oI (bfA σ (cA σ) 0 0)) (M, sz)) : Spec Γ mX5_firstBeforeQuestion 2 0 [.ref p] (M, sz) (ci K) := by
  refine spec_in [some (.ref p), none, none, none, none] 4 (by decide) rfl rfl ?_
  refine ok_iconst (pc := 0) (v := 0) dX5_firstBeforeQuestion_0 (by decide) ?_
  refine ok_istore_n1 (pc := 1) dX5_firstBeforeQuestion_1 (by decide) rfl ?_
  refine ok_iconst (pc := 2) (v := 0) dX5_firstBeforeQuestion_2 (by decide) ?_
  refine ok_istore_n2 (pc := 3) dX5_firstBeforeQuestion_3 (by decide) rfl ?_
  exact l_firstBefore hP hI _ k (cA σ) 0 0 _ (by omega) rfl (by decide) rfl
