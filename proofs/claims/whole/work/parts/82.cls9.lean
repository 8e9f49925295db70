set_option maxHeartbeats 1000000 in
theorem c_bring {Γ : Cx} {p e z sz : Nat} {σ : Rw} {M : Nat → Option va_E} {K : Wd → Prop} (hP : PstR Γ p e z σ M) (hB : Bd σ) (hpe : p + 26 ≤ e) (eL : σ 3 = nI (cL σ)) (lL : cL σ ≤ 12) (eA : σ 4 = nI (cA σ)) (lA : cA σ < 12) {x y : Int32} (l : Nat) (ex : x = nI l) (hl : l < cL σ) (k : ∀ M', PstR Γ p e z (comF σ l y) M' → Off p 26 M M' → K (M', sz)) : Spec Γ mX5_bring 2 0 [.ref p, .int x, .int y] (M, sz) (cv K) := by
  have hB1 : Bd (upd σ (99 + 7 * l + 5) y) := hB.up (fun j hj => upd_ne (by omega))
  have eL1 : (upd σ (99 + 7 * l + 5) y) 3 = nI (cL (upd σ (99 + 7 * l + 5) y)) := by unfold cL; rw [upd_ne (by omega)]; exact eL
  have ecL1 : cL (upd σ (99 + 7 * l + 5) y) = cL σ := by unfold cL; rw [upd_ne (by omega)]
  have hB2 : Bd (upd (upd σ (99 + 7 * l + 5) y) (99 + 7 * l + 6) (σ 0 + 1)) := hB1.up (fun j hj => upd_ne (by omega))
  have ecL2 : cL (upd (upd σ (99 + 7 * l + 5) y) (99 + 7 * l + 6) (σ 0 + 1)) = cL σ := by unfold cL; rw [upd_ne (by omega), upd_ne (by omega)]
  have eL2 : (upd (upd σ (99 + 7 * l + 5) y) (99 + 7 * l + 6) (σ 0 + 1)) 3 = nI (cL (upd (upd σ (99 + 7 * l + 5) y) (99 + 7 * l + 6) (σ 0 + 1))) := by rw [ecL2, upd_ne (by omega), upd_ne (by omega)]; exact eL
  have e42 : (upd (upd σ (99 + 7 * l + 5) y) (99 + 7 * l + 6) (σ 0 + 1)) 4 = nI (cA σ) := by rw [upd_ne (by omega), upd_ne (by omega)]; exact eA
  have ecL3 : cL (upd (upd (upd (upd σ (99 + 7 * l + 5) y) (99 + 7 * l + 6) (σ 0 + 1)) (183 + cA σ) x) 4 (nI (cA σ + 1))) = cL σ := by unfold cL; rw [upd_ne (by omega), upd_ne (by omega), upd_ne (by omega), upd_ne (by omega)]
  have eL3 : (upd (upd (upd (upd σ (99 + 7 * l + 5) y) (99 + 7 * l + 6) (σ 0 + 1)) (183 + cA σ) x) 4 (nI (cA σ + 1))) 3 = nI (cL (upd (upd (upd (upd σ (99 + 7 * l + 5) y) (99 + 7 * l + 6) (σ 0 + 1)) (183 + cA σ) x) 4 (nI (cA σ + 1)))) := by rw [ecL3, upd_ne (by omega), upd_ne (by omega), upd_ne (by omega), upd_ne (by omega)]; exact eL
  have hsm : ∀ j, 265 ≤ j → (upd (upd (upd (upd σ (99 + 7 * l + 5) y) (99 + 7 * l + 6) (σ 0 + 1)) (183 + cA σ) x) 4 (nI (cA σ + 1))) j = σ j := fun j hj => by rw [upd_ne (by omega), upd_ne (by omega), upd_ne (by omega), upd_ne (by omega)]
  have hB3 : Bd (upd (upd (upd (upd σ (99 + 7 * l + 5) y) (99 + 7 * l + 6) (σ 0 + 1)) (183 + cA σ) x) 4 (nI (cA σ + 1))) := by
    obtain ⟨c1, c2, c3, c4, c5, c6⟩ := hB
    refine ⟨?_, ?_, ?_, ?_, TxOk_same hsm c5, TxOk_same hsm c6⟩
    · unfold cK; rw [upd_ne (by omega), upd_ne (by omega), upd_ne (by omega), upd_ne (by omega)]; exact c1
    · rw [upd_at]; have e9 : iN (nI (cA σ + 1)) = cA σ + 1 := nI_clamp (by omega); omega
    · rw [upd_ne (by omega), upd_ne (by omega), upd_ne (by omega), upd_ne (by omega)]; exact c3
    · rw [upd_ne (by omega), upd_ne (by omega), upd_ne (by omega), upd_ne (by omega)]; exact c4
  have l41 : lf (upd σ (99 + 7 * l + 5) y) l 1 = lf σ l 1 := by unfold lf; rw [upd_ne (by omega)]
  have l43 : lf (upd (upd (upd (upd σ (99 + 7 * l + 5) y) (99 + 7 * l + 6) (σ 0 + 1)) (183 + cA σ) x) 4 (nI (cA σ + 1))) l 4 = lf σ l 4 := by unfold lf; rw [upd_ne (by omega), upd_ne (by omega), upd_ne (by omega), upd_ne (by omega)]
  have l23 : lf (upd (upd (upd (upd σ (99 + 7 * l + 5) y) (99 + 7 * l + 6) (σ 0 + 1)) (183 + cA σ) x) 4 (nI (cA σ + 1))) l 2 = lf σ l 2 := by unfold lf; rw [upd_ne (by omega), upd_ne (by omega), upd_ne (by omega), upd_ne (by omega)]
  have e01 : (upd σ (99 + 7 * l + 5) y) 0 = σ 0 := upd_ne (by omega)
  have e53 : (upd (upd (upd (upd σ (99 + 7 * l + 5) y) (99 + 7 * l + 6) (σ 0 + 1)) (183 + cA σ) x) 4 (nI (cA σ + 1))) 5 = σ 5 := by rw [upd_ne (by omega), upd_ne (by omega), upd_ne (by omega), upd_ne (by omega)]
  refine spec_in [some (.ref p), some (.int x), some (.int y), none, none, none] 3 (by decide) rfl rfl ?_
  refine ok_aload_n (pc := 0) dX5_bring_0 rfl ?_
  refine ok_iload_n (pc := 1) dX5_bring_1 rfl ?_
  refine ok_iconst (pc := 2) (v := 5) dX5_bring_2 (by decide) ?_
  refine ok_iload_n (pc := 3) dX5_bring_3 rfl ?_
  refine ok_callVv3 (pc := 4) (d' := 1) dX5_bring_4 vl_X5_227 hP.o rfl rfl rfl (by decide) ?_
  refine c_change hP hB hpe eL lL l 5 ex rfl hl (by decide) (fun M1 hP hO1 => ?_)
  refine ok_aload_n (pc := 7) dX5_bring_7 rfl ?_
  refine ok_iload_n (pc := 8) dX5_bring_8 rfl ?_
  refine ok_iconst (pc := 9) (v := 1) dX5_bring_9 (by decide) ?_
  refine ok_callVi2 (pc := 10) (d' := 1) dX5_bring_10 vl_X5_231 hP.o rfl rfl rfl (by decide) ?_
  refine c_ofOne hP eL1 (by omega) l 1 ex rfl (by omega) (by decide) ?_
  rw [l41]
  refine ok_iload_n (pc := 13) dX5_bring_13 rfl ?_
  refine ok_icmp_ne (pc := 14) 87 dX5_bring_14 (by decide) (fun cc_14 => ?_) (fun cc_14 => ?_)
  · have eo : comF σ l y = upd σ (99 + 7 * l + 5) y := by unfold comF; exact if_neg (fun h9 => cc_14 h9.symm)
    rw [eo] at k
    refine ok_vret (pc := 87) dX5_bring_87 rfl ?_
    first
      | exact k _ hP (((hO1.trans hO2).trans hO3).trans (hO4.trans hO5))
      | exact k _ hP hO1
  · have eo : comF σ l y = upd (upd (upd (upd (upd σ (99 + 7 * l + 5) y) (99 + 7 * l + 6) (σ 0 + 1)) (183 + cA σ) (nI l)) 4 (σ 4 + 1)) 5 (jmin 999999 (σ 5 + givF σ 1 (σ 0 + 1 - lf σ l 4) (lf σ l 2) 0 0)) := by unfold comF; exact if_pos cc_14.symm
    rw [eo, ← ex, nI_suc_cnt eA] at k
    refine ok_aload_n (pc := 17) dX5_bring_17 rfl ?_
    refine ok_getf (pc := 18) dX5_bring_18 fl_X5_93 hP.o rfl ?_
    refine ok_iconst (pc := 21) (v := 1) dX5_bring_21 (by decide) ?_
    refine ok_iadd (pc := 22) dX5_bring_22 ?_
    refine ok_istore_n3 (pc := 23) dX5_bring_23 (by decide) rfl ?_
    refine ok_aload_n (pc := 24) dX5_bring_24 rfl ?_
    refine ok_iload_n (pc := 25) dX5_bring_25 rfl ?_
    refine ok_bipush (pc := 26) (v := 6) dX5_bring_26 (by decide) ?_
    refine ok_iload_n (pc := 28) dX5_bring_28 rfl ?_
    refine ok_callVv3 (pc := 29) (d' := 1) dX5_bring_29 vl_X5_227 hP.o rfl rfl rfl (by decide) ?_
    rw [e01]
    refine c_change hP hB1 hpe eL1 (by omega) l 6 ex rfl (by omega) (by decide) (fun M2 hP hO2 => ?_)
    refine ok_aload_n (pc := 32) dX5_bring_32 rfl ?_
    refine ok_getf (pc := 33) dX5_bring_33 fl_X5_41 hP.o rfl ?_
    refine ok_iload_n (pc := 36) dX5_bring_36 rfl ?_
    refine ok_callVi1 (pc := 37) (d' := 0) dX5_bring_37 vl_X5_262 hP.ar.1 rfl rfl rfl (by decide) ?_
    obtain ⟨-, fa, fa1, fa2⟩ := id hP.ar
    refine c_add hP.ar.1 fa1 (by omega) (cA σ) e42 lA (by decide) ?_
    obtain ⟨hP, hO3⟩ := pst_add_ar hP hB2 hpe fa1 fa2 x (cA σ) e42 lA
    refine ok_pop (pc := 40) dX5_bring_40 rfl ?_
    refine ok_iload_n (pc := 41) dX5_bring_41 rfl ?_
    refine ok_aload_n (pc := 42) dX5_bring_42 rfl ?_
    refine ok_iload_n (pc := 43) dX5_bring_43 rfl ?_
    refine ok_iconst (pc := 44) (v := 4) dX5_bring_44 (by decide) ?_
    refine ok_callVi2 (pc := 45) (d' := 1) dX5_bring_45 vl_X5_231 hP.o rfl rfl rfl (by decide) ?_
    refine c_ofOne hP eL3 (by omega) l 4 ex rfl (by omega) (by decide) ?_
    rw [l43]
    refine ok_isub (pc := 48) dX5_bring_48 ?_
    refine ok_istore4 (pc := 49) dX5_bring_49 (by decide) rfl ?_
    obtain ⟨⟨tp9, pl9, fa9, a1⟩, -⟩ := id hP.pa
    refine ok_aload_n (pc := 51) dX5_bring_51 rfl ?_
    refine ok_getf (pc := 52) dX5_bring_52 fl_X5_58 hP.o rfl ?_
    refine ok_iload (pc := 55) dX5_bring_55 rfl ?_
    refine ok_aload_n (pc := 57) dX5_bring_57 rfl ?_
    refine ok_iload_n (pc := 58) dX5_bring_58 rfl ?_
    refine ok_iconst (pc := 59) (v := 2) dX5_bring_59 (by decide) ?_
    refine ok_callVi2 (pc := 60) (d' := 1) dX5_bring_60 vl_X5_231 hP.o rfl rfl rfl (by decide) ?_
    refine c_ofOne hP eL3 (by omega) l 2 ex rfl (by omega) (by decide) ?_
    rw [l23]
    refine ok_iconst (pc := 63) (v := 0) dX5_bring_63 (by decide) ?_
    refine ok_iconst (pc := 64) (v := 0) dX5_bring_64 (by decide) ?_
    refine ok_callVi4 (pc := 65) (d' := 1) dX5_bring_65 vl_X5_177 a1 rfl rfl rfl (by decide) ?_
    refine c_givenBy hP.pa (by decide) hB3.2.2.2.2.2 (fun M4 hT9 hO9 => ?_)
    have hP4 := hP.tx (fun q9 hq9 => hO9 q9 (by omega)) hpe hB3.1 (hP.li.same (fun q9 g1 g2 => hO9 q9 (by omega))) hT9
    have hO4 := hO9.sub (a := p) (n := 26) (by omega) (by omega)
    rw [givF_same hsm]
    refine ok_istore5 (pc := 68) dX5_bring_68 (by decide) rfl ?_
    have hP := hP4
    refine ok_aload_n (pc := 70) dX5_bring_70 rfl ?_
    refine ok_ldcw (pc := 71) (v := 999999) dX5_bring_71 tw_854 ?_
    refine ok_aload_n (pc := 74) dX5_bring_74 rfl ?_
    refine ok_getf (pc := 75) dX5_bring_75 fl_X5_96 hP.o rfl ?_
    refine ok_iload (pc := 78) dX5_bring_78 rfl ?_
    rw [e53]
    refine ok_iadd (pc := 80) dX5_bring_80 ?_
    refine ok_mmin (pc := 81) dX5_bring_81 tw_855 rfl (by decide) ?_
    refine ok_wpd (pc := 84) dX5_bring_84 pl_X5_96 hP hB3 hpe (fun M5 hP hO5 => ?_)
    refine ok_vret (pc := 87) dX5_bring_87 rfl ?_
    first
      | exact k _ hP (((hO1.trans hO2).trans hO3).trans (hO4.trans hO5))
      | exact k _ hP hO1

theorem b_tr {b : Bool} (h : ¬ b = false) : b = true := by cases b; exact absurd rfl h; rfl
theorem KtQ.cg {e z : Nat} {σ τ : Rw} {k q : Nat} {M : Nat → Option va_E} (h : KtQ e z σ k q M) (h1 : ∀ fl, fl < 5 → kf τ k fl = kf σ k fl) : KtQ e z τ k q M := by
  refine ⟨h.1, ?_⟩
  rw [h.2]
  unfold kfs
  rw [h1 0 (by decide), h1 1 (by decide), h1 2 (by decide), h1 3 (by decide), h1 4 (by decide)]

set_option maxHeartbeats 1000000 in
theorem l_takenBy {Γ : Cx} {p e z sz : Nat} {σ : Rw} {K : Int32 → Wd → Prop} {M0 : Nat → Option va_E} {xk : Int32} {q : Nat} (hI : Inv σ) (hpe : p + 26 ≤ e) (k0 mv on aim : Nat) (hk : k0 < cK σ) (ha : aim < cH σ) (hK0 : KtQ e z σ k0 q M0) (hon : on = tkOn σ k0 mv) (hmv : mv < 2 ^ 12) (k : ∀ M', PstR Γ p e z (tkS σ k0 on aim (cL σ)).1 M' → Off p 26 M0 M' → K (nI (tkS σ k0 on aim (cL σ)).2.2) (M', sz)) : ∀ (n : Nat) (j : Nat) (x5 : Int32) (x6 : Int32) (xi : Int32) (M : Nat → Option va_E), j + n = cL σ → xi = nI j → x5 = nI (tkS σ k0 on aim j).2.2 → x6 = (tkS σ k0 on aim j).2.1 → PstR Γ p e z (tkS σ k0 on aim j).1 M → Off p 26 M0 M → Ok Γ mX5_takenBy 4 0 22 [some (.ref p), some (.int xk), some (.int (nI mv)), some (.ref q), some (.int (nI aim)), some (.int x5), some (.int x6), some (.int xi), none] [] (M, sz) (ci K) := by
  obtain ⟨⟨⟨eH, lH⟩, ⟨eK, lK⟩, ⟨eL, lL⟩, ⟨eA, lA⟩, ⟨eT, lT⟩⟩, iK, iH, iW, iL, iO, iB, hT⟩ := id hI
  have ho : ∀ l, on.testBit l = true → l < cL σ ∧ arF σ l = false := by rw [hon]; exact tkOn_ok lL
  
  intro n
  induction n with
  | zero =>
    intro j x5 x6 xi M h1 ei e5 e6 hP hO
    obtain ⟨t1, t2, t3, t4⟩ := tkS_ok (k := k0) hI ha ho j (by omega)
    have eLt := t1.1.2.2.1.1
    rw [t2.1] at eLt
    have hK : KtQ e z (tkS σ k0 on aim j).1 k0 q M := (hK0.off hO hpe).cg (fun fl hf => t2.kt (by omega) (by omega))
    have ehm : kf (tkS σ k0 on aim j).1 k0 2 = kf σ k0 2 := t2.kt (by omega) (by decide)
    refine ok_iload (pc := 22) dX5_takenBy_22 rfl ?_
    refine ok_aload_n (pc := 24) dX5_takenBy_24 rfl ?_
    refine ok_getf (pc := 25) dX5_takenBy_25 fl_X5_83 hP.o rfl ?_
    refine ok_icmp_ge (pc := 28) 115 dX5_takenBy_28 (by decide) (fun cc_28 => ?_) (fun cc_28 => ?_)
    · have ce_28 := Int32.not_lt.mpr cc_28
      have e9 : j = cL σ := by omega
      subst e9
      rw [e5]
      refine ok_iload (pc := 115) dX5_takenBy_115 rfl ?_
      refine ok_iret (pc := 117) dX5_takenBy_117 rfl ?_
      exact k _ hP hO
    · exact absurd (by rw [eLt, ei]; exact nI_le (by omega) (by omega)) cc_28
  | succ n ih =>
    intro j x5 x6 xi M h1 ei e5 e6 hP hO
    obtain ⟨t1, t2, t3, t4⟩ := tkS_ok (k := k0) hI ha ho j (by omega)
    have eLt := t1.1.2.2.1.1
    rw [t2.1] at eLt
    have hK : KtQ e z (tkS σ k0 on aim j).1 k0 q M := (hK0.off hO hpe).cg (fun fl hf => t2.kt (by omega) (by omega))
    have ehm : kf (tkS σ k0 on aim j).1 k0 2 = kf σ k0 2 := t2.kt (by omega) (by decide)
    refine ok_iload (pc := 22) dX5_takenBy_22 rfl ?_
    refine ok_aload_n (pc := 24) dX5_takenBy_24 rfl ?_
    refine ok_getf (pc := 25) dX5_takenBy_25 fl_X5_83 hP.o rfl ?_
    refine ok_icmp_ge (pc := 28) 115 dX5_takenBy_28 (by decide) (fun cc_28 => ?_) (fun cc_28 => ?_)
    · rw [eLt, ei] at cc_28
      exact absurd cc_28 (nI_ge (by omega) (by omega))
    · have ce_28 := Int32.not_le.mp cc_28
      refine ok_aload_n (pc := 31) dX5_takenBy_31 rfl ?_
      refine ok_ifnull (pc := 32) dX5_takenBy_32 ?_
      refine ok_iload_n (pc := 35) dX5_takenBy_35 rfl ?_
      refine ok_iload (pc := 36) dX5_takenBy_36 rfl ?_
      refine ok_ishr (pc := 38) dX5_takenBy_38 ?_
      refine ok_iconst (pc := 39) (v := 1) dX5_takenBy_39 (by decide) ?_
      refine ok_iand (pc := 40) dX5_takenBy_40 ?_
      refine ok_if_ne (pc := 41) 109 dX5_takenBy_41 (by decide) (fun cc_41 => ?_) (fun cc_41 => ?_)
      · rw [ei, hb_ne (by omega) (by omega)] at cc_41
        have hbit : on.testBit j = false := by
          rw [hon]
          unfold tkOn
          rw [ex_bit (by omega), b_tr cc_41]
          exact Bool.and_false _
        have enx : tkS σ k0 on aim (j + 1) = (tkS σ k0 on aim j) := if_neg (by rw [hbit, Bool.false_and]; decide)
        refine ok_iinc7 (pc := 109) (v := 1) dX5_takenBy_109 (by decide) (by decide) rfl ?_
        refine ok_goto (pc := 112) 22 dX5_takenBy_112 (by decide) ?_
        try refine ok_drop8 ?_
        first
          | exact ih (j + 1) _ _ _ _ (by omega) (by rw [ei, nI_1]) (by rw [enx]; exact e5) (by first | (rw [enx]; exact e6) | rw [enx]) (by rw [enx]; exact hP) hO
          | exact ih (j + 1) _ _ _ _ (by omega) (by rw [ei, nI_1]) (by rw [enx, e5, ei, jshl_1 (by omega), fa_or]) (by rw [enx]) (by rw [enx]; exact hP) hO
      · rw [ei, hb_ne (by omega) (by omega)] at cc_41
        refine ok_aload_n (pc := 44) dX5_takenBy_44 rfl ?_
        refine ok_iload (pc := 45) dX5_takenBy_45 rfl ?_
        refine ok_aload_n (pc := 47) dX5_takenBy_47 rfl ?_
        refine ok_getf (pc := 48) dX5_takenBy_48 (flk_X5_157 _) hK.2 rfl ?_
        refine ok_callVi2 (pc := 51) (d' := 2) dX5_takenBy_51 vl_X5_234 hP.o rfl rfl rfl (by decide) ?_
        refine c_waitsOn hP (by rw [t2.1]; exact eLt) (by rw [t2.1]; exact lL) j ei (by rw [t2.1]; omega) ?_
        rw [ehm, t3 j 5 (Nat.le_refl _) (by omega) (by decide), t3 j 6 (Nat.le_refl _) (by omega) (by decide)]
        refine ok_if_ne (pc := 54) 60 dX5_takenBy_54 (by decide) (fun cc_54 => ?_) (fun cc_54 => ?_)
        · have cq_54 := bI_n0.mp cc_54
          have hbit : on.testBit j = true := by
            rw [hon]
            unfold tkOn
            rw [ex_bit (by omega), cc_41, lonN_bit, decide_eq_true (show j < cL σ by omega), cq_54]
            rfl
          refine ok_iload (pc := 60) dX5_takenBy_60 rfl ?_
          refine ok_aload_n (pc := 62) dX5_takenBy_62 rfl ?_
          refine ok_iload (pc := 63) dX5_takenBy_63 rfl ?_
          refine ok_iconst (pc := 65) (v := 2) dX5_takenBy_65 (by decide) ?_
          refine ok_callVi2 (pc := 66) (d' := 1) dX5_takenBy_66 vl_X5_231 hP.o rfl rfl rfl (by decide) ?_
          refine c_ofOne hP (by rw [t2.1]; exact eLt) (by rw [t2.1]; exact lL) j 2 ei rfl (by rw [t2.1]; omega) (by decide) ?_
          refine ok_iadd (pc := 69) dX5_takenBy_69 ?_
          refine ok_istore8 (pc := 70) dX5_takenBy_70 (by decide) rfl ?_
          refine ok_aload_n (pc := 72) dX5_takenBy_72 rfl ?_
          refine ok_aload_n (pc := 73) dX5_takenBy_73 rfl ?_
          refine ok_iload (pc := 74) dX5_takenBy_74 rfl ?_
          refine ok_iload (pc := 76) dX5_takenBy_76 rfl ?_
          refine ok_aload_n (pc := 78) dX5_takenBy_78 rfl ?_
          refine ok_getf (pc := 79) dX5_takenBy_79 fl_X5_93 hP.o rfl ?_
          refine ok_callVi4 (pc := 82) (d' := 3) dX5_takenBy_82 vl_X5_197 hP.o rfl rfl rfl (by decide) ?_
          refine c_standsAt hP t1 hpe k0 hK (by rw [t2.2.2.1]; exact hk) aim (cT (tkS σ k0 on aim j).1) rfl t1.1.2.2.2.2.1 (by rw [t2.2.1]; exact ha) (by have := t1.1.2.2.2.2.2; omega) (fun M hP hO2 => ?_)
          have hO := hO.trans hO2
          rw [e6]
          refine ok_if_eq (pc := 85) 109 dX5_takenBy_85 (by decide) (fun cc_85 => ?_) (fun cc_85 => ?_)
          · have cq_85 := bI_0.mp cc_85
            have enx : tkS σ k0 on aim (j + 1) = (tkS σ k0 on aim j) := if_neg (by rw [hbit, Bool.true_and]; exact fun h9 => by unfold stN at h9; rw [cq_85] at h9; cases h9)
            refine ok_iinc7 (pc := 109) (v := 1) dX5_takenBy_109 (by decide) (by decide) rfl ?_
            refine ok_goto (pc := 112) 22 dX5_takenBy_112 (by decide) ?_
            try refine ok_drop8 ?_
            first
              | exact ih (j + 1) _ _ _ _ (by omega) (by rw [ei, nI_1]) (by rw [enx]; exact e5) (by first | (rw [enx]; exact e6) | rw [enx]) (by rw [enx]; exact hP) hO
              | exact ih (j + 1) _ _ _ _ (by omega) (by rw [ei, nI_1]) (by rw [enx, e5, ei, jshl_1 (by omega), fa_or]) (by rw [enx]) (by rw [enx]; exact hP) hO
          · have cq_85 := bI_n0.mp cc_85
            have enx : tkS σ k0 on aim (j + 1) = (comF (tkS σ k0 on aim j).1 j (nI aim), (tkS σ k0 on aim j).2.1 + lf (tkS σ k0 on aim j).1 j 2, (tkS σ k0 on aim j).2.2 ||| 2 ^ j) := if_pos (by rw [hbit, Bool.true_and]; exact cq_85)
            refine ok_iload (pc := 88) dX5_takenBy_88 rfl ?_
            refine ok_istore6 (pc := 90) dX5_takenBy_90 (by decide) rfl ?_
            refine ok_iload (pc := 92) dX5_takenBy_92 rfl ?_
            refine ok_iconst (pc := 94) (v := 1) dX5_takenBy_94 (by decide) ?_
            refine ok_iload (pc := 95) dX5_takenBy_95 rfl ?_
            refine ok_ishl (pc := 97) dX5_takenBy_97 ?_
            refine ok_ior (pc := 98) dX5_takenBy_98 ?_
            refine ok_istore5 (pc := 99) dX5_takenBy_99 (by decide) rfl ?_
            refine ok_aload_n (pc := 101) dX5_takenBy_101 rfl ?_
            refine ok_iload (pc := 102) dX5_takenBy_102 rfl ?_
            refine ok_iload (pc := 104) dX5_takenBy_104 rfl ?_
            refine ok_callVv2 (pc := 106) (d' := 2) dX5_takenBy_106 vl_X5_259 hP.o rfl rfl rfl (by decide) ?_
            obtain ⟨o1, o2⟩ := ho j hbit
            have har : arF (tkS σ k0 on aim j).1 j = false := by
              unfold arF at o2 ⊢
              rw [t3 j 6 (Nat.le_refl _) (by omega) (by decide)]
              exact o2
            have hA : cA (tkS σ k0 on aim j).1 < 12 := by
              have g1 := t1.1.2.2.2.1.2
              have g2 := arN_lt (σ := (tkS σ k0 on aim j).1) (l := j) (n := cL (tkS σ k0 on aim j).1) (by rw [t2.1]; exact o1) har
              rw [t2.1] at g1 g2
              omega
            refine c_bring hP t1.bd hpe (by rw [t2.1]; exact eLt) (by rw [t2.1]; exact lL) t1.1.2.2.2.1.1 hA j ei (by rw [t2.1]; omega) (fun M hP hO2 => ?_)
            have hO := hO.trans hO2
            refine ok_iinc7 (pc := 109) (v := 1) dX5_takenBy_109 (by decide) (by decide) rfl ?_
            refine ok_goto (pc := 112) 22 dX5_takenBy_112 (by decide) ?_
            try refine ok_drop8 ?_
            first
              | exact ih (j + 1) _ _ _ _ (by omega) (by rw [ei, nI_1]) (by rw [enx]; exact e5) (by first | (rw [enx]; exact e6) | rw [enx]) (by rw [enx]; exact hP) hO
              | exact ih (j + 1) _ _ _ _ (by omega) (by rw [ei, nI_1]) (by rw [enx, e5, ei, jshl_1 (by omega), fa_or]) (by rw [enx]) (by rw [enx]; exact hP) hO
        · have cq_54 := bI_0.mp cc_54
          have hbit : on.testBit j = false := by
            rw [hon]
            unfold tkOn
            rw [ex_bit (by omega), lonN_bit, cq_54, Bool.and_false]
            rfl
          have enx : tkS σ k0 on aim (j + 1) = (tkS σ k0 on aim j) := if_neg (by rw [hbit, Bool.false_and]; decide)
          refine ok_goto (pc := 57) 109 dX5_takenBy_57 (by decide) ?_
          refine ok_iinc7 (pc := 109) (v := 1) dX5_takenBy_109 (by decide) (by decide) rfl ?_
          refine ok_goto (pc := 112) 22 dX5_takenBy_112 (by decide) ?_
          try refine ok_drop8 ?_
          first
            | exact ih (j + 1) _ _ _ _ (by omega) (by rw [ei, nI_1]) (by rw [enx]; exact e5) (by first | (rw [enx]; exact e6) | rw [enx]) (by rw [enx]; exact hP) hO
            | exact ih (j + 1) _ _ _ _ (by omega) (by rw [ei, nI_1]) (by rw [enx, e5, ei, jshl_1 (by omega), fa_or]) (by rw [enx]) (by rw [enx]; exact hP) hO

set_option maxHeartbeats 1000000 in
theorem c_takenBy {Γ : Cx} {p e z sz : Nat} {σ : Rw} {M : Nat → Option va_E} {K : Int32 → Wd → Prop} (hP : PstR Γ p e z σ M) (hI : Inv σ) (hpe : p + 26 ≤ e) {xk xm : Int32} (k0 mv : Nat) (ek : xk = nI k0) (em : xm = nI mv) (hk : k0 < cK σ) (hmv : mv < 2 ^ 12) (ak : 0 ≤ kf σ k0 5) (k : ∀ M', PstR Γ p e z (tkS σ k0 (tkOn σ k0 mv) (amF σ k0) (cL σ)).1 M' → Off p 26 M M' → K (nI (tkS σ k0 (tkOn σ k0 mv) (amF σ k0) (cL σ)).2.2) (M', sz)) : Spec Γ mX5_takenBy 4 0 [.ref p, .int xk, .int xm] (M, sz) (ci K) := by
  obtain ⟨⟨⟨eH, lH⟩, ⟨eK, lK⟩, ⟨eL, lL⟩, ⟨eA, lA⟩, ⟨eT, lT⟩⟩, iK, iH, iW, iL, iO, iB, hT⟩ := id hI
  obtain ⟨eak, lak, -⟩ := InvK.aim iK hk ak
  
  refine spec_in [some (.ref p), some (.int xk), some (.int xm), none, none, none, none, none, none] 6 (by decide) rfl rfl ?_
  refine ok_aload_n (pc := 0) dX5_takenBy_0 rfl ?_
  refine ok_iload_n (pc := 1) dX5_takenBy_1 rfl ?_
  refine ok_callVr1 (pc := 2) (d' := 0) dX5_takenBy_2 vl_X5_201 hP.o rfl rfl rfl (by decide) ?_
  refine c_kiteAt hP eK lK (fun q exq lxq hK => ?_) (fun h9 => absurd h9 (by rw [wi_T eK (by omega) (by rw [ek]; exact nI_pos' (by omega)) (by rw [ek, eK]; exact nI_lt (by omega) (by omega))]; decide))
  have ejq : iN xk = k0 := by rw [ek]; exact nI_clamp (by omega)
  rw [ejq] at hK lxq
  refine ok_astore_n3 (pc := 5) dX5_takenBy_5 (by decide) rfl ?_
  refine ok_aload_n (pc := 6) dX5_takenBy_6 rfl ?_
  refine ok_iload_n (pc := 7) dX5_takenBy_7 rfl ?_
  refine ok_callVi1 (pc := 8) (d' := 1) dX5_takenBy_8 vl_X5_205 hP.o rfl rfl rfl (by decide) ?_
  refine c_aimOf hP k0 ek (by omega) ?_
  rw [eak]
  refine ok_istore4 (pc := 11) dX5_takenBy_11 (by decide) rfl ?_
  refine ok_iconst (pc := 13) (v := 0) dX5_takenBy_13 (by decide) ?_
  refine ok_istore5 (pc := 14) dX5_takenBy_14 (by decide) rfl ?_
  refine ok_iconst (pc := 16) (v := 0) dX5_takenBy_16 (by decide) ?_
  refine ok_istore6 (pc := 17) dX5_takenBy_17 (by decide) rfl ?_
  refine ok_iconst (pc := 19) (v := 0) dX5_takenBy_19 (by decide) ?_
  refine ok_istore7 (pc := 20) dX5_takenBy_20 (by decide) rfl ?_
  rw [em]
  exact l_takenBy hI hpe k0 mv _ _ hk lak hK rfl hmv k (cL σ) 0 _ _ _ M (by omega) rfl rfl rfl hP Off.rfl'

/-- whether one of these kites has letters at home -/
def ahL (σ : Rw) (B : Nat) : Nat → Bool
  | 0 => false
  | n + 1 => ahL σ B n || (B.testBit n && !(decide (lonN σ (kf σ n 2) (cL σ) = 0)))

set_option maxHeartbeats 1000000 in
theorem l_anyHas {Γ : Cx} {p e z sz : Nat} {σ : Rw} {M : Nat → Option va_E} {K : Int32 → Wd → Prop} (hP : PstR Γ p e z σ M) (hI : Inv σ) {B : Nat} (hB8 : B < 2 ^ 8) (k : K (bI (ahL σ B (cK σ))) (M, sz)) : ∀ (n : Nat) (j : Nat) (xi : Int32), j + n = cK σ → xi = nI j → ahL σ B j = false → Ok Γ mX5_anyHasLetters 4 0 2 [some (.ref p), some (.int (nI B)), some (.int xi), none] [] (M, sz) (ci K) := by
  obtain ⟨⟨⟨eH, lH⟩, ⟨eK, lK⟩, ⟨eL, lL⟩, ⟨eA, lA⟩, ⟨eT, lT⟩⟩, iK, iH, iW, iL, iO, iB, hT⟩ := id hI
  
  intro n
  induction n with
  | zero =>
    intro j xi h1 ei hq
    refine ok_iload_n (pc := 2) dX5_anyHasLetters_2 rfl ?_
    refine ok_aload_n (pc := 3) dX5_anyHasLetters_3 rfl ?_
    refine ok_getf (pc := 4) dX5_anyHasLetters_4 fl_X5_80 hP.o rfl ?_
    refine ok_icmp_ge (pc := 7) 51 dX5_anyHasLetters_7 (by decide) (fun cc_7 => ?_) (fun cc_7 => ?_)
    · have ce_7 := Int32.not_lt.mpr cc_7
      have e9 : j = cK σ := by omega
      subst e9
      rw [hq] at k
      refine ok_iconst (pc := 51) (v := 0) dX5_anyHasLetters_51 (by decide) ?_
      refine ok_zret (pc := 52) dX5_anyHasLetters_52 rfl rfl ?_
      exact k
    · exact absurd (by rw [eK, ei]; exact nI_le (by omega) (by omega)) cc_7
  | succ n ih =>
    intro j xi h1 ei hq
    refine ok_iload_n (pc := 2) dX5_anyHasLetters_2 rfl ?_
    refine ok_aload_n (pc := 3) dX5_anyHasLetters_3 rfl ?_
    refine ok_getf (pc := 4) dX5_anyHasLetters_4 fl_X5_80 hP.o rfl ?_
    refine ok_icmp_ge (pc := 7) 51 dX5_anyHasLetters_7 (by decide) (fun cc_7 => ?_) (fun cc_7 => ?_)
    · rw [eK, ei] at cc_7
      exact absurd cc_7 (nI_ge (by omega) (by omega))
    · have ce_7 := Int32.not_le.mp cc_7
      refine ok_iload_n (pc := 10) dX5_anyHasLetters_10 rfl ?_
      refine ok_if_eq (pc := 11) 51 dX5_anyHasLetters_11 (by decide) (fun cc_11 => ?_) (fun cc_11 => ?_)
      · have hz : B = 0 := (nI_eq (b := 0) (by omega) (by decide)).mp cc_11
        have hall : ∀ n, ahL σ B n = false := by
          intro n
          induction n with
          | zero => rfl
          | succ n ih => unfold ahL; rw [ih, hz, Nat.zero_testBit]; rfl
        rw [hall] at k
        refine ok_iconst (pc := 51) (v := 0) dX5_anyHasLetters_51 (by decide) ?_
        refine ok_zret (pc := 52) dX5_anyHasLetters_52 rfl rfl ?_
        exact k
      · refine ok_aload_n (pc := 14) dX5_anyHasLetters_14 rfl ?_
        refine ok_iload_n (pc := 15) dX5_anyHasLetters_15 rfl ?_
        refine ok_callVr1 (pc := 16) (d' := 0) dX5_anyHasLetters_16 vl_X5_201 hP.o rfl rfl rfl (by decide) ?_
        refine c_kiteAt hP eK lK (fun qa exqa lxqa hKa => ?_) (fun h9 => absurd h9 (by rw [wi_T eK (by omega) (by rw [ei]; exact nI_pos' (by omega)) (by rw [ei, eK]; exact nI_lt (by omega) (by omega))]; decide))
        have ejqa : iN xi = j := by rw [ei]; exact nI_clamp (by omega)
        rw [ejqa] at hKa lxqa
        refine ok_astore_n3 (pc := 19) dX5_anyHasLetters_19 (by decide) rfl ?_
        refine ok_aload_n (pc := 20) dX5_anyHasLetters_20 rfl ?_
        refine ok_ifnull (pc := 21) dX5_anyHasLetters_21 ?_
        refine ok_iload_n (pc := 24) dX5_anyHasLetters_24 rfl ?_
        refine ok_iload_n (pc := 25) dX5_anyHasLetters_25 rfl ?_
        refine ok_ishr (pc := 26) dX5_anyHasLetters_26 ?_
        refine ok_iconst (pc := 27) (v := 1) dX5_anyHasLetters_27 (by decide) ?_
        refine ok_iand (pc := 28) dX5_anyHasLetters_28 ?_
        refine ok_if_eq (pc := 29) 45 dX5_anyHasLetters_29 (by decide) (fun cc_29 => ?_) (fun cc_29 => ?_)
        · rw [ei, hb_ne (by omega) (by omega)] at cc_29
          have enx : ahL σ B (j + 1) = false := by unfold ahL; rw [hq, cc_29]; rfl
          refine ok_iinc2 (pc := 45) (v := 1) dX5_anyHasLetters_45 (by decide) (by decide) rfl ?_
          refine ok_goto (pc := 48) 2 dX5_anyHasLetters_48 (by decide) ?_
          refine ok_drop3 ?_
          exact ih (j + 1) _ (by omega) (by rw [ei, nI_1]) enx
        · rw [ei, hb_ne (by omega) (by omega)] at cc_29
          have hb9 : B.testBit j = true := b_tr cc_29
          refine ok_aload_n (pc := 32) dX5_anyHasLetters_32 rfl ?_
          refine ok_aload_n (pc := 33) dX5_anyHasLetters_33 rfl ?_
          refine ok_getf (pc := 34) dX5_anyHasLetters_34 (flk_X5_157 _) hKa.2 rfl ?_
          refine ok_callVi1 (pc := 37) (d' := 3) dX5_anyHasLetters_37 vl_X5_256 hP.o rfl rfl rfl (by decide) ?_
          refine c_lettersOn hP eL lL ?_
          rw [lonF_n σ _ _ (by omega)]
          refine ok_if_eq (pc := 40) 45 dX5_anyHasLetters_40 (by decide) (fun cc_40 => ?_) (fun cc_40 => ?_)
          · have hz0 : lonN σ (kf σ j 2) (cL σ) = 0 := (nI_eq (b := 0) (by have := lonN_lt σ (kf σ j 2) (cL σ); have := Nat.pow_le_pow_right (n := 2) (by decide) lL; omega) (by decide)).mp cc_40
            have enx : ahL σ B (j + 1) = false := by unfold ahL; rw [hq, hz0, decide_eq_true rfl]; simp
            refine ok_iinc2 (pc := 45) (v := 1) dX5_anyHasLetters_45 (by decide) (by decide) rfl ?_
            refine ok_goto (pc := 48) 2 dX5_anyHasLetters_48 (by decide) ?_
            refine ok_drop3 ?_
            exact ih (j + 1) _ (by omega) (by rw [ei, nI_1]) enx
          · have hz0 : ¬ lonN σ (kf σ j 2) (cL σ) = 0 := fun h9 => cc_40 (by rw [h9]; rfl)
            refine ok_iconst (pc := 43) (v := 1) dX5_anyHasLetters_43 (by decide) ?_
            refine ok_zret (pc := 44) dX5_anyHasLetters_44 rfl rfl ?_
            have hup : ∀ q, j < q → ahL σ B q = true := by
              intro q
              induction q with
              | zero => intro h; exact absurd h (Nat.not_lt_zero _)
              | succ q ihq =>
                intro h
                unfold ahL
                rcases Nat.lt_or_ge j q with g | g
                · rw [ihq g]; rfl
                · have e9 : j = q := by omega
                  subst e9
                  rw [hb9, decide_eq_false hz0]
                  exact Bool.or_true _
            rw [hup (cK σ) (by omega)] at k
            exact k

set_option maxHeartbeats 1000000 in
theorem c_anyHas {Γ : Cx} {p e z sz : Nat} {σ : Rw} {M : Nat → Option va_E} {K : Int32 → Wd → Prop} (hP : PstR Γ p e z σ M) (hI : Inv σ) {xb : Int32} (B : Nat) (eb : xb = nI B) (hB8 : B < 2 ^ 8) (k : K (bI (ahL σ B (cK σ))) (M, sz)) : Spec Γ mX5_anyHasLetters 4 0 [.ref p, .int xb] (M, sz) (ci K) := by
  refine spec_in [some (.ref p), some (.int xb), none, none] 2 (by decide) rfl rfl ?_
  refine ok_iconst (pc := 0) (v := 0) dX5_anyHasLetters_0 (by decide) ?_
  refine ok_istore_n2 (pc := 1) dX5_anyHasLetters_1 (by decide) rfl ?_
  rw [eb]
  exact l_anyHas hP hI hB8 k (cK σ) 0 _ (by omega) rfl rfl
