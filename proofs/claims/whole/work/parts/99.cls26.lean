set_option maxHeartbeats 1000000 in
theorem lx_best {Γ : Cx} {a e z sz : Nat} {σ κ vi : Rw} {va : Nat → Rw} {K : Int32 → Wd → Prop} (hI : Inv σ) (hae : a + 92 ≤ e) {M0 : Nat → Option va_E} {x y : Int32} {q : Nat} (hc9 : cT σ ≤ 9999) (ex9 : x = nI (iN x)) (lx9 : iN x < cK σ) (ey9 : y = nI (iN y)) (ly9 : iN y ≤ 72) (hK0 : KtQ e z σ (iN x) q M0) (k : ∀ M', ClsR Γ a e z σ κ vi va M' → Off a 92 M0 M' → K (bsS σ (iN x) (iN y) (cH σ + 1)).1 (M', sz)) : ∀ (n : Nat) (j : Nat) (xi : Int32) (M : Nat → Option va_E), j + n = cH σ + 1 → xi = nI j - 1 → ClsR Γ a e z σ κ vi va M → Off a 92 M0 M → Ok Γ mX11_best 7 0 38 [some (.ref a), some (.int x), some (.int y), some (.ref q), some (.int (bsS σ (iN x) (iN y) j).1), some (.int (bsS σ (iN x) (iN y) j).2), some (.int xi)] [] (M, sz) (ci K) := by
  obtain ⟨⟨⟨eH, lH⟩, ⟨eK, lK⟩, ⟨eL, lL⟩, ⟨eA, lA⟩, ⟨eT, lT⟩⟩, iK, iH, iW, iL, iO, iB, hT⟩ := id hI
  have lHi : ∀ j9 : Nat, j9 ≤ 10 → (nI j9 - 1).toInt = (j9 : Int) - 1 := fun j9 h9 => pk_sub_toInt (b := 1) (by omega) (by decide)
  
  intro n
  induction n with
  | zero =>
    intro j xi M h1 ei hC hO
    have hK9 : KtQ e z σ (iN x) q M := ⟨hK0.1, (hO q (by have := hK0.1.1; omega)).trans hK0.2⟩
    obtain ⟨τa, iτa, hah⟩ := id hC.2.2.1
    have hji := lHi j (by omega)
    have hci : (σ 1).toInt = (cH σ : Int) := by rw [eH]; exact nI_toInt (by omega)
    refine ok_iload (pc := 38) dX11_best_38 rfl ?_
    refine ok_aload_n (pc := 40) dX11_best_40 rfl ?_
    refine ok_getf (pc := 41) dX11_best_41 fl_X11_10 hC.1 rfl ?_
    refine ok_getf (pc := 44) dX11_best_44 fl_X11_56 hC.2.1.o rfl ?_
    refine ok_icmp_ge (pc := 47) 128 dX11_best_47 (by decide) (fun cc_47 => ?_) (fun cc_47 => ?_)
    · have ce_47 := Int32.not_lt.mpr cc_47
      have e9 : j = cH σ + 1 := by omega
      subst e9
      refine ok_iload (pc := 128) dX11_best_128 rfl ?_
      refine ok_iret (pc := 130) dX11_best_130 rfl ?_
      exact k _ hC hO
    · exact absurd ((fa_le _ _).mpr (by rw [ei, hji, hci]; omega)) cc_47
  | succ n ih =>
    intro j xi M h1 ei hC hO
    have hK9 : KtQ e z σ (iN x) q M := ⟨hK0.1, (hO q (by have := hK0.1.1; omega)).trans hK0.2⟩
    obtain ⟨τa, iτa, hah⟩ := id hC.2.2.1
    have hji := lHi j (by omega)
    have hci : (σ 1).toInt = (cH σ : Int) := by rw [eH]; exact nI_toInt (by omega)
    refine ok_iload (pc := 38) dX11_best_38 rfl ?_
    refine ok_aload_n (pc := 40) dX11_best_40 rfl ?_
    refine ok_getf (pc := 41) dX11_best_41 fl_X11_10 hC.1 rfl ?_
    refine ok_getf (pc := 44) dX11_best_44 fl_X11_56 hC.2.1.o rfl ?_
    refine ok_icmp_ge (pc := 47) 128 dX11_best_47 (by decide) (fun cc_47 => ?_) (fun cc_47 => ?_)
    · rw [fa_le, ei, hji, hci] at cc_47
      omega
    · have ce_47 := Int32.not_le.mp cc_47
      refine ok_iload (pc := 50) dX11_best_50 rfl ?_
      refine ok_aload_n (pc := 52) dX11_best_52 rfl ?_
      refine ok_getf (pc := 53) dX11_best_53 (flk_X11_103 _) hK9.2 rfl ?_
      refine ok_icmp_ne (pc := 56) 62 dX11_best_56 (by decide) (fun cc_56 => ?_) (fun cc_56 => ?_)
      · rw [ei] at cc_56
        refine ok_aload_n (pc := 62) dX11_best_62 rfl ?_
        refine ok_getf (pc := 63) dX11_best_63 fl_X11_16 hC.1 rfl ?_
        refine ok_aload_n (pc := 66) dX11_best_66 rfl ?_
        refine ok_getf (pc := 67) dX11_best_67 fl_X11_10 hC.1 rfl ?_
        refine ok_callVv1 (pc := 70) (d' := 3) dX11_best_70 vl_X11_198 hah.o rfl rfl rfl (by decide) ?_
        refine c_copyFrom hah iτa.1.2.1.2 hC.2.1 hI (by omega) (by omega) (Or.inr (by omega)) (fun M9 hah hS9 hO9 => ?_)
        have hC := hC.ah hI hae hI hah (fun q hq => hO9 q (by omega))
        have hO := hO.trans (hO9.sub (a := a) (n := 92) (by omega) (by omega))
        refine ok_aload_n (pc := 73) dX11_best_73 rfl ?_
        refine ok_getf (pc := 74) dX11_best_74 fl_X11_16 hC.1 rfl ?_
        refine ok_iload_n (pc := 77) dX11_best_77 rfl ?_
        refine ok_iload (pc := 78) dX11_best_78 rfl ?_
        refine ok_callVv2 (pc := 80) (d' := 1) dX11_best_80 vl_X11_119 hah.o rfl rfl rfl (by decide) ?_
        refine c_changeAim hah hI.bd (by omega) (iN x) ex9 (by omega) (fun M9 hah hO9 => ?_)
        rw [ei] at hah
        have hIa : Inv (upd σ (51 + 6 * iN x + 5) (nI j - 1)) := Inv_aim hI lx9 (by
          rcases Nat.eq_zero_or_pos j with h0 | h0
          · left; rw [h0]; rfl
          · right
            obtain ⟨⟨ehm, lhm⟩, -⟩ := iK _ lx9
            have e1 : nI j - 1 = nI (j - 1) := by rw [fa_lit 1, pk_sub (by omega)]
            have e2 : iN (nI j - 1) = j - 1 := by rw [e1]; exact nI_clamp (by omega)
            rw [e2]
            refine ⟨e1, by rw [fa_le, ei, hji, hci] at cc_47; omega, fun h9 => cc_56 ?_⟩
            rw [e1, ehm, h9])
        have hC := hC.ah hI hae hIa hah (fun q hq => hO9 q (by omega))
        have hO := hO.trans (hO9.sub (a := a) (n := 92) (by omega) (by omega))
        refine ok_aload_n (pc := 83) dX11_best_83 rfl ?_
        refine ok_getf (pc := 84) dX11_best_84 fl_X11_16 hC.1 rfl ?_
        refine ok_iload_n (pc := 87) dX11_best_87 rfl ?_
        refine ok_callVv1 (pc := 88) (d' := 6) dX11_best_88 vl_X11_191 hah.o rfl rfl rfl (by decide) ?_
        refine c_passHours hah hIa (by omega) (iN y) ey9 ly9 (by show cT σ ≤ 10000; omega) (fun M9 hah hO9 => ?_)
        obtain ⟨t1, t2⟩ := hrs_ok hIa (iN y) (by show cT σ + iN y ≤ 20000; omega)
        have hC := hC.ah hI hae t1 hah (fun q hq => hO9 q (by omega))
        have hO := hO.trans (hO9.sub (a := a) (n := 92) (by omega) (by omega))
        refine ok_aload_n (pc := 91) dX11_best_91 rfl ?_
        refine ok_getf (pc := 92) dX11_best_92 fl_X11_16 hC.1 rfl ?_
        refine ok_getf (pc := 95) dX11_best_95 fl_X11_202 hah.o rfl ?_
        refine ok_getf (pc := 98) dX11_best_98 fl_X11_140 hah.ar.1 rfl ?_
        refine ok_iload (pc := 101) dX11_best_101 rfl ?_
        refine ok_icmp_le (pc := 103) 122 dX11_best_103 (by decide) (fun cc_103 => ?_) (fun cc_103 => ?_)
        · have ce_103 := Int32.not_lt.mpr cc_103
          have enx : bsS σ (iN x) (iN y) (j + 1) = bsS σ (iN x) (iN y) j := (if_neg cc_56).trans (if_neg (Int32.not_lt.mpr cc_103))
          refine ok_iinc6 (pc := 122) (v := 1) dX11_best_122 (by decide) (by decide) rfl ?_
          refine ok_goto (pc := 125) 38 dX11_best_125 (by decide) ?_
          have exi : xi + 1 = nI (j + 1) - 1 := by rw [ei, m1_s]
          have ih9 := ih (j + 1) (xi + 1) _ (by omega) exi hC hO
          rw [enx] at ih9
          first
            | exact ih9
            | (rw [ei] at ih9 ⊢; exact ih9)
        · have ce_103 := Int32.not_le.mp cc_103
          have enx : bsS σ (iN x) (iN y) (j + 1) = (nI j - 1, hrsF (upd σ (51 + 6 * iN x + 5) (nI j - 1)) (iN y) 4) := (if_neg cc_56).trans (if_pos (Int32.not_le.mp cc_103))
          refine ok_aload_n (pc := 106) dX11_best_106 rfl ?_
          refine ok_getf (pc := 107) dX11_best_107 fl_X11_16 hC.1 rfl ?_
          refine ok_getf (pc := 110) dX11_best_110 fl_X11_202 hah.o rfl ?_
          refine ok_getf (pc := 113) dX11_best_113 fl_X11_140 hah.ar.1 rfl ?_
          refine ok_istore5 (pc := 116) dX11_best_116 (by decide) rfl ?_
          refine ok_iload (pc := 118) dX11_best_118 rfl ?_
          refine ok_istore4 (pc := 120) dX11_best_120 (by decide) rfl ?_
          refine ok_iinc6 (pc := 122) (v := 1) dX11_best_122 (by decide) (by decide) rfl ?_
          refine ok_goto (pc := 125) 38 dX11_best_125 (by decide) ?_
          have exi : xi + 1 = nI (j + 1) - 1 := by rw [ei, m1_s]
          have ih9 := ih (j + 1) (xi + 1) _ (by omega) exi hC hO
          rw [enx] at ih9
          first
            | exact ih9
            | (rw [ei] at ih9 ⊢; exact ih9)
      · rw [ei] at cc_56
        have enx : bsS σ (iN x) (iN y) (j + 1) = bsS σ (iN x) (iN y) j := if_pos cc_56
        refine ok_goto (pc := 59) 122 dX11_best_59 (by decide) ?_
        refine ok_iinc6 (pc := 122) (v := 1) dX11_best_122 (by decide) (by decide) rfl ?_
        refine ok_goto (pc := 125) 38 dX11_best_125 (by decide) ?_
        have exi : xi + 1 = nI (j + 1) - 1 := by rw [ei, m1_s]
        have ih9 := ih (j + 1) (xi + 1) _ (by omega) exi hC hO
        rw [enx] at ih9
        first
          | exact ih9
          | (rw [ei] at ih9 ⊢; exact ih9)

set_option maxHeartbeats 1000000 in
theorem x_bestF {Γ : Cx} {a e z sz : Nat} {σ κ vi : Rw} {va : Nat → Rw} {M : Nat → Option va_E} {K : Int32 → Wd → Prop} (hC : ClsR Γ a e z σ κ vi va M) (hI : Inv σ) (hae : a + 92 ≤ e) {x y : Int32} (hx : wi x 0 (σ 2 - 1) = false) (k : ∀ M', ClsR Γ a e z σ κ vi (eU va (op_best σ x y).1) M' → Off a 92 M M' → K (op_best σ x y).2 (M', sz)) : Spec Γ mX11_best 7 0 [.ref a, .int x, .int y] (M, sz) (ci K) := by
  obtain ⟨⟨⟨eH, lH⟩, ⟨eK, lK⟩, ⟨eL, lL⟩, ⟨eA, lA⟩, ⟨eT, lT⟩⟩, iK, iH, iW, iL, iO, iB, hT⟩ := id hI
  
  refine spec_in [some (.ref a), some (.int x), some (.int y), none, none, none, none] 4 (by decide) rfl rfl ?_
  refine ok_aload_n (pc := 0) dX11_best_0 rfl ?_
  refine ok_getf (pc := 1) dX11_best_1 fl_X11_10 hC.1 rfl ?_
  refine ok_iload_n (pc := 4) dX11_best_4 rfl ?_
  refine ok_callVr1 (pc := 5) (d' := 0) dX11_best_5 vl_X11_91 hC.2.1.o rfl rfl rfl (by decide) ?_
  refine c_kiteAt hC.2.1 eK lK (fun q9 ex9 lx9 hK9 => absurd (wi_k eK lK ex9 lx9) (by rw [hx]; decide)) (fun h9 => ?_)
  refine ok_astore_nN3 (pc := 8) dX11_best_8 (by decide) rfl ?_
  refine ok_aload_nN (pc := 9) dX11_best_9 rfl ?_
  refine ok_ifnullN (pc := 10) 23 dX11_best_10 (by decide) ?_
  refine ok_aload_n (pc := 23) dX11_best_23 rfl ?_
  refine ok_iconst (pc := 24) (v := 1) dX11_best_24 (by decide) ?_
  refine ok_callVi1 (pc := 25) (d' := 1) dX11_best_25 vl_X11_49 hC.1 rfl rfl rfl (by decide) ?_
  refine c_error hC hI hae 1 rfl (by decide) (by decide) (fun M2 hC2 hO2 => ?_)
  refine ok_iret (pc := 28) dX11_best_28 rfl ?_
  have hop : op_best σ x y = (1, -1000000001) := if_neg (by rw [hx, Bool.false_and]; decide)
  rw [hop] at k
  rw [er_1]
  exact k _ hC2 hO2

set_option maxHeartbeats 1000000 in
theorem x_bestT {Γ : Cx} {a e z sz : Nat} {σ κ vi : Rw} {va : Nat → Rw} {M : Nat → Option va_E} {K : Int32 → Wd → Prop} (hC : ClsR Γ a e z σ κ vi va M) (hI : Inv σ) (hae : a + 92 ≤ e) (hc9 : cT σ ≤ 9999) {x y : Int32} (hx : wi x 0 (σ 2 - 1) = true) (k : ∀ M', ClsR Γ a e z σ κ vi (eU va (op_best σ x y).1) M' → Off a 92 M M' → K (op_best σ x y).2 (M', sz)) : Spec Γ mX11_best 7 0 [.ref a, .int x, .int y] (M, sz) (ci K) := by
  obtain ⟨⟨⟨eH, lH⟩, ⟨eK, lK⟩, ⟨eL, lL⟩, ⟨eA, lA⟩, ⟨eT, lT⟩⟩, iK, iH, iW, iL, iO, iB, hT⟩ := id hI
  
  refine spec_in [some (.ref a), some (.int x), some (.int y), none, none, none, none] 4 (by decide) rfl rfl ?_
  refine ok_aload_n (pc := 0) dX11_best_0 rfl ?_
  refine ok_getf (pc := 1) dX11_best_1 fl_X11_10 hC.1 rfl ?_
  refine ok_iload_n (pc := 4) dX11_best_4 rfl ?_
  refine ok_callVr1 (pc := 5) (d' := 0) dX11_best_5 vl_X11_91 hC.2.1.o rfl rfl rfl (by decide) ?_
  refine c_kiteAt hC.2.1 eK lK (fun q9 ex9 lx9 hK9 => ?_) (fun h9 => absurd h9 (by rw [hx]; decide))
  refine ok_astore_n3 (pc := 8) dX11_best_8 (by decide) rfl ?_
  refine ok_aload_n (pc := 9) dX11_best_9 rfl ?_
  refine ok_ifnull (pc := 10) dX11_best_10 ?_
  refine ok_iload_n (pc := 13) dX11_best_13 rfl ?_
  refine ok_iconst (pc := 14) (v := 0) dX11_best_14 (by decide) ?_
  refine ok_bipush (pc := 15) (v := 72) dX11_best_15 (by decide) ?_
  refine ok_callSi3 (pc := 17) (d' := 0) dX11_best_17 sl_X11_45 rfl (by decide) ?_
  refine c_within ?_
  refine ok_if_ne (pc := 20) 29 dX11_best_20 (by decide) (fun cc_20 => ?_) (fun cc_20 => ?_)
  · have cq_20 := bI_n0.mp cc_20
    refine ok_iconst (pc := 29) (v := -1) dX11_best_29 (by decide) ?_
    refine ok_istore4 (pc := 30) dX11_best_30 (by decide) rfl ?_
    refine ok_iconst (pc := 32) (v := -1) dX11_best_32 (by decide) ?_
    refine ok_istore5 (pc := 33) dX11_best_33 (by decide) rfl ?_
    refine ok_iconst (pc := 35) (v := -1) dX11_best_35 (by decide) ?_
    refine ok_istore6 (pc := 36) dX11_best_36 (by decide) rfl ?_
    obtain ⟨ey9, -, ly9⟩ := wi_lit (a := 0) (c := 72) rfl rfl (by decide) (by decide) cq_20
    have hop : op_best σ x y = (0, (bsS σ (iN x) (iN y) (cH σ + 1)).1) := if_pos (by rw [hx, cq_20]; rfl)
    rw [hop] at k
    rw [eU_0] at k
    exact lx_best hI hae hc9 ex9 lx9 ey9 ly9 hK9 k (cH σ + 1) 0 _ M (by omega) rfl hC Off.rfl'
  · have cq_20 := bI_0.mp cc_20
    refine ok_aload_n (pc := 23) dX11_best_23 rfl ?_
    refine ok_iconst (pc := 24) (v := 1) dX11_best_24 (by decide) ?_
    refine ok_callVi1 (pc := 25) (d' := 1) dX11_best_25 vl_X11_49 hC.1 rfl rfl rfl (by decide) ?_
    refine c_error hC hI hae 1 rfl (by decide) (by decide) (fun M2 hC2 hO2 => ?_)
    refine ok_iret (pc := 28) dX11_best_28 rfl ?_
    have hop : op_best σ x y = (1, -1000000001) := if_neg (by rw [cq_20, Bool.and_false]; decide)
    rw [hop] at k
    rw [er_1]
    exact k _ hC2 hO2

theorem x_best {Γ : Cx} {a e z sz : Nat} {σ κ vi : Rw} {va : Nat → Rw} {M : Nat → Option va_E} {K : Int32 → Wd → Prop} (hC : ClsR Γ a e z σ κ vi va M) (hI : Inv σ) (hae : a + 92 ≤ e) (hc9 : cT σ ≤ 9999) {x y : Int32} (k : ∀ M', ClsR Γ a e z σ κ vi (eU va (op_best σ x y).1) M' → Off a 92 M M' → K (op_best σ x y).2 (M', sz)) : Spec Γ mX11_best 7 0 [.ref a, .int x, .int y] (M, sz) (ci K) := by
  cases hx : wi x 0 (σ 2 - 1) with
  | true => exact x_bestT hC hI hae hc9 hx k
  | false => exact x_bestF hC hI hae hx k
