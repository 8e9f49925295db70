theorem ClsR.fly {Γ : Cx} {a e z : Nat} {σ κ vi : Rw} {va : Nat → Rw} {M M' : Nat → Option va_E} {z' sz : Nat} {σ' : Rw} (hC : ClsR Γ a e z σ κ vi va M) (hae : a + 92 ≤ e) (hez : e ≤ z) (hzs : z ≤ sz) (hz : z ≤ z') (hP : PstR Γ (a + 1) e z' σ' M') (hw : ∀ q, (q < a + 1 ∨ a + 27 ≤ q) → q < sz → M' q = M q) : ClsR Γ a e z' σ' κ vi va M' := by
  obtain ⟨c0, c1, c2, c3, c4, c5, c6, c7⟩ := hC
  exact ⟨(hw _ (by omega) (by omega)).trans c0, hP, (by obtain ⟨τ, i, h⟩ := c2; exact ⟨τ, i, h.same i.1.2.1.2 (fun q g1 g2 => hw q (by omega) (by omega)) (fun q g1 g2 => hw q (by omega) (by omega)) (by omega)⟩), (by obtain ⟨τ, i, h, g⟩ := c3; exact ⟨τ, i, h.same i.1.2.1.2 (fun q g1 g2 => hw q (by omega) (by omega)) (fun q g1 g2 => hw q (by omega) (by omega)) (by omega), g⟩), c4.tr (hw _ (by omega) (by omega)) (hw _ (by omega) (by omega)) rfl (fun _ _ => rfl), c5.tr (fun _ _ => rfl) (fun q g1 g2 g3 => hw q (by omega) (by omega)), c6.tr (hw _ (by omega) (by omega)) (fun _ _ => rfl), (by obtain ⟨f, h⟩ := c7; exact ⟨f, (hw _ (by omega) (by omega)).trans h⟩)⟩

set_option maxHeartbeats 1000000 in
theorem x_kite {Γ : Cx} {a e z sz : Nat} {σ κ vi : Rw} {va : Nat → Rw} {M : Nat → Option va_E} {K : Int32 → Wd → Prop} (hC : ClsR Γ a e z σ κ vi va M) (hI : Inv σ) (hae : a + 92 ≤ e) (hez : e ≤ z) (hzs : z ≤ sz) {x y w : Int32} (k : ∀ M' z' s', z ≤ z' → z' ≤ s' → sz ≤ s' → ClsR Γ a e z' (op_kite σ x y w).2.2 κ vi (eU va (op_kite σ x y w).1) M' → (∀ q, (q < a ∨ a + 92 ≤ q) → q < sz → M' q = M q) → K (op_kite σ x y w).2.1 (M', s')) : Spec Γ mX11_kite 6 1 [.ref a, .int x, .int y, .int w] (M, sz) (ci K) := by
  obtain ⟨⟨⟨eH, lH⟩, ⟨eK, lK⟩, ⟨eL, lL⟩, ⟨eA, lA⟩, ⟨eT, lT⟩⟩, iK, iH, iW, iL, iO, iB, hT⟩ := id hI
  
  refine spec_in [some (.ref a), some (.int x), some (.int y), some (.int w)] 0 (by decide) rfl rfl ?_
  refine ok_iload_n (pc := 0) dX11_kite_0 rfl ?_
  refine ok_iconst (pc := 1) (v := 0) dX11_kite_1 (by decide) ?_
  refine ok_bipush (pc := 2) (v := 69) dX11_kite_2 (by decide) ?_
  refine ok_callSi3 (pc := 4) (d' := 0) dX11_kite_4 sl_X11_45 rfl (by decide) ?_
  refine c_within ?_
  refine ok_if_eq (pc := 7) 45 dX11_kite_7 (by decide) (fun cc_7 => ?_) (fun cc_7 => ?_)
  · have cq_7 := bI_0.mp cc_7
    refine ok_aload_n (pc := 45) dX11_kite_45 rfl ?_
    refine ok_iconst (pc := 46) (v := 1) dX11_kite_46 (by decide) ?_
    refine ok_callVi1 (pc := 47) (d' := 1) dX11_kite_47 vl_X11_49 hC.1 rfl rfl rfl (by decide) ?_
    refine c_error hC hI hae 1 rfl (by decide) (by decide) (fun M2 hC2 hO2 => ?_)
    refine ok_iret (pc := 50) dX11_kite_50 rfl ?_
    have hop : op_kite σ x y w = e3 1 σ := if_neg (by first | (rw [cq_7, Bool.false_and, Bool.false_and, Bool.false_and]; decide) | (rw [cq_18, Bool.and_false, Bool.false_and, Bool.false_and]; decide) | (rw [cq_29, Bool.and_false, Bool.false_and]; decide) | (rw [cq_42, Bool.and_false]; decide))
    rw [hop] at k
    exact k _ z sz (Nat.le_refl _) hzs (Nat.le_refl _) hC2 (fun q h _ => hO2 q h)
  · have cq_7 := bI_n0.mp cc_7
    refine ok_aload_n (pc := 10) dX11_kite_10 rfl ?_
    refine ok_getf (pc := 11) dX11_kite_11 fl_X11_10 hC.1 rfl ?_
    refine ok_iload_n (pc := 14) dX11_kite_14 rfl ?_
    refine ok_callVi1 (pc := 15) (d' := 0) dX11_kite_15 vl_X11_64 hC.2.1.o rfl rfl rfl (by decide) ?_
    refine c_isHill hC.2.1 eH lH ?_
    refine ok_if_eq (pc := 18) 45 dX11_kite_18 (by decide) (fun cc_18 => ?_) (fun cc_18 => ?_)
    · have cq_18 := bI_0.mp cc_18
      refine ok_aload_n (pc := 45) dX11_kite_45 rfl ?_
      refine ok_iconst (pc := 46) (v := 1) dX11_kite_46 (by decide) ?_
      refine ok_callVi1 (pc := 47) (d' := 1) dX11_kite_47 vl_X11_49 hC.1 rfl rfl rfl (by decide) ?_
      refine c_error hC hI hae 1 rfl (by decide) (by decide) (fun M2 hC2 hO2 => ?_)
      refine ok_iret (pc := 50) dX11_kite_50 rfl ?_
      have hop : op_kite σ x y w = e3 1 σ := if_neg (by first | (rw [cq_7, Bool.false_and, Bool.false_and, Bool.false_and]; decide) | (rw [cq_18, Bool.and_false, Bool.false_and, Bool.false_and]; decide) | (rw [cq_29, Bool.and_false, Bool.false_and]; decide) | (rw [cq_42, Bool.and_false]; decide))
      rw [hop] at k
      exact k _ z sz (Nat.le_refl _) hzs (Nat.le_refl _) hC2 (fun q h _ => hO2 q h)
    · have cq_18 := bI_n0.mp cc_18
      refine ok_iload_n (pc := 21) dX11_kite_21 rfl ?_
      refine ok_iconst (pc := 22) (v := 0) dX11_kite_22 (by decide) ?_
      refine ok_sipush (pc := 23) (v := 9999) dX11_kite_23 (by decide) ?_
      refine ok_callSi3 (pc := 26) (d' := 0) dX11_kite_26 sl_X11_45 rfl (by decide) ?_
      refine c_within ?_
      refine ok_if_eq (pc := 29) 45 dX11_kite_29 (by decide) (fun cc_29 => ?_) (fun cc_29 => ?_)
      · have cq_29 := bI_0.mp cc_29
        refine ok_aload_n (pc := 45) dX11_kite_45 rfl ?_
        refine ok_iconst (pc := 46) (v := 1) dX11_kite_46 (by decide) ?_
        refine ok_callVi1 (pc := 47) (d' := 1) dX11_kite_47 vl_X11_49 hC.1 rfl rfl rfl (by decide) ?_
        refine c_error hC hI hae 1 rfl (by decide) (by decide) (fun M2 hC2 hO2 => ?_)
        refine ok_iret (pc := 50) dX11_kite_50 rfl ?_
        have hop : op_kite σ x y w = e3 1 σ := if_neg (by first | (rw [cq_7, Bool.false_and, Bool.false_and, Bool.false_and]; decide) | (rw [cq_18, Bool.and_false, Bool.false_and, Bool.false_and]; decide) | (rw [cq_29, Bool.and_false, Bool.false_and]; decide) | (rw [cq_42, Bool.and_false]; decide))
        rw [hop] at k
        exact k _ z sz (Nat.le_refl _) hzs (Nat.le_refl _) hC2 (fun q h _ => hO2 q h)
      · have cq_29 := bI_n0.mp cc_29
        refine ok_iload_n (pc := 32) dX11_kite_32 rfl ?_
        refine ok_bipush (pc := 33) (v := 100) dX11_kite_33 (by decide) ?_
        refine ok_irem (pc := 35) dX11_kite_35 (by decide) ?_
        refine ok_iconst (pc := 36) (v := 1) dX11_kite_36 (by decide) ?_
        refine ok_bipush (pc := 37) (v := 40) dX11_kite_37 (by decide) ?_
        refine ok_callSi3 (pc := 39) (d' := 0) dX11_kite_39 sl_X11_45 rfl (by decide) ?_
        refine c_within ?_
        refine ok_if_ne (pc := 42) 51 dX11_kite_42 (by decide) (fun cc_42 => ?_) (fun cc_42 => ?_)
        · have cq_42 := bI_n0.mp cc_42
          refine ok_aload_n (pc := 51) dX11_kite_51 rfl ?_
          refine ok_getf (pc := 52) dX11_kite_52 fl_X11_10 hC.1 rfl ?_
          refine ok_getf (pc := 55) dX11_kite_55 fl_X11_84 hC.2.1.o rfl ?_
          refine ok_bipush (pc := 58) (v := 8) dX11_kite_58 (by decide) ?_
          refine ok_icmp_lt (pc := 60) 69 dX11_kite_60 (by decide) (fun cc_60 => ?_) (fun cc_60 => ?_)
          · have ce_60 := Int32.not_le.mpr cc_60
            refine ok_aload_n (pc := 69) dX11_kite_69 rfl ?_
            refine ok_getf (pc := 70) dX11_kite_70 fl_X11_10 hC.1 rfl ?_
            refine ok_iload_n (pc := 73) dX11_kite_73 rfl ?_
            refine ok_iload_n (pc := 74) dX11_kite_74 rfl ?_
            refine ok_iload_n (pc := 75) dX11_kite_75 rfl ?_
            refine ok_callVi3B (pc := 76) (d' := 5) (b' := 1) (b'' := 0) dX11_kite_76 vl_X11_87 hC.2.1.o rfl rfl rfl (by decide) (by decide) ?_
            have h9 : cK σ < 8 := by
              rw [eK, fa_lit 8] at cc_60
              rcases Nat.lt_or_ge (cK σ) 8 with g | g
              · exact g
              · exact absurd cc_60 (nI_nlt g (by omega))
            obtain ⟨ex9, -, lx9⟩ := wi_lit (a := 0) (c := 69) rfl rfl (by decide) (by decide) cq_7
            have hkd : 0 ≤ x / 10 ∧ x / 10 ≤ 6 := by
              rw [ex9, fa_lit 10, pk_div (by omega) (by decide) (by decide)]
              exact ⟨nI_pos' (by omega), nI_le (b := 6) (by omega) (by decide)⟩
            refine c_addKite hC.2.1 hI (by omega) hez hzs h9 hkd (fun M9 hP9 hO9 => ?_)
            have hC := hC.fly hae hez hzs (z' := sz + 1) (by omega) hP9 (fun q h1 h2 => hO9 q (by omega) h2)
            refine ok_iret (pc := 79) dX11_kite_79 rfl ?_
            have hop : op_kite σ x y w = (0, nI (cK σ), flyF σ (cK σ) (x / 10) (jrem x 10) y (w / 100) (jrem w 100)) := (if_pos (by rw [cq_7, cq_18, cq_29, cq_42]; rfl)).trans (if_neg (by rw [eK]; intro h; have g9 := (nI_eq (b := 8) (by omega) (by decide)).mp h; omega))
            rw [hop] at k
            rw [eU_0] at k
            exact k _ (sz + 1) (sz + 1) (by omega) (Nat.le_refl _) (by omega) hC (fun q h1 h2 => hO9 q (by omega) h2)
          · have ce_60 := Int32.not_lt.mp cc_60
            refine ok_aload_n (pc := 63) dX11_kite_63 rfl ?_
            refine ok_iconst (pc := 64) (v := 4) dX11_kite_64 (by decide) ?_
            refine ok_callVi1 (pc := 65) (d' := 1) dX11_kite_65 vl_X11_49 hC.1 rfl rfl rfl (by decide) ?_
            refine c_error hC hI hae 4 rfl (by decide) (by decide) (fun M2 hC2 hO2 => ?_)
            refine ok_iret (pc := 68) dX11_kite_68 rfl ?_
            have hop : op_kite σ x y w = e3 4 σ := (if_pos (by rw [cq_7, cq_18, cq_29, cq_42]; rfl)).trans (if_pos (by rw [eK] at cc_60 ⊢; rcases Nat.lt_or_ge (cK σ) 8 with g | g; exact absurd (nI_lt (b := 8) g (by decide)) cc_60; rw [show cK σ = 8 by omega]; rfl))
            rw [hop] at k
            exact k _ z sz (Nat.le_refl _) hzs (Nat.le_refl _) hC2 (fun q h _ => hO2 q h)
        · have cq_42 := bI_0.mp cc_42
          refine ok_aload_n (pc := 45) dX11_kite_45 rfl ?_
          refine ok_iconst (pc := 46) (v := 1) dX11_kite_46 (by decide) ?_
          refine ok_callVi1 (pc := 47) (d' := 1) dX11_kite_47 vl_X11_49 hC.1 rfl rfl rfl (by decide) ?_
          refine c_error hC hI hae 1 rfl (by decide) (by decide) (fun M2 hC2 hO2 => ?_)
          refine ok_iret (pc := 50) dX11_kite_50 rfl ?_
          have hop : op_kite σ x y w = e3 1 σ := if_neg (by first | (rw [cq_7, Bool.false_and, Bool.false_and, Bool.false_and]; decide) | (rw [cq_18, Bool.and_false, Bool.false_and, Bool.false_and]; decide) | (rw [cq_29, Bool.and_false, Bool.false_and]; decide) | (rw [cq_42, Bool.and_false]; decide))
          rw [hop] at k
          exact k _ z sz (Nat.le_refl _) hzs (Nat.le_refl _) hC2 (fun q h _ => hO2 q h)

theorem pull_day {σ : Rw} {k h hr s t : Nat} {w : Int32} (e : s / 24 = t / 24) (hs : s < 2 ^ 30) (ht : t < 2 ^ 30) (hm : Nat) : pullF σ k h w hr (nI s) hm = pullF σ k h w hr (nI t) hm := by
  unfold pullF kdF
  rw [fa_lit 24, pk_div (by omega) (by decide) (by decide), pk_div (by omega) (by decide) (by decide), e]
theorem ov_day {σ : Rw} {k hr s t : Nat} {w : Int32} (e : s / 24 = t / 24) (hs : s < 2 ^ 30) (ht : t < 2 ^ 30) : ∀ n, ovF σ k w hr (nI s) n = ovF σ k w hr (nI t) n
  | 0 => rfl
  | n + 1 => by
    unfold ovF stS stF
    rw [ov_day e hs ht n, pull_day e hs ht]

set_option maxHeartbeats 1000000 in
theorem x_overF {Γ : Cx} {a e z sz : Nat} {σ κ vi : Rw} {va : Nat → Rw} {M : Nat → Option va_E} {K : Int32 → Wd → Prop} (hC : ClsR Γ a e z σ κ vi va M) (hI : Inv σ) (hae : a + 92 ≤ e) {x y w : Int32} (hx : wi x 0 (σ 2 - 1) = false) (k : ∀ M', ClsR Γ a e z σ κ vi (eU va (op_over σ x y w).1) M' → Off a 92 M M' → K (op_over σ x y w).2 (M', sz)) : Spec Γ mX11_over 5 0 [.ref a, .int x, .int y, .int w] (M, sz) (ci K) := by
  obtain ⟨⟨⟨eH, lH⟩, ⟨eK, lK⟩, ⟨eL, lL⟩, ⟨eA, lA⟩, ⟨eT, lT⟩⟩, iK, iH, iW, iL, iO, iB, hT⟩ := id hI
  
  refine spec_in [some (.ref a), some (.int x), some (.int y), some (.int w), none, none] 2 (by decide) rfl rfl ?_
  refine ok_aload_n (pc := 0) dX11_over_0 rfl ?_
  refine ok_getf (pc := 1) dX11_over_1 fl_X11_10 hC.1 rfl ?_
  refine ok_iload_n (pc := 4) dX11_over_4 rfl ?_
  refine ok_callVr1 (pc := 5) (d' := 0) dX11_over_5 vl_X11_91 hC.2.1.o rfl rfl rfl (by decide) ?_
  refine c_kiteAt hC.2.1 eK lK (fun q9 ex9 lx9 hK9 => absurd (wi_k eK lK ex9 lx9) (by rw [hx]; decide)) (fun h9 => ?_)
  refine ok_astoreN4 (pc := 8) dX11_over_8 (by decide) rfl ?_
  refine ok_aloadN (pc := 10) dX11_over_10 rfl ?_
  refine ok_ifnullN (pc := 12) 36 dX11_over_12 (by decide) ?_
  refine ok_aload_n (pc := 36) dX11_over_36 rfl ?_
  refine ok_iconst (pc := 37) (v := 1) dX11_over_37 (by decide) ?_
  refine ok_callVi1 (pc := 38) (d' := 1) dX11_over_38 vl_X11_49 hC.1 rfl rfl rfl (by decide) ?_
  refine c_error hC hI hae 1 rfl (by decide) (by decide) (fun M2 hC2 hO2 => ?_)
  refine ok_iret (pc := 41) dX11_over_41 rfl ?_
  have hop : op_over σ x y w = (1, -1000000001) := if_neg (by rw [hx, Bool.false_and, Bool.false_and]; decide)
  rw [hop] at k
  rw [er_1]
  exact k _ hC2 hO2

set_option maxHeartbeats 1000000 in
theorem x_overT {Γ : Cx} {a e z sz : Nat} {σ κ vi : Rw} {va : Nat → Rw} {M : Nat → Option va_E} {K : Int32 → Wd → Prop} (hC : ClsR Γ a e z σ κ vi va M) (hI : Inv σ) (hae : a + 92 ≤ e) {x y w : Int32} (hx : wi x 0 (σ 2 - 1) = true) (k : ∀ M', ClsR Γ a e z σ κ vi (eU va (op_over σ x y w).1) M' → Off a 92 M M' → K (op_over σ x y w).2 (M', sz)) : Spec Γ mX11_over 5 0 [.ref a, .int x, .int y, .int w] (M, sz) (ci K) := by
  obtain ⟨⟨⟨eH, lH⟩, ⟨eK, lK⟩, ⟨eL, lL⟩, ⟨eA, lA⟩, ⟨eT, lT⟩⟩, iK, iH, iW, iL, iO, iB, hT⟩ := id hI
  
  refine spec_in [some (.ref a), some (.int x), some (.int y), some (.int w), none, none] 2 (by decide) rfl rfl ?_
  refine ok_aload_n (pc := 0) dX11_over_0 rfl ?_
  refine ok_getf (pc := 1) dX11_over_1 fl_X11_10 hC.1 rfl ?_
  refine ok_iload_n (pc := 4) dX11_over_4 rfl ?_
  refine ok_callVr1 (pc := 5) (d' := 0) dX11_over_5 vl_X11_91 hC.2.1.o rfl rfl rfl (by decide) ?_
  refine c_kiteAt hC.2.1 eK lK (fun q9 ex9 lx9 hK9 => ?_) (fun h9 => absurd h9 (by rw [hx]; decide))
  refine ok_astore4 (pc := 8) dX11_over_8 (by decide) rfl ?_
  refine ok_aload (pc := 10) dX11_over_10 rfl ?_
  refine ok_ifnull (pc := 12) dX11_over_12 ?_
  refine ok_iload_n (pc := 15) dX11_over_15 rfl ?_
  refine ok_iconst (pc := 16) (v := 0) dX11_over_16 (by decide) ?_
  refine ok_bipush (pc := 17) (v := 23) dX11_over_17 (by decide) ?_
  refine ok_callSi3 (pc := 19) (d' := 0) dX11_over_19 sl_X11_45 rfl (by decide) ?_
  refine c_within ?_
  refine ok_if_eq (pc := 22) 36 dX11_over_22 (by decide) (fun cc_22 => ?_) (fun cc_22 => ?_)
  · have cq_22 := bI_0.mp cc_22
    refine ok_aload_n (pc := 36) dX11_over_36 rfl ?_
    refine ok_iconst (pc := 37) (v := 1) dX11_over_37 (by decide) ?_
    refine ok_callVi1 (pc := 38) (d' := 1) dX11_over_38 vl_X11_49 hC.1 rfl rfl rfl (by decide) ?_
    refine c_error hC hI hae 1 rfl (by decide) (by decide) (fun M2 hC2 hO2 => ?_)
    refine ok_iret (pc := 41) dX11_over_41 rfl ?_
    have hop : op_over σ x y w = (1, -1000000001) := if_neg (by first | (rw [cq_22, Bool.and_false, Bool.false_and]; decide) | (rw [cq_33, Bool.and_false]; decide))
    rw [hop] at k
    rw [er_1]
    exact k _ hC2 hO2
  · have cq_22 := bI_n0.mp cc_22
    refine ok_iload_n (pc := 25) dX11_over_25 rfl ?_
    refine ok_iconst (pc := 26) (v := 0) dX11_over_26 (by decide) ?_
    refine ok_sipush (pc := 27) (v := 999) dX11_over_27 (by decide) ?_
    refine ok_callSi3 (pc := 30) (d' := 0) dX11_over_30 sl_X11_45 rfl (by decide) ?_
    refine c_within ?_
    refine ok_if_ne (pc := 33) 42 dX11_over_33 (by decide) (fun cc_33 => ?_) (fun cc_33 => ?_)
    · have cq_33 := bI_n0.mp cc_33
      refine ok_aload_n (pc := 42) dX11_over_42 rfl ?_
      refine ok_getf (pc := 43) dX11_over_43 fl_X11_10 hC.1 rfl ?_
      refine ok_getf (pc := 46) dX11_over_46 fl_X11_122 hC.2.1.o rfl ?_
      refine ok_aload_n (pc := 49) dX11_over_49 rfl ?_
      refine ok_getf (pc := 50) dX11_over_50 fl_X11_10 hC.1 rfl ?_
      refine ok_getf (pc := 53) dX11_over_53 fl_X11_122 hC.2.1.o rfl ?_
      refine ok_bipush (pc := 56) (v := 24) dX11_over_56 (by decide) ?_
      refine ok_irem (pc := 58) dX11_over_58 (by decide) ?_
      refine ok_isub (pc := 59) dX11_over_59 ?_
      refine ok_istore5 (pc := 60) dX11_over_60 (by decide) rfl ?_
      refine ok_aload_n (pc := 62) dX11_over_62 rfl ?_
      refine ok_getf (pc := 63) dX11_over_63 fl_X11_10 hC.1 rfl ?_
      refine ok_aload (pc := 66) dX11_over_66 rfl ?_
      refine ok_iload_n (pc := 68) dX11_over_68 rfl ?_
      refine ok_iload (pc := 69) dX11_over_69 rfl ?_
      refine ok_iload_n (pc := 71) dX11_over_71 rfl ?_
      refine ok_iadd (pc := 72) dX11_over_72 ?_
      refine ok_callVi3 (pc := 73) (d' := 4) dX11_over_73 vl_X11_133 hC.2.1.o rfl rfl rfl (by decide) ?_
      obtain ⟨ey9, -, ly9⟩ := wi_lit (a := 0) (c := 23) rfl rfl (by decide) (by decide) cq_22
      have etm : σ 0 - jrem (σ 0) 24 + y = nI (cT σ - cT σ % 24 + iN y) := by
        have e1 : jrem (nI (cT σ)) 24 = nI (cT σ % 24) := pk_rem (by omega) (by decide) (by decide)
        have hle := Nat.mod_le (cT σ) 24
        calc σ 0 - jrem (σ 0) 24 + y = nI (cT σ) - jrem (nI (cT σ)) 24 + nI (iN y) := by rw [← eT, ← ey9]
          _ = nI (cT σ - cT σ % 24 + iN y) := by rw [e1, pk_sub hle, nI_add]
      refine c_overAt hC.2.1 hI (by omega) (iN x) hK9 lx9 (cT σ - cT σ % 24 + iN y) etm (by omega) (fun M9 hP9 hO9 => ?_)
      have hC9 := hC.po hI hae hP9 (fun q hq => hO9 q (by omega))
      have hO : Off a 92 M M9 := hO9.sub (by omega) (by omega)
      refine ok_iret (pc := 76) dX11_over_76 rfl ?_
      have hop : op_over σ x y w = (0, ovF σ (iN x) w (iN y) (σ 0) (cH σ)) := if_pos (by rw [hx, cq_22, cq_33]; rfl)
      rw [hop] at k
      rw [eU_0] at k
      have hm9 : (cT σ - cT σ % 24 + iN y) % 24 = iN y := by omega
      have hov : ovF σ (iN x) w ((cT σ - cT σ % 24 + iN y) % 24) (σ 0 - jrem (σ 0) 24 + y) (cH σ) = ovF σ (iN x) w (iN y) (σ 0) (cH σ) := by
        rw [hm9, etm, ov_day (t := cT σ) (by omega) (by omega) (by omega), ← eT]
      rw [hov]
      exact k _ hC9 hO
    · have cq_33 := bI_0.mp cc_33
      refine ok_aload_n (pc := 36) dX11_over_36 rfl ?_
      refine ok_iconst (pc := 37) (v := 1) dX11_over_37 (by decide) ?_
      refine ok_callVi1 (pc := 38) (d' := 1) dX11_over_38 vl_X11_49 hC.1 rfl rfl rfl (by decide) ?_
      refine c_error hC hI hae 1 rfl (by decide) (by decide) (fun M2 hC2 hO2 => ?_)
      refine ok_iret (pc := 41) dX11_over_41 rfl ?_
      have hop : op_over σ x y w = (1, -1000000001) := if_neg (by first | (rw [cq_22, Bool.and_false, Bool.false_and]; decide) | (rw [cq_33, Bool.and_false]; decide))
      rw [hop] at k
      rw [er_1]
      exact k _ hC2 hO2

theorem x_over {Γ : Cx} {a e z sz : Nat} {σ κ vi : Rw} {va : Nat → Rw} {M : Nat → Option va_E} {K : Int32 → Wd → Prop} (hC : ClsR Γ a e z σ κ vi va M) (hI : Inv σ) (hae : a + 92 ≤ e) {x y w : Int32} (k : ∀ M', ClsR Γ a e z σ κ vi (eU va (op_over σ x y w).1) M' → Off a 92 M M' → K (op_over σ x y w).2 (M', sz)) : Spec Γ mX11_over 5 0 [.ref a, .int x, .int y, .int w] (M, sz) (ci K) := by
  cases hx : wi x 0 (σ 2 - 1) with
  | true => exact x_overT hC hI hae hx k
  | false => exact x_overF hC hI hae hx k
