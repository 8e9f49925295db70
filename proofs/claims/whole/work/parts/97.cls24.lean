theorem two_bits {H x y : Nat} (hH : H < 2 ^ 8) (hx : x < 8) (hy : y < 8) : (nI H &&& (nI (2 ^ x) ||| nI (2 ^ y)) = nI (2 ^ x) ||| nI (2 ^ y)) ↔ (H.testBit x && H.testBit y) = true := by
  have l1 : 2 ^ x ||| 2 ^ y < 2 ^ 8 := or_lt (pw_lt hx) (pw_lt hy)
  rw [fa_or, fa_and, nI_eq (by have := Nat.and_le_left (n := H) (m := 2 ^ x ||| 2 ^ y); omega) (by omega), Bool.and_eq_true]
  constructor
  · intro h
    have b1 : (2 ^ x ||| 2 ^ y).testBit x = true := by rw [Nat.testBit_or, Nat.testBit_two_pow_self, Bool.true_or]
    have b2 : (2 ^ x ||| 2 ^ y).testBit y = true := by rw [Nat.testBit_or, Nat.testBit_two_pow_self, Bool.or_true]
    have c1 := b1
    have c2 := b2
    rw [← h, Nat.testBit_and, Bool.and_eq_true] at c1 c2
    exact ⟨c1.1, c2.1⟩
  · intro ⟨h1, h2⟩
    apply Nat.eq_of_testBit_eq
    intro i
    rw [Nat.testBit_and]
    cases hb : (2 ^ x ||| 2 ^ y).testBit i with
    | false => rw [Bool.and_false]
    | true =>
      rw [Nat.testBit_or, Bool.or_eq_true, Nat.testBit_two_pow, Nat.testBit_two_pow] at hb
      rcases hb with g | g
      · rw [← of_decide_eq_true g, h1]; rfl
      · rw [← of_decide_eq_true g, h2]; rfl

set_option maxHeartbeats 1000000 in
theorem x_cross66 {Γ : Cx} {a e z sz : Nat} {σ κ vi : Rw} {va : Nat → Rw} {M : Nat → Option va_E} {K : Int32 → Wd → Prop} (hC : ClsR Γ a e z σ κ vi va M) (hI : Inv σ) (hae : a + 92 ≤ e) {x y x3 : Int32} {M0 : Nat → Option va_E} (hO : Off a 92 M0 M) (ex9 : x = nI (iN x)) (ey9 : y = nI (iN y)) (lx9 : iN x < cK σ) (ly9 : iN y < cK σ) {fl : Bool} (hfl : fl = ((hvN σ (cK σ)).testBit (iN x) && (hvN σ (cK σ)).testBit (iN y))) (hop : op_cross σ x y = (0, bI (fl && crF σ (iN x) (iN y)))) (k : ∀ M', ClsR Γ a e z σ κ vi (eU va (op_cross σ x y).1) M' → Off a 92 M0 M' → K (op_cross σ x y).2 (M', sz)) : Ok Γ mX11_cross 5 0 66 [some (.ref a), some (.int x), some (.int y), some (.int x3), none] [.int (bI fl)] (M, sz) (ci K) := by
  rw [hop] at k
  rw [eU_0] at k
  refine ok_istore4 (pc := 66) dX11_cross_66 (by decide) rfl ?_
  refine ok_iload (pc := 68) dX11_cross_68 rfl ?_
  refine ok_if_eq (pc := 70) 89 dX11_cross_70 (by decide) (fun cc_70 => ?_) (fun cc_70 => ?_)
  · refine ok_iconst (pc := 89) (v := 0) dX11_cross_89 (by decide) ?_
    refine ok_iret (pc := 90) dX11_cross_90 rfl ?_
    first
      | (have h3 := bI_0.mp cc_70
         rw [h3] at k
         exact k _ hC hO)
      | (have h3 := b_tr (fun h => cc_70 (bI_0.mpr h))
         rw [h3, cq_82] at k
         exact k _ hC hO)
  · refine ok_aload_n (pc := 73) dX11_cross_73 rfl ?_
    refine ok_getf (pc := 74) dX11_cross_74 fl_X11_10 hC.1 rfl ?_
    refine ok_iload_n (pc := 77) dX11_cross_77 rfl ?_
    refine ok_iload_n (pc := 78) dX11_cross_78 rfl ?_
    refine ok_callVi2 (pc := 79) (d' := 3) dX11_cross_79 vl_X11_169 hC.2.1.o rfl rfl rfl (by decide) ?_
    have h2 := hfl.symm.trans (b_tr (fun h => cc_70 (bI_0.mpr h)))
    rw [Bool.and_eq_true] at h2
    refine c_linesMeet hC.2.1 hI (iN x) (iN y) ex9 ey9 lx9 ly9 (hvN_aim _ h2.1).2 (hvN_aim _ h2.2).2 ?_
    refine ok_if_eq (pc := 82) 89 dX11_cross_82 (by decide) (fun cc_82 => ?_) (fun cc_82 => ?_)
    · have cq_82 := bI_0.mp cc_82
      refine ok_iconst (pc := 89) (v := 0) dX11_cross_89 (by decide) ?_
      refine ok_iret (pc := 90) dX11_cross_90 rfl ?_
      first
        | (have h3 := bI_0.mp cc_70
           rw [h3] at k
           exact k _ hC hO)
        | (have h3 := b_tr (fun h => cc_70 (bI_0.mpr h))
           rw [h3, cq_82] at k
           exact k _ hC hO)
    · have cq_82 := bI_n0.mp cc_82
      refine ok_iconst (pc := 85) (v := 1) dX11_cross_85 (by decide) ?_
      refine ok_goto (pc := 86) 90 dX11_cross_86 (by decide) ?_
      refine ok_iret (pc := 90) dX11_cross_90 rfl ?_
      first
        | (have h3 := bI_0.mp cc_70
           rw [h3] at k
           exact k _ hC hO)
        | (have h3 := b_tr (fun h => cc_70 (bI_0.mpr h))
           rw [h3, cq_82] at k
           exact k _ hC hO)

set_option maxHeartbeats 1000000 in
theorem x_crossF {Γ : Cx} {a e z sz : Nat} {σ κ vi : Rw} {va : Nat → Rw} {M : Nat → Option va_E} {K : Int32 → Wd → Prop} (hC : ClsR Γ a e z σ κ vi va M) (hI : Inv σ) (hae : a + 92 ≤ e) {x y : Int32} (hx : wi x 0 (σ 2 - 1) = false) (k : ∀ M', ClsR Γ a e z σ κ vi (eU va (op_cross σ x y).1) M' → Off a 92 M M' → K (op_cross σ x y).2 (M', sz)) : Spec Γ mX11_cross 5 0 [.ref a, .int x, .int y] (M, sz) (ci K) := by
  obtain ⟨⟨⟨eH, lH⟩, ⟨eK, lK⟩, ⟨eL, lL⟩, ⟨eA, lA⟩, ⟨eT, lT⟩⟩, iK, iH, iW, iL, iO, iB, hT⟩ := id hI
  
  refine spec_in [some (.ref a), some (.int x), some (.int y), none, none] 2 (by decide) rfl rfl ?_
  refine ok_aload_n (pc := 0) dX11_cross_0 rfl ?_
  refine ok_getf (pc := 1) dX11_cross_1 fl_X11_10 hC.1 rfl ?_
  refine ok_iload_n (pc := 4) dX11_cross_4 rfl ?_
  refine ok_callVr1 (pc := 5) (d' := 0) dX11_cross_5 vl_X11_91 hC.2.1.o rfl rfl rfl (by decide) ?_
  refine c_kiteAt hC.2.1 eK lK (fun q9 ex9 lx9 hK9 => absurd (wi_k eK lK ex9 lx9) (by rw [hx]; decide)) (fun h9 => ?_)
  refine ok_ifnullN (pc := 8) 27 dX11_cross_8 (by decide) ?_
  refine ok_aload_n (pc := 27) dX11_cross_27 rfl ?_
  refine ok_iconst (pc := 28) (v := 1) dX11_cross_28 (by decide) ?_
  refine ok_callVi1 (pc := 29) (d' := 1) dX11_cross_29 vl_X11_49 hC.1 rfl rfl rfl (by decide) ?_
  refine c_error hC hI hae 1 rfl (by decide) (by decide) (fun M2 hC2 hO2 => ?_)
  refine ok_iret (pc := 32) dX11_cross_32 rfl ?_
  have hop : op_cross σ x y = (1, -1000000001) := if_neg (by rw [hx, Bool.false_and, Bool.false_and]; decide)
  rw [hop] at k
  rw [er_1]
  exact k _ hC2 hO2

set_option maxHeartbeats 1000000 in
theorem x_crossG {Γ : Cx} {a e z sz : Nat} {σ κ vi : Rw} {va : Nat → Rw} {M : Nat → Option va_E} {K : Int32 → Wd → Prop} (hC : ClsR Γ a e z σ κ vi va M) (hI : Inv σ) (hae : a + 92 ≤ e) {x y : Int32} (hx : wi x 0 (σ 2 - 1) = true) (hy : wi y 0 (σ 2 - 1) = false) (k : ∀ M', ClsR Γ a e z σ κ vi (eU va (op_cross σ x y).1) M' → Off a 92 M M' → K (op_cross σ x y).2 (M', sz)) : Spec Γ mX11_cross 5 0 [.ref a, .int x, .int y] (M, sz) (ci K) := by
  obtain ⟨⟨⟨eH, lH⟩, ⟨eK, lK⟩, ⟨eL, lL⟩, ⟨eA, lA⟩, ⟨eT, lT⟩⟩, iK, iH, iW, iL, iO, iB, hT⟩ := id hI
  
  refine spec_in [some (.ref a), some (.int x), some (.int y), none, none] 2 (by decide) rfl rfl ?_
  refine ok_aload_n (pc := 0) dX11_cross_0 rfl ?_
  refine ok_getf (pc := 1) dX11_cross_1 fl_X11_10 hC.1 rfl ?_
  refine ok_iload_n (pc := 4) dX11_cross_4 rfl ?_
  refine ok_callVr1 (pc := 5) (d' := 0) dX11_cross_5 vl_X11_91 hC.2.1.o rfl rfl rfl (by decide) ?_
  refine c_kiteAt hC.2.1 eK lK (fun q8 exq8 lxq8 hKq8 => ?_) (fun h9 => absurd h9 (by rw [hx]; decide))
  refine ok_ifnull (pc := 8) dX11_cross_8 ?_
  refine ok_aload_n (pc := 11) dX11_cross_11 rfl ?_
  refine ok_getf (pc := 12) dX11_cross_12 fl_X11_10 hC.1 rfl ?_
  refine ok_iload_n (pc := 15) dX11_cross_15 rfl ?_
  refine ok_callVr1 (pc := 16) (d' := 0) dX11_cross_16 vl_X11_91 hC.2.1.o rfl rfl rfl (by decide) ?_
  refine c_kiteAt hC.2.1 eK lK (fun q9 ex9 lx9 hK9 => absurd (wi_k eK lK ex9 lx9) (by rw [hy]; decide)) (fun h9 => ?_)
  refine ok_ifnullN (pc := 19) 27 dX11_cross_19 (by decide) ?_
  refine ok_aload_n (pc := 27) dX11_cross_27 rfl ?_
  refine ok_iconst (pc := 28) (v := 1) dX11_cross_28 (by decide) ?_
  refine ok_callVi1 (pc := 29) (d' := 1) dX11_cross_29 vl_X11_49 hC.1 rfl rfl rfl (by decide) ?_
  refine c_error hC hI hae 1 rfl (by decide) (by decide) (fun M2 hC2 hO2 => ?_)
  refine ok_iret (pc := 32) dX11_cross_32 rfl ?_
  have hop : op_cross σ x y = (1, -1000000001) := if_neg (by rw [hy, Bool.and_false, Bool.false_and]; decide)
  rw [hop] at k
  rw [er_1]
  exact k _ hC2 hO2

set_option maxHeartbeats 1000000 in
theorem x_crossT {Γ : Cx} {a e z sz : Nat} {σ κ vi : Rw} {va : Nat → Rw} {M : Nat → Option va_E} {K : Int32 → Wd → Prop} (hC : ClsR Γ a e z σ κ vi va M) (hI : Inv σ) (hae : a + 92 ≤ e) {x y : Int32} (hx : wi x 0 (σ 2 - 1) = true) (hy : wi y 0 (σ 2 - 1) = true) (k : ∀ M', ClsR Γ a e z σ κ vi (eU va (op_cross σ x y).1) M' → Off a 92 M M' → K (op_cross σ x y).2 (M', sz)) : Spec Γ mX11_cross 5 0 [.ref a, .int x, .int y] (M, sz) (ci K) := by
  obtain ⟨⟨⟨eH, lH⟩, ⟨eK, lK⟩, ⟨eL, lL⟩, ⟨eA, lA⟩, ⟨eT, lT⟩⟩, iK, iH, iW, iL, iO, iB, hT⟩ := id hI
  obtain ⟨ex9, lx9⟩ := wi_cnt eK (by omega) hx
  obtain ⟨ey9, ly9⟩ := wi_cnt eK (by omega) hy
  
  refine spec_in [some (.ref a), some (.int x), some (.int y), none, none] 2 (by decide) rfl rfl ?_
  refine ok_aload_n (pc := 0) dX11_cross_0 rfl ?_
  refine ok_getf (pc := 1) dX11_cross_1 fl_X11_10 hC.1 rfl ?_
  refine ok_iload_n (pc := 4) dX11_cross_4 rfl ?_
  refine ok_callVr1 (pc := 5) (d' := 0) dX11_cross_5 vl_X11_91 hC.2.1.o rfl rfl rfl (by decide) ?_
  refine c_kiteAt hC.2.1 eK lK (fun q8 exq8 lxq8 hKq8 => ?_) (fun h9 => absurd h9 (by rw [hx]; decide))
  refine ok_ifnull (pc := 8) dX11_cross_8 ?_
  refine ok_aload_n (pc := 11) dX11_cross_11 rfl ?_
  refine ok_getf (pc := 12) dX11_cross_12 fl_X11_10 hC.1 rfl ?_
  refine ok_iload_n (pc := 15) dX11_cross_15 rfl ?_
  refine ok_callVr1 (pc := 16) (d' := 0) dX11_cross_16 vl_X11_91 hC.2.1.o rfl rfl rfl (by decide) ?_
  refine c_kiteAt hC.2.1 eK lK (fun q7 exq7 lxq7 hKq7 => ?_) (fun h9 => absurd h9 (by rw [hy]; decide))
  refine ok_ifnull (pc := 19) dX11_cross_19 ?_
  refine ok_iload_n (pc := 22) dX11_cross_22 rfl ?_
  refine ok_iload_n (pc := 23) dX11_cross_23 rfl ?_
  refine ok_icmp_ne (pc := 24) 33 dX11_cross_24 (by decide) (fun cc_24 => ?_) (fun cc_24 => ?_)
  · refine ok_iconst (pc := 33) (v := 1) dX11_cross_33 (by decide) ?_
    refine ok_iload_n (pc := 34) dX11_cross_34 rfl ?_
    refine ok_ishl (pc := 35) dX11_cross_35 ?_
    refine ok_iconst (pc := 36) (v := 1) dX11_cross_36 (by decide) ?_
    refine ok_iload_n (pc := 37) dX11_cross_37 rfl ?_
    refine ok_ishl (pc := 38) dX11_cross_38 ?_
    refine ok_ior (pc := 39) dX11_cross_39 ?_
    refine ok_istore_n3 (pc := 40) dX11_cross_40 (by decide) rfl ?_
    refine ok_aload_n (pc := 41) dX11_cross_41 rfl ?_
    refine ok_getf (pc := 42) dX11_cross_42 fl_X11_10 hC.1 rfl ?_
    refine ok_aload_n (pc := 45) dX11_cross_45 rfl ?_
    refine ok_getf (pc := 46) dX11_cross_46 fl_X11_10 hC.1 rfl ?_
    refine ok_getf (pc := 49) dX11_cross_49 fl_X11_122 hC.2.1.o rfl ?_
    refine ok_callVi1 (pc := 52) (d' := 4) dX11_cross_52 vl_X11_166 hC.2.1.o rfl rfl rfl (by decide) ?_
    have hbn : ∀ q, q < cK σ → (hvN σ (cK σ)).testBit q = lnF σ q := fun q hq => by rw [hvN_bit]; simp [hq]
    have hop : op_cross σ x y = (0, bI (((hvN σ (cK σ)).testBit (iN x) && (hvN σ (cK σ)).testBit (iN y)) && crF σ (iN x) (iN y))) := (if_pos (by rw [hx, hy, decide_eq_false cc_24]; rfl)).trans (by rw [hbn _ lx9, hbn _ ly9])
    have h2b := two_bits (hvN_lt8 lK (σ := σ)) (show iN x < 8 by omega) (show iN y < 8 by omega)
    refine c_lineBits hC.2.1 hI (by omega) rfl (fun M9 hP9 hO9 => ?_)
    have hC9 := hC.po hI hae hP9 (fun q hq => hO9 q (by omega))
    have hO : Off a 92 M M9 := hO9.sub (by omega) (by omega)
    have hC := hC9
    rw [hvF_n σ _ (by omega)]
    refine ok_iload_n (pc := 55) dX11_cross_55 rfl ?_
    refine ok_iand (pc := 56) dX11_cross_56 ?_
    refine ok_iload_n (pc := 57) dX11_cross_57 rfl ?_
    rw [ex9, ey9, jshl_1 (by omega), jshl_1 (by omega), ← ex9, ← ey9]
    refine ok_icmp_ne (pc := 58) 65 dX11_cross_58 (by decide) (fun cc_58 => ?_) (fun cc_58 => ?_)
    · have hf : ((hvN σ (cK σ)).testBit (iN x) && (hvN σ (cK σ)).testBit (iN y)) = false := Bool.eq_false_iff.mpr (fun h => cc_58 (h2b.mpr h))
      refine ok_iconst (pc := 65) (v := 0) dX11_cross_65 (by decide) ?_
      exact x_cross66 hC hI hae hO ex9 ey9 lx9 ly9 hf.symm (by rw [hop, hf]) k
    · have hf := h2b.mp cc_58
      refine ok_iconst (pc := 61) (v := 1) dX11_cross_61 (by decide) ?_
      refine ok_goto (pc := 62) 66 dX11_cross_62 (by decide) ?_
      exact x_cross66 hC hI hae hO ex9 ey9 lx9 ly9 hf.symm (by rw [hop, hf]) k
  · refine ok_aload_n (pc := 27) dX11_cross_27 rfl ?_
    refine ok_iconst (pc := 28) (v := 1) dX11_cross_28 (by decide) ?_
    refine ok_callVi1 (pc := 29) (d' := 1) dX11_cross_29 vl_X11_49 hC.1 rfl rfl rfl (by decide) ?_
    refine c_error hC hI hae 1 rfl (by decide) (by decide) (fun M2 hC2 hO2 => ?_)
    refine ok_iret (pc := 32) dX11_cross_32 rfl ?_
    have hop : op_cross σ x y = (1, -1000000001) := if_neg (by rw [decide_eq_true cc_24, Bool.not_true, Bool.and_false]; decide)
    rw [hop] at k
    rw [er_1]
    exact k _ hC2 hO2

theorem x_cross {Γ : Cx} {a e z sz : Nat} {σ κ vi : Rw} {va : Nat → Rw} {M : Nat → Option va_E} {K : Int32 → Wd → Prop} (hC : ClsR Γ a e z σ κ vi va M) (hI : Inv σ) (hae : a + 92 ≤ e) {x y : Int32} (k : ∀ M', ClsR Γ a e z σ κ vi (eU va (op_cross σ x y).1) M' → Off a 92 M M' → K (op_cross σ x y).2 (M', sz)) : Spec Γ mX11_cross 5 0 [.ref a, .int x, .int y] (M, sz) (ci K) := by
  cases hx : wi x 0 (σ 2 - 1) with
  | true =>
    cases hy : wi y 0 (σ 2 - 1) with
    | true => exact x_crossT hC hI hae hx hy k
    | false => exact x_crossG hC hI hae hx hy k
  | false => exact x_crossF hC hI hae hx k
