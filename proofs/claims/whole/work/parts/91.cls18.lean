set_option maxHeartbeats 1000000 in
theorem x_lines {Γ : Cx} {a e z sz : Nat} {σ κ vi : Rw} {va : Nat → Rw} {M : Nat → Option va_E} {K : Int32 → Wd → Prop} (hC : ClsR Γ a e z σ κ vi va M) (hI : Inv σ) (hae : a + 92 ≤ e) {x : Int32} (k : ∀ M', ClsR Γ a e z σ κ vi (eU va (op_lines σ x).1) M' → Off a 92 M M' → K (op_lines σ x).2 (M', sz)) : Spec Γ mX11_lines 5 0 [.ref a, .int x] (M, sz) (ci K) := by
  obtain ⟨⟨⟨eH, lH⟩, ⟨eK, lK⟩, ⟨eL, lL⟩, ⟨eA, lA⟩, ⟨eT, lT⟩⟩, iK, iH, iW, iL, iO, iB, hT⟩ := id hI
  
  refine spec_in [some (.ref a), some (.int x), none] 1 (by decide) rfl rfl ?_
  refine ok_iload_n (pc := 0) dX11_lines_0 rfl ?_
  refine ok_iconst (pc := 1) (v := 0) dX11_lines_1 (by decide) ?_
  refine ok_iconst (pc := 2) (v := 1) dX11_lines_2 (by decide) ?_
  refine ok_callSi3 (pc := 3) (d' := 0) dX11_lines_3 sl_X11_45 rfl (by decide) ?_
  refine c_within ?_
  refine ok_if_ne (pc := 6) 15 dX11_lines_6 (by decide) (fun cc_6 => ?_) (fun cc_6 => ?_)
  · have cq_6 := bI_n0.mp cc_6
    refine ok_aload_n (pc := 15) dX11_lines_15 rfl ?_
    refine ok_getf (pc := 16) dX11_lines_16 fl_X11_10 hC.1 rfl ?_
    refine ok_aload_n (pc := 19) dX11_lines_19 rfl ?_
    refine ok_getf (pc := 20) dX11_lines_20 fl_X11_10 hC.1 rfl ?_
    refine ok_getf (pc := 23) dX11_lines_23 fl_X11_122 hC.2.1.o rfl ?_
    refine ok_callVi1 (pc := 26) (d' := 4) dX11_lines_26 vl_X11_166 hC.2.1.o rfl rfl rfl (by decide) ?_
    refine c_lineBits hC.2.1 hI (by omega) rfl (fun M9 hP9 hO9 => ?_)
    have hC9 := hC.po hI hae hP9 (fun q hq => hO9 q (by omega))
    have hO : Off a 92 M M9 := hO9.sub (by omega) (by omega)
    have hC := hC9
    rw [hvF_n σ _ (by omega)]
    refine ok_istore_n2 (pc := 29) dX11_lines_29 (by decide) rfl ?_
    refine ok_iload_n (pc := 30) dX11_lines_30 rfl ?_
    refine ok_if_ne (pc := 31) 38 dX11_lines_31 (by decide) (fun cc_31 => ?_) (fun cc_31 => ?_)
    · refine ok_aload_n (pc := 38) dX11_lines_38 rfl ?_
      refine ok_getf (pc := 39) dX11_lines_39 fl_X11_10 hC.1 rfl ?_
      refine ok_iload_n (pc := 42) dX11_lines_42 rfl ?_
      refine ok_callVi1 (pc := 43) (d' := 4) dX11_lines_43 vl_X11_173 hC.2.1.o rfl rfl rfl (by decide) ?_
      refine c_downBits hP9 hI (hvN σ (cK σ)) rfl (hvN_lt8 lK) hvN_aim ?_
      refine ok_iret (pc := 46) dX11_lines_46 rfl ?_
      have hop : op_lines σ x = (0, if x = 0 then nI (hvN σ (cK σ)) else nI (hvN σ (cK σ)) &&& (nI (suN σ 16 (hvN σ (cK σ)) 0) ^^^ -1)) := if_pos cq_6
      rw [hop] at k
      rw [eU_0] at k
      first
        | (rw [if_pos cc_31] at k
           exact k _ hC9 hO)
        | (rw [if_neg cc_31] at k
           have hsu : suN σ 8 (hvN σ (cK σ)) 0 = suN σ 16 (hvN σ (cK σ)) 0 := suN_more 8 16 _ _ (bc8 (hvN_lt8 lK)) (Nat.le_trans (bc8 (hvN_lt8 lK)) (by decide)) (hvN_lt8 lK) (fun k9 h9 => (hvN_aim k9 h9).1)
           rw [hsu]
           exact k _ hC9 hO)
    · refine ok_iload_n (pc := 34) dX11_lines_34 rfl ?_
      refine ok_goto (pc := 35) 46 dX11_lines_35 (by decide) ?_
      refine ok_iret (pc := 46) dX11_lines_46 rfl ?_
      have hop : op_lines σ x = (0, if x = 0 then nI (hvN σ (cK σ)) else nI (hvN σ (cK σ)) &&& (nI (suN σ 16 (hvN σ (cK σ)) 0) ^^^ -1)) := if_pos cq_6
      rw [hop] at k
      rw [eU_0] at k
      first
        | (rw [if_pos cc_31] at k
           exact k _ hC9 hO)
        | (rw [if_neg cc_31] at k
           have hsu : suN σ 8 (hvN σ (cK σ)) 0 = suN σ 16 (hvN σ (cK σ)) 0 := suN_more 8 16 _ _ (bc8 (hvN_lt8 lK)) (Nat.le_trans (bc8 (hvN_lt8 lK)) (by decide)) (hvN_lt8 lK) (fun k9 h9 => (hvN_aim k9 h9).1)
           rw [hsu]
           exact k _ hC9 hO)
  · have cq_6 := bI_0.mp cc_6
    refine ok_aload_n (pc := 9) dX11_lines_9 rfl ?_
    refine ok_iconst (pc := 10) (v := 1) dX11_lines_10 (by decide) ?_
    refine ok_callVi1 (pc := 11) (d' := 1) dX11_lines_11 vl_X11_49 hC.1 rfl rfl rfl (by decide) ?_
    refine c_error hC hI hae 1 rfl (by decide) (by decide) (fun M2 hC2 hO2 => ?_)
    refine ok_iret (pc := 14) dX11_lines_14 rfl ?_
    have hop : op_lines σ x = (1, -1000000001) := if_neg (by rw [cq_6]; decide)
    rw [hop] at k
    rw [er_1]
    exact k _ hC2 hO2

set_option maxHeartbeats 1000000 in
theorem x_beforeN {Γ : Cx} {a e z sz : Nat} {σ κ vi : Rw} {va : Nat → Rw} {M : Nat → Option va_E} {K : Int32 → Wd → Prop} (hC : ClsR Γ a e z σ κ vi va M) (hI : Inv σ) (hae : a + 92 ≤ e) (hbf : bfA σ (cA σ) 0 0 = none) (k : ∀ M', ClsR Γ a e z σ κ vi (eU va (bfR (bfA σ (cA σ) 0 0)).1) M' → Off a 92 M M' → K (bfR (bfA σ (cA σ) 0 0)).2 (M', sz)) : Ok Γ mX11_before 3 0 7 [some (.ref a), none] [.int (oI none)] (M, sz) (ci K) := by
  rw [hbf] at k
  refine ok_istore_n1 (pc := 7) dX11_before_7 (by decide) rfl ?_
  refine ok_iload_n (pc := 8) dX11_before_8 rfl ?_
  refine ok_if_ge (pc := 9) 20 dX11_before_9 (by decide) (fun cc_9 => ?_) (fun cc_9 => ?_)
  · exact absurd cc_9 (by decide)
  · have ce_9 := Int32.not_le.mp cc_9
    refine ok_aload_n (pc := 12) dX11_before_12 rfl ?_
    refine ok_iconst (pc := 13) (v := 2) dX11_before_13 (by decide) ?_
    refine ok_callVi1 (pc := 14) (d' := 1) dX11_before_14 vl_X11_49 hC.1 rfl rfl rfl (by decide) ?_
    refine c_error hC hI hae 2 rfl (by decide) (by decide) (fun M2 hC2 hO2 => ?_)
    refine ok_goto (pc := 17) 21 dX11_before_17 (by decide) ?_
    refine ok_iret (pc := 21) dX11_before_21 rfl ?_
    rw [er_2]
    exact k _ hC2 hO2

set_option maxHeartbeats 1000000 in
theorem x_beforeS {Γ : Cx} {a e z sz : Nat} {σ κ vi : Rw} {va : Nat → Rw} {M : Nat → Option va_E} {K : Int32 → Wd → Prop} (hC : ClsR Γ a e z σ κ vi va M) (hI : Inv σ) (hae : a + 92 ≤ e) (l9 : Nat) (hbf : bfA σ (cA σ) 0 0 = some l9) (hl : l9 < 2 ^ 30) (k : ∀ M', ClsR Γ a e z σ κ vi (eU va (bfR (bfA σ (cA σ) 0 0)).1) M' → Off a 92 M M' → K (bfR (bfA σ (cA σ) 0 0)).2 (M', sz)) : Ok Γ mX11_before 3 0 7 [some (.ref a), none] [.int (oI (some l9))] (M, sz) (ci K) := by
  rw [hbf] at k
  refine ok_istore_n1 (pc := 7) dX11_before_7 (by decide) rfl ?_
  refine ok_iload_n (pc := 8) dX11_before_8 rfl ?_
  refine ok_if_ge (pc := 9) 20 dX11_before_9 (by decide) (fun cc_9 => ?_) (fun cc_9 => ?_)
  · have ce_9 := Int32.not_lt.mpr cc_9
    refine ok_iload_n (pc := 20) dX11_before_20 rfl ?_
    refine ok_iret (pc := 21) dX11_before_21 rfl ?_
    rw [show (bfR (some l9)).1 = 0 from rfl, eU_0] at k
    exact k _ hC Off.rfl'
  · exact absurd (show (0 : Int32) ≤ oI (some l9) from nI_pos' (by omega)) cc_9

theorem bfA_lt {σ : Rw} (hI : Inv σ) : ∀ n j s l, j + n ≤ cA σ → bfA σ n j s = some l → l < cL σ
  | 0, _, _, _, _, h => by cases h
  | n + 1, j, s, l, hj, h => by
    obtain ⟨-, lor⟩ := hI.2.2.2.2.2.1 j (by omega)
    unfold bfA at h
    split at h
    · have e9 := Option.some.inj h
      rw [← e9]
      exact lor
    · exact bfA_lt hI n (j + 1) _ l (by omega) h

set_option maxHeartbeats 1000000 in
theorem x_before {Γ : Cx} {a e z sz : Nat} {σ κ vi : Rw} {va : Nat → Rw} {M : Nat → Option va_E} {K : Int32 → Wd → Prop} (hC : ClsR Γ a e z σ κ vi va M) (hI : Inv σ) (hae : a + 92 ≤ e) (k : ∀ M', ClsR Γ a e z σ κ vi (eU va (op_before σ).1) M' → Off a 92 M M' → K (op_before σ).2 (M', sz)) : Spec Γ mX11_before 3 0 [.ref a] (M, sz) (ci K) := by
  unfold op_before at k
  
  refine spec_in [some (.ref a), none] 1 (by decide) rfl rfl ?_
  refine ok_aload_n (pc := 0) dX11_before_0 rfl ?_
  refine ok_getf (pc := 1) dX11_before_1 fl_X11_10 hC.1 rfl ?_
  refine ok_callVi0 (pc := 4) (d' := 2) dX11_before_4 vl_X11_231 hC.2.1.o rfl rfl rfl (by decide) ?_
  refine c_firstBefore hC.2.1 hI ?_
  cases hbf : bfA σ (cA σ) 0 0 with
  | none => exact x_beforeN hC hI hae hbf k
  | some l9 => exact x_beforeS hC hI hae l9 hbf (by have h9 := bfA_lt hI _ _ _ _ (by omega) hbf; have := hI.1.2.2.1.2; omega) k
  skip

set_option maxHeartbeats 1000000 in
theorem x_order {Γ : Cx} {a e z sz : Nat} {σ κ vi : Rw} {va : Nat → Rw} {M : Nat → Option va_E} {K : Int32 → Wd → Prop} (hC : ClsR Γ a e z σ κ vi va M) (hI : Inv σ) (hae : a + 92 ≤ e) {x y : Int32} (k : ∀ M', ClsR Γ a e z σ κ vi (eU va (op_order σ x y).1) M' → Off a 92 M M' → K (op_order σ x y).2 (M', sz)) : Spec Γ mX11_order 4 0 [.ref a, .int x, .int y] (M, sz) (ci K) := by
  obtain ⟨⟨⟨eH, lH⟩, ⟨eK, lK⟩, ⟨eL, lL⟩, ⟨eA, lA⟩, ⟨eT, lT⟩⟩, iK, iH, iW, iL, iO, iB, hT⟩ := id hI
  have lAL : cA σ ≤ cL σ := by rw [lA]; exact arN_le σ _
  
  refine spec_in [some (.ref a), some (.int x), some (.int y)] 0 (by decide) rfl rfl ?_
  refine ok_iload_n (pc := 0) dX11_order_0 rfl ?_
  refine ok_iconst (pc := 1) (v := 0) dX11_order_1 (by decide) ?_
  refine ok_iconst (pc := 2) (v := 1) dX11_order_2 (by decide) ?_
  refine ok_callSi3 (pc := 3) (d' := 0) dX11_order_3 sl_X11_45 rfl (by decide) ?_
  refine c_within ?_
  refine ok_if_eq (pc := 6) 13 dX11_order_6 (by decide) (fun cc_6 => ?_) (fun cc_6 => ?_)
  · have cq_6 := bI_0.mp cc_6
    refine ok_aload_n (pc := 13) dX11_order_13 rfl ?_
    refine ok_iconst (pc := 14) (v := 1) dX11_order_14 (by decide) ?_
    refine ok_callVi1 (pc := 15) (d' := 1) dX11_order_15 vl_X11_49 hC.1 rfl rfl rfl (by decide) ?_
    refine c_error hC hI hae 1 rfl (by decide) (by decide) (fun M2 hC2 hO2 => ?_)
    refine ok_iret (pc := 18) dX11_order_18 rfl ?_
    have hop : op_order σ x y = (1, -1000000001) := if_neg (by first | (rw [cq_6, Bool.false_and]; decide) | (rw [decide_eq_false (Int32.not_le.mpr (Int32.not_le.mp cc_10)), Bool.and_false]; decide))
    rw [hop] at k
    rw [er_1]
    exact k _ hC2 hO2
  · have cq_6 := bI_n0.mp cc_6
    refine ok_iload_n (pc := 9) dX11_order_9 rfl ?_
    refine ok_if_ge (pc := 10) 19 dX11_order_10 (by decide) (fun cc_10 => ?_) (fun cc_10 => ?_)
    · have ce_10 := Int32.not_lt.mpr cc_10
      refine ok_iload_n (pc := 19) dX11_order_19 rfl ?_
      refine ok_aload_n (pc := 20) dX11_order_20 rfl ?_
      refine ok_getf (pc := 21) dX11_order_21 fl_X11_10 hC.1 rfl ?_
      refine ok_getf (pc := 24) dX11_order_24 fl_X11_202 hC.2.1.o rfl ?_
      refine ok_getf (pc := 27) dX11_order_27 fl_X11_140 hC.2.1.ar.1 rfl ?_
      refine ok_icmp_lt (pc := 30) 39 dX11_order_30 (by decide) (fun cc_30 => ?_) (fun cc_30 => ?_)
      · have ce_30 := Int32.not_le.mpr cc_30
        refine ok_iload_n (pc := 39) dX11_order_39 rfl ?_
        refine ok_if_ne (pc := 40) 57 dX11_order_40 (by decide) (fun cc_40 => ?_) (fun cc_40 => ?_)
        · refine ok_aload_n (pc := 57) dX11_order_57 rfl ?_
          refine ok_getf (pc := 58) dX11_order_58 fl_X11_10 hC.1 rfl ?_
          refine ok_iload_n (pc := 61) dX11_order_61 rfl ?_
          refine ok_callVi1 (pc := 62) (d' := 3) dX11_order_62 vl_X11_228 hC.2.1.o rfl rfl rfl (by decide) ?_
          have ⟨ey9, ly9⟩ : y = nI (iN y) ∧ iN y < cA σ := wi_cnt eA (by omega) (wi_T eA (by omega) cc_10 cc_30)
          refine c_mendedAt hC.2.1 hI (iN y) ey9 ly9 ?_
          refine ok_iret (pc := 65) dX11_order_65 rfl ?_
          have hop : op_order σ x y = (0, if x = 0 then σ (183 + iN y) else mdN σ (iN y)) := (if_pos (by rw [cq_6, decide_eq_true cc_10]; rfl)).trans (if_pos cc_30)
          rw [hop] at k
          rw [eU_0] at k
          first
            | (rw [if_pos cc_40] at k
               rw [efa]
               exact k _ hC Off.rfl')
            | (rw [if_neg cc_40] at k
               exact k _ hC Off.rfl')
        · refine ok_aload_n (pc := 43) dX11_order_43 rfl ?_
          refine ok_getf (pc := 44) dX11_order_44 fl_X11_10 hC.1 rfl ?_
          refine ok_getf (pc := 47) dX11_order_47 fl_X11_202 hC.2.1.o rfl ?_
          refine ok_iload_n (pc := 50) dX11_order_50 rfl ?_
          refine ok_callVi1 (pc := 51) (d' := 0) dX11_order_51 vl_X11_225 hC.2.1.ar.1 rfl rfl rfl (by decide) ?_
          have ⟨ey9, ly9⟩ : y = nI (iN y) ∧ iN y < cA σ := wi_cnt eA (by omega) (wi_T eA (by omega) cc_10 cc_30)
          obtain ⟨-, fa, fa1, fa2⟩ := id hC.2.1.ar
          refine c_get hC.2.1.ar.1 fa1 (cA σ) eA (by omega) (by decide) (iN y) ey9 ly9 ?_
          have efa : fa (iN y) = σ (183 + iN y) := fa2 _ ly9
          refine ok_goto (pc := 54) 65 dX11_order_54 (by decide) ?_
          refine ok_iret (pc := 65) dX11_order_65 rfl ?_
          have hop : op_order σ x y = (0, if x = 0 then σ (183 + iN y) else mdN σ (iN y)) := (if_pos (by rw [cq_6, decide_eq_true cc_10]; rfl)).trans (if_pos cc_30)
          rw [hop] at k
          rw [eU_0] at k
          first
            | (rw [if_pos cc_40] at k
               rw [efa]
               exact k _ hC Off.rfl')
            | (rw [if_neg cc_40] at k
               exact k _ hC Off.rfl')
      · have ce_30 := Int32.not_lt.mp cc_30
        refine ok_aload_n (pc := 33) dX11_order_33 rfl ?_
        refine ok_iconst (pc := 34) (v := 2) dX11_order_34 (by decide) ?_
        refine ok_callVi1 (pc := 35) (d' := 1) dX11_order_35 vl_X11_49 hC.1 rfl rfl rfl (by decide) ?_
        refine c_error hC hI hae 2 rfl (by decide) (by decide) (fun M2 hC2 hO2 => ?_)
        refine ok_iret (pc := 38) dX11_order_38 rfl ?_
        have hop : op_order σ x y = (2, -1000000002) := (if_pos (by rw [cq_6, decide_eq_true cc_10]; rfl)).trans (if_neg cc_30)
        rw [hop] at k
        rw [er_2]
        exact k _ hC2 hO2
    · have ce_10 := Int32.not_le.mp cc_10
      refine ok_aload_n (pc := 13) dX11_order_13 rfl ?_
      refine ok_iconst (pc := 14) (v := 1) dX11_order_14 (by decide) ?_
      refine ok_callVi1 (pc := 15) (d' := 1) dX11_order_15 vl_X11_49 hC.1 rfl rfl rfl (by decide) ?_
      refine c_error hC hI hae 1 rfl (by decide) (by decide) (fun M2 hC2 hO2 => ?_)
      refine ok_iret (pc := 18) dX11_order_18 rfl ?_
      have hop : op_order σ x y = (1, -1000000001) := if_neg (by first | (rw [cq_6, Bool.false_and]; decide) | (rw [decide_eq_false (Int32.not_le.mpr (Int32.not_le.mp cc_10)), Bool.and_false]; decide))
      rw [hop] at k
      rw [er_1]
      exact k _ hC2 hO2

set_option maxHeartbeats 1000000 in
theorem x_tellF {Γ : Cx} {a e z sz : Nat} {σ κ vi : Rw} {va : Nat → Rw} {M : Nat → Option va_E} {K : Int32 → Wd → Prop} (hC : ClsR Γ a e z σ κ vi va M) (hI : Inv σ) (hae : a + 92 ≤ e) {v : Int32} (n7 : Nat) (q7 : σ 7 = nI n7) (h20 : n7 = 20) (k : ∀ M', ClsR Γ a e z (op_tell σ v).2.2 κ vi (eU va (op_tell σ v).1) M' → Off a 92 M M' → K (op_tell σ v).2.1 (M', sz)) : Spec Γ mX11_tell 2 0 [.ref a, .int v] (M, sz) (ci K) := by
  refine spec_in [some (.ref a), some (.int v)] 0 (by decide) rfl rfl ?_
  refine ok_aload_n (pc := 0) dX11_tell_0 rfl ?_
  refine ok_getf (pc := 1) dX11_tell_1 fl_X11_10 hC.1 rfl ?_
  refine ok_getf (pc := 4) dX11_tell_4 fl_X11_286 hC.2.1.o rfl ?_
  refine ok_iload_n (pc := 7) dX11_tell_7 rfl ?_
  refine ok_callVi1 (pc := 8) (d' := 0) dX11_tell_8 vl_X11_143 hC.2.1.wt.1 rfl rfl rfl (by decide) ?_
  obtain ⟨-, fw, fw1, fw2⟩ := id hC.2.1.wt
  refine c_addF hC.2.1.wt.1 fw1 n7 q7 (by omega) (by omega) ?_
  show Ok Γ mX11_tell 2 0 (8 + 3) _ [.int (bI false)] _ _
  refine ok_if_eq (pc := 11) 27 dX11_tell_11 (by decide) (fun cc_11 => ?_) (fun cc_11 => ?_)
  · have cq_11 := bI_0.mp cc_11
    refine ok_aload_n (pc := 27) dX11_tell_27 rfl ?_
    refine ok_iconst (pc := 28) (v := 4) dX11_tell_28 (by decide) ?_
    refine ok_callVi1 (pc := 29) (d' := 1) dX11_tell_29 vl_X11_49 hC.1 rfl rfl rfl (by decide) ?_
    refine c_error hC hI hae 4 rfl (by decide) (by decide) (fun M2 hC2 hO2 => ?_)
    refine ok_iret (pc := 32) dX11_tell_32 rfl ?_
    have hop : op_tell σ v = e3 4 σ := if_pos (by rw [q7, h20]; rfl)
    rw [hop] at k
    exact k _ hC2 hO2
  · exact absurd rfl cc_11

set_option maxHeartbeats 1000000 in
theorem x_tellT {Γ : Cx} {a e z sz : Nat} {σ κ vi : Rw} {va : Nat → Rw} {M : Nat → Option va_E} {K : Int32 → Wd → Prop} (hC : ClsR Γ a e z σ κ vi va M) (hI : Inv σ) (hae : a + 92 ≤ e) {v : Int32} (n7 : Nat) (q7 : σ 7 = nI n7) (h20 : n7 < 20) (k : ∀ M', ClsR Γ a e z (op_tell σ v).2.2 κ vi (eU va (op_tell σ v).1) M' → Off a 92 M M' → K (op_tell σ v).2.1 (M', sz)) : Spec Γ mX11_tell 2 0 [.ref a, .int v] (M, sz) (ci K) := by
  refine spec_in [some (.ref a), some (.int v)] 0 (by decide) rfl rfl ?_
  refine ok_aload_n (pc := 0) dX11_tell_0 rfl ?_
  refine ok_getf (pc := 1) dX11_tell_1 fl_X11_10 hC.1 rfl ?_
  refine ok_getf (pc := 4) dX11_tell_4 fl_X11_286 hC.2.1.o rfl ?_
  refine ok_iload_n (pc := 7) dX11_tell_7 rfl ?_
  refine ok_callVi1 (pc := 8) (d' := 0) dX11_tell_8 vl_X11_143 hC.2.1.wt.1 rfl rfl rfl (by decide) ?_
  obtain ⟨-, fw, fw1, fw2⟩ := id hC.2.1.wt
  refine c_add hC.2.1.wt.1 fw1 (by omega) n7 q7 h20 (by decide) ?_
  obtain ⟨hP9, hO9⟩ := pst_add_wt hC.2.1 hI.bd (by omega) fw1 fw2 v n7 q7 h20
  have hC := hC.po hI hae hP9 (fun q hq => hO9 q (by omega))
  have hO := Off.sub (a := a) (n := 92) hO9 (by omega) (by omega)
  show Ok Γ mX11_tell 2 0 (8 + 3) _ [.int (bI true)] _ _
  refine ok_if_eq (pc := 11) 27 dX11_tell_11 (by decide) (fun cc_11 => ?_) (fun cc_11 => ?_)
  · exact absurd cc_11 (by decide)
  · have cq_11 := bI_n0.mp cc_11
    refine ok_aload_n (pc := 14) dX11_tell_14 rfl ?_
    refine ok_getf (pc := 15) dX11_tell_15 fl_X11_10 hC.1 rfl ?_
    refine ok_getf (pc := 18) dX11_tell_18 fl_X11_286 hC.2.1.o rfl ?_
    refine ok_getf (pc := 21) dX11_tell_21 fl_X11_140 hC.2.1.wt.1 rfl ?_
    refine ok_goto (pc := 24) 32 dX11_tell_24 (by decide) ?_
    refine ok_iret (pc := 32) dX11_tell_32 rfl ?_
    have hi7 : iN (σ 7) = n7 := rw_in q7 (by omega)
    have hop : op_tell σ v = (0, nI (n7 + 1), upd (upd σ (245 + n7) v) 7 (nI (n7 + 1))) := by
      unfold op_tell
      rw [if_neg (by rw [q7]; intro h; have h9 := (nI_eq (b := 20) (by omega) (by decide)).mp h; omega), hi7, q7, nI_1]
    rw [hop] at k
    rw [eU_0] at k
    rw [upd_at]
    exact k _ hC hO

theorem x_tell {Γ : Cx} {a e z sz : Nat} {σ κ vi : Rw} {va : Nat → Rw} {M : Nat → Option va_E} {K : Int32 → Wd → Prop} (hC : ClsR Γ a e z σ κ vi va M) (hI : Inv σ) (hae : a + 92 ≤ e) {v : Int32} (k : ∀ M', ClsR Γ a e z (op_tell σ v).2.2 κ vi (eU va (op_tell σ v).1) M' → Off a 92 M M' → K (op_tell σ v).2.1 (M', sz)) : Spec Γ mX11_tell 2 0 [.ref a, .int v] (M, sz) (ci K) := by
  obtain ⟨-, ⟨n7, q7, l7⟩, -⟩ := id hI.2.2.2.2.2.2.1
  rcases Nat.lt_or_ge n7 20 with g | g
  · exact x_tellT hC hI hae n7 q7 g k
  · exact x_tellF hC hI hae n7 q7 (by omega) k

set_option maxHeartbeats 1000000 in
theorem x_aimF {Γ : Cx} {a e z sz : Nat} {σ κ vi : Rw} {va : Nat → Rw} {M : Nat → Option va_E} {K : Int32 → Wd → Prop} (hC : ClsR Γ a e z σ κ vi va M) (hI : Inv σ) (hae : a + 92 ≤ e) {x y : Int32} (hx : wi x 0 (σ 2 - 1) = false) (k : ∀ M', ClsR Γ a e z (op_aim σ x y).2.2 κ vi (eU va (op_aim σ x y).1) M' → Off a 92 M M' → K (op_aim σ x y).2.1 (M', sz)) : Spec Γ mX11_aim 2 0 [.ref a, .int x, .int y] (M, sz) (ci K) := by
  obtain ⟨⟨⟨eH, lH⟩, ⟨eK, lK⟩, ⟨eL, lL⟩, ⟨eA, lA⟩, ⟨eT, lT⟩⟩, iK, iH, iW, iL, iO, iB, hT⟩ := id hI
  
  refine spec_in [some (.ref a), some (.int x), some (.int y), none, none] 2 (by decide) rfl rfl ?_
  refine ok_aload_n (pc := 0) dX11_aim_0 rfl ?_
  refine ok_getf (pc := 1) dX11_aim_1 fl_X11_10 hC.1 rfl ?_
  refine ok_iload_n (pc := 4) dX11_aim_4 rfl ?_
  refine ok_callVr1 (pc := 5) (d' := 0) dX11_aim_5 vl_X11_91 hC.2.1.o rfl rfl rfl (by decide) ?_
  refine c_kiteAt hC.2.1 eK lK (fun q9 ex9 lx9 hK9 => absurd (wi_k eK lK ex9 lx9) (by rw [hx]; decide)) (fun h9 => ?_)
  refine ok_astore_nN3 (pc := 8) dX11_aim_8 (by decide) rfl ?_
  refine ok_aload_nN (pc := 9) dX11_aim_9 rfl ?_
  refine ok_ifnullN (pc := 10) 29 dX11_aim_10 (by decide) ?_
  refine ok_aload_n (pc := 29) dX11_aim_29 rfl ?_
  refine ok_iconst (pc := 30) (v := 1) dX11_aim_30 (by decide) ?_
  refine ok_callVi1 (pc := 31) (d' := 1) dX11_aim_31 vl_X11_49 hC.1 rfl rfl rfl (by decide) ?_
  refine c_error hC hI hae 1 rfl (by decide) (by decide) (fun M2 hC2 hO2 => ?_)
  refine ok_iret (pc := 34) dX11_aim_34 rfl ?_
  have hop : op_aim σ x y = e3 1 σ := if_neg (by simp [hx])
  rw [hop] at k
  exact k _ hC2 hO2

set_option maxHeartbeats 1000000 in
theorem x_aimT {Γ : Cx} {a e z sz : Nat} {σ κ vi : Rw} {va : Nat → Rw} {M : Nat → Option va_E} {K : Int32 → Wd → Prop} (hC : ClsR Γ a e z σ κ vi va M) (hI : Inv σ) (hae : a + 92 ≤ e) {x y : Int32} (hx : wi x 0 (σ 2 - 1) = true) (k : ∀ M', ClsR Γ a e z (op_aim σ x y).2.2 κ vi (eU va (op_aim σ x y).1) M' → Off a 92 M M' → K (op_aim σ x y).2.1 (M', sz)) : Spec Γ mX11_aim 2 0 [.ref a, .int x, .int y] (M, sz) (ci K) := by
  obtain ⟨⟨⟨eH, lH⟩, ⟨eK, lK⟩, ⟨eL, lL⟩, ⟨eA, lA⟩, ⟨eT, lT⟩⟩, iK, iH, iW, iL, iO, iB, hT⟩ := id hI
  
  refine spec_in [some (.ref a), some (.int x), some (.int y), none, none] 2 (by decide) rfl rfl ?_
  refine ok_aload_n (pc := 0) dX11_aim_0 rfl ?_
  refine ok_getf (pc := 1) dX11_aim_1 fl_X11_10 hC.1 rfl ?_
  refine ok_iload_n (pc := 4) dX11_aim_4 rfl ?_
  refine ok_callVr1 (pc := 5) (d' := 0) dX11_aim_5 vl_X11_91 hC.2.1.o rfl rfl rfl (by decide) ?_
  refine c_kiteAt hC.2.1 eK lK (fun q9 ex9 lx9 hK9 => ?_) (fun h9 => absurd h9 (by rw [hx]; decide))
  refine ok_astore_n3 (pc := 8) dX11_aim_8 (by decide) rfl ?_
  refine ok_aload_n (pc := 9) dX11_aim_9 rfl ?_
  refine ok_ifnull (pc := 10) dX11_aim_10 ?_
  refine ok_iload_n (pc := 13) dX11_aim_13 rfl ?_
  refine ok_iconst (pc := 14) (v := -1) dX11_aim_14 (by decide) ?_
  refine ok_icmp_eq (pc := 15) 35 dX11_aim_15 (by decide) (fun cc_15 => ?_) (fun cc_15 => ?_)
  · refine ok_iload_n (pc := 35) dX11_aim_35 rfl ?_
    refine ok_aload_n (pc := 36) dX11_aim_36 rfl ?_
    refine ok_getf (pc := 37) dX11_aim_37 (flk_X11_103 _) hK9.2 rfl ?_
    refine ok_icmp_ne (pc := 40) 49 dX11_aim_40 (by decide) (fun cc_40 => ?_) (fun cc_40 => ?_)
    · refine ok_aload_n (pc := 49) dX11_aim_49 rfl ?_
      refine ok_getf (pc := 50) dX11_aim_50 fl_X11_10 hC.1 rfl ?_
      refine ok_iload_n (pc := 53) dX11_aim_53 rfl ?_
      refine ok_callVi1 (pc := 54) (d' := 1) dX11_aim_54 vl_X11_112 hC.2.1.o rfl rfl rfl (by decide) ?_
      refine c_aimOf hC.2.1 (iN x) ex9 (by omega) ?_
      refine ok_istore4 (pc := 57) dX11_aim_57 (by decide) rfl ?_
      refine ok_aload_n (pc := 59) dX11_aim_59 rfl ?_
      refine ok_getf (pc := 60) dX11_aim_60 fl_X11_10 hC.1 rfl ?_
      refine ok_iload_n (pc := 63) dX11_aim_63 rfl ?_
      refine ok_iload_n (pc := 64) dX11_aim_64 rfl ?_
      refine ok_callVv2 (pc := 65) (d' := 1) dX11_aim_65 vl_X11_119 hC.2.1.o rfl rfl rfl (by decide) ?_
      refine c_changeAim hC.2.1 hI.bd (by omega) (iN x) ex9 (by omega) (fun M9 hP9 hO9 => ?_)
      have hC9 := hC.po hI hae hP9 (fun q hq => hO9 q (by omega))
      have hO : Off a 92 M M9 := hO9.sub (by omega) (by omega)
      refine ok_iload (pc := 68) dX11_aim_68 rfl ?_
      refine ok_iret (pc := 70) dX11_aim_70 rfl ?_
      have hop : op_aim σ x y = (0, kf σ (iN x) 5, upd σ (51 + 6 * iN x + 5) y) := (if_pos (by first | (rw [hx, decide_eq_true cc_15]; rfl) | (rw [hx, cq_26, Bool.or_true]; rfl))).trans (if_neg cc_40)
      rw [hop] at k
      rw [eU_0] at k
      exact k _ hC9 hO
    · refine ok_aload_n (pc := 43) dX11_aim_43 rfl ?_
      refine ok_iconst (pc := 44) (v := 3) dX11_aim_44 (by decide) ?_
      refine ok_callVi1 (pc := 45) (d' := 1) dX11_aim_45 vl_X11_49 hC.1 rfl rfl rfl (by decide) ?_
      refine c_error hC hI hae 3 rfl (by decide) (by decide) (fun M2 hC2 hO2 => ?_)
      refine ok_iret (pc := 48) dX11_aim_48 rfl ?_
      have hop : op_aim σ x y = e3 3 σ := (if_pos (by first | (rw [hx, decide_eq_true cc_15]; rfl) | (rw [hx, cq_26, Bool.or_true]; rfl))).trans (if_pos cc_40)
      rw [hop] at k
      exact k _ hC2 hO2
  · refine ok_aload_n (pc := 18) dX11_aim_18 rfl ?_
    refine ok_getf (pc := 19) dX11_aim_19 fl_X11_10 hC.1 rfl ?_
    refine ok_iload_n (pc := 22) dX11_aim_22 rfl ?_
    refine ok_callVi1 (pc := 23) (d' := 0) dX11_aim_23 vl_X11_64 hC.2.1.o rfl rfl rfl (by decide) ?_
    refine c_isHill hC.2.1 eH lH ?_
    refine ok_if_ne (pc := 26) 35 dX11_aim_26 (by decide) (fun cc_26 => ?_) (fun cc_26 => ?_)
    · have cq_26 := bI_n0.mp cc_26
      refine ok_iload_n (pc := 35) dX11_aim_35 rfl ?_
      refine ok_aload_n (pc := 36) dX11_aim_36 rfl ?_
      refine ok_getf (pc := 37) dX11_aim_37 (flk_X11_103 _) hK9.2 rfl ?_
      refine ok_icmp_ne (pc := 40) 49 dX11_aim_40 (by decide) (fun cc_40 => ?_) (fun cc_40 => ?_)
      · refine ok_aload_n (pc := 49) dX11_aim_49 rfl ?_
        refine ok_getf (pc := 50) dX11_aim_50 fl_X11_10 hC.1 rfl ?_
        refine ok_iload_n (pc := 53) dX11_aim_53 rfl ?_
        refine ok_callVi1 (pc := 54) (d' := 1) dX11_aim_54 vl_X11_112 hC.2.1.o rfl rfl rfl (by decide) ?_
        refine c_aimOf hC.2.1 (iN x) ex9 (by omega) ?_
        refine ok_istore4 (pc := 57) dX11_aim_57 (by decide) rfl ?_
        refine ok_aload_n (pc := 59) dX11_aim_59 rfl ?_
        refine ok_getf (pc := 60) dX11_aim_60 fl_X11_10 hC.1 rfl ?_
        refine ok_iload_n (pc := 63) dX11_aim_63 rfl ?_
        refine ok_iload_n (pc := 64) dX11_aim_64 rfl ?_
        refine ok_callVv2 (pc := 65) (d' := 1) dX11_aim_65 vl_X11_119 hC.2.1.o rfl rfl rfl (by decide) ?_
        refine c_changeAim hC.2.1 hI.bd (by omega) (iN x) ex9 (by omega) (fun M9 hP9 hO9 => ?_)
        have hC9 := hC.po hI hae hP9 (fun q hq => hO9 q (by omega))
        have hO : Off a 92 M M9 := hO9.sub (by omega) (by omega)
        refine ok_iload (pc := 68) dX11_aim_68 rfl ?_
        refine ok_iret (pc := 70) dX11_aim_70 rfl ?_
        have hop : op_aim σ x y = (0, kf σ (iN x) 5, upd σ (51 + 6 * iN x + 5) y) := (if_pos (by first | (rw [hx, decide_eq_true cc_15]; rfl) | (rw [hx, cq_26, Bool.or_true]; rfl))).trans (if_neg cc_40)
        rw [hop] at k
        rw [eU_0] at k
        exact k _ hC9 hO
      · refine ok_aload_n (pc := 43) dX11_aim_43 rfl ?_
        refine ok_iconst (pc := 44) (v := 3) dX11_aim_44 (by decide) ?_
        refine ok_callVi1 (pc := 45) (d' := 1) dX11_aim_45 vl_X11_49 hC.1 rfl rfl rfl (by decide) ?_
        refine c_error hC hI hae 3 rfl (by decide) (by decide) (fun M2 hC2 hO2 => ?_)
        refine ok_iret (pc := 48) dX11_aim_48 rfl ?_
        have hop : op_aim σ x y = e3 3 σ := (if_pos (by first | (rw [hx, decide_eq_true cc_15]; rfl) | (rw [hx, cq_26, Bool.or_true]; rfl))).trans (if_pos cc_40)
        rw [hop] at k
        exact k _ hC2 hO2
    · have cq_26 := bI_0.mp cc_26
      refine ok_aload_n (pc := 29) dX11_aim_29 rfl ?_
      refine ok_iconst (pc := 30) (v := 1) dX11_aim_30 (by decide) ?_
      refine ok_callVi1 (pc := 31) (d' := 1) dX11_aim_31 vl_X11_49 hC.1 rfl rfl rfl (by decide) ?_
      refine c_error hC hI hae 1 rfl (by decide) (by decide) (fun M2 hC2 hO2 => ?_)
      refine ok_iret (pc := 34) dX11_aim_34 rfl ?_
      have hop : op_aim σ x y = e3 1 σ := if_neg (by simp [hx, cc_15, cq_26])
      rw [hop] at k
      exact k _ hC2 hO2

theorem x_aim {Γ : Cx} {a e z sz : Nat} {σ κ vi : Rw} {va : Nat → Rw} {M : Nat → Option va_E} {K : Int32 → Wd → Prop} (hC : ClsR Γ a e z σ κ vi va M) (hI : Inv σ) (hae : a + 92 ≤ e) {x y : Int32} (k : ∀ M', ClsR Γ a e z (op_aim σ x y).2.2 κ vi (eU va (op_aim σ x y).1) M' → Off a 92 M M' → K (op_aim σ x y).2.1 (M', sz)) : Spec Γ mX11_aim 2 0 [.ref a, .int x, .int y] (M, sz) (ci K) := by
  cases hx : wi x 0 (σ 2 - 1) with
  | true => exact x_aimT hC hI hae hx k
  | false => exact x_aimF hC hI hae hx k
