section InstK
variable {Γ : Cx} {f : Md} {d b pc idx : Nat} {L : List (Option Value)} {st : List Value} {G : Wd} {Q : Option Value → Wd → Prop}
theorem ok_inst1 {q : Nat} {fs : List Value} {kd : Int32} (hd : decode f.2.1 pc = .ok (.instanceof idx, 3)) (hw : Cond.classLink f.1.cls idx "KitePost$Boxed" ∈ lwg) (hG : G.1 q = some (.inr (kcl kd, fs))) (k6 : 0 ≤ kd ∧ kd ≤ 6) (k : Ok Γ f d b (pc + 3) L (.int (bI (asA 4 kd 1)) :: st) G Q) : Ok Γ f d b pc L (.ref q :: st) G Q := by
  rcases kcl_cases k6 with h | h | h | h | h | h | h
  · subst h
    rw [show asA 4 0 1 = false from by decide] at k
    exact ok_instN hd hw hG rfl (by decide) k
  · subst h
    rw [show asA 4 1 1 = true from by decide] at k
    exact ok_instS hd hw hG rfl rfl k
  · subst h
    rw [show asA 4 2 1 = false from by decide] at k
    exact ok_instN hd hw hG rfl (by decide) k
  · subst h
    rw [show asA 4 3 1 = false from by decide] at k
    exact ok_instN hd hw hG rfl (by decide) k
  · subst h
    rw [show asA 4 4 1 = true from by decide] at k
    exact ok_instY hd hw hG rfl (by decide) k
  · subst h
    rw [show asA 4 5 1 = false from by decide] at k
    exact ok_instN hd hw hG rfl (by decide) k
  · subst h
    rw [show asA 4 6 1 = false from by decide] at k
    exact ok_instN hd hw hG rfl (by decide) k
theorem ok_inst2 {q : Nat} {fs : List Value} {kd : Int32} (hd : decode f.2.1 pc = .ok (.instanceof idx, 3)) (hw : Cond.classLink f.1.cls idx "KitePost$Tailed" ∈ lwg) (hG : G.1 q = some (.inr (kcl kd, fs))) (k6 : 0 ≤ kd ∧ kd ≤ 6) (k : Ok Γ f d b (pc + 3) L (.int (bI (asA 4 kd 2)) :: st) G Q) : Ok Γ f d b pc L (.ref q :: st) G Q := by
  rcases kcl_cases k6 with h | h | h | h | h | h | h
  · subst h
    rw [show asA 4 0 2 = false from by decide] at k
    exact ok_instN hd hw hG rfl (by decide) k
  · subst h
    rw [show asA 4 1 2 = false from by decide] at k
    exact ok_instN hd hw hG rfl (by decide) k
  · subst h
    rw [show asA 4 2 2 = true from by decide] at k
    exact ok_instS hd hw hG rfl rfl k
  · subst h
    rw [show asA 4 3 2 = false from by decide] at k
    exact ok_instN hd hw hG rfl (by decide) k
  · subst h
    rw [show asA 4 4 2 = false from by decide] at k
    exact ok_instN hd hw hG rfl (by decide) k
  · subst h
    rw [show asA 4 5 2 = true from by decide] at k
    exact ok_instY hd hw hG rfl (by decide) k
  · subst h
    rw [show asA 4 6 2 = false from by decide] at k
    exact ok_instN hd hw hG rfl (by decide) k
theorem ok_inst3 {q : Nat} {fs : List Value} {kd : Int32} (hd : decode f.2.1 pc = .ok (.instanceof idx, 3)) (hw : Cond.classLink f.1.cls idx "KitePost$Silk" ∈ lwg) (hG : G.1 q = some (.inr (kcl kd, fs))) (k6 : 0 ≤ kd ∧ kd ≤ 6) (k : Ok Γ f d b (pc + 3) L (.int (bI (asA 4 kd 3)) :: st) G Q) : Ok Γ f d b pc L (.ref q :: st) G Q := by
  rcases kcl_cases k6 with h | h | h | h | h | h | h
  · subst h
    rw [show asA 4 0 3 = false from by decide] at k
    exact ok_instN hd hw hG rfl (by decide) k
  · subst h
    rw [show asA 4 1 3 = false from by decide] at k
    exact ok_instN hd hw hG rfl (by decide) k
  · subst h
    rw [show asA 4 2 3 = false from by decide] at k
    exact ok_instN hd hw hG rfl (by decide) k
  · subst h
    rw [show asA 4 3 3 = true from by decide] at k
    exact ok_instS hd hw hG rfl rfl k
  · subst h
    rw [show asA 4 4 3 = false from by decide] at k
    exact ok_instN hd hw hG rfl (by decide) k
  · subst h
    rw [show asA 4 5 3 = false from by decide] at k
    exact ok_instN hd hw hG rfl (by decide) k
  · subst h
    rw [show asA 4 6 3 = true from by decide] at k
    exact ok_instY hd hw hG rfl (by decide) k
theorem ok_inst4 {q : Nat} {fs : List Value} {kd : Int32} (hd : decode f.2.1 pc = .ok (.instanceof idx, 3)) (hw : Cond.classLink f.1.cls idx "KitePost$Doubled" ∈ lwg) (hG : G.1 q = some (.inr (kcl kd, fs))) (k6 : 0 ≤ kd ∧ kd ≤ 6) (k : Ok Γ f d b (pc + 3) L (.int (bI (asA 4 kd 4)) :: st) G Q) : Ok Γ f d b pc L (.ref q :: st) G Q := by
  rcases kcl_cases k6 with h | h | h | h | h | h | h
  · subst h
    rw [show asA 4 0 4 = false from by decide] at k
    exact ok_instN hd hw hG rfl (by decide) k
  · subst h
    rw [show asA 4 1 4 = false from by decide] at k
    exact ok_instN hd hw hG rfl (by decide) k
  · subst h
    rw [show asA 4 2 4 = false from by decide] at k
    exact ok_instN hd hw hG rfl (by decide) k
  · subst h
    rw [show asA 4 3 4 = false from by decide] at k
    exact ok_instN hd hw hG rfl (by decide) k
  · subst h
    rw [show asA 4 4 4 = true from by decide] at k
    exact ok_instS hd hw hG rfl rfl k
  · subst h
    rw [show asA 4 5 4 = false from by decide] at k
    exact ok_instN hd hw hG rfl (by decide) k
  · subst h
    rw [show asA 4 6 4 = false from by decide] at k
    exact ok_instN hd hw hG rfl (by decide) k
theorem ok_inst5 {q : Nat} {fs : List Value} {kd : Int32} (hd : decode f.2.1 pc = .ok (.instanceof idx, 3)) (hw : Cond.classLink f.1.cls idx "KitePost$LongTailed" ∈ lwg) (hG : G.1 q = some (.inr (kcl kd, fs))) (k6 : 0 ≤ kd ∧ kd ≤ 6) (k : Ok Γ f d b (pc + 3) L (.int (bI (asA 4 kd 5)) :: st) G Q) : Ok Γ f d b pc L (.ref q :: st) G Q := by
  rcases kcl_cases k6 with h | h | h | h | h | h | h
  · subst h
    rw [show asA 4 0 5 = false from by decide] at k
    exact ok_instN hd hw hG rfl (by decide) k
  · subst h
    rw [show asA 4 1 5 = false from by decide] at k
    exact ok_instN hd hw hG rfl (by decide) k
  · subst h
    rw [show asA 4 2 5 = false from by decide] at k
    exact ok_instN hd hw hG rfl (by decide) k
  · subst h
    rw [show asA 4 3 5 = false from by decide] at k
    exact ok_instN hd hw hG rfl (by decide) k
  · subst h
    rw [show asA 4 4 5 = false from by decide] at k
    exact ok_instN hd hw hG rfl (by decide) k
  · subst h
    rw [show asA 4 5 5 = true from by decide] at k
    exact ok_instS hd hw hG rfl rfl k
  · subst h
    rw [show asA 4 6 5 = false from by decide] at k
    exact ok_instN hd hw hG rfl (by decide) k
theorem ok_inst6 {q : Nat} {fs : List Value} {kd : Int32} (hd : decode f.2.1 pc = .ok (.instanceof idx, 3)) (hw : Cond.classLink f.1.cls idx "KitePost$Old" ∈ lwg) (hG : G.1 q = some (.inr (kcl kd, fs))) (k6 : 0 ≤ kd ∧ kd ≤ 6) (k : Ok Γ f d b (pc + 3) L (.int (bI (asA 4 kd 6)) :: st) G Q) : Ok Γ f d b pc L (.ref q :: st) G Q := by
  rcases kcl_cases k6 with h | h | h | h | h | h | h
  · subst h
    rw [show asA 4 0 6 = false from by decide] at k
    exact ok_instN hd hw hG rfl (by decide) k
  · subst h
    rw [show asA 4 1 6 = false from by decide] at k
    exact ok_instN hd hw hG rfl (by decide) k
  · subst h
    rw [show asA 4 2 6 = false from by decide] at k
    exact ok_instN hd hw hG rfl (by decide) k
  · subst h
    rw [show asA 4 3 6 = false from by decide] at k
    exact ok_instN hd hw hG rfl (by decide) k
  · subst h
    rw [show asA 4 4 6 = false from by decide] at k
    exact ok_instN hd hw hG rfl (by decide) k
  · subst h
    rw [show asA 4 5 6 = false from by decide] at k
    exact ok_instN hd hw hG rfl (by decide) k
  · subst h
    rw [show asA 4 6 6 = true from by decide] at k
    exact ok_instS hd hw hG rfl rfl k
end InstK
theorem as_0 {kd : Int32} (k6 : 0 ≤ kd ∧ kd ≤ 6) : asA 4 kd 0 = true := by
  rcases kcl_cases k6 with h | h | h | h | h | h | h <;> subst h <;> decide

set_option maxHeartbeats 1000000 in
theorem c_isOfKind {Γ : Cx} {q sz : Nat} {M : Nat → Option va_E} {K : Int32 → Wd → Prop} {fs : List Value} {kd y : Int32} (hG : M q = some (.inr (kcl kd, fs))) (k6 : 0 ≤ kd ∧ kd ≤ 6) (hy : wi y 0 6 = true) (k : K (bI (asA 4 kd y)) (M, sz)) : Spec Γ mX11_isOfKind 0 0 [.ref q, .int y] (M, sz) (ci K) := by
  refine spec_in [some (.ref q), some (.int y)] 0 (by decide) rfl rfl ?_
  refine ok_iload_n (pc := 0) dX11_isOfKind_0 rfl ?_
  by_cases sw1_0 : y = 0
  · refine ok_table (pc := 1) 40 dX11_isOfKind_1 (by rw [sw1_0]; decide) (by rw [sw1_0]; decide) (by rw [sw1_0]; rfl) (by decide) ?_
    refine ok_iconst (pc := 40) (v := 1) dX11_isOfKind_40 (by decide) ?_
    refine ok_zret (pc := 41) dX11_isOfKind_41 rfl rfl ?_
    rw [sw1_0, as_0 k6] at k
    exact k
  by_cases sw1_1 : y = 1
  · refine ok_table (pc := 1) 42 dX11_isOfKind_1 (by rw [sw1_1]; decide) (by rw [sw1_1]; decide) (by rw [sw1_1]; rfl) (by decide) ?_
    refine ok_aload_n (pc := 42) dX11_isOfKind_42 rfl ?_
    refine ok_inst1 (pc := 43) dX11_isOfKind_43 tw_514 hG k6 ?_
    refine ok_zret (pc := 46) dX11_isOfKind_46 rfl (bI_z _) ?_
    rw [sw1_1] at k
    exact k
  by_cases sw1_2 : y = 2
  · refine ok_table (pc := 1) 47 dX11_isOfKind_1 (by rw [sw1_2]; decide) (by rw [sw1_2]; decide) (by rw [sw1_2]; rfl) (by decide) ?_
    refine ok_aload_n (pc := 47) dX11_isOfKind_47 rfl ?_
    refine ok_inst2 (pc := 48) dX11_isOfKind_48 tw_515 hG k6 ?_
    refine ok_zret (pc := 51) dX11_isOfKind_51 rfl (bI_z _) ?_
    rw [sw1_2] at k
    exact k
  by_cases sw1_3 : y = 3
  · refine ok_table (pc := 1) 52 dX11_isOfKind_1 (by rw [sw1_3]; decide) (by rw [sw1_3]; decide) (by rw [sw1_3]; rfl) (by decide) ?_
    refine ok_aload_n (pc := 52) dX11_isOfKind_52 rfl ?_
    refine ok_inst3 (pc := 53) dX11_isOfKind_53 tw_516 hG k6 ?_
    refine ok_zret (pc := 56) dX11_isOfKind_56 rfl (bI_z _) ?_
    rw [sw1_3] at k
    exact k
  by_cases sw1_4 : y = 4
  · refine ok_table (pc := 1) 57 dX11_isOfKind_1 (by rw [sw1_4]; decide) (by rw [sw1_4]; decide) (by rw [sw1_4]; rfl) (by decide) ?_
    refine ok_aload_n (pc := 57) dX11_isOfKind_57 rfl ?_
    refine ok_inst4 (pc := 58) dX11_isOfKind_58 tw_517 hG k6 ?_
    refine ok_zret (pc := 61) dX11_isOfKind_61 rfl (bI_z _) ?_
    rw [sw1_4] at k
    exact k
  by_cases sw1_5 : y = 5
  · refine ok_table (pc := 1) 62 dX11_isOfKind_1 (by rw [sw1_5]; decide) (by rw [sw1_5]; decide) (by rw [sw1_5]; rfl) (by decide) ?_
    refine ok_aload_n (pc := 62) dX11_isOfKind_62 rfl ?_
    refine ok_inst5 (pc := 63) dX11_isOfKind_63 tw_518 hG k6 ?_
    refine ok_zret (pc := 66) dX11_isOfKind_66 rfl (bI_z _) ?_
    rw [sw1_5] at k
    exact k
  refine ok_tableOut (pc := 1) 67 dX11_isOfKind_1 (by have h := tab_out (0) 6 (by decide) (by decide) (fun j hj => by match j, hj with | 0, _ => exact (fun h => sw1_0 (h.trans (by decide))) | 1, _ => exact (fun h => sw1_1 (h.trans (by decide))) | 2, _ => exact (fun h => sw1_2 (h.trans (by decide))) | 3, _ => exact (fun h => sw1_3 (h.trans (by decide))) | 4, _ => exact (fun h => sw1_4 (h.trans (by decide))) | 5, _ => exact (fun h => sw1_5 (h.trans (by decide)))); exact h) (by decide) ?_
  refine ok_aload_n (pc := 67) dX11_isOfKind_67 rfl ?_
  refine ok_inst6 (pc := 68) dX11_isOfKind_68 tw_519 hG k6 ?_
  refine ok_zret (pc := 71) dX11_isOfKind_71 rfl (bI_z _) ?_
  have ey : y = 6 := by
    obtain ⟨e9, -, l9⟩ := wi_lit (a := 0) (c := 6) rfl rfl (by decide) (by decide) hy
    rcases (show iN y = 0 ∨ iN y = 1 ∨ iN y = 2 ∨ iN y = 3 ∨ iN y = 4 ∨ iN y = 5 ∨ iN y = 6 by omega) with g | g | g | g | g | g | g <;> rw [g] at e9
    · exact absurd e9 sw1_0
    · exact absurd e9 sw1_1
    · exact absurd e9 sw1_2
    · exact absurd e9 sw1_3
    · exact absurd e9 sw1_4
    · exact absurd e9 sw1_5
    · exact e9
  rw [ey] at k
  exact k

theorem er_5 : (-1000000000 - nI 5 : Int32) = -1000000005 := by decide

set_option maxHeartbeats 1000000 in
theorem x_asF {Γ : Cx} {a e z sz : Nat} {σ κ vi : Rw} {va : Nat → Rw} {M : Nat → Option va_E} {K : Int32 → Wd → Prop} (hC : ClsR Γ a e z σ κ vi va M) (hI : Inv σ) (hae : a + 92 ≤ e) {x y : Int32} (hx : wi x 0 (σ 2 - 1) = false) (k : ∀ M', ClsR Γ a e z σ κ vi (eU va (op_as σ x y).1) M' → Off a 92 M M' → K (op_as σ x y).2 (M', sz)) : Spec Γ mX11_as 2 0 [.ref a, .int x, .int y] (M, sz) (ci K) := by
  obtain ⟨⟨⟨eH, lH⟩, ⟨eK, lK⟩, ⟨eL, lL⟩, ⟨eA, lA⟩, ⟨eT, lT⟩⟩, iK, iH, iW, iL, iO, iB, hT⟩ := id hI
  
  refine spec_in [some (.ref a), some (.int x), some (.int y), none] 1 (by decide) rfl rfl ?_
  refine ok_aload_n (pc := 0) dX11_as_0 rfl ?_
  refine ok_getf (pc := 1) dX11_as_1 fl_X11_10 hC.1 rfl ?_
  refine ok_iload_n (pc := 4) dX11_as_4 rfl ?_
  refine ok_callVr1 (pc := 5) (d' := 0) dX11_as_5 vl_X11_91 hC.2.1.o rfl rfl rfl (by decide) ?_
  refine c_kiteAt hC.2.1 eK lK (fun q9 ex9 lx9 hK9 => absurd (wi_k eK lK ex9 lx9) (by rw [hx]; decide)) (fun h9 => ?_)
  refine ok_astore_nN3 (pc := 8) dX11_as_8 (by decide) rfl ?_
  refine ok_aload_nN (pc := 9) dX11_as_9 rfl ?_
  refine ok_ifnullN (pc := 10) 23 dX11_as_10 (by decide) ?_
  refine ok_aload_n (pc := 23) dX11_as_23 rfl ?_
  refine ok_iconst (pc := 24) (v := 1) dX11_as_24 (by decide) ?_
  refine ok_callVi1 (pc := 25) (d' := 1) dX11_as_25 vl_X11_49 hC.1 rfl rfl rfl (by decide) ?_
  refine c_error hC hI hae 1 rfl (by decide) (by decide) (fun M2 hC2 hO2 => ?_)
  refine ok_iret (pc := 28) dX11_as_28 rfl ?_
  have hop : op_as σ x y = (1, -1000000001) := if_neg (by rw [hx, Bool.false_and]; decide)
  rw [hop] at k
  rw [er_1]
  exact k _ hC2 hO2

set_option maxHeartbeats 1000000 in
theorem x_asT {Γ : Cx} {a e z sz : Nat} {σ κ vi : Rw} {va : Nat → Rw} {M : Nat → Option va_E} {K : Int32 → Wd → Prop} (hC : ClsR Γ a e z σ κ vi va M) (hI : Inv σ) (hae : a + 92 ≤ e) {x y : Int32} (hx : wi x 0 (σ 2 - 1) = true) (k : ∀ M', ClsR Γ a e z σ κ vi (eU va (op_as σ x y).1) M' → Off a 92 M M' → K (op_as σ x y).2 (M', sz)) : Spec Γ mX11_as 2 0 [.ref a, .int x, .int y] (M, sz) (ci K) := by
  obtain ⟨⟨⟨eH, lH⟩, ⟨eK, lK⟩, ⟨eL, lL⟩, ⟨eA, lA⟩, ⟨eT, lT⟩⟩, iK, iH, iW, iL, iO, iB, hT⟩ := id hI
  
  refine spec_in [some (.ref a), some (.int x), some (.int y), none] 1 (by decide) rfl rfl ?_
  refine ok_aload_n (pc := 0) dX11_as_0 rfl ?_
  refine ok_getf (pc := 1) dX11_as_1 fl_X11_10 hC.1 rfl ?_
  refine ok_iload_n (pc := 4) dX11_as_4 rfl ?_
  refine ok_callVr1 (pc := 5) (d' := 0) dX11_as_5 vl_X11_91 hC.2.1.o rfl rfl rfl (by decide) ?_
  refine c_kiteAt hC.2.1 eK lK (fun q9 ex9 lx9 hK9 => ?_) (fun h9 => absurd h9 (by rw [hx]; decide))
  refine ok_astore_n3 (pc := 8) dX11_as_8 (by decide) rfl ?_
  refine ok_aload_n (pc := 9) dX11_as_9 rfl ?_
  refine ok_ifnull (pc := 10) dX11_as_10 ?_
  refine ok_iload_n (pc := 13) dX11_as_13 rfl ?_
  refine ok_iconst (pc := 14) (v := 0) dX11_as_14 (by decide) ?_
  refine ok_bipush (pc := 15) (v := 6) dX11_as_15 (by decide) ?_
  refine ok_callSi3 (pc := 17) (d' := 0) dX11_as_17 sl_X11_45 rfl (by decide) ?_
  refine c_within ?_
  refine ok_if_ne (pc := 20) 29 dX11_as_20 (by decide) (fun cc_20 => ?_) (fun cc_20 => ?_)
  · have cq_20 := bI_n0.mp cc_20
    refine ok_aload_n (pc := 29) dX11_as_29 rfl ?_
    refine ok_iload_n (pc := 30) dX11_as_30 rfl ?_
    refine ok_callSi2 (pc := 31) (d' := 0) dX11_as_31 sl_X11_115 rfl (by decide) ?_
    refine c_isOfKind hK9.2 (iK _ lx9).2.2.1 cq_20 ?_
    refine ok_if_eq (pc := 34) 44 dX11_as_34 (by decide) (fun cc_34 => ?_) (fun cc_34 => ?_)
    · have cq_34 := bI_0.mp cc_34
      refine ok_aload_n (pc := 44) dX11_as_44 rfl ?_
      refine ok_iconst (pc := 45) (v := 5) dX11_as_45 (by decide) ?_
      refine ok_callVi1 (pc := 46) (d' := 1) dX11_as_46 vl_X11_49 hC.1 rfl rfl rfl (by decide) ?_
      refine c_error hC hI hae 5 rfl (by decide) (by decide) (fun M2 hC2 hO2 => ?_)
      refine ok_iret (pc := 49) dX11_as_49 rfl ?_
      first
        | (have hop : op_as σ x y = (5, -1000000005) := (if_pos (by rw [hx, cq_20]; rfl)).trans (if_neg (by rw [cq_34]; decide))
           rw [hop] at k
           rw [er_5]
           exact k _ hC2 hO2)
        | (have hop : op_as σ x y = (0, kf σ (iN x) 3) := (if_pos (by rw [hx, cq_20]; rfl)).trans (if_pos cq_34)
           rw [hop] at k
           rw [eU_0] at k
           exact k _ hC Off.rfl')
    · have cq_34 := bI_n0.mp cc_34
      refine ok_aload_n (pc := 37) dX11_as_37 rfl ?_
      refine ok_getf (pc := 38) dX11_as_38 (flk_X11_106 _) hK9.2 rfl ?_
      refine ok_goto (pc := 41) 49 dX11_as_41 (by decide) ?_
      refine ok_iret (pc := 49) dX11_as_49 rfl ?_
      first
        | (have hop : op_as σ x y = (5, -1000000005) := (if_pos (by rw [hx, cq_20]; rfl)).trans (if_neg (by rw [cq_34]; decide))
           rw [hop] at k
           rw [er_5]
           exact k _ hC2 hO2)
        | (have hop : op_as σ x y = (0, kf σ (iN x) 3) := (if_pos (by rw [hx, cq_20]; rfl)).trans (if_pos cq_34)
           rw [hop] at k
           rw [eU_0] at k
           exact k _ hC Off.rfl')
  · have cq_20 := bI_0.mp cc_20
    refine ok_aload_n (pc := 23) dX11_as_23 rfl ?_
    refine ok_iconst (pc := 24) (v := 1) dX11_as_24 (by decide) ?_
    refine ok_callVi1 (pc := 25) (d' := 1) dX11_as_25 vl_X11_49 hC.1 rfl rfl rfl (by decide) ?_
    refine c_error hC hI hae 1 rfl (by decide) (by decide) (fun M2 hC2 hO2 => ?_)
    refine ok_iret (pc := 28) dX11_as_28 rfl ?_
    have hop : op_as σ x y = (1, -1000000001) := if_neg (by rw [cq_20, Bool.and_false]; decide)
    rw [hop] at k
    rw [er_1]
    exact k _ hC2 hO2

theorem x_as {Γ : Cx} {a e z sz : Nat} {σ κ vi : Rw} {va : Nat → Rw} {M : Nat → Option va_E} {K : Int32 → Wd → Prop} (hC : ClsR Γ a e z σ κ vi va M) (hI : Inv σ) (hae : a + 92 ≤ e) {x y : Int32} (k : ∀ M', ClsR Γ a e z σ κ vi (eU va (op_as σ x y).1) M' → Off a 92 M M' → K (op_as σ x y).2 (M', sz)) : Spec Γ mX11_as 2 0 [.ref a, .int x, .int y] (M, sz) (ci K) := by
  cases hx : wi x 0 (σ 2 - 1) with
  | true => exact x_asT hC hI hae hx k
  | false => exact x_asF hC hI hae hx k
