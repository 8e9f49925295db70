theorem ok_aloadN {Γ : Cx} {f : Md} {d b pc : Nat} {L : List (Option Value)} {st : List Value} {G : Wd} {Q : Option Value → Wd → Prop} {j : Nat} (hd : decode f.2.1 pc = .ok (.aload j, 2)) (hL : L[j]? = some (some .null)) (k : Ok Γ f d b (pc + 2) L (.null :: st) G Q) : Ok Γ f d b pc L st G Q :=
  fun p e s m args below meth c F H locs cells slots bb h1 h2 hH hS ls hls => lv_aloadN F.1 F.2.1 hd (hls.2.2 _ _ hL) (k p e s m args below meth c F H locs cells slots bb h1 h2 hH hS ls hls)
theorem wi_k {σ : Rw} (eK : σ 2 = nI (cK σ)) (lK : cK σ ≤ 8) {x : Int32} (e1 : x = nI (iN x)) (l1 : iN x < cK σ) : wi x 0 (σ 2 - 1) = true :=
  wi_T eK (by omega) (by rw [e1]; exact nI_pos' (by omega)) (by rw [e1, eK]; exact nI_lt l1 (by omega))
theorem er_1 : (-1000000000 - nI 1 : Int32) = -1000000001 := by decide
theorem er_2 : (-1000000000 - nI 2 : Int32) = -1000000002 := by decide

set_option maxHeartbeats 1000000 in
theorem x_pullF {Γ : Cx} {a e z sz : Nat} {σ κ vi : Rw} {va : Nat → Rw} {M : Nat → Option va_E} {K : Int32 → Wd → Prop} (hC : ClsR Γ a e z σ κ vi va M) (hI : Inv σ) (hae : a + 92 ≤ e) {x y w : Int32} (hx : wi x 0 (σ 2 - 1) = false) (k : ∀ M', ClsR Γ a e z σ κ vi (eU va (op_pull σ x y w).1) M' → Off a 92 M M' → K (op_pull σ x y w).2 (M', sz)) : Spec Γ mX11_pull 4 0 [.ref a, .int x, .int y, .int w] (M, sz) (ci K) := by
  obtain ⟨⟨⟨eH, lH⟩, ⟨eK, lK⟩, ⟨eL, lL⟩, ⟨eA, lA⟩, ⟨eT, lT⟩⟩, iK, iH, iW, iL, iO, iB, hT⟩ := id hI
  have hx0 := hx
  refine spec_in [some (.ref a), some (.int x), some (.int y), some (.int w), none] 1 (by decide) rfl rfl ?_
  refine ok_aload_n (pc := 0) dX11_pull_0 rfl ?_
  refine ok_getf (pc := 1) dX11_pull_1 fl_X11_10 hC.1 rfl ?_
  refine ok_iload_n (pc := 4) dX11_pull_4 rfl ?_
  refine ok_callVr1 (pc := 5) (d' := 0) dX11_pull_5 vl_X11_91 hC.2.1.o rfl rfl rfl (by decide) ?_
  refine c_kiteAt hC.2.1 eK lK (fun q9 ex9 lx9 hK9 => absurd (wi_k eK lK ex9 lx9) (by rw [hx]; decide)) (fun h9 => ?_)
  refine ok_astoreN4 (pc := 8) dX11_pull_8 (by decide) rfl ?_
  refine ok_aloadN (pc := 10) dX11_pull_10 rfl ?_
  refine ok_ifnullN (pc := 12) 37 dX11_pull_12 (by decide) ?_
  refine ok_aload_n (pc := 37) dX11_pull_37 rfl ?_
  refine ok_iconst (pc := 38) (v := 1) dX11_pull_38 (by decide) ?_
  refine ok_callVi1 (pc := 39) (d' := 1) dX11_pull_39 vl_X11_49 hC.1 rfl rfl rfl (by decide) ?_
  refine c_error hC hI hae 1 rfl (by decide) (by decide) (fun M2 hC2 hO2 => ?_)
  refine ok_iret (pc := 42) dX11_pull_42 rfl ?_
  have hop : op_pull σ x y w = (1, -1000000001) := if_neg (by simp [hx0])
  rw [hop] at k
  rw [er_1]
  exact k _ hC2 hO2

set_option maxHeartbeats 1000000 in
theorem x_pullT {Γ : Cx} {a e z sz : Nat} {σ κ vi : Rw} {va : Nat → Rw} {M : Nat → Option va_E} {K : Int32 → Wd → Prop} (hC : ClsR Γ a e z σ κ vi va M) (hI : Inv σ) (hae : a + 92 ≤ e) {x y w : Int32} (hx : wi x 0 (σ 2 - 1) = true) (k : ∀ M', ClsR Γ a e z σ κ vi (eU va (op_pull σ x y w).1) M' → Off a 92 M M' → K (op_pull σ x y w).2 (M', sz)) : Spec Γ mX11_pull 4 0 [.ref a, .int x, .int y, .int w] (M, sz) (ci K) := by
  obtain ⟨⟨⟨eH, lH⟩, ⟨eK, lK⟩, ⟨eL, lL⟩, ⟨eA, lA⟩, ⟨eT, lT⟩⟩, iK, iH, iW, iL, iO, iB, hT⟩ := id hI
  have hx0 := hx
  refine spec_in [some (.ref a), some (.int x), some (.int y), some (.int w), none] 1 (by decide) rfl rfl ?_
  refine ok_aload_n (pc := 0) dX11_pull_0 rfl ?_
  refine ok_getf (pc := 1) dX11_pull_1 fl_X11_10 hC.1 rfl ?_
  refine ok_iload_n (pc := 4) dX11_pull_4 rfl ?_
  refine ok_callVr1 (pc := 5) (d' := 0) dX11_pull_5 vl_X11_91 hC.2.1.o rfl rfl rfl (by decide) ?_
  refine c_kiteAt hC.2.1 eK lK (fun q9 ex9 lx9 hK9 => ?_) (fun h9 => absurd h9 (by rw [hx]; decide))
  refine ok_astore4 (pc := 8) dX11_pull_8 (by decide) rfl ?_
  refine ok_aload (pc := 10) dX11_pull_10 rfl ?_
  refine ok_ifnull (pc := 12) dX11_pull_12 ?_
  refine ok_aload_n (pc := 15) dX11_pull_15 rfl ?_
  refine ok_getf (pc := 16) dX11_pull_16 fl_X11_10 hC.1 rfl ?_
  refine ok_iload_n (pc := 19) dX11_pull_19 rfl ?_
  refine ok_callVi1 (pc := 20) (d' := 0) dX11_pull_20 vl_X11_64 hC.2.1.o rfl rfl rfl (by decide) ?_
  refine c_isHill hC.2.1 eH lH ?_
  refine ok_if_eq (pc := 23) 37 dX11_pull_23 (by decide) (fun cc_23 => ?_) (fun cc_23 => ?_)
  · have cq_23 := bI_0.mp cc_23
    refine ok_aload_n (pc := 37) dX11_pull_37 rfl ?_
    refine ok_iconst (pc := 38) (v := 1) dX11_pull_38 (by decide) ?_
    refine ok_callVi1 (pc := 39) (d' := 1) dX11_pull_39 vl_X11_49 hC.1 rfl rfl rfl (by decide) ?_
    refine c_error hC hI hae 1 rfl (by decide) (by decide) (fun M2 hC2 hO2 => ?_)
    refine ok_iret (pc := 42) dX11_pull_42 rfl ?_
    have hop : op_pull σ x y w = (1, -1000000001) := if_neg (by simp [hx0, cq_23])
    rw [hop] at k
    rw [er_1]
    exact k _ hC2 hO2
  · have cq_23 := bI_n0.mp cc_23
    refine ok_iload_n (pc := 26) dX11_pull_26 rfl ?_
    refine ok_iconst (pc := 27) (v := 0) dX11_pull_27 (by decide) ?_
    refine ok_sipush (pc := 28) (v := 999) dX11_pull_28 (by decide) ?_
    refine ok_callSi3 (pc := 31) (d' := 0) dX11_pull_31 sl_X11_45 rfl (by decide) ?_
    refine c_within ?_
    refine ok_if_ne (pc := 34) 43 dX11_pull_34 (by decide) (fun cc_34 => ?_) (fun cc_34 => ?_)
    · have cq_34 := bI_n0.mp cc_34
      refine ok_aload_n (pc := 43) dX11_pull_43 rfl ?_
      refine ok_getf (pc := 44) dX11_pull_44 fl_X11_10 hC.1 rfl ?_
      refine ok_aload (pc := 47) dX11_pull_47 rfl ?_
      refine ok_iload_n (pc := 49) dX11_pull_49 rfl ?_
      refine ok_iload_n (pc := 50) dX11_pull_50 rfl ?_
      refine ok_aload_n (pc := 51) dX11_pull_51 rfl ?_
      refine ok_getf (pc := 52) dX11_pull_52 fl_X11_10 hC.1 rfl ?_
      refine ok_getf (pc := 55) dX11_pull_55 fl_X11_122 hC.2.1.o rfl ?_
      refine ok_callVi4 (pc := 58) (d' := 2) dX11_pull_58 vl_X11_125 hC.2.1.o rfl rfl rfl (by decide) ?_
      obtain ⟨ey9, ly9⟩ := wi_cnt eH (by omega) cq_23
      refine c_pullAt hC.2.1 hI (by omega) (iN x) hK9 lx9 (iN y) (cT σ) ey9 eT ly9 (by omega) (fun M9 hP9 hO9 => ?_)
      have hC9 := hC.po hI hae hP9 (fun q hq => hO9 q (by omega))
      have hO : Off a 92 M M9 := hO9.sub (by omega) (by omega)
      refine ok_iret (pc := 61) dX11_pull_61 rfl ?_
      have hop : op_pull σ x y w = (0, pullF σ (iN x) (iN y) w (cT σ % 24) (σ 0) (hmF σ (iN x))) := if_pos (by simp [hx0, cq_23, cq_34])
      rw [hop] at k
      rw [eU_0] at k
      exact k _ hC9 hO
    · have cq_34 := bI_0.mp cc_34
      refine ok_aload_n (pc := 37) dX11_pull_37 rfl ?_
      refine ok_iconst (pc := 38) (v := 1) dX11_pull_38 (by decide) ?_
      refine ok_callVi1 (pc := 39) (d' := 1) dX11_pull_39 vl_X11_49 hC.1 rfl rfl rfl (by decide) ?_
      refine c_error hC hI hae 1 rfl (by decide) (by decide) (fun M2 hC2 hO2 => ?_)
      refine ok_iret (pc := 42) dX11_pull_42 rfl ?_
      have hop : op_pull σ x y w = (1, -1000000001) := if_neg (by simp [hx0, cq_23, cq_34])
      rw [hop] at k
      rw [er_1]
      exact k _ hC2 hO2

theorem x_pull {Γ : Cx} {a e z sz : Nat} {σ κ vi : Rw} {va : Nat → Rw} {M : Nat → Option va_E} {K : Int32 → Wd → Prop} (hC : ClsR Γ a e z σ κ vi va M) (hI : Inv σ) (hae : a + 92 ≤ e) {x y w : Int32} (k : ∀ M', ClsR Γ a e z σ κ vi (eU va (op_pull σ x y w).1) M' → Off a 92 M M' → K (op_pull σ x y w).2 (M', sz)) : Spec Γ mX11_pull 4 0 [.ref a, .int x, .int y, .int w] (M, sz) (ci K) := by
  cases hx : wi x 0 (σ 2 - 1) with
  | true => exact x_pullT hC hI hae hx k
  | false => exact x_pullF hC hI hae hx k

set_option maxHeartbeats 1000000 in
theorem x_standsF {Γ : Cx} {a e z sz : Nat} {σ κ vi : Rw} {va : Nat → Rw} {M : Nat → Option va_E} {K : Int32 → Wd → Prop} (hC : ClsR Γ a e z σ κ vi va M) (hI : Inv σ) (hae : a + 92 ≤ e) {x y w : Int32} (hx : wi x 0 (σ 2 - 1) = false) (k : ∀ M', ClsR Γ a e z σ κ vi (eU va (op_stands σ x y w).1) M' → Off a 92 M M' → K (op_stands σ x y w).2 (M', sz)) : Spec Γ mX11_stands 4 0 [.ref a, .int x, .int y, .int w] (M, sz) (ci K) := by
  obtain ⟨⟨⟨eH, lH⟩, ⟨eK, lK⟩, ⟨eL, lL⟩, ⟨eA, lA⟩, ⟨eT, lT⟩⟩, iK, iH, iW, iL, iO, iB, hT⟩ := id hI
  have hx0 := hx
  refine spec_in [some (.ref a), some (.int x), some (.int y), some (.int w), none] 1 (by decide) rfl rfl ?_
  refine ok_aload_n (pc := 0) dX11_stands_0 rfl ?_
  refine ok_getf (pc := 1) dX11_stands_1 fl_X11_10 hC.1 rfl ?_
  refine ok_iload_n (pc := 4) dX11_stands_4 rfl ?_
  refine ok_callVr1 (pc := 5) (d' := 0) dX11_stands_5 vl_X11_91 hC.2.1.o rfl rfl rfl (by decide) ?_
  refine c_kiteAt hC.2.1 eK lK (fun q9 ex9 lx9 hK9 => absurd (wi_k eK lK ex9 lx9) (by rw [hx]; decide)) (fun h9 => ?_)
  refine ok_astoreN4 (pc := 8) dX11_stands_8 (by decide) rfl ?_
  refine ok_aloadN (pc := 10) dX11_stands_10 rfl ?_
  refine ok_ifnullN (pc := 12) 37 dX11_stands_12 (by decide) ?_
  refine ok_aload_n (pc := 37) dX11_stands_37 rfl ?_
  refine ok_iconst (pc := 38) (v := 1) dX11_stands_38 (by decide) ?_
  refine ok_callVi1 (pc := 39) (d' := 1) dX11_stands_39 vl_X11_49 hC.1 rfl rfl rfl (by decide) ?_
  refine c_error hC hI hae 1 rfl (by decide) (by decide) (fun M2 hC2 hO2 => ?_)
  refine ok_iret (pc := 42) dX11_stands_42 rfl ?_
  have hop : op_stands σ x y w = (1, -1000000001) := if_neg (by simp [hx0])
  rw [hop] at k
  rw [er_1]
  exact k _ hC2 hO2

set_option maxHeartbeats 1000000 in
theorem x_standsT {Γ : Cx} {a e z sz : Nat} {σ κ vi : Rw} {va : Nat → Rw} {M : Nat → Option va_E} {K : Int32 → Wd → Prop} (hC : ClsR Γ a e z σ κ vi va M) (hI : Inv σ) (hae : a + 92 ≤ e) {x y w : Int32} (hx : wi x 0 (σ 2 - 1) = true) (k : ∀ M', ClsR Γ a e z σ κ vi (eU va (op_stands σ x y w).1) M' → Off a 92 M M' → K (op_stands σ x y w).2 (M', sz)) : Spec Γ mX11_stands 4 0 [.ref a, .int x, .int y, .int w] (M, sz) (ci K) := by
  obtain ⟨⟨⟨eH, lH⟩, ⟨eK, lK⟩, ⟨eL, lL⟩, ⟨eA, lA⟩, ⟨eT, lT⟩⟩, iK, iH, iW, iL, iO, iB, hT⟩ := id hI
  have hx0 := hx
  refine spec_in [some (.ref a), some (.int x), some (.int y), some (.int w), none] 1 (by decide) rfl rfl ?_
  refine ok_aload_n (pc := 0) dX11_stands_0 rfl ?_
  refine ok_getf (pc := 1) dX11_stands_1 fl_X11_10 hC.1 rfl ?_
  refine ok_iload_n (pc := 4) dX11_stands_4 rfl ?_
  refine ok_callVr1 (pc := 5) (d' := 0) dX11_stands_5 vl_X11_91 hC.2.1.o rfl rfl rfl (by decide) ?_
  refine c_kiteAt hC.2.1 eK lK (fun q9 ex9 lx9 hK9 => ?_) (fun h9 => absurd h9 (by rw [hx]; decide))
  refine ok_astore4 (pc := 8) dX11_stands_8 (by decide) rfl ?_
  refine ok_aload (pc := 10) dX11_stands_10 rfl ?_
  refine ok_ifnull (pc := 12) dX11_stands_12 ?_
  refine ok_aload_n (pc := 15) dX11_stands_15 rfl ?_
  refine ok_getf (pc := 16) dX11_stands_16 fl_X11_10 hC.1 rfl ?_
  refine ok_iload_n (pc := 19) dX11_stands_19 rfl ?_
  refine ok_callVi1 (pc := 20) (d' := 0) dX11_stands_20 vl_X11_64 hC.2.1.o rfl rfl rfl (by decide) ?_
  refine c_isHill hC.2.1 eH lH ?_
  refine ok_if_eq (pc := 23) 37 dX11_stands_23 (by decide) (fun cc_23 => ?_) (fun cc_23 => ?_)
  · have cq_23 := bI_0.mp cc_23
    refine ok_aload_n (pc := 37) dX11_stands_37 rfl ?_
    refine ok_iconst (pc := 38) (v := 1) dX11_stands_38 (by decide) ?_
    refine ok_callVi1 (pc := 39) (d' := 1) dX11_stands_39 vl_X11_49 hC.1 rfl rfl rfl (by decide) ?_
    refine c_error hC hI hae 1 rfl (by decide) (by decide) (fun M2 hC2 hO2 => ?_)
    refine ok_iret (pc := 42) dX11_stands_42 rfl ?_
    have hop : op_stands σ x y w = (1, -1000000001) := if_neg (by simp [hx0, cq_23])
    rw [hop] at k
    rw [er_1]
    exact k _ hC2 hO2
  · have cq_23 := bI_n0.mp cc_23
    refine ok_iload_n (pc := 26) dX11_stands_26 rfl ?_
    refine ok_iconst (pc := 27) (v := 0) dX11_stands_27 (by decide) ?_
    refine ok_sipush (pc := 28) (v := 999) dX11_stands_28 (by decide) ?_
    refine ok_callSi3 (pc := 31) (d' := 0) dX11_stands_31 sl_X11_45 rfl (by decide) ?_
    refine c_within ?_
    refine ok_if_ne (pc := 34) 43 dX11_stands_34 (by decide) (fun cc_34 => ?_) (fun cc_34 => ?_)
    · have cq_34 := bI_n0.mp cc_34
      refine ok_aload_n (pc := 43) dX11_stands_43 rfl ?_
      refine ok_getf (pc := 44) dX11_stands_44 fl_X11_10 hC.1 rfl ?_
      refine ok_aload (pc := 47) dX11_stands_47 rfl ?_
      refine ok_iload_n (pc := 49) dX11_stands_49 rfl ?_
      refine ok_iload_n (pc := 50) dX11_stands_50 rfl ?_
      refine ok_aload_n (pc := 51) dX11_stands_51 rfl ?_
      refine ok_getf (pc := 52) dX11_stands_52 fl_X11_10 hC.1 rfl ?_
      refine ok_getf (pc := 55) dX11_stands_55 fl_X11_122 hC.2.1.o rfl ?_
      refine ok_callVi4 (pc := 58) (d' := 3) dX11_stands_58 vl_X11_129 hC.2.1.o rfl rfl rfl (by decide) ?_
      obtain ⟨ey9, ly9⟩ := wi_cnt eH (by omega) cq_23
      refine c_standsAt hC.2.1 hI (by omega) (iN x) hK9 lx9 (iN y) (cT σ) ey9 eT ly9 (by omega) (fun M9 hP9 hO9 => ?_)
      have hC9 := hC.po hI hae hP9 (fun q hq => hO9 q (by omega))
      have hO : Off a 92 M M9 := hO9.sub (by omega) (by omega)
      refine ok_if_eq (pc := 61) 68 dX11_stands_61 (by decide) (fun cc_61 => ?_) (fun cc_61 => ?_)
      · have cq_61 := bI_0.mp cc_61
        refine ok_iconst (pc := 68) (v := 0) dX11_stands_68 (by decide) ?_
        refine ok_iret (pc := 69) dX11_stands_69 rfl ?_
        have hop : op_stands σ x y w = (0, bI (stN σ (iN x) (iN y) w)) := if_pos (by simp [hx0, cq_23, cq_34])
        rw [hop] at k
        rw [eU_0] at k
        unfold stN at k
        simpa [bI, cq_61] using k _ hC9 hO
      · have cq_61 := bI_n0.mp cc_61
        refine ok_iconst (pc := 64) (v := 1) dX11_stands_64 (by decide) ?_
        refine ok_goto (pc := 65) 69 dX11_stands_65 (by decide) ?_
        refine ok_iret (pc := 69) dX11_stands_69 rfl ?_
        have hop : op_stands σ x y w = (0, bI (stN σ (iN x) (iN y) w)) := if_pos (by simp [hx0, cq_23, cq_34])
        rw [hop] at k
        rw [eU_0] at k
        unfold stN at k
        simpa [bI, cq_61] using k _ hC9 hO
    · have cq_34 := bI_0.mp cc_34
      refine ok_aload_n (pc := 37) dX11_stands_37 rfl ?_
      refine ok_iconst (pc := 38) (v := 1) dX11_stands_38 (by decide) ?_
      refine ok_callVi1 (pc := 39) (d' := 1) dX11_stands_39 vl_X11_49 hC.1 rfl rfl rfl (by decide) ?_
      refine c_error hC hI hae 1 rfl (by decide) (by decide) (fun M2 hC2 hO2 => ?_)
      refine ok_iret (pc := 42) dX11_stands_42 rfl ?_
      have hop : op_stands σ x y w = (1, -1000000001) := if_neg (by simp [hx0, cq_23, cq_34])
      rw [hop] at k
      rw [er_1]
      exact k _ hC2 hO2

theorem x_stands {Γ : Cx} {a e z sz : Nat} {σ κ vi : Rw} {va : Nat → Rw} {M : Nat → Option va_E} {K : Int32 → Wd → Prop} (hC : ClsR Γ a e z σ κ vi va M) (hI : Inv σ) (hae : a + 92 ≤ e) {x y w : Int32} (k : ∀ M', ClsR Γ a e z σ κ vi (eU va (op_stands σ x y w).1) M' → Off a 92 M M' → K (op_stands σ x y w).2 (M', sz)) : Spec Γ mX11_stands 4 0 [.ref a, .int x, .int y, .int w] (M, sz) (ci K) := by
  cases hx : wi x 0 (σ 2 - 1) with
  | true => exact x_standsT hC hI hae hx k
  | false => exact x_standsF hC hI hae hx k

set_option maxHeartbeats 1000000 in
theorem x_told {Γ : Cx} {a e z sz : Nat} {σ κ vi : Rw} {va : Nat → Rw} {M : Nat → Option va_E} {K : Int32 → Wd → Prop} (hC : ClsR Γ a e z σ κ vi va M) (hI : Inv σ) (hae : a + 92 ≤ e) {x : Int32} (k : ∀ M', ClsR Γ a e z σ κ vi (eU va (op_told (va 4) x).1) M' → Off a 92 M M' → K (op_told (va 4) x).2 (M', sz)) : Spec Γ mX11_told 2 0 [.ref a, .int x] (M, sz) (ci K) := by
  have hx0 : True := trivial
  refine spec_in [some (.ref a), some (.int x)] 0 (by decide) rfl rfl ?_
  refine ok_iload_n (pc := 0) dX11_told_0 rfl ?_
  refine ok_iconst (pc := 1) (v := 1) dX11_told_1 (by decide) ?_
  refine ok_iconst (pc := 2) (v := 5) dX11_told_2 (by decide) ?_
  refine ok_callSi3 (pc := 3) (d' := 0) dX11_told_3 sl_X11_45 rfl (by decide) ?_
  refine c_within ?_
  refine ok_if_eq (pc := 6) 18 dX11_told_6 (by decide) (fun cc_6 => ?_) (fun cc_6 => ?_)
  · have cq_6 := bI_0.mp cc_6
    refine ok_aload_n (pc := 18) dX11_told_18 rfl ?_
    refine ok_iconst (pc := 19) (v := 1) dX11_told_19 (by decide) ?_
    refine ok_callVi1 (pc := 20) (d' := 1) dX11_told_20 vl_X11_49 hC.1 rfl rfl rfl (by decide) ?_
    refine c_error hC hI hae 1 rfl (by decide) (by decide) (fun M2 hC2 hO2 => ?_)
    refine ok_iret (pc := 23) dX11_told_23 rfl ?_
    first
      | (have hop : op_told (va 4) x = (1, -1000000001) := if_neg (by rw [cq_6]; decide)
         rw [hop] at k
         rw [er_1]
         exact k _ hC2 hO2)
      | (have hop : op_told (va 4) x = (0, va 4 (iN x)) := if_pos cq_6
         rw [hop] at k
         rw [eU_0] at k
         exact k _ hC Off.rfl')
  · have cq_6 := bI_n0.mp cc_6
    refine ok_aload_n (pc := 9) dX11_told_9 rfl ?_
    refine ok_getf (pc := 10) dX11_told_10 fl_X11_37 hC.1 rfl ?_
    refine ok_iload_n (pc := 13) dX11_told_13 rfl ?_
    obtain ⟨ex9, lx1, lx5⟩ := wi_lit (a := 1) (c := 5) rfl rfl (by decide) (by decide) cq_6
    refine ok_rde (pc := 14) (iN x) dX11_told_14 hC.2.2.2.2.2.2.1 ex9 (by omega) (by decide) ?_
    refine ok_goto (pc := 15) 23 dX11_told_15 (by decide) ?_
    refine ok_iret (pc := 23) dX11_told_23 rfl ?_
    first
      | (have hop : op_told (va 4) x = (1, -1000000001) := if_neg (by rw [cq_6]; decide)
         rw [hop] at k
         rw [er_1]
         exact k _ hC2 hO2)
      | (have hop : op_told (va 4) x = (0, va 4 (iN x)) := if_pos cq_6
         rw [hop] at k
         rw [eU_0] at k
         exact k _ hC Off.rfl')

set_option maxHeartbeats 1000000 in
theorem x_trace {Γ : Cx} {a e z sz : Nat} {σ κ vi : Rw} {va : Nat → Rw} {M : Nat → Option va_E} {K : Int32 → Wd → Prop} (hC : ClsR Γ a e z σ κ vi va M) (hI : Inv σ) (hae : a + 92 ≤ e) {x : Int32} (hTr : ∃ n, vi 19 = nI n ∧ n ≤ 40) (k : ∀ M', ClsR Γ a e z σ κ vi (eU va (op_trace (va 18) (vi 19) x).1) M' → Off a 92 M M' → K (op_trace (va 18) (vi 19) x).2 (M', sz)) : Spec Γ mX11_trace 2 0 [.ref a, .int x] (M, sz) (ci K) := by
  obtain ⟨nt, et, lt⟩ := hTr
  refine spec_in [some (.ref a), some (.int x)] 0 (by decide) rfl rfl ?_
  refine ok_iload_n (pc := 0) dX11_trace_0 rfl ?_
  refine ok_iconst (pc := 1) (v := 0) dX11_trace_1 (by decide) ?_
  refine ok_aload_n (pc := 2) dX11_trace_2 rfl ?_
  refine ok_getf (pc := 3) dX11_trace_3 fl_X11_27 hC.1 rfl ?_
  refine ok_getf (pc := 6) dX11_trace_6 fl_X11_140 hC.2.2.2.2.1.1 rfl ?_
  refine ok_iconst (pc := 9) (v := 1) dX11_trace_9 (by decide) ?_
  refine ok_isub (pc := 10) dX11_trace_10 ?_
  refine ok_callSi3 (pc := 11) (d' := 0) dX11_trace_11 sl_X11_45 rfl (by decide) ?_
  refine c_within ?_
  refine ok_if_eq (pc := 14) 28 dX11_trace_14 (by decide) (fun cc_14 => ?_) (fun cc_14 => ?_)
  · have cq_14 := bI_0.mp cc_14
    refine ok_aload_n (pc := 28) dX11_trace_28 rfl ?_
    refine ok_iconst (pc := 29) (v := 2) dX11_trace_29 (by decide) ?_
    refine ok_callVi1 (pc := 30) (d' := 1) dX11_trace_30 vl_X11_49 hC.1 rfl rfl rfl (by decide) ?_
    refine c_error hC hI hae 2 rfl (by decide) (by decide) (fun M2 hC2 hO2 => ?_)
    refine ok_iret (pc := 33) dX11_trace_33 rfl ?_
    first
      | (have hop : op_trace (va 18) (vi 19) x = (2, -1000000002) := if_neg (by rw [cq_14]; decide)
         rw [hop] at k
         rw [er_2]
         exact k _ hC2 hO2)
      | (have hop : op_trace (va 18) (vi 19) x = (0, va 18 (iN x)) := if_pos cq_14
         rw [hop] at k
         rw [eU_0] at k
         rw [efb]
         exact k _ hC Off.rfl')
  · have cq_14 := bI_n0.mp cc_14
    refine ok_aload_n (pc := 17) dX11_trace_17 rfl ?_
    refine ok_getf (pc := 18) dX11_trace_18 fl_X11_27 hC.1 rfl ?_
    refine ok_iload_n (pc := 21) dX11_trace_21 rfl ?_
    refine ok_callVi1 (pc := 22) (d' := 0) dX11_trace_22 vl_X11_225 hC.2.2.2.2.1.1 rfl rfl rfl (by decide) ?_
    obtain ⟨ex9, lx9⟩ := wi_cnt et (by omega) cq_14
    obtain ⟨-, fb, fb1, fb2⟩ := id hC.2.2.2.2.1
    refine c_get hC.2.2.2.2.1.1 fb1 nt et lt (by decide) (iN x) ex9 lx9 ?_
    have efb : fb (iN x) = va 18 (iN x) := fb2 _ (by rw [rw_in et (by omega)]; exact lx9)
    refine ok_goto (pc := 25) 33 dX11_trace_25 (by decide) ?_
    refine ok_iret (pc := 33) dX11_trace_33 rfl ?_
    first
      | (have hop : op_trace (va 18) (vi 19) x = (2, -1000000002) := if_neg (by rw [cq_14]; decide)
         rw [hop] at k
         rw [er_2]
         exact k _ hC2 hO2)
      | (have hop : op_trace (va 18) (vi 19) x = (0, va 18 (iN x)) := if_pos cq_14
         rw [hop] at k
         rw [eU_0] at k
         rw [efb]
         exact k _ hC Off.rfl')

set_option maxHeartbeats 1000000 in
theorem x_ofLetter {Γ : Cx} {a e z sz : Nat} {σ κ vi : Rw} {va : Nat → Rw} {M : Nat → Option va_E} {K : Int32 → Wd → Prop} (hC : ClsR Γ a e z σ κ vi va M) (hI : Inv σ) (hae : a + 92 ≤ e) {x y : Int32} (k : ∀ M', ClsR Γ a e z σ κ vi (eU va (op_ofLetter σ x y).1) M' → Off a 92 M M' → K (op_ofLetter σ x y).2 (M', sz)) : Spec Γ mX11_ofLetter 2 0 [.ref a, .int x, .int y] (M, sz) (ci K) := by
  obtain ⟨⟨⟨eH, lH⟩, ⟨eK, lK⟩, ⟨eL, lL⟩, ⟨eA, lA⟩, ⟨eT, lT⟩⟩, iK, iH, iW, iL, iO, iB, hT⟩ := id hI
  
  refine spec_in [some (.ref a), some (.int x), some (.int y)] 0 (by decide) rfl rfl ?_
  refine ok_aload_n (pc := 0) dX11_ofLetter_0 rfl ?_
  refine ok_getf (pc := 1) dX11_ofLetter_1 fl_X11_10 hC.1 rfl ?_
  refine ok_iload_n (pc := 4) dX11_ofLetter_4 rfl ?_
  refine ok_callVi1 (pc := 5) (d' := 0) dX11_ofLetter_5 vl_X11_185 hC.2.1.o rfl rfl rfl (by decide) ?_
  refine c_isLetter hC.2.1 eL lL ?_
  refine ok_if_eq (pc := 8) 21 dX11_ofLetter_8 (by decide) (fun cc_8 => ?_) (fun cc_8 => ?_)
  · have cq_8 := bI_0.mp cc_8
    refine ok_aload_n (pc := 21) dX11_ofLetter_21 rfl ?_
    refine ok_iconst (pc := 22) (v := 1) dX11_ofLetter_22 (by decide) ?_
    refine ok_callVi1 (pc := 23) (d' := 1) dX11_ofLetter_23 vl_X11_49 hC.1 rfl rfl rfl (by decide) ?_
    refine c_error hC hI hae 1 rfl (by decide) (by decide) (fun M2 hC2 hO2 => ?_)
    refine ok_iret (pc := 26) dX11_ofLetter_26 rfl ?_
    have hop : op_ofLetter σ x y = (1, -1000000001) := if_neg (by simp [cq_8])
    rw [hop] at k
    rw [er_1]
    exact k _ hC2 hO2
  · have cq_8 := bI_n0.mp cc_8
    refine ok_iload_n (pc := 11) dX11_ofLetter_11 rfl ?_
    refine ok_iconst (pc := 12) (v := 0) dX11_ofLetter_12 (by decide) ?_
    refine ok_bipush (pc := 13) (v := 6) dX11_ofLetter_13 (by decide) ?_
    refine ok_callSi3 (pc := 15) (d' := 0) dX11_ofLetter_15 sl_X11_45 rfl (by decide) ?_
    refine c_within ?_
    refine ok_if_ne (pc := 18) 27 dX11_ofLetter_18 (by decide) (fun cc_18 => ?_) (fun cc_18 => ?_)
    · have cq_18 := bI_n0.mp cc_18
      refine ok_aload_n (pc := 27) dX11_ofLetter_27 rfl ?_
      refine ok_getf (pc := 28) dX11_ofLetter_28 fl_X11_10 hC.1 rfl ?_
      refine ok_iload_n (pc := 31) dX11_ofLetter_31 rfl ?_
      refine ok_iload_n (pc := 32) dX11_ofLetter_32 rfl ?_
      refine ok_callVi2 (pc := 33) (d' := 1) dX11_ofLetter_33 vl_X11_188 hC.2.1.o rfl rfl rfl (by decide) ?_
      obtain ⟨ex9, lx9⟩ := wi_cnt eL (by omega) cq_8
      obtain ⟨ey9, -, ly9⟩ := wi_lit (a := 0) (c := 6) rfl rfl (by decide) (by decide) cq_18
      refine c_ofOne hC.2.1 eL lL (iN x) (iN y) ex9 ey9 lx9 (by omega) ?_
      refine ok_iret (pc := 36) dX11_ofLetter_36 rfl ?_
      have hop : op_ofLetter σ x y = (0, lf σ (iN x) (iN y)) := if_pos (by simp [cq_8, cq_18])
      rw [hop] at k
      rw [eU_0] at k
      exact k _ hC Off.rfl'
    · have cq_18 := bI_0.mp cc_18
      refine ok_aload_n (pc := 21) dX11_ofLetter_21 rfl ?_
      refine ok_iconst (pc := 22) (v := 1) dX11_ofLetter_22 (by decide) ?_
      refine ok_callVi1 (pc := 23) (d' := 1) dX11_ofLetter_23 vl_X11_49 hC.1 rfl rfl rfl (by decide) ?_
      refine c_error hC hI hae 1 rfl (by decide) (by decide) (fun M2 hC2 hO2 => ?_)
      refine ok_iret (pc := 26) dX11_ofLetter_26 rfl ?_
      have hop : op_ofLetter σ x y = (1, -1000000001) := if_neg (by simp [cq_8, cq_18])
      rw [hop] at k
      rw [er_1]
      exact k _ hC2 hO2

set_option maxHeartbeats 1000000 in
theorem x_wind {Γ : Cx} {a e z sz : Nat} {σ κ vi : Rw} {va : Nat → Rw} {M : Nat → Option va_E} {K : Int32 → Wd → Prop} (hC : ClsR Γ a e z σ κ vi va M) (hI : Inv σ) (hae : a + 92 ≤ e) {x y : Int32} (k : ∀ M', ClsR Γ a e z (op_wind σ x y).2.2 κ vi (eU va (op_wind σ x y).1) M' → Off a 92 M M' → K (op_wind σ x y).2.1 (M', sz)) : Spec Γ mX11_wind 2 0 [.ref a, .int x, .int y] (M, sz) (ci K) := by
  obtain ⟨⟨⟨eH, lH⟩, ⟨eK, lK⟩, ⟨eL, lL⟩, ⟨eA, lA⟩, ⟨eT, lT⟩⟩, iK, iH, iW, iL, iO, iB, hT⟩ := id hI
  
  refine spec_in [some (.ref a), some (.int x), some (.int y), none] 1 (by decide) rfl rfl ?_
  refine ok_iload_n (pc := 0) dX11_wind_0 rfl ?_
  refine ok_iconst (pc := 1) (v := 0) dX11_wind_1 (by decide) ?_
  refine ok_bipush (pc := 2) (v := 23) dX11_wind_2 (by decide) ?_
  refine ok_callSi3 (pc := 4) (d' := 0) dX11_wind_4 sl_X11_45 rfl (by decide) ?_
  refine c_within ?_
  refine ok_if_eq (pc := 7) 20 dX11_wind_7 (by decide) (fun cc_7 => ?_) (fun cc_7 => ?_)
  · have cq_7 := bI_0.mp cc_7
    refine ok_aload_n (pc := 20) dX11_wind_20 rfl ?_
    refine ok_iconst (pc := 21) (v := 1) dX11_wind_21 (by decide) ?_
    refine ok_callVi1 (pc := 22) (d' := 1) dX11_wind_22 vl_X11_49 hC.1 rfl rfl rfl (by decide) ?_
    refine c_error hC hI hae 1 rfl (by decide) (by decide) (fun M2 hC2 hO2 => ?_)
    refine ok_iret (pc := 25) dX11_wind_25 rfl ?_
    have hop : op_wind σ x y = e3 1 σ := if_neg (by simp [cq_7])
    rw [hop] at k
    exact k _ hC2 hO2
  · have cq_7 := bI_n0.mp cc_7
    refine ok_iload_n (pc := 10) dX11_wind_10 rfl ?_
    refine ok_iconst (pc := 11) (v := 0) dX11_wind_11 (by decide) ?_
    refine ok_bipush (pc := 12) (v := 79) dX11_wind_12 (by decide) ?_
    refine ok_callSi3 (pc := 14) (d' := 0) dX11_wind_14 sl_X11_45 rfl (by decide) ?_
    refine c_within ?_
    refine ok_if_ne (pc := 17) 26 dX11_wind_17 (by decide) (fun cc_17 => ?_) (fun cc_17 => ?_)
    · have cq_17 := bI_n0.mp cc_17
      refine ok_aload_n (pc := 26) dX11_wind_26 rfl ?_
      refine ok_getf (pc := 27) dX11_wind_27 fl_X11_10 hC.1 rfl ?_
      refine ok_iload_n (pc := 30) dX11_wind_30 rfl ?_
      refine ok_callVi1 (pc := 31) (d' := 0) dX11_wind_31 vl_X11_77 hC.2.1.o rfl rfl rfl (by decide) ?_
      obtain ⟨ex9, -, lx9⟩ := wi_lit (a := 0) (c := 23) rfl rfl (by decide) (by decide) cq_7
      refine c_windAt hC.2.1 (iN x) ex9 (by omega) ?_
      rw [Nat.mod_eq_of_lt (show iN x < 24 by omega)]
      refine ok_istore_n3 (pc := 34) dX11_wind_34 (by decide) rfl ?_
      refine ok_aload_n (pc := 35) dX11_wind_35 rfl ?_
      refine ok_getf (pc := 36) dX11_wind_36 fl_X11_10 hC.1 rfl ?_
      refine ok_iload_n (pc := 39) dX11_wind_39 rfl ?_
      refine ok_iload_n (pc := 40) dX11_wind_40 rfl ?_
      refine ok_callVv2 (pc := 41) (d' := 1) dX11_wind_41 vl_X11_80 hC.2.1.o rfl rfl rfl (by decide) ?_
      refine c_changeWind hC.2.1 hI.bd (by omega) (iN x) ex9 (by omega) (fun M9 hP9 hO9 => ?_)
      have hC9 := hC.po hI hae hP9 (fun q hq => hO9 q (by omega))
      have hO : Off a 92 M M9 := hO9.sub (by omega) (by omega)
      refine ok_iload_n (pc := 44) dX11_wind_44 rfl ?_
      refine ok_iret (pc := 45) dX11_wind_45 rfl ?_
      have hop : op_wind σ x y = (0, σ (27 + iN x), upd σ (27 + iN x) y) := if_pos (by simp [cq_7, cq_17])
      rw [hop] at k
      rw [eU_0] at k
      exact k _ hC9 hO
    · have cq_17 := bI_0.mp cc_17
      refine ok_aload_n (pc := 20) dX11_wind_20 rfl ?_
      refine ok_iconst (pc := 21) (v := 1) dX11_wind_21 (by decide) ?_
      refine ok_callVi1 (pc := 22) (d' := 1) dX11_wind_22 vl_X11_49 hC.1 rfl rfl rfl (by decide) ?_
      refine c_error hC hI hae 1 rfl (by decide) (by decide) (fun M2 hC2 hO2 => ?_)
      refine ok_iret (pc := 25) dX11_wind_25 rfl ?_
      have hop : op_wind σ x y = e3 1 σ := if_neg (by simp [cq_7, cq_17])
      rw [hop] at k
      exact k _ hC2 hO2

set_option maxHeartbeats 1000000 in
theorem x_seed {Γ : Cx} {a e z sz : Nat} {σ κ vi : Rw} {va : Nat → Rw} {M : Nat → Option va_E} {K : Int32 → Wd → Prop} (hC : ClsR Γ a e z σ κ vi va M) (hI : Inv σ) (hae : a + 92 ≤ e) {v : Int32} (k : ∀ M', ClsR Γ a e z (op_seed σ v).2.2 κ vi (eU va (op_seed σ v).1) M' → Off a 92 M M' → K (op_seed σ v).2.1 (M', sz)) : Spec Γ mX11_seed 1 0 [.ref a, .int v] (M, sz) (ci K) := by
  refine spec_in [some (.ref a), some (.int v), none] 1 (by decide) rfl rfl ?_
  refine ok_aload_n (pc := 0) dX11_seed_0 rfl ?_
  refine ok_getf (pc := 1) dX11_seed_1 fl_X11_10 hC.1 rfl ?_
  refine ok_getf (pc := 4) dX11_seed_4 fl_X11_234 hC.2.1.o rfl ?_
  refine ok_istore_n2 (pc := 7) dX11_seed_7 (by decide) rfl ?_
  refine ok_aload_n (pc := 8) dX11_seed_8 rfl ?_
  refine ok_getf (pc := 9) dX11_seed_9 fl_X11_10 hC.1 rfl ?_
  refine ok_iload_n (pc := 12) dX11_seed_12 rfl ?_
  refine ok_wdr (pc := 13) dX11_seed_13 pl_X11_234 hC.2.1 hI.bd (by omega) (fun M9 hP9 hO9 => ?_)
  have hC9 := hC.po hI hae hP9 (fun q hq => hO9 q (by omega))
  have hO : Off a 92 M M9 := hO9.sub (by omega) (by omega)
  refine ok_iload_n (pc := 16) dX11_seed_16 rfl ?_
  refine ok_iret (pc := 17) dX11_seed_17 rfl ?_
  have k2 := k
  unfold op_seed at k2
  rw [eU_0] at k2
  exact k2 _ hC9 hO
