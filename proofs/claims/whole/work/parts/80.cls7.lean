set_option maxHeartbeats 1000000 in
theorem c_turn {Γ : Cx} {p e z sz : Nat} {σ : Rw} {M : Nat → Option va_E} {K : Int32 → Wd → Prop} (hP : PstR Γ p e z σ M) {xI yI zI : Int32} (x y z9 : Nat) (ex : xI = nI x) (ey : yI = nI y) (ez : zI = nI z9) (hx9 : x < 9) (hy9 : y < 9) (hz9 : z9 < 9) (k : K (turnF σ x y z9) (M, sz)) : Spec Γ mX5_turn 1 0 [.ref p, .int xI, .int yI, .int zI] (M, sz) (ci K) := by
  refine spec_in [some (.ref p), some (.int xI), some (.int yI), some (.int zI)] 0 (by decide) rfl rfl ?_
  refine ok_aload_n (pc := 0) dX5_turn_0 rfl ?_
  refine ok_iload_n (pc := 1) dX5_turn_1 rfl ?_
  refine ok_callVi1 (pc := 2) (d' := 0) dX5_turn_2 vl_X5_111 hP.o rfl rfl rfl (by decide) ?_
  refine c_xOf hP y ey hy9 ?_
  refine ok_aload_n (pc := 5) dX5_turn_5 rfl ?_
  refine ok_iload_n (pc := 6) dX5_turn_6 rfl ?_
  refine ok_callVi1 (pc := 7) (d' := 0) dX5_turn_7 vl_X5_111 hP.o rfl rfl rfl (by decide) ?_
  refine c_xOf hP x ex hx9 ?_
  refine ok_isub (pc := 10) dX5_turn_10 ?_
  refine ok_aload_n (pc := 11) dX5_turn_11 rfl ?_
  refine ok_iload_n (pc := 12) dX5_turn_12 rfl ?_
  refine ok_callVi1 (pc := 13) (d' := 0) dX5_turn_13 vl_X5_114 hP.o rfl rfl rfl (by decide) ?_
  refine c_yOf hP z9 ez hz9 ?_
  refine ok_aload_n (pc := 16) dX5_turn_16 rfl ?_
  refine ok_iload_n (pc := 17) dX5_turn_17 rfl ?_
  refine ok_callVi1 (pc := 18) (d' := 0) dX5_turn_18 vl_X5_114 hP.o rfl rfl rfl (by decide) ?_
  refine c_yOf hP x ex hx9 ?_
  refine ok_isub (pc := 21) dX5_turn_21 ?_
  refine ok_imul (pc := 22) dX5_turn_22 ?_
  refine ok_aload_n (pc := 23) dX5_turn_23 rfl ?_
  refine ok_iload_n (pc := 24) dX5_turn_24 rfl ?_
  refine ok_callVi1 (pc := 25) (d' := 0) dX5_turn_25 vl_X5_114 hP.o rfl rfl rfl (by decide) ?_
  refine c_yOf hP y ey hy9 ?_
  refine ok_aload_n (pc := 28) dX5_turn_28 rfl ?_
  refine ok_iload_n (pc := 29) dX5_turn_29 rfl ?_
  refine ok_callVi1 (pc := 30) (d' := 0) dX5_turn_30 vl_X5_114 hP.o rfl rfl rfl (by decide) ?_
  refine c_yOf hP x ex hx9 ?_
  refine ok_isub (pc := 33) dX5_turn_33 ?_
  refine ok_aload_n (pc := 34) dX5_turn_34 rfl ?_
  refine ok_iload_n (pc := 35) dX5_turn_35 rfl ?_
  refine ok_callVi1 (pc := 36) (d' := 0) dX5_turn_36 vl_X5_111 hP.o rfl rfl rfl (by decide) ?_
  refine c_xOf hP z9 ez hz9 ?_
  refine ok_aload_n (pc := 39) dX5_turn_39 rfl ?_
  refine ok_iload_n (pc := 40) dX5_turn_40 rfl ?_
  refine ok_callVi1 (pc := 41) (d' := 0) dX5_turn_41 vl_X5_111 hP.o rfl rfl rfl (by decide) ?_
  refine c_xOf hP x ex hx9 ?_
  refine ok_isub (pc := 44) dX5_turn_44 ?_
  refine ok_imul (pc := 45) dX5_turn_45 ?_
  refine ok_isub (pc := 46) dX5_turn_46 ?_
  refine ok_iret (pc := 47) dX5_turn_47 rfl ?_
  exact k

set_option maxHeartbeats 1000000 in
theorem c_isInside {Γ : Cx} {p e z sz : Nat} {σ : Rw} {M : Nat → Option va_E} {K : Int32 → Wd → Prop} (hP : PstR Γ p e z σ M) {xI yI zI : Int32} (x y z9 : Nat) (ex : xI = nI x) (ey : yI = nI y) (ez : zI = nI z9) (hx9 : x < 9) (hy9 : y < 9) (hz9 : z9 < 9) (k : K (bI (inF σ x y z9)) (M, sz)) : Spec Γ mX5_isInside 2 0 [.ref p, .int xI, .int yI, .int zI] (M, sz) (ci K) := by
  refine spec_in [some (.ref p), some (.int xI), some (.int yI), some (.int zI)] 0 (by decide) rfl rfl ?_
  refine ok_iload_n (pc := 0) dX5_isInside_0 rfl ?_
  refine ok_iload_n (pc := 1) dX5_isInside_1 rfl ?_
  refine ok_icmp_eq (pc := 2) 76 dX5_isInside_2 (by decide) (fun cc_2 => ?_) (fun cc_2 => ?_)
  · have cn_2 : x = y := (nI_eq (by omega) (by omega)).mp (by rw [← ex, ← ey]; exact cc_2)
    refine ok_iconst (pc := 76) (v := 0) dX5_isInside_76 (by decide) ?_
    refine ok_zret (pc := 77) dX5_isInside_77 rfl rfl ?_
    first
      | (simpa [inF, bI, cn_2] using k)
      | (simpa [inF, bI, cn_2, cn_7] using k)
      | (simpa [inF, bI, cn_2, cn_7, cc_2] using k)
  · have cn_2 : ¬ x = y := fun h => cc_2 (by rw [ex, ey, h])
    refine ok_iload_n (pc := 5) dX5_isInside_5 rfl ?_
    refine ok_iload_n (pc := 6) dX5_isInside_6 rfl ?_
    refine ok_icmp_eq (pc := 7) 76 dX5_isInside_7 (by decide) (fun cc_7 => ?_) (fun cc_7 => ?_)
    · have cn_7 : x = z9 := (nI_eq (by omega) (by omega)).mp (by rw [← ex, ← ez]; exact cc_7)
      refine ok_iconst (pc := 76) (v := 0) dX5_isInside_76 (by decide) ?_
      refine ok_zret (pc := 77) dX5_isInside_77 rfl rfl ?_
      first
        | (simpa [inF, bI, cn_2] using k)
        | (simpa [inF, bI, cn_2, cn_7] using k)
        | (simpa [inF, bI, cn_2, cn_7, cc_2, cc_7] using k)
    · have cn_7 : ¬ x = z9 := fun h => cc_7 (by rw [ex, ez, h])
      refine ok_aload_n (pc := 10) dX5_isInside_10 rfl ?_
      refine ok_iload_n (pc := 11) dX5_isInside_11 rfl ?_
      refine ok_iload_n (pc := 12) dX5_isInside_12 rfl ?_
      refine ok_iload_n (pc := 13) dX5_isInside_13 rfl ?_
      refine ok_callVi3 (pc := 14) (d' := 1) dX5_isInside_14 vl_X5_218 hP.o rfl rfl rfl (by decide) ?_
      refine c_turn hP y z9 x ey ez ex hy9 hz9 hx9 ?_
      refine ok_if_ne (pc := 17) 76 dX5_isInside_17 (by decide) (fun cc_17 => ?_) (fun cc_17 => ?_)
      · refine ok_iconst (pc := 76) (v := 0) dX5_isInside_76 (by decide) ?_
        refine ok_zret (pc := 77) dX5_isInside_77 rfl rfl ?_
        first
          | (simpa [inF, bI, cn_2] using k)
          | (simpa [inF, bI, cn_2, cn_7] using k)
          | (simpa [inF, bI, cn_2, cn_7, cc_2, cc_7, cc_17] using k)
      · refine ok_aload_n (pc := 20) dX5_isInside_20 rfl ?_
        refine ok_iload_n (pc := 21) dX5_isInside_21 rfl ?_
        refine ok_callVi1 (pc := 22) (d' := 0) dX5_isInside_22 vl_X5_111 hP.o rfl rfl rfl (by decide) ?_
        refine c_xOf hP x ex hx9 ?_
        refine ok_aload_n (pc := 25) dX5_isInside_25 rfl ?_
        refine ok_iload_n (pc := 26) dX5_isInside_26 rfl ?_
        refine ok_callVi1 (pc := 27) (d' := 0) dX5_isInside_27 vl_X5_111 hP.o rfl rfl rfl (by decide) ?_
        refine c_xOf hP y ey hy9 ?_
        refine ok_isub (pc := 30) dX5_isInside_30 ?_
        refine ok_aload_n (pc := 31) dX5_isInside_31 rfl ?_
        refine ok_iload_n (pc := 32) dX5_isInside_32 rfl ?_
        refine ok_callVi1 (pc := 33) (d' := 0) dX5_isInside_33 vl_X5_111 hP.o rfl rfl rfl (by decide) ?_
        refine c_xOf hP x ex hx9 ?_
        refine ok_aload_n (pc := 36) dX5_isInside_36 rfl ?_
        refine ok_iload_n (pc := 37) dX5_isInside_37 rfl ?_
        refine ok_callVi1 (pc := 38) (d' := 0) dX5_isInside_38 vl_X5_111 hP.o rfl rfl rfl (by decide) ?_
        refine c_xOf hP z9 ez hz9 ?_
        refine ok_isub (pc := 41) dX5_isInside_41 ?_
        refine ok_imul (pc := 42) dX5_isInside_42 ?_
        refine ok_if_gt (pc := 43) 76 dX5_isInside_43 (by decide) (fun cc_43 => ?_) (fun cc_43 => ?_)
        · have ce_43 := Int32.not_le.mpr cc_43
          refine ok_iconst (pc := 76) (v := 0) dX5_isInside_76 (by decide) ?_
          refine ok_zret (pc := 77) dX5_isInside_77 rfl rfl ?_
          first
            | (simpa [inF, bI, cn_2] using k)
            | (simpa [inF, bI, cn_2, cn_7] using k)
            | (simpa [inF, bI, cn_2, cn_7, cc_2, cc_7, cc_17, cc_43, ce_43] using k)
        · have ce_43 := Int32.not_lt.mp cc_43
          refine ok_aload_n (pc := 46) dX5_isInside_46 rfl ?_
          refine ok_iload_n (pc := 47) dX5_isInside_47 rfl ?_
          refine ok_callVi1 (pc := 48) (d' := 0) dX5_isInside_48 vl_X5_114 hP.o rfl rfl rfl (by decide) ?_
          refine c_yOf hP x ex hx9 ?_
          refine ok_aload_n (pc := 51) dX5_isInside_51 rfl ?_
          refine ok_iload_n (pc := 52) dX5_isInside_52 rfl ?_
          refine ok_callVi1 (pc := 53) (d' := 0) dX5_isInside_53 vl_X5_114 hP.o rfl rfl rfl (by decide) ?_
          refine c_yOf hP y ey hy9 ?_
          refine ok_isub (pc := 56) dX5_isInside_56 ?_
          refine ok_aload_n (pc := 57) dX5_isInside_57 rfl ?_
          refine ok_iload_n (pc := 58) dX5_isInside_58 rfl ?_
          refine ok_callVi1 (pc := 59) (d' := 0) dX5_isInside_59 vl_X5_114 hP.o rfl rfl rfl (by decide) ?_
          refine c_yOf hP x ex hx9 ?_
          refine ok_aload_n (pc := 62) dX5_isInside_62 rfl ?_
          refine ok_iload_n (pc := 63) dX5_isInside_63 rfl ?_
          refine ok_callVi1 (pc := 64) (d' := 0) dX5_isInside_64 vl_X5_114 hP.o rfl rfl rfl (by decide) ?_
          refine c_yOf hP z9 ez hz9 ?_
          refine ok_isub (pc := 67) dX5_isInside_67 ?_
          refine ok_imul (pc := 68) dX5_isInside_68 ?_
          refine ok_if_gt (pc := 69) 76 dX5_isInside_69 (by decide) (fun cc_69 => ?_) (fun cc_69 => ?_)
          · have ce_69 := Int32.not_le.mpr cc_69
            refine ok_iconst (pc := 76) (v := 0) dX5_isInside_76 (by decide) ?_
            refine ok_zret (pc := 77) dX5_isInside_77 rfl rfl ?_
            first
              | (simpa [inF, bI, cn_2] using k)
              | (simpa [inF, bI, cn_2, cn_7] using k)
              | (simpa [inF, bI, cn_2, cn_7, cc_2, cc_7, cc_17, cc_43, ce_43, cc_69, ce_69] using k)
          · have ce_69 := Int32.not_lt.mp cc_69
            refine ok_iconst (pc := 72) (v := 1) dX5_isInside_72 (by decide) ?_
            refine ok_goto (pc := 73) 77 dX5_isInside_73 (by decide) ?_
            refine ok_zret (pc := 77) dX5_isInside_77 rfl rfl ?_
            first
              | (simpa [inF, bI, cn_2] using k)
              | (simpa [inF, bI, cn_2, cn_7] using k)
              | (simpa [inF, bI, cn_2, cn_7, cc_2, cc_7, cc_17, cc_43, ce_43, cc_69, ce_69] using k)

set_option maxHeartbeats 1000000 in
theorem c_areApart {Γ : Cx} {G : Wd} {K : Int32 → Wd → Prop} {x y : Int32} (k : K (bI (apF x y)) G) : Spec Γ mX5_areApart 0 0 [.int x, .int y] G (ci K) := by
  refine spec_in [some (.int x), some (.int y)] 0 (by decide) rfl rfl ?_
  refine ok_iload_n (pc := 0) dX5_areApart_0 rfl ?_
  refine ok_if_ge (pc := 1) 8 dX5_areApart_1 (by decide) (fun cc_1 => ?_) (fun cc_1 => ?_)
  · have ce_1 := Int32.not_lt.mpr cc_1
    refine ok_iload_n (pc := 8) dX5_areApart_8 rfl ?_
    refine ok_if_le (pc := 9) 20 dX5_areApart_9 (by decide) (fun cc_9 => ?_) (fun cc_9 => ?_)
    · have ce_9 := Int32.not_lt.mpr cc_9
      refine ok_iconst (pc := 20) (v := 0) dX5_areApart_20 (by decide) ?_
      refine ok_zret (pc := 21) dX5_areApart_21 rfl rfl ?_
      simpa [apF, bI, cc_1, ce_1, cc_9, ce_9] using k
    · have ce_9 := Int32.not_le.mp cc_9
      refine ok_iload_n (pc := 12) dX5_areApart_12 rfl ?_
      refine ok_if_ge (pc := 13) 20 dX5_areApart_13 (by decide) (fun cc_13 => ?_) (fun cc_13 => ?_)
      · have ce_13 := Int32.not_lt.mpr cc_13
        refine ok_iconst (pc := 20) (v := 0) dX5_areApart_20 (by decide) ?_
        refine ok_zret (pc := 21) dX5_areApart_21 rfl rfl ?_
        simpa [apF, bI, cc_1, ce_1, cc_9, ce_9, cc_13, ce_13] using k
      · have ce_13 := Int32.not_le.mp cc_13
        refine ok_iconst (pc := 16) (v := 1) dX5_areApart_16 (by decide) ?_
        refine ok_goto (pc := 17) 21 dX5_areApart_17 (by decide) ?_
        refine ok_zret (pc := 21) dX5_areApart_21 rfl rfl ?_
        simpa [apF, bI, cc_1, ce_1, cc_9, ce_9, cc_13, ce_13] using k
  · have ce_1 := Int32.not_le.mp cc_1
    refine ok_iload_n (pc := 4) dX5_areApart_4 rfl ?_
    refine ok_if_gt (pc := 5) 16 dX5_areApart_5 (by decide) (fun cc_5 => ?_) (fun cc_5 => ?_)
    · have ce_5 := Int32.not_le.mpr cc_5
      refine ok_iconst (pc := 16) (v := 1) dX5_areApart_16 (by decide) ?_
      refine ok_goto (pc := 17) 21 dX5_areApart_17 (by decide) ?_
      refine ok_zret (pc := 21) dX5_areApart_21 rfl rfl ?_
      simpa [apF, bI, cc_1, ce_1, cc_5, ce_5] using k
    · have ce_5 := Int32.not_lt.mp cc_5
      refine ok_iload_n (pc := 8) dX5_areApart_8 rfl ?_
      refine ok_if_le (pc := 9) 20 dX5_areApart_9 (by decide) (fun cc_9 => ?_) (fun cc_9 => ?_)
      · have ce_9 := Int32.not_lt.mpr cc_9
        refine ok_iconst (pc := 20) (v := 0) dX5_areApart_20 (by decide) ?_
        refine ok_zret (pc := 21) dX5_areApart_21 rfl rfl ?_
        simpa [apF, bI, cc_1, ce_1, cc_5, ce_5, cc_9, ce_9] using k
      · have ce_9 := Int32.not_le.mp cc_9
        refine ok_iload_n (pc := 12) dX5_areApart_12 rfl ?_
        refine ok_if_ge (pc := 13) 20 dX5_areApart_13 (by decide) (fun cc_13 => ?_) (fun cc_13 => ?_)
        · have ce_13 := Int32.not_lt.mpr cc_13
          refine ok_iconst (pc := 20) (v := 0) dX5_areApart_20 (by decide) ?_
          refine ok_zret (pc := 21) dX5_areApart_21 rfl rfl ?_
          simpa [apF, bI, cc_1, ce_1, cc_5, ce_5, cc_9, ce_9, cc_13, ce_13] using k
        · have ce_13 := Int32.not_le.mp cc_13
          refine ok_iconst (pc := 16) (v := 1) dX5_areApart_16 (by decide) ?_
          refine ok_goto (pc := 17) 21 dX5_areApart_17 (by decide) ?_
          refine ok_zret (pc := 21) dX5_areApart_21 rfl rfl ?_
          simpa [apF, bI, cc_1, ce_1, cc_5, ce_5, cc_9, ce_9, cc_13, ce_13] using k

set_option maxHeartbeats 1000000 in
theorem c_linesMeet {Γ : Cx} {p e z sz : Nat} {σ : Rw} {M : Nat → Option va_E} {K : Int32 → Wd → Prop} (hP : PstR Γ p e z σ M) (hI : Inv σ) {xk xo : Int32} (k0 o0 : Nat) (ek : xk = nI k0) (eo : xo = nI o0) (hk : k0 < cK σ) (ho : o0 < cK σ) (ak : 0 ≤ kf σ k0 5) (ao : 0 ≤ kf σ o0 5) (k : K (bI (crF σ k0 o0)) (M, sz)) : Spec Γ mX5_linesMeet 3 0 [.ref p, .int xk, .int xo] (M, sz) (ci K) := by
  obtain ⟨⟨⟨eH, lH⟩, ⟨eK, lK⟩, ⟨eL, lL⟩, ⟨eA, lA⟩, ⟨eT, lT⟩⟩, iK, iH, iW, iL, iO, iB, hT⟩ := id hI
  obtain ⟨⟨ehk, lhk⟩, -⟩ := iK k0 hk
  obtain ⟨⟨eho, lho⟩, -⟩ := iK o0 ho
  obtain ⟨eak, lak, nak⟩ := InvK.aim iK hk ak
  obtain ⟨eao, lao, nao⟩ := InvK.aim iK ho ao
  have ecr : crF σ k0 o0 = lmF σ (hmF σ k0) (amF σ k0) (hmF σ o0) (amF σ o0) := (lm_eq iH lhk lak lho lao (Ne.symm nak) (Ne.symm nao)).symm
  rw [ecr] at k
  
  refine spec_in [some (.ref p), some (.int xk), some (.int xo), none, none, none, none, none, none] 6 (by decide) rfl rfl ?_
  refine ok_aload_n (pc := 0) dX5_linesMeet_0 rfl ?_
  refine ok_iload_n (pc := 1) dX5_linesMeet_1 rfl ?_
  refine ok_callVr1 (pc := 2) (d' := 0) dX5_linesMeet_2 vl_X5_201 hP.o rfl rfl rfl (by decide) ?_
  refine c_kiteAt hP eK lK (fun qa exqa lxqa hKa => ?_) (fun h9 => absurd h9 (by rw [wi_T eK (by omega) (by rw [ek]; exact nI_pos' (by omega)) (by rw [ek, eK]; exact nI_lt (by omega) (by omega))]; decide))
  have ejqa : iN xk = k0 := by rw [ek]; exact nI_clamp (by omega)
  rw [ejqa] at hKa lxqa
  refine ok_astore_n3 (pc := 5) dX5_linesMeet_5 (by decide) rfl ?_
  refine ok_aload_n (pc := 6) dX5_linesMeet_6 rfl ?_
  refine ok_iload_n (pc := 7) dX5_linesMeet_7 rfl ?_
  refine ok_callVr1 (pc := 8) (d' := 0) dX5_linesMeet_8 vl_X5_201 hP.o rfl rfl rfl (by decide) ?_
  refine c_kiteAt hP eK lK (fun qb exqb lxqb hKb => ?_) (fun h9 => absurd h9 (by rw [wi_T eK (by omega) (by rw [eo]; exact nI_pos' (by omega)) (by rw [eo, eK]; exact nI_lt (by omega) (by omega))]; decide))
  have ejqb : iN xo = o0 := by rw [eo]; exact nI_clamp (by omega)
  rw [ejqb] at hKb lxqb
  refine ok_astore4 (pc := 11) dX5_linesMeet_11 (by decide) rfl ?_
  refine ok_aload_n (pc := 13) dX5_linesMeet_13 rfl ?_
  refine ok_ifnull (pc := 14) dX5_linesMeet_14 ?_
  refine ok_aload (pc := 17) dX5_linesMeet_17 rfl ?_
  refine ok_ifnonnull (pc := 19) 24 dX5_linesMeet_19 (by decide) ?_
  refine ok_aload_n (pc := 24) dX5_linesMeet_24 rfl ?_
  refine ok_getf (pc := 25) dX5_linesMeet_25 (flk_X5_157 _) hKa.2 rfl ?_
  refine ok_istore5 (pc := 28) dX5_linesMeet_28 (by decide) rfl ?_
  refine ok_aload_n (pc := 30) dX5_linesMeet_30 rfl ?_
  refine ok_iload_n (pc := 31) dX5_linesMeet_31 rfl ?_
  refine ok_callVi1 (pc := 32) (d' := 1) dX5_linesMeet_32 vl_X5_205 hP.o rfl rfl rfl (by decide) ?_
  refine c_aimOf hP k0 ek (by omega) ?_
  refine ok_istore6 (pc := 35) dX5_linesMeet_35 (by decide) rfl ?_
  refine ok_aload (pc := 37) dX5_linesMeet_37 rfl ?_
  refine ok_getf (pc := 39) dX5_linesMeet_39 (flk_X5_157 _) hKb.2 rfl ?_
  refine ok_istore7 (pc := 42) dX5_linesMeet_42 (by decide) rfl ?_
  refine ok_aload_n (pc := 44) dX5_linesMeet_44 rfl ?_
  refine ok_iload_n (pc := 45) dX5_linesMeet_45 rfl ?_
  refine ok_callVi1 (pc := 46) (d' := 1) dX5_linesMeet_46 vl_X5_205 hP.o rfl rfl rfl (by decide) ?_
  refine c_aimOf hP o0 eo (by omega) ?_
  refine ok_istore8 (pc := 49) dX5_linesMeet_49 (by decide) rfl ?_
  refine ok_iload (pc := 51) dX5_linesMeet_51 rfl ?_
  refine ok_iload (pc := 53) dX5_linesMeet_53 rfl ?_
  refine ok_icmp_ne (pc := 55) 65 dX5_linesMeet_55 (by decide) (fun cc_55 => ?_) (fun cc_55 => ?_)
  · have cn_55 : ¬ (hmF σ k0) = (hmF σ o0) := fun h => cc_55 (by rw [ehk, eho, h])
    refine ok_iload (pc := 65) dX5_linesMeet_65 rfl ?_
    refine ok_iload (pc := 67) dX5_linesMeet_67 rfl ?_
    refine ok_icmp_ne (pc := 69) 81 dX5_linesMeet_69 (by decide) (fun cc_69 => ?_) (fun cc_69 => ?_)
    · have cn_69 : ¬ (hmF σ k0) = (amF σ o0) := fun h => cc_69 (by rw [ehk, eao, h])
      refine ok_aload_n (pc := 81) dX5_linesMeet_81 rfl ?_
      refine ok_iload (pc := 82) dX5_linesMeet_82 rfl ?_
      refine ok_iload (pc := 84) dX5_linesMeet_84 rfl ?_
      refine ok_iload (pc := 86) dX5_linesMeet_86 rfl ?_
      refine ok_callVi3 (pc := 88) (d' := 2) dX5_linesMeet_88 vl_X5_215 hP.o rfl rfl rfl (by decide) ?_
      refine c_isInside hP (hmF σ k0) (hmF σ o0) (amF σ o0) ehk eho eao (by omega) (by omega) (by omega) ?_
      refine ok_if_ne (pc := 91) 133 dX5_linesMeet_91 (by decide) (fun cc_91 => ?_) (fun cc_91 => ?_)
      · have cq_91 := bI_n0.mp cc_91
        refine ok_iconst (pc := 133) (v := 1) dX5_linesMeet_133 (by decide) ?_
        refine ok_zret (pc := 134) dX5_linesMeet_134 rfl rfl ?_
        have e9 : lmF σ (hmF σ k0) (amF σ k0) (hmF σ o0) (amF σ o0) = true := by
          unfold lmF
          first
            | (rw [cq_91]; simp; done)
            | (rw [cq_104]; simp; done)
            | (rw [cq_117]; simp; done)
            | (rw [cq_130]; simp; done)
        rw [e9] at k
        exact k
      · have cq_91 := bI_0.mp cc_91
        refine ok_aload_n (pc := 94) dX5_linesMeet_94 rfl ?_
        refine ok_iload (pc := 95) dX5_linesMeet_95 rfl ?_
        refine ok_iload (pc := 97) dX5_linesMeet_97 rfl ?_
        refine ok_iload (pc := 99) dX5_linesMeet_99 rfl ?_
        refine ok_callVi3 (pc := 101) (d' := 2) dX5_linesMeet_101 vl_X5_215 hP.o rfl rfl rfl (by decide) ?_
        refine c_isInside hP (amF σ k0) (hmF σ o0) (amF σ o0) eak eho eao (by omega) (by omega) (by omega) ?_
        refine ok_if_ne (pc := 104) 133 dX5_linesMeet_104 (by decide) (fun cc_104 => ?_) (fun cc_104 => ?_)
        · have cq_104 := bI_n0.mp cc_104
          refine ok_iconst (pc := 133) (v := 1) dX5_linesMeet_133 (by decide) ?_
          refine ok_zret (pc := 134) dX5_linesMeet_134 rfl rfl ?_
          have e9 : lmF σ (hmF σ k0) (amF σ k0) (hmF σ o0) (amF σ o0) = true := by
            unfold lmF
            first
              | (rw [cq_91]; simp; done)
              | (rw [cq_104]; simp; done)
              | (rw [cq_117]; simp; done)
              | (rw [cq_130]; simp; done)
          rw [e9] at k
          exact k
        · have cq_104 := bI_0.mp cc_104
          refine ok_aload_n (pc := 107) dX5_linesMeet_107 rfl ?_
          refine ok_iload (pc := 108) dX5_linesMeet_108 rfl ?_
          refine ok_iload (pc := 110) dX5_linesMeet_110 rfl ?_
          refine ok_iload (pc := 112) dX5_linesMeet_112 rfl ?_
          refine ok_callVi3 (pc := 114) (d' := 2) dX5_linesMeet_114 vl_X5_215 hP.o rfl rfl rfl (by decide) ?_
          refine c_isInside hP (hmF σ o0) (hmF σ k0) (amF σ k0) eho ehk eak (by omega) (by omega) (by omega) ?_
          refine ok_if_ne (pc := 117) 133 dX5_linesMeet_117 (by decide) (fun cc_117 => ?_) (fun cc_117 => ?_)
          · have cq_117 := bI_n0.mp cc_117
            refine ok_iconst (pc := 133) (v := 1) dX5_linesMeet_133 (by decide) ?_
            refine ok_zret (pc := 134) dX5_linesMeet_134 rfl rfl ?_
            have e9 : lmF σ (hmF σ k0) (amF σ k0) (hmF σ o0) (amF σ o0) = true := by
              unfold lmF
              first
                | (rw [cq_91]; simp; done)
                | (rw [cq_104]; simp; done)
                | (rw [cq_117]; simp; done)
                | (rw [cq_130]; simp; done)
            rw [e9] at k
            exact k
          · have cq_117 := bI_0.mp cc_117
            refine ok_aload_n (pc := 120) dX5_linesMeet_120 rfl ?_
            refine ok_iload (pc := 121) dX5_linesMeet_121 rfl ?_
            refine ok_iload (pc := 123) dX5_linesMeet_123 rfl ?_
            refine ok_iload (pc := 125) dX5_linesMeet_125 rfl ?_
            refine ok_callVi3 (pc := 127) (d' := 2) dX5_linesMeet_127 vl_X5_215 hP.o rfl rfl rfl (by decide) ?_
            refine c_isInside hP (amF σ o0) (hmF σ k0) (amF σ k0) eao ehk eak (by omega) (by omega) (by omega) ?_
            refine ok_if_eq (pc := 130) 135 dX5_linesMeet_130 (by decide) (fun cc_130 => ?_) (fun cc_130 => ?_)
            · have cq_130 := bI_0.mp cc_130
              refine ok_aload_n (pc := 135) dX5_linesMeet_135 rfl ?_
              refine ok_iload (pc := 136) dX5_linesMeet_136 rfl ?_
              refine ok_iload (pc := 138) dX5_linesMeet_138 rfl ?_
              refine ok_iload (pc := 140) dX5_linesMeet_140 rfl ?_
              refine ok_callVi3 (pc := 142) (d' := 1) dX5_linesMeet_142 vl_X5_218 hP.o rfl rfl rfl (by decide) ?_
              refine c_turn hP (hmF σ k0) (amF σ k0) (hmF σ o0) ehk eak eho (by omega) (by omega) (by omega) ?_
              refine ok_aload_n (pc := 145) dX5_linesMeet_145 rfl ?_
              refine ok_iload (pc := 146) dX5_linesMeet_146 rfl ?_
              refine ok_iload (pc := 148) dX5_linesMeet_148 rfl ?_
              refine ok_iload (pc := 150) dX5_linesMeet_150 rfl ?_
              refine ok_callVi3 (pc := 152) (d' := 1) dX5_linesMeet_152 vl_X5_218 hP.o rfl rfl rfl (by decide) ?_
              refine c_turn hP (hmF σ k0) (amF σ k0) (amF σ o0) ehk eak eao (by omega) (by omega) (by omega) ?_
              refine ok_callSi2 (pc := 155) (d' := 0) dX5_linesMeet_155 sl_X5_221 rfl (by decide) ?_
              refine c_areApart ?_
              refine ok_if_eq (pc := 158) 191 dX5_linesMeet_158 (by decide) (fun cc_158 => ?_) (fun cc_158 => ?_)
              · have cq_158 := bI_0.mp cc_158
                refine ok_iconst (pc := 191) (v := 0) dX5_linesMeet_191 (by decide) ?_
                refine ok_zret (pc := 192) dX5_linesMeet_192 rfl rfl ?_
                have n1 : (decide (hmF σ k0 = hmF σ o0) && decide (amF σ k0 = amF σ o0)) = false := by first | (rw [decide_eq_false cn_55]; rfl) | (rw [decide_eq_false cn_62]; exact Bool.and_false _)
                have n2 : (decide (hmF σ k0 = amF σ o0) && decide (amF σ k0 = hmF σ o0)) = false := by first | (rw [decide_eq_false cn_69]; rfl) | (rw [decide_eq_false cn_76]; exact Bool.and_false _)
                unfold lmF at k
                rw [n1, n2, cq_91, cq_104, cq_117, cq_130] at k
                simp only [Bool.false_or] at k
                first
                  | (rw [cq_158, cq_184] at k; exact k)
                  | (rw [cq_158] at k; exact k)
              · have cq_158 := bI_n0.mp cc_158
                refine ok_aload_n (pc := 161) dX5_linesMeet_161 rfl ?_
                refine ok_iload (pc := 162) dX5_linesMeet_162 rfl ?_
                refine ok_iload (pc := 164) dX5_linesMeet_164 rfl ?_
                refine ok_iload (pc := 166) dX5_linesMeet_166 rfl ?_
                refine ok_callVi3 (pc := 168) (d' := 1) dX5_linesMeet_168 vl_X5_218 hP.o rfl rfl rfl (by decide) ?_
                refine c_turn hP (hmF σ o0) (amF σ o0) (hmF σ k0) eho eao ehk (by omega) (by omega) (by omega) ?_
                refine ok_aload_n (pc := 171) dX5_linesMeet_171 rfl ?_
                refine ok_iload (pc := 172) dX5_linesMeet_172 rfl ?_
                refine ok_iload (pc := 174) dX5_linesMeet_174 rfl ?_
                refine ok_iload (pc := 176) dX5_linesMeet_176 rfl ?_
                refine ok_callVi3 (pc := 178) (d' := 1) dX5_linesMeet_178 vl_X5_218 hP.o rfl rfl rfl (by decide) ?_
                refine c_turn hP (hmF σ o0) (amF σ o0) (amF σ k0) eho eao eak (by omega) (by omega) (by omega) ?_
                refine ok_callSi2 (pc := 181) (d' := 0) dX5_linesMeet_181 sl_X5_221 rfl (by decide) ?_
                refine c_areApart ?_
                refine ok_if_eq (pc := 184) 191 dX5_linesMeet_184 (by decide) (fun cc_184 => ?_) (fun cc_184 => ?_)
                · have cq_184 := bI_0.mp cc_184
                  refine ok_iconst (pc := 191) (v := 0) dX5_linesMeet_191 (by decide) ?_
                  refine ok_zret (pc := 192) dX5_linesMeet_192 rfl rfl ?_
                  have n1 : (decide (hmF σ k0 = hmF σ o0) && decide (amF σ k0 = amF σ o0)) = false := by first | (rw [decide_eq_false cn_55]; rfl) | (rw [decide_eq_false cn_62]; exact Bool.and_false _)
                  have n2 : (decide (hmF σ k0 = amF σ o0) && decide (amF σ k0 = hmF σ o0)) = false := by first | (rw [decide_eq_false cn_69]; rfl) | (rw [decide_eq_false cn_76]; exact Bool.and_false _)
                  unfold lmF at k
                  rw [n1, n2, cq_91, cq_104, cq_117, cq_130] at k
                  simp only [Bool.false_or] at k
                  first
                    | (rw [cq_158, cq_184] at k; exact k)
                    | (rw [cq_158] at k; exact k)
                · have cq_184 := bI_n0.mp cc_184
                  refine ok_iconst (pc := 187) (v := 1) dX5_linesMeet_187 (by decide) ?_
                  refine ok_goto (pc := 188) 192 dX5_linesMeet_188 (by decide) ?_
                  refine ok_zret (pc := 192) dX5_linesMeet_192 rfl rfl ?_
                  have n1 : (decide (hmF σ k0 = hmF σ o0) && decide (amF σ k0 = amF σ o0)) = false := by first | (rw [decide_eq_false cn_55]; rfl) | (rw [decide_eq_false cn_62]; exact Bool.and_false _)
                  have n2 : (decide (hmF σ k0 = amF σ o0) && decide (amF σ k0 = hmF σ o0)) = false := by first | (rw [decide_eq_false cn_69]; rfl) | (rw [decide_eq_false cn_76]; exact Bool.and_false _)
                  unfold lmF at k
                  rw [n1, n2, cq_91, cq_104, cq_117, cq_130] at k
                  simp only [Bool.false_or] at k
                  first
                    | (rw [cq_158, cq_184] at k; exact k)
                    | (rw [cq_158] at k; exact k)
            · have cq_130 := bI_n0.mp cc_130
              refine ok_iconst (pc := 133) (v := 1) dX5_linesMeet_133 (by decide) ?_
              refine ok_zret (pc := 134) dX5_linesMeet_134 rfl rfl ?_
              have e9 : lmF σ (hmF σ k0) (amF σ k0) (hmF σ o0) (amF σ o0) = true := by
                unfold lmF
                first
                  | (rw [cq_91]; simp; done)
                  | (rw [cq_104]; simp; done)
                  | (rw [cq_117]; simp; done)
                  | (rw [cq_130]; simp; done)
              rw [e9] at k
              exact k
    · have cn_69 : (hmF σ k0) = (amF σ o0) := (nI_eq (by omega) (by omega)).mp (by rw [← ehk, ← eao]; exact cc_69)
      refine ok_iload (pc := 72) dX5_linesMeet_72 rfl ?_
      refine ok_iload (pc := 74) dX5_linesMeet_74 rfl ?_
      refine ok_icmp_ne (pc := 76) 81 dX5_linesMeet_76 (by decide) (fun cc_76 => ?_) (fun cc_76 => ?_)
      · have cn_76 : ¬ (amF σ k0) = (hmF σ o0) := fun h => cc_76 (by rw [eak, eho, h])
        refine ok_aload_n (pc := 81) dX5_linesMeet_81 rfl ?_
        refine ok_iload (pc := 82) dX5_linesMeet_82 rfl ?_
        refine ok_iload (pc := 84) dX5_linesMeet_84 rfl ?_
        refine ok_iload (pc := 86) dX5_linesMeet_86 rfl ?_
        refine ok_callVi3 (pc := 88) (d' := 2) dX5_linesMeet_88 vl_X5_215 hP.o rfl rfl rfl (by decide) ?_
        refine c_isInside hP (hmF σ k0) (hmF σ o0) (amF σ o0) ehk eho eao (by omega) (by omega) (by omega) ?_
        refine ok_if_ne (pc := 91) 133 dX5_linesMeet_91 (by decide) (fun cc_91 => ?_) (fun cc_91 => ?_)
        · have cq_91 := bI_n0.mp cc_91
          refine ok_iconst (pc := 133) (v := 1) dX5_linesMeet_133 (by decide) ?_
          refine ok_zret (pc := 134) dX5_linesMeet_134 rfl rfl ?_
          have e9 : lmF σ (hmF σ k0) (amF σ k0) (hmF σ o0) (amF σ o0) = true := by
            unfold lmF
            first
              | (rw [cq_91]; simp; done)
              | (rw [cq_104]; simp; done)
              | (rw [cq_117]; simp; done)
              | (rw [cq_130]; simp; done)
          rw [e9] at k
          exact k
        · have cq_91 := bI_0.mp cc_91
          refine ok_aload_n (pc := 94) dX5_linesMeet_94 rfl ?_
          refine ok_iload (pc := 95) dX5_linesMeet_95 rfl ?_
          refine ok_iload (pc := 97) dX5_linesMeet_97 rfl ?_
          refine ok_iload (pc := 99) dX5_linesMeet_99 rfl ?_
          refine ok_callVi3 (pc := 101) (d' := 2) dX5_linesMeet_101 vl_X5_215 hP.o rfl rfl rfl (by decide) ?_
          refine c_isInside hP (amF σ k0) (hmF σ o0) (amF σ o0) eak eho eao (by omega) (by omega) (by omega) ?_
          refine ok_if_ne (pc := 104) 133 dX5_linesMeet_104 (by decide) (fun cc_104 => ?_) (fun cc_104 => ?_)
          · have cq_104 := bI_n0.mp cc_104
            refine ok_iconst (pc := 133) (v := 1) dX5_linesMeet_133 (by decide) ?_
            refine ok_zret (pc := 134) dX5_linesMeet_134 rfl rfl ?_
            have e9 : lmF σ (hmF σ k0) (amF σ k0) (hmF σ o0) (amF σ o0) = true := by
              unfold lmF
              first
                | (rw [cq_91]; simp; done)
                | (rw [cq_104]; simp; done)
                | (rw [cq_117]; simp; done)
                | (rw [cq_130]; simp; done)
            rw [e9] at k
            exact k
          · have cq_104 := bI_0.mp cc_104
            refine ok_aload_n (pc := 107) dX5_linesMeet_107 rfl ?_
            refine ok_iload (pc := 108) dX5_linesMeet_108 rfl ?_
            refine ok_iload (pc := 110) dX5_linesMeet_110 rfl ?_
            refine ok_iload (pc := 112) dX5_linesMeet_112 rfl ?_
            refine ok_callVi3 (pc := 114) (d' := 2) dX5_linesMeet_114 vl_X5_215 hP.o rfl rfl rfl (by decide) ?_
            refine c_isInside hP (hmF σ o0) (hmF σ k0) (amF σ k0) eho ehk eak (by omega) (by omega) (by omega) ?_
            refine ok_if_ne (pc := 117) 133 dX5_linesMeet_117 (by decide) (fun cc_117 => ?_) (fun cc_117 => ?_)
            · have cq_117 := bI_n0.mp cc_117
              refine ok_iconst (pc := 133) (v := 1) dX5_linesMeet_133 (by decide) ?_
              refine ok_zret (pc := 134) dX5_linesMeet_134 rfl rfl ?_
              have e9 : lmF σ (hmF σ k0) (amF σ k0) (hmF σ o0) (amF σ o0) = true := by
                unfold lmF
                first
                  | (rw [cq_91]; simp; done)
                  | (rw [cq_104]; simp; done)
                  | (rw [cq_117]; simp; done)
                  | (rw [cq_130]; simp; done)
              rw [e9] at k
              exact k
            · have cq_117 := bI_0.mp cc_117
              refine ok_aload_n (pc := 120) dX5_linesMeet_120 rfl ?_
              refine ok_iload (pc := 121) dX5_linesMeet_121 rfl ?_
              refine ok_iload (pc := 123) dX5_linesMeet_123 rfl ?_
              refine ok_iload (pc := 125) dX5_linesMeet_125 rfl ?_
              refine ok_callVi3 (pc := 127) (d' := 2) dX5_linesMeet_127 vl_X5_215 hP.o rfl rfl rfl (by decide) ?_
              refine c_isInside hP (amF σ o0) (hmF σ k0) (amF σ k0) eao ehk eak (by omega) (by omega) (by omega) ?_
              refine ok_if_eq (pc := 130) 135 dX5_linesMeet_130 (by decide) (fun cc_130 => ?_) (fun cc_130 => ?_)
              · have cq_130 := bI_0.mp cc_130
                refine ok_aload_n (pc := 135) dX5_linesMeet_135 rfl ?_
                refine ok_iload (pc := 136) dX5_linesMeet_136 rfl ?_
                refine ok_iload (pc := 138) dX5_linesMeet_138 rfl ?_
                refine ok_iload (pc := 140) dX5_linesMeet_140 rfl ?_
                refine ok_callVi3 (pc := 142) (d' := 1) dX5_linesMeet_142 vl_X5_218 hP.o rfl rfl rfl (by decide) ?_
                refine c_turn hP (hmF σ k0) (amF σ k0) (hmF σ o0) ehk eak eho (by omega) (by omega) (by omega) ?_
                refine ok_aload_n (pc := 145) dX5_linesMeet_145 rfl ?_
                refine ok_iload (pc := 146) dX5_linesMeet_146 rfl ?_
                refine ok_iload (pc := 148) dX5_linesMeet_148 rfl ?_
                refine ok_iload (pc := 150) dX5_linesMeet_150 rfl ?_
                refine ok_callVi3 (pc := 152) (d' := 1) dX5_linesMeet_152 vl_X5_218 hP.o rfl rfl rfl (by decide) ?_
                refine c_turn hP (hmF σ k0) (amF σ k0) (amF σ o0) ehk eak eao (by omega) (by omega) (by omega) ?_
                refine ok_callSi2 (pc := 155) (d' := 0) dX5_linesMeet_155 sl_X5_221 rfl (by decide) ?_
                refine c_areApart ?_
                refine ok_if_eq (pc := 158) 191 dX5_linesMeet_158 (by decide) (fun cc_158 => ?_) (fun cc_158 => ?_)
                · have cq_158 := bI_0.mp cc_158
                  refine ok_iconst (pc := 191) (v := 0) dX5_linesMeet_191 (by decide) ?_
                  refine ok_zret (pc := 192) dX5_linesMeet_192 rfl rfl ?_
                  have n1 : (decide (hmF σ k0 = hmF σ o0) && decide (amF σ k0 = amF σ o0)) = false := by first | (rw [decide_eq_false cn_55]; rfl) | (rw [decide_eq_false cn_62]; exact Bool.and_false _)
                  have n2 : (decide (hmF σ k0 = amF σ o0) && decide (amF σ k0 = hmF σ o0)) = false := by first | (rw [decide_eq_false cn_69]; rfl) | (rw [decide_eq_false cn_76]; exact Bool.and_false _)
                  unfold lmF at k
                  rw [n1, n2, cq_91, cq_104, cq_117, cq_130] at k
                  simp only [Bool.false_or] at k
                  first
                    | (rw [cq_158, cq_184] at k; exact k)
                    | (rw [cq_158] at k; exact k)
                · have cq_158 := bI_n0.mp cc_158
                  refine ok_aload_n (pc := 161) dX5_linesMeet_161 rfl ?_
                  refine ok_iload (pc := 162) dX5_linesMeet_162 rfl ?_
                  refine ok_iload (pc := 164) dX5_linesMeet_164 rfl ?_
                  refine ok_iload (pc := 166) dX5_linesMeet_166 rfl ?_
                  refine ok_callVi3 (pc := 168) (d' := 1) dX5_linesMeet_168 vl_X5_218 hP.o rfl rfl rfl (by decide) ?_
                  refine c_turn hP (hmF σ o0) (amF σ o0) (hmF σ k0) eho eao ehk (by omega) (by omega) (by omega) ?_
                  refine ok_aload_n (pc := 171) dX5_linesMeet_171 rfl ?_
                  refine ok_iload (pc := 172) dX5_linesMeet_172 rfl ?_
                  refine ok_iload (pc := 174) dX5_linesMeet_174 rfl ?_
                  refine ok_iload (pc := 176) dX5_linesMeet_176 rfl ?_
                  refine ok_callVi3 (pc := 178) (d' := 1) dX5_linesMeet_178 vl_X5_218 hP.o rfl rfl rfl (by decide) ?_
                  refine c_turn hP (hmF σ o0) (amF σ o0) (amF σ k0) eho eao eak (by omega) (by omega) (by omega) ?_
                  refine ok_callSi2 (pc := 181) (d' := 0) dX5_linesMeet_181 sl_X5_221 rfl (by decide) ?_
                  refine c_areApart ?_
                  refine ok_if_eq (pc := 184) 191 dX5_linesMeet_184 (by decide) (fun cc_184 => ?_) (fun cc_184 => ?_)
                  · have cq_184 := bI_0.mp cc_184
                    refine ok_iconst (pc := 191) (v := 0) dX5_linesMeet_191 (by decide) ?_
                    refine ok_zret (pc := 192) dX5_linesMeet_192 rfl rfl ?_
                    have n1 : (decide (hmF σ k0 = hmF σ o0) && decide (amF σ k0 = amF σ o0)) = false := by first | (rw [decide_eq_false cn_55]; rfl) | (rw [decide_eq_false cn_62]; exact Bool.and_false _)
                    have n2 : (decide (hmF σ k0 = amF σ o0) && decide (amF σ k0 = hmF σ o0)) = false := by first | (rw [decide_eq_false cn_69]; rfl) | (rw [decide_eq_false cn_76]; exact Bool.and_false _)
                    unfold lmF at k
                    rw [n1, n2, cq_91, cq_104, cq_117, cq_130] at k
                    simp only [Bool.false_or] at k
                    first
                      | (rw [cq_158, cq_184] at k; exact k)
                      | (rw [cq_158] at k; exact k)
                  · have cq_184 := bI_n0.mp cc_184
                    refine ok_iconst (pc := 187) (v := 1) dX5_linesMeet_187 (by decide) ?_
                    refine ok_goto (pc := 188) 192 dX5_linesMeet_188 (by decide) ?_
                    refine ok_zret (pc := 192) dX5_linesMeet_192 rfl rfl ?_
                    have n1 : (decide (hmF σ k0 = hmF σ o0) && decide (amF σ k0 = amF σ o0)) = false := by first | (rw [decide_eq_false cn_55]; rfl) | (rw [decide_eq_false cn_62]; exact Bool.and_false _)
                    have n2 : (decide (hmF σ k0 = amF σ o0) && decide (amF σ k0 = hmF σ o0)) = false := by first | (rw [decide_eq_false cn_69]; rfl) | (rw [decide_eq_false cn_76]; exact Bool.and_false _)
                    unfold lmF at k
                    rw [n1, n2, cq_91, cq_104, cq_117, cq_130] at k
                    simp only [Bool.false_or] at k
                    first
                      | (rw [cq_158, cq_184] at k; exact k)
                      | (rw [cq_158] at k; exact k)
              · have cq_130 := bI_n0.mp cc_130
                refine ok_iconst (pc := 133) (v := 1) dX5_linesMeet_133 (by decide) ?_
                refine ok_zret (pc := 134) dX5_linesMeet_134 rfl rfl ?_
                have e9 : lmF σ (hmF σ k0) (amF σ k0) (hmF σ o0) (amF σ o0) = true := by
                  unfold lmF
                  first
                    | (rw [cq_91]; simp; done)
                    | (rw [cq_104]; simp; done)
                    | (rw [cq_117]; simp; done)
                    | (rw [cq_130]; simp; done)
                rw [e9] at k
                exact k
      · have cn_76 : (amF σ k0) = (hmF σ o0) := (nI_eq (by omega) (by omega)).mp (by rw [← eak, ← eho]; exact cc_76)
        refine ok_iconst (pc := 79) (v := 1) dX5_linesMeet_79 (by decide) ?_
        refine ok_zret (pc := 80) dX5_linesMeet_80 rfl rfl ?_
        have e9 : lmF σ (hmF σ k0) (amF σ k0) (hmF σ o0) (amF σ o0) = true := by
          unfold lmF
          first
            | (rw [decide_eq_true cn_55, decide_eq_true cn_62]; simp; done)
            | (rw [decide_eq_true cn_69, decide_eq_true cn_76]; simp; done)
        rw [e9] at k
        exact k
  · have cn_55 : (hmF σ k0) = (hmF σ o0) := (nI_eq (by omega) (by omega)).mp (by rw [← ehk, ← eho]; exact cc_55)
    refine ok_iload (pc := 58) dX5_linesMeet_58 rfl ?_
    refine ok_iload (pc := 60) dX5_linesMeet_60 rfl ?_
    refine ok_icmp_eq (pc := 62) 79 dX5_linesMeet_62 (by decide) (fun cc_62 => ?_) (fun cc_62 => ?_)
    · have cn_62 : (amF σ k0) = (amF σ o0) := (nI_eq (by omega) (by omega)).mp (by rw [← eak, ← eao]; exact cc_62)
      refine ok_iconst (pc := 79) (v := 1) dX5_linesMeet_79 (by decide) ?_
      refine ok_zret (pc := 80) dX5_linesMeet_80 rfl rfl ?_
      have e9 : lmF σ (hmF σ k0) (amF σ k0) (hmF σ o0) (amF σ o0) = true := by
        unfold lmF
        first
          | (rw [decide_eq_true cn_55, decide_eq_true cn_62]; simp; done)
          | (rw [decide_eq_true cn_69, decide_eq_true cn_76]; simp; done)
      rw [e9] at k
      exact k
    · have cn_62 : ¬ (amF σ k0) = (amF σ o0) := fun h => cc_62 (by rw [eak, eao, h])
      refine ok_iload (pc := 65) dX5_linesMeet_65 rfl ?_
      refine ok_iload (pc := 67) dX5_linesMeet_67 rfl ?_
      refine ok_icmp_ne (pc := 69) 81 dX5_linesMeet_69 (by decide) (fun cc_69 => ?_) (fun cc_69 => ?_)
      · have cn_69 : ¬ (hmF σ k0) = (amF σ o0) := fun h => cc_69 (by rw [ehk, eao, h])
        refine ok_aload_n (pc := 81) dX5_linesMeet_81 rfl ?_
        refine ok_iload (pc := 82) dX5_linesMeet_82 rfl ?_
        refine ok_iload (pc := 84) dX5_linesMeet_84 rfl ?_
        refine ok_iload (pc := 86) dX5_linesMeet_86 rfl ?_
        refine ok_callVi3 (pc := 88) (d' := 2) dX5_linesMeet_88 vl_X5_215 hP.o rfl rfl rfl (by decide) ?_
        refine c_isInside hP (hmF σ k0) (hmF σ o0) (amF σ o0) ehk eho eao (by omega) (by omega) (by omega) ?_
        refine ok_if_ne (pc := 91) 133 dX5_linesMeet_91 (by decide) (fun cc_91 => ?_) (fun cc_91 => ?_)
        · have cq_91 := bI_n0.mp cc_91
          refine ok_iconst (pc := 133) (v := 1) dX5_linesMeet_133 (by decide) ?_
          refine ok_zret (pc := 134) dX5_linesMeet_134 rfl rfl ?_
          have e9 : lmF σ (hmF σ k0) (amF σ k0) (hmF σ o0) (amF σ o0) = true := by
            unfold lmF
            first
              | (rw [cq_91]; simp; done)
              | (rw [cq_104]; simp; done)
              | (rw [cq_117]; simp; done)
              | (rw [cq_130]; simp; done)
          rw [e9] at k
          exact k
        · have cq_91 := bI_0.mp cc_91
          refine ok_aload_n (pc := 94) dX5_linesMeet_94 rfl ?_
          refine ok_iload (pc := 95) dX5_linesMeet_95 rfl ?_
          refine ok_iload (pc := 97) dX5_linesMeet_97 rfl ?_
          refine ok_iload (pc := 99) dX5_linesMeet_99 rfl ?_
          refine ok_callVi3 (pc := 101) (d' := 2) dX5_linesMeet_101 vl_X5_215 hP.o rfl rfl rfl (by decide) ?_
          refine c_isInside hP (amF σ k0) (hmF σ o0) (amF σ o0) eak eho eao (by omega) (by omega) (by omega) ?_
          refine ok_if_ne (pc := 104) 133 dX5_linesMeet_104 (by decide) (fun cc_104 => ?_) (fun cc_104 => ?_)
          · have cq_104 := bI_n0.mp cc_104
            refine ok_iconst (pc := 133) (v := 1) dX5_linesMeet_133 (by decide) ?_
            refine ok_zret (pc := 134) dX5_linesMeet_134 rfl rfl ?_
            have e9 : lmF σ (hmF σ k0) (amF σ k0) (hmF σ o0) (amF σ o0) = true := by
              unfold lmF
              first
                | (rw [cq_91]; simp; done)
                | (rw [cq_104]; simp; done)
                | (rw [cq_117]; simp; done)
                | (rw [cq_130]; simp; done)
            rw [e9] at k
            exact k
          · have cq_104 := bI_0.mp cc_104
            refine ok_aload_n (pc := 107) dX5_linesMeet_107 rfl ?_
            refine ok_iload (pc := 108) dX5_linesMeet_108 rfl ?_
            refine ok_iload (pc := 110) dX5_linesMeet_110 rfl ?_
            refine ok_iload (pc := 112) dX5_linesMeet_112 rfl ?_
            refine ok_callVi3 (pc := 114) (d' := 2) dX5_linesMeet_114 vl_X5_215 hP.o rfl rfl rfl (by decide) ?_
            refine c_isInside hP (hmF σ o0) (hmF σ k0) (amF σ k0) eho ehk eak (by omega) (by omega) (by omega) ?_
            refine ok_if_ne (pc := 117) 133 dX5_linesMeet_117 (by decide) (fun cc_117 => ?_) (fun cc_117 => ?_)
            · have cq_117 := bI_n0.mp cc_117
              refine ok_iconst (pc := 133) (v := 1) dX5_linesMeet_133 (by decide) ?_
              refine ok_zret (pc := 134) dX5_linesMeet_134 rfl rfl ?_
              have e9 : lmF σ (hmF σ k0) (amF σ k0) (hmF σ o0) (amF σ o0) = true := by
                unfold lmF
                first
                  | (rw [cq_91]; simp; done)
                  | (rw [cq_104]; simp; done)
                  | (rw [cq_117]; simp; done)
                  | (rw [cq_130]; simp; done)
              rw [e9] at k
              exact k
            · have cq_117 := bI_0.mp cc_117
              refine ok_aload_n (pc := 120) dX5_linesMeet_120 rfl ?_
              refine ok_iload (pc := 121) dX5_linesMeet_121 rfl ?_
              refine ok_iload (pc := 123) dX5_linesMeet_123 rfl ?_
              refine ok_iload (pc := 125) dX5_linesMeet_125 rfl ?_
              refine ok_callVi3 (pc := 127) (d' := 2) dX5_linesMeet_127 vl_X5_215 hP.o rfl rfl rfl (by decide) ?_
              refine c_isInside hP (amF σ o0) (hmF σ k0) (amF σ k0) eao ehk eak (by omega) (by omega) (by omega) ?_
              refine ok_if_eq (pc := 130) 135 dX5_linesMeet_130 (by decide) (fun cc_130 => ?_) (fun cc_130 => ?_)
              · have cq_130 := bI_0.mp cc_130
                refine ok_aload_n (pc := 135) dX5_linesMeet_135 rfl ?_
                refine ok_iload (pc := 136) dX5_linesMeet_136 rfl ?_
                refine ok_iload (pc := 138) dX5_linesMeet_138 rfl ?_
                refine ok_iload (pc := 140) dX5_linesMeet_140 rfl ?_
                refine ok_callVi3 (pc := 142) (d' := 1) dX5_linesMeet_142 vl_X5_218 hP.o rfl rfl rfl (by decide) ?_
                refine c_turn hP (hmF σ k0) (amF σ k0) (hmF σ o0) ehk eak eho (by omega) (by omega) (by omega) ?_
                refine ok_aload_n (pc := 145) dX5_linesMeet_145 rfl ?_
                refine ok_iload (pc := 146) dX5_linesMeet_146 rfl ?_
                refine ok_iload (pc := 148) dX5_linesMeet_148 rfl ?_
                refine ok_iload (pc := 150) dX5_linesMeet_150 rfl ?_
                refine ok_callVi3 (pc := 152) (d' := 1) dX5_linesMeet_152 vl_X5_218 hP.o rfl rfl rfl (by decide) ?_
                refine c_turn hP (hmF σ k0) (amF σ k0) (amF σ o0) ehk eak eao (by omega) (by omega) (by omega) ?_
                refine ok_callSi2 (pc := 155) (d' := 0) dX5_linesMeet_155 sl_X5_221 rfl (by decide) ?_
                refine c_areApart ?_
                refine ok_if_eq (pc := 158) 191 dX5_linesMeet_158 (by decide) (fun cc_158 => ?_) (fun cc_158 => ?_)
                · have cq_158 := bI_0.mp cc_158
                  refine ok_iconst (pc := 191) (v := 0) dX5_linesMeet_191 (by decide) ?_
                  refine ok_zret (pc := 192) dX5_linesMeet_192 rfl rfl ?_
                  have n1 : (decide (hmF σ k0 = hmF σ o0) && decide (amF σ k0 = amF σ o0)) = false := by first | (rw [decide_eq_false cn_55]; rfl) | (rw [decide_eq_false cn_62]; exact Bool.and_false _)
                  have n2 : (decide (hmF σ k0 = amF σ o0) && decide (amF σ k0 = hmF σ o0)) = false := by first | (rw [decide_eq_false cn_69]; rfl) | (rw [decide_eq_false cn_76]; exact Bool.and_false _)
                  unfold lmF at k
                  rw [n1, n2, cq_91, cq_104, cq_117, cq_130] at k
                  simp only [Bool.false_or] at k
                  first
                    | (rw [cq_158, cq_184] at k; exact k)
                    | (rw [cq_158] at k; exact k)
                · have cq_158 := bI_n0.mp cc_158
                  refine ok_aload_n (pc := 161) dX5_linesMeet_161 rfl ?_
                  refine ok_iload (pc := 162) dX5_linesMeet_162 rfl ?_
                  refine ok_iload (pc := 164) dX5_linesMeet_164 rfl ?_
                  refine ok_iload (pc := 166) dX5_linesMeet_166 rfl ?_
                  refine ok_callVi3 (pc := 168) (d' := 1) dX5_linesMeet_168 vl_X5_218 hP.o rfl rfl rfl (by decide) ?_
                  refine c_turn hP (hmF σ o0) (amF σ o0) (hmF σ k0) eho eao ehk (by omega) (by omega) (by omega) ?_
                  refine ok_aload_n (pc := 171) dX5_linesMeet_171 rfl ?_
                  refine ok_iload (pc := 172) dX5_linesMeet_172 rfl ?_
                  refine ok_iload (pc := 174) dX5_linesMeet_174 rfl ?_
                  refine ok_iload (pc := 176) dX5_linesMeet_176 rfl ?_
                  refine ok_callVi3 (pc := 178) (d' := 1) dX5_linesMeet_178 vl_X5_218 hP.o rfl rfl rfl (by decide) ?_
                  refine c_turn hP (hmF σ o0) (amF σ o0) (amF σ k0) eho eao eak (by omega) (by omega) (by omega) ?_
                  refine ok_callSi2 (pc := 181) (d' := 0) dX5_linesMeet_181 sl_X5_221 rfl (by decide) ?_
                  refine c_areApart ?_
                  refine ok_if_eq (pc := 184) 191 dX5_linesMeet_184 (by decide) (fun cc_184 => ?_) (fun cc_184 => ?_)
                  · have cq_184 := bI_0.mp cc_184
                    refine ok_iconst (pc := 191) (v := 0) dX5_linesMeet_191 (by decide) ?_
                    refine ok_zret (pc := 192) dX5_linesMeet_192 rfl rfl ?_
                    have n1 : (decide (hmF σ k0 = hmF σ o0) && decide (amF σ k0 = amF σ o0)) = false := by first | (rw [decide_eq_false cn_55]; rfl) | (rw [decide_eq_false cn_62]; exact Bool.and_false _)
                    have n2 : (decide (hmF σ k0 = amF σ o0) && decide (amF σ k0 = hmF σ o0)) = false := by first | (rw [decide_eq_false cn_69]; rfl) | (rw [decide_eq_false cn_76]; exact Bool.and_false _)
                    unfold lmF at k
                    rw [n1, n2, cq_91, cq_104, cq_117, cq_130] at k
                    simp only [Bool.false_or] at k
                    first
                      | (rw [cq_158, cq_184] at k; exact k)
                      | (rw [cq_158] at k; exact k)
                  · have cq_184 := bI_n0.mp cc_184
                    refine ok_iconst (pc := 187) (v := 1) dX5_linesMeet_187 (by decide) ?_
                    refine ok_goto (pc := 188) 192 dX5_linesMeet_188 (by decide) ?_
                    refine ok_zret (pc := 192) dX5_linesMeet_192 rfl rfl ?_
                    have n1 : (decide (hmF σ k0 = hmF σ o0) && decide (amF σ k0 = amF σ o0)) = false := by first | (rw [decide_eq_false cn_55]; rfl) | (rw [decide_eq_false cn_62]; exact Bool.and_false _)
                    have n2 : (decide (hmF σ k0 = amF σ o0) && decide (amF σ k0 = hmF σ o0)) = false := by first | (rw [decide_eq_false cn_69]; rfl) | (rw [decide_eq_false cn_76]; exact Bool.and_false _)
                    unfold lmF at k
                    rw [n1, n2, cq_91, cq_104, cq_117, cq_130] at k
                    simp only [Bool.false_or] at k
                    first
                      | (rw [cq_158, cq_184] at k; exact k)
                      | (rw [cq_158] at k; exact k)
              · have cq_130 := bI_n0.mp cc_130
                refine ok_iconst (pc := 133) (v := 1) dX5_linesMeet_133 (by decide) ?_
                refine ok_zret (pc := 134) dX5_linesMeet_134 rfl rfl ?_
                have e9 : lmF σ (hmF σ k0) (amF σ k0) (hmF σ o0) (amF σ o0) = true := by
                  unfold lmF
                  first
                    | (rw [cq_91]; simp; done)
                    | (rw [cq_104]; simp; done)
                    | (rw [cq_117]; simp; done)
                    | (rw [cq_130]; simp; done)
                rw [e9] at k
                exact k
      · have cn_69 : (hmF σ k0) = (amF σ o0) := (nI_eq (by omega) (by omega)).mp (by rw [← ehk, ← eao]; exact cc_69)
        refine ok_iload (pc := 72) dX5_linesMeet_72 rfl ?_
        refine ok_iload (pc := 74) dX5_linesMeet_74 rfl ?_
        refine ok_icmp_ne (pc := 76) 81 dX5_linesMeet_76 (by decide) (fun cc_76 => ?_) (fun cc_76 => ?_)
        · have cn_76 : ¬ (amF σ k0) = (hmF σ o0) := fun h => cc_76 (by rw [eak, eho, h])
          refine ok_aload_n (pc := 81) dX5_linesMeet_81 rfl ?_
          refine ok_iload (pc := 82) dX5_linesMeet_82 rfl ?_
          refine ok_iload (pc := 84) dX5_linesMeet_84 rfl ?_
          refine ok_iload (pc := 86) dX5_linesMeet_86 rfl ?_
          refine ok_callVi3 (pc := 88) (d' := 2) dX5_linesMeet_88 vl_X5_215 hP.o rfl rfl rfl (by decide) ?_
          refine c_isInside hP (hmF σ k0) (hmF σ o0) (amF σ o0) ehk eho eao (by omega) (by omega) (by omega) ?_
          refine ok_if_ne (pc := 91) 133 dX5_linesMeet_91 (by decide) (fun cc_91 => ?_) (fun cc_91 => ?_)
          · have cq_91 := bI_n0.mp cc_91
            refine ok_iconst (pc := 133) (v := 1) dX5_linesMeet_133 (by decide) ?_
            refine ok_zret (pc := 134) dX5_linesMeet_134 rfl rfl ?_
            have e9 : lmF σ (hmF σ k0) (amF σ k0) (hmF σ o0) (amF σ o0) = true := by
              unfold lmF
              first
                | (rw [cq_91]; simp; done)
                | (rw [cq_104]; simp; done)
                | (rw [cq_117]; simp; done)
                | (rw [cq_130]; simp; done)
            rw [e9] at k
            exact k
          · have cq_91 := bI_0.mp cc_91
            refine ok_aload_n (pc := 94) dX5_linesMeet_94 rfl ?_
            refine ok_iload (pc := 95) dX5_linesMeet_95 rfl ?_
            refine ok_iload (pc := 97) dX5_linesMeet_97 rfl ?_
            refine ok_iload (pc := 99) dX5_linesMeet_99 rfl ?_
            refine ok_callVi3 (pc := 101) (d' := 2) dX5_linesMeet_101 vl_X5_215 hP.o rfl rfl rfl (by decide) ?_
            refine c_isInside hP (amF σ k0) (hmF σ o0) (amF σ o0) eak eho eao (by omega) (by omega) (by omega) ?_
            refine ok_if_ne (pc := 104) 133 dX5_linesMeet_104 (by decide) (fun cc_104 => ?_) (fun cc_104 => ?_)
            · have cq_104 := bI_n0.mp cc_104
              refine ok_iconst (pc := 133) (v := 1) dX5_linesMeet_133 (by decide) ?_
              refine ok_zret (pc := 134) dX5_linesMeet_134 rfl rfl ?_
              have e9 : lmF σ (hmF σ k0) (amF σ k0) (hmF σ o0) (amF σ o0) = true := by
                unfold lmF
                first
                  | (rw [cq_91]; simp; done)
                  | (rw [cq_104]; simp; done)
                  | (rw [cq_117]; simp; done)
                  | (rw [cq_130]; simp; done)
              rw [e9] at k
              exact k
            · have cq_104 := bI_0.mp cc_104
              refine ok_aload_n (pc := 107) dX5_linesMeet_107 rfl ?_
              refine ok_iload (pc := 108) dX5_linesMeet_108 rfl ?_
              refine ok_iload (pc := 110) dX5_linesMeet_110 rfl ?_
              refine ok_iload (pc := 112) dX5_linesMeet_112 rfl ?_
              refine ok_callVi3 (pc := 114) (d' := 2) dX5_linesMeet_114 vl_X5_215 hP.o rfl rfl rfl (by decide) ?_
              refine c_isInside hP (hmF σ o0) (hmF σ k0) (amF σ k0) eho ehk eak (by omega) (by omega) (by omega) ?_
              refine ok_if_ne (pc := 117) 133 dX5_linesMeet_117 (by decide) (fun cc_117 => ?_) (fun cc_117 => ?_)
              · have cq_117 := bI_n0.mp cc_117
                refine ok_iconst (pc := 133) (v := 1) dX5_linesMeet_133 (by decide) ?_
                refine ok_zret (pc := 134) dX5_linesMeet_134 rfl rfl ?_
                have e9 : lmF σ (hmF σ k0) (amF σ k0) (hmF σ o0) (amF σ o0) = true := by
                  unfold lmF
                  first
                    | (rw [cq_91]; simp; done)
                    | (rw [cq_104]; simp; done)
                    | (rw [cq_117]; simp; done)
                    | (rw [cq_130]; simp; done)
                rw [e9] at k
                exact k
              · have cq_117 := bI_0.mp cc_117
                refine ok_aload_n (pc := 120) dX5_linesMeet_120 rfl ?_
                refine ok_iload (pc := 121) dX5_linesMeet_121 rfl ?_
                refine ok_iload (pc := 123) dX5_linesMeet_123 rfl ?_
                refine ok_iload (pc := 125) dX5_linesMeet_125 rfl ?_
                refine ok_callVi3 (pc := 127) (d' := 2) dX5_linesMeet_127 vl_X5_215 hP.o rfl rfl rfl (by decide) ?_
                refine c_isInside hP (amF σ o0) (hmF σ k0) (amF σ k0) eao ehk eak (by omega) (by omega) (by omega) ?_
                refine ok_if_eq (pc := 130) 135 dX5_linesMeet_130 (by decide) (fun cc_130 => ?_) (fun cc_130 => ?_)
                · have cq_130 := bI_0.mp cc_130
                  refine ok_aload_n (pc := 135) dX5_linesMeet_135 rfl ?_
                  refine ok_iload (pc := 136) dX5_linesMeet_136 rfl ?_
                  refine ok_iload (pc := 138) dX5_linesMeet_138 rfl ?_
                  refine ok_iload (pc := 140) dX5_linesMeet_140 rfl ?_
                  refine ok_callVi3 (pc := 142) (d' := 1) dX5_linesMeet_142 vl_X5_218 hP.o rfl rfl rfl (by decide) ?_
                  refine c_turn hP (hmF σ k0) (amF σ k0) (hmF σ o0) ehk eak eho (by omega) (by omega) (by omega) ?_
                  refine ok_aload_n (pc := 145) dX5_linesMeet_145 rfl ?_
                  refine ok_iload (pc := 146) dX5_linesMeet_146 rfl ?_
                  refine ok_iload (pc := 148) dX5_linesMeet_148 rfl ?_
                  refine ok_iload (pc := 150) dX5_linesMeet_150 rfl ?_
                  refine ok_callVi3 (pc := 152) (d' := 1) dX5_linesMeet_152 vl_X5_218 hP.o rfl rfl rfl (by decide) ?_
                  refine c_turn hP (hmF σ k0) (amF σ k0) (amF σ o0) ehk eak eao (by omega) (by omega) (by omega) ?_
                  refine ok_callSi2 (pc := 155) (d' := 0) dX5_linesMeet_155 sl_X5_221 rfl (by decide) ?_
                  refine c_areApart ?_
                  refine ok_if_eq (pc := 158) 191 dX5_linesMeet_158 (by decide) (fun cc_158 => ?_) (fun cc_158 => ?_)
                  · have cq_158 := bI_0.mp cc_158
                    refine ok_iconst (pc := 191) (v := 0) dX5_linesMeet_191 (by decide) ?_
                    refine ok_zret (pc := 192) dX5_linesMeet_192 rfl rfl ?_
                    have n1 : (decide (hmF σ k0 = hmF σ o0) && decide (amF σ k0 = amF σ o0)) = false := by first | (rw [decide_eq_false cn_55]; rfl) | (rw [decide_eq_false cn_62]; exact Bool.and_false _)
                    have n2 : (decide (hmF σ k0 = amF σ o0) && decide (amF σ k0 = hmF σ o0)) = false := by first | (rw [decide_eq_false cn_69]; rfl) | (rw [decide_eq_false cn_76]; exact Bool.and_false _)
                    unfold lmF at k
                    rw [n1, n2, cq_91, cq_104, cq_117, cq_130] at k
                    simp only [Bool.false_or] at k
                    first
                      | (rw [cq_158, cq_184] at k; exact k)
                      | (rw [cq_158] at k; exact k)
                  · have cq_158 := bI_n0.mp cc_158
                    refine ok_aload_n (pc := 161) dX5_linesMeet_161 rfl ?_
                    refine ok_iload (pc := 162) dX5_linesMeet_162 rfl ?_
                    refine ok_iload (pc := 164) dX5_linesMeet_164 rfl ?_
                    refine ok_iload (pc := 166) dX5_linesMeet_166 rfl ?_
                    refine ok_callVi3 (pc := 168) (d' := 1) dX5_linesMeet_168 vl_X5_218 hP.o rfl rfl rfl (by decide) ?_
                    refine c_turn hP (hmF σ o0) (amF σ o0) (hmF σ k0) eho eao ehk (by omega) (by omega) (by omega) ?_
                    refine ok_aload_n (pc := 171) dX5_linesMeet_171 rfl ?_
                    refine ok_iload (pc := 172) dX5_linesMeet_172 rfl ?_
                    refine ok_iload (pc := 174) dX5_linesMeet_174 rfl ?_
                    refine ok_iload (pc := 176) dX5_linesMeet_176 rfl ?_
                    refine ok_callVi3 (pc := 178) (d' := 1) dX5_linesMeet_178 vl_X5_218 hP.o rfl rfl rfl (by decide) ?_
                    refine c_turn hP (hmF σ o0) (amF σ o0) (amF σ k0) eho eao eak (by omega) (by omega) (by omega) ?_
                    refine ok_callSi2 (pc := 181) (d' := 0) dX5_linesMeet_181 sl_X5_221 rfl (by decide) ?_
                    refine c_areApart ?_
                    refine ok_if_eq (pc := 184) 191 dX5_linesMeet_184 (by decide) (fun cc_184 => ?_) (fun cc_184 => ?_)
                    · have cq_184 := bI_0.mp cc_184
                      refine ok_iconst (pc := 191) (v := 0) dX5_linesMeet_191 (by decide) ?_
                      refine ok_zret (pc := 192) dX5_linesMeet_192 rfl rfl ?_
                      have n1 : (decide (hmF σ k0 = hmF σ o0) && decide (amF σ k0 = amF σ o0)) = false := by first | (rw [decide_eq_false cn_55]; rfl) | (rw [decide_eq_false cn_62]; exact Bool.and_false _)
                      have n2 : (decide (hmF σ k0 = amF σ o0) && decide (amF σ k0 = hmF σ o0)) = false := by first | (rw [decide_eq_false cn_69]; rfl) | (rw [decide_eq_false cn_76]; exact Bool.and_false _)
                      unfold lmF at k
                      rw [n1, n2, cq_91, cq_104, cq_117, cq_130] at k
                      simp only [Bool.false_or] at k
                      first
                        | (rw [cq_158, cq_184] at k; exact k)
                        | (rw [cq_158] at k; exact k)
                    · have cq_184 := bI_n0.mp cc_184
                      refine ok_iconst (pc := 187) (v := 1) dX5_linesMeet_187 (by decide) ?_
                      refine ok_goto (pc := 188) 192 dX5_linesMeet_188 (by decide) ?_
                      refine ok_zret (pc := 192) dX5_linesMeet_192 rfl rfl ?_
                      have n1 : (decide (hmF σ k0 = hmF σ o0) && decide (amF σ k0 = amF σ o0)) = false := by first | (rw [decide_eq_false cn_55]; rfl) | (rw [decide_eq_false cn_62]; exact Bool.and_false _)
                      have n2 : (decide (hmF σ k0 = amF σ o0) && decide (amF σ k0 = hmF σ o0)) = false := by first | (rw [decide_eq_false cn_69]; rfl) | (rw [decide_eq_false cn_76]; exact Bool.and_false _)
                      unfold lmF at k
                      rw [n1, n2, cq_91, cq_104, cq_117, cq_130] at k
                      simp only [Bool.false_or] at k
                      first
                        | (rw [cq_158, cq_184] at k; exact k)
                        | (rw [cq_158] at k; exact k)
                · have cq_130 := bI_n0.mp cc_130
                  refine ok_iconst (pc := 133) (v := 1) dX5_linesMeet_133 (by decide) ?_
                  refine ok_zret (pc := 134) dX5_linesMeet_134 rfl rfl ?_
                  have e9 : lmF σ (hmF σ k0) (amF σ k0) (hmF σ o0) (amF σ o0) = true := by
                    unfold lmF
                    first
                      | (rw [cq_91]; simp; done)
                      | (rw [cq_104]; simp; done)
                      | (rw [cq_117]; simp; done)
                      | (rw [cq_130]; simp; done)
                  rw [e9] at k
                  exact k
        · have cn_76 : (amF σ k0) = (hmF σ o0) := (nI_eq (by omega) (by omega)).mp (by rw [← eak, ← eho]; exact cc_76)
          refine ok_iconst (pc := 79) (v := 1) dX5_linesMeet_79 (by decide) ?_
          refine ok_zret (pc := 80) dX5_linesMeet_80 rfl rfl ?_
          have e9 : lmF σ (hmF σ k0) (amF σ k0) (hmF σ o0) (amF σ o0) = true := by
            unfold lmF
            first
              | (rw [decide_eq_true cn_55, decide_eq_true cn_62]; simp; done)
              | (rw [decide_eq_true cn_69, decide_eq_true cn_76]; simp; done)
          rw [e9] at k
          exact k

def glV (o : Option Nat) : Int32 := match o with
  | none => 0
  | some q => nI q
def glL (σ : Rw) (o : Option Nat) : Int32 := match o with
  | none => -1
  | some q => kf σ q 3

set_option maxHeartbeats 1000000 in
theorem l_greatest {Γ : Cx} {p e z sz : Nat} {σ : Rw} {M : Nat → Option va_E} {K : Int32 → Wd → Prop} (hP : PstR Γ p e z σ M) (hI : Inv σ) {A : Nat} (hA : A < 2 ^ 8) (k : K (glV (fsN σ A (cK σ))) (M, sz)) : ∀ (n : Nat) (j : Nat) (x2 : Int32) (x3 : Int32) (xi : Int32), j + n = cK σ → xi = nI j → x2 = glV (fsN σ A j) → x3 = glL σ (fsN σ A j) → Ok Γ mX5_greatestLift 1 0 7 [some (.ref p), some (.int (nI A)), some (.int x2), some (.int x3), some (.int xi), none] [] (M, sz) (ci K) := by
  obtain ⟨⟨⟨eH, lH⟩, ⟨eK, lK⟩, ⟨eL, lL⟩, ⟨eA, lA⟩, ⟨eT, lT⟩⟩, iK, iH, iW, iL, iO, iB, hT⟩ := id hI
  
  intro n
  induction n with
  | zero =>
    intro j x2 x3 xi h1 ei e2 e3
    refine ok_iload (pc := 7) dX5_greatestLift_7 rfl ?_
    refine ok_aload_n (pc := 9) dX5_greatestLift_9 rfl ?_
    refine ok_getf (pc := 10) dX5_greatestLift_10 fl_X5_80 hP.o rfl ?_
    refine ok_icmp_ge (pc := 13) 62 dX5_greatestLift_13 (by decide) (fun cc_13 => ?_) (fun cc_13 => ?_)
    · have ce_13 := Int32.not_lt.mpr cc_13
      have e9 : j = cK σ := by omega
      subst e9
      rw [e2]
      refine ok_iload_n (pc := 62) dX5_greatestLift_62 rfl ?_
      refine ok_iret (pc := 63) dX5_greatestLift_63 rfl ?_
      exact k
    · exact absurd (by rw [eK, ei]; exact nI_le (by omega) (by omega)) cc_13
  | succ n ih =>
    intro j x2 x3 xi h1 ei e2 e3
    refine ok_iload (pc := 7) dX5_greatestLift_7 rfl ?_
    refine ok_aload_n (pc := 9) dX5_greatestLift_9 rfl ?_
    refine ok_getf (pc := 10) dX5_greatestLift_10 fl_X5_80 hP.o rfl ?_
    refine ok_icmp_ge (pc := 13) 62 dX5_greatestLift_13 (by decide) (fun cc_13 => ?_) (fun cc_13 => ?_)
    · rw [eK, ei] at cc_13
      exact absurd cc_13 (nI_ge (by omega) (by omega))
    · have ce_13 := Int32.not_le.mp cc_13
      refine ok_aload_n (pc := 16) dX5_greatestLift_16 rfl ?_
      refine ok_iload (pc := 17) dX5_greatestLift_17 rfl ?_
      refine ok_callVr1 (pc := 19) (d' := 0) dX5_greatestLift_19 vl_X5_201 hP.o rfl rfl rfl (by decide) ?_
      refine c_kiteAt hP eK lK (fun qg exqg lxqg hKg => ?_) (fun h9 => absurd h9 (by rw [wi_T eK (by omega) (by rw [ei]; exact nI_pos' (by omega)) (by rw [ei, eK]; exact nI_lt (by omega) (by omega))]; decide))
      have ejqg : iN xi = j := by rw [ei]; exact nI_clamp (by omega)
      rw [ejqg] at hKg lxqg
      refine ok_astore5 (pc := 22) dX5_greatestLift_22 (by decide) rfl ?_
      refine ok_aload (pc := 24) dX5_greatestLift_24 rfl ?_
      refine ok_ifnull (pc := 26) dX5_greatestLift_26 ?_
      refine ok_iload_n (pc := 29) dX5_greatestLift_29 rfl ?_
      refine ok_iload (pc := 30) dX5_greatestLift_30 rfl ?_
      refine ok_ishr (pc := 32) dX5_greatestLift_32 ?_
      refine ok_iconst (pc := 33) (v := 1) dX5_greatestLift_33 (by decide) ?_
      refine ok_iand (pc := 34) dX5_greatestLift_34 ?_
      refine ok_if_eq (pc := 35) 56 dX5_greatestLift_35 (by decide) (fun cc_35 => ?_) (fun cc_35 => ?_)
      · rw [ei, hb_ne (by omega) (by omega)] at cc_35
        have enx : fsN σ A (j + 1) = fsN σ A j := if_neg (by rw [cc_35, Bool.false_and]; decide)
        refine ok_iinc4 (pc := 56) (v := 1) dX5_greatestLift_56 (by decide) (by decide) rfl ?_
        refine ok_goto (pc := 59) 7 dX5_greatestLift_59 (by decide) ?_
        refine ok_drop5 ?_
        exact ih (j + 1) _ _ _ (by omega) (by rw [ei, nI_1]) (by rw [enx]; first | exact e2 | exact ei) (by rw [enx]; first | exact e3 | rfl)
      · rw [ei, hb_ne (by omega) (by omega)] at cc_35
        have hb9 : A.testBit j = true := by cases h9 : A.testBit j with | false => exact absurd h9 cc_35 | true => rfl
        have l0 : 0 ≤ kf σ j 3 := (iK j (by omega)).2.2.2.2.1.1
        refine ok_aload (pc := 38) dX5_greatestLift_38 rfl ?_
        refine ok_getf (pc := 40) dX5_greatestLift_40 (flk_X5_164 _) hKg.2 rfl ?_
        refine ok_iload_n (pc := 43) dX5_greatestLift_43 rfl ?_
        refine ok_icmp_le (pc := 44) 56 dX5_greatestLift_44 (by decide) (fun cc_44 => ?_) (fun cc_44 => ?_)
        · have ce_44 := Int32.not_lt.mpr cc_44
          have hle9 : ¬ (fsC σ j (fsN σ A j) = true) := by
            intro h9
            cases hf9 : fsN σ A j with
            | none =>
              rw [e3, hf9] at cc_44
              have h8 : (0 : Int32) ≤ -1 := Int32.le_trans l0 cc_44
              exact absurd h8 (by decide)
            | some q9 =>
              rw [e3, hf9] at cc_44
              rw [hf9] at h9
              have hq9 := (fsN_some hf9).1
              unfold fsC ahF at h9
              simp only [Bool.or_eq_true, Bool.and_eq_true, decide_eq_true_eq] at h9
              rcases h9 with h9 | h9
              · exact absurd h9 (Int32.not_lt.mpr cc_44)
              · omega
          have enx : fsN σ A (j + 1) = fsN σ A j := if_neg (fun h9 => by rw [hb9, Bool.true_and] at h9; exact hle9 h9)
          refine ok_iinc4 (pc := 56) (v := 1) dX5_greatestLift_56 (by decide) (by decide) rfl ?_
          refine ok_goto (pc := 59) 7 dX5_greatestLift_59 (by decide) ?_
          refine ok_drop5 ?_
          exact ih (j + 1) _ _ _ (by omega) (by rw [ei, nI_1]) (by rw [enx]; first | exact e2 | exact ei) (by rw [enx]; first | exact e3 | rfl)
        · have ce_44 := Int32.not_le.mp cc_44
          have hlt9 : fsC σ j (fsN σ A j) = true := by
            cases hf9 : fsN σ A j with
            | none => rfl
            | some q9 =>
              rw [e3, hf9] at cc_44
              unfold fsC ahF
              have h8 : kf σ q9 3 < kf σ j 3 := Int32.not_le.mp cc_44
              simp [h8]
          have enx : fsN σ A (j + 1) = some j := if_pos (by rw [hb9, hlt9]; rfl)
          refine ok_aload (pc := 47) dX5_greatestLift_47 rfl ?_
          refine ok_getf (pc := 49) dX5_greatestLift_49 (flk_X5_164 _) hKg.2 rfl ?_
          refine ok_istore_n3 (pc := 52) dX5_greatestLift_52 (by decide) rfl ?_
          refine ok_iload (pc := 53) dX5_greatestLift_53 rfl ?_
          refine ok_istore_n2 (pc := 55) dX5_greatestLift_55 (by decide) rfl ?_
          refine ok_iinc4 (pc := 56) (v := 1) dX5_greatestLift_56 (by decide) (by decide) rfl ?_
          refine ok_goto (pc := 59) 7 dX5_greatestLift_59 (by decide) ?_
          refine ok_drop5 ?_
          exact ih (j + 1) _ _ _ (by omega) (by rw [ei, nI_1]) (by rw [enx]; first | exact e2 | exact ei) (by rw [enx]; first | exact e3 | rfl)

set_option maxHeartbeats 1000000 in
theorem c_greatest {Γ : Cx} {p e z sz : Nat} {σ : Rw} {M : Nat → Option va_E} {K : Int32 → Wd → Prop} (hP : PstR Γ p e z σ M) (hI : Inv σ) {xb : Int32} (A : Nat) (eb : xb = nI A) (hA : A < 2 ^ 8) (k : K (glV (fsN σ A (cK σ))) (M, sz)) : Spec Γ mX5_greatestLift 1 0 [.ref p, .int xb] (M, sz) (ci K) := by
  refine spec_in [some (.ref p), some (.int xb), none, none, none, none] 4 (by decide) rfl rfl ?_
  refine ok_iconst (pc := 0) (v := 0) dX5_greatestLift_0 (by decide) ?_
  refine ok_istore_n2 (pc := 1) dX5_greatestLift_1 (by decide) rfl ?_
  refine ok_iconst (pc := 2) (v := -1) dX5_greatestLift_2 (by decide) ?_
  refine ok_istore_n3 (pc := 3) dX5_greatestLift_3 (by decide) rfl ?_
  refine ok_iconst (pc := 4) (v := 0) dX5_greatestLift_4 (by decide) ?_
  refine ok_istore4 (pc := 5) dX5_greatestLift_5 (by decide) rfl ?_
  subst eb
  exact l_greatest hP hI hA k (cK σ) 0 _ _ _ (by omega) rfl rfl rfl

set_option maxHeartbeats 1000000 in
theorem l_down2 {Γ : Cx} {p e z sz : Nat} {σ : Rw} {M : Nat → Option va_E} {Q : Option Value → Wd → Prop} (hP : PstR Γ p e z σ M) (hI : Inv σ) {hv xi5 : Int32} {A U : Nat} (q : Nat) (hq8 : q < cK σ) (hU : U < 2 ^ 8) (aq : 0 ≤ kf σ q 5) (aU : ∀ k, U.testBit k = true → k < cK σ ∧ 0 ≤ kf σ k 5) (kk : ∀ x7, Ok Γ mX5_downBits 4 0 87 [some (.ref p), some (.int hv), some (.int (nI A)), some (.int (nI U)), some (.int xi5), some (.int (nI q)), some (.int (bI (dnN σ U q (cK σ)))), some (.int x7)] [] (M, sz) Q) : ∀ (n : Nat) (j : Nat) (x6 : Int32) (x7 : Int32), j + n = cK σ → x7 = nI j → x6 = bI (dnN σ U q j) → Ok Γ mX5_downBits 4 0 40 [some (.ref p), some (.int hv), some (.int (nI A)), some (.int (nI U)), some (.int xi5), some (.int (nI q)), some (.int x6), some (.int x7)] [] (M, sz) Q := by
  obtain ⟨⟨⟨eH, lH⟩, ⟨eK, lK⟩, ⟨eL, lL⟩, ⟨eA, lA⟩, ⟨eT, lT⟩⟩, iK, iH, iW, iL, iO, iB, hT⟩ := id hI
  have hup : ∀ i j, i ≤ j → dnN σ U q i = true → dnN σ U q j = true := by
    intro i j
    induction j with
    | zero => intro h1 h2; have e9 : i = 0 := by omega
              subst e9; exact h2
    | succ j ihj =>
      intro h1 h2
      rcases Nat.lt_or_ge i (j + 1) with g | g
      · unfold dnN; rw [ihj (by omega) h2]; rfl
      · have e9 : i = j + 1 := by omega
        subst e9; exact h2
  
  intro n
  induction n with
  | zero =>
    intro j x6 x7 h1 ei e6
    refine ok_iload (pc := 40) dX5_downBits_40 rfl ?_
    refine ok_aload_n (pc := 42) dX5_downBits_42 rfl ?_
    refine ok_getf (pc := 43) dX5_downBits_43 fl_X5_80 hP.o rfl ?_
    refine ok_icmp_ge (pc := 46) 87 dX5_downBits_46 (by decide) (fun cc_46 => ?_) (fun cc_46 => ?_)
    · have e9 : j = cK σ := by omega
      subst e9
      subst e6
      exact kk _
    · exact absurd (by rw [eK, ei]; exact nI_le (by omega) (by omega)) cc_46
  | succ n ih =>
    intro j x6 x7 h1 ei e6
    refine ok_iload (pc := 40) dX5_downBits_40 rfl ?_
    refine ok_aload_n (pc := 42) dX5_downBits_42 rfl ?_
    refine ok_getf (pc := 43) dX5_downBits_43 fl_X5_80 hP.o rfl ?_
    refine ok_icmp_ge (pc := 46) 87 dX5_downBits_46 (by decide) (fun cc_46 => ?_) (fun cc_46 => ?_)
    · rw [eK, ei] at cc_46
      exact absurd cc_46 (nI_ge (by omega) (by omega))
    · have ce_46 := Int32.not_le.mp cc_46
      refine ok_iload (pc := 49) dX5_downBits_49 rfl ?_
      refine ok_if_ne (pc := 51) 87 dX5_downBits_51 (by decide) (fun cc_51 => ?_) (fun cc_51 => ?_)
      · rw [e6] at cc_51
        have h9 := bI_n0.mp cc_51
        have e9 : x6 = bI (dnN σ U q (cK σ)) := by rw [e6, h9, hup j (cK σ) (by omega) h9]
        subst e9
        exact kk _
      · rw [e6] at cc_51
        have hno := bI_0.mp cc_51
        refine ok_iload_n (pc := 54) dX5_downBits_54 rfl ?_
        refine ok_iload (pc := 55) dX5_downBits_55 rfl ?_
        refine ok_ishr (pc := 57) dX5_downBits_57 ?_
        refine ok_iconst (pc := 58) (v := 1) dX5_downBits_58 (by decide) ?_
        refine ok_iand (pc := 59) dX5_downBits_59 ?_
        refine ok_if_eq (pc := 60) 78 dX5_downBits_60 (by decide) (fun cc_60 => ?_) (fun cc_60 => ?_)
        · rw [ei, hb_ne (by omega) (by omega)] at cc_60
          have enx : dnN σ U q (j + 1) = false := by unfold dnN; rw [hno, cc_60]; rfl
          refine ok_iconst (pc := 78) (v := 0) dX5_downBits_78 (by decide) ?_
          refine ok_istore6 (pc := 79) dX5_downBits_79 (by decide) rfl ?_
          refine ok_iinc7 (pc := 81) (v := 1) dX5_downBits_81 (by decide) (by decide) rfl ?_
          refine ok_goto (pc := 84) 40 dX5_downBits_84 (by decide) ?_
          exact ih (j + 1) _ _ (by omega) (by rw [ei, nI_1]) (by rw [enx]; rfl)
        · rw [ei, hb_ne (by omega) (by omega)] at cc_60
          have hb9 : U.testBit j = true := by cases h9 : U.testBit j with | false => exact absurd h9 cc_60 | true => rfl
          refine ok_aload_n (pc := 63) dX5_downBits_63 rfl ?_
          refine ok_iload (pc := 64) dX5_downBits_64 rfl ?_
          refine ok_iload (pc := 66) dX5_downBits_66 rfl ?_
          refine ok_callVi2 (pc := 68) (d' := 3) dX5_downBits_68 vl_X5_211 hP.o rfl rfl rfl (by decide) ?_
          refine c_linesMeet hP hI q j rfl ei hq8 (by omega) aq (aU j hb9).2 ?_
          refine ok_if_eq (pc := 71) 78 dX5_downBits_71 (by decide) (fun cc_71 => ?_) (fun cc_71 => ?_)
          · have cq_71 := bI_0.mp cc_71
            have enx : dnN σ U q (j + 1) = false := by unfold dnN; rw [hno, hb9, cq_71]; rfl
            refine ok_iconst (pc := 78) (v := 0) dX5_downBits_78 (by decide) ?_
            refine ok_istore6 (pc := 79) dX5_downBits_79 (by decide) rfl ?_
            refine ok_iinc7 (pc := 81) (v := 1) dX5_downBits_81 (by decide) (by decide) rfl ?_
            refine ok_goto (pc := 84) 40 dX5_downBits_84 (by decide) ?_
            exact ih (j + 1) _ _ (by omega) (by rw [ei, nI_1]) (by rw [enx]; rfl)
          · have cq_71 := bI_n0.mp cc_71
            have enx : dnN σ U q (j + 1) = true := by unfold dnN; rw [hno, hb9, cq_71]; rfl
            refine ok_iconst (pc := 74) (v := 1) dX5_downBits_74 (by decide) ?_
            refine ok_goto (pc := 75) 79 dX5_downBits_75 (by decide) ?_
            refine ok_istore6 (pc := 79) dX5_downBits_79 (by decide) rfl ?_
            refine ok_iinc7 (pc := 81) (v := 1) dX5_downBits_81 (by decide) (by decide) rfl ?_
            refine ok_goto (pc := 84) 40 dX5_downBits_84 (by decide) ?_
            exact ih (j + 1) _ _ (by omega) (by rw [ei, nI_1]) (by rw [enx]; rfl)

set_option maxHeartbeats 1000000 in
theorem l_down {Γ : Cx} {p e z sz : Nat} {σ : Rw} {M : Nat → Option va_E} {K : Int32 → Wd → Prop} (hP : PstR Γ p e z σ M) (hI : Inv σ) {hv : Int32} (K0 : Nat) (k : K (hv &&& (nI K0 ^^^ -1)) (M, sz)) : ∀ (n : Nat) (A : Nat) (U : Nat) (i9 : Nat) (xi : Int32), bcN A ≤ n → i9 + n ≤ 8 → xi = nI i9 → A < 2 ^ 8 → U < 2 ^ 8 → (∀ k, A.testBit k = true → k < cK σ ∧ 0 ≤ kf σ k 5) → (∀ k, U.testBit k = true → k < cK σ ∧ 0 ≤ kf σ k 5) → suN σ n A U = K0 → Ok Γ mX5_downBits 4 0 7 [some (.ref p), some (.int hv), some (.int (nI A)), some (.int (nI U)), some (.int xi), none, none, none] [] (M, sz) (ci K) := by
  obtain ⟨⟨⟨eH, lH⟩, ⟨eK, lK⟩, ⟨eL, lL⟩, ⟨eA, lA⟩, ⟨eT, lT⟩⟩, iK, iH, iW, iL, iO, iB, hT⟩ := id hI
  
  intro n
  induction n with
  | zero =>
    intro A U i9 xi h1 hi ei hA hU aA aU hK0
    refine ok_iload (pc := 7) dX5_downBits_7 rfl ?_
    refine ok_bipush (pc := 9) (v := 8) dX5_downBits_9 (by decide) ?_
    refine ok_icmp_ge (pc := 11) 105 dX5_downBits_11 (by decide) (fun cc_11 => ?_) (fun cc_11 => ?_)
    · have ce_11 := Int32.not_lt.mpr cc_11
      have hK1 : U = K0 := hK0
      subst hK1
      refine ok_iload_n (pc := 105) dX5_downBits_105 rfl ?_
      refine ok_iload_n (pc := 106) dX5_downBits_106 rfl ?_
      refine ok_iconst (pc := 107) (v := -1) dX5_downBits_107 (by decide) ?_
      refine ok_ixor (pc := 108) dX5_downBits_108 ?_
      refine ok_iand (pc := 109) dX5_downBits_109 ?_
      refine ok_iret (pc := 110) dX5_downBits_110 rfl ?_
      exact k
    · have ce_11 := Int32.not_le.mp cc_11
      refine ok_iload_n (pc := 14) dX5_downBits_14 rfl ?_
      refine ok_if_eq (pc := 15) 105 dX5_downBits_15 (by decide) (fun cc_15 => ?_) (fun cc_15 => ?_)
      · have hK1 : U = K0 := hK0
        subst hK1
        refine ok_iload_n (pc := 105) dX5_downBits_105 rfl ?_
        refine ok_iload_n (pc := 106) dX5_downBits_106 rfl ?_
        refine ok_iconst (pc := 107) (v := -1) dX5_downBits_107 (by decide) ?_
        refine ok_ixor (pc := 108) dX5_downBits_108 ?_
        refine ok_iand (pc := 109) dX5_downBits_109 ?_
        refine ok_iret (pc := 110) dX5_downBits_110 rfl ?_
        exact k
      · exact absurd (by rw [bc_0 (A := A) (by omega) (by omega)]; rfl) cc_15
  | succ n ih =>
    intro A U i9 xi h1 hi ei hA hU aA aU hK0
    refine ok_iload (pc := 7) dX5_downBits_7 rfl ?_
    refine ok_bipush (pc := 9) (v := 8) dX5_downBits_9 (by decide) ?_
    refine ok_icmp_ge (pc := 11) 105 dX5_downBits_11 (by decide) (fun cc_11 => ?_) (fun cc_11 => ?_)
    · rw [ei] at cc_11
      exact absurd cc_11 (nI_ge (b := 8) (by omega) (by decide))
    · have ce_11 := Int32.not_le.mp cc_11
      refine ok_iload_n (pc := 14) dX5_downBits_14 rfl ?_
      refine ok_if_eq (pc := 15) 105 dX5_downBits_15 (by decide) (fun cc_15 => ?_) (fun cc_15 => ?_)
      · have hz : A = 0 := (nI_eq (by omega) (by decide)).mp cc_15
        have hK1 : U = K0 := by rw [← hK0]; unfold suN; rw [if_pos hz]
        subst hK1
        refine ok_iload_n (pc := 105) dX5_downBits_105 rfl ?_
        refine ok_iload_n (pc := 106) dX5_downBits_106 rfl ?_
        refine ok_iconst (pc := 107) (v := -1) dX5_downBits_107 (by decide) ?_
        refine ok_ixor (pc := 108) dX5_downBits_108 ?_
        refine ok_iand (pc := 109) dX5_downBits_109 ?_
        refine ok_iret (pc := 110) dX5_downBits_110 rfl ?_
        exact k
      · have hz : A ≠ 0 := fun h => cc_15 (by rw [h]; rfl)
        refine ok_aload_n (pc := 18) dX5_downBits_18 rfl ?_
        refine ok_iload_n (pc := 19) dX5_downBits_19 rfl ?_
        refine ok_callVi1 (pc := 20) (d' := 1) dX5_downBits_20 vl_X5_208 hP.o rfl rfl rfl (by decide) ?_
        obtain ⟨q, eq0⟩ : ∃ q, fsN σ A (cK σ) = some q := by
          cases hfs : fsN σ A (cK σ) with
          | none => exact absurd (bits_0 (n := 8) hA (fun i hi => by
              rcases Nat.lt_or_ge i (cK σ) with g | g
              · exact fsN_none hfs i g
              · cases hb : A.testBit i with
                | false => rfl
                | true => exact absurd (aA i hb).1 (by omega))) hz
          | some q => exact ⟨q, rfl⟩
        obtain ⟨lq, bq⟩ := fsN_some eq0
        refine c_greatest hP hI A rfl hA ?_
        rw [eq0]
        have eoq : glV (some q) = nI q := rfl
        rw [eoq]
        have hcl : clrN A q < 2 ^ 8 := Nat.lt_of_le_of_lt clr_le hA
        have haC : ∀ k, (clrN A q).testBit k = true → k < cK σ ∧ 0 ≤ kf σ k 5 := by
          intro k hk
          refine aA k ?_
          unfold clrN at hk
          rw [Nat.testBit_and, Bool.and_eq_true] at hk
          exact hk.1
        have hbc := bc_clr (A := A) (k := q) (by omega) bq
        refine ok_istore5 (pc := 23) dX5_downBits_23 (by decide) rfl ?_
        refine ok_iload_n (pc := 25) dX5_downBits_25 rfl ?_
        refine ok_iconst (pc := 26) (v := 1) dX5_downBits_26 (by decide) ?_
        refine ok_iload (pc := 27) dX5_downBits_27 rfl ?_
        refine ok_ishl (pc := 29) dX5_downBits_29 ?_
        refine ok_iconst (pc := 30) (v := -1) dX5_downBits_30 (by decide) ?_
        refine ok_ixor (pc := 31) dX5_downBits_31 ?_
        refine ok_iand (pc := 32) dX5_downBits_32 ?_
        rw [jshl_1 (by omega), clr_n]
        refine ok_istore_n2 (pc := 33) dX5_downBits_33 (by decide) rfl ?_
        refine ok_iconst (pc := 34) (v := 0) dX5_downBits_34 (by decide) ?_
        refine ok_istore6 (pc := 35) dX5_downBits_35 (by decide) rfl ?_
        refine ok_iconst (pc := 37) (v := 0) dX5_downBits_37 (by decide) ?_
        refine ok_istore7 (pc := 38) dX5_downBits_38 (by decide) rfl ?_
        refine l_down2 hP hI q lq hU (aA q bq).2 aU (fun x7 => ?_) (cK σ) 0 _ _ (by omega) rfl rfl
        refine ok_iload (pc := 87) dX5_downBits_87 rfl ?_
        refine ok_if_ne (pc := 89) 99 dX5_downBits_89 (by decide) (fun cc_89 => ?_) (fun cc_89 => ?_)
        · have cq_89 := bI_n0.mp cc_89
          refine ok_iinc4 (pc := 99) (v := 1) dX5_downBits_99 (by decide) (by decide) rfl ?_
          refine ok_goto (pc := 102) 7 dX5_downBits_102 (by decide) ?_
          first
            | (rw [jshl_1 (by omega), fa_or]
               refine ok_drop5 ?_
               refine ok_drop6 ?_
               refine ok_drop7 ?_
               exact ih (clrN A q) (U ||| 2 ^ q) (i9 + 1) _ (by omega) (by omega) (by rw [ei, nI_1]) hcl (or_lt hU (pw_lt (by omega))) haC (by intro k9 hk9; rw [fb_bit_set, Bool.or_eq_true] at hk9; rcases hk9 with h | h; exact aU k9 h; have h := of_decide_eq_true h; subst h; exact aA _ bq) (by rw [← hK0]; rw [show suN σ (n + 1) A U = (if A = 0 then U else match fsN σ A (cK σ) with | none => U | some q => suN σ n (clrN A q) (if dnN σ U q (cK σ) then U else U ||| 2 ^ q)) from rfl, if_neg hz, eq0]; simp [cq_89]))
            | (refine ok_drop5 ?_
               refine ok_drop6 ?_
               refine ok_drop7 ?_
               exact ih (clrN A q) U (i9 + 1) _ (by omega) (by omega) (by rw [ei, nI_1]) hcl hU haC aU (by rw [← hK0]; rw [show suN σ (n + 1) A U = (if A = 0 then U else match fsN σ A (cK σ) with | none => U | some q => suN σ n (clrN A q) (if dnN σ U q (cK σ) then U else U ||| 2 ^ q)) from rfl, if_neg hz, eq0]; simp [cq_89]))
        · have cq_89 := bI_0.mp cc_89
          refine ok_iload_n (pc := 92) dX5_downBits_92 rfl ?_
          refine ok_iconst (pc := 93) (v := 1) dX5_downBits_93 (by decide) ?_
          refine ok_iload (pc := 94) dX5_downBits_94 rfl ?_
          refine ok_ishl (pc := 96) dX5_downBits_96 ?_
          refine ok_ior (pc := 97) dX5_downBits_97 ?_
          refine ok_istore_n3 (pc := 98) dX5_downBits_98 (by decide) rfl ?_
          refine ok_iinc4 (pc := 99) (v := 1) dX5_downBits_99 (by decide) (by decide) rfl ?_
          refine ok_goto (pc := 102) 7 dX5_downBits_102 (by decide) ?_
          first
            | (rw [jshl_1 (by omega), fa_or]
               refine ok_drop5 ?_
               refine ok_drop6 ?_
               refine ok_drop7 ?_
               exact ih (clrN A q) (U ||| 2 ^ q) (i9 + 1) _ (by omega) (by omega) (by rw [ei, nI_1]) hcl (or_lt hU (pw_lt (by omega))) haC (by intro k9 hk9; rw [fb_bit_set, Bool.or_eq_true] at hk9; rcases hk9 with h | h; exact aU k9 h; have h := of_decide_eq_true h; subst h; exact aA _ bq) (by rw [← hK0]; rw [show suN σ (n + 1) A U = (if A = 0 then U else match fsN σ A (cK σ) with | none => U | some q => suN σ n (clrN A q) (if dnN σ U q (cK σ) then U else U ||| 2 ^ q)) from rfl, if_neg hz, eq0]; simp [cq_89]))
            | (refine ok_drop5 ?_
               refine ok_drop6 ?_
               refine ok_drop7 ?_
               exact ih (clrN A q) U (i9 + 1) _ (by omega) (by omega) (by rw [ei, nI_1]) hcl hU haC aU (by rw [← hK0]; rw [show suN σ (n + 1) A U = (if A = 0 then U else match fsN σ A (cK σ) with | none => U | some q => suN σ n (clrN A q) (if dnN σ U q (cK σ) then U else U ||| 2 ^ q)) from rfl, if_neg hz, eq0]; simp [cq_89]))

theorem bc8 {A : Nat} (hA : A < 2 ^ 8) : bcN A ≤ 8 := by
  have h : ∀ n, fb_ct (fun i => A.testBit i) (8 + n) ≤ 8 := by
    intro n
    induction n with
    | zero => exact fb_ct_le _ _
    | succ n ih =>
      have e : fb_ct (fun i => A.testBit i) (8 + (n + 1)) = fb_ct (fun i => A.testBit i) (8 + n) := by
        show fb_ct (fun i => A.testBit i) (8 + n) + (if A.testBit (8 + n) = true then 1 else 0) = _
        rw [Nat.testBit_lt_two_pow (Nat.lt_of_lt_of_le hA (Nat.pow_le_pow_right (by decide) (by omega)))]
        simp
      rw [e]; exact ih
  exact h 8
/-- more fuel changes nothing -/
theorem suN_more {σ : Rw} : ∀ (f g A U : Nat), bcN A ≤ f → bcN A ≤ g → A < 2 ^ 8 → (∀ k, A.testBit k = true → k < cK σ) → suN σ f A U = suN σ g A U
  | 0, 0, A, U, _, _, _, _ => rfl
  | 0, g + 1, A, U, h1, _, h3, _ => by
    have hz : A = 0 := bc_0 (by omega) (by omega)
    show U = (if A = 0 then U else _)
    rw [if_pos hz]
  | f + 1, 0, A, U, _, h2, h3, _ => by
    have hz : A = 0 := bc_0 (by omega) (by omega)
    show (if A = 0 then U else _) = U
    rw [if_pos hz]
  | f + 1, g + 1, A, U, h1, h2, h3, h4 => by
    rw [show suN σ (f + 1) A U = (if A = 0 then U else match fsN σ A (cK σ) with | none => U | some q => suN σ f (clrN A q) (if dnN σ U q (cK σ) then U else U ||| 2 ^ q)) from rfl, show suN σ (g + 1) A U = (if A = 0 then U else match fsN σ A (cK σ) with | none => U | some q => suN σ g (clrN A q) (if dnN σ U q (cK σ) then U else U ||| 2 ^ q)) from rfl]
    by_cases hz : A = 0
    · rw [if_pos hz, if_pos hz]
    · rw [if_neg hz, if_neg hz]
      cases hfs : fsN σ A (cK σ) with
      | none => rfl
      | some q =>
        obtain ⟨lq, bq⟩ := fsN_some hfs
        have hq : q < 16 := by
          rcases Nat.lt_or_ge q 16 with g | g
          · exact g
          · rw [Nat.testBit_lt_two_pow (Nat.lt_of_lt_of_le h3 (Nat.pow_le_pow_right (by decide) (by omega)))] at bq
            cases bq
        have hbc := bc_clr (A := A) (k := q) hq bq
        exact suN_more f g (clrN A q) _ (by omega) (by omega) (Nat.lt_of_le_of_lt clr_le h3) (fun k hk => h4 k (by unfold clrN at hk; rw [Nat.testBit_and, Bool.and_eq_true] at hk; exact hk.1))

set_option maxHeartbeats 1000000 in
theorem c_downBits {Γ : Cx} {p e z sz : Nat} {σ : Rw} {M : Nat → Option va_E} {K : Int32 → Wd → Prop} (hP : PstR Γ p e z σ M) (hI : Inv σ) {hv : Int32} (A : Nat) (ea : hv = nI A) (hA : A < 2 ^ 8) (aA : ∀ k, A.testBit k = true → k < cK σ ∧ 0 ≤ kf σ k 5) (k : K (hv &&& (nI (suN σ 8 A 0) ^^^ -1)) (M, sz)) : Spec Γ mX5_downBits 4 0 [.ref p, .int hv] (M, sz) (ci K) := by
  refine spec_in [some (.ref p), some (.int hv), none, none, none, none, none, none] 6 (by decide) rfl rfl ?_
  refine ok_iload_n (pc := 0) dX5_downBits_0 rfl ?_
  refine ok_istore_n2 (pc := 1) dX5_downBits_1 (by decide) rfl ?_
  refine ok_iconst (pc := 2) (v := 0) dX5_downBits_2 (by decide) ?_
  refine ok_istore_n3 (pc := 3) dX5_downBits_3 (by decide) rfl ?_
  refine ok_iconst (pc := 4) (v := 0) dX5_downBits_4 (by decide) ?_
  refine ok_istore4 (pc := 5) dX5_downBits_5 (by decide) rfl ?_
  subst ea
  exact l_down hP hI _ k 8 A 0 0 _ (by have := bc8 hA; omega) (by decide) rfl hA (by decide) aA (fun k9 h9 => by rw [Nat.zero_testBit] at h9; cases h9) rfl
