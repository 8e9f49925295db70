theorem Inv_wait {σ : Rw} (hI : Inv σ) {n : Nat} (hn : n ≤ 20) : Inv (upd σ 7 (nI n)) := by
  obtain ⟨⟨⟨eH, lH⟩, ⟨eK, lK⟩, ⟨eL, lL⟩, ⟨eA, lA⟩, ⟨eT, lT⟩⟩, iK, iH, iW, iL, iO, iB, hT⟩ := id hI
  have off : ∀ {j : Nat}, j ≠ 7 → (upd σ 7 (nI n)) j = σ j := fun h => upd_ne h
  have qH : cH (upd σ 7 (nI n)) = cH σ := by unfold cH; rw [off (by omega)]
  have qK : cK (upd σ 7 (nI n)) = cK σ := by unfold cK; rw [off (by omega)]
  have qL : cL (upd σ 7 (nI n)) = cL σ := by unfold cL; rw [off (by omega)]
  have qA : cA (upd σ 7 (nI n)) = cA σ := by unfold cA; rw [off (by omega)]
  have qT : cT (upd σ 7 (nI n)) = cT σ := by unfold cT; rw [off (by omega)]
  have hkf : ∀ k_ f_, k_ < 8 → f_ < 6 → kf (upd σ 7 (nI n)) k_ f_ = kf σ k_ f_ := fun k_ f_ hk_ hf_ => by unfold kf; exact off (by omega)
  have hlf : ∀ k_ f_, k_ < 12 → f_ < 7 → lf (upd σ 7 (nI n)) k_ f_ = lf σ k_ f_ := fun k_ f_ hk_ hf_ => by unfold lf; exact off (by omega)
  refine ⟨⟨⟨?_, ?_⟩, ⟨?_, ?_⟩, ⟨?_, ?_⟩, ⟨?_, ?_⟩, ⟨?_, ?_⟩⟩, ?_, ?_, ?_, ?_, ?_, ?_, ?_⟩
  · rw [qH, off (by omega)]; exact eH
  · rw [qH]; exact lH
  · rw [qK, off (by omega)]; exact eK
  · rw [qK]; exact lK
  · rw [qL, off (by omega)]; exact eL
  · rw [qL]; exact lL
  · rw [qA, off (by omega)]; exact eA
  · rw [qA, qL, arN_same (σ := σ) (τ := (upd σ 7 (nI n))) (fun l hl => by unfold arF; rw [hlf l 6 (by omega) (by decide)])]; exact lA
  · rw [qT, off (by omega)]; exact eT
  · rw [qT]; exact lT
  · intro k hk
    rw [qK] at hk
    unfold hmF amF
    simp only [hkf k _ (show k < 8 by omega) (show 0 < 6 by decide), hkf k _ (show k < 8 by omega) (show 1 < 6 by decide), hkf k _ (show k < 8 by omega) (show 2 < 6 by decide), hkf k _ (show k < 8 by omega) (show 3 < 6 by decide), hkf k _ (show k < 8 by omega) (show 4 < 6 by decide), hkf k _ (show k < 8 by omega) (show 5 < 6 by decide), qH]
    exact iK k hk
  · intro q hq
    rw [qH] at hq
    have e1 : ∀ g, g < cH σ → (upd σ 7 (nI n)) (9 + 2 * g) = σ (9 + 2 * g) := fun g hg => off (by omega)
    have e2 : hz (upd σ 7 (nI n)) q = hz σ q := by unfold hz; exact off (by omega)
    rw [e2, qH, e1 q hq]
    obtain ⟨i1, i2, i3⟩ := iH q hq
    exact ⟨i1, i2, fun g hg he => i3 g hg (by rw [e1 g hg] at he; exact he)⟩
  · intro q hq
    have e1 : (upd σ 7 (nI n)) (27 + q) = σ (27 + q) := off (by omega)
    unfold wdF
    rw [e1]
    exact iW q hq
  · intro q hq
    rw [qL] at hq
    unfold onF toF anF
    simp only [hlf q _ (show q < 12 by omega) (show 5 < 7 by decide), hlf q _ (show q < 12 by omega) (show 1 < 7 by decide), hlf q _ (show q < 12 by omega) (show 2 < 7 by decide), hlf q _ (show q < 12 by omega) (show 3 < 7 by decide), qH]
    exact iL q hq
  · intro q hq
    rw [qA] at hq
    have hq12 : cA σ ≤ 12 := by rw [lA]; exact Nat.le_trans (arN_le σ _) lL
    have e1 : (upd σ 7 (nI n)) (183 + q) = σ (183 + q) := off (by omega)
    unfold orF
    rw [e1, qL]
    exact iO q hq
  · obtain ⟨⟨n1, b1, b2⟩, ⟨n2, b3, b4⟩, b5⟩ := iB
    refine ⟨⟨n1, by rw [off (by omega)]; exact b1, b2⟩, ⟨n, upd_at, hn⟩, fun j hj => ?_⟩
    rw [off (by omega)]
    exact b5 j hj
  · intro u hu
    exact TxOk_same (fun j hj => off (by omega)) (hT u hu)

set_option maxHeartbeats 1000000 in
theorem l_mends1 {Γ : Cx} {m sz : Nat} {M0 M : Nat → Option va_E} {σ κ : Rw} {ri : Nat → Int32} {ra : Nat → Nat → Int32} {Q : Option Value → Wd → Prop} (hR : RefX Γ m M0 σ κ ri ra M) {T xn : Int32} (hI : Inv σ) (kk : Ok Γ mX12_mends 2 0 110 [some (.ref m), some (.int T), some (.int xn), some (.int (fcA σ T (cA σ) 0)), some (.int (-1)), none, none, none] [] (M, sz) Q) : ∀ (n : Nat) (x3 : Int32) (x4 : Int32), n ≤ cA σ → x4 = nI n - 1 → x3 = fcA σ T (cA σ - n) n → Ok Γ mX12_mends 2 0 26 [some (.ref m), some (.int T), some (.int xn), some (.int x3), some (.int x4), none, none, none] [] (M, sz) Q := by
  obtain ⟨⟨⟨eH, lH⟩, ⟨eK, lK⟩, ⟨eL, lL⟩, ⟨eA, lA⟩, ⟨eT, lT⟩⟩, iK, iH, iW, iL, iO, iB, hT⟩ := id hI
  have lAL : cA σ ≤ cL σ := by rw [lA]; exact arN_le σ _
  intro n
  induction n with
  | zero =>
    intro x3 x4 h1 e4 e3
    refine ok_iload (pc := 26) dX12_mends_26 rfl ?_
    refine ok_if_lt (pc := 28) 110 dX12_mends_28 (by decide) (fun cc_28 => ?_) (fun cc_28 => ?_)
    · have e9 : x4 = -1 := by rw [e4]; rfl
      subst e9
      subst e3
      exact kk
    · exact absurd (by rw [e4]; decide) cc_28
  | succ n ih =>
    intro x3 x4 h1 e4 e3
    refine ok_iload (pc := 26) dX12_mends_26 rfl ?_
    refine ok_if_lt (pc := 28) 110 dX12_mends_28 (by decide) (fun cc_28 => ?_) (fun cc_28 => ?_)
    · exact absurd cc_28 (by rw [e4, nI_pred]; exact nI_pos (by omega))
    · have ce_28 := Int32.not_lt.mp cc_28
      refine ok_aload_n (pc := 31) dX12_mends_31 rfl ?_
      refine ok_getf (pc := 32) dX12_mends_32 fl_X12_9 hR.o rfl ?_
      refine ok_sipush (pc := 35) (v := 183) dX12_mends_35 (by decide) ?_
      refine ok_iload (pc := 38) dX12_mends_38 rfl ?_
      refine ok_iadd (pc := 40) dX12_mends_40 ?_
      refine ok_iald (pc := 41) (183 + n) dX12_mends_41 hR.a0 (by rw [e4, nI_pred, fa_lit 183, nI_add]) (by omega) (by decide) ?_
      obtain ⟨eor, lor⟩ := iO n (by omega)
      rw [eor]
      refine ok_istore5 (pc := 42) dX12_mends_42 (by decide) rfl ?_
      refine ok_aload_n (pc := 44) dX12_mends_44 rfl ?_
      refine ok_iload (pc := 45) dX12_mends_45 rfl ?_
      refine ok_iconst (pc := 47) (v := 3) dX12_mends_47 (by decide) ?_
      refine ok_callVi2 (pc := 48) (d' := 0) dX12_mends_48 vl_X12_97 hR.o rfl rfl rfl (by decide) ?_
      refine r_letterIs hR (orF σ n) rfl 3 rfl (by omega) (by decide) ?_
      refine ok_istore6 (pc := 51) dX12_mends_51 (by decide) rfl ?_
      refine ok_iload (pc := 53) dX12_mends_53 rfl ?_
      refine ok_if_lt (pc := 55) 76 dX12_mends_55 (by decide) (fun cc_55 => ?_) (fun cc_55 => ?_)
      · have ce_55 := Int32.not_le.mpr cc_55
        refine ok_iconst (pc := 76) (v := 1) dX12_mends_76 (by decide) ?_
        refine ok_goto (pc := 77) 81 dX12_mends_77 (by decide) ?_
        refine ok_istore7 (pc := 81) dX12_mends_81 (by decide) rfl ?_
        refine ok_iload_n (pc := 83) dX12_mends_83 rfl ?_
        refine ok_iload (pc := 84) dX12_mends_84 rfl ?_
        refine ok_callSi2 (pc := 86) (d' := 0) dX12_mends_86 sl_X12_246 rfl (by decide) ?_
        refine r_hasBit ?_
        refine ok_if_ne (pc := 89) 102 dX12_mends_89 (by decide) (fun cc_89 => ?_) (fun cc_89 => ?_)
        · have cq_89 := bI_n0.mp cc_89
          refine ok_iload_n (pc := 102) dX12_mends_102 rfl ?_
          refine ok_istore_n3 (pc := 103) dX12_mends_103 (by decide) rfl ?_
          refine ok_iinc4 (pc := 104) (v := -1) dX12_mends_104 (by decide) (by decide) rfl ?_
          refine ok_goto (pc := 107) 26 dX12_mends_107 (by decide) ?_
          have enx : fcA σ T (cA σ - n) n = if mayF σ T (orF σ n) then nI (orF σ n) else fcA σ T (cA σ - (n + 1)) (n + 1) := by
            rw [show cA σ - n = (cA σ - (n + 1)) + 1 by omega]
            rfl
          first
            | exact absurd cc_94 (by decide)
            | (refine ok_drop5 ?_
               refine ok_drop6 ?_
               refine ok_drop7 ?_
               exact ih _ _ (by omega) (by rw [e4, nI_pred, show (-1 : Int32) = -(nI 1) from rfl, ← Int32.sub_eq_add_neg]; rfl) (by rw [enx]; simp [mayF, tbI, e3, cc_28, ce_28, cc_55, ce_55, cq_89]))
        · have cq_89 := bI_0.mp cc_89
          refine ok_iload (pc := 92) dX12_mends_92 rfl ?_
          refine ok_if_eq (pc := 94) 102 dX12_mends_94 (by decide) (fun cc_94 => ?_) (fun cc_94 => ?_)
          · refine ok_iload_n (pc := 102) dX12_mends_102 rfl ?_
            refine ok_istore_n3 (pc := 103) dX12_mends_103 (by decide) rfl ?_
            refine ok_iinc4 (pc := 104) (v := -1) dX12_mends_104 (by decide) (by decide) rfl ?_
            refine ok_goto (pc := 107) 26 dX12_mends_107 (by decide) ?_
            have enx : fcA σ T (cA σ - n) n = if mayF σ T (orF σ n) then nI (orF σ n) else fcA σ T (cA σ - (n + 1)) (n + 1) := by
              rw [show cA σ - n = (cA σ - (n + 1)) + 1 by omega]
              rfl
            first
              | exact absurd cc_94 (by decide)
              | (refine ok_drop5 ?_
                 refine ok_drop6 ?_
                 refine ok_drop7 ?_
                 exact ih _ _ (by omega) (by rw [e4, nI_pred, show (-1 : Int32) = -(nI 1) from rfl, ← Int32.sub_eq_add_neg]; rfl) (by rw [enx]; simp [mayF, tbI, e3, cc_28, ce_28, cc_55, ce_55, cq_89, cc_94]))
          · refine ok_iload (pc := 97) dX12_mends_97 rfl ?_
            refine ok_goto (pc := 99) 103 dX12_mends_99 (by decide) ?_
            refine ok_istore_n3 (pc := 103) dX12_mends_103 (by decide) rfl ?_
            refine ok_iinc4 (pc := 104) (v := -1) dX12_mends_104 (by decide) (by decide) rfl ?_
            refine ok_goto (pc := 107) 26 dX12_mends_107 (by decide) ?_
            have enx : fcA σ T (cA σ - n) n = if mayF σ T (orF σ n) then nI (orF σ n) else fcA σ T (cA σ - (n + 1)) (n + 1) := by
              rw [show cA σ - n = (cA σ - (n + 1)) + 1 by omega]
              rfl
            first
              | exact absurd cc_94 (by decide)
              | (refine ok_drop5 ?_
                 refine ok_drop6 ?_
                 refine ok_drop7 ?_
                 exact ih _ _ (by omega) (by rw [e4, nI_pred, show (-1 : Int32) = -(nI 1) from rfl, ← Int32.sub_eq_add_neg]; rfl) (by rw [enx]; simp [mayF, tbI, e3, cc_28, ce_28, cc_55, ce_55, cq_89, cc_94]))
      · have ce_55 := Int32.not_lt.mp cc_55
        refine ok_aload_n (pc := 58) dX12_mends_58 rfl ?_
        refine ok_iload (pc := 59) dX12_mends_59 rfl ?_
        refine ok_callVi1 (pc := 61) (d' := 1) dX12_mends_61 vl_X12_311 hR.o rfl rfl rfl (by decide) ?_
        obtain ⟨ean, lan⟩ := InvL.an iL lor ce_55
        refine r_hasArrived hR (anF σ (orF σ n)) ean (by omega) ?_
        refine ok_if_eq (pc := 64) 76 dX12_mends_64 (by decide) (fun cc_64 => ?_) (fun cc_64 => ?_)
        · have cq_64 := bI_0.mp cc_64
          refine ok_iconst (pc := 76) (v := 1) dX12_mends_76 (by decide) ?_
          refine ok_goto (pc := 77) 81 dX12_mends_77 (by decide) ?_
          refine ok_istore7 (pc := 81) dX12_mends_81 (by decide) rfl ?_
          refine ok_iload_n (pc := 83) dX12_mends_83 rfl ?_
          refine ok_iload (pc := 84) dX12_mends_84 rfl ?_
          refine ok_callSi2 (pc := 86) (d' := 0) dX12_mends_86 sl_X12_246 rfl (by decide) ?_
          refine r_hasBit ?_
          refine ok_if_ne (pc := 89) 102 dX12_mends_89 (by decide) (fun cc_89 => ?_) (fun cc_89 => ?_)
          · have cq_89 := bI_n0.mp cc_89
            refine ok_iload_n (pc := 102) dX12_mends_102 rfl ?_
            refine ok_istore_n3 (pc := 103) dX12_mends_103 (by decide) rfl ?_
            refine ok_iinc4 (pc := 104) (v := -1) dX12_mends_104 (by decide) (by decide) rfl ?_
            refine ok_goto (pc := 107) 26 dX12_mends_107 (by decide) ?_
            have enx : fcA σ T (cA σ - n) n = if mayF σ T (orF σ n) then nI (orF σ n) else fcA σ T (cA σ - (n + 1)) (n + 1) := by
              rw [show cA σ - n = (cA σ - (n + 1)) + 1 by omega]
              rfl
            first
              | exact absurd cc_94 (by decide)
              | (refine ok_drop5 ?_
                 refine ok_drop6 ?_
                 refine ok_drop7 ?_
                 exact ih _ _ (by omega) (by rw [e4, nI_pred, show (-1 : Int32) = -(nI 1) from rfl, ← Int32.sub_eq_add_neg]; rfl) (by rw [enx]; simp [mayF, tbI, e3, cc_28, ce_28, cc_55, ce_55, cq_64, cq_89]))
          · have cq_89 := bI_0.mp cc_89
            refine ok_iload (pc := 92) dX12_mends_92 rfl ?_
            refine ok_if_eq (pc := 94) 102 dX12_mends_94 (by decide) (fun cc_94 => ?_) (fun cc_94 => ?_)
            · refine ok_iload_n (pc := 102) dX12_mends_102 rfl ?_
              refine ok_istore_n3 (pc := 103) dX12_mends_103 (by decide) rfl ?_
              refine ok_iinc4 (pc := 104) (v := -1) dX12_mends_104 (by decide) (by decide) rfl ?_
              refine ok_goto (pc := 107) 26 dX12_mends_107 (by decide) ?_
              have enx : fcA σ T (cA σ - n) n = if mayF σ T (orF σ n) then nI (orF σ n) else fcA σ T (cA σ - (n + 1)) (n + 1) := by
                rw [show cA σ - n = (cA σ - (n + 1)) + 1 by omega]
                rfl
              first
                | exact absurd cc_94 (by decide)
                | (refine ok_drop5 ?_
                   refine ok_drop6 ?_
                   refine ok_drop7 ?_
                   exact ih _ _ (by omega) (by rw [e4, nI_pred, show (-1 : Int32) = -(nI 1) from rfl, ← Int32.sub_eq_add_neg]; rfl) (by rw [enx]; simp [mayF, tbI, e3, cc_28, ce_28, cc_55, ce_55, cq_64, cq_89, cc_94]))
            · refine ok_iload (pc := 97) dX12_mends_97 rfl ?_
              refine ok_goto (pc := 99) 103 dX12_mends_99 (by decide) ?_
              refine ok_istore_n3 (pc := 103) dX12_mends_103 (by decide) rfl ?_
              refine ok_iinc4 (pc := 104) (v := -1) dX12_mends_104 (by decide) (by decide) rfl ?_
              refine ok_goto (pc := 107) 26 dX12_mends_107 (by decide) ?_
              have enx : fcA σ T (cA σ - n) n = if mayF σ T (orF σ n) then nI (orF σ n) else fcA σ T (cA σ - (n + 1)) (n + 1) := by
                rw [show cA σ - n = (cA σ - (n + 1)) + 1 by omega]
                rfl
              first
                | exact absurd cc_94 (by decide)
                | (refine ok_drop5 ?_
                   refine ok_drop6 ?_
                   refine ok_drop7 ?_
                   exact ih _ _ (by omega) (by rw [e4, nI_pred, show (-1 : Int32) = -(nI 1) from rfl, ← Int32.sub_eq_add_neg]; rfl) (by rw [enx]; simp [mayF, tbI, e3, cc_28, ce_28, cc_55, ce_55, cq_64, cq_89, cc_94]))
        · have cq_64 := bI_n0.mp cc_64
          refine ok_iload_n (pc := 67) dX12_mends_67 rfl ?_
          refine ok_iload (pc := 68) dX12_mends_68 rfl ?_
          refine ok_callSi2 (pc := 70) (d' := 0) dX12_mends_70 sl_X12_246 rfl (by decide) ?_
          refine r_hasBit ?_
          rw [ean]
          refine ok_if_eq (pc := 73) 80 dX12_mends_73 (by decide) (fun cc_73 => ?_) (fun cc_73 => ?_)
          · have cq_73 := bI_0.mp cc_73
            refine ok_iconst (pc := 80) (v := 0) dX12_mends_80 (by decide) ?_
            refine ok_istore7 (pc := 81) dX12_mends_81 (by decide) rfl ?_
            refine ok_iload_n (pc := 83) dX12_mends_83 rfl ?_
            refine ok_iload (pc := 84) dX12_mends_84 rfl ?_
            refine ok_callSi2 (pc := 86) (d' := 0) dX12_mends_86 sl_X12_246 rfl (by decide) ?_
            refine r_hasBit ?_
            refine ok_if_ne (pc := 89) 102 dX12_mends_89 (by decide) (fun cc_89 => ?_) (fun cc_89 => ?_)
            · have cq_89 := bI_n0.mp cc_89
              refine ok_iload_n (pc := 102) dX12_mends_102 rfl ?_
              refine ok_istore_n3 (pc := 103) dX12_mends_103 (by decide) rfl ?_
              refine ok_iinc4 (pc := 104) (v := -1) dX12_mends_104 (by decide) (by decide) rfl ?_
              refine ok_goto (pc := 107) 26 dX12_mends_107 (by decide) ?_
              have enx : fcA σ T (cA σ - n) n = if mayF σ T (orF σ n) then nI (orF σ n) else fcA σ T (cA σ - (n + 1)) (n + 1) := by
                rw [show cA σ - n = (cA σ - (n + 1)) + 1 by omega]
                rfl
              first
                | exact absurd cc_94 (by decide)
                | (refine ok_drop5 ?_
                   refine ok_drop6 ?_
                   refine ok_drop7 ?_
                   exact ih _ _ (by omega) (by rw [e4, nI_pred, show (-1 : Int32) = -(nI 1) from rfl, ← Int32.sub_eq_add_neg]; rfl) (by rw [enx]; simp [mayF, tbI, e3, cc_28, ce_28, cc_55, ce_55, cq_64, cq_73, cq_89]))
            · have cq_89 := bI_0.mp cc_89
              refine ok_iload (pc := 92) dX12_mends_92 rfl ?_
              refine ok_if_eq (pc := 94) 102 dX12_mends_94 (by decide) (fun cc_94 => ?_) (fun cc_94 => ?_)
              · refine ok_iload_n (pc := 102) dX12_mends_102 rfl ?_
                refine ok_istore_n3 (pc := 103) dX12_mends_103 (by decide) rfl ?_
                refine ok_iinc4 (pc := 104) (v := -1) dX12_mends_104 (by decide) (by decide) rfl ?_
                refine ok_goto (pc := 107) 26 dX12_mends_107 (by decide) ?_
                have enx : fcA σ T (cA σ - n) n = if mayF σ T (orF σ n) then nI (orF σ n) else fcA σ T (cA σ - (n + 1)) (n + 1) := by
                  rw [show cA σ - n = (cA σ - (n + 1)) + 1 by omega]
                  rfl
                first
                  | exact absurd cc_94 (by decide)
                  | (refine ok_drop5 ?_
                     refine ok_drop6 ?_
                     refine ok_drop7 ?_
                     exact ih _ _ (by omega) (by rw [e4, nI_pred, show (-1 : Int32) = -(nI 1) from rfl, ← Int32.sub_eq_add_neg]; rfl) (by rw [enx]; simp [mayF, tbI, e3, cc_28, ce_28, cc_55, ce_55, cq_64, cq_73, cq_89, cc_94]))
              · refine ok_iload (pc := 97) dX12_mends_97 rfl ?_
                refine ok_goto (pc := 99) 103 dX12_mends_99 (by decide) ?_
                refine ok_istore_n3 (pc := 103) dX12_mends_103 (by decide) rfl ?_
                refine ok_iinc4 (pc := 104) (v := -1) dX12_mends_104 (by decide) (by decide) rfl ?_
                refine ok_goto (pc := 107) 26 dX12_mends_107 (by decide) ?_
                have enx : fcA σ T (cA σ - n) n = if mayF σ T (orF σ n) then nI (orF σ n) else fcA σ T (cA σ - (n + 1)) (n + 1) := by
                  rw [show cA σ - n = (cA σ - (n + 1)) + 1 by omega]
                  rfl
                first
                  | exact absurd cc_94 (by decide)
                  | (refine ok_drop5 ?_
                     refine ok_drop6 ?_
                     refine ok_drop7 ?_
                     exact ih _ _ (by omega) (by rw [e4, nI_pred, show (-1 : Int32) = -(nI 1) from rfl, ← Int32.sub_eq_add_neg]; rfl) (by rw [enx]; simp [mayF, tbI, e3, cc_28, ce_28, cc_55, ce_55, cq_64, cq_73, cq_89, cc_94]))
          · have cq_73 := bI_n0.mp cc_73
            refine ok_iconst (pc := 76) (v := 1) dX12_mends_76 (by decide) ?_
            refine ok_goto (pc := 77) 81 dX12_mends_77 (by decide) ?_
            refine ok_istore7 (pc := 81) dX12_mends_81 (by decide) rfl ?_
            refine ok_iload_n (pc := 83) dX12_mends_83 rfl ?_
            refine ok_iload (pc := 84) dX12_mends_84 rfl ?_
            refine ok_callSi2 (pc := 86) (d' := 0) dX12_mends_86 sl_X12_246 rfl (by decide) ?_
            refine r_hasBit ?_
            refine ok_if_ne (pc := 89) 102 dX12_mends_89 (by decide) (fun cc_89 => ?_) (fun cc_89 => ?_)
            · have cq_89 := bI_n0.mp cc_89
              refine ok_iload_n (pc := 102) dX12_mends_102 rfl ?_
              refine ok_istore_n3 (pc := 103) dX12_mends_103 (by decide) rfl ?_
              refine ok_iinc4 (pc := 104) (v := -1) dX12_mends_104 (by decide) (by decide) rfl ?_
              refine ok_goto (pc := 107) 26 dX12_mends_107 (by decide) ?_
              have enx : fcA σ T (cA σ - n) n = if mayF σ T (orF σ n) then nI (orF σ n) else fcA σ T (cA σ - (n + 1)) (n + 1) := by
                rw [show cA σ - n = (cA σ - (n + 1)) + 1 by omega]
                rfl
              first
                | exact absurd cc_94 (by decide)
                | (refine ok_drop5 ?_
                   refine ok_drop6 ?_
                   refine ok_drop7 ?_
                   exact ih _ _ (by omega) (by rw [e4, nI_pred, show (-1 : Int32) = -(nI 1) from rfl, ← Int32.sub_eq_add_neg]; rfl) (by rw [enx]; simp [mayF, tbI, e3, cc_28, ce_28, cc_55, ce_55, cq_64, cq_73, cq_89]))
            · have cq_89 := bI_0.mp cc_89
              refine ok_iload (pc := 92) dX12_mends_92 rfl ?_
              refine ok_if_eq (pc := 94) 102 dX12_mends_94 (by decide) (fun cc_94 => ?_) (fun cc_94 => ?_)
              · refine ok_iload_n (pc := 102) dX12_mends_102 rfl ?_
                refine ok_istore_n3 (pc := 103) dX12_mends_103 (by decide) rfl ?_
                refine ok_iinc4 (pc := 104) (v := -1) dX12_mends_104 (by decide) (by decide) rfl ?_
                refine ok_goto (pc := 107) 26 dX12_mends_107 (by decide) ?_
                have enx : fcA σ T (cA σ - n) n = if mayF σ T (orF σ n) then nI (orF σ n) else fcA σ T (cA σ - (n + 1)) (n + 1) := by
                  rw [show cA σ - n = (cA σ - (n + 1)) + 1 by omega]
                  rfl
                first
                  | exact absurd cc_94 (by decide)
                  | (refine ok_drop5 ?_
                     refine ok_drop6 ?_
                     refine ok_drop7 ?_
                     exact ih _ _ (by omega) (by rw [e4, nI_pred, show (-1 : Int32) = -(nI 1) from rfl, ← Int32.sub_eq_add_neg]; rfl) (by rw [enx]; simp [mayF, tbI, e3, cc_28, ce_28, cc_55, ce_55, cq_64, cq_73, cq_89, cc_94]))
              · refine ok_iload (pc := 97) dX12_mends_97 rfl ?_
                refine ok_goto (pc := 99) 103 dX12_mends_99 (by decide) ?_
                refine ok_istore_n3 (pc := 103) dX12_mends_103 (by decide) rfl ?_
                refine ok_iinc4 (pc := 104) (v := -1) dX12_mends_104 (by decide) (by decide) rfl ?_
                refine ok_goto (pc := 107) 26 dX12_mends_107 (by decide) ?_
                have enx : fcA σ T (cA σ - n) n = if mayF σ T (orF σ n) then nI (orF σ n) else fcA σ T (cA σ - (n + 1)) (n + 1) := by
                  rw [show cA σ - n = (cA σ - (n + 1)) + 1 by omega]
                  rfl
                first
                  | exact absurd cc_94 (by decide)
                  | (refine ok_drop5 ?_
                     refine ok_drop6 ?_
                     refine ok_drop7 ?_
                     exact ih _ _ (by omega) (by rw [e4, nI_pred, show (-1 : Int32) = -(nI 1) from rfl, ← Int32.sub_eq_add_neg]; rfl) (by rw [enx]; simp [mayF, tbI, e3, cc_28, ce_28, cc_55, ce_55, cq_64, cq_73, cq_89, cc_94]))

set_option maxHeartbeats 1000000 in
theorem l_mends {Γ : Cx} {m sz : Nat} {M0 : Nat → Option va_E} {σ κ : Rw} {ri : Nat → Int32} {K : Wd → Prop} {ra0 : Nat → Rw} (hI : Inv σ) (k : ∀ M' ra', RefX Γ m M0 σ κ ri ra' M' → (∀ s, s ≠ 17 → ra' s = ra0 s) → (∀ j, j < cA σ → ra' 17 j = mdN σ j) → K (M', sz)) : ∀ (n : Nat) (i : Nat) (x1 : Int32) (xi : Int32) (M : Nat → Option va_E) (ra : Nat → Rw), i + n = cA σ → xi = nI i → x1 = mdT σ i → RefX Γ m M0 σ κ ri ra M → (∀ s, s ≠ 17 → ra s = ra0 s) → (∀ j, j < i → ra 17 j = mdN σ j) → Ok Γ mX12_mends 2 0 4 [some (.ref m), some (.int x1), some (.int xi), none, none, none, none, none] [] (M, sz) (cv K) := by
  obtain ⟨⟨⟨eH, lH⟩, ⟨eK, lK⟩, ⟨eL, lL⟩, ⟨eA, lA⟩, ⟨eT, lT⟩⟩, iK, iH, iW, iL, iO, iB, hT⟩ := id hI
  have lAL : cA σ ≤ cL σ := by rw [lA]; exact arN_le σ _
  intro n
  induction n with
  | zero =>
    intro i x1 xi M ra h1 ei e1 hR hs h17
    refine ok_iload_n (pc := 4) dX12_mends_4 rfl ?_
    refine ok_aload_n (pc := 5) dX12_mends_5 rfl ?_
    refine ok_getf (pc := 6) dX12_mends_6 fl_X12_9 hR.o rfl ?_
    refine ok_iconst (pc := 9) (v := 4) dX12_mends_9 (by decide) ?_
    refine ok_iald (pc := 10) (4) dX12_mends_10 hR.a0 rfl (by decide) (by decide) ?_
    refine ok_icmp_ge (pc := 11) 129 dX12_mends_11 (by decide) (fun cc_11 => ?_) (fun cc_11 => ?_)
    · have ce_11 := Int32.not_lt.mpr cc_11
      have en : i = cA σ := by omega
      subst en
      refine ok_vret (pc := 129) dX12_mends_129 rfl ?_
      exact k _ _ hR hs h17
    · exact absurd (by rw [eA, ei]; exact nI_le (by omega) (by omega)) cc_11
  | succ n ih =>
    intro i x1 xi M ra h1 ei e1 hR hs h17
    refine ok_iload_n (pc := 4) dX12_mends_4 rfl ?_
    refine ok_aload_n (pc := 5) dX12_mends_5 rfl ?_
    refine ok_getf (pc := 6) dX12_mends_6 fl_X12_9 hR.o rfl ?_
    refine ok_iconst (pc := 9) (v := 4) dX12_mends_9 (by decide) ?_
    refine ok_iald (pc := 10) (4) dX12_mends_10 hR.a0 rfl (by decide) (by decide) ?_
    refine ok_icmp_ge (pc := 11) 129 dX12_mends_11 (by decide) (fun cc_11 => ?_) (fun cc_11 => ?_)
    · exact absurd (by rw [eA, ei] at cc_11; exact cc_11) (nI_ge (by omega) (by omega))
    · have ce_11 := Int32.not_le.mp cc_11
      refine ok_iconst (pc := 14) (v := -1) dX12_mends_14 (by decide) ?_
      refine ok_istore_n3 (pc := 15) dX12_mends_15 (by decide) rfl ?_
      refine ok_aload_n (pc := 16) dX12_mends_16 rfl ?_
      refine ok_getf (pc := 17) dX12_mends_17 fl_X12_9 hR.o rfl ?_
      refine ok_iconst (pc := 20) (v := 4) dX12_mends_20 (by decide) ?_
      refine ok_iald (pc := 21) (4) dX12_mends_21 hR.a0 rfl (by decide) (by decide) ?_
      refine ok_iconst (pc := 22) (v := 1) dX12_mends_22 (by decide) ?_
      refine ok_isub (pc := 23) dX12_mends_23 ?_
      refine ok_istore4 (pc := 24) dX12_mends_24 (by decide) rfl ?_
      refine l_mends1 hR hI ?_ (cA σ) _ _ (Nat.le_refl _) (by rw [eA]) (by rw [Nat.sub_self]; rfl)
      refine ok_aload_n (pc := 110) dX12_mends_110 rfl ?_
      refine ok_getf (pc := 111) dX12_mends_111 fl_X12_47 hR.o rfl ?_
      refine ok_iload_n (pc := 114) dX12_mends_114 rfl ?_
      refine ok_iload_n (pc := 115) dX12_mends_115 rfl ?_
      refine ok_rst17 (pc := 116) (i) dX12_mends_116 hR ei (by omega) (fun M hR => ?_)
      refine ok_iload_n (pc := 117) dX12_mends_117 rfl ?_
      refine ok_iconst (pc := 118) (v := 1) dX12_mends_118 (by decide) ?_
      refine ok_iload_n (pc := 119) dX12_mends_119 rfl ?_
      refine ok_ishl (pc := 120) dX12_mends_120 ?_
      refine ok_ior (pc := 121) dX12_mends_121 ?_
      refine ok_istore_n1 (pc := 122) dX12_mends_122 (by decide) rfl ?_
      refine ok_iinc2 (pc := 123) (v := 1) dX12_mends_123 (by decide) (by decide) rfl ?_
      refine ok_goto (pc := 126) 4 dX12_mends_126 (by decide) ?_
      refine ok_drop3 ?_
      refine ok_drop4 ?_
      exact ih (i + 1) _ _ _ _ (by omega) (by rw [ei, nI_1]) (by rw [e1]; rfl) hR (fun s hs9 => by rw [vup_ne hs9]; exact hs s hs9) (fun j hj => by
        rw [vup_eq]
        by_cases h9 : j = i
        · subst h9; rw [upd_at, e1]; rfl
        · rw [upd_ne h9]; exact h17 j (by omega))

set_option maxHeartbeats 1000000 in
theorem r_mends {Γ : Cx} {m sz : Nat} {M0 M : Nat → Option va_E} {σ κ : Rw} {ri : Nat → Int32} {ra : Nat → Nat → Int32} {K : Wd → Prop} (hR : RefX Γ m M0 σ κ ri ra M) (hI : Inv σ) (k : ∀ M' ra', RefX Γ m M0 σ κ ri ra' M' → (∀ s, s ≠ 17 → ra' s = ra s) → (∀ j, j < cA σ → ra' 17 j = mdN σ j) → K (M', sz)) : Spec Γ mX12_mends 2 0 [.ref m] (M, sz) (cv K) := by
  refine spec_in [some (.ref m), none, none, none, none, none, none, none] 7 (by decide) rfl rfl ?_
  refine ok_iconst (pc := 0) (v := 0) dX12_mends_0 (by decide) ?_
  refine ok_istore_n1 (pc := 1) dX12_mends_1 (by decide) rfl ?_
  refine ok_iconst (pc := 2) (v := 0) dX12_mends_2 (by decide) ?_
  refine ok_istore_n2 (pc := 3) dX12_mends_3 (by decide) rfl ?_
  exact l_mends (ra0 := ra) hI k (cA σ) 0 0 0 _ _ (by omega) rfl rfl hR (fun _ _ => rfl) (fun j hj => absurd hj (Nat.not_lt_zero _))

set_option maxHeartbeats 1000000 in
theorem r_order {Γ : Cx} {m sz : Nat} {M0 M : Nat → Option va_E} {σ κ vi : Rw} {va : Nat → Rw} {K : Int32 → Wd → Prop} (hW : RefW Γ m M0 σ κ vi va M) (hI : Inv σ) {x y : Int32} (k : ∀ M', RefW Γ m M0 σ κ vi (eU va (op_order σ x y).1) M' → K (op_order σ x y).2 (M', sz)) : Spec Γ mX12_order 3 0 [.ref m, .int x, .int y] (M, sz) (ci K) := by
  obtain ⟨ri, ra, hR, hv, hw⟩ := hW
  obtain ⟨⟨⟨eH, lH⟩, ⟨eK, lK⟩, ⟨eL, lL⟩, ⟨eA, lA⟩, ⟨eT, lT⟩⟩, iK, iH, iW, iL, iO, iB, hT⟩ := id hI
  
  refine spec_in [some (.ref m), some (.int x), some (.int y)] 0 (by decide) rfl rfl ?_
  refine ok_iload_n (pc := 0) dX12_order_0 rfl ?_
  refine ok_iconst (pc := 1) (v := 0) dX12_order_1 (by decide) ?_
  refine ok_iconst (pc := 2) (v := 1) dX12_order_2 (by decide) ?_
  refine ok_callSi3 (pc := 3) (d' := 0) dX12_order_3 sl_X12_75 rfl (by decide) ?_
  refine r_within ?_
  refine ok_if_eq (pc := 6) 13 dX12_order_6 (by decide) (fun cc_6 => ?_) (fun cc_6 => ?_)
  · have cq_6 := bI_0.mp cc_6
    refine ok_aload_n (pc := 13) dX12_order_13 rfl ?_
    refine ok_ldc (pc := 14) (v := -1000000001) dX12_order_14 tw_1205 ?_
    refine ok_callVi1 (pc := 16) (d' := 0) dX12_order_16 vl_X12_84 hR.o rfl rfl rfl (by decide) ?_
    refine r_finding hR 1 (by decide) (by decide) (fun M hR => ?_)
    refine ok_iret (pc := 19) dX12_order_19 rfl ?_
    have eo : op_order σ x y = (1, -1000000001) := by first | (simp [op_order, cq_6]; done) | (simp [op_order, cq_6, cc_10]; done)
    rw [eo] at k
    exact k _ (RefW.err 1 (by decide) hR hv hw)
  · have cq_6 := bI_n0.mp cc_6
    refine ok_iload_n (pc := 9) dX12_order_9 rfl ?_
    refine ok_if_ge (pc := 10) 20 dX12_order_10 (by decide) (fun cc_10 => ?_) (fun cc_10 => ?_)
    · have ce_10 := Int32.not_lt.mpr cc_10
      refine ok_iload_n (pc := 20) dX12_order_20 rfl ?_
      refine ok_aload_n (pc := 21) dX12_order_21 rfl ?_
      refine ok_getf (pc := 22) dX12_order_22 fl_X12_9 hR.o rfl ?_
      refine ok_iconst (pc := 25) (v := 4) dX12_order_25 (by decide) ?_
      refine ok_iald (pc := 26) (4) dX12_order_26 hR.a0 rfl (by decide) (by decide) ?_
      refine ok_icmp_lt (pc := 27) 38 dX12_order_27 (by decide) (fun cc_27 => ?_) (fun cc_27 => ?_)
      · have ce_27 := Int32.not_le.mpr cc_27
        refine ok_aload_n (pc := 38) dX12_order_38 rfl ?_
        refine ok_callVv0 (pc := 39) (d' := 2) dX12_order_39 vl_X12_314 hR.o rfl rfl rfl (by decide) ?_
        have lAL : cA σ ≤ cL σ := by rw [lA]; exact arN_le σ _
        have hy : y = nI (iN y) ∧ iN y < cA σ := by
          have h0 : ¬ y < 0 := Int32.not_lt.mpr cc_10
          obtain ⟨q, hq, eq⟩ := nI_of h0
          have e9 : iN y = q := by rw [eq]; exact nI_clamp hq
          have c9 := cc_27
          rw [eq, eA] at c9
          rw [e9]
          exact ⟨eq, (nI_ltI hq (by omega)).mp c9⟩
        refine r_mends hR hI (fun M rb hR hs9 h17 => ?_)
        refine ok_iload_n (pc := 42) dX12_order_42 rfl ?_
        refine ok_if_ne (pc := 43) 59 dX12_order_43 (by decide) (fun cc_43 => ?_) (fun cc_43 => ?_)
        · refine ok_aload_n (pc := 59) dX12_order_59 rfl ?_
          refine ok_getf (pc := 60) dX12_order_60 fl_X12_47 hR.o rfl ?_
          refine ok_iload_n (pc := 63) dX12_order_63 rfl ?_
          refine ok_iald (pc := 64) (iN y) dX12_order_64 hR.a17 hy.1 (by omega) (by decide) ?_
          refine ok_iret (pc := 65) dX12_order_65 rfl ?_
          have hcc : (wi x 0 1 && decide (0 ≤ y)) = true := by rw [cq_6, decide_eq_true cc_10]; rfl
          first
            | (have eo : op_order σ x y = (0, σ (183 + iN y)) := by unfold op_order; rw [if_pos hcc, if_pos cc_27, if_pos cc_43]
               rw [eo] at k
               exact k _ (RefW.okv hR ⟨hs9 4 (by decide), hs9 18 (by decide), hs9 21 (by decide), hs9 22 (by decide), hs9 23 (by decide)⟩ hv hw))
            | (have eo : op_order σ x y = (0, mdN σ (iN y)) := by unfold op_order; rw [if_pos hcc, if_pos cc_27, if_neg cc_43]
               rw [eo] at k
               rw [h17 _ hy.2]
               exact k _ (RefW.okv hR ⟨hs9 4 (by decide), hs9 18 (by decide), hs9 21 (by decide), hs9 22 (by decide), hs9 23 (by decide)⟩ hv hw))
        · refine ok_aload_n (pc := 46) dX12_order_46 rfl ?_
          refine ok_getf (pc := 47) dX12_order_47 fl_X12_9 hR.o rfl ?_
          refine ok_sipush (pc := 50) (v := 183) dX12_order_50 (by decide) ?_
          refine ok_iload_n (pc := 53) dX12_order_53 rfl ?_
          refine ok_iadd (pc := 54) dX12_order_54 ?_
          refine ok_iald (pc := 55) (183 + iN y) dX12_order_55 hR.a0 (by have e1 := hy.1; generalize iN y = p at *; subst e1; simp only [fa_lit, nI_add]) (by omega) (by decide) ?_
          refine ok_goto (pc := 56) 65 dX12_order_56 (by decide) ?_
          refine ok_iret (pc := 65) dX12_order_65 rfl ?_
          have hcc : (wi x 0 1 && decide (0 ≤ y)) = true := by rw [cq_6, decide_eq_true cc_10]; rfl
          first
            | (have eo : op_order σ x y = (0, σ (183 + iN y)) := by unfold op_order; rw [if_pos hcc, if_pos cc_27, if_pos cc_43]
               rw [eo] at k
               exact k _ (RefW.okv hR ⟨hs9 4 (by decide), hs9 18 (by decide), hs9 21 (by decide), hs9 22 (by decide), hs9 23 (by decide)⟩ hv hw))
            | (have eo : op_order σ x y = (0, mdN σ (iN y)) := by unfold op_order; rw [if_pos hcc, if_pos cc_27, if_neg cc_43]
               rw [eo] at k
               rw [h17 _ hy.2]
               exact k _ (RefW.okv hR ⟨hs9 4 (by decide), hs9 18 (by decide), hs9 21 (by decide), hs9 22 (by decide), hs9 23 (by decide)⟩ hv hw))
      · have ce_27 := Int32.not_lt.mp cc_27
        refine ok_aload_n (pc := 30) dX12_order_30 rfl ?_
        refine ok_ldcw (pc := 31) (v := -1000000002) dX12_order_31 tw_1536 ?_
        refine ok_callVi1 (pc := 34) (d' := 0) dX12_order_34 vl_X12_84 hR.o rfl rfl rfl (by decide) ?_
        refine r_finding hR 2 (by decide) (by decide) (fun M hR => ?_)
        refine ok_iret (pc := 37) dX12_order_37 rfl ?_
        have eo : op_order σ x y = (2, -1000000002) := by simp [op_order, cq_6, cc_10, cc_27]
        rw [eo] at k
        exact k _ (RefW.err 2 (by decide) hR hv hw)
    · have ce_10 := Int32.not_le.mp cc_10
      refine ok_aload_n (pc := 13) dX12_order_13 rfl ?_
      refine ok_ldc (pc := 14) (v := -1000000001) dX12_order_14 tw_1205 ?_
      refine ok_callVi1 (pc := 16) (d' := 0) dX12_order_16 vl_X12_84 hR.o rfl rfl rfl (by decide) ?_
      refine r_finding hR 1 (by decide) (by decide) (fun M hR => ?_)
      refine ok_iret (pc := 19) dX12_order_19 rfl ?_
      have eo : op_order σ x y = (1, -1000000001) := by first | (simp [op_order, cq_6]; done) | (simp [op_order, cq_6, cc_10]; done)
      rw [eo] at k
      exact k _ (RefW.err 1 (by decide) hR hv hw)

set_option maxHeartbeats 1000000 in
theorem l_freshOf {Γ : Cx} {m sz : Nat} {M0 : Nat → Option va_E} {σ κ : Rw} {K : Int32 → Wd → Prop} {ri0 : Rw} {ra0 : Nat → Rw} {x y z : Int32} (f t : Nat) (ef : x = nI f) (et : y = nI t) (hf : f < 9) (ht : t < 9) (hI : Inv σ) (hc9 : cT σ ≤ 10000) (hH : cH σ < 9) (hK : cK σ < 8) (k : ∀ M' ri' ra', RefX Γ m M0 σ κ ri' ra' M' → (∀ s, s ≠ 16 → ri' s = ri0 s) → Vs ra0 ra' → ((frS σ f t z 64).1 < 0 ∨ ri' 16 = (frS σ f t z 64).2) → K (frS σ f t z 64).1 (M', sz)) : ∀ (n : Nat) (i : Nat) (x4 : Int32) (x5 : Int32) (M : Nat → Option va_E) (ri : Rw) (ra : Nat → Rw), i + n = 64 → x5 = nI (xyN i) → x4 = (frS σ f t z i).1 → ((frS σ f t z i).1 < 0 ∨ ri 16 = (frS σ f t z i).2) → RefX Γ m M0 σ κ ri ra M → ra 2 = σ → (∀ s, s ≠ 16 → ri s = ri0 s) → Vs ra0 ra → Ok Γ mX12_freshOf 8 0 17 [some (.ref m), some (.int x), some (.int y), some (.int z), some (.int x4), some (.int x5), none, none] [] (M, sz) (ci K) := by
  obtain ⟨⟨⟨eH, lH⟩, ⟨eK, lK⟩, ⟨eL, lL⟩, ⟨eA, lA⟩, ⟨eT, lT⟩⟩, iK, iH, iW, iL, iO, iB, hT⟩ := id hI
  intro n
  induction n with
  | zero =>
    intro i x4 x5 M ri ra h1 e5 e4 hfs hR h2 hri hs0
    refine ok_iload (pc := 17) dX12_freshOf_17 rfl ?_
    refine ok_sipush (pc := 19) (v := 256) dX12_freshOf_19 (by decide) ?_
    refine ok_icmp_ge (pc := 22) 119 dX12_freshOf_22 (by decide) (fun cc_22 => ?_) (fun cc_22 => ?_)
    · have ce_22 := Int32.not_lt.mpr cc_22
      have e9 : i = 64 := by omega
      subst e9
      rw [e4]
      refine ok_iload (pc := 119) dX12_freshOf_119 rfl ?_
      refine ok_iret (pc := 121) dX12_freshOf_121 rfl ?_
      exact k _ _ _ hR hri hs0 hfs
    · exact absurd (by rw [e5, show i = 64 by omega]; decide) cc_22
  | succ n ih =>
    intro i x4 x5 M ri ra h1 e5 e4 hfs hR h2 hri hs0
    refine ok_iload (pc := 17) dX12_freshOf_17 rfl ?_
    refine ok_sipush (pc := 19) (v := 256) dX12_freshOf_19 (by decide) ?_
    refine ok_icmp_ge (pc := 22) 119 dX12_freshOf_22 (by decide) (fun cc_22 => ?_) (fun cc_22 => ?_)
    · rw [e5] at cc_22
      exact absurd cc_22 (nI_ge (b := 256) (xy_lt i (by omega)) (by decide))
    · have ce_22 := Int32.not_le.mp cc_22
      refine ok_aload_n (pc := 25) dX12_freshOf_25 rfl ?_
      refine ok_iload (pc := 26) dX12_freshOf_26 rfl ?_
      refine ok_callVi1 (pc := 28) (d' := 0) dX12_freshOf_28 vl_X12_88 hR.o rfl rfl rfl (by decide) ?_
      refine r_isTaken hR (cH σ) eH lH ?_
      refine ok_if_ne (pc := 31) 95 dX12_freshOf_31 (by decide) (fun cc_31 => ?_) (fun cc_31 => ?_)
      · have cq_31 := bI_n0.mp cc_31
        have enx : frS σ f t z (i + 1) = (frS σ f t z i) := if_pos (by rw [← e5]; exact cq_31)
        refine ok_iload (pc := 95) dX12_freshOf_95 rfl ?_
        refine ok_iload (pc := 97) dX12_freshOf_97 rfl ?_
        refine ok_bipush (pc := 99) (v := 16) dX12_freshOf_99 (by decide) ?_
        refine ok_irem (pc := 101) dX12_freshOf_101 (by decide) ?_
        refine ok_bipush (pc := 102) (v := 14) dX12_freshOf_102 (by decide) ?_
        refine ok_icmp_ne (pc := 104) 112 dX12_freshOf_104 (by decide) (fun cc_104 => ?_) (fun cc_104 => ?_)
        · have exy : x5 + 2 = nI (xyN (i + 1)) := by
            have h9 := xy_step i (by omega)
            have hlt := xy_lt i (by omega)
            rw [if_neg (fun h8 => cc_104 (by rw [e5]; exact (pk_rem (by omega) (by decide) (by decide)).trans (by rw [h8]; rfl)))] at h9
            rw [e5, fa_lit 2, nI_add, h9]
          refine ok_iconst (pc := 112) (v := 2) dX12_freshOf_112 (by decide) ?_
          refine ok_iadd (pc := 113) dX12_freshOf_113 ?_
          refine ok_istore5 (pc := 114) dX12_freshOf_114 (by decide) rfl ?_
          refine ok_goto (pc := 116) 17 dX12_freshOf_116 (by decide) ?_
          try refine ok_drop6 ?_
          try refine ok_drop7 ?_
          first
            | exact ih (i + 1) _ _ _ _ _ (by omega) exy (by rw [enx]; exact e4) (by rw [enx]; exact hfs) hR h2 hri hs0
            | exact ih (i + 1) _ _ _ _ _ (by omega) exy (by rw [enx]; exact e5) (by rw [enx]; exact Or.inr upd_at) hR h2 (fun s hs9 => by rw [upd_ne hs9]; exact hri s hs9) hs0
        · have exy : x5 + 18 = nI (xyN (i + 1)) := by
            have h9 := xy_step i (by omega)
            have hlt := xy_lt i (by omega)
            have hm : xyN i % 16 = 14 := by
              rw [e5] at cc_104
              have e9 : jrem (nI (xyN i)) 16 = nI (xyN i % 16) := pk_rem (by omega) (by decide) (by decide)
              rw [e9] at cc_104
              exact (nI_eq (a := xyN i % 16) (b := 14) (by omega) (by decide)).mp cc_104
            rw [if_pos hm] at h9
            rw [e5, fa_lit 18, nI_add, h9]
          refine ok_bipush (pc := 107) (v := 18) dX12_freshOf_107 (by decide) ?_
          refine ok_goto (pc := 109) 113 dX12_freshOf_109 (by decide) ?_
          refine ok_iadd (pc := 113) dX12_freshOf_113 ?_
          refine ok_istore5 (pc := 114) dX12_freshOf_114 (by decide) rfl ?_
          refine ok_goto (pc := 116) 17 dX12_freshOf_116 (by decide) ?_
          try refine ok_drop6 ?_
          try refine ok_drop7 ?_
          first
            | exact ih (i + 1) _ _ _ _ _ (by omega) exy (by rw [enx]; exact e4) (by rw [enx]; exact hfs) hR h2 hri hs0
            | exact ih (i + 1) _ _ _ _ _ (by omega) exy (by rw [enx]; exact e5) (by rw [enx]; exact Or.inr upd_at) hR h2 (fun s hs9 => by rw [upd_ne hs9]; exact hri s hs9) hs0
      · have cq_31 := bI_0.mp cc_31
        refine ok_aload_n (pc := 34) dX12_freshOf_34 rfl ?_
        refine ok_iconst (pc := 35) (v := 0) dX12_freshOf_35 (by decide) ?_
        refine ok_iconst (pc := 36) (v := 0) dX12_freshOf_36 (by decide) ?_
        refine ok_aload_n (pc := 37) dX12_freshOf_37 rfl ?_
        refine ok_iload (pc := 38) dX12_freshOf_38 rfl ?_
        refine ok_iconst (pc := 40) (v := 0) dX12_freshOf_40 (by decide) ?_
        refine ok_callVi2 (pc := 41) (d' := 0) dX12_freshOf_41 vl_X12_94 hR.o rfl rfl rfl (by decide) ?_
        have hxy := xy_lt i (by omega)
        have ctk : takF σ (nI (xyN i)) (cH σ) = false := by rw [← e5]; exact cq_31
        obtain ⟨hIW, hcW⟩ := frW_ok hI hxy hH hK ctk
        refine r_rises hR (cH σ) eH hH (fun M hR => ?_)
        refine ok_bipush (pc := 44) (v := 40) dX12_freshOf_44 (by decide) ?_
        refine ok_bipush (pc := 46) (v := 20) dX12_freshOf_46 (by decide) ?_
        refine ok_callVi5 (pc := 48) (d' := 0) dX12_freshOf_48 vl_X12_113 hR.o rfl rfl rfl (by decide) ?_
        refine r_flies hR (cK σ) ((cK_ris hH).2.2.2.trans eK) hK (fun M hR => ?_)
        rw [e5] at hR
        refine ok_istore6 (pc := 51) dX12_freshOf_51 (by decide) rfl ?_
        refine ok_aload_n (pc := 53) dX12_freshOf_53 rfl ?_
        refine ok_aload_n (pc := 54) dX12_freshOf_54 rfl ?_
        refine ok_iload_n (pc := 55) dX12_freshOf_55 rfl ?_
        refine ok_iload_n (pc := 56) dX12_freshOf_56 rfl ?_
        refine ok_iload_n (pc := 57) dX12_freshOf_57 rfl ?_
        refine ok_callVi3 (pc := 58) (d' := 7) dX12_freshOf_58 vl_X12_291 hR.o rfl rfl rfl (by decide) ?_
        refine r_soonestOf hR f t ef et hf ht hIW (Nat.le_trans (Nat.le_of_eq hcW) hc9) (fun M rb hR hs => ?_)
        have h2 : rb 2 = σ := (hs 2 (by decide) (by decide)).trans h2
        have hs0 := hs0.tr hs.vs
        refine ok_callVi1 (pc := 61) (d' := 1) dX12_freshOf_61 vl_X12_282 hR.o rfl rfl rfl (by decide) ?_
        refine r_putBack hR (fun M hR => ?_)
        rw [h2] at hR
        refine ok_istore7 (pc := 64) dX12_freshOf_64 (by decide) rfl ?_
        refine ok_iload (pc := 66) dX12_freshOf_66 rfl ?_
        refine ok_if_le (pc := 68) 95 dX12_freshOf_68 (by decide) (fun cc_68 => ?_) (fun cc_68 => ?_)
        · have ce_68 := Int32.not_lt.mpr cc_68
          have enx : frS σ f t z (i + 1) = (frS σ f t z i) := (if_neg (by rw [ctk]; decide)).trans (if_neg (fun h9 => ce_68 h9.1))
          refine ok_iload (pc := 95) dX12_freshOf_95 rfl ?_
          refine ok_iload (pc := 97) dX12_freshOf_97 rfl ?_
          refine ok_bipush (pc := 99) (v := 16) dX12_freshOf_99 (by decide) ?_
          refine ok_irem (pc := 101) dX12_freshOf_101 (by decide) ?_
          refine ok_bipush (pc := 102) (v := 14) dX12_freshOf_102 (by decide) ?_
          refine ok_icmp_ne (pc := 104) 112 dX12_freshOf_104 (by decide) (fun cc_104 => ?_) (fun cc_104 => ?_)
          · have exy : x5 + 2 = nI (xyN (i + 1)) := by
              have h9 := xy_step i (by omega)
              have hlt := xy_lt i (by omega)
              rw [if_neg (fun h8 => cc_104 (by rw [e5]; exact (pk_rem (by omega) (by decide) (by decide)).trans (by rw [h8]; rfl)))] at h9
              rw [e5, fa_lit 2, nI_add, h9]
            refine ok_iconst (pc := 112) (v := 2) dX12_freshOf_112 (by decide) ?_
            refine ok_iadd (pc := 113) dX12_freshOf_113 ?_
            refine ok_istore5 (pc := 114) dX12_freshOf_114 (by decide) rfl ?_
            refine ok_goto (pc := 116) 17 dX12_freshOf_116 (by decide) ?_
            try refine ok_drop6 ?_
            try refine ok_drop7 ?_
            first
              | exact ih (i + 1) _ _ _ _ _ (by omega) exy (by rw [enx]; exact e4) (by rw [enx]; exact hfs) hR h2 hri hs0
              | exact ih (i + 1) _ _ _ _ _ (by omega) exy (by rw [enx]; exact e5) (by rw [enx]; exact Or.inr upd_at) hR h2 (fun s hs9 => by rw [upd_ne hs9]; exact hri s hs9) hs0
          · have exy : x5 + 18 = nI (xyN (i + 1)) := by
              have h9 := xy_step i (by omega)
              have hlt := xy_lt i (by omega)
              have hm : xyN i % 16 = 14 := by
                rw [e5] at cc_104
                have e9 : jrem (nI (xyN i)) 16 = nI (xyN i % 16) := pk_rem (by omega) (by decide) (by decide)
                rw [e9] at cc_104
                exact (nI_eq (a := xyN i % 16) (b := 14) (by omega) (by decide)).mp cc_104
              rw [if_pos hm] at h9
              rw [e5, fa_lit 18, nI_add, h9]
            refine ok_bipush (pc := 107) (v := 18) dX12_freshOf_107 (by decide) ?_
            refine ok_goto (pc := 109) 113 dX12_freshOf_109 (by decide) ?_
            refine ok_iadd (pc := 113) dX12_freshOf_113 ?_
            refine ok_istore5 (pc := 114) dX12_freshOf_114 (by decide) rfl ?_
            refine ok_goto (pc := 116) 17 dX12_freshOf_116 (by decide) ?_
            try refine ok_drop6 ?_
            try refine ok_drop7 ?_
            first
              | exact ih (i + 1) _ _ _ _ _ (by omega) exy (by rw [enx]; exact e4) (by rw [enx]; exact hfs) hR h2 hri hs0
              | exact ih (i + 1) _ _ _ _ _ (by omega) exy (by rw [enx]; exact e5) (by rw [enx]; exact Or.inr upd_at) hR h2 (fun s hs9 => by rw [upd_ne hs9]; exact hri s hs9) hs0
        · have ce_68 := Int32.not_le.mp cc_68
          refine ok_iload (pc := 71) dX12_freshOf_71 rfl ?_
          refine ok_if_lt (pc := 73) 85 dX12_freshOf_73 (by decide) (fun cc_73 => ?_) (fun cc_73 => ?_)
          · have ce_73 := Int32.not_le.mpr cc_73
            have enx : frS σ f t z (i + 1) = (nI (xyN i), (soA (frW σ (nI (xyN i))) f t z 72 0)) := (if_neg (by rw [ctk]; decide)).trans (if_pos ⟨ce_68, Or.inl (by rw [← e4]; exact cc_73)⟩)
            refine ok_iload (pc := 85) dX12_freshOf_85 rfl ?_
            refine ok_istore4 (pc := 87) dX12_freshOf_87 (by decide) rfl ?_
            refine ok_aload_n (pc := 89) dX12_freshOf_89 rfl ?_
            refine ok_iload (pc := 90) dX12_freshOf_90 rfl ?_
            refine ok_rpt16 (pc := 92) dX12_freshOf_92 pl_X12_305 hR (fun M hR => ?_)
            refine ok_iload (pc := 95) dX12_freshOf_95 rfl ?_
            refine ok_iload (pc := 97) dX12_freshOf_97 rfl ?_
            refine ok_bipush (pc := 99) (v := 16) dX12_freshOf_99 (by decide) ?_
            refine ok_irem (pc := 101) dX12_freshOf_101 (by decide) ?_
            refine ok_bipush (pc := 102) (v := 14) dX12_freshOf_102 (by decide) ?_
            refine ok_icmp_ne (pc := 104) 112 dX12_freshOf_104 (by decide) (fun cc_104 => ?_) (fun cc_104 => ?_)
            · have exy : x5 + 2 = nI (xyN (i + 1)) := by
                have h9 := xy_step i (by omega)
                have hlt := xy_lt i (by omega)
                rw [if_neg (fun h8 => cc_104 (by rw [e5]; exact (pk_rem (by omega) (by decide) (by decide)).trans (by rw [h8]; rfl)))] at h9
                rw [e5, fa_lit 2, nI_add, h9]
              refine ok_iconst (pc := 112) (v := 2) dX12_freshOf_112 (by decide) ?_
              refine ok_iadd (pc := 113) dX12_freshOf_113 ?_
              refine ok_istore5 (pc := 114) dX12_freshOf_114 (by decide) rfl ?_
              refine ok_goto (pc := 116) 17 dX12_freshOf_116 (by decide) ?_
              try refine ok_drop6 ?_
              try refine ok_drop7 ?_
              first
                | exact ih (i + 1) _ _ _ _ _ (by omega) exy (by rw [enx]; exact e4) (by rw [enx]; exact hfs) hR h2 hri hs0
                | exact ih (i + 1) _ _ _ _ _ (by omega) exy (by rw [enx]; exact e5) (by rw [enx]; exact Or.inr upd_at) hR h2 (fun s hs9 => by rw [upd_ne hs9]; exact hri s hs9) hs0
            · have exy : x5 + 18 = nI (xyN (i + 1)) := by
                have h9 := xy_step i (by omega)
                have hlt := xy_lt i (by omega)
                have hm : xyN i % 16 = 14 := by
                  rw [e5] at cc_104
                  have e9 : jrem (nI (xyN i)) 16 = nI (xyN i % 16) := pk_rem (by omega) (by decide) (by decide)
                  rw [e9] at cc_104
                  exact (nI_eq (a := xyN i % 16) (b := 14) (by omega) (by decide)).mp cc_104
                rw [if_pos hm] at h9
                rw [e5, fa_lit 18, nI_add, h9]
              refine ok_bipush (pc := 107) (v := 18) dX12_freshOf_107 (by decide) ?_
              refine ok_goto (pc := 109) 113 dX12_freshOf_109 (by decide) ?_
              refine ok_iadd (pc := 113) dX12_freshOf_113 ?_
              refine ok_istore5 (pc := 114) dX12_freshOf_114 (by decide) rfl ?_
              refine ok_goto (pc := 116) 17 dX12_freshOf_116 (by decide) ?_
              try refine ok_drop6 ?_
              try refine ok_drop7 ?_
              first
                | exact ih (i + 1) _ _ _ _ _ (by omega) exy (by rw [enx]; exact e4) (by rw [enx]; exact hfs) hR h2 hri hs0
                | exact ih (i + 1) _ _ _ _ _ (by omega) exy (by rw [enx]; exact e5) (by rw [enx]; exact Or.inr upd_at) hR h2 (fun s hs9 => by rw [upd_ne hs9]; exact hri s hs9) hs0
          · have ce_73 := Int32.not_lt.mp cc_73
            have hfs2 : ri 16 = (frS σ f t z i).2 := by
              rcases hfs with h9 | h9
              · exact absurd (by rw [← e4] at h9; exact h9) (Int32.not_lt.mpr ce_73)
              · exact h9
            refine ok_iload (pc := 76) dX12_freshOf_76 rfl ?_
            refine ok_aload_n (pc := 78) dX12_freshOf_78 rfl ?_
            refine ok_getf (pc := 79) dX12_freshOf_79 fl_X12_305 hR.o rfl ?_
            refine ok_icmp_ge (pc := 82) 95 dX12_freshOf_82 (by decide) (fun cc_82 => ?_) (fun cc_82 => ?_)
            · have ce_82 := Int32.not_lt.mpr cc_82
              have enx : frS σ f t z (i + 1) = (frS σ f t z i) := (if_neg (by rw [ctk]; decide)).trans (if_neg (fun h9 => by
                rcases h9.2 with h8 | h8
                · exact absurd (by rw [← e4] at h8; exact h8) (Int32.not_lt.mpr ce_73)
                · rw [← hfs2] at h8; exact absurd h8 ce_82))
              refine ok_iload (pc := 95) dX12_freshOf_95 rfl ?_
              refine ok_iload (pc := 97) dX12_freshOf_97 rfl ?_
              refine ok_bipush (pc := 99) (v := 16) dX12_freshOf_99 (by decide) ?_
              refine ok_irem (pc := 101) dX12_freshOf_101 (by decide) ?_
              refine ok_bipush (pc := 102) (v := 14) dX12_freshOf_102 (by decide) ?_
              refine ok_icmp_ne (pc := 104) 112 dX12_freshOf_104 (by decide) (fun cc_104 => ?_) (fun cc_104 => ?_)
              · have exy : x5 + 2 = nI (xyN (i + 1)) := by
                  have h9 := xy_step i (by omega)
                  have hlt := xy_lt i (by omega)
                  rw [if_neg (fun h8 => cc_104 (by rw [e5]; exact (pk_rem (by omega) (by decide) (by decide)).trans (by rw [h8]; rfl)))] at h9
                  rw [e5, fa_lit 2, nI_add, h9]
                refine ok_iconst (pc := 112) (v := 2) dX12_freshOf_112 (by decide) ?_
                refine ok_iadd (pc := 113) dX12_freshOf_113 ?_
                refine ok_istore5 (pc := 114) dX12_freshOf_114 (by decide) rfl ?_
                refine ok_goto (pc := 116) 17 dX12_freshOf_116 (by decide) ?_
                try refine ok_drop6 ?_
                try refine ok_drop7 ?_
                first
                  | exact ih (i + 1) _ _ _ _ _ (by omega) exy (by rw [enx]; exact e4) (by rw [enx]; exact hfs) hR h2 hri hs0
                  | exact ih (i + 1) _ _ _ _ _ (by omega) exy (by rw [enx]; exact e5) (by rw [enx]; exact Or.inr upd_at) hR h2 (fun s hs9 => by rw [upd_ne hs9]; exact hri s hs9) hs0
              · have exy : x5 + 18 = nI (xyN (i + 1)) := by
                  have h9 := xy_step i (by omega)
                  have hlt := xy_lt i (by omega)
                  have hm : xyN i % 16 = 14 := by
                    rw [e5] at cc_104
                    have e9 : jrem (nI (xyN i)) 16 = nI (xyN i % 16) := pk_rem (by omega) (by decide) (by decide)
                    rw [e9] at cc_104
                    exact (nI_eq (a := xyN i % 16) (b := 14) (by omega) (by decide)).mp cc_104
                  rw [if_pos hm] at h9
                  rw [e5, fa_lit 18, nI_add, h9]
                refine ok_bipush (pc := 107) (v := 18) dX12_freshOf_107 (by decide) ?_
                refine ok_goto (pc := 109) 113 dX12_freshOf_109 (by decide) ?_
                refine ok_iadd (pc := 113) dX12_freshOf_113 ?_
                refine ok_istore5 (pc := 114) dX12_freshOf_114 (by decide) rfl ?_
                refine ok_goto (pc := 116) 17 dX12_freshOf_116 (by decide) ?_
                try refine ok_drop6 ?_
                try refine ok_drop7 ?_
                first
                  | exact ih (i + 1) _ _ _ _ _ (by omega) exy (by rw [enx]; exact e4) (by rw [enx]; exact hfs) hR h2 hri hs0
                  | exact ih (i + 1) _ _ _ _ _ (by omega) exy (by rw [enx]; exact e5) (by rw [enx]; exact Or.inr upd_at) hR h2 (fun s hs9 => by rw [upd_ne hs9]; exact hri s hs9) hs0
            · have ce_82 := Int32.not_le.mp cc_82
              have enx : frS σ f t z (i + 1) = (nI (xyN i), (soA (frW σ (nI (xyN i))) f t z 72 0)) := (if_neg (by rw [ctk]; decide)).trans (if_pos ⟨ce_68, Or.inr (by rw [← hfs2]; exact ce_82)⟩)
              refine ok_iload (pc := 85) dX12_freshOf_85 rfl ?_
              refine ok_istore4 (pc := 87) dX12_freshOf_87 (by decide) rfl ?_
              refine ok_aload_n (pc := 89) dX12_freshOf_89 rfl ?_
              refine ok_iload (pc := 90) dX12_freshOf_90 rfl ?_
              refine ok_rpt16 (pc := 92) dX12_freshOf_92 pl_X12_305 hR (fun M hR => ?_)
              refine ok_iload (pc := 95) dX12_freshOf_95 rfl ?_
              refine ok_iload (pc := 97) dX12_freshOf_97 rfl ?_
              refine ok_bipush (pc := 99) (v := 16) dX12_freshOf_99 (by decide) ?_
              refine ok_irem (pc := 101) dX12_freshOf_101 (by decide) ?_
              refine ok_bipush (pc := 102) (v := 14) dX12_freshOf_102 (by decide) ?_
              refine ok_icmp_ne (pc := 104) 112 dX12_freshOf_104 (by decide) (fun cc_104 => ?_) (fun cc_104 => ?_)
              · have exy : x5 + 2 = nI (xyN (i + 1)) := by
                  have h9 := xy_step i (by omega)
                  have hlt := xy_lt i (by omega)
                  rw [if_neg (fun h8 => cc_104 (by rw [e5]; exact (pk_rem (by omega) (by decide) (by decide)).trans (by rw [h8]; rfl)))] at h9
                  rw [e5, fa_lit 2, nI_add, h9]
                refine ok_iconst (pc := 112) (v := 2) dX12_freshOf_112 (by decide) ?_
                refine ok_iadd (pc := 113) dX12_freshOf_113 ?_
                refine ok_istore5 (pc := 114) dX12_freshOf_114 (by decide) rfl ?_
                refine ok_goto (pc := 116) 17 dX12_freshOf_116 (by decide) ?_
                try refine ok_drop6 ?_
                try refine ok_drop7 ?_
                first
                  | exact ih (i + 1) _ _ _ _ _ (by omega) exy (by rw [enx]; exact e4) (by rw [enx]; exact hfs) hR h2 hri hs0
                  | exact ih (i + 1) _ _ _ _ _ (by omega) exy (by rw [enx]; exact e5) (by rw [enx]; exact Or.inr upd_at) hR h2 (fun s hs9 => by rw [upd_ne hs9]; exact hri s hs9) hs0
              · have exy : x5 + 18 = nI (xyN (i + 1)) := by
                  have h9 := xy_step i (by omega)
                  have hlt := xy_lt i (by omega)
                  have hm : xyN i % 16 = 14 := by
                    rw [e5] at cc_104
                    have e9 : jrem (nI (xyN i)) 16 = nI (xyN i % 16) := pk_rem (by omega) (by decide) (by decide)
                    rw [e9] at cc_104
                    exact (nI_eq (a := xyN i % 16) (b := 14) (by omega) (by decide)).mp cc_104
                  rw [if_pos hm] at h9
                  rw [e5, fa_lit 18, nI_add, h9]
                refine ok_bipush (pc := 107) (v := 18) dX12_freshOf_107 (by decide) ?_
                refine ok_goto (pc := 109) 113 dX12_freshOf_109 (by decide) ?_
                refine ok_iadd (pc := 113) dX12_freshOf_113 ?_
                refine ok_istore5 (pc := 114) dX12_freshOf_114 (by decide) rfl ?_
                refine ok_goto (pc := 116) 17 dX12_freshOf_116 (by decide) ?_
                try refine ok_drop6 ?_
                try refine ok_drop7 ?_
                first
                  | exact ih (i + 1) _ _ _ _ _ (by omega) exy (by rw [enx]; exact e4) (by rw [enx]; exact hfs) hR h2 hri hs0
                  | exact ih (i + 1) _ _ _ _ _ (by omega) exy (by rw [enx]; exact e5) (by rw [enx]; exact Or.inr upd_at) hR h2 (fun s hs9 => by rw [upd_ne hs9]; exact hri s hs9) hs0

set_option maxHeartbeats 1000000 in
theorem r_freshOf {Γ : Cx} {m sz : Nat} {M0 M : Nat → Option va_E} {σ κ : Rw} {ri : Nat → Int32} {ra : Nat → Nat → Int32} {K : Int32 → Wd → Prop} (hR : RefX Γ m M0 σ κ ri ra M) {x y z : Int32} (f t : Nat) (ef : x = nI f) (et : y = nI t) (hf : f < 9) (ht : t < 9) (hI : Inv σ) (hc9 : cT σ ≤ 10000) (hH : cH σ < 9) (hK : cK σ < 8) (k : ∀ M' ri' ra', RefX Γ m M0 σ κ ri' ra' M' → (∀ s, s ≠ 16 → ri' s = ri s) → Vs ra ra' → ((frS σ f t z 64).1 < 0 ∨ ri' 16 = (frS σ f t z 64).2) → K (frS σ f t z 64).1 (M', sz)) : Spec Γ mX12_freshOf 8 0 [.ref m, .int x, .int y, .int z] (M, sz) (ci K) := by
  refine spec_in [some (.ref m), some (.int x), some (.int y), some (.int z), none, none, none, none] 4 (by decide) rfl rfl ?_
  refine ok_aload_n (pc := 0) dX12_freshOf_0 rfl ?_
  refine ok_getf (pc := 1) dX12_freshOf_1 fl_X12_9 hR.o rfl ?_
  refine ok_aload_n (pc := 4) dX12_freshOf_4 rfl ?_
  refine ok_getf (pc := 5) dX12_freshOf_5 fl_X12_16 hR.o rfl ?_
  refine ok_callSv2 (pc := 8) (d' := 0) dX12_freshOf_8 sl_X12_79 rfl (by decide) ?_
  refine r_copy hR.a0 hR.a2 (by omega) ?_
  have hR := hR.s2 σ
  refine ok_iconst (pc := 11) (v := -1) dX12_freshOf_11 (by decide) ?_
  refine ok_istore4 (pc := 12) dX12_freshOf_12 (by decide) rfl ?_
  refine ok_iconst (pc := 14) (v := 0) dX12_freshOf_14 (by decide) ?_
  refine ok_istore5 (pc := 15) dX12_freshOf_15 (by decide) rfl ?_
  exact l_freshOf (ri0 := ri) (ra0 := va_up ra 2 σ) f t ef et hf ht hI hc9 hH hK (fun M rj rb hR hri hs hfs => k _ _ _ hR hri (Vs.up2.tr hs) hfs) 64 0 _ _ _ _ _ (by omega) rfl rfl (Or.inl (show (-1 : Int32) < 0 by decide)) hR vup_eq (fun _ _ => rfl) ⟨rfl, rfl, rfl, rfl, rfl⟩
