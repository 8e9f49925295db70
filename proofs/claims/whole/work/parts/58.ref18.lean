set_option maxHeartbeats 1000000 in
theorem l_as {Γ : Cx} {m sz : Nat} {M0 M : Nat → Option va_E} {σ κ : Rw} {ri : Nat → Int32} {ra : Nat → Nat → Int32} {Q : Option Value → Wd → Prop} (hR : RefX Γ m M0 σ κ ri ra M) {x y : Int32} (A0 : Bool) (kk : ∀ kv, (A0 = true ∧ ¬ kv < 0) ∨ (A0 = false ∧ kv < 0) → Ok Γ mX12_as 2 0 50 [some (.ref m), some (.int x), some (.int y), some (.int kv)] [] (M, sz) Q) : ∀ (n : Nat) (kv : Int32), rkF kv < n → asA n kv y = A0 → Ok Γ mX12_as 2 0 33 [some (.ref m), some (.int x), some (.int y), some (.int kv)] [] (M, sz) Q := by
  intro n
  induction n with
  | zero =>
    intro kv h1 hA
    refine ok_iload_n (pc := 33) dX12_as_33 rfl ?_
    refine ok_if_lt (pc := 34) 50 dX12_as_34 (by decide) (fun cc_34 => ?_) (fun cc_34 => ?_)
    · exact absurd h1 (Nat.not_lt_zero _)
    · exact absurd h1 (Nat.not_lt_zero _)
  | succ n ih =>
    intro kv h1 hA
    refine ok_iload_n (pc := 33) dX12_as_33 rfl ?_
    refine ok_if_lt (pc := 34) 50 dX12_as_34 (by decide) (fun cc_34 => ?_) (fun cc_34 => ?_)
    · exact kk _ (Or.inr ⟨by rw [← hA]; exact (if_pos cc_34), cc_34⟩)
    · have ce_34 := Int32.not_lt.mp cc_34
      refine ok_iload_n (pc := 37) dX12_as_37 rfl ?_
      refine ok_iload_n (pc := 38) dX12_as_38 rfl ?_
      refine ok_icmp_eq (pc := 39) 50 dX12_as_39 (by decide) (fun cc_39 => ?_) (fun cc_39 => ?_)
      · exact kk _ (Or.inl ⟨by rw [← hA]; exact (if_neg (Int32.not_lt.mpr ce_34)).trans (if_pos cc_39), (Int32.not_lt.mpr ce_34)⟩)
      · refine ok_iload_n (pc := 42) dX12_as_42 rfl ?_
        refine ok_callSi1 (pc := 43) (d' := 0) dX12_as_43 sl_X12_120 rfl (by decide) ?_
        refine r_above ?_
        refine ok_istore_n3 (pc := 46) dX12_as_46 (by decide) rfl ?_
        refine ok_goto (pc := 47) 33 dX12_as_47 (by decide) ?_
        have hl := Int32.not_lt.mpr ce_34
        exact ih (aboveF kv) (by have := rk_above hl; omega) (by rw [← hA]; exact ((if_neg hl).trans (if_neg cc_39)).symm)

set_option maxHeartbeats 1000000 in
theorem r_as {Γ : Cx} {m sz : Nat} {M0 M : Nat → Option va_E} {σ κ vi : Rw} {va : Nat → Rw} {K : Int32 → Wd → Prop} (hW : RefW Γ m M0 σ κ vi va M) (hI : Inv σ) {x y : Int32} (k : ∀ M', RefW Γ m M0 σ κ vi (eU va (op_as σ x y).1) M' → K (op_as σ x y).2 (M', sz)) : Spec Γ mX12_as 2 0 [.ref m, .int x, .int y] (M, sz) (ci K) := by
  obtain ⟨ri, ra, hR, hv, hw⟩ := hW
  obtain ⟨⟨⟨eH, lH⟩, ⟨eK, lK⟩, ⟨eL, lL⟩, ⟨eA, lA⟩, ⟨eT, lT⟩⟩, iK, iH, iW, iL, iO, iB, hT⟩ := id hI
  
  refine spec_in [some (.ref m), some (.int x), some (.int y), none] 1 (by decide) rfl rfl ?_
  refine ok_aload_n (pc := 0) dX12_as_0 rfl ?_
  refine ok_iload_n (pc := 1) dX12_as_1 rfl ?_
  refine ok_iconst (pc := 2) (v := 2) dX12_as_2 (by decide) ?_
  refine ok_callVi2 (pc := 3) (d' := 1) dX12_as_3 vl_X12_100 hR.o rfl rfl rfl (by decide) ?_
  refine r_is hR 2 rfl (by decide) ?_
  refine ok_if_eq (pc := 6) 19 dX12_as_6 (by decide) (fun cc_6 => ?_) (fun cc_6 => ?_)
  · have cq_6 := bI_0.mp cc_6
    refine ok_aload_n (pc := 19) dX12_as_19 rfl ?_
    refine ok_ldc (pc := 20) (v := -1000000001) dX12_as_20 tw_1205 ?_
    refine ok_callVi1 (pc := 22) (d' := 0) dX12_as_22 vl_X12_84 hR.o rfl rfl rfl (by decide) ?_
    refine r_finding hR 1 (by decide) (by decide) (fun M hR => ?_)
    refine ok_iret (pc := 25) dX12_as_25 rfl ?_
    have eo : op_as σ x y = (1, -1000000001) := by simp [op_as, cq_6]
    rw [eo] at k
    exact k _ (RefW.err 1 (by decide) hR hv hw)
  · have cq_6 := bI_n0.mp cc_6
    refine ok_iload_n (pc := 9) dX12_as_9 rfl ?_
    refine ok_iconst (pc := 10) (v := 0) dX12_as_10 (by decide) ?_
    refine ok_bipush (pc := 11) (v := 6) dX12_as_11 (by decide) ?_
    refine ok_callSi3 (pc := 13) (d' := 0) dX12_as_13 sl_X12_75 rfl (by decide) ?_
    refine r_within ?_
    refine ok_if_ne (pc := 16) 26 dX12_as_16 (by decide) (fun cc_16 => ?_) (fun cc_16 => ?_)
    · have cq_16 := bI_n0.mp cc_16
      refine ok_aload_n (pc := 26) dX12_as_26 rfl ?_
      refine ok_iload_n (pc := 27) dX12_as_27 rfl ?_
      refine ok_iconst (pc := 28) (v := 0) dX12_as_28 (by decide) ?_
      refine ok_callVi2 (pc := 29) (d' := 0) dX12_as_29 vl_X12_117 hR.o rfl rfl rfl (by decide) ?_
      obtain ⟨ea, la⟩ := wi_cnt eK (by omega) cq_6
      refine r_kiteIs hR (iN x) ea 0 rfl (by omega) (by decide) ?_
      refine ok_istore_n3 (pc := 32) dX12_as_32 (by decide) rfl ?_
      refine l_as hR _ (fun kv hA => ?_) 4 _ (Nat.lt_succ_of_le (by unfold rkF; split; omega; split; omega; split <;> omega)) rfl
      refine ok_iload_n (pc := 50) dX12_as_50 rfl ?_
      refine ok_if_ge (pc := 51) 63 dX12_as_51 (by decide) (fun cc_51 => ?_) (fun cc_51 => ?_)
      · have ce_51 := Int32.not_lt.mpr cc_51
        refine ok_aload_n (pc := 63) dX12_as_63 rfl ?_
        refine ok_iload_n (pc := 64) dX12_as_64 rfl ?_
        refine ok_iconst (pc := 65) (v := 3) dX12_as_65 (by decide) ?_
        refine ok_callVi2 (pc := 66) (d' := 0) dX12_as_66 vl_X12_117 hR.o rfl rfl rfl (by decide) ?_
        refine r_kiteIs hR (iN x) ea 3 rfl (by omega) (by decide) ?_
        refine ok_iret (pc := 69) dX12_as_69 rfl ?_
        have hf : asA 4 (kf σ (iN x) 0) y = true := by
          rcases hA with h | h
          · exact h.1
          · exact absurd cc_51 (Int32.not_le.mpr h.2)
        have eo : op_as σ x y = (0, kf σ (iN x) 3) := by simp [op_as, cq_6, cq_16, hf]
        rw [eo] at k
        exact k _ (RefW.ok hR hv hw)
      · have ce_51 := Int32.not_le.mp cc_51
        refine ok_aload_n (pc := 54) dX12_as_54 rfl ?_
        refine ok_ldc (pc := 55) (v := -1000000005) dX12_as_55 tw_1271 ?_
        refine ok_callVi1 (pc := 57) (d' := 0) dX12_as_57 vl_X12_84 hR.o rfl rfl rfl (by decide) ?_
        refine r_finding hR 5 (by decide) (by decide) (fun M hR => ?_)
        refine ok_goto (pc := 60) 69 dX12_as_60 (by decide) ?_
        refine ok_iret (pc := 69) dX12_as_69 rfl ?_
        have hf : asA 4 (kf σ (iN x) 0) y = false := by
          rcases hA with h | h
          · exact absurd ce_51 h.2
          · exact h.1
        have eo : op_as σ x y = (5, -1000000005) := by simp [op_as, cq_6, cq_16, hf]
        rw [eo] at k
        exact k _ (RefW.err 5 (by decide) hR hv hw)
    · have cq_16 := bI_0.mp cc_16
      refine ok_aload_n (pc := 19) dX12_as_19 rfl ?_
      refine ok_ldc (pc := 20) (v := -1000000001) dX12_as_20 tw_1205 ?_
      refine ok_callVi1 (pc := 22) (d' := 0) dX12_as_22 vl_X12_84 hR.o rfl rfl rfl (by decide) ?_
      refine r_finding hR 1 (by decide) (by decide) (fun M hR => ?_)
      refine ok_iret (pc := 25) dX12_as_25 rfl ?_
      have eo : op_as σ x y = (1, -1000000001) := by simp [op_as, cq_6, cq_16]
      rw [eo] at k
      exact k _ (RefW.err 1 (by decide) hR hv hw)

set_option maxHeartbeats 1000000 in
theorem r_law {Γ : Cx} {m sz : Nat} {M0 M : Nat → Option va_E} {σ κ vi : Rw} {va : Nat → Rw} {K : Int32 → Wd → Prop} (hW : RefW Γ m M0 σ κ vi va M) (hI : Inv σ) {u x y z w : Int32} (k : ∀ M', RefW Γ m M0 σ κ vi (eU va (op_law σ u x y z w).1) M' → K (op_law σ u x y z w).2 (M', sz)) : Spec Γ mX12_law 3 0 [.ref m, .int u, .int x, .int y, .int z, .int w] (M, sz) (ci K) := by
  obtain ⟨ri, ra, hR, hv, hw⟩ := hW
  obtain ⟨⟨⟨eH, lH⟩, ⟨eK, lK⟩, ⟨eL, lL⟩, ⟨eA, lA⟩, ⟨eT, lT⟩⟩, iK, iH, iW, iL, iO, iB, hT⟩ := id hI
  
  refine spec_in [some (.ref m), some (.int u), some (.int x), some (.int y), some (.int z), some (.int w)] 0 (by decide) rfl rfl ?_
  refine ok_iload_n (pc := 0) dX12_law_0 rfl ?_
  refine ok_iconst (pc := 1) (v := 0) dX12_law_1 (by decide) ?_
  refine ok_iconst (pc := 2) (v := 1) dX12_law_2 (by decide) ?_
  refine ok_callSi3 (pc := 3) (d' := 0) dX12_law_3 sl_X12_75 rfl (by decide) ?_
  refine r_within ?_
  refine ok_if_eq (pc := 6) 23 dX12_law_6 (by decide) (fun cc_6 => ?_) (fun cc_6 => ?_)
  · have cq_6 := bI_0.mp cc_6
    refine ok_aload_n (pc := 23) dX12_law_23 rfl ?_
    refine ok_ldc (pc := 24) (v := -1000000001) dX12_law_24 tw_1205 ?_
    refine ok_callVi1 (pc := 26) (d' := 0) dX12_law_26 vl_X12_84 hR.o rfl rfl rfl (by decide) ?_
    refine r_finding hR 1 (by decide) (by decide) (fun M hR => ?_)
    refine ok_iret (pc := 29) dX12_law_29 rfl ?_
    have eo : op_law σ u x y z w = (1, -1000000001) := by simp [op_law, cq_6]
    rw [eo] at k
    exact k _ (RefW.err 1 (by decide) hR hv hw)
  · have cq_6 := bI_n0.mp cc_6
    refine ok_aload_n (pc := 9) dX12_law_9 rfl ?_
    refine ok_iload_n (pc := 10) dX12_law_10 rfl ?_
    refine ok_iload_n (pc := 11) dX12_law_11 rfl ?_
    refine ok_iload_n (pc := 12) dX12_law_12 rfl ?_
    refine ok_iload (pc := 13) dX12_law_13 rfl ?_
    refine ok_iload (pc := 15) dX12_law_15 rfl ?_
    refine ok_callVi5 (pc := 17) (d' := 2) dX12_law_17 vl_X12_146 hR.o rfl rfl rfl (by decide) ?_
    obtain ⟨eb, -, lb⟩ := wi_lit (a := 0) (c := 1) rfl rfl (by decide) (by decide) cq_6
    refine r_given hR (iN u) eb (by omega) hT (fun M rb hR hs => ?_)
    refine ok_goto (pc := 20) 29 dX12_law_20 (by decide) ?_
    refine ok_iret (pc := 29) dX12_law_29 rfl ?_
    have eo : op_law σ u x y z w = (0, givF σ (iN u) x y z w) := by simp [op_law, cq_6]
    rw [eo] at k
    exact k _ (RefW.oks hR hs hv hw)

set_option maxHeartbeats 1000000 in
theorem l_feed {Γ : Cx} {m sz : Nat} {M0 : Nat → Option va_E} {σ κ : Rw} {ri : Nat → Int32} {K : Int32 → Wd → Prop} {ra : Nat → Rw} {x : Int32} {wd : Int64} (n0 t : Nat) (en : x = nI n0) (et : σ 6 = nI t) (hn : n0 ≤ 8) (ht : t + n0 ≤ 50) (k : ∀ M', RefX Γ m M0 (fdF σ wd n0) κ ri ra M' → K (fdF σ wd n0 6) (M', sz)) : ∀ (n : Nat) (i : Nat) (xi : Int32) (M : Nat → Option va_E), i + n = n0 → xi = nI i → RefX Γ m M0 (fdF σ wd i) κ ri ra M → Ok Γ mX12_feed 1 0 41 [some (.ref m), some (.long wd), none, some (.int x), some (.int xi)] [] (M, sz) (ci K) := by
  intro n
  induction n with
  | zero =>
    intro i xi M h1 ei hR
    obtain ⟨f6, g6⟩ := fd_6 (w := wd) et (by omega) i (by omega)
    refine ok_iload (pc := 41) dX12_feed_41 rfl ?_
    refine ok_iload_n (pc := 43) dX12_feed_43 rfl ?_
    refine ok_icmp_ge (pc := 44) 92 dX12_feed_44 (by decide) (fun cc_44 => ?_) (fun cc_44 => ?_)
    · have ce_44 := Int32.not_lt.mpr cc_44
      have en9 : i = n0 := by omega
      subst en9
      refine ok_aload_n (pc := 92) dX12_feed_92 rfl ?_
      refine ok_getf (pc := 93) dX12_feed_93 fl_X12_9 hR.o rfl ?_
      refine ok_bipush (pc := 96) (v := 6) dX12_feed_96 (by decide) ?_
      refine ok_iald (pc := 98) (6) dX12_feed_98 hR.a0 rfl (by decide) (by decide) ?_
      refine ok_iret (pc := 99) dX12_feed_99 rfl ?_
      exact k _ hR
    · exact absurd (by rw [en, ei]; exact nI_le (by omega) (by omega)) cc_44
  | succ n ih =>
    intro i xi M h1 ei hR
    obtain ⟨f6, g6⟩ := fd_6 (w := wd) et (by omega) i (by omega)
    refine ok_iload (pc := 41) dX12_feed_41 rfl ?_
    refine ok_iload_n (pc := 43) dX12_feed_43 rfl ?_
    refine ok_icmp_ge (pc := 44) 92 dX12_feed_44 (by decide) (fun cc_44 => ?_) (fun cc_44 => ?_)
    · exact absurd (by rw [en, ei] at cc_44; exact cc_44) (nI_ge (by omega) (by omega))
    · have ce_44 := Int32.not_le.mp cc_44
      refine ok_aload_n (pc := 47) dX12_feed_47 rfl ?_
      refine ok_getf (pc := 48) dX12_feed_48 fl_X12_9 hR.o rfl ?_
      refine ok_sipush (pc := 51) (v := 195) dX12_feed_51 (by decide) ?_
      refine ok_aload_n (pc := 54) dX12_feed_54 rfl ?_
      refine ok_getf (pc := 55) dX12_feed_55 fl_X12_9 hR.o rfl ?_
      refine ok_bipush (pc := 58) (v := 6) dX12_feed_58 (by decide) ?_
      refine ok_iald (pc := 60) (6) dX12_feed_60 hR.a0 rfl (by decide) (by decide) ?_
      refine ok_iadd (pc := 61) dX12_feed_61 ?_
      refine ok_lload_n (pc := 62) dX12_feed_62 rfl ?_
      refine ok_bipush (pc := 63) (v := 8) dX12_feed_63 (by decide) ?_
      refine ok_iload (pc := 65) dX12_feed_65 rfl ?_
      refine ok_imul (pc := 67) dX12_feed_67 ?_
      refine ok_lshr (pc := 68) dX12_feed_68 ?_
      refine ok_ldc2 (pc := 69) (v := 255) dX12_feed_69 tw_1348 ?_
      refine ok_land (pc := 72) dX12_feed_72 ?_
      refine ok_l2i (pc := 73) dX12_feed_73 ?_
      refine ok_rst0 (pc := 74) (195 + iN ((fdF σ wd i) 6)) dX12_feed_74 hR (by rw [g6, f6, fa_lit 195, nI_add]) (by omega) (fun M hR => ?_)
      refine ok_aload_n (pc := 75) dX12_feed_75 rfl ?_
      refine ok_getf (pc := 76) dX12_feed_76 fl_X12_9 hR.o rfl ?_
      refine ok_bipush (pc := 79) (v := 6) dX12_feed_79 (by decide) ?_
      refine ok_dup2 (pc := 81) dX12_feed_81 rfl rfl ?_
      refine ok_iald (pc := 82) (6) dX12_feed_82 hR.a0 rfl (by decide) (by decide) ?_
      refine ok_iconst (pc := 83) (v := 1) dX12_feed_83 (by decide) ?_
      refine ok_iadd (pc := 84) dX12_feed_84 ?_
      refine ok_rst0 (pc := 85) (6) dX12_feed_85 hR rfl (by decide) (fun M hR => ?_)
      have e6 : upd (fdF σ wd i) (195 + iN ((fdF σ wd i) 6)) ((jlshr wd (8 * xi) &&& 255).toInt32) 6 = (fdF σ wd i) 6 := upd_ne (by omega)
      have eb : (jlshr wd (8 * xi) &&& 255).toInt32 = byL wd i := by unfold byL; rw [ei, fa_lit 8, pk_mul]
      rw [e6, eb] at hR
      refine ok_iinc4 (pc := 86) (v := 1) dX12_feed_86 (by decide) (by decide) rfl ?_
      refine ok_goto (pc := 89) 41 dX12_feed_89 (by decide) ?_
      exact ih (i + 1) _ _ (by omega) (by rw [ei, nI_1]) hR

set_option maxHeartbeats 1000000 in
theorem r_feed {Γ : Cx} {m sz : Nat} {M0 M : Nat → Option va_E} {σ κ vi : Rw} {va : Nat → Rw} {K : Int32 → Wd → Prop} (hW : RefW Γ m M0 σ κ vi va M) (hI : Inv σ) {wd : Int64} {x : Int32} (k : ∀ M', RefW Γ m M0 (op_feed σ wd x).2.2 κ vi (eU va (op_feed σ wd x).1) M' → K (op_feed σ wd x).2.1 (M', sz)) : Spec Γ mX12_feed 1 0 [.ref m, .long wd, .int x] (M, sz) (ci K) := by
  obtain ⟨ri, ra, hR, hv, hw⟩ := hW
  obtain ⟨⟨⟨eH, lH⟩, ⟨eK, lK⟩, ⟨eL, lL⟩, ⟨eA, lA⟩, ⟨eT, lT⟩⟩, iK, iH, iW, iL, iO, iB, hT⟩ := id hI
  
  refine spec_in [some (.ref m), some (.long wd), none, some (.int x), none] 1 (by decide) rfl rfl ?_
  refine ok_iload_n (pc := 0) dX12_feed_0 rfl ?_
  refine ok_iconst (pc := 1) (v := 1) dX12_feed_1 (by decide) ?_
  refine ok_bipush (pc := 2) (v := 8) dX12_feed_2 (by decide) ?_
  refine ok_callSi3 (pc := 4) (d' := 0) dX12_feed_4 sl_X12_75 rfl (by decide) ?_
  refine r_within ?_
  refine ok_if_ne (pc := 7) 17 dX12_feed_7 (by decide) (fun cc_7 => ?_) (fun cc_7 => ?_)
  · have cq_7 := bI_n0.mp cc_7
    refine ok_aload_n (pc := 17) dX12_feed_17 rfl ?_
    refine ok_getf (pc := 18) dX12_feed_18 fl_X12_9 hR.o rfl ?_
    refine ok_bipush (pc := 21) (v := 6) dX12_feed_21 (by decide) ?_
    refine ok_iald (pc := 23) (6) dX12_feed_23 hR.a0 rfl (by decide) (by decide) ?_
    refine ok_iload_n (pc := 24) dX12_feed_24 rfl ?_
    refine ok_iadd (pc := 25) dX12_feed_25 ?_
    refine ok_bipush (pc := 26) (v := 50) dX12_feed_26 (by decide) ?_
    refine ok_icmp_le (pc := 28) 38 dX12_feed_28 (by decide) (fun cc_28 => ?_) (fun cc_28 => ?_)
    · have ce_28 := Int32.not_lt.mpr cc_28
      refine ok_iconst (pc := 38) (v := 0) dX12_feed_38 (by decide) ?_
      refine ok_istore4 (pc := 39) dX12_feed_39 (by decide) rfl ?_
      obtain ⟨ex, la, lb⟩ := wi_lit (a := 1) (c := 8) rfl rfl (by decide) (by decide) cq_7
      obtain ⟨t, et, ht⟩ := iB.1
      have hs : t + iN x ≤ 50 := by
        have h9 := cc_28
        rw [et] at h9
        generalize iN x = p at *
        subst ex
        rw [nI_add] at h9
        exact (nI_leI (by omega) (by decide)).mp h9
      have eo : op_feed σ wd x = ((0, fdF σ wd (iN x) 6, fdF σ wd (iN x)) : Op3) := by simp [op_feed, cq_7, cc_28, ce_28]
      rw [eo] at k
      exact l_feed (iN x) t ex et lb hs (fun M hR => k _ (RefW.ok hR hv hw)) (iN x) 0 0 _ (by omega) rfl hR
    · have ce_28 := Int32.not_le.mp cc_28
      refine ok_aload_n (pc := 31) dX12_feed_31 rfl ?_
      refine ok_ldc (pc := 32) (v := -1000000004) dX12_feed_32 tw_1216 ?_
      refine ok_callVi1 (pc := 34) (d' := 0) dX12_feed_34 vl_X12_84 hR.o rfl rfl rfl (by decide) ?_
      refine r_finding hR 4 (by decide) (by decide) (fun M hR => ?_)
      refine ok_iret (pc := 37) dX12_feed_37 rfl ?_
      have eo : op_feed σ wd x = ((4, -1000000004, σ) : Op3) := by simp [op_feed, e3, cq_7, cc_28, ce_28]; try decide
      rw [eo] at k
      exact k _ (RefW.err 4 (by decide) hR hv hw)
  · have cq_7 := bI_0.mp cc_7
    refine ok_aload_n (pc := 10) dX12_feed_10 rfl ?_
    refine ok_ldc (pc := 11) (v := -1000000001) dX12_feed_11 tw_1205 ?_
    refine ok_callVi1 (pc := 13) (d' := 0) dX12_feed_13 vl_X12_84 hR.o rfl rfl rfl (by decide) ?_
    refine r_finding hR 1 (by decide) (by decide) (fun M hR => ?_)
    refine ok_iret (pc := 16) dX12_feed_16 rfl ?_
    have eo : op_feed σ wd x = ((1, -1000000001, σ) : Op3) := by simp [op_feed, e3, cq_7]; try decide
    rw [eo] at k
    exact k _ (RefW.err 1 (by decide) hR hv hw)

set_option maxHeartbeats 1000000 in
theorem l_best {Γ : Cx} {m sz : Nat} {M0 : Nat → Option va_E} {σ κ : Rw} {ri : Nat → Int32} {K : Int32 → Wd → Prop} {ra0 : Nat → Rw} {x y : Int32} (k0 n0 : Nat) (ek : x = nI k0) (en : y = nI n0) (hk : k0 < cK σ) (hn : n0 ≤ 72) (hI : Inv σ) (ht : cT σ ≤ 10000) (k : ∀ M' ra', RefX Γ m M0 σ κ ri ra' M' → Vs ra0 ra' → K (bsS σ k0 n0 (cH σ + 1)).1 (M', sz)) : ∀ (n : Nat) (j : Nat) (x3 : Int32) (x4 : Int32) (xi : Int32) (M : Nat → Option va_E) (ra : Nat → Rw), j + n = cH σ + 1 → xi = nI j - 1 → x3 = (bsS σ k0 n0 j).1 → x4 = (bsS σ k0 n0 j).2 → RefX Γ m M0 σ κ ri ra M → ra 2 = σ → Vs ra0 ra → Ok Γ mX12_best 11 0 42 [some (.ref m), some (.int x), some (.int y), some (.int x3), some (.int x4), some (.int xi), none] [] (M, sz) (ci K) := by
  obtain ⟨⟨⟨eH, lH⟩, ⟨eK, lK⟩, -⟩, iK, -⟩ := id hI
  obtain ⟨⟨ehm, lhm⟩, -⟩ := iK k0 hk
  intro n
  induction n with
  | zero =>
    intro j x3 x4 xi M ra h1 ei e3 e4 hR h2 hs0
    refine ok_iload (pc := 42) dX12_best_42 rfl ?_
    refine ok_aload_n (pc := 44) dX12_best_44 rfl ?_
    refine ok_getf (pc := 45) dX12_best_45 fl_X12_9 hR.o rfl ?_
    refine ok_iconst (pc := 48) (v := 1) dX12_best_48 (by decide) ?_
    refine ok_iald (pc := 49) (1) dX12_best_49 hR.a0 rfl (by decide) (by decide) ?_
    refine ok_icmp_ge (pc := 50) 117 dX12_best_50 (by decide) (fun cc_50 => ?_) (fun cc_50 => ?_)
    · have ce_50 := Int32.not_lt.mpr cc_50
      have e9 : j = cH σ + 1 := by omega
      subst e9
      rw [e3]
      refine ok_iload_n (pc := 117) dX12_best_117 rfl ?_
      refine ok_iret (pc := 118) dX12_best_118 rfl ?_
      exact k _ _ hR hs0
    · exact absurd (by rw [eH, ei]; exact (m1_ge (by omega) (by omega)).mpr (by omega)) cc_50
  | succ n ih =>
    intro j x3 x4 xi M ra h1 ei e3 e4 hR h2 hs0
    refine ok_iload (pc := 42) dX12_best_42 rfl ?_
    refine ok_aload_n (pc := 44) dX12_best_44 rfl ?_
    refine ok_getf (pc := 45) dX12_best_45 fl_X12_9 hR.o rfl ?_
    refine ok_iconst (pc := 48) (v := 1) dX12_best_48 (by decide) ?_
    refine ok_iald (pc := 49) (1) dX12_best_49 hR.a0 rfl (by decide) (by decide) ?_
    refine ok_icmp_ge (pc := 50) 117 dX12_best_50 (by decide) (fun cc_50 => ?_) (fun cc_50 => ?_)
    · rw [eH, ei] at cc_50
      exact absurd ((m1_ge (by omega) (by omega)).mp cc_50) (by omega)
    · have ce_50 := Int32.not_le.mp cc_50
      refine ok_iload (pc := 53) dX12_best_53 rfl ?_
      refine ok_aload_n (pc := 55) dX12_best_55 rfl ?_
      refine ok_iload_n (pc := 56) dX12_best_56 rfl ?_
      refine ok_iconst (pc := 57) (v := 2) dX12_best_57 (by decide) ?_
      refine ok_callVi2 (pc := 58) (d' := 0) dX12_best_58 vl_X12_117 hR.o rfl rfl rfl (by decide) ?_
      refine r_kiteIs hR k0 ek 2 rfl (by omega) (by decide) ?_
      refine ok_icmp_eq (pc := 61) 111 dX12_best_61 (by decide) (fun cc_61 => ?_) (fun cc_61 => ?_)
      · have enx : bsS σ k0 n0 (j + 1) = (bsS σ k0 n0 j) := if_pos (by rw [← ei]; exact cc_61)
        refine ok_iinc5 (pc := 111) (v := 1) dX12_best_111 (by decide) (by decide) rfl ?_
        refine ok_goto (pc := 114) 42 dX12_best_114 (by decide) ?_
        try refine ok_drop6 ?_
        exact ih (j + 1) _ _ _ _ _ (by omega) (by rw [ei, m1_s]) (by first | (rw [enx]; done) | (rw [enx]; exact e3)) (by first | (rw [enx]; done) | (rw [enx]; exact e4)) hR h2 hs0
      · refine ok_aload_n (pc := 64) dX12_best_64 rfl ?_
        refine ok_getf (pc := 65) dX12_best_65 fl_X12_9 hR.o rfl ?_
        refine ok_bipush (pc := 68) (v := 51) dX12_best_68 (by decide) ?_
        refine ok_bipush (pc := 70) (v := 6) dX12_best_70 (by decide) ?_
        refine ok_iload_n (pc := 72) dX12_best_72 rfl ?_
        refine ok_imul (pc := 73) dX12_best_73 ?_
        refine ok_iadd (pc := 74) dX12_best_74 ?_
        refine ok_iconst (pc := 75) (v := 5) dX12_best_75 (by decide) ?_
        refine ok_iadd (pc := 76) dX12_best_76 ?_
        refine ok_iload (pc := 77) dX12_best_77 rfl ?_
        refine ok_rst0 (pc := 79) (51 + 6 * k0 + 5) dX12_best_79 hR (by simp only [ek, fa_lit, pk_mul, nI_add]) (by omega) (fun M hR => ?_)
        refine ok_aload_n (pc := 80) dX12_best_80 rfl ?_
        refine ok_iload_n (pc := 81) dX12_best_81 rfl ?_
        refine ok_callVv1 (pc := 82) (d' := 10) dX12_best_82 vl_X12_272 hR.o rfl rfl rfl (by decide) ?_
        have hyA : xi = -1 ∨ (xi = nI (iN xi) ∧ iN xi < cH σ ∧ iN xi ≠ hmF σ k0) := by
          rcases Nat.eq_zero_or_pos j with h0 | h0
          · subst h0; left; rw [ei]; rfl
          · right
            have e1 : xi = nI (j - 1) := by rw [ei, fa_lit 1, pk_sub (by omega)]
            have e2 : iN xi = j - 1 := by rw [e1]; exact nI_clamp (by omega)
            rw [e2]
            refine ⟨e1, by omega, fun h9 => cc_61 ?_⟩
            rw [e1, ehm, h9]
        have hIA := Inv_aim hI hk hyA
        have hcA : cT (upd σ (51 + 6 * k0 + 5) xi) = cT σ := by unfold cT; rw [upd_ne (by omega)]
        refine r_hoursGo hR n0 en hn hIA (by omega) (fun M rb hR hs => ?_)
        have h2 : rb 2 = σ := (hs 2 (by decide) (by decide)).trans h2
        have hs0 := hs0.tr hs.vs
        refine ok_aload_n (pc := 85) dX12_best_85 rfl ?_
        refine ok_aload_n (pc := 86) dX12_best_86 rfl ?_
        refine ok_getf (pc := 87) dX12_best_87 fl_X12_9 hR.o rfl ?_
        refine ok_iconst (pc := 90) (v := 4) dX12_best_90 (by decide) ?_
        refine ok_iald (pc := 91) (4) dX12_best_91 hR.a0 rfl (by decide) (by decide) ?_
        refine ok_callVi1 (pc := 92) (d' := 1) dX12_best_92 vl_X12_282 hR.o rfl rfl rfl (by decide) ?_
        refine r_putBack hR (fun M hR => ?_)
        rw [h2] at hR
        refine ok_istore6 (pc := 95) dX12_best_95 (by decide) rfl ?_
        refine ok_iload (pc := 97) dX12_best_97 rfl ?_
        refine ok_iload (pc := 99) dX12_best_99 rfl ?_
        refine ok_icmp_le (pc := 101) 111 dX12_best_101 (by decide) (fun cc_101 => ?_) (fun cc_101 => ?_)
        · have ce_101 := Int32.not_lt.mpr cc_101
          have enx : bsS σ k0 n0 (j + 1) = (bsS σ k0 n0 j) := (if_neg (by rw [← ei]; exact cc_61)).trans (if_neg (by rw [← ei, ← e4]; exact ce_101))
          refine ok_iinc5 (pc := 111) (v := 1) dX12_best_111 (by decide) (by decide) rfl ?_
          refine ok_goto (pc := 114) 42 dX12_best_114 (by decide) ?_
          try refine ok_drop6 ?_
          exact ih (j + 1) _ _ _ _ _ (by omega) (by rw [ei, m1_s]) (by first | (rw [enx]; done) | (rw [enx]; exact e3)) (by first | (rw [enx]; done) | (rw [enx]; exact e4)) hR h2 hs0
        · have ce_101 := Int32.not_le.mp cc_101
          have enx : bsS σ k0 n0 (j + 1) = (xi, hrsF (upd σ (51 + 6 * k0 + 5) xi) n0 4) := (if_neg (by rw [← ei]; exact cc_61)).trans ((if_pos (by rw [← ei, ← e4]; exact ce_101)).trans (by rw [← ei]))
          refine ok_iload (pc := 104) dX12_best_104 rfl ?_
          refine ok_istore4 (pc := 106) dX12_best_106 (by decide) rfl ?_
          refine ok_iload (pc := 108) dX12_best_108 rfl ?_
          refine ok_istore_n3 (pc := 110) dX12_best_110 (by decide) rfl ?_
          refine ok_iinc5 (pc := 111) (v := 1) dX12_best_111 (by decide) (by decide) rfl ?_
          refine ok_goto (pc := 114) 42 dX12_best_114 (by decide) ?_
          try refine ok_drop6 ?_
          exact ih (j + 1) _ _ _ _ _ (by omega) (by rw [ei, m1_s]) (by first | (rw [enx]; done) | (rw [enx]; exact e3)) (by first | (rw [enx]; done) | (rw [enx]; exact e4)) hR h2 hs0

set_option maxHeartbeats 1000000 in
theorem r_best {Γ : Cx} {m sz : Nat} {M0 M : Nat → Option va_E} {σ κ vi : Rw} {va : Nat → Rw} {K : Int32 → Wd → Prop} (hW : RefW Γ m M0 σ κ vi va M) (hI : Inv σ) (hc9 : cT σ ≤ 9999) {x y : Int32} (k : ∀ M', RefW Γ m M0 σ κ vi (eU va (op_best σ x y).1) M' → K (op_best σ x y).2 (M', sz)) : Spec Γ mX12_best 11 0 [.ref m, .int x, .int y] (M, sz) (ci K) := by
  obtain ⟨ri, ra, hR, hv, hw⟩ := hW
  obtain ⟨⟨⟨eH, lH⟩, ⟨eK, lK⟩, ⟨eL, lL⟩, ⟨eA, lA⟩, ⟨eT, lT⟩⟩, iK, iH, iW, iL, iO, iB, hT⟩ := id hI
  
  refine spec_in [some (.ref m), some (.int x), some (.int y), none, none, none, none] 4 (by decide) rfl rfl ?_
  refine ok_aload_n (pc := 0) dX12_best_0 rfl ?_
  refine ok_iload_n (pc := 1) dX12_best_1 rfl ?_
  refine ok_iconst (pc := 2) (v := 2) dX12_best_2 (by decide) ?_
  refine ok_callVi2 (pc := 3) (d' := 1) dX12_best_3 vl_X12_100 hR.o rfl rfl rfl (by decide) ?_
  refine r_is hR 2 rfl (by decide) ?_
  refine ok_if_eq (pc := 6) 16 dX12_best_6 (by decide) (fun cc_6 => ?_) (fun cc_6 => ?_)
  · have cq_6 := bI_0.mp cc_6
    refine ok_aload_n (pc := 16) dX12_best_16 rfl ?_
    refine ok_ldc (pc := 17) (v := -1000000001) dX12_best_17 tw_1205 ?_
    refine ok_callVi1 (pc := 19) (d' := 0) dX12_best_19 vl_X12_84 hR.o rfl rfl rfl (by decide) ?_
    refine r_finding hR 1 (by decide) (by decide) (fun M hR => ?_)
    refine ok_iret (pc := 22) dX12_best_22 rfl ?_
    have eo : op_best σ x y = (1, -1000000001) := by simp [op_best, cq_6]
    rw [eo] at k
    exact k _ (RefW.err 1 (by decide) hR hv hw)
  · have cq_6 := bI_n0.mp cc_6
    refine ok_iload_n (pc := 9) dX12_best_9 rfl ?_
    refine ok_callSi1 (pc := 10) (d' := 1) dX12_best_10 sl_X12_279 rfl (by decide) ?_
    refine r_isAhead ?_
    refine ok_if_ne (pc := 13) 23 dX12_best_13 (by decide) (fun cc_13 => ?_) (fun cc_13 => ?_)
    · have cq_13 := bI_n0.mp cc_13
      refine ok_aload_n (pc := 23) dX12_best_23 rfl ?_
      refine ok_getf (pc := 24) dX12_best_24 fl_X12_9 hR.o rfl ?_
      refine ok_aload_n (pc := 27) dX12_best_27 rfl ?_
      refine ok_getf (pc := 28) dX12_best_28 fl_X12_16 hR.o rfl ?_
      refine ok_callSv2 (pc := 31) (d' := 0) dX12_best_31 sl_X12_79 rfl (by decide) ?_
      refine r_copy hR.a0 hR.a2 (by omega) ?_
      have hR := hR.s2 σ
      refine ok_iconst (pc := 34) (v := -1) dX12_best_34 (by decide) ?_
      refine ok_istore_n3 (pc := 35) dX12_best_35 (by decide) rfl ?_
      refine ok_iconst (pc := 36) (v := -1) dX12_best_36 (by decide) ?_
      refine ok_istore4 (pc := 37) dX12_best_37 (by decide) rfl ?_
      refine ok_iconst (pc := 39) (v := -1) dX12_best_39 (by decide) ?_
      refine ok_istore5 (pc := 40) dX12_best_40 (by decide) rfl ?_
      obtain ⟨ea, la⟩ := wi_cnt eK (by omega) cq_6
      obtain ⟨eb, -, lb⟩ := wi_lit (a := 0) (c := 72) rfl rfl (by decide) (by decide) cq_13
      have eo : op_best σ x y = (0, (bsS σ (iN x) (iN y) (cH σ + 1)).1) := by simp [op_best, cq_6, cq_13]
      rw [eo] at k
      exact l_best (ra0 := va_up ra 2 σ) (iN x) (iN y) ea eb la lb hI (by omega) (fun M rb hR hs => k _ (RefW.okv hR (Vs.up2.tr hs) hv hw)) (cH σ + 1) 0 _ _ _ _ _ (by omega) rfl rfl rfl hR vup_eq ⟨rfl, rfl, rfl, rfl, rfl⟩
    · have cq_13 := bI_0.mp cc_13
      refine ok_aload_n (pc := 16) dX12_best_16 rfl ?_
      refine ok_ldc (pc := 17) (v := -1000000001) dX12_best_17 tw_1205 ?_
      refine ok_callVi1 (pc := 19) (d' := 0) dX12_best_19 vl_X12_84 hR.o rfl rfl rfl (by decide) ?_
      refine r_finding hR 1 (by decide) (by decide) (fun M hR => ?_)
      refine ok_iret (pc := 22) dX12_best_22 rfl ?_
      have eo : op_best σ x y = (1, -1000000001) := by simp [op_best, cq_6, cq_13]
      rw [eo] at k
      exact k _ (RefW.err 1 (by decide) hR hv hw)
