set_option maxHeartbeats 1000000 in
theorem l_part0 {Γ : Cx} {t u r tn sz : Nat} {σ : Rw} {s : Ps} {M : Nat → Option va_E} {K : Wd → Prop} (hu : u < 2) (e6 : σ 6 = nI tn) (ht : tn ≤ 50) (hB : InvB σ) (hrt : r + 2 ≤ t) (hs : s.1 ≤ tn) (hc : s.2.2.1 ≤ s.1) (hT : TxP Γ M t u r s) (hR : rwR Γ M r 50 (σ 6) (fun j => σ (195 + j))) {op : Nat} (hop : op = 5) (k : ∀ M', TxP Γ M' t u r (ptF σ u 0 s) → OfT t M M' → K (M', sz)) : Ok Γ mX10_readPart 5 0 19 [some (.ref t), some (.int (nI op)), some (.int (hdF σ s)), none] [.ref (sK Γ u)] (M, sz) (cv K) := by
  have hO : OfT t M M := OfT.rf
  have hch : Ch (hdF σ s) := hd_ch hB (by omega)
  obtain ⟨n1, n2⟩ := nm_ok hu hch
  refine ok_iload_n (pc := 19) dX10_readPart_19 rfl ?_
  refine ok_callSi2 (pc := 20) (d' := 4) dX10_readPart_20 sl_X10_89 rfl (by omega) ?_
  refine t_indexIn (show u < 7 by omega) ?_
  refine ok_istore_n3 (pc := 23) dX10_readPart_23 (by decide) rfl ?_
  refine ok_iload_n (pc := 24) dX10_readPart_24 rfl ?_
  refine ok_callSi1 (pc := 25) (d' := 0) dX10_readPart_25 sl_X10_97 rfl (by omega) ?_
  refine t_isDigit ?_
  refine ok_if_eq (pc := 28) 38 dX10_readPart_28 (by decide) (fun cc_28 => ?_) (fun cc_28 => ?_)
  · have cq_28 := bI_0.mp cc_28
    refine ok_iload_n (pc := 38) dX10_readPart_38 rfl ?_
    refine ok_if_lt (pc := 39) 66 dX10_readPart_39 (by decide) (fun cc_39 => ?_) (fun cc_39 => ?_)
    · have ce_39 := Int32.not_le.mpr cc_39
      refine ok_iload_n (pc := 66) dX10_readPart_66 rfl ?_
      refine ok_bipush (pc := 67) (v := 33) dX10_readPart_67 (by decide) ?_
      refine ok_icmp_ne (pc := 69) 107 dX10_readPart_69 (by decide) (fun cc_69 => ?_) (fun cc_69 => ?_)
      · refine ok_iload_n (pc := 107) dX10_readPart_107 rfl ?_
        refine ok_bipush (pc := 108) (v := 40) dX10_readPart_108 (by decide) ?_
        refine ok_icmp_ne (pc := 110) 143 dX10_readPart_110 (by decide) (fun cc_110 => ?_) (fun cc_110 => ?_)
        · refine ok_aload_n (pc := 143) dX10_readPart_143 rfl ?_
          refine ok_iconst (pc := 144) (v := 1) dX10_readPart_144 (by decide) ?_
          refine ok_twr (pc := 145) dX10_readPart_145 pl_X10_45 hT (fun M hT hO2 => ?_)
          have hR := hR.tr (hO2 _ (by omega) (by omega) (by omega)) (hO2 _ (by omega) (by omega) (by omega)) rfl (fun _ _ => rfl)
          have hO := hO.tr hO2
          refine ok_vret (pc := 148) dX10_readPart_148 rfl ?_
          have e9 : ptF σ u 0 s = wrF s := by
            by_cases hp : hdF σ s = 33 ∨ hdF σ s = 40
            · exact (if_pos hp).trans (if_pos rfl)
            · exact (if_neg hp).trans ((if_neg (by rw [cq_28]; decide)).trans (if_pos (n1.mp cc_39)))
          rw [e9] at k
          exact k _ hT hO
        · refine ok_iload_n (pc := 113) dX10_readPart_113 rfl ?_
          refine ok_iconst (pc := 114) (v := 5) dX10_readPart_114 (by decide) ?_
          refine ok_icmp_ge (pc := 115) 143 dX10_readPart_115 (by decide) (fun cc_115 => ?_) (fun cc_115 => ?_)
          · have ce_115 := Int32.not_lt.mpr cc_115
            refine ok_aload_n (pc := 143) dX10_readPart_143 rfl ?_
            refine ok_iconst (pc := 144) (v := 1) dX10_readPart_144 (by decide) ?_
            refine ok_twr (pc := 145) dX10_readPart_145 pl_X10_45 hT (fun M hT hO2 => ?_)
            have hR := hR.tr (hO2 _ (by omega) (by omega) (by omega)) (hO2 _ (by omega) (by omega) (by omega)) rfl (fun _ _ => rfl)
            have hO := hO.tr hO2
            refine ok_vret (pc := 148) dX10_readPart_148 rfl ?_
            have e9 : ptF σ u 0 s = wrF s := by
              by_cases hp : hdF σ s = 33 ∨ hdF σ s = 40
              · exact (if_pos hp).trans (if_pos rfl)
              · exact (if_neg hp).trans ((if_neg (by rw [cq_28]; decide)).trans (if_pos (n1.mp cc_39)))
            rw [e9] at k
            exact k _ hT hO
          · rw [hop] at cc_115
            exact absurd (by decide) cc_115
      · refine ok_iload_n (pc := 72) dX10_readPart_72 rfl ?_
        refine ok_iconst (pc := 73) (v := 5) dX10_readPart_73 (by decide) ?_
        refine ok_icmp_ge (pc := 74) 107 dX10_readPart_74 (by decide) (fun cc_74 => ?_) (fun cc_74 => ?_)
        · have ce_74 := Int32.not_lt.mpr cc_74
          refine ok_iload_n (pc := 107) dX10_readPart_107 rfl ?_
          refine ok_bipush (pc := 108) (v := 40) dX10_readPart_108 (by decide) ?_
          refine ok_icmp_ne (pc := 110) 143 dX10_readPart_110 (by decide) (fun cc_110 => ?_) (fun cc_110 => ?_)
          · refine ok_aload_n (pc := 143) dX10_readPart_143 rfl ?_
            refine ok_iconst (pc := 144) (v := 1) dX10_readPart_144 (by decide) ?_
            refine ok_twr (pc := 145) dX10_readPart_145 pl_X10_45 hT (fun M hT hO2 => ?_)
            have hR := hR.tr (hO2 _ (by omega) (by omega) (by omega)) (hO2 _ (by omega) (by omega) (by omega)) rfl (fun _ _ => rfl)
            have hO := hO.tr hO2
            refine ok_vret (pc := 148) dX10_readPart_148 rfl ?_
            have e9 : ptF σ u 0 s = wrF s := by
              by_cases hp : hdF σ s = 33 ∨ hdF σ s = 40
              · exact (if_pos hp).trans (if_pos rfl)
              · exact (if_neg hp).trans ((if_neg (by rw [cq_28]; decide)).trans (if_pos (n1.mp cc_39)))
            rw [e9] at k
            exact k _ hT hO
          · refine ok_iload_n (pc := 113) dX10_readPart_113 rfl ?_
            refine ok_iconst (pc := 114) (v := 5) dX10_readPart_114 (by decide) ?_
            refine ok_icmp_ge (pc := 115) 143 dX10_readPart_115 (by decide) (fun cc_115 => ?_) (fun cc_115 => ?_)
            · have ce_115 := Int32.not_lt.mpr cc_115
              refine ok_aload_n (pc := 143) dX10_readPart_143 rfl ?_
              refine ok_iconst (pc := 144) (v := 1) dX10_readPart_144 (by decide) ?_
              refine ok_twr (pc := 145) dX10_readPart_145 pl_X10_45 hT (fun M hT hO2 => ?_)
              have hR := hR.tr (hO2 _ (by omega) (by omega) (by omega)) (hO2 _ (by omega) (by omega) (by omega)) rfl (fun _ _ => rfl)
              have hO := hO.tr hO2
              refine ok_vret (pc := 148) dX10_readPart_148 rfl ?_
              have e9 : ptF σ u 0 s = wrF s := by
                by_cases hp : hdF σ s = 33 ∨ hdF σ s = 40
                · exact (if_pos hp).trans (if_pos rfl)
                · exact (if_neg hp).trans ((if_neg (by rw [cq_28]; decide)).trans (if_pos (n1.mp cc_39)))
              rw [e9] at k
              exact k _ hT hO
            · rw [hop] at cc_115
              exact absurd (by decide) cc_115
        · rw [hop] at cc_74
          exact absurd (by decide) cc_74
    · have ce_39 := Int32.not_lt.mp cc_39
      obtain ⟨n3, n4, n5, -⟩ := n2 cc_39
      have hne : hdF σ s ≠ -1 := fun e => cc_39 (n1.mpr (Or.inl (by rw [e]; decide)))
      obtain ⟨hw9, hlt, -⟩ := hd_in e6 ht hs hne
      refine ok_aload_n (pc := 42) dX10_readPart_42 rfl ?_
      refine ok_dup (pc := 43) dX10_readPart_43 rfl ?_
      refine ok_getf (pc := 44) dX10_readPart_44 fl_X10_42 hT.1 rfl ?_
      refine ok_iconst (pc := 47) (v := 1) dX10_readPart_47 (by decide) ?_
      refine ok_iadd (pc := 48) dX10_readPart_48 ?_
      refine ok_tad (pc := 49) dX10_readPart_49 pl_X10_42 hT (fun M hT hO2 => ?_)
      have hR := hR.tr (hO2 _ (by omega) (by omega) (by omega)) (hO2 _ (by omega) (by omega) (by omega)) rfl (fun _ _ => rfl)
      have hO := hO.tr hO2
      refine ok_aload_n (pc := 52) dX10_readPart_52 rfl ?_
      obtain ⟨-, dn9, df9, -, hdr, -, -⟩ := id hT
      refine ok_getf (pc := 53) dX10_readPart_53 fl_X10_20 hT.1 rfl ?_
      refine ok_iconst (pc := 56) (v := -1) dX10_readPart_56 (by decide) ?_
      refine ok_iload_n (pc := 57) dX10_readPart_57 rfl ?_
      refine ok_isub (pc := 58) dX10_readPart_58 ?_
      refine ok_callVi1 (pc := 59) (d' := 0) dX10_readPart_59 vl_X10_31 hdr rfl rfl rfl (by omega) ?_
      refine t_add (c := 10000 + nmF u (hdF σ s)) hT (fun _ => by show s.2.2.1 < 50; omega) (fun _ => by rw [n3, n4]) (fun M b9 hT hO2 => ?_)
      have e9 : ptF σ u 0 s = adF (emF s (10000 + nmF u (hdF σ s))) := (if_neg n5).trans ((if_neg (by rw [cq_28]; decide)).trans (if_neg (fun h => cc_39 (n1.mpr h))))
      have e8 : emF (adF s) (10000 + nmF u (hdF σ s)) = adF (emF s (10000 + nmF u (hdF σ s))) := by
        unfold emF adF
        split
        · rfl
        · rfl
      rw [e8] at hT
      refine ok_pop (pc := 62) dX10_readPart_62 rfl ?_
      refine ok_goto (pc := 63) 148 dX10_readPart_63 (by decide) ?_
      refine ok_vret (pc := 148) dX10_readPart_148 rfl ?_
      rw [e9] at k
      exact k _ hT (hO.tr hO2)
  · have cq_28 := bI_n0.mp cc_28
    refine ok_aload_n (pc := 31) dX10_readPart_31 rfl ?_
    refine ok_callVv0 (pc := 32) (d' := 2) dX10_readPart_32 vl_X10_100 hT.1 rfl rfl rfl (by omega) ?_
    obtain ⟨-, hlt, -⟩ := hd_in e6 ht hs (wi_pos cq_28)
    refine t_number e6 ht hs hT hR hrt (fun _ => by omega) (fun M hT hO2 => ?_)
    have e9 : ptF σ u 0 s = emF (dgF σ 4 0 s).2 (dgF σ 4 0 s).1 := (if_neg (dg_np cq_28)).trans (if_pos cq_28)
    refine ok_goto (pc := 35) 148 dX10_readPart_35 (by decide) ?_
    refine ok_vret (pc := 148) dX10_readPart_148 rfl ?_
    rw [e9] at k
    exact k _ hT (hO.tr hO2)

set_option maxHeartbeats 1000000 in
theorem l_partS {Γ : Cx} {t u r tn sz : Nat} {σ : Rw} {s : Ps} {M : Nat → Option va_E} {K : Wd → Prop} (hu : u < 2) (e6 : σ 6 = nI tn) (ht : tn ≤ 50) (hB : InvB σ) (hrt : r + 2 ≤ t) (hs : s.1 ≤ tn) (hc : s.2.2.1 ≤ s.1) (hT : TxP Γ M t u r s) (hR : rwR Γ M r 50 (σ 6) (fun j => σ (195 + j))) {op o : Nat} (hop : op + (o + 1) = 5) (ih : HC Γ t u r tn sz σ mX10_readPart (5 + 12 * o) [.int (nI (op + 1))] (ptF σ u o)) (k : ∀ M', TxP Γ M' t u r (ptF σ u (o + 1) s) → OfT t M M' → K (M', sz)) : Ok Γ mX10_readPart (5 + 12 * (o + 1)) 0 19 [some (.ref t), some (.int (nI op)), some (.int (hdF σ s)), none] [.ref (sK Γ u)] (M, sz) (cv K) := by
  have hO : OfT t M M := OfT.rf
  have hch : Ch (hdF σ s) := hd_ch hB (by omega)
  obtain ⟨n1, n2⟩ := nm_ok hu hch
  refine ok_iload_n (pc := 19) dX10_readPart_19 rfl ?_
  refine ok_callSi2 (pc := 20) (d' := 4) dX10_readPart_20 sl_X10_89 rfl (by omega) ?_
  refine t_indexIn (show u < 7 by omega) ?_
  refine ok_istore_n3 (pc := 23) dX10_readPart_23 (by decide) rfl ?_
  refine ok_iload_n (pc := 24) dX10_readPart_24 rfl ?_
  refine ok_callSi1 (pc := 25) (d' := 0) dX10_readPart_25 sl_X10_97 rfl (by omega) ?_
  refine t_isDigit ?_
  refine ok_if_eq (pc := 28) 38 dX10_readPart_28 (by decide) (fun cc_28 => ?_) (fun cc_28 => ?_)
  · have cq_28 := bI_0.mp cc_28
    refine ok_iload_n (pc := 38) dX10_readPart_38 rfl ?_
    refine ok_if_lt (pc := 39) 66 dX10_readPart_39 (by decide) (fun cc_39 => ?_) (fun cc_39 => ?_)
    · have ce_39 := Int32.not_le.mpr cc_39
      refine ok_iload_n (pc := 66) dX10_readPart_66 rfl ?_
      refine ok_bipush (pc := 67) (v := 33) dX10_readPart_67 (by decide) ?_
      refine ok_icmp_ne (pc := 69) 107 dX10_readPart_69 (by decide) (fun cc_69 => ?_) (fun cc_69 => ?_)
      · refine ok_iload_n (pc := 107) dX10_readPart_107 rfl ?_
        refine ok_bipush (pc := 108) (v := 40) dX10_readPart_108 (by decide) ?_
        refine ok_icmp_ne (pc := 110) 143 dX10_readPart_110 (by decide) (fun cc_110 => ?_) (fun cc_110 => ?_)
        · refine ok_aload_n (pc := 143) dX10_readPart_143 rfl ?_
          refine ok_iconst (pc := 144) (v := 1) dX10_readPart_144 (by decide) ?_
          refine ok_twr (pc := 145) dX10_readPart_145 pl_X10_45 hT (fun M hT hO2 => ?_)
          have hR := hR.tr (hO2 _ (by omega) (by omega) (by omega)) (hO2 _ (by omega) (by omega) (by omega)) rfl (fun _ _ => rfl)
          have hO := hO.tr hO2
          refine ok_vret (pc := 148) dX10_readPart_148 rfl ?_
          have hp : ¬ (hdF σ s = 33 ∨ hdF σ s = 40) := fun h => h.elim cc_69 cc_110
          have e9 : ptF σ u (o + 1) s = wrF s := (if_neg hp).trans ((if_neg (by rw [cq_28]; decide)).trans (if_pos (n1.mp cc_39)))
          rw [e9] at k
          exact k _ hT hO
        · refine ok_iload_n (pc := 113) dX10_readPart_113 rfl ?_
          refine ok_iconst (pc := 114) (v := 5) dX10_readPart_114 (by decide) ?_
          refine ok_icmp_ge (pc := 115) 143 dX10_readPart_115 (by decide) (fun cc_115 => ?_) (fun cc_115 => ?_)
          · exact absurd cc_115 (nI_ge (b := 5) (show op < 5 by omega) (by decide))
          · have ce_115 := Int32.not_le.mp cc_115
            have hne : hdF σ s ≠ -1 := by rw [cc_110]; decide
            obtain ⟨hw9, hlt, -⟩ := hd_in e6 ht hs hne
            refine ok_aload_n (pc := 118) dX10_readPart_118 rfl ?_
            refine ok_dup (pc := 119) dX10_readPart_119 rfl ?_
            refine ok_getf (pc := 120) dX10_readPart_120 fl_X10_42 hT.1 rfl ?_
            refine ok_iconst (pc := 123) (v := 1) dX10_readPart_123 (by decide) ?_
            refine ok_iadd (pc := 124) dX10_readPart_124 ?_
            refine ok_tad (pc := 125) dX10_readPart_125 pl_X10_42 hT (fun M hT hO2 => ?_)
            have hR := hR.tr (hO2 _ (by omega) (by omega) (by omega)) (hO2 _ (by omega) (by omega) (by omega)) rfl (fun _ _ => rfl)
            have hO := hO.tr hO2
            refine ok_aload_n (pc := 128) dX10_readPart_128 rfl ?_
            refine ok_iconst (pc := 129) (v := 0) dX10_readPart_129 (by decide) ?_
            refine ok_iload_n (pc := 130) dX10_readPart_130 rfl ?_
            refine ok_iconst (pc := 131) (v := 1) dX10_readPart_131 (by decide) ?_
            refine ok_iadd (pc := 132) dX10_readPart_132 ?_
            refine ok_callVv2 (pc := 133) (d' := (5 + 12 * o + 1 + 2 * 5)) dX10_readPart_133 vl_X10_52 hT.1 rfl rfl rfl (by omega) ?_
            rw [nI_1]
            refine t_level e6 ht hB hrt (dP := 5 + 12 * o) (by omega) ih (Mn.ptF (u := u) e6 ht o) 5 (Nat.le_refl _) (adF s) _ _ hlt (Nat.le_succ_of_le hc) hT hR (fun M hT hO2 => ?_)
            have m5 := Mn.lv e6 ht (Mn.ptF (u := u) e6 ht o) 5 (adF s) hlt
            have hR := hR.tr (hO2 _ (by omega) (by omega) (by omega)) (hO2 _ (by omega) (by omega) (by omega)) rfl (fun _ _ => rfl)
            have hO := hO.tr hO2
            refine ok_aload_n (pc := 136) dX10_readPart_136 rfl ?_
            refine ok_callVv0 (pc := 137) (d' := 2) dX10_readPart_137 vl_X10_103 hT.1 rfl rfl rfl (by omega) ?_
            refine t_closing e6 ht m5.2.2 hT hR hrt (fun M hT hO2 => ?_)
            have e9 : ptF σ u (o + 1) s = clF σ (lvG σ (ptF σ u o) 5 (adF s)) := (if_pos (Or.inr cc_110)).trans ((if_neg (by decide)).trans (if_neg (by rw [cc_110]; decide)))
            refine ok_goto (pc := 140) 148 dX10_readPart_140 (by decide) ?_
            refine ok_vret (pc := 148) dX10_readPart_148 rfl ?_
            rw [e9] at k
            exact k _ hT (hO.tr hO2)
      · refine ok_iload_n (pc := 72) dX10_readPart_72 rfl ?_
        refine ok_iconst (pc := 73) (v := 5) dX10_readPart_73 (by decide) ?_
        refine ok_icmp_ge (pc := 74) 107 dX10_readPart_74 (by decide) (fun cc_74 => ?_) (fun cc_74 => ?_)
        · exact absurd cc_74 (nI_ge (b := 5) (show op < 5 by omega) (by decide))
        · have ce_74 := Int32.not_le.mp cc_74
          have hne : hdF σ s ≠ -1 := by rw [cc_69]; decide
          obtain ⟨hw9, hlt, -⟩ := hd_in e6 ht hs hne
          refine ok_aload_n (pc := 77) dX10_readPart_77 rfl ?_
          refine ok_dup (pc := 78) dX10_readPart_78 rfl ?_
          refine ok_getf (pc := 79) dX10_readPart_79 fl_X10_42 hT.1 rfl ?_
          refine ok_iconst (pc := 82) (v := 1) dX10_readPart_82 (by decide) ?_
          refine ok_iadd (pc := 83) dX10_readPart_83 ?_
          refine ok_tad (pc := 84) dX10_readPart_84 pl_X10_42 hT (fun M hT hO2 => ?_)
          have hR := hR.tr (hO2 _ (by omega) (by omega) (by omega)) (hO2 _ (by omega) (by omega) (by omega)) rfl (fun _ _ => rfl)
          have hO := hO.tr hO2
          refine ok_aload_n (pc := 87) dX10_readPart_87 rfl ?_
          refine ok_iload_n (pc := 88) dX10_readPart_88 rfl ?_
          refine ok_iconst (pc := 89) (v := 1) dX10_readPart_89 (by decide) ?_
          refine ok_iadd (pc := 90) dX10_readPart_90 ?_
          refine ok_callVv1 (pc := 91) (d' := (5 + 12 * o)) dX10_readPart_91 vl_X10_78 hT.1 rfl rfl rfl (by omega) ?_
          rw [nI_1]
          refine ih (adF s) _ _ hlt (Nat.le_succ_of_le hc) hT hR (fun M hT hO2 => ?_)
          have hR := hR.tr (hO2 _ (by omega) (by omega) (by omega)) (hO2 _ (by omega) (by omega) (by omega)) rfl (fun _ _ => rfl)
          have hO := hO.tr hO2
          refine ok_aload_n (pc := 94) dX10_readPart_94 rfl ?_
          obtain ⟨-, dn9, df9, -, hdr, -, -⟩ := id hT
          refine ok_getf (pc := 95) dX10_readPart_95 fl_X10_20 hT.1 rfl ?_
          refine ok_bipush (pc := 98) (v := -33) dX10_readPart_98 (by decide) ?_
          refine ok_callVi1 (pc := 100) (d' := 0) dX10_readPart_100 vl_X10_31 hdr rfl rfl rfl (by omega) ?_
          refine t_add (c := 20010) hT (fun _ => by have h9 := (Mn.ptF (u := u) e6 ht o (adF s) hlt).2.1; have h7 := (Mn.ptF (u := u) e6 ht o (adF s) hlt).2.2; have e1 : (adF s).1 = s.1 + 1 := rfl; have e2 : (adF s).2.2.1 = s.2.2.1 := rfl; omega) (fun _ => by decide) (fun M b9 hT hO2 => ?_)
          have e9 : ptF σ u (o + 1) s = emF (ptF σ u o (adF s)) 20010 := (if_pos (Or.inl cc_69)).trans ((if_neg (by decide)).trans (if_pos cc_69))
          refine ok_pop (pc := 103) dX10_readPart_103 rfl ?_
          refine ok_goto (pc := 104) 148 dX10_readPart_104 (by decide) ?_
          refine ok_vret (pc := 148) dX10_readPart_148 rfl ?_
          rw [e9] at k
          exact k _ hT (hO.tr hO2)
    · have ce_39 := Int32.not_lt.mp cc_39
      obtain ⟨n3, n4, n5, -⟩ := n2 cc_39
      have hne : hdF σ s ≠ -1 := fun e => cc_39 (n1.mpr (Or.inl (by rw [e]; decide)))
      obtain ⟨hw9, hlt, -⟩ := hd_in e6 ht hs hne
      refine ok_aload_n (pc := 42) dX10_readPart_42 rfl ?_
      refine ok_dup (pc := 43) dX10_readPart_43 rfl ?_
      refine ok_getf (pc := 44) dX10_readPart_44 fl_X10_42 hT.1 rfl ?_
      refine ok_iconst (pc := 47) (v := 1) dX10_readPart_47 (by decide) ?_
      refine ok_iadd (pc := 48) dX10_readPart_48 ?_
      refine ok_tad (pc := 49) dX10_readPart_49 pl_X10_42 hT (fun M hT hO2 => ?_)
      have hR := hR.tr (hO2 _ (by omega) (by omega) (by omega)) (hO2 _ (by omega) (by omega) (by omega)) rfl (fun _ _ => rfl)
      have hO := hO.tr hO2
      refine ok_aload_n (pc := 52) dX10_readPart_52 rfl ?_
      obtain ⟨-, dn9, df9, -, hdr, -, -⟩ := id hT
      refine ok_getf (pc := 53) dX10_readPart_53 fl_X10_20 hT.1 rfl ?_
      refine ok_iconst (pc := 56) (v := -1) dX10_readPart_56 (by decide) ?_
      refine ok_iload_n (pc := 57) dX10_readPart_57 rfl ?_
      refine ok_isub (pc := 58) dX10_readPart_58 ?_
      refine ok_callVi1 (pc := 59) (d' := 0) dX10_readPart_59 vl_X10_31 hdr rfl rfl rfl (by omega) ?_
      refine t_add (c := 10000 + nmF u (hdF σ s)) hT (fun _ => by show s.2.2.1 < 50; omega) (fun _ => by rw [n3, n4]) (fun M b9 hT hO2 => ?_)
      have e9 : ptF σ u (o + 1) s = adF (emF s (10000 + nmF u (hdF σ s))) := (if_neg n5).trans ((if_neg (by rw [cq_28]; decide)).trans (if_neg (fun h => cc_39 (n1.mpr h))))
      have e8 : emF (adF s) (10000 + nmF u (hdF σ s)) = adF (emF s (10000 + nmF u (hdF σ s))) := by
        unfold emF adF
        split
        · rfl
        · rfl
      rw [e8] at hT
      refine ok_pop (pc := 62) dX10_readPart_62 rfl ?_
      refine ok_goto (pc := 63) 148 dX10_readPart_63 (by decide) ?_
      refine ok_vret (pc := 148) dX10_readPart_148 rfl ?_
      rw [e9] at k
      exact k _ hT (hO.tr hO2)
  · have cq_28 := bI_n0.mp cc_28
    refine ok_aload_n (pc := 31) dX10_readPart_31 rfl ?_
    refine ok_callVv0 (pc := 32) (d' := 2) dX10_readPart_32 vl_X10_100 hT.1 rfl rfl rfl (by omega) ?_
    obtain ⟨-, hlt, -⟩ := hd_in e6 ht hs (wi_pos cq_28)
    refine t_number e6 ht hs hT hR hrt (fun _ => by omega) (fun M hT hO2 => ?_)
    have e9 : ptF σ u (o + 1) s = emF (dgF σ 4 0 s).2 (dgF σ 4 0 s).1 := (if_neg (dg_np cq_28)).trans (if_pos cq_28)
    refine ok_goto (pc := 35) 148 dX10_readPart_35 (by decide) ?_
    refine ok_vret (pc := 148) dX10_readPart_148 rfl ?_
    rw [e9] at k
    exact k _ hT (hO.tr hO2)

set_option maxHeartbeats 1000000 in
theorem t_part {Γ : Cx} {t u r tn sz : Nat} {σ : Rw} (hu : u < 2) (e6 : σ 6 = nI tn) (ht : tn ≤ 50) (hB : InvB σ) (hrt : r + 2 ≤ t) : ∀ (o op : Nat), op + o = 5 → HC Γ t u r tn sz σ mX10_readPart (5 + 12 * o) [.int (nI op)] (ptF σ u o) := by
  intro o
  induction o with
  | zero =>
    intro op hop s M K hs hc hT hR k
    refine spec_in [some (.ref t), some (.int (nI op)), none, none] 2 (by decide) rfl rfl ?_
    refine ok_aload_n (pc := 0) dX10_readPart_0 rfl ?_
    refine ok_callVi0 (pc := 1) (d' := 1) dX10_readPart_1 vl_X10_85 hT.1 rfl rfl rfl (by omega) ?_
    refine t_next e6 ht hs hT hR ?_
    refine ok_istore_n2 (pc := 4) dX10_readPart_4 (by decide) rfl ?_
    refine ok_aload_n (pc := 5) dX10_readPart_5 rfl ?_
    refine ok_getf (pc := 6) dX10_readPart_6 fl_X10_27 hT.1 rfl ?_
    refine ok_if_ne (pc := 9) 17 dX10_readPart_9 (by decide) (fun cc_9 => ?_) (fun cc_9 => ?_)
    · have hu1 : u = 1 := by
        rcases (show u = 0 ∨ u = 1 by omega) with g | g
        · exact absurd (by rw [g]; rfl) cc_9
        · exact g
      refine ok_ldcS (pc := 17) 11 dX10_readPart_17 (List.mem_of_getElem? (i := 1) rfl) ?_
      first
        | (subst hu1; exact l_part0 (by decide) e6 ht hB hrt hs hc hT hR (show op = 5 by omega) k)
        | (subst hu0; exact l_part0 (by decide) e6 ht hB hrt hs hc hT hR (show op = 5 by omega) k)
    · have hu0 : u = 0 := by
        rcases (show u = 0 ∨ u = 1 by omega) with g | g
        · exact g
        · rw [g] at cc_9
          exact absurd cc_9 (by decide)
      refine ok_ldcS (pc := 12) 10 dX10_readPart_12 (List.mem_of_getElem? (i := 0) rfl) ?_
      refine ok_goto (pc := 14) 19 dX10_readPart_14 (by decide) ?_
      first
        | (subst hu1; exact l_part0 (by decide) e6 ht hB hrt hs hc hT hR (show op = 5 by omega) k)
        | (subst hu0; exact l_part0 (by decide) e6 ht hB hrt hs hc hT hR (show op = 5 by omega) k)
  | succ o ih =>
    intro op hop s M K hs hc hT hR k
    have ih9 := ih (op + 1) (by omega)
    refine spec_in [some (.ref t), some (.int (nI op)), none, none] 2 (by decide) rfl rfl ?_
    refine ok_aload_n (pc := 0) dX10_readPart_0 rfl ?_
    refine ok_callVi0 (pc := 1) (d' := 1) dX10_readPart_1 vl_X10_85 hT.1 rfl rfl rfl (by omega) ?_
    refine t_next e6 ht hs hT hR ?_
    refine ok_istore_n2 (pc := 4) dX10_readPart_4 (by decide) rfl ?_
    refine ok_aload_n (pc := 5) dX10_readPart_5 rfl ?_
    refine ok_getf (pc := 6) dX10_readPart_6 fl_X10_27 hT.1 rfl ?_
    refine ok_if_ne (pc := 9) 17 dX10_readPart_9 (by decide) (fun cc_9 => ?_) (fun cc_9 => ?_)
    · have hu1 : u = 1 := by
        rcases (show u = 0 ∨ u = 1 by omega) with g | g
        · exact absurd (by rw [g]; rfl) cc_9
        · exact g
      refine ok_ldcS (pc := 17) 11 dX10_readPart_17 (List.mem_of_getElem? (i := 1) rfl) ?_
      first
        | (subst hu1; exact l_partS (by decide) e6 ht hB hrt hs hc hT hR hop ih9 k)
        | (subst hu0; exact l_partS (by decide) e6 ht hB hrt hs hc hT hR hop ih9 k)
    · have hu0 : u = 0 := by
        rcases (show u = 0 ∨ u = 1 by omega) with g | g
        · exact g
        · rw [g] at cc_9
          exact absurd cc_9 (by decide)
      refine ok_ldcS (pc := 12) 10 dX10_readPart_12 (List.mem_of_getElem? (i := 0) rfl) ?_
      refine ok_goto (pc := 14) 19 dX10_readPart_14 (by decide) ?_
      first
        | (subst hu1; exact l_partS (by decide) e6 ht hB hrt hs hc hT hR hop ih9 k)
        | (subst hu0; exact l_partS (by decide) e6 ht hB hrt hs hc hT hR hop ih9 k)
