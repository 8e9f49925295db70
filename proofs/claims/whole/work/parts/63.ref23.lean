set_option maxHeartbeats 1000000 in
theorem l_move1 {Γ : Cx} {m sz : Nat} {M0 : Nat → Option va_E} {σ κ : Rw} {ri : Nat → Int32} {Q : Option Value → Wd → Prop} {ra0 : Nat → Rw} {x y z w v : Int32} (s i0 o j0 n0 : Nat) (ex : x = nI s) (ey : y = nI i0) (ez : z = nI o) (ew : w = nI j0) (ev : v = nI n0) (hs : s < 4) (ho : o < 4) (hi0 : i0 + n0 ≤ 40) (hj0 : j0 + n0 ≤ 40) (kk : ∀ M' ra' xi, RefX Γ m M0 σ κ ri ra' M' → (∀ q, q ≠ 24 → ra' q = ra0 q) → (∀ q, q < n0 → ra' 24 q = ra0 23 (40 * s + i0 + q)) → Ok Γ mX12_move 2 0 162 [some (.ref m), some (.int x), some (.int y), some (.int z), some (.int w), some (.int v), some (.int xi)] [] (M', sz) Q) : ∀ (n : Nat) (i : Nat) (xi : Int32) (M : Nat → Option va_E) (ra : Nat → Rw), i + n = n0 → xi = nI i → RefX Γ m M0 σ κ ri ra M → (∀ q, q ≠ 24 → ra q = ra0 q) → (∀ q, q < i → ra 24 q = ra0 23 (40 * s + i0 + q)) → Ok Γ mX12_move 2 0 128 [some (.ref m), some (.int x), some (.int y), some (.int z), some (.int w), some (.int v), some (.int xi)] [] (M, sz) Q := by
  intro n
  induction n with
  | zero =>
    intro i xi M ra h1 ei hR ho4 h24
    refine ok_iload (pc := 128) dX12_move_128 rfl ?_
    refine ok_iload (pc := 130) dX12_move_130 rfl ?_
    refine ok_icmp_ge (pc := 132) 162 dX12_move_132 (by decide) (fun cc_132 => ?_) (fun cc_132 => ?_)
    · have e9 : i = n0 := by omega
      subst e9
      exact kk _ _ _ hR ho4 h24
    · exact absurd (by rw [ev, ei]; exact nI_le (by omega) (by omega)) cc_132
  | succ n ih =>
    intro i xi M ra h1 ei hR ho4 h24
    refine ok_iload (pc := 128) dX12_move_128 rfl ?_
    refine ok_iload (pc := 130) dX12_move_130 rfl ?_
    refine ok_icmp_ge (pc := 132) 162 dX12_move_132 (by decide) (fun cc_132 => ?_) (fun cc_132 => ?_)
    · rw [ev, ei] at cc_132
      exact absurd cc_132 (nI_ge (by omega) (by omega))
    · have ce_132 := Int32.not_le.mp cc_132
      refine ok_aload_n (pc := 135) dX12_move_135 rfl ?_
      refine ok_getf (pc := 136) dX12_move_136 fl_X12_62 hR.o rfl ?_
      refine ok_iload (pc := 139) dX12_move_139 rfl ?_
      refine ok_aload_n (pc := 141) dX12_move_141 rfl ?_
      refine ok_getf (pc := 142) dX12_move_142 fl_X12_59 hR.o rfl ?_
      refine ok_bipush (pc := 145) (v := 40) dX12_move_145 (by decide) ?_
      refine ok_iload_n (pc := 147) dX12_move_147 rfl ?_
      refine ok_imul (pc := 148) dX12_move_148 ?_
      refine ok_iload_n (pc := 149) dX12_move_149 rfl ?_
      refine ok_iadd (pc := 150) dX12_move_150 ?_
      refine ok_iload (pc := 151) dX12_move_151 rfl ?_
      refine ok_iadd (pc := 153) dX12_move_153 ?_
      refine ok_iald (pc := 154) (40 * s + i0 + i) dX12_move_154 hR.a23 (by simp only [ex, ey, ei, fa_lit, pk_mul, nI_add]) (by omega) (by decide) ?_
      refine ok_rst24 (pc := 155) (i) dX12_move_155 hR ei (by omega) (fun M hR => ?_)
      refine ok_iinc6 (pc := 156) (v := 1) dX12_move_156 (by decide) (by decide) rfl ?_
      refine ok_goto (pc := 159) 128 dX12_move_159 (by decide) ?_
      exact ih (i + 1) _ _ _ (by omega) (by rw [ei, nI_1]) hR (fun q hq => by rw [vup_ne hq]; exact ho4 q hq) (fun q hq => by
        rw [vup_eq]
        by_cases h9 : q = i
        · subst h9; rw [upd_at, ho4 23 (by decide)]
        · rw [upd_ne h9]; exact h24 q (by omega))

set_option maxHeartbeats 1000000 in
theorem l_move2 {Γ : Cx} {m sz : Nat} {M0 : Nat → Option va_E} {σ κ : Rw} {ri : Nat → Int32} {K : Int32 → Wd → Prop} {ra0 : Nat → Rw} {x y z w v : Int32} (s i0 o j0 n0 : Nat) (ex : x = nI s) (ey : y = nI i0) (ez : z = nI o) (ew : w = nI j0) (ev : v = nI n0) (hs : s < 4) (ho : o < 4) (hi0 : i0 + n0 ≤ 40) (hj0 : j0 + n0 ≤ 40) (nu : Rw) (h24 : ∀ q, q < n0 → ra0 24 q = nu (40 * s + i0 + q)) (k : ∀ M', RefX Γ m M0 σ κ ri (va_up ra0 23 (mvF nu (40 * s + i0) (40 * o + j0) n0)) M' → K v (M', sz)) : ∀ (n : Nat) (i : Nat) (xi : Int32) (M : Nat → Option va_E), i + n = n0 → xi = nI i → RefX Γ m M0 σ κ ri (va_up ra0 23 (mvF nu (40 * s + i0) (40 * o + j0) i)) M → Ok Γ mX12_move 2 0 165 [some (.ref m), some (.int x), some (.int y), some (.int z), some (.int w), some (.int v), some (.int xi)] [] (M, sz) (ci K) := by
  intro n
  induction n with
  | zero =>
    intro i xi M h1 ei hR
    refine ok_iload (pc := 165) dX12_move_165 rfl ?_
    refine ok_iload (pc := 167) dX12_move_167 rfl ?_
    refine ok_icmp_ge (pc := 169) 200 dX12_move_169 (by decide) (fun cc_169 => ?_) (fun cc_169 => ?_)
    · have ce_169 := Int32.not_lt.mpr cc_169
      have e9 : i = n0 := by omega
      subst e9
      refine ok_iload (pc := 200) dX12_move_200 rfl ?_
      refine ok_iret (pc := 202) dX12_move_202 rfl ?_
      exact k _ hR
    · exact absurd (by rw [ev, ei]; exact nI_le (by omega) (by omega)) cc_169
  | succ n ih =>
    intro i xi M h1 ei hR
    refine ok_iload (pc := 165) dX12_move_165 rfl ?_
    refine ok_iload (pc := 167) dX12_move_167 rfl ?_
    refine ok_icmp_ge (pc := 169) 200 dX12_move_169 (by decide) (fun cc_169 => ?_) (fun cc_169 => ?_)
    · rw [ev, ei] at cc_169
      exact absurd cc_169 (nI_ge (by omega) (by omega))
    · have ce_169 := Int32.not_le.mp cc_169
      refine ok_aload_n (pc := 172) dX12_move_172 rfl ?_
      refine ok_getf (pc := 173) dX12_move_173 fl_X12_59 hR.o rfl ?_
      refine ok_bipush (pc := 176) (v := 40) dX12_move_176 (by decide) ?_
      refine ok_iload_n (pc := 178) dX12_move_178 rfl ?_
      refine ok_imul (pc := 179) dX12_move_179 ?_
      refine ok_iload (pc := 180) dX12_move_180 rfl ?_
      refine ok_iadd (pc := 182) dX12_move_182 ?_
      refine ok_iload (pc := 183) dX12_move_183 rfl ?_
      refine ok_iadd (pc := 185) dX12_move_185 ?_
      refine ok_aload_n (pc := 186) dX12_move_186 rfl ?_
      refine ok_getf (pc := 187) dX12_move_187 fl_X12_62 hR.o rfl ?_
      refine ok_iload (pc := 190) dX12_move_190 rfl ?_
      refine ok_iald (pc := 192) (i) dX12_move_192 hR.a24 ei (by omega) (by decide) ?_
      refine ok_rst23 (pc := 193) (40 * o + j0 + i) dX12_move_193 hR (by simp only [ez, ew, ei, fa_lit, pk_mul, nI_add]) (by omega) (fun M hR => ?_)
      have ee : va_up (va_up ra0 23 (mvF nu (40 * s + i0) (40 * o + j0) i)) 23 (upd (va_up ra0 23 (mvF nu (40 * s + i0) (40 * o + j0) i) 23) (40 * o + j0 + i) (va_up ra0 23 (mvF nu (40 * s + i0) (40 * o + j0) i) 24 i)) = va_up ra0 23 (mvF nu (40 * s + i0) (40 * o + j0) (i + 1)) := by
        rw [vup_eq, vup_ne (by decide), h24 i (by omega), mvF_s]
        funext j
        unfold va_up
        split <;> rfl
      rw [ee] at hR
      refine ok_iinc6 (pc := 194) (v := 1) dX12_move_194 (by decide) (by decide) rfl ?_
      refine ok_goto (pc := 197) 165 dX12_move_197 (by decide) ?_
      exact ih (i + 1) _ _ (by omega) (by rw [ei, nI_1]) hR

set_option maxHeartbeats 1000000 in
theorem r_move {Γ : Cx} {m sz : Nat} {M0 M : Nat → Option va_E} {σ κ vi : Rw} {va : Nat → Rw} {K : Int32 → Wd → Prop} (hW : RefW Γ m M0 σ κ vi va M) (hS : InvS (shV va)) {x y z w v : Int32} (k : ∀ M', RefW Γ m M0 σ κ vi (shU (eU va (op_move (shV va) x y z w v).1) (op_move (shV va) x y z w v).2.2) M' → K (op_move (shV va) x y z w v).2.1 (M', sz)) : Spec Γ mX12_move 2 0 [.ref m, .int x, .int y, .int z, .int w, .int v] (M, sz) (ci K) := by
  obtain ⟨ri, ra, hR, hv, hw⟩ := hW
  have w1 : ra 21 = (shV va).1 := hw.2.2.1
  have w2 : ra 22 = (shV va).2.1 := hw.2.2.2.1
  have w3 : ra 23 = (shV va).2.2 := hw.2.2.2.2
  
  refine spec_in [some (.ref m), some (.int x), some (.int y), some (.int z), some (.int w), some (.int v), none] 1 (by decide) rfl rfl ?_
  refine ok_iload_n (pc := 0) dX12_move_0 rfl ?_
  refine ok_callSi1 (pc := 1) (d' := 1) dX12_move_1 sl_X12_338 rfl (by decide) ?_
  refine r_isSheet ?_
  refine ok_if_eq (pc := 4) 14 dX12_move_4 (by decide) (fun cc_4 => ?_) (fun cc_4 => ?_)
  · have cq_4 := bI_0.mp cc_4
    refine ok_aload_n (pc := 14) dX12_move_14 rfl ?_
    refine ok_ldc (pc := 15) (v := -1000000001) dX12_move_15 tw_1205 ?_
    refine ok_callVi1 (pc := 17) (d' := 0) dX12_move_17 vl_X12_84 hR.o rfl rfl rfl (by decide) ?_
    refine r_finding hR 1 (by decide) (by decide) (fun M hR => ?_)
    refine ok_iret (pc := 20) dX12_move_20 rfl ?_
    have eo : op_move (shV va) x y z w v = ((1, -1000000001, shV va) : OpS) := by
      have hcc : ¬ (wi x 0 3 && wi z 0 3) = true := by first | (rw [cq_4]; simp; done) | (rw [cq_11]; simp; done)
      unfold op_move
      rw [if_neg hcc]
      rfl
    rw [eo] at k
    exact k _ (RefW.errS 1 (by decide) hR hv hw)
  · have cq_4 := bI_n0.mp cc_4
    refine ok_iload_n (pc := 7) dX12_move_7 rfl ?_
    refine ok_callSi1 (pc := 8) (d' := 1) dX12_move_8 sl_X12_338 rfl (by decide) ?_
    refine r_isSheet ?_
    refine ok_if_ne (pc := 11) 21 dX12_move_11 (by decide) (fun cc_11 => ?_) (fun cc_11 => ?_)
    · have cq_11 := bI_n0.mp cc_11
      obtain ⟨ex, -, lx⟩ := wi_lit (a := 0) (c := 3) rfl rfl (by decide) (by decide) cq_4
      obtain ⟨ez, -, lz⟩ := wi_lit (a := 0) (c := 3) rfl rfl (by decide) (by decide) cq_11
      refine ok_aload_n (pc := 21) dX12_move_21 rfl ?_
      refine ok_getf (pc := 22) dX12_move_22 fl_X12_53 hR.o rfl ?_
      refine ok_iload_n (pc := 25) dX12_move_25 rfl ?_
      refine ok_iald (pc := 26) (iN x) dX12_move_26 hR.a21 ex (by omega) (by decide) ?_
      rw [w1]
      refine ok_if_eq (pc := 27) 39 dX12_move_27 (by decide) (fun cc_27 => ?_) (fun cc_27 => ?_)
      · refine ok_aload_n (pc := 39) dX12_move_39 rfl ?_
        refine ok_ldcw (pc := 40) (v := -1000000002) dX12_move_40 tw_1536 ?_
        refine ok_callVi1 (pc := 43) (d' := 0) dX12_move_43 vl_X12_84 hR.o rfl rfl rfl (by decide) ?_
        refine r_finding hR 2 (by decide) (by decide) (fun M hR => ?_)
        refine ok_iret (pc := 46) dX12_move_46 rfl ?_
        have eo : op_move (shV va) x y z w v = ((2, -1000000002, shV va) : OpS) := by
          unfold op_move
          rw [if_pos (by rw [cq_4, cq_11]; rfl), if_pos (by first | exact Or.inl cc_27 | exact Or.inr cc_36)]
          rfl
        rw [eo] at k
        exact k _ (RefW.errS 2 (by decide) hR hv hw)
      · refine ok_aload_n (pc := 30) dX12_move_30 rfl ?_
        refine ok_getf (pc := 31) dX12_move_31 fl_X12_53 hR.o rfl ?_
        refine ok_iload_n (pc := 34) dX12_move_34 rfl ?_
        refine ok_iald (pc := 35) (iN z) dX12_move_35 hR.a21 ez (by omega) (by decide) ?_
        rw [w1]
        refine ok_if_ne (pc := 36) 47 dX12_move_36 (by decide) (fun cc_36 => ?_) (fun cc_36 => ?_)
        · refine ok_aload_n (pc := 47) dX12_move_47 rfl ?_
          refine ok_getf (pc := 48) dX12_move_48 fl_X12_53 hR.o rfl ?_
          refine ok_iload_n (pc := 51) dX12_move_51 rfl ?_
          refine ok_iald (pc := 52) (iN x) dX12_move_52 hR.a21 ex (by omega) (by decide) ?_
          refine ok_aload_n (pc := 53) dX12_move_53 rfl ?_
          refine ok_getf (pc := 54) dX12_move_54 fl_X12_53 hR.o rfl ?_
          refine ok_iload_n (pc := 57) dX12_move_57 rfl ?_
          refine ok_iald (pc := 58) (iN z) dX12_move_58 hR.a21 ez (by omega) (by decide) ?_
          rw [w1]
          refine ok_icmp_eq (pc := 59) 69 dX12_move_59 (by decide) (fun cc_59 => ?_) (fun cc_59 => ?_)
          · refine ok_iload (pc := 69) dX12_move_69 rfl ?_
            refine ok_if_lt (pc := 71) 118 dX12_move_71 (by decide) (fun cc_71 => ?_) (fun cc_71 => ?_)
            · have ce_71 := Int32.not_le.mpr cc_71
              refine ok_aload_n (pc := 118) dX12_move_118 rfl ?_
              refine ok_ldc (pc := 119) (v := -1000000001) dX12_move_119 tw_1205 ?_
              refine ok_callVi1 (pc := 121) (d' := 0) dX12_move_121 vl_X12_84 hR.o rfl rfl rfl (by decide) ?_
              refine r_finding hR 1 (by decide) (by decide) (fun M hR => ?_)
              refine ok_iret (pc := 124) dX12_move_124 rfl ?_
              have eo : op_move (shV va) x y z w v = ((1, -1000000001, shV va) : OpS) := by
                have hns : (spF y v ((shV va).2.1 (iN x)) && spF w v ((shV va).2.1 (iN z))) = false := by
                  first
                    | (unfold spF; rw [decide_eq_false (Int32.not_le.mpr cc_71)]; simp; done)
                    | (unfold spF; rw [decide_eq_false (Int32.not_le.mpr cc_75)]; simp; done)
                    | (unfold spF; rw [decide_eq_false (p := 0 ≤ w) (Int32.not_le.mpr cc_80)]; simp; done)
                    | (have g1 := sum_gt.mp (lcmp_gt.mp cc_97)
                       unfold spF; rw [decide_eq_false (show ¬ (y.toInt + v.toInt ≤ ((shV va).2.1 (iN x)).toInt) by omega)]; simp; done)
                    | (have g1 := sum_gt.mp (lcmp_gt.mp (Int32.not_le.mp cc_115))
                       unfold spF; rw [decide_eq_false (show ¬ (w.toInt + v.toInt ≤ ((shV va).2.1 (iN z)).toInt) by omega)]; simp; done)
                unfold op_move
                rw [if_pos (by rw [cq_4, cq_11]; rfl), if_neg (fun h => h.elim cc_27 cc_36), if_pos cc_59, if_neg (by rw [hns]; decide)]
                rfl
              rw [eo] at k
              exact k _ (RefW.errS 1 (by decide) hR hv hw)
            · have ce_71 := Int32.not_lt.mp cc_71
              refine ok_iload_n (pc := 74) dX12_move_74 rfl ?_
              refine ok_if_lt (pc := 75) 118 dX12_move_75 (by decide) (fun cc_75 => ?_) (fun cc_75 => ?_)
              · have ce_75 := Int32.not_le.mpr cc_75
                refine ok_aload_n (pc := 118) dX12_move_118 rfl ?_
                refine ok_ldc (pc := 119) (v := -1000000001) dX12_move_119 tw_1205 ?_
                refine ok_callVi1 (pc := 121) (d' := 0) dX12_move_121 vl_X12_84 hR.o rfl rfl rfl (by decide) ?_
                refine r_finding hR 1 (by decide) (by decide) (fun M hR => ?_)
                refine ok_iret (pc := 124) dX12_move_124 rfl ?_
                have eo : op_move (shV va) x y z w v = ((1, -1000000001, shV va) : OpS) := by
                  have hns : (spF y v ((shV va).2.1 (iN x)) && spF w v ((shV va).2.1 (iN z))) = false := by
                    first
                      | (unfold spF; rw [decide_eq_false (Int32.not_le.mpr cc_71)]; simp; done)
                      | (unfold spF; rw [decide_eq_false (Int32.not_le.mpr cc_75)]; simp; done)
                      | (unfold spF; rw [decide_eq_false (p := 0 ≤ w) (Int32.not_le.mpr cc_80)]; simp; done)
                      | (have g1 := sum_gt.mp (lcmp_gt.mp cc_97)
                         unfold spF; rw [decide_eq_false (show ¬ (y.toInt + v.toInt ≤ ((shV va).2.1 (iN x)).toInt) by omega)]; simp; done)
                      | (have g1 := sum_gt.mp (lcmp_gt.mp (Int32.not_le.mp cc_115))
                         unfold spF; rw [decide_eq_false (show ¬ (w.toInt + v.toInt ≤ ((shV va).2.1 (iN z)).toInt) by omega)]; simp; done)
                  unfold op_move
                  rw [if_pos (by rw [cq_4, cq_11]; rfl), if_neg (fun h => h.elim cc_27 cc_36), if_pos cc_59, if_neg (by rw [hns]; decide)]
                  rfl
                rw [eo] at k
                exact k _ (RefW.errS 1 (by decide) hR hv hw)
              · have ce_75 := Int32.not_lt.mp cc_75
                refine ok_iload (pc := 78) dX12_move_78 rfl ?_
                refine ok_if_lt (pc := 80) 118 dX12_move_80 (by decide) (fun cc_80 => ?_) (fun cc_80 => ?_)
                · have ce_80 := Int32.not_le.mpr cc_80
                  refine ok_aload_n (pc := 118) dX12_move_118 rfl ?_
                  refine ok_ldc (pc := 119) (v := -1000000001) dX12_move_119 tw_1205 ?_
                  refine ok_callVi1 (pc := 121) (d' := 0) dX12_move_121 vl_X12_84 hR.o rfl rfl rfl (by decide) ?_
                  refine r_finding hR 1 (by decide) (by decide) (fun M hR => ?_)
                  refine ok_iret (pc := 124) dX12_move_124 rfl ?_
                  have eo : op_move (shV va) x y z w v = ((1, -1000000001, shV va) : OpS) := by
                    have hns : (spF y v ((shV va).2.1 (iN x)) && spF w v ((shV va).2.1 (iN z))) = false := by
                      first
                        | (unfold spF; rw [decide_eq_false (Int32.not_le.mpr cc_71)]; simp; done)
                        | (unfold spF; rw [decide_eq_false (Int32.not_le.mpr cc_75)]; simp; done)
                        | (unfold spF; rw [decide_eq_false (p := 0 ≤ w) (Int32.not_le.mpr cc_80)]; simp; done)
                        | (have g1 := sum_gt.mp (lcmp_gt.mp cc_97)
                           unfold spF; rw [decide_eq_false (show ¬ (y.toInt + v.toInt ≤ ((shV va).2.1 (iN x)).toInt) by omega)]; simp; done)
                        | (have g1 := sum_gt.mp (lcmp_gt.mp (Int32.not_le.mp cc_115))
                           unfold spF; rw [decide_eq_false (show ¬ (w.toInt + v.toInt ≤ ((shV va).2.1 (iN z)).toInt) by omega)]; simp; done)
                    unfold op_move
                    rw [if_pos (by rw [cq_4, cq_11]; rfl), if_neg (fun h => h.elim cc_27 cc_36), if_pos cc_59, if_neg (by rw [hns]; decide)]
                    rfl
                  rw [eo] at k
                  exact k _ (RefW.errS 1 (by decide) hR hv hw)
                · have ce_80 := Int32.not_lt.mp cc_80
                  refine ok_iload_n (pc := 83) dX12_move_83 rfl ?_
                  refine ok_i2l (pc := 84) dX12_move_84 ?_
                  refine ok_iload (pc := 85) dX12_move_85 rfl ?_
                  refine ok_i2l (pc := 87) dX12_move_87 ?_
                  refine ok_ladd (pc := 88) dX12_move_88 ?_
                  refine ok_aload_n (pc := 89) dX12_move_89 rfl ?_
                  refine ok_getf (pc := 90) dX12_move_90 fl_X12_56 hR.o rfl ?_
                  refine ok_iload_n (pc := 93) dX12_move_93 rfl ?_
                  refine ok_iald (pc := 94) (iN x) dX12_move_94 hR.a22 ex (by omega) (by decide) ?_
                  rw [w2]
                  refine ok_i2l (pc := 95) dX12_move_95 ?_
                  refine ok_lcmp (pc := 96) dX12_move_96 ?_
                  refine ok_if_gt (pc := 97) 118 dX12_move_97 (by decide) (fun cc_97 => ?_) (fun cc_97 => ?_)
                  · have ce_97 := Int32.not_le.mpr cc_97
                    refine ok_aload_n (pc := 118) dX12_move_118 rfl ?_
                    refine ok_ldc (pc := 119) (v := -1000000001) dX12_move_119 tw_1205 ?_
                    refine ok_callVi1 (pc := 121) (d' := 0) dX12_move_121 vl_X12_84 hR.o rfl rfl rfl (by decide) ?_
                    refine r_finding hR 1 (by decide) (by decide) (fun M hR => ?_)
                    refine ok_iret (pc := 124) dX12_move_124 rfl ?_
                    have eo : op_move (shV va) x y z w v = ((1, -1000000001, shV va) : OpS) := by
                      have hns : (spF y v ((shV va).2.1 (iN x)) && spF w v ((shV va).2.1 (iN z))) = false := by
                        first
                          | (unfold spF; rw [decide_eq_false (Int32.not_le.mpr cc_71)]; simp; done)
                          | (unfold spF; rw [decide_eq_false (Int32.not_le.mpr cc_75)]; simp; done)
                          | (unfold spF; rw [decide_eq_false (p := 0 ≤ w) (Int32.not_le.mpr cc_80)]; simp; done)
                          | (have g1 := sum_gt.mp (lcmp_gt.mp cc_97)
                             unfold spF; rw [decide_eq_false (show ¬ (y.toInt + v.toInt ≤ ((shV va).2.1 (iN x)).toInt) by omega)]; simp; done)
                          | (have g1 := sum_gt.mp (lcmp_gt.mp (Int32.not_le.mp cc_115))
                             unfold spF; rw [decide_eq_false (show ¬ (w.toInt + v.toInt ≤ ((shV va).2.1 (iN z)).toInt) by omega)]; simp; done)
                      unfold op_move
                      rw [if_pos (by rw [cq_4, cq_11]; rfl), if_neg (fun h => h.elim cc_27 cc_36), if_pos cc_59, if_neg (by rw [hns]; decide)]
                      rfl
                    rw [eo] at k
                    exact k _ (RefW.errS 1 (by decide) hR hv hw)
                  · have ce_97 := Int32.not_lt.mp cc_97
                    refine ok_iload (pc := 100) dX12_move_100 rfl ?_
                    refine ok_i2l (pc := 102) dX12_move_102 ?_
                    refine ok_iload (pc := 103) dX12_move_103 rfl ?_
                    refine ok_i2l (pc := 105) dX12_move_105 ?_
                    refine ok_ladd (pc := 106) dX12_move_106 ?_
                    refine ok_aload_n (pc := 107) dX12_move_107 rfl ?_
                    refine ok_getf (pc := 108) dX12_move_108 fl_X12_56 hR.o rfl ?_
                    refine ok_iload_n (pc := 111) dX12_move_111 rfl ?_
                    refine ok_iald (pc := 112) (iN z) dX12_move_112 hR.a22 ez (by omega) (by decide) ?_
                    rw [w2]
                    refine ok_i2l (pc := 113) dX12_move_113 ?_
                    refine ok_lcmp (pc := 114) dX12_move_114 ?_
                    refine ok_if_le (pc := 115) 125 dX12_move_115 (by decide) (fun cc_115 => ?_) (fun cc_115 => ?_)
                    · have ce_115 := Int32.not_lt.mpr cc_115
                      refine ok_iconst (pc := 125) (v := 0) dX12_move_125 (by decide) ?_
                      refine ok_istore6 (pc := 126) dX12_move_126 (by decide) rfl ?_
                      have sp1 : spF y v ((shV va).2.1 (iN x)) = true := by
                        have g1 : ¬ (((shV va).2.1 (iN x)).toInt64 < y.toInt64 + v.toInt64) := fun h => cc_97 (lcmp_gt.mpr h)
                        rw [sum_gt] at g1
                        unfold spF
                        rw [decide_eq_true (Int32.not_lt.mp cc_75), decide_eq_true (Int32.not_lt.mp cc_71), decide_eq_true (by omega)]
                        rfl
                      have sp2 : spF w v ((shV va).2.1 (iN z)) = true := by
                        have g1 : ¬ (((shV va).2.1 (iN z)).toInt64 < w.toInt64 + v.toInt64) := fun h => absurd (lcmp_gt.mpr h) (Int32.not_lt.mpr cc_115)
                        rw [sum_gt] at g1
                        unfold spF
                        rw [decide_eq_true (Int32.not_lt.mp cc_80), decide_eq_true (Int32.not_lt.mp cc_71), decide_eq_true (by omega)]
                        rfl
                      obtain ⟨nx, hnx, enx⟩ := (hS (iN x) (by omega)).2
                      obtain ⟨nz, hnz, enz⟩ := (hS (iN z) (by omega)).2
                      have pN : ∀ {q r : Int32} {n : Nat}, n ≤ 40 → r = nI n → spF q v r = true → (q = nI (iN q) ∧ v = nI (iN v)) ∧ iN q + iN v ≤ n := by
                        intro q r n hn er h9
                        subst er
                        unfold spF at h9
                        rw [Bool.and_eq_true, Bool.and_eq_true] at h9
                        have a1 := Int32.le_iff_toInt_le.mp (of_decide_eq_true h9.1.1)
                        have a2 := Int32.le_iff_toInt_le.mp (of_decide_eq_true h9.1.2)
                        have a3 := of_decide_eq_true h9.2
                        rw [nI_toInt (by omega)] at a3
                        have e0 : (0 : Int32).toInt = 0 := rfl
                        rw [e0] at a1 a2
                        have b1 : ((iN q : Nat) : Int) = q.toInt := by show ((q.toInt.toNat : Nat) : Int) = _; omega
                        have b2 : ((iN v : Nat) : Int) = v.toInt := by show ((v.toInt.toNat : Nat) : Int) = _; omega
                        refine ⟨⟨?_, ?_⟩, by omega⟩
                        · apply Int32.toInt_inj.mp; rw [nI_toInt (by omega), b1]
                        · apply Int32.toInt_inj.mp; rw [nI_toInt (by omega), b2]
                      obtain ⟨⟨ey, ev⟩, ly⟩ := pN hnx enx sp1
                      obtain ⟨⟨ew, -⟩, lw⟩ := pN hnz enz sp2
                      have hc2 : ¬ ((shV va).1 (iN x) = 0 ∨ (shV va).1 (iN z) = 0) := fun h => h.elim cc_27 cc_36
                      have eo : op_move (shV va) x y z w v = ((0, v, ((shV va).1, (shV va).2.1, mvF (shV va).2.2 (40 * iN x + iN y) (40 * iN z + iN w) (iN v))) : OpS) := by
                        unfold op_move
                        rw [if_pos (by rw [cq_4, cq_11]; rfl), if_neg hc2, if_pos cc_59, if_pos (by rw [sp1, sp2]; rfl)]
                      rw [eo] at k
                      refine l_move1 (ra0 := ra) (iN x) (iN y) (iN z) (iN w) (iN v) ex ey ez ew ev (by omega) (by omega) (by omega) (by omega) (fun M rb xi hR hro h24 => ?_) (iN v) 0 _ _ _ (by omega) rfl hR (fun _ _ => rfl) (fun q hq => absurd hq (Nat.not_lt_zero _))
                      refine ok_iconst (pc := 162) (v := 0) dX12_move_162 (by decide) ?_
                      refine ok_istore6 (pc := 163) dX12_move_163 (by decide) rfl ?_
                      have e0 : va_up rb 23 (mvF (ra 23) (40 * iN x + iN y) (40 * iN z + iN w) 0) = rb := by
                        rw [mvF_0]
                        funext j
                        show (if j = 23 then _ else _) = _
                        split
                        · rename_i h9; subst h9; exact (hro 23 (by decide)).symm
                        · rfl
                      refine l_move2 (ra0 := rb) (iN x) (iN y) (iN z) (iN w) (iN v) ex ey ez ew ev (by omega) (by omega) (by omega) (by omega) (ra 23) h24 (fun M hR => k _ (RefW.okS hR hv ⟨by rw [vup_ne (by decide), hro 4 (by decide)]; exact hw.1, by rw [vup_ne (by decide), hro 18 (by decide)]; exact hw.2.1, by rw [vup_ne (by decide), hro 21 (by decide)]; exact w1, by rw [vup_ne (by decide), hro 22 (by decide)]; exact w2, by rw [vup_eq, w3]⟩)) (iN v) 0 _ _ (by omega) rfl ?_
                      rw [e0]
                      exact hR
                    · have ce_115 := Int32.not_le.mp cc_115
                      refine ok_aload_n (pc := 118) dX12_move_118 rfl ?_
                      refine ok_ldc (pc := 119) (v := -1000000001) dX12_move_119 tw_1205 ?_
                      refine ok_callVi1 (pc := 121) (d' := 0) dX12_move_121 vl_X12_84 hR.o rfl rfl rfl (by decide) ?_
                      refine r_finding hR 1 (by decide) (by decide) (fun M hR => ?_)
                      refine ok_iret (pc := 124) dX12_move_124 rfl ?_
                      have eo : op_move (shV va) x y z w v = ((1, -1000000001, shV va) : OpS) := by
                        have hns : (spF y v ((shV va).2.1 (iN x)) && spF w v ((shV va).2.1 (iN z))) = false := by
                          first
                            | (unfold spF; rw [decide_eq_false (Int32.not_le.mpr cc_71)]; simp; done)
                            | (unfold spF; rw [decide_eq_false (Int32.not_le.mpr cc_75)]; simp; done)
                            | (unfold spF; rw [decide_eq_false (p := 0 ≤ w) (Int32.not_le.mpr cc_80)]; simp; done)
                            | (have g1 := sum_gt.mp (lcmp_gt.mp cc_97)
                               unfold spF; rw [decide_eq_false (show ¬ (y.toInt + v.toInt ≤ ((shV va).2.1 (iN x)).toInt) by omega)]; simp; done)
                            | (have g1 := sum_gt.mp (lcmp_gt.mp (Int32.not_le.mp cc_115))
                               unfold spF; rw [decide_eq_false (show ¬ (w.toInt + v.toInt ≤ ((shV va).2.1 (iN z)).toInt) by omega)]; simp; done)
                        unfold op_move
                        rw [if_pos (by rw [cq_4, cq_11]; rfl), if_neg (fun h => h.elim cc_27 cc_36), if_pos cc_59, if_neg (by rw [hns]; decide)]
                        rfl
                      rw [eo] at k
                      exact k _ (RefW.errS 1 (by decide) hR hv hw)
          · refine ok_aload_n (pc := 62) dX12_move_62 rfl ?_
            refine ok_ldc (pc := 63) (v := -1000000005) dX12_move_63 tw_1271 ?_
            refine ok_callVi1 (pc := 65) (d' := 0) dX12_move_65 vl_X12_84 hR.o rfl rfl rfl (by decide) ?_
            refine r_finding hR 5 (by decide) (by decide) (fun M hR => ?_)
            refine ok_iret (pc := 68) dX12_move_68 rfl ?_
            have eo : op_move (shV va) x y z w v = ((5, -1000000005, shV va) : OpS) := by
              unfold op_move
              rw [if_pos (by rw [cq_4, cq_11]; rfl), if_neg (fun h => h.elim cc_27 cc_36), if_neg cc_59]
              rfl
            rw [eo] at k
            exact k _ (RefW.errS 5 (by decide) hR hv hw)
        · refine ok_aload_n (pc := 39) dX12_move_39 rfl ?_
          refine ok_ldcw (pc := 40) (v := -1000000002) dX12_move_40 tw_1536 ?_
          refine ok_callVi1 (pc := 43) (d' := 0) dX12_move_43 vl_X12_84 hR.o rfl rfl rfl (by decide) ?_
          refine r_finding hR 2 (by decide) (by decide) (fun M hR => ?_)
          refine ok_iret (pc := 46) dX12_move_46 rfl ?_
          have eo : op_move (shV va) x y z w v = ((2, -1000000002, shV va) : OpS) := by
            unfold op_move
            rw [if_pos (by rw [cq_4, cq_11]; rfl), if_pos (by first | exact Or.inl cc_27 | exact Or.inr cc_36)]
            rfl
          rw [eo] at k
          exact k _ (RefW.errS 2 (by decide) hR hv hw)
    · have cq_11 := bI_0.mp cc_11
      refine ok_aload_n (pc := 14) dX12_move_14 rfl ?_
      refine ok_ldc (pc := 15) (v := -1000000001) dX12_move_15 tw_1205 ?_
      refine ok_callVi1 (pc := 17) (d' := 0) dX12_move_17 vl_X12_84 hR.o rfl rfl rfl (by decide) ?_
      refine r_finding hR 1 (by decide) (by decide) (fun M hR => ?_)
      refine ok_iret (pc := 20) dX12_move_20 rfl ?_
      have eo : op_move (shV va) x y z w v = ((1, -1000000001, shV va) : OpS) := by
        have hcc : ¬ (wi x 0 3 && wi z 0 3) = true := by first | (rw [cq_4]; simp; done) | (rw [cq_11]; simp; done)
        unfold op_move
        rw [if_neg hcc]
        rfl
      rw [eo] at k
      exact k _ (RefW.errS 1 (by decide) hR hv hw)

set_option maxHeartbeats 1000000 in
theorem l_winds {Γ : Cx} {m sz : Nat} {M0 : Nat → Option va_E} {σ κ : Rw} {ri : Nat → Int32} {K : Int32 → Wd → Prop} {ra : Nat → Rw} {x : Int32} (s : Nat) (ex : x = nI s) (hs : s < 4) (nu : Rw) (z : Int32) (e22 : ra 22 s = z) (e23 : ra 23 = nu) (hz : ∃ q, q ≤ 40 ∧ z = nI q) (A0 : Nat) (k : ∀ M', RefX Γ m M0 (wnS σ nu s A0) κ ri ra M' → K (nI A0) (M', sz)) : ∀ (n : Nat) (i : Nat) (xi : Int32) (M : Nat → Option va_E), i + n = 24 → xi = nI i → wnC nu z s n i = A0 → RefX Γ m M0 (wnS σ nu s i) κ ri ra M → Ok Γ mX12_winds 2 0 33 [some (.ref m), some (.int x), some (.int xi)] [] (M, sz) (ci K) := by
  obtain ⟨q9, hq9, eq9⟩ := hz
  intro n
  induction n with
  | zero =>
    intro i xi M h1 ei hA hR
    refine ok_iload_n (pc := 33) dX12_winds_33 rfl ?_
    refine ok_aload_n (pc := 34) dX12_winds_34 rfl ?_
    refine ok_getf (pc := 35) dX12_winds_35 fl_X12_56 hR.o rfl ?_
    refine ok_iload_n (pc := 38) dX12_winds_38 rfl ?_
    refine ok_iald (pc := 39) (s) dX12_winds_39 hR.a22 ex (by omega) (by decide) ?_
    rw [e22]
    refine ok_icmp_ge (pc := 40) 92 dX12_winds_40 (by decide) (fun cc_40 => ?_) (fun cc_40 => ?_)
    · have ce_40 := Int32.not_lt.mpr cc_40
      have hA9 : i = A0 := hA
      subst hA9
      rw [ei]
      refine ok_iload_n (pc := 92) dX12_winds_92 rfl ?_
      refine ok_iret (pc := 93) dX12_winds_93 rfl ?_
      exact k _ hR
    · have ce_40 := Int32.not_le.mp cc_40
      refine ok_iload_n (pc := 43) dX12_winds_43 rfl ?_
      refine ok_bipush (pc := 44) (v := 24) dX12_winds_44 (by decide) ?_
      refine ok_icmp_ge (pc := 46) 92 dX12_winds_46 (by decide) (fun cc_46 => ?_) (fun cc_46 => ?_)
      · have ce_46 := Int32.not_lt.mpr cc_46
        have hA9 : i = A0 := hA
        subst hA9
        rw [ei]
        refine ok_iload_n (pc := 92) dX12_winds_92 rfl ?_
        refine ok_iret (pc := 93) dX12_winds_93 rfl ?_
        exact k _ hR
      · exact absurd (by rw [ei]; exact nI_le (a := 24) (by omega) (by omega)) cc_46
  | succ n ih =>
    intro i xi M h1 ei hA hR
    refine ok_iload_n (pc := 33) dX12_winds_33 rfl ?_
    refine ok_aload_n (pc := 34) dX12_winds_34 rfl ?_
    refine ok_getf (pc := 35) dX12_winds_35 fl_X12_56 hR.o rfl ?_
    refine ok_iload_n (pc := 38) dX12_winds_38 rfl ?_
    refine ok_iald (pc := 39) (s) dX12_winds_39 hR.a22 ex (by omega) (by decide) ?_
    rw [e22]
    refine ok_icmp_ge (pc := 40) 92 dX12_winds_40 (by decide) (fun cc_40 => ?_) (fun cc_40 => ?_)
    · have ce_40 := Int32.not_lt.mpr cc_40
      have hA9 : i = A0 := by rw [← hA]; exact (if_neg (by rw [← ei, decide_eq_false ce_40]; simp)).symm
      subst hA9
      rw [ei]
      refine ok_iload_n (pc := 92) dX12_winds_92 rfl ?_
      refine ok_iret (pc := 93) dX12_winds_93 rfl ?_
      exact k _ hR
    · have ce_40 := Int32.not_le.mp cc_40
      refine ok_iload_n (pc := 43) dX12_winds_43 rfl ?_
      refine ok_bipush (pc := 44) (v := 24) dX12_winds_44 (by decide) ?_
      refine ok_icmp_ge (pc := 46) 92 dX12_winds_46 (by decide) (fun cc_46 => ?_) (fun cc_46 => ?_)
      · rw [ei] at cc_46
        exact absurd cc_46 (nI_ge (b := 24) (by omega) (by decide))
      · have ce_46 := Int32.not_le.mp cc_46
        refine ok_aload_n (pc := 49) dX12_winds_49 rfl ?_
        refine ok_getf (pc := 50) dX12_winds_50 fl_X12_59 hR.o rfl ?_
        refine ok_bipush (pc := 53) (v := 40) dX12_winds_53 (by decide) ?_
        refine ok_iload_n (pc := 55) dX12_winds_55 rfl ?_
        refine ok_imul (pc := 56) dX12_winds_56 ?_
        refine ok_iload_n (pc := 57) dX12_winds_57 rfl ?_
        refine ok_iadd (pc := 58) dX12_winds_58 ?_
        refine ok_iald (pc := 59) (40 * s + i) dX12_winds_59 hR.a23 (by simp only [ex, ei, fa_lit, pk_mul, nI_add]) (by omega) (by decide) ?_
        rw [e23]
        refine ok_callSi1 (pc := 60) (d' := 1) dX12_winds_60 sl_X12_107 rfl (by decide) ?_
        refine r_isWind ?_
        refine ok_if_eq (pc := 63) 92 dX12_winds_63 (by decide) (fun cc_63 => ?_) (fun cc_63 => ?_)
        · have cq_63 := bI_0.mp cc_63
          have hA9 : i = A0 := by rw [← hA]; exact (if_neg (by rw [cq_63]; simp)).symm
          subst hA9
          rw [ei]
          refine ok_iload_n (pc := 92) dX12_winds_92 rfl ?_
          refine ok_iret (pc := 93) dX12_winds_93 rfl ?_
          exact k _ hR
        · have cq_63 := bI_n0.mp cc_63
          have hA9 : wnC nu z s n (i + 1) = A0 := by rw [← hA]; exact (if_pos (by rw [← ei, decide_eq_true ce_40, cq_63]; rfl)).symm
          refine ok_aload_n (pc := 66) dX12_winds_66 rfl ?_
          refine ok_getf (pc := 67) dX12_winds_67 fl_X12_9 hR.o rfl ?_
          refine ok_bipush (pc := 70) (v := 27) dX12_winds_70 (by decide) ?_
          refine ok_iload_n (pc := 72) dX12_winds_72 rfl ?_
          refine ok_iadd (pc := 73) dX12_winds_73 ?_
          refine ok_aload_n (pc := 74) dX12_winds_74 rfl ?_
          refine ok_getf (pc := 75) dX12_winds_75 fl_X12_59 hR.o rfl ?_
          refine ok_bipush (pc := 78) (v := 40) dX12_winds_78 (by decide) ?_
          refine ok_iload_n (pc := 80) dX12_winds_80 rfl ?_
          refine ok_imul (pc := 81) dX12_winds_81 ?_
          refine ok_iload_n (pc := 82) dX12_winds_82 rfl ?_
          refine ok_iadd (pc := 83) dX12_winds_83 ?_
          refine ok_iald (pc := 84) (40 * s + i) dX12_winds_84 hR.a23 (by simp only [ex, ei, fa_lit, pk_mul, nI_add]) (by omega) (by decide) ?_
          rw [e23]
          refine ok_rst0 (pc := 85) (27 + i) dX12_winds_85 hR (by simp only [ei, fa_lit, pk_mul, nI_add]) (by omega) (fun M hR => ?_)
          refine ok_iinc2 (pc := 86) (v := 1) dX12_winds_86 (by decide) (by decide) rfl ?_
          refine ok_goto (pc := 89) 33 dX12_winds_89 (by decide) ?_
          exact ih (i + 1) _ _ (by omega) (by rw [ei, nI_1]) hA9 hR

set_option maxHeartbeats 1000000 in
theorem r_winds {Γ : Cx} {m sz : Nat} {M0 M : Nat → Option va_E} {σ κ vi : Rw} {va : Nat → Rw} {K : Int32 → Wd → Prop} (hW : RefW Γ m M0 σ κ vi va M) (hS : InvS (shV va)) {x : Int32} (k : ∀ M', RefW Γ m M0 (op_winds σ (shV va) x).2.2 κ vi (eU va (op_winds σ (shV va) x).1) M' → K (op_winds σ (shV va) x).2.1 (M', sz)) : Spec Γ mX12_winds 2 0 [.ref m, .int x] (M, sz) (ci K) := by
  obtain ⟨ri, ra, hR, hv, hw⟩ := hW
  have w1 : ra 21 = (shV va).1 := hw.2.2.1
  have w2 : ra 22 = (shV va).2.1 := hw.2.2.2.1
  have w3 : ra 23 = (shV va).2.2 := hw.2.2.2.2
  
  refine spec_in [some (.ref m), some (.int x), none] 1 (by decide) rfl rfl ?_
  refine ok_iload_n (pc := 0) dX12_winds_0 rfl ?_
  refine ok_callSi1 (pc := 1) (d' := 1) dX12_winds_1 sl_X12_338 rfl (by decide) ?_
  refine r_isSheet ?_
  refine ok_if_ne (pc := 4) 14 dX12_winds_4 (by decide) (fun cc_4 => ?_) (fun cc_4 => ?_)
  · have cq_4 := bI_n0.mp cc_4
    obtain ⟨ex, -, lx⟩ := wi_lit (a := 0) (c := 3) rfl rfl (by decide) (by decide) cq_4
    refine ok_aload_n (pc := 14) dX12_winds_14 rfl ?_
    refine ok_getf (pc := 15) dX12_winds_15 fl_X12_53 hR.o rfl ?_
    refine ok_iload_n (pc := 18) dX12_winds_18 rfl ?_
    refine ok_iald (pc := 19) (iN x) dX12_winds_19 hR.a21 ex (by omega) (by decide) ?_
    rw [w1]
    refine ok_if_ne (pc := 20) 31 dX12_winds_20 (by decide) (fun cc_20 => ?_) (fun cc_20 => ?_)
    · refine ok_iconst (pc := 31) (v := 0) dX12_winds_31 (by decide) ?_
      refine ok_istore_n2 (pc := 32) dX12_winds_32 (by decide) rfl ?_
      have eo : op_winds σ (shV va) x = ((0, nI (wnC (shV va).2.2 ((shV va).2.1 (iN x)) (iN x) 24 0), wnS σ (shV va).2.2 (iN x) (wnC (shV va).2.2 ((shV va).2.1 (iN x)) (iN x) 24 0)) : Op3) := by simp [op_winds, cq_4, cc_20]
      rw [eo] at k
      exact l_winds (iN x) ex (by omega) (shV va).2.2 ((shV va).2.1 (iN x)) (by rw [w2]) w3 (hS (iN x) (by omega)).2 _ (fun M hR => k _ (RefW.ok hR hv hw)) 24 0 _ _ (by omega) rfl rfl hR
    · refine ok_aload_n (pc := 23) dX12_winds_23 rfl ?_
      refine ok_ldcw (pc := 24) (v := -1000000002) dX12_winds_24 tw_1536 ?_
      refine ok_callVi1 (pc := 27) (d' := 0) dX12_winds_27 vl_X12_84 hR.o rfl rfl rfl (by decide) ?_
      refine r_finding hR 2 (by decide) (by decide) (fun M hR => ?_)
      refine ok_iret (pc := 30) dX12_winds_30 rfl ?_
      have eo : op_winds σ (shV va) x = ((2, -1000000002, σ) : Op3) := by simp [op_winds, e3, cq_4, cc_20]; try decide
      rw [eo] at k
      exact k _ (RefW.err 2 (by decide) hR hv hw)
  · have cq_4 := bI_0.mp cc_4
    refine ok_aload_n (pc := 7) dX12_winds_7 rfl ?_
    refine ok_ldc (pc := 8) (v := -1000000001) dX12_winds_8 tw_1205 ?_
    refine ok_callVi1 (pc := 10) (d' := 0) dX12_winds_10 vl_X12_84 hR.o rfl rfl rfl (by decide) ?_
    refine r_finding hR 1 (by decide) (by decide) (fun M hR => ?_)
    refine ok_iret (pc := 13) dX12_winds_13 rfl ?_
    have eo : op_winds σ (shV va) x = ((1, -1000000001, σ) : Op3) := by simp [op_winds, e3, cq_4]; try decide
    rw [eo] at k
    exact k _ (RefW.err 1 (by decide) hR hv hw)
