/-! how sure: cases of ten -/
def syN (σ : Rw) (t : Nat) (w : Int32) (c : Nat) : Nat → Nat → Nat → Nat
  | 0, _, S => if S.testBit t then 1 else 0
  | k + 1, i, S => if S.testBit t then 10 ^ (k + 1) else c * syN σ t w c k (i + 1) S + (10 - c) * syN σ t w c k (i + 1) (go σ S (cT σ + i) w (cK σ))
theorem syN_le {σ : Rw} {t : Nat} {w : Int32} {c : Nat} (hc : c ≤ 10) : ∀ k i S, syN σ t w c k i S ≤ 10 ^ k
  | 0, i, S => by unfold syN; split <;> decide
  | k + 1, i, S => by
    have h1 := syN_le (σ := σ) (t := t) (w := w) hc k (i + 1) S
    have h2 := syN_le (σ := σ) (t := t) (w := w) hc k (i + 1) (go σ S (cT σ + i) w (cK σ))
    unfold syN
    split
    · exact Nat.le_refl _
    · have g1 := Nat.mul_le_mul_left c h1
      have g2 := Nat.mul_le_mul_left (10 - c) h2
      have e : c * 10 ^ k + (10 - c) * 10 ^ k = 10 ^ (k + 1) := by
        rw [← Nat.add_mul, show c + (10 - c) = 10 by omega, Nat.pow_succ, Nat.mul_comm]
      omega
theorem lN_div {a b : Nat} (ha : a < 2 ^ 62) (hb : b < 2 ^ 62) : lN a / lN b = lN (a / b) := (Int64.ofNat_div (by omega) (by omega)).symm
theorem lN_rem {a b : Nat} (ha : a < 2 ^ 62) (hb : b < 2 ^ 62) : jlrem (lN a) (lN b) = lN (a % b) := by
  unfold jlrem
  rw [lN_div ha hb, lN_mul, lN_sub (Nat.div_mul_le_self a b)]
  congr 1
  have := Nat.div_add_mod a b
  rw [Nat.mul_comm] at this
  omega
theorem lN_eq62 {a b : Nat} (ha : a < 2 ^ 62) (hb : b < 2 ^ 62) : lN a = lN b ↔ a = b := by
  constructor
  · intro h
    have e := congrArg Int64.toInt h
    unfold lN at e
    rw [Int64.toInt_ofNat_of_lt (by omega), Int64.toInt_ofNat_of_lt (by omega)] at e
    exact Int.ofNat.inj e
  · intro h; rw [h]
theorem cmp_0 {b : Nat} (hb : b < 2 ^ 62) : lg_cmp (lN b) 0 = 0 ↔ b = 0 := by
  have h0 : (0 : Int64) = lN 0 := rfl
  unfold lg_cmp
  constructor
  · intro h
    by_cases g : lN b > 0
    · rw [if_pos g] at h; exact absurd h (by decide)
    · rw [if_neg g] at h
      by_cases e : lN b = 0
      · rw [h0] at e; exact (lN_eq62 hb (by decide)).mp e
      · rw [if_neg e] at h; exact absurd h (by decide)
  · intro h
    subst h
    rfl
def op_sure (σ : Rw) (x y z w : Int32) : Nat × Int64 :=
  if wi x 0 99 && wyF σ (x / 10) (jrem x 10) y && wi z 0 1099 && wi (z / 100) 0 10 && wi (jrem z 100) 0 10 && wi w 0 1 then
    (0, if w = 0 then lN (syN σ (iN x % 10) y (iN z % 100) (iN z / 100) 0 (2 ^ (iN x / 10)) / Nat.gcd (syN σ (iN x % 10) y (iN z % 100) (iN z / 100) 0 (2 ^ (iN x / 10))) (10 ^ (iN z / 100))) else lN (10 ^ (iN z / 100) / Nat.gcd (syN σ (iN x % 10) y (iN z % 100) (iN z / 100) 0 (2 ^ (iN x / 10))) (10 ^ (iN z / 100))))
  else (1, (-1000000001 : Int32).toInt64)
theorem p10_lt {n : Nat} (h : n ≤ 10) : 10 ^ n < 2 ^ 34 := Nat.lt_of_le_of_lt (Nat.pow_le_pow_right (by decide) h) (by decide)

set_option maxHeartbeats 1000000 in
theorem r_fresh {Γ : Cx} {m sz : Nat} {M0 M : Nat → Option va_E} {σ κ vi : Rw} {va : Nat → Rw} {K : Int32 → Wd → Prop} (hW : RefW Γ m M0 σ κ vi va M) (hI : Inv σ) (hc9 : cT σ ≤ 9999) {x y z w : Int32} (k : ∀ M', RefW Γ m M0 σ κ vi (eU va (op_fresh σ x y z w).1) M' → K (op_fresh σ x y z w).2 (M', sz)) : Spec Γ mX12_fresh 9 0 [.ref m, .int x, .int y, .int z, .int w] (M, sz) (ci K) := by
  obtain ⟨ri, ra, hR, hv, hw⟩ := hW
  obtain ⟨⟨⟨eH, lH⟩, ⟨eK, lK⟩, ⟨eL, lL⟩, ⟨eA, lA⟩, ⟨eT, lT⟩⟩, iK, iH, iW, iL, iO, iB, hT⟩ := id hI
  
  refine spec_in [some (.ref m), some (.int x), some (.int y), some (.int z), some (.int w), none] 1 (by decide) rfl rfl ?_
  refine ok_aload_n (pc := 0) dX12_fresh_0 rfl ?_
  refine ok_iload_n (pc := 1) dX12_fresh_1 rfl ?_
  refine ok_iload_n (pc := 2) dX12_fresh_2 rfl ?_
  refine ok_iload_n (pc := 3) dX12_fresh_3 rfl ?_
  refine ok_callVi3 (pc := 4) (d' := 2) dX12_fresh_4 vl_X12_288 hR.o rfl rfl rfl (by decide) ?_
  refine r_isWay hR ?_
  refine ok_if_eq (pc := 7) 20 dX12_fresh_7 (by decide) (fun cc_7 => ?_) (fun cc_7 => ?_)
  · have cq_7 := bI_0.mp cc_7
    refine ok_aload_n (pc := 20) dX12_fresh_20 rfl ?_
    refine ok_ldc (pc := 21) (v := -1000000001) dX12_fresh_21 tw_1205 ?_
    refine ok_callVi1 (pc := 23) (d' := 0) dX12_fresh_23 vl_X12_84 hR.o rfl rfl rfl (by decide) ?_
    refine r_finding hR 1 (by decide) (by decide) (fun M hR => ?_)
    refine ok_iret (pc := 26) dX12_fresh_26 rfl ?_
    have eo : op_fresh σ x y z w = (1, -1000000001) := by simp [op_fresh, cq_7]
    rw [eo] at k
    exact k _ (RefW.err 1 (by decide) hR hv hw)
  · have cq_7 := bI_n0.mp cc_7
    refine ok_iload (pc := 10) dX12_fresh_10 rfl ?_
    refine ok_iconst (pc := 12) (v := 0) dX12_fresh_12 (by decide) ?_
    refine ok_iconst (pc := 13) (v := 1) dX12_fresh_13 (by decide) ?_
    refine ok_callSi3 (pc := 14) (d' := 0) dX12_fresh_14 sl_X12_75 rfl (by decide) ?_
    refine r_within ?_
    refine ok_if_ne (pc := 17) 27 dX12_fresh_17 (by decide) (fun cc_17 => ?_) (fun cc_17 => ?_)
    · have cq_17 := bI_n0.mp cc_17
      refine ok_aload_n (pc := 27) dX12_fresh_27 rfl ?_
      refine ok_getf (pc := 28) dX12_fresh_28 fl_X12_9 hR.o rfl ?_
      refine ok_iconst (pc := 31) (v := 1) dX12_fresh_31 (by decide) ?_
      refine ok_iald (pc := 32) (1) dX12_fresh_32 hR.a0 rfl (by decide) (by decide) ?_
      refine ok_bipush (pc := 33) (v := 9) dX12_fresh_33 (by decide) ?_
      refine ok_icmp_eq (pc := 35) 49 dX12_fresh_35 (by decide) (fun cc_35 => ?_) (fun cc_35 => ?_)
      · refine ok_aload_n (pc := 49) dX12_fresh_49 rfl ?_
        refine ok_ldc (pc := 50) (v := -1000000003) dX12_fresh_50 tw_1215 ?_
        refine ok_callVi1 (pc := 52) (d' := 0) dX12_fresh_52 vl_X12_84 hR.o rfl rfl rfl (by decide) ?_
        refine r_finding hR 3 (by decide) (by decide) (fun M hR => ?_)
        refine ok_iret (pc := 55) dX12_fresh_55 rfl ?_
        have eo : op_fresh σ x y z w = (3, -1000000003) := by simp [op_fresh, cq_7, cq_17, cc_35]
        rw [eo] at k
        exact k _ (RefW.err 3 (by decide) hR hv hw)
      · refine ok_aload_n (pc := 38) dX12_fresh_38 rfl ?_
        refine ok_getf (pc := 39) dX12_fresh_39 fl_X12_9 hR.o rfl ?_
        refine ok_iconst (pc := 42) (v := 2) dX12_fresh_42 (by decide) ?_
        refine ok_iald (pc := 43) (2) dX12_fresh_43 hR.a0 rfl (by decide) (by decide) ?_
        refine ok_bipush (pc := 44) (v := 8) dX12_fresh_44 (by decide) ?_
        refine ok_icmp_ne (pc := 46) 56 dX12_fresh_46 (by decide) (fun cc_46 => ?_) (fun cc_46 => ?_)
        · refine ok_aload_n (pc := 56) dX12_fresh_56 rfl ?_
          refine ok_iload_n (pc := 57) dX12_fresh_57 rfl ?_
          refine ok_iload_n (pc := 58) dX12_fresh_58 rfl ?_
          refine ok_iload_n (pc := 59) dX12_fresh_59 rfl ?_
          refine ok_callVi3 (pc := 60) (d' := 8) dX12_fresh_60 vl_X12_308 hR.o rfl rfl rfl (by decide) ?_
          have hwy := cq_7
          unfold wyF at hwy
          simp only [Bool.and_eq_true] at hwy
          obtain ⟨ex, lx⟩ := wi_cnt eH (by omega) hwy.1.1.1
          obtain ⟨ey, ly⟩ := wi_cnt eH (by omega) hwy.1.1.2
          have n9 : cH σ ≠ 9 := fun h9 => cc_35 (by rw [eH, h9]; rfl)
          have n8 : cK σ ≠ 8 := fun h9 => cc_46 (by rw [eK, h9]; rfl)
          refine r_freshOf hR (iN x) (iN y) ex ey (by omega) (by omega) hI (by omega) (by omega) (by omega) (fun M rj rb hR hri hs hfs => ?_)
          have hv := (show rj 3 = vi 3 ∧ rj 19 = vi 19 from ⟨(hri 3 (by decide)).trans hv.1, (hri 19 (by decide)).trans hv.2⟩)
          refine ok_istore5 (pc := 63) dX12_fresh_63 (by decide) rfl ?_
          refine ok_iload (pc := 65) dX12_fresh_65 rfl ?_
          refine ok_if_ge (pc := 67) 80 dX12_fresh_67 (by decide) (fun cc_67 => ?_) (fun cc_67 => ?_)
          · have ce_67 := Int32.not_lt.mpr cc_67
            refine ok_iload (pc := 80) dX12_fresh_80 rfl ?_
            refine ok_if_ne (pc := 82) 90 dX12_fresh_82 (by decide) (fun cc_82 => ?_) (fun cc_82 => ?_)
            · refine ok_aload_n (pc := 90) dX12_fresh_90 rfl ?_
              refine ok_getf (pc := 91) dX12_fresh_91 fl_X12_305 hR.o rfl ?_
              refine ok_iret (pc := 94) dX12_fresh_94 rfl ?_
              have hfs2 : rj 16 = (frS σ (iN x) (iN y) z 64).2 := by
                rcases hfs with h9 | h9
                · exact absurd h9 (Int32.not_lt.mpr cc_67)
                · exact h9
              have hcc : (wyF σ x y z && wi w 0 1) = true := by rw [cq_7, cq_17]; rfl
              have hnn : ¬ (σ 1 = 9 ∨ σ 2 = 8) := fun h => h.elim cc_35 cc_46
              first
                | (have eo : op_fresh σ x y z w = (0, (frS σ (iN x) (iN y) z 64).1) := by unfold op_fresh; rw [if_pos hcc, if_neg hnn, if_neg ce_67, if_pos cc_82]
                   rw [eo] at k
                   exact k _ (RefW.okv hR hs hv hw))
                | (have eo : op_fresh σ x y z w = (0, (frS σ (iN x) (iN y) z 64).2) := by unfold op_fresh; rw [if_pos hcc, if_neg hnn, if_neg ce_67, if_neg cc_82]
                   rw [eo] at k
                   rw [hfs2]
                   exact k _ (RefW.okv hR hs hv hw))
            · refine ok_iload (pc := 85) dX12_fresh_85 rfl ?_
              refine ok_goto (pc := 87) 94 dX12_fresh_87 (by decide) ?_
              refine ok_iret (pc := 94) dX12_fresh_94 rfl ?_
              have hfs2 : rj 16 = (frS σ (iN x) (iN y) z 64).2 := by
                rcases hfs with h9 | h9
                · exact absurd h9 (Int32.not_lt.mpr cc_67)
                · exact h9
              have hcc : (wyF σ x y z && wi w 0 1) = true := by rw [cq_7, cq_17]; rfl
              have hnn : ¬ (σ 1 = 9 ∨ σ 2 = 8) := fun h => h.elim cc_35 cc_46
              first
                | (have eo : op_fresh σ x y z w = (0, (frS σ (iN x) (iN y) z 64).1) := by unfold op_fresh; rw [if_pos hcc, if_neg hnn, if_neg ce_67, if_pos cc_82]
                   rw [eo] at k
                   exact k _ (RefW.okv hR hs hv hw))
                | (have eo : op_fresh σ x y z w = (0, (frS σ (iN x) (iN y) z 64).2) := by unfold op_fresh; rw [if_pos hcc, if_neg hnn, if_neg ce_67, if_neg cc_82]
                   rw [eo] at k
                   rw [hfs2]
                   exact k _ (RefW.okv hR hs hv hw))
          · have ce_67 := Int32.not_le.mp cc_67
            refine ok_aload_n (pc := 70) dX12_fresh_70 rfl ?_
            refine ok_ldcw (pc := 71) (v := -1000000002) dX12_fresh_71 tw_1536 ?_
            refine ok_callVi1 (pc := 74) (d' := 0) dX12_fresh_74 vl_X12_84 hR.o rfl rfl rfl (by decide) ?_
            refine r_finding hR 2 (by decide) (by decide) (fun M hR => ?_)
            refine ok_goto (pc := 77) 94 dX12_fresh_77 (by decide) ?_
            refine ok_iret (pc := 94) dX12_fresh_94 rfl ?_
            have eo : op_fresh σ x y z w = (2, -1000000002) := by simp [op_fresh, cq_7, cq_17, cc_35, cc_46, cc_67, ce_67]
            rw [eo] at k
            exact k _ (RefW.err 2 (by decide) hR hv ⟨hs.1.trans hw.1, hs.2.1.trans hw.2.1, hs.2.2.1.trans hw.2.2.1, hs.2.2.2.1.trans hw.2.2.2.1, hs.2.2.2.2.trans hw.2.2.2.2⟩)
        · refine ok_aload_n (pc := 49) dX12_fresh_49 rfl ?_
          refine ok_ldc (pc := 50) (v := -1000000003) dX12_fresh_50 tw_1215 ?_
          refine ok_callVi1 (pc := 52) (d' := 0) dX12_fresh_52 vl_X12_84 hR.o rfl rfl rfl (by decide) ?_
          refine r_finding hR 3 (by decide) (by decide) (fun M hR => ?_)
          refine ok_iret (pc := 55) dX12_fresh_55 rfl ?_
          have eo : op_fresh σ x y z w = (3, -1000000003) := by simp [op_fresh, cq_7, cq_17, cc_35, cc_46]
          rw [eo] at k
          exact k _ (RefW.err 3 (by decide) hR hv hw)
    · have cq_17 := bI_0.mp cc_17
      refine ok_aload_n (pc := 20) dX12_fresh_20 rfl ?_
      refine ok_ldc (pc := 21) (v := -1000000001) dX12_fresh_21 tw_1205 ?_
      refine ok_callVi1 (pc := 23) (d' := 0) dX12_fresh_23 vl_X12_84 hR.o rfl rfl rfl (by decide) ?_
      refine r_finding hR 1 (by decide) (by decide) (fun M hR => ?_)
      refine ok_iret (pc := 26) dX12_fresh_26 rfl ?_
      have eo : op_fresh σ x y z w = (1, -1000000001) := by simp [op_fresh, cq_7, cq_17]
      rw [eo] at k
      exact k _ (RefW.err 1 (by decide) hR hv hw)

set_option maxHeartbeats 1000000 in
theorem l_check {Γ : Cx} {m sz : Nat} {M0 : Nat → Option va_E} {τ κ : Rw} {ri : Nat → Int32} {K : Int32 → Wd → Prop} {ra0 : Nat → Rw} {x xm : Int32} (l0 m0 : Nat) (el : x = nI l0) (em : xm = nI m0) (hl : l0 < cL τ) (hm : m0 ≤ 20) (hI : Inv τ) (hc9 : cT τ ≤ 10000) (A0 : Int32) (k : ∀ M' ra', RefX Γ m M0 τ κ ri ra' M' → Vs ra0 ra' → K A0 (M', sz)) : ∀ (n : Nat) (i : Nat) (x3 : Int32) (xi : Int32) (M : Nat → Option va_E) (ra : Nat → Rw), i + n = m0 → xi = nI i → (x3 = 0 ∧ ckA τ l0 n i = A0) ∨ (¬ x3 = 0 ∧ x3 = A0) → RefX Γ m M0 (hrsF τ i) κ ri ra M → ra 2 = τ → Vs ra0 ra → Ok Γ mX12_check 10 0 48 [some (.ref m), some (.int x), some (.int xm), some (.int x3), some (.int xi)] [] (M, sz) (ci K) := by
  intro n
  induction n with
  | zero =>
    intro i x3 xi M ra h1 ei hA hR h2 hs0
    obtain ⟨t1, t2, t3, t4, t5, t6⟩ := hrs_ok hI i (by omega)
    have lL := hI.1.2.2.1.2
    refine ok_iload (pc := 48) dX12_check_48 rfl ?_
    refine ok_iload_n (pc := 50) dX12_check_50 rfl ?_
    refine ok_icmp_ge (pc := 51) 97 dX12_check_51 (by decide) (fun cc_51 => ?_) (fun cc_51 => ?_)
    · have ce_51 := Int32.not_lt.mpr cc_51
      have hA9 : x3 = A0 := by
        rcases hA with h9 | h9
        · rw [h9.1]; exact h9.2
        · exact h9.2
      subst hA9
      refine ok_aload_n (pc := 97) dX12_check_97 rfl ?_
      refine ok_iload_n (pc := 98) dX12_check_98 rfl ?_
      refine ok_callVi1 (pc := 99) (d' := 1) dX12_check_99 vl_X12_282 hR.o rfl rfl rfl (by decide) ?_
      refine r_putBack hR (fun M hR => ?_)
      rw [h2] at hR
      refine ok_iret (pc := 102) dX12_check_102 rfl ?_
      exact k _ _ hR hs0
    · exact absurd (by rw [em, ei]; exact nI_le (by omega) (by omega)) cc_51
  | succ n ih =>
    intro i x3 xi M ra h1 ei hA hR h2 hs0
    obtain ⟨t1, t2, t3, t4, t5, t6⟩ := hrs_ok hI i (by omega)
    have lL := hI.1.2.2.1.2
    refine ok_iload (pc := 48) dX12_check_48 rfl ?_
    refine ok_iload_n (pc := 50) dX12_check_50 rfl ?_
    refine ok_icmp_ge (pc := 51) 97 dX12_check_51 (by decide) (fun cc_51 => ?_) (fun cc_51 => ?_)
    · exact absurd (by rw [em, ei] at cc_51; exact cc_51) (nI_ge (by omega) (by omega))
    · have ce_51 := Int32.not_le.mp cc_51
      refine ok_iload_n (pc := 54) dX12_check_54 rfl ?_
      refine ok_if_ne (pc := 55) 97 dX12_check_55 (by decide) (fun cc_55 => ?_) (fun cc_55 => ?_)
      · have hA9 : x3 = A0 := by
          rcases hA with h9 | h9
          · exact absurd h9.1 cc_55
          · exact h9.2
        subst hA9
        refine ok_aload_n (pc := 97) dX12_check_97 rfl ?_
        refine ok_iload_n (pc := 98) dX12_check_98 rfl ?_
        refine ok_callVi1 (pc := 99) (d' := 1) dX12_check_99 vl_X12_282 hR.o rfl rfl rfl (by decide) ?_
        refine r_putBack hR (fun M hR => ?_)
        rw [h2] at hR
        refine ok_iret (pc := 102) dX12_check_102 rfl ?_
        exact k _ _ hR hs0
      · have hA9 : ckA τ l0 (n + 1) i = A0 := by
          rcases hA with h9 | h9
          · exact h9.2
          · exact absurd cc_55 h9.1
        refine ok_aload_n (pc := 58) dX12_check_58 rfl ?_
        refine ok_callVv0 (pc := 59) (d' := 9) dX12_check_59 vl_X12_266 hR.o rfl rfl rfl (by decide) ?_
        refine r_hour hR t1 (fun M rb hR hs => ?_)
        have h2 : rb 2 = τ := (hs 2 (by decide) (by decide)).trans h2
        have hs0 := hs0.tr hs.vs
        have ew : hourF (hrsF τ i) (245 + i) = τ (245 + i) := (hrs_ok hI (i + 1) (by omega)).2.2.2.2.2 (245 + i) (by omega)
        have eh : hourF (hrsF τ i) = hrsF τ (i + 1) := rfl
        refine ok_aload_n (pc := 62) dX12_check_62 rfl ?_
        refine ok_getf (pc := 63) dX12_check_63 fl_X12_9 hR.o rfl ?_
        refine ok_sipush (pc := 66) (v := 245) dX12_check_66 (by decide) ?_
        refine ok_iload (pc := 69) dX12_check_69 rfl ?_
        refine ok_iadd (pc := 71) dX12_check_71 ?_
        refine ok_iald (pc := 72) (245 + i) dX12_check_72 hR.a0 (by simp only [ei, fa_lit, pk_mul, nI_add]) (by omega) (by decide) ?_
        refine ok_aload_n (pc := 73) dX12_check_73 rfl ?_
        refine ok_iload_n (pc := 74) dX12_check_74 rfl ?_
        refine ok_iconst (pc := 75) (v := 5) dX12_check_75 (by decide) ?_
        refine ok_callVi2 (pc := 76) (d' := 0) dX12_check_76 vl_X12_97 hR.o rfl rfl rfl (by decide) ?_
        refine r_letterIs hR l0 el 5 rfl (by omega) (by decide) ?_
        refine ok_icmp_ne (pc := 79) 86 dX12_check_79 (by decide) (fun cc_79 => ?_) (fun cc_79 => ?_)
        · rw [ew, eh] at cc_79
          have hA8 : nI (1 + i) = A0 := by rw [← hA9]; exact (if_neg cc_79).symm
          have hA7 : (¬ (1 + xi) = 0) ∧ (1 + xi) = A0 := by
            rw [ei, fa_lit 1, nI_add]
            exact ⟨nI_ne0 (by omega) (by omega), hA8⟩
          refine ok_iconst (pc := 86) (v := 1) dX12_check_86 (by decide) ?_
          refine ok_iload (pc := 87) dX12_check_87 rfl ?_
          refine ok_iadd (pc := 89) dX12_check_89 ?_
          refine ok_istore_n3 (pc := 90) dX12_check_90 (by decide) rfl ?_
          refine ok_iinc4 (pc := 91) (v := 1) dX12_check_91 (by decide) (by decide) rfl ?_
          refine ok_goto (pc := 94) 48 dX12_check_94 (by decide) ?_
          exact ih (i + 1) _ _ _ _ (by omega) (by rw [ei, nI_1]) (by first | exact Or.inl ⟨rfl, hA8⟩ | exact Or.inr hA7) hR h2 hs0
        · rw [ew, eh] at cc_79
          have hA8 : ckA τ l0 n (i + 1) = A0 := by rw [← hA9]; exact (if_pos cc_79).symm
          refine ok_iconst (pc := 82) (v := 0) dX12_check_82 (by decide) ?_
          refine ok_goto (pc := 83) 90 dX12_check_83 (by decide) ?_
          refine ok_istore_n3 (pc := 90) dX12_check_90 (by decide) rfl ?_
          refine ok_iinc4 (pc := 91) (v := 1) dX12_check_91 (by decide) (by decide) rfl ?_
          refine ok_goto (pc := 94) 48 dX12_check_94 (by decide) ?_
          exact ih (i + 1) _ _ _ _ (by omega) (by rw [ei, nI_1]) (by first | exact Or.inl ⟨rfl, hA8⟩ | exact Or.inr hA7) hR h2 hs0

set_option maxHeartbeats 1000000 in
theorem r_check {Γ : Cx} {m sz : Nat} {M0 M : Nat → Option va_E} {σ κ vi : Rw} {va : Nat → Rw} {K : Int32 → Wd → Prop} (hW : RefW Γ m M0 σ κ vi va M) (hI : Inv σ) {x : Int32} (hc9 : cT σ ≤ 9999) (k : ∀ M', RefW Γ m M0 (op_check σ x).2.2 κ vi (eU va (op_check σ x).1) M' → K (op_check σ x).2.1 (M', sz)) : Spec Γ mX12_check 10 0 [.ref m, .int x] (M, sz) (ci K) := by
  obtain ⟨ri, ra, hR, hv, hw⟩ := hW
  obtain ⟨⟨⟨eH, lH⟩, ⟨eK, lK⟩, ⟨eL, lL⟩, ⟨eA, lA⟩, ⟨eT, lT⟩⟩, iK, iH, iW, iL, iO, iB, hT⟩ := id hI
  
  refine spec_in [some (.ref m), some (.int x), none, none, none] 3 (by decide) rfl rfl ?_
  refine ok_aload_n (pc := 0) dX12_check_0 rfl ?_
  refine ok_getf (pc := 1) dX12_check_1 fl_X12_9 hR.o rfl ?_
  refine ok_bipush (pc := 4) (v := 7) dX12_check_4 (by decide) ?_
  refine ok_iald (pc := 6) (7) dX12_check_6 hR.a0 rfl (by decide) (by decide) ?_
  refine ok_istore_n2 (pc := 7) dX12_check_7 (by decide) rfl ?_
  refine ok_aload_n (pc := 8) dX12_check_8 rfl ?_
  refine ok_getf (pc := 9) dX12_check_9 fl_X12_9 hR.o rfl ?_
  refine ok_bipush (pc := 12) (v := 7) dX12_check_12 (by decide) ?_
  refine ok_iconst (pc := 14) (v := 0) dX12_check_14 (by decide) ?_
  refine ok_rst0 (pc := 15) (7) dX12_check_15 hR rfl (by decide) (fun M hR => ?_)
  refine ok_aload_n (pc := 16) dX12_check_16 rfl ?_
  refine ok_iload_n (pc := 17) dX12_check_17 rfl ?_
  refine ok_iconst (pc := 18) (v := 3) dX12_check_18 (by decide) ?_
  refine ok_callVi2 (pc := 19) (d' := 1) dX12_check_19 vl_X12_100 hR.o rfl rfl rfl (by decide) ?_
  refine r_is hR 3 rfl (by decide) ?_
  refine ok_if_ne (pc := 22) 32 dX12_check_22 (by decide) (fun cc_22 => ?_) (fun cc_22 => ?_)
  · have cq_22 := bI_n0.mp cc_22
    refine ok_aload_n (pc := 32) dX12_check_32 rfl ?_
    refine ok_getf (pc := 33) dX12_check_33 fl_X12_9 hR.o rfl ?_
    refine ok_aload_n (pc := 36) dX12_check_36 rfl ?_
    refine ok_getf (pc := 37) dX12_check_37 fl_X12_16 hR.o rfl ?_
    refine ok_callSv2 (pc := 40) (d' := 0) dX12_check_40 sl_X12_79 rfl (by decide) ?_
    refine r_copy hR.a0 hR.a2 (by omega) ?_
    have hR := hR.s2 (upd σ 7 0)
    refine ok_iconst (pc := 43) (v := 0) dX12_check_43 (by decide) ?_
    refine ok_istore_n3 (pc := 44) dX12_check_44 (by decide) rfl ?_
    refine ok_iconst (pc := 45) (v := 0) dX12_check_45 (by decide) ?_
    refine ok_istore4 (pc := 46) dX12_check_46 (by decide) rfl ?_
    rw [upd_ne (by decide)] at cq_22
    obtain ⟨ea, la⟩ := wi_cnt eL (by omega) cq_22
    obtain ⟨m0, em, hm⟩ := iB.2.1
    have e7 : iN (σ 7) = m0 := by rw [em]; exact nI_clamp (by omega)
    have hI2 : Inv (upd σ 7 0) := Inv_wait hI (n := 0) (by decide)
    have hL2 : cL (upd σ 7 0) = cL σ := by unfold cL; rw [upd_ne (by decide)]
    have hT2 : cT (upd σ 7 0) = cT σ := by unfold cT; rw [upd_ne (by decide)]
    have eo : op_check σ x = ((0, ckA (upd σ 7 0) (iN x) (iN (σ 7)) 0, upd σ 7 0) : Op3) := by simp [op_check, cq_22]
    rw [eo] at k
    exact l_check (τ := upd σ 7 0) (ra0 := va_up ra 2 (upd σ 7 0)) (iN x) m0 ea em (by rw [hL2]; exact la) hm hI2 (by omega) _ (fun M rb hR hs => k _ (RefW.okv hR (Vs.up2.tr hs) hv hw)) m0 0 _ _ _ _ (by omega) rfl (Or.inl ⟨rfl, by rw [e7]⟩) hR vup_eq ⟨rfl, rfl, rfl, rfl, rfl⟩
  · have cq_22 := bI_0.mp cc_22
    refine ok_aload_n (pc := 25) dX12_check_25 rfl ?_
    refine ok_ldc (pc := 26) (v := -1000000001) dX12_check_26 tw_1205 ?_
    refine ok_callVi1 (pc := 28) (d' := 0) dX12_check_28 vl_X12_84 hR.o rfl rfl rfl (by decide) ?_
    refine r_finding hR 1 (by decide) (by decide) (fun M hR => ?_)
    refine ok_iret (pc := 31) dX12_check_31 rfl ?_
    rw [upd_ne (by decide)] at cq_22
    have eo : op_check σ x = ((1, -1000000001, upd σ 7 0) : Op3) := by simp [op_check, e3, cq_22]; try decide
    rw [eo] at k
    exact k _ (RefW.err 1 (by decide) hR hv hw)
