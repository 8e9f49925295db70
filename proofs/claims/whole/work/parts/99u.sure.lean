theorem nn_I {x : Int32} (h : 0 ≤ x) : x = nI (iN x) ∧ iN x < 2 ^ 31 := by
  have h0 := (fa_le _ _).mp h
  rw [show (0 : Int32).toInt = 0 from by decide] at h0
  have h1 : x.toInt < 2 ^ 31 := Int32.toInt_lt x
  have e : (iN x : Int) = x.toInt := Int.toNat_of_nonneg h0
  have h2 : iN x < 2 ^ 31 := by omega
  exact ⟨(fa_eq _ _).mpr (by rw [nI_toInt h2]; exact e.symm), h2⟩
theorem wi_lo {v a b : Int32} (h : v < a) : wi v a b = false := by unfold wi; rw [decide_eq_false (Int32.not_le.mpr h), Bool.false_and]
theorem wi_hi {v a b : Int32} (h : b < v) : wi v a b = false := by unfold wi; rw [decide_eq_false (Int32.not_le.mpr h), Bool.and_false]
theorem wi_in {v a b : Int32} (h : a ≤ v) (h2 : v ≤ b) : wi v a b = true := by unfold wi; rw [decide_eq_true h, decide_eq_true h2]; rfl
theorem dv_n {x : Int32} (h : 0 ≤ x) {q : Nat} (h0 : 0 < q) (hq : q < 2 ^ 31) : x / nI q = nI (iN x / q) ∧ jrem x (nI q) = nI (iN x % q) := by
  obtain ⟨e, l⟩ := nn_I h
  have e1 := pk_div l h0 hq
  have e2 := pk_rem l h0 hq
  rw [← e] at e1 e2
  exact ⟨e1, e2⟩

set_option maxHeartbeats 1000000 in
theorem lx_rbB {Γ : Cx} {a e z sz : Nat} {σ κ vi : Rw} {va : Nat → Rw} {M : Nat → Option va_E} {K : Int32 → Wd → Prop} (hC : ClsR Γ a e z σ κ vi va M) (hI : Inv σ) (hae : a + 92 ≤ e) {w : Int32} {f : Rw} (hF : M (a + 83) = aI Γ 80 f) (n0 : Nat) (hn : n0 ≤ 10) (hf : ∀ j, j < 8 * n0 → f j = rcF σ w j) {xi : Int32} (i0 S : Nat) (hS : S < 2 ^ 9) (ei : xi = nI i0) (hi : i0 < n0) (k : K (nI (go σ S (cT σ + i0) w (cK σ))) (M, sz)) : ∀ (n : Nat) (j : Nat) (xj : Int32) (l5 : Option Value), j + n = 8 → cK σ ≤ j → xj = nI j → Ok Γ mX11_reachedBehind 1 0 5 [some (.ref a), some (.int (nI S)), some (.int xi), some (.int (nI (go σ S (cT σ + i0) w (cK σ)))), some (.int xj), l5] [] (M, sz) (ci K) := by
  obtain ⟨⟨⟨eH, lH⟩, ⟨eK, lK⟩, ⟨eL, lL⟩, ⟨eA, lA⟩, ⟨eT, lT⟩⟩, iK, iH, iW, iL, iO, iB, hT⟩ := id hI
  
  intro n
  induction n with
  | zero =>
    intro j xj l5 h1 hk ej
    refine ok_iload (pc := 5) dX11_reachedBehind_5 rfl ?_
    refine ok_bipush (pc := 7) (v := 8) dX11_reachedBehind_7 (by decide) ?_
    refine ok_icmp_ge (pc := 9) 61 dX11_reachedBehind_9 (by decide) (fun cc_9 => ?_) (fun cc_9 => ?_)
    · have ce_9 := Int32.not_lt.mpr cc_9
      refine ok_iload_n (pc := 61) dX11_reachedBehind_61 rfl ?_
      refine ok_iret (pc := 62) dX11_reachedBehind_62 rfl ?_
      exact k
    · exact absurd (by rw [ej]; exact nI_le (a := 8) (by omega) (by omega)) cc_9
  | succ n ih =>
    intro j xj l5 h1 hk ej
    refine ok_iload (pc := 5) dX11_reachedBehind_5 rfl ?_
    refine ok_bipush (pc := 7) (v := 8) dX11_reachedBehind_7 (by decide) ?_
    refine ok_icmp_ge (pc := 9) 61 dX11_reachedBehind_9 (by decide) (fun cc_9 => ?_) (fun cc_9 => ?_)
    · rw [ej] at cc_9
      exact absurd cc_9 (nI_ge (b := 8) (by omega) (by omega))
    · have ce_9 := Int32.not_le.mp cc_9
      refine ok_aload_n (pc := 12) dX11_reachedBehind_12 rfl ?_
      refine ok_getf (pc := 13) dX11_reachedBehind_13 fl_X11_10 hC.1 rfl ?_
      refine ok_iload (pc := 16) dX11_reachedBehind_16 rfl ?_
      refine ok_callVr1 (pc := 18) (d' := 0) dX11_reachedBehind_18 vl_X11_91 hC.2.1.o rfl rfl rfl (by decide) ?_
      refine c_kiteAt hC.2.1 eK lK (fun q9 ex9 lx9 hK9 => absurd lx9 (by rw [ej, show iN (nI j) = j from nI_clamp (by omega)]; omega)) (fun h9 => ?_)
      refine ok_astoreN5 (pc := 21) dX11_reachedBehind_21 (by decide) rfl ?_
      refine ok_aloadN (pc := 23) dX11_reachedBehind_23 rfl ?_
      refine ok_ifnullN (pc := 25) 55 dX11_reachedBehind_25 (by decide) ?_
      refine ok_iinc4 (pc := 55) (v := 1) dX11_reachedBehind_55 (by decide) (by decide) rfl ?_
      refine ok_goto (pc := 58) 5 dX11_reachedBehind_58 (by decide) ?_
      exact ih (j + 1) _ _ (by omega) (by omega) (by rw [ej, nI_1])

set_option maxHeartbeats 1000000 in
theorem lx_rbA {Γ : Cx} {a e z sz : Nat} {σ κ vi : Rw} {va : Nat → Rw} {M : Nat → Option va_E} {K : Int32 → Wd → Prop} (hC : ClsR Γ a e z σ κ vi va M) (hI : Inv σ) (hae : a + 92 ≤ e) {w : Int32} {f : Rw} (hF : M (a + 83) = aI Γ 80 f) (n0 : Nat) (hn : n0 ≤ 10) (hf : ∀ j, j < 8 * n0 → f j = rcF σ w j) {xi : Int32} (i0 S : Nat) (hS : S < 2 ^ 9) (ei : xi = nI i0) (hi : i0 < n0) (k : K (nI (go σ S (cT σ + i0) w (cK σ))) (M, sz)) : ∀ (n : Nat) (j : Nat) (xj : Int32) (l5 : Option Value), j + n = cK σ → xj = nI j → Ok Γ mX11_reachedBehind 1 0 5 [some (.ref a), some (.int (nI S)), some (.int xi), some (.int (nI (go σ S (cT σ + i0) w j))), some (.int xj), l5] [] (M, sz) (ci K) := by
  obtain ⟨⟨⟨eH, lH⟩, ⟨eK, lK⟩, ⟨eL, lL⟩, ⟨eA, lA⟩, ⟨eT, lT⟩⟩, iK, iH, iW, iL, iO, iB, hT⟩ := id hI
  intro n
  induction n with
  | zero =>
    intro j xj l5 h1 ej
    have e9 : j = cK σ := by omega
    subst e9
    exact lx_rbB hC hI hae hF n0 hn hf i0 S hS ei hi k (8 - cK σ) (cK σ) xj l5 (by omega) (by omega) ej
  | succ n ih =>
    intro j xj l5 h1 ej
    refine ok_iload (pc := 5) dX11_reachedBehind_5 rfl ?_
    refine ok_bipush (pc := 7) (v := 8) dX11_reachedBehind_7 (by decide) ?_
    refine ok_icmp_ge (pc := 9) 61 dX11_reachedBehind_9 (by decide) (fun cc_9 => ?_) (fun cc_9 => ?_)
    · rw [ej] at cc_9
      exact absurd cc_9 (nI_ge (b := 8) (by omega) (by omega))
    · have ce_9 := Int32.not_le.mp cc_9
      refine ok_aload_n (pc := 12) dX11_reachedBehind_12 rfl ?_
      refine ok_getf (pc := 13) dX11_reachedBehind_13 fl_X11_10 hC.1 rfl ?_
      refine ok_iload (pc := 16) dX11_reachedBehind_16 rfl ?_
      refine ok_callVr1 (pc := 18) (d' := 0) dX11_reachedBehind_18 vl_X11_91 hC.2.1.o rfl rfl rfl (by decide) ?_
      refine c_kiteAt hC.2.1 eK lK (fun q9 ex9 lx9 hK9 => ?_) (fun h9 => absurd h9 (by rw [wi_T eK (by omega) (by rw [ej]; exact nI_pos' (by omega)) (by rw [ej, eK]; exact nI_lt (by omega) (by omega))]; decide))
      have e5 : iN xj = j := by rw [ej]; exact nI_clamp (by omega)
      rw [e5] at hK9
      obtain ⟨⟨ehm, lhm⟩, -⟩ := iK j (by omega)
      refine ok_astore5 (pc := 21) dX11_reachedBehind_21 (by decide) rfl ?_
      refine ok_aload (pc := 23) dX11_reachedBehind_23 rfl ?_
      refine ok_ifnull (pc := 25) dX11_reachedBehind_25 ?_
      refine ok_iload_n (pc := 28) dX11_reachedBehind_28 rfl ?_
      refine ok_aload (pc := 29) dX11_reachedBehind_29 rfl ?_
      refine ok_getf (pc := 31) dX11_reachedBehind_31 (flk_X11_103 _) hK9.2 rfl ?_
      refine ok_ishr (pc := 34) dX11_reachedBehind_34 ?_
      refine ok_iconst (pc := 35) (v := 1) dX11_reachedBehind_35 (by decide) ?_
      refine ok_iand (pc := 36) dX11_reachedBehind_36 ?_
      refine ok_if_eq (pc := 37) 55 dX11_reachedBehind_37 (by decide) (fun cc_37 => ?_) (fun cc_37 => ?_)
      · rw [ehm] at cc_37
        have cb := (hb_ne (by omega) (by omega)).mp cc_37
        have enx : go σ S (cT σ + i0) w (j + 1) = go σ S (cT σ + i0) w j := if_neg (by rw [cb]; decide)
        refine ok_iinc4 (pc := 55) (v := 1) dX11_reachedBehind_55 (by decide) (by decide) rfl ?_
        refine ok_goto (pc := 58) 5 dX11_reachedBehind_58 (by decide) ?_
        first
          | exact ih (j + 1) _ _ (by omega) (by rw [ej, nI_1])
          | (rw [← enx]; exact ih (j + 1) _ _ (by omega) (by rw [ej, nI_1]))
      · rw [ehm] at cc_37
        have cb : S.testBit (hmF σ j) = true := by
          cases h9 : S.testBit (hmF σ j) with
          | true => rfl
          | false => exact absurd ((hb_ne (by omega) (by omega)).mpr h9) cc_37
        have enx : go σ S (cT σ + i0) w (j + 1) = go σ S (cT σ + i0) w j ||| gi σ j (cT σ + i0) w 0 (cH σ) := (if_pos cb).trans (gi_or _)
        refine ok_iload_n (pc := 40) dX11_reachedBehind_40 rfl ?_
        refine ok_aload_n (pc := 41) dX11_reachedBehind_41 rfl ?_
        refine ok_getf (pc := 42) dX11_reachedBehind_42 fl_X11_41 hC.1 rfl ?_
        refine ok_iload_n (pc := 45) dX11_reachedBehind_45 rfl ?_
        refine ok_bipush (pc := 46) (v := 8) dX11_reachedBehind_46 (by decide) ?_
        refine ok_imul (pc := 48) dX11_reachedBehind_48 ?_
        refine ok_iload (pc := 49) dX11_reachedBehind_49 rfl ?_
        refine ok_iadd (pc := 51) dX11_reachedBehind_51 ?_
        have erc : f (8 * i0 + j) = nI (gi σ j (cT σ + i0) w 0 (cH σ)) := by
          rw [hf _ (by omega)]
          unfold rcF
          rw [show (8 * i0 + j) % 8 = j by omega, show (8 * i0 + j) / 8 = i0 by omega, if_pos (by omega)]
        refine ok_iald (pc := 52) (8 * i0 + j) dX11_reachedBehind_52 hF (by rw [ei, ej]; exact (congrArg (· + nI j) (pk_mul i0 8)).trans ((nI_add _ _).trans (by rw [Nat.mul_comm]))) (by omega) (by decide) ?_
        rw [erc]
        refine ok_ior (pc := 53) dX11_reachedBehind_53 ?_
        rw [fa_or, ← enx]
        refine ok_istore_n3 (pc := 54) dX11_reachedBehind_54 (by decide) rfl ?_
        refine ok_iinc4 (pc := 55) (v := 1) dX11_reachedBehind_55 (by decide) (by decide) rfl ?_
        refine ok_goto (pc := 58) 5 dX11_reachedBehind_58 (by decide) ?_
        first
          | exact ih (j + 1) _ _ (by omega) (by rw [ej, nI_1])
          | (rw [← enx]; exact ih (j + 1) _ _ (by omega) (by rw [ej, nI_1]))

set_option maxHeartbeats 1000000 in
theorem c_rb11 {Γ : Cx} {a e z sz : Nat} {σ κ vi : Rw} {va : Nat → Rw} {M : Nat → Option va_E} {K : Int32 → Wd → Prop} (hC : ClsR Γ a e z σ κ vi va M) (hI : Inv σ) (hae : a + 92 ≤ e) {w : Int32} {f : Rw} (hF : M (a + 83) = aI Γ 80 f) (n0 : Nat) (hn : n0 ≤ 10) (hf : ∀ j, j < 8 * n0 → f j = rcF σ w j) {xi : Int32} (i0 S : Nat) (hS : S < 2 ^ 9) (ei : xi = nI i0) (hi : i0 < n0) (k : K (nI (go σ S (cT σ + i0) w (cK σ))) (M, sz)) : Spec Γ mX11_reachedBehind 1 0 [.ref a, .int (nI S), .int xi] (M, sz) (ci K) := by
  refine spec_in [some (.ref a), some (.int (nI S)), some (.int xi), none, none, none] 3 (by decide) rfl rfl ?_
  refine ok_iload_n (pc := 0) dX11_reachedBehind_0 rfl ?_
  refine ok_istore_n3 (pc := 1) dX11_reachedBehind_1 (by decide) rfl ?_
  refine ok_iconst (pc := 2) (v := 0) dX11_reachedBehind_2 (by decide) ?_
  refine ok_istore4 (pc := 3) dX11_reachedBehind_3 (by decide) rfl ?_
  exact lx_rbA hC hI hae hF n0 hn hf i0 S hS ei hi k (cK σ) 0 _ _ (by omega) rfl

set_option maxHeartbeats 1000000 in
theorem c_cases {Γ : Cx} {a e z sz : Nat} {σ κ vi : Rw} {va : Nat → Rw} {M : Nat → Option va_E} (hC : ClsR Γ a e z σ κ vi va M) (hI : Inv σ) (hae : a + 92 ≤ e) {w : Int32} {f : Rw} (hF : M (a + 83) = aI Γ 80 f) (n0 : Nat) (hn : n0 ≤ 10) (hf : ∀ j, j < 8 * n0 → f j = rcF σ w j) {xt xn xc : Int32} (t c : Nat) (et : xt = nI t) (en : xn = nI n0) (ec : xc = nI c) (ht : t < 9) (hc : c ≤ 10) : ∀ (n : Nat) (i : Nat) (S : Nat) (xi : Int32) (K : Int64 → Wd → Prop), i + n = n0 → S < 2 ^ 9 → xi = nI i → K (lN (syN σ t w c n i S)) (M, sz) → Spec Γ mX11_casesThere (2 + n) 0 [.ref a, .int (nI S), .int xt, .int xi, .int xn, .int xc] (M, sz) (cl K) := by
  obtain ⟨⟨⟨eH, lH⟩, ⟨eK, lK⟩, ⟨eL, lL⟩, ⟨eA, lA⟩, ⟨eT, lT⟩⟩, iK, iH, iW, iL, iO, iB, hT⟩ := id hI
  intro n
  induction n with
  | zero =>
    intro i S xi K h1 hS ei k
    refine spec_in [some (.ref a), some (.int (nI S)), some (.int xt), some (.int xi), some (.int xn), some (.int xc), none, none, none] 3 (by decide) rfl rfl ?_
    refine ok_iload_n (pc := 0) dX11_casesThere_0 rfl ?_
    refine ok_iload_n (pc := 1) dX11_casesThere_1 rfl ?_
    refine ok_ishr (pc := 2) dX11_casesThere_2 ?_
    refine ok_iconst (pc := 3) (v := 1) dX11_casesThere_3 (by decide) ?_
    refine ok_iand (pc := 4) dX11_casesThere_4 ?_
    refine ok_if_eq (pc := 5) 16 dX11_casesThere_5 (by decide) (fun cc_5 => ?_) (fun cc_5 => ?_)
    · rw [et] at cc_5
      have cb := (hb_ne (by omega) (by omega)).mp cc_5
      refine ok_iload_n (pc := 16) dX11_casesThere_16 rfl ?_
      refine ok_iload (pc := 17) dX11_casesThere_17 rfl ?_
      refine ok_icmp_ge (pc := 19) 28 dX11_casesThere_19 (by decide) (fun cc_19 => ?_) (fun cc_19 => ?_)
      · have ce_19 := Int32.not_lt.mpr cc_19
        refine ok_lconst (pc := 28) (v := 0) dX11_casesThere_28 (by decide) ?_
        refine ok_lret (pc := 29) dX11_casesThere_29 rfl ?_
        rw [show syN σ t w c 0 i S = 0 from if_neg (by rw [cb]; decide)] at k
        exact k
      · exact absurd (by rw [en, ei]; exact nI_le (by omega) (by omega)) cc_19
    · rw [et] at cc_5
      have cb : S.testBit t = true := by
        cases h9 : S.testBit t with
        | true => rfl
        | false => exact absurd ((hb_ne (by omega) (by omega)).mpr h9) cc_5
      refine ok_iload (pc := 8) dX11_casesThere_8 rfl ?_
      refine ok_iload_n (pc := 10) dX11_casesThere_10 rfl ?_
      refine ok_isub (pc := 11) dX11_casesThere_11 ?_
      refine ok_callSl1 (pc := 12) (d' := 0) dX11_casesThere_12 sl_X11_302 rfl (by omega) ?_
      refine c_tenTo 0 (by rw [en, ei, pk_sub (by omega), show n0 - i = 0 by omega]) (by omega) ?_
      refine ok_lret (pc := 15) dX11_casesThere_15 rfl ?_
      rw [show syN σ t w c 0 i S = 10 ^ 0 from if_pos cb] at k
      exact k
  | succ n ih =>
    intro i S xi K h1 hS ei k
    refine spec_in [some (.ref a), some (.int (nI S)), some (.int xt), some (.int xi), some (.int xn), some (.int xc), none, none, none] 3 (by decide) rfl rfl ?_
    refine ok_iload_n (pc := 0) dX11_casesThere_0 rfl ?_
    refine ok_iload_n (pc := 1) dX11_casesThere_1 rfl ?_
    refine ok_ishr (pc := 2) dX11_casesThere_2 ?_
    refine ok_iconst (pc := 3) (v := 1) dX11_casesThere_3 (by decide) ?_
    refine ok_iand (pc := 4) dX11_casesThere_4 ?_
    refine ok_if_eq (pc := 5) 16 dX11_casesThere_5 (by decide) (fun cc_5 => ?_) (fun cc_5 => ?_)
    · rw [et] at cc_5
      have cb := (hb_ne (by omega) (by omega)).mp cc_5
      refine ok_iload_n (pc := 16) dX11_casesThere_16 rfl ?_
      refine ok_iload (pc := 17) dX11_casesThere_17 rfl ?_
      refine ok_icmp_ge (pc := 19) 28 dX11_casesThere_19 (by decide) (fun cc_19 => ?_) (fun cc_19 => ?_)
      · rw [en, ei] at cc_19
        exact absurd cc_19 (nI_ge (by omega) (by omega))
      · have ce_19 := Int32.not_le.mp cc_19
        refine ok_iload_n (pc := 22) dX11_casesThere_22 rfl ?_
        refine ok_bipush (pc := 23) (v := 10) dX11_casesThere_23 (by decide) ?_
        refine ok_icmp_lt (pc := 25) 30 dX11_casesThere_25 (by decide) (fun cc_25 => ?_) (fun cc_25 => ?_)
        · have ce_25 := Int32.not_le.mpr cc_25
          refine ok_aload_n (pc := 30) dX11_casesThere_30 rfl ?_
          refine ok_iload_n (pc := 31) dX11_casesThere_31 rfl ?_
          refine ok_iload_n (pc := 32) dX11_casesThere_32 rfl ?_
          refine ok_callVi2 (pc := 33) (d' := 1) dX11_casesThere_33 vl_X11_306 hC.1 rfl rfl rfl (by omega) ?_
          refine c_rb11 hC hI hae hF n0 hn hf i S hS ei (by omega) ?_
          have hG := go_lt (σ := σ) (tm := cT σ + i) (w := w) hS lH (cK σ)
          refine ok_istore6 (pc := 36) dX11_casesThere_36 (by decide) rfl ?_
          refine ok_aload_n (pc := 38) dX11_casesThere_38 rfl ?_
          refine ok_iload_n (pc := 39) dX11_casesThere_39 rfl ?_
          refine ok_iload_n (pc := 40) dX11_casesThere_40 rfl ?_
          refine ok_iload_n (pc := 41) dX11_casesThere_41 rfl ?_
          refine ok_iconst (pc := 42) (v := 1) dX11_casesThere_42 (by decide) ?_
          refine ok_iadd (pc := 43) dX11_casesThere_43 ?_
          refine ok_iload (pc := 44) dX11_casesThere_44 rfl ?_
          refine ok_iload (pc := 46) dX11_casesThere_46 rfl ?_
          refine ok_callVl5 (pc := 48) (d' := (2 + n)) dX11_casesThere_48 vl_X11_214 hC.1 rfl rfl rfl (by omega) ?_
          refine ih (i + 1) S _ _ (by omega) hS (by rw [ei, nI_1]) ?_
          refine ok_lstore7 (pc := 51) dX11_casesThere_51 (by decide) rfl ?_
          refine ok_iload (pc := 53) dX11_casesThere_53 rfl ?_
          refine ok_iload_n (pc := 55) dX11_casesThere_55 rfl ?_
          refine ok_icmp_ne (pc := 56) 66 dX11_casesThere_56 (by decide) (fun cc_56 => ?_) (fun cc_56 => ?_)
          · refine ok_iload (pc := 66) dX11_casesThere_66 rfl ?_
            refine ok_i2l (pc := 68) dX11_casesThere_68 ?_
            refine ok_lload (pc := 69) dX11_casesThere_69 rfl ?_
            refine ok_lmul (pc := 71) dX11_casesThere_71 ?_
            refine ok_bipush (pc := 72) (v := 10) dX11_casesThere_72 (by decide) ?_
            refine ok_iload (pc := 74) dX11_casesThere_74 rfl ?_
            refine ok_isub (pc := 76) dX11_casesThere_76 ?_
            refine ok_i2l (pc := 77) dX11_casesThere_77 ?_
            refine ok_aload_n (pc := 78) dX11_casesThere_78 rfl ?_
            refine ok_iload (pc := 79) dX11_casesThere_79 rfl ?_
            refine ok_iload_n (pc := 81) dX11_casesThere_81 rfl ?_
            refine ok_iload_n (pc := 82) dX11_casesThere_82 rfl ?_
            refine ok_iconst (pc := 83) (v := 1) dX11_casesThere_83 (by decide) ?_
            refine ok_iadd (pc := 84) dX11_casesThere_84 ?_
            refine ok_iload (pc := 85) dX11_casesThere_85 rfl ?_
            refine ok_iload (pc := 87) dX11_casesThere_87 rfl ?_
            refine ok_callVl5 (pc := 89) (d' := (2 + n)) dX11_casesThere_89 vl_X11_214 hC.1 rfl rfl rfl (by omega) ?_
            refine ih (i + 1) (go σ S (cT σ + i) w (cK σ)) _ _ (by omega) hG (by rw [ei, nI_1]) ?_
            refine ok_lmul (pc := 92) dX11_casesThere_92 ?_
            refine ok_ladd (pc := 93) dX11_casesThere_93 ?_
            refine ok_lret (pc := 94) dX11_casesThere_94 rfl ?_
            have e9 : syN σ t w c (n + 1) i S = c * syN σ t w c n (i + 1) S + (10 - c) * syN σ t w c n (i + 1) (go σ S (cT σ + i) w (cK σ)) := if_neg (by rw [cb]; decide)
            rw [e9] at k
            rw [sy_a ec hc]
            exact k
          · refine ok_ldc2 (pc := 59) (v := 10) dX11_casesThere_59 tw_910 ?_
            refine ok_lload (pc := 62) dX11_casesThere_62 rfl ?_
            refine ok_lmul (pc := 64) dX11_casesThere_64 ?_
            refine ok_lret (pc := 65) dX11_casesThere_65 rfl ?_
            have e9 : syN σ t w c (n + 1) i S = c * syN σ t w c n (i + 1) S + (10 - c) * syN σ t w c n (i + 1) (go σ S (cT σ + i) w (cK σ)) := if_neg (by rw [cb]; decide)
            rw [(nI_eq (by omega) (by omega)).mp cc_56, ← Nat.add_mul, show c + (10 - c) = 10 by omega] at e9
            rw [e9] at k
            rw [fa_litL 10, lN_mul]
            exact k
        · exact absurd (by rw [ei]; exact nI_lt (b := 10) (by omega) (by decide)) cc_25
    · rw [et] at cc_5
      have cb : S.testBit t = true := by
        cases h9 : S.testBit t with
        | true => rfl
        | false => exact absurd ((hb_ne (by omega) (by omega)).mpr h9) cc_5
      refine ok_iload (pc := 8) dX11_casesThere_8 rfl ?_
      refine ok_iload_n (pc := 10) dX11_casesThere_10 rfl ?_
      refine ok_isub (pc := 11) dX11_casesThere_11 ?_
      refine ok_callSl1 (pc := 12) (d' := 0) dX11_casesThere_12 sl_X11_302 rfl (by omega) ?_
      refine c_tenTo (n + 1) (by rw [en, ei, pk_sub (by omega), show n0 - i = n + 1 by omega]) (by omega) ?_
      refine ok_lret (pc := 15) dX11_casesThere_15 rfl ?_
      rw [show syN σ t w c (n + 1) i S = 10 ^ (n + 1) from if_pos cb] at k
      exact k

set_option maxHeartbeats 1000000 in
theorem x_sure {Γ : Cx} {a e z sz : Nat} {σ κ vi : Rw} {va : Nat → Rw} {M : Nat → Option va_E} {K : Int64 → Wd → Prop} (hC : ClsR Γ a e z σ κ vi va M) (hI : Inv σ) (hae : a + 92 ≤ e) (hc9 : cT σ ≤ 9999) {x y u w : Int32} (k : ∀ M', ClsR Γ a e z σ κ vi (eU va (op_sure σ x y u w).1) M' → Off a 92 M M' → K (op_sure σ x y u w).2 (M', sz)) : Spec Γ mX11_sure 13 0 [.ref a, .int x, .int y, .int u, .int w] (M, sz) (cl K) := by
  obtain ⟨⟨⟨eH, lH⟩, ⟨eK, lK⟩, ⟨eL, lL⟩, ⟨eA, lA⟩, ⟨eT, lT⟩⟩, iK, iH, iW, iL, iO, iB, hT⟩ := id hI
  
  refine spec_in [some (.ref a), some (.int x), some (.int y), some (.int u), some (.int w), none, none, none] 3 (by decide) rfl rfl ?_
  refine ok_iload_n (pc := 0) dX11_sure_0 rfl ?_
  refine ok_if_lt (pc := 1) 65 dX11_sure_1 (by decide) (fun cc_1 => ?_) (fun cc_1 => ?_)
  · have ce_1 := Int32.not_le.mpr cc_1
    have hb := wi_lo (b := 99) cc_1
    refine ok_aload_n (pc := 65) dX11_sure_65 rfl ?_
    refine ok_iconst (pc := 66) (v := 1) dX11_sure_66 (by decide) ?_
    refine ok_callVi1 (pc := 67) (d' := 1) dX11_sure_67 vl_X11_49 hC.1 rfl rfl rfl (by omega) ?_
    refine c_error hC hI hae 1 rfl (by decide) (by decide) (fun M2 hC2 hO2 => ?_)
    refine ok_i2l (pc := 70) dX11_sure_70 ?_
    refine ok_lret (pc := 71) dX11_sure_71 rfl ?_
    have hop : op_sure σ x y u w = (1, (-1000000001 : Int32).toInt64) := if_neg (by simp [hb])
    rw [hop] at k
    rw [er_1]
    exact k _ hC2 hO2
  · have ce_1 := Int32.not_lt.mp cc_1
    have hx0 : 0 ≤ x := Int32.not_lt.mp cc_1
    refine ok_aload_n (pc := 4) dX11_sure_4 rfl ?_
    refine ok_getf (pc := 5) dX11_sure_5 fl_X11_10 hC.1 rfl ?_
    refine ok_iload_n (pc := 8) dX11_sure_8 rfl ?_
    refine ok_bipush (pc := 9) (v := 10) dX11_sure_9 (by decide) ?_
    refine ok_idiv (pc := 11) dX11_sure_11 (by decide) ?_
    refine ok_iload_n (pc := 12) dX11_sure_12 rfl ?_
    refine ok_bipush (pc := 13) (v := 10) dX11_sure_13 (by decide) ?_
    refine ok_irem (pc := 15) dX11_sure_15 (by decide) ?_
    refine ok_callVi2 (pc := 16) (d' := 1) dX11_sure_16 vl_X11_176 hC.2.1.o rfl rfl rfl (by omega) ?_
    refine c_areTwoHills hC.2.1 eH lH ?_
    refine ok_if_eq (pc := 19) 65 dX11_sure_19 (by decide) (fun cc_19 => ?_) (fun cc_19 => ?_)
    · have cq_19 := bI_0.mp cc_19
      have hb : wyF σ (x / 10) (jrem x 10) y = false := by unfold wyF; rw [cq_19, Bool.false_and]
      refine ok_aload_n (pc := 65) dX11_sure_65 rfl ?_
      refine ok_iconst (pc := 66) (v := 1) dX11_sure_66 (by decide) ?_
      refine ok_callVi1 (pc := 67) (d' := 1) dX11_sure_67 vl_X11_49 hC.1 rfl rfl rfl (by omega) ?_
      refine c_error hC hI hae 1 rfl (by decide) (by decide) (fun M2 hC2 hO2 => ?_)
      refine ok_i2l (pc := 70) dX11_sure_70 ?_
      refine ok_lret (pc := 71) dX11_sure_71 rfl ?_
      have hop : op_sure σ x y u w = (1, (-1000000001 : Int32).toInt64) := if_neg (by simp [hb])
      rw [hop] at k
      rw [er_1]
      exact k _ hC2 hO2
    · have cq_19 := bI_n0.mp cc_19
      refine ok_iload_n (pc := 22) dX11_sure_22 rfl ?_
      refine ok_iconst (pc := 23) (v := 0) dX11_sure_23 (by decide) ?_
      refine ok_sipush (pc := 24) (v := 999) dX11_sure_24 (by decide) ?_
      refine ok_callSi3 (pc := 27) (d' := 0) dX11_sure_27 sl_X11_45 rfl (by omega) ?_
      refine c_within ?_
      refine ok_if_eq (pc := 30) 65 dX11_sure_30 (by decide) (fun cc_30 => ?_) (fun cc_30 => ?_)
      · have cq_30 := bI_0.mp cc_30
        have hb : wyF σ (x / 10) (jrem x 10) y = false := by unfold wyF; rw [cq_30, Bool.and_false]
        refine ok_aload_n (pc := 65) dX11_sure_65 rfl ?_
        refine ok_iconst (pc := 66) (v := 1) dX11_sure_66 (by decide) ?_
        refine ok_callVi1 (pc := 67) (d' := 1) dX11_sure_67 vl_X11_49 hC.1 rfl rfl rfl (by omega) ?_
        refine c_error hC hI hae 1 rfl (by decide) (by decide) (fun M2 hC2 hO2 => ?_)
        refine ok_i2l (pc := 70) dX11_sure_70 ?_
        refine ok_lret (pc := 71) dX11_sure_71 rfl ?_
        have hop : op_sure σ x y u w = (1, (-1000000001 : Int32).toInt64) := if_neg (by simp [hb])
        rw [hop] at k
        rw [er_1]
        exact k _ hC2 hO2
      · have cq_30 := bI_n0.mp cc_30
        refine ok_iload_n (pc := 33) dX11_sure_33 rfl ?_
        refine ok_if_lt (pc := 34) 65 dX11_sure_34 (by decide) (fun cc_34 => ?_) (fun cc_34 => ?_)
        · have ce_34 := Int32.not_le.mpr cc_34
          have hb := wi_lo (b := 1099) cc_34
          refine ok_aload_n (pc := 65) dX11_sure_65 rfl ?_
          refine ok_iconst (pc := 66) (v := 1) dX11_sure_66 (by decide) ?_
          refine ok_callVi1 (pc := 67) (d' := 1) dX11_sure_67 vl_X11_49 hC.1 rfl rfl rfl (by omega) ?_
          refine c_error hC hI hae 1 rfl (by decide) (by decide) (fun M2 hC2 hO2 => ?_)
          refine ok_i2l (pc := 70) dX11_sure_70 ?_
          refine ok_lret (pc := 71) dX11_sure_71 rfl ?_
          have hop : op_sure σ x y u w = (1, (-1000000001 : Int32).toInt64) := if_neg (by simp [hb])
          rw [hop] at k
          rw [er_1]
          exact k _ hC2 hO2
        · have ce_34 := Int32.not_lt.mp cc_34
          have hu0 : 0 ≤ u := Int32.not_lt.mp cc_34
          refine ok_iload_n (pc := 37) dX11_sure_37 rfl ?_
          refine ok_bipush (pc := 38) (v := 100) dX11_sure_38 (by decide) ?_
          refine ok_idiv (pc := 40) dX11_sure_40 (by decide) ?_
          refine ok_bipush (pc := 41) (v := 10) dX11_sure_41 (by decide) ?_
          refine ok_icmp_gt (pc := 43) 65 dX11_sure_43 (by decide) (fun cc_43 => ?_) (fun cc_43 => ?_)
          · have ce_43 := Int32.not_le.mpr cc_43
            have hb := wi_hi (a := 0) cc_43
            refine ok_aload_n (pc := 65) dX11_sure_65 rfl ?_
            refine ok_iconst (pc := 66) (v := 1) dX11_sure_66 (by decide) ?_
            refine ok_callVi1 (pc := 67) (d' := 1) dX11_sure_67 vl_X11_49 hC.1 rfl rfl rfl (by omega) ?_
            refine c_error hC hI hae 1 rfl (by decide) (by decide) (fun M2 hC2 hO2 => ?_)
            refine ok_i2l (pc := 70) dX11_sure_70 ?_
            refine ok_lret (pc := 71) dX11_sure_71 rfl ?_
            have hop : op_sure σ x y u w = (1, (-1000000001 : Int32).toInt64) := if_neg (by simp [hb])
            rw [hop] at k
            rw [er_1]
            exact k _ hC2 hO2
          · have ce_43 := Int32.not_lt.mp cc_43
            refine ok_iload_n (pc := 46) dX11_sure_46 rfl ?_
            refine ok_bipush (pc := 47) (v := 100) dX11_sure_47 (by decide) ?_
            refine ok_irem (pc := 49) dX11_sure_49 (by decide) ?_
            refine ok_bipush (pc := 50) (v := 10) dX11_sure_50 (by decide) ?_
            refine ok_icmp_gt (pc := 52) 65 dX11_sure_52 (by decide) (fun cc_52 => ?_) (fun cc_52 => ?_)
            · have ce_52 := Int32.not_le.mpr cc_52
              have hb := wi_hi (a := 0) cc_52
              refine ok_aload_n (pc := 65) dX11_sure_65 rfl ?_
              refine ok_iconst (pc := 66) (v := 1) dX11_sure_66 (by decide) ?_
              refine ok_callVi1 (pc := 67) (d' := 1) dX11_sure_67 vl_X11_49 hC.1 rfl rfl rfl (by omega) ?_
              refine c_error hC hI hae 1 rfl (by decide) (by decide) (fun M2 hC2 hO2 => ?_)
              refine ok_i2l (pc := 70) dX11_sure_70 ?_
              refine ok_lret (pc := 71) dX11_sure_71 rfl ?_
              have hop : op_sure σ x y u w = (1, (-1000000001 : Int32).toInt64) := if_neg (by simp [hb])
              rw [hop] at k
              rw [er_1]
              exact k _ hC2 hO2
            · have ce_52 := Int32.not_lt.mp cc_52
              refine ok_iload (pc := 55) dX11_sure_55 rfl ?_
              refine ok_iconst (pc := 57) (v := 0) dX11_sure_57 (by decide) ?_
              refine ok_iconst (pc := 58) (v := 1) dX11_sure_58 (by decide) ?_
              refine ok_callSi3 (pc := 59) (d' := 0) dX11_sure_59 sl_X11_45 rfl (by omega) ?_
              refine c_within ?_
              refine ok_if_ne (pc := 62) 72 dX11_sure_62 (by decide) (fun cc_62 => ?_) (fun cc_62 => ?_)
              · have cq_62 := bI_n0.mp cc_62
                refine ok_iload_n (pc := 72) dX11_sure_72 rfl ?_
                refine ok_bipush (pc := 73) (v := 100) dX11_sure_73 (by decide) ?_
                refine ok_idiv (pc := 75) dX11_sure_75 (by decide) ?_
                refine ok_istore5 (pc := 76) dX11_sure_76 (by decide) rfl ?_
                refine ok_aload_n (pc := 78) dX11_sure_78 rfl ?_
                refine ok_iload_n (pc := 79) dX11_sure_79 rfl ?_
                refine ok_iload (pc := 80) dX11_sure_80 rfl ?_
                refine ok_callVv2 (pc := 82) (d' := 5) dX11_sure_82 vl_X11_211 hC.1 rfl rfl rfl (by omega) ?_
                obtain ⟨ex, lx⟩ := nn_I hx0
                obtain ⟨eu, lu⟩ := nn_I hu0
                obtain ⟨dx, rx⟩ : x / 10 = nI (iN x / 10) ∧ jrem x 10 = nI (iN x % 10) := dv_n (q := 10) hx0 (by decide) (by decide)
                obtain ⟨du, ru⟩ : u / 100 = nI (iN u / 100) ∧ jrem u 100 = nI (iN u % 100) := dv_n (q := 100) hu0 (by decide) (by decide)
                have h2 := cq_19
                rw [Bool.and_eq_true, Bool.and_eq_true] at h2
                obtain ⟨⟨g1, g2⟩, g3⟩ := h2
                obtain ⟨-, lx9⟩ := wi_cnt eH (by omega) g1
                have q1 : iN (x / 10) = iN x / 10 := by rw [dx]; exact nI_clamp (by omega)
                have b43 : iN u / 100 ≤ 10 := by
                  have h9 := ce_43
                  rw [du] at h9
                  exact (nI_leI (b := 10) (by omega) (by decide)).mp h9
                have b52 : iN u % 100 ≤ 10 := by
                  have h9 := ce_52
                  rw [ru] at h9
                  exact (nI_leI (b := 10) (by omega) (by decide)).mp h9
                have hgd : (wi x 0 99 && wyF σ (x / 10) (jrem x 10) y && wi u 0 1099 && wi (u / 100) 0 10 && wi (jrem u 100) 0 10 && wi w 0 1) = true := by
                  have z1 : wi x 0 99 = true := by rw [ex]; exact wi_nI (a := 0) (b := 99) (by omega) (by omega) (by decide)
                  have z2 : wyF σ (x / 10) (jrem x 10) y = true := by unfold wyF; rw [g1, g2, g3, cq_30]; rfl
                  have z3 : wi u 0 1099 = true := by rw [eu]; exact wi_nI (a := 0) (b := 1099) (by omega) (by omega) (by decide)
                  have z4 : wi (u / 100) 0 10 = true := by rw [du]; exact wi_nI (a := 0) (b := 10) (by omega) (by omega) (by decide)
                  have z5 : wi (jrem u 100) 0 10 = true := by rw [ru]; exact wi_nI (a := 0) (b := 10) (by omega) (by omega) (by decide)
                  rw [z1, z2, z3, z4, z5, cq_62]
                  rfl
                refine c_fillReach hC hI hae (iN u / 100) du b43 hc9 (fun M9 f9 hC hF hf hO => ?_)
                refine ok_aload_n (pc := 85) dX11_sure_85 rfl ?_
                refine ok_iconst (pc := 86) (v := 1) dX11_sure_86 (by decide) ?_
                refine ok_iload_n (pc := 87) dX11_sure_87 rfl ?_
                refine ok_bipush (pc := 88) (v := 10) dX11_sure_88 (by decide) ?_
                refine ok_idiv (pc := 90) dX11_sure_90 (by decide) ?_
                refine ok_ishl (pc := 91) dX11_sure_91 ?_
                refine ok_iload_n (pc := 92) dX11_sure_92 rfl ?_
                refine ok_bipush (pc := 93) (v := 10) dX11_sure_93 (by decide) ?_
                refine ok_irem (pc := 95) dX11_sure_95 (by decide) ?_
                refine ok_iconst (pc := 96) (v := 0) dX11_sure_96 (by decide) ?_
                refine ok_iload (pc := 97) dX11_sure_97 rfl ?_
                refine ok_iload_n (pc := 99) dX11_sure_99 rfl ?_
                refine ok_bipush (pc := 100) (v := 100) dX11_sure_100 (by decide) ?_
                refine ok_irem (pc := 102) dX11_sure_102 (by decide) ?_
                refine ok_callVl5 (pc := 103) (d' := (2 + iN u / 100)) dX11_sure_103 vl_X11_214 hC.1 rfl rfl rfl (by omega) ?_
                rw [dx, jshl_1 (by omega)]
                refine c_cases hC hI hae hF (iN u / 100) b43 hf (iN x % 10) (iN u % 100) rx du ru (by
                  obtain ⟨-, ly9⟩ := wi_cnt eH (by omega) g2
                  have q2 : iN (jrem x 10) = iN x % 10 := by rw [rx]; exact nI_clamp (by omega)
                  omega) b52 (iN u / 100) 0 (2 ^ (iN x / 10)) _ _ (by omega) (pw_lt (by omega)) rfl ?_
                refine ok_lstore6 (pc := 106) dX11_sure_106 (by decide) rfl ?_
                refine ok_lload (pc := 108) dX11_sure_108 rfl ?_
                refine ok_iload (pc := 110) dX11_sure_110 rfl ?_
                refine ok_iload (pc := 112) dX11_sure_112 rfl ?_
                refine ok_callSl3 (pc := 114) (d' := 1) dX11_sure_114 sl_X11_218 rfl (by omega) ?_
                refine c_low (syN σ (iN x % 10) y (iN u % 100) (iN u / 100) 0 (2 ^ (iN x / 10))) (iN u / 100) (syN_le b52 _ _ _) du b43 ?_
                refine ok_lret (pc := 117) dX11_sure_117 rfl ?_
                have hop : op_sure σ x y u w = (0, if w = 0 then lN (syN σ (iN x % 10) y (iN u % 100) (iN u / 100) 0 (2 ^ (iN x / 10)) / Nat.gcd (syN σ (iN x % 10) y (iN u % 100) (iN u / 100) 0 (2 ^ (iN x / 10))) (10 ^ (iN u / 100))) else lN (10 ^ (iN u / 100) / Nat.gcd (syN σ (iN x % 10) y (iN u % 100) (iN u / 100) 0 (2 ^ (iN x / 10))) (10 ^ (iN u / 100)))) := if_pos hgd
                rw [hop] at k
                rw [eU_0] at k
                exact k _ hC hO
              · have cq_62 := bI_0.mp cc_62
                have hb := cq_62
                refine ok_aload_n (pc := 65) dX11_sure_65 rfl ?_
                refine ok_iconst (pc := 66) (v := 1) dX11_sure_66 (by decide) ?_
                refine ok_callVi1 (pc := 67) (d' := 1) dX11_sure_67 vl_X11_49 hC.1 rfl rfl rfl (by omega) ?_
                refine c_error hC hI hae 1 rfl (by decide) (by decide) (fun M2 hC2 hO2 => ?_)
                refine ok_i2l (pc := 70) dX11_sure_70 ?_
                refine ok_lret (pc := 71) dX11_sure_71 rfl ?_
                have hop : op_sure σ x y u w = (1, (-1000000001 : Int32).toInt64) := if_neg (by simp [hb])
                rw [hop] at k
                rw [er_1]
                exact k _ hC2 hO2
