theorem sy_a {x : Int32} {c r1 r2 : Nat} (e : x = nI c) (hc : c ≤ 10) : x.toInt64 * lN r1 + (10 - x).toInt64 * lN r2 = lN (c * r1 + (10 - c) * r2) := by
  subst e
  rw [nI_l (by omega), fa_lit 10, pk_sub hc, nI_l (by omega), lN_mul, lN_mul, lN_add]
theorem sy_b {x : Int32} {c r1 r2 : Nat} (e : x = nI c) (hc : c = 0) : 0 + (10 - x).toInt64 * lN r2 = lN (c * r1 + (10 - c) * r2) := by
  subst e
  subst hc
  rw [show (10 - nI 0).toInt64 = lN 10 from rfl, show (0 : Int64) = lN 0 from rfl, lN_mul, lN_add, Nat.zero_mul]
theorem sy_c {x : Int32} {c r1 r2 : Nat} (e : x = nI c) (hc : c = 10) : x.toInt64 * lN r1 + 0 = lN (c * r1 + (10 - c) * r2) := by
  subst e
  subst hc
  rw [nI_l (by omega), lN_mul, show (0 : Int64) = lN 0 from rfl, lN_add, Nat.sub_self, Nat.zero_mul]

set_option maxHeartbeats 1000000 in
theorem l_sy10 {Γ : Cx} {G : Wd} {K : Int64 → Wd → Prop} {d9 : Nat} {q0 q1 q2 q3 q4 : Option Value} {x5 x6 : Int32} (n0 A : Nat) (en : x5 = nI n0) (hn : n0 ≤ 100) (k : K (lN A) G) : ∀ (n : Nat) (i : Nat) (z : Nat) (xi : Int32), i + n = n0 → xi = nI i → z * 10 ^ n = A → Ok Γ mX12_sureBy d9 0 15 [q0, q1, q2, q3, q4, some (.int x5), some (.int x6), some (.long (lN z)), none, some (.int xi)] [] G (cl K) := by
  intro n
  induction n with
  | zero =>
    intro i z xi h1 ei hA
    refine ok_iload (pc := 15) dX12_sureBy_15 rfl ?_
    refine ok_iload (pc := 17) dX12_sureBy_17 rfl ?_
    refine ok_icmp_ge (pc := 19) 36 dX12_sureBy_19 (by decide) (fun cc_19 => ?_) (fun cc_19 => ?_)
    · have ce_19 := Int32.not_lt.mpr cc_19
      have hA9 : z = A := by rw [Nat.pow_zero, Nat.mul_one] at hA; exact hA
      subst hA9
      refine ok_lload (pc := 36) dX12_sureBy_36 rfl ?_
      refine ok_lret (pc := 38) dX12_sureBy_38 rfl ?_
      exact k
    · exact absurd (by rw [en, ei]; exact nI_le (by omega) (by omega)) cc_19
  | succ n ih =>
    intro i z xi h1 ei hA
    refine ok_iload (pc := 15) dX12_sureBy_15 rfl ?_
    refine ok_iload (pc := 17) dX12_sureBy_17 rfl ?_
    refine ok_icmp_ge (pc := 19) 36 dX12_sureBy_19 (by decide) (fun cc_19 => ?_) (fun cc_19 => ?_)
    · exact absurd (by rw [en, ei] at cc_19; exact cc_19) (nI_ge (by omega) (by omega))
    · have ce_19 := Int32.not_le.mp cc_19
      refine ok_lload (pc := 22) dX12_sureBy_22 rfl ?_
      refine ok_ldc2 (pc := 24) (v := 10) dX12_sureBy_24 tw_1541 ?_
      refine ok_lmul (pc := 27) dX12_sureBy_27 ?_
      rw [fa_litL 10, lN_mul]
      refine ok_lstore7 (pc := 28) dX12_sureBy_28 (by decide) rfl ?_
      refine ok_iinc9 (pc := 30) (v := 1) dX12_sureBy_30 (by decide) (by decide) rfl ?_
      refine ok_goto (pc := 33) 15 dX12_sureBy_33 (by decide) ?_
      exact ih (i + 1) _ _ (by omega) (by rw [ei, nI_1]) (by rw [← hA, Nat.pow_succ, Nat.mul_assoc, Nat.mul_comm 10])

set_option maxHeartbeats 1000000 in
theorem r_sureBy {Γ : Cx} {m sz : Nat} {M0 : Nat → Option va_E} {σ κ : Rw} {ri : Nat → Int32} {tI w nI9 cI : Int32} (t n0 c : Nat) (et : tI = nI t) (en : nI9 = nI n0) (ec : cI = nI c) (ht : t < 9) (hn : n0 ≤ 10) (hc : c ≤ 10) (hI : Inv σ) (hc9 : cT σ ≤ 10000) : ∀ (n : Nat) (i : Nat) (S : Nat) (xS : Int32) (xi : Int32) (M : Nat → Option va_E) (ra : Nat → Rw) (K : Int64 → Wd → Prop), i + n = n0 → xS = nI S → S < 2 ^ 9 → xi = nI i → RefX Γ m M0 σ κ ri ra M → (∀ M' ra', RefX Γ m M0 σ κ ri ra' M' → Sc ra ra' → K (lN (syN σ t w c n i S)) (M', sz)) → Spec Γ mX12_sureBy (8 + n) 0 [.ref m, .int xS, .int tI, .int w, .int xi, .int nI9, .int cI] (M, sz) (cl K) := by
  have lH := hI.1.1.2
  have eT := hI.1.2.2.2.2.1
  intro n
  induction n with
  | zero =>
    intro i S xS xi M ra K h1 es hS ei hR k
    refine spec_in [some (.ref m), some (.int xS), some (.int tI), some (.int w), some (.int xi), some (.int nI9), some (.int cI), none, none, none] 3 (by decide) rfl rfl ?_
    refine ok_iload_n (pc := 0) dX12_sureBy_0 rfl ?_
    refine ok_iload_n (pc := 1) dX12_sureBy_1 rfl ?_
    refine ok_callSi2 (pc := 2) (d' := 0) dX12_sureBy_2 sl_X12_246 rfl (by omega) ?_
    refine r_hasBit ?_
    refine ok_if_eq (pc := 5) 39 dX12_sureBy_5 (by decide) (fun cc_5 => ?_) (fun cc_5 => ?_)
    · have cq_5 := bI_0.mp cc_5
      rw [es, et, hb_dec (by omega) (by omega)] at cq_5
      refine ok_iload (pc := 39) dX12_sureBy_39 rfl ?_
      refine ok_iload (pc := 41) dX12_sureBy_41 rfl ?_
      refine ok_icmp_ne (pc := 43) 48 dX12_sureBy_43 (by decide) (fun cc_43 => ?_) (fun cc_43 => ?_)
      · exact absurd (by rw [ei, en, show i = n0 by omega]) cc_43
      · have e9 : syN σ t w c 0 i S = 0 := if_neg (by rw [cq_5]; decide)
        have k9 := k _ _ hR Sc.rf
        rw [e9] at k9
        refine ok_lconst (pc := 46) (v := 0) dX12_sureBy_46 (by decide) ?_
        refine ok_lret (pc := 47) dX12_sureBy_47 rfl ?_
        exact k9
    · have cq_5 := bI_n0.mp cc_5
      rw [es, et, hb_dec (by omega) (by omega)] at cq_5
      refine ok_lconst (pc := 8) (v := 1) dX12_sureBy_8 (by decide) ?_
      refine ok_lstore7 (pc := 9) dX12_sureBy_9 (by decide) rfl ?_
      refine ok_iload (pc := 11) dX12_sureBy_11 rfl ?_
      refine ok_istore9 (pc := 13) dX12_sureBy_13 (by decide) rfl ?_
      exact l_sy10 n0 1 en (by omega) (by have e9 : syN σ t w c 0 i S = 1 := if_pos cq_5; have k9 := k _ _ hR Sc.rf; rw [e9] at k9; exact k9) 0 i 1 _ (by omega) ei rfl
  | succ n ih =>
    intro i S xS xi M ra K h1 es hS ei hR k
    refine spec_in [some (.ref m), some (.int xS), some (.int tI), some (.int w), some (.int xi), some (.int nI9), some (.int cI), none, none, none] 3 (by decide) rfl rfl ?_
    refine ok_iload_n (pc := 0) dX12_sureBy_0 rfl ?_
    refine ok_iload_n (pc := 1) dX12_sureBy_1 rfl ?_
    refine ok_callSi2 (pc := 2) (d' := 0) dX12_sureBy_2 sl_X12_246 rfl (by omega) ?_
    refine r_hasBit ?_
    refine ok_if_eq (pc := 5) 39 dX12_sureBy_5 (by decide) (fun cc_5 => ?_) (fun cc_5 => ?_)
    · have cq_5 := bI_0.mp cc_5
      rw [es, et, hb_dec (by omega) (by omega)] at cq_5
      refine ok_iload (pc := 39) dX12_sureBy_39 rfl ?_
      refine ok_iload (pc := 41) dX12_sureBy_41 rfl ?_
      refine ok_icmp_ne (pc := 43) 48 dX12_sureBy_43 (by decide) (fun cc_43 => ?_) (fun cc_43 => ?_)
      · refine ok_iload (pc := 48) dX12_sureBy_48 rfl ?_
        refine ok_if_ne (pc := 50) 57 dX12_sureBy_50 (by decide) (fun cc_50 => ?_) (fun cc_50 => ?_)
        · have hs0 : Sc ra ra := Sc.rf
          refine ok_iload (pc := 57) dX12_sureBy_57 rfl ?_
          refine ok_i2l (pc := 59) dX12_sureBy_59 ?_
          refine ok_aload_n (pc := 60) dX12_sureBy_60 rfl ?_
          refine ok_iload_n (pc := 61) dX12_sureBy_61 rfl ?_
          refine ok_iload_n (pc := 62) dX12_sureBy_62 rfl ?_
          refine ok_iload_n (pc := 63) dX12_sureBy_63 rfl ?_
          refine ok_iload (pc := 64) dX12_sureBy_64 rfl ?_
          refine ok_iconst (pc := 66) (v := 1) dX12_sureBy_66 (by decide) ?_
          refine ok_iadd (pc := 67) dX12_sureBy_67 ?_
          refine ok_iload (pc := 68) dX12_sureBy_68 rfl ?_
          refine ok_iload (pc := 70) dX12_sureBy_70 rfl ?_
          refine ok_callVl6 (pc := 72) (d' := (8 + n)) dX12_sureBy_72 vl_X12_297 hR.o rfl rfl rfl (by omega) ?_
          refine ih (i + 1) S _ (xi + 1) _ _ _ (by omega) es hS (by rw [ei, nI_1]) hR (fun M rb hR hs => ?_)
          have hs0 := hs0.tr hs
          refine ok_lmul (pc := 75) dX12_sureBy_75 ?_
          refine ok_lstore7 (pc := 76) dX12_sureBy_76 (by decide) rfl ?_
          refine ok_aload_n (pc := 78) dX12_sureBy_78 rfl ?_
          refine ok_iload_n (pc := 79) dX12_sureBy_79 rfl ?_
          refine ok_aload_n (pc := 80) dX12_sureBy_80 rfl ?_
          refine ok_getf (pc := 81) dX12_sureBy_81 fl_X12_9 hR.o rfl ?_
          refine ok_iconst (pc := 84) (v := 0) dX12_sureBy_84 (by decide) ?_
          refine ok_iald (pc := 85) (0) dX12_sureBy_85 hR.a0 rfl (by decide) (by decide) ?_
          refine ok_iload (pc := 86) dX12_sureBy_86 rfl ?_
          refine ok_iadd (pc := 88) dX12_sureBy_88 ?_
          refine ok_iload_n (pc := 89) dX12_sureBy_89 rfl ?_
          refine ok_callVi3 (pc := 90) (d' := 6) dX12_sureBy_90 vl_X12_285 hR.o rfl rfl rfl (by omega) ?_
          refine r_grown hR S (cT σ + i) es (by rw [eT, ei, nI_add]) hS (by omega) hI (fun M rb hR hs => ?_)
          have hs0 := hs0.tr hs
          refine ok_istore9 (pc := 93) dX12_sureBy_93 (by decide) rfl ?_
          refine ok_lload (pc := 95) dX12_sureBy_95 rfl ?_
          refine ok_iload (pc := 97) dX12_sureBy_97 rfl ?_
          refine ok_bipush (pc := 99) (v := 10) dX12_sureBy_99 (by decide) ?_
          refine ok_icmp_ne (pc := 101) 108 dX12_sureBy_101 (by decide) (fun cc_101 => ?_) (fun cc_101 => ?_)
          · refine ok_bipush (pc := 108) (v := 10) dX12_sureBy_108 (by decide) ?_
            refine ok_iload (pc := 110) dX12_sureBy_110 rfl ?_
            refine ok_isub (pc := 112) dX12_sureBy_112 ?_
            refine ok_i2l (pc := 113) dX12_sureBy_113 ?_
            refine ok_aload_n (pc := 114) dX12_sureBy_114 rfl ?_
            refine ok_iload (pc := 115) dX12_sureBy_115 rfl ?_
            refine ok_iload_n (pc := 117) dX12_sureBy_117 rfl ?_
            refine ok_iload_n (pc := 118) dX12_sureBy_118 rfl ?_
            refine ok_iload (pc := 119) dX12_sureBy_119 rfl ?_
            refine ok_iconst (pc := 121) (v := 1) dX12_sureBy_121 (by decide) ?_
            refine ok_iadd (pc := 122) dX12_sureBy_122 ?_
            refine ok_iload (pc := 123) dX12_sureBy_123 rfl ?_
            refine ok_iload (pc := 125) dX12_sureBy_125 rfl ?_
            refine ok_callVl6 (pc := 127) (d' := (8 + n)) dX12_sureBy_127 vl_X12_297 hR.o rfl rfl rfl (by omega) ?_
            refine ih (i + 1) (go σ S (cT σ + i) w (cK σ)) _ (xi + 1) _ _ _ (by omega) rfl (go_lt hS lH _) (by rw [ei, nI_1]) hR (fun M rb hR hs => ?_)
            have hs0 := hs0.tr hs
            refine ok_lmul (pc := 130) dX12_sureBy_130 ?_
            refine ok_ladd (pc := 131) dX12_sureBy_131 ?_
            refine ok_lret (pc := 132) dX12_sureBy_132 rfl ?_
            have e9 : syN σ t w c (n + 1) i S = c * syN σ t w c n (i + 1) S + (10 - c) * syN σ t w c n (i + 1) (go σ S (cT σ + i) w (cK σ)) := if_neg (by rw [cq_5]; decide)
            have k9 := k _ _ hR hs0
            rw [e9] at k9
            first
              | (rw [sy_a ec hc]; exact k9)
              | (rw [sy_b (r1 := syN σ t w c n (i + 1) S) ec c0]; exact k9)
              | (rw [sy_c (r2 := syN σ t w c n (i + 1) (go σ S (cT σ + i) w (cK σ))) ec c10]; exact k9)
              | exact absurd c10 (by omega)
          · have c10 : c = 10 := by rw [ec] at cc_101; exact (nI_eq (b := 10) (by omega) (by decide)).mp cc_101
            refine ok_lconst (pc := 104) (v := 0) dX12_sureBy_104 (by decide) ?_
            refine ok_goto (pc := 105) 131 dX12_sureBy_105 (by decide) ?_
            refine ok_ladd (pc := 131) dX12_sureBy_131 ?_
            refine ok_lret (pc := 132) dX12_sureBy_132 rfl ?_
            have e9 : syN σ t w c (n + 1) i S = c * syN σ t w c n (i + 1) S + (10 - c) * syN σ t w c n (i + 1) (go σ S (cT σ + i) w (cK σ)) := if_neg (by rw [cq_5]; decide)
            have k9 := k _ _ hR hs0
            rw [e9] at k9
            first
              | (rw [sy_a ec hc]; exact k9)
              | (rw [sy_b (r1 := syN σ t w c n (i + 1) S) ec c0]; exact k9)
              | (rw [sy_c (r2 := syN σ t w c n (i + 1) (go σ S (cT σ + i) w (cK σ))) ec c10]; exact k9)
              | exact absurd c10 (by omega)
        · have hs0 : Sc ra ra := Sc.rf
          have c0 : c = 0 := by rw [ec] at cc_50; exact (nI_eq (b := 0) (by omega) (by decide)).mp cc_50
          refine ok_lconst (pc := 53) (v := 0) dX12_sureBy_53 (by decide) ?_
          refine ok_goto (pc := 54) 76 dX12_sureBy_54 (by decide) ?_
          refine ok_lstore7 (pc := 76) dX12_sureBy_76 (by decide) rfl ?_
          refine ok_aload_n (pc := 78) dX12_sureBy_78 rfl ?_
          refine ok_iload_n (pc := 79) dX12_sureBy_79 rfl ?_
          refine ok_aload_n (pc := 80) dX12_sureBy_80 rfl ?_
          refine ok_getf (pc := 81) dX12_sureBy_81 fl_X12_9 hR.o rfl ?_
          refine ok_iconst (pc := 84) (v := 0) dX12_sureBy_84 (by decide) ?_
          refine ok_iald (pc := 85) (0) dX12_sureBy_85 hR.a0 rfl (by decide) (by decide) ?_
          refine ok_iload (pc := 86) dX12_sureBy_86 rfl ?_
          refine ok_iadd (pc := 88) dX12_sureBy_88 ?_
          refine ok_iload_n (pc := 89) dX12_sureBy_89 rfl ?_
          refine ok_callVi3 (pc := 90) (d' := 6) dX12_sureBy_90 vl_X12_285 hR.o rfl rfl rfl (by omega) ?_
          refine r_grown hR S (cT σ + i) es (by rw [eT, ei, nI_add]) hS (by omega) hI (fun M rb hR hs => ?_)
          have hs0 := hs0.tr hs
          refine ok_istore9 (pc := 93) dX12_sureBy_93 (by decide) rfl ?_
          refine ok_lload (pc := 95) dX12_sureBy_95 rfl ?_
          refine ok_iload (pc := 97) dX12_sureBy_97 rfl ?_
          refine ok_bipush (pc := 99) (v := 10) dX12_sureBy_99 (by decide) ?_
          refine ok_icmp_ne (pc := 101) 108 dX12_sureBy_101 (by decide) (fun cc_101 => ?_) (fun cc_101 => ?_)
          · refine ok_bipush (pc := 108) (v := 10) dX12_sureBy_108 (by decide) ?_
            refine ok_iload (pc := 110) dX12_sureBy_110 rfl ?_
            refine ok_isub (pc := 112) dX12_sureBy_112 ?_
            refine ok_i2l (pc := 113) dX12_sureBy_113 ?_
            refine ok_aload_n (pc := 114) dX12_sureBy_114 rfl ?_
            refine ok_iload (pc := 115) dX12_sureBy_115 rfl ?_
            refine ok_iload_n (pc := 117) dX12_sureBy_117 rfl ?_
            refine ok_iload_n (pc := 118) dX12_sureBy_118 rfl ?_
            refine ok_iload (pc := 119) dX12_sureBy_119 rfl ?_
            refine ok_iconst (pc := 121) (v := 1) dX12_sureBy_121 (by decide) ?_
            refine ok_iadd (pc := 122) dX12_sureBy_122 ?_
            refine ok_iload (pc := 123) dX12_sureBy_123 rfl ?_
            refine ok_iload (pc := 125) dX12_sureBy_125 rfl ?_
            refine ok_callVl6 (pc := 127) (d' := (8 + n)) dX12_sureBy_127 vl_X12_297 hR.o rfl rfl rfl (by omega) ?_
            refine ih (i + 1) (go σ S (cT σ + i) w (cK σ)) _ (xi + 1) _ _ _ (by omega) rfl (go_lt hS lH _) (by rw [ei, nI_1]) hR (fun M rb hR hs => ?_)
            have hs0 := hs0.tr hs
            refine ok_lmul (pc := 130) dX12_sureBy_130 ?_
            refine ok_ladd (pc := 131) dX12_sureBy_131 ?_
            refine ok_lret (pc := 132) dX12_sureBy_132 rfl ?_
            have e9 : syN σ t w c (n + 1) i S = c * syN σ t w c n (i + 1) S + (10 - c) * syN σ t w c n (i + 1) (go σ S (cT σ + i) w (cK σ)) := if_neg (by rw [cq_5]; decide)
            have k9 := k _ _ hR hs0
            rw [e9] at k9
            first
              | (rw [sy_a ec hc]; exact k9)
              | (rw [sy_b (r1 := syN σ t w c n (i + 1) S) ec c0]; exact k9)
              | (rw [sy_c (r2 := syN σ t w c n (i + 1) (go σ S (cT σ + i) w (cK σ))) ec c10]; exact k9)
              | exact absurd c10 (by omega)
          · have c10 : c = 10 := by rw [ec] at cc_101; exact (nI_eq (b := 10) (by omega) (by decide)).mp cc_101
            refine ok_lconst (pc := 104) (v := 0) dX12_sureBy_104 (by decide) ?_
            refine ok_goto (pc := 105) 131 dX12_sureBy_105 (by decide) ?_
            refine ok_ladd (pc := 131) dX12_sureBy_131 ?_
            refine ok_lret (pc := 132) dX12_sureBy_132 rfl ?_
            have e9 : syN σ t w c (n + 1) i S = c * syN σ t w c n (i + 1) S + (10 - c) * syN σ t w c n (i + 1) (go σ S (cT σ + i) w (cK σ)) := if_neg (by rw [cq_5]; decide)
            have k9 := k _ _ hR hs0
            rw [e9] at k9
            first
              | (rw [sy_a ec hc]; exact k9)
              | (rw [sy_b (r1 := syN σ t w c n (i + 1) S) ec c0]; exact k9)
              | (rw [sy_c (r2 := syN σ t w c n (i + 1) (go σ S (cT σ + i) w (cK σ))) ec c10]; exact k9)
              | exact absurd c10 (by omega)
      · rw [ei, en] at cc_43
        exact absurd ((nI_eq (by omega) (by omega)).mp cc_43) (by omega)
    · have cq_5 := bI_n0.mp cc_5
      rw [es, et, hb_dec (by omega) (by omega)] at cq_5
      refine ok_lconst (pc := 8) (v := 1) dX12_sureBy_8 (by decide) ?_
      refine ok_lstore7 (pc := 9) dX12_sureBy_9 (by decide) rfl ?_
      refine ok_iload (pc := 11) dX12_sureBy_11 rfl ?_
      refine ok_istore9 (pc := 13) dX12_sureBy_13 (by decide) rfl ?_
      exact l_sy10 n0 (10 ^ (n + 1)) en (by omega) (by have e9 : syN σ t w c (n + 1) i S = 10 ^ (n + 1) := if_pos cq_5; have k9 := k _ _ hR Sc.rf; rw [e9] at k9; exact k9) (n + 1) i 1 _ (by omega) ei (Nat.one_mul _)

set_option maxHeartbeats 1000000 in
theorem r_divisor {Γ : Cx} {G : Wd} : ∀ (n : Nat) (x y : Nat) {K : Int64 → Wd → Prop}, y ≤ x → x < 2 ^ 62 → (x + y) * 2 ^ n < 3 ^ n → K (lN (Nat.gcd y x)) G → Spec Γ mX12_divisor (n) 0 [.long (lN x), .long (lN y)] G (cl K) := by
  intro n
  induction n with
  | zero =>
    intro x y K h1 hx hm k
    refine spec_in [some (.long (lN x)), none, some (.long (lN y)), none] 0 (by decide) rfl rfl ?_
    refine ok_lload_n (pc := 0) dX12_divisor_0 rfl ?_
    refine ok_lconst (pc := 1) (v := 0) dX12_divisor_1 (by decide) ?_
    refine ok_lcmp (pc := 2) dX12_divisor_2 ?_
    refine ok_if_ne (pc := 3) 10 dX12_divisor_3 (by decide) (fun cc_3 => ?_) (fun cc_3 => ?_)
    · have hm9 : x + y < 1 := by simpa using hm
      exact absurd ((cmp_0 (b := y) (by omega)).mpr (by omega)) cc_3
    · have hy : y = 0 := (cmp_0 (by omega)).mp cc_3
      subst hy
      rw [Nat.gcd_zero_left] at k
      refine ok_lload_n (pc := 6) dX12_divisor_6 rfl ?_
      refine ok_goto (pc := 7) 17 dX12_divisor_7 (by decide) ?_
      refine ok_lret (pc := 17) dX12_divisor_17 rfl ?_
      exact k
  | succ n ih =>
    intro x y K h1 hx hm k
    refine spec_in [some (.long (lN x)), none, some (.long (lN y)), none] 0 (by decide) rfl rfl ?_
    refine ok_lload_n (pc := 0) dX12_divisor_0 rfl ?_
    refine ok_lconst (pc := 1) (v := 0) dX12_divisor_1 (by decide) ?_
    refine ok_lcmp (pc := 2) dX12_divisor_2 ?_
    refine ok_if_ne (pc := 3) 10 dX12_divisor_3 (by decide) (fun cc_3 => ?_) (fun cc_3 => ?_)
    · have hy : y ≠ 0 := fun h9 => cc_3 ((cmp_0 (b := y) (by omega)).mpr h9)
      have hne : ¬ lN y = 0 := fun h9 => hy ((lN_eq62 (b := 0) (by omega) (by decide)).mp h9)
      refine ok_lload_n (pc := 10) dX12_divisor_10 rfl ?_
      refine ok_lload_n (pc := 11) dX12_divisor_11 rfl ?_
      refine ok_lload_n (pc := 12) dX12_divisor_12 rfl ?_
      refine ok_lrem (pc := 13) dX12_divisor_13 hne ?_
      rw [lN_rem (by omega) (by omega)]
      refine ok_callSl2 (pc := 14) (d' := n) dX12_divisor_14 sl_X12_301 rfl (Nat.le_refl _) ?_
      have hr := Nat.mod_lt x (Nat.pos_of_ne_zero hy)
      have hq : y + x % y ≤ x := by
        have h9 := Nat.div_add_mod x y
        have h8 : 1 ≤ x / y := (Nat.le_div_iff_mul_le (Nat.pos_of_ne_zero hy)).mpr (by omega)
        have h7 : y * 1 ≤ y * (x / y) := Nat.mul_le_mul_left y h8
        omega
      have h5 : (y + x % y) * 2 ^ n * 3 ≤ (x + y) * 2 ^ n * 2 := by
        have h6 : (y + x % y) * 3 ≤ (x + y) * 2 := by omega
        calc (y + x % y) * 2 ^ n * 3 = (y + x % y) * 3 * 2 ^ n := by rw [Nat.mul_assoc, Nat.mul_comm (2 ^ n) 3, ← Nat.mul_assoc]
          _ ≤ (x + y) * 2 * 2 ^ n := Nat.mul_le_mul_right _ h6
          _ = (x + y) * 2 ^ n * 2 := by rw [Nat.mul_assoc, Nat.mul_comm 2, ← Nat.mul_assoc]
      have h4 : (x + y) * 2 ^ (n + 1) = (x + y) * 2 ^ n * 2 := by rw [Nat.pow_succ, Nat.mul_assoc]
      have h3 : (3 : Nat) ^ (n + 1) = 3 ^ n * 3 := Nat.pow_succ _ _
      have hmm : (y + x % y) * 2 ^ n < 3 ^ n := by omega
      refine ih y (x % y) (by omega) (by omega) hmm ?_
      rw [← Nat.gcd_rec]
      refine ok_lret (pc := 17) dX12_divisor_17 rfl ?_
      exact k
    · have hy : y = 0 := (cmp_0 (by omega)).mp cc_3
      subst hy
      rw [Nat.gcd_zero_left] at k
      refine ok_lload_n (pc := 6) dX12_divisor_6 rfl ?_
      refine ok_goto (pc := 7) 17 dX12_divisor_7 (by decide) ?_
      refine ok_lret (pc := 17) dX12_divisor_17 rfl ?_
      exact k

set_option maxHeartbeats 1000000 in
theorem l_su10 {Γ : Cx} {G : Wd} {Q : Option Value → Wd → Prop} {q0 q1 q2 q3 q4 : Option Value} {x5 x6 : Int32} (n0 A : Nat) (en : x6 = nI n0) (hn : n0 ≤ 100) (kk : ∀ xi, Ok Γ mX12_sure 70 0 126 [q0, q1, q2, q3, q4, some (.int x5), some (.int x6), some (.long (lN A)), none, some (.int xi), none, none, none] [] G Q) : ∀ (n : Nat) (i : Nat) (z : Nat) (xi : Int32), i + n = n0 → xi = nI i → z * 10 ^ n = A → Ok Γ mX12_sure 70 0 105 [q0, q1, q2, q3, q4, some (.int x5), some (.int x6), some (.long (lN z)), none, some (.int xi), none, none, none] [] G Q := by
  intro n
  induction n with
  | zero =>
    intro i z xi h1 ei hA
    refine ok_iload (pc := 105) dX12_sure_105 rfl ?_
    refine ok_iload (pc := 107) dX12_sure_107 rfl ?_
    refine ok_icmp_ge (pc := 109) 126 dX12_sure_109 (by decide) (fun cc_109 => ?_) (fun cc_109 => ?_)
    · have hA9 : z = A := by rw [Nat.pow_zero, Nat.mul_one] at hA; exact hA
      subst hA9
      exact kk _
    · exact absurd (by rw [en, ei]; exact nI_le (by omega) (by omega)) cc_109
  | succ n ih =>
    intro i z xi h1 ei hA
    refine ok_iload (pc := 105) dX12_sure_105 rfl ?_
    refine ok_iload (pc := 107) dX12_sure_107 rfl ?_
    refine ok_icmp_ge (pc := 109) 126 dX12_sure_109 (by decide) (fun cc_109 => ?_) (fun cc_109 => ?_)
    · exact absurd (by rw [en, ei] at cc_109; exact cc_109) (nI_ge (by omega) (by omega))
    · have ce_109 := Int32.not_le.mp cc_109
      refine ok_lload (pc := 112) dX12_sure_112 rfl ?_
      refine ok_ldc2 (pc := 114) (v := 10) dX12_sure_114 tw_1541 ?_
      refine ok_lmul (pc := 117) dX12_sure_117 ?_
      rw [fa_litL 10, lN_mul]
      refine ok_lstore7 (pc := 118) dX12_sure_118 (by decide) rfl ?_
      refine ok_iinc9 (pc := 120) (v := 1) dX12_sure_120 (by decide) (by decide) rfl ?_
      refine ok_goto (pc := 123) 105 dX12_sure_123 (by decide) ?_
      exact ih (i + 1) _ _ (by omega) (by rw [ei, nI_1]) (by rw [← hA, Nat.pow_succ, Nat.mul_assoc, Nat.mul_comm 10])

set_option maxHeartbeats 1000000 in
theorem l_sure93 {Γ : Cx} {m sz : Nat} {M0 M : Nat → Option va_E} {σ κ vi : Rw} {va : Nat → Rw} {K : Int64 → Wd → Prop} {ri : Rw} {ra : Nat → Rw} (hR : RefX Γ m M0 σ κ ri ra M) (hv : ri 3 = vi 3 ∧ ri 19 = vi 19) (hw : ra 4 = va 4 ∧ ra 18 = va 18 ∧ ra 21 = va 21 ∧ ra 22 = va 22 ∧ ra 23 = va 23) (hI : Inv σ) (hc9 : cT σ ≤ 9999) {x y z w : Int32} (k : ∀ M', RefW Γ m M0 σ κ vi (eU va (op_sure σ x y z w).1) M' → K (op_sure σ x y z w).2 (M', sz)) (cq_7 : wi x 0 99 = true) (cq_23 : wyF σ (x / 10) (jrem x 10) y = true) (cq_34 : wi z 0 1099 = true) (cq_47 : wi (z / 100) 0 10 = true) (cq_60 : wi (jrem z 100) 0 10 = true) (cq_70 : wi w 0 1 = true) : Ok Γ mX12_sure 70 0 93 [some (.ref m), some (.int x), some (.int y), some (.int z), some (.int w), some (.int 1), none, none, none, none, none, none, none] [] (M, sz) (cl K) := by
  obtain ⟨⟨⟨eH, lH⟩, ⟨eK, lK⟩, ⟨eL, lL⟩, ⟨eA, lA⟩, ⟨eT, lT⟩⟩, iK, iH, iW, iL, iO, iB, hT⟩ := id hI
  
  refine ok_iload_n (pc := 93) dX12_sure_93 rfl ?_
  refine ok_bipush (pc := 94) (v := 100) dX12_sure_94 (by decide) ?_
  refine ok_idiv (pc := 96) dX12_sure_96 (by decide) ?_
  refine ok_istore6 (pc := 97) dX12_sure_97 (by decide) rfl ?_
  refine ok_lconst (pc := 99) (v := 1) dX12_sure_99 (by decide) ?_
  refine ok_lstore7 (pc := 100) dX12_sure_100 (by decide) rfl ?_
  refine ok_iconst (pc := 102) (v := 0) dX12_sure_102 (by decide) ?_
  refine ok_istore9 (pc := 103) dX12_sure_103 (by decide) rfl ?_
  obtain ⟨ex, -, lx⟩ := wi_lit (a := 0) (c := 99) rfl rfl (by decide) (by decide) cq_7
  obtain ⟨ez, -, lz⟩ := wi_lit (a := 0) (c := 1099) rfl rfl (by decide) (by decide) cq_34
  have hx1 : x / 10 = nI (iN x / 10) := (congrArg (· / 10) ex).trans (pk_div (by omega) (by decide) (by decide))
  have hx2 : jrem x 10 = nI (iN x % 10) := (congrArg (jrem · 10) ex).trans (pk_rem (by omega) (by decide) (by decide))
  have hz1 : z / 100 = nI (iN z / 100) := (congrArg (· / 100) ez).trans (pk_div (by omega) (by decide) (by decide))
  have hz2 : jrem z 100 = nI (iN z % 100) := (congrArg (jrem · 100) ez).trans (pk_rem (by omega) (by decide) (by decide))
  have hwy := cq_23
  unfold wyF at hwy
  simp only [Bool.and_eq_true] at hwy
  have lf1 : iN x / 10 < cH σ := by
    obtain ⟨e1, l1⟩ := wi_cnt eH (by omega) hwy.1.1.1
    rw [hx1] at l1
    rw [show iN (nI (iN x / 10)) = iN x / 10 from nI_clamp (by omega)] at l1
    exact l1
  have lf2 : iN x % 10 < cH σ := by
    obtain ⟨e1, l1⟩ := wi_cnt eH (by omega) hwy.1.1.2
    rw [hx2] at l1
    rw [show iN (nI (iN x % 10)) = iN x % 10 from nI_clamp (by omega)] at l1
    exact l1
  have lz1 : iN z / 100 ≤ 10 := by omega
  have lz2 : iN z % 100 ≤ 10 := by
    have h9 := cq_60
    rw [hz2] at h9
    obtain ⟨-, -, h8⟩ := wi_lit (a := 0) (c := 10) rfl rfl (by decide) (by decide) h9
    rw [show iN (nI (iN z % 100)) = iN z % 100 from nI_clamp (by omega)] at h8
    exact h8
  refine l_su10 (iN z / 100) (10 ^ (iN z / 100)) hz1 (by omega) (fun xi => ?_) (iN z / 100) 0 1 _ (by omega) rfl (Nat.one_mul _)
  refine ok_aload_n (pc := 126) dX12_sure_126 rfl ?_
  refine ok_iconst (pc := 127) (v := 1) dX12_sure_127 (by decide) ?_
  refine ok_iload_n (pc := 128) dX12_sure_128 rfl ?_
  refine ok_bipush (pc := 129) (v := 10) dX12_sure_129 (by decide) ?_
  refine ok_idiv (pc := 131) dX12_sure_131 (by decide) ?_
  refine ok_ishl (pc := 132) dX12_sure_132 ?_
  rw [hx1, jshl_1 (by omega)]
  refine ok_iload_n (pc := 133) dX12_sure_133 rfl ?_
  refine ok_bipush (pc := 134) (v := 10) dX12_sure_134 (by decide) ?_
  refine ok_irem (pc := 136) dX12_sure_136 (by decide) ?_
  refine ok_iload_n (pc := 137) dX12_sure_137 rfl ?_
  refine ok_iconst (pc := 138) (v := 0) dX12_sure_138 (by decide) ?_
  refine ok_iload (pc := 139) dX12_sure_139 rfl ?_
  refine ok_iload_n (pc := 141) dX12_sure_141 rfl ?_
  refine ok_bipush (pc := 142) (v := 100) dX12_sure_142 (by decide) ?_
  refine ok_irem (pc := 144) dX12_sure_144 (by decide) ?_
  refine ok_callVl6 (pc := 145) (d' := (8 + iN z / 100)) dX12_sure_145 vl_X12_297 hR.o rfl rfl rfl (by omega) ?_
  refine r_sureBy (iN x % 10) (iN z / 100) (iN z % 100) hx2 hz1 hz2 (by omega) (by omega) (by omega) hI (by omega) (iN z / 100) 0 (2 ^ (iN x / 10)) _ _ _ _ _ (by omega) rfl (pw_lt (by omega)) rfl hR (fun M rb hR hs => ?_)
  have hle := syN_le (σ := σ) (t := iN x % 10) (w := y) (c := iN z % 100) (by omega) (iN z / 100) 0 (2 ^ (iN x / 10))
  have h34 := p10_lt (n := iN z / 100) (by omega)
  refine ok_lstore9 (pc := 148) dX12_sure_148 (by decide) rfl ?_
  refine ok_lload (pc := 150) dX12_sure_150 rfl ?_
  refine ok_lload (pc := 152) dX12_sure_152 rfl ?_
  refine ok_callSl2 (pc := 154) (d' := 60) dX12_sure_154 sl_X12_301 rfl (by omega) ?_
  refine r_divisor 60 (10 ^ (iN z / 100)) (syN σ (iN x % 10) y (iN z % 100) (iN z / 100) 0 (2 ^ (iN x / 10))) hle (by omega) (Nat.lt_of_le_of_lt (Nat.mul_le_mul_right (2 ^ 60) (show 10 ^ (iN z / 100) + (syN σ (iN x % 10) y (iN z % 100) (iN z / 100) 0 (2 ^ (iN x / 10))) ≤ 2 * 10 ^ 10 from ?_)) (by decide)) ?_
  · have h9 := Nat.pow_le_pow_right (n := 10) (by decide) (show iN z / 100 ≤ 10 by omega)
    omega
  have hgp : 0 < Nat.gcd (syN σ (iN x % 10) y (iN z % 100) (iN z / 100) 0 (2 ^ (iN x / 10))) (10 ^ (iN z / 100)) := Nat.gcd_pos_of_pos_right _ (Nat.pos_of_ne_zero (by have := Nat.one_le_two_pow (n := 0); exact Nat.pos_iff_ne_zero.mp (Nat.pow_pos (by decide))))
  have hgl : Nat.gcd (syN σ (iN x % 10) y (iN z % 100) (iN z / 100) 0 (2 ^ (iN x / 10))) (10 ^ (iN z / 100)) ≤ 10 ^ (iN z / 100) := Nat.gcd_le_right _ (Nat.pow_pos (by decide))
  have hg0 : ¬ lN (Nat.gcd (syN σ (iN x % 10) y (iN z % 100) (iN z / 100) 0 (2 ^ (iN x / 10))) (10 ^ (iN z / 100))) = 0 := fun h9 => by
    have h8 := (lN_eq62 (b := 0) (by omega) (by decide)).mp h9
    omega
  refine ok_lstore11 (pc := 157) dX12_sure_157 (by decide) rfl ?_
  refine ok_iload (pc := 159) dX12_sure_159 rfl ?_
  refine ok_if_ne (pc := 161) 172 dX12_sure_161 (by decide) (fun cc_161 => ?_) (fun cc_161 => ?_)
  · refine ok_lload (pc := 172) dX12_sure_172 rfl ?_
    refine ok_lload (pc := 174) dX12_sure_174 rfl ?_
    refine ok_ldiv (pc := 176) dX12_sure_176 hg0 ?_
    refine ok_lret (pc := 177) dX12_sure_177 rfl ?_
    rw [lN_div (by omega) (by omega)]
    have hgg : (wi x 0 99 && wyF σ (x / 10) (jrem x 10) y && wi z 0 1099 && wi (z / 100) 0 10 && wi (jrem z 100) 0 10 && wi w 0 1) = true := by rw [cq_7, cq_23, cq_34, cq_47, cq_60, cq_70]; rfl
    first
      | (have eo : op_sure σ x y z w = (0, lN ((syN σ (iN x % 10) y (iN z % 100) (iN z / 100) 0 (2 ^ (iN x / 10))) / Nat.gcd (syN σ (iN x % 10) y (iN z % 100) (iN z / 100) 0 (2 ^ (iN x / 10))) (10 ^ (iN z / 100)))) := by unfold op_sure; rw [if_pos hgg, if_pos cc_161]
         rw [eo] at k
         exact k _ (RefW.oks hR hs hv hw))
      | (have eo : op_sure σ x y z w = (0, lN (10 ^ (iN z / 100) / Nat.gcd (syN σ (iN x % 10) y (iN z % 100) (iN z / 100) 0 (2 ^ (iN x / 10))) (10 ^ (iN z / 100)))) := by unfold op_sure; rw [if_pos hgg, if_neg cc_161]
         rw [eo] at k
         exact k _ (RefW.oks hR hs hv hw))
  · refine ok_lload (pc := 164) dX12_sure_164 rfl ?_
    refine ok_lload (pc := 166) dX12_sure_166 rfl ?_
    refine ok_ldiv (pc := 168) dX12_sure_168 hg0 ?_
    refine ok_goto (pc := 169) 177 dX12_sure_169 (by decide) ?_
    refine ok_lret (pc := 177) dX12_sure_177 rfl ?_
    rw [lN_div (by omega) (by omega)]
    have hgg : (wi x 0 99 && wyF σ (x / 10) (jrem x 10) y && wi z 0 1099 && wi (z / 100) 0 10 && wi (jrem z 100) 0 10 && wi w 0 1) = true := by rw [cq_7, cq_23, cq_34, cq_47, cq_60, cq_70]; rfl
    first
      | (have eo : op_sure σ x y z w = (0, lN ((syN σ (iN x % 10) y (iN z % 100) (iN z / 100) 0 (2 ^ (iN x / 10))) / Nat.gcd (syN σ (iN x % 10) y (iN z % 100) (iN z / 100) 0 (2 ^ (iN x / 10))) (10 ^ (iN z / 100)))) := by unfold op_sure; rw [if_pos hgg, if_pos cc_161]
         rw [eo] at k
         exact k _ (RefW.oks hR hs hv hw))
      | (have eo : op_sure σ x y z w = (0, lN (10 ^ (iN z / 100) / Nat.gcd (syN σ (iN x % 10) y (iN z % 100) (iN z / 100) 0 (2 ^ (iN x / 10))) (10 ^ (iN z / 100)))) := by unfold op_sure; rw [if_pos hgg, if_neg cc_161]
         rw [eo] at k
         exact k _ (RefW.oks hR hs hv hw))

set_option maxHeartbeats 1000000 in
theorem r_sure {Γ : Cx} {m sz : Nat} {M0 M : Nat → Option va_E} {σ κ vi : Rw} {va : Nat → Rw} {K : Int64 → Wd → Prop} (hW : RefW Γ m M0 σ κ vi va M) (hI : Inv σ) (hc9 : cT σ ≤ 9999) {x y z w : Int32} (k : ∀ M', RefW Γ m M0 σ κ vi (eU va (op_sure σ x y z w).1) M' → K (op_sure σ x y z w).2 (M', sz)) : Spec Γ mX12_sure 70 0 [.ref m, .int x, .int y, .int z, .int w] (M, sz) (cl K) := by
  obtain ⟨ri, ra, hR, hv, hw⟩ := hW
  obtain ⟨⟨⟨eH, lH⟩, ⟨eK, lK⟩, ⟨eL, lL⟩, ⟨eA, lA⟩, ⟨eT, lT⟩⟩, iK, iH, iW, iL, iO, iB, hT⟩ := id hI
  
  refine spec_in [some (.ref m), some (.int x), some (.int y), some (.int z), some (.int w), none, none, none, none, none, none, none, none] 8 (by decide) rfl rfl ?_
  refine ok_iload_n (pc := 0) dX12_sure_0 rfl ?_
  refine ok_iconst (pc := 1) (v := 0) dX12_sure_1 (by decide) ?_
  refine ok_bipush (pc := 2) (v := 99) dX12_sure_2 (by decide) ?_
  refine ok_callSi3 (pc := 4) (d' := 0) dX12_sure_4 sl_X12_75 rfl (by decide) ?_
  refine r_within ?_
  refine ok_if_eq (pc := 7) 77 dX12_sure_7 (by decide) (fun cc_7 => ?_) (fun cc_7 => ?_)
  · have cq_7 := bI_0.mp cc_7
    refine ok_iconst (pc := 77) (v := 0) dX12_sure_77 (by decide) ?_
    refine ok_istore5 (pc := 78) dX12_sure_78 (by decide) rfl ?_
    refine ok_iload (pc := 80) dX12_sure_80 rfl ?_
    refine ok_if_ne (pc := 82) 93 dX12_sure_82 (by decide) (fun cc_82 => ?_) (fun cc_82 => ?_)
    · first
        | exact absurd rfl cc_82
        | exact l_sure93 hR hv hw hI hc9 k cq_7 cq_23 cq_34 cq_47 cq_60 cq_70
    · refine ok_aload_n (pc := 85) dX12_sure_85 rfl ?_
      refine ok_ldc (pc := 86) (v := -1000000001) dX12_sure_86 tw_1205 ?_
      refine ok_callVi1 (pc := 88) (d' := 0) dX12_sure_88 vl_X12_84 hR.o rfl rfl rfl (by decide) ?_
      refine r_finding hR 1 (by decide) (by decide) (fun M hR => ?_)
      refine ok_i2l (pc := 91) dX12_sure_91 ?_
      refine ok_lret (pc := 92) dX12_sure_92 rfl ?_
      first
        | exact absurd cc_82 (by decide)
        | (have eo : op_sure σ x y z w = (1, (-1000000001 : Int32).toInt64) := by simp [op_sure, cq_7, cc_82]
           rw [eo] at k
           exact k _ (RefW.err 1 (by decide) hR hv hw))
  · have cq_7 := bI_n0.mp cc_7
    refine ok_aload_n (pc := 10) dX12_sure_10 rfl ?_
    refine ok_iload_n (pc := 11) dX12_sure_11 rfl ?_
    refine ok_bipush (pc := 12) (v := 10) dX12_sure_12 (by decide) ?_
    refine ok_idiv (pc := 14) dX12_sure_14 (by decide) ?_
    refine ok_iload_n (pc := 15) dX12_sure_15 rfl ?_
    refine ok_bipush (pc := 16) (v := 10) dX12_sure_16 (by decide) ?_
    refine ok_irem (pc := 18) dX12_sure_18 (by decide) ?_
    refine ok_iload_n (pc := 19) dX12_sure_19 rfl ?_
    refine ok_callVi3 (pc := 20) (d' := 2) dX12_sure_20 vl_X12_288 hR.o rfl rfl rfl (by decide) ?_
    refine r_isWay hR ?_
    refine ok_if_eq (pc := 23) 77 dX12_sure_23 (by decide) (fun cc_23 => ?_) (fun cc_23 => ?_)
    · have cq_23 := bI_0.mp cc_23
      refine ok_iconst (pc := 77) (v := 0) dX12_sure_77 (by decide) ?_
      refine ok_istore5 (pc := 78) dX12_sure_78 (by decide) rfl ?_
      refine ok_iload (pc := 80) dX12_sure_80 rfl ?_
      refine ok_if_ne (pc := 82) 93 dX12_sure_82 (by decide) (fun cc_82 => ?_) (fun cc_82 => ?_)
      · first
          | exact absurd rfl cc_82
          | exact l_sure93 hR hv hw hI hc9 k cq_7 cq_23 cq_34 cq_47 cq_60 cq_70
      · refine ok_aload_n (pc := 85) dX12_sure_85 rfl ?_
        refine ok_ldc (pc := 86) (v := -1000000001) dX12_sure_86 tw_1205 ?_
        refine ok_callVi1 (pc := 88) (d' := 0) dX12_sure_88 vl_X12_84 hR.o rfl rfl rfl (by decide) ?_
        refine r_finding hR 1 (by decide) (by decide) (fun M hR => ?_)
        refine ok_i2l (pc := 91) dX12_sure_91 ?_
        refine ok_lret (pc := 92) dX12_sure_92 rfl ?_
        first
          | exact absurd cc_82 (by decide)
          | (have eo : op_sure σ x y z w = (1, (-1000000001 : Int32).toInt64) := by simp [op_sure, cq_7, cq_23, cc_82]
             rw [eo] at k
             exact k _ (RefW.err 1 (by decide) hR hv hw))
    · have cq_23 := bI_n0.mp cc_23
      refine ok_iload_n (pc := 26) dX12_sure_26 rfl ?_
      refine ok_iconst (pc := 27) (v := 0) dX12_sure_27 (by decide) ?_
      refine ok_sipush (pc := 28) (v := 1099) dX12_sure_28 (by decide) ?_
      refine ok_callSi3 (pc := 31) (d' := 0) dX12_sure_31 sl_X12_75 rfl (by decide) ?_
      refine r_within ?_
      refine ok_if_eq (pc := 34) 77 dX12_sure_34 (by decide) (fun cc_34 => ?_) (fun cc_34 => ?_)
      · have cq_34 := bI_0.mp cc_34
        refine ok_iconst (pc := 77) (v := 0) dX12_sure_77 (by decide) ?_
        refine ok_istore5 (pc := 78) dX12_sure_78 (by decide) rfl ?_
        refine ok_iload (pc := 80) dX12_sure_80 rfl ?_
        refine ok_if_ne (pc := 82) 93 dX12_sure_82 (by decide) (fun cc_82 => ?_) (fun cc_82 => ?_)
        · first
            | exact absurd rfl cc_82
            | exact l_sure93 hR hv hw hI hc9 k cq_7 cq_23 cq_34 cq_47 cq_60 cq_70
        · refine ok_aload_n (pc := 85) dX12_sure_85 rfl ?_
          refine ok_ldc (pc := 86) (v := -1000000001) dX12_sure_86 tw_1205 ?_
          refine ok_callVi1 (pc := 88) (d' := 0) dX12_sure_88 vl_X12_84 hR.o rfl rfl rfl (by decide) ?_
          refine r_finding hR 1 (by decide) (by decide) (fun M hR => ?_)
          refine ok_i2l (pc := 91) dX12_sure_91 ?_
          refine ok_lret (pc := 92) dX12_sure_92 rfl ?_
          first
            | exact absurd cc_82 (by decide)
            | (have eo : op_sure σ x y z w = (1, (-1000000001 : Int32).toInt64) := by simp [op_sure, cq_7, cq_23, cq_34, cc_82]
               rw [eo] at k
               exact k _ (RefW.err 1 (by decide) hR hv hw))
      · have cq_34 := bI_n0.mp cc_34
        refine ok_iload_n (pc := 37) dX12_sure_37 rfl ?_
        refine ok_bipush (pc := 38) (v := 100) dX12_sure_38 (by decide) ?_
        refine ok_idiv (pc := 40) dX12_sure_40 (by decide) ?_
        refine ok_iconst (pc := 41) (v := 0) dX12_sure_41 (by decide) ?_
        refine ok_bipush (pc := 42) (v := 10) dX12_sure_42 (by decide) ?_
        refine ok_callSi3 (pc := 44) (d' := 0) dX12_sure_44 sl_X12_75 rfl (by decide) ?_
        refine r_within ?_
        refine ok_if_eq (pc := 47) 77 dX12_sure_47 (by decide) (fun cc_47 => ?_) (fun cc_47 => ?_)
        · have cq_47 := bI_0.mp cc_47
          refine ok_iconst (pc := 77) (v := 0) dX12_sure_77 (by decide) ?_
          refine ok_istore5 (pc := 78) dX12_sure_78 (by decide) rfl ?_
          refine ok_iload (pc := 80) dX12_sure_80 rfl ?_
          refine ok_if_ne (pc := 82) 93 dX12_sure_82 (by decide) (fun cc_82 => ?_) (fun cc_82 => ?_)
          · first
              | exact absurd rfl cc_82
              | exact l_sure93 hR hv hw hI hc9 k cq_7 cq_23 cq_34 cq_47 cq_60 cq_70
          · refine ok_aload_n (pc := 85) dX12_sure_85 rfl ?_
            refine ok_ldc (pc := 86) (v := -1000000001) dX12_sure_86 tw_1205 ?_
            refine ok_callVi1 (pc := 88) (d' := 0) dX12_sure_88 vl_X12_84 hR.o rfl rfl rfl (by decide) ?_
            refine r_finding hR 1 (by decide) (by decide) (fun M hR => ?_)
            refine ok_i2l (pc := 91) dX12_sure_91 ?_
            refine ok_lret (pc := 92) dX12_sure_92 rfl ?_
            first
              | exact absurd cc_82 (by decide)
              | (have eo : op_sure σ x y z w = (1, (-1000000001 : Int32).toInt64) := by simp [op_sure, cq_7, cq_23, cq_34, cq_47, cc_82]
                 rw [eo] at k
                 exact k _ (RefW.err 1 (by decide) hR hv hw))
        · have cq_47 := bI_n0.mp cc_47
          refine ok_iload_n (pc := 50) dX12_sure_50 rfl ?_
          refine ok_bipush (pc := 51) (v := 100) dX12_sure_51 (by decide) ?_
          refine ok_irem (pc := 53) dX12_sure_53 (by decide) ?_
          refine ok_iconst (pc := 54) (v := 0) dX12_sure_54 (by decide) ?_
          refine ok_bipush (pc := 55) (v := 10) dX12_sure_55 (by decide) ?_
          refine ok_callSi3 (pc := 57) (d' := 0) dX12_sure_57 sl_X12_75 rfl (by decide) ?_
          refine r_within ?_
          refine ok_if_eq (pc := 60) 77 dX12_sure_60 (by decide) (fun cc_60 => ?_) (fun cc_60 => ?_)
          · have cq_60 := bI_0.mp cc_60
            refine ok_iconst (pc := 77) (v := 0) dX12_sure_77 (by decide) ?_
            refine ok_istore5 (pc := 78) dX12_sure_78 (by decide) rfl ?_
            refine ok_iload (pc := 80) dX12_sure_80 rfl ?_
            refine ok_if_ne (pc := 82) 93 dX12_sure_82 (by decide) (fun cc_82 => ?_) (fun cc_82 => ?_)
            · first
                | exact absurd rfl cc_82
                | exact l_sure93 hR hv hw hI hc9 k cq_7 cq_23 cq_34 cq_47 cq_60 cq_70
            · refine ok_aload_n (pc := 85) dX12_sure_85 rfl ?_
              refine ok_ldc (pc := 86) (v := -1000000001) dX12_sure_86 tw_1205 ?_
              refine ok_callVi1 (pc := 88) (d' := 0) dX12_sure_88 vl_X12_84 hR.o rfl rfl rfl (by decide) ?_
              refine r_finding hR 1 (by decide) (by decide) (fun M hR => ?_)
              refine ok_i2l (pc := 91) dX12_sure_91 ?_
              refine ok_lret (pc := 92) dX12_sure_92 rfl ?_
              first
                | exact absurd cc_82 (by decide)
                | (have eo : op_sure σ x y z w = (1, (-1000000001 : Int32).toInt64) := by simp [op_sure, cq_7, cq_23, cq_34, cq_47, cq_60, cc_82]
                   rw [eo] at k
                   exact k _ (RefW.err 1 (by decide) hR hv hw))
          · have cq_60 := bI_n0.mp cc_60
            refine ok_iload (pc := 63) dX12_sure_63 rfl ?_
            refine ok_iconst (pc := 65) (v := 0) dX12_sure_65 (by decide) ?_
            refine ok_iconst (pc := 66) (v := 1) dX12_sure_66 (by decide) ?_
            refine ok_callSi3 (pc := 67) (d' := 0) dX12_sure_67 sl_X12_75 rfl (by decide) ?_
            refine r_within ?_
            refine ok_if_eq (pc := 70) 77 dX12_sure_70 (by decide) (fun cc_70 => ?_) (fun cc_70 => ?_)
            · have cq_70 := bI_0.mp cc_70
              refine ok_iconst (pc := 77) (v := 0) dX12_sure_77 (by decide) ?_
              refine ok_istore5 (pc := 78) dX12_sure_78 (by decide) rfl ?_
              refine ok_iload (pc := 80) dX12_sure_80 rfl ?_
              refine ok_if_ne (pc := 82) 93 dX12_sure_82 (by decide) (fun cc_82 => ?_) (fun cc_82 => ?_)
              · first
                  | exact absurd rfl cc_82
                  | exact l_sure93 hR hv hw hI hc9 k cq_7 cq_23 cq_34 cq_47 cq_60 cq_70
              · refine ok_aload_n (pc := 85) dX12_sure_85 rfl ?_
                refine ok_ldc (pc := 86) (v := -1000000001) dX12_sure_86 tw_1205 ?_
                refine ok_callVi1 (pc := 88) (d' := 0) dX12_sure_88 vl_X12_84 hR.o rfl rfl rfl (by decide) ?_
                refine r_finding hR 1 (by decide) (by decide) (fun M hR => ?_)
                refine ok_i2l (pc := 91) dX12_sure_91 ?_
                refine ok_lret (pc := 92) dX12_sure_92 rfl ?_
                first
                  | exact absurd cc_82 (by decide)
                  | (have eo : op_sure σ x y z w = (1, (-1000000001 : Int32).toInt64) := by simp [op_sure, cq_7, cq_23, cq_34, cq_47, cq_60, cq_70, cc_82]
                     rw [eo] at k
                     exact k _ (RefW.err 1 (by decide) hR hv hw))
            · have cq_70 := bI_n0.mp cc_70
              refine ok_iconst (pc := 73) (v := 1) dX12_sure_73 (by decide) ?_
              refine ok_goto (pc := 74) 78 dX12_sure_74 (by decide) ?_
              refine ok_istore5 (pc := 78) dX12_sure_78 (by decide) rfl ?_
              refine ok_iload (pc := 80) dX12_sure_80 rfl ?_
              refine ok_if_ne (pc := 82) 93 dX12_sure_82 (by decide) (fun cc_82 => ?_) (fun cc_82 => ?_)
              · first
                  | exact absurd rfl cc_82
                  | exact l_sure93 hR hv hw hI hc9 k cq_7 cq_23 cq_34 cq_47 cq_60 cq_70
              · refine ok_aload_n (pc := 85) dX12_sure_85 rfl ?_
                refine ok_ldc (pc := 86) (v := -1000000001) dX12_sure_86 tw_1205 ?_
                refine ok_callVi1 (pc := 88) (d' := 0) dX12_sure_88 vl_X12_84 hR.o rfl rfl rfl (by decide) ?_
                refine r_finding hR 1 (by decide) (by decide) (fun M hR => ?_)
                refine ok_i2l (pc := 91) dX12_sure_91 ?_
                refine ok_lret (pc := 92) dX12_sure_92 rfl ?_
                first
                  | exact absurd cc_82 (by decide)
                  | (have eo : op_sure σ x y z w = (1, (-1000000001 : Int32).toInt64) := by simp [op_sure, cq_7, cq_23, cq_34, cq_47, cq_60, cq_70, cc_82]
                     rw [eo] at k
                     exact k _ (RefW.err 1 (by decide) hR hv hw))
