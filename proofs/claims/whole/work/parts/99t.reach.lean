theorem gi_or {σ : Rw} {k tm : Nat} {w : Int32} {A : Nat} : ∀ n, gi σ k tm w A n = A ||| gi σ k tm w 0 n
  | 0 => (Nat.or_zero A).symm
  | n + 1 => by
    show (if _ then _ else _) = A ||| (if _ then _ else _)
    rw [gi_or n]
    split
    · rw [Nat.or_assoc]
    · rfl
theorem ov_gi {σ : Rw} {k tm : Nat} {w : Int32} : ∀ n, n ≤ 31 → ovF σ k w (tm % 24) (nI tm) n = nI (gi σ k tm w 0 n)
  | 0, _ => rfl
  | n + 1, h => by
    show ovF σ k w (tm % 24) (nI tm) n ||| (if _ then _ else _) = nI (if _ then _ else _)
    rw [ov_gi n (by omega)]
    split
    · rw [jshl_1 (by omega), fa_or]
    · exact (fa_or _ 0).trans (by rw [Nat.or_zero])
/-- over which hills a kite stands, by hours -/
def rcF (σ : Rw) (w : Int32) (j : Nat) : Int32 := if j % 8 < cK σ then nI (gi σ (j % 8) (cT σ + j / 8) w 0 (cH σ)) else 0
theorem ShR.tr2 {Γ : Cx} {a : Nat} {va : Nat → Rw} {M M' : Nat → Option va_E} (h : ShR Γ a va M) (hw : ∀ q, q = a + 81 ∨ (a + 84 ≤ q ∧ q < a + 92) → M' q = M q) : ShR Γ a va M' := by
  obtain ⟨⟨sr, s1, s2⟩, s3⟩ := h
  refine ⟨⟨sr, (hw _ (by omega)).trans s1, s2⟩, fun q hq => ?_⟩
  obtain ⟨t1, f, t2, t3⟩ := s3 q hq
  exact ⟨(hw _ (by omega)).trans t1, f, (hw _ (by omega)).trans t2, t3⟩
theorem ClsR.re {Γ : Cx} {a e z : Nat} {σ κ vi : Rw} {va : Nat → Rw} {M M' : Nat → Option va_E} {f : Rw} (hC : ClsR Γ a e z σ κ vi va M) (hI : Inv σ) (hae : a + 92 ≤ e) (hF : M' (a + 83) = aI Γ 80 f) (hw : ∀ q, q ≠ a + 83 → M' q = M q) : ClsR Γ a e z σ κ vi va M' := by
  obtain ⟨c0, c1, c2, c3, c4, c5, c6, c7⟩ := hC
  have hv : ∀ s, s ≠ 4 → va s = va s := fun _ _ => rfl
  exact ⟨(hw _ (by omega)).trans c0, c1.same hI.1.2.1.2 (fun q g1 g2 => hw q (by omega)) (fun q g1 g2 => hw q (by omega)) (Nat.le_refl _), (by obtain ⟨τ, i, h⟩ := c2; exact ⟨τ, i, h.same i.1.2.1.2 (fun q g1 g2 => hw q (by omega)) (fun q g1 g2 => hw q (by omega)) (Nat.le_refl _)⟩), (by obtain ⟨τ, i, h, g⟩ := c3; exact ⟨τ, i, h.same i.1.2.1.2 (fun q g1 g2 => hw q (by omega)) (fun q g1 g2 => hw q (by omega)) (Nat.le_refl _), g⟩), (by rw [hv 18 (by decide)]; exact c4.tr (hw _ (by omega)) (hw _ (by omega)) rfl (fun _ _ => rfl)), (c5.tr2 (fun q g => hw q (by omega))), c6.tr (hw _ (by omega)) (fun _ _ => rfl), ⟨f, hF⟩⟩

set_option maxHeartbeats 1000000 in
theorem lx_frB {Γ : Cx} {a e z sz : Nat} {σ κ vi : Rw} {va : Nat → Rw} {K : Wd → Prop} (hI : Inv σ) (hae : a + 92 ≤ e) {M0 : Nat → Option va_E} {w xn xi : Int32} (i0 : Nat) (ei : xi = nI i0) (h10 : i0 < 10) (hc9 : cT σ ≤ 9999) (kk : ∀ M' f l4 l5, ClsR Γ a e z σ κ vi va M' → M' (a + 83) = aI Γ 80 f → (∀ j, j < 8 * (i0 + 1) → f j = rcF σ w j) → Off a 92 M0 M' → Ok Γ mX11_fillReach 5 0 2 [some (.ref a), some (.int w), some (.int xn), some (.int (xi + 1)), l4, l5] [] (M', sz) (cv K)) : ∀ (n : Nat) (j : Nat) (xj : Int32) (l5 : Option Value) (f : Rw) (M : Nat → Option va_E), j + n = 8 → cK σ ≤ j → xj = nI j → M (a + 83) = aI Γ 80 f → (∀ j9, j9 < 8 * i0 + j → f j9 = rcF σ w j9) → ClsR Γ a e z σ κ vi va M → Off a 92 M0 M → Ok Γ mX11_fillReach 5 0 16 [some (.ref a), some (.int w), some (.int xn), some (.int xi), some (.int xj), l5] [] (M, sz) (cv K) := by
  obtain ⟨⟨⟨eH, lH⟩, ⟨eK, lK⟩, ⟨eL, lL⟩, ⟨eA, lA⟩, ⟨eT, lT⟩⟩, iK, iH, iW, iL, iO, iB, hT⟩ := id hI
  
  intro n
  induction n with
  | zero =>
    intro j xj l5 f M h1 hk ej hF hf hC hO
    refine ok_iload (pc := 16) dX11_fillReach_16 rfl ?_
    refine ok_bipush (pc := 18) (v := 8) dX11_fillReach_18 (by decide) ?_
    refine ok_icmp_ge (pc := 20) 80 dX11_fillReach_20 (by decide) (fun cc_20 => ?_) (fun cc_20 => ?_)
    · have ce_20 := Int32.not_lt.mpr cc_20
      have e9 : j = 8 := by omega
      refine ok_iinc3 (pc := 80) (v := 1) dX11_fillReach_80 (by decide) (by decide) rfl ?_
      refine ok_goto (pc := 83) 2 dX11_fillReach_83 (by decide) ?_
      exact kk _ _ _ _ hC hF (fun j9 h9 => hf j9 (by omega)) hO
    · exact absurd (by rw [ej]; exact nI_le (a := 8) (by omega) (by omega)) cc_20
  | succ n ih =>
    intro j xj l5 f M h1 hk ej hF hf hC hO
    refine ok_iload (pc := 16) dX11_fillReach_16 rfl ?_
    refine ok_bipush (pc := 18) (v := 8) dX11_fillReach_18 (by decide) ?_
    refine ok_icmp_ge (pc := 20) 80 dX11_fillReach_20 (by decide) (fun cc_20 => ?_) (fun cc_20 => ?_)
    · rw [ej] at cc_20
      exact absurd cc_20 (nI_ge (b := 8) (by omega) (by omega))
    · have ce_20 := Int32.not_le.mp cc_20
      refine ok_aload_n (pc := 23) dX11_fillReach_23 rfl ?_
      refine ok_getf (pc := 24) dX11_fillReach_24 fl_X11_10 hC.1 rfl ?_
      refine ok_iload (pc := 27) dX11_fillReach_27 rfl ?_
      refine ok_callVr1 (pc := 29) (d' := 0) dX11_fillReach_29 vl_X11_91 hC.2.1.o rfl rfl rfl (by decide) ?_
      refine c_kiteAt hC.2.1 eK lK (fun q9 ex9 lx9 hK9 => absurd lx9 (by rw [ej, show iN (nI j) = j from nI_clamp (by omega)]; omega)) (fun h9 => ?_)
      refine ok_astoreN5 (pc := 32) dX11_fillReach_32 (by decide) rfl ?_
      refine ok_aload_n (pc := 34) dX11_fillReach_34 rfl ?_
      refine ok_getf (pc := 35) dX11_fillReach_35 fl_X11_41 hC.1 rfl ?_
      refine ok_iload_n (pc := 38) dX11_fillReach_38 rfl ?_
      refine ok_bipush (pc := 39) (v := 8) dX11_fillReach_39 (by decide) ?_
      refine ok_imul (pc := 41) dX11_fillReach_41 ?_
      refine ok_iload (pc := 42) dX11_fillReach_42 rfl ?_
      refine ok_iadd (pc := 44) dX11_fillReach_44 ?_
      refine ok_aloadN (pc := 45) dX11_fillReach_45 rfl ?_
      refine ok_ifnonnullN (pc := 47) dX11_fillReach_47 ?_
      refine ok_iconst (pc := 50) (v := 0) dX11_fillReach_50 (by decide) ?_
      refine ok_goto (pc := 51) 73 dX11_fillReach_51 (by decide) ?_
      refine ok_iast (pc := 73) (8 * i0 + j) dX11_fillReach_73 hF (by rw [ei, ej]; exact (congrArg (· + nI j) (pk_mul i0 8)).trans ((nI_add _ _).trans (by rw [Nat.mul_comm]))) (by omega) (by decide) ?_
      have hw1 : ∀ q, q ≠ a + 83 → va_up M (a + 83) (aI Γ 80 (upd f (8 * i0 + j) (0))) q = M q := fun q h => up_ne h
      have hC := hC.re (M' := va_up M (a + 83) (aI Γ 80 (upd f (8 * i0 + j) (0)))) hI hae up_eq hw1
      have hO : Off a 92 M0 (va_up M (a + 83) (aI Γ 80 (upd f (8 * i0 + j) (0)))) := hO.trans (fun q hq => hw1 q (by omega))
      have hf2 : ∀ j9, j9 < 8 * i0 + (j + 1) → upd f (8 * i0 + j) (0) j9 = rcF σ w j9 := fun j9 h9 => by
        by_cases c : j9 = 8 * i0 + j
        · rw [c, upd_at]
          unfold rcF
          rw [show (8 * i0 + j) % 8 = j by omega, show (8 * i0 + j) / 8 = i0 by omega]
          rw [if_neg (by omega)]
        · rw [upd_ne c]
          exact hf j9 (by omega)
      refine ok_iinc4 (pc := 74) (v := 1) dX11_fillReach_74 (by decide) (by decide) rfl ?_
      refine ok_goto (pc := 77) 16 dX11_fillReach_77 (by decide) ?_
      exact ih (j + 1) _ _ _ _ (by omega) (by omega) (by rw [ej, nI_1]) up_eq hf2 hC hO

set_option maxHeartbeats 1000000 in
theorem lx_frA {Γ : Cx} {a e z sz : Nat} {σ κ vi : Rw} {va : Nat → Rw} {K : Wd → Prop} (hI : Inv σ) (hae : a + 92 ≤ e) {M0 : Nat → Option va_E} {w xn xi : Int32} (i0 : Nat) (ei : xi = nI i0) (h10 : i0 < 10) (hc9 : cT σ ≤ 9999) (kk : ∀ M' f l4 l5, ClsR Γ a e z σ κ vi va M' → M' (a + 83) = aI Γ 80 f → (∀ j, j < 8 * (i0 + 1) → f j = rcF σ w j) → Off a 92 M0 M' → Ok Γ mX11_fillReach 5 0 2 [some (.ref a), some (.int w), some (.int xn), some (.int (xi + 1)), l4, l5] [] (M', sz) (cv K)) : ∀ (n : Nat) (j : Nat) (xj : Int32) (l5 : Option Value) (f : Rw) (M : Nat → Option va_E), j + n = cK σ → xj = nI j → M (a + 83) = aI Γ 80 f → (∀ j9, j9 < 8 * i0 + j → f j9 = rcF σ w j9) → ClsR Γ a e z σ κ vi va M → Off a 92 M0 M → Ok Γ mX11_fillReach 5 0 16 [some (.ref a), some (.int w), some (.int xn), some (.int xi), some (.int xj), l5] [] (M, sz) (cv K) := by
  obtain ⟨⟨⟨eH, lH⟩, ⟨eK, lK⟩, ⟨eL, lL⟩, ⟨eA, lA⟩, ⟨eT, lT⟩⟩, iK, iH, iW, iL, iO, iB, hT⟩ := id hI
  intro n
  induction n with
  | zero =>
    intro j xj l5 f M h1 ej hF hf hC hO
    exact lx_frB hI hae i0 ei h10 hc9 kk (8 - cK σ) j xj l5 f M (by omega) (by omega) ej hF hf hC hO
  | succ n ih =>
    intro j xj l5 f M h1 ej hF hf hC hO
    refine ok_iload (pc := 16) dX11_fillReach_16 rfl ?_
    refine ok_bipush (pc := 18) (v := 8) dX11_fillReach_18 (by decide) ?_
    refine ok_icmp_ge (pc := 20) 80 dX11_fillReach_20 (by decide) (fun cc_20 => ?_) (fun cc_20 => ?_)
    · rw [ej] at cc_20
      exact absurd cc_20 (nI_ge (b := 8) (by omega) (by omega))
    · have ce_20 := Int32.not_le.mp cc_20
      refine ok_aload_n (pc := 23) dX11_fillReach_23 rfl ?_
      refine ok_getf (pc := 24) dX11_fillReach_24 fl_X11_10 hC.1 rfl ?_
      refine ok_iload (pc := 27) dX11_fillReach_27 rfl ?_
      refine ok_callVr1 (pc := 29) (d' := 0) dX11_fillReach_29 vl_X11_91 hC.2.1.o rfl rfl rfl (by decide) ?_
      refine c_kiteAt hC.2.1 eK lK (fun q9 ex9 lx9 hK9 => ?_) (fun h9 => absurd h9 (by rw [wi_T eK (by omega) (by rw [ej]; exact nI_pos' (by omega)) (by rw [ej, eK]; exact nI_lt (by omega) (by omega))]; decide))
      have e5 : iN xj = j := by rw [ej]; exact nI_clamp (by omega)
      rw [e5] at hK9
      refine ok_astore5 (pc := 32) dX11_fillReach_32 (by decide) rfl ?_
      refine ok_aload_n (pc := 34) dX11_fillReach_34 rfl ?_
      refine ok_getf (pc := 35) dX11_fillReach_35 fl_X11_41 hC.1 rfl ?_
      refine ok_iload_n (pc := 38) dX11_fillReach_38 rfl ?_
      refine ok_bipush (pc := 39) (v := 8) dX11_fillReach_39 (by decide) ?_
      refine ok_imul (pc := 41) dX11_fillReach_41 ?_
      refine ok_iload (pc := 42) dX11_fillReach_42 rfl ?_
      refine ok_iadd (pc := 44) dX11_fillReach_44 ?_
      refine ok_aload (pc := 45) dX11_fillReach_45 rfl ?_
      refine ok_ifnonnull (pc := 47) 54 dX11_fillReach_47 (by decide) ?_
      refine ok_aload_n (pc := 54) dX11_fillReach_54 rfl ?_
      refine ok_getf (pc := 55) dX11_fillReach_55 fl_X11_10 hC.1 rfl ?_
      refine ok_aload (pc := 58) dX11_fillReach_58 rfl ?_
      refine ok_iload_n (pc := 60) dX11_fillReach_60 rfl ?_
      refine ok_aload_n (pc := 61) dX11_fillReach_61 rfl ?_
      refine ok_getf (pc := 62) dX11_fillReach_62 fl_X11_10 hC.1 rfl ?_
      refine ok_getf (pc := 65) dX11_fillReach_65 fl_X11_122 hC.2.1.o rfl ?_
      refine ok_iload_n (pc := 68) dX11_fillReach_68 rfl ?_
      refine ok_iadd (pc := 69) dX11_fillReach_69 ?_
      refine ok_callVi3 (pc := 70) (d' := 4) dX11_fillReach_70 vl_X11_133 hC.2.1.o rfl rfl rfl (by decide) ?_
      refine c_overAt hC.2.1 hI (by omega) j hK9 (by omega) (cT σ + i0) (by rw [ei, eT]; exact nI_add _ _) (by omega) (fun M9 hP9 hO9 => ?_)
      have hC := hC.po hI hae hP9 (fun q hq => hO9 q (by omega))
      have hO : Off a 92 M0 M9 := hO.trans (hO9.sub (by omega) (by omega))
      have hF := (hO9 (a + 83) (by omega)).trans hF
      have exw : σ 0 + xi = nI (cT σ + i0) := by rw [ei, eT]; exact nI_add _ _
      rw [exw, ov_gi _ (by omega)]
      refine ok_iast (pc := 73) (8 * i0 + j) dX11_fillReach_73 hF (by rw [ei, ej]; exact (congrArg (· + nI j) (pk_mul i0 8)).trans ((nI_add _ _).trans (by rw [Nat.mul_comm]))) (by omega) (by decide) ?_
      have hw1 : ∀ q, q ≠ a + 83 → va_up M9 (a + 83) (aI Γ 80 (upd f (8 * i0 + j) (nI (gi σ j (cT σ + i0) w 0 (cH σ))))) q = M9 q := fun q h => up_ne h
      have hC := hC.re (M' := va_up M9 (a + 83) (aI Γ 80 (upd f (8 * i0 + j) (nI (gi σ j (cT σ + i0) w 0 (cH σ)))))) hI hae up_eq hw1
      have hO : Off a 92 M0 (va_up M9 (a + 83) (aI Γ 80 (upd f (8 * i0 + j) (nI (gi σ j (cT σ + i0) w 0 (cH σ)))))) := hO.trans (fun q hq => hw1 q (by omega))
      have hf2 : ∀ j9, j9 < 8 * i0 + (j + 1) → upd f (8 * i0 + j) (nI (gi σ j (cT σ + i0) w 0 (cH σ))) j9 = rcF σ w j9 := fun j9 h9 => by
        by_cases c : j9 = 8 * i0 + j
        · rw [c, upd_at]
          unfold rcF
          rw [show (8 * i0 + j) % 8 = j by omega, show (8 * i0 + j) / 8 = i0 by omega]
          rw [if_pos (by omega)]
        · rw [upd_ne c]
          exact hf j9 (by omega)
      refine ok_iinc4 (pc := 74) (v := 1) dX11_fillReach_74 (by decide) (by decide) rfl ?_
      refine ok_goto (pc := 77) 16 dX11_fillReach_77 (by decide) ?_
      exact ih (j + 1) _ _ _ _ (by omega) (by rw [ej, nI_1]) up_eq hf2 hC hO

set_option maxHeartbeats 1000000 in
theorem lx_fr {Γ : Cx} {a e z sz : Nat} {σ κ vi : Rw} {va : Nat → Rw} {K : Wd → Prop} (hI : Inv σ) (hae : a + 92 ≤ e) {M0 : Nat → Option va_E} {w xn : Int32} (n0 : Nat) (en : xn = nI n0) (hn : n0 ≤ 10) (hc9 : cT σ ≤ 9999) (k : ∀ M' f, ClsR Γ a e z σ κ vi va M' → M' (a + 83) = aI Γ 80 f → (∀ j, j < 8 * n0 → f j = rcF σ w j) → Off a 92 M0 M' → K (M', sz)) : ∀ (n : Nat) (j : Nat) (xi : Int32) (l4 : Option Value) (l5 : Option Value) (f : Rw) (M : Nat → Option va_E), j + n = n0 → xi = nI j → M (a + 83) = aI Γ 80 f → (∀ j9, j9 < 8 * j → f j9 = rcF σ w j9) → ClsR Γ a e z σ κ vi va M → Off a 92 M0 M → Ok Γ mX11_fillReach 5 0 2 [some (.ref a), some (.int w), some (.int xn), some (.int xi), l4, l5] [] (M, sz) (cv K) := by
  obtain ⟨⟨⟨eH, lH⟩, ⟨eK, lK⟩, ⟨eL, lL⟩, ⟨eA, lA⟩, ⟨eT, lT⟩⟩, iK, iH, iW, iL, iO, iB, hT⟩ := id hI
  
  intro n
  induction n with
  | zero =>
    intro j xi l4 l5 f M h1 ei hF hf hC hO
    refine ok_iload_n (pc := 2) dX11_fillReach_2 rfl ?_
    refine ok_iload_n (pc := 3) dX11_fillReach_3 rfl ?_
    refine ok_icmp_ge (pc := 4) 86 dX11_fillReach_4 (by decide) (fun cc_4 => ?_) (fun cc_4 => ?_)
    · have ce_4 := Int32.not_lt.mpr cc_4
      have e9 : j = n0 := by omega
      subst e9
      refine ok_vret (pc := 86) dX11_fillReach_86 rfl ?_
      exact k _ _ hC hF hf hO
    · exact absurd (by rw [en, ei]; exact nI_le (by omega) (by omega)) cc_4
  | succ n ih =>
    intro j xi l4 l5 f M h1 ei hF hf hC hO
    refine ok_iload_n (pc := 2) dX11_fillReach_2 rfl ?_
    refine ok_iload_n (pc := 3) dX11_fillReach_3 rfl ?_
    refine ok_icmp_ge (pc := 4) 86 dX11_fillReach_4 (by decide) (fun cc_4 => ?_) (fun cc_4 => ?_)
    · rw [en, ei] at cc_4
      exact absurd cc_4 (nI_ge (by omega) (by omega))
    · have ce_4 := Int32.not_le.mp cc_4
      refine ok_iload_n (pc := 7) dX11_fillReach_7 rfl ?_
      refine ok_bipush (pc := 8) (v := 10) dX11_fillReach_8 (by decide) ?_
      refine ok_icmp_ge (pc := 10) 86 dX11_fillReach_10 (by decide) (fun cc_10 => ?_) (fun cc_10 => ?_)
      · rw [ei] at cc_10
        exact absurd cc_10 (nI_ge (b := 10) (by omega) (by omega))
      · have ce_10 := Int32.not_le.mp cc_10
        refine ok_iconst (pc := 13) (v := 0) dX11_fillReach_13 (by decide) ?_
        refine ok_istore4 (pc := 14) dX11_fillReach_14 (by decide) rfl ?_
        exact lx_frA hI hae j ei (by omega) hc9 (fun M9 f9 l8 l9 hC9 hF9 hf9 hO9 => ih (j + 1) _ _ _ _ _ (by omega) (by rw [ei, nI_1]) hF9 hf9 hC9 hO9) (cK σ) 0 _ _ _ _ (by omega) rfl hF hf hC hO

set_option maxHeartbeats 1000000 in
theorem c_fillReach {Γ : Cx} {a e z sz : Nat} {σ κ vi : Rw} {va : Nat → Rw} {M : Nat → Option va_E} {K : Wd → Prop} (hC : ClsR Γ a e z σ κ vi va M) (hI : Inv σ) (hae : a + 92 ≤ e) {w xn : Int32} (n0 : Nat) (en : xn = nI n0) (hn : n0 ≤ 10) (hc9 : cT σ ≤ 9999) (k : ∀ M' f, ClsR Γ a e z σ κ vi va M' → M' (a + 83) = aI Γ 80 f → (∀ j, j < 8 * n0 → f j = rcF σ w j) → Off a 92 M M' → K (M', sz)) : Spec Γ mX11_fillReach 5 0 [.ref a, .int w, .int xn] (M, sz) (cv K) := by
  obtain ⟨f0, hF⟩ := id hC.2.2.2.2.2.2.2
  refine spec_in [some (.ref a), some (.int w), some (.int xn), none, none, none] 3 (by decide) rfl rfl ?_
  refine ok_iconst (pc := 0) (v := 0) dX11_fillReach_0 (by decide) ?_
  refine ok_istore_n3 (pc := 1) dX11_fillReach_1 (by decide) rfl ?_
  exact lx_fr hI hae n0 en hn hc9 k n0 0 _ _ _ f0 M (by omega) rfl hF (fun j9 h9 => absurd h9 (Nat.not_lt_zero _)) hC Off.rfl'
