set_option maxHeartbeats 1000000 in
theorem c_change {Γ : Cx} {p e z sz : Nat} {σ : Rw} {M : Nat → Option va_E} {K : Wd → Prop} (hP : PstR Γ p e z σ M) (hB : Bd σ) (hpe : p + 26 ≤ e) (eL : σ 3 = nI (cL σ)) (lL : cL σ ≤ 12) {x y v : Int32} (l w : Nat) (ex : x = nI l) (ey : y = nI w) (hl : l < cL σ) (hw : w < 7) (k : ∀ M', PstR Γ p e z (upd σ (99 + 7 * l + w) v) M' → Off p 26 M M' → K (M', sz)) : Spec Γ mX5_change 1 0 [.ref p, .int x, .int y, .int v] (M, sz) (cv K) := by
  refine spec_in [some (.ref p), some (.int x), some (.int y), some (.int v)] 0 (by decide) rfl rfl ?_
  refine ok_aload_n (pc := 0) dX5_change_0 rfl ?_
  refine ok_iload_n (pc := 1) dX5_change_1 rfl ?_
  refine ok_callVi1 (pc := 2) (d' := 0) dX5_change_2 vl_X5_224 hP.o rfl rfl rfl (by decide) ?_
  refine c_isLetter hP eL lL ?_
  refine ok_if_eq (pc := 5) 30 dX5_change_5 (by decide) (fun cc_5 => ?_) (fun cc_5 => ?_)
  · have h9 := bI_0.mp cc_5
    rw [wi_T eL (by omega) (by rw [ex]; exact nI_pos' (by omega)) (by rw [ex, eL]; exact nI_lt hl (by omega))] at h9
    cases h9
  · have cq_5 := bI_n0.mp cc_5
    refine ok_iload_n (pc := 8) dX5_change_8 rfl ?_
    refine ok_iconst (pc := 9) (v := 0) dX5_change_9 (by decide) ?_
    refine ok_bipush (pc := 10) (v := 6) dX5_change_10 (by decide) ?_
    refine ok_callSNi3 (pc := 12) (d' := 0) dX5_change_12 snl_X5_122 rfl (by decide) ?_
    refine c_within ?_
    refine ok_if_eq (pc := 15) 30 dX5_change_15 (by decide) (fun cc_15 => ?_) (fun cc_15 => ?_)
    · have h9 := bI_0.mp cc_15
      rw [ey, show wi (nI w) 0 6 = true from wi_nI (a := 0) (b := 6) (by omega) (by omega) (by decide)] at h9
      cases h9
    · have cq_15 := bI_n0.mp cc_15
      refine ok_aload_n (pc := 18) dX5_change_18 rfl ?_
      refine ok_getf (pc := 19) dX5_change_19 fl_X5_33 hP.o rfl ?_
      refine ok_iload_n (pc := 22) dX5_change_22 rfl ?_
      refine ok_bipush (pc := 23) (v := 7) dX5_change_23 (by decide) ?_
      refine ok_imul (pc := 25) dX5_change_25 ?_
      refine ok_iload_n (pc := 26) dX5_change_26 rfl ?_
      refine ok_iadd (pc := 27) dX5_change_27 ?_
      refine ok_iload_n (pc := 28) dX5_change_28 rfl ?_
      refine ok_wlt (pc := 29) (l * 7 + w) dX5_change_29 hP hB hpe (by rw [ex, ey]; simp only [fa_lit, pk_mul, nI_add]) (by omega) (fun M9 hP9 hO9 => ?_)
      rw [show 99 + (l * 7 + w) = 99 + 7 * l + w by omega] at hP9
      refine ok_vret (pc := 30) dX5_change_30 rfl ?_
      first
        | exact k _ hP9 hO9
        | exact absurd rfl cc_5

set_option maxHeartbeats 1000000 in
theorem c_changeWind {Γ : Cx} {p e z sz : Nat} {σ : Rw} {M : Nat → Option va_E} {K : Wd → Prop} (hP : PstR Γ p e z σ M) (hB : Bd σ) (hpe : p + 26 ≤ e) {x v : Int32} (h : Nat) (ex : x = nI h) (hh : h < 24) (k : ∀ M', PstR Γ p e z (upd σ (27 + h) v) M' → Off p 26 M M' → K (M', sz)) : Spec Γ mX5_changeWind 1 0 [.ref p, .int x, .int v] (M, sz) (cv K) := by
  refine spec_in [some (.ref p), some (.int x), some (.int v)] 0 (by decide) rfl rfl ?_
  refine ok_iload_n (pc := 0) dX5_changeWind_0 rfl ?_
  refine ok_iconst (pc := 1) (v := 0) dX5_changeWind_1 (by decide) ?_
  refine ok_bipush (pc := 2) (v := 23) dX5_changeWind_2 (by decide) ?_
  refine ok_callSNi3 (pc := 4) (d' := 0) dX5_changeWind_4 snl_X5_122 rfl (by decide) ?_
  refine c_within ?_
  refine ok_if_eq (pc := 7) 17 dX5_changeWind_7 (by decide) (fun cc_7 => ?_) (fun cc_7 => ?_)
  · have h9 := bI_0.mp cc_7
    rw [ex, show wi (nI h) 0 23 = true from wi_nI (a := 0) (b := 23) (by omega) (by omega) (by decide)] at h9
    cases h9
  · have cq_7 := bI_n0.mp cc_7
    refine ok_aload_n (pc := 10) dX5_changeWind_10 rfl ?_
    refine ok_getf (pc := 11) dX5_changeWind_11 fl_X5_21 hP.o rfl ?_
    refine ok_iload_n (pc := 14) dX5_changeWind_14 rfl ?_
    refine ok_iload_n (pc := 15) dX5_changeWind_15 rfl ?_
    refine ok_wwd (pc := 16) h dX5_changeWind_16 hP hB hpe ex hh (fun M9 hP9 hO9 => ?_)
    refine ok_vret (pc := 17) dX5_changeWind_17 rfl ?_
    exact k _ hP9 hO9

set_option maxHeartbeats 1000000 in
theorem c_changeAim {Γ : Cx} {p e z sz : Nat} {σ : Rw} {M : Nat → Option va_E} {K : Wd → Prop} (hP : PstR Γ p e z σ M) (hB : Bd σ) (hpe : p + 26 ≤ e) {x v : Int32} (h : Nat) (ex : x = nI h) (hh : h < 8) (k : ∀ M', PstR Γ p e z (upd σ (51 + 6 * h + 5) v) M' → Off p 26 M M' → K (M', sz)) : Spec Γ mX5_changeAim 1 0 [.ref p, .int x, .int v] (M, sz) (cv K) := by
  refine spec_in [some (.ref p), some (.int x), some (.int v)] 0 (by decide) rfl rfl ?_
  refine ok_iload_n (pc := 0) dX5_changeAim_0 rfl ?_
  refine ok_iconst (pc := 1) (v := 0) dX5_changeAim_1 (by decide) ?_
  refine ok_bipush (pc := 2) (v := 7) dX5_changeAim_2 (by decide) ?_
  refine ok_callSNi3 (pc := 4) (d' := 0) dX5_changeAim_4 snl_X5_122 rfl (by decide) ?_
  refine c_within ?_
  refine ok_if_eq (pc := 7) 17 dX5_changeAim_7 (by decide) (fun cc_7 => ?_) (fun cc_7 => ?_)
  · have h9 := bI_0.mp cc_7
    rw [ex, show wi (nI h) 0 7 = true from wi_nI (a := 0) (b := 7) (by omega) (by omega) (by decide)] at h9
    cases h9
  · have cq_7 := bI_n0.mp cc_7
    refine ok_aload_n (pc := 10) dX5_changeAim_10 rfl ?_
    refine ok_getf (pc := 11) dX5_changeAim_11 fl_X5_30 hP.o rfl ?_
    refine ok_iload_n (pc := 14) dX5_changeAim_14 rfl ?_
    refine ok_iload_n (pc := 15) dX5_changeAim_15 rfl ?_
    refine ok_wam (pc := 16) h dX5_changeAim_16 hP hB hpe ex hh (fun M9 hP9 hO9 => ?_)
    refine ok_vret (pc := 17) dX5_changeAim_17 rfl ?_
    exact k _ hP9 hO9

theorem pst_place {Γ : Cx} {p e z : Nat} {σ : Rw} {M : Nat → Option va_E} (hP : PstR Γ p e z σ M) (hB : Bd σ) (hpe : p + 26 ≤ e) {f g : Rw} (f1 : M (p + 1) = aI Γ 9 f) (f2 : ∀ j, j < 9 → f j = hx σ j) (g1 : M (p + 2) = aI Γ 9 g) (g2 : ∀ j, j < 9 → g j = hy σ j) (j : Nat) (hj : j < 9) (x : Int32) : PstR Γ p e z (upd σ (9 + 2 * j) x) (va_up (va_up M (p + 1) (aI Γ 9 (upd f j (x / 16)))) (p + 2) (aI Γ 9 (upd g j (jrem x 16)))) ∧ Off p 26 M (va_up (va_up M (p + 1) (aI Γ 9 (upd f j (x / 16)))) (p + 2) (aI Γ 9 (upd g j (jrem x 16)))) := by
  obtain ⟨b1, b2, b3, b4, b5, b6⟩ := id hB
  have hs : ∀ q, q ≠ 9 + 2 * j → upd σ (9 + 2 * j) x q = σ q := fun q h => upd_ne h
  have hw : ∀ q, q ≠ p + 2 → q ≠ p + 1 → va_up (va_up M (p + 1) (aI Γ 9 (upd f j (x / 16)))) (p + 2) (aI Γ 9 (upd g j (jrem x 16))) q = M q := fun q h1 h2 => by rw [up_ne h1, up_ne h2]
  refine ⟨?_, fun q hq => hw q (by omega) (by omega)⟩
  exact ⟨(hw _ (by omega) (by omega)).trans (hP.o.trans (by unfold pfs; rw [hs 0 (by omega), hs 1 (by omega), hs 2 (by omega), hs 3 (by omega), hs 5 (by omega), hs 8 (by omega)])), ⟨_, (up_ne (by omega)).trans up_eq, fun q hq => by
    by_cases h9 : q = j
    · subst h9; rw [upd_at]; unfold hx; rw [upd_at]
    · rw [upd_ne h9, f2 q hq]; unfold hx; rw [hs _ (by omega)]⟩, ⟨_, up_eq, fun q hq => by
    by_cases h9 : q = j
    · subst h9; rw [upd_at]; unfold hy; rw [upd_at]
    · rw [upd_ne h9, g2 q hq]; unfold hy; rw [hs _ (by omega)]⟩, hP.hz.tr (hw _ (by omega) (by omega)) (fun q hq => by unfold hz; rw [hs _ (by omega)]), hP.wd.tr (hw _ (by omega) (by omega)) (fun q hq => hs _ (by omega)), hP.kt.tr (hw _ (by omega) (by omega)) (fun q g1 g2 => hw q (by omega) (by omega)) (Nat.le_refl _) (by unfold cK; rw [hs 2 (by omega)]) hB.1 (fun k fl h1 h2 => by unfold kf; rw [hs _ (by omega)]), hP.am.tr (hw _ (by omega) (by omega)) (fun q hq => by unfold kf; rw [hs _ (by omega)]), hP.lt.tr (hw _ (by omega) (by omega)) (fun q hq => hs _ (by omega)), hP.ar.tr (hw _ (by omega) (by omega)) (hw _ (by omega) (by omega)) (hs 4 (by omega)) (fun q hq => hs _ (by omega)), hP.tp.tr (hw _ (by omega) (by omega)) (hw _ (by omega) (by omega)) (hs 6 (by omega)) (fun q hq => hs _ (by omega)), hP.wt.tr (hw _ (by omega) (by omega)) (hw _ (by omega) (by omega)) (hs 7 (by omega)) (fun q hq => hs _ (by omega)), hP.li.tr (fun q g1 g2 => hw q (by omega) (by omega)) (cd_same (fun q g1 g2 => hs q (by omega)) (by decide) b5), hP.pa.tr (fun q g1 g2 => hw q (by omega) (by omega)) (cd_same (fun q g1 g2 => hs q (by omega)) (by decide) b6)⟩
set_option maxHeartbeats 1000000 in
theorem c_changePlace {Γ : Cx} {p e z sz : Nat} {σ : Rw} {M : Nat → Option va_E} {K : Wd → Prop} (hP : PstR Γ p e z σ M) (hB : Bd σ) (hpe : p + 26 ≤ e) (eH : σ 1 = nI (cH σ)) (lH : cH σ ≤ 9) {x v : Int32} (j : Nat) (ex : x = nI j) (hj : j < cH σ) (k : ∀ M', PstR Γ p e z (upd σ (9 + 2 * j) v) M' → Off p 26 M M' → K (M', sz)) : Spec Γ mX5_changePlace 1 0 [.ref p, .int x, .int v] (M, sz) (cv K) := by
  obtain ⟨fx, fx1, fx2⟩ := id hP.xs
  obtain ⟨fy, fy1, fy2⟩ := id hP.ys
  refine spec_in [some (.ref p), some (.int x), some (.int v)] 0 (by decide) rfl rfl ?_
  refine ok_aload_n (pc := 0) dX5_changePlace_0 rfl ?_
  refine ok_iload_n (pc := 1) dX5_changePlace_1 rfl ?_
  refine ok_callVi1 (pc := 2) (d' := 0) dX5_changePlace_2 vl_X5_99 hP.o rfl rfl rfl (by decide) ?_
  refine c_isHill hP eH lH ?_
  refine ok_if_eq (pc := 5) 28 dX5_changePlace_5 (by decide) (fun cc_5 => ?_) (fun cc_5 => ?_)
  · have h9 := bI_0.mp cc_5
    rw [wi_T eH (by omega) (by rw [ex]; exact nI_pos' (by omega)) (by rw [ex, eH]; exact nI_lt hj (by omega))] at h9
    cases h9
  · have cq_5 := bI_n0.mp cc_5
    refine ok_aload_n (pc := 8) dX5_changePlace_8 rfl ?_
    refine ok_getf (pc := 9) dX5_changePlace_9 fl_X5_9 hP.o rfl ?_
    refine ok_iload_n (pc := 12) dX5_changePlace_12 rfl ?_
    refine ok_iload_n (pc := 13) dX5_changePlace_13 rfl ?_
    refine ok_bipush (pc := 14) (v := 16) dX5_changePlace_14 (by decide) ?_
    refine ok_idiv (pc := 16) dX5_changePlace_16 (by decide) ?_
    refine ok_iast (pc := 17) j dX5_changePlace_17 fx1 ex (by omega) (by decide) ?_
    have hPo := (up_ne (M := M) (a := p + 1) (b := p) (e := aI Γ 9 (upd fx j (v / 16))) (by omega)).trans hP.o
    have fy1b := (up_ne (M := M) (a := p + 1) (b := p + 2) (e := aI Γ 9 (upd fx j (v / 16))) (by omega)).trans fy1
    refine ok_aload_n (pc := 18) dX5_changePlace_18 rfl ?_
    refine ok_getf (pc := 19) dX5_changePlace_19 fl_X5_15 hPo rfl ?_
    refine ok_iload_n (pc := 22) dX5_changePlace_22 rfl ?_
    refine ok_iload_n (pc := 23) dX5_changePlace_23 rfl ?_
    refine ok_bipush (pc := 24) (v := 16) dX5_changePlace_24 (by decide) ?_
    refine ok_irem (pc := 26) dX5_changePlace_26 (by decide) ?_
    refine ok_iast (pc := 27) j dX5_changePlace_27 fy1b ex (by omega) (by decide) ?_
    refine ok_vret (pc := 28) dX5_changePlace_28 rfl ?_
    obtain ⟨h1, h2⟩ := pst_place hP hB hpe fx1 fx2 fy1 fy2 j (by omega) v
    exact k _ h1 h2

set_option maxHeartbeats 1000000 in
theorem c_addHill {Γ : Cx} {p e z sz : Nat} {σ : Rw} {M : Nat → Option va_E} {K : Int32 → Wd → Prop} (hP : PstR Γ p e z σ M) (hB : Bd σ) (hpe : p + 26 ≤ e) {x y : Int32} (n : Nat) (eH : σ 1 = nI n) (hn : n < 9) (k : ∀ M', PstR Γ p e z (risF σ n x y) M' → Off p 26 M M' → K (nI n) (M', sz)) : Spec Γ mX5_addHill 2 0 [.ref p, .int x, .int y] (M, sz) (ci K) := by
  have ecH : cH (upd (upd σ 1 (nI (n + 1))) (9 + 2 * n + 1) y) = n + 1 := by unfold cH; rw [upd_ne (by omega), upd_at]; exact nI_clamp (by omega)
  refine spec_in [some (.ref p), some (.int x), some (.int y), none] 1 (by decide) rfl rfl ?_
  refine ok_aload_n (pc := 0) dX5_addHill_0 rfl ?_
  refine ok_getf (pc := 1) dX5_addHill_1 fl_X5_77 hP.o rfl ?_
  refine ok_bipush (pc := 4) (v := 9) dX5_addHill_4 (by decide) ?_
  refine ok_icmp_lt (pc := 6) 11 dX5_addHill_6 (by decide) (fun cc_6 => ?_) (fun cc_6 => ?_)
  · have ce_6 := Int32.not_le.mpr cc_6
    refine ok_aload_n (pc := 11) dX5_addHill_11 rfl ?_
    refine ok_getf (pc := 12) dX5_addHill_12 fl_X5_77 hP.o rfl ?_
    rw [eH]
    refine ok_istore_n3 (pc := 15) dX5_addHill_15 (by decide) rfl ?_
    refine ok_aload_n (pc := 16) dX5_addHill_16 rfl ?_
    refine ok_dup (pc := 17) dX5_addHill_17 rfl ?_
    refine ok_getf (pc := 18) dX5_addHill_18 fl_X5_77 hP.o rfl ?_
    refine ok_iconst (pc := 21) (v := 1) dX5_addHill_21 (by decide) ?_
    refine ok_iadd (pc := 22) dX5_addHill_22 ?_
    rw [eH, nI_1]
    refine ok_wHC (pc := 23) dX5_addHill_23 pl_X5_77 hP hB hpe (fun M1 hP hO1 => ?_)
    have hB1 := hB.up (τ := upd σ 1 (nI (n + 1))) (fun j hj => upd_ne (by omega))
    refine ok_aload_n (pc := 26) dX5_addHill_26 rfl ?_
    refine ok_getf (pc := 27) dX5_addHill_27 fl_X5_18 hP.o rfl ?_
    refine ok_iload_n (pc := 30) dX5_addHill_30 rfl ?_
    refine ok_iload_n (pc := 31) dX5_addHill_31 rfl ?_
    refine ok_whz (pc := 32) n dX5_addHill_32 hP hB1 hpe rfl hn (fun M2 hP hO2 => ?_)
    have hB2 := hB1.up (τ := upd (upd σ 1 (nI (n + 1))) (9 + 2 * n + 1) y) (fun j hj => upd_ne (by omega))
    refine ok_aload_n (pc := 33) dX5_addHill_33 rfl ?_
    refine ok_iload_n (pc := 34) dX5_addHill_34 rfl ?_
    refine ok_iload_n (pc := 35) dX5_addHill_35 rfl ?_
    refine ok_callVv2 (pc := 36) (d' := 1) dX5_addHill_36 vl_X5_107 hP.o rfl rfl rfl (by decide) ?_
    refine c_changePlace hP hB2 hpe (by rw [ecH, upd_ne (by omega), upd_at]) (by rw [ecH]; omega) n rfl (by rw [ecH]; omega) (fun M3 hP hO3 => ?_)
    refine ok_iload_n (pc := 39) dX5_addHill_39 rfl ?_
    refine ok_iret (pc := 40) dX5_addHill_40 rfl ?_
    have eR : upd (upd (upd σ 1 (nI (n + 1))) (9 + 2 * n + 1) y) (9 + 2 * n) x = risF σ n x y := by
      unfold risF
      rw [eH, nI_1, fa_upd_swap σ (show 1 ≠ 9 + 2 * n + 1 by omega), fa_upd_swap _ (show 1 ≠ 9 + 2 * n by omega), fa_upd_swap σ (show 9 + 2 * n + 1 ≠ 9 + 2 * n by omega)]
    rw [eR] at hP
    exact k _ hP ((hO1.trans hO2).trans hO3)
  · rw [eH] at cc_6
    exact absurd (nI_lt (b := 9) hn (by decide)) cc_6

set_option maxHeartbeats 1000000 in
theorem c_addLetter {Γ : Cx} {p e z sz : Nat} {σ : Rw} {M : Nat → Option va_E} {K : Int32 → Wd → Prop} (hP : PstR Γ p e z σ M) (hB : Bd σ) (hpe : p + 26 ≤ e) {x y v w : Int32} (n : Nat) (eL : σ 3 = nI n) (hn : n < 12) (k : ∀ M', PstR Γ p e z (letF σ n x y v w) M' → Off p 26 M M' → K (nI n) (M', sz)) : Spec Γ mX5_addLetter 2 0 [.ref p, .int x, .int y, .int v, .int w] (M, sz) (ci K) := by
  have h3 : upd σ 3 (nI (n + 1)) 3 = nI (n + 1) := upd_at
  have hcL : ∀ τ : Rw, (∀ q, q = 3 → τ q = nI (n + 1)) → τ 3 = nI (cL τ) := fun τ h9 => by
    have e9 : cL τ = n + 1 := by unfold cL; rw [h9 3 rfl]; exact nI_clamp (by omega)
    rw [e9]; exact h9 3 rfl
  have hl12 : ∀ τ : Rw, (∀ q, q = 3 → τ q = nI (n + 1)) → cL τ ≤ 12 := fun τ h9 => by
    have e9 : cL τ = n + 1 := by unfold cL; rw [h9 3 rfl]; exact nI_clamp (by omega)
    omega
  have hln : ∀ τ : Rw, (∀ q, q = 3 → τ q = nI (n + 1)) → n < cL τ := fun τ h9 => by
    have e9 : cL τ = n + 1 := by unfold cL; rw [h9 3 rfl]; exact nI_clamp (by omega)
    omega
  refine spec_in [some (.ref p), some (.int x), some (.int y), some (.int v), some (.int w), none] 1 (by decide) rfl rfl ?_
  refine ok_aload_n (pc := 0) dX5_addLetter_0 rfl ?_
  refine ok_getf (pc := 1) dX5_addLetter_1 fl_X5_83 hP.o rfl ?_
  refine ok_bipush (pc := 4) (v := 12) dX5_addLetter_4 (by decide) ?_
  refine ok_icmp_lt (pc := 6) 11 dX5_addLetter_6 (by decide) (fun cc_6 => ?_) (fun cc_6 => ?_)
  · have ce_6 := Int32.not_le.mpr cc_6
    refine ok_aload_n (pc := 11) dX5_addLetter_11 rfl ?_
    refine ok_getf (pc := 12) dX5_addLetter_12 fl_X5_83 hP.o rfl ?_
    rw [eL]
    refine ok_istore5 (pc := 15) dX5_addLetter_15 (by decide) rfl ?_
    refine ok_aload_n (pc := 17) dX5_addLetter_17 rfl ?_
    refine ok_dup (pc := 18) dX5_addLetter_18 rfl ?_
    refine ok_getf (pc := 19) dX5_addLetter_19 fl_X5_83 hP.o rfl ?_
    refine ok_iconst (pc := 22) (v := 1) dX5_addLetter_22 (by decide) ?_
    refine ok_iadd (pc := 23) dX5_addLetter_23 ?_
    rw [eL, nI_1]
    refine ok_wLC (pc := 24) dX5_addLetter_24 pl_X5_83 hP hB hpe (fun M1 hP hO => ?_)
    refine ok_aload_n (pc := 27) dX5_addLetter_27 rfl ?_
    refine ok_iload (pc := 28) dX5_addLetter_28 rfl ?_
    refine ok_iconst (pc := 30) (v := 0) dX5_addLetter_30 (by decide) ?_
    refine ok_iload_n (pc := 31) dX5_addLetter_31 rfl ?_
    refine ok_callVv3 (pc := 32) (d' := 1) dX5_addLetter_32 vl_X5_227 hP.o rfl rfl rfl (by decide) ?_
    refine c_change hP (hB.up (fun j hj => by rw [upd_ne (show j ≠ 3 by omega)])) hpe (hcL _ (fun q hq => by subst hq; rw [upd_at])) (hl12 _ (fun q hq => by subst hq; rw [upd_at])) n 0 rfl rfl (hln _ (fun q hq => by subst hq; rw [upd_at])) (by decide) (fun M9 hP hO9 => ?_)
    have hO := hO.trans hO9
    refine ok_aload_n (pc := 35) dX5_addLetter_35 rfl ?_
    refine ok_iload (pc := 36) dX5_addLetter_36 rfl ?_
    refine ok_iconst (pc := 38) (v := 1) dX5_addLetter_38 (by decide) ?_
    refine ok_iload_n (pc := 39) dX5_addLetter_39 rfl ?_
    refine ok_callVv3 (pc := 40) (d' := 1) dX5_addLetter_40 vl_X5_227 hP.o rfl rfl rfl (by decide) ?_
    refine c_change hP (hB.up (fun j hj => by rw [upd_ne (show j ≠ 99 + 7 * n + 0 by omega), upd_ne (show j ≠ 3 by omega)])) hpe (hcL _ (fun q hq => by subst hq; rw [upd_ne (show 3 ≠ 99 + 7 * n + 0 by omega), upd_at])) (hl12 _ (fun q hq => by subst hq; rw [upd_ne (show 3 ≠ 99 + 7 * n + 0 by omega), upd_at])) n 1 rfl rfl (hln _ (fun q hq => by subst hq; rw [upd_ne (show 3 ≠ 99 + 7 * n + 0 by omega), upd_at])) (by decide) (fun M9 hP hO9 => ?_)
    have hO := hO.trans hO9
    refine ok_aload_n (pc := 43) dX5_addLetter_43 rfl ?_
    refine ok_iload (pc := 44) dX5_addLetter_44 rfl ?_
    refine ok_iconst (pc := 46) (v := 2) dX5_addLetter_46 (by decide) ?_
    refine ok_iload_n (pc := 47) dX5_addLetter_47 rfl ?_
    refine ok_callVv3 (pc := 48) (d' := 1) dX5_addLetter_48 vl_X5_227 hP.o rfl rfl rfl (by decide) ?_
    refine c_change hP (hB.up (fun j hj => by rw [upd_ne (show j ≠ 99 + 7 * n + 1 by omega), upd_ne (show j ≠ 99 + 7 * n + 0 by omega), upd_ne (show j ≠ 3 by omega)])) hpe (hcL _ (fun q hq => by subst hq; rw [upd_ne (show 3 ≠ 99 + 7 * n + 1 by omega), upd_ne (show 3 ≠ 99 + 7 * n + 0 by omega), upd_at])) (hl12 _ (fun q hq => by subst hq; rw [upd_ne (show 3 ≠ 99 + 7 * n + 1 by omega), upd_ne (show 3 ≠ 99 + 7 * n + 0 by omega), upd_at])) n 2 rfl rfl (hln _ (fun q hq => by subst hq; rw [upd_ne (show 3 ≠ 99 + 7 * n + 1 by omega), upd_ne (show 3 ≠ 99 + 7 * n + 0 by omega), upd_at])) (by decide) (fun M9 hP hO9 => ?_)
    have hO := hO.trans hO9
    refine ok_aload_n (pc := 51) dX5_addLetter_51 rfl ?_
    refine ok_iload (pc := 52) dX5_addLetter_52 rfl ?_
    refine ok_iconst (pc := 54) (v := 3) dX5_addLetter_54 (by decide) ?_
    refine ok_iload (pc := 55) dX5_addLetter_55 rfl ?_
    refine ok_callVv3 (pc := 57) (d' := 1) dX5_addLetter_57 vl_X5_227 hP.o rfl rfl rfl (by decide) ?_
    refine c_change hP (hB.up (fun j hj => by rw [upd_ne (show j ≠ 99 + 7 * n + 2 by omega), upd_ne (show j ≠ 99 + 7 * n + 1 by omega), upd_ne (show j ≠ 99 + 7 * n + 0 by omega), upd_ne (show j ≠ 3 by omega)])) hpe (hcL _ (fun q hq => by subst hq; rw [upd_ne (show 3 ≠ 99 + 7 * n + 2 by omega), upd_ne (show 3 ≠ 99 + 7 * n + 1 by omega), upd_ne (show 3 ≠ 99 + 7 * n + 0 by omega), upd_at])) (hl12 _ (fun q hq => by subst hq; rw [upd_ne (show 3 ≠ 99 + 7 * n + 2 by omega), upd_ne (show 3 ≠ 99 + 7 * n + 1 by omega), upd_ne (show 3 ≠ 99 + 7 * n + 0 by omega), upd_at])) n 3 rfl rfl (hln _ (fun q hq => by subst hq; rw [upd_ne (show 3 ≠ 99 + 7 * n + 2 by omega), upd_ne (show 3 ≠ 99 + 7 * n + 1 by omega), upd_ne (show 3 ≠ 99 + 7 * n + 0 by omega), upd_at])) (by decide) (fun M9 hP hO9 => ?_)
    have hO := hO.trans hO9
    refine ok_aload_n (pc := 60) dX5_addLetter_60 rfl ?_
    refine ok_iload (pc := 61) dX5_addLetter_61 rfl ?_
    refine ok_iconst (pc := 63) (v := 4) dX5_addLetter_63 (by decide) ?_
    refine ok_aload_n (pc := 64) dX5_addLetter_64 rfl ?_
    refine ok_getf (pc := 65) dX5_addLetter_65 fl_X5_93 hP.o rfl ?_
    rw [upd_ne (show 0 ≠ 99 + 7 * n + 3 by omega), upd_ne (show 0 ≠ 99 + 7 * n + 2 by omega), upd_ne (show 0 ≠ 99 + 7 * n + 1 by omega), upd_ne (show 0 ≠ 99 + 7 * n + 0 by omega), upd_ne (show 0 ≠ 3 by decide)]
    refine ok_callVv3 (pc := 68) (d' := 1) dX5_addLetter_68 vl_X5_227 hP.o rfl rfl rfl (by decide) ?_
    refine c_change hP (hB.up (fun j hj => by rw [upd_ne (show j ≠ 99 + 7 * n + 3 by omega), upd_ne (show j ≠ 99 + 7 * n + 2 by omega), upd_ne (show j ≠ 99 + 7 * n + 1 by omega), upd_ne (show j ≠ 99 + 7 * n + 0 by omega), upd_ne (show j ≠ 3 by omega)])) hpe (hcL _ (fun q hq => by subst hq; rw [upd_ne (show 3 ≠ 99 + 7 * n + 3 by omega), upd_ne (show 3 ≠ 99 + 7 * n + 2 by omega), upd_ne (show 3 ≠ 99 + 7 * n + 1 by omega), upd_ne (show 3 ≠ 99 + 7 * n + 0 by omega), upd_at])) (hl12 _ (fun q hq => by subst hq; rw [upd_ne (show 3 ≠ 99 + 7 * n + 3 by omega), upd_ne (show 3 ≠ 99 + 7 * n + 2 by omega), upd_ne (show 3 ≠ 99 + 7 * n + 1 by omega), upd_ne (show 3 ≠ 99 + 7 * n + 0 by omega), upd_at])) n 4 rfl rfl (hln _ (fun q hq => by subst hq; rw [upd_ne (show 3 ≠ 99 + 7 * n + 3 by omega), upd_ne (show 3 ≠ 99 + 7 * n + 2 by omega), upd_ne (show 3 ≠ 99 + 7 * n + 1 by omega), upd_ne (show 3 ≠ 99 + 7 * n + 0 by omega), upd_at])) (by decide) (fun M9 hP hO9 => ?_)
    have hO := hO.trans hO9
    refine ok_aload_n (pc := 71) dX5_addLetter_71 rfl ?_
    refine ok_iload (pc := 72) dX5_addLetter_72 rfl ?_
    refine ok_iconst (pc := 74) (v := 5) dX5_addLetter_74 (by decide) ?_
    refine ok_iload_n (pc := 75) dX5_addLetter_75 rfl ?_
    refine ok_callVv3 (pc := 76) (d' := 1) dX5_addLetter_76 vl_X5_227 hP.o rfl rfl rfl (by decide) ?_
    refine c_change hP (hB.up (fun j hj => by rw [upd_ne (show j ≠ 99 + 7 * n + 4 by omega), upd_ne (show j ≠ 99 + 7 * n + 3 by omega), upd_ne (show j ≠ 99 + 7 * n + 2 by omega), upd_ne (show j ≠ 99 + 7 * n + 1 by omega), upd_ne (show j ≠ 99 + 7 * n + 0 by omega), upd_ne (show j ≠ 3 by omega)])) hpe (hcL _ (fun q hq => by subst hq; rw [upd_ne (show 3 ≠ 99 + 7 * n + 4 by omega), upd_ne (show 3 ≠ 99 + 7 * n + 3 by omega), upd_ne (show 3 ≠ 99 + 7 * n + 2 by omega), upd_ne (show 3 ≠ 99 + 7 * n + 1 by omega), upd_ne (show 3 ≠ 99 + 7 * n + 0 by omega), upd_at])) (hl12 _ (fun q hq => by subst hq; rw [upd_ne (show 3 ≠ 99 + 7 * n + 4 by omega), upd_ne (show 3 ≠ 99 + 7 * n + 3 by omega), upd_ne (show 3 ≠ 99 + 7 * n + 2 by omega), upd_ne (show 3 ≠ 99 + 7 * n + 1 by omega), upd_ne (show 3 ≠ 99 + 7 * n + 0 by omega), upd_at])) n 5 rfl rfl (hln _ (fun q hq => by subst hq; rw [upd_ne (show 3 ≠ 99 + 7 * n + 4 by omega), upd_ne (show 3 ≠ 99 + 7 * n + 3 by omega), upd_ne (show 3 ≠ 99 + 7 * n + 2 by omega), upd_ne (show 3 ≠ 99 + 7 * n + 1 by omega), upd_ne (show 3 ≠ 99 + 7 * n + 0 by omega), upd_at])) (by decide) (fun M9 hP hO9 => ?_)
    have hO := hO.trans hO9
    refine ok_aload_n (pc := 79) dX5_addLetter_79 rfl ?_
    refine ok_iload (pc := 80) dX5_addLetter_80 rfl ?_
    refine ok_bipush (pc := 82) (v := 6) dX5_addLetter_82 (by decide) ?_
    refine ok_iconst (pc := 84) (v := -1) dX5_addLetter_84 (by decide) ?_
    refine ok_callVv3 (pc := 85) (d' := 1) dX5_addLetter_85 vl_X5_227 hP.o rfl rfl rfl (by decide) ?_
    refine c_change hP (hB.up (fun j hj => by rw [upd_ne (show j ≠ 99 + 7 * n + 5 by omega), upd_ne (show j ≠ 99 + 7 * n + 4 by omega), upd_ne (show j ≠ 99 + 7 * n + 3 by omega), upd_ne (show j ≠ 99 + 7 * n + 2 by omega), upd_ne (show j ≠ 99 + 7 * n + 1 by omega), upd_ne (show j ≠ 99 + 7 * n + 0 by omega), upd_ne (show j ≠ 3 by omega)])) hpe (hcL _ (fun q hq => by subst hq; rw [upd_ne (show 3 ≠ 99 + 7 * n + 5 by omega), upd_ne (show 3 ≠ 99 + 7 * n + 4 by omega), upd_ne (show 3 ≠ 99 + 7 * n + 3 by omega), upd_ne (show 3 ≠ 99 + 7 * n + 2 by omega), upd_ne (show 3 ≠ 99 + 7 * n + 1 by omega), upd_ne (show 3 ≠ 99 + 7 * n + 0 by omega), upd_at])) (hl12 _ (fun q hq => by subst hq; rw [upd_ne (show 3 ≠ 99 + 7 * n + 5 by omega), upd_ne (show 3 ≠ 99 + 7 * n + 4 by omega), upd_ne (show 3 ≠ 99 + 7 * n + 3 by omega), upd_ne (show 3 ≠ 99 + 7 * n + 2 by omega), upd_ne (show 3 ≠ 99 + 7 * n + 1 by omega), upd_ne (show 3 ≠ 99 + 7 * n + 0 by omega), upd_at])) n 6 rfl rfl (hln _ (fun q hq => by subst hq; rw [upd_ne (show 3 ≠ 99 + 7 * n + 5 by omega), upd_ne (show 3 ≠ 99 + 7 * n + 4 by omega), upd_ne (show 3 ≠ 99 + 7 * n + 3 by omega), upd_ne (show 3 ≠ 99 + 7 * n + 2 by omega), upd_ne (show 3 ≠ 99 + 7 * n + 1 by omega), upd_ne (show 3 ≠ 99 + 7 * n + 0 by omega), upd_at])) (by decide) (fun M9 hP hO9 => ?_)
    have hO := hO.trans hO9
    refine ok_iload (pc := 88) dX5_addLetter_88 rfl ?_
    refine ok_iret (pc := 90) dX5_addLetter_90 rfl ?_
    have eR : upd (upd (upd (upd (upd (upd (upd (upd σ 3 (nI (n + 1))) (99 + 7 * n + 0) x) (99 + 7 * n + 1) y) (99 + 7 * n + 2) v) (99 + 7 * n + 3) w) (99 + 7 * n + 4) (σ 0)) (99 + 7 * n + 5) x) (99 + 7 * n + 6) (-1) = letF σ n x y v w := by
      unfold letF
      rw [eL, nI_1, fa_upd_swap σ (show 3 ≠ 99 + 7 * n + 0 by omega), fa_upd_swap _ (show 3 ≠ 99 + 7 * n + 1 by omega), fa_upd_swap _ (show 3 ≠ 99 + 7 * n + 2 by omega), fa_upd_swap _ (show 3 ≠ 99 + 7 * n + 3 by omega), fa_upd_swap _ (show 3 ≠ 99 + 7 * n + 4 by omega), fa_upd_swap _ (show 3 ≠ 99 + 7 * n + 5 by omega), fa_upd_swap _ (show 3 ≠ 99 + 7 * n + 6 by omega), Nat.add_zero]
    rw [eR] at hP
    exact k _ hP hO
  · rw [eL] at cc_6
    exact absurd (nI_lt (b := 12) hn (by decide)) cc_6

set_option maxHeartbeats 1000000 in
theorem c_nextDraw {Γ : Cx} {p e z sz : Nat} {σ : Rw} {M : Nat → Option va_E} {K : Int32 → Wd → Prop} (hP : PstR Γ p e z σ M) (hB : Bd σ) (hpe : p + 26 ≤ e) (k : ∀ M', PstR Γ p e z (upd σ 8 (drw (σ 8))) M' → Off p 26 M M' → K (jushr (drw (σ 8)) 8) (M', sz)) : Spec Γ mX5_nextDraw 0 0 [.ref p] (M, sz) (ci K) := by
  refine spec_in [some (.ref p)] 0 (by decide) rfl rfl ?_
  refine ok_aload_n (pc := 0) dX5_nextDraw_0 rfl ?_
  refine ok_aload_n (pc := 1) dX5_nextDraw_1 rfl ?_
  refine ok_getf (pc := 2) dX5_nextDraw_2 fl_X5_61 hP.o rfl ?_
  refine ok_ldc (pc := 5) (v := 1103515245) dX5_nextDraw_5 tw_864 ?_
  refine ok_imul (pc := 7) dX5_nextDraw_7 ?_
  refine ok_sipush (pc := 8) (v := 12345) dX5_nextDraw_8 (by decide) ?_
  refine ok_iadd (pc := 11) dX5_nextDraw_11 ?_
  refine ok_wdr (pc := 12) dX5_nextDraw_12 pl_X5_61 hP hB hpe (fun M1 hP hO => ?_)
  refine ok_aload_n (pc := 15) dX5_nextDraw_15 rfl ?_
  refine ok_getf (pc := 16) dX5_nextDraw_16 fl_X5_61 hP.o rfl ?_
  rw [upd_at]
  refine ok_bipush (pc := 19) (v := 8) dX5_nextDraw_19 (by decide) ?_
  refine ok_iushr (pc := 21) dX5_nextDraw_21 ?_
  refine ok_iret (pc := 22) dX5_nextDraw_22 rfl ?_
  exact k _ hP hO
