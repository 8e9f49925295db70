theorem pst_flyB {Γ : Cx} {p e z sz : Nat} {σ : Rw} {M M1 M2 : Nat → Option va_E} {a b c d9 e9 : Int32} (hP : PstR Γ p e z σ M) (hB : Bd σ) (eK : σ 2 = nI (cK σ)) (hpe : p + 26 ≤ e) (hez : e ≤ z) (hzs : z ≤ sz) (h8 : cK σ < 8) (hV : Hv sz M M1 [.inr (kcl a, [.int (nI (cK σ)), .int a, .int b, .int c, .int d9, .int e9])]) {kr : Nat → Option Nat} {fa : Rw} (k1 : M (p + 5) = aR Γ 8 kr) (f1 : M (p + 6) = aI Γ 8 fa)
    (o0 : M2 p = some (.inr (5, (pfs p σ).set 7 (.int (nI (cK σ + 1)))))) (o5 : M2 (p + 5) = aR Γ 8 (va_up kr (cK σ) (some sz))) (o6 : M2 (p + 6) = aI Γ 8 (upd fa (cK σ) (-1))) (ho : ∀ q, q ≠ p → q ≠ p + 5 → q ≠ p + 6 → M2 q = M1 q) : PstR Γ p e (sz + 1) (flyF σ (cK σ) a b c d9 e9) M2 := by
  obtain ⟨lK, hA, l6, l7, hT0, hT1⟩ := id hB
  have hm : ∀ q, q < sz → M1 q = M q := hV.2.1
  have hw : ∀ q, p < q → q < p + 26 → q ≠ p + 5 → q ≠ p + 6 → M2 q = M q := fun q g1 g2 g3 g4 => (ho q (by omega) g3 g4).trans (hm q (by omega))
  have hs : ∀ j, j ≠ 2 → (j < 51 ∨ 99 ≤ j) → flyF σ (cK σ) a b c d9 e9 j = σ j := fun j g1 g2 => fly_ne (by omega) g1
  have e2 : flyF σ (cK σ) a b c d9 e9 2 = nI (cK σ + 1) := fly_2.trans (by rw [eK]; exact nI_1 _)
  have ec : cK (flyF σ (cK σ) a b c d9 e9) = cK σ + 1 := by show iN (flyF σ (cK σ) a b c d9 e9 2) = _; rw [e2]; exact nI_clamp (by omega)
  obtain ⟨y0, y1, y2, y3, y4, y5⟩ := fly_k (σ := σ) (n := cK σ) (a := a) (b := b) (c := c) (d9 := d9) (e9 := e9)
  refine ⟨o0.trans ?_, hP.xs.tr (hw _ (by omega) (by omega) (by omega) (by omega)) (fun j hj => by unfold hx; rw [hs _ (by omega) (by omega)]), hP.ys.tr (hw _ (by omega) (by omega) (by omega) (by omega)) (fun j hj => by unfold hy; rw [hs _ (by omega) (by omega)]), hP.hz.tr (hw _ (by omega) (by omega) (by omega) (by omega)) (fun j hj => by unfold hz; exact hs _ (by omega) (by omega)), hP.wd.tr (hw _ (by omega) (by omega) (by omega) (by omega)) (fun j hj => hs _ (by omega) (by omega)), ?_, ?_, hP.lt.tr (hw _ (by omega) (by omega) (by omega) (by omega)) (fun j hj => hs _ (by omega) (by omega)),
    hP.ar.tr (hw _ (by omega) (by omega) (by omega) (by omega)) (hw _ (by omega) (by omega) (by omega) (by omega)) (hs 4 (by omega) (by omega)) (fun j hj => hs _ (by omega) (by omega)), hP.tp.tr (hw _ (by omega) (by omega) (by omega) (by omega)) (hw _ (by omega) (by omega) (by omega) (by omega)) (hs 6 (by omega) (by omega)) (fun j hj => hs _ (by omega) (by omega)), hP.wt.tr (hw _ (by omega) (by omega) (by omega) (by omega)) (hw _ (by omega) (by omega) (by omega) (by omega)) (hs 7 (by omega) (by omega)) (fun j hj => hs _ (by omega) (by omega)),
    hP.li.tr (fun q g1 g2 => hw q (by omega) (by omega) (by omega) (by omega)) (cd_same (fun j g1 g2 => hs j (by omega) (by omega)) (by decide) hT0), hP.pa.tr (fun q g1 g2 => hw q (by omega) (by omega) (by omega) (by omega)) (cd_same (fun j g1 g2 => hs j (by omega) (by omega)) (by decide) hT1)⟩
  · unfold pfs
    rw [e2, hs 0 (by omega) (by omega), hs 1 (by omega) (by omega), hs 3 (by omega) (by omega), hs 5 (by omega) (by omega), hs 8 (by omega) (by omega)]
    rfl
  · obtain ⟨kr1, s1, s2, s3⟩ := id hP.kt
    have ekr : kr1 = kr := by
      rw [k1] at s1
      simp only [Option.some.injEq, Sum.inl.injEq, Sum.inr.injEq, Prod.mk.injEq, true_and] at s1
      exact s1.symm
    subst ekr
    refine ⟨_, o5, fun k9 h9 => ?_, fun k9 h9 => ?_⟩
    · rw [ec] at h9
      rcases Nat.lt_or_ge k9 (cK σ) with g | g
      · obtain ⟨q, w1, ⟨w2, w3⟩, w4⟩ := s2 k9 g
        refine ⟨q, (by unfold va_up; rw [if_neg (by omega)]; exact w1), ⟨w2, by omega⟩, ?_⟩
        rw [ho q (by omega) (by omega) (by omega), hm q (by omega), w4]
        unfold kfs
        rw [fly_ko (by omega) (by decide), fly_ko (by omega) (by decide), fly_ko (by omega) (by decide), fly_ko (by omega) (by decide), fly_ko (by omega) (by decide)]
      · have e9 : k9 = cK σ := by omega
        rw [e9]
        refine ⟨sz, (by unfold va_up; rw [if_pos rfl]), ⟨by omega, by omega⟩, ?_⟩
        have e8 := hV.1 0 _ rfl
        rw [Nat.add_zero] at e8
        rw [ho sz (by omega) (by omega) (by omega), e8]
        unfold kfs
        rw [y0, y1, y2, y3, y4]
    · rw [ec] at h9
      unfold va_up
      rw [if_neg (by omega)]
      exact s3 k9 (by omega)
  · obtain ⟨f2, g1, g2⟩ := id hP.am
    have ef : f2 = fa := by
      rw [f1] at g1
      simp only [Option.some.injEq, Sum.inl.injEq, Prod.mk.injEq, true_and] at g1
      exact g1.symm
    subst ef
    refine ⟨_, o6, fun j hj => ?_⟩
    show upd f2 (cK σ) (-1) j = kf (flyF σ (cK σ) a b c d9 e9) j 5
    by_cases h : j = cK σ
    · rw [h, y5]; exact upd_at
    · rw [upd_ne h, fly_ko h (by decide)]; exact g2 j hj

set_option maxHeartbeats 1000000 in
theorem c_addKiteB {Γ : Cx} {p e z sz : Nat} {σ : Rw} {M : Nat → Option va_E} {K : Int32 → Wd → Prop} (hP : PstR Γ p e z σ M) (hB : Bd σ) (eK : σ 2 = nI (cK σ)) (hpe : p + 26 ≤ e) (hez : e ≤ z) (hzs : z ≤ sz) (h8 : cK σ < 8) {kd hm9 sl : Int32} (hkd : 0 ≤ kd / 10 ∧ kd / 10 ≤ 6) (k : ∀ M', PstR Γ p e (sz + 1) (flyF σ (cK σ) (kd / 10) (jrem kd 10) hm9 (sl / 100) (jrem sl 100)) M' → (∀ q, (q < p ∨ p + 26 ≤ q) → q < sz → M' q = M q) → K (nI (cK σ)) (M', sz + 1)) : Spec Γ mX5_addKite 5 1 [.ref p, .int kd, .int hm9, .int sl] (M, sz) (ci K) := by
  obtain ⟨lK, hA, l6, l7, hT0, hT1⟩ := id hB
  have ho := hP.o
  obtain ⟨kr, k1, -⟩ := id hP.kt
  obtain ⟨fa, f1, f2⟩ := id hP.am
  obtain ⟨r9, hr1, hr2⟩ := kcl_kite hkd
  have hpz : p < sz := by omega
  
  refine spec_in [some (.ref p), some (.int kd), some (.int hm9), some (.int sl)] 0 (by decide) rfl rfl ?_
  refine ok_aload_n (pc := 0) dX5_addKite_0 rfl ?_
  refine ok_getf (pc := 1) dX5_addKite_1 fl_X5_80 ho rfl ?_
  refine ok_bipush (pc := 4) (v := 8) dX5_addKite_4 (by decide) ?_
  refine ok_icmp_lt (pc := 6) 11 dX5_addKite_6 (by decide) (fun cc_6 => ?_) (fun cc_6 => ?_)
  · have ce_6 := Int32.not_le.mpr cc_6
    refine ok_aload_n (pc := 11) dX5_addKite_11 rfl ?_
    refine ok_getf (pc := 12) dX5_addKite_12 fl_X5_26 ho rfl ?_
    refine ok_aload_n (pc := 15) dX5_addKite_15 rfl ?_
    refine ok_getf (pc := 16) dX5_addKite_16 fl_X5_80 ho rfl ?_
    refine ok_aload_n (pc := 19) dX5_addKite_19 rfl ?_
    refine ok_getf (pc := 20) dX5_addKite_20 fl_X5_80 ho rfl ?_
    refine ok_iload_n (pc := 23) dX5_addKite_23 rfl ?_
    refine ok_iload_n (pc := 24) dX5_addKite_24 rfl ?_
    refine ok_iload_n (pc := 25) dX5_addKite_25 rfl ?_
    refine ok_callSr4B (pc := 26) (d' := 4) (b' := 1) (b'' := 0) dX5_addKite_26 sl_X5_126 rfl (by decide) (by decide) ?_
    refine c_made (fun M1 hV => ?_)
    rw [eK] at hV
    have hlo : ∀ q, q < sz → M1 q = M q := hV.2.1
    have m5 : M1 (p + 5) = aR Γ 8 kr := (hlo _ (by omega)).trans k1
    refine ok_aast (pc := 29) (v := sz) (t := 1) (cidx := kcl (kd / 10)) (cK σ) dX5_addKite_29 m5 rfl (hV.1 0 _ rfl) hr1 hr2 eK h8 (by decide) ?_
    have ho : (va_up M1 (p + 5) (aR Γ 8 (va_up kr (cK σ) (some sz)))) p = some (.inr (5, pfs p σ)) := (up_ne (by omega)).trans ((hlo _ (by omega)).trans hP.o)
    have hm6 : (va_up M1 (p + 5) (aR Γ 8 (va_up kr (cK σ) (some sz)))) (p + 6) = aI Γ 8 fa := (up_ne (by omega)).trans ((hlo _ (by omega)).trans f1)
    refine ok_aload_n (pc := 30) dX5_addKite_30 rfl ?_
    refine ok_getf (pc := 31) dX5_addKite_31 fl_X5_30 ho rfl ?_
    refine ok_aload_n (pc := 34) dX5_addKite_34 rfl ?_
    refine ok_getf (pc := 35) dX5_addKite_35 fl_X5_80 ho rfl ?_
    refine ok_iconst (pc := 38) (v := -1) dX5_addKite_38 (by decide) ?_
    refine ok_iast (pc := 39) (cK σ) dX5_addKite_39 hm6 eK h8 (by decide) ?_
    have ho : (va_up (va_up M1 (p + 5) (aR Γ 8 (va_up kr (cK σ) (some sz)))) (p + 6) (aI Γ 8 (upd fa (cK σ) (-1)))) p = some (.inr (5, pfs p σ)) := (up_ne (by omega)).trans ho
    refine ok_aload_n (pc := 40) dX5_addKite_40 rfl ?_
    refine ok_dup (pc := 41) dX5_addKite_41 rfl ?_
    refine ok_getf (pc := 42) dX5_addKite_42 fl_X5_80 ho rfl ?_
    refine ok_iconst (pc := 45) (v := 1) dX5_addKite_45 (by decide) ?_
    refine ok_iadd (pc := 46) dX5_addKite_46 ?_
    have e21 : σ 2 + 1 = nI (cK σ + 1) := (congrArg (· + 1) eK).trans (nI_1 _)
    rw [e21]
    refine ok_putf (pc := 47) dX5_addKite_47 pl_X5_80 ho rfl rfl (by show 7 < 18; decide) ?_
    have hfin := pst_flyB (M2 := (va_up (va_up (va_up M1 (p + 5) (aR Γ 8 (va_up kr (cK σ) (some sz)))) (p + 6) (aI Γ 8 (upd fa (cK σ) (-1)))) p (some (.inr (5, (pfs p σ).set 7 (.int (nI (cK σ + 1)))))))) hP hB eK hpe hez hzs h8 hV k1 f1 up_eq ((up_ne (by omega)).trans ((up_ne (by omega)).trans up_eq)) ((up_ne (by omega)).trans up_eq) (fun q g1 g2 g3 => (up_ne g1).trans ((up_ne g3).trans (up_ne g2)))
    have hoff : ∀ q, (q < p ∨ p + 26 ≤ q) → q < sz → (va_up (va_up (va_up M1 (p + 5) (aR Γ 8 (va_up kr (cK σ) (some sz)))) (p + 6) (aI Γ 8 (upd fa (cK σ) (-1)))) p (some (.inr (5, (pfs p σ).set 7 (.int (nI (cK σ + 1))))))) q = M q := fun q g1 g2 => (up_ne (by omega)).trans ((up_ne (by omega)).trans ((up_ne (by omega)).trans (hlo q g2)))
    have ho : (va_up (va_up (va_up M1 (p + 5) (aR Γ 8 (va_up kr (cK σ) (some sz)))) (p + 6) (aI Γ 8 (upd fa (cK σ) (-1)))) p (some (.inr (5, (pfs p σ).set 7 (.int (nI (cK σ + 1))))))) p = (some (.inr (5, (pfs p σ).set 7 (.int (nI (cK σ + 1)))))) := up_eq
    refine ok_aload_n (pc := 50) dX5_addKite_50 rfl ?_
    refine ok_getf (pc := 51) dX5_addKite_51 fl_X5_80 ho rfl ?_
    refine ok_iconst (pc := 54) (v := 1) dX5_addKite_54 (by decide) ?_
    refine ok_isub (pc := 55) dX5_addKite_55 ?_
    refine ok_iret (pc := 56) dX5_addKite_56 rfl ?_
    have er : nI (cK σ + 1) - 1 = nI (cK σ) := (pk_sub (b := 1) (by omega)).trans (by rw [Nat.add_sub_cancel])
    rw [er]
    exact k _ hfin hoff
  · exact absurd (by rw [eK, fa_lit 8]; exact nI_lt h8 (by decide)) cc_6

theorem Bd_same {σ τ : Rw} (h : Bd σ) (hk : cK τ ≤ 8) (hs : ∀ j, j = 4 ∨ j = 6 ∨ j = 7 ∨ 265 ≤ j → τ j = σ j) : Bd τ := by
  obtain ⟨a1, a2, a3, a4, a5, a6⟩ := h
  refine ⟨hk, ?_, ?_, ?_, TxOk_same (fun j hj => hs j (by omega)) a5, TxOk_same (fun j hj => hs j (by omega)) a6⟩
  · rw [hs 4 (by omega)]; exact a2
  · rw [hs 6 (by omega)]; exact a3
  · rw [hs 7 (by omega)]; exact a4
/-- the object without what is ahead -/
def ClsA (Γ : Cx) (a e z : Nat) (σ κ vi : Rw) (va : Nat → Rw) (M : Nat → Option va_E) : Prop :=
  M a = some (.inr (11, xfs a (vi 3))) ∧ PstR Γ (a + 1) e z σ M ∧ (∃ τ, Inv τ ∧ PstR Γ (a + 53) e z τ M ∧ (vi 3 ≠ 0 → ∀ j, j < 369 → κ j = τ j)) ∧
  rwR Γ M (a + 79) 40 (vi 19) (va 18) ∧ ShR Γ a va M ∧ rowE Γ M (a + 82) 6 (va 4) ∧ ∃ f, M (a + 83) = aI Γ 80 f
theorem ClsR.toA {Γ : Cx} {a e z : Nat} {σ κ vi : Rw} {va : Nat → Rw} {M : Nat → Option va_E} (hC : ClsR Γ a e z σ κ vi va M) : ClsA Γ a e z σ κ vi va M := by
  obtain ⟨c0, c1, c2, c3, c4, c5, c6, c7⟩ := hC
  exact ⟨c0, c1, c3, c4, c5, c6, c7⟩
theorem ClsA.toR {Γ : Cx} {a e z : Nat} {σ κ vi : Rw} {va : Nat → Rw} {M : Nat → Option va_E} {τ : Rw} (hC : ClsA Γ a e z σ κ vi va M) (hT : Inv τ) (hP : PstR Γ (a + 27) e z τ M) : ClsR Γ a e z σ κ vi va M := by
  obtain ⟨c0, c1, c3, c4, c5, c6, c7⟩ := hC
  exact ⟨c0, c1, ⟨τ, hT, hP⟩, c3, c4, c5, c6, c7⟩
theorem ClsA.mv {Γ : Cx} {a e z : Nat} {σ κ vi : Rw} {va : Nat → Rw} {M M' : Nat → Option va_E} {z' sz : Nat} (hC : ClsA Γ a e z σ κ vi va M) (hI : Inv σ) (hae : a + 92 ≤ e) (hes : e ≤ sz) (hzs : z ≤ sz) (hz : z ≤ z') (hw : ∀ q, (q < a + 27 ∨ a + 53 ≤ q) → q < sz → M' q = M q) : ClsA Γ a e z' σ κ vi va M' := by
  obtain ⟨c0, c1, c3, c4, c5, c6, c7⟩ := hC
  exact ⟨(hw _ (by omega) (by omega)).trans c0, c1.same hI.1.2.1.2 (fun q g1 g2 => hw q (by omega) (by omega)) (fun q g1 g2 => hw q (by omega) (by omega)) hz, (by obtain ⟨τ, i, h, g⟩ := c3; exact ⟨τ, i, h.same i.1.2.1.2 (fun q g1 g2 => hw q (by omega) (by omega)) (fun q g1 g2 => hw q (by omega) (by omega)) hz, g⟩), c4.tr (hw _ (by omega) (by omega)) (hw _ (by omega) (by omega)) rfl (fun _ _ => rfl), c5.tr (fun _ _ => rfl) (fun q g1 g2 g3 => hw q (by omega) (by omega)), c6.tr (hw _ (by omega) (by omega)) (fun _ _ => rfl), (by obtain ⟨f, h⟩ := c7; exact ⟨f, (hw _ (by omega) (by omega)).trans h⟩)⟩
/-! ways with a limit -/
theorem so_s (σ : Rw) (f t : Nat) (w : Int32) (n i : Nat) : soA σ f t w (n + 1) i = if (srS σ f w (i + 1)).testBit t then nI (i + 1) else soA σ f t w n (i + 1) := rfl
theorem so_val {σ : Rw} {f t : Nat} {w : Int32} : ∀ n i, soA σ f t w n i = -1 ∨ ∃ k, soA σ f t w n i = nI k ∧ i < k ∧ k ≤ i + n
  | 0, _ => Or.inl rfl
  | n + 1, i => by
    rw [so_s]
    split
    · exact Or.inr ⟨i + 1, rfl, by omega, by omega⟩
    · rcases so_val (σ := σ) (f := f) (t := t) (w := w) n (i + 1) with h | ⟨k, h1, h2, h3⟩
      · exact Or.inl h
      · exact Or.inr ⟨k, h1, by omega, by omega⟩
theorem m1_nI {k : Nat} (h : k < 2 ^ 31) : ¬ nI k = -1 := fun h9 => absurd (h9 ▸ nI_pos' h) (by decide)
theorem so_app {σ : Rw} {f t : Nat} {w : Int32} (m : Nat) : ∀ n i, i + n < 2 ^ 30 → soA σ f t w (n + m) i = if soA σ f t w n i = -1 then soA σ f t w m (i + n) else soA σ f t w n i
  | 0, i, _ => by rw [if_pos (show soA σ f t w 0 i = -1 from rfl), Nat.zero_add, Nat.add_zero]
  | n + 1, i, h => by
    rw [show n + 1 + m = (n + m) + 1 by omega, so_s, so_s]
    split
    · rw [if_neg (m1_nI (by omega))]
    · rw [so_app m n (i + 1) (by omega), show i + 1 + n = i + (n + 1) by omega]
/-! the row of a post with a new hill and its kite -/
theorem up_cong {f g : Rw} {i j : Nat} {x : Int32} (h : f j = g j) : upd f i x j = upd g i x j := by
  by_cases c : j = i
  · rw [c, upd_at, upd_at]
  · rw [upd_ne c, upd_ne c, h]
theorem ris_ne {σ : Rw} {n : Nat} {x y : Int32} {j : Nat} (h1 : j ≠ 9 + 2 * n) (h2 : j ≠ 9 + 2 * n + 1) (h3 : j ≠ 1) : risF σ n x y j = σ j := by
  unfold risF
  rw [upd_ne h3, upd_ne h2, upd_ne h1]
theorem fr_pl {σ : Rw} (hH : cH σ < 9) (u v : Int32) : upd (frW σ u) (9 + 2 * cH σ) v = frW σ v := by
  funext j
  have q2 : ∀ x, risF σ (cH σ) x 0 2 = σ 2 := fun x => ris_ne (by omega) (by omega) (by decide)
  by_cases c : j = 9 + 2 * cH σ
  · rw [c, upd_at]
    unfold frW
    rw [fly_ne (by omega) (by omega)]
    unfold risF
    rw [upd_ne (by omega), upd_ne (by omega), upd_at]
  · rw [upd_ne c]
    unfold frW flyF
    rw [q2, q2]
    refine up_cong (up_cong (up_cong (up_cong (up_cong (up_cong (up_cong ?_))))))
    unfold risF
    exact up_cong (up_cong ((upd_ne c).trans (upd_ne c).symm))
theorem fr_1 {σ : Rw} (eH : σ 1 = nI (cH σ)) (hH : cH σ < 9) (u : Int32) : frW σ u 1 = nI (cH σ + 1) ∧ cH (frW σ u) = cH σ + 1 := by
  have e1 : frW σ u 1 = nI (cH σ + 1) := by
    unfold frW
    rw [fly_ne (by omega) (by decide)]
    exact upd_at.trans ((congrArg (· + 1) eH).trans (nI_1 _))
  exact ⟨e1, by show iN (frW σ u 1) = _; rw [e1]; exact nI_clamp (by omega)⟩
theorem fr_bd {σ : Rw} (hI : Inv σ) (hH : cH σ < 9) (hK : cK σ < 8) (u : Int32) : Bd (frW σ u) := by
  have e2 : frW σ u 2 = nI (cK σ + 1) := by
    unfold frW
    rw [fly_2, ris_ne (by omega) (by omega) (by decide), hI.1.2.1.1]
    exact nI_1 _
  refine Bd_same hI.bd (by show iN (frW σ u 2) ≤ 8; rw [e2, show iN (nI (cK σ + 1)) = cK σ + 1 from nI_clamp (by omega)]; omega) (fun j hj => ?_)
  unfold frW
  rw [fly_ne (by omega) (by omega), ris_ne (by omega) (by omega) (by omega)]
theorem ris_bd {σ : Rw} (hI : Inv σ) (hH : cH σ < 9) (u y : Int32) : Bd (risF σ (cH σ) u y) ∧ risF σ (cH σ) u y 2 = nI (cK (risF σ (cH σ) u y)) ∧ cK (risF σ (cH σ) u y) = cK σ := by
  have e2 : risF σ (cH σ) u y 2 = σ 2 := ris_ne (by omega) (by omega) (by decide)
  have ek : cK (risF σ (cH σ) u y) = cK σ := by unfold cK; rw [e2]
  refine ⟨Bd_same hI.bd (by rw [ek]; exact hI.1.2.1.2) (fun j hj => ris_ne (by omega) (by omega) (by omega)), ?_, ek⟩
  rw [ek, e2]
  exact hI.1.2.1.1
/-! not all places are taken -/
theorem cnt_or (p q : Nat → Bool) : ∀ n, fa_cnt (fun i => p i || q i) n ≤ fa_cnt p n + fa_cnt q n
  | 0 => Nat.le_refl _
  | n + 1 => by
    have h := cnt_or p q n
    unfold fa_cnt
    cases h1 : p n <;> cases h2 : q n <;> simp only [Bool.or_true, Bool.or_false, if_true, if_false, Bool.false_eq_true] <;> omega
theorem cnt_0 (p : Nat → Bool) : ∀ n, (∀ i, i < n → p i = false) → fa_cnt p n = 0
  | 0, _ => rfl
  | n + 1, h => by
    unfold fa_cnt
    rw [cnt_0 p n (fun i hi => h i (by omega)), h n (by omega)]
    rfl
theorem cnt_1 (p : Nat → Bool) : ∀ n, (∀ i j, i < n → j < n → p i = true → p j = true → i = j) → fa_cnt p n ≤ 1
  | 0, _ => Nat.zero_le _
  | n + 1, h => by
    unfold fa_cnt
    cases c : p n with
    | false =>
      have := cnt_1 p n (fun i j hi hj => h i j (by omega) (by omega))
      simp only [if_false, Bool.false_eq_true]
      omega
    | true =>
      rw [cnt_0 p n (fun i hi => by
        cases c2 : p i with
        | false => rfl
        | true => exact absurd (h i n (by omega) (by omega) c2 c) (by omega))]
      simp
theorem cnt_all (p : Nat → Bool) : ∀ n, (∀ i, i < n → p i = true) → fa_cnt p n = n
  | 0, _ => rfl
  | n + 1, h => by
    unfold fa_cnt
    rw [cnt_all p n (fun i hi => h i (by omega)), h n (by omega)]
    rfl
theorem xy_inj {i j : Nat} (h : xyN i = xyN j) : i = j := by unfold xyN at h; omega
theorem tak_cnt {σ : Rw} (m : Nat) (hm : m ≤ 64) : ∀ n, fa_cnt (fun i => takF σ (nI (xyN i)) n) m ≤ n
  | 0 => by
    rw [cnt_0 (fun i => takF σ (nI (xyN i)) 0) m (fun i _ => rfl)]
    exact Nat.le_refl _
  | n + 1 => by
    have h1 := tak_cnt (σ := σ) m hm n
    have h2 := cnt_or (fun i => takF σ (nI (xyN i)) n) (fun i => decide (σ (9 + 2 * n) = nI (xyN i))) m
    have h3 := cnt_1 (fun i => decide (σ (9 + 2 * n) = nI (xyN i))) m (fun i j hi hj c1 c2 => by
      have e9 := (of_decide_eq_true c1).symm.trans (of_decide_eq_true c2)
      have b1 : xyN i < 256 := by unfold xyN; omega
      have b2 : xyN j < 256 := by unfold xyN; omega
      exact xy_inj ((nI_eq (by omega) (by omega)).mp e9))
    show fa_cnt (fun i => takF σ (nI (xyN i)) n || decide (σ (9 + 2 * n) = nI (xyN i))) m ≤ n + 1
    omega
theorem tak_not {σ : Rw} (hH : cH σ < 9) (h : ∀ i, i < 64 → takF σ (nI (xyN i)) (cH σ) = true) : False := by
  have h1 := tak_cnt (σ := σ) 64 (by decide) (cH σ)
  rw [cnt_all _ 64 h] at h1
  omega
