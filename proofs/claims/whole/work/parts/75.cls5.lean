theorem flk_X5_157 (k : Int32) : FLink RX5 157 (kcl k) 3 := by
  unfold kcl
  split
  · exact fl_X5_157_0
  split
  · exact fl_X5_157_9
  split
  · exact fl_X5_157_8
  split
  · exact fl_X5_157_1
  split
  · exact fl_X5_157_3
  split
  · exact fl_X5_157_4
  exact fl_X5_157_2

theorem flk_X5_164 (k : Int32) : FLink RX5 164 (kcl k) 4 := by
  unfold kcl
  split
  · exact fl_X5_164_0
  split
  · exact fl_X5_164_9
  split
  · exact fl_X5_164_8
  split
  · exact fl_X5_164_1
  split
  · exact fl_X5_164_3
  split
  · exact fl_X5_164_4
  exact fl_X5_164_2

theorem flk_X5_174 (k : Int32) : FLink RX5 174 (kcl k) 1 := by
  unfold kcl
  split
  · exact fl_X5_174_0
  split
  · exact fl_X5_174_9
  split
  · exact fl_X5_174_8
  split
  · exact fl_X5_174_1
  split
  · exact fl_X5_174_3
  split
  · exact fl_X5_174_4
  exact fl_X5_174_2

theorem flk_X5_181 (k : Int32) : FLink RX5 181 (kcl k) 5 := by
  unfold kcl
  split
  · exact fl_X5_181_0
  split
  · exact fl_X5_181_9
  split
  · exact fl_X5_181_8
  split
  · exact fl_X5_181_1
  split
  · exact fl_X5_181_3
  split
  · exact fl_X5_181_4
  exact fl_X5_181_2

theorem flk_X11_95 (k : Int32) : FLink RX11 95 (kcl k) 1 := by
  unfold kcl
  split
  · exact fl_X11_95_0
  split
  · exact fl_X11_95_9
  split
  · exact fl_X11_95_8
  split
  · exact fl_X11_95_1
  split
  · exact fl_X11_95_3
  split
  · exact fl_X11_95_4
  exact fl_X11_95_2

theorem flk_X11_100 (k : Int32) : FLink RX11 100 (kcl k) 2 := by
  unfold kcl
  split
  · exact fl_X11_100_0
  split
  · exact fl_X11_100_9
  split
  · exact fl_X11_100_8
  split
  · exact fl_X11_100_1
  split
  · exact fl_X11_100_3
  split
  · exact fl_X11_100_4
  exact fl_X11_100_2

theorem flk_X11_103 (k : Int32) : FLink RX11 103 (kcl k) 3 := by
  unfold kcl
  split
  · exact fl_X11_103_0
  split
  · exact fl_X11_103_9
  split
  · exact fl_X11_103_8
  split
  · exact fl_X11_103_1
  split
  · exact fl_X11_103_3
  split
  · exact fl_X11_103_4
  exact fl_X11_103_2

theorem flk_X11_106 (k : Int32) : FLink RX11 106 (kcl k) 4 := by
  unfold kcl
  split
  · exact fl_X11_106_0
  split
  · exact fl_X11_106_9
  split
  · exact fl_X11_106_8
  split
  · exact fl_X11_106_1
  split
  · exact fl_X11_106_3
  split
  · exact fl_X11_106_4
  exact fl_X11_106_2

theorem flk_X11_109 (k : Int32) : FLink RX11 109 (kcl k) 5 := by
  unfold kcl
  split
  · exact fl_X11_109_0
  split
  · exact fl_X11_109_9
  split
  · exact fl_X11_109_8
  split
  · exact fl_X11_109_1
  split
  · exact fl_X11_109_3
  split
  · exact fl_X11_109_4
  exact fl_X11_109_2

theorem Off.sub {a n b k : Nat} {M M' : Nat → Option va_E} (h : Off b k M M') (h1 : a ≤ b) (h2 : b + k ≤ a + n) : Off a n M M' := fun q hq => h q (by omega)
theorem KtQ.off {e z : Nat} {σ : Rw} {k q p : Nat} {M M' : Nat → Option va_E} (h : KtQ e z σ k q M) (hO : Off p 26 M M') (hpe : p + 26 ≤ e) : KtQ e z σ k q M' := ⟨h.1, (hO q (by have := h.1.1; omega)).trans h.2⟩
theorem PstR.tx {Γ : Cx} {p e z : Nat} {σ : Rw} {M M' : Nat → Option va_E} (h : PstR Γ p e z σ M) (hO : ∀ q, (q < p + 14 ∨ p + 26 ≤ q) → M' q = M q) (hpe : p + 26 ≤ e) (lK : cK σ ≤ 8) (h1 : TxM Γ M' (p + 14) 0 σ) (h2 : TxM Γ M' (p + 20) 1 σ) : PstR Γ p e z σ M' := by
  obtain ⟨a0, a1, a2, a3, a4, a5, a6, a7, a8, a9, b1, -, -⟩ := h
  exact ⟨(hO _ (by omega)).trans a0, a1.tr (hO _ (by omega)) (fun _ _ => rfl), a2.tr (hO _ (by omega)) (fun _ _ => rfl), a3.tr (hO _ (by omega)) (fun _ _ => rfl), a4.tr (hO _ (by omega)) (fun _ _ => rfl), a5.tr (hO _ (by omega)) (fun q g1 g2 => hO q (by omega)) (Nat.le_refl _) rfl lK (fun _ _ _ _ => rfl), a6.tr (hO _ (by omega)) (fun _ _ => rfl), a7.tr (hO _ (by omega)) (fun _ _ => rfl), a8.tr (hO _ (by omega)) (hO _ (by omega)) rfl (fun _ _ => rfl), a9.tr (hO _ (by omega)) (hO _ (by omega)) rfl (fun _ _ => rfl), b1.tr (hO _ (by omega)) (hO _ (by omega)) rfl (fun _ _ => rfl), h1, h2⟩
theorem TxM.same {Γ : Cx} {M M' : Nat → Option va_E} {t u : Nat} {σ : Rw} (h : TxM Γ M t u σ) (h1 : ∀ q, t ≤ q → q < t + 6 → M' q = M q) : TxM Γ M' t u σ := h.tr h1 ⟨rfl, fun _ _ => rfl⟩

set_option maxHeartbeats 1000000 in
theorem c_givenBy {Γ : Cx} {t sz u : Nat} {σ : Rw} {M : Nat → Option va_E} {K : Int32 → Wd → Prop} {x y v w : Int32} (hT : TxM Γ M t u σ) (hu : u < 2) (hO : TxOk σ u) (k : ∀ M', TxM Γ M' t u σ → Off t 6 M M' → K (givF σ u x y v w) (M', sz)) : Spec Γ mX10_givenBy 1 0 [.ref t, .int x, .int y, .int v, .int w] (M, sz) (ci K) := by
  obtain ⟨⟨tp, pl, fa, a1⟩, ⟨a2, f, a3, a4⟩, ⟨dn, df, a5, a6⟩, sf, a7⟩ := id hT
  refine spec_in [some (.ref t), some (.int x), some (.int y), some (.int v), some (.int w), none, none, none] 3 (by decide) rfl rfl ?_
  refine ok_iconst (pc := 0) (v := 0) dX10_givenBy_0 (by decide) ?_
  refine ok_istore5 (pc := 1) dX10_givenBy_1 (by decide) rfl ?_
  refine ok_iconst (pc := 3) (v := 0) dX10_givenBy_3 (by decide) ?_
  refine ok_istore6 (pc := 4) dX10_givenBy_4 (by decide) rfl ?_
  refine l_givenBy (M0 := M) hu hO a1 a2 a3 a4 (fun M9 sf9 hq9 hs9 => ?_) (cdF σ u).1 0 _ _ sf M (by omega) rfl rfl (fun _ _ => rfl) a7 (fun i hi => absurd hi (Nat.not_lt_zero _))
  refine k M9 ⟨⟨tp, pl, fa, (hq9 _ (by omega)).trans a1⟩, ⟨(hq9 _ (by omega)).trans a2, f, (hq9 _ (by omega)).trans a3, a4⟩, ⟨dn, df, (hq9 _ (by omega)).trans a5, (hq9 _ (by omega)).trans a6⟩, sf9, hs9⟩ (fun q hq => hq9 q (by omega))

set_option maxHeartbeats 1000000 in
theorem c_pullAt {Γ : Cx} {p e z sz : Nat} {σ : Rw} {M : Nat → Option va_E} {K : Int32 → Wd → Prop} (hP : PstR Γ p e z σ M) (hI : Inv σ) (hpe : p + 26 ≤ e) {q : Nat} (k0 : Nat) (hK : KtQ e z σ k0 q M) (hk : k0 < cK σ) {xh load xw : Int32} (h t : Nat) (eh : xh = nI h) (ew : xw = nI t) (hh : h < cH σ) (ht : t < 2 ^ 30) (k : ∀ M', PstR Γ p e z σ M' → Off p 26 M M' → K (pullF σ k0 h load (t % 24) xw (hmF σ k0)) (M', sz)) : Spec Γ mX5_pullAt 2 0 [.ref p, .ref q, .int xh, .int load, .int xw] (M, sz) (ci K) := by
  obtain ⟨⟨⟨eH, lH⟩, ⟨eK, lK⟩, ⟨eL, lL⟩, ⟨eA, lA⟩, ⟨eT, lT⟩⟩, iK, iH, iW, iL, iO, iB, hT⟩ := id hI
  obtain ⟨⟨ehm, hmH⟩, -, k6, -⟩ := iK k0 hk
  obtain ⟨⟨tp, pl, fa, a1⟩, -⟩ := id hP.li
  
  refine spec_in [some (.ref p), some (.ref q), some (.int xh), some (.int load), some (.int xw), none, none, none] 3 (by decide) rfl rfl ?_
  refine ok_aload_n (pc := 0) dX5_pullAt_0 rfl ?_
  refine ok_iload (pc := 1) dX5_pullAt_1 rfl ?_
  refine ok_callVi1 (pc := 3) (d' := 0) dX5_pullAt_3 vl_X5_151 hP.o rfl rfl rfl (by decide) ?_
  refine c_windAt hP t ew ht ?_
  refine ok_bipush (pc := 6) (v := 10) dX5_pullAt_6 (by decide) ?_
  refine ok_irem (pc := 8) dX5_pullAt_8 (by decide) ?_
  refine ok_istore5 (pc := 9) dX5_pullAt_9 (by decide) rfl ?_
  refine ok_iconst (pc := 11) (v := 0) dX5_pullAt_11 (by decide) ?_
  refine ok_aload_n (pc := 12) dX5_pullAt_12 rfl ?_
  refine ok_iload_n (pc := 13) dX5_pullAt_13 rfl ?_
  refine ok_callVi1 (pc := 14) (d' := 1) dX5_pullAt_14 vl_X5_154 hP.o rfl rfl rfl (by decide) ?_
  refine c_heightOf hP eH lH h eh hh ?_
  refine ok_aload_n (pc := 17) dX5_pullAt_17 rfl ?_
  refine ok_aload_n (pc := 18) dX5_pullAt_18 rfl ?_
  refine ok_getf (pc := 19) dX5_pullAt_19 (flk_X5_157 _) hK.2 rfl ?_
  refine ok_callVi1 (pc := 22) (d' := 1) dX5_pullAt_22 vl_X5_154 hP.o rfl rfl rfl (by decide) ?_
  refine c_heightOf hP eH lH (hmF σ k0) ehm hmH ?_
  refine ok_isub (pc := 25) dX5_pullAt_25 ?_
  refine ok_mmax (pc := 26) dX5_pullAt_26 tw_538 rfl (by decide) ?_
  refine ok_istore6 (pc := 29) dX5_pullAt_29 (by decide) rfl ?_
  refine ok_aload_n (pc := 31) dX5_pullAt_31 rfl ?_
  refine ok_getf (pc := 32) dX5_pullAt_32 (flk_X5_164 _) hK.2 rfl ?_
  refine ok_iconst (pc := 35) (v := 2) dX5_pullAt_35 (by decide) ?_
  refine ok_iload (pc := 36) dX5_pullAt_36 rfl ?_
  refine ok_imul (pc := 38) dX5_pullAt_38 ?_
  refine ok_iadd (pc := 39) dX5_pullAt_39 ?_
  refine ok_iload_n (pc := 40) dX5_pullAt_40 rfl ?_
  refine ok_isub (pc := 41) dX5_pullAt_41 ?_
  refine ok_iconst (pc := 42) (v := 3) dX5_pullAt_42 (by decide) ?_
  refine ok_iload (pc := 43) dX5_pullAt_43 rfl ?_
  refine ok_imul (pc := 45) dX5_pullAt_45 ?_
  refine ok_isub (pc := 46) dX5_pullAt_46 ?_
  refine ok_istore7 (pc := 47) dX5_pullAt_47 (by decide) rfl ?_
  refine ok_aload_n (pc := 49) dX5_pullAt_49 rfl ?_
  refine ok_iload (pc := 50) dX5_pullAt_50 rfl ?_
  refine ok_iload (pc := 52) dX5_pullAt_52 rfl ?_
  refine ok_iload (pc := 54) dX5_pullAt_54 rfl ?_
  refine ok_bipush (pc := 56) (v := 24) dX5_pullAt_56 (by decide) ?_
  refine ok_idiv (pc := 58) dX5_pullAt_58 (by decide) ?_
  refine ok_strength (pc := 59) rfl dX5_pullAt_59 hK k6 rfl (by decide) rfl ?_
  refine ok_aload_n (pc := 62) dX5_pullAt_62 rfl ?_
  refine ok_getf (pc := 63) dX5_pullAt_63 fl_X5_54 hP.o rfl ?_
  refine ok_iload (pc := 66) dX5_pullAt_66 rfl ?_
  refine ok_aload_n (pc := 68) dX5_pullAt_68 rfl ?_
  refine ok_aload_n (pc := 69) dX5_pullAt_69 rfl ?_
  refine ok_getf (pc := 70) dX5_pullAt_70 (flk_X5_157 _) hK.2 rfl ?_
  refine ok_iload_n (pc := 73) dX5_pullAt_73 rfl ?_
  refine ok_callVi2 (pc := 74) (d' := 1) dX5_pullAt_74 vl_X5_171 hP.o rfl rfl rfl (by decide) ?_
  refine c_far hP (hmF σ k0) h ehm eh (by omega) (by omega) ?_
  refine ok_iload_n (pc := 77) dX5_pullAt_77 rfl ?_
  refine ok_aload_n (pc := 78) dX5_pullAt_78 rfl ?_
  refine ok_getf (pc := 79) dX5_pullAt_79 (flk_X5_174 _) hK.2 rfl ?_
  refine ok_callVi4 (pc := 82) (d' := 1) dX5_pullAt_82 vl_X5_177 a1 rfl rfl rfl (by decide) ?_
  refine c_givenBy hP.li (by decide) (hT 0 (by decide)) (fun M9 hT9 hO9 => ?_)
  refine ok_iadd (pc := 85) dX5_pullAt_85 ?_
  refine ok_iret (pc := 86) dX5_pullAt_86 rfl ?_
  exact k _ (hP.tx (fun q9 hq9 => hO9 q9 (by omega)) hpe lK hT9 (hP.pa.same (fun q9 g1 g2 => hO9 q9 (by omega)))) (hO9.sub (by omega) (by omega))

set_option maxHeartbeats 1000000 in
theorem c_isDownWind {Γ : Cx} {p e z sz : Nat} {σ : Rw} {M : Nat → Option va_E} {K : Int32 → Wd → Prop} (hP : PstR Γ p e z σ M) {xa xb xd : Int32} (hI : Inv σ) (ha hb hr : Nat) (ea : xa = nI ha) (eb : xb = nI hb) (ed : xd = nI (wdF σ hr / 10)) (la : ha < 9) (lb : hb < 9) (lr : hr < 24) (k : K (bI (decide (0 < alF σ hb ha (σ (27 + hr))))) (M, sz)) : Spec Γ mX5_isDownWind 1 0 [.ref p, .int xa, .int xb, .int xd] (M, sz) (ci K) := by
  obtain ⟨ew, w79⟩ := hI.2.2.2.1 hr lr
  have edn : (σ (27 + hr) / 10).toNatClampNeg = wdF σ hr / 10 := by rw [ew, fa_lit 10, pk_div (by omega) (by decide) (by decide)]; exact nI_clamp (by omega)
  refine spec_in [some (.ref p), some (.int xa), some (.int xb), some (.int xd), none, none] 2 (by decide) rfl rfl ?_
  refine ok_iload_n (pc := 0) dX5_isDownWind_0 rfl ?_
  refine ok_iconst (pc := 1) (v := 0) dX5_isDownWind_1 (by decide) ?_
  refine ok_bipush (pc := 2) (v := 7) dX5_isDownWind_2 (by decide) ?_
  refine ok_callSNi3 (pc := 4) (d' := 0) dX5_isDownWind_4 snl_X5_122 rfl (by decide) ?_
  refine c_within ?_
  refine ok_if_ne (pc := 7) 12 dX5_isDownWind_7 (by decide) (fun cc_7 => ?_) (fun cc_7 => ?_)
  · have cq_7 := bI_n0.mp cc_7
    refine ok_aload_n (pc := 12) dX5_isDownWind_12 rfl ?_
    refine ok_iload_n (pc := 13) dX5_isDownWind_13 rfl ?_
    refine ok_callVi1 (pc := 14) (d' := 0) dX5_isDownWind_14 vl_X5_111 hP.o rfl rfl rfl (by decide) ?_
    refine c_xOf hP hb eb lb ?_
    refine ok_aload_n (pc := 17) dX5_isDownWind_17 rfl ?_
    refine ok_iload_n (pc := 18) dX5_isDownWind_18 rfl ?_
    refine ok_callVi1 (pc := 19) (d' := 0) dX5_isDownWind_19 vl_X5_111 hP.o rfl rfl rfl (by decide) ?_
    refine c_xOf hP ha ea la ?_
    refine ok_isub (pc := 22) dX5_isDownWind_22 ?_
    refine ok_dirX (pc := 23) rfl dX5_isDownWind_23 ?_
    refine ok_iload_n (pc := 26) dX5_isDownWind_26 rfl ?_
    refine ok_dirXld (pc := 27) (wdF σ hr / 10) dX5_isDownWind_27 ed (by omega) ?_
    refine ok_imul (pc := 28) dX5_isDownWind_28 ?_
    refine ok_istore4 (pc := 29) dX5_isDownWind_29 (by decide) rfl ?_
    refine ok_aload_n (pc := 31) dX5_isDownWind_31 rfl ?_
    refine ok_iload_n (pc := 32) dX5_isDownWind_32 rfl ?_
    refine ok_callVi1 (pc := 33) (d' := 0) dX5_isDownWind_33 vl_X5_114 hP.o rfl rfl rfl (by decide) ?_
    refine c_yOf hP hb eb lb ?_
    refine ok_aload_n (pc := 36) dX5_isDownWind_36 rfl ?_
    refine ok_iload_n (pc := 37) dX5_isDownWind_37 rfl ?_
    refine ok_callVi1 (pc := 38) (d' := 0) dX5_isDownWind_38 vl_X5_114 hP.o rfl rfl rfl (by decide) ?_
    refine c_yOf hP ha ea la ?_
    refine ok_isub (pc := 41) dX5_isDownWind_41 ?_
    refine ok_dirY (pc := 42) rfl dX5_isDownWind_42 ?_
    refine ok_iload_n (pc := 45) dX5_isDownWind_45 rfl ?_
    refine ok_dirYld (pc := 46) (wdF σ hr / 10) dX5_isDownWind_46 ed (by omega) ?_
    refine ok_imul (pc := 47) dX5_isDownWind_47 ?_
    refine ok_istore5 (pc := 48) dX5_isDownWind_48 (by decide) rfl ?_
    refine ok_iload (pc := 50) dX5_isDownWind_50 rfl ?_
    refine ok_iload (pc := 52) dX5_isDownWind_52 rfl ?_
    refine ok_iadd (pc := 54) dX5_isDownWind_54 ?_
    refine ok_if_le (pc := 55) 62 dX5_isDownWind_55 (by decide) (fun cc_55 => ?_) (fun cc_55 => ?_)
    · have ce_55 := Int32.not_lt.mpr cc_55
      refine ok_iconst (pc := 62) (v := 0) dX5_isDownWind_62 (by decide) ?_
      refine ok_zret (pc := 63) dX5_isDownWind_63 rfl rfl ?_
      unfold alF at k
      rw [edn] at k
      simpa [bI, cq_7, cc_55, ce_55] using k
    · have ce_55 := Int32.not_le.mp cc_55
      refine ok_iconst (pc := 58) (v := 1) dX5_isDownWind_58 (by decide) ?_
      refine ok_goto (pc := 59) 63 dX5_isDownWind_59 (by decide) ?_
      refine ok_zret (pc := 63) dX5_isDownWind_63 rfl rfl ?_
      unfold alF at k
      rw [edn] at k
      simpa [bI, cq_7, cc_55, ce_55] using k
  · have h9 := bI_0.mp cc_7
    rw [ed, show wi (nI (wdF σ hr / 10)) 0 7 = true from wi_nI (a := 0) (b := 7) (by omega) (by omega) (by decide)] at h9
    cases h9

set_option maxHeartbeats 1000000 in
theorem c_standsAt {Γ : Cx} {p e z sz : Nat} {σ : Rw} {M : Nat → Option va_E} {K : Int32 → Wd → Prop} (hP : PstR Γ p e z σ M) (hI : Inv σ) (hpe : p + 26 ≤ e) {q : Nat} (k0 : Nat) (hK : KtQ e z σ k0 q M) (hk : k0 < cK σ) {xh load xw : Int32} (h t : Nat) (eh : xh = nI h) (ew : xw = nI t) (hh : h < cH σ) (ht : t < 2 ^ 30) (k : ∀ M', PstR Γ p e z σ M' → Off p 26 M M' → K (bI (stS σ k0 h load (t % 24) xw)) (M', sz)) : Spec Γ mX5_standsAt 3 0 [.ref p, .ref q, .int xh, .int load, .int xw] (M, sz) (ci K) := by
  obtain ⟨⟨⟨eH, lH⟩, ⟨eK, lK⟩, ⟨eL, lL⟩, ⟨eA, lA⟩, ⟨eT, lT⟩⟩, iK, iH, iW, iL, iO, iB, hT⟩ := id hI
  obtain ⟨⟨ehm, hmH⟩, -, k6, -⟩ := iK k0 hk
  obtain ⟨ewd, w79⟩ := iW (t % 24) (Nat.mod_lt _ (by decide))
  have hd9 : σ (27 + t % 24) / 10 = nI (wdF σ (t % 24) / 10) := by rw [ewd, fa_lit 10, pk_div (by omega) (by decide) (by decide)]
  
  refine spec_in [some (.ref p), some (.ref q), some (.int xh), some (.int load), some (.int xw), none] 1 (by decide) rfl rfl ?_
  refine ok_aload_n (pc := 0) dX5_standsAt_0 rfl ?_
  refine ok_iload (pc := 1) dX5_standsAt_1 rfl ?_
  refine ok_callVi1 (pc := 3) (d' := 0) dX5_standsAt_3 vl_X5_151 hP.o rfl rfl rfl (by decide) ?_
  refine c_windAt hP t ew ht ?_
  refine ok_istore5 (pc := 6) dX5_standsAt_6 (by decide) rfl ?_
  refine ok_iload_n (pc := 8) dX5_standsAt_8 rfl ?_
  refine ok_aload_n (pc := 9) dX5_standsAt_9 rfl ?_
  refine ok_getf (pc := 10) dX5_standsAt_10 (flk_X5_157 _) hK.2 rfl ?_
  refine ok_icmp_eq (pc := 13) 73 dX5_standsAt_13 (by decide) (fun cc_13 => ?_) (fun cc_13 => ?_)
  · refine ok_iconst (pc := 73) (v := 0) dX5_standsAt_73 (by decide) ?_
    refine ok_zret (pc := 74) dX5_standsAt_74 rfl rfl ?_
    first
      | (have k9 := k _ hP9 hO9
         simp only [stS, stF, fcF] at k9
         simpa [bI, ← eh, cc_13] using k9)
      | (have k9 := k _ hP Off.rfl'
         simp only [stS, stF, fcF] at k9
         simpa [bI, ← eh, cc_13] using k9)
  · refine ok_iload (pc := 16) dX5_standsAt_16 rfl ?_
    refine ok_bipush (pc := 18) (v := 10) dX5_standsAt_18 (by decide) ?_
    refine ok_irem (pc := 20) dX5_standsAt_20 (by decide) ?_
    refine ok_if_eq (pc := 21) 73 dX5_standsAt_21 (by decide) (fun cc_21 => ?_) (fun cc_21 => ?_)
    · refine ok_iconst (pc := 73) (v := 0) dX5_standsAt_73 (by decide) ?_
      refine ok_zret (pc := 74) dX5_standsAt_74 rfl rfl ?_
      first
        | (have k9 := k _ hP9 hO9
           simp only [stS, stF, fcF] at k9
           simpa [bI, ← eh, cc_13, cc_21] using k9)
        | (have k9 := k _ hP Off.rfl'
           simp only [stS, stF, fcF] at k9
           simpa [bI, ← eh, cc_13, cc_21] using k9)
    · refine ok_aload_n (pc := 24) dX5_standsAt_24 rfl ?_
      refine ok_aload_n (pc := 25) dX5_standsAt_25 rfl ?_
      refine ok_getf (pc := 26) dX5_standsAt_26 (flk_X5_157 _) hK.2 rfl ?_
      refine ok_iload_n (pc := 29) dX5_standsAt_29 rfl ?_
      refine ok_callVi2 (pc := 30) (d' := 1) dX5_standsAt_30 vl_X5_171 hP.o rfl rfl rfl (by decide) ?_
      refine c_far hP (hmF σ k0) h ehm eh (by omega) (by omega) ?_
      refine ok_aload_n (pc := 33) dX5_standsAt_33 rfl ?_
      refine ok_getf (pc := 34) dX5_standsAt_34 (flk_X5_181 _) hK.2 rfl ?_
      refine ok_icmp_gt (pc := 37) 73 dX5_standsAt_37 (by decide) (fun cc_37 => ?_) (fun cc_37 => ?_)
      · have ce_37 := Int32.not_le.mpr cc_37
        refine ok_iconst (pc := 73) (v := 0) dX5_standsAt_73 (by decide) ?_
        refine ok_zret (pc := 74) dX5_standsAt_74 rfl rfl ?_
        first
          | (have k9 := k _ hP9 hO9
             simp only [stS, stF, fcF] at k9
             simpa [bI, ← eh, cc_13, cc_21, cc_37, ce_37] using k9)
          | (have k9 := k _ hP Off.rfl'
             simp only [stS, stF, fcF] at k9
             simpa [bI, ← eh, cc_13, cc_21, cc_37, ce_37] using k9)
      · have ce_37 := Int32.not_lt.mp cc_37
        refine ok_aload_n (pc := 40) dX5_standsAt_40 rfl ?_
        refine ok_aload_n (pc := 41) dX5_standsAt_41 rfl ?_
        refine ok_getf (pc := 42) dX5_standsAt_42 (flk_X5_157 _) hK.2 rfl ?_
        refine ok_iload_n (pc := 45) dX5_standsAt_45 rfl ?_
        refine ok_iload (pc := 46) dX5_standsAt_46 rfl ?_
        refine ok_bipush (pc := 48) (v := 10) dX5_standsAt_48 (by decide) ?_
        refine ok_idiv (pc := 50) dX5_standsAt_50 (by decide) ?_
        refine ok_callVi3 (pc := 51) (d' := 1) dX5_standsAt_51 vl_X5_184 hP.o rfl rfl rfl (by decide) ?_
        refine c_isDownWind hP hI (hmF σ k0) h (t % 24) ehm eh hd9 (by omega) (by omega) (Nat.mod_lt _ (by decide)) ?_
        refine ok_if_eq (pc := 54) 73 dX5_standsAt_54 (by decide) (fun cc_54 => ?_) (fun cc_54 => ?_)
        · have cq_54 := bI_0.mp cc_54
          refine ok_iconst (pc := 73) (v := 0) dX5_standsAt_73 (by decide) ?_
          refine ok_zret (pc := 74) dX5_standsAt_74 rfl rfl ?_
          first
            | (have k9 := k _ hP9 hO9
               simp only [stS, stF, fcF] at k9
               simpa [bI, ← eh, cc_13, cc_21, cc_37, ce_37, cq_54] using k9)
            | (have k9 := k _ hP Off.rfl'
               simp only [stS, stF, fcF] at k9
               simpa [bI, ← eh, cc_13, cc_21, cc_37, ce_37, cq_54] using k9)
        · have cq_54 := bI_n0.mp cc_54
          refine ok_aload_n (pc := 57) dX5_standsAt_57 rfl ?_
          refine ok_aload_n (pc := 58) dX5_standsAt_58 rfl ?_
          refine ok_iload_n (pc := 59) dX5_standsAt_59 rfl ?_
          refine ok_iload_n (pc := 60) dX5_standsAt_60 rfl ?_
          refine ok_iload (pc := 61) dX5_standsAt_61 rfl ?_
          refine ok_callVi4 (pc := 63) (d' := 2) dX5_standsAt_63 vl_X5_187 hP.o rfl rfl rfl (by decide) ?_
          refine c_pullAt hP hI hpe k0 hK hk h t eh ew hh ht (fun M9 hP9 hO9 => ?_)
          refine ok_if_lt (pc := 66) 73 dX5_standsAt_66 (by decide) (fun cc_66 => ?_) (fun cc_66 => ?_)
          · have ce_66 := Int32.not_le.mpr cc_66
            refine ok_iconst (pc := 73) (v := 0) dX5_standsAt_73 (by decide) ?_
            refine ok_zret (pc := 74) dX5_standsAt_74 rfl rfl ?_
            first
              | (have k9 := k _ hP9 hO9
                 simp only [stS, stF, fcF] at k9
                 simpa [bI, ← eh, cc_13, cc_21, cc_37, ce_37, cq_54, cc_66, ce_66] using k9)
              | (have k9 := k _ hP Off.rfl'
                 simp only [stS, stF, fcF] at k9
                 simpa [bI, ← eh, cc_13, cc_21, cc_37, ce_37, cq_54, cc_66, ce_66] using k9)
          · have ce_66 := Int32.not_lt.mp cc_66
            refine ok_iconst (pc := 69) (v := 1) dX5_standsAt_69 (by decide) ?_
            refine ok_goto (pc := 70) 74 dX5_standsAt_70 (by decide) ?_
            refine ok_zret (pc := 74) dX5_standsAt_74 rfl rfl ?_
            first
              | (have k9 := k _ hP9 hO9
                 simp only [stS, stF, fcF] at k9
                 simpa [bI, ← eh, cc_13, cc_21, cc_37, ce_37, cq_54, cc_66, ce_66] using k9)
              | (have k9 := k _ hP Off.rfl'
                 simp only [stS, stF, fcF] at k9
                 simpa [bI, ← eh, cc_13, cc_21, cc_37, ce_37, cq_54, cc_66, ce_66] using k9)

set_option maxHeartbeats 1000000 in
theorem l_overAt {Γ : Cx} {p e z sz : Nat} {σ : Rw} {K : Int32 → Wd → Prop} {M0 : Nat → Option va_E} (hI : Inv σ) (hpe : p + 26 ≤ e) {q : Nat} {load xw : Int32} (k0 t : Nat) (hK0 : KtQ e z σ k0 q M0) (hk : k0 < cK σ) (ew : xw = nI t) (ht : t < 2 ^ 30) (k : ∀ M', PstR Γ p e z σ M' → Off p 26 M0 M' → K (ovF σ k0 load (t % 24) xw (cH σ)) (M', sz)) : ∀ (n : Nat) (j : Nat) (x4 : Int32) (xi : Int32) (M : Nat → Option va_E), j + n = cH σ → xi = nI j → x4 = ovF σ k0 load (t % 24) xw j → PstR Γ p e z σ M → Off p 26 M0 M → Ok Γ mX5_overAt 4 0 6 [some (.ref p), some (.ref q), some (.int load), some (.int xw), some (.int x4), some (.int xi)] [] (M, sz) (ci K) := by
  obtain ⟨⟨⟨eH, lH⟩, ⟨eK, lK⟩, ⟨eL, lL⟩, ⟨eA, lA⟩, ⟨eT, lT⟩⟩, iK, iH, iW, iL, iO, iB, hT⟩ := id hI
  
  intro n
  induction n with
  | zero =>
    intro j x4 xi M h1 ei hq hP hO
    have hK := hK0.off hO hpe
    refine ok_iload (pc := 6) dX5_overAt_6 rfl ?_
    refine ok_aload_n (pc := 8) dX5_overAt_8 rfl ?_
    refine ok_getf (pc := 9) dX5_overAt_9 fl_X5_77 hP.o rfl ?_
    refine ok_icmp_ge (pc := 12) 42 dX5_overAt_12 (by decide) (fun cc_12 => ?_) (fun cc_12 => ?_)
    · have ce_12 := Int32.not_lt.mpr cc_12
      have e9 : j = cH σ := by omega
      subst e9
      rw [hq]
      refine ok_iload (pc := 42) dX5_overAt_42 rfl ?_
      refine ok_iret (pc := 44) dX5_overAt_44 rfl ?_
      exact k _ hP hO
    · exact absurd (by rw [eH, ei]; exact nI_le (by omega) (by omega)) cc_12
  | succ n ih =>
    intro j x4 xi M h1 ei hq hP hO
    have hK := hK0.off hO hpe
    refine ok_iload (pc := 6) dX5_overAt_6 rfl ?_
    refine ok_aload_n (pc := 8) dX5_overAt_8 rfl ?_
    refine ok_getf (pc := 9) dX5_overAt_9 fl_X5_77 hP.o rfl ?_
    refine ok_icmp_ge (pc := 12) 42 dX5_overAt_12 (by decide) (fun cc_12 => ?_) (fun cc_12 => ?_)
    · rw [eH, ei] at cc_12
      exact absurd cc_12 (nI_ge (by omega) (by omega))
    · have ce_12 := Int32.not_le.mp cc_12
      refine ok_aload_n (pc := 15) dX5_overAt_15 rfl ?_
      refine ok_aload_n (pc := 16) dX5_overAt_16 rfl ?_
      refine ok_iload (pc := 17) dX5_overAt_17 rfl ?_
      refine ok_iload_n (pc := 19) dX5_overAt_19 rfl ?_
      refine ok_iload_n (pc := 20) dX5_overAt_20 rfl ?_
      refine ok_callVi4 (pc := 21) (d' := 3) dX5_overAt_21 vl_X5_197 hP.o rfl rfl rfl (by decide) ?_
      refine c_standsAt hP hI hpe k0 hK hk j t ei ew (by omega) ht (fun M hP hO2 => ?_)
      have hO := hO.trans hO2
      refine ok_if_eq (pc := 24) 36 dX5_overAt_24 (by decide) (fun cc_24 => ?_) (fun cc_24 => ?_)
      · have cq_24 := bI_0.mp cc_24
        have enx : ovF σ k0 load (t % 24) xw (j + 1) = ovF σ k0 load (t % 24) xw j := by
          show _ ||| _ = _
          rw [if_neg (by rw [cq_24]; decide), or_0]
        refine ok_iinc5 (pc := 36) (v := 1) dX5_overAt_36 (by decide) (by decide) rfl ?_
        refine ok_goto (pc := 39) 6 dX5_overAt_39 (by decide) ?_
        exact ih (j + 1) _ _ _ (by omega) (by rw [ei, nI_1]) (by rw [enx, hq]; try rw [ei]) hP hO
      · have cq_24 := bI_n0.mp cc_24
        have enx : ovF σ k0 load (t % 24) xw (j + 1) = ovF σ k0 load (t % 24) xw j ||| jshl 1 (nI j) := by
          show _ ||| _ = _
          rw [if_pos cq_24]
        refine ok_iload (pc := 27) dX5_overAt_27 rfl ?_
        refine ok_iconst (pc := 29) (v := 1) dX5_overAt_29 (by decide) ?_
        refine ok_iload (pc := 30) dX5_overAt_30 rfl ?_
        refine ok_ishl (pc := 32) dX5_overAt_32 ?_
        refine ok_ior (pc := 33) dX5_overAt_33 ?_
        refine ok_istore4 (pc := 34) dX5_overAt_34 (by decide) rfl ?_
        refine ok_iinc5 (pc := 36) (v := 1) dX5_overAt_36 (by decide) (by decide) rfl ?_
        refine ok_goto (pc := 39) 6 dX5_overAt_39 (by decide) ?_
        exact ih (j + 1) _ _ _ (by omega) (by rw [ei, nI_1]) (by rw [enx, hq]; try rw [ei]) hP hO

set_option maxHeartbeats 1000000 in
theorem c_overAt {Γ : Cx} {p e z sz : Nat} {σ : Rw} {M : Nat → Option va_E} {K : Int32 → Wd → Prop} (hP : PstR Γ p e z σ M) (hI : Inv σ) (hpe : p + 26 ≤ e) {q : Nat} (k0 : Nat) (hK : KtQ e z σ k0 q M) (hk : k0 < cK σ) {load xw : Int32} (t : Nat) (ew : xw = nI t) (ht : t < 2 ^ 30) (k : ∀ M', PstR Γ p e z σ M' → Off p 26 M M' → K (ovF σ k0 load (t % 24) xw (cH σ)) (M', sz)) : Spec Γ mX5_overAt 4 0 [.ref p, .ref q, .int load, .int xw] (M, sz) (ci K) := by
  refine spec_in [some (.ref p), some (.ref q), some (.int load), some (.int xw), none, none] 2 (by decide) rfl rfl ?_
  refine ok_iconst (pc := 0) (v := 0) dX5_overAt_0 (by decide) ?_
  refine ok_istore4 (pc := 1) dX5_overAt_1 (by decide) rfl ?_
  refine ok_iconst (pc := 3) (v := 0) dX5_overAt_3 (by decide) ?_
  refine ok_istore5 (pc := 4) dX5_overAt_4 (by decide) rfl ?_
  exact l_overAt hI hpe k0 t hK hk ew ht k (cH σ) 0 _ _ M (by omega) rfl rfl hP Off.rfl'

set_option maxHeartbeats 1000000 in
theorem l_lineBits {Γ : Cx} {p e z sz : Nat} {σ : Rw} {K : Int32 → Wd → Prop} {M0 : Nat → Option va_E} (hI : Inv σ) (hpe : p + 26 ≤ e) {xw : Int32} (ew : xw = σ 0) (k : ∀ M', PstR Γ p e z σ M' → Off p 26 M0 M' → K (hvF σ (cK σ)) (M', sz)) : ∀ (n : Nat) (j : Nat) (x2 : Int32) (xi : Int32) (M : Nat → Option va_E), j + n = cK σ → xi = nI j → x2 = hvF σ j → PstR Γ p e z σ M → Off p 26 M0 M → Ok Γ mX5_lineBits 4 0 4 [some (.ref p), some (.int xw), some (.int x2), some (.int xi), none, none] [] (M, sz) (ci K) := by
  obtain ⟨⟨⟨eH, lH⟩, ⟨eK, lK⟩, ⟨eL, lL⟩, ⟨eA, lA⟩, ⟨eT, lT⟩⟩, iK, iH, iW, iL, iO, iB, hT⟩ := id hI
  
  intro n
  induction n with
  | zero =>
    intro j x2 xi M h1 ei hq hP hO
    refine ok_iload_n (pc := 4) dX5_lineBits_4 rfl ?_
    refine ok_aload_n (pc := 5) dX5_lineBits_5 rfl ?_
    refine ok_getf (pc := 6) dX5_lineBits_6 fl_X5_80 hP.o rfl ?_
    refine ok_icmp_ge (pc := 9) 61 dX5_lineBits_9 (by decide) (fun cc_9 => ?_) (fun cc_9 => ?_)
    · have ce_9 := Int32.not_lt.mpr cc_9
      have e9 : j = cK σ := by omega
      subst e9
      rw [hq]
      refine ok_iload_n (pc := 61) dX5_lineBits_61 rfl ?_
      refine ok_iret (pc := 62) dX5_lineBits_62 rfl ?_
      exact k _ hP hO
    · exact absurd (by rw [eK, ei]; exact nI_le (by omega) (by omega)) cc_9
  | succ n ih =>
    intro j x2 xi M h1 ei hq hP hO
    refine ok_iload_n (pc := 4) dX5_lineBits_4 rfl ?_
    refine ok_aload_n (pc := 5) dX5_lineBits_5 rfl ?_
    refine ok_getf (pc := 6) dX5_lineBits_6 fl_X5_80 hP.o rfl ?_
    refine ok_icmp_ge (pc := 9) 61 dX5_lineBits_9 (by decide) (fun cc_9 => ?_) (fun cc_9 => ?_)
    · rw [eK, ei] at cc_9
      exact absurd cc_9 (nI_ge (by omega) (by omega))
    · have ce_9 := Int32.not_le.mp cc_9
      refine ok_aload_n (pc := 12) dX5_lineBits_12 rfl ?_
      refine ok_iload_n (pc := 13) dX5_lineBits_13 rfl ?_
      refine ok_callVr1 (pc := 14) (d' := 0) dX5_lineBits_14 vl_X5_201 hP.o rfl rfl rfl (by decide) ?_
      refine c_kiteAt hP eK lK (fun q9 ex9 lx9 hK9 => ?_) (fun h9 => absurd h9 (by rw [wi_T eK (by omega) (by rw [ei]; exact nI_pos' (by omega)) (by rw [ei, eK]; exact nI_lt (by omega) (by omega))]; decide))
      have ej9 : iN xi = j := by rw [ei]; exact nI_clamp (by omega)
      rw [ej9] at hK9 lx9
      refine ok_astore4 (pc := 17) dX5_lineBits_17 (by decide) rfl ?_
      refine ok_aload_n (pc := 19) dX5_lineBits_19 rfl ?_
      refine ok_iload_n (pc := 20) dX5_lineBits_20 rfl ?_
      refine ok_callVi1 (pc := 21) (d' := 1) dX5_lineBits_21 vl_X5_205 hP.o rfl rfl rfl (by decide) ?_
      refine c_aimOf hP j ei (by omega) ?_
      refine ok_istore5 (pc := 24) dX5_lineBits_24 (by decide) rfl ?_
      refine ok_aload (pc := 26) dX5_lineBits_26 rfl ?_
      refine ok_ifnull (pc := 28) dX5_lineBits_28 ?_
      refine ok_iload (pc := 31) dX5_lineBits_31 rfl ?_
      refine ok_if_lt (pc := 33) 55 dX5_lineBits_33 (by decide) (fun cc_33 => ?_) (fun cc_33 => ?_)
      · have ce_33 := Int32.not_le.mpr cc_33
        have enx : hvF σ (j + 1) = hvF σ j := by
          show _ ||| _ = _
          rw [if_neg (by unfold lnF; rw [decide_eq_false (Int32.not_le.mpr cc_33), Bool.false_and]; decide), or_0]
        refine ok_iinc3 (pc := 55) (v := 1) dX5_lineBits_55 (by decide) (by decide) rfl ?_
        refine ok_goto (pc := 58) 4 dX5_lineBits_58 (by decide) ?_
        refine ok_drop4 ?_
        refine ok_drop5 ?_
        exact ih (j + 1) _ _ _ (by omega) (by rw [ei, nI_1]) (by rw [enx, hq]; try rw [ei]) hP hO
      · have ce_33 := Int32.not_lt.mp cc_33
        refine ok_aload_n (pc := 36) dX5_lineBits_36 rfl ?_
        refine ok_aload (pc := 37) dX5_lineBits_37 rfl ?_
        refine ok_iload (pc := 39) dX5_lineBits_39 rfl ?_
        refine ok_iconst (pc := 41) (v := 0) dX5_lineBits_41 (by decide) ?_
        refine ok_iload_n (pc := 42) dX5_lineBits_42 rfl ?_
        refine ok_callVi4 (pc := 43) (d' := 3) dX5_lineBits_43 vl_X5_197 hP.o rfl rfl rfl (by decide) ?_
        obtain ⟨eak, lak, -⟩ := InvK.aim iK (show j < cK σ by omega) (Int32.not_lt.mp cc_33)
        refine c_standsAt hP hI hpe j hK9 lx9 (amF σ j) (cT σ) eak (by rw [ew]; exact eT) lak (by omega) (fun M hP hO2 => ?_)
        have hO := hO.trans hO2
        refine ok_if_eq (pc := 46) 55 dX5_lineBits_46 (by decide) (fun cc_46 => ?_) (fun cc_46 => ?_)
        · have cq_46 := bI_0.mp cc_46
          have enx : hvF σ (j + 1) = hvF σ j := by
            show _ ||| _ = _
            rw [if_neg (by unfold lnF stN; rw [← ew, cq_46, Bool.and_false]; decide), or_0]
          refine ok_iinc3 (pc := 55) (v := 1) dX5_lineBits_55 (by decide) (by decide) rfl ?_
          refine ok_goto (pc := 58) 4 dX5_lineBits_58 (by decide) ?_
          refine ok_drop4 ?_
          refine ok_drop5 ?_
          exact ih (j + 1) _ _ _ (by omega) (by rw [ei, nI_1]) (by rw [enx, hq]; try rw [ei]) hP hO
        · have cq_46 := bI_n0.mp cc_46
          have enx : hvF σ (j + 1) = hvF σ j ||| jshl 1 (nI j) := by
            show _ ||| _ = _
            rw [if_pos (by unfold lnF stN; rw [← ew, cq_46, decide_eq_true (Int32.not_lt.mp cc_33)]; rfl)]
          refine ok_iload_n (pc := 49) dX5_lineBits_49 rfl ?_
          refine ok_iconst (pc := 50) (v := 1) dX5_lineBits_50 (by decide) ?_
          refine ok_iload_n (pc := 51) dX5_lineBits_51 rfl ?_
          refine ok_ishl (pc := 52) dX5_lineBits_52 ?_
          refine ok_ior (pc := 53) dX5_lineBits_53 ?_
          refine ok_istore_n2 (pc := 54) dX5_lineBits_54 (by decide) rfl ?_
          refine ok_iinc3 (pc := 55) (v := 1) dX5_lineBits_55 (by decide) (by decide) rfl ?_
          refine ok_goto (pc := 58) 4 dX5_lineBits_58 (by decide) ?_
          refine ok_drop4 ?_
          refine ok_drop5 ?_
          exact ih (j + 1) _ _ _ (by omega) (by rw [ei, nI_1]) (by rw [enx, hq]; try rw [ei]) hP hO

set_option maxHeartbeats 1000000 in
theorem c_lineBits {Γ : Cx} {p e z sz : Nat} {σ : Rw} {M : Nat → Option va_E} {K : Int32 → Wd → Prop} (hP : PstR Γ p e z σ M) (hI : Inv σ) (hpe : p + 26 ≤ e) {xw : Int32} (ew : xw = σ 0) (k : ∀ M', PstR Γ p e z σ M' → Off p 26 M M' → K (hvF σ (cK σ)) (M', sz)) : Spec Γ mX5_lineBits 4 0 [.ref p, .int xw] (M, sz) (ci K) := by
  refine spec_in [some (.ref p), some (.int xw), none, none, none, none] 4 (by decide) rfl rfl ?_
  refine ok_iconst (pc := 0) (v := 0) dX5_lineBits_0 (by decide) ?_
  refine ok_istore_n2 (pc := 1) dX5_lineBits_1 (by decide) rfl ?_
  refine ok_iconst (pc := 2) (v := 0) dX5_lineBits_2 (by decide) ?_
  refine ok_istore_n3 (pc := 3) dX5_lineBits_3 (by decide) rfl ?_
  exact l_lineBits hI hpe ew k (cK σ) 0 _ _ M (by omega) rfl rfl hP Off.rfl'
