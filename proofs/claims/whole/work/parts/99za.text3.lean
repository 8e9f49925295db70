theorem cd_u {σ τ : Rw} {u : Nat} (h : ∀ j, 265 + 52 * u ≤ j → j < 265 + 52 * u + 51 → τ j = σ j) (hT : TxOk σ u) : (cdF τ u).1 = (cdF σ u).1 ∧ ∀ j, j < (cdF σ u).1 → (cdF τ u).2 j = (cdF σ u).2 j := by
  obtain ⟨n, h1, h2, -⟩ := hT
  have e0 := h (265 + 52 * u) (by omega) (by omega)
  unfold cdF
  rw [e0]
  by_cases c : 0 < σ (265 + 52 * u)
  · rw [if_pos c, if_pos c]
    have en : txN σ u = n := by unfold txN; rw [h2]; exact nI_clamp (by omega)
    refine ⟨by show txN τ u = txN σ u; unfold txN; rw [e0], fun j hj => ?_⟩
    have hj : j < txN σ u := hj
    exact h _ (by omega) (by omega)
  · rw [if_neg c, if_neg c]
    exact ⟨rfl, fun _ _ => rfl⟩
theorem cd_txU {σ f : Rw} {u n : Nat} (h1 : 1 ≤ n) (hn : n ≤ 50) : (cdF (txU σ u n f n) u).1 = n ∧ ∀ j, j < n → (cdF (txU σ u n f n) u).2 j = f j := by
  have e0 : txU σ u n f n (265 + 52 * u) = nI n := if_pos rfl
  unfold cdF
  rw [e0, if_pos (show 0 < nI n from nI_lt (a := 0) (by omega) (by omega))]
  refine ⟨by show txN (txU σ u n f n) u = n; unfold txN; rw [e0]; exact nI_clamp (by omega), fun j hj => ?_⟩
  show txU σ u n f n (265 + 52 * u + 1 + j) = f j
  unfold txU
  rw [if_neg (by omega), if_pos (by omega), show 265 + 52 * u + 1 + j - (265 + 52 * u + 1) = j by omega]
theorem txU_lo {σ f : Rw} {u n j : Nat} (h : j < 265) : txU σ u n f n j = σ j := by unfold txU; rw [if_neg (by omega), if_neg (by omega)]
theorem txU_6 (σ f : Rw) (u n : Nat) : upd (txU σ u n f n) 6 0 = txU (upd σ 6 0) u n f n := by
  funext j
  by_cases c : j = 6
  · rw [c, upd_at, txU_lo (by decide), upd_at]
  · rw [upd_ne c]
    unfold txU
    rw [upd_ne c]
theorem pst_txt {Γ : Cx} {p e z : Nat} {σ τ : Rw} {M M' : Nat → Option va_E} (h : PstR Γ p e z σ M) (hI : Inv σ) (hpe : p + 26 ≤ e) (hO : ∀ q, (q < p + 14 ∨ p + 26 ≤ q) → M' q = M q) (hs : ∀ j, j < 265 → τ j = σ j) (h1 : TxM Γ M' (p + 14) 0 τ) (h2 : TxM Γ M' (p + 20) 1 τ) : PstR Γ p e z τ M' := by
  obtain ⟨a0, a1, a2, a3, a4, a5, a6, a7, a8, a9, b1, -, -⟩ := h
  obtain ⟨lK, hA, l6, l7, -, -⟩ := hI.bd
  refine ⟨(hO _ (by omega)).trans ?_, a1.tr (hO _ (by omega)) (fun j hj => by unfold hx; rw [hs _ (by omega)]), a2.tr (hO _ (by omega)) (fun j hj => by unfold hy; rw [hs _ (by omega)]), a3.tr (hO _ (by omega)) (fun j hj => hs _ (by omega)), a4.tr (hO _ (by omega)) (fun j hj => hs _ (by omega)), a5.tr (hO _ (by omega)) (fun q g1 g2 => hO q (by omega)) (Nat.le_refl _) (by unfold cK; rw [hs 2 (by omega)]) lK (fun k fl g3 g4 => hs _ (by omega)), a6.tr (hO _ (by omega)) (fun j hj => hs _ (by omega)), a7.tr (hO _ (by omega)) (fun j hj => hs _ (by omega)), a8.tr (hO _ (by omega)) (hO _ (by omega)) (hs 4 (by omega)) (fun j hj => hs _ (by omega)), a9.tr (hO _ (by omega)) (hO _ (by omega)) (hs 6 (by omega)) (fun j hj => hs _ (by omega)), b1.tr (hO _ (by omega)) (hO _ (by omega)) (hs 7 (by omega)) (fun j hj => hs _ (by omega)), h1, h2⟩
  rw [a0]
  unfold pfs
  rw [hs 0 (by omega), hs 1 (by omega), hs 2 (by omega), hs 3 (by omega), hs 5 (by omega), hs 8 (by omega)]
theorem tx_st {Γ : Cx} {M : Nat → Option va_E} {t u r : Nat} {σ : Rw} {s : Ps} (h : TxP Γ M t u r s) (h1 : M (t + 1) = some (.inr (6, [.ref (t + 2), .int (nI (cdF σ u).1)])) ∧ ∃ f, M (t + 2) = aI Γ 50 f ∧ ∀ j, j < (cdF σ u).1 → f j = enC ((cdF σ u).2 j)) (h2 : ∃ sf, M (t + 5) = aI Γ 50 sf) : TxM Γ M t u σ := by
  obtain ⟨h0, dn, df, l, g1, g2, g3⟩ := h
  exact ⟨⟨some r, nI s.1, bI s.2.1, h0⟩, h1, ⟨nI dn, df, g1, g2⟩, h2⟩

theorem tx_begin {Γ : Cx} {t u r : Nat} {σ : Rw} {M : Nat → Option va_E} {pl fa : Int32} (hrt : r + 2 ≤ t) (hd4 : ∃ df, M (t + 4) = aI Γ 50 df) (hR : rwR Γ M r 50 (σ 6) (fun j => σ (195 + j))) : TxP Γ (va_up (va_up (va_up (va_up M t (some (.inr (10, [.int (nI u), .ref (t + 1), .ref (t + 3), .ref (t + 5), .ref r, .int pl, .int fa])))) t (some (.inr (10, [.int (nI u), .ref (t + 1), .ref (t + 3), .ref (t + 5), .ref r, .int 0, .int fa])))) t (some (.inr (10, [.int (nI u), .ref (t + 1), .ref (t + 3), .ref (t + 5), .ref r, .int 0, .int 0])))) (t + 3) (some (.inr (6, [.ref (t + 4), .int 0])))) t u r (0, false, 0, fun _ => 0) ∧ rwR Γ (va_up (va_up (va_up (va_up M t (some (.inr (10, [.int (nI u), .ref (t + 1), .ref (t + 3), .ref (t + 5), .ref r, .int pl, .int fa])))) t (some (.inr (10, [.int (nI u), .ref (t + 1), .ref (t + 3), .ref (t + 5), .ref r, .int 0, .int fa])))) t (some (.inr (10, [.int (nI u), .ref (t + 1), .ref (t + 3), .ref (t + 5), .ref r, .int 0, .int 0])))) (t + 3) (some (.inr (6, [.ref (t + 4), .int 0])))) r 50 (σ 6) (fun j => σ (195 + j)) ∧ OfT t M (va_up (va_up (va_up (va_up M t (some (.inr (10, [.int (nI u), .ref (t + 1), .ref (t + 3), .ref (t + 5), .ref r, .int pl, .int fa])))) t (some (.inr (10, [.int (nI u), .ref (t + 1), .ref (t + 3), .ref (t + 5), .ref r, .int 0, .int fa])))) t (some (.inr (10, [.int (nI u), .ref (t + 1), .ref (t + 3), .ref (t + 5), .ref r, .int 0, .int 0])))) (t + 3) (some (.inr (6, [.ref (t + 4), .int 0])))) := by
  obtain ⟨df, hdf⟩ := hd4
  have hO : OfT t M (va_up (va_up (va_up (va_up M t (some (.inr (10, [.int (nI u), .ref (t + 1), .ref (t + 3), .ref (t + 5), .ref r, .int pl, .int fa])))) t (some (.inr (10, [.int (nI u), .ref (t + 1), .ref (t + 3), .ref (t + 5), .ref r, .int 0, .int fa])))) t (some (.inr (10, [.int (nI u), .ref (t + 1), .ref (t + 3), .ref (t + 5), .ref r, .int 0, .int 0])))) (t + 3) (some (.inr (6, [.ref (t + 4), .int 0])))) := fun q g1 g2 g3 => (up_ne g2).trans ((up_ne g1).trans ((up_ne g1).trans (up_ne g1)))
  refine ⟨⟨(up_ne (by omega)).trans up_eq, 0, df, by omega, up_eq, (up_ne (by omega)).trans ((up_ne (by omega)).trans ((up_ne (by omega)).trans ((up_ne (by omega)).trans hdf))), fun _ => ⟨rfl, fun j hj => absurd hj (Nat.not_lt_zero _)⟩⟩, hR.tr (hO _ (by omega) (by omega) (by omega)) (hO _ (by omega) (by omega) (by omega)) rfl (fun _ _ => rfl), hO⟩

set_option maxHeartbeats 1000000 in
theorem t_read {Γ : Cx} {t u r tn sz : Nat} {σ : Rw} {M : Nat → Option va_E} {K : Int32 → Wd → Prop} (hu : u < 2) (e6 : σ 6 = nI tn) (ht : tn ≤ 50) (hB : InvB σ) (hrt : r + 2 ≤ t) (hX : TxM Γ M t u σ) (hR : rwR Γ M r 50 (σ 6) (fun j => σ (195 + j))) (hTk : TxOk σ u) (k1 : ∀ M', TxM Γ M' t u σ → (∀ q, q < t ∨ t + 6 ≤ q → M' q = M q) → ((txS σ u).2.1 || decide (nI (txS σ u).1 < σ 6)) = true → K (nI (txS σ u).1) (M', sz)) (k2 : ∀ M', TxM Γ M' t u (txU σ u (txS σ u).2.2.1 (txS σ u).2.2.2 (txS σ u).2.2.1) → (∀ q, q < t ∨ t + 6 ≤ q → M' q = M q) → ((txS σ u).2.1 || decide (nI (txS σ u).1 < σ 6)) = false → K (-1) (M', sz)) : Spec Γ mX10_read 77 0 [.ref t, .ref r] (M, sz) (ci K) := by
  obtain ⟨⟨tp, pl, fa, h0⟩, ⟨hX1, fs, hX2, hX3⟩, ⟨dn0, df0, hd1, hd2⟩, ⟨sf, hX5⟩⟩ := id hX
  refine spec_in [some (.ref t), some (.ref r)] 0 (by decide) rfl rfl ?_
  refine ok_aload_n (pc := 0) dX10_read_0 rfl ?_
  refine ok_aload_n (pc := 1) dX10_read_1 rfl ?_
  refine ok_putf (pc := 2) dX10_read_2 pl_X10_39 h0 rfl rfl (by show 4 < 7; decide) ?_
  have h0 : (va_up M t (some (.inr (10, [.int (nI u), .ref (t + 1), .ref (t + 3), .ref (t + 5), .ref r, .int pl, .int fa])))) t = some (.inr (10, [.int (nI u), .ref (t + 1), .ref (t + 3), .ref (t + 5), .ref r, .int pl, .int fa])) := up_eq
  refine ok_aload_n (pc := 5) dX10_read_5 rfl ?_
  refine ok_iconst (pc := 6) (v := 0) dX10_read_6 (by decide) ?_
  refine ok_putf (pc := 7) dX10_read_7 pl_X10_42 h0 rfl rfl (by show 5 < 7; decide) ?_
  have h0 : (va_up (va_up M t (some (.inr (10, [.int (nI u), .ref (t + 1), .ref (t + 3), .ref (t + 5), .ref r, .int pl, .int fa])))) t (some (.inr (10, [.int (nI u), .ref (t + 1), .ref (t + 3), .ref (t + 5), .ref r, .int 0, .int fa])))) t = some (.inr (10, [.int (nI u), .ref (t + 1), .ref (t + 3), .ref (t + 5), .ref r, .int 0, .int fa])) := up_eq
  refine ok_aload_n (pc := 10) dX10_read_10 rfl ?_
  refine ok_iconst (pc := 11) (v := 0) dX10_read_11 (by decide) ?_
  refine ok_putf (pc := 12) dX10_read_12 pl_X10_45 h0 rfl rfl (by show 6 < 7; decide) ?_
  have h0 : (va_up (va_up (va_up M t (some (.inr (10, [.int (nI u), .ref (t + 1), .ref (t + 3), .ref (t + 5), .ref r, .int pl, .int fa])))) t (some (.inr (10, [.int (nI u), .ref (t + 1), .ref (t + 3), .ref (t + 5), .ref r, .int 0, .int fa])))) t (some (.inr (10, [.int (nI u), .ref (t + 1), .ref (t + 3), .ref (t + 5), .ref r, .int 0, .int 0])))) t = some (.inr (10, [.int (nI u), .ref (t + 1), .ref (t + 3), .ref (t + 5), .ref r, .int 0, .int 0])) := up_eq
  have hd0 : (va_up (va_up (va_up M t (some (.inr (10, [.int (nI u), .ref (t + 1), .ref (t + 3), .ref (t + 5), .ref r, .int pl, .int fa])))) t (some (.inr (10, [.int (nI u), .ref (t + 1), .ref (t + 3), .ref (t + 5), .ref r, .int 0, .int fa])))) t (some (.inr (10, [.int (nI u), .ref (t + 1), .ref (t + 3), .ref (t + 5), .ref r, .int 0, .int 0])))) (t + 3) = some (.inr (6, [.ref (t + 4), .int dn0])) := (up_ne (by omega)).trans ((up_ne (by omega)).trans ((up_ne (by omega)).trans hd1))
  have hd4 : (va_up (va_up (va_up M t (some (.inr (10, [.int (nI u), .ref (t + 1), .ref (t + 3), .ref (t + 5), .ref r, .int pl, .int fa])))) t (some (.inr (10, [.int (nI u), .ref (t + 1), .ref (t + 3), .ref (t + 5), .ref r, .int 0, .int fa])))) t (some (.inr (10, [.int (nI u), .ref (t + 1), .ref (t + 3), .ref (t + 5), .ref r, .int 0, .int 0])))) (t + 4) = aI Γ 50 df0 := (up_ne (by omega)).trans ((up_ne (by omega)).trans ((up_ne (by omega)).trans hd2))
  refine ok_aload_n (pc := 15) dX10_read_15 rfl ?_
  refine ok_getf (pc := 16) dX10_read_16 fl_X10_20 h0 rfl ?_
  refine ok_callVv0 (pc := 19) (d' := 0) dX10_read_19 vl_X10_49 hd0 rfl rfl rfl (by decide) ?_
  refine c_clear hd0 hd4 ?_
  have h0 := (up_ne (M := (va_up (va_up (va_up M t (some (.inr (10, [.int (nI u), .ref (t + 1), .ref (t + 3), .ref (t + 5), .ref r, .int pl, .int fa])))) t (some (.inr (10, [.int (nI u), .ref (t + 1), .ref (t + 3), .ref (t + 5), .ref r, .int 0, .int fa])))) t (some (.inr (10, [.int (nI u), .ref (t + 1), .ref (t + 3), .ref (t + 5), .ref r, .int 0, .int 0]))))) (a := t + 3) (b := t) (e := some (.inr (6, [.ref (t + 4), .int 0]))) (by omega)).trans h0
  refine ok_aload_n (pc := 22) dX10_read_22 rfl ?_
  refine ok_iconst (pc := 23) (v := 0) dX10_read_23 (by decide) ?_
  refine ok_iconst (pc := 24) (v := 0) dX10_read_24 (by decide) ?_
  refine ok_callVv2 (pc := 25) (d' := 76) dX10_read_25 vl_X10_52 h0 rfl rfl rfl (by decide) ?_
  obtain ⟨hT0, hR0, hO0⟩ := tx_begin (Γ := Γ) (u := u) (pl := pl) (fa := fa) hrt ⟨_, hd2⟩ hR
  refine t_level e6 ht hB hrt (dP := 65) (by decide) (t_part hu e6 ht hB hrt 5 0 rfl) (Mn.ptF (u := u) e6 ht 5) 5 (Nat.le_refl _) (0, false, 0, fun _ => 0) _ _ (Nat.zero_le _) (Nat.le_refl _) hT0 hR0 (fun M5 hT5 hO5 => ?_)
  have hO := hO0.tr hO5
  have hT5 : TxP Γ M5 t u r (txS σ u) := hT5
  obtain ⟨s1, s2⟩ := txS_ok (u := u) e6 ht
  have h0 := hT5.1
  have hR := hR.tr (hO _ (by omega) (by omega) (by omega)) (hO _ (by omega) (by omega) (by omega)) rfl (fun _ _ => rfl)
  have hst : rwR Γ M5 (t + 1) 50 (nI (cdF σ u).1) (fun j => enC ((cdF σ u).2 j)) := ⟨(hO _ (by omega) (by omega) (by omega)).trans hX1, fs, (hO _ (by omega) (by omega) (by omega)).trans hX2, fun j hj => hX3 j (by rw [show iN (nI (cdF σ u).1) = (cdF σ u).1 from nI_clamp (by have := cd_50 hTk; omega)] at hj; exact hj)⟩
  have hsk : ∃ sf, M5 (t + 5) = aI Γ 50 sf := ⟨sf, (hO _ (by omega) (by omega) (by omega)).trans hX5⟩
  have hXM : TxM Γ M5 t u σ := tx_st hT5 ⟨hst.1, fs, (hO _ (by omega) (by omega) (by omega)).trans hX2, hX3⟩ hsk
  have hof : ∀ q, q < t ∨ t + 6 ≤ q → M5 q = M q := fun q hq => hO q (by omega) (by omega) (by omega)
  refine ok_aload_n (pc := 28) dX10_read_28 rfl ?_
  refine ok_getf (pc := 29) dX10_read_29 fl_X10_45 h0 rfl ?_
  refine ok_if_ne (pc := 32) 46 dX10_read_32 (by decide) (fun cc_32 => ?_) (fun cc_32 => ?_)
  · refine ok_aload_n (pc := 46) dX10_read_46 rfl ?_
    refine ok_getf (pc := 47) dX10_read_47 fl_X10_42 h0 rfl ?_
    refine ok_iret (pc := 50) dX10_read_50 rfl ?_
    have hcond : ((txS σ u).2.1 || decide (nI (txS σ u).1 < σ 6)) = true := by
      cases c9 : (txS σ u).2.1 with
      | true => rfl
      | false =>
        rw [Bool.false_or]
        exact decide_eq_true (Int32.not_le.mp (fun h9 => by
          first
            | exact absurd h9 cc_43
            | (rw [c9] at cc_32; exact cc_32 rfl)))
    exact k1 _ hXM hof hcond
  · refine ok_aload_n (pc := 35) dX10_read_35 rfl ?_
    refine ok_getf (pc := 36) dX10_read_36 fl_X10_42 h0 rfl ?_
    refine ok_aload_n (pc := 39) dX10_read_39 rfl ?_
    refine ok_getf (pc := 40) dX10_read_40 fl_X10_56 hR.1 rfl ?_
    refine ok_icmp_ge (pc := 43) 51 dX10_read_43 (by decide) (fun cc_43 => ?_) (fun cc_43 => ?_)
    · have ce_43 := Int32.not_lt.mpr cc_43
      refine ok_aload_n (pc := 51) dX10_read_51 rfl ?_
      obtain ⟨-, dn7, df7, -, hd0, -, -⟩ := id hT5
      refine ok_getf (pc := 52) dX10_read_52 fl_X10_14 h0 rfl ?_
      refine ok_aload_n (pc := 55) dX10_read_55 rfl ?_
      refine ok_getf (pc := 56) dX10_read_56 fl_X10_20 h0 rfl ?_
      refine ok_callVv1 (pc := 59) (d' := 1) dX10_read_59 vl_X10_35 hst.1 rfl rfl rfl (by decide) ?_
      have hw9 : (txS σ u).2.1 = false := bI_0.mp cc_32
      obtain ⟨w9, d9⟩ := tx_wf hu hB e6 ht hw9
      have hn1 : 1 ≤ (txS σ u).2.2.1 := by
        rcases Nat.eq_zero_or_pos (txS σ u).2.2.1 with g | g
        · rw [g] at d9
          exact absurd d9 (show ¬ 0 = 1 by decide)
        · exact g
      obtain ⟨-, dn, df, ldn, hdr, hdc, hdd⟩ := id hT5
      obtain ⟨edn, hdj⟩ := hdd hw9
      have hdraft : rwR Γ M5 (t + 3) 50 (nI (txS σ u).2.2.1) (fun j => enC ((txS σ u).2.2.2 j)) := ⟨by rw [← edn]; exact hdr, df, hdc, fun j hj => hdj j (by rw [show iN (nI (txS σ u).2.2.1) = (txS σ u).2.2.1 from nI_clamp (by omega)] at hj; omega)⟩
      refine c_rcp hst hdraft (txS σ u).2.2.1 rfl (by omega) (by decide) (fun M6 hst6 hO6 => ?_)
      obtain ⟨c1, c2⟩ := cd_txU (σ := σ) (f := (txS σ u).2.2.2) (u := u) hn1 (show (txS σ u).2.2.1 ≤ 50 by omega)
      obtain ⟨hs60, f6, hs61, hs62⟩ := hst6
      have hX6 : TxM Γ M6 t u (txU σ u (txS σ u).2.2.1 (txS σ u).2.2.2 (txS σ u).2.2.1) := by
        refine ⟨⟨some r, nI (txS σ u).1, bI (txS σ u).2.1, (hO6 _ (by omega)).trans h0⟩, ⟨by rw [c1]; exact hs60, f6, hs61, fun j hj => ?_⟩, ⟨_, _, (hO6 _ (by omega)).trans hdr, (hO6 _ (by omega)).trans hdc⟩, ?_⟩
        · rw [c1] at hj
          rw [c2 j hj]
          exact hs62 j (by rw [show iN (nI (txS σ u).2.2.1) = (txS σ u).2.2.1 from nI_clamp (by omega)]; exact hj)
        · obtain ⟨sf9, h9⟩ := hsk
          exact ⟨sf9, (hO6 _ (by omega)).trans h9⟩
      refine ok_iconst (pc := 62) (v := -1) dX10_read_62 (by decide) ?_
      refine ok_iret (pc := 63) dX10_read_63 rfl ?_
      have hcond : ((txS σ u).2.1 || decide (nI (txS σ u).1 < σ 6)) = false := by rw [hw9, Bool.false_or]; exact decide_eq_false (Int32.not_lt.mpr cc_43)
      exact k2 _ hX6 (fun q hq => (hO6 q (by omega)).trans (hof q hq)) hcond
    · have ce_43 := Int32.not_le.mp cc_43
      refine ok_aload_n (pc := 46) dX10_read_46 rfl ?_
      refine ok_getf (pc := 47) dX10_read_47 fl_X10_42 h0 rfl ?_
      refine ok_iret (pc := 50) dX10_read_50 rfl ?_
      have hcond : ((txS σ u).2.1 || decide (nI (txS σ u).1 < σ 6)) = true := by
        cases c9 : (txS σ u).2.1 with
        | true => rfl
        | false =>
          rw [Bool.false_or]
          exact decide_eq_true (Int32.not_le.mp (fun h9 => by
            first
              | exact absurd h9 cc_43
              | (rw [c9] at cc_32; exact cc_32 rfl)))
      exact k1 _ hXM hof hcond

set_option maxHeartbeats 1000000 in
theorem x_tx48 {Γ : Cx} {a e z sz tx : Nat} {ρ κ vi : Rw} {va : Nat → Rw} {M M0 : Nat → Option va_E} {K : Int32 → Wd → Prop} (hC : ClsR Γ a e z ρ κ vi va M) (hI : Inv ρ) (hae : a + 92 ≤ e) {x v : Int32} (hO : Off a 92 M0 M) (k : ∀ M', ClsR Γ a e z (upd ρ 6 0) κ vi va M' → Off a 92 M0 M' → K (if v < 0 then 1 else -10 - v) (M', sz)) : Ok Γ mX11_text 78 0 48 [some (.ref a), some (.int x), some (.ref tx), none] [.int v] (M, sz) (ci K) := by
  refine ok_istore_n3 (pc := 48) dX11_text_48 (by decide) rfl ?_
  refine ok_aload_n (pc := 49) dX11_text_49 rfl ?_
  refine ok_getf (pc := 50) dX11_text_50 fl_X11_10 hC.1 rfl ?_
  refine ok_getf (pc := 53) dX11_text_53 fl_X11_137 hC.2.1.o rfl ?_
  refine ok_callVv0 (pc := 56) (d' := 0) dX11_text_56 vl_X11_159 hC.2.1.tp.1 rfl rfl rfl (by decide) ?_
  obtain ⟨-, fw, fw1, fw2⟩ := id hC.2.1.tp
  refine c_clear hC.2.1.tp.1 fw1 ?_
  obtain ⟨hP9, hO9⟩ := pst_clr_tp hC.2.1 hI.bd (by omega)
  have hC := hC.po hI hae hP9 (fun q hq => hO9 q (by omega))
  have hO := hO.trans (hO9.sub (a := a) (n := 92) (by omega) (by omega))
  refine ok_iload_n (pc := 59) dX11_text_59 rfl ?_
  refine ok_if_ge (pc := 60) 67 dX11_text_60 (by decide) (fun cc_60 => ?_) (fun cc_60 => ?_)
  · have ce_60 := Int32.not_lt.mpr cc_60
    refine ok_bipush (pc := 67) (v := -10) dX11_text_67 (by decide) ?_
    refine ok_iload_n (pc := 69) dX11_text_69 rfl ?_
    refine ok_isub (pc := 70) dX11_text_70 ?_
    refine ok_iret (pc := 71) dX11_text_71 rfl ?_
    first
      | (rw [if_pos (Int32.not_le.mp cc_60)] at k; exact k _ hC hO)
      | (rw [if_neg (Int32.not_lt.mpr cc_60)] at k; exact k _ hC hO)
  · have ce_60 := Int32.not_le.mp cc_60
    refine ok_iconst (pc := 63) (v := 1) dX11_text_63 (by decide) ?_
    refine ok_goto (pc := 64) 71 dX11_text_64 (by decide) ?_
    refine ok_iret (pc := 71) dX11_text_71 rfl ?_
    first
      | (rw [if_pos (Int32.not_le.mp cc_60)] at k; exact k _ hC hO)
      | (rw [if_neg (Int32.not_lt.mpr cc_60)] at k; exact k _ hC hO)

set_option maxHeartbeats 1000000 in
theorem x_text0 {Γ : Cx} {a e z sz : Nat} {σ κ vi : Rw} {va : Nat → Rw} {M : Nat → Option va_E} {K : Int32 → Wd → Prop} (hC : ClsR Γ a e z σ κ vi va M) (hI : Inv σ) (hae : a + 92 ≤ e) {x : Int32} (ex : x = nI 0) (k : ∀ M', ClsR Γ a e z (op_text σ x).2.2 κ vi (eU va (op_text σ x).1) M' → Off a 92 M M' → K (op_text σ x).2.1 (M', sz)) : Spec Γ mX11_text 78 0 [.ref a, .int x] (M, sz) (ci K) := by
  obtain ⟨⟨⟨eH, lH⟩, ⟨eK, lK⟩, ⟨eL, lL⟩, ⟨eA, lA⟩, ⟨eT, lT⟩⟩, iK, iH, iW, iL, iO, iB, hT⟩ := id hI
  obtain ⟨⟨tn, e6, ht6⟩, -⟩ := id iB
  obtain ⟨s1, s2⟩ := txS_ok (u := 0) e6 ht6
  obtain ⟨⟨tp9, pl9, fa9, hli⟩, -⟩ := id hC.2.1.li
  obtain ⟨⟨tp8, pl8, fa8, hpa⟩, -⟩ := id hC.2.1.pa
  
  refine spec_in [some (.ref a), some (.int x), none, none] 2 (by decide) rfl rfl ?_
  refine ok_iload_n (pc := 0) dX11_text_0 rfl ?_
  refine ok_iconst (pc := 1) (v := 0) dX11_text_1 (by decide) ?_
  refine ok_iconst (pc := 2) (v := 1) dX11_text_2 (by decide) ?_
  refine ok_callSi3 (pc := 3) (d' := 0) dX11_text_3 sl_X11_45 rfl (by decide) ?_
  refine c_within ?_
  refine ok_if_ne (pc := 6) 15 dX11_text_6 (by decide) (fun cc_6 => ?_) (fun cc_6 => ?_)
  · have cq_6 := bI_n0.mp cc_6
    refine ok_iload_n (pc := 15) dX11_text_15 rfl ?_
    refine ok_if_ne (pc := 16) 29 dX11_text_16 (by decide) (fun cc_16 => ?_) (fun cc_16 => ?_)
    · exact absurd ex cc_16
    · refine ok_aload_n (pc := 19) dX11_text_19 rfl ?_
      refine ok_getf (pc := 20) dX11_text_20 fl_X11_10 hC.1 rfl ?_
      refine ok_getf (pc := 23) dX11_text_23 fl_X11_146 hC.2.1.o rfl ?_
      refine ok_goto (pc := 26) 36 dX11_text_26 (by decide) ?_
      refine ok_astore_n2 (pc := 36) dX11_text_36 (by decide) rfl ?_
      refine ok_aload_n (pc := 37) dX11_text_37 rfl ?_
      refine ok_aload_n (pc := 38) dX11_text_38 rfl ?_
      refine ok_getf (pc := 39) dX11_text_39 fl_X11_10 hC.1 rfl ?_
      refine ok_getf (pc := 42) dX11_text_42 fl_X11_137 hC.2.1.o rfl ?_
      refine ok_callVi1 (pc := 45) (d' := 77) dX11_text_45 vl_X11_153 hli rfl rfl rfl (by decide) ?_
      refine t_read (u := 0) (by decide) e6 ht6 iB (by omega) hC.2.1.li hC.2.1.tp (hT 0 (by decide)) (fun M9 hX9 hO9 hcn => ?_) (fun M9 hX9 hO9 hcn => ?_)
      · have hP9 := hC.2.1.tx (fun q9 hq9 => hO9 q9 (by omega)) (by omega) lK hX9 (hC.2.1.pa.same (fun q g1 g2 => hO9 q (by omega)))
        have hC9 := hC.po hI hae hP9 (fun q hq => hO9 q (by omega))
        have hop : op_text σ x = (0, -10 - nI (txS σ 0).1, upd σ 6 0) := by
          unfold op_text
          rw [if_pos (by rw [ex]; decide), ex, show iN (nI 0) = 0 from rfl]
          exact if_pos hcn
        rw [hop] at k
        rw [eU_0] at k
        refine x_tx48 hC9 hI hae (fun q hq => hO9 q (by omega)) (fun M8 hC8 hO8 => ?_)
        rw [if_neg (nI_pos (by omega))]
        exact k _ hC8 hO8
      · have hw9 : (txS σ 0).2.1 = false := by
          rw [Bool.or_eq_false_iff] at hcn
          exact hcn.1
        obtain ⟨w9, d9⟩ := tx_wf (u := 0) (by decide) iB e6 ht6 hw9
        have hIt : Inv (txU σ 0 (txS σ 0).2.2.1 (txS σ 0).2.2.2 (txS σ 0).2.2.1) := Inv_txU hI (by decide) (by omega) w9 (fun _ => d9)
        have hP9 := pst_txt hC.2.1 hI (by omega) (fun q9 hq9 => hO9 q9 (by omega)) (fun j hj => txU_lo hj) hX9 (hC.2.1.pa.tr (fun q g1 g2 => hO9 q (by omega)) (cd_u (fun j g1 g2 => by unfold txU; rw [if_neg (by omega), if_neg (by omega)]) (hT 1 (by decide))))
        have hC9 := hC.po hI hae hP9 (fun q hq => hO9 q (by omega))
        have hop : op_text σ x = (0, 1, txU (upd σ 6 0) 0 (txS σ 0).2.2.1 (txS σ 0).2.2.2 (txS σ 0).2.2.1) := by
          unfold op_text
          rw [if_pos (by rw [ex]; decide), ex, show iN (nI 0) = 0 from rfl]
          exact if_neg (by rw [hcn]; decide)
        rw [hop] at k
        rw [eU_0] at k
        refine x_tx48 hC9 hIt hae (fun q hq => hO9 q (by omega)) (fun M8 hC8 hO8 => ?_)
        rw [txU_6] at hC8
        rw [if_pos (by decide)]
        exact k _ hC8 hO8
  · rw [ex] at cc_6
    exact absurd cc_6 (by decide)

set_option maxHeartbeats 1000000 in
theorem x_text1 {Γ : Cx} {a e z sz : Nat} {σ κ vi : Rw} {va : Nat → Rw} {M : Nat → Option va_E} {K : Int32 → Wd → Prop} (hC : ClsR Γ a e z σ κ vi va M) (hI : Inv σ) (hae : a + 92 ≤ e) {x : Int32} (ex : x = nI 1) (k : ∀ M', ClsR Γ a e z (op_text σ x).2.2 κ vi (eU va (op_text σ x).1) M' → Off a 92 M M' → K (op_text σ x).2.1 (M', sz)) : Spec Γ mX11_text 78 0 [.ref a, .int x] (M, sz) (ci K) := by
  obtain ⟨⟨⟨eH, lH⟩, ⟨eK, lK⟩, ⟨eL, lL⟩, ⟨eA, lA⟩, ⟨eT, lT⟩⟩, iK, iH, iW, iL, iO, iB, hT⟩ := id hI
  obtain ⟨⟨tn, e6, ht6⟩, -⟩ := id iB
  obtain ⟨s1, s2⟩ := txS_ok (u := 1) e6 ht6
  obtain ⟨⟨tp9, pl9, fa9, hli⟩, -⟩ := id hC.2.1.li
  obtain ⟨⟨tp8, pl8, fa8, hpa⟩, -⟩ := id hC.2.1.pa
  
  refine spec_in [some (.ref a), some (.int x), none, none] 2 (by decide) rfl rfl ?_
  refine ok_iload_n (pc := 0) dX11_text_0 rfl ?_
  refine ok_iconst (pc := 1) (v := 0) dX11_text_1 (by decide) ?_
  refine ok_iconst (pc := 2) (v := 1) dX11_text_2 (by decide) ?_
  refine ok_callSi3 (pc := 3) (d' := 0) dX11_text_3 sl_X11_45 rfl (by decide) ?_
  refine c_within ?_
  refine ok_if_ne (pc := 6) 15 dX11_text_6 (by decide) (fun cc_6 => ?_) (fun cc_6 => ?_)
  · have cq_6 := bI_n0.mp cc_6
    refine ok_iload_n (pc := 15) dX11_text_15 rfl ?_
    refine ok_if_ne (pc := 16) 29 dX11_text_16 (by decide) (fun cc_16 => ?_) (fun cc_16 => ?_)
    · refine ok_aload_n (pc := 29) dX11_text_29 rfl ?_
      refine ok_getf (pc := 30) dX11_text_30 fl_X11_10 hC.1 rfl ?_
      refine ok_getf (pc := 33) dX11_text_33 fl_X11_150 hC.2.1.o rfl ?_
      refine ok_astore_n2 (pc := 36) dX11_text_36 (by decide) rfl ?_
      refine ok_aload_n (pc := 37) dX11_text_37 rfl ?_
      refine ok_aload_n (pc := 38) dX11_text_38 rfl ?_
      refine ok_getf (pc := 39) dX11_text_39 fl_X11_10 hC.1 rfl ?_
      refine ok_getf (pc := 42) dX11_text_42 fl_X11_137 hC.2.1.o rfl ?_
      refine ok_callVi1 (pc := 45) (d' := 77) dX11_text_45 vl_X11_153 hpa rfl rfl rfl (by decide) ?_
      refine t_read (u := 1) (by decide) e6 ht6 iB (by omega) hC.2.1.pa hC.2.1.tp (hT 1 (by decide)) (fun M9 hX9 hO9 hcn => ?_) (fun M9 hX9 hO9 hcn => ?_)
      · have hP9 := hC.2.1.tx (fun q9 hq9 => hO9 q9 (by omega)) (by omega) lK (hC.2.1.li.same (fun q g1 g2 => hO9 q (by omega))) hX9
        have hC9 := hC.po hI hae hP9 (fun q hq => hO9 q (by omega))
        have hop : op_text σ x = (0, -10 - nI (txS σ 1).1, upd σ 6 0) := by
          unfold op_text
          rw [if_pos (by rw [ex]; decide), ex, show iN (nI 1) = 1 from rfl]
          exact if_pos hcn
        rw [hop] at k
        rw [eU_0] at k
        refine x_tx48 hC9 hI hae (fun q hq => hO9 q (by omega)) (fun M8 hC8 hO8 => ?_)
        rw [if_neg (nI_pos (by omega))]
        exact k _ hC8 hO8
      · have hw9 : (txS σ 1).2.1 = false := by
          rw [Bool.or_eq_false_iff] at hcn
          exact hcn.1
        obtain ⟨w9, d9⟩ := tx_wf (u := 1) (by decide) iB e6 ht6 hw9
        have hIt : Inv (txU σ 1 (txS σ 1).2.2.1 (txS σ 1).2.2.2 (txS σ 1).2.2.1) := Inv_txU hI (by decide) (by omega) w9 (fun _ => d9)
        have hP9 := pst_txt hC.2.1 hI (by omega) (fun q9 hq9 => hO9 q9 (by omega)) (fun j hj => txU_lo hj) (hC.2.1.li.tr (fun q g1 g2 => hO9 q (by omega)) (cd_u (fun j g1 g2 => by unfold txU; rw [if_neg (by omega), if_neg (by omega)]) (hT 0 (by decide)))) hX9
        have hC9 := hC.po hI hae hP9 (fun q hq => hO9 q (by omega))
        have hop : op_text σ x = (0, 1, txU (upd σ 6 0) 1 (txS σ 1).2.2.1 (txS σ 1).2.2.2 (txS σ 1).2.2.1) := by
          unfold op_text
          rw [if_pos (by rw [ex]; decide), ex, show iN (nI 1) = 1 from rfl]
          exact if_neg (by rw [hcn]; decide)
        rw [hop] at k
        rw [eU_0] at k
        refine x_tx48 hC9 hIt hae (fun q hq => hO9 q (by omega)) (fun M8 hC8 hO8 => ?_)
        rw [txU_6] at hC8
        rw [if_pos (by decide)]
        exact k _ hC8 hO8
    · rw [ex] at cc_16
      exact absurd cc_16 (by decide)
  · rw [ex] at cc_6
    exact absurd cc_6 (by decide)

set_option maxHeartbeats 1000000 in
theorem x_textF {Γ : Cx} {a e z sz : Nat} {σ κ vi : Rw} {va : Nat → Rw} {M : Nat → Option va_E} {K : Int32 → Wd → Prop} (hC : ClsR Γ a e z σ κ vi va M) (hI : Inv σ) (hae : a + 92 ≤ e) {x : Int32} (hx : wi x 0 1 = false) (k : ∀ M', ClsR Γ a e z (op_text σ x).2.2 κ vi (eU va (op_text σ x).1) M' → Off a 92 M M' → K (op_text σ x).2.1 (M', sz)) : Spec Γ mX11_text 78 0 [.ref a, .int x] (M, sz) (ci K) := by
  refine spec_in [some (.ref a), some (.int x), none, none] 2 (by decide) rfl rfl ?_
  refine ok_iload_n (pc := 0) dX11_text_0 rfl ?_
  refine ok_iconst (pc := 1) (v := 0) dX11_text_1 (by decide) ?_
  refine ok_iconst (pc := 2) (v := 1) dX11_text_2 (by decide) ?_
  refine ok_callSi3 (pc := 3) (d' := 0) dX11_text_3 sl_X11_45 rfl (by decide) ?_
  refine c_within ?_
  refine ok_if_ne (pc := 6) 15 dX11_text_6 (by decide) (fun cc_6 => ?_) (fun cc_6 => ?_)
  · rw [hx] at cc_6
    exact absurd rfl cc_6
  · have cq_6 := bI_0.mp cc_6
    refine ok_aload_n (pc := 9) dX11_text_9 rfl ?_
    refine ok_iconst (pc := 10) (v := 1) dX11_text_10 (by decide) ?_
    refine ok_callVi1 (pc := 11) (d' := 1) dX11_text_11 vl_X11_49 hC.1 rfl rfl rfl (by decide) ?_
    refine c_error hC hI hae 1 rfl (by decide) (by decide) (fun M2 hC2 hO2 => ?_)
    refine ok_iret (pc := 14) dX11_text_14 rfl ?_
    have hop : op_text σ x = e3 1 σ := if_neg (by rw [hx]; decide)
    rw [hop] at k
    exact k _ hC2 hO2

theorem x_text {Γ : Cx} {a e z sz : Nat} {σ κ vi : Rw} {va : Nat → Rw} {M : Nat → Option va_E} {K : Int32 → Wd → Prop} (hC : ClsR Γ a e z σ κ vi va M) (hI : Inv σ) (hae : a + 92 ≤ e) {x : Int32} (k : ∀ M', ClsR Γ a e z (op_text σ x).2.2 κ vi (eU va (op_text σ x).1) M' → Off a 92 M M' → K (op_text σ x).2.1 (M', sz)) : Spec Γ mX11_text 78 0 [.ref a, .int x] (M, sz) (ci K) := by
  cases hx : wi x 0 1 with
  | false => exact x_textF hC hI hae hx k
  | true =>
    obtain ⟨ex, -, lx⟩ := wi_lit (a := 0) (c := 1) rfl rfl (by decide) (by decide) hx
    rcases (show iN x = 0 ∨ iN x = 1 by omega) with g | g
    · rw [g] at ex
      exact x_text0 hC hI hae ex k
    · rw [g] at ex
      exact x_text1 hC hI hae ex k
