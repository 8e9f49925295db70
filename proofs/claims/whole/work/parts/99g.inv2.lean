theorem Inv_tel {σ : Rw} (hI : Inv σ) {n : Nat} {v : Int32} (hn : n < 20) : Inv (upd (upd σ (245 + n) v) 7 (nI (n + 1))) := by
  obtain ⟨⟨⟨eH, lH⟩, ⟨eK, lK⟩, ⟨eL, lL⟩, ⟨eA, lA⟩, ⟨eT, lT⟩⟩, iK, iH, iW, iL, iO, iB, hT⟩ := id hI
  have off : ∀ {j : Nat}, j ≠ 245 + n ∧ j ≠ 7 → (upd (upd σ (245 + n) v) 7 (nI (n + 1))) j = σ j := fun hj => (upd_ne hj.2).trans (upd_ne hj.1)
  have qH : cH (upd (upd σ (245 + n) v) 7 (nI (n + 1))) = cH σ := by unfold cH; rw [off (by omega)]
  have qK : cK (upd (upd σ (245 + n) v) 7 (nI (n + 1))) = cK σ := by unfold cK; rw [off (by omega)]
  have qL : cL (upd (upd σ (245 + n) v) 7 (nI (n + 1))) = cL σ := by unfold cL; rw [off (by omega)]
  have qA : cA (upd (upd σ (245 + n) v) 7 (nI (n + 1))) = cA σ := by unfold cA; rw [off (by omega)]
  have qT : cT (upd (upd σ (245 + n) v) 7 (nI (n + 1))) = cT σ := by unfold cT; rw [off (by omega)]
  have hkf : ∀ k_ f_, k_ < 8 → f_ < 6 → kf (upd (upd σ (245 + n) v) 7 (nI (n + 1))) k_ f_ = kf σ k_ f_ := fun k_ f_ hk_ hf_ => by unfold kf; exact off (by omega)
  have hlf : ∀ k_ f_, k_ < 12 → f_ < 7 → lf (upd (upd σ (245 + n) v) 7 (nI (n + 1))) k_ f_ = lf σ k_ f_ := fun k_ f_ hk_ hf_ => by unfold lf; exact off (by omega)
  refine ⟨⟨⟨?_, ?_⟩, ⟨?_, ?_⟩, ⟨?_, ?_⟩, ⟨?_, ?_⟩, ⟨?_, ?_⟩⟩, ?_, ?_, ?_, ?_, ?_, ?_, ?_⟩
  · rw [qH, off (by omega)]; exact eH
  · rw [qH]; exact lH
  · rw [qK, off (by omega)]; exact eK
  · rw [qK]; exact lK
  · rw [qL, off (by omega)]; exact eL
  · rw [qL]; exact lL
  · rw [qA, off (by omega)]; exact eA
  · rw [qA, qL, arN_same (σ := σ) (τ := (upd (upd σ (245 + n) v) 7 (nI (n + 1)))) (fun l hl => by unfold arF; rw [hlf l 6 (by omega) (by decide)])]; exact lA
  · rw [qT, off (by omega)]; exact eT
  · rw [qT]; exact lT
  · intro k hk
    rw [qK] at hk
    unfold hmF amF
    simp only [hkf k _ (show k < 8 by omega) (show 0 < 6 by decide), hkf k _ (show k < 8 by omega) (show 1 < 6 by decide), hkf k _ (show k < 8 by omega) (show 2 < 6 by decide), hkf k _ (show k < 8 by omega) (show 3 < 6 by decide), hkf k _ (show k < 8 by omega) (show 4 < 6 by decide), hkf k _ (show k < 8 by omega) (show 5 < 6 by decide), qH]
    exact iK k hk
  · intro q hq
    rw [qH] at hq
    have e1 : ∀ g, g < cH σ → (upd (upd σ (245 + n) v) 7 (nI (n + 1))) (9 + 2 * g) = σ (9 + 2 * g) := fun g hg => off (by omega)
    have e2 : hz (upd (upd σ (245 + n) v) 7 (nI (n + 1))) q = hz σ q := by unfold hz; exact off (by omega)
    rw [e2, qH, e1 q hq]
    obtain ⟨i1, i2, i3⟩ := iH q hq
    exact ⟨i1, i2, fun g hg he => i3 g hg (by rw [e1 g hg] at he; exact he)⟩
  · intro q hq
    have e1 : (upd (upd σ (245 + n) v) 7 (nI (n + 1))) (27 + q) = σ (27 + q) := off (by omega)
    unfold wdF
    rw [e1]
    exact iW q hq
  · intro q hq
    rw [qL] at hq
    unfold onF toF anF
    simp only [hlf q _ (show q < 12 by omega) (show 5 < 7 by decide), hlf q _ (show q < 12 by omega) (show 1 < 7 by decide), hlf q _ (show q < 12 by omega) (show 2 < 7 by decide), hlf q _ (show q < 12 by omega) (show 3 < 7 by decide), qH]
    exact iL q hq
  · intro q hq
    rw [qA] at hq
    have hq12 : cA σ ≤ 12 := by rw [lA]; exact Nat.le_trans (arN_le σ _) lL
    have e1 : (upd (upd σ (245 + n) v) 7 (nI (n + 1))) (183 + q) = σ (183 + q) := off (by omega)
    unfold orF
    rw [e1, qL]
    exact iO q hq
  · obtain ⟨⟨n1, b1, b2⟩, -, b5⟩ := iB
    refine ⟨⟨n1, by rw [off (by omega)]; exact b1, b2⟩, ⟨n + 1, upd_at, by omega⟩, fun j hj => ?_⟩
    rw [off (by omega)]
    exact b5 j hj
  · intro u hu
    exact TxOk_same (fun j hj => off (by omega)) (hT u hu)

theorem Inv_op_tell {σ : Rw} (hI : Inv σ) (v : Int32) : Inv (op_tell σ v).2.2 := by
  obtain ⟨-, ⟨n7, q7, l7⟩, -⟩ := id hI.2.2.2.2.2.2.1
  have h7 : iN (σ 7) = n7 := rw_in q7 (by omega)
  unfold op_tell
  split
  · exact hI
  · rename_i hn
    have hn2 : n7 < 20 := by
      rcases Nat.lt_or_ge n7 20 with g | g
      · exact g
      · exact absurd (by rw [q7, show n7 = 20 by omega]; rfl) hn
    show Inv (upd (upd σ (245 + iN (σ 7)) v) 7 (σ 7 + 1))
    rw [h7, q7, nI_1]
    exact Inv_tel hI hn2
theorem Inv_op_hill {σ : Rw} (hI : Inv σ) (x y : Int32) : Inv (op_hill σ x y).2.2 := by
  obtain ⟨⟨⟨eH, lH⟩, -⟩, -⟩ := id hI
  unfold op_hill
  split
  · rename_i h
    rw [Bool.and_eq_true] at h
    have hx := h.1
    have hy := h.2
    unfold wi at hx hy
    rw [Bool.and_eq_true] at hx hy
    split
    · exact hI
    · rename_i ht
      split
      · exact hI
      · rename_i h9
        refine Inv_ris hI ⟨of_decide_eq_true hx.1, of_decide_eq_true hx.2⟩ ⟨of_decide_eq_true hy.1, of_decide_eq_true hy.2⟩ ?_ (Bool.eq_false_iff.mpr ht)
        rcases Nat.lt_or_ge (cH σ) 9 with g | g
        · exact g
        · exact absurd (by rw [eH, show cH σ = 9 by omega]; rfl) h9
  · exact hI
theorem Inv_op_kite {σ : Rw} (hI : Inv σ) (x y w : Int32) : Inv (op_kite σ x y w).2.2 := by
  obtain ⟨⟨⟨eH, lH⟩, ⟨eK, lK⟩, -⟩, -⟩ := id hI
  unfold op_kite
  split
  · rename_i h
    rw [Bool.and_eq_true, Bool.and_eq_true, Bool.and_eq_true] at h
    obtain ⟨⟨⟨h1, h2⟩, h3⟩, h4⟩ := h
    split
    · exact hI
    · rename_i h8
      obtain ⟨ex, -, lx⟩ := wi_lit (a := 0) (c := 69) rfl rfl (by decide) (by decide) h1
      obtain ⟨ey, ly⟩ := wi_cnt eH (by omega) h2
      obtain ⟨ew, -, lw⟩ := wi_lit (a := 0) (c := 9999) rfl rfl (by decide) (by decide) h3
      have d1 : x / 10 = nI (iN x / 10) := by
        have e9 : nI (iN x) / 10 = nI (iN x / 10) := by rw [fa_lit 10, pk_div (by omega) (by decide) (by decide)]
        rw [← ex] at e9
        exact e9
      have d2 : jrem x 10 = nI (iN x % 10) := by
        have e9 : jrem (nI (iN x)) 10 = nI (iN x % 10) := pk_rem (by omega) (by decide) (by decide)
        rw [← ex] at e9
        exact e9
      have d3 : w / 100 = nI (iN w / 100) := by
        have e9 : nI (iN w) / 100 = nI (iN w / 100) := by rw [fa_lit 100, pk_div (by omega) (by decide) (by decide)]
        rw [← ew] at e9
        exact e9
      unfold wi at h4
      rw [Bool.and_eq_true] at h4
      show Inv (flyF σ (cK σ) (x / 10) (jrem x 10) y (w / 100) (jrem w 100))
      rw [ey]
      refine Inv_fly hI ?_ ?_ ly ?_ ⟨of_decide_eq_true h4.1, of_decide_eq_true h4.2⟩ ?_
      · rw [d1]; exact ⟨nI_pos' (by omega), nI_le (b := 6) (by omega) (by decide)⟩
      · rw [d2]; exact ⟨nI_pos' (by omega), nI_le (b := 9) (by omega) (by decide)⟩
      · rw [d3]; exact ⟨nI_pos' (by omega), nI_le (b := 99) (by omega) (by decide)⟩
      · rcases Nat.lt_or_ge (cK σ) 8 with g | g
        · exact g
        · exact absurd (by rw [eK, show cK σ = 8 by omega]; rfl) h8
  · exact hI
