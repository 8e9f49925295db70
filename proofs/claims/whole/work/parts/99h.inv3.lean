theorem Inv_let {σ : Rw} (hI : Inv σ) {x y w u : Int32} (hx : x = nI (iN x) ∧ iN x < cH σ) (hy : y = nI (iN y) ∧ iN y < cH σ) (hw : 0 ≤ w ∧ w ≤ 30) (hu : u = -1 ∨ (u = nI (iN u) ∧ iN u < cL σ)) (hn : cL σ < 12) : Inv (letF σ (cL σ) x y w u) := by
  obtain ⟨⟨⟨eH, lH⟩, ⟨eK, lK⟩, ⟨eL, lL⟩, ⟨eA, lA⟩, ⟨eT, lT⟩⟩, iK, iH, iW, iL, iO, iB, hT⟩ := id hI
  have off : ∀ {j : Nat}, (j ≠ 3 ∧ (j < 99 + 7 * cL σ ∨ 99 + 7 * cL σ + 6 < j)) → (letF σ (cL σ) x y w u) j = σ j := fun hj => by unfold letF; rw [upd_ne hj.1, upd_ne (by omega), upd_ne (by omega), upd_ne (by omega), upd_ne (by omega), upd_ne (by omega), upd_ne (by omega), upd_ne (by omega)]
  have e3 : (letF σ (cL σ) x y w u) 3 = nI (cL σ + 1) := upd_at.trans ((congrArg (· + 1) eL).trans (nI_1 _))
  have lo : ∀ k_ f_, k_ < cL σ → f_ < 7 → lf (letF σ (cL σ) x y w u) k_ f_ = lf σ k_ f_ := fun k_ f_ hk_ hf_ => by unfold lf; exact off (by omega)
  have l1 : lf (letF σ (cL σ) x y w u) (cL σ) 1 = y := by
    unfold lf letF
    rw [upd_ne (by omega), upd_ne (by omega), upd_ne (by omega), upd_ne (by omega), upd_ne (by omega), upd_ne (by omega)]; exact upd_at
  have l2 : lf (letF σ (cL σ) x y w u) (cL σ) 2 = w := by
    unfold lf letF
    rw [upd_ne (by omega), upd_ne (by omega), upd_ne (by omega), upd_ne (by omega), upd_ne (by omega)]; exact upd_at
  have l3 : lf (letF σ (cL σ) x y w u) (cL σ) 3 = u := by
    unfold lf letF
    rw [upd_ne (by omega), upd_ne (by omega), upd_ne (by omega), upd_ne (by omega)]; exact upd_at
  have l5 : lf (letF σ (cL σ) x y w u) (cL σ) 5 = x := by
    unfold lf letF
    rw [upd_ne (by omega), upd_ne (by omega)]; exact upd_at
  have l6 : lf (letF σ (cL σ) x y w u) (cL σ) 6 = -1 := by
    unfold lf letF
    rw [upd_ne (by omega)]; exact upd_at
  have qH : cH (letF σ (cL σ) x y w u) = cH σ := by unfold cH; rw [off (by omega)]
  have qK : cK (letF σ (cL σ) x y w u) = cK σ := by unfold cK; rw [off (by omega)]
  have qL : cL (letF σ (cL σ) x y w u) = cL σ + 1 := by show ((letF σ (cL σ) x y w u) 3).toNatClampNeg = _; rw [e3]; exact nI_clamp (by omega)
  have qA : cA (letF σ (cL σ) x y w u) = cA σ := by unfold cA; rw [off (by omega)]
  have qT : cT (letF σ (cL σ) x y w u) = cT σ := by unfold cT; rw [off (by omega)]
  have hkf : ∀ k_ f_, k_ < 8 → f_ < 6 → kf (letF σ (cL σ) x y w u) k_ f_ = kf σ k_ f_ := fun k_ f_ hk_ hf_ => by unfold kf; exact off (by omega)
  refine ⟨⟨⟨?_, ?_⟩, ⟨?_, ?_⟩, ⟨?_, ?_⟩, ⟨?_, ?_⟩, ⟨?_, ?_⟩⟩, ?_, ?_, ?_, ?_, ?_, ?_, ?_⟩
  · rw [qH, off (by omega)]; exact eH
  · rw [qH]; exact lH
  · rw [qK, off (by omega)]; exact eK
  · rw [qK]; exact lK
  · rw [qL, e3]
  · rw [qL]; omega
  · rw [qA, off (by omega)]; exact eA
  · rw [qA, qL]
    show cA σ = arN (letF σ (cL σ) x y w u) (cL σ) + (if arF (letF σ (cL σ) x y w u) (cL σ) then 1 else 0)
    rw [arN_same (σ := σ) (τ := (letF σ (cL σ) x y w u)) (fun l hl => by unfold arF; rw [lo l 6 hl (by decide)]), if_neg (by unfold arF; rw [l6]; decide), lA, Nat.add_zero]
  · rw [qT, off (by omega)]; exact eT
  · rw [qT]; exact lT
  · intro k hk
    rw [qK] at hk
    unfold hmF amF
    simp only [hkf k _ (show k < 8 by omega) (show 0 < 6 by decide), hkf k _ (show k < 8 by omega) (show 1 < 6 by decide), hkf k _ (show k < 8 by omega) (show 2 < 6 by decide), hkf k _ (show k < 8 by omega) (show 3 < 6 by decide), hkf k _ (show k < 8 by omega) (show 4 < 6 by decide), hkf k _ (show k < 8 by omega) (show 5 < 6 by decide), qH]
    exact iK k hk
  · intro q hq
    rw [qH] at hq
    have e1 : ∀ g, g < cH σ → (letF σ (cL σ) x y w u) (9 + 2 * g) = σ (9 + 2 * g) := fun g hg => off (by omega)
    have e2 : hz (letF σ (cL σ) x y w u) q = hz σ q := by unfold hz; exact off (by omega)
    rw [e2, qH, e1 q hq]
    obtain ⟨i1, i2, i3⟩ := iH q hq
    exact ⟨i1, i2, fun g hg he => i3 g hg (by rw [e1 g hg] at he; exact he)⟩
  · intro q hq
    have e1 : (letF σ (cL σ) x y w u) (27 + q) = σ (27 + q) := off (by omega)
    unfold wdF
    rw [e1]
    exact iW q hq
  · intro q hq
    rw [qL] at hq
    rcases Nat.lt_or_ge q (cL σ) with g | g
    · unfold onF toF anF
      simp only [lo q _ g (show 5 < 7 by decide), lo q _ g (show 1 < 7 by decide), lo q _ g (show 2 < 7 by decide), lo q _ g (show 3 < 7 by decide), qH]
      exact iL q g
    · rw [show q = cL σ by omega]
      unfold onF toF anF
      rw [l5, l1, l2, l3, qH]
      exact ⟨hx, hy, hw, hu⟩
  · intro q hq
    rw [qA] at hq
    have hq12 : cA σ ≤ 12 := by rw [lA]; exact Nat.le_trans (arN_le σ _) lL
    have e1 : (letF σ (cL σ) x y w u) (183 + q) = σ (183 + q) := off (by omega)
    unfold orF
    rw [e1, qL]
    exact ⟨(iO q hq).1, Nat.lt_succ_of_lt (iO q hq).2⟩
  · obtain ⟨⟨n1, b1, b2⟩, ⟨n2, b3, b4⟩, b5⟩ := iB
    refine ⟨⟨n1, by rw [off (by omega)]; exact b1, b2⟩, ⟨n2, by rw [off (by omega)]; exact b3, b4⟩, fun j hj => ?_⟩
    rw [off (by omega)]
    exact b5 j hj
  · intro u hu
    exact TxOk_same (fun j hj => off (by omega)) (hT u hu)

theorem Inv_op_letter {σ : Rw} (hI : Inv σ) (x y w u : Int32) : Inv (op_letter σ x y w u).2.2 := by
  obtain ⟨⟨⟨eH, lH⟩, -, ⟨eL, lL⟩, -⟩, -⟩ := id hI
  unfold op_letter
  split
  · rename_i h
    rw [Bool.and_eq_true, Bool.and_eq_true, Bool.and_eq_true, Bool.and_eq_true, Bool.or_eq_true] at h
    obtain ⟨⟨⟨⟨h1, h2⟩, -⟩, h4⟩, h5⟩ := h
    split
    · exact hI
    · rename_i h12
      unfold wi at h4
      rw [Bool.and_eq_true] at h4
      refine Inv_let hI (wi_cnt eH (by omega) h1) (wi_cnt eH (by omega) h2) ⟨of_decide_eq_true h4.1, of_decide_eq_true h4.2⟩ (h5.elim (fun g => .inl (of_decide_eq_true g)) (fun g => .inr (wi_cnt eL (by omega) g))) ?_
      rcases Nat.lt_or_ge (cL σ) 12 with g | g
      · exact g
      · exact absurd (by rw [eL, show cL σ = 12 by omega]; rfl) h12
  · exact hI
