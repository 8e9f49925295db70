/-! a letter that comes to a hill keeps what always holds -/
theorem arN_same {σ τ : Rw} : ∀ {n : Nat}, (∀ l, l < n → arF τ l = arF σ l) → arN τ n = arN σ n
  | 0, _ => rfl
  | n + 1, h => by
    unfold arN
    rw [h n (Nat.lt_succ_self n), arN_same (fun l hl => h l (Nat.lt_succ_of_lt hl))]
theorem arN_set {σ τ : Rw} {l : Nat} : ∀ {n : Nat}, l < n → arF σ l = false → arF τ l = true → (∀ j, j < n → j ≠ l → arF τ j = arF σ j) → arN τ n = arN σ n + 1
  | 0, h, _, _, _ => absurd h (Nat.not_lt_zero _)
  | n + 1, h, h1, h2, h3 => by
    unfold arN
    by_cases e : l = n
    · subst e
      rw [h1, h2, arN_same (fun j hj => h3 j (by omega) (by omega))]
      simp
    · rw [h3 n (Nat.lt_succ_self n) (by omega), arN_set (show l < n by omega) h1 h2 (fun j hj => h3 j (by omega))]
      omega
theorem arN_le (σ : Rw) : ∀ n, arN σ n ≤ n
  | 0 => Nat.le_refl 0
  | n + 1 => by
    have := arN_le σ n
    unfold arN
    split <;> omega
theorem arN_lt {σ : Rw} {l : Nat} : ∀ {n : Nat}, l < n → arF σ l = false → arN σ n < n
  | 0, h, _ => absurd h (Nat.not_lt_zero _)
  | n + 1, h, h1 => by
    unfold arN
    by_cases e : l = n
    · subst e
      have := arN_le σ l
      rw [h1]
      simp
      omega
    · have := arN_lt (show l < n by omega) h1
      split <;> omega
/-- what a letter's coming leaves as it was -/
theorem comF_off {σ : Rw} {l : Nat} {hill : Int32} {j : Nat} (h1 : j ≠ 99 + 7 * l + 5) (h2 : j ≠ 99 + 7 * l + 6) (h3 : j ≠ 183 + cA σ) (h4 : j ≠ 4) (h5 : j ≠ 5) : comF σ l hill j = σ j := by
  unfold comF
  split
  · rw [upd_ne h5, upd_ne h4, upd_ne h3, upd_ne h2, upd_ne h1]
  · rw [upd_ne h1]
theorem comF_5 {σ : Rw} {l : Nat} {hill : Int32} (hl : l < 12) (hA : cA σ < 12) : comF σ l hill (99 + 7 * l + 5) = hill := by
  unfold comF
  split
  · rw [upd_ne (by omega), upd_ne (by omega), upd_ne (by omega), upd_ne (by omega), upd_at]
  · rw [upd_at]
theorem comF_c {σ : Rw} {l : Nat} {hill : Int32} (hl : l < 12) (hA : cA σ < 12) : cH (comF σ l hill) = cH σ ∧ cK (comF σ l hill) = cK σ ∧ cL (comF σ l hill) = cL σ ∧ cT (comF σ l hill) = cT σ := by
  unfold cH cK cL cT
  refine ⟨?_, ?_, ?_, ?_⟩ <;> rw [comF_off (by omega) (by omega) (by omega) (by omega) (by omega)]
theorem nI_suc_cnt {x : Int32} {n : Nat} (h : x = nI n) : x + 1 = nI (n + 1) := by rw [h]; exact nI_1 n
theorem Inv_com {σ : Rw} {l h : Nat} (hI : Inv σ) (hl : l < cL σ) (hh : h < cH σ) (hn : arF σ l = false) : Inv (comF σ l (nI h)) := by
  obtain ⟨⟨⟨eH, lH⟩, ⟨eK, lK⟩, ⟨eL, lL⟩, ⟨eA, lA⟩, ⟨eT, lT⟩⟩, iK, iH, iW, iL, iO, iB, hT⟩ := hI
  have hA12 : cA σ < 12 := by have := arN_lt hl hn; omega
  have hl12 : l < 12 := by omega
  obtain ⟨qH, qK, qL, qT⟩ := comF_c (σ := σ) (hill := nI h) hl12 hA12
  have off : ∀ {j : Nat}, j ≠ 99 + 7 * l + 5 → j ≠ 99 + 7 * l + 6 → j ≠ 183 + cA σ → j ≠ 4 → j ≠ 5 → comF σ l (nI h) j = σ j := fun h1 h2 h3 h4 h5 => comF_off h1 h2 h3 h4 h5
  have hkf : ∀ k f, k < 8 → f < 6 → kf (comF σ l (nI h)) k f = kf σ k f := fun k f hk hf => by unfold kf; exact off (by omega) (by omega) (by omega) (by omega) (by omega)
  have hlf : ∀ q f, q < 12 → f < 5 → lf (comF σ l (nI h)) q f = lf σ q f := fun q f hq hf => by unfold lf; exact off (by omega) (by omega) (by omega) (by omega) (by omega)
  have hlo : ∀ q f, q < 12 → f < 7 → q ≠ l → lf (comF σ l (nI h)) q f = lf σ q f := fun q f hq hf hne => by unfold lf; exact off (by omega) (by omega) (by omega) (by omega) (by omega)
  have hl5 : lf (comF σ l (nI h)) l 5 = nI h := comF_5 hl12 hA12
  have hc : (comF σ l (nI h) 4 = nI (cA (comF σ l (nI h))) ∧ cA (comF σ l (nI h)) = arN (comF σ l (nI h)) (cL σ)) ∧ (∀ i, i < cA (comF σ l (nI h)) → comF σ l (nI h) (183 + i) = nI (orF (comF σ l (nI h)) i) ∧ orF (comF σ l (nI h)) i < cL σ) := by
    by_cases hc : nI h = lf σ l 1
    · have e4 : comF σ l (nI h) 4 = nI (cA σ + 1) := by
        unfold comF
        rw [if_pos hc, upd_ne (by omega), upd_at]
        exact nI_suc_cnt eA
      have eA' : cA (comF σ l (nI h)) = cA σ + 1 := by
        unfold cA
        rw [e4]
        exact nI_clamp (by show cA σ + 1 < 2 ^ 31; omega)
      have e6 : lf (comF σ l (nI h)) l 6 = σ 0 + 1 := by
        unfold lf comF
        rw [if_pos hc, upd_ne (by omega), upd_ne (by omega), upd_ne (by omega), upd_at]
      have ha : arF (comF σ l (nI h)) l = true := by
        unfold arF
        rw [e6, nI_suc_cnt eT]
        exact decide_eq_true (nI_pos' (by omega))
      have hoth : ∀ q, q < cL σ → q ≠ l → arF (comF σ l (nI h)) q = arF σ q := fun q hq hne => by
        unfold arF
        rw [hlo q 6 (by omega) (by decide) hne]
      refine ⟨⟨by rw [eA']; exact e4, ?_⟩, ?_⟩
      · rw [eA', arN_set hl hn ha hoth, lA]
      · intro i hi
        rw [eA'] at hi
        by_cases hi2 : i = cA σ
        · subst hi2
          have e9 : comF σ l (nI h) (183 + cA σ) = nI l := by
            unfold comF
            rw [if_pos hc, upd_ne (by omega), upd_ne (by omega), upd_at]
          have e8 : orF (comF σ l (nI h)) (cA σ) = l := by
            unfold orF
            rw [e9]
            exact nI_clamp (by omega)
          rw [e8]
          exact ⟨e9, hl⟩
        · have e9 : comF σ l (nI h) (183 + i) = σ (183 + i) := off (by omega) (by omega) (by omega) (by omega) (by omega)
          have e8 : orF (comF σ l (nI h)) i = orF σ i := by unfold orF; rw [e9]
          rw [e8, e9]
          exact iO i (by omega)
    · have hall : ∀ j, j ≠ 99 + 7 * l + 5 → comF σ l (nI h) j = σ j := fun j hj => by
        unfold comF
        rw [if_neg hc, upd_ne hj]
      have eA' : cA (comF σ l (nI h)) = cA σ := by unfold cA; rw [hall 4 (by omega)]
      have hoth : ∀ q, q < cL σ → arF (comF σ l (nI h)) q = arF σ q := fun q hq => by
        unfold arF lf
        rw [hall _ (by omega)]
      refine ⟨⟨by rw [eA', hall 4 (by omega)]; exact eA, by rw [eA', arN_same hoth]; exact lA⟩, fun i hi => ?_⟩
      rw [eA'] at hi
      have e9 : comF σ l (nI h) (183 + i) = σ (183 + i) := hall _ (by omega)
      have e8 : orF (comF σ l (nI h)) i = orF σ i := by unfold orF; rw [e9]
      rw [e8, e9]
      exact iO i hi
  refine ⟨⟨⟨?_, ?_⟩, ⟨?_, ?_⟩, ⟨?_, ?_⟩, ⟨hc.1.1, by rw [qL]; exact hc.1.2⟩, ⟨?_, ?_⟩⟩, ?_, ?_, ?_, ?_, ?_, ?_, ?_⟩
  · rw [qH, off (by omega) (by omega) (by omega) (by omega) (by omega)]; exact eH
  · rw [qH]; exact lH
  · rw [qK, off (by omega) (by omega) (by omega) (by omega) (by omega)]; exact eK
  · rw [qK]; exact lK
  · rw [qL, off (by omega) (by omega) (by omega) (by omega) (by omega)]; exact eL
  · rw [qL]; exact lL
  · rw [qT, off (by omega) (by omega) (by omega) (by omega) (by omega)]; exact eT
  · rw [qT]; exact lT
  · intro k hk
    rw [qK] at hk
    have eh : hmF (comF σ l (nI h)) k = hmF σ k := by unfold hmF; rw [hkf k 2 (by omega) (by decide)]
    have ea : amF (comF σ l (nI h)) k = amF σ k := by unfold amF; rw [hkf k 5 (by omega) (by decide)]
    rw [eh, ea, qH, hkf k 0 (by omega) (by decide), hkf k 1 (by omega) (by decide), hkf k 2 (by omega) (by decide), hkf k 3 (by omega) (by decide), hkf k 4 (by omega) (by decide), hkf k 5 (by omega) (by decide)]
    exact iK k hk
  · intro q hq
    rw [qH] at hq
    obtain ⟨a1, a2, a3⟩ := iH q hq
    have e1 : ∀ g, g < cH σ → comF σ l (nI h) (9 + 2 * g) = σ (9 + 2 * g) := fun g hg => off (by omega) (by omega) (by omega) (by omega) (by omega)
    have e2 : hz (comF σ l (nI h)) q = hz σ q := by unfold hz; exact off (by omega) (by omega) (by omega) (by omega) (by omega)
    rw [e1 q hq, e2, qH]
    exact ⟨a1, a2, fun g hg he => a3 g hg (by rw [e1 g hg] at he; exact he)⟩
  · intro q hq
    have e1 : comF σ l (nI h) (27 + q) = σ (27 + q) := off (by omega) (by omega) (by omega) (by omega) (by omega)
    have e2 : wdF (comF σ l (nI h)) q = wdF σ q := by unfold wdF; rw [e1]
    rw [e1, e2]
    exact iW q hq
  · intro q hq
    rw [qL] at hq
    obtain ⟨a1, a2, a3, a4⟩ := iL q hq
    have e2 : toF (comF σ l (nI h)) q = toF σ q := by unfold toF; rw [hlf q 1 (by omega) (by decide)]
    have e3 : anF (comF σ l (nI h)) q = anF σ q := by unfold anF; rw [hlf q 3 (by omega) (by decide)]
    rw [qH, e2, e3, hlf q 1 (by omega) (by decide), hlf q 2 (by omega) (by decide), hlf q 3 (by omega) (by decide)]
    refine ⟨?_, a2, a3, a4⟩
    by_cases hql : q = l
    · subst hql
      have e5 : onF (comF σ q (nI h)) q = h := by unfold onF; rw [hl5]; exact nI_clamp (by omega)
      rw [e5, hl5]
      exact ⟨rfl, hh⟩
    · have e5 : onF (comF σ l (nI h)) q = onF σ q := by unfold onF; rw [hlo q 5 (by omega) (by decide) hql]
      rw [e5, hlo q 5 (by omega) (by decide) hql]
      exact a1
  · intro i hi
    rw [qL]
    exact hc.2 i hi
  · obtain ⟨⟨n1, b1, b2⟩, ⟨n2, b3, b4⟩, b5⟩ := iB
    refine ⟨⟨n1, by rw [off (by omega) (by omega) (by omega) (by omega) (by omega)]; exact b1, b2⟩, ⟨n2, by rw [off (by omega) (by omega) (by omega) (by omega) (by omega)]; exact b3, b4⟩, fun j hj => ?_⟩
    rw [off (by omega) (by omega) (by omega) (by omega) (by omega)]
    exact b5 j hj
  · intro u hu
    exact TxOk_same (fun j hj => off (by omega) (by omega) (by omega) (by omega) (by omega)) (hT u hu)
