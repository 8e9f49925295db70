theorem suN_sub {σ : Rw} {P : Nat → Prop} : ∀ (f A U : Nat), (∀ k, A.testBit k = true → P k) → (∀ k, U.testBit k = true → P k) → ∀ k, (suN σ f A U).testBit k = true → P k
  | 0, A, U, _, hU, k, h => hU k h
  | f + 1, A, U, hA, hU, k, h => by
    rw [show suN σ (f + 1) A U = (if A = 0 then U else match fsN σ A (cK σ) with | none => U | some q => suN σ f (clrN A q) (if dnN σ U q (cK σ) then U else U ||| 2 ^ q)) from rfl] at h
    by_cases hz : A = 0
    · rw [if_pos hz] at h
      exact hU k h
    · rw [if_neg hz] at h
      cases hfs : fsN σ A (cK σ) with
      | none => rw [hfs] at h; exact hU k h
      | some q =>
        rw [hfs] at h
        refine suN_sub f (clrN A q) _ (fun j hj => hA j ?_) (fun j hj => ?_) k h
        · unfold clrN at hj
          rw [Nat.testBit_and, Bool.and_eq_true] at hj
          exact hj.1
        · by_cases hd : dnN σ U q (cK σ) = true
          · rw [if_pos hd] at hj; exact hU j hj
          · rw [if_neg hd, fb_bit_set, Bool.or_eq_true] at hj
            rcases hj with hj | hj
            · exact hU j hj
            · have e := of_decide_eq_true hj
              subst e
              exact hA _ (fsN_some hfs).2
theorem suN_lt {σ : Rw} : ∀ (f A U : Nat), A < 2 ^ 8 → U < 2 ^ 8 → suN σ f A U < 2 ^ 8
  | 0, A, U, _, hU => hU
  | f + 1, A, U, hA, hU => by
    rw [show suN σ (f + 1) A U = (if A = 0 then U else match fsN σ A (cK σ) with | none => U | some q => suN σ f (clrN A q) (if dnN σ U q (cK σ) then U else U ||| 2 ^ q)) from rfl]
    by_cases hz : A = 0
    · rw [if_pos hz]; exact hU
    · rw [if_neg hz]
      cases hfs : fsN σ A (cK σ) with
      | none => exact hU
      | some q =>
        have hb := (fsN_some hfs).2
        have hq : q < 8 := by
          rcases Nat.lt_or_ge q 8 with g | g
          · exact g
          · rw [Nat.testBit_lt_two_pow (Nat.lt_of_lt_of_le hA (Nat.pow_le_pow_right (by decide) g))] at hb
            cases hb
        refine suN_lt f (clrN A q) _ (Nat.lt_of_le_of_lt clr_le hA) ?_
        split
        · exact hU
        · exact or_lt hU (pw_lt hq)
/-- which kites stay up, now -/
def upN (σ : Rw) : Nat := suN σ 16 (hvN σ (cK σ)) 0
/-- behind the first n kites of an hour: the row, which letters were moved -/
def tkOn (σ : Rw) (k mv : Nat) : Nat := exN (lonN σ (kf σ k 2) (cL σ)) mv
def hrS (σ : Rw) (up : Nat) : Nat → Rw × Nat
  | 0 => (σ, 0)
  | n + 1 => if up.testBit n then ((tkS (hrS σ up n).1 n (tkOn (hrS σ up n).1 n (hrS σ up n).2) (amF (hrS σ up n).1 n) (cL (hrS σ up n).1)).1, (hrS σ up n).2 ||| (tkS (hrS σ up n).1 n (tkOn (hrS σ up n).1 n (hrS σ up n).2) (amF (hrS σ up n).1 n) (cL (hrS σ up n).1)).2.2) else hrS σ up n
def hourF (σ : Rw) : Rw := upd (hrS σ (upN σ) (cK σ)).1 0 (σ 0 + 1)
theorem tkOn_ok {σ : Rw} {k mv : Nat} (hL : cL σ ≤ 12) : ∀ l, (tkOn σ k mv).testBit l = true → l < cL σ ∧ arF σ l = false := by
  intro l hl9
  have hl32 : l < 32 := by
    rcases Nat.lt_or_ge l 32 with g | g
    · exact g
    · have hz := Nat.testBit_lt_two_pow (x := tkOn σ k mv) (i := l) (Nat.lt_of_le_of_lt ex_le (Nat.lt_of_lt_of_le (lonN_lt σ _ _) (Nat.pow_le_pow_right (by decide) (by omega))))
      rw [hz] at hl9
      cases hl9
  unfold tkOn at hl9
  rw [ex_bit hl32, Bool.and_eq_true, lonN_bit, Bool.and_eq_true, Bool.and_eq_true] at hl9
  refine ⟨of_decide_eq_true hl9.1.1, ?_⟩
  unfold arF
  exact decide_eq_false (Int32.not_le.mpr (of_decide_eq_true hl9.1.2.2))
theorem hrS_ok {σ : Rw} {up : Nat} (hI : Inv σ) (hu : ∀ k, up.testBit k = true → k < cK σ ∧ 0 ≤ kf σ k 5) : ∀ n, n ≤ cK σ → Inv (hrS σ up n).1 ∧ sameK σ (hrS σ up n).1 ∧ (hrS σ up n).2 < 2 ^ 12
  | 0, _ => ⟨hI, sameK.rf σ, by show 0 < 2 ^ 12; decide⟩
  | n + 1, hn => by
    obtain ⟨h1, h2, h3⟩ := hrS_ok hI hu n (by omega)
    have hK := hI.1.2.1.2
    have hL := h1.1.2.2.1.2
    by_cases hc : up.testBit n = true
    · have e : hrS σ up (n + 1) = ((tkS (hrS σ up n).1 n (tkOn (hrS σ up n).1 n (hrS σ up n).2) (amF (hrS σ up n).1 n) (cL (hrS σ up n).1)).1, (hrS σ up n).2 ||| (tkS (hrS σ up n).1 n (tkOn (hrS σ up n).1 n (hrS σ up n).2) (amF (hrS σ up n).1 n) (cL (hrS σ up n).1)).2.2) := if_pos hc
      rw [e]
      have ha : amF (hrS σ up n).1 n < cH (hrS σ up n).1 := by
        have h4 := (hu n hc).2
        rw [← h2.kt (by omega) (by decide)] at h4
        exact (InvK.aim h1.2.1 (by rw [h2.2.2.1]; omega) h4).2.1
      obtain ⟨g1, g2, g3, g4⟩ := tkS_ok (k := n) h1 ha (tkOn_ok (k := n) (mv := (hrS σ up n).2) hL) (cL (hrS σ up n).1) (Nat.le_refl _)
      exact ⟨g1, h2.tr g2, or_lt h3 (Nat.lt_of_lt_of_le g4 (Nat.pow_le_pow_right (by decide) hL))⟩
    · have e : hrS σ up (n + 1) = hrS σ up n := if_neg hc
      rw [e]
      exact ⟨h1, h2, h3⟩
theorem upN_ok {σ : Rw} (hI : Inv σ) : ∀ k, (upN σ).testBit k = true → k < cK σ ∧ 0 ≤ kf σ k 5 :=
  suN_sub 16 _ _ hvN_aim (fun k h => by rw [Nat.zero_testBit] at h; cases h)
/-- time goes on by one -/
theorem Inv_time {σ : Rw} {t : Nat} (hI : Inv σ) (ht : t ≤ 20000) : Inv (upd σ 0 (nI t)) := by
  obtain ⟨⟨⟨eH, lH⟩, ⟨eK, lK⟩, ⟨eL, lL⟩, ⟨eA, lA⟩, ⟨eT, lT⟩⟩, iK, iH, iW, iL, iO, iB, hT⟩ := hI
  have off : ∀ {j : Nat}, j ≠ 0 → upd σ 0 (nI t) j = σ j := fun h => upd_ne h
  have qH : cH (upd σ 0 (nI t)) = cH σ := by unfold cH; rw [off (by decide)]
  have qK : cK (upd σ 0 (nI t)) = cK σ := by unfold cK; rw [off (by decide)]
  have qL : cL (upd σ 0 (nI t)) = cL σ := by unfold cL; rw [off (by decide)]
  have qA : cA (upd σ 0 (nI t)) = cA σ := by unfold cA; rw [off (by decide)]
  have qT : cT (upd σ 0 (nI t)) = t := by unfold cT; rw [upd_at]; exact nI_clamp (by omega)
  have hkf : ∀ k f, kf (upd σ 0 (nI t)) k f = kf σ k f := fun k f => by unfold kf; exact off (by omega)
  have hlf : ∀ k f, lf (upd σ 0 (nI t)) k f = lf σ k f := fun k f => by unfold lf; exact off (by omega)
  refine ⟨⟨⟨?_, ?_⟩, ⟨?_, ?_⟩, ⟨?_, ?_⟩, ⟨?_, ?_⟩, ⟨?_, ?_⟩⟩, ?_, ?_, ?_, ?_, ?_, ?_, ?_⟩
  · rw [qH, off (by decide)]; exact eH
  · rw [qH]; exact lH
  · rw [qK, off (by decide)]; exact eK
  · rw [qK]; exact lK
  · rw [qL, off (by decide)]; exact eL
  · rw [qL]; exact lL
  · rw [qA, off (by decide)]; exact eA
  · rw [qA, qL, arN_same (σ := σ) (τ := upd σ 0 (nI t)) (fun l _ => by unfold arF; rw [hlf])]; exact lA
  · rw [qT, upd_at]
  · rw [qT]; exact ht
  · intro k hk
    rw [qK] at hk
    unfold hmF amF
    simp only [hkf, qH]
    exact iK k hk
  · intro q hq
    rw [qH] at hq
    have e1 : ∀ g, upd σ 0 (nI t) (9 + 2 * g) = σ (9 + 2 * g) := fun g => off (by omega)
    have e2 : hz (upd σ 0 (nI t)) q = hz σ q := by unfold hz; exact off (by omega)
    rw [e2, qH]
    simp only [e1]
    exact iH q hq
  · intro q hq
    have e1 : upd σ 0 (nI t) (27 + q) = σ (27 + q) := off (by omega)
    unfold wdF
    rw [e1]
    exact iW q hq
  · intro q hq
    rw [qL] at hq
    unfold onF toF anF
    simp only [hlf, qH]
    exact iL q hq
  · intro q hq
    rw [qA] at hq
    have e1 : upd σ 0 (nI t) (183 + q) = σ (183 + q) := off (by omega)
    unfold orF
    rw [e1, qL]
    exact iO q hq
  · obtain ⟨⟨n1, b1, b2⟩, ⟨n2, b3, b4⟩, b5⟩ := iB
    refine ⟨⟨n1, by rw [off (by decide)]; exact b1, b2⟩, ⟨n2, by rw [off (by decide)]; exact b3, b4⟩, fun j hj => ?_⟩
    rw [off (by omega)]
    exact b5 j hj
  · intro u hu
    exact TxOk_same (fun j hj => off (by omega)) (hT u hu)
theorem Inv_hour {σ : Rw} (hI : Inv σ) (ht : cT σ < 20000) : Inv (hourF σ) ∧ cL (hourF σ) = cL σ ∧ cH (hourF σ) = cH σ ∧ cK (hourF σ) = cK σ ∧ cT (hourF σ) = cT σ + 1 ∧ ∀ j, (6 ≤ j ∧ j < 99) ∨ 195 ≤ j ∨ (1 ≤ j ∧ j < 4) → hourF σ j = σ j := by
  obtain ⟨h1, h2, -⟩ := hrS_ok hI (upN_ok hI) (cK σ) (Nat.le_refl _)
  have e0 : σ 0 + 1 = nI (cT σ + 1) := nI_suc_cnt hI.1.2.2.2.2.1
  refine ⟨?_, ?_, ?_, ?_, ?_, ?_⟩
  · unfold hourF; rw [e0]; exact Inv_time h1 (by omega)
  · unfold hourF; rw [← h2.1]; unfold cL; rw [upd_ne (by decide)]
  · unfold hourF; rw [← h2.2.1]; unfold cH; rw [upd_ne (by decide)]
  · unfold hourF
    have h3 := h2.2.2.1
    unfold cK at h3 ⊢
    rw [upd_ne (by decide)]
    exact h3
  · unfold hourF
    rw [show cT (upd (hrS σ (upN σ) (cK σ)).1 0 (σ 0 + 1)) = (σ 0 + 1).toNatClampNeg by unfold cT; rw [upd_at], e0]
    exact nI_clamp (by omega)
  · intro j hj
    unfold hourF
    rw [upd_ne (by omega)]
    exact h2.2.2.2.2 j (by omega)
