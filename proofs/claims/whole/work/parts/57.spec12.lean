/-! kinds, aims, fresh hills: words and what they keep -/
def rkF (k : Int32) : Nat := if k < 0 then 0 else if k = 0 then 1 else if k ≤ 3 then 2 else 3
theorem rk_above {k : Int32} (h : ¬ k < 0) : rkF (aboveF k) < rkF k := by
  unfold aboveF
  by_cases h0 : k = 0
  · subst h0; decide
  · have e : 2 ≤ rkF k := by unfold rkF; rw [if_neg h, if_neg h0]; split <;> omega
    rw [if_neg h0]
    by_cases h4 : k = 4
    · subst h4; decide
    · rw [if_neg h4]
      by_cases h5 : k = 5
      · subst h5; decide
      · rw [if_neg h5]
        by_cases h6 : k = 6
        · subst h6; decide
        · rw [if_neg h6]; exact Nat.lt_of_lt_of_le (by decide : rkF 0 < 2) e
def asA : Nat → Int32 → Int32 → Bool
  | 0, _, _ => false
  | n + 1, k, c => if k < 0 then false else if k = c then true else asA n (aboveF k) c
def op_as (σ : Rw) (x y : Int32) : Nat × Int32 := if wi x 0 (σ 2 - 1) && wi y 0 6 then (if asA 4 (kf σ (iN x) 0) y then (0, kf σ (iN x) 3) else (5, -1000000005)) else (1, -1000000001)
def op_law (σ : Rw) (u x y z w : Int32) : Nat × Int32 := if wi u 0 1 then (0, givF σ (iN u) x y z w) else (1, -1000000001)
/-- bytes that come to the tape -/
def byL (w : Int64) (k : Nat) : Int32 := (jlshr w (nI (8 * k)) &&& 255).toInt32
def fdF (σ : Rw) (w : Int64) : Nat → Rw
  | 0 => σ
  | n + 1 => upd (upd (fdF σ w n) (195 + iN (fdF σ w n 6)) (byL w n)) 6 (fdF σ w n 6 + 1)
def op_feed (σ : Rw) (w : Int64) (n : Int32) : Op3 := if wi n 1 8 then (if 50 < σ 6 + n then e3 4 σ else (0, fdF σ w (iN n) 6, fdF σ w (iN n))) else e3 1 σ
theorem fd_6 {σ : Rw} {w : Int64} {t : Nat} (h : σ 6 = nI t) (ht : t < 1000) : ∀ n, n < 1000 → fdF σ w n 6 = nI (t + n) ∧ iN (fdF σ w n 6) = t + n
  | 0, _ => ⟨h, by show (σ 6).toNatClampNeg = t; rw [h]; exact nI_clamp (by omega)⟩
  | n + 1, hn => by
    obtain ⟨h1, h2⟩ := fd_6 (w := w) h ht n (by omega)
    have e : fdF σ w (n + 1) 6 = nI (t + (n + 1)) := by
      show upd _ 6 _ 6 = _
      rw [upd_at, h1, nI_1]
      rfl
    exact ⟨e, by rw [e]; exact nI_clamp (by omega)⟩
/-- best aim: behind the first j of -1, 0, 1 .. -/
def bsS (σ : Rw) (k n : Nat) : Nat → Int32 × Int32
  | 0 => (-1, -1)
  | j + 1 => if nI j - 1 = kf σ k 2 then bsS σ k n j else if (bsS σ k n j).2 < hrsF (upd σ (51 + 6 * k + 5) (nI j - 1)) n 4 then (nI j - 1, hrsF (upd σ (51 + 6 * k + 5) (nI j - 1)) n 4) else bsS σ k n j
def op_best (σ : Rw) (x y : Int32) : Nat × Int32 := if wi x 0 (σ 2 - 1) && wi y 0 72 then (0, (bsS σ (iN x) (iN y) (cH σ + 1)).1) else (1, -1000000001)
theorem m1_ge {n j : Nat} (hn : n < 2 ^ 30) (hj : j < 2 ^ 30) : nI n ≤ nI j - 1 ↔ n + 1 ≤ j := by
  rw [Int32.le_iff_toInt_le, nI_toInt (by omega), show (nI j - 1).toInt = (j : Int) - 1 from pk_sub_toInt (b := 1) hj (by decide)]
  omega
theorem m1_s (j : Nat) : nI j - 1 + 1 = nI (j + 1) - 1 := by rw [nI_pred, Int32.sub_add_cancel]
/-- the order mended -/
def tbI (T : Int32) (l : Nat) : Bool := decide (jshr T (nI l) &&& 1 = 1)
def mayF (σ : Rw) (T : Int32) (l : Nat) : Bool := !(tbI T l) && (decide (lf σ l 3 < 0) || !(arF σ (anF σ l)) || tbI T (anF σ l))
def fcA (σ : Rw) (T : Int32) : Nat → Nat → Int32
  | 0, _ => -1
  | n + 1, i => if mayF σ T (orF σ i) then nI (orF σ i) else fcA σ T n (i + 1)
def mdT (σ : Rw) : Nat → Int32
  | 0 => 0
  | n + 1 => mdT σ n ||| jshl 1 (fcA σ (mdT σ n) (cA σ) 0)
def mdN (σ : Rw) (i : Nat) : Int32 := fcA σ (mdT σ i) (cA σ) 0
def op_order (σ : Rw) (x y : Int32) : Nat × Int32 := if wi x 0 1 && decide (0 ≤ y) then (if y < σ 4 then (0, if x = 0 then σ (183 + iN y) else mdN σ (iN y)) else (2, -1000000002)) else (1, -1000000001)
/-- places of a new hill -/
def xyN (j : Nat) : Nat := 32 * (j / 8) + 2 * (j % 8)
theorem xy_step : ∀ j, j < 64 → (if xyN j % 16 = 14 then xyN j + 18 else xyN j + 2) = xyN (j + 1) := by decide
theorem xy_lt : ∀ j, j < 64 → xyN j < 256 := by decide
def frW (σ : Rw) (xy : Int32) : Rw := flyF (risF σ (cH σ) xy 0) (cK σ) 0 0 (nI (cH σ)) 40 20
def frS (σ : Rw) (f t : Nat) (w : Int32) : Nat → Int32 × Int32
  | 0 => (-1, 0)
  | j + 1 => if takF σ (nI (xyN j)) (cH σ) then frS σ f t w j else if 0 < soA (frW σ (nI (xyN j))) f t w 72 0 ∧ ((frS σ f t w j).1 < 0 ∨ soA (frW σ (nI (xyN j))) f t w 72 0 < (frS σ f t w j).2) then (nI (xyN j), soA (frW σ (nI (xyN j))) f t w 72 0) else frS σ f t w j
def op_fresh (σ : Rw) (x y z w : Int32) : Nat × Int32 := if wyF σ x y z && wi w 0 1 then (if σ 1 = 9 ∨ σ 2 = 8 then (3, -1000000003) else if (frS σ (iN x) (iN y) z 64).1 < 0 then (2, -1000000002) else (0, if w = 0 then (frS σ (iN x) (iN y) z 64).1 else (frS σ (iN x) (iN y) z 64).2)) else (1, -1000000001)
/-- what was told ahead is held against hours -/
def ckA (τ : Rw) (l : Nat) : Nat → Nat → Int32
  | 0, _ => 0
  | n + 1, i => if τ (245 + i) = lf (hrsF τ (i + 1)) l 5 then ckA τ l n (i + 1) else nI (1 + i)
def op_check (σ : Rw) (x : Int32) : Op3 := if wi x 0 (σ 3 - 1) then (0, ckA (upd σ 7 0) (iN x) (iN (σ 7)) 0, upd σ 7 0) else e3 1 (upd σ 7 0)

theorem Inv_aim {σ : Rw} (hI : Inv σ) {k : Nat} {y : Int32} (hk : k < cK σ) (hy : y = -1 ∨ (y = nI (iN y) ∧ iN y < cH σ ∧ iN y ≠ hmF σ k)) : Inv (upd σ (51 + 6 * k + 5) y) := by
  obtain ⟨⟨⟨eH, lH⟩, ⟨eK, lK⟩, ⟨eL, lL⟩, ⟨eA, lA⟩, ⟨eT, lT⟩⟩, iK, iH, iW, iL, iO, iB, hT⟩ := id hI
  have off : ∀ {j : Nat}, j ≠ 51 + 6 * k + 5 → (upd σ (51 + 6 * k + 5) y) j = σ j := fun h => upd_ne h
  have hkf : ∀ q f, f < 6 → (q ≠ k ∨ f ≠ 5) → kf (upd σ (51 + 6 * k + 5) y) q f = kf σ q f := fun q f hf hne => by unfold kf; exact off (by omega)
  have hk5 : kf (upd σ (51 + 6 * k + 5) y) k 5 = y := by unfold kf; exact upd_at
  have qH : cH (upd σ (51 + 6 * k + 5) y) = cH σ := by unfold cH; rw [off (by omega)]
  have qK : cK (upd σ (51 + 6 * k + 5) y) = cK σ := by unfold cK; rw [off (by omega)]
  have qL : cL (upd σ (51 + 6 * k + 5) y) = cL σ := by unfold cL; rw [off (by omega)]
  have qA : cA (upd σ (51 + 6 * k + 5) y) = cA σ := by unfold cA; rw [off (by omega)]
  have qT : cT (upd σ (51 + 6 * k + 5) y) = cT σ := by unfold cT; rw [off (by omega)]
  have hlf : ∀ k_ f_, k_ < 12 → f_ < 7 → lf (upd σ (51 + 6 * k + 5) y) k_ f_ = lf σ k_ f_ := fun k_ f_ hk_ hf_ => by unfold lf; exact off (by omega)
  refine ⟨⟨⟨?_, ?_⟩, ⟨?_, ?_⟩, ⟨?_, ?_⟩, ⟨?_, ?_⟩, ⟨?_, ?_⟩⟩, ?_, ?_, ?_, ?_, ?_, ?_, ?_⟩
  · rw [qH, off (by omega)]; exact eH
  · rw [qH]; exact lH
  · rw [qK, off (by omega)]; exact eK
  · rw [qK]; exact lK
  · rw [qL, off (by omega)]; exact eL
  · rw [qL]; exact lL
  · rw [qA, off (by omega)]; exact eA
  · rw [qA, qL, arN_same (σ := σ) (τ := (upd σ (51 + 6 * k + 5) y)) (fun l hl => by unfold arF; rw [hlf l 6 (by omega) (by decide)])]; exact lA
  · rw [qT, off (by omega)]; exact eT
  · rw [qT]; exact lT
  · intro q hq
    rw [qK] at hq
    unfold hmF amF
    rw [hkf q 0 (by decide) (Or.inr (by decide)), hkf q 1 (by decide) (Or.inr (by decide)), hkf q 2 (by decide) (Or.inr (by decide)), hkf q 3 (by decide) (Or.inr (by decide)), hkf q 4 (by decide) (Or.inr (by decide)), qH]
    obtain ⟨i1, i2, i3⟩ := iK q hq
    refine ⟨i1, ?_, i3⟩
    by_cases e : q = k
    · subst e
      rw [hk5]
      exact hy
    · rw [hkf q 5 (by decide) (Or.inl e)]
      exact i2
  · intro q hq
    rw [qH] at hq
    have e1 : ∀ g, g < cH σ → (upd σ (51 + 6 * k + 5) y) (9 + 2 * g) = σ (9 + 2 * g) := fun g hg => off (by omega)
    have e2 : hz (upd σ (51 + 6 * k + 5) y) q = hz σ q := by unfold hz; exact off (by omega)
    rw [e2, qH, e1 q hq]
    obtain ⟨i1, i2, i3⟩ := iH q hq
    exact ⟨i1, i2, fun g hg he => i3 g hg (by rw [e1 g hg] at he; exact he)⟩
  · intro q hq
    have e1 : (upd σ (51 + 6 * k + 5) y) (27 + q) = σ (27 + q) := off (by omega)
    unfold wdF
    rw [e1]
    exact iW q hq
  · intro q hq
    rw [qL] at hq
    unfold onF toF anF
    simp only [hlf q _ (show q < 12 by omega) (show 5 < 7 by decide), hlf q _ (show q < 12 by omega) (show 1 < 7 by decide), hlf q _ (show q < 12 by omega) (show 2 < 7 by decide), hlf q _ (show q < 12 by omega) (show 3 < 7 by decide), qH]
    exact iL q hq
  · intro q hq
    rw [qA] at hq
    have hq12 : cA σ ≤ 12 := by rw [lA]; exact Nat.le_trans (arN_le σ _) lL
    have e1 : (upd σ (51 + 6 * k + 5) y) (183 + q) = σ (183 + q) := off (by omega)
    unfold orF
    rw [e1, qL]
    exact iO q hq
  · obtain ⟨⟨n1, b1, b2⟩, ⟨n2, b3, b4⟩, b5⟩ := iB
    refine ⟨⟨n1, by rw [off (by omega)]; exact b1, b2⟩, ⟨n2, by rw [off (by omega)]; exact b3, b4⟩, fun j hj => ?_⟩
    rw [off (by omega)]
    exact b5 j hj
  · intro u hu
    exact TxOk_same (fun j hj => off (by omega)) (hT u hu)

theorem Inv_ris {σ : Rw} (hI : Inv σ) {x y : Int32} (hx : 0 ≤ x ∧ x ≤ 255) (hy : 0 ≤ y ∧ y ≤ 9) (hn : cH σ < 9) (ht : takF σ x (cH σ) = false) : Inv (risF σ (cH σ) x y) := by
  obtain ⟨⟨⟨eH, lH⟩, ⟨eK, lK⟩, ⟨eL, lL⟩, ⟨eA, lA⟩, ⟨eT, lT⟩⟩, iK, iH, iW, iL, iO, iB, hT⟩ := id hI
  have off : ∀ {j : Nat}, j ≠ 1 ∧ j ≠ 9 + 2 * cH σ ∧ j ≠ 9 + 2 * cH σ + 1 → (risF σ (cH σ) x y) j = σ j := fun h => by unfold risF; rw [upd_ne h.1, upd_ne h.2.2, upd_ne h.2.1]
  have qH : cH (risF σ (cH σ) x y) = cH σ + 1 := by unfold risF; show (upd _ 1 _ 1).toNatClampNeg = _; rw [upd_at, nI_suc_cnt eH]; exact nI_clamp (by omega)
  have qK : cK (risF σ (cH σ) x y) = cK σ := by unfold cK; rw [off (by omega)]
  have qL : cL (risF σ (cH σ) x y) = cL σ := by unfold cL; rw [off (by omega)]
  have qA : cA (risF σ (cH σ) x y) = cA σ := by unfold cA; rw [off (by omega)]
  have qT : cT (risF σ (cH σ) x y) = cT σ := by unfold cT; rw [off (by omega)]
  have hkf : ∀ k_ f_, k_ < 8 → f_ < 6 → kf (risF σ (cH σ) x y) k_ f_ = kf σ k_ f_ := fun k_ f_ hk_ hf_ => by unfold kf; exact off (by omega)
  have hlf : ∀ k_ f_, k_ < 12 → f_ < 7 → lf (risF σ (cH σ) x y) k_ f_ = lf σ k_ f_ := fun k_ f_ hk_ hf_ => by unfold lf; exact off (by omega)
  refine ⟨⟨⟨?_, ?_⟩, ⟨?_, ?_⟩, ⟨?_, ?_⟩, ⟨?_, ?_⟩, ⟨?_, ?_⟩⟩, ?_, ?_, ?_, ?_, ?_, ?_, ?_⟩
  · rw [qH]; unfold risF; rw [upd_at]; exact nI_suc_cnt eH
  · rw [qH]; exact hn
  · rw [qK, off (by omega)]; exact eK
  · rw [qK]; exact lK
  · rw [qL, off (by omega)]; exact eL
  · rw [qL]; exact lL
  · rw [qA, off (by omega)]; exact eA
  · rw [qA, qL, arN_same (σ := σ) (τ := (risF σ (cH σ) x y)) (fun l hl => by unfold arF; rw [hlf l 6 (by omega) (by decide)])]; exact lA
  · rw [qT, off (by omega)]; exact eT
  · rw [qT]; exact lT
  · intro k hk
    rw [qK] at hk
    unfold hmF amF
    simp only [hkf k _ (show k < 8 by omega) (show 0 < 6 by decide), hkf k _ (show k < 8 by omega) (show 1 < 6 by decide), hkf k _ (show k < 8 by omega) (show 2 < 6 by decide), hkf k _ (show k < 8 by omega) (show 3 < 6 by decide), hkf k _ (show k < 8 by omega) (show 4 < 6 by decide), hkf k _ (show k < 8 by omega) (show 5 < 6 by decide), qH]
    obtain ⟨⟨i1, i1b⟩, i2, i3⟩ := iK k hk
    exact ⟨⟨i1, Nat.lt_succ_of_lt i1b⟩, i2.imp id (fun h => ⟨h.1, Nat.lt_succ_of_lt h.2.1, h.2.2⟩), i3⟩
  · have tno : ∀ n, takF σ x n = false → ∀ g, g < n → σ (9 + 2 * g) ≠ x := by
      intro n
      induction n with
      | zero => intro _ g hg; exact absurd hg (Nat.not_lt_zero _)
      | succ n ih =>
        intro h g hg
        unfold takF at h
        rw [Bool.or_eq_false_iff] at h
        rcases Nat.lt_or_ge g n with q | q
        · exact ih h.1 g q
        · have e : g = n := by omega
          subst e
          exact of_decide_eq_false h.2
    have hno := tno _ ht
    have eN : (risF σ (cH σ) x y) (9 + 2 * cH σ) = x := by unfold risF; rw [upd_ne (by omega), upd_ne (by omega), upd_at]
    have eZ : hz (risF σ (cH σ) x y) (cH σ) = y := by unfold hz risF; rw [upd_ne (by omega), upd_at]
    have eO : ∀ g, g < cH σ → (risF σ (cH σ) x y) (9 + 2 * g) = σ (9 + 2 * g) := fun g hg => off (by omega)
    have eZo : ∀ g, g < cH σ → hz (risF σ (cH σ) x y) g = hz σ g := fun g hg => by unfold hz; exact off (by omega)
    intro q hq
    rw [qH] at hq ⊢
    by_cases e : q = cH σ
    · subst e
      rw [eN, eZ]
      refine ⟨hx, hy, fun g hg he => ?_⟩
      by_cases e2 : g = cH σ
      · exact e2
      · have hg2 : g < cH σ := by omega
        rw [eO g hg2] at he
        exact absurd he (hno g hg2)
    · have hq2 : q < cH σ := by omega
      rw [eO q hq2, eZo q hq2]
      obtain ⟨i1, i2, i3⟩ := iH q hq2
      refine ⟨i1, i2, fun g hg he => ?_⟩
      by_cases e2 : g = cH σ
      · subst e2
        rw [eN] at he
        exact absurd he.symm (hno q hq2)
      · have hg2 : g < cH σ := by omega
        rw [eO g hg2] at he
        exact i3 g hg2 he
  · intro q hq
    have e1 : (risF σ (cH σ) x y) (27 + q) = σ (27 + q) := off (by omega)
    unfold wdF
    rw [e1]
    exact iW q hq
  · intro q hq
    rw [qL] at hq
    unfold onF toF anF
    simp only [hlf q _ (show q < 12 by omega) (show 5 < 7 by decide), hlf q _ (show q < 12 by omega) (show 1 < 7 by decide), hlf q _ (show q < 12 by omega) (show 2 < 7 by decide), hlf q _ (show q < 12 by omega) (show 3 < 7 by decide), qH]
    obtain ⟨⟨i1, i1b⟩, ⟨i2, i2b⟩, i3⟩ := iL q hq
    exact ⟨⟨i1, Nat.lt_succ_of_lt i1b⟩, ⟨i2, Nat.lt_succ_of_lt i2b⟩, i3⟩
  · intro q hq
    rw [qA] at hq
    have hq12 : cA σ ≤ 12 := by rw [lA]; exact Nat.le_trans (arN_le σ _) lL
    have e1 : (risF σ (cH σ) x y) (183 + q) = σ (183 + q) := off (by omega)
    unfold orF
    rw [e1, qL]
    exact iO q hq
  · obtain ⟨⟨n1, b1, b2⟩, ⟨n2, b3, b4⟩, b5⟩ := iB
    refine ⟨⟨n1, by rw [off (by omega)]; exact b1, b2⟩, ⟨n2, by rw [off (by omega)]; exact b3, b4⟩, fun j hj => ?_⟩
    rw [off (by omega)]
    exact b5 j hj
  · intro u hu
    exact TxOk_same (fun j hj => off (by omega)) (hT u hu)

theorem Inv_fly {σ : Rw} (hI : Inv σ) {v0 v1 v3 v4 : Int32} {h : Nat} (h0 : 0 ≤ v0 ∧ v0 ≤ 6) (h1 : 0 ≤ v1 ∧ v1 ≤ 9) (hh : h < cH σ) (h3 : 0 ≤ v3 ∧ v3 ≤ 99) (h4 : 1 ≤ v4 ∧ v4 ≤ 40) (hn : cK σ < 8) : Inv (flyF σ (cK σ) v0 v1 (nI h) v3 v4) := by
  obtain ⟨⟨⟨eH, lH⟩, ⟨eK, lK⟩, ⟨eL, lL⟩, ⟨eA, lA⟩, ⟨eT, lT⟩⟩, iK, iH, iW, iL, iO, iB, hT⟩ := id hI
  have off : ∀ {j : Nat}, j ≠ 2 ∧ (j < 51 + 6 * cK σ ∨ 57 + 6 * cK σ ≤ j) → (flyF σ (cK σ) v0 v1 (nI h) v3 v4) j = σ j := fun h => by unfold flyF; rw [upd_ne h.1, upd_ne (by omega), upd_ne (by omega), upd_ne (by omega), upd_ne (by omega), upd_ne (by omega), upd_ne (by omega)]
  have qH : cH (flyF σ (cK σ) v0 v1 (nI h) v3 v4) = cH σ := by unfold cH; rw [off (by omega)]
  have qK : cK (flyF σ (cK σ) v0 v1 (nI h) v3 v4) = cK σ + 1 := by unfold flyF; show (upd _ 2 _ 2).toNatClampNeg = _; rw [upd_at, nI_suc_cnt eK]; exact nI_clamp (by omega)
  have qL : cL (flyF σ (cK σ) v0 v1 (nI h) v3 v4) = cL σ := by unfold cL; rw [off (by omega)]
  have qA : cA (flyF σ (cK σ) v0 v1 (nI h) v3 v4) = cA σ := by unfold cA; rw [off (by omega)]
  have qT : cT (flyF σ (cK σ) v0 v1 (nI h) v3 v4) = cT σ := by unfold cT; rw [off (by omega)]
  have hlf : ∀ k_ f_, k_ < 12 → f_ < 7 → lf (flyF σ (cK σ) v0 v1 (nI h) v3 v4) k_ f_ = lf σ k_ f_ := fun k_ f_ hk_ hf_ => by unfold lf; exact off (by omega)
  refine ⟨⟨⟨?_, ?_⟩, ⟨?_, ?_⟩, ⟨?_, ?_⟩, ⟨?_, ?_⟩, ⟨?_, ?_⟩⟩, ?_, ?_, ?_, ?_, ?_, ?_, ?_⟩
  · rw [qH, off (by omega)]; exact eH
  · rw [qH]; exact lH
  · rw [qK]; unfold flyF; rw [upd_at]; exact nI_suc_cnt eK
  · rw [qK]; exact hn
  · rw [qL, off (by omega)]; exact eL
  · rw [qL]; exact lL
  · rw [qA, off (by omega)]; exact eA
  · rw [qA, qL, arN_same (σ := σ) (τ := (flyF σ (cK σ) v0 v1 (nI h) v3 v4)) (fun l hl => by unfold arF; rw [hlf l 6 (by omega) (by decide)])]; exact lA
  · rw [qT, off (by omega)]; exact eT
  · rw [qT]; exact lT
  · have g0 : kf (flyF σ (cK σ) v0 v1 (nI h) v3 v4) (cK σ) 0 = v0 := by unfold kf flyF; rw [upd_ne (by omega), upd_ne (by omega), upd_ne (by omega), upd_ne (by omega), upd_ne (by omega), upd_ne (by omega)]; exact upd_at
    have g1 : kf (flyF σ (cK σ) v0 v1 (nI h) v3 v4) (cK σ) 1 = v1 := by unfold kf flyF; rw [upd_ne (by omega), upd_ne (by omega), upd_ne (by omega), upd_ne (by omega), upd_ne (by omega), upd_at]
    have g2 : kf (flyF σ (cK σ) v0 v1 (nI h) v3 v4) (cK σ) 2 = nI h := by unfold kf flyF; rw [upd_ne (by omega), upd_ne (by omega), upd_ne (by omega), upd_ne (by omega), upd_at]
    have g3 : kf (flyF σ (cK σ) v0 v1 (nI h) v3 v4) (cK σ) 3 = v3 := by unfold kf flyF; rw [upd_ne (by omega), upd_ne (by omega), upd_ne (by omega), upd_at]
    have g4 : kf (flyF σ (cK σ) v0 v1 (nI h) v3 v4) (cK σ) 4 = v4 := by unfold kf flyF; rw [upd_ne (by omega), upd_ne (by omega), upd_at]
    have g5 : kf (flyF σ (cK σ) v0 v1 (nI h) v3 v4) (cK σ) 5 = -1 := by unfold kf flyF; rw [upd_ne (by omega), upd_at]
    intro k hk
    rw [qK] at hk
    unfold hmF amF
    by_cases e : k = cK σ
    · subst e
      rw [g0, g1, g2, g3, g4, g5, qH]
      have eh : (nI h).toNatClampNeg = h := nI_clamp (by omega)
      rw [eh]
      exact ⟨⟨rfl, hh⟩, Or.inl rfl, h0, h1, h3, h4⟩
    · have hk2 : k < cK σ := by omega
      have hkf : ∀ f, f < 6 → kf (flyF σ (cK σ) v0 v1 (nI h) v3 v4) k f = kf σ k f := fun f hf => by unfold kf; exact off (by omega)
      simp only [hkf 0 (by decide), hkf 1 (by decide), hkf 2 (by decide), hkf 3 (by decide), hkf 4 (by decide), hkf 5 (by decide), qH]
      exact iK k hk2
  · intro q hq
    rw [qH] at hq
    have e1 : ∀ g, g < cH σ → (flyF σ (cK σ) v0 v1 (nI h) v3 v4) (9 + 2 * g) = σ (9 + 2 * g) := fun g hg => off (by omega)
    have e2 : hz (flyF σ (cK σ) v0 v1 (nI h) v3 v4) q = hz σ q := by unfold hz; exact off (by omega)
    rw [e2, qH, e1 q hq]
    obtain ⟨i1, i2, i3⟩ := iH q hq
    exact ⟨i1, i2, fun g hg he => i3 g hg (by rw [e1 g hg] at he; exact he)⟩
  · intro q hq
    have e1 : (flyF σ (cK σ) v0 v1 (nI h) v3 v4) (27 + q) = σ (27 + q) := off (by omega)
    unfold wdF
    rw [e1]
    exact iW q hq
  · intro q hq
    rw [qL] at hq
    unfold onF toF anF
    simp only [hlf q _ (show q < 12 by omega) (show 5 < 7 by decide), hlf q _ (show q < 12 by omega) (show 1 < 7 by decide), hlf q _ (show q < 12 by omega) (show 2 < 7 by decide), hlf q _ (show q < 12 by omega) (show 3 < 7 by decide), qH]
    exact iL q hq
  · intro q hq
    rw [qA] at hq
    have hq12 : cA σ ≤ 12 := by rw [lA]; exact Nat.le_trans (arN_le σ _) lL
    have e1 : (flyF σ (cK σ) v0 v1 (nI h) v3 v4) (183 + q) = σ (183 + q) := off (by omega)
    unfold orF
    rw [e1, qL]
    exact iO q hq
  · obtain ⟨⟨n1, b1, b2⟩, ⟨n2, b3, b4⟩, b5⟩ := iB
    refine ⟨⟨n1, by rw [off (by omega)]; exact b1, b2⟩, ⟨n2, by rw [off (by omega)]; exact b3, b4⟩, fun j hj => ?_⟩
    rw [off (by omega)]
    exact b5 j hj
  · intro u hu
    exact TxOk_same (fun j hj => off (by omega)) (hT u hu)

theorem cK_ris {σ : Rw} {n : Nat} {x y : Int32} (hn : n < 9) : cK (risF σ n x y) = cK σ ∧ cT (risF σ n x y) = cT σ ∧ cL (risF σ n x y) = cL σ ∧ risF σ n x y 2 = σ 2 := by
  unfold cK cT cL risF
  refine ⟨?_, ?_, ?_, ?_⟩ <;> rw [upd_ne (by omega), upd_ne (by omega), upd_ne (by omega)]
theorem cH_ris {σ : Rw} (eH : σ 1 = nI (cH σ)) (hn : cH σ < 9) {x y : Int32} : cH (risF σ (cH σ) x y) = cH σ + 1 := by
  show (upd _ 1 _ 1).toNatClampNeg = _
  rw [upd_at, nI_suc_cnt eH]
  exact nI_clamp (by omega)
theorem frW_ok {σ : Rw} (hI : Inv σ) {xy : Nat} (hxy : xy < 256) (hH : cH σ < 9) (hK : cK σ < 8) (ht : takF σ (nI xy) (cH σ) = false) : Inv (frW σ (nI xy)) ∧ cT (frW σ (nI xy)) = cT σ := by
  have h1 : Inv (risF σ (cH σ) (nI xy) 0) := Inv_ris hI ⟨nI_pos' (by omega), nI_le (b := 255) (by omega) (by decide)⟩ ⟨by decide, by decide⟩ hH ht
  obtain ⟨q1, q2, -, -⟩ := cK_ris (σ := σ) (x := nI xy) (y := 0) hH
  have q3 := cH_ris (x := nI xy) (y := 0) hI.1.1.1 hH
  have h2 : Inv (flyF (risF σ (cH σ) (nI xy) 0) (cK (risF σ (cH σ) (nI xy) 0)) 0 0 (nI (cH σ)) 40 20) := Inv_fly h1 ⟨by decide, by decide⟩ ⟨by decide, by decide⟩ (by rw [q3]; exact Nat.lt_succ_self _) ⟨by decide, by decide⟩ ⟨by decide, by decide⟩ (by rw [q1]; exact hK)
  rw [q1] at h2
  refine ⟨h2, ?_⟩
  unfold frW
  rw [← q2]
  unfold cT flyF
  rw [upd_ne (by omega), upd_ne (by omega), upd_ne (by omega), upd_ne (by omega), upd_ne (by omega), upd_ne (by omega), upd_ne (by omega)]
