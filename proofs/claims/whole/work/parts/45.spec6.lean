def lonN (σ : Rw) (h : Int32) : Nat → Nat
  | 0 => 0
  | n + 1 => if lf σ n 5 = h ∧ lf σ n 6 < 0 then lonN σ h n ||| 2 ^ n else lonN σ h n
theorem lonN_lt (σ : Rw) (h : Int32) : ∀ n, lonN σ h n < 2 ^ n
  | 0 => Nat.zero_lt_one
  | n + 1 => by
    have := lonN_lt σ h n
    have h2 : lonN σ h n < 2 ^ (n + 1) := Nat.lt_trans this (pw_lt (Nat.lt_succ_self n))
    unfold lonN
    split
    · exact or_lt h2 (pw_lt (Nat.lt_succ_self n))
    · exact h2
theorem lonF_n (σ : Rw) (h : Int32) : ∀ n, n ≤ 31 → lonF σ h n = nI (lonN σ h n)
  | 0, _ => rfl
  | n + 1, hn => by
    unfold lonF lonN
    rw [lonF_n σ h n (by omega)]
    by_cases hl : lf σ n 5 = h ∧ lf σ n 6 < 0
    · rw [if_pos hl, if_pos hl, jshl_1 (by omega), fa_or]
    · rw [if_neg hl, if_neg hl, show (0 : Int32) = nI 0 from rfl, fa_or, Nat.or_zero]
theorem lonN_bit (σ : Rw) (h : Int32) : ∀ n i, (lonN σ h n).testBit i = (decide (i < n) && (decide (lf σ i 5 = h) && decide (lf σ i 6 < 0)))
  | 0, i => by simp [lonN]
  | n + 1, i => by
    unfold lonN
    by_cases hl : lf σ n 5 = h ∧ lf σ n 6 < 0
    · rw [if_pos hl, fb_bit_set, lonN_bit σ h n i]
      by_cases g : i = n
      · subst g; simp [hl.1, hl.2]
      · have e : decide (i < n + 1) = decide (i < n) := by
          apply decide_eq_decide.mpr; omega
        simp [g, e]
    · rw [if_neg hl, lonN_bit σ h n i]
      by_cases g : i = n
      · subst g
        have : (decide (lf σ i 5 = h) && decide (lf σ i 6 < 0)) = false := by
          cases hq : (decide (lf σ i 5 = h) && decide (lf σ i 6 < 0)) with
          | false => rfl
          | true =>
            rw [Bool.and_eq_true] at hq
            exact absurd ⟨of_decide_eq_true hq.1, of_decide_eq_true hq.2⟩ hl
        simp [this]
      · have e : decide (i < n + 1) = decide (i < n) := by
          apply decide_eq_decide.mpr; omega
        rw [e]
def exN (L mv : Nat) : Nat := L &&& (mv ^^^ 4294967295)
theorem ex_n {L mv : Nat} : nI L &&& (nI mv ^^^ (-1)) = nI (exN L mv) := by rw [m1_n, fb_xorI, fa_and]; rfl
theorem ex_bit {L mv i : Nat} (hi : i < 32) : (exN L mv).testBit i = (L.testBit i && !(mv.testBit i)) := by
  unfold exN
  rw [Nat.testBit_and, Nat.testBit_xor, ones_bit hi]
  simp
theorem ex_le {L mv : Nat} : exN L mv ≤ L := Nat.and_le_left
/-- behind the first n letters: the row, the load, which were taken -/
def tkS (σ : Rw) (k on aim : Nat) : Nat → Rw × Int32 × Nat
  | 0 => (σ, 0, 0)
  | n + 1 => if on.testBit n && stN (tkS σ k on aim n).1 k aim ((tkS σ k on aim n).2.1 + lf (tkS σ k on aim n).1 n 2) then (comF (tkS σ k on aim n).1 n (nI aim), (tkS σ k on aim n).2.1 + lf (tkS σ k on aim n).1 n 2, (tkS σ k on aim n).2.2 ||| 2 ^ n) else tkS σ k on aim n
def sameK (σ τ : Rw) : Prop := cL τ = cL σ ∧ cH τ = cH σ ∧ cK τ = cK σ ∧ cT τ = cT σ ∧ (∀ j, j < 4 ∨ (6 ≤ j ∧ j < 99) ∨ 195 ≤ j → τ j = σ j)
theorem sameK.rf (σ : Rw) : sameK σ σ := ⟨rfl, rfl, rfl, rfl, fun _ _ => rfl⟩
theorem sameK.tr {σ τ ρ : Rw} (h : sameK σ τ) (h2 : sameK τ ρ) : sameK σ ρ := ⟨h2.1.trans h.1, h2.2.1.trans h.2.1, h2.2.2.1.trans h.2.2.1, h2.2.2.2.1.trans h.2.2.2.1, fun j hj => (h2.2.2.2.2 j hj).trans (h.2.2.2.2 j hj)⟩
theorem sameK_com {σ : Rw} {l : Nat} {hill : Int32} (hl : l < 12) (hA : cA σ < 12) : sameK σ (comF σ l hill) := by
  obtain ⟨a, b, c, d⟩ := comF_c (σ := σ) (hill := hill) hl hA
  exact ⟨c, a, b, d, fun j hj => comF_off (by omega) (by omega) (by omega) (by omega) (by omega)⟩
theorem sameK.kt {σ τ : Rw} (h : sameK σ τ) {k f : Nat} (hk : k < 8) (hf : f < 6) : kf τ k f = kf σ k f := by
  unfold kf
  exact h.2.2.2.2 _ (by omega)
theorem sameK.hm {σ τ : Rw} (h : sameK σ τ) {k : Nat} (hk : k < 8) : hmF τ k = hmF σ k := by unfold hmF; rw [h.kt hk (by decide)]
theorem sameK.am {σ τ : Rw} (h : sameK σ τ) {k : Nat} (hk : k < 8) : amF τ k = amF σ k := by unfold amF; rw [h.kt hk (by decide)]
theorem tkS_ok {σ : Rw} {k on aim : Nat} (hI : Inv σ) (ha : aim < cH σ) (ho : ∀ l, on.testBit l = true → l < cL σ ∧ arF σ l = false) : ∀ n, n ≤ cL σ → Inv (tkS σ k on aim n).1 ∧ sameK σ (tkS σ k on aim n).1 ∧ (∀ l f, n ≤ l → l < 12 → f < 7 → lf (tkS σ k on aim n).1 l f = lf σ l f) ∧ (tkS σ k on aim n).2.2 < 2 ^ n
  | 0, _ => ⟨hI, sameK.rf σ, fun _ _ _ _ _ => rfl, Nat.zero_lt_one⟩
  | n + 1, hn => by
    obtain ⟨h1, h2, h3, h4⟩ := tkS_ok hI ha ho n (by omega)
    have h5 : (tkS σ k on aim n).2.2 < 2 ^ (n + 1) := Nat.lt_trans h4 (pw_lt (Nat.lt_succ_self n))
    have hL := hI.1.2.2.1.2
    by_cases hc : (on.testBit n && stN (tkS σ k on aim n).1 k aim ((tkS σ k on aim n).2.1 + lf (tkS σ k on aim n).1 n 2)) = true
    · have e : tkS σ k on aim (n + 1) = (comF (tkS σ k on aim n).1 n (nI aim), (tkS σ k on aim n).2.1 + lf (tkS σ k on aim n).1 n 2, (tkS σ k on aim n).2.2 ||| 2 ^ n) := if_pos hc
      rw [e]
      rw [Bool.and_eq_true] at hc
      obtain ⟨o1, o2⟩ := ho n hc.1
      have har : arF (tkS σ k on aim n).1 n = false := by
        unfold arF at o2 ⊢
        rw [h3 n 6 (Nat.le_refl _) (by omega) (by decide)]
        exact o2
      have hA : cA (tkS σ k on aim n).1 < 12 := by
        have g1 := h1.1.2.2.2.1.2
        have g2 := arN_lt (σ := (tkS σ k on aim n).1) (l := n) (n := cL (tkS σ k on aim n).1) (by rw [h2.1]; exact o1) har
        rw [h2.1] at g2
        rw [h2.1] at g1
        omega
      refine ⟨Inv_com h1 (by rw [h2.1]; exact o1) (by rw [h2.2.1]; exact ha) har, h2.tr (sameK_com (by omega) hA), fun l f hl hl2 hf => ?_, or_lt h5 (pw_lt (Nat.lt_succ_self n))⟩
      rw [← h3 l f (by omega) hl2 hf]
      unfold lf
      exact comF_off (by omega) (by omega) (by omega) (by omega) (by omega)
    · have e : tkS σ k on aim (n + 1) = tkS σ k on aim n := if_neg hc
      rw [e]
      exact ⟨h1, h2, fun l f hl => h3 l f (by omega), h5⟩
