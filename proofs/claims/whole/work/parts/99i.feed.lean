theorem Inv_byt {σ : Rw} (hI : Inv σ) {n v : Nat} (hn : n < 50) (hv : v < 256) : Inv (upd (upd σ (195 + n) (nI v)) 6 (nI (n + 1))) := by
  obtain ⟨⟨⟨eH, lH⟩, ⟨eK, lK⟩, ⟨eL, lL⟩, ⟨eA, lA⟩, ⟨eT, lT⟩⟩, iK, iH, iW, iL, iO, iB, hT⟩ := id hI
  have off : ∀ {j : Nat}, (j ≠ 195 + n ∧ j ≠ 6) → (upd (upd σ (195 + n) (nI v)) 6 (nI (n + 1))) j = σ j := fun hj => (upd_ne hj.2).trans (upd_ne hj.1)
  have qH : cH (upd (upd σ (195 + n) (nI v)) 6 (nI (n + 1))) = cH σ := by unfold cH; rw [off (by omega)]
  have qK : cK (upd (upd σ (195 + n) (nI v)) 6 (nI (n + 1))) = cK σ := by unfold cK; rw [off (by omega)]
  have qL : cL (upd (upd σ (195 + n) (nI v)) 6 (nI (n + 1))) = cL σ := by unfold cL; rw [off (by omega)]
  have qA : cA (upd (upd σ (195 + n) (nI v)) 6 (nI (n + 1))) = cA σ := by unfold cA; rw [off (by omega)]
  have qT : cT (upd (upd σ (195 + n) (nI v)) 6 (nI (n + 1))) = cT σ := by unfold cT; rw [off (by omega)]
  have hkf : ∀ k_ f_, k_ < 8 → f_ < 6 → kf (upd (upd σ (195 + n) (nI v)) 6 (nI (n + 1))) k_ f_ = kf σ k_ f_ := fun k_ f_ hk_ hf_ => by unfold kf; exact off (by omega)
  have hlf : ∀ k_ f_, k_ < 12 → f_ < 7 → lf (upd (upd σ (195 + n) (nI v)) 6 (nI (n + 1))) k_ f_ = lf σ k_ f_ := fun k_ f_ hk_ hf_ => by unfold lf; exact off (by omega)
  refine ⟨⟨⟨?_, ?_⟩, ⟨?_, ?_⟩, ⟨?_, ?_⟩, ⟨?_, ?_⟩, ⟨?_, ?_⟩⟩, ?_, ?_, ?_, ?_, ?_, ?_, ?_⟩
  · rw [qH, off (by omega)]; exact eH
  · rw [qH]; exact lH
  · rw [qK, off (by omega)]; exact eK
  · rw [qK]; exact lK
  · rw [qL, off (by omega)]; exact eL
  · rw [qL]; exact lL
  · rw [qA, off (by omega)]; exact eA
  · rw [qA, qL, arN_same (σ := σ) (τ := (upd (upd σ (195 + n) (nI v)) 6 (nI (n + 1)))) (fun l hl => by unfold arF; rw [hlf l 6 (by omega) (by decide)])]; exact lA
  · rw [qT, off (by omega)]; exact eT
  · rw [qT]; exact lT
  · intro k hk
    rw [qK] at hk
    unfold hmF amF
    simp only [hkf k _ (show k < 8 by omega) (show 0 < 6 by decide), hkf k _ (show k < 8 by omega) (show 1 < 6 by decide), hkf k _ (show k < 8 by omega) (show 2 < 6 by decide), hkf k _ (show k < 8 by omega) (show 3 < 6 by decide), hkf k _ (show k < 8 by omega) (show 4 < 6 by decide), hkf k _ (show k < 8 by omega) (show 5 < 6 by decide), qH]
    exact iK k hk
  · intro q hq
    rw [qH] at hq
    have e1 : ∀ g, g < cH σ → (upd (upd σ (195 + n) (nI v)) 6 (nI (n + 1))) (9 + 2 * g) = σ (9 + 2 * g) := fun g hg => off (by omega)
    have e2 : hz (upd (upd σ (195 + n) (nI v)) 6 (nI (n + 1))) q = hz σ q := by unfold hz; exact off (by omega)
    rw [e2, qH, e1 q hq]
    obtain ⟨i1, i2, i3⟩ := iH q hq
    exact ⟨i1, i2, fun g hg he => i3 g hg (by rw [e1 g hg] at he; exact he)⟩
  · intro q hq
    have e1 : (upd (upd σ (195 + n) (nI v)) 6 (nI (n + 1))) (27 + q) = σ (27 + q) := off (by omega)
    unfold wdF
    rw [e1]
    exact iW q hq
  · intro q hq
    rw [qL] at hq
    unfold onF toF anF
    simp only [hlf q _ (show q < 12 by omega) (show 5 < 7 by decide), hlf q _ (show q < 12 by omega) (show 1 < 7 by decide), hlf q _ (show q < 12 by omega) (show 2 < 7 by decide), hlf q _ (show q < 12 by omega) (show 3 < 7 by decide), qH]
    exact iL q hq
  · intro q hq
    rw [qA] at hq
    have hq12 : cA σ ≤ 12 := by rw [lA]; exact Nat.le_trans (arN_le σ _) lL
    have e1 : (upd (upd σ (195 + n) (nI v)) 6 (nI (n + 1))) (183 + q) = σ (183 + q) := off (by omega)
    unfold orF
    rw [e1, qL]
    exact iO q hq
  · obtain ⟨-, ⟨n2, b3, b4⟩, b5⟩ := iB
    refine ⟨⟨n + 1, upd_at, by omega⟩, ⟨n2, by rw [off (by omega)]; exact b3, b4⟩, fun j hj => ?_⟩
    by_cases c : j = n
    · rw [c]
      exact ⟨v, hv, (upd_ne (by omega)).trans upd_at⟩
    · rw [off (by omega)]
      exact b5 j hj
  · intro u hu
    exact TxOk_same (fun j hj => off (by omega)) (hT u hu)

theorem and_255 (x : Int32) : ∃ v, v < 256 ∧ x &&& 255 = nI v := by
  refine ⟨(x.toBitVec &&& 255#32).toNat, ?_, ?_⟩
  · rw [BitVec.toNat_and]
    exact Nat.lt_of_le_of_lt Nat.and_le_right (by decide)
  · rw [← Int32.toBitVec_inj]
    show x.toBitVec &&& 255#32 = BitVec.ofNat 32 (x.toBitVec &&& 255#32).toNat
    rw [BitVec.ofNat_toNat, BitVec.setWidth_eq]
