theorem Inv_wnd {σ : Rw} (hI : Inv σ) {h : Nat} {v : Int32} (hh : h < 24) (hv : wi v 0 79 = true) : Inv (upd σ (27 + h) v) := by
  obtain ⟨⟨⟨eH, lH⟩, ⟨eK, lK⟩, ⟨eL, lL⟩, ⟨eA, lA⟩, ⟨eT, lT⟩⟩, iK, iH, iW, iL, iO, iB, hT⟩ := id hI
  have off : ∀ {j : Nat}, j ≠ 27 + h → (upd σ (27 + h) v) j = σ j := fun hj => upd_ne hj
  have qH : cH (upd σ (27 + h) v) = cH σ := by unfold cH; rw [off (by omega)]
  have qK : cK (upd σ (27 + h) v) = cK σ := by unfold cK; rw [off (by omega)]
  have qL : cL (upd σ (27 + h) v) = cL σ := by unfold cL; rw [off (by omega)]
  have qA : cA (upd σ (27 + h) v) = cA σ := by unfold cA; rw [off (by omega)]
  have qT : cT (upd σ (27 + h) v) = cT σ := by unfold cT; rw [off (by omega)]
  have hkf : ∀ k_ f_, k_ < 8 → f_ < 6 → kf (upd σ (27 + h) v) k_ f_ = kf σ k_ f_ := fun k_ f_ hk_ hf_ => by unfold kf; exact off (by omega)
  have hlf : ∀ k_ f_, k_ < 12 → f_ < 7 → lf (upd σ (27 + h) v) k_ f_ = lf σ k_ f_ := fun k_ f_ hk_ hf_ => by unfold lf; exact off (by omega)
  refine ⟨⟨⟨?_, ?_⟩, ⟨?_, ?_⟩, ⟨?_, ?_⟩, ⟨?_, ?_⟩, ⟨?_, ?_⟩⟩, ?_, ?_, ?_, ?_, ?_, ?_, ?_⟩
  · rw [qH, off (by omega)]; exact eH
  · rw [qH]; exact lH
  · rw [qK, off (by omega)]; exact eK
  · rw [qK]; exact lK
  · rw [qL, off (by omega)]; exact eL
  · rw [qL]; exact lL
  · rw [qA, off (by omega)]; exact eA
  · rw [qA, qL, arN_same (σ := σ) (τ := (upd σ (27 + h) v)) (fun l hl => by unfold arF; rw [hlf l 6 (by omega) (by decide)])]; exact lA
  · rw [qT, off (by omega)]; exact eT
  · rw [qT]; exact lT
  · intro k hk
    rw [qK] at hk
    unfold hmF amF
    simp only [hkf k _ (show k < 8 by omega) (show 0 < 6 by decide), hkf k _ (show k < 8 by omega) (show 1 < 6 by decide), hkf k _ (show k < 8 by omega) (show 2 < 6 by decide), hkf k _ (show k < 8 by omega) (show 3 < 6 by decide), hkf k _ (show k < 8 by omega) (show 4 < 6 by decide), hkf k _ (show k < 8 by omega) (show 5 < 6 by decide), qH]
    exact iK k hk
  · intro q hq
    rw [qH] at hq
    have e1 : ∀ g, g < cH σ → (upd σ (27 + h) v) (9 + 2 * g) = σ (9 + 2 * g) := fun g hg => off (by omega)
    have e2 : hz (upd σ (27 + h) v) q = hz σ q := by unfold hz; exact off (by omega)
    rw [e2, qH, e1 q hq]
    obtain ⟨i1, i2, i3⟩ := iH q hq
    exact ⟨i1, i2, fun g hg he => i3 g hg (by rw [e1 g hg] at he; exact he)⟩
  · intro q hq
    by_cases c : q = h
    · unfold wdF
      rw [c, upd_at]
      obtain ⟨e9, -, l9⟩ := wi_lit (a := 0) (c := 79) rfl rfl (by decide) (by decide) hv
      exact ⟨e9, l9⟩
    · have e1 : upd σ (27 + h) v (27 + q) = σ (27 + q) := upd_ne (by omega)
      unfold wdF
      rw [e1]
      exact iW q hq
  · intro q hq
    rw [qL] at hq
    unfold onF toF anF
    simp only [hlf q _ (show q < 12 by omega) (show 5 < 7 by decide), hlf q _ (show q < 12 by omega) (show 1 < 7 by decide), hlf q _ (show q < 12 by omega) (show 2 < 7 by decide), hlf q _ (show q < 12 by omega) (show 3 < 7 by decide), qH]
    exact iL q hq
  · intro q hq
    rw [qA] at hq
    have hq12 : cA σ ≤ 12 := by rw [lA]; exact Nat.le_trans (arN_le σ _) lL
    have e1 : (upd σ (27 + h) v) (183 + q) = σ (183 + q) := off (by omega)
    unfold orF
    rw [e1, qL]
    exact iO q hq
  · obtain ⟨⟨n1, b1, b2⟩, ⟨n2, b3, b4⟩, b5⟩ := iB
    refine ⟨⟨n1, by rw [off (by omega)]; exact b1, b2⟩, ⟨n2, by rw [off (by omega)]; exact b3, b4⟩, fun j hj => ?_⟩
    rw [off (by omega)]
    exact b5 j hj
  · intro u hu
    exact TxOk_same (fun j hj => off (by omega)) (hT u hu)

theorem Inv_op_wind {σ : Rw} (hI : Inv σ) (x y : Int32) : Inv (op_wind σ x y).2.2 := by
  unfold op_wind
  split
  · rename_i h
    rw [Bool.and_eq_true] at h
    obtain ⟨-, -, l9⟩ := wi_lit (a := 0) (c := 23) rfl rfl (by decide) (by decide) h.1
    exact Inv_wnd hI (by omega) h.2
  · exact hI
theorem Inv_op_seed {σ : Rw} (hI : Inv σ) (v : Int32) : Inv (op_seed σ v).2.2 := Inv_free hI (fun j _ hj => upd_ne hj)
theorem Inv_op_hours {σ : Rw} (hI : Inv σ) (hc9 : cT σ ≤ 9999) (x : Int32) : Inv (op_hours σ x).2.2 := by
  unfold op_hours
  split
  · rename_i h
    obtain ⟨-, -, l9⟩ := wi_lit (a := 1) (c := 72) rfl rfl (by decide) (by decide) h
    split
    · exact hI
    · exact (hrs_ok hI _ (by omega)).1
  · exact hI
theorem Inv_op_loose {σ : Rw} (hI : Inv σ) (hc9 : cT σ ≤ 9999) (x y : Int32) : Inv (op_loose σ x y).2.2 := by
  unfold op_loose
  split
  · rename_i h
    rw [Bool.and_eq_true] at h
    obtain ⟨-, -, l9⟩ := wi_lit (a := 1) (c := 72) rfl rfl (by decide) (by decide) h.1
    split
    · exact hI
    · exact (ls_ok hI _ (by omega)).1
  · exact hI
theorem Inv_op_aim {σ : Rw} (hI : Inv σ) (x y : Int32) : Inv (op_aim σ x y).2.2 := by
  obtain ⟨⟨⟨eH, lH⟩, ⟨eK, lK⟩, -⟩, iK, -⟩ := id hI
  unfold op_aim
  split
  · rename_i h
    rw [Bool.and_eq_true, Bool.or_eq_true] at h
    obtain ⟨e1, l1⟩ := wi_cnt eK (by omega) h.1
    split
    · exact hI
    · rename_i hn
      refine Inv_aim hI l1 ?_
      rcases h.2 with g | g
      · exact .inl (of_decide_eq_true g)
      · obtain ⟨e2, l2⟩ := wi_cnt eH (by omega) g
        obtain ⟨⟨ehm, lhm⟩, -⟩ := iK _ l1
        exact .inr ⟨e2, l2, fun h9 => hn (by rw [e2, ehm, h9])⟩
  · exact hI
