/-! writes into a Post -/
def Bd (σ : Rw) : Prop := cK σ ≤ 8 ∧ iN (σ 4) ≤ 12 ∧ iN (σ 6) ≤ 50 ∧ iN (σ 7) ≤ 20 ∧ TxOk σ 0 ∧ TxOk σ 1
theorem Inv.bd {σ : Rw} (hI : Inv σ) : Bd σ := by
  obtain ⟨⟨⟨eH, lH⟩, ⟨eK, lK⟩, ⟨eL, lL⟩, ⟨eA, lA⟩, ⟨eT, lT⟩⟩, iK, iH, iW, iL, iO, iB, hT⟩ := hI
  obtain ⟨⟨n6, q6, l6⟩, ⟨n7, q7, l7⟩, -⟩ := iB
  refine ⟨lK, ?_, ?_, ?_, hT 0 (by decide), hT 1 (by decide)⟩
  · show cA σ ≤ 12; rw [lA]; exact Nat.le_trans (arN_le σ _) lL
  · have e9 : iN (σ 6) = n6 := by { rw [q6]; exact nI_clamp (by omega) }
    omega
  · have e9 : iN (σ 7) = n7 := by { rw [q7]; exact nI_clamp (by omega) }
    omega
theorem Bd.up {σ τ : Rw} (h : Bd σ) (h1 : ∀ j, j = 2 ∨ j = 4 ∨ j = 6 ∨ j = 7 ∨ 265 ≤ j → τ j = σ j) : Bd τ := by
  obtain ⟨a, b, c, d, e, f⟩ := h
  refine ⟨?_, ?_, ?_, ?_, TxOk_same (fun j hj => h1 j (by omega)) e, TxOk_same (fun j hj => h1 j (by omega)) f⟩
  · unfold cK; rw [h1 2 (by omega)]; exact a
  · rw [h1 4 (by omega)]; exact b
  · rw [h1 6 (by omega)]; exact c
  · rw [h1 7 (by omega)]; exact d

theorem ok_wam {Γ : Cx} {f : Md} {d b pc : Nat} {L : List (Option Value)} {st : List Value} {Q : Option Value → Wd → Prop} {p e z sz : Nat} {σ : Rw} {M : Nat → Option va_E} {i x : Int32} (j : Nat) (hd : decode f.2.1 pc = .ok (.iastore, 1)) (hP : PstR Γ p e z σ M) (hB : Bd σ) (hpe : p + 26 ≤ e) (hi : i = nI j) (hj : j < 8) (k : ∀ M', PstR Γ p e z (upd σ (51 + 6 * j + 5) x) M' → Off p 26 M M' → Ok Γ f d b (pc + 1) L st (M', sz) Q) : Ok Γ f d b pc L (.int x :: .int i :: .ref (p + 6) :: st) (M, sz) Q := by
  obtain ⟨fn, e1, e2⟩ := id hP.am
  obtain ⟨b1, b2, b3, b4, b5, b6⟩ := id hB
  have hs : ∀ q, q ≠ 51 + 6 * j + 5 → upd σ (51 + 6 * j + 5) x q = σ q := fun q h => upd_ne h
  refine ok_iast j hd e1 hi hj (by decide) (k _ ?_ (fun q hq => up_ne (by omega)))
  exact ⟨(up_ne (by omega)).trans (hP.o.trans (by unfold pfs; rw [hs 0 (by omega), hs 1 (by omega), hs 2 (by omega), hs 3 (by omega), hs 5 (by omega), hs 8 (by omega)])), hP.xs.tr (up_ne (by omega)) (fun q hq => by unfold hx; rw [hs _ (by omega)]), hP.ys.tr (up_ne (by omega)) (fun q hq => by unfold hy; rw [hs _ (by omega)]), hP.hz.tr (up_ne (by omega)) (fun q hq => by unfold hz; rw [hs _ (by omega)]), hP.wd.tr (up_ne (by omega)) (fun q hq => hs _ (by omega)), hP.kt.tr (up_ne (by omega)) (fun q g1 g2 => up_ne (by omega)) (Nat.le_refl _) (by unfold cK; rw [hs 2 (by omega)]) hB.1 (fun k fl h1 h2 => by unfold kf; rw [hs _ (by omega)]), ⟨_, up_eq, fun q hq => by
    unfold kf
    by_cases h9 : q = j
    · subst h9
      rw [upd_at]
      exact (upd_at).symm
    · rw [upd_ne h9, e2 q hq]
      first
        | exact (upd_ne (by omega)).symm
        | (unfold hz; exact (upd_ne (by omega)).symm)
        | (unfold kf; exact (upd_ne (by omega)).symm)⟩, hP.lt.tr (up_ne (by omega)) (fun q hq => hs _ (by omega)), hP.ar.tr (up_ne (by omega)) (up_ne (by omega)) (hs 4 (by omega)) (fun q hq => hs _ (by omega)), hP.tp.tr (up_ne (by omega)) (up_ne (by omega)) (hs 6 (by omega)) (fun q hq => hs _ (by omega)), hP.wt.tr (up_ne (by omega)) (up_ne (by omega)) (hs 7 (by omega)) (fun q hq => hs _ (by omega)), hP.li.tr (fun q g1 g2 => up_ne (by omega)) (cd_same (fun q g1 g2 => hs q (by omega)) (by decide) b5), hP.pa.tr (fun q g1 g2 => up_ne (by omega)) (cd_same (fun q g1 g2 => hs q (by omega)) (by decide) b6)⟩
theorem ok_wwd {Γ : Cx} {f : Md} {d b pc : Nat} {L : List (Option Value)} {st : List Value} {Q : Option Value → Wd → Prop} {p e z sz : Nat} {σ : Rw} {M : Nat → Option va_E} {i x : Int32} (j : Nat) (hd : decode f.2.1 pc = .ok (.iastore, 1)) (hP : PstR Γ p e z σ M) (hB : Bd σ) (hpe : p + 26 ≤ e) (hi : i = nI j) (hj : j < 24) (k : ∀ M', PstR Γ p e z (upd σ (27 + j) x) M' → Off p 26 M M' → Ok Γ f d b (pc + 1) L st (M', sz) Q) : Ok Γ f d b pc L (.int x :: .int i :: .ref (p + 4) :: st) (M, sz) Q := by
  obtain ⟨fn, e1, e2⟩ := id hP.wd
  obtain ⟨b1, b2, b3, b4, b5, b6⟩ := id hB
  have hs : ∀ q, q ≠ 27 + j → upd σ (27 + j) x q = σ q := fun q h => upd_ne h
  refine ok_iast j hd e1 hi hj (by decide) (k _ ?_ (fun q hq => up_ne (by omega)))
  exact ⟨(up_ne (by omega)).trans (hP.o.trans (by unfold pfs; rw [hs 0 (by omega), hs 1 (by omega), hs 2 (by omega), hs 3 (by omega), hs 5 (by omega), hs 8 (by omega)])), hP.xs.tr (up_ne (by omega)) (fun q hq => by unfold hx; rw [hs _ (by omega)]), hP.ys.tr (up_ne (by omega)) (fun q hq => by unfold hy; rw [hs _ (by omega)]), hP.hz.tr (up_ne (by omega)) (fun q hq => by unfold hz; rw [hs _ (by omega)]), ⟨_, up_eq, fun q hq => by
    skip
    by_cases h9 : q = j
    · subst h9
      rw [upd_at]
      exact (upd_at).symm
    · rw [upd_ne h9, e2 q hq]
      first
        | exact (upd_ne (by omega)).symm
        | (unfold hz; exact (upd_ne (by omega)).symm)
        | (unfold kf; exact (upd_ne (by omega)).symm)⟩, hP.kt.tr (up_ne (by omega)) (fun q g1 g2 => up_ne (by omega)) (Nat.le_refl _) (by unfold cK; rw [hs 2 (by omega)]) hB.1 (fun k fl h1 h2 => by unfold kf; rw [hs _ (by omega)]), hP.am.tr (up_ne (by omega)) (fun q hq => by unfold kf; rw [hs _ (by omega)]), hP.lt.tr (up_ne (by omega)) (fun q hq => hs _ (by omega)), hP.ar.tr (up_ne (by omega)) (up_ne (by omega)) (hs 4 (by omega)) (fun q hq => hs _ (by omega)), hP.tp.tr (up_ne (by omega)) (up_ne (by omega)) (hs 6 (by omega)) (fun q hq => hs _ (by omega)), hP.wt.tr (up_ne (by omega)) (up_ne (by omega)) (hs 7 (by omega)) (fun q hq => hs _ (by omega)), hP.li.tr (fun q g1 g2 => up_ne (by omega)) (cd_same (fun q g1 g2 => hs q (by omega)) (by decide) b5), hP.pa.tr (fun q g1 g2 => up_ne (by omega)) (cd_same (fun q g1 g2 => hs q (by omega)) (by decide) b6)⟩
theorem ok_wlt {Γ : Cx} {f : Md} {d b pc : Nat} {L : List (Option Value)} {st : List Value} {Q : Option Value → Wd → Prop} {p e z sz : Nat} {σ : Rw} {M : Nat → Option va_E} {i x : Int32} (j : Nat) (hd : decode f.2.1 pc = .ok (.iastore, 1)) (hP : PstR Γ p e z σ M) (hB : Bd σ) (hpe : p + 26 ≤ e) (hi : i = nI j) (hj : j < 84) (k : ∀ M', PstR Γ p e z (upd σ (99 + j) x) M' → Off p 26 M M' → Ok Γ f d b (pc + 1) L st (M', sz) Q) : Ok Γ f d b pc L (.int x :: .int i :: .ref (p + 7) :: st) (M, sz) Q := by
  obtain ⟨fn, e1, e2⟩ := id hP.lt
  obtain ⟨b1, b2, b3, b4, b5, b6⟩ := id hB
  have hs : ∀ q, q ≠ 99 + j → upd σ (99 + j) x q = σ q := fun q h => upd_ne h
  refine ok_iast j hd e1 hi hj (by decide) (k _ ?_ (fun q hq => up_ne (by omega)))
  exact ⟨(up_ne (by omega)).trans (hP.o.trans (by unfold pfs; rw [hs 0 (by omega), hs 1 (by omega), hs 2 (by omega), hs 3 (by omega), hs 5 (by omega), hs 8 (by omega)])), hP.xs.tr (up_ne (by omega)) (fun q hq => by unfold hx; rw [hs _ (by omega)]), hP.ys.tr (up_ne (by omega)) (fun q hq => by unfold hy; rw [hs _ (by omega)]), hP.hz.tr (up_ne (by omega)) (fun q hq => by unfold hz; rw [hs _ (by omega)]), hP.wd.tr (up_ne (by omega)) (fun q hq => hs _ (by omega)), hP.kt.tr (up_ne (by omega)) (fun q g1 g2 => up_ne (by omega)) (Nat.le_refl _) (by unfold cK; rw [hs 2 (by omega)]) hB.1 (fun k fl h1 h2 => by unfold kf; rw [hs _ (by omega)]), hP.am.tr (up_ne (by omega)) (fun q hq => by unfold kf; rw [hs _ (by omega)]), ⟨_, up_eq, fun q hq => by
    skip
    by_cases h9 : q = j
    · subst h9
      rw [upd_at]
      exact (upd_at).symm
    · rw [upd_ne h9, e2 q hq]
      first
        | exact (upd_ne (by omega)).symm
        | (unfold hz; exact (upd_ne (by omega)).symm)
        | (unfold kf; exact (upd_ne (by omega)).symm)⟩, hP.ar.tr (up_ne (by omega)) (up_ne (by omega)) (hs 4 (by omega)) (fun q hq => hs _ (by omega)), hP.tp.tr (up_ne (by omega)) (up_ne (by omega)) (hs 6 (by omega)) (fun q hq => hs _ (by omega)), hP.wt.tr (up_ne (by omega)) (up_ne (by omega)) (hs 7 (by omega)) (fun q hq => hs _ (by omega)), hP.li.tr (fun q g1 g2 => up_ne (by omega)) (cd_same (fun q g1 g2 => hs q (by omega)) (by decide) b5), hP.pa.tr (fun q g1 g2 => up_ne (by omega)) (cd_same (fun q g1 g2 => hs q (by omega)) (by decide) b6)⟩
theorem ok_whz {Γ : Cx} {f : Md} {d b pc : Nat} {L : List (Option Value)} {st : List Value} {Q : Option Value → Wd → Prop} {p e z sz : Nat} {σ : Rw} {M : Nat → Option va_E} {i x : Int32} (j : Nat) (hd : decode f.2.1 pc = .ok (.iastore, 1)) (hP : PstR Γ p e z σ M) (hB : Bd σ) (hpe : p + 26 ≤ e) (hi : i = nI j) (hj : j < 9) (k : ∀ M', PstR Γ p e z (upd σ (9 + 2 * j + 1) x) M' → Off p 26 M M' → Ok Γ f d b (pc + 1) L st (M', sz) Q) : Ok Γ f d b pc L (.int x :: .int i :: .ref (p + 3) :: st) (M, sz) Q := by
  obtain ⟨fn, e1, e2⟩ := id hP.hz
  obtain ⟨b1, b2, b3, b4, b5, b6⟩ := id hB
  have hs : ∀ q, q ≠ 9 + 2 * j + 1 → upd σ (9 + 2 * j + 1) x q = σ q := fun q h => upd_ne h
  refine ok_iast j hd e1 hi hj (by decide) (k _ ?_ (fun q hq => up_ne (by omega)))
  exact ⟨(up_ne (by omega)).trans (hP.o.trans (by unfold pfs; rw [hs 0 (by omega), hs 1 (by omega), hs 2 (by omega), hs 3 (by omega), hs 5 (by omega), hs 8 (by omega)])), hP.xs.tr (up_ne (by omega)) (fun q hq => by unfold hx; rw [hs _ (by omega)]), hP.ys.tr (up_ne (by omega)) (fun q hq => by unfold hy; rw [hs _ (by omega)]), ⟨_, up_eq, fun q hq => by
    unfold hz
    by_cases h9 : q = j
    · subst h9
      rw [upd_at]
      exact (upd_at).symm
    · rw [upd_ne h9, e2 q hq]
      first
        | exact (upd_ne (by omega)).symm
        | (unfold hz; exact (upd_ne (by omega)).symm)
        | (unfold kf; exact (upd_ne (by omega)).symm)⟩, hP.wd.tr (up_ne (by omega)) (fun q hq => hs _ (by omega)), hP.kt.tr (up_ne (by omega)) (fun q g1 g2 => up_ne (by omega)) (Nat.le_refl _) (by unfold cK; rw [hs 2 (by omega)]) hB.1 (fun k fl h1 h2 => by unfold kf; rw [hs _ (by omega)]), hP.am.tr (up_ne (by omega)) (fun q hq => by unfold kf; rw [hs _ (by omega)]), hP.lt.tr (up_ne (by omega)) (fun q hq => hs _ (by omega)), hP.ar.tr (up_ne (by omega)) (up_ne (by omega)) (hs 4 (by omega)) (fun q hq => hs _ (by omega)), hP.tp.tr (up_ne (by omega)) (up_ne (by omega)) (hs 6 (by omega)) (fun q hq => hs _ (by omega)), hP.wt.tr (up_ne (by omega)) (up_ne (by omega)) (hs 7 (by omega)) (fun q hq => hs _ (by omega)), hP.li.tr (fun q g1 g2 => up_ne (by omega)) (cd_same (fun q g1 g2 => hs q (by omega)) (by decide) b5), hP.pa.tr (fun q g1 g2 => up_ne (by omega)) (cd_same (fun q g1 g2 => hs q (by omega)) (by decide) b6)⟩
theorem ok_wHC {Γ : Cx} {f : Md} {d b pc : Nat} {L : List (Option Value)} {st : List Value} {Q : Option Value → Wd → Prop} {p e z sz : Nat} {σ : Rw} {M : Nat → Option va_E} {v : Int32} {idx : Nat} (hd : decode f.2.1 pc = .ok (.putfield idx, 3)) (hl : PLink f.1.cls idx 5 3 (tyX5 3)) (hP : PstR Γ p e z σ M) (hB : Bd σ) (hpe : p + 26 ≤ e) (k : ∀ M', PstR Γ p e z (upd σ 1 v) M' → Off p 26 M M' → Ok Γ f d b (pc + 3) L st (M', sz) Q) : Ok Γ f d b pc L (.int v :: .ref p :: st) (M, sz) Q := by
  obtain ⟨b1, b2, b3, b4, b5, b6⟩ := id hB
  have hs : ∀ q, q ≠ 1 → upd σ 1 v q = σ q := fun q h => upd_ne h
  refine ok_putf hd hl hP.o rfl rfl (by show 3 < 18; decide) (k _ ?_ (fun q hq => up_ne (by omega)))
  exact ⟨(up_eq.trans (show some (Sum.inr (5, (pfs p σ).set 3 (.int v))) = some (Sum.inr (5, pfs p (upd σ 1 v))) from by unfold pfs; rw [upd_ne (show 0 ≠ 1 by decide), upd_at, upd_ne (show 2 ≠ 1 by decide), upd_ne (show 3 ≠ 1 by decide), upd_ne (show 5 ≠ 1 by decide), upd_ne (show 8 ≠ 1 by decide)]; rfl)), hP.xs.tr (up_ne (by omega)) (fun q hq => by unfold hx; rw [hs _ (by omega)]), hP.ys.tr (up_ne (by omega)) (fun q hq => by unfold hy; rw [hs _ (by omega)]), hP.hz.tr (up_ne (by omega)) (fun q hq => by unfold hz; rw [hs _ (by omega)]), hP.wd.tr (up_ne (by omega)) (fun q hq => hs _ (by omega)), hP.kt.tr (up_ne (by omega)) (fun q g1 g2 => up_ne (by omega)) (Nat.le_refl _) (by unfold cK; rw [hs 2 (by omega)]) hB.1 (fun k fl h1 h2 => by unfold kf; rw [hs _ (by omega)]), hP.am.tr (up_ne (by omega)) (fun q hq => by unfold kf; rw [hs _ (by omega)]), hP.lt.tr (up_ne (by omega)) (fun q hq => hs _ (by omega)), hP.ar.tr (up_ne (by omega)) (up_ne (by omega)) (hs 4 (by omega)) (fun q hq => hs _ (by omega)), hP.tp.tr (up_ne (by omega)) (up_ne (by omega)) (hs 6 (by omega)) (fun q hq => hs _ (by omega)), hP.wt.tr (up_ne (by omega)) (up_ne (by omega)) (hs 7 (by omega)) (fun q hq => hs _ (by omega)), hP.li.tr (fun q g1 g2 => up_ne (by omega)) (cd_same (fun q g1 g2 => hs q (by omega)) (by decide) b5), hP.pa.tr (fun q g1 g2 => up_ne (by omega)) (cd_same (fun q g1 g2 => hs q (by omega)) (by decide) b6)⟩
theorem ok_wLC {Γ : Cx} {f : Md} {d b pc : Nat} {L : List (Option Value)} {st : List Value} {Q : Option Value → Wd → Prop} {p e z sz : Nat} {σ : Rw} {M : Nat → Option va_E} {v : Int32} {idx : Nat} (hd : decode f.2.1 pc = .ok (.putfield idx, 3)) (hl : PLink f.1.cls idx 5 9 (tyX5 9)) (hP : PstR Γ p e z σ M) (hB : Bd σ) (hpe : p + 26 ≤ e) (k : ∀ M', PstR Γ p e z (upd σ 3 v) M' → Off p 26 M M' → Ok Γ f d b (pc + 3) L st (M', sz) Q) : Ok Γ f d b pc L (.int v :: .ref p :: st) (M, sz) Q := by
  obtain ⟨b1, b2, b3, b4, b5, b6⟩ := id hB
  have hs : ∀ q, q ≠ 3 → upd σ 3 v q = σ q := fun q h => upd_ne h
  refine ok_putf hd hl hP.o rfl rfl (by show 9 < 18; decide) (k _ ?_ (fun q hq => up_ne (by omega)))
  exact ⟨(up_eq.trans (show some (Sum.inr (5, (pfs p σ).set 9 (.int v))) = some (Sum.inr (5, pfs p (upd σ 3 v))) from by unfold pfs; rw [upd_ne (show 0 ≠ 3 by decide), upd_ne (show 1 ≠ 3 by decide), upd_ne (show 2 ≠ 3 by decide), upd_at, upd_ne (show 5 ≠ 3 by decide), upd_ne (show 8 ≠ 3 by decide)]; rfl)), hP.xs.tr (up_ne (by omega)) (fun q hq => by unfold hx; rw [hs _ (by omega)]), hP.ys.tr (up_ne (by omega)) (fun q hq => by unfold hy; rw [hs _ (by omega)]), hP.hz.tr (up_ne (by omega)) (fun q hq => by unfold hz; rw [hs _ (by omega)]), hP.wd.tr (up_ne (by omega)) (fun q hq => hs _ (by omega)), hP.kt.tr (up_ne (by omega)) (fun q g1 g2 => up_ne (by omega)) (Nat.le_refl _) (by unfold cK; rw [hs 2 (by omega)]) hB.1 (fun k fl h1 h2 => by unfold kf; rw [hs _ (by omega)]), hP.am.tr (up_ne (by omega)) (fun q hq => by unfold kf; rw [hs _ (by omega)]), hP.lt.tr (up_ne (by omega)) (fun q hq => hs _ (by omega)), hP.ar.tr (up_ne (by omega)) (up_ne (by omega)) (hs 4 (by omega)) (fun q hq => hs _ (by omega)), hP.tp.tr (up_ne (by omega)) (up_ne (by omega)) (hs 6 (by omega)) (fun q hq => hs _ (by omega)), hP.wt.tr (up_ne (by omega)) (up_ne (by omega)) (hs 7 (by omega)) (fun q hq => hs _ (by omega)), hP.li.tr (fun q g1 g2 => up_ne (by omega)) (cd_same (fun q g1 g2 => hs q (by omega)) (by decide) b5), hP.pa.tr (fun q g1 g2 => up_ne (by omega)) (cd_same (fun q g1 g2 => hs q (by omega)) (by decide) b6)⟩
theorem ok_wtm {Γ : Cx} {f : Md} {d b pc : Nat} {L : List (Option Value)} {st : List Value} {Q : Option Value → Wd → Prop} {p e z sz : Nat} {σ : Rw} {M : Nat → Option va_E} {v : Int32} {idx : Nat} (hd : decode f.2.1 pc = .ok (.putfield idx, 3)) (hl : PLink f.1.cls idx 5 15 (tyX5 15)) (hP : PstR Γ p e z σ M) (hB : Bd σ) (hpe : p + 26 ≤ e) (k : ∀ M', PstR Γ p e z (upd σ 0 v) M' → Off p 26 M M' → Ok Γ f d b (pc + 3) L st (M', sz) Q) : Ok Γ f d b pc L (.int v :: .ref p :: st) (M, sz) Q := by
  obtain ⟨b1, b2, b3, b4, b5, b6⟩ := id hB
  have hs : ∀ q, q ≠ 0 → upd σ 0 v q = σ q := fun q h => upd_ne h
  refine ok_putf hd hl hP.o rfl rfl (by show 15 < 18; decide) (k _ ?_ (fun q hq => up_ne (by omega)))
  exact ⟨(up_eq.trans (show some (Sum.inr (5, (pfs p σ).set 15 (.int v))) = some (Sum.inr (5, pfs p (upd σ 0 v))) from by unfold pfs; rw [upd_at, upd_ne (show 1 ≠ 0 by decide), upd_ne (show 2 ≠ 0 by decide), upd_ne (show 3 ≠ 0 by decide), upd_ne (show 5 ≠ 0 by decide), upd_ne (show 8 ≠ 0 by decide)]; rfl)), hP.xs.tr (up_ne (by omega)) (fun q hq => by unfold hx; rw [hs _ (by omega)]), hP.ys.tr (up_ne (by omega)) (fun q hq => by unfold hy; rw [hs _ (by omega)]), hP.hz.tr (up_ne (by omega)) (fun q hq => by unfold hz; rw [hs _ (by omega)]), hP.wd.tr (up_ne (by omega)) (fun q hq => hs _ (by omega)), hP.kt.tr (up_ne (by omega)) (fun q g1 g2 => up_ne (by omega)) (Nat.le_refl _) (by unfold cK; rw [hs 2 (by omega)]) hB.1 (fun k fl h1 h2 => by unfold kf; rw [hs _ (by omega)]), hP.am.tr (up_ne (by omega)) (fun q hq => by unfold kf; rw [hs _ (by omega)]), hP.lt.tr (up_ne (by omega)) (fun q hq => hs _ (by omega)), hP.ar.tr (up_ne (by omega)) (up_ne (by omega)) (hs 4 (by omega)) (fun q hq => hs _ (by omega)), hP.tp.tr (up_ne (by omega)) (up_ne (by omega)) (hs 6 (by omega)) (fun q hq => hs _ (by omega)), hP.wt.tr (up_ne (by omega)) (up_ne (by omega)) (hs 7 (by omega)) (fun q hq => hs _ (by omega)), hP.li.tr (fun q g1 g2 => up_ne (by omega)) (cd_same (fun q g1 g2 => hs q (by omega)) (by decide) b5), hP.pa.tr (fun q g1 g2 => up_ne (by omega)) (cd_same (fun q g1 g2 => hs q (by omega)) (by decide) b6)⟩
theorem ok_wpd {Γ : Cx} {f : Md} {d b pc : Nat} {L : List (Option Value)} {st : List Value} {Q : Option Value → Wd → Prop} {p e z sz : Nat} {σ : Rw} {M : Nat → Option va_E} {v : Int32} {idx : Nat} (hd : decode f.2.1 pc = .ok (.putfield idx, 3)) (hl : PLink f.1.cls idx 5 16 (tyX5 16)) (hP : PstR Γ p e z σ M) (hB : Bd σ) (hpe : p + 26 ≤ e) (k : ∀ M', PstR Γ p e z (upd σ 5 v) M' → Off p 26 M M' → Ok Γ f d b (pc + 3) L st (M', sz) Q) : Ok Γ f d b pc L (.int v :: .ref p :: st) (M, sz) Q := by
  obtain ⟨b1, b2, b3, b4, b5, b6⟩ := id hB
  have hs : ∀ q, q ≠ 5 → upd σ 5 v q = σ q := fun q h => upd_ne h
  refine ok_putf hd hl hP.o rfl rfl (by show 16 < 18; decide) (k _ ?_ (fun q hq => up_ne (by omega)))
  exact ⟨(up_eq.trans (show some (Sum.inr (5, (pfs p σ).set 16 (.int v))) = some (Sum.inr (5, pfs p (upd σ 5 v))) from by unfold pfs; rw [upd_ne (show 0 ≠ 5 by decide), upd_ne (show 1 ≠ 5 by decide), upd_ne (show 2 ≠ 5 by decide), upd_ne (show 3 ≠ 5 by decide), upd_at, upd_ne (show 8 ≠ 5 by decide)]; rfl)), hP.xs.tr (up_ne (by omega)) (fun q hq => by unfold hx; rw [hs _ (by omega)]), hP.ys.tr (up_ne (by omega)) (fun q hq => by unfold hy; rw [hs _ (by omega)]), hP.hz.tr (up_ne (by omega)) (fun q hq => by unfold hz; rw [hs _ (by omega)]), hP.wd.tr (up_ne (by omega)) (fun q hq => hs _ (by omega)), hP.kt.tr (up_ne (by omega)) (fun q g1 g2 => up_ne (by omega)) (Nat.le_refl _) (by unfold cK; rw [hs 2 (by omega)]) hB.1 (fun k fl h1 h2 => by unfold kf; rw [hs _ (by omega)]), hP.am.tr (up_ne (by omega)) (fun q hq => by unfold kf; rw [hs _ (by omega)]), hP.lt.tr (up_ne (by omega)) (fun q hq => hs _ (by omega)), hP.ar.tr (up_ne (by omega)) (up_ne (by omega)) (hs 4 (by omega)) (fun q hq => hs _ (by omega)), hP.tp.tr (up_ne (by omega)) (up_ne (by omega)) (hs 6 (by omega)) (fun q hq => hs _ (by omega)), hP.wt.tr (up_ne (by omega)) (up_ne (by omega)) (hs 7 (by omega)) (fun q hq => hs _ (by omega)), hP.li.tr (fun q g1 g2 => up_ne (by omega)) (cd_same (fun q g1 g2 => hs q (by omega)) (by decide) b5), hP.pa.tr (fun q g1 g2 => up_ne (by omega)) (cd_same (fun q g1 g2 => hs q (by omega)) (by decide) b6)⟩
theorem ok_wdr {Γ : Cx} {f : Md} {d b pc : Nat} {L : List (Option Value)} {st : List Value} {Q : Option Value → Wd → Prop} {p e z sz : Nat} {σ : Rw} {M : Nat → Option va_E} {v : Int32} {idx : Nat} (hd : decode f.2.1 pc = .ok (.putfield idx, 3)) (hl : PLink f.1.cls idx 5 17 (tyX5 17)) (hP : PstR Γ p e z σ M) (hB : Bd σ) (hpe : p + 26 ≤ e) (k : ∀ M', PstR Γ p e z (upd σ 8 v) M' → Off p 26 M M' → Ok Γ f d b (pc + 3) L st (M', sz) Q) : Ok Γ f d b pc L (.int v :: .ref p :: st) (M, sz) Q := by
  obtain ⟨b1, b2, b3, b4, b5, b6⟩ := id hB
  have hs : ∀ q, q ≠ 8 → upd σ 8 v q = σ q := fun q h => upd_ne h
  refine ok_putf hd hl hP.o rfl rfl (by show 17 < 18; decide) (k _ ?_ (fun q hq => up_ne (by omega)))
  exact ⟨(up_eq.trans (show some (Sum.inr (5, (pfs p σ).set 17 (.int v))) = some (Sum.inr (5, pfs p (upd σ 8 v))) from by unfold pfs; rw [upd_ne (show 0 ≠ 8 by decide), upd_ne (show 1 ≠ 8 by decide), upd_ne (show 2 ≠ 8 by decide), upd_ne (show 3 ≠ 8 by decide), upd_ne (show 5 ≠ 8 by decide), upd_at]; rfl)), hP.xs.tr (up_ne (by omega)) (fun q hq => by unfold hx; rw [hs _ (by omega)]), hP.ys.tr (up_ne (by omega)) (fun q hq => by unfold hy; rw [hs _ (by omega)]), hP.hz.tr (up_ne (by omega)) (fun q hq => by unfold hz; rw [hs _ (by omega)]), hP.wd.tr (up_ne (by omega)) (fun q hq => hs _ (by omega)), hP.kt.tr (up_ne (by omega)) (fun q g1 g2 => up_ne (by omega)) (Nat.le_refl _) (by unfold cK; rw [hs 2 (by omega)]) hB.1 (fun k fl h1 h2 => by unfold kf; rw [hs _ (by omega)]), hP.am.tr (up_ne (by omega)) (fun q hq => by unfold kf; rw [hs _ (by omega)]), hP.lt.tr (up_ne (by omega)) (fun q hq => hs _ (by omega)), hP.ar.tr (up_ne (by omega)) (up_ne (by omega)) (hs 4 (by omega)) (fun q hq => hs _ (by omega)), hP.tp.tr (up_ne (by omega)) (up_ne (by omega)) (hs 6 (by omega)) (fun q hq => hs _ (by omega)), hP.wt.tr (up_ne (by omega)) (up_ne (by omega)) (hs 7 (by omega)) (fun q hq => hs _ (by omega)), hP.li.tr (fun q g1 g2 => up_ne (by omega)) (cd_same (fun q g1 g2 => hs q (by omega)) (by decide) b5), hP.pa.tr (fun q g1 g2 => up_ne (by omega)) (cd_same (fun q g1 g2 => hs q (by omega)) (by decide) b6)⟩
theorem pst_add_ar {Γ : Cx} {p e z : Nat} {σ : Rw} {M : Nat → Option va_E} (hP : PstR Γ p e z σ M) (hB : Bd σ) (hpe : p + 26 ≤ e) {fn : Rw} (e1 : M (p + 9) = aI Γ 12 fn) (e2 : ∀ j, j < iN (σ 4) → fn j = σ (183 + j)) (x : Int32) (q0 : Nat) (eq0 : σ 4 = nI q0) (hq0 : q0 < 12) : PstR Γ p e z (upd (upd σ (183 + q0) x) 4 (nI (q0 + 1))) (va_up (va_up M (p + 9) (aI Γ 12 (upd fn q0 x))) (p + 8) (some (.inr (6, [.ref (p + 9), .int (nI (q0 + 1))])))) ∧ Off p 26 M (va_up (va_up M (p + 9) (aI Γ 12 (upd fn q0 x))) (p + 8) (some (.inr (6, [.ref (p + 9), .int (nI (q0 + 1))])))) := by
  obtain ⟨b1, b2, b3, b4, b5, b6⟩ := id hB
  have hs : ∀ q, q ≠ 183 + q0 ∧ q ≠ 4 → upd (upd σ (183 + q0) x) 4 (nI (q0 + 1)) q = σ q := fun q h => by rw [upd_ne h.2, upd_ne h.1]
  have hw : ∀ q, q ≠ p + 8 → q ≠ p + 9 → va_up (va_up M (p + 9) (aI Γ 12 (upd fn q0 x))) (p + 8) (some (.inr (6, [.ref (p + 9), .int (nI (q0 + 1))]))) q = M q := fun q h1 h2 => by rw [up_ne h1, up_ne h2]
  have hcnt : upd (upd σ (183 + q0) x) 4 (nI (q0 + 1)) 4 = nI (q0 + 1) := upd_at
  have hin : iN (nI (q0 + 1)) = q0 + 1 := nI_clamp (by omega)
  have hin0 : iN (σ 4) = q0 := by rw [eq0]; exact nI_clamp (by omega)
  refine ⟨?_, fun q hq => hw q (by omega) (by omega)⟩
  exact ⟨(hw _ (by omega) (by omega)).trans (hP.o.trans (by unfold pfs; rw [hs 0 (by omega), hs 1 (by omega), hs 2 (by omega), hs 3 (by omega), hs 5 (by omega), hs 8 (by omega)])), hP.xs.tr (hw _ (by omega) (by omega)) (fun q hq => by unfold hx; rw [hs _ (by omega)]), hP.ys.tr (hw _ (by omega) (by omega)) (fun q hq => by unfold hy; rw [hs _ (by omega)]), hP.hz.tr (hw _ (by omega) (by omega)) (fun q hq => by unfold hz; rw [hs _ (by omega)]), hP.wd.tr (hw _ (by omega) (by omega)) (fun q hq => hs _ (by omega)), hP.kt.tr (hw _ (by omega) (by omega)) (fun q g1 g2 => hw q (by omega) (by omega)) (Nat.le_refl _) (by unfold cK; rw [hs 2 (by omega)]) hB.1 (fun k fl h1 h2 => by unfold kf; rw [hs _ (by omega)]), hP.am.tr (hw _ (by omega) (by omega)) (fun q hq => by unfold kf; rw [hs _ (by omega)]), hP.lt.tr (hw _ (by omega) (by omega)) (fun q hq => hs _ (by omega)), ⟨by rw [hcnt]; exact up_eq, upd fn q0 x, (up_ne (by omega)).trans up_eq, fun q hq => by
    rw [hcnt, hin] at hq
    by_cases h9 : q = q0
    · subst h9
      rw [upd_at]
      show x = upd (upd σ (183 + q) x) 4 (nI (q + 1)) (183 + q)
      rw [upd_ne (by omega), upd_at]
    · rw [upd_ne h9, e2 q (by omega)]
      exact (hs _ (by omega)).symm⟩, hP.tp.tr (hw _ (by omega) (by omega)) (hw _ (by omega) (by omega)) (hs 6 (by omega)) (fun q hq => hs _ (by omega)), hP.wt.tr (hw _ (by omega) (by omega)) (hw _ (by omega) (by omega)) (hs 7 (by omega)) (fun q hq => hs _ (by omega)), hP.li.tr (fun q g1 g2 => hw q (by omega) (by omega)) (cd_same (fun q g1 g2 => hs q (by omega)) (by decide) b5), hP.pa.tr (fun q g1 g2 => hw q (by omega) (by omega)) (cd_same (fun q g1 g2 => hs q (by omega)) (by decide) b6)⟩
theorem pst_add_tp {Γ : Cx} {p e z : Nat} {σ : Rw} {M : Nat → Option va_E} (hP : PstR Γ p e z σ M) (hB : Bd σ) (hpe : p + 26 ≤ e) {fn : Rw} (e1 : M (p + 11) = aI Γ 50 fn) (e2 : ∀ j, j < iN (σ 6) → fn j = σ (195 + j)) (x : Int32) (q0 : Nat) (eq0 : σ 6 = nI q0) (hq0 : q0 < 50) : PstR Γ p e z (upd (upd σ (195 + q0) x) 6 (nI (q0 + 1))) (va_up (va_up M (p + 11) (aI Γ 50 (upd fn q0 x))) (p + 10) (some (.inr (6, [.ref (p + 11), .int (nI (q0 + 1))])))) ∧ Off p 26 M (va_up (va_up M (p + 11) (aI Γ 50 (upd fn q0 x))) (p + 10) (some (.inr (6, [.ref (p + 11), .int (nI (q0 + 1))])))) := by
  obtain ⟨b1, b2, b3, b4, b5, b6⟩ := id hB
  have hs : ∀ q, q ≠ 195 + q0 ∧ q ≠ 6 → upd (upd σ (195 + q0) x) 6 (nI (q0 + 1)) q = σ q := fun q h => by rw [upd_ne h.2, upd_ne h.1]
  have hw : ∀ q, q ≠ p + 10 → q ≠ p + 11 → va_up (va_up M (p + 11) (aI Γ 50 (upd fn q0 x))) (p + 10) (some (.inr (6, [.ref (p + 11), .int (nI (q0 + 1))]))) q = M q := fun q h1 h2 => by rw [up_ne h1, up_ne h2]
  have hcnt : upd (upd σ (195 + q0) x) 6 (nI (q0 + 1)) 6 = nI (q0 + 1) := upd_at
  have hin : iN (nI (q0 + 1)) = q0 + 1 := nI_clamp (by omega)
  have hin0 : iN (σ 6) = q0 := by rw [eq0]; exact nI_clamp (by omega)
  refine ⟨?_, fun q hq => hw q (by omega) (by omega)⟩
  exact ⟨(hw _ (by omega) (by omega)).trans (hP.o.trans (by unfold pfs; rw [hs 0 (by omega), hs 1 (by omega), hs 2 (by omega), hs 3 (by omega), hs 5 (by omega), hs 8 (by omega)])), hP.xs.tr (hw _ (by omega) (by omega)) (fun q hq => by unfold hx; rw [hs _ (by omega)]), hP.ys.tr (hw _ (by omega) (by omega)) (fun q hq => by unfold hy; rw [hs _ (by omega)]), hP.hz.tr (hw _ (by omega) (by omega)) (fun q hq => by unfold hz; rw [hs _ (by omega)]), hP.wd.tr (hw _ (by omega) (by omega)) (fun q hq => hs _ (by omega)), hP.kt.tr (hw _ (by omega) (by omega)) (fun q g1 g2 => hw q (by omega) (by omega)) (Nat.le_refl _) (by unfold cK; rw [hs 2 (by omega)]) hB.1 (fun k fl h1 h2 => by unfold kf; rw [hs _ (by omega)]), hP.am.tr (hw _ (by omega) (by omega)) (fun q hq => by unfold kf; rw [hs _ (by omega)]), hP.lt.tr (hw _ (by omega) (by omega)) (fun q hq => hs _ (by omega)), hP.ar.tr (hw _ (by omega) (by omega)) (hw _ (by omega) (by omega)) (hs 4 (by omega)) (fun q hq => hs _ (by omega)), ⟨by rw [hcnt]; exact up_eq, upd fn q0 x, (up_ne (by omega)).trans up_eq, fun q hq => by
    rw [hcnt, hin] at hq
    by_cases h9 : q = q0
    · subst h9
      rw [upd_at]
      show x = upd (upd σ (195 + q) x) 6 (nI (q + 1)) (195 + q)
      rw [upd_ne (by omega), upd_at]
    · rw [upd_ne h9, e2 q (by omega)]
      exact (hs _ (by omega)).symm⟩, hP.wt.tr (hw _ (by omega) (by omega)) (hw _ (by omega) (by omega)) (hs 7 (by omega)) (fun q hq => hs _ (by omega)), hP.li.tr (fun q g1 g2 => hw q (by omega) (by omega)) (cd_same (fun q g1 g2 => hs q (by omega)) (by decide) b5), hP.pa.tr (fun q g1 g2 => hw q (by omega) (by omega)) (cd_same (fun q g1 g2 => hs q (by omega)) (by decide) b6)⟩
theorem pst_add_wt {Γ : Cx} {p e z : Nat} {σ : Rw} {M : Nat → Option va_E} (hP : PstR Γ p e z σ M) (hB : Bd σ) (hpe : p + 26 ≤ e) {fn : Rw} (e1 : M (p + 13) = aI Γ 20 fn) (e2 : ∀ j, j < iN (σ 7) → fn j = σ (245 + j)) (x : Int32) (q0 : Nat) (eq0 : σ 7 = nI q0) (hq0 : q0 < 20) : PstR Γ p e z (upd (upd σ (245 + q0) x) 7 (nI (q0 + 1))) (va_up (va_up M (p + 13) (aI Γ 20 (upd fn q0 x))) (p + 12) (some (.inr (6, [.ref (p + 13), .int (nI (q0 + 1))])))) ∧ Off p 26 M (va_up (va_up M (p + 13) (aI Γ 20 (upd fn q0 x))) (p + 12) (some (.inr (6, [.ref (p + 13), .int (nI (q0 + 1))])))) := by
  obtain ⟨b1, b2, b3, b4, b5, b6⟩ := id hB
  have hs : ∀ q, q ≠ 245 + q0 ∧ q ≠ 7 → upd (upd σ (245 + q0) x) 7 (nI (q0 + 1)) q = σ q := fun q h => by rw [upd_ne h.2, upd_ne h.1]
  have hw : ∀ q, q ≠ p + 12 → q ≠ p + 13 → va_up (va_up M (p + 13) (aI Γ 20 (upd fn q0 x))) (p + 12) (some (.inr (6, [.ref (p + 13), .int (nI (q0 + 1))]))) q = M q := fun q h1 h2 => by rw [up_ne h1, up_ne h2]
  have hcnt : upd (upd σ (245 + q0) x) 7 (nI (q0 + 1)) 7 = nI (q0 + 1) := upd_at
  have hin : iN (nI (q0 + 1)) = q0 + 1 := nI_clamp (by omega)
  have hin0 : iN (σ 7) = q0 := by rw [eq0]; exact nI_clamp (by omega)
  refine ⟨?_, fun q hq => hw q (by omega) (by omega)⟩
  exact ⟨(hw _ (by omega) (by omega)).trans (hP.o.trans (by unfold pfs; rw [hs 0 (by omega), hs 1 (by omega), hs 2 (by omega), hs 3 (by omega), hs 5 (by omega), hs 8 (by omega)])), hP.xs.tr (hw _ (by omega) (by omega)) (fun q hq => by unfold hx; rw [hs _ (by omega)]), hP.ys.tr (hw _ (by omega) (by omega)) (fun q hq => by unfold hy; rw [hs _ (by omega)]), hP.hz.tr (hw _ (by omega) (by omega)) (fun q hq => by unfold hz; rw [hs _ (by omega)]), hP.wd.tr (hw _ (by omega) (by omega)) (fun q hq => hs _ (by omega)), hP.kt.tr (hw _ (by omega) (by omega)) (fun q g1 g2 => hw q (by omega) (by omega)) (Nat.le_refl _) (by unfold cK; rw [hs 2 (by omega)]) hB.1 (fun k fl h1 h2 => by unfold kf; rw [hs _ (by omega)]), hP.am.tr (hw _ (by omega) (by omega)) (fun q hq => by unfold kf; rw [hs _ (by omega)]), hP.lt.tr (hw _ (by omega) (by omega)) (fun q hq => hs _ (by omega)), hP.ar.tr (hw _ (by omega) (by omega)) (hw _ (by omega) (by omega)) (hs 4 (by omega)) (fun q hq => hs _ (by omega)), hP.tp.tr (hw _ (by omega) (by omega)) (hw _ (by omega) (by omega)) (hs 6 (by omega)) (fun q hq => hs _ (by omega)), ⟨by rw [hcnt]; exact up_eq, upd fn q0 x, (up_ne (by omega)).trans up_eq, fun q hq => by
    rw [hcnt, hin] at hq
    by_cases h9 : q = q0
    · subst h9
      rw [upd_at]
      show x = upd (upd σ (245 + q) x) 7 (nI (q + 1)) (245 + q)
      rw [upd_ne (by omega), upd_at]
    · rw [upd_ne h9, e2 q (by omega)]
      exact (hs _ (by omega)).symm⟩, hP.li.tr (fun q g1 g2 => hw q (by omega) (by omega)) (cd_same (fun q g1 g2 => hs q (by omega)) (by decide) b5), hP.pa.tr (fun q g1 g2 => hw q (by omega) (by omega)) (cd_same (fun q g1 g2 => hs q (by omega)) (by decide) b6)⟩
theorem pst_clr_tp {Γ : Cx} {p e z : Nat} {σ : Rw} {M : Nat → Option va_E} (hP : PstR Γ p e z σ M) (hB : Bd σ) (hpe : p + 26 ≤ e) : PstR Γ p e z (upd σ 6 0) (va_up M (p + 10) (some (.inr (6, [.ref (p + 11), .int 0])))) ∧ Off p 26 M (va_up M (p + 10) (some (.inr (6, [.ref (p + 11), .int 0])))) := by
  obtain ⟨b1, b2, b3, b4, b5, b6⟩ := id hB
  obtain ⟨e0, fn, e1, e2⟩ := id hP.tp
  have hs : ∀ q, q ≠ 6 → upd σ 6 0 q = σ q := fun q h => upd_ne h
  refine ⟨?_, fun q hq => up_ne (by omega)⟩
  exact ⟨(up_ne (by omega)).trans (hP.o.trans (by unfold pfs; rw [hs 0 (by omega), hs 1 (by omega), hs 2 (by omega), hs 3 (by omega), hs 5 (by omega), hs 8 (by omega)])), hP.xs.tr (up_ne (by omega)) (fun q hq => by unfold hx; rw [hs _ (by omega)]), hP.ys.tr (up_ne (by omega)) (fun q hq => by unfold hy; rw [hs _ (by omega)]), hP.hz.tr (up_ne (by omega)) (fun q hq => by unfold hz; rw [hs _ (by omega)]), hP.wd.tr (up_ne (by omega)) (fun q hq => hs _ (by omega)), hP.kt.tr (up_ne (by omega)) (fun q g1 g2 => up_ne (by omega)) (Nat.le_refl _) (by unfold cK; rw [hs 2 (by omega)]) hB.1 (fun k fl h1 h2 => by unfold kf; rw [hs _ (by omega)]), hP.am.tr (up_ne (by omega)) (fun q hq => by unfold kf; rw [hs _ (by omega)]), hP.lt.tr (up_ne (by omega)) (fun q hq => hs _ (by omega)), hP.ar.tr (up_ne (by omega)) (up_ne (by omega)) (hs 4 (by omega)) (fun q hq => hs _ (by omega)), ⟨by rw [upd_at]; exact up_eq, fn, (up_ne (by omega)).trans e1, fun q hq => by rw [upd_at] at hq; exact absurd hq (Nat.not_lt_zero _)⟩, hP.wt.tr (up_ne (by omega)) (up_ne (by omega)) (hs 7 (by omega)) (fun q hq => hs _ (by omega)), hP.li.tr (fun q g1 g2 => up_ne (by omega)) (cd_same (fun q g1 g2 => hs q (by omega)) (by decide) b5), hP.pa.tr (fun q g1 g2 => up_ne (by omega)) (cd_same (fun q g1 g2 => hs q (by omega)) (by decide) b6)⟩
theorem pst_clr_wt {Γ : Cx} {p e z : Nat} {σ : Rw} {M : Nat → Option va_E} (hP : PstR Γ p e z σ M) (hB : Bd σ) (hpe : p + 26 ≤ e) : PstR Γ p e z (upd σ 7 0) (va_up M (p + 12) (some (.inr (6, [.ref (p + 13), .int 0])))) ∧ Off p 26 M (va_up M (p + 12) (some (.inr (6, [.ref (p + 13), .int 0])))) := by
  obtain ⟨b1, b2, b3, b4, b5, b6⟩ := id hB
  obtain ⟨e0, fn, e1, e2⟩ := id hP.wt
  have hs : ∀ q, q ≠ 7 → upd σ 7 0 q = σ q := fun q h => upd_ne h
  refine ⟨?_, fun q hq => up_ne (by omega)⟩
  exact ⟨(up_ne (by omega)).trans (hP.o.trans (by unfold pfs; rw [hs 0 (by omega), hs 1 (by omega), hs 2 (by omega), hs 3 (by omega), hs 5 (by omega), hs 8 (by omega)])), hP.xs.tr (up_ne (by omega)) (fun q hq => by unfold hx; rw [hs _ (by omega)]), hP.ys.tr (up_ne (by omega)) (fun q hq => by unfold hy; rw [hs _ (by omega)]), hP.hz.tr (up_ne (by omega)) (fun q hq => by unfold hz; rw [hs _ (by omega)]), hP.wd.tr (up_ne (by omega)) (fun q hq => hs _ (by omega)), hP.kt.tr (up_ne (by omega)) (fun q g1 g2 => up_ne (by omega)) (Nat.le_refl _) (by unfold cK; rw [hs 2 (by omega)]) hB.1 (fun k fl h1 h2 => by unfold kf; rw [hs _ (by omega)]), hP.am.tr (up_ne (by omega)) (fun q hq => by unfold kf; rw [hs _ (by omega)]), hP.lt.tr (up_ne (by omega)) (fun q hq => hs _ (by omega)), hP.ar.tr (up_ne (by omega)) (up_ne (by omega)) (hs 4 (by omega)) (fun q hq => hs _ (by omega)), hP.tp.tr (up_ne (by omega)) (up_ne (by omega)) (hs 6 (by omega)) (fun q hq => hs _ (by omega)), ⟨by rw [upd_at]; exact up_eq, fn, (up_ne (by omega)).trans e1, fun q hq => by rw [upd_at] at hq; exact absurd hq (Nat.not_lt_zero _)⟩, hP.li.tr (fun q g1 g2 => up_ne (by omega)) (cd_same (fun q g1 g2 => hs q (by omega)) (by decide) b5), hP.pa.tr (fun q g1 g2 => up_ne (by omega)) (cd_same (fun q g1 g2 => hs q (by omega)) (by decide) b6)⟩