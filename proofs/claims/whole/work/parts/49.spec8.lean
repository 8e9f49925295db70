/-! acts of hours -/
theorem Inv_free {σ τ : Rw} (hI : Inv σ) (off0 : ∀ j, j ≠ 5 → j ≠ 8 → τ j = σ j) : Inv τ := by
  obtain ⟨⟨⟨eH, lH⟩, ⟨eK, lK⟩, ⟨eL, lL⟩, ⟨eA, lA⟩, ⟨eT, lT⟩⟩, iK, iH, iW, iL, iO, iB, hT⟩ := hI
  have off : ∀ {j : Nat}, j ≠ 5 ∧ j ≠ 8 → τ j = σ j := fun h => off0 _ h.1 h.2
  have qH : cH (τ) = cH σ := by unfold cH; rw [off (by decide)]
  have qK : cK (τ) = cK σ := by unfold cK; rw [off (by decide)]
  have qL : cL (τ) = cL σ := by unfold cL; rw [off (by decide)]
  have qA : cA (τ) = cA σ := by unfold cA; rw [off (by decide)]
  have qT : cT (τ) = cT σ := by unfold cT; rw [off (by decide)]
  have hkf : ∀ k f, kf (τ) k f = kf σ k f := fun k f => by unfold kf; exact off (by omega)
  have hlf : ∀ k f, lf (τ) k f = lf σ k f := fun k f => by unfold lf; exact off (by omega)
  refine ⟨⟨⟨?_, ?_⟩, ⟨?_, ?_⟩, ⟨?_, ?_⟩, ⟨?_, ?_⟩, ⟨?_, ?_⟩⟩, ?_, ?_, ?_, ?_, ?_, ?_, ?_⟩
  · rw [qH, off (by decide)]; exact eH
  · rw [qH]; exact lH
  · rw [qK, off (by decide)]; exact eK
  · rw [qK]; exact lK
  · rw [qL, off (by decide)]; exact eL
  · rw [qL]; exact lL
  · rw [qA, off (by decide)]; exact eA
  · rw [qA, qL, arN_same (σ := σ) (τ := τ) (fun l _ => by unfold arF; rw [hlf])]; exact lA
  · rw [qT, off (by decide)]; exact eT
  · rw [qT]; exact lT
  · intro k hk
    rw [qK] at hk
    unfold hmF amF
    simp only [hkf, qH]
    exact iK k hk
  · intro q hq
    rw [qH] at hq
    have e1 : ∀ g, τ (9 + 2 * g) = σ (9 + 2 * g) := fun g => off (by omega)
    have e2 : hz (τ) q = hz σ q := by unfold hz; exact off (by omega)
    rw [e2, qH]
    simp only [e1]
    exact iH q hq
  · intro q hq
    have e1 : τ (27 + q) = σ (27 + q) := off (by omega)
    unfold wdF
    rw [e1]
    exact iW q hq
  · intro q hq
    rw [qL] at hq
    unfold onF toF anF
    simp only [hlf, qH]
    exact iL q hq
  · intro q hq
    rw [qA] at hq
    have e1 : τ (183 + q) = σ (183 + q) := off (by omega)
    unfold orF
    rw [e1, qL]
    exact iO q hq
  · obtain ⟨⟨n1, b1, b2⟩, ⟨n2, b3, b4⟩, b5⟩ := iB
    refine ⟨⟨n1, by rw [off (by decide)]; exact b1, b2⟩, ⟨n2, by rw [off (by decide)]; exact b3, b4⟩, fun j hj => ?_⟩
    rw [off (by omega)]
    exact b5 j hj
  · intro u hu
    exact TxOk_same (fun j hj => off (by omega)) (hT u hu)
def drw (z : Int32) : Int32 := z * 1103515245 + 12345
def drT (z : Int32) : Int32 := jrem (jushr z 8) 10
def lsF (σ : Rw) (ls : Int32) : Nat → Rw
  | 0 => σ
  | n + 1 => if drT (drw (lsF σ ls n 8)) < ls then upd (upd (lsF σ ls n) 8 (drw (lsF σ ls n 8))) 0 (lsF σ ls n 0 + 1) else hourF (upd (lsF σ ls n) 8 (drw (lsF σ ls n 8)))
def op_hours (σ : Rw) (x : Int32) : Op3 := if wi x 1 72 then (if 9999 < σ 0 + x then e3 3 σ else (0, hrsF σ (iN x) 0, hrsF σ (iN x))) else e3 1 σ
def op_loose (σ : Rw) (x y : Int32) : Op3 := if wi x 1 72 && wi y 0 10 then (if 9999 < σ 0 + x then e3 3 σ else (0, lsF σ y (iN x) 0, lsF σ y (iN x))) else e3 1 σ
def op_then (σ : Rw) (x y : Int32) : Nat × Int32 := if wi x 0 72 && wi y 0 1 then (0, hrsF σ (iN x) (4 + iN y)) else (1, -1000000001)
def op_where (σ : Rw) (x y z : Int32) : Nat × Int32 := if wi x 0 72 && wi y 0 (σ 3 - 1) && wi z 5 6 then (0, lf (hrsF σ (iN x)) (iN y) (iN z)) else (1, -1000000001)
theorem ls_ok {σ : Rw} {ls : Int32} (hI : Inv σ) : ∀ n, cT σ + n ≤ 20000 → Inv (lsF σ ls n) ∧ cT (lsF σ ls n) = cT σ + n
  | 0, _ => ⟨hI, rfl⟩
  | n + 1, h => by
    obtain ⟨h1, h2⟩ := ls_ok (ls := ls) hI n (by omega)
    have h3 : Inv (upd (lsF σ ls n) 8 (drw (lsF σ ls n 8))) := Inv_free h1 (fun j _ hj => upd_ne hj)
    have h4 : cT (upd (lsF σ ls n) 8 (drw (lsF σ ls n 8))) = cT σ + n := by rw [← h2]; unfold cT; rw [upd_ne (by decide)]
    unfold lsF
    split
    · have e0 : lsF σ ls n 0 + 1 = nI (cT σ + (n + 1)) := by rw [nI_suc_cnt h1.1.2.2.2.2.1, h2]; rfl
      rw [e0]
      refine ⟨Inv_time h3 (by omega), ?_⟩
      unfold cT
      rw [upd_at]
      exact nI_clamp (by show cT σ + (n + 1) < 2 ^ 31; omega)
    · obtain ⟨g1, -, -, -, g5, -⟩ := Inv_hour h3 (by omega)
      exact ⟨g1, by rw [g5, h4]; rfl⟩
/-- what is visible stays -/
def Vs (ra ra' : Nat → Rw) : Prop := ra' 4 = ra 4 ∧ ra' 18 = ra 18 ∧ ra' 21 = ra 21 ∧ ra' 22 = ra 22 ∧ ra' 23 = ra 23
theorem Sc.vs {ra ra' : Nat → Rw} (h : Sc ra ra') : Vs ra ra' := ⟨h 4 (by decide) (by decide), h 18 (by decide) (by decide), h 21 (by decide) (by decide), h 22 (by decide) (by decide), h 23 (by decide) (by decide)⟩
theorem Vs.tr {ra rb rc : Nat → Rw} (h : Vs ra rb) (h2 : Vs rb rc) : Vs ra rc := ⟨h2.1.trans h.1, h2.2.1.trans h.2.1, h2.2.2.1.trans h.2.2.1, h2.2.2.2.1.trans h.2.2.2.1, h2.2.2.2.2.trans h.2.2.2.2⟩
theorem Vs.up2 {ra : Nat → Rw} {f : Rw} : Vs ra (va_up ra 2 f) := ⟨vup_ne (by decide), vup_ne (by decide), vup_ne (by decide), vup_ne (by decide), vup_ne (by decide)⟩
theorem RefW.okv {Γ : Cx} {m : Nat} {M0 M : Nat → Option va_E} {σ κ ri vi : Rw} {ra ra' va : Nat → Rw} (h : RefX Γ m M0 σ κ ri ra' M) (hs : Vs ra ra') (hv : ri 3 = vi 3 ∧ ri 19 = vi 19) (hw : ra 4 = va 4 ∧ ra 18 = va 18 ∧ ra 21 = va 21 ∧ ra 22 = va 22 ∧ ra 23 = va 23) : RefW Γ m M0 σ κ vi (eU va 0) M := by
  rw [eU_0]
  exact ⟨ri, ra', h, hv, hs.1.trans hw.1, hs.2.1.trans hw.2.1, hs.2.2.1.trans hw.2.2.1, hs.2.2.2.1.trans hw.2.2.2.1, hs.2.2.2.2.trans hw.2.2.2.2⟩
