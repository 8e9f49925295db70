def eU (va : Nat → Rw) (e : Nat) : Nat → Rw := if e = 0 then va else va_up va 4 (upd (va 4) e (va 4 e + 1))
theorem eU_0 (va : Nat → Rw) : eU va 0 = va := if_pos rfl
/-- an act that told an error -/
theorem RefW.err {Γ : Cx} {m : Nat} {M0 M : Nat → Option va_E} {σ κ ri vi : Rw} {ra va : Nat → Rw} (e : Nat) (he : 0 < e) (h : RefX Γ m M0 σ κ ri (va_up ra 4 (upd (ra 4) e (ra 4 e + 1))) M) (hv : ri 3 = vi 3 ∧ ri 19 = vi 19) (hw : ra 4 = va 4 ∧ ra 18 = va 18 ∧ ra 21 = va 21 ∧ ra 22 = va 22 ∧ ra 23 = va 23) : RefW Γ m M0 σ κ vi (eU va e) M := by
  obtain ⟨w1, w2, w3, w4, w5⟩ := hw
  refine ⟨ri, _, h, hv, ?_⟩
  unfold eU
  rw [if_neg (by omega), vup_eq, vup_eq, w1]
  refine ⟨rfl, ?_, ?_, ?_, ?_⟩
  · rw [vup_ne (by decide), vup_ne (by decide)]; exact w2
  · rw [vup_ne (by decide), vup_ne (by decide)]; exact w3
  · rw [vup_ne (by decide), vup_ne (by decide)]; exact w4
  · rw [vup_ne (by decide), vup_ne (by decide)]; exact w5
theorem RefW.ok {Γ : Cx} {m : Nat} {M0 M : Nat → Option va_E} {σ κ ri vi : Rw} {ra va : Nat → Rw} (h : RefX Γ m M0 σ κ ri ra M) (hv : ri 3 = vi 3 ∧ ri 19 = vi 19) (hw : ra 4 = va 4 ∧ ra 18 = va 18 ∧ ra 21 = va 21 ∧ ra 22 = va 22 ∧ ra 23 = va 23) : RefW Γ m M0 σ κ vi (eU va 0) M := by
  rw [eU_0]
  exact ⟨ri, ra, h, hv, hw⟩
theorem RefW.oks {Γ : Cx} {m : Nat} {M0 M : Nat → Option va_E} {σ κ ri vi : Rw} {ra ra' va : Nat → Rw} (h : RefX Γ m M0 σ κ ri ra' M) (hs : Sc ra ra') (hv : ri 3 = vi 3 ∧ ri 19 = vi 19) (hw : ra 4 = va 4 ∧ ra 18 = va 18 ∧ ra 21 = va 21 ∧ ra 22 = va 22 ∧ ra 23 = va 23) : RefW Γ m M0 σ κ vi (eU va 0) M := by
  rw [eU_0]
  exact RefW.sc h hs hv hw
abbrev iN (x : Int32) : Nat := x.toNatClampNeg
/-- a number that is within 0 and one less than a count -/
theorem wi_cnt {x y : Int32} {n : Nat} (hy : y = nI n) (hn : n < 2 ^ 30) (h : wi x 0 (y - 1) = true) : x = nI (iN x) ∧ iN x < n := by
  show x = nI x.toNatClampNeg ∧ x.toNatClampNeg < n
  subst hy
  unfold wi at h
  rw [Bool.and_eq_true] at h
  have h1 := of_decide_eq_true h.1
  have h2 := of_decide_eq_true h.2
  have a1 := Int32.le_iff_toInt_le.mp h1
  have a2 := Int32.le_iff_toInt_le.mp h2
  have e0 : (0 : Int32).toInt = 0 := rfl
  have e1 : (nI n - 1).toInt = (n : Int) - 1 := pk_sub_toInt (b := 1) hn (by decide)
  rw [e0] at a1
  rw [e1] at a2
  have e2 : ((x.toNatClampNeg : Nat) : Int) = x.toInt := by
    show ((x.toInt.toNat : Nat) : Int) = _
    omega
  refine ⟨?_, by omega⟩
  apply Int32.toInt_inj.mp
  rw [nI_toInt (by omega), e2]
theorem wi_lit {x : Int32} {lo hi : Int32} {a c : Nat} (hlo : lo = nI a) (hhi : hi = nI c) (hc : c < 2 ^ 30) (hac : a < 2 ^ 30) (h : wi x lo hi = true) : x = nI (iN x) ∧ a ≤ iN x ∧ iN x ≤ c := by
  show x = nI x.toNatClampNeg ∧ a ≤ x.toNatClampNeg ∧ x.toNatClampNeg ≤ c
  subst hlo; subst hhi
  unfold wi at h
  rw [Bool.and_eq_true] at h
  have a1 := Int32.le_iff_toInt_le.mp (of_decide_eq_true h.1)
  have a2 := Int32.le_iff_toInt_le.mp (of_decide_eq_true h.2)
  rw [nI_toInt (by omega)] at a1
  rw [nI_toInt (by omega)] at a2
  have e2 : ((x.toNatClampNeg : Nat) : Int) = x.toInt := by
    show ((x.toInt.toNat : Nat) : Int) = _
    omega
  refine ⟨?_, by omega, by omega⟩
  apply Int32.toInt_inj.mp
  rw [nI_toInt (by omega), e2]
def op_pull (σ : Rw) (x y z : Int32) : Nat × Int32 := if wi x 0 (σ 2 - 1) && wi y 0 (σ 1 - 1) && wi z 0 999 then (0, pullF σ (iN x) (iN y) z (cT σ % 24) (σ 0) (hmF σ (iN x))) else (1, -1000000001)
def op_stands (σ : Rw) (x y z : Int32) : Nat × Int32 := if wi x 0 (σ 2 - 1) && wi y 0 (σ 1 - 1) && wi z 0 999 then (0, bI (stN σ (iN x) (iN y) z)) else (1, -1000000001)
def ovF (σ : Rw) (k : Nat) (load : Int32) (hour : Nat) (time : Int32) : Nat → Int32
  | 0 => 0
  | n + 1 => ovF σ k load hour time n ||| (if stS σ k n load hour time then jshl 1 (nI n) else 0)
def op_over (σ : Rw) (x y z : Int32) : Nat × Int32 := if wi x 0 (σ 2 - 1) && wi y 0 23 && wi z 0 999 then (0, ovF σ (iN x) z (iN y) (σ 0) (cH σ)) else (1, -1000000001)
def op_ofHill (σ : Rw) (x y : Int32) : Nat × Int32 := if wi x 0 (σ 1 - 1) && wi y 0 2 then (0, if y < 2 then σ (9 + 2 * iN x + iN y) else lonF σ x (cL σ)) else (1, -1000000001)
def op_ofKite (σ : Rw) (x y : Int32) : Nat × Int32 := if wi x 0 (σ 2 - 1) && wi y 0 5 then (0, kf σ (iN x) (iN y)) else (1, -1000000001)
def op_ofLetter (σ : Rw) (x y : Int32) : Nat × Int32 := if wi x 0 (σ 3 - 1) && wi y 0 6 then (0, lf σ (iN x) (iN y)) else (1, -1000000001)
