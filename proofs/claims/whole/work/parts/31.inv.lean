/-! what always holds of the reference's row -/
def cH (σ : Rw) : Nat := (σ 1).toNatClampNeg
def cK (σ : Rw) : Nat := (σ 2).toNatClampNeg
def cL (σ : Rw) : Nat := (σ 3).toNatClampNeg
def cA (σ : Rw) : Nat := (σ 4).toNatClampNeg
def cT (σ : Rw) : Nat := (σ 0).toNatClampNeg
def hmF (σ : Rw) (k : Nat) : Nat := (kf σ k 2).toNatClampNeg
def amF (σ : Rw) (k : Nat) : Nat := (kf σ k 5).toNatClampNeg
def wdF (σ : Rw) (h : Nat) : Nat := (σ (27 + h)).toNatClampNeg
def onF (σ : Rw) (l : Nat) : Nat := (lf σ l 5).toNatClampNeg
def toF (σ : Rw) (l : Nat) : Nat := (lf σ l 1).toNatClampNeg
def anF (σ : Rw) (l : Nat) : Nat := (lf σ l 3).toNatClampNeg
def orF (σ : Rw) (i : Nat) : Nat := (σ (183 + i)).toNatClampNeg
def arF (σ : Rw) (l : Nat) : Bool := decide (0 ≤ lf σ l 6)
/-- how many of the first n letters have arrived -/
def arN (σ : Rw) : Nat → Nat
  | 0 => 0
  | n + 1 => arN σ n + (if arF σ n then 1 else 0)
def InvC (σ : Rw) : Prop := (σ 1 = nI (cH σ) ∧ cH σ ≤ 9) ∧ (σ 2 = nI (cK σ) ∧ cK σ ≤ 8) ∧ (σ 3 = nI (cL σ) ∧ cL σ ≤ 12) ∧ (σ 4 = nI (cA σ) ∧ cA σ = arN σ (cL σ)) ∧ (σ 0 = nI (cT σ) ∧ cT σ ≤ 20000)
def InvK (σ : Rw) : Prop := ∀ k, k < cK σ → (kf σ k 2 = nI (hmF σ k) ∧ hmF σ k < cH σ) ∧ (kf σ k 5 = -1 ∨ (kf σ k 5 = nI (amF σ k) ∧ amF σ k < cH σ ∧ amF σ k ≠ hmF σ k)) ∧ (0 ≤ kf σ k 0 ∧ kf σ k 0 ≤ 6) ∧ (0 ≤ kf σ k 1 ∧ kf σ k 1 ≤ 9) ∧ (0 ≤ kf σ k 3 ∧ kf σ k 3 ≤ 99) ∧ (1 ≤ kf σ k 4 ∧ kf σ k 4 ≤ 40)
def InvH (σ : Rw) : Prop := ∀ h, h < cH σ → (0 ≤ σ (9 + 2 * h) ∧ σ (9 + 2 * h) ≤ 255) ∧ (0 ≤ hz σ h ∧ hz σ h ≤ 9) ∧ ∀ g, g < cH σ → σ (9 + 2 * g) = σ (9 + 2 * h) → g = h
def InvW (σ : Rw) : Prop := ∀ h, h < 24 → σ (27 + h) = nI (wdF σ h) ∧ wdF σ h ≤ 79
def InvL (σ : Rw) : Prop := ∀ l, l < cL σ → (lf σ l 5 = nI (onF σ l) ∧ onF σ l < cH σ) ∧ (lf σ l 1 = nI (toF σ l) ∧ toF σ l < cH σ) ∧ (0 ≤ lf σ l 2 ∧ lf σ l 2 ≤ 30) ∧ (lf σ l 3 = -1 ∨ (lf σ l 3 = nI (anF σ l) ∧ anF σ l < l))
def InvO (σ : Rw) : Prop := ∀ i, i < cA σ → σ (183 + i) = nI (orF σ i) ∧ orF σ i < cL σ
def InvB (σ : Rw) : Prop := (∃ n, σ 6 = nI n ∧ n ≤ 50) ∧ (∃ n, σ 7 = nI n ∧ n ≤ 20) ∧ ∀ j, j < 50 → ∃ v, v < 256 ∧ σ (195 + j) = nI v
def Inv (σ : Rw) : Prop := InvC σ ∧ InvK σ ∧ InvH σ ∧ InvW σ ∧ InvL σ ∧ InvO σ ∧ InvB σ ∧ ∀ u, u < 2 → TxOk σ u
def stS (σ : Rw) (k hill : Nat) (load : Int32) (hour : Nat) (time : Int32) : Bool := stF σ k hill load hour time (hmF σ k)
/-- now -/
def stN (σ : Rw) (k hill : Nat) (load : Int32) : Bool := stS σ k hill load (cT σ % 24) (σ 0)
