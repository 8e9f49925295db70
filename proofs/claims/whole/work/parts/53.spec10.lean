/-! the order of arrivals -/
def bfA (σ : Rw) : Nat → Nat → Nat → Option Nat
  | 0, _, _ => none
  | n + 1, i, s => if decide (0 ≤ lf σ (orF σ i) 3) && !(s.testBit (anF σ (orF σ i))) then some (orF σ i) else bfA σ n (i + 1) (s ||| 2 ^ orF σ i)
def bfR (o : Option Nat) : Nat × Int32 := match o with
  | none => (2, -1000000002)
  | some l => (0, nI l)
def op_before (σ : Rw) : Nat × Int32 := bfR (bfA σ (cA σ) 0 0)
theorem InvL.an {σ : Rw} (h : InvL σ) {l : Nat} (hl : l < cL σ) (ha : 0 ≤ lf σ l 3) : lf σ l 3 = nI (anF σ l) ∧ anF σ l < l := by
  rcases (h l hl).2.2.2 with g | g
  · rw [g] at ha
    exact absurd ha (by decide)
  · exact g
