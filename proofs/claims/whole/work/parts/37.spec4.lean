/-! lines -/
def ovlF (σ : Rw) (x y z w : Nat) : Bool :=
  decide (jmax (jmin (hx σ x) (hx σ y)) (jmin (hx σ z) (hx σ w)) ≤ jmin (jmax (hx σ x) (hx σ y)) (jmax (hx σ z) (hx σ w))) && decide (jmax (jmin (hy σ x) (hy σ y)) (jmin (hy σ z) (hy σ w)) ≤ jmin (jmax (hy σ x) (hy σ y)) (jmax (hy σ z) (hy σ w))) &&
  (decide (jmax (jmin (hx σ x) (hx σ y)) (jmin (hx σ z) (hx σ w)) < jmin (jmax (hx σ x) (hx σ y)) (jmax (hx σ z) (hx σ w))) || decide (jmax (jmin (hy σ x) (hy σ y)) (jmin (hy σ z) (hy σ w)) < jmin (jmax (hy σ x) (hy σ y)) (jmax (hy σ z) (hy σ w))))
def hmrF (σ : Rw) (x y z w : Nat) : Bool :=
  if sgF (turnF σ x y z) = 0 ∧ sgF (turnF σ x y w) = 0 then ovlF σ x y z w
  else if x = z ∨ x = w ∨ y = z ∨ y = w then false
  else !(decide (0 < sgF (turnF σ x y z) * sgF (turnF σ x y w)) || decide (0 < sgF (turnF σ z w x) * sgF (turnF σ z w y)))
def ahF (σ : Rw) (k o : Nat) : Bool := decide (kf σ o 3 < kf σ k 3) || (decide (kf σ k 3 = kf σ o 3) && decide (k < o))
def lnF (σ : Rw) (k : Nat) : Bool := decide (0 ≤ kf σ k 5) && stN σ k (amF σ k) 0
def hvF (σ : Rw) : Nat → Int32
  | 0 => 0
  | n + 1 => hvF σ n ||| (if lnF σ n then jshl 1 (nI n) else 0)
def crF (σ : Rw) (k o : Nat) : Bool := hmrF σ (hmF σ k) (amF σ k) (hmF σ o) (amF σ o)
def op_cross (σ : Rw) (x y : Int32) : Nat × Int32 := if wi x 0 (σ 2 - 1) && wi y 0 (σ 2 - 1) && !(decide (x = y)) then (0, bI (lnF σ (iN x) && lnF σ (iN y) && crF σ (iN x) (iN y))) else (1, -1000000001)
theorem InvK.aim {σ : Rw} (h : InvK σ) {k : Nat} (hk : k < cK σ) (ha : 0 ≤ kf σ k 5) : kf σ k 5 = nI (amF σ k) ∧ amF σ k < cH σ ∧ amF σ k ≠ hmF σ k := by
  rcases (h k hk).2.1 with g | g
  · rw [g] at ha
    exact absurd ha (by decide)
  · exact g
