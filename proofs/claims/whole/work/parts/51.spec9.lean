/-! ways -/
def gi (σ : Rw) (k tm : Nat) (w : Int32) (A : Nat) : Nat → Nat
  | 0 => A
  | n + 1 => if stS σ k n w (tm % 24) (nI tm) then gi σ k tm w A n ||| 2 ^ n else gi σ k tm w A n
def go (σ : Rw) (S tm : Nat) (w : Int32) : Nat → Nat
  | 0 => S
  | n + 1 => if S.testBit (hmF σ n) then gi σ n tm w (go σ S tm w n) (cH σ) else go σ S tm w n
theorem gi_lt {σ : Rw} {k tm : Nat} {w : Int32} {A : Nat} (hA : A < 2 ^ 9) : ∀ n, n ≤ 9 → gi σ k tm w A n < 2 ^ 9
  | 0, _ => hA
  | n + 1, hn => by
    have := gi_lt (σ := σ) (k := k) (tm := tm) (w := w) hA n (by omega)
    unfold gi
    split
    · exact or_lt this (pw_lt (by omega))
    · exact this
theorem go_lt {σ : Rw} {S tm : Nat} {w : Int32} (hS : S < 2 ^ 9) (hH : cH σ ≤ 9) : ∀ n, go σ S tm w n < 2 ^ 9
  | 0 => hS
  | n + 1 => by
    have := go_lt (tm := tm) (w := w) hS hH n
    unfold go
    split
    · exact gi_lt this _ hH
    · exact this
/-- where one can be behind n hours -/
def srS (σ : Rw) (f : Nat) (w : Int32) : Nat → Nat
  | 0 => 2 ^ f
  | n + 1 => go σ (srS σ f w n) (cT σ + n) w (cK σ)
theorem srS_lt {σ : Rw} {f : Nat} {w : Int32} (hf : f < 9) (hH : cH σ ≤ 9) : ∀ n, srS σ f w n < 2 ^ 9
  | 0 => pw_lt hf
  | n + 1 => go_lt (srS_lt hf hH n) hH _
def soA (σ : Rw) (f t : Nat) (w : Int32) : Nat → Nat → Int32
  | 0, _ => -1
  | n + 1, i => if (srS σ f w (i + 1)).testBit t then nI (i + 1) else soA σ f t w n (i + 1)
def wyF (σ : Rw) (x y z : Int32) : Bool := wi x 0 (σ 1 - 1) && wi y 0 (σ 1 - 1) && !(decide (x = y)) && wi z 0 999
def op_soonest (σ : Rw) (x y z : Int32) : Nat × Int32 := if wyF σ x y z then (if soA σ (iN x) (iN y) z 72 0 < 0 then (2, -1000000002) else (0, soA σ (iN x) (iN y) z 72 0)) else (1, -1000000001)
