/-! texts: what a row of codes gives -/
def opF (c x y : Int32) : Int32 :=
  if c = 20000 then (if x ≠ 0 ∨ y ≠ 0 then 1 else 0) else if c = 20001 then (if x ≠ 0 ∧ y ≠ 0 then 1 else 0) else if c = 20002 then (if x < y then 1 else 0) else if c = 20003 then (if x = y then 1 else 0) else if c = 20004 then (if y < x then 1 else 0)
  else if c = 20005 then x + y else if c = 20006 then x - y else if c = 20007 then x * y else if c = 20008 then (if y = 0 then 0 else x / y) else (if y = 0 then 0 else jrem x y)
/-- the pile behind the first n codes -/
def wkP (σ : Rw) (fr : Nat) (nm p0 : Rw) : Nat → Nat × Rw
  | 0 => (0, p0)
  | n + 1 => if σ (fr + n) < 20000 then ((wkP σ fr nm p0 n).1 + 1, upd (wkP σ fr nm p0 n).2 (wkP σ fr nm p0 n).1 (if σ (fr + n) < 10000 then σ (fr + n) else nm (σ (fr + n) - 10000).toNatClampNeg))
    else if σ (fr + n) = 20010 then ((wkP σ fr nm p0 n).1, upd (wkP σ fr nm p0 n).2 ((wkP σ fr nm p0 n).1 - 1) (if (wkP σ fr nm p0 n).2 ((wkP σ fr nm p0 n).1 - 1) = 0 then 1 else 0))
    else ((wkP σ fr nm p0 n).1 - 1, upd (wkP σ fr nm p0 n).2 ((wkP σ fr nm p0 n).1 - 2) (opF (σ (fr + n)) ((wkP σ fr nm p0 n).2 ((wkP σ fr nm p0 n).1 - 2)) ((wkP σ fr nm p0 n).2 ((wkP σ fr nm p0 n).1 - 1))))
def wkD (σ : Rw) (fr : Nat) : Nat → Nat
  | 0 => 0
  | n + 1 => if σ (fr + n) < 20000 then wkD σ fr n + 1 else if σ (fr + n) = 20010 then wkD σ fr n else wkD σ fr n - 1
theorem wkP_d (σ : Rw) (fr : Nat) (nm p0 : Rw) : ∀ n, (wkP σ fr nm p0 n).1 = wkD σ fr n
  | 0 => rfl
  | n + 1 => by
    unfold wkP wkD
    split
    · rw [← wkP_d σ fr nm p0 n]
    · split
      · exact wkP_d σ fr nm p0 n
      · rw [← wkP_d σ fr nm p0 n]
theorem wkD_le (σ : Rw) (fr : Nat) : ∀ n, wkD σ fr n ≤ n
  | 0 => Nat.le_refl _
  | n + 1 => by
    have := wkD_le σ fr n
    unfold wkD
    split
    · omega
    · split <;> omega
/-- every code finds what it needs -/
def wfT (σ : Rw) (fr n : Nat) : Prop := ∀ j, j < n → (σ (fr + j) < 20000 → (0 ≤ σ (fr + j) ∧ σ (fr + j) < 10004)) ∧ (σ (fr + j) = 20010 → 1 ≤ wkD σ fr j) ∧ (20000 ≤ σ (fr + j) → ¬ σ (fr + j) = 20010 → 2 ≤ wkD σ fr j)
/-- what lay on the pile before doesn't matter -/
theorem wkP_any {σ : Rw} {fr n : Nat} (h : wfT σ fr n) (nm p q : Rw) : ∀ j, j ≤ n → ∀ i, i < wkD σ fr j → (wkP σ fr nm p j).2 i = (wkP σ fr nm q j).2 i
  | 0, _, i, hi => absurd hi (Nat.not_lt_zero _)
  | j + 1, hj, i, hi => by
    have ih := wkP_any h nm p q j (by omega)
    obtain ⟨g1, g2, g3⟩ := h j (by omega)
    unfold wkD at hi
    unfold wkP
    rw [wkP_d, wkP_d]
    by_cases c1 : σ (fr + j) < 20000
    · rw [if_pos c1] at hi
      rw [if_pos c1, if_pos c1]
      show upd _ _ _ i = upd _ _ _ i
      by_cases hz : i = wkD σ fr j
      · subst hz; rw [upd_at, upd_at]
      · rw [upd_ne hz, upd_ne hz]; exact ih i (by omega)
    · rw [if_neg c1] at hi
      rw [if_neg c1, if_neg c1]
      by_cases c2 : σ (fr + j) = 20010
      · rw [if_pos c2] at hi
        rw [if_pos c2, if_pos c2]
        show upd _ _ _ i = upd _ _ _ i
        have e1 := ih (wkD σ fr j - 1) (by have := g2 c2; omega)
        rw [e1]
        by_cases hz : i = wkD σ fr j - 1
        · subst hz; rw [upd_at, upd_at]
        · rw [upd_ne hz, upd_ne hz]; exact ih i (by omega)
      · rw [if_neg c2] at hi
        rw [if_neg c2, if_neg c2]
        show upd _ _ _ i = upd _ _ _ i
        have g := g3 (Int32.not_lt.mp c1) c2
        have e1 := ih (wkD σ fr j - 1) (by omega)
        have e2 := ih (wkD σ fr j - 2) (by omega)
        rw [e1, e2]
        by_cases hz : i = wkD σ fr j - 2
        · subst hz; rw [upd_at, upd_at]
        · rw [upd_ne hz, upd_ne hz]; exact ih i (by omega)
def nm4 (x y z w : Int32) : Rw := fun j => if j = 0 then x else if j = 1 then y else if j = 2 then z else w
/-- the answer of a whole text -/
def wkV (σ : Rw) (fr n : Nat) (nm : Rw) : Int32 := (wkP σ fr nm (fun _ => 0) n).2 0
/-- a use's text: none, or a row of codes that leaves one number -/
def TxOk (σ : Rw) (u : Nat) : Prop := ∃ n, n ≤ 50 ∧ σ (265 + 52 * u) = nI n ∧ wfT σ (265 + 52 * u + 1) n ∧ (0 < n → wkD σ (265 + 52 * u + 1) n = 1)
def txN (σ : Rw) (u : Nat) : Nat := (σ (265 + 52 * u)).toNatClampNeg
def givF (σ : Rw) (u : Nat) (x y z w : Int32) : Int32 :=
  if u = 0 then (if 0 < σ 265 then jmax (-99) (jmin 99 (wkV σ 266 (txN σ 0) (nm4 x y z w))) else 0)
  else jmax 0 (jmin 999 (if 0 < σ 317 then wkV σ 318 (txN σ 1) (nm4 x y z w) else y + 1))
