/-! what both sides answer, as functions of the row σ (the reference's 'now') -/
abbrev Rw : Type := Nat → Int32
def hx (σ : Rw) (h : Nat) : Int32 := σ (9 + 2 * h) / 16
def hy (σ : Rw) (h : Nat) : Int32 := jrem (σ (9 + 2 * h)) 16
def hz (σ : Rw) (h : Nat) : Int32 := σ (9 + 2 * h + 1)
def kf (σ : Rw) (k fld : Nat) : Int32 := σ (51 + 6 * k + fld)
def lf (σ : Rw) (l fld : Nat) : Int32 := σ (99 + 7 * l + fld)
def farF (σ : Rw) (x y : Nat) : Int32 := jabs (hx σ x - hx σ y) + jabs (hy σ x - hy σ y)
def aboveF (k : Int32) : Int32 := if k = 0 then -1 else if k = 4 then 1 else if k = 5 then 2 else if k = 6 then 3 else 0
def turnF (σ : Rw) (x y z : Nat) : Int32 := (hx σ y - hx σ x) * (hy σ z - hy σ x) - (hy σ y - hy σ x) * (hx σ z - hx σ x)
def sgF (t : Int32) : Int32 := if 0 < t then 1 else if t < 0 then -1 else 0
def takF (σ : Rw) (xy : Int32) : Nat → Bool
  | 0 => false
  | n + 1 => takF σ xy n || decide (σ (9 + 2 * n) = xy)
def risF (σ : Rw) (n : Nat) (xy hi : Int32) : Rw := upd (upd (upd σ (9 + 2 * n) xy) (9 + 2 * n + 1) hi) 1 (σ 1 + 1)
def flyF (σ : Rw) (n : Nat) (kind mk home lift line : Int32) : Rw := upd (upd (upd (upd (upd (upd (upd σ (51 + 6 * n) kind) (51 + 6 * n + 1) mk) (51 + 6 * n + 2) home) (51 + 6 * n + 3) lift) (51 + 6 * n + 4) line) (51 + 6 * n + 5) (-1)) 2 (σ 2 + 1)
def lonF (σ : Rw) (h : Int32) : Nat → Int32
  | 0 => 0
  | n + 1 => lonF σ h n ||| (if lf σ n 5 = h ∧ lf σ n 6 < 0 then jshl 1 (nI n) else 0)
theorem upd_at {f : Rw} {j : Nat} {x : Int32} : upd f j x j = x := if_pos rfl
theorem upd_ne {f : Rw} {i j : Nat} {x : Int32} (h : i ≠ j) : upd f j x i = f i := if_neg h
/-- a row of ints may be told by another function that is the same on it -/
theorem cell_repr {cA : ClassId} {n : Nat} {f g : Rw} (h : ∀ j, j < n → f j = g j) : vp_cell cA (n, .inl f) = vp_cell cA (n, .inl g) := by
  rw [vp_cell_i, vp_cell_i]
  unfold arrV
  congr 2
  funext j
  show Value.int (f j.val) = Value.int (g j.val)
  rw [h j.val j.isLt]
theorem hp_repr {Γ : Cx} {M : Nat → Option va_E} {sz a n : Nat} {f g : Rw} {H : Heap} (h : ∀ j, j < n → f j = g j) (hH : hp Γ (va_up M a (aI Γ n f), sz) H) : hp Γ (va_up M a (aI Γ n g), sz) H := by
  refine ⟨hH.1, hH.2.1, fun q e hq => ?_⟩
  by_cases hqa : q = a
  · subst hqa
    have h1 := hH.2.2 q (.inl (Γ.2.2 1, n, .inl f)) up_eq
    rw [show ((va_up M q (aI Γ n g), sz) : Wd).1 q = aI Γ n g from up_eq] at hq
    cases hq
    refine ⟨h1.1, ?_⟩
    have h2 : H[q]? = some (vp_cell (Γ.2.2 1) (n, .inl f)) := h1.2
    show H[q]? = some (vp_cell (Γ.2.2 1) (n, .inl g))
    rw [h2, cell_repr h]
  · have h1 : (va_up M a (aI Γ n f), sz).1 q = some e := by
      rw [show ((va_up M a (aI Γ n f), sz) : Wd).1 q = M q from up_ne hqa]
      rw [show ((va_up M a (aI Γ n g), sz) : Wd).1 q = M q from up_ne hqa] at hq
      exact hq
    exact hH.2.2 q e h1
theorem ok_repr {Γ : Cx} {f : Md} {d b pc : Nat} {L : List (Option Value)} {st : List Value} {Q : Option Value → Wd → Prop} {M : Nat → Option va_E} {sz a n : Nat} {fn gn : Rw} (h : ∀ j, j < n → fn j = gn j) (k : Ok Γ f d b pc L st (va_up M a (aI Γ n gn), sz) Q) : Ok Γ f d b pc L st (va_up M a (aI Γ n fn), sz) Q :=
  fun p e s m args below meth c F H locs cells slots bb h1 h2 hH hS ls hls => k p e s m args below meth c F H locs cells slots bb h1 h2 (hp_repr h hH) hS ls hls
theorem up_up {M : Nat → Option va_E} {a : Nat} {e e' : Option va_E} : va_up (va_up M a e) a e' = va_up M a e' := by
  funext q
  unfold va_up
  split <;> rfl
theorem up_same {M : Nat → Option va_E} {a : Nat} {e : Option va_E} (h : M a = e) : va_up M a e = M := by
  funext q
  unfold va_up
  split
  · rename_i hq
    rw [hq, h]
  · rfl
