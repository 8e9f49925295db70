/-- the class's way to say that two lines meet -/
def LI (ax ay bx by' cx cy dx dy : Int) : Prop := ((ax = cx ∧ ay = cy) ∧ (bx = dx ∧ by' = dy)) ∨ ((ax = dx ∧ ay = dy) ∧ (bx = cx ∧ by' = cy)) ∨ inI ax ay cx cy dx dy ∨ inI bx by' cx cy dx dy ∨ inI cx cy ax ay bx by' ∨ inI dx dy ax ay bx by' ∨ (apI (trI ax ay bx by' cx cy) (trI ax ay bx by' dx dy) ∧ apI (trI cx cy dx dy ax ay) (trI cx cy dx dy bx by'))
theorem tr_id (ax ay bx by' cx cy dx dy : Int) : trI ax ay bx by' cx cy + trI cx cy dx dy ax ay = trI ax ay bx by' dx dy + trI cx cy dx dy bx by' := by unfold trI; grind
theorem tr_sw (ax ay bx by' cx cy : Int) : trI ay ax by' bx cy cx = -(trI ax ay bx by' cx cy) := by unfold trI; grind
theorem in_sw (hx hy xx xy yx yy : Int) : inI hy hx xy xx yy yx ↔ inI hx hy xx xy yx yy := by
  unfold inI
  rw [tr_sw]
  constructor
  · intro h; exact ⟨fun g => h.1 ⟨g.2, g.1⟩, fun g => h.2.1 ⟨g.2, g.1⟩, by omega, h.2.2.2.2, h.2.2.2.1⟩
  · intro h; exact ⟨fun g => h.1 ⟨g.2, g.1⟩, fun g => h.2.1 ⟨g.2, g.1⟩, by omega, h.2.2.2.2, h.2.2.2.1⟩
theorem col_4 {ax ay bx by' cx cy dx dy : Int} (hcd : ¬ (cx = dx ∧ cy = dy)) (h3 : trI cx cy dx dy ax ay = 0) (h4 : trI cx cy dx dy bx by' = 0) : trI ax ay bx by' cx cy = 0 ∧ trI ax ay bx by' dx dy = 0 := by
  have hid := tr_id ax ay bx by' cx cy dx dy
  have h1 : trI ax ay bx by' cx cy = 0 := by
    unfold trI at h3 h4 ⊢
    by_cases hx : dx - cx = 0
    · have hy : dy - cy ≠ 0 := fun e => hcd ⟨by omega, by omega⟩
      have e : (dy - cy) * ((bx - ax) * (cy - ay) - (by' - ay) * (cx - ax)) = 0 := by grind
      rcases Int.mul_eq_zero.mp e with g | g
      · exact absurd g hy
      · exact g
    · have e : (dx - cx) * ((bx - ax) * (cy - ay) - (by' - ay) * (cx - ax)) = 0 := by grind
      rcases Int.mul_eq_zero.mp e with g | g
      · exact absurd g hx
      · exact g
  exact ⟨h1, by omega⟩
/-- on one line -/
theorem geo_1 {ax ay bx by' cx cy dx dy : Int} (hab : ¬ (ax = bx ∧ ay = by')) (hcd : ¬ (cx = dx ∧ cy = dy)) (h1 : trI ax ay bx by' cx cy = 0) (h2 : trI ax ay bx by' dx dy = 0) :
    LI ax ay bx by' cx cy dx dy ↔ (ovI ax bx cx dx ∧ ovI ay by' cy dy ∧ (osI ax bx cx dx ∨ osI ay by' cy dy)) := by
  by_cases hu : bx - ax = 0
  · have hv : by' - ay ≠ 0 := fun e => hab ⟨by omega, by omega⟩
    have g := line_x (ax := ay) (ay := ax) (bx := by') (by' := bx) (cx := cy) (cy := cx) (dx := dy) (dy := dx) hv (by rw [tr_sw]; omega) (by rw [tr_sw]; omega) (fun e => hcd ⟨e.2, e.1⟩)
    have hL : LI ax ay bx by' cx cy dx dy ↔ LI ay ax by' bx cy cx dy dx := by
      unfold LI
      have k1 : trI ay ax by' bx cy cx = 0 := by rw [tr_sw, h1]; rfl
      have n1 : ¬ (apI (trI ax ay bx by' cx cy) (trI ax ay bx by' dx dy) ∧ apI (trI cx cy dx dy ax ay) (trI cx cy dx dy bx by')) := fun e => by have := e.1; rw [h1] at this; unfold apI at this; omega
      have n2 : ¬ (apI (trI ay ax by' bx cy cx) (trI ay ax by' bx dy dx) ∧ apI (trI cy cx dy dx ay ax) (trI cy cx dy dx by' bx)) := fun e => by have := e.1; rw [k1] at this; unfold apI at this; omega
      constructor
      · intro h
        rcases h with h | h | h | h | h | h | h
        · exact Or.inl ⟨⟨h.1.2, h.1.1⟩, ⟨h.2.2, h.2.1⟩⟩
        · exact Or.inr (Or.inl ⟨⟨h.1.2, h.1.1⟩, ⟨h.2.2, h.2.1⟩⟩)
        · exact Or.inr (Or.inr (Or.inl ((in_sw _ _ _ _ _ _).mpr h)))
        · exact Or.inr (Or.inr (Or.inr (Or.inl ((in_sw _ _ _ _ _ _).mpr h))))
        · exact Or.inr (Or.inr (Or.inr (Or.inr (Or.inl ((in_sw _ _ _ _ _ _).mpr h)))))
        · exact Or.inr (Or.inr (Or.inr (Or.inr (Or.inr (Or.inl ((in_sw _ _ _ _ _ _).mpr h))))))
        · exact absurd h n1
      · intro h
        rcases h with h | h | h | h | h | h | h
        · exact Or.inl ⟨⟨h.1.2, h.1.1⟩, ⟨h.2.2, h.2.1⟩⟩
        · exact Or.inr (Or.inl ⟨⟨h.1.2, h.1.1⟩, ⟨h.2.2, h.2.1⟩⟩)
        · exact Or.inr (Or.inr (Or.inl ((in_sw _ _ _ _ _ _).mp h)))
        · exact Or.inr (Or.inr (Or.inr (Or.inl ((in_sw _ _ _ _ _ _).mp h))))
        · exact Or.inr (Or.inr (Or.inr (Or.inr (Or.inl ((in_sw _ _ _ _ _ _).mp h)))))
        · exact Or.inr (Or.inr (Or.inr (Or.inr (Or.inr (Or.inl ((in_sw _ _ _ _ _ _).mp h))))))
        · exact absurd h n2
    rw [hL]
    refine g.trans ?_
    constructor
    · intro h; exact ⟨h.2.1, h.1, h.2.2.symm⟩
    · intro h; exact ⟨h.2.1, h.1, h.2.2.symm⟩
  · exact line_x hu h1 h2 hcd
theorem ne_pos {ax ay cx cy : Int} (h : ¬ (ax = cx ∧ ay = cy)) : ax - cx ≠ 0 ∨ ay - cy ≠ 0 := by omega
/-- not on one line, no end in common -/
theorem geo_2 {ax ay bx by' cx cy dx dy : Int} (hab : ¬ (ax = bx ∧ ay = by')) (hcd : ¬ (cx = dx ∧ cy = dy)) (hac : ¬ (ax = cx ∧ ay = cy)) (had : ¬ (ax = dx ∧ ay = dy)) (hbc : ¬ (bx = cx ∧ by' = cy)) (hbd : ¬ (bx = dx ∧ by' = dy)) (hn : ¬ (trI ax ay bx by' cx cy = 0 ∧ trI ax ay bx by' dx dy = 0)) :
    LI ax ay bx by' cx cy dx dy ↔ (trI ax ay bx by' cx cy * trI ax ay bx by' dx dy ≤ 0 ∧ trI cx cy dx dy ax ay * trI cx cy dx dy bx by' ≤ 0) := by
  have hid := tr_id ax ay bx by' cx cy dx dy
  -- products by differences from a point
  have tA1 : trI ax ay bx by' cx cy = (bx - ax) * (cy - ay) - (by' - ay) * (cx - ax) := rfl
  have tA2 : trI ax ay bx by' dx dy = (bx - ax) * (dy - ay) - (by' - ay) * (dx - ax) := rfl
  have tB1 : trI ax ay bx by' cx cy = -((ax - bx) * (cy - by') - (ay - by') * (cx - bx)) := by unfold trI; grind
  have tB2 : trI ax ay bx by' dx dy = -((ax - bx) * (dy - by') - (ay - by') * (dx - bx)) := by unfold trI; grind
  have tC3 : trI cx cy dx dy ax ay = (dx - cx) * (ay - cy) - (dy - cy) * (ax - cx) := rfl
  have tC4 : trI cx cy dx dy bx by' = (dx - cx) * (by' - cy) - (dy - cy) * (bx - cx) := rfl
  have tD3 : trI cx cy dx dy ax ay = -((cx - dx) * (ay - dy) - (cy - dy) * (ax - dx)) := by unfold trI; grind
  have tD4 : trI cx cy dx dy bx by' = -((cx - dx) * (by' - dy) - (cy - dy) * (bx - dx)) := by unfold trI; grind
  have neg2 : ∀ x y : Int, (-x) * (-y) = x * y := fun x y => by grind
  have fl : ∀ h x y : Int, bwI h x y ↔ (x - h) * (y - h) ≤ 0 := fun h x y => by
    unfold bwI
    rw [show (h - x) * (h - y) = (x - h) * (y - h) by grind]
  constructor
  · intro h
    rcases h with h | h | h | h | h | h | h
    · exact absurd h.1 hac
    · exact absurd h.1 had
    · obtain ⟨-, -, h3, h4, h5⟩ := h
      rw [fl] at h4 h5
      refine ⟨?_, by rw [h3, Int.zero_mul]; exact Int.le_refl 0⟩
      rw [tA1, tA2]
      exact on_line2 (by unfold trI at h3; grind) (by have := ne_pos hac; omega) (by have := ne_pos had; omega) h4 h5
    · obtain ⟨-, -, h3, h4, h5⟩ := h
      rw [fl] at h4 h5
      refine ⟨?_, by rw [h3, Int.mul_zero]; exact Int.le_refl 0⟩
      rw [tB1, tB2, neg2]
      exact on_line2 (by unfold trI at h3; grind) (by have := ne_pos hbc; omega) (by have := ne_pos hbd; omega) h4 h5
    · obtain ⟨-, -, h3, h4, h5⟩ := h
      rw [fl] at h4 h5
      refine ⟨by rw [h3, Int.zero_mul]; exact Int.le_refl 0, ?_⟩
      rw [tC3, tC4]
      exact on_line2 (by unfold trI at h3; grind) (by have := ne_pos hac; omega) (by have := ne_pos hbc; omega) h4 h5
    · obtain ⟨-, -, h3, h4, h5⟩ := h
      rw [fl] at h4 h5
      refine ⟨by rw [h3, Int.mul_zero]; exact Int.le_refl 0, ?_⟩
      rw [tD3, tD4, neg2]
      exact on_line2 (by unfold trI at h3; grind) (by have := ne_pos had; omega) (by have := ne_pos hbd; omega) h4 h5
    · obtain ⟨h1, h2⟩ := h
      have ap : ∀ {s t : Int}, apI s t → s * t ≤ 0 := fun {s t} g => by
        rcases g with g | g
        · exact Int.le_of_lt (Int.mul_neg_of_neg_of_pos g.1 g.2)
        · exact Int.le_of_lt (Int.mul_neg_of_pos_of_neg g.1 g.2)
      exact ⟨ap h1, ap h2⟩
  · intro h
    obtain ⟨h1, h2⟩ := h
    by_cases z1 : trI ax ay bx by' cx cy = 0
    · have z2 : trI ax ay bx by' dx dy ≠ 0 := fun e => hn ⟨z1, e⟩
      have g := on_line (px := ax - cx) (py := ay - cy) (qx := bx - cx) (qy := by' - cy) (wx := dx - cx) (wy := dy - cy) (by unfold trI at z1; grind) (by rw [← tC3, ← tC4]; omega) (by rw [← tC3, ← tC4]; exact h2)
      exact Or.inr (Or.inr (Or.inr (Or.inr (Or.inl ⟨fun e => hac ⟨e.1.symm, e.2.symm⟩, fun e => hbc ⟨e.1.symm, e.2.symm⟩, z1, (fl _ _ _).mpr g.1, (fl _ _ _).mpr g.2⟩))))
    · by_cases z2 : trI ax ay bx by' dx dy = 0
      · have g := on_line (px := ax - dx) (py := ay - dy) (qx := bx - dx) (qy := by' - dy) (wx := cx - dx) (wy := cy - dy) (by unfold trI at z2; grind) (by intro e; apply z1; omega) (by rw [← neg2, ← tD3, ← tD4]; exact h2)
        exact Or.inr (Or.inr (Or.inr (Or.inr (Or.inr (Or.inl ⟨fun e => had ⟨e.1.symm, e.2.symm⟩, fun e => hbd ⟨e.1.symm, e.2.symm⟩, z2, (fl _ _ _).mpr g.1, (fl _ _ _).mpr g.2⟩)))))
      · by_cases z3 : trI cx cy dx dy ax ay = 0
        · have hne : trI ax ay bx by' cx cy ≠ trI ax ay bx by' dx dy := fun e => z1 (col_4 hcd z3 (by omega)).1
          have g := on_line (px := cx - ax) (py := cy - ay) (qx := dx - ax) (qy := dy - ay) (wx := bx - ax) (wy := by' - ay) (by unfold trI at z3; grind) (by rw [← tA1, ← tA2]; exact hne) (by rw [← tA1, ← tA2]; exact h1)
          exact Or.inr (Or.inr (Or.inl ⟨hac, had, z3, (fl _ _ _).mpr g.1, (fl _ _ _).mpr g.2⟩))
        · by_cases z4 : trI cx cy dx dy bx by' = 0
          · have hne : trI ax ay bx by' cx cy ≠ trI ax ay bx by' dx dy := fun e => z3 (by omega)
            have g := on_line (px := cx - bx) (py := cy - by') (qx := dx - bx) (qy := dy - by') (wx := ax - bx) (wy := ay - by') (by unfold trI at z4; grind) (by intro e; apply hne; omega) (by rw [← neg2, ← tB1, ← tB2]; exact h1)
            exact Or.inr (Or.inr (Or.inr (Or.inl ⟨hbc, hbd, z4, (fl _ _ _).mpr g.1, (fl _ _ _).mpr g.2⟩)))
          · have ap : ∀ {s t : Int}, s ≠ 0 → t ≠ 0 → s * t ≤ 0 → apI s t := fun {s t} s0 t0 g => by
              unfold apI
              rcases Int.lt_trichotomy s 0 with a | a | a
              · rcases Int.lt_trichotomy t 0 with b | b | b
                · have := Int.mul_pos_of_neg_of_neg a b; omega
                · exact absurd b t0
                · exact Or.inl ⟨a, b⟩
              · exact absurd a s0
              · rcases Int.lt_trichotomy t 0 with b | b | b
                · exact Or.inr ⟨a, b⟩
                · exact absurd b t0
                · have := Int.mul_pos a b; omega
            exact Or.inr (Or.inr (Or.inr (Or.inr (Or.inr (Or.inr ⟨ap z1 z2 h1, ap z3 z4 h2⟩)))))
/-- not on one line, an end in common: they don't meet -/
theorem geo_3 {ax ay bx by' cx cy dx dy : Int} (hab : ¬ (ax = bx ∧ ay = by')) (hcd : ¬ (cx = dx ∧ cy = dy)) (hs : (ax = cx ∧ ay = cy) ∨ (ax = dx ∧ ay = dy) ∨ (bx = cx ∧ by' = cy) ∨ (bx = dx ∧ by' = dy)) (hn : ¬ (trI ax ay bx by' cx cy = 0 ∧ trI ax ay bx by' dx dy = 0)) : ¬ LI ax ay bx by' cx cy dx dy := by
  have hid := tr_id ax ay bx by' cx cy dx dy
  have z3 : ¬ (trI cx cy dx dy ax ay = 0 ∧ trI cx cy dx dy bx by' = 0) := fun e => hn (col_4 hcd e.1 e.2)
  have self1 : ∀ x y z w : Int, trI x y z w x y = 0 := fun x y z w => by unfold trI; grind
  have self2 : ∀ x y z w : Int, trI x y z w z w = 0 := fun x y z w => by unfold trI; grind
  intro h
  rcases hs with ⟨e1, e2⟩ | ⟨e1, e2⟩ | ⟨e1, e2⟩ | ⟨e1, e2⟩ <;> subst e1 <;> subst e2
  · have t1 := self1 ax ay bx by'
    have t3 := self1 ax ay dx dy
    rcases h with h | h | h | h | h | h | h
    · obtain ⟨-, q1, q2⟩ := h; subst q1; subst q2; exact hn ⟨t1, self2 _ _ _ _⟩
    · exact hcd ⟨h.1.1, h.1.2⟩
    · exact h.1 ⟨rfl, rfl⟩
    · exact z3 ⟨t3, h.2.2.1⟩
    · exact h.1 ⟨rfl, rfl⟩
    · exact hn ⟨t1, h.2.2.1⟩
    · rw [t1] at h; have := h.1; unfold apI at this; omega
  · have t2 := self1 ax ay bx by'
    have t3 := self2 cx cy ax ay
    rcases h with h | h | h | h | h | h | h
    · exact hcd ⟨h.1.1.symm, h.1.2.symm⟩
    · obtain ⟨-, q1, q2⟩ := h; subst q1; subst q2; exact hn ⟨self2 _ _ _ _, t2⟩
    · exact h.2.1 ⟨rfl, rfl⟩
    · exact z3 ⟨t3, h.2.2.1⟩
    · exact hn ⟨h.2.2.1, t2⟩
    · exact h.1 ⟨rfl, rfl⟩
    · rw [t2] at h; have := h.1; unfold apI at this; omega
  · have t1 := self2 ax ay bx by'
    have t4 := self1 bx by' dx dy
    rcases h with h | h | h | h | h | h | h
    · exact hab ⟨h.1.1, h.1.2⟩
    · obtain ⟨⟨q1, q2⟩, -⟩ := h; subst q1; subst q2; exact hn ⟨t1, self1 _ _ _ _⟩
    · exact z3 ⟨h.2.2.1, t4⟩
    · exact h.1 ⟨rfl, rfl⟩
    · exact h.2.1 ⟨rfl, rfl⟩
    · exact hn ⟨t1, h.2.2.1⟩
    · rw [t1] at h; have := h.1; unfold apI at this; omega
  · have t2 := self2 ax ay bx by'
    have t4 := self2 cx cy bx by'
    rcases h with h | h | h | h | h | h | h
    · obtain ⟨⟨q1, q2⟩, -⟩ := h; subst q1; subst q2; exact hn ⟨self1 _ _ _ _, t2⟩
    · exact hab ⟨h.1.1, h.1.2⟩
    · exact z3 ⟨h.2.2.1, t4⟩
    · exact h.2.1 ⟨rfl, rfl⟩
    · exact hn ⟨h.2.2.1, t2⟩
    · exact h.2.1 ⟨rfl, rfl⟩
    · rw [t2] at h; have := h.1; unfold apI at this; omega
