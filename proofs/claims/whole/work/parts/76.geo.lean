/-! lines that meet: two ways to say it -/
theorem sq_pos {x : Int} (h : x ≠ 0) : 0 < x * x := by
  rcases Int.lt_trichotomy x 0 with g | g | g
  · exact Int.mul_pos_of_neg_of_neg g g
  · exact absurd g h
  · exact Int.mul_pos g g
theorem sq_nn (x : Int) : 0 ≤ x * x := by
  by_cases h : x = 0
  · subst h; decide
  · exact Int.le_of_lt (sq_pos h)
theorem sg_1 {p q x y : Int} (h : p * y = q * x) (hle : x * y ≤ 0) (hpq : 0 < p * q) : x = 0 ∧ y = 0 := by
  have e1 : (p * y) * (p * y) = (p * q) * (x * y) := by grind
  have e2 : (q * x) * (q * x) = (p * q) * (x * y) := by grind
  have hn : (p * q) * (x * y) ≤ 0 := by
    rcases Int.lt_or_eq_of_le hle with g | g
    · exact Int.le_of_lt (Int.mul_neg_of_pos_of_neg hpq g)
    · rw [g, Int.mul_zero]; exact Int.le_refl 0
  have p0 : p ≠ 0 := fun e => by rw [e, Int.zero_mul] at hpq; exact absurd hpq (by decide)
  have q0 : q ≠ 0 := fun e => by rw [e, Int.mul_zero] at hpq; exact absurd hpq (by decide)
  constructor
  · by_cases g : q * x = 0
    · rcases Int.mul_eq_zero.mp g with h1 | h1
      · exact absurd h1 q0
      · exact h1
    · have := sq_pos g; omega
  · by_cases g : p * y = 0
    · rcases Int.mul_eq_zero.mp g with h1 | h1
      · exact absurd h1 p0
      · exact h1
    · have := sq_pos g; omega
theorem sg_2 {p q x y : Int} (h : p * y = q * x) (hpq : p * q < 0) : x * y ≤ 0 := by
  have e1 : (p * y) * (p * y) = (p * q) * (x * y) := by grind
  have h2 := sq_nn (p * y)
  rcases Int.lt_or_le 0 (x * y) with g | g
  · have := Int.mul_neg_of_neg_of_pos hpq g; omega
  · exact g
/-- C lies on the line through A and B, D doesn't: whether C is between -/
theorem on_line {px py qx qy wx wy : Int} (hm : px * qy = py * qx) (hne : wx * py - wy * px ≠ wx * qy - wy * qx) (hle : (wx * py - wy * px) * (wx * qy - wy * qx) ≤ 0) : px * qx ≤ 0 ∧ py * qy ≤ 0 := by
  constructor
  · rcases Int.lt_or_le 0 (px * qx) with g | g
    · have e : px * (wx * qy - wy * qx) = qx * (wx * py - wy * px) := by grind
      obtain ⟨h1, h2⟩ := sg_1 e hle g
      rw [h1, h2] at hne; exact absurd rfl hne
    · exact g
  · rcases Int.lt_or_le 0 (py * qy) with g | g
    · have e : py * (wx * qy - wy * qx) = qy * (wx * py - wy * px) := by grind
      obtain ⟨h1, h2⟩ := sg_1 e hle g
      rw [h1, h2] at hne; exact absurd rfl hne
    · exact g
theorem on_line2 {px py qx qy wx wy : Int} (hm : px * qy = py * qx) (hp : px ≠ 0 ∨ py ≠ 0) (hq : qx ≠ 0 ∨ qy ≠ 0) (h1 : px * qx ≤ 0) (h2 : py * qy ≤ 0) : (wx * py - wy * px) * (wx * qy - wy * qx) ≤ 0 := by
  by_cases g : px * qx = 0
  · by_cases g2 : py * qy = 0
    · exfalso
      rcases Int.mul_eq_zero.mp g with e | e <;> rcases Int.mul_eq_zero.mp g2 with e2 | e2
      · rcases hp with h | h
        · exact h e
        · exact h e2
      · have hpy : py ≠ 0 := by rcases hp with h | h; exact absurd e h; exact h
        have hqx : qx ≠ 0 := by rcases hq with h | h; exact h; exact absurd e2 h
        rw [e, Int.zero_mul] at hm
        rcases Int.mul_eq_zero.mp hm.symm with h | h
        · exact hpy h
        · exact hqx h
      · have hpx : px ≠ 0 := by rcases hp with h | h; exact h; exact absurd e2 h
        have hqy : qy ≠ 0 := by rcases hq with h | h; exact absurd e h; exact h
        rw [e, Int.mul_zero] at hm
        rcases Int.mul_eq_zero.mp hm with h | h
        · exact hpx h
        · exact hqy h
      · rcases hq with h | h
        · exact h e
        · exact h e2
    · have e : py * (wx * qy - wy * qx) = qy * (wx * py - wy * px) := by grind
      exact sg_2 e (by omega)
  · have e : px * (wx * qy - wy * qx) = qx * (wx * py - wy * px) := by grind
    exact sg_2 e (by omega)
def trI (ax ay bx by' cx cy : Int) : Int := (bx - ax) * (cy - ay) - (by' - ay) * (cx - ax)
def bwI (h x y : Int) : Prop := (h - x) * (h - y) ≤ 0
def inI (hx hy xx xy yx yy : Int) : Prop := ¬ (hx = xx ∧ hy = xy) ∧ ¬ (hx = yx ∧ hy = yy) ∧ trI xx xy yx yy hx hy = 0 ∧ bwI hx xx yx ∧ bwI hy xy yy
def apI (s t : Int) : Prop := (s < 0 ∧ 0 < t) ∨ (0 < s ∧ t < 0)
theorem bw_iff (h x y : Int) : bwI h x y ↔ (x ≤ h ∧ h ≤ y) ∨ (y ≤ h ∧ h ≤ x) := by
  unfold bwI
  constructor
  · intro g
    rcases Int.lt_trichotomy h x with a | a | a
    · rcases Int.lt_or_le h y with b | b
      · have := Int.mul_pos_of_neg_of_neg (show h - x < 0 by omega) (show h - y < 0 by omega); omega
      · exact Or.inr ⟨b, by omega⟩
    · omega
    · rcases Int.lt_or_le y h with b | b
      · have := Int.mul_pos (show 0 < h - x by omega) (show 0 < h - y by omega); omega
      · exact Or.inl ⟨by omega, b⟩
  · intro g
    rcases g with ⟨a, b⟩ | ⟨a, b⟩
    · rcases Int.lt_or_eq_of_le a with a | a
      · rcases Int.lt_or_eq_of_le b with b | b
        · exact Int.le_of_lt (Int.mul_neg_of_pos_of_neg (by omega) (by omega))
        · rw [show h - y = 0 by omega, Int.mul_zero]; exact Int.le_refl 0
      · rw [show h - x = 0 by omega, Int.zero_mul]; exact Int.le_refl 0
    · rcases Int.lt_or_eq_of_le a with a | a
      · rcases Int.lt_or_eq_of_le b with b | b
        · exact Int.le_of_lt (Int.mul_neg_of_neg_of_pos (by omega) (by omega))
        · rw [show h - x = 0 by omega, Int.zero_mul]; exact Int.le_refl 0
      · rw [show h - y = 0 by omega, Int.mul_zero]; exact Int.le_refl 0
/-- overlap of two spans, by comparisons -/
def ovI (ax bx cx dx : Int) : Prop := (ax ≤ cx ∨ ax ≤ dx ∨ bx ≤ cx ∨ bx ≤ dx) ∧ (cx ≤ ax ∨ cx ≤ bx ∨ dx ≤ ax ∨ dx ≤ bx)
def osI (ax bx cx dx : Int) : Prop := ((ax < cx ∨ ax < dx ∨ bx < cx ∨ bx < dx) ∧ (cx < ax ∨ cx < bx ∨ dx < ax ∨ dx < bx)) ∧ ax ≠ bx ∧ cx ≠ dx
theorem os_ov {ax bx cx dx : Int} : (ovI ax bx cx dx ∧ ovI ax bx cx dx ∧ (osI ax bx cx dx ∨ osI ax bx cx dx)) ↔ osI ax bx cx dx := by
  constructor
  · intro h; exact h.2.2.elim id id
  · intro h
    have ho : ovI ax bx cx dx := by
      obtain ⟨⟨h1, h2⟩, -, -⟩ := h
      unfold ovI
      constructor <;> omega
    exact ⟨ho, ho, Or.inl h⟩
theorem pos_le {k x : Int} (hk : 0 < k) : (k * x ≤ 0 ↔ x ≤ 0) ∧ (0 ≤ k * x ↔ 0 ≤ x) := by
  constructor <;> constructor <;> intro h
  · apply Int.not_lt.mp; intro g; have := Int.mul_pos hk g; omega
  · rcases Int.lt_or_eq_of_le h with g | g
    · exact Int.le_of_lt (Int.mul_neg_of_pos_of_neg hk g)
    · rw [g, Int.mul_zero]; exact Int.le_refl 0
  · apply Int.not_lt.mp; intro g; have := Int.mul_neg_of_pos_of_neg hk g; omega
  · exact Int.mul_nonneg (Int.le_of_lt hk) h
theorem mo_pos {a b p q r s : Int} (h : a * (q - s) = b * (p - r)) (ha : 0 < a * b) : (q ≤ s ↔ p ≤ r) ∧ (s ≤ q ↔ r ≤ p) ∧ (q < s ↔ p < r) ∧ (s < q ↔ r < p) := by
  have hb : b ≠ 0 := fun e => by rw [e, Int.mul_zero] at ha; exact absurd ha (by decide)
  have e : (a * b) * (q - s) = (b * b) * (p - r) := by
    have e1 : (a * b) * (q - s) = b * (a * (q - s)) := by grind
    rw [e1, h]; grind
  obtain ⟨h1, h2⟩ := pos_le (x := q - s) ha
  obtain ⟨h3, h4⟩ := pos_le (x := p - r) (sq_pos hb)
  rw [e] at h1 h2
  omega
theorem mo_neg {a b p q r s : Int} (h : a * (q - s) = b * (p - r)) (ha : a * b < 0) : (q ≤ s ↔ r ≤ p) ∧ (s ≤ q ↔ p ≤ r) ∧ (q < s ↔ r < p) ∧ (s < q ↔ p < r) := by
  have hb : b ≠ 0 := fun e => by rw [e, Int.mul_zero] at ha; exact absurd ha (by decide)
  have e : (-(a * b)) * (q - s) = (b * b) * (r - p) := by
    have e1 : (-(a * b)) * (q - s) = -(b * (a * (q - s))) := by grind
    rw [e1, h]; grind
  obtain ⟨h1, h2⟩ := pos_le (k := -(a * b)) (x := q - s) (by omega)
  obtain ⟨h3, h4⟩ := pos_le (x := r - p) (sq_pos hb)
  rw [e] at h1 h2
  omega
/-- on a line of numbers -/
theorem one_d {a b c d : Int} (hab : a ≠ b) (hcd : c ≠ d) (h : ((a < c ∨ a < d ∨ b < c ∨ b < d) ∧ (c < a ∨ c < b ∨ d < a ∨ d < b))) :
    (a = c ∧ b = d) ∨ (a = d ∧ b = c) ∨ (a ≠ c ∧ a ≠ d ∧ ((c ≤ a ∧ a ≤ d) ∨ (d ≤ a ∧ a ≤ c))) ∨ (b ≠ c ∧ b ≠ d ∧ ((c ≤ b ∧ b ≤ d) ∨ (d ≤ b ∧ b ≤ c))) ∨ (c ≠ a ∧ c ≠ b ∧ ((a ≤ c ∧ c ≤ b) ∨ (b ≤ c ∧ c ≤ a))) ∨ (d ≠ a ∧ d ≠ b ∧ ((a ≤ d ∧ d ≤ b) ∨ (b ≤ d ∧ d ≤ a))) := by
  rcases Int.lt_trichotomy a c with h1 | h1 | h1 <;> rcases Int.lt_trichotomy b d with h2 | h2 | h2 <;> rcases Int.lt_trichotomy a d with h3 | h3 | h3 <;> rcases Int.lt_trichotomy b c with h4 | h4 | h4 <;>
    first
      | exact Or.inl ⟨by omega, by omega⟩
      | exact Or.inr (Or.inl ⟨by omega, by omega⟩)
      | exact Or.inr (Or.inr (Or.inl ⟨by omega, by omega, Or.inl ⟨by omega, by omega⟩⟩))
      | exact Or.inr (Or.inr (Or.inl ⟨by omega, by omega, Or.inr ⟨by omega, by omega⟩⟩))
      | exact Or.inr (Or.inr (Or.inr (Or.inl ⟨by omega, by omega, Or.inl ⟨by omega, by omega⟩⟩)))
      | exact Or.inr (Or.inr (Or.inr (Or.inl ⟨by omega, by omega, Or.inr ⟨by omega, by omega⟩⟩)))
      | exact Or.inr (Or.inr (Or.inr (Or.inr (Or.inl ⟨by omega, by omega, Or.inl ⟨by omega, by omega⟩⟩))))
      | exact Or.inr (Or.inr (Or.inr (Or.inr (Or.inl ⟨by omega, by omega, Or.inr ⟨by omega, by omega⟩⟩))))
      | exact Or.inr (Or.inr (Or.inr (Or.inr (Or.inr ⟨by omega, by omega, Or.inl ⟨by omega, by omega⟩⟩))))
      | exact Or.inr (Or.inr (Or.inr (Or.inr (Or.inr ⟨by omega, by omega, Or.inr ⟨by omega, by omega⟩⟩))))
      | (exfalso; omega)
/-- on one line, told by x -/
theorem line_x {ax ay bx by' cx cy dx dy : Int} (hu : bx - ax ≠ 0) (h1 : trI ax ay bx by' cx cy = 0) (h2 : trI ax ay bx by' dx dy = 0) (hcd : ¬ (cx = dx ∧ cy = dy)) :
    (((ax = cx ∧ ay = cy) ∧ (bx = dx ∧ by' = dy)) ∨ ((ax = dx ∧ ay = dy) ∧ (bx = cx ∧ by' = cy)) ∨ inI ax ay cx cy dx dy ∨ inI bx by' cx cy dx dy ∨ inI cx cy ax ay bx by' ∨ inI dx dy ax ay bx by' ∨ (apI (trI ax ay bx by' cx cy) (trI ax ay bx by' dx dy) ∧ apI (trI cx cy dx dy ax ay) (trI cx cy dx dy bx by'))) ↔
    (ovI ax bx cx dx ∧ ovI ay by' cy dy ∧ (osI ax bx cx dx ∨ osI ay by' cy dy)) := by
  have hap : ¬ (apI (trI ax ay bx by' cx cy) (trI ax ay bx by' dx dy) ∧ apI (trI cx cy dx dy ax ay) (trI cx cy dx dy bx by')) := by
    rw [h1, h2]; unfold apI; omega
  unfold trI at h1 h2
  obtain ⟨ux, eux⟩ : ∃ ux, ux = bx - ax := ⟨_, rfl⟩
  obtain ⟨uy, euy⟩ : ∃ uy, uy = by' - ay := ⟨_, rfl⟩
  rw [← eux, ← euy] at h1 h2
  rw [← eux] at hu
  -- every two points of the four
  have c1 : ux * (cy - ay) = uy * (cx - ax) := by omega
  have c2 : ux * (dy - ay) = uy * (dx - ax) := by omega
  have c3 : ux * (by' - ay) = uy * (bx - ax) := by rw [← eux, ← euy]; exact Int.mul_comm _ _
  have gen : ∀ {p q r s : Int}, ux * (q - ay) = uy * (p - ax) → ux * (s - ay) = uy * (r - ax) → ux * (q - s) = uy * (p - r) := fun {p q r s} g1 g2 => by
    have e1 : ux * (q - s) = ux * (q - ay) - ux * (s - ay) := by grind
    have e2 : uy * (p - r) = uy * (p - ax) - uy * (r - ax) := by grind
    rw [e1, e2, g1, g2]
  have c0 : ux * (ay - ay) = uy * (ax - ax) := by rw [Int.sub_self, Int.sub_self, Int.mul_zero, Int.mul_zero]
  have eqx : ∀ {p q r s : Int}, ux * (q - s) = uy * (p - r) → (p = r ∧ q = s ↔ p = r) := fun {p q r s} g => by
    refine ⟨fun h => h.1, fun h => ⟨h, ?_⟩⟩
    rw [h, Int.sub_self, Int.mul_zero] at g
    rcases Int.mul_eq_zero.mp g with e | e
    · exact absurd e hu
    · omega
  have bwy : ∀ {p q r s x y : Int}, ux * (q - s) = uy * (p - r) → ux * (q - y) = uy * (p - x) → bwI p r x → bwI q s y := fun {p q r s x y} g1 g2 hb => by
    unfold bwI at hb ⊢
    have e : (ux * ux) * ((q - s) * (q - y)) = (uy * uy) * ((p - r) * (p - x)) := by
      have e1 : (ux * ux) * ((q - s) * (q - y)) = (ux * (q - s)) * (ux * (q - y)) := by grind
      have e2 : (uy * uy) * ((p - r) * (p - x)) = (uy * (p - r)) * (uy * (p - x)) := by grind
      rw [e1, e2, g1, g2]
    rcases Int.lt_or_le 0 ((q - s) * (q - y)) with g | g
    · have h3 := Int.mul_pos (sq_pos hu) g
      have h4 : (uy * uy) * ((p - r) * (p - x)) ≤ 0 := by
        rcases Int.lt_or_eq_of_le hb with h5 | h5
        · rcases Int.lt_or_eq_of_le (sq_nn uy) with h6 | h6
          · exact Int.le_of_lt (Int.mul_neg_of_pos_of_neg h6 h5)
          · rw [← h6, Int.zero_mul]; exact Int.le_refl 0
        · rw [h5, Int.mul_zero]; exact Int.le_refl 0
      omega
    · exact g
  have trz : ∀ {p q r s x y : Int}, ux * (q - ay) = uy * (p - ax) → ux * (s - ay) = uy * (r - ax) → ux * (y - ay) = uy * (x - ax) → trI r s x y p q = 0 := fun {p q r s x y} g1 g2 g3 => by
    have k1 := gen g3 g2
    have k2 := gen g1 g2
    unfold trI
    have e : ux * ((x - r) * (q - s) - (y - s) * (p - r)) = 0 := by
      have e1 : ux * ((x - r) * (q - s) - (y - s) * (p - r)) = (x - r) * (ux * (q - s)) - (ux * (y - s)) * (p - r) := by grind
      rw [e1, k1, k2]; grind
    rcases Int.mul_eq_zero.mp e with h | h
    · exact absurd h hu
    · exact h
  have inx : ∀ {p q r s x y : Int}, ux * (q - ay) = uy * (p - ax) → ux * (s - ay) = uy * (r - ax) → ux * (y - ay) = uy * (x - ax) → (inI p q r s x y ↔ p ≠ r ∧ p ≠ x ∧ ((r ≤ p ∧ p ≤ x) ∨ (x ≤ p ∧ p ≤ r))) := fun {p q r s x y} g1 g2 g3 => by
    unfold inI
    rw [eqx (gen g1 g2), eqx (gen g1 g3), ← bw_iff]
    constructor
    · intro h; exact ⟨h.1, h.2.1, h.2.2.2.1⟩
    · intro h; exact ⟨h.1, h.2.1, trz g1 g2 g3, h.2.2, bwy (gen g1 g2) (gen g1 g3) h.2.2⟩
  have hab : ax ≠ bx := by omega
  have hcd1 : cx ≠ dx := fun e => hcd ((eqx (gen c1 c2)).mpr e)
  have hov : (ovI ax bx cx dx ∧ ovI ay by' cy dy ∧ (osI ax bx cx dx ∨ osI ay by' cy dy)) ↔ osI ax bx cx dx := by
    have q1 := gen c0 c1
    have q2 := gen c0 c2
    have q3 := gen c3 c1
    have q4 := gen c3 c2
    have q5 := gen c0 c3
    have q6 := gen c1 c2
    rcases Int.lt_trichotomy (ux * uy) 0 with y0 | y0 | y0
    · have r1 := mo_neg q1 y0; have r2 := mo_neg q2 y0; have r3 := mo_neg q3 y0; have r4 := mo_neg q4 y0; have r5 := mo_neg q5 y0; have r6 := mo_neg q6 y0
      have ev : ovI ay by' cy dy ↔ ovI ax bx cx dx := by
        unfold ovI
        simp only [r1.1, r1.2.1, r2.1, r2.2.1, r3.1, r3.2.1, r4.1, r4.2.1]
        constructor
        · intro h; obtain ⟨h1, h2⟩ := h; constructor <;> omega
        · intro h; obtain ⟨h1, h2⟩ := h; constructor <;> omega
      have es : osI ay by' cy dy ↔ osI ax bx cx dx := by
        unfold osI
        have n1 : ay ≠ by' ↔ ax ≠ bx := by have := r5.1; have := r5.2.1; omega
        have n2 : cy ≠ dy ↔ cx ≠ dx := by have := r6.1; have := r6.2.1; omega
        simp only [n1, n2, r1.2.2.1, r1.2.2.2, r2.2.2.1, r2.2.2.2, r3.2.2.1, r3.2.2.2, r4.2.2.1, r4.2.2.2]
        constructor
        · intro h; obtain ⟨⟨h1, h2⟩, h3, h4⟩ := h; refine ⟨⟨?_, ?_⟩, h3, h4⟩ <;> omega
        · intro h; obtain ⟨⟨h1, h2⟩, h3, h4⟩ := h; refine ⟨⟨?_, ?_⟩, h3, h4⟩ <;> omega
      rw [ev, es]
      exact os_ov
    · have hy0 : uy = 0 := by
        rcases Int.mul_eq_zero.mp y0 with h | h
        · exact absurd h hu
        · exact h
      have eqy : ∀ {p q r s : Int}, ux * (q - s) = uy * (p - r) → q = s := fun {p q r s} g => by
        rw [hy0, Int.zero_mul] at g
        rcases Int.mul_eq_zero.mp g with h | h
        · exact absurd h hu
        · omega
      have g1 := eqy q1
      have g2 := eqy q2
      have g3 := eqy q5
      have ev : ovI ay by' cy dy := by unfold ovI; omega
      have es : ¬ osI ay by' cy dy := fun h => h.2.1 g3
      constructor
      · intro h
        rcases h.2.2 with h9 | h9
        · exact h9
        · exact absurd h9 es
      · intro h; exact ⟨(os_ov.mpr h).1, ev, Or.inl h⟩
    · have r1 := mo_pos q1 y0; have r2 := mo_pos q2 y0; have r3 := mo_pos q3 y0; have r4 := mo_pos q4 y0; have r5 := mo_pos q5 y0; have r6 := mo_pos q6 y0
      have ev : ovI ay by' cy dy ↔ ovI ax bx cx dx := by
        unfold ovI
        simp only [r1.1, r1.2.1, r2.1, r2.2.1, r3.1, r3.2.1, r4.1, r4.2.1]
      have es : osI ay by' cy dy ↔ osI ax bx cx dx := by
        unfold osI
        have n1 : ay ≠ by' ↔ ax ≠ bx := by have := r5.1; have := r5.2.1; omega
        have n2 : cy ≠ dy ↔ cx ≠ dx := by have := r6.1; have := r6.2.1; omega
        simp only [n1, n2, r1.2.2.1, r1.2.2.2, r2.2.2.1, r2.2.2.2, r3.2.2.1, r3.2.2.2, r4.2.2.1, r4.2.2.2]
      rw [ev, es]
      exact os_ov
  rw [hov]
  have i1 := inx c0 c1 c2
  have i2 := inx c3 c1 c2
  have i3 := inx c1 c0 c3
  have i4 := inx c2 c0 c3
  rw [eqx (gen c0 c1), eqx (gen c3 c2), eqx (gen c0 c2), eqx (gen c3 c1), i1, i2, i3, i4]
  constructor
  · intro h
    refine ⟨?_, hab, hcd1⟩
    rcases h with h | h | h | h | h | h | h
    · constructor <;> omega
    · constructor <;> omega
    · constructor <;> omega
    · constructor <;> omega
    · constructor <;> omega
    · constructor <;> omega
    · exact absurd h hap
  · intro h
    rcases one_d hab hcd1 h.1 with g | g | g | g | g | g
    · exact Or.inl g
    · exact Or.inr (Or.inl g)
    · exact Or.inr (Or.inr (Or.inl g))
    · exact Or.inr (Or.inr (Or.inr (Or.inl g)))
    · exact Or.inr (Or.inr (Or.inr (Or.inr (Or.inl g))))
    · exact Or.inr (Or.inr (Or.inr (Or.inr (Or.inr (Or.inl g)))))
