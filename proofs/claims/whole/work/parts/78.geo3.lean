def inF (σ : Rw) (h x y : Nat) : Bool := !(decide (h = x)) && !(decide (h = y)) && decide (turnF σ x y h = 0) && decide ((hx σ h - hx σ x) * (hx σ h - hx σ y) ≤ 0) && decide ((hy σ h - hy σ x) * (hy σ h - hy σ y) ≤ 0)
def apF (s t : Int32) : Bool := (decide (s < 0) && decide (0 < t)) || (decide (0 < s) && decide (t < 0))
def lmF (σ : Rw) (a b c d : Nat) : Bool := (decide (a = c) && decide (b = d)) || (decide (a = d) && decide (b = c)) || inF σ a c d || inF σ b c d || inF σ c a b || inF σ d a b || (apF (turnF σ a b c) (turnF σ a b d) && apF (turnF σ c d a) (turnF σ c d b))
theorem sm_sub {x y : Int32} (h1 : 0 ≤ x.toInt ∧ x.toInt ≤ 15) (h2 : 0 ≤ y.toInt ∧ y.toInt ≤ 15) : (x - y).toInt = x.toInt - y.toInt := by
  rw [Int32.toInt_sub]
  exact Int.bmod_eq_of_le (by omega) (by omega)
theorem sm_pr {a b : Int} (h1 : -15 ≤ a ∧ a ≤ 15) (h2 : -15 ≤ b ∧ b ≤ 15) : -225 ≤ a * b ∧ a * b ≤ 225 := by
  have e : (a * b).natAbs = a.natAbs * b.natAbs := Int.natAbs_mul a b
  have e2 : a.natAbs * b.natAbs ≤ 15 * 15 := Nat.mul_le_mul (by omega) (by omega)
  omega
theorem sm_mul {x y : Int32} (h1 : -15 ≤ x.toInt ∧ x.toInt ≤ 15) (h2 : -15 ≤ y.toInt ∧ y.toInt ≤ 15) : (x * y).toInt = x.toInt * y.toInt := by
  have := sm_pr h1 h2
  rw [Int32.toInt_mul]
  exact Int.bmod_eq_of_le (by omega) (by omega)
def xJ (σ : Rw) (h : Nat) : Int := (hx σ h).toInt
def yJ (σ : Rw) (h : Nat) : Int := (hy σ h).toInt
theorem xy_in {σ : Rw} (iH : InvH σ) {h : Nat} (hh : h < cH σ) : (0 ≤ xJ σ h ∧ xJ σ h ≤ 15) ∧ (0 ≤ yJ σ h ∧ yJ σ h ≤ 15) ∧ (σ (9 + 2 * h)).toInt = 16 * xJ σ h + yJ σ h := by
  obtain ⟨⟨g1, g2⟩, -, -⟩ := iH h hh
  obtain ⟨n, hn, en⟩ := nI_of2 (M := 255) (n := 255) rfl (Int32.not_lt.mpr g1) g2
  unfold xJ yJ hx hy
  rw [en]
  have e1 : nI n / 16 = nI (n / 16) := pk_div (by omega) (by decide) (by decide)
  have e2 : jrem (nI n) 16 = nI (n % 16) := pk_rem (by omega) (by decide) (by decide)
  rw [e1, e2, nI_toInt (by omega), nI_toInt (by omega), nI_toInt (by omega)]
  omega
theorem pos_eq {σ : Rw} (iH : InvH σ) {g h : Nat} (hg : g < cH σ) (hh : h < cH σ) : g = h ↔ (xJ σ g = xJ σ h ∧ yJ σ g = yJ σ h) := by
  constructor
  · intro e; subst e; exact ⟨rfl, rfl⟩
  · intro e
    obtain ⟨-, -, e1⟩ := xy_in iH hg
    obtain ⟨-, -, e2⟩ := xy_in iH hh
    exact (iH h hh).2.2 g hg (Int32.toInt_inj.mp (by rw [e1, e2, e.1, e.2]))
theorem turn_I {σ : Rw} (iH : InvH σ) {a b c : Nat} (ha : a < cH σ) (hb : b < cH σ) (hc : c < cH σ) : (turnF σ a b c).toInt = trI (xJ σ a) (yJ σ a) (xJ σ b) (yJ σ b) (xJ σ c) (yJ σ c) := by
  obtain ⟨a1, a2, -⟩ := xy_in iH ha
  obtain ⟨b1, b2, -⟩ := xy_in iH hb
  obtain ⟨c1, c2, -⟩ := xy_in iH hc
  unfold turnF trI
  have d1 := sm_sub (x := hx σ b) (y := hx σ a) b1 a1
  have d2 := sm_sub (x := hy σ c) (y := hy σ a) c2 a2
  have d3 := sm_sub (x := hy σ b) (y := hy σ a) b2 a2
  have d4 := sm_sub (x := hx σ c) (y := hx σ a) c1 a1
  have f1 : (hx σ b).toInt = xJ σ b := rfl
  have f2 : (hx σ a).toInt = xJ σ a := rfl
  have f3 : (hx σ c).toInt = xJ σ c := rfl
  have f4 : (hy σ b).toInt = yJ σ b := rfl
  have f5 : (hy σ a).toInt = yJ σ a := rfl
  have f6 : (hy σ c).toInt = yJ σ c := rfl
  rw [f1, f2] at d1
  rw [f6, f5] at d2
  rw [f4, f5] at d3
  rw [f3, f2] at d4
  have m1 := sm_mul (x := hx σ b - hx σ a) (y := hy σ c - hy σ a) (by omega) (by omega)
  have m2 := sm_mul (x := hy σ b - hy σ a) (y := hx σ c - hx σ a) (by omega) (by omega)
  rw [d1, d2] at m1
  rw [d3, d4] at m2
  have p1 := sm_pr (a := xJ σ b - xJ σ a) (b := yJ σ c - yJ σ a) (by omega) (by omega)
  have p2 := sm_pr (a := yJ σ b - yJ σ a) (b := xJ σ c - xJ σ a) (by omega) (by omega)
  rw [Int32.toInt_sub, m1, m2]
  exact Int.bmod_eq_of_le (by omega) (by omega)
theorem bw_I {x y v : Int32} (h1 : 0 ≤ x.toInt ∧ x.toInt ≤ 15) (h2 : 0 ≤ y.toInt ∧ y.toInt ≤ 15) (h3 : 0 ≤ v.toInt ∧ v.toInt ≤ 15) : (x - y) * (x - v) ≤ 0 ↔ bwI x.toInt y.toInt v.toInt := by
  have d1 := sm_sub h1 h2
  have d2 := sm_sub h1 h3
  rw [Int32.le_iff_toInt_le, sm_mul (by omega) (by omega), d1, d2]
  exact Iff.rfl
theorem z_I {x : Int32} : x = 0 ↔ x.toInt = 0 := by rw [← Int32.toInt_inj]; exact Iff.rfl
theorem in_iff {σ : Rw} (iH : InvH σ) {h x y : Nat} (hh : h < cH σ) (hx9 : x < cH σ) (hy9 : y < cH σ) : inF σ h x y = true ↔ inI (xJ σ h) (yJ σ h) (xJ σ x) (yJ σ x) (xJ σ y) (yJ σ y) := by
  obtain ⟨a1, a2, -⟩ := xy_in iH hh
  obtain ⟨b1, b2, -⟩ := xy_in iH hx9
  obtain ⟨c1, c2, -⟩ := xy_in iH hy9
  unfold inF inI
  simp only [Bool.and_eq_true, Bool.not_eq_true', decide_eq_false_iff_not, decide_eq_true_eq]
  rw [pos_eq iH hh hx9, pos_eq iH hh hy9, z_I, turn_I iH hx9 hy9 hh, bw_I a1 b1 c1, bw_I a2 b2 c2]
  constructor
  · intro g; exact ⟨g.1.1.1.1, g.1.1.1.2, g.1.1.2, g.1.2, g.2⟩
  · intro g; exact ⟨⟨⟨⟨g.1, g.2.1⟩, g.2.2.1⟩, g.2.2.2.1⟩, g.2.2.2.2⟩
theorem ap_iff {s t : Int32} : apF s t = true ↔ apI s.toInt t.toInt := by
  unfold apF apI
  simp only [Bool.or_eq_true, Bool.and_eq_true, decide_eq_true_eq, Int32.lt_iff_toInt_lt]
  exact Iff.rfl
theorem lm_iff {σ : Rw} (iH : InvH σ) {a b c d : Nat} (ha : a < cH σ) (hb : b < cH σ) (hc : c < cH σ) (hd : d < cH σ) : lmF σ a b c d = true ↔ LI (xJ σ a) (yJ σ a) (xJ σ b) (yJ σ b) (xJ σ c) (yJ σ c) (xJ σ d) (yJ σ d) := by
  unfold lmF LI
  simp only [Bool.or_eq_true, Bool.and_eq_true, decide_eq_true_eq]
  rw [pos_eq iH ha hc, pos_eq iH hb hd, pos_eq iH ha hd, pos_eq iH hb hc, in_iff iH ha hc hd, in_iff iH hb hc hd, in_iff iH hc ha hb, in_iff iH hd ha hb, ap_iff, ap_iff, turn_I iH ha hb hc, turn_I iH ha hb hd, turn_I iH hc hd ha, turn_I iH hc hd hb]
  simp only [or_assoc]
theorem jmax_I (x y : Int32) : (jmax x y).toInt = if x.toInt < y.toInt then y.toInt else x.toInt := by
  unfold jmax
  by_cases h : x < y
  · rw [if_pos h, if_pos (Int32.lt_iff_toInt_lt.mp h)]
  · rw [if_neg h, if_neg (fun g => h (Int32.lt_iff_toInt_lt.mpr g))]
theorem jmin_I (x y : Int32) : (jmin x y).toInt = if y.toInt < x.toInt then y.toInt else x.toInt := by
  unfold jmin
  by_cases h : y < x
  · rw [if_pos h, if_pos (Int32.lt_iff_toInt_lt.mp h)]
  · rw [if_neg h, if_neg (fun g => h (Int32.lt_iff_toInt_lt.mpr g))]
theorem mm_le (a b c d : Int) : (if (if b < a then b else a) < (if d < c then d else c) then (if d < c then d else c) else (if b < a then b else a)) ≤ (if (if c < d then d else c) < (if a < b then b else a) then (if c < d then d else c) else (if a < b then b else a)) ↔ ovI a b c d := by
  unfold ovI
  by_cases h1 : a < b
  · rw [if_neg (by omega : ¬ b < a), if_pos h1]
    by_cases h2 : c < d
    · rw [if_neg (by omega : ¬ d < c), if_pos h2]
      split <;> split <;> omega
    · rw [if_neg h2]
      by_cases h3 : d < c
      · rw [if_pos h3]; split <;> split <;> omega
      · rw [if_neg h3]; split <;> split <;> omega
  · rw [if_neg h1]
    by_cases h4 : b < a
    · rw [if_pos h4]
      by_cases h2 : c < d
      · rw [if_neg (by omega : ¬ d < c), if_pos h2]
        split <;> split <;> omega
      · rw [if_neg h2]
        by_cases h3 : d < c
        · rw [if_pos h3]; split <;> split <;> omega
        · rw [if_neg h3]; split <;> split <;> omega
    · rw [if_neg h4]
      by_cases h2 : c < d
      · rw [if_neg (by omega : ¬ d < c), if_pos h2]
        split <;> split <;> omega
      · rw [if_neg h2]
        by_cases h3 : d < c
        · rw [if_pos h3]; split <;> split <;> omega
        · rw [if_neg h3]; split <;> split <;> omega
theorem mm_lt (a b c d : Int) : (if (if b < a then b else a) < (if d < c then d else c) then (if d < c then d else c) else (if b < a then b else a)) < (if (if c < d then d else c) < (if a < b then b else a) then (if c < d then d else c) else (if a < b then b else a)) ↔ osI a b c d := by
  unfold osI
  by_cases h1 : a < b
  · rw [if_neg (by omega : ¬ b < a), if_pos h1]
    by_cases h2 : c < d
    · rw [if_neg (by omega : ¬ d < c), if_pos h2]
      split <;> split <;> omega
    · rw [if_neg h2]
      by_cases h3 : d < c
      · rw [if_pos h3]; split <;> split <;> omega
      · rw [if_neg h3]; split <;> split <;> omega
  · rw [if_neg h1]
    by_cases h4 : b < a
    · rw [if_pos h4]
      by_cases h2 : c < d
      · rw [if_neg (by omega : ¬ d < c), if_pos h2]
        split <;> split <;> omega
      · rw [if_neg h2]
        by_cases h3 : d < c
        · rw [if_pos h3]; split <;> split <;> omega
        · rw [if_neg h3]; split <;> split <;> omega
    · rw [if_neg h4]
      by_cases h2 : c < d
      · rw [if_neg (by omega : ¬ d < c), if_pos h2]
        split <;> split <;> omega
      · rw [if_neg h2]
        by_cases h3 : d < c
        · rw [if_pos h3]; split <;> split <;> omega
        · rw [if_neg h3]; split <;> split <;> omega
theorem ovl_le (a b c d : Int32) : jmax (jmin a b) (jmin c d) ≤ jmin (jmax a b) (jmax c d) ↔ ovI a.toInt b.toInt c.toInt d.toInt := by
  rw [Int32.le_iff_toInt_le]
  simp only [jmax_I, jmin_I]
  exact mm_le _ _ _ _
theorem ovl_lt (a b c d : Int32) : jmax (jmin a b) (jmin c d) < jmin (jmax a b) (jmax c d) ↔ osI a.toInt b.toInt c.toInt d.toInt := by
  rw [Int32.lt_iff_toInt_lt]
  simp only [jmax_I, jmin_I]
  exact mm_lt _ _ _ _
theorem ovl_iff {σ : Rw} {a b c d : Nat} : ovlF σ a b c d = true ↔ (ovI (xJ σ a) (xJ σ b) (xJ σ c) (xJ σ d) ∧ ovI (yJ σ a) (yJ σ b) (yJ σ c) (yJ σ d) ∧ (osI (xJ σ a) (xJ σ b) (xJ σ c) (xJ σ d) ∨ osI (yJ σ a) (yJ σ b) (yJ σ c) (yJ σ d))) := by
  unfold ovlF
  simp only [Bool.or_eq_true, Bool.and_eq_true, decide_eq_true_eq, ovl_le, ovl_lt]
  constructor
  · intro g; exact ⟨g.1.1, g.1.2, g.2⟩
  · intro g; exact ⟨⟨g.1, g.2.1⟩, g.2.2⟩
theorem sg_z {t : Int32} : sgF t = 0 ↔ t.toInt = 0 := by
  unfold sgF
  by_cases h : 0 < t
  · rw [if_pos h]
    have := Int32.lt_iff_toInt_lt.mp h
    have e : (0 : Int32).toInt = 0 := rfl
    rw [e] at this
    constructor
    · intro g; exact absurd g (by decide)
    · intro g; omega
  · rw [if_neg h]
    by_cases h2 : t < 0
    · rw [if_pos h2]
      have := Int32.lt_iff_toInt_lt.mp h2
      have e : (0 : Int32).toInt = 0 := rfl
      rw [e] at this
      constructor
      · intro g; exact absurd g (by decide)
      · intro g; omega
    · rw [if_neg h2]
      have h3 := Int32.le_iff_toInt_le.mp (Int32.not_lt.mp h)
      have h4 := Int32.le_iff_toInt_le.mp (Int32.not_lt.mp h2)
      have e : (0 : Int32).toInt = 0 := rfl
      rw [e] at h3 h4
      constructor
      · intro _; omega
      · intro _; rfl
theorem sg_p {s t : Int32} : 0 < sgF s * sgF t ↔ 0 < s.toInt * t.toInt := by
  have tri : ∀ x : Int32, (sgF x = 1 ∧ 0 < x.toInt) ∨ (sgF x = -1 ∧ x.toInt < 0) ∨ (sgF x = 0 ∧ x.toInt = 0) := fun x => by
    have e : (0 : Int32).toInt = 0 := rfl
    rcases Int.lt_trichotomy x.toInt 0 with h | h | h
    · right; left
      refine ⟨?_, h⟩
      unfold sgF
      rw [if_neg (fun g => by have := Int32.lt_iff_toInt_lt.mp g; rw [e] at this; omega), if_pos (Int32.lt_iff_toInt_lt.mpr (by rw [e]; exact h))]
    · right; right; exact ⟨sg_z.mpr h, h⟩
    · left
      refine ⟨?_, h⟩
      unfold sgF
      rw [if_pos (Int32.lt_iff_toInt_lt.mpr (by rw [e]; exact h))]
  rcases tri s with ⟨e1, h1⟩ | ⟨e1, h1⟩ | ⟨e1, h1⟩ <;> rcases tri t with ⟨e2, h2⟩ | ⟨e2, h2⟩ | ⟨e2, h2⟩ <;> rw [e1, e2]
  · exact ⟨fun _ => Int.mul_pos h1 h2, fun _ => by decide⟩
  · exact ⟨fun g => absurd g (by decide), fun g => by have := Int.mul_neg_of_pos_of_neg h1 h2; omega⟩
  · rw [h2, Int.mul_zero]; exact ⟨fun g => absurd g (by decide), fun g => absurd g (by decide)⟩
  · exact ⟨fun g => absurd g (by decide), fun g => by have := Int.mul_neg_of_neg_of_pos h1 h2; omega⟩
  · exact ⟨fun _ => Int.mul_pos_of_neg_of_neg h1 h2, fun _ => by decide⟩
  · rw [h2, Int.mul_zero]; exact ⟨fun g => absurd g (by decide), fun g => absurd g (by decide)⟩
  · rw [h1, Int.zero_mul]; exact ⟨fun g => absurd g (by decide), fun g => absurd g (by decide)⟩
  · rw [h1, Int.zero_mul]; exact ⟨fun g => absurd g (by decide), fun g => absurd g (by decide)⟩
  · rw [h1, Int.zero_mul]; exact ⟨fun g => absurd g (by decide), fun g => absurd g (by decide)⟩
/-- both ways agree -/
theorem lm_eq {σ : Rw} (iH : InvH σ) {a b c d : Nat} (ha : a < cH σ) (hb : b < cH σ) (hc : c < cH σ) (hd : d < cH σ) (hab : a ≠ b) (hcd : c ≠ d) : lmF σ a b c d = hmrF σ a b c d := by
  have pab : ¬ (xJ σ a = xJ σ b ∧ yJ σ a = yJ σ b) := fun e => hab ((pos_eq iH ha hb).mpr e)
  have pcd : ¬ (xJ σ c = xJ σ d ∧ yJ σ c = yJ σ d) := fun e => hcd ((pos_eq iH hc hd).mpr e)
  rw [Bool.eq_iff_iff, lm_iff iH ha hb hc hd]
  unfold hmrF
  by_cases hz : sgF (turnF σ a b c) = 0 ∧ sgF (turnF σ a b d) = 0
  · rw [if_pos hz, ovl_iff]
    rw [sg_z, sg_z, turn_I iH ha hb hc, turn_I iH ha hb hd] at hz
    exact geo_1 pab pcd hz.1 hz.2
  · rw [if_neg hz]
    rw [sg_z, sg_z, turn_I iH ha hb hc, turn_I iH ha hb hd] at hz
    by_cases hs : a = c ∨ a = d ∨ b = c ∨ b = d
    · rw [if_pos hs]
      rw [pos_eq iH ha hc, pos_eq iH ha hd, pos_eq iH hb hc, pos_eq iH hb hd] at hs
      exact ⟨fun h => absurd h (geo_3 pab pcd hs hz), fun h => absurd h (by decide)⟩
    · rw [if_neg hs]
      rw [pos_eq iH ha hc, pos_eq iH ha hd, pos_eq iH hb hc, pos_eq iH hb hd] at hs
      rw [geo_2 pab pcd (fun e => hs (Or.inl e)) (fun e => hs (Or.inr (Or.inl e))) (fun e => hs (Or.inr (Or.inr (Or.inl e)))) (fun e => hs (Or.inr (Or.inr (Or.inr e)))) hz]
      simp only [Bool.not_eq_true', Bool.or_eq_false_iff, decide_eq_false_iff_not, sg_p]
      rw [turn_I iH ha hb hc, turn_I iH ha hb hd, turn_I iH hc hd ha, turn_I iH hc hd hb, Int.not_lt, Int.not_lt]
