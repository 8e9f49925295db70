theorem vup_eq {α : Type} {f : Nat → α} {k : Nat} {v : α} : va_up f k v k = v := if_pos rfl
theorem vup_ne {α : Type} {f : Nat → α} {j k : Nat} {v : α} (h : j ≠ k) : va_up f k v j = f j := if_neg h
theorem ok_weak {Γ : Cx} {f : Md} {d b pc : Nat} {L L' : List (Option Value)} {st : List Value} {G : Wd} {Q : Option Value → Wd → Prop} (h : ∀ (i : Nat) (v : Value), L'[i]? = some (some v) → L[i]? = some (some v)) (k : Ok Γ f d b pc L' st G Q) : Ok Γ f d b pc L st G Q :=
  fun p e s m args below meth c F H locs cells slots bb h1 h2 hH hS ls hls => k p e s m args below meth c F H locs cells slots bb h1 h2 hH hS ls ⟨hls.1, hls.2.1, fun i v hi => hls.2.2 i v (h i v hi)⟩
theorem drop_at (A : List (Option Value)) (o : Option Value) (T : List (Option Value)) : ∀ (i : Nat) (v : Value), (A ++ none :: T)[i]? = some (some v) → (A ++ o :: T)[i]? = some (some v) := by
  intro i v h
  rcases Nat.lt_trichotomy i A.length with g | g | g
  · rw [List.getElem?_append_left g] at h ⊢; exact h
  · subst g
    rw [List.getElem?_append_right (Nat.le_refl _)] at h
    simp at h
  · rw [List.getElem?_append_right (by omega)] at h ⊢
    obtain ⟨k, hk⟩ : ∃ k, i - A.length = k + 1 := ⟨i - A.length - 1, by omega⟩
    rw [hk] at h ⊢
    simpa using h
theorem tab_out {x : Int32} (lo : Int) (k : Nat) (h1 : -2147483648 ≤ lo) (h2 : lo + k ≤ 2147483648) (h : ∀ j : Nat, j < k → x ≠ Int32.ofInt (lo + j)) : x.toInt < lo ∨ lo + (k : Int) - 1 < x.toInt := by
  rcases Int.lt_or_le x.toInt lo with g | g
  · exact Or.inl g
  · rcases Int.lt_or_le (lo + (k : Int) - 1) x.toInt with g' | g'
    · exact Or.inr g'
    · exfalso
      have hj := h (x.toInt - lo).toNat (by omega)
      apply hj
      have e : lo + ((x.toInt - lo).toNat : Int) = x.toInt := by omega
      rw [e]
      exact (Int32.ofInt_toInt x).symm
theorem idx_lo {c lo : Int32} {n : Nat} (hlo : lo.toInt = (n : Int)) (k : Nat) (hk : k < 1000) (hn : n < 1000000) (h1 : lo ≤ c) (h2 : c < lo + nI k) : c - lo = nI (c - lo).toNatClampNeg ∧ (c - lo).toNatClampNeg < k := by
  have a1 := Int32.le_iff_toInt_le.mp h1
  have a2 := Int32.lt_iff_toInt_lt.mp h2
  have ek : (nI k).toInt = (k : Int) := nI_toInt (by omega)
  have e2 : (lo + nI k).toInt = (n : Int) + k := by
    rw [Int32.toInt_add, hlo, ek]
    exact Int.bmod_eq_of_le (by omega) (by omega)
  rw [e2] at a2
  have e3 : (c - lo).toInt = c.toInt - n := by
    rw [Int32.toInt_sub, hlo]
    exact Int.bmod_eq_of_le (by omega) (by omega)
  have e4 : ((c - lo).toNatClampNeg : Int) = c.toInt - n := by
    show (((c - lo).toInt.toNat : Nat) : Int) = _
    rw [e3]; omega
  refine ⟨?_, by omega⟩
  apply Int32.toInt_inj.mp
  rw [nI_toInt (by omega), e3, e4]
section Drops
variable {Γ : Cx} {f : Md} {d b pc : Nat} {st : List Value} {G : Wd} {Q : Option Value → Wd → Prop}
theorem ok_drop0 {o : Option Value} {t : List (Option Value)} (k : Ok Γ f d b pc (none :: t) st G Q) : Ok Γ f d b pc (o :: t) st G Q := ok_weak (drop_at [] o t) k
theorem ok_drop1 {a0 o : Option Value} {t : List (Option Value)} (k : Ok Γ f d b pc (a0 :: none :: t) st G Q) : Ok Γ f d b pc (a0 :: o :: t) st G Q := ok_weak (drop_at [a0] o t) k
theorem ok_drop2 {a0 a1 o : Option Value} {t : List (Option Value)} (k : Ok Γ f d b pc (a0 :: a1 :: none :: t) st G Q) : Ok Γ f d b pc (a0 :: a1 :: o :: t) st G Q := ok_weak (drop_at [a0, a1] o t) k
theorem ok_drop3 {a0 a1 a2 o : Option Value} {t : List (Option Value)} (k : Ok Γ f d b pc (a0 :: a1 :: a2 :: none :: t) st G Q) : Ok Γ f d b pc (a0 :: a1 :: a2 :: o :: t) st G Q := ok_weak (drop_at [a0, a1, a2] o t) k
theorem ok_drop4 {a0 a1 a2 a3 o : Option Value} {t : List (Option Value)} (k : Ok Γ f d b pc (a0 :: a1 :: a2 :: a3 :: none :: t) st G Q) : Ok Γ f d b pc (a0 :: a1 :: a2 :: a3 :: o :: t) st G Q := ok_weak (drop_at [a0, a1, a2, a3] o t) k
theorem ok_drop5 {a0 a1 a2 a3 a4 o : Option Value} {t : List (Option Value)} (k : Ok Γ f d b pc (a0 :: a1 :: a2 :: a3 :: a4 :: none :: t) st G Q) : Ok Γ f d b pc (a0 :: a1 :: a2 :: a3 :: a4 :: o :: t) st G Q := ok_weak (drop_at [a0, a1, a2, a3, a4] o t) k
theorem ok_drop6 {a0 a1 a2 a3 a4 a5 o : Option Value} {t : List (Option Value)} (k : Ok Γ f d b pc (a0 :: a1 :: a2 :: a3 :: a4 :: a5 :: none :: t) st G Q) : Ok Γ f d b pc (a0 :: a1 :: a2 :: a3 :: a4 :: a5 :: o :: t) st G Q := ok_weak (drop_at [a0, a1, a2, a3, a4, a5] o t) k
theorem ok_drop7 {a0 a1 a2 a3 a4 a5 a6 o : Option Value} {t : List (Option Value)} (k : Ok Γ f d b pc (a0 :: a1 :: a2 :: a3 :: a4 :: a5 :: a6 :: none :: t) st G Q) : Ok Γ f d b pc (a0 :: a1 :: a2 :: a3 :: a4 :: a5 :: a6 :: o :: t) st G Q := ok_weak (drop_at [a0, a1, a2, a3, a4, a5, a6] o t) k
theorem ok_drop8 {a0 a1 a2 a3 a4 a5 a6 a7 o : Option Value} {t : List (Option Value)} (k : Ok Γ f d b pc (a0 :: a1 :: a2 :: a3 :: a4 :: a5 :: a6 :: a7 :: none :: t) st G Q) : Ok Γ f d b pc (a0 :: a1 :: a2 :: a3 :: a4 :: a5 :: a6 :: a7 :: o :: t) st G Q := ok_weak (drop_at [a0, a1, a2, a3, a4, a5, a6, a7] o t) k
theorem ok_drop9 {a0 a1 a2 a3 a4 a5 a6 a7 a8 o : Option Value} {t : List (Option Value)} (k : Ok Γ f d b pc (a0 :: a1 :: a2 :: a3 :: a4 :: a5 :: a6 :: a7 :: a8 :: none :: t) st G Q) : Ok Γ f d b pc (a0 :: a1 :: a2 :: a3 :: a4 :: a5 :: a6 :: a7 :: a8 :: o :: t) st G Q := ok_weak (drop_at [a0, a1, a2, a3, a4, a5, a6, a7, a8] o t) k
theorem ok_drop10 {a0 a1 a2 a3 a4 a5 a6 a7 a8 a9 o : Option Value} {t : List (Option Value)} (k : Ok Γ f d b pc (a0 :: a1 :: a2 :: a3 :: a4 :: a5 :: a6 :: a7 :: a8 :: a9 :: none :: t) st G Q) : Ok Γ f d b pc (a0 :: a1 :: a2 :: a3 :: a4 :: a5 :: a6 :: a7 :: a8 :: a9 :: o :: t) st G Q := ok_weak (drop_at [a0, a1, a2, a3, a4, a5, a6, a7, a8, a9] o t) k
theorem ok_drop11 {a0 a1 a2 a3 a4 a5 a6 a7 a8 a9 a10 o : Option Value} {t : List (Option Value)} (k : Ok Γ f d b pc (a0 :: a1 :: a2 :: a3 :: a4 :: a5 :: a6 :: a7 :: a8 :: a9 :: a10 :: none :: t) st G Q) : Ok Γ f d b pc (a0 :: a1 :: a2 :: a3 :: a4 :: a5 :: a6 :: a7 :: a8 :: a9 :: a10 :: o :: t) st G Q := ok_weak (drop_at [a0, a1, a2, a3, a4, a5, a6, a7, a8, a9, a10] o t) k
theorem ok_drop12 {a0 a1 a2 a3 a4 a5 a6 a7 a8 a9 a10 a11 o : Option Value} {t : List (Option Value)} (k : Ok Γ f d b pc (a0 :: a1 :: a2 :: a3 :: a4 :: a5 :: a6 :: a7 :: a8 :: a9 :: a10 :: a11 :: none :: t) st G Q) : Ok Γ f d b pc (a0 :: a1 :: a2 :: a3 :: a4 :: a5 :: a6 :: a7 :: a8 :: a9 :: a10 :: a11 :: o :: t) st G Q := ok_weak (drop_at [a0, a1, a2, a3, a4, a5, a6, a7, a8, a9, a10, a11] o t) k
theorem ok_drop13 {a0 a1 a2 a3 a4 a5 a6 a7 a8 a9 a10 a11 a12 o : Option Value} {t : List (Option Value)} (k : Ok Γ f d b pc (a0 :: a1 :: a2 :: a3 :: a4 :: a5 :: a6 :: a7 :: a8 :: a9 :: a10 :: a11 :: a12 :: none :: t) st G Q) : Ok Γ f d b pc (a0 :: a1 :: a2 :: a3 :: a4 :: a5 :: a6 :: a7 :: a8 :: a9 :: a10 :: a11 :: a12 :: o :: t) st G Q := ok_weak (drop_at [a0, a1, a2, a3, a4, a5, a6, a7, a8, a9, a10, a11, a12] o t) k
theorem ok_drop14 {a0 a1 a2 a3 a4 a5 a6 a7 a8 a9 a10 a11 a12 a13 o : Option Value} {t : List (Option Value)} (k : Ok Γ f d b pc (a0 :: a1 :: a2 :: a3 :: a4 :: a5 :: a6 :: a7 :: a8 :: a9 :: a10 :: a11 :: a12 :: a13 :: none :: t) st G Q) : Ok Γ f d b pc (a0 :: a1 :: a2 :: a3 :: a4 :: a5 :: a6 :: a7 :: a8 :: a9 :: a10 :: a11 :: a12 :: a13 :: o :: t) st G Q := ok_weak (drop_at [a0, a1, a2, a3, a4, a5, a6, a7, a8, a9, a10, a11, a12, a13] o t) k
end Drops
