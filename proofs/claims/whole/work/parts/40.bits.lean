/-! sets as bits of small numbers -/
theorem sh_l : ∀ n, n < 32 → ((nI n &&& 31).toBitVec.smod 32).toNat = n := by decide +kernel
theorem jshr_n {A k : Nat} (hA : A < 2 ^ 31) (hk : k < 32) : jshr (nI A) (nI k) = nI (A / 2 ^ k) := pk_shrN hA _ k (sh_l k hk)
theorem jshl_1 {k : Nat} (hk : k < 32) : jshl 1 (nI k) = nI (2 ^ k) := by
  have h := pk_shlN (n := 1) (nI k &&& 31) k (sh_l k hk) (by rw [Nat.one_mul]; exact Nat.pow_lt_pow_right (by decide) hk)
  rw [Nat.one_mul] at h
  exact h
theorem and_1 {A : Nat} (hA : A < 2 ^ 31) : (nI A &&& 1 = 1) ↔ A % 2 = 1 := by
  rw [fa_lit 1, fa_and, nI_eq (by exact Nat.lt_of_le_of_lt Nat.and_le_left hA) (by decide), Nat.and_one_is_mod]
theorem hb_iff {A k : Nat} (hA : A < 2 ^ 31) (hk : k < 32) : (jshr (nI A) (nI k) &&& 1 = 1) ↔ A.testBit k = true := by
  rw [jshr_n hA hk, and_1 (Nat.lt_of_le_of_lt (Nat.div_le_self _ _) hA), Nat.testBit_eq_decide_div_mod_eq]
  simp
theorem hb_dec {A k : Nat} (hA : A < 2 ^ 31) (hk : k < 32) : decide (jshr (nI A) (nI k) &&& 1 = 1) = A.testBit k := by
  by_cases h : A.testBit k = true
  · rw [h]; exact decide_eq_true ((hb_iff hA hk).mpr h)
  · rw [Bool.eq_false_iff.mpr h]; exact decide_eq_false (fun g => h ((hb_iff hA hk).mp g))
/-- the other way to ask: and 1 isn't 0 -/
theorem hb_ne {A k : Nat} (hA : A < 2 ^ 31) (hk : k < 32) : (jshr (nI A) (nI k) &&& 1 = 0) ↔ A.testBit k = false := by
  have h2 : A / 2 ^ k < 2 ^ 31 := Nat.lt_of_le_of_lt (Nat.div_le_self _ _) hA
  rw [jshr_n hA hk, fa_lit 1, fa_and, show (0 : Int32) = nI 0 from rfl, nI_eq (Nat.lt_of_le_of_lt Nat.and_le_left h2) (by decide), Nat.and_one_is_mod, Nat.testBit_eq_decide_div_mod_eq]
  simp
def clrN (A k : Nat) : Nat := A &&& (2 ^ k ^^^ 4294967295)
theorem m1_n : (-1 : Int32) = nI 4294967295 := by decide
theorem clr_n {A k : Nat} : nI A &&& (nI (2 ^ k) ^^^ (-1)) = nI (clrN A k) := by rw [m1_n, fb_xorI, fa_and]; rfl
theorem ones_bit {i : Nat} (hi : i < 32) : (4294967295 : Nat).testBit i = true := by
  have h : (4294967295 : Nat) = 2 ^ 32 - 1 := by decide
  rw [h, Nat.testBit_two_pow_sub_one]
  exact decide_eq_true hi
theorem clr_bit {A k i : Nat} (hi : i < 32) : (clrN A k).testBit i = (A.testBit i && !(decide (i = k))) := by
  unfold clrN
  rw [Nat.testBit_and, Nat.testBit_xor, ones_bit hi, Nat.testBit_two_pow]
  by_cases h : i = k
  · subst h; simp
  · simp [h, Ne.symm h]
theorem clr_le {A k : Nat} : clrN A k ≤ A := Nat.and_le_left
theorem bits_0 {A n : Nat} (hA : A < 2 ^ n) (h : ∀ i, i < n → A.testBit i = false) : A = 0 := by
  apply Nat.eq_of_testBit_eq
  intro i
  rw [Nat.zero_testBit]
  rcases Nat.lt_or_ge i n with g | g
  · exact h i g
  · exact Nat.testBit_lt_two_pow (Nat.lt_of_lt_of_le hA (Nat.pow_le_pow_right (by decide) g))
def bcN (A : Nat) : Nat := fb_ct (fun i => A.testBit i) 16
theorem bc_clr {A k : Nat} (hk : k < 16) (h : A.testBit k = true) : bcN (clrN A k) + 1 = bcN A := by
  have h1 := fb_ct_upd (fun i => A.testBit i) false (i := k) (n := 16) hk
  have h2 : fb_ct (fun i => if i = k then false else A.testBit i) 16 = bcN (clrN A k) := by
    apply fb_ct_cong
    intro i hi
    rw [clr_bit (by omega)]
    by_cases g : i = k
    · simp [g]
    · simp [g]
  rw [h2] at h1
  simp [h] at h1
  exact h1
theorem bc_0 {A : Nat} (hA : A < 2 ^ 16) (h : bcN A = 0) : A = 0 := bits_0 hA (fb_ct_zero.mp h)
theorem or_lt {A B n : Nat} (hA : A < 2 ^ n) (hB : B < 2 ^ n) : A ||| B < 2 ^ n := Nat.or_lt_two_pow hA hB
theorem pw_lt {k n : Nat} (h : k < n) : 2 ^ k < 2 ^ n := Nat.pow_lt_pow_right (by decide) h
def fsC (σ : Rw) (n : Nat) (o : Option Nat) : Bool := match o with
  | none => true
  | some q => ahF σ n q
/-- which kite is asked first -/
def fsN (σ : Rw) (A : Nat) : Nat → Option Nat
  | 0 => none
  | n + 1 => if A.testBit n && fsC σ n (fsN σ A n) then some n else fsN σ A n
def oI (o : Option Nat) : Int32 := match o with
  | none => -1
  | some k => nI k
theorem fsN_some {σ : Rw} {A : Nat} : ∀ {n q : Nat}, fsN σ A n = some q → q < n ∧ A.testBit q = true
  | 0, q, h => by cases h
  | n + 1, q, h => by
    unfold fsN at h
    by_cases hc : (A.testBit n && fsC σ n (fsN σ A n)) = true
    · rw [if_pos hc] at h
      cases h
      rw [Bool.and_eq_true] at hc
      exact ⟨Nat.lt_succ_self n, hc.1⟩
    · rw [if_neg hc] at h
      have := fsN_some h
      exact ⟨by omega, this.2⟩
theorem fsN_none {σ : Rw} {A : Nat} : ∀ {n : Nat}, fsN σ A n = none → ∀ i, i < n → A.testBit i = false
  | 0, _, i, hi => absurd hi (Nat.not_lt_zero _)
  | n + 1, h, i, hi => by
    unfold fsN at h
    by_cases hc : (A.testBit n && fsC σ n (fsN σ A n)) = true
    · rw [if_pos hc] at h
      cases h
    · rw [if_neg hc] at h
      have ih := fsN_none h
      rcases Nat.lt_or_ge i n with g | g
      · exact ih i g
      · have e : i = n := by omega
        subst e
        rw [h] at hc
        simpa [fsC] using hc
def dnN (σ : Rw) (U q : Nat) : Nat → Bool
  | 0 => false
  | n + 1 => dnN σ U q n || (U.testBit n && crF σ q n)
/-- those that stay up -/
def suN (σ : Rw) : Nat → Nat → Nat → Nat
  | 0, _, U => U
  | f + 1, A, U => if A = 0 then U else match fsN σ A (cK σ) with
    | none => U
    | some q => suN σ f (clrN A q) (if dnN σ U q (cK σ) then U else U ||| 2 ^ q)
def hvN (σ : Rw) : Nat → Nat
  | 0 => 0
  | n + 1 => if lnF σ n then hvN σ n ||| 2 ^ n else hvN σ n
theorem hvN_lt (σ : Rw) : ∀ n, hvN σ n < 2 ^ n
  | 0 => Nat.zero_lt_one
  | n + 1 => by
    have := hvN_lt σ n
    have h2 : hvN σ n < 2 ^ (n + 1) := Nat.lt_trans this (pw_lt (Nat.lt_succ_self n))
    unfold hvN
    split
    · exact or_lt h2 (pw_lt (Nat.lt_succ_self n))
    · exact h2
theorem hvF_n (σ : Rw) : ∀ n, n ≤ 31 → hvF σ n = nI (hvN σ n)
  | 0, _ => rfl
  | n + 1, h => by
    unfold hvF hvN
    rw [hvF_n σ n (by omega)]
    by_cases hl : lnF σ n = true
    · rw [if_pos hl, if_pos hl, jshl_1 (by omega), fa_or]
    · rw [if_neg hl, if_neg hl, show (0 : Int32) = nI 0 from rfl, fa_or, Nat.or_zero]
theorem hvN_bit (σ : Rw) : ∀ n i, (hvN σ n).testBit i = (decide (i < n) && lnF σ i)
  | 0, i => by simp [hvN]
  | n + 1, i => by
    unfold hvN
    by_cases hl : lnF σ n = true
    · rw [if_pos hl, fb_bit_set, hvN_bit σ n i]
      by_cases g : i = n
      · subst g; simp [hl]
      · have e : decide (i < n + 1) = decide (i < n) := by
          apply decide_eq_decide.mpr; omega
        simp [g, e]
    · rw [if_neg hl, hvN_bit σ n i]
      by_cases g : i = n
      · subst g; simp [Bool.eq_false_iff.mpr hl]
      · have e : decide (i < n + 1) = decide (i < n) := by
          apply decide_eq_decide.mpr; omega
        rw [e]
