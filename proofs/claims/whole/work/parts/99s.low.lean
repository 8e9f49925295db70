/-! lowest terms: only 2 and 5 are taken out -/
def lt1 (q : Nat) (s : Nat × Nat) : Nat × Nat := if s.1 % q = 0 then (s.1 / q, s.2 / q) else s
def ltS (s : Nat × Nat) : Nat → Nat × Nat
  | 0 => s
  | n + 1 => ltS (lt1 5 (lt1 2 s)) n
theorem cop2 {a : Nat} (h : ¬ a % 2 = 0) : Nat.Coprime a 2 := by
  have h1 : Nat.gcd a 2 ∣ 2 := Nat.gcd_dvd_right a 2
  have h2 := Nat.le_of_dvd (by decide) h1
  have h3 : Nat.gcd a 2 ∣ a := Nat.gcd_dvd_left a 2
  have h4 : 0 < Nat.gcd a 2 := Nat.gcd_pos_of_pos_right a (by decide)
  rcases (show Nat.gcd a 2 = 1 ∨ Nat.gcd a 2 = 2 by omega) with g | g
  · exact g
  · rw [g] at h3
    exact absurd (Nat.mod_eq_zero_of_dvd h3) h
theorem cop5 {a : Nat} (h : ¬ a % 5 = 0) : Nat.Coprime a 5 := by
  have h1 : Nat.gcd a 5 ∣ 5 := Nat.gcd_dvd_right a 5
  have h2 := Nat.le_of_dvd (by decide) h1
  have h3 : Nat.gcd a 5 ∣ a := Nat.gcd_dvd_left a 5
  have h4 : 0 < Nat.gcd a 5 := Nat.gcd_pos_of_pos_right a (by decide)
  rcases (show Nat.gcd a 5 = 1 ∨ Nat.gcd a 5 = 2 ∨ Nat.gcd a 5 = 3 ∨ Nat.gcd a 5 = 4 ∨ Nat.gcd a 5 = 5 by omega) with g | g | g | g | g
  · exact g
  · rw [g] at h1; exact absurd h1 (by decide)
  · rw [g] at h1; exact absurd h1 (by decide)
  · rw [g] at h1; exact absurd h1 (by decide)
  · rw [g] at h3
    exact absurd (Nat.mod_eq_zero_of_dvd h3) h
theorem nd_div {a q r : Nat} (h : ¬ a % q = 0) (hr : a % r = 0) : ¬ (a / r) % q = 0 := fun h9 => h (by
  have e : a = a / r * r := (Nat.div_mul_cancel (Nat.dvd_of_mod_eq_zero hr)).symm
  rw [e]
  exact Nat.mod_eq_zero_of_dvd (Nat.dvd_trans (Nat.dvd_of_mod_eq_zero h9) (Nat.dvd_mul_right _ _)))
theorem lt2_div {x y : Nat} : 2 ^ (x + 1) * 5 ^ y / 2 = 2 ^ x * 5 ^ y := by
  rw [Nat.pow_succ, Nat.mul_comm (2 ^ x) 2, Nat.mul_assoc, Nat.mul_div_cancel_left _ (by decide)]
theorem lt5_div {x y : Nat} : 2 ^ x * 5 ^ (y + 1) / 5 = 2 ^ x * 5 ^ y := by
  rw [Nat.pow_succ, ← Nat.mul_assoc, Nat.mul_div_cancel _ (by decide)]
/-- what holds while factors are taken out: A and B were a and b times d -/
def LtI (A B k : Nat) (s : Nat × Nat) : Prop := ∃ d x y, 0 < d ∧ A = s.1 * d ∧ B = s.2 * d ∧ s.2 = 2 ^ x * 5 ^ y ∧ (¬ s.1 % 2 = 0 ∨ x = k) ∧ (¬ s.1 % 5 = 0 ∨ y = k)
theorem lt_step {A B k : Nat} {s : Nat × Nat} (h : LtI A B (k + 1) s) : LtI A B k (lt1 5 (lt1 2 s)) := by
  obtain ⟨d, x, y, h0, h1, h2, h3, h4, h5⟩ := h
  have hA : ∃ d x, 0 < d ∧ A = (lt1 2 s).1 * d ∧ B = (lt1 2 s).2 * d ∧ (lt1 2 s).2 = 2 ^ x * 5 ^ y ∧ (¬ (lt1 2 s).1 % 2 = 0 ∨ x = k) ∧ (¬ (lt1 2 s).1 % 5 = 0 ∨ y = k + 1) := by
    unfold lt1
    by_cases c : s.1 % 2 = 0
    · rw [if_pos c]
      have hx : x = k + 1 := h4.resolve_left (fun g => g c)
      subst hx
      refine ⟨2 * d, k, by omega, ?_, ?_, ?_, Or.inr rfl, ?_⟩
      · show A = s.1 / 2 * (2 * d)
        rw [← Nat.mul_assoc, Nat.div_mul_cancel (Nat.dvd_of_mod_eq_zero c)]
        exact h1
      · show B = s.2 / 2 * (2 * d)
        have hd : 2 ∣ s.2 := by rw [h3, Nat.pow_succ, Nat.mul_assoc]; exact Nat.dvd_trans (Nat.dvd_mul_right 2 (5 ^ y)) (Nat.dvd_mul_left _ _)
        rw [← Nat.mul_assoc, Nat.div_mul_cancel hd]
        exact h2
      · show s.2 / 2 = _
        rw [h3, lt2_div]
      · exact h5.imp (fun g => nd_div g c) id
    · rw [if_neg c]
      exact ⟨d, x, h0, h1, h2, h3, Or.inl c, h5⟩
  generalize lt1 2 s = u at hA
  obtain ⟨d, x, h0, h1, h2, h3, h4, h5⟩ := hA
  unfold lt1
  by_cases c : u.1 % 5 = 0
  · rw [if_pos c]
    have hy : y = k + 1 := h5.resolve_left (fun g => g c)
    subst hy
    refine ⟨5 * d, x, k, by omega, ?_, ?_, ?_, ?_, Or.inr rfl⟩
    · show A = u.1 / 5 * (5 * d)
      rw [← Nat.mul_assoc, Nat.div_mul_cancel (Nat.dvd_of_mod_eq_zero c)]
      exact h1
    · show B = u.2 / 5 * (5 * d)
      have hd : 5 ∣ u.2 := by rw [h3, Nat.pow_succ, ← Nat.mul_assoc]; exact Nat.dvd_mul_left _ _
      rw [← Nat.mul_assoc, Nat.div_mul_cancel hd]
      exact h2
    · show u.2 / 5 = _
      rw [h3, lt5_div]
    · exact h4.imp (fun g => nd_div g c) id
  · rw [if_neg c]
    exact ⟨d, x, y, h0, h1, h2, h3, h4, Or.inl c⟩
theorem lt_run {A B : Nat} : ∀ k s, LtI A B k s → LtI A B 0 (ltS s k)
  | 0, _, h => h
  | k + 1, _, h => lt_run k _ (lt_step h)
theorem lt_end {A B : Nat} {s : Nat × Nat} (h : LtI A B 0 s) : s.1 = A / Nat.gcd A B ∧ s.2 = B / Nat.gcd A B := by
  obtain ⟨d, x, y, h0, h1, h2, h3, h4, h5⟩ := h
  have hc : Nat.Coprime s.1 s.2 := by
    rw [h3]
    refine Nat.Coprime.mul_right ?_ ?_
    · rcases h4 with g | g
      · exact Nat.Coprime.pow_right x (cop2 g)
      · rw [g]; exact Nat.coprime_one_right _
    · rcases h5 with g | g
      · exact Nat.Coprime.pow_right y (cop5 g)
      · rw [g]; exact Nat.coprime_one_right _
  have hg : Nat.gcd A B = d := by rw [h1, h2, Nat.gcd_mul_right, hc, Nat.one_mul]
  rw [hg]
  constructor
  · rw [h1, Nat.mul_div_cancel _ h0]
  · rw [h2, Nat.mul_div_cancel _ h0]
theorem ten_25 (n : Nat) : 10 ^ n = 2 ^ n * 5 ^ n := by rw [← Nat.mul_pow]
theorem lt_all (A n : Nat) : (ltS (A, 10 ^ n) n).1 = A / Nat.gcd A (10 ^ n) ∧ (ltS (A, 10 ^ n) n).2 = 10 ^ n / Nat.gcd A (10 ^ n) :=
  lt_end (lt_run n _ ⟨1, n, n, by decide, (Nat.mul_one _).symm, (Nat.mul_one _).symm, ten_25 n, Or.inr rfl, Or.inr rfl⟩)
theorem lt1_le {q : Nat} {s : Nat × Nat} {N : Nat} (h : s.1 ≤ N ∧ s.2 ≤ N) : (lt1 q s).1 ≤ N ∧ (lt1 q s).2 ≤ N := by
  unfold lt1
  split
  · exact ⟨Nat.le_trans (Nat.div_le_self _ _) h.1, Nat.le_trans (Nat.div_le_self _ _) h.2⟩
  · exact h

set_option maxHeartbeats 1000000 in
theorem lx_ten {Γ : Cx} {G : Wd} {K : Int64 → Wd → Prop} {x : Int32} (n0 : Nat) (en : x = nI n0) (hn : n0 ≤ 100) (k : K (lN (10 ^ n0)) G) : ∀ (n : Nat) (j : Nat) (xi : Int32), j + n = n0 → xi = nI j → Ok Γ mX11_tenTo 0 0 4 [some (.int x), some (.long (lN (10 ^ j))), none, some (.int xi)] [] G (cl K) := by
  intro n
  induction n with
  | zero =>
    intro j xi h1 ei
    refine ok_iload_n (pc := 4) dX11_tenTo_4 rfl ?_
    refine ok_iload_n (pc := 5) dX11_tenTo_5 rfl ?_
    refine ok_icmp_ge (pc := 6) 21 dX11_tenTo_6 (by decide) (fun cc_6 => ?_) (fun cc_6 => ?_)
    · have ce_6 := Int32.not_lt.mpr cc_6
      have e9 : j = n0 := by omega
      subst e9
      refine ok_lload_n (pc := 21) dX11_tenTo_21 rfl ?_
      refine ok_lret (pc := 22) dX11_tenTo_22 rfl ?_
      exact k
    · exact absurd (by rw [en, ei]; exact nI_le (by omega) (by omega)) cc_6
  | succ n ih =>
    intro j xi h1 ei
    refine ok_iload_n (pc := 4) dX11_tenTo_4 rfl ?_
    refine ok_iload_n (pc := 5) dX11_tenTo_5 rfl ?_
    refine ok_icmp_ge (pc := 6) 21 dX11_tenTo_6 (by decide) (fun cc_6 => ?_) (fun cc_6 => ?_)
    · rw [en, ei] at cc_6
      exact absurd cc_6 (nI_ge (by omega) (by omega))
    · have ce_6 := Int32.not_le.mp cc_6
      refine ok_lload_n (pc := 9) dX11_tenTo_9 rfl ?_
      refine ok_ldc2 (pc := 10) (v := 10) dX11_tenTo_10 tw_910 ?_
      refine ok_lmul (pc := 13) dX11_tenTo_13 ?_
      rw [fa_litL 10, lN_mul, ← Nat.pow_succ]
      refine ok_lstore_n1 (pc := 14) dX11_tenTo_14 (by decide) rfl ?_
      refine ok_iinc3 (pc := 15) (v := 1) dX11_tenTo_15 (by decide) (by decide) rfl ?_
      refine ok_goto (pc := 18) 4 dX11_tenTo_18 (by decide) ?_
      exact ih (j + 1) _ (by omega) (by rw [ei, nI_1])

set_option maxHeartbeats 1000000 in
theorem c_tenTo {Γ : Cx} {G : Wd} {K : Int64 → Wd → Prop} {x : Int32} (n0 : Nat) (en : x = nI n0) (hn : n0 ≤ 100) (k : K (lN (10 ^ n0)) G) : Spec Γ mX11_tenTo 0 0 [.int x] G (cl K) := by
  refine spec_in [some (.int x), none, none, none] 3 (by decide) rfl rfl ?_
  refine ok_lconst (pc := 0) (v := 1) dX11_tenTo_0 (by decide) ?_
  refine ok_lstore_n1 (pc := 1) dX11_tenTo_1 (by decide) rfl ?_
  refine ok_iconst (pc := 2) (v := 0) dX11_tenTo_2 (by decide) ?_
  refine ok_istore_n3 (pc := 3) dX11_tenTo_3 (by decide) rfl ?_
  exact lx_ten n0 en hn k n0 0 _ (by omega) rfl

set_option maxHeartbeats 1000000 in
theorem lx_low5 {Γ : Cx} {G : Wd} {K : Int64 → Wd → Prop} {x y xi : Int32} {l0 : Int64} {u v : Nat} (n0 A B : Nat) (en : x = nI n0) (hn : n0 ≤ 10) (big : (10 : Nat) ^ 10 < 2 ^ 62) (j n : Nat) (h1 : j + (n + 1) = n0) (ei : xi = nI j) (hu : u ≤ 10 ^ 10) (hv : v ≤ 10 ^ 10) (kk : ∀ u9 v9, u9 ≤ 10 ^ 10 → v9 ≤ 10 ^ 10 → ltS (u9, v9) n = (A, B) → Ok Γ mX11_inLowestTerms 1 0 12 [some (.long l0), none, some (.int x), some (.int y), some (.long (lN u9)), none, some (.long (lN v9)), none, some (.int (xi + 1))] [] G (cl K)) (hAB : ltS (lt1 5 (u, v)) n = (A, B)) : Ok Γ mX11_inLowestTerms 1 0 45 [some (.long l0), none, some (.int x), some (.int y), some (.long (lN u)), none, some (.long (lN v)), none, some (.int xi)] [] G (cl K) := by
  refine ok_lload (pc := 45) dX11_inLowestTerms_45 rfl ?_
  refine ok_ldc2 (pc := 47) (v := 5) dX11_inLowestTerms_47 tw_919 ?_
  refine ok_lrem (pc := 50) dX11_inLowestTerms_50 (by decide) ?_
  rw [fa_litL 5, lN_rem (by omega) (by decide)]
  refine ok_lconst (pc := 51) (v := 0) dX11_inLowestTerms_51 (by decide) ?_
  refine ok_lcmp (pc := 52) dX11_inLowestTerms_52 ?_
  refine ok_if_ne (pc := 53) 72 dX11_inLowestTerms_53 (by decide) (fun cc_53 => ?_) (fun cc_53 => ?_)
  · have hc5 : ¬ u % 5 = 0 := fun h9 => cc_53 ((cmp_0 (b := u % 5) (by omega)).mpr h9)
    have e5 : lt1 5 (u, v) = (u, v) := if_neg hc5
    refine ok_iinc8 (pc := 72) (v := 1) dX11_inLowestTerms_72 (by decide) (by decide) rfl ?_
    refine ok_goto (pc := 75) 12 dX11_inLowestTerms_75 (by decide) ?_
    obtain ⟨b1, b2⟩ := lt1_le (q := 5) (s := (u, v)) ⟨hu, hv⟩
    rw [e5] at b1 b2 hAB
    exact kk _ _ b1 b2 hAB
  · have hc5 : u % 5 = 0 := (cmp_0 (by omega)).mp cc_53
    have e5 : lt1 5 (u, v) = (u / 5, v / 5) := if_pos hc5
    refine ok_lload (pc := 56) dX11_inLowestTerms_56 rfl ?_
    refine ok_ldc2 (pc := 58) (v := 5) dX11_inLowestTerms_58 tw_919 ?_
    refine ok_ldiv (pc := 61) dX11_inLowestTerms_61 (by decide) ?_
    rw [fa_litL 5, lN_div (by omega) (by decide)]
    refine ok_lstore4 (pc := 62) dX11_inLowestTerms_62 (by decide) rfl ?_
    refine ok_lload (pc := 64) dX11_inLowestTerms_64 rfl ?_
    refine ok_ldc2 (pc := 66) (v := 5) dX11_inLowestTerms_66 tw_919 ?_
    refine ok_ldiv (pc := 69) dX11_inLowestTerms_69 (by decide) ?_
    rw [fa_litL 5, lN_div (by omega) (by decide)]
    refine ok_lstore6 (pc := 70) dX11_inLowestTerms_70 (by decide) rfl ?_
    refine ok_iinc8 (pc := 72) (v := 1) dX11_inLowestTerms_72 (by decide) (by decide) rfl ?_
    refine ok_goto (pc := 75) 12 dX11_inLowestTerms_75 (by decide) ?_
    obtain ⟨b1, b2⟩ := lt1_le (q := 5) (s := (u, v)) ⟨hu, hv⟩
    rw [e5] at b1 b2 hAB
    exact kk _ _ b1 b2 hAB

set_option maxHeartbeats 1000000 in
theorem lx_low {Γ : Cx} {G : Wd} {K : Int64 → Wd → Prop} {x y : Int32} {l0 : Int64} (n0 A B : Nat) (en : x = nI n0) (hn : n0 ≤ 10) (k : K (if y = 0 then lN A else lN B) G) : ∀ (n : Nat) (j : Nat) (u : Nat) (v : Nat) (xi : Int32), j + n = n0 → xi = nI j → u ≤ 10 ^ 10 → v ≤ 10 ^ 10 → ltS (u, v) n = (A, B) → Ok Γ mX11_inLowestTerms 1 0 12 [some (.long l0), none, some (.int x), some (.int y), some (.long (lN u)), none, some (.long (lN v)), none, some (.int xi)] [] G (cl K) := by
  have big : (10 : Nat) ^ 10 < 2 ^ 62 := by decide
  intro n
  induction n with
  | zero =>
    intro j u v xi h1 ei hu hv hAB
    refine ok_iload (pc := 12) dX11_inLowestTerms_12 rfl ?_
    refine ok_iload_n (pc := 14) dX11_inLowestTerms_14 rfl ?_
    refine ok_icmp_ge (pc := 15) 78 dX11_inLowestTerms_15 (by decide) (fun cc_15 => ?_) (fun cc_15 => ?_)
    · have ce_15 := Int32.not_lt.mpr cc_15
      have hAB9 : (u, v) = (A, B) := hAB
      obtain ⟨rfl, rfl⟩ := Prod.mk.inj hAB9
      refine ok_iload_n (pc := 78) dX11_inLowestTerms_78 rfl ?_
      refine ok_if_ne (pc := 79) 87 dX11_inLowestTerms_79 (by decide) (fun cc_79 => ?_) (fun cc_79 => ?_)
      · refine ok_lload (pc := 87) dX11_inLowestTerms_87 rfl ?_
        refine ok_lret (pc := 89) dX11_inLowestTerms_89 rfl ?_
        first
          | (rw [if_pos cc_79] at k; exact k)
          | (rw [if_neg cc_79] at k; exact k)
      · refine ok_lload (pc := 82) dX11_inLowestTerms_82 rfl ?_
        refine ok_goto (pc := 84) 89 dX11_inLowestTerms_84 (by decide) ?_
        refine ok_lret (pc := 89) dX11_inLowestTerms_89 rfl ?_
        first
          | (rw [if_pos cc_79] at k; exact k)
          | (rw [if_neg cc_79] at k; exact k)
    · exact absurd (by rw [en, ei]; exact nI_le (by omega) (by omega)) cc_15
  | succ n ih =>
    intro j u v xi h1 ei hu hv hAB
    refine ok_iload (pc := 12) dX11_inLowestTerms_12 rfl ?_
    refine ok_iload_n (pc := 14) dX11_inLowestTerms_14 rfl ?_
    refine ok_icmp_ge (pc := 15) 78 dX11_inLowestTerms_15 (by decide) (fun cc_15 => ?_) (fun cc_15 => ?_)
    · rw [en, ei] at cc_15
      exact absurd cc_15 (nI_ge (by omega) (by omega))
    · have ce_15 := Int32.not_le.mp cc_15
      refine ok_lload (pc := 18) dX11_inLowestTerms_18 rfl ?_
      refine ok_ldc2 (pc := 20) (v := 2) dX11_inLowestTerms_20 tw_918 ?_
      refine ok_lrem (pc := 23) dX11_inLowestTerms_23 (by decide) ?_
      rw [fa_litL 2, lN_rem (by omega) (by decide)]
      refine ok_lconst (pc := 24) (v := 0) dX11_inLowestTerms_24 (by decide) ?_
      refine ok_lcmp (pc := 25) dX11_inLowestTerms_25 ?_
      refine ok_if_ne (pc := 26) 45 dX11_inLowestTerms_26 (by decide) (fun cc_26 => ?_) (fun cc_26 => ?_)
      · have hc2 : ¬ u % 2 = 0 := fun h9 => cc_26 ((cmp_0 (b := u % 2) (by omega)).mpr h9)
        have e2 : lt1 2 (u, v) = (u, v) := if_neg hc2
        obtain ⟨b1, b2⟩ := lt1_le (q := 2) (s := (u, v)) ⟨hu, hv⟩
        have hAB9 : ltS (lt1 5 (lt1 2 (u, v))) n = (A, B) := hAB
        rw [e2] at b1 b2 hAB9
        exact lx_low5 n0 A B en hn big j n h1 ei b1 b2 (fun u9 v9 b3 b4 h9 => ih (j + 1) u9 v9 _ (by omega) (by rw [ei, nI_1]) b3 b4 h9) hAB9
      · have hc2 : u % 2 = 0 := (cmp_0 (by omega)).mp cc_26
        have e2 : lt1 2 (u, v) = (u / 2, v / 2) := if_pos hc2
        refine ok_lload (pc := 29) dX11_inLowestTerms_29 rfl ?_
        refine ok_ldc2 (pc := 31) (v := 2) dX11_inLowestTerms_31 tw_918 ?_
        refine ok_ldiv (pc := 34) dX11_inLowestTerms_34 (by decide) ?_
        rw [fa_litL 2, lN_div (by omega) (by decide)]
        refine ok_lstore4 (pc := 35) dX11_inLowestTerms_35 (by decide) rfl ?_
        refine ok_lload (pc := 37) dX11_inLowestTerms_37 rfl ?_
        refine ok_ldc2 (pc := 39) (v := 2) dX11_inLowestTerms_39 tw_918 ?_
        refine ok_ldiv (pc := 42) dX11_inLowestTerms_42 (by decide) ?_
        rw [fa_litL 2, lN_div (by omega) (by decide)]
        refine ok_lstore6 (pc := 43) dX11_inLowestTerms_43 (by decide) rfl ?_
        obtain ⟨b1, b2⟩ := lt1_le (q := 2) (s := (u, v)) ⟨hu, hv⟩
        have hAB9 : ltS (lt1 5 (lt1 2 (u, v))) n = (A, B) := hAB
        rw [e2] at b1 b2 hAB9
        exact lx_low5 n0 A B en hn big j n h1 ei b1 b2 (fun u9 v9 b3 b4 h9 => ih (j + 1) u9 v9 _ (by omega) (by rw [ei, nI_1]) b3 b4 h9) hAB9

set_option maxHeartbeats 1000000 in
theorem c_low {Γ : Cx} {G : Wd} {K : Int64 → Wd → Prop} {x y : Int32} (A n0 : Nat) (hA : A ≤ 10 ^ n0) (en : x = nI n0) (hn : n0 ≤ 10) (k : K (if y = 0 then lN (A / Nat.gcd A (10 ^ n0)) else lN (10 ^ n0 / Nat.gcd A (10 ^ n0))) G) : Spec Γ mX11_inLowestTerms 1 0 [.long (lN A), .int x, .int y] G (cl K) := by
  have hp : 10 ^ n0 ≤ 10 ^ 10 := Nat.pow_le_pow_right (by decide) hn
  obtain ⟨g1, g2⟩ := lt_all A n0
  refine spec_in [some (.long (lN A)), none, some (.int x), some (.int y), none, none, none, none, none] 5 (by decide) rfl rfl ?_
  refine ok_lload_n (pc := 0) dX11_inLowestTerms_0 rfl ?_
  refine ok_lstore4 (pc := 1) dX11_inLowestTerms_1 (by decide) rfl ?_
  refine ok_iload_n (pc := 3) dX11_inLowestTerms_3 rfl ?_
  refine ok_callSl1 (pc := 4) (d' := 0) dX11_inLowestTerms_4 sl_X11_302 rfl (by decide) ?_
  refine c_tenTo n0 en (by omega) ?_
  refine ok_lstore6 (pc := 7) dX11_inLowestTerms_7 (by decide) rfl ?_
  refine ok_iconst (pc := 9) (v := 0) dX11_inLowestTerms_9 (by decide) ?_
  refine ok_istore8 (pc := 10) dX11_inLowestTerms_10 (by decide) rfl ?_
  refine lx_low n0 _ _ en hn k n0 0 A (10 ^ n0) _ (by omega) rfl (by omega) hp ?_
  rw [← g1, ← g2]
