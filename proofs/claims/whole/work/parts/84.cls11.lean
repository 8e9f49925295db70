/-! what is reached only grows, and grows no more once a day brought nothing -/
def Rg (x : Int32) (a b : Int) : Prop := a ≤ x.toInt ∧ x.toInt ≤ b
theorem rg_add {x y : Int32} {a b c d : Int} (h : Rg x a b) (g : Rg y c d) (e1 : -2147483648 ≤ a + c) (e2 : b + d < 2147483648) : Rg (x + y) (a + c) (b + d) := by
  obtain ⟨h1, h2⟩ := h
  obtain ⟨g1, g2⟩ := g
  unfold Rg
  rw [fb_addI (by omega) (by omega)]
  omega
theorem rg_sub {x y : Int32} {a b c d : Int} (h : Rg x a b) (g : Rg y c d) (e1 : -2147483648 ≤ a - d) (e2 : b - c < 2147483648) : Rg (x - y) (a - d) (b - c) := by
  obtain ⟨h1, h2⟩ := h
  obtain ⟨g1, g2⟩ := g
  unfold Rg
  rw [fb_subI (by omega) (by omega)]
  omega
theorem rg_2 {x : Int32} {a b : Int} (h : Rg x a b) (e1 : -1000 ≤ a) (e2 : b ≤ 1000) : Rg (2 * x) (2 * a) (2 * b) := by
  obtain ⟨h1, h2⟩ := h
  have h3 : (2 : Int32).toInt = 2 := rfl
  unfold Rg
  rw [fb_mulI (by rw [h3]; omega) (by rw [h3]; omega), h3]
  omega
theorem rg_3 {x : Int32} {a b : Int} (h : Rg x a b) (e1 : -1000 ≤ a) (e2 : b ≤ 1000) : Rg (3 * x) (3 * a) (3 * b) := by
  obtain ⟨h1, h2⟩ := h
  have h3 : (3 : Int32).toInt = 3 := rfl
  unfold Rg
  rw [fb_mulI (by rw [h3]; omega) (by rw [h3]; omega), h3]
  omega
theorem rg_of {x a b : Int32} (h1 : a ≤ x) (h2 : x ≤ b) : Rg x a.toInt b.toInt := ⟨(fa_le _ _).mp h1, (fa_le _ _).mp h2⟩
theorem rg_w {x : Int32} {a b c d : Int} (h : Rg x a b) (e1 : c ≤ a) (e2 : b ≤ d) : Rg x c d := ⟨Int.le_trans e1 h.1, Int.le_trans h.2 e2⟩
theorem rg_nI {n N : Nat} (h : n ≤ N) (hN : N < 2 ^ 31) : Rg (nI n) 0 N := by
  unfold Rg
  rw [nI_toInt (by omega)]
  omega
theorem rg_clmp0 (v : Int32) : Rg (jmax (-99) (jmin 99 v)) (-99) 99 := by
  unfold Rg
  rw [jmax_I, jmin_I]
  have h3 : (99 : Int32).toInt = 99 := rfl
  have h4 : (-99 : Int32).toInt = -99 := rfl
  rw [h3, h4]
  split <;> split <;> omega
theorem rg_giv {σ : Rw} (x y v w : Int32) : Rg (givF σ 0 x y v w) (-99) 99 := by
  unfold givF
  rw [if_pos rfl]
  split
  · exact rg_clmp0 _
  · exact ⟨by decide, by decide⟩
theorem rg_fc {σ : Rw} (hI : Inv σ) {hr : Nat} (h : hr < 24) : Rg (fcF σ hr) 0 9 := by
  obtain ⟨ew, w79⟩ := hI.2.2.2.1 hr h
  have e9 : fcF σ hr = nI (wdF σ hr % 10) := by
    unfold fcF
    rw [ew]
    exact pk_rem (by omega) (by decide) (by decide)
  rw [e9]
  exact rg_nI (N := 9) (by omega) (by decide)
theorem rg_pl {σ : Rw} (hI : Inv σ) {k h hr : Nat} (hk : k < cK σ) (hh : h < cH σ) (ht : hr < 24) {w : Int32} (w0 : 0 ≤ w) (w9 : w ≤ 999) : Rg (plF σ k h w (fcF σ hr) (hmF σ k)) (-2000) 2000 := by
  obtain ⟨⟨e1, l1⟩, -, -, -, ⟨a1, a2⟩, -⟩ := hI.2.1 k hk
  obtain ⟨-, ⟨b1, b2⟩, -⟩ := hI.2.2.1 h hh
  obtain ⟨-, ⟨c1, c2⟩, -⟩ := hI.2.2.1 (hmF σ k) l1
  have r1 : Rg (kf σ k 3) 0 99 := rg_of a1 a2
  have r2 : Rg (hz σ h) 0 9 := rg_of b1 b2
  have r3 : Rg (hz σ (hmF σ k)) 0 9 := rg_of c1 c2
  have r4 : Rg w 0 999 := rg_of w0 w9
  have r5 := rg_sub r2 r3 (by decide) (by decide)
  have r6 : Rg (jmax 0 (hz σ h - hz σ (hmF σ k))) 0 9 := by
    obtain ⟨q1, q2⟩ := r5
    unfold Rg
    rw [jmax_I, show (0 : Int32).toInt = 0 from rfl]
    split <;> omega
  have r7 := rg_fc hI ht
  unfold plF
  exact rg_w (rg_sub (rg_sub (rg_add r1 (rg_2 r7 (by decide) (by decide)) (by decide) (by decide)) r4 (by decide) (by decide)) (rg_3 r6 (by decide) (by decide)) (by decide) (by decide)) (by decide) (by decide)
theorem rg_sl {x f mk : Int32} (h : Rg x (-2000) 2000) (g : Rg mk 0 9) : Rg (slF x f mk) (-2009) 2009 := by
  unfold slF
  split
  · exact rg_w (rg_add h g (by decide) (by decide)) (by decide) (by decide)
  · have e9 : Rg (-mk) (-9) 0 := by
      obtain ⟨g1, g2⟩ := g
      unfold Rg
      rw [fb_negI (by omega)]
      omega
    exact rg_w (rg_add h e9 (by decide) (by decide)) (by decide) (by decide)
theorem pull_anti {σ : Rw} (hI : Inv σ) {k h hr tm : Nat} (hk : k < cK σ) (hh : h < cH σ) (ht : hr < 24) (hm : tm ≤ 100000) {w : Int32} (w0 : 0 ≤ w) (w9 : w ≤ 999) (g : 0 ≤ pullF σ k h w hr (nI (tm + 24)) (hmF σ k)) : 0 ≤ pullF σ k h w hr (nI tm) (hmF σ k) := by
  by_cases h6 : kf σ k 0 = 6
  · have rp := rg_pl hI hk hh ht w0 w9
    have rg := rg_giv (σ := σ) (fcF σ hr) (farF σ (hmF σ k) h) w (kf σ k 0)
    obtain ⟨-, -, -, ⟨a1, a2⟩, -⟩ := hI.2.1 k hk
    have rs := rg_sl (f := fcF σ hr) rp (rg_of a1 a2)
    have ek : ∀ t : Nat, t ≤ 200000 → pullF σ k h w hr (nI t) (hmF σ k) = slF (plF σ k h w (fcF σ hr) (hmF σ k)) (fcF σ hr) (kf σ k 1) - nI (t / 24) + givF σ 0 (fcF σ hr) (farF σ (hmF σ k) h) w (kf σ k 0) := by
      intro t h9
      unfold pullF kdF
      rw [h6, if_neg (by decide), if_neg (by decide), if_neg (by decide), if_neg (by decide), if_neg (by decide), if_pos rfl, fa_lit 24, pk_div (by omega) (by decide) (by decide)]
    rw [ek _ (by omega)] at g
    rw [ek _ (by omega)]
    have ti : ∀ t : Nat, t ≤ 200000 → (slF (plF σ k h w (fcF σ hr) (hmF σ k)) (fcF σ hr) (kf σ k 1) - nI (t / 24) + givF σ 0 (fcF σ hr) (farF σ (hmF σ k) h) w (kf σ k 0)).toInt = (slF (plF σ k h w (fcF σ hr) (hmF σ k)) (fcF σ hr) (kf σ k 1)).toInt - ((t / 24 : Nat) : Int) + (givF σ 0 (fcF σ hr) (farF σ (hmF σ k) h) w (kf σ k 0)).toInt := by
      intro t h9
      obtain ⟨s1, s2⟩ := rs
      obtain ⟨q1, q2⟩ := rg
      have e1 : (nI (t / 24)).toInt = ((t / 24 : Nat) : Int) := nI_toInt (by omega)
      have e2 : (slF (plF σ k h w (fcF σ hr) (hmF σ k)) (fcF σ hr) (kf σ k 1) - nI (t / 24)).toInt = (slF (plF σ k h w (fcF σ hr) (hmF σ k)) (fcF σ hr) (kf σ k 1)).toInt - ((t / 24 : Nat) : Int) := by
        rw [fb_subI (by rw [e1]; omega) (by rw [e1]; omega), e1]
      rw [fb_addI (by rw [e2]; omega) (by rw [e2]; omega), e2]
    rw [fa_le, ti _ (by omega)] at g
    rw [fa_le, ti _ (by omega)]
    have e0 : (0 : Int32).toInt = 0 := rfl
    rw [e0] at g ⊢
    omega
  · have ek : pullF σ k h w hr (nI (tm + 24)) (hmF σ k) = pullF σ k h w hr (nI tm) (hmF σ k) := by
      unfold pullF kdF
      rw [if_neg h6, if_neg h6]
    rw [← ek]
    exact g
theorem stS_anti {σ : Rw} (hI : Inv σ) {k h tm : Nat} (hk : k < cK σ) (hh : h < cH σ) (hm : tm ≤ 100000) {w : Int32} (w0 : 0 ≤ w) (w9 : w ≤ 999) (g : stS σ k h w ((tm + 24) % 24) (nI (tm + 24)) = true) : stS σ k h w (tm % 24) (nI tm) = true := by
  rw [Nat.add_mod_right] at g
  unfold stS stF at g ⊢
  rw [Bool.and_eq_true] at g ⊢
  exact ⟨g.1, decide_eq_true (pull_anti hI hk hh (Nat.mod_lt _ (by decide)) hm w0 w9 (of_decide_eq_true g.2))⟩
def Sub (A B : Nat) : Prop := ∀ i, A.testBit i = true → B.testBit i = true
theorem Sub.rf {A : Nat} : Sub A A := fun _ h => h
theorem Sub.tr {A B C : Nat} (h : Sub A B) (g : Sub B C) : Sub A C := fun i x => g i (h i x)
theorem Sub.or {A B C D : Nat} (h : Sub A B) (g : Sub C D) : Sub (A ||| C) (B ||| D) := by
  intro i x
  rw [Nat.testBit_or, Bool.or_eq_true] at x ⊢
  exact x.elim (fun y => .inl (h i y)) (fun y => .inr (g i y))
theorem Sub.l {A B : Nat} : Sub A (A ||| B) := fun i x => by rw [Nat.testBit_or, x, Bool.true_or]
theorem Sub.eq {A B : Nat} (h : Sub A B) (g : Sub B A) : A = B := by
  apply Nat.eq_of_testBit_eq
  intro i
  cases ha : A.testBit i with
  | true => exact (h i ha).symm
  | false =>
    cases hb : B.testBit i with
    | true => rw [g i hb] at ha; cases ha
    | false => rfl
theorem or_set {A j : Nat} (h : A.testBit j = true) : A ||| 2 ^ j = A := by
  apply Sub.eq _ Sub.l
  intro i x
  rw [Nat.testBit_or, Bool.or_eq_true] at x
  rcases x with x | x
  · exact x
  · rw [Nat.testBit_two_pow] at x
    rw [← of_decide_eq_true x]
    exact h
theorem gi_up {σ : Rw} {k tm : Nat} {w : Int32} {A : Nat} : ∀ n, Sub A (gi σ k tm w A n)
  | 0 => Sub.rf
  | n + 1 => by
    unfold gi
    split
    · exact (gi_up n).tr Sub.l
    · exact gi_up n
theorem go_up {σ : Rw} {S tm : Nat} {w : Int32} : ∀ n, Sub S (go σ S tm w n)
  | 0 => Sub.rf
  | n + 1 => by
    unfold go
    split
    · exact (go_up n).tr (gi_up _)
    · exact go_up n
theorem gi_anti {σ : Rw} (hI : Inv σ) {k tm : Nat} (hk : k < cK σ) (hm : tm ≤ 100000) {w : Int32} (w0 : 0 ≤ w) (w9 : w ≤ 999) {A B : Nat} (h : Sub A B) : ∀ n, n ≤ cH σ → Sub (gi σ k (tm + 24) w A n) (gi σ k tm w B n)
  | 0, _ => h
  | n + 1, hn => by
    have ih := gi_anti hI hk hm w0 w9 h n (by omega)
    unfold gi
    by_cases c : stS σ k n w ((tm + 24) % 24) (nI (tm + 24)) = true
    · rw [if_pos c, if_pos (stS_anti hI hk (by omega) hm w0 w9 c)]
      exact ih.or Sub.rf
    · rw [if_neg c]
      split
      · exact ih.tr Sub.l
      · exact ih
theorem go_anti {σ : Rw} (hI : Inv σ) {S tm : Nat} (hm : tm ≤ 100000) {w : Int32} (w0 : 0 ≤ w) (w9 : w ≤ 999) : ∀ n, n ≤ cK σ → Sub (go σ S (tm + 24) w n) (go σ S tm w n)
  | 0, _ => Sub.rf
  | n + 1, hn => by
    have ih := go_anti hI (S := S) hm w0 w9 n (by omega)
    unfold go
    split
    · exact gi_anti hI (by omega) hm w0 w9 ih _ (Nat.le_refl _)
    · exact ih
theorem sr_idle {σ : Rw} (hI : Inv σ) {f j : Nat} (hj : 24 ≤ j) {w : Int32} (w0 : 0 ≤ w) (w9 : w ≤ 999) (h : ∀ q, q ≤ 24 → srS σ f w (j - q) = srS σ f w j) (N : Nat) (hN : cT σ + j + N ≤ 100000) : ∀ d, d ≤ N + 24 → srS σ f w (j - 24 + d) = srS σ f w j := by
  intro d
  induction d using Nat.strongRecOn with
  | ind d ih =>
    intro hd
    rcases Nat.lt_or_ge 24 d with g | g
    · have e1 := ih (d - 24) (by omega) (by omega)
      have e2 := ih (d - 25) (by omega) (by omega)
      have e3 := ih (d - 1) (by omega) (by omega)
      have s1 : j - 24 + (d - 24) = (j - 24 + (d - 25)) + 1 := by omega
      have s2 : j - 24 + d = (j - 24 + (d - 1)) + 1 := by omega
      rw [s1] at e1
      have e4 : go σ (srS σ f w (j - 24 + (d - 25))) (cT σ + (j - 24 + (d - 25))) w (cK σ) = srS σ f w j := e1
      rw [e2] at e4
      rw [s2]
      show go σ (srS σ f w (j - 24 + (d - 1))) (cT σ + (j - 24 + (d - 1))) w (cK σ) = srS σ f w j
      rw [e3]
      have s3 : cT σ + (j - 24 + (d - 1)) = cT σ + (j - 24 + (d - 25)) + 24 := by omega
      have a9 := go_anti hI (S := srS σ f w j) (tm := cT σ + (j - 24 + (d - 25))) (by omega) w0 w9 (cK σ) (Nat.le_refl _)
      rw [e4, ← s3] at a9
      exact a9.eq (go_up _)
    · have e1 := h (24 - d) (by omega)
      rw [show j - (24 - d) = j - 24 + d by omega] at e1
      exact e1
theorem so_idle {σ : Rw} (hI : Inv σ) {f j t : Nat} (hj : 24 ≤ j) {w : Int32} (w0 : 0 ≤ w) (w9 : w ≤ 999) (h : ∀ q, q ≤ 24 → srS σ f w (j - q) = srS σ f w j) (hb : (srS σ f w j).testBit t = false) (N : Nat) (hN : cT σ + j + N ≤ 100000) : ∀ n i, i + n ≤ N → soA σ f t w n (j + i) = -1
  | 0, _, _ => rfl
  | n + 1, i, hi => by
    have e9 := sr_idle hI hj w0 w9 h N hN (i + 1 + 24) (by omega)
    rw [show j - 24 + (i + 1 + 24) = j + i + 1 by omega] at e9
    unfold soA
    rw [e9, if_neg (by rw [hb]; decide)]
    exact so_idle hI hj w0 w9 h hb N hN n (i + 1) (by omega)

set_option maxHeartbeats 1000000 in
theorem l_rb2 {Γ : Cx} {p e z sz : Nat} {σ : Rw} {M0 : Nat → Option va_E} {Q : Option Value → Wd → Prop} (hI : Inv σ) (hpe : p + 26 ≤ e) {xS w xt : Int32} (S tm : Nat) (eS : xS = nI S) (hS : S < 2 ^ 9) (et : xt = nI tm) (ht : tm < 2 ^ 30) {xi : Int32} {q : Nat} (q0 : Nat) (hK0 : KtQ e z σ q0 q M0) (hq : q0 < cK σ) (kk : ∀ M', PstR Γ p e z σ M' → Off p 26 M0 M' → Ok Γ mX5_reachedBehind 4 0 93 [some (.ref p), some (.int xS), some (.int w), some (.int xt), some (.int (nI (gi σ q0 tm w (go σ S tm w q0) (cH σ)))), some (.int xi), some (.ref q), some (.int (nI (cH σ)))] [] (M', sz) Q) : ∀ (n : Nat) (j : Nat) (xj : Int32) (M : Nat → Option va_E), j + n = cH σ → xj = nI j → PstR Γ p e z σ M → Off p 26 M0 M → Ok Γ mX5_reachedBehind 4 0 46 [some (.ref p), some (.int xS), some (.int w), some (.int xt), some (.int (nI (gi σ q0 tm w (go σ S tm w q0) j))), some (.int xi), some (.ref q), some (.int xj)] [] (M, sz) Q := by
  obtain ⟨⟨⟨eH, lH⟩, ⟨eK, lK⟩, ⟨eL, lL⟩, ⟨eA, lA⟩, ⟨eT, lT⟩⟩, iK, iH, iW, iL, iO, iB, hT⟩ := id hI
  have hg := fun j9 (h9 : j9 ≤ 9) => gi_lt (σ := σ) (k := q0) (tm := tm) (w := w) (go_lt (σ := σ) (tm := tm) (w := w) hS lH q0) j9 h9
  
  intro n
  induction n with
  | zero =>
    intro j xj M h1 ej hP hO
    have hK := hK0.off hO hpe
    have hgj := hg j (by omega)
    refine ok_iload (pc := 46) dX5_reachedBehind_46 rfl ?_
    refine ok_aload_n (pc := 48) dX5_reachedBehind_48 rfl ?_
    refine ok_getf (pc := 49) dX5_reachedBehind_49 fl_X5_77 hP.o rfl ?_
    refine ok_icmp_ge (pc := 52) 93 dX5_reachedBehind_52 (by decide) (fun cc_52 => ?_) (fun cc_52 => ?_)
    · have ce_52 := Int32.not_lt.mpr cc_52
      have e9 : j = cH σ := by omega
      subst e9
      rw [ej]
      exact kk _ hP hO
    · exact absurd (by rw [eH, ej]; exact nI_le (by omega) (by omega)) cc_52
  | succ n ih =>
    intro j xj M h1 ej hP hO
    have hK := hK0.off hO hpe
    have hgj := hg j (by omega)
    refine ok_iload (pc := 46) dX5_reachedBehind_46 rfl ?_
    refine ok_aload_n (pc := 48) dX5_reachedBehind_48 rfl ?_
    refine ok_getf (pc := 49) dX5_reachedBehind_49 fl_X5_77 hP.o rfl ?_
    refine ok_icmp_ge (pc := 52) 93 dX5_reachedBehind_52 (by decide) (fun cc_52 => ?_) (fun cc_52 => ?_)
    · rw [eH, ej] at cc_52
      exact absurd cc_52 (nI_ge (by omega) (by omega))
    · have ce_52 := Int32.not_le.mp cc_52
      refine ok_iload (pc := 55) dX5_reachedBehind_55 rfl ?_
      refine ok_iload (pc := 57) dX5_reachedBehind_57 rfl ?_
      refine ok_ishr (pc := 59) dX5_reachedBehind_59 ?_
      refine ok_iconst (pc := 60) (v := 1) dX5_reachedBehind_60 (by decide) ?_
      refine ok_iand (pc := 61) dX5_reachedBehind_61 ?_
      refine ok_if_ne (pc := 62) 87 dX5_reachedBehind_62 (by decide) (fun cc_62 => ?_) (fun cc_62 => ?_)
      · rw [ej, hb_ne (by omega) (by omega)] at cc_62
        have enx : gi σ q0 tm w (go σ S tm w q0) (j + 1) = (gi σ q0 tm w (go σ S tm w q0) j) := by
          show (if _ then _ else _) = _
          split
          · exact or_set (b_tr cc_62)
          · rfl
        refine ok_iinc7 (pc := 87) (v := 1) dX5_reachedBehind_87 (by decide) (by decide) rfl ?_
        refine ok_goto (pc := 90) 46 dX5_reachedBehind_90 (by decide) ?_
        have ih9 := ih (j + 1) (xj + 1) M (by omega) (by rw [ej, nI_1]) hP hO
        rw [enx] at ih9
        first | exact ih9 | (rw [ej, jshl_1 (by omega), fa_or]; rw [ej] at ih9; exact ih9)
      · refine ok_aload_n (pc := 65) dX5_reachedBehind_65 rfl ?_
        refine ok_aload (pc := 66) dX5_reachedBehind_66 rfl ?_
        refine ok_iload (pc := 68) dX5_reachedBehind_68 rfl ?_
        refine ok_iload_n (pc := 70) dX5_reachedBehind_70 rfl ?_
        refine ok_iload_n (pc := 71) dX5_reachedBehind_71 rfl ?_
        refine ok_callVi4 (pc := 72) (d' := 3) dX5_reachedBehind_72 vl_X5_197 hP.o rfl rfl rfl (by decide) ?_
        refine c_standsAt hP hI hpe q0 hK hq j tm ej et (by omega) ht (fun M hP hO2 => ?_)
        have hO := hO.trans hO2
        refine ok_if_eq (pc := 75) 87 dX5_reachedBehind_75 (by decide) (fun cc_75 => ?_) (fun cc_75 => ?_)
        · have cq_75 := bI_0.mp cc_75
          rw [et] at cq_75
          have enx : gi σ q0 tm w (go σ S tm w q0) (j + 1) = (gi σ q0 tm w (go σ S tm w q0) j) := if_neg (by rw [cq_75]; decide)
          refine ok_iinc7 (pc := 87) (v := 1) dX5_reachedBehind_87 (by decide) (by decide) rfl ?_
          refine ok_goto (pc := 90) 46 dX5_reachedBehind_90 (by decide) ?_
          have ih9 := ih (j + 1) (xj + 1) M (by omega) (by rw [ej, nI_1]) hP hO
          rw [enx] at ih9
          first | exact ih9 | (rw [ej, jshl_1 (by omega), fa_or]; rw [ej] at ih9; exact ih9)
        · have cq_75 := bI_n0.mp cc_75
          rw [et] at cq_75
          have enx : gi σ q0 tm w (go σ S tm w q0) (j + 1) = (gi σ q0 tm w (go σ S tm w q0) j) ||| 2 ^ j := if_pos cq_75
          refine ok_iload (pc := 78) dX5_reachedBehind_78 rfl ?_
          refine ok_iconst (pc := 80) (v := 1) dX5_reachedBehind_80 (by decide) ?_
          refine ok_iload (pc := 81) dX5_reachedBehind_81 rfl ?_
          refine ok_ishl (pc := 83) dX5_reachedBehind_83 ?_
          refine ok_ior (pc := 84) dX5_reachedBehind_84 ?_
          refine ok_istore4 (pc := 85) dX5_reachedBehind_85 (by decide) rfl ?_
          refine ok_iinc7 (pc := 87) (v := 1) dX5_reachedBehind_87 (by decide) (by decide) rfl ?_
          refine ok_goto (pc := 90) 46 dX5_reachedBehind_90 (by decide) ?_
          have ih9 := ih (j + 1) (xj + 1) M (by omega) (by rw [ej, nI_1]) hP hO
          rw [enx] at ih9
          first | exact ih9 | (rw [ej, jshl_1 (by omega), fa_or]; rw [ej] at ih9; exact ih9)

set_option maxHeartbeats 1000000 in
theorem l_rb {Γ : Cx} {p e z sz : Nat} {σ : Rw} {K : Int32 → Wd → Prop} {M0 : Nat → Option va_E} (hI : Inv σ) (hpe : p + 26 ≤ e) {xS w xt : Int32} (S tm : Nat) (eS : xS = nI S) (hS : S < 2 ^ 9) (et : xt = nI tm) (ht : tm < 2 ^ 30) (k : ∀ M', PstR Γ p e z σ M' → Off p 26 M0 M' → K (nI (go σ S tm w (cK σ))) (M', sz)) : ∀ (n : Nat) (j : Nat) (xi : Int32) (M : Nat → Option va_E), j + n = cK σ → xi = nI j → PstR Γ p e z σ M → Off p 26 M0 M → Ok Γ mX5_reachedBehind 4 0 6 [some (.ref p), some (.int xS), some (.int w), some (.int xt), some (.int (nI (go σ S tm w j))), some (.int xi), none, none] [] (M, sz) (ci K) := by
  obtain ⟨⟨⟨eH, lH⟩, ⟨eK, lK⟩, ⟨eL, lL⟩, ⟨eA, lA⟩, ⟨eT, lT⟩⟩, iK, iH, iW, iL, iO, iB, hT⟩ := id hI
  
  intro n
  induction n with
  | zero =>
    intro j xi M h1 ei hP hO
    refine ok_iload (pc := 6) dX5_reachedBehind_6 rfl ?_
    refine ok_aload_n (pc := 8) dX5_reachedBehind_8 rfl ?_
    refine ok_getf (pc := 9) dX5_reachedBehind_9 fl_X5_80 hP.o rfl ?_
    refine ok_icmp_ge (pc := 12) 99 dX5_reachedBehind_12 (by decide) (fun cc_12 => ?_) (fun cc_12 => ?_)
    · have ce_12 := Int32.not_lt.mpr cc_12
      have e9 : j = cK σ := by omega
      subst e9
      refine ok_iload (pc := 99) dX5_reachedBehind_99 rfl ?_
      refine ok_iret (pc := 101) dX5_reachedBehind_101 rfl ?_
      exact k _ hP hO
    · exact absurd (by rw [eK, ei]; exact nI_le (by omega) (by omega)) cc_12
  | succ n ih =>
    intro j xi M h1 ei hP hO
    refine ok_iload (pc := 6) dX5_reachedBehind_6 rfl ?_
    refine ok_aload_n (pc := 8) dX5_reachedBehind_8 rfl ?_
    refine ok_getf (pc := 9) dX5_reachedBehind_9 fl_X5_80 hP.o rfl ?_
    refine ok_icmp_ge (pc := 12) 99 dX5_reachedBehind_12 (by decide) (fun cc_12 => ?_) (fun cc_12 => ?_)
    · rw [eK, ei] at cc_12
      exact absurd cc_12 (nI_ge (by omega) (by omega))
    · have ce_12 := Int32.not_le.mp cc_12
      refine ok_aload_n (pc := 15) dX5_reachedBehind_15 rfl ?_
      refine ok_iload (pc := 16) dX5_reachedBehind_16 rfl ?_
      refine ok_callVr1 (pc := 18) (d' := 0) dX5_reachedBehind_18 vl_X5_201 hP.o rfl rfl rfl (by decide) ?_
      refine c_kiteAt hP eK lK (fun q9 exq9 lxq9 hK9 => ?_) (fun h9 => absurd h9 (by rw [wi_T eK (by omega) (by rw [ei]; exact nI_pos' (by omega)) (by rw [ei, eK]; exact nI_lt (by omega) (by omega))]; decide))
      have ejq9 : iN xi = j := by rw [ei]; exact nI_clamp (by omega)
      rw [ejq9] at hK9 lxq9
      refine ok_astore6 (pc := 21) dX5_reachedBehind_21 (by decide) rfl ?_
      refine ok_aload (pc := 23) dX5_reachedBehind_23 rfl ?_
      refine ok_ifnull (pc := 25) dX5_reachedBehind_25 ?_
      refine ok_iload_n (pc := 28) dX5_reachedBehind_28 rfl ?_
      refine ok_aload (pc := 29) dX5_reachedBehind_29 rfl ?_
      obtain ⟨⟨ehm, hmH⟩, -⟩ := iK j (by omega)
      refine ok_getf (pc := 31) dX5_reachedBehind_31 (flk_X5_157 _) hK9.2 rfl ?_
      refine ok_ishr (pc := 34) dX5_reachedBehind_34 ?_
      refine ok_iconst (pc := 35) (v := 1) dX5_reachedBehind_35 (by decide) ?_
      refine ok_iand (pc := 36) dX5_reachedBehind_36 ?_
      refine ok_if_ne (pc := 37) 43 dX5_reachedBehind_37 (by decide) (fun cc_37 => ?_) (fun cc_37 => ?_)
      · rw [eS, ehm, hb_ne (by omega) (by omega)] at cc_37
        have enx : go σ S tm w (j + 1) = gi σ j tm w (go σ S tm w j) (cH σ) := if_pos (b_tr cc_37)
        refine ok_iconst (pc := 43) (v := 0) dX5_reachedBehind_43 (by decide) ?_
        refine ok_istore7 (pc := 44) dX5_reachedBehind_44 (by decide) rfl ?_
        refine l_rb2 hI hpe S tm eS hS et ht j hK9 (by omega) (fun M9 hP9 hO9 => ?_) (cH σ) 0 _ M (by omega) rfl hP Off.rfl'
        refine ok_iinc5 (pc := 93) (v := 1) dX5_reachedBehind_93 (by decide) (by decide) rfl ?_
        refine ok_goto (pc := 96) 6 dX5_reachedBehind_96 (by decide) ?_
        refine ok_drop6 ?_
        refine ok_drop7 ?_
        have ih9 := ih (j + 1) (xi + 1) M9 (by omega) (by rw [ei, nI_1]) hP9 (hO.trans hO9)
        rw [enx] at ih9
        exact ih9
      · rw [eS, ehm, hb_ne (by omega) (by omega)] at cc_37
        have enx : go σ S tm w (j + 1) = go σ S tm w j := if_neg (by rw [cc_37]; decide)
        refine ok_goto (pc := 40) 93 dX5_reachedBehind_40 (by decide) ?_
        refine ok_iinc5 (pc := 93) (v := 1) dX5_reachedBehind_93 (by decide) (by decide) rfl ?_
        refine ok_goto (pc := 96) 6 dX5_reachedBehind_96 (by decide) ?_
        refine ok_drop6 ?_
        have ih9 := ih (j + 1) (xi + 1) M (by omega) (by rw [ei, nI_1]) hP hO
        rw [enx] at ih9
        exact ih9

set_option maxHeartbeats 1000000 in
theorem c_reachedBehind {Γ : Cx} {p e z sz : Nat} {σ : Rw} {M : Nat → Option va_E} {K : Int32 → Wd → Prop} (hP : PstR Γ p e z σ M) (hI : Inv σ) (hpe : p + 26 ≤ e) {xS w xt : Int32} (S tm : Nat) (eS : xS = nI S) (hS : S < 2 ^ 9) (et : xt = nI tm) (ht : tm < 2 ^ 30) (k : ∀ M', PstR Γ p e z σ M' → Off p 26 M M' → K (nI (go σ S tm w (cK σ))) (M', sz)) : Spec Γ mX5_reachedBehind 4 0 [.ref p, .int xS, .int w, .int xt] (M, sz) (ci K) := by
  refine spec_in [some (.ref p), some (.int xS), some (.int w), some (.int xt), none, none, none, none] 4 (by decide) rfl rfl ?_
  refine ok_iload_n (pc := 0) dX5_reachedBehind_0 rfl ?_
  refine ok_istore4 (pc := 1) dX5_reachedBehind_1 (by decide) rfl ?_
  refine ok_iconst (pc := 3) (v := 0) dX5_reachedBehind_3 (by decide) ?_
  refine ok_istore5 (pc := 4) dX5_reachedBehind_4 (by decide) rfl ?_
  subst eS
  exact l_rb hI hpe S tm rfl hS et ht k (cK σ) 0 _ M (by omega) rfl hP Off.rfl'

set_option maxHeartbeats 1000000 in
theorem l_fewest {Γ : Cx} {p e z sz : Nat} {σ : Rw} {K : Int32 → Wd → Prop} {M0 : Nat → Option va_E} (hI : Inv σ) (hpe : p + 26 ≤ e) {xf xt w xl : Int32} (f t lim : Nat) (ef : xf = nI f) (et : xt = nI t) (el : xl = nI lim) (hf : f < 9) (ht : t < 9) (hlim : lim ≤ 72) (w0 : 0 ≤ w) (w9 : w ≤ 999) (hT9 : cT σ ≤ 10000) (A0 : Int32) (k : ∀ M', PstR Γ p e z σ M' → Off p 26 M0 M' → K (A0) (M', sz)) : ∀ (n : Nat) (j : Nat) (i0 : Nat) (xd : Int32) (xj : Int32) (M : Nat → Option va_E), j + n = lim → xj = nI j → xd = nI i0 → i0 ≤ j → i0 ≤ 24 → (∀ q, q ≤ i0 → srS σ f w (j - q) = srS σ f w j) → (0 < j → (srS σ f w j).testBit t = false) → soA σ f t w n j = A0 → PstR Γ p e z σ M → Off p 26 M0 M → Ok Γ mX5_fewestHours 5 0 11 [some (.ref p), some (.int xf), some (.int xt), some (.int w), some (.int xl), some (.int (nI (srS σ f w j))), some (.int xd), some (.int xj), none] [] (M, sz) (ci K) := by
  obtain ⟨⟨⟨eH, lH⟩, ⟨eK, lK⟩, ⟨eL, lL⟩, ⟨eA, lA⟩, ⟨eT, lT⟩⟩, iK, iH, iW, iL, iO, iB, hT⟩ := id hI
  have hsr := srS_lt (σ := σ) (w := w) hf lH
  
  intro n
  induction n with
  | zero =>
    intro j i0 xd xj M h1 ej ed hi hi4 hid hb hA0 hP hO
    refine ok_iload (pc := 11) dX5_fewestHours_11 rfl ?_
    refine ok_iload (pc := 13) dX5_fewestHours_13 rfl ?_
    refine ok_icmp_ge (pc := 15) 82 dX5_fewestHours_15 (by decide) (fun cc_15 => ?_) (fun cc_15 => ?_)
    · have ce_15 := Int32.not_lt.mpr cc_15
      have hA1 : (-1 : Int32) = A0 := hA0
      rw [← hA1] at k
      refine ok_iconst (pc := 82) (v := -1) dX5_fewestHours_82 (by decide) ?_
      refine ok_iret (pc := 83) dX5_fewestHours_83 rfl ?_
      exact k _ hP hO
    · exact absurd (by rw [el, ej]; exact nI_le (by omega) (by omega)) cc_15
  | succ n ih =>
    intro j i0 xd xj M h1 ej ed hi hi4 hid hb hA0 hP hO
    refine ok_iload (pc := 11) dX5_fewestHours_11 rfl ?_
    refine ok_iload (pc := 13) dX5_fewestHours_13 rfl ?_
    refine ok_icmp_ge (pc := 15) 82 dX5_fewestHours_15 (by decide) (fun cc_15 => ?_) (fun cc_15 => ?_)
    · rw [el, ej] at cc_15
      exact absurd cc_15 (nI_ge (by omega) (by omega))
    · have ce_15 := Int32.not_le.mp cc_15
      refine ok_iload (pc := 18) dX5_fewestHours_18 rfl ?_
      refine ok_bipush (pc := 20) (v := 24) dX5_fewestHours_20 (by decide) ?_
      refine ok_icmp_ge (pc := 22) 82 dX5_fewestHours_22 (by decide) (fun cc_22 => ?_) (fun cc_22 => ?_)
      · have ce_22 := Int32.not_lt.mpr cc_22
        have h24 : i0 = 24 := by
          rw [ed, fa_lit 24] at cc_22
          have h9 := (nI_leI (by omega) (by omega)).mp cc_22
          omega
        subst h24
        have hA1 : (-1 : Int32) = A0 := by
          rw [← hA0]
          exact (so_idle hI hi w0 w9 hid (hb (by omega)) 72 (by omega) (n + 1) 0 (by omega)).symm
        rw [← hA1] at k
        refine ok_iconst (pc := 82) (v := -1) dX5_fewestHours_82 (by decide) ?_
        refine ok_iret (pc := 83) dX5_fewestHours_83 rfl ?_
        first | exact k _ hP hO | (rw [ej, nI_1]; exact k _ hP hO)
      · have ce_22 := Int32.not_le.mp cc_22
        have h24 : i0 < 24 := by
          rcases Nat.lt_or_ge i0 24 with g | g
          · exact g
          · exact absurd (by rw [ed, fa_lit 24]; exact nI_le (by omega) (by omega)) cc_22
        refine ok_aload_n (pc := 25) dX5_fewestHours_25 rfl ?_
        refine ok_iload (pc := 26) dX5_fewestHours_26 rfl ?_
        refine ok_iload_n (pc := 28) dX5_fewestHours_28 rfl ?_
        refine ok_aload_n (pc := 29) dX5_fewestHours_29 rfl ?_
        refine ok_getf (pc := 30) dX5_fewestHours_30 fl_X5_93 hP.o rfl ?_
        refine ok_iload (pc := 33) dX5_fewestHours_33 rfl ?_
        refine ok_iadd (pc := 35) dX5_fewestHours_35 ?_
        refine ok_callVi3 (pc := 36) (d' := 4) dX5_fewestHours_36 vl_X5_269 hP.o rfl rfl rfl (by decide) ?_
        refine c_reachedBehind hP hI hpe (srS σ f w j) (cT σ + j) rfl (hsr j) (by rw [ej, eT]; exact nI_add _ _) (by omega) (fun M hP hO2 => ?_)
        have hO := hO.trans hO2
        have hs1 := hsr (j + 1)
        have esr : go σ (srS σ f w j) (cT σ + j) w (cK σ) = srS σ f w (j + 1) := rfl
        rw [esr]
        refine ok_istore8 (pc := 39) dX5_fewestHours_39 (by decide) rfl ?_
        refine ok_iload (pc := 41) dX5_fewestHours_41 rfl ?_
        refine ok_iload_n (pc := 43) dX5_fewestHours_43 rfl ?_
        refine ok_ishr (pc := 44) dX5_fewestHours_44 ?_
        refine ok_iconst (pc := 45) (v := 1) dX5_fewestHours_45 (by decide) ?_
        refine ok_iand (pc := 46) dX5_fewestHours_46 ?_
        refine ok_if_eq (pc := 47) 55 dX5_fewestHours_47 (by decide) (fun cc_47 => ?_) (fun cc_47 => ?_)
        · rw [et, hb_ne (by omega) (by omega)] at cc_47
          have hA1 : soA σ f t w n (j + 1) = A0 := by rw [← hA0]; exact (if_neg (by rw [cc_47]; decide)).symm
          refine ok_iload (pc := 55) dX5_fewestHours_55 rfl ?_
          refine ok_iload (pc := 57) dX5_fewestHours_57 rfl ?_
          refine ok_icmp_ne (pc := 59) 69 dX5_fewestHours_59 (by decide) (fun cc_59 => ?_) (fun cc_59 => ?_)
          · skip
            refine ok_iconst (pc := 69) (v := 0) dX5_fewestHours_69 (by decide) ?_
            refine ok_istore6 (pc := 70) dX5_fewestHours_70 (by decide) rfl ?_
            refine ok_iload (pc := 72) dX5_fewestHours_72 rfl ?_
            refine ok_istore5 (pc := 74) dX5_fewestHours_74 (by decide) rfl ?_
            refine ok_iinc7 (pc := 76) (v := 1) dX5_fewestHours_76 (by decide) (by decide) rfl ?_
            refine ok_goto (pc := 79) 11 dX5_fewestHours_79 (by decide) ?_
            refine ok_drop8 ?_
            first
              | exact ih (j + 1) (i0 + 1) _ _ M (by omega) (by rw [ej, nI_1]) (by rw [ed, nI_1]) (by omega) (by omega) (fun q9 h9 => by
                  rcases Nat.eq_zero_or_pos q9 with g | g
                  · rw [g, Nat.sub_zero]
                  · rw [show j + 1 - q9 = j - (q9 - 1) by omega, hid (q9 - 1) (by omega), e59]) (fun _ => cc_47) hA1 hP hO
              | exact ih (j + 1) 0 _ _ M (by omega) (by rw [ej, nI_1]) rfl (by omega) (by omega) (fun q9 h9 => by rw [Nat.le_zero.mp h9, Nat.sub_zero]) (fun _ => cc_47) hA1 hP hO
          · have hs0 := hsr j
            have e59 : srS σ f w (j + 1) = srS σ f w j := (nI_eq (by omega) (by omega)).mp cc_59
            refine ok_iload (pc := 62) dX5_fewestHours_62 rfl ?_
            refine ok_iconst (pc := 64) (v := 1) dX5_fewestHours_64 (by decide) ?_
            refine ok_iadd (pc := 65) dX5_fewestHours_65 ?_
            refine ok_goto (pc := 66) 70 dX5_fewestHours_66 (by decide) ?_
            refine ok_istore6 (pc := 70) dX5_fewestHours_70 (by decide) rfl ?_
            refine ok_iload (pc := 72) dX5_fewestHours_72 rfl ?_
            refine ok_istore5 (pc := 74) dX5_fewestHours_74 (by decide) rfl ?_
            refine ok_iinc7 (pc := 76) (v := 1) dX5_fewestHours_76 (by decide) (by decide) rfl ?_
            refine ok_goto (pc := 79) 11 dX5_fewestHours_79 (by decide) ?_
            refine ok_drop8 ?_
            first
              | exact ih (j + 1) (i0 + 1) _ _ M (by omega) (by rw [ej, nI_1]) (by rw [ed, nI_1]) (by omega) (by omega) (fun q9 h9 => by
                  rcases Nat.eq_zero_or_pos q9 with g | g
                  · rw [g, Nat.sub_zero]
                  · rw [show j + 1 - q9 = j - (q9 - 1) by omega, hid (q9 - 1) (by omega), e59]) (fun _ => cc_47) hA1 hP hO
              | exact ih (j + 1) 0 _ _ M (by omega) (by rw [ej, nI_1]) rfl (by omega) (by omega) (fun q9 h9 => by rw [Nat.le_zero.mp h9, Nat.sub_zero]) (fun _ => cc_47) hA1 hP hO
        · rw [et, hb_ne (by omega) (by omega)] at cc_47
          have hA1 : nI (j + 1) = A0 := by rw [← hA0]; exact (if_pos (b_tr cc_47)).symm
          rw [← hA1] at k
          refine ok_iload (pc := 50) dX5_fewestHours_50 rfl ?_
          refine ok_iconst (pc := 52) (v := 1) dX5_fewestHours_52 (by decide) ?_
          refine ok_iadd (pc := 53) dX5_fewestHours_53 ?_
          refine ok_iret (pc := 54) dX5_fewestHours_54 rfl ?_
          first | exact k _ hP hO | (rw [ej, nI_1]; exact k _ hP hO)

set_option maxHeartbeats 1000000 in
theorem c_fewestHours {Γ : Cx} {p e z sz : Nat} {σ : Rw} {M : Nat → Option va_E} {K : Int32 → Wd → Prop} (hP : PstR Γ p e z σ M) (hI : Inv σ) (hpe : p + 26 ≤ e) {xf xt w xl : Int32} (f t lim : Nat) (ef : xf = nI f) (et : xt = nI t) (el : xl = nI lim) (hf : f < 9) (ht : t < 9) (hlim : lim ≤ 72) (w0 : 0 ≤ w) (w9 : w ≤ 999) (hT9 : cT σ ≤ 10000) (k : ∀ M', PstR Γ p e z σ M' → Off p 26 M M' → K (soA σ f t w lim 0) (M', sz)) : Spec Γ mX5_fewestHours 5 0 [.ref p, .int xf, .int xt, .int w, .int xl] (M, sz) (ci K) := by
  refine spec_in [some (.ref p), some (.int xf), some (.int xt), some (.int w), some (.int xl), none, none, none, none] 4 (by decide) rfl rfl ?_
  refine ok_iconst (pc := 0) (v := 1) dX5_fewestHours_0 (by decide) ?_
  refine ok_iload_n (pc := 1) dX5_fewestHours_1 rfl ?_
  refine ok_ishl (pc := 2) dX5_fewestHours_2 ?_
  refine ok_istore5 (pc := 3) dX5_fewestHours_3 (by decide) rfl ?_
  refine ok_iconst (pc := 5) (v := 0) dX5_fewestHours_5 (by decide) ?_
  refine ok_istore6 (pc := 6) dX5_fewestHours_6 (by decide) rfl ?_
  refine ok_iconst (pc := 8) (v := 0) dX5_fewestHours_8 (by decide) ?_
  refine ok_istore7 (pc := 9) dX5_fewestHours_9 (by decide) rfl ?_
  rw [ef, jshl_1 (by omega), ← ef]
  exact l_fewest hI hpe f t lim ef et el hf ht hlim w0 w9 hT9 _ k lim 0 0 _ _ M (by omega) rfl rfl (by omega) (by omega) (fun q9 h9 => by rw [Nat.le_zero.mp h9]) (fun h9 => absurd h9 (by omega)) rfl hP Off.rfl'

theorem one_t (v : BitVec 32) : (v &&& 1#32 = 1#32) ↔ v.getLsbD 0 = true := by
  rw [BitVec.and_one_eq_setWidth_ofBool_getLsbD]
  cases v.getLsbD 0 <;> decide
theorem one_f (v : BitVec 32) : (v &&& 1#32 = 0#32) ↔ v.getLsbD 0 = false := by
  rw [BitVec.and_one_eq_setWidth_ofBool_getLsbD]
  cases v.getLsbD 0 <;> decide
theorem ione_t (x : Int32) : (x &&& 1 = 1) ↔ x.toBitVec.getLsbD 0 = true := by
  rw [← one_t, ← Int32.toBitVec_inj]
  exact Iff.rfl
theorem ione_f (x : Int32) : (x &&& 1 = 0) ↔ x.toBitVec.getLsbD 0 = false := by
  rw [← one_f, ← Int32.toBitVec_inj]
  exact Iff.rfl
theorem jshr_bv (T : Int32) {l : Nat} (h : l < 32) : (jshr T (nI l)).toBitVec = T.toBitVec.sshiftRight l := by
  unfold jshr
  rw [Int32.toBitVec_shiftRight]
  show T.toBitVec.sshiftRight _ = _
  rw [sh_l l h]
theorem jshr_0 (T : Int32) {l : Nat} (h : l < 32) : (jshr T (nI l)).toBitVec.getLsbD 0 = T.toBitVec.getLsbD l := by
  rw [jshr_bv T h, BitVec.getLsbD_sshiftRight, Nat.add_zero, if_pos h]
  simp
theorem tb_bit (T : Int32) {l : Nat} (h : l < 32) : tbI T l = T.toBitVec.getLsbD l := by
  unfold tbI
  rw [← jshr_0 T h]
  by_cases c : (jshr T (nI l)).toBitVec.getLsbD 0 = true
  · rw [c, decide_eq_true ((ione_t _).mpr c)]
  · rw [decide_eq_false (fun g => c ((ione_t _).mp g))]
    exact (Bool.eq_false_iff.mpr c).symm
theorem tb_z (T : Int32) {l : Nat} (h : l < 32) : (jshr T (nI l) &&& 1 = 0) ↔ tbI T l = false := by
  rw [tb_bit T h, ione_f, jshr_0 T h]
theorem tb_or (T U : Int32) {l : Nat} (h : l < 32) : tbI (T ||| U) l = (tbI T l || tbI U l) := by
  rw [tb_bit _ h, tb_bit _ h, tb_bit _ h]
  exact BitVec.getLsbD_or
theorem tb_m1 : ∀ l, l < 12 → tbI (jshl 1 (-1)) l = false := by decide
theorem fc_same {σ : Rw} (hI : Inv σ) {T U : Int32} (h : ∀ l, l < 12 → tbI T l = tbI U l) : ∀ n j, j + n ≤ cA σ → fcA σ T n j = fcA σ U n j
  | 0, _, _ => rfl
  | n + 1, j, hj => by
    have ih := fc_same hI h n (j + 1) (by omega)
    obtain ⟨⟨-, -, ⟨eL, lL⟩, -⟩, -, -, -, iL, iO, -⟩ := id hI
    obtain ⟨-, l1⟩ := iO j (by omega)
    have e9 : mayF σ T (orF σ j) = mayF σ U (orF σ j) := by
      unfold mayF
      rw [h _ (by omega)]
      by_cases c : lf σ (orF σ j) 3 < 0
      · rw [decide_eq_true c, Bool.true_or, Bool.true_or, Bool.true_or]
      · obtain ⟨-, l2⟩ := InvL.an iL l1 (Int32.not_lt.mp c)
        rw [h (anF σ (orF σ j)) (by omega)]
    unfold fcA
    rw [e9, ih]
theorem fc_in {σ : Rw} (hI : Inv σ) {T : Int32} : ∀ n j, j + n ≤ cA σ → fcA σ T n j = -1 ∨ ∃ l, l < cL σ ∧ fcA σ T n j = nI l
  | 0, _, _ => .inl rfl
  | n + 1, j, hj => by
    have ih := fc_in hI (T := T) n (j + 1) (by omega)
    obtain ⟨-, l1⟩ := hI.2.2.2.2.2.1 j (by omega)
    unfold fcA
    split
    · exact .inr ⟨_, l1, rfl⟩
    · exact ih

set_option maxHeartbeats 1000000 in
theorem l_ft60 {Γ : Cx} {p e z sz : Nat} {σ : Rw} {M : Nat → Option va_E} {K : Int32 → Wd → Prop} (hP : PstR Γ p e z σ M) {T xi x4 A0 : Int32} {fl : Bool} (k : K A0 (M, sz)) (j n : Nat) (hj : orF σ j < 12) (hmy : (decide (lf σ (orF σ j) 3 < 0) || !(arF σ (anF σ (orF σ j))) || tbI T (anF σ (orF σ j))) = fl) (hA0 : fcA σ T (n + 1) j = A0) (kk : fcA σ T n (j + 1) = A0 → Ok Γ mX5_firstThatCanBe 2 0 2 [some (.ref p), some (.int T), some (.int (xi + 1)), none, none, none] [] (M, sz) (ci K)) : Ok Γ mX5_firstThatCanBe 2 0 60 [some (.ref p), some (.int T), some (.int xi), some (.int (nI (orF σ j))), some (.int x4), none] [.int (bI fl)] (M, sz) (ci K) := by
  skip
  refine ok_istore5 (pc := 60) dX5_firstThatCanBe_60 (by decide) rfl ?_
  refine ok_iload (pc := 62) dX5_firstThatCanBe_62 rfl ?_
  refine ok_if_eq (pc := 64) 77 dX5_firstThatCanBe_64 (by decide) (fun cc_64 => ?_) (fun cc_64 => ?_)
  · have c64 := bI_0.mp cc_64
    have hA1 : fcA σ T n (j + 1) = A0 := by rw [← hA0]; exact (if_neg (by unfold mayF; rw [hmy, c64, Bool.and_false]; decide)).symm
    refine ok_iinc2 (pc := 77) (v := 1) dX5_firstThatCanBe_77 (by decide) (by decide) rfl ?_
    refine ok_goto (pc := 80) 2 dX5_firstThatCanBe_80 (by decide) ?_
    refine ok_drop3 ?_
    refine ok_drop4 ?_
    refine ok_drop5 ?_
    exact kk hA1
  · have c64 := b_tr (fun h => cc_64 (bI_0.mpr h))
    refine ok_iload_n (pc := 67) dX5_firstThatCanBe_67 rfl ?_
    refine ok_iload_n (pc := 68) dX5_firstThatCanBe_68 rfl ?_
    refine ok_ishr (pc := 69) dX5_firstThatCanBe_69 ?_
    refine ok_iconst (pc := 70) (v := 1) dX5_firstThatCanBe_70 (by decide) ?_
    refine ok_iand (pc := 71) dX5_firstThatCanBe_71 ?_
    refine ok_if_ne (pc := 72) 77 dX5_firstThatCanBe_72 (by decide) (fun cc_72 => ?_) (fun cc_72 => ?_)
    · rw [tb_z T (by omega)] at cc_72
      have hA1 : fcA σ T n (j + 1) = A0 := by rw [← hA0]; exact (if_neg (by unfold mayF; rw [b_tr cc_72, Bool.not_true, Bool.false_and]; decide)).symm
      refine ok_iinc2 (pc := 77) (v := 1) dX5_firstThatCanBe_77 (by decide) (by decide) rfl ?_
      refine ok_goto (pc := 80) 2 dX5_firstThatCanBe_80 (by decide) ?_
      refine ok_drop3 ?_
      refine ok_drop4 ?_
      refine ok_drop5 ?_
      exact kk hA1
    · rw [tb_z T (by omega)] at cc_72
      have hA1 : nI (orF σ j) = A0 := by rw [← hA0]; exact (if_pos (by unfold mayF; rw [hmy, c64, cc_72]; rfl)).symm
      subst hA1
      refine ok_iload_n (pc := 75) dX5_firstThatCanBe_75 rfl ?_
      refine ok_iret (pc := 76) dX5_firstThatCanBe_76 rfl ?_
      exact k

set_option maxHeartbeats 1000000 in
theorem l_firstThat {Γ : Cx} {p e z sz : Nat} {σ : Rw} {M : Nat → Option va_E} {K : Int32 → Wd → Prop} (hP : PstR Γ p e z σ M) (hI : Inv σ) {T : Int32} (A0 : Int32) (k : K A0 (M, sz)) : ∀ (n : Nat) (j : Nat) (xi : Int32), j + n = cA σ → xi = nI j → fcA σ T n j = A0 → Ok Γ mX5_firstThatCanBe 2 0 2 [some (.ref p), some (.int T), some (.int xi), none, none, none] [] (M, sz) (ci K) := by
  obtain ⟨⟨⟨eH, lH⟩, ⟨eK, lK⟩, ⟨eL, lL⟩, ⟨eA, lA⟩, ⟨eT, lT⟩⟩, iK, iH, iW, iL, iO, iB, hT⟩ := id hI
  have lAL : cA σ ≤ cL σ := by rw [lA]; exact arN_le σ _
  
  intro n
  induction n with
  | zero =>
    intro j xi h1 ei hA0
    refine ok_iload_n (pc := 2) dX5_firstThatCanBe_2 rfl ?_
    refine ok_aload_n (pc := 3) dX5_firstThatCanBe_3 rfl ?_
    refine ok_getf (pc := 4) dX5_firstThatCanBe_4 fl_X5_41 hP.o rfl ?_
    refine ok_getf (pc := 7) dX5_firstThatCanBe_7 fl_X5_241 hP.ar.1 rfl ?_
    refine ok_icmp_ge (pc := 10) 83 dX5_firstThatCanBe_10 (by decide) (fun cc_10 => ?_) (fun cc_10 => ?_)
    · have ce_10 := Int32.not_lt.mpr cc_10
      have hA1 : (-1 : Int32) = A0 := hA0
      subst hA1
      refine ok_iconst (pc := 83) (v := -1) dX5_firstThatCanBe_83 (by decide) ?_
      refine ok_iret (pc := 84) dX5_firstThatCanBe_84 rfl ?_
      exact k
    · exact absurd (by rw [eA, ei]; exact nI_le (by omega) (by omega)) cc_10
  | succ n ih =>
    intro j xi h1 ei hA0
    refine ok_iload_n (pc := 2) dX5_firstThatCanBe_2 rfl ?_
    refine ok_aload_n (pc := 3) dX5_firstThatCanBe_3 rfl ?_
    refine ok_getf (pc := 4) dX5_firstThatCanBe_4 fl_X5_41 hP.o rfl ?_
    refine ok_getf (pc := 7) dX5_firstThatCanBe_7 fl_X5_241 hP.ar.1 rfl ?_
    refine ok_icmp_ge (pc := 10) 83 dX5_firstThatCanBe_10 (by decide) (fun cc_10 => ?_) (fun cc_10 => ?_)
    · rw [eA, ei] at cc_10
      exact absurd cc_10 (nI_ge (by omega) (by omega))
    · have ce_10 := Int32.not_le.mp cc_10
      refine ok_aload_n (pc := 13) dX5_firstThatCanBe_13 rfl ?_
      refine ok_getf (pc := 14) dX5_firstThatCanBe_14 fl_X5_41 hP.o rfl ?_
      refine ok_iload_n (pc := 17) dX5_firstThatCanBe_17 rfl ?_
      refine ok_callVi1 (pc := 18) (d' := 0) dX5_firstThatCanBe_18 vl_X5_272 hP.ar.1 rfl rfl rfl (by decide) ?_
      obtain ⟨-, fa, fa1, fa2⟩ := id hP.ar
      refine c_get hP.ar.1 fa1 (cA σ) eA (by omega) (by decide) j ei (by omega) ?_
      obtain ⟨eor, lor⟩ := iO j (by omega)
      have e9 : fa j = nI (orF σ j) := (fa2 j (by show j < cA σ; omega)).trans eor
      rw [e9]
      refine ok_istore_n3 (pc := 21) dX5_firstThatCanBe_21 (by decide) rfl ?_
      refine ok_aload_n (pc := 22) dX5_firstThatCanBe_22 rfl ?_
      refine ok_iload_n (pc := 23) dX5_firstThatCanBe_23 rfl ?_
      refine ok_iconst (pc := 24) (v := 3) dX5_firstThatCanBe_24 (by decide) ?_
      refine ok_callVi2 (pc := 25) (d' := 1) dX5_firstThatCanBe_25 vl_X5_231 hP.o rfl rfl rfl (by decide) ?_
      refine c_ofOne hP eL lL (orF σ j) 3 rfl rfl lor (by decide) ?_
      refine ok_istore4 (pc := 28) dX5_firstThatCanBe_28 (by decide) rfl ?_
      refine ok_iload (pc := 30) dX5_firstThatCanBe_30 rfl ?_
      refine ok_if_lt (pc := 32) 55 dX5_firstThatCanBe_32 (by decide) (fun cc_32 => ?_) (fun cc_32 => ?_)
      · have ce_32 := Int32.not_le.mpr cc_32
        have hmy : (decide (lf σ (orF σ j) 3 < 0) || !(arF σ (anF σ (orF σ j))) || tbI T (anF σ (orF σ j))) = true := by rw [decide_eq_true cc_32, Bool.true_or, Bool.true_or]
        refine ok_iconst (pc := 55) (v := 1) dX5_firstThatCanBe_55 (by decide) ?_
        refine ok_goto (pc := 56) 60 dX5_firstThatCanBe_56 (by decide) ?_
        first
          | exact l_ft60 (fl := true) hP k j n (by omega) hmy hA0 (fun hA1 => ih (j + 1) _ (by omega) (by rw [ei, nI_1]) hA1)
          | exact l_ft60 (fl := false) hP k j n (by omega) hmy hA0 (fun hA1 => ih (j + 1) _ (by omega) (by rw [ei, nI_1]) hA1)
      · have ce_32 := Int32.not_lt.mp cc_32
        obtain ⟨ean, lan⟩ := InvL.an iL lor (Int32.not_lt.mp cc_32)
        refine ok_aload_n (pc := 35) dX5_firstThatCanBe_35 rfl ?_
        refine ok_iload (pc := 36) dX5_firstThatCanBe_36 rfl ?_
        refine ok_bipush (pc := 38) (v := 6) dX5_firstThatCanBe_38 (by decide) ?_
        refine ok_callVi2 (pc := 40) (d' := 1) dX5_firstThatCanBe_40 vl_X5_231 hP.o rfl rfl rfl (by decide) ?_
        refine c_ofOne hP eL lL (anF σ (orF σ j)) 6 ean rfl (by omega) (by decide) ?_
        refine ok_if_lt (pc := 43) 55 dX5_firstThatCanBe_43 (by decide) (fun cc_43 => ?_) (fun cc_43 => ?_)
        · have ce_43 := Int32.not_le.mpr cc_43
          have hmy : (decide (lf σ (orF σ j) 3 < 0) || !(arF σ (anF σ (orF σ j))) || tbI T (anF σ (orF σ j))) = true := by unfold arF; rw [decide_eq_false (Int32.not_le.mpr cc_43), Bool.not_false, Bool.or_true, Bool.true_or]
          refine ok_iconst (pc := 55) (v := 1) dX5_firstThatCanBe_55 (by decide) ?_
          refine ok_goto (pc := 56) 60 dX5_firstThatCanBe_56 (by decide) ?_
          first
            | exact l_ft60 (fl := true) hP k j n (by omega) hmy hA0 (fun hA1 => ih (j + 1) _ (by omega) (by rw [ei, nI_1]) hA1)
            | exact l_ft60 (fl := false) hP k j n (by omega) hmy hA0 (fun hA1 => ih (j + 1) _ (by omega) (by rw [ei, nI_1]) hA1)
        · have ce_43 := Int32.not_lt.mp cc_43
          refine ok_iload_n (pc := 46) dX5_firstThatCanBe_46 rfl ?_
          refine ok_iload (pc := 47) dX5_firstThatCanBe_47 rfl ?_
          refine ok_ishr (pc := 49) dX5_firstThatCanBe_49 ?_
          refine ok_iconst (pc := 50) (v := 1) dX5_firstThatCanBe_50 (by decide) ?_
          refine ok_iand (pc := 51) dX5_firstThatCanBe_51 ?_
          refine ok_if_eq (pc := 52) 59 dX5_firstThatCanBe_52 (by decide) (fun cc_52 => ?_) (fun cc_52 => ?_)
          · rw [ean, tb_z T (by omega)] at cc_52
            have hmy : (decide (lf σ (orF σ j) 3 < 0) || !(arF σ (anF σ (orF σ j))) || tbI T (anF σ (orF σ j))) = false := by unfold arF; rw [cc_52, decide_eq_true (Int32.not_lt.mp cc_43), decide_eq_false cc_32]; rfl
            refine ok_iconst (pc := 59) (v := 0) dX5_firstThatCanBe_59 (by decide) ?_
            first
              | exact l_ft60 (fl := true) hP k j n (by omega) hmy hA0 (fun hA1 => ih (j + 1) _ (by omega) (by rw [ei, nI_1]) hA1)
              | exact l_ft60 (fl := false) hP k j n (by omega) hmy hA0 (fun hA1 => ih (j + 1) _ (by omega) (by rw [ei, nI_1]) hA1)
          · rw [ean, tb_z T (by omega)] at cc_52
            have hmy : (decide (lf σ (orF σ j) 3 < 0) || !(arF σ (anF σ (orF σ j))) || tbI T (anF σ (orF σ j))) = true := by rw [b_tr cc_52, Bool.or_true]
            refine ok_iconst (pc := 55) (v := 1) dX5_firstThatCanBe_55 (by decide) ?_
            refine ok_goto (pc := 56) 60 dX5_firstThatCanBe_56 (by decide) ?_
            first
              | exact l_ft60 (fl := true) hP k j n (by omega) hmy hA0 (fun hA1 => ih (j + 1) _ (by omega) (by rw [ei, nI_1]) hA1)
              | exact l_ft60 (fl := false) hP k j n (by omega) hmy hA0 (fun hA1 => ih (j + 1) _ (by omega) (by rw [ei, nI_1]) hA1)

set_option maxHeartbeats 1000000 in
theorem c_firstThat {Γ : Cx} {p e z sz : Nat} {σ : Rw} {M : Nat → Option va_E} {K : Int32 → Wd → Prop} (hP : PstR Γ p e z σ M) (hI : Inv σ) {T : Int32} (k : K (fcA σ T (cA σ) 0) (M, sz)) : Spec Γ mX5_firstThatCanBe 2 0 [.ref p, .int T] (M, sz) (ci K) := by
  refine spec_in [some (.ref p), some (.int T), none, none, none, none] 4 (by decide) rfl rfl ?_
  refine ok_iconst (pc := 0) (v := 0) dX5_firstThatCanBe_0 (by decide) ?_
  refine ok_istore_n2 (pc := 1) dX5_firstThatCanBe_1 (by decide) rfl ?_
  exact l_firstThat hP hI _ k (cA σ) 0 _ (by omega) rfl rfl

def mdC (σ : Rw) : Nat → Int32
  | 0 => 0
  | n + 1 => if fcA σ (mdC σ n) (cA σ) 0 < 0 then mdC σ n else mdC σ n ||| jshl 1 (fcA σ (mdC σ n) (cA σ) 0)
theorem md_same {σ : Rw} (hI : Inv σ) : ∀ n l, l < 12 → tbI (mdC σ n) l = tbI (mdT σ n) l
  | 0, _, _ => rfl
  | n + 1, l, hl => by
    have ih := md_same hI n
    have e9 := fc_same hI ih (cA σ) 0 (by omega)
    have lL : cL σ ≤ 12 := hI.1.2.2.1.2
    show tbI (if fcA σ (mdC σ n) (cA σ) 0 < 0 then mdC σ n else mdC σ n ||| jshl 1 (fcA σ (mdC σ n) (cA σ) 0)) l = tbI (mdT σ n ||| jshl 1 (fcA σ (mdT σ n) (cA σ) 0)) l
    rw [e9]
    rcases fc_in hI (T := mdT σ n) (cA σ) 0 (by omega) with g | ⟨q, hq, g⟩
    · rw [g, if_pos (by decide), tb_or _ _ (by omega), tb_m1 l hl, Bool.or_false]
      exact ih l hl
    · rw [g, if_neg (Int32.not_lt.mpr (nI_pos' (by omega))), tb_or _ _ (by omega), tb_or _ _ (by omega), ih l hl]
theorem md_eq {σ : Rw} (hI : Inv σ) (j : Nat) : fcA σ (mdC σ j) (cA σ) 0 = mdN σ j := fc_same hI (md_same hI j) (cA σ) 0 (by omega)

set_option maxHeartbeats 1000000 in
theorem l_mended {Γ : Cx} {p e z sz : Nat} {σ : Rw} {M : Nat → Option va_E} {K : Int32 → Wd → Prop} (hP : PstR Γ p e z σ M) (hI : Inv σ) {xn : Int32} (n0 : Nat) (en : xn = nI n0) (hn : n0 < cA σ) (k : K (mdN σ n0) (M, sz)) : ∀ (n : Nat) (j : Nat) (x3 : Int32) (xi : Int32), j + n = n0 + 1 → xi = nI j → (n = 0 → x3 = mdN σ n0) → Ok Γ mX5_mendedAt 3 0 7 [some (.ref p), some (.int xn), some (.int (mdC σ j)), some (.int x3), some (.int xi)] [] (M, sz) (ci K) := by
  obtain ⟨⟨⟨eH, lH⟩, ⟨eK, lK⟩, ⟨eL, lL⟩, ⟨eA, lA⟩, ⟨eT, lT⟩⟩, iK, iH, iW, iL, iO, iB, hT⟩ := id hI
  have lAL : cA σ ≤ cL σ := by rw [lA]; exact arN_le σ _
  
  intro n
  induction n with
  | zero =>
    intro j x3 xi h1 ei hx
    refine ok_iload (pc := 7) dX5_mendedAt_7 rfl ?_
    refine ok_iload_n (pc := 9) dX5_mendedAt_9 rfl ?_
    refine ok_icmp_gt (pc := 10) 47 dX5_mendedAt_10 (by decide) (fun cc_10 => ?_) (fun cc_10 => ?_)
    · have ce_10 := Int32.not_le.mpr cc_10
      have hx9 := hx rfl
      rw [hx9]
      refine ok_iload_n (pc := 47) dX5_mendedAt_47 rfl ?_
      refine ok_iret (pc := 48) dX5_mendedAt_48 rfl ?_
      exact k
    · exact absurd (by rw [en, ei]; exact nI_lt (by omega) (by omega)) cc_10
  | succ n ih =>
    intro j x3 xi h1 ei hx
    refine ok_iload (pc := 7) dX5_mendedAt_7 rfl ?_
    refine ok_iload_n (pc := 9) dX5_mendedAt_9 rfl ?_
    refine ok_icmp_gt (pc := 10) 47 dX5_mendedAt_10 (by decide) (fun cc_10 => ?_) (fun cc_10 => ?_)
    · rw [en, ei] at cc_10
      exact absurd cc_10 (Int32.not_lt.mpr (nI_le (by omega) (by omega)))
    · have ce_10 := Int32.not_lt.mp cc_10
      refine ok_iload (pc := 13) dX5_mendedAt_13 rfl ?_
      refine ok_aload_n (pc := 15) dX5_mendedAt_15 rfl ?_
      refine ok_getf (pc := 16) dX5_mendedAt_16 fl_X5_41 hP.o rfl ?_
      refine ok_getf (pc := 19) dX5_mendedAt_19 fl_X5_241 hP.ar.1 rfl ?_
      refine ok_icmp_ge (pc := 22) 47 dX5_mendedAt_22 (by decide) (fun cc_22 => ?_) (fun cc_22 => ?_)
      · rw [eA, ei] at cc_22
        exact absurd cc_22 (nI_ge (by omega) (by omega))
      · have ce_22 := Int32.not_le.mp cc_22
        refine ok_aload_n (pc := 25) dX5_mendedAt_25 rfl ?_
        refine ok_iload_n (pc := 26) dX5_mendedAt_26 rfl ?_
        refine ok_callVi1 (pc := 27) (d' := 2) dX5_mendedAt_27 vl_X5_275 hP.o rfl rfl rfl (by decide) ?_
        refine c_firstThat hP hI ?_
        refine ok_istore_n3 (pc := 30) dX5_mendedAt_30 (by decide) rfl ?_
        refine ok_iload_n (pc := 31) dX5_mendedAt_31 rfl ?_
        refine ok_if_lt (pc := 32) 41 dX5_mendedAt_32 (by decide) (fun cc_32 => ?_) (fun cc_32 => ?_)
        · have ce_32 := Int32.not_le.mpr cc_32
          have enx : mdC σ (j + 1) = mdC σ j := if_pos cc_32
          refine ok_iinc4 (pc := 41) (v := 1) dX5_mendedAt_41 (by decide) (by decide) rfl ?_
          refine ok_goto (pc := 44) 7 dX5_mendedAt_44 (by decide) ?_
          have ih9 := ih (j + 1) (fcA σ (mdC σ j) (cA σ) 0) (xi + 1) (by omega) (by rw [ei, nI_1]) (fun h9 => by rw [md_eq hI j, show j = n0 by omega])
          rw [enx] at ih9
          exact ih9
        · have ce_32 := Int32.not_lt.mp cc_32
          have enx : mdC σ (j + 1) = mdC σ j ||| jshl 1 (fcA σ (mdC σ j) (cA σ) 0) := if_neg cc_32
          refine ok_iload_n (pc := 35) dX5_mendedAt_35 rfl ?_
          refine ok_iconst (pc := 36) (v := 1) dX5_mendedAt_36 (by decide) ?_
          refine ok_iload_n (pc := 37) dX5_mendedAt_37 rfl ?_
          refine ok_ishl (pc := 38) dX5_mendedAt_38 ?_
          refine ok_ior (pc := 39) dX5_mendedAt_39 ?_
          refine ok_istore_n2 (pc := 40) dX5_mendedAt_40 (by decide) rfl ?_
          refine ok_iinc4 (pc := 41) (v := 1) dX5_mendedAt_41 (by decide) (by decide) rfl ?_
          refine ok_goto (pc := 44) 7 dX5_mendedAt_44 (by decide) ?_
          have ih9 := ih (j + 1) (fcA σ (mdC σ j) (cA σ) 0) (xi + 1) (by omega) (by rw [ei, nI_1]) (fun h9 => by rw [md_eq hI j, show j = n0 by omega])
          rw [enx] at ih9
          exact ih9

set_option maxHeartbeats 1000000 in
theorem c_mendedAt {Γ : Cx} {p e z sz : Nat} {σ : Rw} {M : Nat → Option va_E} {K : Int32 → Wd → Prop} (hP : PstR Γ p e z σ M) (hI : Inv σ) {xn : Int32} (n0 : Nat) (en : xn = nI n0) (hn : n0 < cA σ) (k : K (mdN σ n0) (M, sz)) : Spec Γ mX5_mendedAt 3 0 [.ref p, .int xn] (M, sz) (ci K) := by
  refine spec_in [some (.ref p), some (.int xn), none, none, none] 3 (by decide) rfl rfl ?_
  refine ok_iconst (pc := 0) (v := 0) dX5_mendedAt_0 (by decide) ?_
  refine ok_istore_n2 (pc := 1) dX5_mendedAt_1 (by decide) rfl ?_
  refine ok_iconst (pc := 2) (v := -1) dX5_mendedAt_2 (by decide) ?_
  refine ok_istore_n3 (pc := 3) dX5_mendedAt_3 (by decide) rfl ?_
  refine ok_iconst (pc := 4) (v := 0) dX5_mendedAt_4 (by decide) ?_
  refine ok_istore4 (pc := 5) dX5_mendedAt_5 (by decide) rfl ?_
  exact l_mended hP hI n0 en hn k (n0 + 1) 0 _ _ (by omega) rfl (fun h9 => absurd h9 (by omega))
