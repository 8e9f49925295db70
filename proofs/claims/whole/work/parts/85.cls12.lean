set_option maxHeartbeats 1000000 in
theorem c_rcopy {Γ : Cx} {r c r2 c2 sz n n2 : Nat} {s s2 : Int32} {f f2 : Rw} {M : Nat → Option va_E} (h0 : M r = some (.inr (6, [.ref c, .int s]))) (h1 : M c = aI Γ n f) (g0 : M r2 = some (.inr (6, [.ref c2, .int s2]))) (g1 : M c2 = aI Γ n2 f2) {K : Wd → Prop} (hne : r ≠ c) (q : Nat) (es : s2 = nI q) (hq : q ≤ n) (hq2 : q ≤ n2) (hn : n < 2 ^ 30) (hn2 : n2 < 2 ^ 30) (k : K (va_up (va_up M c (aI Γ n (va_cpy f2 f 0 0 q))) r (some (.inr (6, [.ref c, .int (nI q)]))), sz)) : Spec Γ mX6_copyFrom 1 0 [.ref r, .ref r2] (M, sz) (cv K) := by
  have emn : jmin s2 (nI n) = nI q := by
    rw [es]
    unfold jmin
    exact if_neg (Int32.not_lt.mpr (nI_le hq (by omega)))
  refine spec_in [some (.ref r), some (.ref r2), none] 1 (by decide) rfl rfl ?_
  refine ok_aload_n (pc := 0) dX6_copyFrom_0 rfl ?_
  refine ok_getf (pc := 1) dX6_copyFrom_1 fl_X6_19 g0 rfl ?_
  refine ok_aload_n (pc := 4) dX6_copyFrom_4 rfl ?_
  refine ok_getf (pc := 5) dX6_copyFrom_5 fl_X6_13 h0 rfl ?_
  refine ok_alen (pc := 8) (t := 0) dX6_copyFrom_8 h1 rfl ?_
  refine ok_mmin (pc := 9) dX6_copyFrom_9 tw_755 rfl (by decide) ?_
  rw [emn]
  refine ok_istore_n2 (pc := 12) dX6_copyFrom_12 (by decide) rfl ?_
  refine ok_aload_n (pc := 13) dX6_copyFrom_13 rfl ?_
  refine ok_getf (pc := 14) dX6_copyFrom_14 fl_X6_13 g0 rfl ?_
  refine ok_iconst (pc := 17) (v := 0) dX6_copyFrom_17 (by decide) ?_
  refine ok_aload_n (pc := 18) dX6_copyFrom_18 rfl ?_
  refine ok_getf (pc := 19) dX6_copyFrom_19 fl_X6_13 h0 rfl ?_
  refine ok_iconst (pc := 22) (v := 0) dX6_copyFrom_22 (by decide) ?_
  refine ok_iload_n (pc := 23) dX6_copyFrom_23 rfl ?_
  refine ok_copy (pc := 24) 0 0 q dX6_copyFrom_24 tw_756 tw_758 tw_757 tw_101 g1 h1 rfl rfl rfl (by omega) (by omega) (by omega) (by omega) rfl (by decide) ?_
  have h0 := (up_ne (M := M) (e := aI Γ n (va_cpy f2 f 0 0 q)) hne).trans h0
  refine ok_aload_n (pc := 27) dX6_copyFrom_27 rfl ?_
  refine ok_iload_n (pc := 28) dX6_copyFrom_28 rfl ?_
  refine ok_putf (pc := 29) dX6_copyFrom_29 pl_X6_19 h0 rfl rfl (by show 1 < 2; decide) ?_
  skip
  refine ok_vret (pc := 32) dX6_copyFrom_32 rfl ?_
  exact k

theorem cpy_lt {f g : Rw} {q j : Nat} (h : j < q) : va_cpy f g 0 0 q j = f j := by
  unfold va_cpy
  rw [if_pos ⟨by omega, by omega⟩, Nat.zero_add, Nat.sub_zero]
theorem c_rcp {Γ : Cx} {r r2 sz n : Nat} {s s2 : Int32} {g g2 : Rw} {M : Nat → Option va_E} {K : Wd → Prop} (h : rwR Γ M r n s g) (h2 : rwR Γ M r2 n s2 g2) (q : Nat) (es : s2 = nI q) (hq : q ≤ n) (hn : n < 2 ^ 30) (k : ∀ M', rwR Γ M' r n s2 g2 → Off r 2 M M' → K (M', sz)) : Spec Γ mX6_copyFrom 1 0 [.ref r, .ref r2] (M, sz) (cv K) := by
  obtain ⟨a0, f, a1, a2⟩ := h
  obtain ⟨b0, f2, b1, b2⟩ := h2
  refine c_rcopy a0 a1 b0 b1 (by omega) q es hq hq hn hn (k _ ⟨?_, va_cpy f2 f 0 0 q, ?_, fun j hj => ?_⟩ (fun x hx => ?_))
  · rw [up_eq, es]
  · exact (up_ne (by omega)).trans up_eq
  · have e1 : iN s2 = q := by rw [es]; exact nI_clamp (by omega)
    rw [e1] at hj
    rw [cpy_lt hj]
    exact b2 j (by rw [e1]; exact hj)
  · exact (up_ne (by omega)).trans (up_ne (by omega))
theorem cd_50 {σ : Rw} {u : Nat} (hT : TxOk σ u) : (cdF σ u).1 ≤ 50 := by
  obtain ⟨n, hn, en, -⟩ := hT
  unfold cdF
  by_cases c0 : 0 < σ (265 + 52 * u)
  · rw [if_pos c0]
    show txN σ u ≤ 50
    unfold txN
    rw [en, nI_clamp (by omega)]
    exact hn
  · rw [if_neg c0]
    split
    · exact (by decide : 1 ≤ 50)
    · exact (by decide : 3 ≤ 50)

set_option maxHeartbeats 1000000 in
theorem c_tcopy {Γ : Cx} {t t2 sz : Nat} {M : Nat → Option va_E} {v0 w0 : Value} {vs ws : List Value} {r r2 : Nat} {f1 f2 : List Value} (h0 : M t = some (.inr (10, v0 :: .ref r :: vs))) (g0 : M t2 = some (.inr (10, w0 :: .ref r2 :: ws))) (h1 : M r = some (.inr (6, f1))) (g1 : M r2 = some (.inr (6, f2))) {K : Wd → Prop} (kk : Spec Γ mX6_copyFrom 1 0 [.ref r, .ref r2] (M, sz) (cv K)) : Spec Γ mX10_copyFrom 2 0 [.ref t, .ref t2] (M, sz) (cv K) := by
  refine spec_in [some (.ref t), some (.ref t2)] 0 (by decide) rfl rfl ?_
  refine ok_aload_n (pc := 0) dX10_copyFrom_0 rfl ?_
  refine ok_getf (pc := 1) dX10_copyFrom_1 fl_X10_14 h0 rfl ?_
  refine ok_aload_n (pc := 4) dX10_copyFrom_4 rfl ?_
  refine ok_getf (pc := 5) dX10_copyFrom_5 fl_X10_14 g0 rfl ?_
  refine ok_callVv1 (pc := 8) (d' := 1) dX10_copyFrom_8 vl_X10_35 h1 rfl rfl rfl (by decide) ?_
  refine spec_mono kk (fun v G h => ?_)
  obtain ⟨rfl, h⟩ := h
  refine ⟨rfl, ?_⟩
  refine ok_vret (pc := 11) dX10_copyFrom_11 rfl ?_
  exact h

/-- a Post whose pieces may tell different rows -/
def PstM (Γ : Cx) (p : Nat) (w : List Value) (C : (Nat → Option Nat) → Prop) (v : Nat → Rw) (M : Nat → Option va_E) : Prop := M p = some (.inr (5, w)) ∧ rowE Γ M (p + 1) 9 (hx (v 1)) ∧ rowE Γ M (p + 2) 9 (hy (v 2)) ∧ rowE Γ M (p + 3) 9 (hz (v 3)) ∧ rowE Γ M (p + 4) 24 (fun h => (v 4) (27 + h)) ∧ (∃ kr, M (p + 5) = aR Γ 8 kr ∧ C kr) ∧ rowE Γ M (p + 6) 8 (fun k => kf (v 6) k 5) ∧ rowE Γ M (p + 7) 84 (fun j => (v 7) (99 + j)) ∧ rwR Γ M (p + 8) 12 ((v 8) 4) (fun j => (v 8) (183 + j)) ∧ rwR Γ M (p + 10) 50 ((v 9) 6) (fun j => (v 9) (195 + j)) ∧ rwR Γ M (p + 12) 20 ((v 10) 7) (fun j => (v 10) (245 + j)) ∧ TxM Γ M (p + 14) 0 (v 11) ∧ TxM Γ M (p + 20) 1 (v 12)
def uv (v : Nat → Rw) (i : Nat) (σ : Rw) : Nat → Rw := fun j => if j = i then σ else v j
theorem pm_0 {Γ : Cx} {p : Nat} {w : List Value} {C : (Nat → Option Nat) → Prop} {v : Nat → Rw} {M M' : Nat → Option va_E} (h : PstM Γ p w C v M) (hw : ∀ q, q < p + 0 ∨ p + 1 ≤ q → M' q = M q) {w' : List Value} (x : M' p = some (.inr (5, w'))) : PstM Γ p w' C v M' := by
  obtain ⟨a0, a1, a2, a3, a4, a5, a6, a7, a8, a9, a10, a11, a12⟩ := h
  exact ⟨x, a1.tr (hw _ (by omega)) (fun _ _ => rfl), a2.tr (hw _ (by omega)) (fun _ _ => rfl), a3.tr (hw _ (by omega)) (fun _ _ => rfl), a4.tr (hw _ (by omega)) (fun _ _ => rfl), (by obtain ⟨kr, k1, k2⟩ := a5; exact ⟨kr, (hw _ (by omega)).trans k1, k2⟩), a6.tr (hw _ (by omega)) (fun _ _ => rfl), a7.tr (hw _ (by omega)) (fun _ _ => rfl), a8.tr (hw _ (by omega)) (hw _ (by omega)) rfl (fun _ _ => rfl), a9.tr (hw _ (by omega)) (hw _ (by omega)) rfl (fun _ _ => rfl), a10.tr (hw _ (by omega)) (hw _ (by omega)) rfl (fun _ _ => rfl), a11.tr (fun q g1 g2 => hw q (by omega)) ⟨rfl, fun _ _ => rfl⟩, a12.tr (fun q g1 g2 => hw q (by omega)) ⟨rfl, fun _ _ => rfl⟩⟩
theorem pm_1 {Γ : Cx} {p : Nat} {w : List Value} {C : (Nat → Option Nat) → Prop} {v : Nat → Rw} {M M' : Nat → Option va_E} (h : PstM Γ p w C v M) (hw : ∀ q, q < p + 1 ∨ p + 2 ≤ q → M' q = M q) {σ : Rw} (x : rowE Γ M' (p + 1) 9 (hx (σ))) : PstM Γ p w C (uv v 1 σ) M' := by
  obtain ⟨a0, a1, a2, a3, a4, a5, a6, a7, a8, a9, a10, a11, a12⟩ := h
  exact ⟨(hw _ (by omega)).trans a0, x, a2.tr (hw _ (by omega)) (fun _ _ => rfl), a3.tr (hw _ (by omega)) (fun _ _ => rfl), a4.tr (hw _ (by omega)) (fun _ _ => rfl), (by obtain ⟨kr, k1, k2⟩ := a5; exact ⟨kr, (hw _ (by omega)).trans k1, k2⟩), a6.tr (hw _ (by omega)) (fun _ _ => rfl), a7.tr (hw _ (by omega)) (fun _ _ => rfl), a8.tr (hw _ (by omega)) (hw _ (by omega)) rfl (fun _ _ => rfl), a9.tr (hw _ (by omega)) (hw _ (by omega)) rfl (fun _ _ => rfl), a10.tr (hw _ (by omega)) (hw _ (by omega)) rfl (fun _ _ => rfl), a11.tr (fun q g1 g2 => hw q (by omega)) ⟨rfl, fun _ _ => rfl⟩, a12.tr (fun q g1 g2 => hw q (by omega)) ⟨rfl, fun _ _ => rfl⟩⟩
theorem pm_2 {Γ : Cx} {p : Nat} {w : List Value} {C : (Nat → Option Nat) → Prop} {v : Nat → Rw} {M M' : Nat → Option va_E} (h : PstM Γ p w C v M) (hw : ∀ q, q < p + 2 ∨ p + 3 ≤ q → M' q = M q) {σ : Rw} (x : rowE Γ M' (p + 2) 9 (hy (σ))) : PstM Γ p w C (uv v 2 σ) M' := by
  obtain ⟨a0, a1, a2, a3, a4, a5, a6, a7, a8, a9, a10, a11, a12⟩ := h
  exact ⟨(hw _ (by omega)).trans a0, a1.tr (hw _ (by omega)) (fun _ _ => rfl), x, a3.tr (hw _ (by omega)) (fun _ _ => rfl), a4.tr (hw _ (by omega)) (fun _ _ => rfl), (by obtain ⟨kr, k1, k2⟩ := a5; exact ⟨kr, (hw _ (by omega)).trans k1, k2⟩), a6.tr (hw _ (by omega)) (fun _ _ => rfl), a7.tr (hw _ (by omega)) (fun _ _ => rfl), a8.tr (hw _ (by omega)) (hw _ (by omega)) rfl (fun _ _ => rfl), a9.tr (hw _ (by omega)) (hw _ (by omega)) rfl (fun _ _ => rfl), a10.tr (hw _ (by omega)) (hw _ (by omega)) rfl (fun _ _ => rfl), a11.tr (fun q g1 g2 => hw q (by omega)) ⟨rfl, fun _ _ => rfl⟩, a12.tr (fun q g1 g2 => hw q (by omega)) ⟨rfl, fun _ _ => rfl⟩⟩
theorem pm_3 {Γ : Cx} {p : Nat} {w : List Value} {C : (Nat → Option Nat) → Prop} {v : Nat → Rw} {M M' : Nat → Option va_E} (h : PstM Γ p w C v M) (hw : ∀ q, q < p + 3 ∨ p + 4 ≤ q → M' q = M q) {σ : Rw} (x : rowE Γ M' (p + 3) 9 (hz (σ))) : PstM Γ p w C (uv v 3 σ) M' := by
  obtain ⟨a0, a1, a2, a3, a4, a5, a6, a7, a8, a9, a10, a11, a12⟩ := h
  exact ⟨(hw _ (by omega)).trans a0, a1.tr (hw _ (by omega)) (fun _ _ => rfl), a2.tr (hw _ (by omega)) (fun _ _ => rfl), x, a4.tr (hw _ (by omega)) (fun _ _ => rfl), (by obtain ⟨kr, k1, k2⟩ := a5; exact ⟨kr, (hw _ (by omega)).trans k1, k2⟩), a6.tr (hw _ (by omega)) (fun _ _ => rfl), a7.tr (hw _ (by omega)) (fun _ _ => rfl), a8.tr (hw _ (by omega)) (hw _ (by omega)) rfl (fun _ _ => rfl), a9.tr (hw _ (by omega)) (hw _ (by omega)) rfl (fun _ _ => rfl), a10.tr (hw _ (by omega)) (hw _ (by omega)) rfl (fun _ _ => rfl), a11.tr (fun q g1 g2 => hw q (by omega)) ⟨rfl, fun _ _ => rfl⟩, a12.tr (fun q g1 g2 => hw q (by omega)) ⟨rfl, fun _ _ => rfl⟩⟩
theorem pm_4 {Γ : Cx} {p : Nat} {w : List Value} {C : (Nat → Option Nat) → Prop} {v : Nat → Rw} {M M' : Nat → Option va_E} (h : PstM Γ p w C v M) (hw : ∀ q, q < p + 4 ∨ p + 5 ≤ q → M' q = M q) {σ : Rw} (x : rowE Γ M' (p + 4) 24 (fun h => (σ) (27 + h))) : PstM Γ p w C (uv v 4 σ) M' := by
  obtain ⟨a0, a1, a2, a3, a4, a5, a6, a7, a8, a9, a10, a11, a12⟩ := h
  exact ⟨(hw _ (by omega)).trans a0, a1.tr (hw _ (by omega)) (fun _ _ => rfl), a2.tr (hw _ (by omega)) (fun _ _ => rfl), a3.tr (hw _ (by omega)) (fun _ _ => rfl), x, (by obtain ⟨kr, k1, k2⟩ := a5; exact ⟨kr, (hw _ (by omega)).trans k1, k2⟩), a6.tr (hw _ (by omega)) (fun _ _ => rfl), a7.tr (hw _ (by omega)) (fun _ _ => rfl), a8.tr (hw _ (by omega)) (hw _ (by omega)) rfl (fun _ _ => rfl), a9.tr (hw _ (by omega)) (hw _ (by omega)) rfl (fun _ _ => rfl), a10.tr (hw _ (by omega)) (hw _ (by omega)) rfl (fun _ _ => rfl), a11.tr (fun q g1 g2 => hw q (by omega)) ⟨rfl, fun _ _ => rfl⟩, a12.tr (fun q g1 g2 => hw q (by omega)) ⟨rfl, fun _ _ => rfl⟩⟩
theorem pm_5 {Γ : Cx} {p : Nat} {w : List Value} {C : (Nat → Option Nat) → Prop} {v : Nat → Rw} {M M' : Nat → Option va_E} (h : PstM Γ p w C v M) (hw : ∀ q, q < p + 5 ∨ p + 6 ≤ q → M' q = M q) {C' : (Nat → Option Nat) → Prop} (x : ∃ kr, M' (p + 5) = aR Γ 8 kr ∧ C' kr) : PstM Γ p w C' v M' := by
  obtain ⟨a0, a1, a2, a3, a4, a5, a6, a7, a8, a9, a10, a11, a12⟩ := h
  exact ⟨(hw _ (by omega)).trans a0, a1.tr (hw _ (by omega)) (fun _ _ => rfl), a2.tr (hw _ (by omega)) (fun _ _ => rfl), a3.tr (hw _ (by omega)) (fun _ _ => rfl), a4.tr (hw _ (by omega)) (fun _ _ => rfl), x, a6.tr (hw _ (by omega)) (fun _ _ => rfl), a7.tr (hw _ (by omega)) (fun _ _ => rfl), a8.tr (hw _ (by omega)) (hw _ (by omega)) rfl (fun _ _ => rfl), a9.tr (hw _ (by omega)) (hw _ (by omega)) rfl (fun _ _ => rfl), a10.tr (hw _ (by omega)) (hw _ (by omega)) rfl (fun _ _ => rfl), a11.tr (fun q g1 g2 => hw q (by omega)) ⟨rfl, fun _ _ => rfl⟩, a12.tr (fun q g1 g2 => hw q (by omega)) ⟨rfl, fun _ _ => rfl⟩⟩
theorem pm_6 {Γ : Cx} {p : Nat} {w : List Value} {C : (Nat → Option Nat) → Prop} {v : Nat → Rw} {M M' : Nat → Option va_E} (h : PstM Γ p w C v M) (hw : ∀ q, q < p + 6 ∨ p + 7 ≤ q → M' q = M q) {σ : Rw} (x : rowE Γ M' (p + 6) 8 (fun k => kf (σ) k 5)) : PstM Γ p w C (uv v 6 σ) M' := by
  obtain ⟨a0, a1, a2, a3, a4, a5, a6, a7, a8, a9, a10, a11, a12⟩ := h
  exact ⟨(hw _ (by omega)).trans a0, a1.tr (hw _ (by omega)) (fun _ _ => rfl), a2.tr (hw _ (by omega)) (fun _ _ => rfl), a3.tr (hw _ (by omega)) (fun _ _ => rfl), a4.tr (hw _ (by omega)) (fun _ _ => rfl), (by obtain ⟨kr, k1, k2⟩ := a5; exact ⟨kr, (hw _ (by omega)).trans k1, k2⟩), x, a7.tr (hw _ (by omega)) (fun _ _ => rfl), a8.tr (hw _ (by omega)) (hw _ (by omega)) rfl (fun _ _ => rfl), a9.tr (hw _ (by omega)) (hw _ (by omega)) rfl (fun _ _ => rfl), a10.tr (hw _ (by omega)) (hw _ (by omega)) rfl (fun _ _ => rfl), a11.tr (fun q g1 g2 => hw q (by omega)) ⟨rfl, fun _ _ => rfl⟩, a12.tr (fun q g1 g2 => hw q (by omega)) ⟨rfl, fun _ _ => rfl⟩⟩
theorem pm_7 {Γ : Cx} {p : Nat} {w : List Value} {C : (Nat → Option Nat) → Prop} {v : Nat → Rw} {M M' : Nat → Option va_E} (h : PstM Γ p w C v M) (hw : ∀ q, q < p + 7 ∨ p + 8 ≤ q → M' q = M q) {σ : Rw} (x : rowE Γ M' (p + 7) 84 (fun j => (σ) (99 + j))) : PstM Γ p w C (uv v 7 σ) M' := by
  obtain ⟨a0, a1, a2, a3, a4, a5, a6, a7, a8, a9, a10, a11, a12⟩ := h
  exact ⟨(hw _ (by omega)).trans a0, a1.tr (hw _ (by omega)) (fun _ _ => rfl), a2.tr (hw _ (by omega)) (fun _ _ => rfl), a3.tr (hw _ (by omega)) (fun _ _ => rfl), a4.tr (hw _ (by omega)) (fun _ _ => rfl), (by obtain ⟨kr, k1, k2⟩ := a5; exact ⟨kr, (hw _ (by omega)).trans k1, k2⟩), a6.tr (hw _ (by omega)) (fun _ _ => rfl), x, a8.tr (hw _ (by omega)) (hw _ (by omega)) rfl (fun _ _ => rfl), a9.tr (hw _ (by omega)) (hw _ (by omega)) rfl (fun _ _ => rfl), a10.tr (hw _ (by omega)) (hw _ (by omega)) rfl (fun _ _ => rfl), a11.tr (fun q g1 g2 => hw q (by omega)) ⟨rfl, fun _ _ => rfl⟩, a12.tr (fun q g1 g2 => hw q (by omega)) ⟨rfl, fun _ _ => rfl⟩⟩
theorem pm_8 {Γ : Cx} {p : Nat} {w : List Value} {C : (Nat → Option Nat) → Prop} {v : Nat → Rw} {M M' : Nat → Option va_E} (h : PstM Γ p w C v M) (hw : ∀ q, q < p + 8 ∨ p + 10 ≤ q → M' q = M q) {σ : Rw} (x : rwR Γ M' (p + 8) 12 ((σ) 4) (fun j => (σ) (183 + j))) : PstM Γ p w C (uv v 8 σ) M' := by
  obtain ⟨a0, a1, a2, a3, a4, a5, a6, a7, a8, a9, a10, a11, a12⟩ := h
  exact ⟨(hw _ (by omega)).trans a0, a1.tr (hw _ (by omega)) (fun _ _ => rfl), a2.tr (hw _ (by omega)) (fun _ _ => rfl), a3.tr (hw _ (by omega)) (fun _ _ => rfl), a4.tr (hw _ (by omega)) (fun _ _ => rfl), (by obtain ⟨kr, k1, k2⟩ := a5; exact ⟨kr, (hw _ (by omega)).trans k1, k2⟩), a6.tr (hw _ (by omega)) (fun _ _ => rfl), a7.tr (hw _ (by omega)) (fun _ _ => rfl), x, a9.tr (hw _ (by omega)) (hw _ (by omega)) rfl (fun _ _ => rfl), a10.tr (hw _ (by omega)) (hw _ (by omega)) rfl (fun _ _ => rfl), a11.tr (fun q g1 g2 => hw q (by omega)) ⟨rfl, fun _ _ => rfl⟩, a12.tr (fun q g1 g2 => hw q (by omega)) ⟨rfl, fun _ _ => rfl⟩⟩
theorem pm_9 {Γ : Cx} {p : Nat} {w : List Value} {C : (Nat → Option Nat) → Prop} {v : Nat → Rw} {M M' : Nat → Option va_E} (h : PstM Γ p w C v M) (hw : ∀ q, q < p + 10 ∨ p + 12 ≤ q → M' q = M q) {σ : Rw} (x : rwR Γ M' (p + 10) 50 ((σ) 6) (fun j => (σ) (195 + j))) : PstM Γ p w C (uv v 9 σ) M' := by
  obtain ⟨a0, a1, a2, a3, a4, a5, a6, a7, a8, a9, a10, a11, a12⟩ := h
  exact ⟨(hw _ (by omega)).trans a0, a1.tr (hw _ (by omega)) (fun _ _ => rfl), a2.tr (hw _ (by omega)) (fun _ _ => rfl), a3.tr (hw _ (by omega)) (fun _ _ => rfl), a4.tr (hw _ (by omega)) (fun _ _ => rfl), (by obtain ⟨kr, k1, k2⟩ := a5; exact ⟨kr, (hw _ (by omega)).trans k1, k2⟩), a6.tr (hw _ (by omega)) (fun _ _ => rfl), a7.tr (hw _ (by omega)) (fun _ _ => rfl), a8.tr (hw _ (by omega)) (hw _ (by omega)) rfl (fun _ _ => rfl), x, a10.tr (hw _ (by omega)) (hw _ (by omega)) rfl (fun _ _ => rfl), a11.tr (fun q g1 g2 => hw q (by omega)) ⟨rfl, fun _ _ => rfl⟩, a12.tr (fun q g1 g2 => hw q (by omega)) ⟨rfl, fun _ _ => rfl⟩⟩
theorem pm_10 {Γ : Cx} {p : Nat} {w : List Value} {C : (Nat → Option Nat) → Prop} {v : Nat → Rw} {M M' : Nat → Option va_E} (h : PstM Γ p w C v M) (hw : ∀ q, q < p + 12 ∨ p + 14 ≤ q → M' q = M q) {σ : Rw} (x : rwR Γ M' (p + 12) 20 ((σ) 7) (fun j => (σ) (245 + j))) : PstM Γ p w C (uv v 10 σ) M' := by
  obtain ⟨a0, a1, a2, a3, a4, a5, a6, a7, a8, a9, a10, a11, a12⟩ := h
  exact ⟨(hw _ (by omega)).trans a0, a1.tr (hw _ (by omega)) (fun _ _ => rfl), a2.tr (hw _ (by omega)) (fun _ _ => rfl), a3.tr (hw _ (by omega)) (fun _ _ => rfl), a4.tr (hw _ (by omega)) (fun _ _ => rfl), (by obtain ⟨kr, k1, k2⟩ := a5; exact ⟨kr, (hw _ (by omega)).trans k1, k2⟩), a6.tr (hw _ (by omega)) (fun _ _ => rfl), a7.tr (hw _ (by omega)) (fun _ _ => rfl), a8.tr (hw _ (by omega)) (hw _ (by omega)) rfl (fun _ _ => rfl), a9.tr (hw _ (by omega)) (hw _ (by omega)) rfl (fun _ _ => rfl), x, a11.tr (fun q g1 g2 => hw q (by omega)) ⟨rfl, fun _ _ => rfl⟩, a12.tr (fun q g1 g2 => hw q (by omega)) ⟨rfl, fun _ _ => rfl⟩⟩
theorem pm_11 {Γ : Cx} {p : Nat} {w : List Value} {C : (Nat → Option Nat) → Prop} {v : Nat → Rw} {M M' : Nat → Option va_E} (h : PstM Γ p w C v M) (hw : ∀ q, q < p + 14 ∨ p + 20 ≤ q → M' q = M q) {σ : Rw} (x : TxM Γ M' (p + 14) 0 (σ)) : PstM Γ p w C (uv v 11 σ) M' := by
  obtain ⟨a0, a1, a2, a3, a4, a5, a6, a7, a8, a9, a10, a11, a12⟩ := h
  exact ⟨(hw _ (by omega)).trans a0, a1.tr (hw _ (by omega)) (fun _ _ => rfl), a2.tr (hw _ (by omega)) (fun _ _ => rfl), a3.tr (hw _ (by omega)) (fun _ _ => rfl), a4.tr (hw _ (by omega)) (fun _ _ => rfl), (by obtain ⟨kr, k1, k2⟩ := a5; exact ⟨kr, (hw _ (by omega)).trans k1, k2⟩), a6.tr (hw _ (by omega)) (fun _ _ => rfl), a7.tr (hw _ (by omega)) (fun _ _ => rfl), a8.tr (hw _ (by omega)) (hw _ (by omega)) rfl (fun _ _ => rfl), a9.tr (hw _ (by omega)) (hw _ (by omega)) rfl (fun _ _ => rfl), a10.tr (hw _ (by omega)) (hw _ (by omega)) rfl (fun _ _ => rfl), x, a12.tr (fun q g1 g2 => hw q (by omega)) ⟨rfl, fun _ _ => rfl⟩⟩
theorem pm_12 {Γ : Cx} {p : Nat} {w : List Value} {C : (Nat → Option Nat) → Prop} {v : Nat → Rw} {M M' : Nat → Option va_E} (h : PstM Γ p w C v M) (hw : ∀ q, q < p + 20 ∨ p + 26 ≤ q → M' q = M q) {σ : Rw} (x : TxM Γ M' (p + 20) 1 (σ)) : PstM Γ p w C (uv v 12 σ) M' := by
  obtain ⟨a0, a1, a2, a3, a4, a5, a6, a7, a8, a9, a10, a11, a12⟩ := h
  exact ⟨(hw _ (by omega)).trans a0, a1.tr (hw _ (by omega)) (fun _ _ => rfl), a2.tr (hw _ (by omega)) (fun _ _ => rfl), a3.tr (hw _ (by omega)) (fun _ _ => rfl), a4.tr (hw _ (by omega)) (fun _ _ => rfl), (by obtain ⟨kr, k1, k2⟩ := a5; exact ⟨kr, (hw _ (by omega)).trans k1, k2⟩), a6.tr (hw _ (by omega)) (fun _ _ => rfl), a7.tr (hw _ (by omega)) (fun _ _ => rfl), a8.tr (hw _ (by omega)) (hw _ (by omega)) rfl (fun _ _ => rfl), a9.tr (hw _ (by omega)) (hw _ (by omega)) rfl (fun _ _ => rfl), a10.tr (hw _ (by omega)) (hw _ (by omega)) rfl (fun _ _ => rfl), a11.tr (fun q g1 g2 => hw q (by omega)) ⟨rfl, fun _ _ => rfl⟩, x⟩
section CopyRules
variable {Γ : Cx} {f : Md} {d b pc idx : Nat} {L : List (Option Value)} {st : List Value} {Q : Option Value → Wd → Prop}
theorem PstR.out {Γ : Cx} {p s e z : Nat} {σ : Rw} {M M' : Nat → Option va_E} (hS : PstR Γ s e z σ M) (hI : Inv σ) (hpe : p + 26 ≤ e) (hps : p + 26 ≤ s ∨ s + 26 ≤ p) (hO : Off p 26 M M') : PstR Γ s e z σ M' := hS.mv hI (fun q _ _ => hO q (by omega)) (fun q _ _ => hO q (by omega)) (Nat.le_refl _) (fun _ _ => rfl)
theorem ok_cp1 {p s e z sz : Nat} {w : List Value} {C : (Nat → Option Nat) → Prop} {v : Nat → Rw} {σ : Rw} {M : Nat → Option va_E} (hd : decode f.2.1 pc = .ok (.invokestatic idx, 3)) (w1 : Cond.methodLink f.1.cls idx acName ∈ lwg) (hD : PstM Γ p w C v M) (hS : PstR Γ s e z σ M) (hI : Inv σ) (hpe : p + 26 ≤ e) (hse : s + 26 ≤ e) (hps : p + 26 ≤ s ∨ s + 26 ≤ p) (h8 : stk8 st = true) (hdd : 1 ≤ d) (k : ∀ M', PstM Γ p w C (uv v 1 σ) M' → PstR Γ s e z σ M' → Off p 26 M M' → Ok Γ f d b (pc + 3) L st (M', sz) Q) : Ok Γ f d b pc L (.int (nI 9) :: .int (nI 0) :: .ref (p + 1) :: .int (nI 0) :: .ref (s + 1) :: st) (M, sz) Q := by
  obtain ⟨f1, q1, q2⟩ := id hD.2.1
  obtain ⟨f2, r1, r2⟩ := id hS.xs
  refine ok_copy 0 0 9 hd w1 tw_758 tw_757 tw_101 r1 q1 rfl rfl rfl (by decide) (by decide) (by decide) (by decide) h8 hdd ?_
  have hO : Off p 26 M (va_up M (p + 1) (aI Γ 9 (va_cpy f2 f1 0 0 9))) := fun q hq => up_ne (by omega)
  exact k _ (pm_1 hD (fun q hq => up_ne (by omega)) ⟨_, up_eq, fun j hj => by rw [cpy_lt hj]; exact r2 j hj⟩) (hS.out hI hpe hps hO) hO
theorem ok_cp2 {p s e z sz : Nat} {w : List Value} {C : (Nat → Option Nat) → Prop} {v : Nat → Rw} {σ : Rw} {M : Nat → Option va_E} (hd : decode f.2.1 pc = .ok (.invokestatic idx, 3)) (w1 : Cond.methodLink f.1.cls idx acName ∈ lwg) (hD : PstM Γ p w C v M) (hS : PstR Γ s e z σ M) (hI : Inv σ) (hpe : p + 26 ≤ e) (hse : s + 26 ≤ e) (hps : p + 26 ≤ s ∨ s + 26 ≤ p) (h8 : stk8 st = true) (hdd : 1 ≤ d) (k : ∀ M', PstM Γ p w C (uv v 2 σ) M' → PstR Γ s e z σ M' → Off p 26 M M' → Ok Γ f d b (pc + 3) L st (M', sz) Q) : Ok Γ f d b pc L (.int (nI 9) :: .int (nI 0) :: .ref (p + 2) :: .int (nI 0) :: .ref (s + 2) :: st) (M, sz) Q := by
  obtain ⟨f1, q1, q2⟩ := id hD.2.2.1
  obtain ⟨f2, r1, r2⟩ := id hS.ys
  refine ok_copy 0 0 9 hd w1 tw_758 tw_757 tw_101 r1 q1 rfl rfl rfl (by decide) (by decide) (by decide) (by decide) h8 hdd ?_
  have hO : Off p 26 M (va_up M (p + 2) (aI Γ 9 (va_cpy f2 f1 0 0 9))) := fun q hq => up_ne (by omega)
  exact k _ (pm_2 hD (fun q hq => up_ne (by omega)) ⟨_, up_eq, fun j hj => by rw [cpy_lt hj]; exact r2 j hj⟩) (hS.out hI hpe hps hO) hO
theorem ok_cp3 {p s e z sz : Nat} {w : List Value} {C : (Nat → Option Nat) → Prop} {v : Nat → Rw} {σ : Rw} {M : Nat → Option va_E} (hd : decode f.2.1 pc = .ok (.invokestatic idx, 3)) (w1 : Cond.methodLink f.1.cls idx acName ∈ lwg) (hD : PstM Γ p w C v M) (hS : PstR Γ s e z σ M) (hI : Inv σ) (hpe : p + 26 ≤ e) (hse : s + 26 ≤ e) (hps : p + 26 ≤ s ∨ s + 26 ≤ p) (h8 : stk8 st = true) (hdd : 1 ≤ d) (k : ∀ M', PstM Γ p w C (uv v 3 σ) M' → PstR Γ s e z σ M' → Off p 26 M M' → Ok Γ f d b (pc + 3) L st (M', sz) Q) : Ok Γ f d b pc L (.int (nI 9) :: .int (nI 0) :: .ref (p + 3) :: .int (nI 0) :: .ref (s + 3) :: st) (M, sz) Q := by
  obtain ⟨f1, q1, q2⟩ := id hD.2.2.2.1
  obtain ⟨f2, r1, r2⟩ := id hS.hz
  refine ok_copy 0 0 9 hd w1 tw_758 tw_757 tw_101 r1 q1 rfl rfl rfl (by decide) (by decide) (by decide) (by decide) h8 hdd ?_
  have hO : Off p 26 M (va_up M (p + 3) (aI Γ 9 (va_cpy f2 f1 0 0 9))) := fun q hq => up_ne (by omega)
  exact k _ (pm_3 hD (fun q hq => up_ne (by omega)) ⟨_, up_eq, fun j hj => by rw [cpy_lt hj]; exact r2 j hj⟩) (hS.out hI hpe hps hO) hO
theorem ok_cp4 {p s e z sz : Nat} {w : List Value} {C : (Nat → Option Nat) → Prop} {v : Nat → Rw} {σ : Rw} {M : Nat → Option va_E} (hd : decode f.2.1 pc = .ok (.invokestatic idx, 3)) (w1 : Cond.methodLink f.1.cls idx acName ∈ lwg) (hD : PstM Γ p w C v M) (hS : PstR Γ s e z σ M) (hI : Inv σ) (hpe : p + 26 ≤ e) (hse : s + 26 ≤ e) (hps : p + 26 ≤ s ∨ s + 26 ≤ p) (h8 : stk8 st = true) (hdd : 1 ≤ d) (k : ∀ M', PstM Γ p w C (uv v 4 σ) M' → PstR Γ s e z σ M' → Off p 26 M M' → Ok Γ f d b (pc + 3) L st (M', sz) Q) : Ok Γ f d b pc L (.int (nI 24) :: .int (nI 0) :: .ref (p + 4) :: .int (nI 0) :: .ref (s + 4) :: st) (M, sz) Q := by
  obtain ⟨f1, q1, q2⟩ := id hD.2.2.2.2.1
  obtain ⟨f2, r1, r2⟩ := id hS.wd
  refine ok_copy 0 0 24 hd w1 tw_758 tw_757 tw_101 r1 q1 rfl rfl rfl (by decide) (by decide) (by decide) (by decide) h8 hdd ?_
  have hO : Off p 26 M (va_up M (p + 4) (aI Γ 24 (va_cpy f2 f1 0 0 24))) := fun q hq => up_ne (by omega)
  exact k _ (pm_4 hD (fun q hq => up_ne (by omega)) ⟨_, up_eq, fun j hj => by rw [cpy_lt hj]; exact r2 j hj⟩) (hS.out hI hpe hps hO) hO
theorem ok_cp6 {p s e z sz : Nat} {w : List Value} {C : (Nat → Option Nat) → Prop} {v : Nat → Rw} {σ : Rw} {M : Nat → Option va_E} (hd : decode f.2.1 pc = .ok (.invokestatic idx, 3)) (w1 : Cond.methodLink f.1.cls idx acName ∈ lwg) (hD : PstM Γ p w C v M) (hS : PstR Γ s e z σ M) (hI : Inv σ) (hpe : p + 26 ≤ e) (hse : s + 26 ≤ e) (hps : p + 26 ≤ s ∨ s + 26 ≤ p) (h8 : stk8 st = true) (hdd : 1 ≤ d) (k : ∀ M', PstM Γ p w C (uv v 6 σ) M' → PstR Γ s e z σ M' → Off p 26 M M' → Ok Γ f d b (pc + 3) L st (M', sz) Q) : Ok Γ f d b pc L (.int (nI 8) :: .int (nI 0) :: .ref (p + 6) :: .int (nI 0) :: .ref (s + 6) :: st) (M, sz) Q := by
  obtain ⟨f1, q1, q2⟩ := id hD.2.2.2.2.2.2.1
  obtain ⟨f2, r1, r2⟩ := id hS.am
  refine ok_copy 0 0 8 hd w1 tw_758 tw_757 tw_101 r1 q1 rfl rfl rfl (by decide) (by decide) (by decide) (by decide) h8 hdd ?_
  have hO : Off p 26 M (va_up M (p + 6) (aI Γ 8 (va_cpy f2 f1 0 0 8))) := fun q hq => up_ne (by omega)
  exact k _ (pm_6 hD (fun q hq => up_ne (by omega)) ⟨_, up_eq, fun j hj => by rw [cpy_lt hj]; exact r2 j hj⟩) (hS.out hI hpe hps hO) hO
theorem ok_cp7 {p s e z sz : Nat} {w : List Value} {C : (Nat → Option Nat) → Prop} {v : Nat → Rw} {σ : Rw} {M : Nat → Option va_E} (hd : decode f.2.1 pc = .ok (.invokestatic idx, 3)) (w1 : Cond.methodLink f.1.cls idx acName ∈ lwg) (hD : PstM Γ p w C v M) (hS : PstR Γ s e z σ M) (hI : Inv σ) (hpe : p + 26 ≤ e) (hse : s + 26 ≤ e) (hps : p + 26 ≤ s ∨ s + 26 ≤ p) (h8 : stk8 st = true) (hdd : 1 ≤ d) (k : ∀ M', PstM Γ p w C (uv v 7 σ) M' → PstR Γ s e z σ M' → Off p 26 M M' → Ok Γ f d b (pc + 3) L st (M', sz) Q) : Ok Γ f d b pc L (.int (nI 84) :: .int (nI 0) :: .ref (p + 7) :: .int (nI 0) :: .ref (s + 7) :: st) (M, sz) Q := by
  obtain ⟨f1, q1, q2⟩ := id hD.2.2.2.2.2.2.2.1
  obtain ⟨f2, r1, r2⟩ := id hS.lt
  refine ok_copy 0 0 84 hd w1 tw_758 tw_757 tw_101 r1 q1 rfl rfl rfl (by decide) (by decide) (by decide) (by decide) h8 hdd ?_
  have hO : Off p 26 M (va_up M (p + 7) (aI Γ 84 (va_cpy f2 f1 0 0 84))) := fun q hq => up_ne (by omega)
  exact k _ (pm_7 hD (fun q hq => up_ne (by omega)) ⟨_, up_eq, fun j hj => by rw [cpy_lt hj]; exact r2 j hj⟩) (hS.out hI hpe hps hO) hO
theorem ok_cpf {x : Value} {k0 : Nat} {ty : FieldType} {p s e z sz : Nat} {w : List Value} {C : (Nat → Option Nat) → Prop} {v : Nat → Rw} {σ : Rw} {M : Nat → Option va_E} (hd : decode f.2.1 pc = .ok (.putfield idx, 3)) (hl : PLink f.1.cls idx 5 k0 ty) (hD : PstM Γ p w C v M) (hS : PstR Γ s e z σ M) (hI : Inv σ) (hpe : p + 26 ≤ e) (hse : s + 26 ≤ e) (hps : p + 26 ≤ s ∨ s + 26 ≤ p) (hn : narrow ty x = x) (hfit : fits ty x = true) (hk : k0 < w.length) (k : ∀ M', PstM Γ p (w.set k0 x) C v M' → PstR Γ s e z σ M' → Off p 26 M M' → Ok Γ f d b (pc + 3) L st (M', sz) Q) : Ok Γ f d b pc L (x :: .ref p :: st) (M, sz) Q := by
  refine ok_putf hd hl hD.1 hn hfit hk ?_
  have hO : Off p 26 M (va_up M p (some (.inr (5, w.set k0 x)))) := fun q hq => up_ne (by omega)
  exact k _ (pm_0 hD (fun q hq => up_ne (by omega)) up_eq) (hS.out hI hpe hps hO) hO
def cpK (kr0 : Nat → Option Nat) (j : Nat) (kr : Nat → Option Nat) : Prop := (∀ k, k < j → kr k = kr0 k) ∧ ∀ k, 8 ≤ k → kr k = none
theorem kcl_kite {k : Int32} (h : 0 ≤ k ∧ k ≤ 6) : ∃ r, kc[kcl k]? = some r ∧ (r.1 = "KitePost$Kite" ∨ (r.1, "KitePost$Kite") ∈ castY) := by
  rcases kcl_cases h with h | h | h | h | h | h | h <;> subst h <;> exact ⟨_, rfl, by decide⟩
theorem ok_cpk {p s e z sz : Nat} {w : List Value} {v : Nat → Rw} {σ : Rw} {M : Nat → Option va_E} {kr0 : Nat → Option Nat} {i : Int32} (j : Nat) (hd : decode f.2.1 pc = .ok (.aastore, 1)) (hD : PstM Γ p w (cpK kr0 j) v M) (hS : PstR Γ s e z σ M) (hI : Inv σ) (hpe : p + 26 ≤ e) (hse : s + 26 ≤ e) (hps : p + 26 ≤ s ∨ s + 26 ≤ p) (h5 : M (s + 5) = aR Γ 8 kr0) (hi : i = nI j) (hj : j < 8) (k : ∀ M', PstM Γ p w (cpK kr0 (j + 1)) v M' → PstR Γ s e z σ M' → Off p 26 M M' → Ok Γ f d b (pc + 1) L st (M', sz) Q) : Ok Γ f d b pc L (va_rf (kr0 j) :: .int i :: .ref (p + 5) :: st) (M, sz) Q := by
  obtain ⟨kr, k1, k2, k3⟩ := id hD.2.2.2.2.2.1
  obtain ⟨kr1, s1, s2, s3⟩ := id hS.kt
  have e1 : kr1 = kr0 := by
    rw [h5] at s1
    simp only [Option.some.injEq, Sum.inl.injEq, Sum.inr.injEq, Prod.mk.injEq, true_and] at s1
    exact s1.symm
  subst e1
  have fin : ∀ x, x = kr1 j → PstM Γ p w (cpK kr1 (j + 1)) v (va_up M (p + 5) (aR Γ 8 (va_up kr j x))) := fun x hx => pm_5 hD (fun q hq => up_ne (by omega)) ⟨_, up_eq, fun q hq => by
    unfold va_up
    by_cases c : q = j
    · rw [if_pos c, hx, c]
    · rw [if_neg c]; exact k2 q (by omega), fun q hq => by
    unfold va_up
    rw [if_neg (by omega)]; exact k3 q hq⟩
  have hO : ∀ x, Off p 26 M (va_up M (p + 5) x) := fun x q hq => up_ne (by omega)
  rcases Nat.lt_or_ge j (cK σ) with g | g
  · obtain ⟨q, eq, hq⟩ := s2 j g
    obtain ⟨r, hr1, hr2⟩ := kcl_kite (hI.2.1 j g).2.2.1
    rw [eq]
    exact ok_aast (t := 1) j hd k1 rfl hq.2 hr1 hr2 hi hj (by decide) (k _ (fin _ eq.symm) (hS.out hI hpe hps (hO _)) (hO _))
  · have e2 := s3 j g
    rw [e2]
    exact ok_aastN (t := 1) j hd k1 rfl hi hj (by decide) (k _ (fin _ e2.symm) (hS.out hI hpe hps (hO _)) (hO _))
end CopyRules
theorem c_tcp {Γ : Cx} {t t2 u sz : Nat} {σ τ : Rw} {M : Nat → Option va_E} {K : Wd → Prop} (h : TxM Γ M t u τ) (g : TxM Γ M t2 u σ) (hT : TxOk σ u) (k : ∀ M', TxM Γ M' t u σ → Off t 6 M M' → K (M', sz)) : Spec Γ mX10_copyFrom 2 0 [.ref t, .ref t2] (M, sz) (cv K) := by
  obtain ⟨⟨tp, pl, fa, a1⟩, ⟨a2, f, a3, a4⟩, ⟨dn, df, a5, a6⟩, sf, a7⟩ := h
  obtain ⟨⟨tp2, pl2, fa2, b1⟩, ⟨b2, f2, b3, b4⟩, -⟩ := g
  have l50 := cd_50 hT
  refine c_tcopy a1 b1 a2 b2 (c_rcopy a2 a3 b2 b3 (by omega) _ rfl l50 l50 (by decide) (by decide) (k _ ⟨⟨tp, pl, fa, ?_⟩, ⟨up_eq, va_cpy f2 f 0 0 (cdF σ u).1, ?_, fun j hj => ?_⟩, ⟨dn, df, ?_, ?_⟩, sf, ?_⟩ (fun x hx => ?_)))
  · exact (up_ne (by omega)).trans ((up_ne (by omega)).trans a1)
  · exact (up_ne (by omega)).trans up_eq
  · rw [cpy_lt hj]; exact b4 j hj
  · exact (up_ne (by omega)).trans ((up_ne (by omega)).trans a5)
  · exact (up_ne (by omega)).trans ((up_ne (by omega)).trans a6)
  · exact (up_ne (by omega)).trans ((up_ne (by omega)).trans a7)
  · exact (up_ne (by omega)).trans (up_ne (by omega))

set_option maxHeartbeats 1000000 in
theorem l_cp94 {Γ : Cx} {p s e z sz : Nat} {σ τ : Rw} {M M0 : Nat → Option va_E} {K : Wd → Prop} {kr0 : Nat → Option Nat} {xi : Int32} (hD : PstM Γ p ((pfs p τ).set 3 (.int (σ 1))) (cpK kr0 8) (uv (uv (uv (uv (fun _ => τ) 1 σ) 2 σ) 3 σ) 4 σ) M) (hS : PstR Γ s e z σ M) (hI : Inv σ) (hpe : p + 26 ≤ e) (hse : s + 26 ≤ e) (hps : p + 26 ≤ s ∨ s + 26 ≤ p) (h5 : M0 (s + 5) = aR Γ 8 kr0) (hO : Off p 26 M0 M) (k : ∀ M', PstR Γ p e z σ M' → PstR Γ s e z σ M' → Off p 26 M0 M' → K (M', sz)) : Ok Γ mX5_copyFrom 3 0 94 [some (.ref p), some (.ref s), some (.int xi)] [] (M, sz) (cv K) := by
  obtain ⟨⟨⟨eH, lH⟩, ⟨eK, lK⟩, ⟨eL, lL⟩, ⟨eA, lA⟩, ⟨eT, lT⟩⟩, iK, iH, iW, iL, iO, iB, hT⟩ := id hI
  have hA12 : cA σ ≤ 12 := by rw [lA]; exact Nat.le_trans (arN_le σ _) lL
  obtain ⟨⟨n6, q6, l6⟩, ⟨n7, q7, l7⟩, -⟩ := id iB
  
  refine ok_aload_n (pc := 94) dX5_copyFrom_94 rfl ?_
  refine ok_getf (pc := 95) dX5_copyFrom_95 fl_X5_30 hS.o rfl ?_
  refine ok_iconst (pc := 98) (v := 0) dX5_copyFrom_98 (by decide) ?_
  refine ok_aload_n (pc := 99) dX5_copyFrom_99 rfl ?_
  refine ok_getf (pc := 100) dX5_copyFrom_100 fl_X5_30 hD.1 rfl ?_
  refine ok_iconst (pc := 103) (v := 0) dX5_copyFrom_103 (by decide) ?_
  refine ok_bipush (pc := 104) (v := 8) dX5_copyFrom_104 (by decide) ?_
  refine ok_cp6 (pc := 106) dX5_copyFrom_106 tw_873 hD hS hI hpe hse hps rfl (by decide) (fun M hD hS hO9 => ?_)
  have hO := hO.trans hO9
  refine ok_aload_n (pc := 109) dX5_copyFrom_109 rfl ?_
  refine ok_aload_n (pc := 110) dX5_copyFrom_110 rfl ?_
  refine ok_getf (pc := 111) dX5_copyFrom_111 fl_X5_80 hS.o rfl ?_
  refine ok_cpf (pc := 114) dX5_copyFrom_114 pl_X5_80 hD hS hI hpe hse hps rfl rfl (by show _ < 18; decide) (fun M hD hS hO9 => ?_)
  have hO := hO.trans hO9
  refine ok_aload_n (pc := 117) dX5_copyFrom_117 rfl ?_
  refine ok_getf (pc := 118) dX5_copyFrom_118 fl_X5_33 hS.o rfl ?_
  refine ok_iconst (pc := 121) (v := 0) dX5_copyFrom_121 (by decide) ?_
  refine ok_aload_n (pc := 122) dX5_copyFrom_122 rfl ?_
  refine ok_getf (pc := 123) dX5_copyFrom_123 fl_X5_33 hD.1 rfl ?_
  refine ok_iconst (pc := 126) (v := 0) dX5_copyFrom_126 (by decide) ?_
  refine ok_bipush (pc := 127) (v := 84) dX5_copyFrom_127 (by decide) ?_
  refine ok_cp7 (pc := 129) dX5_copyFrom_129 tw_873 hD hS hI hpe hse hps rfl (by decide) (fun M hD hS hO9 => ?_)
  have hO := hO.trans hO9
  refine ok_aload_n (pc := 132) dX5_copyFrom_132 rfl ?_
  refine ok_aload_n (pc := 133) dX5_copyFrom_133 rfl ?_
  refine ok_getf (pc := 134) dX5_copyFrom_134 fl_X5_83 hS.o rfl ?_
  refine ok_cpf (pc := 137) dX5_copyFrom_137 pl_X5_83 hD hS hI hpe hse hps rfl rfl (by show _ < 18; decide) (fun M hD hS hO9 => ?_)
  have hO := hO.trans hO9
  refine ok_aload_n (pc := 140) dX5_copyFrom_140 rfl ?_
  refine ok_getf (pc := 141) dX5_copyFrom_141 fl_X5_41 hD.1 rfl ?_
  refine ok_aload_n (pc := 144) dX5_copyFrom_144 rfl ?_
  refine ok_getf (pc := 145) dX5_copyFrom_145 fl_X5_41 hS.o rfl ?_
  refine ok_callVv1 (pc := 148) (d' := 1) dX5_copyFrom_148 vl_X5_86 hD.2.2.2.2.2.2.2.2.1.1 rfl rfl rfl (by decide) ?_
  refine c_rcp hD.2.2.2.2.2.2.2.2.1 hS.ar (cA σ) eA hA12 (by decide) (fun M9 hR9 hQ9 => ?_)
  have hO9 := Off.sub (a := p) (n := 26) hQ9 (by omega) (by omega)
  have hD := pm_8 hD (fun q hq => hQ9 q (by omega)) hR9
  have hS := hS.out hI hpe hps hO9
  have hO := hO.trans hO9
  refine ok_aload_n (pc := 151) dX5_copyFrom_151 rfl ?_
  refine ok_getf (pc := 152) dX5_copyFrom_152 fl_X5_45 hD.1 rfl ?_
  refine ok_aload_n (pc := 155) dX5_copyFrom_155 rfl ?_
  refine ok_getf (pc := 156) dX5_copyFrom_156 fl_X5_45 hS.o rfl ?_
  refine ok_callVv1 (pc := 159) (d' := 1) dX5_copyFrom_159 vl_X5_86 hD.2.2.2.2.2.2.2.2.2.1.1 rfl rfl rfl (by decide) ?_
  refine c_rcp hD.2.2.2.2.2.2.2.2.2.1 hS.tp n6 q6 l6 (by decide) (fun M9 hR9 hQ9 => ?_)
  have hO9 := Off.sub (a := p) (n := 26) hQ9 (by omega) (by omega)
  have hD := pm_9 hD (fun q hq => hQ9 q (by omega)) hR9
  have hS := hS.out hI hpe hps hO9
  have hO := hO.trans hO9
  refine ok_aload_n (pc := 162) dX5_copyFrom_162 rfl ?_
  refine ok_getf (pc := 163) dX5_copyFrom_163 fl_X5_48 hD.1 rfl ?_
  refine ok_aload_n (pc := 166) dX5_copyFrom_166 rfl ?_
  refine ok_getf (pc := 167) dX5_copyFrom_167 fl_X5_48 hS.o rfl ?_
  refine ok_callVv1 (pc := 170) (d' := 1) dX5_copyFrom_170 vl_X5_86 hD.2.2.2.2.2.2.2.2.2.2.1.1 rfl rfl rfl (by decide) ?_
  refine c_rcp hD.2.2.2.2.2.2.2.2.2.2.1 hS.wt n7 q7 l7 (by decide) (fun M9 hR9 hQ9 => ?_)
  have hO9 := Off.sub (a := p) (n := 26) hQ9 (by omega) (by omega)
  have hD := pm_10 hD (fun q hq => hQ9 q (by omega)) hR9
  have hS := hS.out hI hpe hps hO9
  have hO := hO.trans hO9
  refine ok_aload_n (pc := 173) dX5_copyFrom_173 rfl ?_
  refine ok_getf (pc := 174) dX5_copyFrom_174 fl_X5_54 hD.1 rfl ?_
  refine ok_aload_n (pc := 177) dX5_copyFrom_177 rfl ?_
  refine ok_getf (pc := 178) dX5_copyFrom_178 fl_X5_54 hS.o rfl ?_
  obtain ⟨⟨tp9, pl9, fa9, hli⟩, -⟩ := id hD.2.2.2.2.2.2.2.2.2.2.2.1
  refine ok_callVv1 (pc := 181) (d' := 2) dX5_copyFrom_181 vl_X5_90 hli rfl rfl rfl (by decide) ?_
  refine c_tcp hD.2.2.2.2.2.2.2.2.2.2.2.1 hS.li (hT 0 (by decide)) (fun M9 hR9 hQ9 => ?_)
  have hO9 := Off.sub (a := p) (n := 26) hQ9 (by omega) (by omega)
  have hD := pm_11 hD (fun q hq => hQ9 q (by omega)) hR9
  have hS := hS.out hI hpe hps hO9
  have hO := hO.trans hO9
  refine ok_aload_n (pc := 184) dX5_copyFrom_184 rfl ?_
  refine ok_getf (pc := 185) dX5_copyFrom_185 fl_X5_58 hD.1 rfl ?_
  refine ok_aload_n (pc := 188) dX5_copyFrom_188 rfl ?_
  refine ok_getf (pc := 189) dX5_copyFrom_189 fl_X5_58 hS.o rfl ?_
  obtain ⟨⟨tp8, pl8, fa8, hpa⟩, -⟩ := id hD.2.2.2.2.2.2.2.2.2.2.2.2
  refine ok_callVv1 (pc := 192) (d' := 2) dX5_copyFrom_192 vl_X5_90 hpa rfl rfl rfl (by decide) ?_
  refine c_tcp hD.2.2.2.2.2.2.2.2.2.2.2.2 hS.pa (hT 1 (by decide)) (fun M9 hR9 hQ9 => ?_)
  have hO9 := Off.sub (a := p) (n := 26) hQ9 (by omega) (by omega)
  have hD := pm_12 hD (fun q hq => hQ9 q (by omega)) hR9
  have hS := hS.out hI hpe hps hO9
  have hO := hO.trans hO9
  refine ok_aload_n (pc := 195) dX5_copyFrom_195 rfl ?_
  refine ok_aload_n (pc := 196) dX5_copyFrom_196 rfl ?_
  refine ok_getf (pc := 197) dX5_copyFrom_197 fl_X5_93 hS.o rfl ?_
  refine ok_cpf (pc := 200) dX5_copyFrom_200 pl_X5_93 hD hS hI hpe hse hps rfl rfl (by show _ < 18; decide) (fun M hD hS hO9 => ?_)
  have hO := hO.trans hO9
  refine ok_aload_n (pc := 203) dX5_copyFrom_203 rfl ?_
  refine ok_aload_n (pc := 204) dX5_copyFrom_204 rfl ?_
  refine ok_getf (pc := 205) dX5_copyFrom_205 fl_X5_96 hS.o rfl ?_
  refine ok_cpf (pc := 208) dX5_copyFrom_208 pl_X5_96 hD hS hI hpe hse hps rfl rfl (by show _ < 18; decide) (fun M hD hS hO9 => ?_)
  have hO := hO.trans hO9
  refine ok_aload_n (pc := 211) dX5_copyFrom_211 rfl ?_
  refine ok_aload_n (pc := 212) dX5_copyFrom_212 rfl ?_
  refine ok_getf (pc := 213) dX5_copyFrom_213 fl_X5_61 hS.o rfl ?_
  refine ok_cpf (pc := 216) dX5_copyFrom_216 pl_X5_61 hD hS hI hpe hse hps rfl rfl (by show _ < 18; decide) (fun M hD hS hO9 => ?_)
  have hO := hO.trans hO9
  refine ok_vret (pc := 219) dX5_copyFrom_219 rfl ?_
  refine k _ ?_ hS hO
  obtain ⟨d0, d1, d2, d3, d4, ⟨kr, k1, k2, k3⟩, d6, d7, d8, d9, d10, d11, d12⟩ := hD
  refine ⟨d0, d1, d2, d3, d4, ?_, d6, d7, d8, d9, d10, d11, d12⟩
  obtain ⟨kr1, s1, s2, s3⟩ := id hS.kt
  have e5 := (hO (s + 5) (by omega)).trans h5
  have e1 : kr1 = kr0 := by
    rw [e5] at s1
    simp only [Option.some.injEq, Sum.inl.injEq, Sum.inr.injEq, Prod.mk.injEq, true_and] at s1
    exact s1.symm
  subst e1
  refine ⟨kr, k1, fun q9 h9 => ?_, fun q9 h9 => ?_⟩
  · rw [k2 q9 (by omega)]; exact s2 q9 h9
  · rcases Nat.lt_or_ge q9 8 with g | g
    · rw [k2 q9 g]; exact s3 q9 h9
    · exact k3 q9 g

set_option maxHeartbeats 1000000 in
theorem l_cp70 {Γ : Cx} {p s e z sz : Nat} {σ τ : Rw} {M0 : Nat → Option va_E} {K : Wd → Prop} {kr0 : Nat → Option Nat} (hI : Inv σ) (hpe : p + 26 ≤ e) (hse : s + 26 ≤ e) (hps : p + 26 ≤ s ∨ s + 26 ≤ p) (h5 : M0 (s + 5) = aR Γ 8 kr0) (k : ∀ M', PstR Γ p e z σ M' → PstR Γ s e z σ M' → Off p 26 M0 M' → K (M', sz)) : ∀ (n : Nat) (j : Nat) (xi : Int32) (M : Nat → Option va_E), j + n = 8 → xi = nI j → PstM Γ p ((pfs p τ).set 3 (.int (σ 1))) (cpK kr0 j) (uv (uv (uv (uv (fun _ => τ) 1 σ) 2 σ) 3 σ) 4 σ) M → PstR Γ s e z σ M → Off p 26 M0 M → Ok Γ mX5_copyFrom 3 0 70 [some (.ref p), some (.ref s), some (.int xi)] [] (M, sz) (cv K) := by
  intro n
  induction n with
  | zero =>
    intro j xi M h1 ei hD hS hO
    refine ok_iload_n (pc := 70) dX5_copyFrom_70 rfl ?_
    refine ok_bipush (pc := 71) (v := 8) dX5_copyFrom_71 (by decide) ?_
    refine ok_icmp_ge (pc := 73) 94 dX5_copyFrom_73 (by decide) (fun cc_73 => ?_) (fun cc_73 => ?_)
    · have ce_73 := Int32.not_lt.mpr cc_73
      have e9 : j = 8 := by omega
      subst e9
      exact l_cp94 hD hS hI hpe hse hps h5 hO k
    · exact absurd (by rw [ei, fa_lit 8]; exact nI_le (by omega) (by omega)) cc_73
  | succ n ih =>
    intro j xi M h1 ei hD hS hO
    refine ok_iload_n (pc := 70) dX5_copyFrom_70 rfl ?_
    refine ok_bipush (pc := 71) (v := 8) dX5_copyFrom_71 (by decide) ?_
    refine ok_icmp_ge (pc := 73) 94 dX5_copyFrom_73 (by decide) (fun cc_73 => ?_) (fun cc_73 => ?_)
    · rw [ei, fa_lit 8] at cc_73
      exact absurd cc_73 (nI_ge (by omega) (by omega))
    · have ce_73 := Int32.not_le.mp cc_73
      refine ok_aload_n (pc := 76) dX5_copyFrom_76 rfl ?_
      refine ok_getf (pc := 77) dX5_copyFrom_77 fl_X5_26 hD.1 rfl ?_
      refine ok_iload_n (pc := 80) dX5_copyFrom_80 rfl ?_
      refine ok_aload_n (pc := 81) dX5_copyFrom_81 rfl ?_
      refine ok_getf (pc := 82) dX5_copyFrom_82 fl_X5_26 hS.o rfl ?_
      refine ok_iload_n (pc := 85) dX5_copyFrom_85 rfl ?_
      have e5 : M (s + 5) = aR Γ 8 kr0 := (hO (s + 5) (by omega)).trans h5
      refine ok_aald (pc := 86) (t := 1) j dX5_copyFrom_86 e5 rfl ei (by omega) (by decide) ?_
      refine ok_cpk (pc := 87) j dX5_copyFrom_87 hD hS hI hpe hse hps e5 ei (by omega) (fun M hD hS hO9 => ?_)
      have hO := hO.trans hO9
      refine ok_iinc2 (pc := 88) (v := 1) dX5_copyFrom_88 (by decide) (by decide) rfl ?_
      refine ok_goto (pc := 91) 70 dX5_copyFrom_91 (by decide) ?_
      exact ih (j + 1) _ _ (by omega) (by rw [ei, nI_1]) hD hS hO

set_option maxHeartbeats 1000000 in
theorem c_copyFrom {Γ : Cx} {p s e z sz : Nat} {σ τ : Rw} {M : Nat → Option va_E} {K : Wd → Prop} (hP : PstR Γ p e z τ M) (hK8 : cK τ ≤ 8) (hS : PstR Γ s e z σ M) (hI : Inv σ) (hpe : p + 26 ≤ e) (hse : s + 26 ≤ e) (hps : p + 26 ≤ s ∨ s + 26 ≤ p) (k : ∀ M', PstR Γ p e z σ M' → PstR Γ s e z σ M' → Off p 26 M M' → K (M', sz)) : Spec Γ mX5_copyFrom 3 0 [.ref p, .ref s] (M, sz) (cv K) := by
  have hO : Off p 26 M M := Off.rfl'
  obtain ⟨kr0, h5, -⟩ := id hS.kt
  have hD : PstM Γ p (pfs p τ) (cpK kr0 0) (fun _ => τ) M := by
    obtain ⟨d0, d1, d2, d3, d4, ⟨kr, k1, k2, k3⟩, d6, d7, d8, d9, d10, d11, d12⟩ := hP
    exact ⟨d0, d1, d2, d3, d4, ⟨kr, k1, fun _ h => absurd h (Nat.not_lt_zero _), fun q h => k3 q (by omega)⟩, d6, d7, d8, d9, d10, d11, d12⟩
  refine spec_in [some (.ref p), some (.ref s), none] 1 (by decide) rfl rfl ?_
  refine ok_aload_n (pc := 0) dX5_copyFrom_0 rfl ?_
  refine ok_getf (pc := 1) dX5_copyFrom_1 fl_X5_9 hS.o rfl ?_
  refine ok_iconst (pc := 4) (v := 0) dX5_copyFrom_4 (by decide) ?_
  refine ok_aload_n (pc := 5) dX5_copyFrom_5 rfl ?_
  refine ok_getf (pc := 6) dX5_copyFrom_6 fl_X5_9 hD.1 rfl ?_
  refine ok_iconst (pc := 9) (v := 0) dX5_copyFrom_9 (by decide) ?_
  refine ok_bipush (pc := 10) (v := 9) dX5_copyFrom_10 (by decide) ?_
  refine ok_cp1 (pc := 12) dX5_copyFrom_12 tw_873 hD hS hI hpe hse hps rfl (by decide) (fun M hD hS hO9 => ?_)
  have hO := hO.trans hO9
  refine ok_aload_n (pc := 15) dX5_copyFrom_15 rfl ?_
  refine ok_getf (pc := 16) dX5_copyFrom_16 fl_X5_15 hS.o rfl ?_
  refine ok_iconst (pc := 19) (v := 0) dX5_copyFrom_19 (by decide) ?_
  refine ok_aload_n (pc := 20) dX5_copyFrom_20 rfl ?_
  refine ok_getf (pc := 21) dX5_copyFrom_21 fl_X5_15 hD.1 rfl ?_
  refine ok_iconst (pc := 24) (v := 0) dX5_copyFrom_24 (by decide) ?_
  refine ok_bipush (pc := 25) (v := 9) dX5_copyFrom_25 (by decide) ?_
  refine ok_cp2 (pc := 27) dX5_copyFrom_27 tw_873 hD hS hI hpe hse hps rfl (by decide) (fun M hD hS hO9 => ?_)
  have hO := hO.trans hO9
  refine ok_aload_n (pc := 30) dX5_copyFrom_30 rfl ?_
  refine ok_getf (pc := 31) dX5_copyFrom_31 fl_X5_18 hS.o rfl ?_
  refine ok_iconst (pc := 34) (v := 0) dX5_copyFrom_34 (by decide) ?_
  refine ok_aload_n (pc := 35) dX5_copyFrom_35 rfl ?_
  refine ok_getf (pc := 36) dX5_copyFrom_36 fl_X5_18 hD.1 rfl ?_
  refine ok_iconst (pc := 39) (v := 0) dX5_copyFrom_39 (by decide) ?_
  refine ok_bipush (pc := 40) (v := 9) dX5_copyFrom_40 (by decide) ?_
  refine ok_cp3 (pc := 42) dX5_copyFrom_42 tw_873 hD hS hI hpe hse hps rfl (by decide) (fun M hD hS hO9 => ?_)
  have hO := hO.trans hO9
  refine ok_aload_n (pc := 45) dX5_copyFrom_45 rfl ?_
  refine ok_aload_n (pc := 46) dX5_copyFrom_46 rfl ?_
  refine ok_getf (pc := 47) dX5_copyFrom_47 fl_X5_77 hS.o rfl ?_
  refine ok_cpf (pc := 50) dX5_copyFrom_50 pl_X5_77 hD hS hI hpe hse hps rfl rfl (by show _ < 18; decide) (fun M hD hS hO9 => ?_)
  have hO := hO.trans hO9
  refine ok_aload_n (pc := 53) dX5_copyFrom_53 rfl ?_
  refine ok_getf (pc := 54) dX5_copyFrom_54 fl_X5_21 hS.o rfl ?_
  refine ok_iconst (pc := 57) (v := 0) dX5_copyFrom_57 (by decide) ?_
  refine ok_aload_n (pc := 58) dX5_copyFrom_58 rfl ?_
  refine ok_getf (pc := 59) dX5_copyFrom_59 fl_X5_21 hD.1 rfl ?_
  refine ok_iconst (pc := 62) (v := 0) dX5_copyFrom_62 (by decide) ?_
  refine ok_bipush (pc := 63) (v := 24) dX5_copyFrom_63 (by decide) ?_
  refine ok_cp4 (pc := 65) dX5_copyFrom_65 tw_873 hD hS hI hpe hse hps rfl (by decide) (fun M hD hS hO9 => ?_)
  have hO := hO.trans hO9
  refine ok_iconst (pc := 68) (v := 0) dX5_copyFrom_68 (by decide) ?_
  refine ok_istore_n2 (pc := 69) dX5_copyFrom_69 (by decide) rfl ?_
  exact l_cp70 hI hpe hse hps h5 k 8 0 _ _ (by omega) rfl hD hS hO
