/-! what stays of the object when a piece of it changes -/
theorem ShR.tr {Γ : Cx} {a : Nat} {va va' : Nat → Rw} {M M' : Nat → Option va_E} (h : ShR Γ a va M) (hv : ∀ s, s ≠ 4 → va' s = va s) (hw : ∀ q, a + 81 ≤ q → q < a + 92 → q ≠ a + 82 → M' q = M q) : ShR Γ a va' M' := by
  obtain ⟨⟨sr, s1, s2⟩, s3⟩ := h
  refine ⟨⟨sr, (hw _ (by omega) (by omega) (by omega)).trans s1, s2⟩, fun q hq => ?_⟩
  obtain ⟨t1, f, t2, t3⟩ := s3 q hq
  rw [hv 21 (by decide), hv 22 (by decide), hv 23 (by decide)]
  exact ⟨(hw _ (by omega) (by omega) (by omega)).trans t1, f, (hw _ (by omega) (by omega) (by omega)).trans t2, t3⟩
theorem eU_ne (va : Nat → Rw) (e0 : Nat) {s : Nat} (h : s ≠ 4) : eU va e0 s = va s := by
  unfold eU
  split
  · rfl
  · unfold va_up; rw [if_neg h]
theorem eU_4 {va : Nat → Rw} {e0 : Nat} (h : e0 ≠ 0) : eU va e0 4 = upd (va 4) e0 (va 4 e0 + 1) := by
  unfold eU
  rw [if_neg h]
  unfold va_up
  rw [if_pos rfl]
theorem ClsR.er {Γ : Cx} {a e z : Nat} {σ κ vi : Rw} {va : Nat → Rw} {M M' : Nat → Option va_E} (hC : ClsR Γ a e z σ κ vi va M) (hI : Inv σ) (hae : a + 92 ≤ e) {e0 : Nat} (h0 : e0 ≠ 0) (he : rowE Γ M' (a + 82) 6 (upd (va 4) e0 (va 4 e0 + 1))) (hw : ∀ q, q < a + 82 ∨ a + 83 ≤ q → M' q = M q) : ClsR Γ a e z σ κ vi (eU va e0) M' := by
  obtain ⟨c0, c1, c2, c3, c4, c5, c6, c7⟩ := hC
  have hv : ∀ s, s ≠ 4 → eU va e0 s = va s := fun s h => eU_ne va e0 h
  exact ⟨(hw _ (by omega)).trans c0, c1.same hI.1.2.1.2 (fun q g1 g2 => hw q (by omega)) (fun q g1 g2 => hw q (by omega)) (Nat.le_refl _), (by obtain ⟨τ, i, h⟩ := c2; exact ⟨τ, i, h.same i.1.2.1.2 (fun q g1 g2 => hw q (by omega)) (fun q g1 g2 => hw q (by omega)) (Nat.le_refl _)⟩), (by obtain ⟨τ, i, h, g⟩ := c3; exact ⟨τ, i, h.same i.1.2.1.2 (fun q g1 g2 => hw q (by omega)) (fun q g1 g2 => hw q (by omega)) (Nat.le_refl _), g⟩), (by rw [hv 18 (by decide)]; exact c4.tr (hw _ (by omega)) (hw _ (by omega)) rfl (fun _ _ => rfl)), (c5.tr hv (fun q g1 g2 g3 => hw q (by omega))), (by rw [eU_4 h0]; exact he), (by obtain ⟨f, h⟩ := c7; exact ⟨f, (hw _ (by omega)).trans h⟩)⟩
theorem ClsR.po {Γ : Cx} {a e z : Nat} {σ κ vi : Rw} {va : Nat → Rw} {M M' : Nat → Option va_E} (hC : ClsR Γ a e z σ κ vi va M) (hI : Inv σ) (hae : a + 92 ≤ e) {σ' : Rw} (hP : PstR Γ (a + 1) e z σ' M') (hw : ∀ q, q < a + 1 ∨ a + 27 ≤ q → M' q = M q) : ClsR Γ a e z σ' κ vi va M' := by
  obtain ⟨c0, c1, c2, c3, c4, c5, c6, c7⟩ := hC
  have hv : ∀ s, s ≠ 4 → va s = va s := fun _ _ => rfl
  exact ⟨(hw _ (by omega)).trans c0, hP, (by obtain ⟨τ, i, h⟩ := c2; exact ⟨τ, i, h.same i.1.2.1.2 (fun q g1 g2 => hw q (by omega)) (fun q g1 g2 => hw q (by omega)) (Nat.le_refl _)⟩), (by obtain ⟨τ, i, h, g⟩ := c3; exact ⟨τ, i, h.same i.1.2.1.2 (fun q g1 g2 => hw q (by omega)) (fun q g1 g2 => hw q (by omega)) (Nat.le_refl _), g⟩), (by rw [hv 18 (by decide)]; exact c4.tr (hw _ (by omega)) (hw _ (by omega)) rfl (fun _ _ => rfl)), (c5.tr hv (fun q g1 g2 g3 => hw q (by omega))), c6.tr (hw _ (by omega)) (fun _ _ => rfl), (by obtain ⟨f, h⟩ := c7; exact ⟨f, (hw _ (by omega)).trans h⟩)⟩
theorem ClsR.ah {Γ : Cx} {a e z : Nat} {σ κ vi : Rw} {va : Nat → Rw} {M M' : Nat → Option va_E} (hC : ClsR Γ a e z σ κ vi va M) (hI : Inv σ) (hae : a + 92 ≤ e) {τ : Rw} (hT : Inv τ) (hP : PstR Γ (a + 27) e z τ M') (hw : ∀ q, q < a + 27 ∨ a + 53 ≤ q → M' q = M q) : ClsR Γ a e z σ κ vi va M' := by
  obtain ⟨c0, c1, c2, c3, c4, c5, c6, c7⟩ := hC
  have hv : ∀ s, s ≠ 4 → va s = va s := fun _ _ => rfl
  exact ⟨(hw _ (by omega)).trans c0, c1.same hI.1.2.1.2 (fun q g1 g2 => hw q (by omega)) (fun q g1 g2 => hw q (by omega)) (Nat.le_refl _), ⟨τ, hT, hP⟩, (by obtain ⟨τ, i, h, g⟩ := c3; exact ⟨τ, i, h.same i.1.2.1.2 (fun q g1 g2 => hw q (by omega)) (fun q g1 g2 => hw q (by omega)) (Nat.le_refl _), g⟩), (by rw [hv 18 (by decide)]; exact c4.tr (hw _ (by omega)) (hw _ (by omega)) rfl (fun _ _ => rfl)), (c5.tr hv (fun q g1 g2 g3 => hw q (by omega))), c6.tr (hw _ (by omega)) (fun _ _ => rfl), (by obtain ⟨f, h⟩ := c7; exact ⟨f, (hw _ (by omega)).trans h⟩)⟩

set_option maxHeartbeats 1000000 in
theorem c_error {Γ : Cx} {a e z sz : Nat} {σ κ vi : Rw} {va : Nat → Rw} {M : Nat → Option va_E} {K : Int32 → Wd → Prop} (hC : ClsR Γ a e z σ κ vi va M) (hI : Inv σ) (hae : a + 92 ≤ e) {x : Int32} (e0 : Nat) (ex : x = nI e0) (h1 : 1 ≤ e0) (h5 : e0 ≤ 5) (k : ∀ M', ClsR Γ a e z σ κ vi (eU va e0) M' → Off a 92 M M' → K (-1000000000 - nI e0) (M', sz)) : Spec Γ mX11_error 1 0 [.ref a, .int x] (M, sz) (ci K) := by
  refine spec_in [some (.ref a), some (.int x)] 0 (by decide) rfl rfl ?_
  refine ok_iload_n (pc := 0) dX11_error_0 rfl ?_
  refine ok_iconst (pc := 1) (v := 1) dX11_error_1 (by decide) ?_
  refine ok_iconst (pc := 2) (v := 5) dX11_error_2 (by decide) ?_
  refine ok_callSi3 (pc := 3) (d' := 0) dX11_error_3 sl_X11_45 rfl (by decide) ?_
  refine c_within ?_
  refine ok_if_eq (pc := 6) 19 dX11_error_6 (by decide) (fun cc_6 => ?_) (fun cc_6 => ?_)
  · have h9 := bI_0.mp cc_6
    rw [ex, show wi (nI e0) 1 5 = true from wi_nI (a := 1) (b := 5) h1 h5 (by decide)] at h9
    cases h9
  · have cq_6 := bI_n0.mp cc_6
    refine ok_aload_n (pc := 9) dX11_error_9 rfl ?_
    refine ok_getf (pc := 10) dX11_error_10 fl_X11_37 hC.1 rfl ?_
    refine ok_iload_n (pc := 13) dX11_error_13 rfl ?_
    refine ok_dup2 (pc := 14) dX11_error_14 rfl rfl ?_
    obtain ⟨fe, g1, g2⟩ := id hC.2.2.2.2.2.2.1
    refine ok_iald (pc := 15) e0 dX11_error_15 g1 ex (by omega) (by decide) ?_
    refine ok_iconst (pc := 16) (v := 1) dX11_error_16 (by decide) ?_
    refine ok_iadd (pc := 17) dX11_error_17 ?_
    refine ok_iast (pc := 18) e0 dX11_error_18 g1 ex (by omega) (by decide) ?_
    have hC2 := hC.er (e0 := e0) (M' := va_up M (a + 82) (aI Γ 6 (upd fe e0 (fe e0 + 1)))) hI hae (by omega) ⟨_, up_eq, fun j hj => by
      by_cases c : j = e0
      · rw [c, upd_at, upd_at, g2 e0 (by omega)]
      · rw [upd_ne c, upd_ne c]; exact g2 j hj⟩ (fun q hq => up_ne (by omega))
    have hO2 : Off a 92 M (va_up M (a + 82) (aI Γ 6 (upd fe e0 (fe e0 + 1)))) := fun q hq => up_ne (by omega)
    refine ok_ldcw (pc := 19) (v := -1000000000) dX11_error_19 tw_299 ?_
    refine ok_iload_n (pc := 22) dX11_error_22 rfl ?_
    refine ok_isub (pc := 23) dX11_error_23 ?_
    refine ok_iret (pc := 24) dX11_error_24 rfl ?_
    rw [ex]
    exact k _ hC2 hO2
