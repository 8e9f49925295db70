theorem ClsR.ke {Γ : Cx} {a e z : Nat} {σ κ vi : Rw} {va : Nat → Rw} {M M' : Nat → Option va_E} {κ' : Rw} (hC : ClsR Γ a e z σ κ vi va M) (hI : Inv σ) (hae : a + 92 ≤ e) {τ : Rw} (hT : Inv τ) (hP : PstR Γ (a + 53) e z τ M') (hk : vi 3 ≠ 0 → ∀ j, j < 369 → κ' j = τ j) (hw : ∀ q, q < a + 53 ∨ a + 79 ≤ q → M' q = M q) : ClsR Γ a e z σ κ' vi va M' := by
  obtain ⟨c0, c1, c2, c3, c4, c5, c6, c7⟩ := hC
  have hv : ∀ s, s ≠ 4 → va s = va s := fun _ _ => rfl
  exact ⟨(hw _ (by omega)).trans c0, c1.same hI.1.2.1.2 (fun q g1 g2 => hw q (by omega)) (fun q g1 g2 => hw q (by omega)) (Nat.le_refl _), (by obtain ⟨τ, i, h⟩ := c2; exact ⟨τ, i, h.same i.1.2.1.2 (fun q g1 g2 => hw q (by omega)) (fun q g1 g2 => hw q (by omega)) (Nat.le_refl _)⟩), ⟨τ, hT, hP, hk⟩, (by rw [hv 18 (by decide)]; exact c4.tr (hw _ (by omega)) (hw _ (by omega)) rfl (fun _ _ => rfl)), (c5.tr hv (fun q g1 g2 g3 => hw q (by omega))), c6.tr (hw _ (by omega)) (fun _ _ => rfl), (by obtain ⟨f, h⟩ := c7; exact ⟨f, (hw _ (by omega)).trans h⟩)⟩
theorem ClsR.ob {Γ : Cx} {a e z : Nat} {σ κ vi : Rw} {va : Nat → Rw} {M M' : Nat → Option va_E} (hC : ClsR Γ a e z σ κ vi va M) (hI : Inv σ) (hae : a + 92 ≤ e) {v : Int32} (x0 : M' a = some (.inr (11, xfs a (upd vi 3 v 3)))) (hk : ∀ τ : Rw, (vi 3 ≠ 0 → ∀ j, j < 369 → κ j = τ j) → (upd vi 3 v 3 ≠ 0 → ∀ j, j < 369 → κ j = τ j)) (hw : ∀ q, q < a ∨ a + 1 ≤ q → M' q = M q) : ClsR Γ a e z σ κ (upd vi 3 v) va M' := by
  obtain ⟨c0, c1, c2, c3, c4, c5, c6, c7⟩ := hC
  have hv : ∀ s, s ≠ 4 → va s = va s := fun _ _ => rfl
  exact ⟨x0, c1.same hI.1.2.1.2 (fun q g1 g2 => hw q (by omega)) (fun q g1 g2 => hw q (by omega)) (Nat.le_refl _), (by obtain ⟨τ, i, h⟩ := c2; exact ⟨τ, i, h.same i.1.2.1.2 (fun q g1 g2 => hw q (by omega)) (fun q g1 g2 => hw q (by omega)) (Nat.le_refl _)⟩), (by obtain ⟨τ, i, h, g⟩ := c3; exact ⟨τ, i, h.same i.1.2.1.2 (fun q g1 g2 => hw q (by omega)) (fun q g1 g2 => hw q (by omega)) (Nat.le_refl _), hk τ g⟩), c4.tr (hw _ (by omega)) (hw _ (by omega)) (upd_ne (by decide)) (fun _ _ => rfl), (c5.tr hv (fun q g1 g2 g3 => hw q (by omega))), c6.tr (hw _ (by omega)) (fun _ _ => rfl), (by obtain ⟨f, h⟩ := c7; exact ⟨f, (hw _ (by omega)).trans h⟩)⟩

set_option maxHeartbeats 1000000 in
theorem x_restore {Γ : Cx} {a e z sz : Nat} {σ κ vi : Rw} {va : Nat → Rw} {M : Nat → Option va_E} {K : Int32 → Wd → Prop} (hC : ClsR Γ a e z σ κ vi va M) (hI : Inv σ) (hae : a + 92 ≤ e) (k : ∀ M', ClsR Γ a e z (op_restore (vi 3) σ κ).2.2 κ vi (eU va (op_restore (vi 3) σ κ).1) M' → Off a 92 M M' → K (op_restore (vi 3) σ κ).2.1 (M', sz)) : Spec Γ mX11_restore 4 0 [.ref a] (M, sz) (ci K) := by
  obtain ⟨τ, iτ, hkf, hkr⟩ := id hC.2.2.2.1
  refine spec_in [some (.ref a)] 0 (by decide) rfl rfl ?_
  refine ok_aload_n (pc := 0) dX11_restore_0 rfl ?_
  refine ok_getf (pc := 1) dX11_restore_1 fl_X11_283 hC.1 rfl ?_
  refine ok_if_ne (pc := 4) 13 dX11_restore_4 (by decide) (fun cc_4 => ?_) (fun cc_4 => ?_)
  · refine ok_aload_n (pc := 13) dX11_restore_13 rfl ?_
    refine ok_getf (pc := 14) dX11_restore_14 fl_X11_10 hC.1 rfl ?_
    refine ok_aload_n (pc := 17) dX11_restore_17 rfl ?_
    refine ok_getf (pc := 18) dX11_restore_18 fl_X11_19 hC.1 rfl ?_
    refine ok_callVv1 (pc := 21) (d' := 3) dX11_restore_21 vl_X11_198 hC.2.1.o rfl rfl rfl (by decide) ?_
    refine c_copyFrom hC.2.1 hI.1.2.1.2 hkf iτ (by omega) (by omega) (Or.inl (by omega)) (fun M9 hP9 hS9 hO9 => ?_)
    have hP9 : PstR Γ (a + 1) e z κ M9 := hP9.mv iτ (fun _ _ _ => rfl) (fun _ _ _ => rfl) (Nat.le_refl _) (hkr cc_4)
    have hC := hC.po hI hae hP9 (fun q hq => hO9 q (by omega))
    have hO : Off a 92 M M9 := hO9.sub (by omega) (by omega)
    refine ok_aload_n (pc := 24) dX11_restore_24 rfl ?_
    refine ok_getf (pc := 25) dX11_restore_25 fl_X11_10 hC.1 rfl ?_
    refine ok_getf (pc := 28) dX11_restore_28 fl_X11_122 hC.2.1.o rfl ?_
    refine ok_iret (pc := 31) dX11_restore_31 rfl ?_
    have hop : op_restore (vi 3) σ κ = (0, κ 0, κ) := if_neg cc_4
    rw [hop] at k
    rw [eU_0] at k
    exact k _ hC hO
  · refine ok_aload_n (pc := 7) dX11_restore_7 rfl ?_
    refine ok_iconst (pc := 8) (v := 2) dX11_restore_8 (by decide) ?_
    refine ok_callVi1 (pc := 9) (d' := 1) dX11_restore_9 vl_X11_49 hC.1 rfl rfl rfl (by decide) ?_
    refine c_error hC hI hae 2 rfl (by decide) (by decide) (fun M2 hC2 hO2 => ?_)
    refine ok_iret (pc := 12) dX11_restore_12 rfl ?_
    have hop : op_restore (vi 3) σ κ = e3 2 σ := if_pos cc_4
    rw [hop] at k
    exact k _ hC2 hO2

theorem ClsR.im {Γ : Cx} {a e z : Nat} {σ κ vi : Rw} {va : Nat → Rw} {M M' : Nat → Option va_E} (hC : ClsR Γ a e z σ κ vi va M) (hI : Inv σ) (hae : a + 92 ≤ e) {v : Int32} (hP : PstR Γ (a + 53) e z σ M') (x0 : M' a = some (.inr (11, xfs a v))) (hw : ∀ q, q < a ∨ (a < q ∧ q < a + 53) ∨ a + 79 ≤ q → M' q = M q) : ClsR Γ a e z σ σ (upd vi 3 v) va M' := by
  obtain ⟨c0, c1, c2, c3, c4, c5, c6, c7⟩ := hC
  have hv : ∀ s, s ≠ 4 → va s = va s := fun _ _ => rfl
  exact ⟨(by rw [upd_at]; exact x0), c1.same hI.1.2.1.2 (fun q g1 g2 => hw q (by omega)) (fun q g1 g2 => hw q (by omega)) (Nat.le_refl _), (by obtain ⟨τ, i, h⟩ := c2; exact ⟨τ, i, h.same i.1.2.1.2 (fun q g1 g2 => hw q (by omega)) (fun q g1 g2 => hw q (by omega)) (Nat.le_refl _)⟩), ⟨σ, hI, hP, fun _ _ _ => rfl⟩, c4.tr (hw _ (by omega)) (hw _ (by omega)) (upd_ne (by decide)) (fun _ _ => rfl), (c5.tr hv (fun q g1 g2 g3 => hw q (by omega))), c6.tr (hw _ (by omega)) (fun _ _ => rfl), (by obtain ⟨f, h⟩ := c7; exact ⟨f, (hw _ (by omega)).trans h⟩)⟩

set_option maxHeartbeats 1000000 in
theorem x_image {Γ : Cx} {a e z sz : Nat} {σ κ vi : Rw} {va : Nat → Rw} {M : Nat → Option va_E} {K : Int32 → Wd → Prop} (hC : ClsR Γ a e z σ κ vi va M) (hI : Inv σ) (hae : a + 92 ≤ e) (k : ∀ M', ClsR Γ a e z σ σ (upd vi 3 (vi 3 + 1)) va M' → Off a 92 M M' → K (vi 3 + 1) (M', sz)) : Spec Γ mX11_image 4 0 [.ref a] (M, sz) (ci K) := by
  obtain ⟨τ, iτ, hkf, hkr⟩ := id hC.2.2.2.1
  refine spec_in [some (.ref a)] 0 (by decide) rfl rfl ?_
  refine ok_aload_n (pc := 0) dX11_image_0 rfl ?_
  refine ok_getf (pc := 1) dX11_image_1 fl_X11_19 hC.1 rfl ?_
  refine ok_aload_n (pc := 4) dX11_image_4 rfl ?_
  refine ok_getf (pc := 5) dX11_image_5 fl_X11_10 hC.1 rfl ?_
  refine ok_callVv1 (pc := 8) (d' := 3) dX11_image_8 vl_X11_198 hkf.o rfl rfl rfl (by decide) ?_
  refine c_copyFrom hkf iτ.1.2.1.2 hC.2.1 hI (by omega) (by omega) (Or.inr (by omega)) (fun M9 hP9 hS9 hO9 => ?_)
  have hC0 := hC
  have hC := hC.ke (κ' := σ) hI hae hI hP9 (fun _ _ _ => rfl) (fun q hq => hO9 q (by omega))
  refine ok_aload_n (pc := 11) dX11_image_11 rfl ?_
  refine ok_dup (pc := 12) dX11_image_12 rfl ?_
  refine ok_getf (pc := 13) dX11_image_13 fl_X11_283 hC.1 rfl ?_
  refine ok_iconst (pc := 16) (v := 1) dX11_image_16 (by decide) ?_
  refine ok_iadd (pc := 17) dX11_image_17 ?_
  refine ok_putf (pc := 18) dX11_image_18 pl_X11_283 hC.1 rfl rfl (by show 7 < 8; decide) ?_
  have hP8 : PstR Γ (a + 53) e z σ (va_up M9 a (some (.inr (11, xfs a (vi 3 + 1))))) := hP9.same hI.1.2.1.2 (fun q g1 g2 => up_ne (by omega)) (fun q g1 g2 => up_ne (by omega)) (Nat.le_refl _)
  have hC := hC0.im (v := vi 3 + 1) hI hae hP8 up_eq (fun q hq => (up_ne (by omega)).trans (hO9 q (by omega)))
  have hO : Off a 92 M (va_up M9 a (some (.inr (11, xfs a (vi 3 + 1))))) := fun q hq => (up_ne (by omega)).trans (hO9 q (by omega))
  refine ok_aload_n (pc := 21) dX11_image_21 rfl ?_
  refine ok_getf (pc := 22) dX11_image_22 fl_X11_283 hC.1 rfl ?_
  refine ok_iret (pc := 25) dX11_image_25 rfl ?_
  rw [upd_at]
  exact k _ hC hO

set_option maxHeartbeats 1000000 in
theorem x_ofHill {Γ : Cx} {a e z sz : Nat} {σ κ vi : Rw} {va : Nat → Rw} {M : Nat → Option va_E} {K : Int32 → Wd → Prop} (hC : ClsR Γ a e z σ κ vi va M) (hI : Inv σ) (hae : a + 92 ≤ e) {x y : Int32} (k : ∀ M', ClsR Γ a e z σ κ vi (eU va (op_ofHill σ x y).1) M' → Off a 92 M M' → K (op_ofHill σ x y).2 (M', sz)) : Spec Γ mX11_ofHill 4 0 [.ref a, .int x, .int y] (M, sz) (ci K) := by
  obtain ⟨⟨⟨eH, lH⟩, ⟨eK, lK⟩, ⟨eL, lL⟩, ⟨eA, lA⟩, ⟨eT, lT⟩⟩, iK, iH, iW, iL, iO, iB, hT⟩ := id hI
  
  refine spec_in [some (.ref a), some (.int x), some (.int y)] 0 (by decide) rfl rfl ?_
  refine ok_aload_n (pc := 0) dX11_ofHill_0 rfl ?_
  refine ok_getf (pc := 1) dX11_ofHill_1 fl_X11_10 hC.1 rfl ?_
  refine ok_iload_n (pc := 4) dX11_ofHill_4 rfl ?_
  refine ok_callVi1 (pc := 5) (d' := 0) dX11_ofHill_5 vl_X11_64 hC.2.1.o rfl rfl rfl (by decide) ?_
  refine c_isHill hC.2.1 eH lH ?_
  refine ok_if_ne (pc := 8) 17 dX11_ofHill_8 (by decide) (fun cc_8 => ?_) (fun cc_8 => ?_)
  · have cq_8 := bI_n0.mp cc_8
    refine ok_iload_n (pc := 17) dX11_ofHill_17 rfl ?_
    by_cases sw18_0 : y = 0
    · refine ok_table (pc := 18) 44 dX11_ofHill_18 (by rw [sw18_0]; decide) (by rw [sw18_0]; decide) (by rw [sw18_0]; rfl) (by decide) ?_
      refine ok_aload_n (pc := 44) dX11_ofHill_44 rfl ?_
      refine ok_getf (pc := 45) dX11_ofHill_45 fl_X11_10 hC.1 rfl ?_
      refine ok_iload_n (pc := 48) dX11_ofHill_48 rfl ?_
      refine ok_callVi1 (pc := 49) (d' := 1) dX11_ofHill_49 vl_X11_68 hC.2.1.o rfl rfl rfl (by decide) ?_
      obtain ⟨ex9, lx9⟩ := wi_cnt eH (by omega) cq_8
      refine c_placeOf hC.2.1 (iN x) ex9 (by omega) ?_
      refine ok_iret (pc := 52) dX11_ofHill_52 rfl ?_
      have hop : op_ofHill σ x y = (0, σ (9 + 2 * iN x)) := by
        rw [sw18_0]
        unfold op_ofHill
        rw [if_pos (by rw [cq_8]; rfl)]
        show (0, if (0 : Int32) < 2 then _ else _) = _
        rw [if_pos (by decide)]
        try rfl
      rw [hop] at k
      rw [eU_0] at k
      exact k _ hC Off.rfl'
    by_cases sw18_1 : y = 1
    · refine ok_table (pc := 18) 53 dX11_ofHill_18 (by rw [sw18_1]; decide) (by rw [sw18_1]; decide) (by rw [sw18_1]; rfl) (by decide) ?_
      refine ok_aload_n (pc := 53) dX11_ofHill_53 rfl ?_
      refine ok_getf (pc := 54) dX11_ofHill_54 fl_X11_10 hC.1 rfl ?_
      refine ok_iload_n (pc := 57) dX11_ofHill_57 rfl ?_
      refine ok_callVi1 (pc := 58) (d' := 1) dX11_ofHill_58 vl_X11_71 hC.2.1.o rfl rfl rfl (by decide) ?_
      obtain ⟨ex9, lx9⟩ := wi_cnt eH (by omega) cq_8
      refine c_heightOf hC.2.1 eH lH (iN x) ex9 lx9 ?_
      refine ok_iret (pc := 61) dX11_ofHill_61 rfl ?_
      have hop : op_ofHill σ x y = (0, hz σ (iN x)) := by
        rw [sw18_1]
        unfold op_ofHill
        rw [if_pos (by rw [cq_8]; rfl)]
        show (0, if (1 : Int32) < 2 then _ else _) = _
        rw [if_pos (by decide)]
        try rfl
      rw [hop] at k
      rw [eU_0] at k
      exact k _ hC Off.rfl'
    by_cases sw18_2 : y = 2
    · refine ok_table (pc := 18) 62 dX11_ofHill_18 (by rw [sw18_2]; decide) (by rw [sw18_2]; decide) (by rw [sw18_2]; rfl) (by decide) ?_
      refine ok_aload_n (pc := 62) dX11_ofHill_62 rfl ?_
      refine ok_getf (pc := 63) dX11_ofHill_63 fl_X11_10 hC.1 rfl ?_
      refine ok_iload_n (pc := 66) dX11_ofHill_66 rfl ?_
      refine ok_callVi1 (pc := 67) (d' := 3) dX11_ofHill_67 vl_X11_74 hC.2.1.o rfl rfl rfl (by decide) ?_
      refine c_lettersOn hC.2.1 eL lL ?_
      refine ok_iret (pc := 70) dX11_ofHill_70 rfl ?_
      have hop : op_ofHill σ x y = (0, lonF σ x (cL σ)) := by
        rw [sw18_2]
        unfold op_ofHill
        rw [if_pos (by rw [cq_8]; rfl)]
        show (0, if (2 : Int32) < 2 then _ else _) = _
        rw [if_neg (by decide)]
        try rfl
      rw [hop] at k
      rw [eU_0] at k
      exact k _ hC Off.rfl'
    refine ok_tableOut (pc := 18) 71 dX11_ofHill_18 (by have h := tab_out (0) 3 (by decide) (by decide) (fun j hj => by match j, hj with | 0, _ => exact (fun h => sw18_0 (h.trans (by decide))) | 1, _ => exact (fun h => sw18_1 (h.trans (by decide))) | 2, _ => exact (fun h => sw18_2 (h.trans (by decide)))); exact h) (by decide) ?_
    refine ok_aload_n (pc := 71) dX11_ofHill_71 rfl ?_
    refine ok_iconst (pc := 72) (v := 1) dX11_ofHill_72 (by decide) ?_
    refine ok_callVi1 (pc := 73) (d' := 1) dX11_ofHill_73 vl_X11_49 hC.1 rfl rfl rfl (by decide) ?_
    refine c_error hC hI hae 1 rfl (by decide) (by decide) (fun M2 hC2 hO2 => ?_)
    refine ok_iret (pc := 76) dX11_ofHill_76 rfl ?_
    have hop : op_ofHill σ x y = (1, -1000000001) := if_neg (fun h => by
      rw [Bool.and_eq_true] at h
      obtain ⟨e9, -, l9⟩ := wi_lit (a := 0) (c := 2) rfl rfl (by decide) (by decide) h.2
      rcases (show iN y = 0 ∨ iN y = 1 ∨ iN y = 2 by omega) with g | g | g <;> rw [g] at e9
      · exact sw18_0 e9
      · exact sw18_1 e9
      · exact sw18_2 e9)
    rw [hop] at k
    rw [er_1]
    exact k _ hC2 hO2
  · have cq_8 := bI_0.mp cc_8
    refine ok_aload_n (pc := 11) dX11_ofHill_11 rfl ?_
    refine ok_iconst (pc := 12) (v := 1) dX11_ofHill_12 (by decide) ?_
    refine ok_callVi1 (pc := 13) (d' := 1) dX11_ofHill_13 vl_X11_49 hC.1 rfl rfl rfl (by decide) ?_
    refine c_error hC hI hae 1 rfl (by decide) (by decide) (fun M2 hC2 hO2 => ?_)
    refine ok_iret (pc := 16) dX11_ofHill_16 rfl ?_
    have hop : op_ofHill σ x y = (1, -1000000001) := if_neg (by rw [cq_8, Bool.false_and]; decide)
    rw [hop] at k
    rw [er_1]
    exact k _ hC2 hO2

set_option maxHeartbeats 1000000 in
theorem x_count {Γ : Cx} {a e z sz : Nat} {σ κ vi : Rw} {va : Nat → Rw} {M : Nat → Option va_E} {K : Int32 → Wd → Prop} (hC : ClsR Γ a e z σ κ vi va M) (hI : Inv σ) (hae : a + 92 ≤ e) {x : Int32} (k : ∀ M', ClsR Γ a e z σ κ vi (eU va (op_count σ (vi 19) x).1) M' → Off a 92 M M' → K (op_count σ (vi 19) x).2 (M', sz)) : Spec Γ mX11_count 2 0 [.ref a, .int x] (M, sz) (ci K) := by
  refine spec_in [some (.ref a), some (.int x)] 0 (by decide) rfl rfl ?_
  refine ok_iload_n (pc := 0) dX11_count_0 rfl ?_
  by_cases sw1_0 : x = 0
  · refine ok_table (pc := 1) 56 dX11_count_1 (by rw [sw1_0]; decide) (by rw [sw1_0]; decide) (by rw [sw1_0]; rfl) (by decide) ?_
    refine ok_aload_n (pc := 56) dX11_count_56 rfl ?_
    refine ok_getf (pc := 57) dX11_count_57 fl_X11_10 hC.1 rfl ?_
    refine ok_getf (pc := 60) dX11_count_60 fl_X11_122 hC.2.1.o rfl ?_
    refine ok_iret (pc := 63) dX11_count_63 rfl ?_
    have hop : op_count σ (vi 19) x = (0, σ 0) := by
      rw [sw1_0]
      unfold op_count
      rw [if_pos (by decide)]
      exact congrArg (Prod.mk 0) (if_pos (by decide))
    rw [hop] at k
    rw [eU_0] at k
    exact k _ hC Off.rfl'
  by_cases sw1_1 : x = 1
  · refine ok_table (pc := 1) 64 dX11_count_1 (by rw [sw1_1]; decide) (by rw [sw1_1]; decide) (by rw [sw1_1]; rfl) (by decide) ?_
    refine ok_aload_n (pc := 64) dX11_count_64 rfl ?_
    refine ok_getf (pc := 65) dX11_count_65 fl_X11_10 hC.1 rfl ?_
    refine ok_getf (pc := 68) dX11_count_68 fl_X11_56 hC.2.1.o rfl ?_
    refine ok_iret (pc := 71) dX11_count_71 rfl ?_
    have hop : op_count σ (vi 19) x = (0, σ 1) := by
      rw [sw1_1]
      unfold op_count
      rw [if_pos (by decide)]
      exact congrArg (Prod.mk 0) (if_pos (by decide))
    rw [hop] at k
    rw [eU_0] at k
    exact k _ hC Off.rfl'
  by_cases sw1_2 : x = 2
  · refine ok_table (pc := 1) 72 dX11_count_1 (by rw [sw1_2]; decide) (by rw [sw1_2]; decide) (by rw [sw1_2]; rfl) (by decide) ?_
    refine ok_aload_n (pc := 72) dX11_count_72 rfl ?_
    refine ok_getf (pc := 73) dX11_count_73 fl_X11_10 hC.1 rfl ?_
    refine ok_getf (pc := 76) dX11_count_76 fl_X11_84 hC.2.1.o rfl ?_
    refine ok_iret (pc := 79) dX11_count_79 rfl ?_
    have hop : op_count σ (vi 19) x = (0, σ 2) := by
      rw [sw1_2]
      unfold op_count
      rw [if_pos (by decide)]
      exact congrArg (Prod.mk 0) (if_pos (by decide))
    rw [hop] at k
    rw [eU_0] at k
    exact k _ hC Off.rfl'
  by_cases sw1_3 : x = 3
  · refine ok_table (pc := 1) 80 dX11_count_1 (by rw [sw1_3]; decide) (by rw [sw1_3]; decide) (by rw [sw1_3]; rfl) (by decide) ?_
    refine ok_aload_n (pc := 80) dX11_count_80 rfl ?_
    refine ok_getf (pc := 81) dX11_count_81 fl_X11_10 hC.1 rfl ?_
    refine ok_getf (pc := 84) dX11_count_84 fl_X11_179 hC.2.1.o rfl ?_
    refine ok_iret (pc := 87) dX11_count_87 rfl ?_
    have hop : op_count σ (vi 19) x = (0, σ 3) := by
      rw [sw1_3]
      unfold op_count
      rw [if_pos (by decide)]
      exact congrArg (Prod.mk 0) (if_pos (by decide))
    rw [hop] at k
    rw [eU_0] at k
    exact k _ hC Off.rfl'
  by_cases sw1_4 : x = 4
  · refine ok_table (pc := 1) 88 dX11_count_1 (by rw [sw1_4]; decide) (by rw [sw1_4]; decide) (by rw [sw1_4]; rfl) (by decide) ?_
    refine ok_aload_n (pc := 88) dX11_count_88 rfl ?_
    refine ok_getf (pc := 89) dX11_count_89 fl_X11_10 hC.1 rfl ?_
    refine ok_getf (pc := 92) dX11_count_92 fl_X11_202 hC.2.1.o rfl ?_
    refine ok_getf (pc := 95) dX11_count_95 fl_X11_140 hC.2.1.ar.1 rfl ?_
    refine ok_iret (pc := 98) dX11_count_98 rfl ?_
    have hop : op_count σ (vi 19) x = (0, σ 4) := by
      rw [sw1_4]
      unfold op_count
      rw [if_pos (by decide)]
      exact congrArg (Prod.mk 0) (if_pos (by decide))
    rw [hop] at k
    rw [eU_0] at k
    exact k _ hC Off.rfl'
  by_cases sw1_5 : x = 5
  · refine ok_table (pc := 1) 99 dX11_count_1 (by rw [sw1_5]; decide) (by rw [sw1_5]; decide) (by rw [sw1_5]; rfl) (by decide) ?_
    refine ok_aload_n (pc := 99) dX11_count_99 rfl ?_
    refine ok_getf (pc := 100) dX11_count_100 fl_X11_10 hC.1 rfl ?_
    refine ok_getf (pc := 103) dX11_count_103 fl_X11_205 hC.2.1.o rfl ?_
    refine ok_iret (pc := 106) dX11_count_106 rfl ?_
    have hop : op_count σ (vi 19) x = (0, σ 5) := by
      rw [sw1_5]
      unfold op_count
      rw [if_pos (by decide)]
      exact congrArg (Prod.mk 0) (if_pos (by decide))
    rw [hop] at k
    rw [eU_0] at k
    exact k _ hC Off.rfl'
  by_cases sw1_6 : x = 6
  · refine ok_table (pc := 1) 107 dX11_count_1 (by rw [sw1_6]; decide) (by rw [sw1_6]; decide) (by rw [sw1_6]; rfl) (by decide) ?_
    refine ok_aload_n (pc := 107) dX11_count_107 rfl ?_
    refine ok_getf (pc := 108) dX11_count_108 fl_X11_10 hC.1 rfl ?_
    refine ok_getf (pc := 111) dX11_count_111 fl_X11_137 hC.2.1.o rfl ?_
    refine ok_getf (pc := 114) dX11_count_114 fl_X11_140 hC.2.1.tp.1 rfl ?_
    refine ok_iret (pc := 117) dX11_count_117 rfl ?_
    have hop : op_count σ (vi 19) x = (0, σ 6) := by
      rw [sw1_6]
      unfold op_count
      rw [if_pos (by decide)]
      exact congrArg (Prod.mk 0) (if_pos (by decide))
    rw [hop] at k
    rw [eU_0] at k
    exact k _ hC Off.rfl'
  by_cases sw1_7 : x = 7
  · refine ok_table (pc := 1) 118 dX11_count_1 (by rw [sw1_7]; decide) (by rw [sw1_7]; decide) (by rw [sw1_7]; rfl) (by decide) ?_
    refine ok_aload_n (pc := 118) dX11_count_118 rfl ?_
    refine ok_getf (pc := 119) dX11_count_119 fl_X11_10 hC.1 rfl ?_
    refine ok_getf (pc := 122) dX11_count_122 fl_X11_286 hC.2.1.o rfl ?_
    refine ok_getf (pc := 125) dX11_count_125 fl_X11_140 hC.2.1.wt.1 rfl ?_
    refine ok_iret (pc := 128) dX11_count_128 rfl ?_
    have hop : op_count σ (vi 19) x = (0, σ 7) := by
      rw [sw1_7]
      unfold op_count
      rw [if_pos (by decide)]
      exact congrArg (Prod.mk 0) (if_pos (by decide))
    rw [hop] at k
    rw [eU_0] at k
    exact k _ hC Off.rfl'
  by_cases sw1_8 : x = 8
  · refine ok_table (pc := 1) 129 dX11_count_1 (by rw [sw1_8]; decide) (by rw [sw1_8]; decide) (by rw [sw1_8]; rfl) (by decide) ?_
    refine ok_aload_n (pc := 129) dX11_count_129 rfl ?_
    refine ok_getf (pc := 130) dX11_count_130 fl_X11_27 hC.1 rfl ?_
    refine ok_getf (pc := 133) dX11_count_133 fl_X11_140 hC.2.2.2.2.1.1 rfl ?_
    refine ok_iret (pc := 136) dX11_count_136 rfl ?_
    have hop : op_count σ (vi 19) x = (0, vi 19) := by
      rw [sw1_8]
      unfold op_count
      rw [if_pos (by decide)]
      exact congrArg (Prod.mk 0) ((if_neg (by decide)).trans (if_pos rfl))
    rw [hop] at k
    rw [eU_0] at k
    exact k _ hC Off.rfl'
  by_cases sw1_9 : x = 9
  · refine ok_table (pc := 1) 137 dX11_count_1 (by rw [sw1_9]; decide) (by rw [sw1_9]; decide) (by rw [sw1_9]; rfl) (by decide) ?_
    refine ok_aload_n (pc := 137) dX11_count_137 rfl ?_
    refine ok_getf (pc := 138) dX11_count_138 fl_X11_10 hC.1 rfl ?_
    refine ok_getf (pc := 141) dX11_count_141 fl_X11_234 hC.2.1.o rfl ?_
    refine ok_iret (pc := 144) dX11_count_144 rfl ?_
    have hop : op_count σ (vi 19) x = (0, σ 8) := by
      rw [sw1_9]
      unfold op_count
      rw [if_pos (by decide)]
      exact congrArg (Prod.mk 0) ((if_neg (by decide)).trans (if_neg (by decide)))
    rw [hop] at k
    rw [eU_0] at k
    exact k _ hC Off.rfl'
  refine ok_tableOut (pc := 1) 145 dX11_count_1 (by have h := tab_out (0) 10 (by decide) (by decide) (fun j hj => by match j, hj with | 0, _ => exact (fun h => sw1_0 (h.trans (by decide))) | 1, _ => exact (fun h => sw1_1 (h.trans (by decide))) | 2, _ => exact (fun h => sw1_2 (h.trans (by decide))) | 3, _ => exact (fun h => sw1_3 (h.trans (by decide))) | 4, _ => exact (fun h => sw1_4 (h.trans (by decide))) | 5, _ => exact (fun h => sw1_5 (h.trans (by decide))) | 6, _ => exact (fun h => sw1_6 (h.trans (by decide))) | 7, _ => exact (fun h => sw1_7 (h.trans (by decide))) | 8, _ => exact (fun h => sw1_8 (h.trans (by decide))) | 9, _ => exact (fun h => sw1_9 (h.trans (by decide)))); exact h) (by decide) ?_
  refine ok_aload_n (pc := 145) dX11_count_145 rfl ?_
  refine ok_iconst (pc := 146) (v := 1) dX11_count_146 (by decide) ?_
  refine ok_callVi1 (pc := 147) (d' := 1) dX11_count_147 vl_X11_49 hC.1 rfl rfl rfl (by decide) ?_
  refine c_error hC hI hae 1 rfl (by decide) (by decide) (fun M2 hC2 hO2 => ?_)
  refine ok_iret (pc := 150) dX11_count_150 rfl ?_
  have hop : op_count σ (vi 19) x = (1, -1000000001) := if_neg (fun h => by
    obtain ⟨e9, -, l9⟩ := wi_lit (a := 0) (c := 9) rfl rfl (by decide) (by decide) h
    rcases (show iN x = 0 ∨ iN x = 1 ∨ iN x = 2 ∨ iN x = 3 ∨ iN x = 4 ∨ iN x = 5 ∨ iN x = 6 ∨ iN x = 7 ∨ iN x = 8 ∨ iN x = 9 by omega) with g | g | g | g | g | g | g | g | g | g <;> rw [g] at e9
    · exact sw1_0 e9
    · exact sw1_1 e9
    · exact sw1_2 e9
    · exact sw1_3 e9
    · exact sw1_4 e9
    · exact sw1_5 e9
    · exact sw1_6 e9
    · exact sw1_7 e9
    · exact sw1_8 e9
    · exact sw1_9 e9)
  rw [hop] at k
  rw [er_1]
  exact k _ hC2 hO2

set_option maxHeartbeats 1000000 in
theorem x_ofKiteF {Γ : Cx} {a e z sz : Nat} {σ κ vi : Rw} {va : Nat → Rw} {M : Nat → Option va_E} {K : Int32 → Wd → Prop} (hC : ClsR Γ a e z σ κ vi va M) (hI : Inv σ) (hae : a + 92 ≤ e) {x y : Int32} (hx : wi x 0 (σ 2 - 1) = false) (k : ∀ M', ClsR Γ a e z σ κ vi (eU va (op_ofKite σ x y).1) M' → Off a 92 M M' → K (op_ofKite σ x y).2 (M', sz)) : Spec Γ mX11_ofKite 2 0 [.ref a, .int x, .int y] (M, sz) (ci K) := by
  obtain ⟨⟨⟨eH, lH⟩, ⟨eK, lK⟩, ⟨eL, lL⟩, ⟨eA, lA⟩, ⟨eT, lT⟩⟩, iK, iH, iW, iL, iO, iB, hT⟩ := id hI
  
  refine spec_in [some (.ref a), some (.int x), some (.int y), none] 1 (by decide) rfl rfl ?_
  refine ok_aload_n (pc := 0) dX11_ofKite_0 rfl ?_
  refine ok_getf (pc := 1) dX11_ofKite_1 fl_X11_10 hC.1 rfl ?_
  refine ok_iload_n (pc := 4) dX11_ofKite_4 rfl ?_
  refine ok_callVr1 (pc := 5) (d' := 0) dX11_ofKite_5 vl_X11_91 hC.2.1.o rfl rfl rfl (by decide) ?_
  refine c_kiteAt hC.2.1 eK lK (fun q9 ex9 lx9 hK9 => absurd (wi_k eK lK ex9 lx9) (by rw [hx]; decide)) (fun h9 => ?_)
  refine ok_astore_nN3 (pc := 8) dX11_ofKite_8 (by decide) rfl ?_
  refine ok_aload_nN (pc := 9) dX11_ofKite_9 rfl ?_
  refine ok_ifnonnullN (pc := 10) dX11_ofKite_10 ?_
  refine ok_aload_n (pc := 13) dX11_ofKite_13 rfl ?_
  refine ok_iconst (pc := 14) (v := 1) dX11_ofKite_14 (by decide) ?_
  refine ok_callVi1 (pc := 15) (d' := 1) dX11_ofKite_15 vl_X11_49 hC.1 rfl rfl rfl (by decide) ?_
  refine c_error hC hI hae 1 rfl (by decide) (by decide) (fun M2 hC2 hO2 => ?_)
  refine ok_iret (pc := 18) dX11_ofKite_18 rfl ?_
  have hop : op_ofKite σ x y = (1, -1000000001) := if_neg (by rw [hx, Bool.false_and]; decide)
  rw [hop] at k
  rw [er_1]
  exact k _ hC2 hO2

set_option maxHeartbeats 1000000 in
theorem x_ofKiteT {Γ : Cx} {a e z sz : Nat} {σ κ vi : Rw} {va : Nat → Rw} {M : Nat → Option va_E} {K : Int32 → Wd → Prop} (hC : ClsR Γ a e z σ κ vi va M) (hI : Inv σ) (hae : a + 92 ≤ e) {x y : Int32} (hx : wi x 0 (σ 2 - 1) = true) (k : ∀ M', ClsR Γ a e z σ κ vi (eU va (op_ofKite σ x y).1) M' → Off a 92 M M' → K (op_ofKite σ x y).2 (M', sz)) : Spec Γ mX11_ofKite 2 0 [.ref a, .int x, .int y] (M, sz) (ci K) := by
  obtain ⟨⟨⟨eH, lH⟩, ⟨eK, lK⟩, ⟨eL, lL⟩, ⟨eA, lA⟩, ⟨eT, lT⟩⟩, iK, iH, iW, iL, iO, iB, hT⟩ := id hI
  
  refine spec_in [some (.ref a), some (.int x), some (.int y), none] 1 (by decide) rfl rfl ?_
  refine ok_aload_n (pc := 0) dX11_ofKite_0 rfl ?_
  refine ok_getf (pc := 1) dX11_ofKite_1 fl_X11_10 hC.1 rfl ?_
  refine ok_iload_n (pc := 4) dX11_ofKite_4 rfl ?_
  refine ok_callVr1 (pc := 5) (d' := 0) dX11_ofKite_5 vl_X11_91 hC.2.1.o rfl rfl rfl (by decide) ?_
  refine c_kiteAt hC.2.1 eK lK (fun q9 ex9 lx9 hK9 => ?_) (fun h9 => absurd h9 (by rw [hx]; decide))
  refine ok_astore_n3 (pc := 8) dX11_ofKite_8 (by decide) rfl ?_
  refine ok_aload_n (pc := 9) dX11_ofKite_9 rfl ?_
  refine ok_ifnonnull (pc := 10) 19 dX11_ofKite_10 (by decide) ?_
  refine ok_iload_n (pc := 19) dX11_ofKite_19 rfl ?_
  by_cases sw20_0 : y = 0
  · refine ok_table (pc := 20) 60 dX11_ofKite_20 (by rw [sw20_0]; decide) (by rw [sw20_0]; decide) (by rw [sw20_0]; rfl) (by decide) ?_
    refine ok_aload_n (pc := 60) dX11_ofKite_60 rfl ?_
    refine ok_getf (pc := 61) dX11_ofKite_61 (flk_X11_95 _) hK9.2 rfl ?_
    refine ok_iret (pc := 64) dX11_ofKite_64 rfl ?_
    have hop : op_ofKite σ x y = (0, kf σ (iN x) 0) := by
      rw [sw20_0]
      unfold op_ofKite
      rw [if_pos (by rw [hx]; rfl)]
      rfl
    rw [hop] at k
    rw [eU_0] at k
    exact k _ hC Off.rfl'
  by_cases sw20_1 : y = 1
  · refine ok_table (pc := 20) 65 dX11_ofKite_20 (by rw [sw20_1]; decide) (by rw [sw20_1]; decide) (by rw [sw20_1]; rfl) (by decide) ?_
    refine ok_aload_n (pc := 65) dX11_ofKite_65 rfl ?_
    refine ok_getf (pc := 66) dX11_ofKite_66 (flk_X11_100 _) hK9.2 rfl ?_
    refine ok_iret (pc := 69) dX11_ofKite_69 rfl ?_
    have hop : op_ofKite σ x y = (0, kf σ (iN x) 1) := by
      rw [sw20_1]
      unfold op_ofKite
      rw [if_pos (by rw [hx]; rfl)]
      rfl
    rw [hop] at k
    rw [eU_0] at k
    exact k _ hC Off.rfl'
  by_cases sw20_2 : y = 2
  · refine ok_table (pc := 20) 70 dX11_ofKite_20 (by rw [sw20_2]; decide) (by rw [sw20_2]; decide) (by rw [sw20_2]; rfl) (by decide) ?_
    refine ok_aload_n (pc := 70) dX11_ofKite_70 rfl ?_
    refine ok_getf (pc := 71) dX11_ofKite_71 (flk_X11_103 _) hK9.2 rfl ?_
    refine ok_iret (pc := 74) dX11_ofKite_74 rfl ?_
    have hop : op_ofKite σ x y = (0, kf σ (iN x) 2) := by
      rw [sw20_2]
      unfold op_ofKite
      rw [if_pos (by rw [hx]; rfl)]
      rfl
    rw [hop] at k
    rw [eU_0] at k
    exact k _ hC Off.rfl'
  by_cases sw20_3 : y = 3
  · refine ok_table (pc := 20) 75 dX11_ofKite_20 (by rw [sw20_3]; decide) (by rw [sw20_3]; decide) (by rw [sw20_3]; rfl) (by decide) ?_
    refine ok_aload_n (pc := 75) dX11_ofKite_75 rfl ?_
    refine ok_getf (pc := 76) dX11_ofKite_76 (flk_X11_106 _) hK9.2 rfl ?_
    refine ok_iret (pc := 79) dX11_ofKite_79 rfl ?_
    have hop : op_ofKite σ x y = (0, kf σ (iN x) 3) := by
      rw [sw20_3]
      unfold op_ofKite
      rw [if_pos (by rw [hx]; rfl)]
      rfl
    rw [hop] at k
    rw [eU_0] at k
    exact k _ hC Off.rfl'
  by_cases sw20_4 : y = 4
  · refine ok_table (pc := 20) 80 dX11_ofKite_20 (by rw [sw20_4]; decide) (by rw [sw20_4]; decide) (by rw [sw20_4]; rfl) (by decide) ?_
    refine ok_aload_n (pc := 80) dX11_ofKite_80 rfl ?_
    refine ok_getf (pc := 81) dX11_ofKite_81 (flk_X11_109 _) hK9.2 rfl ?_
    refine ok_iret (pc := 84) dX11_ofKite_84 rfl ?_
    have hop : op_ofKite σ x y = (0, kf σ (iN x) 4) := by
      rw [sw20_4]
      unfold op_ofKite
      rw [if_pos (by rw [hx]; rfl)]
      rfl
    rw [hop] at k
    rw [eU_0] at k
    exact k _ hC Off.rfl'
  by_cases sw20_5 : y = 5
  · refine ok_table (pc := 20) 85 dX11_ofKite_20 (by rw [sw20_5]; decide) (by rw [sw20_5]; decide) (by rw [sw20_5]; rfl) (by decide) ?_
    refine ok_aload_n (pc := 85) dX11_ofKite_85 rfl ?_
    refine ok_getf (pc := 86) dX11_ofKite_86 fl_X11_10 hC.1 rfl ?_
    refine ok_iload_n (pc := 89) dX11_ofKite_89 rfl ?_
    refine ok_callVi1 (pc := 90) (d' := 1) dX11_ofKite_90 vl_X11_112 hC.2.1.o rfl rfl rfl (by decide) ?_
    refine c_aimOf hC.2.1 (iN x) ex9 (by omega) ?_
    refine ok_iret (pc := 93) dX11_ofKite_93 rfl ?_
    have hop : op_ofKite σ x y = (0, kf σ (iN x) 5) := by
      rw [sw20_5]
      unfold op_ofKite
      rw [if_pos (by rw [hx]; rfl)]
      rfl
    rw [hop] at k
    rw [eU_0] at k
    exact k _ hC Off.rfl'
  refine ok_tableOut (pc := 20) 94 dX11_ofKite_20 (by have h := tab_out (0) 6 (by decide) (by decide) (fun j hj => by match j, hj with | 0, _ => exact (fun h => sw20_0 (h.trans (by decide))) | 1, _ => exact (fun h => sw20_1 (h.trans (by decide))) | 2, _ => exact (fun h => sw20_2 (h.trans (by decide))) | 3, _ => exact (fun h => sw20_3 (h.trans (by decide))) | 4, _ => exact (fun h => sw20_4 (h.trans (by decide))) | 5, _ => exact (fun h => sw20_5 (h.trans (by decide)))); exact h) (by decide) ?_
  refine ok_aload_n (pc := 94) dX11_ofKite_94 rfl ?_
  refine ok_iconst (pc := 95) (v := 1) dX11_ofKite_95 (by decide) ?_
  refine ok_callVi1 (pc := 96) (d' := 1) dX11_ofKite_96 vl_X11_49 hC.1 rfl rfl rfl (by decide) ?_
  refine c_error hC hI hae 1 rfl (by decide) (by decide) (fun M2 hC2 hO2 => ?_)
  refine ok_iret (pc := 99) dX11_ofKite_99 rfl ?_
  have hop : op_ofKite σ x y = (1, -1000000001) := if_neg (fun h => by
    rw [Bool.and_eq_true] at h
    obtain ⟨e9, -, l9⟩ := wi_lit (a := 0) (c := 5) rfl rfl (by decide) (by decide) h.2
    rcases (show iN y = 0 ∨ iN y = 1 ∨ iN y = 2 ∨ iN y = 3 ∨ iN y = 4 ∨ iN y = 5 by omega) with g | g | g | g | g | g <;> rw [g] at e9
    · exact sw20_0 e9
    · exact sw20_1 e9
    · exact sw20_2 e9
    · exact sw20_3 e9
    · exact sw20_4 e9
    · exact sw20_5 e9)
  rw [hop] at k
  rw [er_1]
  exact k _ hC2 hO2

theorem x_ofKite {Γ : Cx} {a e z sz : Nat} {σ κ vi : Rw} {va : Nat → Rw} {M : Nat → Option va_E} {K : Int32 → Wd → Prop} (hC : ClsR Γ a e z σ κ vi va M) (hI : Inv σ) (hae : a + 92 ≤ e) {x y : Int32} (k : ∀ M', ClsR Γ a e z σ κ vi (eU va (op_ofKite σ x y).1) M' → Off a 92 M M' → K (op_ofKite σ x y).2 (M', sz)) : Spec Γ mX11_ofKite 2 0 [.ref a, .int x, .int y] (M, sz) (ci K) := by
  cases hx : wi x 0 (σ 2 - 1) with
  | true => exact x_ofKiteT hC hI hae hx k
  | false => exact x_ofKiteF hC hI hae hx k
