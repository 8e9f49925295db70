theorem ClsR.sh {Γ : Cx} {a e z : Nat} {σ κ vi : Rw} {va : Nat → Rw} {M M' : Nat → Option va_E} {va' : Nat → Rw} (hC : ClsR Γ a e z σ κ vi va M) (hI : Inv σ) (hae : a + 92 ≤ e) (hv : ∀ s, s ≠ 21 → s ≠ 22 → s ≠ 23 → va' s = va s) (hS : ShR Γ a va' M') (hw : ∀ q, q < a + 84 ∨ a + 92 ≤ q → M' q = M q) : ClsR Γ a e z σ κ vi va' M' := by
  obtain ⟨c0, c1, c2, c3, c4, c5, c6, c7⟩ := hC
  exact ⟨(hw _ (by omega)).trans c0, c1.same hI.1.2.1.2 (fun q g1 g2 => hw q (by omega)) (fun q g1 g2 => hw q (by omega)) (Nat.le_refl _), (by obtain ⟨τ, i, h⟩ := c2; exact ⟨τ, i, h.same i.1.2.1.2 (fun q g1 g2 => hw q (by omega)) (fun q g1 g2 => hw q (by omega)) (Nat.le_refl _)⟩), (by obtain ⟨τ, i, h, g⟩ := c3; exact ⟨τ, i, h.same i.1.2.1.2 (fun q g1 g2 => hw q (by omega)) (fun q g1 g2 => hw q (by omega)) (Nat.le_refl _), g⟩), (by rw [hv 18 (by decide) (by decide) (by decide)]; exact c4.tr (hw _ (by omega)) (hw _ (by omega)) rfl (fun _ _ => rfl)), hS, (by rw [hv 4 (by decide) (by decide) (by decide)]; exact c6.tr (hw _ (by omega)) (fun _ _ => rfl)), (by obtain ⟨f, h⟩ := c7; exact ⟨f, (hw _ (by omega)).trans h⟩)⟩
theorem shU_ne (va : Nat → Rw) (s : Sh) (t : Nat) (h1 : t ≠ 21) (h2 : t ≠ 22) (h3 : t ≠ 23) : shU va s t = va t := by
  unfold shU va_up
  rw [if_neg h3, if_neg h2, if_neg h1]
theorem shU_er (va : Nat → Rw) (e0 : Nat) : shU (eU va e0) (shV va) = eU va e0 := by
  have h : shV (eU va e0) = shV va := by
    unfold shV
    rw [eU_ne va e0 (by decide), eU_ne va e0 (by decide), eU_ne va e0 (by decide)]
  rw [← h]
  exact eUs _
theorem mk_z (b : Int32) : mkV b 0 = 0 := by
  unfold mkV
  split
  · rfl
  · exact Int32.zero_and
theorem sh_become {Γ : Cx} {a : Nat} {va : Nat → Rw} {M M' : Nat → Option va_E} (h : ShR Γ a va M) (q0 : Nat) (h4 : q0 < 4) {b n : Int32} {g : Rw} (h1 : M' (a + 84 + 2 * q0) = some (.inr (7, [.ref (a + 84 + 2 * q0 + 1), .int b, .int n]))) (h2 : M' (a + 84 + 2 * q0 + 1) = aI Γ 40 g) (h3 : ∀ j, j < 40 → g j = 0) (hw : ∀ q, q ≠ a + 84 + 2 * q0 → q ≠ a + 84 + 2 * q0 + 1 → M' q = M q) : ShR Γ a (shU va (upd (va 21) q0 b, upd (va 22) q0 n, zfN (va 23) q0 40)) M' := by
  obtain ⟨⟨sr, s1, s2⟩, s3⟩ := h
  refine ⟨⟨sr, (hw _ (by omega) (by omega)).trans s1, s2⟩, fun q hq => ?_⟩
  show M' _ = some (.inr (7, [_, .int (upd (va 21) q0 b q), .int (upd (va 22) q0 n q)])) ∧ ∃ f, M' _ = aI Γ 40 f ∧ ∀ j, j < 40 → f j = mkV (upd (va 21) q0 b q) (zfN (va 23) q0 40 (40 * q + j))
  by_cases c : q = q0
  · subst c
    rw [upd_at, upd_at]
    refine ⟨h1, g, h2, fun j hj => ?_⟩
    have e9 : zfN (va 23) q 40 (40 * q + j) = 0 := if_pos ⟨by omega, by omega⟩
    rw [e9, mk_z]
    exact h3 j hj
  · rw [upd_ne c, upd_ne c]
    obtain ⟨t1, f, t2, t3⟩ := s3 q hq
    refine ⟨(hw _ (by omega) (by omega)).trans t1, f, (hw _ (by omega) (by omega)).trans t2, fun j hj => ?_⟩
    have e9 : zfN (va 23) q0 40 (40 * q + j) = va 23 (40 * q + j) := if_neg (by omega)
    rw [e9]
    exact t3 j hj

set_option maxHeartbeats 1000000 in
theorem x_sheetF {Γ : Cx} {a e z sz : Nat} {σ κ vi : Rw} {va : Nat → Rw} {M : Nat → Option va_E} {K : Int32 → Wd → Prop} (hC : ClsR Γ a e z σ κ vi va M) (hI : Inv σ) (hae : a + 92 ≤ e) {x y w : Int32} (hx : wi x 0 3 = false) (k : ∀ M', ClsR Γ a e z σ κ vi (shU (eU va (op_sheet (shV va) x y w).1) (op_sheet (shV va) x y w).2.2) M' → Off a 92 M M' → K (op_sheet (shV va) x y w).2.1 (M', sz)) : Spec Γ mX11_sheet 2 0 [.ref a, .int x, .int y, .int w] (M, sz) (ci K) := by
  refine spec_in [some (.ref a), some (.int x), some (.int y), some (.int w), none] 1 (by decide) rfl rfl ?_
  refine ok_aload_n (pc := 0) dX11_sheet_0 rfl ?_
  refine ok_iload_n (pc := 1) dX11_sheet_1 rfl ?_
  refine ok_callVr1 (pc := 2) (d' := 1) dX11_sheet_2 vl_X11_250 hC.1 rfl rfl rfl (by decide) ?_
  refine c_sheetAt hC hI hae (fun ex9 lx9 => absurd hx (by rw [ex9, show wi (nI (iN x)) 0 3 = true from wi_nI (a := 0) (b := 3) (by omega) (by omega) (by decide)]; decide)) (fun h9 => ?_)
  refine ok_astoreN4 (pc := 5) dX11_sheet_5 (by decide) rfl ?_
  refine ok_aloadN (pc := 7) dX11_sheet_7 rfl ?_
  refine ok_ifnullN (pc := 9) 34 dX11_sheet_9 (by decide) ?_
  refine ok_aload_n (pc := 34) dX11_sheet_34 rfl ?_
  refine ok_iconst (pc := 35) (v := 1) dX11_sheet_35 (by decide) ?_
  refine ok_callVi1 (pc := 36) (d' := 1) dX11_sheet_36 vl_X11_49 hC.1 rfl rfl rfl (by decide) ?_
  refine c_error hC hI hae 1 rfl (by decide) (by decide) (fun M2 hC2 hO2 => ?_)
  refine ok_iret (pc := 39) dX11_sheet_39 rfl ?_
  have hop : op_sheet (shV va) x y w = es 1 (shV va) := if_neg (by rw [hx, Bool.false_and]; decide)
  rw [hop] at k
  rw [show (es 1 (shV va)).2.2 = shV va from rfl, show (es 1 (shV va)).1 = 1 from rfl, shU_er] at k
  exact k _ hC2 hO2

set_option maxHeartbeats 1000000 in
theorem x_sheetT {Γ : Cx} {a e z sz : Nat} {σ κ vi : Rw} {va : Nat → Rw} {M : Nat → Option va_E} {K : Int32 → Wd → Prop} (hC : ClsR Γ a e z σ κ vi va M) (hI : Inv σ) (hae : a + 92 ≤ e) {x y w : Int32} (hx : wi x 0 3 = true) (k : ∀ M', ClsR Γ a e z σ κ vi (shU (eU va (op_sheet (shV va) x y w).1) (op_sheet (shV va) x y w).2.2) M' → Off a 92 M M' → K (op_sheet (shV va) x y w).2.1 (M', sz)) : Spec Γ mX11_sheet 2 0 [.ref a, .int x, .int y, .int w] (M, sz) (ci K) := by
  refine spec_in [some (.ref a), some (.int x), some (.int y), some (.int w), none] 1 (by decide) rfl rfl ?_
  refine ok_aload_n (pc := 0) dX11_sheet_0 rfl ?_
  refine ok_iload_n (pc := 1) dX11_sheet_1 rfl ?_
  refine ok_callVr1 (pc := 2) (d' := 1) dX11_sheet_2 vl_X11_250 hC.1 rfl rfl rfl (by decide) ?_
  refine c_sheetAt hC hI hae (fun ex9 lx9 => ?_) (fun h9 => absurd h9 (by rw [hx]; decide))
  obtain ⟨hs0, fs9, hs1, hs2⟩ := (id hC.2.2.2.2.2.1).2 (iN x) lx9
  refine ok_astore4 (pc := 5) dX11_sheet_5 (by decide) rfl ?_
  refine ok_aload (pc := 7) dX11_sheet_7 rfl ?_
  refine ok_ifnull (pc := 9) dX11_sheet_9 ?_
  refine ok_iload_n (pc := 12) dX11_sheet_12 rfl ?_
  refine ok_if_eq (pc := 13) 40 dX11_sheet_13 (by decide) (fun cc_13 => ?_) (fun cc_13 => ?_)
  · refine ok_iload_n (pc := 40) dX11_sheet_40 rfl ?_
    refine ok_if_ne (pc := 41) 53 dX11_sheet_41 (by decide) (fun cc_41 => ?_) (fun cc_41 => ?_)
    · refine ok_iload_n (pc := 53) dX11_sheet_53 rfl ?_
      refine ok_if_ge (pc := 54) 63 dX11_sheet_54 (by decide) (fun cc_54 => ?_) (fun cc_54 => ?_)
      · have ce_54 := Int32.not_lt.mpr cc_54
        refine ok_iload_n (pc := 63) dX11_sheet_63 rfl ?_
        refine ok_bipush (pc := 64) (v := 40) dX11_sheet_64 (by decide) ?_
        refine ok_icmp_le (pc := 66) 75 dX11_sheet_66 (by decide) (fun cc_66 => ?_) (fun cc_66 => ?_)
        · have ce_66 := Int32.not_lt.mpr cc_66
          refine ok_aload (pc := 75) dX11_sheet_75 rfl ?_
          refine ok_iload_n (pc := 77) dX11_sheet_77 rfl ?_
          refine ok_iload_n (pc := 78) dX11_sheet_78 rfl ?_
          refine ok_callVv2 (pc := 79) (d' := 1) dX11_sheet_79 vl_X11_254 hs0 rfl rfl rfl (by decide) ?_
          refine c_become hs0 hs1 (by omega) (fun M9 g9 b1 b2 b3 b4 => ?_)
          have hS9 := sh_become hC.2.2.2.2.2.1 (iN x) lx9 b1 b2 b3 b4
          have hC9 := hC.sh hI hae (fun s h1 h2 h3 => shU_ne va _ s h1 h2 h3) hS9 (fun q hq => b4 q (by omega) (by omega))
          have hO9 : Off a 92 M M9 := fun q hq => b4 q (by omega) (by omega)
          refine ok_iconst (pc := 82) (v := 1) dX11_sheet_82 (by decide) ?_
          refine ok_iret (pc := 83) dX11_sheet_83 rfl ?_
          have hb : isB y = true := by unfold isB; simp [cc_13, cc_41, cc_54, ce_54, cc_66, ce_66]
          have hop : op_sheet (shV va) x y w = (0, 1, (upd (va 21) (iN x) y, upd (va 22) (iN x) w, zfN (va 23) (iN x) 40)) := by
            unfold op_sheet
            rw [if_pos (by rw [hx, hb]; rfl), if_neg (fun h => absurd h.2 (Int32.not_lt.mpr cc_54)), if_neg (fun h => absurd h.2 (Int32.not_lt.mpr cc_66))]
            rw [if_neg cc_41]; rfl
          rw [hop] at k
          rw [eU_0] at k
          exact k _ hC9 hO9
        · have ce_66 := Int32.not_le.mp cc_66
          refine ok_aload_n (pc := 69) dX11_sheet_69 rfl ?_
          refine ok_iconst (pc := 70) (v := 1) dX11_sheet_70 (by decide) ?_
          refine ok_callVi1 (pc := 71) (d' := 1) dX11_sheet_71 vl_X11_49 hC.1 rfl rfl rfl (by decide) ?_
          refine c_error hC hI hae 1 rfl (by decide) (by decide) (fun M2 hC2 hO2 => ?_)
          refine ok_iret (pc := 74) dX11_sheet_74 rfl ?_
          have hb : isB y = true := by unfold isB; simp [cc_13, cc_41, cc_54, ce_54, cc_66, ce_66]
          have hop : op_sheet (shV va) x y w = es 1 (shV va) := by
            unfold op_sheet
            rw [if_pos (by rw [hx, hb]; rfl), if_neg (fun h => absurd h.2 (Int32.not_lt.mpr cc_54)), if_pos ⟨cc_41, Int32.not_le.mp cc_66⟩]
          rw [hop] at k
          rw [show (es 1 (shV va)).2.2 = shV va from rfl, show (es 1 (shV va)).1 = 1 from rfl, shU_er] at k
          exact k _ hC2 hO2
      · have ce_54 := Int32.not_le.mp cc_54
        refine ok_aload_n (pc := 57) dX11_sheet_57 rfl ?_
        refine ok_iconst (pc := 58) (v := 3) dX11_sheet_58 (by decide) ?_
        refine ok_callVi1 (pc := 59) (d' := 1) dX11_sheet_59 vl_X11_49 hC.1 rfl rfl rfl (by decide) ?_
        refine c_error hC hI hae 3 rfl (by decide) (by decide) (fun M2 hC2 hO2 => ?_)
        refine ok_iret (pc := 62) dX11_sheet_62 rfl ?_
        have hb : isB y = true := by unfold isB; simp [cc_13, cc_41, cc_54, ce_54]
        have hop : op_sheet (shV va) x y w = es 3 (shV va) := by
          unfold op_sheet
          rw [if_pos (by rw [hx, hb]; rfl), if_pos ⟨cc_41, Int32.not_le.mp cc_54⟩]
        rw [hop] at k
        rw [show (es 3 (shV va)).2.2 = shV va from rfl, show (es 3 (shV va)).1 = 3 from rfl, shU_er] at k
        exact k _ hC2 hO2
    · refine ok_aload (pc := 44) dX11_sheet_44 rfl ?_
      refine ok_iconst (pc := 46) (v := 0) dX11_sheet_46 (by decide) ?_
      refine ok_iconst (pc := 47) (v := 0) dX11_sheet_47 (by decide) ?_
      refine ok_callVv2 (pc := 48) (d' := 1) dX11_sheet_48 vl_X11_254 hs0 rfl rfl rfl (by decide) ?_
      refine c_become hs0 hs1 (by omega) (fun M9 g9 b1 b2 b3 b4 => ?_)
      have hS9 := sh_become hC.2.2.2.2.2.1 (iN x) lx9 b1 b2 b3 b4
      have hC9 := hC.sh hI hae (fun s h1 h2 h3 => shU_ne va _ s h1 h2 h3) hS9 (fun q hq => b4 q (by omega) (by omega))
      have hO9 : Off a 92 M M9 := fun q hq => b4 q (by omega) (by omega)
      refine ok_iconst (pc := 51) (v := 1) dX11_sheet_51 (by decide) ?_
      refine ok_iret (pc := 52) dX11_sheet_52 rfl ?_
      have hb : isB y = true := by unfold isB; simp [cc_13, cc_41]
      have hop : op_sheet (shV va) x y w = (0, 1, (upd (va 21) (iN x) 0, upd (va 22) (iN x) 0, zfN (va 23) (iN x) 40)) := by
        unfold op_sheet
        rw [if_pos (by rw [hx, hb]; rfl), if_neg (fun h => h.1 cc_41), if_neg (fun h => h.1 cc_41)]
        rw [cc_41, if_pos rfl]; rfl
      rw [hop] at k
      rw [eU_0] at k
      exact k _ hC9 hO9
  · refine ok_iload_n (pc := 16) dX11_sheet_16 rfl ?_
    refine ok_bipush (pc := 17) (v := 8) dX11_sheet_17 (by decide) ?_
    refine ok_icmp_eq (pc := 19) 40 dX11_sheet_19 (by decide) (fun cc_19 => ?_) (fun cc_19 => ?_)
    · refine ok_iload_n (pc := 40) dX11_sheet_40 rfl ?_
      refine ok_if_ne (pc := 41) 53 dX11_sheet_41 (by decide) (fun cc_41 => ?_) (fun cc_41 => ?_)
      · refine ok_iload_n (pc := 53) dX11_sheet_53 rfl ?_
        refine ok_if_ge (pc := 54) 63 dX11_sheet_54 (by decide) (fun cc_54 => ?_) (fun cc_54 => ?_)
        · have ce_54 := Int32.not_lt.mpr cc_54
          refine ok_iload_n (pc := 63) dX11_sheet_63 rfl ?_
          refine ok_bipush (pc := 64) (v := 40) dX11_sheet_64 (by decide) ?_
          refine ok_icmp_le (pc := 66) 75 dX11_sheet_66 (by decide) (fun cc_66 => ?_) (fun cc_66 => ?_)
          · have ce_66 := Int32.not_lt.mpr cc_66
            refine ok_aload (pc := 75) dX11_sheet_75 rfl ?_
            refine ok_iload_n (pc := 77) dX11_sheet_77 rfl ?_
            refine ok_iload_n (pc := 78) dX11_sheet_78 rfl ?_
            refine ok_callVv2 (pc := 79) (d' := 1) dX11_sheet_79 vl_X11_254 hs0 rfl rfl rfl (by decide) ?_
            refine c_become hs0 hs1 (by omega) (fun M9 g9 b1 b2 b3 b4 => ?_)
            have hS9 := sh_become hC.2.2.2.2.2.1 (iN x) lx9 b1 b2 b3 b4
            have hC9 := hC.sh hI hae (fun s h1 h2 h3 => shU_ne va _ s h1 h2 h3) hS9 (fun q hq => b4 q (by omega) (by omega))
            have hO9 : Off a 92 M M9 := fun q hq => b4 q (by omega) (by omega)
            refine ok_iconst (pc := 82) (v := 1) dX11_sheet_82 (by decide) ?_
            refine ok_iret (pc := 83) dX11_sheet_83 rfl ?_
            have hb : isB y = true := by unfold isB; simp [cc_13, cc_19, cc_41, cc_54, ce_54, cc_66, ce_66]
            have hop : op_sheet (shV va) x y w = (0, 1, (upd (va 21) (iN x) y, upd (va 22) (iN x) w, zfN (va 23) (iN x) 40)) := by
              unfold op_sheet
              rw [if_pos (by rw [hx, hb]; rfl), if_neg (fun h => absurd h.2 (Int32.not_lt.mpr cc_54)), if_neg (fun h => absurd h.2 (Int32.not_lt.mpr cc_66))]
              rw [if_neg cc_41]; rfl
            rw [hop] at k
            rw [eU_0] at k
            exact k _ hC9 hO9
          · have ce_66 := Int32.not_le.mp cc_66
            refine ok_aload_n (pc := 69) dX11_sheet_69 rfl ?_
            refine ok_iconst (pc := 70) (v := 1) dX11_sheet_70 (by decide) ?_
            refine ok_callVi1 (pc := 71) (d' := 1) dX11_sheet_71 vl_X11_49 hC.1 rfl rfl rfl (by decide) ?_
            refine c_error hC hI hae 1 rfl (by decide) (by decide) (fun M2 hC2 hO2 => ?_)
            refine ok_iret (pc := 74) dX11_sheet_74 rfl ?_
            have hb : isB y = true := by unfold isB; simp [cc_13, cc_19, cc_41, cc_54, ce_54, cc_66, ce_66]
            have hop : op_sheet (shV va) x y w = es 1 (shV va) := by
              unfold op_sheet
              rw [if_pos (by rw [hx, hb]; rfl), if_neg (fun h => absurd h.2 (Int32.not_lt.mpr cc_54)), if_pos ⟨cc_41, Int32.not_le.mp cc_66⟩]
            rw [hop] at k
            rw [show (es 1 (shV va)).2.2 = shV va from rfl, show (es 1 (shV va)).1 = 1 from rfl, shU_er] at k
            exact k _ hC2 hO2
        · have ce_54 := Int32.not_le.mp cc_54
          refine ok_aload_n (pc := 57) dX11_sheet_57 rfl ?_
          refine ok_iconst (pc := 58) (v := 3) dX11_sheet_58 (by decide) ?_
          refine ok_callVi1 (pc := 59) (d' := 1) dX11_sheet_59 vl_X11_49 hC.1 rfl rfl rfl (by decide) ?_
          refine c_error hC hI hae 3 rfl (by decide) (by decide) (fun M2 hC2 hO2 => ?_)
          refine ok_iret (pc := 62) dX11_sheet_62 rfl ?_
          have hb : isB y = true := by unfold isB; simp [cc_13, cc_19, cc_41, cc_54, ce_54]
          have hop : op_sheet (shV va) x y w = es 3 (shV va) := by
            unfold op_sheet
            rw [if_pos (by rw [hx, hb]; rfl), if_pos ⟨cc_41, Int32.not_le.mp cc_54⟩]
          rw [hop] at k
          rw [show (es 3 (shV va)).2.2 = shV va from rfl, show (es 3 (shV va)).1 = 3 from rfl, shU_er] at k
          exact k _ hC2 hO2
      · refine ok_aload (pc := 44) dX11_sheet_44 rfl ?_
        refine ok_iconst (pc := 46) (v := 0) dX11_sheet_46 (by decide) ?_
        refine ok_iconst (pc := 47) (v := 0) dX11_sheet_47 (by decide) ?_
        refine ok_callVv2 (pc := 48) (d' := 1) dX11_sheet_48 vl_X11_254 hs0 rfl rfl rfl (by decide) ?_
        refine c_become hs0 hs1 (by omega) (fun M9 g9 b1 b2 b3 b4 => ?_)
        have hS9 := sh_become hC.2.2.2.2.2.1 (iN x) lx9 b1 b2 b3 b4
        have hC9 := hC.sh hI hae (fun s h1 h2 h3 => shU_ne va _ s h1 h2 h3) hS9 (fun q hq => b4 q (by omega) (by omega))
        have hO9 : Off a 92 M M9 := fun q hq => b4 q (by omega) (by omega)
        refine ok_iconst (pc := 51) (v := 1) dX11_sheet_51 (by decide) ?_
        refine ok_iret (pc := 52) dX11_sheet_52 rfl ?_
        have hb : isB y = true := by unfold isB; simp [cc_13, cc_19, cc_41]
        have hop : op_sheet (shV va) x y w = (0, 1, (upd (va 21) (iN x) 0, upd (va 22) (iN x) 0, zfN (va 23) (iN x) 40)) := by
          unfold op_sheet
          rw [if_pos (by rw [hx, hb]; rfl), if_neg (fun h => h.1 cc_41), if_neg (fun h => h.1 cc_41)]
          rw [cc_41, if_pos rfl]; rfl
        rw [hop] at k
        rw [eU_0] at k
        exact k _ hC9 hO9
    · refine ok_iload_n (pc := 22) dX11_sheet_22 rfl ?_
      refine ok_bipush (pc := 23) (v := 16) dX11_sheet_23 (by decide) ?_
      refine ok_icmp_eq (pc := 25) 40 dX11_sheet_25 (by decide) (fun cc_25 => ?_) (fun cc_25 => ?_)
      · refine ok_iload_n (pc := 40) dX11_sheet_40 rfl ?_
        refine ok_if_ne (pc := 41) 53 dX11_sheet_41 (by decide) (fun cc_41 => ?_) (fun cc_41 => ?_)
        · refine ok_iload_n (pc := 53) dX11_sheet_53 rfl ?_
          refine ok_if_ge (pc := 54) 63 dX11_sheet_54 (by decide) (fun cc_54 => ?_) (fun cc_54 => ?_)
          · have ce_54 := Int32.not_lt.mpr cc_54
            refine ok_iload_n (pc := 63) dX11_sheet_63 rfl ?_
            refine ok_bipush (pc := 64) (v := 40) dX11_sheet_64 (by decide) ?_
            refine ok_icmp_le (pc := 66) 75 dX11_sheet_66 (by decide) (fun cc_66 => ?_) (fun cc_66 => ?_)
            · have ce_66 := Int32.not_lt.mpr cc_66
              refine ok_aload (pc := 75) dX11_sheet_75 rfl ?_
              refine ok_iload_n (pc := 77) dX11_sheet_77 rfl ?_
              refine ok_iload_n (pc := 78) dX11_sheet_78 rfl ?_
              refine ok_callVv2 (pc := 79) (d' := 1) dX11_sheet_79 vl_X11_254 hs0 rfl rfl rfl (by decide) ?_
              refine c_become hs0 hs1 (by omega) (fun M9 g9 b1 b2 b3 b4 => ?_)
              have hS9 := sh_become hC.2.2.2.2.2.1 (iN x) lx9 b1 b2 b3 b4
              have hC9 := hC.sh hI hae (fun s h1 h2 h3 => shU_ne va _ s h1 h2 h3) hS9 (fun q hq => b4 q (by omega) (by omega))
              have hO9 : Off a 92 M M9 := fun q hq => b4 q (by omega) (by omega)
              refine ok_iconst (pc := 82) (v := 1) dX11_sheet_82 (by decide) ?_
              refine ok_iret (pc := 83) dX11_sheet_83 rfl ?_
              have hb : isB y = true := by unfold isB; simp [cc_13, cc_19, cc_25, cc_41, cc_54, ce_54, cc_66, ce_66]
              have hop : op_sheet (shV va) x y w = (0, 1, (upd (va 21) (iN x) y, upd (va 22) (iN x) w, zfN (va 23) (iN x) 40)) := by
                unfold op_sheet
                rw [if_pos (by rw [hx, hb]; rfl), if_neg (fun h => absurd h.2 (Int32.not_lt.mpr cc_54)), if_neg (fun h => absurd h.2 (Int32.not_lt.mpr cc_66))]
                rw [if_neg cc_41]; rfl
              rw [hop] at k
              rw [eU_0] at k
              exact k _ hC9 hO9
            · have ce_66 := Int32.not_le.mp cc_66
              refine ok_aload_n (pc := 69) dX11_sheet_69 rfl ?_
              refine ok_iconst (pc := 70) (v := 1) dX11_sheet_70 (by decide) ?_
              refine ok_callVi1 (pc := 71) (d' := 1) dX11_sheet_71 vl_X11_49 hC.1 rfl rfl rfl (by decide) ?_
              refine c_error hC hI hae 1 rfl (by decide) (by decide) (fun M2 hC2 hO2 => ?_)
              refine ok_iret (pc := 74) dX11_sheet_74 rfl ?_
              have hb : isB y = true := by unfold isB; simp [cc_13, cc_19, cc_25, cc_41, cc_54, ce_54, cc_66, ce_66]
              have hop : op_sheet (shV va) x y w = es 1 (shV va) := by
                unfold op_sheet
                rw [if_pos (by rw [hx, hb]; rfl), if_neg (fun h => absurd h.2 (Int32.not_lt.mpr cc_54)), if_pos ⟨cc_41, Int32.not_le.mp cc_66⟩]
              rw [hop] at k
              rw [show (es 1 (shV va)).2.2 = shV va from rfl, show (es 1 (shV va)).1 = 1 from rfl, shU_er] at k
              exact k _ hC2 hO2
          · have ce_54 := Int32.not_le.mp cc_54
            refine ok_aload_n (pc := 57) dX11_sheet_57 rfl ?_
            refine ok_iconst (pc := 58) (v := 3) dX11_sheet_58 (by decide) ?_
            refine ok_callVi1 (pc := 59) (d' := 1) dX11_sheet_59 vl_X11_49 hC.1 rfl rfl rfl (by decide) ?_
            refine c_error hC hI hae 3 rfl (by decide) (by decide) (fun M2 hC2 hO2 => ?_)
            refine ok_iret (pc := 62) dX11_sheet_62 rfl ?_
            have hb : isB y = true := by unfold isB; simp [cc_13, cc_19, cc_25, cc_41, cc_54, ce_54]
            have hop : op_sheet (shV va) x y w = es 3 (shV va) := by
              unfold op_sheet
              rw [if_pos (by rw [hx, hb]; rfl), if_pos ⟨cc_41, Int32.not_le.mp cc_54⟩]
            rw [hop] at k
            rw [show (es 3 (shV va)).2.2 = shV va from rfl, show (es 3 (shV va)).1 = 3 from rfl, shU_er] at k
            exact k _ hC2 hO2
        · refine ok_aload (pc := 44) dX11_sheet_44 rfl ?_
          refine ok_iconst (pc := 46) (v := 0) dX11_sheet_46 (by decide) ?_
          refine ok_iconst (pc := 47) (v := 0) dX11_sheet_47 (by decide) ?_
          refine ok_callVv2 (pc := 48) (d' := 1) dX11_sheet_48 vl_X11_254 hs0 rfl rfl rfl (by decide) ?_
          refine c_become hs0 hs1 (by omega) (fun M9 g9 b1 b2 b3 b4 => ?_)
          have hS9 := sh_become hC.2.2.2.2.2.1 (iN x) lx9 b1 b2 b3 b4
          have hC9 := hC.sh hI hae (fun s h1 h2 h3 => shU_ne va _ s h1 h2 h3) hS9 (fun q hq => b4 q (by omega) (by omega))
          have hO9 : Off a 92 M M9 := fun q hq => b4 q (by omega) (by omega)
          refine ok_iconst (pc := 51) (v := 1) dX11_sheet_51 (by decide) ?_
          refine ok_iret (pc := 52) dX11_sheet_52 rfl ?_
          have hb : isB y = true := by unfold isB; simp [cc_13, cc_19, cc_25, cc_41]
          have hop : op_sheet (shV va) x y w = (0, 1, (upd (va 21) (iN x) 0, upd (va 22) (iN x) 0, zfN (va 23) (iN x) 40)) := by
            unfold op_sheet
            rw [if_pos (by rw [hx, hb]; rfl), if_neg (fun h => h.1 cc_41), if_neg (fun h => h.1 cc_41)]
            rw [cc_41, if_pos rfl]; rfl
          rw [hop] at k
          rw [eU_0] at k
          exact k _ hC9 hO9
      · refine ok_iload_n (pc := 28) dX11_sheet_28 rfl ?_
        refine ok_bipush (pc := 29) (v := 32) dX11_sheet_29 (by decide) ?_
        refine ok_icmp_eq (pc := 31) 40 dX11_sheet_31 (by decide) (fun cc_31 => ?_) (fun cc_31 => ?_)
        · refine ok_iload_n (pc := 40) dX11_sheet_40 rfl ?_
          refine ok_if_ne (pc := 41) 53 dX11_sheet_41 (by decide) (fun cc_41 => ?_) (fun cc_41 => ?_)
          · refine ok_iload_n (pc := 53) dX11_sheet_53 rfl ?_
            refine ok_if_ge (pc := 54) 63 dX11_sheet_54 (by decide) (fun cc_54 => ?_) (fun cc_54 => ?_)
            · have ce_54 := Int32.not_lt.mpr cc_54
              refine ok_iload_n (pc := 63) dX11_sheet_63 rfl ?_
              refine ok_bipush (pc := 64) (v := 40) dX11_sheet_64 (by decide) ?_
              refine ok_icmp_le (pc := 66) 75 dX11_sheet_66 (by decide) (fun cc_66 => ?_) (fun cc_66 => ?_)
              · have ce_66 := Int32.not_lt.mpr cc_66
                refine ok_aload (pc := 75) dX11_sheet_75 rfl ?_
                refine ok_iload_n (pc := 77) dX11_sheet_77 rfl ?_
                refine ok_iload_n (pc := 78) dX11_sheet_78 rfl ?_
                refine ok_callVv2 (pc := 79) (d' := 1) dX11_sheet_79 vl_X11_254 hs0 rfl rfl rfl (by decide) ?_
                refine c_become hs0 hs1 (by omega) (fun M9 g9 b1 b2 b3 b4 => ?_)
                have hS9 := sh_become hC.2.2.2.2.2.1 (iN x) lx9 b1 b2 b3 b4
                have hC9 := hC.sh hI hae (fun s h1 h2 h3 => shU_ne va _ s h1 h2 h3) hS9 (fun q hq => b4 q (by omega) (by omega))
                have hO9 : Off a 92 M M9 := fun q hq => b4 q (by omega) (by omega)
                refine ok_iconst (pc := 82) (v := 1) dX11_sheet_82 (by decide) ?_
                refine ok_iret (pc := 83) dX11_sheet_83 rfl ?_
                have hb : isB y = true := by unfold isB; simp [cc_13, cc_19, cc_25, cc_31, cc_41, cc_54, ce_54, cc_66, ce_66]
                have hop : op_sheet (shV va) x y w = (0, 1, (upd (va 21) (iN x) y, upd (va 22) (iN x) w, zfN (va 23) (iN x) 40)) := by
                  unfold op_sheet
                  rw [if_pos (by rw [hx, hb]; rfl), if_neg (fun h => absurd h.2 (Int32.not_lt.mpr cc_54)), if_neg (fun h => absurd h.2 (Int32.not_lt.mpr cc_66))]
                  rw [if_neg cc_41]; rfl
                rw [hop] at k
                rw [eU_0] at k
                exact k _ hC9 hO9
              · have ce_66 := Int32.not_le.mp cc_66
                refine ok_aload_n (pc := 69) dX11_sheet_69 rfl ?_
                refine ok_iconst (pc := 70) (v := 1) dX11_sheet_70 (by decide) ?_
                refine ok_callVi1 (pc := 71) (d' := 1) dX11_sheet_71 vl_X11_49 hC.1 rfl rfl rfl (by decide) ?_
                refine c_error hC hI hae 1 rfl (by decide) (by decide) (fun M2 hC2 hO2 => ?_)
                refine ok_iret (pc := 74) dX11_sheet_74 rfl ?_
                have hb : isB y = true := by unfold isB; simp [cc_13, cc_19, cc_25, cc_31, cc_41, cc_54, ce_54, cc_66, ce_66]
                have hop : op_sheet (shV va) x y w = es 1 (shV va) := by
                  unfold op_sheet
                  rw [if_pos (by rw [hx, hb]; rfl), if_neg (fun h => absurd h.2 (Int32.not_lt.mpr cc_54)), if_pos ⟨cc_41, Int32.not_le.mp cc_66⟩]
                rw [hop] at k
                rw [show (es 1 (shV va)).2.2 = shV va from rfl, show (es 1 (shV va)).1 = 1 from rfl, shU_er] at k
                exact k _ hC2 hO2
            · have ce_54 := Int32.not_le.mp cc_54
              refine ok_aload_n (pc := 57) dX11_sheet_57 rfl ?_
              refine ok_iconst (pc := 58) (v := 3) dX11_sheet_58 (by decide) ?_
              refine ok_callVi1 (pc := 59) (d' := 1) dX11_sheet_59 vl_X11_49 hC.1 rfl rfl rfl (by decide) ?_
              refine c_error hC hI hae 3 rfl (by decide) (by decide) (fun M2 hC2 hO2 => ?_)
              refine ok_iret (pc := 62) dX11_sheet_62 rfl ?_
              have hb : isB y = true := by unfold isB; simp [cc_13, cc_19, cc_25, cc_31, cc_41, cc_54, ce_54]
              have hop : op_sheet (shV va) x y w = es 3 (shV va) := by
                unfold op_sheet
                rw [if_pos (by rw [hx, hb]; rfl), if_pos ⟨cc_41, Int32.not_le.mp cc_54⟩]
              rw [hop] at k
              rw [show (es 3 (shV va)).2.2 = shV va from rfl, show (es 3 (shV va)).1 = 3 from rfl, shU_er] at k
              exact k _ hC2 hO2
          · refine ok_aload (pc := 44) dX11_sheet_44 rfl ?_
            refine ok_iconst (pc := 46) (v := 0) dX11_sheet_46 (by decide) ?_
            refine ok_iconst (pc := 47) (v := 0) dX11_sheet_47 (by decide) ?_
            refine ok_callVv2 (pc := 48) (d' := 1) dX11_sheet_48 vl_X11_254 hs0 rfl rfl rfl (by decide) ?_
            refine c_become hs0 hs1 (by omega) (fun M9 g9 b1 b2 b3 b4 => ?_)
            have hS9 := sh_become hC.2.2.2.2.2.1 (iN x) lx9 b1 b2 b3 b4
            have hC9 := hC.sh hI hae (fun s h1 h2 h3 => shU_ne va _ s h1 h2 h3) hS9 (fun q hq => b4 q (by omega) (by omega))
            have hO9 : Off a 92 M M9 := fun q hq => b4 q (by omega) (by omega)
            refine ok_iconst (pc := 51) (v := 1) dX11_sheet_51 (by decide) ?_
            refine ok_iret (pc := 52) dX11_sheet_52 rfl ?_
            have hb : isB y = true := by unfold isB; simp [cc_13, cc_19, cc_25, cc_31, cc_41]
            have hop : op_sheet (shV va) x y w = (0, 1, (upd (va 21) (iN x) 0, upd (va 22) (iN x) 0, zfN (va 23) (iN x) 40)) := by
              unfold op_sheet
              rw [if_pos (by rw [hx, hb]; rfl), if_neg (fun h => h.1 cc_41), if_neg (fun h => h.1 cc_41)]
              rw [cc_41, if_pos rfl]; rfl
            rw [hop] at k
            rw [eU_0] at k
            exact k _ hC9 hO9
        · refine ok_aload_n (pc := 34) dX11_sheet_34 rfl ?_
          refine ok_iconst (pc := 35) (v := 1) dX11_sheet_35 (by decide) ?_
          refine ok_callVi1 (pc := 36) (d' := 1) dX11_sheet_36 vl_X11_49 hC.1 rfl rfl rfl (by decide) ?_
          refine c_error hC hI hae 1 rfl (by decide) (by decide) (fun M2 hC2 hO2 => ?_)
          refine ok_iret (pc := 39) dX11_sheet_39 rfl ?_
          have hop : op_sheet (shV va) x y w = es 1 (shV va) := if_neg (by unfold isB; simp [hx, cc_13, cc_19, cc_25, cc_31])
          rw [hop] at k
          rw [show (es 1 (shV va)).2.2 = shV va from rfl, show (es 1 (shV va)).1 = 1 from rfl, shU_er] at k
          exact k _ hC2 hO2

theorem x_sheet {Γ : Cx} {a e z sz : Nat} {σ κ vi : Rw} {va : Nat → Rw} {M : Nat → Option va_E} {K : Int32 → Wd → Prop} (hC : ClsR Γ a e z σ κ vi va M) (hI : Inv σ) (hae : a + 92 ≤ e) {x y w : Int32} (k : ∀ M', ClsR Γ a e z σ κ vi (shU (eU va (op_sheet (shV va) x y w).1) (op_sheet (shV va) x y w).2.2) M' → Off a 92 M M' → K (op_sheet (shV va) x y w).2.1 (M', sz)) : Spec Γ mX11_sheet 2 0 [.ref a, .int x, .int y, .int w] (M, sz) (ci K) := by
  cases hx : wi x 0 3 with
  | true => exact x_sheetT hC hI hae hx k
  | false => exact x_sheetF hC hI hae hx k
