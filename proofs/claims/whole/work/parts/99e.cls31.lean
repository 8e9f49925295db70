theorem sh_put {Γ : Cx} {a : Nat} {va : Nat → Rw} {M : Nat → Option va_E} (h : ShR Γ a va M) (q0 : Nat) (h4 : q0 < 4) (hb : isB (va 21 q0) = true) (h0 : va 21 q0 ≠ 0) (i0 : Nat) (hi : i0 < 40) {v : Int32} {f : Rw} (h1 : M (a + 84 + 2 * q0 + 1) = aI Γ 40 f) (h2 : ∀ j, j < 40 → f j = mkV (va 21 q0) (va 23 (40 * q0 + j))) : ShR Γ a (shU va (va 21, va 22, upd (va 23) (40 * q0 + i0) (cutF (va 21 q0) v))) (va_up M (a + 84 + 2 * q0 + 1) (aI Γ 40 (upd f i0 (mkV (va 21 q0) v)))) := by
  obtain ⟨⟨sr, s1, s2⟩, s3⟩ := h
  refine ⟨⟨sr, (up_ne (by omega)).trans s1, s2⟩, fun q hq => ?_⟩
  show va_up M _ _ _ = some (.inr (7, [_, .int (va 21 q), .int (va 22 q)])) ∧ ∃ f9, va_up M _ _ _ = aI Γ 40 f9 ∧ ∀ j, j < 40 → f9 j = mkV (va 21 q) (upd (va 23) (40 * q0 + i0) (cutF (va 21 q0) v) (40 * q + j))
  obtain ⟨t1, f1, t2, t3⟩ := s3 q hq
  refine ⟨(up_ne (by omega)).trans t1, ?_⟩
  by_cases c : q = q0
  · subst c
    refine ⟨_, up_eq, fun j hj => ?_⟩
    by_cases c2 : j = i0
    · subst c2
      rw [upd_at, upd_at, mk_cut hb h0]
    · rw [upd_ne c2, upd_ne (by omega)]
      exact h2 j hj
  · refine ⟨f1, (up_ne (by omega)).trans t2, fun j hj => ?_⟩
    rw [upd_ne (by omega)]
    exact t3 j hj

set_option maxHeartbeats 1000000 in
theorem x_putF {Γ : Cx} {a e z sz : Nat} {σ κ vi : Rw} {va : Nat → Rw} {M : Nat → Option va_E} {K : Int32 → Wd → Prop} (hC : ClsR Γ a e z σ κ vi va M) (hI : Inv σ) (hae : a + 92 ≤ e) {x y w : Int32} (hx : wi x 0 3 = false) (k : ∀ M', ClsR Γ a e z σ κ vi (shU (eU va (op_put (shV va) x y w).1) (op_put (shV va) x y w).2.2) M' → Off a 92 M M' → K (op_put (shV va) x y w).2.1 (M', sz)) : Spec Γ mX11_put 2 0 [.ref a, .int x, .int y, .int w] (M, sz) (ci K) := by
  refine spec_in [some (.ref a), some (.int x), some (.int y), some (.int w), none] 1 (by decide) rfl rfl ?_
  refine ok_aload_n (pc := 0) dX11_put_0 rfl ?_
  refine ok_iload_n (pc := 1) dX11_put_1 rfl ?_
  refine ok_callVr1 (pc := 2) (d' := 1) dX11_put_2 vl_X11_250 hC.1 rfl rfl rfl (by decide) ?_
  refine c_sheetAt hC hI hae (fun ex9 lx9 => absurd hx (by rw [ex9, show wi (nI (iN x)) 0 3 = true from wi_nI (a := 0) (b := 3) (by omega) (by omega) (by decide)]; decide)) (fun h9 => ?_)
  refine ok_astoreN4 (pc := 5) dX11_put_5 (by decide) rfl ?_
  refine ok_aloadN (pc := 7) dX11_put_7 rfl ?_
  refine ok_ifnonnullN (pc := 9) dX11_put_9 ?_
  refine ok_aload_n (pc := 12) dX11_put_12 rfl ?_
  refine ok_iconst (pc := 13) (v := 1) dX11_put_13 (by decide) ?_
  refine ok_callVi1 (pc := 14) (d' := 1) dX11_put_14 vl_X11_49 hC.1 rfl rfl rfl (by decide) ?_
  refine c_error hC hI hae 1 rfl (by decide) (by decide) (fun M2 hC2 hO2 => ?_)
  refine ok_iret (pc := 17) dX11_put_17 rfl ?_
  have hop : op_put (shV va) x y w = es 1 (shV va) := if_neg (by rw [hx]; decide)
  rw [hop] at k
  rw [show (es 1 (shV va)).2.2 = shV va from rfl, show (es 1 (shV va)).1 = 1 from rfl, shU_er] at k
  exact k _ hC2 hO2

set_option maxHeartbeats 1000000 in
theorem x_putT {Γ : Cx} {a e z sz : Nat} {σ κ vi : Rw} {va : Nat → Rw} {M : Nat → Option va_E} {K : Int32 → Wd → Prop} (hC : ClsR Γ a e z σ κ vi va M) (hI : Inv σ) (hae : a + 92 ≤ e) (hS : InvS (shV va)) {x y w : Int32} (hx : wi x 0 3 = true) (k : ∀ M', ClsR Γ a e z σ κ vi (shU (eU va (op_put (shV va) x y w).1) (op_put (shV va) x y w).2.2) M' → Off a 92 M M' → K (op_put (shV va) x y w).2.1 (M', sz)) : Spec Γ mX11_put 2 0 [.ref a, .int x, .int y, .int w] (M, sz) (ci K) := by
  refine spec_in [some (.ref a), some (.int x), some (.int y), some (.int w), none] 1 (by decide) rfl rfl ?_
  refine ok_aload_n (pc := 0) dX11_put_0 rfl ?_
  refine ok_iload_n (pc := 1) dX11_put_1 rfl ?_
  refine ok_callVr1 (pc := 2) (d' := 1) dX11_put_2 vl_X11_250 hC.1 rfl rfl rfl (by decide) ?_
  refine c_sheetAt hC hI hae (fun ex9 lx9 => ?_) (fun h9 => absurd h9 (by rw [hx]; decide))
  obtain ⟨hs0, fs9, hs1, hs2⟩ := (id hC.2.2.2.2.2.1).2 (iN x) lx9
  obtain ⟨hb9, zn, lz, ez⟩ := hS (iN x) lx9
  refine ok_astore4 (pc := 5) dX11_put_5 (by decide) rfl ?_
  refine ok_aload (pc := 7) dX11_put_7 rfl ?_
  refine ok_ifnonnull (pc := 9) 18 dX11_put_9 (by decide) ?_
  refine ok_aload (pc := 18) dX11_put_18 rfl ?_
  refine ok_callVi0 (pc := 20) (d' := 0) dX11_put_20 vl_X11_257 hs0 rfl rfl rfl (by decide) ?_
  refine c_isMissing (f := fs9) hs0 ?_
  refine ok_if_eq (pc := 23) 32 dX11_put_23 (by decide) (fun cc_23 => ?_) (fun cc_23 => ?_)
  · have cq_23 := bI_0.mp cc_23
    refine ok_iload_n (pc := 32) dX11_put_32 rfl ?_
    refine ok_iconst (pc := 33) (v := 0) dX11_put_33 (by decide) ?_
    refine ok_aload (pc := 34) dX11_put_34 rfl ?_
    refine ok_getf (pc := 36) dX11_put_36 fl_X11_261 hs0 rfl ?_
    refine ok_iconst (pc := 39) (v := 1) dX11_put_39 (by decide) ?_
    refine ok_isub (pc := 40) dX11_put_40 ?_
    refine ok_callSi3 (pc := 41) (d' := 0) dX11_put_41 sl_X11_45 rfl (by decide) ?_
    refine c_within ?_
    refine ok_if_ne (pc := 44) 53 dX11_put_44 (by decide) (fun cc_44 => ?_) (fun cc_44 => ?_)
    · have cq_44 := bI_n0.mp cc_44
      refine ok_aload (pc := 53) dX11_put_53 rfl ?_
      refine ok_iload_n (pc := 55) dX11_put_55 rfl ?_
      refine ok_iload_n (pc := 56) dX11_put_56 rfl ?_
      refine ok_callVv2 (pc := 57) (d' := 0) dX11_put_57 vl_X11_262 hs0 rfl rfl rfl (by decide) ?_
      have hnz : va 21 (iN x) ≠ 0 := of_decide_eq_false cq_23
      obtain ⟨ey9, ly9⟩ := wi_cnt ez (by omega) cq_44
      refine c_change7 hs0 hs1 zn ez lz ey9 ly9 ?_
      have hS9 := sh_put (v := w) hC.2.2.2.2.2.1 (iN x) lx9 hb9 hnz (iN y) (by omega) hs1 hs2
      have hC9 := hC.sh hI hae (fun s h1 h2 h3 => shU_ne va _ s h1 h2 h3) hS9 (fun q hq => up_ne (by omega))
      have hO9 : Off a 92 M (va_up M (a + 84 + 2 * iN x + 1) (aI Γ 40 (upd fs9 (iN y) (mkV (va 21 (iN x)) w)))) := fun q hq => up_ne (by omega)
      refine ok_iconst (pc := 60) (v := 1) dX11_put_60 (by decide) ?_
      refine ok_iret (pc := 61) dX11_put_61 rfl ?_
      have hop : op_put (shV va) x y w = (0, 1, (va 21, va 22, upd (va 23) (40 * iN x + iN y) (cutF (va 21 (iN x)) w))) := (if_pos hx).trans ((if_neg (of_decide_eq_false cq_23)).trans (if_pos cq_44))
      rw [hop] at k
      rw [eU_0] at k
      exact k _ hC9 hO9
    · have cq_44 := bI_0.mp cc_44
      refine ok_aload_n (pc := 47) dX11_put_47 rfl ?_
      refine ok_iconst (pc := 48) (v := 1) dX11_put_48 (by decide) ?_
      refine ok_callVi1 (pc := 49) (d' := 1) dX11_put_49 vl_X11_49 hC.1 rfl rfl rfl (by decide) ?_
      refine c_error hC hI hae 1 rfl (by decide) (by decide) (fun M2 hC2 hO2 => ?_)
      refine ok_iret (pc := 52) dX11_put_52 rfl ?_
      have hop : op_put (shV va) x y w = es 1 (shV va) := (if_pos hx).trans ((if_neg (of_decide_eq_false cq_23)).trans (if_neg (by rw [show wi y 0 ((shV va).2.1 (iN x) - 1) = false from cq_44]; decide)))
      rw [hop] at k
      rw [show (es 1 (shV va)).2.2 = shV va from rfl, show (es 1 (shV va)).1 = 1 from rfl, shU_er] at k
      exact k _ hC2 hO2
  · have cq_23 := bI_n0.mp cc_23
    refine ok_aload_n (pc := 26) dX11_put_26 rfl ?_
    refine ok_iconst (pc := 27) (v := 2) dX11_put_27 (by decide) ?_
    refine ok_callVi1 (pc := 28) (d' := 1) dX11_put_28 vl_X11_49 hC.1 rfl rfl rfl (by decide) ?_
    refine c_error hC hI hae 2 rfl (by decide) (by decide) (fun M2 hC2 hO2 => ?_)
    refine ok_iret (pc := 31) dX11_put_31 rfl ?_
    have hop : op_put (shV va) x y w = es 2 (shV va) := (if_pos hx).trans (if_pos (of_decide_eq_true cq_23))
    rw [hop] at k
    rw [show (es 2 (shV va)).2.2 = shV va from rfl, show (es 2 (shV va)).1 = 2 from rfl, shU_er] at k
    exact k _ hC2 hO2

theorem x_put {Γ : Cx} {a e z sz : Nat} {σ κ vi : Rw} {va : Nat → Rw} {M : Nat → Option va_E} {K : Int32 → Wd → Prop} (hC : ClsR Γ a e z σ κ vi va M) (hI : Inv σ) (hae : a + 92 ≤ e) (hS : InvS (shV va)) {x y w : Int32} (k : ∀ M', ClsR Γ a e z σ κ vi (shU (eU va (op_put (shV va) x y w).1) (op_put (shV va) x y w).2.2) M' → Off a 92 M M' → K (op_put (shV va) x y w).2.1 (M', sz)) : Spec Γ mX11_put 2 0 [.ref a, .int x, .int y, .int w] (M, sz) (ci K) := by
  cases hx : wi x 0 3 with
  | true => exact x_putT hC hI hae hS hx k
  | false => exact x_putF hC hI hae hx k
