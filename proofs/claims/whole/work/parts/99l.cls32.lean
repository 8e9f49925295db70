theorem hold_sp {i n z : Int32} {zn : Nat} (ez : z = nI zn) (lz : zn ≤ 40) : (decide (0 ≤ i) && decide (0 ≤ n) && decide (i ≤ z) && decide (n ≤ z - i)) = spF i n z := by
  unfold spF
  by_cases h0 : 0 ≤ i
  · by_cases h1 : 0 ≤ n
    · rw [decide_eq_true h0, decide_eq_true h1, Bool.true_and, Bool.true_and]
      have hz : z.toInt = (zn : Int) := by rw [ez]; exact nI_toInt (by omega)
      have t0 := (fa_le _ _).mp h0
      have t1 := (fa_le _ _).mp h1
      rw [show (0 : Int32).toInt = 0 from by decide] at t0 t1
      by_cases h2 : i ≤ z
      · rw [decide_eq_true h2, Bool.true_and]
        have t2 := (fa_le _ _).mp h2
        have ei : i = nI (iN i) := ((wi_lit (lo := 0) (hi := nI zn) (a := 0) (c := zn) rfl rfl (by omega) (by decide) (by unfold wi; rw [decide_eq_true h0, ← ez, decide_eq_true h2]; rfl))).1
        have li : iN i ≤ zn := ((wi_lit (lo := 0) (hi := nI zn) (a := 0) (c := zn) rfl rfl (by omega) (by decide) (by unfold wi; rw [decide_eq_true h0, ← ez, decide_eq_true h2]; rfl))).2.2
        have ti : i.toInt = (iN i : Int) := (congrArg Int32.toInt ei).trans (nI_toInt (by omega))
        have es : (z - i).toInt = (zn : Int) - (iN i : Int) := by
          rw [ez]
          refine (congrArg (fun w => (nI zn - w).toInt) ei).trans ?_
          exact pk_sub_toInt (by omega) (by omega)
        apply decide_eq_decide.mpr
        rw [fa_le, es, hz]
        omega
      · rw [decide_eq_false h2, Bool.false_and]
        have t2 := (fa_lt _ _).mp (Int32.not_le.mp h2)
        exact (decide_eq_false (by omega)).symm
    · rw [decide_eq_false h1, Bool.and_false, Bool.false_and, Bool.false_and, Bool.false_and]
  · rw [decide_eq_false h0, Bool.false_and, Bool.false_and, Bool.false_and, Bool.false_and]
theorem sp_ok {i n z : Int32} {zn : Nat} (ez : z = nI zn) (lz : zn ≤ 40) (h : spF i n z = true) : i = nI (iN i) ∧ n = nI (iN n) ∧ iN i + iN n ≤ zn := by
  unfold spF at h
  rw [Bool.and_eq_true, Bool.and_eq_true] at h
  obtain ⟨⟨h0, h1⟩, h2⟩ := h
  have h0 := of_decide_eq_true h0
  have h1 := of_decide_eq_true h1
  have h2 := of_decide_eq_true h2
  have hz : z.toInt = (zn : Int) := by rw [ez]; exact nI_toInt (by omega)
  have t0 := (fa_le _ _).mp h0
  have t1 := (fa_le _ _).mp h1
  rw [show (0 : Int32).toInt = 0 from by decide] at t0 t1
  have gi := wi_lit (x := i) (lo := 0) (hi := nI zn) (a := 0) (c := zn) rfl rfl (by omega) (by decide) (by unfold wi; rw [decide_eq_true h0, decide_eq_true ((fa_le _ _).mpr (by rw [← ez]; omega))]; rfl)
  have gn := wi_lit (x := n) (lo := 0) (hi := nI zn) (a := 0) (c := zn) rfl rfl (by omega) (by decide) (by unfold wi; rw [decide_eq_true h1, decide_eq_true ((fa_le _ _).mpr (by rw [← ez]; omega))]; rfl)
  have ti : i.toInt = (iN i : Int) := (congrArg Int32.toInt gi.1).trans (nI_toInt (by omega))
  have tn : n.toInt = (iN n : Int) := (congrArg Int32.toInt gn.1).trans (nI_toInt (by omega))
  exact ⟨gi.1, gn.1, by omega⟩
theorem sh_move {Γ : Cx} {a : Nat} {va : Nat → Rw} {M : Nat → Option va_E} (h : ShR Γ a va M) (q0 q1 : Nat) (h0 : q0 < 4) (h1 : q1 < 4) (hw : va 21 q0 = va 21 q1) (i0 j0 n0 : Nat) (hi : i0 + n0 ≤ 40) (hj : j0 + n0 ≤ 40) {f g : Rw} (f1 : ∀ j, j < 40 → f j = mkV (va 21 q0) (va 23 (40 * q0 + j))) (g1 : ∀ j, j < 40 → g j = mkV (va 21 q1) (va 23 (40 * q1 + j))) : ShR Γ a (shU va (va 21, va 22, mvF (va 23) (40 * q0 + i0) (40 * q1 + j0) n0)) (va_up M (a + 84 + 2 * q1 + 1) (aI Γ 40 (va_cpy f g i0 j0 n0))) := by
  obtain ⟨⟨sr, s1, s2⟩, s3⟩ := h
  refine ⟨⟨sr, (up_ne (by omega)).trans s1, s2⟩, fun q hq => ?_⟩
  show va_up M _ _ _ = some (.inr (7, [_, .int (va 21 q), .int (va 22 q)])) ∧ ∃ f9, va_up M _ _ _ = aI Γ 40 f9 ∧ ∀ j, j < 40 → f9 j = mkV (va 21 q) (mvF (va 23) (40 * q0 + i0) (40 * q1 + j0) n0 (40 * q + j))
  obtain ⟨t1, f3, t2, t3⟩ := s3 q hq
  refine ⟨(up_ne (by omega)).trans t1, ?_⟩
  by_cases c : q = q1
  · subst c
    refine ⟨_, up_eq, fun j hj9 => ?_⟩
    unfold mvF va_cpy
    by_cases c2 : j0 ≤ j ∧ j < j0 + n0
    · rw [if_pos c2, if_pos (by omega), f1 _ (by omega), hw, show 40 * q0 + i0 + (40 * q + j - (40 * q + j0)) = 40 * q0 + (i0 + (j - j0)) by omega]
    · rw [if_neg c2, if_neg (by omega)]
      exact g1 j hj9
  · refine ⟨f3, (up_ne (by omega)).trans t2, fun j hj9 => ?_⟩
    unfold mvF
    rw [if_neg (by omega)]
    exact t3 j hj9

set_option maxHeartbeats 1000000 in
theorem x_moveFT {Γ : Cx} {a e z sz : Nat} {σ κ vi : Rw} {va : Nat → Rw} {M : Nat → Option va_E} {K : Int32 → Wd → Prop} (hC : ClsR Γ a e z σ κ vi va M) (hI : Inv σ) (hae : a + 92 ≤ e) {x u y v w : Int32} (hx : wi x 0 3 = false) (hy : wi y 0 3 = true) (k : ∀ M', ClsR Γ a e z σ κ vi (shU (eU va (op_move (shV va) x u y v w).1) (op_move (shV va) x u y v w).2.2) M' → Off a 92 M M' → K (op_move (shV va) x u y v w).2.1 (M', sz)) : Spec Γ mX11_move 2 0 [.ref a, .int x, .int u, .int y, .int v, .int w] (M, sz) (ci K) := by
  refine spec_in [some (.ref a), some (.int x), some (.int u), some (.int y), some (.int v), some (.int w), none, none] 2 (by decide) rfl rfl ?_
  refine ok_aload_n (pc := 0) dX11_move_0 rfl ?_
  refine ok_iload_n (pc := 1) dX11_move_1 rfl ?_
  refine ok_callVr1 (pc := 2) (d' := 1) dX11_move_2 vl_X11_250 hC.1 rfl rfl rfl (by decide) ?_
  refine c_sheetAt hC hI hae (fun ex9 lx9 => absurd hx (by rw [ex9, show wi (nI (iN x)) 0 3 = true from wi_nI (a := 0) (b := 3) (by omega) (by omega) (by decide)]; decide)) (fun h9 => ?_)
  refine ok_astoreN6 (pc := 5) dX11_move_5 (by decide) rfl ?_
  refine ok_aload_n (pc := 7) dX11_move_7 rfl ?_
  refine ok_iload_n (pc := 8) dX11_move_8 rfl ?_
  refine ok_callVr1 (pc := 9) (d' := 1) dX11_move_9 vl_X11_250 hC.1 rfl rfl rfl (by decide) ?_
  refine c_sheetAt hC hI hae (fun ey9 ly9 => ?_) (fun h9 => absurd h9 (by rw [hy]; decide))
  obtain ⟨ht0, ft9, ht1, ht2⟩ := (id hC.2.2.2.2.2.1).2 (iN y) ly9
  refine ok_astore7 (pc := 12) dX11_move_12 (by decide) rfl ?_
  refine ok_aloadN (pc := 14) dX11_move_14 rfl ?_
  refine ok_ifnullN (pc := 16) 24 dX11_move_16 (by decide) ?_
  refine ok_aload_n (pc := 24) dX11_move_24 rfl ?_
  refine ok_iconst (pc := 25) (v := 1) dX11_move_25 (by decide) ?_
  refine ok_callVi1 (pc := 26) (d' := 1) dX11_move_26 vl_X11_49 hC.1 rfl rfl rfl (by decide) ?_
  refine c_error hC hI hae 1 rfl (by decide) (by decide) (fun M2 hC2 hO2 => ?_)
  refine ok_iret (pc := 29) dX11_move_29 rfl ?_
  have hop : op_move (shV va) x u y v w = es 1 (shV va) := if_neg (by rw [hx, Bool.false_and]; decide)
  rw [hop] at k
  rw [show (es 1 (shV va)).2.2 = shV va from rfl, show (es 1 (shV va)).1 = 1 from rfl, shU_er] at k
  exact k _ hC2 hO2

set_option maxHeartbeats 1000000 in
theorem x_moveFF {Γ : Cx} {a e z sz : Nat} {σ κ vi : Rw} {va : Nat → Rw} {M : Nat → Option va_E} {K : Int32 → Wd → Prop} (hC : ClsR Γ a e z σ κ vi va M) (hI : Inv σ) (hae : a + 92 ≤ e) {x u y v w : Int32} (hx : wi x 0 3 = false) (hy : wi y 0 3 = false) (k : ∀ M', ClsR Γ a e z σ κ vi (shU (eU va (op_move (shV va) x u y v w).1) (op_move (shV va) x u y v w).2.2) M' → Off a 92 M M' → K (op_move (shV va) x u y v w).2.1 (M', sz)) : Spec Γ mX11_move 2 0 [.ref a, .int x, .int u, .int y, .int v, .int w] (M, sz) (ci K) := by
  refine spec_in [some (.ref a), some (.int x), some (.int u), some (.int y), some (.int v), some (.int w), none, none] 2 (by decide) rfl rfl ?_
  refine ok_aload_n (pc := 0) dX11_move_0 rfl ?_
  refine ok_iload_n (pc := 1) dX11_move_1 rfl ?_
  refine ok_callVr1 (pc := 2) (d' := 1) dX11_move_2 vl_X11_250 hC.1 rfl rfl rfl (by decide) ?_
  refine c_sheetAt hC hI hae (fun ex9 lx9 => absurd hx (by rw [ex9, show wi (nI (iN x)) 0 3 = true from wi_nI (a := 0) (b := 3) (by omega) (by omega) (by decide)]; decide)) (fun h9 => ?_)
  refine ok_astoreN6 (pc := 5) dX11_move_5 (by decide) rfl ?_
  refine ok_aload_n (pc := 7) dX11_move_7 rfl ?_
  refine ok_iload_n (pc := 8) dX11_move_8 rfl ?_
  refine ok_callVr1 (pc := 9) (d' := 1) dX11_move_9 vl_X11_250 hC.1 rfl rfl rfl (by decide) ?_
  refine c_sheetAt hC hI hae (fun ey9 ly9 => absurd hy (by rw [ey9, show wi (nI (iN y)) 0 3 = true from wi_nI (a := 0) (b := 3) (by omega) (by omega) (by decide)]; decide)) (fun h9 => ?_)
  refine ok_astoreN7 (pc := 12) dX11_move_12 (by decide) rfl ?_
  refine ok_aloadN (pc := 14) dX11_move_14 rfl ?_
  refine ok_ifnullN (pc := 16) 24 dX11_move_16 (by decide) ?_
  refine ok_aload_n (pc := 24) dX11_move_24 rfl ?_
  refine ok_iconst (pc := 25) (v := 1) dX11_move_25 (by decide) ?_
  refine ok_callVi1 (pc := 26) (d' := 1) dX11_move_26 vl_X11_49 hC.1 rfl rfl rfl (by decide) ?_
  refine c_error hC hI hae 1 rfl (by decide) (by decide) (fun M2 hC2 hO2 => ?_)
  refine ok_iret (pc := 29) dX11_move_29 rfl ?_
  have hop : op_move (shV va) x u y v w = es 1 (shV va) := if_neg (by rw [hx, Bool.false_and]; decide)
  rw [hop] at k
  rw [show (es 1 (shV va)).2.2 = shV va from rfl, show (es 1 (shV va)).1 = 1 from rfl, shU_er] at k
  exact k _ hC2 hO2

set_option maxHeartbeats 1000000 in
theorem x_moveTF {Γ : Cx} {a e z sz : Nat} {σ κ vi : Rw} {va : Nat → Rw} {M : Nat → Option va_E} {K : Int32 → Wd → Prop} (hC : ClsR Γ a e z σ κ vi va M) (hI : Inv σ) (hae : a + 92 ≤ e) {x u y v w : Int32} (hx : wi x 0 3 = true) (hy : wi y 0 3 = false) (k : ∀ M', ClsR Γ a e z σ κ vi (shU (eU va (op_move (shV va) x u y v w).1) (op_move (shV va) x u y v w).2.2) M' → Off a 92 M M' → K (op_move (shV va) x u y v w).2.1 (M', sz)) : Spec Γ mX11_move 2 0 [.ref a, .int x, .int u, .int y, .int v, .int w] (M, sz) (ci K) := by
  refine spec_in [some (.ref a), some (.int x), some (.int u), some (.int y), some (.int v), some (.int w), none, none] 2 (by decide) rfl rfl ?_
  refine ok_aload_n (pc := 0) dX11_move_0 rfl ?_
  refine ok_iload_n (pc := 1) dX11_move_1 rfl ?_
  refine ok_callVr1 (pc := 2) (d' := 1) dX11_move_2 vl_X11_250 hC.1 rfl rfl rfl (by decide) ?_
  refine c_sheetAt hC hI hae (fun ex9 lx9 => ?_) (fun h9 => absurd h9 (by rw [hx]; decide))
  obtain ⟨hs0, fs9, hs1, hs2⟩ := (id hC.2.2.2.2.2.1).2 (iN x) lx9
  refine ok_astore6 (pc := 5) dX11_move_5 (by decide) rfl ?_
  refine ok_aload_n (pc := 7) dX11_move_7 rfl ?_
  refine ok_iload_n (pc := 8) dX11_move_8 rfl ?_
  refine ok_callVr1 (pc := 9) (d' := 1) dX11_move_9 vl_X11_250 hC.1 rfl rfl rfl (by decide) ?_
  refine c_sheetAt hC hI hae (fun ey9 ly9 => absurd hy (by rw [ey9, show wi (nI (iN y)) 0 3 = true from wi_nI (a := 0) (b := 3) (by omega) (by omega) (by decide)]; decide)) (fun h9 => ?_)
  refine ok_astoreN7 (pc := 12) dX11_move_12 (by decide) rfl ?_
  refine ok_aload (pc := 14) dX11_move_14 rfl ?_
  refine ok_ifnull (pc := 16) dX11_move_16 ?_
  refine ok_aloadN (pc := 19) dX11_move_19 rfl ?_
  refine ok_ifnonnullN (pc := 21) dX11_move_21 ?_
  refine ok_aload_n (pc := 24) dX11_move_24 rfl ?_
  refine ok_iconst (pc := 25) (v := 1) dX11_move_25 (by decide) ?_
  refine ok_callVi1 (pc := 26) (d' := 1) dX11_move_26 vl_X11_49 hC.1 rfl rfl rfl (by decide) ?_
  refine c_error hC hI hae 1 rfl (by decide) (by decide) (fun M2 hC2 hO2 => ?_)
  refine ok_iret (pc := 29) dX11_move_29 rfl ?_
  have hop : op_move (shV va) x u y v w = es 1 (shV va) := if_neg (by rw [hy, Bool.and_false]; decide)
  rw [hop] at k
  rw [show (es 1 (shV va)).2.2 = shV va from rfl, show (es 1 (shV va)).1 = 1 from rfl, shU_er] at k
  exact k _ hC2 hO2

set_option maxHeartbeats 1000000 in
theorem x_moveTT {Γ : Cx} {a e z sz : Nat} {σ κ vi : Rw} {va : Nat → Rw} {M : Nat → Option va_E} {K : Int32 → Wd → Prop} (hC : ClsR Γ a e z σ κ vi va M) (hI : Inv σ) (hae : a + 92 ≤ e) (hS : InvS (shV va)) {x u y v w : Int32} (hx : wi x 0 3 = true) (hy : wi y 0 3 = true) (k : ∀ M', ClsR Γ a e z σ κ vi (shU (eU va (op_move (shV va) x u y v w).1) (op_move (shV va) x u y v w).2.2) M' → Off a 92 M M' → K (op_move (shV va) x u y v w).2.1 (M', sz)) : Spec Γ mX11_move 2 0 [.ref a, .int x, .int u, .int y, .int v, .int w] (M, sz) (ci K) := by
  refine spec_in [some (.ref a), some (.int x), some (.int u), some (.int y), some (.int v), some (.int w), none, none] 2 (by decide) rfl rfl ?_
  refine ok_aload_n (pc := 0) dX11_move_0 rfl ?_
  refine ok_iload_n (pc := 1) dX11_move_1 rfl ?_
  refine ok_callVr1 (pc := 2) (d' := 1) dX11_move_2 vl_X11_250 hC.1 rfl rfl rfl (by decide) ?_
  refine c_sheetAt hC hI hae (fun ex9 lx9 => ?_) (fun h9 => absurd h9 (by rw [hx]; decide))
  obtain ⟨hs0, fs9, hs1, hs2⟩ := (id hC.2.2.2.2.2.1).2 (iN x) lx9
  obtain ⟨hb9, zn, lz, ez⟩ := hS (iN x) lx9
  have ez : va 22 (iN x) = nI zn := ez
  refine ok_astore6 (pc := 5) dX11_move_5 (by decide) rfl ?_
  refine ok_aload_n (pc := 7) dX11_move_7 rfl ?_
  refine ok_iload_n (pc := 8) dX11_move_8 rfl ?_
  refine ok_callVr1 (pc := 9) (d' := 1) dX11_move_9 vl_X11_250 hC.1 rfl rfl rfl (by decide) ?_
  refine c_sheetAt hC hI hae (fun ey9 ly9 => ?_) (fun h9 => absurd h9 (by rw [hy]; decide))
  obtain ⟨ht0, ft9, ht1, ht2⟩ := (id hC.2.2.2.2.2.1).2 (iN y) ly9
  obtain ⟨hb8, zm, ly, ey⟩ := hS (iN y) ly9
  have ey : va 22 (iN y) = nI zm := ey
  refine ok_astore7 (pc := 12) dX11_move_12 (by decide) rfl ?_
  refine ok_aload (pc := 14) dX11_move_14 rfl ?_
  refine ok_ifnull (pc := 16) dX11_move_16 ?_
  refine ok_aload (pc := 19) dX11_move_19 rfl ?_
  refine ok_ifnonnull (pc := 21) 30 dX11_move_21 (by decide) ?_
  refine ok_aload (pc := 30) dX11_move_30 rfl ?_
  refine ok_callVi0 (pc := 32) (d' := 0) dX11_move_32 vl_X11_257 hs0 rfl rfl rfl (by decide) ?_
  refine c_isMissing (f := fs9) hs0 ?_
  refine ok_if_ne (pc := 35) 46 dX11_move_35 (by decide) (fun cc_35 => ?_) (fun cc_35 => ?_)
  · have cq_35 := bI_n0.mp cc_35
    refine ok_aload_n (pc := 46) dX11_move_46 rfl ?_
    refine ok_iconst (pc := 47) (v := 2) dX11_move_47 (by decide) ?_
    refine ok_callVi1 (pc := 48) (d' := 1) dX11_move_48 vl_X11_49 hC.1 rfl rfl rfl (by decide) ?_
    refine c_error hC hI hae 2 rfl (by decide) (by decide) (fun M2 hC2 hO2 => ?_)
    refine ok_iret (pc := 51) dX11_move_51 rfl ?_
    have hop : op_move (shV va) x u y v w = es 2 (shV va) := (if_pos (by rw [hx, hy]; rfl)).trans (if_pos (by first | exact Or.inl (of_decide_eq_true cq_35) | exact Or.inr (of_decide_eq_true cq_43)))
    rw [hop] at k
    rw [show (es 2 (shV va)).2.2 = shV va from rfl, show (es 2 (shV va)).1 = 2 from rfl, shU_er] at k
    exact k _ hC2 hO2
  · have cq_35 := bI_0.mp cc_35
    refine ok_aload (pc := 38) dX11_move_38 rfl ?_
    refine ok_callVi0 (pc := 40) (d' := 0) dX11_move_40 vl_X11_257 ht0 rfl rfl rfl (by decide) ?_
    refine c_isMissing (f := ft9) ht0 ?_
    refine ok_if_eq (pc := 43) 52 dX11_move_43 (by decide) (fun cc_43 => ?_) (fun cc_43 => ?_)
    · have cq_43 := bI_0.mp cc_43
      refine ok_aload (pc := 52) dX11_move_52 rfl ?_
      refine ok_getf (pc := 54) dX11_move_54 fl_X11_265 hs0 rfl ?_
      refine ok_aload (pc := 57) dX11_move_57 rfl ?_
      refine ok_getf (pc := 59) dX11_move_59 fl_X11_265 ht0 rfl ?_
      refine ok_icmp_eq (pc := 62) 71 dX11_move_62 (by decide) (fun cc_62 => ?_) (fun cc_62 => ?_)
      · refine ok_aload (pc := 71) dX11_move_71 rfl ?_
        refine ok_iload_n (pc := 73) dX11_move_73 rfl ?_
        refine ok_iload (pc := 74) dX11_move_74 rfl ?_
        refine ok_callVi2 (pc := 76) (d' := 0) dX11_move_76 vl_X11_268 hs0 rfl rfl rfl (by decide) ?_
        refine c_holds (f := fs9) hs0 ?_
        rw [hold_sp ez lz]
        refine ok_if_eq (pc := 79) 94 dX11_move_79 (by decide) (fun cc_79 => ?_) (fun cc_79 => ?_)
        · have cq_79 := bI_0.mp cc_79
          refine ok_aload_n (pc := 94) dX11_move_94 rfl ?_
          refine ok_iconst (pc := 95) (v := 1) dX11_move_95 (by decide) ?_
          refine ok_callVi1 (pc := 96) (d' := 1) dX11_move_96 vl_X11_49 hC.1 rfl rfl rfl (by decide) ?_
          refine c_error hC hI hae 1 rfl (by decide) (by decide) (fun M2 hC2 hO2 => ?_)
          refine ok_iret (pc := 99) dX11_move_99 rfl ?_
          have hop : op_move (shV va) x u y v w = es 1 (shV va) := (if_pos (by rw [hx, hy]; rfl)).trans ((if_neg (fun h => h.elim (of_decide_eq_false cq_35) (of_decide_eq_false cq_43))).trans ((if_pos cc_62).trans (if_neg (by first | (rw [show spF u w ((shV va).2.1 (iN x)) = false from cq_79, Bool.false_and]; decide) | (rw [show spF v w ((shV va).2.1 (iN y)) = false from cq_91, Bool.and_false]; decide)))))
          rw [hop] at k
          rw [show (es 1 (shV va)).2.2 = shV va from rfl, show (es 1 (shV va)).1 = 1 from rfl, shU_er] at k
          exact k _ hC2 hO2
        · have cq_79 := bI_n0.mp cc_79
          refine ok_aload (pc := 82) dX11_move_82 rfl ?_
          refine ok_iload (pc := 84) dX11_move_84 rfl ?_
          refine ok_iload (pc := 86) dX11_move_86 rfl ?_
          refine ok_callVi2 (pc := 88) (d' := 0) dX11_move_88 vl_X11_268 ht0 rfl rfl rfl (by decide) ?_
          refine c_holds (f := ft9) ht0 ?_
          rw [hold_sp ey ly]
          refine ok_if_ne (pc := 91) 100 dX11_move_91 (by decide) (fun cc_91 => ?_) (fun cc_91 => ?_)
          · have cq_91 := bI_n0.mp cc_91
            refine ok_aload (pc := 100) dX11_move_100 rfl ?_
            refine ok_getf (pc := 102) dX11_move_102 fl_X11_271 hs0 rfl ?_
            refine ok_iload_n (pc := 105) dX11_move_105 rfl ?_
            refine ok_aload (pc := 106) dX11_move_106 rfl ?_
            refine ok_getf (pc := 108) dX11_move_108 fl_X11_271 ht0 rfl ?_
            refine ok_iload (pc := 111) dX11_move_111 rfl ?_
            refine ok_iload (pc := 113) dX11_move_113 rfl ?_
            have hnx : va 21 (iN x) ≠ 0 := of_decide_eq_false cq_35
            have hny : va 21 (iN y) ≠ 0 := of_decide_eq_false cq_43
            obtain ⟨eu, ew, luw⟩ := sp_ok ez lz cq_79
            obtain ⟨ev, -, lvw⟩ := sp_ok ey ly cq_91
            refine ok_copy (pc := 115) (iN u) (iN v) (iN w) dX11_move_115 tw_1079 tw_758 tw_757 tw_101 hs1 ht1 eu ev ew (by omega) (by omega) (by omega) (by omega) rfl (by decide) ?_
            have hS9 := sh_move hC.2.2.2.2.2.1 (iN x) (iN y) lx9 ly9 cc_62 (iN u) (iN v) (iN w) (by omega) (by omega) hs2 ht2
            have hC9 := hC.sh hI hae (fun s h1 h2 h3 => shU_ne va _ s h1 h2 h3) hS9 (fun q hq => up_ne (by omega))
            have hO9 : Off a 92 M (va_up M (a + 84 + 2 * iN y + 1) (aI Γ 40 (va_cpy fs9 ft9 (iN u) (iN v) (iN w)))) := fun q hq => up_ne (by omega)
            refine ok_iload (pc := 118) dX11_move_118 rfl ?_
            refine ok_iret (pc := 120) dX11_move_120 rfl ?_
            have hop : op_move (shV va) x u y v w = (0, w, (va 21, va 22, mvF (va 23) (40 * iN x + iN u) (40 * iN y + iN v) (iN w))) := (if_pos (by rw [hx, hy]; rfl)).trans ((if_neg (fun h => h.elim (of_decide_eq_false cq_35) (of_decide_eq_false cq_43))).trans ((if_pos cc_62).trans (if_pos (by rw [show spF u w ((shV va).2.1 (iN x)) = true from cq_79, show spF v w ((shV va).2.1 (iN y)) = true from cq_91]; rfl))))
            rw [hop] at k
            rw [eU_0] at k
            exact k _ hC9 hO9
          · have cq_91 := bI_0.mp cc_91
            refine ok_aload_n (pc := 94) dX11_move_94 rfl ?_
            refine ok_iconst (pc := 95) (v := 1) dX11_move_95 (by decide) ?_
            refine ok_callVi1 (pc := 96) (d' := 1) dX11_move_96 vl_X11_49 hC.1 rfl rfl rfl (by decide) ?_
            refine c_error hC hI hae 1 rfl (by decide) (by decide) (fun M2 hC2 hO2 => ?_)
            refine ok_iret (pc := 99) dX11_move_99 rfl ?_
            have hop : op_move (shV va) x u y v w = es 1 (shV va) := (if_pos (by rw [hx, hy]; rfl)).trans ((if_neg (fun h => h.elim (of_decide_eq_false cq_35) (of_decide_eq_false cq_43))).trans ((if_pos cc_62).trans (if_neg (by first | (rw [show spF u w ((shV va).2.1 (iN x)) = false from cq_79, Bool.false_and]; decide) | (rw [show spF v w ((shV va).2.1 (iN y)) = false from cq_91, Bool.and_false]; decide)))))
            rw [hop] at k
            rw [show (es 1 (shV va)).2.2 = shV va from rfl, show (es 1 (shV va)).1 = 1 from rfl, shU_er] at k
            exact k _ hC2 hO2
      · refine ok_aload_n (pc := 65) dX11_move_65 rfl ?_
        refine ok_iconst (pc := 66) (v := 5) dX11_move_66 (by decide) ?_
        refine ok_callVi1 (pc := 67) (d' := 1) dX11_move_67 vl_X11_49 hC.1 rfl rfl rfl (by decide) ?_
        refine c_error hC hI hae 5 rfl (by decide) (by decide) (fun M2 hC2 hO2 => ?_)
        refine ok_iret (pc := 70) dX11_move_70 rfl ?_
        have hop : op_move (shV va) x u y v w = es 5 (shV va) := (if_pos (by rw [hx, hy]; rfl)).trans ((if_neg (fun h => h.elim (of_decide_eq_false cq_35) (of_decide_eq_false cq_43))).trans (if_neg cc_62))
        rw [hop] at k
        rw [show (es 5 (shV va)).2.2 = shV va from rfl, show (es 5 (shV va)).1 = 5 from rfl, shU_er] at k
        exact k _ hC2 hO2
    · have cq_43 := bI_n0.mp cc_43
      refine ok_aload_n (pc := 46) dX11_move_46 rfl ?_
      refine ok_iconst (pc := 47) (v := 2) dX11_move_47 (by decide) ?_
      refine ok_callVi1 (pc := 48) (d' := 1) dX11_move_48 vl_X11_49 hC.1 rfl rfl rfl (by decide) ?_
      refine c_error hC hI hae 2 rfl (by decide) (by decide) (fun M2 hC2 hO2 => ?_)
      refine ok_iret (pc := 51) dX11_move_51 rfl ?_
      have hop : op_move (shV va) x u y v w = es 2 (shV va) := (if_pos (by rw [hx, hy]; rfl)).trans (if_pos (by first | exact Or.inl (of_decide_eq_true cq_35) | exact Or.inr (of_decide_eq_true cq_43)))
      rw [hop] at k
      rw [show (es 2 (shV va)).2.2 = shV va from rfl, show (es 2 (shV va)).1 = 2 from rfl, shU_er] at k
      exact k _ hC2 hO2

theorem x_move {Γ : Cx} {a e z sz : Nat} {σ κ vi : Rw} {va : Nat → Rw} {M : Nat → Option va_E} {K : Int32 → Wd → Prop} (hC : ClsR Γ a e z σ κ vi va M) (hI : Inv σ) (hae : a + 92 ≤ e) (hS : InvS (shV va)) {x u y v w : Int32} (k : ∀ M', ClsR Γ a e z σ κ vi (shU (eU va (op_move (shV va) x u y v w).1) (op_move (shV va) x u y v w).2.2) M' → Off a 92 M M' → K (op_move (shV va) x u y v w).2.1 (M', sz)) : Spec Γ mX11_move 2 0 [.ref a, .int x, .int u, .int y, .int v, .int w] (M, sz) (ci K) := by
  cases hx : wi x 0 3 with
  | true =>
    cases hy : wi y 0 3 with
    | true => exact x_moveTT hC hI hae hS hx hy k
    | false => exact x_moveTF hC hI hae hx hy k
  | false =>
    cases hy : wi y 0 3 with
    | true => exact x_moveFT hC hI hae hx hy k
    | false => exact x_moveFF hC hI hae hx hy k
