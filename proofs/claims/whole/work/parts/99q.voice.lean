theorem v_add {Γ : Cx} {r sz : Nat} {M : Nat → Option va_E} {K : Int32 → Wd → Prop} {v : Int32} {s : Tr} (hb : rwR Γ M r 40 (nI s.1) s.2) (hs : s.1 ≤ 40) (k : ∀ M' b9, rwR Γ M' r 40 (nI (apT s v).1) (apT s v).2 → (apT s v).1 ≤ 40 → Off r 2 M M' → K b9 (M', sz)) : Spec Γ mX6_add 0 0 [.ref r, .int v] (M, sz) (ci K) := by
  obtain ⟨h0, f, h1, h2⟩ := hb
  rcases Nat.lt_or_ge s.1 40 with g | g
  · have ea : apT s v = (s.1 + 1, upd s.2 s.1 v) := if_pos g
    rw [ea] at k
    refine c_add h0 h1 (by omega) s.1 rfl g (by decide) (k _ _ ⟨up_eq, upd f s.1 v, (up_ne (by omega)).trans up_eq, fun j hj => ?_⟩ (show s.1 + 1 ≤ 40 by omega) (fun q hq => (up_ne (by omega)).trans (up_ne (by omega))))
    have hj2 : j < s.1 + 1 := by
      have e9 : iN (nI (s.1 + 1)) = s.1 + 1 := nI_clamp (by omega)
      have hj3 : j < iN (nI (s.1 + 1)) := hj
      omega
    show upd f s.1 v j = upd s.2 s.1 v j
    by_cases c : j = s.1
    · rw [c, upd_at, upd_at]
    · rw [upd_ne c, upd_ne c]
      exact h2 j (by have e9 : iN (nI s.1) = s.1 := nI_clamp (by omega); omega)
  · have ea : apT s v = s := if_neg (by omega)
    rw [ea] at k
    exact c_addF h0 h1 s.1 rfl g (by omega) (k _ _ ⟨h0, f, h1, h2⟩ hs Off.rfl')

set_option maxHeartbeats 1000000 in
theorem v_li2_2 {Γ : Cx} {q r sz : Nat} {M : Nat → Option va_E} {K : Int32 → Wd → Prop} {v0 v1 v2 v3 v4 v5 x : Int32} {s : Tr} (hqr : q < r ∨ r + 2 ≤ q) (hb : rwR Γ M r 40 (nI s.1) s.2) (hs : s.1 ≤ 40) (hq : M q = some (.inr (2, [.int v0, .int v1, .int v2, .int v3, .int v4, .int v5]))) (k : ∀ M', rwR Γ M' r 40 (nI (b10 v0 x s).2.1) (b10 v0 x s).2.2 → (b10 v0 x s).2.1 ≤ 40 → Off r 2 M M' → K (b10 v0 x s).1 (M', sz)) : Spec Γ mX2_lifts 1 0 [.ref q, .int x, .ref r] (M, sz) (ci K) := by
  refine spec_in [some (.ref q), some (.int x), some (.ref r)] 0 (by decide) rfl rfl ?_
  refine ok_aload_n (pc := 0) dX2_lifts_0 rfl ?_
  refine ok_bipush (pc := 1) (v := 10) dX2_lifts_1 (by decide) ?_
  refine ok_callVi1 (pc := 3) (d' := 0) dX2_lifts_3 vl_X2_28 hb.1 rfl rfl rfl (by decide) ?_
  refine v_add hb hs (fun M b9 hb hs hO1 => ?_)
  have hq := (hO1 q hqr).trans hq
  refine ok_pop (pc := 6) dX2_lifts_6 rfl ?_
  refine ok_iload_n (pc := 7) dX2_lifts_7 rfl ?_
  refine ok_aload_n (pc := 8) dX2_lifts_8 rfl ?_
  refine ok_getf (pc := 9) dX2_lifts_9 fl_X2_7_2 hq rfl ?_
  refine ok_iadd (pc := 12) dX2_lifts_12 ?_
  refine ok_iret (pc := 13) dX2_lifts_13 rfl ?_
  exact k _ hb hs hO1

set_option maxHeartbeats 1000000 in
theorem v_li2_0 {Γ : Cx} {q r sz : Nat} {M : Nat → Option va_E} {K : Int32 → Wd → Prop} {v0 v1 v2 v3 v4 v5 x : Int32} {s : Tr} (hqr : q < r ∨ r + 2 ≤ q) (hb : rwR Γ M r 40 (nI s.1) s.2) (hs : s.1 ≤ 40) (hq : M q = some (.inr (0, [.int v0, .int v1, .int v2, .int v3, .int v4, .int v5]))) (k : ∀ M', rwR Γ M' r 40 (nI (b10 v0 x s).2.1) (b10 v0 x s).2.2 → (b10 v0 x s).2.1 ≤ 40 → Off r 2 M M' → K (b10 v0 x s).1 (M', sz)) : Spec Γ mX2_lifts 1 0 [.ref q, .int x, .ref r] (M, sz) (ci K) := by
  refine spec_in [some (.ref q), some (.int x), some (.ref r)] 0 (by decide) rfl rfl ?_
  refine ok_aload_n (pc := 0) dX2_lifts_0 rfl ?_
  refine ok_bipush (pc := 1) (v := 10) dX2_lifts_1 (by decide) ?_
  refine ok_callVi1 (pc := 3) (d' := 0) dX2_lifts_3 vl_X2_28 hb.1 rfl rfl rfl (by decide) ?_
  refine v_add hb hs (fun M b9 hb hs hO1 => ?_)
  have hq := (hO1 q hqr).trans hq
  refine ok_pop (pc := 6) dX2_lifts_6 rfl ?_
  refine ok_iload_n (pc := 7) dX2_lifts_7 rfl ?_
  refine ok_aload_n (pc := 8) dX2_lifts_8 rfl ?_
  refine ok_getf (pc := 9) dX2_lifts_9 fl_X2_7_0 hq rfl ?_
  refine ok_iadd (pc := 12) dX2_lifts_12 ?_
  refine ok_iret (pc := 13) dX2_lifts_13 rfl ?_
  exact k _ hb hs hO1

set_option maxHeartbeats 1000000 in
theorem v_li2_9 {Γ : Cx} {q r sz : Nat} {M : Nat → Option va_E} {K : Int32 → Wd → Prop} {v0 v1 v2 v3 v4 v5 x : Int32} {s : Tr} (hqr : q < r ∨ r + 2 ≤ q) (hb : rwR Γ M r 40 (nI s.1) s.2) (hs : s.1 ≤ 40) (hq : M q = some (.inr (9, [.int v0, .int v1, .int v2, .int v3, .int v4, .int v5]))) (k : ∀ M', rwR Γ M' r 40 (nI (b10 v0 x s).2.1) (b10 v0 x s).2.2 → (b10 v0 x s).2.1 ≤ 40 → Off r 2 M M' → K (b10 v0 x s).1 (M', sz)) : Spec Γ mX2_lifts 1 0 [.ref q, .int x, .ref r] (M, sz) (ci K) := by
  refine spec_in [some (.ref q), some (.int x), some (.ref r)] 0 (by decide) rfl rfl ?_
  refine ok_aload_n (pc := 0) dX2_lifts_0 rfl ?_
  refine ok_bipush (pc := 1) (v := 10) dX2_lifts_1 (by decide) ?_
  refine ok_callVi1 (pc := 3) (d' := 0) dX2_lifts_3 vl_X2_28 hb.1 rfl rfl rfl (by decide) ?_
  refine v_add hb hs (fun M b9 hb hs hO1 => ?_)
  have hq := (hO1 q hqr).trans hq
  refine ok_pop (pc := 6) dX2_lifts_6 rfl ?_
  refine ok_iload_n (pc := 7) dX2_lifts_7 rfl ?_
  refine ok_aload_n (pc := 8) dX2_lifts_8 rfl ?_
  refine ok_getf (pc := 9) dX2_lifts_9 fl_X2_7_9 hq rfl ?_
  refine ok_iadd (pc := 12) dX2_lifts_12 ?_
  refine ok_iret (pc := 13) dX2_lifts_13 rfl ?_
  exact k _ hb hs hO1

set_option maxHeartbeats 1000000 in
theorem v_li2_8 {Γ : Cx} {q r sz : Nat} {M : Nat → Option va_E} {K : Int32 → Wd → Prop} {v0 v1 v2 v3 v4 v5 x : Int32} {s : Tr} (hqr : q < r ∨ r + 2 ≤ q) (hb : rwR Γ M r 40 (nI s.1) s.2) (hs : s.1 ≤ 40) (hq : M q = some (.inr (8, [.int v0, .int v1, .int v2, .int v3, .int v4, .int v5]))) (k : ∀ M', rwR Γ M' r 40 (nI (b10 v0 x s).2.1) (b10 v0 x s).2.2 → (b10 v0 x s).2.1 ≤ 40 → Off r 2 M M' → K (b10 v0 x s).1 (M', sz)) : Spec Γ mX2_lifts 1 0 [.ref q, .int x, .ref r] (M, sz) (ci K) := by
  refine spec_in [some (.ref q), some (.int x), some (.ref r)] 0 (by decide) rfl rfl ?_
  refine ok_aload_n (pc := 0) dX2_lifts_0 rfl ?_
  refine ok_bipush (pc := 1) (v := 10) dX2_lifts_1 (by decide) ?_
  refine ok_callVi1 (pc := 3) (d' := 0) dX2_lifts_3 vl_X2_28 hb.1 rfl rfl rfl (by decide) ?_
  refine v_add hb hs (fun M b9 hb hs hO1 => ?_)
  have hq := (hO1 q hqr).trans hq
  refine ok_pop (pc := 6) dX2_lifts_6 rfl ?_
  refine ok_iload_n (pc := 7) dX2_lifts_7 rfl ?_
  refine ok_aload_n (pc := 8) dX2_lifts_8 rfl ?_
  refine ok_getf (pc := 9) dX2_lifts_9 fl_X2_7_8 hq rfl ?_
  refine ok_iadd (pc := 12) dX2_lifts_12 ?_
  refine ok_iret (pc := 13) dX2_lifts_13 rfl ?_
  exact k _ hb hs hO1

set_option maxHeartbeats 1000000 in
theorem v_li2_1 {Γ : Cx} {q r sz : Nat} {M : Nat → Option va_E} {K : Int32 → Wd → Prop} {v0 v1 v2 v3 v4 v5 x : Int32} {s : Tr} (hqr : q < r ∨ r + 2 ≤ q) (hb : rwR Γ M r 40 (nI s.1) s.2) (hs : s.1 ≤ 40) (hq : M q = some (.inr (1, [.int v0, .int v1, .int v2, .int v3, .int v4, .int v5]))) (k : ∀ M', rwR Γ M' r 40 (nI (b10 v0 x s).2.1) (b10 v0 x s).2.2 → (b10 v0 x s).2.1 ≤ 40 → Off r 2 M M' → K (b10 v0 x s).1 (M', sz)) : Spec Γ mX2_lifts 1 0 [.ref q, .int x, .ref r] (M, sz) (ci K) := by
  refine spec_in [some (.ref q), some (.int x), some (.ref r)] 0 (by decide) rfl rfl ?_
  refine ok_aload_n (pc := 0) dX2_lifts_0 rfl ?_
  refine ok_bipush (pc := 1) (v := 10) dX2_lifts_1 (by decide) ?_
  refine ok_callVi1 (pc := 3) (d' := 0) dX2_lifts_3 vl_X2_28 hb.1 rfl rfl rfl (by decide) ?_
  refine v_add hb hs (fun M b9 hb hs hO1 => ?_)
  have hq := (hO1 q hqr).trans hq
  refine ok_pop (pc := 6) dX2_lifts_6 rfl ?_
  refine ok_iload_n (pc := 7) dX2_lifts_7 rfl ?_
  refine ok_aload_n (pc := 8) dX2_lifts_8 rfl ?_
  refine ok_getf (pc := 9) dX2_lifts_9 fl_X2_7_1 hq rfl ?_
  refine ok_iadd (pc := 12) dX2_lifts_12 ?_
  refine ok_iret (pc := 13) dX2_lifts_13 rfl ?_
  exact k _ hb hs hO1

set_option maxHeartbeats 1000000 in
theorem v_li2_3 {Γ : Cx} {q r sz : Nat} {M : Nat → Option va_E} {K : Int32 → Wd → Prop} {v0 v1 v2 v3 v4 v5 x : Int32} {s : Tr} (hqr : q < r ∨ r + 2 ≤ q) (hb : rwR Γ M r 40 (nI s.1) s.2) (hs : s.1 ≤ 40) (hq : M q = some (.inr (3, [.int v0, .int v1, .int v2, .int v3, .int v4, .int v5]))) (k : ∀ M', rwR Γ M' r 40 (nI (b10 v0 x s).2.1) (b10 v0 x s).2.2 → (b10 v0 x s).2.1 ≤ 40 → Off r 2 M M' → K (b10 v0 x s).1 (M', sz)) : Spec Γ mX2_lifts 1 0 [.ref q, .int x, .ref r] (M, sz) (ci K) := by
  refine spec_in [some (.ref q), some (.int x), some (.ref r)] 0 (by decide) rfl rfl ?_
  refine ok_aload_n (pc := 0) dX2_lifts_0 rfl ?_
  refine ok_bipush (pc := 1) (v := 10) dX2_lifts_1 (by decide) ?_
  refine ok_callVi1 (pc := 3) (d' := 0) dX2_lifts_3 vl_X2_28 hb.1 rfl rfl rfl (by decide) ?_
  refine v_add hb hs (fun M b9 hb hs hO1 => ?_)
  have hq := (hO1 q hqr).trans hq
  refine ok_pop (pc := 6) dX2_lifts_6 rfl ?_
  refine ok_iload_n (pc := 7) dX2_lifts_7 rfl ?_
  refine ok_aload_n (pc := 8) dX2_lifts_8 rfl ?_
  refine ok_getf (pc := 9) dX2_lifts_9 fl_X2_7_3 hq rfl ?_
  refine ok_iadd (pc := 12) dX2_lifts_12 ?_
  refine ok_iret (pc := 13) dX2_lifts_13 rfl ?_
  exact k _ hb hs hO1

set_option maxHeartbeats 1000000 in
theorem v_li2_4 {Γ : Cx} {q r sz : Nat} {M : Nat → Option va_E} {K : Int32 → Wd → Prop} {v0 v1 v2 v3 v4 v5 x : Int32} {s : Tr} (hqr : q < r ∨ r + 2 ≤ q) (hb : rwR Γ M r 40 (nI s.1) s.2) (hs : s.1 ≤ 40) (hq : M q = some (.inr (4, [.int v0, .int v1, .int v2, .int v3, .int v4, .int v5]))) (k : ∀ M', rwR Γ M' r 40 (nI (b10 v0 x s).2.1) (b10 v0 x s).2.2 → (b10 v0 x s).2.1 ≤ 40 → Off r 2 M M' → K (b10 v0 x s).1 (M', sz)) : Spec Γ mX2_lifts 1 0 [.ref q, .int x, .ref r] (M, sz) (ci K) := by
  refine spec_in [some (.ref q), some (.int x), some (.ref r)] 0 (by decide) rfl rfl ?_
  refine ok_aload_n (pc := 0) dX2_lifts_0 rfl ?_
  refine ok_bipush (pc := 1) (v := 10) dX2_lifts_1 (by decide) ?_
  refine ok_callVi1 (pc := 3) (d' := 0) dX2_lifts_3 vl_X2_28 hb.1 rfl rfl rfl (by decide) ?_
  refine v_add hb hs (fun M b9 hb hs hO1 => ?_)
  have hq := (hO1 q hqr).trans hq
  refine ok_pop (pc := 6) dX2_lifts_6 rfl ?_
  refine ok_iload_n (pc := 7) dX2_lifts_7 rfl ?_
  refine ok_aload_n (pc := 8) dX2_lifts_8 rfl ?_
  refine ok_getf (pc := 9) dX2_lifts_9 fl_X2_7_4 hq rfl ?_
  refine ok_iadd (pc := 12) dX2_lifts_12 ?_
  refine ok_iret (pc := 13) dX2_lifts_13 rfl ?_
  exact k _ hb hs hO1

set_option maxHeartbeats 1000000 in
theorem v_li9_9 {Γ : Cx} {q r sz : Nat} {M : Nat → Option va_E} {K : Int32 → Wd → Prop} {v0 v1 v2 v3 v4 v5 x : Int32} {s : Tr} (hqr : q < r ∨ r + 2 ≤ q) (hb : rwR Γ M r 40 (nI s.1) s.2) (hs : s.1 ≤ 40) (hq : M q = some (.inr (9, [.int v0, .int v1, .int v2, .int v3, .int v4, .int v5]))) (k : ∀ M', rwR Γ M' r 40 (nI (b30 v0 x s).2.1) (b30 v0 x s).2.2 → (b30 v0 x s).2.1 ≤ 40 → Off r 2 M M' → K (b30 v0 x s).1 (M', sz)) : Spec Γ mX9_lifts 2 0 [.ref q, .int x, .ref r] (M, sz) (ci K) := by
  refine spec_in [some (.ref q), some (.int x), some (.ref r)] 0 (by decide) rfl rfl ?_
  refine ok_aload_n (pc := 0) dX9_lifts_0 rfl ?_
  refine ok_bipush (pc := 1) (v := 30) dX9_lifts_1 (by decide) ?_
  refine ok_callVi1 (pc := 3) (d' := 0) dX9_lifts_3 vl_X9_7 hb.1 rfl rfl rfl (by decide) ?_
  refine v_add hb hs (fun M b9 hb hs hO1 => ?_)
  have hq := (hO1 q hqr).trans hq
  refine ok_pop (pc := 6) dX9_lifts_6 rfl ?_
  refine ok_aload_n (pc := 7) dX9_lifts_7 rfl ?_
  refine ok_iload_n (pc := 8) dX9_lifts_8 rfl ?_
  refine ok_aload_n (pc := 9) dX9_lifts_9 rfl ?_
  refine ok_callSUi2 (pc := 10) (d' := 1) dX9_lifts_10 sul_X9_13 hq rfl rfl (by decide) ?_
  refine v_li2_9 hqr hb hs hq (fun M hb hs hO2 => ?_)
  have hO1 := hO1.trans hO2
  have hq := (hO2 q hqr).trans hq
  refine ok_iconst (pc := 13) (v := 3) dX9_lifts_13 (by decide) ?_
  refine ok_imul (pc := 14) dX9_lifts_14 ?_
  refine ok_iret (pc := 15) dX9_lifts_15 rfl ?_
  exact k _ hb hs hO1

set_option maxHeartbeats 1000000 in
theorem v_li9_3 {Γ : Cx} {q r sz : Nat} {M : Nat → Option va_E} {K : Int32 → Wd → Prop} {v0 v1 v2 v3 v4 v5 x : Int32} {s : Tr} (hqr : q < r ∨ r + 2 ≤ q) (hb : rwR Γ M r 40 (nI s.1) s.2) (hs : s.1 ≤ 40) (hq : M q = some (.inr (3, [.int v0, .int v1, .int v2, .int v3, .int v4, .int v5]))) (k : ∀ M', rwR Γ M' r 40 (nI (b30 v0 x s).2.1) (b30 v0 x s).2.2 → (b30 v0 x s).2.1 ≤ 40 → Off r 2 M M' → K (b30 v0 x s).1 (M', sz)) : Spec Γ mX9_lifts 2 0 [.ref q, .int x, .ref r] (M, sz) (ci K) := by
  refine spec_in [some (.ref q), some (.int x), some (.ref r)] 0 (by decide) rfl rfl ?_
  refine ok_aload_n (pc := 0) dX9_lifts_0 rfl ?_
  refine ok_bipush (pc := 1) (v := 30) dX9_lifts_1 (by decide) ?_
  refine ok_callVi1 (pc := 3) (d' := 0) dX9_lifts_3 vl_X9_7 hb.1 rfl rfl rfl (by decide) ?_
  refine v_add hb hs (fun M b9 hb hs hO1 => ?_)
  have hq := (hO1 q hqr).trans hq
  refine ok_pop (pc := 6) dX9_lifts_6 rfl ?_
  refine ok_aload_n (pc := 7) dX9_lifts_7 rfl ?_
  refine ok_iload_n (pc := 8) dX9_lifts_8 rfl ?_
  refine ok_aload_n (pc := 9) dX9_lifts_9 rfl ?_
  refine ok_callSUi2 (pc := 10) (d' := 1) dX9_lifts_10 sul_X9_13 hq rfl rfl (by decide) ?_
  refine v_li2_3 hqr hb hs hq (fun M hb hs hO2 => ?_)
  have hO1 := hO1.trans hO2
  have hq := (hO2 q hqr).trans hq
  refine ok_iconst (pc := 13) (v := 3) dX9_lifts_13 (by decide) ?_
  refine ok_imul (pc := 14) dX9_lifts_14 ?_
  refine ok_iret (pc := 15) dX9_lifts_15 rfl ?_
  exact k _ hb hs hO1

theorem w_li_2 {Γ : Cx} {q r sz : Nat} {M : Nat → Option va_E} {K : Int32 → Wd → Prop} {v0 v1 v2 v3 v4 v5 x : Int32} {s : Tr} (hqr : q < r ∨ r + 2 ≤ q) (hb : rwR Γ M r 40 (nI s.1) s.2) (hs : s.1 ≤ 40) (hq : M q = some (.inr (2, [.int v0, .int v1, .int v2, .int v3, .int v4, .int v5]))) (k : ∀ M', rwR Γ M' r 40 (nI (vLi 0 v0 x s).2.1) (vLi 0 v0 x s).2.2 → (vLi 0 v0 x s).2.1 ≤ 40 → Off r 2 M M' → K (vLi 0 v0 x s).1 (M', sz)) : Spec Γ mX2_lifts 1 0 [.ref q, .int x, .ref r] (M, sz) (ci K) := by
  have e9 : vLi 0 v0 x s = b10 v0 x s := if_neg (by decide)
  rw [e9] at k
  exact v_li2_2 hqr hb hs hq k

theorem w_li_0 {Γ : Cx} {q r sz : Nat} {M : Nat → Option va_E} {K : Int32 → Wd → Prop} {v0 v1 v2 v3 v4 v5 x : Int32} {s : Tr} (hqr : q < r ∨ r + 2 ≤ q) (hb : rwR Γ M r 40 (nI s.1) s.2) (hs : s.1 ≤ 40) (hq : M q = some (.inr (0, [.int v0, .int v1, .int v2, .int v3, .int v4, .int v5]))) (k : ∀ M', rwR Γ M' r 40 (nI (vLi 1 v0 x s).2.1) (vLi 1 v0 x s).2.2 → (vLi 1 v0 x s).2.1 ≤ 40 → Off r 2 M M' → K (vLi 1 v0 x s).1 (M', sz)) : Spec Γ mX2_lifts 1 0 [.ref q, .int x, .ref r] (M, sz) (ci K) := by
  have e9 : vLi 1 v0 x s = b10 v0 x s := if_neg (by decide)
  rw [e9] at k
  exact v_li2_0 hqr hb hs hq k

theorem w_li_9 {Γ : Cx} {q r sz : Nat} {M : Nat → Option va_E} {K : Int32 → Wd → Prop} {v0 v1 v2 v3 v4 v5 x : Int32} {s : Tr} (hqr : q < r ∨ r + 2 ≤ q) (hb : rwR Γ M r 40 (nI s.1) s.2) (hs : s.1 ≤ 40) (hq : M q = some (.inr (9, [.int v0, .int v1, .int v2, .int v3, .int v4, .int v5]))) (k : ∀ M', rwR Γ M' r 40 (nI (vLi 2 v0 x s).2.1) (vLi 2 v0 x s).2.2 → (vLi 2 v0 x s).2.1 ≤ 40 → Off r 2 M M' → K (vLi 2 v0 x s).1 (M', sz)) : Spec Γ mX9_lifts 2 0 [.ref q, .int x, .ref r] (M, sz) (ci K) := by
  have e9 : vLi 2 v0 x s = b30 v0 x s := if_pos (by decide)
  rw [e9] at k
  exact v_li9_9 hqr hb hs hq k

theorem w_li_8 {Γ : Cx} {q r sz : Nat} {M : Nat → Option va_E} {K : Int32 → Wd → Prop} {v0 v1 v2 v3 v4 v5 x : Int32} {s : Tr} (hqr : q < r ∨ r + 2 ≤ q) (hb : rwR Γ M r 40 (nI s.1) s.2) (hs : s.1 ≤ 40) (hq : M q = some (.inr (8, [.int v0, .int v1, .int v2, .int v3, .int v4, .int v5]))) (k : ∀ M', rwR Γ M' r 40 (nI (vLi 3 v0 x s).2.1) (vLi 3 v0 x s).2.2 → (vLi 3 v0 x s).2.1 ≤ 40 → Off r 2 M M' → K (vLi 3 v0 x s).1 (M', sz)) : Spec Γ mX2_lifts 1 0 [.ref q, .int x, .ref r] (M, sz) (ci K) := by
  have e9 : vLi 3 v0 x s = b10 v0 x s := if_neg (by decide)
  rw [e9] at k
  exact v_li2_8 hqr hb hs hq k

theorem w_li_1 {Γ : Cx} {q r sz : Nat} {M : Nat → Option va_E} {K : Int32 → Wd → Prop} {v0 v1 v2 v3 v4 v5 x : Int32} {s : Tr} (hqr : q < r ∨ r + 2 ≤ q) (hb : rwR Γ M r 40 (nI s.1) s.2) (hs : s.1 ≤ 40) (hq : M q = some (.inr (1, [.int v0, .int v1, .int v2, .int v3, .int v4, .int v5]))) (k : ∀ M', rwR Γ M' r 40 (nI (vLi 4 v0 x s).2.1) (vLi 4 v0 x s).2.2 → (vLi 4 v0 x s).2.1 ≤ 40 → Off r 2 M M' → K (vLi 4 v0 x s).1 (M', sz)) : Spec Γ mX2_lifts 1 0 [.ref q, .int x, .ref r] (M, sz) (ci K) := by
  have e9 : vLi 4 v0 x s = b10 v0 x s := if_neg (by decide)
  rw [e9] at k
  exact v_li2_1 hqr hb hs hq k

theorem w_li_3 {Γ : Cx} {q r sz : Nat} {M : Nat → Option va_E} {K : Int32 → Wd → Prop} {v0 v1 v2 v3 v4 v5 x : Int32} {s : Tr} (hqr : q < r ∨ r + 2 ≤ q) (hb : rwR Γ M r 40 (nI s.1) s.2) (hs : s.1 ≤ 40) (hq : M q = some (.inr (3, [.int v0, .int v1, .int v2, .int v3, .int v4, .int v5]))) (k : ∀ M', rwR Γ M' r 40 (nI (vLi 5 v0 x s).2.1) (vLi 5 v0 x s).2.2 → (vLi 5 v0 x s).2.1 ≤ 40 → Off r 2 M M' → K (vLi 5 v0 x s).1 (M', sz)) : Spec Γ mX9_lifts 2 0 [.ref q, .int x, .ref r] (M, sz) (ci K) := by
  have e9 : vLi 5 v0 x s = b30 v0 x s := if_pos (by decide)
  rw [e9] at k
  exact v_li9_3 hqr hb hs hq k

theorem w_li_4 {Γ : Cx} {q r sz : Nat} {M : Nat → Option va_E} {K : Int32 → Wd → Prop} {v0 v1 v2 v3 v4 v5 x : Int32} {s : Tr} (hqr : q < r ∨ r + 2 ≤ q) (hb : rwR Γ M r 40 (nI s.1) s.2) (hs : s.1 ≤ 40) (hq : M q = some (.inr (4, [.int v0, .int v1, .int v2, .int v3, .int v4, .int v5]))) (k : ∀ M', rwR Γ M' r 40 (nI (vLi 6 v0 x s).2.1) (vLi 6 v0 x s).2.2 → (vLi 6 v0 x s).2.1 ≤ 40 → Off r 2 M M' → K (vLi 6 v0 x s).1 (M', sz)) : Spec Γ mX2_lifts 1 0 [.ref q, .int x, .ref r] (M, sz) (ci K) := by
  have e9 : vLi 6 v0 x s = b10 v0 x s := if_neg (by decide)
  rw [e9] at k
  exact v_li2_4 hqr hb hs hq k

set_option maxHeartbeats 1000000 in
theorem v_si2_2 {Γ : Cx} {q r sz : Nat} {M : Nat → Option va_E} {K : Int32 → Wd → Prop} {v0 v1 v2 v3 v4 v5 x : Int32} {s : Tr} (hqr : q < r ∨ r + 2 ≤ q) (hb : rwR Γ M r 40 (nI s.1) s.2) (hs : s.1 ≤ 40) (hq : M q = some (.inr (2, [.int v0, .int v1, .int v2, .int v3, .int v4, .int v5]))) (k : ∀ M', rwR Γ M' r 40 (nI (b12 v2 x s).2.1) (b12 v2 x s).2.2 → (b12 v2 x s).2.1 ≤ 40 → Off r 2 M M' → K (b12 v2 x s).1 (M', sz)) : Spec Γ mX2_sinks 1 0 [.ref q, .int x, .ref r] (M, sz) (ci K) := by
  refine spec_in [some (.ref q), some (.int x), some (.ref r)] 0 (by decide) rfl rfl ?_
  refine ok_aload_n (pc := 0) dX2_sinks_0 rfl ?_
  refine ok_bipush (pc := 1) (v := 12) dX2_sinks_1 (by decide) ?_
  refine ok_callVi1 (pc := 3) (d' := 0) dX2_sinks_3 vl_X2_28 hb.1 rfl rfl rfl (by decide) ?_
  refine v_add hb hs (fun M b9 hb hs hO1 => ?_)
  have hq := (hO1 q hqr).trans hq
  refine ok_pop (pc := 6) dX2_sinks_6 rfl ?_
  refine ok_iload_n (pc := 7) dX2_sinks_7 rfl ?_
  refine ok_aload_n (pc := 8) dX2_sinks_8 rfl ?_
  refine ok_getf (pc := 9) dX2_sinks_9 fl_X2_16_2 hq rfl ?_
  refine ok_isub (pc := 12) dX2_sinks_12 ?_
  refine ok_iret (pc := 13) dX2_sinks_13 rfl ?_
  exact k _ hb hs hO1

set_option maxHeartbeats 1000000 in
theorem v_si2_0 {Γ : Cx} {q r sz : Nat} {M : Nat → Option va_E} {K : Int32 → Wd → Prop} {v0 v1 v2 v3 v4 v5 x : Int32} {s : Tr} (hqr : q < r ∨ r + 2 ≤ q) (hb : rwR Γ M r 40 (nI s.1) s.2) (hs : s.1 ≤ 40) (hq : M q = some (.inr (0, [.int v0, .int v1, .int v2, .int v3, .int v4, .int v5]))) (k : ∀ M', rwR Γ M' r 40 (nI (b12 v2 x s).2.1) (b12 v2 x s).2.2 → (b12 v2 x s).2.1 ≤ 40 → Off r 2 M M' → K (b12 v2 x s).1 (M', sz)) : Spec Γ mX2_sinks 1 0 [.ref q, .int x, .ref r] (M, sz) (ci K) := by
  refine spec_in [some (.ref q), some (.int x), some (.ref r)] 0 (by decide) rfl rfl ?_
  refine ok_aload_n (pc := 0) dX2_sinks_0 rfl ?_
  refine ok_bipush (pc := 1) (v := 12) dX2_sinks_1 (by decide) ?_
  refine ok_callVi1 (pc := 3) (d' := 0) dX2_sinks_3 vl_X2_28 hb.1 rfl rfl rfl (by decide) ?_
  refine v_add hb hs (fun M b9 hb hs hO1 => ?_)
  have hq := (hO1 q hqr).trans hq
  refine ok_pop (pc := 6) dX2_sinks_6 rfl ?_
  refine ok_iload_n (pc := 7) dX2_sinks_7 rfl ?_
  refine ok_aload_n (pc := 8) dX2_sinks_8 rfl ?_
  refine ok_getf (pc := 9) dX2_sinks_9 fl_X2_16_0 hq rfl ?_
  refine ok_isub (pc := 12) dX2_sinks_12 ?_
  refine ok_iret (pc := 13) dX2_sinks_13 rfl ?_
  exact k _ hb hs hO1

set_option maxHeartbeats 1000000 in
theorem v_si2_9 {Γ : Cx} {q r sz : Nat} {M : Nat → Option va_E} {K : Int32 → Wd → Prop} {v0 v1 v2 v3 v4 v5 x : Int32} {s : Tr} (hqr : q < r ∨ r + 2 ≤ q) (hb : rwR Γ M r 40 (nI s.1) s.2) (hs : s.1 ≤ 40) (hq : M q = some (.inr (9, [.int v0, .int v1, .int v2, .int v3, .int v4, .int v5]))) (k : ∀ M', rwR Γ M' r 40 (nI (b12 v2 x s).2.1) (b12 v2 x s).2.2 → (b12 v2 x s).2.1 ≤ 40 → Off r 2 M M' → K (b12 v2 x s).1 (M', sz)) : Spec Γ mX2_sinks 1 0 [.ref q, .int x, .ref r] (M, sz) (ci K) := by
  refine spec_in [some (.ref q), some (.int x), some (.ref r)] 0 (by decide) rfl rfl ?_
  refine ok_aload_n (pc := 0) dX2_sinks_0 rfl ?_
  refine ok_bipush (pc := 1) (v := 12) dX2_sinks_1 (by decide) ?_
  refine ok_callVi1 (pc := 3) (d' := 0) dX2_sinks_3 vl_X2_28 hb.1 rfl rfl rfl (by decide) ?_
  refine v_add hb hs (fun M b9 hb hs hO1 => ?_)
  have hq := (hO1 q hqr).trans hq
  refine ok_pop (pc := 6) dX2_sinks_6 rfl ?_
  refine ok_iload_n (pc := 7) dX2_sinks_7 rfl ?_
  refine ok_aload_n (pc := 8) dX2_sinks_8 rfl ?_
  refine ok_getf (pc := 9) dX2_sinks_9 fl_X2_16_9 hq rfl ?_
  refine ok_isub (pc := 12) dX2_sinks_12 ?_
  refine ok_iret (pc := 13) dX2_sinks_13 rfl ?_
  exact k _ hb hs hO1

set_option maxHeartbeats 1000000 in
theorem v_si2_8 {Γ : Cx} {q r sz : Nat} {M : Nat → Option va_E} {K : Int32 → Wd → Prop} {v0 v1 v2 v3 v4 v5 x : Int32} {s : Tr} (hqr : q < r ∨ r + 2 ≤ q) (hb : rwR Γ M r 40 (nI s.1) s.2) (hs : s.1 ≤ 40) (hq : M q = some (.inr (8, [.int v0, .int v1, .int v2, .int v3, .int v4, .int v5]))) (k : ∀ M', rwR Γ M' r 40 (nI (b12 v2 x s).2.1) (b12 v2 x s).2.2 → (b12 v2 x s).2.1 ≤ 40 → Off r 2 M M' → K (b12 v2 x s).1 (M', sz)) : Spec Γ mX2_sinks 1 0 [.ref q, .int x, .ref r] (M, sz) (ci K) := by
  refine spec_in [some (.ref q), some (.int x), some (.ref r)] 0 (by decide) rfl rfl ?_
  refine ok_aload_n (pc := 0) dX2_sinks_0 rfl ?_
  refine ok_bipush (pc := 1) (v := 12) dX2_sinks_1 (by decide) ?_
  refine ok_callVi1 (pc := 3) (d' := 0) dX2_sinks_3 vl_X2_28 hb.1 rfl rfl rfl (by decide) ?_
  refine v_add hb hs (fun M b9 hb hs hO1 => ?_)
  have hq := (hO1 q hqr).trans hq
  refine ok_pop (pc := 6) dX2_sinks_6 rfl ?_
  refine ok_iload_n (pc := 7) dX2_sinks_7 rfl ?_
  refine ok_aload_n (pc := 8) dX2_sinks_8 rfl ?_
  refine ok_getf (pc := 9) dX2_sinks_9 fl_X2_16_8 hq rfl ?_
  refine ok_isub (pc := 12) dX2_sinks_12 ?_
  refine ok_iret (pc := 13) dX2_sinks_13 rfl ?_
  exact k _ hb hs hO1

set_option maxHeartbeats 1000000 in
theorem v_si2_1 {Γ : Cx} {q r sz : Nat} {M : Nat → Option va_E} {K : Int32 → Wd → Prop} {v0 v1 v2 v3 v4 v5 x : Int32} {s : Tr} (hqr : q < r ∨ r + 2 ≤ q) (hb : rwR Γ M r 40 (nI s.1) s.2) (hs : s.1 ≤ 40) (hq : M q = some (.inr (1, [.int v0, .int v1, .int v2, .int v3, .int v4, .int v5]))) (k : ∀ M', rwR Γ M' r 40 (nI (b12 v2 x s).2.1) (b12 v2 x s).2.2 → (b12 v2 x s).2.1 ≤ 40 → Off r 2 M M' → K (b12 v2 x s).1 (M', sz)) : Spec Γ mX2_sinks 1 0 [.ref q, .int x, .ref r] (M, sz) (ci K) := by
  refine spec_in [some (.ref q), some (.int x), some (.ref r)] 0 (by decide) rfl rfl ?_
  refine ok_aload_n (pc := 0) dX2_sinks_0 rfl ?_
  refine ok_bipush (pc := 1) (v := 12) dX2_sinks_1 (by decide) ?_
  refine ok_callVi1 (pc := 3) (d' := 0) dX2_sinks_3 vl_X2_28 hb.1 rfl rfl rfl (by decide) ?_
  refine v_add hb hs (fun M b9 hb hs hO1 => ?_)
  have hq := (hO1 q hqr).trans hq
  refine ok_pop (pc := 6) dX2_sinks_6 rfl ?_
  refine ok_iload_n (pc := 7) dX2_sinks_7 rfl ?_
  refine ok_aload_n (pc := 8) dX2_sinks_8 rfl ?_
  refine ok_getf (pc := 9) dX2_sinks_9 fl_X2_16_1 hq rfl ?_
  refine ok_isub (pc := 12) dX2_sinks_12 ?_
  refine ok_iret (pc := 13) dX2_sinks_13 rfl ?_
  exact k _ hb hs hO1

set_option maxHeartbeats 1000000 in
theorem v_si2_3 {Γ : Cx} {q r sz : Nat} {M : Nat → Option va_E} {K : Int32 → Wd → Prop} {v0 v1 v2 v3 v4 v5 x : Int32} {s : Tr} (hqr : q < r ∨ r + 2 ≤ q) (hb : rwR Γ M r 40 (nI s.1) s.2) (hs : s.1 ≤ 40) (hq : M q = some (.inr (3, [.int v0, .int v1, .int v2, .int v3, .int v4, .int v5]))) (k : ∀ M', rwR Γ M' r 40 (nI (b12 v2 x s).2.1) (b12 v2 x s).2.2 → (b12 v2 x s).2.1 ≤ 40 → Off r 2 M M' → K (b12 v2 x s).1 (M', sz)) : Spec Γ mX2_sinks 1 0 [.ref q, .int x, .ref r] (M, sz) (ci K) := by
  refine spec_in [some (.ref q), some (.int x), some (.ref r)] 0 (by decide) rfl rfl ?_
  refine ok_aload_n (pc := 0) dX2_sinks_0 rfl ?_
  refine ok_bipush (pc := 1) (v := 12) dX2_sinks_1 (by decide) ?_
  refine ok_callVi1 (pc := 3) (d' := 0) dX2_sinks_3 vl_X2_28 hb.1 rfl rfl rfl (by decide) ?_
  refine v_add hb hs (fun M b9 hb hs hO1 => ?_)
  have hq := (hO1 q hqr).trans hq
  refine ok_pop (pc := 6) dX2_sinks_6 rfl ?_
  refine ok_iload_n (pc := 7) dX2_sinks_7 rfl ?_
  refine ok_aload_n (pc := 8) dX2_sinks_8 rfl ?_
  refine ok_getf (pc := 9) dX2_sinks_9 fl_X2_16_3 hq rfl ?_
  refine ok_isub (pc := 12) dX2_sinks_12 ?_
  refine ok_iret (pc := 13) dX2_sinks_13 rfl ?_
  exact k _ hb hs hO1

set_option maxHeartbeats 1000000 in
theorem v_si2_4 {Γ : Cx} {q r sz : Nat} {M : Nat → Option va_E} {K : Int32 → Wd → Prop} {v0 v1 v2 v3 v4 v5 x : Int32} {s : Tr} (hqr : q < r ∨ r + 2 ≤ q) (hb : rwR Γ M r 40 (nI s.1) s.2) (hs : s.1 ≤ 40) (hq : M q = some (.inr (4, [.int v0, .int v1, .int v2, .int v3, .int v4, .int v5]))) (k : ∀ M', rwR Γ M' r 40 (nI (b12 v2 x s).2.1) (b12 v2 x s).2.2 → (b12 v2 x s).2.1 ≤ 40 → Off r 2 M M' → K (b12 v2 x s).1 (M', sz)) : Spec Γ mX2_sinks 1 0 [.ref q, .int x, .ref r] (M, sz) (ci K) := by
  refine spec_in [some (.ref q), some (.int x), some (.ref r)] 0 (by decide) rfl rfl ?_
  refine ok_aload_n (pc := 0) dX2_sinks_0 rfl ?_
  refine ok_bipush (pc := 1) (v := 12) dX2_sinks_1 (by decide) ?_
  refine ok_callVi1 (pc := 3) (d' := 0) dX2_sinks_3 vl_X2_28 hb.1 rfl rfl rfl (by decide) ?_
  refine v_add hb hs (fun M b9 hb hs hO1 => ?_)
  have hq := (hO1 q hqr).trans hq
  refine ok_pop (pc := 6) dX2_sinks_6 rfl ?_
  refine ok_iload_n (pc := 7) dX2_sinks_7 rfl ?_
  refine ok_aload_n (pc := 8) dX2_sinks_8 rfl ?_
  refine ok_getf (pc := 9) dX2_sinks_9 fl_X2_16_4 hq rfl ?_
  refine ok_isub (pc := 12) dX2_sinks_12 ?_
  refine ok_iret (pc := 13) dX2_sinks_13 rfl ?_
  exact k _ hb hs hO1

set_option maxHeartbeats 1000000 in
theorem v_si8_8 {Γ : Cx} {q r sz : Nat} {M : Nat → Option va_E} {K : Int32 → Wd → Prop} {v0 v1 v2 v3 v4 v5 x : Int32} {s : Tr} (hqr : q < r ∨ r + 2 ≤ q) (hb : rwR Γ M r 40 (nI s.1) s.2) (hs : s.1 ≤ 40) (hq : M q = some (.inr (8, [.int v0, .int v1, .int v2, .int v3, .int v4, .int v5]))) (k : ∀ M', rwR Γ M' r 40 (nI (b40 v2 x s).2.1) (b40 v2 x s).2.2 → (b40 v2 x s).2.1 ≤ 40 → Off r 2 M M' → K (b40 v2 x s).1 (M', sz)) : Spec Γ mX8_sinks 2 0 [.ref q, .int x, .ref r] (M, sz) (ci K) := by
  refine spec_in [some (.ref q), some (.int x), some (.ref r)] 0 (by decide) rfl rfl ?_
  refine ok_aload_n (pc := 0) dX8_sinks_0 rfl ?_
  refine ok_bipush (pc := 1) (v := 40) dX8_sinks_1 (by decide) ?_
  refine ok_callVi1 (pc := 3) (d' := 0) dX8_sinks_3 vl_X8_13 hb.1 rfl rfl rfl (by decide) ?_
  refine v_add hb hs (fun M b9 hb hs hO1 => ?_)
  have hq := (hO1 q hqr).trans hq
  refine ok_pop (pc := 6) dX8_sinks_6 rfl ?_
  refine ok_aload_n (pc := 7) dX8_sinks_7 rfl ?_
  refine ok_iload_n (pc := 8) dX8_sinks_8 rfl ?_
  refine ok_aload_n (pc := 9) dX8_sinks_9 rfl ?_
  refine ok_callSUi2 (pc := 10) (d' := 1) dX8_sinks_10 sul_X8_19 hq rfl rfl (by decide) ?_
  refine v_si2_8 hqr hb hs hq (fun M hb hs hO2 => ?_)
  have hO1 := hO1.trans hO2
  have hq := (hO2 q hqr).trans hq
  refine ok_ineg (pc := 13) dX8_sinks_13 ?_
  refine ok_iret (pc := 14) dX8_sinks_14 rfl ?_
  exact k _ hb hs hO1

set_option maxHeartbeats 1000000 in
theorem v_si8_4 {Γ : Cx} {q r sz : Nat} {M : Nat → Option va_E} {K : Int32 → Wd → Prop} {v0 v1 v2 v3 v4 v5 x : Int32} {s : Tr} (hqr : q < r ∨ r + 2 ≤ q) (hb : rwR Γ M r 40 (nI s.1) s.2) (hs : s.1 ≤ 40) (hq : M q = some (.inr (4, [.int v0, .int v1, .int v2, .int v3, .int v4, .int v5]))) (k : ∀ M', rwR Γ M' r 40 (nI (b40 v2 x s).2.1) (b40 v2 x s).2.2 → (b40 v2 x s).2.1 ≤ 40 → Off r 2 M M' → K (b40 v2 x s).1 (M', sz)) : Spec Γ mX8_sinks 2 0 [.ref q, .int x, .ref r] (M, sz) (ci K) := by
  refine spec_in [some (.ref q), some (.int x), some (.ref r)] 0 (by decide) rfl rfl ?_
  refine ok_aload_n (pc := 0) dX8_sinks_0 rfl ?_
  refine ok_bipush (pc := 1) (v := 40) dX8_sinks_1 (by decide) ?_
  refine ok_callVi1 (pc := 3) (d' := 0) dX8_sinks_3 vl_X8_13 hb.1 rfl rfl rfl (by decide) ?_
  refine v_add hb hs (fun M b9 hb hs hO1 => ?_)
  have hq := (hO1 q hqr).trans hq
  refine ok_pop (pc := 6) dX8_sinks_6 rfl ?_
  refine ok_aload_n (pc := 7) dX8_sinks_7 rfl ?_
  refine ok_iload_n (pc := 8) dX8_sinks_8 rfl ?_
  refine ok_aload_n (pc := 9) dX8_sinks_9 rfl ?_
  refine ok_callSUi2 (pc := 10) (d' := 1) dX8_sinks_10 sul_X8_19 hq rfl rfl (by decide) ?_
  refine v_si2_4 hqr hb hs hq (fun M hb hs hO2 => ?_)
  have hO1 := hO1.trans hO2
  have hq := (hO2 q hqr).trans hq
  refine ok_ineg (pc := 13) dX8_sinks_13 ?_
  refine ok_iret (pc := 14) dX8_sinks_14 rfl ?_
  exact k _ hb hs hO1

set_option maxHeartbeats 1000000 in
theorem v_si4_4 {Γ : Cx} {q r sz : Nat} {M : Nat → Option va_E} {K : Int32 → Wd → Prop} {v0 v1 v2 v3 v4 v5 x : Int32} {s : Tr} (hqr : q < r ∨ r + 2 ≤ q) (hb : rwR Γ M r 40 (nI s.1) s.2) (hs : s.1 ≤ 40) (hq : M q = some (.inr (4, [.int v0, .int v1, .int v2, .int v3, .int v4, .int v5]))) (k : ∀ M', rwR Γ M' r 40 (nI (b70 v0 v2 x s).2.1) (b70 v0 v2 x s).2.2 → (b70 v0 v2 x s).2.1 ≤ 40 → Off r 2 M M' → K (b70 v0 v2 x s).1 (M', sz)) : Spec Γ mX4_sinks 3 0 [.ref q, .int x, .ref r] (M, sz) (ci K) := by
  refine spec_in [some (.ref q), some (.int x), some (.ref r)] 0 (by decide) rfl rfl ?_
  refine ok_aload_n (pc := 0) dX4_sinks_0 rfl ?_
  refine ok_bipush (pc := 1) (v := 70) dX4_sinks_1 (by decide) ?_
  refine ok_callVi1 (pc := 3) (d' := 0) dX4_sinks_3 vl_X4_11 hb.1 rfl rfl rfl (by decide) ?_
  refine v_add hb hs (fun M b9 hb hs hO1 => ?_)
  have hq := (hO1 q hqr).trans hq
  refine ok_pop (pc := 6) dX4_sinks_6 rfl ?_
  refine ok_aload_n (pc := 7) dX4_sinks_7 rfl ?_
  refine ok_iload_n (pc := 8) dX4_sinks_8 rfl ?_
  refine ok_aload_n (pc := 9) dX4_sinks_9 rfl ?_
  refine ok_callSUi2 (pc := 10) (d' := 2) dX4_sinks_10 sul_X4_17 hq rfl rfl (by decide) ?_
  refine v_si8_4 hqr hb hs hq (fun M hb hs hO2 => ?_)
  have hO1 := hO1.trans hO2
  have hq := (hO2 q hqr).trans hq
  refine ok_aload_n (pc := 13) dX4_sinks_13 rfl ?_
  refine ok_getfS (pc := 14) dX4_sinks_14 fs_X4_21_4 hq rfl ?_
  refine ok_ixor (pc := 17) dX4_sinks_17 ?_
  refine ok_iret (pc := 18) dX4_sinks_18 rfl ?_
  exact k _ hb hs hO1

theorem w_si_2 {Γ : Cx} {q r sz : Nat} {M : Nat → Option va_E} {K : Int32 → Wd → Prop} {v0 v1 v2 v3 v4 v5 x : Int32} {s : Tr} (hqr : q < r ∨ r + 2 ≤ q) (hb : rwR Γ M r 40 (nI s.1) s.2) (hs : s.1 ≤ 40) (hq : M q = some (.inr (2, [.int v0, .int v1, .int v2, .int v3, .int v4, .int v5]))) (k : ∀ M', rwR Γ M' r 40 (nI (vSi 0 v0 v2 x s).2.1) (vSi 0 v0 v2 x s).2.2 → (vSi 0 v0 v2 x s).2.1 ≤ 40 → Off r 2 M M' → K (vSi 0 v0 v2 x s).1 (M', sz)) : Spec Γ mX2_sinks 1 0 [.ref q, .int x, .ref r] (M, sz) (ci K) := by
  have e9 : vSi 0 v0 v2 x s = b12 v2 x s := (if_neg (by decide)).trans (if_neg (by decide))
  rw [e9] at k
  exact v_si2_2 hqr hb hs hq k

theorem w_si_0 {Γ : Cx} {q r sz : Nat} {M : Nat → Option va_E} {K : Int32 → Wd → Prop} {v0 v1 v2 v3 v4 v5 x : Int32} {s : Tr} (hqr : q < r ∨ r + 2 ≤ q) (hb : rwR Γ M r 40 (nI s.1) s.2) (hs : s.1 ≤ 40) (hq : M q = some (.inr (0, [.int v0, .int v1, .int v2, .int v3, .int v4, .int v5]))) (k : ∀ M', rwR Γ M' r 40 (nI (vSi 1 v0 v2 x s).2.1) (vSi 1 v0 v2 x s).2.2 → (vSi 1 v0 v2 x s).2.1 ≤ 40 → Off r 2 M M' → K (vSi 1 v0 v2 x s).1 (M', sz)) : Spec Γ mX2_sinks 1 0 [.ref q, .int x, .ref r] (M, sz) (ci K) := by
  have e9 : vSi 1 v0 v2 x s = b12 v2 x s := (if_neg (by decide)).trans (if_neg (by decide))
  rw [e9] at k
  exact v_si2_0 hqr hb hs hq k

theorem w_si_9 {Γ : Cx} {q r sz : Nat} {M : Nat → Option va_E} {K : Int32 → Wd → Prop} {v0 v1 v2 v3 v4 v5 x : Int32} {s : Tr} (hqr : q < r ∨ r + 2 ≤ q) (hb : rwR Γ M r 40 (nI s.1) s.2) (hs : s.1 ≤ 40) (hq : M q = some (.inr (9, [.int v0, .int v1, .int v2, .int v3, .int v4, .int v5]))) (k : ∀ M', rwR Γ M' r 40 (nI (vSi 2 v0 v2 x s).2.1) (vSi 2 v0 v2 x s).2.2 → (vSi 2 v0 v2 x s).2.1 ≤ 40 → Off r 2 M M' → K (vSi 2 v0 v2 x s).1 (M', sz)) : Spec Γ mX2_sinks 1 0 [.ref q, .int x, .ref r] (M, sz) (ci K) := by
  have e9 : vSi 2 v0 v2 x s = b12 v2 x s := (if_neg (by decide)).trans (if_neg (by decide))
  rw [e9] at k
  exact v_si2_9 hqr hb hs hq k

theorem w_si_8 {Γ : Cx} {q r sz : Nat} {M : Nat → Option va_E} {K : Int32 → Wd → Prop} {v0 v1 v2 v3 v4 v5 x : Int32} {s : Tr} (hqr : q < r ∨ r + 2 ≤ q) (hb : rwR Γ M r 40 (nI s.1) s.2) (hs : s.1 ≤ 40) (hq : M q = some (.inr (8, [.int v0, .int v1, .int v2, .int v3, .int v4, .int v5]))) (k : ∀ M', rwR Γ M' r 40 (nI (vSi 3 v0 v2 x s).2.1) (vSi 3 v0 v2 x s).2.2 → (vSi 3 v0 v2 x s).2.1 ≤ 40 → Off r 2 M M' → K (vSi 3 v0 v2 x s).1 (M', sz)) : Spec Γ mX8_sinks 2 0 [.ref q, .int x, .ref r] (M, sz) (ci K) := by
  have e9 : vSi 3 v0 v2 x s = b40 v2 x s := if_pos (by decide)
  rw [e9] at k
  exact v_si8_8 hqr hb hs hq k

theorem w_si_1 {Γ : Cx} {q r sz : Nat} {M : Nat → Option va_E} {K : Int32 → Wd → Prop} {v0 v1 v2 v3 v4 v5 x : Int32} {s : Tr} (hqr : q < r ∨ r + 2 ≤ q) (hb : rwR Γ M r 40 (nI s.1) s.2) (hs : s.1 ≤ 40) (hq : M q = some (.inr (1, [.int v0, .int v1, .int v2, .int v3, .int v4, .int v5]))) (k : ∀ M', rwR Γ M' r 40 (nI (vSi 4 v0 v2 x s).2.1) (vSi 4 v0 v2 x s).2.2 → (vSi 4 v0 v2 x s).2.1 ≤ 40 → Off r 2 M M' → K (vSi 4 v0 v2 x s).1 (M', sz)) : Spec Γ mX2_sinks 1 0 [.ref q, .int x, .ref r] (M, sz) (ci K) := by
  have e9 : vSi 4 v0 v2 x s = b12 v2 x s := (if_neg (by decide)).trans (if_neg (by decide))
  rw [e9] at k
  exact v_si2_1 hqr hb hs hq k

theorem w_si_3 {Γ : Cx} {q r sz : Nat} {M : Nat → Option va_E} {K : Int32 → Wd → Prop} {v0 v1 v2 v3 v4 v5 x : Int32} {s : Tr} (hqr : q < r ∨ r + 2 ≤ q) (hb : rwR Γ M r 40 (nI s.1) s.2) (hs : s.1 ≤ 40) (hq : M q = some (.inr (3, [.int v0, .int v1, .int v2, .int v3, .int v4, .int v5]))) (k : ∀ M', rwR Γ M' r 40 (nI (vSi 5 v0 v2 x s).2.1) (vSi 5 v0 v2 x s).2.2 → (vSi 5 v0 v2 x s).2.1 ≤ 40 → Off r 2 M M' → K (vSi 5 v0 v2 x s).1 (M', sz)) : Spec Γ mX2_sinks 1 0 [.ref q, .int x, .ref r] (M, sz) (ci K) := by
  have e9 : vSi 5 v0 v2 x s = b12 v2 x s := (if_neg (by decide)).trans (if_neg (by decide))
  rw [e9] at k
  exact v_si2_3 hqr hb hs hq k

theorem w_si_4 {Γ : Cx} {q r sz : Nat} {M : Nat → Option va_E} {K : Int32 → Wd → Prop} {v0 v1 v2 v3 v4 v5 x : Int32} {s : Tr} (hqr : q < r ∨ r + 2 ≤ q) (hb : rwR Γ M r 40 (nI s.1) s.2) (hs : s.1 ≤ 40) (hq : M q = some (.inr (4, [.int v0, .int v1, .int v2, .int v3, .int v4, .int v5]))) (k : ∀ M', rwR Γ M' r 40 (nI (vSi 6 v0 v2 x s).2.1) (vSi 6 v0 v2 x s).2.2 → (vSi 6 v0 v2 x s).2.1 ≤ 40 → Off r 2 M M' → K (vSi 6 v0 v2 x s).1 (M', sz)) : Spec Γ mX4_sinks 3 0 [.ref q, .int x, .ref r] (M, sz) (ci K) := by
  have e9 : vSi 6 v0 v2 x s = b70 v0 v2 x s := (if_neg (by decide)).trans (if_pos (by decide))
  rw [e9] at k
  exact v_si4_4 hqr hb hs hq k

theorem ql_X2_34_2 : QLink RX2 34 RX2 mX2_lifts mX2_lifts 2 := ⟨ml_X2_lifts, ⟨"KitePost$Kite", "lifts", "(ILKitePost$Row;)I"⟩, tw_973, tw_1001, tw_962, tw_960, tw_961, tw_960, rfl, by decide +kernel⟩
set_option maxHeartbeats 1000000 in
theorem v_sw2_2 {Γ : Cx} {q r sz : Nat} {M : Nat → Option va_E} {K : Int32 → Wd → Prop} {v0 v1 v2 v3 v4 v5 x : Int32} {s : Tr} (hqr : q < r ∨ r + 2 ≤ q) (hb : rwR Γ M r 40 (nI s.1) s.2) (hs : s.1 ≤ 40) (hq : M q = some (.inr (2, [.int v0, .int v1, .int v2, .int v3, .int v4, .int v5]))) (k : ∀ M', rwR Γ M' r 40 (nI (b11 0 v0 x s).2.1) (b11 0 v0 x s).2.2 → (b11 0 v0 x s).2.1 ≤ 40 → Off r 2 M M' → K (b11 0 v0 x s).1 (M', sz)) : Spec Γ mX2_sways 3 0 [.ref q, .int x, .ref r] (M, sz) (ci K) := by
  refine spec_in [some (.ref q), some (.int x), some (.ref r)] 0 (by decide) rfl rfl ?_
  refine ok_aload_n (pc := 0) dX2_sways_0 rfl ?_
  refine ok_bipush (pc := 1) (v := 11) dX2_sways_1 (by decide) ?_
  refine ok_callVi1 (pc := 3) (d' := 0) dX2_sways_3 vl_X2_28 hb.1 rfl rfl rfl (by decide) ?_
  refine v_add hb hs (fun M b9 hb hs hO1 => ?_)
  have hq := (hO1 q hqr).trans hq
  refine ok_pop (pc := 6) dX2_sways_6 rfl ?_
  refine ok_aload_n (pc := 7) dX2_sways_7 rfl ?_
  refine ok_iload_n (pc := 8) dX2_sways_8 rfl ?_
  refine ok_aload_n (pc := 9) dX2_sways_9 rfl ?_
  refine ok_callQi2 (pc := 10) (r := (RX2, TX2, 6)) (d' := 1) dX2_sways_10 ql_X2_34_2 hq rfl rfl (by decide) ?_
  refine w_li_2 hqr hb hs hq (fun M hb hs hO2 => ?_)
  have hO1 := hO1.trans hO2
  have hq := (hO2 q hqr).trans hq
  refine ok_iconst (pc := 13) (v := 2) dX2_sways_13 (by decide) ?_
  refine ok_imul (pc := 14) dX2_sways_14 ?_
  refine ok_iret (pc := 15) dX2_sways_15 rfl ?_
  exact k _ hb hs hO1

theorem ql_X2_34_0 : QLink RX2 34 RX0 mX2_lifts mX2_lifts 2 := ⟨ml_X2_lifts, ⟨"KitePost$Kite", "lifts", "(ILKitePost$Row;)I"⟩, tw_973, tw_1001, tw_962, tw_960, tw_963, tw_960, rfl, by decide +kernel⟩
set_option maxHeartbeats 1000000 in
theorem v_sw2_0 {Γ : Cx} {q r sz : Nat} {M : Nat → Option va_E} {K : Int32 → Wd → Prop} {v0 v1 v2 v3 v4 v5 x : Int32} {s : Tr} (hqr : q < r ∨ r + 2 ≤ q) (hb : rwR Γ M r 40 (nI s.1) s.2) (hs : s.1 ≤ 40) (hq : M q = some (.inr (0, [.int v0, .int v1, .int v2, .int v3, .int v4, .int v5]))) (k : ∀ M', rwR Γ M' r 40 (nI (b11 1 v0 x s).2.1) (b11 1 v0 x s).2.2 → (b11 1 v0 x s).2.1 ≤ 40 → Off r 2 M M' → K (b11 1 v0 x s).1 (M', sz)) : Spec Γ mX2_sways 3 0 [.ref q, .int x, .ref r] (M, sz) (ci K) := by
  refine spec_in [some (.ref q), some (.int x), some (.ref r)] 0 (by decide) rfl rfl ?_
  refine ok_aload_n (pc := 0) dX2_sways_0 rfl ?_
  refine ok_bipush (pc := 1) (v := 11) dX2_sways_1 (by decide) ?_
  refine ok_callVi1 (pc := 3) (d' := 0) dX2_sways_3 vl_X2_28 hb.1 rfl rfl rfl (by decide) ?_
  refine v_add hb hs (fun M b9 hb hs hO1 => ?_)
  have hq := (hO1 q hqr).trans hq
  refine ok_pop (pc := 6) dX2_sways_6 rfl ?_
  refine ok_aload_n (pc := 7) dX2_sways_7 rfl ?_
  refine ok_iload_n (pc := 8) dX2_sways_8 rfl ?_
  refine ok_aload_n (pc := 9) dX2_sways_9 rfl ?_
  refine ok_callQi2 (pc := 10) (r := (RX0, TX0, 6)) (d' := 1) dX2_sways_10 ql_X2_34_0 hq rfl rfl (by decide) ?_
  refine w_li_0 hqr hb hs hq (fun M hb hs hO2 => ?_)
  have hO1 := hO1.trans hO2
  have hq := (hO2 q hqr).trans hq
  refine ok_iconst (pc := 13) (v := 2) dX2_sways_13 (by decide) ?_
  refine ok_imul (pc := 14) dX2_sways_14 ?_
  refine ok_iret (pc := 15) dX2_sways_15 rfl ?_
  exact k _ hb hs hO1

set_option maxHeartbeats 1000000 in
theorem v_sw2_9 {Γ : Cx} {q r sz : Nat} {M : Nat → Option va_E} {K : Int32 → Wd → Prop} {v0 v1 v2 v3 v4 v5 x : Int32} {s : Tr} (hqr : q < r ∨ r + 2 ≤ q) (hb : rwR Γ M r 40 (nI s.1) s.2) (hs : s.1 ≤ 40) (hq : M q = some (.inr (9, [.int v0, .int v1, .int v2, .int v3, .int v4, .int v5]))) (k : ∀ M', rwR Γ M' r 40 (nI (b11 2 v0 x s).2.1) (b11 2 v0 x s).2.2 → (b11 2 v0 x s).2.1 ≤ 40 → Off r 2 M M' → K (b11 2 v0 x s).1 (M', sz)) : Spec Γ mX2_sways 3 0 [.ref q, .int x, .ref r] (M, sz) (ci K) := by
  refine spec_in [some (.ref q), some (.int x), some (.ref r)] 0 (by decide) rfl rfl ?_
  refine ok_aload_n (pc := 0) dX2_sways_0 rfl ?_
  refine ok_bipush (pc := 1) (v := 11) dX2_sways_1 (by decide) ?_
  refine ok_callVi1 (pc := 3) (d' := 0) dX2_sways_3 vl_X2_28 hb.1 rfl rfl rfl (by decide) ?_
  refine v_add hb hs (fun M b9 hb hs hO1 => ?_)
  have hq := (hO1 q hqr).trans hq
  refine ok_pop (pc := 6) dX2_sways_6 rfl ?_
  refine ok_aload_n (pc := 7) dX2_sways_7 rfl ?_
  refine ok_iload_n (pc := 8) dX2_sways_8 rfl ?_
  refine ok_aload_n (pc := 9) dX2_sways_9 rfl ?_
  refine ok_callQi2 (pc := 10) (r := (RX9, TX9, 6)) (d' := 2) dX2_sways_10 ql_X2_34_9 hq rfl rfl (by decide) ?_
  refine w_li_9 hqr hb hs hq (fun M hb hs hO2 => ?_)
  have hO1 := hO1.trans hO2
  have hq := (hO2 q hqr).trans hq
  refine ok_iconst (pc := 13) (v := 2) dX2_sways_13 (by decide) ?_
  refine ok_imul (pc := 14) dX2_sways_14 ?_
  refine ok_iret (pc := 15) dX2_sways_15 rfl ?_
  exact k _ hb hs hO1

theorem ql_X2_34_8 : QLink RX2 34 RX8 mX2_lifts mX2_lifts 2 := ⟨ml_X2_lifts, ⟨"KitePost$Kite", "lifts", "(ILKitePost$Row;)I"⟩, tw_973, tw_1001, tw_962, tw_960, tw_971, tw_960, rfl, by decide +kernel⟩
set_option maxHeartbeats 1000000 in
theorem v_sw2_8 {Γ : Cx} {q r sz : Nat} {M : Nat → Option va_E} {K : Int32 → Wd → Prop} {v0 v1 v2 v3 v4 v5 x : Int32} {s : Tr} (hqr : q < r ∨ r + 2 ≤ q) (hb : rwR Γ M r 40 (nI s.1) s.2) (hs : s.1 ≤ 40) (hq : M q = some (.inr (8, [.int v0, .int v1, .int v2, .int v3, .int v4, .int v5]))) (k : ∀ M', rwR Γ M' r 40 (nI (b11 3 v0 x s).2.1) (b11 3 v0 x s).2.2 → (b11 3 v0 x s).2.1 ≤ 40 → Off r 2 M M' → K (b11 3 v0 x s).1 (M', sz)) : Spec Γ mX2_sways 3 0 [.ref q, .int x, .ref r] (M, sz) (ci K) := by
  refine spec_in [some (.ref q), some (.int x), some (.ref r)] 0 (by decide) rfl rfl ?_
  refine ok_aload_n (pc := 0) dX2_sways_0 rfl ?_
  refine ok_bipush (pc := 1) (v := 11) dX2_sways_1 (by decide) ?_
  refine ok_callVi1 (pc := 3) (d' := 0) dX2_sways_3 vl_X2_28 hb.1 rfl rfl rfl (by decide) ?_
  refine v_add hb hs (fun M b9 hb hs hO1 => ?_)
  have hq := (hO1 q hqr).trans hq
  refine ok_pop (pc := 6) dX2_sways_6 rfl ?_
  refine ok_aload_n (pc := 7) dX2_sways_7 rfl ?_
  refine ok_iload_n (pc := 8) dX2_sways_8 rfl ?_
  refine ok_aload_n (pc := 9) dX2_sways_9 rfl ?_
  refine ok_callQi2 (pc := 10) (r := (RX8, TX8, 6)) (d' := 1) dX2_sways_10 ql_X2_34_8 hq rfl rfl (by decide) ?_
  refine w_li_8 hqr hb hs hq (fun M hb hs hO2 => ?_)
  have hO1 := hO1.trans hO2
  have hq := (hO2 q hqr).trans hq
  refine ok_iconst (pc := 13) (v := 2) dX2_sways_13 (by decide) ?_
  refine ok_imul (pc := 14) dX2_sways_14 ?_
  refine ok_iret (pc := 15) dX2_sways_15 rfl ?_
  exact k _ hb hs hO1

theorem ql_X2_34_1 : QLink RX2 34 RX1 mX2_lifts mX2_lifts 2 := ⟨ml_X2_lifts, ⟨"KitePost$Kite", "lifts", "(ILKitePost$Row;)I"⟩, tw_973, tw_1001, tw_962, tw_960, tw_964, tw_960, rfl, by decide +kernel⟩
set_option maxHeartbeats 1000000 in
theorem v_sw2_1 {Γ : Cx} {q r sz : Nat} {M : Nat → Option va_E} {K : Int32 → Wd → Prop} {v0 v1 v2 v3 v4 v5 x : Int32} {s : Tr} (hqr : q < r ∨ r + 2 ≤ q) (hb : rwR Γ M r 40 (nI s.1) s.2) (hs : s.1 ≤ 40) (hq : M q = some (.inr (1, [.int v0, .int v1, .int v2, .int v3, .int v4, .int v5]))) (k : ∀ M', rwR Γ M' r 40 (nI (b11 4 v0 x s).2.1) (b11 4 v0 x s).2.2 → (b11 4 v0 x s).2.1 ≤ 40 → Off r 2 M M' → K (b11 4 v0 x s).1 (M', sz)) : Spec Γ mX2_sways 3 0 [.ref q, .int x, .ref r] (M, sz) (ci K) := by
  refine spec_in [some (.ref q), some (.int x), some (.ref r)] 0 (by decide) rfl rfl ?_
  refine ok_aload_n (pc := 0) dX2_sways_0 rfl ?_
  refine ok_bipush (pc := 1) (v := 11) dX2_sways_1 (by decide) ?_
  refine ok_callVi1 (pc := 3) (d' := 0) dX2_sways_3 vl_X2_28 hb.1 rfl rfl rfl (by decide) ?_
  refine v_add hb hs (fun M b9 hb hs hO1 => ?_)
  have hq := (hO1 q hqr).trans hq
  refine ok_pop (pc := 6) dX2_sways_6 rfl ?_
  refine ok_aload_n (pc := 7) dX2_sways_7 rfl ?_
  refine ok_iload_n (pc := 8) dX2_sways_8 rfl ?_
  refine ok_aload_n (pc := 9) dX2_sways_9 rfl ?_
  refine ok_callQi2 (pc := 10) (r := (RX1, TX1, 6)) (d' := 1) dX2_sways_10 ql_X2_34_1 hq rfl rfl (by decide) ?_
  refine w_li_1 hqr hb hs hq (fun M hb hs hO2 => ?_)
  have hO1 := hO1.trans hO2
  have hq := (hO2 q hqr).trans hq
  refine ok_iconst (pc := 13) (v := 2) dX2_sways_13 (by decide) ?_
  refine ok_imul (pc := 14) dX2_sways_14 ?_
  refine ok_iret (pc := 15) dX2_sways_15 rfl ?_
  exact k _ hb hs hO1

set_option maxHeartbeats 1000000 in
theorem v_sw2_3 {Γ : Cx} {q r sz : Nat} {M : Nat → Option va_E} {K : Int32 → Wd → Prop} {v0 v1 v2 v3 v4 v5 x : Int32} {s : Tr} (hqr : q < r ∨ r + 2 ≤ q) (hb : rwR Γ M r 40 (nI s.1) s.2) (hs : s.1 ≤ 40) (hq : M q = some (.inr (3, [.int v0, .int v1, .int v2, .int v3, .int v4, .int v5]))) (k : ∀ M', rwR Γ M' r 40 (nI (b11 5 v0 x s).2.1) (b11 5 v0 x s).2.2 → (b11 5 v0 x s).2.1 ≤ 40 → Off r 2 M M' → K (b11 5 v0 x s).1 (M', sz)) : Spec Γ mX2_sways 3 0 [.ref q, .int x, .ref r] (M, sz) (ci K) := by
  refine spec_in [some (.ref q), some (.int x), some (.ref r)] 0 (by decide) rfl rfl ?_
  refine ok_aload_n (pc := 0) dX2_sways_0 rfl ?_
  refine ok_bipush (pc := 1) (v := 11) dX2_sways_1 (by decide) ?_
  refine ok_callVi1 (pc := 3) (d' := 0) dX2_sways_3 vl_X2_28 hb.1 rfl rfl rfl (by decide) ?_
  refine v_add hb hs (fun M b9 hb hs hO1 => ?_)
  have hq := (hO1 q hqr).trans hq
  refine ok_pop (pc := 6) dX2_sways_6 rfl ?_
  refine ok_aload_n (pc := 7) dX2_sways_7 rfl ?_
  refine ok_iload_n (pc := 8) dX2_sways_8 rfl ?_
  refine ok_aload_n (pc := 9) dX2_sways_9 rfl ?_
  refine ok_callQi2 (pc := 10) (r := (RX3, TX3, 6)) (d' := 2) dX2_sways_10 ql_X2_34_3 hq rfl rfl (by decide) ?_
  refine w_li_3 hqr hb hs hq (fun M hb hs hO2 => ?_)
  have hO1 := hO1.trans hO2
  have hq := (hO2 q hqr).trans hq
  refine ok_iconst (pc := 13) (v := 2) dX2_sways_13 (by decide) ?_
  refine ok_imul (pc := 14) dX2_sways_14 ?_
  refine ok_iret (pc := 15) dX2_sways_15 rfl ?_
  exact k _ hb hs hO1

theorem ql_X2_34_4 : QLink RX2 34 RX4 mX2_lifts mX2_lifts 2 := ⟨ml_X2_lifts, ⟨"KitePost$Kite", "lifts", "(ILKitePost$Row;)I"⟩, tw_973, tw_1001, tw_962, tw_960, tw_970, tw_960, rfl, by decide +kernel⟩
set_option maxHeartbeats 1000000 in
theorem v_sw2_4 {Γ : Cx} {q r sz : Nat} {M : Nat → Option va_E} {K : Int32 → Wd → Prop} {v0 v1 v2 v3 v4 v5 x : Int32} {s : Tr} (hqr : q < r ∨ r + 2 ≤ q) (hb : rwR Γ M r 40 (nI s.1) s.2) (hs : s.1 ≤ 40) (hq : M q = some (.inr (4, [.int v0, .int v1, .int v2, .int v3, .int v4, .int v5]))) (k : ∀ M', rwR Γ M' r 40 (nI (b11 6 v0 x s).2.1) (b11 6 v0 x s).2.2 → (b11 6 v0 x s).2.1 ≤ 40 → Off r 2 M M' → K (b11 6 v0 x s).1 (M', sz)) : Spec Γ mX2_sways 3 0 [.ref q, .int x, .ref r] (M, sz) (ci K) := by
  refine spec_in [some (.ref q), some (.int x), some (.ref r)] 0 (by decide) rfl rfl ?_
  refine ok_aload_n (pc := 0) dX2_sways_0 rfl ?_
  refine ok_bipush (pc := 1) (v := 11) dX2_sways_1 (by decide) ?_
  refine ok_callVi1 (pc := 3) (d' := 0) dX2_sways_3 vl_X2_28 hb.1 rfl rfl rfl (by decide) ?_
  refine v_add hb hs (fun M b9 hb hs hO1 => ?_)
  have hq := (hO1 q hqr).trans hq
  refine ok_pop (pc := 6) dX2_sways_6 rfl ?_
  refine ok_aload_n (pc := 7) dX2_sways_7 rfl ?_
  refine ok_iload_n (pc := 8) dX2_sways_8 rfl ?_
  refine ok_aload_n (pc := 9) dX2_sways_9 rfl ?_
  refine ok_callQi2 (pc := 10) (r := (RX4, TX4, 6)) (d' := 1) dX2_sways_10 ql_X2_34_4 hq rfl rfl (by decide) ?_
  refine w_li_4 hqr hb hs hq (fun M hb hs hO2 => ?_)
  have hO1 := hO1.trans hO2
  have hq := (hO2 q hqr).trans hq
  refine ok_iconst (pc := 13) (v := 2) dX2_sways_13 (by decide) ?_
  refine ok_imul (pc := 14) dX2_sways_14 ?_
  refine ok_iret (pc := 15) dX2_sways_15 rfl ?_
  exact k _ hb hs hO1

theorem ql_X0_17_0 : QLink RX0 17 RX0 mX2_sinks mX2_sinks 2 := ⟨ml_X2_sinks, ⟨"KitePost$Boxed", "sinks", "(ILKitePost$Row;)I"⟩, tw_990, tw_984, tw_985, tw_989, tw_987, tw_989, rfl, by decide +kernel⟩
set_option maxHeartbeats 1000000 in
theorem v_sw0_0 {Γ : Cx} {q r sz : Nat} {M : Nat → Option va_E} {K : Int32 → Wd → Prop} {v0 v1 v2 v3 v4 v5 x : Int32} {s : Tr} (hqr : q < r ∨ r + 2 ≤ q) (hb : rwR Γ M r 40 (nI s.1) s.2) (hs : s.1 ≤ 40) (hq : M q = some (.inr (0, [.int v0, .int v1, .int v2, .int v3, .int v4, .int v5]))) (k : ∀ M', rwR Γ M' r 40 (nI (b20 1 v0 v2 x s).2.1) (b20 1 v0 v2 x s).2.2 → (b20 1 v0 v2 x s).2.1 ≤ 40 → Off r 2 M M' → K (b20 1 v0 v2 x s).1 (M', sz)) : Spec Γ mX0_sways 4 0 [.ref q, .int x, .ref r] (M, sz) (ci K) := by
  refine spec_in [some (.ref q), some (.int x), some (.ref r)] 0 (by decide) rfl rfl ?_
  refine ok_aload_n (pc := 0) dX0_sways_0 rfl ?_
  refine ok_bipush (pc := 1) (v := 20) dX0_sways_1 (by decide) ?_
  refine ok_callVi1 (pc := 3) (d' := 0) dX0_sways_3 vl_X0_7 hb.1 rfl rfl rfl (by decide) ?_
  refine v_add hb hs (fun M b9 hb hs hO1 => ?_)
  have hq := (hO1 q hqr).trans hq
  refine ok_pop (pc := 6) dX0_sways_6 rfl ?_
  refine ok_aload_n (pc := 7) dX0_sways_7 rfl ?_
  refine ok_iload_n (pc := 8) dX0_sways_8 rfl ?_
  refine ok_aload_n (pc := 9) dX0_sways_9 rfl ?_
  refine ok_callSUi2 (pc := 10) (d' := 3) dX0_sways_10 sul_X0_13 hq rfl rfl (by decide) ?_
  refine v_sw2_0 hqr hb hs hq (fun M hb hs hO2 => ?_)
  have hO1 := hO1.trans hO2
  have hq := (hO2 q hqr).trans hq
  refine ok_aload_n (pc := 13) dX0_sways_13 rfl ?_
  refine ok_iconst (pc := 14) (v := 1) dX0_sways_14 (by decide) ?_
  refine ok_aload_n (pc := 15) dX0_sways_15 rfl ?_
  refine ok_callQi2 (pc := 16) (r := (RX0, TX0, 6)) (d' := 1) dX0_sways_16 ql_X0_17_0 hq rfl rfl (by decide) ?_
  refine w_si_0 hqr hb hs hq (fun M hb hs hO2 => ?_)
  have hO1 := hO1.trans hO2
  have hq := (hO2 q hqr).trans hq
  refine ok_isub (pc := 19) dX0_sways_19 ?_
  refine ok_iret (pc := 20) dX0_sways_20 rfl ?_
  exact k _ hb hs hO1

theorem ql_X0_17_1 : QLink RX0 17 RX1 mX2_sinks mX2_sinks 2 := ⟨ml_X2_sinks, ⟨"KitePost$Boxed", "sinks", "(ILKitePost$Row;)I"⟩, tw_990, tw_984, tw_985, tw_989, tw_988, tw_989, rfl, by decide +kernel⟩
set_option maxHeartbeats 1000000 in
theorem v_sw0_1 {Γ : Cx} {q r sz : Nat} {M : Nat → Option va_E} {K : Int32 → Wd → Prop} {v0 v1 v2 v3 v4 v5 x : Int32} {s : Tr} (hqr : q < r ∨ r + 2 ≤ q) (hb : rwR Γ M r 40 (nI s.1) s.2) (hs : s.1 ≤ 40) (hq : M q = some (.inr (1, [.int v0, .int v1, .int v2, .int v3, .int v4, .int v5]))) (k : ∀ M', rwR Γ M' r 40 (nI (b20 4 v0 v2 x s).2.1) (b20 4 v0 v2 x s).2.2 → (b20 4 v0 v2 x s).2.1 ≤ 40 → Off r 2 M M' → K (b20 4 v0 v2 x s).1 (M', sz)) : Spec Γ mX0_sways 4 0 [.ref q, .int x, .ref r] (M, sz) (ci K) := by
  refine spec_in [some (.ref q), some (.int x), some (.ref r)] 0 (by decide) rfl rfl ?_
  refine ok_aload_n (pc := 0) dX0_sways_0 rfl ?_
  refine ok_bipush (pc := 1) (v := 20) dX0_sways_1 (by decide) ?_
  refine ok_callVi1 (pc := 3) (d' := 0) dX0_sways_3 vl_X0_7 hb.1 rfl rfl rfl (by decide) ?_
  refine v_add hb hs (fun M b9 hb hs hO1 => ?_)
  have hq := (hO1 q hqr).trans hq
  refine ok_pop (pc := 6) dX0_sways_6 rfl ?_
  refine ok_aload_n (pc := 7) dX0_sways_7 rfl ?_
  refine ok_iload_n (pc := 8) dX0_sways_8 rfl ?_
  refine ok_aload_n (pc := 9) dX0_sways_9 rfl ?_
  refine ok_callSUi2 (pc := 10) (d' := 3) dX0_sways_10 sul_X0_13 hq rfl rfl (by decide) ?_
  refine v_sw2_1 hqr hb hs hq (fun M hb hs hO2 => ?_)
  have hO1 := hO1.trans hO2
  have hq := (hO2 q hqr).trans hq
  refine ok_aload_n (pc := 13) dX0_sways_13 rfl ?_
  refine ok_iconst (pc := 14) (v := 1) dX0_sways_14 (by decide) ?_
  refine ok_aload_n (pc := 15) dX0_sways_15 rfl ?_
  refine ok_callQi2 (pc := 16) (r := (RX1, TX1, 6)) (d' := 1) dX0_sways_16 ql_X0_17_1 hq rfl rfl (by decide) ?_
  refine w_si_1 hqr hb hs hq (fun M hb hs hO2 => ?_)
  have hO1 := hO1.trans hO2
  have hq := (hO2 q hqr).trans hq
  refine ok_isub (pc := 19) dX0_sways_19 ?_
  refine ok_iret (pc := 20) dX0_sways_20 rfl ?_
  exact k _ hb hs hO1

set_option maxHeartbeats 1000000 in
theorem v_sw1_1 {Γ : Cx} {q r sz : Nat} {M : Nat → Option va_E} {K : Int32 → Wd → Prop} {v0 v1 v2 v3 v4 v5 x : Int32} {s : Tr} (hqr : q < r ∨ r + 2 ≤ q) (hb : rwR Γ M r 40 (nI s.1) s.2) (hs : s.1 ≤ 40) (hq : M q = some (.inr (1, [.int v0, .int v1, .int v2, .int v3, .int v4, .int v5]))) (k : ∀ M', rwR Γ M' r 40 (nI (b50 4 v0 v2 x s).2.1) (b50 4 v0 v2 x s).2.2 → (b50 4 v0 v2 x s).2.1 ≤ 40 → Off r 2 M M' → K (b50 4 v0 v2 x s).1 (M', sz)) : Spec Γ mX1_sways 5 0 [.ref q, .int x, .ref r] (M, sz) (ci K) := by
  refine spec_in [some (.ref q), some (.int x), some (.ref r)] 0 (by decide) rfl rfl ?_
  refine ok_aload_n (pc := 0) dX1_sways_0 rfl ?_
  refine ok_bipush (pc := 1) (v := 50) dX1_sways_1 (by decide) ?_
  refine ok_callVi1 (pc := 3) (d' := 0) dX1_sways_3 vl_X1_11 hb.1 rfl rfl rfl (by decide) ?_
  refine v_add hb hs (fun M b9 hb hs hO1 => ?_)
  have hq := (hO1 q hqr).trans hq
  refine ok_pop (pc := 6) dX1_sways_6 rfl ?_
  refine ok_aload_n (pc := 7) dX1_sways_7 rfl ?_
  refine ok_iload_n (pc := 8) dX1_sways_8 rfl ?_
  refine ok_iconst (pc := 9) (v := 1) dX1_sways_9 (by decide) ?_
  refine ok_iadd (pc := 10) dX1_sways_10 ?_
  refine ok_aload_n (pc := 11) dX1_sways_11 rfl ?_
  refine ok_callSUi2 (pc := 12) (d' := 4) dX1_sways_12 sul_X1_17 hq rfl rfl (by decide) ?_
  refine v_sw0_1 hqr hb hs hq (fun M hb hs hO2 => ?_)
  have hO1 := hO1.trans hO2
  have hq := (hO2 q hqr).trans hq
  refine ok_iret (pc := 15) dX1_sways_15 rfl ?_
  exact k _ hb hs hO1

theorem w_sw_2 {Γ : Cx} {q r sz : Nat} {M : Nat → Option va_E} {K : Int32 → Wd → Prop} {v0 v1 v2 v3 v4 v5 x : Int32} {s : Tr} (hqr : q < r ∨ r + 2 ≤ q) (hb : rwR Γ M r 40 (nI s.1) s.2) (hs : s.1 ≤ 40) (hq : M q = some (.inr (2, [.int v0, .int v1, .int v2, .int v3, .int v4, .int v5]))) (k : ∀ M', rwR Γ M' r 40 (nI (vSw 0 v0 v2 x s).2.1) (vSw 0 v0 v2 x s).2.2 → (vSw 0 v0 v2 x s).2.1 ≤ 40 → Off r 2 M M' → K (vSw 0 v0 v2 x s).1 (M', sz)) : Spec Γ mX2_sways 3 0 [.ref q, .int x, .ref r] (M, sz) (ci K) := by
  have e9 : vSw 0 v0 v2 x s = b11 0 v0 x s := (if_neg (by decide)).trans (if_neg (by decide))
  rw [e9] at k
  exact v_sw2_2 hqr hb hs hq k

theorem w_sw_0 {Γ : Cx} {q r sz : Nat} {M : Nat → Option va_E} {K : Int32 → Wd → Prop} {v0 v1 v2 v3 v4 v5 x : Int32} {s : Tr} (hqr : q < r ∨ r + 2 ≤ q) (hb : rwR Γ M r 40 (nI s.1) s.2) (hs : s.1 ≤ 40) (hq : M q = some (.inr (0, [.int v0, .int v1, .int v2, .int v3, .int v4, .int v5]))) (k : ∀ M', rwR Γ M' r 40 (nI (vSw 1 v0 v2 x s).2.1) (vSw 1 v0 v2 x s).2.2 → (vSw 1 v0 v2 x s).2.1 ≤ 40 → Off r 2 M M' → K (vSw 1 v0 v2 x s).1 (M', sz)) : Spec Γ mX0_sways 4 0 [.ref q, .int x, .ref r] (M, sz) (ci K) := by
  have e9 : vSw 1 v0 v2 x s = b20 1 v0 v2 x s := if_pos (by decide)
  rw [e9] at k
  exact v_sw0_0 hqr hb hs hq k

theorem w_sw_9 {Γ : Cx} {q r sz : Nat} {M : Nat → Option va_E} {K : Int32 → Wd → Prop} {v0 v1 v2 v3 v4 v5 x : Int32} {s : Tr} (hqr : q < r ∨ r + 2 ≤ q) (hb : rwR Γ M r 40 (nI s.1) s.2) (hs : s.1 ≤ 40) (hq : M q = some (.inr (9, [.int v0, .int v1, .int v2, .int v3, .int v4, .int v5]))) (k : ∀ M', rwR Γ M' r 40 (nI (vSw 2 v0 v2 x s).2.1) (vSw 2 v0 v2 x s).2.2 → (vSw 2 v0 v2 x s).2.1 ≤ 40 → Off r 2 M M' → K (vSw 2 v0 v2 x s).1 (M', sz)) : Spec Γ mX2_sways 3 0 [.ref q, .int x, .ref r] (M, sz) (ci K) := by
  have e9 : vSw 2 v0 v2 x s = b11 2 v0 x s := (if_neg (by decide)).trans (if_neg (by decide))
  rw [e9] at k
  exact v_sw2_9 hqr hb hs hq k

theorem w_sw_8 {Γ : Cx} {q r sz : Nat} {M : Nat → Option va_E} {K : Int32 → Wd → Prop} {v0 v1 v2 v3 v4 v5 x : Int32} {s : Tr} (hqr : q < r ∨ r + 2 ≤ q) (hb : rwR Γ M r 40 (nI s.1) s.2) (hs : s.1 ≤ 40) (hq : M q = some (.inr (8, [.int v0, .int v1, .int v2, .int v3, .int v4, .int v5]))) (k : ∀ M', rwR Γ M' r 40 (nI (vSw 3 v0 v2 x s).2.1) (vSw 3 v0 v2 x s).2.2 → (vSw 3 v0 v2 x s).2.1 ≤ 40 → Off r 2 M M' → K (vSw 3 v0 v2 x s).1 (M', sz)) : Spec Γ mX2_sways 3 0 [.ref q, .int x, .ref r] (M, sz) (ci K) := by
  have e9 : vSw 3 v0 v2 x s = b11 3 v0 x s := (if_neg (by decide)).trans (if_neg (by decide))
  rw [e9] at k
  exact v_sw2_8 hqr hb hs hq k

theorem w_sw_1 {Γ : Cx} {q r sz : Nat} {M : Nat → Option va_E} {K : Int32 → Wd → Prop} {v0 v1 v2 v3 v4 v5 x : Int32} {s : Tr} (hqr : q < r ∨ r + 2 ≤ q) (hb : rwR Γ M r 40 (nI s.1) s.2) (hs : s.1 ≤ 40) (hq : M q = some (.inr (1, [.int v0, .int v1, .int v2, .int v3, .int v4, .int v5]))) (k : ∀ M', rwR Γ M' r 40 (nI (vSw 4 v0 v2 x s).2.1) (vSw 4 v0 v2 x s).2.2 → (vSw 4 v0 v2 x s).2.1 ≤ 40 → Off r 2 M M' → K (vSw 4 v0 v2 x s).1 (M', sz)) : Spec Γ mX1_sways 5 0 [.ref q, .int x, .ref r] (M, sz) (ci K) := by
  have e9 : vSw 4 v0 v2 x s = b50 4 v0 v2 x s := (if_neg (by decide)).trans (if_pos (by decide))
  rw [e9] at k
  exact v_sw1_1 hqr hb hs hq k

theorem w_sw_3 {Γ : Cx} {q r sz : Nat} {M : Nat → Option va_E} {K : Int32 → Wd → Prop} {v0 v1 v2 v3 v4 v5 x : Int32} {s : Tr} (hqr : q < r ∨ r + 2 ≤ q) (hb : rwR Γ M r 40 (nI s.1) s.2) (hs : s.1 ≤ 40) (hq : M q = some (.inr (3, [.int v0, .int v1, .int v2, .int v3, .int v4, .int v5]))) (k : ∀ M', rwR Γ M' r 40 (nI (vSw 5 v0 v2 x s).2.1) (vSw 5 v0 v2 x s).2.2 → (vSw 5 v0 v2 x s).2.1 ≤ 40 → Off r 2 M M' → K (vSw 5 v0 v2 x s).1 (M', sz)) : Spec Γ mX2_sways 3 0 [.ref q, .int x, .ref r] (M, sz) (ci K) := by
  have e9 : vSw 5 v0 v2 x s = b11 5 v0 x s := (if_neg (by decide)).trans (if_neg (by decide))
  rw [e9] at k
  exact v_sw2_3 hqr hb hs hq k

theorem w_sw_4 {Γ : Cx} {q r sz : Nat} {M : Nat → Option va_E} {K : Int32 → Wd → Prop} {v0 v1 v2 v3 v4 v5 x : Int32} {s : Tr} (hqr : q < r ∨ r + 2 ≤ q) (hb : rwR Γ M r 40 (nI s.1) s.2) (hs : s.1 ≤ 40) (hq : M q = some (.inr (4, [.int v0, .int v1, .int v2, .int v3, .int v4, .int v5]))) (k : ∀ M', rwR Γ M' r 40 (nI (vSw 6 v0 v2 x s).2.1) (vSw 6 v0 v2 x s).2.2 → (vSw 6 v0 v2 x s).2.1 ≤ 40 → Off r 2 M M' → K (vSw 6 v0 v2 x s).1 (M', sz)) : Spec Γ mX2_sways 3 0 [.ref q, .int x, .ref r] (M, sz) (ci K) := by
  have e9 : vSw 6 v0 v2 x s = b11 6 v0 x s := (if_neg (by decide)).trans (if_neg (by decide))
  rw [e9] at k
  exact v_sw2_4 hqr hb hs hq k

theorem ql_X2_38_2 : QLink RX2 38 RX2 mX2_sways mX2_sways 2 := ⟨ml_X2_sways, ⟨"KitePost$Kite", "sways", "(ILKitePost$Row;)I"⟩, tw_1000, tw_1040, tw_978, tw_976, tw_977, tw_976, rfl, by decide +kernel⟩
theorem ql_X2_41_2 : QLink RX2 41 RX2 mX2_sinks mX2_sinks 2 := ⟨ml_X2_sinks, ⟨"KitePost$Kite", "sinks", "(ILKitePost$Row;)I"⟩, tw_990, tw_1041, tw_1656, tw_989, tw_1659, tw_989, rfl, by decide +kernel⟩
set_option maxHeartbeats 1000000 in
theorem v_te2_2 {Γ : Cx} {q r sz : Nat} {M : Nat → Option va_E} {K : Int32 → Wd → Prop} {v0 v1 v2 v3 v4 v5 x : Int32} {s : Tr} (hqr : q < r ∨ r + 2 ≤ q) (hb : rwR Γ M r 40 (nI s.1) s.2) (hs : s.1 ≤ 40) (hq : M q = some (.inr (2, [.int v0, .int v1, .int v2, .int v3, .int v4, .int v5]))) (k : ∀ M', rwR Γ M' r 40 (nI (b13 0 v0 v2 x s).2.1) (b13 0 v0 v2 x s).2.2 → (b13 0 v0 v2 x s).2.1 ≤ 40 → Off r 2 M M' → K (b13 0 v0 v2 x s).1 (M', sz)) : Spec Γ mX2_tells 6 0 [.ref q, .int x, .ref r] (M, sz) (ci K) := by
  refine spec_in [some (.ref q), some (.int x), some (.ref r)] 0 (by decide) rfl rfl ?_
  refine ok_aload_n (pc := 0) dX2_tells_0 rfl ?_
  refine ok_bipush (pc := 1) (v := 13) dX2_tells_1 (by decide) ?_
  refine ok_callVi1 (pc := 3) (d' := 0) dX2_tells_3 vl_X2_28 hb.1 rfl rfl rfl (by decide) ?_
  refine v_add hb hs (fun M b9 hb hs hO1 => ?_)
  have hq := (hO1 q hqr).trans hq
  refine ok_pop (pc := 6) dX2_tells_6 rfl ?_
  refine ok_aload_n (pc := 7) dX2_tells_7 rfl ?_
  refine ok_iload_n (pc := 8) dX2_tells_8 rfl ?_
  refine ok_aload_n (pc := 9) dX2_tells_9 rfl ?_
  refine ok_callQi2 (pc := 10) (r := (RX2, TX2, 6)) (d' := 3) dX2_tells_10 ql_X2_38_2 hq rfl rfl (by decide) ?_
  refine w_sw_2 hqr hb hs hq (fun M hb hs hO2 => ?_)
  have hO1 := hO1.trans hO2
  have hq := (hO2 q hqr).trans hq
  refine ok_aload_n (pc := 13) dX2_tells_13 rfl ?_
  refine ok_iload_n (pc := 14) dX2_tells_14 rfl ?_
  refine ok_aload_n (pc := 15) dX2_tells_15 rfl ?_
  refine ok_callQi2 (pc := 16) (r := (RX2, TX2, 6)) (d' := 1) dX2_tells_16 ql_X2_41_2 hq rfl rfl (by decide) ?_
  refine w_si_2 hqr hb hs hq (fun M hb hs hO2 => ?_)
  have hO1 := hO1.trans hO2
  have hq := (hO2 q hqr).trans hq
  refine ok_ixor (pc := 19) dX2_tells_19 ?_
  refine ok_iret (pc := 20) dX2_tells_20 rfl ?_
  exact k _ hb hs hO1

theorem ql_X2_41_0 : QLink RX2 41 RX0 mX2_sinks mX2_sinks 2 := ⟨ml_X2_sinks, ⟨"KitePost$Kite", "sinks", "(ILKitePost$Row;)I"⟩, tw_990, tw_1041, tw_1656, tw_989, tw_1657, tw_989, rfl, by decide +kernel⟩
set_option maxHeartbeats 1000000 in
theorem v_te2_0 {Γ : Cx} {q r sz : Nat} {M : Nat → Option va_E} {K : Int32 → Wd → Prop} {v0 v1 v2 v3 v4 v5 x : Int32} {s : Tr} (hqr : q < r ∨ r + 2 ≤ q) (hb : rwR Γ M r 40 (nI s.1) s.2) (hs : s.1 ≤ 40) (hq : M q = some (.inr (0, [.int v0, .int v1, .int v2, .int v3, .int v4, .int v5]))) (k : ∀ M', rwR Γ M' r 40 (nI (b13 1 v0 v2 x s).2.1) (b13 1 v0 v2 x s).2.2 → (b13 1 v0 v2 x s).2.1 ≤ 40 → Off r 2 M M' → K (b13 1 v0 v2 x s).1 (M', sz)) : Spec Γ mX2_tells 6 0 [.ref q, .int x, .ref r] (M, sz) (ci K) := by
  refine spec_in [some (.ref q), some (.int x), some (.ref r)] 0 (by decide) rfl rfl ?_
  refine ok_aload_n (pc := 0) dX2_tells_0 rfl ?_
  refine ok_bipush (pc := 1) (v := 13) dX2_tells_1 (by decide) ?_
  refine ok_callVi1 (pc := 3) (d' := 0) dX2_tells_3 vl_X2_28 hb.1 rfl rfl rfl (by decide) ?_
  refine v_add hb hs (fun M b9 hb hs hO1 => ?_)
  have hq := (hO1 q hqr).trans hq
  refine ok_pop (pc := 6) dX2_tells_6 rfl ?_
  refine ok_aload_n (pc := 7) dX2_tells_7 rfl ?_
  refine ok_iload_n (pc := 8) dX2_tells_8 rfl ?_
  refine ok_aload_n (pc := 9) dX2_tells_9 rfl ?_
  refine ok_callQi2 (pc := 10) (r := (RX0, TX0, 6)) (d' := 4) dX2_tells_10 ql_X2_38_0 hq rfl rfl (by decide) ?_
  refine w_sw_0 hqr hb hs hq (fun M hb hs hO2 => ?_)
  have hO1 := hO1.trans hO2
  have hq := (hO2 q hqr).trans hq
  refine ok_aload_n (pc := 13) dX2_tells_13 rfl ?_
  refine ok_iload_n (pc := 14) dX2_tells_14 rfl ?_
  refine ok_aload_n (pc := 15) dX2_tells_15 rfl ?_
  refine ok_callQi2 (pc := 16) (r := (RX0, TX0, 6)) (d' := 1) dX2_tells_16 ql_X2_41_0 hq rfl rfl (by decide) ?_
  refine w_si_0 hqr hb hs hq (fun M hb hs hO2 => ?_)
  have hO1 := hO1.trans hO2
  have hq := (hO2 q hqr).trans hq
  refine ok_ixor (pc := 19) dX2_tells_19 ?_
  refine ok_iret (pc := 20) dX2_tells_20 rfl ?_
  exact k _ hb hs hO1

theorem ql_X2_38_9 : QLink RX2 38 RX9 mX2_sways mX2_sways 2 := ⟨ml_X2_sways, ⟨"KitePost$Kite", "sways", "(ILKitePost$Row;)I"⟩, tw_1000, tw_1040, tw_978, tw_976, tw_999, tw_976, rfl, by decide +kernel⟩
theorem ql_X2_41_9 : QLink RX2 41 RX9 mX2_sinks mX2_sinks 2 := ⟨ml_X2_sinks, ⟨"KitePost$Kite", "sinks", "(ILKitePost$Row;)I"⟩, tw_990, tw_1041, tw_1656, tw_989, tw_1664, tw_989, rfl, by decide +kernel⟩
set_option maxHeartbeats 1000000 in
theorem v_te2_9 {Γ : Cx} {q r sz : Nat} {M : Nat → Option va_E} {K : Int32 → Wd → Prop} {v0 v1 v2 v3 v4 v5 x : Int32} {s : Tr} (hqr : q < r ∨ r + 2 ≤ q) (hb : rwR Γ M r 40 (nI s.1) s.2) (hs : s.1 ≤ 40) (hq : M q = some (.inr (9, [.int v0, .int v1, .int v2, .int v3, .int v4, .int v5]))) (k : ∀ M', rwR Γ M' r 40 (nI (b13 2 v0 v2 x s).2.1) (b13 2 v0 v2 x s).2.2 → (b13 2 v0 v2 x s).2.1 ≤ 40 → Off r 2 M M' → K (b13 2 v0 v2 x s).1 (M', sz)) : Spec Γ mX2_tells 6 0 [.ref q, .int x, .ref r] (M, sz) (ci K) := by
  refine spec_in [some (.ref q), some (.int x), some (.ref r)] 0 (by decide) rfl rfl ?_
  refine ok_aload_n (pc := 0) dX2_tells_0 rfl ?_
  refine ok_bipush (pc := 1) (v := 13) dX2_tells_1 (by decide) ?_
  refine ok_callVi1 (pc := 3) (d' := 0) dX2_tells_3 vl_X2_28 hb.1 rfl rfl rfl (by decide) ?_
  refine v_add hb hs (fun M b9 hb hs hO1 => ?_)
  have hq := (hO1 q hqr).trans hq
  refine ok_pop (pc := 6) dX2_tells_6 rfl ?_
  refine ok_aload_n (pc := 7) dX2_tells_7 rfl ?_
  refine ok_iload_n (pc := 8) dX2_tells_8 rfl ?_
  refine ok_aload_n (pc := 9) dX2_tells_9 rfl ?_
  refine ok_callQi2 (pc := 10) (r := (RX9, TX9, 6)) (d' := 3) dX2_tells_10 ql_X2_38_9 hq rfl rfl (by decide) ?_
  refine w_sw_9 hqr hb hs hq (fun M hb hs hO2 => ?_)
  have hO1 := hO1.trans hO2
  have hq := (hO2 q hqr).trans hq
  refine ok_aload_n (pc := 13) dX2_tells_13 rfl ?_
  refine ok_iload_n (pc := 14) dX2_tells_14 rfl ?_
  refine ok_aload_n (pc := 15) dX2_tells_15 rfl ?_
  refine ok_callQi2 (pc := 16) (r := (RX9, TX9, 6)) (d' := 1) dX2_tells_16 ql_X2_41_9 hq rfl rfl (by decide) ?_
  refine w_si_9 hqr hb hs hq (fun M hb hs hO2 => ?_)
  have hO1 := hO1.trans hO2
  have hq := (hO2 q hqr).trans hq
  refine ok_ixor (pc := 19) dX2_tells_19 ?_
  refine ok_iret (pc := 20) dX2_tells_20 rfl ?_
  exact k _ hb hs hO1

theorem ql_X2_38_8 : QLink RX2 38 RX8 mX2_sways mX2_sways 2 := ⟨ml_X2_sways, ⟨"KitePost$Kite", "sways", "(ILKitePost$Row;)I"⟩, tw_1000, tw_1040, tw_978, tw_976, tw_998, tw_976, rfl, by decide +kernel⟩
set_option maxHeartbeats 1000000 in
theorem v_te2_8 {Γ : Cx} {q r sz : Nat} {M : Nat → Option va_E} {K : Int32 → Wd → Prop} {v0 v1 v2 v3 v4 v5 x : Int32} {s : Tr} (hqr : q < r ∨ r + 2 ≤ q) (hb : rwR Γ M r 40 (nI s.1) s.2) (hs : s.1 ≤ 40) (hq : M q = some (.inr (8, [.int v0, .int v1, .int v2, .int v3, .int v4, .int v5]))) (k : ∀ M', rwR Γ M' r 40 (nI (b13 3 v0 v2 x s).2.1) (b13 3 v0 v2 x s).2.2 → (b13 3 v0 v2 x s).2.1 ≤ 40 → Off r 2 M M' → K (b13 3 v0 v2 x s).1 (M', sz)) : Spec Γ mX2_tells 6 0 [.ref q, .int x, .ref r] (M, sz) (ci K) := by
  refine spec_in [some (.ref q), some (.int x), some (.ref r)] 0 (by decide) rfl rfl ?_
  refine ok_aload_n (pc := 0) dX2_tells_0 rfl ?_
  refine ok_bipush (pc := 1) (v := 13) dX2_tells_1 (by decide) ?_
  refine ok_callVi1 (pc := 3) (d' := 0) dX2_tells_3 vl_X2_28 hb.1 rfl rfl rfl (by decide) ?_
  refine v_add hb hs (fun M b9 hb hs hO1 => ?_)
  have hq := (hO1 q hqr).trans hq
  refine ok_pop (pc := 6) dX2_tells_6 rfl ?_
  refine ok_aload_n (pc := 7) dX2_tells_7 rfl ?_
  refine ok_iload_n (pc := 8) dX2_tells_8 rfl ?_
  refine ok_aload_n (pc := 9) dX2_tells_9 rfl ?_
  refine ok_callQi2 (pc := 10) (r := (RX8, TX8, 6)) (d' := 3) dX2_tells_10 ql_X2_38_8 hq rfl rfl (by decide) ?_
  refine w_sw_8 hqr hb hs hq (fun M hb hs hO2 => ?_)
  have hO1 := hO1.trans hO2
  have hq := (hO2 q hqr).trans hq
  refine ok_aload_n (pc := 13) dX2_tells_13 rfl ?_
  refine ok_iload_n (pc := 14) dX2_tells_14 rfl ?_
  refine ok_aload_n (pc := 15) dX2_tells_15 rfl ?_
  refine ok_callQi2 (pc := 16) (r := (RX8, TX8, 6)) (d' := 2) dX2_tells_16 ql_X2_41_8 hq rfl rfl (by decide) ?_
  refine w_si_8 hqr hb hs hq (fun M hb hs hO2 => ?_)
  have hO1 := hO1.trans hO2
  have hq := (hO2 q hqr).trans hq
  refine ok_ixor (pc := 19) dX2_tells_19 ?_
  refine ok_iret (pc := 20) dX2_tells_20 rfl ?_
  exact k _ hb hs hO1

theorem ql_X2_41_1 : QLink RX2 41 RX1 mX2_sinks mX2_sinks 2 := ⟨ml_X2_sinks, ⟨"KitePost$Kite", "sinks", "(ILKitePost$Row;)I"⟩, tw_990, tw_1041, tw_1656, tw_989, tw_1658, tw_989, rfl, by decide +kernel⟩
set_option maxHeartbeats 1000000 in
theorem v_te2_1 {Γ : Cx} {q r sz : Nat} {M : Nat → Option va_E} {K : Int32 → Wd → Prop} {v0 v1 v2 v3 v4 v5 x : Int32} {s : Tr} (hqr : q < r ∨ r + 2 ≤ q) (hb : rwR Γ M r 40 (nI s.1) s.2) (hs : s.1 ≤ 40) (hq : M q = some (.inr (1, [.int v0, .int v1, .int v2, .int v3, .int v4, .int v5]))) (k : ∀ M', rwR Γ M' r 40 (nI (b13 4 v0 v2 x s).2.1) (b13 4 v0 v2 x s).2.2 → (b13 4 v0 v2 x s).2.1 ≤ 40 → Off r 2 M M' → K (b13 4 v0 v2 x s).1 (M', sz)) : Spec Γ mX2_tells 6 0 [.ref q, .int x, .ref r] (M, sz) (ci K) := by
  refine spec_in [some (.ref q), some (.int x), some (.ref r)] 0 (by decide) rfl rfl ?_
  refine ok_aload_n (pc := 0) dX2_tells_0 rfl ?_
  refine ok_bipush (pc := 1) (v := 13) dX2_tells_1 (by decide) ?_
  refine ok_callVi1 (pc := 3) (d' := 0) dX2_tells_3 vl_X2_28 hb.1 rfl rfl rfl (by decide) ?_
  refine v_add hb hs (fun M b9 hb hs hO1 => ?_)
  have hq := (hO1 q hqr).trans hq
  refine ok_pop (pc := 6) dX2_tells_6 rfl ?_
  refine ok_aload_n (pc := 7) dX2_tells_7 rfl ?_
  refine ok_iload_n (pc := 8) dX2_tells_8 rfl ?_
  refine ok_aload_n (pc := 9) dX2_tells_9 rfl ?_
  refine ok_callQi2 (pc := 10) (r := (RX1, TX1, 6)) (d' := 5) dX2_tells_10 ql_X2_38_1 hq rfl rfl (by decide) ?_
  refine w_sw_1 hqr hb hs hq (fun M hb hs hO2 => ?_)
  have hO1 := hO1.trans hO2
  have hq := (hO2 q hqr).trans hq
  refine ok_aload_n (pc := 13) dX2_tells_13 rfl ?_
  refine ok_iload_n (pc := 14) dX2_tells_14 rfl ?_
  refine ok_aload_n (pc := 15) dX2_tells_15 rfl ?_
  refine ok_callQi2 (pc := 16) (r := (RX1, TX1, 6)) (d' := 1) dX2_tells_16 ql_X2_41_1 hq rfl rfl (by decide) ?_
  refine w_si_1 hqr hb hs hq (fun M hb hs hO2 => ?_)
  have hO1 := hO1.trans hO2
  have hq := (hO2 q hqr).trans hq
  refine ok_ixor (pc := 19) dX2_tells_19 ?_
  refine ok_iret (pc := 20) dX2_tells_20 rfl ?_
  exact k _ hb hs hO1

theorem ql_X2_38_3 : QLink RX2 38 RX3 mX2_sways mX2_sways 2 := ⟨ml_X2_sways, ⟨"KitePost$Kite", "sways", "(ILKitePost$Row;)I"⟩, tw_1000, tw_1040, tw_978, tw_976, tw_996, tw_976, rfl, by decide +kernel⟩
theorem ql_X2_41_3 : QLink RX2 41 RX3 mX2_sinks mX2_sinks 2 := ⟨ml_X2_sinks, ⟨"KitePost$Kite", "sinks", "(ILKitePost$Row;)I"⟩, tw_990, tw_1041, tw_1656, tw_989, tw_1660, tw_989, rfl, by decide +kernel⟩
set_option maxHeartbeats 1000000 in
theorem v_te2_3 {Γ : Cx} {q r sz : Nat} {M : Nat → Option va_E} {K : Int32 → Wd → Prop} {v0 v1 v2 v3 v4 v5 x : Int32} {s : Tr} (hqr : q < r ∨ r + 2 ≤ q) (hb : rwR Γ M r 40 (nI s.1) s.2) (hs : s.1 ≤ 40) (hq : M q = some (.inr (3, [.int v0, .int v1, .int v2, .int v3, .int v4, .int v5]))) (k : ∀ M', rwR Γ M' r 40 (nI (b13 5 v0 v2 x s).2.1) (b13 5 v0 v2 x s).2.2 → (b13 5 v0 v2 x s).2.1 ≤ 40 → Off r 2 M M' → K (b13 5 v0 v2 x s).1 (M', sz)) : Spec Γ mX2_tells 6 0 [.ref q, .int x, .ref r] (M, sz) (ci K) := by
  refine spec_in [some (.ref q), some (.int x), some (.ref r)] 0 (by decide) rfl rfl ?_
  refine ok_aload_n (pc := 0) dX2_tells_0 rfl ?_
  refine ok_bipush (pc := 1) (v := 13) dX2_tells_1 (by decide) ?_
  refine ok_callVi1 (pc := 3) (d' := 0) dX2_tells_3 vl_X2_28 hb.1 rfl rfl rfl (by decide) ?_
  refine v_add hb hs (fun M b9 hb hs hO1 => ?_)
  have hq := (hO1 q hqr).trans hq
  refine ok_pop (pc := 6) dX2_tells_6 rfl ?_
  refine ok_aload_n (pc := 7) dX2_tells_7 rfl ?_
  refine ok_iload_n (pc := 8) dX2_tells_8 rfl ?_
  refine ok_aload_n (pc := 9) dX2_tells_9 rfl ?_
  refine ok_callQi2 (pc := 10) (r := (RX3, TX3, 6)) (d' := 3) dX2_tells_10 ql_X2_38_3 hq rfl rfl (by decide) ?_
  refine w_sw_3 hqr hb hs hq (fun M hb hs hO2 => ?_)
  have hO1 := hO1.trans hO2
  have hq := (hO2 q hqr).trans hq
  refine ok_aload_n (pc := 13) dX2_tells_13 rfl ?_
  refine ok_iload_n (pc := 14) dX2_tells_14 rfl ?_
  refine ok_aload_n (pc := 15) dX2_tells_15 rfl ?_
  refine ok_callQi2 (pc := 16) (r := (RX3, TX3, 6)) (d' := 1) dX2_tells_16 ql_X2_41_3 hq rfl rfl (by decide) ?_
  refine w_si_3 hqr hb hs hq (fun M hb hs hO2 => ?_)
  have hO1 := hO1.trans hO2
  have hq := (hO2 q hqr).trans hq
  refine ok_ixor (pc := 19) dX2_tells_19 ?_
  refine ok_iret (pc := 20) dX2_tells_20 rfl ?_
  exact k _ hb hs hO1

theorem ql_X2_38_4 : QLink RX2 38 RX4 mX2_sways mX2_sways 2 := ⟨ml_X2_sways, ⟨"KitePost$Kite", "sways", "(ILKitePost$Row;)I"⟩, tw_1000, tw_1040, tw_978, tw_976, tw_997, tw_976, rfl, by decide +kernel⟩
set_option maxHeartbeats 1000000 in
theorem v_te2_4 {Γ : Cx} {q r sz : Nat} {M : Nat → Option va_E} {K : Int32 → Wd → Prop} {v0 v1 v2 v3 v4 v5 x : Int32} {s : Tr} (hqr : q < r ∨ r + 2 ≤ q) (hb : rwR Γ M r 40 (nI s.1) s.2) (hs : s.1 ≤ 40) (hq : M q = some (.inr (4, [.int v0, .int v1, .int v2, .int v3, .int v4, .int v5]))) (k : ∀ M', rwR Γ M' r 40 (nI (b13 6 v0 v2 x s).2.1) (b13 6 v0 v2 x s).2.2 → (b13 6 v0 v2 x s).2.1 ≤ 40 → Off r 2 M M' → K (b13 6 v0 v2 x s).1 (M', sz)) : Spec Γ mX2_tells 6 0 [.ref q, .int x, .ref r] (M, sz) (ci K) := by
  refine spec_in [some (.ref q), some (.int x), some (.ref r)] 0 (by decide) rfl rfl ?_
  refine ok_aload_n (pc := 0) dX2_tells_0 rfl ?_
  refine ok_bipush (pc := 1) (v := 13) dX2_tells_1 (by decide) ?_
  refine ok_callVi1 (pc := 3) (d' := 0) dX2_tells_3 vl_X2_28 hb.1 rfl rfl rfl (by decide) ?_
  refine v_add hb hs (fun M b9 hb hs hO1 => ?_)
  have hq := (hO1 q hqr).trans hq
  refine ok_pop (pc := 6) dX2_tells_6 rfl ?_
  refine ok_aload_n (pc := 7) dX2_tells_7 rfl ?_
  refine ok_iload_n (pc := 8) dX2_tells_8 rfl ?_
  refine ok_aload_n (pc := 9) dX2_tells_9 rfl ?_
  refine ok_callQi2 (pc := 10) (r := (RX4, TX4, 6)) (d' := 3) dX2_tells_10 ql_X2_38_4 hq rfl rfl (by decide) ?_
  refine w_sw_4 hqr hb hs hq (fun M hb hs hO2 => ?_)
  have hO1 := hO1.trans hO2
  have hq := (hO2 q hqr).trans hq
  refine ok_aload_n (pc := 13) dX2_tells_13 rfl ?_
  refine ok_iload_n (pc := 14) dX2_tells_14 rfl ?_
  refine ok_aload_n (pc := 15) dX2_tells_15 rfl ?_
  refine ok_callQi2 (pc := 16) (r := (RX4, TX4, 6)) (d' := 3) dX2_tells_16 ql_X2_41_4 hq rfl rfl (by decide) ?_
  refine w_si_4 hqr hb hs hq (fun M hb hs hO2 => ?_)
  have hO1 := hO1.trans hO2
  have hq := (hO2 q hqr).trans hq
  refine ok_ixor (pc := 19) dX2_tells_19 ?_
  refine ok_iret (pc := 20) dX2_tells_20 rfl ?_
  exact k _ hb hs hO1

theorem svl_X3_23 : SVLink RX3 23 ⟨"KitePost$Tailed", "tells", "(ILKitePost$Row;)I"⟩ mX2_tells 2 := ⟨ml_X2_tells, tw_1021, rfl, tw_1022, tw_472, tw_433, tw_1012, by decide⟩
theorem svl_X4_30 : SVLink RX4 30 ⟨"KitePost$Silk", "tells", "(ILKitePost$Row;)I"⟩ mX2_tells 2 := ⟨ml_X2_tells, tw_1035, rfl, tw_1036, tw_485, tw_446, tw_1012, by decide⟩
theorem ql_X3_27_3 : QLink RX3 27 RX3 mX9_lifts mX9_lifts 2 := ⟨ml_X9_lifts, ⟨"KitePost$LongTailed", "lifts", "(ILKitePost$Row;)I"⟩, tw_967, tw_1024, tw_1025, tw_966, tw_1027, tw_966, rfl, by decide +kernel⟩
set_option maxHeartbeats 1000000 in
theorem v_te3_3 {Γ : Cx} {q r sz : Nat} {M : Nat → Option va_E} {K : Int32 → Wd → Prop} {v0 v1 v2 v3 v4 v5 x : Int32} {s : Tr} (hqr : q < r ∨ r + 2 ≤ q) (hb : rwR Γ M r 40 (nI s.1) s.2) (hs : s.1 ≤ 40) (hq : M q = some (.inr (3, [.int v0, .int v1, .int v2, .int v3, .int v4, .int v5]))) (k : ∀ M', rwR Γ M' r 40 (nI (b60 5 v0 v2 x s).2.1) (b60 5 v0 v2 x s).2.2 → (b60 5 v0 v2 x s).2.1 ≤ 40 → Off r 2 M M' → K (b60 5 v0 v2 x s).1 (M', sz)) : Spec Γ mX3_tells 7 0 [.ref q, .int x, .ref r] (M, sz) (ci K) := by
  refine spec_in [some (.ref q), some (.int x), some (.ref r)] 0 (by decide) rfl rfl ?_
  refine ok_aload_n (pc := 0) dX3_tells_0 rfl ?_
  refine ok_bipush (pc := 1) (v := 60) dX3_tells_1 (by decide) ?_
  refine ok_callVi1 (pc := 3) (d' := 0) dX3_tells_3 vl_X3_17 hb.1 rfl rfl rfl (by decide) ?_
  refine v_add hb hs (fun M b9 hb hs hO1 => ?_)
  have hq := (hO1 q hqr).trans hq
  refine ok_pop (pc := 6) dX3_tells_6 rfl ?_
  refine ok_aload_n (pc := 7) dX3_tells_7 rfl ?_
  refine ok_iload_n (pc := 8) dX3_tells_8 rfl ?_
  refine ok_aload_n (pc := 9) dX3_tells_9 rfl ?_
  refine ok_callSVi2 (pc := 10) (d' := 6) dX3_tells_10 svl_X3_23 hq rfl rfl (by decide) ?_
  refine v_te2_3 hqr hb hs hq (fun M hb hs hO2 => ?_)
  have hO1 := hO1.trans hO2
  have hq := (hO2 q hqr).trans hq
  refine ok_aload_n (pc := 13) dX3_tells_13 rfl ?_
  refine ok_iconst (pc := 14) (v := 2) dX3_tells_14 (by decide) ?_
  refine ok_aload_n (pc := 15) dX3_tells_15 rfl ?_
  refine ok_callQi2 (pc := 16) (r := (RX3, TX3, 6)) (d' := 2) dX3_tells_16 ql_X3_27_3 hq rfl rfl (by decide) ?_
  refine w_li_3 hqr hb hs hq (fun M hb hs hO2 => ?_)
  have hO1 := hO1.trans hO2
  have hq := (hO2 q hqr).trans hq
  refine ok_isub (pc := 19) dX3_tells_19 ?_
  refine ok_iret (pc := 20) dX3_tells_20 rfl ?_
  exact k _ hb hs hO1

theorem ql_X4_27_4 : QLink RX4 27 RX4 mX2_sways mX2_sways 2 := ⟨ml_X2_sways, ⟨"KitePost$Old", "sways", "(ILKitePost$Row;)I"⟩, tw_1000, tw_1031, tw_1032, tw_976, tw_1034, tw_976, rfl, by decide +kernel⟩
set_option maxHeartbeats 1000000 in
theorem v_te4_4 {Γ : Cx} {q r sz : Nat} {M : Nat → Option va_E} {K : Int32 → Wd → Prop} {v0 v1 v2 v3 v4 v5 x : Int32} {s : Tr} (hqr : q < r ∨ r + 2 ≤ q) (hb : rwR Γ M r 40 (nI s.1) s.2) (hs : s.1 ≤ 40) (hq : M q = some (.inr (4, [.int v0, .int v1, .int v2, .int v3, .int v4, .int v5]))) (k : ∀ M', rwR Γ M' r 40 (nI (b71 6 v0 v2 x s).2.1) (b71 6 v0 v2 x s).2.2 → (b71 6 v0 v2 x s).2.1 ≤ 40 → Off r 2 M M' → K (b71 6 v0 v2 x s).1 (M', sz)) : Spec Γ mX4_tells 7 0 [.ref q, .int x, .ref r] (M, sz) (ci K) := by
  refine spec_in [some (.ref q), some (.int x), some (.ref r)] 0 (by decide) rfl rfl ?_
  refine ok_aload_n (pc := 0) dX4_tells_0 rfl ?_
  refine ok_bipush (pc := 1) (v := 71) dX4_tells_1 (by decide) ?_
  refine ok_callVi1 (pc := 3) (d' := 0) dX4_tells_3 vl_X4_11 hb.1 rfl rfl rfl (by decide) ?_
  refine v_add hb hs (fun M b9 hb hs hO1 => ?_)
  have hq := (hO1 q hqr).trans hq
  refine ok_pop (pc := 6) dX4_tells_6 rfl ?_
  refine ok_aload_n (pc := 7) dX4_tells_7 rfl ?_
  refine ok_iload_n (pc := 8) dX4_tells_8 rfl ?_
  refine ok_aload_n (pc := 9) dX4_tells_9 rfl ?_
  refine ok_callQi2 (pc := 10) (r := (RX4, TX4, 6)) (d' := 3) dX4_tells_10 ql_X4_27_4 hq rfl rfl (by decide) ?_
  refine w_sw_4 hqr hb hs hq (fun M hb hs hO2 => ?_)
  have hO1 := hO1.trans hO2
  have hq := (hO2 q hqr).trans hq
  refine ok_aload_n (pc := 13) dX4_tells_13 rfl ?_
  refine ok_iload_n (pc := 14) dX4_tells_14 rfl ?_
  refine ok_aload_n (pc := 15) dX4_tells_15 rfl ?_
  refine ok_callSVi2 (pc := 16) (d' := 6) dX4_tells_16 svl_X4_30 hq rfl rfl (by decide) ?_
  refine v_te2_4 hqr hb hs hq (fun M hb hs hO2 => ?_)
  have hO1 := hO1.trans hO2
  have hq := (hO2 q hqr).trans hq
  refine ok_isub (pc := 19) dX4_tells_19 ?_
  refine ok_iret (pc := 20) dX4_tells_20 rfl ?_
  exact k _ hb hs hO1

theorem w_te_2 {Γ : Cx} {q r sz : Nat} {M : Nat → Option va_E} {K : Int32 → Wd → Prop} {v0 v1 v2 v3 v4 v5 x : Int32} {s : Tr} (hqr : q < r ∨ r + 2 ≤ q) (hb : rwR Γ M r 40 (nI s.1) s.2) (hs : s.1 ≤ 40) (hq : M q = some (.inr (2, [.int v0, .int v1, .int v2, .int v3, .int v4, .int v5]))) (k : ∀ M', rwR Γ M' r 40 (nI (vTe 0 v0 v2 x s).2.1) (vTe 0 v0 v2 x s).2.2 → (vTe 0 v0 v2 x s).2.1 ≤ 40 → Off r 2 M M' → K (vTe 0 v0 v2 x s).1 (M', sz)) : Spec Γ mX2_tells 6 0 [.ref q, .int x, .ref r] (M, sz) (ci K) := by
  have e9 : vTe 0 v0 v2 x s = b13 0 v0 v2 x s := (if_neg (by decide)).trans (if_neg (by decide))
  rw [e9] at k
  exact v_te2_2 hqr hb hs hq k

theorem w_te_0 {Γ : Cx} {q r sz : Nat} {M : Nat → Option va_E} {K : Int32 → Wd → Prop} {v0 v1 v2 v3 v4 v5 x : Int32} {s : Tr} (hqr : q < r ∨ r + 2 ≤ q) (hb : rwR Γ M r 40 (nI s.1) s.2) (hs : s.1 ≤ 40) (hq : M q = some (.inr (0, [.int v0, .int v1, .int v2, .int v3, .int v4, .int v5]))) (k : ∀ M', rwR Γ M' r 40 (nI (vTe 1 v0 v2 x s).2.1) (vTe 1 v0 v2 x s).2.2 → (vTe 1 v0 v2 x s).2.1 ≤ 40 → Off r 2 M M' → K (vTe 1 v0 v2 x s).1 (M', sz)) : Spec Γ mX2_tells 6 0 [.ref q, .int x, .ref r] (M, sz) (ci K) := by
  have e9 : vTe 1 v0 v2 x s = b13 1 v0 v2 x s := (if_neg (by decide)).trans (if_neg (by decide))
  rw [e9] at k
  exact v_te2_0 hqr hb hs hq k

theorem w_te_9 {Γ : Cx} {q r sz : Nat} {M : Nat → Option va_E} {K : Int32 → Wd → Prop} {v0 v1 v2 v3 v4 v5 x : Int32} {s : Tr} (hqr : q < r ∨ r + 2 ≤ q) (hb : rwR Γ M r 40 (nI s.1) s.2) (hs : s.1 ≤ 40) (hq : M q = some (.inr (9, [.int v0, .int v1, .int v2, .int v3, .int v4, .int v5]))) (k : ∀ M', rwR Γ M' r 40 (nI (vTe 2 v0 v2 x s).2.1) (vTe 2 v0 v2 x s).2.2 → (vTe 2 v0 v2 x s).2.1 ≤ 40 → Off r 2 M M' → K (vTe 2 v0 v2 x s).1 (M', sz)) : Spec Γ mX2_tells 6 0 [.ref q, .int x, .ref r] (M, sz) (ci K) := by
  have e9 : vTe 2 v0 v2 x s = b13 2 v0 v2 x s := (if_neg (by decide)).trans (if_neg (by decide))
  rw [e9] at k
  exact v_te2_9 hqr hb hs hq k

theorem w_te_8 {Γ : Cx} {q r sz : Nat} {M : Nat → Option va_E} {K : Int32 → Wd → Prop} {v0 v1 v2 v3 v4 v5 x : Int32} {s : Tr} (hqr : q < r ∨ r + 2 ≤ q) (hb : rwR Γ M r 40 (nI s.1) s.2) (hs : s.1 ≤ 40) (hq : M q = some (.inr (8, [.int v0, .int v1, .int v2, .int v3, .int v4, .int v5]))) (k : ∀ M', rwR Γ M' r 40 (nI (vTe 3 v0 v2 x s).2.1) (vTe 3 v0 v2 x s).2.2 → (vTe 3 v0 v2 x s).2.1 ≤ 40 → Off r 2 M M' → K (vTe 3 v0 v2 x s).1 (M', sz)) : Spec Γ mX2_tells 6 0 [.ref q, .int x, .ref r] (M, sz) (ci K) := by
  have e9 : vTe 3 v0 v2 x s = b13 3 v0 v2 x s := (if_neg (by decide)).trans (if_neg (by decide))
  rw [e9] at k
  exact v_te2_8 hqr hb hs hq k

theorem w_te_1 {Γ : Cx} {q r sz : Nat} {M : Nat → Option va_E} {K : Int32 → Wd → Prop} {v0 v1 v2 v3 v4 v5 x : Int32} {s : Tr} (hqr : q < r ∨ r + 2 ≤ q) (hb : rwR Γ M r 40 (nI s.1) s.2) (hs : s.1 ≤ 40) (hq : M q = some (.inr (1, [.int v0, .int v1, .int v2, .int v3, .int v4, .int v5]))) (k : ∀ M', rwR Γ M' r 40 (nI (vTe 4 v0 v2 x s).2.1) (vTe 4 v0 v2 x s).2.2 → (vTe 4 v0 v2 x s).2.1 ≤ 40 → Off r 2 M M' → K (vTe 4 v0 v2 x s).1 (M', sz)) : Spec Γ mX2_tells 6 0 [.ref q, .int x, .ref r] (M, sz) (ci K) := by
  have e9 : vTe 4 v0 v2 x s = b13 4 v0 v2 x s := (if_neg (by decide)).trans (if_neg (by decide))
  rw [e9] at k
  exact v_te2_1 hqr hb hs hq k

theorem w_te_3 {Γ : Cx} {q r sz : Nat} {M : Nat → Option va_E} {K : Int32 → Wd → Prop} {v0 v1 v2 v3 v4 v5 x : Int32} {s : Tr} (hqr : q < r ∨ r + 2 ≤ q) (hb : rwR Γ M r 40 (nI s.1) s.2) (hs : s.1 ≤ 40) (hq : M q = some (.inr (3, [.int v0, .int v1, .int v2, .int v3, .int v4, .int v5]))) (k : ∀ M', rwR Γ M' r 40 (nI (vTe 5 v0 v2 x s).2.1) (vTe 5 v0 v2 x s).2.2 → (vTe 5 v0 v2 x s).2.1 ≤ 40 → Off r 2 M M' → K (vTe 5 v0 v2 x s).1 (M', sz)) : Spec Γ mX3_tells 7 0 [.ref q, .int x, .ref r] (M, sz) (ci K) := by
  have e9 : vTe 5 v0 v2 x s = b60 5 v0 v2 x s := if_pos (by decide)
  rw [e9] at k
  exact v_te3_3 hqr hb hs hq k

theorem w_te_4 {Γ : Cx} {q r sz : Nat} {M : Nat → Option va_E} {K : Int32 → Wd → Prop} {v0 v1 v2 v3 v4 v5 x : Int32} {s : Tr} (hqr : q < r ∨ r + 2 ≤ q) (hb : rwR Γ M r 40 (nI s.1) s.2) (hs : s.1 ≤ 40) (hq : M q = some (.inr (4, [.int v0, .int v1, .int v2, .int v3, .int v4, .int v5]))) (k : ∀ M', rwR Γ M' r 40 (nI (vTe 6 v0 v2 x s).2.1) (vTe 6 v0 v2 x s).2.2 → (vTe 6 v0 v2 x s).2.1 ≤ 40 → Off r 2 M M' → K (vTe 6 v0 v2 x s).1 (M', sz)) : Spec Γ mX4_tells 7 0 [.ref q, .int x, .ref r] (M, sz) (ci K) := by
  have e9 : vTe 6 v0 v2 x s = b71 6 v0 v2 x s := (if_neg (by decide)).trans (if_pos (by decide))
  rw [e9] at k
  exact v_te4_4 hqr hb hs hq k

theorem ql_X11_237_2 : QLink RX11 237 RX2 mX2_lifts mX2_lifts 2 := ⟨ml_X2_lifts, ⟨"KitePost$Kite", "lifts", "(ILKitePost$Row;)I"⟩, tw_973, tw_959, tw_962, tw_960, tw_961, tw_960, rfl, by decide +kernel⟩
theorem ql_X11_237_0 : QLink RX11 237 RX0 mX2_lifts mX2_lifts 2 := ⟨ml_X2_lifts, ⟨"KitePost$Kite", "lifts", "(ILKitePost$Row;)I"⟩, tw_973, tw_959, tw_962, tw_960, tw_963, tw_960, rfl, by decide +kernel⟩
theorem ql_X11_237_8 : QLink RX11 237 RX8 mX2_lifts mX2_lifts 2 := ⟨ml_X2_lifts, ⟨"KitePost$Kite", "lifts", "(ILKitePost$Row;)I"⟩, tw_973, tw_959, tw_962, tw_960, tw_971, tw_960, rfl, by decide +kernel⟩
theorem ql_X11_237_1 : QLink RX11 237 RX1 mX2_lifts mX2_lifts 2 := ⟨ml_X2_lifts, ⟨"KitePost$Kite", "lifts", "(ILKitePost$Row;)I"⟩, tw_973, tw_959, tw_962, tw_960, tw_964, tw_960, rfl, by decide +kernel⟩
theorem ql_X11_237_4 : QLink RX11 237 RX4 mX2_lifts mX2_lifts 2 := ⟨ml_X2_lifts, ⟨"KitePost$Kite", "lifts", "(ILKitePost$Row;)I"⟩, tw_973, tw_959, tw_962, tw_960, tw_970, tw_960, rfl, by decide +kernel⟩
theorem ok_vli {Γ : Cx} {b e z q r sz k0 : Nat} {L : List (Option Value)} {Q : Option Value → Wd → Prop} {σ : Rw} {M : Nat → Option va_E} {x : Int32} {s : Tr} (hd : decode mX11_voice.2.1 71 = .ok (.invokevirtual 237, 3)) (hK : KtQ e z σ k0 q M) (h6 : 0 ≤ kf σ k0 0 ∧ kf σ k0 0 ≤ 6) (hqr : q < r ∨ r + 2 ≤ q) (hb : rwR Γ M r 40 (nI s.1) s.2) (hs : s.1 ≤ 40)
    (k : ∀ M', rwR Γ M' r 40 (nI (vLi (kf σ k0 0) (nI k0) x s).2.1) (vLi (kf σ k0 0) (nI k0) x s).2.2 → (vLi (kf σ k0 0) (nI k0) x s).2.1 ≤ 40 → Off r 2 M M' → Ok Γ mX11_voice 8 b (71 + 3) L [.int (vLi (kf σ k0 0) (nI k0) x s).1] (M', sz) Q) : Ok Γ mX11_voice 8 b 71 L [.ref r, .int x, .ref q] (M, sz) Q := by
  obtain ⟨-, hq⟩ := hK
  unfold kfs at hq
  rcases kcl_cases h6 with h | h | h | h | h | h | h
  · have ek : kcl (kf σ k0 0) = 2 := by rw [h]; rfl
    rw [ek] at hq
    rw [h] at k
    refine ok_callQi2 (r := (RX2, TX2, 6)) (d' := 1) hd ql_X11_237_2 hq rfl rfl (by decide) ?_
    exact w_li_2 hqr hb hs hq k
  · have ek : kcl (kf σ k0 0) = 0 := by rw [h]; rfl
    rw [ek] at hq
    rw [h] at k
    refine ok_callQi2 (r := (RX0, TX0, 6)) (d' := 1) hd ql_X11_237_0 hq rfl rfl (by decide) ?_
    exact w_li_0 hqr hb hs hq k
  · have ek : kcl (kf σ k0 0) = 9 := by rw [h]; rfl
    rw [ek] at hq
    rw [h] at k
    refine ok_callQi2 (r := (RX9, TX9, 6)) (d' := 2) hd ql_X11_237_9 hq rfl rfl (by decide) ?_
    exact w_li_9 hqr hb hs hq k
  · have ek : kcl (kf σ k0 0) = 8 := by rw [h]; rfl
    rw [ek] at hq
    rw [h] at k
    refine ok_callQi2 (r := (RX8, TX8, 6)) (d' := 1) hd ql_X11_237_8 hq rfl rfl (by decide) ?_
    exact w_li_8 hqr hb hs hq k
  · have ek : kcl (kf σ k0 0) = 1 := by rw [h]; rfl
    rw [ek] at hq
    rw [h] at k
    refine ok_callQi2 (r := (RX1, TX1, 6)) (d' := 1) hd ql_X11_237_1 hq rfl rfl (by decide) ?_
    exact w_li_1 hqr hb hs hq k
  · have ek : kcl (kf σ k0 0) = 3 := by rw [h]; rfl
    rw [ek] at hq
    rw [h] at k
    refine ok_callQi2 (r := (RX3, TX3, 6)) (d' := 2) hd ql_X11_237_3 hq rfl rfl (by decide) ?_
    exact w_li_3 hqr hb hs hq k
  · have ek : kcl (kf σ k0 0) = 4 := by rw [h]; rfl
    rw [ek] at hq
    rw [h] at k
    refine ok_callQi2 (r := (RX4, TX4, 6)) (d' := 1) hd ql_X11_237_4 hq rfl rfl (by decide) ?_
    exact w_li_4 hqr hb hs hq k

theorem ql_X11_241_2 : QLink RX11 241 RX2 mX2_sways mX2_sways 2 := ⟨ml_X2_sways, ⟨"KitePost$Kite", "sways", "(ILKitePost$Row;)I"⟩, tw_1000, tw_975, tw_978, tw_976, tw_977, tw_976, rfl, by decide +kernel⟩
theorem ql_X11_241_9 : QLink RX11 241 RX9 mX2_sways mX2_sways 2 := ⟨ml_X2_sways, ⟨"KitePost$Kite", "sways", "(ILKitePost$Row;)I"⟩, tw_1000, tw_975, tw_978, tw_976, tw_999, tw_976, rfl, by decide +kernel⟩
theorem ql_X11_241_8 : QLink RX11 241 RX8 mX2_sways mX2_sways 2 := ⟨ml_X2_sways, ⟨"KitePost$Kite", "sways", "(ILKitePost$Row;)I"⟩, tw_1000, tw_975, tw_978, tw_976, tw_998, tw_976, rfl, by decide +kernel⟩
theorem ql_X11_241_3 : QLink RX11 241 RX3 mX2_sways mX2_sways 2 := ⟨ml_X2_sways, ⟨"KitePost$Kite", "sways", "(ILKitePost$Row;)I"⟩, tw_1000, tw_975, tw_978, tw_976, tw_996, tw_976, rfl, by decide +kernel⟩
theorem ql_X11_241_4 : QLink RX11 241 RX4 mX2_sways mX2_sways 2 := ⟨ml_X2_sways, ⟨"KitePost$Kite", "sways", "(ILKitePost$Row;)I"⟩, tw_1000, tw_975, tw_978, tw_976, tw_997, tw_976, rfl, by decide +kernel⟩
theorem ok_vsw {Γ : Cx} {b e z q r sz k0 : Nat} {L : List (Option Value)} {Q : Option Value → Wd → Prop} {σ : Rw} {M : Nat → Option va_E} {x : Int32} {s : Tr} (hd : decode mX11_voice.2.1 82 = .ok (.invokevirtual 241, 3)) (hK : KtQ e z σ k0 q M) (h6 : 0 ≤ kf σ k0 0 ∧ kf σ k0 0 ≤ 6) (hqr : q < r ∨ r + 2 ≤ q) (hb : rwR Γ M r 40 (nI s.1) s.2) (hs : s.1 ≤ 40)
    (k : ∀ M', rwR Γ M' r 40 (nI (vSw (kf σ k0 0) (nI k0) (kf σ k0 1) x s).2.1) (vSw (kf σ k0 0) (nI k0) (kf σ k0 1) x s).2.2 → (vSw (kf σ k0 0) (nI k0) (kf σ k0 1) x s).2.1 ≤ 40 → Off r 2 M M' → Ok Γ mX11_voice 8 b (82 + 3) L [.int (vSw (kf σ k0 0) (nI k0) (kf σ k0 1) x s).1] (M', sz) Q) : Ok Γ mX11_voice 8 b 82 L [.ref r, .int x, .ref q] (M, sz) Q := by
  obtain ⟨-, hq⟩ := hK
  unfold kfs at hq
  rcases kcl_cases h6 with h | h | h | h | h | h | h
  · have ek : kcl (kf σ k0 0) = 2 := by rw [h]; rfl
    rw [ek] at hq
    rw [h] at k
    refine ok_callQi2 (r := (RX2, TX2, 6)) (d' := 3) hd ql_X11_241_2 hq rfl rfl (by decide) ?_
    exact w_sw_2 hqr hb hs hq k
  · have ek : kcl (kf σ k0 0) = 0 := by rw [h]; rfl
    rw [ek] at hq
    rw [h] at k
    refine ok_callQi2 (r := (RX0, TX0, 6)) (d' := 4) hd ql_X11_241_0 hq rfl rfl (by decide) ?_
    exact w_sw_0 hqr hb hs hq k
  · have ek : kcl (kf σ k0 0) = 9 := by rw [h]; rfl
    rw [ek] at hq
    rw [h] at k
    refine ok_callQi2 (r := (RX9, TX9, 6)) (d' := 3) hd ql_X11_241_9 hq rfl rfl (by decide) ?_
    exact w_sw_9 hqr hb hs hq k
  · have ek : kcl (kf σ k0 0) = 8 := by rw [h]; rfl
    rw [ek] at hq
    rw [h] at k
    refine ok_callQi2 (r := (RX8, TX8, 6)) (d' := 3) hd ql_X11_241_8 hq rfl rfl (by decide) ?_
    exact w_sw_8 hqr hb hs hq k
  · have ek : kcl (kf σ k0 0) = 1 := by rw [h]; rfl
    rw [ek] at hq
    rw [h] at k
    refine ok_callQi2 (r := (RX1, TX1, 6)) (d' := 5) hd ql_X11_241_1 hq rfl rfl (by decide) ?_
    exact w_sw_1 hqr hb hs hq k
  · have ek : kcl (kf σ k0 0) = 3 := by rw [h]; rfl
    rw [ek] at hq
    rw [h] at k
    refine ok_callQi2 (r := (RX3, TX3, 6)) (d' := 3) hd ql_X11_241_3 hq rfl rfl (by decide) ?_
    exact w_sw_3 hqr hb hs hq k
  · have ek : kcl (kf σ k0 0) = 4 := by rw [h]; rfl
    rw [ek] at hq
    rw [h] at k
    refine ok_callQi2 (r := (RX4, TX4, 6)) (d' := 3) hd ql_X11_241_4 hq rfl rfl (by decide) ?_
    exact w_sw_4 hqr hb hs hq k

theorem ql_X11_244_2 : QLink RX11 244 RX2 mX2_sinks mX2_sinks 2 := ⟨ml_X2_sinks, ⟨"KitePost$Kite", "sinks", "(ILKitePost$Row;)I"⟩, tw_990, tw_1002, tw_1656, tw_989, tw_1659, tw_989, rfl, by decide +kernel⟩
theorem ql_X11_244_0 : QLink RX11 244 RX0 mX2_sinks mX2_sinks 2 := ⟨ml_X2_sinks, ⟨"KitePost$Kite", "sinks", "(ILKitePost$Row;)I"⟩, tw_990, tw_1002, tw_1656, tw_989, tw_1657, tw_989, rfl, by decide +kernel⟩
theorem ql_X11_244_9 : QLink RX11 244 RX9 mX2_sinks mX2_sinks 2 := ⟨ml_X2_sinks, ⟨"KitePost$Kite", "sinks", "(ILKitePost$Row;)I"⟩, tw_990, tw_1002, tw_1656, tw_989, tw_1664, tw_989, rfl, by decide +kernel⟩
theorem ql_X11_244_1 : QLink RX11 244 RX1 mX2_sinks mX2_sinks 2 := ⟨ml_X2_sinks, ⟨"KitePost$Kite", "sinks", "(ILKitePost$Row;)I"⟩, tw_990, tw_1002, tw_1656, tw_989, tw_1658, tw_989, rfl, by decide +kernel⟩
theorem ql_X11_244_3 : QLink RX11 244 RX3 mX2_sinks mX2_sinks 2 := ⟨ml_X2_sinks, ⟨"KitePost$Kite", "sinks", "(ILKitePost$Row;)I"⟩, tw_990, tw_1002, tw_1656, tw_989, tw_1660, tw_989, rfl, by decide +kernel⟩
theorem ok_vsi {Γ : Cx} {b e z q r sz k0 : Nat} {L : List (Option Value)} {Q : Option Value → Wd → Prop} {σ : Rw} {M : Nat → Option va_E} {x : Int32} {s : Tr} (hd : decode mX11_voice.2.1 93 = .ok (.invokevirtual 244, 3)) (hK : KtQ e z σ k0 q M) (h6 : 0 ≤ kf σ k0 0 ∧ kf σ k0 0 ≤ 6) (hqr : q < r ∨ r + 2 ≤ q) (hb : rwR Γ M r 40 (nI s.1) s.2) (hs : s.1 ≤ 40)
    (k : ∀ M', rwR Γ M' r 40 (nI (vSi (kf σ k0 0) (nI k0) (kf σ k0 1) x s).2.1) (vSi (kf σ k0 0) (nI k0) (kf σ k0 1) x s).2.2 → (vSi (kf σ k0 0) (nI k0) (kf σ k0 1) x s).2.1 ≤ 40 → Off r 2 M M' → Ok Γ mX11_voice 8 b (93 + 3) L [.int (vSi (kf σ k0 0) (nI k0) (kf σ k0 1) x s).1] (M', sz) Q) : Ok Γ mX11_voice 8 b 93 L [.ref r, .int x, .ref q] (M, sz) Q := by
  obtain ⟨-, hq⟩ := hK
  unfold kfs at hq
  rcases kcl_cases h6 with h | h | h | h | h | h | h
  · have ek : kcl (kf σ k0 0) = 2 := by rw [h]; rfl
    rw [ek] at hq
    rw [h] at k
    refine ok_callQi2 (r := (RX2, TX2, 6)) (d' := 1) hd ql_X11_244_2 hq rfl rfl (by decide) ?_
    exact w_si_2 hqr hb hs hq k
  · have ek : kcl (kf σ k0 0) = 0 := by rw [h]; rfl
    rw [ek] at hq
    rw [h] at k
    refine ok_callQi2 (r := (RX0, TX0, 6)) (d' := 1) hd ql_X11_244_0 hq rfl rfl (by decide) ?_
    exact w_si_0 hqr hb hs hq k
  · have ek : kcl (kf σ k0 0) = 9 := by rw [h]; rfl
    rw [ek] at hq
    rw [h] at k
    refine ok_callQi2 (r := (RX9, TX9, 6)) (d' := 1) hd ql_X11_244_9 hq rfl rfl (by decide) ?_
    exact w_si_9 hqr hb hs hq k
  · have ek : kcl (kf σ k0 0) = 8 := by rw [h]; rfl
    rw [ek] at hq
    rw [h] at k
    refine ok_callQi2 (r := (RX8, TX8, 6)) (d' := 2) hd ql_X11_244_8 hq rfl rfl (by decide) ?_
    exact w_si_8 hqr hb hs hq k
  · have ek : kcl (kf σ k0 0) = 1 := by rw [h]; rfl
    rw [ek] at hq
    rw [h] at k
    refine ok_callQi2 (r := (RX1, TX1, 6)) (d' := 1) hd ql_X11_244_1 hq rfl rfl (by decide) ?_
    exact w_si_1 hqr hb hs hq k
  · have ek : kcl (kf σ k0 0) = 3 := by rw [h]; rfl
    rw [ek] at hq
    rw [h] at k
    refine ok_callQi2 (r := (RX3, TX3, 6)) (d' := 1) hd ql_X11_244_3 hq rfl rfl (by decide) ?_
    exact w_si_3 hqr hb hs hq k
  · have ek : kcl (kf σ k0 0) = 4 := by rw [h]; rfl
    rw [ek] at hq
    rw [h] at k
    refine ok_callQi2 (r := (RX4, TX4, 6)) (d' := 3) hd ql_X11_244_4 hq rfl rfl (by decide) ?_
    exact w_si_4 hqr hb hs hq k

theorem ql_X11_247_2 : QLink RX11 247 RX2 mX2_tells mX2_tells 2 := ⟨ml_X2_tells, ⟨"KitePost$Kite", "tells", "(ILKitePost$Row;)I"⟩, tw_1039, tw_1011, tw_1014, tw_1012, tw_1013, tw_1012, rfl, by decide +kernel⟩
theorem ql_X11_247_0 : QLink RX11 247 RX0 mX2_tells mX2_tells 2 := ⟨ml_X2_tells, ⟨"KitePost$Kite", "tells", "(ILKitePost$Row;)I"⟩, tw_1039, tw_1011, tw_1014, tw_1012, tw_1015, tw_1012, rfl, by decide +kernel⟩
theorem ql_X11_247_9 : QLink RX11 247 RX9 mX2_tells mX2_tells 2 := ⟨ml_X2_tells, ⟨"KitePost$Kite", "tells", "(ILKitePost$Row;)I"⟩, tw_1039, tw_1011, tw_1014, tw_1012, tw_1038, tw_1012, rfl, by decide +kernel⟩
theorem ql_X11_247_8 : QLink RX11 247 RX8 mX2_tells mX2_tells 2 := ⟨ml_X2_tells, ⟨"KitePost$Kite", "tells", "(ILKitePost$Row;)I"⟩, tw_1039, tw_1011, tw_1014, tw_1012, tw_1037, tw_1012, rfl, by decide +kernel⟩
theorem ql_X11_247_1 : QLink RX11 247 RX1 mX2_tells mX2_tells 2 := ⟨ml_X2_tells, ⟨"KitePost$Kite", "tells", "(ILKitePost$Row;)I"⟩, tw_1039, tw_1011, tw_1014, tw_1012, tw_1016, tw_1012, rfl, by decide +kernel⟩
theorem ok_vte {Γ : Cx} {b e z q r sz k0 : Nat} {L : List (Option Value)} {Q : Option Value → Wd → Prop} {σ : Rw} {M : Nat → Option va_E} {x : Int32} {s : Tr} (hd : decode mX11_voice.2.1 104 = .ok (.invokevirtual 247, 3)) (hK : KtQ e z σ k0 q M) (h6 : 0 ≤ kf σ k0 0 ∧ kf σ k0 0 ≤ 6) (hqr : q < r ∨ r + 2 ≤ q) (hb : rwR Γ M r 40 (nI s.1) s.2) (hs : s.1 ≤ 40)
    (k : ∀ M', rwR Γ M' r 40 (nI (vTe (kf σ k0 0) (nI k0) (kf σ k0 1) x s).2.1) (vTe (kf σ k0 0) (nI k0) (kf σ k0 1) x s).2.2 → (vTe (kf σ k0 0) (nI k0) (kf σ k0 1) x s).2.1 ≤ 40 → Off r 2 M M' → Ok Γ mX11_voice 8 b (104 + 3) L [.int (vTe (kf σ k0 0) (nI k0) (kf σ k0 1) x s).1] (M', sz) Q) : Ok Γ mX11_voice 8 b 104 L [.ref r, .int x, .ref q] (M, sz) Q := by
  obtain ⟨-, hq⟩ := hK
  unfold kfs at hq
  rcases kcl_cases h6 with h | h | h | h | h | h | h
  · have ek : kcl (kf σ k0 0) = 2 := by rw [h]; rfl
    rw [ek] at hq
    rw [h] at k
    refine ok_callQi2 (r := (RX2, TX2, 6)) (d' := 6) hd ql_X11_247_2 hq rfl rfl (by decide) ?_
    exact w_te_2 hqr hb hs hq k
  · have ek : kcl (kf σ k0 0) = 0 := by rw [h]; rfl
    rw [ek] at hq
    rw [h] at k
    refine ok_callQi2 (r := (RX0, TX0, 6)) (d' := 6) hd ql_X11_247_0 hq rfl rfl (by decide) ?_
    exact w_te_0 hqr hb hs hq k
  · have ek : kcl (kf σ k0 0) = 9 := by rw [h]; rfl
    rw [ek] at hq
    rw [h] at k
    refine ok_callQi2 (r := (RX9, TX9, 6)) (d' := 6) hd ql_X11_247_9 hq rfl rfl (by decide) ?_
    exact w_te_9 hqr hb hs hq k
  · have ek : kcl (kf σ k0 0) = 8 := by rw [h]; rfl
    rw [ek] at hq
    rw [h] at k
    refine ok_callQi2 (r := (RX8, TX8, 6)) (d' := 6) hd ql_X11_247_8 hq rfl rfl (by decide) ?_
    exact w_te_8 hqr hb hs hq k
  · have ek : kcl (kf σ k0 0) = 1 := by rw [h]; rfl
    rw [ek] at hq
    rw [h] at k
    refine ok_callQi2 (r := (RX1, TX1, 6)) (d' := 6) hd ql_X11_247_1 hq rfl rfl (by decide) ?_
    exact w_te_1 hqr hb hs hq k
  · have ek : kcl (kf σ k0 0) = 3 := by rw [h]; rfl
    rw [ek] at hq
    rw [h] at k
    refine ok_callQi2 (r := (RX3, TX3, 6)) (d' := 7) hd ql_X11_247_3 hq rfl rfl (by decide) ?_
    exact w_te_3 hqr hb hs hq k
  · have ek : kcl (kf σ k0 0) = 4 := by rw [h]; rfl
    rw [ek] at hq
    rw [h] at k
    refine ok_callQi2 (r := (RX4, TX4, 6)) (d' := 7) hd ql_X11_247_4 hq rfl rfl (by decide) ?_
    exact w_te_4 hqr hb hs hq k
