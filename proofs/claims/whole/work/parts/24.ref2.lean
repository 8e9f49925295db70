set_option maxHeartbeats 1000000 in
theorem r_yOf {Γ : Cx} {m sz : Nat} {M0 M : Nat → Option va_E} {σ κ : Rw} {ri : Nat → Int32} {ra : Nat → Nat → Int32} {K : Int32 → Wd → Prop} (hR : RefX Γ m M0 σ κ ri ra M) {hI : Int32} (h : Nat) (eh : hI = nI h) (hh : h < 9) (k : K (hy σ h) (M, sz)) : Spec Γ mX12_yOf 0 0 [.ref m, .int hI] (M, sz) (ci K) := by
  refine spec_in [some (.ref m), some (.int hI)] 0 (by decide) rfl rfl ?_
  refine ok_aload_n (pc := 0) dX12_yOf_0 rfl ?_
  refine ok_getf (pc := 1) dX12_yOf_1 fl_X12_9 hR.o rfl ?_
  refine ok_bipush (pc := 4) (v := 9) dX12_yOf_4 (by decide) ?_
  refine ok_iconst (pc := 6) (v := 2) dX12_yOf_6 (by decide) ?_
  refine ok_iload_n (pc := 7) dX12_yOf_7 rfl ?_
  refine ok_imul (pc := 8) dX12_yOf_8 ?_
  refine ok_iadd (pc := 9) dX12_yOf_9 ?_
  refine ok_iald (pc := 10) (9 + 2 * h) dX12_yOf_10 hR.a0 (by simp only [eh, fa_lit, pk_mul, nI_add]) (by omega) (by decide) ?_
  refine ok_bipush (pc := 11) (v := 16) dX12_yOf_11 (by decide) ?_
  refine ok_irem (pc := 13) dX12_yOf_13 (by decide) ?_
  refine ok_iret (pc := 14) dX12_yOf_14 rfl ?_
  exact k

set_option maxHeartbeats 1000000 in
theorem r_xOf2 {Γ : Cx} {m sz : Nat} {M0 M : Nat → Option va_E} {σ κ : Rw} {ri : Nat → Int32} {ra : Nat → Nat → Int32} {K : Int32 → Wd → Prop} (hR : RefX Γ m M0 σ κ ri ra M) {hI : Int32} (h : Nat) (eh : hI = nI h) (hh : h < 9) (k : K (hx σ h) (M, sz)) : Spec Γ mX12_xOf 0 0 [.ref m, .int hI] (M, sz) (ci K) := by
  refine spec_in [some (.ref m), some (.int hI)] 0 (by decide) rfl rfl ?_
  refine ok_aload_n (pc := 0) dX12_xOf_0 rfl ?_
  refine ok_getf (pc := 1) dX12_xOf_1 fl_X12_9 hR.o rfl ?_
  refine ok_bipush (pc := 4) (v := 9) dX12_xOf_4 (by decide) ?_
  refine ok_iconst (pc := 6) (v := 2) dX12_xOf_6 (by decide) ?_
  refine ok_iload_n (pc := 7) dX12_xOf_7 rfl ?_
  refine ok_imul (pc := 8) dX12_xOf_8 ?_
  refine ok_iadd (pc := 9) dX12_xOf_9 ?_
  refine ok_iald (pc := 10) (9 + 2 * h) dX12_xOf_10 hR.a0 (by simp only [eh, fa_lit, pk_mul, nI_add]) (by omega) (by decide) ?_
  refine ok_bipush (pc := 11) (v := 16) dX12_xOf_11 (by decide) ?_
  refine ok_idiv (pc := 13) dX12_xOf_13 (by decide) ?_
  refine ok_iret (pc := 14) dX12_xOf_14 rfl ?_
  exact k

set_option maxHeartbeats 1000000 in
theorem r_highOf {Γ : Cx} {m sz : Nat} {M0 M : Nat → Option va_E} {σ κ : Rw} {ri : Nat → Int32} {ra : Nat → Nat → Int32} {K : Int32 → Wd → Prop} (hR : RefX Γ m M0 σ κ ri ra M) {hI : Int32} (h : Nat) (eh : hI = nI h) (hh : h < 9) (k : K (hz σ h) (M, sz)) : Spec Γ mX12_highOf 0 0 [.ref m, .int hI] (M, sz) (ci K) := by
  refine spec_in [some (.ref m), some (.int hI)] 0 (by decide) rfl rfl ?_
  refine ok_aload_n (pc := 0) dX12_highOf_0 rfl ?_
  refine ok_getf (pc := 1) dX12_highOf_1 fl_X12_9 hR.o rfl ?_
  refine ok_bipush (pc := 4) (v := 9) dX12_highOf_4 (by decide) ?_
  refine ok_iconst (pc := 6) (v := 2) dX12_highOf_6 (by decide) ?_
  refine ok_iload_n (pc := 7) dX12_highOf_7 rfl ?_
  refine ok_imul (pc := 8) dX12_highOf_8 ?_
  refine ok_iadd (pc := 9) dX12_highOf_9 ?_
  refine ok_iconst (pc := 10) (v := 1) dX12_highOf_10 (by decide) ?_
  refine ok_iadd (pc := 11) dX12_highOf_11 ?_
  refine ok_iald (pc := 12) (9 + 2 * h + 1) dX12_highOf_12 hR.a0 (by simp only [eh, fa_lit, pk_mul, nI_add]) (by omega) (by decide) ?_
  refine ok_iret (pc := 13) dX12_highOf_13 rfl ?_
  exact k

set_option maxHeartbeats 1000000 in
theorem r_kiteIs {Γ : Cx} {m sz : Nat} {M0 M : Nat → Option va_E} {σ κ : Rw} {ri : Nat → Int32} {ra : Nat → Nat → Int32} {K : Int32 → Wd → Prop} (hR : RefX Γ m M0 σ κ ri ra M) {kI fI : Int32} (k0 : Nat) (ek : kI = nI k0) (f0 : Nat) (ef : fI = nI f0) (hk : k0 < 8) (hf : f0 < 6) (k : K (kf σ k0 f0) (M, sz)) : Spec Γ mX12_kiteIs 0 0 [.ref m, .int kI, .int fI] (M, sz) (ci K) := by
  refine spec_in [some (.ref m), some (.int kI), some (.int fI)] 0 (by decide) rfl rfl ?_
  refine ok_aload_n (pc := 0) dX12_kiteIs_0 rfl ?_
  refine ok_getf (pc := 1) dX12_kiteIs_1 fl_X12_9 hR.o rfl ?_
  refine ok_bipush (pc := 4) (v := 51) dX12_kiteIs_4 (by decide) ?_
  refine ok_bipush (pc := 6) (v := 6) dX12_kiteIs_6 (by decide) ?_
  refine ok_iload_n (pc := 8) dX12_kiteIs_8 rfl ?_
  refine ok_imul (pc := 9) dX12_kiteIs_9 ?_
  refine ok_iadd (pc := 10) dX12_kiteIs_10 ?_
  refine ok_iload_n (pc := 11) dX12_kiteIs_11 rfl ?_
  refine ok_iadd (pc := 12) dX12_kiteIs_12 ?_
  refine ok_iald (pc := 13) (51 + 6 * k0 + f0) dX12_kiteIs_13 hR.a0 (by simp only [ek, ef, fa_lit, pk_mul, nI_add]) (by omega) (by decide) ?_
  refine ok_iret (pc := 14) dX12_kiteIs_14 rfl ?_
  exact k

set_option maxHeartbeats 1000000 in
theorem r_letterIs {Γ : Cx} {m sz : Nat} {M0 M : Nat → Option va_E} {σ κ : Rw} {ri : Nat → Int32} {ra : Nat → Nat → Int32} {K : Int32 → Wd → Prop} (hR : RefX Γ m M0 σ κ ri ra M) {lI fI : Int32} (l0 : Nat) (el : lI = nI l0) (f0 : Nat) (ef : fI = nI f0) (hl : l0 < 12) (hf : f0 < 7) (k : K (lf σ l0 f0) (M, sz)) : Spec Γ mX12_letterIs 0 0 [.ref m, .int lI, .int fI] (M, sz) (ci K) := by
  refine spec_in [some (.ref m), some (.int lI), some (.int fI)] 0 (by decide) rfl rfl ?_
  refine ok_aload_n (pc := 0) dX12_letterIs_0 rfl ?_
  refine ok_getf (pc := 1) dX12_letterIs_1 fl_X12_9 hR.o rfl ?_
  refine ok_bipush (pc := 4) (v := 99) dX12_letterIs_4 (by decide) ?_
  refine ok_bipush (pc := 6) (v := 7) dX12_letterIs_6 (by decide) ?_
  refine ok_iload_n (pc := 8) dX12_letterIs_8 rfl ?_
  refine ok_imul (pc := 9) dX12_letterIs_9 ?_
  refine ok_iadd (pc := 10) dX12_letterIs_10 ?_
  refine ok_iload_n (pc := 11) dX12_letterIs_11 rfl ?_
  refine ok_iadd (pc := 12) dX12_letterIs_12 ?_
  refine ok_iald (pc := 13) (99 + 7 * l0 + f0) dX12_letterIs_13 hR.a0 (by simp only [el, ef, fa_lit, pk_mul, nI_add]) (by omega) (by decide) ?_
  refine ok_iret (pc := 14) dX12_letterIs_14 rfl ?_
  exact k

set_option maxHeartbeats 1000000 in
theorem r_above {Γ : Cx} {G : Wd} {K : Int32 → Wd → Prop} {x : Int32} (k : K (aboveF x) G) : Spec Γ mX12_above 0 0 [.int x] G (ci K) := by
  refine spec_in [some (.int x)] 0 (by decide) rfl rfl ?_
  refine ok_iload_n (pc := 0) dX12_above_0 rfl ?_
  refine ok_if_ne (pc := 1) 8 dX12_above_1 (by decide) (fun cc_1 => ?_) (fun cc_1 => ?_)
  · refine ok_iload_n (pc := 8) dX12_above_8 rfl ?_
    refine ok_iconst (pc := 9) (v := 4) dX12_above_9 (by decide) ?_
    refine ok_icmp_ne (pc := 10) 17 dX12_above_10 (by decide) (fun cc_10 => ?_) (fun cc_10 => ?_)
    · refine ok_iload_n (pc := 17) dX12_above_17 rfl ?_
      refine ok_iconst (pc := 18) (v := 5) dX12_above_18 (by decide) ?_
      refine ok_icmp_ne (pc := 19) 26 dX12_above_19 (by decide) (fun cc_19 => ?_) (fun cc_19 => ?_)
      · refine ok_iload_n (pc := 26) dX12_above_26 rfl ?_
        refine ok_bipush (pc := 27) (v := 6) dX12_above_27 (by decide) ?_
        refine ok_icmp_ne (pc := 29) 36 dX12_above_29 (by decide) (fun cc_29 => ?_) (fun cc_29 => ?_)
        · refine ok_iconst (pc := 36) (v := 0) dX12_above_36 (by decide) ?_
          refine ok_iret (pc := 37) dX12_above_37 rfl ?_
          simpa [aboveF, cc_1, cc_10, cc_19, cc_29] using k
        · refine ok_iconst (pc := 32) (v := 3) dX12_above_32 (by decide) ?_
          refine ok_goto (pc := 33) 37 dX12_above_33 (by decide) ?_
          refine ok_iret (pc := 37) dX12_above_37 rfl ?_
          simpa [aboveF, cc_1, cc_10, cc_19, cc_29] using k
      · refine ok_iconst (pc := 22) (v := 2) dX12_above_22 (by decide) ?_
        refine ok_goto (pc := 23) 37 dX12_above_23 (by decide) ?_
        refine ok_iret (pc := 37) dX12_above_37 rfl ?_
        simpa [aboveF, cc_1, cc_10, cc_19] using k
    · refine ok_iconst (pc := 13) (v := 1) dX12_above_13 (by decide) ?_
      refine ok_goto (pc := 14) 37 dX12_above_14 (by decide) ?_
      refine ok_iret (pc := 37) dX12_above_37 rfl ?_
      simpa [aboveF, cc_1, cc_10] using k
  · refine ok_iconst (pc := 4) (v := -1) dX12_above_4 (by decide) ?_
    refine ok_goto (pc := 5) 37 dX12_above_5 (by decide) ?_
    refine ok_iret (pc := 37) dX12_above_37 rfl ?_
    simpa [aboveF, cc_1] using k

set_option maxHeartbeats 1000000 in
theorem r_isWind {Γ : Cx} {G : Wd} {K : Int32 → Wd → Prop} {x : Int32} (k : K (bI (wi x 0 79)) G) : Spec Γ mX12_isWind 1 0 [.int x] G (ci K) := by
  refine spec_in [some (.int x)] 0 (by decide) rfl rfl ?_
  refine ok_iload_n (pc := 0) dX12_isWind_0 rfl ?_
  refine ok_iconst (pc := 1) (v := 0) dX12_isWind_1 (by decide) ?_
  refine ok_bipush (pc := 2) (v := 79) dX12_isWind_2 (by decide) ?_
  refine ok_callSi3 (pc := 4) (d' := 0) dX12_isWind_4 sl_X12_75 rfl (by decide) ?_
  refine r_within ?_
  refine ok_zret (pc := 7) dX12_isWind_7 rfl (bI_z _) ?_
  exact k

set_option maxHeartbeats 1000000 in
theorem r_isLoad {Γ : Cx} {G : Wd} {K : Int32 → Wd → Prop} {x : Int32} (k : K (bI (wi x 0 999)) G) : Spec Γ mX12_isLoad 1 0 [.int x] G (ci K) := by
  refine spec_in [some (.int x)] 0 (by decide) rfl rfl ?_
  refine ok_iload_n (pc := 0) dX12_isLoad_0 rfl ?_
  refine ok_iconst (pc := 1) (v := 0) dX12_isLoad_1 (by decide) ?_
  refine ok_sipush (pc := 2) (v := 999) dX12_isLoad_2 (by decide) ?_
  refine ok_callSi3 (pc := 5) (d' := 0) dX12_isLoad_5 sl_X12_75 rfl (by decide) ?_
  refine r_within ?_
  refine ok_zret (pc := 8) dX12_isLoad_8 rfl (bI_z _) ?_
  exact k

set_option maxHeartbeats 1000000 in
theorem r_isSheet {Γ : Cx} {G : Wd} {K : Int32 → Wd → Prop} {x : Int32} (k : K (bI (wi x 0 3)) G) : Spec Γ mX12_isSheet 1 0 [.int x] G (ci K) := by
  refine spec_in [some (.int x)] 0 (by decide) rfl rfl ?_
  refine ok_iload_n (pc := 0) dX12_isSheet_0 rfl ?_
  refine ok_iconst (pc := 1) (v := 0) dX12_isSheet_1 (by decide) ?_
  refine ok_iconst (pc := 2) (v := 3) dX12_isSheet_2 (by decide) ?_
  refine ok_callSi3 (pc := 3) (d' := 0) dX12_isSheet_3 sl_X12_75 rfl (by decide) ?_
  refine r_within ?_
  refine ok_zret (pc := 6) dX12_isSheet_6 rfl (bI_z _) ?_
  exact k

set_option maxHeartbeats 1000000 in
theorem r_isSpan {Γ : Cx} {G : Wd} {K : Int32 → Wd → Prop} {x : Int32} (k : K (bI (wi x 1 72)) G) : Spec Γ mX12_isSpan 1 0 [.int x] G (ci K) := by
  refine spec_in [some (.int x)] 0 (by decide) rfl rfl ?_
  refine ok_iload_n (pc := 0) dX12_isSpan_0 rfl ?_
  refine ok_iconst (pc := 1) (v := 1) dX12_isSpan_1 (by decide) ?_
  refine ok_bipush (pc := 2) (v := 72) dX12_isSpan_2 (by decide) ?_
  refine ok_callSi3 (pc := 4) (d' := 0) dX12_isSpan_4 sl_X12_75 rfl (by decide) ?_
  refine r_within ?_
  refine ok_zret (pc := 7) dX12_isSpan_7 rfl (bI_z _) ?_
  exact k

set_option maxHeartbeats 1000000 in
theorem r_isAhead {Γ : Cx} {G : Wd} {K : Int32 → Wd → Prop} {x : Int32} (k : K (bI (wi x 0 72)) G) : Spec Γ mX12_isAhead 1 0 [.int x] G (ci K) := by
  refine spec_in [some (.int x)] 0 (by decide) rfl rfl ?_
  refine ok_iload_n (pc := 0) dX12_isAhead_0 rfl ?_
  refine ok_iconst (pc := 1) (v := 0) dX12_isAhead_1 (by decide) ?_
  refine ok_bipush (pc := 2) (v := 72) dX12_isAhead_2 (by decide) ?_
  refine ok_callSi3 (pc := 4) (d' := 0) dX12_isAhead_4 sl_X12_75 rfl (by decide) ?_
  refine r_within ?_
  refine ok_zret (pc := 7) dX12_isAhead_7 rfl (bI_z _) ?_
  exact k

set_option maxHeartbeats 1000000 in
theorem r_is {Γ : Cx} {m sz : Nat} {M0 M : Nat → Option va_E} {σ κ : Rw} {ri : Nat → Int32} {ra : Nat → Nat → Int32} {K : Int32 → Wd → Prop} (hR : RefX Γ m M0 σ κ ri ra M) {x cI : Int32} (c : Nat) (ec : cI = nI c) (hc : c < 369) (k : K (bI (wi x 0 (σ c - 1))) (M, sz)) : Spec Γ mX12_is 1 0 [.ref m, .int x, .int cI] (M, sz) (ci K) := by
  refine spec_in [some (.ref m), some (.int x), some (.int cI)] 0 (by decide) rfl rfl ?_
  refine ok_iload_n (pc := 0) dX12_is_0 rfl ?_
  refine ok_iconst (pc := 1) (v := 0) dX12_is_1 (by decide) ?_
  refine ok_aload_n (pc := 2) dX12_is_2 rfl ?_
  refine ok_getf (pc := 3) dX12_is_3 fl_X12_9 hR.o rfl ?_
  refine ok_iload_n (pc := 6) dX12_is_6 rfl ?_
  refine ok_iald (pc := 7) (c) dX12_is_7 hR.a0 ec hc (by decide) ?_
  refine ok_iconst (pc := 8) (v := 1) dX12_is_8 (by decide) ?_
  refine ok_isub (pc := 9) dX12_is_9 ?_
  refine ok_callSi3 (pc := 10) (d' := 0) dX12_is_10 sl_X12_75 rfl (by decide) ?_
  refine r_within ?_
  refine ok_zret (pc := 13) dX12_is_13 rfl (bI_z _) ?_
  exact k

set_option maxHeartbeats 1000000 in
theorem r_become {Γ : Cx} {m sz : Nat} {M0 M : Nat → Option va_E} {σ κ : Rw} {ri : Nat → Int32} {ra : Nat → Nat → Int32} {K : Int32 → Wd → Prop} (hR : RefX Γ m M0 σ κ ri ra M) {aI v : Int32} (a : Nat) (ea : aI = nI a) (ha : a < 369) (k : ∀ M', RefX Γ m M0 (upd σ a v) κ ri ra M' → K (σ a) (M', sz)) : Spec Γ mX12_become 0 0 [.ref m, .int aI, .int v] (M, sz) (ci K) := by
  refine spec_in [some (.ref m), some (.int aI), some (.int v), none] 1 (by decide) rfl rfl ?_
  refine ok_aload_n (pc := 0) dX12_become_0 rfl ?_
  refine ok_getf (pc := 1) dX12_become_1 fl_X12_9 hR.o rfl ?_
  refine ok_iload_n (pc := 4) dX12_become_4 rfl ?_
  refine ok_iald (pc := 5) (a) dX12_become_5 hR.a0 ea ha (by decide) ?_
  refine ok_istore_n3 (pc := 6) dX12_become_6 (by decide) rfl ?_
  refine ok_aload_n (pc := 7) dX12_become_7 rfl ?_
  refine ok_getf (pc := 8) dX12_become_8 fl_X12_9 hR.o rfl ?_
  refine ok_iload_n (pc := 11) dX12_become_11 rfl ?_
  refine ok_iload_n (pc := 12) dX12_become_12 rfl ?_
  refine ok_rst0 (pc := 13) (a) dX12_become_13 hR ea ha (fun M hR => ?_)
  refine ok_iload_n (pc := 14) dX12_become_14 rfl ?_
  refine ok_iret (pc := 15) dX12_become_15 rfl ?_
  exact k _ hR

set_option maxHeartbeats 1000000 in
theorem r_finding {Γ : Cx} {m sz : Nat} {M0 M : Nat → Option va_E} {σ κ : Rw} {ri : Nat → Int32} {ra : Nat → Nat → Int32} {K : Int32 → Wd → Prop} (hR : RefX Γ m M0 σ κ ri ra M) {w : Int32} (e : Nat) (he : -1000000000 - w = nI e) (hl : e < 6) (k : ∀ M', RefX Γ m M0 σ κ ri (va_up ra 4 (upd (ra 4) e (ra 4 e + 1))) M' → K w (M', sz)) : Spec Γ mX12_finding 0 0 [.ref m, .int w] (M, sz) (ci K) := by
  refine spec_in [some (.ref m), some (.int w)] 0 (by decide) rfl rfl ?_
  refine ok_aload_n (pc := 0) dX12_finding_0 rfl ?_
  refine ok_getf (pc := 1) dX12_finding_1 fl_X12_19 hR.o rfl ?_
  refine ok_ldc (pc := 4) (v := -1000000000) dX12_finding_4 tw_1210 ?_
  refine ok_iload_n (pc := 6) dX12_finding_6 rfl ?_
  refine ok_isub (pc := 7) dX12_finding_7 ?_
  refine ok_dup2 (pc := 8) dX12_finding_8 rfl rfl ?_
  refine ok_iald (pc := 9) (e) dX12_finding_9 hR.a4 he hl (by decide) ?_
  refine ok_iconst (pc := 10) (v := 1) dX12_finding_10 (by decide) ?_
  refine ok_iadd (pc := 11) dX12_finding_11 ?_
  refine ok_rst4 (pc := 12) (e) dX12_finding_12 hR he hl (fun M hR => ?_)
  refine ok_iload_n (pc := 13) dX12_finding_13 rfl ?_
  refine ok_iret (pc := 14) dX12_finding_14 rfl ?_
  exact k _ hR

set_option maxHeartbeats 1000000 in
theorem r_farOf {Γ : Cx} {m sz : Nat} {M0 M : Nat → Option va_E} {σ κ : Rw} {ri : Nat → Int32} {ra : Nat → Nat → Int32} {K : Int32 → Wd → Prop} (hR : RefX Γ m M0 σ κ ri ra M) {xI yI : Int32} (x y : Nat) (ex : xI = nI x) (ey : yI = nI y) (hx9 : x < 9) (hy9 : y < 9) (k : K (farF σ x y) (M, sz)) : Spec Γ mX12_farOf 1 0 [.ref m, .int xI, .int yI] (M, sz) (ci K) := by
  refine spec_in [some (.ref m), some (.int xI), some (.int yI)] 0 (by decide) rfl rfl ?_
  refine ok_aload_n (pc := 0) dX12_farOf_0 rfl ?_
  refine ok_iload_n (pc := 1) dX12_farOf_1 rfl ?_
  refine ok_callVi1 (pc := 2) (d' := 0) dX12_farOf_2 vl_X12_124 hR.o rfl rfl rfl (by decide) ?_
  refine r_xOf2 hR x ex hx9 ?_
  refine ok_aload_n (pc := 5) dX12_farOf_5 rfl ?_
  refine ok_iload_n (pc := 6) dX12_farOf_6 rfl ?_
  refine ok_callVi1 (pc := 7) (d' := 0) dX12_farOf_7 vl_X12_124 hR.o rfl rfl rfl (by decide) ?_
  refine r_xOf2 hR y ey hy9 ?_
  refine ok_isub (pc := 10) dX12_farOf_10 ?_
  refine ok_mabs (pc := 11) dX12_farOf_11 tw_1300 rfl (by decide) ?_
  refine ok_aload_n (pc := 14) dX12_farOf_14 rfl ?_
  refine ok_iload_n (pc := 15) dX12_farOf_15 rfl ?_
  refine ok_callVi1 (pc := 16) (d' := 0) dX12_farOf_16 vl_X12_130 hR.o rfl rfl rfl (by decide) ?_
  refine r_yOf hR x ex hx9 ?_
  refine ok_aload_n (pc := 19) dX12_farOf_19 rfl ?_
  refine ok_iload_n (pc := 20) dX12_farOf_20 rfl ?_
  refine ok_callVi1 (pc := 21) (d' := 0) dX12_farOf_21 vl_X12_130 hR.o rfl rfl rfl (by decide) ?_
  refine r_yOf hR y ey hy9 ?_
  refine ok_isub (pc := 24) dX12_farOf_24 ?_
  refine ok_mabs (pc := 25) dX12_farOf_25 tw_1300 rfl (by decide) ?_
  refine ok_iadd (pc := 28) dX12_farOf_28 ?_
  refine ok_iret (pc := 29) dX12_farOf_29 rfl ?_
  exact k

set_option maxHeartbeats 1000000 in
theorem r_sideOf {Γ : Cx} {m sz : Nat} {M0 M : Nat → Option va_E} {σ κ : Rw} {ri : Nat → Int32} {ra : Nat → Nat → Int32} {K : Int32 → Wd → Prop} (hR : RefX Γ m M0 σ κ ri ra M) {xI yI zI : Int32} (x y z : Nat) (ex : xI = nI x) (ey : yI = nI y) (ez : zI = nI z) (hx9 : x < 9) (hy9 : y < 9) (hz9 : z < 9) (k : K (sgF (turnF σ x y z)) (M, sz)) : Spec Γ mX12_sideOf 1 0 [.ref m, .int xI, .int yI, .int zI] (M, sz) (ci K) := by
  refine spec_in [some (.ref m), some (.int xI), some (.int yI), some (.int zI), none] 1 (by decide) rfl rfl ?_
  refine ok_aload_n (pc := 0) dX12_sideOf_0 rfl ?_
  refine ok_iload_n (pc := 1) dX12_sideOf_1 rfl ?_
  refine ok_callVi1 (pc := 2) (d' := 0) dX12_sideOf_2 vl_X12_124 hR.o rfl rfl rfl (by decide) ?_
  refine r_xOf2 hR y ey hy9 ?_
  refine ok_aload_n (pc := 5) dX12_sideOf_5 rfl ?_
  refine ok_iload_n (pc := 6) dX12_sideOf_6 rfl ?_
  refine ok_callVi1 (pc := 7) (d' := 0) dX12_sideOf_7 vl_X12_124 hR.o rfl rfl rfl (by decide) ?_
  refine r_xOf2 hR x ex hx9 ?_
  refine ok_isub (pc := 10) dX12_sideOf_10 ?_
  refine ok_aload_n (pc := 11) dX12_sideOf_11 rfl ?_
  refine ok_iload_n (pc := 12) dX12_sideOf_12 rfl ?_
  refine ok_callVi1 (pc := 13) (d' := 0) dX12_sideOf_13 vl_X12_130 hR.o rfl rfl rfl (by decide) ?_
  refine r_yOf hR z ez hz9 ?_
  refine ok_aload_n (pc := 16) dX12_sideOf_16 rfl ?_
  refine ok_iload_n (pc := 17) dX12_sideOf_17 rfl ?_
  refine ok_callVi1 (pc := 18) (d' := 0) dX12_sideOf_18 vl_X12_130 hR.o rfl rfl rfl (by decide) ?_
  refine r_yOf hR x ex hx9 ?_
  refine ok_isub (pc := 21) dX12_sideOf_21 ?_
  refine ok_imul (pc := 22) dX12_sideOf_22 ?_
  refine ok_aload_n (pc := 23) dX12_sideOf_23 rfl ?_
  refine ok_iload_n (pc := 24) dX12_sideOf_24 rfl ?_
  refine ok_callVi1 (pc := 25) (d' := 0) dX12_sideOf_25 vl_X12_130 hR.o rfl rfl rfl (by decide) ?_
  refine r_yOf hR y ey hy9 ?_
  refine ok_aload_n (pc := 28) dX12_sideOf_28 rfl ?_
  refine ok_iload_n (pc := 29) dX12_sideOf_29 rfl ?_
  refine ok_callVi1 (pc := 30) (d' := 0) dX12_sideOf_30 vl_X12_130 hR.o rfl rfl rfl (by decide) ?_
  refine r_yOf hR x ex hx9 ?_
  refine ok_isub (pc := 33) dX12_sideOf_33 ?_
  refine ok_aload_n (pc := 34) dX12_sideOf_34 rfl ?_
  refine ok_iload_n (pc := 35) dX12_sideOf_35 rfl ?_
  refine ok_callVi1 (pc := 36) (d' := 0) dX12_sideOf_36 vl_X12_124 hR.o rfl rfl rfl (by decide) ?_
  refine r_xOf2 hR z ez hz9 ?_
  refine ok_aload_n (pc := 39) dX12_sideOf_39 rfl ?_
  refine ok_iload_n (pc := 40) dX12_sideOf_40 rfl ?_
  refine ok_callVi1 (pc := 41) (d' := 0) dX12_sideOf_41 vl_X12_124 hR.o rfl rfl rfl (by decide) ?_
  refine r_xOf2 hR x ex hx9 ?_
  refine ok_isub (pc := 44) dX12_sideOf_44 ?_
  refine ok_imul (pc := 45) dX12_sideOf_45 ?_
  refine ok_isub (pc := 46) dX12_sideOf_46 ?_
  have ed : sgF (turnF σ x y z) = sgF ((hx σ y - hx σ x) * (hy σ z - hy σ x) - (hy σ y - hy σ x) * (hx σ z - hx σ x)) := rfl
  rw [ed] at k
  generalize (hx σ y - hx σ x) * (hy σ z - hy σ x) - (hy σ y - hy σ x) * (hx σ z - hx σ x) = t at k ⊢
  refine ok_istore4 (pc := 47) dX12_sideOf_47 (by decide) rfl ?_
  refine ok_iload (pc := 49) dX12_sideOf_49 rfl ?_
  refine ok_if_le (pc := 51) 58 dX12_sideOf_51 (by decide) (fun cc_51 => ?_) (fun cc_51 => ?_)
  · have ce_51 := Int32.not_lt.mpr cc_51
    refine ok_iload (pc := 58) dX12_sideOf_58 rfl ?_
    refine ok_if_ge (pc := 60) 67 dX12_sideOf_60 (by decide) (fun cc_60 => ?_) (fun cc_60 => ?_)
    · have ce_60 := Int32.not_lt.mpr cc_60
      refine ok_iconst (pc := 67) (v := 0) dX12_sideOf_67 (by decide) ?_
      refine ok_iret (pc := 68) dX12_sideOf_68 rfl ?_
      simpa [sgF, cc_51, ce_51, cc_60, ce_60] using k
    · have ce_60 := Int32.not_le.mp cc_60
      refine ok_iconst (pc := 63) (v := -1) dX12_sideOf_63 (by decide) ?_
      refine ok_goto (pc := 64) 68 dX12_sideOf_64 (by decide) ?_
      refine ok_iret (pc := 68) dX12_sideOf_68 rfl ?_
      simpa [sgF, cc_51, ce_51, cc_60, ce_60] using k
  · have ce_51 := Int32.not_le.mp cc_51
    refine ok_iconst (pc := 54) (v := 1) dX12_sideOf_54 (by decide) ?_
    refine ok_goto (pc := 55) 68 dX12_sideOf_55 (by decide) ?_
    refine ok_iret (pc := 68) dX12_sideOf_68 rfl ?_
    simpa [sgF, cc_51, ce_51] using k

set_option maxHeartbeats 1000000 in
theorem r_hasText {Γ : Cx} {m sz : Nat} {M0 M : Nat → Option va_E} {σ κ : Rw} {ri : Nat → Int32} {ra : Nat → Nat → Int32} {K : Int32 → Wd → Prop} (hR : RefX Γ m M0 σ κ ri ra M) {uI : Int32} (u : Nat) (eu : uI = nI u) (hu : u < 2) (k : K (bI (decide (0 < σ (265 + 52 * u)))) (M, sz)) : Spec Γ mX12_hasText 0 0 [.ref m, .int uI] (M, sz) (ci K) := by
  refine spec_in [some (.ref m), some (.int uI)] 0 (by decide) rfl rfl ?_
  refine ok_aload_n (pc := 0) dX12_hasText_0 rfl ?_
  refine ok_getf (pc := 1) dX12_hasText_1 fl_X12_9 hR.o rfl ?_
  refine ok_sipush (pc := 4) (v := 265) dX12_hasText_4 (by decide) ?_
  refine ok_bipush (pc := 7) (v := 52) dX12_hasText_7 (by decide) ?_
  refine ok_iload_n (pc := 9) dX12_hasText_9 rfl ?_
  refine ok_imul (pc := 10) dX12_hasText_10 ?_
  refine ok_iadd (pc := 11) dX12_hasText_11 ?_
  refine ok_iald (pc := 12) (265 + 52 * u) dX12_hasText_12 hR.a0 (by simp only [eu, fa_lit, pk_mul, nI_add]) (by omega) (by decide) ?_
  refine ok_if_le (pc := 13) 20 dX12_hasText_13 (by decide) (fun cc_13 => ?_) (fun cc_13 => ?_)
  · have ce_13 := Int32.not_lt.mpr cc_13
    refine ok_iconst (pc := 20) (v := 0) dX12_hasText_20 (by decide) ?_
    refine ok_zret (pc := 21) dX12_hasText_21 rfl rfl ?_
    simpa [bI, cc_13, ce_13] using k
  · have ce_13 := Int32.not_le.mp cc_13
    refine ok_iconst (pc := 16) (v := 1) dX12_hasText_16 (by decide) ?_
    refine ok_goto (pc := 17) 21 dX12_hasText_17 (by decide) ?_
    refine ok_zret (pc := 21) dX12_hasText_21 rfl rfl ?_
    simpa [bI, cc_13, ce_13] using k
