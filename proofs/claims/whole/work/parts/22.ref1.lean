set_option maxHeartbeats 1000000 in
theorem r_within {Γ : Cx} {G : Wd} {K : Int32 → Wd → Prop} {v x y : Int32} (k : K (bI (wi v x y)) G) : Spec Γ mX12_within 0 0 [.int v, .int x, .int y] G (ci K) := by
  refine spec_in [some (.int v), some (.int x), some (.int y)] 0 (by decide) rfl rfl ?_
  refine ok_iload_n (pc := 0) dX12_within_0 rfl ?_
  refine ok_iload_n (pc := 1) dX12_within_1 rfl ?_
  refine ok_icmp_lt (pc := 2) 14 dX12_within_2 (by decide) (fun cc_2 => ?_) (fun cc_2 => ?_)
  · have ce_2 := Int32.not_le.mpr cc_2
    refine ok_iconst (pc := 14) (v := 0) dX12_within_14 (by decide) ?_
    refine ok_zret (pc := 15) dX12_within_15 rfl rfl ?_
    simpa [wi, bI, cc_2, ce_2] using k
  · have ce_2 := Int32.not_lt.mp cc_2
    refine ok_iload_n (pc := 5) dX12_within_5 rfl ?_
    refine ok_iload_n (pc := 6) dX12_within_6 rfl ?_
    refine ok_icmp_gt (pc := 7) 14 dX12_within_7 (by decide) (fun cc_7 => ?_) (fun cc_7 => ?_)
    · have ce_7 := Int32.not_le.mpr cc_7
      refine ok_iconst (pc := 14) (v := 0) dX12_within_14 (by decide) ?_
      refine ok_zret (pc := 15) dX12_within_15 rfl rfl ?_
      simpa [wi, bI, cc_2, ce_2, cc_7, ce_7] using k
    · have ce_7 := Int32.not_lt.mp cc_7
      refine ok_iconst (pc := 10) (v := 1) dX12_within_10 (by decide) ?_
      refine ok_goto (pc := 11) 15 dX12_within_11 (by decide) ?_
      refine ok_zret (pc := 15) dX12_within_15 rfl rfl ?_
      simpa [wi, bI, cc_2, ce_2, cc_7, ce_7] using k

set_option maxHeartbeats 1000000 in
theorem r_hasBit {Γ : Cx} {G : Wd} {K : Int32 → Wd → Prop} {v x : Int32} (k : K (bI (decide (jshr v x &&& 1 = 1))) G) : Spec Γ mX12_hasBit 0 0 [.int v, .int x] G (ci K) := by
  refine spec_in [some (.int v), some (.int x)] 0 (by decide) rfl rfl ?_
  refine ok_iload_n (pc := 0) dX12_hasBit_0 rfl ?_
  refine ok_iload_n (pc := 1) dX12_hasBit_1 rfl ?_
  refine ok_ishr (pc := 2) dX12_hasBit_2 ?_
  refine ok_iconst (pc := 3) (v := 1) dX12_hasBit_3 (by decide) ?_
  refine ok_iand (pc := 4) dX12_hasBit_4 ?_
  refine ok_iconst (pc := 5) (v := 1) dX12_hasBit_5 (by decide) ?_
  refine ok_icmp_ne (pc := 6) 13 dX12_hasBit_6 (by decide) (fun cc_6 => ?_) (fun cc_6 => ?_)
  · refine ok_iconst (pc := 13) (v := 0) dX12_hasBit_13 (by decide) ?_
    refine ok_zret (pc := 14) dX12_hasBit_14 rfl rfl ?_
    simpa [bI, cc_6] using k
  · refine ok_iconst (pc := 9) (v := 1) dX12_hasBit_9 (by decide) ?_
    refine ok_goto (pc := 10) 14 dX12_hasBit_10 (by decide) ?_
    refine ok_zret (pc := 14) dX12_hasBit_14 rfl rfl ?_
    simpa [bI, cc_6] using k

set_option maxHeartbeats 1000000 in
theorem r_held {Γ : Cx} {G : Wd} {K : Int32 → Wd → Prop} {v x y : Int32} (k : K (jmax x (jmin y v)) G) : Spec Γ mX12_held 1 0 [.int v, .int x, .int y] G (ci K) := by
  refine spec_in [some (.int v), some (.int x), some (.int y)] 0 (by decide) rfl rfl ?_
  refine ok_iload_n (pc := 0) dX12_held_0 rfl ?_
  refine ok_iload_n (pc := 1) dX12_held_1 rfl ?_
  refine ok_iload_n (pc := 2) dX12_held_2 rfl ?_
  refine ok_mmin (pc := 3) dX12_held_3 tw_1327 rfl (by decide) ?_
  refine ok_mmax (pc := 6) dX12_held_6 tw_1291 rfl (by decide) ?_
  refine ok_iret (pc := 9) dX12_held_9 rfl ?_
  exact k

set_option maxHeartbeats 1000000 in
theorem r_xOf {Γ : Cx} {m sz : Nat} {M0 M : Nat → Option va_E} {σ κ : Nat → Int32} {ri : Nat → Int32} {ra : Nat → Nat → Int32} {K : Int32 → Wd → Prop} (hR : RefX Γ m M0 σ κ ri ra M) {h : Nat} (hh : h < 9) (k : K (σ (9 + 2 * h) / 16) (M, sz)) : Spec Γ mX12_xOf 0 0 [.ref m, .int (nI h)] (M, sz) (ci K) := by
  refine spec_in [some (.ref m), some (.int (nI h))] 0 (by decide) rfl rfl ?_
  refine ok_aload_n (pc := 0) dX12_xOf_0 rfl ?_
  refine ok_getf (pc := 1) dX12_xOf_1 fl_X12_9 hR.o rfl ?_
  refine ok_bipush (pc := 4) (v := 9) dX12_xOf_4 (by decide) ?_
  refine ok_iconst (pc := 6) (v := 2) dX12_xOf_6 (by decide) ?_
  refine ok_iload_n (pc := 7) dX12_xOf_7 rfl ?_
  refine ok_imul (pc := 8) dX12_xOf_8 ?_
  refine ok_iadd (pc := 9) dX12_xOf_9 ?_
  refine ok_iald (pc := 10) (9 + 2 * h) dX12_xOf_10 hR.a0 (by rw [fa_lit 9, fa_lit 2, pk_mul, nI_add]) (by omega) (by decide) ?_
  refine ok_bipush (pc := 11) (v := 16) dX12_xOf_11 (by decide) ?_
  refine ok_idiv (pc := 13) dX12_xOf_13 (by decide) ?_
  refine ok_iret (pc := 14) dX12_xOf_14 rfl ?_
  exact k
