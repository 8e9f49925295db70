set_option maxHeartbeats 1000000 in
theorem c_k2_2 {Γ : Cx} {a sz : Nat} {M0 M : Nat → Option va_E} {K : Wd → Prop} {n9 kd hm9 sl : Int32} (hV : Hv a M0 M [.inr (2, fs0_X2)]) (k : ∀ M', Hv a M0 M' [.inr (2, [.int n9, .int (kd / 10), .int (jrem kd 10), .int hm9, .int (sl / 100), .int (jrem sl 100)])] → K (M', sz)) : Spec Γ mX2_init 1 0 [.ref a, .int n9, .int kd, .int hm9, .int sl] (M, sz) (cv K) := by
  refine spec_in [some (.ref a), some (.int n9), some (.int kd), some (.int hm9), some (.int sl)] 0 (by decide) rfl rfl ?_
  refine ok_aload_n (pc := 0) dX2_init_0 rfl ?_
  refine ok_objInit (pc := 1) dX2_init_1 tw_386 tw_108 tw_109 rfl (by decide) ?_
  refine ok_aload_n (pc := 4) dX2_init_4 rfl ?_
  refine ok_iload_n (pc := 5) dX2_init_5 rfl ?_
  refine hv_putF (pc := 6) (j := 0) [.inr (2, [.int n9, .int 0, .int 0, .int 0, .int 0, .int 0])] dX2_init_6 pl_X2_7_2 rfl hV rfl rfl rfl rfl (by show 0 < 6; decide) rfl (fun M hV => ?_)
  refine ok_aload_n (pc := 9) dX2_init_9 rfl ?_
  refine ok_iload_n (pc := 10) dX2_init_10 rfl ?_
  refine ok_bipush (pc := 11) (v := 10) dX2_init_11 (by decide) ?_
  refine ok_idiv (pc := 13) dX2_init_13 (by decide) ?_
  refine hv_putF (pc := 14) (j := 0) [.inr (2, [.int n9, .int (kd / 10), .int 0, .int 0, .int 0, .int 0])] dX2_init_14 pl_X2_13_2 rfl hV rfl rfl rfl rfl (by show 1 < 6; decide) rfl (fun M hV => ?_)
  refine ok_aload_n (pc := 17) dX2_init_17 rfl ?_
  refine ok_iload_n (pc := 18) dX2_init_18 rfl ?_
  refine ok_bipush (pc := 19) (v := 10) dX2_init_19 (by decide) ?_
  refine ok_irem (pc := 21) dX2_init_21 (by decide) ?_
  refine hv_putF (pc := 22) (j := 0) [.inr (2, [.int n9, .int (kd / 10), .int (jrem kd 10), .int 0, .int 0, .int 0])] dX2_init_22 pl_X2_16_2 rfl hV rfl rfl rfl rfl (by show 2 < 6; decide) rfl (fun M hV => ?_)
  refine ok_aload_n (pc := 25) dX2_init_25 rfl ?_
  refine ok_iload_n (pc := 26) dX2_init_26 rfl ?_
  refine hv_putF (pc := 27) (j := 0) [.inr (2, [.int n9, .int (kd / 10), .int (jrem kd 10), .int hm9, .int 0, .int 0])] dX2_init_27 pl_X2_19_2 rfl hV rfl rfl rfl rfl (by show 3 < 6; decide) rfl (fun M hV => ?_)
  refine ok_aload_n (pc := 30) dX2_init_30 rfl ?_
  refine ok_iload (pc := 31) dX2_init_31 rfl ?_
  refine ok_bipush (pc := 33) (v := 100) dX2_init_33 (by decide) ?_
  refine ok_idiv (pc := 35) dX2_init_35 (by decide) ?_
  refine hv_putF (pc := 36) (j := 0) [.inr (2, [.int n9, .int (kd / 10), .int (jrem kd 10), .int hm9, .int (sl / 100), .int 0])] dX2_init_36 pl_X2_22_2 rfl hV rfl rfl rfl rfl (by show 4 < 6; decide) rfl (fun M hV => ?_)
  refine ok_aload_n (pc := 39) dX2_init_39 rfl ?_
  refine ok_iload (pc := 40) dX2_init_40 rfl ?_
  refine ok_bipush (pc := 42) (v := 100) dX2_init_42 (by decide) ?_
  refine ok_irem (pc := 44) dX2_init_44 (by decide) ?_
  refine hv_putF (pc := 45) (j := 0) [.inr (2, [.int n9, .int (kd / 10), .int (jrem kd 10), .int hm9, .int (sl / 100), .int (jrem sl 100)])] dX2_init_45 pl_X2_25_2 rfl hV rfl rfl rfl rfl (by show 5 < 6; decide) rfl (fun M hV => ?_)
  refine ok_vret (pc := 48) dX2_init_48 rfl ?_
  exact k _ hV

set_option maxHeartbeats 1000000 in
theorem c_k2_0 {Γ : Cx} {a sz : Nat} {M0 M : Nat → Option va_E} {K : Wd → Prop} {n9 kd hm9 sl : Int32} (hV : Hv a M0 M [.inr (0, fs0_X0)]) (k : ∀ M', Hv a M0 M' [.inr (0, [.int n9, .int (kd / 10), .int (jrem kd 10), .int hm9, .int (sl / 100), .int (jrem sl 100)])] → K (M', sz)) : Spec Γ mX2_init 1 0 [.ref a, .int n9, .int kd, .int hm9, .int sl] (M, sz) (cv K) := by
  refine spec_in [some (.ref a), some (.int n9), some (.int kd), some (.int hm9), some (.int sl)] 0 (by decide) rfl rfl ?_
  refine ok_aload_n (pc := 0) dX2_init_0 rfl ?_
  refine ok_objInit (pc := 1) dX2_init_1 tw_386 tw_108 tw_109 rfl (by decide) ?_
  refine ok_aload_n (pc := 4) dX2_init_4 rfl ?_
  refine ok_iload_n (pc := 5) dX2_init_5 rfl ?_
  refine hv_putF (pc := 6) (j := 0) [.inr (0, [.int n9, .int 0, .int 0, .int 0, .int 0, .int 0])] dX2_init_6 pl_X2_7_0 rfl hV rfl rfl rfl rfl (by show 0 < 6; decide) rfl (fun M hV => ?_)
  refine ok_aload_n (pc := 9) dX2_init_9 rfl ?_
  refine ok_iload_n (pc := 10) dX2_init_10 rfl ?_
  refine ok_bipush (pc := 11) (v := 10) dX2_init_11 (by decide) ?_
  refine ok_idiv (pc := 13) dX2_init_13 (by decide) ?_
  refine hv_putF (pc := 14) (j := 0) [.inr (0, [.int n9, .int (kd / 10), .int 0, .int 0, .int 0, .int 0])] dX2_init_14 pl_X2_13_0 rfl hV rfl rfl rfl rfl (by show 1 < 6; decide) rfl (fun M hV => ?_)
  refine ok_aload_n (pc := 17) dX2_init_17 rfl ?_
  refine ok_iload_n (pc := 18) dX2_init_18 rfl ?_
  refine ok_bipush (pc := 19) (v := 10) dX2_init_19 (by decide) ?_
  refine ok_irem (pc := 21) dX2_init_21 (by decide) ?_
  refine hv_putF (pc := 22) (j := 0) [.inr (0, [.int n9, .int (kd / 10), .int (jrem kd 10), .int 0, .int 0, .int 0])] dX2_init_22 pl_X2_16_0 rfl hV rfl rfl rfl rfl (by show 2 < 6; decide) rfl (fun M hV => ?_)
  refine ok_aload_n (pc := 25) dX2_init_25 rfl ?_
  refine ok_iload_n (pc := 26) dX2_init_26 rfl ?_
  refine hv_putF (pc := 27) (j := 0) [.inr (0, [.int n9, .int (kd / 10), .int (jrem kd 10), .int hm9, .int 0, .int 0])] dX2_init_27 pl_X2_19_0 rfl hV rfl rfl rfl rfl (by show 3 < 6; decide) rfl (fun M hV => ?_)
  refine ok_aload_n (pc := 30) dX2_init_30 rfl ?_
  refine ok_iload (pc := 31) dX2_init_31 rfl ?_
  refine ok_bipush (pc := 33) (v := 100) dX2_init_33 (by decide) ?_
  refine ok_idiv (pc := 35) dX2_init_35 (by decide) ?_
  refine hv_putF (pc := 36) (j := 0) [.inr (0, [.int n9, .int (kd / 10), .int (jrem kd 10), .int hm9, .int (sl / 100), .int 0])] dX2_init_36 pl_X2_22_0 rfl hV rfl rfl rfl rfl (by show 4 < 6; decide) rfl (fun M hV => ?_)
  refine ok_aload_n (pc := 39) dX2_init_39 rfl ?_
  refine ok_iload (pc := 40) dX2_init_40 rfl ?_
  refine ok_bipush (pc := 42) (v := 100) dX2_init_42 (by decide) ?_
  refine ok_irem (pc := 44) dX2_init_44 (by decide) ?_
  refine hv_putF (pc := 45) (j := 0) [.inr (0, [.int n9, .int (kd / 10), .int (jrem kd 10), .int hm9, .int (sl / 100), .int (jrem sl 100)])] dX2_init_45 pl_X2_25_0 rfl hV rfl rfl rfl rfl (by show 5 < 6; decide) rfl (fun M hV => ?_)
  refine ok_vret (pc := 48) dX2_init_48 rfl ?_
  exact k _ hV

set_option maxHeartbeats 1000000 in
theorem c_k0_0 {Γ : Cx} {a sz : Nat} {M0 M : Nat → Option va_E} {K : Wd → Prop} {n9 kd hm9 sl : Int32} (hV : Hv a M0 M [.inr (0, fs0_X0)]) (k : ∀ M', Hv a M0 M' [.inr (0, [.int n9, .int (kd / 10), .int (jrem kd 10), .int hm9, .int (sl / 100), .int (jrem sl 100)])] → K (M', sz)) : Spec Γ mX0_init 2 0 [.ref a, .int n9, .int kd, .int hm9, .int sl] (M, sz) (cv K) := by
  refine spec_in [some (.ref a), some (.int n9), some (.int kd), some (.int hm9), some (.int sl)] 0 (by decide) rfl rfl ?_
  refine ok_aload_n (pc := 0) dX0_init_0 rfl ?_
  refine ok_iload_n (pc := 1) dX0_init_1 rfl ?_
  refine ok_iload_n (pc := 2) dX0_init_2 rfl ?_
  refine ok_iload_n (pc := 3) dX0_init_3 rfl ?_
  refine ok_iload (pc := 4) dX0_init_4 rfl ?_
  refine ok_callIv4B (pc := 6) (d' := 1) (b' := 0) (b'' := 0) dX0_init_6 il_X0_1 rfl (by decide) (by decide) ?_
  refine c_k2_0 hV (fun M hV => ?_)
  refine ok_vret (pc := 9) dX0_init_9 rfl ?_
  exact k _ hV

set_option maxHeartbeats 1000000 in
theorem c_k2_9 {Γ : Cx} {a sz : Nat} {M0 M : Nat → Option va_E} {K : Wd → Prop} {n9 kd hm9 sl : Int32} (hV : Hv a M0 M [.inr (9, fs0_X9)]) (k : ∀ M', Hv a M0 M' [.inr (9, [.int n9, .int (kd / 10), .int (jrem kd 10), .int hm9, .int (sl / 100), .int (jrem sl 100)])] → K (M', sz)) : Spec Γ mX2_init 1 0 [.ref a, .int n9, .int kd, .int hm9, .int sl] (M, sz) (cv K) := by
  refine spec_in [some (.ref a), some (.int n9), some (.int kd), some (.int hm9), some (.int sl)] 0 (by decide) rfl rfl ?_
  refine ok_aload_n (pc := 0) dX2_init_0 rfl ?_
  refine ok_objInit (pc := 1) dX2_init_1 tw_386 tw_108 tw_109 rfl (by decide) ?_
  refine ok_aload_n (pc := 4) dX2_init_4 rfl ?_
  refine ok_iload_n (pc := 5) dX2_init_5 rfl ?_
  refine hv_putF (pc := 6) (j := 0) [.inr (9, [.int n9, .int 0, .int 0, .int 0, .int 0, .int 0])] dX2_init_6 pl_X2_7_9 rfl hV rfl rfl rfl rfl (by show 0 < 6; decide) rfl (fun M hV => ?_)
  refine ok_aload_n (pc := 9) dX2_init_9 rfl ?_
  refine ok_iload_n (pc := 10) dX2_init_10 rfl ?_
  refine ok_bipush (pc := 11) (v := 10) dX2_init_11 (by decide) ?_
  refine ok_idiv (pc := 13) dX2_init_13 (by decide) ?_
  refine hv_putF (pc := 14) (j := 0) [.inr (9, [.int n9, .int (kd / 10), .int 0, .int 0, .int 0, .int 0])] dX2_init_14 pl_X2_13_9 rfl hV rfl rfl rfl rfl (by show 1 < 6; decide) rfl (fun M hV => ?_)
  refine ok_aload_n (pc := 17) dX2_init_17 rfl ?_
  refine ok_iload_n (pc := 18) dX2_init_18 rfl ?_
  refine ok_bipush (pc := 19) (v := 10) dX2_init_19 (by decide) ?_
  refine ok_irem (pc := 21) dX2_init_21 (by decide) ?_
  refine hv_putF (pc := 22) (j := 0) [.inr (9, [.int n9, .int (kd / 10), .int (jrem kd 10), .int 0, .int 0, .int 0])] dX2_init_22 pl_X2_16_9 rfl hV rfl rfl rfl rfl (by show 2 < 6; decide) rfl (fun M hV => ?_)
  refine ok_aload_n (pc := 25) dX2_init_25 rfl ?_
  refine ok_iload_n (pc := 26) dX2_init_26 rfl ?_
  refine hv_putF (pc := 27) (j := 0) [.inr (9, [.int n9, .int (kd / 10), .int (jrem kd 10), .int hm9, .int 0, .int 0])] dX2_init_27 pl_X2_19_9 rfl hV rfl rfl rfl rfl (by show 3 < 6; decide) rfl (fun M hV => ?_)
  refine ok_aload_n (pc := 30) dX2_init_30 rfl ?_
  refine ok_iload (pc := 31) dX2_init_31 rfl ?_
  refine ok_bipush (pc := 33) (v := 100) dX2_init_33 (by decide) ?_
  refine ok_idiv (pc := 35) dX2_init_35 (by decide) ?_
  refine hv_putF (pc := 36) (j := 0) [.inr (9, [.int n9, .int (kd / 10), .int (jrem kd 10), .int hm9, .int (sl / 100), .int 0])] dX2_init_36 pl_X2_22_9 rfl hV rfl rfl rfl rfl (by show 4 < 6; decide) rfl (fun M hV => ?_)
  refine ok_aload_n (pc := 39) dX2_init_39 rfl ?_
  refine ok_iload (pc := 40) dX2_init_40 rfl ?_
  refine ok_bipush (pc := 42) (v := 100) dX2_init_42 (by decide) ?_
  refine ok_irem (pc := 44) dX2_init_44 (by decide) ?_
  refine hv_putF (pc := 45) (j := 0) [.inr (9, [.int n9, .int (kd / 10), .int (jrem kd 10), .int hm9, .int (sl / 100), .int (jrem sl 100)])] dX2_init_45 pl_X2_25_9 rfl hV rfl rfl rfl rfl (by show 5 < 6; decide) rfl (fun M hV => ?_)
  refine ok_vret (pc := 48) dX2_init_48 rfl ?_
  exact k _ hV

set_option maxHeartbeats 1000000 in
theorem c_k9_9 {Γ : Cx} {a sz : Nat} {M0 M : Nat → Option va_E} {K : Wd → Prop} {n9 kd hm9 sl : Int32} (hV : Hv a M0 M [.inr (9, fs0_X9)]) (k : ∀ M', Hv a M0 M' [.inr (9, [.int n9, .int (kd / 10), .int (jrem kd 10), .int hm9, .int (sl / 100), .int (jrem sl 100)])] → K (M', sz)) : Spec Γ mX9_init 2 0 [.ref a, .int n9, .int kd, .int hm9, .int sl] (M, sz) (cv K) := by
  refine spec_in [some (.ref a), some (.int n9), some (.int kd), some (.int hm9), some (.int sl)] 0 (by decide) rfl rfl ?_
  refine ok_aload_n (pc := 0) dX9_init_0 rfl ?_
  refine ok_iload_n (pc := 1) dX9_init_1 rfl ?_
  refine ok_iload_n (pc := 2) dX9_init_2 rfl ?_
  refine ok_iload_n (pc := 3) dX9_init_3 rfl ?_
  refine ok_iload (pc := 4) dX9_init_4 rfl ?_
  refine ok_callIv4B (pc := 6) (d' := 1) (b' := 0) (b'' := 0) dX9_init_6 il_X9_1 rfl (by decide) (by decide) ?_
  refine c_k2_9 hV (fun M hV => ?_)
  refine ok_vret (pc := 9) dX9_init_9 rfl ?_
  exact k _ hV

set_option maxHeartbeats 1000000 in
theorem c_k2_8 {Γ : Cx} {a sz : Nat} {M0 M : Nat → Option va_E} {K : Wd → Prop} {n9 kd hm9 sl : Int32} (hV : Hv a M0 M [.inr (8, fs0_X8)]) (k : ∀ M', Hv a M0 M' [.inr (8, [.int n9, .int (kd / 10), .int (jrem kd 10), .int hm9, .int (sl / 100), .int (jrem sl 100)])] → K (M', sz)) : Spec Γ mX2_init 1 0 [.ref a, .int n9, .int kd, .int hm9, .int sl] (M, sz) (cv K) := by
  refine spec_in [some (.ref a), some (.int n9), some (.int kd), some (.int hm9), some (.int sl)] 0 (by decide) rfl rfl ?_
  refine ok_aload_n (pc := 0) dX2_init_0 rfl ?_
  refine ok_objInit (pc := 1) dX2_init_1 tw_386 tw_108 tw_109 rfl (by decide) ?_
  refine ok_aload_n (pc := 4) dX2_init_4 rfl ?_
  refine ok_iload_n (pc := 5) dX2_init_5 rfl ?_
  refine hv_putF (pc := 6) (j := 0) [.inr (8, [.int n9, .int 0, .int 0, .int 0, .int 0, .int 0])] dX2_init_6 pl_X2_7_8 rfl hV rfl rfl rfl rfl (by show 0 < 6; decide) rfl (fun M hV => ?_)
  refine ok_aload_n (pc := 9) dX2_init_9 rfl ?_
  refine ok_iload_n (pc := 10) dX2_init_10 rfl ?_
  refine ok_bipush (pc := 11) (v := 10) dX2_init_11 (by decide) ?_
  refine ok_idiv (pc := 13) dX2_init_13 (by decide) ?_
  refine hv_putF (pc := 14) (j := 0) [.inr (8, [.int n9, .int (kd / 10), .int 0, .int 0, .int 0, .int 0])] dX2_init_14 pl_X2_13_8 rfl hV rfl rfl rfl rfl (by show 1 < 6; decide) rfl (fun M hV => ?_)
  refine ok_aload_n (pc := 17) dX2_init_17 rfl ?_
  refine ok_iload_n (pc := 18) dX2_init_18 rfl ?_
  refine ok_bipush (pc := 19) (v := 10) dX2_init_19 (by decide) ?_
  refine ok_irem (pc := 21) dX2_init_21 (by decide) ?_
  refine hv_putF (pc := 22) (j := 0) [.inr (8, [.int n9, .int (kd / 10), .int (jrem kd 10), .int 0, .int 0, .int 0])] dX2_init_22 pl_X2_16_8 rfl hV rfl rfl rfl rfl (by show 2 < 6; decide) rfl (fun M hV => ?_)
  refine ok_aload_n (pc := 25) dX2_init_25 rfl ?_
  refine ok_iload_n (pc := 26) dX2_init_26 rfl ?_
  refine hv_putF (pc := 27) (j := 0) [.inr (8, [.int n9, .int (kd / 10), .int (jrem kd 10), .int hm9, .int 0, .int 0])] dX2_init_27 pl_X2_19_8 rfl hV rfl rfl rfl rfl (by show 3 < 6; decide) rfl (fun M hV => ?_)
  refine ok_aload_n (pc := 30) dX2_init_30 rfl ?_
  refine ok_iload (pc := 31) dX2_init_31 rfl ?_
  refine ok_bipush (pc := 33) (v := 100) dX2_init_33 (by decide) ?_
  refine ok_idiv (pc := 35) dX2_init_35 (by decide) ?_
  refine hv_putF (pc := 36) (j := 0) [.inr (8, [.int n9, .int (kd / 10), .int (jrem kd 10), .int hm9, .int (sl / 100), .int 0])] dX2_init_36 pl_X2_22_8 rfl hV rfl rfl rfl rfl (by show 4 < 6; decide) rfl (fun M hV => ?_)
  refine ok_aload_n (pc := 39) dX2_init_39 rfl ?_
  refine ok_iload (pc := 40) dX2_init_40 rfl ?_
  refine ok_bipush (pc := 42) (v := 100) dX2_init_42 (by decide) ?_
  refine ok_irem (pc := 44) dX2_init_44 (by decide) ?_
  refine hv_putF (pc := 45) (j := 0) [.inr (8, [.int n9, .int (kd / 10), .int (jrem kd 10), .int hm9, .int (sl / 100), .int (jrem sl 100)])] dX2_init_45 pl_X2_25_8 rfl hV rfl rfl rfl rfl (by show 5 < 6; decide) rfl (fun M hV => ?_)
  refine ok_vret (pc := 48) dX2_init_48 rfl ?_
  exact k _ hV

set_option maxHeartbeats 1000000 in
theorem c_k8_8 {Γ : Cx} {a sz : Nat} {M0 M : Nat → Option va_E} {K : Wd → Prop} {n9 kd hm9 sl : Int32} (hV : Hv a M0 M [.inr (8, fs0_X8)]) (k : ∀ M', Hv a M0 M' [.inr (8, [.int n9, .int (kd / 10), .int (jrem kd 10), .int hm9, .int (sl / 100), .int (jrem sl 100)])] → K (M', sz)) : Spec Γ mX8_init 2 0 [.ref a, .int n9, .int kd, .int hm9, .int sl] (M, sz) (cv K) := by
  refine spec_in [some (.ref a), some (.int n9), some (.int kd), some (.int hm9), some (.int sl)] 0 (by decide) rfl rfl ?_
  refine ok_aload_n (pc := 0) dX8_init_0 rfl ?_
  refine ok_iload_n (pc := 1) dX8_init_1 rfl ?_
  refine ok_iload_n (pc := 2) dX8_init_2 rfl ?_
  refine ok_iload_n (pc := 3) dX8_init_3 rfl ?_
  refine ok_iload (pc := 4) dX8_init_4 rfl ?_
  refine ok_callIv4B (pc := 6) (d' := 1) (b' := 0) (b'' := 0) dX8_init_6 il_X8_1 rfl (by decide) (by decide) ?_
  refine c_k2_8 hV (fun M hV => ?_)
  refine ok_vret (pc := 9) dX8_init_9 rfl ?_
  exact k _ hV

set_option maxHeartbeats 1000000 in
theorem c_k2_1 {Γ : Cx} {a sz : Nat} {M0 M : Nat → Option va_E} {K : Wd → Prop} {n9 kd hm9 sl : Int32} (hV : Hv a M0 M [.inr (1, fs0_X1)]) (k : ∀ M', Hv a M0 M' [.inr (1, [.int n9, .int (kd / 10), .int (jrem kd 10), .int hm9, .int (sl / 100), .int (jrem sl 100)])] → K (M', sz)) : Spec Γ mX2_init 1 0 [.ref a, .int n9, .int kd, .int hm9, .int sl] (M, sz) (cv K) := by
  refine spec_in [some (.ref a), some (.int n9), some (.int kd), some (.int hm9), some (.int sl)] 0 (by decide) rfl rfl ?_
  refine ok_aload_n (pc := 0) dX2_init_0 rfl ?_
  refine ok_objInit (pc := 1) dX2_init_1 tw_386 tw_108 tw_109 rfl (by decide) ?_
  refine ok_aload_n (pc := 4) dX2_init_4 rfl ?_
  refine ok_iload_n (pc := 5) dX2_init_5 rfl ?_
  refine hv_putF (pc := 6) (j := 0) [.inr (1, [.int n9, .int 0, .int 0, .int 0, .int 0, .int 0])] dX2_init_6 pl_X2_7_1 rfl hV rfl rfl rfl rfl (by show 0 < 6; decide) rfl (fun M hV => ?_)
  refine ok_aload_n (pc := 9) dX2_init_9 rfl ?_
  refine ok_iload_n (pc := 10) dX2_init_10 rfl ?_
  refine ok_bipush (pc := 11) (v := 10) dX2_init_11 (by decide) ?_
  refine ok_idiv (pc := 13) dX2_init_13 (by decide) ?_
  refine hv_putF (pc := 14) (j := 0) [.inr (1, [.int n9, .int (kd / 10), .int 0, .int 0, .int 0, .int 0])] dX2_init_14 pl_X2_13_1 rfl hV rfl rfl rfl rfl (by show 1 < 6; decide) rfl (fun M hV => ?_)
  refine ok_aload_n (pc := 17) dX2_init_17 rfl ?_
  refine ok_iload_n (pc := 18) dX2_init_18 rfl ?_
  refine ok_bipush (pc := 19) (v := 10) dX2_init_19 (by decide) ?_
  refine ok_irem (pc := 21) dX2_init_21 (by decide) ?_
  refine hv_putF (pc := 22) (j := 0) [.inr (1, [.int n9, .int (kd / 10), .int (jrem kd 10), .int 0, .int 0, .int 0])] dX2_init_22 pl_X2_16_1 rfl hV rfl rfl rfl rfl (by show 2 < 6; decide) rfl (fun M hV => ?_)
  refine ok_aload_n (pc := 25) dX2_init_25 rfl ?_
  refine ok_iload_n (pc := 26) dX2_init_26 rfl ?_
  refine hv_putF (pc := 27) (j := 0) [.inr (1, [.int n9, .int (kd / 10), .int (jrem kd 10), .int hm9, .int 0, .int 0])] dX2_init_27 pl_X2_19_1 rfl hV rfl rfl rfl rfl (by show 3 < 6; decide) rfl (fun M hV => ?_)
  refine ok_aload_n (pc := 30) dX2_init_30 rfl ?_
  refine ok_iload (pc := 31) dX2_init_31 rfl ?_
  refine ok_bipush (pc := 33) (v := 100) dX2_init_33 (by decide) ?_
  refine ok_idiv (pc := 35) dX2_init_35 (by decide) ?_
  refine hv_putF (pc := 36) (j := 0) [.inr (1, [.int n9, .int (kd / 10), .int (jrem kd 10), .int hm9, .int (sl / 100), .int 0])] dX2_init_36 pl_X2_22_1 rfl hV rfl rfl rfl rfl (by show 4 < 6; decide) rfl (fun M hV => ?_)
  refine ok_aload_n (pc := 39) dX2_init_39 rfl ?_
  refine ok_iload (pc := 40) dX2_init_40 rfl ?_
  refine ok_bipush (pc := 42) (v := 100) dX2_init_42 (by decide) ?_
  refine ok_irem (pc := 44) dX2_init_44 (by decide) ?_
  refine hv_putF (pc := 45) (j := 0) [.inr (1, [.int n9, .int (kd / 10), .int (jrem kd 10), .int hm9, .int (sl / 100), .int (jrem sl 100)])] dX2_init_45 pl_X2_25_1 rfl hV rfl rfl rfl rfl (by show 5 < 6; decide) rfl (fun M hV => ?_)
  refine ok_vret (pc := 48) dX2_init_48 rfl ?_
  exact k _ hV

set_option maxHeartbeats 1000000 in
theorem c_k0_1 {Γ : Cx} {a sz : Nat} {M0 M : Nat → Option va_E} {K : Wd → Prop} {n9 kd hm9 sl : Int32} (hV : Hv a M0 M [.inr (1, fs0_X1)]) (k : ∀ M', Hv a M0 M' [.inr (1, [.int n9, .int (kd / 10), .int (jrem kd 10), .int hm9, .int (sl / 100), .int (jrem sl 100)])] → K (M', sz)) : Spec Γ mX0_init 2 0 [.ref a, .int n9, .int kd, .int hm9, .int sl] (M, sz) (cv K) := by
  refine spec_in [some (.ref a), some (.int n9), some (.int kd), some (.int hm9), some (.int sl)] 0 (by decide) rfl rfl ?_
  refine ok_aload_n (pc := 0) dX0_init_0 rfl ?_
  refine ok_iload_n (pc := 1) dX0_init_1 rfl ?_
  refine ok_iload_n (pc := 2) dX0_init_2 rfl ?_
  refine ok_iload_n (pc := 3) dX0_init_3 rfl ?_
  refine ok_iload (pc := 4) dX0_init_4 rfl ?_
  refine ok_callIv4B (pc := 6) (d' := 1) (b' := 0) (b'' := 0) dX0_init_6 il_X0_1 rfl (by decide) (by decide) ?_
  refine c_k2_1 hV (fun M hV => ?_)
  refine ok_vret (pc := 9) dX0_init_9 rfl ?_
  exact k _ hV

set_option maxHeartbeats 1000000 in
theorem c_k1_1 {Γ : Cx} {a sz : Nat} {M0 M : Nat → Option va_E} {K : Wd → Prop} {n9 kd hm9 sl : Int32} (hV : Hv a M0 M [.inr (1, fs0_X1)]) (k : ∀ M', Hv a M0 M' [.inr (1, [.int n9, .int (kd / 10), .int (jrem kd 10), .int hm9, .int (sl / 100), .int (jrem sl 100)])] → K (M', sz)) : Spec Γ mX1_init 3 0 [.ref a, .int n9, .int kd, .int hm9, .int sl] (M, sz) (cv K) := by
  refine spec_in [some (.ref a), some (.int n9), some (.int kd), some (.int hm9), some (.int sl)] 0 (by decide) rfl rfl ?_
  refine ok_aload_n (pc := 0) dX1_init_0 rfl ?_
  refine ok_iload_n (pc := 1) dX1_init_1 rfl ?_
  refine ok_iload_n (pc := 2) dX1_init_2 rfl ?_
  refine ok_iload_n (pc := 3) dX1_init_3 rfl ?_
  refine ok_iload (pc := 4) dX1_init_4 rfl ?_
  refine ok_callIv4B (pc := 6) (d' := 2) (b' := 0) (b'' := 0) dX1_init_6 il_X1_1 rfl (by decide) (by decide) ?_
  refine c_k0_1 hV (fun M hV => ?_)
  refine ok_vret (pc := 9) dX1_init_9 rfl ?_
  exact k _ hV

set_option maxHeartbeats 1000000 in
theorem c_k2_3 {Γ : Cx} {a sz : Nat} {M0 M : Nat → Option va_E} {K : Wd → Prop} {n9 kd hm9 sl : Int32} (hV : Hv a M0 M [.inr (3, fs0_X3)]) (k : ∀ M', Hv a M0 M' [.inr (3, [.int n9, .int (kd / 10), .int (jrem kd 10), .int hm9, .int (sl / 100), .int (jrem sl 100)])] → K (M', sz)) : Spec Γ mX2_init 1 0 [.ref a, .int n9, .int kd, .int hm9, .int sl] (M, sz) (cv K) := by
  refine spec_in [some (.ref a), some (.int n9), some (.int kd), some (.int hm9), some (.int sl)] 0 (by decide) rfl rfl ?_
  refine ok_aload_n (pc := 0) dX2_init_0 rfl ?_
  refine ok_objInit (pc := 1) dX2_init_1 tw_386 tw_108 tw_109 rfl (by decide) ?_
  refine ok_aload_n (pc := 4) dX2_init_4 rfl ?_
  refine ok_iload_n (pc := 5) dX2_init_5 rfl ?_
  refine hv_putF (pc := 6) (j := 0) [.inr (3, [.int n9, .int 0, .int 0, .int 0, .int 0, .int 0])] dX2_init_6 pl_X2_7_3 rfl hV rfl rfl rfl rfl (by show 0 < 6; decide) rfl (fun M hV => ?_)
  refine ok_aload_n (pc := 9) dX2_init_9 rfl ?_
  refine ok_iload_n (pc := 10) dX2_init_10 rfl ?_
  refine ok_bipush (pc := 11) (v := 10) dX2_init_11 (by decide) ?_
  refine ok_idiv (pc := 13) dX2_init_13 (by decide) ?_
  refine hv_putF (pc := 14) (j := 0) [.inr (3, [.int n9, .int (kd / 10), .int 0, .int 0, .int 0, .int 0])] dX2_init_14 pl_X2_13_3 rfl hV rfl rfl rfl rfl (by show 1 < 6; decide) rfl (fun M hV => ?_)
  refine ok_aload_n (pc := 17) dX2_init_17 rfl ?_
  refine ok_iload_n (pc := 18) dX2_init_18 rfl ?_
  refine ok_bipush (pc := 19) (v := 10) dX2_init_19 (by decide) ?_
  refine ok_irem (pc := 21) dX2_init_21 (by decide) ?_
  refine hv_putF (pc := 22) (j := 0) [.inr (3, [.int n9, .int (kd / 10), .int (jrem kd 10), .int 0, .int 0, .int 0])] dX2_init_22 pl_X2_16_3 rfl hV rfl rfl rfl rfl (by show 2 < 6; decide) rfl (fun M hV => ?_)
  refine ok_aload_n (pc := 25) dX2_init_25 rfl ?_
  refine ok_iload_n (pc := 26) dX2_init_26 rfl ?_
  refine hv_putF (pc := 27) (j := 0) [.inr (3, [.int n9, .int (kd / 10), .int (jrem kd 10), .int hm9, .int 0, .int 0])] dX2_init_27 pl_X2_19_3 rfl hV rfl rfl rfl rfl (by show 3 < 6; decide) rfl (fun M hV => ?_)
  refine ok_aload_n (pc := 30) dX2_init_30 rfl ?_
  refine ok_iload (pc := 31) dX2_init_31 rfl ?_
  refine ok_bipush (pc := 33) (v := 100) dX2_init_33 (by decide) ?_
  refine ok_idiv (pc := 35) dX2_init_35 (by decide) ?_
  refine hv_putF (pc := 36) (j := 0) [.inr (3, [.int n9, .int (kd / 10), .int (jrem kd 10), .int hm9, .int (sl / 100), .int 0])] dX2_init_36 pl_X2_22_3 rfl hV rfl rfl rfl rfl (by show 4 < 6; decide) rfl (fun M hV => ?_)
  refine ok_aload_n (pc := 39) dX2_init_39 rfl ?_
  refine ok_iload (pc := 40) dX2_init_40 rfl ?_
  refine ok_bipush (pc := 42) (v := 100) dX2_init_42 (by decide) ?_
  refine ok_irem (pc := 44) dX2_init_44 (by decide) ?_
  refine hv_putF (pc := 45) (j := 0) [.inr (3, [.int n9, .int (kd / 10), .int (jrem kd 10), .int hm9, .int (sl / 100), .int (jrem sl 100)])] dX2_init_45 pl_X2_25_3 rfl hV rfl rfl rfl rfl (by show 5 < 6; decide) rfl (fun M hV => ?_)
  refine ok_vret (pc := 48) dX2_init_48 rfl ?_
  exact k _ hV

set_option maxHeartbeats 1000000 in
theorem c_k9_3 {Γ : Cx} {a sz : Nat} {M0 M : Nat → Option va_E} {K : Wd → Prop} {n9 kd hm9 sl : Int32} (hV : Hv a M0 M [.inr (3, fs0_X3)]) (k : ∀ M', Hv a M0 M' [.inr (3, [.int n9, .int (kd / 10), .int (jrem kd 10), .int hm9, .int (sl / 100), .int (jrem sl 100)])] → K (M', sz)) : Spec Γ mX9_init 2 0 [.ref a, .int n9, .int kd, .int hm9, .int sl] (M, sz) (cv K) := by
  refine spec_in [some (.ref a), some (.int n9), some (.int kd), some (.int hm9), some (.int sl)] 0 (by decide) rfl rfl ?_
  refine ok_aload_n (pc := 0) dX9_init_0 rfl ?_
  refine ok_iload_n (pc := 1) dX9_init_1 rfl ?_
  refine ok_iload_n (pc := 2) dX9_init_2 rfl ?_
  refine ok_iload_n (pc := 3) dX9_init_3 rfl ?_
  refine ok_iload (pc := 4) dX9_init_4 rfl ?_
  refine ok_callIv4B (pc := 6) (d' := 1) (b' := 0) (b'' := 0) dX9_init_6 il_X9_1 rfl (by decide) (by decide) ?_
  refine c_k2_3 hV (fun M hV => ?_)
  refine ok_vret (pc := 9) dX9_init_9 rfl ?_
  exact k _ hV

set_option maxHeartbeats 1000000 in
theorem c_k3_3 {Γ : Cx} {a sz : Nat} {M0 M : Nat → Option va_E} {K : Wd → Prop} {n9 kd hm9 sl : Int32} (hV : Hv a M0 M [.inr (3, fs0_X3)]) (k : ∀ M', Hv a M0 M' [.inr (3, [.int n9, .int (kd / 10), .int (jrem kd 10), .int hm9, .int (sl / 100), .int (jrem sl 100)])] → K (M', sz)) : Spec Γ mX3_init 3 0 [.ref a, .int n9, .int kd, .int hm9, .int sl] (M, sz) (cv K) := by
  refine spec_in [some (.ref a), some (.int n9), some (.int kd), some (.int hm9), some (.int sl)] 0 (by decide) rfl rfl ?_
  refine ok_aload_n (pc := 0) dX3_init_0 rfl ?_
  refine ok_iload_n (pc := 1) dX3_init_1 rfl ?_
  refine ok_iload_n (pc := 2) dX3_init_2 rfl ?_
  refine ok_iload_n (pc := 3) dX3_init_3 rfl ?_
  refine ok_iload (pc := 4) dX3_init_4 rfl ?_
  refine ok_callIv4B (pc := 6) (d' := 2) (b' := 0) (b'' := 0) dX3_init_6 il_X3_1 rfl (by decide) (by decide) ?_
  refine c_k9_3 hV (fun M hV => ?_)
  refine ok_vret (pc := 9) dX3_init_9 rfl ?_
  exact k _ hV

set_option maxHeartbeats 1000000 in
theorem c_k2_4 {Γ : Cx} {a sz : Nat} {M0 M : Nat → Option va_E} {K : Wd → Prop} {n9 kd hm9 sl : Int32} (hV : Hv a M0 M [.inr (4, fs0_X4)]) (k : ∀ M', Hv a M0 M' [.inr (4, [.int n9, .int (kd / 10), .int (jrem kd 10), .int hm9, .int (sl / 100), .int (jrem sl 100)])] → K (M', sz)) : Spec Γ mX2_init 1 0 [.ref a, .int n9, .int kd, .int hm9, .int sl] (M, sz) (cv K) := by
  refine spec_in [some (.ref a), some (.int n9), some (.int kd), some (.int hm9), some (.int sl)] 0 (by decide) rfl rfl ?_
  refine ok_aload_n (pc := 0) dX2_init_0 rfl ?_
  refine ok_objInit (pc := 1) dX2_init_1 tw_386 tw_108 tw_109 rfl (by decide) ?_
  refine ok_aload_n (pc := 4) dX2_init_4 rfl ?_
  refine ok_iload_n (pc := 5) dX2_init_5 rfl ?_
  refine hv_putF (pc := 6) (j := 0) [.inr (4, [.int n9, .int 0, .int 0, .int 0, .int 0, .int 0])] dX2_init_6 pl_X2_7_4 rfl hV rfl rfl rfl rfl (by show 0 < 6; decide) rfl (fun M hV => ?_)
  refine ok_aload_n (pc := 9) dX2_init_9 rfl ?_
  refine ok_iload_n (pc := 10) dX2_init_10 rfl ?_
  refine ok_bipush (pc := 11) (v := 10) dX2_init_11 (by decide) ?_
  refine ok_idiv (pc := 13) dX2_init_13 (by decide) ?_
  refine hv_putF (pc := 14) (j := 0) [.inr (4, [.int n9, .int (kd / 10), .int 0, .int 0, .int 0, .int 0])] dX2_init_14 pl_X2_13_4 rfl hV rfl rfl rfl rfl (by show 1 < 6; decide) rfl (fun M hV => ?_)
  refine ok_aload_n (pc := 17) dX2_init_17 rfl ?_
  refine ok_iload_n (pc := 18) dX2_init_18 rfl ?_
  refine ok_bipush (pc := 19) (v := 10) dX2_init_19 (by decide) ?_
  refine ok_irem (pc := 21) dX2_init_21 (by decide) ?_
  refine hv_putF (pc := 22) (j := 0) [.inr (4, [.int n9, .int (kd / 10), .int (jrem kd 10), .int 0, .int 0, .int 0])] dX2_init_22 pl_X2_16_4 rfl hV rfl rfl rfl rfl (by show 2 < 6; decide) rfl (fun M hV => ?_)
  refine ok_aload_n (pc := 25) dX2_init_25 rfl ?_
  refine ok_iload_n (pc := 26) dX2_init_26 rfl ?_
  refine hv_putF (pc := 27) (j := 0) [.inr (4, [.int n9, .int (kd / 10), .int (jrem kd 10), .int hm9, .int 0, .int 0])] dX2_init_27 pl_X2_19_4 rfl hV rfl rfl rfl rfl (by show 3 < 6; decide) rfl (fun M hV => ?_)
  refine ok_aload_n (pc := 30) dX2_init_30 rfl ?_
  refine ok_iload (pc := 31) dX2_init_31 rfl ?_
  refine ok_bipush (pc := 33) (v := 100) dX2_init_33 (by decide) ?_
  refine ok_idiv (pc := 35) dX2_init_35 (by decide) ?_
  refine hv_putF (pc := 36) (j := 0) [.inr (4, [.int n9, .int (kd / 10), .int (jrem kd 10), .int hm9, .int (sl / 100), .int 0])] dX2_init_36 pl_X2_22_4 rfl hV rfl rfl rfl rfl (by show 4 < 6; decide) rfl (fun M hV => ?_)
  refine ok_aload_n (pc := 39) dX2_init_39 rfl ?_
  refine ok_iload (pc := 40) dX2_init_40 rfl ?_
  refine ok_bipush (pc := 42) (v := 100) dX2_init_42 (by decide) ?_
  refine ok_irem (pc := 44) dX2_init_44 (by decide) ?_
  refine hv_putF (pc := 45) (j := 0) [.inr (4, [.int n9, .int (kd / 10), .int (jrem kd 10), .int hm9, .int (sl / 100), .int (jrem sl 100)])] dX2_init_45 pl_X2_25_4 rfl hV rfl rfl rfl rfl (by show 5 < 6; decide) rfl (fun M hV => ?_)
  refine ok_vret (pc := 48) dX2_init_48 rfl ?_
  exact k _ hV

set_option maxHeartbeats 1000000 in
theorem c_k8_4 {Γ : Cx} {a sz : Nat} {M0 M : Nat → Option va_E} {K : Wd → Prop} {n9 kd hm9 sl : Int32} (hV : Hv a M0 M [.inr (4, fs0_X4)]) (k : ∀ M', Hv a M0 M' [.inr (4, [.int n9, .int (kd / 10), .int (jrem kd 10), .int hm9, .int (sl / 100), .int (jrem sl 100)])] → K (M', sz)) : Spec Γ mX8_init 2 0 [.ref a, .int n9, .int kd, .int hm9, .int sl] (M, sz) (cv K) := by
  refine spec_in [some (.ref a), some (.int n9), some (.int kd), some (.int hm9), some (.int sl)] 0 (by decide) rfl rfl ?_
  refine ok_aload_n (pc := 0) dX8_init_0 rfl ?_
  refine ok_iload_n (pc := 1) dX8_init_1 rfl ?_
  refine ok_iload_n (pc := 2) dX8_init_2 rfl ?_
  refine ok_iload_n (pc := 3) dX8_init_3 rfl ?_
  refine ok_iload (pc := 4) dX8_init_4 rfl ?_
  refine ok_callIv4B (pc := 6) (d' := 1) (b' := 0) (b'' := 0) dX8_init_6 il_X8_1 rfl (by decide) (by decide) ?_
  refine c_k2_4 hV (fun M hV => ?_)
  refine ok_vret (pc := 9) dX8_init_9 rfl ?_
  exact k _ hV

set_option maxHeartbeats 1000000 in
theorem c_k4_4 {Γ : Cx} {a sz : Nat} {M0 M : Nat → Option va_E} {K : Wd → Prop} {n9 kd hm9 sl : Int32} (hV : Hv a M0 M [.inr (4, fs0_X4)]) (k : ∀ M', Hv a M0 M' [.inr (4, [.int n9, .int (kd / 10), .int (jrem kd 10), .int hm9, .int (sl / 100), .int (jrem sl 100)])] → K (M', sz)) : Spec Γ mX4_init 3 0 [.ref a, .int n9, .int kd, .int hm9, .int sl] (M, sz) (cv K) := by
  refine spec_in [some (.ref a), some (.int n9), some (.int kd), some (.int hm9), some (.int sl)] 0 (by decide) rfl rfl ?_
  refine ok_aload_n (pc := 0) dX4_init_0 rfl ?_
  refine ok_iload_n (pc := 1) dX4_init_1 rfl ?_
  refine ok_iload_n (pc := 2) dX4_init_2 rfl ?_
  refine ok_iload_n (pc := 3) dX4_init_3 rfl ?_
  refine ok_iload (pc := 4) dX4_init_4 rfl ?_
  refine ok_callIv4B (pc := 6) (d' := 2) (b' := 0) (b'' := 0) dX4_init_6 il_X4_1 rfl (by decide) (by decide) ?_
  refine c_k8_4 hV (fun M hV => ?_)
  refine ok_vret (pc := 9) dX4_init_9 rfl ?_
  exact k _ hV

set_option maxHeartbeats 1000000 in
theorem c_made {Γ : Cx} {sz : Nat} {M : Nat → Option va_E} {K : Option Nat → Wd → Prop} {n9 kd hm9 sl : Int32} (k : ∀ M', Hv sz M M' [.inr (kcl (kd / 10), [.int n9, .int (kd / 10), .int (jrem kd 10), .int hm9, .int (sl / 100), .int (jrem sl 100)])] → K (some sz) (M', sz + 1)) : Spec Γ mX5_made 4 1 [.int n9, .int kd, .int hm9, .int sl] (M, sz) (cr K) := by
  have hV : Hv sz M M [] := ⟨fun _ _ h => (by cases h), fun _ _ => rfl, fun _ _ => rfl⟩
  refine spec_in [some (.int n9), some (.int kd), some (.int hm9), some (.int sl)] 0 (by decide) rfl rfl ?_
  refine ok_iload_n (pc := 0) dX5_made_0 rfl ?_
  refine ok_bipush (pc := 1) (v := 10) dX5_made_1 (by decide) ?_
  refine ok_idiv (pc := 3) dX5_made_3 (by decide) ?_
  by_cases sw4_0 : kd / 10 = 1
  · refine ok_table (pc := 4) 44 dX5_made_4 (by rw [sw4_0]; decide) (by rw [sw4_0]; decide) (by rw [sw4_0]; rfl) (by decide) ?_
    have ek : kcl (kd / 10) = 0 := by rw [sw4_0]; rfl
    refine hv_new (pc := 44) [.inr (0, fs0_X0)] dX5_made_44 nl_X5_130 rfl rfl hV (fun M hV => ?_)
    refine ok_dup (pc := 47) dX5_made_47 rfl ?_
    refine ok_iload_n (pc := 48) dX5_made_48 rfl ?_
    refine ok_iload_n (pc := 49) dX5_made_49 rfl ?_
    refine ok_iload_n (pc := 50) dX5_made_50 rfl ?_
    refine ok_iload_n (pc := 51) dX5_made_51 rfl ?_
    refine ok_callIv4B (pc := 52) (d' := 2) (b' := 0) (b'' := 0) dX5_made_52 il_X5_132 rfl (by decide) (by decide) ?_
    refine c_k0_0 hV (fun M hV => ?_)
    refine ok_aret (r := some sz) (pc := 55) dX5_made_55 rfl (Or.inl ⟨_, rfl⟩) ?_
    exact k _ (by rw [ek]; exact hV)
  by_cases sw4_1 : kd / 10 = 2
  · refine ok_table (pc := 4) 56 dX5_made_4 (by rw [sw4_1]; decide) (by rw [sw4_1]; decide) (by rw [sw4_1]; rfl) (by decide) ?_
    have ek : kcl (kd / 10) = 9 := by rw [sw4_1]; rfl
    refine hv_new (pc := 56) [.inr (9, fs0_X9)] dX5_made_56 nl_X5_135 rfl rfl hV (fun M hV => ?_)
    refine ok_dup (pc := 59) dX5_made_59 rfl ?_
    refine ok_iload_n (pc := 60) dX5_made_60 rfl ?_
    refine ok_iload_n (pc := 61) dX5_made_61 rfl ?_
    refine ok_iload_n (pc := 62) dX5_made_62 rfl ?_
    refine ok_iload_n (pc := 63) dX5_made_63 rfl ?_
    refine ok_callIv4B (pc := 64) (d' := 2) (b' := 0) (b'' := 0) dX5_made_64 il_X5_137 rfl (by decide) (by decide) ?_
    refine c_k9_9 hV (fun M hV => ?_)
    refine ok_aret (r := some sz) (pc := 67) dX5_made_67 rfl (Or.inl ⟨_, rfl⟩) ?_
    exact k _ (by rw [ek]; exact hV)
  by_cases sw4_2 : kd / 10 = 3
  · refine ok_table (pc := 4) 68 dX5_made_4 (by rw [sw4_2]; decide) (by rw [sw4_2]; decide) (by rw [sw4_2]; rfl) (by decide) ?_
    have ek : kcl (kd / 10) = 8 := by rw [sw4_2]; rfl
    refine hv_new (pc := 68) [.inr (8, fs0_X8)] dX5_made_68 nl_X5_138 rfl rfl hV (fun M hV => ?_)
    refine ok_dup (pc := 71) dX5_made_71 rfl ?_
    refine ok_iload_n (pc := 72) dX5_made_72 rfl ?_
    refine ok_iload_n (pc := 73) dX5_made_73 rfl ?_
    refine ok_iload_n (pc := 74) dX5_made_74 rfl ?_
    refine ok_iload_n (pc := 75) dX5_made_75 rfl ?_
    refine ok_callIv4B (pc := 76) (d' := 2) (b' := 0) (b'' := 0) dX5_made_76 il_X5_140 rfl (by decide) (by decide) ?_
    refine c_k8_8 hV (fun M hV => ?_)
    refine ok_aret (r := some sz) (pc := 79) dX5_made_79 rfl (Or.inl ⟨_, rfl⟩) ?_
    exact k _ (by rw [ek]; exact hV)
  by_cases sw4_3 : kd / 10 = 4
  · refine ok_table (pc := 4) 80 dX5_made_4 (by rw [sw4_3]; decide) (by rw [sw4_3]; decide) (by rw [sw4_3]; rfl) (by decide) ?_
    have ek : kcl (kd / 10) = 1 := by rw [sw4_3]; rfl
    refine hv_new (pc := 80) [.inr (1, fs0_X1)] dX5_made_80 nl_X5_141 rfl rfl hV (fun M hV => ?_)
    refine ok_dup (pc := 83) dX5_made_83 rfl ?_
    refine ok_iload_n (pc := 84) dX5_made_84 rfl ?_
    refine ok_iload_n (pc := 85) dX5_made_85 rfl ?_
    refine ok_iload_n (pc := 86) dX5_made_86 rfl ?_
    refine ok_iload_n (pc := 87) dX5_made_87 rfl ?_
    refine ok_callIv4B (pc := 88) (d' := 3) (b' := 0) (b'' := 0) dX5_made_88 il_X5_143 rfl (by decide) (by decide) ?_
    refine c_k1_1 hV (fun M hV => ?_)
    refine ok_aret (r := some sz) (pc := 91) dX5_made_91 rfl (Or.inl ⟨_, rfl⟩) ?_
    exact k _ (by rw [ek]; exact hV)
  by_cases sw4_4 : kd / 10 = 5
  · refine ok_table (pc := 4) 92 dX5_made_4 (by rw [sw4_4]; decide) (by rw [sw4_4]; decide) (by rw [sw4_4]; rfl) (by decide) ?_
    have ek : kcl (kd / 10) = 3 := by rw [sw4_4]; rfl
    refine hv_new (pc := 92) [.inr (3, fs0_X3)] dX5_made_92 nl_X5_144 rfl rfl hV (fun M hV => ?_)
    refine ok_dup (pc := 95) dX5_made_95 rfl ?_
    refine ok_iload_n (pc := 96) dX5_made_96 rfl ?_
    refine ok_iload_n (pc := 97) dX5_made_97 rfl ?_
    refine ok_iload_n (pc := 98) dX5_made_98 rfl ?_
    refine ok_iload_n (pc := 99) dX5_made_99 rfl ?_
    refine ok_callIv4B (pc := 100) (d' := 3) (b' := 0) (b'' := 0) dX5_made_100 il_X5_146 rfl (by decide) (by decide) ?_
    refine c_k3_3 hV (fun M hV => ?_)
    refine ok_aret (r := some sz) (pc := 103) dX5_made_103 rfl (Or.inl ⟨_, rfl⟩) ?_
    exact k _ (by rw [ek]; exact hV)
  by_cases sw4_5 : kd / 10 = 6
  · refine ok_table (pc := 4) 104 dX5_made_4 (by rw [sw4_5]; decide) (by rw [sw4_5]; decide) (by rw [sw4_5]; rfl) (by decide) ?_
    have ek : kcl (kd / 10) = 4 := by rw [sw4_5]; rfl
    refine hv_new (pc := 104) [.inr (4, fs0_X4)] dX5_made_104 nl_X5_147 rfl rfl hV (fun M hV => ?_)
    refine ok_dup (pc := 107) dX5_made_107 rfl ?_
    refine ok_iload_n (pc := 108) dX5_made_108 rfl ?_
    refine ok_iload_n (pc := 109) dX5_made_109 rfl ?_
    refine ok_iload_n (pc := 110) dX5_made_110 rfl ?_
    refine ok_iload_n (pc := 111) dX5_made_111 rfl ?_
    refine ok_callIv4B (pc := 112) (d' := 3) (b' := 0) (b'' := 0) dX5_made_112 il_X5_149 rfl (by decide) (by decide) ?_
    refine c_k4_4 hV (fun M hV => ?_)
    refine ok_aret (r := some sz) (pc := 115) dX5_made_115 rfl (Or.inl ⟨_, rfl⟩) ?_
    exact k _ (by rw [ek]; exact hV)
  refine ok_tableOut (pc := 4) 116 dX5_made_4 (by have h := tab_out (1) 6 (by decide) (by decide) (fun j hj => by match j, hj with | 0, _ => exact (fun h => sw4_0 (h.trans (by decide))) | 1, _ => exact (fun h => sw4_1 (h.trans (by decide))) | 2, _ => exact (fun h => sw4_2 (h.trans (by decide))) | 3, _ => exact (fun h => sw4_3 (h.trans (by decide))) | 4, _ => exact (fun h => sw4_4 (h.trans (by decide))) | 5, _ => exact (fun h => sw4_5 (h.trans (by decide)))); exact h) (by decide) ?_
  have ek : kcl (kd / 10) = 2 := by
    unfold kcl
    rw [if_neg sw4_0, if_neg sw4_1, if_neg sw4_2, if_neg sw4_3, if_neg sw4_4, if_neg sw4_5]
  refine hv_new (pc := 116) [.inr (2, fs0_X2)] dX5_made_116 nl_X5_24 rfl rfl hV (fun M hV => ?_)
  refine ok_dup (pc := 119) dX5_made_119 rfl ?_
  refine ok_iload_n (pc := 120) dX5_made_120 rfl ?_
  refine ok_iload_n (pc := 121) dX5_made_121 rfl ?_
  refine ok_iload_n (pc := 122) dX5_made_122 rfl ?_
  refine ok_iload_n (pc := 123) dX5_made_123 rfl ?_
  refine ok_callIv4B (pc := 124) (d' := 1) (b' := 0) (b'' := 0) dX5_made_124 il_X5_150 rfl (by decide) (by decide) ?_
  refine c_k2_2 hV (fun M hV => ?_)
  refine ok_aret (r := some sz) (pc := 127) dX5_made_127 rfl (Or.inl ⟨_, rfl⟩) ?_
  exact k _ (by rw [ek]; exact hV)

theorem fly_ne {σ : Rw} {n : Nat} {a b c d9 e9 : Int32} {j : Nat} (h : j < 51 + 6 * n ∨ 51 + 6 * n + 5 < j) (h2 : j ≠ 2) : flyF σ n a b c d9 e9 j = σ j := by
  unfold flyF
  rw [upd_ne h2, upd_ne (by omega), upd_ne (by omega), upd_ne (by omega), upd_ne (by omega), upd_ne (by omega), upd_ne (by omega)]
theorem fly_2 {σ : Rw} {n : Nat} {a b c d9 e9 : Int32} : flyF σ n a b c d9 e9 2 = σ 2 + 1 := upd_at
theorem fly_k {σ : Rw} {n : Nat} {a b c d9 e9 : Int32} : kf (flyF σ n a b c d9 e9) n 0 = a ∧ kf (flyF σ n a b c d9 e9) n 1 = b ∧ kf (flyF σ n a b c d9 e9) n 2 = c ∧ kf (flyF σ n a b c d9 e9) n 3 = d9 ∧ kf (flyF σ n a b c d9 e9) n 4 = e9 ∧ kf (flyF σ n a b c d9 e9) n 5 = -1 := by
  unfold kf flyF
  refine ⟨?_, ?_, ?_, ?_, ?_, ?_⟩
  · rw [upd_ne (by omega), upd_ne (by omega), upd_ne (by omega), upd_ne (by omega), upd_ne (by omega), upd_ne (by omega)]; exact upd_at
  · rw [upd_ne (by omega), upd_ne (by omega), upd_ne (by omega), upd_ne (by omega), upd_ne (by omega)]; exact upd_at
  · rw [upd_ne (by omega), upd_ne (by omega), upd_ne (by omega), upd_ne (by omega)]; exact upd_at
  · rw [upd_ne (by omega), upd_ne (by omega), upd_ne (by omega)]; exact upd_at
  · rw [upd_ne (by omega), upd_ne (by omega)]; exact upd_at
  · rw [upd_ne (by omega)]; exact upd_at
theorem fly_ko {σ : Rw} {n k f : Nat} {a b c d9 e9 : Int32} (h : k ≠ n) (hf : f < 6) : kf (flyF σ n a b c d9 e9) k f = kf σ k f := by
  unfold kf
  exact fly_ne (by omega) (by omega)
/-- a Post with one kite more -/
theorem pst_fly {Γ : Cx} {p e z sz : Nat} {σ : Rw} {M M1 M2 : Nat → Option va_E} {a b c d9 e9 : Int32} (hP : PstR Γ p e z σ M) (hI : Inv σ) (hpe : p + 26 ≤ e) (hez : e ≤ z) (hzs : z ≤ sz) (h8 : cK σ < 8) (hV : Hv sz M M1 [.inr (kcl a, [.int (nI (cK σ)), .int a, .int b, .int c, .int d9, .int e9])]) {kr : Nat → Option Nat} {fa : Rw} (k1 : M (p + 5) = aR Γ 8 kr) (f1 : M (p + 6) = aI Γ 8 fa)
    (o0 : M2 p = some (.inr (5, (pfs p σ).set 7 (.int (nI (cK σ + 1)))))) (o5 : M2 (p + 5) = aR Γ 8 (va_up kr (cK σ) (some sz))) (o6 : M2 (p + 6) = aI Γ 8 (upd fa (cK σ) (-1))) (ho : ∀ q, q ≠ p → q ≠ p + 5 → q ≠ p + 6 → M2 q = M1 q) : PstR Γ p e (sz + 1) (flyF σ (cK σ) a b c d9 e9) M2 := by
  obtain ⟨⟨⟨eH, lH⟩, ⟨eK, lK⟩, ⟨eL, lL⟩, ⟨eA, lA⟩, ⟨eT, lT⟩⟩, iK, iH, iW, iL, iO, iB, hT⟩ := id hI
  have hA : iN (σ 4) ≤ 12 := by show cA σ ≤ 12; rw [lA]; exact Nat.le_trans (arN_le σ _) lL
  obtain ⟨⟨n6, q6, l6⟩, ⟨n7, q7, l7⟩, -⟩ := id iB
  have h6 : iN (σ 6) = n6 := by rw [q6]; exact nI_clamp (by omega)
  have h7 : iN (σ 7) = n7 := by rw [q7]; exact nI_clamp (by omega)
  have hm : ∀ q, q < sz → M1 q = M q := hV.2.1
  have hw : ∀ q, p < q → q < p + 26 → q ≠ p + 5 → q ≠ p + 6 → M2 q = M q := fun q g1 g2 g3 g4 => (ho q (by omega) g3 g4).trans (hm q (by omega))
  have hs : ∀ j, j ≠ 2 → (j < 51 ∨ 99 ≤ j) → flyF σ (cK σ) a b c d9 e9 j = σ j := fun j g1 g2 => fly_ne (by omega) g1
  have e2 : flyF σ (cK σ) a b c d9 e9 2 = nI (cK σ + 1) := fly_2.trans (by rw [eK]; exact nI_1 _)
  have ec : cK (flyF σ (cK σ) a b c d9 e9) = cK σ + 1 := by show iN (flyF σ (cK σ) a b c d9 e9 2) = _; rw [e2]; exact nI_clamp (by omega)
  obtain ⟨y0, y1, y2, y3, y4, y5⟩ := fly_k (σ := σ) (n := cK σ) (a := a) (b := b) (c := c) (d9 := d9) (e9 := e9)
  refine ⟨o0.trans ?_, hP.xs.tr (hw _ (by omega) (by omega) (by omega) (by omega)) (fun j hj => by unfold hx; rw [hs _ (by omega) (by omega)]), hP.ys.tr (hw _ (by omega) (by omega) (by omega) (by omega)) (fun j hj => by unfold hy; rw [hs _ (by omega) (by omega)]), hP.hz.tr (hw _ (by omega) (by omega) (by omega) (by omega)) (fun j hj => by unfold hz; exact hs _ (by omega) (by omega)), hP.wd.tr (hw _ (by omega) (by omega) (by omega) (by omega)) (fun j hj => hs _ (by omega) (by omega)), ?_, ?_, hP.lt.tr (hw _ (by omega) (by omega) (by omega) (by omega)) (fun j hj => hs _ (by omega) (by omega)),
    hP.ar.tr (hw _ (by omega) (by omega) (by omega) (by omega)) (hw _ (by omega) (by omega) (by omega) (by omega)) (hs 4 (by omega) (by omega)) (fun j hj => hs _ (by omega) (by omega)), hP.tp.tr (hw _ (by omega) (by omega) (by omega) (by omega)) (hw _ (by omega) (by omega) (by omega) (by omega)) (hs 6 (by omega) (by omega)) (fun j hj => hs _ (by omega) (by omega)), hP.wt.tr (hw _ (by omega) (by omega) (by omega) (by omega)) (hw _ (by omega) (by omega) (by omega) (by omega)) (hs 7 (by omega) (by omega)) (fun j hj => hs _ (by omega) (by omega)),
    hP.li.tr (fun q g1 g2 => hw q (by omega) (by omega) (by omega) (by omega)) (cd_same (fun j g1 g2 => hs j (by omega) (by omega)) (by decide) (hT 0 (by decide))), hP.pa.tr (fun q g1 g2 => hw q (by omega) (by omega) (by omega) (by omega)) (cd_same (fun j g1 g2 => hs j (by omega) (by omega)) (by decide) (hT 1 (by decide)))⟩
  · unfold pfs
    rw [e2, hs 0 (by omega) (by omega), hs 1 (by omega) (by omega), hs 3 (by omega) (by omega), hs 5 (by omega) (by omega), hs 8 (by omega) (by omega)]
    rfl
  · obtain ⟨kr1, s1, s2, s3⟩ := id hP.kt
    have ekr : kr1 = kr := by
      rw [k1] at s1
      simp only [Option.some.injEq, Sum.inl.injEq, Sum.inr.injEq, Prod.mk.injEq, true_and] at s1
      exact s1.symm
    subst ekr
    refine ⟨_, o5, fun k9 h9 => ?_, fun k9 h9 => ?_⟩
    · rw [ec] at h9
      rcases Nat.lt_or_ge k9 (cK σ) with g | g
      · obtain ⟨q, w1, ⟨w2, w3⟩, w4⟩ := s2 k9 g
        refine ⟨q, (by unfold va_up; rw [if_neg (by omega)]; exact w1), ⟨w2, by omega⟩, ?_⟩
        rw [ho q (by omega) (by omega) (by omega), hm q (by omega), w4]
        unfold kfs
        rw [fly_ko (by omega) (by decide), fly_ko (by omega) (by decide), fly_ko (by omega) (by decide), fly_ko (by omega) (by decide), fly_ko (by omega) (by decide)]
      · have e9 : k9 = cK σ := by omega
        rw [e9]
        refine ⟨sz, (by unfold va_up; rw [if_pos rfl]), ⟨by omega, by omega⟩, ?_⟩
        have e8 := hV.1 0 _ rfl
        rw [Nat.add_zero] at e8
        rw [ho sz (by omega) (by omega) (by omega), e8]
        unfold kfs
        rw [y0, y1, y2, y3, y4]
    · rw [ec] at h9
      unfold va_up
      rw [if_neg (by omega)]
      exact s3 k9 (by omega)
  · obtain ⟨f2, g1, g2⟩ := id hP.am
    have ef : f2 = fa := by
      rw [f1] at g1
      simp only [Option.some.injEq, Sum.inl.injEq, Prod.mk.injEq, true_and] at g1
      exact g1.symm
    subst ef
    refine ⟨_, o6, fun j hj => ?_⟩
    show upd f2 (cK σ) (-1) j = kf (flyF σ (cK σ) a b c d9 e9) j 5
    by_cases h : j = cK σ
    · rw [h, y5]; exact upd_at
    · rw [upd_ne h, fly_ko h (by decide)]; exact g2 j hj

set_option maxHeartbeats 1000000 in
theorem c_addKite {Γ : Cx} {p e z sz : Nat} {σ : Rw} {M : Nat → Option va_E} {K : Int32 → Wd → Prop} (hP : PstR Γ p e z σ M) (hI : Inv σ) (hpe : p + 26 ≤ e) (hez : e ≤ z) (hzs : z ≤ sz) (h8 : cK σ < 8) {kd hm9 sl : Int32} (hkd : 0 ≤ kd / 10 ∧ kd / 10 ≤ 6) (k : ∀ M', PstR Γ p e (sz + 1) (flyF σ (cK σ) (kd / 10) (jrem kd 10) hm9 (sl / 100) (jrem sl 100)) M' → (∀ q, (q < p ∨ p + 26 ≤ q) → q < sz → M' q = M q) → K (nI (cK σ)) (M', sz + 1)) : Spec Γ mX5_addKite 5 1 [.ref p, .int kd, .int hm9, .int sl] (M, sz) (ci K) := by
  obtain ⟨⟨⟨eH, lH⟩, ⟨eK, lK⟩, ⟨eL, lL⟩, ⟨eA, lA⟩, ⟨eT, lT⟩⟩, iK, iH, iW, iL, iO, iB, hT⟩ := id hI
  have ho := hP.o
  obtain ⟨kr, k1, -⟩ := id hP.kt
  obtain ⟨fa, f1, f2⟩ := id hP.am
  obtain ⟨r9, hr1, hr2⟩ := kcl_kite hkd
  have hpz : p < sz := by omega
  
  refine spec_in [some (.ref p), some (.int kd), some (.int hm9), some (.int sl)] 0 (by decide) rfl rfl ?_
  refine ok_aload_n (pc := 0) dX5_addKite_0 rfl ?_
  refine ok_getf (pc := 1) dX5_addKite_1 fl_X5_80 ho rfl ?_
  refine ok_bipush (pc := 4) (v := 8) dX5_addKite_4 (by decide) ?_
  refine ok_icmp_lt (pc := 6) 11 dX5_addKite_6 (by decide) (fun cc_6 => ?_) (fun cc_6 => ?_)
  · have ce_6 := Int32.not_le.mpr cc_6
    refine ok_aload_n (pc := 11) dX5_addKite_11 rfl ?_
    refine ok_getf (pc := 12) dX5_addKite_12 fl_X5_26 ho rfl ?_
    refine ok_aload_n (pc := 15) dX5_addKite_15 rfl ?_
    refine ok_getf (pc := 16) dX5_addKite_16 fl_X5_80 ho rfl ?_
    refine ok_aload_n (pc := 19) dX5_addKite_19 rfl ?_
    refine ok_getf (pc := 20) dX5_addKite_20 fl_X5_80 ho rfl ?_
    refine ok_iload_n (pc := 23) dX5_addKite_23 rfl ?_
    refine ok_iload_n (pc := 24) dX5_addKite_24 rfl ?_
    refine ok_iload_n (pc := 25) dX5_addKite_25 rfl ?_
    refine ok_callSr4B (pc := 26) (d' := 4) (b' := 1) (b'' := 0) dX5_addKite_26 sl_X5_126 rfl (by decide) (by decide) ?_
    refine c_made (fun M1 hV => ?_)
    rw [eK] at hV
    have hlo : ∀ q, q < sz → M1 q = M q := hV.2.1
    have m5 : M1 (p + 5) = aR Γ 8 kr := (hlo _ (by omega)).trans k1
    refine ok_aast (pc := 29) (v := sz) (t := 1) (cidx := kcl (kd / 10)) (cK σ) dX5_addKite_29 m5 rfl (hV.1 0 _ rfl) hr1 hr2 eK h8 (by decide) ?_
    have ho : (va_up M1 (p + 5) (aR Γ 8 (va_up kr (cK σ) (some sz)))) p = some (.inr (5, pfs p σ)) := (up_ne (by omega)).trans ((hlo _ (by omega)).trans hP.o)
    have hm6 : (va_up M1 (p + 5) (aR Γ 8 (va_up kr (cK σ) (some sz)))) (p + 6) = aI Γ 8 fa := (up_ne (by omega)).trans ((hlo _ (by omega)).trans f1)
    refine ok_aload_n (pc := 30) dX5_addKite_30 rfl ?_
    refine ok_getf (pc := 31) dX5_addKite_31 fl_X5_30 ho rfl ?_
    refine ok_aload_n (pc := 34) dX5_addKite_34 rfl ?_
    refine ok_getf (pc := 35) dX5_addKite_35 fl_X5_80 ho rfl ?_
    refine ok_iconst (pc := 38) (v := -1) dX5_addKite_38 (by decide) ?_
    refine ok_iast (pc := 39) (cK σ) dX5_addKite_39 hm6 eK h8 (by decide) ?_
    have ho : (va_up (va_up M1 (p + 5) (aR Γ 8 (va_up kr (cK σ) (some sz)))) (p + 6) (aI Γ 8 (upd fa (cK σ) (-1)))) p = some (.inr (5, pfs p σ)) := (up_ne (by omega)).trans ho
    refine ok_aload_n (pc := 40) dX5_addKite_40 rfl ?_
    refine ok_dup (pc := 41) dX5_addKite_41 rfl ?_
    refine ok_getf (pc := 42) dX5_addKite_42 fl_X5_80 ho rfl ?_
    refine ok_iconst (pc := 45) (v := 1) dX5_addKite_45 (by decide) ?_
    refine ok_iadd (pc := 46) dX5_addKite_46 ?_
    have e21 : σ 2 + 1 = nI (cK σ + 1) := (congrArg (· + 1) eK).trans (nI_1 _)
    rw [e21]
    refine ok_putf (pc := 47) dX5_addKite_47 pl_X5_80 ho rfl rfl (by show 7 < 18; decide) ?_
    have hfin := pst_fly (M2 := (va_up (va_up (va_up M1 (p + 5) (aR Γ 8 (va_up kr (cK σ) (some sz)))) (p + 6) (aI Γ 8 (upd fa (cK σ) (-1)))) p (some (.inr (5, (pfs p σ).set 7 (.int (nI (cK σ + 1)))))))) hP hI hpe hez hzs h8 hV k1 f1 up_eq ((up_ne (by omega)).trans ((up_ne (by omega)).trans up_eq)) ((up_ne (by omega)).trans up_eq) (fun q g1 g2 g3 => (up_ne g1).trans ((up_ne g3).trans (up_ne g2)))
    have hoff : ∀ q, (q < p ∨ p + 26 ≤ q) → q < sz → (va_up (va_up (va_up M1 (p + 5) (aR Γ 8 (va_up kr (cK σ) (some sz)))) (p + 6) (aI Γ 8 (upd fa (cK σ) (-1)))) p (some (.inr (5, (pfs p σ).set 7 (.int (nI (cK σ + 1))))))) q = M q := fun q g1 g2 => (up_ne (by omega)).trans ((up_ne (by omega)).trans ((up_ne (by omega)).trans (hlo q g2)))
    have ho : (va_up (va_up (va_up M1 (p + 5) (aR Γ 8 (va_up kr (cK σ) (some sz)))) (p + 6) (aI Γ 8 (upd fa (cK σ) (-1)))) p (some (.inr (5, (pfs p σ).set 7 (.int (nI (cK σ + 1))))))) p = (some (.inr (5, (pfs p σ).set 7 (.int (nI (cK σ + 1)))))) := up_eq
    refine ok_aload_n (pc := 50) dX5_addKite_50 rfl ?_
    refine ok_getf (pc := 51) dX5_addKite_51 fl_X5_80 ho rfl ?_
    refine ok_iconst (pc := 54) (v := 1) dX5_addKite_54 (by decide) ?_
    refine ok_isub (pc := 55) dX5_addKite_55 ?_
    refine ok_iret (pc := 56) dX5_addKite_56 rfl ?_
    have er : nI (cK σ + 1) - 1 = nI (cK σ) := (pk_sub (b := 1) (by omega)).trans (by rw [Nat.add_sub_cancel])
    rw [er]
    exact k _ hfin hoff
  · exact absurd (by rw [eK, fa_lit 8]; exact nI_lt h8 (by decide)) cc_6
