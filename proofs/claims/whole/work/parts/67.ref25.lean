set_option maxHeartbeats 1000000 in
theorem r_here {Γ : Cx} {m sz : Nat} {M0 M : Nat → Option va_E} {σ κ : Rw} {ri : Rw} {ra : Nat → Rw} {u op : Nat} {s : Ps} (hP : RefP Γ m M0 σ κ ri ra u op s M) {K : Int32 → Wd → Prop} (tn : Nat) (e6 : σ 6 = nI tn) (ht : tn ≤ 50) (hs : s.1 ≤ tn) (k : K (hdF σ s) (M, sz)) : Spec Γ mX12_here 0 0 [.ref m] (M, sz) (ci K) := by
  obtain ⟨fc, hfc, hR⟩ := hP
  refine spec_in [some (.ref m)] 0 (by decide) rfl rfl ?_
  refine ok_aload_n (pc := 0) dX12_here_0 rfl ?_
  refine ok_getf (pc := 1) dX12_here_1 fl_X12_164 hR.o rfl ?_
  rw [pr_11]
  refine ok_if_ne (pc := 4) 37 dX12_here_4 (by decide) (fun cc_4 => ?_) (fun cc_4 => ?_)
  · have hw9 : s.2.1 = true := bI_n0.mp cc_4
    refine ok_iconst (pc := 37) (v := -1) dX12_here_37 (by decide) ?_
    refine ok_iret (pc := 38) dX12_here_38 rfl ?_
    first
      | (have e9 : hdF σ s = -1 := by unfold hdF; rw [if_pos hw9]
         rw [e9] at k
         exact k)
      | (have e9 : hdF σ s = -1 := by unfold hdF; rw [if_neg (by rw [hw9]; decide), if_neg ce_18]
         rw [e9] at k
         exact k)
      | (have e9 : hdF σ s = σ (195 + s.1) := by unfold hdF; rw [if_neg (by rw [hw9]; decide), if_pos ce_18]
         rw [e9] at k
         exact k)
  · have hw9 : s.2.1 = false := bI_0.mp cc_4
    refine ok_aload_n (pc := 7) dX12_here_7 rfl ?_
    refine ok_getf (pc := 8) dX12_here_8 fl_X12_168 hR.o rfl ?_
    rw [pr_8]
    refine ok_aload_n (pc := 11) dX12_here_11 rfl ?_
    refine ok_getf (pc := 12) dX12_here_12 fl_X12_9 hR.o rfl ?_
    refine ok_bipush (pc := 15) (v := 6) dX12_here_15 (by decide) ?_
    refine ok_iald (pc := 17) (6) dX12_here_17 hR.a0 rfl (by decide) (by decide) ?_
    refine ok_icmp_ge (pc := 18) 37 dX12_here_18 (by decide) (fun cc_18 => ?_) (fun cc_18 => ?_)
    · have ce_18 := Int32.not_lt.mpr cc_18
      refine ok_iconst (pc := 37) (v := -1) dX12_here_37 (by decide) ?_
      refine ok_iret (pc := 38) dX12_here_38 rfl ?_
      first
        | (have e9 : hdF σ s = -1 := by unfold hdF; rw [if_pos hw9]
           rw [e9] at k
           exact k)
        | (have e9 : hdF σ s = -1 := by unfold hdF; rw [if_neg (by rw [hw9]; decide), if_neg ce_18]
           rw [e9] at k
           exact k)
        | (have e9 : hdF σ s = σ (195 + s.1) := by unfold hdF; rw [if_neg (by rw [hw9]; decide), if_pos ce_18]
           rw [e9] at k
           exact k)
    · have ce_18 := Int32.not_le.mp cc_18
      have hlt9 : s.1 < tn := by have h9 := Int32.not_le.mp cc_18; rw [e6] at h9; exact (nI_ltI (by omega) (by omega)).mp h9
      refine ok_aload_n (pc := 21) dX12_here_21 rfl ?_
      refine ok_getf (pc := 22) dX12_here_22 fl_X12_9 hR.o rfl ?_
      refine ok_sipush (pc := 25) (v := 195) dX12_here_25 (by decide) ?_
      refine ok_aload_n (pc := 28) dX12_here_28 rfl ?_
      refine ok_getf (pc := 29) dX12_here_29 fl_X12_168 hR.o rfl ?_
      rw [pr_8]
      refine ok_iadd (pc := 32) dX12_here_32 ?_
      refine ok_iald (pc := 33) (195 + s.1) dX12_here_33 hR.a0 (by rw [fa_lit 195, nI_add]) (by omega) (by decide) ?_
      refine ok_goto (pc := 34) 38 dX12_here_34 (by decide) ?_
      refine ok_iret (pc := 38) dX12_here_38 rfl ?_
      first
        | (have e9 : hdF σ s = -1 := by unfold hdF; rw [if_pos hw9]
           rw [e9] at k
           exact k)
        | (have e9 : hdF σ s = -1 := by unfold hdF; rw [if_neg (by rw [hw9]; decide), if_neg ce_18]
           rw [e9] at k
           exact k)
        | (have e9 : hdF σ s = σ (195 + s.1) := by unfold hdF; rw [if_neg (by rw [hw9]; decide), if_pos ce_18]
           rw [e9] at k
           exact k)

set_option maxHeartbeats 1000000 in
theorem r_takes {Γ : Cx} {m sz : Nat} {M0 M : Nat → Option va_E} {σ κ : Rw} {ri : Rw} {ra : Nat → Rw} {u op : Nat} {s : Ps} (hP : RefP Γ m M0 σ κ ri ra u op s M) {K : Int32 → Wd → Prop} (tn : Nat) (e6 : σ 6 = nI tn) (ht : tn ≤ 50) (hs : s.1 ≤ tn) {c : Int32} (hc : c ≠ -1) (k : ∀ M', RefP Γ m M0 σ κ ri ra u op (if hdF σ s = c then adF s else s) M' → K (bI (decide (hdF σ s = c))) (M', sz)) : Spec Γ mX12_takes 1 0 [.ref m, .int c] (M, sz) (ci K) := by
  have hP9 := hP
  obtain ⟨fc, hfc, hR⟩ := hP
  refine spec_in [some (.ref m), some (.int c), none] 1 (by decide) rfl rfl ?_
  refine ok_aload_n (pc := 0) dX12_takes_0 rfl ?_
  refine ok_callVi0 (pc := 1) (d' := 0) dX12_takes_1 vl_X12_172 hR.o rfl rfl rfl (by decide) ?_
  refine r_here hP9 tn e6 ht hs ?_
  refine ok_iload_n (pc := 4) dX12_takes_4 rfl ?_
  refine ok_icmp_ne (pc := 5) 12 dX12_takes_5 (by decide) (fun cc_5 => ?_) (fun cc_5 => ?_)
  · refine ok_iconst (pc := 12) (v := 0) dX12_takes_12 (by decide) ?_
    refine ok_istore_n2 (pc := 13) dX12_takes_13 (by decide) rfl ?_
    refine ok_aload_n (pc := 14) dX12_takes_14 rfl ?_
    refine ok_dup (pc := 15) dX12_takes_15 rfl ?_
    refine ok_getf (pc := 16) dX12_takes_16 fl_X12_168 hR.o rfl ?_
    rw [pr_8]
    refine ok_iload_n (pc := 19) dX12_takes_19 rfl ?_
    refine ok_if_eq (pc := 20) 27 dX12_takes_20 (by decide) (fun cc_20 => ?_) (fun cc_20 => ?_)
    · refine ok_iconst (pc := 27) (v := 0) dX12_takes_27 (by decide) ?_
      refine ok_iadd (pc := 28) dX12_takes_28 ?_
      refine ok_rpt8 (pc := 29) dX12_takes_29 pl_X12_168 hR (fun M hR => ?_)
      skip
      refine ok_iload_n (pc := 32) dX12_takes_32 rfl ?_
      refine ok_zret (pc := 33) dX12_takes_33 rfl rfl ?_
      first
        | exact absurd cc_20 (by decide)
        | exact absurd rfl cc_20
        | (rw [nI_1, pw_8] at hR
           have e9 : decide (hdF σ s = c) = true := decide_eq_true cc_5
           rw [e9, if_pos cc_5] at k
           exact k _ ⟨fc, hfc, hR⟩)
        | (have e0 : nI s.1 + 0 = nI s.1 := Int32.add_zero _
           rw [e0, pw_8] at hR
           have e9 : decide (hdF σ s = c) = false := decide_eq_false cc_5
           rw [e9, if_neg cc_5] at k
           exact k _ ⟨fc, hfc, hR⟩)
    · refine ok_iconst (pc := 23) (v := 1) dX12_takes_23 (by decide) ?_
      refine ok_goto (pc := 24) 28 dX12_takes_24 (by decide) ?_
      refine ok_iadd (pc := 28) dX12_takes_28 ?_
      refine ok_rpt8 (pc := 29) dX12_takes_29 pl_X12_168 hR (fun M hR => ?_)
      skip
      refine ok_iload_n (pc := 32) dX12_takes_32 rfl ?_
      refine ok_zret (pc := 33) dX12_takes_33 rfl rfl ?_
      first
        | exact absurd cc_20 (by decide)
        | exact absurd rfl cc_20
        | (rw [nI_1, pw_8] at hR
           have e9 : decide (hdF σ s = c) = true := decide_eq_true cc_5
           rw [e9, if_pos cc_5] at k
           exact k _ ⟨fc, hfc, hR⟩)
        | (have e0 : nI s.1 + 0 = nI s.1 := Int32.add_zero _
           rw [e0, pw_8] at hR
           have e9 : decide (hdF σ s = c) = false := decide_eq_false cc_5
           rw [e9, if_neg cc_5] at k
           exact k _ ⟨fc, hfc, hR⟩)
  · refine ok_iconst (pc := 8) (v := 1) dX12_takes_8 (by decide) ?_
    refine ok_goto (pc := 9) 13 dX12_takes_9 (by decide) ?_
    refine ok_istore_n2 (pc := 13) dX12_takes_13 (by decide) rfl ?_
    refine ok_aload_n (pc := 14) dX12_takes_14 rfl ?_
    refine ok_dup (pc := 15) dX12_takes_15 rfl ?_
    refine ok_getf (pc := 16) dX12_takes_16 fl_X12_168 hR.o rfl ?_
    rw [pr_8]
    refine ok_iload_n (pc := 19) dX12_takes_19 rfl ?_
    refine ok_if_eq (pc := 20) 27 dX12_takes_20 (by decide) (fun cc_20 => ?_) (fun cc_20 => ?_)
    · refine ok_iconst (pc := 27) (v := 0) dX12_takes_27 (by decide) ?_
      refine ok_iadd (pc := 28) dX12_takes_28 ?_
      refine ok_rpt8 (pc := 29) dX12_takes_29 pl_X12_168 hR (fun M hR => ?_)
      skip
      refine ok_iload_n (pc := 32) dX12_takes_32 rfl ?_
      refine ok_zret (pc := 33) dX12_takes_33 rfl rfl ?_
      first
        | exact absurd cc_20 (by decide)
        | exact absurd rfl cc_20
        | (rw [nI_1, pw_8] at hR
           have e9 : decide (hdF σ s = c) = true := decide_eq_true cc_5
           rw [e9, if_pos cc_5] at k
           exact k _ ⟨fc, hfc, hR⟩)
        | (have e0 : nI s.1 + 0 = nI s.1 := Int32.add_zero _
           rw [e0, pw_8] at hR
           have e9 : decide (hdF σ s = c) = false := decide_eq_false cc_5
           rw [e9, if_neg cc_5] at k
           exact k _ ⟨fc, hfc, hR⟩)
    · refine ok_iconst (pc := 23) (v := 1) dX12_takes_23 (by decide) ?_
      refine ok_goto (pc := 24) 28 dX12_takes_24 (by decide) ?_
      refine ok_iadd (pc := 28) dX12_takes_28 ?_
      refine ok_rpt8 (pc := 29) dX12_takes_29 pl_X12_168 hR (fun M hR => ?_)
      skip
      refine ok_iload_n (pc := 32) dX12_takes_32 rfl ?_
      refine ok_zret (pc := 33) dX12_takes_33 rfl rfl ?_
      first
        | exact absurd cc_20 (by decide)
        | exact absurd rfl cc_20
        | (rw [nI_1, pw_8] at hR
           have e9 : decide (hdF σ s = c) = true := decide_eq_true cc_5
           rw [e9, if_pos cc_5] at k
           exact k _ ⟨fc, hfc, hR⟩)
        | (have e0 : nI s.1 + 0 = nI s.1 := Int32.add_zero _
           rw [e0, pw_8] at hR
           have e9 : decide (hdF σ s = c) = false := decide_eq_false cc_5
           rw [e9, if_neg cc_5] at k
           exact k _ ⟨fc, hfc, hR⟩)

set_option maxHeartbeats 1000000 in
theorem r_codes {Γ : Cx} {m sz : Nat} {M0 M : Nat → Option va_E} {σ κ : Rw} {ri : Rw} {ra : Nat → Rw} {u op : Nat} {s : Ps} (hP : RefP Γ m M0 σ κ ri ra u op s M) {K : Wd → Prop} {v : Int32} (hn : s.2.2.1 < 60) (k : ∀ M', RefP Γ m M0 σ κ ri ra u op (emF s v) M' → K (M', sz)) : Spec Γ mX12_codes 0 0 [.ref m, .int v] (M, sz) (cv K) := by
  obtain ⟨fc, hfc, hR⟩ := hP
  refine spec_in [some (.ref m), some (.int v)] 0 (by decide) rfl rfl ?_
  refine ok_aload_n (pc := 0) dX12_codes_0 rfl ?_
  refine ok_getf (pc := 1) dX12_codes_1 fl_X12_164 hR.o rfl ?_
  rw [pr_11]
  refine ok_if_ne (pc := 4) 27 dX12_codes_4 (by decide) (fun cc_4 => ?_) (fun cc_4 => ?_)
  · have hw9 : s.2.1 = true := bI_n0.mp cc_4
    refine ok_vret (pc := 27) dX12_codes_27 rfl ?_
    first
      | (have e9 : emF s v = s := if_pos hw9
         rw [e9] at k
         exact k _ ⟨fc, hfc, hR⟩)
      | (have e9 : emF s v = (s.1, s.2.1, s.2.2.1 + 1, upd s.2.2.2 s.2.2.1 v) := if_neg (by rw [hw9]; decide)
         rw [e9] at k
         rw [nI_1, pw_13 (f := upd s.2.2.2 s.2.2.1 v), vup_vup, vup_eq] at hR
         refine k _ ⟨_, fun j hj => ?_, hR⟩
         have hj2 : j < s.2.2.1 + 1 := hj
         by_cases h9 : j = s.2.2.1
         · subst h9; rw [upd_at]; exact upd_at.symm
         · rw [upd_ne h9, hfc j (by omega)]; exact (upd_ne h9).symm)
  · have hw9 : s.2.1 = false := bI_0.mp cc_4
    refine ok_aload_n (pc := 7) dX12_codes_7 rfl ?_
    refine ok_getf (pc := 8) dX12_codes_8 fl_X12_38 hR.o rfl ?_
    refine ok_aload_n (pc := 11) dX12_codes_11 rfl ?_
    refine ok_getf (pc := 12) dX12_codes_12 fl_X12_176 hR.o rfl ?_
    rw [pr_13]
    refine ok_iload_n (pc := 15) dX12_codes_15 rfl ?_
    refine ok_rst12 (pc := 16) (s.2.2.1) dX12_codes_16 hR rfl hn (fun M hR => ?_)
    refine ok_aload_n (pc := 17) dX12_codes_17 rfl ?_
    refine ok_dup (pc := 18) dX12_codes_18 rfl ?_
    refine ok_getf (pc := 19) dX12_codes_19 fl_X12_176 hR.o rfl ?_
    rw [pr_13]
    refine ok_iconst (pc := 22) (v := 1) dX12_codes_22 (by decide) ?_
    refine ok_iadd (pc := 23) dX12_codes_23 ?_
    refine ok_rpt13 (pc := 24) dX12_codes_24 pl_X12_176 hR (fun M hR => ?_)
    refine ok_vret (pc := 27) dX12_codes_27 rfl ?_
    first
      | (have e9 : emF s v = s := if_pos hw9
         rw [e9] at k
         exact k _ ⟨fc, hfc, hR⟩)
      | (have e9 : emF s v = (s.1, s.2.1, s.2.2.1 + 1, upd s.2.2.2 s.2.2.1 v) := if_neg (by rw [hw9]; decide)
         rw [e9] at k
         rw [nI_1, pw_13 (f := upd s.2.2.2 s.2.2.1 v), vup_vup, vup_eq] at hR
         refine k _ ⟨_, fun j hj => ?_, hR⟩
         have hj2 : j < s.2.2.1 + 1 := hj
         by_cases h9 : j = s.2.2.1
         · subst h9; rw [upd_at]; exact upd_at.symm
         · rw [upd_ne h9, hfc j (by omega)]; exact (upd_ne h9).symm)

/-- what reading a part is worth: a contract of a method without arguments -/
def HQ (Γ : Cx) (m sz : Nat) (M0 : Nat → Option va_E) (σ κ ri : Rw) (ra : Nat → Rw) (u op tn : Nat) (g : Md) (d : Nat) (q : Ps → Ps) : Prop :=
  ∀ (s : Ps) (M : Nat → Option va_E) (K : Wd → Prop), s.1 ≤ tn → s.2.2.1 ≤ s.1 → RefP Γ m M0 σ κ ri ra u op s M → (∀ M', RefP Γ m M0 σ κ ri ra u op (q s) M' → K (M', sz)) → Spec Γ g d 0 [.ref m] (M, sz) (cv K)
theorem Mn.cd {tn : Nat} {s t : Ps} (h : Mn tn s t) (hc : s.2.2.1 ≤ s.1) : t.2.2.1 ≤ t.1 := by have := h.2.1; have := h.1; omega

set_option maxHeartbeats 1000000 in
theorem lq_product {Γ : Cx} {m sz : Nat} {M0 : Nat → Option va_E} {σ κ : Rw} {ri : Rw} {ra : Nat → Rw} {u op tn d9 : Nat} {q : Ps → Ps} (e6 : σ 6 = nI tn) (ht : tn ≤ 50) (hq : HQ Γ m sz M0 σ κ ri ra u op tn mX12_one d9 q) (hm : MqP tn q) {K : Wd → Prop} (S9 : Ps) (k : ∀ M', RefP Γ m M0 σ κ ri ra u op S9 M' → K (M', sz)) : ∀ (n : Nat) (s0 : Ps) (x1 : Int32) (M : Nat → Option va_E), 50 ≤ s0.1 + n → s0.1 ≤ tn → s0.2.2.1 ≤ s0.1 → x1 = opC 4 (hdF σ s0) → RefP Γ m M0 σ κ ri ra u op (if 0 < opC 4 (hdF σ s0) then adF s0 else s0) M → lpF σ 4 q n s0 = S9 → Ok Γ mX12_product (d9 + 2) 0 51 [some (.ref m), some (.int x1)] [] (M, sz) (cv K) := by
  intro n
  induction n with
  | zero =>
    intro s0 x1 M h1 hs hc e1 hP hA
    refine ok_iload_n (pc := 51) dX12_product_51 rfl ?_
    refine ok_if_le (pc := 52) 114 dX12_product_52 (by decide) (fun cc_52 => ?_) (fun cc_52 => ?_)
    · have ce_52 := Int32.not_lt.mpr cc_52
      have hn : ¬ 0 < opC 4 (hdF σ s0) := by rw [← e1]; exact Int32.not_lt.mpr cc_52
      rw [if_neg hn] at hP
      have hA9 : s0 = S9 := hA
      subst hA9
      refine ok_vret (pc := 114) dX12_product_114 rfl ?_
      exact k _ hP
    · have e9 : hdF σ s0 = -1 := hd_end e6 ht (by omega) (by omega)
      rw [e1, e9, opC_m1] at cc_52
      exact absurd (by decide) cc_52
  | succ n ih =>
    intro s0 x1 M h1 hs hc e1 hP hA
    refine ok_iload_n (pc := 51) dX12_product_51 rfl ?_
    refine ok_if_le (pc := 52) 114 dX12_product_52 (by decide) (fun cc_52 => ?_) (fun cc_52 => ?_)
    · have ce_52 := Int32.not_lt.mpr cc_52
      have hn : ¬ 0 < opC 4 (hdF σ s0) := by rw [← e1]; exact Int32.not_lt.mpr cc_52
      rw [if_neg hn] at hP
      have hA9 : s0 = S9 := by rw [← hA]; exact (if_neg hn).symm
      subst hA9
      refine ok_vret (pc := 114) dX12_product_114 rfl ?_
      exact k _ hP
    · have ce_52 := Int32.not_le.mp cc_52
      have hn : 0 < opC 4 (hdF σ s0) := by rw [← e1]; exact ce_52
      rw [if_pos hn] at hP
      obtain ⟨-, hlt, -⟩ := hd_in e6 ht hs (opC_pos hn)
      obtain ⟨m1, m2⟩ := Mn.op hm (c := x1) hlt
      have hA9 : lpF σ 4 q n (emF (q (adF s0)) x1) = S9 := by rw [← hA, e1]; exact (if_pos hn).symm
      obtain ⟨fc, hfc, hR⟩ := id hP
      refine ok_aload_n (pc := 55) dX12_product_55 rfl ?_
      refine ok_callVv0 (pc := 56) (d' := d9) dX12_product_56 vl_X12_198 hR.o rfl rfl rfl (by omega) ?_
      refine hq (adF s0) _ _ hlt (Nat.le_succ_of_le hc) hP (fun M hP => ?_)
      obtain ⟨fc, hfc, hR⟩ := id hP
      refine ok_aload_n (pc := 59) dX12_product_59 rfl ?_
      refine ok_iload_n (pc := 60) dX12_product_60 rfl ?_
      refine ok_callVv1 (pc := 61) (d' := 0) dX12_product_61 vl_X12_185 hR.o rfl rfl rfl (by omega) ?_
      refine r_codes hP (by have h9 := (hm (adF s0) hlt).cd (Nat.le_succ_of_le hc); have h8 := (hm (adF s0) hlt).2.2; omega) (fun M hP => ?_)
      obtain ⟨fc, hfc, hR⟩ := id hP
      refine ok_aload_n (pc := 64) dX12_product_64 rfl ?_
      refine ok_bipush (pc := 65) (v := 42) dX12_product_65 (by decide) ?_
      refine ok_callVi1 (pc := 67) (d' := 1) dX12_product_67 vl_X12_182 hR.o rfl rfl rfl (by omega) ?_
      refine r_takes hP tn e6 ht m1.2.2 (by decide) (fun M hP => ?_)
      obtain ⟨fc, hfc, hR⟩ := id hP
      refine ok_if_eq (pc := 70) 79 dX12_product_70 (by decide) (fun cc_70 => ?_) (fun cc_70 => ?_)
      · have cq_70 := bI_0.mp cc_70
        have ch_42 : ¬ hdF σ (emF (q (adF s0)) x1) = 42 := of_decide_eq_false cq_70
        rw [if_neg ch_42] at hP
        refine ok_aload_n (pc := 79) dX12_product_79 rfl ?_
        refine ok_bipush (pc := 80) (v := 47) dX12_product_80 (by decide) ?_
        refine ok_callVi1 (pc := 82) (d' := 1) dX12_product_82 vl_X12_182 hR.o rfl rfl rfl (by omega) ?_
        refine r_takes hP tn e6 ht m1.2.2 (by decide) (fun M hP => ?_)
        obtain ⟨fc, hfc, hR⟩ := id hP
        refine ok_if_eq (pc := 85) 94 dX12_product_85 (by decide) (fun cc_85 => ?_) (fun cc_85 => ?_)
        · have cq_85 := bI_0.mp cc_85
          have ch_47 : ¬ hdF σ (emF (q (adF s0)) x1) = 47 := of_decide_eq_false cq_85
          rw [if_neg ch_47] at hP
          refine ok_aload_n (pc := 94) dX12_product_94 rfl ?_
          refine ok_bipush (pc := 95) (v := 37) dX12_product_95 (by decide) ?_
          refine ok_callVi1 (pc := 97) (d' := 1) dX12_product_97 vl_X12_182 hR.o rfl rfl rfl (by omega) ?_
          refine r_takes hP tn e6 ht m1.2.2 (by decide) (fun M hP => ?_)
          obtain ⟨fc, hfc, hR⟩ := id hP
          refine ok_if_eq (pc := 100) 109 dX12_product_100 (by decide) (fun cc_100 => ?_) (fun cc_100 => ?_)
          · have cq_100 := bI_0.mp cc_100
            have ch_37 : ¬ hdF σ (emF (q (adF s0)) x1) = 37 := of_decide_eq_false cq_100
            rw [if_neg ch_37] at hP
            refine ok_iconst (pc := 109) (v := 0) dX12_product_109 (by decide) ?_
            refine ok_istore_n1 (pc := 110) dX12_product_110 (by decide) rfl ?_
            refine ok_goto (pc := 111) 51 dX12_product_111 (by decide) ?_
            first
              | (have eo : opC 4 (hdF σ (emF (q (adF s0)) x1)) = 20007 := by rw [ch_42]; decide
                 have hP9 : RefP Γ m M0 σ κ ri ra u op (if 0 < opC 4 (hdF σ (emF (q (adF s0)) x1)) then adF (emF (q (adF s0)) x1) else (emF (q (adF s0)) x1)) M := by rw [eo, if_pos (by decide)]; exact hP
                 exact ih (emF (q (adF s0)) x1) _ _ (by omega) m1.2.2 (m1.cd hc) eo.symm hP9 hA9)
              | (have eo : opC 4 (hdF σ (emF (q (adF s0)) x1)) = 20008 := by rw [ch_47]; decide
                 have hP9 : RefP Γ m M0 σ κ ri ra u op (if 0 < opC 4 (hdF σ (emF (q (adF s0)) x1)) then adF (emF (q (adF s0)) x1) else (emF (q (adF s0)) x1)) M := by rw [eo, if_pos (by decide)]; exact hP
                 exact ih (emF (q (adF s0)) x1) _ _ (by omega) m1.2.2 (m1.cd hc) eo.symm hP9 hA9)
              | (have eo : opC 4 (hdF σ (emF (q (adF s0)) x1)) = 20009 := by rw [ch_37]; decide
                 have hP9 : RefP Γ m M0 σ κ ri ra u op (if 0 < opC 4 (hdF σ (emF (q (adF s0)) x1)) then adF (emF (q (adF s0)) x1) else (emF (q (adF s0)) x1)) M := by rw [eo, if_pos (by decide)]; exact hP
                 exact ih (emF (q (adF s0)) x1) _ _ (by omega) m1.2.2 (m1.cd hc) eo.symm hP9 hA9)
              | (have eo : opC 4 (hdF σ (emF (q (adF s0)) x1)) = 0 := by unfold opC; simp [ch_42, ch_47, ch_37]
                 have hP9 : RefP Γ m M0 σ κ ri ra u op (if 0 < opC 4 (hdF σ (emF (q (adF s0)) x1)) then adF (emF (q (adF s0)) x1) else (emF (q (adF s0)) x1)) M := by rw [eo, if_neg (by decide)]; exact hP
                 exact ih (emF (q (adF s0)) x1) _ _ (by omega) m1.2.2 (m1.cd hc) eo.symm hP9 hA9)
          · have cq_100 := bI_n0.mp cc_100
            have ch_37 : hdF σ (emF (q (adF s0)) x1) = 37 := of_decide_eq_true cq_100
            rw [if_pos ch_37] at hP
            refine ok_sipush (pc := 103) (v := 20009) dX12_product_103 (by decide) ?_
            refine ok_goto (pc := 106) 110 dX12_product_106 (by decide) ?_
            refine ok_istore_n1 (pc := 110) dX12_product_110 (by decide) rfl ?_
            refine ok_goto (pc := 111) 51 dX12_product_111 (by decide) ?_
            first
              | (have eo : opC 4 (hdF σ (emF (q (adF s0)) x1)) = 20007 := by rw [ch_42]; decide
                 have hP9 : RefP Γ m M0 σ κ ri ra u op (if 0 < opC 4 (hdF σ (emF (q (adF s0)) x1)) then adF (emF (q (adF s0)) x1) else (emF (q (adF s0)) x1)) M := by rw [eo, if_pos (by decide)]; exact hP
                 exact ih (emF (q (adF s0)) x1) _ _ (by omega) m1.2.2 (m1.cd hc) eo.symm hP9 hA9)
              | (have eo : opC 4 (hdF σ (emF (q (adF s0)) x1)) = 20008 := by rw [ch_47]; decide
                 have hP9 : RefP Γ m M0 σ κ ri ra u op (if 0 < opC 4 (hdF σ (emF (q (adF s0)) x1)) then adF (emF (q (adF s0)) x1) else (emF (q (adF s0)) x1)) M := by rw [eo, if_pos (by decide)]; exact hP
                 exact ih (emF (q (adF s0)) x1) _ _ (by omega) m1.2.2 (m1.cd hc) eo.symm hP9 hA9)
              | (have eo : opC 4 (hdF σ (emF (q (adF s0)) x1)) = 20009 := by rw [ch_37]; decide
                 have hP9 : RefP Γ m M0 σ κ ri ra u op (if 0 < opC 4 (hdF σ (emF (q (adF s0)) x1)) then adF (emF (q (adF s0)) x1) else (emF (q (adF s0)) x1)) M := by rw [eo, if_pos (by decide)]; exact hP
                 exact ih (emF (q (adF s0)) x1) _ _ (by omega) m1.2.2 (m1.cd hc) eo.symm hP9 hA9)
              | (have eo : opC 4 (hdF σ (emF (q (adF s0)) x1)) = 0 := by unfold opC; simp [ch_42, ch_47, ch_37]
                 have hP9 : RefP Γ m M0 σ κ ri ra u op (if 0 < opC 4 (hdF σ (emF (q (adF s0)) x1)) then adF (emF (q (adF s0)) x1) else (emF (q (adF s0)) x1)) M := by rw [eo, if_neg (by decide)]; exact hP
                 exact ih (emF (q (adF s0)) x1) _ _ (by omega) m1.2.2 (m1.cd hc) eo.symm hP9 hA9)
        · have cq_85 := bI_n0.mp cc_85
          have ch_47 : hdF σ (emF (q (adF s0)) x1) = 47 := of_decide_eq_true cq_85
          rw [if_pos ch_47] at hP
          refine ok_sipush (pc := 88) (v := 20008) dX12_product_88 (by decide) ?_
          refine ok_goto (pc := 91) 110 dX12_product_91 (by decide) ?_
          refine ok_istore_n1 (pc := 110) dX12_product_110 (by decide) rfl ?_
          refine ok_goto (pc := 111) 51 dX12_product_111 (by decide) ?_
          first
            | (have eo : opC 4 (hdF σ (emF (q (adF s0)) x1)) = 20007 := by rw [ch_42]; decide
               have hP9 : RefP Γ m M0 σ κ ri ra u op (if 0 < opC 4 (hdF σ (emF (q (adF s0)) x1)) then adF (emF (q (adF s0)) x1) else (emF (q (adF s0)) x1)) M := by rw [eo, if_pos (by decide)]; exact hP
               exact ih (emF (q (adF s0)) x1) _ _ (by omega) m1.2.2 (m1.cd hc) eo.symm hP9 hA9)
            | (have eo : opC 4 (hdF σ (emF (q (adF s0)) x1)) = 20008 := by rw [ch_47]; decide
               have hP9 : RefP Γ m M0 σ κ ri ra u op (if 0 < opC 4 (hdF σ (emF (q (adF s0)) x1)) then adF (emF (q (adF s0)) x1) else (emF (q (adF s0)) x1)) M := by rw [eo, if_pos (by decide)]; exact hP
               exact ih (emF (q (adF s0)) x1) _ _ (by omega) m1.2.2 (m1.cd hc) eo.symm hP9 hA9)
            | (have eo : opC 4 (hdF σ (emF (q (adF s0)) x1)) = 20009 := by rw [ch_37]; decide
               have hP9 : RefP Γ m M0 σ κ ri ra u op (if 0 < opC 4 (hdF σ (emF (q (adF s0)) x1)) then adF (emF (q (adF s0)) x1) else (emF (q (adF s0)) x1)) M := by rw [eo, if_pos (by decide)]; exact hP
               exact ih (emF (q (adF s0)) x1) _ _ (by omega) m1.2.2 (m1.cd hc) eo.symm hP9 hA9)
            | (have eo : opC 4 (hdF σ (emF (q (adF s0)) x1)) = 0 := by unfold opC; simp [ch_42, ch_47, ch_37]
               have hP9 : RefP Γ m M0 σ κ ri ra u op (if 0 < opC 4 (hdF σ (emF (q (adF s0)) x1)) then adF (emF (q (adF s0)) x1) else (emF (q (adF s0)) x1)) M := by rw [eo, if_neg (by decide)]; exact hP
               exact ih (emF (q (adF s0)) x1) _ _ (by omega) m1.2.2 (m1.cd hc) eo.symm hP9 hA9)
      · have cq_70 := bI_n0.mp cc_70
        have ch_42 : hdF σ (emF (q (adF s0)) x1) = 42 := of_decide_eq_true cq_70
        rw [if_pos ch_42] at hP
        refine ok_sipush (pc := 73) (v := 20007) dX12_product_73 (by decide) ?_
        refine ok_goto (pc := 76) 110 dX12_product_76 (by decide) ?_
        refine ok_istore_n1 (pc := 110) dX12_product_110 (by decide) rfl ?_
        refine ok_goto (pc := 111) 51 dX12_product_111 (by decide) ?_
        first
          | (have eo : opC 4 (hdF σ (emF (q (adF s0)) x1)) = 20007 := by rw [ch_42]; decide
             have hP9 : RefP Γ m M0 σ κ ri ra u op (if 0 < opC 4 (hdF σ (emF (q (adF s0)) x1)) then adF (emF (q (adF s0)) x1) else (emF (q (adF s0)) x1)) M := by rw [eo, if_pos (by decide)]; exact hP
             exact ih (emF (q (adF s0)) x1) _ _ (by omega) m1.2.2 (m1.cd hc) eo.symm hP9 hA9)
          | (have eo : opC 4 (hdF σ (emF (q (adF s0)) x1)) = 20008 := by rw [ch_47]; decide
             have hP9 : RefP Γ m M0 σ κ ri ra u op (if 0 < opC 4 (hdF σ (emF (q (adF s0)) x1)) then adF (emF (q (adF s0)) x1) else (emF (q (adF s0)) x1)) M := by rw [eo, if_pos (by decide)]; exact hP
             exact ih (emF (q (adF s0)) x1) _ _ (by omega) m1.2.2 (m1.cd hc) eo.symm hP9 hA9)
          | (have eo : opC 4 (hdF σ (emF (q (adF s0)) x1)) = 20009 := by rw [ch_37]; decide
             have hP9 : RefP Γ m M0 σ κ ri ra u op (if 0 < opC 4 (hdF σ (emF (q (adF s0)) x1)) then adF (emF (q (adF s0)) x1) else (emF (q (adF s0)) x1)) M := by rw [eo, if_pos (by decide)]; exact hP
             exact ih (emF (q (adF s0)) x1) _ _ (by omega) m1.2.2 (m1.cd hc) eo.symm hP9 hA9)
          | (have eo : opC 4 (hdF σ (emF (q (adF s0)) x1)) = 0 := by unfold opC; simp [ch_42, ch_47, ch_37]
             have hP9 : RefP Γ m M0 σ κ ri ra u op (if 0 < opC 4 (hdF σ (emF (q (adF s0)) x1)) then adF (emF (q (adF s0)) x1) else (emF (q (adF s0)) x1)) M := by rw [eo, if_neg (by decide)]; exact hP
             exact ih (emF (q (adF s0)) x1) _ _ (by omega) m1.2.2 (m1.cd hc) eo.symm hP9 hA9)

set_option maxHeartbeats 1000000 in
theorem r_product {Γ : Cx} {m sz : Nat} {M0 : Nat → Option va_E} {σ κ : Rw} {ri : Rw} {ra : Nat → Rw} {u op tn d9 : Nat} {q : Ps → Ps} (e6 : σ 6 = nI tn) (ht : tn ≤ 50) (hq : HQ Γ m sz M0 σ κ ri ra u op tn mX12_one d9 q) (hm : MqP tn q) : HQ Γ m sz M0 σ κ ri ra u op tn mX12_product (d9 + 2) (fun s => lpF σ 4 q 50 (q s)) := by
  intro s M K hs hc hP k
  obtain ⟨fc, hfc, hR⟩ := id hP
  have m1 := hm s hs
  refine spec_in [some (.ref m), none] 1 (by decide) rfl rfl ?_
  refine ok_aload_n (pc := 0) dX12_product_0 rfl ?_
  refine ok_callVv0 (pc := 1) (d' := d9) dX12_product_1 vl_X12_198 hR.o rfl rfl rfl (by omega) ?_
  refine hq s _ _ hs hc hP (fun M hP => ?_)
  obtain ⟨fc, hfc, hR⟩ := id hP
  refine ok_aload_n (pc := 4) dX12_product_4 rfl ?_
  refine ok_bipush (pc := 5) (v := 42) dX12_product_5 (by decide) ?_
  refine ok_callVi1 (pc := 7) (d' := 1) dX12_product_7 vl_X12_182 hR.o rfl rfl rfl (by omega) ?_
  refine r_takes hP tn e6 ht m1.2.2 (by decide) (fun M hP => ?_)
  obtain ⟨fc, hfc, hR⟩ := id hP
  refine ok_if_eq (pc := 10) 19 dX12_product_10 (by decide) (fun cc_10 => ?_) (fun cc_10 => ?_)
  · have cq_10 := bI_0.mp cc_10
    have ch_42 : ¬ hdF σ (q s) = 42 := of_decide_eq_false cq_10
    rw [if_neg ch_42] at hP
    refine ok_aload_n (pc := 19) dX12_product_19 rfl ?_
    refine ok_bipush (pc := 20) (v := 47) dX12_product_20 (by decide) ?_
    refine ok_callVi1 (pc := 22) (d' := 1) dX12_product_22 vl_X12_182 hR.o rfl rfl rfl (by omega) ?_
    refine r_takes hP tn e6 ht m1.2.2 (by decide) (fun M hP => ?_)
    obtain ⟨fc, hfc, hR⟩ := id hP
    refine ok_if_eq (pc := 25) 34 dX12_product_25 (by decide) (fun cc_25 => ?_) (fun cc_25 => ?_)
    · have cq_25 := bI_0.mp cc_25
      have ch_47 : ¬ hdF σ (q s) = 47 := of_decide_eq_false cq_25
      rw [if_neg ch_47] at hP
      refine ok_aload_n (pc := 34) dX12_product_34 rfl ?_
      refine ok_bipush (pc := 35) (v := 37) dX12_product_35 (by decide) ?_
      refine ok_callVi1 (pc := 37) (d' := 1) dX12_product_37 vl_X12_182 hR.o rfl rfl rfl (by omega) ?_
      refine r_takes hP tn e6 ht m1.2.2 (by decide) (fun M hP => ?_)
      obtain ⟨fc, hfc, hR⟩ := id hP
      refine ok_if_eq (pc := 40) 49 dX12_product_40 (by decide) (fun cc_40 => ?_) (fun cc_40 => ?_)
      · have cq_40 := bI_0.mp cc_40
        have ch_37 : ¬ hdF σ (q s) = 37 := of_decide_eq_false cq_40
        rw [if_neg ch_37] at hP
        refine ok_iconst (pc := 49) (v := 0) dX12_product_49 (by decide) ?_
        refine ok_istore_n1 (pc := 50) dX12_product_50 (by decide) rfl ?_
        first
          | (have eo : opC 4 (hdF σ (q s)) = 20007 := by rw [ch_42]; decide
             have hP9 : RefP Γ m M0 σ κ ri ra u op (if 0 < opC 4 (hdF σ (q s)) then adF (q s) else (q s)) M := by rw [eo, if_pos (by decide)]; exact hP
             exact lq_product e6 ht hq hm _ k 50 (q s) _ _ (by omega) m1.2.2 (m1.cd hc) eo.symm hP9 rfl)
          | (have eo : opC 4 (hdF σ (q s)) = 20008 := by rw [ch_47]; decide
             have hP9 : RefP Γ m M0 σ κ ri ra u op (if 0 < opC 4 (hdF σ (q s)) then adF (q s) else (q s)) M := by rw [eo, if_pos (by decide)]; exact hP
             exact lq_product e6 ht hq hm _ k 50 (q s) _ _ (by omega) m1.2.2 (m1.cd hc) eo.symm hP9 rfl)
          | (have eo : opC 4 (hdF σ (q s)) = 20009 := by rw [ch_37]; decide
             have hP9 : RefP Γ m M0 σ κ ri ra u op (if 0 < opC 4 (hdF σ (q s)) then adF (q s) else (q s)) M := by rw [eo, if_pos (by decide)]; exact hP
             exact lq_product e6 ht hq hm _ k 50 (q s) _ _ (by omega) m1.2.2 (m1.cd hc) eo.symm hP9 rfl)
          | (have eo : opC 4 (hdF σ (q s)) = 0 := by unfold opC; simp [ch_42, ch_47, ch_37]
             have hP9 : RefP Γ m M0 σ κ ri ra u op (if 0 < opC 4 (hdF σ (q s)) then adF (q s) else (q s)) M := by rw [eo, if_neg (by decide)]; exact hP
             exact lq_product e6 ht hq hm _ k 50 (q s) _ _ (by omega) m1.2.2 (m1.cd hc) eo.symm hP9 rfl)
      · have cq_40 := bI_n0.mp cc_40
        have ch_37 : hdF σ (q s) = 37 := of_decide_eq_true cq_40
        rw [if_pos ch_37] at hP
        refine ok_sipush (pc := 43) (v := 20009) dX12_product_43 (by decide) ?_
        refine ok_goto (pc := 46) 50 dX12_product_46 (by decide) ?_
        refine ok_istore_n1 (pc := 50) dX12_product_50 (by decide) rfl ?_
        first
          | (have eo : opC 4 (hdF σ (q s)) = 20007 := by rw [ch_42]; decide
             have hP9 : RefP Γ m M0 σ κ ri ra u op (if 0 < opC 4 (hdF σ (q s)) then adF (q s) else (q s)) M := by rw [eo, if_pos (by decide)]; exact hP
             exact lq_product e6 ht hq hm _ k 50 (q s) _ _ (by omega) m1.2.2 (m1.cd hc) eo.symm hP9 rfl)
          | (have eo : opC 4 (hdF σ (q s)) = 20008 := by rw [ch_47]; decide
             have hP9 : RefP Γ m M0 σ κ ri ra u op (if 0 < opC 4 (hdF σ (q s)) then adF (q s) else (q s)) M := by rw [eo, if_pos (by decide)]; exact hP
             exact lq_product e6 ht hq hm _ k 50 (q s) _ _ (by omega) m1.2.2 (m1.cd hc) eo.symm hP9 rfl)
          | (have eo : opC 4 (hdF σ (q s)) = 20009 := by rw [ch_37]; decide
             have hP9 : RefP Γ m M0 σ κ ri ra u op (if 0 < opC 4 (hdF σ (q s)) then adF (q s) else (q s)) M := by rw [eo, if_pos (by decide)]; exact hP
             exact lq_product e6 ht hq hm _ k 50 (q s) _ _ (by omega) m1.2.2 (m1.cd hc) eo.symm hP9 rfl)
          | (have eo : opC 4 (hdF σ (q s)) = 0 := by unfold opC; simp [ch_42, ch_47, ch_37]
             have hP9 : RefP Γ m M0 σ κ ri ra u op (if 0 < opC 4 (hdF σ (q s)) then adF (q s) else (q s)) M := by rw [eo, if_neg (by decide)]; exact hP
             exact lq_product e6 ht hq hm _ k 50 (q s) _ _ (by omega) m1.2.2 (m1.cd hc) eo.symm hP9 rfl)
    · have cq_25 := bI_n0.mp cc_25
      have ch_47 : hdF σ (q s) = 47 := of_decide_eq_true cq_25
      rw [if_pos ch_47] at hP
      refine ok_sipush (pc := 28) (v := 20008) dX12_product_28 (by decide) ?_
      refine ok_goto (pc := 31) 50 dX12_product_31 (by decide) ?_
      refine ok_istore_n1 (pc := 50) dX12_product_50 (by decide) rfl ?_
      first
        | (have eo : opC 4 (hdF σ (q s)) = 20007 := by rw [ch_42]; decide
           have hP9 : RefP Γ m M0 σ κ ri ra u op (if 0 < opC 4 (hdF σ (q s)) then adF (q s) else (q s)) M := by rw [eo, if_pos (by decide)]; exact hP
           exact lq_product e6 ht hq hm _ k 50 (q s) _ _ (by omega) m1.2.2 (m1.cd hc) eo.symm hP9 rfl)
        | (have eo : opC 4 (hdF σ (q s)) = 20008 := by rw [ch_47]; decide
           have hP9 : RefP Γ m M0 σ κ ri ra u op (if 0 < opC 4 (hdF σ (q s)) then adF (q s) else (q s)) M := by rw [eo, if_pos (by decide)]; exact hP
           exact lq_product e6 ht hq hm _ k 50 (q s) _ _ (by omega) m1.2.2 (m1.cd hc) eo.symm hP9 rfl)
        | (have eo : opC 4 (hdF σ (q s)) = 20009 := by rw [ch_37]; decide
           have hP9 : RefP Γ m M0 σ κ ri ra u op (if 0 < opC 4 (hdF σ (q s)) then adF (q s) else (q s)) M := by rw [eo, if_pos (by decide)]; exact hP
           exact lq_product e6 ht hq hm _ k 50 (q s) _ _ (by omega) m1.2.2 (m1.cd hc) eo.symm hP9 rfl)
        | (have eo : opC 4 (hdF σ (q s)) = 0 := by unfold opC; simp [ch_42, ch_47, ch_37]
           have hP9 : RefP Γ m M0 σ κ ri ra u op (if 0 < opC 4 (hdF σ (q s)) then adF (q s) else (q s)) M := by rw [eo, if_neg (by decide)]; exact hP
           exact lq_product e6 ht hq hm _ k 50 (q s) _ _ (by omega) m1.2.2 (m1.cd hc) eo.symm hP9 rfl)
  · have cq_10 := bI_n0.mp cc_10
    have ch_42 : hdF σ (q s) = 42 := of_decide_eq_true cq_10
    rw [if_pos ch_42] at hP
    refine ok_sipush (pc := 13) (v := 20007) dX12_product_13 (by decide) ?_
    refine ok_goto (pc := 16) 50 dX12_product_16 (by decide) ?_
    refine ok_istore_n1 (pc := 50) dX12_product_50 (by decide) rfl ?_
    first
      | (have eo : opC 4 (hdF σ (q s)) = 20007 := by rw [ch_42]; decide
         have hP9 : RefP Γ m M0 σ κ ri ra u op (if 0 < opC 4 (hdF σ (q s)) then adF (q s) else (q s)) M := by rw [eo, if_pos (by decide)]; exact hP
         exact lq_product e6 ht hq hm _ k 50 (q s) _ _ (by omega) m1.2.2 (m1.cd hc) eo.symm hP9 rfl)
      | (have eo : opC 4 (hdF σ (q s)) = 20008 := by rw [ch_47]; decide
         have hP9 : RefP Γ m M0 σ κ ri ra u op (if 0 < opC 4 (hdF σ (q s)) then adF (q s) else (q s)) M := by rw [eo, if_pos (by decide)]; exact hP
         exact lq_product e6 ht hq hm _ k 50 (q s) _ _ (by omega) m1.2.2 (m1.cd hc) eo.symm hP9 rfl)
      | (have eo : opC 4 (hdF σ (q s)) = 20009 := by rw [ch_37]; decide
         have hP9 : RefP Γ m M0 σ κ ri ra u op (if 0 < opC 4 (hdF σ (q s)) then adF (q s) else (q s)) M := by rw [eo, if_pos (by decide)]; exact hP
         exact lq_product e6 ht hq hm _ k 50 (q s) _ _ (by omega) m1.2.2 (m1.cd hc) eo.symm hP9 rfl)
      | (have eo : opC 4 (hdF σ (q s)) = 0 := by unfold opC; simp [ch_42, ch_47, ch_37]
         have hP9 : RefP Γ m M0 σ κ ri ra u op (if 0 < opC 4 (hdF σ (q s)) then adF (q s) else (q s)) M := by rw [eo, if_neg (by decide)]; exact hP
         exact lq_product e6 ht hq hm _ k 50 (q s) _ _ (by omega) m1.2.2 (m1.cd hc) eo.symm hP9 rfl)

set_option maxHeartbeats 1000000 in
theorem lq_sum {Γ : Cx} {m sz : Nat} {M0 : Nat → Option va_E} {σ κ : Rw} {ri : Rw} {ra : Nat → Rw} {u op tn d9 : Nat} {q : Ps → Ps} (e6 : σ 6 = nI tn) (ht : tn ≤ 50) (hq : HQ Γ m sz M0 σ κ ri ra u op tn mX12_product d9 q) (hm : MqP tn q) {K : Wd → Prop} (S9 : Ps) (k : ∀ M', RefP Γ m M0 σ κ ri ra u op S9 M' → K (M', sz)) : ∀ (n : Nat) (s0 : Ps) (x1 : Int32) (M : Nat → Option va_E), 50 ≤ s0.1 + n → s0.1 ≤ tn → s0.2.2.1 ≤ s0.1 → x1 = opC 3 (hdF σ s0) → RefP Γ m M0 σ κ ri ra u op (if 0 < opC 3 (hdF σ s0) then adF s0 else s0) M → lpF σ 3 q n s0 = S9 → Ok Γ mX12_sum (d9 + 2) 0 36 [some (.ref m), some (.int x1)] [] (M, sz) (cv K) := by
  intro n
  induction n with
  | zero =>
    intro s0 x1 M h1 hs hc e1 hP hA
    refine ok_iload_n (pc := 36) dX12_sum_36 rfl ?_
    refine ok_if_le (pc := 37) 84 dX12_sum_37 (by decide) (fun cc_37 => ?_) (fun cc_37 => ?_)
    · have ce_37 := Int32.not_lt.mpr cc_37
      have hn : ¬ 0 < opC 3 (hdF σ s0) := by rw [← e1]; exact Int32.not_lt.mpr cc_37
      rw [if_neg hn] at hP
      have hA9 : s0 = S9 := hA
      subst hA9
      refine ok_vret (pc := 84) dX12_sum_84 rfl ?_
      exact k _ hP
    · have e9 : hdF σ s0 = -1 := hd_end e6 ht (by omega) (by omega)
      rw [e1, e9, opC_m1] at cc_37
      exact absurd (by decide) cc_37
  | succ n ih =>
    intro s0 x1 M h1 hs hc e1 hP hA
    refine ok_iload_n (pc := 36) dX12_sum_36 rfl ?_
    refine ok_if_le (pc := 37) 84 dX12_sum_37 (by decide) (fun cc_37 => ?_) (fun cc_37 => ?_)
    · have ce_37 := Int32.not_lt.mpr cc_37
      have hn : ¬ 0 < opC 3 (hdF σ s0) := by rw [← e1]; exact Int32.not_lt.mpr cc_37
      rw [if_neg hn] at hP
      have hA9 : s0 = S9 := by rw [← hA]; exact (if_neg hn).symm
      subst hA9
      refine ok_vret (pc := 84) dX12_sum_84 rfl ?_
      exact k _ hP
    · have ce_37 := Int32.not_le.mp cc_37
      have hn : 0 < opC 3 (hdF σ s0) := by rw [← e1]; exact ce_37
      rw [if_pos hn] at hP
      obtain ⟨-, hlt, -⟩ := hd_in e6 ht hs (opC_pos hn)
      obtain ⟨m1, m2⟩ := Mn.op hm (c := x1) hlt
      have hA9 : lpF σ 3 q n (emF (q (adF s0)) x1) = S9 := by rw [← hA, e1]; exact (if_pos hn).symm
      obtain ⟨fc, hfc, hR⟩ := id hP
      refine ok_aload_n (pc := 40) dX12_sum_40 rfl ?_
      refine ok_callVv0 (pc := 41) (d' := d9) dX12_sum_41 vl_X12_195 hR.o rfl rfl rfl (by omega) ?_
      refine hq (adF s0) _ _ hlt (Nat.le_succ_of_le hc) hP (fun M hP => ?_)
      obtain ⟨fc, hfc, hR⟩ := id hP
      refine ok_aload_n (pc := 44) dX12_sum_44 rfl ?_
      refine ok_iload_n (pc := 45) dX12_sum_45 rfl ?_
      refine ok_callVv1 (pc := 46) (d' := 0) dX12_sum_46 vl_X12_185 hR.o rfl rfl rfl (by omega) ?_
      refine r_codes hP (by have h9 := (hm (adF s0) hlt).cd (Nat.le_succ_of_le hc); have h8 := (hm (adF s0) hlt).2.2; omega) (fun M hP => ?_)
      obtain ⟨fc, hfc, hR⟩ := id hP
      refine ok_aload_n (pc := 49) dX12_sum_49 rfl ?_
      refine ok_bipush (pc := 50) (v := 43) dX12_sum_50 (by decide) ?_
      refine ok_callVi1 (pc := 52) (d' := 1) dX12_sum_52 vl_X12_182 hR.o rfl rfl rfl (by omega) ?_
      refine r_takes hP tn e6 ht m1.2.2 (by decide) (fun M hP => ?_)
      obtain ⟨fc, hfc, hR⟩ := id hP
      refine ok_if_eq (pc := 55) 64 dX12_sum_55 (by decide) (fun cc_55 => ?_) (fun cc_55 => ?_)
      · have cq_55 := bI_0.mp cc_55
        have ch_43 : ¬ hdF σ (emF (q (adF s0)) x1) = 43 := of_decide_eq_false cq_55
        rw [if_neg ch_43] at hP
        refine ok_aload_n (pc := 64) dX12_sum_64 rfl ?_
        refine ok_bipush (pc := 65) (v := 45) dX12_sum_65 (by decide) ?_
        refine ok_callVi1 (pc := 67) (d' := 1) dX12_sum_67 vl_X12_182 hR.o rfl rfl rfl (by omega) ?_
        refine r_takes hP tn e6 ht m1.2.2 (by decide) (fun M hP => ?_)
        obtain ⟨fc, hfc, hR⟩ := id hP
        refine ok_if_eq (pc := 70) 79 dX12_sum_70 (by decide) (fun cc_70 => ?_) (fun cc_70 => ?_)
        · have cq_70 := bI_0.mp cc_70
          have ch_45 : ¬ hdF σ (emF (q (adF s0)) x1) = 45 := of_decide_eq_false cq_70
          rw [if_neg ch_45] at hP
          refine ok_iconst (pc := 79) (v := 0) dX12_sum_79 (by decide) ?_
          refine ok_istore_n1 (pc := 80) dX12_sum_80 (by decide) rfl ?_
          refine ok_goto (pc := 81) 36 dX12_sum_81 (by decide) ?_
          first
            | (have eo : opC 3 (hdF σ (emF (q (adF s0)) x1)) = 20005 := by rw [ch_43]; decide
               have hP9 : RefP Γ m M0 σ κ ri ra u op (if 0 < opC 3 (hdF σ (emF (q (adF s0)) x1)) then adF (emF (q (adF s0)) x1) else (emF (q (adF s0)) x1)) M := by rw [eo, if_pos (by decide)]; exact hP
               exact ih (emF (q (adF s0)) x1) _ _ (by omega) m1.2.2 (m1.cd hc) eo.symm hP9 hA9)
            | (have eo : opC 3 (hdF σ (emF (q (adF s0)) x1)) = 20006 := by rw [ch_45]; decide
               have hP9 : RefP Γ m M0 σ κ ri ra u op (if 0 < opC 3 (hdF σ (emF (q (adF s0)) x1)) then adF (emF (q (adF s0)) x1) else (emF (q (adF s0)) x1)) M := by rw [eo, if_pos (by decide)]; exact hP
               exact ih (emF (q (adF s0)) x1) _ _ (by omega) m1.2.2 (m1.cd hc) eo.symm hP9 hA9)
            | (have eo : opC 3 (hdF σ (emF (q (adF s0)) x1)) = 0 := by unfold opC; simp [ch_43, ch_45]
               have hP9 : RefP Γ m M0 σ κ ri ra u op (if 0 < opC 3 (hdF σ (emF (q (adF s0)) x1)) then adF (emF (q (adF s0)) x1) else (emF (q (adF s0)) x1)) M := by rw [eo, if_neg (by decide)]; exact hP
               exact ih (emF (q (adF s0)) x1) _ _ (by omega) m1.2.2 (m1.cd hc) eo.symm hP9 hA9)
        · have cq_70 := bI_n0.mp cc_70
          have ch_45 : hdF σ (emF (q (adF s0)) x1) = 45 := of_decide_eq_true cq_70
          rw [if_pos ch_45] at hP
          refine ok_sipush (pc := 73) (v := 20006) dX12_sum_73 (by decide) ?_
          refine ok_goto (pc := 76) 80 dX12_sum_76 (by decide) ?_
          refine ok_istore_n1 (pc := 80) dX12_sum_80 (by decide) rfl ?_
          refine ok_goto (pc := 81) 36 dX12_sum_81 (by decide) ?_
          first
            | (have eo : opC 3 (hdF σ (emF (q (adF s0)) x1)) = 20005 := by rw [ch_43]; decide
               have hP9 : RefP Γ m M0 σ κ ri ra u op (if 0 < opC 3 (hdF σ (emF (q (adF s0)) x1)) then adF (emF (q (adF s0)) x1) else (emF (q (adF s0)) x1)) M := by rw [eo, if_pos (by decide)]; exact hP
               exact ih (emF (q (adF s0)) x1) _ _ (by omega) m1.2.2 (m1.cd hc) eo.symm hP9 hA9)
            | (have eo : opC 3 (hdF σ (emF (q (adF s0)) x1)) = 20006 := by rw [ch_45]; decide
               have hP9 : RefP Γ m M0 σ κ ri ra u op (if 0 < opC 3 (hdF σ (emF (q (adF s0)) x1)) then adF (emF (q (adF s0)) x1) else (emF (q (adF s0)) x1)) M := by rw [eo, if_pos (by decide)]; exact hP
               exact ih (emF (q (adF s0)) x1) _ _ (by omega) m1.2.2 (m1.cd hc) eo.symm hP9 hA9)
            | (have eo : opC 3 (hdF σ (emF (q (adF s0)) x1)) = 0 := by unfold opC; simp [ch_43, ch_45]
               have hP9 : RefP Γ m M0 σ κ ri ra u op (if 0 < opC 3 (hdF σ (emF (q (adF s0)) x1)) then adF (emF (q (adF s0)) x1) else (emF (q (adF s0)) x1)) M := by rw [eo, if_neg (by decide)]; exact hP
               exact ih (emF (q (adF s0)) x1) _ _ (by omega) m1.2.2 (m1.cd hc) eo.symm hP9 hA9)
      · have cq_55 := bI_n0.mp cc_55
        have ch_43 : hdF σ (emF (q (adF s0)) x1) = 43 := of_decide_eq_true cq_55
        rw [if_pos ch_43] at hP
        refine ok_sipush (pc := 58) (v := 20005) dX12_sum_58 (by decide) ?_
        refine ok_goto (pc := 61) 80 dX12_sum_61 (by decide) ?_
        refine ok_istore_n1 (pc := 80) dX12_sum_80 (by decide) rfl ?_
        refine ok_goto (pc := 81) 36 dX12_sum_81 (by decide) ?_
        first
          | (have eo : opC 3 (hdF σ (emF (q (adF s0)) x1)) = 20005 := by rw [ch_43]; decide
             have hP9 : RefP Γ m M0 σ κ ri ra u op (if 0 < opC 3 (hdF σ (emF (q (adF s0)) x1)) then adF (emF (q (adF s0)) x1) else (emF (q (adF s0)) x1)) M := by rw [eo, if_pos (by decide)]; exact hP
             exact ih (emF (q (adF s0)) x1) _ _ (by omega) m1.2.2 (m1.cd hc) eo.symm hP9 hA9)
          | (have eo : opC 3 (hdF σ (emF (q (adF s0)) x1)) = 20006 := by rw [ch_45]; decide
             have hP9 : RefP Γ m M0 σ κ ri ra u op (if 0 < opC 3 (hdF σ (emF (q (adF s0)) x1)) then adF (emF (q (adF s0)) x1) else (emF (q (adF s0)) x1)) M := by rw [eo, if_pos (by decide)]; exact hP
             exact ih (emF (q (adF s0)) x1) _ _ (by omega) m1.2.2 (m1.cd hc) eo.symm hP9 hA9)
          | (have eo : opC 3 (hdF σ (emF (q (adF s0)) x1)) = 0 := by unfold opC; simp [ch_43, ch_45]
             have hP9 : RefP Γ m M0 σ κ ri ra u op (if 0 < opC 3 (hdF σ (emF (q (adF s0)) x1)) then adF (emF (q (adF s0)) x1) else (emF (q (adF s0)) x1)) M := by rw [eo, if_neg (by decide)]; exact hP
             exact ih (emF (q (adF s0)) x1) _ _ (by omega) m1.2.2 (m1.cd hc) eo.symm hP9 hA9)

set_option maxHeartbeats 1000000 in
theorem r_sum {Γ : Cx} {m sz : Nat} {M0 : Nat → Option va_E} {σ κ : Rw} {ri : Rw} {ra : Nat → Rw} {u op tn d9 : Nat} {q : Ps → Ps} (e6 : σ 6 = nI tn) (ht : tn ≤ 50) (hq : HQ Γ m sz M0 σ κ ri ra u op tn mX12_product d9 q) (hm : MqP tn q) : HQ Γ m sz M0 σ κ ri ra u op tn mX12_sum (d9 + 2) (fun s => lpF σ 3 q 50 (q s)) := by
  intro s M K hs hc hP k
  obtain ⟨fc, hfc, hR⟩ := id hP
  have m1 := hm s hs
  refine spec_in [some (.ref m), none] 1 (by decide) rfl rfl ?_
  refine ok_aload_n (pc := 0) dX12_sum_0 rfl ?_
  refine ok_callVv0 (pc := 1) (d' := d9) dX12_sum_1 vl_X12_195 hR.o rfl rfl rfl (by omega) ?_
  refine hq s _ _ hs hc hP (fun M hP => ?_)
  obtain ⟨fc, hfc, hR⟩ := id hP
  refine ok_aload_n (pc := 4) dX12_sum_4 rfl ?_
  refine ok_bipush (pc := 5) (v := 43) dX12_sum_5 (by decide) ?_
  refine ok_callVi1 (pc := 7) (d' := 1) dX12_sum_7 vl_X12_182 hR.o rfl rfl rfl (by omega) ?_
  refine r_takes hP tn e6 ht m1.2.2 (by decide) (fun M hP => ?_)
  obtain ⟨fc, hfc, hR⟩ := id hP
  refine ok_if_eq (pc := 10) 19 dX12_sum_10 (by decide) (fun cc_10 => ?_) (fun cc_10 => ?_)
  · have cq_10 := bI_0.mp cc_10
    have ch_43 : ¬ hdF σ (q s) = 43 := of_decide_eq_false cq_10
    rw [if_neg ch_43] at hP
    refine ok_aload_n (pc := 19) dX12_sum_19 rfl ?_
    refine ok_bipush (pc := 20) (v := 45) dX12_sum_20 (by decide) ?_
    refine ok_callVi1 (pc := 22) (d' := 1) dX12_sum_22 vl_X12_182 hR.o rfl rfl rfl (by omega) ?_
    refine r_takes hP tn e6 ht m1.2.2 (by decide) (fun M hP => ?_)
    obtain ⟨fc, hfc, hR⟩ := id hP
    refine ok_if_eq (pc := 25) 34 dX12_sum_25 (by decide) (fun cc_25 => ?_) (fun cc_25 => ?_)
    · have cq_25 := bI_0.mp cc_25
      have ch_45 : ¬ hdF σ (q s) = 45 := of_decide_eq_false cq_25
      rw [if_neg ch_45] at hP
      refine ok_iconst (pc := 34) (v := 0) dX12_sum_34 (by decide) ?_
      refine ok_istore_n1 (pc := 35) dX12_sum_35 (by decide) rfl ?_
      first
        | (have eo : opC 3 (hdF σ (q s)) = 20005 := by rw [ch_43]; decide
           have hP9 : RefP Γ m M0 σ κ ri ra u op (if 0 < opC 3 (hdF σ (q s)) then adF (q s) else (q s)) M := by rw [eo, if_pos (by decide)]; exact hP
           exact lq_sum e6 ht hq hm _ k 50 (q s) _ _ (by omega) m1.2.2 (m1.cd hc) eo.symm hP9 rfl)
        | (have eo : opC 3 (hdF σ (q s)) = 20006 := by rw [ch_45]; decide
           have hP9 : RefP Γ m M0 σ κ ri ra u op (if 0 < opC 3 (hdF σ (q s)) then adF (q s) else (q s)) M := by rw [eo, if_pos (by decide)]; exact hP
           exact lq_sum e6 ht hq hm _ k 50 (q s) _ _ (by omega) m1.2.2 (m1.cd hc) eo.symm hP9 rfl)
        | (have eo : opC 3 (hdF σ (q s)) = 0 := by unfold opC; simp [ch_43, ch_45]
           have hP9 : RefP Γ m M0 σ κ ri ra u op (if 0 < opC 3 (hdF σ (q s)) then adF (q s) else (q s)) M := by rw [eo, if_neg (by decide)]; exact hP
           exact lq_sum e6 ht hq hm _ k 50 (q s) _ _ (by omega) m1.2.2 (m1.cd hc) eo.symm hP9 rfl)
    · have cq_25 := bI_n0.mp cc_25
      have ch_45 : hdF σ (q s) = 45 := of_decide_eq_true cq_25
      rw [if_pos ch_45] at hP
      refine ok_sipush (pc := 28) (v := 20006) dX12_sum_28 (by decide) ?_
      refine ok_goto (pc := 31) 35 dX12_sum_31 (by decide) ?_
      refine ok_istore_n1 (pc := 35) dX12_sum_35 (by decide) rfl ?_
      first
        | (have eo : opC 3 (hdF σ (q s)) = 20005 := by rw [ch_43]; decide
           have hP9 : RefP Γ m M0 σ κ ri ra u op (if 0 < opC 3 (hdF σ (q s)) then adF (q s) else (q s)) M := by rw [eo, if_pos (by decide)]; exact hP
           exact lq_sum e6 ht hq hm _ k 50 (q s) _ _ (by omega) m1.2.2 (m1.cd hc) eo.symm hP9 rfl)
        | (have eo : opC 3 (hdF σ (q s)) = 20006 := by rw [ch_45]; decide
           have hP9 : RefP Γ m M0 σ κ ri ra u op (if 0 < opC 3 (hdF σ (q s)) then adF (q s) else (q s)) M := by rw [eo, if_pos (by decide)]; exact hP
           exact lq_sum e6 ht hq hm _ k 50 (q s) _ _ (by omega) m1.2.2 (m1.cd hc) eo.symm hP9 rfl)
        | (have eo : opC 3 (hdF σ (q s)) = 0 := by unfold opC; simp [ch_43, ch_45]
           have hP9 : RefP Γ m M0 σ κ ri ra u op (if 0 < opC 3 (hdF σ (q s)) then adF (q s) else (q s)) M := by rw [eo, if_neg (by decide)]; exact hP
           exact lq_sum e6 ht hq hm _ k 50 (q s) _ _ (by omega) m1.2.2 (m1.cd hc) eo.symm hP9 rfl)
  · have cq_10 := bI_n0.mp cc_10
    have ch_43 : hdF σ (q s) = 43 := of_decide_eq_true cq_10
    rw [if_pos ch_43] at hP
    refine ok_sipush (pc := 13) (v := 20005) dX12_sum_13 (by decide) ?_
    refine ok_goto (pc := 16) 35 dX12_sum_16 (by decide) ?_
    refine ok_istore_n1 (pc := 35) dX12_sum_35 (by decide) rfl ?_
    first
      | (have eo : opC 3 (hdF σ (q s)) = 20005 := by rw [ch_43]; decide
         have hP9 : RefP Γ m M0 σ κ ri ra u op (if 0 < opC 3 (hdF σ (q s)) then adF (q s) else (q s)) M := by rw [eo, if_pos (by decide)]; exact hP
         exact lq_sum e6 ht hq hm _ k 50 (q s) _ _ (by omega) m1.2.2 (m1.cd hc) eo.symm hP9 rfl)
      | (have eo : opC 3 (hdF σ (q s)) = 20006 := by rw [ch_45]; decide
         have hP9 : RefP Γ m M0 σ κ ri ra u op (if 0 < opC 3 (hdF σ (q s)) then adF (q s) else (q s)) M := by rw [eo, if_pos (by decide)]; exact hP
         exact lq_sum e6 ht hq hm _ k 50 (q s) _ _ (by omega) m1.2.2 (m1.cd hc) eo.symm hP9 rfl)
      | (have eo : opC 3 (hdF σ (q s)) = 0 := by unfold opC; simp [ch_43, ch_45]
         have hP9 : RefP Γ m M0 σ κ ri ra u op (if 0 < opC 3 (hdF σ (q s)) then adF (q s) else (q s)) M := by rw [eo, if_neg (by decide)]; exact hP
         exact lq_sum e6 ht hq hm _ k 50 (q s) _ _ (by omega) m1.2.2 (m1.cd hc) eo.symm hP9 rfl)

set_option maxHeartbeats 1000000 in
theorem r_compared {Γ : Cx} {m sz : Nat} {M0 : Nat → Option va_E} {σ κ : Rw} {ri : Rw} {ra : Nat → Rw} {u op tn d9 : Nat} {q : Ps → Ps} (e6 : σ 6 = nI tn) (ht : tn ≤ 50) (hq : HQ Γ m sz M0 σ κ ri ra u op tn mX12_sum d9 q) (hm : MqP tn q) : HQ Γ m sz M0 σ κ ri ra u op tn mX12_compared (d9 + 2) (fun s => lpF σ 2 q 1 (q s)) := by
  intro s M K hs hc hP k
  obtain ⟨fc, hfc, hR⟩ := id hP
  have m1 := hm s hs
  refine spec_in [some (.ref m), none] 1 (by decide) rfl rfl ?_
  refine ok_aload_n (pc := 0) dX12_compared_0 rfl ?_
  refine ok_callVv0 (pc := 1) (d' := d9) dX12_compared_1 vl_X12_192 hR.o rfl rfl rfl (by omega) ?_
  refine hq s _ _ hs hc hP (fun M hP => ?_)
  obtain ⟨fc, hfc, hR⟩ := id hP
  refine ok_aload_n (pc := 4) dX12_compared_4 rfl ?_
  refine ok_bipush (pc := 5) (v := 60) dX12_compared_5 (by decide) ?_
  refine ok_callVi1 (pc := 7) (d' := 1) dX12_compared_7 vl_X12_182 hR.o rfl rfl rfl (by omega) ?_
  refine r_takes hP tn e6 ht m1.2.2 (by decide) (fun M hP => ?_)
  obtain ⟨fc, hfc, hR⟩ := id hP
  refine ok_if_eq (pc := 10) 19 dX12_compared_10 (by decide) (fun cc_10 => ?_) (fun cc_10 => ?_)
  · have cq_10 := bI_0.mp cc_10
    have ch_60 : ¬ hdF σ (q s) = 60 := of_decide_eq_false cq_10
    rw [if_neg ch_60] at hP
    refine ok_aload_n (pc := 19) dX12_compared_19 rfl ?_
    refine ok_bipush (pc := 20) (v := 61) dX12_compared_20 (by decide) ?_
    refine ok_callVi1 (pc := 22) (d' := 1) dX12_compared_22 vl_X12_182 hR.o rfl rfl rfl (by omega) ?_
    refine r_takes hP tn e6 ht m1.2.2 (by decide) (fun M hP => ?_)
    obtain ⟨fc, hfc, hR⟩ := id hP
    refine ok_if_eq (pc := 25) 34 dX12_compared_25 (by decide) (fun cc_25 => ?_) (fun cc_25 => ?_)
    · have cq_25 := bI_0.mp cc_25
      have ch_61 : ¬ hdF σ (q s) = 61 := of_decide_eq_false cq_25
      rw [if_neg ch_61] at hP
      refine ok_aload_n (pc := 34) dX12_compared_34 rfl ?_
      refine ok_bipush (pc := 35) (v := 62) dX12_compared_35 (by decide) ?_
      refine ok_callVi1 (pc := 37) (d' := 1) dX12_compared_37 vl_X12_182 hR.o rfl rfl rfl (by omega) ?_
      refine r_takes hP tn e6 ht m1.2.2 (by decide) (fun M hP => ?_)
      obtain ⟨fc, hfc, hR⟩ := id hP
      refine ok_if_eq (pc := 40) 49 dX12_compared_40 (by decide) (fun cc_40 => ?_) (fun cc_40 => ?_)
      · have cq_40 := bI_0.mp cc_40
        have ch_62 : ¬ hdF σ (q s) = 62 := of_decide_eq_false cq_40
        rw [if_neg ch_62] at hP
        refine ok_iconst (pc := 49) (v := 0) dX12_compared_49 (by decide) ?_
        refine ok_istore_n1 (pc := 50) dX12_compared_50 (by decide) rfl ?_
        refine ok_iload_n (pc := 51) dX12_compared_51 rfl ?_
        refine ok_if_le (pc := 52) 64 dX12_compared_52 (by decide) (fun cc_52 => ?_) (fun cc_52 => ?_)
        · have ce_52 := Int32.not_lt.mpr cc_52
          first
            | exact absurd cc_52 (by decide)
            | (refine ok_vret (pc := 64) dX12_compared_64 rfl ?_
               have eo : opC 2 (hdF σ (q s)) = 0 := by unfold opC; simp [ch_60, ch_61, ch_62]
               have e9 : lpF σ 2 q 1 (q s) = q s := if_neg (by rw [eo]; decide)
               have k9 := k M
               simp only [e9] at k9
               exact k9 hP)
        · have ce_52 := Int32.not_le.mp cc_52
          exact absurd ce_52 (by decide)
      · have cq_40 := bI_n0.mp cc_40
        have ch_62 : hdF σ (q s) = 62 := of_decide_eq_true cq_40
        rw [if_pos ch_62] at hP
        obtain ⟨-, hlt, -⟩ := hd_in e6 ht m1.2.2 (by rw [ch_62]; decide)
        have eo : opC 2 (hdF σ (q s)) = 20004 := by rw [ch_62]; decide
        obtain ⟨fc, hfc, hR⟩ := id hP
        refine ok_sipush (pc := 43) (v := 20004) dX12_compared_43 (by decide) ?_
        refine ok_goto (pc := 46) 50 dX12_compared_46 (by decide) ?_
        refine ok_istore_n1 (pc := 50) dX12_compared_50 (by decide) rfl ?_
        refine ok_iload_n (pc := 51) dX12_compared_51 rfl ?_
        refine ok_if_le (pc := 52) 64 dX12_compared_52 (by decide) (fun cc_52 => ?_) (fun cc_52 => ?_)
        · have ce_52 := Int32.not_lt.mpr cc_52
          first
            | exact absurd cc_52 (by decide)
            | (refine ok_vret (pc := 64) dX12_compared_64 rfl ?_
               have eo : opC 2 (hdF σ (q s)) = 0 := by unfold opC; simp [ch_60, ch_61, ch_62]
               have e9 : lpF σ 2 q 1 (q s) = q s := if_neg (by rw [eo]; decide)
               have k9 := k M
               simp only [e9] at k9
               exact k9 hP)
        · have ce_52 := Int32.not_le.mp cc_52
          refine ok_aload_n (pc := 55) dX12_compared_55 rfl ?_
          refine ok_callVv0 (pc := 56) (d' := d9) dX12_compared_56 vl_X12_192 hR.o rfl rfl rfl (by omega) ?_
          refine hq (adF (q s)) _ _ hlt (Nat.le_succ_of_le (m1.cd hc)) hP (fun M hP => ?_)
          obtain ⟨fc, hfc, hR⟩ := id hP
          refine ok_aload_n (pc := 59) dX12_compared_59 rfl ?_
          refine ok_iload_n (pc := 60) dX12_compared_60 rfl ?_
          refine ok_callVv1 (pc := 61) (d' := 0) dX12_compared_61 vl_X12_185 hR.o rfl rfl rfl (by omega) ?_
          refine r_codes hP (by have h9 := (hm (adF (q s)) hlt).cd (Nat.le_succ_of_le (m1.cd hc)); have h8 := (hm (adF (q s)) hlt).2.2; omega) (fun M hP => ?_)
          obtain ⟨fc, hfc, hR⟩ := id hP
          refine ok_vret (pc := 64) dX12_compared_64 rfl ?_
          have e9 : lpF σ 2 q 1 (q s) = emF (q (adF (q s))) (opC 2 (hdF σ (q s))) := if_pos (by rw [eo]; decide)
          have k9 := k M
          simp only [e9] at k9
          rw [eo] at k9
          exact k9 hP
    · have cq_25 := bI_n0.mp cc_25
      have ch_61 : hdF σ (q s) = 61 := of_decide_eq_true cq_25
      rw [if_pos ch_61] at hP
      obtain ⟨-, hlt, -⟩ := hd_in e6 ht m1.2.2 (by rw [ch_61]; decide)
      have eo : opC 2 (hdF σ (q s)) = 20003 := by rw [ch_61]; decide
      obtain ⟨fc, hfc, hR⟩ := id hP
      refine ok_sipush (pc := 28) (v := 20003) dX12_compared_28 (by decide) ?_
      refine ok_goto (pc := 31) 50 dX12_compared_31 (by decide) ?_
      refine ok_istore_n1 (pc := 50) dX12_compared_50 (by decide) rfl ?_
      refine ok_iload_n (pc := 51) dX12_compared_51 rfl ?_
      refine ok_if_le (pc := 52) 64 dX12_compared_52 (by decide) (fun cc_52 => ?_) (fun cc_52 => ?_)
      · have ce_52 := Int32.not_lt.mpr cc_52
        first
          | exact absurd cc_52 (by decide)
          | (refine ok_vret (pc := 64) dX12_compared_64 rfl ?_
             have eo : opC 2 (hdF σ (q s)) = 0 := by unfold opC; simp [ch_60, ch_61, ch_62]
             have e9 : lpF σ 2 q 1 (q s) = q s := if_neg (by rw [eo]; decide)
             have k9 := k M
             simp only [e9] at k9
             exact k9 hP)
      · have ce_52 := Int32.not_le.mp cc_52
        refine ok_aload_n (pc := 55) dX12_compared_55 rfl ?_
        refine ok_callVv0 (pc := 56) (d' := d9) dX12_compared_56 vl_X12_192 hR.o rfl rfl rfl (by omega) ?_
        refine hq (adF (q s)) _ _ hlt (Nat.le_succ_of_le (m1.cd hc)) hP (fun M hP => ?_)
        obtain ⟨fc, hfc, hR⟩ := id hP
        refine ok_aload_n (pc := 59) dX12_compared_59 rfl ?_
        refine ok_iload_n (pc := 60) dX12_compared_60 rfl ?_
        refine ok_callVv1 (pc := 61) (d' := 0) dX12_compared_61 vl_X12_185 hR.o rfl rfl rfl (by omega) ?_
        refine r_codes hP (by have h9 := (hm (adF (q s)) hlt).cd (Nat.le_succ_of_le (m1.cd hc)); have h8 := (hm (adF (q s)) hlt).2.2; omega) (fun M hP => ?_)
        obtain ⟨fc, hfc, hR⟩ := id hP
        refine ok_vret (pc := 64) dX12_compared_64 rfl ?_
        have e9 : lpF σ 2 q 1 (q s) = emF (q (adF (q s))) (opC 2 (hdF σ (q s))) := if_pos (by rw [eo]; decide)
        have k9 := k M
        simp only [e9] at k9
        rw [eo] at k9
        exact k9 hP
  · have cq_10 := bI_n0.mp cc_10
    have ch_60 : hdF σ (q s) = 60 := of_decide_eq_true cq_10
    rw [if_pos ch_60] at hP
    obtain ⟨-, hlt, -⟩ := hd_in e6 ht m1.2.2 (by rw [ch_60]; decide)
    have eo : opC 2 (hdF σ (q s)) = 20002 := by rw [ch_60]; decide
    obtain ⟨fc, hfc, hR⟩ := id hP
    refine ok_sipush (pc := 13) (v := 20002) dX12_compared_13 (by decide) ?_
    refine ok_goto (pc := 16) 50 dX12_compared_16 (by decide) ?_
    refine ok_istore_n1 (pc := 50) dX12_compared_50 (by decide) rfl ?_
    refine ok_iload_n (pc := 51) dX12_compared_51 rfl ?_
    refine ok_if_le (pc := 52) 64 dX12_compared_52 (by decide) (fun cc_52 => ?_) (fun cc_52 => ?_)
    · have ce_52 := Int32.not_lt.mpr cc_52
      first
        | exact absurd cc_52 (by decide)
        | (refine ok_vret (pc := 64) dX12_compared_64 rfl ?_
           have eo : opC 2 (hdF σ (q s)) = 0 := by unfold opC; simp [ch_60, ch_61, ch_62]
           have e9 : lpF σ 2 q 1 (q s) = q s := if_neg (by rw [eo]; decide)
           have k9 := k M
           simp only [e9] at k9
           exact k9 hP)
    · have ce_52 := Int32.not_le.mp cc_52
      refine ok_aload_n (pc := 55) dX12_compared_55 rfl ?_
      refine ok_callVv0 (pc := 56) (d' := d9) dX12_compared_56 vl_X12_192 hR.o rfl rfl rfl (by omega) ?_
      refine hq (adF (q s)) _ _ hlt (Nat.le_succ_of_le (m1.cd hc)) hP (fun M hP => ?_)
      obtain ⟨fc, hfc, hR⟩ := id hP
      refine ok_aload_n (pc := 59) dX12_compared_59 rfl ?_
      refine ok_iload_n (pc := 60) dX12_compared_60 rfl ?_
      refine ok_callVv1 (pc := 61) (d' := 0) dX12_compared_61 vl_X12_185 hR.o rfl rfl rfl (by omega) ?_
      refine r_codes hP (by have h9 := (hm (adF (q s)) hlt).cd (Nat.le_succ_of_le (m1.cd hc)); have h8 := (hm (adF (q s)) hlt).2.2; omega) (fun M hP => ?_)
      obtain ⟨fc, hfc, hR⟩ := id hP
      refine ok_vret (pc := 64) dX12_compared_64 rfl ?_
      have e9 : lpF σ 2 q 1 (q s) = emF (q (adF (q s))) (opC 2 (hdF σ (q s))) := if_pos (by rw [eo]; decide)
      have k9 := k M
      simp only [e9] at k9
      rw [eo] at k9
      exact k9 hP

set_option maxHeartbeats 1000000 in
theorem lq_both {Γ : Cx} {m sz : Nat} {M0 : Nat → Option va_E} {σ κ : Rw} {ri : Rw} {ra : Nat → Rw} {u op tn d9 : Nat} {q : Ps → Ps} (e6 : σ 6 = nI tn) (ht : tn ≤ 50) (hq : HQ Γ m sz M0 σ κ ri ra u op tn mX12_compared d9 q) (hm : MqP tn q) {K : Wd → Prop} (S9 : Ps) (k : ∀ M', RefP Γ m M0 σ κ ri ra u op S9 M' → K (M', sz)) : ∀ (n : Nat) (s0 : Ps) (M : Nat → Option va_E), 50 ≤ s0.1 + n → s0.1 ≤ tn → s0.2.2.1 ≤ s0.1 → RefP Γ m M0 σ κ ri ra u op s0 M → lpF σ 1 q n s0 = S9 → Ok Γ mX12_both (d9 + 2) 0 4 [some (.ref m)] [] (M, sz) (cv K) := by
  intro n
  induction n with
  | zero =>
    intro s0 M h1 hs hc hP hA
    obtain ⟨fc, hfc, hR⟩ := id hP
    refine ok_aload_n (pc := 4) dX12_both_4 rfl ?_
    refine ok_bipush (pc := 5) (v := 38) dX12_both_5 (by decide) ?_
    refine ok_callVi1 (pc := 7) (d' := 1) dX12_both_7 vl_X12_182 hR.o rfl rfl rfl (by omega) ?_
    refine r_takes hP tn e6 ht hs (by decide) (fun M hP => ?_)
    obtain ⟨fc, hfc, hR⟩ := id hP
    refine ok_if_eq (pc := 10) 27 dX12_both_10 (by decide) (fun cc_10 => ?_) (fun cc_10 => ?_)
    · have cq_10 := bI_0.mp cc_10
      have hn : ¬ hdF σ s0 = 38 := of_decide_eq_false cq_10
      rw [if_neg hn] at hP
      have hA9 : s0 = S9 := hA
      subst hA9
      refine ok_vret (pc := 27) dX12_both_27 rfl ?_
      exact k _ hP
    · have hn : hdF σ s0 = 38 := of_decide_eq_true (bI_n0.mp cc_10)
      rw [hd_end e6 ht (by omega) (by omega)] at hn
      exact absurd hn (by decide)
  | succ n ih =>
    intro s0 M h1 hs hc hP hA
    obtain ⟨fc, hfc, hR⟩ := id hP
    refine ok_aload_n (pc := 4) dX12_both_4 rfl ?_
    refine ok_bipush (pc := 5) (v := 38) dX12_both_5 (by decide) ?_
    refine ok_callVi1 (pc := 7) (d' := 1) dX12_both_7 vl_X12_182 hR.o rfl rfl rfl (by omega) ?_
    refine r_takes hP tn e6 ht hs (by decide) (fun M hP => ?_)
    obtain ⟨fc, hfc, hR⟩ := id hP
    refine ok_if_eq (pc := 10) 27 dX12_both_10 (by decide) (fun cc_10 => ?_) (fun cc_10 => ?_)
    · have cq_10 := bI_0.mp cc_10
      have hn : ¬ hdF σ s0 = 38 := of_decide_eq_false cq_10
      rw [if_neg hn] at hP
      have hA9 : s0 = S9 := by rw [← hA]; exact (if_neg (by unfold opC; simp [hn])).symm
      subst hA9
      refine ok_vret (pc := 27) dX12_both_27 rfl ?_
      exact k _ hP
    · have cq_10 := bI_n0.mp cc_10
      have hn : hdF σ s0 = 38 := of_decide_eq_true cq_10
      rw [if_pos hn] at hP
      have eo : opC 1 (hdF σ s0) = 20001 := by rw [hn]; decide
      obtain ⟨-, hlt, -⟩ := hd_in e6 ht hs (by rw [hn]; decide)
      obtain ⟨m1, m2⟩ := Mn.op hm (c := 20001) hlt
      have hA9 : lpF σ 1 q n (emF (q (adF s0)) 20001) = S9 := by rw [← hA, ← eo]; exact (if_pos (by rw [eo]; decide)).symm
      obtain ⟨fc, hfc, hR⟩ := id hP
      refine ok_aload_n (pc := 13) dX12_both_13 rfl ?_
      refine ok_callVv0 (pc := 14) (d' := d9) dX12_both_14 vl_X12_189 hR.o rfl rfl rfl (by omega) ?_
      refine hq (adF s0) _ _ hlt (Nat.le_succ_of_le hc) hP (fun M hP => ?_)
      obtain ⟨fc, hfc, hR⟩ := id hP
      refine ok_aload_n (pc := 17) dX12_both_17 rfl ?_
      refine ok_sipush (pc := 18) (v := 20001) dX12_both_18 (by decide) ?_
      refine ok_callVv1 (pc := 21) (d' := 0) dX12_both_21 vl_X12_185 hR.o rfl rfl rfl (by omega) ?_
      refine r_codes hP (by have h9 := (hm (adF s0) hlt).cd (Nat.le_succ_of_le hc); have h8 := (hm (adF s0) hlt).2.2; omega) (fun M hP => ?_)
      obtain ⟨fc, hfc, hR⟩ := id hP
      refine ok_goto (pc := 24) 4 dX12_both_24 (by decide) ?_
      exact ih (emF (q (adF s0)) 20001) _ (by omega) m1.2.2 (m1.cd hc) hP hA9

set_option maxHeartbeats 1000000 in
theorem r_both {Γ : Cx} {m sz : Nat} {M0 : Nat → Option va_E} {σ κ : Rw} {ri : Rw} {ra : Nat → Rw} {u op tn d9 : Nat} {q : Ps → Ps} (e6 : σ 6 = nI tn) (ht : tn ≤ 50) (hq : HQ Γ m sz M0 σ κ ri ra u op tn mX12_compared d9 q) (hm : MqP tn q) : HQ Γ m sz M0 σ κ ri ra u op tn mX12_both (d9 + 2) (fun s => lpF σ 1 q 50 (q s)) := by
  intro s M K hs hc hP k
  obtain ⟨fc, hfc, hR⟩ := id hP
  have m1 := hm s hs
  refine spec_in [some (.ref m)] 0 (by decide) rfl rfl ?_
  refine ok_aload_n (pc := 0) dX12_both_0 rfl ?_
  refine ok_callVv0 (pc := 1) (d' := d9) dX12_both_1 vl_X12_189 hR.o rfl rfl rfl (by omega) ?_
  refine hq s _ _ hs hc hP (fun M hP => ?_)
  obtain ⟨fc, hfc, hR⟩ := id hP
  exact lq_both e6 ht hq hm _ k 50 (q s) _ (by omega) m1.2.2 (m1.cd hc) hP rfl

set_option maxHeartbeats 1000000 in
theorem lq_either {Γ : Cx} {m sz : Nat} {M0 : Nat → Option va_E} {σ κ : Rw} {ri : Rw} {ra : Nat → Rw} {u op tn d9 : Nat} {q : Ps → Ps} (e6 : σ 6 = nI tn) (ht : tn ≤ 50) (hq : HQ Γ m sz M0 σ κ ri ra u op tn mX12_both d9 q) (hm : MqP tn q) {K : Wd → Prop} (S9 : Ps) (k : ∀ M', RefP Γ m M0 σ κ ri ra u op S9 M' → K (M', sz)) : ∀ (n : Nat) (s0 : Ps) (M : Nat → Option va_E), 50 ≤ s0.1 + n → s0.1 ≤ tn → s0.2.2.1 ≤ s0.1 → RefP Γ m M0 σ κ ri ra u op s0 M → lpF σ 0 q n s0 = S9 → Ok Γ mX12_either (d9 + 2) 0 4 [some (.ref m)] [] (M, sz) (cv K) := by
  intro n
  induction n with
  | zero =>
    intro s0 M h1 hs hc hP hA
    obtain ⟨fc, hfc, hR⟩ := id hP
    refine ok_aload_n (pc := 4) dX12_either_4 rfl ?_
    refine ok_bipush (pc := 5) (v := 124) dX12_either_5 (by decide) ?_
    refine ok_callVi1 (pc := 7) (d' := 1) dX12_either_7 vl_X12_182 hR.o rfl rfl rfl (by omega) ?_
    refine r_takes hP tn e6 ht hs (by decide) (fun M hP => ?_)
    obtain ⟨fc, hfc, hR⟩ := id hP
    refine ok_if_eq (pc := 10) 27 dX12_either_10 (by decide) (fun cc_10 => ?_) (fun cc_10 => ?_)
    · have cq_10 := bI_0.mp cc_10
      have hn : ¬ hdF σ s0 = 124 := of_decide_eq_false cq_10
      rw [if_neg hn] at hP
      have hA9 : s0 = S9 := hA
      subst hA9
      refine ok_vret (pc := 27) dX12_either_27 rfl ?_
      exact k _ hP
    · have hn : hdF σ s0 = 124 := of_decide_eq_true (bI_n0.mp cc_10)
      rw [hd_end e6 ht (by omega) (by omega)] at hn
      exact absurd hn (by decide)
  | succ n ih =>
    intro s0 M h1 hs hc hP hA
    obtain ⟨fc, hfc, hR⟩ := id hP
    refine ok_aload_n (pc := 4) dX12_either_4 rfl ?_
    refine ok_bipush (pc := 5) (v := 124) dX12_either_5 (by decide) ?_
    refine ok_callVi1 (pc := 7) (d' := 1) dX12_either_7 vl_X12_182 hR.o rfl rfl rfl (by omega) ?_
    refine r_takes hP tn e6 ht hs (by decide) (fun M hP => ?_)
    obtain ⟨fc, hfc, hR⟩ := id hP
    refine ok_if_eq (pc := 10) 27 dX12_either_10 (by decide) (fun cc_10 => ?_) (fun cc_10 => ?_)
    · have cq_10 := bI_0.mp cc_10
      have hn : ¬ hdF σ s0 = 124 := of_decide_eq_false cq_10
      rw [if_neg hn] at hP
      have hA9 : s0 = S9 := by rw [← hA]; exact (if_neg (by unfold opC; simp [hn])).symm
      subst hA9
      refine ok_vret (pc := 27) dX12_either_27 rfl ?_
      exact k _ hP
    · have cq_10 := bI_n0.mp cc_10
      have hn : hdF σ s0 = 124 := of_decide_eq_true cq_10
      rw [if_pos hn] at hP
      have eo : opC 0 (hdF σ s0) = 20000 := by rw [hn]; decide
      obtain ⟨-, hlt, -⟩ := hd_in e6 ht hs (by rw [hn]; decide)
      obtain ⟨m1, m2⟩ := Mn.op hm (c := 20000) hlt
      have hA9 : lpF σ 0 q n (emF (q (adF s0)) 20000) = S9 := by rw [← hA, ← eo]; exact (if_pos (by rw [eo]; decide)).symm
      obtain ⟨fc, hfc, hR⟩ := id hP
      refine ok_aload_n (pc := 13) dX12_either_13 rfl ?_
      refine ok_callVv0 (pc := 14) (d' := d9) dX12_either_14 vl_X12_179 hR.o rfl rfl rfl (by omega) ?_
      refine hq (adF s0) _ _ hlt (Nat.le_succ_of_le hc) hP (fun M hP => ?_)
      obtain ⟨fc, hfc, hR⟩ := id hP
      refine ok_aload_n (pc := 17) dX12_either_17 rfl ?_
      refine ok_sipush (pc := 18) (v := 20000) dX12_either_18 (by decide) ?_
      refine ok_callVv1 (pc := 21) (d' := 0) dX12_either_21 vl_X12_185 hR.o rfl rfl rfl (by omega) ?_
      refine r_codes hP (by have h9 := (hm (adF s0) hlt).cd (Nat.le_succ_of_le hc); have h8 := (hm (adF s0) hlt).2.2; omega) (fun M hP => ?_)
      obtain ⟨fc, hfc, hR⟩ := id hP
      refine ok_goto (pc := 24) 4 dX12_either_24 (by decide) ?_
      exact ih (emF (q (adF s0)) 20000) _ (by omega) m1.2.2 (m1.cd hc) hP hA9

set_option maxHeartbeats 1000000 in
theorem r_either {Γ : Cx} {m sz : Nat} {M0 : Nat → Option va_E} {σ κ : Rw} {ri : Rw} {ra : Nat → Rw} {u op tn d9 : Nat} {q : Ps → Ps} (e6 : σ 6 = nI tn) (ht : tn ≤ 50) (hq : HQ Γ m sz M0 σ κ ri ra u op tn mX12_both d9 q) (hm : MqP tn q) : HQ Γ m sz M0 σ κ ri ra u op tn mX12_either (d9 + 2) (fun s => lpF σ 0 q 50 (q s)) := by
  intro s M K hs hc hP k
  obtain ⟨fc, hfc, hR⟩ := id hP
  have m1 := hm s hs
  refine spec_in [some (.ref m)] 0 (by decide) rfl rfl ?_
  refine ok_aload_n (pc := 0) dX12_either_0 rfl ?_
  refine ok_callVv0 (pc := 1) (d' := d9) dX12_either_1 vl_X12_179 hR.o rfl rfl rfl (by omega) ?_
  refine hq s _ _ hs hc hP (fun M hP => ?_)
  obtain ⟨fc, hfc, hR⟩ := id hP
  exact lq_either e6 ht hq hm _ k 50 (q s) _ (by omega) m1.2.2 (m1.cd hc) hP rfl

/-- a whole text, out of its parts -/
theorem r_levels {Γ : Cx} {m sz : Nat} {M0 : Nat → Option va_E} {σ κ : Rw} {ri : Rw} {ra : Nat → Rw} {u op tn d9 : Nat} {q : Ps → Ps} (e6 : σ 6 = nI tn) (ht : tn ≤ 50) (hq : HQ Γ m sz M0 σ κ ri ra u op tn mX12_one d9 q) (hm : MqP tn q) : HQ Γ m sz M0 σ κ ri ra u op tn mX12_either (d9 + 10) (lvG σ q 5) :=
  r_either e6 ht (r_both e6 ht (r_compared e6 ht (r_sum e6 ht (r_product e6 ht hq hm) (Mn.lv e6 ht hm 1)) (Mn.lv e6 ht hm 2)) (Mn.lv e6 ht hm 3)) (Mn.lv e6 ht hm 4)
