set_option maxHeartbeats 1000000 in
theorem r_given {Γ : Cx} {m sz : Nat} {M0 M : Nat → Option va_E} {σ κ : Rw} {ri : Nat → Int32} {ra : Nat → Nat → Int32} {K : Int32 → Wd → Prop} (hR : RefX Γ m M0 σ κ ri ra M) {uI x y z w : Int32} (u : Nat) (eu : uI = nI u) (hu : u < 2) (hT : ∀ u, u < 2 → TxOk σ u) (k : ∀ M' ra', RefX Γ m M0 σ κ ri ra' M' → Sc ra ra' → K (givF σ u x y z w) (M', sz)) : Spec Γ mX12_given 2 0 [.ref m, .int uI, .int x, .int y, .int z, .int w] (M, sz) (ci K) := by
  refine spec_in [some (.ref m), some (.int uI), some (.int x), some (.int y), some (.int z), some (.int w)] 0 (by decide) rfl rfl ?_
  refine ok_aload_n (pc := 0) dX12_given_0 rfl ?_
  refine ok_getf (pc := 1) dX12_given_1 fl_X12_41 hR.o rfl ?_
  refine ok_iconst (pc := 4) (v := 0) dX12_given_4 (by decide) ?_
  refine ok_iload_n (pc := 5) dX12_given_5 rfl ?_
  refine ok_rst14 (pc := 6) (0) dX12_given_6 hR rfl (by decide) (fun M hR => ?_)
  refine ok_aload_n (pc := 7) dX12_given_7 rfl ?_
  refine ok_getf (pc := 8) dX12_given_8 fl_X12_41 hR.o rfl ?_
  refine ok_iconst (pc := 11) (v := 1) dX12_given_11 (by decide) ?_
  refine ok_iload_n (pc := 12) dX12_given_12 rfl ?_
  refine ok_rst14 (pc := 13) (1) dX12_given_13 hR rfl (by decide) (fun M hR => ?_)
  refine ok_aload_n (pc := 14) dX12_given_14 rfl ?_
  refine ok_getf (pc := 15) dX12_given_15 fl_X12_41 hR.o rfl ?_
  refine ok_iconst (pc := 18) (v := 2) dX12_given_18 (by decide) ?_
  refine ok_iload (pc := 19) dX12_given_19 rfl ?_
  refine ok_rst14 (pc := 21) (2) dX12_given_21 hR rfl (by decide) (fun M hR => ?_)
  refine ok_aload_n (pc := 22) dX12_given_22 rfl ?_
  refine ok_getf (pc := 23) dX12_given_23 fl_X12_41 hR.o rfl ?_
  refine ok_iconst (pc := 26) (v := 3) dX12_given_26 (by decide) ?_
  refine ok_iload (pc := 27) dX12_given_27 rfl ?_
  refine ok_rst14 (pc := 29) (3) dX12_given_29 hR rfl (by decide) (fun M hR => ?_)
  have e14 : ∀ j, j < 4 → (va_up (va_up (va_up (va_up ra 14 (upd (ra 14) 0 x)) 14 (upd ((va_up ra 14 (upd (ra 14) 0 x)) 14) 1 y)) 14 (upd ((va_up (va_up ra 14 (upd (ra 14) 0 x)) 14 (upd ((va_up ra 14 (upd (ra 14) 0 x)) 14) 1 y)) 14) 2 z)) 14 (upd ((va_up (va_up (va_up ra 14 (upd (ra 14) 0 x)) 14 (upd ((va_up ra 14 (upd (ra 14) 0 x)) 14) 1 y)) 14 (upd ((va_up (va_up ra 14 (upd (ra 14) 0 x)) 14 (upd ((va_up ra 14 (upd (ra 14) 0 x)) 14) 1 y)) 14) 2 z)) 14) 3 w)) 14 j = nm4 x y z w j := by
    intro j hj
    rw [vup_eq, vup_eq, vup_eq, vup_eq]
    rcases (show j = 0 ∨ j = 1 ∨ j = 2 ∨ j = 3 by omega) with rfl | rfl | rfl | rfl <;> rfl
  refine ok_rrepr14 hR _ e14 (fun M hR => ?_)
  obtain ⟨rb, hrb⟩ : ∃ rb : Nat → Rw, rb = (va_up (va_up (va_up (va_up ra 14 (upd (ra 14) 0 x)) 14 (upd ((va_up ra 14 (upd (ra 14) 0 x)) 14) 1 y)) 14 (upd ((va_up (va_up ra 14 (upd (ra 14) 0 x)) 14 (upd ((va_up ra 14 (upd (ra 14) 0 x)) 14) 1 y)) 14) 2 z)) 14 (upd ((va_up (va_up (va_up ra 14 (upd (ra 14) 0 x)) 14 (upd ((va_up ra 14 (upd (ra 14) 0 x)) 14) 1 y)) 14 (upd ((va_up (va_up ra 14 (upd (ra 14) 0 x)) 14 (upd ((va_up ra 14 (upd (ra 14) 0 x)) 14) 1 y)) 14) 2 z)) 14) 3 w)) := ⟨_, rfl⟩
  have hs0 : ∀ s, s ≠ 14 → rb s = ra s := fun s h14 => by rw [hrb, vup_ne h14, vup_ne h14, vup_ne h14, vup_ne h14]
  rw [← hrb] at hR
  have hscb : Sc ra (va_up rb 14 (nm4 x y z w)) := fun s h14 h15 => by rw [vup_ne h14]; exact hs0 s h14
  refine ok_iload_n (pc := 30) dX12_given_30 rfl ?_
  refine ok_if_ne (pc := 31) 61 dX12_given_31 (by decide) (fun cc_31 => ?_) (fun cc_31 => ?_)
  · have hu1 : u = 1 := by
      rcases (show u = 0 ∨ u = 1 by omega) with h9 | h9
      · subst h9; exact absurd (by rw [eu]; rfl) cc_31
      · exact h9
    subst hu1
    refine ok_aload_n (pc := 61) dX12_given_61 rfl ?_
    refine ok_iconst (pc := 62) (v := 1) dX12_given_62 (by decide) ?_
    refine ok_callVi1 (pc := 63) (d' := 0) dX12_given_63 vl_X12_143 hR.o rfl rfl rfl (by decide) ?_
    refine r_hasText hR 1 rfl (by decide) ?_
    refine ok_if_eq (pc := 66) 79 dX12_given_66 (by decide) (fun cc_66 => ?_) (fun cc_66 => ?_)
    · have cq_66 := bI_0.mp cc_66
      have hpp : ¬ 0 < σ 317 := by have h9 := bI_0.mp cc_66; simpa using h9
      rw [show givF σ 1 x y z w = jmax 0 (jmin 999 (y + 1)) by simp only [givF, if_neg hpp, if_false, show ¬ (1 = 0) by decide]] at k
      refine ok_iload_n (pc := 79) dX12_given_79 rfl ?_
      refine ok_iconst (pc := 80) (v := 1) dX12_given_80 (by decide) ?_
      refine ok_iadd (pc := 81) dX12_given_81 ?_
      refine ok_iconst (pc := 82) (v := 0) dX12_given_82 (by decide) ?_
      refine ok_sipush (pc := 83) (v := 999) dX12_given_83 (by decide) ?_
      refine ok_callSi3 (pc := 86) (d' := 1) dX12_given_86 sl_X12_227 rfl (by decide) ?_
      refine r_held ?_
      refine ok_iret (pc := 89) dX12_given_89 rfl ?_
      first
        | exact k _ _ hR hsc
        | exact k _ _ hR hscb
    · have cq_66 := bI_n0.mp cc_66
      have hpp : 0 < σ 317 := by have h9 := bI_n0.mp cc_66; simpa using h9
      rw [show givF σ 1 x y z w = jmax 0 (jmin 999 (wkV σ 318 (txN σ 1) (nm4 x y z w))) by simp only [givF, if_pos hpp, if_false, show ¬ (1 = 0) by decide]] at k
      refine ok_aload_n (pc := 69) dX12_given_69 rfl ?_
      refine ok_sipush (pc := 70) (v := 318) dX12_given_70 (by decide) ?_
      refine ok_callVi1 (pc := 73) (d' := 1) dX12_given_73 vl_X12_224 hR.o rfl rfl rfl (by decide) ?_
      obtain ⟨n, hn, eN, hw, h1⟩ := hT 1 (by decide)
      have en : txN σ 1 = n := by unfold txN; rw [eN]; exact nI_clamp (by omega)
      refine r_worked hR 318 n rfl eN (by decide) hn (by omega) hw (fun M rc hR hs2 => ?_)
      have hv : (wkP σ 318 (va_up rb 14 (nm4 x y z w) 14) (va_up rb 14 (nm4 x y z w) 15) n).2 0 = wkV σ 318 (txN σ 1) (nm4 x y z w) := by
        rw [vup_eq, en]
        have hpos : 0 < n := by
          rcases Nat.eq_zero_or_pos n with h9 | h9
          · subst h9
            exact absurd (by rw [eN] at hpp; exact hpp) (by decide)
          · exact h9
        exact wkP_any hw _ _ _ n (Nat.le_refl _) 0 (by rw [h1 hpos]; decide)
      rw [hv]
      have hsc : Sc ra rc := fun s h14 h15 => by rw [hs2 s h15, vup_ne h14]; exact hs0 s h14
      refine ok_goto (pc := 76) 82 dX12_given_76 (by decide) ?_
      refine ok_iconst (pc := 82) (v := 0) dX12_given_82 (by decide) ?_
      refine ok_sipush (pc := 83) (v := 999) dX12_given_83 (by decide) ?_
      refine ok_callSi3 (pc := 86) (d' := 1) dX12_given_86 sl_X12_227 rfl (by decide) ?_
      refine r_held ?_
      refine ok_iret (pc := 89) dX12_given_89 rfl ?_
      first
        | exact k _ _ hR hsc
        | exact k _ _ hR hscb
  · have hu0 : u = 0 := by
      rcases (show u = 0 ∨ u = 1 by omega) with h9 | h9
      · exact h9
      · subst h9; rw [eu] at cc_31; exact absurd cc_31 (by decide)
    subst hu0
    refine ok_aload_n (pc := 34) dX12_given_34 rfl ?_
    refine ok_iconst (pc := 35) (v := 0) dX12_given_35 (by decide) ?_
    refine ok_callVi1 (pc := 36) (d' := 0) dX12_given_36 vl_X12_143 hR.o rfl rfl rfl (by decide) ?_
    refine r_hasText hR 0 rfl (by decide) ?_
    refine ok_if_eq (pc := 39) 59 dX12_given_39 (by decide) (fun cc_39 => ?_) (fun cc_39 => ?_)
    · have cq_39 := bI_0.mp cc_39
      have hpp : ¬ 0 < σ 265 := by have h9 := bI_0.mp cc_39; simpa using h9
      rw [show givF σ 0 x y z w = 0 by simp only [givF, if_neg hpp, if_true]] at k
      refine ok_iconst (pc := 59) (v := 0) dX12_given_59 (by decide) ?_
      refine ok_iret (pc := 60) dX12_given_60 rfl ?_
      first
        | exact k _ _ hR hsc
        | exact k _ _ hR hscb
    · have cq_39 := bI_n0.mp cc_39
      have hpp : 0 < σ 265 := by have h9 := bI_n0.mp cc_39; simpa using h9
      rw [show givF σ 0 x y z w = jmax (-99) (jmin 99 (wkV σ 266 (txN σ 0) (nm4 x y z w))) by simp only [givF, if_pos hpp, if_true]] at k
      refine ok_aload_n (pc := 42) dX12_given_42 rfl ?_
      refine ok_sipush (pc := 43) (v := 266) dX12_given_43 (by decide) ?_
      refine ok_callVi1 (pc := 46) (d' := 1) dX12_given_46 vl_X12_224 hR.o rfl rfl rfl (by decide) ?_
      obtain ⟨n, hn, eN, hw, h1⟩ := hT 0 (by decide)
      have en : txN σ 0 = n := by unfold txN; rw [eN]; exact nI_clamp (by omega)
      refine r_worked hR 266 n rfl eN (by decide) hn (by omega) hw (fun M rc hR hs2 => ?_)
      have hv : (wkP σ 266 (va_up rb 14 (nm4 x y z w) 14) (va_up rb 14 (nm4 x y z w) 15) n).2 0 = wkV σ 266 (txN σ 0) (nm4 x y z w) := by
        rw [vup_eq, en]
        have hpos : 0 < n := by
          rcases Nat.eq_zero_or_pos n with h9 | h9
          · subst h9
            exact absurd (by rw [eN] at hpp; exact hpp) (by decide)
          · exact h9
        exact wkP_any hw _ _ _ n (Nat.le_refl _) 0 (by rw [h1 hpos]; decide)
      rw [hv]
      have hsc : Sc ra rc := fun s h14 h15 => by rw [hs2 s h15, vup_ne h14]; exact hs0 s h14
      refine ok_bipush (pc := 49) (v := -99) dX12_given_49 (by decide) ?_
      refine ok_bipush (pc := 51) (v := 99) dX12_given_51 (by decide) ?_
      refine ok_callSi3 (pc := 53) (d' := 1) dX12_given_53 sl_X12_227 rfl (by decide) ?_
      refine r_held ?_
      refine ok_goto (pc := 56) 60 dX12_given_56 (by decide) ?_
      refine ok_iret (pc := 60) dX12_given_60 rfl ?_
      first
        | exact k _ _ hR hsc
        | exact k _ _ hR hscb

set_option maxHeartbeats 1000000 in
theorem r_lifts {Γ : Cx} {m sz : Nat} {M0 M : Nat → Option va_E} {σ κ : Rw} {ri : Nat → Int32} {ra : Nat → Nat → Int32} {K : Int32 → Wd → Prop} (hR : RefX Γ m M0 σ κ ri ra M) {x y z w : Int32} (hT : ∀ u, u < 2 → TxOk σ u) (k : ∀ M' ra', RefX Γ m M0 σ κ ri ra' M' → Sc ra ra' → K (givF σ 0 x y z w) (M', sz)) : Spec Γ mX12_lifts 3 0 [.ref m, .int x, .int y, .int z, .int w] (M, sz) (ci K) := by
  refine spec_in [some (.ref m), some (.int x), some (.int y), some (.int z), some (.int w)] 0 (by decide) rfl rfl ?_
  refine ok_aload_n (pc := 0) dX12_lifts_0 rfl ?_
  refine ok_iconst (pc := 1) (v := 0) dX12_lifts_1 (by decide) ?_
  refine ok_callVi1 (pc := 2) (d' := 0) dX12_lifts_2 vl_X12_143 hR.o rfl rfl rfl (by decide) ?_
  refine r_hasText hR 0 rfl (by decide) ?_
  refine ok_if_eq (pc := 5) 21 dX12_lifts_5 (by decide) (fun cc_5 => ?_) (fun cc_5 => ?_)
  · have cq_5 := bI_0.mp cc_5
    have hpp : ¬ 0 < σ 265 := by have h9 := bI_0.mp cc_5; simpa using h9
    rw [show givF σ 0 x y z w = 0 by simp only [givF, if_neg hpp, if_true]] at k
    have hs : Sc ra ra := Sc.rf
    refine ok_iconst (pc := 21) (v := 0) dX12_lifts_21 (by decide) ?_
    refine ok_iret (pc := 22) dX12_lifts_22 rfl ?_
    exact k _ _ hR hs
  · have cq_5 := bI_n0.mp cc_5
    skip
    refine ok_aload_n (pc := 8) dX12_lifts_8 rfl ?_
    refine ok_iconst (pc := 9) (v := 0) dX12_lifts_9 (by decide) ?_
    refine ok_iload_n (pc := 10) dX12_lifts_10 rfl ?_
    refine ok_iload_n (pc := 11) dX12_lifts_11 rfl ?_
    refine ok_iload_n (pc := 12) dX12_lifts_12 rfl ?_
    refine ok_iload (pc := 13) dX12_lifts_13 rfl ?_
    refine ok_callVi5 (pc := 15) (d' := 2) dX12_lifts_15 vl_X12_146 hR.o rfl rfl rfl (by decide) ?_
    refine r_given hR 0 rfl (by decide) hT (fun M ra hR hs => ?_)
    refine ok_goto (pc := 18) 22 dX12_lifts_18 (by decide) ?_
    refine ok_iret (pc := 22) dX12_lifts_22 rfl ?_
    exact k _ _ hR hs

set_option maxHeartbeats 1000000 in
theorem r_pullOf {Γ : Cx} {m sz : Nat} {M0 M : Nat → Option va_E} {σ κ : Rw} {ri : Nat → Int32} {ra : Nat → Nat → Int32} {K : Int32 → Wd → Prop} (hR : RefX Γ m M0 σ κ ri ra M) {kI hI load oI time : Int32} (k0 hill hour home : Nat) (ek : kI = nI k0) (eh : hI = nI hill) (eo : oI = nI hour) (ehm : kf σ k0 2 = nI home) (hk : k0 < 8) (hh : hill < 9) (ho : hour < 24) (hm9 : home < 9) (hT : ∀ u, u < 2 → TxOk σ u) (k : ∀ M' ra', RefX Γ m M0 σ κ ri ra' M' → Sc ra ra' → K (pullF σ k0 hill load hour time home) (M', sz)) : Spec Γ mX12_pullOf 4 0 [.ref m, .int kI, .int hI, .int load, .int oI, .int time] (M, sz) (ci K) := by
  refine spec_in [some (.ref m), some (.int kI), some (.int hI), some (.int load), some (.int oI), some (.int time), none, none, none, none, none, none, none, none] 8 (by decide) rfl rfl ?_
  refine ok_aload_n (pc := 0) dX12_pullOf_0 rfl ?_
  refine ok_iload_n (pc := 1) dX12_pullOf_1 rfl ?_
  refine ok_iconst (pc := 2) (v := 2) dX12_pullOf_2 (by decide) ?_
  refine ok_callVi2 (pc := 3) (d' := 0) dX12_pullOf_3 vl_X12_117 hR.o rfl rfl rfl (by decide) ?_
  refine r_kiteIs hR k0 ek 2 rfl hk (by decide) ?_
  refine ok_istore6 (pc := 6) dX12_pullOf_6 (by decide) rfl ?_
  refine ok_aload_n (pc := 8) dX12_pullOf_8 rfl ?_
  refine ok_getf (pc := 9) dX12_pullOf_9 fl_X12_9 hR.o rfl ?_
  refine ok_bipush (pc := 12) (v := 27) dX12_pullOf_12 (by decide) ?_
  refine ok_iload (pc := 14) dX12_pullOf_14 rfl ?_
  refine ok_iadd (pc := 16) dX12_pullOf_16 ?_
  refine ok_iald (pc := 17) (27 + hour) dX12_pullOf_17 hR.a0 (by simp only [eo, fa_lit, pk_mul, nI_add]) (by omega) (by decide) ?_
  refine ok_bipush (pc := 18) (v := 10) dX12_pullOf_18 (by decide) ?_
  refine ok_irem (pc := 20) dX12_pullOf_20 (by decide) ?_
  refine ok_istore7 (pc := 21) dX12_pullOf_21 (by decide) rfl ?_
  refine ok_aload_n (pc := 23) dX12_pullOf_23 rfl ?_
  refine ok_iload_n (pc := 24) dX12_pullOf_24 rfl ?_
  refine ok_iconst (pc := 25) (v := 1) dX12_pullOf_25 (by decide) ?_
  refine ok_callVi2 (pc := 26) (d' := 0) dX12_pullOf_26 vl_X12_117 hR.o rfl rfl rfl (by decide) ?_
  refine r_kiteIs hR k0 ek 1 rfl hk (by decide) ?_
  refine ok_istore8 (pc := 29) dX12_pullOf_29 (by decide) rfl ?_
  refine ok_aload_n (pc := 31) dX12_pullOf_31 rfl ?_
  refine ok_iload_n (pc := 32) dX12_pullOf_32 rfl ?_
  refine ok_iconst (pc := 33) (v := 0) dX12_pullOf_33 (by decide) ?_
  refine ok_callVi2 (pc := 34) (d' := 0) dX12_pullOf_34 vl_X12_117 hR.o rfl rfl rfl (by decide) ?_
  refine r_kiteIs hR k0 ek 0 rfl hk (by decide) ?_
  refine ok_istore9 (pc := 37) dX12_pullOf_37 (by decide) rfl ?_
  refine ok_aload_n (pc := 39) dX12_pullOf_39 rfl ?_
  refine ok_iload_n (pc := 40) dX12_pullOf_40 rfl ?_
  refine ok_iconst (pc := 41) (v := 3) dX12_pullOf_41 (by decide) ?_
  refine ok_callVi2 (pc := 42) (d' := 0) dX12_pullOf_42 vl_X12_117 hR.o rfl rfl rfl (by decide) ?_
  refine r_kiteIs hR k0 ek 3 rfl hk (by decide) ?_
  refine ok_iconst (pc := 45) (v := 2) dX12_pullOf_45 (by decide) ?_
  refine ok_iload (pc := 46) dX12_pullOf_46 rfl ?_
  refine ok_imul (pc := 48) dX12_pullOf_48 ?_
  refine ok_iadd (pc := 49) dX12_pullOf_49 ?_
  refine ok_iload_n (pc := 50) dX12_pullOf_50 rfl ?_
  refine ok_isub (pc := 51) dX12_pullOf_51 ?_
  refine ok_iconst (pc := 52) (v := 3) dX12_pullOf_52 (by decide) ?_
  refine ok_iconst (pc := 53) (v := 0) dX12_pullOf_53 (by decide) ?_
  refine ok_aload_n (pc := 54) dX12_pullOf_54 rfl ?_
  refine ok_iload_n (pc := 55) dX12_pullOf_55 rfl ?_
  refine ok_callVi1 (pc := 56) (d' := 0) dX12_pullOf_56 vl_X12_133 hR.o rfl rfl rfl (by decide) ?_
  refine r_highOf hR hill eh hh ?_
  refine ok_aload_n (pc := 59) dX12_pullOf_59 rfl ?_
  refine ok_iload (pc := 60) dX12_pullOf_60 rfl ?_
  refine ok_callVi1 (pc := 62) (d' := 0) dX12_pullOf_62 vl_X12_133 hR.o rfl rfl rfl (by decide) ?_
  refine r_highOf hR home ehm hm9 ?_
  refine ok_isub (pc := 65) dX12_pullOf_65 ?_
  refine ok_mmax (pc := 66) dX12_pullOf_66 tw_1291 rfl (by decide) ?_
  refine ok_imul (pc := 69) dX12_pullOf_69 ?_
  refine ok_isub (pc := 70) dX12_pullOf_70 ?_
  refine ok_istore10 (pc := 71) dX12_pullOf_71 (by decide) rfl ?_
  refine ok_iload (pc := 73) dX12_pullOf_73 rfl ?_
  refine ok_iload (pc := 75) dX12_pullOf_75 rfl ?_
  refine ok_iconst (pc := 77) (v := 2) dX12_pullOf_77 (by decide) ?_
  refine ok_icmp_gt (pc := 78) 86 dX12_pullOf_78 (by decide) (fun cc_78 => ?_) (fun cc_78 => ?_)
  · have ce_78 := Int32.not_le.mpr cc_78
    refine ok_iconst (pc := 86) (v := 0) dX12_pullOf_86 (by decide) ?_
    refine ok_isub (pc := 87) dX12_pullOf_87 ?_
    refine ok_istore11 (pc := 88) dX12_pullOf_88 (by decide) rfl ?_
    refine ok_iload (pc := 90) dX12_pullOf_90 rfl ?_
    refine ok_iload (pc := 92) dX12_pullOf_92 rfl ?_
    refine ok_iconst (pc := 94) (v := 4) dX12_pullOf_94 (by decide) ?_
    refine ok_icmp_gt (pc := 95) 103 dX12_pullOf_95 (by decide) (fun cc_95 => ?_) (fun cc_95 => ?_)
    · have ce_95 := Int32.not_le.mpr cc_95
      refine ok_iload (pc := 103) dX12_pullOf_103 rfl ?_
      refine ok_ineg (pc := 105) dX12_pullOf_105 ?_
      refine ok_iadd (pc := 106) dX12_pullOf_106 ?_
      refine ok_istore12 (pc := 107) dX12_pullOf_107 (by decide) rfl ?_
      refine ok_iload (pc := 109) dX12_pullOf_109 rfl ?_
      by_cases sw111_0 : kf σ k0 0 = 1
      · refine ok_table (pc := 111) 148 dX12_pullOf_111 (by rw [sw111_0]; decide) (by rw [sw111_0]; decide) (by rw [sw111_0]; rfl) (by decide) ?_
        refine ok_iload (pc := 148) dX12_pullOf_148 rfl ?_
        refine ok_istore13 (pc := 150) dX12_pullOf_150 (by decide) rfl ?_
        refine ok_goto (pc := 152) 217 dX12_pullOf_152 (by decide) ?_
        refine ok_iload (pc := 217) dX12_pullOf_217 rfl ?_
        refine ok_aload_n (pc := 219) dX12_pullOf_219 rfl ?_
        refine ok_iload (pc := 220) dX12_pullOf_220 rfl ?_
        refine ok_aload_n (pc := 222) dX12_pullOf_222 rfl ?_
        refine ok_iload (pc := 223) dX12_pullOf_223 rfl ?_
        refine ok_iload_n (pc := 225) dX12_pullOf_225 rfl ?_
        refine ok_callVi2 (pc := 226) (d' := 1) dX12_pullOf_226 vl_X12_136 hR.o rfl rfl rfl (by decide) ?_
        refine r_farOf hR home hill ehm eh hm9 hh ?_
        refine ok_iload_n (pc := 229) dX12_pullOf_229 rfl ?_
        refine ok_iload (pc := 230) dX12_pullOf_230 rfl ?_
        refine ok_callVi4 (pc := 232) (d' := 3) dX12_pullOf_232 vl_X12_139 hR.o rfl rfl rfl (by decide) ?_
        refine r_lifts hR hT (fun M rb hR hs => ?_)
        refine ok_iadd (pc := 235) dX12_pullOf_235 ?_
        refine ok_iret (pc := 236) dX12_pullOf_236 rfl ?_
        have e9 := k _ _ hR hs
        simpa [pullF, kdF, plF, bxF, slF, fcF, cc_78, ce_78, cc_95, ce_95, sw111_0] using e9
      by_cases sw111_1 : kf σ k0 0 = 2
      · refine ok_table (pc := 111) 155 dX12_pullOf_111 (by rw [sw111_1]; decide) (by rw [sw111_1]; decide) (by rw [sw111_1]; rfl) (by decide) ?_
        refine ok_iload (pc := 155) dX12_pullOf_155 rfl ?_
        refine ok_iload (pc := 157) dX12_pullOf_157 rfl ?_
        refine ok_isub (pc := 159) dX12_pullOf_159 ?_
        refine ok_istore13 (pc := 160) dX12_pullOf_160 (by decide) rfl ?_
        refine ok_goto (pc := 162) 217 dX12_pullOf_162 (by decide) ?_
        refine ok_iload (pc := 217) dX12_pullOf_217 rfl ?_
        refine ok_aload_n (pc := 219) dX12_pullOf_219 rfl ?_
        refine ok_iload (pc := 220) dX12_pullOf_220 rfl ?_
        refine ok_aload_n (pc := 222) dX12_pullOf_222 rfl ?_
        refine ok_iload (pc := 223) dX12_pullOf_223 rfl ?_
        refine ok_iload_n (pc := 225) dX12_pullOf_225 rfl ?_
        refine ok_callVi2 (pc := 226) (d' := 1) dX12_pullOf_226 vl_X12_136 hR.o rfl rfl rfl (by decide) ?_
        refine r_farOf hR home hill ehm eh hm9 hh ?_
        refine ok_iload_n (pc := 229) dX12_pullOf_229 rfl ?_
        refine ok_iload (pc := 230) dX12_pullOf_230 rfl ?_
        refine ok_callVi4 (pc := 232) (d' := 3) dX12_pullOf_232 vl_X12_139 hR.o rfl rfl rfl (by decide) ?_
        refine r_lifts hR hT (fun M rb hR hs => ?_)
        refine ok_iadd (pc := 235) dX12_pullOf_235 ?_
        refine ok_iret (pc := 236) dX12_pullOf_236 rfl ?_
        have e9 := k _ _ hR hs
        simpa [pullF, kdF, plF, bxF, slF, fcF, cc_78, ce_78, cc_95, ce_95, sw111_0, sw111_1] using e9
      by_cases sw111_2 : kf σ k0 0 = 3
      · refine ok_table (pc := 111) 165 dX12_pullOf_111 (by rw [sw111_2]; decide) (by rw [sw111_2]; decide) (by rw [sw111_2]; rfl) (by decide) ?_
        refine ok_iload (pc := 165) dX12_pullOf_165 rfl ?_
        refine ok_istore13 (pc := 167) dX12_pullOf_167 (by decide) rfl ?_
        refine ok_goto (pc := 169) 217 dX12_pullOf_169 (by decide) ?_
        refine ok_iload (pc := 217) dX12_pullOf_217 rfl ?_
        refine ok_aload_n (pc := 219) dX12_pullOf_219 rfl ?_
        refine ok_iload (pc := 220) dX12_pullOf_220 rfl ?_
        refine ok_aload_n (pc := 222) dX12_pullOf_222 rfl ?_
        refine ok_iload (pc := 223) dX12_pullOf_223 rfl ?_
        refine ok_iload_n (pc := 225) dX12_pullOf_225 rfl ?_
        refine ok_callVi2 (pc := 226) (d' := 1) dX12_pullOf_226 vl_X12_136 hR.o rfl rfl rfl (by decide) ?_
        refine r_farOf hR home hill ehm eh hm9 hh ?_
        refine ok_iload_n (pc := 229) dX12_pullOf_229 rfl ?_
        refine ok_iload (pc := 230) dX12_pullOf_230 rfl ?_
        refine ok_callVi4 (pc := 232) (d' := 3) dX12_pullOf_232 vl_X12_139 hR.o rfl rfl rfl (by decide) ?_
        refine r_lifts hR hT (fun M rb hR hs => ?_)
        refine ok_iadd (pc := 235) dX12_pullOf_235 ?_
        refine ok_iret (pc := 236) dX12_pullOf_236 rfl ?_
        have e9 := k _ _ hR hs
        simpa [pullF, kdF, plF, bxF, slF, fcF, cc_78, ce_78, cc_95, ce_95, sw111_0, sw111_1, sw111_2] using e9
      by_cases sw111_3 : kf σ k0 0 = 4
      · refine ok_table (pc := 111) 172 dX12_pullOf_111 (by rw [sw111_3]; decide) (by rw [sw111_3]; decide) (by rw [sw111_3]; rfl) (by decide) ?_
        refine ok_iconst (pc := 172) (v := 2) dX12_pullOf_172 (by decide) ?_
        refine ok_iload (pc := 173) dX12_pullOf_173 rfl ?_
        refine ok_imul (pc := 175) dX12_pullOf_175 ?_
        refine ok_istore13 (pc := 176) dX12_pullOf_176 (by decide) rfl ?_
        refine ok_goto (pc := 178) 217 dX12_pullOf_178 (by decide) ?_
        refine ok_iload (pc := 217) dX12_pullOf_217 rfl ?_
        refine ok_aload_n (pc := 219) dX12_pullOf_219 rfl ?_
        refine ok_iload (pc := 220) dX12_pullOf_220 rfl ?_
        refine ok_aload_n (pc := 222) dX12_pullOf_222 rfl ?_
        refine ok_iload (pc := 223) dX12_pullOf_223 rfl ?_
        refine ok_iload_n (pc := 225) dX12_pullOf_225 rfl ?_
        refine ok_callVi2 (pc := 226) (d' := 1) dX12_pullOf_226 vl_X12_136 hR.o rfl rfl rfl (by decide) ?_
        refine r_farOf hR home hill ehm eh hm9 hh ?_
        refine ok_iload_n (pc := 229) dX12_pullOf_229 rfl ?_
        refine ok_iload (pc := 230) dX12_pullOf_230 rfl ?_
        refine ok_callVi4 (pc := 232) (d' := 3) dX12_pullOf_232 vl_X12_139 hR.o rfl rfl rfl (by decide) ?_
        refine r_lifts hR hT (fun M rb hR hs => ?_)
        refine ok_iadd (pc := 235) dX12_pullOf_235 ?_
        refine ok_iret (pc := 236) dX12_pullOf_236 rfl ?_
        have e9 := k _ _ hR hs
        simpa [pullF, kdF, plF, bxF, slF, fcF, cc_78, ce_78, cc_95, ce_95, sw111_0, sw111_1, sw111_2, sw111_3] using e9
      by_cases sw111_4 : kf σ k0 0 = 5
      · refine ok_table (pc := 111) 181 dX12_pullOf_111 (by rw [sw111_4]; decide) (by rw [sw111_4]; decide) (by rw [sw111_4]; rfl) (by decide) ?_
        refine ok_iload (pc := 181) dX12_pullOf_181 rfl ?_
        refine ok_iload (pc := 183) dX12_pullOf_183 rfl ?_
        refine ok_isub (pc := 185) dX12_pullOf_185 ?_
        refine ok_aload_n (pc := 186) dX12_pullOf_186 rfl ?_
        refine ok_iload_n (pc := 187) dX12_pullOf_187 rfl ?_
        refine ok_iconst (pc := 188) (v := 4) dX12_pullOf_188 (by decide) ?_
        refine ok_callVi2 (pc := 189) (d' := 0) dX12_pullOf_189 vl_X12_117 hR.o rfl rfl rfl (by decide) ?_
        refine r_kiteIs hR k0 ek 4 rfl hk (by decide) ?_
        refine ok_iconst (pc := 192) (v := 4) dX12_pullOf_192 (by decide) ?_
        refine ok_idiv (pc := 193) dX12_pullOf_193 (by decide) ?_
        refine ok_iadd (pc := 194) dX12_pullOf_194 ?_
        refine ok_istore13 (pc := 195) dX12_pullOf_195 (by decide) rfl ?_
        refine ok_goto (pc := 197) 217 dX12_pullOf_197 (by decide) ?_
        refine ok_iload (pc := 217) dX12_pullOf_217 rfl ?_
        refine ok_aload_n (pc := 219) dX12_pullOf_219 rfl ?_
        refine ok_iload (pc := 220) dX12_pullOf_220 rfl ?_
        refine ok_aload_n (pc := 222) dX12_pullOf_222 rfl ?_
        refine ok_iload (pc := 223) dX12_pullOf_223 rfl ?_
        refine ok_iload_n (pc := 225) dX12_pullOf_225 rfl ?_
        refine ok_callVi2 (pc := 226) (d' := 1) dX12_pullOf_226 vl_X12_136 hR.o rfl rfl rfl (by decide) ?_
        refine r_farOf hR home hill ehm eh hm9 hh ?_
        refine ok_iload_n (pc := 229) dX12_pullOf_229 rfl ?_
        refine ok_iload (pc := 230) dX12_pullOf_230 rfl ?_
        refine ok_callVi4 (pc := 232) (d' := 3) dX12_pullOf_232 vl_X12_139 hR.o rfl rfl rfl (by decide) ?_
        refine r_lifts hR hT (fun M rb hR hs => ?_)
        refine ok_iadd (pc := 235) dX12_pullOf_235 ?_
        refine ok_iret (pc := 236) dX12_pullOf_236 rfl ?_
        have e9 := k _ _ hR hs
        simpa [pullF, kdF, plF, bxF, slF, fcF, cc_78, ce_78, cc_95, ce_95, sw111_0, sw111_1, sw111_2, sw111_3, sw111_4] using e9
      by_cases sw111_5 : kf σ k0 0 = 6
      · refine ok_table (pc := 111) 200 dX12_pullOf_111 (by rw [sw111_5]; decide) (by rw [sw111_5]; decide) (by rw [sw111_5]; rfl) (by decide) ?_
        refine ok_iload (pc := 200) dX12_pullOf_200 rfl ?_
        refine ok_iload (pc := 202) dX12_pullOf_202 rfl ?_
        refine ok_bipush (pc := 204) (v := 24) dX12_pullOf_204 (by decide) ?_
        refine ok_idiv (pc := 206) dX12_pullOf_206 (by decide) ?_
        refine ok_isub (pc := 207) dX12_pullOf_207 ?_
        refine ok_istore13 (pc := 208) dX12_pullOf_208 (by decide) rfl ?_
        refine ok_goto (pc := 210) 217 dX12_pullOf_210 (by decide) ?_
        refine ok_iload (pc := 217) dX12_pullOf_217 rfl ?_
        refine ok_aload_n (pc := 219) dX12_pullOf_219 rfl ?_
        refine ok_iload (pc := 220) dX12_pullOf_220 rfl ?_
        refine ok_aload_n (pc := 222) dX12_pullOf_222 rfl ?_
        refine ok_iload (pc := 223) dX12_pullOf_223 rfl ?_
        refine ok_iload_n (pc := 225) dX12_pullOf_225 rfl ?_
        refine ok_callVi2 (pc := 226) (d' := 1) dX12_pullOf_226 vl_X12_136 hR.o rfl rfl rfl (by decide) ?_
        refine r_farOf hR home hill ehm eh hm9 hh ?_
        refine ok_iload_n (pc := 229) dX12_pullOf_229 rfl ?_
        refine ok_iload (pc := 230) dX12_pullOf_230 rfl ?_
        refine ok_callVi4 (pc := 232) (d' := 3) dX12_pullOf_232 vl_X12_139 hR.o rfl rfl rfl (by decide) ?_
        refine r_lifts hR hT (fun M rb hR hs => ?_)
        refine ok_iadd (pc := 235) dX12_pullOf_235 ?_
        refine ok_iret (pc := 236) dX12_pullOf_236 rfl ?_
        have e9 := k _ _ hR hs
        simpa [pullF, kdF, plF, bxF, slF, fcF, cc_78, ce_78, cc_95, ce_95, sw111_0, sw111_1, sw111_2, sw111_3, sw111_4, sw111_5] using e9
      refine ok_tableOut (pc := 111) 213 dX12_pullOf_111 (by have h := tab_out (1) 6 (by decide) (by decide) (fun j hj => by match j, hj with | 0, _ => exact (fun h => sw111_0 (h.trans (by decide))) | 1, _ => exact (fun h => sw111_1 (h.trans (by decide))) | 2, _ => exact (fun h => sw111_2 (h.trans (by decide))) | 3, _ => exact (fun h => sw111_3 (h.trans (by decide))) | 4, _ => exact (fun h => sw111_4 (h.trans (by decide))) | 5, _ => exact (fun h => sw111_5 (h.trans (by decide)))); exact h) (by decide) ?_
      refine ok_iload (pc := 213) dX12_pullOf_213 rfl ?_
      refine ok_istore13 (pc := 215) dX12_pullOf_215 (by decide) rfl ?_
      refine ok_iload (pc := 217) dX12_pullOf_217 rfl ?_
      refine ok_aload_n (pc := 219) dX12_pullOf_219 rfl ?_
      refine ok_iload (pc := 220) dX12_pullOf_220 rfl ?_
      refine ok_aload_n (pc := 222) dX12_pullOf_222 rfl ?_
      refine ok_iload (pc := 223) dX12_pullOf_223 rfl ?_
      refine ok_iload_n (pc := 225) dX12_pullOf_225 rfl ?_
      refine ok_callVi2 (pc := 226) (d' := 1) dX12_pullOf_226 vl_X12_136 hR.o rfl rfl rfl (by decide) ?_
      refine r_farOf hR home hill ehm eh hm9 hh ?_
      refine ok_iload_n (pc := 229) dX12_pullOf_229 rfl ?_
      refine ok_iload (pc := 230) dX12_pullOf_230 rfl ?_
      refine ok_callVi4 (pc := 232) (d' := 3) dX12_pullOf_232 vl_X12_139 hR.o rfl rfl rfl (by decide) ?_
      refine r_lifts hR hT (fun M rb hR hs => ?_)
      refine ok_iadd (pc := 235) dX12_pullOf_235 ?_
      refine ok_iret (pc := 236) dX12_pullOf_236 rfl ?_
      have e9 := k _ _ hR hs
      simpa [pullF, kdF, plF, bxF, slF, fcF, cc_78, ce_78, cc_95, ce_95, sw111_0, sw111_1, sw111_2, sw111_3, sw111_4, sw111_5] using e9
    · have ce_95 := Int32.not_lt.mp cc_95
      refine ok_iload (pc := 98) dX12_pullOf_98 rfl ?_
      refine ok_goto (pc := 100) 106 dX12_pullOf_100 (by decide) ?_
      refine ok_iadd (pc := 106) dX12_pullOf_106 ?_
      refine ok_istore12 (pc := 107) dX12_pullOf_107 (by decide) rfl ?_
      refine ok_iload (pc := 109) dX12_pullOf_109 rfl ?_
      by_cases sw111_0 : kf σ k0 0 = 1
      · refine ok_table (pc := 111) 148 dX12_pullOf_111 (by rw [sw111_0]; decide) (by rw [sw111_0]; decide) (by rw [sw111_0]; rfl) (by decide) ?_
        refine ok_iload (pc := 148) dX12_pullOf_148 rfl ?_
        refine ok_istore13 (pc := 150) dX12_pullOf_150 (by decide) rfl ?_
        refine ok_goto (pc := 152) 217 dX12_pullOf_152 (by decide) ?_
        refine ok_iload (pc := 217) dX12_pullOf_217 rfl ?_
        refine ok_aload_n (pc := 219) dX12_pullOf_219 rfl ?_
        refine ok_iload (pc := 220) dX12_pullOf_220 rfl ?_
        refine ok_aload_n (pc := 222) dX12_pullOf_222 rfl ?_
        refine ok_iload (pc := 223) dX12_pullOf_223 rfl ?_
        refine ok_iload_n (pc := 225) dX12_pullOf_225 rfl ?_
        refine ok_callVi2 (pc := 226) (d' := 1) dX12_pullOf_226 vl_X12_136 hR.o rfl rfl rfl (by decide) ?_
        refine r_farOf hR home hill ehm eh hm9 hh ?_
        refine ok_iload_n (pc := 229) dX12_pullOf_229 rfl ?_
        refine ok_iload (pc := 230) dX12_pullOf_230 rfl ?_
        refine ok_callVi4 (pc := 232) (d' := 3) dX12_pullOf_232 vl_X12_139 hR.o rfl rfl rfl (by decide) ?_
        refine r_lifts hR hT (fun M rb hR hs => ?_)
        refine ok_iadd (pc := 235) dX12_pullOf_235 ?_
        refine ok_iret (pc := 236) dX12_pullOf_236 rfl ?_
        have e9 := k _ _ hR hs
        simpa [pullF, kdF, plF, bxF, slF, fcF, cc_78, ce_78, cc_95, ce_95, sw111_0] using e9
      by_cases sw111_1 : kf σ k0 0 = 2
      · refine ok_table (pc := 111) 155 dX12_pullOf_111 (by rw [sw111_1]; decide) (by rw [sw111_1]; decide) (by rw [sw111_1]; rfl) (by decide) ?_
        refine ok_iload (pc := 155) dX12_pullOf_155 rfl ?_
        refine ok_iload (pc := 157) dX12_pullOf_157 rfl ?_
        refine ok_isub (pc := 159) dX12_pullOf_159 ?_
        refine ok_istore13 (pc := 160) dX12_pullOf_160 (by decide) rfl ?_
        refine ok_goto (pc := 162) 217 dX12_pullOf_162 (by decide) ?_
        refine ok_iload (pc := 217) dX12_pullOf_217 rfl ?_
        refine ok_aload_n (pc := 219) dX12_pullOf_219 rfl ?_
        refine ok_iload (pc := 220) dX12_pullOf_220 rfl ?_
        refine ok_aload_n (pc := 222) dX12_pullOf_222 rfl ?_
        refine ok_iload (pc := 223) dX12_pullOf_223 rfl ?_
        refine ok_iload_n (pc := 225) dX12_pullOf_225 rfl ?_
        refine ok_callVi2 (pc := 226) (d' := 1) dX12_pullOf_226 vl_X12_136 hR.o rfl rfl rfl (by decide) ?_
        refine r_farOf hR home hill ehm eh hm9 hh ?_
        refine ok_iload_n (pc := 229) dX12_pullOf_229 rfl ?_
        refine ok_iload (pc := 230) dX12_pullOf_230 rfl ?_
        refine ok_callVi4 (pc := 232) (d' := 3) dX12_pullOf_232 vl_X12_139 hR.o rfl rfl rfl (by decide) ?_
        refine r_lifts hR hT (fun M rb hR hs => ?_)
        refine ok_iadd (pc := 235) dX12_pullOf_235 ?_
        refine ok_iret (pc := 236) dX12_pullOf_236 rfl ?_
        have e9 := k _ _ hR hs
        simpa [pullF, kdF, plF, bxF, slF, fcF, cc_78, ce_78, cc_95, ce_95, sw111_0, sw111_1] using e9
      by_cases sw111_2 : kf σ k0 0 = 3
      · refine ok_table (pc := 111) 165 dX12_pullOf_111 (by rw [sw111_2]; decide) (by rw [sw111_2]; decide) (by rw [sw111_2]; rfl) (by decide) ?_
        refine ok_iload (pc := 165) dX12_pullOf_165 rfl ?_
        refine ok_istore13 (pc := 167) dX12_pullOf_167 (by decide) rfl ?_
        refine ok_goto (pc := 169) 217 dX12_pullOf_169 (by decide) ?_
        refine ok_iload (pc := 217) dX12_pullOf_217 rfl ?_
        refine ok_aload_n (pc := 219) dX12_pullOf_219 rfl ?_
        refine ok_iload (pc := 220) dX12_pullOf_220 rfl ?_
        refine ok_aload_n (pc := 222) dX12_pullOf_222 rfl ?_
        refine ok_iload (pc := 223) dX12_pullOf_223 rfl ?_
        refine ok_iload_n (pc := 225) dX12_pullOf_225 rfl ?_
        refine ok_callVi2 (pc := 226) (d' := 1) dX12_pullOf_226 vl_X12_136 hR.o rfl rfl rfl (by decide) ?_
        refine r_farOf hR home hill ehm eh hm9 hh ?_
        refine ok_iload_n (pc := 229) dX12_pullOf_229 rfl ?_
        refine ok_iload (pc := 230) dX12_pullOf_230 rfl ?_
        refine ok_callVi4 (pc := 232) (d' := 3) dX12_pullOf_232 vl_X12_139 hR.o rfl rfl rfl (by decide) ?_
        refine r_lifts hR hT (fun M rb hR hs => ?_)
        refine ok_iadd (pc := 235) dX12_pullOf_235 ?_
        refine ok_iret (pc := 236) dX12_pullOf_236 rfl ?_
        have e9 := k _ _ hR hs
        simpa [pullF, kdF, plF, bxF, slF, fcF, cc_78, ce_78, cc_95, ce_95, sw111_0, sw111_1, sw111_2] using e9
      by_cases sw111_3 : kf σ k0 0 = 4
      · refine ok_table (pc := 111) 172 dX12_pullOf_111 (by rw [sw111_3]; decide) (by rw [sw111_3]; decide) (by rw [sw111_3]; rfl) (by decide) ?_
        refine ok_iconst (pc := 172) (v := 2) dX12_pullOf_172 (by decide) ?_
        refine ok_iload (pc := 173) dX12_pullOf_173 rfl ?_
        refine ok_imul (pc := 175) dX12_pullOf_175 ?_
        refine ok_istore13 (pc := 176) dX12_pullOf_176 (by decide) rfl ?_
        refine ok_goto (pc := 178) 217 dX12_pullOf_178 (by decide) ?_
        refine ok_iload (pc := 217) dX12_pullOf_217 rfl ?_
        refine ok_aload_n (pc := 219) dX12_pullOf_219 rfl ?_
        refine ok_iload (pc := 220) dX12_pullOf_220 rfl ?_
        refine ok_aload_n (pc := 222) dX12_pullOf_222 rfl ?_
        refine ok_iload (pc := 223) dX12_pullOf_223 rfl ?_
        refine ok_iload_n (pc := 225) dX12_pullOf_225 rfl ?_
        refine ok_callVi2 (pc := 226) (d' := 1) dX12_pullOf_226 vl_X12_136 hR.o rfl rfl rfl (by decide) ?_
        refine r_farOf hR home hill ehm eh hm9 hh ?_
        refine ok_iload_n (pc := 229) dX12_pullOf_229 rfl ?_
        refine ok_iload (pc := 230) dX12_pullOf_230 rfl ?_
        refine ok_callVi4 (pc := 232) (d' := 3) dX12_pullOf_232 vl_X12_139 hR.o rfl rfl rfl (by decide) ?_
        refine r_lifts hR hT (fun M rb hR hs => ?_)
        refine ok_iadd (pc := 235) dX12_pullOf_235 ?_
        refine ok_iret (pc := 236) dX12_pullOf_236 rfl ?_
        have e9 := k _ _ hR hs
        simpa [pullF, kdF, plF, bxF, slF, fcF, cc_78, ce_78, cc_95, ce_95, sw111_0, sw111_1, sw111_2, sw111_3] using e9
      by_cases sw111_4 : kf σ k0 0 = 5
      · refine ok_table (pc := 111) 181 dX12_pullOf_111 (by rw [sw111_4]; decide) (by rw [sw111_4]; decide) (by rw [sw111_4]; rfl) (by decide) ?_
        refine ok_iload (pc := 181) dX12_pullOf_181 rfl ?_
        refine ok_iload (pc := 183) dX12_pullOf_183 rfl ?_
        refine ok_isub (pc := 185) dX12_pullOf_185 ?_
        refine ok_aload_n (pc := 186) dX12_pullOf_186 rfl ?_
        refine ok_iload_n (pc := 187) dX12_pullOf_187 rfl ?_
        refine ok_iconst (pc := 188) (v := 4) dX12_pullOf_188 (by decide) ?_
        refine ok_callVi2 (pc := 189) (d' := 0) dX12_pullOf_189 vl_X12_117 hR.o rfl rfl rfl (by decide) ?_
        refine r_kiteIs hR k0 ek 4 rfl hk (by decide) ?_
        refine ok_iconst (pc := 192) (v := 4) dX12_pullOf_192 (by decide) ?_
        refine ok_idiv (pc := 193) dX12_pullOf_193 (by decide) ?_
        refine ok_iadd (pc := 194) dX12_pullOf_194 ?_
        refine ok_istore13 (pc := 195) dX12_pullOf_195 (by decide) rfl ?_
        refine ok_goto (pc := 197) 217 dX12_pullOf_197 (by decide) ?_
        refine ok_iload (pc := 217) dX12_pullOf_217 rfl ?_
        refine ok_aload_n (pc := 219) dX12_pullOf_219 rfl ?_
        refine ok_iload (pc := 220) dX12_pullOf_220 rfl ?_
        refine ok_aload_n (pc := 222) dX12_pullOf_222 rfl ?_
        refine ok_iload (pc := 223) dX12_pullOf_223 rfl ?_
        refine ok_iload_n (pc := 225) dX12_pullOf_225 rfl ?_
        refine ok_callVi2 (pc := 226) (d' := 1) dX12_pullOf_226 vl_X12_136 hR.o rfl rfl rfl (by decide) ?_
        refine r_farOf hR home hill ehm eh hm9 hh ?_
        refine ok_iload_n (pc := 229) dX12_pullOf_229 rfl ?_
        refine ok_iload (pc := 230) dX12_pullOf_230 rfl ?_
        refine ok_callVi4 (pc := 232) (d' := 3) dX12_pullOf_232 vl_X12_139 hR.o rfl rfl rfl (by decide) ?_
        refine r_lifts hR hT (fun M rb hR hs => ?_)
        refine ok_iadd (pc := 235) dX12_pullOf_235 ?_
        refine ok_iret (pc := 236) dX12_pullOf_236 rfl ?_
        have e9 := k _ _ hR hs
        simpa [pullF, kdF, plF, bxF, slF, fcF, cc_78, ce_78, cc_95, ce_95, sw111_0, sw111_1, sw111_2, sw111_3, sw111_4] using e9
      by_cases sw111_5 : kf σ k0 0 = 6
      · refine ok_table (pc := 111) 200 dX12_pullOf_111 (by rw [sw111_5]; decide) (by rw [sw111_5]; decide) (by rw [sw111_5]; rfl) (by decide) ?_
        refine ok_iload (pc := 200) dX12_pullOf_200 rfl ?_
        refine ok_iload (pc := 202) dX12_pullOf_202 rfl ?_
        refine ok_bipush (pc := 204) (v := 24) dX12_pullOf_204 (by decide) ?_
        refine ok_idiv (pc := 206) dX12_pullOf_206 (by decide) ?_
        refine ok_isub (pc := 207) dX12_pullOf_207 ?_
        refine ok_istore13 (pc := 208) dX12_pullOf_208 (by decide) rfl ?_
        refine ok_goto (pc := 210) 217 dX12_pullOf_210 (by decide) ?_
        refine ok_iload (pc := 217) dX12_pullOf_217 rfl ?_
        refine ok_aload_n (pc := 219) dX12_pullOf_219 rfl ?_
        refine ok_iload (pc := 220) dX12_pullOf_220 rfl ?_
        refine ok_aload_n (pc := 222) dX12_pullOf_222 rfl ?_
        refine ok_iload (pc := 223) dX12_pullOf_223 rfl ?_
        refine ok_iload_n (pc := 225) dX12_pullOf_225 rfl ?_
        refine ok_callVi2 (pc := 226) (d' := 1) dX12_pullOf_226 vl_X12_136 hR.o rfl rfl rfl (by decide) ?_
        refine r_farOf hR home hill ehm eh hm9 hh ?_
        refine ok_iload_n (pc := 229) dX12_pullOf_229 rfl ?_
        refine ok_iload (pc := 230) dX12_pullOf_230 rfl ?_
        refine ok_callVi4 (pc := 232) (d' := 3) dX12_pullOf_232 vl_X12_139 hR.o rfl rfl rfl (by decide) ?_
        refine r_lifts hR hT (fun M rb hR hs => ?_)
        refine ok_iadd (pc := 235) dX12_pullOf_235 ?_
        refine ok_iret (pc := 236) dX12_pullOf_236 rfl ?_
        have e9 := k _ _ hR hs
        simpa [pullF, kdF, plF, bxF, slF, fcF, cc_78, ce_78, cc_95, ce_95, sw111_0, sw111_1, sw111_2, sw111_3, sw111_4, sw111_5] using e9
      refine ok_tableOut (pc := 111) 213 dX12_pullOf_111 (by have h := tab_out (1) 6 (by decide) (by decide) (fun j hj => by match j, hj with | 0, _ => exact (fun h => sw111_0 (h.trans (by decide))) | 1, _ => exact (fun h => sw111_1 (h.trans (by decide))) | 2, _ => exact (fun h => sw111_2 (h.trans (by decide))) | 3, _ => exact (fun h => sw111_3 (h.trans (by decide))) | 4, _ => exact (fun h => sw111_4 (h.trans (by decide))) | 5, _ => exact (fun h => sw111_5 (h.trans (by decide)))); exact h) (by decide) ?_
      refine ok_iload (pc := 213) dX12_pullOf_213 rfl ?_
      refine ok_istore13 (pc := 215) dX12_pullOf_215 (by decide) rfl ?_
      refine ok_iload (pc := 217) dX12_pullOf_217 rfl ?_
      refine ok_aload_n (pc := 219) dX12_pullOf_219 rfl ?_
      refine ok_iload (pc := 220) dX12_pullOf_220 rfl ?_
      refine ok_aload_n (pc := 222) dX12_pullOf_222 rfl ?_
      refine ok_iload (pc := 223) dX12_pullOf_223 rfl ?_
      refine ok_iload_n (pc := 225) dX12_pullOf_225 rfl ?_
      refine ok_callVi2 (pc := 226) (d' := 1) dX12_pullOf_226 vl_X12_136 hR.o rfl rfl rfl (by decide) ?_
      refine r_farOf hR home hill ehm eh hm9 hh ?_
      refine ok_iload_n (pc := 229) dX12_pullOf_229 rfl ?_
      refine ok_iload (pc := 230) dX12_pullOf_230 rfl ?_
      refine ok_callVi4 (pc := 232) (d' := 3) dX12_pullOf_232 vl_X12_139 hR.o rfl rfl rfl (by decide) ?_
      refine r_lifts hR hT (fun M rb hR hs => ?_)
      refine ok_iadd (pc := 235) dX12_pullOf_235 ?_
      refine ok_iret (pc := 236) dX12_pullOf_236 rfl ?_
      have e9 := k _ _ hR hs
      simpa [pullF, kdF, plF, bxF, slF, fcF, cc_78, ce_78, cc_95, ce_95, sw111_0, sw111_1, sw111_2, sw111_3, sw111_4, sw111_5] using e9
  · have ce_78 := Int32.not_lt.mp cc_78
    refine ok_bipush (pc := 81) (v := 9) dX12_pullOf_81 (by decide) ?_
    refine ok_goto (pc := 83) 87 dX12_pullOf_83 (by decide) ?_
    refine ok_isub (pc := 87) dX12_pullOf_87 ?_
    refine ok_istore11 (pc := 88) dX12_pullOf_88 (by decide) rfl ?_
    refine ok_iload (pc := 90) dX12_pullOf_90 rfl ?_
    refine ok_iload (pc := 92) dX12_pullOf_92 rfl ?_
    refine ok_iconst (pc := 94) (v := 4) dX12_pullOf_94 (by decide) ?_
    refine ok_icmp_gt (pc := 95) 103 dX12_pullOf_95 (by decide) (fun cc_95 => ?_) (fun cc_95 => ?_)
    · have ce_95 := Int32.not_le.mpr cc_95
      refine ok_iload (pc := 103) dX12_pullOf_103 rfl ?_
      refine ok_ineg (pc := 105) dX12_pullOf_105 ?_
      refine ok_iadd (pc := 106) dX12_pullOf_106 ?_
      refine ok_istore12 (pc := 107) dX12_pullOf_107 (by decide) rfl ?_
      refine ok_iload (pc := 109) dX12_pullOf_109 rfl ?_
      by_cases sw111_0 : kf σ k0 0 = 1
      · refine ok_table (pc := 111) 148 dX12_pullOf_111 (by rw [sw111_0]; decide) (by rw [sw111_0]; decide) (by rw [sw111_0]; rfl) (by decide) ?_
        refine ok_iload (pc := 148) dX12_pullOf_148 rfl ?_
        refine ok_istore13 (pc := 150) dX12_pullOf_150 (by decide) rfl ?_
        refine ok_goto (pc := 152) 217 dX12_pullOf_152 (by decide) ?_
        refine ok_iload (pc := 217) dX12_pullOf_217 rfl ?_
        refine ok_aload_n (pc := 219) dX12_pullOf_219 rfl ?_
        refine ok_iload (pc := 220) dX12_pullOf_220 rfl ?_
        refine ok_aload_n (pc := 222) dX12_pullOf_222 rfl ?_
        refine ok_iload (pc := 223) dX12_pullOf_223 rfl ?_
        refine ok_iload_n (pc := 225) dX12_pullOf_225 rfl ?_
        refine ok_callVi2 (pc := 226) (d' := 1) dX12_pullOf_226 vl_X12_136 hR.o rfl rfl rfl (by decide) ?_
        refine r_farOf hR home hill ehm eh hm9 hh ?_
        refine ok_iload_n (pc := 229) dX12_pullOf_229 rfl ?_
        refine ok_iload (pc := 230) dX12_pullOf_230 rfl ?_
        refine ok_callVi4 (pc := 232) (d' := 3) dX12_pullOf_232 vl_X12_139 hR.o rfl rfl rfl (by decide) ?_
        refine r_lifts hR hT (fun M rb hR hs => ?_)
        refine ok_iadd (pc := 235) dX12_pullOf_235 ?_
        refine ok_iret (pc := 236) dX12_pullOf_236 rfl ?_
        have e9 := k _ _ hR hs
        simpa [pullF, kdF, plF, bxF, slF, fcF, cc_78, ce_78, cc_95, ce_95, sw111_0] using e9
      by_cases sw111_1 : kf σ k0 0 = 2
      · refine ok_table (pc := 111) 155 dX12_pullOf_111 (by rw [sw111_1]; decide) (by rw [sw111_1]; decide) (by rw [sw111_1]; rfl) (by decide) ?_
        refine ok_iload (pc := 155) dX12_pullOf_155 rfl ?_
        refine ok_iload (pc := 157) dX12_pullOf_157 rfl ?_
        refine ok_isub (pc := 159) dX12_pullOf_159 ?_
        refine ok_istore13 (pc := 160) dX12_pullOf_160 (by decide) rfl ?_
        refine ok_goto (pc := 162) 217 dX12_pullOf_162 (by decide) ?_
        refine ok_iload (pc := 217) dX12_pullOf_217 rfl ?_
        refine ok_aload_n (pc := 219) dX12_pullOf_219 rfl ?_
        refine ok_iload (pc := 220) dX12_pullOf_220 rfl ?_
        refine ok_aload_n (pc := 222) dX12_pullOf_222 rfl ?_
        refine ok_iload (pc := 223) dX12_pullOf_223 rfl ?_
        refine ok_iload_n (pc := 225) dX12_pullOf_225 rfl ?_
        refine ok_callVi2 (pc := 226) (d' := 1) dX12_pullOf_226 vl_X12_136 hR.o rfl rfl rfl (by decide) ?_
        refine r_farOf hR home hill ehm eh hm9 hh ?_
        refine ok_iload_n (pc := 229) dX12_pullOf_229 rfl ?_
        refine ok_iload (pc := 230) dX12_pullOf_230 rfl ?_
        refine ok_callVi4 (pc := 232) (d' := 3) dX12_pullOf_232 vl_X12_139 hR.o rfl rfl rfl (by decide) ?_
        refine r_lifts hR hT (fun M rb hR hs => ?_)
        refine ok_iadd (pc := 235) dX12_pullOf_235 ?_
        refine ok_iret (pc := 236) dX12_pullOf_236 rfl ?_
        have e9 := k _ _ hR hs
        simpa [pullF, kdF, plF, bxF, slF, fcF, cc_78, ce_78, cc_95, ce_95, sw111_0, sw111_1] using e9
      by_cases sw111_2 : kf σ k0 0 = 3
      · refine ok_table (pc := 111) 165 dX12_pullOf_111 (by rw [sw111_2]; decide) (by rw [sw111_2]; decide) (by rw [sw111_2]; rfl) (by decide) ?_
        refine ok_iload (pc := 165) dX12_pullOf_165 rfl ?_
        refine ok_istore13 (pc := 167) dX12_pullOf_167 (by decide) rfl ?_
        refine ok_goto (pc := 169) 217 dX12_pullOf_169 (by decide) ?_
        refine ok_iload (pc := 217) dX12_pullOf_217 rfl ?_
        refine ok_aload_n (pc := 219) dX12_pullOf_219 rfl ?_
        refine ok_iload (pc := 220) dX12_pullOf_220 rfl ?_
        refine ok_aload_n (pc := 222) dX12_pullOf_222 rfl ?_
        refine ok_iload (pc := 223) dX12_pullOf_223 rfl ?_
        refine ok_iload_n (pc := 225) dX12_pullOf_225 rfl ?_
        refine ok_callVi2 (pc := 226) (d' := 1) dX12_pullOf_226 vl_X12_136 hR.o rfl rfl rfl (by decide) ?_
        refine r_farOf hR home hill ehm eh hm9 hh ?_
        refine ok_iload_n (pc := 229) dX12_pullOf_229 rfl ?_
        refine ok_iload (pc := 230) dX12_pullOf_230 rfl ?_
        refine ok_callVi4 (pc := 232) (d' := 3) dX12_pullOf_232 vl_X12_139 hR.o rfl rfl rfl (by decide) ?_
        refine r_lifts hR hT (fun M rb hR hs => ?_)
        refine ok_iadd (pc := 235) dX12_pullOf_235 ?_
        refine ok_iret (pc := 236) dX12_pullOf_236 rfl ?_
        have e9 := k _ _ hR hs
        simpa [pullF, kdF, plF, bxF, slF, fcF, cc_78, ce_78, cc_95, ce_95, sw111_0, sw111_1, sw111_2] using e9
      by_cases sw111_3 : kf σ k0 0 = 4
      · refine ok_table (pc := 111) 172 dX12_pullOf_111 (by rw [sw111_3]; decide) (by rw [sw111_3]; decide) (by rw [sw111_3]; rfl) (by decide) ?_
        refine ok_iconst (pc := 172) (v := 2) dX12_pullOf_172 (by decide) ?_
        refine ok_iload (pc := 173) dX12_pullOf_173 rfl ?_
        refine ok_imul (pc := 175) dX12_pullOf_175 ?_
        refine ok_istore13 (pc := 176) dX12_pullOf_176 (by decide) rfl ?_
        refine ok_goto (pc := 178) 217 dX12_pullOf_178 (by decide) ?_
        refine ok_iload (pc := 217) dX12_pullOf_217 rfl ?_
        refine ok_aload_n (pc := 219) dX12_pullOf_219 rfl ?_
        refine ok_iload (pc := 220) dX12_pullOf_220 rfl ?_
        refine ok_aload_n (pc := 222) dX12_pullOf_222 rfl ?_
        refine ok_iload (pc := 223) dX12_pullOf_223 rfl ?_
        refine ok_iload_n (pc := 225) dX12_pullOf_225 rfl ?_
        refine ok_callVi2 (pc := 226) (d' := 1) dX12_pullOf_226 vl_X12_136 hR.o rfl rfl rfl (by decide) ?_
        refine r_farOf hR home hill ehm eh hm9 hh ?_
        refine ok_iload_n (pc := 229) dX12_pullOf_229 rfl ?_
        refine ok_iload (pc := 230) dX12_pullOf_230 rfl ?_
        refine ok_callVi4 (pc := 232) (d' := 3) dX12_pullOf_232 vl_X12_139 hR.o rfl rfl rfl (by decide) ?_
        refine r_lifts hR hT (fun M rb hR hs => ?_)
        refine ok_iadd (pc := 235) dX12_pullOf_235 ?_
        refine ok_iret (pc := 236) dX12_pullOf_236 rfl ?_
        have e9 := k _ _ hR hs
        simpa [pullF, kdF, plF, bxF, slF, fcF, cc_78, ce_78, cc_95, ce_95, sw111_0, sw111_1, sw111_2, sw111_3] using e9
      by_cases sw111_4 : kf σ k0 0 = 5
      · refine ok_table (pc := 111) 181 dX12_pullOf_111 (by rw [sw111_4]; decide) (by rw [sw111_4]; decide) (by rw [sw111_4]; rfl) (by decide) ?_
        refine ok_iload (pc := 181) dX12_pullOf_181 rfl ?_
        refine ok_iload (pc := 183) dX12_pullOf_183 rfl ?_
        refine ok_isub (pc := 185) dX12_pullOf_185 ?_
        refine ok_aload_n (pc := 186) dX12_pullOf_186 rfl ?_
        refine ok_iload_n (pc := 187) dX12_pullOf_187 rfl ?_
        refine ok_iconst (pc := 188) (v := 4) dX12_pullOf_188 (by decide) ?_
        refine ok_callVi2 (pc := 189) (d' := 0) dX12_pullOf_189 vl_X12_117 hR.o rfl rfl rfl (by decide) ?_
        refine r_kiteIs hR k0 ek 4 rfl hk (by decide) ?_
        refine ok_iconst (pc := 192) (v := 4) dX12_pullOf_192 (by decide) ?_
        refine ok_idiv (pc := 193) dX12_pullOf_193 (by decide) ?_
        refine ok_iadd (pc := 194) dX12_pullOf_194 ?_
        refine ok_istore13 (pc := 195) dX12_pullOf_195 (by decide) rfl ?_
        refine ok_goto (pc := 197) 217 dX12_pullOf_197 (by decide) ?_
        refine ok_iload (pc := 217) dX12_pullOf_217 rfl ?_
        refine ok_aload_n (pc := 219) dX12_pullOf_219 rfl ?_
        refine ok_iload (pc := 220) dX12_pullOf_220 rfl ?_
        refine ok_aload_n (pc := 222) dX12_pullOf_222 rfl ?_
        refine ok_iload (pc := 223) dX12_pullOf_223 rfl ?_
        refine ok_iload_n (pc := 225) dX12_pullOf_225 rfl ?_
        refine ok_callVi2 (pc := 226) (d' := 1) dX12_pullOf_226 vl_X12_136 hR.o rfl rfl rfl (by decide) ?_
        refine r_farOf hR home hill ehm eh hm9 hh ?_
        refine ok_iload_n (pc := 229) dX12_pullOf_229 rfl ?_
        refine ok_iload (pc := 230) dX12_pullOf_230 rfl ?_
        refine ok_callVi4 (pc := 232) (d' := 3) dX12_pullOf_232 vl_X12_139 hR.o rfl rfl rfl (by decide) ?_
        refine r_lifts hR hT (fun M rb hR hs => ?_)
        refine ok_iadd (pc := 235) dX12_pullOf_235 ?_
        refine ok_iret (pc := 236) dX12_pullOf_236 rfl ?_
        have e9 := k _ _ hR hs
        simpa [pullF, kdF, plF, bxF, slF, fcF, cc_78, ce_78, cc_95, ce_95, sw111_0, sw111_1, sw111_2, sw111_3, sw111_4] using e9
      by_cases sw111_5 : kf σ k0 0 = 6
      · refine ok_table (pc := 111) 200 dX12_pullOf_111 (by rw [sw111_5]; decide) (by rw [sw111_5]; decide) (by rw [sw111_5]; rfl) (by decide) ?_
        refine ok_iload (pc := 200) dX12_pullOf_200 rfl ?_
        refine ok_iload (pc := 202) dX12_pullOf_202 rfl ?_
        refine ok_bipush (pc := 204) (v := 24) dX12_pullOf_204 (by decide) ?_
        refine ok_idiv (pc := 206) dX12_pullOf_206 (by decide) ?_
        refine ok_isub (pc := 207) dX12_pullOf_207 ?_
        refine ok_istore13 (pc := 208) dX12_pullOf_208 (by decide) rfl ?_
        refine ok_goto (pc := 210) 217 dX12_pullOf_210 (by decide) ?_
        refine ok_iload (pc := 217) dX12_pullOf_217 rfl ?_
        refine ok_aload_n (pc := 219) dX12_pullOf_219 rfl ?_
        refine ok_iload (pc := 220) dX12_pullOf_220 rfl ?_
        refine ok_aload_n (pc := 222) dX12_pullOf_222 rfl ?_
        refine ok_iload (pc := 223) dX12_pullOf_223 rfl ?_
        refine ok_iload_n (pc := 225) dX12_pullOf_225 rfl ?_
        refine ok_callVi2 (pc := 226) (d' := 1) dX12_pullOf_226 vl_X12_136 hR.o rfl rfl rfl (by decide) ?_
        refine r_farOf hR home hill ehm eh hm9 hh ?_
        refine ok_iload_n (pc := 229) dX12_pullOf_229 rfl ?_
        refine ok_iload (pc := 230) dX12_pullOf_230 rfl ?_
        refine ok_callVi4 (pc := 232) (d' := 3) dX12_pullOf_232 vl_X12_139 hR.o rfl rfl rfl (by decide) ?_
        refine r_lifts hR hT (fun M rb hR hs => ?_)
        refine ok_iadd (pc := 235) dX12_pullOf_235 ?_
        refine ok_iret (pc := 236) dX12_pullOf_236 rfl ?_
        have e9 := k _ _ hR hs
        simpa [pullF, kdF, plF, bxF, slF, fcF, cc_78, ce_78, cc_95, ce_95, sw111_0, sw111_1, sw111_2, sw111_3, sw111_4, sw111_5] using e9
      refine ok_tableOut (pc := 111) 213 dX12_pullOf_111 (by have h := tab_out (1) 6 (by decide) (by decide) (fun j hj => by match j, hj with | 0, _ => exact (fun h => sw111_0 (h.trans (by decide))) | 1, _ => exact (fun h => sw111_1 (h.trans (by decide))) | 2, _ => exact (fun h => sw111_2 (h.trans (by decide))) | 3, _ => exact (fun h => sw111_3 (h.trans (by decide))) | 4, _ => exact (fun h => sw111_4 (h.trans (by decide))) | 5, _ => exact (fun h => sw111_5 (h.trans (by decide)))); exact h) (by decide) ?_
      refine ok_iload (pc := 213) dX12_pullOf_213 rfl ?_
      refine ok_istore13 (pc := 215) dX12_pullOf_215 (by decide) rfl ?_
      refine ok_iload (pc := 217) dX12_pullOf_217 rfl ?_
      refine ok_aload_n (pc := 219) dX12_pullOf_219 rfl ?_
      refine ok_iload (pc := 220) dX12_pullOf_220 rfl ?_
      refine ok_aload_n (pc := 222) dX12_pullOf_222 rfl ?_
      refine ok_iload (pc := 223) dX12_pullOf_223 rfl ?_
      refine ok_iload_n (pc := 225) dX12_pullOf_225 rfl ?_
      refine ok_callVi2 (pc := 226) (d' := 1) dX12_pullOf_226 vl_X12_136 hR.o rfl rfl rfl (by decide) ?_
      refine r_farOf hR home hill ehm eh hm9 hh ?_
      refine ok_iload_n (pc := 229) dX12_pullOf_229 rfl ?_
      refine ok_iload (pc := 230) dX12_pullOf_230 rfl ?_
      refine ok_callVi4 (pc := 232) (d' := 3) dX12_pullOf_232 vl_X12_139 hR.o rfl rfl rfl (by decide) ?_
      refine r_lifts hR hT (fun M rb hR hs => ?_)
      refine ok_iadd (pc := 235) dX12_pullOf_235 ?_
      refine ok_iret (pc := 236) dX12_pullOf_236 rfl ?_
      have e9 := k _ _ hR hs
      simpa [pullF, kdF, plF, bxF, slF, fcF, cc_78, ce_78, cc_95, ce_95, sw111_0, sw111_1, sw111_2, sw111_3, sw111_4, sw111_5] using e9
    · have ce_95 := Int32.not_lt.mp cc_95
      refine ok_iload (pc := 98) dX12_pullOf_98 rfl ?_
      refine ok_goto (pc := 100) 106 dX12_pullOf_100 (by decide) ?_
      refine ok_iadd (pc := 106) dX12_pullOf_106 ?_
      refine ok_istore12 (pc := 107) dX12_pullOf_107 (by decide) rfl ?_
      refine ok_iload (pc := 109) dX12_pullOf_109 rfl ?_
      by_cases sw111_0 : kf σ k0 0 = 1
      · refine ok_table (pc := 111) 148 dX12_pullOf_111 (by rw [sw111_0]; decide) (by rw [sw111_0]; decide) (by rw [sw111_0]; rfl) (by decide) ?_
        refine ok_iload (pc := 148) dX12_pullOf_148 rfl ?_
        refine ok_istore13 (pc := 150) dX12_pullOf_150 (by decide) rfl ?_
        refine ok_goto (pc := 152) 217 dX12_pullOf_152 (by decide) ?_
        refine ok_iload (pc := 217) dX12_pullOf_217 rfl ?_
        refine ok_aload_n (pc := 219) dX12_pullOf_219 rfl ?_
        refine ok_iload (pc := 220) dX12_pullOf_220 rfl ?_
        refine ok_aload_n (pc := 222) dX12_pullOf_222 rfl ?_
        refine ok_iload (pc := 223) dX12_pullOf_223 rfl ?_
        refine ok_iload_n (pc := 225) dX12_pullOf_225 rfl ?_
        refine ok_callVi2 (pc := 226) (d' := 1) dX12_pullOf_226 vl_X12_136 hR.o rfl rfl rfl (by decide) ?_
        refine r_farOf hR home hill ehm eh hm9 hh ?_
        refine ok_iload_n (pc := 229) dX12_pullOf_229 rfl ?_
        refine ok_iload (pc := 230) dX12_pullOf_230 rfl ?_
        refine ok_callVi4 (pc := 232) (d' := 3) dX12_pullOf_232 vl_X12_139 hR.o rfl rfl rfl (by decide) ?_
        refine r_lifts hR hT (fun M rb hR hs => ?_)
        refine ok_iadd (pc := 235) dX12_pullOf_235 ?_
        refine ok_iret (pc := 236) dX12_pullOf_236 rfl ?_
        have e9 := k _ _ hR hs
        simpa [pullF, kdF, plF, bxF, slF, fcF, cc_78, ce_78, cc_95, ce_95, sw111_0] using e9
      by_cases sw111_1 : kf σ k0 0 = 2
      · refine ok_table (pc := 111) 155 dX12_pullOf_111 (by rw [sw111_1]; decide) (by rw [sw111_1]; decide) (by rw [sw111_1]; rfl) (by decide) ?_
        refine ok_iload (pc := 155) dX12_pullOf_155 rfl ?_
        refine ok_iload (pc := 157) dX12_pullOf_157 rfl ?_
        refine ok_isub (pc := 159) dX12_pullOf_159 ?_
        refine ok_istore13 (pc := 160) dX12_pullOf_160 (by decide) rfl ?_
        refine ok_goto (pc := 162) 217 dX12_pullOf_162 (by decide) ?_
        refine ok_iload (pc := 217) dX12_pullOf_217 rfl ?_
        refine ok_aload_n (pc := 219) dX12_pullOf_219 rfl ?_
        refine ok_iload (pc := 220) dX12_pullOf_220 rfl ?_
        refine ok_aload_n (pc := 222) dX12_pullOf_222 rfl ?_
        refine ok_iload (pc := 223) dX12_pullOf_223 rfl ?_
        refine ok_iload_n (pc := 225) dX12_pullOf_225 rfl ?_
        refine ok_callVi2 (pc := 226) (d' := 1) dX12_pullOf_226 vl_X12_136 hR.o rfl rfl rfl (by decide) ?_
        refine r_farOf hR home hill ehm eh hm9 hh ?_
        refine ok_iload_n (pc := 229) dX12_pullOf_229 rfl ?_
        refine ok_iload (pc := 230) dX12_pullOf_230 rfl ?_
        refine ok_callVi4 (pc := 232) (d' := 3) dX12_pullOf_232 vl_X12_139 hR.o rfl rfl rfl (by decide) ?_
        refine r_lifts hR hT (fun M rb hR hs => ?_)
        refine ok_iadd (pc := 235) dX12_pullOf_235 ?_
        refine ok_iret (pc := 236) dX12_pullOf_236 rfl ?_
        have e9 := k _ _ hR hs
        simpa [pullF, kdF, plF, bxF, slF, fcF, cc_78, ce_78, cc_95, ce_95, sw111_0, sw111_1] using e9
      by_cases sw111_2 : kf σ k0 0 = 3
      · refine ok_table (pc := 111) 165 dX12_pullOf_111 (by rw [sw111_2]; decide) (by rw [sw111_2]; decide) (by rw [sw111_2]; rfl) (by decide) ?_
        refine ok_iload (pc := 165) dX12_pullOf_165 rfl ?_
        refine ok_istore13 (pc := 167) dX12_pullOf_167 (by decide) rfl ?_
        refine ok_goto (pc := 169) 217 dX12_pullOf_169 (by decide) ?_
        refine ok_iload (pc := 217) dX12_pullOf_217 rfl ?_
        refine ok_aload_n (pc := 219) dX12_pullOf_219 rfl ?_
        refine ok_iload (pc := 220) dX12_pullOf_220 rfl ?_
        refine ok_aload_n (pc := 222) dX12_pullOf_222 rfl ?_
        refine ok_iload (pc := 223) dX12_pullOf_223 rfl ?_
        refine ok_iload_n (pc := 225) dX12_pullOf_225 rfl ?_
        refine ok_callVi2 (pc := 226) (d' := 1) dX12_pullOf_226 vl_X12_136 hR.o rfl rfl rfl (by decide) ?_
        refine r_farOf hR home hill ehm eh hm9 hh ?_
        refine ok_iload_n (pc := 229) dX12_pullOf_229 rfl ?_
        refine ok_iload (pc := 230) dX12_pullOf_230 rfl ?_
        refine ok_callVi4 (pc := 232) (d' := 3) dX12_pullOf_232 vl_X12_139 hR.o rfl rfl rfl (by decide) ?_
        refine r_lifts hR hT (fun M rb hR hs => ?_)
        refine ok_iadd (pc := 235) dX12_pullOf_235 ?_
        refine ok_iret (pc := 236) dX12_pullOf_236 rfl ?_
        have e9 := k _ _ hR hs
        simpa [pullF, kdF, plF, bxF, slF, fcF, cc_78, ce_78, cc_95, ce_95, sw111_0, sw111_1, sw111_2] using e9
      by_cases sw111_3 : kf σ k0 0 = 4
      · refine ok_table (pc := 111) 172 dX12_pullOf_111 (by rw [sw111_3]; decide) (by rw [sw111_3]; decide) (by rw [sw111_3]; rfl) (by decide) ?_
        refine ok_iconst (pc := 172) (v := 2) dX12_pullOf_172 (by decide) ?_
        refine ok_iload (pc := 173) dX12_pullOf_173 rfl ?_
        refine ok_imul (pc := 175) dX12_pullOf_175 ?_
        refine ok_istore13 (pc := 176) dX12_pullOf_176 (by decide) rfl ?_
        refine ok_goto (pc := 178) 217 dX12_pullOf_178 (by decide) ?_
        refine ok_iload (pc := 217) dX12_pullOf_217 rfl ?_
        refine ok_aload_n (pc := 219) dX12_pullOf_219 rfl ?_
        refine ok_iload (pc := 220) dX12_pullOf_220 rfl ?_
        refine ok_aload_n (pc := 222) dX12_pullOf_222 rfl ?_
        refine ok_iload (pc := 223) dX12_pullOf_223 rfl ?_
        refine ok_iload_n (pc := 225) dX12_pullOf_225 rfl ?_
        refine ok_callVi2 (pc := 226) (d' := 1) dX12_pullOf_226 vl_X12_136 hR.o rfl rfl rfl (by decide) ?_
        refine r_farOf hR home hill ehm eh hm9 hh ?_
        refine ok_iload_n (pc := 229) dX12_pullOf_229 rfl ?_
        refine ok_iload (pc := 230) dX12_pullOf_230 rfl ?_
        refine ok_callVi4 (pc := 232) (d' := 3) dX12_pullOf_232 vl_X12_139 hR.o rfl rfl rfl (by decide) ?_
        refine r_lifts hR hT (fun M rb hR hs => ?_)
        refine ok_iadd (pc := 235) dX12_pullOf_235 ?_
        refine ok_iret (pc := 236) dX12_pullOf_236 rfl ?_
        have e9 := k _ _ hR hs
        simpa [pullF, kdF, plF, bxF, slF, fcF, cc_78, ce_78, cc_95, ce_95, sw111_0, sw111_1, sw111_2, sw111_3] using e9
      by_cases sw111_4 : kf σ k0 0 = 5
      · refine ok_table (pc := 111) 181 dX12_pullOf_111 (by rw [sw111_4]; decide) (by rw [sw111_4]; decide) (by rw [sw111_4]; rfl) (by decide) ?_
        refine ok_iload (pc := 181) dX12_pullOf_181 rfl ?_
        refine ok_iload (pc := 183) dX12_pullOf_183 rfl ?_
        refine ok_isub (pc := 185) dX12_pullOf_185 ?_
        refine ok_aload_n (pc := 186) dX12_pullOf_186 rfl ?_
        refine ok_iload_n (pc := 187) dX12_pullOf_187 rfl ?_
        refine ok_iconst (pc := 188) (v := 4) dX12_pullOf_188 (by decide) ?_
        refine ok_callVi2 (pc := 189) (d' := 0) dX12_pullOf_189 vl_X12_117 hR.o rfl rfl rfl (by decide) ?_
        refine r_kiteIs hR k0 ek 4 rfl hk (by decide) ?_
        refine ok_iconst (pc := 192) (v := 4) dX12_pullOf_192 (by decide) ?_
        refine ok_idiv (pc := 193) dX12_pullOf_193 (by decide) ?_
        refine ok_iadd (pc := 194) dX12_pullOf_194 ?_
        refine ok_istore13 (pc := 195) dX12_pullOf_195 (by decide) rfl ?_
        refine ok_goto (pc := 197) 217 dX12_pullOf_197 (by decide) ?_
        refine ok_iload (pc := 217) dX12_pullOf_217 rfl ?_
        refine ok_aload_n (pc := 219) dX12_pullOf_219 rfl ?_
        refine ok_iload (pc := 220) dX12_pullOf_220 rfl ?_
        refine ok_aload_n (pc := 222) dX12_pullOf_222 rfl ?_
        refine ok_iload (pc := 223) dX12_pullOf_223 rfl ?_
        refine ok_iload_n (pc := 225) dX12_pullOf_225 rfl ?_
        refine ok_callVi2 (pc := 226) (d' := 1) dX12_pullOf_226 vl_X12_136 hR.o rfl rfl rfl (by decide) ?_
        refine r_farOf hR home hill ehm eh hm9 hh ?_
        refine ok_iload_n (pc := 229) dX12_pullOf_229 rfl ?_
        refine ok_iload (pc := 230) dX12_pullOf_230 rfl ?_
        refine ok_callVi4 (pc := 232) (d' := 3) dX12_pullOf_232 vl_X12_139 hR.o rfl rfl rfl (by decide) ?_
        refine r_lifts hR hT (fun M rb hR hs => ?_)
        refine ok_iadd (pc := 235) dX12_pullOf_235 ?_
        refine ok_iret (pc := 236) dX12_pullOf_236 rfl ?_
        have e9 := k _ _ hR hs
        simpa [pullF, kdF, plF, bxF, slF, fcF, cc_78, ce_78, cc_95, ce_95, sw111_0, sw111_1, sw111_2, sw111_3, sw111_4] using e9
      by_cases sw111_5 : kf σ k0 0 = 6
      · refine ok_table (pc := 111) 200 dX12_pullOf_111 (by rw [sw111_5]; decide) (by rw [sw111_5]; decide) (by rw [sw111_5]; rfl) (by decide) ?_
        refine ok_iload (pc := 200) dX12_pullOf_200 rfl ?_
        refine ok_iload (pc := 202) dX12_pullOf_202 rfl ?_
        refine ok_bipush (pc := 204) (v := 24) dX12_pullOf_204 (by decide) ?_
        refine ok_idiv (pc := 206) dX12_pullOf_206 (by decide) ?_
        refine ok_isub (pc := 207) dX12_pullOf_207 ?_
        refine ok_istore13 (pc := 208) dX12_pullOf_208 (by decide) rfl ?_
        refine ok_goto (pc := 210) 217 dX12_pullOf_210 (by decide) ?_
        refine ok_iload (pc := 217) dX12_pullOf_217 rfl ?_
        refine ok_aload_n (pc := 219) dX12_pullOf_219 rfl ?_
        refine ok_iload (pc := 220) dX12_pullOf_220 rfl ?_
        refine ok_aload_n (pc := 222) dX12_pullOf_222 rfl ?_
        refine ok_iload (pc := 223) dX12_pullOf_223 rfl ?_
        refine ok_iload_n (pc := 225) dX12_pullOf_225 rfl ?_
        refine ok_callVi2 (pc := 226) (d' := 1) dX12_pullOf_226 vl_X12_136 hR.o rfl rfl rfl (by decide) ?_
        refine r_farOf hR home hill ehm eh hm9 hh ?_
        refine ok_iload_n (pc := 229) dX12_pullOf_229 rfl ?_
        refine ok_iload (pc := 230) dX12_pullOf_230 rfl ?_
        refine ok_callVi4 (pc := 232) (d' := 3) dX12_pullOf_232 vl_X12_139 hR.o rfl rfl rfl (by decide) ?_
        refine r_lifts hR hT (fun M rb hR hs => ?_)
        refine ok_iadd (pc := 235) dX12_pullOf_235 ?_
        refine ok_iret (pc := 236) dX12_pullOf_236 rfl ?_
        have e9 := k _ _ hR hs
        simpa [pullF, kdF, plF, bxF, slF, fcF, cc_78, ce_78, cc_95, ce_95, sw111_0, sw111_1, sw111_2, sw111_3, sw111_4, sw111_5] using e9
      refine ok_tableOut (pc := 111) 213 dX12_pullOf_111 (by have h := tab_out (1) 6 (by decide) (by decide) (fun j hj => by match j, hj with | 0, _ => exact (fun h => sw111_0 (h.trans (by decide))) | 1, _ => exact (fun h => sw111_1 (h.trans (by decide))) | 2, _ => exact (fun h => sw111_2 (h.trans (by decide))) | 3, _ => exact (fun h => sw111_3 (h.trans (by decide))) | 4, _ => exact (fun h => sw111_4 (h.trans (by decide))) | 5, _ => exact (fun h => sw111_5 (h.trans (by decide)))); exact h) (by decide) ?_
      refine ok_iload (pc := 213) dX12_pullOf_213 rfl ?_
      refine ok_istore13 (pc := 215) dX12_pullOf_215 (by decide) rfl ?_
      refine ok_iload (pc := 217) dX12_pullOf_217 rfl ?_
      refine ok_aload_n (pc := 219) dX12_pullOf_219 rfl ?_
      refine ok_iload (pc := 220) dX12_pullOf_220 rfl ?_
      refine ok_aload_n (pc := 222) dX12_pullOf_222 rfl ?_
      refine ok_iload (pc := 223) dX12_pullOf_223 rfl ?_
      refine ok_iload_n (pc := 225) dX12_pullOf_225 rfl ?_
      refine ok_callVi2 (pc := 226) (d' := 1) dX12_pullOf_226 vl_X12_136 hR.o rfl rfl rfl (by decide) ?_
      refine r_farOf hR home hill ehm eh hm9 hh ?_
      refine ok_iload_n (pc := 229) dX12_pullOf_229 rfl ?_
      refine ok_iload (pc := 230) dX12_pullOf_230 rfl ?_
      refine ok_callVi4 (pc := 232) (d' := 3) dX12_pullOf_232 vl_X12_139 hR.o rfl rfl rfl (by decide) ?_
      refine r_lifts hR hT (fun M rb hR hs => ?_)
      refine ok_iadd (pc := 235) dX12_pullOf_235 ?_
      refine ok_iret (pc := 236) dX12_pullOf_236 rfl ?_
      have e9 := k _ _ hR hs
      simpa [pullF, kdF, plF, bxF, slF, fcF, cc_78, ce_78, cc_95, ce_95, sw111_0, sw111_1, sw111_2, sw111_3, sw111_4, sw111_5] using e9
