set_option maxHeartbeats 1000000 in
theorem l_nameOf {Γ : Cx} {m sz : Nat} {M0 M : Nat → Option va_E} {σ κ : Rw} {ri : Rw} {ra : Nat → Rw} {u op : Nat} {s : Ps} (hP : RefP Γ m M0 σ κ ri ra u op s M) {K : Int32 → Wd → Prop} (hu : u < 2) {c : Int32} (k : K (nmF u c) (M, sz)) : ∀ (n : Nat) (j : Nat) (xf : Int32) (xj : Int32), j + n = sLen u → xj = nI j → xf = nfA u c j → Ok Γ mX12_nameOf 4 0 4 [some (.ref m), some (.int c), some (.int xf), some (.int xj)] [] (M, sz) (ci K) := by
  have hnm : va_rf (namedR Γ u) = .ref (sK Γ u) := by rcases (show u = 0 ∨ u = 1 by omega) with rfl | rfl <;> rfl
  have hu7 : u < 7 := by omega
  have h5 := (sLen_lt u hu7).1
  obtain ⟨fc, hfc, hR⟩ := hP
  intro n
  induction n with
  | zero =>
    intro j xf xj h1 ej ef
    refine ok_iload_n (pc := 4) dX12_nameOf_4 rfl ?_
    refine ok_aload_n (pc := 5) dX12_nameOf_5 rfl ?_
    refine ok_getf (pc := 6) dX12_nameOf_6 fl_X12_34 hR.o rfl ?_
    refine ok_aload_n (pc := 9) dX12_nameOf_9 rfl ?_
    refine ok_getf (pc := 10) dX12_nameOf_10 fl_X12_201 hR.o rfl ?_
    rw [pr_10]
    refine ok_aald (pc := 13) (t := 3) u dX12_nameOf_13 hR.a7 rfl rfl (by omega) (by decide) ?_
    rw [hnm]
    refine ok_callT0 (pc := 14) (d' := 1) hu7 rfl dX12_nameOf_14 vl_X12_204 rfl (by decide) ?_
    refine s_length hu7 ?_
    refine ok_icmp_ge (pc := 17) 49 dX12_nameOf_17 (by decide) (fun cc_17 => ?_) (fun cc_17 => ?_)
    · have ce_17 := Int32.not_lt.mpr cc_17
      have e9 : j = sLen u := by omega
      subst e9
      rw [ef]
      refine ok_iload_n (pc := 49) dX12_nameOf_49 rfl ?_
      refine ok_iret (pc := 50) dX12_nameOf_50 rfl ?_
      exact k
    · exact absurd (by rw [ej]; exact nI_le (by omega) (by omega)) cc_17
  | succ n ih =>
    intro j xf xj h1 ej ef
    refine ok_iload_n (pc := 4) dX12_nameOf_4 rfl ?_
    refine ok_aload_n (pc := 5) dX12_nameOf_5 rfl ?_
    refine ok_getf (pc := 6) dX12_nameOf_6 fl_X12_34 hR.o rfl ?_
    refine ok_aload_n (pc := 9) dX12_nameOf_9 rfl ?_
    refine ok_getf (pc := 10) dX12_nameOf_10 fl_X12_201 hR.o rfl ?_
    rw [pr_10]
    refine ok_aald (pc := 13) (t := 3) u dX12_nameOf_13 hR.a7 rfl rfl (by omega) (by decide) ?_
    rw [hnm]
    refine ok_callT0 (pc := 14) (d' := 1) hu7 rfl dX12_nameOf_14 vl_X12_204 rfl (by decide) ?_
    refine s_length hu7 ?_
    refine ok_icmp_ge (pc := 17) 49 dX12_nameOf_17 (by decide) (fun cc_17 => ?_) (fun cc_17 => ?_)
    · rw [ej] at cc_17
      exact absurd cc_17 (nI_ge (by omega) (by omega))
    · have ce_17 := Int32.not_le.mp cc_17
      refine ok_aload_n (pc := 20) dX12_nameOf_20 rfl ?_
      refine ok_getf (pc := 21) dX12_nameOf_21 fl_X12_34 hR.o rfl ?_
      refine ok_aload_n (pc := 24) dX12_nameOf_24 rfl ?_
      refine ok_getf (pc := 25) dX12_nameOf_25 fl_X12_201 hR.o rfl ?_
      rw [pr_10]
      refine ok_aald (pc := 28) (t := 3) u dX12_nameOf_28 hR.a7 rfl rfl (by omega) (by decide) ?_
      rw [hnm]
      refine ok_iload_n (pc := 29) dX12_nameOf_29 rfl ?_
      refine ok_callT1 (pc := 30) (d' := 3) hu7 rfl dX12_nameOf_30 vl_X12_207 rfl (by decide) ?_
      refine s_charAt hu7 j ej (by omega) ?_
      refine ok_iload_n (pc := 33) dX12_nameOf_33 rfl ?_
      refine ok_icmp_ne (pc := 34) 41 dX12_nameOf_34 (by decide) (fun cc_34 => ?_) (fun cc_34 => ?_)
      · have enx : nfA u c (j + 1) = nfA u c j := if_neg cc_34
        refine ok_iload_n (pc := 41) dX12_nameOf_41 rfl ?_
        refine ok_istore_n2 (pc := 42) dX12_nameOf_42 (by decide) rfl ?_
        refine ok_iinc3 (pc := 43) (v := 1) dX12_nameOf_43 (by decide) (by decide) rfl ?_
        refine ok_goto (pc := 46) 4 dX12_nameOf_46 (by decide) ?_
        exact ih (j + 1) _ _ (by omega) (by rw [ej, nI_1]) (by rw [enx]; first | exact ef | exact ej)
      · have enx : nfA u c (j + 1) = nI j := if_pos cc_34
        refine ok_iload_n (pc := 37) dX12_nameOf_37 rfl ?_
        refine ok_goto (pc := 38) 42 dX12_nameOf_38 (by decide) ?_
        refine ok_istore_n2 (pc := 42) dX12_nameOf_42 (by decide) rfl ?_
        refine ok_iinc3 (pc := 43) (v := 1) dX12_nameOf_43 (by decide) (by decide) rfl ?_
        refine ok_goto (pc := 46) 4 dX12_nameOf_46 (by decide) ?_
        exact ih (j + 1) _ _ (by omega) (by rw [ej, nI_1]) (by rw [enx]; first | exact ef | exact ej)

set_option maxHeartbeats 1000000 in
theorem r_nameOf {Γ : Cx} {m sz : Nat} {M0 M : Nat → Option va_E} {σ κ : Rw} {ri : Rw} {ra : Nat → Rw} {u op : Nat} {s : Ps} (hP : RefP Γ m M0 σ κ ri ra u op s M) {K : Int32 → Wd → Prop} (hu : u < 2) {c : Int32} (k : K (nmF u c) (M, sz)) : Spec Γ mX12_nameOf 4 0 [.ref m, .int c] (M, sz) (ci K) := by
  refine spec_in [some (.ref m), some (.int c), none, none] 2 (by decide) rfl rfl ?_
  refine ok_iconst (pc := 0) (v := -1) dX12_nameOf_0 (by decide) ?_
  refine ok_istore_n2 (pc := 1) dX12_nameOf_1 (by decide) rfl ?_
  refine ok_iconst (pc := 2) (v := 0) dX12_nameOf_2 (by decide) ?_
  refine ok_istore_n3 (pc := 3) dX12_nameOf_3 (by decide) rfl ?_
  exact l_nameOf hP hu k (sLen u) 0 _ _ (by omega) rfl rfl

set_option maxHeartbeats 1000000 in
theorem l_one67 {Γ : Cx} {m sz : Nat} {M0 M : Nat → Option va_E} {σ κ : Rw} {ri : Rw} {ra : Nat → Rw} {u op tn d9 : Nat} {q : Ps → Ps} {s : Ps} {K : Wd → Prop} {c : Int32} (e6 : σ 6 = nI tn) (ht : tn ≤ 50) (hq : HQ Γ m sz M0 σ κ ri ra u (op + 1) tn mX12_one d9 q) (hm : MqP tn q) (hlt : s.1 < tn) (hc : s.2.2.1 ≤ s.1) (hP : RefP Γ m M0 σ κ ri ra u (op + 1) (adF s) M) (k : ∀ M', RefP Γ m M0 σ κ ri ra u op (emF (q (adF s)) 20010) M' → K (M', sz)) : Ok Γ mX12_one (d9 + 12) 0 67 [some (.ref m), some (.int c), none, none] [] (M, sz) (cv K) := by
  obtain ⟨fc, hfc, hR⟩ := id hP
  refine ok_aload_n (pc := 67) dX12_one_67 rfl ?_
  refine ok_callVv0 (pc := 68) (d' := d9) dX12_one_68 vl_X12_198 hR.o rfl rfl rfl (by omega) ?_
  refine hq (adF s) _ _ hlt (Nat.le_succ_of_le hc) hP (fun M hP => ?_)
  obtain ⟨fc, hfc, hR⟩ := id hP
  refine ok_aload_n (pc := 71) dX12_one_71 rfl ?_
  refine ok_sipush (pc := 72) (v := 20010) dX12_one_72 (by decide) ?_
  refine ok_callVv1 (pc := 75) (d' := 0) dX12_one_75 vl_X12_185 hR.o rfl rfl rfl (by omega) ?_
  refine r_codes hP (by have h9 := (hm (adF s) hlt).cd (Nat.le_succ_of_le hc); have h8 := (hm (adF s) hlt).2.2; omega) (fun M hP => ?_)
  obtain ⟨fc, hfc, hR⟩ := id hP
  refine ok_goto (pc := 78) 103 dX12_one_78 (by decide) ?_
  refine ok_aload_n (pc := 103) dX12_one_103 rfl ?_
  refine ok_dup (pc := 104) dX12_one_104 rfl ?_
  refine ok_getf (pc := 105) dX12_one_105 fl_X12_211 hR.o rfl ?_
  rw [pr_9]
  refine ok_iconst (pc := 108) (v := 1) dX12_one_108 (by decide) ?_
  refine ok_isub (pc := 109) dX12_one_109 ?_
  rw [nI_pred]
  refine ok_rpt9 (pc := 110) dX12_one_110 pl_X12_211 hR (fun M hR => ?_)
  rw [pw_9] at hR
  refine ok_goto (pc := 113) 247 dX12_one_113 (by decide) ?_
  refine ok_vret (pc := 247) dX12_one_247 rfl ?_
  exact k _ ⟨fc, hfc, hR⟩

set_option maxHeartbeats 1000000 in
theorem l_one81 {Γ : Cx} {m sz : Nat} {M0 M : Nat → Option va_E} {σ κ : Rw} {ri : Rw} {ra : Nat → Rw} {u op tn d9 : Nat} {s : Ps} {K : Wd → Prop} {c : Int32} (e6 : σ 6 = nI tn) (ht : tn ≤ 50) {q5 : Ps → Ps} (hE : HQ Γ m sz M0 σ κ ri ra u (op + 1) tn mX12_either (d9 + 10) q5) (hm : MqP tn q5) (hlt : s.1 < tn) (hc : s.2.2.1 ≤ s.1) (hP : RefP Γ m M0 σ κ ri ra u (op + 1) (adF s) M) (k : ∀ M', RefP Γ m M0 σ κ ri ra u op (clF σ (q5 (adF s))) M' → K (M', sz)) : Ok Γ mX12_one (d9 + 12) 0 81 [some (.ref m), some (.int c), none, none] [] (M, sz) (cv K) := by
  obtain ⟨fc, hfc, hR⟩ := id hP
  refine ok_aload_n (pc := 81) dX12_one_81 rfl ?_
  refine ok_callVv0 (pc := 82) (d' := (d9 + 10)) dX12_one_82 vl_X12_214 hR.o rfl rfl rfl (by omega) ?_
  refine hE (adF s) _ _ hlt (Nat.le_succ_of_le hc) hP (fun M hP => ?_)
  have m5 := hm (adF s) hlt
  obtain ⟨fc, hfc, hR⟩ := id hP
  refine ok_aload_n (pc := 85) dX12_one_85 rfl ?_
  refine ok_aload_n (pc := 86) dX12_one_86 rfl ?_
  refine ok_bipush (pc := 87) (v := 41) dX12_one_87 (by decide) ?_
  refine ok_callVi1 (pc := 89) (d' := 1) dX12_one_89 vl_X12_182 hR.o rfl rfl rfl (by omega) ?_
  refine r_takes hP tn e6 ht m5.2.2 (by decide) (fun M hP => ?_)
  obtain ⟨fc, hfc, hR⟩ := id hP
  refine ok_if_ne (pc := 92) 99 dX12_one_92 (by decide) (fun cc_92 => ?_) (fun cc_92 => ?_)
  · have cq_92 := bI_n0.mp cc_92
    have hn : hdF σ (q5 (adF s)) = 41 := of_decide_eq_true cq_92
    have e9 : clF σ (q5 (adF s)) = adF (q5 (adF s)) := if_pos hn
    rw [e9] at k
    rw [if_pos hn] at hR hfc
    refine ok_iconst (pc := 99) (v := 0) dX12_one_99 (by decide) ?_
    refine ok_rpt11 (pc := 100) dX12_one_100 pl_X12_164 hR (by first | exact Or.inl rfl | exact Or.inr rfl) (fun M hR => ?_)
    first
      | rw [show (0 : Int32) = bI false from rfl, pw_11] at hR
      | rw [show (1 : Int32) = bI true from rfl, pw_11] at hR
    refine ok_aload_n (pc := 103) dX12_one_103 rfl ?_
    refine ok_dup (pc := 104) dX12_one_104 rfl ?_
    refine ok_getf (pc := 105) dX12_one_105 fl_X12_211 hR.o rfl ?_
    rw [pr_9]
    refine ok_iconst (pc := 108) (v := 1) dX12_one_108 (by decide) ?_
    refine ok_isub (pc := 109) dX12_one_109 ?_
    rw [nI_pred]
    refine ok_rpt9 (pc := 110) dX12_one_110 pl_X12_211 hR (fun M hR => ?_)
    rw [pw_9] at hR
    refine ok_goto (pc := 113) 247 dX12_one_113 (by decide) ?_
    refine ok_vret (pc := 247) dX12_one_247 rfl ?_
    first
      | (have h9 := (hd_in e6 ht m5.2.2 (by rw [hn]; decide)).1
         have e8 : (((adF (q5 (adF s))).1, false, (adF (q5 (adF s))).2.2) : Ps) = adF (q5 (adF s)) := Prod.ext rfl (Prod.ext h9.symm rfl)
         rw [e8] at hR
         exact k _ ⟨fc, hfc, hR⟩)
      | exact k _ ⟨fc, hfc, hR⟩
  · have cq_92 := bI_0.mp cc_92
    have hn : ¬ hdF σ (q5 (adF s)) = 41 := of_decide_eq_false cq_92
    have e9 : clF σ (q5 (adF s)) = wrF (q5 (adF s)) := if_neg hn
    rw [e9] at k
    rw [if_neg hn] at hR hfc
    refine ok_iconst (pc := 95) (v := 1) dX12_one_95 (by decide) ?_
    refine ok_goto (pc := 96) 100 dX12_one_96 (by decide) ?_
    refine ok_rpt11 (pc := 100) dX12_one_100 pl_X12_164 hR (by first | exact Or.inl rfl | exact Or.inr rfl) (fun M hR => ?_)
    first
      | rw [show (0 : Int32) = bI false from rfl, pw_11] at hR
      | rw [show (1 : Int32) = bI true from rfl, pw_11] at hR
    refine ok_aload_n (pc := 103) dX12_one_103 rfl ?_
    refine ok_dup (pc := 104) dX12_one_104 rfl ?_
    refine ok_getf (pc := 105) dX12_one_105 fl_X12_211 hR.o rfl ?_
    rw [pr_9]
    refine ok_iconst (pc := 108) (v := 1) dX12_one_108 (by decide) ?_
    refine ok_isub (pc := 109) dX12_one_109 ?_
    rw [nI_pred]
    refine ok_rpt9 (pc := 110) dX12_one_110 pl_X12_211 hR (fun M hR => ?_)
    rw [pw_9] at hR
    refine ok_goto (pc := 113) 247 dX12_one_113 (by decide) ?_
    refine ok_vret (pc := 247) dX12_one_247 rfl ?_
    first
      | (have h9 := (hd_in e6 ht m5.2.2 (by rw [hn]; decide)).1
         have e8 : (((adF (q5 (adF s))).1, false, (adF (q5 (adF s))).2.2) : Ps) = adF (q5 (adF s)) := Prod.ext rfl (Prod.ext h9.symm rfl)
         rw [e8] at hR
         exact k _ ⟨fc, hfc, hR⟩)
      | exact k _ ⟨fc, hfc, hR⟩

set_option maxHeartbeats 1000000 in
theorem l_one228 {Γ : Cx} {m sz : Nat} {M0 M : Nat → Option va_E} {σ κ : Rw} {ri : Rw} {ra : Nat → Rw} {u op tn : Nat} {s : Ps} {K : Wd → Prop} {c : Int32} (e6 : σ 6 = nI tn) (ht : tn ≤ 50) {nm : Int32} {dd : Nat} (hdd : 5 ≤ dd) (hsw : s.2.1 = false) (hn : s.2.2.1 < 60) (hP : RefP Γ m M0 σ κ ri ra u op s M) (k : ∀ M', RefP Γ m M0 σ κ ri ra u op (adF (emF s (10000 + nm))) M' → K (M', sz)) : Ok Γ mX12_one dd 0 228 [some (.ref m), some (.int c), some (.int nm), none] [] (M, sz) (cv K) := by
  obtain ⟨fc, hfc, hR⟩ := id hP
  refine ok_aload_n (pc := 228) dX12_one_228 rfl ?_
  refine ok_sipush (pc := 229) (v := 10000) dX12_one_229 (by decide) ?_
  refine ok_iload_n (pc := 232) dX12_one_232 rfl ?_
  refine ok_iadd (pc := 233) dX12_one_233 ?_
  refine ok_callVv1 (pc := 234) (d' := 0) dX12_one_234 vl_X12_185 hR.o rfl rfl rfl (by omega) ?_
  refine r_codes hP hn (fun M hP => ?_)
  obtain ⟨fc, hfc, hR⟩ := id hP
  refine ok_aload_n (pc := 237) dX12_one_237 rfl ?_
  refine ok_dup (pc := 238) dX12_one_238 rfl ?_
  refine ok_getf (pc := 239) dX12_one_239 fl_X12_168 hR.o rfl ?_
  rw [pr_8]
  refine ok_iconst (pc := 242) (v := 1) dX12_one_242 (by decide) ?_
  refine ok_iadd (pc := 243) dX12_one_243 ?_
  refine ok_rpt8 (pc := 244) dX12_one_244 pl_X12_168 hR (fun M hR => ?_)
  rw [nI_1, pw_8] at hR
  refine ok_vret (pc := 247) dX12_one_247 rfl ?_
  exact k _ ⟨fc, hfc, hR⟩

set_option maxHeartbeats 1000000 in
theorem l_one131 {Γ : Cx} {m sz : Nat} {M0 : Nat → Option va_E} {σ κ : Rw} {ri : Rw} {ra : Nat → Rw} {u op : Nat} {K : Wd → Prop} {c : Int32} {dd : Nat} (hdd : 5 ≤ dd) (tn : Nat) (e6 : σ 6 = nI tn) (ht : tn ≤ 50) (R9 : Int32 × Ps) (h60 : R9.2.2.2.1 < 60) (k : ∀ M', RefP Γ m M0 σ κ ri ra u op (emF R9.2 R9.1) M' → K (M', sz)) : ∀ (n : Nat) (j : Nat) (s : Ps) (v : Int32) (xj : Int32) (M : Nat → Option va_E), j + n = 4 → xj = nI j → s.1 ≤ tn → RefP Γ m M0 σ κ ri ra u op s M → dgF σ n v s = R9 → Ok Γ mX12_one dd 0 131 [some (.ref m), some (.int c), some (.int v), some (.int xj)] [] (M, sz) (cv K) := by
  intro n
  induction n with
  | zero =>
    intro j s v xj M h1 ej hs hP hA
    obtain ⟨fc, hfc, hR⟩ := id hP
    refine ok_iload_n (pc := 131) dX12_one_131 rfl ?_
    refine ok_iconst (pc := 132) (v := 4) dX12_one_132 (by decide) ?_
    refine ok_icmp_ge (pc := 133) 179 dX12_one_133 (by decide) (fun cc_133 => ?_) (fun cc_133 => ?_)
    · have ce_133 := Int32.not_lt.mpr cc_133
      have hA9 : (v, s) = R9 := hA
      refine ok_aload_n (pc := 179) dX12_one_179 rfl ?_
      refine ok_iload_n (pc := 180) dX12_one_180 rfl ?_
      refine ok_callVv1 (pc := 181) (d' := 0) dX12_one_181 vl_X12_185 hR.o rfl rfl rfl (by omega) ?_
      refine r_codes hP (by rw [← hA9] at h60; exact h60) (fun M hP => ?_)
      refine ok_goto (pc := 184) 247 dX12_one_184 (by decide) ?_
      refine ok_vret (pc := 247) dX12_one_247 rfl ?_
      rw [← hA9] at k
      exact k _ hP
    · exact absurd (by rw [ej]; exact nI_le (a := 4) (by omega) (by omega)) cc_133
  | succ n ih =>
    intro j s v xj M h1 ej hs hP hA
    obtain ⟨fc, hfc, hR⟩ := id hP
    refine ok_iload_n (pc := 131) dX12_one_131 rfl ?_
    refine ok_iconst (pc := 132) (v := 4) dX12_one_132 (by decide) ?_
    refine ok_icmp_ge (pc := 133) 179 dX12_one_133 (by decide) (fun cc_133 => ?_) (fun cc_133 => ?_)
    · rw [ej] at cc_133
      exact absurd cc_133 (nI_ge (b := 4) (by omega) (by decide))
    · have ce_133 := Int32.not_le.mp cc_133
      refine ok_aload_n (pc := 136) dX12_one_136 rfl ?_
      refine ok_callVi0 (pc := 137) (d' := 0) dX12_one_137 vl_X12_172 hR.o rfl rfl rfl (by omega) ?_
      refine r_here hP tn e6 ht hs ?_
      refine ok_bipush (pc := 140) (v := 48) dX12_one_140 (by decide) ?_
      refine ok_bipush (pc := 142) (v := 57) dX12_one_142 (by decide) ?_
      refine ok_callSi3 (pc := 144) (d' := 0) dX12_one_144 sl_X12_75 rfl (by omega) ?_
      refine r_within ?_
      refine ok_if_eq (pc := 147) 179 dX12_one_147 (by decide) (fun cc_147 => ?_) (fun cc_147 => ?_)
      · have cq_147 := bI_0.mp cc_147
        have hA9 : (v, s) = R9 := by rw [← hA]; exact (if_neg (by rw [cq_147]; decide)).symm
        refine ok_aload_n (pc := 179) dX12_one_179 rfl ?_
        refine ok_iload_n (pc := 180) dX12_one_180 rfl ?_
        refine ok_callVv1 (pc := 181) (d' := 0) dX12_one_181 vl_X12_185 hR.o rfl rfl rfl (by omega) ?_
        refine r_codes hP (by rw [← hA9] at h60; exact h60) (fun M hP => ?_)
        refine ok_goto (pc := 184) 247 dX12_one_184 (by decide) ?_
        refine ok_vret (pc := 247) dX12_one_247 rfl ?_
        rw [← hA9] at k
        exact k _ hP
      · have cq_147 := bI_n0.mp cc_147
        have hA9 : dgF σ n (10 * v + hdF σ s - 48) (adF s) = R9 := by rw [← hA]; exact (if_pos cq_147).symm
        obtain ⟨-, hlt, -⟩ := hd_in e6 ht hs (wi_pos cq_147)
        refine ok_bipush (pc := 150) (v := 10) dX12_one_150 (by decide) ?_
        refine ok_iload_n (pc := 152) dX12_one_152 rfl ?_
        refine ok_imul (pc := 153) dX12_one_153 ?_
        refine ok_aload_n (pc := 154) dX12_one_154 rfl ?_
        refine ok_callVi0 (pc := 155) (d' := 0) dX12_one_155 vl_X12_172 hR.o rfl rfl rfl (by omega) ?_
        refine r_here hP tn e6 ht hs ?_
        refine ok_iadd (pc := 158) dX12_one_158 ?_
        refine ok_bipush (pc := 159) (v := 48) dX12_one_159 (by decide) ?_
        refine ok_isub (pc := 161) dX12_one_161 ?_
        refine ok_istore_n2 (pc := 162) dX12_one_162 (by decide) rfl ?_
        refine ok_aload_n (pc := 163) dX12_one_163 rfl ?_
        refine ok_dup (pc := 164) dX12_one_164 rfl ?_
        refine ok_getf (pc := 165) dX12_one_165 fl_X12_168 hR.o rfl ?_
        rw [pr_8]
        refine ok_iconst (pc := 168) (v := 1) dX12_one_168 (by decide) ?_
        refine ok_iadd (pc := 169) dX12_one_169 ?_
        refine ok_rpt8 (pc := 170) dX12_one_170 pl_X12_168 hR (fun M hR => ?_)
        rw [nI_1, pw_8] at hR
        refine ok_iinc3 (pc := 173) (v := 1) dX12_one_173 (by decide) (by decide) rfl ?_
        refine ok_goto (pc := 176) 131 dX12_one_176 (by decide) ?_
        exact ih (j + 1) (adF s) _ _ _ (by omega) (by rw [ej, nI_1]) hlt ⟨fc, hfc, hR⟩ hA9

set_option maxHeartbeats 1000000 in
theorem r_one {Γ : Cx} {m sz : Nat} {M0 : Nat → Option va_E} {σ κ : Rw} {ri : Rw} {ra : Nat → Rw} {u tn : Nat} (hu : u < 2) (e6 : σ 6 = nI tn) (ht : tn ≤ 50) : ∀ (o op : Nat), op + o = 5 → HQ Γ m sz M0 σ κ ri ra u op tn mX12_one (5 + 12 * o) (ptF σ u o) := by
  intro o
  induction o with
  | zero =>
    intro op hop s M K hs hc hP k
    obtain ⟨fc, hfc, hR⟩ := id hP
    refine spec_in [some (.ref m), none, none, none] 3 (by decide) rfl rfl ?_
    refine ok_aload_n (pc := 0) dX12_one_0 rfl ?_
    refine ok_callVi0 (pc := 1) (d' := 0) dX12_one_1 vl_X12_172 hR.o rfl rfl rfl (by omega) ?_
    refine r_here hP tn e6 ht hs ?_
    refine ok_istore_n1 (pc := 4) dX12_one_4 (by decide) rfl ?_
    refine ok_iload_n (pc := 5) dX12_one_5 rfl ?_
    refine ok_bipush (pc := 6) (v := 33) dX12_one_6 (by decide) ?_
    refine ok_icmp_eq (pc := 8) 17 dX12_one_8 (by decide) (fun cc_8 => ?_) (fun cc_8 => ?_)
    · have hpc : (hdF σ s = 33 ∨ hdF σ s = 40) := by first | exact Or.inl cc_8 | exact Or.inr cc_14
      have hne : hdF σ s ≠ -1 := fun e => by rw [e] at hpc; exact absurd hpc (by decide)
      obtain ⟨hw9, hlt, -⟩ := hd_in e6 ht hs hne
      refine ok_aload_n (pc := 17) dX12_one_17 rfl ?_
      refine ok_aload_n (pc := 18) dX12_one_18 rfl ?_
      refine ok_getf (pc := 19) dX12_one_19 fl_X12_211 hR.o rfl ?_
      rw [pr_9]
      refine ok_iconst (pc := 22) (v := 5) dX12_one_22 (by decide) ?_
      refine ok_icmp_ne (pc := 23) 30 dX12_one_23 (by decide) (fun cc_23 => ?_) (fun cc_23 => ?_)
      · exact absurd (by rw [show op = 5 by omega]; rfl) cc_23
      · refine ok_iconst (pc := 26) (v := 1) dX12_one_26 (by decide) ?_
        refine ok_goto (pc := 27) 31 dX12_one_27 (by decide) ?_
        refine ok_rpt11 (pc := 31) dX12_one_31 pl_X12_164 hR (by first | exact Or.inl rfl | exact Or.inr rfl) (fun M hR => ?_)
        first
          | rw [show (0 : Int32) = bI false from rfl, pw_11] at hR
          | rw [show (1 : Int32) = bI true from rfl, pw_11] at hR
        refine ok_aload_n (pc := 34) dX12_one_34 rfl ?_
        refine ok_getf (pc := 35) dX12_one_35 fl_X12_164 hR.o rfl ?_
        rw [pr_11]
        refine ok_if_ne (pc := 38) 247 dX12_one_38 (by decide) (fun cc_38 => ?_) (fun cc_38 => ?_)
        · first
            | (refine ok_vret (pc := 247) dX12_one_247 rfl ?_
               have e9 : ptF σ u 0 s = wrF s := (if_pos hpc).trans (if_pos rfl)
               have k9 := k M
               rw [e9] at k9
               exact k9 ⟨fc, hfc, hR⟩)
            | (first
                 | exact absurd rfl cc_225
                 | exact absurd cc_210 (by decide)
                 | (refine ok_vret (pc := 247) dX12_one_247 rfl ?_
                    have hnp : ¬ (hdF σ s = 33 ∨ hdF σ s = 40) := fun h => h.elim cc_8 cc_14
                    have hor : hdF σ s < 0 ∨ nmF u (hdF σ s) < 0 := by first | exact Or.inl (Int32.not_le.mp cc_188) | exact Or.inl (by unfold hdF; rw [if_pos hsw]; decide) | exact Or.inr (Int32.not_le.mp cc_210)
                    have e9 : ptF σ u 0 s = wrF s := (if_neg hnp).trans ((if_neg (by rw [cq_124]; decide)).trans (if_pos hor))
                    have k9 := k M
                    rw [e9] at k9
                    exact k9 ⟨fc, hfc, hR⟩))
        · exact absurd cc_38 (show ¬ bI true = 0 by decide)
    · refine ok_iload_n (pc := 11) dX12_one_11 rfl ?_
      refine ok_bipush (pc := 12) (v := 40) dX12_one_12 (by decide) ?_
      refine ok_icmp_ne (pc := 14) 116 dX12_one_14 (by decide) (fun cc_14 => ?_) (fun cc_14 => ?_)
      · refine ok_iload_n (pc := 116) dX12_one_116 rfl ?_
        refine ok_bipush (pc := 117) (v := 48) dX12_one_117 (by decide) ?_
        refine ok_bipush (pc := 119) (v := 57) dX12_one_119 (by decide) ?_
        refine ok_callSi3 (pc := 121) (d' := 0) dX12_one_121 sl_X12_75 rfl (by omega) ?_
        refine r_within ?_
        refine ok_if_eq (pc := 124) 187 dX12_one_124 (by decide) (fun cc_124 => ?_) (fun cc_124 => ?_)
        · have cq_124 := bI_0.mp cc_124
          refine ok_iload_n (pc := 187) dX12_one_187 rfl ?_
          refine ok_if_ge (pc := 188) 195 dX12_one_188 (by decide) (fun cc_188 => ?_) (fun cc_188 => ?_)
          · have ce_188 := Int32.not_lt.mpr cc_188
            refine ok_aload_n (pc := 195) dX12_one_195 rfl ?_
            refine ok_iload_n (pc := 196) dX12_one_196 rfl ?_
            refine ok_callVi1 (pc := 197) (d' := 4) dX12_one_197 vl_X12_217 hR.o rfl rfl rfl (by omega) ?_
            refine r_nameOf hP hu ?_
            refine ok_istore_n2 (pc := 200) dX12_one_200 (by decide) rfl ?_
            refine ok_aload_n (pc := 201) dX12_one_201 rfl ?_
            refine ok_aload_n (pc := 202) dX12_one_202 rfl ?_
            refine ok_getf (pc := 203) dX12_one_203 fl_X12_164 hR.o rfl ?_
            rw [pr_11]
            refine ok_if_ne (pc := 206) 213 dX12_one_206 (by decide) (fun cc_206 => ?_) (fun cc_206 => ?_)
            · have hsw : s.2.1 = true := bI_n0.mp cc_206
              refine ok_iconst (pc := 213) (v := 1) dX12_one_213 (by decide) ?_
              refine ok_goto (pc := 214) 218 dX12_one_214 (by decide) ?_
              refine ok_rpt11 (pc := 218) dX12_one_218 pl_X12_164 hR (by first | exact Or.inl rfl | exact Or.inr rfl) (fun M hR => ?_)
              first
                | rw [show (0 : Int32) = bI false from rfl, pw_11] at hR
                | rw [show (1 : Int32) = bI true from rfl, pw_11] at hR
              refine ok_aload_n (pc := 221) dX12_one_221 rfl ?_
              refine ok_getf (pc := 222) dX12_one_222 fl_X12_164 hR.o rfl ?_
              rw [pr_11]
              refine ok_if_ne (pc := 225) 247 dX12_one_225 (by decide) (fun cc_225 => ?_) (fun cc_225 => ?_)
              · first
                  | (refine ok_vret (pc := 247) dX12_one_247 rfl ?_
                     have e9 : ptF σ u 0 s = wrF s := (if_pos hpc).trans (if_pos rfl)
                     have k9 := k M
                     rw [e9] at k9
                     exact k9 ⟨fc, hfc, hR⟩)
                  | (first
                       | exact absurd rfl cc_225
                       | exact absurd cc_210 (by decide)
                       | (refine ok_vret (pc := 247) dX12_one_247 rfl ?_
                          have hnp : ¬ (hdF σ s = 33 ∨ hdF σ s = 40) := fun h => h.elim cc_8 cc_14
                          have hor : hdF σ s < 0 ∨ nmF u (hdF σ s) < 0 := by first | exact Or.inl (Int32.not_le.mp cc_188) | exact Or.inl (by unfold hdF; rw [if_pos hsw]; decide) | exact Or.inr (Int32.not_le.mp cc_210)
                          have e9 : ptF σ u 0 s = wrF s := (if_neg hnp).trans ((if_neg (by rw [cq_124]; decide)).trans (if_pos hor))
                          have k9 := k M
                          rw [e9] at k9
                          exact k9 ⟨fc, hfc, hR⟩))
              · first
                  | exact absurd cc_225 (show ¬ bI true = 0 by decide)
                  | exact absurd cc_210 (by decide)
                  | (have hnp : ¬ (hdF σ s = 33 ∨ hdF σ s = 40) := fun h => h.elim cc_8 cc_14
                     have hor : ¬ (hdF σ s < 0 ∨ nmF u (hdF σ s) < 0) := fun h => h.elim (Int32.not_lt.mpr cc_188) (Int32.not_lt.mpr cc_210)
                     have e9 : ptF σ u 0 s = adF (emF s (10000 + nmF u (hdF σ s))) := (if_neg hnp).trans ((if_neg (by rw [cq_124]; decide)).trans (if_neg hor))
                     have hsf : ((s.1, false, s.2.2) : Ps) = s := by rw [← hsw]
                     rw [hsf] at hR
                     exact l_one228 (dd := 5 + 12 * 0) e6 ht (by omega) hsw (by omega) ⟨fc, hfc, hR⟩ (fun M9 h9 => by have k9 := k M9; rw [e9] at k9; exact k9 h9))
            · have hsw : s.2.1 = false := bI_0.mp cc_206
              refine ok_iload_n (pc := 209) dX12_one_209 rfl ?_
              refine ok_if_ge (pc := 210) 217 dX12_one_210 (by decide) (fun cc_210 => ?_) (fun cc_210 => ?_)
              · have ce_210 := Int32.not_lt.mpr cc_210
                refine ok_iconst (pc := 217) (v := 0) dX12_one_217 (by decide) ?_
                refine ok_rpt11 (pc := 218) dX12_one_218 pl_X12_164 hR (by first | exact Or.inl rfl | exact Or.inr rfl) (fun M hR => ?_)
                first
                  | rw [show (0 : Int32) = bI false from rfl, pw_11] at hR
                  | rw [show (1 : Int32) = bI true from rfl, pw_11] at hR
                refine ok_aload_n (pc := 221) dX12_one_221 rfl ?_
                refine ok_getf (pc := 222) dX12_one_222 fl_X12_164 hR.o rfl ?_
                rw [pr_11]
                refine ok_if_ne (pc := 225) 247 dX12_one_225 (by decide) (fun cc_225 => ?_) (fun cc_225 => ?_)
                · first
                    | (refine ok_vret (pc := 247) dX12_one_247 rfl ?_
                       have e9 : ptF σ u 0 s = wrF s := (if_pos hpc).trans (if_pos rfl)
                       have k9 := k M
                       rw [e9] at k9
                       exact k9 ⟨fc, hfc, hR⟩)
                    | (first
                         | exact absurd rfl cc_225
                         | exact absurd cc_210 (by decide)
                         | (refine ok_vret (pc := 247) dX12_one_247 rfl ?_
                            have hnp : ¬ (hdF σ s = 33 ∨ hdF σ s = 40) := fun h => h.elim cc_8 cc_14
                            have hor : hdF σ s < 0 ∨ nmF u (hdF σ s) < 0 := by first | exact Or.inl (Int32.not_le.mp cc_188) | exact Or.inl (by unfold hdF; rw [if_pos hsw]; decide) | exact Or.inr (Int32.not_le.mp cc_210)
                            have e9 : ptF σ u 0 s = wrF s := (if_neg hnp).trans ((if_neg (by rw [cq_124]; decide)).trans (if_pos hor))
                            have k9 := k M
                            rw [e9] at k9
                            exact k9 ⟨fc, hfc, hR⟩))
                · first
                    | exact absurd cc_225 (show ¬ bI true = 0 by decide)
                    | exact absurd cc_210 (by decide)
                    | (have hnp : ¬ (hdF σ s = 33 ∨ hdF σ s = 40) := fun h => h.elim cc_8 cc_14
                       have hor : ¬ (hdF σ s < 0 ∨ nmF u (hdF σ s) < 0) := fun h => h.elim (Int32.not_lt.mpr cc_188) (Int32.not_lt.mpr cc_210)
                       have e9 : ptF σ u 0 s = adF (emF s (10000 + nmF u (hdF σ s))) := (if_neg hnp).trans ((if_neg (by rw [cq_124]; decide)).trans (if_neg hor))
                       have hsf : ((s.1, false, s.2.2) : Ps) = s := by rw [← hsw]
                       rw [hsf] at hR
                       exact l_one228 (dd := 5 + 12 * 0) e6 ht (by omega) hsw (by omega) ⟨fc, hfc, hR⟩ (fun M9 h9 => by have k9 := k M9; rw [e9] at k9; exact k9 h9))
              · have ce_210 := Int32.not_le.mp cc_210
                refine ok_iconst (pc := 213) (v := 1) dX12_one_213 (by decide) ?_
                refine ok_goto (pc := 214) 218 dX12_one_214 (by decide) ?_
                refine ok_rpt11 (pc := 218) dX12_one_218 pl_X12_164 hR (by first | exact Or.inl rfl | exact Or.inr rfl) (fun M hR => ?_)
                first
                  | rw [show (0 : Int32) = bI false from rfl, pw_11] at hR
                  | rw [show (1 : Int32) = bI true from rfl, pw_11] at hR
                refine ok_aload_n (pc := 221) dX12_one_221 rfl ?_
                refine ok_getf (pc := 222) dX12_one_222 fl_X12_164 hR.o rfl ?_
                rw [pr_11]
                refine ok_if_ne (pc := 225) 247 dX12_one_225 (by decide) (fun cc_225 => ?_) (fun cc_225 => ?_)
                · first
                    | (refine ok_vret (pc := 247) dX12_one_247 rfl ?_
                       have e9 : ptF σ u 0 s = wrF s := (if_pos hpc).trans (if_pos rfl)
                       have k9 := k M
                       rw [e9] at k9
                       exact k9 ⟨fc, hfc, hR⟩)
                    | (first
                         | exact absurd rfl cc_225
                         | exact absurd cc_210 (by decide)
                         | (refine ok_vret (pc := 247) dX12_one_247 rfl ?_
                            have hnp : ¬ (hdF σ s = 33 ∨ hdF σ s = 40) := fun h => h.elim cc_8 cc_14
                            have hor : hdF σ s < 0 ∨ nmF u (hdF σ s) < 0 := by first | exact Or.inl (Int32.not_le.mp cc_188) | exact Or.inl (by unfold hdF; rw [if_pos hsw]; decide) | exact Or.inr (Int32.not_le.mp cc_210)
                            have e9 : ptF σ u 0 s = wrF s := (if_neg hnp).trans ((if_neg (by rw [cq_124]; decide)).trans (if_pos hor))
                            have k9 := k M
                            rw [e9] at k9
                            exact k9 ⟨fc, hfc, hR⟩))
                · first
                    | exact absurd cc_225 (show ¬ bI true = 0 by decide)
                    | exact absurd cc_210 (by decide)
                    | (have hnp : ¬ (hdF σ s = 33 ∨ hdF σ s = 40) := fun h => h.elim cc_8 cc_14
                       have hor : ¬ (hdF σ s < 0 ∨ nmF u (hdF σ s) < 0) := fun h => h.elim (Int32.not_lt.mpr cc_188) (Int32.not_lt.mpr cc_210)
                       have e9 : ptF σ u 0 s = adF (emF s (10000 + nmF u (hdF σ s))) := (if_neg hnp).trans ((if_neg (by rw [cq_124]; decide)).trans (if_neg hor))
                       have hsf : ((s.1, false, s.2.2) : Ps) = s := by rw [← hsw]
                       rw [hsf] at hR
                       exact l_one228 (dd := 5 + 12 * 0) e6 ht (by omega) hsw (by omega) ⟨fc, hfc, hR⟩ (fun M9 h9 => by have k9 := k M9; rw [e9] at k9; exact k9 h9))
          · have ce_188 := Int32.not_le.mp cc_188
            refine ok_iconst (pc := 191) (v := -1) dX12_one_191 (by decide) ?_
            refine ok_goto (pc := 192) 200 dX12_one_192 (by decide) ?_
            refine ok_istore_n2 (pc := 200) dX12_one_200 (by decide) rfl ?_
            refine ok_aload_n (pc := 201) dX12_one_201 rfl ?_
            refine ok_aload_n (pc := 202) dX12_one_202 rfl ?_
            refine ok_getf (pc := 203) dX12_one_203 fl_X12_164 hR.o rfl ?_
            rw [pr_11]
            refine ok_if_ne (pc := 206) 213 dX12_one_206 (by decide) (fun cc_206 => ?_) (fun cc_206 => ?_)
            · have hsw : s.2.1 = true := bI_n0.mp cc_206
              refine ok_iconst (pc := 213) (v := 1) dX12_one_213 (by decide) ?_
              refine ok_goto (pc := 214) 218 dX12_one_214 (by decide) ?_
              refine ok_rpt11 (pc := 218) dX12_one_218 pl_X12_164 hR (by first | exact Or.inl rfl | exact Or.inr rfl) (fun M hR => ?_)
              first
                | rw [show (0 : Int32) = bI false from rfl, pw_11] at hR
                | rw [show (1 : Int32) = bI true from rfl, pw_11] at hR
              refine ok_aload_n (pc := 221) dX12_one_221 rfl ?_
              refine ok_getf (pc := 222) dX12_one_222 fl_X12_164 hR.o rfl ?_
              rw [pr_11]
              refine ok_if_ne (pc := 225) 247 dX12_one_225 (by decide) (fun cc_225 => ?_) (fun cc_225 => ?_)
              · first
                  | (refine ok_vret (pc := 247) dX12_one_247 rfl ?_
                     have e9 : ptF σ u 0 s = wrF s := (if_pos hpc).trans (if_pos rfl)
                     have k9 := k M
                     rw [e9] at k9
                     exact k9 ⟨fc, hfc, hR⟩)
                  | (first
                       | exact absurd rfl cc_225
                       | exact absurd cc_210 (by decide)
                       | (refine ok_vret (pc := 247) dX12_one_247 rfl ?_
                          have hnp : ¬ (hdF σ s = 33 ∨ hdF σ s = 40) := fun h => h.elim cc_8 cc_14
                          have hor : hdF σ s < 0 ∨ nmF u (hdF σ s) < 0 := by first | exact Or.inl (Int32.not_le.mp cc_188) | exact Or.inl (by unfold hdF; rw [if_pos hsw]; decide) | exact Or.inr (Int32.not_le.mp cc_210)
                          have e9 : ptF σ u 0 s = wrF s := (if_neg hnp).trans ((if_neg (by rw [cq_124]; decide)).trans (if_pos hor))
                          have k9 := k M
                          rw [e9] at k9
                          exact k9 ⟨fc, hfc, hR⟩))
              · first
                  | exact absurd cc_225 (show ¬ bI true = 0 by decide)
                  | exact absurd cc_210 (by decide)
                  | (have hnp : ¬ (hdF σ s = 33 ∨ hdF σ s = 40) := fun h => h.elim cc_8 cc_14
                     have hor : ¬ (hdF σ s < 0 ∨ nmF u (hdF σ s) < 0) := fun h => h.elim (Int32.not_lt.mpr cc_188) (Int32.not_lt.mpr cc_210)
                     have e9 : ptF σ u 0 s = adF (emF s (10000 + nmF u (hdF σ s))) := (if_neg hnp).trans ((if_neg (by rw [cq_124]; decide)).trans (if_neg hor))
                     have hsf : ((s.1, false, s.2.2) : Ps) = s := by rw [← hsw]
                     rw [hsf] at hR
                     exact l_one228 (dd := 5 + 12 * 0) e6 ht (by omega) hsw (by omega) ⟨fc, hfc, hR⟩ (fun M9 h9 => by have k9 := k M9; rw [e9] at k9; exact k9 h9))
            · have hsw : s.2.1 = false := bI_0.mp cc_206
              refine ok_iload_n (pc := 209) dX12_one_209 rfl ?_
              refine ok_if_ge (pc := 210) 217 dX12_one_210 (by decide) (fun cc_210 => ?_) (fun cc_210 => ?_)
              · have ce_210 := Int32.not_lt.mpr cc_210
                refine ok_iconst (pc := 217) (v := 0) dX12_one_217 (by decide) ?_
                refine ok_rpt11 (pc := 218) dX12_one_218 pl_X12_164 hR (by first | exact Or.inl rfl | exact Or.inr rfl) (fun M hR => ?_)
                first
                  | rw [show (0 : Int32) = bI false from rfl, pw_11] at hR
                  | rw [show (1 : Int32) = bI true from rfl, pw_11] at hR
                refine ok_aload_n (pc := 221) dX12_one_221 rfl ?_
                refine ok_getf (pc := 222) dX12_one_222 fl_X12_164 hR.o rfl ?_
                rw [pr_11]
                refine ok_if_ne (pc := 225) 247 dX12_one_225 (by decide) (fun cc_225 => ?_) (fun cc_225 => ?_)
                · first
                    | (refine ok_vret (pc := 247) dX12_one_247 rfl ?_
                       have e9 : ptF σ u 0 s = wrF s := (if_pos hpc).trans (if_pos rfl)
                       have k9 := k M
                       rw [e9] at k9
                       exact k9 ⟨fc, hfc, hR⟩)
                    | (first
                         | exact absurd rfl cc_225
                         | exact absurd cc_210 (by decide)
                         | (refine ok_vret (pc := 247) dX12_one_247 rfl ?_
                            have hnp : ¬ (hdF σ s = 33 ∨ hdF σ s = 40) := fun h => h.elim cc_8 cc_14
                            have hor : hdF σ s < 0 ∨ nmF u (hdF σ s) < 0 := by first | exact Or.inl (Int32.not_le.mp cc_188) | exact Or.inl (by unfold hdF; rw [if_pos hsw]; decide) | exact Or.inr (Int32.not_le.mp cc_210)
                            have e9 : ptF σ u 0 s = wrF s := (if_neg hnp).trans ((if_neg (by rw [cq_124]; decide)).trans (if_pos hor))
                            have k9 := k M
                            rw [e9] at k9
                            exact k9 ⟨fc, hfc, hR⟩))
                · first
                    | exact absurd cc_225 (show ¬ bI true = 0 by decide)
                    | exact absurd cc_210 (by decide)
                    | (have hnp : ¬ (hdF σ s = 33 ∨ hdF σ s = 40) := fun h => h.elim cc_8 cc_14
                       have hor : ¬ (hdF σ s < 0 ∨ nmF u (hdF σ s) < 0) := fun h => h.elim (Int32.not_lt.mpr cc_188) (Int32.not_lt.mpr cc_210)
                       have e9 : ptF σ u 0 s = adF (emF s (10000 + nmF u (hdF σ s))) := (if_neg hnp).trans ((if_neg (by rw [cq_124]; decide)).trans (if_neg hor))
                       have hsf : ((s.1, false, s.2.2) : Ps) = s := by rw [← hsw]
                       rw [hsf] at hR
                       exact l_one228 (dd := 5 + 12 * 0) e6 ht (by omega) hsw (by omega) ⟨fc, hfc, hR⟩ (fun M9 h9 => by have k9 := k M9; rw [e9] at k9; exact k9 h9))
              · have ce_210 := Int32.not_le.mp cc_210
                refine ok_iconst (pc := 213) (v := 1) dX12_one_213 (by decide) ?_
                refine ok_goto (pc := 214) 218 dX12_one_214 (by decide) ?_
                refine ok_rpt11 (pc := 218) dX12_one_218 pl_X12_164 hR (by first | exact Or.inl rfl | exact Or.inr rfl) (fun M hR => ?_)
                first
                  | rw [show (0 : Int32) = bI false from rfl, pw_11] at hR
                  | rw [show (1 : Int32) = bI true from rfl, pw_11] at hR
                refine ok_aload_n (pc := 221) dX12_one_221 rfl ?_
                refine ok_getf (pc := 222) dX12_one_222 fl_X12_164 hR.o rfl ?_
                rw [pr_11]
                refine ok_if_ne (pc := 225) 247 dX12_one_225 (by decide) (fun cc_225 => ?_) (fun cc_225 => ?_)
                · first
                    | (refine ok_vret (pc := 247) dX12_one_247 rfl ?_
                       have e9 : ptF σ u 0 s = wrF s := (if_pos hpc).trans (if_pos rfl)
                       have k9 := k M
                       rw [e9] at k9
                       exact k9 ⟨fc, hfc, hR⟩)
                    | (first
                         | exact absurd rfl cc_225
                         | exact absurd cc_210 (by decide)
                         | (refine ok_vret (pc := 247) dX12_one_247 rfl ?_
                            have hnp : ¬ (hdF σ s = 33 ∨ hdF σ s = 40) := fun h => h.elim cc_8 cc_14
                            have hor : hdF σ s < 0 ∨ nmF u (hdF σ s) < 0 := by first | exact Or.inl (Int32.not_le.mp cc_188) | exact Or.inl (by unfold hdF; rw [if_pos hsw]; decide) | exact Or.inr (Int32.not_le.mp cc_210)
                            have e9 : ptF σ u 0 s = wrF s := (if_neg hnp).trans ((if_neg (by rw [cq_124]; decide)).trans (if_pos hor))
                            have k9 := k M
                            rw [e9] at k9
                            exact k9 ⟨fc, hfc, hR⟩))
                · first
                    | exact absurd cc_225 (show ¬ bI true = 0 by decide)
                    | exact absurd cc_210 (by decide)
                    | (have hnp : ¬ (hdF σ s = 33 ∨ hdF σ s = 40) := fun h => h.elim cc_8 cc_14
                       have hor : ¬ (hdF σ s < 0 ∨ nmF u (hdF σ s) < 0) := fun h => h.elim (Int32.not_lt.mpr cc_188) (Int32.not_lt.mpr cc_210)
                       have e9 : ptF σ u 0 s = adF (emF s (10000 + nmF u (hdF σ s))) := (if_neg hnp).trans ((if_neg (by rw [cq_124]; decide)).trans (if_neg hor))
                       have hsf : ((s.1, false, s.2.2) : Ps) = s := by rw [← hsw]
                       rw [hsf] at hR
                       exact l_one228 (dd := 5 + 12 * 0) e6 ht (by omega) hsw (by omega) ⟨fc, hfc, hR⟩ (fun M9 h9 => by have k9 := k M9; rw [e9] at k9; exact k9 h9))
        · have cq_124 := bI_n0.mp cc_124
          refine ok_iconst (pc := 127) (v := 0) dX12_one_127 (by decide) ?_
          refine ok_istore_n2 (pc := 128) dX12_one_128 (by decide) rfl ?_
          refine ok_iconst (pc := 129) (v := 0) dX12_one_129 (by decide) ?_
          refine ok_istore_n3 (pc := 130) dX12_one_130 (by decide) rfl ?_
          have hnp : ¬ (hdF σ s = 33 ∨ hdF σ s = 40) := fun h => h.elim cc_8 cc_14
          have e4 : dgF σ 4 0 s = dgF σ 3 (10 * 0 + hdF σ s - 48) (adF s) := if_pos cq_124
          obtain ⟨-, hlt, -⟩ := hd_in e6 ht hs (wi_pos cq_124)
          have hd2 : (dgF σ 4 0 s).2.2.2.1 < 60 := by
            obtain ⟨g1, g2, g3⟩ := dg_ok e6 ht 4 0 s hs
            rw [g3]; omega
          have e9 : ptF σ u 0 s = emF (dgF σ 4 0 s).2 (dgF σ 4 0 s).1 := (if_neg hnp).trans (if_pos cq_124)
          exact l_one131 (dd := 5 + 12 * 0) (by omega) tn e6 ht (dgF σ 4 0 s) hd2 (fun M9 h9 => by have k9 := k M9; rw [e9] at k9; exact k9 h9) 4 0 s 0 0 M (by omega) rfl hs hP rfl
      · have hpc : (hdF σ s = 33 ∨ hdF σ s = 40) := by first | exact Or.inl cc_8 | exact Or.inr cc_14
        have hne : hdF σ s ≠ -1 := fun e => by rw [e] at hpc; exact absurd hpc (by decide)
        obtain ⟨hw9, hlt, -⟩ := hd_in e6 ht hs hne
        refine ok_aload_n (pc := 17) dX12_one_17 rfl ?_
        refine ok_aload_n (pc := 18) dX12_one_18 rfl ?_
        refine ok_getf (pc := 19) dX12_one_19 fl_X12_211 hR.o rfl ?_
        rw [pr_9]
        refine ok_iconst (pc := 22) (v := 5) dX12_one_22 (by decide) ?_
        refine ok_icmp_ne (pc := 23) 30 dX12_one_23 (by decide) (fun cc_23 => ?_) (fun cc_23 => ?_)
        · exact absurd (by rw [show op = 5 by omega]; rfl) cc_23
        · refine ok_iconst (pc := 26) (v := 1) dX12_one_26 (by decide) ?_
          refine ok_goto (pc := 27) 31 dX12_one_27 (by decide) ?_
          refine ok_rpt11 (pc := 31) dX12_one_31 pl_X12_164 hR (by first | exact Or.inl rfl | exact Or.inr rfl) (fun M hR => ?_)
          first
            | rw [show (0 : Int32) = bI false from rfl, pw_11] at hR
            | rw [show (1 : Int32) = bI true from rfl, pw_11] at hR
          refine ok_aload_n (pc := 34) dX12_one_34 rfl ?_
          refine ok_getf (pc := 35) dX12_one_35 fl_X12_164 hR.o rfl ?_
          rw [pr_11]
          refine ok_if_ne (pc := 38) 247 dX12_one_38 (by decide) (fun cc_38 => ?_) (fun cc_38 => ?_)
          · first
              | (refine ok_vret (pc := 247) dX12_one_247 rfl ?_
                 have e9 : ptF σ u 0 s = wrF s := (if_pos hpc).trans (if_pos rfl)
                 have k9 := k M
                 rw [e9] at k9
                 exact k9 ⟨fc, hfc, hR⟩)
              | (first
                   | exact absurd rfl cc_225
                   | exact absurd cc_210 (by decide)
                   | (refine ok_vret (pc := 247) dX12_one_247 rfl ?_
                      have hnp : ¬ (hdF σ s = 33 ∨ hdF σ s = 40) := fun h => h.elim cc_8 cc_14
                      have hor : hdF σ s < 0 ∨ nmF u (hdF σ s) < 0 := by first | exact Or.inl (Int32.not_le.mp cc_188) | exact Or.inl (by unfold hdF; rw [if_pos hsw]; decide) | exact Or.inr (Int32.not_le.mp cc_210)
                      have e9 : ptF σ u 0 s = wrF s := (if_neg hnp).trans ((if_neg (by rw [cq_124]; decide)).trans (if_pos hor))
                      have k9 := k M
                      rw [e9] at k9
                      exact k9 ⟨fc, hfc, hR⟩))
          · exact absurd cc_38 (show ¬ bI true = 0 by decide)
  | succ o ih =>
    intro op hop s M K hs hc hP k
    obtain ⟨fc, hfc, hR⟩ := id hP
    refine spec_in [some (.ref m), none, none, none] 3 (by decide) rfl rfl ?_
    refine ok_aload_n (pc := 0) dX12_one_0 rfl ?_
    refine ok_callVi0 (pc := 1) (d' := 0) dX12_one_1 vl_X12_172 hR.o rfl rfl rfl (by omega) ?_
    refine r_here hP tn e6 ht hs ?_
    refine ok_istore_n1 (pc := 4) dX12_one_4 (by decide) rfl ?_
    refine ok_iload_n (pc := 5) dX12_one_5 rfl ?_
    refine ok_bipush (pc := 6) (v := 33) dX12_one_6 (by decide) ?_
    refine ok_icmp_eq (pc := 8) 17 dX12_one_8 (by decide) (fun cc_8 => ?_) (fun cc_8 => ?_)
    · have hpc : (hdF σ s = 33 ∨ hdF σ s = 40) := by first | exact Or.inl cc_8 | exact Or.inr cc_14
      have hne : hdF σ s ≠ -1 := fun e => by rw [e] at hpc; exact absurd hpc (by decide)
      obtain ⟨hw9, hlt, -⟩ := hd_in e6 ht hs hne
      refine ok_aload_n (pc := 17) dX12_one_17 rfl ?_
      refine ok_aload_n (pc := 18) dX12_one_18 rfl ?_
      refine ok_getf (pc := 19) dX12_one_19 fl_X12_211 hR.o rfl ?_
      rw [pr_9]
      refine ok_iconst (pc := 22) (v := 5) dX12_one_22 (by decide) ?_
      refine ok_icmp_ne (pc := 23) 30 dX12_one_23 (by decide) (fun cc_23 => ?_) (fun cc_23 => ?_)
      · refine ok_iconst (pc := 30) (v := 0) dX12_one_30 (by decide) ?_
        refine ok_rpt11 (pc := 31) dX12_one_31 pl_X12_164 hR (by first | exact Or.inl rfl | exact Or.inr rfl) (fun M hR => ?_)
        first
          | rw [show (0 : Int32) = bI false from rfl, pw_11] at hR
          | rw [show (1 : Int32) = bI true from rfl, pw_11] at hR
        refine ok_aload_n (pc := 34) dX12_one_34 rfl ?_
        refine ok_getf (pc := 35) dX12_one_35 fl_X12_164 hR.o rfl ?_
        rw [pr_11]
        refine ok_if_ne (pc := 38) 247 dX12_one_38 (by decide) (fun cc_38 => ?_) (fun cc_38 => ?_)
        · exact absurd rfl cc_38
        · have hsf : ((s.1, false, s.2.2) : Ps) = s := by rw [← hw9]
          rw [hsf] at hR
          refine ok_aload_n (pc := 41) dX12_one_41 rfl ?_
          refine ok_dup (pc := 42) dX12_one_42 rfl ?_
          refine ok_getf (pc := 43) dX12_one_43 fl_X12_211 hR.o rfl ?_
          rw [pr_9]
          refine ok_iconst (pc := 46) (v := 1) dX12_one_46 (by decide) ?_
          refine ok_iadd (pc := 47) dX12_one_47 ?_
          refine ok_rpt9 (pc := 48) dX12_one_48 pl_X12_211 hR (fun M hR => ?_)
          rw [nI_1, pw_9] at hR
          refine ok_aload_n (pc := 51) dX12_one_51 rfl ?_
          refine ok_dup (pc := 52) dX12_one_52 rfl ?_
          refine ok_getf (pc := 53) dX12_one_53 fl_X12_168 hR.o rfl ?_
          rw [pr_8]
          refine ok_iconst (pc := 56) (v := 1) dX12_one_56 (by decide) ?_
          refine ok_iadd (pc := 57) dX12_one_57 ?_
          refine ok_rpt8 (pc := 58) dX12_one_58 pl_X12_168 hR (fun M hR => ?_)
          rw [nI_1, pw_8] at hR
          refine ok_iload_n (pc := 61) dX12_one_61 rfl ?_
          refine ok_bipush (pc := 62) (v := 33) dX12_one_62 (by decide) ?_
          refine ok_icmp_ne (pc := 64) 81 dX12_one_64 (by decide) (fun cc_64 => ?_) (fun cc_64 => ?_)
          · first
              | exact absurd cc_8 cc_64
              | (have e9 : ptF σ u (o + 1) s = clF σ (lvG σ (ptF σ u o) 5 (adF s)) := (if_pos hpc).trans ((if_neg (by decide)).trans (if_neg cc_64))
                 exact l_one81 (d9 := 5 + 12 * o) e6 ht (r_levels e6 ht (ih (op + 1) (by omega)) (Mn.ptF e6 ht o)) (Mn.lv e6 ht (Mn.ptF e6 ht o) 5) hlt hc ⟨fc, hfc, hR⟩ (fun M9 h9 => by have k9 := k M9; rw [e9] at k9; exact k9 h9))
          · have e9 : ptF σ u (o + 1) s = emF (ptF σ u o (adF s)) 20010 := (if_pos hpc).trans ((if_neg (by decide)).trans (if_pos cc_64))
            exact l_one67 (d9 := 5 + 12 * o) e6 ht (ih (op + 1) (by omega)) (Mn.ptF e6 ht o) hlt hc ⟨fc, hfc, hR⟩ (fun M9 h9 => by have k9 := k M9; rw [e9] at k9; exact k9 h9)
      · have h9 := (nI_eq (a := op) (b := 5) (by omega) (by decide)).mp cc_23
        exact absurd h9 (by omega)
    · refine ok_iload_n (pc := 11) dX12_one_11 rfl ?_
      refine ok_bipush (pc := 12) (v := 40) dX12_one_12 (by decide) ?_
      refine ok_icmp_ne (pc := 14) 116 dX12_one_14 (by decide) (fun cc_14 => ?_) (fun cc_14 => ?_)
      · refine ok_iload_n (pc := 116) dX12_one_116 rfl ?_
        refine ok_bipush (pc := 117) (v := 48) dX12_one_117 (by decide) ?_
        refine ok_bipush (pc := 119) (v := 57) dX12_one_119 (by decide) ?_
        refine ok_callSi3 (pc := 121) (d' := 0) dX12_one_121 sl_X12_75 rfl (by omega) ?_
        refine r_within ?_
        refine ok_if_eq (pc := 124) 187 dX12_one_124 (by decide) (fun cc_124 => ?_) (fun cc_124 => ?_)
        · have cq_124 := bI_0.mp cc_124
          refine ok_iload_n (pc := 187) dX12_one_187 rfl ?_
          refine ok_if_ge (pc := 188) 195 dX12_one_188 (by decide) (fun cc_188 => ?_) (fun cc_188 => ?_)
          · have ce_188 := Int32.not_lt.mpr cc_188
            refine ok_aload_n (pc := 195) dX12_one_195 rfl ?_
            refine ok_iload_n (pc := 196) dX12_one_196 rfl ?_
            refine ok_callVi1 (pc := 197) (d' := 4) dX12_one_197 vl_X12_217 hR.o rfl rfl rfl (by omega) ?_
            refine r_nameOf hP hu ?_
            refine ok_istore_n2 (pc := 200) dX12_one_200 (by decide) rfl ?_
            refine ok_aload_n (pc := 201) dX12_one_201 rfl ?_
            refine ok_aload_n (pc := 202) dX12_one_202 rfl ?_
            refine ok_getf (pc := 203) dX12_one_203 fl_X12_164 hR.o rfl ?_
            rw [pr_11]
            refine ok_if_ne (pc := 206) 213 dX12_one_206 (by decide) (fun cc_206 => ?_) (fun cc_206 => ?_)
            · have hsw : s.2.1 = true := bI_n0.mp cc_206
              refine ok_iconst (pc := 213) (v := 1) dX12_one_213 (by decide) ?_
              refine ok_goto (pc := 214) 218 dX12_one_214 (by decide) ?_
              refine ok_rpt11 (pc := 218) dX12_one_218 pl_X12_164 hR (by first | exact Or.inl rfl | exact Or.inr rfl) (fun M hR => ?_)
              first
                | rw [show (0 : Int32) = bI false from rfl, pw_11] at hR
                | rw [show (1 : Int32) = bI true from rfl, pw_11] at hR
              refine ok_aload_n (pc := 221) dX12_one_221 rfl ?_
              refine ok_getf (pc := 222) dX12_one_222 fl_X12_164 hR.o rfl ?_
              rw [pr_11]
              refine ok_if_ne (pc := 225) 247 dX12_one_225 (by decide) (fun cc_225 => ?_) (fun cc_225 => ?_)
              · first
                  | exact absurd rfl cc_225
                  | exact absurd cc_210 (by decide)
                  | (refine ok_vret (pc := 247) dX12_one_247 rfl ?_
                     have hnp : ¬ (hdF σ s = 33 ∨ hdF σ s = 40) := fun h => h.elim cc_8 cc_14
                     have hor : hdF σ s < 0 ∨ nmF u (hdF σ s) < 0 := by first | exact Or.inl (Int32.not_le.mp cc_188) | exact Or.inl (by unfold hdF; rw [if_pos hsw]; decide) | exact Or.inr (Int32.not_le.mp cc_210)
                     have e9 : ptF σ u (o + 1) s = wrF s := (if_neg hnp).trans ((if_neg (by rw [cq_124]; decide)).trans (if_pos hor))
                     have k9 := k M
                     rw [e9] at k9
                     exact k9 ⟨fc, hfc, hR⟩)
              · first
                  | exact absurd cc_225 (show ¬ bI true = 0 by decide)
                  | exact absurd cc_210 (by decide)
                  | (have hnp : ¬ (hdF σ s = 33 ∨ hdF σ s = 40) := fun h => h.elim cc_8 cc_14
                     have hor : ¬ (hdF σ s < 0 ∨ nmF u (hdF σ s) < 0) := fun h => h.elim (Int32.not_lt.mpr cc_188) (Int32.not_lt.mpr cc_210)
                     have e9 : ptF σ u (o + 1) s = adF (emF s (10000 + nmF u (hdF σ s))) := (if_neg hnp).trans ((if_neg (by rw [cq_124]; decide)).trans (if_neg hor))
                     have hsf : ((s.1, false, s.2.2) : Ps) = s := by rw [← hsw]
                     rw [hsf] at hR
                     exact l_one228 (dd := 5 + 12 * (o + 1)) e6 ht (by omega) hsw (by omega) ⟨fc, hfc, hR⟩ (fun M9 h9 => by have k9 := k M9; rw [e9] at k9; exact k9 h9))
            · have hsw : s.2.1 = false := bI_0.mp cc_206
              refine ok_iload_n (pc := 209) dX12_one_209 rfl ?_
              refine ok_if_ge (pc := 210) 217 dX12_one_210 (by decide) (fun cc_210 => ?_) (fun cc_210 => ?_)
              · have ce_210 := Int32.not_lt.mpr cc_210
                refine ok_iconst (pc := 217) (v := 0) dX12_one_217 (by decide) ?_
                refine ok_rpt11 (pc := 218) dX12_one_218 pl_X12_164 hR (by first | exact Or.inl rfl | exact Or.inr rfl) (fun M hR => ?_)
                first
                  | rw [show (0 : Int32) = bI false from rfl, pw_11] at hR
                  | rw [show (1 : Int32) = bI true from rfl, pw_11] at hR
                refine ok_aload_n (pc := 221) dX12_one_221 rfl ?_
                refine ok_getf (pc := 222) dX12_one_222 fl_X12_164 hR.o rfl ?_
                rw [pr_11]
                refine ok_if_ne (pc := 225) 247 dX12_one_225 (by decide) (fun cc_225 => ?_) (fun cc_225 => ?_)
                · first
                    | exact absurd rfl cc_225
                    | exact absurd cc_210 (by decide)
                    | (refine ok_vret (pc := 247) dX12_one_247 rfl ?_
                       have hnp : ¬ (hdF σ s = 33 ∨ hdF σ s = 40) := fun h => h.elim cc_8 cc_14
                       have hor : hdF σ s < 0 ∨ nmF u (hdF σ s) < 0 := by first | exact Or.inl (Int32.not_le.mp cc_188) | exact Or.inl (by unfold hdF; rw [if_pos hsw]; decide) | exact Or.inr (Int32.not_le.mp cc_210)
                       have e9 : ptF σ u (o + 1) s = wrF s := (if_neg hnp).trans ((if_neg (by rw [cq_124]; decide)).trans (if_pos hor))
                       have k9 := k M
                       rw [e9] at k9
                       exact k9 ⟨fc, hfc, hR⟩)
                · first
                    | exact absurd cc_225 (show ¬ bI true = 0 by decide)
                    | exact absurd cc_210 (by decide)
                    | (have hnp : ¬ (hdF σ s = 33 ∨ hdF σ s = 40) := fun h => h.elim cc_8 cc_14
                       have hor : ¬ (hdF σ s < 0 ∨ nmF u (hdF σ s) < 0) := fun h => h.elim (Int32.not_lt.mpr cc_188) (Int32.not_lt.mpr cc_210)
                       have e9 : ptF σ u (o + 1) s = adF (emF s (10000 + nmF u (hdF σ s))) := (if_neg hnp).trans ((if_neg (by rw [cq_124]; decide)).trans (if_neg hor))
                       have hsf : ((s.1, false, s.2.2) : Ps) = s := by rw [← hsw]
                       rw [hsf] at hR
                       exact l_one228 (dd := 5 + 12 * (o + 1)) e6 ht (by omega) hsw (by omega) ⟨fc, hfc, hR⟩ (fun M9 h9 => by have k9 := k M9; rw [e9] at k9; exact k9 h9))
              · have ce_210 := Int32.not_le.mp cc_210
                refine ok_iconst (pc := 213) (v := 1) dX12_one_213 (by decide) ?_
                refine ok_goto (pc := 214) 218 dX12_one_214 (by decide) ?_
                refine ok_rpt11 (pc := 218) dX12_one_218 pl_X12_164 hR (by first | exact Or.inl rfl | exact Or.inr rfl) (fun M hR => ?_)
                first
                  | rw [show (0 : Int32) = bI false from rfl, pw_11] at hR
                  | rw [show (1 : Int32) = bI true from rfl, pw_11] at hR
                refine ok_aload_n (pc := 221) dX12_one_221 rfl ?_
                refine ok_getf (pc := 222) dX12_one_222 fl_X12_164 hR.o rfl ?_
                rw [pr_11]
                refine ok_if_ne (pc := 225) 247 dX12_one_225 (by decide) (fun cc_225 => ?_) (fun cc_225 => ?_)
                · first
                    | exact absurd rfl cc_225
                    | exact absurd cc_210 (by decide)
                    | (refine ok_vret (pc := 247) dX12_one_247 rfl ?_
                       have hnp : ¬ (hdF σ s = 33 ∨ hdF σ s = 40) := fun h => h.elim cc_8 cc_14
                       have hor : hdF σ s < 0 ∨ nmF u (hdF σ s) < 0 := by first | exact Or.inl (Int32.not_le.mp cc_188) | exact Or.inl (by unfold hdF; rw [if_pos hsw]; decide) | exact Or.inr (Int32.not_le.mp cc_210)
                       have e9 : ptF σ u (o + 1) s = wrF s := (if_neg hnp).trans ((if_neg (by rw [cq_124]; decide)).trans (if_pos hor))
                       have k9 := k M
                       rw [e9] at k9
                       exact k9 ⟨fc, hfc, hR⟩)
                · first
                    | exact absurd cc_225 (show ¬ bI true = 0 by decide)
                    | exact absurd cc_210 (by decide)
                    | (have hnp : ¬ (hdF σ s = 33 ∨ hdF σ s = 40) := fun h => h.elim cc_8 cc_14
                       have hor : ¬ (hdF σ s < 0 ∨ nmF u (hdF σ s) < 0) := fun h => h.elim (Int32.not_lt.mpr cc_188) (Int32.not_lt.mpr cc_210)
                       have e9 : ptF σ u (o + 1) s = adF (emF s (10000 + nmF u (hdF σ s))) := (if_neg hnp).trans ((if_neg (by rw [cq_124]; decide)).trans (if_neg hor))
                       have hsf : ((s.1, false, s.2.2) : Ps) = s := by rw [← hsw]
                       rw [hsf] at hR
                       exact l_one228 (dd := 5 + 12 * (o + 1)) e6 ht (by omega) hsw (by omega) ⟨fc, hfc, hR⟩ (fun M9 h9 => by have k9 := k M9; rw [e9] at k9; exact k9 h9))
          · have ce_188 := Int32.not_le.mp cc_188
            refine ok_iconst (pc := 191) (v := -1) dX12_one_191 (by decide) ?_
            refine ok_goto (pc := 192) 200 dX12_one_192 (by decide) ?_
            refine ok_istore_n2 (pc := 200) dX12_one_200 (by decide) rfl ?_
            refine ok_aload_n (pc := 201) dX12_one_201 rfl ?_
            refine ok_aload_n (pc := 202) dX12_one_202 rfl ?_
            refine ok_getf (pc := 203) dX12_one_203 fl_X12_164 hR.o rfl ?_
            rw [pr_11]
            refine ok_if_ne (pc := 206) 213 dX12_one_206 (by decide) (fun cc_206 => ?_) (fun cc_206 => ?_)
            · have hsw : s.2.1 = true := bI_n0.mp cc_206
              refine ok_iconst (pc := 213) (v := 1) dX12_one_213 (by decide) ?_
              refine ok_goto (pc := 214) 218 dX12_one_214 (by decide) ?_
              refine ok_rpt11 (pc := 218) dX12_one_218 pl_X12_164 hR (by first | exact Or.inl rfl | exact Or.inr rfl) (fun M hR => ?_)
              first
                | rw [show (0 : Int32) = bI false from rfl, pw_11] at hR
                | rw [show (1 : Int32) = bI true from rfl, pw_11] at hR
              refine ok_aload_n (pc := 221) dX12_one_221 rfl ?_
              refine ok_getf (pc := 222) dX12_one_222 fl_X12_164 hR.o rfl ?_
              rw [pr_11]
              refine ok_if_ne (pc := 225) 247 dX12_one_225 (by decide) (fun cc_225 => ?_) (fun cc_225 => ?_)
              · first
                  | exact absurd rfl cc_225
                  | exact absurd cc_210 (by decide)
                  | (refine ok_vret (pc := 247) dX12_one_247 rfl ?_
                     have hnp : ¬ (hdF σ s = 33 ∨ hdF σ s = 40) := fun h => h.elim cc_8 cc_14
                     have hor : hdF σ s < 0 ∨ nmF u (hdF σ s) < 0 := by first | exact Or.inl (Int32.not_le.mp cc_188) | exact Or.inl (by unfold hdF; rw [if_pos hsw]; decide) | exact Or.inr (Int32.not_le.mp cc_210)
                     have e9 : ptF σ u (o + 1) s = wrF s := (if_neg hnp).trans ((if_neg (by rw [cq_124]; decide)).trans (if_pos hor))
                     have k9 := k M
                     rw [e9] at k9
                     exact k9 ⟨fc, hfc, hR⟩)
              · first
                  | exact absurd cc_225 (show ¬ bI true = 0 by decide)
                  | exact absurd cc_210 (by decide)
                  | (have hnp : ¬ (hdF σ s = 33 ∨ hdF σ s = 40) := fun h => h.elim cc_8 cc_14
                     have hor : ¬ (hdF σ s < 0 ∨ nmF u (hdF σ s) < 0) := fun h => h.elim (Int32.not_lt.mpr cc_188) (Int32.not_lt.mpr cc_210)
                     have e9 : ptF σ u (o + 1) s = adF (emF s (10000 + nmF u (hdF σ s))) := (if_neg hnp).trans ((if_neg (by rw [cq_124]; decide)).trans (if_neg hor))
                     have hsf : ((s.1, false, s.2.2) : Ps) = s := by rw [← hsw]
                     rw [hsf] at hR
                     exact l_one228 (dd := 5 + 12 * (o + 1)) e6 ht (by omega) hsw (by omega) ⟨fc, hfc, hR⟩ (fun M9 h9 => by have k9 := k M9; rw [e9] at k9; exact k9 h9))
            · have hsw : s.2.1 = false := bI_0.mp cc_206
              refine ok_iload_n (pc := 209) dX12_one_209 rfl ?_
              refine ok_if_ge (pc := 210) 217 dX12_one_210 (by decide) (fun cc_210 => ?_) (fun cc_210 => ?_)
              · have ce_210 := Int32.not_lt.mpr cc_210
                refine ok_iconst (pc := 217) (v := 0) dX12_one_217 (by decide) ?_
                refine ok_rpt11 (pc := 218) dX12_one_218 pl_X12_164 hR (by first | exact Or.inl rfl | exact Or.inr rfl) (fun M hR => ?_)
                first
                  | rw [show (0 : Int32) = bI false from rfl, pw_11] at hR
                  | rw [show (1 : Int32) = bI true from rfl, pw_11] at hR
                refine ok_aload_n (pc := 221) dX12_one_221 rfl ?_
                refine ok_getf (pc := 222) dX12_one_222 fl_X12_164 hR.o rfl ?_
                rw [pr_11]
                refine ok_if_ne (pc := 225) 247 dX12_one_225 (by decide) (fun cc_225 => ?_) (fun cc_225 => ?_)
                · first
                    | exact absurd rfl cc_225
                    | exact absurd cc_210 (by decide)
                    | (refine ok_vret (pc := 247) dX12_one_247 rfl ?_
                       have hnp : ¬ (hdF σ s = 33 ∨ hdF σ s = 40) := fun h => h.elim cc_8 cc_14
                       have hor : hdF σ s < 0 ∨ nmF u (hdF σ s) < 0 := by first | exact Or.inl (Int32.not_le.mp cc_188) | exact Or.inl (by unfold hdF; rw [if_pos hsw]; decide) | exact Or.inr (Int32.not_le.mp cc_210)
                       have e9 : ptF σ u (o + 1) s = wrF s := (if_neg hnp).trans ((if_neg (by rw [cq_124]; decide)).trans (if_pos hor))
                       have k9 := k M
                       rw [e9] at k9
                       exact k9 ⟨fc, hfc, hR⟩)
                · first
                    | exact absurd cc_225 (show ¬ bI true = 0 by decide)
                    | exact absurd cc_210 (by decide)
                    | (have hnp : ¬ (hdF σ s = 33 ∨ hdF σ s = 40) := fun h => h.elim cc_8 cc_14
                       have hor : ¬ (hdF σ s < 0 ∨ nmF u (hdF σ s) < 0) := fun h => h.elim (Int32.not_lt.mpr cc_188) (Int32.not_lt.mpr cc_210)
                       have e9 : ptF σ u (o + 1) s = adF (emF s (10000 + nmF u (hdF σ s))) := (if_neg hnp).trans ((if_neg (by rw [cq_124]; decide)).trans (if_neg hor))
                       have hsf : ((s.1, false, s.2.2) : Ps) = s := by rw [← hsw]
                       rw [hsf] at hR
                       exact l_one228 (dd := 5 + 12 * (o + 1)) e6 ht (by omega) hsw (by omega) ⟨fc, hfc, hR⟩ (fun M9 h9 => by have k9 := k M9; rw [e9] at k9; exact k9 h9))
              · have ce_210 := Int32.not_le.mp cc_210
                refine ok_iconst (pc := 213) (v := 1) dX12_one_213 (by decide) ?_
                refine ok_goto (pc := 214) 218 dX12_one_214 (by decide) ?_
                refine ok_rpt11 (pc := 218) dX12_one_218 pl_X12_164 hR (by first | exact Or.inl rfl | exact Or.inr rfl) (fun M hR => ?_)
                first
                  | rw [show (0 : Int32) = bI false from rfl, pw_11] at hR
                  | rw [show (1 : Int32) = bI true from rfl, pw_11] at hR
                refine ok_aload_n (pc := 221) dX12_one_221 rfl ?_
                refine ok_getf (pc := 222) dX12_one_222 fl_X12_164 hR.o rfl ?_
                rw [pr_11]
                refine ok_if_ne (pc := 225) 247 dX12_one_225 (by decide) (fun cc_225 => ?_) (fun cc_225 => ?_)
                · first
                    | exact absurd rfl cc_225
                    | exact absurd cc_210 (by decide)
                    | (refine ok_vret (pc := 247) dX12_one_247 rfl ?_
                       have hnp : ¬ (hdF σ s = 33 ∨ hdF σ s = 40) := fun h => h.elim cc_8 cc_14
                       have hor : hdF σ s < 0 ∨ nmF u (hdF σ s) < 0 := by first | exact Or.inl (Int32.not_le.mp cc_188) | exact Or.inl (by unfold hdF; rw [if_pos hsw]; decide) | exact Or.inr (Int32.not_le.mp cc_210)
                       have e9 : ptF σ u (o + 1) s = wrF s := (if_neg hnp).trans ((if_neg (by rw [cq_124]; decide)).trans (if_pos hor))
                       have k9 := k M
                       rw [e9] at k9
                       exact k9 ⟨fc, hfc, hR⟩)
                · first
                    | exact absurd cc_225 (show ¬ bI true = 0 by decide)
                    | exact absurd cc_210 (by decide)
                    | (have hnp : ¬ (hdF σ s = 33 ∨ hdF σ s = 40) := fun h => h.elim cc_8 cc_14
                       have hor : ¬ (hdF σ s < 0 ∨ nmF u (hdF σ s) < 0) := fun h => h.elim (Int32.not_lt.mpr cc_188) (Int32.not_lt.mpr cc_210)
                       have e9 : ptF σ u (o + 1) s = adF (emF s (10000 + nmF u (hdF σ s))) := (if_neg hnp).trans ((if_neg (by rw [cq_124]; decide)).trans (if_neg hor))
                       have hsf : ((s.1, false, s.2.2) : Ps) = s := by rw [← hsw]
                       rw [hsf] at hR
                       exact l_one228 (dd := 5 + 12 * (o + 1)) e6 ht (by omega) hsw (by omega) ⟨fc, hfc, hR⟩ (fun M9 h9 => by have k9 := k M9; rw [e9] at k9; exact k9 h9))
        · have cq_124 := bI_n0.mp cc_124
          refine ok_iconst (pc := 127) (v := 0) dX12_one_127 (by decide) ?_
          refine ok_istore_n2 (pc := 128) dX12_one_128 (by decide) rfl ?_
          refine ok_iconst (pc := 129) (v := 0) dX12_one_129 (by decide) ?_
          refine ok_istore_n3 (pc := 130) dX12_one_130 (by decide) rfl ?_
          have hnp : ¬ (hdF σ s = 33 ∨ hdF σ s = 40) := fun h => h.elim cc_8 cc_14
          have e4 : dgF σ 4 0 s = dgF σ 3 (10 * 0 + hdF σ s - 48) (adF s) := if_pos cq_124
          obtain ⟨-, hlt, -⟩ := hd_in e6 ht hs (wi_pos cq_124)
          have hd2 : (dgF σ 4 0 s).2.2.2.1 < 60 := by
            obtain ⟨g1, g2, g3⟩ := dg_ok e6 ht 4 0 s hs
            rw [g3]; omega
          have e9 : ptF σ u (o + 1) s = emF (dgF σ 4 0 s).2 (dgF σ 4 0 s).1 := (if_neg hnp).trans (if_pos cq_124)
          exact l_one131 (dd := 5 + 12 * (o + 1)) (by omega) tn e6 ht (dgF σ 4 0 s) hd2 (fun M9 h9 => by have k9 := k M9; rw [e9] at k9; exact k9 h9) 4 0 s 0 0 M (by omega) rfl hs hP rfl
      · have hpc : (hdF σ s = 33 ∨ hdF σ s = 40) := by first | exact Or.inl cc_8 | exact Or.inr cc_14
        have hne : hdF σ s ≠ -1 := fun e => by rw [e] at hpc; exact absurd hpc (by decide)
        obtain ⟨hw9, hlt, -⟩ := hd_in e6 ht hs hne
        refine ok_aload_n (pc := 17) dX12_one_17 rfl ?_
        refine ok_aload_n (pc := 18) dX12_one_18 rfl ?_
        refine ok_getf (pc := 19) dX12_one_19 fl_X12_211 hR.o rfl ?_
        rw [pr_9]
        refine ok_iconst (pc := 22) (v := 5) dX12_one_22 (by decide) ?_
        refine ok_icmp_ne (pc := 23) 30 dX12_one_23 (by decide) (fun cc_23 => ?_) (fun cc_23 => ?_)
        · refine ok_iconst (pc := 30) (v := 0) dX12_one_30 (by decide) ?_
          refine ok_rpt11 (pc := 31) dX12_one_31 pl_X12_164 hR (by first | exact Or.inl rfl | exact Or.inr rfl) (fun M hR => ?_)
          first
            | rw [show (0 : Int32) = bI false from rfl, pw_11] at hR
            | rw [show (1 : Int32) = bI true from rfl, pw_11] at hR
          refine ok_aload_n (pc := 34) dX12_one_34 rfl ?_
          refine ok_getf (pc := 35) dX12_one_35 fl_X12_164 hR.o rfl ?_
          rw [pr_11]
          refine ok_if_ne (pc := 38) 247 dX12_one_38 (by decide) (fun cc_38 => ?_) (fun cc_38 => ?_)
          · exact absurd rfl cc_38
          · have hsf : ((s.1, false, s.2.2) : Ps) = s := by rw [← hw9]
            rw [hsf] at hR
            refine ok_aload_n (pc := 41) dX12_one_41 rfl ?_
            refine ok_dup (pc := 42) dX12_one_42 rfl ?_
            refine ok_getf (pc := 43) dX12_one_43 fl_X12_211 hR.o rfl ?_
            rw [pr_9]
            refine ok_iconst (pc := 46) (v := 1) dX12_one_46 (by decide) ?_
            refine ok_iadd (pc := 47) dX12_one_47 ?_
            refine ok_rpt9 (pc := 48) dX12_one_48 pl_X12_211 hR (fun M hR => ?_)
            rw [nI_1, pw_9] at hR
            refine ok_aload_n (pc := 51) dX12_one_51 rfl ?_
            refine ok_dup (pc := 52) dX12_one_52 rfl ?_
            refine ok_getf (pc := 53) dX12_one_53 fl_X12_168 hR.o rfl ?_
            rw [pr_8]
            refine ok_iconst (pc := 56) (v := 1) dX12_one_56 (by decide) ?_
            refine ok_iadd (pc := 57) dX12_one_57 ?_
            refine ok_rpt8 (pc := 58) dX12_one_58 pl_X12_168 hR (fun M hR => ?_)
            rw [nI_1, pw_8] at hR
            refine ok_iload_n (pc := 61) dX12_one_61 rfl ?_
            refine ok_bipush (pc := 62) (v := 33) dX12_one_62 (by decide) ?_
            refine ok_icmp_ne (pc := 64) 81 dX12_one_64 (by decide) (fun cc_64 => ?_) (fun cc_64 => ?_)
            · first
                | exact absurd cc_8 cc_64
                | (have e9 : ptF σ u (o + 1) s = clF σ (lvG σ (ptF σ u o) 5 (adF s)) := (if_pos hpc).trans ((if_neg (by decide)).trans (if_neg cc_64))
                   exact l_one81 (d9 := 5 + 12 * o) e6 ht (r_levels e6 ht (ih (op + 1) (by omega)) (Mn.ptF e6 ht o)) (Mn.lv e6 ht (Mn.ptF e6 ht o) 5) hlt hc ⟨fc, hfc, hR⟩ (fun M9 h9 => by have k9 := k M9; rw [e9] at k9; exact k9 h9))
            · have e9 : ptF σ u (o + 1) s = emF (ptF σ u o (adF s)) 20010 := (if_pos hpc).trans ((if_neg (by decide)).trans (if_pos cc_64))
              exact l_one67 (d9 := 5 + 12 * o) e6 ht (ih (op + 1) (by omega)) (Mn.ptF e6 ht o) hlt hc ⟨fc, hfc, hR⟩ (fun M9 h9 => by have k9 := k M9; rw [e9] at k9; exact k9 h9)
        · have h9 := (nI_eq (a := op) (b := 5) (by omega) (by decide)).mp cc_23
          exact absurd h9 (by omega)
