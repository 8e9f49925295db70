set_option maxHeartbeats 1000000 in
theorem l_stay1 {Γ : Cx} {m sz : Nat} {M0 M : Nat → Option va_E} {σ κ : Rw} {ri : Nat → Int32} {ra : Nat → Nat → Int32} {Q : Option Value → Wd → Prop} (hR : RefX Γ m M0 σ κ ri ra M) {lI : Int32} {A U : Nat} (hI : Inv σ) (hA : A < 2 ^ 8) (kk : ∀ xi, Ok Γ mX12_stayUp 4 0 65 [some (.ref m), some (.int lI), some (.int (nI A)), some (.int (nI U)), some (.int (oI (fsN σ A (cK σ)))), some (.int xi), none] [] (M, sz) Q) : ∀ (n : Nat) (i : Nat) (x4 : Int32) (xi : Int32), i + n = cK σ → xi = nI i → x4 = oI (fsN σ A i) → Ok Γ mX12_stayUp 4 0 14 [some (.ref m), some (.int lI), some (.int (nI A)), some (.int (nI U)), some (.int x4), some (.int xi), none] [] (M, sz) Q := by
  have eK := hI.1.2.1.1
  have lK := hI.1.2.1.2
  intro n
  induction n with
  | zero =>
    intro i x4 xi h1 ei hq
    refine ok_iload (pc := 14) dX12_stayUp_14 rfl ?_
    refine ok_aload_n (pc := 16) dX12_stayUp_16 rfl ?_
    refine ok_getf (pc := 17) dX12_stayUp_17 fl_X12_9 hR.o rfl ?_
    refine ok_iconst (pc := 20) (v := 2) dX12_stayUp_20 (by decide) ?_
    refine ok_iald (pc := 21) (2) dX12_stayUp_21 hR.a0 rfl (by decide) (by decide) ?_
    refine ok_icmp_ge (pc := 22) 65 dX12_stayUp_22 (by decide) (fun cc_22 => ?_) (fun cc_22 => ?_)
    · have en : i = cK σ := by omega
      subst en
      subst hq
      exact kk _
    · exact absurd (by rw [eK, ei]; exact nI_le (by omega) (by omega)) cc_22
  | succ n ih =>
    intro i x4 xi h1 ei hq
    refine ok_iload (pc := 14) dX12_stayUp_14 rfl ?_
    refine ok_aload_n (pc := 16) dX12_stayUp_16 rfl ?_
    refine ok_getf (pc := 17) dX12_stayUp_17 fl_X12_9 hR.o rfl ?_
    refine ok_iconst (pc := 20) (v := 2) dX12_stayUp_20 (by decide) ?_
    refine ok_iald (pc := 21) (2) dX12_stayUp_21 hR.a0 rfl (by decide) (by decide) ?_
    refine ok_icmp_ge (pc := 22) 65 dX12_stayUp_22 (by decide) (fun cc_22 => ?_) (fun cc_22 => ?_)
    · exact absurd (by rw [eK, ei] at cc_22; exact cc_22) (nI_ge (by omega) (by omega))
    · have ce_22 := Int32.not_le.mp cc_22
      refine ok_iload_n (pc := 25) dX12_stayUp_25 rfl ?_
      refine ok_iload (pc := 26) dX12_stayUp_26 rfl ?_
      refine ok_callSi2 (pc := 28) (d' := 0) dX12_stayUp_28 sl_X12_246 rfl (by decide) ?_
      refine r_hasBit ?_
      refine ok_if_eq (pc := 31) 55 dX12_stayUp_31 (by decide) (fun cc_31 => ?_) (fun cc_31 => ?_)
      · have cq_31 := bI_0.mp cc_31
        rw [ei, hb_dec (by omega) (by omega)] at cq_31
        have enx : fsN σ A (i + 1) = fsN σ A i := by simp [fsN, cq_31]
        refine ok_iload (pc := 55) dX12_stayUp_55 rfl ?_
        refine ok_istore4 (pc := 57) dX12_stayUp_57 (by decide) rfl ?_
        refine ok_iinc5 (pc := 59) (v := 1) dX12_stayUp_59 (by decide) (by decide) rfl ?_
        refine ok_goto (pc := 62) 14 dX12_stayUp_62 (by decide) ?_
        exact ih (i + 1) _ _ (by omega) (by rw [ei, nI_1]) (by rw [enx]; first | exact hq | exact ei)
      · have cq_31 := bI_n0.mp cc_31
        rw [ei, hb_dec (by omega) (by omega)] at cq_31
        refine ok_iload (pc := 34) dX12_stayUp_34 rfl ?_
        refine ok_if_lt (pc := 36) 50 dX12_stayUp_36 (by decide) (fun cc_36 => ?_) (fun cc_36 => ?_)
        · have ce_36 := Int32.not_le.mpr cc_36
          have hno : fsN σ A i = none := by
            cases hfs : fsN σ A i with
            | none => rfl
            | some q => exfalso; rw [hq, hfs] at cc_36; exact nI_pos (by have := (fsN_some hfs).1; omega) cc_36
          have enx : fsN σ A (i + 1) = some i := by simp [fsN, fsC, cq_31, hno]
          refine ok_iload (pc := 50) dX12_stayUp_50 rfl ?_
          refine ok_goto (pc := 52) 57 dX12_stayUp_52 (by decide) ?_
          refine ok_istore4 (pc := 57) dX12_stayUp_57 (by decide) rfl ?_
          refine ok_iinc5 (pc := 59) (v := 1) dX12_stayUp_59 (by decide) (by decide) rfl ?_
          refine ok_goto (pc := 62) 14 dX12_stayUp_62 (by decide) ?_
          exact ih (i + 1) _ _ (by omega) (by rw [ei, nI_1]) (by rw [enx]; first | exact hq | exact ei)
        · have ce_36 := Int32.not_lt.mp cc_36
          obtain ⟨fq, efq⟩ : ∃ q, fsN σ A i = some q := by
            cases hfs : fsN σ A i with
            | none => exfalso; rw [hq, hfs] at cc_36; exact cc_36 (by decide)
            | some q => exact ⟨q, rfl⟩
          have lfq := (fsN_some efq).1
          refine ok_aload_n (pc := 39) dX12_stayUp_39 rfl ?_
          refine ok_iload (pc := 40) dX12_stayUp_40 rfl ?_
          refine ok_iload (pc := 42) dX12_stayUp_42 rfl ?_
          refine ok_callVi2 (pc := 44) (d' := 1) dX12_stayUp_44 vl_X12_249 hR.o rfl rfl rfl (by decide) ?_
          refine r_isAheadOf hR i fq ei (by rw [hq, efq]; rfl) (by omega) (by omega) ?_
          refine ok_if_eq (pc := 47) 55 dX12_stayUp_47 (by decide) (fun cc_47 => ?_) (fun cc_47 => ?_)
          · have cq_47 := bI_0.mp cc_47
            have enx : fsN σ A (i + 1) = fsN σ A i := by
              rw [show fsN σ A (i + 1) = (if A.testBit i && fsC σ i (fsN σ A i) then some i else fsN σ A i) from rfl, efq]
              simp [fsC, cq_31, cq_47]
            refine ok_iload (pc := 55) dX12_stayUp_55 rfl ?_
            refine ok_istore4 (pc := 57) dX12_stayUp_57 (by decide) rfl ?_
            refine ok_iinc5 (pc := 59) (v := 1) dX12_stayUp_59 (by decide) (by decide) rfl ?_
            refine ok_goto (pc := 62) 14 dX12_stayUp_62 (by decide) ?_
            exact ih (i + 1) _ _ (by omega) (by rw [ei, nI_1]) (by rw [enx]; first | exact hq | exact ei)
          · have cq_47 := bI_n0.mp cc_47
            have enx : fsN σ A (i + 1) = some i := by
              rw [show fsN σ A (i + 1) = (if A.testBit i && fsC σ i (fsN σ A i) then some i else fsN σ A i) from rfl, efq]
              simp [fsC, cq_31, cq_47]
            refine ok_iload (pc := 50) dX12_stayUp_50 rfl ?_
            refine ok_goto (pc := 52) 57 dX12_stayUp_52 (by decide) ?_
            refine ok_istore4 (pc := 57) dX12_stayUp_57 (by decide) rfl ?_
            refine ok_iinc5 (pc := 59) (v := 1) dX12_stayUp_59 (by decide) (by decide) rfl ?_
            refine ok_goto (pc := 62) 14 dX12_stayUp_62 (by decide) ?_
            exact ih (i + 1) _ _ (by omega) (by rw [ei, nI_1]) (by rw [enx]; first | exact hq | exact ei)

set_option maxHeartbeats 1000000 in
theorem l_stay2 {Γ : Cx} {m sz : Nat} {M0 M : Nat → Option va_E} {σ κ : Rw} {ri : Nat → Int32} {ra : Nat → Nat → Int32} {Q : Option Value → Wd → Prop} (hR : RefX Γ m M0 σ κ ri ra M) {lI x4 : Int32} {A U : Nat} (q : Nat) (eq4 : x4 = nI q) (hq8 : q < cK σ) (hI : Inv σ) (hU : U < 2 ^ 8) (aq : 0 ≤ kf σ q 5) (aU : ∀ k, U.testBit k = true → k < cK σ ∧ 0 ≤ kf σ k 5) (kk : ∀ xi, Ok Γ mX12_stayUp 4 0 120 [some (.ref m), some (.int lI), some (.int (nI A)), some (.int (nI U)), some (.int x4), some (.int (bI (dnN σ U q (cK σ)))), some (.int xi)] [] (M, sz) Q) : ∀ (n : Nat) (i : Nat) (x5 : Int32) (xi : Int32), i + n = cK σ → xi = nI i → x5 = bI (dnN σ U q i) → Ok Γ mX12_stayUp 4 0 71 [some (.ref m), some (.int lI), some (.int (nI A)), some (.int (nI U)), some (.int x4), some (.int x5), some (.int xi)] [] (M, sz) Q := by
  have eK := hI.1.2.1.1
  have lK := hI.1.2.1.2
  intro n
  induction n with
  | zero =>
    intro i x5 xi h1 ei hq
    refine ok_iload (pc := 71) dX12_stayUp_71 rfl ?_
    refine ok_aload_n (pc := 73) dX12_stayUp_73 rfl ?_
    refine ok_getf (pc := 74) dX12_stayUp_74 fl_X12_9 hR.o rfl ?_
    refine ok_iconst (pc := 77) (v := 2) dX12_stayUp_77 (by decide) ?_
    refine ok_iald (pc := 78) (2) dX12_stayUp_78 hR.a0 rfl (by decide) (by decide) ?_
    refine ok_icmp_ge (pc := 79) 120 dX12_stayUp_79 (by decide) (fun cc_79 => ?_) (fun cc_79 => ?_)
    · have en : i = cK σ := by omega
      subst en
      subst hq
      exact kk _
    · exact absurd (by rw [eK, ei]; exact nI_le (by omega) (by omega)) cc_79
  | succ n ih =>
    intro i x5 xi h1 ei hq
    refine ok_iload (pc := 71) dX12_stayUp_71 rfl ?_
    refine ok_aload_n (pc := 73) dX12_stayUp_73 rfl ?_
    refine ok_getf (pc := 74) dX12_stayUp_74 fl_X12_9 hR.o rfl ?_
    refine ok_iconst (pc := 77) (v := 2) dX12_stayUp_77 (by decide) ?_
    refine ok_iald (pc := 78) (2) dX12_stayUp_78 hR.a0 rfl (by decide) (by decide) ?_
    refine ok_icmp_ge (pc := 79) 120 dX12_stayUp_79 (by decide) (fun cc_79 => ?_) (fun cc_79 => ?_)
    · exact absurd (by rw [eK, ei] at cc_79; exact cc_79) (nI_ge (by omega) (by omega))
    · have ce_79 := Int32.not_le.mp cc_79
      refine ok_iload (pc := 82) dX12_stayUp_82 rfl ?_
      refine ok_if_ne (pc := 84) 107 dX12_stayUp_84 (by decide) (fun cc_84 => ?_) (fun cc_84 => ?_)
      · have hq1 : dnN σ U q i = true := by rw [hq] at cc_84; exact bI_n0.mp cc_84
        refine ok_iconst (pc := 107) (v := 1) dX12_stayUp_107 (by decide) ?_
        refine ok_goto (pc := 108) 112 dX12_stayUp_108 (by decide) ?_
        refine ok_istore5 (pc := 112) dX12_stayUp_112 (by decide) rfl ?_
        refine ok_iinc6 (pc := 114) (v := 1) dX12_stayUp_114 (by decide) (by decide) rfl ?_
        refine ok_goto (pc := 117) 71 dX12_stayUp_117 (by decide) ?_
        exact ih (i + 1) _ _ (by omega) (by rw [ei, nI_1]) (by simp [dnN, bI, hq1, cc_79, ce_79, cc_84])
      · have hq1 : dnN σ U q i = false := by rw [hq] at cc_84; exact bI_0.mp cc_84
        refine ok_iload_n (pc := 87) dX12_stayUp_87 rfl ?_
        refine ok_iload (pc := 88) dX12_stayUp_88 rfl ?_
        refine ok_callSi2 (pc := 90) (d' := 0) dX12_stayUp_90 sl_X12_246 rfl (by decide) ?_
        refine r_hasBit ?_
        refine ok_if_eq (pc := 93) 111 dX12_stayUp_93 (by decide) (fun cc_93 => ?_) (fun cc_93 => ?_)
        · have cq_93 := bI_0.mp cc_93
          rw [ei, hb_dec (by omega) (by omega)] at cq_93
          refine ok_iconst (pc := 111) (v := 0) dX12_stayUp_111 (by decide) ?_
          refine ok_istore5 (pc := 112) dX12_stayUp_112 (by decide) rfl ?_
          refine ok_iinc6 (pc := 114) (v := 1) dX12_stayUp_114 (by decide) (by decide) rfl ?_
          refine ok_goto (pc := 117) 71 dX12_stayUp_117 (by decide) ?_
          exact ih (i + 1) _ _ (by omega) (by rw [ei, nI_1]) (by simp [dnN, bI, hq1, cc_79, ce_79, cc_84, cq_93])
        · have cq_93 := bI_n0.mp cc_93
          rw [ei, hb_dec (by omega) (by omega)] at cq_93
          refine ok_aload_n (pc := 96) dX12_stayUp_96 rfl ?_
          refine ok_iload (pc := 97) dX12_stayUp_97 rfl ?_
          refine ok_iload (pc := 99) dX12_stayUp_99 rfl ?_
          refine ok_callVi2 (pc := 101) (d' := 3) dX12_stayUp_101 vl_X12_243 hR.o rfl rfl rfl (by decide) ?_
          refine r_crossEachOther hR q i eq4 ei hq8 (by omega) hI aq (aU i cq_93).2 ?_
          refine ok_if_eq (pc := 104) 111 dX12_stayUp_104 (by decide) (fun cc_104 => ?_) (fun cc_104 => ?_)
          · have cq_104 := bI_0.mp cc_104
            refine ok_iconst (pc := 111) (v := 0) dX12_stayUp_111 (by decide) ?_
            refine ok_istore5 (pc := 112) dX12_stayUp_112 (by decide) rfl ?_
            refine ok_iinc6 (pc := 114) (v := 1) dX12_stayUp_114 (by decide) (by decide) rfl ?_
            refine ok_goto (pc := 117) 71 dX12_stayUp_117 (by decide) ?_
            exact ih (i + 1) _ _ (by omega) (by rw [ei, nI_1]) (by simp [dnN, bI, hq1, cc_79, ce_79, cc_84, cq_93, cq_104])
          · have cq_104 := bI_n0.mp cc_104
            refine ok_iconst (pc := 107) (v := 1) dX12_stayUp_107 (by decide) ?_
            refine ok_goto (pc := 108) 112 dX12_stayUp_108 (by decide) ?_
            refine ok_istore5 (pc := 112) dX12_stayUp_112 (by decide) rfl ?_
            refine ok_iinc6 (pc := 114) (v := 1) dX12_stayUp_114 (by decide) (by decide) rfl ?_
            refine ok_goto (pc := 117) 71 dX12_stayUp_117 (by decide) ?_
            exact ih (i + 1) _ _ (by omega) (by rw [ei, nI_1]) (by simp [dnN, bI, hq1, cc_79, ce_79, cc_84, cq_93, cq_104])

set_option maxHeartbeats 1000000 in
theorem l_stayUp {Γ : Cx} {m sz : Nat} {M0 M : Nat → Option va_E} {σ κ : Rw} {ri : Nat → Int32} {ra : Nat → Nat → Int32} {K : Int32 → Wd → Prop} (hR : RefX Γ m M0 σ κ ri ra M) {lI : Int32} (hI : Inv σ) (K0 : Nat) (k : K (nI K0) (M, sz)) : ∀ (n : Nat) (A : Nat) (U : Nat), bcN A ≤ n → A < 2 ^ 8 → U < 2 ^ 8 → (∀ k, A.testBit k = true → k < cK σ ∧ 0 ≤ kf σ k 5) → (∀ k, U.testBit k = true → k < cK σ ∧ 0 ≤ kf σ k 5) → suN σ n A U = K0 → Ok Γ mX12_stayUp 4 0 4 [some (.ref m), some (.int lI), some (.int (nI A)), some (.int (nI U)), none, none, none] [] (M, sz) (ci K) := by
  have eK := hI.1.2.1.1
  have lK := hI.1.2.1.2
  intro n
  induction n with
  | zero =>
    intro A U h1 hA hU aA aU hK0
    refine ok_iload_n (pc := 4) dX12_stayUp_4 rfl ?_
    refine ok_if_eq (pc := 5) 148 dX12_stayUp_5 (by decide) (fun cc_5 => ?_) (fun cc_5 => ?_)
    · have hK1 : U = K0 := hK0
      subst hK1
      refine ok_iload_n (pc := 148) dX12_stayUp_148 rfl ?_
      refine ok_iret (pc := 149) dX12_stayUp_149 rfl ?_
      exact k
    · exact absurd (by rw [bc_0 (A := A) (by omega) (by omega)]; rfl) cc_5
  | succ n ih =>
    intro A U h1 hA hU aA aU hK0
    refine ok_iload_n (pc := 4) dX12_stayUp_4 rfl ?_
    refine ok_if_eq (pc := 5) 148 dX12_stayUp_5 (by decide) (fun cc_5 => ?_) (fun cc_5 => ?_)
    · have hz : A = 0 := (nI_eq (by omega) (by decide)).mp cc_5
      have hK1 : U = K0 := by rw [← hK0]; unfold suN; rw [if_pos hz]
      subst hK1
      refine ok_iload_n (pc := 148) dX12_stayUp_148 rfl ?_
      refine ok_iret (pc := 149) dX12_stayUp_149 rfl ?_
      exact k
    · have hz : A ≠ 0 := fun h => cc_5 (by rw [h]; rfl)
      refine ok_iconst (pc := 8) (v := -1) dX12_stayUp_8 (by decide) ?_
      refine ok_istore4 (pc := 9) dX12_stayUp_9 (by decide) rfl ?_
      refine ok_iconst (pc := 11) (v := 0) dX12_stayUp_11 (by decide) ?_
      refine ok_istore5 (pc := 12) dX12_stayUp_12 (by decide) rfl ?_
      refine l_stay1 hR hI hA (fun xi => ?_) (cK σ) 0 _ _ (by omega) rfl rfl
      obtain ⟨q, eq0⟩ : ∃ q, fsN σ A (cK σ) = some q := by
        cases hfs : fsN σ A (cK σ) with
        | none => exact absurd (bits_0 (n := 8) hA (fun i hi => by
            rcases Nat.lt_or_ge i (cK σ) with g | g
            · exact fsN_none hfs i g
            · cases hb : A.testBit i with
              | false => rfl
              | true => exact absurd (aA i hb).1 (by omega))) hz
        | some q => exact ⟨q, rfl⟩
      obtain ⟨lq, bq⟩ := fsN_some eq0
      rw [eq0]
      have eoq : oI (some q) = nI q := rfl
      rw [eoq]
      have hcl : clrN A q < 2 ^ 8 := Nat.lt_of_le_of_lt clr_le hA
      have haC : ∀ k, (clrN A q).testBit k = true → k < cK σ ∧ 0 ≤ kf σ k 5 := by
        intro k hk
        refine aA k ?_
        unfold clrN at hk
        rw [Nat.testBit_and, Bool.and_eq_true] at hk
        exact hk.1
      have hbc := bc_clr (A := A) (k := q) (by omega) bq
      refine ok_iconst (pc := 65) (v := 0) dX12_stayUp_65 (by decide) ?_
      refine ok_istore5 (pc := 66) dX12_stayUp_66 (by decide) rfl ?_
      refine ok_iconst (pc := 68) (v := 0) dX12_stayUp_68 (by decide) ?_
      refine ok_istore6 (pc := 69) dX12_stayUp_69 (by decide) rfl ?_
      refine l_stay2 hR q rfl lq hI hU (aA q bq).2 aU (fun xi => ?_) (cK σ) 0 _ _ (by omega) rfl rfl
      refine ok_iload_n (pc := 120) dX12_stayUp_120 rfl ?_
      refine ok_iload (pc := 121) dX12_stayUp_121 rfl ?_
      refine ok_if_eq (pc := 123) 130 dX12_stayUp_123 (by decide) (fun cc_123 => ?_) (fun cc_123 => ?_)
      · have cq_123 := bI_0.mp cc_123
        refine ok_iconst (pc := 130) (v := 1) dX12_stayUp_130 (by decide) ?_
        refine ok_iload (pc := 131) dX12_stayUp_131 rfl ?_
        refine ok_ishl (pc := 133) dX12_stayUp_133 ?_
        refine ok_ior (pc := 134) dX12_stayUp_134 ?_
        refine ok_istore_n3 (pc := 135) dX12_stayUp_135 (by decide) rfl ?_
        refine ok_iload_n (pc := 136) dX12_stayUp_136 rfl ?_
        refine ok_iconst (pc := 137) (v := 1) dX12_stayUp_137 (by decide) ?_
        refine ok_iload (pc := 138) dX12_stayUp_138 rfl ?_
        refine ok_ishl (pc := 140) dX12_stayUp_140 ?_
        refine ok_iconst (pc := 141) (v := -1) dX12_stayUp_141 (by decide) ?_
        refine ok_ixor (pc := 142) dX12_stayUp_142 ?_
        refine ok_iand (pc := 143) dX12_stayUp_143 ?_
        refine ok_istore_n2 (pc := 144) dX12_stayUp_144 (by decide) rfl ?_
        refine ok_goto (pc := 145) 4 dX12_stayUp_145 (by decide) ?_
        rw [jshl_1 (by omega), fa_or]
        rw [clr_n]
        refine ok_drop4 ?_
        refine ok_drop5 ?_
        refine ok_drop6 ?_
        exact ih (clrN A q) (U ||| 2 ^ q) (by omega) hcl (or_lt hU (pw_lt (by omega))) haC (by intro k9 hk9; rw [fb_bit_set, Bool.or_eq_true] at hk9; rcases hk9 with h | h; exact aU k9 h; have h := of_decide_eq_true h; subst h; exact aA _ bq) (by rw [← hK0]; rw [show suN σ (n + 1) A U = (if A = 0 then U else match fsN σ A (cK σ) with | none => U | some q => suN σ n (clrN A q) (if dnN σ U q (cK σ) then U else U ||| 2 ^ q)) from rfl, if_neg hz, eq0]; simp [cq_123])
      · have cq_123 := bI_n0.mp cc_123
        refine ok_iconst (pc := 126) (v := 0) dX12_stayUp_126 (by decide) ?_
        refine ok_goto (pc := 127) 134 dX12_stayUp_127 (by decide) ?_
        refine ok_ior (pc := 134) dX12_stayUp_134 ?_
        refine ok_istore_n3 (pc := 135) dX12_stayUp_135 (by decide) rfl ?_
        refine ok_iload_n (pc := 136) dX12_stayUp_136 rfl ?_
        refine ok_iconst (pc := 137) (v := 1) dX12_stayUp_137 (by decide) ?_
        refine ok_iload (pc := 138) dX12_stayUp_138 rfl ?_
        refine ok_ishl (pc := 140) dX12_stayUp_140 ?_
        refine ok_iconst (pc := 141) (v := -1) dX12_stayUp_141 (by decide) ?_
        refine ok_ixor (pc := 142) dX12_stayUp_142 ?_
        refine ok_iand (pc := 143) dX12_stayUp_143 ?_
        refine ok_istore_n2 (pc := 144) dX12_stayUp_144 (by decide) rfl ?_
        refine ok_goto (pc := 145) 4 dX12_stayUp_145 (by decide) ?_
        have eU0 : nI U ||| 0 = nI U := by rw [show (0 : Int32) = nI 0 from rfl, fa_or, Nat.or_zero]
        rw [eU0, jshl_1 (by omega)]
        rw [clr_n]
        refine ok_drop4 ?_
        refine ok_drop5 ?_
        refine ok_drop6 ?_
        exact ih (clrN A q) U (by omega) hcl hU haC aU (by rw [← hK0]; rw [show suN σ (n + 1) A U = (if A = 0 then U else match fsN σ A (cK σ) with | none => U | some q => suN σ n (clrN A q) (if dnN σ U q (cK σ) then U else U ||| 2 ^ q)) from rfl, if_neg hz, eq0]; simp [cq_123])

set_option maxHeartbeats 1000000 in
theorem r_stayUp {Γ : Cx} {m sz : Nat} {M0 M : Nat → Option va_E} {σ κ : Rw} {ri : Nat → Int32} {ra : Nat → Nat → Int32} {K : Int32 → Wd → Prop} (hR : RefX Γ m M0 σ κ ri ra M) {lI : Int32} (A : Nat) (ea : lI = nI A) (hA : A < 2 ^ 8) (aA : ∀ k, A.testBit k = true → k < cK σ ∧ 0 ≤ kf σ k 5) (hI : Inv σ) (k : K (nI (suN σ 16 A 0)) (M, sz)) : Spec Γ mX12_stayUp 4 0 [.ref m, .int lI] (M, sz) (ci K) := by
  refine spec_in [some (.ref m), some (.int lI), none, none, none, none, none] 5 (by decide) rfl rfl ?_
  refine ok_iload_n (pc := 0) dX12_stayUp_0 rfl ?_
  refine ok_istore_n2 (pc := 1) dX12_stayUp_1 (by decide) rfl ?_
  refine ok_iconst (pc := 2) (v := 0) dX12_stayUp_2 (by decide) ?_
  refine ok_istore_n3 (pc := 3) dX12_stayUp_3 (by decide) rfl ?_
  subst ea
  exact l_stayUp hR hI _ k 16 A 0 (fb_ct_le _ _) hA (by decide) aA (fun k9 h9 => by rw [Nat.zero_testBit] at h9; cases h9) rfl
