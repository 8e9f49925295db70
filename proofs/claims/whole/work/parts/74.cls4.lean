set_option maxHeartbeats 1000000 in
theorem c_jn20000 {Γ : Cx} {G : Wd} {K : Int32 → Wd → Prop} {x y : Int32} (k : K (opF 20000 x y) G) : Spec Γ mX10_joined 0 0 [.int 124, .int x, .int y] G (ci K) := by
  refine spec_in [some (.int 124), some (.int x), some (.int y)] 0 (by decide) rfl rfl ?_
  refine ok_iload_n (pc := 0) dX10_joined_0 rfl ?_
  refine ok_lookup (pc := 1) (off := 83) 84 dX10_joined_1 (by decide) (by decide) (by decide) ?_
  refine ok_iload_n (pc := 84) dX10_joined_84 rfl ?_
  refine ok_if_ne (pc := 85) 92 dX10_joined_85 (by decide) (fun cc_85 => ?_) (fun cc_85 => ?_)
  · refine ok_iconst (pc := 92) (v := 1) dX10_joined_92 (by decide) ?_
    refine ok_goto (pc := 93) 97 dX10_joined_93 (by decide) ?_
    refine ok_iret (pc := 97) dX10_joined_97 rfl ?_
    simpa [opF, cc_85] using k
  · refine ok_iload_n (pc := 88) dX10_joined_88 rfl ?_
    refine ok_if_eq (pc := 89) 96 dX10_joined_89 (by decide) (fun cc_89 => ?_) (fun cc_89 => ?_)
    · refine ok_iconst (pc := 96) (v := 0) dX10_joined_96 (by decide) ?_
      refine ok_iret (pc := 97) dX10_joined_97 rfl ?_
      simpa [opF, cc_85, cc_89] using k
    · refine ok_iconst (pc := 92) (v := 1) dX10_joined_92 (by decide) ?_
      refine ok_goto (pc := 93) 97 dX10_joined_93 (by decide) ?_
      refine ok_iret (pc := 97) dX10_joined_97 rfl ?_
      simpa [opF, cc_85, cc_89] using k

set_option maxHeartbeats 1000000 in
theorem c_jn20001 {Γ : Cx} {G : Wd} {K : Int32 → Wd → Prop} {x y : Int32} (k : K (opF 20001 x y) G) : Spec Γ mX10_joined 0 0 [.int 38, .int x, .int y] G (ci K) := by
  refine spec_in [some (.int 38), some (.int x), some (.int y)] 0 (by decide) rfl rfl ?_
  refine ok_iload_n (pc := 0) dX10_joined_0 rfl ?_
  refine ok_lookup (pc := 1) (off := 97) 98 dX10_joined_1 (by decide) (by decide) (by decide) ?_
  refine ok_iload_n (pc := 98) dX10_joined_98 rfl ?_
  refine ok_if_eq (pc := 99) 110 dX10_joined_99 (by decide) (fun cc_99 => ?_) (fun cc_99 => ?_)
  · refine ok_iconst (pc := 110) (v := 0) dX10_joined_110 (by decide) ?_
    refine ok_iret (pc := 111) dX10_joined_111 rfl ?_
    simpa [opF, cc_99] using k
  · refine ok_iload_n (pc := 102) dX10_joined_102 rfl ?_
    refine ok_if_eq (pc := 103) 110 dX10_joined_103 (by decide) (fun cc_103 => ?_) (fun cc_103 => ?_)
    · refine ok_iconst (pc := 110) (v := 0) dX10_joined_110 (by decide) ?_
      refine ok_iret (pc := 111) dX10_joined_111 rfl ?_
      simpa [opF, cc_99, cc_103] using k
    · refine ok_iconst (pc := 106) (v := 1) dX10_joined_106 (by decide) ?_
      refine ok_goto (pc := 107) 111 dX10_joined_107 (by decide) ?_
      refine ok_iret (pc := 111) dX10_joined_111 rfl ?_
      simpa [opF, cc_99, cc_103] using k

set_option maxHeartbeats 1000000 in
theorem c_jn20002 {Γ : Cx} {G : Wd} {K : Int32 → Wd → Prop} {x y : Int32} (k : K (opF 20002 x y) G) : Spec Γ mX10_joined 0 0 [.int 60, .int x, .int y] G (ci K) := by
  refine spec_in [some (.int 60), some (.int x), some (.int y)] 0 (by decide) rfl rfl ?_
  refine ok_iload_n (pc := 0) dX10_joined_0 rfl ?_
  refine ok_lookup (pc := 1) (off := 111) 112 dX10_joined_1 (by decide) (by decide) (by decide) ?_
  refine ok_iload_n (pc := 112) dX10_joined_112 rfl ?_
  refine ok_iload_n (pc := 113) dX10_joined_113 rfl ?_
  refine ok_icmp_ge (pc := 114) 121 dX10_joined_114 (by decide) (fun cc_114 => ?_) (fun cc_114 => ?_)
  · have ce_114 := Int32.not_lt.mpr cc_114
    refine ok_iconst (pc := 121) (v := 0) dX10_joined_121 (by decide) ?_
    refine ok_iret (pc := 122) dX10_joined_122 rfl ?_
    simpa [opF, cc_114, ce_114] using k
  · have ce_114 := Int32.not_le.mp cc_114
    refine ok_iconst (pc := 117) (v := 1) dX10_joined_117 (by decide) ?_
    refine ok_goto (pc := 118) 122 dX10_joined_118 (by decide) ?_
    refine ok_iret (pc := 122) dX10_joined_122 rfl ?_
    simpa [opF, cc_114, ce_114] using k

set_option maxHeartbeats 1000000 in
theorem c_jn20003 {Γ : Cx} {G : Wd} {K : Int32 → Wd → Prop} {x y : Int32} (k : K (opF 20003 x y) G) : Spec Γ mX10_joined 0 0 [.int 61, .int x, .int y] G (ci K) := by
  refine spec_in [some (.int 61), some (.int x), some (.int y)] 0 (by decide) rfl rfl ?_
  refine ok_iload_n (pc := 0) dX10_joined_0 rfl ?_
  refine ok_lookup (pc := 1) (off := 122) 123 dX10_joined_1 (by decide) (by decide) (by decide) ?_
  refine ok_iload_n (pc := 123) dX10_joined_123 rfl ?_
  refine ok_iload_n (pc := 124) dX10_joined_124 rfl ?_
  refine ok_icmp_ne (pc := 125) 132 dX10_joined_125 (by decide) (fun cc_125 => ?_) (fun cc_125 => ?_)
  · refine ok_iconst (pc := 132) (v := 0) dX10_joined_132 (by decide) ?_
    refine ok_iret (pc := 133) dX10_joined_133 rfl ?_
    simpa [opF, cc_125] using k
  · refine ok_iconst (pc := 128) (v := 1) dX10_joined_128 (by decide) ?_
    refine ok_goto (pc := 129) 133 dX10_joined_129 (by decide) ?_
    refine ok_iret (pc := 133) dX10_joined_133 rfl ?_
    simpa [opF, cc_125] using k

set_option maxHeartbeats 1000000 in
theorem c_jn20004 {Γ : Cx} {G : Wd} {K : Int32 → Wd → Prop} {x y : Int32} (k : K (opF 20004 x y) G) : Spec Γ mX10_joined 0 0 [.int 62, .int x, .int y] G (ci K) := by
  refine spec_in [some (.int 62), some (.int x), some (.int y)] 0 (by decide) rfl rfl ?_
  refine ok_iload_n (pc := 0) dX10_joined_0 rfl ?_
  refine ok_lookup (pc := 1) (off := 133) 134 dX10_joined_1 (by decide) (by decide) (by decide) ?_
  refine ok_iload_n (pc := 134) dX10_joined_134 rfl ?_
  refine ok_iload_n (pc := 135) dX10_joined_135 rfl ?_
  refine ok_icmp_le (pc := 136) 143 dX10_joined_136 (by decide) (fun cc_136 => ?_) (fun cc_136 => ?_)
  · have ce_136 := Int32.not_lt.mpr cc_136
    refine ok_iconst (pc := 143) (v := 0) dX10_joined_143 (by decide) ?_
    refine ok_iret (pc := 144) dX10_joined_144 rfl ?_
    simpa [opF, cc_136, ce_136] using k
  · have ce_136 := Int32.not_le.mp cc_136
    refine ok_iconst (pc := 139) (v := 1) dX10_joined_139 (by decide) ?_
    refine ok_goto (pc := 140) 144 dX10_joined_140 (by decide) ?_
    refine ok_iret (pc := 144) dX10_joined_144 rfl ?_
    simpa [opF, cc_136, ce_136] using k

set_option maxHeartbeats 1000000 in
theorem c_jn20005 {Γ : Cx} {G : Wd} {K : Int32 → Wd → Prop} {x y : Int32} (k : K (opF 20005 x y) G) : Spec Γ mX10_joined 0 0 [.int 43, .int x, .int y] G (ci K) := by
  refine spec_in [some (.int 43), some (.int x), some (.int y)] 0 (by decide) rfl rfl ?_
  refine ok_iload_n (pc := 0) dX10_joined_0 rfl ?_
  refine ok_lookup (pc := 1) (off := 144) 145 dX10_joined_1 (by decide) (by decide) (by decide) ?_
  refine ok_iload_n (pc := 145) dX10_joined_145 rfl ?_
  refine ok_iload_n (pc := 146) dX10_joined_146 rfl ?_
  refine ok_iadd (pc := 147) dX10_joined_147 ?_
  refine ok_iret (pc := 148) dX10_joined_148 rfl ?_
  simpa [opF] using k

set_option maxHeartbeats 1000000 in
theorem c_jn20006 {Γ : Cx} {G : Wd} {K : Int32 → Wd → Prop} {x y : Int32} (k : K (opF 20006 x y) G) : Spec Γ mX10_joined 0 0 [.int 45, .int x, .int y] G (ci K) := by
  refine spec_in [some (.int 45), some (.int x), some (.int y)] 0 (by decide) rfl rfl ?_
  refine ok_iload_n (pc := 0) dX10_joined_0 rfl ?_
  refine ok_lookup (pc := 1) (off := 148) 149 dX10_joined_1 (by decide) (by decide) (by decide) ?_
  refine ok_iload_n (pc := 149) dX10_joined_149 rfl ?_
  refine ok_iload_n (pc := 150) dX10_joined_150 rfl ?_
  refine ok_isub (pc := 151) dX10_joined_151 ?_
  refine ok_iret (pc := 152) dX10_joined_152 rfl ?_
  simpa [opF] using k

set_option maxHeartbeats 1000000 in
theorem c_jn20007 {Γ : Cx} {G : Wd} {K : Int32 → Wd → Prop} {x y : Int32} (k : K (opF 20007 x y) G) : Spec Γ mX10_joined 0 0 [.int 42, .int x, .int y] G (ci K) := by
  refine spec_in [some (.int 42), some (.int x), some (.int y)] 0 (by decide) rfl rfl ?_
  refine ok_iload_n (pc := 0) dX10_joined_0 rfl ?_
  refine ok_lookup (pc := 1) (off := 152) 153 dX10_joined_1 (by decide) (by decide) (by decide) ?_
  refine ok_iload_n (pc := 153) dX10_joined_153 rfl ?_
  refine ok_iload_n (pc := 154) dX10_joined_154 rfl ?_
  refine ok_imul (pc := 155) dX10_joined_155 ?_
  refine ok_iret (pc := 156) dX10_joined_156 rfl ?_
  simpa [opF] using k

set_option maxHeartbeats 1000000 in
theorem c_jn20008 {Γ : Cx} {G : Wd} {K : Int32 → Wd → Prop} {x y : Int32} (k : K (opF 20008 x y) G) : Spec Γ mX10_joined 0 0 [.int 47, .int x, .int y] G (ci K) := by
  refine spec_in [some (.int 47), some (.int x), some (.int y)] 0 (by decide) rfl rfl ?_
  refine ok_iload_n (pc := 0) dX10_joined_0 rfl ?_
  refine ok_lookup (pc := 1) (off := 156) 157 dX10_joined_1 (by decide) (by decide) (by decide) ?_
  refine ok_iload_n (pc := 157) dX10_joined_157 rfl ?_
  refine ok_if_ne (pc := 158) 165 dX10_joined_158 (by decide) (fun cc_158 => ?_) (fun cc_158 => ?_)
  · refine ok_iload_n (pc := 165) dX10_joined_165 rfl ?_
    refine ok_iload_n (pc := 166) dX10_joined_166 rfl ?_
    refine ok_idiv (pc := 167) dX10_joined_167 cc_158 ?_
    refine ok_iret (pc := 168) dX10_joined_168 rfl ?_
    simpa [opF, cc_158] using k
  · refine ok_iconst (pc := 161) (v := 0) dX10_joined_161 (by decide) ?_
    refine ok_goto (pc := 162) 168 dX10_joined_162 (by decide) ?_
    refine ok_iret (pc := 168) dX10_joined_168 rfl ?_
    simpa [opF, cc_158] using k

set_option maxHeartbeats 1000000 in
theorem c_jn20009 {Γ : Cx} {G : Wd} {K : Int32 → Wd → Prop} {x y : Int32} (k : K (opF 20009 x y) G) : Spec Γ mX10_joined 0 0 [.int 37, .int x, .int y] G (ci K) := by
  refine spec_in [some (.int 37), some (.int x), some (.int y)] 0 (by decide) rfl rfl ?_
  refine ok_iload_n (pc := 0) dX10_joined_0 rfl ?_
  refine ok_lookup (pc := 1) (off := 168) 169 dX10_joined_1 (by decide) (by decide) (by decide) ?_
  refine ok_iload_n (pc := 169) dX10_joined_169 rfl ?_
  refine ok_if_ne (pc := 170) 177 dX10_joined_170 (by decide) (fun cc_170 => ?_) (fun cc_170 => ?_)
  · refine ok_iload_n (pc := 177) dX10_joined_177 rfl ?_
    refine ok_iload_n (pc := 178) dX10_joined_178 rfl ?_
    refine ok_irem (pc := 179) dX10_joined_179 cc_170 ?_
    refine ok_iret (pc := 180) dX10_joined_180 rfl ?_
    simpa [opF, cc_170] using k
  · refine ok_iconst (pc := 173) (v := 0) dX10_joined_173 (by decide) ?_
    refine ok_goto (pc := 174) 180 dX10_joined_174 (by decide) ?_
    refine ok_iret (pc := 180) dX10_joined_180 rfl ?_
    simpa [opF, cc_170] using k

theorem opF_else {c x y : Int32} (h0 : ¬ c = 20000) (h1 : ¬ c = 20001) (h2 : ¬ c = 20002) (h3 : ¬ c = 20003) (h4 : ¬ c = 20004) (h5 : ¬ c = 20005) (h6 : ¬ c = 20006) (h7 : ¬ c = 20007) (h8 : ¬ c = 20008) : opF c x y = opF 20009 x y := by
  unfold opF
  simp [h0, h1, h2, h3, h4, h5, h6, h7, h8]
theorem enC_else {c : Int32} (hc : 20000 ≤ c) (hn : ¬ c = 20010) (h0 : ¬ c = 20000) (h1 : ¬ c = 20001) (h2 : ¬ c = 20002) (h3 : ¬ c = 20003) (h4 : ¬ c = 20004) (h5 : ¬ c = 20005) (h6 : ¬ c = 20006) (h7 : ¬ c = 20007) (h8 : ¬ c = 20008) : enC c = -37 := by
  have g1 : ¬ c < 10000 := fun h => absurd (Int32.lt_iff_toInt_lt.mp h) (by have := Int32.le_iff_toInt_le.mp hc; have e1 : (20000 : Int32).toInt = 20000 := rfl; have e2 : (10000 : Int32).toInt = 10000 := rfl; omega)
  have g2 : ¬ c < 20000 := Int32.not_lt.mpr hc
  unfold enC
  simp [g1, g2, hn, h0, h1, h2, h3, h4, h5, h6, h7, h8]
theorem enC_not : enC 20010 = -33 := by decide
theorem enC_op {c : Int32} (hc : 20000 ≤ c) (hn : ¬ c = 20010) : enC c < -4 ∧ ¬ enC c = -33 := by
  by_cases h0 : c = 20000
  · subst h0; decide
  by_cases h1 : c = 20001
  · subst h1; decide
  by_cases h2 : c = 20002
  · subst h2; decide
  by_cases h3 : c = 20003
  · subst h3; decide
  by_cases h4 : c = 20004
  · subst h4; decide
  by_cases h5 : c = 20005
  · subst h5; decide
  by_cases h6 : c = 20006
  · subst h6; decide
  by_cases h7 : c = 20007
  · subst h7; decide
  by_cases h8 : c = 20008
  · subst h8; decide
  rw [enC_else hc hn h0 h1 h2 h3 h4 h5 h6 h7 h8]
  decide
theorem enC_lo {c : Int32} (h : c < 10000) : enC c = c := if_pos h
theorem enC_nm {c : Int32} (h : ¬ c < 10000) (h2 : c < 10004) : ∃ q, q < 4 ∧ c - 10000 = nI q ∧ enC c = -1 - nI q := by
  obtain ⟨e1, l1⟩ := idx_lo (n := 10000) (by decide) 4 (by decide) (by decide) (Int32.not_lt.mp h) h2
  refine ⟨_, l1, e1, ?_⟩
  have g2 : c < 20000 := Int32.lt_iff_toInt_lt.mpr (by have := Int32.lt_iff_toInt_lt.mp h2; have e3 : (10004 : Int32).toInt = 10004 := rfl; have e2 : (20000 : Int32).toInt = 20000 := rfl; omega)
  unfold enC
  rw [if_neg h, if_pos g2, ← e1]

theorem c_joined {Γ : Cx} {G : Wd} {K : Int32 → Wd → Prop} {x y : Int32} {c s : Int32} (hc : 20000 ≤ c) (hn : ¬ c = 20010) (es : s = -(enC c)) (k : K (opF c x y) G) : Spec Γ mX10_joined 0 0 [.int s, .int x, .int y] G (ci K) := by
  by_cases h0 : c = 20000
  · subst h0
    have e9 : s = 124 := by rw [es]; decide
    rw [e9]
    exact c_jn20000 k
  by_cases h1 : c = 20001
  · subst h1
    have e9 : s = 38 := by rw [es]; decide
    rw [e9]
    exact c_jn20001 k
  by_cases h2 : c = 20002
  · subst h2
    have e9 : s = 60 := by rw [es]; decide
    rw [e9]
    exact c_jn20002 k
  by_cases h3 : c = 20003
  · subst h3
    have e9 : s = 61 := by rw [es]; decide
    rw [e9]
    exact c_jn20003 k
  by_cases h4 : c = 20004
  · subst h4
    have e9 : s = 62 := by rw [es]; decide
    rw [e9]
    exact c_jn20004 k
  by_cases h5 : c = 20005
  · subst h5
    have e9 : s = 43 := by rw [es]; decide
    rw [e9]
    exact c_jn20005 k
  by_cases h6 : c = 20006
  · subst h6
    have e9 : s = 45 := by rw [es]; decide
    rw [e9]
    exact c_jn20006 k
  by_cases h7 : c = 20007
  · subst h7
    have e9 : s = 42 := by rw [es]; decide
    rw [e9]
    exact c_jn20007 k
  by_cases h8 : c = 20008
  · subst h8
    have e9 : s = 47 := by rw [es]; decide
    rw [e9]
    exact c_jn20008 k
  rw [opF_else h0 h1 h2 h3 h4 h5 h6 h7 h8] at k
  have e9 : s = 37 := by rw [es, enC_else hc hn h0 h1 h2 h3 h4 h5 h6 h7 h8]; decide
  rw [e9]
  exact c_jn20009 k

set_option maxHeartbeats 1000000 in
theorem c_nm0 {Γ : Cx} {G : Wd} {K : Int32 → Wd → Prop} {x y v w : Int32} (k : K x G) : Spec Γ mX10_nameOf 0 0 [.int (-1), .int x, .int y, .int v, .int w] G (ci K) := by
  refine spec_in [some (.int (-1)), some (.int x), some (.int y), some (.int v), some (.int w)] 0 (by decide) rfl rfl ?_
  refine ok_iload_n (pc := 0) dX10_nameOf_0 rfl ?_
  refine ok_table (pc := 1) 28 dX10_nameOf_1 (by decide) (by decide) rfl (by decide) ?_
  refine ok_iload_n (pc := 28) dX10_nameOf_28 rfl ?_
  refine ok_iret (pc := 29) dX10_nameOf_29 rfl ?_
  exact k

set_option maxHeartbeats 1000000 in
theorem c_nm1 {Γ : Cx} {G : Wd} {K : Int32 → Wd → Prop} {x y v w : Int32} (k : K y G) : Spec Γ mX10_nameOf 0 0 [.int (-2), .int x, .int y, .int v, .int w] G (ci K) := by
  refine spec_in [some (.int (-2)), some (.int x), some (.int y), some (.int v), some (.int w)] 0 (by decide) rfl rfl ?_
  refine ok_iload_n (pc := 0) dX10_nameOf_0 rfl ?_
  refine ok_table (pc := 1) 30 dX10_nameOf_1 (by decide) (by decide) rfl (by decide) ?_
  refine ok_iload_n (pc := 30) dX10_nameOf_30 rfl ?_
  refine ok_iret (pc := 31) dX10_nameOf_31 rfl ?_
  exact k

set_option maxHeartbeats 1000000 in
theorem c_nm2 {Γ : Cx} {G : Wd} {K : Int32 → Wd → Prop} {x y v w : Int32} (k : K v G) : Spec Γ mX10_nameOf 0 0 [.int (-3), .int x, .int y, .int v, .int w] G (ci K) := by
  refine spec_in [some (.int (-3)), some (.int x), some (.int y), some (.int v), some (.int w)] 0 (by decide) rfl rfl ?_
  refine ok_iload_n (pc := 0) dX10_nameOf_0 rfl ?_
  refine ok_table (pc := 1) 32 dX10_nameOf_1 (by decide) (by decide) rfl (by decide) ?_
  refine ok_iload_n (pc := 32) dX10_nameOf_32 rfl ?_
  refine ok_iret (pc := 33) dX10_nameOf_33 rfl ?_
  exact k

set_option maxHeartbeats 1000000 in
theorem c_nm3 {Γ : Cx} {G : Wd} {K : Int32 → Wd → Prop} {x y v w : Int32} (k : K w G) : Spec Γ mX10_nameOf 0 0 [.int (-4), .int x, .int y, .int v, .int w] G (ci K) := by
  refine spec_in [some (.int (-4)), some (.int x), some (.int y), some (.int v), some (.int w)] 0 (by decide) rfl rfl ?_
  refine ok_iload_n (pc := 0) dX10_nameOf_0 rfl ?_
  refine ok_tableOut (pc := 1) 34 dX10_nameOf_1 (Or.inl (by decide)) (by decide) ?_
  refine ok_iload (pc := 34) dX10_nameOf_34 rfl ?_
  refine ok_iret (pc := 36) dX10_nameOf_36 rfl ?_
  exact k

theorem c_nameOf {Γ : Cx} {G : Wd} {K : Int32 → Wd → Prop} {x y v w : Int32} {s : Int32} (q : Nat) (hq : q < 4) (es : s = -1 - nI q) (k : K (nm4 x y v w q) G) : Spec Γ mX10_nameOf 0 0 [.int s, .int x, .int y, .int v, .int w] G (ci K) := by
  rcases (show q = 0 ∨ q = 1 ∨ q = 2 ∨ q = 3 by omega) with h | h | h | h
  · subst h
    have e9 : s = (-1) := by rw [es]; decide
    rw [e9]; exact c_nm0 k
  · subst h
    have e9 : s = (-2) := by rw [es]; decide
    rw [e9]; exact c_nm1 k
  · subst h
    have e9 : s = (-3) := by rw [es]; decide
    rw [e9]; exact c_nm2 k
  · subst h
    have e9 : s = (-4) := by rw [es]; decide
    rw [e9]; exact c_nm3 k

theorem wkD_sh (σ : Rw) (fr : Nat) : ∀ n, wkD (fun j => σ (fr + j)) 0 n = wkD σ fr n
  | 0 => rfl
  | n + 1 => by
    unfold wkD
    rw [wkD_sh σ fr n, Nat.zero_add]
theorem wkP_sh (σ : Rw) (fr : Nat) (nm p : Rw) : ∀ n, wkP (fun j => σ (fr + j)) 0 nm p n = wkP σ fr nm p n
  | 0 => rfl
  | n + 1 => by
    unfold wkP
    rw [wkP_sh σ fr nm p n, Nat.zero_add]
theorem cd_wf {σ : Rw} {u : Nat} (hu : u < 2) (h : TxOk σ u) : wfT (cdF σ u).2 0 (cdF σ u).1 ∧ wkD (cdF σ u).2 0 (cdF σ u).1 = 1 ∧ 0 < (cdF σ u).1 ∧ (cdF σ u).1 ≤ 50 := by
  obtain ⟨n, hn, en, hw, h1⟩ := h
  unfold cdF
  by_cases c0 : 0 < σ (265 + 52 * u)
  · rw [if_pos c0]
    have e2 : txN σ u = n := by unfold txN; rw [en]; exact nI_clamp (by omega)
    have hpos : 0 < n := by
      rcases Nat.eq_zero_or_pos n with g | g
      · subst g; rw [en] at c0; exact absurd c0 (by decide)
      · exact g
    have eD : ∀ j, wkD (fun j => σ (265 + 52 * u + 1 + j)) 0 j = wkD σ (265 + 52 * u + 1) j := wkD_sh σ (265 + 52 * u + 1)
    refine ⟨?_, ?_, ?_, ?_⟩
    · intro j hj
      have hj2 : j < txN σ u := hj
      have h3 := hw j (by omega)
      show ((σ (265 + 52 * u + 1 + (0 + j)) < 20000 → _) ∧ _)
      rw [Nat.zero_add, eD]
      exact h3
    · show wkD (fun j => σ (265 + 52 * u + 1 + j)) 0 (txN σ u) = 1
      rw [eD, e2]; exact h1 hpos
    · show 0 < txN σ u; omega
    · show txN σ u ≤ 50; omega
  · rw [if_neg c0]
    by_cases hu0 : u = 0
    · rw [if_pos hu0]
      refine ⟨fun j hj => ?_, by decide, by decide, by decide⟩
      have : j < 1 := hj
      have e9 : j = 0 := by omega
      subst e9
      decide
    · rw [if_neg hu0]
      refine ⟨fun j hj => ?_, by decide, by decide, by decide⟩
      have : j < 3 := hj
      rcases (show j = 0 ∨ j = 1 ∨ j = 2 by omega) with e9 | e9 | e9 <;> subst e9 <;> decide
def clmp (u : Nat) (v : Int32) : Int32 := if u = 0 then jmax (-99) (jmin 99 v) else jmax 0 (jmin 999 v)
theorem giv_cd {σ : Rw} {u : Nat} (hu : u < 2) (x y v w : Int32) : givF σ u x y v w = clmp u (wkV (cdF σ u).2 0 (cdF σ u).1 (nm4 x y v w)) := by
  rcases (show u = 0 ∨ u = 1 by omega) with h | h
  · subst h
    unfold givF clmp cdF
    rw [if_pos rfl, if_pos rfl]
    by_cases c0 : 0 < σ 265
    · rw [if_pos c0, if_pos c0]
      unfold wkV
      rw [wkP_sh σ (265 + 52 * 0 + 1)]
    · rw [if_neg c0, if_neg c0, if_pos rfl]
      rfl
  · subst h
    unfold givF clmp cdF
    rw [if_neg (show ¬ (1 = 0) by decide), if_neg (show ¬ (1 = 0) by decide)]
    by_cases c0 : 0 < σ 317
    · rw [if_pos c0, if_pos c0]
      unfold wkV
      rw [wkP_sh σ (265 + 52 * 1 + 1)]
    · rw [if_neg c0, if_neg c0, if_neg (show ¬ (1 = 0) by decide)]
      rfl

set_option maxHeartbeats 1000000 in
theorem l_givenBy {Γ : Cx} {t sz u : Nat} {σ : Rw} {M0 : Nat → Option va_E} {K : Int32 → Wd → Prop} {x y v w : Int32} {tp : Option Nat} {pl fa : Int32} {f : Rw} (hu : u < 2) (hT : TxOk σ u) (h0 : M0 t = some (.inr (10, [.int (nI u), .ref (t + 1), .ref (t + 3), .ref (t + 5), va_rf tp, .int pl, .int fa]))) (h1 : M0 (t + 1) = some (.inr (6, [.ref (t + 2), .int (nI (cdF σ u).1)]))) (h2 : M0 (t + 2) = aI Γ 50 f) (h3 : ∀ j, j < (cdF σ u).1 → f j = enC ((cdF σ u).2 j)) (k : ∀ M' sf, (∀ q, q ≠ t + 5 → M' q = M0 q) → M' (t + 5) = aI Γ 50 sf → K (givF σ u x y v w) (M', sz)) : ∀ (n : Nat) (j : Nat) (x5 : Int32) (xi : Int32) (sf : Rw) (M : Nat → Option va_E), j + n = (cdF σ u).1 → xi = nI j → x5 = nI (wkD (cdF σ u).2 0 j) → (∀ q, q ≠ t + 5 → M q = M0 q) → M (t + 5) = aI Γ 50 sf → (∀ i, i < wkD (cdF σ u).2 0 j → sf i = (wkP (cdF σ u).2 0 (nm4 x y v w) (fun _ => 0) j).2 i) → Ok Γ mX10_givenBy 1 0 6 [some (.ref t), some (.int x), some (.int y), some (.int v), some (.int w), some (.int x5), some (.int xi), none] [] (M, sz) (ci K) := by
  obtain ⟨hwf, hD1, hn0, hn50⟩ := cd_wf hu hT
  intro n
  induction n with
  | zero =>
    intro j x5 xi sf M hj ei e5 hq hst hsf
    have hle := wkD_le (cdF σ u).2 0 j
    refine ok_iload (pc := 6) dX10_givenBy_6 rfl ?_
    refine ok_aload_n (pc := 8) dX10_givenBy_8 rfl ?_
    refine ok_getf (pc := 9) dX10_givenBy_9 fl_X10_14 ((hq t (by omega)).trans h0) rfl ?_
    refine ok_getf (pc := 12) dX10_givenBy_12 fl_X10_56 ((hq (t + 1) (by omega)).trans h1) rfl ?_
    refine ok_icmp_ge (pc := 15) 167 dX10_givenBy_15 (by decide) (fun cc_15 => ?_) (fun cc_15 => ?_)
    · have ce_15 := Int32.not_lt.mpr cc_15
      have e9 : j = (cdF σ u).1 := by omega
      subst e9
      have ev : sf 0 = wkV (cdF σ u).2 0 (cdF σ u).1 (nm4 x y v w) := hsf 0 (by rw [hD1]; decide)
      refine ok_aload_n (pc := 167) dX10_givenBy_167 rfl ?_
      refine ok_getf (pc := 168) dX10_givenBy_168 fl_X10_27 ((hq t (by omega)).trans h0) rfl ?_
      refine ok_if_ne (pc := 171) 193 dX10_givenBy_171 (by decide) (fun cc_171 => ?_) (fun cc_171 => ?_)
      · have hu1 : ¬ u = 0 := fun h9 => cc_171 (by rw [h9]; rfl)
        refine ok_iconst (pc := 193) (v := 0) dX10_givenBy_193 (by decide) ?_
        refine ok_sipush (pc := 194) (v := 999) dX10_givenBy_194 (by decide) ?_
        refine ok_aload_n (pc := 197) dX10_givenBy_197 rfl ?_
        refine ok_getf (pc := 198) dX10_givenBy_198 fl_X10_23 ((hq t (by omega)).trans h0) rfl ?_
        refine ok_iconst (pc := 201) (v := 0) dX10_givenBy_201 (by decide) ?_
        refine ok_iald (pc := 202) (0) dX10_givenBy_202 hst rfl (by decide) (by decide) ?_
        refine ok_mmin (pc := 203) dX10_givenBy_203 tw_586 rfl (by decide) ?_
        refine ok_mmax (pc := 206) dX10_givenBy_206 tw_589 rfl (by decide) ?_
        refine ok_iret (pc := 209) dX10_givenBy_209 rfl ?_
        have eg : givF σ u x y v w = clmp u (sf 0) := by rw [giv_cd hu, ev]
        have k9 := k _ _ hq hst
        rw [eg] at k9
        unfold clmp at k9
        first
          | (rw [if_pos hu1] at k9; exact k9)
          | (rw [if_neg hu1] at k9; exact k9)
      · have hu1 : u = 0 := (nI_eq (b := 0) (by omega) (by decide)).mp cc_171
        refine ok_bipush (pc := 174) (v := -99) dX10_givenBy_174 (by decide) ?_
        refine ok_bipush (pc := 176) (v := 99) dX10_givenBy_176 (by decide) ?_
        refine ok_aload_n (pc := 178) dX10_givenBy_178 rfl ?_
        refine ok_getf (pc := 179) dX10_givenBy_179 fl_X10_23 ((hq t (by omega)).trans h0) rfl ?_
        refine ok_iconst (pc := 182) (v := 0) dX10_givenBy_182 (by decide) ?_
        refine ok_iald (pc := 183) (0) dX10_givenBy_183 hst rfl (by decide) (by decide) ?_
        refine ok_mmin (pc := 184) dX10_givenBy_184 tw_586 rfl (by decide) ?_
        refine ok_mmax (pc := 187) dX10_givenBy_187 tw_589 rfl (by decide) ?_
        refine ok_goto (pc := 190) 209 dX10_givenBy_190 (by decide) ?_
        refine ok_iret (pc := 209) dX10_givenBy_209 rfl ?_
        have eg : givF σ u x y v w = clmp u (sf 0) := by rw [giv_cd hu, ev]
        have k9 := k _ _ hq hst
        rw [eg] at k9
        unfold clmp at k9
        first
          | (rw [if_pos hu1] at k9; exact k9)
          | (rw [if_neg hu1] at k9; exact k9)
    · exact absurd (by rw [ei]; exact nI_le (by omega) (by omega)) cc_15
  | succ n ih =>
    intro j x5 xi sf M hj ei e5 hq hst hsf
    have hle := wkD_le (cdF σ u).2 0 j
    refine ok_iload (pc := 6) dX10_givenBy_6 rfl ?_
    refine ok_aload_n (pc := 8) dX10_givenBy_8 rfl ?_
    refine ok_getf (pc := 9) dX10_givenBy_9 fl_X10_14 ((hq t (by omega)).trans h0) rfl ?_
    refine ok_getf (pc := 12) dX10_givenBy_12 fl_X10_56 ((hq (t + 1) (by omega)).trans h1) rfl ?_
    refine ok_icmp_ge (pc := 15) 167 dX10_givenBy_15 (by decide) (fun cc_15 => ?_) (fun cc_15 => ?_)
    · rw [ei] at cc_15
      exact absurd cc_15 (nI_ge (by omega) (by omega))
    · have ce_15 := Int32.not_le.mp cc_15
      refine ok_aload_n (pc := 18) dX10_givenBy_18 rfl ?_
      refine ok_getf (pc := 19) dX10_givenBy_19 fl_X10_14 ((hq t (by omega)).trans h0) rfl ?_
      refine ok_iload (pc := 22) dX10_givenBy_22 rfl ?_
      refine ok_callVi1 (pc := 24) (d' := 0) dX10_givenBy_24 vl_X10_59 ((hq (t + 1) (by omega)).trans h1) rfl rfl rfl (by decide) ?_
      refine c_get ((hq (t + 1) (by omega)).trans h1) ((hq (t + 2) (by omega)).trans h2) (cdF σ u).1 rfl hn50 (by decide) j ei (by omega) ?_
      refine ok_istore7 (pc := 27) dX10_givenBy_27 (by decide) rfl ?_
      rw [h3 j (by omega)]
      refine ok_iload (pc := 29) dX10_givenBy_29 rfl ?_
      refine ok_bipush (pc := 31) (v := -4) dX10_givenBy_31 (by decide) ?_
      refine ok_icmp_lt (pc := 33) 79 dX10_givenBy_33 (by decide) (fun cc_33 => ?_) (fun cc_33 => ?_)
      · have ce_33 := Int32.not_le.mpr cc_33
        have cO : 20000 ≤ (cdF σ u).2 j := by
          apply Int32.not_lt.mp
          intro c2
          obtain ⟨g1, g2⟩ := (hwf j (by omega)).1 (by rw [Nat.zero_add]; exact c2)
          rw [Nat.zero_add] at g1 g2
          by_cases c3 : (cdF σ u).2 j < 10000
          · rw [enC_lo c3] at cc_33
            exact absurd (Int32.lt_of_lt_of_le cc_33 (show (-4 : Int32) ≤ 0 by decide)) (Int32.not_lt.mpr g1)
          · obtain ⟨nq, hnq, -, enq⟩ := enC_nm c3 g2
            rw [enq] at cc_33
            rcases (show nq = 0 ∨ nq = 1 ∨ nq = 2 ∨ nq = 3 by omega) with e | e | e | e <;> subst e <;> exact absurd cc_33 (by decide)
        refine ok_iload (pc := 79) dX10_givenBy_79 rfl ?_
        refine ok_bipush (pc := 81) (v := -33) dX10_givenBy_81 (by decide) ?_
        refine ok_icmp_ne (pc := 83) 121 dX10_givenBy_83 (by decide) (fun cc_83 => ?_) (fun cc_83 => ?_)
        · have cN : ¬ (cdF σ u).2 j = 20010 := fun h9 => cc_83 (by rw [h9]; decide)
          refine ok_iload (pc := 121) dX10_givenBy_121 rfl ?_
          refine ok_iconst (pc := 123) (v := 2) dX10_givenBy_123 (by decide) ?_
          refine ok_icmp_lt (pc := 124) 161 dX10_givenBy_124 (by decide) (fun cc_124 => ?_) (fun cc_124 => ?_)
          · have hd2 := (hwf j (by omega)).2.2 (by rw [Nat.zero_add]; exact cO) (by rw [Nat.zero_add]; exact cN)
            rw [e5] at cc_124
            exact absurd cc_124 (nI_nlt (b := 2) hd2 (by omega))
          · have ce_124 := Int32.not_lt.mp cc_124
            refine ok_iinc5 (pc := 127) (v := -1) dX10_givenBy_127 (by decide) (by decide) rfl ?_
            have hd2 := (hwf j (by omega)).2.2 (by rw [Nat.zero_add]; exact cO) (by rw [Nat.zero_add]; exact cN)
            have e5a : x5 + -1 = nI (wkD (cdF σ u).2 0 j - 1) := by rw [e5, show (-1 : Int32) = -(nI 1) from rfl, ← Int32.sub_eq_add_neg, pk_sub (by omega)]
            have e5b : x5 + -1 - 1 = nI (wkD (cdF σ u).2 0 j - 2) := by rw [e5a, fa_lit 1, pk_sub (by omega), Nat.sub_sub]
            refine ok_aload_n (pc := 130) dX10_givenBy_130 rfl ?_
            refine ok_getf (pc := 131) dX10_givenBy_131 fl_X10_23 ((hq t (by omega)).trans h0) rfl ?_
            refine ok_iload (pc := 134) dX10_givenBy_134 rfl ?_
            refine ok_iconst (pc := 136) (v := 1) dX10_givenBy_136 (by decide) ?_
            refine ok_isub (pc := 137) dX10_givenBy_137 ?_
            refine ok_iload (pc := 138) dX10_givenBy_138 rfl ?_
            refine ok_ineg (pc := 140) dX10_givenBy_140 ?_
            refine ok_aload_n (pc := 141) dX10_givenBy_141 rfl ?_
            refine ok_getf (pc := 142) dX10_givenBy_142 fl_X10_23 ((hq t (by omega)).trans h0) rfl ?_
            refine ok_iload (pc := 145) dX10_givenBy_145 rfl ?_
            refine ok_iconst (pc := 147) (v := 1) dX10_givenBy_147 (by decide) ?_
            refine ok_isub (pc := 148) dX10_givenBy_148 ?_
            refine ok_iald (pc := 149) (wkD (cdF σ u).2 0 j - 2) dX10_givenBy_149 hst e5b (by omega) (by decide) ?_
            refine ok_aload_n (pc := 150) dX10_givenBy_150 rfl ?_
            refine ok_getf (pc := 151) dX10_givenBy_151 fl_X10_23 ((hq t (by omega)).trans h0) rfl ?_
            refine ok_iload (pc := 154) dX10_givenBy_154 rfl ?_
            refine ok_iald (pc := 156) (wkD (cdF σ u).2 0 j - 1) dX10_givenBy_156 hst e5a (by omega) (by decide) ?_
            refine ok_callSi3 (pc := 157) (d' := 0) dX10_givenBy_157 sl_X10_110 rfl (by decide) ?_
            refine c_joined cO cN rfl ?_
            refine ok_iast (pc := 160) (wkD (cdF σ u).2 0 j - 2) dX10_givenBy_160 hst e5b (by omega) (by decide) ?_
            skip
            refine ok_iinc6 (pc := 161) (v := 1) dX10_givenBy_161 (by decide) (by decide) rfl ?_
            refine ok_goto (pc := 164) 6 dX10_givenBy_164 (by decide) ?_
            refine ok_drop7 ?_
            have eD : wkD (cdF σ u).2 0 (j + 1) = wkD (cdF σ u).2 0 j - 1 := (by show (if (cdF σ u).2 (0 + j) < 20000 then _ else if (cdF σ u).2 (0 + j) = 20010 then _ else _) = _; rw [Nat.zero_add, if_neg (Int32.not_lt.mpr cO), if_neg cN])
            have eP : (wkP (cdF σ u).2 0 (nm4 x y v w) (fun _ => 0) (j + 1)).2 = upd (wkP (cdF σ u).2 0 (nm4 x y v w) (fun _ => 0) j).2 (wkD (cdF σ u).2 0 j - 2) (opF ((cdF σ u).2 j) ((wkP (cdF σ u).2 0 (nm4 x y v w) (fun _ => 0) j).2 (wkD (cdF σ u).2 0 j - 2)) ((wkP (cdF σ u).2 0 (nm4 x y v w) (fun _ => 0) j).2 (wkD (cdF σ u).2 0 j - 1))) := by
              show (if (cdF σ u).2 (0 + j) < 20000 then _ else if (cdF σ u).2 (0 + j) = 20010 then _ else _ : Nat × Rw).2 = _
              rw [Nat.zero_add, if_neg (Int32.not_lt.mpr cO), if_neg cN, wkP_d]
            refine ih (j + 1) _ _ _ _ (by omega) (by rw [ei, nI_1]) (by rw [eD]; exact e5a) (fun q hq9 => (up_ne hq9).trans (hq q hq9)) up_eq (fun i hi => ?_)
            have hi2 : i < wkD (cdF σ u).2 0 j - 1 := by rw [← eD]; exact hi
            rw [eP]
            have es1 := hsf (wkD (cdF σ u).2 0 j - 1) (by omega)
            have es2 := hsf (wkD (cdF σ u).2 0 j - 2) (by omega)
            rw [es1, es2]
            by_cases h9 : i = wkD (cdF σ u).2 0 j - 2
            · subst h9
              rw [upd_at]
              show _ = upd _ _ _ _
              rw [upd_at]
            · rw [upd_ne h9]
              show _ = upd _ _ _ _
              rw [upd_ne h9]
              exact hsf i (by omega)
        · have cN : (cdF σ u).2 j = 20010 := by
            by_cases c3 : (cdF σ u).2 j = 20010
            · exact c3
            · exact absurd cc_83 (enC_op cO c3).2
          refine ok_iload (pc := 86) dX10_givenBy_86 rfl ?_
          refine ok_iconst (pc := 88) (v := 1) dX10_givenBy_88 (by decide) ?_
          refine ok_icmp_lt (pc := 89) 161 dX10_givenBy_89 (by decide) (fun cc_89 => ?_) (fun cc_89 => ?_)
          · have hd1 := (hwf j (by omega)).2.1 (by rw [Nat.zero_add]; exact cN)
            rw [e5] at cc_89
            exact absurd cc_89 (nI_nlt (b := 1) hd1 (by omega))
          · have ce_89 := Int32.not_lt.mp cc_89
            have hd1 := (hwf j (by omega)).2.1 (by rw [Nat.zero_add]; exact cN)
            refine ok_aload_n (pc := 92) dX10_givenBy_92 rfl ?_
            refine ok_getf (pc := 93) dX10_givenBy_93 fl_X10_23 ((hq t (by omega)).trans h0) rfl ?_
            refine ok_iload (pc := 96) dX10_givenBy_96 rfl ?_
            refine ok_iconst (pc := 98) (v := 1) dX10_givenBy_98 (by decide) ?_
            refine ok_isub (pc := 99) dX10_givenBy_99 ?_
            refine ok_aload_n (pc := 100) dX10_givenBy_100 rfl ?_
            refine ok_getf (pc := 101) dX10_givenBy_101 fl_X10_23 ((hq t (by omega)).trans h0) rfl ?_
            refine ok_iload (pc := 104) dX10_givenBy_104 rfl ?_
            refine ok_iconst (pc := 106) (v := 1) dX10_givenBy_106 (by decide) ?_
            refine ok_isub (pc := 107) dX10_givenBy_107 ?_
            refine ok_iald (pc := 108) (wkD (cdF σ u).2 0 j - 1) dX10_givenBy_108 hst (by rw [e5, fa_lit 1, pk_sub (by omega)]) (by omega) (by decide) ?_
            refine ok_if_ne (pc := 109) 116 dX10_givenBy_109 (by decide) (fun cc_109 => ?_) (fun cc_109 => ?_)
            · refine ok_iconst (pc := 116) (v := 0) dX10_givenBy_116 (by decide) ?_
              refine ok_iast (pc := 117) (wkD (cdF σ u).2 0 j - 1) dX10_givenBy_117 hst (by rw [e5, fa_lit 1, pk_sub (by omega)]) (by omega) (by decide) ?_
              skip
              refine ok_goto (pc := 118) 161 dX10_givenBy_118 (by decide) ?_
              refine ok_iinc6 (pc := 161) (v := 1) dX10_givenBy_161 (by decide) (by decide) rfl ?_
              refine ok_goto (pc := 164) 6 dX10_givenBy_164 (by decide) ?_
              refine ok_drop7 ?_
              have eD : wkD (cdF σ u).2 0 (j + 1) = wkD (cdF σ u).2 0 j := (by show (if (cdF σ u).2 (0 + j) < 20000 then _ else if (cdF σ u).2 (0 + j) = 20010 then _ else _) = _; rw [Nat.zero_add, if_neg (Int32.not_lt.mpr cO), if_pos cN])
              have eP : (wkP (cdF σ u).2 0 (nm4 x y v w) (fun _ => 0) (j + 1)).2 = upd (wkP (cdF σ u).2 0 (nm4 x y v w) (fun _ => 0) j).2 (wkD (cdF σ u).2 0 j - 1) (if (wkP (cdF σ u).2 0 (nm4 x y v w) (fun _ => 0) j).2 (wkD (cdF σ u).2 0 j - 1) = 0 then 1 else 0) := by
                show (if (cdF σ u).2 (0 + j) < 20000 then _ else if (cdF σ u).2 (0 + j) = 20010 then _ else _ : Nat × Rw).2 = _
                rw [Nat.zero_add, if_neg (Int32.not_lt.mpr cO), if_pos cN, wkP_d]
              refine ih (j + 1) _ _ _ _ (by omega) (by rw [ei, nI_1]) (by rw [eD, e5]) (fun q hq9 => (up_ne hq9).trans (hq q hq9)) up_eq (fun i hi => ?_)
              have hi2 : i < wkD (cdF σ u).2 0 j := by rw [← eD]; exact hi
              rw [eP]
              have es1 := hsf (wkD (cdF σ u).2 0 j - 1) (by omega)
              rw [es1] at cc_109
              by_cases h9 : i = wkD (cdF σ u).2 0 j - 1
              · subst h9
                rw [upd_at]
                show _ = upd _ _ _ _
                rw [upd_at, if_neg cc_109]
              · rw [upd_ne h9]
                show _ = upd _ _ _ _
                rw [upd_ne h9]
                exact hsf i hi2
            · refine ok_iconst (pc := 112) (v := 1) dX10_givenBy_112 (by decide) ?_
              refine ok_goto (pc := 113) 117 dX10_givenBy_113 (by decide) ?_
              refine ok_iast (pc := 117) (wkD (cdF σ u).2 0 j - 1) dX10_givenBy_117 hst (by rw [e5, fa_lit 1, pk_sub (by omega)]) (by omega) (by decide) ?_
              skip
              refine ok_goto (pc := 118) 161 dX10_givenBy_118 (by decide) ?_
              refine ok_iinc6 (pc := 161) (v := 1) dX10_givenBy_161 (by decide) (by decide) rfl ?_
              refine ok_goto (pc := 164) 6 dX10_givenBy_164 (by decide) ?_
              refine ok_drop7 ?_
              have eD : wkD (cdF σ u).2 0 (j + 1) = wkD (cdF σ u).2 0 j := (by show (if (cdF σ u).2 (0 + j) < 20000 then _ else if (cdF σ u).2 (0 + j) = 20010 then _ else _) = _; rw [Nat.zero_add, if_neg (Int32.not_lt.mpr cO), if_pos cN])
              have eP : (wkP (cdF σ u).2 0 (nm4 x y v w) (fun _ => 0) (j + 1)).2 = upd (wkP (cdF σ u).2 0 (nm4 x y v w) (fun _ => 0) j).2 (wkD (cdF σ u).2 0 j - 1) (if (wkP (cdF σ u).2 0 (nm4 x y v w) (fun _ => 0) j).2 (wkD (cdF σ u).2 0 j - 1) = 0 then 1 else 0) := by
                show (if (cdF σ u).2 (0 + j) < 20000 then _ else if (cdF σ u).2 (0 + j) = 20010 then _ else _ : Nat × Rw).2 = _
                rw [Nat.zero_add, if_neg (Int32.not_lt.mpr cO), if_pos cN, wkP_d]
              refine ih (j + 1) _ _ _ _ (by omega) (by rw [ei, nI_1]) (by rw [eD, e5]) (fun q hq9 => (up_ne hq9).trans (hq q hq9)) up_eq (fun i hi => ?_)
              have hi2 : i < wkD (cdF σ u).2 0 j := by rw [← eD]; exact hi
              rw [eP]
              have es1 := hsf (wkD (cdF σ u).2 0 j - 1) (by omega)
              rw [es1] at cc_109
              by_cases h9 : i = wkD (cdF σ u).2 0 j - 1
              · subst h9
                rw [upd_at]
                show _ = upd _ _ _ _
                rw [upd_at, if_pos cc_109]
              · rw [upd_ne h9]
                show _ = upd _ _ _ _
                rw [upd_ne h9]
                exact hsf i hi2
      · have ce_33 := Int32.not_lt.mp cc_33
        have cO : (cdF σ u).2 j < 20000 := by
          apply Int32.not_le.mp
          intro c2
          by_cases c3 : (cdF σ u).2 j = 20010
          · rw [c3] at cc_33; exact absurd (by decide) cc_33
          · exact absurd (enC_op c2 c3).1 cc_33
        obtain ⟨g1, g2⟩ := (hwf j (by omega)).1 (by rw [Nat.zero_add]; exact cO)
        rw [Nat.zero_add] at g1 g2
        refine ok_iload (pc := 36) dX10_givenBy_36 rfl ?_
        refine ok_aload_n (pc := 38) dX10_givenBy_38 rfl ?_
        refine ok_getf (pc := 39) dX10_givenBy_39 fl_X10_23 ((hq t (by omega)).trans h0) rfl ?_
        refine ok_alen (pc := 42) (t := 0) dX10_givenBy_42 hst rfl ?_
        refine ok_icmp_ge (pc := 43) 161 dX10_givenBy_43 (by decide) (fun cc_43 => ?_) (fun cc_43 => ?_)
        · rw [e5] at cc_43
          exact absurd cc_43 (nI_ge (b := 50) (by omega) (by decide))
        · have ce_43 := Int32.not_le.mp cc_43
          refine ok_aload_n (pc := 46) dX10_givenBy_46 rfl ?_
          refine ok_getf (pc := 47) dX10_givenBy_47 fl_X10_23 ((hq t (by omega)).trans h0) rfl ?_
          refine ok_iload (pc := 50) dX10_givenBy_50 rfl ?_
          refine ok_iload (pc := 52) dX10_givenBy_52 rfl ?_
          refine ok_if_lt (pc := 54) 62 dX10_givenBy_54 (by decide) (fun cc_54 => ?_) (fun cc_54 => ?_)
          · have ce_54 := Int32.not_le.mpr cc_54
            have c3 : ¬ (cdF σ u).2 j < 10000 := fun c3 => by rw [enC_lo c3] at cc_54; exact absurd cc_54 (Int32.not_lt.mpr g1)
            obtain ⟨nq, hnq, enq2, enq⟩ := enC_nm c3 g2
            refine ok_iload (pc := 62) dX10_givenBy_62 rfl ?_
            refine ok_iload_n (pc := 64) dX10_givenBy_64 rfl ?_
            refine ok_iload_n (pc := 65) dX10_givenBy_65 rfl ?_
            refine ok_iload_n (pc := 66) dX10_givenBy_66 rfl ?_
            refine ok_iload (pc := 67) dX10_givenBy_67 rfl ?_
            refine ok_callSi5 (pc := 69) (d' := 0) dX10_givenBy_69 sl_X10_106 rfl (by decide) ?_
            refine c_nameOf nq hnq enq ?_
            refine ok_iast (pc := 72) (wkD (cdF σ u).2 0 j) dX10_givenBy_72 hst e5 (by omega) (by decide) ?_
            skip
            refine ok_iinc5 (pc := 73) (v := 1) dX10_givenBy_73 (by decide) (by decide) rfl ?_
            refine ok_goto (pc := 76) 161 dX10_givenBy_76 (by decide) ?_
            refine ok_iinc6 (pc := 161) (v := 1) dX10_givenBy_161 (by decide) (by decide) rfl ?_
            refine ok_goto (pc := 164) 6 dX10_givenBy_164 (by decide) ?_
            refine ok_drop7 ?_
            have eD : wkD (cdF σ u).2 0 (j + 1) = wkD (cdF σ u).2 0 j + 1 := (by show (if (cdF σ u).2 (0 + j) < 20000 then _ else _) = _; rw [Nat.zero_add, if_pos cO])
            have eP : (wkP (cdF σ u).2 0 (nm4 x y v w) (fun _ => 0) (j + 1)).2 = upd (wkP (cdF σ u).2 0 (nm4 x y v w) (fun _ => 0) j).2 (wkD (cdF σ u).2 0 j) (if (cdF σ u).2 j < 10000 then (cdF σ u).2 j else nm4 x y v w ((cdF σ u).2 j - 10000).toNatClampNeg) := by
              show (if (cdF σ u).2 (0 + j) < 20000 then _ else _ : Nat × Rw).2 = _
              rw [Nat.zero_add, if_pos cO, wkP_d]
            refine ih (j + 1) _ _ _ _ (by omega) (by rw [ei, nI_1]) (by rw [eD, e5, nI_1]) (fun q hq9 => (up_ne hq9).trans (hq q hq9)) up_eq (fun i hi => ?_)
            have hi2 : i < wkD (cdF σ u).2 0 j + 1 := by rw [← eD]; exact hi
            rw [eP]
            by_cases h9 : i = wkD (cdF σ u).2 0 j
            · subst h9
              rw [upd_at]
              show _ = upd _ _ _ _
              rw [upd_at]
              rw [if_neg c3, enq2, nI_clamp (by omega)]
            · rw [upd_ne h9]
              show _ = upd _ _ _ _
              rw [upd_ne h9]
              exact hsf i (by omega)
          · have ce_54 := Int32.not_lt.mp cc_54
            have c3 : (cdF σ u).2 j < 10000 := by
              apply Int32.not_le.mp
              intro c3
              obtain ⟨nq, hnq, -, enq⟩ := enC_nm (Int32.not_lt.mpr c3) g2
              rw [enq] at cc_54
              rcases (show nq = 0 ∨ nq = 1 ∨ nq = 2 ∨ nq = 3 by omega) with e | e | e | e <;> subst e <;> exact absurd (by decide) cc_54
            refine ok_iload (pc := 57) dX10_givenBy_57 rfl ?_
            refine ok_goto (pc := 59) 72 dX10_givenBy_59 (by decide) ?_
            refine ok_iast (pc := 72) (wkD (cdF σ u).2 0 j) dX10_givenBy_72 hst e5 (by omega) (by decide) ?_
            skip
            refine ok_iinc5 (pc := 73) (v := 1) dX10_givenBy_73 (by decide) (by decide) rfl ?_
            refine ok_goto (pc := 76) 161 dX10_givenBy_76 (by decide) ?_
            refine ok_iinc6 (pc := 161) (v := 1) dX10_givenBy_161 (by decide) (by decide) rfl ?_
            refine ok_goto (pc := 164) 6 dX10_givenBy_164 (by decide) ?_
            refine ok_drop7 ?_
            have eD : wkD (cdF σ u).2 0 (j + 1) = wkD (cdF σ u).2 0 j + 1 := (by show (if (cdF σ u).2 (0 + j) < 20000 then _ else _) = _; rw [Nat.zero_add, if_pos cO])
            have eP : (wkP (cdF σ u).2 0 (nm4 x y v w) (fun _ => 0) (j + 1)).2 = upd (wkP (cdF σ u).2 0 (nm4 x y v w) (fun _ => 0) j).2 (wkD (cdF σ u).2 0 j) (if (cdF σ u).2 j < 10000 then (cdF σ u).2 j else nm4 x y v w ((cdF σ u).2 j - 10000).toNatClampNeg) := by
              show (if (cdF σ u).2 (0 + j) < 20000 then _ else _ : Nat × Rw).2 = _
              rw [Nat.zero_add, if_pos cO, wkP_d]
            refine ih (j + 1) _ _ _ _ (by omega) (by rw [ei, nI_1]) (by rw [eD, e5, nI_1]) (fun q hq9 => (up_ne hq9).trans (hq q hq9)) up_eq (fun i hi => ?_)
            have hi2 : i < wkD (cdF σ u).2 0 j + 1 := by rw [← eD]; exact hi
            rw [eP]
            by_cases h9 : i = wkD (cdF σ u).2 0 j
            · subst h9
              rw [upd_at]
              show _ = upd _ _ _ _
              rw [upd_at]
              rw [if_pos c3, enC_lo c3]
            · rw [upd_ne h9]
              show _ = upd _ _ _ _
              rw [upd_ne h9]
              exact hsf i (by omega)
