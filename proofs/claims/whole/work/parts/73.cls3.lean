/-- a field that a class names by itself, and that lies in one above -/
def FLinkS (own : String) (idx : Nat) (ref : String) (cidx k : Nat) : Prop := ∃ (C : String) (T : u_T) (N : Nat), kc[cidx]? = some (C, T, N) ∧ k < N ∧ (∀ w ∈ u_ws C T N, w ∈ lwg) ∧ Cond.fieldLink own idx ref (T k).2.1 (T k).2.2.1 ∈ lwg ∧ Cond.sameField ref (T k).1 (T k).2.1 (T k).2.2.1 ∈ lwg
theorem ok_getfS {Γ : Cx} {f : Md} {d b pc : Nat} {L : List (Option Value)} {st : List Value} {G : Wd} {Q : Option Value → Wd → Prop} {a cidx k idx : Nat} {fs : List Value} {v : Value} {ref : String} (hd : decode f.2.1 pc = .ok (.getfield idx, 3)) (hl : FLinkS f.1.cls idx ref cidx k) (hG : G.1 a = some (.inr (cidx, fs))) (hv : fs[k]? = some v) (kk : Ok Γ f d b (pc + 3) L (v :: st) G Q) : Ok Γ f d b pc L (.ref a :: st) G Q := by
  intro p e s m args below meth c F H locs cells slots bb h1 h2 hH hS ls hls
  obtain ⟨C, T, N, g1, g2, g3, g4, g5⟩ := hl
  exact va_get (D := Γ.2.1) (cl := kc) (ws := [(a, .inr (cidx, fs))]) F.1 F.2.1 F.2.2.2.2.2.1 g3 F.2.2.2.2.1 F.2.2.2.2.2.2.2.2.1 (hp_P hH hG) 0 rfl g1 k g2 (F.2.2.2.2.2.1 _ g4) (fun x h9 => u_same (F.2.2.2.2.2.1 _ g5) x h9) hv hd (kk p e s m args below meth c F H locs cells slots bb h1 h2 hH hS ls hls)
theorem fs_X8_7_8 : FLinkS RX8 7 "KitePost$Silk" 8 2 := ⟨RX8, TX8, 6, rfl, by decide, inG8, tw_394, tw_395⟩
theorem fs_X8_7_4 : FLinkS RX8 7 "KitePost$Silk" 4 2 := ⟨RX4, TX4, 6, rfl, by decide, inG4, tw_394, tw_395⟩
theorem fs_X3_11_3 : FLinkS RX3 11 "KitePost$LongTailed" 3 5 := ⟨RX3, TX3, 6, rfl, by decide, inG3, tw_404, tw_405⟩
theorem fs_X4_21_4 : FLinkS RX4 21 "KitePost$Old" 4 0 := ⟨RX4, TX4, 6, rfl, by decide, inG4, tw_388, tw_389⟩
theorem rw_in {s : Int32} {n : Nat} (es : s = nI n) (hn : n < 2 ^ 30) : iN s = n := by rw [es]; exact nI_clamp (by omega)

set_option maxHeartbeats 1000000 in
theorem c_get {Γ : Cx} {r c sz n : Nat} {s : Int32} {f : Rw} {M : Nat → Option va_E} (h0 : M r = some (.inr (6, [.ref c, .int s]))) (h1 : M c = aI Γ n f) {K : Int32 → Wd → Prop} (q : Nat) (es : s = nI q) (hq : q ≤ n) (hn : n < 2 ^ 30) {x : Int32} (j : Nat) (ex : x = nI j) (hj : j < q) (k : K (f j) (M, sz)) : Spec Γ mX6_get 0 0 [.ref r, .int x] (M, sz) (ci K) := by
  refine spec_in [some (.ref r), some (.int x)] 0 (by decide) rfl rfl ?_
  refine ok_iload_n (pc := 0) dX6_get_0 rfl ?_
  refine ok_if_lt (pc := 1) 21 dX6_get_1 (by decide) (fun cc_1 => ?_) (fun cc_1 => ?_)
  · rw [ex] at cc_1
    exact absurd cc_1 (nI_pos (by omega))
  · have ce_1 := Int32.not_lt.mp cc_1
    refine ok_iload_n (pc := 4) dX6_get_4 rfl ?_
    refine ok_aload_n (pc := 5) dX6_get_5 rfl ?_
    refine ok_getf (pc := 6) dX6_get_6 fl_X6_19 h0 rfl ?_
    refine ok_icmp_ge (pc := 9) 21 dX6_get_9 (by decide) (fun cc_9 => ?_) (fun cc_9 => ?_)
    · rw [ex, es] at cc_9
      exact absurd cc_9 (nI_ge hj (by omega))
    · have ce_9 := Int32.not_le.mp cc_9
      refine ok_aload_n (pc := 12) dX6_get_12 rfl ?_
      refine ok_getf (pc := 13) dX6_get_13 fl_X6_13 h0 rfl ?_
      refine ok_iload_n (pc := 16) dX6_get_16 rfl ?_
      refine ok_iald (pc := 17) (j) dX6_get_17 h1 ex (by omega) (by omega) ?_
      refine ok_goto (pc := 18) 22 dX6_get_18 (by decide) ?_
      refine ok_iret (pc := 22) dX6_get_22 rfl ?_
      exact k

set_option maxHeartbeats 1000000 in
theorem c_clear {Γ : Cx} {r c sz n : Nat} {s : Int32} {f : Rw} {M : Nat → Option va_E} (h0 : M r = some (.inr (6, [.ref c, .int s]))) (h1 : M c = aI Γ n f) {K : Wd → Prop} (k : K (va_up M r (some (.inr (6, [.ref c, .int 0]))), sz)) : Spec Γ mX6_clear 0 0 [.ref r] (M, sz) (cv K) := by
  refine spec_in [some (.ref r)] 0 (by decide) rfl rfl ?_
  refine ok_aload_n (pc := 0) dX6_clear_0 rfl ?_
  refine ok_iconst (pc := 1) (v := 0) dX6_clear_1 (by decide) ?_
  refine ok_putf (pc := 2) dX6_clear_2 pl_X6_19 h0 rfl rfl (by show 1 < 2; decide) ?_
  skip
  refine ok_vret (pc := 5) dX6_clear_5 rfl ?_
  exact k

set_option maxHeartbeats 1000000 in
theorem c_add {Γ : Cx} {r c sz n : Nat} {s : Int32} {f : Rw} {M : Nat → Option va_E} (h0 : M r = some (.inr (6, [.ref c, .int s]))) (h1 : M c = aI Γ n f) {K : Int32 → Wd → Prop} {v : Int32} (hne : r ≠ c) (q : Nat) (es : s = nI q) (hq : q < n) (hn : n < 2 ^ 30) (k : K 1 (va_up (va_up M c (aI Γ n (upd f q v))) r (some (.inr (6, [.ref c, .int (nI (q + 1))]))), sz)) : Spec Γ mX6_add 0 0 [.ref r, .int v] (M, sz) (ci K) := by
  refine spec_in [some (.ref r), some (.int v)] 0 (by decide) rfl rfl ?_
  refine ok_aload_n (pc := 0) dX6_add_0 rfl ?_
  refine ok_getf (pc := 1) dX6_add_1 fl_X6_19 h0 rfl ?_
  refine ok_aload_n (pc := 4) dX6_add_4 rfl ?_
  refine ok_getf (pc := 5) dX6_add_5 fl_X6_13 h0 rfl ?_
  refine ok_alen (pc := 8) (t := 0) dX6_add_8 h1 rfl ?_
  refine ok_icmp_lt (pc := 9) 14 dX6_add_9 (by decide) (fun cc_9 => ?_) (fun cc_9 => ?_)
  · have ce_9 := Int32.not_le.mpr cc_9
    refine ok_aload_n (pc := 14) dX6_add_14 rfl ?_
    refine ok_getf (pc := 15) dX6_add_15 fl_X6_13 h0 rfl ?_
    refine ok_aload_n (pc := 18) dX6_add_18 rfl ?_
    refine ok_getf (pc := 19) dX6_add_19 fl_X6_19 h0 rfl ?_
    refine ok_iload_n (pc := 22) dX6_add_22 rfl ?_
    refine ok_iast (pc := 23) (q) dX6_add_23 h1 es hq (by omega) ?_
    have h0 := (up_ne (M := M) (e := aI Γ n (upd f q v)) hne).trans h0
    refine ok_aload_n (pc := 24) dX6_add_24 rfl ?_
    refine ok_dup (pc := 25) dX6_add_25 rfl ?_
    refine ok_getf (pc := 26) dX6_add_26 fl_X6_19 h0 rfl ?_
    refine ok_iconst (pc := 29) (v := 1) dX6_add_29 (by decide) ?_
    refine ok_iadd (pc := 30) dX6_add_30 ?_
    refine ok_putf (pc := 31) dX6_add_31 pl_X6_19 h0 rfl rfl (by show 1 < 2; decide) ?_
    rw [es, nI_1]
    refine ok_iconst (pc := 34) (v := 1) dX6_add_34 (by decide) ?_
    refine ok_zret (pc := 35) dX6_add_35 rfl rfl ?_
    exact k
  · rw [es] at cc_9
    exact absurd (nI_lt hq (by omega)) cc_9

set_option maxHeartbeats 1000000 in
theorem c_addF {Γ : Cx} {r c sz n : Nat} {s : Int32} {f : Rw} {M : Nat → Option va_E} (h0 : M r = some (.inr (6, [.ref c, .int s]))) (h1 : M c = aI Γ n f) {K : Int32 → Wd → Prop} {v : Int32} (q : Nat) (es : s = nI q) (hq : n ≤ q) (hn : q < 2 ^ 30) (k : K 0 (M, sz)) : Spec Γ mX6_add 0 0 [.ref r, .int v] (M, sz) (ci K) := by
  refine spec_in [some (.ref r), some (.int v)] 0 (by decide) rfl rfl ?_
  refine ok_aload_n (pc := 0) dX6_add_0 rfl ?_
  refine ok_getf (pc := 1) dX6_add_1 fl_X6_19 h0 rfl ?_
  refine ok_aload_n (pc := 4) dX6_add_4 rfl ?_
  refine ok_getf (pc := 5) dX6_add_5 fl_X6_13 h0 rfl ?_
  refine ok_alen (pc := 8) (t := 0) dX6_add_8 h1 rfl ?_
  refine ok_icmp_lt (pc := 9) 14 dX6_add_9 (by decide) (fun cc_9 => ?_) (fun cc_9 => ?_)
  · rw [es] at cc_9
    exact absurd cc_9 (nI_nlt hq (by omega))
  · have ce_9 := Int32.not_lt.mp cc_9
    refine ok_iconst (pc := 12) (v := 0) dX6_add_12 (by decide) ?_
    refine ok_zret (pc := 13) dX6_add_13 rfl rfl ?_
    exact k

theorem kcl_cases {k : Int32} (h : 0 ≤ k ∧ k ≤ 6) : k = 0 ∨ k = 1 ∨ k = 2 ∨ k = 3 ∨ k = 4 ∨ k = 5 ∨ k = 6 := by
  obtain ⟨j, hj, ej⟩ := nI_of2 (M := 6) (n := 6) rfl (Int32.not_lt.mpr h.1) h.2
  rcases (show j = 0 ∨ j = 1 ∨ j = 2 ∨ j = 3 ∨ j = 4 ∨ j = 5 ∨ j = 6 by omega) with h | h | h | h | h | h | h <;> subst h <;> simp only [ej] <;> decide
theorem bx_eq (x y : Int32) : bxF x y = if y ≤ 2 then x - 9 else x := by
  unfold bxF
  split
  · rfl
  · exact Int32.sub_zero _
theorem sl_eq (x y m : Int32) : slF x y m = if y ≤ 4 then x + m else x - m := by
  unfold slF
  split
  · rfl
  · rw [Int32.sub_eq_add_neg]

set_option maxHeartbeats 1000000 in
theorem c_str2 {Γ : Cx} {q sz : Nat} {M : Nat → Option va_E} {K : Int32 → Wd → Prop} {v0 v1 v2 v3 v4 v5 x y w : Int32} (hq : M q = some (.inr (2, [.int v0, .int v1, .int v2, .int v3, .int v4, .int v5]))) (k : K x (M, sz)) : Spec Γ mX2_strength 0 0 [.ref q, .int x, .int y, .int w] (M, sz) (ci K) := by
  refine spec_in [some (.ref q), some (.int x), some (.int y), some (.int w)] 0 (by decide) rfl rfl ?_
  refine ok_iload_n (pc := 0) dX2_strength_0 rfl ?_
  refine ok_iret (pc := 1) dX2_strength_1 rfl ?_
  exact k

set_option maxHeartbeats 1000000 in
theorem c_str0_0 {Γ : Cx} {q sz : Nat} {M : Nat → Option va_E} {K : Int32 → Wd → Prop} {v0 v1 v2 v3 v4 v5 x y w : Int32} (hq : M q = some (.inr (0, [.int v0, .int v1, .int v2, .int v3, .int v4, .int v5]))) (k : K (bxF x y) (M, sz)) : Spec Γ mX0_strength 0 0 [.ref q, .int x, .int y, .int w] (M, sz) (ci K) := by
  refine spec_in [some (.ref q), some (.int x), some (.int y), some (.int w)] 0 (by decide) rfl rfl ?_
  refine ok_iload_n (pc := 0) dX0_strength_0 rfl ?_
  refine ok_iconst (pc := 1) (v := 2) dX0_strength_1 (by decide) ?_
  refine ok_icmp_gt (pc := 2) 12 dX0_strength_2 (by decide) (fun cc_2 => ?_) (fun cc_2 => ?_)
  · have ce_2 := Int32.not_le.mpr cc_2
    refine ok_iload_n (pc := 12) dX0_strength_12 rfl ?_
    refine ok_iret (pc := 13) dX0_strength_13 rfl ?_
    rw [bx_eq] at k
    simpa [cc_2, ce_2] using k
  · have ce_2 := Int32.not_lt.mp cc_2
    refine ok_iload_n (pc := 5) dX0_strength_5 rfl ?_
    refine ok_bipush (pc := 6) (v := 9) dX0_strength_6 (by decide) ?_
    refine ok_isub (pc := 8) dX0_strength_8 ?_
    refine ok_goto (pc := 9) 13 dX0_strength_9 (by decide) ?_
    refine ok_iret (pc := 13) dX0_strength_13 rfl ?_
    rw [bx_eq] at k
    simpa [cc_2, ce_2] using k

set_option maxHeartbeats 1000000 in
theorem c_str0_1 {Γ : Cx} {q sz : Nat} {M : Nat → Option va_E} {K : Int32 → Wd → Prop} {v0 v1 v2 v3 v4 v5 x y w : Int32} (hq : M q = some (.inr (1, [.int v0, .int v1, .int v2, .int v3, .int v4, .int v5]))) (k : K (bxF x y) (M, sz)) : Spec Γ mX0_strength 0 0 [.ref q, .int x, .int y, .int w] (M, sz) (ci K) := by
  refine spec_in [some (.ref q), some (.int x), some (.int y), some (.int w)] 0 (by decide) rfl rfl ?_
  refine ok_iload_n (pc := 0) dX0_strength_0 rfl ?_
  refine ok_iconst (pc := 1) (v := 2) dX0_strength_1 (by decide) ?_
  refine ok_icmp_gt (pc := 2) 12 dX0_strength_2 (by decide) (fun cc_2 => ?_) (fun cc_2 => ?_)
  · have ce_2 := Int32.not_le.mpr cc_2
    refine ok_iload_n (pc := 12) dX0_strength_12 rfl ?_
    refine ok_iret (pc := 13) dX0_strength_13 rfl ?_
    rw [bx_eq] at k
    simpa [cc_2, ce_2] using k
  · have ce_2 := Int32.not_lt.mp cc_2
    refine ok_iload_n (pc := 5) dX0_strength_5 rfl ?_
    refine ok_bipush (pc := 6) (v := 9) dX0_strength_6 (by decide) ?_
    refine ok_isub (pc := 8) dX0_strength_8 ?_
    refine ok_goto (pc := 9) 13 dX0_strength_9 (by decide) ?_
    refine ok_iret (pc := 13) dX0_strength_13 rfl ?_
    rw [bx_eq] at k
    simpa [cc_2, ce_2] using k

set_option maxHeartbeats 1000000 in
theorem c_str9_9 {Γ : Cx} {q sz : Nat} {M : Nat → Option va_E} {K : Int32 → Wd → Prop} {v0 v1 v2 v3 v4 v5 x y w : Int32} (hq : M q = some (.inr (9, [.int v0, .int v1, .int v2, .int v3, .int v4, .int v5]))) (k : K (x - y) (M, sz)) : Spec Γ mX9_strength 0 0 [.ref q, .int x, .int y, .int w] (M, sz) (ci K) := by
  refine spec_in [some (.ref q), some (.int x), some (.int y), some (.int w)] 0 (by decide) rfl rfl ?_
  refine ok_iload_n (pc := 0) dX9_strength_0 rfl ?_
  refine ok_iload_n (pc := 1) dX9_strength_1 rfl ?_
  refine ok_isub (pc := 2) dX9_strength_2 ?_
  refine ok_iret (pc := 3) dX9_strength_3 rfl ?_
  exact k

set_option maxHeartbeats 1000000 in
theorem c_str9_3 {Γ : Cx} {q sz : Nat} {M : Nat → Option va_E} {K : Int32 → Wd → Prop} {v0 v1 v2 v3 v4 v5 x y w : Int32} (hq : M q = some (.inr (3, [.int v0, .int v1, .int v2, .int v3, .int v4, .int v5]))) (k : K (x - y) (M, sz)) : Spec Γ mX9_strength 0 0 [.ref q, .int x, .int y, .int w] (M, sz) (ci K) := by
  refine spec_in [some (.ref q), some (.int x), some (.int y), some (.int w)] 0 (by decide) rfl rfl ?_
  refine ok_iload_n (pc := 0) dX9_strength_0 rfl ?_
  refine ok_iload_n (pc := 1) dX9_strength_1 rfl ?_
  refine ok_isub (pc := 2) dX9_strength_2 ?_
  refine ok_iret (pc := 3) dX9_strength_3 rfl ?_
  exact k

set_option maxHeartbeats 1000000 in
theorem c_str8_8 {Γ : Cx} {q sz : Nat} {M : Nat → Option va_E} {K : Int32 → Wd → Prop} {v0 v1 v2 v3 v4 v5 x y w : Int32} (hq : M q = some (.inr (8, [.int v0, .int v1, .int v2, .int v3, .int v4, .int v5]))) (k : K (slF x y v2) (M, sz)) : Spec Γ mX8_strength 0 0 [.ref q, .int x, .int y, .int w] (M, sz) (ci K) := by
  refine spec_in [some (.ref q), some (.int x), some (.int y), some (.int w)] 0 (by decide) rfl rfl ?_
  refine ok_iload_n (pc := 0) dX8_strength_0 rfl ?_
  refine ok_iconst (pc := 1) (v := 4) dX8_strength_1 (by decide) ?_
  refine ok_icmp_gt (pc := 2) 14 dX8_strength_2 (by decide) (fun cc_2 => ?_) (fun cc_2 => ?_)
  · have ce_2 := Int32.not_le.mpr cc_2
    refine ok_iload_n (pc := 14) dX8_strength_14 rfl ?_
    refine ok_aload_n (pc := 15) dX8_strength_15 rfl ?_
    refine ok_getfS (pc := 16) dX8_strength_16 fs_X8_7_8 hq rfl ?_
    refine ok_isub (pc := 19) dX8_strength_19 ?_
    refine ok_iret (pc := 20) dX8_strength_20 rfl ?_
    rw [sl_eq] at k
    simpa [cc_2, ce_2] using k
  · have ce_2 := Int32.not_lt.mp cc_2
    refine ok_iload_n (pc := 5) dX8_strength_5 rfl ?_
    refine ok_aload_n (pc := 6) dX8_strength_6 rfl ?_
    refine ok_getfS (pc := 7) dX8_strength_7 fs_X8_7_8 hq rfl ?_
    refine ok_iadd (pc := 10) dX8_strength_10 ?_
    refine ok_goto (pc := 11) 20 dX8_strength_11 (by decide) ?_
    refine ok_iret (pc := 20) dX8_strength_20 rfl ?_
    rw [sl_eq] at k
    simpa [cc_2, ce_2] using k

set_option maxHeartbeats 1000000 in
theorem c_str8_4 {Γ : Cx} {q sz : Nat} {M : Nat → Option va_E} {K : Int32 → Wd → Prop} {v0 v1 v2 v3 v4 v5 x y w : Int32} (hq : M q = some (.inr (4, [.int v0, .int v1, .int v2, .int v3, .int v4, .int v5]))) (k : K (slF x y v2) (M, sz)) : Spec Γ mX8_strength 0 0 [.ref q, .int x, .int y, .int w] (M, sz) (ci K) := by
  refine spec_in [some (.ref q), some (.int x), some (.int y), some (.int w)] 0 (by decide) rfl rfl ?_
  refine ok_iload_n (pc := 0) dX8_strength_0 rfl ?_
  refine ok_iconst (pc := 1) (v := 4) dX8_strength_1 (by decide) ?_
  refine ok_icmp_gt (pc := 2) 14 dX8_strength_2 (by decide) (fun cc_2 => ?_) (fun cc_2 => ?_)
  · have ce_2 := Int32.not_le.mpr cc_2
    refine ok_iload_n (pc := 14) dX8_strength_14 rfl ?_
    refine ok_aload_n (pc := 15) dX8_strength_15 rfl ?_
    refine ok_getfS (pc := 16) dX8_strength_16 fs_X8_7_4 hq rfl ?_
    refine ok_isub (pc := 19) dX8_strength_19 ?_
    refine ok_iret (pc := 20) dX8_strength_20 rfl ?_
    rw [sl_eq] at k
    simpa [cc_2, ce_2] using k
  · have ce_2 := Int32.not_lt.mp cc_2
    refine ok_iload_n (pc := 5) dX8_strength_5 rfl ?_
    refine ok_aload_n (pc := 6) dX8_strength_6 rfl ?_
    refine ok_getfS (pc := 7) dX8_strength_7 fs_X8_7_4 hq rfl ?_
    refine ok_iadd (pc := 10) dX8_strength_10 ?_
    refine ok_goto (pc := 11) 20 dX8_strength_11 (by decide) ?_
    refine ok_iret (pc := 20) dX8_strength_20 rfl ?_
    rw [sl_eq] at k
    simpa [cc_2, ce_2] using k

set_option maxHeartbeats 1000000 in
theorem c_str1 {Γ : Cx} {q sz : Nat} {M : Nat → Option va_E} {K : Int32 → Wd → Prop} {v0 v1 v2 v3 v4 v5 x y w : Int32} (hq : M q = some (.inr (1, [.int v0, .int v1, .int v2, .int v3, .int v4, .int v5]))) (k : K (2 * bxF x y) (M, sz)) : Spec Γ mX1_strength 1 0 [.ref q, .int x, .int y, .int w] (M, sz) (ci K) := by
  refine spec_in [some (.ref q), some (.int x), some (.int y), some (.int w)] 0 (by decide) rfl rfl ?_
  refine ok_iconst (pc := 0) (v := 2) dX1_strength_0 (by decide) ?_
  refine ok_aload_n (pc := 1) dX1_strength_1 rfl ?_
  refine ok_iload_n (pc := 2) dX1_strength_2 rfl ?_
  refine ok_iload_n (pc := 3) dX1_strength_3 rfl ?_
  refine ok_iload_n (pc := 4) dX1_strength_4 rfl ?_
  refine ok_callSUi3 (pc := 5) (d' := 0) dX1_strength_5 sul_X1_7 hq rfl rfl (by decide) ?_
  refine c_str0_1 hq ?_
  refine ok_imul (pc := 8) dX1_strength_8 ?_
  refine ok_iret (pc := 9) dX1_strength_9 rfl ?_
  exact k

set_option maxHeartbeats 1000000 in
theorem c_str3 {Γ : Cx} {q sz : Nat} {M : Nat → Option va_E} {K : Int32 → Wd → Prop} {v0 v1 v2 v3 v4 v5 x y w : Int32} (hq : M q = some (.inr (3, [.int v0, .int v1, .int v2, .int v3, .int v4, .int v5]))) (k : K (x - y + v5 / 4) (M, sz)) : Spec Γ mX3_strength 1 0 [.ref q, .int x, .int y, .int w] (M, sz) (ci K) := by
  refine spec_in [some (.ref q), some (.int x), some (.int y), some (.int w)] 0 (by decide) rfl rfl ?_
  refine ok_aload_n (pc := 0) dX3_strength_0 rfl ?_
  refine ok_iload_n (pc := 1) dX3_strength_1 rfl ?_
  refine ok_iload_n (pc := 2) dX3_strength_2 rfl ?_
  refine ok_iload_n (pc := 3) dX3_strength_3 rfl ?_
  refine ok_callSUi3 (pc := 4) (d' := 0) dX3_strength_4 sul_X3_7 hq rfl rfl (by decide) ?_
  refine c_str9_3 hq ?_
  refine ok_aload_n (pc := 7) dX3_strength_7 rfl ?_
  refine ok_getfS (pc := 8) dX3_strength_8 fs_X3_11_3 hq rfl ?_
  refine ok_iconst (pc := 11) (v := 4) dX3_strength_11 (by decide) ?_
  refine ok_idiv (pc := 12) dX3_strength_12 (by decide) ?_
  refine ok_iadd (pc := 13) dX3_strength_13 ?_
  refine ok_iret (pc := 14) dX3_strength_14 rfl ?_
  exact k

set_option maxHeartbeats 1000000 in
theorem c_str4 {Γ : Cx} {q sz : Nat} {M : Nat → Option va_E} {K : Int32 → Wd → Prop} {v0 v1 v2 v3 v4 v5 x y w : Int32} (hq : M q = some (.inr (4, [.int v0, .int v1, .int v2, .int v3, .int v4, .int v5]))) (k : K (slF x y v2 - w) (M, sz)) : Spec Γ mX4_strength 1 0 [.ref q, .int x, .int y, .int w] (M, sz) (ci K) := by
  refine spec_in [some (.ref q), some (.int x), some (.int y), some (.int w)] 0 (by decide) rfl rfl ?_
  refine ok_aload_n (pc := 0) dX4_strength_0 rfl ?_
  refine ok_iload_n (pc := 1) dX4_strength_1 rfl ?_
  refine ok_iload_n (pc := 2) dX4_strength_2 rfl ?_
  refine ok_iload_n (pc := 3) dX4_strength_3 rfl ?_
  refine ok_callSUi3 (pc := 4) (d' := 0) dX4_strength_4 sul_X4_7 hq rfl rfl (by decide) ?_
  refine c_str8_4 hq ?_
  refine ok_iload_n (pc := 7) dX4_strength_7 rfl ?_
  refine ok_isub (pc := 8) dX4_strength_8 ?_
  refine ok_iret (pc := 9) dX4_strength_9 rfl ?_
  exact k

set_option maxHeartbeats 1000000 in
theorem c_stu2 {Γ : Cx} {q sz : Nat} {M : Nat → Option va_E} {K : Int32 → Wd → Prop} {v0 v1 v2 v3 v4 v5 x y w : Int32} (hq : M q = some (.inr (2, [.int v0, .int v1, .int v2, .int v3, .int v4, .int v5]))) (k : K (x) (M, sz)) : Spec Γ mX2_strength 1 0 [.ref q, .int x, .int y, .int w] (M, sz) (ci K) := by
  refine spec_in [some (.ref q), some (.int x), some (.int y), some (.int w)] 0 (by decide) rfl rfl ?_
  refine ok_iload_n (pc := 0) dX2_strength_0 rfl ?_
  refine ok_iret (pc := 1) dX2_strength_1 rfl ?_
  exact k

set_option maxHeartbeats 1000000 in
theorem c_stu0 {Γ : Cx} {q sz : Nat} {M : Nat → Option va_E} {K : Int32 → Wd → Prop} {v0 v1 v2 v3 v4 v5 x y w : Int32} (hq : M q = some (.inr (0, [.int v0, .int v1, .int v2, .int v3, .int v4, .int v5]))) (k : K (bxF x y) (M, sz)) : Spec Γ mX0_strength 1 0 [.ref q, .int x, .int y, .int w] (M, sz) (ci K) := by
  refine spec_in [some (.ref q), some (.int x), some (.int y), some (.int w)] 0 (by decide) rfl rfl ?_
  refine ok_iload_n (pc := 0) dX0_strength_0 rfl ?_
  refine ok_iconst (pc := 1) (v := 2) dX0_strength_1 (by decide) ?_
  refine ok_icmp_gt (pc := 2) 12 dX0_strength_2 (by decide) (fun cc_2 => ?_) (fun cc_2 => ?_)
  · have ce_2 := Int32.not_le.mpr cc_2
    refine ok_iload_n (pc := 12) dX0_strength_12 rfl ?_
    refine ok_iret (pc := 13) dX0_strength_13 rfl ?_
    rw [bx_eq] at k
    simpa [cc_2, ce_2] using k
  · have ce_2 := Int32.not_lt.mp cc_2
    refine ok_iload_n (pc := 5) dX0_strength_5 rfl ?_
    refine ok_bipush (pc := 6) (v := 9) dX0_strength_6 (by decide) ?_
    refine ok_isub (pc := 8) dX0_strength_8 ?_
    refine ok_goto (pc := 9) 13 dX0_strength_9 (by decide) ?_
    refine ok_iret (pc := 13) dX0_strength_13 rfl ?_
    rw [bx_eq] at k
    simpa [cc_2, ce_2] using k

set_option maxHeartbeats 1000000 in
theorem c_stu9 {Γ : Cx} {q sz : Nat} {M : Nat → Option va_E} {K : Int32 → Wd → Prop} {v0 v1 v2 v3 v4 v5 x y w : Int32} (hq : M q = some (.inr (9, [.int v0, .int v1, .int v2, .int v3, .int v4, .int v5]))) (k : K (x - y) (M, sz)) : Spec Γ mX9_strength 1 0 [.ref q, .int x, .int y, .int w] (M, sz) (ci K) := by
  refine spec_in [some (.ref q), some (.int x), some (.int y), some (.int w)] 0 (by decide) rfl rfl ?_
  refine ok_iload_n (pc := 0) dX9_strength_0 rfl ?_
  refine ok_iload_n (pc := 1) dX9_strength_1 rfl ?_
  refine ok_isub (pc := 2) dX9_strength_2 ?_
  refine ok_iret (pc := 3) dX9_strength_3 rfl ?_
  exact k

set_option maxHeartbeats 1000000 in
theorem c_stu8 {Γ : Cx} {q sz : Nat} {M : Nat → Option va_E} {K : Int32 → Wd → Prop} {v0 v1 v2 v3 v4 v5 x y w : Int32} (hq : M q = some (.inr (8, [.int v0, .int v1, .int v2, .int v3, .int v4, .int v5]))) (k : K (slF x y v2) (M, sz)) : Spec Γ mX8_strength 1 0 [.ref q, .int x, .int y, .int w] (M, sz) (ci K) := by
  refine spec_in [some (.ref q), some (.int x), some (.int y), some (.int w)] 0 (by decide) rfl rfl ?_
  refine ok_iload_n (pc := 0) dX8_strength_0 rfl ?_
  refine ok_iconst (pc := 1) (v := 4) dX8_strength_1 (by decide) ?_
  refine ok_icmp_gt (pc := 2) 14 dX8_strength_2 (by decide) (fun cc_2 => ?_) (fun cc_2 => ?_)
  · have ce_2 := Int32.not_le.mpr cc_2
    refine ok_iload_n (pc := 14) dX8_strength_14 rfl ?_
    refine ok_aload_n (pc := 15) dX8_strength_15 rfl ?_
    refine ok_getfS (pc := 16) dX8_strength_16 fs_X8_7_8 hq rfl ?_
    refine ok_isub (pc := 19) dX8_strength_19 ?_
    refine ok_iret (pc := 20) dX8_strength_20 rfl ?_
    rw [sl_eq] at k
    simpa [cc_2, ce_2] using k
  · have ce_2 := Int32.not_lt.mp cc_2
    refine ok_iload_n (pc := 5) dX8_strength_5 rfl ?_
    refine ok_aload_n (pc := 6) dX8_strength_6 rfl ?_
    refine ok_getfS (pc := 7) dX8_strength_7 fs_X8_7_8 hq rfl ?_
    refine ok_iadd (pc := 10) dX8_strength_10 ?_
    refine ok_goto (pc := 11) 20 dX8_strength_11 (by decide) ?_
    refine ok_iret (pc := 20) dX8_strength_20 rfl ?_
    rw [sl_eq] at k
    simpa [cc_2, ce_2] using k

theorem c_stu1 {Γ : Cx} {q sz : Nat} {M : Nat → Option va_E} {K : Int32 → Wd → Prop} {v0 v1 v2 v3 v4 v5 x y w : Int32} (hq : M q = some (.inr (1, [.int v0, .int v1, .int v2, .int v3, .int v4, .int v5]))) (k : K (2 * bxF x y) (M, sz)) : Spec Γ mX1_strength 1 0 [.ref q, .int x, .int y, .int w] (M, sz) (ci K) := c_str1 hq k
theorem c_stu3 {Γ : Cx} {q sz : Nat} {M : Nat → Option va_E} {K : Int32 → Wd → Prop} {v0 v1 v2 v3 v4 v5 x y w : Int32} (hq : M q = some (.inr (3, [.int v0, .int v1, .int v2, .int v3, .int v4, .int v5]))) (k : K (x - y + v5 / 4) (M, sz)) : Spec Γ mX3_strength 1 0 [.ref q, .int x, .int y, .int w] (M, sz) (ci K) := c_str3 hq k
theorem c_stu4 {Γ : Cx} {q sz : Nat} {M : Nat → Option va_E} {K : Int32 → Wd → Prop} {v0 v1 v2 v3 v4 v5 x y w : Int32} (hq : M q = some (.inr (4, [.int v0, .int v1, .int v2, .int v3, .int v4, .int v5]))) (k : K (slF x y v2 - w) (M, sz)) : Spec Γ mX4_strength 1 0 [.ref q, .int x, .int y, .int w] (M, sz) (ci K) := c_str4 hq k
theorem ok_strength {Γ : Cx} {f : Md} {d b pc e z q sz k0 : Nat} {L : List (Option Value)} {st : List Value} {Q : Option Value → Wd → Prop} {σ : Rw} {M : Nat → Option va_E} {x y w t : Int32} (hf : f.1.cls = RX5) (hd : decode f.2.1 pc = .ok (.invokevirtual 167, 3)) (hK : KtQ e z σ k0 q M) (h6 : 0 ≤ kf σ k0 0 ∧ kf σ k0 0 ≤ 6) (h8 : stk8 st = true) (hdd : 2 ≤ d) (hw : w = t / 24)
    (k : Ok Γ f d b (pc + 3) L (.int (kdF (kf σ k0 0) x y (kf σ k0 1) (kf σ k0 4) t) :: st) (M, sz) Q) : Ok Γ f d b pc L (.int w :: .int y :: .int x :: .ref q :: st) (M, sz) Q := by
  obtain ⟨-, hq⟩ := hK
  unfold kfs at hq
  rcases kcl_cases h6 with h | h | h | h | h | h | h
  · have ek : kcl (kf σ k0 0) = 2 := by rw [h]; rfl
    rw [ek] at hq
    rw [h] at k
    refine ok_callVi3 (d' := 1) hd (hf ▸ vl_X5_167) hq rfl rfl h8 hdd ?_
    refine c_stu2 hq ?_
    skip
    exact k
  · have ek : kcl (kf σ k0 0) = 0 := by rw [h]; rfl
    rw [ek] at hq
    rw [h] at k
    refine ok_callQi3 (d' := 1) hd (hf ▸ ql_X5_167_0) hq rfl h8 hdd ?_
    refine c_stu0 hq ?_
    skip
    exact k
  · have ek : kcl (kf σ k0 0) = 9 := by rw [h]; rfl
    rw [ek] at hq
    rw [h] at k
    refine ok_callQi3 (d' := 1) hd (hf ▸ ql_X5_167_9) hq rfl h8 hdd ?_
    refine c_stu9 hq ?_
    skip
    exact k
  · have ek : kcl (kf σ k0 0) = 8 := by rw [h]; rfl
    rw [ek] at hq
    rw [h] at k
    refine ok_callQi3 (d' := 1) hd (hf ▸ ql_X5_167_8) hq rfl h8 hdd ?_
    refine c_stu8 hq ?_
    skip
    exact k
  · have ek : kcl (kf σ k0 0) = 1 := by rw [h]; rfl
    rw [ek] at hq
    rw [h] at k
    refine ok_callQi3 (d' := 1) hd (hf ▸ ql_X5_167_1) hq rfl h8 hdd ?_
    refine c_stu1 hq ?_
    skip
    exact k
  · have ek : kcl (kf σ k0 0) = 3 := by rw [h]; rfl
    rw [ek] at hq
    rw [h] at k
    refine ok_callQi3 (d' := 1) hd (hf ▸ ql_X5_167_3) hq rfl h8 hdd ?_
    refine c_stu3 hq ?_
    skip
    exact k
  · have ek : kcl (kf σ k0 0) = 4 := by rw [h]; rfl
    rw [ek] at hq
    rw [h] at k
    refine ok_callQi3 (d' := 1) hd (hf ▸ ql_X5_167_4) hq rfl h8 hdd ?_
    refine c_stu4 hq ?_
    rw [hw]
    exact k
