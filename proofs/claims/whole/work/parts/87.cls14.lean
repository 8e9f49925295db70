/-! a Post is made -/
theorem Hv.self {m j : Nat} {M0 M : Nat → Option va_E} {es : List va_E} {e : va_E} (h : Hv m M0 M es) (hg : es[j]? = some e) : Hv (m + j) M M [e] := by
  refine ⟨fun i e' hi => ?_, fun _ _ => rfl, fun _ _ => rfl⟩
  match i, hi with
  | 0, hi =>
    have e1 : e = e' := Option.some.inj hi
    rw [← e1]
    exact h.1 j e hg
theorem Hv.blk {m j : Nat} {M0 M M' : Nat → Option va_E} {es cs : List va_E} (es' : List va_E) (h : Hv m M0 M es) (h2 : Hv (m + j) M M' cs) (hl : j + 1 = es.length) (hc : 1 ≤ cs.length) (he : es.take j ++ cs = es') : Hv m M0 M' es' := by
  subst he
  have ht : (es.take j).length = j := by rw [List.length_take]; omega
  refine ⟨fun i e hi => ?_, fun q hq => ?_, fun q hq => ?_⟩
  · rcases Nat.lt_or_ge i j with g | g
    · rw [List.getElem?_append_left (by omega), List.getElem?_take, if_pos g] at hi
      rw [h2.2.1 _ (by omega)]
      exact h.1 i e hi
    · rw [List.getElem?_append_right (by omega), ht] at hi
      have e9 := h2.1 (i - j) e hi
      rw [show m + j + (i - j) = m + i by omega] at e9
      exact e9
  · exact (h2.2.1 q (by omega)).trans (h.2.1 q hq)
  · rw [List.length_append, ht] at hq
    exact (h2.2.2 q (by omega)).trans (h.2.2 q (by omega))

set_option maxHeartbeats 1000000 in
theorem l_fill {Γ : Cx} {a n0 sz : Nat} {K : Wd → Prop} {v : Int32} (hn : n0 < 2 ^ 30) {M0 : Nat → Option va_E} (k : ∀ M' g, M' a = aI Γ n0 g → (∀ j, j < n0 → g j = v) → Off a 1 M0 M' → K (M', sz)) : ∀ (n : Nat) (j : Nat) (xi : Int32) (g : Rw) (M : Nat → Option va_E), j + n = n0 → xi = nI j → M a = aI Γ n0 g → (∀ q, q < j → g q = v) → Off a 1 M0 M → Ok Γ mJ7_fill_53178 0 0 5 [some (.ref a), some (.int v), some (.int xi), some (.int (nI n0))] [] (M, sz) (cv K) := by
  intro n
  induction n with
  | zero =>
    intro j xi g M h1 ei hA hg hO
    refine ok_iload_n (pc := 5) dJ7_fill_53178_5 rfl ?_
    refine ok_iload_n (pc := 6) dJ7_fill_53178_6 rfl ?_
    refine ok_icmp_ge (pc := 7) 20 dJ7_fill_53178_7 (by decide) (fun cc_7 => ?_) (fun cc_7 => ?_)
    · have ce_7 := Int32.not_lt.mpr cc_7
      have e9 : j = n0 := by omega
      subst e9
      refine ok_vret (pc := 20) dJ7_fill_53178_20 rfl ?_
      exact k _ g hA hg hO
    · exact absurd (by rw [ei]; exact nI_le (by omega) (by omega)) cc_7
  | succ n ih =>
    intro j xi g M h1 ei hA hg hO
    refine ok_iload_n (pc := 5) dJ7_fill_53178_5 rfl ?_
    refine ok_iload_n (pc := 6) dJ7_fill_53178_6 rfl ?_
    refine ok_icmp_ge (pc := 7) 20 dJ7_fill_53178_7 (by decide) (fun cc_7 => ?_) (fun cc_7 => ?_)
    · rw [ei] at cc_7
      exact absurd cc_7 (nI_ge (by omega) (by omega))
    · have ce_7 := Int32.not_le.mp cc_7
      refine ok_aload_n (pc := 10) dJ7_fill_53178_10 rfl ?_
      refine ok_iload_n (pc := 11) dJ7_fill_53178_11 rfl ?_
      refine ok_iload_n (pc := 12) dJ7_fill_53178_12 rfl ?_
      refine ok_iast (pc := 13) j dJ7_fill_53178_13 hA ei (by omega) (by omega) ?_
      refine ok_iinc2 (pc := 14) (v := 1) dJ7_fill_53178_14 (by decide) (by decide) rfl ?_
      refine ok_goto (pc := 17) 5 dJ7_fill_53178_17 (by decide) ?_
      exact ih (j + 1) _ (upd g j v) _ (by omega) (by rw [ei, nI_1]) up_eq (fun q hq => by
        by_cases c : q = j
        · rw [c]; exact upd_at
        · rw [upd_ne c]; exact hg q (by omega)) (fun q hq => (up_ne (by omega)).trans (hO q hq))

set_option maxHeartbeats 1000000 in
theorem c_fill {Γ : Cx} {a n0 sz : Nat} {K : Wd → Prop} {v : Int32} (hn : n0 < 2 ^ 30) {g : Rw} {M : Nat → Option va_E} (hA : M a = aI Γ n0 g) (k : ∀ M' g, M' a = aI Γ n0 g → (∀ j, j < n0 → g j = v) → Off a 1 M M' → K (M', sz)) : Spec Γ mJ7_fill_53178 0 0 [.ref a, .int v] (M, sz) (cv K) := by
  refine spec_in [some (.ref a), some (.int v), none, none] 2 (by decide) rfl rfl ?_
  refine ok_iconst (pc := 0) (v := 0) dJ7_fill_53178_0 (by decide) ?_
  refine ok_istore_n2 (pc := 1) dJ7_fill_53178_1 (by decide) rfl ?_
  refine ok_aload_n (pc := 2) dJ7_fill_53178_2 rfl ?_
  refine ok_alen (pc := 3) (t := 0) dJ7_fill_53178_3 hA rfl ?_
  refine ok_istore_n3 (pc := 4) dJ7_fill_53178_4 (by decide) rfl ?_
  exact l_fill hn k n0 0 _ g M (by omega) rfl hA (fun _ h => absurd h (Nat.not_lt_zero _)) Off.rfl'

set_option maxHeartbeats 1000000 in
theorem c_rowI {Γ : Cx} {r N : Nat} {M0 M : Nat → Option va_E} {K : Wd → Prop} {x : Int32} (ex : x = nI N) (hN : N ≤ 400) (hV : Hv r M0 M [.inr (6, fs0_X6)]) (k : ∀ M', Hv r M0 M' [.inr (6, [.ref (r + 1), .int 0]), .inl (Γ.2.2 1, N, .inl (fun _ => 0))] → K (M', r + 2)) : Spec Γ mX6_init 1 1 [.ref r, .int x] (M, r + 1) (cv K) := by
  have ejm : jmax x 0 = nI N := by
    rw [ex]
    unfold jmax
    exact if_neg (Int32.not_lt.mpr (nI_pos' (by omega)))
  refine spec_in [some (.ref r), some (.int x)] 0 (by decide) rfl rfl ?_
  refine ok_aload_n (pc := 0) dX6_init_0 rfl ?_
  refine ok_objInit (pc := 1) dX6_init_1 tw_123 tw_108 tw_109 rfl (by decide) ?_
  refine ok_aload_n (pc := 4) dX6_init_4 rfl ?_
  refine ok_iload_n (pc := 5) dX6_init_5 rfl ?_
  refine ok_iconst (pc := 6) (v := 0) dX6_init_6 (by decide) ?_
  refine ok_mmax (pc := 7) dX6_init_7 tw_124 rfl (by decide) ?_
  refine hv_newa (pc := 10) N [.inr (6, fs0_X6), .inl (Γ.2.2 1, N, .inl (fun _ => 0))] dX6_init_10 ejm hN rfl rfl hV (fun M hV => ?_)
  refine hv_putF (pc := 12) (j := 0) [.inr (6, [.ref (r + 1), .int 0]), .inl (Γ.2.2 1, N, .inl (fun _ => 0))] dX6_init_12 pl_X6_13 rfl hV rfl rfl rfl rfl (by show 0 < 2; decide) rfl (fun M hV => ?_)
  refine ok_vret (pc := 15) dX6_init_15 rfl ?_
  exact k _ hV

set_option maxHeartbeats 1000000 in
theorem c_txtI0 {Γ : Cx} {t : Nat} {M0 M : Nat → Option va_E} {K : Wd → Prop} (hV : Hv t M0 M [.inr (10, fs0_X10)]) (k : ∀ M', Hv t M0 M' [.inr (10, [.int 0, .ref (t + 1), .ref (t + 3), .ref (t + 5), .null, .int 0, .int 0]), .inr (6, [.ref (t + 1 + 1), .int (nI 1)]), .inl (Γ.2.2 1, 50, .inl (upd (fun _ => 0) 0 0)), .inr (6, [.ref (t + 3 + 1), .int 0]), .inl (Γ.2.2 1, 50, .inl (fun _ => 0)), .inl (Γ.2.2 1, 50, .inl (fun _ => 0))] → K (M', t + 6)) : Spec Γ mX10_init 2 5 [.ref t, .int 0] (M, t + 1) (cv K) := by
  refine spec_in [some (.ref t), some (.int 0)] 0 (by decide) rfl rfl ?_
  refine ok_aload_n (pc := 0) dX10_init_0 rfl ?_
  refine ok_objInit (pc := 1) dX10_init_1 tw_143 tw_108 tw_109 rfl (by decide) ?_
  refine ok_aload_n (pc := 4) dX10_init_4 rfl ?_
  refine hv_new (pc := 5) [.inr (10, fs0_X10), .inr (6, fs0_X6)] dX10_init_5 nl_X10_9 rfl rfl hV (fun M hV => ?_)
  refine ok_dup (pc := 8) dX10_init_8 rfl ?_
  refine ok_bipush (pc := 9) (v := 50) dX10_init_9 (by decide) ?_
  refine ok_callIv1B (pc := 11) (d' := 1) (b' := 1) (b'' := 3) dX10_init_11 il_X10_11 rfl (by decide) (by decide) ?_
  refine c_rowI (N := 50) rfl (by decide) (hV.self (j := 1) rfl) (fun M hV2 => ?_)
  have hV := hV.blk (j := 1) [.inr (10, fs0_X10), .inr (6, [.ref (t + 1 + 1), .int 0]), .inl (Γ.2.2 1, 50, .inl (fun _ => 0))] hV2 rfl (by exact Nat.succ_le_succ (Nat.zero_le _)) rfl
  refine hv_putF (pc := 14) (j := 0) [.inr (10, [.int 0, .ref (t + 1), .null, .null, .null, .int 0, .int 0]), .inr (6, [.ref (t + 1 + 1), .int 0]), .inl (Γ.2.2 1, 50, .inl (fun _ => 0))] dX10_init_14 pl_X10_14 rfl hV rfl rfl rfl rfl (by show 1 < 7; decide) rfl (fun M hV => ?_)
  refine ok_aload_n (pc := 17) dX10_init_17 rfl ?_
  refine hv_new (pc := 18) [.inr (10, [.int 0, .ref (t + 1), .null, .null, .null, .int 0, .int 0]), .inr (6, [.ref (t + 1 + 1), .int 0]), .inl (Γ.2.2 1, 50, .inl (fun _ => 0)), .inr (6, fs0_X6)] dX10_init_18 nl_X10_9 rfl rfl hV (fun M hV => ?_)
  refine ok_dup (pc := 21) dX10_init_21 rfl ?_
  refine ok_bipush (pc := 22) (v := 50) dX10_init_22 (by decide) ?_
  refine ok_callIv1B (pc := 24) (d' := 1) (b' := 1) (b'' := 1) dX10_init_24 il_X10_11 rfl (by decide) (by decide) ?_
  refine c_rowI (N := 50) rfl (by decide) (hV.self (j := 3) rfl) (fun M hV2 => ?_)
  have hV := hV.blk (j := 3) [.inr (10, [.int 0, .ref (t + 1), .null, .null, .null, .int 0, .int 0]), .inr (6, [.ref (t + 1 + 1), .int 0]), .inl (Γ.2.2 1, 50, .inl (fun _ => 0)), .inr (6, [.ref (t + 3 + 1), .int 0]), .inl (Γ.2.2 1, 50, .inl (fun _ => 0))] hV2 rfl (by exact Nat.succ_le_succ (Nat.zero_le _)) rfl
  refine hv_putF (pc := 27) (j := 0) [.inr (10, [.int 0, .ref (t + 1), .ref (t + 3), .null, .null, .int 0, .int 0]), .inr (6, [.ref (t + 1 + 1), .int 0]), .inl (Γ.2.2 1, 50, .inl (fun _ => 0)), .inr (6, [.ref (t + 3 + 1), .int 0]), .inl (Γ.2.2 1, 50, .inl (fun _ => 0))] dX10_init_27 pl_X10_20 rfl hV rfl rfl rfl rfl (by show 2 < 7; decide) rfl (fun M hV => ?_)
  refine ok_aload_n (pc := 30) dX10_init_30 rfl ?_
  refine ok_bipush (pc := 31) (v := 50) dX10_init_31 (by decide) ?_
  refine hv_newa (pc := 33) 50 [.inr (10, [.int 0, .ref (t + 1), .ref (t + 3), .null, .null, .int 0, .int 0]), .inr (6, [.ref (t + 1 + 1), .int 0]), .inl (Γ.2.2 1, 50, .inl (fun _ => 0)), .inr (6, [.ref (t + 3 + 1), .int 0]), .inl (Γ.2.2 1, 50, .inl (fun _ => 0)), .inl (Γ.2.2 1, 50, .inl (fun _ => 0))] dX10_init_33 rfl (by decide) rfl rfl hV (fun M hV => ?_)
  refine hv_putF (pc := 35) (j := 0) [.inr (10, [.int 0, .ref (t + 1), .ref (t + 3), .ref (t + 5), .null, .int 0, .int 0]), .inr (6, [.ref (t + 1 + 1), .int 0]), .inl (Γ.2.2 1, 50, .inl (fun _ => 0)), .inr (6, [.ref (t + 3 + 1), .int 0]), .inl (Γ.2.2 1, 50, .inl (fun _ => 0)), .inl (Γ.2.2 1, 50, .inl (fun _ => 0))] dX10_init_35 pl_X10_23 rfl hV rfl rfl rfl rfl (by show 3 < 7; decide) rfl (fun M hV => ?_)
  refine ok_aload_n (pc := 38) dX10_init_38 rfl ?_
  refine ok_iload_n (pc := 39) dX10_init_39 rfl ?_
  refine hv_putF (pc := 40) (j := 0) [.inr (10, [.int 0, .ref (t + 1), .ref (t + 3), .ref (t + 5), .null, .int 0, .int 0]), .inr (6, [.ref (t + 1 + 1), .int 0]), .inl (Γ.2.2 1, 50, .inl (fun _ => 0)), .inr (6, [.ref (t + 3 + 1), .int 0]), .inl (Γ.2.2 1, 50, .inl (fun _ => 0)), .inl (Γ.2.2 1, 50, .inl (fun _ => 0))] dX10_init_40 pl_X10_27 rfl hV rfl rfl rfl rfl (by show 0 < 7; decide) rfl (fun M hV => ?_)
  refine ok_iload_n (pc := 43) dX10_init_43 rfl ?_
  refine ok_if_ne (pc := 44) 59 dX10_init_44 (by decide) (fun cc_44 => ?_) (fun cc_44 => ?_)
  · exact absurd rfl cc_44
  · refine ok_aload_n (pc := 47) dX10_init_47 rfl ?_
    refine ok_getf (pc := 48) dX10_init_48 fl_X10_14 (hV.1 0 _ rfl) rfl ?_
    refine ok_iconst (pc := 51) (v := 0) dX10_init_51 (by decide) ?_
    refine ok_callVi1 (pc := 52) (d' := 0) dX10_init_52 vl_X10_31 (hV.1 1 _ rfl) rfl rfl rfl (by decide) ?_
    refine c_add (n := 50) (hV.1 1 _ rfl) (hV.1 2 _ rfl) (by omega) 0 rfl (by decide) (by decide) ?_
    have hV := (hV.set 2 (.inl (Γ.2.2 1, 50, .inl (upd (fun _ => 0) 0 0))) (by show 2 < 6; decide)).set 1 (.inr (6, [.ref (t + 1 + 1), .int (nI 1)])) (by show 1 < 6; decide)
    refine ok_pop (pc := 55) dX10_init_55 rfl ?_
    refine ok_goto (pc := 56) 88 dX10_init_56 (by decide) ?_
    refine ok_vret (pc := 88) dX10_init_88 rfl ?_
    exact k _ hV

set_option maxHeartbeats 1000000 in
theorem c_txtI1 {Γ : Cx} {t : Nat} {M0 M : Nat → Option va_E} {K : Wd → Prop} (hV : Hv t M0 M [.inr (10, fs0_X10)]) (k : ∀ M', Hv t M0 M' [.inr (10, [.int 1, .ref (t + 1), .ref (t + 3), .ref (t + 5), .null, .int 0, .int 0]), .inr (6, [.ref (t + 1 + 1), .int (nI 3)]), .inl (Γ.2.2 1, 50, .inl (upd (upd (upd (fun _ => 0) 0 (-2)) 1 1) 2 (-43))), .inr (6, [.ref (t + 3 + 1), .int 0]), .inl (Γ.2.2 1, 50, .inl (fun _ => 0)), .inl (Γ.2.2 1, 50, .inl (fun _ => 0))] → K (M', t + 6)) : Spec Γ mX10_init 2 5 [.ref t, .int 1] (M, t + 1) (cv K) := by
  refine spec_in [some (.ref t), some (.int 1)] 0 (by decide) rfl rfl ?_
  refine ok_aload_n (pc := 0) dX10_init_0 rfl ?_
  refine ok_objInit (pc := 1) dX10_init_1 tw_143 tw_108 tw_109 rfl (by decide) ?_
  refine ok_aload_n (pc := 4) dX10_init_4 rfl ?_
  refine hv_new (pc := 5) [.inr (10, fs0_X10), .inr (6, fs0_X6)] dX10_init_5 nl_X10_9 rfl rfl hV (fun M hV => ?_)
  refine ok_dup (pc := 8) dX10_init_8 rfl ?_
  refine ok_bipush (pc := 9) (v := 50) dX10_init_9 (by decide) ?_
  refine ok_callIv1B (pc := 11) (d' := 1) (b' := 1) (b'' := 3) dX10_init_11 il_X10_11 rfl (by decide) (by decide) ?_
  refine c_rowI (N := 50) rfl (by decide) (hV.self (j := 1) rfl) (fun M hV2 => ?_)
  have hV := hV.blk (j := 1) [.inr (10, fs0_X10), .inr (6, [.ref (t + 1 + 1), .int 0]), .inl (Γ.2.2 1, 50, .inl (fun _ => 0))] hV2 rfl (by exact Nat.succ_le_succ (Nat.zero_le _)) rfl
  refine hv_putF (pc := 14) (j := 0) [.inr (10, [.int 0, .ref (t + 1), .null, .null, .null, .int 0, .int 0]), .inr (6, [.ref (t + 1 + 1), .int 0]), .inl (Γ.2.2 1, 50, .inl (fun _ => 0))] dX10_init_14 pl_X10_14 rfl hV rfl rfl rfl rfl (by show 1 < 7; decide) rfl (fun M hV => ?_)
  refine ok_aload_n (pc := 17) dX10_init_17 rfl ?_
  refine hv_new (pc := 18) [.inr (10, [.int 0, .ref (t + 1), .null, .null, .null, .int 0, .int 0]), .inr (6, [.ref (t + 1 + 1), .int 0]), .inl (Γ.2.2 1, 50, .inl (fun _ => 0)), .inr (6, fs0_X6)] dX10_init_18 nl_X10_9 rfl rfl hV (fun M hV => ?_)
  refine ok_dup (pc := 21) dX10_init_21 rfl ?_
  refine ok_bipush (pc := 22) (v := 50) dX10_init_22 (by decide) ?_
  refine ok_callIv1B (pc := 24) (d' := 1) (b' := 1) (b'' := 1) dX10_init_24 il_X10_11 rfl (by decide) (by decide) ?_
  refine c_rowI (N := 50) rfl (by decide) (hV.self (j := 3) rfl) (fun M hV2 => ?_)
  have hV := hV.blk (j := 3) [.inr (10, [.int 0, .ref (t + 1), .null, .null, .null, .int 0, .int 0]), .inr (6, [.ref (t + 1 + 1), .int 0]), .inl (Γ.2.2 1, 50, .inl (fun _ => 0)), .inr (6, [.ref (t + 3 + 1), .int 0]), .inl (Γ.2.2 1, 50, .inl (fun _ => 0))] hV2 rfl (by exact Nat.succ_le_succ (Nat.zero_le _)) rfl
  refine hv_putF (pc := 27) (j := 0) [.inr (10, [.int 0, .ref (t + 1), .ref (t + 3), .null, .null, .int 0, .int 0]), .inr (6, [.ref (t + 1 + 1), .int 0]), .inl (Γ.2.2 1, 50, .inl (fun _ => 0)), .inr (6, [.ref (t + 3 + 1), .int 0]), .inl (Γ.2.2 1, 50, .inl (fun _ => 0))] dX10_init_27 pl_X10_20 rfl hV rfl rfl rfl rfl (by show 2 < 7; decide) rfl (fun M hV => ?_)
  refine ok_aload_n (pc := 30) dX10_init_30 rfl ?_
  refine ok_bipush (pc := 31) (v := 50) dX10_init_31 (by decide) ?_
  refine hv_newa (pc := 33) 50 [.inr (10, [.int 0, .ref (t + 1), .ref (t + 3), .null, .null, .int 0, .int 0]), .inr (6, [.ref (t + 1 + 1), .int 0]), .inl (Γ.2.2 1, 50, .inl (fun _ => 0)), .inr (6, [.ref (t + 3 + 1), .int 0]), .inl (Γ.2.2 1, 50, .inl (fun _ => 0)), .inl (Γ.2.2 1, 50, .inl (fun _ => 0))] dX10_init_33 rfl (by decide) rfl rfl hV (fun M hV => ?_)
  refine hv_putF (pc := 35) (j := 0) [.inr (10, [.int 0, .ref (t + 1), .ref (t + 3), .ref (t + 5), .null, .int 0, .int 0]), .inr (6, [.ref (t + 1 + 1), .int 0]), .inl (Γ.2.2 1, 50, .inl (fun _ => 0)), .inr (6, [.ref (t + 3 + 1), .int 0]), .inl (Γ.2.2 1, 50, .inl (fun _ => 0)), .inl (Γ.2.2 1, 50, .inl (fun _ => 0))] dX10_init_35 pl_X10_23 rfl hV rfl rfl rfl rfl (by show 3 < 7; decide) rfl (fun M hV => ?_)
  refine ok_aload_n (pc := 38) dX10_init_38 rfl ?_
  refine ok_iload_n (pc := 39) dX10_init_39 rfl ?_
  refine hv_putF (pc := 40) (j := 0) [.inr (10, [.int 1, .ref (t + 1), .ref (t + 3), .ref (t + 5), .null, .int 0, .int 0]), .inr (6, [.ref (t + 1 + 1), .int 0]), .inl (Γ.2.2 1, 50, .inl (fun _ => 0)), .inr (6, [.ref (t + 3 + 1), .int 0]), .inl (Γ.2.2 1, 50, .inl (fun _ => 0)), .inl (Γ.2.2 1, 50, .inl (fun _ => 0))] dX10_init_40 pl_X10_27 rfl hV rfl rfl rfl rfl (by show 0 < 7; decide) rfl (fun M hV => ?_)
  refine ok_iload_n (pc := 43) dX10_init_43 rfl ?_
  refine ok_if_ne (pc := 44) 59 dX10_init_44 (by decide) (fun cc_44 => ?_) (fun cc_44 => ?_)
  · refine ok_aload_n (pc := 59) dX10_init_59 rfl ?_
    refine ok_getf (pc := 60) dX10_init_60 fl_X10_14 (hV.1 0 _ rfl) rfl ?_
    refine ok_bipush (pc := 63) (v := -2) dX10_init_63 (by decide) ?_
    refine ok_callVi1 (pc := 65) (d' := 0) dX10_init_65 vl_X10_31 (hV.1 1 _ rfl) rfl rfl rfl (by decide) ?_
    refine c_add (n := 50) (hV.1 1 _ rfl) (hV.1 2 _ rfl) (by omega) 0 rfl (by decide) (by decide) ?_
    have hV := (hV.set 2 (.inl (Γ.2.2 1, 50, .inl (upd (fun _ => 0) 0 (-2)))) (by show 2 < 6; decide)).set 1 (.inr (6, [.ref (t + 1 + 1), .int (nI 1)])) (by show 1 < 6; decide)
    refine ok_pop (pc := 68) dX10_init_68 rfl ?_
    refine ok_aload_n (pc := 69) dX10_init_69 rfl ?_
    refine ok_getf (pc := 70) dX10_init_70 fl_X10_14 (hV.1 0 _ rfl) rfl ?_
    refine ok_iconst (pc := 73) (v := 1) dX10_init_73 (by decide) ?_
    refine ok_callVi1 (pc := 74) (d' := 0) dX10_init_74 vl_X10_31 (hV.1 1 _ rfl) rfl rfl rfl (by decide) ?_
    refine c_add (n := 50) (hV.1 1 _ rfl) (hV.1 2 _ rfl) (by omega) 1 rfl (by decide) (by decide) ?_
    have hV := (hV.set 2 (.inl (Γ.2.2 1, 50, .inl (upd (upd (fun _ => 0) 0 (-2)) 1 1))) (by show 2 < 6; decide)).set 1 (.inr (6, [.ref (t + 1 + 1), .int (nI 2)])) (by show 1 < 6; decide)
    refine ok_pop (pc := 77) dX10_init_77 rfl ?_
    refine ok_aload_n (pc := 78) dX10_init_78 rfl ?_
    refine ok_getf (pc := 79) dX10_init_79 fl_X10_14 (hV.1 0 _ rfl) rfl ?_
    refine ok_bipush (pc := 82) (v := -43) dX10_init_82 (by decide) ?_
    refine ok_callVi1 (pc := 84) (d' := 0) dX10_init_84 vl_X10_31 (hV.1 1 _ rfl) rfl rfl rfl (by decide) ?_
    refine c_add (n := 50) (hV.1 1 _ rfl) (hV.1 2 _ rfl) (by omega) 2 rfl (by decide) (by decide) ?_
    have hV := (hV.set 2 (.inl (Γ.2.2 1, 50, .inl (upd (upd (upd (fun _ => 0) 0 (-2)) 1 1) 2 (-43)))) (by show 2 < 6; decide)).set 1 (.inr (6, [.ref (t + 1 + 1), .int (nI 3)])) (by show 1 < 6; decide)
    refine ok_pop (pc := 87) dX10_init_87 rfl ?_
    refine ok_vret (pc := 88) dX10_init_88 rfl ?_
    exact k _ hV
  · exact absurd cc_44 (by decide)

set_option maxHeartbeats 1000000 in
theorem c_pstI {Γ : Cx} {p e : Nat} {M0 M : Nat → Option va_E} {K : Wd → Prop} (hV : Hv p M0 M [.inr (5, fs0_X5)]) (k : ∀ M', PstR Γ p e e row0 M' → Off p 26 M0 M' → K (M', p + 26)) : Spec Γ mX5_init 3 25 [.ref p] (M, p + 1) (cv K) := by
  refine spec_in [some (.ref p)] 0 (by decide) rfl rfl ?_
  refine ok_aload_n (pc := 0) dX5_init_0 rfl ?_
  refine ok_objInit (pc := 1) dX5_init_1 tw_115 tw_108 tw_109 rfl (by decide) ?_
  refine ok_aload_n (pc := 4) dX5_init_4 rfl ?_
  refine ok_bipush (pc := 5) (v := 9) dX5_init_5 (by decide) ?_
  refine hv_newa (pc := 7) 9 [.inr (5, fs0_X5), .inl (Γ.2.2 1, 9, .inl (fun _ => 0))] dX5_init_7 rfl (by decide) rfl rfl hV (fun M hV => ?_)
  refine hv_putF (pc := 9) (j := 0) [.inr (5, [.ref (p + 1), .null, .null, .int 0, .null, .null, .null, .int 0, .null, .int 0, .null, .null, .null, .null, .null, .int 0, .int 0, .int 0]), .inl (Γ.2.2 1, 9, .inl (fun _ => 0))] dX5_init_9 pl_X5_9 rfl hV rfl rfl rfl rfl (by show 0 < 18; decide) rfl (fun M hV => ?_)
  refine ok_aload_n (pc := 12) dX5_init_12 rfl ?_
  refine ok_bipush (pc := 13) (v := 9) dX5_init_13 (by decide) ?_
  refine hv_newa (pc := 15) 9 [.inr (5, [.ref (p + 1), .null, .null, .int 0, .null, .null, .null, .int 0, .null, .int 0, .null, .null, .null, .null, .null, .int 0, .int 0, .int 0]), .inl (Γ.2.2 1, 9, .inl (fun _ => 0)), .inl (Γ.2.2 1, 9, .inl (fun _ => 0))] dX5_init_15 rfl (by decide) rfl rfl hV (fun M hV => ?_)
  refine hv_putF (pc := 17) (j := 0) [.inr (5, [.ref (p + 1), .ref (p + 2), .null, .int 0, .null, .null, .null, .int 0, .null, .int 0, .null, .null, .null, .null, .null, .int 0, .int 0, .int 0]), .inl (Γ.2.2 1, 9, .inl (fun _ => 0)), .inl (Γ.2.2 1, 9, .inl (fun _ => 0))] dX5_init_17 pl_X5_15 rfl hV rfl rfl rfl rfl (by show 1 < 18; decide) rfl (fun M hV => ?_)
  refine ok_aload_n (pc := 20) dX5_init_20 rfl ?_
  refine ok_bipush (pc := 21) (v := 9) dX5_init_21 (by decide) ?_
  refine hv_newa (pc := 23) 9 [.inr (5, [.ref (p + 1), .ref (p + 2), .null, .int 0, .null, .null, .null, .int 0, .null, .int 0, .null, .null, .null, .null, .null, .int 0, .int 0, .int 0]), .inl (Γ.2.2 1, 9, .inl (fun _ => 0)), .inl (Γ.2.2 1, 9, .inl (fun _ => 0)), .inl (Γ.2.2 1, 9, .inl (fun _ => 0))] dX5_init_23 rfl (by decide) rfl rfl hV (fun M hV => ?_)
  refine hv_putF (pc := 25) (j := 0) [.inr (5, [.ref (p + 1), .ref (p + 2), .ref (p + 3), .int 0, .null, .null, .null, .int 0, .null, .int 0, .null, .null, .null, .null, .null, .int 0, .int 0, .int 0]), .inl (Γ.2.2 1, 9, .inl (fun _ => 0)), .inl (Γ.2.2 1, 9, .inl (fun _ => 0)), .inl (Γ.2.2 1, 9, .inl (fun _ => 0))] dX5_init_25 pl_X5_18 rfl hV rfl rfl rfl rfl (by show 2 < 18; decide) rfl (fun M hV => ?_)
  refine ok_aload_n (pc := 28) dX5_init_28 rfl ?_
  refine ok_bipush (pc := 29) (v := 24) dX5_init_29 (by decide) ?_
  refine hv_newa (pc := 31) 24 [.inr (5, [.ref (p + 1), .ref (p + 2), .ref (p + 3), .int 0, .null, .null, .null, .int 0, .null, .int 0, .null, .null, .null, .null, .null, .int 0, .int 0, .int 0]), .inl (Γ.2.2 1, 9, .inl (fun _ => 0)), .inl (Γ.2.2 1, 9, .inl (fun _ => 0)), .inl (Γ.2.2 1, 9, .inl (fun _ => 0)), .inl (Γ.2.2 1, 24, .inl (fun _ => 0))] dX5_init_31 rfl (by decide) rfl rfl hV (fun M hV => ?_)
  refine hv_putF (pc := 33) (j := 0) [.inr (5, [.ref (p + 1), .ref (p + 2), .ref (p + 3), .int 0, .ref (p + 4), .null, .null, .int 0, .null, .int 0, .null, .null, .null, .null, .null, .int 0, .int 0, .int 0]), .inl (Γ.2.2 1, 9, .inl (fun _ => 0)), .inl (Γ.2.2 1, 9, .inl (fun _ => 0)), .inl (Γ.2.2 1, 9, .inl (fun _ => 0)), .inl (Γ.2.2 1, 24, .inl (fun _ => 0))] dX5_init_33 pl_X5_21 rfl hV rfl rfl rfl rfl (by show 4 < 18; decide) rfl (fun M hV => ?_)
  refine ok_aload_n (pc := 36) dX5_init_36 rfl ?_
  refine ok_bipush (pc := 37) (v := 8) dX5_init_37 (by decide) ?_
  refine hv_anew (pc := 39) (t := 1) 8 [.inr (5, [.ref (p + 1), .ref (p + 2), .ref (p + 3), .int 0, .ref (p + 4), .null, .null, .int 0, .null, .int 0, .null, .null, .null, .null, .null, .int 0, .int 0, .int 0]), .inl (Γ.2.2 1, 9, .inl (fun _ => 0)), .inl (Γ.2.2 1, 9, .inl (fun _ => 0)), .inl (Γ.2.2 1, 9, .inl (fun _ => 0)), .inl (Γ.2.2 1, 24, .inl (fun _ => 0)), .inl (Γ.2.2 2, 8, .inr (.inr (.inr (.inr (fun _ => none)))))] dX5_init_39 tw_116 (by simp) rfl rfl (by decide) rfl rfl hV (fun M hV => ?_)
  refine hv_putF (pc := 42) (j := 0) [.inr (5, [.ref (p + 1), .ref (p + 2), .ref (p + 3), .int 0, .ref (p + 4), .ref (p + 5), .null, .int 0, .null, .int 0, .null, .null, .null, .null, .null, .int 0, .int 0, .int 0]), .inl (Γ.2.2 1, 9, .inl (fun _ => 0)), .inl (Γ.2.2 1, 9, .inl (fun _ => 0)), .inl (Γ.2.2 1, 9, .inl (fun _ => 0)), .inl (Γ.2.2 1, 24, .inl (fun _ => 0)), .inl (Γ.2.2 2, 8, .inr (.inr (.inr (.inr (fun _ => none)))))] dX5_init_42 pl_X5_26 rfl hV rfl rfl rfl rfl (by show 5 < 18; decide) rfl (fun M hV => ?_)
  refine ok_aload_n (pc := 45) dX5_init_45 rfl ?_
  refine ok_bipush (pc := 46) (v := 8) dX5_init_46 (by decide) ?_
  refine hv_newa (pc := 48) 8 [.inr (5, [.ref (p + 1), .ref (p + 2), .ref (p + 3), .int 0, .ref (p + 4), .ref (p + 5), .null, .int 0, .null, .int 0, .null, .null, .null, .null, .null, .int 0, .int 0, .int 0]), .inl (Γ.2.2 1, 9, .inl (fun _ => 0)), .inl (Γ.2.2 1, 9, .inl (fun _ => 0)), .inl (Γ.2.2 1, 9, .inl (fun _ => 0)), .inl (Γ.2.2 1, 24, .inl (fun _ => 0)), .inl (Γ.2.2 2, 8, .inr (.inr (.inr (.inr (fun _ => none))))), .inl (Γ.2.2 1, 8, .inl (fun _ => 0))] dX5_init_48 rfl (by decide) rfl rfl hV (fun M hV => ?_)
  refine hv_putF (pc := 50) (j := 0) [.inr (5, [.ref (p + 1), .ref (p + 2), .ref (p + 3), .int 0, .ref (p + 4), .ref (p + 5), .ref (p + 6), .int 0, .null, .int 0, .null, .null, .null, .null, .null, .int 0, .int 0, .int 0]), .inl (Γ.2.2 1, 9, .inl (fun _ => 0)), .inl (Γ.2.2 1, 9, .inl (fun _ => 0)), .inl (Γ.2.2 1, 9, .inl (fun _ => 0)), .inl (Γ.2.2 1, 24, .inl (fun _ => 0)), .inl (Γ.2.2 2, 8, .inr (.inr (.inr (.inr (fun _ => none))))), .inl (Γ.2.2 1, 8, .inl (fun _ => 0))] dX5_init_50 pl_X5_30 rfl hV rfl rfl rfl rfl (by show 6 < 18; decide) rfl (fun M hV => ?_)
  refine ok_aload_n (pc := 53) dX5_init_53 rfl ?_
  refine ok_bipush (pc := 54) (v := 84) dX5_init_54 (by decide) ?_
  refine hv_newa (pc := 56) 84 [.inr (5, [.ref (p + 1), .ref (p + 2), .ref (p + 3), .int 0, .ref (p + 4), .ref (p + 5), .ref (p + 6), .int 0, .null, .int 0, .null, .null, .null, .null, .null, .int 0, .int 0, .int 0]), .inl (Γ.2.2 1, 9, .inl (fun _ => 0)), .inl (Γ.2.2 1, 9, .inl (fun _ => 0)), .inl (Γ.2.2 1, 9, .inl (fun _ => 0)), .inl (Γ.2.2 1, 24, .inl (fun _ => 0)), .inl (Γ.2.2 2, 8, .inr (.inr (.inr (.inr (fun _ => none))))), .inl (Γ.2.2 1, 8, .inl (fun _ => 0)), .inl (Γ.2.2 1, 84, .inl (fun _ => 0))] dX5_init_56 rfl (by decide) rfl rfl hV (fun M hV => ?_)
  refine hv_putF (pc := 58) (j := 0) [.inr (5, [.ref (p + 1), .ref (p + 2), .ref (p + 3), .int 0, .ref (p + 4), .ref (p + 5), .ref (p + 6), .int 0, .ref (p + 7), .int 0, .null, .null, .null, .null, .null, .int 0, .int 0, .int 0]), .inl (Γ.2.2 1, 9, .inl (fun _ => 0)), .inl (Γ.2.2 1, 9, .inl (fun _ => 0)), .inl (Γ.2.2 1, 9, .inl (fun _ => 0)), .inl (Γ.2.2 1, 24, .inl (fun _ => 0)), .inl (Γ.2.2 2, 8, .inr (.inr (.inr (.inr (fun _ => none))))), .inl (Γ.2.2 1, 8, .inl (fun _ => 0)), .inl (Γ.2.2 1, 84, .inl (fun _ => 0))] dX5_init_58 pl_X5_33 rfl hV rfl rfl rfl rfl (by show 8 < 18; decide) rfl (fun M hV => ?_)
  refine ok_aload_n (pc := 61) dX5_init_61 rfl ?_
  refine hv_new (pc := 62) [.inr (5, [.ref (p + 1), .ref (p + 2), .ref (p + 3), .int 0, .ref (p + 4), .ref (p + 5), .ref (p + 6), .int 0, .ref (p + 7), .int 0, .null, .null, .null, .null, .null, .int 0, .int 0, .int 0]), .inl (Γ.2.2 1, 9, .inl (fun _ => 0)), .inl (Γ.2.2 1, 9, .inl (fun _ => 0)), .inl (Γ.2.2 1, 9, .inl (fun _ => 0)), .inl (Γ.2.2 1, 24, .inl (fun _ => 0)), .inl (Γ.2.2 2, 8, .inr (.inr (.inr (.inr (fun _ => none))))), .inl (Γ.2.2 1, 8, .inl (fun _ => 0)), .inl (Γ.2.2 1, 84, .inl (fun _ => 0)), .inr (6, fs0_X6)] dX5_init_62 nl_X5_36 rfl rfl hV (fun M hV => ?_)
  refine ok_dup (pc := 65) dX5_init_65 rfl ?_
  refine ok_bipush (pc := 66) (v := 12) dX5_init_66 (by decide) ?_
  refine ok_callIv1B (pc := 68) (d' := 1) (b' := 1) (b'' := 16) dX5_init_68 il_X5_38 rfl (by decide) (by decide) ?_
  refine c_rowI (N := 12) rfl (by decide) (hV.self (j := 8) rfl) (fun M hV2 => ?_)
  have hV := hV.blk (j := 8) [.inr (5, [.ref (p + 1), .ref (p + 2), .ref (p + 3), .int 0, .ref (p + 4), .ref (p + 5), .ref (p + 6), .int 0, .ref (p + 7), .int 0, .null, .null, .null, .null, .null, .int 0, .int 0, .int 0]), .inl (Γ.2.2 1, 9, .inl (fun _ => 0)), .inl (Γ.2.2 1, 9, .inl (fun _ => 0)), .inl (Γ.2.2 1, 9, .inl (fun _ => 0)), .inl (Γ.2.2 1, 24, .inl (fun _ => 0)), .inl (Γ.2.2 2, 8, .inr (.inr (.inr (.inr (fun _ => none))))), .inl (Γ.2.2 1, 8, .inl (fun _ => 0)), .inl (Γ.2.2 1, 84, .inl (fun _ => 0)), .inr (6, [.ref (p + 8 + 1), .int 0]), .inl (Γ.2.2 1, 12, .inl (fun _ => 0))] hV2 rfl (by exact Nat.succ_le_succ (Nat.zero_le _)) rfl
  refine hv_putF (pc := 71) (j := 0) [.inr (5, [.ref (p + 1), .ref (p + 2), .ref (p + 3), .int 0, .ref (p + 4), .ref (p + 5), .ref (p + 6), .int 0, .ref (p + 7), .int 0, .ref (p + 8), .null, .null, .null, .null, .int 0, .int 0, .int 0]), .inl (Γ.2.2 1, 9, .inl (fun _ => 0)), .inl (Γ.2.2 1, 9, .inl (fun _ => 0)), .inl (Γ.2.2 1, 9, .inl (fun _ => 0)), .inl (Γ.2.2 1, 24, .inl (fun _ => 0)), .inl (Γ.2.2 2, 8, .inr (.inr (.inr (.inr (fun _ => none))))), .inl (Γ.2.2 1, 8, .inl (fun _ => 0)), .inl (Γ.2.2 1, 84, .inl (fun _ => 0)), .inr (6, [.ref (p + 8 + 1), .int 0]), .inl (Γ.2.2 1, 12, .inl (fun _ => 0))] dX5_init_71 pl_X5_41 rfl hV rfl rfl rfl rfl (by show 10 < 18; decide) rfl (fun M hV => ?_)
  refine ok_aload_n (pc := 74) dX5_init_74 rfl ?_
  refine hv_new (pc := 75) [.inr (5, [.ref (p + 1), .ref (p + 2), .ref (p + 3), .int 0, .ref (p + 4), .ref (p + 5), .ref (p + 6), .int 0, .ref (p + 7), .int 0, .ref (p + 8), .null, .null, .null, .null, .int 0, .int 0, .int 0]), .inl (Γ.2.2 1, 9, .inl (fun _ => 0)), .inl (Γ.2.2 1, 9, .inl (fun _ => 0)), .inl (Γ.2.2 1, 9, .inl (fun _ => 0)), .inl (Γ.2.2 1, 24, .inl (fun _ => 0)), .inl (Γ.2.2 2, 8, .inr (.inr (.inr (.inr (fun _ => none))))), .inl (Γ.2.2 1, 8, .inl (fun _ => 0)), .inl (Γ.2.2 1, 84, .inl (fun _ => 0)), .inr (6, [.ref (p + 8 + 1), .int 0]), .inl (Γ.2.2 1, 12, .inl (fun _ => 0)), .inr (6, fs0_X6)] dX5_init_75 nl_X5_36 rfl rfl hV (fun M hV => ?_)
  refine ok_dup (pc := 78) dX5_init_78 rfl ?_
  refine ok_bipush (pc := 79) (v := 50) dX5_init_79 (by decide) ?_
  refine ok_callIv1B (pc := 81) (d' := 1) (b' := 1) (b'' := 14) dX5_init_81 il_X5_38 rfl (by decide) (by decide) ?_
  refine c_rowI (N := 50) rfl (by decide) (hV.self (j := 10) rfl) (fun M hV2 => ?_)
  have hV := hV.blk (j := 10) [.inr (5, [.ref (p + 1), .ref (p + 2), .ref (p + 3), .int 0, .ref (p + 4), .ref (p + 5), .ref (p + 6), .int 0, .ref (p + 7), .int 0, .ref (p + 8), .null, .null, .null, .null, .int 0, .int 0, .int 0]), .inl (Γ.2.2 1, 9, .inl (fun _ => 0)), .inl (Γ.2.2 1, 9, .inl (fun _ => 0)), .inl (Γ.2.2 1, 9, .inl (fun _ => 0)), .inl (Γ.2.2 1, 24, .inl (fun _ => 0)), .inl (Γ.2.2 2, 8, .inr (.inr (.inr (.inr (fun _ => none))))), .inl (Γ.2.2 1, 8, .inl (fun _ => 0)), .inl (Γ.2.2 1, 84, .inl (fun _ => 0)), .inr (6, [.ref (p + 8 + 1), .int 0]), .inl (Γ.2.2 1, 12, .inl (fun _ => 0)), .inr (6, [.ref (p + 10 + 1), .int 0]), .inl (Γ.2.2 1, 50, .inl (fun _ => 0))] hV2 rfl (by exact Nat.succ_le_succ (Nat.zero_le _)) rfl
  refine hv_putF (pc := 84) (j := 0) [.inr (5, [.ref (p + 1), .ref (p + 2), .ref (p + 3), .int 0, .ref (p + 4), .ref (p + 5), .ref (p + 6), .int 0, .ref (p + 7), .int 0, .ref (p + 8), .ref (p + 10), .null, .null, .null, .int 0, .int 0, .int 0]), .inl (Γ.2.2 1, 9, .inl (fun _ => 0)), .inl (Γ.2.2 1, 9, .inl (fun _ => 0)), .inl (Γ.2.2 1, 9, .inl (fun _ => 0)), .inl (Γ.2.2 1, 24, .inl (fun _ => 0)), .inl (Γ.2.2 2, 8, .inr (.inr (.inr (.inr (fun _ => none))))), .inl (Γ.2.2 1, 8, .inl (fun _ => 0)), .inl (Γ.2.2 1, 84, .inl (fun _ => 0)), .inr (6, [.ref (p + 8 + 1), .int 0]), .inl (Γ.2.2 1, 12, .inl (fun _ => 0)), .inr (6, [.ref (p + 10 + 1), .int 0]), .inl (Γ.2.2 1, 50, .inl (fun _ => 0))] dX5_init_84 pl_X5_45 rfl hV rfl rfl rfl rfl (by show 11 < 18; decide) rfl (fun M hV => ?_)
  refine ok_aload_n (pc := 87) dX5_init_87 rfl ?_
  refine hv_new (pc := 88) [.inr (5, [.ref (p + 1), .ref (p + 2), .ref (p + 3), .int 0, .ref (p + 4), .ref (p + 5), .ref (p + 6), .int 0, .ref (p + 7), .int 0, .ref (p + 8), .ref (p + 10), .null, .null, .null, .int 0, .int 0, .int 0]), .inl (Γ.2.2 1, 9, .inl (fun _ => 0)), .inl (Γ.2.2 1, 9, .inl (fun _ => 0)), .inl (Γ.2.2 1, 9, .inl (fun _ => 0)), .inl (Γ.2.2 1, 24, .inl (fun _ => 0)), .inl (Γ.2.2 2, 8, .inr (.inr (.inr (.inr (fun _ => none))))), .inl (Γ.2.2 1, 8, .inl (fun _ => 0)), .inl (Γ.2.2 1, 84, .inl (fun _ => 0)), .inr (6, [.ref (p + 8 + 1), .int 0]), .inl (Γ.2.2 1, 12, .inl (fun _ => 0)), .inr (6, [.ref (p + 10 + 1), .int 0]), .inl (Γ.2.2 1, 50, .inl (fun _ => 0)), .inr (6, fs0_X6)] dX5_init_88 nl_X5_36 rfl rfl hV (fun M hV => ?_)
  refine ok_dup (pc := 91) dX5_init_91 rfl ?_
  refine ok_bipush (pc := 92) (v := 20) dX5_init_92 (by decide) ?_
  refine ok_callIv1B (pc := 94) (d' := 1) (b' := 1) (b'' := 12) dX5_init_94 il_X5_38 rfl (by decide) (by decide) ?_
  refine c_rowI (N := 20) rfl (by decide) (hV.self (j := 12) rfl) (fun M hV2 => ?_)
  have hV := hV.blk (j := 12) [.inr (5, [.ref (p + 1), .ref (p + 2), .ref (p + 3), .int 0, .ref (p + 4), .ref (p + 5), .ref (p + 6), .int 0, .ref (p + 7), .int 0, .ref (p + 8), .ref (p + 10), .null, .null, .null, .int 0, .int 0, .int 0]), .inl (Γ.2.2 1, 9, .inl (fun _ => 0)), .inl (Γ.2.2 1, 9, .inl (fun _ => 0)), .inl (Γ.2.2 1, 9, .inl (fun _ => 0)), .inl (Γ.2.2 1, 24, .inl (fun _ => 0)), .inl (Γ.2.2 2, 8, .inr (.inr (.inr (.inr (fun _ => none))))), .inl (Γ.2.2 1, 8, .inl (fun _ => 0)), .inl (Γ.2.2 1, 84, .inl (fun _ => 0)), .inr (6, [.ref (p + 8 + 1), .int 0]), .inl (Γ.2.2 1, 12, .inl (fun _ => 0)), .inr (6, [.ref (p + 10 + 1), .int 0]), .inl (Γ.2.2 1, 50, .inl (fun _ => 0)), .inr (6, [.ref (p + 12 + 1), .int 0]), .inl (Γ.2.2 1, 20, .inl (fun _ => 0))] hV2 rfl (by exact Nat.succ_le_succ (Nat.zero_le _)) rfl
  refine hv_putF (pc := 97) (j := 0) [.inr (5, [.ref (p + 1), .ref (p + 2), .ref (p + 3), .int 0, .ref (p + 4), .ref (p + 5), .ref (p + 6), .int 0, .ref (p + 7), .int 0, .ref (p + 8), .ref (p + 10), .ref (p + 12), .null, .null, .int 0, .int 0, .int 0]), .inl (Γ.2.2 1, 9, .inl (fun _ => 0)), .inl (Γ.2.2 1, 9, .inl (fun _ => 0)), .inl (Γ.2.2 1, 9, .inl (fun _ => 0)), .inl (Γ.2.2 1, 24, .inl (fun _ => 0)), .inl (Γ.2.2 2, 8, .inr (.inr (.inr (.inr (fun _ => none))))), .inl (Γ.2.2 1, 8, .inl (fun _ => 0)), .inl (Γ.2.2 1, 84, .inl (fun _ => 0)), .inr (6, [.ref (p + 8 + 1), .int 0]), .inl (Γ.2.2 1, 12, .inl (fun _ => 0)), .inr (6, [.ref (p + 10 + 1), .int 0]), .inl (Γ.2.2 1, 50, .inl (fun _ => 0)), .inr (6, [.ref (p + 12 + 1), .int 0]), .inl (Γ.2.2 1, 20, .inl (fun _ => 0))] dX5_init_97 pl_X5_48 rfl hV rfl rfl rfl rfl (by show 12 < 18; decide) rfl (fun M hV => ?_)
  refine ok_aload_n (pc := 100) dX5_init_100 rfl ?_
  refine hv_new (pc := 101) [.inr (5, [.ref (p + 1), .ref (p + 2), .ref (p + 3), .int 0, .ref (p + 4), .ref (p + 5), .ref (p + 6), .int 0, .ref (p + 7), .int 0, .ref (p + 8), .ref (p + 10), .ref (p + 12), .null, .null, .int 0, .int 0, .int 0]), .inl (Γ.2.2 1, 9, .inl (fun _ => 0)), .inl (Γ.2.2 1, 9, .inl (fun _ => 0)), .inl (Γ.2.2 1, 9, .inl (fun _ => 0)), .inl (Γ.2.2 1, 24, .inl (fun _ => 0)), .inl (Γ.2.2 2, 8, .inr (.inr (.inr (.inr (fun _ => none))))), .inl (Γ.2.2 1, 8, .inl (fun _ => 0)), .inl (Γ.2.2 1, 84, .inl (fun _ => 0)), .inr (6, [.ref (p + 8 + 1), .int 0]), .inl (Γ.2.2 1, 12, .inl (fun _ => 0)), .inr (6, [.ref (p + 10 + 1), .int 0]), .inl (Γ.2.2 1, 50, .inl (fun _ => 0)), .inr (6, [.ref (p + 12 + 1), .int 0]), .inl (Γ.2.2 1, 20, .inl (fun _ => 0)), .inr (10, fs0_X10)] dX5_init_101 nl_X5_51 rfl rfl hV (fun M hV => ?_)
  refine ok_dup (pc := 104) dX5_init_104 rfl ?_
  refine ok_iconst (pc := 105) (v := 0) dX5_init_105 (by decide) ?_
  refine ok_callIv1B (pc := 106) (d' := 2) (b' := 5) (b'' := 6) dX5_init_106 il_X5_53 rfl (by decide) (by decide) ?_
  refine c_txtI0 (hV.self (j := 14) rfl) (fun M hV2 => ?_)
  have hV := hV.blk (j := 14) [.inr (5, [.ref (p + 1), .ref (p + 2), .ref (p + 3), .int 0, .ref (p + 4), .ref (p + 5), .ref (p + 6), .int 0, .ref (p + 7), .int 0, .ref (p + 8), .ref (p + 10), .ref (p + 12), .null, .null, .int 0, .int 0, .int 0]), .inl (Γ.2.2 1, 9, .inl (fun _ => 0)), .inl (Γ.2.2 1, 9, .inl (fun _ => 0)), .inl (Γ.2.2 1, 9, .inl (fun _ => 0)), .inl (Γ.2.2 1, 24, .inl (fun _ => 0)), .inl (Γ.2.2 2, 8, .inr (.inr (.inr (.inr (fun _ => none))))), .inl (Γ.2.2 1, 8, .inl (fun _ => 0)), .inl (Γ.2.2 1, 84, .inl (fun _ => 0)), .inr (6, [.ref (p + 8 + 1), .int 0]), .inl (Γ.2.2 1, 12, .inl (fun _ => 0)), .inr (6, [.ref (p + 10 + 1), .int 0]), .inl (Γ.2.2 1, 50, .inl (fun _ => 0)), .inr (6, [.ref (p + 12 + 1), .int 0]), .inl (Γ.2.2 1, 20, .inl (fun _ => 0)), .inr (10, [.int 0, .ref (p + 14 + 1), .ref (p + 14 + 3), .ref (p + 14 + 5), .null, .int 0, .int 0]), .inr (6, [.ref (p + 14 + 1 + 1), .int (nI 1)]), .inl (Γ.2.2 1, 50, .inl (upd (fun _ => 0) 0 0)), .inr (6, [.ref (p + 14 + 3 + 1), .int 0]), .inl (Γ.2.2 1, 50, .inl (fun _ => 0)), .inl (Γ.2.2 1, 50, .inl (fun _ => 0))] hV2 rfl (by exact Nat.succ_le_succ (Nat.zero_le _)) rfl
  refine hv_putF (pc := 109) (j := 0) [.inr (5, [.ref (p + 1), .ref (p + 2), .ref (p + 3), .int 0, .ref (p + 4), .ref (p + 5), .ref (p + 6), .int 0, .ref (p + 7), .int 0, .ref (p + 8), .ref (p + 10), .ref (p + 12), .ref (p + 14), .null, .int 0, .int 0, .int 0]), .inl (Γ.2.2 1, 9, .inl (fun _ => 0)), .inl (Γ.2.2 1, 9, .inl (fun _ => 0)), .inl (Γ.2.2 1, 9, .inl (fun _ => 0)), .inl (Γ.2.2 1, 24, .inl (fun _ => 0)), .inl (Γ.2.2 2, 8, .inr (.inr (.inr (.inr (fun _ => none))))), .inl (Γ.2.2 1, 8, .inl (fun _ => 0)), .inl (Γ.2.2 1, 84, .inl (fun _ => 0)), .inr (6, [.ref (p + 8 + 1), .int 0]), .inl (Γ.2.2 1, 12, .inl (fun _ => 0)), .inr (6, [.ref (p + 10 + 1), .int 0]), .inl (Γ.2.2 1, 50, .inl (fun _ => 0)), .inr (6, [.ref (p + 12 + 1), .int 0]), .inl (Γ.2.2 1, 20, .inl (fun _ => 0)), .inr (10, [.int 0, .ref (p + 14 + 1), .ref (p + 14 + 3), .ref (p + 14 + 5), .null, .int 0, .int 0]), .inr (6, [.ref (p + 14 + 1 + 1), .int (nI 1)]), .inl (Γ.2.2 1, 50, .inl (upd (fun _ => 0) 0 0)), .inr (6, [.ref (p + 14 + 3 + 1), .int 0]), .inl (Γ.2.2 1, 50, .inl (fun _ => 0)), .inl (Γ.2.2 1, 50, .inl (fun _ => 0))] dX5_init_109 pl_X5_54 rfl hV rfl rfl rfl rfl (by show 13 < 18; decide) rfl (fun M hV => ?_)
  refine ok_aload_n (pc := 112) dX5_init_112 rfl ?_
  refine hv_new (pc := 113) [.inr (5, [.ref (p + 1), .ref (p + 2), .ref (p + 3), .int 0, .ref (p + 4), .ref (p + 5), .ref (p + 6), .int 0, .ref (p + 7), .int 0, .ref (p + 8), .ref (p + 10), .ref (p + 12), .ref (p + 14), .null, .int 0, .int 0, .int 0]), .inl (Γ.2.2 1, 9, .inl (fun _ => 0)), .inl (Γ.2.2 1, 9, .inl (fun _ => 0)), .inl (Γ.2.2 1, 9, .inl (fun _ => 0)), .inl (Γ.2.2 1, 24, .inl (fun _ => 0)), .inl (Γ.2.2 2, 8, .inr (.inr (.inr (.inr (fun _ => none))))), .inl (Γ.2.2 1, 8, .inl (fun _ => 0)), .inl (Γ.2.2 1, 84, .inl (fun _ => 0)), .inr (6, [.ref (p + 8 + 1), .int 0]), .inl (Γ.2.2 1, 12, .inl (fun _ => 0)), .inr (6, [.ref (p + 10 + 1), .int 0]), .inl (Γ.2.2 1, 50, .inl (fun _ => 0)), .inr (6, [.ref (p + 12 + 1), .int 0]), .inl (Γ.2.2 1, 20, .inl (fun _ => 0)), .inr (10, [.int 0, .ref (p + 14 + 1), .ref (p + 14 + 3), .ref (p + 14 + 5), .null, .int 0, .int 0]), .inr (6, [.ref (p + 14 + 1 + 1), .int (nI 1)]), .inl (Γ.2.2 1, 50, .inl (upd (fun _ => 0) 0 0)), .inr (6, [.ref (p + 14 + 3 + 1), .int 0]), .inl (Γ.2.2 1, 50, .inl (fun _ => 0)), .inl (Γ.2.2 1, 50, .inl (fun _ => 0)), .inr (10, fs0_X10)] dX5_init_113 nl_X5_51 rfl rfl hV (fun M hV => ?_)
  refine ok_dup (pc := 116) dX5_init_116 rfl ?_
  refine ok_iconst (pc := 117) (v := 1) dX5_init_117 (by decide) ?_
  refine ok_callIv1B (pc := 118) (d' := 2) (b' := 5) (b'' := 0) dX5_init_118 il_X5_53 rfl (by decide) (by decide) ?_
  refine c_txtI1 (hV.self (j := 20) rfl) (fun M hV2 => ?_)
  have hV := hV.blk (j := 20) [.inr (5, [.ref (p + 1), .ref (p + 2), .ref (p + 3), .int 0, .ref (p + 4), .ref (p + 5), .ref (p + 6), .int 0, .ref (p + 7), .int 0, .ref (p + 8), .ref (p + 10), .ref (p + 12), .ref (p + 14), .null, .int 0, .int 0, .int 0]), .inl (Γ.2.2 1, 9, .inl (fun _ => 0)), .inl (Γ.2.2 1, 9, .inl (fun _ => 0)), .inl (Γ.2.2 1, 9, .inl (fun _ => 0)), .inl (Γ.2.2 1, 24, .inl (fun _ => 0)), .inl (Γ.2.2 2, 8, .inr (.inr (.inr (.inr (fun _ => none))))), .inl (Γ.2.2 1, 8, .inl (fun _ => 0)), .inl (Γ.2.2 1, 84, .inl (fun _ => 0)), .inr (6, [.ref (p + 8 + 1), .int 0]), .inl (Γ.2.2 1, 12, .inl (fun _ => 0)), .inr (6, [.ref (p + 10 + 1), .int 0]), .inl (Γ.2.2 1, 50, .inl (fun _ => 0)), .inr (6, [.ref (p + 12 + 1), .int 0]), .inl (Γ.2.2 1, 20, .inl (fun _ => 0)), .inr (10, [.int 0, .ref (p + 14 + 1), .ref (p + 14 + 3), .ref (p + 14 + 5), .null, .int 0, .int 0]), .inr (6, [.ref (p + 14 + 1 + 1), .int (nI 1)]), .inl (Γ.2.2 1, 50, .inl (upd (fun _ => 0) 0 0)), .inr (6, [.ref (p + 14 + 3 + 1), .int 0]), .inl (Γ.2.2 1, 50, .inl (fun _ => 0)), .inl (Γ.2.2 1, 50, .inl (fun _ => 0)), .inr (10, [.int 1, .ref (p + 20 + 1), .ref (p + 20 + 3), .ref (p + 20 + 5), .null, .int 0, .int 0]), .inr (6, [.ref (p + 20 + 1 + 1), .int (nI 3)]), .inl (Γ.2.2 1, 50, .inl (upd (upd (upd (fun _ => 0) 0 (-2)) 1 1) 2 (-43))), .inr (6, [.ref (p + 20 + 3 + 1), .int 0]), .inl (Γ.2.2 1, 50, .inl (fun _ => 0)), .inl (Γ.2.2 1, 50, .inl (fun _ => 0))] hV2 rfl (by exact Nat.succ_le_succ (Nat.zero_le _)) rfl
  refine hv_putF (pc := 121) (j := 0) [.inr (5, [.ref (p + 1), .ref (p + 2), .ref (p + 3), .int 0, .ref (p + 4), .ref (p + 5), .ref (p + 6), .int 0, .ref (p + 7), .int 0, .ref (p + 8), .ref (p + 10), .ref (p + 12), .ref (p + 14), .ref (p + 20), .int 0, .int 0, .int 0]), .inl (Γ.2.2 1, 9, .inl (fun _ => 0)), .inl (Γ.2.2 1, 9, .inl (fun _ => 0)), .inl (Γ.2.2 1, 9, .inl (fun _ => 0)), .inl (Γ.2.2 1, 24, .inl (fun _ => 0)), .inl (Γ.2.2 2, 8, .inr (.inr (.inr (.inr (fun _ => none))))), .inl (Γ.2.2 1, 8, .inl (fun _ => 0)), .inl (Γ.2.2 1, 84, .inl (fun _ => 0)), .inr (6, [.ref (p + 8 + 1), .int 0]), .inl (Γ.2.2 1, 12, .inl (fun _ => 0)), .inr (6, [.ref (p + 10 + 1), .int 0]), .inl (Γ.2.2 1, 50, .inl (fun _ => 0)), .inr (6, [.ref (p + 12 + 1), .int 0]), .inl (Γ.2.2 1, 20, .inl (fun _ => 0)), .inr (10, [.int 0, .ref (p + 14 + 1), .ref (p + 14 + 3), .ref (p + 14 + 5), .null, .int 0, .int 0]), .inr (6, [.ref (p + 14 + 1 + 1), .int (nI 1)]), .inl (Γ.2.2 1, 50, .inl (upd (fun _ => 0) 0 0)), .inr (6, [.ref (p + 14 + 3 + 1), .int 0]), .inl (Γ.2.2 1, 50, .inl (fun _ => 0)), .inl (Γ.2.2 1, 50, .inl (fun _ => 0)), .inr (10, [.int 1, .ref (p + 20 + 1), .ref (p + 20 + 3), .ref (p + 20 + 5), .null, .int 0, .int 0]), .inr (6, [.ref (p + 20 + 1 + 1), .int (nI 3)]), .inl (Γ.2.2 1, 50, .inl (upd (upd (upd (fun _ => 0) 0 (-2)) 1 1) 2 (-43))), .inr (6, [.ref (p + 20 + 3 + 1), .int 0]), .inl (Γ.2.2 1, 50, .inl (fun _ => 0)), .inl (Γ.2.2 1, 50, .inl (fun _ => 0))] dX5_init_121 pl_X5_58 rfl hV rfl rfl rfl rfl (by show 14 < 18; decide) rfl (fun M hV => ?_)
  refine ok_aload_n (pc := 124) dX5_init_124 rfl ?_
  refine ok_iconst (pc := 125) (v := 1) dX5_init_125 (by decide) ?_
  refine hv_put (pc := 126) (j := 0) [.inr (5, [.ref (p + 1), .ref (p + 2), .ref (p + 3), .int 0, .ref (p + 4), .ref (p + 5), .ref (p + 6), .int 0, .ref (p + 7), .int 0, .ref (p + 8), .ref (p + 10), .ref (p + 12), .ref (p + 14), .ref (p + 20), .int 0, .int 0, .int 1]), .inl (Γ.2.2 1, 9, .inl (fun _ => 0)), .inl (Γ.2.2 1, 9, .inl (fun _ => 0)), .inl (Γ.2.2 1, 9, .inl (fun _ => 0)), .inl (Γ.2.2 1, 24, .inl (fun _ => 0)), .inl (Γ.2.2 2, 8, .inr (.inr (.inr (.inr (fun _ => none))))), .inl (Γ.2.2 1, 8, .inl (fun _ => 0)), .inl (Γ.2.2 1, 84, .inl (fun _ => 0)), .inr (6, [.ref (p + 8 + 1), .int 0]), .inl (Γ.2.2 1, 12, .inl (fun _ => 0)), .inr (6, [.ref (p + 10 + 1), .int 0]), .inl (Γ.2.2 1, 50, .inl (fun _ => 0)), .inr (6, [.ref (p + 12 + 1), .int 0]), .inl (Γ.2.2 1, 20, .inl (fun _ => 0)), .inr (10, [.int 0, .ref (p + 14 + 1), .ref (p + 14 + 3), .ref (p + 14 + 5), .null, .int 0, .int 0]), .inr (6, [.ref (p + 14 + 1 + 1), .int (nI 1)]), .inl (Γ.2.2 1, 50, .inl (upd (fun _ => 0) 0 0)), .inr (6, [.ref (p + 14 + 3 + 1), .int 0]), .inl (Γ.2.2 1, 50, .inl (fun _ => 0)), .inl (Γ.2.2 1, 50, .inl (fun _ => 0)), .inr (10, [.int 1, .ref (p + 20 + 1), .ref (p + 20 + 3), .ref (p + 20 + 5), .null, .int 0, .int 0]), .inr (6, [.ref (p + 20 + 1 + 1), .int (nI 3)]), .inl (Γ.2.2 1, 50, .inl (upd (upd (upd (fun _ => 0) 0 (-2)) 1 1) 2 (-43))), .inr (6, [.ref (p + 20 + 3 + 1), .int 0]), .inl (Γ.2.2 1, 50, .inl (fun _ => 0)), .inl (Γ.2.2 1, 50, .inl (fun _ => 0))] dX5_init_126 pl_X5_61 hV rfl rfl rfl rfl (by show 17 < 18; decide) rfl (fun M hV => ?_)
  refine ok_aload_n (pc := 129) dX5_init_129 rfl ?_
  refine ok_getf (pc := 130) dX5_init_130 fl_X5_21 (hV.1 0 _ rfl) rfl ?_
  refine ok_iconst (pc := 133) (v := 3) dX5_init_133 (by decide) ?_
  refine ok_callSv2 (pc := 134) (d' := 0) dX5_init_134 sl_X5_65 rfl (by decide) ?_
  refine c_fill (n0 := 24) (by decide) (hV.1 4 _ rfl) (fun M5 g5 a1 a2 a3 => ?_)
  refine ok_vret (pc := 137) dX5_init_137 rfl ?_
  have hw : ∀ q, q ≠ p + 4 → M5 q = M q := fun q h => a3 q (by omega)
  have r0 : ∀ j, j ≠ 8 → (j < 27 ∨ 51 ≤ j) → row0 j = 0 := fun j g1 g2 => by
    unfold row0 w3F
    rw [if_neg g1, if_neg (by omega)]
  have r3 : ∀ j, j < 24 → row0 (27 + j) = 3 := fun j g => by
    unfold row0 w3F
    rw [if_neg (by omega), if_pos ⟨by omega, by omega⟩]
  refine k _ ?_ ?_
  · refine ⟨(hw _ (by omega)).trans (hV.1 0 _ rfl), ⟨_, (hw _ (by omega)).trans (hV.1 1 _ rfl), fun j hj => ?_⟩, ⟨_, (hw _ (by omega)).trans (hV.1 2 _ rfl), fun j hj => ?_⟩, ⟨_, (hw _ (by omega)).trans (hV.1 3 _ rfl), fun j hj => ?_⟩, ⟨g5, a1, fun j hj => ?_⟩, ⟨_, (hw _ (by omega)).trans (hV.1 5 _ rfl), fun j hj => absurd hj (Nat.not_lt_zero _), fun _ _ => rfl⟩, ⟨_, (hw _ (by omega)).trans (hV.1 6 _ rfl), fun j hj => ?_⟩, ⟨_, (hw _ (by omega)).trans (hV.1 7 _ rfl), fun j hj => ?_⟩,
      ⟨(hw _ (by omega)).trans (hV.1 8 _ rfl), _, (hw _ (by omega)).trans (hV.1 9 _ rfl), fun j hj => absurd hj (Nat.not_lt_zero _)⟩, ⟨(hw _ (by omega)).trans (hV.1 10 _ rfl), _, (hw _ (by omega)).trans (hV.1 11 _ rfl), fun j hj => absurd hj (Nat.not_lt_zero _)⟩, ⟨(hw _ (by omega)).trans (hV.1 12 _ rfl), _, (hw _ (by omega)).trans (hV.1 13 _ rfl), fun j hj => absurd hj (Nat.not_lt_zero _)⟩,
      ⟨⟨none, 0, 0, (hw _ (by omega)).trans (hV.1 14 _ rfl)⟩, ⟨(hw _ (by omega)).trans (hV.1 15 _ rfl), _, (hw _ (by omega)).trans (hV.1 16 _ rfl), fun j hj => ?_⟩, ⟨0, _, (hw _ (by omega)).trans (hV.1 17 _ rfl), (hw _ (by omega)).trans (hV.1 18 _ rfl)⟩, _, (hw _ (by omega)).trans (hV.1 19 _ rfl)⟩,
      ⟨⟨none, 0, 0, (hw _ (by omega)).trans (hV.1 20 _ rfl)⟩, ⟨(hw _ (by omega)).trans (hV.1 21 _ rfl), _, (hw _ (by omega)).trans (hV.1 22 _ rfl), fun j hj => ?_⟩, ⟨0, _, (hw _ (by omega)).trans (hV.1 23 _ rfl), (hw _ (by omega)).trans (hV.1 24 _ rfl)⟩, _, (hw _ (by omega)).trans (hV.1 25 _ rfl)⟩⟩
    · unfold hx; rw [r0 _ (by omega) (by omega)]; rfl
    · unfold hy; rw [r0 _ (by omega) (by omega)]; rfl
    · unfold hz; rw [r0 _ (by omega) (by omega)]
    · exact (a2 j hj).trans (r3 j hj).symm
    · show _ = kf row0 j 5; unfold kf; rw [r0 _ (by omega) (by omega)]
    · exact (r0 (99 + j) (by omega) (by omega)).symm
    · have hj1 : j < 1 := hj
      match j, hj1 with
      | 0, _ => rfl
    · have hj3 : j < 3 := hj
      match j, hj3 with
      | 0, _ => rfl
      | 1, _ => rfl
      | 2, _ => rfl
  · intro q hq
    rw [hw q (by omega)]
    rcases hq with h9 | h9
    · exact hV.2.1 q h9
    · exact hV.2.2 q h9
