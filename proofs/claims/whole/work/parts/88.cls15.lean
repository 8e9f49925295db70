/-! the whole object -/
theorem Inv_row0 : Inv row0 := by
  have r0 : ∀ j, j ≠ 8 → (j < 27 ∨ 51 ≤ j) → row0 j = 0 := fun j g1 g2 => by
    unfold row0 w3F
    rw [if_neg g1, if_neg (by omega)]
  have r3 : ∀ j, j < 24 → row0 (27 + j) = 3 := fun j g => by
    unfold row0 w3F
    rw [if_neg (by omega), if_pos ⟨by omega, by omega⟩]
  refine ⟨⟨⟨rfl, by decide⟩, ⟨rfl, by decide⟩, ⟨rfl, by decide⟩, ⟨rfl, rfl⟩, ⟨rfl, by decide⟩⟩, fun k hk => absurd hk (Nat.not_lt_zero _), fun k hk => absurd hk (Nat.not_lt_zero _), fun q hq => ?_, fun k hk => absurd hk (Nat.not_lt_zero _), fun k hk => absurd hk (Nat.not_lt_zero _), ⟨⟨0, rfl, by decide⟩, ⟨0, rfl, by decide⟩, fun j hj => ⟨0, by decide, r0 _ (by omega) (by omega)⟩⟩, fun u hu => ?_⟩
  · unfold wdF
    rw [r3 q hq]
    exact ⟨rfl, by decide⟩
  · refine ⟨0, by decide, r0 _ (by omega) (by omega), ?_, fun h => absurd h (Nat.lt_irrefl _)⟩
    exact fun j hj => absurd hj (Nat.not_lt_zero _)
def mkV (b v : Int32) : Int32 := if b = 32 then v else v &&& (jshl 1 b - 1)
theorem mk_0 : mkV 0 0 = 0 := by decide
def ShR (Γ : Cx) (a : Nat) (va : Nat → Rw) (M : Nat → Option va_E) : Prop := (∃ sr, M (a + 81) = some (.inl (Γ.2.2 3, 4, .inr (.inr (.inr (.inr sr))))) ∧ ∀ q, q < 4 → sr q = some (a + 84 + 2 * q)) ∧ ∀ q, q < 4 → M (a + 84 + 2 * q) = some (.inr (7, [.ref (a + 84 + 2 * q + 1), .int (va 21 q), .int (va 22 q)])) ∧ ∃ f, M (a + 84 + 2 * q + 1) = aI Γ 40 f ∧ ∀ j, j < 40 → f j = mkV (va 21 q) (va 23 (40 * q + j))
def xfs (a : Nat) (im : Int32) : List Value := [.ref (a + 1), .ref (a + 27), .ref (a + 53), .ref (a + 79), .ref (a + 81), .ref (a + 82), .ref (a + 83), .int im]
/-- the object at a tells what the reference tells; its kites lie between e and z -/
def ClsR (Γ : Cx) (a e z : Nat) (σ κ vi : Rw) (va : Nat → Rw) (M : Nat → Option va_E) : Prop :=
  M a = some (.inr (11, xfs a (vi 3))) ∧ PstR Γ (a + 1) e z σ M ∧ (∃ τ, Inv τ ∧ PstR Γ (a + 27) e z τ M) ∧ (∃ τ, Inv τ ∧ PstR Γ (a + 53) e z τ M ∧ (vi 3 ≠ 0 → ∀ j, j < 369 → κ j = τ j)) ∧
  rwR Γ M (a + 79) 40 (vi 19) (va 18) ∧ ShR Γ a va M ∧ rowE Γ M (a + 82) 6 (va 4) ∧ ∃ f, M (a + 83) = aI Γ 80 f
theorem PstR.same {Γ : Cx} {p e z z' : Nat} {σ : Rw} {M M' : Nat → Option va_E} (h : PstR Γ p e z σ M) (h8 : cK σ ≤ 8) (h1 : ∀ q, p ≤ q → q < p + 26 → M' q = M q) (h2 : ∀ q, e ≤ q → q < z → M' q = M q) (hz : z ≤ z') : PstR Γ p e z' σ M' := by
  obtain ⟨a0, a1, a2, a3, a4, a5, a6, a7, a8, a9, b1, b2, b3⟩ := h
  exact ⟨(h1 p (by omega) (by omega)).trans a0, a1.tr (h1 _ (by omega) (by omega)) (fun _ _ => rfl), a2.tr (h1 _ (by omega) (by omega)) (fun _ _ => rfl), a3.tr (h1 _ (by omega) (by omega)) (fun _ _ => rfl), a4.tr (h1 _ (by omega) (by omega)) (fun _ _ => rfl), a5.tr (h1 _ (by omega) (by omega)) h2 hz rfl h8 (fun _ _ _ _ => rfl), a6.tr (h1 _ (by omega) (by omega)) (fun _ _ => rfl), a7.tr (h1 _ (by omega) (by omega)) (fun _ _ => rfl), a8.tr (h1 _ (by omega) (by omega)) (h1 _ (by omega) (by omega)) rfl (fun _ _ => rfl), a9.tr (h1 _ (by omega) (by omega)) (h1 _ (by omega) (by omega)) rfl (fun _ _ => rfl), b1.tr (h1 _ (by omega) (by omega)) (h1 _ (by omega) (by omega)) rfl (fun _ _ => rfl), b2.tr (fun q g1 g2 => h1 q (by omega) (by omega)) ⟨rfl, fun _ _ => rfl⟩, b3.tr (fun q g1 g2 => h1 q (by omega) (by omega)) ⟨rfl, fun _ _ => rfl⟩⟩
/-- the object while it's made: k Posts stand, and the cells es behind them -/
def Xi (Γ : Cx) (a e : Nat) (M0 : Nat → Option va_E) (fs : List Value) (k : Nat) (es : List va_E) (M : Nat → Option va_E) : Prop := M a = some (.inr (11, fs)) ∧ (∀ i, i < k → PstR Γ (a + 1 + 26 * i) e e row0 M) ∧ (∀ i e, es[i]? = some e → M (a + 79 + i) = some e) ∧ k ≤ 3 ∧ ∀ q, q < a ∨ a + 92 ≤ q → M q = M0 q
theorem hv_nil {m : Nat} {M : Nat → Option va_E} : Hv m M M [] := ⟨fun _ _ h => (by cases h), fun _ _ => rfl, fun _ _ => rfl⟩
section XiRules
variable {Γ : Cx} {a e k : Nat} {M0 M M' : Nat → Option va_E} {fs : List Value} {es cs : List va_E}
theorem Xi.post (h : Xi Γ a e M0 fs k [] M) (hk : k < 3) (hP : PstR Γ (a + 1 + 26 * k) e e row0 M') (hO : Off (a + 1 + 26 * k) 26 M M') : Xi Γ a e M0 fs (k + 1) [] M' := by
  obtain ⟨h1, h2, h3, h4, h5⟩ := h
  refine ⟨(hO a (by omega)).trans h1, fun i hi => ?_, fun _ _ h => (by cases h), hk, fun q hq => (hO q (by omega)).trans (h5 q hq)⟩
  rcases Nat.lt_or_ge i k with g | g
  · exact (h2 i g).same (by decide) (fun q g1 g2 => hO q (by omega)) (fun q g1 g2 => absurd g2 (by omega)) (Nat.le_refl _)
  · have e9 : i = k := by omega
    rw [e9]
    exact hP
theorem Xi.appL (h : Xi Γ a e M0 fs k es M) (n0 : Nat) (es' : List va_E) (hn : es.length = n0) (hv : Hv (a + 79 + n0) M M' cs) (hc : n0 + cs.length ≤ 13) (he : es ++ cs = es') : Xi Γ a e M0 fs k es' M' := by
  subst he
  subst hn
  obtain ⟨h1, h2, h3, h4, h5⟩ := h
  refine ⟨(hv.2.1 a (by omega)).trans h1, fun i hi => (h2 i hi).same (by decide) (fun q g1 g2 => hv.2.1 q (by omega)) (fun q g1 g2 => absurd g2 (by omega)) (Nat.le_refl _), fun i e hi => ?_, h4, fun q hq => ?_⟩
  · rcases Nat.lt_or_ge i es.length with g | g
    · rw [List.getElem?_append_left g] at hi
      exact (hv.2.1 _ (by omega)).trans (h3 i e hi)
    · rw [List.getElem?_append_right g] at hi
      have e9 := hv.1 _ e hi
      rw [show a + 79 + es.length + (i - es.length) = a + 79 + i by omega] at e9
      exact e9
  · rcases hq with g | g
    · exact (hv.2.1 q (by omega)).trans (h5 q (.inl g))
    · exact (hv.2.2 q (by omega)).trans (h5 q (.inr g))
theorem Xi.put (h : Xi Γ a e M0 fs k es M) {fs' : List Value} : Xi Γ a e M0 fs' k es (va_up M a (some (.inr (11, fs')))) := by
  obtain ⟨h1, h2, h3, h4, h5⟩ := h
  exact ⟨up_eq, fun i hi => (h2 i hi).same (by decide) (fun q g1 g2 => up_ne (by omega)) (fun q g1 g2 => absurd g2 (by omega)) (Nat.le_refl _), fun i e hi => (up_ne (by omega)).trans (h3 i e hi), h4, fun q hq => (up_ne (by omega)).trans (h5 q hq)⟩
theorem Xi.set (h : Xi Γ a e M0 fs k es M) (j : Nat) (x : va_E) (hj : j < es.length) (h13 : j < 13) : Xi Γ a e M0 fs k (es.set j x) (va_up M (a + 79 + j) (some x)) := by
  obtain ⟨h1, h2, h3, h4, h5⟩ := h
  refine ⟨(up_ne (by omega)).trans h1, fun i hi => (h2 i hi).same (by decide) (fun q g1 g2 => up_ne (by omega)) (fun q g1 g2 => absurd g2 (by omega)) (Nat.le_refl _), fun i e hi => ?_, h4, fun q hq => (up_ne (by omega)).trans (h5 q hq)⟩
  by_cases g : i = j
  · subst g
    rw [List.getElem?_set_self hj] at hi
    rw [up_eq, ← hi]
  · rw [List.getElem?_set_ne (fun h => g h.symm)] at hi
    exact (up_ne (by omega)).trans (h3 i e hi)
end XiRules

set_option maxHeartbeats 1000000 in
theorem c_shtI {Γ : Cx} {r : Nat} {M0 M : Nat → Option va_E} {K : Wd → Prop} (hV : Hv r M0 M [.inr (7, fs0_X7)]) (k : ∀ M', Hv r M0 M' [.inr (7, [.ref (r + 1), .int 0, .int 0]), .inl (Γ.2.2 1, 40, .inl (fun _ => 0))] → K (M', r + 2)) : Spec Γ mX7_init 1 1 [.ref r] (M, r + 1) (cv K) := by
  refine spec_in [some (.ref r)] 0 (by decide) rfl rfl ?_
  refine ok_aload_n (pc := 0) dX7_init_0 rfl ?_
  refine ok_objInit (pc := 1) dX7_init_1 tw_249 tw_108 tw_109 rfl (by decide) ?_
  refine ok_aload_n (pc := 4) dX7_init_4 rfl ?_
  refine ok_bipush (pc := 5) (v := 40) dX7_init_5 (by decide) ?_
  refine hv_newa (pc := 7) 40 [.inr (7, fs0_X7), .inl (Γ.2.2 1, 40, .inl (fun _ => 0))] dX7_init_7 rfl (by decide) rfl rfl hV (fun M hV => ?_)
  refine hv_putF (pc := 9) (j := 0) [.inr (7, [.ref (r + 1), .int 0, .int 0]), .inl (Γ.2.2 1, 40, .inl (fun _ => 0))] dX7_init_9 pl_X7_9 rfl hV rfl rfl rfl rfl (by show 0 < 3; decide) rfl (fun M hV => ?_)
  refine ok_vret (pc := 12) dX7_init_12 rfl ?_
  exact k _ hV

set_option maxHeartbeats 1000000 in
theorem c_clsI {Γ : Cx} {a e : Nat} {M0 M : Nat → Option va_E} {K : Wd → Prop} (hV0 : Hv a M0 M [.inr (11, fs0_X11)]) (k : ∀ M', ClsR Γ a e e row0 (fun _ => 0) (fun _ => 0) (fun _ _ => 0) M' → Off a 92 M0 M' → K (M', a + 92)) : Spec Γ mX11_init 4 91 [.ref a] (M, a + 1) (cv K) := by
  have hX : Xi Γ a e M0 fs0_X11 0 [] M := ⟨hV0.1 0 _ rfl, fun _ h => absurd h (Nat.not_lt_zero _), fun _ _ h => (by cases h), by decide, fun q hq => hq.elim (fun h => hV0.2.1 q h) (fun h => hV0.2.2 q (Nat.le_trans (by show a + 1 ≤ a + 92; omega) h))⟩
  refine spec_in [some (.ref a), none] 1 (by decide) rfl rfl ?_
  refine ok_aload_n (pc := 0) dX11_init_0 rfl ?_
  refine ok_objInit (pc := 1) dX11_init_1 tw_107 tw_108 tw_109 rfl (by decide) ?_
  refine ok_aload_n (pc := 4) dX11_init_4 rfl ?_
  refine hv_new (pc := 5) (m := (a + 1 + 26 * 0)) [.inr (5, fs0_X5)] dX11_init_5 nl_X11_7 rfl rfl hv_nil (fun M1 hV => ?_)
  refine ok_dup (pc := 8) dX11_init_8 rfl ?_
  refine ok_callIv0B (pc := 9) (d' := 3) (b' := 25) (b'' := 65) dX11_init_9 il_X11_9 rfl (by decide) (by decide) ?_
  refine c_pstI (e := e) hV (fun M hP9 hO9 => ?_)
  have hX := hX.post (by decide) hP9 hO9
  refine ok_putfF (pc := 12) dX11_init_12 pl_X11_10 rfl hX.1 rfl rfl (by show 0 < 8; decide) ?_
  have hX := hX.put (fs' := [.ref (a + 1 + 26 * 0), .null, .null, .null, .null, .null, .null, .int 0])
  refine ok_aload_n (pc := 15) dX11_init_15 rfl ?_
  refine hv_new (pc := 16) (m := (a + 1 + 26 * 1)) [.inr (5, fs0_X5)] dX11_init_16 nl_X11_7 rfl rfl hv_nil (fun M1 hV => ?_)
  refine ok_dup (pc := 19) dX11_init_19 rfl ?_
  refine ok_callIv0B (pc := 20) (d' := 3) (b' := 25) (b'' := 39) dX11_init_20 il_X11_9 rfl (by decide) (by decide) ?_
  refine c_pstI (e := e) hV (fun M hP9 hO9 => ?_)
  have hX := hX.post (by decide) hP9 hO9
  refine ok_putfF (pc := 23) dX11_init_23 pl_X11_16 rfl hX.1 rfl rfl (by show 1 < 8; decide) ?_
  have hX := hX.put (fs' := [.ref (a + 1 + 26 * 0), .ref (a + 1 + 26 * 1), .null, .null, .null, .null, .null, .int 0])
  refine ok_aload_n (pc := 26) dX11_init_26 rfl ?_
  refine hv_new (pc := 27) (m := (a + 1 + 26 * 2)) [.inr (5, fs0_X5)] dX11_init_27 nl_X11_7 rfl rfl hv_nil (fun M1 hV => ?_)
  refine ok_dup (pc := 30) dX11_init_30 rfl ?_
  refine ok_callIv0B (pc := 31) (d' := 3) (b' := 25) (b'' := 13) dX11_init_31 il_X11_9 rfl (by decide) (by decide) ?_
  refine c_pstI (e := e) hV (fun M hP9 hO9 => ?_)
  have hX := hX.post (by decide) hP9 hO9
  refine ok_putfF (pc := 34) dX11_init_34 pl_X11_19 rfl hX.1 rfl rfl (by show 2 < 8; decide) ?_
  have hX := hX.put (fs' := [.ref (a + 1 + 26 * 0), .ref (a + 1 + 26 * 1), .ref (a + 1 + 26 * 2), .null, .null, .null, .null, .int 0])
  refine ok_aload_n (pc := 37) dX11_init_37 rfl ?_
  refine hv_new (pc := 38) (m := (a + 79 + 0)) [.inr (6, fs0_X6)] dX11_init_38 nl_X11_22 rfl rfl hv_nil (fun M1 hV => ?_)
  refine ok_dup (pc := 41) dX11_init_41 rfl ?_
  refine ok_bipush (pc := 42) (v := 40) dX11_init_42 (by decide) ?_
  refine ok_callIv1B (pc := 44) (d' := 1) (b' := 1) (b'' := 11) dX11_init_44 il_X11_24 rfl (by decide) (by decide) ?_
  refine c_rowI (N := 40) rfl (by decide) hV (fun M hV2 => ?_)
  have hX := hX.appL 0 [.inr (6, [.ref (a + 79 + 0 + 1), .int 0]), .inl (Γ.2.2 1, 40, .inl (fun _ => 0))] rfl hV2 (by show 0 + 2 ≤ 13; decide) rfl
  refine ok_putfF (pc := 47) dX11_init_47 pl_X11_27 rfl hX.1 rfl rfl (by show 3 < 8; decide) ?_
  have hX := hX.put (fs' := [.ref (a + 1 + 26 * 0), .ref (a + 1 + 26 * 1), .ref (a + 1 + 26 * 2), .ref (a + 79 + 0), .null, .null, .null, .int 0])
  refine ok_aload_n (pc := 50) dX11_init_50 rfl ?_
  refine ok_iconst (pc := 51) (v := 4) dX11_init_51 (by decide) ?_
  refine hv_anew (pc := 52) (m := (a + 79 + 2)) (t := 2) 4 [.inl (Γ.2.2 3, 4, .inr (.inr (.inr (.inr (fun _ => none)))))] dX11_init_52 tw_243 (by simp) rfl rfl (by decide) rfl rfl hv_nil (fun M hV2 => ?_)
  have hX := hX.appL 2 [.inr (6, [.ref (a + 79 + 0 + 1), .int 0]), .inl (Γ.2.2 1, 40, .inl (fun _ => 0)), .inl (Γ.2.2 3, 4, .inr (.inr (.inr (.inr (fun _ => none)))))] rfl hV2 (by show 2 + 1 ≤ 13; decide) rfl
  refine ok_putfF (pc := 55) dX11_init_55 pl_X11_33 rfl hX.1 rfl rfl (by show 4 < 8; decide) ?_
  have hX := hX.put (fs' := [.ref (a + 1 + 26 * 0), .ref (a + 1 + 26 * 1), .ref (a + 1 + 26 * 2), .ref (a + 79 + 0), .ref (a + 79 + 2), .null, .null, .int 0])
  refine ok_aload_n (pc := 58) dX11_init_58 rfl ?_
  refine ok_bipush (pc := 59) (v := 6) dX11_init_59 (by decide) ?_
  refine hv_newa (pc := 61) (m := (a + 79 + 3)) 6 [.inl (Γ.2.2 1, 6, .inl (fun _ => 0))] dX11_init_61 rfl (by decide) rfl rfl hv_nil (fun M hV2 => ?_)
  have hX := hX.appL 3 [.inr (6, [.ref (a + 79 + 0 + 1), .int 0]), .inl (Γ.2.2 1, 40, .inl (fun _ => 0)), .inl (Γ.2.2 3, 4, .inr (.inr (.inr (.inr (fun _ => none))))), .inl (Γ.2.2 1, 6, .inl (fun _ => 0))] rfl hV2 (by show 3 + 1 ≤ 13; decide) rfl
  refine ok_putfF (pc := 63) dX11_init_63 pl_X11_37 rfl hX.1 rfl rfl (by show 5 < 8; decide) ?_
  have hX := hX.put (fs' := [.ref (a + 1 + 26 * 0), .ref (a + 1 + 26 * 1), .ref (a + 1 + 26 * 2), .ref (a + 79 + 0), .ref (a + 79 + 2), .ref (a + 79 + 3), .null, .int 0])
  refine ok_aload_n (pc := 66) dX11_init_66 rfl ?_
  refine ok_bipush (pc := 67) (v := 80) dX11_init_67 (by decide) ?_
  refine hv_newa (pc := 69) (m := (a + 79 + 4)) 80 [.inl (Γ.2.2 1, 80, .inl (fun _ => 0))] dX11_init_69 rfl (by decide) rfl rfl hv_nil (fun M hV2 => ?_)
  have hX := hX.appL 4 [.inr (6, [.ref (a + 79 + 0 + 1), .int 0]), .inl (Γ.2.2 1, 40, .inl (fun _ => 0)), .inl (Γ.2.2 3, 4, .inr (.inr (.inr (.inr (fun _ => none))))), .inl (Γ.2.2 1, 6, .inl (fun _ => 0)), .inl (Γ.2.2 1, 80, .inl (fun _ => 0))] rfl hV2 (by show 4 + 1 ≤ 13; decide) rfl
  refine ok_putfF (pc := 71) dX11_init_71 pl_X11_41 rfl hX.1 rfl rfl (by show 6 < 8; decide) ?_
  have hX := hX.put (fs' := [.ref (a + 1 + 26 * 0), .ref (a + 1 + 26 * 1), .ref (a + 1 + 26 * 2), .ref (a + 79 + 0), .ref (a + 79 + 2), .ref (a + 79 + 3), .ref (a + 79 + 4), .int 0])
  refine ok_iconst (pc := 74) (v := 0) dX11_init_74 (by decide) ?_
  refine ok_istore_n1 (pc := 75) dX11_init_75 (by decide) rfl ?_
  refine ok_iload_n (pc := 76) dX11_init_76 rfl ?_
  refine ok_iconst (pc := 77) (v := 4) dX11_init_77 (by decide) ?_
  refine ok_icmp_ge (pc := 78) 100 dX11_init_78 (by decide) (fun cc_78 => ?_) (fun cc_78 => ?_)
  · exact absurd cc_78 (by decide)
  · have ce_78 := Int32.not_le.mp cc_78
    refine ok_aload_n (pc := 81) dX11_init_81 rfl ?_
    refine ok_getf (pc := 82) dX11_init_82 fl_X11_33 hX.1 rfl ?_
    refine ok_iload_n (pc := 85) dX11_init_85 rfl ?_
    refine hv_new (pc := 86) (m := (a + 79 + 5)) [.inr (7, fs0_X7)] dX11_init_86 nl_X11_31 rfl rfl hv_nil (fun M1 hV => ?_)
    refine ok_dup (pc := 89) dX11_init_89 rfl ?_
    refine ok_callINv0B (pc := 90) (d' := 1) (b' := 1) (b'' := 6) dX11_init_90 inl_X11_44 rfl (by decide) (by decide) ?_
    refine c_shtI hV (fun M hV2 => ?_)
    have hX := hX.appL 5 [.inr (6, [.ref (a + 79 + 0 + 1), .int 0]), .inl (Γ.2.2 1, 40, .inl (fun _ => 0)), .inl (Γ.2.2 3, 4, .inr (.inr (.inr (.inr (fun _ => none))))), .inl (Γ.2.2 1, 6, .inl (fun _ => 0)), .inl (Γ.2.2 1, 80, .inl (fun _ => 0)), .inr (7, [.ref (a + 79 + 5 + 1), .int 0, .int 0]), .inl (Γ.2.2 1, 40, .inl (fun _ => 0))] rfl hV2 (by show 5 + 2 ≤ 13; decide) rfl
    refine ok_aast (pc := 93) (v := a + 79 + 5) (t := 2) 0 dX11_init_93 (hX.2.2.1 2 _ rfl) rfl (hX.2.2.1 5 _ rfl) rfl (Or.inl rfl) rfl (by decide) (by decide) ?_
    have hX := hX.set 2 (.inl (Γ.2.2 3, 4, .inr (.inr (.inr (.inr (va_up (fun _ => none) 0 (some (a + 79 + 5)))))))) (by show 2 < 7; decide) (by decide)
    refine ok_iinc1 (pc := 94) (v := 1) dX11_init_94 (by decide) (by decide) rfl ?_
    refine ok_goto (pc := 97) 76 dX11_init_97 (by decide) ?_
    refine ok_iload_n (pc := 76) dX11_init_76 rfl ?_
    refine ok_iconst (pc := 77) (v := 4) dX11_init_77 (by decide) ?_
    refine ok_icmp_ge (pc := 78) 100 dX11_init_78 (by decide) (fun cc_78 => ?_) (fun cc_78 => ?_)
    · exact absurd cc_78 (by decide)
    · have ce_78 := Int32.not_le.mp cc_78
      refine ok_aload_n (pc := 81) dX11_init_81 rfl ?_
      refine ok_getf (pc := 82) dX11_init_82 fl_X11_33 hX.1 rfl ?_
      refine ok_iload_n (pc := 85) dX11_init_85 rfl ?_
      refine hv_new (pc := 86) (m := (a + 79 + 7)) [.inr (7, fs0_X7)] dX11_init_86 nl_X11_31 rfl rfl hv_nil (fun M1 hV => ?_)
      refine ok_dup (pc := 89) dX11_init_89 rfl ?_
      refine ok_callINv0B (pc := 90) (d' := 1) (b' := 1) (b'' := 4) dX11_init_90 inl_X11_44 rfl (by decide) (by decide) ?_
      refine c_shtI hV (fun M hV2 => ?_)
      have hX := hX.appL 7 [.inr (6, [.ref (a + 79 + 0 + 1), .int 0]), .inl (Γ.2.2 1, 40, .inl (fun _ => 0)), .inl (Γ.2.2 3, 4, .inr (.inr (.inr (.inr (va_up (fun _ => none) 0 (some (a + 79 + 5))))))), .inl (Γ.2.2 1, 6, .inl (fun _ => 0)), .inl (Γ.2.2 1, 80, .inl (fun _ => 0)), .inr (7, [.ref (a + 79 + 5 + 1), .int 0, .int 0]), .inl (Γ.2.2 1, 40, .inl (fun _ => 0)), .inr (7, [.ref (a + 79 + 7 + 1), .int 0, .int 0]), .inl (Γ.2.2 1, 40, .inl (fun _ => 0))] rfl hV2 (by show 7 + 2 ≤ 13; decide) rfl
      refine ok_aast (pc := 93) (v := a + 79 + 7) (t := 2) 1 dX11_init_93 (hX.2.2.1 2 _ rfl) rfl (hX.2.2.1 7 _ rfl) rfl (Or.inl rfl) rfl (by decide) (by decide) ?_
      have hX := hX.set 2 (.inl (Γ.2.2 3, 4, .inr (.inr (.inr (.inr (va_up (va_up (fun _ => none) 0 (some (a + 79 + 5))) 1 (some (a + 79 + 7)))))))) (by show 2 < 9; decide) (by decide)
      refine ok_iinc1 (pc := 94) (v := 1) dX11_init_94 (by decide) (by decide) rfl ?_
      refine ok_goto (pc := 97) 76 dX11_init_97 (by decide) ?_
      refine ok_iload_n (pc := 76) dX11_init_76 rfl ?_
      refine ok_iconst (pc := 77) (v := 4) dX11_init_77 (by decide) ?_
      refine ok_icmp_ge (pc := 78) 100 dX11_init_78 (by decide) (fun cc_78 => ?_) (fun cc_78 => ?_)
      · exact absurd cc_78 (by decide)
      · have ce_78 := Int32.not_le.mp cc_78
        refine ok_aload_n (pc := 81) dX11_init_81 rfl ?_
        refine ok_getf (pc := 82) dX11_init_82 fl_X11_33 hX.1 rfl ?_
        refine ok_iload_n (pc := 85) dX11_init_85 rfl ?_
        refine hv_new (pc := 86) (m := (a + 79 + 9)) [.inr (7, fs0_X7)] dX11_init_86 nl_X11_31 rfl rfl hv_nil (fun M1 hV => ?_)
        refine ok_dup (pc := 89) dX11_init_89 rfl ?_
        refine ok_callINv0B (pc := 90) (d' := 1) (b' := 1) (b'' := 2) dX11_init_90 inl_X11_44 rfl (by decide) (by decide) ?_
        refine c_shtI hV (fun M hV2 => ?_)
        have hX := hX.appL 9 [.inr (6, [.ref (a + 79 + 0 + 1), .int 0]), .inl (Γ.2.2 1, 40, .inl (fun _ => 0)), .inl (Γ.2.2 3, 4, .inr (.inr (.inr (.inr (va_up (va_up (fun _ => none) 0 (some (a + 79 + 5))) 1 (some (a + 79 + 7))))))), .inl (Γ.2.2 1, 6, .inl (fun _ => 0)), .inl (Γ.2.2 1, 80, .inl (fun _ => 0)), .inr (7, [.ref (a + 79 + 5 + 1), .int 0, .int 0]), .inl (Γ.2.2 1, 40, .inl (fun _ => 0)), .inr (7, [.ref (a + 79 + 7 + 1), .int 0, .int 0]), .inl (Γ.2.2 1, 40, .inl (fun _ => 0)), .inr (7, [.ref (a + 79 + 9 + 1), .int 0, .int 0]), .inl (Γ.2.2 1, 40, .inl (fun _ => 0))] rfl hV2 (by show 9 + 2 ≤ 13; decide) rfl
        refine ok_aast (pc := 93) (v := a + 79 + 9) (t := 2) 2 dX11_init_93 (hX.2.2.1 2 _ rfl) rfl (hX.2.2.1 9 _ rfl) rfl (Or.inl rfl) rfl (by decide) (by decide) ?_
        have hX := hX.set 2 (.inl (Γ.2.2 3, 4, .inr (.inr (.inr (.inr (va_up (va_up (va_up (fun _ => none) 0 (some (a + 79 + 5))) 1 (some (a + 79 + 7))) 2 (some (a + 79 + 9)))))))) (by show 2 < 11; decide) (by decide)
        refine ok_iinc1 (pc := 94) (v := 1) dX11_init_94 (by decide) (by decide) rfl ?_
        refine ok_goto (pc := 97) 76 dX11_init_97 (by decide) ?_
        refine ok_iload_n (pc := 76) dX11_init_76 rfl ?_
        refine ok_iconst (pc := 77) (v := 4) dX11_init_77 (by decide) ?_
        refine ok_icmp_ge (pc := 78) 100 dX11_init_78 (by decide) (fun cc_78 => ?_) (fun cc_78 => ?_)
        · exact absurd cc_78 (by decide)
        · have ce_78 := Int32.not_le.mp cc_78
          refine ok_aload_n (pc := 81) dX11_init_81 rfl ?_
          refine ok_getf (pc := 82) dX11_init_82 fl_X11_33 hX.1 rfl ?_
          refine ok_iload_n (pc := 85) dX11_init_85 rfl ?_
          refine hv_new (pc := 86) (m := (a + 79 + 11)) [.inr (7, fs0_X7)] dX11_init_86 nl_X11_31 rfl rfl hv_nil (fun M1 hV => ?_)
          refine ok_dup (pc := 89) dX11_init_89 rfl ?_
          refine ok_callINv0B (pc := 90) (d' := 1) (b' := 1) (b'' := 0) dX11_init_90 inl_X11_44 rfl (by decide) (by decide) ?_
          refine c_shtI hV (fun M hV2 => ?_)
          have hX := hX.appL 11 [.inr (6, [.ref (a + 79 + 0 + 1), .int 0]), .inl (Γ.2.2 1, 40, .inl (fun _ => 0)), .inl (Γ.2.2 3, 4, .inr (.inr (.inr (.inr (va_up (va_up (va_up (fun _ => none) 0 (some (a + 79 + 5))) 1 (some (a + 79 + 7))) 2 (some (a + 79 + 9))))))), .inl (Γ.2.2 1, 6, .inl (fun _ => 0)), .inl (Γ.2.2 1, 80, .inl (fun _ => 0)), .inr (7, [.ref (a + 79 + 5 + 1), .int 0, .int 0]), .inl (Γ.2.2 1, 40, .inl (fun _ => 0)), .inr (7, [.ref (a + 79 + 7 + 1), .int 0, .int 0]), .inl (Γ.2.2 1, 40, .inl (fun _ => 0)), .inr (7, [.ref (a + 79 + 9 + 1), .int 0, .int 0]), .inl (Γ.2.2 1, 40, .inl (fun _ => 0)), .inr (7, [.ref (a + 79 + 11 + 1), .int 0, .int 0]), .inl (Γ.2.2 1, 40, .inl (fun _ => 0))] rfl hV2 (by show 11 + 2 ≤ 13; decide) rfl
          refine ok_aast (pc := 93) (v := a + 79 + 11) (t := 2) 3 dX11_init_93 (hX.2.2.1 2 _ rfl) rfl (hX.2.2.1 11 _ rfl) rfl (Or.inl rfl) rfl (by decide) (by decide) ?_
          have hX := hX.set 2 (.inl (Γ.2.2 3, 4, .inr (.inr (.inr (.inr (va_up (va_up (va_up (va_up (fun _ => none) 0 (some (a + 79 + 5))) 1 (some (a + 79 + 7))) 2 (some (a + 79 + 9))) 3 (some (a + 79 + 11)))))))) (by show 2 < 13; decide) (by decide)
          refine ok_iinc1 (pc := 94) (v := 1) dX11_init_94 (by decide) (by decide) rfl ?_
          refine ok_goto (pc := 97) 76 dX11_init_97 (by decide) ?_
          refine ok_iload_n (pc := 76) dX11_init_76 rfl ?_
          refine ok_iconst (pc := 77) (v := 4) dX11_init_77 (by decide) ?_
          refine ok_icmp_ge (pc := 78) 100 dX11_init_78 (by decide) (fun cc_78 => ?_) (fun cc_78 => ?_)
          · have ce_78 := Int32.not_lt.mpr cc_78
            refine ok_vret (pc := 100) dX11_init_100 rfl ?_
            refine k _ ?_ hX.2.2.2.2
            obtain ⟨x1, x2, x3, -, x5⟩ := hX
            refine ⟨x1, x2 0 (by decide), ⟨row0, Inv_row0, x2 1 (by decide)⟩, ⟨row0, Inv_row0, x2 2 (by decide), fun h => absurd rfl h⟩, ⟨x3 0 _ rfl, _, x3 1 _ rfl, fun _ _ => rfl⟩, ⟨⟨_, x3 2 _ rfl, fun q hq => ?_⟩, fun q hq => ?_⟩, ⟨_, x3 3 _ rfl, fun _ _ => rfl⟩, _, x3 4 _ rfl⟩
            · match q, hq with
              | 0, _ => rfl
              | 1, _ => rfl
              | 2, _ => rfl
              | 3, _ => rfl
            · match q, hq with
              | 0, _ => exact ⟨x3 5 _ rfl, _, x3 6 _ rfl, fun _ _ => mk_0.symm⟩
              | 1, _ => exact ⟨x3 7 _ rfl, _, x3 8 _ rfl, fun _ _ => mk_0.symm⟩
              | 2, _ => exact ⟨x3 9 _ rfl, _, x3 10 _ rfl, fun _ _ => mk_0.symm⟩
              | 3, _ => exact ⟨x3 11 _ rfl, _, x3 12 _ rfl, fun _ _ => mk_0.symm⟩
          · exact absurd (by decide) cc_78
