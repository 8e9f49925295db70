/-- a virtual call of x (whose code is g0) on an object of class C that ends in g -/
def QLink (own : String) (idx : Nat) (C : String) (g g0 : Md) (n : Nat) : Prop := MLink g n ∧ ∃ x : MethodName, Cond.code g0.1 g0.2.1 g0.2.2.1 g0.2.2.2 ∈ lwg ∧ Cond.methodLink own idx x ∈ lwg ∧ Cond.sameMethod x.cls g0.1.cls x.name x.desc ∈ lwg ∧ Cond.instanceMethod g0.1 ∈ lwg ∧ Cond.selects C x g.1 ∈ lwg ∧ Cond.instanceMethod g.1 ∈ lwg ∧ g0.1 = ⟨g0.1.cls, x.name, x.desc⟩ ∧ (g0.1.cls ≠ "java/lang/invoke/MethodHandle" ∧ g0.1.cls ≠ "java/lang/invoke/VarHandle" ∧ (parseMethodDescriptor x.desc).map (fun d => d.parameters.length) = some n)
section CallRulesQ
variable {Γ : Cx} {f g g0 : Md} {d b pc d' b' b'' idx n : Nat} {L : List (Option Value)} {st stk As : List Value} {G : Wd} {Q : Option Value → Wd → Prop} {Q' : Option Value → Wd → Prop}
theorem ok_callQG {a cidx : Nat} {fs : List Value} {r : vw_C} (hG : G.1 a = some (.inr (cidx, fs))) (hc : kc[cidx]? = some r) (hd : decode f.2.1 pc = .ok (.invokevirtual idx, 3)) (hl : QLink f.1.cls idx r.1 g g0 n) (hn : As.length = n) (hst : stk = As.reverse ++ .ref a :: st) (h8 : stk8 st = true) (hdd : d' + 1 ≤ d) (hbb : b' + b'' ≤ b) (hs : Spec Γ g d' b' (.ref a :: As) G Q') (hk : ∀ v G', Q' v G' → Ok Γ f d b'' (pc + 3) L (v.toList ++ st) G' Q) : Ok Γ f d b pc L stk G Q := by
  intro p e s m args below meth c F H locs cells slots bb h1 h2 hH hS ls hls
  obtain ⟨hx, hb9, hr, hml, hown, hts, hlk, hnm, hkn⟩ := id F
  obtain ⟨⟨g1, g2, g3, g4⟩, x, l0, l1, l2, l3, l4, l5, l6, l7⟩ := hl
  have hgw : GoodIn lwg (va_wsO f.1.cls idx r.1 g0.1.cls x g.1 (wsm g)) := by
    intro w hw
    unfold va_wsO at hw
    rcases List.mem_append.mp hw with h | h
    · simp only [List.mem_cons, List.not_mem_nil, or_false] at h
      rcases h with h | h | h | h | h | h
      · rw [h]; exact lw_good _ l1
      · rw [h]; exact lw_good _ l2
      · rw [h, ← l6]; exact lw_good _ l3
      · rw [h]; exact lw_good _ l4
      · rw [h]; exact lw_good _ l5
      · rw [h]; exact lw_good _ g2
    · exact wsm_good g1 w h
  refine run_ok (Q' := Q') (va_runU (C := r.1) (owner := g0.1.cls) (x := x) ⟨hx, hb9, hml, hown, hts⟩ hs (va_cwO n hts hgw rfl rfl rfl (b0 := g0.2.1) (m0 := g0.2.2.1) (r0 := g0.2.2.2) (by rw [← l6]; exact l0) l7 (room_ok (bb := bb) hdd g4)) ⟨blindP Γ _ G, recv_ok hH hkn hG hc, pre_ok hH hS hkn⟩ rfl hn hls.1 hst (stk8_ok h8) hd ⟨by show cells + b' ≤ bb; omega, by show slots + 400 * b' ≤ 400 * bb; omega⟩) hS (fun v G' H1 locs1 hq hp1 hS1 => ?_)
  exact hk v G' hq p e s m args below meth c F H1 locs1 _ _ bb (by omega) (by omega) hp1 hS1 ls hls
theorem ok_callQi2 {a : Nat} {v1 v2 : Value} {cidx : Nat} {fs : List Value} {r : vw_C} (hd : decode f.2.1 pc = .ok (.invokevirtual idx, 3)) (hl : QLink f.1.cls idx r.1 g g0 2) (hG : G.1 a = some (.inr (cidx, fs))) (hc : kc[cidx]? = some r) (h8 : stk8 st = true) (hdd : d' + 1 ≤ d) (hs : Spec Γ g d' 0 [.ref a, v1, v2] G (ci (fun r G' => Ok Γ f d b (pc + 3) L (.int r :: st) G' Q))) : Ok Γ f d b pc L (v2 :: v1 :: .ref a :: st) G Q :=
  ok_callQG (b' := 0) (b'' := b) (As := [v1, v2]) (st := st) hG hc hd hl rfl rfl h8 hdd (by omega) hs (fun v G' h => by obtain ⟨r, rfl, h⟩ := h; exact h)
theorem ok_callQi3 {a : Nat} {v1 v2 v3 : Value} {cidx : Nat} {fs : List Value} {r : vw_C} (hd : decode f.2.1 pc = .ok (.invokevirtual idx, 3)) (hl : QLink f.1.cls idx r.1 g g0 3) (hG : G.1 a = some (.inr (cidx, fs))) (hc : kc[cidx]? = some r) (h8 : stk8 st = true) (hdd : d' + 1 ≤ d) (hs : Spec Γ g d' 0 [.ref a, v1, v2, v3] G (ci (fun r G' => Ok Γ f d b (pc + 3) L (.int r :: st) G' Q))) : Ok Γ f d b pc L (v3 :: v2 :: v1 :: .ref a :: st) G Q :=
  ok_callQG (b' := 0) (b'' := b) (As := [v1, v2, v3]) (st := st) hG hc hd hl rfl rfl h8 hdd (by omega) hs (fun v G' h => by obtain ⟨r, rfl, h⟩ := h; exact h)
end CallRulesQ
theorem ql_X5_167_0 : QLink RX5 167 RX0 mX0_strength mX2_strength 3 := ⟨ml_X0_strength, ⟨"KitePost$Kite", "strength", "(III)I"⟩, tw_564, tw_539, tw_542, tw_540, tw_543, tw_544, rfl, by decide +kernel⟩
theorem ql_X5_167_1 : QLink RX5 167 RX1 mX1_strength mX2_strength 3 := ⟨ml_X1_strength, ⟨"KitePost$Kite", "strength", "(III)I"⟩, tw_564, tw_539, tw_542, tw_540, tw_546, tw_547, rfl, by decide +kernel⟩
theorem ql_X5_167_8 : QLink RX5 167 RX8 mX8_strength mX2_strength 3 := ⟨ml_X8_strength, ⟨"KitePost$Kite", "strength", "(III)I"⟩, tw_564, tw_539, tw_542, tw_540, tw_562, tw_560, rfl, by decide +kernel⟩
theorem ql_X5_167_9 : QLink RX5 167 RX9 mX9_strength mX2_strength 3 := ⟨ml_X9_strength, ⟨"KitePost$Kite", "strength", "(III)I"⟩, tw_564, tw_539, tw_542, tw_540, tw_563, tw_554, rfl, by decide +kernel⟩
theorem ql_X5_167_3 : QLink RX5 167 RX3 mX3_strength mX2_strength 3 := ⟨ml_X3_strength, ⟨"KitePost$Kite", "strength", "(III)I"⟩, tw_564, tw_539, tw_542, tw_540, tw_550, tw_551, rfl, by decide +kernel⟩
theorem ql_X5_167_4 : QLink RX5 167 RX4 mX4_strength mX2_strength 3 := ⟨ml_X4_strength, ⟨"KitePost$Kite", "strength", "(III)I"⟩, tw_564, tw_539, tw_542, tw_540, tw_556, tw_557, rfl, by decide +kernel⟩
theorem ql_X11_237_9 : QLink RX11 237 RX9 mX9_lifts mX2_lifts 2 := ⟨ml_X9_lifts, ⟨"KitePost$Kite", "lifts", "(ILKitePost$Row;)I"⟩, tw_973, tw_959, tw_962, tw_960, tw_972, tw_966, rfl, by decide +kernel⟩
theorem ql_X11_237_3 : QLink RX11 237 RX3 mX9_lifts mX2_lifts 2 := ⟨ml_X9_lifts, ⟨"KitePost$Kite", "lifts", "(ILKitePost$Row;)I"⟩, tw_973, tw_959, tw_962, tw_960, tw_965, tw_966, rfl, by decide +kernel⟩
theorem ql_X2_34_9 : QLink RX2 34 RX9 mX9_lifts mX2_lifts 2 := ⟨ml_X9_lifts, ⟨"KitePost$Kite", "lifts", "(ILKitePost$Row;)I"⟩, tw_973, tw_1001, tw_962, tw_960, tw_972, tw_966, rfl, by decide +kernel⟩
theorem ql_X2_34_3 : QLink RX2 34 RX3 mX9_lifts mX2_lifts 2 := ⟨ml_X9_lifts, ⟨"KitePost$Kite", "lifts", "(ILKitePost$Row;)I"⟩, tw_973, tw_1001, tw_962, tw_960, tw_965, tw_966, rfl, by decide +kernel⟩
theorem ql_X11_241_0 : QLink RX11 241 RX0 mX0_sways mX2_sways 2 := ⟨ml_X0_sways, ⟨"KitePost$Kite", "sways", "(ILKitePost$Row;)I"⟩, tw_1000, tw_975, tw_978, tw_976, tw_979, tw_980, rfl, by decide +kernel⟩
theorem ql_X11_241_1 : QLink RX11 241 RX1 mX1_sways mX2_sways 2 := ⟨ml_X1_sways, ⟨"KitePost$Kite", "sways", "(ILKitePost$Row;)I"⟩, tw_1000, tw_975, tw_978, tw_976, tw_991, tw_992, rfl, by decide +kernel⟩
theorem ql_X2_38_0 : QLink RX2 38 RX0 mX0_sways mX2_sways 2 := ⟨ml_X0_sways, ⟨"KitePost$Kite", "sways", "(ILKitePost$Row;)I"⟩, tw_1000, tw_1040, tw_978, tw_976, tw_979, tw_980, rfl, by decide +kernel⟩
theorem ql_X2_38_1 : QLink RX2 38 RX1 mX1_sways mX2_sways 2 := ⟨ml_X1_sways, ⟨"KitePost$Kite", "sways", "(ILKitePost$Row;)I"⟩, tw_1000, tw_1040, tw_978, tw_976, tw_991, tw_992, rfl, by decide +kernel⟩
theorem ql_X11_244_8 : QLink RX11 244 RX8 mX8_sinks mX2_sinks 2 := ⟨ml_X8_sinks, ⟨"KitePost$Kite", "sinks", "(ILKitePost$Row;)I"⟩, tw_990, tw_1002, tw_1656, tw_989, tw_1663, tw_1007, rfl, by decide +kernel⟩
theorem ql_X11_244_4 : QLink RX11 244 RX4 mX4_sinks mX2_sinks 2 := ⟨ml_X4_sinks, ⟨"KitePost$Kite", "sinks", "(ILKitePost$Row;)I"⟩, tw_990, tw_1002, tw_1656, tw_989, tw_1661, tw_1003, rfl, by decide +kernel⟩
theorem ql_X2_41_8 : QLink RX2 41 RX8 mX8_sinks mX2_sinks 2 := ⟨ml_X8_sinks, ⟨"KitePost$Kite", "sinks", "(ILKitePost$Row;)I"⟩, tw_990, tw_1041, tw_1656, tw_989, tw_1663, tw_1007, rfl, by decide +kernel⟩
theorem ql_X2_41_4 : QLink RX2 41 RX4 mX4_sinks mX2_sinks 2 := ⟨ml_X4_sinks, ⟨"KitePost$Kite", "sinks", "(ILKitePost$Row;)I"⟩, tw_990, tw_1041, tw_1656, tw_989, tw_1661, tw_1003, rfl, by decide +kernel⟩
theorem ql_X11_247_3 : QLink RX11 247 RX3 mX3_tells mX2_tells 2 := ⟨ml_X3_tells, ⟨"KitePost$Kite", "tells", "(ILKitePost$Row;)I"⟩, tw_1039, tw_1011, tw_1014, tw_1012, tw_1017, tw_1018, rfl, by decide +kernel⟩
theorem ql_X11_247_4 : QLink RX11 247 RX4 mX4_tells mX2_tells 2 := ⟨ml_X4_tells, ⟨"KitePost$Kite", "tells", "(ILKitePost$Row;)I"⟩, tw_1039, tw_1011, tw_1014, tw_1012, tw_1028, tw_1029, rfl, by decide +kernel⟩
/-! the class: a Post and what hangs on it, as the row σ tells it -/
def rowE (Γ : Cx) (M : Nat → Option va_E) (a n : Nat) (g : Rw) : Prop := ∃ f, M a = aI Γ n f ∧ ∀ j, j < n → f j = g j
theorem rowE.tr {Γ : Cx} {M M' : Nat → Option va_E} {a n : Nat} {g g' : Rw} (h : rowE Γ M a n g) (h1 : M' a = M a) (h2 : ∀ j, j < n → g' j = g j) : rowE Γ M' a n g' := by
  obtain ⟨f, e1, e2⟩ := h
  exact ⟨f, h1.trans e1, fun j hj => (e2 j hj).trans (h2 j hj).symm⟩
def rwR (Γ : Cx) (M : Nat → Option va_E) (r n : Nat) (s : Int32) (g : Rw) : Prop := M r = some (.inr (6, [.ref (r + 1), .int s])) ∧ ∃ f, M (r + 1) = aI Γ n f ∧ ∀ j, j < iN s → f j = g j
theorem rwR.tr {Γ : Cx} {M M' : Nat → Option va_E} {r n : Nat} {s s' : Int32} {g g' : Rw} (h : rwR Γ M r n s g) (h1 : M' r = M r) (h2 : M' (r + 1) = M (r + 1)) (hs : s' = s) (h3 : ∀ j, j < iN s → g' j = g j) : rwR Γ M' r n s' g' := by
  subst hs
  obtain ⟨e0, f, e1, e2⟩ := h
  exact ⟨h1.trans e0, f, h2.trans e1, fun j hj => (e2 j hj).trans (h3 j hj).symm⟩
def kcl (k : Int32) : Nat := if k = 1 then 0 else if k = 2 then 9 else if k = 3 then 8 else if k = 4 then 1 else if k = 5 then 3 else if k = 6 then 4 else 2
def kfs (σ : Rw) (k : Nat) : List Value := [.int (nI k), .int (kf σ k 0), .int (kf σ k 1), .int (kf σ k 2), .int (kf σ k 3), .int (kf σ k 4)]
/-- the kite k at q -/
def KtQ (e z : Nat) (σ : Rw) (k q : Nat) (M : Nat → Option va_E) : Prop := (e ≤ q ∧ q < z) ∧ M q = some (.inr (kcl (kf σ k 0), kfs σ k))
abbrev aR (Γ : Cx) (n : Nat) (f : Nat → Option Nat) : Option va_E := some (.inl (Γ.2.2 2, n, .inr (.inr (.inr (.inr f)))))
def KtA (Γ : Cx) (e z : Nat) (σ : Rw) (M : Nat → Option va_E) (a : Nat) : Prop := ∃ kr, M a = aR Γ 8 kr ∧ (∀ k, k < cK σ → ∃ q, kr k = some q ∧ KtQ e z σ k q M) ∧ ∀ k, cK σ ≤ k → kr k = none
theorem kf_same {σ τ : Rw} {k : Nat} (hk : k < 8) (h : ∀ j, 51 ≤ j → j < 99 → (∃ q, j = 51 + 6 * q + 5) ∨ τ j = σ j) {fl : Nat} (hf : fl < 5) : kf τ k fl = kf σ k fl := by
  unfold kf
  rcases h (51 + 6 * k + fl) (by omega) (by omega) with ⟨q, hq⟩ | h9
  · omega
  · exact h9
theorem KtA.tr {Γ : Cx} {e z z' : Nat} {σ τ : Rw} {M M' : Nat → Option va_E} {a : Nat} (h : KtA Γ e z σ M a) (h1 : M' a = M a) (h2 : ∀ q, e ≤ q → q < z → M' q = M q) (hz : z ≤ z') (hc : cK τ = cK σ) (h8 : cK σ ≤ 8) (h3 : ∀ k fl, k < 8 → fl < 5 → kf τ k fl = kf σ k fl) : KtA Γ e z' τ M' a := by
  obtain ⟨kr, e1, e2, e3⟩ := h
  refine ⟨kr, h1.trans e1, fun k hk => ?_, fun k hk => e3 k (by omega)⟩
  rw [hc] at hk
  obtain ⟨q, hq1, ⟨hq2, hq3⟩, hq4⟩ := e2 k hk
  refine ⟨q, hq1, ⟨hq2, by omega⟩, (h2 q hq2 hq3).trans ?_⟩
  rw [hq4]
  unfold kfs
  rw [h3 k 0 (by omega) (by decide), h3 k 1 (by omega) (by decide), h3 k 2 (by omega) (by decide), h3 k 3 (by omega) (by decide), h3 k 4 (by omega) (by decide)]
/-- a use's codes, the one that stands at first among them -/
def cdF (σ : Rw) (u : Nat) : Nat × Rw := if 0 < σ (265 + 52 * u) then (txN σ u, fun j => σ (265 + 52 * u + 1 + j)) else if u = 0 then (1, fun _ => 0) else (3, fun j => if j = 0 then 10001 else if j = 1 then 1 else 20005)
def enC (c : Int32) : Int32 := if c < 10000 then c else if c < 20000 then -1 - (c - 10000) else if c = 20000 then -124 else if c = 20001 then -38 else if c = 20002 then -60 else if c = 20003 then -61 else if c = 20004 then -62 else if c = 20005 then -43 else if c = 20006 then -45 else if c = 20007 then -42 else if c = 20008 then -47 else if c = 20010 then -33 else -37
def TxM (Γ : Cx) (M : Nat → Option va_E) (t u : Nat) (σ : Rw) : Prop :=
  (∃ (tp : Option Nat) (pl fa : Int32), M t = some (.inr (10, [.int (nI u), .ref (t + 1), .ref (t + 3), .ref (t + 5), va_rf tp, .int pl, .int fa]))) ∧
  (M (t + 1) = some (.inr (6, [.ref (t + 2), .int (nI (cdF σ u).1)])) ∧ ∃ f, M (t + 2) = aI Γ 50 f ∧ ∀ j, j < (cdF σ u).1 → f j = enC ((cdF σ u).2 j)) ∧
  (∃ dn df, M (t + 3) = some (.inr (6, [.ref (t + 4), .int dn])) ∧ M (t + 4) = aI Γ 50 df) ∧ (∃ sf, M (t + 5) = aI Γ 50 sf)
theorem cd_same {σ τ : Rw} (h : ∀ j, 265 ≤ j → j < 369 → τ j = σ j) {u : Nat} (hu : u < 2) (hT : TxOk σ u) : (cdF τ u).1 = (cdF σ u).1 ∧ ∀ j, j < (cdF σ u).1 → (cdF τ u).2 j = (cdF σ u).2 j := by
  obtain ⟨n, hn, en, -⟩ := hT
  unfold cdF
  rw [h (265 + 52 * u) (by omega) (by omega)]
  by_cases c0 : 0 < σ (265 + 52 * u)
  · rw [if_pos c0, if_pos c0]
    have e1 : txN τ u = txN σ u := by unfold txN; rw [h _ (by omega) (by omega)]
    have e2 : txN σ u = n := by unfold txN; rw [en]; exact nI_clamp (by omega)
    refine ⟨e1, fun j hj => ?_⟩
    have hj2 : j < txN σ u := hj
    exact h _ (by omega) (by omega)
  · rw [if_neg c0, if_neg c0]
    exact ⟨rfl, fun _ _ => rfl⟩
theorem TxM.tr {Γ : Cx} {M M' : Nat → Option va_E} {t u : Nat} {σ τ : Rw} (h : TxM Γ M t u σ) (h1 : ∀ q, t ≤ q → q < t + 6 → M' q = M q) (h2 : (cdF τ u).1 = (cdF σ u).1 ∧ ∀ j, j < (cdF σ u).1 → (cdF τ u).2 j = (cdF σ u).2 j) : TxM Γ M' t u τ := by
  obtain ⟨⟨tp, pl, fa, a1⟩, ⟨a2, f, a3, a4⟩, ⟨dn, df, a5, a6⟩, sf, a7⟩ := h
  refine ⟨⟨tp, pl, fa, (h1 t (by omega) (by omega)).trans a1⟩, ⟨(h1 _ (by omega) (by omega)).trans ?_, f, (h1 _ (by omega) (by omega)).trans a3, fun j hj => ?_⟩, ⟨dn, df, (h1 _ (by omega) (by omega)).trans a5, (h1 _ (by omega) (by omega)).trans a6⟩, sf, (h1 _ (by omega) (by omega)).trans a7⟩
  · rw [a2, h2.1]
  · rw [h2.1] at hj
    rw [a4 j hj, h2.2 j hj]
def pfs (p : Nat) (σ : Rw) : List Value := [.ref (p + 1), .ref (p + 2), .ref (p + 3), .int (σ 1), .ref (p + 4), .ref (p + 5), .ref (p + 6), .int (σ 2), .ref (p + 7), .int (σ 3), .ref (p + 8), .ref (p + 10), .ref (p + 12), .ref (p + 14), .ref (p + 20), .int (σ 0), .int (σ 5), .int (σ 8)]
/-- the Post at p tells σ; kites lie between e and z -/
def PstR (Γ : Cx) (p e z : Nat) (σ : Rw) (M : Nat → Option va_E) : Prop :=
  M p = some (.inr (5, pfs p σ)) ∧ rowE Γ M (p + 1) 9 (hx σ) ∧ rowE Γ M (p + 2) 9 (hy σ) ∧ rowE Γ M (p + 3) 9 (hz σ) ∧ rowE Γ M (p + 4) 24 (fun h => σ (27 + h)) ∧ KtA Γ e z σ M (p + 5) ∧
  rowE Γ M (p + 6) 8 (fun k => kf σ k 5) ∧ rowE Γ M (p + 7) 84 (fun j => σ (99 + j)) ∧ rwR Γ M (p + 8) 12 (σ 4) (fun j => σ (183 + j)) ∧ rwR Γ M (p + 10) 50 (σ 6) (fun j => σ (195 + j)) ∧ rwR Γ M (p + 12) 20 (σ 7) (fun j => σ (245 + j)) ∧ TxM Γ M (p + 14) 0 σ ∧ TxM Γ M (p + 20) 1 σ
theorem PstR.o {Γ : Cx} {p e z : Nat} {σ : Rw} {M : Nat → Option va_E} (h : PstR Γ p e z σ M) : M p = some (.inr (5, pfs p σ)) := h.1
theorem PstR.xs {Γ : Cx} {p e z : Nat} {σ : Rw} {M : Nat → Option va_E} (h : PstR Γ p e z σ M) : rowE Γ M (p + 1) 9 (hx σ) := h.2.1
theorem PstR.ys {Γ : Cx} {p e z : Nat} {σ : Rw} {M : Nat → Option va_E} (h : PstR Γ p e z σ M) : rowE Γ M (p + 2) 9 (hy σ) := h.2.2.1
theorem PstR.hz {Γ : Cx} {p e z : Nat} {σ : Rw} {M : Nat → Option va_E} (h : PstR Γ p e z σ M) : rowE Γ M (p + 3) 9 (hz σ) := h.2.2.2.1
theorem PstR.wd {Γ : Cx} {p e z : Nat} {σ : Rw} {M : Nat → Option va_E} (h : PstR Γ p e z σ M) : rowE Γ M (p + 4) 24 (fun h => σ (27 + h)) := h.2.2.2.2.1
theorem PstR.kt {Γ : Cx} {p e z : Nat} {σ : Rw} {M : Nat → Option va_E} (h : PstR Γ p e z σ M) : KtA Γ e z σ M (p + 5) := h.2.2.2.2.2.1
theorem PstR.am {Γ : Cx} {p e z : Nat} {σ : Rw} {M : Nat → Option va_E} (h : PstR Γ p e z σ M) : rowE Γ M (p + 6) 8 (fun k => kf σ k 5) := h.2.2.2.2.2.2.1
theorem PstR.lt {Γ : Cx} {p e z : Nat} {σ : Rw} {M : Nat → Option va_E} (h : PstR Γ p e z σ M) : rowE Γ M (p + 7) 84 (fun j => σ (99 + j)) := h.2.2.2.2.2.2.2.1
theorem PstR.ar {Γ : Cx} {p e z : Nat} {σ : Rw} {M : Nat → Option va_E} (h : PstR Γ p e z σ M) : rwR Γ M (p + 8) 12 (σ 4) (fun j => σ (183 + j)) := h.2.2.2.2.2.2.2.2.1
theorem PstR.tp {Γ : Cx} {p e z : Nat} {σ : Rw} {M : Nat → Option va_E} (h : PstR Γ p e z σ M) : rwR Γ M (p + 10) 50 (σ 6) (fun j => σ (195 + j)) := h.2.2.2.2.2.2.2.2.2.1
theorem PstR.wt {Γ : Cx} {p e z : Nat} {σ : Rw} {M : Nat → Option va_E} (h : PstR Γ p e z σ M) : rwR Γ M (p + 12) 20 (σ 7) (fun j => σ (245 + j)) := h.2.2.2.2.2.2.2.2.2.2.1
theorem PstR.li {Γ : Cx} {p e z : Nat} {σ : Rw} {M : Nat → Option va_E} (h : PstR Γ p e z σ M) : TxM Γ M (p + 14) 0 σ := h.2.2.2.2.2.2.2.2.2.2.2.1
theorem PstR.pa {Γ : Cx} {p e z : Nat} {σ : Rw} {M : Nat → Option va_E} (h : PstR Γ p e z σ M) : TxM Γ M (p + 20) 1 σ := h.2.2.2.2.2.2.2.2.2.2.2.2
/-- what stands in other cells, and what the row says elsewhere, doesn't matter -/
theorem PstR.mv {Γ : Cx} {p e z z' : Nat} {σ τ : Rw} {M M' : Nat → Option va_E} (h : PstR Γ p e z σ M) (hI : Inv σ) (h1 : ∀ q, p ≤ q → q < p + 26 → M' q = M q) (h2 : ∀ q, e ≤ q → q < z → M' q = M q) (hz : z ≤ z') (hs : ∀ j, j < 369 → τ j = σ j) : PstR Γ p e z' τ M' := by
  obtain ⟨a0, a1, a2, a3, a4, a5, a6, a7, a8, a9, b1, b2, b3⟩ := h
  obtain ⟨⟨⟨eH, lH⟩, ⟨eK, lK⟩, ⟨eL, lL⟩, ⟨eA, lA⟩, ⟨eT, lT⟩⟩, iK, iH, iW, iL, iO, iB, hT⟩ := hI
  have hA : iN (σ 4) ≤ 12 := by show cA σ ≤ 12; rw [lA]; exact Nat.le_trans (arN_le σ _) lL
  obtain ⟨⟨n6, q6, l6⟩, ⟨n7, q7, l7⟩, -⟩ := iB
  have h6 : iN (σ 6) = n6 := by rw [q6]; exact nI_clamp (by omega)
  have h7 : iN (σ 7) = n7 := by rw [q7]; exact nI_clamp (by omega)
  have hk : ∀ k fl, k < 8 → fl < 6 → kf τ k fl = kf σ k fl := fun k fl hk hf => hs _ (by omega)
  refine ⟨(h1 p (by omega) (by omega)).trans ?_, a1.tr (h1 _ (by omega) (by omega)) (fun j hj => ?_), a2.tr (h1 _ (by omega) (by omega)) (fun j hj => ?_), a3.tr (h1 _ (by omega) (by omega)) (fun j hj => hs _ (by omega)), a4.tr (h1 _ (by omega) (by omega)) (fun j hj => hs _ (by omega)), a5.tr (h1 _ (by omega) (by omega)) h2 hz (by unfold cK; rw [hs 2 (by omega)]) lK (fun k fl h3 h4 => hk k fl h3 (by omega)), a6.tr (h1 _ (by omega) (by omega)) (fun j hj => hk j 5 hj (by decide)), a7.tr (h1 _ (by omega) (by omega)) (fun j hj => hs _ (by omega)), a8.tr (h1 _ (by omega) (by omega)) (h1 _ (by omega) (by omega)) (hs 4 (by omega)) (fun j hj => hs _ (by omega)), a9.tr (h1 _ (by omega) (by omega)) (h1 _ (by omega) (by omega)) (hs 6 (by omega)) (fun j hj => hs _ (by omega)), b1.tr (h1 _ (by omega) (by omega)) (h1 _ (by omega) (by omega)) (hs 7 (by omega)) (fun j hj => hs _ (by omega)), b2.tr (fun q g1 g2 => h1 q (by omega) (by omega)) (cd_same (fun j g1 g2 => hs j g2) (by decide) (hT 0 (by decide))), b3.tr (fun q g1 g2 => h1 q (by omega) (by omega)) (cd_same (fun j g1 g2 => hs j g2) (by decide) (hT 1 (by decide)))⟩
  · rw [a0]
    unfold pfs
    rw [hs 0 (by omega), hs 1 (by omega), hs 2 (by omega), hs 3 (by omega), hs 5 (by omega), hs 8 (by omega)]
  · unfold hx; rw [hs _ (by omega)]
  · unfold hy; rw [hs _ (by omega)]
section PostRules
variable {Γ : Cx} {f : Md} {d b pc idx : Nat} {L : List (Option Value)} {st : List Value} {G : Wd} {Q : Option Value → Wd → Prop}
theorem ok_rde {a n : Nat} {g : Rw} {x : Int32} (j : Nat) (hd : decode f.2.1 pc = .ok (.iaload, 1)) (h : rowE Γ G.1 a n g) (hi : x = nI j) (hj : j < n) (hn : n < 2 ^ 31) (k : Ok Γ f d b (pc + 1) L (.int (g j) :: st) G Q) : Ok Γ f d b pc L (.int x :: .ref a :: st) G Q := by
  obtain ⟨fn, e1, e2⟩ := h
  rw [← e2 j hj] at k
  exact ok_iald j hd e1 hi hj hn k
end PostRules