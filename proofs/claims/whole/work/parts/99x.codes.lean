/-! bytes and codes -/
def Ch (c : Int32) : Prop := c = -1 ∨ ∃ v, v < 256 ∧ c = nI v
theorem ch_ind (P : Int32 → Bool) (h0 : P (-1) = true) (h : ∀ v : Fin 256, P (nI v.val) = true) {c : Int32} (hc : Ch c) : P c = true := by
  rcases hc with e | ⟨v, hv, e⟩
  · rw [e]; exact h0
  · rw [e]; exact h ⟨v, hv⟩
theorem hd_ch {σ : Rw} {s : Ps} (hB : InvB σ) (hs : s.1 ≤ 50) : Ch (hdF σ s) := by
  obtain ⟨⟨n, e6, l6⟩, -, hb⟩ := hB
  unfold hdF
  split
  · exact Or.inl rfl
  · split
    · rename_i h
      rw [e6] at h
      have := (nI_ltI (by omega) (by omega)).mp h
      exact Or.inr (hb s.1 (by omega))
    · exact Or.inl rfl
/-- the place of a sign among the signs of a text -/
def ixG (i : Nat) (c : Int32) : Int32 := if c < 0 then -1 else ixS i (ji2c c)
def sgP (L : Nat) (c : Int32) : Bool := (decide (ixG (2 + L) c < 0) == decide (¬ 0 < opC L c)) && (decide (¬ 0 < opC L c) || decide (enC (opC L c) = -c))
theorem sgn_0 : ∀ L : Fin 5, sgP L.val (-1) = true := by decide +kernel
theorem sgn_1 : ∀ L : Fin 5, ∀ v : Fin 256, sgP L.val (nI v.val) = true := by decide +kernel
theorem sg_ok {L : Nat} (hL : L < 5) {c : Int32} (hc : Ch c) : (ixG (2 + L) c < 0 ↔ ¬ 0 < opC L c) ∧ (0 < opC L c → enC (opC L c) = -c) := by
  have h := ch_ind (sgP L) (sgn_0 ⟨L, hL⟩) (sgn_1 ⟨L, hL⟩) hc
  unfold sgP at h
  rw [Bool.and_eq_true, Bool.or_eq_true] at h
  refine ⟨decide_eq_decide.mp (eq_of_beq h.1), fun h9 => h.2.elim (fun g => absurd h9 (of_decide_eq_true g)) (fun g => of_decide_eq_true g)⟩
def nmP (u : Nat) (c : Int32) : Bool := (decide (ixG u c < 0) == decide (c < 0 ∨ nmF u c < 0)) && (decide (ixG u c < 0) || (decide (ixG u c = nmF u c) && decide (enC (10000 + nmF u c) = -1 - nmF u c) && decide (¬ (c = 33 ∨ c = 40)) && decide (nmF u c < 4)))
theorem nm_0 : ∀ u : Fin 2, nmP u.val (-1) = true := by decide +kernel
theorem nm_1 : ∀ u : Fin 2, ∀ v : Fin 256, nmP u.val (nI v.val) = true := by decide +kernel
theorem nm_ok {u : Nat} (hu : u < 2) {c : Int32} (hc : Ch c) : (ixG u c < 0 ↔ (c < 0 ∨ nmF u c < 0)) ∧ (¬ ixG u c < 0 → ixG u c = nmF u c ∧ enC (10000 + nmF u c) = -1 - nmF u c ∧ ¬ (c = 33 ∨ c = 40) ∧ nmF u c < 4) := by
  have h := ch_ind (nmP u) (nm_0 ⟨u, hu⟩) (nm_1 ⟨u, hu⟩) hc
  unfold nmP at h
  rw [Bool.and_eq_true, Bool.or_eq_true, Bool.and_eq_true, Bool.and_eq_true, Bool.and_eq_true] at h
  refine ⟨decide_eq_decide.mp (eq_of_beq h.1), fun h9 => ?_⟩
  rcases h.2 with g | ⟨⟨⟨g1, g2⟩, g3⟩, g4⟩
  · exact absurd (of_decide_eq_true g) h9
  · exact ⟨of_decide_eq_true g1, of_decide_eq_true g2, of_decide_eq_true g3, of_decide_eq_true g4⟩
theorem dg_np {c : Int32} (h : wi c 48 57 = true) : ¬ (c = 33 ∨ c = 40) := fun h9 => by
  rcases h9 with e | e
  · rw [e] at h; exact absurd h (by decide)
  · rw [e] at h; exact absurd h (by decide)
/-- a number of at most four digits -/
theorem dg_val {σ : Rw} : ∀ f n (s : Ps), f ≤ 4 → n < 10 ^ (4 - f) → ∃ m, (dgF σ f (nI n) s).1 = nI m ∧ m < 10000
  | 0, n, s, _, hn => ⟨n, rfl, hn⟩
  | f + 1, n, s, hf, hn => by
    unfold dgF
    split
    · rename_i h
      obtain ⟨e1, l1, l2⟩ := wi_lit (a := 48) (c := 57) rfl rfl (by decide) (by decide) h
      have e2 : (10 * nI n + hdF σ s - 48 : Int32) = nI (10 * n + iN (hdF σ s) - 48) := by
        have e3 : (10 * nI n : Int32) = nI (10 * n) := pk_mul 10 n
        have e4 : (nI (10 * n) + hdF σ s : Int32) = nI (10 * n + iN (hdF σ s)) := (congrArg (nI (10 * n) + ·) e1).trans (nI_add _ _)
        rw [e3, e4]
        exact pk_sub (b := 48) (by omega)
      rw [e2]
      refine dg_val f _ _ (by omega) ?_
      have hp : 10 ^ (4 - f) = 10 ^ (4 - (f + 1)) * 10 := by rw [show 4 - f = 4 - (f + 1) + 1 by omega, Nat.pow_succ]
      rw [hp]
      omega
    · refine ⟨n, rfl, Nat.lt_of_lt_of_le hn (Nat.pow_le_pow_right (n := 10) (by decide) (show 4 - (f + 1) ≤ 4 by omega))⟩
theorem en_num {m : Nat} (h : m < 10000) : enC (nI m) = nI m := if_pos (nI_lt (b := 10000) h (by decide))
/-! codes of a text that is read are in order -/
def dpF (s : Ps) : Nat := wkD s.2.2.2 0 s.2.2.1
def wfS (s : Ps) : Prop := wfT s.2.2.2 0 s.2.2.1
def GdP (tn : Nat) (q : Ps → Ps) : Prop := ∀ s : Ps, s.1 ≤ tn → (q s).2.1 = false → s.2.1 = false ∧ (wfS s → wfS (q s) ∧ dpF (q s) = dpF s + 1)
theorem wkD_eq {f g : Rw} {fr : Nat} : ∀ n, (∀ j, j < n → g (fr + j) = f (fr + j)) → wkD g fr n = wkD f fr n
  | 0, _ => rfl
  | n + 1, h => by
    unfold wkD
    rw [h n (by omega), wkD_eq n (fun j hj => h j (by omega))]
theorem wf_em {s : Ps} {c : Int32} (hw : s.2.1 = false) (h : wfS s) (h1 : c < 20000 → (0 ≤ c ∧ c < 10004)) (h2 : c = 20010 → 1 ≤ dpF s) (h3 : 20000 ≤ c → ¬ c = 20010 → 2 ≤ dpF s) : wfS (emF s c) ∧ dpF (emF s c) = (if c < 20000 then dpF s + 1 else if c = 20010 then dpF s else dpF s - 1) := by
  have e9 : emF s c = (s.1, s.2.1, s.2.2.1 + 1, upd s.2.2.2 s.2.2.1 c) := if_neg (by rw [hw]; decide)
  rw [e9]
  have hp : ∀ n, n ≤ s.2.2.1 → wkD (upd s.2.2.2 s.2.2.1 c) 0 n = wkD s.2.2.2 0 n := fun n hn => wkD_eq n (fun j hj => upd_ne (by omega))
  have key : wfT (upd s.2.2.2 s.2.2.1 c) 0 (s.2.2.1 + 1) := by
    intro j hj
    by_cases e : j = s.2.2.1
    · have e1 : (upd s.2.2.2 s.2.2.1 c) (0 + j) = c := by rw [Nat.zero_add, e]; exact upd_at
      have e2 : wkD (upd s.2.2.2 s.2.2.1 c) 0 j = dpF s := by rw [e]; exact hp _ (Nat.le_refl _)
      rw [e1, e2]
      exact ⟨h1, h2, h3⟩
    · have e1 : (upd s.2.2.2 s.2.2.1 c) (0 + j) = s.2.2.2 (0 + j) := upd_ne (by omega)
      rw [e1, hp j (by omega)]
      exact h j (by omega)
  refine ⟨key, ?_⟩
  · show wkD (upd s.2.2.2 s.2.2.1 c) 0 (s.2.2.1 + 1) = _
    have e1 : (upd s.2.2.2 s.2.2.1 c) (0 + s.2.2.1) = c := by rw [Nat.zero_add]; exact upd_at
    unfold wkD
    rw [e1, hp _ (Nat.le_refl _)]
    rfl
theorem em_w (s : Ps) (c : Int32) : (emF s c).2.1 = s.2.1 := (em_1 s c).2.1
def opP (L : Nat) (c : Int32) : Bool := decide (¬ 0 < opC L c) || (decide (20000 ≤ opC L c) && decide (¬ opC L c = 20010))
theorem op_0 : ∀ L : Fin 5, opP L.val (-1) = true := by decide +kernel
theorem op_1 : ∀ L : Fin 5, ∀ v : Fin 256, opP L.val (nI v.val) = true := by decide +kernel
theorem op_cd {L : Nat} (hL : L < 5) {c : Int32} (hc : Ch c) (h9 : 0 < opC L c) : 20000 ≤ opC L c ∧ ¬ opC L c = 20010 := by
  have h := ch_ind (opP L) (op_0 ⟨L, hL⟩) (op_1 ⟨L, hL⟩) hc
  unfold opP at h
  rw [Bool.or_eq_true, Bool.and_eq_true] at h
  exact h.elim (fun g => absurd h9 (of_decide_eq_true g)) (fun g => ⟨of_decide_eq_true g.1, of_decide_eq_true g.2⟩)
theorem hd_w {σ : Rw} {s : Ps} (h : s.2.1 = true) : hdF σ s = -1 := by unfold hdF; rw [if_pos h]
/-- signs with parts behind them leave one number where one was -/
theorem gd_lp {σ : Rw} {tn L : Nat} (hL : L < 5) (hB : InvB σ) (e6 : σ 6 = nI tn) (ht : tn ≤ 50) {q : Ps → Ps} (hq : GdP tn q) (hm : MqP tn q) : ∀ f (s : Ps), s.1 ≤ tn → (lpF σ L q f s).2.1 = false → s.2.1 = false ∧ (wfS s → 1 ≤ dpF s → wfS (lpF σ L q f s) ∧ dpF (lpF σ L q f s) = dpF s)
  | 0, s, _, h => ⟨h, fun g _ => ⟨g, rfl⟩⟩
  | f + 1, s, hs, h => by
    unfold lpF at h ⊢
    split
    · rename_i hp
      rw [if_pos hp] at h
      obtain ⟨hw, hl, -⟩ := hd_in e6 ht hs (opC_pos hp)
      obtain ⟨m1, -⟩ := Mn.op hm (c := opC L (hdF σ s)) hl
      obtain ⟨g1, g2⟩ := gd_lp hL hB e6 ht hq hm f _ m1.2.2 h
      obtain ⟨c1, c2⟩ := op_cd hL (hd_ch hB (by omega)) hp
      rw [em_w] at g1
      obtain ⟨-, q2⟩ := hq (adF s) hl g1
      refine ⟨hw, fun w1 d1 => ?_⟩
      obtain ⟨w2, d2⟩ := q2 w1
      have d3 : dpF (adF s) = dpF s := rfl
      obtain ⟨w3, d4⟩ := wf_em (c := opC L (hdF σ s)) g1 w2 (fun h9 => absurd c1 (Int32.not_le.mpr h9)) (fun h9 => absurd h9 c2) (fun _ _ => by omega)
      rw [if_neg (Int32.not_lt.mpr c1), if_neg c2] at d4
      obtain ⟨w5, d5⟩ := g2 w3 (by omega)
      exact ⟨w5, by omega⟩
    · rename_i hp
      rw [if_neg hp] at h
      exact ⟨h, fun g _ => ⟨g, rfl⟩⟩
theorem gd_lv {σ : Rw} {tn : Nat} (hB : InvB σ) (e6 : σ 6 = nI tn) (ht : tn ≤ 50) {q : Ps → Ps} (hq : GdP tn q) (hm : MqP tn q) : ∀ j, j ≤ 5 → GdP tn (lvG σ q j)
  | 0, _ => hq
  | j + 1, hj => by
    intro s hs h
    have ih := gd_lv hB e6 ht hq hm j (by omega)
    have m1 := Mn.lv e6 ht hm j
    obtain ⟨g1, g2⟩ := gd_lp (L := 4 - j) (by omega) hB e6 ht ih m1 _ (lvG σ q j s) (m1 s hs).2.2 h
    obtain ⟨k1, k2⟩ := ih s hs g1
    refine ⟨k1, fun w => ?_⟩
    obtain ⟨w2, d2⟩ := k2 w
    obtain ⟨w3, d3⟩ := g2 w2 (by omega)
    exact ⟨w3, by show dpF (lpF σ (4 - j) (lvG σ q j) (if j = 2 then 1 else 50) (lvG σ q j s)) = _; omega⟩
theorem cl_ok {σ : Rw} {r : Ps} (h : (clF σ r).2.1 = false) : r.2.1 = false ∧ (clF σ r).2.2 = r.2.2 := by
  unfold clF at h ⊢
  by_cases c3 : hdF σ r = 41
  · rw [if_pos c3] at h ⊢
    exact ⟨h, rfl⟩
  · rw [if_neg c3] at h
    exact absurd h (by show ¬ true = false; decide)
theorem gd_pt {σ : Rw} {u tn : Nat} (hu : u < 2) (hB : InvB σ) (e6 : σ 6 = nI tn) (ht : tn ≤ 50) {deep : Bool} {q : Ps → Ps} (hq : deep = true ∨ GdP tn q) (hm : MqP tn q) : GdP tn (ptG σ u deep q) := by
  intro s hs h
  unfold ptG at h ⊢
  by_cases c1 : hdF σ s = 33 ∨ hdF σ s = 40
  · rw [if_pos c1] at h ⊢
    cases deep with
    | true => rw [if_pos rfl] at h; exact absurd h (by show ¬ true = false; decide)
    | false =>
      have hq := hq.resolve_left (by decide)
      rw [if_neg (by decide)] at h ⊢
      have hne : hdF σ s ≠ -1 := fun e => by rw [e] at c1; exact absurd c1 (by decide)
      obtain ⟨hw, hl, -⟩ := hd_in e6 ht hs hne
      by_cases c2 : hdF σ s = 33
      · rw [if_pos c2] at h ⊢
        rw [em_w] at h
        obtain ⟨-, g2⟩ := hq (adF s) hl h
        refine ⟨hw, fun w => ?_⟩
        obtain ⟨w2, d2⟩ := g2 w
        have d3 : dpF (adF s) = dpF s := rfl
        obtain ⟨w3, d4⟩ := wf_em (c := 20010) h w2 (fun h9 => absurd h9 (by decide)) (fun _ => by omega) (fun _ h9 => absurd rfl h9)
        rw [if_neg (by decide), if_pos rfl] at d4
        exact ⟨w3, by omega⟩
      · rw [if_neg c2] at h ⊢
        obtain ⟨g1, e1⟩ := cl_ok h
        obtain ⟨-, k2⟩ := gd_lv hB e6 ht hq hm 5 (Nat.le_refl _) (adF s) hl g1
        refine ⟨hw, fun w => ?_⟩
        obtain ⟨w2, d2⟩ := k2 w
        generalize lvG σ q 5 (adF s) = r9 at e1 w2 d2
        exact ⟨by unfold wfS at w2 ⊢; rw [e1]; exact w2, by unfold dpF at d2 ⊢; rw [e1]; exact d2⟩
  · rw [if_neg c1] at h ⊢
    by_cases c2 : wi (hdF σ s) 48 57 = true
    · rw [if_pos c2] at h ⊢
      obtain ⟨-, -, g3⟩ := dg_ok e6 ht 4 0 s hs
      obtain ⟨m, em, lm⟩ := dg_val (σ := σ) 4 0 s (Nat.le_refl _) (by decide)
      have em : (dgF σ 4 0 s).1 = nI m := em
      rw [em_w, g3] at h
      refine ⟨h, fun w => ?_⟩
      have w2 : wfS (dgF σ 4 0 s).2 := by unfold wfS at w ⊢; rw [g3]; exact w
      have d2 : dpF (dgF σ 4 0 s).2 = dpF s := by unfold dpF; rw [g3]
      rw [em]
      obtain ⟨w3, d4⟩ := wf_em (c := nI m) (by rw [g3]; exact h) w2 (fun _ => ⟨nI_pos' (by omega), nI_lt (b := 10004) (by omega) (by decide)⟩) (fun h9 => by have := (nI_eq (b := 20010) (by omega) (by decide)).mp h9; omega) (fun h9 => absurd h9 (nI_ge (b := 20000) (by omega) (by decide)))
      rw [if_pos (show nI m < 20000 from nI_lt (b := 20000) (by omega) (by decide))] at d4
      exact ⟨w3, by omega⟩
    · rw [if_neg c2] at h ⊢
      by_cases c3 : hdF σ s < 0 ∨ nmF u (hdF σ s) < 0
      · rw [if_pos c3] at h
        exact absurd h (by show ¬ true = false; decide)
      · rw [if_neg c3] at h ⊢
        obtain ⟨n1, n2⟩ := nm_ok hu (hd_ch hB (s := s) (by omega))
        obtain ⟨-, -, -, l4⟩ := n2 (fun h9 => c3 (n1.mp h9))
        have h : (emF s (10000 + nmF u (hdF σ s))).2.1 = false := h
        rw [em_w] at h
        refine ⟨h, fun w => ?_⟩
        have p0 : 0 ≤ nmF u (hdF σ s) := Int32.not_lt.mp (fun h9 => c3 (Or.inr h9))
        obtain ⟨e1, -, l1⟩ := wi_lit (x := nmF u (hdF σ s)) (a := 0) (c := 3) rfl rfl (by decide) (by decide) (wi_in p0 (by rw [fa_le]; have := (fa_lt _ _).mp l4; rw [show (4 : Int32).toInt = 4 from by decide] at this; rw [show (nI 3).toInt = 3 from by decide]; omega))
        have e2 : (10000 + nmF u (hdF σ s) : Int32) = nI (10000 + iN (nmF u (hdF σ s))) := (congrArg (10000 + ·) e1).trans (nI_add 10000 _)
        obtain ⟨w3, d4⟩ := wf_em (c := 10000 + nmF u (hdF σ s)) h w (fun _ => by rw [e2]; exact ⟨nI_pos' (by omega), nI_lt (b := 10004) (by omega) (by decide)⟩) (fun h9 => by rw [e2] at h9; have := (nI_eq (b := 20010) (by omega) (by decide)).mp h9; omega) (fun h9 => by rw [e2] at h9; exact absurd h9 (nI_ge (b := 20000) (by omega) (by decide)))
        rw [if_pos (by rw [e2]; exact nI_lt (b := 20000) (by omega) (by decide))] at d4
        exact ⟨w3, d4⟩
theorem gd_ptF {σ : Rw} {u tn : Nat} (hu : u < 2) (hB : InvB σ) (e6 : σ 6 = nI tn) (ht : tn ≤ 50) : ∀ o, GdP tn (ptF σ u o)
  | 0 => gd_pt hu hB e6 ht (Or.inl rfl) Mn.id
  | o + 1 => gd_pt hu hB e6 ht (Or.inr (gd_ptF hu hB e6 ht o)) (Mn.ptF e6 ht o)
theorem tx_g {r : Ps} {n : Nat} (hn : n = 1) (w : wfS r) (d : dpF r = n) : wfT r.2.2.2 0 r.2.2.1 ∧ wkD r.2.2.2 0 r.2.2.1 = 1 := ⟨w, d.trans hn⟩
theorem tx_wf {σ : Rw} {u tn : Nat} (hu : u < 2) (hB : InvB σ) (e6 : σ 6 = nI tn) (ht : tn ≤ 50) (h : (txS σ u).2.1 = false) : wfT (txS σ u).2.2.2 0 (txS σ u).2.2.1 ∧ wkD (txS σ u).2.2.2 0 (txS σ u).2.2.1 = 1 := by
  have hg := gd_lv hB e6 ht (gd_ptF hu hB e6 ht 5) (Mn.ptF (u := u) e6 ht 5) 5 (Nat.le_refl _) (0, false, 0, fun _ => 0) (Nat.zero_le _)
  unfold txS at h ⊢
  generalize lvG σ (ptF σ u 5) 5 (0, false, 0, fun _ => 0) = r9 at h hg ⊢
  obtain ⟨-, g2⟩ := hg h
  obtain ⟨w, d⟩ := g2 (fun j hj => absurd hj (Nat.not_lt_zero _))
  exact tx_g rfl w d
theorem wfT_sh {f g : Rw} {a b n : Nat} (h : ∀ j, j < n → g (b + j) = f (a + j)) : (∀ j, j ≤ n → wkD g b j = wkD f a j) ∧ (wfT f a n → wfT g b n) := by
  have hd : ∀ j, j ≤ n → wkD g b j = wkD f a j := by
    intro j
    induction j with
    | zero => intro _; rfl
    | succ j ih =>
      intro hj
      unfold wkD
      rw [h j (by omega), ih (by omega)]
  refine ⟨hd, fun w j hj => ?_⟩
  rw [h j hj, hd j (by omega)]
  exact w j hj
theorem TxOk_u {σ τ : Rw} {u : Nat} (h : ∀ j, 265 + 52 * u ≤ j → j < 265 + 52 * u + 51 → τ j = σ j) (hT : TxOk σ u) : TxOk τ u := by
  obtain ⟨n, h1, h2, h3, h4⟩ := hT
  obtain ⟨d1, w1⟩ := wfT_sh (f := σ) (g := τ) (a := 265 + 52 * u + 1) (b := 265 + 52 * u + 1) (n := n) (fun j hj => h _ (by omega) (by omega))
  exact ⟨n, h1, (h _ (by omega) (by omega)).trans h2, w1 h3, fun h0 => (d1 n (Nat.le_refl _)).trans (h4 h0)⟩

theorem Inv_t0 {σ : Rw} (hI : Inv σ) : Inv (upd σ 6 0) := by
  obtain ⟨⟨⟨eH, lH⟩, ⟨eK, lK⟩, ⟨eL, lL⟩, ⟨eA, lA⟩, ⟨eT, lT⟩⟩, iK, iH, iW, iL, iO, iB, hT⟩ := id hI
  have off : ∀ {j : Nat}, j ≠ 6 → (upd σ 6 0) j = σ j := fun hj => upd_ne hj
  have qH : cH (upd σ 6 0) = cH σ := by unfold cH; rw [off (by omega)]
  have qK : cK (upd σ 6 0) = cK σ := by unfold cK; rw [off (by omega)]
  have qL : cL (upd σ 6 0) = cL σ := by unfold cL; rw [off (by omega)]
  have qA : cA (upd σ 6 0) = cA σ := by unfold cA; rw [off (by omega)]
  have qT : cT (upd σ 6 0) = cT σ := by unfold cT; rw [off (by omega)]
  have hkf : ∀ k_ f_, k_ < 8 → f_ < 6 → kf (upd σ 6 0) k_ f_ = kf σ k_ f_ := fun k_ f_ hk_ hf_ => by unfold kf; exact off (by omega)
  have hlf : ∀ k_ f_, k_ < 12 → f_ < 7 → lf (upd σ 6 0) k_ f_ = lf σ k_ f_ := fun k_ f_ hk_ hf_ => by unfold lf; exact off (by omega)
  refine ⟨⟨⟨?_, ?_⟩, ⟨?_, ?_⟩, ⟨?_, ?_⟩, ⟨?_, ?_⟩, ⟨?_, ?_⟩⟩, ?_, ?_, ?_, ?_, ?_, ?_, ?_⟩
  · rw [qH, off (by omega)]; exact eH
  · rw [qH]; exact lH
  · rw [qK, off (by omega)]; exact eK
  · rw [qK]; exact lK
  · rw [qL, off (by omega)]; exact eL
  · rw [qL]; exact lL
  · rw [qA, off (by omega)]; exact eA
  · rw [qA, qL, arN_same (σ := σ) (τ := (upd σ 6 0)) (fun l hl => by unfold arF; rw [hlf l 6 (by omega) (by decide)])]; exact lA
  · rw [qT, off (by omega)]; exact eT
  · rw [qT]; exact lT
  · intro k hk
    rw [qK] at hk
    unfold hmF amF
    simp only [hkf k _ (show k < 8 by omega) (show 0 < 6 by decide), hkf k _ (show k < 8 by omega) (show 1 < 6 by decide), hkf k _ (show k < 8 by omega) (show 2 < 6 by decide), hkf k _ (show k < 8 by omega) (show 3 < 6 by decide), hkf k _ (show k < 8 by omega) (show 4 < 6 by decide), hkf k _ (show k < 8 by omega) (show 5 < 6 by decide), qH]
    exact iK k hk
  · intro q hq
    rw [qH] at hq
    have e1 : ∀ g, g < cH σ → (upd σ 6 0) (9 + 2 * g) = σ (9 + 2 * g) := fun g hg => off (by omega)
    have e2 : hz (upd σ 6 0) q = hz σ q := by unfold hz; exact off (by omega)
    rw [e2, qH, e1 q hq]
    obtain ⟨i1, i2, i3⟩ := iH q hq
    exact ⟨i1, i2, fun g hg he => i3 g hg (by rw [e1 g hg] at he; exact he)⟩
  · intro q hq
    have e1 : (upd σ 6 0) (27 + q) = σ (27 + q) := off (by omega)
    unfold wdF
    rw [e1]
    exact iW q hq
  · intro q hq
    rw [qL] at hq
    unfold onF toF anF
    simp only [hlf q _ (show q < 12 by omega) (show 5 < 7 by decide), hlf q _ (show q < 12 by omega) (show 1 < 7 by decide), hlf q _ (show q < 12 by omega) (show 2 < 7 by decide), hlf q _ (show q < 12 by omega) (show 3 < 7 by decide), qH]
    exact iL q hq
  · intro q hq
    rw [qA] at hq
    have hq12 : cA σ ≤ 12 := by rw [lA]; exact Nat.le_trans (arN_le σ _) lL
    have e1 : (upd σ 6 0) (183 + q) = σ (183 + q) := off (by omega)
    unfold orF
    rw [e1, qL]
    exact iO q hq
  · obtain ⟨-, ⟨n2, b3, b4⟩, b5⟩ := iB
    refine ⟨⟨0, upd_at, by omega⟩, ⟨n2, by rw [off (by omega)]; exact b3, b4⟩, fun j hj => ?_⟩
    rw [off (by omega)]
    exact b5 j hj
  · intro u hu
    exact TxOk_same (fun j hj => off (by omega)) (hT u hu)

theorem Inv_txU {σ : Rw} (hI : Inv σ) {u n : Nat} {f : Rw} (hu : u < 2) (hn : n ≤ 50) (hw : wfT f 0 n) (hd : 0 < n → wkD f 0 n = 1) : Inv (txU σ u n f n) := by
  obtain ⟨⟨⟨eH, lH⟩, ⟨eK, lK⟩, ⟨eL, lL⟩, ⟨eA, lA⟩, ⟨eT, lT⟩⟩, iK, iH, iW, iL, iO, iB, hT⟩ := id hI
  have off : ∀ {j : Nat}, j < 265 → (txU σ u n f n) j = σ j := fun hj => by unfold txU; rw [if_neg (by omega), if_neg (by omega)]
  have qH : cH (txU σ u n f n) = cH σ := by unfold cH; rw [off (by omega)]
  have qK : cK (txU σ u n f n) = cK σ := by unfold cK; rw [off (by omega)]
  have qL : cL (txU σ u n f n) = cL σ := by unfold cL; rw [off (by omega)]
  have qA : cA (txU σ u n f n) = cA σ := by unfold cA; rw [off (by omega)]
  have qT : cT (txU σ u n f n) = cT σ := by unfold cT; rw [off (by omega)]
  have hkf : ∀ k_ f_, k_ < 8 → f_ < 6 → kf (txU σ u n f n) k_ f_ = kf σ k_ f_ := fun k_ f_ hk_ hf_ => by unfold kf; exact off (by omega)
  have hlf : ∀ k_ f_, k_ < 12 → f_ < 7 → lf (txU σ u n f n) k_ f_ = lf σ k_ f_ := fun k_ f_ hk_ hf_ => by unfold lf; exact off (by omega)
  refine ⟨⟨⟨?_, ?_⟩, ⟨?_, ?_⟩, ⟨?_, ?_⟩, ⟨?_, ?_⟩, ⟨?_, ?_⟩⟩, ?_, ?_, ?_, ?_, ?_, ?_, ?_⟩
  · rw [qH, off (by omega)]; exact eH
  · rw [qH]; exact lH
  · rw [qK, off (by omega)]; exact eK
  · rw [qK]; exact lK
  · rw [qL, off (by omega)]; exact eL
  · rw [qL]; exact lL
  · rw [qA, off (by omega)]; exact eA
  · rw [qA, qL, arN_same (σ := σ) (τ := (txU σ u n f n)) (fun l hl => by unfold arF; rw [hlf l 6 (by omega) (by decide)])]; exact lA
  · rw [qT, off (by omega)]; exact eT
  · rw [qT]; exact lT
  · intro k hk
    rw [qK] at hk
    unfold hmF amF
    simp only [hkf k _ (show k < 8 by omega) (show 0 < 6 by decide), hkf k _ (show k < 8 by omega) (show 1 < 6 by decide), hkf k _ (show k < 8 by omega) (show 2 < 6 by decide), hkf k _ (show k < 8 by omega) (show 3 < 6 by decide), hkf k _ (show k < 8 by omega) (show 4 < 6 by decide), hkf k _ (show k < 8 by omega) (show 5 < 6 by decide), qH]
    exact iK k hk
  · intro q hq
    rw [qH] at hq
    have e1 : ∀ g, g < cH σ → (txU σ u n f n) (9 + 2 * g) = σ (9 + 2 * g) := fun g hg => off (by omega)
    have e2 : hz (txU σ u n f n) q = hz σ q := by unfold hz; exact off (by omega)
    rw [e2, qH, e1 q hq]
    obtain ⟨i1, i2, i3⟩ := iH q hq
    exact ⟨i1, i2, fun g hg he => i3 g hg (by rw [e1 g hg] at he; exact he)⟩
  · intro q hq
    have e1 : (txU σ u n f n) (27 + q) = σ (27 + q) := off (by omega)
    unfold wdF
    rw [e1]
    exact iW q hq
  · intro q hq
    rw [qL] at hq
    unfold onF toF anF
    simp only [hlf q _ (show q < 12 by omega) (show 5 < 7 by decide), hlf q _ (show q < 12 by omega) (show 1 < 7 by decide), hlf q _ (show q < 12 by omega) (show 2 < 7 by decide), hlf q _ (show q < 12 by omega) (show 3 < 7 by decide), qH]
    exact iL q hq
  · intro q hq
    rw [qA] at hq
    have hq12 : cA σ ≤ 12 := by rw [lA]; exact Nat.le_trans (arN_le σ _) lL
    have e1 : (txU σ u n f n) (183 + q) = σ (183 + q) := off (by omega)
    unfold orF
    rw [e1, qL]
    exact iO q hq
  · obtain ⟨⟨n1, b1, b2⟩, ⟨n2, b3, b4⟩, b5⟩ := iB
    refine ⟨⟨n1, by rw [off (by omega)]; exact b1, b2⟩, ⟨n2, by rw [off (by omega)]; exact b3, b4⟩, fun j hj => ?_⟩
    rw [off (by omega)]
    exact b5 j hj
  · intro u9 hu9
    by_cases c : u9 = u
    · subst c
      have hs : ∀ j, j < n → txU σ u9 n f n (265 + 52 * u9 + 1 + j) = f (0 + j) := fun j hj => by
        unfold txU
        rw [if_neg (by omega), if_pos (by omega), show 265 + 52 * u9 + 1 + j - (265 + 52 * u9 + 1) = 0 + j by omega]
      obtain ⟨d1, w1⟩ := wfT_sh hs
      exact ⟨n, hn, if_pos rfl, w1 hw, fun h0 => (d1 n (Nat.le_refl _)).trans (hd h0)⟩
    · refine TxOk_u (fun j g1 g2 => ?_) (hT u9 hu9)
      unfold txU
      rw [if_neg (by omega), if_neg (by omega)]

theorem Inv_op_text {σ : Rw} (hI : Inv σ) (x : Int32) : Inv (op_text σ x).2.2 := by
  unfold op_text
  split
  · rename_i h
    obtain ⟨-, -, lx⟩ := wi_lit (a := 0) (c := 1) rfl rfl (by decide) (by decide) h
    obtain ⟨⟨tn, e6, ht⟩, -⟩ := id hI.2.2.2.2.2.2.1
    obtain ⟨g1, g2⟩ := txS_ok (u := iN x) e6 ht
    unfold txR
    split
    · exact Inv_t0 hI
    · rename_i h9
      rw [Bool.or_eq_true] at h9
      have hw : (txS σ (iN x)).2.1 = false := by
        cases c : (txS σ (iN x)).2.1 with
        | false => rfl
        | true => exact absurd (Or.inl c) h9
      obtain ⟨w, d⟩ := tx_wf (by omega) hI.2.2.2.2.2.2.1 e6 ht hw
      exact Inv_txU (Inv_t0 hI) (by omega) (by omega) w (fun _ => d)
  · exact hI
