/-! texts are read: a state is (place, wrong, how many codes, the codes) -/
abbrev Ps : Type := Nat × Bool × Nat × Rw
def hdF (σ : Rw) (s : Ps) : Int32 := if s.2.1 then -1 else if nI s.1 < σ 6 then σ (195 + s.1) else -1
def adF (s : Ps) : Ps := (s.1 + 1, s.2)
def wrF (s : Ps) : Ps := (s.1, true, s.2.2)
def emF (s : Ps) (c : Int32) : Ps := if s.2.1 then s else (s.1, s.2.1, s.2.2.1 + 1, upd s.2.2.2 s.2.2.1 c)
def opC (L : Nat) (c : Int32) : Int32 :=
  if L = 4 then (if c = 42 then 20007 else if c = 47 then 20008 else if c = 37 then 20009 else 0)
  else if L = 3 then (if c = 43 then 20005 else if c = 45 then 20006 else 0)
  else if L = 2 then (if c = 60 then 20002 else if c = 61 then 20003 else if c = 62 then 20004 else 0)
  else if L = 1 then (if c = 38 then 20001 else 0) else (if c = 124 then 20000 else 0)
def lpF (σ : Rw) (L : Nat) (q : Ps → Ps) : Nat → Ps → Ps
  | 0, s => s
  | f + 1, s => if 0 < opC L (hdF σ s) then lpF σ L q f (emF (q (adF s)) (opC L (hdF σ s))) else s
def lvG (σ : Rw) (q : Ps → Ps) : Nat → Ps → Ps
  | 0, s => q s
  | j + 1, s => lpF σ (4 - j) (lvG σ q j) (if j = 2 then 1 else 50) (lvG σ q j s)
def dgF (σ : Rw) : Nat → Int32 → Ps → Int32 × Ps
  | 0, v, s => (v, s)
  | f + 1, v, s => if wi (hdF σ s) 48 57 then dgF σ f (10 * v + hdF σ s - 48) (adF s) else (v, s)
def nfA (u : Nat) (c : Int32) : Nat → Int32
  | 0 => -1
  | k + 1 => if sByt u k = c then nI k else nfA u c k
def nmF (u : Nat) (c : Int32) : Int32 := nfA u c (sLen u)
def clF (σ : Rw) (s : Ps) : Ps := if hdF σ s = 41 then adF s else wrF s
def ptG (σ : Rw) (u : Nat) (deep : Bool) (q : Ps → Ps) (s : Ps) : Ps :=
  if hdF σ s = 33 ∨ hdF σ s = 40 then (if deep then wrF s else if hdF σ s = 33 then emF (q (adF s)) 20010 else clF σ (lvG σ q 5 (adF s)))
  else if wi (hdF σ s) 48 57 then emF (dgF σ 4 0 s).2 (dgF σ 4 0 s).1
  else if hdF σ s < 0 ∨ nmF u (hdF σ s) < 0 then wrF s
  else adF (emF s (10000 + nmF u (hdF σ s)))
def ptF (σ : Rw) (u : Nat) : Nat → Ps → Ps
  | 0 => ptG σ u true id
  | o + 1 => ptG σ u false (ptF σ u o)
def Mn (tn : Nat) (s s' : Ps) : Prop := s.1 ≤ s'.1 ∧ s'.2.2.1 + s.1 ≤ s'.1 + s.2.2.1 ∧ s'.1 ≤ tn
def MqP (tn : Nat) (q : Ps → Ps) : Prop := ∀ s : Ps, s.1 ≤ tn → Mn tn s (q s)
theorem Mn.tr {tn : Nat} {s t r : Ps} (h : Mn tn s t) (h2 : Mn tn t r) : Mn tn s r := ⟨by have := h.1; have := h2.1; omega, by have := h.2.1; have := h2.2.1; omega, h2.2.2⟩
theorem Mn.rf {tn : Nat} {s : Ps} (h : s.1 ≤ tn) : Mn tn s s := ⟨Nat.le_refl _, Nat.le_of_eq (Nat.add_comm _ _), h⟩
theorem Mn.wr {tn : Nat} {s : Ps} (h : s.1 ≤ tn) : Mn tn s (wrF s) := ⟨Nat.le_refl _, Nat.le_of_eq (Nat.add_comm _ _), h⟩
theorem hd_in {σ : Rw} {s : Ps} {tn : Nat} (e6 : σ 6 = nI tn) (ht : tn ≤ 50) (hs : s.1 ≤ tn) (h : hdF σ s ≠ -1) : s.2.1 = false ∧ s.1 < tn ∧ hdF σ s = σ (195 + s.1) := by
  unfold hdF at h ⊢
  by_cases hw : s.2.1 = true
  · rw [if_pos hw] at h; exact absurd rfl h
  · rw [if_neg hw] at h ⊢
    by_cases hl : nI s.1 < σ 6
    · rw [if_pos hl]
      rw [e6] at hl
      exact ⟨Bool.eq_false_iff.mpr hw, (nI_ltI (by omega) (by omega)).mp hl, rfl⟩
    · rw [if_neg hl] at h; exact absurd rfl h
theorem opC_m1 (L : Nat) : opC L (-1) = 0 := by
  unfold opC
  split
  · decide
  · split
    · decide
    · split
      · decide
      · split <;> decide
theorem opC_pos {L : Nat} {c : Int32} (h : 0 < opC L c) : c ≠ -1 := fun e => by rw [e, opC_m1] at h; exact absurd h (by decide)
theorem Mn.ad {tn : Nat} {s : Ps} (h : s.1 < tn) : Mn tn s (adF s) := ⟨Nat.le_succ _, by show s.2.2.1 + s.1 ≤ s.1 + 1 + s.2.2.1; omega, h⟩
theorem em_1 (s : Ps) (c : Int32) : (emF s c).1 = s.1 ∧ (emF s c).2.1 = s.2.1 ∧ (emF s c).2.2.1 ≤ s.2.2.1 + 1 := by
  unfold emF
  split
  · exact ⟨rfl, rfl, Nat.le_succ _⟩
  · exact ⟨rfl, rfl, Nat.le_refl _⟩
/-- a byte is taken, a part is read, a code is told -/
theorem Mn.op {tn : Nat} {q : Ps → Ps} (hq : MqP tn q) {s : Ps} {c : Int32} (h : s.1 < tn) : Mn tn s (emF (q (adF s)) c) ∧ s.1 < (emF (q (adF s)) c).1 := by
  obtain ⟨h1, h2, h3⟩ := hq (adF s) h
  obtain ⟨g1, g2, g3⟩ := em_1 (q (adF s)) c
  have e1 : (adF s).1 = s.1 + 1 := rfl
  have e2 : (adF s).2.2.1 = s.2.2.1 := rfl
  rw [e1] at h1 h2
  rw [e2] at h2
  refine ⟨⟨?_, ?_, ?_⟩, ?_⟩
  · rw [g1]; omega
  · rw [g1]; omega
  · rw [g1]; exact h3
  · rw [g1]; omega
theorem Mn.lp {σ : Rw} {tn L : Nat} {q : Ps → Ps} (e6 : σ 6 = nI tn) (ht : tn ≤ 50) (hq : MqP tn q) : ∀ f, MqP tn (lpF σ L q f)
  | 0, s, h => Mn.rf h
  | f + 1, s, h => by
    unfold lpF
    split
    · rename_i hp
      obtain ⟨-, hl, -⟩ := hd_in e6 ht h (opC_pos hp)
      obtain ⟨m1, -⟩ := Mn.op hq (c := opC L (hdF σ s)) hl
      exact m1.tr (Mn.lp e6 ht hq f _ m1.2.2)
    · exact Mn.rf h
theorem Mn.lv {σ : Rw} {tn : Nat} {q : Ps → Ps} (e6 : σ 6 = nI tn) (ht : tn ≤ 50) (hq : MqP tn q) : ∀ j, MqP tn (lvG σ q j)
  | 0, s, h => hq s h
  | j + 1, s, h => by
    have ih := Mn.lv e6 ht hq j
    have h1 := ih s h
    exact h1.tr (Mn.lp e6 ht ih _ _ h1.2.2)
theorem wi_pos {c : Int32} (h : wi c 48 57 = true) : c ≠ -1 := fun e => by rw [e] at h; exact absurd h (by decide)
theorem dg_ok {σ : Rw} {tn : Nat} (e6 : σ 6 = nI tn) (ht : tn ≤ 50) : ∀ f v (s : Ps), s.1 ≤ tn → s.1 ≤ (dgF σ f v s).2.1 ∧ (dgF σ f v s).2.1 ≤ tn ∧ (dgF σ f v s).2.2 = s.2
  | 0, v, s, h => ⟨Nat.le_refl _, h, rfl⟩
  | f + 1, v, s, h => by
    unfold dgF
    split
    · rename_i hp
      obtain ⟨-, hl, -⟩ := hd_in e6 ht h (wi_pos hp)
      obtain ⟨g1, g2, g3⟩ := dg_ok e6 ht f (10 * v + hdF σ s - 48) (adF s) hl
      exact ⟨Nat.le_trans (Nat.le_succ _) g1, g2, g3⟩
    · exact ⟨Nat.le_refl _, h, rfl⟩
theorem Mn.cl {σ : Rw} {tn : Nat} (e6 : σ 6 = nI tn) (ht : tn ≤ 50) : MqP tn (clF σ) := by
  intro s h
  unfold clF
  split
  · rename_i hp
    obtain ⟨-, hl, -⟩ := hd_in e6 ht h (fun e => by rw [e] at hp; exact absurd hp (by decide))
    exact Mn.ad hl
  · exact Mn.wr h
theorem Mn.pt {σ : Rw} {u tn : Nat} {deep : Bool} {q : Ps → Ps} (e6 : σ 6 = nI tn) (ht : tn ≤ 50) (hq : MqP tn q) : MqP tn (ptG σ u deep q) := by
  intro s h
  unfold ptG
  split
  · rename_i hp
    split
    · exact Mn.wr h
    · have hne : hdF σ s ≠ -1 := fun e => by rw [e] at hp; exact absurd hp (by decide)
      obtain ⟨-, hl, -⟩ := hd_in e6 ht h hne
      split
      · exact (Mn.op hq hl).1
      · have m1 := Mn.lv e6 ht hq 5 (adF s) hl
        exact ((Mn.ad hl).tr m1).tr (Mn.cl e6 ht _ m1.2.2)
  · split
    · rename_i hp
      obtain ⟨-, hl, -⟩ := hd_in e6 ht h (wi_pos hp)
      have e4 : dgF σ 4 0 s = dgF σ 3 (10 * 0 + hdF σ s - 48) (adF s) := if_pos hp
      obtain ⟨g1, g2, g3⟩ := dg_ok e6 ht 3 (10 * 0 + hdF σ s - 48) (adF s) hl
      rw [e4]
      obtain ⟨k1, k2, k3⟩ := em_1 (dgF σ 3 (10 * 0 + hdF σ s - 48) (adF s)).2 (dgF σ 3 (10 * 0 + hdF σ s - 48) (adF s)).1
      have e1 : (adF s).1 = s.1 + 1 := rfl
      rw [e1] at g1
      rw [g3] at k3
      have e2 : (adF s).2.2.1 = s.2.2.1 := rfl
      rw [e2] at k3
      exact ⟨by rw [k1]; omega, by rw [k1]; omega, by rw [k1]; exact g2⟩
    · split
      · exact Mn.wr h
      · rename_i hp
        have hne : hdF σ s ≠ -1 := fun e => hp (Or.inl (by rw [e]; decide))
        obtain ⟨-, hl, -⟩ := hd_in e6 ht h hne
        obtain ⟨k1, k2, k3⟩ := em_1 s (10000 + nmF u (hdF σ s))
        refine ⟨?_, ?_, ?_⟩
        · show s.1 ≤ (emF s _).1 + 1; rw [k1]; omega
        · show (emF s _).2.2.1 + s.1 ≤ (emF s _).1 + 1 + s.2.2.1; rw [k1]; omega
        · show (emF s _).1 + 1 ≤ tn; rw [k1]; exact hl
theorem Mn.id {tn : Nat} : MqP tn id := fun s h => Mn.rf h
theorem Mn.ptF {σ : Rw} {u tn : Nat} (e6 : σ 6 = nI tn) (ht : tn ≤ 50) : ∀ o, MqP tn (ptF σ u o)
  | 0 => Mn.pt e6 ht Mn.id
  | o + 1 => Mn.pt e6 ht (Mn.ptF e6 ht o)
/-- at the end of the tape nothing goes on -/
theorem hd_end {σ : Rw} {s : Ps} {tn : Nat} (e6 : σ 6 = nI tn) (ht : tn ≤ 50) (hs : tn ≤ s.1) (hs2 : s.1 < 1000) : hdF σ s = -1 := by
  unfold hdF
  split
  · rfl
  · rw [e6, if_neg (nI_nlt hs (by omega))]
/-! the reference while it reads -/
def prI (ri : Rw) (u op : Nat) (s : Ps) : Rw := fun j => if j = 8 then nI s.1 else if j = 9 then nI op else if j = 10 then nI u else if j = 11 then bI s.2.1 else if j = 13 then nI s.2.2.1 else ri j
theorem pr_8 (ri : Rw) (u op : Nat) (s : Ps) : prI ri u op s 8 = nI s.1 := rfl
theorem pr_9 (ri : Rw) (u op : Nat) (s : Ps) : prI ri u op s 9 = nI op := rfl
theorem pr_10 (ri : Rw) (u op : Nat) (s : Ps) : prI ri u op s 10 = nI u := rfl
theorem pr_11 (ri : Rw) (u op : Nat) (s : Ps) : prI ri u op s 11 = bI s.2.1 := rfl
theorem pr_13 (ri : Rw) (u op : Nat) (s : Ps) : prI ri u op s 13 = nI s.2.2.1 := rfl
theorem prI_w {ri : Rw} {u op : Nat} {s : Ps} {k : Nat} {v : Int32} {s' : Ps} {op' : Nat} (h : ∀ j, (if j = k then v else prI ri u op s j) = prI ri u op' s' j) : upd (prI ri u op s) k v = prI ri u op' s' := funext h
theorem pw_8 {ri : Rw} {u op : Nat} {s : Ps} {q : Nat} : upd (prI ri u op s) 8 (nI q) = prI ri u op (q, s.2) := prI_w (fun j => by
  unfold prI
  by_cases h : j = 8
  · rw [if_pos h, if_pos h]
  · rw [if_neg h, if_neg h, if_neg h])
theorem pw_9 {ri : Rw} {u op : Nat} {s : Ps} {q : Nat} : upd (prI ri u op s) 9 (nI q) = prI ri u q s := prI_w (fun j => by
  unfold prI
  by_cases h : j = 9
  · subst h; rfl
  · rw [if_neg h, if_neg h, if_neg h])
theorem pw_11 {ri : Rw} {u op : Nat} {s : Ps} {q : Bool} : upd (prI ri u op s) 11 (bI q) = prI ri u op (s.1, q, s.2.2) := prI_w (fun j => by
  unfold prI
  by_cases h : j = 11
  · subst h; rfl
  · rw [if_neg h, if_neg h, if_neg h])
theorem pw_13 {ri : Rw} {u op : Nat} {s : Ps} {q : Nat} {f : Rw} : upd (prI ri u op s) 13 (nI q) = prI ri u op (s.1, s.2.1, q, f) := prI_w (fun j => by
  unfold prI
  by_cases h : j = 13
  · subst h; rfl
  · rw [if_neg h, if_neg h, if_neg h])
def RefP (Γ : Cx) (m : Nat) (M0 : Nat → Option va_E) (σ κ ri : Rw) (ra : Nat → Rw) (u op : Nat) (s : Ps) (M : Nat → Option va_E) : Prop :=
  ∃ fc : Rw, (∀ j, j < s.2.2.1 → fc j = s.2.2.2 j) ∧ RefX Γ m M0 σ κ (prI ri u op s) (va_up ra 12 fc) M
