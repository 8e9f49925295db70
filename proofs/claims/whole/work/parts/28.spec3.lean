/-! pull and standing -/
def bxF (kite force : Int32) : Int32 := kite - (if force ≤ 2 then 9 else 0)
def slF (kite force mk : Int32) : Int32 := kite + (if force ≤ 4 then mk else -mk)
def kdF (kind kite force mk line time : Int32) : Int32 := if kind = 1 then bxF kite force else if kind = 2 then kite - force else if kind = 3 then slF kite force mk else if kind = 4 then 2 * bxF kite force else if kind = 5 then kite - force + line / 4 else if kind = 6 then slF kite force mk - time / 24 else kite
def plF (σ : Rw) (k hill : Nat) (load force : Int32) (home : Nat) : Int32 := kf σ k 3 + 2 * force - load - 3 * jmax 0 (hz σ hill - hz σ home)
def fcF (σ : Rw) (hour : Nat) : Int32 := jrem (σ (27 + hour)) 10
def pullF (σ : Rw) (k hill : Nat) (load : Int32) (hour : Nat) (time : Int32) (home : Nat) : Int32 :=
  kdF (kf σ k 0) (plF σ k hill load (fcF σ hour) home) (fcF σ hour) (kf σ k 1) (kf σ k 4) time + givF σ 0 (fcF σ hour) (farF σ home hill) load (kf σ k 0)
def alF (σ : Rw) (hill home : Nat) (wind : Int32) : Int32 := (hx σ hill - hx σ home) * dirX (wind / 10).toNatClampNeg + (hy σ hill - hy σ home) * dirY (wind / 10).toNatClampNeg
def stF (σ : Rw) (k hill : Nat) (load : Int32) (hour : Nat) (time : Int32) (home : Nat) : Bool :=
  !(decide (nI hill = kf σ k 2)) && !(decide (fcF σ hour = 0)) && decide (farF σ home hill ≤ kf σ k 4) && decide (0 < alF σ hill home (σ (27 + hour))) && decide (0 ≤ pullF σ k hill load hour time home)
def Sc (ra ra' : Nat → Rw) : Prop := ∀ s, s ≠ 14 → s ≠ 15 → ra' s = ra s
theorem Sc.rf {ra : Nat → Rw} : Sc ra ra := fun _ _ _ => rfl
theorem Sc.tr {ra rb rc : Nat → Rw} (h : Sc ra rb) (h2 : Sc rb rc) : Sc ra rc := fun s a b => (h2 s a b).trans (h s a b)
theorem RefW.sc {Γ : Cx} {m : Nat} {M0 M : Nat → Option va_E} {σ κ : Rw} {ri vi : Rw} {ra ra' va : Nat → Rw} (h : RefX Γ m M0 σ κ ri ra' M) (hs : Sc ra ra') (hv : ri 3 = vi 3 ∧ ri 19 = vi 19) (hw : ra 4 = va 4 ∧ ra 18 = va 18 ∧ ra 21 = va 21 ∧ ra 22 = va 22 ∧ ra 23 = va 23) : RefW Γ m M0 σ κ vi va M :=
  ⟨ri, ra', h, hv, (hs 4 (by decide) (by decide)).trans hw.1, (hs 18 (by decide) (by decide)).trans hw.2.1, (hs 21 (by decide) (by decide)).trans hw.2.2.1, (hs 22 (by decide) (by decide)).trans hw.2.2.2.1, (hs 23 (by decide) (by decide)).trans hw.2.2.2.2⟩
theorem ok_rrepr14 {Γ : Cx} {f : Md} {d b pc : Nat} {L : List (Option Value)} {st : List Value} {Q : Option Value → Wd → Prop} {m sz : Nat} {M0 M : Nat → Option va_E} {σ κ : Rw} {ri : Rw} {ra : Nat → Rw} (hR : RefX Γ m M0 σ κ ri ra M) (gn : Rw) (h : ∀ j, j < 4 → ra 14 j = gn j) (k : ∀ M', RefX Γ m M0 σ κ ri (va_up ra 14 gn) M' → Ok Γ f d b pc L st (M', sz) Q) : Ok Γ f d b pc L st (M, sz) Q := by
  have h1 := ok_repr (Γ := Γ) (M := M) (sz := sz) (a := m + 9) (n := 4) (fn := ra 14) (gn := gn) (f := f) (d := d) (b := b) (pc := pc) (L := L) (st := st) (Q := Q) h (k _ (hR.s14 gn))
  rw [up_same hR.a14] at h1
  exact h1
theorem ok_rrepr15 {Γ : Cx} {f : Md} {d b pc : Nat} {L : List (Option Value)} {st : List Value} {Q : Option Value → Wd → Prop} {m sz : Nat} {M0 M : Nat → Option va_E} {σ κ : Rw} {ri : Rw} {ra : Nat → Rw} (hR : RefX Γ m M0 σ κ ri ra M) (gn : Rw) (h : ∀ j, j < 60 → ra 15 j = gn j) (k : ∀ M', RefX Γ m M0 σ κ ri (va_up ra 15 gn) M' → Ok Γ f d b pc L st (M', sz) Q) : Ok Γ f d b pc L st (M, sz) Q := by
  have h1 := ok_repr (Γ := Γ) (M := M) (sz := sz) (a := m + 10) (n := 60) (fn := ra 15) (gn := gn) (f := f) (d := d) (b := b) (pc := pc) (L := L) (st := st) (Q := Q) h (k _ (hR.s15 gn))
  rw [up_same hR.a15] at h1
  exact h1
theorem wkP_nm {σ : Rw} {fr n : Nat} (h : wfT σ fr n) {nm nm' : Rw} (p : Rw) (hn : ∀ j, j < 4 → nm j = nm' j) : ∀ j, j ≤ n → wkP σ fr nm p j = wkP σ fr nm' p j
  | 0, _ => rfl
  | j + 1, hj => by
    have ih := wkP_nm h p hn j (by omega)
    unfold wkP
    rw [ih]
    by_cases c1 : σ (fr + j) < 20000
    · rw [if_pos c1, if_pos c1]
      by_cases c2 : σ (fr + j) < 10000
      · rw [if_pos c2, if_pos c2]
      · rw [if_neg c2, if_neg c2]
        have g := (h j (by omega)).1 c1
        rw [hn _ (idx_lo (n := 10000) (by decide) 4 (by decide) (by decide) (Int32.not_lt.mp c2) (by exact g.2)).2]
    · rw [if_neg c1, if_neg c1]
