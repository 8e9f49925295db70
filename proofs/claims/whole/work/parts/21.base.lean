def argL : List Value → List (Option Value)
  | [] => []
  | v :: vs => if v.category = 2 then some v :: none :: argL vs else some v :: argL vs
theorem argL_in : ∀ (vs : List Value) (s i : Nat) (v : Value), (argL vs)[i]? = some (some v) → (s + i, v) ∈ lv_args s vs
  | [], s, i, v, h => by simp [argL] at h
  | w :: vs, s, i, v, h => by
    unfold argL at h
    unfold lv_args
    by_cases hc : w.category = 2
    · rw [if_pos hc] at h
      match i, h with
      | 0, h => simp at h; subst h; exact List.mem_cons_self
      | 1, h => simp at h
      | i + 2, h =>
        have h2 := argL_in vs (s + 2) i v (by simpa using h)
        rw [if_pos hc]
        have e : s + (i + 2) = s + 2 + i := by omega
        rw [e]
        exact List.mem_cons_of_mem _ h2
    · rw [if_neg hc] at h
      match i, h with
      | 0, h => simp at h; subst h; exact List.mem_cons_self
      | i + 1, h =>
        have h2 := argL_in vs (s + 1) i v (by simpa using h)
        rw [if_neg hc]
        have e : s + (i + 1) = s + 1 + i := by omega
        rw [e]
        exact List.mem_cons_of_mem _ h2
theorem args_ok {L : List (Option Value)} {av : List Value} (k : Nat) (h : L = argL av ++ List.replicate k none) : ∀ (i : Nat) (v : Value), L[i]? = some (some v) → (i, v) ∈ lv_args 0 av := by
  intro i v hi
  subst h
  rcases Nat.lt_or_ge i (argL av).length with h | h
  · rw [List.getElem?_append_left h] at hi
    have := argL_in av 0 i v hi
    rwa [Nat.zero_add] at this
  · rw [List.getElem?_append_right h] at hi
    rw [List.getElem?_replicate] at hi
    split at hi <;> cases hi
/-- a contract out of its body: locals as a list, k of them empty -/
theorem spec_in {Γ : Cx} {f : Md} {d b : Nat} {av : List Value} {G : Wd} {Q : Option Value → Wd → Prop} (L : List (Option Value)) (k : Nat) (hy : plainName f.1.cls = true)
    (hn : Nat.ble (lg_sl av).length f.2.2.1 = true) (hL : L = argL av ++ List.replicate k none) (kk : Ok Γ f d b 0 L [] G Q) : Spec Γ f d b av G Q :=
  spec_of L hy (Nat.le_of_ble_eq_true hn) (args_ok k hL) kk
def bI (q : Bool) : Int32 := if q then 1 else 0
theorem bI_0 {q : Bool} : bI q = 0 ↔ q = false := by cases q <;> decide
theorem bI_n0 {q : Bool} : ¬ bI q = 0 ↔ q = true := by cases q <;> decide
theorem bI_z (q : Bool) : narrow .boolean (.int (bI q)) = .int (bI q) := by cases q <;> rfl
def wi (v a b : Int32) : Bool := decide (a ≤ v) && decide (v ≤ b)
def jmax (x y : Int32) : Int32 := if x < y then y else x
def jmin (x y : Int32) : Int32 := if y < x then y else x
def jabs (x : Int32) : Int32 := if 0 ≤ x then x else 0 - x
section MathRules
variable {Γ : Cx} {f : Md} {d b pc idx : Nat} {L : List (Option Value)} {st : List Value} {G : Wd} {Q : Option Value → Wd → Prop}
theorem ok_mmax {x y : Int32} (hd : decode f.2.1 pc = .ok (.invokestatic idx, 3)) (w1 : Cond.methodLink f.1.cls idx ⟨"java/lang/Math", "max", "(II)I"⟩ ∈ lwg) (h8 : stk8 st = true) (hdd : 1 ≤ d) (k : Ok Γ f d b (pc + 3) L (.int (jmax x y) :: st) G Q) : Ok Γ f d b pc L (.int y :: .int x :: st) G Q := by
  intro p e s m args below meth c F H locs cells slots bb h1 h2 hH hS ls hls
  have hts := F.2.2.2.2.2.1
  have h9 := stk8_ok (m := m) (pc := pc) (ls := ls) (stk := st) h8
  exact va_mmax F.1 F.2.1 (F.2.2.2.1.trans hls.1.symm) F.2.2.2.2.1 (hts _ w1) (hts _ tw_125) (hts _ tw_84) (hts _ tw_126) hdd (by show _ ≤ 100 * d; omega) (by show cells ≤ bb; omega) (by show slots ≤ 400 * bb; omega) hd (k p e s m args below meth c F H locs cells slots bb h1 h2 hH hS ls hls)
theorem ok_mmin {x y : Int32} (hd : decode f.2.1 pc = .ok (.invokestatic idx, 3)) (w1 : Cond.methodLink f.1.cls idx ⟨"java/lang/Math", "min", "(II)I"⟩ ∈ lwg) (h8 : stk8 st = true) (hdd : 1 ≤ d) (k : Ok Γ f d b (pc + 3) L (.int (jmin x y) :: st) G Q) : Ok Γ f d b pc L (.int y :: .int x :: st) G Q := by
  intro p e s m args below meth c F H locs cells slots bb h1 h2 hH hS ls hls
  have hts := F.2.2.2.2.2.1
  have h9 := stk8_ok (m := m) (pc := pc) (ls := ls) (stk := st) h8
  exact va_mmin F.1 F.2.1 (F.2.2.2.1.trans hls.1.symm) F.2.2.2.2.1 (hts _ w1) (hts _ tw_587) (hts _ tw_84) (hts _ tw_588) hdd (by show _ ≤ 100 * d; omega) (by show cells ≤ bb; omega) (by show slots ≤ 400 * bb; omega) hd (k p e s m args below meth c F H locs cells slots bb h1 h2 hH hS ls hls)
theorem ok_mabs {x : Int32} (hd : decode f.2.1 pc = .ok (.invokestatic idx, 3)) (w1 : Cond.methodLink f.1.cls idx ⟨"java/lang/Math", "abs", "(I)I"⟩ ∈ lwg) (h8 : stk8 st = true) (hdd : 1 ≤ d) (k : Ok Γ f d b (pc + 3) L (.int (jabs x) :: st) G Q) : Ok Γ f d b pc L (.int x :: st) G Q := by
  intro p e s m args below meth c F H locs cells slots bb h1 h2 hH hS ls hls
  have hts := F.2.2.2.2.2.1
  have h9 := stk8_ok (m := m) (pc := pc) (ls := ls) (stk := st) h8
  exact va_mabs F.1 F.2.1 (F.2.2.2.1.trans hls.1.symm) F.2.2.2.2.1 (hts _ w1) (hts _ tw_570) (hts _ tw_84) (hts _ tw_571) hdd (by show _ ≤ 100 * d; omega) (by show cells ≤ bb; omega) (by show slots ≤ 400 * bb; omega) hd (k p e s m args below meth c F H locs cells slots bb h1 h2 hH hS ls hls)
end MathRules
