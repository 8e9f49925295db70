theorem wkD_same {σ τ : Rw} {fr : Nat} (h : ∀ j, fr ≤ j → τ j = σ j) : ∀ n, wkD τ fr n = wkD σ fr n
  | 0 => rfl
  | n + 1 => by
    unfold wkD
    rw [h (fr + n) (by omega), wkD_same h n]
theorem wkP_same {σ τ : Rw} {fr : Nat} (nm p : Rw) (h : ∀ j, fr ≤ j → τ j = σ j) : ∀ n, wkP τ fr nm p n = wkP σ fr nm p n
  | 0 => rfl
  | n + 1 => by
    unfold wkP
    rw [h (fr + n) (by omega), wkP_same nm p h n]
theorem TxOk_same {σ τ : Rw} {u : Nat} (h : ∀ j, 265 ≤ j → τ j = σ j) (hT : TxOk σ u) : TxOk τ u := by
  obtain ⟨n, h1, h2, h3, h4⟩ := hT
  have hw : ∀ j, wkD τ (265 + 52 * u + 1) j = wkD σ (265 + 52 * u + 1) j := wkD_same (fun j hj => h j (by omega))
  refine ⟨n, h1, by rw [h _ (by omega)]; exact h2, fun j hj => ?_, fun hn => by rw [hw]; exact h4 hn⟩
  rw [h _ (by omega), hw]
  exact h3 j hj
theorem givF_same {σ τ : Rw} (h : ∀ j, 265 ≤ j → τ j = σ j) (u : Nat) (x y z w : Int32) : givF τ u x y z w = givF σ u x y z w := by
  unfold givF wkV txN
  rw [h 265 (by omega), h 317 (by omega), wkP_same _ _ (fun j hj => h j (by omega)), wkP_same _ _ (fun j hj => h j (by omega))]
/-- a letter comes to a hill -/
def comF (σ : Rw) (l : Nat) (hill : Int32) : Rw :=
  if hill = lf σ l 1 then upd (upd (upd (upd (upd σ (99 + 7 * l + 5) hill) (99 + 7 * l + 6) (σ 0 + 1)) (183 + cA σ) (nI l)) 4 (σ 4 + 1)) 5 (jmin 999999 (σ 5 + givF σ 1 (σ 0 + 1 - lf σ l 4) (lf σ l 2) 0 0))
  else upd σ (99 + 7 * l + 5) hill
def op_lines (σ : Rw) (x : Int32) : Nat × Int32 := if wi x 0 1 then (0, if x = 0 then nI (hvN σ (cK σ)) else nI (hvN σ (cK σ)) &&& (nI (suN σ 16 (hvN σ (cK σ)) 0) ^^^ -1)) else (1, -1000000001)
theorem hvN_aim {σ : Rw} : ∀ k, (hvN σ (cK σ)).testBit k = true → k < cK σ ∧ 0 ≤ kf σ k 5 := by
  intro k hk
  rw [hvN_bit, Bool.and_eq_true] at hk
  have h2 := hk.2
  unfold lnF at h2
  rw [Bool.and_eq_true] at h2
  exact ⟨of_decide_eq_true hk.1, of_decide_eq_true h2.1⟩
theorem hvN_lt8 {σ : Rw} (h : cK σ ≤ 8) : hvN σ (cK σ) < 2 ^ 8 := Nat.lt_of_lt_of_le (hvN_lt σ _) (Nat.pow_le_pow_right (by decide) h)
