-- links of fields, as the tables have them
def FLink (own : String) (idx cidx k : Nat) : Prop := ∃ (C : String) (T : u_T) (N : Nat), kc[cidx]? = some (C, T, N) ∧ k < N ∧ (∀ w ∈ u_ws C T N, w ∈ lwg) ∧ Cond.fieldLink own idx (T k).1 (T k).2.1 (T k).2.2.1 ∈ lwg
def PLink (own : String) (idx cidx k : Nat) (ty : FieldType) : Prop := ∃ (C : String) (T : u_T) (N : Nat) (ty0 : Nat → FieldType), kc[cidx]? = some (C, T, N) ∧ k < N ∧ (∀ w ∈ u_ws C T N, w ∈ lwg) ∧ Cond.fieldLink own idx (T k).1 (T k).2.1 (T k).2.2.1 ∈ lwg ∧
  (∀ k, k < N → parseFieldDescriptor (T k).2.2.1 = some (ty0 k)) ∧ (∀ a, a < N → ∀ b, b < N → a ≠ b → (T a).2.1 ≠ (T b).2.1) ∧ ty0 k = ty ∧ (T k).2.2.2 = false
def PLinkF (own : String) (idx cidx k : Nat) (ty : FieldType) : Prop := ∃ (C : String) (T : u_T) (N : Nat) (ty0 : Nat → FieldType), kc[cidx]? = some (C, T, N) ∧ k < N ∧ (∀ w ∈ u_ws C T N, w ∈ lwg) ∧ Cond.fieldLink own idx (T k).1 (T k).2.1 (T k).2.2.1 ∈ lwg ∧
  (∀ k, k < N → parseFieldDescriptor (T k).2.2.1 = some (ty0 k)) ∧ (∀ a, a < N → ∀ b, b < N → a ≠ b → (T a).2.1 ≠ (T b).2.1) ∧ ty0 k = ty ∧ (T k).2.2.2 = true ∧ (T k).1 = own
def NLink (own : String) (idx cidx : Nat) (fs : List Value) : Prop := ∃ (C : String) (T : u_T) (N : Nat) (ty0 : Nat → FieldType), kc[cidx]? = some (C, T, N) ∧ (∀ w ∈ u_ws C T N, w ∈ lwg) ∧ (∀ k, k < N → parseFieldDescriptor (T k).2.2.1 = some (ty0 k)) ∧ Cond.classLink own idx C ∈ lwg ∧ Cond.instantiable C N ∈ lwg ∧ Cond.initialized C ∈ lwg ∧ N ≤ 400 ∧ ∀ j, j < N → defaultValue (ty0 j) = vp_V fs j
theorem hp_P {Γ : Cx} {G : Wd} {H : Heap} (h : hp Γ G H) {a : Nat} {e : va_E} (ha : G.1 a = some e) : va_P Γ.2.1 kc [(a, e)] H := by
  intro k q hq
  match k, hq with
  | 0, hq => cases hq; exact (h.2.2 a e ha).2
theorem hp_put {Γ : Cx} {G : Wd} {H H' : Heap} (h : hp Γ G H) {a : Nat} {e : va_E} (ha : Γ.2.2 0 ≤ a) (z : H'.size = H.size) (oq : ∀ q : Nat, q ≠ a → H'[q]? = H[q]?) (hn : va_at Γ.2.1 kc (a, e) H') : hp Γ (va_up G.1 a (some e), G.2) H' := by
  refine ⟨z.trans h.1, h.2.1, fun q x hq => ?_⟩
  by_cases hqa : q = a
  · subst hqa
    simp only [va_up, if_pos] at hq
    cases hq
    exact ⟨ha, hn⟩
  · simp only [va_up, if_neg hqa] at hq
    obtain ⟨h1, h2⟩ := h.2.2 q x hq
    exact ⟨h1, h2.kept (oq q hqa)⟩
theorem hp_new {Γ : Cx} {G : Wd} {H H' : Heap} (h : hp Γ G H) {e : va_E} (z : H'.size = G.2 + 1) (oq : ∀ q : Nat, q < G.2 → H'[q]? = H[q]?) (hn : va_at Γ.2.1 kc (G.2, e) H') : hp Γ (va_up G.1 G.2 (some e), G.2 + 1) H' := by
  refine ⟨z, Nat.le_trans h.2.1 (Nat.le_succ _), fun q x hq => ?_⟩
  by_cases hqa : q = G.2
  · subst hqa
    simp only [va_up, if_pos] at hq
    cases hq
    exact ⟨h.2.1, hn⟩
  · simp only [va_up, if_neg hqa] at hq
    obtain ⟨h1, h2⟩ := h.2.2 q x hq
    have hlt : q < H.size := h2.lt
    exact ⟨h1, h2.kept (oq q (by rw [h.1] at hlt; exact hlt))⟩
theorem va_S_new {A : Nat → Prop} {H0 H H' : Heap} {locs : List Loc} {n : Nat} (hS : va_S A H0 H locs) (hn : H.size = n) (z : H'.size = n + 1) (oq : ∀ q : Nat, q < n → H'[q]? = H[q]?) : va_S A H0 H' locs :=
  ⟨Nat.le_trans hS.1 (by omega), fun x h1 h2 => (oq x (by have := hS.1; omega)).trans (hS.2.1 x h1 h2), hS.2.2⟩
section HeapRules
variable {Γ : Cx} {f : Md} {d b pc : Nat} {L : List (Option Value)} {st : List Value} {G : Wd} {Q : Option Value → Wd → Prop}
theorem ok_getf {a cidx k idx : Nat} {fs : List Value} {v : Value} (hd : decode f.2.1 pc = .ok (.getfield idx, 3)) (hl : FLink f.1.cls idx cidx k) (hG : G.1 a = some (.inr (cidx, fs))) (hv : fs[k]? = some v) (kk : Ok Γ f d b (pc + 3) L (v :: st) G Q) : Ok Γ f d b pc L (.ref a :: st) G Q := by
  intro p e s m args below meth c F H locs cells slots bb h1 h2 hH hS ls hls
  obtain ⟨C, T, N, g1, g2, g3, g4⟩ := hl
  exact va_get (D := Γ.2.1) (cl := kc) (ws := [(a, .inr (cidx, fs))]) F.1 F.2.1 F.2.2.2.2.2.1 g3 F.2.2.2.2.1 F.2.2.2.2.2.2.2.2.1 (hp_P hH hG) 0 rfl g1 k g2 (F.2.2.2.2.2.1 _ g4) (fun _ h9 => h9) hv hd (kk p e s m args below meth c F H locs cells slots bb h1 h2 hH hS ls hls)
theorem ok_putf {a cidx k idx : Nat} {fs : List Value} {v : Value} {ty : FieldType} (hd : decode f.2.1 pc = .ok (.putfield idx, 3)) (hl : PLink f.1.cls idx cidx k ty) (hG : G.1 a = some (.inr (cidx, fs))) (hn : narrow ty v = v) (hfit : fits ty v = true) (hk9 : k < fs.length)
    (kk : Ok Γ f d b (pc + 3) L st (va_up G.1 a (some (.inr (cidx, fs.set k v))), G.2) Q) : Ok Γ f d b pc L (v :: .ref a :: st) G Q := by
  intro p e s m args below meth c F H locs cells slots bb h1 h2 hH hS0 ls hls
  obtain ⟨C, T, N, ty0, hc, hk, hin, hlink0, hty, hnm, rfl, hfin⟩ := hl
  have hts := F.2.2.2.2.2.1
  have hK := F.2.2.2.2.2.2.2.2.1
  have hlink := hts _ hlink0
  have hap := va_apart (own := f.1.cls) hts hin ty0 hty hnm hK hc
  obtain ⟨r, g1, cell, q1, q2, q3, q4⟩ := (hH.2.2 a _ hG).2
  have hr : r = (C, T, N) := Option.some.inj (g1.symm.trans hc)
  subst hr
  obtain ⟨hS, hfc, kC, hkC, hkind⟩ := hK.1 cidx _ hc
  obtain ⟨cf, kf, fi, fd, hi, hsl⟩ := hS k hk
  have hlay := hts _ (hin _ (u_in_lay hk))
  unfold u_lay at hlay
  rw [if_neg (by rw [hfin]; decide)] at hlay
  have hst := (u_facts hfc hkC (u_lays hts hin hk) hi).1
  have h6 := u_store hfc hkC hkind hlay hi (hty k hk) hn hfit
  refine W.putK F.1 F.2.1 (f := fd) ⟨F.2.2.2.2.1, hlink, ⟨_, _, _, hi⟩, hst⟩ (by rw [q2]; exact h6) q1 q3 (by rw [hsl]; exact k2_hasslot (q4 k hk)) rfl rfl hd fun H' e1 e2 e3 => ?_
  rw [hsl] at e1 ⊢
  exact kk p e s m args below meth c F H' _ cells slots bb h1 h2 (hp_put hH (hH.2.2 a _ hG).1 e2 e3 ⟨_, hc, t_OB.to (V := updV (vp_V fs) k v) ⟨_, e1, q2, q3, t_set q4 hap hk v⟩ (fun j _ => vp_updV_set hk9 v j)⟩) (hS0.put e2 e3 (hH.2.2 a _ hG).1) ls hls
theorem ok_putfF {a cidx k idx : Nat} {fs : List Value} {v : Value} {ty : FieldType} (hd : decode f.2.1 pc = .ok (.putfield idx, 3)) (hl : PLinkF f.1.cls idx cidx k ty) (hm : f.1.name = "<init>") (hG : G.1 a = some (.inr (cidx, fs))) (hn : narrow ty v = v) (hfit : fits ty v = true) (hk9 : k < fs.length)
    (kk : Ok Γ f d b (pc + 3) L st (va_up G.1 a (some (.inr (cidx, fs.set k v))), G.2) Q) : Ok Γ f d b pc L (v :: .ref a :: st) G Q := by
  intro p e s m args below meth c F H locs cells slots bb h1 h2 hH hS0 ls hls
  obtain ⟨C, T, N, ty0, hc, hk, hin, hlink0, hty, hnm, rfl, hfin, hdecl⟩ := hl
  have hts := F.2.2.2.2.2.1
  have hown := F.2.2.2.2.1
  have hK := F.2.2.2.2.2.2.2.2.1
  have hlink := hts _ hlink0
  have hap := va_apart (own := f.1.cls) hts hin ty0 hty hnm hK hc
  obtain ⟨r, g1, cell, q1, q2, q3, q4⟩ := (hH.2.2 a _ hG).2
  have hr : r = (C, T, N) := Option.some.inj (g1.symm.trans hc)
  subst hr
  obtain ⟨hS, hfc, kC, hkC, hkind⟩ := hK.1 cidx _ hc
  obtain ⟨cf, kf, fi, fd, hi, hsl⟩ := hS k hk
  have hlay := hts _ (hin _ (u_in_lay hk))
  unfold u_lay at hlay
  rw [if_pos hfin] at hlay
  have hst := (u_facts hfc hkC (u_lays hts hin hk) hi).1
  have hcf : m.cls = cf := by
    obtain ⟨_, _, c', _, _, _, -, -, hf', -, -, -, hown2, -⟩ := Cond.laysFinal_spec hlay
    have e1 : c' = cf := by have := hi.symm.trans hf'; simp at this; exact this.1.symm
    rw [hdecl] at hown2
    rw [← e1]; exact Option.some.inj (hown.symm.trans hown2)
  have h6 := u_fits hfc hkC hkind (Or.inr hlay) hi (hty k hk) hn hfit
  refine W.putFinK F.1 F.2.1 hown hlink hi hst hcf (F.2.2.2.2.2.2.2.1.trans hm) (by rw [q2]; exact h6) q1 q3 (by rw [hsl]; exact k2_hasslot (q4 k hk)) rfl rfl hd fun H' e1 e2 e3 => ?_
  rw [hsl] at e1 ⊢
  exact kk p e s m args below meth c F H' _ cells slots bb h1 h2 (hp_put hH (hH.2.2 a _ hG).1 e2 e3 ⟨_, hc, t_OB.to (V := updV (vp_V fs) k v) ⟨_, e1, q2, q3, t_set q4 hap hk v⟩ (fun j _ => vp_updV_set hk9 v j)⟩) (hS0.put e2 e3 (hH.2.2 a _ hG).1) ls hls
theorem ok_iald {a n : Nat} {fn : Nat → Int32} {i : Int32} (j : Nat) (hd : decode f.2.1 pc = .ok (.iaload, 1)) (hG : G.1 a = some (.inl (Γ.2.2 1, n, .inl fn))) (hi : i = nI j) (hj : j < n) (hn : n < 2 ^ 31) (kk : Ok Γ f d b (pc + 1) L (.int (fn j) :: st) G Q) : Ok Γ f d b pc L (.int i :: .ref a :: st) G Q := by
  intro p e s m args below meth c F H locs cells slots bb h1 h2 hH hS ls hls
  subst hi
  refine va_iald (D := Γ.2.1) (cl := kc) (ws := [(a, .inl (Γ.2.2 1, n, .inl fn))]) F.1 F.2.1 F.2.2.2.2.2.2.2.2.1 (hp_P hH hG) 0 0 rfl rfl (vp_in_nI hj hn) hd ?_
  rw [nI_clamp (Nat.lt_trans hj hn)]
  exact kk p e s m args below meth c F H locs cells slots bb h1 h2 hH hS ls hls
theorem ok_iast {a n : Nat} {fn : Nat → Int32} {i x : Int32} (j : Nat) (hd : decode f.2.1 pc = .ok (.iastore, 1)) (hG : G.1 a = some (.inl (Γ.2.2 1, n, .inl fn))) (hi : i = nI j) (hj : j < n) (hn : n < 2 ^ 31) (kk : Ok Γ f d b (pc + 1) L st (va_up G.1 a (some (.inl (Γ.2.2 1, n, .inl (upd fn j x)))), G.2) Q) : Ok Γ f d b pc L (.int x :: .int i :: .ref a :: st) G Q := by
  intro p e s m args below meth c F H locs cells slots bb h1 h2 hH hS ls hls
  subst hi
  refine W.iast F.1 F.2.1 (hH.2.2 a _ hG).2 ((F.2.2.2.2.2.2.2.2.1.2 0 _ rfl).1 n (fun j => .int (fn j))) (fun q => by cases q) (by show ¬ (nI j < 0 ∨ (arrV _ _ _).slots.size ≤ _); rw [arrV_size]; exact vp_in_nI hj hn) rfl rfl hd fun H1 e1 z oq => ?_
  rw [nI_clamp (Nat.lt_trans hj hn)] at e1 ⊢
  refine kk p e s m args below meth c F H1 _ cells slots bb h1 h2 (hp_put hH (hH.2.2 a _ hG).1 z oq ?_) (hS.put z oq (hH.2.2 a _ hG).1) ls hls
  show H1[a]? = some (vp_cell _ _)
  rw [e1]
  rw [vp_cell_i, vp_cell_i, arrV_store]
  congr 2
  funext q
  by_cases hq : q = j
  · subst hq
    simp [updV, upd]
  · simp [updV, upd, hq]
theorem ok_alen {a : Nat} {x : vp_A} {t : Nat} {cA : ClassId} {ty : FieldType} (hd : decode f.2.1 pc = .ok (.arraylength, 1)) (hG : G.1 a = some (.inl (cA, x))) (ht : (tysOf Γ)[t]? = some (cA, ty)) (kk : Ok Γ f d b (pc + 1) L (.int (nI x.1) :: st) G Q) : Ok Γ f d b pc L (.ref a :: st) G Q :=
  fun p e s m args below meth c F H locs cells slots bb h1 h2 hH hS ls hls => va_alen (D := Γ.2.1) (cl := kc) (ws := [(a, .inl (cA, x))]) F.1 F.2.1 F.2.2.2.2.2.2.2.2.1 (hp_P hH hG) 0 t rfl ht rfl hd (kk p e s m args below meth c F H locs cells slots bb h1 h2 hH hS ls hls)
theorem ok_aald {a n t : Nat} {cA : ClassId} {C : String} {fn : Nat → Option Nat} {i : Int32} (j : Nat) (hd : decode f.2.1 pc = .ok (.aaload, 1)) (hG : G.1 a = some (.inl (cA, n, .inr (.inr (.inr (.inr fn)))))) (ht : (tysOf Γ)[t]? = some (cA, .object C)) (hi : i = nI j) (hj : j < n) (hn : n < 2 ^ 31) (kk : Ok Γ f d b (pc + 1) L (va_rf (fn j) :: st) G Q) : Ok Γ f d b pc L (.int i :: .ref a :: st) G Q := by
  intro p e s m args below meth c F H locs cells slots bb h1 h2 hH hS ls hls
  subst hi
  refine va_aldq (D := Γ.2.1) (cl := kc) (ws := [(a, .inl (cA, n, .inr (.inr (.inr (.inr fn)))))]) F.1 F.2.1 F.2.2.2.2.2.2.2.2.1 (hp_P hH hG) 0 t rfl ht (vp_in_nI hj hn) hd ?_
  rw [nI_clamp (Nat.lt_trans hj hn)]
  exact kk p e s m args below meth c F H locs cells slots bb h1 h2 hH hS ls hls
theorem ok_new {cidx idx : Nat} {fs : List Value} (hd : decode f.2.1 pc = .ok (.new idx, 3)) (hl : NLink f.1.cls idx cidx fs) (kk : Ok Γ f d b (pc + 3) L (.ref G.2 :: st) (va_up G.1 G.2 (some (.inr (cidx, fs))), G.2 + 1) Q) : Ok Γ f d (b + 1) pc L st G Q := by
  intro p e s m args below meth c F H locs cells slots bb h1 h2 hH hS ls hls
  obtain ⟨C, T, N, ty0, hc, hin, hty, hcl, hinst, hini, hN, hfs⟩ := hl
  have hts := F.2.2.2.2.2.1
  have hK := F.2.2.2.2.2.2.2.2.1
  have hKn := hK.1 cidx _ hc
  refine W.newcK F.1 F.2.1 F.2.2.2.2.1 (hts _ hcl) (hts _ hinst) (hts _ hini) rfl hd (by show cells + 1 ≤ bb; omega) (by show slots + N ≤ 400 * bb; omega) hKn.2.1 hH.1 fun H1 kC hkC e1 z1 o1 => ?_
  exact kk p e s m args below meth c F H1 _ _ _ bb (by omega) (by omega) (hp_new hH z1 o1 ⟨_, hc, (u_born ty0 hts hin hKn hkC e1 hty).to hfs⟩) (va_S_new hS hH.1 z1 o1) ls hls
theorem ok_newa {i : Int32} (N : Nat) (hd : decode f.2.1 pc = .ok (.newarray .int, 2)) (hw : Cond.arrayClass .int ∈ lwg) (hi : i = nI N) (hN : N ≤ 400) (kk : Ok Γ f d b (pc + 2) L (.ref G.2 :: st) (va_up G.1 G.2 (some (.inl (Γ.2.2 1, N, .inl (fun _ => 0)))), G.2 + 1) Q) : Ok Γ f d (b + 1) pc L (.int i :: st) G Q := by
  intro p e s m args below meth c F H locs cells slots bb h1 h2 hH hS ls hls
  subst hi
  have hK := F.2.2.2.2.2.2.2.2.1
  refine va_newaK (atype := .int) (N := N) F.1 F.2.1 (F.2.2.2.2.2.1 _ hw) rfl hd rfl (nI_pos (by omega)) (nI_clamp (by omega)) (by show N * 4 ≤ _; omega) (by show cells + 1 ≤ bb; omega) (by show slots + N ≤ 400 * bb; omega) hH.1 fun H1 cA e1 z1 o1 hAr hNm => ?_
  have hcA : cA = Γ.2.2 1 := Option.some.inj (hNm.symm.trans (hK.2 0 _ rfl).2)
  subst hcA
  exact kk p e s m args below meth c F H1 _ _ _ bb (by omega) (by omega) (hp_new hH z1 o1 e1) (va_S_new hS hH.1 z1 o1) ls hls
end HeapRules
