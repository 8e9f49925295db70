section MoreRules
variable {Γ : Cx} {f g : Md} {d b pc d' b' b'' idx n : Nat} {L : List (Option Value)} {st stk As : List Value} {G : Wd} {Q : Option Value → Wd → Prop} {Q' : Option Value → Wd → Prop}
theorem ok_objInit {a : Nat} (hd : decode f.2.1 pc = .ok (.invokespecial idx, 3)) (h1' : Cond.methodLink f.1.cls idx ⟨"java/lang/Object", "<init>", "()V"⟩ ∈ lwg) (h2' : Cond.instanceMethod ⟨"java/lang/Object", "<init>", "()V"⟩ ∈ lwg) (h3' : Cond.code ⟨"java/lang/Object", "<init>", "()V"⟩ ⟨#[0xb1]⟩ 1 none ∈ lwg) (h8 : stk8 st = true) (hdd : 1 ≤ d) (k : Ok Γ f d b (pc + 3) L st G Q) : Ok Γ f d b pc L (.ref a :: st) G Q := by
  intro p e s m args below meth c F H locs cells slots bb h1 h2 hH hS ls hls
  have hts := F.2.2.2.2.2.1
  have h9 := stk8_ok (m := m) (pc := pc) (ls := ls) (stk := .ref a :: st) h8
  refine W.objInit F.1 F.2.1 F.2.2.2.2.1 (hts _ h1') (hts _ h2') (hts _ h3') rfl (hls.1.trans F.2.2.2.1.symm) rfl hd hdd ?_ (k p e s m args below meth c F H locs cells slots bb h1 h2 hH hS ls hls)
  show _ ≤ 100 * d
  omega
/-- the static rows DIR_X, DIR_Y of KitePost, read in Post -/
theorem ok_dirX (hf : f.1.cls = "KitePost$Post") (hd : decode f.2.1 pc = .ok (.getstatic 191, 3)) (k : Ok Γ f d b (pc + 3) L (.ref (Γ.2.2 5) :: st) G Q) : Ok Γ f d b pc L st G Q := by
  intro p e s m args below meth c F H locs cells slots bb h1 h2 hH hS ls hls
  have hkn := F.2.2.2.2.2.2.2.2
  exact va_getsN F.1 F.2.1 hkn.2.1 hS (by rw [← hf]; exact F.2.2.2.2.1) (va_Nw.use rfl ((kx_kw hkn.2).2.2.2.1 ("KitePost$Post", 191, "KitePost", "DIR_X", "[I", "KitePost") (by simp [nestF]))) (fun _ h => h) hd (k p e s m args below meth c F H locs cells slots bb h1 h2 hH hS ls hls)
theorem ok_dirY (hf : f.1.cls = "KitePost$Post") (hd : decode f.2.1 pc = .ok (.getstatic 194, 3)) (k : Ok Γ f d b (pc + 3) L (.ref (Γ.2.2 6) :: st) G Q) : Ok Γ f d b pc L st G Q := by
  intro p e s m args below meth c F H locs cells slots bb h1 h2 hH hS ls hls
  have hkn := F.2.2.2.2.2.2.2.2
  exact va_getsN F.1 F.2.1 hkn.2.2.2.1 hS (by rw [← hf]; exact F.2.2.2.2.1) (va_Nw.use rfl ((kx_kw hkn.2).2.2.2.1 ("KitePost$Post", 194, "KitePost", "DIR_Y", "[I", "KitePost") (by simp [nestF]))) (fun _ h => h) hd (k p e s m args below meth c F H locs cells slots bb h1 h2 hH hS ls hls)
theorem ok_dirXld {i : Int32} (j : Nat) (hd : decode f.2.1 pc = .ok (.iaload, 1)) (hi : i = nI j) (hj : j < 8) (k : Ok Γ f d b (pc + 1) L (.int (dirX j) :: st) G Q) : Ok Γ f d b pc L (.int i :: .ref (Γ.2.2 5) :: st) G Q := by
  intro p e s m args below meth c F H locs cells slots bb h1 h2 hH hS ls hls
  have hkn := F.2.2.2.2.2.2.2.2
  subst hi
  exact va_ti F.1 F.2.1 hkn.2.2.1 hS (vp_in_nI hj (by decide)) (by rw [nI_clamp (by omega)]) hd (k p e s m args below meth c F H locs cells slots bb h1 h2 hH hS ls hls)
theorem ok_dirYld {i : Int32} (j : Nat) (hd : decode f.2.1 pc = .ok (.iaload, 1)) (hi : i = nI j) (hj : j < 8) (k : Ok Γ f d b (pc + 1) L (.int (dirY j) :: st) G Q) : Ok Γ f d b pc L (.int i :: .ref (Γ.2.2 6) :: st) G Q := by
  intro p e s m args below meth c F H locs cells slots bb h1 h2 hH hS ls hls
  have hkn := F.2.2.2.2.2.2.2.2
  subst hi
  exact va_ti F.1 F.2.1 hkn.2.2.2.2.1 hS (vp_in_nI hj (by decide)) (by rw [nI_clamp (by omega)]) hd (k p e s m args below meth c F H locs cells slots bb h1 h2 hH hS ls hls)
/-- constants of text -/
def strR : List (String × Nat × String × Nat) := [("KitePost$Text", 93, "fdlk", 10), ("KitePost$Text", 95, "hw", 11), ("KitePost$Text", 63, "|", 12), ("KitePost$Text", 65, "&", 13), ("KitePost$Text", 67, "<=>", 14), ("KitePost$Text", 69, "+-", 15), ("KitePost$Text", 71, "*/%", 16), ("KitePostModel", 30, "fdlk", 10), ("KitePostModel", 32, "hw", 11)]
theorem kx_str {s : State} {H : Heap} (h : kx Γ s H) : ∀ q ∈ strR, vk_R q.1 q.2.1 q.2.2.1 (Γ.2.2 q.2.2.2) s := by
  obtain ⟨a1, a2, a3, a4, a5, a6, a7, b1, b2, b3, b4, b5, b6, b7, b8, b9, bw⟩ := h
  intro q hq
  simp only [strR, List.mem_cons, List.not_mem_nil, or_false] at hq
  rcases hq with rfl | rfl | rfl | rfl | rfl | rfl | rfl | rfl | rfl <;> assumption
theorem ok_ldcS {tx : String} (i : Nat) (hd : decode f.2.1 pc = .ok (.ldc idx, 2)) (hw : (f.1.cls, idx, tx, i) ∈ strR) (k : Ok Γ f d b (pc + 2) L (.ref (Γ.2.2 i) :: st) G Q) : Ok Γ f d b pc L st G Q :=
  fun p e s m args below meth c F H locs cells slots bb h1 h2 hH hS ls hls => va_ldcS F.1 F.2.1 F.2.2.2.2.1 (kx_str F.2.2.2.2.2.2.2.2.2 _ hw) hd (k p e s m args below meth c F H locs cells slots bb h1 h2 hH hS ls hls)
/-- instanceof -/
theorem ok_instY {a cidx : Nat} {fs : List Value} {r : vw_C} {nm : String} (hd : decode f.2.1 pc = .ok (.instanceof idx, 3)) (hw : Cond.classLink f.1.cls idx nm ∈ lwg) (hG : G.1 a = some (.inr (cidx, fs))) (hc : kc[cidx]? = some r) (hq : (r.1, nm) ∈ castY) (k : Ok Γ f d b (pc + 3) L (.int 1 :: st) G Q) : Ok Γ f d b pc L (.ref a :: st) G Q :=
  fun p e s m args below meth c F H locs cells slots bb h1 h2 hH hS ls hls => va_instY F.1 F.2.1 F.2.2.2.2.1 (F.2.2.2.2.2.1 _ hw) ((kx_kw F.2.2.2.2.2.2.2.2.2).1 _ hq) (recv_ok hH F.2.2.2.2.2.2.2.2 hG hc) hd (k p e s m args below meth c F H locs cells slots bb h1 h2 hH hS ls hls)
theorem ok_instN {a cidx : Nat} {fs : List Value} {r : vw_C} {nm : String} (hd : decode f.2.1 pc = .ok (.instanceof idx, 3)) (hw : Cond.classLink f.1.cls idx nm ∈ lwg) (hG : G.1 a = some (.inr (cidx, fs))) (hc : kc[cidx]? = some r) (hq : (r.1, nm) ∈ castN) (k : Ok Γ f d b (pc + 3) L (.int 0 :: st) G Q) : Ok Γ f d b pc L (.ref a :: st) G Q :=
  fun p e s m args below meth c F H locs cells slots bb h1 h2 hH hS ls hls => va_instNo F.1 F.2.1 F.2.2.2.2.1 (F.2.2.2.2.2.1 _ hw) ((kx_kw F.2.2.2.2.2.2.2.2.2).2.1 _ hq) (recv_ok hH F.2.2.2.2.2.2.2.2 hG hc) hd (k p e s m args below meth c F H locs cells slots bb h1 h2 hH hS ls hls)
theorem ok_instS {a cidx : Nat} {fs : List Value} {r : vw_C} {nm : String} (hd : decode f.2.1 pc = .ok (.instanceof idx, 3)) (hw : Cond.classLink f.1.cls idx nm ∈ lwg) (hG : G.1 a = some (.inr (cidx, fs))) (hc : kc[cidx]? = some r) (hq : r.1 = nm) (k : Ok Γ f d b (pc + 3) L (.int 1 :: st) G Q) : Ok Γ f d b pc L (.ref a :: st) G Q := by
  subst hq
  exact fun p e s m args below meth c F H locs cells slots bb h1 h2 hH hS ls hls => va_instS F.1 F.2.1 F.2.2.2.2.1 (F.2.2.2.2.2.1 _ hw) (F.2.2.2.2.2.2.2.2.1.1 cidx r hc).2 (recv_ok hH F.2.2.2.2.2.2.2.2 hG hc) hd (k p e s m args below meth c F H locs cells slots bb h1 h2 hH hS ls hls)
/-- rows of references -/
theorem ok_aast {a v n t cidx : Nat} {cA : ClassId} {C : String} {fn : Nat → Option Nat} {i : Int32} {fs : List Value} {r : vw_C} (j : Nat) (hd : decode f.2.1 pc = .ok (.aastore, 1)) (hG : G.1 a = some (.inl (cA, n, .inr (.inr (.inr (.inr fn)))))) (ht : (tysOf Γ)[t]? = some (cA, .object C)) (hv : G.1 v = some (.inr (cidx, fs))) (hc : kc[cidx]? = some r) (hq : r.1 = C ∨ (r.1, C) ∈ castY) (hi : i = nI j) (hj : j < n) (hn : n < 2 ^ 31)
    (kk : Ok Γ f d b (pc + 1) L st (va_up G.1 a (some (.inl (cA, n, .inr (.inr (.inr (.inr (va_up fn j (some v)))))))), G.2) Q) : Ok Γ f d b pc L (.ref v :: .int i :: .ref a :: st) G Q := by
  intro p e s m args below meth c F H locs cells slots bb h1 h2 hH hS ls hls
  subst hi
  have hkn := F.2.2.2.2.2.2.2.2
  have hK := hkn.1
  obtain ⟨r', hr', cellV, g1, g2, g3, -⟩ := (hH.2.2 v _ hv).2
  have hcls := (hK.1 cidx r hc).2
  obtain ⟨kA, comp, k1, k2, k3, -⟩ := (hK.2 t _ ht).2
  obtain ⟨kC, hkC, -⟩ := hcls.2
  have hasg : s.vm.assignable (Γ.2.1.1 cidx) comp = true ∧ ∃ kcomp, s.vm.classes[comp]? = some kcomp := by
    rcases hq with hq | hq
    · subst hq
      have hcomp : comp = Γ.2.1.1 cidx := Option.some.inj (k3.symm.trans hcls.1)
      subst hcomp
      exact ⟨va_assign hcls, kC, hkC⟩
    · obtain ⟨c0, t0, f1, f2, f3⟩ := Cond.castable_spec (va_Nw.use (A := args) rfl ((kx_kw hkn.2).1 _ hq))
      cases hcls.1.symm.trans f1
      cases k3.symm.trans f2
      obtain ⟨kq, hkq⟩ : ∃ kq, s.vm.classes[comp]? = some kq := by
        obtain ⟨cq, rq, hrq⟩ : ∃ (cq : Nat) (rq : vw_C), kc[cq]? = some rq ∧ rq.1 = C := by
          simp only [castY, List.mem_cons, List.not_mem_nil, or_false, Prod.mk.injEq] at hq
          rcases hq with ⟨-, h⟩ | ⟨-, h⟩ | ⟨-, h⟩ | ⟨-, h⟩ | ⟨-, h⟩ | ⟨-, h⟩ | ⟨-, h⟩ | ⟨-, h⟩ | ⟨-, h⟩ <;> subst h
          · exact ⟨2, _, rfl, rfl⟩
          · exact ⟨0, _, rfl, rfl⟩
          · exact ⟨2, _, rfl, rfl⟩
          · exact ⟨9, _, rfl, rfl⟩
          · exact ⟨2, _, rfl, rfl⟩
          · exact ⟨8, _, rfl, rfl⟩
          · exact ⟨2, _, rfl, rfl⟩
          · exact ⟨2, _, rfl, rfl⟩
          · exact ⟨2, _, rfl, rfl⟩
        obtain ⟨-, hq1, kq, hkq, -⟩ := hK.1 cq rq hrq.1
        rw [hrq.2] at hq1
        cases hq1.symm.trans k3
        exact ⟨kq, hkq⟩
      exact ⟨f3, kq, hkq⟩
  obtain ⟨hasg, kcomp, hkcomp⟩ := hasg
  have h0 : ¬ nI j < 0 := nI_pos (by omega)
  refine W.aast F.1 F.2.1 (hH.2.2 a _ hG).2 (fun q h => by cases h) (fun h => by cases h) k1 k2 rfl hkcomp ⟨h0, by show _ < (arrV _ _ _).slots.size; rw [arrV_size, nI_clamp (by omega)]; exact hj⟩ g1 (fun q h => by rw [g3] at h; cases h) (by rw [g2]; exact hkC) (by rw [g2]; exact hasg) rfl rfl hd fun H1 e1 z oq => ?_
  rw [nI_clamp (by omega)] at e1 ⊢
  refine kk p e s m args below meth c F H1 _ cells slots bb h1 h2 (hp_put hH (hH.2.2 a _ hG).1 z oq ?_) (hS.put z oq (hH.2.2 a _ hG).1) ls hls
  show H1[a]? = some (vp_cell _ _)
  rw [e1]
  rw [vp_cell_q, vp_cell_q, arrV_store]
  congr 2
  funext q
  by_cases hq : q = j
  · subst hq
    simp [updV, va_up, va_rf]
  · simp [updV, va_up, hq]
theorem ok_aastN {a n t : Nat} {cA : ClassId} {C : String} {fn : Nat → Option Nat} {i : Int32} (j : Nat) (hd : decode f.2.1 pc = .ok (.aastore, 1)) (hG : G.1 a = some (.inl (cA, n, .inr (.inr (.inr (.inr fn)))))) (ht : (tysOf Γ)[t]? = some (cA, .object C)) (hi : i = nI j) (hj : j < n) (hn : n < 2 ^ 31)
    (kk : Ok Γ f d b (pc + 1) L st (va_up G.1 a (some (.inl (cA, n, .inr (.inr (.inr (.inr (va_up fn j none))))))), G.2) Q) : Ok Γ f d b pc L (.null :: .int i :: .ref a :: st) G Q := by
  intro p e s m args below meth c F H locs cells slots bb h1 h2 hH hS ls hls
  subst hi
  have hK := F.2.2.2.2.2.2.2.2.1
  refine va_WaastN F.1 F.2.1 (hH.2.2 a _ hG).2 ((hK.2 t _ ht).1 n (fun j => va_rf (fn j))) (fun h => by cases h) (by show ¬ (nI j < 0 ∨ (arrV _ _ _).slots.size ≤ _); rw [arrV_size]; exact vp_in_nI hj hn) rfl rfl hd fun H1 e1 z oq => ?_
  rw [nI_clamp (by omega)] at e1 ⊢
  refine kk p e s m args below meth c F H1 _ cells slots bb h1 h2 (hp_put hH (hH.2.2 a _ hG).1 z oq ?_) (hS.put z oq (hH.2.2 a _ hG).1) ls hls
  show H1[a]? = some (vp_cell _ _)
  rw [e1]
  rw [vp_cell_q, vp_cell_q, arrV_store]
  congr 2
  funext q
  by_cases hq : q = j
  · subst hq
    simp [updV, va_up, va_rf]
  · simp [updV, va_up, hq]
theorem ok_anew {i : Int32} {C : String} {t : Nat} {cA : ClassId} (N : Nat) (hd : decode f.2.1 pc = .ok (.anewarray idx, 3)) (hw : Cond.classLink f.1.cls idx C ∈ lwg) (hC : C = "KitePost$Kite" ∨ C = "KitePost$Sheet" ∨ C = "java/lang/String") (ht : (tysOf Γ)[t]? = some (cA, .object C)) (hi : i = nI N) (hN : N ≤ 400) (kk : Ok Γ f d b (pc + 3) L (.ref G.2 :: st) (va_up G.1 G.2 (some (.inl (cA, N, .inr (.inr (.inr (.inr (fun _ => none))))))), G.2 + 1) Q) : Ok Γ f d (b + 1) pc L (.int i :: st) G Q := by
  intro p e s m args below meth c F H locs cells slots bb h1 h2 hH hS ls hls
  subst hi
  have hkn := F.2.2.2.2.2.2.2.2
  have hK := hkn.1
  have hkw := (kx_kw hkn.2).2.2.2.2
  have hov : va_AO C s := by
    rcases hC with rfl | rfl | rfl
    · exact hkw.1
    · exact hkw.2.1
    · exact hkw.2.2
  refine W.anew F.1 F.2.1 F.2.2.2.2.1 (F.2.2.2.2.2.1 _ hw) (va_AO.use hov) rfl hd rfl (nI_pos (by omega)) (by rw [nI_clamp (by omega)]; omega) (by show cells + 1 ≤ bb; omega) (by rw [nI_clamp (by omega)]; show slots + N ≤ 400 * bb; omega) fun cA' kA comp f1 f2 f3 f4 => ?_
  obtain ⟨kA2, comp2, q1, q2, q3, q4⟩ := (hK.2 t _ ht).2
  have hcA : cA' = cA := Option.some.inj (f1.symm.trans q4)
  subst hcA
  rw [nI_clamp (by omega)]
  generalize hH1 : H.push ({ cls := cA', slots := Array.replicate N .null, vm := .none } : Cell) = H1
  have z1 : H1.size = G.2 + 1 := by rw [← hH1, Array.size_push, hH.1]
  have e1 : H1[G.2]? = some (arrV cA' N (fun _ => .null)) := by rw [← hH1, ← hH.1, Array.getElem?_push_size, ← arrV_new]
  have o1 : ∀ q : Nat, q < G.2 → H1[q]? = H[q]? := fun q hq => by rw [← hH1, Array.getElem?_push, if_neg (by rw [hH.1]; exact Nat.ne_of_lt hq)]
  rw [hH.1]
  exact kk p e s m args below meth c F H1 _ _ _ bb (by omega) (by omega) (hp_new hH z1 o1 e1) (va_S_new hS hH.1 z1 o1) ls hls
end MoreRules
