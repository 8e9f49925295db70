/-! super calls whose method is declared higher up -/
section SuperUp
variable {p : Program} {l : Launch} {e : Env} {R : Room} {s : State} {m : MethodId} {args : Array Value} {below : List Frame} {meth : Method} {c : Code}
theorem su2_sub {ps pt : ClassId} {k : Class} (hk : s.vm.classes[ps]? = some k) (hs : k.super = some pt) : s.vm.isSubclass ps pt = true := by
  unfold Vm.isSubclass
  have h0 : ∃ n, s.vm.classes.size = n + 1 := by
    cases hn : s.vm.classes.size with
    | zero =>
      have h1 := (Array.getElem?_eq_some_iff.mp hk).1
      omega
    | succ n => exact ⟨n, rfl⟩
  obtain ⟨n, hn⟩ := h0
  rw [hn]
  simp only [Vm.isSubclassAux, hk, hs, beq_self_eq_true, Bool.true_or, Bool.or_true]
theorem su2_call {T : State} {locs : List Loc} {cells slots : Nat} (X : Stand p l e R s m args below meth c T locs cells slots) (hexec : p.tables.exec = Jvm.exec) {own : String} {index : Nat} {x y : MethodName} {bytes : ByteArray} {maxL : Nat} {ret : Option FieldType}
    (hown : s.vm.findClass own = some m.cls) (hlink : (Cond.methodLink own index x).before args s = true) (hxy : y = ⟨y.cls, x.name, x.desc⟩) (hsame : (Cond.sameMethod x.cls y.cls x.name x.desc).before args s = true) (hsup : (Cond.superclass own x.cls).before args s = true) (hsup2 : (Cond.superclass x.cls y.cls).before args s = true)
    (hinst : (Cond.instanceMethod y).before args s = true) (hcode : (Cond.code y bytes maxL ret).before args s = true) (hno : x.name ≠ "<init>")
    {W : Nat} {Pre : Pt → Array Value → Prop} {Post : Pt → Array Value → Option Value → Pt → Prop} (hK : Back l R p e below s args y 3 W Pre Post)
    {b : Addr} {cellB : Cell} {kB : Class} (hcell : T.heap[b]? = some cellB) (hobj : cellB.vm.isStatics = false) (hkB : s.vm.classes[cellB.cls]? = some kB)
    {g : JFrame} (hg : g.method = m) (hsize : g.locals.size = c.maxLocals) {argsL rest : List Value} (hlen : ∀ sig, parseMethodDescriptor y.desc = some sig → argsL.length = sig.parameters.length)
    (hstack : g.stack = argsL.reverse ++ .ref b :: rest) (hW : 2 * g.monitorRoom + (rest.map fun v => v.category).sum ≤ W) (hdg : decode c.code g.pc = .ok (.invokespecial index, 3))
    (hpre : ∀ vm₁, s.WarmedH vm₁ → Pre ⟨T.setVm vm₁, locs, cells, slots⟩ (Value.ref b :: argsL).toArray) :
    ∃ (v : Option Value) (vm₁ : Vm) (B : Pt), s.WarmedH vm₁ ∧ Stand p l e R s m args below meth c B.U B.locs B.cells B.slots ∧ Post ⟨T.setVm vm₁, locs, cells, slots⟩ (Value.ref b :: argsL).toArray v B ∧
      ∀ target, Steps p.tables e below (B.U.setTop { g with pc := g.pc + 3, stack := v.toList ++ rest }) target → Steps p.tables e below (T.setTop g) target := by
  obtain ⟨mk, methM, hnamed, hmethM, hstM, habM⟩ := Cond.instanceMethod_spec hinst
  obtain ⟨methM', cM, hmethM', -, -, -, -, -, -, hsigM⟩ := Cond.code_spec hnamed hcode
  cases hmethM.symm.trans hmethM'
  obtain ⟨ps, dk, kp, hps, hdk, hkp, hsuper, -, -, hnid⟩ := Cond.superclass_spec hown hsup
  obtain ⟨pt, dk2, kp2, hpt, hdk2, -, hsuper2, -, -, -⟩ := Cond.superclass_spec hps hsup2
  have hn : s.methodNamed? ⟨y.cls, x.name, x.desc⟩ = some mk := by rw [← hxy]; exact hnamed
  have hpm : pt = mk.cls := Option.some.inj (hpt.symm.trans (findClass_of_methodNamed hnamed))
  have hsub : s.vm.isSubclass ps mk.cls = true := by rw [← hpm]; exact su2_sub hdk2 hsuper2
  obtain ⟨vm₁, X₁, hstep₁⟩ := X.invokespecialUp hexec hown hlink hsame hn hmethM hstM habM hno hdk hnid hps hsuper hsub (a := b) (cell := cellB) hcell
    (fun z h => by rw [h] at hobj; cases hobj) hkB (g := g) hg (argsL := argsL) (rest := rest) (hlen _ hsigM) hstack hdg
  obtain ⟨v, B, X', hpost, hsteps⟩ := hK m meth c ⟨T.setVm vm₁, locs, cells, slots⟩ { g with stack := rest } (.invokespecial index) mk (Value.ref b :: argsL).toArray X₁ hg hsize hdg hW (X₁.named hnamed) (hpre vm₁ X₁.warmed)
  exact ⟨v, vm₁, B, X₁.warmed, X', hpost, fun target h => hstep₁ _ (by rw [doInvoke_state]; exact hsteps.trans h)⟩
variable {H : Heap} {locs : List Loc} {cells slots : Nat}
theorem su2_run {x y : MethodName} {bytes cc : ByteArray} {maxL nL mc ms n index : Nat} {ret : Option FieldType} {ws : List Cond} {rm : Room} {Pc : Array Value → State → Prop} {Qc : Array Value → State → Outcome → State → Prop} {free : Addr → Prop} {Ts : List Cond} {own C : String} {cC : ClassId} {b : Addr} {As rest : List Value} {g : JFrame}
    (hat : ClassAt s C cC) (S : CallFix p m c cc nL s args Ts own) (hM : Met l y ws rm Pc Qc mc ms free)
    (hrc : rm.cells = mc) (hrs : rm.slots = ms) (hfr : rm.frames + 1 ≤ R.frames) (hlo : 8 + (maxL + 11) + rm.locals ≤ R.locals) (hws : ∀ w ∈ ws, ∀ (a' : Array Value) (U : State), s.WarmedH U.vm → w.before a' U = true) (hcw : Cond.code y bytes maxL ret ∈ ws)
    (hl1 : (Cond.methodLink own index x).before args s = true) (hxy : y = ⟨y.cls, x.name, x.desc⟩) (hl2 : (Cond.sameMethod x.cls y.cls x.name x.desc).before args s = true) (hl3 : (Cond.superclass own x.cls).before args s = true) (hl5 : (Cond.superclass x.cls y.cls).before args s = true) (hl4 : (Cond.instanceMethod y).before args s = true) (hini : (Cond.initialized y.cls).before args s = true) (hcode : (Cond.code y bytes maxL ret).before args s = true) (hno : x.name ≠ "<init>") (hlen : ∀ sig, parseMethodDescriptor y.desc = some sig → n = sig.parameters.length)
    (hp : PreV s H C b Pc As)
    (hg : g.method = m) (hn : As.length = n) (hsize : g.locals.size = nL) (hstack : g.stack = As.reverse ++ .ref b :: rest) (hW : 2 * g.monitorRoom + (rest.map fun v => v.category).sum ≤ 8) (hdg : decode cc g.pc = .ok (.invokespecial index, 3)) (hf : cells + mc ≤ R.cells ∧ slots + ms ≤ R.slots) :
    va_Run p l e R s m args below meth c H locs cells slots mc ms g rest (Qc (Value.ref b :: As).toArray) (free) := by
  have hK : Back l R p e below s args y 3 8 (PreOf R mc ms Pc) (PostOf Qc mc ms free) := back_of (bytes := bytes) (maxL := maxL) (ret := ret) hM hp.1 hrc hrs hfr hlo hws hcw (fun a' U hW => word_at hW (Or.inl (by first | rfl | simp [Cond.onTables, Cond.keeps, Cond.steady])) hini)
  obtain ⟨hx, hb, hml, ho, -⟩ := S
  obtain ⟨-, ⟨cellB, hcB, hoB, hclB⟩, hPc⟩ := hp
  obtain ⟨hfc, kB, hkB, -⟩ := hat
  cases hfc.symm.trans hclB
  intro T hT X
  obtain ⟨v, vm₁, ⟨U', l2, c2, s2⟩, hW₁, X', ⟨g', mk, t, L, e1, e2, hq, h1, hL, h2, h3⟩, st⟩ := su2_call X hx (bytes := bytes) (maxL := maxL) (ret := ret) ho hl1 hxy hl2 hl3 hl5 hl4 hcode hno hK (by rw [hT]; exact hcB) hoB hkB hg (hsize.trans hml.symm) (argsL := As) (rest := rest) (fun sig h => hn.trans (hlen sig h)) hstack hW (by rw [hb]; exact hdg)
    (fun vm₁ hW₁ => ⟨hf.1, hf.2, hPc (T.setVm vm₁) hT hW₁⟩)
  dsimp only [Pt.U, Pt.locs, Pt.cells, Pt.slots] at X' e1 e2 h1 h2 h3 st
  subst h1; subst h2; subst h3
  exact ⟨v, (T.setVm vm₁).calling g' mk (Value.ref b :: As).toArray, t, U', L, hT, X', hL, e1, e2, hq, st⟩
end SuperUp
def SVLink (own : String) (idx : Nat) (x : MethodName) (g : Md) (n : Nat) : Prop := MLink g n ∧ Cond.methodLink own idx x ∈ lwg ∧ g.1 = ⟨g.1.cls, x.name, x.desc⟩ ∧ Cond.sameMethod x.cls g.1.cls x.name x.desc ∈ lwg ∧ Cond.superclass own x.cls ∈ lwg ∧ Cond.superclass x.cls g.1.cls ∈ lwg ∧ Cond.instanceMethod g.1 ∈ lwg ∧ x.name ≠ "<init>"
section CallRulesSV
variable {Γ : Cx} {f g : Md} {d b pc d' b' b'' idx n : Nat} {L : List (Option Value)} {st stk As : List Value} {G : Wd} {Q : Option Value → Wd → Prop} {Q' : Option Value → Wd → Prop}
theorem ok_callSVG {a cidx : Nat} {fs : List Value} {r : vw_C} {x : MethodName} (hG : G.1 a = some (.inr (cidx, fs))) (hc : kc[cidx]? = some r) (hd : decode f.2.1 pc = .ok (.invokespecial idx, 3)) (hl : SVLink f.1.cls idx x g n) (hn : As.length = n) (hst : stk = As.reverse ++ .ref a :: st) (h8 : stk8 st = true) (hdd : d' + 1 ≤ d) (hbb : b' + b'' ≤ b) (hs : Spec Γ g d' b' (.ref a :: As) G Q') (hk : ∀ v G', Q' v G' → Ok Γ f d b'' (pc + 3) L (v.toList ++ st) G' Q) : Ok Γ f d b pc L stk G Q := by
  intro p e s m args below meth c F H locs cells slots bb h1 h2 hH hS ls hls
  obtain ⟨hx, hb9, hr, hml, hown, hts, hlk, hnm, hkn⟩ := id F
  obtain ⟨⟨g1, g2, g3, g4⟩, l1, l0, l2, l3, l6, l4, l5⟩ := hl
  refine run_ok (Q' := Q') (su2_run (C := r.1) (x := x) (hkn.1.1 cidx r hc).2 ⟨hx, hb9, hml, hown, hts⟩ hs rfl rfl (room_ok (bb := bb) hdd g4).1 (room_ok (bb := bb) hdd g4).2 (pay_in hts (wsm_good g1)) List.mem_cons_self (hts _ l1) l0 (hts _ l2) (hts _ l3) (hts _ l6) (hts _ l4) (hts _ g2) (hts _ g1) l5 (fun sig h => by have h2 := g3.2.2; rw [h] at h2; exact (Option.some.inj h2).symm) ⟨blindP Γ _ G, recv_ok hH hkn hG hc, pre_ok hH hS hkn⟩ rfl hn hls.1 hst (stk8_ok h8) hd ⟨by show cells + b' ≤ bb; omega, by show slots + 400 * b' ≤ 400 * bb; omega⟩) hS (fun v G' H1 locs1 hq hp1 hS1 => ?_)
  exact hk v G' hq p e s m args below meth c F H1 locs1 _ _ bb (by omega) (by omega) hp1 hS1 ls hls
theorem ok_callSVi2 {a : Nat} {v1 v2 : Value} {cidx : Nat} {fs : List Value} {r : vw_C} {x : MethodName} (hd : decode f.2.1 pc = .ok (.invokespecial idx, 3)) (hl : SVLink f.1.cls idx x g 2) (hG : G.1 a = some (.inr (cidx, fs))) (hc : kc[cidx]? = some r) (h8 : stk8 st = true) (hdd : d' + 1 ≤ d) (hs : Spec Γ g d' 0 [.ref a, v1, v2] G (ci (fun r G' => Ok Γ f d b (pc + 3) L (.int r :: st) G' Q))) : Ok Γ f d b pc L (v2 :: v1 :: .ref a :: st) G Q :=
  ok_callSVG (b' := 0) (b'' := b) (As := [v1, v2]) (st := st) hG hc hd hl rfl rfl h8 hdd (by omega) hs (fun v G' h => by obtain ⟨r, rfl, h⟩ := h; exact h)
end CallRulesSV