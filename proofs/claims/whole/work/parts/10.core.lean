/-! THE LAYER: a world is a map from addresses to cells with the heap's size; 'Ok' hides the machine's own parameters. -/
abbrev Wd : Type := (Nat → Option va_E) × Nat
abbrev Cx : Type := Launch × va_G × (Nat → Nat)
abbrev Md : Type := MethodName × ByteArray × Nat × Option FieldType
abbrev kc : List vw_C := [(RX0, TX0, 6), (RX1, TX1, 6), (RX2, TX2, 6), (RX3, TX3, 6), (RX4, TX4, 6), (RX5, TX5, 18), (RX6, TX6, 2), (RX7, TX7, 3), (RX8, TX8, 6), (RX9, TX9, 6), (RX10, TX10, 7), (RX11, TX11, 8), (RX12, TX12, 25)]
def cxA (Γ : Cx) : Nat → Prop := fun q => Γ.2.2 0 ≤ q
abbrev tysOf (Γ : Cx) : List (ClassId × FieldType) := [(Γ.2.2 1, .int), (Γ.2.2 2, .object "KitePost$Kite"), (Γ.2.2 3, .object "KitePost$Sheet"), (Γ.2.2 4, .object "java/lang/String")]
def dirX : Nat → Int32 := fun j => ([1, 1, 0, -1, -1, -1, 0, 1] : List Int32).getD j 0
def dirY : Nat → Int32 := fun j => ([0, 1, 1, 1, 0, -1, -1, -1] : List Int32).getD j 0
def strLen : List Nat := [4, 2, 1, 1, 3, 2, 3]
def strByt : List (List Int32) := [[102, 100, 108, 107], [104, 119], [124], [38], [60, 61, 62], [43, 45], [42, 47, 37]]
def castY : List (String × String) := [("KitePost$Boxed", "KitePost$Kite"), ("KitePost$Doubled", "KitePost$Boxed"), ("KitePost$Doubled", "KitePost$Kite"), ("KitePost$LongTailed", "KitePost$Tailed"), ("KitePost$LongTailed", "KitePost$Kite"), ("KitePost$Old", "KitePost$Silk"), ("KitePost$Old", "KitePost$Kite"), ("KitePost$Silk", "KitePost$Kite"), ("KitePost$Tailed", "KitePost$Kite")]
def castN : List (String × String) := [("KitePost$Boxed", "KitePost$Doubled"), ("KitePost$Boxed", "KitePost$LongTailed"), ("KitePost$Boxed", "KitePost$Old"), ("KitePost$Boxed", "KitePost$Silk"), ("KitePost$Boxed", "KitePost$Tailed"), ("KitePost$Doubled", "KitePost$LongTailed"), ("KitePost$Doubled", "KitePost$Old"), ("KitePost$Doubled", "KitePost$Silk"), ("KitePost$Doubled", "KitePost$Tailed"), ("KitePost$Kite", "KitePost$Boxed"), ("KitePost$Kite", "KitePost$Doubled"), ("KitePost$Kite", "KitePost$LongTailed"), ("KitePost$Kite", "KitePost$Old"), ("KitePost$Kite", "KitePost$Silk"), ("KitePost$Kite", "KitePost$Tailed"), ("KitePost$LongTailed", "KitePost$Boxed"), ("KitePost$LongTailed", "KitePost$Doubled"), ("KitePost$LongTailed", "KitePost$Old"), ("KitePost$LongTailed", "KitePost$Silk"), ("KitePost$Old", "KitePost$Boxed"), ("KitePost$Old", "KitePost$Doubled"), ("KitePost$Old", "KitePost$LongTailed"), ("KitePost$Old", "KitePost$Tailed"), ("KitePost$Silk", "KitePost$Boxed"), ("KitePost$Silk", "KitePost$Doubled"), ("KitePost$Silk", "KitePost$LongTailed"), ("KitePost$Silk", "KitePost$Old"), ("KitePost$Silk", "KitePost$Tailed"), ("KitePost$Tailed", "KitePost$Boxed"), ("KitePost$Tailed", "KitePost$Doubled"), ("KitePost$Tailed", "KitePost$LongTailed"), ("KitePost$Tailed", "KitePost$Old"), ("KitePost$Tailed", "KitePost$Silk")]
def nestL : List (String × Nat × MethodName × String) := [("KitePost", 44, ⟨"KitePost$Sheet", "<init>", "()V"⟩, "KitePost"), ("KitePost$Post", 122, ⟨"KitePost", "within", "(III)Z"⟩, "KitePost")]
def nestF : List (String × Nat × String × String × String × String) := [("KitePost$Post", 191, "KitePost", "DIR_X", "[I", "KitePost"), ("KitePost$Post", 194, "KitePost", "DIR_Y", "[I", "KitePost")]
/-- words of the tables that aren't kept by themselves -/
def kw (s : State) : Prop := (∀ q ∈ castY, va_Nw (.castable q.1 q.2) s) ∧ (∀ q ∈ castN, va_Nc q.1 q.2 s) ∧ (∀ q ∈ nestL, va_Nw (.methodLinkNest q.1 q.2.1 q.2.2.1 q.2.2.2) s) ∧ (∀ q ∈ nestF, va_Nw (.fieldLinkNest q.1 q.2.1 q.2.2.1 q.2.2.2.1 q.2.2.2.2.1 q.2.2.2.2.2) s) ∧ va_AO "KitePost$Kite" s ∧ va_AO "KitePost$Sheet" s ∧ va_AO "java/lang/String" s
theorem kw_moved {s U : State} (hW : s.WarmedH U.vm) (h : kw s) : kw U := by
  have hA := hW.alike
  obtain ⟨a1, a2, a3, a4, a5, a6, a7⟩ := h
  exact ⟨fun q hq => (a1 q hq).warmC hW, fun q hq => (a2 q hq).moved hA, fun q hq => (a3 q hq).warmM hW, fun q hq => (a4 q hq).warmF hW, a5.moved hA, a6.moved hA, a7.moved hA⟩
theorem kw_same {s U : State} (hv : U.vm = s.vm) (h : kw s) : kw U := by
  have hA : s.vm.Alike U.vm := by rw [hv]; exact Vm.Alike.refl _
  obtain ⟨a1, a2, a3, a4, a5, a6, a7⟩ := h
  exact ⟨fun q hq => va_Nw.same rfl hv.symm (a1 q hq), fun q hq => (a2 q hq).moved hA, fun q hq => va_Nw.same rfl hv.symm (a3 q hq), fun q hq => va_Nw.same rfl hv.symm (a4 q hq), a5.moved hA, a6.moved hA, a7.moved hA⟩
/-- what stays below the world: static rows, constants of text -/
def kx (Γ : Cx) (s : State) (H : Heap) : Prop :=
  va_Z "KitePost" "DIR_X" "[I" (.ref (Γ.2.2 5)) (cxA Γ) s H ∧ va_T .int (Γ.2.2 5) 8 (fun j => .int (dirX j)) (cxA Γ) s H ∧
  va_Z "KitePost" "DIR_Y" "[I" (.ref (Γ.2.2 6)) (cxA Γ) s H ∧ va_T .int (Γ.2.2 6) 8 (fun j => .int (dirY j)) (cxA Γ) s H ∧
  va_Z "java/lang/String" "COMPACT_STRINGS" "Z" (.int 1) (cxA Γ) s H ∧ va_Zq "jdk/internal/util/Preconditions" "SIOOBE_FORMATTER" "Ljava/util/function/BiFunction;" (cxA Γ) s H ∧
  vk_S 7 strLen strByt (fun i => Γ.2.2 (10 + i)) (fun i => Γ.2.2 (20 + i)) (cxA Γ) s H ∧
  vk_R "KitePost$Text" 93 "fdlk" (Γ.2.2 10) s ∧ vk_R "KitePost$Text" 95 "hw" (Γ.2.2 11) s ∧ vk_R "KitePost$Text" 63 "|" (Γ.2.2 12) s ∧ vk_R "KitePost$Text" 65 "&" (Γ.2.2 13) s ∧
  vk_R "KitePost$Text" 67 "<=>" (Γ.2.2 14) s ∧ vk_R "KitePost$Text" 69 "+-" (Γ.2.2 15) s ∧ vk_R "KitePost$Text" 71 "*/%" (Γ.2.2 16) s ∧
  vk_R "KitePostModel" 30 "fdlk" (Γ.2.2 10) s ∧ vk_R "KitePostModel" 32 "hw" (Γ.2.2 11) s ∧ kw s
theorem kx_kw {Γ : Cx} {s : State} {H : Heap} (h : kx Γ s H) : kw s := by
  obtain ⟨a1, a2, a3, a4, a5, a6, a7, b1, b2, b3, b4, b5, b6, b7, b8, b9, bw⟩ := h
  exact bw
theorem kx_nest {Γ : Cx} {s : State} {H : Heap} (h : kx Γ s H) {own host : String} {idx : Nat} {y : MethodName} (hm : (own, idx, y, host) ∈ nestL) : va_Nw (.methodLinkNest own idx y host) s := (kx_kw h).2.2.1 _ hm
def kn (Γ : Cx) (s : State) (H : Heap) : Prop := va_K Γ.2.1 kc (tysOf Γ) s ∧ kx Γ s H
def hp (Γ : Cx) (G : Wd) (H : Heap) : Prop := H.size = G.2 ∧ Γ.2.2 0 ≤ G.2 ∧ ∀ a e, G.1 a = some e → Γ.2.2 0 ≤ a ∧ va_at Γ.2.1 kc (a, e) H
def rmo (d b : Nat) : Room := { frames := d, cells := b, slots := 400 * b, locals := 100 * d }
abbrev wsm (f : Md) : List Cond := .code f.1 f.2.1 f.2.2.1 f.2.2.2 :: lwg
def Pcw (Γ : Cx) (av : List Value) (G : Wd) : Array Value → State → Prop := va_Pc av (fun U => hp Γ G U.heap ∧ kn Γ U U.heap)
def Qcw (Γ : Cx) (Q : Option Value → Wd → Prop) : Array Value → State → Outcome → State → Prop := fun _ st o t => (∃ (v : Option Value) (G' : Wd), o = .returned v ∧ Q v G' ∧ hp Γ G' t.heap) ∧ va_F (cxA Γ) st t
def Spec (Γ : Cx) (f : Md) (d b : Nat) (av : List Value) (G : Wd) (Q : Option Value → Wd → Prop) : Prop := Met Γ.1 f.1 (wsm f) (rmo d b) (Pcw Γ av G) (Qcw Γ Q) b (400 * b) (cxA Γ)
def Fx (Γ : Cx) (f : Md) (p : Program) (s : State) (m : MethodId) (args : Array Value) (meth : Method) (c : Code) : Prop :=
  p.tables.exec = Jvm.exec ∧ c.code = f.2.1 ∧ meth.sig.returnType = f.2.2.2 ∧ c.maxLocals = f.2.2.1 ∧ s.vm.findClass f.1.cls = some m.cls ∧ (∀ w ∈ lwg, w.before args s = true) ∧ meth.locks = false ∧ meth.name = f.1.name ∧ kn Γ s s.heap
def lvl (ls : Array Slot) (n : Nat) (L : List (Option Value)) : Prop := ls.size = n ∧ lv_wf ls ∧ ∀ (i : Nat) (v : Value), L[i]? = some (some v) → ls[i]? = some (Slot.val v)
def Ok (Γ : Cx) (f : Md) (d b pc : Nat) (L : List (Option Value)) (st : List Value) (G : Wd) (Q : Option Value → Wd → Prop) : Prop :=
  ∀ (p : Program) (e : Env) (s : State) (m : MethodId) (args : Array Value) (below : List Frame) (meth : Method) (c : Code), Fx Γ f p s m args meth c →
  ∀ (H : Heap) (locs : List Loc) (cells slots bb : Nat), cells + b ≤ bb → slots + 400 * b ≤ 400 * bb → hp Γ G H → va_S (cxA Γ) s.heap H locs → ∀ ls : Array Slot, lvl ls f.2.2.1 L →
  W p Γ.1 e (rmo d bb) s m args below meth c H locs cells slots (MQ below (Qcw Γ Q) args s bb (400 * bb) (cxA Γ)) (F0 m pc ls st)
/-- answers by their kinds -/
def ci (K : Int32 → Wd → Prop) : Option Value → Wd → Prop := fun v G => ∃ r : Int32, v = some (.int r) ∧ K r G
def cl (K : Int64 → Wd → Prop) : Option Value → Wd → Prop := fun v G => ∃ r : Int64, v = some (.long r) ∧ K r G
def cr (K : Option Nat → Wd → Prop) : Option Value → Wd → Prop := fun v G => ∃ r : Option Nat, v = some (va_rf r) ∧ K r G
def cv (K : Wd → Prop) : Option Value → Wd → Prop := fun v G => v = none ∧ K G
-- moves of what is known
theorem kx_moved {Γ : Cx} {s U : State} {H : Heap} (hW : s.WarmedH U.vm) (h : kx Γ s H) : kx Γ U H := by
  have hA := hW.alike
  obtain ⟨a1, a2, a3, a4, a5, a6, a7, b1, b2, b3, b4, b5, b6, b7, b8, b9, bw⟩ := h
  exact ⟨a1.moved hA, a2.moved hA, a3.moved hA, a4.moved hA, a5.moved hA, a6.moved hA, a7.moved hA, b1.warm hW, b2.warm hW, b3.warm hW, b4.warm hW, b5.warm hW, b6.warm hW, b7.warm hW, b8.warm hW, b9.warm hW, kw_moved hW bw⟩
theorem kx_same {Γ : Cx} {s U : State} {H : Heap} (hv : U.vm = s.vm) (h : kx Γ s H) : kx Γ U H := by
  have hA : s.vm.Alike U.vm := by rw [hv]; exact Vm.Alike.refl _
  obtain ⟨a1, a2, a3, a4, a5, a6, a7, b1, b2, b3, b4, b5, b6, b7, b8, b9, bw⟩ := h
  exact ⟨a1.moved hA, a2.moved hA, a3.moved hA, a4.moved hA, a5.moved hA, a6.moved hA, a7.moved hA, b1.same hv, b2.same hv, b3.same hv, b4.same hv, b5.same hv, b6.same hv, b7.same hv, b8.same hv, b9.same hv, kw_same hv bw⟩
theorem kx_kept {Γ : Cx} {s : State} {H H1 : Heap} (hq : ∀ a : Nat, a < H.size → ¬ cxA Γ a → H1[a]? = H[a]?) (h : kx Γ s H) : kx Γ s H1 := by
  obtain ⟨a1, a2, a3, a4, a5, a6, a7, bs⟩ := h
  exact ⟨a1.kept hq, a2.kept hq, a3.kept hq, a4.kept hq, a5.kept hq, a6.kept hq, a7.kept hq, bs⟩
theorem kn_go {Γ : Cx} {s U : State} {H : Heap} {locs : List Loc} (hW : s.WarmedH U.vm) (hS : va_S (cxA Γ) s.heap H locs) (h : kn Γ s s.heap) : kn Γ U H :=
  ⟨va_K.moved hW.alike h.1, kx_moved hW (kx_kept hS.2.1 h.2)⟩
theorem blindP (Γ : Cx) (av : List Value) (G : Wd) : FrameBlind (Pcw Γ av G) := by
  intro a U g mk hq
  obtain ⟨h1, h2, h3, h4⟩ := hq
  exact ⟨h1, h2, va_K.moved (u := U) (U := U.calling g mk a) (Vm.Alike.refl U.vm) h3, kx_same (s := U) (U := U.calling g mk a) rfl h4⟩
/-- a contract out of its body -/
theorem spec_of {Γ : Cx} {f : Md} {d b : Nat} {av : List Value} {G : Wd} {Q : Option Value → Wd → Prop} (L : List (Option Value)) (hy : plainName f.1.cls = true)
    (hn : (lg_sl av).length ≤ f.2.2.1) (hL : ∀ (i : Nat) (v : Value), L[i]? = some (some v) → (i, v) ∈ lv_args 0 av) (k : Ok Γ f d b 0 L [] G Q) : Spec Γ f d b av G Q := by
  refine Met.ofW (cc := f.2.1) (maxL := f.2.2.1) (ret := f.2.2.2) hy rfl ?_
  intro p e s m args below meth c s₁ B hml hv
  obtain ⟨rfl, hH, hkn⟩ := hv
  have hts := atoms_spec (ws := wsm f) B.pre
  have hl := lv_entry av (n := f.2.2.1) hn
  rw [lg_entry_eq]
  generalize (lg_sl av ++ List.replicate (f.2.2.1 - (lg_sl av).length) Slot.unset).toArray = ls at hl ⊢
  exact k p e s m _ below meth c ⟨B.exec, B.bytes, B.returns, hml, findClass_of_methodNamed B.named, fun w hw => hts w (List.mem_cons_of_mem _ hw), B.notSynchronized, (name_of_methodNamed B.named B.method).1, hkn⟩ s.heap [] 0 0 b (by omega) (by omega) hH va_S.rf ls ⟨hl.1, hl.2.1, fun i v h => hl.2.2 (i, v) (hL i v h)⟩
