/-! the start: classes, rows of the program, constants of text -/
theorem ar_int {s : State} {args : Array Value} (h : (Cond.arrayClass .int).before args s = true) : ∃ cA : ClassId, ArrOfT s cA .int ∧ va_RA s cA .int := by
  obtain ⟨c, k, comp, h1, h2, h3⟩ := Cond.arrayClass_spec h
  exact ⟨c, fun n z => ⟨fun k h => (by cases h), k, h2, comp, h3⟩, h1⟩
theorem ar_obj {s : State} {args : Array Value} {C : String} (h : (Cond.arrayOver (.object C)).before args s = true) : ∃ cA : ClassId, ArrOfT s cA (.object C) ∧ va_RA s cA (.object C) := by
  obtain ⟨comp, c, k, h1, _, h3, h4, h5⟩ := Cond.arrayOver_spec h
  exact ⟨c, fun n z => ⟨fun k h => (by cases h), k, h3, comp, h4⟩, k, comp, h3, h4, h1, h5⟩

theorem st_cls {s : State} {args : Array Value} (hts : ∀ w ∈ lwg, w.before args s = true) : ∃ (dC : Nat → ClassId) (dI : Nat → Nat → Nat), ∀ (k : Nat) (q : vw_C), kc[k]? = some q → u_Kn s q.1 q.2.1 q.2.2 (dC k) (dI k) := by
  obtain ⟨c0, i0, h0⟩ := u_known (C := RX0) (T := TX0) (N := 6) (n := 6) hts inG0 (hts _ tw_379)
  obtain ⟨c1, i1, h1⟩ := u_known (C := RX1) (T := TX1) (N := 6) (n := 6) hts inG1 (hts _ tw_448)
  obtain ⟨c2, i2, h2⟩ := u_known (C := RX2) (T := TX2) (N := 6) (n := 6) hts inG2 (hts _ tw_486)
  obtain ⟨c3, i3, h3⟩ := u_known (C := RX3) (T := TX3) (N := 6) (n := 6) hts inG3 (hts _ tw_461)
  obtain ⟨c4, i4, h4⟩ := u_known (C := RX4) (T := TX4) (N := 6) (n := 6) hts inG4 (hts _ tw_474)
  obtain ⟨c5, i5, h5⟩ := u_known (C := RX5) (T := TX5) (N := 18) (n := 18) hts inG5 (hts _ tw_111)
  obtain ⟨c6, i6, h6⟩ := u_known (C := RX6) (T := TX6) (N := 2) (n := 2) hts inG6 (hts _ tw_119)
  obtain ⟨c7, i7, h7⟩ := u_known (C := RX7) (T := TX7) (N := 3) (n := 3) hts inG7 (hts _ tw_245)
  obtain ⟨c8, i8, h8⟩ := u_known (C := RX8) (T := TX8) (N := 6) (n := 6) hts inG8 (hts _ tw_435)
  obtain ⟨c9, i9, h9⟩ := u_known (C := RX9) (T := TX9) (N := 6) (n := 6) hts inG9 (hts _ tw_422)
  obtain ⟨c10, i10, h10⟩ := u_known (C := RX10) (T := TX10) (N := 7) (n := 7) hts inG10 (hts _ tw_139)
  obtain ⟨c11, i11, h11⟩ := u_known (C := RX11) (T := TX11) (N := 8) (n := 8) hts inG11 (hts _ tw_103)
  obtain ⟨c12, i12, h12⟩ := u_known (C := RX12) (T := TX12) (N := 25) (n := 25) hts inG12 (hts _ tw_1113)
  refine ⟨fun k => ([c0, c1, c2, c3, c4, c5, c6, c7, c8, c9, c10, c11, c12] : List ClassId).getD k c0, fun k => ([i0, i1, i2, i3, i4, i5, i6, i7, i8, i9, i10, i11, i12] : List (Nat → Nat)).getD k i0, ?_⟩
  intro k q hq
  match k, hq with
  | 0, hq => obtain rfl := Option.some.inj hq; exact h0
  | 1, hq => obtain rfl := Option.some.inj hq; exact h1
  | 2, hq => obtain rfl := Option.some.inj hq; exact h2
  | 3, hq => obtain rfl := Option.some.inj hq; exact h3
  | 4, hq => obtain rfl := Option.some.inj hq; exact h4
  | 5, hq => obtain rfl := Option.some.inj hq; exact h5
  | 6, hq => obtain rfl := Option.some.inj hq; exact h6
  | 7, hq => obtain rfl := Option.some.inj hq; exact h7
  | 8, hq => obtain rfl := Option.some.inj hq; exact h8
  | 9, hq => obtain rfl := Option.some.inj hq; exact h9
  | 10, hq => obtain rfl := Option.some.inj hq; exact h10
  | 11, hq => obtain rfl := Option.some.inj hq; exact h11
  | 12, hq => obtain rfl := Option.some.inj hq; exact h12
  | k + 13, hq => exact absurd hq (by simp [kc])

def adr (n0 cI cK cS cT dx dy : Nat) (adK adV : Nat → Nat) : Nat → Nat
  | 0 => n0
  | 1 => cI
  | 2 => cK
  | 3 => cS
  | 4 => cT
  | 5 => dx
  | 6 => dy
  | n + 7 => if n < 13 then adK (n - 3) else adV (n - 13)
theorem adr_K {n0 cI cK cS cT dx dy : Nat} {adK adV : Nat → Nat} (i : Nat) (h : i < 7) : adr n0 cI cK cS cT dx dy adK adV (10 + i) = adK i := by
  rw [show 10 + i = (i + 3) + 7 by omega]
  show (if i + 3 < 13 then adK (i + 3 - 3) else adV (i + 3 - 13)) = adK i
  rw [if_pos (by omega), Nat.add_sub_cancel]
theorem adr_V {n0 cI cK cS cT dx dy : Nat} {adK adV : Nat → Nat} (i : Nat) : adr n0 cI cK cS cT dx dy adK adV (20 + i) = adV i := by
  rw [show 20 + i = (i + 13) + 7 by omega]
  show (if i + 13 < 13 then adK (i + 13 - 3) else adV (i + 13 - 13)) = adV i
  rw [if_neg (by omega), Nat.add_sub_cancel]
abbrev flS : List Cond := flatC (Jvm.Cond.and given_1 narrow_1)
def sTm : Nat → Term := fun i => ([.string "KitePost$Text" 93, .string "KitePost$Text" 95, .string "KitePost$Text" 63, .string "KitePost$Text" 65, .string "KitePost$Text" 67, .string "KitePost$Text" 69, .string "KitePost$Text" 71] : List Term).getD i (.string "KitePost$Text" 93)
theorem fm_len : ∀ i, i < 7 → strLen.getD i 0 < 2 ^ 31 := by decide +kernel
theorem fm_exa : ∀ i, i < 7 → Cond.exactly (sTm i) "java/lang/String" ∈ flS := by decide +kernel
theorem fm_cod : ∀ i, i < 7 → Cond.eq (.field (sTm i) "java/lang/String" "coder" "B") (.int 0) ∈ flS := by decide +kernel
theorem fm_arr : ∀ i, i < 7 → Cond.arrayOf (.field (sTm i) "java/lang/String" "value" "[B") .byte ∈ flS := by decide +kernel
theorem fm_lng : ∀ i, i < 7 → Cond.eq (.length (.field (sTm i) "java/lang/String" "value" "[B")) (.int (Int32.ofNat (strLen.getD i 0))) ∈ flS := by decide +kernel
theorem fm_elm : ∀ i, i < 7 → ∀ j, j < strLen.getD i 0 → Cond.eq (.elem (.field (sTm i) "java/lang/String" "value" "[B") (.int (Int32.ofNat j))) (.int ((strByt.getD i []).getD j 0)) ∈ flS := by decide +kernel
theorem fm_ne : ∀ i, i < 7 → ∀ j, j < 7 → i ≠ j → Cond.not (Cond.eq (sTm i) (sTm j)) ∈ flS ∨ Cond.not (Cond.eq (sTm j) (sTm i)) ∈ flS := by decide +kernel
theorem fm_dx : ∀ j, j < 8 → Cond.eq (.elem (.static "KitePost" "DIR_X" "[I") (.int (Int32.ofNat j))) (.int (dirX j)) ∈ flS := by decide +kernel
theorem fm_dy : ∀ j, j < 8 → Cond.eq (.elem (.static "KitePost" "DIR_Y" "[I") (.int (Int32.ofNat j))) (.int (dirY j)) ∈ flS := by decide +kernel
theorem fm_no : ∀ q ∈ castN, Cond.not (.castable q.1 q.2) ∈ flS := by decide +kernel
theorem fm_yes : ∀ q ∈ castY, Cond.castable q.1 q.2 ∈ lw_tbl := by decide +kernel
theorem fm_nl : ∀ q ∈ nestL, Cond.methodLinkNest q.1 q.2.1 q.2.2.1 q.2.2.2 ∈ lw_tbl := by decide +kernel
theorem fm_nf : ∀ q ∈ nestF, Cond.fieldLinkNest q.1 q.2.1 q.2.2.1 q.2.2.2.1 q.2.2.2.2.1 q.2.2.2.2.2 ∈ lw_tbl := by decide +kernel

theorem st_kw {s : State} {b : Nat} (hts : ∀ w ∈ lw_tbl, w.before #[Value.ref b] s = true) (hs : ∀ w ∈ flS, w.before #[Value.ref b] s = true) : kw s :=
  ⟨fun q hq => va_Nw.of rfl (hts _ (fm_yes q hq)), fun q hq => va_Nc.of (hs _ (fm_no q hq)), fun q hq => va_Nw.of rfl (hts _ (fm_nl q hq)), fun q hq => va_Nw.of rfl (hts _ (fm_nf q hq)),
    va_AO.of (hts _ (List.mem_of_getElem? (i := 117) (by decide +kernel))), va_AO.of (hts _ (List.mem_of_getElem? (i := 244) (by decide +kernel))), va_AO.of (hts _ (List.mem_of_getElem? (i := 1119) (by decide +kernel)))⟩
theorem st_kx {s : State} {b : Nat} (hts : ∀ w ∈ lw_tbl, w.before #[Value.ref b] s = true) (hs : ∀ w ∈ flS, w.before #[Value.ref b] s = true) (l : Launch) (D : va_G) (cI cK cS cT : Nat) : ∃ (dx dy : Nat) (adK adV : Nat → Nat), kx (l, D, adr s.heap.size cI cK cS cT dx dy adK adV) s s.heap := by
  have hA : ∀ a : Nat, a < s.heap.size → ¬ (fun q : Nat => s.heap.size ≤ q) a := fun a h => Nat.not_le.mpr h
  obtain ⟨dx, ex, hx⟩ := va_Tof (tm := .static "KitePost" "DIR_X" "[I") (ty := .int) (N := 8) (f := fun j => .int (dirX j)) (A := fun q : Nat => s.heap.size ≤ q) (by decide) (hs _ (by decide +kernel)) (va_eqt (hs _ (by decide +kernel))) (fun j hj => va_eqt (hs _ (fm_dx j hj))) hA
  obtain ⟨dy, ey, hy⟩ := va_Tof (tm := .static "KitePost" "DIR_Y" "[I") (ty := .int) (N := 8) (f := fun j => .int (dirY j)) (A := fun q : Nat => s.heap.size ≤ q) (by decide) (hs _ (by decide +kernel)) (va_eqt (hs _ (by decide +kernel))) (fun j hj => va_eqt (hs _ (fm_dy j hj))) hA
  obtain ⟨adK, adV, hS, hE⟩ := vk_Sof (N := 7) (tm := sTm) (len := strLen) (byt := strByt) (A := fun q : Nat => s.heap.size ≤ q) fm_len (fun i hi => hs _ (fm_exa i hi)) (fun i hi => hs _ (fm_cod i hi)) (fun i hi => hs _ (fm_arr i hi)) (fun i hi => hs _ (fm_lng i hi)) (fun i hi j hj => hs _ (fm_elm i hi j hj)) (fun i j hi hj hij => (fm_ne i hi j hj hij).imp (hs _) (hs _)) hA
  have eK : ∀ i, i < 7 → adr s.heap.size cI cK cS cT dx dy adK adV (10 + i) = adK i := fun i hi => adr_K i hi
  have eV : ∀ i, adr s.heap.size cI cK cS cT dx dy adK adV (20 + i) = adV i := fun i => adr_V i
  have hS2 : vk_S 7 strLen strByt (fun i => adr s.heap.size cI cK cS cT dx dy adK adV (10 + i)) (fun i => adr s.heap.size cI cK cS cT dx dy adK adV (20 + i)) (fun q : Nat => s.heap.size ≤ q) s s.heap := by
    refine ⟨fun i hi => ?_, fun i j hi hj e9 => ?_⟩
    · have h9 := hS.1 i hi
      simp only [eK i hi, eV i]
      exact h9
    · simp only [eK i hi, eK j hj] at e9
      exact hS.2 i j hi hj e9
  exact ⟨dx, dy, adK, adV, va_Zof (hts _ (List.mem_of_getElem? (i := 603) (by decide +kernel))) (hts _ (List.mem_of_getElem? (i := 81) (by decide +kernel))) ex hA, hx,
    va_Zof (hts _ (List.mem_of_getElem? (i := 605) (by decide +kernel))) (hts _ (List.mem_of_getElem? (i := 81) (by decide +kernel))) ey hA, hy,
    va_Zof (hts _ (List.mem_of_getElem? (i := 663) (by decide +kernel))) (hts _ (List.mem_of_getElem? (i := 96) (by decide +kernel))) (va_eqt (hs _ (by decide +kernel))) hA,
    va_Zqof (hts _ (List.mem_of_getElem? (i := 702) (by decide +kernel))) (hts _ (List.mem_of_getElem? (i := 99) (by decide +kernel))) (hs _ (by decide +kernel)) hA,
    hS2,
    vk_R.of (hts _ (List.mem_of_getElem? (i := 645) (by decide +kernel))) ((hE 0 (by decide)).trans (congrArg (fun q => some (Value.ref q)) (eK 0 (by decide)).symm)),
    vk_R.of (hts _ (List.mem_of_getElem? (i := 646) (by decide +kernel))) ((hE 1 (by decide)).trans (congrArg (fun q => some (Value.ref q)) (eK 1 (by decide)).symm)),
    vk_R.of (hts _ (List.mem_of_getElem? (i := 746) (by decide +kernel))) ((hE 2 (by decide)).trans (congrArg (fun q => some (Value.ref q)) (eK 2 (by decide)).symm)),
    vk_R.of (hts _ (List.mem_of_getElem? (i := 747) (by decide +kernel))) ((hE 3 (by decide)).trans (congrArg (fun q => some (Value.ref q)) (eK 3 (by decide)).symm)),
    vk_R.of (hts _ (List.mem_of_getElem? (i := 748) (by decide +kernel))) ((hE 4 (by decide)).trans (congrArg (fun q => some (Value.ref q)) (eK 4 (by decide)).symm)),
    vk_R.of (hts _ (List.mem_of_getElem? (i := 749) (by decide +kernel))) ((hE 5 (by decide)).trans (congrArg (fun q => some (Value.ref q)) (eK 5 (by decide)).symm)),
    vk_R.of (hts _ (List.mem_of_getElem? (i := 750) (by decide +kernel))) ((hE 6 (by decide)).trans (congrArg (fun q => some (Value.ref q)) (eK 6 (by decide)).symm)),
    vk_R.of (hts _ (List.mem_of_getElem? (i := 1120) (by decide +kernel))) ((va_eqR (hs (.eq (.string "KitePost$Text" 93) (.string "KitePostModel" 30)) (by decide +kernel)) (hE 0 (by decide))).trans (congrArg (fun q => some (Value.ref q)) (eK 0 (by decide)).symm)),
    vk_R.of (hts _ (List.mem_of_getElem? (i := 1121) (by decide +kernel))) ((va_eqR (hs (.eq (.string "KitePost$Text" 95) (.string "KitePostModel" 32)) (by decide +kernel)) (hE 1 (by decide))).trans (congrArg (fun q => some (Value.ref q)) (eK 1 (by decide)).symm)),
    st_kw hts hs⟩
theorem st_kn {s : State} {b : Nat} (hts : ∀ w ∈ lw_tbl, w.before #[Value.ref b] s = true) (hs : ∀ w ∈ flS, w.before #[Value.ref b] s = true) (l : Launch) : ∃ Γ : Cx, Γ.1 = l ∧ Γ.2.2 0 = s.heap.size ∧ kn Γ s s.heap := by
  obtain ⟨dC, dI, hK⟩ := st_cls (args := #[Value.ref b]) (fun w hw => hts w (List.mem_filter.mp hw).1)
  obtain ⟨cI, r1⟩ := ar_int (hts _ (List.mem_of_getElem? (i := 137) (by decide +kernel)))
  obtain ⟨cK, r2⟩ := ar_obj (C := "KitePost$Kite") (hts _ (List.mem_of_getElem? (i := 117) (by decide +kernel)))
  obtain ⟨cS, r3⟩ := ar_obj (C := "KitePost$Sheet") (hts _ (List.mem_of_getElem? (i := 244) (by decide +kernel)))
  obtain ⟨cT, r4⟩ := ar_obj (C := "java/lang/String") (hts _ (List.mem_of_getElem? (i := 1119) (by decide +kernel)))
  obtain ⟨dx, dy, adK, adV, hX⟩ := st_kx hts hs l (dC, dI) cI cK cS cT
  refine ⟨_, rfl, rfl, ⟨hK, fun k q hq => ?_⟩, hX⟩
  match k, hq with
  | 0, hq => obtain rfl := Option.some.inj hq; exact r1
  | 1, hq => obtain rfl := Option.some.inj hq; exact r2
  | 2, hq => obtain rfl := Option.some.inj hq; exact r3
  | 3, hq => obtain rfl := Option.some.inj hq; exact r4
  | k + 4, hq => exact absurd hq (by simp [tysOf])
