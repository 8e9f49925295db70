/-! sheets -/
def isB (v : Int32) : Bool := decide (v = 0) || decide (v = 8) || decide (v = 16) || decide (v = 32)
def zfN (nu : Rw) (s i : Nat) : Rw := fun j => if 40 * s ≤ j ∧ j < 40 * s + i then 0 else nu j
theorem zfN_0 (nu : Rw) (s : Nat) : zfN nu s 0 = nu := by funext j; exact if_neg (by omega)
theorem zfN_s (nu : Rw) (s i : Nat) : upd (zfN nu s i) (40 * s + i) 0 = zfN nu s (i + 1) := by
  funext j
  unfold upd zfN
  by_cases h : j = 40 * s + i
  · rw [if_pos h, if_pos (by omega)]
  · rw [if_neg h]
    by_cases g : 40 * s ≤ j ∧ j < 40 * s + i
    · rw [if_pos g, if_pos (by omega)]
    · rw [if_neg g, if_neg (by omega)]
abbrev Sh : Type := Rw × Rw × Rw
abbrev OpS : Type := Nat × Int32 × Sh
def shV (va : Nat → Rw) : Sh := (va 21, va 22, va 23)
def shU (va : Nat → Rw) (s : Sh) : Nat → Rw := va_up (va_up (va_up va 21 s.1) 22 s.2.1) 23 s.2.2
def es (e : Nat) (s : Sh) : OpS := (e, -1000000000 - nI e, s)
def op_sheet (s : Sh) (x b n : Int32) : OpS := if wi x 0 3 && isB b then (if b ≠ 0 ∧ n < 0 then es 3 s else if b ≠ 0 ∧ 40 < n then es 1 s else (0, 1, (upd s.1 (iN x) b, upd s.2.1 (iN x) (if b = 0 then 0 else n), zfN s.2.2 (iN x) 40))) else es 1 s
def cutF (w v : Int32) : Int32 := if w = 8 then v.toInt8.toInt32 else if w = 16 then v.toInt16.toInt32 else v
def op_put (s : Sh) (x i v : Int32) : OpS := if wi x 0 3 then (if s.1 (iN x) = 0 then es 2 s else if wi i 0 (s.2.1 (iN x) - 1) then (0, 1, (s.1, s.2.1, upd s.2.2 (40 * iN x + iN i) (cutF (s.1 (iN x)) v))) else es 1 s) else es 1 s
def mvF (nu : Rw) (fr to n : Nat) : Rw := fun j => if to ≤ j ∧ j < to + n then nu (fr + (j - to)) else nu j
theorem mvF_0 (nu : Rw) (fr to : Nat) : mvF nu fr to 0 = nu := by funext j; exact if_neg (by omega)
theorem mvF_s (nu : Rw) (fr to n : Nat) : upd (mvF nu fr to n) (to + n) (nu (fr + n)) = mvF nu fr to (n + 1) := by
  funext j
  unfold upd mvF
  by_cases h : j = to + n
  · rw [if_pos h, if_pos (by omega), show fr + (j - to) = fr + n by omega]
  · rw [if_neg h]
    by_cases g : to ≤ j ∧ j < to + n
    · rw [if_pos g, if_pos (by omega)]
    · rw [if_neg g, if_neg (by omega)]
/-- a piece of a sheet -/
def spF (i n z : Int32) : Bool := decide (0 ≤ i) && decide (0 ≤ n) && decide (i.toInt + n.toInt ≤ z.toInt)
def op_move (s : Sh) (x i y j n : Int32) : OpS := if wi x 0 3 && wi y 0 3 then (if s.1 (iN x) = 0 ∨ s.1 (iN y) = 0 then es 2 s else if s.1 (iN x) = s.1 (iN y) then (if spF i n (s.2.1 (iN x)) && spF j n (s.2.1 (iN y)) then (0, n, (s.1, s.2.1, mvF s.2.2 (40 * iN x + iN i) (40 * iN y + iN j) (iN n))) else es 1 s) else es 5 s) else es 1 s
def wnS (σ nu : Rw) (s : Nat) : Nat → Rw
  | 0 => σ
  | n + 1 => upd (wnS σ nu s n) (27 + n) (nu (40 * s + n))
/-- how many winds come: fuel, place -/
def wnC (nu : Rw) (z : Int32) (s : Nat) : Nat → Nat → Nat
  | 0, i => i
  | f + 1, i => if decide (nI i < z) && wi (nu (40 * s + i)) 0 79 then wnC nu z s f (i + 1) else i
def op_winds (σ : Rw) (s : Sh) (x : Int32) : Op3 := if wi x 0 3 then (if s.1 (iN x) = 0 then e3 2 σ else (0, nI (wnC s.2.2 (s.2.1 (iN x)) (iN x) 24 0), wnS σ s.2.2 (iN x) (wnC s.2.2 (s.2.1 (iN x)) (iN x) 24 0))) else e3 1 σ
/-- what always holds of sheets -/
def InvS (s : Sh) : Prop := ∀ q, q < 4 → isB (s.1 q) = true ∧ (∃ n, n ≤ 40 ∧ s.2.1 q = nI n)
theorem eUs (va : Nat → Rw) : shU va (shV va) = va := by
  funext j
  unfold shU shV va_up
  by_cases h3 : j = 23
  · subst h3; rfl
  · rw [if_neg h3]
    by_cases h2 : j = 22
    · subst h2; rfl
    · rw [if_neg h2]
      by_cases h1 : j = 21
      · subst h1; rfl
      · rw [if_neg h1]
theorem shU_o {va : Nat → Rw} {s : Sh} {j : Nat} (h1 : j ≠ 21) (h2 : j ≠ 22) (h3 : j ≠ 23) : shU va s j = va j := by unfold shU; rw [vup_ne h3, vup_ne h2, vup_ne h1]
theorem shU_1 {va : Nat → Rw} {s : Sh} : shU va s 21 = s.1 := by unfold shU; rw [vup_ne (by decide), vup_ne (by decide), vup_eq]
theorem shU_2 {va : Nat → Rw} {s : Sh} : shU va s 22 = s.2.1 := by unfold shU; rw [vup_ne (by decide), vup_eq]
theorem shU_3 {va : Nat → Rw} {s : Sh} : shU va s 23 = s.2.2 := by unfold shU; rw [vup_eq]
theorem eU_o {va : Nat → Rw} {e j : Nat} (h : j ≠ 4) : eU va e j = va j := by unfold eU; split; rfl; exact vup_ne h
/-- an act on sheets that told an error -/
theorem RefW.errS {Γ : Cx} {m : Nat} {M0 M : Nat → Option va_E} {σ κ ri vi : Rw} {ra va : Nat → Rw} (e : Nat) (he : 0 < e) (h : RefX Γ m M0 σ κ ri (va_up ra 4 (upd (ra 4) e (ra 4 e + 1))) M) (hv : ri 3 = vi 3 ∧ ri 19 = vi 19) (hw : ra 4 = va 4 ∧ ra 18 = va 18 ∧ ra 21 = va 21 ∧ ra 22 = va 22 ∧ ra 23 = va 23) : RefW Γ m M0 σ κ vi (shU (eU va e) (shV va)) M := by
  have h1 : shV va = shV (eU va e) := by unfold shV; rw [eU_o (by decide), eU_o (by decide), eU_o (by decide)]
  rw [h1, eUs]
  exact RefW.err e he h hv hw
theorem RefW.okS {Γ : Cx} {m : Nat} {M0 M : Nat → Option va_E} {σ κ ri vi : Rw} {ra va : Nat → Rw} {s : Sh} (h : RefX Γ m M0 σ κ ri ra M) (hv : ri 3 = vi 3 ∧ ri 19 = vi 19) (hw : ra 4 = va 4 ∧ ra 18 = va 18 ∧ ra 21 = s.1 ∧ ra 22 = s.2.1 ∧ ra 23 = s.2.2) : RefW Γ m M0 σ κ vi (shU (eU va 0) s) M := by
  rw [eU_0]
  exact ⟨ri, ra, h, hv, hw.1.trans (shU_o (by decide) (by decide) (by decide)).symm, hw.2.1.trans (shU_o (by decide) (by decide) (by decide)).symm, hw.2.2.1.trans shU_1.symm, hw.2.2.2.1.trans shU_2.symm, hw.2.2.2.2.trans shU_3.symm⟩
theorem lcmp_gt {x y : Int64} : 0 < lg_cmp x y ↔ y < x := by
  unfold lg_cmp
  by_cases h : x > y
  · rw [if_pos h]; exact ⟨fun _ => h, fun _ => by decide⟩
  · rw [if_neg h]
    by_cases e : x = y
    · rw [if_pos e]; exact ⟨fun g => absurd g (by decide), fun g => absurd g h⟩
    · rw [if_neg e]; exact ⟨fun g => absurd g (by decide), fun g => absurd g h⟩
theorem sum_gt {x y z : Int32} : z.toInt64 < x.toInt64 + y.toInt64 ↔ z.toInt < x.toInt + y.toInt := by
  rw [Int64.lt_iff_toInt_lt, Int64.toInt_add, Int32.toInt_toInt64, Int32.toInt_toInt64, Int32.toInt_toInt64]
  have h1 := Int32.toInt_lt x
  have h2 := Int32.toInt_lt y
  have h3 := Int32.le_toInt x
  have h4 := Int32.le_toInt y
  rw [Int.bmod_eq_of_le (by omega) (by omega)]

set_option maxHeartbeats 1000000 in
theorem l_sheet {Γ : Cx} {m sz : Nat} {M0 : Nat → Option va_E} {σ κ : Rw} {ri : Nat → Int32} {K : Int32 → Wd → Prop} {ra0 : Nat → Rw} {x q2 q3 : Int32} (s : Nat) (ex : x = nI s) (hs : s < 4) (nu : Rw) (k : ∀ M', RefX Γ m M0 σ κ ri (va_up ra0 23 (zfN nu s 40)) M' → K 1 (M', sz)) : ∀ (n : Nat) (i : Nat) (xi : Int32) (M : Nat → Option va_E), i + n = 40 → xi = nI i → RefX Γ m M0 σ κ ri (va_up ra0 23 (zfN nu s i)) M → Ok Γ mX12_sheet 2 0 93 [some (.ref m), some (.int x), some (.int q2), some (.int q3), some (.int xi)] [] (M, sz) (ci K) := by
  intro n
  induction n with
  | zero =>
    intro i xi M h1 ei hR
    refine ok_iload (pc := 93) dX12_sheet_93 rfl ?_
    refine ok_bipush (pc := 95) (v := 40) dX12_sheet_95 (by decide) ?_
    refine ok_icmp_ge (pc := 97) 119 dX12_sheet_97 (by decide) (fun cc_97 => ?_) (fun cc_97 => ?_)
    · have ce_97 := Int32.not_lt.mpr cc_97
      have e9 : i = 40 := by omega
      subst e9
      refine ok_iconst (pc := 119) (v := 1) dX12_sheet_119 (by decide) ?_
      refine ok_iret (pc := 120) dX12_sheet_120 rfl ?_
      exact k _ hR
    · exact absurd (by rw [ei]; exact nI_le (a := 40) (by omega) (by omega)) cc_97
  | succ n ih =>
    intro i xi M h1 ei hR
    refine ok_iload (pc := 93) dX12_sheet_93 rfl ?_
    refine ok_bipush (pc := 95) (v := 40) dX12_sheet_95 (by decide) ?_
    refine ok_icmp_ge (pc := 97) 119 dX12_sheet_97 (by decide) (fun cc_97 => ?_) (fun cc_97 => ?_)
    · rw [ei] at cc_97
      exact absurd cc_97 (nI_ge (b := 40) (by omega) (by decide))
    · have ce_97 := Int32.not_le.mp cc_97
      refine ok_aload_n (pc := 100) dX12_sheet_100 rfl ?_
      refine ok_getf (pc := 101) dX12_sheet_101 fl_X12_59 hR.o rfl ?_
      refine ok_bipush (pc := 104) (v := 40) dX12_sheet_104 (by decide) ?_
      refine ok_iload_n (pc := 106) dX12_sheet_106 rfl ?_
      refine ok_imul (pc := 107) dX12_sheet_107 ?_
      refine ok_iload (pc := 108) dX12_sheet_108 rfl ?_
      refine ok_iadd (pc := 110) dX12_sheet_110 ?_
      refine ok_iconst (pc := 111) (v := 0) dX12_sheet_111 (by decide) ?_
      refine ok_rst23 (pc := 112) (40 * s + i) dX12_sheet_112 hR (by simp only [ex, ei, fa_lit, pk_mul, nI_add]) (by omega) (fun M hR => ?_)
      have ev : va_up (va_up ra0 23 (zfN nu s i)) 23 (upd (va_up ra0 23 (zfN nu s i) 23) (40 * s + i) 0) = va_up ra0 23 (zfN nu s (i + 1)) := by rw [vup_eq, zfN_s]; funext j; unfold va_up; split <;> rfl
      rw [ev] at hR
      refine ok_iinc4 (pc := 113) (v := 1) dX12_sheet_113 (by decide) (by decide) rfl ?_
      refine ok_goto (pc := 116) 93 dX12_sheet_116 (by decide) ?_
      exact ih (i + 1) _ _ (by omega) (by rw [ei, nI_1]) hR

set_option maxHeartbeats 1000000 in
theorem r_sheet {Γ : Cx} {m sz : Nat} {M0 M : Nat → Option va_E} {σ κ vi : Rw} {va : Nat → Rw} {K : Int32 → Wd → Prop} (hW : RefW Γ m M0 σ κ vi va M) (hS : InvS (shV va)) {x y z : Int32} (k : ∀ M', RefW Γ m M0 σ κ vi (shU (eU va (op_sheet (shV va) x y z).1) (op_sheet (shV va) x y z).2.2) M' → K (op_sheet (shV va) x y z).2.1 (M', sz)) : Spec Γ mX12_sheet 2 0 [.ref m, .int x, .int y, .int z] (M, sz) (ci K) := by
  obtain ⟨ri, ra, hR, hv, hw⟩ := hW
  have w1 : ra 21 = (shV va).1 := hw.2.2.1
  have w2 : ra 22 = (shV va).2.1 := hw.2.2.2.1
  have w3 : ra 23 = (shV va).2.2 := hw.2.2.2.2
  
  refine spec_in [some (.ref m), some (.int x), some (.int y), some (.int z), none] 1 (by decide) rfl rfl ?_
  refine ok_iload_n (pc := 0) dX12_sheet_0 rfl ?_
  refine ok_callSi1 (pc := 1) (d' := 1) dX12_sheet_1 sl_X12_338 rfl (by decide) ?_
  refine r_isSheet ?_
  refine ok_if_eq (pc := 4) 29 dX12_sheet_4 (by decide) (fun cc_4 => ?_) (fun cc_4 => ?_)
  · have cq_4 := bI_0.mp cc_4
    refine ok_aload_n (pc := 29) dX12_sheet_29 rfl ?_
    refine ok_ldc (pc := 30) (v := -1000000001) dX12_sheet_30 tw_1205 ?_
    refine ok_callVi1 (pc := 32) (d' := 0) dX12_sheet_32 vl_X12_84 hR.o rfl rfl rfl (by decide) ?_
    refine r_finding hR 1 (by decide) (by decide) (fun M hR => ?_)
    refine ok_iret (pc := 35) dX12_sheet_35 rfl ?_
    have eo : op_sheet (shV va) x y z = ((1, -1000000001, shV va) : OpS) := by
      have hcc : ¬ (wi x 0 3 && isB y) = true := by first | (rw [cq_4]; simp; done) | (simp [isB, cc_8, cc_14, cc_20, cc_26]; done)
      unfold op_sheet
      rw [if_neg hcc]
      rfl
    rw [eo] at k
    exact k _ (RefW.errS 1 (by decide) hR hv hw)
  · have cq_4 := bI_n0.mp cc_4
    refine ok_iload_n (pc := 7) dX12_sheet_7 rfl ?_
    refine ok_if_eq (pc := 8) 36 dX12_sheet_8 (by decide) (fun cc_8 => ?_) (fun cc_8 => ?_)
    · have hb : isB y = true := by first | (simp [isB, cc_8]; done) | (simp [isB, cc_14]; done) | (simp [isB, cc_20]; done) | (simp [isB, cc_26]; done)
      have hcc : (wi x 0 3 && isB y) = true := by rw [cq_4, hb]; rfl
      refine ok_iload_n (pc := 36) dX12_sheet_36 rfl ?_
      refine ok_if_eq (pc := 37) 51 dX12_sheet_37 (by decide) (fun cc_37 => ?_) (fun cc_37 => ?_)
      · refine ok_iload_n (pc := 51) dX12_sheet_51 rfl ?_
        refine ok_if_eq (pc := 52) 68 dX12_sheet_52 (by decide) (fun cc_52 => ?_) (fun cc_52 => ?_)
        · obtain ⟨ex, -, lx⟩ := wi_lit (a := 0) (c := 3) rfl rfl (by decide) (by decide) cq_4
          refine ok_aload_n (pc := 68) dX12_sheet_68 rfl ?_
          refine ok_getf (pc := 69) dX12_sheet_69 fl_X12_53 hR.o rfl ?_
          refine ok_iload_n (pc := 72) dX12_sheet_72 rfl ?_
          refine ok_iload_n (pc := 73) dX12_sheet_73 rfl ?_
          refine ok_rst21 (pc := 74) (iN x) dX12_sheet_74 hR ex (by omega) (fun M hR => ?_)
          refine ok_aload_n (pc := 75) dX12_sheet_75 rfl ?_
          refine ok_getf (pc := 76) dX12_sheet_76 fl_X12_56 hR.o rfl ?_
          refine ok_iload_n (pc := 79) dX12_sheet_79 rfl ?_
          refine ok_iload_n (pc := 80) dX12_sheet_80 rfl ?_
          refine ok_if_ne (pc := 81) 88 dX12_sheet_81 (by decide) (fun cc_81 => ?_) (fun cc_81 => ?_)
          · refine ok_iload_n (pc := 88) dX12_sheet_88 rfl ?_
            refine ok_rst22 (pc := 89) (iN x) dX12_sheet_89 hR ex (by omega) (fun M hR => ?_)
            refine ok_iconst (pc := 90) (v := 0) dX12_sheet_90 (by decide) ?_
            refine ok_istore4 (pc := 91) dX12_sheet_91 (by decide) rfl ?_
            first
              | exact absurd cc_52 cc_37
              | exact absurd cc_37 cc_52
              | exact absurd cc_81 cc_37
              | exact absurd cc_37 cc_81
              | (have hfs : ¬ (y ≠ 0 ∧ z < 0) := by first | exact fun h => h.1 cc_37 | exact fun h => absurd h.2 ce_41
                 have hft : ¬ (y ≠ 0 ∧ 40 < z) := by first | exact fun h => h.1 cc_52 | exact fun h => absurd h.2 ce_58
                 have eo : op_sheet (shV va) x y z = ((0, 1, (upd (shV va).1 (iN x) y, upd (shV va).2.1 (iN x) (if y = 0 then 0 else z), zfN (shV va).2.2 (iN x) 40)) : OpS) := by
                   unfold op_sheet
                   rw [if_pos hcc, if_neg hfs, if_neg hft]
                 rw [eo] at k
                 refine l_sheet (ra0 := va_up (va_up ra 21 (upd (ra 21) (iN x) y)) 22 (upd ((va_up ra 21 (upd (ra 21) (iN x) y)) 22) (iN x) 0)) (iN x) ex (by omega) (shV va).2.2 (fun M hR => k _ (RefW.okS hR hv ⟨by rw [vup_ne (by decide), vup_ne (by decide), vup_ne (by decide)]; exact hw.1, by rw [vup_ne (by decide), vup_ne (by decide), vup_ne (by decide)]; exact hw.2.1, by rw [vup_ne (by decide), vup_ne (by decide), vup_eq, w1], by rw [vup_ne (by decide), vup_eq, vup_ne (by decide), w2]; first | rw [if_pos cc_81] | rw [if_neg cc_81], vup_eq⟩)) 40 0 _ _ (by omega) rfl ?_
                 have ev : va_up (va_up (va_up ra 21 (upd (ra 21) (iN x) y)) 22 (upd ((va_up ra 21 (upd (ra 21) (iN x) y)) 22) (iN x) 0)) 23 (zfN (shV va).2.2 (iN x) 0) = (va_up (va_up ra 21 (upd (ra 21) (iN x) y)) 22 (upd ((va_up ra 21 (upd (ra 21) (iN x) y)) 22) (iN x) 0)) := by
                   rw [zfN_0]
                   funext j
                   show (if j = 23 then _ else _) = _
                   split
                   · rename_i h9; subst h9; rw [vup_ne (by decide), vup_ne (by decide)]; exact w3.symm
                   · rfl
                 rw [ev]
                 exact hR)
              | (have hfs : ¬ (y ≠ 0 ∧ z < 0) := by first | exact fun h => h.1 cc_37 | exact fun h => absurd h.2 ce_41
                 have hft : ¬ (y ≠ 0 ∧ 40 < z) := by first | exact fun h => h.1 cc_52 | exact fun h => absurd h.2 ce_58
                 have eo : op_sheet (shV va) x y z = ((0, 1, (upd (shV va).1 (iN x) y, upd (shV va).2.1 (iN x) (if y = 0 then 0 else z), zfN (shV va).2.2 (iN x) 40)) : OpS) := by
                   unfold op_sheet
                   rw [if_pos hcc, if_neg hfs, if_neg hft]
                 rw [eo] at k
                 refine l_sheet (ra0 := va_up (va_up ra 21 (upd (ra 21) (iN x) y)) 22 (upd ((va_up ra 21 (upd (ra 21) (iN x) y)) 22) (iN x) z)) (iN x) ex (by omega) (shV va).2.2 (fun M hR => k _ (RefW.okS hR hv ⟨by rw [vup_ne (by decide), vup_ne (by decide), vup_ne (by decide)]; exact hw.1, by rw [vup_ne (by decide), vup_ne (by decide), vup_ne (by decide)]; exact hw.2.1, by rw [vup_ne (by decide), vup_ne (by decide), vup_eq, w1], by rw [vup_ne (by decide), vup_eq, vup_ne (by decide), w2]; first | rw [if_pos cc_81] | rw [if_neg cc_81], vup_eq⟩)) 40 0 _ _ (by omega) rfl ?_
                 have ev : va_up (va_up (va_up ra 21 (upd (ra 21) (iN x) y)) 22 (upd ((va_up ra 21 (upd (ra 21) (iN x) y)) 22) (iN x) z)) 23 (zfN (shV va).2.2 (iN x) 0) = (va_up (va_up ra 21 (upd (ra 21) (iN x) y)) 22 (upd ((va_up ra 21 (upd (ra 21) (iN x) y)) 22) (iN x) z)) := by
                   rw [zfN_0]
                   funext j
                   show (if j = 23 then _ else _) = _
                   split
                   · rename_i h9; subst h9; rw [vup_ne (by decide), vup_ne (by decide)]; exact w3.symm
                   · rfl
                 rw [ev]
                 exact hR)
          · refine ok_iconst (pc := 84) (v := 0) dX12_sheet_84 (by decide) ?_
            refine ok_goto (pc := 85) 89 dX12_sheet_85 (by decide) ?_
            refine ok_rst22 (pc := 89) (iN x) dX12_sheet_89 hR ex (by omega) (fun M hR => ?_)
            refine ok_iconst (pc := 90) (v := 0) dX12_sheet_90 (by decide) ?_
            refine ok_istore4 (pc := 91) dX12_sheet_91 (by decide) rfl ?_
            first
              | exact absurd cc_52 cc_37
              | exact absurd cc_37 cc_52
              | exact absurd cc_81 cc_37
              | exact absurd cc_37 cc_81
              | (have hfs : ¬ (y ≠ 0 ∧ z < 0) := by first | exact fun h => h.1 cc_37 | exact fun h => absurd h.2 ce_41
                 have hft : ¬ (y ≠ 0 ∧ 40 < z) := by first | exact fun h => h.1 cc_52 | exact fun h => absurd h.2 ce_58
                 have eo : op_sheet (shV va) x y z = ((0, 1, (upd (shV va).1 (iN x) y, upd (shV va).2.1 (iN x) (if y = 0 then 0 else z), zfN (shV va).2.2 (iN x) 40)) : OpS) := by
                   unfold op_sheet
                   rw [if_pos hcc, if_neg hfs, if_neg hft]
                 rw [eo] at k
                 refine l_sheet (ra0 := va_up (va_up ra 21 (upd (ra 21) (iN x) y)) 22 (upd ((va_up ra 21 (upd (ra 21) (iN x) y)) 22) (iN x) 0)) (iN x) ex (by omega) (shV va).2.2 (fun M hR => k _ (RefW.okS hR hv ⟨by rw [vup_ne (by decide), vup_ne (by decide), vup_ne (by decide)]; exact hw.1, by rw [vup_ne (by decide), vup_ne (by decide), vup_ne (by decide)]; exact hw.2.1, by rw [vup_ne (by decide), vup_ne (by decide), vup_eq, w1], by rw [vup_ne (by decide), vup_eq, vup_ne (by decide), w2]; first | rw [if_pos cc_81] | rw [if_neg cc_81], vup_eq⟩)) 40 0 _ _ (by omega) rfl ?_
                 have ev : va_up (va_up (va_up ra 21 (upd (ra 21) (iN x) y)) 22 (upd ((va_up ra 21 (upd (ra 21) (iN x) y)) 22) (iN x) 0)) 23 (zfN (shV va).2.2 (iN x) 0) = (va_up (va_up ra 21 (upd (ra 21) (iN x) y)) 22 (upd ((va_up ra 21 (upd (ra 21) (iN x) y)) 22) (iN x) 0)) := by
                   rw [zfN_0]
                   funext j
                   show (if j = 23 then _ else _) = _
                   split
                   · rename_i h9; subst h9; rw [vup_ne (by decide), vup_ne (by decide)]; exact w3.symm
                   · rfl
                 rw [ev]
                 exact hR)
              | (have hfs : ¬ (y ≠ 0 ∧ z < 0) := by first | exact fun h => h.1 cc_37 | exact fun h => absurd h.2 ce_41
                 have hft : ¬ (y ≠ 0 ∧ 40 < z) := by first | exact fun h => h.1 cc_52 | exact fun h => absurd h.2 ce_58
                 have eo : op_sheet (shV va) x y z = ((0, 1, (upd (shV va).1 (iN x) y, upd (shV va).2.1 (iN x) (if y = 0 then 0 else z), zfN (shV va).2.2 (iN x) 40)) : OpS) := by
                   unfold op_sheet
                   rw [if_pos hcc, if_neg hfs, if_neg hft]
                 rw [eo] at k
                 refine l_sheet (ra0 := va_up (va_up ra 21 (upd (ra 21) (iN x) y)) 22 (upd ((va_up ra 21 (upd (ra 21) (iN x) y)) 22) (iN x) z)) (iN x) ex (by omega) (shV va).2.2 (fun M hR => k _ (RefW.okS hR hv ⟨by rw [vup_ne (by decide), vup_ne (by decide), vup_ne (by decide)]; exact hw.1, by rw [vup_ne (by decide), vup_ne (by decide), vup_ne (by decide)]; exact hw.2.1, by rw [vup_ne (by decide), vup_ne (by decide), vup_eq, w1], by rw [vup_ne (by decide), vup_eq, vup_ne (by decide), w2]; first | rw [if_pos cc_81] | rw [if_neg cc_81], vup_eq⟩)) 40 0 _ _ (by omega) rfl ?_
                 have ev : va_up (va_up (va_up ra 21 (upd (ra 21) (iN x) y)) 22 (upd ((va_up ra 21 (upd (ra 21) (iN x) y)) 22) (iN x) z)) 23 (zfN (shV va).2.2 (iN x) 0) = (va_up (va_up ra 21 (upd (ra 21) (iN x) y)) 22 (upd ((va_up ra 21 (upd (ra 21) (iN x) y)) 22) (iN x) z)) := by
                   rw [zfN_0]
                   funext j
                   show (if j = 23 then _ else _) = _
                   split
                   · rename_i h9; subst h9; rw [vup_ne (by decide), vup_ne (by decide)]; exact w3.symm
                   · rfl
                 rw [ev]
                 exact hR)
        · refine ok_iload_n (pc := 55) dX12_sheet_55 rfl ?_
          refine ok_bipush (pc := 56) (v := 40) dX12_sheet_56 (by decide) ?_
          refine ok_icmp_le (pc := 58) 68 dX12_sheet_58 (by decide) (fun cc_58 => ?_) (fun cc_58 => ?_)
          · have ce_58 := Int32.not_lt.mpr cc_58
            obtain ⟨ex, -, lx⟩ := wi_lit (a := 0) (c := 3) rfl rfl (by decide) (by decide) cq_4
            refine ok_aload_n (pc := 68) dX12_sheet_68 rfl ?_
            refine ok_getf (pc := 69) dX12_sheet_69 fl_X12_53 hR.o rfl ?_
            refine ok_iload_n (pc := 72) dX12_sheet_72 rfl ?_
            refine ok_iload_n (pc := 73) dX12_sheet_73 rfl ?_
            refine ok_rst21 (pc := 74) (iN x) dX12_sheet_74 hR ex (by omega) (fun M hR => ?_)
            refine ok_aload_n (pc := 75) dX12_sheet_75 rfl ?_
            refine ok_getf (pc := 76) dX12_sheet_76 fl_X12_56 hR.o rfl ?_
            refine ok_iload_n (pc := 79) dX12_sheet_79 rfl ?_
            refine ok_iload_n (pc := 80) dX12_sheet_80 rfl ?_
            refine ok_if_ne (pc := 81) 88 dX12_sheet_81 (by decide) (fun cc_81 => ?_) (fun cc_81 => ?_)
            · refine ok_iload_n (pc := 88) dX12_sheet_88 rfl ?_
              refine ok_rst22 (pc := 89) (iN x) dX12_sheet_89 hR ex (by omega) (fun M hR => ?_)
              refine ok_iconst (pc := 90) (v := 0) dX12_sheet_90 (by decide) ?_
              refine ok_istore4 (pc := 91) dX12_sheet_91 (by decide) rfl ?_
              first
                | exact absurd cc_52 cc_37
                | exact absurd cc_37 cc_52
                | exact absurd cc_81 cc_37
                | exact absurd cc_37 cc_81
                | (have hfs : ¬ (y ≠ 0 ∧ z < 0) := by first | exact fun h => h.1 cc_37 | exact fun h => absurd h.2 ce_41
                   have hft : ¬ (y ≠ 0 ∧ 40 < z) := by first | exact fun h => h.1 cc_52 | exact fun h => absurd h.2 ce_58
                   have eo : op_sheet (shV va) x y z = ((0, 1, (upd (shV va).1 (iN x) y, upd (shV va).2.1 (iN x) (if y = 0 then 0 else z), zfN (shV va).2.2 (iN x) 40)) : OpS) := by
                     unfold op_sheet
                     rw [if_pos hcc, if_neg hfs, if_neg hft]
                   rw [eo] at k
                   refine l_sheet (ra0 := va_up (va_up ra 21 (upd (ra 21) (iN x) y)) 22 (upd ((va_up ra 21 (upd (ra 21) (iN x) y)) 22) (iN x) 0)) (iN x) ex (by omega) (shV va).2.2 (fun M hR => k _ (RefW.okS hR hv ⟨by rw [vup_ne (by decide), vup_ne (by decide), vup_ne (by decide)]; exact hw.1, by rw [vup_ne (by decide), vup_ne (by decide), vup_ne (by decide)]; exact hw.2.1, by rw [vup_ne (by decide), vup_ne (by decide), vup_eq, w1], by rw [vup_ne (by decide), vup_eq, vup_ne (by decide), w2]; first | rw [if_pos cc_81] | rw [if_neg cc_81], vup_eq⟩)) 40 0 _ _ (by omega) rfl ?_
                   have ev : va_up (va_up (va_up ra 21 (upd (ra 21) (iN x) y)) 22 (upd ((va_up ra 21 (upd (ra 21) (iN x) y)) 22) (iN x) 0)) 23 (zfN (shV va).2.2 (iN x) 0) = (va_up (va_up ra 21 (upd (ra 21) (iN x) y)) 22 (upd ((va_up ra 21 (upd (ra 21) (iN x) y)) 22) (iN x) 0)) := by
                     rw [zfN_0]
                     funext j
                     show (if j = 23 then _ else _) = _
                     split
                     · rename_i h9; subst h9; rw [vup_ne (by decide), vup_ne (by decide)]; exact w3.symm
                     · rfl
                   rw [ev]
                   exact hR)
                | (have hfs : ¬ (y ≠ 0 ∧ z < 0) := by first | exact fun h => h.1 cc_37 | exact fun h => absurd h.2 ce_41
                   have hft : ¬ (y ≠ 0 ∧ 40 < z) := by first | exact fun h => h.1 cc_52 | exact fun h => absurd h.2 ce_58
                   have eo : op_sheet (shV va) x y z = ((0, 1, (upd (shV va).1 (iN x) y, upd (shV va).2.1 (iN x) (if y = 0 then 0 else z), zfN (shV va).2.2 (iN x) 40)) : OpS) := by
                     unfold op_sheet
                     rw [if_pos hcc, if_neg hfs, if_neg hft]
                   rw [eo] at k
                   refine l_sheet (ra0 := va_up (va_up ra 21 (upd (ra 21) (iN x) y)) 22 (upd ((va_up ra 21 (upd (ra 21) (iN x) y)) 22) (iN x) z)) (iN x) ex (by omega) (shV va).2.2 (fun M hR => k _ (RefW.okS hR hv ⟨by rw [vup_ne (by decide), vup_ne (by decide), vup_ne (by decide)]; exact hw.1, by rw [vup_ne (by decide), vup_ne (by decide), vup_ne (by decide)]; exact hw.2.1, by rw [vup_ne (by decide), vup_ne (by decide), vup_eq, w1], by rw [vup_ne (by decide), vup_eq, vup_ne (by decide), w2]; first | rw [if_pos cc_81] | rw [if_neg cc_81], vup_eq⟩)) 40 0 _ _ (by omega) rfl ?_
                   have ev : va_up (va_up (va_up ra 21 (upd (ra 21) (iN x) y)) 22 (upd ((va_up ra 21 (upd (ra 21) (iN x) y)) 22) (iN x) z)) 23 (zfN (shV va).2.2 (iN x) 0) = (va_up (va_up ra 21 (upd (ra 21) (iN x) y)) 22 (upd ((va_up ra 21 (upd (ra 21) (iN x) y)) 22) (iN x) z)) := by
                     rw [zfN_0]
                     funext j
                     show (if j = 23 then _ else _) = _
                     split
                     · rename_i h9; subst h9; rw [vup_ne (by decide), vup_ne (by decide)]; exact w3.symm
                     · rfl
                   rw [ev]
                   exact hR)
            · refine ok_iconst (pc := 84) (v := 0) dX12_sheet_84 (by decide) ?_
              refine ok_goto (pc := 85) 89 dX12_sheet_85 (by decide) ?_
              refine ok_rst22 (pc := 89) (iN x) dX12_sheet_89 hR ex (by omega) (fun M hR => ?_)
              refine ok_iconst (pc := 90) (v := 0) dX12_sheet_90 (by decide) ?_
              refine ok_istore4 (pc := 91) dX12_sheet_91 (by decide) rfl ?_
              first
                | exact absurd cc_52 cc_37
                | exact absurd cc_37 cc_52
                | exact absurd cc_81 cc_37
                | exact absurd cc_37 cc_81
                | (have hfs : ¬ (y ≠ 0 ∧ z < 0) := by first | exact fun h => h.1 cc_37 | exact fun h => absurd h.2 ce_41
                   have hft : ¬ (y ≠ 0 ∧ 40 < z) := by first | exact fun h => h.1 cc_52 | exact fun h => absurd h.2 ce_58
                   have eo : op_sheet (shV va) x y z = ((0, 1, (upd (shV va).1 (iN x) y, upd (shV va).2.1 (iN x) (if y = 0 then 0 else z), zfN (shV va).2.2 (iN x) 40)) : OpS) := by
                     unfold op_sheet
                     rw [if_pos hcc, if_neg hfs, if_neg hft]
                   rw [eo] at k
                   refine l_sheet (ra0 := va_up (va_up ra 21 (upd (ra 21) (iN x) y)) 22 (upd ((va_up ra 21 (upd (ra 21) (iN x) y)) 22) (iN x) 0)) (iN x) ex (by omega) (shV va).2.2 (fun M hR => k _ (RefW.okS hR hv ⟨by rw [vup_ne (by decide), vup_ne (by decide), vup_ne (by decide)]; exact hw.1, by rw [vup_ne (by decide), vup_ne (by decide), vup_ne (by decide)]; exact hw.2.1, by rw [vup_ne (by decide), vup_ne (by decide), vup_eq, w1], by rw [vup_ne (by decide), vup_eq, vup_ne (by decide), w2]; first | rw [if_pos cc_81] | rw [if_neg cc_81], vup_eq⟩)) 40 0 _ _ (by omega) rfl ?_
                   have ev : va_up (va_up (va_up ra 21 (upd (ra 21) (iN x) y)) 22 (upd ((va_up ra 21 (upd (ra 21) (iN x) y)) 22) (iN x) 0)) 23 (zfN (shV va).2.2 (iN x) 0) = (va_up (va_up ra 21 (upd (ra 21) (iN x) y)) 22 (upd ((va_up ra 21 (upd (ra 21) (iN x) y)) 22) (iN x) 0)) := by
                     rw [zfN_0]
                     funext j
                     show (if j = 23 then _ else _) = _
                     split
                     · rename_i h9; subst h9; rw [vup_ne (by decide), vup_ne (by decide)]; exact w3.symm
                     · rfl
                   rw [ev]
                   exact hR)
                | (have hfs : ¬ (y ≠ 0 ∧ z < 0) := by first | exact fun h => h.1 cc_37 | exact fun h => absurd h.2 ce_41
                   have hft : ¬ (y ≠ 0 ∧ 40 < z) := by first | exact fun h => h.1 cc_52 | exact fun h => absurd h.2 ce_58
                   have eo : op_sheet (shV va) x y z = ((0, 1, (upd (shV va).1 (iN x) y, upd (shV va).2.1 (iN x) (if y = 0 then 0 else z), zfN (shV va).2.2 (iN x) 40)) : OpS) := by
                     unfold op_sheet
                     rw [if_pos hcc, if_neg hfs, if_neg hft]
                   rw [eo] at k
                   refine l_sheet (ra0 := va_up (va_up ra 21 (upd (ra 21) (iN x) y)) 22 (upd ((va_up ra 21 (upd (ra 21) (iN x) y)) 22) (iN x) z)) (iN x) ex (by omega) (shV va).2.2 (fun M hR => k _ (RefW.okS hR hv ⟨by rw [vup_ne (by decide), vup_ne (by decide), vup_ne (by decide)]; exact hw.1, by rw [vup_ne (by decide), vup_ne (by decide), vup_ne (by decide)]; exact hw.2.1, by rw [vup_ne (by decide), vup_ne (by decide), vup_eq, w1], by rw [vup_ne (by decide), vup_eq, vup_ne (by decide), w2]; first | rw [if_pos cc_81] | rw [if_neg cc_81], vup_eq⟩)) 40 0 _ _ (by omega) rfl ?_
                   have ev : va_up (va_up (va_up ra 21 (upd (ra 21) (iN x) y)) 22 (upd ((va_up ra 21 (upd (ra 21) (iN x) y)) 22) (iN x) z)) 23 (zfN (shV va).2.2 (iN x) 0) = (va_up (va_up ra 21 (upd (ra 21) (iN x) y)) 22 (upd ((va_up ra 21 (upd (ra 21) (iN x) y)) 22) (iN x) z)) := by
                     rw [zfN_0]
                     funext j
                     show (if j = 23 then _ else _) = _
                     split
                     · rename_i h9; subst h9; rw [vup_ne (by decide), vup_ne (by decide)]; exact w3.symm
                     · rfl
                   rw [ev]
                   exact hR)
          · have ce_58 := Int32.not_le.mp cc_58
            refine ok_aload_n (pc := 61) dX12_sheet_61 rfl ?_
            refine ok_ldc (pc := 62) (v := -1000000001) dX12_sheet_62 tw_1205 ?_
            refine ok_callVi1 (pc := 64) (d' := 0) dX12_sheet_64 vl_X12_84 hR.o rfl rfl rfl (by decide) ?_
            refine r_finding hR 1 (by decide) (by decide) (fun M hR => ?_)
            refine ok_iret (pc := 67) dX12_sheet_67 rfl ?_
            first
              | exact absurd cc_37 cc_52
              | (have eo : op_sheet (shV va) x y z = ((1, -1000000001, shV va) : OpS) := by
                   unfold op_sheet
                   rw [if_pos hcc, if_neg (fun h => absurd h.2 ce_41), if_pos ⟨cc_52, ce_58⟩]
                   rfl
                 rw [eo] at k
                 exact k _ (RefW.errS 1 (by decide) hR hv hw))
      · refine ok_iload_n (pc := 40) dX12_sheet_40 rfl ?_
        refine ok_if_ge (pc := 41) 51 dX12_sheet_41 (by decide) (fun cc_41 => ?_) (fun cc_41 => ?_)
        · have ce_41 := Int32.not_lt.mpr cc_41
          refine ok_iload_n (pc := 51) dX12_sheet_51 rfl ?_
          refine ok_if_eq (pc := 52) 68 dX12_sheet_52 (by decide) (fun cc_52 => ?_) (fun cc_52 => ?_)
          · obtain ⟨ex, -, lx⟩ := wi_lit (a := 0) (c := 3) rfl rfl (by decide) (by decide) cq_4
            refine ok_aload_n (pc := 68) dX12_sheet_68 rfl ?_
            refine ok_getf (pc := 69) dX12_sheet_69 fl_X12_53 hR.o rfl ?_
            refine ok_iload_n (pc := 72) dX12_sheet_72 rfl ?_
            refine ok_iload_n (pc := 73) dX12_sheet_73 rfl ?_
            refine ok_rst21 (pc := 74) (iN x) dX12_sheet_74 hR ex (by omega) (fun M hR => ?_)
            refine ok_aload_n (pc := 75) dX12_sheet_75 rfl ?_
            refine ok_getf (pc := 76) dX12_sheet_76 fl_X12_56 hR.o rfl ?_
            refine ok_iload_n (pc := 79) dX12_sheet_79 rfl ?_
            refine ok_iload_n (pc := 80) dX12_sheet_80 rfl ?_
            refine ok_if_ne (pc := 81) 88 dX12_sheet_81 (by decide) (fun cc_81 => ?_) (fun cc_81 => ?_)
            · refine ok_iload_n (pc := 88) dX12_sheet_88 rfl ?_
              refine ok_rst22 (pc := 89) (iN x) dX12_sheet_89 hR ex (by omega) (fun M hR => ?_)
              refine ok_iconst (pc := 90) (v := 0) dX12_sheet_90 (by decide) ?_
              refine ok_istore4 (pc := 91) dX12_sheet_91 (by decide) rfl ?_
              first
                | exact absurd cc_52 cc_37
                | exact absurd cc_37 cc_52
                | exact absurd cc_81 cc_37
                | exact absurd cc_37 cc_81
                | (have hfs : ¬ (y ≠ 0 ∧ z < 0) := by first | exact fun h => h.1 cc_37 | exact fun h => absurd h.2 ce_41
                   have hft : ¬ (y ≠ 0 ∧ 40 < z) := by first | exact fun h => h.1 cc_52 | exact fun h => absurd h.2 ce_58
                   have eo : op_sheet (shV va) x y z = ((0, 1, (upd (shV va).1 (iN x) y, upd (shV va).2.1 (iN x) (if y = 0 then 0 else z), zfN (shV va).2.2 (iN x) 40)) : OpS) := by
                     unfold op_sheet
                     rw [if_pos hcc, if_neg hfs, if_neg hft]
                   rw [eo] at k
                   refine l_sheet (ra0 := va_up (va_up ra 21 (upd (ra 21) (iN x) y)) 22 (upd ((va_up ra 21 (upd (ra 21) (iN x) y)) 22) (iN x) 0)) (iN x) ex (by omega) (shV va).2.2 (fun M hR => k _ (RefW.okS hR hv ⟨by rw [vup_ne (by decide), vup_ne (by decide), vup_ne (by decide)]; exact hw.1, by rw [vup_ne (by decide), vup_ne (by decide), vup_ne (by decide)]; exact hw.2.1, by rw [vup_ne (by decide), vup_ne (by decide), vup_eq, w1], by rw [vup_ne (by decide), vup_eq, vup_ne (by decide), w2]; first | rw [if_pos cc_81] | rw [if_neg cc_81], vup_eq⟩)) 40 0 _ _ (by omega) rfl ?_
                   have ev : va_up (va_up (va_up ra 21 (upd (ra 21) (iN x) y)) 22 (upd ((va_up ra 21 (upd (ra 21) (iN x) y)) 22) (iN x) 0)) 23 (zfN (shV va).2.2 (iN x) 0) = (va_up (va_up ra 21 (upd (ra 21) (iN x) y)) 22 (upd ((va_up ra 21 (upd (ra 21) (iN x) y)) 22) (iN x) 0)) := by
                     rw [zfN_0]
                     funext j
                     show (if j = 23 then _ else _) = _
                     split
                     · rename_i h9; subst h9; rw [vup_ne (by decide), vup_ne (by decide)]; exact w3.symm
                     · rfl
                   rw [ev]
                   exact hR)
                | (have hfs : ¬ (y ≠ 0 ∧ z < 0) := by first | exact fun h => h.1 cc_37 | exact fun h => absurd h.2 ce_41
                   have hft : ¬ (y ≠ 0 ∧ 40 < z) := by first | exact fun h => h.1 cc_52 | exact fun h => absurd h.2 ce_58
                   have eo : op_sheet (shV va) x y z = ((0, 1, (upd (shV va).1 (iN x) y, upd (shV va).2.1 (iN x) (if y = 0 then 0 else z), zfN (shV va).2.2 (iN x) 40)) : OpS) := by
                     unfold op_sheet
                     rw [if_pos hcc, if_neg hfs, if_neg hft]
                   rw [eo] at k
                   refine l_sheet (ra0 := va_up (va_up ra 21 (upd (ra 21) (iN x) y)) 22 (upd ((va_up ra 21 (upd (ra 21) (iN x) y)) 22) (iN x) z)) (iN x) ex (by omega) (shV va).2.2 (fun M hR => k _ (RefW.okS hR hv ⟨by rw [vup_ne (by decide), vup_ne (by decide), vup_ne (by decide)]; exact hw.1, by rw [vup_ne (by decide), vup_ne (by decide), vup_ne (by decide)]; exact hw.2.1, by rw [vup_ne (by decide), vup_ne (by decide), vup_eq, w1], by rw [vup_ne (by decide), vup_eq, vup_ne (by decide), w2]; first | rw [if_pos cc_81] | rw [if_neg cc_81], vup_eq⟩)) 40 0 _ _ (by omega) rfl ?_
                   have ev : va_up (va_up (va_up ra 21 (upd (ra 21) (iN x) y)) 22 (upd ((va_up ra 21 (upd (ra 21) (iN x) y)) 22) (iN x) z)) 23 (zfN (shV va).2.2 (iN x) 0) = (va_up (va_up ra 21 (upd (ra 21) (iN x) y)) 22 (upd ((va_up ra 21 (upd (ra 21) (iN x) y)) 22) (iN x) z)) := by
                     rw [zfN_0]
                     funext j
                     show (if j = 23 then _ else _) = _
                     split
                     · rename_i h9; subst h9; rw [vup_ne (by decide), vup_ne (by decide)]; exact w3.symm
                     · rfl
                   rw [ev]
                   exact hR)
            · refine ok_iconst (pc := 84) (v := 0) dX12_sheet_84 (by decide) ?_
              refine ok_goto (pc := 85) 89 dX12_sheet_85 (by decide) ?_
              refine ok_rst22 (pc := 89) (iN x) dX12_sheet_89 hR ex (by omega) (fun M hR => ?_)
              refine ok_iconst (pc := 90) (v := 0) dX12_sheet_90 (by decide) ?_
              refine ok_istore4 (pc := 91) dX12_sheet_91 (by decide) rfl ?_
              first
                | exact absurd cc_52 cc_37
                | exact absurd cc_37 cc_52
                | exact absurd cc_81 cc_37
                | exact absurd cc_37 cc_81
                | (have hfs : ¬ (y ≠ 0 ∧ z < 0) := by first | exact fun h => h.1 cc_37 | exact fun h => absurd h.2 ce_41
                   have hft : ¬ (y ≠ 0 ∧ 40 < z) := by first | exact fun h => h.1 cc_52 | exact fun h => absurd h.2 ce_58
                   have eo : op_sheet (shV va) x y z = ((0, 1, (upd (shV va).1 (iN x) y, upd (shV va).2.1 (iN x) (if y = 0 then 0 else z), zfN (shV va).2.2 (iN x) 40)) : OpS) := by
                     unfold op_sheet
                     rw [if_pos hcc, if_neg hfs, if_neg hft]
                   rw [eo] at k
                   refine l_sheet (ra0 := va_up (va_up ra 21 (upd (ra 21) (iN x) y)) 22 (upd ((va_up ra 21 (upd (ra 21) (iN x) y)) 22) (iN x) 0)) (iN x) ex (by omega) (shV va).2.2 (fun M hR => k _ (RefW.okS hR hv ⟨by rw [vup_ne (by decide), vup_ne (by decide), vup_ne (by decide)]; exact hw.1, by rw [vup_ne (by decide), vup_ne (by decide), vup_ne (by decide)]; exact hw.2.1, by rw [vup_ne (by decide), vup_ne (by decide), vup_eq, w1], by rw [vup_ne (by decide), vup_eq, vup_ne (by decide), w2]; first | rw [if_pos cc_81] | rw [if_neg cc_81], vup_eq⟩)) 40 0 _ _ (by omega) rfl ?_
                   have ev : va_up (va_up (va_up ra 21 (upd (ra 21) (iN x) y)) 22 (upd ((va_up ra 21 (upd (ra 21) (iN x) y)) 22) (iN x) 0)) 23 (zfN (shV va).2.2 (iN x) 0) = (va_up (va_up ra 21 (upd (ra 21) (iN x) y)) 22 (upd ((va_up ra 21 (upd (ra 21) (iN x) y)) 22) (iN x) 0)) := by
                     rw [zfN_0]
                     funext j
                     show (if j = 23 then _ else _) = _
                     split
                     · rename_i h9; subst h9; rw [vup_ne (by decide), vup_ne (by decide)]; exact w3.symm
                     · rfl
                   rw [ev]
                   exact hR)
                | (have hfs : ¬ (y ≠ 0 ∧ z < 0) := by first | exact fun h => h.1 cc_37 | exact fun h => absurd h.2 ce_41
                   have hft : ¬ (y ≠ 0 ∧ 40 < z) := by first | exact fun h => h.1 cc_52 | exact fun h => absurd h.2 ce_58
                   have eo : op_sheet (shV va) x y z = ((0, 1, (upd (shV va).1 (iN x) y, upd (shV va).2.1 (iN x) (if y = 0 then 0 else z), zfN (shV va).2.2 (iN x) 40)) : OpS) := by
                     unfold op_sheet
                     rw [if_pos hcc, if_neg hfs, if_neg hft]
                   rw [eo] at k
                   refine l_sheet (ra0 := va_up (va_up ra 21 (upd (ra 21) (iN x) y)) 22 (upd ((va_up ra 21 (upd (ra 21) (iN x) y)) 22) (iN x) z)) (iN x) ex (by omega) (shV va).2.2 (fun M hR => k _ (RefW.okS hR hv ⟨by rw [vup_ne (by decide), vup_ne (by decide), vup_ne (by decide)]; exact hw.1, by rw [vup_ne (by decide), vup_ne (by decide), vup_ne (by decide)]; exact hw.2.1, by rw [vup_ne (by decide), vup_ne (by decide), vup_eq, w1], by rw [vup_ne (by decide), vup_eq, vup_ne (by decide), w2]; first | rw [if_pos cc_81] | rw [if_neg cc_81], vup_eq⟩)) 40 0 _ _ (by omega) rfl ?_
                   have ev : va_up (va_up (va_up ra 21 (upd (ra 21) (iN x) y)) 22 (upd ((va_up ra 21 (upd (ra 21) (iN x) y)) 22) (iN x) z)) 23 (zfN (shV va).2.2 (iN x) 0) = (va_up (va_up ra 21 (upd (ra 21) (iN x) y)) 22 (upd ((va_up ra 21 (upd (ra 21) (iN x) y)) 22) (iN x) z)) := by
                     rw [zfN_0]
                     funext j
                     show (if j = 23 then _ else _) = _
                     split
                     · rename_i h9; subst h9; rw [vup_ne (by decide), vup_ne (by decide)]; exact w3.symm
                     · rfl
                   rw [ev]
                   exact hR)
          · refine ok_iload_n (pc := 55) dX12_sheet_55 rfl ?_
            refine ok_bipush (pc := 56) (v := 40) dX12_sheet_56 (by decide) ?_
            refine ok_icmp_le (pc := 58) 68 dX12_sheet_58 (by decide) (fun cc_58 => ?_) (fun cc_58 => ?_)
            · have ce_58 := Int32.not_lt.mpr cc_58
              obtain ⟨ex, -, lx⟩ := wi_lit (a := 0) (c := 3) rfl rfl (by decide) (by decide) cq_4
              refine ok_aload_n (pc := 68) dX12_sheet_68 rfl ?_
              refine ok_getf (pc := 69) dX12_sheet_69 fl_X12_53 hR.o rfl ?_
              refine ok_iload_n (pc := 72) dX12_sheet_72 rfl ?_
              refine ok_iload_n (pc := 73) dX12_sheet_73 rfl ?_
              refine ok_rst21 (pc := 74) (iN x) dX12_sheet_74 hR ex (by omega) (fun M hR => ?_)
              refine ok_aload_n (pc := 75) dX12_sheet_75 rfl ?_
              refine ok_getf (pc := 76) dX12_sheet_76 fl_X12_56 hR.o rfl ?_
              refine ok_iload_n (pc := 79) dX12_sheet_79 rfl ?_
              refine ok_iload_n (pc := 80) dX12_sheet_80 rfl ?_
              refine ok_if_ne (pc := 81) 88 dX12_sheet_81 (by decide) (fun cc_81 => ?_) (fun cc_81 => ?_)
              · refine ok_iload_n (pc := 88) dX12_sheet_88 rfl ?_
                refine ok_rst22 (pc := 89) (iN x) dX12_sheet_89 hR ex (by omega) (fun M hR => ?_)
                refine ok_iconst (pc := 90) (v := 0) dX12_sheet_90 (by decide) ?_
                refine ok_istore4 (pc := 91) dX12_sheet_91 (by decide) rfl ?_
                first
                  | exact absurd cc_52 cc_37
                  | exact absurd cc_37 cc_52
                  | exact absurd cc_81 cc_37
                  | exact absurd cc_37 cc_81
                  | (have hfs : ¬ (y ≠ 0 ∧ z < 0) := by first | exact fun h => h.1 cc_37 | exact fun h => absurd h.2 ce_41
                     have hft : ¬ (y ≠ 0 ∧ 40 < z) := by first | exact fun h => h.1 cc_52 | exact fun h => absurd h.2 ce_58
                     have eo : op_sheet (shV va) x y z = ((0, 1, (upd (shV va).1 (iN x) y, upd (shV va).2.1 (iN x) (if y = 0 then 0 else z), zfN (shV va).2.2 (iN x) 40)) : OpS) := by
                       unfold op_sheet
                       rw [if_pos hcc, if_neg hfs, if_neg hft]
                     rw [eo] at k
                     refine l_sheet (ra0 := va_up (va_up ra 21 (upd (ra 21) (iN x) y)) 22 (upd ((va_up ra 21 (upd (ra 21) (iN x) y)) 22) (iN x) 0)) (iN x) ex (by omega) (shV va).2.2 (fun M hR => k _ (RefW.okS hR hv ⟨by rw [vup_ne (by decide), vup_ne (by decide), vup_ne (by decide)]; exact hw.1, by rw [vup_ne (by decide), vup_ne (by decide), vup_ne (by decide)]; exact hw.2.1, by rw [vup_ne (by decide), vup_ne (by decide), vup_eq, w1], by rw [vup_ne (by decide), vup_eq, vup_ne (by decide), w2]; first | rw [if_pos cc_81] | rw [if_neg cc_81], vup_eq⟩)) 40 0 _ _ (by omega) rfl ?_
                     have ev : va_up (va_up (va_up ra 21 (upd (ra 21) (iN x) y)) 22 (upd ((va_up ra 21 (upd (ra 21) (iN x) y)) 22) (iN x) 0)) 23 (zfN (shV va).2.2 (iN x) 0) = (va_up (va_up ra 21 (upd (ra 21) (iN x) y)) 22 (upd ((va_up ra 21 (upd (ra 21) (iN x) y)) 22) (iN x) 0)) := by
                       rw [zfN_0]
                       funext j
                       show (if j = 23 then _ else _) = _
                       split
                       · rename_i h9; subst h9; rw [vup_ne (by decide), vup_ne (by decide)]; exact w3.symm
                       · rfl
                     rw [ev]
                     exact hR)
                  | (have hfs : ¬ (y ≠ 0 ∧ z < 0) := by first | exact fun h => h.1 cc_37 | exact fun h => absurd h.2 ce_41
                     have hft : ¬ (y ≠ 0 ∧ 40 < z) := by first | exact fun h => h.1 cc_52 | exact fun h => absurd h.2 ce_58
                     have eo : op_sheet (shV va) x y z = ((0, 1, (upd (shV va).1 (iN x) y, upd (shV va).2.1 (iN x) (if y = 0 then 0 else z), zfN (shV va).2.2 (iN x) 40)) : OpS) := by
                       unfold op_sheet
                       rw [if_pos hcc, if_neg hfs, if_neg hft]
                     rw [eo] at k
                     refine l_sheet (ra0 := va_up (va_up ra 21 (upd (ra 21) (iN x) y)) 22 (upd ((va_up ra 21 (upd (ra 21) (iN x) y)) 22) (iN x) z)) (iN x) ex (by omega) (shV va).2.2 (fun M hR => k _ (RefW.okS hR hv ⟨by rw [vup_ne (by decide), vup_ne (by decide), vup_ne (by decide)]; exact hw.1, by rw [vup_ne (by decide), vup_ne (by decide), vup_ne (by decide)]; exact hw.2.1, by rw [vup_ne (by decide), vup_ne (by decide), vup_eq, w1], by rw [vup_ne (by decide), vup_eq, vup_ne (by decide), w2]; first | rw [if_pos cc_81] | rw [if_neg cc_81], vup_eq⟩)) 40 0 _ _ (by omega) rfl ?_
                     have ev : va_up (va_up (va_up ra 21 (upd (ra 21) (iN x) y)) 22 (upd ((va_up ra 21 (upd (ra 21) (iN x) y)) 22) (iN x) z)) 23 (zfN (shV va).2.2 (iN x) 0) = (va_up (va_up ra 21 (upd (ra 21) (iN x) y)) 22 (upd ((va_up ra 21 (upd (ra 21) (iN x) y)) 22) (iN x) z)) := by
                       rw [zfN_0]
                       funext j
                       show (if j = 23 then _ else _) = _
                       split
                       · rename_i h9; subst h9; rw [vup_ne (by decide), vup_ne (by decide)]; exact w3.symm
                       · rfl
                     rw [ev]
                     exact hR)
              · refine ok_iconst (pc := 84) (v := 0) dX12_sheet_84 (by decide) ?_
                refine ok_goto (pc := 85) 89 dX12_sheet_85 (by decide) ?_
                refine ok_rst22 (pc := 89) (iN x) dX12_sheet_89 hR ex (by omega) (fun M hR => ?_)
                refine ok_iconst (pc := 90) (v := 0) dX12_sheet_90 (by decide) ?_
                refine ok_istore4 (pc := 91) dX12_sheet_91 (by decide) rfl ?_
                first
                  | exact absurd cc_52 cc_37
                  | exact absurd cc_37 cc_52
                  | exact absurd cc_81 cc_37
                  | exact absurd cc_37 cc_81
                  | (have hfs : ¬ (y ≠ 0 ∧ z < 0) := by first | exact fun h => h.1 cc_37 | exact fun h => absurd h.2 ce_41
                     have hft : ¬ (y ≠ 0 ∧ 40 < z) := by first | exact fun h => h.1 cc_52 | exact fun h => absurd h.2 ce_58
                     have eo : op_sheet (shV va) x y z = ((0, 1, (upd (shV va).1 (iN x) y, upd (shV va).2.1 (iN x) (if y = 0 then 0 else z), zfN (shV va).2.2 (iN x) 40)) : OpS) := by
                       unfold op_sheet
                       rw [if_pos hcc, if_neg hfs, if_neg hft]
                     rw [eo] at k
                     refine l_sheet (ra0 := va_up (va_up ra 21 (upd (ra 21) (iN x) y)) 22 (upd ((va_up ra 21 (upd (ra 21) (iN x) y)) 22) (iN x) 0)) (iN x) ex (by omega) (shV va).2.2 (fun M hR => k _ (RefW.okS hR hv ⟨by rw [vup_ne (by decide), vup_ne (by decide), vup_ne (by decide)]; exact hw.1, by rw [vup_ne (by decide), vup_ne (by decide), vup_ne (by decide)]; exact hw.2.1, by rw [vup_ne (by decide), vup_ne (by decide), vup_eq, w1], by rw [vup_ne (by decide), vup_eq, vup_ne (by decide), w2]; first | rw [if_pos cc_81] | rw [if_neg cc_81], vup_eq⟩)) 40 0 _ _ (by omega) rfl ?_
                     have ev : va_up (va_up (va_up ra 21 (upd (ra 21) (iN x) y)) 22 (upd ((va_up ra 21 (upd (ra 21) (iN x) y)) 22) (iN x) 0)) 23 (zfN (shV va).2.2 (iN x) 0) = (va_up (va_up ra 21 (upd (ra 21) (iN x) y)) 22 (upd ((va_up ra 21 (upd (ra 21) (iN x) y)) 22) (iN x) 0)) := by
                       rw [zfN_0]
                       funext j
                       show (if j = 23 then _ else _) = _
                       split
                       · rename_i h9; subst h9; rw [vup_ne (by decide), vup_ne (by decide)]; exact w3.symm
                       · rfl
                     rw [ev]
                     exact hR)
                  | (have hfs : ¬ (y ≠ 0 ∧ z < 0) := by first | exact fun h => h.1 cc_37 | exact fun h => absurd h.2 ce_41
                     have hft : ¬ (y ≠ 0 ∧ 40 < z) := by first | exact fun h => h.1 cc_52 | exact fun h => absurd h.2 ce_58
                     have eo : op_sheet (shV va) x y z = ((0, 1, (upd (shV va).1 (iN x) y, upd (shV va).2.1 (iN x) (if y = 0 then 0 else z), zfN (shV va).2.2 (iN x) 40)) : OpS) := by
                       unfold op_sheet
                       rw [if_pos hcc, if_neg hfs, if_neg hft]
                     rw [eo] at k
                     refine l_sheet (ra0 := va_up (va_up ra 21 (upd (ra 21) (iN x) y)) 22 (upd ((va_up ra 21 (upd (ra 21) (iN x) y)) 22) (iN x) z)) (iN x) ex (by omega) (shV va).2.2 (fun M hR => k _ (RefW.okS hR hv ⟨by rw [vup_ne (by decide), vup_ne (by decide), vup_ne (by decide)]; exact hw.1, by rw [vup_ne (by decide), vup_ne (by decide), vup_ne (by decide)]; exact hw.2.1, by rw [vup_ne (by decide), vup_ne (by decide), vup_eq, w1], by rw [vup_ne (by decide), vup_eq, vup_ne (by decide), w2]; first | rw [if_pos cc_81] | rw [if_neg cc_81], vup_eq⟩)) 40 0 _ _ (by omega) rfl ?_
                     have ev : va_up (va_up (va_up ra 21 (upd (ra 21) (iN x) y)) 22 (upd ((va_up ra 21 (upd (ra 21) (iN x) y)) 22) (iN x) z)) 23 (zfN (shV va).2.2 (iN x) 0) = (va_up (va_up ra 21 (upd (ra 21) (iN x) y)) 22 (upd ((va_up ra 21 (upd (ra 21) (iN x) y)) 22) (iN x) z)) := by
                       rw [zfN_0]
                       funext j
                       show (if j = 23 then _ else _) = _
                       split
                       · rename_i h9; subst h9; rw [vup_ne (by decide), vup_ne (by decide)]; exact w3.symm
                       · rfl
                     rw [ev]
                     exact hR)
            · have ce_58 := Int32.not_le.mp cc_58
              refine ok_aload_n (pc := 61) dX12_sheet_61 rfl ?_
              refine ok_ldc (pc := 62) (v := -1000000001) dX12_sheet_62 tw_1205 ?_
              refine ok_callVi1 (pc := 64) (d' := 0) dX12_sheet_64 vl_X12_84 hR.o rfl rfl rfl (by decide) ?_
              refine r_finding hR 1 (by decide) (by decide) (fun M hR => ?_)
              refine ok_iret (pc := 67) dX12_sheet_67 rfl ?_
              first
                | exact absurd cc_37 cc_52
                | (have eo : op_sheet (shV va) x y z = ((1, -1000000001, shV va) : OpS) := by
                     unfold op_sheet
                     rw [if_pos hcc, if_neg (fun h => absurd h.2 ce_41), if_pos ⟨cc_52, ce_58⟩]
                     rfl
                   rw [eo] at k
                   exact k _ (RefW.errS 1 (by decide) hR hv hw))
        · have ce_41 := Int32.not_le.mp cc_41
          refine ok_aload_n (pc := 44) dX12_sheet_44 rfl ?_
          refine ok_ldc (pc := 45) (v := -1000000003) dX12_sheet_45 tw_1215 ?_
          refine ok_callVi1 (pc := 47) (d' := 0) dX12_sheet_47 vl_X12_84 hR.o rfl rfl rfl (by decide) ?_
          refine r_finding hR 3 (by decide) (by decide) (fun M hR => ?_)
          refine ok_iret (pc := 50) dX12_sheet_50 rfl ?_
          have eo : op_sheet (shV va) x y z = ((3, -1000000003, shV va) : OpS) := by
            unfold op_sheet
            rw [if_pos hcc, if_pos ⟨cc_37, ce_41⟩]
            rfl
          rw [eo] at k
          exact k _ (RefW.errS 3 (by decide) hR hv hw)
    · refine ok_iload_n (pc := 11) dX12_sheet_11 rfl ?_
      refine ok_bipush (pc := 12) (v := 8) dX12_sheet_12 (by decide) ?_
      refine ok_icmp_eq (pc := 14) 36 dX12_sheet_14 (by decide) (fun cc_14 => ?_) (fun cc_14 => ?_)
      · have hb : isB y = true := by first | (simp [isB, cc_8]; done) | (simp [isB, cc_14]; done) | (simp [isB, cc_20]; done) | (simp [isB, cc_26]; done)
        have hcc : (wi x 0 3 && isB y) = true := by rw [cq_4, hb]; rfl
        refine ok_iload_n (pc := 36) dX12_sheet_36 rfl ?_
        refine ok_if_eq (pc := 37) 51 dX12_sheet_37 (by decide) (fun cc_37 => ?_) (fun cc_37 => ?_)
        · refine ok_iload_n (pc := 51) dX12_sheet_51 rfl ?_
          refine ok_if_eq (pc := 52) 68 dX12_sheet_52 (by decide) (fun cc_52 => ?_) (fun cc_52 => ?_)
          · obtain ⟨ex, -, lx⟩ := wi_lit (a := 0) (c := 3) rfl rfl (by decide) (by decide) cq_4
            refine ok_aload_n (pc := 68) dX12_sheet_68 rfl ?_
            refine ok_getf (pc := 69) dX12_sheet_69 fl_X12_53 hR.o rfl ?_
            refine ok_iload_n (pc := 72) dX12_sheet_72 rfl ?_
            refine ok_iload_n (pc := 73) dX12_sheet_73 rfl ?_
            refine ok_rst21 (pc := 74) (iN x) dX12_sheet_74 hR ex (by omega) (fun M hR => ?_)
            refine ok_aload_n (pc := 75) dX12_sheet_75 rfl ?_
            refine ok_getf (pc := 76) dX12_sheet_76 fl_X12_56 hR.o rfl ?_
            refine ok_iload_n (pc := 79) dX12_sheet_79 rfl ?_
            refine ok_iload_n (pc := 80) dX12_sheet_80 rfl ?_
            refine ok_if_ne (pc := 81) 88 dX12_sheet_81 (by decide) (fun cc_81 => ?_) (fun cc_81 => ?_)
            · refine ok_iload_n (pc := 88) dX12_sheet_88 rfl ?_
              refine ok_rst22 (pc := 89) (iN x) dX12_sheet_89 hR ex (by omega) (fun M hR => ?_)
              refine ok_iconst (pc := 90) (v := 0) dX12_sheet_90 (by decide) ?_
              refine ok_istore4 (pc := 91) dX12_sheet_91 (by decide) rfl ?_
              first
                | exact absurd cc_52 cc_37
                | exact absurd cc_37 cc_52
                | exact absurd cc_81 cc_37
                | exact absurd cc_37 cc_81
                | (have hfs : ¬ (y ≠ 0 ∧ z < 0) := by first | exact fun h => h.1 cc_37 | exact fun h => absurd h.2 ce_41
                   have hft : ¬ (y ≠ 0 ∧ 40 < z) := by first | exact fun h => h.1 cc_52 | exact fun h => absurd h.2 ce_58
                   have eo : op_sheet (shV va) x y z = ((0, 1, (upd (shV va).1 (iN x) y, upd (shV va).2.1 (iN x) (if y = 0 then 0 else z), zfN (shV va).2.2 (iN x) 40)) : OpS) := by
                     unfold op_sheet
                     rw [if_pos hcc, if_neg hfs, if_neg hft]
                   rw [eo] at k
                   refine l_sheet (ra0 := va_up (va_up ra 21 (upd (ra 21) (iN x) y)) 22 (upd ((va_up ra 21 (upd (ra 21) (iN x) y)) 22) (iN x) 0)) (iN x) ex (by omega) (shV va).2.2 (fun M hR => k _ (RefW.okS hR hv ⟨by rw [vup_ne (by decide), vup_ne (by decide), vup_ne (by decide)]; exact hw.1, by rw [vup_ne (by decide), vup_ne (by decide), vup_ne (by decide)]; exact hw.2.1, by rw [vup_ne (by decide), vup_ne (by decide), vup_eq, w1], by rw [vup_ne (by decide), vup_eq, vup_ne (by decide), w2]; first | rw [if_pos cc_81] | rw [if_neg cc_81], vup_eq⟩)) 40 0 _ _ (by omega) rfl ?_
                   have ev : va_up (va_up (va_up ra 21 (upd (ra 21) (iN x) y)) 22 (upd ((va_up ra 21 (upd (ra 21) (iN x) y)) 22) (iN x) 0)) 23 (zfN (shV va).2.2 (iN x) 0) = (va_up (va_up ra 21 (upd (ra 21) (iN x) y)) 22 (upd ((va_up ra 21 (upd (ra 21) (iN x) y)) 22) (iN x) 0)) := by
                     rw [zfN_0]
                     funext j
                     show (if j = 23 then _ else _) = _
                     split
                     · rename_i h9; subst h9; rw [vup_ne (by decide), vup_ne (by decide)]; exact w3.symm
                     · rfl
                   rw [ev]
                   exact hR)
                | (have hfs : ¬ (y ≠ 0 ∧ z < 0) := by first | exact fun h => h.1 cc_37 | exact fun h => absurd h.2 ce_41
                   have hft : ¬ (y ≠ 0 ∧ 40 < z) := by first | exact fun h => h.1 cc_52 | exact fun h => absurd h.2 ce_58
                   have eo : op_sheet (shV va) x y z = ((0, 1, (upd (shV va).1 (iN x) y, upd (shV va).2.1 (iN x) (if y = 0 then 0 else z), zfN (shV va).2.2 (iN x) 40)) : OpS) := by
                     unfold op_sheet
                     rw [if_pos hcc, if_neg hfs, if_neg hft]
                   rw [eo] at k
                   refine l_sheet (ra0 := va_up (va_up ra 21 (upd (ra 21) (iN x) y)) 22 (upd ((va_up ra 21 (upd (ra 21) (iN x) y)) 22) (iN x) z)) (iN x) ex (by omega) (shV va).2.2 (fun M hR => k _ (RefW.okS hR hv ⟨by rw [vup_ne (by decide), vup_ne (by decide), vup_ne (by decide)]; exact hw.1, by rw [vup_ne (by decide), vup_ne (by decide), vup_ne (by decide)]; exact hw.2.1, by rw [vup_ne (by decide), vup_ne (by decide), vup_eq, w1], by rw [vup_ne (by decide), vup_eq, vup_ne (by decide), w2]; first | rw [if_pos cc_81] | rw [if_neg cc_81], vup_eq⟩)) 40 0 _ _ (by omega) rfl ?_
                   have ev : va_up (va_up (va_up ra 21 (upd (ra 21) (iN x) y)) 22 (upd ((va_up ra 21 (upd (ra 21) (iN x) y)) 22) (iN x) z)) 23 (zfN (shV va).2.2 (iN x) 0) = (va_up (va_up ra 21 (upd (ra 21) (iN x) y)) 22 (upd ((va_up ra 21 (upd (ra 21) (iN x) y)) 22) (iN x) z)) := by
                     rw [zfN_0]
                     funext j
                     show (if j = 23 then _ else _) = _
                     split
                     · rename_i h9; subst h9; rw [vup_ne (by decide), vup_ne (by decide)]; exact w3.symm
                     · rfl
                   rw [ev]
                   exact hR)
            · refine ok_iconst (pc := 84) (v := 0) dX12_sheet_84 (by decide) ?_
              refine ok_goto (pc := 85) 89 dX12_sheet_85 (by decide) ?_
              refine ok_rst22 (pc := 89) (iN x) dX12_sheet_89 hR ex (by omega) (fun M hR => ?_)
              refine ok_iconst (pc := 90) (v := 0) dX12_sheet_90 (by decide) ?_
              refine ok_istore4 (pc := 91) dX12_sheet_91 (by decide) rfl ?_
              first
                | exact absurd cc_52 cc_37
                | exact absurd cc_37 cc_52
                | exact absurd cc_81 cc_37
                | exact absurd cc_37 cc_81
                | (have hfs : ¬ (y ≠ 0 ∧ z < 0) := by first | exact fun h => h.1 cc_37 | exact fun h => absurd h.2 ce_41
                   have hft : ¬ (y ≠ 0 ∧ 40 < z) := by first | exact fun h => h.1 cc_52 | exact fun h => absurd h.2 ce_58
                   have eo : op_sheet (shV va) x y z = ((0, 1, (upd (shV va).1 (iN x) y, upd (shV va).2.1 (iN x) (if y = 0 then 0 else z), zfN (shV va).2.2 (iN x) 40)) : OpS) := by
                     unfold op_sheet
                     rw [if_pos hcc, if_neg hfs, if_neg hft]
                   rw [eo] at k
                   refine l_sheet (ra0 := va_up (va_up ra 21 (upd (ra 21) (iN x) y)) 22 (upd ((va_up ra 21 (upd (ra 21) (iN x) y)) 22) (iN x) 0)) (iN x) ex (by omega) (shV va).2.2 (fun M hR => k _ (RefW.okS hR hv ⟨by rw [vup_ne (by decide), vup_ne (by decide), vup_ne (by decide)]; exact hw.1, by rw [vup_ne (by decide), vup_ne (by decide), vup_ne (by decide)]; exact hw.2.1, by rw [vup_ne (by decide), vup_ne (by decide), vup_eq, w1], by rw [vup_ne (by decide), vup_eq, vup_ne (by decide), w2]; first | rw [if_pos cc_81] | rw [if_neg cc_81], vup_eq⟩)) 40 0 _ _ (by omega) rfl ?_
                   have ev : va_up (va_up (va_up ra 21 (upd (ra 21) (iN x) y)) 22 (upd ((va_up ra 21 (upd (ra 21) (iN x) y)) 22) (iN x) 0)) 23 (zfN (shV va).2.2 (iN x) 0) = (va_up (va_up ra 21 (upd (ra 21) (iN x) y)) 22 (upd ((va_up ra 21 (upd (ra 21) (iN x) y)) 22) (iN x) 0)) := by
                     rw [zfN_0]
                     funext j
                     show (if j = 23 then _ else _) = _
                     split
                     · rename_i h9; subst h9; rw [vup_ne (by decide), vup_ne (by decide)]; exact w3.symm
                     · rfl
                   rw [ev]
                   exact hR)
                | (have hfs : ¬ (y ≠ 0 ∧ z < 0) := by first | exact fun h => h.1 cc_37 | exact fun h => absurd h.2 ce_41
                   have hft : ¬ (y ≠ 0 ∧ 40 < z) := by first | exact fun h => h.1 cc_52 | exact fun h => absurd h.2 ce_58
                   have eo : op_sheet (shV va) x y z = ((0, 1, (upd (shV va).1 (iN x) y, upd (shV va).2.1 (iN x) (if y = 0 then 0 else z), zfN (shV va).2.2 (iN x) 40)) : OpS) := by
                     unfold op_sheet
                     rw [if_pos hcc, if_neg hfs, if_neg hft]
                   rw [eo] at k
                   refine l_sheet (ra0 := va_up (va_up ra 21 (upd (ra 21) (iN x) y)) 22 (upd ((va_up ra 21 (upd (ra 21) (iN x) y)) 22) (iN x) z)) (iN x) ex (by omega) (shV va).2.2 (fun M hR => k _ (RefW.okS hR hv ⟨by rw [vup_ne (by decide), vup_ne (by decide), vup_ne (by decide)]; exact hw.1, by rw [vup_ne (by decide), vup_ne (by decide), vup_ne (by decide)]; exact hw.2.1, by rw [vup_ne (by decide), vup_ne (by decide), vup_eq, w1], by rw [vup_ne (by decide), vup_eq, vup_ne (by decide), w2]; first | rw [if_pos cc_81] | rw [if_neg cc_81], vup_eq⟩)) 40 0 _ _ (by omega) rfl ?_
                   have ev : va_up (va_up (va_up ra 21 (upd (ra 21) (iN x) y)) 22 (upd ((va_up ra 21 (upd (ra 21) (iN x) y)) 22) (iN x) z)) 23 (zfN (shV va).2.2 (iN x) 0) = (va_up (va_up ra 21 (upd (ra 21) (iN x) y)) 22 (upd ((va_up ra 21 (upd (ra 21) (iN x) y)) 22) (iN x) z)) := by
                     rw [zfN_0]
                     funext j
                     show (if j = 23 then _ else _) = _
                     split
                     · rename_i h9; subst h9; rw [vup_ne (by decide), vup_ne (by decide)]; exact w3.symm
                     · rfl
                   rw [ev]
                   exact hR)
          · refine ok_iload_n (pc := 55) dX12_sheet_55 rfl ?_
            refine ok_bipush (pc := 56) (v := 40) dX12_sheet_56 (by decide) ?_
            refine ok_icmp_le (pc := 58) 68 dX12_sheet_58 (by decide) (fun cc_58 => ?_) (fun cc_58 => ?_)
            · have ce_58 := Int32.not_lt.mpr cc_58
              obtain ⟨ex, -, lx⟩ := wi_lit (a := 0) (c := 3) rfl rfl (by decide) (by decide) cq_4
              refine ok_aload_n (pc := 68) dX12_sheet_68 rfl ?_
              refine ok_getf (pc := 69) dX12_sheet_69 fl_X12_53 hR.o rfl ?_
              refine ok_iload_n (pc := 72) dX12_sheet_72 rfl ?_
              refine ok_iload_n (pc := 73) dX12_sheet_73 rfl ?_
              refine ok_rst21 (pc := 74) (iN x) dX12_sheet_74 hR ex (by omega) (fun M hR => ?_)
              refine ok_aload_n (pc := 75) dX12_sheet_75 rfl ?_
              refine ok_getf (pc := 76) dX12_sheet_76 fl_X12_56 hR.o rfl ?_
              refine ok_iload_n (pc := 79) dX12_sheet_79 rfl ?_
              refine ok_iload_n (pc := 80) dX12_sheet_80 rfl ?_
              refine ok_if_ne (pc := 81) 88 dX12_sheet_81 (by decide) (fun cc_81 => ?_) (fun cc_81 => ?_)
              · refine ok_iload_n (pc := 88) dX12_sheet_88 rfl ?_
                refine ok_rst22 (pc := 89) (iN x) dX12_sheet_89 hR ex (by omega) (fun M hR => ?_)
                refine ok_iconst (pc := 90) (v := 0) dX12_sheet_90 (by decide) ?_
                refine ok_istore4 (pc := 91) dX12_sheet_91 (by decide) rfl ?_
                first
                  | exact absurd cc_52 cc_37
                  | exact absurd cc_37 cc_52
                  | exact absurd cc_81 cc_37
                  | exact absurd cc_37 cc_81
                  | (have hfs : ¬ (y ≠ 0 ∧ z < 0) := by first | exact fun h => h.1 cc_37 | exact fun h => absurd h.2 ce_41
                     have hft : ¬ (y ≠ 0 ∧ 40 < z) := by first | exact fun h => h.1 cc_52 | exact fun h => absurd h.2 ce_58
                     have eo : op_sheet (shV va) x y z = ((0, 1, (upd (shV va).1 (iN x) y, upd (shV va).2.1 (iN x) (if y = 0 then 0 else z), zfN (shV va).2.2 (iN x) 40)) : OpS) := by
                       unfold op_sheet
                       rw [if_pos hcc, if_neg hfs, if_neg hft]
                     rw [eo] at k
                     refine l_sheet (ra0 := va_up (va_up ra 21 (upd (ra 21) (iN x) y)) 22 (upd ((va_up ra 21 (upd (ra 21) (iN x) y)) 22) (iN x) 0)) (iN x) ex (by omega) (shV va).2.2 (fun M hR => k _ (RefW.okS hR hv ⟨by rw [vup_ne (by decide), vup_ne (by decide), vup_ne (by decide)]; exact hw.1, by rw [vup_ne (by decide), vup_ne (by decide), vup_ne (by decide)]; exact hw.2.1, by rw [vup_ne (by decide), vup_ne (by decide), vup_eq, w1], by rw [vup_ne (by decide), vup_eq, vup_ne (by decide), w2]; first | rw [if_pos cc_81] | rw [if_neg cc_81], vup_eq⟩)) 40 0 _ _ (by omega) rfl ?_
                     have ev : va_up (va_up (va_up ra 21 (upd (ra 21) (iN x) y)) 22 (upd ((va_up ra 21 (upd (ra 21) (iN x) y)) 22) (iN x) 0)) 23 (zfN (shV va).2.2 (iN x) 0) = (va_up (va_up ra 21 (upd (ra 21) (iN x) y)) 22 (upd ((va_up ra 21 (upd (ra 21) (iN x) y)) 22) (iN x) 0)) := by
                       rw [zfN_0]
                       funext j
                       show (if j = 23 then _ else _) = _
                       split
                       · rename_i h9; subst h9; rw [vup_ne (by decide), vup_ne (by decide)]; exact w3.symm
                       · rfl
                     rw [ev]
                     exact hR)
                  | (have hfs : ¬ (y ≠ 0 ∧ z < 0) := by first | exact fun h => h.1 cc_37 | exact fun h => absurd h.2 ce_41
                     have hft : ¬ (y ≠ 0 ∧ 40 < z) := by first | exact fun h => h.1 cc_52 | exact fun h => absurd h.2 ce_58
                     have eo : op_sheet (shV va) x y z = ((0, 1, (upd (shV va).1 (iN x) y, upd (shV va).2.1 (iN x) (if y = 0 then 0 else z), zfN (shV va).2.2 (iN x) 40)) : OpS) := by
                       unfold op_sheet
                       rw [if_pos hcc, if_neg hfs, if_neg hft]
                     rw [eo] at k
                     refine l_sheet (ra0 := va_up (va_up ra 21 (upd (ra 21) (iN x) y)) 22 (upd ((va_up ra 21 (upd (ra 21) (iN x) y)) 22) (iN x) z)) (iN x) ex (by omega) (shV va).2.2 (fun M hR => k _ (RefW.okS hR hv ⟨by rw [vup_ne (by decide), vup_ne (by decide), vup_ne (by decide)]; exact hw.1, by rw [vup_ne (by decide), vup_ne (by decide), vup_ne (by decide)]; exact hw.2.1, by rw [vup_ne (by decide), vup_ne (by decide), vup_eq, w1], by rw [vup_ne (by decide), vup_eq, vup_ne (by decide), w2]; first | rw [if_pos cc_81] | rw [if_neg cc_81], vup_eq⟩)) 40 0 _ _ (by omega) rfl ?_
                     have ev : va_up (va_up (va_up ra 21 (upd (ra 21) (iN x) y)) 22 (upd ((va_up ra 21 (upd (ra 21) (iN x) y)) 22) (iN x) z)) 23 (zfN (shV va).2.2 (iN x) 0) = (va_up (va_up ra 21 (upd (ra 21) (iN x) y)) 22 (upd ((va_up ra 21 (upd (ra 21) (iN x) y)) 22) (iN x) z)) := by
                       rw [zfN_0]
                       funext j
                       show (if j = 23 then _ else _) = _
                       split
                       · rename_i h9; subst h9; rw [vup_ne (by decide), vup_ne (by decide)]; exact w3.symm
                       · rfl
                     rw [ev]
                     exact hR)
              · refine ok_iconst (pc := 84) (v := 0) dX12_sheet_84 (by decide) ?_
                refine ok_goto (pc := 85) 89 dX12_sheet_85 (by decide) ?_
                refine ok_rst22 (pc := 89) (iN x) dX12_sheet_89 hR ex (by omega) (fun M hR => ?_)
                refine ok_iconst (pc := 90) (v := 0) dX12_sheet_90 (by decide) ?_
                refine ok_istore4 (pc := 91) dX12_sheet_91 (by decide) rfl ?_
                first
                  | exact absurd cc_52 cc_37
                  | exact absurd cc_37 cc_52
                  | exact absurd cc_81 cc_37
                  | exact absurd cc_37 cc_81
                  | (have hfs : ¬ (y ≠ 0 ∧ z < 0) := by first | exact fun h => h.1 cc_37 | exact fun h => absurd h.2 ce_41
                     have hft : ¬ (y ≠ 0 ∧ 40 < z) := by first | exact fun h => h.1 cc_52 | exact fun h => absurd h.2 ce_58
                     have eo : op_sheet (shV va) x y z = ((0, 1, (upd (shV va).1 (iN x) y, upd (shV va).2.1 (iN x) (if y = 0 then 0 else z), zfN (shV va).2.2 (iN x) 40)) : OpS) := by
                       unfold op_sheet
                       rw [if_pos hcc, if_neg hfs, if_neg hft]
                     rw [eo] at k
                     refine l_sheet (ra0 := va_up (va_up ra 21 (upd (ra 21) (iN x) y)) 22 (upd ((va_up ra 21 (upd (ra 21) (iN x) y)) 22) (iN x) 0)) (iN x) ex (by omega) (shV va).2.2 (fun M hR => k _ (RefW.okS hR hv ⟨by rw [vup_ne (by decide), vup_ne (by decide), vup_ne (by decide)]; exact hw.1, by rw [vup_ne (by decide), vup_ne (by decide), vup_ne (by decide)]; exact hw.2.1, by rw [vup_ne (by decide), vup_ne (by decide), vup_eq, w1], by rw [vup_ne (by decide), vup_eq, vup_ne (by decide), w2]; first | rw [if_pos cc_81] | rw [if_neg cc_81], vup_eq⟩)) 40 0 _ _ (by omega) rfl ?_
                     have ev : va_up (va_up (va_up ra 21 (upd (ra 21) (iN x) y)) 22 (upd ((va_up ra 21 (upd (ra 21) (iN x) y)) 22) (iN x) 0)) 23 (zfN (shV va).2.2 (iN x) 0) = (va_up (va_up ra 21 (upd (ra 21) (iN x) y)) 22 (upd ((va_up ra 21 (upd (ra 21) (iN x) y)) 22) (iN x) 0)) := by
                       rw [zfN_0]
                       funext j
                       show (if j = 23 then _ else _) = _
                       split
                       · rename_i h9; subst h9; rw [vup_ne (by decide), vup_ne (by decide)]; exact w3.symm
                       · rfl
                     rw [ev]
                     exact hR)
                  | (have hfs : ¬ (y ≠ 0 ∧ z < 0) := by first | exact fun h => h.1 cc_37 | exact fun h => absurd h.2 ce_41
                     have hft : ¬ (y ≠ 0 ∧ 40 < z) := by first | exact fun h => h.1 cc_52 | exact fun h => absurd h.2 ce_58
                     have eo : op_sheet (shV va) x y z = ((0, 1, (upd (shV va).1 (iN x) y, upd (shV va).2.1 (iN x) (if y = 0 then 0 else z), zfN (shV va).2.2 (iN x) 40)) : OpS) := by
                       unfold op_sheet
                       rw [if_pos hcc, if_neg hfs, if_neg hft]
                     rw [eo] at k
                     refine l_sheet (ra0 := va_up (va_up ra 21 (upd (ra 21) (iN x) y)) 22 (upd ((va_up ra 21 (upd (ra 21) (iN x) y)) 22) (iN x) z)) (iN x) ex (by omega) (shV va).2.2 (fun M hR => k _ (RefW.okS hR hv ⟨by rw [vup_ne (by decide), vup_ne (by decide), vup_ne (by decide)]; exact hw.1, by rw [vup_ne (by decide), vup_ne (by decide), vup_ne (by decide)]; exact hw.2.1, by rw [vup_ne (by decide), vup_ne (by decide), vup_eq, w1], by rw [vup_ne (by decide), vup_eq, vup_ne (by decide), w2]; first | rw [if_pos cc_81] | rw [if_neg cc_81], vup_eq⟩)) 40 0 _ _ (by omega) rfl ?_
                     have ev : va_up (va_up (va_up ra 21 (upd (ra 21) (iN x) y)) 22 (upd ((va_up ra 21 (upd (ra 21) (iN x) y)) 22) (iN x) z)) 23 (zfN (shV va).2.2 (iN x) 0) = (va_up (va_up ra 21 (upd (ra 21) (iN x) y)) 22 (upd ((va_up ra 21 (upd (ra 21) (iN x) y)) 22) (iN x) z)) := by
                       rw [zfN_0]
                       funext j
                       show (if j = 23 then _ else _) = _
                       split
                       · rename_i h9; subst h9; rw [vup_ne (by decide), vup_ne (by decide)]; exact w3.symm
                       · rfl
                     rw [ev]
                     exact hR)
            · have ce_58 := Int32.not_le.mp cc_58
              refine ok_aload_n (pc := 61) dX12_sheet_61 rfl ?_
              refine ok_ldc (pc := 62) (v := -1000000001) dX12_sheet_62 tw_1205 ?_
              refine ok_callVi1 (pc := 64) (d' := 0) dX12_sheet_64 vl_X12_84 hR.o rfl rfl rfl (by decide) ?_
              refine r_finding hR 1 (by decide) (by decide) (fun M hR => ?_)
              refine ok_iret (pc := 67) dX12_sheet_67 rfl ?_
              first
                | exact absurd cc_37 cc_52
                | (have eo : op_sheet (shV va) x y z = ((1, -1000000001, shV va) : OpS) := by
                     unfold op_sheet
                     rw [if_pos hcc, if_neg (fun h => absurd h.2 ce_41), if_pos ⟨cc_52, ce_58⟩]
                     rfl
                   rw [eo] at k
                   exact k _ (RefW.errS 1 (by decide) hR hv hw))
        · refine ok_iload_n (pc := 40) dX12_sheet_40 rfl ?_
          refine ok_if_ge (pc := 41) 51 dX12_sheet_41 (by decide) (fun cc_41 => ?_) (fun cc_41 => ?_)
          · have ce_41 := Int32.not_lt.mpr cc_41
            refine ok_iload_n (pc := 51) dX12_sheet_51 rfl ?_
            refine ok_if_eq (pc := 52) 68 dX12_sheet_52 (by decide) (fun cc_52 => ?_) (fun cc_52 => ?_)
            · obtain ⟨ex, -, lx⟩ := wi_lit (a := 0) (c := 3) rfl rfl (by decide) (by decide) cq_4
              refine ok_aload_n (pc := 68) dX12_sheet_68 rfl ?_
              refine ok_getf (pc := 69) dX12_sheet_69 fl_X12_53 hR.o rfl ?_
              refine ok_iload_n (pc := 72) dX12_sheet_72 rfl ?_
              refine ok_iload_n (pc := 73) dX12_sheet_73 rfl ?_
              refine ok_rst21 (pc := 74) (iN x) dX12_sheet_74 hR ex (by omega) (fun M hR => ?_)
              refine ok_aload_n (pc := 75) dX12_sheet_75 rfl ?_
              refine ok_getf (pc := 76) dX12_sheet_76 fl_X12_56 hR.o rfl ?_
              refine ok_iload_n (pc := 79) dX12_sheet_79 rfl ?_
              refine ok_iload_n (pc := 80) dX12_sheet_80 rfl ?_
              refine ok_if_ne (pc := 81) 88 dX12_sheet_81 (by decide) (fun cc_81 => ?_) (fun cc_81 => ?_)
              · refine ok_iload_n (pc := 88) dX12_sheet_88 rfl ?_
                refine ok_rst22 (pc := 89) (iN x) dX12_sheet_89 hR ex (by omega) (fun M hR => ?_)
                refine ok_iconst (pc := 90) (v := 0) dX12_sheet_90 (by decide) ?_
                refine ok_istore4 (pc := 91) dX12_sheet_91 (by decide) rfl ?_
                first
                  | exact absurd cc_52 cc_37
                  | exact absurd cc_37 cc_52
                  | exact absurd cc_81 cc_37
                  | exact absurd cc_37 cc_81
                  | (have hfs : ¬ (y ≠ 0 ∧ z < 0) := by first | exact fun h => h.1 cc_37 | exact fun h => absurd h.2 ce_41
                     have hft : ¬ (y ≠ 0 ∧ 40 < z) := by first | exact fun h => h.1 cc_52 | exact fun h => absurd h.2 ce_58
                     have eo : op_sheet (shV va) x y z = ((0, 1, (upd (shV va).1 (iN x) y, upd (shV va).2.1 (iN x) (if y = 0 then 0 else z), zfN (shV va).2.2 (iN x) 40)) : OpS) := by
                       unfold op_sheet
                       rw [if_pos hcc, if_neg hfs, if_neg hft]
                     rw [eo] at k
                     refine l_sheet (ra0 := va_up (va_up ra 21 (upd (ra 21) (iN x) y)) 22 (upd ((va_up ra 21 (upd (ra 21) (iN x) y)) 22) (iN x) 0)) (iN x) ex (by omega) (shV va).2.2 (fun M hR => k _ (RefW.okS hR hv ⟨by rw [vup_ne (by decide), vup_ne (by decide), vup_ne (by decide)]; exact hw.1, by rw [vup_ne (by decide), vup_ne (by decide), vup_ne (by decide)]; exact hw.2.1, by rw [vup_ne (by decide), vup_ne (by decide), vup_eq, w1], by rw [vup_ne (by decide), vup_eq, vup_ne (by decide), w2]; first | rw [if_pos cc_81] | rw [if_neg cc_81], vup_eq⟩)) 40 0 _ _ (by omega) rfl ?_
                     have ev : va_up (va_up (va_up ra 21 (upd (ra 21) (iN x) y)) 22 (upd ((va_up ra 21 (upd (ra 21) (iN x) y)) 22) (iN x) 0)) 23 (zfN (shV va).2.2 (iN x) 0) = (va_up (va_up ra 21 (upd (ra 21) (iN x) y)) 22 (upd ((va_up ra 21 (upd (ra 21) (iN x) y)) 22) (iN x) 0)) := by
                       rw [zfN_0]
                       funext j
                       show (if j = 23 then _ else _) = _
                       split
                       · rename_i h9; subst h9; rw [vup_ne (by decide), vup_ne (by decide)]; exact w3.symm
                       · rfl
                     rw [ev]
                     exact hR)
                  | (have hfs : ¬ (y ≠ 0 ∧ z < 0) := by first | exact fun h => h.1 cc_37 | exact fun h => absurd h.2 ce_41
                     have hft : ¬ (y ≠ 0 ∧ 40 < z) := by first | exact fun h => h.1 cc_52 | exact fun h => absurd h.2 ce_58
                     have eo : op_sheet (shV va) x y z = ((0, 1, (upd (shV va).1 (iN x) y, upd (shV va).2.1 (iN x) (if y = 0 then 0 else z), zfN (shV va).2.2 (iN x) 40)) : OpS) := by
                       unfold op_sheet
                       rw [if_pos hcc, if_neg hfs, if_neg hft]
                     rw [eo] at k
                     refine l_sheet (ra0 := va_up (va_up ra 21 (upd (ra 21) (iN x) y)) 22 (upd ((va_up ra 21 (upd (ra 21) (iN x) y)) 22) (iN x) z)) (iN x) ex (by omega) (shV va).2.2 (fun M hR => k _ (RefW.okS hR hv ⟨by rw [vup_ne (by decide), vup_ne (by decide), vup_ne (by decide)]; exact hw.1, by rw [vup_ne (by decide), vup_ne (by decide), vup_ne (by decide)]; exact hw.2.1, by rw [vup_ne (by decide), vup_ne (by decide), vup_eq, w1], by rw [vup_ne (by decide), vup_eq, vup_ne (by decide), w2]; first | rw [if_pos cc_81] | rw [if_neg cc_81], vup_eq⟩)) 40 0 _ _ (by omega) rfl ?_
                     have ev : va_up (va_up (va_up ra 21 (upd (ra 21) (iN x) y)) 22 (upd ((va_up ra 21 (upd (ra 21) (iN x) y)) 22) (iN x) z)) 23 (zfN (shV va).2.2 (iN x) 0) = (va_up (va_up ra 21 (upd (ra 21) (iN x) y)) 22 (upd ((va_up ra 21 (upd (ra 21) (iN x) y)) 22) (iN x) z)) := by
                       rw [zfN_0]
                       funext j
                       show (if j = 23 then _ else _) = _
                       split
                       · rename_i h9; subst h9; rw [vup_ne (by decide), vup_ne (by decide)]; exact w3.symm
                       · rfl
                     rw [ev]
                     exact hR)
              · refine ok_iconst (pc := 84) (v := 0) dX12_sheet_84 (by decide) ?_
                refine ok_goto (pc := 85) 89 dX12_sheet_85 (by decide) ?_
                refine ok_rst22 (pc := 89) (iN x) dX12_sheet_89 hR ex (by omega) (fun M hR => ?_)
                refine ok_iconst (pc := 90) (v := 0) dX12_sheet_90 (by decide) ?_
                refine ok_istore4 (pc := 91) dX12_sheet_91 (by decide) rfl ?_
                first
                  | exact absurd cc_52 cc_37
                  | exact absurd cc_37 cc_52
                  | exact absurd cc_81 cc_37
                  | exact absurd cc_37 cc_81
                  | (have hfs : ¬ (y ≠ 0 ∧ z < 0) := by first | exact fun h => h.1 cc_37 | exact fun h => absurd h.2 ce_41
                     have hft : ¬ (y ≠ 0 ∧ 40 < z) := by first | exact fun h => h.1 cc_52 | exact fun h => absurd h.2 ce_58
                     have eo : op_sheet (shV va) x y z = ((0, 1, (upd (shV va).1 (iN x) y, upd (shV va).2.1 (iN x) (if y = 0 then 0 else z), zfN (shV va).2.2 (iN x) 40)) : OpS) := by
                       unfold op_sheet
                       rw [if_pos hcc, if_neg hfs, if_neg hft]
                     rw [eo] at k
                     refine l_sheet (ra0 := va_up (va_up ra 21 (upd (ra 21) (iN x) y)) 22 (upd ((va_up ra 21 (upd (ra 21) (iN x) y)) 22) (iN x) 0)) (iN x) ex (by omega) (shV va).2.2 (fun M hR => k _ (RefW.okS hR hv ⟨by rw [vup_ne (by decide), vup_ne (by decide), vup_ne (by decide)]; exact hw.1, by rw [vup_ne (by decide), vup_ne (by decide), vup_ne (by decide)]; exact hw.2.1, by rw [vup_ne (by decide), vup_ne (by decide), vup_eq, w1], by rw [vup_ne (by decide), vup_eq, vup_ne (by decide), w2]; first | rw [if_pos cc_81] | rw [if_neg cc_81], vup_eq⟩)) 40 0 _ _ (by omega) rfl ?_
                     have ev : va_up (va_up (va_up ra 21 (upd (ra 21) (iN x) y)) 22 (upd ((va_up ra 21 (upd (ra 21) (iN x) y)) 22) (iN x) 0)) 23 (zfN (shV va).2.2 (iN x) 0) = (va_up (va_up ra 21 (upd (ra 21) (iN x) y)) 22 (upd ((va_up ra 21 (upd (ra 21) (iN x) y)) 22) (iN x) 0)) := by
                       rw [zfN_0]
                       funext j
                       show (if j = 23 then _ else _) = _
                       split
                       · rename_i h9; subst h9; rw [vup_ne (by decide), vup_ne (by decide)]; exact w3.symm
                       · rfl
                     rw [ev]
                     exact hR)
                  | (have hfs : ¬ (y ≠ 0 ∧ z < 0) := by first | exact fun h => h.1 cc_37 | exact fun h => absurd h.2 ce_41
                     have hft : ¬ (y ≠ 0 ∧ 40 < z) := by first | exact fun h => h.1 cc_52 | exact fun h => absurd h.2 ce_58
                     have eo : op_sheet (shV va) x y z = ((0, 1, (upd (shV va).1 (iN x) y, upd (shV va).2.1 (iN x) (if y = 0 then 0 else z), zfN (shV va).2.2 (iN x) 40)) : OpS) := by
                       unfold op_sheet
                       rw [if_pos hcc, if_neg hfs, if_neg hft]
                     rw [eo] at k
                     refine l_sheet (ra0 := va_up (va_up ra 21 (upd (ra 21) (iN x) y)) 22 (upd ((va_up ra 21 (upd (ra 21) (iN x) y)) 22) (iN x) z)) (iN x) ex (by omega) (shV va).2.2 (fun M hR => k _ (RefW.okS hR hv ⟨by rw [vup_ne (by decide), vup_ne (by decide), vup_ne (by decide)]; exact hw.1, by rw [vup_ne (by decide), vup_ne (by decide), vup_ne (by decide)]; exact hw.2.1, by rw [vup_ne (by decide), vup_ne (by decide), vup_eq, w1], by rw [vup_ne (by decide), vup_eq, vup_ne (by decide), w2]; first | rw [if_pos cc_81] | rw [if_neg cc_81], vup_eq⟩)) 40 0 _ _ (by omega) rfl ?_
                     have ev : va_up (va_up (va_up ra 21 (upd (ra 21) (iN x) y)) 22 (upd ((va_up ra 21 (upd (ra 21) (iN x) y)) 22) (iN x) z)) 23 (zfN (shV va).2.2 (iN x) 0) = (va_up (va_up ra 21 (upd (ra 21) (iN x) y)) 22 (upd ((va_up ra 21 (upd (ra 21) (iN x) y)) 22) (iN x) z)) := by
                       rw [zfN_0]
                       funext j
                       show (if j = 23 then _ else _) = _
                       split
                       · rename_i h9; subst h9; rw [vup_ne (by decide), vup_ne (by decide)]; exact w3.symm
                       · rfl
                     rw [ev]
                     exact hR)
            · refine ok_iload_n (pc := 55) dX12_sheet_55 rfl ?_
              refine ok_bipush (pc := 56) (v := 40) dX12_sheet_56 (by decide) ?_
              refine ok_icmp_le (pc := 58) 68 dX12_sheet_58 (by decide) (fun cc_58 => ?_) (fun cc_58 => ?_)
              · have ce_58 := Int32.not_lt.mpr cc_58
                obtain ⟨ex, -, lx⟩ := wi_lit (a := 0) (c := 3) rfl rfl (by decide) (by decide) cq_4
                refine ok_aload_n (pc := 68) dX12_sheet_68 rfl ?_
                refine ok_getf (pc := 69) dX12_sheet_69 fl_X12_53 hR.o rfl ?_
                refine ok_iload_n (pc := 72) dX12_sheet_72 rfl ?_
                refine ok_iload_n (pc := 73) dX12_sheet_73 rfl ?_
                refine ok_rst21 (pc := 74) (iN x) dX12_sheet_74 hR ex (by omega) (fun M hR => ?_)
                refine ok_aload_n (pc := 75) dX12_sheet_75 rfl ?_
                refine ok_getf (pc := 76) dX12_sheet_76 fl_X12_56 hR.o rfl ?_
                refine ok_iload_n (pc := 79) dX12_sheet_79 rfl ?_
                refine ok_iload_n (pc := 80) dX12_sheet_80 rfl ?_
                refine ok_if_ne (pc := 81) 88 dX12_sheet_81 (by decide) (fun cc_81 => ?_) (fun cc_81 => ?_)
                · refine ok_iload_n (pc := 88) dX12_sheet_88 rfl ?_
                  refine ok_rst22 (pc := 89) (iN x) dX12_sheet_89 hR ex (by omega) (fun M hR => ?_)
                  refine ok_iconst (pc := 90) (v := 0) dX12_sheet_90 (by decide) ?_
                  refine ok_istore4 (pc := 91) dX12_sheet_91 (by decide) rfl ?_
                  first
                    | exact absurd cc_52 cc_37
                    | exact absurd cc_37 cc_52
                    | exact absurd cc_81 cc_37
                    | exact absurd cc_37 cc_81
                    | (have hfs : ¬ (y ≠ 0 ∧ z < 0) := by first | exact fun h => h.1 cc_37 | exact fun h => absurd h.2 ce_41
                       have hft : ¬ (y ≠ 0 ∧ 40 < z) := by first | exact fun h => h.1 cc_52 | exact fun h => absurd h.2 ce_58
                       have eo : op_sheet (shV va) x y z = ((0, 1, (upd (shV va).1 (iN x) y, upd (shV va).2.1 (iN x) (if y = 0 then 0 else z), zfN (shV va).2.2 (iN x) 40)) : OpS) := by
                         unfold op_sheet
                         rw [if_pos hcc, if_neg hfs, if_neg hft]
                       rw [eo] at k
                       refine l_sheet (ra0 := va_up (va_up ra 21 (upd (ra 21) (iN x) y)) 22 (upd ((va_up ra 21 (upd (ra 21) (iN x) y)) 22) (iN x) 0)) (iN x) ex (by omega) (shV va).2.2 (fun M hR => k _ (RefW.okS hR hv ⟨by rw [vup_ne (by decide), vup_ne (by decide), vup_ne (by decide)]; exact hw.1, by rw [vup_ne (by decide), vup_ne (by decide), vup_ne (by decide)]; exact hw.2.1, by rw [vup_ne (by decide), vup_ne (by decide), vup_eq, w1], by rw [vup_ne (by decide), vup_eq, vup_ne (by decide), w2]; first | rw [if_pos cc_81] | rw [if_neg cc_81], vup_eq⟩)) 40 0 _ _ (by omega) rfl ?_
                       have ev : va_up (va_up (va_up ra 21 (upd (ra 21) (iN x) y)) 22 (upd ((va_up ra 21 (upd (ra 21) (iN x) y)) 22) (iN x) 0)) 23 (zfN (shV va).2.2 (iN x) 0) = (va_up (va_up ra 21 (upd (ra 21) (iN x) y)) 22 (upd ((va_up ra 21 (upd (ra 21) (iN x) y)) 22) (iN x) 0)) := by
                         rw [zfN_0]
                         funext j
                         show (if j = 23 then _ else _) = _
                         split
                         · rename_i h9; subst h9; rw [vup_ne (by decide), vup_ne (by decide)]; exact w3.symm
                         · rfl
                       rw [ev]
                       exact hR)
                    | (have hfs : ¬ (y ≠ 0 ∧ z < 0) := by first | exact fun h => h.1 cc_37 | exact fun h => absurd h.2 ce_41
                       have hft : ¬ (y ≠ 0 ∧ 40 < z) := by first | exact fun h => h.1 cc_52 | exact fun h => absurd h.2 ce_58
                       have eo : op_sheet (shV va) x y z = ((0, 1, (upd (shV va).1 (iN x) y, upd (shV va).2.1 (iN x) (if y = 0 then 0 else z), zfN (shV va).2.2 (iN x) 40)) : OpS) := by
                         unfold op_sheet
                         rw [if_pos hcc, if_neg hfs, if_neg hft]
                       rw [eo] at k
                       refine l_sheet (ra0 := va_up (va_up ra 21 (upd (ra 21) (iN x) y)) 22 (upd ((va_up ra 21 (upd (ra 21) (iN x) y)) 22) (iN x) z)) (iN x) ex (by omega) (shV va).2.2 (fun M hR => k _ (RefW.okS hR hv ⟨by rw [vup_ne (by decide), vup_ne (by decide), vup_ne (by decide)]; exact hw.1, by rw [vup_ne (by decide), vup_ne (by decide), vup_ne (by decide)]; exact hw.2.1, by rw [vup_ne (by decide), vup_ne (by decide), vup_eq, w1], by rw [vup_ne (by decide), vup_eq, vup_ne (by decide), w2]; first | rw [if_pos cc_81] | rw [if_neg cc_81], vup_eq⟩)) 40 0 _ _ (by omega) rfl ?_
                       have ev : va_up (va_up (va_up ra 21 (upd (ra 21) (iN x) y)) 22 (upd ((va_up ra 21 (upd (ra 21) (iN x) y)) 22) (iN x) z)) 23 (zfN (shV va).2.2 (iN x) 0) = (va_up (va_up ra 21 (upd (ra 21) (iN x) y)) 22 (upd ((va_up ra 21 (upd (ra 21) (iN x) y)) 22) (iN x) z)) := by
                         rw [zfN_0]
                         funext j
                         show (if j = 23 then _ else _) = _
                         split
                         · rename_i h9; subst h9; rw [vup_ne (by decide), vup_ne (by decide)]; exact w3.symm
                         · rfl
                       rw [ev]
                       exact hR)
                · refine ok_iconst (pc := 84) (v := 0) dX12_sheet_84 (by decide) ?_
                  refine ok_goto (pc := 85) 89 dX12_sheet_85 (by decide) ?_
                  refine ok_rst22 (pc := 89) (iN x) dX12_sheet_89 hR ex (by omega) (fun M hR => ?_)
                  refine ok_iconst (pc := 90) (v := 0) dX12_sheet_90 (by decide) ?_
                  refine ok_istore4 (pc := 91) dX12_sheet_91 (by decide) rfl ?_
                  first
                    | exact absurd cc_52 cc_37
                    | exact absurd cc_37 cc_52
                    | exact absurd cc_81 cc_37
                    | exact absurd cc_37 cc_81
                    | (have hfs : ¬ (y ≠ 0 ∧ z < 0) := by first | exact fun h => h.1 cc_37 | exact fun h => absurd h.2 ce_41
                       have hft : ¬ (y ≠ 0 ∧ 40 < z) := by first | exact fun h => h.1 cc_52 | exact fun h => absurd h.2 ce_58
                       have eo : op_sheet (shV va) x y z = ((0, 1, (upd (shV va).1 (iN x) y, upd (shV va).2.1 (iN x) (if y = 0 then 0 else z), zfN (shV va).2.2 (iN x) 40)) : OpS) := by
                         unfold op_sheet
                         rw [if_pos hcc, if_neg hfs, if_neg hft]
                       rw [eo] at k
                       refine l_sheet (ra0 := va_up (va_up ra 21 (upd (ra 21) (iN x) y)) 22 (upd ((va_up ra 21 (upd (ra 21) (iN x) y)) 22) (iN x) 0)) (iN x) ex (by omega) (shV va).2.2 (fun M hR => k _ (RefW.okS hR hv ⟨by rw [vup_ne (by decide), vup_ne (by decide), vup_ne (by decide)]; exact hw.1, by rw [vup_ne (by decide), vup_ne (by decide), vup_ne (by decide)]; exact hw.2.1, by rw [vup_ne (by decide), vup_ne (by decide), vup_eq, w1], by rw [vup_ne (by decide), vup_eq, vup_ne (by decide), w2]; first | rw [if_pos cc_81] | rw [if_neg cc_81], vup_eq⟩)) 40 0 _ _ (by omega) rfl ?_
                       have ev : va_up (va_up (va_up ra 21 (upd (ra 21) (iN x) y)) 22 (upd ((va_up ra 21 (upd (ra 21) (iN x) y)) 22) (iN x) 0)) 23 (zfN (shV va).2.2 (iN x) 0) = (va_up (va_up ra 21 (upd (ra 21) (iN x) y)) 22 (upd ((va_up ra 21 (upd (ra 21) (iN x) y)) 22) (iN x) 0)) := by
                         rw [zfN_0]
                         funext j
                         show (if j = 23 then _ else _) = _
                         split
                         · rename_i h9; subst h9; rw [vup_ne (by decide), vup_ne (by decide)]; exact w3.symm
                         · rfl
                       rw [ev]
                       exact hR)
                    | (have hfs : ¬ (y ≠ 0 ∧ z < 0) := by first | exact fun h => h.1 cc_37 | exact fun h => absurd h.2 ce_41
                       have hft : ¬ (y ≠ 0 ∧ 40 < z) := by first | exact fun h => h.1 cc_52 | exact fun h => absurd h.2 ce_58
                       have eo : op_sheet (shV va) x y z = ((0, 1, (upd (shV va).1 (iN x) y, upd (shV va).2.1 (iN x) (if y = 0 then 0 else z), zfN (shV va).2.2 (iN x) 40)) : OpS) := by
                         unfold op_sheet
                         rw [if_pos hcc, if_neg hfs, if_neg hft]
                       rw [eo] at k
                       refine l_sheet (ra0 := va_up (va_up ra 21 (upd (ra 21) (iN x) y)) 22 (upd ((va_up ra 21 (upd (ra 21) (iN x) y)) 22) (iN x) z)) (iN x) ex (by omega) (shV va).2.2 (fun M hR => k _ (RefW.okS hR hv ⟨by rw [vup_ne (by decide), vup_ne (by decide), vup_ne (by decide)]; exact hw.1, by rw [vup_ne (by decide), vup_ne (by decide), vup_ne (by decide)]; exact hw.2.1, by rw [vup_ne (by decide), vup_ne (by decide), vup_eq, w1], by rw [vup_ne (by decide), vup_eq, vup_ne (by decide), w2]; first | rw [if_pos cc_81] | rw [if_neg cc_81], vup_eq⟩)) 40 0 _ _ (by omega) rfl ?_
                       have ev : va_up (va_up (va_up ra 21 (upd (ra 21) (iN x) y)) 22 (upd ((va_up ra 21 (upd (ra 21) (iN x) y)) 22) (iN x) z)) 23 (zfN (shV va).2.2 (iN x) 0) = (va_up (va_up ra 21 (upd (ra 21) (iN x) y)) 22 (upd ((va_up ra 21 (upd (ra 21) (iN x) y)) 22) (iN x) z)) := by
                         rw [zfN_0]
                         funext j
                         show (if j = 23 then _ else _) = _
                         split
                         · rename_i h9; subst h9; rw [vup_ne (by decide), vup_ne (by decide)]; exact w3.symm
                         · rfl
                       rw [ev]
                       exact hR)
              · have ce_58 := Int32.not_le.mp cc_58
                refine ok_aload_n (pc := 61) dX12_sheet_61 rfl ?_
                refine ok_ldc (pc := 62) (v := -1000000001) dX12_sheet_62 tw_1205 ?_
                refine ok_callVi1 (pc := 64) (d' := 0) dX12_sheet_64 vl_X12_84 hR.o rfl rfl rfl (by decide) ?_
                refine r_finding hR 1 (by decide) (by decide) (fun M hR => ?_)
                refine ok_iret (pc := 67) dX12_sheet_67 rfl ?_
                first
                  | exact absurd cc_37 cc_52
                  | (have eo : op_sheet (shV va) x y z = ((1, -1000000001, shV va) : OpS) := by
                       unfold op_sheet
                       rw [if_pos hcc, if_neg (fun h => absurd h.2 ce_41), if_pos ⟨cc_52, ce_58⟩]
                       rfl
                     rw [eo] at k
                     exact k _ (RefW.errS 1 (by decide) hR hv hw))
          · have ce_41 := Int32.not_le.mp cc_41
            refine ok_aload_n (pc := 44) dX12_sheet_44 rfl ?_
            refine ok_ldc (pc := 45) (v := -1000000003) dX12_sheet_45 tw_1215 ?_
            refine ok_callVi1 (pc := 47) (d' := 0) dX12_sheet_47 vl_X12_84 hR.o rfl rfl rfl (by decide) ?_
            refine r_finding hR 3 (by decide) (by decide) (fun M hR => ?_)
            refine ok_iret (pc := 50) dX12_sheet_50 rfl ?_
            have eo : op_sheet (shV va) x y z = ((3, -1000000003, shV va) : OpS) := by
              unfold op_sheet
              rw [if_pos hcc, if_pos ⟨cc_37, ce_41⟩]
              rfl
            rw [eo] at k
            exact k _ (RefW.errS 3 (by decide) hR hv hw)
      · refine ok_iload_n (pc := 17) dX12_sheet_17 rfl ?_
        refine ok_bipush (pc := 18) (v := 16) dX12_sheet_18 (by decide) ?_
        refine ok_icmp_eq (pc := 20) 36 dX12_sheet_20 (by decide) (fun cc_20 => ?_) (fun cc_20 => ?_)
        · have hb : isB y = true := by first | (simp [isB, cc_8]; done) | (simp [isB, cc_14]; done) | (simp [isB, cc_20]; done) | (simp [isB, cc_26]; done)
          have hcc : (wi x 0 3 && isB y) = true := by rw [cq_4, hb]; rfl
          refine ok_iload_n (pc := 36) dX12_sheet_36 rfl ?_
          refine ok_if_eq (pc := 37) 51 dX12_sheet_37 (by decide) (fun cc_37 => ?_) (fun cc_37 => ?_)
          · refine ok_iload_n (pc := 51) dX12_sheet_51 rfl ?_
            refine ok_if_eq (pc := 52) 68 dX12_sheet_52 (by decide) (fun cc_52 => ?_) (fun cc_52 => ?_)
            · obtain ⟨ex, -, lx⟩ := wi_lit (a := 0) (c := 3) rfl rfl (by decide) (by decide) cq_4
              refine ok_aload_n (pc := 68) dX12_sheet_68 rfl ?_
              refine ok_getf (pc := 69) dX12_sheet_69 fl_X12_53 hR.o rfl ?_
              refine ok_iload_n (pc := 72) dX12_sheet_72 rfl ?_
              refine ok_iload_n (pc := 73) dX12_sheet_73 rfl ?_
              refine ok_rst21 (pc := 74) (iN x) dX12_sheet_74 hR ex (by omega) (fun M hR => ?_)
              refine ok_aload_n (pc := 75) dX12_sheet_75 rfl ?_
              refine ok_getf (pc := 76) dX12_sheet_76 fl_X12_56 hR.o rfl ?_
              refine ok_iload_n (pc := 79) dX12_sheet_79 rfl ?_
              refine ok_iload_n (pc := 80) dX12_sheet_80 rfl ?_
              refine ok_if_ne (pc := 81) 88 dX12_sheet_81 (by decide) (fun cc_81 => ?_) (fun cc_81 => ?_)
              · refine ok_iload_n (pc := 88) dX12_sheet_88 rfl ?_
                refine ok_rst22 (pc := 89) (iN x) dX12_sheet_89 hR ex (by omega) (fun M hR => ?_)
                refine ok_iconst (pc := 90) (v := 0) dX12_sheet_90 (by decide) ?_
                refine ok_istore4 (pc := 91) dX12_sheet_91 (by decide) rfl ?_
                first
                  | exact absurd cc_52 cc_37
                  | exact absurd cc_37 cc_52
                  | exact absurd cc_81 cc_37
                  | exact absurd cc_37 cc_81
                  | (have hfs : ¬ (y ≠ 0 ∧ z < 0) := by first | exact fun h => h.1 cc_37 | exact fun h => absurd h.2 ce_41
                     have hft : ¬ (y ≠ 0 ∧ 40 < z) := by first | exact fun h => h.1 cc_52 | exact fun h => absurd h.2 ce_58
                     have eo : op_sheet (shV va) x y z = ((0, 1, (upd (shV va).1 (iN x) y, upd (shV va).2.1 (iN x) (if y = 0 then 0 else z), zfN (shV va).2.2 (iN x) 40)) : OpS) := by
                       unfold op_sheet
                       rw [if_pos hcc, if_neg hfs, if_neg hft]
                     rw [eo] at k
                     refine l_sheet (ra0 := va_up (va_up ra 21 (upd (ra 21) (iN x) y)) 22 (upd ((va_up ra 21 (upd (ra 21) (iN x) y)) 22) (iN x) 0)) (iN x) ex (by omega) (shV va).2.2 (fun M hR => k _ (RefW.okS hR hv ⟨by rw [vup_ne (by decide), vup_ne (by decide), vup_ne (by decide)]; exact hw.1, by rw [vup_ne (by decide), vup_ne (by decide), vup_ne (by decide)]; exact hw.2.1, by rw [vup_ne (by decide), vup_ne (by decide), vup_eq, w1], by rw [vup_ne (by decide), vup_eq, vup_ne (by decide), w2]; first | rw [if_pos cc_81] | rw [if_neg cc_81], vup_eq⟩)) 40 0 _ _ (by omega) rfl ?_
                     have ev : va_up (va_up (va_up ra 21 (upd (ra 21) (iN x) y)) 22 (upd ((va_up ra 21 (upd (ra 21) (iN x) y)) 22) (iN x) 0)) 23 (zfN (shV va).2.2 (iN x) 0) = (va_up (va_up ra 21 (upd (ra 21) (iN x) y)) 22 (upd ((va_up ra 21 (upd (ra 21) (iN x) y)) 22) (iN x) 0)) := by
                       rw [zfN_0]
                       funext j
                       show (if j = 23 then _ else _) = _
                       split
                       · rename_i h9; subst h9; rw [vup_ne (by decide), vup_ne (by decide)]; exact w3.symm
                       · rfl
                     rw [ev]
                     exact hR)
                  | (have hfs : ¬ (y ≠ 0 ∧ z < 0) := by first | exact fun h => h.1 cc_37 | exact fun h => absurd h.2 ce_41
                     have hft : ¬ (y ≠ 0 ∧ 40 < z) := by first | exact fun h => h.1 cc_52 | exact fun h => absurd h.2 ce_58
                     have eo : op_sheet (shV va) x y z = ((0, 1, (upd (shV va).1 (iN x) y, upd (shV va).2.1 (iN x) (if y = 0 then 0 else z), zfN (shV va).2.2 (iN x) 40)) : OpS) := by
                       unfold op_sheet
                       rw [if_pos hcc, if_neg hfs, if_neg hft]
                     rw [eo] at k
                     refine l_sheet (ra0 := va_up (va_up ra 21 (upd (ra 21) (iN x) y)) 22 (upd ((va_up ra 21 (upd (ra 21) (iN x) y)) 22) (iN x) z)) (iN x) ex (by omega) (shV va).2.2 (fun M hR => k _ (RefW.okS hR hv ⟨by rw [vup_ne (by decide), vup_ne (by decide), vup_ne (by decide)]; exact hw.1, by rw [vup_ne (by decide), vup_ne (by decide), vup_ne (by decide)]; exact hw.2.1, by rw [vup_ne (by decide), vup_ne (by decide), vup_eq, w1], by rw [vup_ne (by decide), vup_eq, vup_ne (by decide), w2]; first | rw [if_pos cc_81] | rw [if_neg cc_81], vup_eq⟩)) 40 0 _ _ (by omega) rfl ?_
                     have ev : va_up (va_up (va_up ra 21 (upd (ra 21) (iN x) y)) 22 (upd ((va_up ra 21 (upd (ra 21) (iN x) y)) 22) (iN x) z)) 23 (zfN (shV va).2.2 (iN x) 0) = (va_up (va_up ra 21 (upd (ra 21) (iN x) y)) 22 (upd ((va_up ra 21 (upd (ra 21) (iN x) y)) 22) (iN x) z)) := by
                       rw [zfN_0]
                       funext j
                       show (if j = 23 then _ else _) = _
                       split
                       · rename_i h9; subst h9; rw [vup_ne (by decide), vup_ne (by decide)]; exact w3.symm
                       · rfl
                     rw [ev]
                     exact hR)
              · refine ok_iconst (pc := 84) (v := 0) dX12_sheet_84 (by decide) ?_
                refine ok_goto (pc := 85) 89 dX12_sheet_85 (by decide) ?_
                refine ok_rst22 (pc := 89) (iN x) dX12_sheet_89 hR ex (by omega) (fun M hR => ?_)
                refine ok_iconst (pc := 90) (v := 0) dX12_sheet_90 (by decide) ?_
                refine ok_istore4 (pc := 91) dX12_sheet_91 (by decide) rfl ?_
                first
                  | exact absurd cc_52 cc_37
                  | exact absurd cc_37 cc_52
                  | exact absurd cc_81 cc_37
                  | exact absurd cc_37 cc_81
                  | (have hfs : ¬ (y ≠ 0 ∧ z < 0) := by first | exact fun h => h.1 cc_37 | exact fun h => absurd h.2 ce_41
                     have hft : ¬ (y ≠ 0 ∧ 40 < z) := by first | exact fun h => h.1 cc_52 | exact fun h => absurd h.2 ce_58
                     have eo : op_sheet (shV va) x y z = ((0, 1, (upd (shV va).1 (iN x) y, upd (shV va).2.1 (iN x) (if y = 0 then 0 else z), zfN (shV va).2.2 (iN x) 40)) : OpS) := by
                       unfold op_sheet
                       rw [if_pos hcc, if_neg hfs, if_neg hft]
                     rw [eo] at k
                     refine l_sheet (ra0 := va_up (va_up ra 21 (upd (ra 21) (iN x) y)) 22 (upd ((va_up ra 21 (upd (ra 21) (iN x) y)) 22) (iN x) 0)) (iN x) ex (by omega) (shV va).2.2 (fun M hR => k _ (RefW.okS hR hv ⟨by rw [vup_ne (by decide), vup_ne (by decide), vup_ne (by decide)]; exact hw.1, by rw [vup_ne (by decide), vup_ne (by decide), vup_ne (by decide)]; exact hw.2.1, by rw [vup_ne (by decide), vup_ne (by decide), vup_eq, w1], by rw [vup_ne (by decide), vup_eq, vup_ne (by decide), w2]; first | rw [if_pos cc_81] | rw [if_neg cc_81], vup_eq⟩)) 40 0 _ _ (by omega) rfl ?_
                     have ev : va_up (va_up (va_up ra 21 (upd (ra 21) (iN x) y)) 22 (upd ((va_up ra 21 (upd (ra 21) (iN x) y)) 22) (iN x) 0)) 23 (zfN (shV va).2.2 (iN x) 0) = (va_up (va_up ra 21 (upd (ra 21) (iN x) y)) 22 (upd ((va_up ra 21 (upd (ra 21) (iN x) y)) 22) (iN x) 0)) := by
                       rw [zfN_0]
                       funext j
                       show (if j = 23 then _ else _) = _
                       split
                       · rename_i h9; subst h9; rw [vup_ne (by decide), vup_ne (by decide)]; exact w3.symm
                       · rfl
                     rw [ev]
                     exact hR)
                  | (have hfs : ¬ (y ≠ 0 ∧ z < 0) := by first | exact fun h => h.1 cc_37 | exact fun h => absurd h.2 ce_41
                     have hft : ¬ (y ≠ 0 ∧ 40 < z) := by first | exact fun h => h.1 cc_52 | exact fun h => absurd h.2 ce_58
                     have eo : op_sheet (shV va) x y z = ((0, 1, (upd (shV va).1 (iN x) y, upd (shV va).2.1 (iN x) (if y = 0 then 0 else z), zfN (shV va).2.2 (iN x) 40)) : OpS) := by
                       unfold op_sheet
                       rw [if_pos hcc, if_neg hfs, if_neg hft]
                     rw [eo] at k
                     refine l_sheet (ra0 := va_up (va_up ra 21 (upd (ra 21) (iN x) y)) 22 (upd ((va_up ra 21 (upd (ra 21) (iN x) y)) 22) (iN x) z)) (iN x) ex (by omega) (shV va).2.2 (fun M hR => k _ (RefW.okS hR hv ⟨by rw [vup_ne (by decide), vup_ne (by decide), vup_ne (by decide)]; exact hw.1, by rw [vup_ne (by decide), vup_ne (by decide), vup_ne (by decide)]; exact hw.2.1, by rw [vup_ne (by decide), vup_ne (by decide), vup_eq, w1], by rw [vup_ne (by decide), vup_eq, vup_ne (by decide), w2]; first | rw [if_pos cc_81] | rw [if_neg cc_81], vup_eq⟩)) 40 0 _ _ (by omega) rfl ?_
                     have ev : va_up (va_up (va_up ra 21 (upd (ra 21) (iN x) y)) 22 (upd ((va_up ra 21 (upd (ra 21) (iN x) y)) 22) (iN x) z)) 23 (zfN (shV va).2.2 (iN x) 0) = (va_up (va_up ra 21 (upd (ra 21) (iN x) y)) 22 (upd ((va_up ra 21 (upd (ra 21) (iN x) y)) 22) (iN x) z)) := by
                       rw [zfN_0]
                       funext j
                       show (if j = 23 then _ else _) = _
                       split
                       · rename_i h9; subst h9; rw [vup_ne (by decide), vup_ne (by decide)]; exact w3.symm
                       · rfl
                     rw [ev]
                     exact hR)
            · refine ok_iload_n (pc := 55) dX12_sheet_55 rfl ?_
              refine ok_bipush (pc := 56) (v := 40) dX12_sheet_56 (by decide) ?_
              refine ok_icmp_le (pc := 58) 68 dX12_sheet_58 (by decide) (fun cc_58 => ?_) (fun cc_58 => ?_)
              · have ce_58 := Int32.not_lt.mpr cc_58
                obtain ⟨ex, -, lx⟩ := wi_lit (a := 0) (c := 3) rfl rfl (by decide) (by decide) cq_4
                refine ok_aload_n (pc := 68) dX12_sheet_68 rfl ?_
                refine ok_getf (pc := 69) dX12_sheet_69 fl_X12_53 hR.o rfl ?_
                refine ok_iload_n (pc := 72) dX12_sheet_72 rfl ?_
                refine ok_iload_n (pc := 73) dX12_sheet_73 rfl ?_
                refine ok_rst21 (pc := 74) (iN x) dX12_sheet_74 hR ex (by omega) (fun M hR => ?_)
                refine ok_aload_n (pc := 75) dX12_sheet_75 rfl ?_
                refine ok_getf (pc := 76) dX12_sheet_76 fl_X12_56 hR.o rfl ?_
                refine ok_iload_n (pc := 79) dX12_sheet_79 rfl ?_
                refine ok_iload_n (pc := 80) dX12_sheet_80 rfl ?_
                refine ok_if_ne (pc := 81) 88 dX12_sheet_81 (by decide) (fun cc_81 => ?_) (fun cc_81 => ?_)
                · refine ok_iload_n (pc := 88) dX12_sheet_88 rfl ?_
                  refine ok_rst22 (pc := 89) (iN x) dX12_sheet_89 hR ex (by omega) (fun M hR => ?_)
                  refine ok_iconst (pc := 90) (v := 0) dX12_sheet_90 (by decide) ?_
                  refine ok_istore4 (pc := 91) dX12_sheet_91 (by decide) rfl ?_
                  first
                    | exact absurd cc_52 cc_37
                    | exact absurd cc_37 cc_52
                    | exact absurd cc_81 cc_37
                    | exact absurd cc_37 cc_81
                    | (have hfs : ¬ (y ≠ 0 ∧ z < 0) := by first | exact fun h => h.1 cc_37 | exact fun h => absurd h.2 ce_41
                       have hft : ¬ (y ≠ 0 ∧ 40 < z) := by first | exact fun h => h.1 cc_52 | exact fun h => absurd h.2 ce_58
                       have eo : op_sheet (shV va) x y z = ((0, 1, (upd (shV va).1 (iN x) y, upd (shV va).2.1 (iN x) (if y = 0 then 0 else z), zfN (shV va).2.2 (iN x) 40)) : OpS) := by
                         unfold op_sheet
                         rw [if_pos hcc, if_neg hfs, if_neg hft]
                       rw [eo] at k
                       refine l_sheet (ra0 := va_up (va_up ra 21 (upd (ra 21) (iN x) y)) 22 (upd ((va_up ra 21 (upd (ra 21) (iN x) y)) 22) (iN x) 0)) (iN x) ex (by omega) (shV va).2.2 (fun M hR => k _ (RefW.okS hR hv ⟨by rw [vup_ne (by decide), vup_ne (by decide), vup_ne (by decide)]; exact hw.1, by rw [vup_ne (by decide), vup_ne (by decide), vup_ne (by decide)]; exact hw.2.1, by rw [vup_ne (by decide), vup_ne (by decide), vup_eq, w1], by rw [vup_ne (by decide), vup_eq, vup_ne (by decide), w2]; first | rw [if_pos cc_81] | rw [if_neg cc_81], vup_eq⟩)) 40 0 _ _ (by omega) rfl ?_
                       have ev : va_up (va_up (va_up ra 21 (upd (ra 21) (iN x) y)) 22 (upd ((va_up ra 21 (upd (ra 21) (iN x) y)) 22) (iN x) 0)) 23 (zfN (shV va).2.2 (iN x) 0) = (va_up (va_up ra 21 (upd (ra 21) (iN x) y)) 22 (upd ((va_up ra 21 (upd (ra 21) (iN x) y)) 22) (iN x) 0)) := by
                         rw [zfN_0]
                         funext j
                         show (if j = 23 then _ else _) = _
                         split
                         · rename_i h9; subst h9; rw [vup_ne (by decide), vup_ne (by decide)]; exact w3.symm
                         · rfl
                       rw [ev]
                       exact hR)
                    | (have hfs : ¬ (y ≠ 0 ∧ z < 0) := by first | exact fun h => h.1 cc_37 | exact fun h => absurd h.2 ce_41
                       have hft : ¬ (y ≠ 0 ∧ 40 < z) := by first | exact fun h => h.1 cc_52 | exact fun h => absurd h.2 ce_58
                       have eo : op_sheet (shV va) x y z = ((0, 1, (upd (shV va).1 (iN x) y, upd (shV va).2.1 (iN x) (if y = 0 then 0 else z), zfN (shV va).2.2 (iN x) 40)) : OpS) := by
                         unfold op_sheet
                         rw [if_pos hcc, if_neg hfs, if_neg hft]
                       rw [eo] at k
                       refine l_sheet (ra0 := va_up (va_up ra 21 (upd (ra 21) (iN x) y)) 22 (upd ((va_up ra 21 (upd (ra 21) (iN x) y)) 22) (iN x) z)) (iN x) ex (by omega) (shV va).2.2 (fun M hR => k _ (RefW.okS hR hv ⟨by rw [vup_ne (by decide), vup_ne (by decide), vup_ne (by decide)]; exact hw.1, by rw [vup_ne (by decide), vup_ne (by decide), vup_ne (by decide)]; exact hw.2.1, by rw [vup_ne (by decide), vup_ne (by decide), vup_eq, w1], by rw [vup_ne (by decide), vup_eq, vup_ne (by decide), w2]; first | rw [if_pos cc_81] | rw [if_neg cc_81], vup_eq⟩)) 40 0 _ _ (by omega) rfl ?_
                       have ev : va_up (va_up (va_up ra 21 (upd (ra 21) (iN x) y)) 22 (upd ((va_up ra 21 (upd (ra 21) (iN x) y)) 22) (iN x) z)) 23 (zfN (shV va).2.2 (iN x) 0) = (va_up (va_up ra 21 (upd (ra 21) (iN x) y)) 22 (upd ((va_up ra 21 (upd (ra 21) (iN x) y)) 22) (iN x) z)) := by
                         rw [zfN_0]
                         funext j
                         show (if j = 23 then _ else _) = _
                         split
                         · rename_i h9; subst h9; rw [vup_ne (by decide), vup_ne (by decide)]; exact w3.symm
                         · rfl
                       rw [ev]
                       exact hR)
                · refine ok_iconst (pc := 84) (v := 0) dX12_sheet_84 (by decide) ?_
                  refine ok_goto (pc := 85) 89 dX12_sheet_85 (by decide) ?_
                  refine ok_rst22 (pc := 89) (iN x) dX12_sheet_89 hR ex (by omega) (fun M hR => ?_)
                  refine ok_iconst (pc := 90) (v := 0) dX12_sheet_90 (by decide) ?_
                  refine ok_istore4 (pc := 91) dX12_sheet_91 (by decide) rfl ?_
                  first
                    | exact absurd cc_52 cc_37
                    | exact absurd cc_37 cc_52
                    | exact absurd cc_81 cc_37
                    | exact absurd cc_37 cc_81
                    | (have hfs : ¬ (y ≠ 0 ∧ z < 0) := by first | exact fun h => h.1 cc_37 | exact fun h => absurd h.2 ce_41
                       have hft : ¬ (y ≠ 0 ∧ 40 < z) := by first | exact fun h => h.1 cc_52 | exact fun h => absurd h.2 ce_58
                       have eo : op_sheet (shV va) x y z = ((0, 1, (upd (shV va).1 (iN x) y, upd (shV va).2.1 (iN x) (if y = 0 then 0 else z), zfN (shV va).2.2 (iN x) 40)) : OpS) := by
                         unfold op_sheet
                         rw [if_pos hcc, if_neg hfs, if_neg hft]
                       rw [eo] at k
                       refine l_sheet (ra0 := va_up (va_up ra 21 (upd (ra 21) (iN x) y)) 22 (upd ((va_up ra 21 (upd (ra 21) (iN x) y)) 22) (iN x) 0)) (iN x) ex (by omega) (shV va).2.2 (fun M hR => k _ (RefW.okS hR hv ⟨by rw [vup_ne (by decide), vup_ne (by decide), vup_ne (by decide)]; exact hw.1, by rw [vup_ne (by decide), vup_ne (by decide), vup_ne (by decide)]; exact hw.2.1, by rw [vup_ne (by decide), vup_ne (by decide), vup_eq, w1], by rw [vup_ne (by decide), vup_eq, vup_ne (by decide), w2]; first | rw [if_pos cc_81] | rw [if_neg cc_81], vup_eq⟩)) 40 0 _ _ (by omega) rfl ?_
                       have ev : va_up (va_up (va_up ra 21 (upd (ra 21) (iN x) y)) 22 (upd ((va_up ra 21 (upd (ra 21) (iN x) y)) 22) (iN x) 0)) 23 (zfN (shV va).2.2 (iN x) 0) = (va_up (va_up ra 21 (upd (ra 21) (iN x) y)) 22 (upd ((va_up ra 21 (upd (ra 21) (iN x) y)) 22) (iN x) 0)) := by
                         rw [zfN_0]
                         funext j
                         show (if j = 23 then _ else _) = _
                         split
                         · rename_i h9; subst h9; rw [vup_ne (by decide), vup_ne (by decide)]; exact w3.symm
                         · rfl
                       rw [ev]
                       exact hR)
                    | (have hfs : ¬ (y ≠ 0 ∧ z < 0) := by first | exact fun h => h.1 cc_37 | exact fun h => absurd h.2 ce_41
                       have hft : ¬ (y ≠ 0 ∧ 40 < z) := by first | exact fun h => h.1 cc_52 | exact fun h => absurd h.2 ce_58
                       have eo : op_sheet (shV va) x y z = ((0, 1, (upd (shV va).1 (iN x) y, upd (shV va).2.1 (iN x) (if y = 0 then 0 else z), zfN (shV va).2.2 (iN x) 40)) : OpS) := by
                         unfold op_sheet
                         rw [if_pos hcc, if_neg hfs, if_neg hft]
                       rw [eo] at k
                       refine l_sheet (ra0 := va_up (va_up ra 21 (upd (ra 21) (iN x) y)) 22 (upd ((va_up ra 21 (upd (ra 21) (iN x) y)) 22) (iN x) z)) (iN x) ex (by omega) (shV va).2.2 (fun M hR => k _ (RefW.okS hR hv ⟨by rw [vup_ne (by decide), vup_ne (by decide), vup_ne (by decide)]; exact hw.1, by rw [vup_ne (by decide), vup_ne (by decide), vup_ne (by decide)]; exact hw.2.1, by rw [vup_ne (by decide), vup_ne (by decide), vup_eq, w1], by rw [vup_ne (by decide), vup_eq, vup_ne (by decide), w2]; first | rw [if_pos cc_81] | rw [if_neg cc_81], vup_eq⟩)) 40 0 _ _ (by omega) rfl ?_
                       have ev : va_up (va_up (va_up ra 21 (upd (ra 21) (iN x) y)) 22 (upd ((va_up ra 21 (upd (ra 21) (iN x) y)) 22) (iN x) z)) 23 (zfN (shV va).2.2 (iN x) 0) = (va_up (va_up ra 21 (upd (ra 21) (iN x) y)) 22 (upd ((va_up ra 21 (upd (ra 21) (iN x) y)) 22) (iN x) z)) := by
                         rw [zfN_0]
                         funext j
                         show (if j = 23 then _ else _) = _
                         split
                         · rename_i h9; subst h9; rw [vup_ne (by decide), vup_ne (by decide)]; exact w3.symm
                         · rfl
                       rw [ev]
                       exact hR)
              · have ce_58 := Int32.not_le.mp cc_58
                refine ok_aload_n (pc := 61) dX12_sheet_61 rfl ?_
                refine ok_ldc (pc := 62) (v := -1000000001) dX12_sheet_62 tw_1205 ?_
                refine ok_callVi1 (pc := 64) (d' := 0) dX12_sheet_64 vl_X12_84 hR.o rfl rfl rfl (by decide) ?_
                refine r_finding hR 1 (by decide) (by decide) (fun M hR => ?_)
                refine ok_iret (pc := 67) dX12_sheet_67 rfl ?_
                first
                  | exact absurd cc_37 cc_52
                  | (have eo : op_sheet (shV va) x y z = ((1, -1000000001, shV va) : OpS) := by
                       unfold op_sheet
                       rw [if_pos hcc, if_neg (fun h => absurd h.2 ce_41), if_pos ⟨cc_52, ce_58⟩]
                       rfl
                     rw [eo] at k
                     exact k _ (RefW.errS 1 (by decide) hR hv hw))
          · refine ok_iload_n (pc := 40) dX12_sheet_40 rfl ?_
            refine ok_if_ge (pc := 41) 51 dX12_sheet_41 (by decide) (fun cc_41 => ?_) (fun cc_41 => ?_)
            · have ce_41 := Int32.not_lt.mpr cc_41
              refine ok_iload_n (pc := 51) dX12_sheet_51 rfl ?_
              refine ok_if_eq (pc := 52) 68 dX12_sheet_52 (by decide) (fun cc_52 => ?_) (fun cc_52 => ?_)
              · obtain ⟨ex, -, lx⟩ := wi_lit (a := 0) (c := 3) rfl rfl (by decide) (by decide) cq_4
                refine ok_aload_n (pc := 68) dX12_sheet_68 rfl ?_
                refine ok_getf (pc := 69) dX12_sheet_69 fl_X12_53 hR.o rfl ?_
                refine ok_iload_n (pc := 72) dX12_sheet_72 rfl ?_
                refine ok_iload_n (pc := 73) dX12_sheet_73 rfl ?_
                refine ok_rst21 (pc := 74) (iN x) dX12_sheet_74 hR ex (by omega) (fun M hR => ?_)
                refine ok_aload_n (pc := 75) dX12_sheet_75 rfl ?_
                refine ok_getf (pc := 76) dX12_sheet_76 fl_X12_56 hR.o rfl ?_
                refine ok_iload_n (pc := 79) dX12_sheet_79 rfl ?_
                refine ok_iload_n (pc := 80) dX12_sheet_80 rfl ?_
                refine ok_if_ne (pc := 81) 88 dX12_sheet_81 (by decide) (fun cc_81 => ?_) (fun cc_81 => ?_)
                · refine ok_iload_n (pc := 88) dX12_sheet_88 rfl ?_
                  refine ok_rst22 (pc := 89) (iN x) dX12_sheet_89 hR ex (by omega) (fun M hR => ?_)
                  refine ok_iconst (pc := 90) (v := 0) dX12_sheet_90 (by decide) ?_
                  refine ok_istore4 (pc := 91) dX12_sheet_91 (by decide) rfl ?_
                  first
                    | exact absurd cc_52 cc_37
                    | exact absurd cc_37 cc_52
                    | exact absurd cc_81 cc_37
                    | exact absurd cc_37 cc_81
                    | (have hfs : ¬ (y ≠ 0 ∧ z < 0) := by first | exact fun h => h.1 cc_37 | exact fun h => absurd h.2 ce_41
                       have hft : ¬ (y ≠ 0 ∧ 40 < z) := by first | exact fun h => h.1 cc_52 | exact fun h => absurd h.2 ce_58
                       have eo : op_sheet (shV va) x y z = ((0, 1, (upd (shV va).1 (iN x) y, upd (shV va).2.1 (iN x) (if y = 0 then 0 else z), zfN (shV va).2.2 (iN x) 40)) : OpS) := by
                         unfold op_sheet
                         rw [if_pos hcc, if_neg hfs, if_neg hft]
                       rw [eo] at k
                       refine l_sheet (ra0 := va_up (va_up ra 21 (upd (ra 21) (iN x) y)) 22 (upd ((va_up ra 21 (upd (ra 21) (iN x) y)) 22) (iN x) 0)) (iN x) ex (by omega) (shV va).2.2 (fun M hR => k _ (RefW.okS hR hv ⟨by rw [vup_ne (by decide), vup_ne (by decide), vup_ne (by decide)]; exact hw.1, by rw [vup_ne (by decide), vup_ne (by decide), vup_ne (by decide)]; exact hw.2.1, by rw [vup_ne (by decide), vup_ne (by decide), vup_eq, w1], by rw [vup_ne (by decide), vup_eq, vup_ne (by decide), w2]; first | rw [if_pos cc_81] | rw [if_neg cc_81], vup_eq⟩)) 40 0 _ _ (by omega) rfl ?_
                       have ev : va_up (va_up (va_up ra 21 (upd (ra 21) (iN x) y)) 22 (upd ((va_up ra 21 (upd (ra 21) (iN x) y)) 22) (iN x) 0)) 23 (zfN (shV va).2.2 (iN x) 0) = (va_up (va_up ra 21 (upd (ra 21) (iN x) y)) 22 (upd ((va_up ra 21 (upd (ra 21) (iN x) y)) 22) (iN x) 0)) := by
                         rw [zfN_0]
                         funext j
                         show (if j = 23 then _ else _) = _
                         split
                         · rename_i h9; subst h9; rw [vup_ne (by decide), vup_ne (by decide)]; exact w3.symm
                         · rfl
                       rw [ev]
                       exact hR)
                    | (have hfs : ¬ (y ≠ 0 ∧ z < 0) := by first | exact fun h => h.1 cc_37 | exact fun h => absurd h.2 ce_41
                       have hft : ¬ (y ≠ 0 ∧ 40 < z) := by first | exact fun h => h.1 cc_52 | exact fun h => absurd h.2 ce_58
                       have eo : op_sheet (shV va) x y z = ((0, 1, (upd (shV va).1 (iN x) y, upd (shV va).2.1 (iN x) (if y = 0 then 0 else z), zfN (shV va).2.2 (iN x) 40)) : OpS) := by
                         unfold op_sheet
                         rw [if_pos hcc, if_neg hfs, if_neg hft]
                       rw [eo] at k
                       refine l_sheet (ra0 := va_up (va_up ra 21 (upd (ra 21) (iN x) y)) 22 (upd ((va_up ra 21 (upd (ra 21) (iN x) y)) 22) (iN x) z)) (iN x) ex (by omega) (shV va).2.2 (fun M hR => k _ (RefW.okS hR hv ⟨by rw [vup_ne (by decide), vup_ne (by decide), vup_ne (by decide)]; exact hw.1, by rw [vup_ne (by decide), vup_ne (by decide), vup_ne (by decide)]; exact hw.2.1, by rw [vup_ne (by decide), vup_ne (by decide), vup_eq, w1], by rw [vup_ne (by decide), vup_eq, vup_ne (by decide), w2]; first | rw [if_pos cc_81] | rw [if_neg cc_81], vup_eq⟩)) 40 0 _ _ (by omega) rfl ?_
                       have ev : va_up (va_up (va_up ra 21 (upd (ra 21) (iN x) y)) 22 (upd ((va_up ra 21 (upd (ra 21) (iN x) y)) 22) (iN x) z)) 23 (zfN (shV va).2.2 (iN x) 0) = (va_up (va_up ra 21 (upd (ra 21) (iN x) y)) 22 (upd ((va_up ra 21 (upd (ra 21) (iN x) y)) 22) (iN x) z)) := by
                         rw [zfN_0]
                         funext j
                         show (if j = 23 then _ else _) = _
                         split
                         · rename_i h9; subst h9; rw [vup_ne (by decide), vup_ne (by decide)]; exact w3.symm
                         · rfl
                       rw [ev]
                       exact hR)
                · refine ok_iconst (pc := 84) (v := 0) dX12_sheet_84 (by decide) ?_
                  refine ok_goto (pc := 85) 89 dX12_sheet_85 (by decide) ?_
                  refine ok_rst22 (pc := 89) (iN x) dX12_sheet_89 hR ex (by omega) (fun M hR => ?_)
                  refine ok_iconst (pc := 90) (v := 0) dX12_sheet_90 (by decide) ?_
                  refine ok_istore4 (pc := 91) dX12_sheet_91 (by decide) rfl ?_
                  first
                    | exact absurd cc_52 cc_37
                    | exact absurd cc_37 cc_52
                    | exact absurd cc_81 cc_37
                    | exact absurd cc_37 cc_81
                    | (have hfs : ¬ (y ≠ 0 ∧ z < 0) := by first | exact fun h => h.1 cc_37 | exact fun h => absurd h.2 ce_41
                       have hft : ¬ (y ≠ 0 ∧ 40 < z) := by first | exact fun h => h.1 cc_52 | exact fun h => absurd h.2 ce_58
                       have eo : op_sheet (shV va) x y z = ((0, 1, (upd (shV va).1 (iN x) y, upd (shV va).2.1 (iN x) (if y = 0 then 0 else z), zfN (shV va).2.2 (iN x) 40)) : OpS) := by
                         unfold op_sheet
                         rw [if_pos hcc, if_neg hfs, if_neg hft]
                       rw [eo] at k
                       refine l_sheet (ra0 := va_up (va_up ra 21 (upd (ra 21) (iN x) y)) 22 (upd ((va_up ra 21 (upd (ra 21) (iN x) y)) 22) (iN x) 0)) (iN x) ex (by omega) (shV va).2.2 (fun M hR => k _ (RefW.okS hR hv ⟨by rw [vup_ne (by decide), vup_ne (by decide), vup_ne (by decide)]; exact hw.1, by rw [vup_ne (by decide), vup_ne (by decide), vup_ne (by decide)]; exact hw.2.1, by rw [vup_ne (by decide), vup_ne (by decide), vup_eq, w1], by rw [vup_ne (by decide), vup_eq, vup_ne (by decide), w2]; first | rw [if_pos cc_81] | rw [if_neg cc_81], vup_eq⟩)) 40 0 _ _ (by omega) rfl ?_
                       have ev : va_up (va_up (va_up ra 21 (upd (ra 21) (iN x) y)) 22 (upd ((va_up ra 21 (upd (ra 21) (iN x) y)) 22) (iN x) 0)) 23 (zfN (shV va).2.2 (iN x) 0) = (va_up (va_up ra 21 (upd (ra 21) (iN x) y)) 22 (upd ((va_up ra 21 (upd (ra 21) (iN x) y)) 22) (iN x) 0)) := by
                         rw [zfN_0]
                         funext j
                         show (if j = 23 then _ else _) = _
                         split
                         · rename_i h9; subst h9; rw [vup_ne (by decide), vup_ne (by decide)]; exact w3.symm
                         · rfl
                       rw [ev]
                       exact hR)
                    | (have hfs : ¬ (y ≠ 0 ∧ z < 0) := by first | exact fun h => h.1 cc_37 | exact fun h => absurd h.2 ce_41
                       have hft : ¬ (y ≠ 0 ∧ 40 < z) := by first | exact fun h => h.1 cc_52 | exact fun h => absurd h.2 ce_58
                       have eo : op_sheet (shV va) x y z = ((0, 1, (upd (shV va).1 (iN x) y, upd (shV va).2.1 (iN x) (if y = 0 then 0 else z), zfN (shV va).2.2 (iN x) 40)) : OpS) := by
                         unfold op_sheet
                         rw [if_pos hcc, if_neg hfs, if_neg hft]
                       rw [eo] at k
                       refine l_sheet (ra0 := va_up (va_up ra 21 (upd (ra 21) (iN x) y)) 22 (upd ((va_up ra 21 (upd (ra 21) (iN x) y)) 22) (iN x) z)) (iN x) ex (by omega) (shV va).2.2 (fun M hR => k _ (RefW.okS hR hv ⟨by rw [vup_ne (by decide), vup_ne (by decide), vup_ne (by decide)]; exact hw.1, by rw [vup_ne (by decide), vup_ne (by decide), vup_ne (by decide)]; exact hw.2.1, by rw [vup_ne (by decide), vup_ne (by decide), vup_eq, w1], by rw [vup_ne (by decide), vup_eq, vup_ne (by decide), w2]; first | rw [if_pos cc_81] | rw [if_neg cc_81], vup_eq⟩)) 40 0 _ _ (by omega) rfl ?_
                       have ev : va_up (va_up (va_up ra 21 (upd (ra 21) (iN x) y)) 22 (upd ((va_up ra 21 (upd (ra 21) (iN x) y)) 22) (iN x) z)) 23 (zfN (shV va).2.2 (iN x) 0) = (va_up (va_up ra 21 (upd (ra 21) (iN x) y)) 22 (upd ((va_up ra 21 (upd (ra 21) (iN x) y)) 22) (iN x) z)) := by
                         rw [zfN_0]
                         funext j
                         show (if j = 23 then _ else _) = _
                         split
                         · rename_i h9; subst h9; rw [vup_ne (by decide), vup_ne (by decide)]; exact w3.symm
                         · rfl
                       rw [ev]
                       exact hR)
              · refine ok_iload_n (pc := 55) dX12_sheet_55 rfl ?_
                refine ok_bipush (pc := 56) (v := 40) dX12_sheet_56 (by decide) ?_
                refine ok_icmp_le (pc := 58) 68 dX12_sheet_58 (by decide) (fun cc_58 => ?_) (fun cc_58 => ?_)
                · have ce_58 := Int32.not_lt.mpr cc_58
                  obtain ⟨ex, -, lx⟩ := wi_lit (a := 0) (c := 3) rfl rfl (by decide) (by decide) cq_4
                  refine ok_aload_n (pc := 68) dX12_sheet_68 rfl ?_
                  refine ok_getf (pc := 69) dX12_sheet_69 fl_X12_53 hR.o rfl ?_
                  refine ok_iload_n (pc := 72) dX12_sheet_72 rfl ?_
                  refine ok_iload_n (pc := 73) dX12_sheet_73 rfl ?_
                  refine ok_rst21 (pc := 74) (iN x) dX12_sheet_74 hR ex (by omega) (fun M hR => ?_)
                  refine ok_aload_n (pc := 75) dX12_sheet_75 rfl ?_
                  refine ok_getf (pc := 76) dX12_sheet_76 fl_X12_56 hR.o rfl ?_
                  refine ok_iload_n (pc := 79) dX12_sheet_79 rfl ?_
                  refine ok_iload_n (pc := 80) dX12_sheet_80 rfl ?_
                  refine ok_if_ne (pc := 81) 88 dX12_sheet_81 (by decide) (fun cc_81 => ?_) (fun cc_81 => ?_)
                  · refine ok_iload_n (pc := 88) dX12_sheet_88 rfl ?_
                    refine ok_rst22 (pc := 89) (iN x) dX12_sheet_89 hR ex (by omega) (fun M hR => ?_)
                    refine ok_iconst (pc := 90) (v := 0) dX12_sheet_90 (by decide) ?_
                    refine ok_istore4 (pc := 91) dX12_sheet_91 (by decide) rfl ?_
                    first
                      | exact absurd cc_52 cc_37
                      | exact absurd cc_37 cc_52
                      | exact absurd cc_81 cc_37
                      | exact absurd cc_37 cc_81
                      | (have hfs : ¬ (y ≠ 0 ∧ z < 0) := by first | exact fun h => h.1 cc_37 | exact fun h => absurd h.2 ce_41
                         have hft : ¬ (y ≠ 0 ∧ 40 < z) := by first | exact fun h => h.1 cc_52 | exact fun h => absurd h.2 ce_58
                         have eo : op_sheet (shV va) x y z = ((0, 1, (upd (shV va).1 (iN x) y, upd (shV va).2.1 (iN x) (if y = 0 then 0 else z), zfN (shV va).2.2 (iN x) 40)) : OpS) := by
                           unfold op_sheet
                           rw [if_pos hcc, if_neg hfs, if_neg hft]
                         rw [eo] at k
                         refine l_sheet (ra0 := va_up (va_up ra 21 (upd (ra 21) (iN x) y)) 22 (upd ((va_up ra 21 (upd (ra 21) (iN x) y)) 22) (iN x) 0)) (iN x) ex (by omega) (shV va).2.2 (fun M hR => k _ (RefW.okS hR hv ⟨by rw [vup_ne (by decide), vup_ne (by decide), vup_ne (by decide)]; exact hw.1, by rw [vup_ne (by decide), vup_ne (by decide), vup_ne (by decide)]; exact hw.2.1, by rw [vup_ne (by decide), vup_ne (by decide), vup_eq, w1], by rw [vup_ne (by decide), vup_eq, vup_ne (by decide), w2]; first | rw [if_pos cc_81] | rw [if_neg cc_81], vup_eq⟩)) 40 0 _ _ (by omega) rfl ?_
                         have ev : va_up (va_up (va_up ra 21 (upd (ra 21) (iN x) y)) 22 (upd ((va_up ra 21 (upd (ra 21) (iN x) y)) 22) (iN x) 0)) 23 (zfN (shV va).2.2 (iN x) 0) = (va_up (va_up ra 21 (upd (ra 21) (iN x) y)) 22 (upd ((va_up ra 21 (upd (ra 21) (iN x) y)) 22) (iN x) 0)) := by
                           rw [zfN_0]
                           funext j
                           show (if j = 23 then _ else _) = _
                           split
                           · rename_i h9; subst h9; rw [vup_ne (by decide), vup_ne (by decide)]; exact w3.symm
                           · rfl
                         rw [ev]
                         exact hR)
                      | (have hfs : ¬ (y ≠ 0 ∧ z < 0) := by first | exact fun h => h.1 cc_37 | exact fun h => absurd h.2 ce_41
                         have hft : ¬ (y ≠ 0 ∧ 40 < z) := by first | exact fun h => h.1 cc_52 | exact fun h => absurd h.2 ce_58
                         have eo : op_sheet (shV va) x y z = ((0, 1, (upd (shV va).1 (iN x) y, upd (shV va).2.1 (iN x) (if y = 0 then 0 else z), zfN (shV va).2.2 (iN x) 40)) : OpS) := by
                           unfold op_sheet
                           rw [if_pos hcc, if_neg hfs, if_neg hft]
                         rw [eo] at k
                         refine l_sheet (ra0 := va_up (va_up ra 21 (upd (ra 21) (iN x) y)) 22 (upd ((va_up ra 21 (upd (ra 21) (iN x) y)) 22) (iN x) z)) (iN x) ex (by omega) (shV va).2.2 (fun M hR => k _ (RefW.okS hR hv ⟨by rw [vup_ne (by decide), vup_ne (by decide), vup_ne (by decide)]; exact hw.1, by rw [vup_ne (by decide), vup_ne (by decide), vup_ne (by decide)]; exact hw.2.1, by rw [vup_ne (by decide), vup_ne (by decide), vup_eq, w1], by rw [vup_ne (by decide), vup_eq, vup_ne (by decide), w2]; first | rw [if_pos cc_81] | rw [if_neg cc_81], vup_eq⟩)) 40 0 _ _ (by omega) rfl ?_
                         have ev : va_up (va_up (va_up ra 21 (upd (ra 21) (iN x) y)) 22 (upd ((va_up ra 21 (upd (ra 21) (iN x) y)) 22) (iN x) z)) 23 (zfN (shV va).2.2 (iN x) 0) = (va_up (va_up ra 21 (upd (ra 21) (iN x) y)) 22 (upd ((va_up ra 21 (upd (ra 21) (iN x) y)) 22) (iN x) z)) := by
                           rw [zfN_0]
                           funext j
                           show (if j = 23 then _ else _) = _
                           split
                           · rename_i h9; subst h9; rw [vup_ne (by decide), vup_ne (by decide)]; exact w3.symm
                           · rfl
                         rw [ev]
                         exact hR)
                  · refine ok_iconst (pc := 84) (v := 0) dX12_sheet_84 (by decide) ?_
                    refine ok_goto (pc := 85) 89 dX12_sheet_85 (by decide) ?_
                    refine ok_rst22 (pc := 89) (iN x) dX12_sheet_89 hR ex (by omega) (fun M hR => ?_)
                    refine ok_iconst (pc := 90) (v := 0) dX12_sheet_90 (by decide) ?_
                    refine ok_istore4 (pc := 91) dX12_sheet_91 (by decide) rfl ?_
                    first
                      | exact absurd cc_52 cc_37
                      | exact absurd cc_37 cc_52
                      | exact absurd cc_81 cc_37
                      | exact absurd cc_37 cc_81
                      | (have hfs : ¬ (y ≠ 0 ∧ z < 0) := by first | exact fun h => h.1 cc_37 | exact fun h => absurd h.2 ce_41
                         have hft : ¬ (y ≠ 0 ∧ 40 < z) := by first | exact fun h => h.1 cc_52 | exact fun h => absurd h.2 ce_58
                         have eo : op_sheet (shV va) x y z = ((0, 1, (upd (shV va).1 (iN x) y, upd (shV va).2.1 (iN x) (if y = 0 then 0 else z), zfN (shV va).2.2 (iN x) 40)) : OpS) := by
                           unfold op_sheet
                           rw [if_pos hcc, if_neg hfs, if_neg hft]
                         rw [eo] at k
                         refine l_sheet (ra0 := va_up (va_up ra 21 (upd (ra 21) (iN x) y)) 22 (upd ((va_up ra 21 (upd (ra 21) (iN x) y)) 22) (iN x) 0)) (iN x) ex (by omega) (shV va).2.2 (fun M hR => k _ (RefW.okS hR hv ⟨by rw [vup_ne (by decide), vup_ne (by decide), vup_ne (by decide)]; exact hw.1, by rw [vup_ne (by decide), vup_ne (by decide), vup_ne (by decide)]; exact hw.2.1, by rw [vup_ne (by decide), vup_ne (by decide), vup_eq, w1], by rw [vup_ne (by decide), vup_eq, vup_ne (by decide), w2]; first | rw [if_pos cc_81] | rw [if_neg cc_81], vup_eq⟩)) 40 0 _ _ (by omega) rfl ?_
                         have ev : va_up (va_up (va_up ra 21 (upd (ra 21) (iN x) y)) 22 (upd ((va_up ra 21 (upd (ra 21) (iN x) y)) 22) (iN x) 0)) 23 (zfN (shV va).2.2 (iN x) 0) = (va_up (va_up ra 21 (upd (ra 21) (iN x) y)) 22 (upd ((va_up ra 21 (upd (ra 21) (iN x) y)) 22) (iN x) 0)) := by
                           rw [zfN_0]
                           funext j
                           show (if j = 23 then _ else _) = _
                           split
                           · rename_i h9; subst h9; rw [vup_ne (by decide), vup_ne (by decide)]; exact w3.symm
                           · rfl
                         rw [ev]
                         exact hR)
                      | (have hfs : ¬ (y ≠ 0 ∧ z < 0) := by first | exact fun h => h.1 cc_37 | exact fun h => absurd h.2 ce_41
                         have hft : ¬ (y ≠ 0 ∧ 40 < z) := by first | exact fun h => h.1 cc_52 | exact fun h => absurd h.2 ce_58
                         have eo : op_sheet (shV va) x y z = ((0, 1, (upd (shV va).1 (iN x) y, upd (shV va).2.1 (iN x) (if y = 0 then 0 else z), zfN (shV va).2.2 (iN x) 40)) : OpS) := by
                           unfold op_sheet
                           rw [if_pos hcc, if_neg hfs, if_neg hft]
                         rw [eo] at k
                         refine l_sheet (ra0 := va_up (va_up ra 21 (upd (ra 21) (iN x) y)) 22 (upd ((va_up ra 21 (upd (ra 21) (iN x) y)) 22) (iN x) z)) (iN x) ex (by omega) (shV va).2.2 (fun M hR => k _ (RefW.okS hR hv ⟨by rw [vup_ne (by decide), vup_ne (by decide), vup_ne (by decide)]; exact hw.1, by rw [vup_ne (by decide), vup_ne (by decide), vup_ne (by decide)]; exact hw.2.1, by rw [vup_ne (by decide), vup_ne (by decide), vup_eq, w1], by rw [vup_ne (by decide), vup_eq, vup_ne (by decide), w2]; first | rw [if_pos cc_81] | rw [if_neg cc_81], vup_eq⟩)) 40 0 _ _ (by omega) rfl ?_
                         have ev : va_up (va_up (va_up ra 21 (upd (ra 21) (iN x) y)) 22 (upd ((va_up ra 21 (upd (ra 21) (iN x) y)) 22) (iN x) z)) 23 (zfN (shV va).2.2 (iN x) 0) = (va_up (va_up ra 21 (upd (ra 21) (iN x) y)) 22 (upd ((va_up ra 21 (upd (ra 21) (iN x) y)) 22) (iN x) z)) := by
                           rw [zfN_0]
                           funext j
                           show (if j = 23 then _ else _) = _
                           split
                           · rename_i h9; subst h9; rw [vup_ne (by decide), vup_ne (by decide)]; exact w3.symm
                           · rfl
                         rw [ev]
                         exact hR)
                · have ce_58 := Int32.not_le.mp cc_58
                  refine ok_aload_n (pc := 61) dX12_sheet_61 rfl ?_
                  refine ok_ldc (pc := 62) (v := -1000000001) dX12_sheet_62 tw_1205 ?_
                  refine ok_callVi1 (pc := 64) (d' := 0) dX12_sheet_64 vl_X12_84 hR.o rfl rfl rfl (by decide) ?_
                  refine r_finding hR 1 (by decide) (by decide) (fun M hR => ?_)
                  refine ok_iret (pc := 67) dX12_sheet_67 rfl ?_
                  first
                    | exact absurd cc_37 cc_52
                    | (have eo : op_sheet (shV va) x y z = ((1, -1000000001, shV va) : OpS) := by
                         unfold op_sheet
                         rw [if_pos hcc, if_neg (fun h => absurd h.2 ce_41), if_pos ⟨cc_52, ce_58⟩]
                         rfl
                       rw [eo] at k
                       exact k _ (RefW.errS 1 (by decide) hR hv hw))
            · have ce_41 := Int32.not_le.mp cc_41
              refine ok_aload_n (pc := 44) dX12_sheet_44 rfl ?_
              refine ok_ldc (pc := 45) (v := -1000000003) dX12_sheet_45 tw_1215 ?_
              refine ok_callVi1 (pc := 47) (d' := 0) dX12_sheet_47 vl_X12_84 hR.o rfl rfl rfl (by decide) ?_
              refine r_finding hR 3 (by decide) (by decide) (fun M hR => ?_)
              refine ok_iret (pc := 50) dX12_sheet_50 rfl ?_
              have eo : op_sheet (shV va) x y z = ((3, -1000000003, shV va) : OpS) := by
                unfold op_sheet
                rw [if_pos hcc, if_pos ⟨cc_37, ce_41⟩]
                rfl
              rw [eo] at k
              exact k _ (RefW.errS 3 (by decide) hR hv hw)
        · refine ok_iload_n (pc := 23) dX12_sheet_23 rfl ?_
          refine ok_bipush (pc := 24) (v := 32) dX12_sheet_24 (by decide) ?_
          refine ok_icmp_eq (pc := 26) 36 dX12_sheet_26 (by decide) (fun cc_26 => ?_) (fun cc_26 => ?_)
          · have hb : isB y = true := by first | (simp [isB, cc_8]; done) | (simp [isB, cc_14]; done) | (simp [isB, cc_20]; done) | (simp [isB, cc_26]; done)
            have hcc : (wi x 0 3 && isB y) = true := by rw [cq_4, hb]; rfl
            refine ok_iload_n (pc := 36) dX12_sheet_36 rfl ?_
            refine ok_if_eq (pc := 37) 51 dX12_sheet_37 (by decide) (fun cc_37 => ?_) (fun cc_37 => ?_)
            · refine ok_iload_n (pc := 51) dX12_sheet_51 rfl ?_
              refine ok_if_eq (pc := 52) 68 dX12_sheet_52 (by decide) (fun cc_52 => ?_) (fun cc_52 => ?_)
              · obtain ⟨ex, -, lx⟩ := wi_lit (a := 0) (c := 3) rfl rfl (by decide) (by decide) cq_4
                refine ok_aload_n (pc := 68) dX12_sheet_68 rfl ?_
                refine ok_getf (pc := 69) dX12_sheet_69 fl_X12_53 hR.o rfl ?_
                refine ok_iload_n (pc := 72) dX12_sheet_72 rfl ?_
                refine ok_iload_n (pc := 73) dX12_sheet_73 rfl ?_
                refine ok_rst21 (pc := 74) (iN x) dX12_sheet_74 hR ex (by omega) (fun M hR => ?_)
                refine ok_aload_n (pc := 75) dX12_sheet_75 rfl ?_
                refine ok_getf (pc := 76) dX12_sheet_76 fl_X12_56 hR.o rfl ?_
                refine ok_iload_n (pc := 79) dX12_sheet_79 rfl ?_
                refine ok_iload_n (pc := 80) dX12_sheet_80 rfl ?_
                refine ok_if_ne (pc := 81) 88 dX12_sheet_81 (by decide) (fun cc_81 => ?_) (fun cc_81 => ?_)
                · refine ok_iload_n (pc := 88) dX12_sheet_88 rfl ?_
                  refine ok_rst22 (pc := 89) (iN x) dX12_sheet_89 hR ex (by omega) (fun M hR => ?_)
                  refine ok_iconst (pc := 90) (v := 0) dX12_sheet_90 (by decide) ?_
                  refine ok_istore4 (pc := 91) dX12_sheet_91 (by decide) rfl ?_
                  first
                    | exact absurd cc_52 cc_37
                    | exact absurd cc_37 cc_52
                    | exact absurd cc_81 cc_37
                    | exact absurd cc_37 cc_81
                    | (have hfs : ¬ (y ≠ 0 ∧ z < 0) := by first | exact fun h => h.1 cc_37 | exact fun h => absurd h.2 ce_41
                       have hft : ¬ (y ≠ 0 ∧ 40 < z) := by first | exact fun h => h.1 cc_52 | exact fun h => absurd h.2 ce_58
                       have eo : op_sheet (shV va) x y z = ((0, 1, (upd (shV va).1 (iN x) y, upd (shV va).2.1 (iN x) (if y = 0 then 0 else z), zfN (shV va).2.2 (iN x) 40)) : OpS) := by
                         unfold op_sheet
                         rw [if_pos hcc, if_neg hfs, if_neg hft]
                       rw [eo] at k
                       refine l_sheet (ra0 := va_up (va_up ra 21 (upd (ra 21) (iN x) y)) 22 (upd ((va_up ra 21 (upd (ra 21) (iN x) y)) 22) (iN x) 0)) (iN x) ex (by omega) (shV va).2.2 (fun M hR => k _ (RefW.okS hR hv ⟨by rw [vup_ne (by decide), vup_ne (by decide), vup_ne (by decide)]; exact hw.1, by rw [vup_ne (by decide), vup_ne (by decide), vup_ne (by decide)]; exact hw.2.1, by rw [vup_ne (by decide), vup_ne (by decide), vup_eq, w1], by rw [vup_ne (by decide), vup_eq, vup_ne (by decide), w2]; first | rw [if_pos cc_81] | rw [if_neg cc_81], vup_eq⟩)) 40 0 _ _ (by omega) rfl ?_
                       have ev : va_up (va_up (va_up ra 21 (upd (ra 21) (iN x) y)) 22 (upd ((va_up ra 21 (upd (ra 21) (iN x) y)) 22) (iN x) 0)) 23 (zfN (shV va).2.2 (iN x) 0) = (va_up (va_up ra 21 (upd (ra 21) (iN x) y)) 22 (upd ((va_up ra 21 (upd (ra 21) (iN x) y)) 22) (iN x) 0)) := by
                         rw [zfN_0]
                         funext j
                         show (if j = 23 then _ else _) = _
                         split
                         · rename_i h9; subst h9; rw [vup_ne (by decide), vup_ne (by decide)]; exact w3.symm
                         · rfl
                       rw [ev]
                       exact hR)
                    | (have hfs : ¬ (y ≠ 0 ∧ z < 0) := by first | exact fun h => h.1 cc_37 | exact fun h => absurd h.2 ce_41
                       have hft : ¬ (y ≠ 0 ∧ 40 < z) := by first | exact fun h => h.1 cc_52 | exact fun h => absurd h.2 ce_58
                       have eo : op_sheet (shV va) x y z = ((0, 1, (upd (shV va).1 (iN x) y, upd (shV va).2.1 (iN x) (if y = 0 then 0 else z), zfN (shV va).2.2 (iN x) 40)) : OpS) := by
                         unfold op_sheet
                         rw [if_pos hcc, if_neg hfs, if_neg hft]
                       rw [eo] at k
                       refine l_sheet (ra0 := va_up (va_up ra 21 (upd (ra 21) (iN x) y)) 22 (upd ((va_up ra 21 (upd (ra 21) (iN x) y)) 22) (iN x) z)) (iN x) ex (by omega) (shV va).2.2 (fun M hR => k _ (RefW.okS hR hv ⟨by rw [vup_ne (by decide), vup_ne (by decide), vup_ne (by decide)]; exact hw.1, by rw [vup_ne (by decide), vup_ne (by decide), vup_ne (by decide)]; exact hw.2.1, by rw [vup_ne (by decide), vup_ne (by decide), vup_eq, w1], by rw [vup_ne (by decide), vup_eq, vup_ne (by decide), w2]; first | rw [if_pos cc_81] | rw [if_neg cc_81], vup_eq⟩)) 40 0 _ _ (by omega) rfl ?_
                       have ev : va_up (va_up (va_up ra 21 (upd (ra 21) (iN x) y)) 22 (upd ((va_up ra 21 (upd (ra 21) (iN x) y)) 22) (iN x) z)) 23 (zfN (shV va).2.2 (iN x) 0) = (va_up (va_up ra 21 (upd (ra 21) (iN x) y)) 22 (upd ((va_up ra 21 (upd (ra 21) (iN x) y)) 22) (iN x) z)) := by
                         rw [zfN_0]
                         funext j
                         show (if j = 23 then _ else _) = _
                         split
                         · rename_i h9; subst h9; rw [vup_ne (by decide), vup_ne (by decide)]; exact w3.symm
                         · rfl
                       rw [ev]
                       exact hR)
                · refine ok_iconst (pc := 84) (v := 0) dX12_sheet_84 (by decide) ?_
                  refine ok_goto (pc := 85) 89 dX12_sheet_85 (by decide) ?_
                  refine ok_rst22 (pc := 89) (iN x) dX12_sheet_89 hR ex (by omega) (fun M hR => ?_)
                  refine ok_iconst (pc := 90) (v := 0) dX12_sheet_90 (by decide) ?_
                  refine ok_istore4 (pc := 91) dX12_sheet_91 (by decide) rfl ?_
                  first
                    | exact absurd cc_52 cc_37
                    | exact absurd cc_37 cc_52
                    | exact absurd cc_81 cc_37
                    | exact absurd cc_37 cc_81
                    | (have hfs : ¬ (y ≠ 0 ∧ z < 0) := by first | exact fun h => h.1 cc_37 | exact fun h => absurd h.2 ce_41
                       have hft : ¬ (y ≠ 0 ∧ 40 < z) := by first | exact fun h => h.1 cc_52 | exact fun h => absurd h.2 ce_58
                       have eo : op_sheet (shV va) x y z = ((0, 1, (upd (shV va).1 (iN x) y, upd (shV va).2.1 (iN x) (if y = 0 then 0 else z), zfN (shV va).2.2 (iN x) 40)) : OpS) := by
                         unfold op_sheet
                         rw [if_pos hcc, if_neg hfs, if_neg hft]
                       rw [eo] at k
                       refine l_sheet (ra0 := va_up (va_up ra 21 (upd (ra 21) (iN x) y)) 22 (upd ((va_up ra 21 (upd (ra 21) (iN x) y)) 22) (iN x) 0)) (iN x) ex (by omega) (shV va).2.2 (fun M hR => k _ (RefW.okS hR hv ⟨by rw [vup_ne (by decide), vup_ne (by decide), vup_ne (by decide)]; exact hw.1, by rw [vup_ne (by decide), vup_ne (by decide), vup_ne (by decide)]; exact hw.2.1, by rw [vup_ne (by decide), vup_ne (by decide), vup_eq, w1], by rw [vup_ne (by decide), vup_eq, vup_ne (by decide), w2]; first | rw [if_pos cc_81] | rw [if_neg cc_81], vup_eq⟩)) 40 0 _ _ (by omega) rfl ?_
                       have ev : va_up (va_up (va_up ra 21 (upd (ra 21) (iN x) y)) 22 (upd ((va_up ra 21 (upd (ra 21) (iN x) y)) 22) (iN x) 0)) 23 (zfN (shV va).2.2 (iN x) 0) = (va_up (va_up ra 21 (upd (ra 21) (iN x) y)) 22 (upd ((va_up ra 21 (upd (ra 21) (iN x) y)) 22) (iN x) 0)) := by
                         rw [zfN_0]
                         funext j
                         show (if j = 23 then _ else _) = _
                         split
                         · rename_i h9; subst h9; rw [vup_ne (by decide), vup_ne (by decide)]; exact w3.symm
                         · rfl
                       rw [ev]
                       exact hR)
                    | (have hfs : ¬ (y ≠ 0 ∧ z < 0) := by first | exact fun h => h.1 cc_37 | exact fun h => absurd h.2 ce_41
                       have hft : ¬ (y ≠ 0 ∧ 40 < z) := by first | exact fun h => h.1 cc_52 | exact fun h => absurd h.2 ce_58
                       have eo : op_sheet (shV va) x y z = ((0, 1, (upd (shV va).1 (iN x) y, upd (shV va).2.1 (iN x) (if y = 0 then 0 else z), zfN (shV va).2.2 (iN x) 40)) : OpS) := by
                         unfold op_sheet
                         rw [if_pos hcc, if_neg hfs, if_neg hft]
                       rw [eo] at k
                       refine l_sheet (ra0 := va_up (va_up ra 21 (upd (ra 21) (iN x) y)) 22 (upd ((va_up ra 21 (upd (ra 21) (iN x) y)) 22) (iN x) z)) (iN x) ex (by omega) (shV va).2.2 (fun M hR => k _ (RefW.okS hR hv ⟨by rw [vup_ne (by decide), vup_ne (by decide), vup_ne (by decide)]; exact hw.1, by rw [vup_ne (by decide), vup_ne (by decide), vup_ne (by decide)]; exact hw.2.1, by rw [vup_ne (by decide), vup_ne (by decide), vup_eq, w1], by rw [vup_ne (by decide), vup_eq, vup_ne (by decide), w2]; first | rw [if_pos cc_81] | rw [if_neg cc_81], vup_eq⟩)) 40 0 _ _ (by omega) rfl ?_
                       have ev : va_up (va_up (va_up ra 21 (upd (ra 21) (iN x) y)) 22 (upd ((va_up ra 21 (upd (ra 21) (iN x) y)) 22) (iN x) z)) 23 (zfN (shV va).2.2 (iN x) 0) = (va_up (va_up ra 21 (upd (ra 21) (iN x) y)) 22 (upd ((va_up ra 21 (upd (ra 21) (iN x) y)) 22) (iN x) z)) := by
                         rw [zfN_0]
                         funext j
                         show (if j = 23 then _ else _) = _
                         split
                         · rename_i h9; subst h9; rw [vup_ne (by decide), vup_ne (by decide)]; exact w3.symm
                         · rfl
                       rw [ev]
                       exact hR)
              · refine ok_iload_n (pc := 55) dX12_sheet_55 rfl ?_
                refine ok_bipush (pc := 56) (v := 40) dX12_sheet_56 (by decide) ?_
                refine ok_icmp_le (pc := 58) 68 dX12_sheet_58 (by decide) (fun cc_58 => ?_) (fun cc_58 => ?_)
                · have ce_58 := Int32.not_lt.mpr cc_58
                  obtain ⟨ex, -, lx⟩ := wi_lit (a := 0) (c := 3) rfl rfl (by decide) (by decide) cq_4
                  refine ok_aload_n (pc := 68) dX12_sheet_68 rfl ?_
                  refine ok_getf (pc := 69) dX12_sheet_69 fl_X12_53 hR.o rfl ?_
                  refine ok_iload_n (pc := 72) dX12_sheet_72 rfl ?_
                  refine ok_iload_n (pc := 73) dX12_sheet_73 rfl ?_
                  refine ok_rst21 (pc := 74) (iN x) dX12_sheet_74 hR ex (by omega) (fun M hR => ?_)
                  refine ok_aload_n (pc := 75) dX12_sheet_75 rfl ?_
                  refine ok_getf (pc := 76) dX12_sheet_76 fl_X12_56 hR.o rfl ?_
                  refine ok_iload_n (pc := 79) dX12_sheet_79 rfl ?_
                  refine ok_iload_n (pc := 80) dX12_sheet_80 rfl ?_
                  refine ok_if_ne (pc := 81) 88 dX12_sheet_81 (by decide) (fun cc_81 => ?_) (fun cc_81 => ?_)
                  · refine ok_iload_n (pc := 88) dX12_sheet_88 rfl ?_
                    refine ok_rst22 (pc := 89) (iN x) dX12_sheet_89 hR ex (by omega) (fun M hR => ?_)
                    refine ok_iconst (pc := 90) (v := 0) dX12_sheet_90 (by decide) ?_
                    refine ok_istore4 (pc := 91) dX12_sheet_91 (by decide) rfl ?_
                    first
                      | exact absurd cc_52 cc_37
                      | exact absurd cc_37 cc_52
                      | exact absurd cc_81 cc_37
                      | exact absurd cc_37 cc_81
                      | (have hfs : ¬ (y ≠ 0 ∧ z < 0) := by first | exact fun h => h.1 cc_37 | exact fun h => absurd h.2 ce_41
                         have hft : ¬ (y ≠ 0 ∧ 40 < z) := by first | exact fun h => h.1 cc_52 | exact fun h => absurd h.2 ce_58
                         have eo : op_sheet (shV va) x y z = ((0, 1, (upd (shV va).1 (iN x) y, upd (shV va).2.1 (iN x) (if y = 0 then 0 else z), zfN (shV va).2.2 (iN x) 40)) : OpS) := by
                           unfold op_sheet
                           rw [if_pos hcc, if_neg hfs, if_neg hft]
                         rw [eo] at k
                         refine l_sheet (ra0 := va_up (va_up ra 21 (upd (ra 21) (iN x) y)) 22 (upd ((va_up ra 21 (upd (ra 21) (iN x) y)) 22) (iN x) 0)) (iN x) ex (by omega) (shV va).2.2 (fun M hR => k _ (RefW.okS hR hv ⟨by rw [vup_ne (by decide), vup_ne (by decide), vup_ne (by decide)]; exact hw.1, by rw [vup_ne (by decide), vup_ne (by decide), vup_ne (by decide)]; exact hw.2.1, by rw [vup_ne (by decide), vup_ne (by decide), vup_eq, w1], by rw [vup_ne (by decide), vup_eq, vup_ne (by decide), w2]; first | rw [if_pos cc_81] | rw [if_neg cc_81], vup_eq⟩)) 40 0 _ _ (by omega) rfl ?_
                         have ev : va_up (va_up (va_up ra 21 (upd (ra 21) (iN x) y)) 22 (upd ((va_up ra 21 (upd (ra 21) (iN x) y)) 22) (iN x) 0)) 23 (zfN (shV va).2.2 (iN x) 0) = (va_up (va_up ra 21 (upd (ra 21) (iN x) y)) 22 (upd ((va_up ra 21 (upd (ra 21) (iN x) y)) 22) (iN x) 0)) := by
                           rw [zfN_0]
                           funext j
                           show (if j = 23 then _ else _) = _
                           split
                           · rename_i h9; subst h9; rw [vup_ne (by decide), vup_ne (by decide)]; exact w3.symm
                           · rfl
                         rw [ev]
                         exact hR)
                      | (have hfs : ¬ (y ≠ 0 ∧ z < 0) := by first | exact fun h => h.1 cc_37 | exact fun h => absurd h.2 ce_41
                         have hft : ¬ (y ≠ 0 ∧ 40 < z) := by first | exact fun h => h.1 cc_52 | exact fun h => absurd h.2 ce_58
                         have eo : op_sheet (shV va) x y z = ((0, 1, (upd (shV va).1 (iN x) y, upd (shV va).2.1 (iN x) (if y = 0 then 0 else z), zfN (shV va).2.2 (iN x) 40)) : OpS) := by
                           unfold op_sheet
                           rw [if_pos hcc, if_neg hfs, if_neg hft]
                         rw [eo] at k
                         refine l_sheet (ra0 := va_up (va_up ra 21 (upd (ra 21) (iN x) y)) 22 (upd ((va_up ra 21 (upd (ra 21) (iN x) y)) 22) (iN x) z)) (iN x) ex (by omega) (shV va).2.2 (fun M hR => k _ (RefW.okS hR hv ⟨by rw [vup_ne (by decide), vup_ne (by decide), vup_ne (by decide)]; exact hw.1, by rw [vup_ne (by decide), vup_ne (by decide), vup_ne (by decide)]; exact hw.2.1, by rw [vup_ne (by decide), vup_ne (by decide), vup_eq, w1], by rw [vup_ne (by decide), vup_eq, vup_ne (by decide), w2]; first | rw [if_pos cc_81] | rw [if_neg cc_81], vup_eq⟩)) 40 0 _ _ (by omega) rfl ?_
                         have ev : va_up (va_up (va_up ra 21 (upd (ra 21) (iN x) y)) 22 (upd ((va_up ra 21 (upd (ra 21) (iN x) y)) 22) (iN x) z)) 23 (zfN (shV va).2.2 (iN x) 0) = (va_up (va_up ra 21 (upd (ra 21) (iN x) y)) 22 (upd ((va_up ra 21 (upd (ra 21) (iN x) y)) 22) (iN x) z)) := by
                           rw [zfN_0]
                           funext j
                           show (if j = 23 then _ else _) = _
                           split
                           · rename_i h9; subst h9; rw [vup_ne (by decide), vup_ne (by decide)]; exact w3.symm
                           · rfl
                         rw [ev]
                         exact hR)
                  · refine ok_iconst (pc := 84) (v := 0) dX12_sheet_84 (by decide) ?_
                    refine ok_goto (pc := 85) 89 dX12_sheet_85 (by decide) ?_
                    refine ok_rst22 (pc := 89) (iN x) dX12_sheet_89 hR ex (by omega) (fun M hR => ?_)
                    refine ok_iconst (pc := 90) (v := 0) dX12_sheet_90 (by decide) ?_
                    refine ok_istore4 (pc := 91) dX12_sheet_91 (by decide) rfl ?_
                    first
                      | exact absurd cc_52 cc_37
                      | exact absurd cc_37 cc_52
                      | exact absurd cc_81 cc_37
                      | exact absurd cc_37 cc_81
                      | (have hfs : ¬ (y ≠ 0 ∧ z < 0) := by first | exact fun h => h.1 cc_37 | exact fun h => absurd h.2 ce_41
                         have hft : ¬ (y ≠ 0 ∧ 40 < z) := by first | exact fun h => h.1 cc_52 | exact fun h => absurd h.2 ce_58
                         have eo : op_sheet (shV va) x y z = ((0, 1, (upd (shV va).1 (iN x) y, upd (shV va).2.1 (iN x) (if y = 0 then 0 else z), zfN (shV va).2.2 (iN x) 40)) : OpS) := by
                           unfold op_sheet
                           rw [if_pos hcc, if_neg hfs, if_neg hft]
                         rw [eo] at k
                         refine l_sheet (ra0 := va_up (va_up ra 21 (upd (ra 21) (iN x) y)) 22 (upd ((va_up ra 21 (upd (ra 21) (iN x) y)) 22) (iN x) 0)) (iN x) ex (by omega) (shV va).2.2 (fun M hR => k _ (RefW.okS hR hv ⟨by rw [vup_ne (by decide), vup_ne (by decide), vup_ne (by decide)]; exact hw.1, by rw [vup_ne (by decide), vup_ne (by decide), vup_ne (by decide)]; exact hw.2.1, by rw [vup_ne (by decide), vup_ne (by decide), vup_eq, w1], by rw [vup_ne (by decide), vup_eq, vup_ne (by decide), w2]; first | rw [if_pos cc_81] | rw [if_neg cc_81], vup_eq⟩)) 40 0 _ _ (by omega) rfl ?_
                         have ev : va_up (va_up (va_up ra 21 (upd (ra 21) (iN x) y)) 22 (upd ((va_up ra 21 (upd (ra 21) (iN x) y)) 22) (iN x) 0)) 23 (zfN (shV va).2.2 (iN x) 0) = (va_up (va_up ra 21 (upd (ra 21) (iN x) y)) 22 (upd ((va_up ra 21 (upd (ra 21) (iN x) y)) 22) (iN x) 0)) := by
                           rw [zfN_0]
                           funext j
                           show (if j = 23 then _ else _) = _
                           split
                           · rename_i h9; subst h9; rw [vup_ne (by decide), vup_ne (by decide)]; exact w3.symm
                           · rfl
                         rw [ev]
                         exact hR)
                      | (have hfs : ¬ (y ≠ 0 ∧ z < 0) := by first | exact fun h => h.1 cc_37 | exact fun h => absurd h.2 ce_41
                         have hft : ¬ (y ≠ 0 ∧ 40 < z) := by first | exact fun h => h.1 cc_52 | exact fun h => absurd h.2 ce_58
                         have eo : op_sheet (shV va) x y z = ((0, 1, (upd (shV va).1 (iN x) y, upd (shV va).2.1 (iN x) (if y = 0 then 0 else z), zfN (shV va).2.2 (iN x) 40)) : OpS) := by
                           unfold op_sheet
                           rw [if_pos hcc, if_neg hfs, if_neg hft]
                         rw [eo] at k
                         refine l_sheet (ra0 := va_up (va_up ra 21 (upd (ra 21) (iN x) y)) 22 (upd ((va_up ra 21 (upd (ra 21) (iN x) y)) 22) (iN x) z)) (iN x) ex (by omega) (shV va).2.2 (fun M hR => k _ (RefW.okS hR hv ⟨by rw [vup_ne (by decide), vup_ne (by decide), vup_ne (by decide)]; exact hw.1, by rw [vup_ne (by decide), vup_ne (by decide), vup_ne (by decide)]; exact hw.2.1, by rw [vup_ne (by decide), vup_ne (by decide), vup_eq, w1], by rw [vup_ne (by decide), vup_eq, vup_ne (by decide), w2]; first | rw [if_pos cc_81] | rw [if_neg cc_81], vup_eq⟩)) 40 0 _ _ (by omega) rfl ?_
                         have ev : va_up (va_up (va_up ra 21 (upd (ra 21) (iN x) y)) 22 (upd ((va_up ra 21 (upd (ra 21) (iN x) y)) 22) (iN x) z)) 23 (zfN (shV va).2.2 (iN x) 0) = (va_up (va_up ra 21 (upd (ra 21) (iN x) y)) 22 (upd ((va_up ra 21 (upd (ra 21) (iN x) y)) 22) (iN x) z)) := by
                           rw [zfN_0]
                           funext j
                           show (if j = 23 then _ else _) = _
                           split
                           · rename_i h9; subst h9; rw [vup_ne (by decide), vup_ne (by decide)]; exact w3.symm
                           · rfl
                         rw [ev]
                         exact hR)
                · have ce_58 := Int32.not_le.mp cc_58
                  refine ok_aload_n (pc := 61) dX12_sheet_61 rfl ?_
                  refine ok_ldc (pc := 62) (v := -1000000001) dX12_sheet_62 tw_1205 ?_
                  refine ok_callVi1 (pc := 64) (d' := 0) dX12_sheet_64 vl_X12_84 hR.o rfl rfl rfl (by decide) ?_
                  refine r_finding hR 1 (by decide) (by decide) (fun M hR => ?_)
                  refine ok_iret (pc := 67) dX12_sheet_67 rfl ?_
                  first
                    | exact absurd cc_37 cc_52
                    | (have eo : op_sheet (shV va) x y z = ((1, -1000000001, shV va) : OpS) := by
                         unfold op_sheet
                         rw [if_pos hcc, if_neg (fun h => absurd h.2 ce_41), if_pos ⟨cc_52, ce_58⟩]
                         rfl
                       rw [eo] at k
                       exact k _ (RefW.errS 1 (by decide) hR hv hw))
            · refine ok_iload_n (pc := 40) dX12_sheet_40 rfl ?_
              refine ok_if_ge (pc := 41) 51 dX12_sheet_41 (by decide) (fun cc_41 => ?_) (fun cc_41 => ?_)
              · have ce_41 := Int32.not_lt.mpr cc_41
                refine ok_iload_n (pc := 51) dX12_sheet_51 rfl ?_
                refine ok_if_eq (pc := 52) 68 dX12_sheet_52 (by decide) (fun cc_52 => ?_) (fun cc_52 => ?_)
                · obtain ⟨ex, -, lx⟩ := wi_lit (a := 0) (c := 3) rfl rfl (by decide) (by decide) cq_4
                  refine ok_aload_n (pc := 68) dX12_sheet_68 rfl ?_
                  refine ok_getf (pc := 69) dX12_sheet_69 fl_X12_53 hR.o rfl ?_
                  refine ok_iload_n (pc := 72) dX12_sheet_72 rfl ?_
                  refine ok_iload_n (pc := 73) dX12_sheet_73 rfl ?_
                  refine ok_rst21 (pc := 74) (iN x) dX12_sheet_74 hR ex (by omega) (fun M hR => ?_)
                  refine ok_aload_n (pc := 75) dX12_sheet_75 rfl ?_
                  refine ok_getf (pc := 76) dX12_sheet_76 fl_X12_56 hR.o rfl ?_
                  refine ok_iload_n (pc := 79) dX12_sheet_79 rfl ?_
                  refine ok_iload_n (pc := 80) dX12_sheet_80 rfl ?_
                  refine ok_if_ne (pc := 81) 88 dX12_sheet_81 (by decide) (fun cc_81 => ?_) (fun cc_81 => ?_)
                  · refine ok_iload_n (pc := 88) dX12_sheet_88 rfl ?_
                    refine ok_rst22 (pc := 89) (iN x) dX12_sheet_89 hR ex (by omega) (fun M hR => ?_)
                    refine ok_iconst (pc := 90) (v := 0) dX12_sheet_90 (by decide) ?_
                    refine ok_istore4 (pc := 91) dX12_sheet_91 (by decide) rfl ?_
                    first
                      | exact absurd cc_52 cc_37
                      | exact absurd cc_37 cc_52
                      | exact absurd cc_81 cc_37
                      | exact absurd cc_37 cc_81
                      | (have hfs : ¬ (y ≠ 0 ∧ z < 0) := by first | exact fun h => h.1 cc_37 | exact fun h => absurd h.2 ce_41
                         have hft : ¬ (y ≠ 0 ∧ 40 < z) := by first | exact fun h => h.1 cc_52 | exact fun h => absurd h.2 ce_58
                         have eo : op_sheet (shV va) x y z = ((0, 1, (upd (shV va).1 (iN x) y, upd (shV va).2.1 (iN x) (if y = 0 then 0 else z), zfN (shV va).2.2 (iN x) 40)) : OpS) := by
                           unfold op_sheet
                           rw [if_pos hcc, if_neg hfs, if_neg hft]
                         rw [eo] at k
                         refine l_sheet (ra0 := va_up (va_up ra 21 (upd (ra 21) (iN x) y)) 22 (upd ((va_up ra 21 (upd (ra 21) (iN x) y)) 22) (iN x) 0)) (iN x) ex (by omega) (shV va).2.2 (fun M hR => k _ (RefW.okS hR hv ⟨by rw [vup_ne (by decide), vup_ne (by decide), vup_ne (by decide)]; exact hw.1, by rw [vup_ne (by decide), vup_ne (by decide), vup_ne (by decide)]; exact hw.2.1, by rw [vup_ne (by decide), vup_ne (by decide), vup_eq, w1], by rw [vup_ne (by decide), vup_eq, vup_ne (by decide), w2]; first | rw [if_pos cc_81] | rw [if_neg cc_81], vup_eq⟩)) 40 0 _ _ (by omega) rfl ?_
                         have ev : va_up (va_up (va_up ra 21 (upd (ra 21) (iN x) y)) 22 (upd ((va_up ra 21 (upd (ra 21) (iN x) y)) 22) (iN x) 0)) 23 (zfN (shV va).2.2 (iN x) 0) = (va_up (va_up ra 21 (upd (ra 21) (iN x) y)) 22 (upd ((va_up ra 21 (upd (ra 21) (iN x) y)) 22) (iN x) 0)) := by
                           rw [zfN_0]
                           funext j
                           show (if j = 23 then _ else _) = _
                           split
                           · rename_i h9; subst h9; rw [vup_ne (by decide), vup_ne (by decide)]; exact w3.symm
                           · rfl
                         rw [ev]
                         exact hR)
                      | (have hfs : ¬ (y ≠ 0 ∧ z < 0) := by first | exact fun h => h.1 cc_37 | exact fun h => absurd h.2 ce_41
                         have hft : ¬ (y ≠ 0 ∧ 40 < z) := by first | exact fun h => h.1 cc_52 | exact fun h => absurd h.2 ce_58
                         have eo : op_sheet (shV va) x y z = ((0, 1, (upd (shV va).1 (iN x) y, upd (shV va).2.1 (iN x) (if y = 0 then 0 else z), zfN (shV va).2.2 (iN x) 40)) : OpS) := by
                           unfold op_sheet
                           rw [if_pos hcc, if_neg hfs, if_neg hft]
                         rw [eo] at k
                         refine l_sheet (ra0 := va_up (va_up ra 21 (upd (ra 21) (iN x) y)) 22 (upd ((va_up ra 21 (upd (ra 21) (iN x) y)) 22) (iN x) z)) (iN x) ex (by omega) (shV va).2.2 (fun M hR => k _ (RefW.okS hR hv ⟨by rw [vup_ne (by decide), vup_ne (by decide), vup_ne (by decide)]; exact hw.1, by rw [vup_ne (by decide), vup_ne (by decide), vup_ne (by decide)]; exact hw.2.1, by rw [vup_ne (by decide), vup_ne (by decide), vup_eq, w1], by rw [vup_ne (by decide), vup_eq, vup_ne (by decide), w2]; first | rw [if_pos cc_81] | rw [if_neg cc_81], vup_eq⟩)) 40 0 _ _ (by omega) rfl ?_
                         have ev : va_up (va_up (va_up ra 21 (upd (ra 21) (iN x) y)) 22 (upd ((va_up ra 21 (upd (ra 21) (iN x) y)) 22) (iN x) z)) 23 (zfN (shV va).2.2 (iN x) 0) = (va_up (va_up ra 21 (upd (ra 21) (iN x) y)) 22 (upd ((va_up ra 21 (upd (ra 21) (iN x) y)) 22) (iN x) z)) := by
                           rw [zfN_0]
                           funext j
                           show (if j = 23 then _ else _) = _
                           split
                           · rename_i h9; subst h9; rw [vup_ne (by decide), vup_ne (by decide)]; exact w3.symm
                           · rfl
                         rw [ev]
                         exact hR)
                  · refine ok_iconst (pc := 84) (v := 0) dX12_sheet_84 (by decide) ?_
                    refine ok_goto (pc := 85) 89 dX12_sheet_85 (by decide) ?_
                    refine ok_rst22 (pc := 89) (iN x) dX12_sheet_89 hR ex (by omega) (fun M hR => ?_)
                    refine ok_iconst (pc := 90) (v := 0) dX12_sheet_90 (by decide) ?_
                    refine ok_istore4 (pc := 91) dX12_sheet_91 (by decide) rfl ?_
                    first
                      | exact absurd cc_52 cc_37
                      | exact absurd cc_37 cc_52
                      | exact absurd cc_81 cc_37
                      | exact absurd cc_37 cc_81
                      | (have hfs : ¬ (y ≠ 0 ∧ z < 0) := by first | exact fun h => h.1 cc_37 | exact fun h => absurd h.2 ce_41
                         have hft : ¬ (y ≠ 0 ∧ 40 < z) := by first | exact fun h => h.1 cc_52 | exact fun h => absurd h.2 ce_58
                         have eo : op_sheet (shV va) x y z = ((0, 1, (upd (shV va).1 (iN x) y, upd (shV va).2.1 (iN x) (if y = 0 then 0 else z), zfN (shV va).2.2 (iN x) 40)) : OpS) := by
                           unfold op_sheet
                           rw [if_pos hcc, if_neg hfs, if_neg hft]
                         rw [eo] at k
                         refine l_sheet (ra0 := va_up (va_up ra 21 (upd (ra 21) (iN x) y)) 22 (upd ((va_up ra 21 (upd (ra 21) (iN x) y)) 22) (iN x) 0)) (iN x) ex (by omega) (shV va).2.2 (fun M hR => k _ (RefW.okS hR hv ⟨by rw [vup_ne (by decide), vup_ne (by decide), vup_ne (by decide)]; exact hw.1, by rw [vup_ne (by decide), vup_ne (by decide), vup_ne (by decide)]; exact hw.2.1, by rw [vup_ne (by decide), vup_ne (by decide), vup_eq, w1], by rw [vup_ne (by decide), vup_eq, vup_ne (by decide), w2]; first | rw [if_pos cc_81] | rw [if_neg cc_81], vup_eq⟩)) 40 0 _ _ (by omega) rfl ?_
                         have ev : va_up (va_up (va_up ra 21 (upd (ra 21) (iN x) y)) 22 (upd ((va_up ra 21 (upd (ra 21) (iN x) y)) 22) (iN x) 0)) 23 (zfN (shV va).2.2 (iN x) 0) = (va_up (va_up ra 21 (upd (ra 21) (iN x) y)) 22 (upd ((va_up ra 21 (upd (ra 21) (iN x) y)) 22) (iN x) 0)) := by
                           rw [zfN_0]
                           funext j
                           show (if j = 23 then _ else _) = _
                           split
                           · rename_i h9; subst h9; rw [vup_ne (by decide), vup_ne (by decide)]; exact w3.symm
                           · rfl
                         rw [ev]
                         exact hR)
                      | (have hfs : ¬ (y ≠ 0 ∧ z < 0) := by first | exact fun h => h.1 cc_37 | exact fun h => absurd h.2 ce_41
                         have hft : ¬ (y ≠ 0 ∧ 40 < z) := by first | exact fun h => h.1 cc_52 | exact fun h => absurd h.2 ce_58
                         have eo : op_sheet (shV va) x y z = ((0, 1, (upd (shV va).1 (iN x) y, upd (shV va).2.1 (iN x) (if y = 0 then 0 else z), zfN (shV va).2.2 (iN x) 40)) : OpS) := by
                           unfold op_sheet
                           rw [if_pos hcc, if_neg hfs, if_neg hft]
                         rw [eo] at k
                         refine l_sheet (ra0 := va_up (va_up ra 21 (upd (ra 21) (iN x) y)) 22 (upd ((va_up ra 21 (upd (ra 21) (iN x) y)) 22) (iN x) z)) (iN x) ex (by omega) (shV va).2.2 (fun M hR => k _ (RefW.okS hR hv ⟨by rw [vup_ne (by decide), vup_ne (by decide), vup_ne (by decide)]; exact hw.1, by rw [vup_ne (by decide), vup_ne (by decide), vup_ne (by decide)]; exact hw.2.1, by rw [vup_ne (by decide), vup_ne (by decide), vup_eq, w1], by rw [vup_ne (by decide), vup_eq, vup_ne (by decide), w2]; first | rw [if_pos cc_81] | rw [if_neg cc_81], vup_eq⟩)) 40 0 _ _ (by omega) rfl ?_
                         have ev : va_up (va_up (va_up ra 21 (upd (ra 21) (iN x) y)) 22 (upd ((va_up ra 21 (upd (ra 21) (iN x) y)) 22) (iN x) z)) 23 (zfN (shV va).2.2 (iN x) 0) = (va_up (va_up ra 21 (upd (ra 21) (iN x) y)) 22 (upd ((va_up ra 21 (upd (ra 21) (iN x) y)) 22) (iN x) z)) := by
                           rw [zfN_0]
                           funext j
                           show (if j = 23 then _ else _) = _
                           split
                           · rename_i h9; subst h9; rw [vup_ne (by decide), vup_ne (by decide)]; exact w3.symm
                           · rfl
                         rw [ev]
                         exact hR)
                · refine ok_iload_n (pc := 55) dX12_sheet_55 rfl ?_
                  refine ok_bipush (pc := 56) (v := 40) dX12_sheet_56 (by decide) ?_
                  refine ok_icmp_le (pc := 58) 68 dX12_sheet_58 (by decide) (fun cc_58 => ?_) (fun cc_58 => ?_)
                  · have ce_58 := Int32.not_lt.mpr cc_58
                    obtain ⟨ex, -, lx⟩ := wi_lit (a := 0) (c := 3) rfl rfl (by decide) (by decide) cq_4
                    refine ok_aload_n (pc := 68) dX12_sheet_68 rfl ?_
                    refine ok_getf (pc := 69) dX12_sheet_69 fl_X12_53 hR.o rfl ?_
                    refine ok_iload_n (pc := 72) dX12_sheet_72 rfl ?_
                    refine ok_iload_n (pc := 73) dX12_sheet_73 rfl ?_
                    refine ok_rst21 (pc := 74) (iN x) dX12_sheet_74 hR ex (by omega) (fun M hR => ?_)
                    refine ok_aload_n (pc := 75) dX12_sheet_75 rfl ?_
                    refine ok_getf (pc := 76) dX12_sheet_76 fl_X12_56 hR.o rfl ?_
                    refine ok_iload_n (pc := 79) dX12_sheet_79 rfl ?_
                    refine ok_iload_n (pc := 80) dX12_sheet_80 rfl ?_
                    refine ok_if_ne (pc := 81) 88 dX12_sheet_81 (by decide) (fun cc_81 => ?_) (fun cc_81 => ?_)
                    · refine ok_iload_n (pc := 88) dX12_sheet_88 rfl ?_
                      refine ok_rst22 (pc := 89) (iN x) dX12_sheet_89 hR ex (by omega) (fun M hR => ?_)
                      refine ok_iconst (pc := 90) (v := 0) dX12_sheet_90 (by decide) ?_
                      refine ok_istore4 (pc := 91) dX12_sheet_91 (by decide) rfl ?_
                      first
                        | exact absurd cc_52 cc_37
                        | exact absurd cc_37 cc_52
                        | exact absurd cc_81 cc_37
                        | exact absurd cc_37 cc_81
                        | (have hfs : ¬ (y ≠ 0 ∧ z < 0) := by first | exact fun h => h.1 cc_37 | exact fun h => absurd h.2 ce_41
                           have hft : ¬ (y ≠ 0 ∧ 40 < z) := by first | exact fun h => h.1 cc_52 | exact fun h => absurd h.2 ce_58
                           have eo : op_sheet (shV va) x y z = ((0, 1, (upd (shV va).1 (iN x) y, upd (shV va).2.1 (iN x) (if y = 0 then 0 else z), zfN (shV va).2.2 (iN x) 40)) : OpS) := by
                             unfold op_sheet
                             rw [if_pos hcc, if_neg hfs, if_neg hft]
                           rw [eo] at k
                           refine l_sheet (ra0 := va_up (va_up ra 21 (upd (ra 21) (iN x) y)) 22 (upd ((va_up ra 21 (upd (ra 21) (iN x) y)) 22) (iN x) 0)) (iN x) ex (by omega) (shV va).2.2 (fun M hR => k _ (RefW.okS hR hv ⟨by rw [vup_ne (by decide), vup_ne (by decide), vup_ne (by decide)]; exact hw.1, by rw [vup_ne (by decide), vup_ne (by decide), vup_ne (by decide)]; exact hw.2.1, by rw [vup_ne (by decide), vup_ne (by decide), vup_eq, w1], by rw [vup_ne (by decide), vup_eq, vup_ne (by decide), w2]; first | rw [if_pos cc_81] | rw [if_neg cc_81], vup_eq⟩)) 40 0 _ _ (by omega) rfl ?_
                           have ev : va_up (va_up (va_up ra 21 (upd (ra 21) (iN x) y)) 22 (upd ((va_up ra 21 (upd (ra 21) (iN x) y)) 22) (iN x) 0)) 23 (zfN (shV va).2.2 (iN x) 0) = (va_up (va_up ra 21 (upd (ra 21) (iN x) y)) 22 (upd ((va_up ra 21 (upd (ra 21) (iN x) y)) 22) (iN x) 0)) := by
                             rw [zfN_0]
                             funext j
                             show (if j = 23 then _ else _) = _
                             split
                             · rename_i h9; subst h9; rw [vup_ne (by decide), vup_ne (by decide)]; exact w3.symm
                             · rfl
                           rw [ev]
                           exact hR)
                        | (have hfs : ¬ (y ≠ 0 ∧ z < 0) := by first | exact fun h => h.1 cc_37 | exact fun h => absurd h.2 ce_41
                           have hft : ¬ (y ≠ 0 ∧ 40 < z) := by first | exact fun h => h.1 cc_52 | exact fun h => absurd h.2 ce_58
                           have eo : op_sheet (shV va) x y z = ((0, 1, (upd (shV va).1 (iN x) y, upd (shV va).2.1 (iN x) (if y = 0 then 0 else z), zfN (shV va).2.2 (iN x) 40)) : OpS) := by
                             unfold op_sheet
                             rw [if_pos hcc, if_neg hfs, if_neg hft]
                           rw [eo] at k
                           refine l_sheet (ra0 := va_up (va_up ra 21 (upd (ra 21) (iN x) y)) 22 (upd ((va_up ra 21 (upd (ra 21) (iN x) y)) 22) (iN x) z)) (iN x) ex (by omega) (shV va).2.2 (fun M hR => k _ (RefW.okS hR hv ⟨by rw [vup_ne (by decide), vup_ne (by decide), vup_ne (by decide)]; exact hw.1, by rw [vup_ne (by decide), vup_ne (by decide), vup_ne (by decide)]; exact hw.2.1, by rw [vup_ne (by decide), vup_ne (by decide), vup_eq, w1], by rw [vup_ne (by decide), vup_eq, vup_ne (by decide), w2]; first | rw [if_pos cc_81] | rw [if_neg cc_81], vup_eq⟩)) 40 0 _ _ (by omega) rfl ?_
                           have ev : va_up (va_up (va_up ra 21 (upd (ra 21) (iN x) y)) 22 (upd ((va_up ra 21 (upd (ra 21) (iN x) y)) 22) (iN x) z)) 23 (zfN (shV va).2.2 (iN x) 0) = (va_up (va_up ra 21 (upd (ra 21) (iN x) y)) 22 (upd ((va_up ra 21 (upd (ra 21) (iN x) y)) 22) (iN x) z)) := by
                             rw [zfN_0]
                             funext j
                             show (if j = 23 then _ else _) = _
                             split
                             · rename_i h9; subst h9; rw [vup_ne (by decide), vup_ne (by decide)]; exact w3.symm
                             · rfl
                           rw [ev]
                           exact hR)
                    · refine ok_iconst (pc := 84) (v := 0) dX12_sheet_84 (by decide) ?_
                      refine ok_goto (pc := 85) 89 dX12_sheet_85 (by decide) ?_
                      refine ok_rst22 (pc := 89) (iN x) dX12_sheet_89 hR ex (by omega) (fun M hR => ?_)
                      refine ok_iconst (pc := 90) (v := 0) dX12_sheet_90 (by decide) ?_
                      refine ok_istore4 (pc := 91) dX12_sheet_91 (by decide) rfl ?_
                      first
                        | exact absurd cc_52 cc_37
                        | exact absurd cc_37 cc_52
                        | exact absurd cc_81 cc_37
                        | exact absurd cc_37 cc_81
                        | (have hfs : ¬ (y ≠ 0 ∧ z < 0) := by first | exact fun h => h.1 cc_37 | exact fun h => absurd h.2 ce_41
                           have hft : ¬ (y ≠ 0 ∧ 40 < z) := by first | exact fun h => h.1 cc_52 | exact fun h => absurd h.2 ce_58
                           have eo : op_sheet (shV va) x y z = ((0, 1, (upd (shV va).1 (iN x) y, upd (shV va).2.1 (iN x) (if y = 0 then 0 else z), zfN (shV va).2.2 (iN x) 40)) : OpS) := by
                             unfold op_sheet
                             rw [if_pos hcc, if_neg hfs, if_neg hft]
                           rw [eo] at k
                           refine l_sheet (ra0 := va_up (va_up ra 21 (upd (ra 21) (iN x) y)) 22 (upd ((va_up ra 21 (upd (ra 21) (iN x) y)) 22) (iN x) 0)) (iN x) ex (by omega) (shV va).2.2 (fun M hR => k _ (RefW.okS hR hv ⟨by rw [vup_ne (by decide), vup_ne (by decide), vup_ne (by decide)]; exact hw.1, by rw [vup_ne (by decide), vup_ne (by decide), vup_ne (by decide)]; exact hw.2.1, by rw [vup_ne (by decide), vup_ne (by decide), vup_eq, w1], by rw [vup_ne (by decide), vup_eq, vup_ne (by decide), w2]; first | rw [if_pos cc_81] | rw [if_neg cc_81], vup_eq⟩)) 40 0 _ _ (by omega) rfl ?_
                           have ev : va_up (va_up (va_up ra 21 (upd (ra 21) (iN x) y)) 22 (upd ((va_up ra 21 (upd (ra 21) (iN x) y)) 22) (iN x) 0)) 23 (zfN (shV va).2.2 (iN x) 0) = (va_up (va_up ra 21 (upd (ra 21) (iN x) y)) 22 (upd ((va_up ra 21 (upd (ra 21) (iN x) y)) 22) (iN x) 0)) := by
                             rw [zfN_0]
                             funext j
                             show (if j = 23 then _ else _) = _
                             split
                             · rename_i h9; subst h9; rw [vup_ne (by decide), vup_ne (by decide)]; exact w3.symm
                             · rfl
                           rw [ev]
                           exact hR)
                        | (have hfs : ¬ (y ≠ 0 ∧ z < 0) := by first | exact fun h => h.1 cc_37 | exact fun h => absurd h.2 ce_41
                           have hft : ¬ (y ≠ 0 ∧ 40 < z) := by first | exact fun h => h.1 cc_52 | exact fun h => absurd h.2 ce_58
                           have eo : op_sheet (shV va) x y z = ((0, 1, (upd (shV va).1 (iN x) y, upd (shV va).2.1 (iN x) (if y = 0 then 0 else z), zfN (shV va).2.2 (iN x) 40)) : OpS) := by
                             unfold op_sheet
                             rw [if_pos hcc, if_neg hfs, if_neg hft]
                           rw [eo] at k
                           refine l_sheet (ra0 := va_up (va_up ra 21 (upd (ra 21) (iN x) y)) 22 (upd ((va_up ra 21 (upd (ra 21) (iN x) y)) 22) (iN x) z)) (iN x) ex (by omega) (shV va).2.2 (fun M hR => k _ (RefW.okS hR hv ⟨by rw [vup_ne (by decide), vup_ne (by decide), vup_ne (by decide)]; exact hw.1, by rw [vup_ne (by decide), vup_ne (by decide), vup_ne (by decide)]; exact hw.2.1, by rw [vup_ne (by decide), vup_ne (by decide), vup_eq, w1], by rw [vup_ne (by decide), vup_eq, vup_ne (by decide), w2]; first | rw [if_pos cc_81] | rw [if_neg cc_81], vup_eq⟩)) 40 0 _ _ (by omega) rfl ?_
                           have ev : va_up (va_up (va_up ra 21 (upd (ra 21) (iN x) y)) 22 (upd ((va_up ra 21 (upd (ra 21) (iN x) y)) 22) (iN x) z)) 23 (zfN (shV va).2.2 (iN x) 0) = (va_up (va_up ra 21 (upd (ra 21) (iN x) y)) 22 (upd ((va_up ra 21 (upd (ra 21) (iN x) y)) 22) (iN x) z)) := by
                             rw [zfN_0]
                             funext j
                             show (if j = 23 then _ else _) = _
                             split
                             · rename_i h9; subst h9; rw [vup_ne (by decide), vup_ne (by decide)]; exact w3.symm
                             · rfl
                           rw [ev]
                           exact hR)
                  · have ce_58 := Int32.not_le.mp cc_58
                    refine ok_aload_n (pc := 61) dX12_sheet_61 rfl ?_
                    refine ok_ldc (pc := 62) (v := -1000000001) dX12_sheet_62 tw_1205 ?_
                    refine ok_callVi1 (pc := 64) (d' := 0) dX12_sheet_64 vl_X12_84 hR.o rfl rfl rfl (by decide) ?_
                    refine r_finding hR 1 (by decide) (by decide) (fun M hR => ?_)
                    refine ok_iret (pc := 67) dX12_sheet_67 rfl ?_
                    first
                      | exact absurd cc_37 cc_52
                      | (have eo : op_sheet (shV va) x y z = ((1, -1000000001, shV va) : OpS) := by
                           unfold op_sheet
                           rw [if_pos hcc, if_neg (fun h => absurd h.2 ce_41), if_pos ⟨cc_52, ce_58⟩]
                           rfl
                         rw [eo] at k
                         exact k _ (RefW.errS 1 (by decide) hR hv hw))
              · have ce_41 := Int32.not_le.mp cc_41
                refine ok_aload_n (pc := 44) dX12_sheet_44 rfl ?_
                refine ok_ldc (pc := 45) (v := -1000000003) dX12_sheet_45 tw_1215 ?_
                refine ok_callVi1 (pc := 47) (d' := 0) dX12_sheet_47 vl_X12_84 hR.o rfl rfl rfl (by decide) ?_
                refine r_finding hR 3 (by decide) (by decide) (fun M hR => ?_)
                refine ok_iret (pc := 50) dX12_sheet_50 rfl ?_
                have eo : op_sheet (shV va) x y z = ((3, -1000000003, shV va) : OpS) := by
                  unfold op_sheet
                  rw [if_pos hcc, if_pos ⟨cc_37, ce_41⟩]
                  rfl
                rw [eo] at k
                exact k _ (RefW.errS 3 (by decide) hR hv hw)
          · refine ok_aload_n (pc := 29) dX12_sheet_29 rfl ?_
            refine ok_ldc (pc := 30) (v := -1000000001) dX12_sheet_30 tw_1205 ?_
            refine ok_callVi1 (pc := 32) (d' := 0) dX12_sheet_32 vl_X12_84 hR.o rfl rfl rfl (by decide) ?_
            refine r_finding hR 1 (by decide) (by decide) (fun M hR => ?_)
            refine ok_iret (pc := 35) dX12_sheet_35 rfl ?_
            have eo : op_sheet (shV va) x y z = ((1, -1000000001, shV va) : OpS) := by
              have hcc : ¬ (wi x 0 3 && isB y) = true := by first | (rw [cq_4]; simp; done) | (simp [isB, cc_8, cc_14, cc_20, cc_26]; done)
              unfold op_sheet
              rw [if_neg hcc]
              rfl
            rw [eo] at k
            exact k _ (RefW.errS 1 (by decide) hR hv hw)

set_option maxHeartbeats 1000000 in
theorem r_put {Γ : Cx} {m sz : Nat} {M0 M : Nat → Option va_E} {σ κ vi : Rw} {va : Nat → Rw} {K : Int32 → Wd → Prop} (hW : RefW Γ m M0 σ κ vi va M) (hS : InvS (shV va)) {x y z : Int32} (k : ∀ M', RefW Γ m M0 σ κ vi (shU (eU va (op_put (shV va) x y z).1) (op_put (shV va) x y z).2.2) M' → K (op_put (shV va) x y z).2.1 (M', sz)) : Spec Γ mX12_put 2 0 [.ref m, .int x, .int y, .int z] (M, sz) (ci K) := by
  obtain ⟨ri, ra, hR, hv, hw⟩ := hW
  have w1 : ra 21 = (shV va).1 := hw.2.2.1
  have w2 : ra 22 = (shV va).2.1 := hw.2.2.2.1
  have w3 : ra 23 = (shV va).2.2 := hw.2.2.2.2
  
  refine spec_in [some (.ref m), some (.int x), some (.int y), some (.int z)] 0 (by decide) rfl rfl ?_
  refine ok_iload_n (pc := 0) dX12_put_0 rfl ?_
  refine ok_callSi1 (pc := 1) (d' := 1) dX12_put_1 sl_X12_338 rfl (by decide) ?_
  refine r_isSheet ?_
  refine ok_if_ne (pc := 4) 14 dX12_put_4 (by decide) (fun cc_4 => ?_) (fun cc_4 => ?_)
  · have cq_4 := bI_n0.mp cc_4
    obtain ⟨ex, -, lx⟩ := wi_lit (a := 0) (c := 3) rfl rfl (by decide) (by decide) cq_4
    refine ok_aload_n (pc := 14) dX12_put_14 rfl ?_
    refine ok_getf (pc := 15) dX12_put_15 fl_X12_53 hR.o rfl ?_
    refine ok_iload_n (pc := 18) dX12_put_18 rfl ?_
    refine ok_iald (pc := 19) (iN x) dX12_put_19 hR.a21 ex (by omega) (by decide) ?_
    rw [w1]
    refine ok_if_ne (pc := 20) 31 dX12_put_20 (by decide) (fun cc_20 => ?_) (fun cc_20 => ?_)
    · refine ok_iload_n (pc := 31) dX12_put_31 rfl ?_
      refine ok_iconst (pc := 32) (v := 0) dX12_put_32 (by decide) ?_
      refine ok_aload_n (pc := 33) dX12_put_33 rfl ?_
      refine ok_getf (pc := 34) dX12_put_34 fl_X12_56 hR.o rfl ?_
      refine ok_iload_n (pc := 37) dX12_put_37 rfl ?_
      refine ok_iald (pc := 38) (iN x) dX12_put_38 hR.a22 ex (by omega) (by decide) ?_
      rw [w2]
      refine ok_iconst (pc := 39) (v := 1) dX12_put_39 (by decide) ?_
      refine ok_isub (pc := 40) dX12_put_40 ?_
      refine ok_callSi3 (pc := 41) (d' := 0) dX12_put_41 sl_X12_75 rfl (by decide) ?_
      refine r_within ?_
      refine ok_if_ne (pc := 44) 54 dX12_put_44 (by decide) (fun cc_44 => ?_) (fun cc_44 => ?_)
      · have cq_44 := bI_n0.mp cc_44
        obtain ⟨n9, hn9, en9⟩ := (hS (iN x) (by omega)).2
        obtain ⟨ey, ly⟩ := wi_cnt en9 (by omega) cq_44
        refine ok_aload_n (pc := 54) dX12_put_54 rfl ?_
        refine ok_getf (pc := 55) dX12_put_55 fl_X12_59 hR.o rfl ?_
        refine ok_bipush (pc := 58) (v := 40) dX12_put_58 (by decide) ?_
        refine ok_iload_n (pc := 60) dX12_put_60 rfl ?_
        refine ok_imul (pc := 61) dX12_put_61 ?_
        refine ok_iload_n (pc := 62) dX12_put_62 rfl ?_
        refine ok_iadd (pc := 63) dX12_put_63 ?_
        refine ok_aload_n (pc := 64) dX12_put_64 rfl ?_
        refine ok_getf (pc := 65) dX12_put_65 fl_X12_53 hR.o rfl ?_
        refine ok_iload_n (pc := 68) dX12_put_68 rfl ?_
        refine ok_iald (pc := 69) (iN x) dX12_put_69 hR.a21 ex (by omega) (by decide) ?_
        rw [w1]
        refine ok_bipush (pc := 70) (v := 8) dX12_put_70 (by decide) ?_
        refine ok_icmp_ne (pc := 72) 80 dX12_put_72 (by decide) (fun cc_72 => ?_) (fun cc_72 => ?_)
        · refine ok_aload_n (pc := 80) dX12_put_80 rfl ?_
          refine ok_getf (pc := 81) dX12_put_81 fl_X12_53 hR.o rfl ?_
          refine ok_iload_n (pc := 84) dX12_put_84 rfl ?_
          refine ok_iald (pc := 85) (iN x) dX12_put_85 hR.a21 ex (by omega) (by decide) ?_
          rw [w1]
          refine ok_bipush (pc := 86) (v := 16) dX12_put_86 (by decide) ?_
          refine ok_icmp_ne (pc := 88) 96 dX12_put_88 (by decide) (fun cc_88 => ?_) (fun cc_88 => ?_)
          · refine ok_iload_n (pc := 96) dX12_put_96 rfl ?_
            refine ok_rst23 (pc := 97) (40 * iN x + iN y) dX12_put_97 hR (by have e1 := ex; have e2 := ey; generalize iN x = p at *; generalize iN y = q at *; subst e1; subst e2; simp only [fa_lit, pk_mul, nI_add]) (by omega) (fun M hR => ?_)
            refine ok_iconst (pc := 98) (v := 1) dX12_put_98 (by decide) ?_
            refine ok_iret (pc := 99) dX12_put_99 rfl ?_
            have eo : op_put (shV va) x y z = ((0, 1, ((shV va).1, (shV va).2.1, upd (shV va).2.2 (40 * iN x + iN y) (cutF ((shV va).1 (iN x)) z))) : OpS) := by
              simp [op_put, cq_4, cc_20, cq_44]
            rw [eo] at k
            unfold cutF at k
            first
              | rw [if_pos cc_72] at k
              | rw [if_neg cc_72, if_pos cc_88] at k
              | rw [if_neg cc_72, if_neg cc_88] at k
            exact k _ (RefW.okS hR hv ⟨by rw [vup_ne (by decide)]; exact hw.1, by rw [vup_ne (by decide)]; exact hw.2.1, by rw [vup_ne (by decide)]; exact w1, by rw [vup_ne (by decide)]; exact w2, by rw [vup_eq, w3]⟩)
          · refine ok_iload_n (pc := 91) dX12_put_91 rfl ?_
            refine ok_i2s (pc := 92) dX12_put_92 ?_
            refine ok_goto (pc := 93) 97 dX12_put_93 (by decide) ?_
            refine ok_rst23 (pc := 97) (40 * iN x + iN y) dX12_put_97 hR (by have e1 := ex; have e2 := ey; generalize iN x = p at *; generalize iN y = q at *; subst e1; subst e2; simp only [fa_lit, pk_mul, nI_add]) (by omega) (fun M hR => ?_)
            refine ok_iconst (pc := 98) (v := 1) dX12_put_98 (by decide) ?_
            refine ok_iret (pc := 99) dX12_put_99 rfl ?_
            have eo : op_put (shV va) x y z = ((0, 1, ((shV va).1, (shV va).2.1, upd (shV va).2.2 (40 * iN x + iN y) (cutF ((shV va).1 (iN x)) z))) : OpS) := by
              simp [op_put, cq_4, cc_20, cq_44]
            rw [eo] at k
            unfold cutF at k
            first
              | rw [if_pos cc_72] at k
              | rw [if_neg cc_72, if_pos cc_88] at k
              | rw [if_neg cc_72, if_neg cc_88] at k
            exact k _ (RefW.okS hR hv ⟨by rw [vup_ne (by decide)]; exact hw.1, by rw [vup_ne (by decide)]; exact hw.2.1, by rw [vup_ne (by decide)]; exact w1, by rw [vup_ne (by decide)]; exact w2, by rw [vup_eq, w3]⟩)
        · refine ok_iload_n (pc := 75) dX12_put_75 rfl ?_
          refine ok_i2b (pc := 76) dX12_put_76 ?_
          refine ok_goto (pc := 77) 97 dX12_put_77 (by decide) ?_
          refine ok_rst23 (pc := 97) (40 * iN x + iN y) dX12_put_97 hR (by have e1 := ex; have e2 := ey; generalize iN x = p at *; generalize iN y = q at *; subst e1; subst e2; simp only [fa_lit, pk_mul, nI_add]) (by omega) (fun M hR => ?_)
          refine ok_iconst (pc := 98) (v := 1) dX12_put_98 (by decide) ?_
          refine ok_iret (pc := 99) dX12_put_99 rfl ?_
          have eo : op_put (shV va) x y z = ((0, 1, ((shV va).1, (shV va).2.1, upd (shV va).2.2 (40 * iN x + iN y) (cutF ((shV va).1 (iN x)) z))) : OpS) := by
            simp [op_put, cq_4, cc_20, cq_44]
          rw [eo] at k
          unfold cutF at k
          first
            | rw [if_pos cc_72] at k
            | rw [if_neg cc_72, if_pos cc_88] at k
            | rw [if_neg cc_72, if_neg cc_88] at k
          exact k _ (RefW.okS hR hv ⟨by rw [vup_ne (by decide)]; exact hw.1, by rw [vup_ne (by decide)]; exact hw.2.1, by rw [vup_ne (by decide)]; exact w1, by rw [vup_ne (by decide)]; exact w2, by rw [vup_eq, w3]⟩)
      · have cq_44 := bI_0.mp cc_44
        refine ok_aload_n (pc := 47) dX12_put_47 rfl ?_
        refine ok_ldc (pc := 48) (v := -1000000001) dX12_put_48 tw_1205 ?_
        refine ok_callVi1 (pc := 50) (d' := 0) dX12_put_50 vl_X12_84 hR.o rfl rfl rfl (by decide) ?_
        refine r_finding hR 1 (by decide) (by decide) (fun M hR => ?_)
        refine ok_iret (pc := 53) dX12_put_53 rfl ?_
        have eo : op_put (shV va) x y z = ((1, -1000000001, shV va) : OpS) := by
          simp [op_put, es, cq_4, cc_20, cq_44]; try decide
        rw [eo] at k
        exact k _ (RefW.errS 1 (by decide) hR hv hw)
    · refine ok_aload_n (pc := 23) dX12_put_23 rfl ?_
      refine ok_ldcw (pc := 24) (v := -1000000002) dX12_put_24 tw_1536 ?_
      refine ok_callVi1 (pc := 27) (d' := 0) dX12_put_27 vl_X12_84 hR.o rfl rfl rfl (by decide) ?_
      refine r_finding hR 2 (by decide) (by decide) (fun M hR => ?_)
      refine ok_iret (pc := 30) dX12_put_30 rfl ?_
      have eo : op_put (shV va) x y z = ((2, -1000000002, shV va) : OpS) := by
        simp [op_put, es, cq_4, cc_20]; try decide
      rw [eo] at k
      exact k _ (RefW.errS 2 (by decide) hR hv hw)
  · have cq_4 := bI_0.mp cc_4
    refine ok_aload_n (pc := 7) dX12_put_7 rfl ?_
    refine ok_ldc (pc := 8) (v := -1000000001) dX12_put_8 tw_1205 ?_
    refine ok_callVi1 (pc := 10) (d' := 0) dX12_put_10 vl_X12_84 hR.o rfl rfl rfl (by decide) ?_
    refine r_finding hR 1 (by decide) (by decide) (fun M hR => ?_)
    refine ok_iret (pc := 13) dX12_put_13 rfl ?_
    have eo : op_put (shV va) x y z = ((1, -1000000001, shV va) : OpS) := by
      simp [op_put, es, cq_4]; try decide
    rw [eo] at k
    exact k _ (RefW.errS 1 (by decide) hR hv hw)
