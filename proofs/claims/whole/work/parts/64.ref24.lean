/-! voices: the trace is (how many, which) -/
abbrev Tr : Type := Nat × Rw
def apT (s : Tr) (v : Int32) : Tr := if s.1 < 40 then (s.1 + 1, upd s.2 s.1 v) else s
theorem apT_le {s : Tr} {v : Int32} (h : s.1 ≤ 40) : (apT s v).1 ≤ 40 := by unfold apT; split; (show s.1 + 1 ≤ 40; omega); exact h
def b10 (n x : Int32) (s : Tr) : Int32 × Tr := (x + n, apT s 10)
def b30 (n x : Int32) (s : Tr) : Int32 × Tr := ((b10 n x (apT s 30)).1 * 3, (b10 n x (apT s 30)).2)
def vLi (k n x : Int32) (s : Tr) : Int32 × Tr := if k = 2 ∨ k = 5 then b30 n x s else b10 n x s
def b11 (k n x : Int32) (s : Tr) : Int32 × Tr := ((vLi k n x (apT s 11)).1 * 2, (vLi k n x (apT s 11)).2)
def b12 (m x : Int32) (s : Tr) : Int32 × Tr := (x - m, apT s 12)
def b40 (m x : Int32) (s : Tr) : Int32 × Tr := (-(b12 m x (apT s 40)).1, (b12 m x (apT s 40)).2)
def b70 (n m x : Int32) (s : Tr) : Int32 × Tr := ((b40 m x (apT s 70)).1 ^^^ n, (b40 m x (apT s 70)).2)
def vSi (k n m x : Int32) (s : Tr) : Int32 × Tr := if k = 3 then b40 m x s else if k = 6 then b70 n m x s else b12 m x s
def b20 (k n m x : Int32) (s : Tr) : Int32 × Tr := ((b11 k n x (apT s 20)).1 - (vSi k n m 1 (b11 k n x (apT s 20)).2).1, (vSi k n m 1 (b11 k n x (apT s 20)).2).2)
def b50 (k n m x : Int32) (s : Tr) : Int32 × Tr := b20 k n m (x + 1) (apT s 50)
def vSw (k n m x : Int32) (s : Tr) : Int32 × Tr := if k = 1 then b20 k n m x s else if k = 4 then b50 k n m x s else b11 k n x s
def b13 (k n m x : Int32) (s : Tr) : Int32 × Tr := ((vSw k n m x (apT s 13)).1 ^^^ (vSi k n m x (vSw k n m x (apT s 13)).2).1, (vSi k n m x (vSw k n m x (apT s 13)).2).2)
def b60 (k n m x : Int32) (s : Tr) : Int32 × Tr := ((b13 k n m x (apT s 60)).1 - (vLi k n 2 (b13 k n m x (apT s 60)).2).1, (vLi k n 2 (b13 k n m x (apT s 60)).2).2)
def b71 (k n m x : Int32) (s : Tr) : Int32 × Tr := ((vSw k n m x (apT s 71)).1 - (b13 k n m x (vSw k n m x (apT s 71)).2).1, (b13 k n m x (vSw k n m x (apT s 71)).2).2)
def vTe (k n m x : Int32) (s : Tr) : Int32 × Tr := if k = 5 then b60 k n m x s else if k = 6 then b71 k n m x s else b13 k n m x s
theorem b10_le {n x : Int32} {s : Tr} (h : s.1 ≤ 40) : (b10 n x s).2.1 ≤ 40 := apT_le h
theorem b30_le {n x : Int32} {s : Tr} (h : s.1 ≤ 40) : (b30 n x s).2.1 ≤ 40 := b10_le (n := n) (x := x) (apT_le h)
theorem vLi_le {k n x : Int32} {s : Tr} (h : s.1 ≤ 40) : (vLi k n x s).2.1 ≤ 40 := by unfold vLi; split; exact b30_le h; exact b10_le h
theorem b11_le {k n x : Int32} {s : Tr} (h : s.1 ≤ 40) : (b11 k n x s).2.1 ≤ 40 := vLi_le (apT_le h)
theorem b12_le {m x : Int32} {s : Tr} (h : s.1 ≤ 40) : (b12 m x s).2.1 ≤ 40 := apT_le h
theorem b40_le {m x : Int32} {s : Tr} (h : s.1 ≤ 40) : (b40 m x s).2.1 ≤ 40 := b12_le (m := m) (x := x) (apT_le h)
theorem b70_le {n m x : Int32} {s : Tr} (h : s.1 ≤ 40) : (b70 n m x s).2.1 ≤ 40 := b40_le (m := m) (x := x) (apT_le h)
theorem vSi_le {k n m x : Int32} {s : Tr} (h : s.1 ≤ 40) : (vSi k n m x s).2.1 ≤ 40 := by unfold vSi; split; exact b40_le h; split; exact b70_le h; exact b12_le h
theorem b20_le {k n m x : Int32} {s : Tr} (h : s.1 ≤ 40) : (b20 k n m x s).2.1 ≤ 40 := vSi_le (b11_le (apT_le h))
theorem b50_le {k n m x : Int32} {s : Tr} (h : s.1 ≤ 40) : (b50 k n m x s).2.1 ≤ 40 := b20_le (apT_le h)
theorem vSw_le {k n m x : Int32} {s : Tr} (h : s.1 ≤ 40) : (vSw k n m x s).2.1 ≤ 40 := by unfold vSw; split; exact b20_le h; split; exact b50_le h; exact b11_le h
theorem b13_le {k n m x : Int32} {s : Tr} (h : s.1 ≤ 40) : (b13 k n m x s).2.1 ≤ 40 := vSi_le (vSw_le (apT_le h))
theorem b60_le {k n m x : Int32} {s : Tr} (h : s.1 ≤ 40) : (b60 k n m x s).2.1 ≤ 40 := vLi_le (b13_le (apT_le h))
theorem b71_le {k n m x : Int32} {s : Tr} (h : s.1 ≤ 40) : (b71 k n m x s).2.1 ≤ 40 := b13_le (vSw_le (apT_le h))
theorem vTe_le {k n m x : Int32} {s : Tr} (h : s.1 ≤ 40) : (vTe k n m x s).2.1 ≤ 40 := by unfold vTe; split; exact b60_le h; split; exact b71_le h; exact b13_le h
def vcF (act : Nat) (k n m x : Int32) (s : Tr) : Int32 × Tr := if act = 0 then vLi k n x s else if act = 1 then vSw k n m x s else if act = 2 then vSi k n m x s else vTe k n m x s
def op_voice (σ : Rw) (tr : Tr) (x y z : Int32) : Nat × Int32 × Tr := if wi x 0 (σ 2 - 1) && wi y 0 3 then (0, vcF (iN y) (kf σ (iN x) 0) (nI (iN x)) (kf σ (iN x) 1) z (0, tr.2)) else (1, -1000000001, tr)
theorem vup_vup {α : Type} {f : Nat → α} {k : Nat} {v w : α} : va_up (va_up f k v) k w = va_up f k w := by funext j; unfold va_up; split <;> rfl
/-- the reference with a trace -/
def RefV (Γ : Cx) (m : Nat) (M0 : Nat → Option va_E) (σ κ ri : Rw) (ra : Nat → Rw) (s : Tr) (M : Nat → Option va_E) : Prop := RefX Γ m M0 σ κ (upd ri 19 (nI s.1)) (va_up ra 18 s.2) M
def hoF (k c : Int32) : Bool := if k = 0 then true else if k = 1 then decide (c = 1) else if k = 2 then decide (c = 0) else if k = 3 then decide (c = 2) else if k = 4 then decide (c = 1) else if k = 5 then decide (c = 3) else decide (1 < c)

set_option maxHeartbeats 1000000 in
theorem r_began {Γ : Cx} {m sz : Nat} {M0 M : Nat → Option va_E} {σ κ : Rw} {ri : Rw} {ra : Nat → Rw} {s : Tr} (hV : RefV Γ m M0 σ κ ri ra s M) {K : Wd → Prop} {v : Int32} (hs : s.1 ≤ 40) (k : ∀ M', RefV Γ m M0 σ κ ri ra (apT s v) M' → K (M', sz)) : Spec Γ mX12_began 0 0 [.ref m, .int v] (M, sz) (cv K) := by
  have hR := hV
  unfold RefV at hR
  refine spec_in [some (.ref m), some (.int v)] 0 (by decide) rfl rfl ?_
  refine ok_aload_n (pc := 0) dX12_began_0 rfl ?_
  refine ok_getf (pc := 1) dX12_began_1 fl_X12_317 hR.o rfl ?_
  refine ok_bipush (pc := 4) (v := 40) dX12_began_4 (by decide) ?_
  have e19 : upd ri 19 (nI s.1) 19 = nI s.1 := upd_at
  rw [e19]
  refine ok_icmp_ge (pc := 6) 29 dX12_began_6 (by decide) (fun cc_6 => ?_) (fun cc_6 => ?_)
  · have ce_6 := Int32.not_lt.mpr cc_6
    have h40 : ¬ s.1 < 40 := fun h9 => absurd cc_6 (nI_ge h9 (by decide))
    refine ok_vret (pc := 29) dX12_began_29 rfl ?_
    first
      | (have ea : apT s v = s := if_neg h40
         rw [ea] at k
         exact k _ hR)
      | (have ea : apT s v = (s.1 + 1, upd s.2 s.1 v) := if_pos h40
         rw [ea] at k
         rw [fa_upd_twice, nI_1, vup_vup, vup_eq] at hR
         exact k _ hR)
  · have ce_6 := Int32.not_le.mp cc_6
    have h40 : s.1 < 40 := by rcases Nat.lt_or_ge s.1 40 with h9 | h9; exact h9; exact absurd (nI_le h9 (by omega)) cc_6
    refine ok_aload_n (pc := 9) dX12_began_9 rfl ?_
    refine ok_getf (pc := 10) dX12_began_10 fl_X12_50 hR.o rfl ?_
    refine ok_aload_n (pc := 13) dX12_began_13 rfl ?_
    refine ok_getf (pc := 14) dX12_began_14 fl_X12_317 hR.o rfl ?_
    refine ok_iload_n (pc := 17) dX12_began_17 rfl ?_
    rw [upd_at]
    refine ok_rst18 (pc := 18) (s.1) dX12_began_18 hR rfl (by omega) (fun M hR => ?_)
    refine ok_aload_n (pc := 19) dX12_began_19 rfl ?_
    refine ok_dup (pc := 20) dX12_began_20 rfl ?_
    refine ok_getf (pc := 21) dX12_began_21 fl_X12_317 hR.o rfl ?_
    rw [upd_at]
    refine ok_iconst (pc := 24) (v := 1) dX12_began_24 (by decide) ?_
    refine ok_iadd (pc := 25) dX12_began_25 ?_
    refine ok_rpt19 (pc := 26) dX12_began_26 pl_X12_317 hR (fun M hR => ?_)
    refine ok_vret (pc := 29) dX12_began_29 rfl ?_
    first
      | (have ea : apT s v = s := if_neg h40
         rw [ea] at k
         exact k _ hR)
      | (have ea : apT s v = (s.1 + 1, upd s.2 s.1 v) := if_pos h40
         rw [ea] at k
         rw [fa_upd_twice, nI_1, vup_vup, vup_eq] at hR
         exact k _ hR)

set_option maxHeartbeats 1000000 in
theorem r_hasOwn {Γ : Cx} {G : Wd} {K : Int32 → Wd → Prop} {x y : Int32} (k : K (bI (hoF x y)) G) : Spec Γ mX12_hasOwn 0 0 [.int x, .int y] G (ci K) := by
  refine spec_in [some (.int x), some (.int y)] 0 (by decide) rfl rfl ?_
  refine ok_iload_n (pc := 0) dX12_hasOwn_0 rfl ?_
  by_cases sw1_0 : x = 0
  · refine ok_table (pc := 1) 40 dX12_hasOwn_1 (by rw [sw1_0]; decide) (by rw [sw1_0]; decide) (by rw [sw1_0]; rfl) (by decide) ?_
    refine ok_iconst (pc := 40) (v := 1) dX12_hasOwn_40 (by decide) ?_
    refine ok_zret (pc := 41) dX12_hasOwn_41 rfl rfl ?_
    first
      | (simpa [hoF, bI, sw1_0] using k)
  by_cases sw1_1 : x = 1
  · refine ok_table (pc := 1) 42 dX12_hasOwn_1 (by rw [sw1_1]; decide) (by rw [sw1_1]; decide) (by rw [sw1_1]; rfl) (by decide) ?_
    refine ok_iload_n (pc := 42) dX12_hasOwn_42 rfl ?_
    refine ok_iconst (pc := 43) (v := 1) dX12_hasOwn_43 (by decide) ?_
    refine ok_icmp_ne (pc := 44) 51 dX12_hasOwn_44 (by decide) (fun cc_44 => ?_) (fun cc_44 => ?_)
    · refine ok_iconst (pc := 51) (v := 0) dX12_hasOwn_51 (by decide) ?_
      refine ok_zret (pc := 52) dX12_hasOwn_52 rfl rfl ?_
      first
        | (simpa [hoF, bI, sw1_0, sw1_1, cc_44] using k)
    · refine ok_iconst (pc := 47) (v := 1) dX12_hasOwn_47 (by decide) ?_
      refine ok_goto (pc := 48) 52 dX12_hasOwn_48 (by decide) ?_
      refine ok_zret (pc := 52) dX12_hasOwn_52 rfl rfl ?_
      first
        | (simpa [hoF, bI, sw1_0, sw1_1, cc_44] using k)
  by_cases sw1_2 : x = 2
  · refine ok_table (pc := 1) 53 dX12_hasOwn_1 (by rw [sw1_2]; decide) (by rw [sw1_2]; decide) (by rw [sw1_2]; rfl) (by decide) ?_
    refine ok_iload_n (pc := 53) dX12_hasOwn_53 rfl ?_
    refine ok_if_ne (pc := 54) 61 dX12_hasOwn_54 (by decide) (fun cc_54 => ?_) (fun cc_54 => ?_)
    · refine ok_iconst (pc := 61) (v := 0) dX12_hasOwn_61 (by decide) ?_
      refine ok_zret (pc := 62) dX12_hasOwn_62 rfl rfl ?_
      first
        | (simpa [hoF, bI, sw1_0, sw1_1, sw1_2, cc_54] using k)
    · refine ok_iconst (pc := 57) (v := 1) dX12_hasOwn_57 (by decide) ?_
      refine ok_goto (pc := 58) 62 dX12_hasOwn_58 (by decide) ?_
      refine ok_zret (pc := 62) dX12_hasOwn_62 rfl rfl ?_
      first
        | (simpa [hoF, bI, sw1_0, sw1_1, sw1_2, cc_54] using k)
  by_cases sw1_3 : x = 3
  · refine ok_table (pc := 1) 63 dX12_hasOwn_1 (by rw [sw1_3]; decide) (by rw [sw1_3]; decide) (by rw [sw1_3]; rfl) (by decide) ?_
    refine ok_iload_n (pc := 63) dX12_hasOwn_63 rfl ?_
    refine ok_iconst (pc := 64) (v := 2) dX12_hasOwn_64 (by decide) ?_
    refine ok_icmp_ne (pc := 65) 72 dX12_hasOwn_65 (by decide) (fun cc_65 => ?_) (fun cc_65 => ?_)
    · refine ok_iconst (pc := 72) (v := 0) dX12_hasOwn_72 (by decide) ?_
      refine ok_zret (pc := 73) dX12_hasOwn_73 rfl rfl ?_
      first
        | (simpa [hoF, bI, sw1_0, sw1_1, sw1_2, sw1_3, cc_65] using k)
    · refine ok_iconst (pc := 68) (v := 1) dX12_hasOwn_68 (by decide) ?_
      refine ok_goto (pc := 69) 73 dX12_hasOwn_69 (by decide) ?_
      refine ok_zret (pc := 73) dX12_hasOwn_73 rfl rfl ?_
      first
        | (simpa [hoF, bI, sw1_0, sw1_1, sw1_2, sw1_3, cc_65] using k)
  by_cases sw1_4 : x = 4
  · refine ok_table (pc := 1) 42 dX12_hasOwn_1 (by rw [sw1_4]; decide) (by rw [sw1_4]; decide) (by rw [sw1_4]; rfl) (by decide) ?_
    refine ok_iload_n (pc := 42) dX12_hasOwn_42 rfl ?_
    refine ok_iconst (pc := 43) (v := 1) dX12_hasOwn_43 (by decide) ?_
    refine ok_icmp_ne (pc := 44) 51 dX12_hasOwn_44 (by decide) (fun cc_44 => ?_) (fun cc_44 => ?_)
    · refine ok_iconst (pc := 51) (v := 0) dX12_hasOwn_51 (by decide) ?_
      refine ok_zret (pc := 52) dX12_hasOwn_52 rfl rfl ?_
      first
        | (simpa [hoF, bI, sw1_0, sw1_1, sw1_2, sw1_3, sw1_4, cc_44] using k)
    · refine ok_iconst (pc := 47) (v := 1) dX12_hasOwn_47 (by decide) ?_
      refine ok_goto (pc := 48) 52 dX12_hasOwn_48 (by decide) ?_
      refine ok_zret (pc := 52) dX12_hasOwn_52 rfl rfl ?_
      first
        | (simpa [hoF, bI, sw1_0, sw1_1, sw1_2, sw1_3, sw1_4, cc_44] using k)
  by_cases sw1_5 : x = 5
  · refine ok_table (pc := 1) 74 dX12_hasOwn_1 (by rw [sw1_5]; decide) (by rw [sw1_5]; decide) (by rw [sw1_5]; rfl) (by decide) ?_
    refine ok_iload_n (pc := 74) dX12_hasOwn_74 rfl ?_
    refine ok_iconst (pc := 75) (v := 3) dX12_hasOwn_75 (by decide) ?_
    refine ok_icmp_ne (pc := 76) 83 dX12_hasOwn_76 (by decide) (fun cc_76 => ?_) (fun cc_76 => ?_)
    · refine ok_iconst (pc := 83) (v := 0) dX12_hasOwn_83 (by decide) ?_
      refine ok_zret (pc := 84) dX12_hasOwn_84 rfl rfl ?_
      first
        | (simpa [hoF, bI, sw1_0, sw1_1, sw1_2, sw1_3, sw1_4, sw1_5, cc_76] using k)
    · refine ok_iconst (pc := 79) (v := 1) dX12_hasOwn_79 (by decide) ?_
      refine ok_goto (pc := 80) 84 dX12_hasOwn_80 (by decide) ?_
      refine ok_zret (pc := 84) dX12_hasOwn_84 rfl rfl ?_
      first
        | (simpa [hoF, bI, sw1_0, sw1_1, sw1_2, sw1_3, sw1_4, sw1_5, cc_76] using k)
  refine ok_tableOut (pc := 1) 85 dX12_hasOwn_1 (by have h := tab_out (0) 6 (by decide) (by decide) (fun j hj => by match j, hj with | 0, _ => exact (fun h => sw1_0 (h.trans (by decide))) | 1, _ => exact (fun h => sw1_1 (h.trans (by decide))) | 2, _ => exact (fun h => sw1_2 (h.trans (by decide))) | 3, _ => exact (fun h => sw1_3 (h.trans (by decide))) | 4, _ => exact (fun h => sw1_4 (h.trans (by decide))) | 5, _ => exact (fun h => sw1_5 (h.trans (by decide)))); exact h) (by decide) ?_
  refine ok_iload_n (pc := 85) dX12_hasOwn_85 rfl ?_
  refine ok_iconst (pc := 86) (v := 1) dX12_hasOwn_86 (by decide) ?_
  refine ok_icmp_le (pc := 87) 94 dX12_hasOwn_87 (by decide) (fun cc_87 => ?_) (fun cc_87 => ?_)
  · have ce_87 := Int32.not_lt.mpr cc_87
    refine ok_iconst (pc := 94) (v := 0) dX12_hasOwn_94 (by decide) ?_
    refine ok_zret (pc := 95) dX12_hasOwn_95 rfl rfl ?_
    first
      | (simpa [hoF, bI, sw1_0, sw1_1, sw1_2, sw1_3, sw1_4, sw1_5, cc_87, ce_87] using k)
  · have ce_87 := Int32.not_le.mp cc_87
    refine ok_iconst (pc := 90) (v := 1) dX12_hasOwn_90 (by decide) ?_
    refine ok_goto (pc := 91) 95 dX12_hasOwn_91 (by decide) ?_
    refine ok_zret (pc := 95) dX12_hasOwn_95 rfl rfl ?_
    first
      | (simpa [hoF, bI, sw1_0, sw1_1, sw1_2, sw1_3, sw1_4, sw1_5, cc_87, ce_87] using k)

set_option maxHeartbeats 1000000 in
theorem r_b10 {Γ : Cx} {m sz : Nat} {M0 M : Nat → Option va_E} {σ κ : Rw} {ri : Rw} {ra : Nat → Rw} {s : Tr} (hV : RefV Γ m M0 σ κ ri ra s M) {K : Int32 → Wd → Prop} {x : Int32} (sp : Nat) (esp : ri 20 = nI sp) (hsp : sp < 8) (hs : s.1 ≤ 40) (k6 : 0 ≤ kf σ sp 0 ∧ kf σ sp 0 ≤ 6) (k : ∀ M', RefV Γ m M0 σ κ ri ra (b10 (nI sp) x s).2 M' → K (b10 (nI sp) x s).1 (M', sz)) : Spec Γ mX12_body 1 0 [.ref m, .int 0, .int 0, .int x] (M, sz) (ci K) := by
  have hR := hV
  unfold RefV at hR
  have esp2 : upd ri 19 (nI s.1) 20 = nI sp := (upd_ne (by decide)).trans esp
  refine spec_in [some (.ref m), some (.int 0), some (.int 0), some (.int x), none, none, none] 3 (by decide) rfl rfl ?_
  refine ok_aload_n (pc := 0) dX12_body_0 rfl ?_
  refine ok_getf (pc := 1) dX12_body_1 fl_X12_320 hR.o rfl ?_
  rw [esp2]
  refine ok_istore4 (pc := 4) dX12_body_4 (by decide) rfl ?_
  refine ok_aload_n (pc := 6) dX12_body_6 rfl ?_
  refine ok_aload_n (pc := 7) dX12_body_7 rfl ?_
  refine ok_getf (pc := 8) dX12_body_8 fl_X12_320 hR.o rfl ?_
  refine ok_iconst (pc := 11) (v := 1) dX12_body_11 (by decide) ?_
  refine ok_callVi2 (pc := 12) (d' := 0) dX12_body_12 vl_X12_117 hR.o rfl rfl rfl (by decide) ?_
  refine r_kiteIs hR sp esp2 1 rfl hsp (by decide) ?_
  refine ok_istore5 (pc := 15) dX12_body_15 (by decide) rfl ?_
  refine ok_iconst (pc := 17) (v := 4) dX12_body_17 (by decide) ?_
  refine ok_iload_n (pc := 18) dX12_body_18 rfl ?_
  refine ok_imul (pc := 19) dX12_body_19 ?_
  refine ok_iload_n (pc := 20) dX12_body_20 rfl ?_
  refine ok_iadd (pc := 21) dX12_body_21 ?_
  refine ok_table (pc := 22) 144 dX12_body_22 (by decide) (by decide) rfl (by decide) ?_
  refine ok_aload_n (pc := 144) dX12_body_144 rfl ?_
  refine ok_bipush (pc := 145) (v := 10) dX12_body_145 (by decide) ?_
  refine ok_callVv1 (pc := 147) (d' := 0) dX12_body_147 vl_X12_332 hR.o rfl rfl rfl (by decide) ?_
  refine r_began hV hs (fun M hV => ?_)
  have hR := hV
  unfold RefV at hR
  refine ok_iload_n (pc := 150) dX12_body_150 rfl ?_
  refine ok_iload (pc := 151) dX12_body_151 rfl ?_
  refine ok_iadd (pc := 153) dX12_body_153 ?_
  refine ok_iret (pc := 154) dX12_body_154 rfl ?_
  exact k _ hV

set_option maxHeartbeats 1000000 in
theorem r_bf00 {Γ : Cx} {m sz : Nat} {M0 M : Nat → Option va_E} {σ κ : Rw} {ri : Rw} {ra : Nat → Rw} {s : Tr} (hV : RefV Γ m M0 σ κ ri ra s M) {K : Int32 → Wd → Prop} {x : Int32} (sp : Nat) (esp : ri 20 = nI sp) (hsp : sp < 8) (hs : s.1 ≤ 40) (k6 : 0 ≤ kf σ sp 0 ∧ kf σ sp 0 ≤ 6) (k : ∀ M', RefV Γ m M0 σ κ ri ra (b10 (nI sp) x s).2 M' → K (b10 (nI sp) x s).1 (M', sz)) : Spec Γ mX12_bodyFrom 2 0 [.ref m, .int 0, .int 0, .int x] (M, sz) (ci K) := by
  have hR := hV
  unfold RefV at hR
  refine spec_in [some (.ref m), some (.int 0), some (.int 0), some (.int x), none] 1 (by decide) rfl rfl ?_
  refine ok_iload_n (pc := 0) dX12_bodyFrom_0 rfl ?_
  refine ok_istore4 (pc := 1) dX12_bodyFrom_1 (by decide) rfl ?_
  refine ok_iload (pc := 3) dX12_bodyFrom_3 rfl ?_
  refine ok_iload_n (pc := 5) dX12_bodyFrom_5 rfl ?_
  refine ok_callSi2 (pc := 6) (d' := 0) dX12_bodyFrom_6 sl_X12_326 rfl (by decide) ?_
  refine r_hasOwn ?_
  refine ok_if_ne (pc := 9) 22 dX12_bodyFrom_9 (by decide) (fun _ => ?_) (fun cc_9 => absurd cc_9 (by decide))
  refine ok_aload_n (pc := 22) dX12_bodyFrom_22 rfl ?_
  refine ok_iload (pc := 23) dX12_bodyFrom_23 rfl ?_
  refine ok_iload_n (pc := 25) dX12_bodyFrom_25 rfl ?_
  refine ok_iload_n (pc := 26) dX12_bodyFrom_26 rfl ?_
  refine ok_callVi3 (pc := 27) (d' := 1) dX12_bodyFrom_27 vl_X12_329 hR.o rfl rfl rfl (by decide) ?_
  refine r_b10 hV sp esp hsp hs k6 (fun M hV => ?_)
  refine ok_iret (pc := 30) dX12_bodyFrom_30 rfl ?_
  exact k _ hV

set_option maxHeartbeats 1000000 in
theorem r_b30 {Γ : Cx} {m sz : Nat} {M0 M : Nat → Option va_E} {σ κ : Rw} {ri : Rw} {ra : Nat → Rw} {s : Tr} (hV : RefV Γ m M0 σ κ ri ra s M) {K : Int32 → Wd → Prop} {x : Int32} (sp : Nat) (esp : ri 20 = nI sp) (hsp : sp < 8) (hs : s.1 ≤ 40) (k6 : 0 ≤ kf σ sp 0 ∧ kf σ sp 0 ≤ 6) (k : ∀ M', RefV Γ m M0 σ κ ri ra (b30 (nI sp) x s).2 M' → K (b30 (nI sp) x s).1 (M', sz)) : Spec Γ mX12_body 3 0 [.ref m, .int 2, .int 0, .int x] (M, sz) (ci K) := by
  have hR := hV
  unfold RefV at hR
  have esp2 : upd ri 19 (nI s.1) 20 = nI sp := (upd_ne (by decide)).trans esp
  refine spec_in [some (.ref m), some (.int 2), some (.int 0), some (.int x), none, none, none] 3 (by decide) rfl rfl ?_
  refine ok_aload_n (pc := 0) dX12_body_0 rfl ?_
  refine ok_getf (pc := 1) dX12_body_1 fl_X12_320 hR.o rfl ?_
  rw [esp2]
  refine ok_istore4 (pc := 4) dX12_body_4 (by decide) rfl ?_
  refine ok_aload_n (pc := 6) dX12_body_6 rfl ?_
  refine ok_aload_n (pc := 7) dX12_body_7 rfl ?_
  refine ok_getf (pc := 8) dX12_body_8 fl_X12_320 hR.o rfl ?_
  refine ok_iconst (pc := 11) (v := 1) dX12_body_11 (by decide) ?_
  refine ok_callVi2 (pc := 12) (d' := 0) dX12_body_12 vl_X12_117 hR.o rfl rfl rfl (by decide) ?_
  refine r_kiteIs hR sp esp2 1 rfl hsp (by decide) ?_
  refine ok_istore5 (pc := 15) dX12_body_15 (by decide) rfl ?_
  refine ok_iconst (pc := 17) (v := 4) dX12_body_17 (by decide) ?_
  refine ok_iload_n (pc := 18) dX12_body_18 rfl ?_
  refine ok_imul (pc := 19) dX12_body_19 ?_
  refine ok_iload_n (pc := 20) dX12_body_20 rfl ?_
  refine ok_iadd (pc := 21) dX12_body_21 ?_
  refine ok_table (pc := 22) 230 dX12_body_22 (by decide) (by decide) rfl (by decide) ?_
  refine ok_aload_n (pc := 230) dX12_body_230 rfl ?_
  refine ok_bipush (pc := 231) (v := 30) dX12_body_231 (by decide) ?_
  refine ok_callVv1 (pc := 233) (d' := 0) dX12_body_233 vl_X12_332 hR.o rfl rfl rfl (by decide) ?_
  refine r_began hV hs (fun M hV => ?_)
  have hR := hV
  unfold RefV at hR
  refine ok_aload_n (pc := 236) dX12_body_236 rfl ?_
  refine ok_iconst (pc := 237) (v := 0) dX12_body_237 (by decide) ?_
  refine ok_iconst (pc := 238) (v := 0) dX12_body_238 (by decide) ?_
  refine ok_iload_n (pc := 239) dX12_body_239 rfl ?_
  refine ok_callVi3 (pc := 240) (d' := 2) dX12_body_240 vl_X12_323 hR.o rfl rfl rfl (by decide) ?_
  refine r_bf00 hV sp esp hsp (apT_le hs) k6 (fun M hV => ?_)
  have hR := hV
  unfold RefV at hR
  refine ok_iconst (pc := 243) (v := 3) dX12_body_243 (by decide) ?_
  refine ok_imul (pc := 244) dX12_body_244 ?_
  refine ok_iret (pc := 245) dX12_body_245 rfl ?_
  exact k _ hV

set_option maxHeartbeats 1000000 in
theorem r_bfu00 {Γ : Cx} {m sz : Nat} {M0 M : Nat → Option va_E} {σ κ : Rw} {ri : Rw} {ra : Nat → Rw} {s : Tr} (hV : RefV Γ m M0 σ κ ri ra s M) {K : Int32 → Wd → Prop} {x : Int32} (sp : Nat) (esp : ri 20 = nI sp) (hsp : sp < 8) (hs : s.1 ≤ 40) (k6 : 0 ≤ kf σ sp 0 ∧ kf σ sp 0 ≤ 6) (k : ∀ M', RefV Γ m M0 σ κ ri ra (b10 (nI sp) x s).2 M' → K (b10 (nI sp) x s).1 (M', sz)) : Spec Γ mX12_bodyFrom 4 0 [.ref m, .int 0, .int 0, .int x] (M, sz) (ci K) := by
  have hR := hV
  unfold RefV at hR
  refine spec_in [some (.ref m), some (.int 0), some (.int 0), some (.int x), none] 1 (by decide) rfl rfl ?_
  refine ok_iload_n (pc := 0) dX12_bodyFrom_0 rfl ?_
  refine ok_istore4 (pc := 1) dX12_bodyFrom_1 (by decide) rfl ?_
  refine ok_iload (pc := 3) dX12_bodyFrom_3 rfl ?_
  refine ok_iload_n (pc := 5) dX12_bodyFrom_5 rfl ?_
  refine ok_callSi2 (pc := 6) (d' := 0) dX12_bodyFrom_6 sl_X12_326 rfl (by decide) ?_
  refine r_hasOwn ?_
  refine ok_if_ne (pc := 9) 22 dX12_bodyFrom_9 (by decide) (fun _ => ?_) (fun cc_9 => absurd cc_9 (by decide))
  refine ok_aload_n (pc := 22) dX12_bodyFrom_22 rfl ?_
  refine ok_iload (pc := 23) dX12_bodyFrom_23 rfl ?_
  refine ok_iload_n (pc := 25) dX12_bodyFrom_25 rfl ?_
  refine ok_iload_n (pc := 26) dX12_bodyFrom_26 rfl ?_
  refine ok_callVi3 (pc := 27) (d' := 1) dX12_bodyFrom_27 vl_X12_329 hR.o rfl rfl rfl (by decide) ?_
  refine r_b10 hV sp esp hsp hs k6 (fun M hV => ?_)
  refine ok_iret (pc := 30) dX12_bodyFrom_30 rfl ?_
  exact k _ hV

set_option maxHeartbeats 1000000 in
theorem r_bfu10 {Γ : Cx} {m sz : Nat} {M0 M : Nat → Option va_E} {σ κ : Rw} {ri : Rw} {ra : Nat → Rw} {s : Tr} (hV : RefV Γ m M0 σ κ ri ra s M) {K : Int32 → Wd → Prop} {x : Int32} (sp : Nat) (esp : ri 20 = nI sp) (hsp : sp < 8) (hs : s.1 ≤ 40) (k6 : 0 ≤ kf σ sp 0 ∧ kf σ sp 0 ≤ 6) (k : ∀ M', RefV Γ m M0 σ κ ri ra (b10 (nI sp) x s).2 M' → K (b10 (nI sp) x s).1 (M', sz)) : Spec Γ mX12_bodyFrom 4 0 [.ref m, .int 1, .int 0, .int x] (M, sz) (ci K) := by
  have hR := hV
  unfold RefV at hR
  refine spec_in [some (.ref m), some (.int 1), some (.int 0), some (.int x), none] 1 (by decide) rfl rfl ?_
  refine ok_iload_n (pc := 0) dX12_bodyFrom_0 rfl ?_
  refine ok_istore4 (pc := 1) dX12_bodyFrom_1 (by decide) rfl ?_
  refine ok_iload (pc := 3) dX12_bodyFrom_3 rfl ?_
  refine ok_iload_n (pc := 5) dX12_bodyFrom_5 rfl ?_
  refine ok_callSi2 (pc := 6) (d' := 0) dX12_bodyFrom_6 sl_X12_326 rfl (by decide) ?_
  refine r_hasOwn ?_
  refine ok_if_ne (pc := 9) 22 dX12_bodyFrom_9 (by decide) (fun cc_9 => absurd (by decide) cc_9) (fun _ => ?_)
  refine ok_iload (pc := 12) dX12_bodyFrom_12 rfl ?_
  refine ok_callSi1 (pc := 14) (d' := 0) dX12_bodyFrom_14 sl_X12_120 rfl (by decide) ?_
  refine r_above ?_
  rw [show aboveF 1 = 0 from by decide]
  refine ok_istore4 (pc := 17) dX12_bodyFrom_17 (by decide) rfl ?_
  refine ok_goto (pc := 19) 3 dX12_bodyFrom_19 (by decide) ?_
  refine ok_iload (pc := 3) dX12_bodyFrom_3 rfl ?_
  refine ok_iload_n (pc := 5) dX12_bodyFrom_5 rfl ?_
  refine ok_callSi2 (pc := 6) (d' := 0) dX12_bodyFrom_6 sl_X12_326 rfl (by decide) ?_
  refine r_hasOwn ?_
  refine ok_if_ne (pc := 9) 22 dX12_bodyFrom_9 (by decide) (fun _ => ?_) (fun cc_9 => absurd cc_9 (by decide))
  refine ok_aload_n (pc := 22) dX12_bodyFrom_22 rfl ?_
  refine ok_iload (pc := 23) dX12_bodyFrom_23 rfl ?_
  refine ok_iload_n (pc := 25) dX12_bodyFrom_25 rfl ?_
  refine ok_iload_n (pc := 26) dX12_bodyFrom_26 rfl ?_
  refine ok_callVi3 (pc := 27) (d' := 1) dX12_bodyFrom_27 vl_X12_329 hR.o rfl rfl rfl (by decide) ?_
  refine r_b10 hV sp esp hsp hs k6 (fun M hV => ?_)
  refine ok_iret (pc := 30) dX12_bodyFrom_30 rfl ?_
  exact k _ hV

set_option maxHeartbeats 1000000 in
theorem r_bfu20 {Γ : Cx} {m sz : Nat} {M0 M : Nat → Option va_E} {σ κ : Rw} {ri : Rw} {ra : Nat → Rw} {s : Tr} (hV : RefV Γ m M0 σ κ ri ra s M) {K : Int32 → Wd → Prop} {x : Int32} (sp : Nat) (esp : ri 20 = nI sp) (hsp : sp < 8) (hs : s.1 ≤ 40) (k6 : 0 ≤ kf σ sp 0 ∧ kf σ sp 0 ≤ 6) (k : ∀ M', RefV Γ m M0 σ κ ri ra (b30 (nI sp) x s).2 M' → K (b30 (nI sp) x s).1 (M', sz)) : Spec Γ mX12_bodyFrom 4 0 [.ref m, .int 2, .int 0, .int x] (M, sz) (ci K) := by
  have hR := hV
  unfold RefV at hR
  refine spec_in [some (.ref m), some (.int 2), some (.int 0), some (.int x), none] 1 (by decide) rfl rfl ?_
  refine ok_iload_n (pc := 0) dX12_bodyFrom_0 rfl ?_
  refine ok_istore4 (pc := 1) dX12_bodyFrom_1 (by decide) rfl ?_
  refine ok_iload (pc := 3) dX12_bodyFrom_3 rfl ?_
  refine ok_iload_n (pc := 5) dX12_bodyFrom_5 rfl ?_
  refine ok_callSi2 (pc := 6) (d' := 0) dX12_bodyFrom_6 sl_X12_326 rfl (by decide) ?_
  refine r_hasOwn ?_
  refine ok_if_ne (pc := 9) 22 dX12_bodyFrom_9 (by decide) (fun _ => ?_) (fun cc_9 => absurd cc_9 (by decide))
  refine ok_aload_n (pc := 22) dX12_bodyFrom_22 rfl ?_
  refine ok_iload (pc := 23) dX12_bodyFrom_23 rfl ?_
  refine ok_iload_n (pc := 25) dX12_bodyFrom_25 rfl ?_
  refine ok_iload_n (pc := 26) dX12_bodyFrom_26 rfl ?_
  refine ok_callVi3 (pc := 27) (d' := 3) dX12_bodyFrom_27 vl_X12_329 hR.o rfl rfl rfl (by decide) ?_
  refine r_b30 hV sp esp hsp hs k6 (fun M hV => ?_)
  refine ok_iret (pc := 30) dX12_bodyFrom_30 rfl ?_
  exact k _ hV

set_option maxHeartbeats 1000000 in
theorem r_bfu30 {Γ : Cx} {m sz : Nat} {M0 M : Nat → Option va_E} {σ κ : Rw} {ri : Rw} {ra : Nat → Rw} {s : Tr} (hV : RefV Γ m M0 σ κ ri ra s M) {K : Int32 → Wd → Prop} {x : Int32} (sp : Nat) (esp : ri 20 = nI sp) (hsp : sp < 8) (hs : s.1 ≤ 40) (k6 : 0 ≤ kf σ sp 0 ∧ kf σ sp 0 ≤ 6) (k : ∀ M', RefV Γ m M0 σ κ ri ra (b10 (nI sp) x s).2 M' → K (b10 (nI sp) x s).1 (M', sz)) : Spec Γ mX12_bodyFrom 4 0 [.ref m, .int 3, .int 0, .int x] (M, sz) (ci K) := by
  have hR := hV
  unfold RefV at hR
  refine spec_in [some (.ref m), some (.int 3), some (.int 0), some (.int x), none] 1 (by decide) rfl rfl ?_
  refine ok_iload_n (pc := 0) dX12_bodyFrom_0 rfl ?_
  refine ok_istore4 (pc := 1) dX12_bodyFrom_1 (by decide) rfl ?_
  refine ok_iload (pc := 3) dX12_bodyFrom_3 rfl ?_
  refine ok_iload_n (pc := 5) dX12_bodyFrom_5 rfl ?_
  refine ok_callSi2 (pc := 6) (d' := 0) dX12_bodyFrom_6 sl_X12_326 rfl (by decide) ?_
  refine r_hasOwn ?_
  refine ok_if_ne (pc := 9) 22 dX12_bodyFrom_9 (by decide) (fun cc_9 => absurd (by decide) cc_9) (fun _ => ?_)
  refine ok_iload (pc := 12) dX12_bodyFrom_12 rfl ?_
  refine ok_callSi1 (pc := 14) (d' := 0) dX12_bodyFrom_14 sl_X12_120 rfl (by decide) ?_
  refine r_above ?_
  rw [show aboveF 3 = 0 from by decide]
  refine ok_istore4 (pc := 17) dX12_bodyFrom_17 (by decide) rfl ?_
  refine ok_goto (pc := 19) 3 dX12_bodyFrom_19 (by decide) ?_
  refine ok_iload (pc := 3) dX12_bodyFrom_3 rfl ?_
  refine ok_iload_n (pc := 5) dX12_bodyFrom_5 rfl ?_
  refine ok_callSi2 (pc := 6) (d' := 0) dX12_bodyFrom_6 sl_X12_326 rfl (by decide) ?_
  refine r_hasOwn ?_
  refine ok_if_ne (pc := 9) 22 dX12_bodyFrom_9 (by decide) (fun _ => ?_) (fun cc_9 => absurd cc_9 (by decide))
  refine ok_aload_n (pc := 22) dX12_bodyFrom_22 rfl ?_
  refine ok_iload (pc := 23) dX12_bodyFrom_23 rfl ?_
  refine ok_iload_n (pc := 25) dX12_bodyFrom_25 rfl ?_
  refine ok_iload_n (pc := 26) dX12_bodyFrom_26 rfl ?_
  refine ok_callVi3 (pc := 27) (d' := 1) dX12_bodyFrom_27 vl_X12_329 hR.o rfl rfl rfl (by decide) ?_
  refine r_b10 hV sp esp hsp hs k6 (fun M hV => ?_)
  refine ok_iret (pc := 30) dX12_bodyFrom_30 rfl ?_
  exact k _ hV

set_option maxHeartbeats 1000000 in
theorem r_bfu40 {Γ : Cx} {m sz : Nat} {M0 M : Nat → Option va_E} {σ κ : Rw} {ri : Rw} {ra : Nat → Rw} {s : Tr} (hV : RefV Γ m M0 σ κ ri ra s M) {K : Int32 → Wd → Prop} {x : Int32} (sp : Nat) (esp : ri 20 = nI sp) (hsp : sp < 8) (hs : s.1 ≤ 40) (k6 : 0 ≤ kf σ sp 0 ∧ kf σ sp 0 ≤ 6) (k : ∀ M', RefV Γ m M0 σ κ ri ra (b10 (nI sp) x s).2 M' → K (b10 (nI sp) x s).1 (M', sz)) : Spec Γ mX12_bodyFrom 4 0 [.ref m, .int 4, .int 0, .int x] (M, sz) (ci K) := by
  have hR := hV
  unfold RefV at hR
  refine spec_in [some (.ref m), some (.int 4), some (.int 0), some (.int x), none] 1 (by decide) rfl rfl ?_
  refine ok_iload_n (pc := 0) dX12_bodyFrom_0 rfl ?_
  refine ok_istore4 (pc := 1) dX12_bodyFrom_1 (by decide) rfl ?_
  refine ok_iload (pc := 3) dX12_bodyFrom_3 rfl ?_
  refine ok_iload_n (pc := 5) dX12_bodyFrom_5 rfl ?_
  refine ok_callSi2 (pc := 6) (d' := 0) dX12_bodyFrom_6 sl_X12_326 rfl (by decide) ?_
  refine r_hasOwn ?_
  refine ok_if_ne (pc := 9) 22 dX12_bodyFrom_9 (by decide) (fun cc_9 => absurd (by decide) cc_9) (fun _ => ?_)
  refine ok_iload (pc := 12) dX12_bodyFrom_12 rfl ?_
  refine ok_callSi1 (pc := 14) (d' := 0) dX12_bodyFrom_14 sl_X12_120 rfl (by decide) ?_
  refine r_above ?_
  rw [show aboveF 4 = 1 from by decide]
  refine ok_istore4 (pc := 17) dX12_bodyFrom_17 (by decide) rfl ?_
  refine ok_goto (pc := 19) 3 dX12_bodyFrom_19 (by decide) ?_
  refine ok_iload (pc := 3) dX12_bodyFrom_3 rfl ?_
  refine ok_iload_n (pc := 5) dX12_bodyFrom_5 rfl ?_
  refine ok_callSi2 (pc := 6) (d' := 0) dX12_bodyFrom_6 sl_X12_326 rfl (by decide) ?_
  refine r_hasOwn ?_
  refine ok_if_ne (pc := 9) 22 dX12_bodyFrom_9 (by decide) (fun cc_9 => absurd (by decide) cc_9) (fun _ => ?_)
  refine ok_iload (pc := 12) dX12_bodyFrom_12 rfl ?_
  refine ok_callSi1 (pc := 14) (d' := 0) dX12_bodyFrom_14 sl_X12_120 rfl (by decide) ?_
  refine r_above ?_
  rw [show aboveF 1 = 0 from by decide]
  refine ok_istore4 (pc := 17) dX12_bodyFrom_17 (by decide) rfl ?_
  refine ok_goto (pc := 19) 3 dX12_bodyFrom_19 (by decide) ?_
  refine ok_iload (pc := 3) dX12_bodyFrom_3 rfl ?_
  refine ok_iload_n (pc := 5) dX12_bodyFrom_5 rfl ?_
  refine ok_callSi2 (pc := 6) (d' := 0) dX12_bodyFrom_6 sl_X12_326 rfl (by decide) ?_
  refine r_hasOwn ?_
  refine ok_if_ne (pc := 9) 22 dX12_bodyFrom_9 (by decide) (fun _ => ?_) (fun cc_9 => absurd cc_9 (by decide))
  refine ok_aload_n (pc := 22) dX12_bodyFrom_22 rfl ?_
  refine ok_iload (pc := 23) dX12_bodyFrom_23 rfl ?_
  refine ok_iload_n (pc := 25) dX12_bodyFrom_25 rfl ?_
  refine ok_iload_n (pc := 26) dX12_bodyFrom_26 rfl ?_
  refine ok_callVi3 (pc := 27) (d' := 1) dX12_bodyFrom_27 vl_X12_329 hR.o rfl rfl rfl (by decide) ?_
  refine r_b10 hV sp esp hsp hs k6 (fun M hV => ?_)
  refine ok_iret (pc := 30) dX12_bodyFrom_30 rfl ?_
  exact k _ hV

set_option maxHeartbeats 1000000 in
theorem r_bfu50 {Γ : Cx} {m sz : Nat} {M0 M : Nat → Option va_E} {σ κ : Rw} {ri : Rw} {ra : Nat → Rw} {s : Tr} (hV : RefV Γ m M0 σ κ ri ra s M) {K : Int32 → Wd → Prop} {x : Int32} (sp : Nat) (esp : ri 20 = nI sp) (hsp : sp < 8) (hs : s.1 ≤ 40) (k6 : 0 ≤ kf σ sp 0 ∧ kf σ sp 0 ≤ 6) (k : ∀ M', RefV Γ m M0 σ κ ri ra (b30 (nI sp) x s).2 M' → K (b30 (nI sp) x s).1 (M', sz)) : Spec Γ mX12_bodyFrom 4 0 [.ref m, .int 5, .int 0, .int x] (M, sz) (ci K) := by
  have hR := hV
  unfold RefV at hR
  refine spec_in [some (.ref m), some (.int 5), some (.int 0), some (.int x), none] 1 (by decide) rfl rfl ?_
  refine ok_iload_n (pc := 0) dX12_bodyFrom_0 rfl ?_
  refine ok_istore4 (pc := 1) dX12_bodyFrom_1 (by decide) rfl ?_
  refine ok_iload (pc := 3) dX12_bodyFrom_3 rfl ?_
  refine ok_iload_n (pc := 5) dX12_bodyFrom_5 rfl ?_
  refine ok_callSi2 (pc := 6) (d' := 0) dX12_bodyFrom_6 sl_X12_326 rfl (by decide) ?_
  refine r_hasOwn ?_
  refine ok_if_ne (pc := 9) 22 dX12_bodyFrom_9 (by decide) (fun cc_9 => absurd (by decide) cc_9) (fun _ => ?_)
  refine ok_iload (pc := 12) dX12_bodyFrom_12 rfl ?_
  refine ok_callSi1 (pc := 14) (d' := 0) dX12_bodyFrom_14 sl_X12_120 rfl (by decide) ?_
  refine r_above ?_
  rw [show aboveF 5 = 2 from by decide]
  refine ok_istore4 (pc := 17) dX12_bodyFrom_17 (by decide) rfl ?_
  refine ok_goto (pc := 19) 3 dX12_bodyFrom_19 (by decide) ?_
  refine ok_iload (pc := 3) dX12_bodyFrom_3 rfl ?_
  refine ok_iload_n (pc := 5) dX12_bodyFrom_5 rfl ?_
  refine ok_callSi2 (pc := 6) (d' := 0) dX12_bodyFrom_6 sl_X12_326 rfl (by decide) ?_
  refine r_hasOwn ?_
  refine ok_if_ne (pc := 9) 22 dX12_bodyFrom_9 (by decide) (fun _ => ?_) (fun cc_9 => absurd cc_9 (by decide))
  refine ok_aload_n (pc := 22) dX12_bodyFrom_22 rfl ?_
  refine ok_iload (pc := 23) dX12_bodyFrom_23 rfl ?_
  refine ok_iload_n (pc := 25) dX12_bodyFrom_25 rfl ?_
  refine ok_iload_n (pc := 26) dX12_bodyFrom_26 rfl ?_
  refine ok_callVi3 (pc := 27) (d' := 3) dX12_bodyFrom_27 vl_X12_329 hR.o rfl rfl rfl (by decide) ?_
  refine r_b30 hV sp esp hsp hs k6 (fun M hV => ?_)
  refine ok_iret (pc := 30) dX12_bodyFrom_30 rfl ?_
  exact k _ hV

set_option maxHeartbeats 1000000 in
theorem r_bfu60 {Γ : Cx} {m sz : Nat} {M0 M : Nat → Option va_E} {σ κ : Rw} {ri : Rw} {ra : Nat → Rw} {s : Tr} (hV : RefV Γ m M0 σ κ ri ra s M) {K : Int32 → Wd → Prop} {x : Int32} (sp : Nat) (esp : ri 20 = nI sp) (hsp : sp < 8) (hs : s.1 ≤ 40) (k6 : 0 ≤ kf σ sp 0 ∧ kf σ sp 0 ≤ 6) (k : ∀ M', RefV Γ m M0 σ κ ri ra (b10 (nI sp) x s).2 M' → K (b10 (nI sp) x s).1 (M', sz)) : Spec Γ mX12_bodyFrom 4 0 [.ref m, .int 6, .int 0, .int x] (M, sz) (ci K) := by
  have hR := hV
  unfold RefV at hR
  refine spec_in [some (.ref m), some (.int 6), some (.int 0), some (.int x), none] 1 (by decide) rfl rfl ?_
  refine ok_iload_n (pc := 0) dX12_bodyFrom_0 rfl ?_
  refine ok_istore4 (pc := 1) dX12_bodyFrom_1 (by decide) rfl ?_
  refine ok_iload (pc := 3) dX12_bodyFrom_3 rfl ?_
  refine ok_iload_n (pc := 5) dX12_bodyFrom_5 rfl ?_
  refine ok_callSi2 (pc := 6) (d' := 0) dX12_bodyFrom_6 sl_X12_326 rfl (by decide) ?_
  refine r_hasOwn ?_
  refine ok_if_ne (pc := 9) 22 dX12_bodyFrom_9 (by decide) (fun cc_9 => absurd (by decide) cc_9) (fun _ => ?_)
  refine ok_iload (pc := 12) dX12_bodyFrom_12 rfl ?_
  refine ok_callSi1 (pc := 14) (d' := 0) dX12_bodyFrom_14 sl_X12_120 rfl (by decide) ?_
  refine r_above ?_
  rw [show aboveF 6 = 3 from by decide]
  refine ok_istore4 (pc := 17) dX12_bodyFrom_17 (by decide) rfl ?_
  refine ok_goto (pc := 19) 3 dX12_bodyFrom_19 (by decide) ?_
  refine ok_iload (pc := 3) dX12_bodyFrom_3 rfl ?_
  refine ok_iload_n (pc := 5) dX12_bodyFrom_5 rfl ?_
  refine ok_callSi2 (pc := 6) (d' := 0) dX12_bodyFrom_6 sl_X12_326 rfl (by decide) ?_
  refine r_hasOwn ?_
  refine ok_if_ne (pc := 9) 22 dX12_bodyFrom_9 (by decide) (fun cc_9 => absurd (by decide) cc_9) (fun _ => ?_)
  refine ok_iload (pc := 12) dX12_bodyFrom_12 rfl ?_
  refine ok_callSi1 (pc := 14) (d' := 0) dX12_bodyFrom_14 sl_X12_120 rfl (by decide) ?_
  refine r_above ?_
  rw [show aboveF 3 = 0 from by decide]
  refine ok_istore4 (pc := 17) dX12_bodyFrom_17 (by decide) rfl ?_
  refine ok_goto (pc := 19) 3 dX12_bodyFrom_19 (by decide) ?_
  refine ok_iload (pc := 3) dX12_bodyFrom_3 rfl ?_
  refine ok_iload_n (pc := 5) dX12_bodyFrom_5 rfl ?_
  refine ok_callSi2 (pc := 6) (d' := 0) dX12_bodyFrom_6 sl_X12_326 rfl (by decide) ?_
  refine r_hasOwn ?_
  refine ok_if_ne (pc := 9) 22 dX12_bodyFrom_9 (by decide) (fun _ => ?_) (fun cc_9 => absurd cc_9 (by decide))
  refine ok_aload_n (pc := 22) dX12_bodyFrom_22 rfl ?_
  refine ok_iload (pc := 23) dX12_bodyFrom_23 rfl ?_
  refine ok_iload_n (pc := 25) dX12_bodyFrom_25 rfl ?_
  refine ok_iload_n (pc := 26) dX12_bodyFrom_26 rfl ?_
  refine ok_callVi3 (pc := 27) (d' := 1) dX12_bodyFrom_27 vl_X12_329 hR.o rfl rfl rfl (by decide) ?_
  refine r_b10 hV sp esp hsp hs k6 (fun M hV => ?_)
  refine ok_iret (pc := 30) dX12_bodyFrom_30 rfl ?_
  exact k _ hV

set_option maxHeartbeats 1000000 in
theorem r_bfV0 {Γ : Cx} {m sz : Nat} {M0 M : Nat → Option va_E} {σ κ : Rw} {ri : Rw} {ra : Nat → Rw} {s : Tr} (hV : RefV Γ m M0 σ κ ri ra s M) {K : Int32 → Wd → Prop} {x : Int32} (sp : Nat) (esp : ri 20 = nI sp) (hsp : sp < 8) (hs : s.1 ≤ 40) (k6 : 0 ≤ kf σ sp 0 ∧ kf σ sp 0 ≤ 6) (k : ∀ M', RefV Γ m M0 σ κ ri ra (vLi (kf σ sp 0) (nI sp) x s).2 M' → K (vLi (kf σ sp 0) (nI sp) x s).1 (M', sz)) : Spec Γ mX12_bodyFrom 4 0 [.ref m, .int (kf σ sp 0), .int 0, .int x] (M, sz) (ci K) := by
  have hk : kf σ sp 0 = 0 ∨ kf σ sp 0 = 1 ∨ kf σ sp 0 = 2 ∨ kf σ sp 0 = 3 ∨ kf σ sp 0 = 4 ∨ kf σ sp 0 = 5 ∨ kf σ sp 0 = 6 := by
    obtain ⟨j, hj, ej⟩ := nI_of2 (M := 6) (n := 6) rfl (Int32.not_lt.mpr k6.1) k6.2
    rcases (show j = 0 ∨ j = 1 ∨ j = 2 ∨ j = 3 ∨ j = 4 ∨ j = 5 ∨ j = 6 by omega) with h | h | h | h | h | h | h <;> subst h <;> simp only [ej] <;> decide
  rcases hk with h | h | h | h | h | h | h
  · have ee : vLi (kf σ sp 0) (nI sp) x s = b10 (nI sp) x s := by unfold vLi; first | (simp [h]; done) | (rw [h]; rfl)
    rw [ee] at k
    rw [h]
    exact r_bfu00 hV sp esp hsp hs k6 k
  · have ee : vLi (kf σ sp 0) (nI sp) x s = b10 (nI sp) x s := by unfold vLi; first | (simp [h]; done) | (rw [h]; rfl)
    rw [ee] at k
    rw [h]
    exact r_bfu10 hV sp esp hsp hs k6 k
  · have ee : vLi (kf σ sp 0) (nI sp) x s = b30 (nI sp) x s := by unfold vLi; first | (simp [h]; done) | (rw [h]; rfl)
    rw [ee] at k
    rw [h]
    exact r_bfu20 hV sp esp hsp hs k6 k
  · have ee : vLi (kf σ sp 0) (nI sp) x s = b10 (nI sp) x s := by unfold vLi; first | (simp [h]; done) | (rw [h]; rfl)
    rw [ee] at k
    rw [h]
    exact r_bfu30 hV sp esp hsp hs k6 k
  · have ee : vLi (kf σ sp 0) (nI sp) x s = b10 (nI sp) x s := by unfold vLi; first | (simp [h]; done) | (rw [h]; rfl)
    rw [ee] at k
    rw [h]
    exact r_bfu40 hV sp esp hsp hs k6 k
  · have ee : vLi (kf σ sp 0) (nI sp) x s = b30 (nI sp) x s := by unfold vLi; first | (simp [h]; done) | (rw [h]; rfl)
    rw [ee] at k
    rw [h]
    exact r_bfu50 hV sp esp hsp hs k6 k
  · have ee : vLi (kf σ sp 0) (nI sp) x s = b10 (nI sp) x s := by unfold vLi; first | (simp [h]; done) | (rw [h]; rfl)
    rw [ee] at k
    rw [h]
    exact r_bfu60 hV sp esp hsp hs k6 k

set_option maxHeartbeats 1000000 in
theorem r_voiced0 {Γ : Cx} {m sz : Nat} {M0 M : Nat → Option va_E} {σ κ : Rw} {ri : Rw} {ra : Nat → Rw} {s : Tr} (hV : RefV Γ m M0 σ κ ri ra s M) {K : Int32 → Wd → Prop} {x : Int32} (sp : Nat) (esp : ri 20 = nI sp) (hsp : sp < 8) (hs : s.1 ≤ 40) (k6 : 0 ≤ kf σ sp 0 ∧ kf σ sp 0 ≤ 6) (k : ∀ M', RefV Γ m M0 σ κ ri ra (vLi (kf σ sp 0) (nI sp) x s).2 M' → K (vLi (kf σ sp 0) (nI sp) x s).1 (M', sz)) : Spec Γ mX12_voiced 5 0 [.ref m, .int 0, .int x] (M, sz) (ci K) := by
  have hR := hV
  unfold RefV at hR
  have esp2 : upd ri 19 (nI s.1) 20 = nI sp := (upd_ne (by decide)).trans esp
  refine spec_in [some (.ref m), some (.int 0), some (.int x)] 0 (by decide) rfl rfl ?_
  refine ok_aload_n (pc := 0) dX12_voiced_0 rfl ?_
  refine ok_aload_n (pc := 1) dX12_voiced_1 rfl ?_
  refine ok_aload_n (pc := 2) dX12_voiced_2 rfl ?_
  refine ok_getf (pc := 3) dX12_voiced_3 fl_X12_320 hR.o rfl ?_
  rw [esp2]
  refine ok_iconst (pc := 6) (v := 0) dX12_voiced_6 (by decide) ?_
  refine ok_callVi2 (pc := 7) (d' := 0) dX12_voiced_7 vl_X12_117 hR.o rfl rfl rfl (by decide) ?_
  refine r_kiteIs hR sp rfl 0 rfl hsp (by decide) ?_
  refine ok_iload_n (pc := 10) dX12_voiced_10 rfl ?_
  refine ok_iload_n (pc := 11) dX12_voiced_11 rfl ?_
  refine ok_callVi3 (pc := 12) (d' := 4) dX12_voiced_12 vl_X12_323 hR.o rfl rfl rfl (by decide) ?_
  refine r_bfV0 hV sp esp hsp hs k6 (fun M hV => ?_)
  refine ok_iret (pc := 15) dX12_voiced_15 rfl ?_
  exact k _ hV

set_option maxHeartbeats 1000000 in
theorem r_b11 {Γ : Cx} {m sz : Nat} {M0 M : Nat → Option va_E} {σ κ : Rw} {ri : Rw} {ra : Nat → Rw} {s : Tr} (hV : RefV Γ m M0 σ κ ri ra s M) {K : Int32 → Wd → Prop} {x : Int32} (sp : Nat) (esp : ri 20 = nI sp) (hsp : sp < 8) (hs : s.1 ≤ 40) (k6 : 0 ≤ kf σ sp 0 ∧ kf σ sp 0 ≤ 6) (k : ∀ M', RefV Γ m M0 σ κ ri ra (b11 (kf σ sp 0) (nI sp) x s).2 M' → K (b11 (kf σ sp 0) (nI sp) x s).1 (M', sz)) : Spec Γ mX12_body 6 0 [.ref m, .int 0, .int 1, .int x] (M, sz) (ci K) := by
  have hR := hV
  unfold RefV at hR
  have esp2 : upd ri 19 (nI s.1) 20 = nI sp := (upd_ne (by decide)).trans esp
  refine spec_in [some (.ref m), some (.int 0), some (.int 1), some (.int x), none, none, none] 3 (by decide) rfl rfl ?_
  refine ok_aload_n (pc := 0) dX12_body_0 rfl ?_
  refine ok_getf (pc := 1) dX12_body_1 fl_X12_320 hR.o rfl ?_
  rw [esp2]
  refine ok_istore4 (pc := 4) dX12_body_4 (by decide) rfl ?_
  refine ok_aload_n (pc := 6) dX12_body_6 rfl ?_
  refine ok_aload_n (pc := 7) dX12_body_7 rfl ?_
  refine ok_getf (pc := 8) dX12_body_8 fl_X12_320 hR.o rfl ?_
  refine ok_iconst (pc := 11) (v := 1) dX12_body_11 (by decide) ?_
  refine ok_callVi2 (pc := 12) (d' := 0) dX12_body_12 vl_X12_117 hR.o rfl rfl rfl (by decide) ?_
  refine r_kiteIs hR sp esp2 1 rfl hsp (by decide) ?_
  refine ok_istore5 (pc := 15) dX12_body_15 (by decide) rfl ?_
  refine ok_iconst (pc := 17) (v := 4) dX12_body_17 (by decide) ?_
  refine ok_iload_n (pc := 18) dX12_body_18 rfl ?_
  refine ok_imul (pc := 19) dX12_body_19 ?_
  refine ok_iload_n (pc := 20) dX12_body_20 rfl ?_
  refine ok_iadd (pc := 21) dX12_body_21 ?_
  refine ok_table (pc := 22) 155 dX12_body_22 (by decide) (by decide) rfl (by decide) ?_
  refine ok_aload_n (pc := 155) dX12_body_155 rfl ?_
  refine ok_bipush (pc := 156) (v := 11) dX12_body_156 (by decide) ?_
  refine ok_callVv1 (pc := 158) (d' := 0) dX12_body_158 vl_X12_332 hR.o rfl rfl rfl (by decide) ?_
  refine r_began hV hs (fun M hV => ?_)
  have hR := hV
  unfold RefV at hR
  refine ok_aload_n (pc := 161) dX12_body_161 rfl ?_
  refine ok_iconst (pc := 162) (v := 0) dX12_body_162 (by decide) ?_
  refine ok_iload_n (pc := 163) dX12_body_163 rfl ?_
  refine ok_callVi2 (pc := 164) (d' := 5) dX12_body_164 vl_X12_335 hR.o rfl rfl rfl (by decide) ?_
  refine r_voiced0 hV sp esp hsp (apT_le hs) k6 (fun M hV => ?_)
  have hR := hV
  unfold RefV at hR
  refine ok_iconst (pc := 167) (v := 2) dX12_body_167 (by decide) ?_
  refine ok_imul (pc := 168) dX12_body_168 ?_
  refine ok_iret (pc := 169) dX12_body_169 rfl ?_
  exact k _ hV

set_option maxHeartbeats 1000000 in
theorem r_bf01 {Γ : Cx} {m sz : Nat} {M0 M : Nat → Option va_E} {σ κ : Rw} {ri : Rw} {ra : Nat → Rw} {s : Tr} (hV : RefV Γ m M0 σ κ ri ra s M) {K : Int32 → Wd → Prop} {x : Int32} (sp : Nat) (esp : ri 20 = nI sp) (hsp : sp < 8) (hs : s.1 ≤ 40) (k6 : 0 ≤ kf σ sp 0 ∧ kf σ sp 0 ≤ 6) (k : ∀ M', RefV Γ m M0 σ κ ri ra (b11 (kf σ sp 0) (nI sp) x s).2 M' → K (b11 (kf σ sp 0) (nI sp) x s).1 (M', sz)) : Spec Γ mX12_bodyFrom 7 0 [.ref m, .int 0, .int 1, .int x] (M, sz) (ci K) := by
  have hR := hV
  unfold RefV at hR
  refine spec_in [some (.ref m), some (.int 0), some (.int 1), some (.int x), none] 1 (by decide) rfl rfl ?_
  refine ok_iload_n (pc := 0) dX12_bodyFrom_0 rfl ?_
  refine ok_istore4 (pc := 1) dX12_bodyFrom_1 (by decide) rfl ?_
  refine ok_iload (pc := 3) dX12_bodyFrom_3 rfl ?_
  refine ok_iload_n (pc := 5) dX12_bodyFrom_5 rfl ?_
  refine ok_callSi2 (pc := 6) (d' := 0) dX12_bodyFrom_6 sl_X12_326 rfl (by decide) ?_
  refine r_hasOwn ?_
  refine ok_if_ne (pc := 9) 22 dX12_bodyFrom_9 (by decide) (fun _ => ?_) (fun cc_9 => absurd cc_9 (by decide))
  refine ok_aload_n (pc := 22) dX12_bodyFrom_22 rfl ?_
  refine ok_iload (pc := 23) dX12_bodyFrom_23 rfl ?_
  refine ok_iload_n (pc := 25) dX12_bodyFrom_25 rfl ?_
  refine ok_iload_n (pc := 26) dX12_bodyFrom_26 rfl ?_
  refine ok_callVi3 (pc := 27) (d' := 6) dX12_bodyFrom_27 vl_X12_329 hR.o rfl rfl rfl (by decide) ?_
  refine r_b11 hV sp esp hsp hs k6 (fun M hV => ?_)
  refine ok_iret (pc := 30) dX12_bodyFrom_30 rfl ?_
  exact k _ hV

set_option maxHeartbeats 1000000 in
theorem r_b12 {Γ : Cx} {m sz : Nat} {M0 M : Nat → Option va_E} {σ κ : Rw} {ri : Rw} {ra : Nat → Rw} {s : Tr} (hV : RefV Γ m M0 σ κ ri ra s M) {K : Int32 → Wd → Prop} {x : Int32} (sp : Nat) (esp : ri 20 = nI sp) (hsp : sp < 8) (hs : s.1 ≤ 40) (k6 : 0 ≤ kf σ sp 0 ∧ kf σ sp 0 ≤ 6) (k : ∀ M', RefV Γ m M0 σ κ ri ra (b12 (kf σ sp 1) x s).2 M' → K (b12 (kf σ sp 1) x s).1 (M', sz)) : Spec Γ mX12_body 1 0 [.ref m, .int 0, .int 2, .int x] (M, sz) (ci K) := by
  have hR := hV
  unfold RefV at hR
  have esp2 : upd ri 19 (nI s.1) 20 = nI sp := (upd_ne (by decide)).trans esp
  refine spec_in [some (.ref m), some (.int 0), some (.int 2), some (.int x), none, none, none] 3 (by decide) rfl rfl ?_
  refine ok_aload_n (pc := 0) dX12_body_0 rfl ?_
  refine ok_getf (pc := 1) dX12_body_1 fl_X12_320 hR.o rfl ?_
  rw [esp2]
  refine ok_istore4 (pc := 4) dX12_body_4 (by decide) rfl ?_
  refine ok_aload_n (pc := 6) dX12_body_6 rfl ?_
  refine ok_aload_n (pc := 7) dX12_body_7 rfl ?_
  refine ok_getf (pc := 8) dX12_body_8 fl_X12_320 hR.o rfl ?_
  refine ok_iconst (pc := 11) (v := 1) dX12_body_11 (by decide) ?_
  refine ok_callVi2 (pc := 12) (d' := 0) dX12_body_12 vl_X12_117 hR.o rfl rfl rfl (by decide) ?_
  refine r_kiteIs hR sp esp2 1 rfl hsp (by decide) ?_
  refine ok_istore5 (pc := 15) dX12_body_15 (by decide) rfl ?_
  refine ok_iconst (pc := 17) (v := 4) dX12_body_17 (by decide) ?_
  refine ok_iload_n (pc := 18) dX12_body_18 rfl ?_
  refine ok_imul (pc := 19) dX12_body_19 ?_
  refine ok_iload_n (pc := 20) dX12_body_20 rfl ?_
  refine ok_iadd (pc := 21) dX12_body_21 ?_
  refine ok_table (pc := 22) 170 dX12_body_22 (by decide) (by decide) rfl (by decide) ?_
  refine ok_aload_n (pc := 170) dX12_body_170 rfl ?_
  refine ok_bipush (pc := 171) (v := 12) dX12_body_171 (by decide) ?_
  refine ok_callVv1 (pc := 173) (d' := 0) dX12_body_173 vl_X12_332 hR.o rfl rfl rfl (by decide) ?_
  refine r_began hV hs (fun M hV => ?_)
  have hR := hV
  unfold RefV at hR
  refine ok_iload_n (pc := 176) dX12_body_176 rfl ?_
  refine ok_iload (pc := 177) dX12_body_177 rfl ?_
  refine ok_isub (pc := 179) dX12_body_179 ?_
  refine ok_iret (pc := 180) dX12_body_180 rfl ?_
  exact k _ hV

set_option maxHeartbeats 1000000 in
theorem r_bf02 {Γ : Cx} {m sz : Nat} {M0 M : Nat → Option va_E} {σ κ : Rw} {ri : Rw} {ra : Nat → Rw} {s : Tr} (hV : RefV Γ m M0 σ κ ri ra s M) {K : Int32 → Wd → Prop} {x : Int32} (sp : Nat) (esp : ri 20 = nI sp) (hsp : sp < 8) (hs : s.1 ≤ 40) (k6 : 0 ≤ kf σ sp 0 ∧ kf σ sp 0 ≤ 6) (k : ∀ M', RefV Γ m M0 σ κ ri ra (b12 (kf σ sp 1) x s).2 M' → K (b12 (kf σ sp 1) x s).1 (M', sz)) : Spec Γ mX12_bodyFrom 2 0 [.ref m, .int 0, .int 2, .int x] (M, sz) (ci K) := by
  have hR := hV
  unfold RefV at hR
  refine spec_in [some (.ref m), some (.int 0), some (.int 2), some (.int x), none] 1 (by decide) rfl rfl ?_
  refine ok_iload_n (pc := 0) dX12_bodyFrom_0 rfl ?_
  refine ok_istore4 (pc := 1) dX12_bodyFrom_1 (by decide) rfl ?_
  refine ok_iload (pc := 3) dX12_bodyFrom_3 rfl ?_
  refine ok_iload_n (pc := 5) dX12_bodyFrom_5 rfl ?_
  refine ok_callSi2 (pc := 6) (d' := 0) dX12_bodyFrom_6 sl_X12_326 rfl (by decide) ?_
  refine r_hasOwn ?_
  refine ok_if_ne (pc := 9) 22 dX12_bodyFrom_9 (by decide) (fun _ => ?_) (fun cc_9 => absurd cc_9 (by decide))
  refine ok_aload_n (pc := 22) dX12_bodyFrom_22 rfl ?_
  refine ok_iload (pc := 23) dX12_bodyFrom_23 rfl ?_
  refine ok_iload_n (pc := 25) dX12_bodyFrom_25 rfl ?_
  refine ok_iload_n (pc := 26) dX12_bodyFrom_26 rfl ?_
  refine ok_callVi3 (pc := 27) (d' := 1) dX12_bodyFrom_27 vl_X12_329 hR.o rfl rfl rfl (by decide) ?_
  refine r_b12 hV sp esp hsp hs k6 (fun M hV => ?_)
  refine ok_iret (pc := 30) dX12_bodyFrom_30 rfl ?_
  exact k _ hV

set_option maxHeartbeats 1000000 in
theorem r_b40 {Γ : Cx} {m sz : Nat} {M0 M : Nat → Option va_E} {σ κ : Rw} {ri : Rw} {ra : Nat → Rw} {s : Tr} (hV : RefV Γ m M0 σ κ ri ra s M) {K : Int32 → Wd → Prop} {x : Int32} (sp : Nat) (esp : ri 20 = nI sp) (hsp : sp < 8) (hs : s.1 ≤ 40) (k6 : 0 ≤ kf σ sp 0 ∧ kf σ sp 0 ≤ 6) (k : ∀ M', RefV Γ m M0 σ κ ri ra (b40 (kf σ sp 1) x s).2 M' → K (b40 (kf σ sp 1) x s).1 (M', sz)) : Spec Γ mX12_body 3 0 [.ref m, .int 3, .int 2, .int x] (M, sz) (ci K) := by
  have hR := hV
  unfold RefV at hR
  have esp2 : upd ri 19 (nI s.1) 20 = nI sp := (upd_ne (by decide)).trans esp
  refine spec_in [some (.ref m), some (.int 3), some (.int 2), some (.int x), none, none, none] 3 (by decide) rfl rfl ?_
  refine ok_aload_n (pc := 0) dX12_body_0 rfl ?_
  refine ok_getf (pc := 1) dX12_body_1 fl_X12_320 hR.o rfl ?_
  rw [esp2]
  refine ok_istore4 (pc := 4) dX12_body_4 (by decide) rfl ?_
  refine ok_aload_n (pc := 6) dX12_body_6 rfl ?_
  refine ok_aload_n (pc := 7) dX12_body_7 rfl ?_
  refine ok_getf (pc := 8) dX12_body_8 fl_X12_320 hR.o rfl ?_
  refine ok_iconst (pc := 11) (v := 1) dX12_body_11 (by decide) ?_
  refine ok_callVi2 (pc := 12) (d' := 0) dX12_body_12 vl_X12_117 hR.o rfl rfl rfl (by decide) ?_
  refine r_kiteIs hR sp esp2 1 rfl hsp (by decide) ?_
  refine ok_istore5 (pc := 15) dX12_body_15 (by decide) rfl ?_
  refine ok_iconst (pc := 17) (v := 4) dX12_body_17 (by decide) ?_
  refine ok_iload_n (pc := 18) dX12_body_18 rfl ?_
  refine ok_imul (pc := 19) dX12_body_19 ?_
  refine ok_iload_n (pc := 20) dX12_body_20 rfl ?_
  refine ok_iadd (pc := 21) dX12_body_21 ?_
  refine ok_table (pc := 22) 246 dX12_body_22 (by decide) (by decide) rfl (by decide) ?_
  refine ok_aload_n (pc := 246) dX12_body_246 rfl ?_
  refine ok_bipush (pc := 247) (v := 40) dX12_body_247 (by decide) ?_
  refine ok_callVv1 (pc := 249) (d' := 0) dX12_body_249 vl_X12_332 hR.o rfl rfl rfl (by decide) ?_
  refine r_began hV hs (fun M hV => ?_)
  have hR := hV
  unfold RefV at hR
  refine ok_aload_n (pc := 252) dX12_body_252 rfl ?_
  refine ok_iconst (pc := 253) (v := 0) dX12_body_253 (by decide) ?_
  refine ok_iconst (pc := 254) (v := 2) dX12_body_254 (by decide) ?_
  refine ok_iload_n (pc := 255) dX12_body_255 rfl ?_
  refine ok_callVi3 (pc := 256) (d' := 2) dX12_body_256 vl_X12_323 hR.o rfl rfl rfl (by decide) ?_
  refine r_bf02 hV sp esp hsp (apT_le hs) k6 (fun M hV => ?_)
  have hR := hV
  unfold RefV at hR
  refine ok_ineg (pc := 259) dX12_body_259 ?_
  refine ok_iret (pc := 260) dX12_body_260 rfl ?_
  exact k _ hV

set_option maxHeartbeats 1000000 in
theorem r_bf32 {Γ : Cx} {m sz : Nat} {M0 M : Nat → Option va_E} {σ κ : Rw} {ri : Rw} {ra : Nat → Rw} {s : Tr} (hV : RefV Γ m M0 σ κ ri ra s M) {K : Int32 → Wd → Prop} {x : Int32} (sp : Nat) (esp : ri 20 = nI sp) (hsp : sp < 8) (hs : s.1 ≤ 40) (k6 : 0 ≤ kf σ sp 0 ∧ kf σ sp 0 ≤ 6) (k : ∀ M', RefV Γ m M0 σ κ ri ra (b40 (kf σ sp 1) x s).2 M' → K (b40 (kf σ sp 1) x s).1 (M', sz)) : Spec Γ mX12_bodyFrom 4 0 [.ref m, .int 3, .int 2, .int x] (M, sz) (ci K) := by
  have hR := hV
  unfold RefV at hR
  refine spec_in [some (.ref m), some (.int 3), some (.int 2), some (.int x), none] 1 (by decide) rfl rfl ?_
  refine ok_iload_n (pc := 0) dX12_bodyFrom_0 rfl ?_
  refine ok_istore4 (pc := 1) dX12_bodyFrom_1 (by decide) rfl ?_
  refine ok_iload (pc := 3) dX12_bodyFrom_3 rfl ?_
  refine ok_iload_n (pc := 5) dX12_bodyFrom_5 rfl ?_
  refine ok_callSi2 (pc := 6) (d' := 0) dX12_bodyFrom_6 sl_X12_326 rfl (by decide) ?_
  refine r_hasOwn ?_
  refine ok_if_ne (pc := 9) 22 dX12_bodyFrom_9 (by decide) (fun _ => ?_) (fun cc_9 => absurd cc_9 (by decide))
  refine ok_aload_n (pc := 22) dX12_bodyFrom_22 rfl ?_
  refine ok_iload (pc := 23) dX12_bodyFrom_23 rfl ?_
  refine ok_iload_n (pc := 25) dX12_bodyFrom_25 rfl ?_
  refine ok_iload_n (pc := 26) dX12_bodyFrom_26 rfl ?_
  refine ok_callVi3 (pc := 27) (d' := 3) dX12_bodyFrom_27 vl_X12_329 hR.o rfl rfl rfl (by decide) ?_
  refine r_b40 hV sp esp hsp hs k6 (fun M hV => ?_)
  refine ok_iret (pc := 30) dX12_bodyFrom_30 rfl ?_
  exact k _ hV

set_option maxHeartbeats 1000000 in
theorem r_b70 {Γ : Cx} {m sz : Nat} {M0 M : Nat → Option va_E} {σ κ : Rw} {ri : Rw} {ra : Nat → Rw} {s : Tr} (hV : RefV Γ m M0 σ κ ri ra s M) {K : Int32 → Wd → Prop} {x : Int32} (sp : Nat) (esp : ri 20 = nI sp) (hsp : sp < 8) (hs : s.1 ≤ 40) (k6 : 0 ≤ kf σ sp 0 ∧ kf σ sp 0 ≤ 6) (k : ∀ M', RefV Γ m M0 σ κ ri ra (b70 (nI sp) (kf σ sp 1) x s).2 M' → K (b70 (nI sp) (kf σ sp 1) x s).1 (M', sz)) : Spec Γ mX12_body 5 0 [.ref m, .int 6, .int 2, .int x] (M, sz) (ci K) := by
  have hR := hV
  unfold RefV at hR
  have esp2 : upd ri 19 (nI s.1) 20 = nI sp := (upd_ne (by decide)).trans esp
  refine spec_in [some (.ref m), some (.int 6), some (.int 2), some (.int x), none, none, none] 3 (by decide) rfl rfl ?_
  refine ok_aload_n (pc := 0) dX12_body_0 rfl ?_
  refine ok_getf (pc := 1) dX12_body_1 fl_X12_320 hR.o rfl ?_
  rw [esp2]
  refine ok_istore4 (pc := 4) dX12_body_4 (by decide) rfl ?_
  refine ok_aload_n (pc := 6) dX12_body_6 rfl ?_
  refine ok_aload_n (pc := 7) dX12_body_7 rfl ?_
  refine ok_getf (pc := 8) dX12_body_8 fl_X12_320 hR.o rfl ?_
  refine ok_iconst (pc := 11) (v := 1) dX12_body_11 (by decide) ?_
  refine ok_callVi2 (pc := 12) (d' := 0) dX12_body_12 vl_X12_117 hR.o rfl rfl rfl (by decide) ?_
  refine r_kiteIs hR sp esp2 1 rfl hsp (by decide) ?_
  refine ok_istore5 (pc := 15) dX12_body_15 (by decide) rfl ?_
  refine ok_iconst (pc := 17) (v := 4) dX12_body_17 (by decide) ?_
  refine ok_iload_n (pc := 18) dX12_body_18 rfl ?_
  refine ok_imul (pc := 19) dX12_body_19 ?_
  refine ok_iload_n (pc := 20) dX12_body_20 rfl ?_
  refine ok_iadd (pc := 21) dX12_body_21 ?_
  refine ok_table (pc := 22) 302 dX12_body_22 (by decide) (by decide) rfl (by decide) ?_
  refine ok_aload_n (pc := 302) dX12_body_302 rfl ?_
  refine ok_bipush (pc := 303) (v := 70) dX12_body_303 (by decide) ?_
  refine ok_callVv1 (pc := 305) (d' := 0) dX12_body_305 vl_X12_332 hR.o rfl rfl rfl (by decide) ?_
  refine r_began hV hs (fun M hV => ?_)
  have hR := hV
  unfold RefV at hR
  refine ok_aload_n (pc := 308) dX12_body_308 rfl ?_
  refine ok_iconst (pc := 309) (v := 3) dX12_body_309 (by decide) ?_
  refine ok_iconst (pc := 310) (v := 2) dX12_body_310 (by decide) ?_
  refine ok_iload_n (pc := 311) dX12_body_311 rfl ?_
  refine ok_callVi3 (pc := 312) (d' := 4) dX12_body_312 vl_X12_323 hR.o rfl rfl rfl (by decide) ?_
  refine r_bf32 hV sp esp hsp (apT_le hs) k6 (fun M hV => ?_)
  have hR := hV
  unfold RefV at hR
  refine ok_iload (pc := 315) dX12_body_315 rfl ?_
  refine ok_ixor (pc := 317) dX12_body_317 ?_
  refine ok_iret (pc := 318) dX12_body_318 rfl ?_
  exact k _ hV

set_option maxHeartbeats 1000000 in
theorem r_bfu02 {Γ : Cx} {m sz : Nat} {M0 M : Nat → Option va_E} {σ κ : Rw} {ri : Rw} {ra : Nat → Rw} {s : Tr} (hV : RefV Γ m M0 σ κ ri ra s M) {K : Int32 → Wd → Prop} {x : Int32} (sp : Nat) (esp : ri 20 = nI sp) (hsp : sp < 8) (hs : s.1 ≤ 40) (k6 : 0 ≤ kf σ sp 0 ∧ kf σ sp 0 ≤ 6) (k : ∀ M', RefV Γ m M0 σ κ ri ra (b12 (kf σ sp 1) x s).2 M' → K (b12 (kf σ sp 1) x s).1 (M', sz)) : Spec Γ mX12_bodyFrom 6 0 [.ref m, .int 0, .int 2, .int x] (M, sz) (ci K) := by
  have hR := hV
  unfold RefV at hR
  refine spec_in [some (.ref m), some (.int 0), some (.int 2), some (.int x), none] 1 (by decide) rfl rfl ?_
  refine ok_iload_n (pc := 0) dX12_bodyFrom_0 rfl ?_
  refine ok_istore4 (pc := 1) dX12_bodyFrom_1 (by decide) rfl ?_
  refine ok_iload (pc := 3) dX12_bodyFrom_3 rfl ?_
  refine ok_iload_n (pc := 5) dX12_bodyFrom_5 rfl ?_
  refine ok_callSi2 (pc := 6) (d' := 0) dX12_bodyFrom_6 sl_X12_326 rfl (by decide) ?_
  refine r_hasOwn ?_
  refine ok_if_ne (pc := 9) 22 dX12_bodyFrom_9 (by decide) (fun _ => ?_) (fun cc_9 => absurd cc_9 (by decide))
  refine ok_aload_n (pc := 22) dX12_bodyFrom_22 rfl ?_
  refine ok_iload (pc := 23) dX12_bodyFrom_23 rfl ?_
  refine ok_iload_n (pc := 25) dX12_bodyFrom_25 rfl ?_
  refine ok_iload_n (pc := 26) dX12_bodyFrom_26 rfl ?_
  refine ok_callVi3 (pc := 27) (d' := 1) dX12_bodyFrom_27 vl_X12_329 hR.o rfl rfl rfl (by decide) ?_
  refine r_b12 hV sp esp hsp hs k6 (fun M hV => ?_)
  refine ok_iret (pc := 30) dX12_bodyFrom_30 rfl ?_
  exact k _ hV

set_option maxHeartbeats 1000000 in
theorem r_bfu12 {Γ : Cx} {m sz : Nat} {M0 M : Nat → Option va_E} {σ κ : Rw} {ri : Rw} {ra : Nat → Rw} {s : Tr} (hV : RefV Γ m M0 σ κ ri ra s M) {K : Int32 → Wd → Prop} {x : Int32} (sp : Nat) (esp : ri 20 = nI sp) (hsp : sp < 8) (hs : s.1 ≤ 40) (k6 : 0 ≤ kf σ sp 0 ∧ kf σ sp 0 ≤ 6) (k : ∀ M', RefV Γ m M0 σ κ ri ra (b12 (kf σ sp 1) x s).2 M' → K (b12 (kf σ sp 1) x s).1 (M', sz)) : Spec Γ mX12_bodyFrom 6 0 [.ref m, .int 1, .int 2, .int x] (M, sz) (ci K) := by
  have hR := hV
  unfold RefV at hR
  refine spec_in [some (.ref m), some (.int 1), some (.int 2), some (.int x), none] 1 (by decide) rfl rfl ?_
  refine ok_iload_n (pc := 0) dX12_bodyFrom_0 rfl ?_
  refine ok_istore4 (pc := 1) dX12_bodyFrom_1 (by decide) rfl ?_
  refine ok_iload (pc := 3) dX12_bodyFrom_3 rfl ?_
  refine ok_iload_n (pc := 5) dX12_bodyFrom_5 rfl ?_
  refine ok_callSi2 (pc := 6) (d' := 0) dX12_bodyFrom_6 sl_X12_326 rfl (by decide) ?_
  refine r_hasOwn ?_
  refine ok_if_ne (pc := 9) 22 dX12_bodyFrom_9 (by decide) (fun cc_9 => absurd (by decide) cc_9) (fun _ => ?_)
  refine ok_iload (pc := 12) dX12_bodyFrom_12 rfl ?_
  refine ok_callSi1 (pc := 14) (d' := 0) dX12_bodyFrom_14 sl_X12_120 rfl (by decide) ?_
  refine r_above ?_
  rw [show aboveF 1 = 0 from by decide]
  refine ok_istore4 (pc := 17) dX12_bodyFrom_17 (by decide) rfl ?_
  refine ok_goto (pc := 19) 3 dX12_bodyFrom_19 (by decide) ?_
  refine ok_iload (pc := 3) dX12_bodyFrom_3 rfl ?_
  refine ok_iload_n (pc := 5) dX12_bodyFrom_5 rfl ?_
  refine ok_callSi2 (pc := 6) (d' := 0) dX12_bodyFrom_6 sl_X12_326 rfl (by decide) ?_
  refine r_hasOwn ?_
  refine ok_if_ne (pc := 9) 22 dX12_bodyFrom_9 (by decide) (fun _ => ?_) (fun cc_9 => absurd cc_9 (by decide))
  refine ok_aload_n (pc := 22) dX12_bodyFrom_22 rfl ?_
  refine ok_iload (pc := 23) dX12_bodyFrom_23 rfl ?_
  refine ok_iload_n (pc := 25) dX12_bodyFrom_25 rfl ?_
  refine ok_iload_n (pc := 26) dX12_bodyFrom_26 rfl ?_
  refine ok_callVi3 (pc := 27) (d' := 1) dX12_bodyFrom_27 vl_X12_329 hR.o rfl rfl rfl (by decide) ?_
  refine r_b12 hV sp esp hsp hs k6 (fun M hV => ?_)
  refine ok_iret (pc := 30) dX12_bodyFrom_30 rfl ?_
  exact k _ hV

set_option maxHeartbeats 1000000 in
theorem r_bfu22 {Γ : Cx} {m sz : Nat} {M0 M : Nat → Option va_E} {σ κ : Rw} {ri : Rw} {ra : Nat → Rw} {s : Tr} (hV : RefV Γ m M0 σ κ ri ra s M) {K : Int32 → Wd → Prop} {x : Int32} (sp : Nat) (esp : ri 20 = nI sp) (hsp : sp < 8) (hs : s.1 ≤ 40) (k6 : 0 ≤ kf σ sp 0 ∧ kf σ sp 0 ≤ 6) (k : ∀ M', RefV Γ m M0 σ κ ri ra (b12 (kf σ sp 1) x s).2 M' → K (b12 (kf σ sp 1) x s).1 (M', sz)) : Spec Γ mX12_bodyFrom 6 0 [.ref m, .int 2, .int 2, .int x] (M, sz) (ci K) := by
  have hR := hV
  unfold RefV at hR
  refine spec_in [some (.ref m), some (.int 2), some (.int 2), some (.int x), none] 1 (by decide) rfl rfl ?_
  refine ok_iload_n (pc := 0) dX12_bodyFrom_0 rfl ?_
  refine ok_istore4 (pc := 1) dX12_bodyFrom_1 (by decide) rfl ?_
  refine ok_iload (pc := 3) dX12_bodyFrom_3 rfl ?_
  refine ok_iload_n (pc := 5) dX12_bodyFrom_5 rfl ?_
  refine ok_callSi2 (pc := 6) (d' := 0) dX12_bodyFrom_6 sl_X12_326 rfl (by decide) ?_
  refine r_hasOwn ?_
  refine ok_if_ne (pc := 9) 22 dX12_bodyFrom_9 (by decide) (fun cc_9 => absurd (by decide) cc_9) (fun _ => ?_)
  refine ok_iload (pc := 12) dX12_bodyFrom_12 rfl ?_
  refine ok_callSi1 (pc := 14) (d' := 0) dX12_bodyFrom_14 sl_X12_120 rfl (by decide) ?_
  refine r_above ?_
  rw [show aboveF 2 = 0 from by decide]
  refine ok_istore4 (pc := 17) dX12_bodyFrom_17 (by decide) rfl ?_
  refine ok_goto (pc := 19) 3 dX12_bodyFrom_19 (by decide) ?_
  refine ok_iload (pc := 3) dX12_bodyFrom_3 rfl ?_
  refine ok_iload_n (pc := 5) dX12_bodyFrom_5 rfl ?_
  refine ok_callSi2 (pc := 6) (d' := 0) dX12_bodyFrom_6 sl_X12_326 rfl (by decide) ?_
  refine r_hasOwn ?_
  refine ok_if_ne (pc := 9) 22 dX12_bodyFrom_9 (by decide) (fun _ => ?_) (fun cc_9 => absurd cc_9 (by decide))
  refine ok_aload_n (pc := 22) dX12_bodyFrom_22 rfl ?_
  refine ok_iload (pc := 23) dX12_bodyFrom_23 rfl ?_
  refine ok_iload_n (pc := 25) dX12_bodyFrom_25 rfl ?_
  refine ok_iload_n (pc := 26) dX12_bodyFrom_26 rfl ?_
  refine ok_callVi3 (pc := 27) (d' := 1) dX12_bodyFrom_27 vl_X12_329 hR.o rfl rfl rfl (by decide) ?_
  refine r_b12 hV sp esp hsp hs k6 (fun M hV => ?_)
  refine ok_iret (pc := 30) dX12_bodyFrom_30 rfl ?_
  exact k _ hV

set_option maxHeartbeats 1000000 in
theorem r_bfu32 {Γ : Cx} {m sz : Nat} {M0 M : Nat → Option va_E} {σ κ : Rw} {ri : Rw} {ra : Nat → Rw} {s : Tr} (hV : RefV Γ m M0 σ κ ri ra s M) {K : Int32 → Wd → Prop} {x : Int32} (sp : Nat) (esp : ri 20 = nI sp) (hsp : sp < 8) (hs : s.1 ≤ 40) (k6 : 0 ≤ kf σ sp 0 ∧ kf σ sp 0 ≤ 6) (k : ∀ M', RefV Γ m M0 σ κ ri ra (b40 (kf σ sp 1) x s).2 M' → K (b40 (kf σ sp 1) x s).1 (M', sz)) : Spec Γ mX12_bodyFrom 6 0 [.ref m, .int 3, .int 2, .int x] (M, sz) (ci K) := by
  have hR := hV
  unfold RefV at hR
  refine spec_in [some (.ref m), some (.int 3), some (.int 2), some (.int x), none] 1 (by decide) rfl rfl ?_
  refine ok_iload_n (pc := 0) dX12_bodyFrom_0 rfl ?_
  refine ok_istore4 (pc := 1) dX12_bodyFrom_1 (by decide) rfl ?_
  refine ok_iload (pc := 3) dX12_bodyFrom_3 rfl ?_
  refine ok_iload_n (pc := 5) dX12_bodyFrom_5 rfl ?_
  refine ok_callSi2 (pc := 6) (d' := 0) dX12_bodyFrom_6 sl_X12_326 rfl (by decide) ?_
  refine r_hasOwn ?_
  refine ok_if_ne (pc := 9) 22 dX12_bodyFrom_9 (by decide) (fun _ => ?_) (fun cc_9 => absurd cc_9 (by decide))
  refine ok_aload_n (pc := 22) dX12_bodyFrom_22 rfl ?_
  refine ok_iload (pc := 23) dX12_bodyFrom_23 rfl ?_
  refine ok_iload_n (pc := 25) dX12_bodyFrom_25 rfl ?_
  refine ok_iload_n (pc := 26) dX12_bodyFrom_26 rfl ?_
  refine ok_callVi3 (pc := 27) (d' := 3) dX12_bodyFrom_27 vl_X12_329 hR.o rfl rfl rfl (by decide) ?_
  refine r_b40 hV sp esp hsp hs k6 (fun M hV => ?_)
  refine ok_iret (pc := 30) dX12_bodyFrom_30 rfl ?_
  exact k _ hV

set_option maxHeartbeats 1000000 in
theorem r_bfu42 {Γ : Cx} {m sz : Nat} {M0 M : Nat → Option va_E} {σ κ : Rw} {ri : Rw} {ra : Nat → Rw} {s : Tr} (hV : RefV Γ m M0 σ κ ri ra s M) {K : Int32 → Wd → Prop} {x : Int32} (sp : Nat) (esp : ri 20 = nI sp) (hsp : sp < 8) (hs : s.1 ≤ 40) (k6 : 0 ≤ kf σ sp 0 ∧ kf σ sp 0 ≤ 6) (k : ∀ M', RefV Γ m M0 σ κ ri ra (b12 (kf σ sp 1) x s).2 M' → K (b12 (kf σ sp 1) x s).1 (M', sz)) : Spec Γ mX12_bodyFrom 6 0 [.ref m, .int 4, .int 2, .int x] (M, sz) (ci K) := by
  have hR := hV
  unfold RefV at hR
  refine spec_in [some (.ref m), some (.int 4), some (.int 2), some (.int x), none] 1 (by decide) rfl rfl ?_
  refine ok_iload_n (pc := 0) dX12_bodyFrom_0 rfl ?_
  refine ok_istore4 (pc := 1) dX12_bodyFrom_1 (by decide) rfl ?_
  refine ok_iload (pc := 3) dX12_bodyFrom_3 rfl ?_
  refine ok_iload_n (pc := 5) dX12_bodyFrom_5 rfl ?_
  refine ok_callSi2 (pc := 6) (d' := 0) dX12_bodyFrom_6 sl_X12_326 rfl (by decide) ?_
  refine r_hasOwn ?_
  refine ok_if_ne (pc := 9) 22 dX12_bodyFrom_9 (by decide) (fun cc_9 => absurd (by decide) cc_9) (fun _ => ?_)
  refine ok_iload (pc := 12) dX12_bodyFrom_12 rfl ?_
  refine ok_callSi1 (pc := 14) (d' := 0) dX12_bodyFrom_14 sl_X12_120 rfl (by decide) ?_
  refine r_above ?_
  rw [show aboveF 4 = 1 from by decide]
  refine ok_istore4 (pc := 17) dX12_bodyFrom_17 (by decide) rfl ?_
  refine ok_goto (pc := 19) 3 dX12_bodyFrom_19 (by decide) ?_
  refine ok_iload (pc := 3) dX12_bodyFrom_3 rfl ?_
  refine ok_iload_n (pc := 5) dX12_bodyFrom_5 rfl ?_
  refine ok_callSi2 (pc := 6) (d' := 0) dX12_bodyFrom_6 sl_X12_326 rfl (by decide) ?_
  refine r_hasOwn ?_
  refine ok_if_ne (pc := 9) 22 dX12_bodyFrom_9 (by decide) (fun cc_9 => absurd (by decide) cc_9) (fun _ => ?_)
  refine ok_iload (pc := 12) dX12_bodyFrom_12 rfl ?_
  refine ok_callSi1 (pc := 14) (d' := 0) dX12_bodyFrom_14 sl_X12_120 rfl (by decide) ?_
  refine r_above ?_
  rw [show aboveF 1 = 0 from by decide]
  refine ok_istore4 (pc := 17) dX12_bodyFrom_17 (by decide) rfl ?_
  refine ok_goto (pc := 19) 3 dX12_bodyFrom_19 (by decide) ?_
  refine ok_iload (pc := 3) dX12_bodyFrom_3 rfl ?_
  refine ok_iload_n (pc := 5) dX12_bodyFrom_5 rfl ?_
  refine ok_callSi2 (pc := 6) (d' := 0) dX12_bodyFrom_6 sl_X12_326 rfl (by decide) ?_
  refine r_hasOwn ?_
  refine ok_if_ne (pc := 9) 22 dX12_bodyFrom_9 (by decide) (fun _ => ?_) (fun cc_9 => absurd cc_9 (by decide))
  refine ok_aload_n (pc := 22) dX12_bodyFrom_22 rfl ?_
  refine ok_iload (pc := 23) dX12_bodyFrom_23 rfl ?_
  refine ok_iload_n (pc := 25) dX12_bodyFrom_25 rfl ?_
  refine ok_iload_n (pc := 26) dX12_bodyFrom_26 rfl ?_
  refine ok_callVi3 (pc := 27) (d' := 1) dX12_bodyFrom_27 vl_X12_329 hR.o rfl rfl rfl (by decide) ?_
  refine r_b12 hV sp esp hsp hs k6 (fun M hV => ?_)
  refine ok_iret (pc := 30) dX12_bodyFrom_30 rfl ?_
  exact k _ hV

set_option maxHeartbeats 1000000 in
theorem r_bfu52 {Γ : Cx} {m sz : Nat} {M0 M : Nat → Option va_E} {σ κ : Rw} {ri : Rw} {ra : Nat → Rw} {s : Tr} (hV : RefV Γ m M0 σ κ ri ra s M) {K : Int32 → Wd → Prop} {x : Int32} (sp : Nat) (esp : ri 20 = nI sp) (hsp : sp < 8) (hs : s.1 ≤ 40) (k6 : 0 ≤ kf σ sp 0 ∧ kf σ sp 0 ≤ 6) (k : ∀ M', RefV Γ m M0 σ κ ri ra (b12 (kf σ sp 1) x s).2 M' → K (b12 (kf σ sp 1) x s).1 (M', sz)) : Spec Γ mX12_bodyFrom 6 0 [.ref m, .int 5, .int 2, .int x] (M, sz) (ci K) := by
  have hR := hV
  unfold RefV at hR
  refine spec_in [some (.ref m), some (.int 5), some (.int 2), some (.int x), none] 1 (by decide) rfl rfl ?_
  refine ok_iload_n (pc := 0) dX12_bodyFrom_0 rfl ?_
  refine ok_istore4 (pc := 1) dX12_bodyFrom_1 (by decide) rfl ?_
  refine ok_iload (pc := 3) dX12_bodyFrom_3 rfl ?_
  refine ok_iload_n (pc := 5) dX12_bodyFrom_5 rfl ?_
  refine ok_callSi2 (pc := 6) (d' := 0) dX12_bodyFrom_6 sl_X12_326 rfl (by decide) ?_
  refine r_hasOwn ?_
  refine ok_if_ne (pc := 9) 22 dX12_bodyFrom_9 (by decide) (fun cc_9 => absurd (by decide) cc_9) (fun _ => ?_)
  refine ok_iload (pc := 12) dX12_bodyFrom_12 rfl ?_
  refine ok_callSi1 (pc := 14) (d' := 0) dX12_bodyFrom_14 sl_X12_120 rfl (by decide) ?_
  refine r_above ?_
  rw [show aboveF 5 = 2 from by decide]
  refine ok_istore4 (pc := 17) dX12_bodyFrom_17 (by decide) rfl ?_
  refine ok_goto (pc := 19) 3 dX12_bodyFrom_19 (by decide) ?_
  refine ok_iload (pc := 3) dX12_bodyFrom_3 rfl ?_
  refine ok_iload_n (pc := 5) dX12_bodyFrom_5 rfl ?_
  refine ok_callSi2 (pc := 6) (d' := 0) dX12_bodyFrom_6 sl_X12_326 rfl (by decide) ?_
  refine r_hasOwn ?_
  refine ok_if_ne (pc := 9) 22 dX12_bodyFrom_9 (by decide) (fun cc_9 => absurd (by decide) cc_9) (fun _ => ?_)
  refine ok_iload (pc := 12) dX12_bodyFrom_12 rfl ?_
  refine ok_callSi1 (pc := 14) (d' := 0) dX12_bodyFrom_14 sl_X12_120 rfl (by decide) ?_
  refine r_above ?_
  rw [show aboveF 2 = 0 from by decide]
  refine ok_istore4 (pc := 17) dX12_bodyFrom_17 (by decide) rfl ?_
  refine ok_goto (pc := 19) 3 dX12_bodyFrom_19 (by decide) ?_
  refine ok_iload (pc := 3) dX12_bodyFrom_3 rfl ?_
  refine ok_iload_n (pc := 5) dX12_bodyFrom_5 rfl ?_
  refine ok_callSi2 (pc := 6) (d' := 0) dX12_bodyFrom_6 sl_X12_326 rfl (by decide) ?_
  refine r_hasOwn ?_
  refine ok_if_ne (pc := 9) 22 dX12_bodyFrom_9 (by decide) (fun _ => ?_) (fun cc_9 => absurd cc_9 (by decide))
  refine ok_aload_n (pc := 22) dX12_bodyFrom_22 rfl ?_
  refine ok_iload (pc := 23) dX12_bodyFrom_23 rfl ?_
  refine ok_iload_n (pc := 25) dX12_bodyFrom_25 rfl ?_
  refine ok_iload_n (pc := 26) dX12_bodyFrom_26 rfl ?_
  refine ok_callVi3 (pc := 27) (d' := 1) dX12_bodyFrom_27 vl_X12_329 hR.o rfl rfl rfl (by decide) ?_
  refine r_b12 hV sp esp hsp hs k6 (fun M hV => ?_)
  refine ok_iret (pc := 30) dX12_bodyFrom_30 rfl ?_
  exact k _ hV

set_option maxHeartbeats 1000000 in
theorem r_bfu62 {Γ : Cx} {m sz : Nat} {M0 M : Nat → Option va_E} {σ κ : Rw} {ri : Rw} {ra : Nat → Rw} {s : Tr} (hV : RefV Γ m M0 σ κ ri ra s M) {K : Int32 → Wd → Prop} {x : Int32} (sp : Nat) (esp : ri 20 = nI sp) (hsp : sp < 8) (hs : s.1 ≤ 40) (k6 : 0 ≤ kf σ sp 0 ∧ kf σ sp 0 ≤ 6) (k : ∀ M', RefV Γ m M0 σ κ ri ra (b70 (nI sp) (kf σ sp 1) x s).2 M' → K (b70 (nI sp) (kf σ sp 1) x s).1 (M', sz)) : Spec Γ mX12_bodyFrom 6 0 [.ref m, .int 6, .int 2, .int x] (M, sz) (ci K) := by
  have hR := hV
  unfold RefV at hR
  refine spec_in [some (.ref m), some (.int 6), some (.int 2), some (.int x), none] 1 (by decide) rfl rfl ?_
  refine ok_iload_n (pc := 0) dX12_bodyFrom_0 rfl ?_
  refine ok_istore4 (pc := 1) dX12_bodyFrom_1 (by decide) rfl ?_
  refine ok_iload (pc := 3) dX12_bodyFrom_3 rfl ?_
  refine ok_iload_n (pc := 5) dX12_bodyFrom_5 rfl ?_
  refine ok_callSi2 (pc := 6) (d' := 0) dX12_bodyFrom_6 sl_X12_326 rfl (by decide) ?_
  refine r_hasOwn ?_
  refine ok_if_ne (pc := 9) 22 dX12_bodyFrom_9 (by decide) (fun _ => ?_) (fun cc_9 => absurd cc_9 (by decide))
  refine ok_aload_n (pc := 22) dX12_bodyFrom_22 rfl ?_
  refine ok_iload (pc := 23) dX12_bodyFrom_23 rfl ?_
  refine ok_iload_n (pc := 25) dX12_bodyFrom_25 rfl ?_
  refine ok_iload_n (pc := 26) dX12_bodyFrom_26 rfl ?_
  refine ok_callVi3 (pc := 27) (d' := 5) dX12_bodyFrom_27 vl_X12_329 hR.o rfl rfl rfl (by decide) ?_
  refine r_b70 hV sp esp hsp hs k6 (fun M hV => ?_)
  refine ok_iret (pc := 30) dX12_bodyFrom_30 rfl ?_
  exact k _ hV

set_option maxHeartbeats 1000000 in
theorem r_bfV2 {Γ : Cx} {m sz : Nat} {M0 M : Nat → Option va_E} {σ κ : Rw} {ri : Rw} {ra : Nat → Rw} {s : Tr} (hV : RefV Γ m M0 σ κ ri ra s M) {K : Int32 → Wd → Prop} {x : Int32} (sp : Nat) (esp : ri 20 = nI sp) (hsp : sp < 8) (hs : s.1 ≤ 40) (k6 : 0 ≤ kf σ sp 0 ∧ kf σ sp 0 ≤ 6) (k : ∀ M', RefV Γ m M0 σ κ ri ra (vSi (kf σ sp 0) (nI sp) (kf σ sp 1) x s).2 M' → K (vSi (kf σ sp 0) (nI sp) (kf σ sp 1) x s).1 (M', sz)) : Spec Γ mX12_bodyFrom 6 0 [.ref m, .int (kf σ sp 0), .int 2, .int x] (M, sz) (ci K) := by
  have hk : kf σ sp 0 = 0 ∨ kf σ sp 0 = 1 ∨ kf σ sp 0 = 2 ∨ kf σ sp 0 = 3 ∨ kf σ sp 0 = 4 ∨ kf σ sp 0 = 5 ∨ kf σ sp 0 = 6 := by
    obtain ⟨j, hj, ej⟩ := nI_of2 (M := 6) (n := 6) rfl (Int32.not_lt.mpr k6.1) k6.2
    rcases (show j = 0 ∨ j = 1 ∨ j = 2 ∨ j = 3 ∨ j = 4 ∨ j = 5 ∨ j = 6 by omega) with h | h | h | h | h | h | h <;> subst h <;> simp only [ej] <;> decide
  rcases hk with h | h | h | h | h | h | h
  · have ee : vSi (kf σ sp 0) (nI sp) (kf σ sp 1) x s = b12 (kf σ sp 1) x s := by unfold vSi; first | (simp [h]; done) | (rw [h]; rfl)
    rw [ee] at k
    rw [h]
    exact r_bfu02 hV sp esp hsp hs k6 k
  · have ee : vSi (kf σ sp 0) (nI sp) (kf σ sp 1) x s = b12 (kf σ sp 1) x s := by unfold vSi; first | (simp [h]; done) | (rw [h]; rfl)
    rw [ee] at k
    rw [h]
    exact r_bfu12 hV sp esp hsp hs k6 k
  · have ee : vSi (kf σ sp 0) (nI sp) (kf σ sp 1) x s = b12 (kf σ sp 1) x s := by unfold vSi; first | (simp [h]; done) | (rw [h]; rfl)
    rw [ee] at k
    rw [h]
    exact r_bfu22 hV sp esp hsp hs k6 k
  · have ee : vSi (kf σ sp 0) (nI sp) (kf σ sp 1) x s = b40 (kf σ sp 1) x s := by unfold vSi; first | (simp [h]; done) | (rw [h]; rfl)
    rw [ee] at k
    rw [h]
    exact r_bfu32 hV sp esp hsp hs k6 k
  · have ee : vSi (kf σ sp 0) (nI sp) (kf σ sp 1) x s = b12 (kf σ sp 1) x s := by unfold vSi; first | (simp [h]; done) | (rw [h]; rfl)
    rw [ee] at k
    rw [h]
    exact r_bfu42 hV sp esp hsp hs k6 k
  · have ee : vSi (kf σ sp 0) (nI sp) (kf σ sp 1) x s = b12 (kf σ sp 1) x s := by unfold vSi; first | (simp [h]; done) | (rw [h]; rfl)
    rw [ee] at k
    rw [h]
    exact r_bfu52 hV sp esp hsp hs k6 k
  · have ee : vSi (kf σ sp 0) (nI sp) (kf σ sp 1) x s = b70 (nI sp) (kf σ sp 1) x s := by unfold vSi; first | (simp [h]; done) | (rw [h]; rfl)
    rw [ee] at k
    rw [h]
    exact r_bfu62 hV sp esp hsp hs k6 k

set_option maxHeartbeats 1000000 in
theorem r_voiced2 {Γ : Cx} {m sz : Nat} {M0 M : Nat → Option va_E} {σ κ : Rw} {ri : Rw} {ra : Nat → Rw} {s : Tr} (hV : RefV Γ m M0 σ κ ri ra s M) {K : Int32 → Wd → Prop} {x : Int32} (sp : Nat) (esp : ri 20 = nI sp) (hsp : sp < 8) (hs : s.1 ≤ 40) (k6 : 0 ≤ kf σ sp 0 ∧ kf σ sp 0 ≤ 6) (k : ∀ M', RefV Γ m M0 σ κ ri ra (vSi (kf σ sp 0) (nI sp) (kf σ sp 1) x s).2 M' → K (vSi (kf σ sp 0) (nI sp) (kf σ sp 1) x s).1 (M', sz)) : Spec Γ mX12_voiced 7 0 [.ref m, .int 2, .int x] (M, sz) (ci K) := by
  have hR := hV
  unfold RefV at hR
  have esp2 : upd ri 19 (nI s.1) 20 = nI sp := (upd_ne (by decide)).trans esp
  refine spec_in [some (.ref m), some (.int 2), some (.int x)] 0 (by decide) rfl rfl ?_
  refine ok_aload_n (pc := 0) dX12_voiced_0 rfl ?_
  refine ok_aload_n (pc := 1) dX12_voiced_1 rfl ?_
  refine ok_aload_n (pc := 2) dX12_voiced_2 rfl ?_
  refine ok_getf (pc := 3) dX12_voiced_3 fl_X12_320 hR.o rfl ?_
  rw [esp2]
  refine ok_iconst (pc := 6) (v := 0) dX12_voiced_6 (by decide) ?_
  refine ok_callVi2 (pc := 7) (d' := 0) dX12_voiced_7 vl_X12_117 hR.o rfl rfl rfl (by decide) ?_
  refine r_kiteIs hR sp rfl 0 rfl hsp (by decide) ?_
  refine ok_iload_n (pc := 10) dX12_voiced_10 rfl ?_
  refine ok_iload_n (pc := 11) dX12_voiced_11 rfl ?_
  refine ok_callVi3 (pc := 12) (d' := 6) dX12_voiced_12 vl_X12_323 hR.o rfl rfl rfl (by decide) ?_
  refine r_bfV2 hV sp esp hsp hs k6 (fun M hV => ?_)
  refine ok_iret (pc := 15) dX12_voiced_15 rfl ?_
  exact k _ hV

set_option maxHeartbeats 1000000 in
theorem r_b20 {Γ : Cx} {m sz : Nat} {M0 M : Nat → Option va_E} {σ κ : Rw} {ri : Rw} {ra : Nat → Rw} {s : Tr} (hV : RefV Γ m M0 σ κ ri ra s M) {K : Int32 → Wd → Prop} {x : Int32} (sp : Nat) (esp : ri 20 = nI sp) (hsp : sp < 8) (hs : s.1 ≤ 40) (k6 : 0 ≤ kf σ sp 0 ∧ kf σ sp 0 ≤ 6) (k : ∀ M', RefV Γ m M0 σ κ ri ra (b20 (kf σ sp 0) (nI sp) (kf σ sp 1) x s).2 M' → K (b20 (kf σ sp 0) (nI sp) (kf σ sp 1) x s).1 (M', sz)) : Spec Γ mX12_body 8 0 [.ref m, .int 1, .int 1, .int x] (M, sz) (ci K) := by
  have hR := hV
  unfold RefV at hR
  have esp2 : upd ri 19 (nI s.1) 20 = nI sp := (upd_ne (by decide)).trans esp
  refine spec_in [some (.ref m), some (.int 1), some (.int 1), some (.int x), none, none, none] 3 (by decide) rfl rfl ?_
  refine ok_aload_n (pc := 0) dX12_body_0 rfl ?_
  refine ok_getf (pc := 1) dX12_body_1 fl_X12_320 hR.o rfl ?_
  rw [esp2]
  refine ok_istore4 (pc := 4) dX12_body_4 (by decide) rfl ?_
  refine ok_aload_n (pc := 6) dX12_body_6 rfl ?_
  refine ok_aload_n (pc := 7) dX12_body_7 rfl ?_
  refine ok_getf (pc := 8) dX12_body_8 fl_X12_320 hR.o rfl ?_
  refine ok_iconst (pc := 11) (v := 1) dX12_body_11 (by decide) ?_
  refine ok_callVi2 (pc := 12) (d' := 0) dX12_body_12 vl_X12_117 hR.o rfl rfl rfl (by decide) ?_
  refine r_kiteIs hR sp esp2 1 rfl hsp (by decide) ?_
  refine ok_istore5 (pc := 15) dX12_body_15 (by decide) rfl ?_
  refine ok_iconst (pc := 17) (v := 4) dX12_body_17 (by decide) ?_
  refine ok_iload_n (pc := 18) dX12_body_18 rfl ?_
  refine ok_imul (pc := 19) dX12_body_19 ?_
  refine ok_iload_n (pc := 20) dX12_body_20 rfl ?_
  refine ok_iadd (pc := 21) dX12_body_21 ?_
  refine ok_table (pc := 22) 205 dX12_body_22 (by decide) (by decide) rfl (by decide) ?_
  refine ok_aload_n (pc := 205) dX12_body_205 rfl ?_
  refine ok_bipush (pc := 206) (v := 20) dX12_body_206 (by decide) ?_
  refine ok_callVv1 (pc := 208) (d' := 0) dX12_body_208 vl_X12_332 hR.o rfl rfl rfl (by decide) ?_
  refine r_began hV hs (fun M hV => ?_)
  have hR := hV
  unfold RefV at hR
  refine ok_aload_n (pc := 211) dX12_body_211 rfl ?_
  refine ok_iconst (pc := 212) (v := 0) dX12_body_212 (by decide) ?_
  refine ok_iconst (pc := 213) (v := 1) dX12_body_213 (by decide) ?_
  refine ok_iload_n (pc := 214) dX12_body_214 rfl ?_
  refine ok_callVi3 (pc := 215) (d' := 7) dX12_body_215 vl_X12_323 hR.o rfl rfl rfl (by decide) ?_
  refine r_bf01 hV sp esp hsp (apT_le hs) k6 (fun M hV => ?_)
  have hR := hV
  unfold RefV at hR
  refine ok_istore6 (pc := 218) dX12_body_218 (by decide) rfl ?_
  refine ok_iload (pc := 220) dX12_body_220 rfl ?_
  refine ok_aload_n (pc := 222) dX12_body_222 rfl ?_
  refine ok_iconst (pc := 223) (v := 2) dX12_body_223 (by decide) ?_
  refine ok_iconst (pc := 224) (v := 1) dX12_body_224 (by decide) ?_
  refine ok_callVi2 (pc := 225) (d' := 7) dX12_body_225 vl_X12_335 hR.o rfl rfl rfl (by decide) ?_
  refine r_voiced2 hV sp esp hsp (b11_le (apT_le hs)) k6 (fun M hV => ?_)
  have hR := hV
  unfold RefV at hR
  refine ok_isub (pc := 228) dX12_body_228 ?_
  refine ok_iret (pc := 229) dX12_body_229 rfl ?_
  exact k _ hV

set_option maxHeartbeats 1000000 in
theorem r_bf11 {Γ : Cx} {m sz : Nat} {M0 M : Nat → Option va_E} {σ κ : Rw} {ri : Rw} {ra : Nat → Rw} {s : Tr} (hV : RefV Γ m M0 σ κ ri ra s M) {K : Int32 → Wd → Prop} {x : Int32} (sp : Nat) (esp : ri 20 = nI sp) (hsp : sp < 8) (hs : s.1 ≤ 40) (k6 : 0 ≤ kf σ sp 0 ∧ kf σ sp 0 ≤ 6) (k : ∀ M', RefV Γ m M0 σ κ ri ra (b20 (kf σ sp 0) (nI sp) (kf σ sp 1) x s).2 M' → K (b20 (kf σ sp 0) (nI sp) (kf σ sp 1) x s).1 (M', sz)) : Spec Γ mX12_bodyFrom 9 0 [.ref m, .int 1, .int 1, .int x] (M, sz) (ci K) := by
  have hR := hV
  unfold RefV at hR
  refine spec_in [some (.ref m), some (.int 1), some (.int 1), some (.int x), none] 1 (by decide) rfl rfl ?_
  refine ok_iload_n (pc := 0) dX12_bodyFrom_0 rfl ?_
  refine ok_istore4 (pc := 1) dX12_bodyFrom_1 (by decide) rfl ?_
  refine ok_iload (pc := 3) dX12_bodyFrom_3 rfl ?_
  refine ok_iload_n (pc := 5) dX12_bodyFrom_5 rfl ?_
  refine ok_callSi2 (pc := 6) (d' := 0) dX12_bodyFrom_6 sl_X12_326 rfl (by decide) ?_
  refine r_hasOwn ?_
  refine ok_if_ne (pc := 9) 22 dX12_bodyFrom_9 (by decide) (fun _ => ?_) (fun cc_9 => absurd cc_9 (by decide))
  refine ok_aload_n (pc := 22) dX12_bodyFrom_22 rfl ?_
  refine ok_iload (pc := 23) dX12_bodyFrom_23 rfl ?_
  refine ok_iload_n (pc := 25) dX12_bodyFrom_25 rfl ?_
  refine ok_iload_n (pc := 26) dX12_bodyFrom_26 rfl ?_
  refine ok_callVi3 (pc := 27) (d' := 8) dX12_bodyFrom_27 vl_X12_329 hR.o rfl rfl rfl (by decide) ?_
  refine r_b20 hV sp esp hsp hs k6 (fun M hV => ?_)
  refine ok_iret (pc := 30) dX12_bodyFrom_30 rfl ?_
  exact k _ hV

set_option maxHeartbeats 1000000 in
theorem r_b50 {Γ : Cx} {m sz : Nat} {M0 M : Nat → Option va_E} {σ κ : Rw} {ri : Rw} {ra : Nat → Rw} {s : Tr} (hV : RefV Γ m M0 σ κ ri ra s M) {K : Int32 → Wd → Prop} {x : Int32} (sp : Nat) (esp : ri 20 = nI sp) (hsp : sp < 8) (hs : s.1 ≤ 40) (k6 : 0 ≤ kf σ sp 0 ∧ kf σ sp 0 ≤ 6) (k : ∀ M', RefV Γ m M0 σ κ ri ra (b50 (kf σ sp 0) (nI sp) (kf σ sp 1) x s).2 M' → K (b50 (kf σ sp 0) (nI sp) (kf σ sp 1) x s).1 (M', sz)) : Spec Γ mX12_body 10 0 [.ref m, .int 4, .int 1, .int x] (M, sz) (ci K) := by
  have hR := hV
  unfold RefV at hR
  have esp2 : upd ri 19 (nI s.1) 20 = nI sp := (upd_ne (by decide)).trans esp
  refine spec_in [some (.ref m), some (.int 4), some (.int 1), some (.int x), none, none, none] 3 (by decide) rfl rfl ?_
  refine ok_aload_n (pc := 0) dX12_body_0 rfl ?_
  refine ok_getf (pc := 1) dX12_body_1 fl_X12_320 hR.o rfl ?_
  rw [esp2]
  refine ok_istore4 (pc := 4) dX12_body_4 (by decide) rfl ?_
  refine ok_aload_n (pc := 6) dX12_body_6 rfl ?_
  refine ok_aload_n (pc := 7) dX12_body_7 rfl ?_
  refine ok_getf (pc := 8) dX12_body_8 fl_X12_320 hR.o rfl ?_
  refine ok_iconst (pc := 11) (v := 1) dX12_body_11 (by decide) ?_
  refine ok_callVi2 (pc := 12) (d' := 0) dX12_body_12 vl_X12_117 hR.o rfl rfl rfl (by decide) ?_
  refine r_kiteIs hR sp esp2 1 rfl hsp (by decide) ?_
  refine ok_istore5 (pc := 15) dX12_body_15 (by decide) rfl ?_
  refine ok_iconst (pc := 17) (v := 4) dX12_body_17 (by decide) ?_
  refine ok_iload_n (pc := 18) dX12_body_18 rfl ?_
  refine ok_imul (pc := 19) dX12_body_19 ?_
  refine ok_iload_n (pc := 20) dX12_body_20 rfl ?_
  refine ok_iadd (pc := 21) dX12_body_21 ?_
  refine ok_table (pc := 22) 261 dX12_body_22 (by decide) (by decide) rfl (by decide) ?_
  refine ok_aload_n (pc := 261) dX12_body_261 rfl ?_
  refine ok_bipush (pc := 262) (v := 50) dX12_body_262 (by decide) ?_
  refine ok_callVv1 (pc := 264) (d' := 0) dX12_body_264 vl_X12_332 hR.o rfl rfl rfl (by decide) ?_
  refine r_began hV hs (fun M hV => ?_)
  have hR := hV
  unfold RefV at hR
  refine ok_aload_n (pc := 267) dX12_body_267 rfl ?_
  refine ok_iconst (pc := 268) (v := 1) dX12_body_268 (by decide) ?_
  refine ok_iconst (pc := 269) (v := 1) dX12_body_269 (by decide) ?_
  refine ok_iload_n (pc := 270) dX12_body_270 rfl ?_
  refine ok_iconst (pc := 271) (v := 1) dX12_body_271 (by decide) ?_
  refine ok_iadd (pc := 272) dX12_body_272 ?_
  refine ok_callVi3 (pc := 273) (d' := 9) dX12_body_273 vl_X12_323 hR.o rfl rfl rfl (by decide) ?_
  refine r_bf11 hV sp esp hsp (apT_le hs) k6 (fun M hV => ?_)
  have hR := hV
  unfold RefV at hR
  refine ok_iret (pc := 276) dX12_body_276 rfl ?_
  exact k _ hV

set_option maxHeartbeats 1000000 in
theorem r_bfu01 {Γ : Cx} {m sz : Nat} {M0 M : Nat → Option va_E} {σ κ : Rw} {ri : Rw} {ra : Nat → Rw} {s : Tr} (hV : RefV Γ m M0 σ κ ri ra s M) {K : Int32 → Wd → Prop} {x : Int32} (sp : Nat) (esp : ri 20 = nI sp) (hsp : sp < 8) (hs : s.1 ≤ 40) (k6 : 0 ≤ kf σ sp 0 ∧ kf σ sp 0 ≤ 6) (k : ∀ M', RefV Γ m M0 σ κ ri ra (b11 (kf σ sp 0) (nI sp) x s).2 M' → K (b11 (kf σ sp 0) (nI sp) x s).1 (M', sz)) : Spec Γ mX12_bodyFrom 11 0 [.ref m, .int 0, .int 1, .int x] (M, sz) (ci K) := by
  have hR := hV
  unfold RefV at hR
  refine spec_in [some (.ref m), some (.int 0), some (.int 1), some (.int x), none] 1 (by decide) rfl rfl ?_
  refine ok_iload_n (pc := 0) dX12_bodyFrom_0 rfl ?_
  refine ok_istore4 (pc := 1) dX12_bodyFrom_1 (by decide) rfl ?_
  refine ok_iload (pc := 3) dX12_bodyFrom_3 rfl ?_
  refine ok_iload_n (pc := 5) dX12_bodyFrom_5 rfl ?_
  refine ok_callSi2 (pc := 6) (d' := 0) dX12_bodyFrom_6 sl_X12_326 rfl (by decide) ?_
  refine r_hasOwn ?_
  refine ok_if_ne (pc := 9) 22 dX12_bodyFrom_9 (by decide) (fun _ => ?_) (fun cc_9 => absurd cc_9 (by decide))
  refine ok_aload_n (pc := 22) dX12_bodyFrom_22 rfl ?_
  refine ok_iload (pc := 23) dX12_bodyFrom_23 rfl ?_
  refine ok_iload_n (pc := 25) dX12_bodyFrom_25 rfl ?_
  refine ok_iload_n (pc := 26) dX12_bodyFrom_26 rfl ?_
  refine ok_callVi3 (pc := 27) (d' := 6) dX12_bodyFrom_27 vl_X12_329 hR.o rfl rfl rfl (by decide) ?_
  refine r_b11 hV sp esp hsp hs k6 (fun M hV => ?_)
  refine ok_iret (pc := 30) dX12_bodyFrom_30 rfl ?_
  exact k _ hV

set_option maxHeartbeats 1000000 in
theorem r_bfu11 {Γ : Cx} {m sz : Nat} {M0 M : Nat → Option va_E} {σ κ : Rw} {ri : Rw} {ra : Nat → Rw} {s : Tr} (hV : RefV Γ m M0 σ κ ri ra s M) {K : Int32 → Wd → Prop} {x : Int32} (sp : Nat) (esp : ri 20 = nI sp) (hsp : sp < 8) (hs : s.1 ≤ 40) (k6 : 0 ≤ kf σ sp 0 ∧ kf σ sp 0 ≤ 6) (k : ∀ M', RefV Γ m M0 σ κ ri ra (b20 (kf σ sp 0) (nI sp) (kf σ sp 1) x s).2 M' → K (b20 (kf σ sp 0) (nI sp) (kf σ sp 1) x s).1 (M', sz)) : Spec Γ mX12_bodyFrom 11 0 [.ref m, .int 1, .int 1, .int x] (M, sz) (ci K) := by
  have hR := hV
  unfold RefV at hR
  refine spec_in [some (.ref m), some (.int 1), some (.int 1), some (.int x), none] 1 (by decide) rfl rfl ?_
  refine ok_iload_n (pc := 0) dX12_bodyFrom_0 rfl ?_
  refine ok_istore4 (pc := 1) dX12_bodyFrom_1 (by decide) rfl ?_
  refine ok_iload (pc := 3) dX12_bodyFrom_3 rfl ?_
  refine ok_iload_n (pc := 5) dX12_bodyFrom_5 rfl ?_
  refine ok_callSi2 (pc := 6) (d' := 0) dX12_bodyFrom_6 sl_X12_326 rfl (by decide) ?_
  refine r_hasOwn ?_
  refine ok_if_ne (pc := 9) 22 dX12_bodyFrom_9 (by decide) (fun _ => ?_) (fun cc_9 => absurd cc_9 (by decide))
  refine ok_aload_n (pc := 22) dX12_bodyFrom_22 rfl ?_
  refine ok_iload (pc := 23) dX12_bodyFrom_23 rfl ?_
  refine ok_iload_n (pc := 25) dX12_bodyFrom_25 rfl ?_
  refine ok_iload_n (pc := 26) dX12_bodyFrom_26 rfl ?_
  refine ok_callVi3 (pc := 27) (d' := 8) dX12_bodyFrom_27 vl_X12_329 hR.o rfl rfl rfl (by decide) ?_
  refine r_b20 hV sp esp hsp hs k6 (fun M hV => ?_)
  refine ok_iret (pc := 30) dX12_bodyFrom_30 rfl ?_
  exact k _ hV

set_option maxHeartbeats 1000000 in
theorem r_bfu21 {Γ : Cx} {m sz : Nat} {M0 M : Nat → Option va_E} {σ κ : Rw} {ri : Rw} {ra : Nat → Rw} {s : Tr} (hV : RefV Γ m M0 σ κ ri ra s M) {K : Int32 → Wd → Prop} {x : Int32} (sp : Nat) (esp : ri 20 = nI sp) (hsp : sp < 8) (hs : s.1 ≤ 40) (k6 : 0 ≤ kf σ sp 0 ∧ kf σ sp 0 ≤ 6) (k : ∀ M', RefV Γ m M0 σ κ ri ra (b11 (kf σ sp 0) (nI sp) x s).2 M' → K (b11 (kf σ sp 0) (nI sp) x s).1 (M', sz)) : Spec Γ mX12_bodyFrom 11 0 [.ref m, .int 2, .int 1, .int x] (M, sz) (ci K) := by
  have hR := hV
  unfold RefV at hR
  refine spec_in [some (.ref m), some (.int 2), some (.int 1), some (.int x), none] 1 (by decide) rfl rfl ?_
  refine ok_iload_n (pc := 0) dX12_bodyFrom_0 rfl ?_
  refine ok_istore4 (pc := 1) dX12_bodyFrom_1 (by decide) rfl ?_
  refine ok_iload (pc := 3) dX12_bodyFrom_3 rfl ?_
  refine ok_iload_n (pc := 5) dX12_bodyFrom_5 rfl ?_
  refine ok_callSi2 (pc := 6) (d' := 0) dX12_bodyFrom_6 sl_X12_326 rfl (by decide) ?_
  refine r_hasOwn ?_
  refine ok_if_ne (pc := 9) 22 dX12_bodyFrom_9 (by decide) (fun cc_9 => absurd (by decide) cc_9) (fun _ => ?_)
  refine ok_iload (pc := 12) dX12_bodyFrom_12 rfl ?_
  refine ok_callSi1 (pc := 14) (d' := 0) dX12_bodyFrom_14 sl_X12_120 rfl (by decide) ?_
  refine r_above ?_
  rw [show aboveF 2 = 0 from by decide]
  refine ok_istore4 (pc := 17) dX12_bodyFrom_17 (by decide) rfl ?_
  refine ok_goto (pc := 19) 3 dX12_bodyFrom_19 (by decide) ?_
  refine ok_iload (pc := 3) dX12_bodyFrom_3 rfl ?_
  refine ok_iload_n (pc := 5) dX12_bodyFrom_5 rfl ?_
  refine ok_callSi2 (pc := 6) (d' := 0) dX12_bodyFrom_6 sl_X12_326 rfl (by decide) ?_
  refine r_hasOwn ?_
  refine ok_if_ne (pc := 9) 22 dX12_bodyFrom_9 (by decide) (fun _ => ?_) (fun cc_9 => absurd cc_9 (by decide))
  refine ok_aload_n (pc := 22) dX12_bodyFrom_22 rfl ?_
  refine ok_iload (pc := 23) dX12_bodyFrom_23 rfl ?_
  refine ok_iload_n (pc := 25) dX12_bodyFrom_25 rfl ?_
  refine ok_iload_n (pc := 26) dX12_bodyFrom_26 rfl ?_
  refine ok_callVi3 (pc := 27) (d' := 6) dX12_bodyFrom_27 vl_X12_329 hR.o rfl rfl rfl (by decide) ?_
  refine r_b11 hV sp esp hsp hs k6 (fun M hV => ?_)
  refine ok_iret (pc := 30) dX12_bodyFrom_30 rfl ?_
  exact k _ hV

set_option maxHeartbeats 1000000 in
theorem r_bfu31 {Γ : Cx} {m sz : Nat} {M0 M : Nat → Option va_E} {σ κ : Rw} {ri : Rw} {ra : Nat → Rw} {s : Tr} (hV : RefV Γ m M0 σ κ ri ra s M) {K : Int32 → Wd → Prop} {x : Int32} (sp : Nat) (esp : ri 20 = nI sp) (hsp : sp < 8) (hs : s.1 ≤ 40) (k6 : 0 ≤ kf σ sp 0 ∧ kf σ sp 0 ≤ 6) (k : ∀ M', RefV Γ m M0 σ κ ri ra (b11 (kf σ sp 0) (nI sp) x s).2 M' → K (b11 (kf σ sp 0) (nI sp) x s).1 (M', sz)) : Spec Γ mX12_bodyFrom 11 0 [.ref m, .int 3, .int 1, .int x] (M, sz) (ci K) := by
  have hR := hV
  unfold RefV at hR
  refine spec_in [some (.ref m), some (.int 3), some (.int 1), some (.int x), none] 1 (by decide) rfl rfl ?_
  refine ok_iload_n (pc := 0) dX12_bodyFrom_0 rfl ?_
  refine ok_istore4 (pc := 1) dX12_bodyFrom_1 (by decide) rfl ?_
  refine ok_iload (pc := 3) dX12_bodyFrom_3 rfl ?_
  refine ok_iload_n (pc := 5) dX12_bodyFrom_5 rfl ?_
  refine ok_callSi2 (pc := 6) (d' := 0) dX12_bodyFrom_6 sl_X12_326 rfl (by decide) ?_
  refine r_hasOwn ?_
  refine ok_if_ne (pc := 9) 22 dX12_bodyFrom_9 (by decide) (fun cc_9 => absurd (by decide) cc_9) (fun _ => ?_)
  refine ok_iload (pc := 12) dX12_bodyFrom_12 rfl ?_
  refine ok_callSi1 (pc := 14) (d' := 0) dX12_bodyFrom_14 sl_X12_120 rfl (by decide) ?_
  refine r_above ?_
  rw [show aboveF 3 = 0 from by decide]
  refine ok_istore4 (pc := 17) dX12_bodyFrom_17 (by decide) rfl ?_
  refine ok_goto (pc := 19) 3 dX12_bodyFrom_19 (by decide) ?_
  refine ok_iload (pc := 3) dX12_bodyFrom_3 rfl ?_
  refine ok_iload_n (pc := 5) dX12_bodyFrom_5 rfl ?_
  refine ok_callSi2 (pc := 6) (d' := 0) dX12_bodyFrom_6 sl_X12_326 rfl (by decide) ?_
  refine r_hasOwn ?_
  refine ok_if_ne (pc := 9) 22 dX12_bodyFrom_9 (by decide) (fun _ => ?_) (fun cc_9 => absurd cc_9 (by decide))
  refine ok_aload_n (pc := 22) dX12_bodyFrom_22 rfl ?_
  refine ok_iload (pc := 23) dX12_bodyFrom_23 rfl ?_
  refine ok_iload_n (pc := 25) dX12_bodyFrom_25 rfl ?_
  refine ok_iload_n (pc := 26) dX12_bodyFrom_26 rfl ?_
  refine ok_callVi3 (pc := 27) (d' := 6) dX12_bodyFrom_27 vl_X12_329 hR.o rfl rfl rfl (by decide) ?_
  refine r_b11 hV sp esp hsp hs k6 (fun M hV => ?_)
  refine ok_iret (pc := 30) dX12_bodyFrom_30 rfl ?_
  exact k _ hV

set_option maxHeartbeats 1000000 in
theorem r_bfu41 {Γ : Cx} {m sz : Nat} {M0 M : Nat → Option va_E} {σ κ : Rw} {ri : Rw} {ra : Nat → Rw} {s : Tr} (hV : RefV Γ m M0 σ κ ri ra s M) {K : Int32 → Wd → Prop} {x : Int32} (sp : Nat) (esp : ri 20 = nI sp) (hsp : sp < 8) (hs : s.1 ≤ 40) (k6 : 0 ≤ kf σ sp 0 ∧ kf σ sp 0 ≤ 6) (k : ∀ M', RefV Γ m M0 σ κ ri ra (b50 (kf σ sp 0) (nI sp) (kf σ sp 1) x s).2 M' → K (b50 (kf σ sp 0) (nI sp) (kf σ sp 1) x s).1 (M', sz)) : Spec Γ mX12_bodyFrom 11 0 [.ref m, .int 4, .int 1, .int x] (M, sz) (ci K) := by
  have hR := hV
  unfold RefV at hR
  refine spec_in [some (.ref m), some (.int 4), some (.int 1), some (.int x), none] 1 (by decide) rfl rfl ?_
  refine ok_iload_n (pc := 0) dX12_bodyFrom_0 rfl ?_
  refine ok_istore4 (pc := 1) dX12_bodyFrom_1 (by decide) rfl ?_
  refine ok_iload (pc := 3) dX12_bodyFrom_3 rfl ?_
  refine ok_iload_n (pc := 5) dX12_bodyFrom_5 rfl ?_
  refine ok_callSi2 (pc := 6) (d' := 0) dX12_bodyFrom_6 sl_X12_326 rfl (by decide) ?_
  refine r_hasOwn ?_
  refine ok_if_ne (pc := 9) 22 dX12_bodyFrom_9 (by decide) (fun _ => ?_) (fun cc_9 => absurd cc_9 (by decide))
  refine ok_aload_n (pc := 22) dX12_bodyFrom_22 rfl ?_
  refine ok_iload (pc := 23) dX12_bodyFrom_23 rfl ?_
  refine ok_iload_n (pc := 25) dX12_bodyFrom_25 rfl ?_
  refine ok_iload_n (pc := 26) dX12_bodyFrom_26 rfl ?_
  refine ok_callVi3 (pc := 27) (d' := 10) dX12_bodyFrom_27 vl_X12_329 hR.o rfl rfl rfl (by decide) ?_
  refine r_b50 hV sp esp hsp hs k6 (fun M hV => ?_)
  refine ok_iret (pc := 30) dX12_bodyFrom_30 rfl ?_
  exact k _ hV

set_option maxHeartbeats 1000000 in
theorem r_bfu51 {Γ : Cx} {m sz : Nat} {M0 M : Nat → Option va_E} {σ κ : Rw} {ri : Rw} {ra : Nat → Rw} {s : Tr} (hV : RefV Γ m M0 σ κ ri ra s M) {K : Int32 → Wd → Prop} {x : Int32} (sp : Nat) (esp : ri 20 = nI sp) (hsp : sp < 8) (hs : s.1 ≤ 40) (k6 : 0 ≤ kf σ sp 0 ∧ kf σ sp 0 ≤ 6) (k : ∀ M', RefV Γ m M0 σ κ ri ra (b11 (kf σ sp 0) (nI sp) x s).2 M' → K (b11 (kf σ sp 0) (nI sp) x s).1 (M', sz)) : Spec Γ mX12_bodyFrom 11 0 [.ref m, .int 5, .int 1, .int x] (M, sz) (ci K) := by
  have hR := hV
  unfold RefV at hR
  refine spec_in [some (.ref m), some (.int 5), some (.int 1), some (.int x), none] 1 (by decide) rfl rfl ?_
  refine ok_iload_n (pc := 0) dX12_bodyFrom_0 rfl ?_
  refine ok_istore4 (pc := 1) dX12_bodyFrom_1 (by decide) rfl ?_
  refine ok_iload (pc := 3) dX12_bodyFrom_3 rfl ?_
  refine ok_iload_n (pc := 5) dX12_bodyFrom_5 rfl ?_
  refine ok_callSi2 (pc := 6) (d' := 0) dX12_bodyFrom_6 sl_X12_326 rfl (by decide) ?_
  refine r_hasOwn ?_
  refine ok_if_ne (pc := 9) 22 dX12_bodyFrom_9 (by decide) (fun cc_9 => absurd (by decide) cc_9) (fun _ => ?_)
  refine ok_iload (pc := 12) dX12_bodyFrom_12 rfl ?_
  refine ok_callSi1 (pc := 14) (d' := 0) dX12_bodyFrom_14 sl_X12_120 rfl (by decide) ?_
  refine r_above ?_
  rw [show aboveF 5 = 2 from by decide]
  refine ok_istore4 (pc := 17) dX12_bodyFrom_17 (by decide) rfl ?_
  refine ok_goto (pc := 19) 3 dX12_bodyFrom_19 (by decide) ?_
  refine ok_iload (pc := 3) dX12_bodyFrom_3 rfl ?_
  refine ok_iload_n (pc := 5) dX12_bodyFrom_5 rfl ?_
  refine ok_callSi2 (pc := 6) (d' := 0) dX12_bodyFrom_6 sl_X12_326 rfl (by decide) ?_
  refine r_hasOwn ?_
  refine ok_if_ne (pc := 9) 22 dX12_bodyFrom_9 (by decide) (fun cc_9 => absurd (by decide) cc_9) (fun _ => ?_)
  refine ok_iload (pc := 12) dX12_bodyFrom_12 rfl ?_
  refine ok_callSi1 (pc := 14) (d' := 0) dX12_bodyFrom_14 sl_X12_120 rfl (by decide) ?_
  refine r_above ?_
  rw [show aboveF 2 = 0 from by decide]
  refine ok_istore4 (pc := 17) dX12_bodyFrom_17 (by decide) rfl ?_
  refine ok_goto (pc := 19) 3 dX12_bodyFrom_19 (by decide) ?_
  refine ok_iload (pc := 3) dX12_bodyFrom_3 rfl ?_
  refine ok_iload_n (pc := 5) dX12_bodyFrom_5 rfl ?_
  refine ok_callSi2 (pc := 6) (d' := 0) dX12_bodyFrom_6 sl_X12_326 rfl (by decide) ?_
  refine r_hasOwn ?_
  refine ok_if_ne (pc := 9) 22 dX12_bodyFrom_9 (by decide) (fun _ => ?_) (fun cc_9 => absurd cc_9 (by decide))
  refine ok_aload_n (pc := 22) dX12_bodyFrom_22 rfl ?_
  refine ok_iload (pc := 23) dX12_bodyFrom_23 rfl ?_
  refine ok_iload_n (pc := 25) dX12_bodyFrom_25 rfl ?_
  refine ok_iload_n (pc := 26) dX12_bodyFrom_26 rfl ?_
  refine ok_callVi3 (pc := 27) (d' := 6) dX12_bodyFrom_27 vl_X12_329 hR.o rfl rfl rfl (by decide) ?_
  refine r_b11 hV sp esp hsp hs k6 (fun M hV => ?_)
  refine ok_iret (pc := 30) dX12_bodyFrom_30 rfl ?_
  exact k _ hV

set_option maxHeartbeats 1000000 in
theorem r_bfu61 {Γ : Cx} {m sz : Nat} {M0 M : Nat → Option va_E} {σ κ : Rw} {ri : Rw} {ra : Nat → Rw} {s : Tr} (hV : RefV Γ m M0 σ κ ri ra s M) {K : Int32 → Wd → Prop} {x : Int32} (sp : Nat) (esp : ri 20 = nI sp) (hsp : sp < 8) (hs : s.1 ≤ 40) (k6 : 0 ≤ kf σ sp 0 ∧ kf σ sp 0 ≤ 6) (k : ∀ M', RefV Γ m M0 σ κ ri ra (b11 (kf σ sp 0) (nI sp) x s).2 M' → K (b11 (kf σ sp 0) (nI sp) x s).1 (M', sz)) : Spec Γ mX12_bodyFrom 11 0 [.ref m, .int 6, .int 1, .int x] (M, sz) (ci K) := by
  have hR := hV
  unfold RefV at hR
  refine spec_in [some (.ref m), some (.int 6), some (.int 1), some (.int x), none] 1 (by decide) rfl rfl ?_
  refine ok_iload_n (pc := 0) dX12_bodyFrom_0 rfl ?_
  refine ok_istore4 (pc := 1) dX12_bodyFrom_1 (by decide) rfl ?_
  refine ok_iload (pc := 3) dX12_bodyFrom_3 rfl ?_
  refine ok_iload_n (pc := 5) dX12_bodyFrom_5 rfl ?_
  refine ok_callSi2 (pc := 6) (d' := 0) dX12_bodyFrom_6 sl_X12_326 rfl (by decide) ?_
  refine r_hasOwn ?_
  refine ok_if_ne (pc := 9) 22 dX12_bodyFrom_9 (by decide) (fun cc_9 => absurd (by decide) cc_9) (fun _ => ?_)
  refine ok_iload (pc := 12) dX12_bodyFrom_12 rfl ?_
  refine ok_callSi1 (pc := 14) (d' := 0) dX12_bodyFrom_14 sl_X12_120 rfl (by decide) ?_
  refine r_above ?_
  rw [show aboveF 6 = 3 from by decide]
  refine ok_istore4 (pc := 17) dX12_bodyFrom_17 (by decide) rfl ?_
  refine ok_goto (pc := 19) 3 dX12_bodyFrom_19 (by decide) ?_
  refine ok_iload (pc := 3) dX12_bodyFrom_3 rfl ?_
  refine ok_iload_n (pc := 5) dX12_bodyFrom_5 rfl ?_
  refine ok_callSi2 (pc := 6) (d' := 0) dX12_bodyFrom_6 sl_X12_326 rfl (by decide) ?_
  refine r_hasOwn ?_
  refine ok_if_ne (pc := 9) 22 dX12_bodyFrom_9 (by decide) (fun cc_9 => absurd (by decide) cc_9) (fun _ => ?_)
  refine ok_iload (pc := 12) dX12_bodyFrom_12 rfl ?_
  refine ok_callSi1 (pc := 14) (d' := 0) dX12_bodyFrom_14 sl_X12_120 rfl (by decide) ?_
  refine r_above ?_
  rw [show aboveF 3 = 0 from by decide]
  refine ok_istore4 (pc := 17) dX12_bodyFrom_17 (by decide) rfl ?_
  refine ok_goto (pc := 19) 3 dX12_bodyFrom_19 (by decide) ?_
  refine ok_iload (pc := 3) dX12_bodyFrom_3 rfl ?_
  refine ok_iload_n (pc := 5) dX12_bodyFrom_5 rfl ?_
  refine ok_callSi2 (pc := 6) (d' := 0) dX12_bodyFrom_6 sl_X12_326 rfl (by decide) ?_
  refine r_hasOwn ?_
  refine ok_if_ne (pc := 9) 22 dX12_bodyFrom_9 (by decide) (fun _ => ?_) (fun cc_9 => absurd cc_9 (by decide))
  refine ok_aload_n (pc := 22) dX12_bodyFrom_22 rfl ?_
  refine ok_iload (pc := 23) dX12_bodyFrom_23 rfl ?_
  refine ok_iload_n (pc := 25) dX12_bodyFrom_25 rfl ?_
  refine ok_iload_n (pc := 26) dX12_bodyFrom_26 rfl ?_
  refine ok_callVi3 (pc := 27) (d' := 6) dX12_bodyFrom_27 vl_X12_329 hR.o rfl rfl rfl (by decide) ?_
  refine r_b11 hV sp esp hsp hs k6 (fun M hV => ?_)
  refine ok_iret (pc := 30) dX12_bodyFrom_30 rfl ?_
  exact k _ hV

set_option maxHeartbeats 1000000 in
theorem r_bfV1 {Γ : Cx} {m sz : Nat} {M0 M : Nat → Option va_E} {σ κ : Rw} {ri : Rw} {ra : Nat → Rw} {s : Tr} (hV : RefV Γ m M0 σ κ ri ra s M) {K : Int32 → Wd → Prop} {x : Int32} (sp : Nat) (esp : ri 20 = nI sp) (hsp : sp < 8) (hs : s.1 ≤ 40) (k6 : 0 ≤ kf σ sp 0 ∧ kf σ sp 0 ≤ 6) (k : ∀ M', RefV Γ m M0 σ κ ri ra (vSw (kf σ sp 0) (nI sp) (kf σ sp 1) x s).2 M' → K (vSw (kf σ sp 0) (nI sp) (kf σ sp 1) x s).1 (M', sz)) : Spec Γ mX12_bodyFrom 11 0 [.ref m, .int (kf σ sp 0), .int 1, .int x] (M, sz) (ci K) := by
  have hk : kf σ sp 0 = 0 ∨ kf σ sp 0 = 1 ∨ kf σ sp 0 = 2 ∨ kf σ sp 0 = 3 ∨ kf σ sp 0 = 4 ∨ kf σ sp 0 = 5 ∨ kf σ sp 0 = 6 := by
    obtain ⟨j, hj, ej⟩ := nI_of2 (M := 6) (n := 6) rfl (Int32.not_lt.mpr k6.1) k6.2
    rcases (show j = 0 ∨ j = 1 ∨ j = 2 ∨ j = 3 ∨ j = 4 ∨ j = 5 ∨ j = 6 by omega) with h | h | h | h | h | h | h <;> subst h <;> simp only [ej] <;> decide
  rcases hk with h | h | h | h | h | h | h
  · have ee : vSw (kf σ sp 0) (nI sp) (kf σ sp 1) x s = b11 (kf σ sp 0) (nI sp) x s := by unfold vSw; first | (simp [h]; done) | (rw [h]; rfl)
    rw [ee] at k
    rw [h]
    exact r_bfu01 hV sp esp hsp hs k6 k
  · have ee : vSw (kf σ sp 0) (nI sp) (kf σ sp 1) x s = b20 (kf σ sp 0) (nI sp) (kf σ sp 1) x s := by unfold vSw; first | (simp [h]; done) | (rw [h]; rfl)
    rw [ee] at k
    rw [h]
    exact r_bfu11 hV sp esp hsp hs k6 k
  · have ee : vSw (kf σ sp 0) (nI sp) (kf σ sp 1) x s = b11 (kf σ sp 0) (nI sp) x s := by unfold vSw; first | (simp [h]; done) | (rw [h]; rfl)
    rw [ee] at k
    rw [h]
    exact r_bfu21 hV sp esp hsp hs k6 k
  · have ee : vSw (kf σ sp 0) (nI sp) (kf σ sp 1) x s = b11 (kf σ sp 0) (nI sp) x s := by unfold vSw; first | (simp [h]; done) | (rw [h]; rfl)
    rw [ee] at k
    rw [h]
    exact r_bfu31 hV sp esp hsp hs k6 k
  · have ee : vSw (kf σ sp 0) (nI sp) (kf σ sp 1) x s = b50 (kf σ sp 0) (nI sp) (kf σ sp 1) x s := by unfold vSw; first | (simp [h]; done) | (rw [h]; rfl)
    rw [ee] at k
    rw [h]
    exact r_bfu41 hV sp esp hsp hs k6 k
  · have ee : vSw (kf σ sp 0) (nI sp) (kf σ sp 1) x s = b11 (kf σ sp 0) (nI sp) x s := by unfold vSw; first | (simp [h]; done) | (rw [h]; rfl)
    rw [ee] at k
    rw [h]
    exact r_bfu51 hV sp esp hsp hs k6 k
  · have ee : vSw (kf σ sp 0) (nI sp) (kf σ sp 1) x s = b11 (kf σ sp 0) (nI sp) x s := by unfold vSw; first | (simp [h]; done) | (rw [h]; rfl)
    rw [ee] at k
    rw [h]
    exact r_bfu61 hV sp esp hsp hs k6 k

set_option maxHeartbeats 1000000 in
theorem r_voiced1 {Γ : Cx} {m sz : Nat} {M0 M : Nat → Option va_E} {σ κ : Rw} {ri : Rw} {ra : Nat → Rw} {s : Tr} (hV : RefV Γ m M0 σ κ ri ra s M) {K : Int32 → Wd → Prop} {x : Int32} (sp : Nat) (esp : ri 20 = nI sp) (hsp : sp < 8) (hs : s.1 ≤ 40) (k6 : 0 ≤ kf σ sp 0 ∧ kf σ sp 0 ≤ 6) (k : ∀ M', RefV Γ m M0 σ κ ri ra (vSw (kf σ sp 0) (nI sp) (kf σ sp 1) x s).2 M' → K (vSw (kf σ sp 0) (nI sp) (kf σ sp 1) x s).1 (M', sz)) : Spec Γ mX12_voiced 12 0 [.ref m, .int 1, .int x] (M, sz) (ci K) := by
  have hR := hV
  unfold RefV at hR
  have esp2 : upd ri 19 (nI s.1) 20 = nI sp := (upd_ne (by decide)).trans esp
  refine spec_in [some (.ref m), some (.int 1), some (.int x)] 0 (by decide) rfl rfl ?_
  refine ok_aload_n (pc := 0) dX12_voiced_0 rfl ?_
  refine ok_aload_n (pc := 1) dX12_voiced_1 rfl ?_
  refine ok_aload_n (pc := 2) dX12_voiced_2 rfl ?_
  refine ok_getf (pc := 3) dX12_voiced_3 fl_X12_320 hR.o rfl ?_
  rw [esp2]
  refine ok_iconst (pc := 6) (v := 0) dX12_voiced_6 (by decide) ?_
  refine ok_callVi2 (pc := 7) (d' := 0) dX12_voiced_7 vl_X12_117 hR.o rfl rfl rfl (by decide) ?_
  refine r_kiteIs hR sp rfl 0 rfl hsp (by decide) ?_
  refine ok_iload_n (pc := 10) dX12_voiced_10 rfl ?_
  refine ok_iload_n (pc := 11) dX12_voiced_11 rfl ?_
  refine ok_callVi3 (pc := 12) (d' := 11) dX12_voiced_12 vl_X12_323 hR.o rfl rfl rfl (by decide) ?_
  refine r_bfV1 hV sp esp hsp hs k6 (fun M hV => ?_)
  refine ok_iret (pc := 15) dX12_voiced_15 rfl ?_
  exact k _ hV

set_option maxHeartbeats 1000000 in
theorem r_b13 {Γ : Cx} {m sz : Nat} {M0 M : Nat → Option va_E} {σ κ : Rw} {ri : Rw} {ra : Nat → Rw} {s : Tr} (hV : RefV Γ m M0 σ κ ri ra s M) {K : Int32 → Wd → Prop} {x : Int32} (sp : Nat) (esp : ri 20 = nI sp) (hsp : sp < 8) (hs : s.1 ≤ 40) (k6 : 0 ≤ kf σ sp 0 ∧ kf σ sp 0 ≤ 6) (k : ∀ M', RefV Γ m M0 σ κ ri ra (b13 (kf σ sp 0) (nI sp) (kf σ sp 1) x s).2 M' → K (b13 (kf σ sp 0) (nI sp) (kf σ sp 1) x s).1 (M', sz)) : Spec Γ mX12_body 13 0 [.ref m, .int 0, .int 3, .int x] (M, sz) (ci K) := by
  have hR := hV
  unfold RefV at hR
  have esp2 : upd ri 19 (nI s.1) 20 = nI sp := (upd_ne (by decide)).trans esp
  refine spec_in [some (.ref m), some (.int 0), some (.int 3), some (.int x), none, none, none] 3 (by decide) rfl rfl ?_
  refine ok_aload_n (pc := 0) dX12_body_0 rfl ?_
  refine ok_getf (pc := 1) dX12_body_1 fl_X12_320 hR.o rfl ?_
  rw [esp2]
  refine ok_istore4 (pc := 4) dX12_body_4 (by decide) rfl ?_
  refine ok_aload_n (pc := 6) dX12_body_6 rfl ?_
  refine ok_aload_n (pc := 7) dX12_body_7 rfl ?_
  refine ok_getf (pc := 8) dX12_body_8 fl_X12_320 hR.o rfl ?_
  refine ok_iconst (pc := 11) (v := 1) dX12_body_11 (by decide) ?_
  refine ok_callVi2 (pc := 12) (d' := 0) dX12_body_12 vl_X12_117 hR.o rfl rfl rfl (by decide) ?_
  refine r_kiteIs hR sp esp2 1 rfl hsp (by decide) ?_
  refine ok_istore5 (pc := 15) dX12_body_15 (by decide) rfl ?_
  refine ok_iconst (pc := 17) (v := 4) dX12_body_17 (by decide) ?_
  refine ok_iload_n (pc := 18) dX12_body_18 rfl ?_
  refine ok_imul (pc := 19) dX12_body_19 ?_
  refine ok_iload_n (pc := 20) dX12_body_20 rfl ?_
  refine ok_iadd (pc := 21) dX12_body_21 ?_
  refine ok_table (pc := 22) 181 dX12_body_22 (by decide) (by decide) rfl (by decide) ?_
  refine ok_aload_n (pc := 181) dX12_body_181 rfl ?_
  refine ok_bipush (pc := 182) (v := 13) dX12_body_182 (by decide) ?_
  refine ok_callVv1 (pc := 184) (d' := 0) dX12_body_184 vl_X12_332 hR.o rfl rfl rfl (by decide) ?_
  refine r_began hV hs (fun M hV => ?_)
  have hR := hV
  unfold RefV at hR
  refine ok_aload_n (pc := 187) dX12_body_187 rfl ?_
  refine ok_iconst (pc := 188) (v := 1) dX12_body_188 (by decide) ?_
  refine ok_iload_n (pc := 189) dX12_body_189 rfl ?_
  refine ok_callVi2 (pc := 190) (d' := 12) dX12_body_190 vl_X12_335 hR.o rfl rfl rfl (by decide) ?_
  refine r_voiced1 hV sp esp hsp (apT_le hs) k6 (fun M hV => ?_)
  have hR := hV
  unfold RefV at hR
  refine ok_istore6 (pc := 193) dX12_body_193 (by decide) rfl ?_
  refine ok_iload (pc := 195) dX12_body_195 rfl ?_
  refine ok_aload_n (pc := 197) dX12_body_197 rfl ?_
  refine ok_iconst (pc := 198) (v := 2) dX12_body_198 (by decide) ?_
  refine ok_iload_n (pc := 199) dX12_body_199 rfl ?_
  refine ok_callVi2 (pc := 200) (d' := 7) dX12_body_200 vl_X12_335 hR.o rfl rfl rfl (by decide) ?_
  refine r_voiced2 hV sp esp hsp (vSw_le (apT_le hs)) k6 (fun M hV => ?_)
  have hR := hV
  unfold RefV at hR
  refine ok_ixor (pc := 203) dX12_body_203 ?_
  refine ok_iret (pc := 204) dX12_body_204 rfl ?_
  exact k _ hV

set_option maxHeartbeats 1000000 in
theorem r_bf23 {Γ : Cx} {m sz : Nat} {M0 M : Nat → Option va_E} {σ κ : Rw} {ri : Rw} {ra : Nat → Rw} {s : Tr} (hV : RefV Γ m M0 σ κ ri ra s M) {K : Int32 → Wd → Prop} {x : Int32} (sp : Nat) (esp : ri 20 = nI sp) (hsp : sp < 8) (hs : s.1 ≤ 40) (k6 : 0 ≤ kf σ sp 0 ∧ kf σ sp 0 ≤ 6) (k : ∀ M', RefV Γ m M0 σ κ ri ra (b13 (kf σ sp 0) (nI sp) (kf σ sp 1) x s).2 M' → K (b13 (kf σ sp 0) (nI sp) (kf σ sp 1) x s).1 (M', sz)) : Spec Γ mX12_bodyFrom 14 0 [.ref m, .int 2, .int 3, .int x] (M, sz) (ci K) := by
  have hR := hV
  unfold RefV at hR
  refine spec_in [some (.ref m), some (.int 2), some (.int 3), some (.int x), none] 1 (by decide) rfl rfl ?_
  refine ok_iload_n (pc := 0) dX12_bodyFrom_0 rfl ?_
  refine ok_istore4 (pc := 1) dX12_bodyFrom_1 (by decide) rfl ?_
  refine ok_iload (pc := 3) dX12_bodyFrom_3 rfl ?_
  refine ok_iload_n (pc := 5) dX12_bodyFrom_5 rfl ?_
  refine ok_callSi2 (pc := 6) (d' := 0) dX12_bodyFrom_6 sl_X12_326 rfl (by decide) ?_
  refine r_hasOwn ?_
  refine ok_if_ne (pc := 9) 22 dX12_bodyFrom_9 (by decide) (fun cc_9 => absurd (by decide) cc_9) (fun _ => ?_)
  refine ok_iload (pc := 12) dX12_bodyFrom_12 rfl ?_
  refine ok_callSi1 (pc := 14) (d' := 0) dX12_bodyFrom_14 sl_X12_120 rfl (by decide) ?_
  refine r_above ?_
  rw [show aboveF 2 = 0 from by decide]
  refine ok_istore4 (pc := 17) dX12_bodyFrom_17 (by decide) rfl ?_
  refine ok_goto (pc := 19) 3 dX12_bodyFrom_19 (by decide) ?_
  refine ok_iload (pc := 3) dX12_bodyFrom_3 rfl ?_
  refine ok_iload_n (pc := 5) dX12_bodyFrom_5 rfl ?_
  refine ok_callSi2 (pc := 6) (d' := 0) dX12_bodyFrom_6 sl_X12_326 rfl (by decide) ?_
  refine r_hasOwn ?_
  refine ok_if_ne (pc := 9) 22 dX12_bodyFrom_9 (by decide) (fun _ => ?_) (fun cc_9 => absurd cc_9 (by decide))
  refine ok_aload_n (pc := 22) dX12_bodyFrom_22 rfl ?_
  refine ok_iload (pc := 23) dX12_bodyFrom_23 rfl ?_
  refine ok_iload_n (pc := 25) dX12_bodyFrom_25 rfl ?_
  refine ok_iload_n (pc := 26) dX12_bodyFrom_26 rfl ?_
  refine ok_callVi3 (pc := 27) (d' := 13) dX12_bodyFrom_27 vl_X12_329 hR.o rfl rfl rfl (by decide) ?_
  refine r_b13 hV sp esp hsp hs k6 (fun M hV => ?_)
  refine ok_iret (pc := 30) dX12_bodyFrom_30 rfl ?_
  exact k _ hV

set_option maxHeartbeats 1000000 in
theorem r_bf33 {Γ : Cx} {m sz : Nat} {M0 M : Nat → Option va_E} {σ κ : Rw} {ri : Rw} {ra : Nat → Rw} {s : Tr} (hV : RefV Γ m M0 σ κ ri ra s M) {K : Int32 → Wd → Prop} {x : Int32} (sp : Nat) (esp : ri 20 = nI sp) (hsp : sp < 8) (hs : s.1 ≤ 40) (k6 : 0 ≤ kf σ sp 0 ∧ kf σ sp 0 ≤ 6) (k : ∀ M', RefV Γ m M0 σ κ ri ra (b13 (kf σ sp 0) (nI sp) (kf σ sp 1) x s).2 M' → K (b13 (kf σ sp 0) (nI sp) (kf σ sp 1) x s).1 (M', sz)) : Spec Γ mX12_bodyFrom 14 0 [.ref m, .int 3, .int 3, .int x] (M, sz) (ci K) := by
  have hR := hV
  unfold RefV at hR
  refine spec_in [some (.ref m), some (.int 3), some (.int 3), some (.int x), none] 1 (by decide) rfl rfl ?_
  refine ok_iload_n (pc := 0) dX12_bodyFrom_0 rfl ?_
  refine ok_istore4 (pc := 1) dX12_bodyFrom_1 (by decide) rfl ?_
  refine ok_iload (pc := 3) dX12_bodyFrom_3 rfl ?_
  refine ok_iload_n (pc := 5) dX12_bodyFrom_5 rfl ?_
  refine ok_callSi2 (pc := 6) (d' := 0) dX12_bodyFrom_6 sl_X12_326 rfl (by decide) ?_
  refine r_hasOwn ?_
  refine ok_if_ne (pc := 9) 22 dX12_bodyFrom_9 (by decide) (fun cc_9 => absurd (by decide) cc_9) (fun _ => ?_)
  refine ok_iload (pc := 12) dX12_bodyFrom_12 rfl ?_
  refine ok_callSi1 (pc := 14) (d' := 0) dX12_bodyFrom_14 sl_X12_120 rfl (by decide) ?_
  refine r_above ?_
  rw [show aboveF 3 = 0 from by decide]
  refine ok_istore4 (pc := 17) dX12_bodyFrom_17 (by decide) rfl ?_
  refine ok_goto (pc := 19) 3 dX12_bodyFrom_19 (by decide) ?_
  refine ok_iload (pc := 3) dX12_bodyFrom_3 rfl ?_
  refine ok_iload_n (pc := 5) dX12_bodyFrom_5 rfl ?_
  refine ok_callSi2 (pc := 6) (d' := 0) dX12_bodyFrom_6 sl_X12_326 rfl (by decide) ?_
  refine r_hasOwn ?_
  refine ok_if_ne (pc := 9) 22 dX12_bodyFrom_9 (by decide) (fun _ => ?_) (fun cc_9 => absurd cc_9 (by decide))
  refine ok_aload_n (pc := 22) dX12_bodyFrom_22 rfl ?_
  refine ok_iload (pc := 23) dX12_bodyFrom_23 rfl ?_
  refine ok_iload_n (pc := 25) dX12_bodyFrom_25 rfl ?_
  refine ok_iload_n (pc := 26) dX12_bodyFrom_26 rfl ?_
  refine ok_callVi3 (pc := 27) (d' := 13) dX12_bodyFrom_27 vl_X12_329 hR.o rfl rfl rfl (by decide) ?_
  refine r_b13 hV sp esp hsp hs k6 (fun M hV => ?_)
  refine ok_iret (pc := 30) dX12_bodyFrom_30 rfl ?_
  exact k _ hV

set_option maxHeartbeats 1000000 in
theorem r_b60 {Γ : Cx} {m sz : Nat} {M0 M : Nat → Option va_E} {σ κ : Rw} {ri : Rw} {ra : Nat → Rw} {s : Tr} (hV : RefV Γ m M0 σ κ ri ra s M) {K : Int32 → Wd → Prop} {x : Int32} (sp : Nat) (esp : ri 20 = nI sp) (hsp : sp < 8) (hs : s.1 ≤ 40) (k6 : 0 ≤ kf σ sp 0 ∧ kf σ sp 0 ≤ 6) (k : ∀ M', RefV Γ m M0 σ κ ri ra (b60 (kf σ sp 0) (nI sp) (kf σ sp 1) x s).2 M' → K (b60 (kf σ sp 0) (nI sp) (kf σ sp 1) x s).1 (M', sz)) : Spec Γ mX12_body 15 0 [.ref m, .int 5, .int 3, .int x] (M, sz) (ci K) := by
  have hR := hV
  unfold RefV at hR
  have esp2 : upd ri 19 (nI s.1) 20 = nI sp := (upd_ne (by decide)).trans esp
  refine spec_in [some (.ref m), some (.int 5), some (.int 3), some (.int x), none, none, none] 3 (by decide) rfl rfl ?_
  refine ok_aload_n (pc := 0) dX12_body_0 rfl ?_
  refine ok_getf (pc := 1) dX12_body_1 fl_X12_320 hR.o rfl ?_
  rw [esp2]
  refine ok_istore4 (pc := 4) dX12_body_4 (by decide) rfl ?_
  refine ok_aload_n (pc := 6) dX12_body_6 rfl ?_
  refine ok_aload_n (pc := 7) dX12_body_7 rfl ?_
  refine ok_getf (pc := 8) dX12_body_8 fl_X12_320 hR.o rfl ?_
  refine ok_iconst (pc := 11) (v := 1) dX12_body_11 (by decide) ?_
  refine ok_callVi2 (pc := 12) (d' := 0) dX12_body_12 vl_X12_117 hR.o rfl rfl rfl (by decide) ?_
  refine r_kiteIs hR sp esp2 1 rfl hsp (by decide) ?_
  refine ok_istore5 (pc := 15) dX12_body_15 (by decide) rfl ?_
  refine ok_iconst (pc := 17) (v := 4) dX12_body_17 (by decide) ?_
  refine ok_iload_n (pc := 18) dX12_body_18 rfl ?_
  refine ok_imul (pc := 19) dX12_body_19 ?_
  refine ok_iload_n (pc := 20) dX12_body_20 rfl ?_
  refine ok_iadd (pc := 21) dX12_body_21 ?_
  refine ok_table (pc := 22) 277 dX12_body_22 (by decide) (by decide) rfl (by decide) ?_
  refine ok_aload_n (pc := 277) dX12_body_277 rfl ?_
  refine ok_bipush (pc := 278) (v := 60) dX12_body_278 (by decide) ?_
  refine ok_callVv1 (pc := 280) (d' := 0) dX12_body_280 vl_X12_332 hR.o rfl rfl rfl (by decide) ?_
  refine r_began hV hs (fun M hV => ?_)
  have hR := hV
  unfold RefV at hR
  refine ok_aload_n (pc := 283) dX12_body_283 rfl ?_
  refine ok_iconst (pc := 284) (v := 2) dX12_body_284 (by decide) ?_
  refine ok_iconst (pc := 285) (v := 3) dX12_body_285 (by decide) ?_
  refine ok_iload_n (pc := 286) dX12_body_286 rfl ?_
  refine ok_callVi3 (pc := 287) (d' := 14) dX12_body_287 vl_X12_323 hR.o rfl rfl rfl (by decide) ?_
  refine r_bf23 hV sp esp hsp (apT_le hs) k6 (fun M hV => ?_)
  have hR := hV
  unfold RefV at hR
  refine ok_istore6 (pc := 290) dX12_body_290 (by decide) rfl ?_
  refine ok_iload (pc := 292) dX12_body_292 rfl ?_
  refine ok_aload_n (pc := 294) dX12_body_294 rfl ?_
  refine ok_iconst (pc := 295) (v := 0) dX12_body_295 (by decide) ?_
  refine ok_iconst (pc := 296) (v := 2) dX12_body_296 (by decide) ?_
  refine ok_callVi2 (pc := 297) (d' := 5) dX12_body_297 vl_X12_335 hR.o rfl rfl rfl (by decide) ?_
  refine r_voiced0 hV sp esp hsp (b13_le (apT_le hs)) k6 (fun M hV => ?_)
  have hR := hV
  unfold RefV at hR
  refine ok_isub (pc := 300) dX12_body_300 ?_
  refine ok_iret (pc := 301) dX12_body_301 rfl ?_
  exact k _ hV

set_option maxHeartbeats 1000000 in
theorem r_b71 {Γ : Cx} {m sz : Nat} {M0 M : Nat → Option va_E} {σ κ : Rw} {ri : Rw} {ra : Nat → Rw} {s : Tr} (hV : RefV Γ m M0 σ κ ri ra s M) {K : Int32 → Wd → Prop} {x : Int32} (sp : Nat) (esp : ri 20 = nI sp) (hsp : sp < 8) (hs : s.1 ≤ 40) (k6 : 0 ≤ kf σ sp 0 ∧ kf σ sp 0 ≤ 6) (k : ∀ M', RefV Γ m M0 σ κ ri ra (b71 (kf σ sp 0) (nI sp) (kf σ sp 1) x s).2 M' → K (b71 (kf σ sp 0) (nI sp) (kf σ sp 1) x s).1 (M', sz)) : Spec Γ mX12_body 15 0 [.ref m, .int 6, .int 3, .int x] (M, sz) (ci K) := by
  have hR := hV
  unfold RefV at hR
  have esp2 : upd ri 19 (nI s.1) 20 = nI sp := (upd_ne (by decide)).trans esp
  refine spec_in [some (.ref m), some (.int 6), some (.int 3), some (.int x), none, none, none] 3 (by decide) rfl rfl ?_
  refine ok_aload_n (pc := 0) dX12_body_0 rfl ?_
  refine ok_getf (pc := 1) dX12_body_1 fl_X12_320 hR.o rfl ?_
  rw [esp2]
  refine ok_istore4 (pc := 4) dX12_body_4 (by decide) rfl ?_
  refine ok_aload_n (pc := 6) dX12_body_6 rfl ?_
  refine ok_aload_n (pc := 7) dX12_body_7 rfl ?_
  refine ok_getf (pc := 8) dX12_body_8 fl_X12_320 hR.o rfl ?_
  refine ok_iconst (pc := 11) (v := 1) dX12_body_11 (by decide) ?_
  refine ok_callVi2 (pc := 12) (d' := 0) dX12_body_12 vl_X12_117 hR.o rfl rfl rfl (by decide) ?_
  refine r_kiteIs hR sp esp2 1 rfl hsp (by decide) ?_
  refine ok_istore5 (pc := 15) dX12_body_15 (by decide) rfl ?_
  refine ok_iconst (pc := 17) (v := 4) dX12_body_17 (by decide) ?_
  refine ok_iload_n (pc := 18) dX12_body_18 rfl ?_
  refine ok_imul (pc := 19) dX12_body_19 ?_
  refine ok_iload_n (pc := 20) dX12_body_20 rfl ?_
  refine ok_iadd (pc := 21) dX12_body_21 ?_
  refine ok_tableOut (pc := 22) 319 dX12_body_22 (Or.inr (by decide)) (by decide) ?_
  refine ok_aload_n (pc := 319) dX12_body_319 rfl ?_
  refine ok_bipush (pc := 320) (v := 71) dX12_body_320 (by decide) ?_
  refine ok_callVv1 (pc := 322) (d' := 0) dX12_body_322 vl_X12_332 hR.o rfl rfl rfl (by decide) ?_
  refine r_began hV hs (fun M hV => ?_)
  have hR := hV
  unfold RefV at hR
  refine ok_aload_n (pc := 325) dX12_body_325 rfl ?_
  refine ok_iconst (pc := 326) (v := 1) dX12_body_326 (by decide) ?_
  refine ok_iload_n (pc := 327) dX12_body_327 rfl ?_
  refine ok_callVi2 (pc := 328) (d' := 12) dX12_body_328 vl_X12_335 hR.o rfl rfl rfl (by decide) ?_
  refine r_voiced1 hV sp esp hsp (apT_le hs) k6 (fun M hV => ?_)
  have hR := hV
  unfold RefV at hR
  refine ok_istore6 (pc := 331) dX12_body_331 (by decide) rfl ?_
  refine ok_iload (pc := 333) dX12_body_333 rfl ?_
  refine ok_aload_n (pc := 335) dX12_body_335 rfl ?_
  refine ok_iconst (pc := 336) (v := 3) dX12_body_336 (by decide) ?_
  refine ok_iconst (pc := 337) (v := 3) dX12_body_337 (by decide) ?_
  refine ok_iload_n (pc := 338) dX12_body_338 rfl ?_
  refine ok_callVi3 (pc := 339) (d' := 14) dX12_body_339 vl_X12_323 hR.o rfl rfl rfl (by decide) ?_
  refine r_bf33 hV sp esp hsp (vSw_le (apT_le hs)) k6 (fun M hV => ?_)
  have hR := hV
  unfold RefV at hR
  refine ok_isub (pc := 342) dX12_body_342 ?_
  refine ok_iret (pc := 343) dX12_body_343 rfl ?_
  exact k _ hV

set_option maxHeartbeats 1000000 in
theorem r_bfu03 {Γ : Cx} {m sz : Nat} {M0 M : Nat → Option va_E} {σ κ : Rw} {ri : Rw} {ra : Nat → Rw} {s : Tr} (hV : RefV Γ m M0 σ κ ri ra s M) {K : Int32 → Wd → Prop} {x : Int32} (sp : Nat) (esp : ri 20 = nI sp) (hsp : sp < 8) (hs : s.1 ≤ 40) (k6 : 0 ≤ kf σ sp 0 ∧ kf σ sp 0 ≤ 6) (k : ∀ M', RefV Γ m M0 σ κ ri ra (b13 (kf σ sp 0) (nI sp) (kf σ sp 1) x s).2 M' → K (b13 (kf σ sp 0) (nI sp) (kf σ sp 1) x s).1 (M', sz)) : Spec Γ mX12_bodyFrom 16 0 [.ref m, .int 0, .int 3, .int x] (M, sz) (ci K) := by
  have hR := hV
  unfold RefV at hR
  refine spec_in [some (.ref m), some (.int 0), some (.int 3), some (.int x), none] 1 (by decide) rfl rfl ?_
  refine ok_iload_n (pc := 0) dX12_bodyFrom_0 rfl ?_
  refine ok_istore4 (pc := 1) dX12_bodyFrom_1 (by decide) rfl ?_
  refine ok_iload (pc := 3) dX12_bodyFrom_3 rfl ?_
  refine ok_iload_n (pc := 5) dX12_bodyFrom_5 rfl ?_
  refine ok_callSi2 (pc := 6) (d' := 0) dX12_bodyFrom_6 sl_X12_326 rfl (by decide) ?_
  refine r_hasOwn ?_
  refine ok_if_ne (pc := 9) 22 dX12_bodyFrom_9 (by decide) (fun _ => ?_) (fun cc_9 => absurd cc_9 (by decide))
  refine ok_aload_n (pc := 22) dX12_bodyFrom_22 rfl ?_
  refine ok_iload (pc := 23) dX12_bodyFrom_23 rfl ?_
  refine ok_iload_n (pc := 25) dX12_bodyFrom_25 rfl ?_
  refine ok_iload_n (pc := 26) dX12_bodyFrom_26 rfl ?_
  refine ok_callVi3 (pc := 27) (d' := 13) dX12_bodyFrom_27 vl_X12_329 hR.o rfl rfl rfl (by decide) ?_
  refine r_b13 hV sp esp hsp hs k6 (fun M hV => ?_)
  refine ok_iret (pc := 30) dX12_bodyFrom_30 rfl ?_
  exact k _ hV

set_option maxHeartbeats 1000000 in
theorem r_bfu13 {Γ : Cx} {m sz : Nat} {M0 M : Nat → Option va_E} {σ κ : Rw} {ri : Rw} {ra : Nat → Rw} {s : Tr} (hV : RefV Γ m M0 σ κ ri ra s M) {K : Int32 → Wd → Prop} {x : Int32} (sp : Nat) (esp : ri 20 = nI sp) (hsp : sp < 8) (hs : s.1 ≤ 40) (k6 : 0 ≤ kf σ sp 0 ∧ kf σ sp 0 ≤ 6) (k : ∀ M', RefV Γ m M0 σ κ ri ra (b13 (kf σ sp 0) (nI sp) (kf σ sp 1) x s).2 M' → K (b13 (kf σ sp 0) (nI sp) (kf σ sp 1) x s).1 (M', sz)) : Spec Γ mX12_bodyFrom 16 0 [.ref m, .int 1, .int 3, .int x] (M, sz) (ci K) := by
  have hR := hV
  unfold RefV at hR
  refine spec_in [some (.ref m), some (.int 1), some (.int 3), some (.int x), none] 1 (by decide) rfl rfl ?_
  refine ok_iload_n (pc := 0) dX12_bodyFrom_0 rfl ?_
  refine ok_istore4 (pc := 1) dX12_bodyFrom_1 (by decide) rfl ?_
  refine ok_iload (pc := 3) dX12_bodyFrom_3 rfl ?_
  refine ok_iload_n (pc := 5) dX12_bodyFrom_5 rfl ?_
  refine ok_callSi2 (pc := 6) (d' := 0) dX12_bodyFrom_6 sl_X12_326 rfl (by decide) ?_
  refine r_hasOwn ?_
  refine ok_if_ne (pc := 9) 22 dX12_bodyFrom_9 (by decide) (fun cc_9 => absurd (by decide) cc_9) (fun _ => ?_)
  refine ok_iload (pc := 12) dX12_bodyFrom_12 rfl ?_
  refine ok_callSi1 (pc := 14) (d' := 0) dX12_bodyFrom_14 sl_X12_120 rfl (by decide) ?_
  refine r_above ?_
  rw [show aboveF 1 = 0 from by decide]
  refine ok_istore4 (pc := 17) dX12_bodyFrom_17 (by decide) rfl ?_
  refine ok_goto (pc := 19) 3 dX12_bodyFrom_19 (by decide) ?_
  refine ok_iload (pc := 3) dX12_bodyFrom_3 rfl ?_
  refine ok_iload_n (pc := 5) dX12_bodyFrom_5 rfl ?_
  refine ok_callSi2 (pc := 6) (d' := 0) dX12_bodyFrom_6 sl_X12_326 rfl (by decide) ?_
  refine r_hasOwn ?_
  refine ok_if_ne (pc := 9) 22 dX12_bodyFrom_9 (by decide) (fun _ => ?_) (fun cc_9 => absurd cc_9 (by decide))
  refine ok_aload_n (pc := 22) dX12_bodyFrom_22 rfl ?_
  refine ok_iload (pc := 23) dX12_bodyFrom_23 rfl ?_
  refine ok_iload_n (pc := 25) dX12_bodyFrom_25 rfl ?_
  refine ok_iload_n (pc := 26) dX12_bodyFrom_26 rfl ?_
  refine ok_callVi3 (pc := 27) (d' := 13) dX12_bodyFrom_27 vl_X12_329 hR.o rfl rfl rfl (by decide) ?_
  refine r_b13 hV sp esp hsp hs k6 (fun M hV => ?_)
  refine ok_iret (pc := 30) dX12_bodyFrom_30 rfl ?_
  exact k _ hV

set_option maxHeartbeats 1000000 in
theorem r_bfu23 {Γ : Cx} {m sz : Nat} {M0 M : Nat → Option va_E} {σ κ : Rw} {ri : Rw} {ra : Nat → Rw} {s : Tr} (hV : RefV Γ m M0 σ κ ri ra s M) {K : Int32 → Wd → Prop} {x : Int32} (sp : Nat) (esp : ri 20 = nI sp) (hsp : sp < 8) (hs : s.1 ≤ 40) (k6 : 0 ≤ kf σ sp 0 ∧ kf σ sp 0 ≤ 6) (k : ∀ M', RefV Γ m M0 σ κ ri ra (b13 (kf σ sp 0) (nI sp) (kf σ sp 1) x s).2 M' → K (b13 (kf σ sp 0) (nI sp) (kf σ sp 1) x s).1 (M', sz)) : Spec Γ mX12_bodyFrom 16 0 [.ref m, .int 2, .int 3, .int x] (M, sz) (ci K) := by
  have hR := hV
  unfold RefV at hR
  refine spec_in [some (.ref m), some (.int 2), some (.int 3), some (.int x), none] 1 (by decide) rfl rfl ?_
  refine ok_iload_n (pc := 0) dX12_bodyFrom_0 rfl ?_
  refine ok_istore4 (pc := 1) dX12_bodyFrom_1 (by decide) rfl ?_
  refine ok_iload (pc := 3) dX12_bodyFrom_3 rfl ?_
  refine ok_iload_n (pc := 5) dX12_bodyFrom_5 rfl ?_
  refine ok_callSi2 (pc := 6) (d' := 0) dX12_bodyFrom_6 sl_X12_326 rfl (by decide) ?_
  refine r_hasOwn ?_
  refine ok_if_ne (pc := 9) 22 dX12_bodyFrom_9 (by decide) (fun cc_9 => absurd (by decide) cc_9) (fun _ => ?_)
  refine ok_iload (pc := 12) dX12_bodyFrom_12 rfl ?_
  refine ok_callSi1 (pc := 14) (d' := 0) dX12_bodyFrom_14 sl_X12_120 rfl (by decide) ?_
  refine r_above ?_
  rw [show aboveF 2 = 0 from by decide]
  refine ok_istore4 (pc := 17) dX12_bodyFrom_17 (by decide) rfl ?_
  refine ok_goto (pc := 19) 3 dX12_bodyFrom_19 (by decide) ?_
  refine ok_iload (pc := 3) dX12_bodyFrom_3 rfl ?_
  refine ok_iload_n (pc := 5) dX12_bodyFrom_5 rfl ?_
  refine ok_callSi2 (pc := 6) (d' := 0) dX12_bodyFrom_6 sl_X12_326 rfl (by decide) ?_
  refine r_hasOwn ?_
  refine ok_if_ne (pc := 9) 22 dX12_bodyFrom_9 (by decide) (fun _ => ?_) (fun cc_9 => absurd cc_9 (by decide))
  refine ok_aload_n (pc := 22) dX12_bodyFrom_22 rfl ?_
  refine ok_iload (pc := 23) dX12_bodyFrom_23 rfl ?_
  refine ok_iload_n (pc := 25) dX12_bodyFrom_25 rfl ?_
  refine ok_iload_n (pc := 26) dX12_bodyFrom_26 rfl ?_
  refine ok_callVi3 (pc := 27) (d' := 13) dX12_bodyFrom_27 vl_X12_329 hR.o rfl rfl rfl (by decide) ?_
  refine r_b13 hV sp esp hsp hs k6 (fun M hV => ?_)
  refine ok_iret (pc := 30) dX12_bodyFrom_30 rfl ?_
  exact k _ hV

set_option maxHeartbeats 1000000 in
theorem r_bfu33 {Γ : Cx} {m sz : Nat} {M0 M : Nat → Option va_E} {σ κ : Rw} {ri : Rw} {ra : Nat → Rw} {s : Tr} (hV : RefV Γ m M0 σ κ ri ra s M) {K : Int32 → Wd → Prop} {x : Int32} (sp : Nat) (esp : ri 20 = nI sp) (hsp : sp < 8) (hs : s.1 ≤ 40) (k6 : 0 ≤ kf σ sp 0 ∧ kf σ sp 0 ≤ 6) (k : ∀ M', RefV Γ m M0 σ κ ri ra (b13 (kf σ sp 0) (nI sp) (kf σ sp 1) x s).2 M' → K (b13 (kf σ sp 0) (nI sp) (kf σ sp 1) x s).1 (M', sz)) : Spec Γ mX12_bodyFrom 16 0 [.ref m, .int 3, .int 3, .int x] (M, sz) (ci K) := by
  have hR := hV
  unfold RefV at hR
  refine spec_in [some (.ref m), some (.int 3), some (.int 3), some (.int x), none] 1 (by decide) rfl rfl ?_
  refine ok_iload_n (pc := 0) dX12_bodyFrom_0 rfl ?_
  refine ok_istore4 (pc := 1) dX12_bodyFrom_1 (by decide) rfl ?_
  refine ok_iload (pc := 3) dX12_bodyFrom_3 rfl ?_
  refine ok_iload_n (pc := 5) dX12_bodyFrom_5 rfl ?_
  refine ok_callSi2 (pc := 6) (d' := 0) dX12_bodyFrom_6 sl_X12_326 rfl (by decide) ?_
  refine r_hasOwn ?_
  refine ok_if_ne (pc := 9) 22 dX12_bodyFrom_9 (by decide) (fun cc_9 => absurd (by decide) cc_9) (fun _ => ?_)
  refine ok_iload (pc := 12) dX12_bodyFrom_12 rfl ?_
  refine ok_callSi1 (pc := 14) (d' := 0) dX12_bodyFrom_14 sl_X12_120 rfl (by decide) ?_
  refine r_above ?_
  rw [show aboveF 3 = 0 from by decide]
  refine ok_istore4 (pc := 17) dX12_bodyFrom_17 (by decide) rfl ?_
  refine ok_goto (pc := 19) 3 dX12_bodyFrom_19 (by decide) ?_
  refine ok_iload (pc := 3) dX12_bodyFrom_3 rfl ?_
  refine ok_iload_n (pc := 5) dX12_bodyFrom_5 rfl ?_
  refine ok_callSi2 (pc := 6) (d' := 0) dX12_bodyFrom_6 sl_X12_326 rfl (by decide) ?_
  refine r_hasOwn ?_
  refine ok_if_ne (pc := 9) 22 dX12_bodyFrom_9 (by decide) (fun _ => ?_) (fun cc_9 => absurd cc_9 (by decide))
  refine ok_aload_n (pc := 22) dX12_bodyFrom_22 rfl ?_
  refine ok_iload (pc := 23) dX12_bodyFrom_23 rfl ?_
  refine ok_iload_n (pc := 25) dX12_bodyFrom_25 rfl ?_
  refine ok_iload_n (pc := 26) dX12_bodyFrom_26 rfl ?_
  refine ok_callVi3 (pc := 27) (d' := 13) dX12_bodyFrom_27 vl_X12_329 hR.o rfl rfl rfl (by decide) ?_
  refine r_b13 hV sp esp hsp hs k6 (fun M hV => ?_)
  refine ok_iret (pc := 30) dX12_bodyFrom_30 rfl ?_
  exact k _ hV

set_option maxHeartbeats 1000000 in
theorem r_bfu43 {Γ : Cx} {m sz : Nat} {M0 M : Nat → Option va_E} {σ κ : Rw} {ri : Rw} {ra : Nat → Rw} {s : Tr} (hV : RefV Γ m M0 σ κ ri ra s M) {K : Int32 → Wd → Prop} {x : Int32} (sp : Nat) (esp : ri 20 = nI sp) (hsp : sp < 8) (hs : s.1 ≤ 40) (k6 : 0 ≤ kf σ sp 0 ∧ kf σ sp 0 ≤ 6) (k : ∀ M', RefV Γ m M0 σ κ ri ra (b13 (kf σ sp 0) (nI sp) (kf σ sp 1) x s).2 M' → K (b13 (kf σ sp 0) (nI sp) (kf σ sp 1) x s).1 (M', sz)) : Spec Γ mX12_bodyFrom 16 0 [.ref m, .int 4, .int 3, .int x] (M, sz) (ci K) := by
  have hR := hV
  unfold RefV at hR
  refine spec_in [some (.ref m), some (.int 4), some (.int 3), some (.int x), none] 1 (by decide) rfl rfl ?_
  refine ok_iload_n (pc := 0) dX12_bodyFrom_0 rfl ?_
  refine ok_istore4 (pc := 1) dX12_bodyFrom_1 (by decide) rfl ?_
  refine ok_iload (pc := 3) dX12_bodyFrom_3 rfl ?_
  refine ok_iload_n (pc := 5) dX12_bodyFrom_5 rfl ?_
  refine ok_callSi2 (pc := 6) (d' := 0) dX12_bodyFrom_6 sl_X12_326 rfl (by decide) ?_
  refine r_hasOwn ?_
  refine ok_if_ne (pc := 9) 22 dX12_bodyFrom_9 (by decide) (fun cc_9 => absurd (by decide) cc_9) (fun _ => ?_)
  refine ok_iload (pc := 12) dX12_bodyFrom_12 rfl ?_
  refine ok_callSi1 (pc := 14) (d' := 0) dX12_bodyFrom_14 sl_X12_120 rfl (by decide) ?_
  refine r_above ?_
  rw [show aboveF 4 = 1 from by decide]
  refine ok_istore4 (pc := 17) dX12_bodyFrom_17 (by decide) rfl ?_
  refine ok_goto (pc := 19) 3 dX12_bodyFrom_19 (by decide) ?_
  refine ok_iload (pc := 3) dX12_bodyFrom_3 rfl ?_
  refine ok_iload_n (pc := 5) dX12_bodyFrom_5 rfl ?_
  refine ok_callSi2 (pc := 6) (d' := 0) dX12_bodyFrom_6 sl_X12_326 rfl (by decide) ?_
  refine r_hasOwn ?_
  refine ok_if_ne (pc := 9) 22 dX12_bodyFrom_9 (by decide) (fun cc_9 => absurd (by decide) cc_9) (fun _ => ?_)
  refine ok_iload (pc := 12) dX12_bodyFrom_12 rfl ?_
  refine ok_callSi1 (pc := 14) (d' := 0) dX12_bodyFrom_14 sl_X12_120 rfl (by decide) ?_
  refine r_above ?_
  rw [show aboveF 1 = 0 from by decide]
  refine ok_istore4 (pc := 17) dX12_bodyFrom_17 (by decide) rfl ?_
  refine ok_goto (pc := 19) 3 dX12_bodyFrom_19 (by decide) ?_
  refine ok_iload (pc := 3) dX12_bodyFrom_3 rfl ?_
  refine ok_iload_n (pc := 5) dX12_bodyFrom_5 rfl ?_
  refine ok_callSi2 (pc := 6) (d' := 0) dX12_bodyFrom_6 sl_X12_326 rfl (by decide) ?_
  refine r_hasOwn ?_
  refine ok_if_ne (pc := 9) 22 dX12_bodyFrom_9 (by decide) (fun _ => ?_) (fun cc_9 => absurd cc_9 (by decide))
  refine ok_aload_n (pc := 22) dX12_bodyFrom_22 rfl ?_
  refine ok_iload (pc := 23) dX12_bodyFrom_23 rfl ?_
  refine ok_iload_n (pc := 25) dX12_bodyFrom_25 rfl ?_
  refine ok_iload_n (pc := 26) dX12_bodyFrom_26 rfl ?_
  refine ok_callVi3 (pc := 27) (d' := 13) dX12_bodyFrom_27 vl_X12_329 hR.o rfl rfl rfl (by decide) ?_
  refine r_b13 hV sp esp hsp hs k6 (fun M hV => ?_)
  refine ok_iret (pc := 30) dX12_bodyFrom_30 rfl ?_
  exact k _ hV

set_option maxHeartbeats 1000000 in
theorem r_bfu53 {Γ : Cx} {m sz : Nat} {M0 M : Nat → Option va_E} {σ κ : Rw} {ri : Rw} {ra : Nat → Rw} {s : Tr} (hV : RefV Γ m M0 σ κ ri ra s M) {K : Int32 → Wd → Prop} {x : Int32} (sp : Nat) (esp : ri 20 = nI sp) (hsp : sp < 8) (hs : s.1 ≤ 40) (k6 : 0 ≤ kf σ sp 0 ∧ kf σ sp 0 ≤ 6) (k : ∀ M', RefV Γ m M0 σ κ ri ra (b60 (kf σ sp 0) (nI sp) (kf σ sp 1) x s).2 M' → K (b60 (kf σ sp 0) (nI sp) (kf σ sp 1) x s).1 (M', sz)) : Spec Γ mX12_bodyFrom 16 0 [.ref m, .int 5, .int 3, .int x] (M, sz) (ci K) := by
  have hR := hV
  unfold RefV at hR
  refine spec_in [some (.ref m), some (.int 5), some (.int 3), some (.int x), none] 1 (by decide) rfl rfl ?_
  refine ok_iload_n (pc := 0) dX12_bodyFrom_0 rfl ?_
  refine ok_istore4 (pc := 1) dX12_bodyFrom_1 (by decide) rfl ?_
  refine ok_iload (pc := 3) dX12_bodyFrom_3 rfl ?_
  refine ok_iload_n (pc := 5) dX12_bodyFrom_5 rfl ?_
  refine ok_callSi2 (pc := 6) (d' := 0) dX12_bodyFrom_6 sl_X12_326 rfl (by decide) ?_
  refine r_hasOwn ?_
  refine ok_if_ne (pc := 9) 22 dX12_bodyFrom_9 (by decide) (fun _ => ?_) (fun cc_9 => absurd cc_9 (by decide))
  refine ok_aload_n (pc := 22) dX12_bodyFrom_22 rfl ?_
  refine ok_iload (pc := 23) dX12_bodyFrom_23 rfl ?_
  refine ok_iload_n (pc := 25) dX12_bodyFrom_25 rfl ?_
  refine ok_iload_n (pc := 26) dX12_bodyFrom_26 rfl ?_
  refine ok_callVi3 (pc := 27) (d' := 15) dX12_bodyFrom_27 vl_X12_329 hR.o rfl rfl rfl (by decide) ?_
  refine r_b60 hV sp esp hsp hs k6 (fun M hV => ?_)
  refine ok_iret (pc := 30) dX12_bodyFrom_30 rfl ?_
  exact k _ hV

set_option maxHeartbeats 1000000 in
theorem r_bfu63 {Γ : Cx} {m sz : Nat} {M0 M : Nat → Option va_E} {σ κ : Rw} {ri : Rw} {ra : Nat → Rw} {s : Tr} (hV : RefV Γ m M0 σ κ ri ra s M) {K : Int32 → Wd → Prop} {x : Int32} (sp : Nat) (esp : ri 20 = nI sp) (hsp : sp < 8) (hs : s.1 ≤ 40) (k6 : 0 ≤ kf σ sp 0 ∧ kf σ sp 0 ≤ 6) (k : ∀ M', RefV Γ m M0 σ κ ri ra (b71 (kf σ sp 0) (nI sp) (kf σ sp 1) x s).2 M' → K (b71 (kf σ sp 0) (nI sp) (kf σ sp 1) x s).1 (M', sz)) : Spec Γ mX12_bodyFrom 16 0 [.ref m, .int 6, .int 3, .int x] (M, sz) (ci K) := by
  have hR := hV
  unfold RefV at hR
  refine spec_in [some (.ref m), some (.int 6), some (.int 3), some (.int x), none] 1 (by decide) rfl rfl ?_
  refine ok_iload_n (pc := 0) dX12_bodyFrom_0 rfl ?_
  refine ok_istore4 (pc := 1) dX12_bodyFrom_1 (by decide) rfl ?_
  refine ok_iload (pc := 3) dX12_bodyFrom_3 rfl ?_
  refine ok_iload_n (pc := 5) dX12_bodyFrom_5 rfl ?_
  refine ok_callSi2 (pc := 6) (d' := 0) dX12_bodyFrom_6 sl_X12_326 rfl (by decide) ?_
  refine r_hasOwn ?_
  refine ok_if_ne (pc := 9) 22 dX12_bodyFrom_9 (by decide) (fun _ => ?_) (fun cc_9 => absurd cc_9 (by decide))
  refine ok_aload_n (pc := 22) dX12_bodyFrom_22 rfl ?_
  refine ok_iload (pc := 23) dX12_bodyFrom_23 rfl ?_
  refine ok_iload_n (pc := 25) dX12_bodyFrom_25 rfl ?_
  refine ok_iload_n (pc := 26) dX12_bodyFrom_26 rfl ?_
  refine ok_callVi3 (pc := 27) (d' := 15) dX12_bodyFrom_27 vl_X12_329 hR.o rfl rfl rfl (by decide) ?_
  refine r_b71 hV sp esp hsp hs k6 (fun M hV => ?_)
  refine ok_iret (pc := 30) dX12_bodyFrom_30 rfl ?_
  exact k _ hV

set_option maxHeartbeats 1000000 in
theorem r_bfV3 {Γ : Cx} {m sz : Nat} {M0 M : Nat → Option va_E} {σ κ : Rw} {ri : Rw} {ra : Nat → Rw} {s : Tr} (hV : RefV Γ m M0 σ κ ri ra s M) {K : Int32 → Wd → Prop} {x : Int32} (sp : Nat) (esp : ri 20 = nI sp) (hsp : sp < 8) (hs : s.1 ≤ 40) (k6 : 0 ≤ kf σ sp 0 ∧ kf σ sp 0 ≤ 6) (k : ∀ M', RefV Γ m M0 σ κ ri ra (vTe (kf σ sp 0) (nI sp) (kf σ sp 1) x s).2 M' → K (vTe (kf σ sp 0) (nI sp) (kf σ sp 1) x s).1 (M', sz)) : Spec Γ mX12_bodyFrom 16 0 [.ref m, .int (kf σ sp 0), .int 3, .int x] (M, sz) (ci K) := by
  have hk : kf σ sp 0 = 0 ∨ kf σ sp 0 = 1 ∨ kf σ sp 0 = 2 ∨ kf σ sp 0 = 3 ∨ kf σ sp 0 = 4 ∨ kf σ sp 0 = 5 ∨ kf σ sp 0 = 6 := by
    obtain ⟨j, hj, ej⟩ := nI_of2 (M := 6) (n := 6) rfl (Int32.not_lt.mpr k6.1) k6.2
    rcases (show j = 0 ∨ j = 1 ∨ j = 2 ∨ j = 3 ∨ j = 4 ∨ j = 5 ∨ j = 6 by omega) with h | h | h | h | h | h | h <;> subst h <;> simp only [ej] <;> decide
  rcases hk with h | h | h | h | h | h | h
  · have ee : vTe (kf σ sp 0) (nI sp) (kf σ sp 1) x s = b13 (kf σ sp 0) (nI sp) (kf σ sp 1) x s := by unfold vTe; first | (simp [h]; done) | (rw [h]; rfl)
    rw [ee] at k
    rw [h]
    exact r_bfu03 hV sp esp hsp hs k6 k
  · have ee : vTe (kf σ sp 0) (nI sp) (kf σ sp 1) x s = b13 (kf σ sp 0) (nI sp) (kf σ sp 1) x s := by unfold vTe; first | (simp [h]; done) | (rw [h]; rfl)
    rw [ee] at k
    rw [h]
    exact r_bfu13 hV sp esp hsp hs k6 k
  · have ee : vTe (kf σ sp 0) (nI sp) (kf σ sp 1) x s = b13 (kf σ sp 0) (nI sp) (kf σ sp 1) x s := by unfold vTe; first | (simp [h]; done) | (rw [h]; rfl)
    rw [ee] at k
    rw [h]
    exact r_bfu23 hV sp esp hsp hs k6 k
  · have ee : vTe (kf σ sp 0) (nI sp) (kf σ sp 1) x s = b13 (kf σ sp 0) (nI sp) (kf σ sp 1) x s := by unfold vTe; first | (simp [h]; done) | (rw [h]; rfl)
    rw [ee] at k
    rw [h]
    exact r_bfu33 hV sp esp hsp hs k6 k
  · have ee : vTe (kf σ sp 0) (nI sp) (kf σ sp 1) x s = b13 (kf σ sp 0) (nI sp) (kf σ sp 1) x s := by unfold vTe; first | (simp [h]; done) | (rw [h]; rfl)
    rw [ee] at k
    rw [h]
    exact r_bfu43 hV sp esp hsp hs k6 k
  · have ee : vTe (kf σ sp 0) (nI sp) (kf σ sp 1) x s = b60 (kf σ sp 0) (nI sp) (kf σ sp 1) x s := by unfold vTe; first | (simp [h]; done) | (rw [h]; rfl)
    rw [ee] at k
    rw [h]
    exact r_bfu53 hV sp esp hsp hs k6 k
  · have ee : vTe (kf σ sp 0) (nI sp) (kf σ sp 1) x s = b71 (kf σ sp 0) (nI sp) (kf σ sp 1) x s := by unfold vTe; first | (simp [h]; done) | (rw [h]; rfl)
    rw [ee] at k
    rw [h]
    exact r_bfu63 hV sp esp hsp hs k6 k

set_option maxHeartbeats 1000000 in
theorem r_voiced3 {Γ : Cx} {m sz : Nat} {M0 M : Nat → Option va_E} {σ κ : Rw} {ri : Rw} {ra : Nat → Rw} {s : Tr} (hV : RefV Γ m M0 σ κ ri ra s M) {K : Int32 → Wd → Prop} {x : Int32} (sp : Nat) (esp : ri 20 = nI sp) (hsp : sp < 8) (hs : s.1 ≤ 40) (k6 : 0 ≤ kf σ sp 0 ∧ kf σ sp 0 ≤ 6) (k : ∀ M', RefV Γ m M0 σ κ ri ra (vTe (kf σ sp 0) (nI sp) (kf σ sp 1) x s).2 M' → K (vTe (kf σ sp 0) (nI sp) (kf σ sp 1) x s).1 (M', sz)) : Spec Γ mX12_voiced 17 0 [.ref m, .int 3, .int x] (M, sz) (ci K) := by
  have hR := hV
  unfold RefV at hR
  have esp2 : upd ri 19 (nI s.1) 20 = nI sp := (upd_ne (by decide)).trans esp
  refine spec_in [some (.ref m), some (.int 3), some (.int x)] 0 (by decide) rfl rfl ?_
  refine ok_aload_n (pc := 0) dX12_voiced_0 rfl ?_
  refine ok_aload_n (pc := 1) dX12_voiced_1 rfl ?_
  refine ok_aload_n (pc := 2) dX12_voiced_2 rfl ?_
  refine ok_getf (pc := 3) dX12_voiced_3 fl_X12_320 hR.o rfl ?_
  rw [esp2]
  refine ok_iconst (pc := 6) (v := 0) dX12_voiced_6 (by decide) ?_
  refine ok_callVi2 (pc := 7) (d' := 0) dX12_voiced_7 vl_X12_117 hR.o rfl rfl rfl (by decide) ?_
  refine r_kiteIs hR sp rfl 0 rfl hsp (by decide) ?_
  refine ok_iload_n (pc := 10) dX12_voiced_10 rfl ?_
  refine ok_iload_n (pc := 11) dX12_voiced_11 rfl ?_
  refine ok_callVi3 (pc := 12) (d' := 16) dX12_voiced_12 vl_X12_323 hR.o rfl rfl rfl (by decide) ?_
  refine r_bfV3 hV sp esp hsp hs k6 (fun M hV => ?_)
  refine ok_iret (pc := 15) dX12_voiced_15 rfl ?_
  exact k _ hV

theorem vup_same {α : Type} {f : Nat → α} {k : Nat} {v : α} (h : f k = v) : va_up f k v = f := by funext j; unfold va_up; split; (rename_i e; rw [e, h]); rfl
theorem vup_swap {α : Type} {f : Nat → α} {j k : Nat} {v w : α} (h : j ≠ k) : va_up (va_up f j v) k w = va_up (va_up f k w) j v := by
  funext q
  unfold va_up
  by_cases h1 : q = k
  · rw [if_pos h1]
    by_cases h2 : q = j
    · exact absurd (h2.symm.trans h1) h
    · rw [if_neg h2, if_pos h1]
  · rw [if_neg h1]
    by_cases h2 : q = j
    · rw [if_pos h2, if_pos h2]
    · rw [if_neg h2, if_neg h2, if_neg h1]

set_option maxHeartbeats 1000000 in
theorem r_vcu0 {Γ : Cx} {m sz : Nat} {M0 M : Nat → Option va_E} {σ κ : Rw} {ri : Rw} {ra : Nat → Rw} {s : Tr} (hV : RefV Γ m M0 σ κ ri ra s M) {K : Int32 → Wd → Prop} {x : Int32} (sp : Nat) (esp : ri 20 = nI sp) (hsp : sp < 8) (hs : s.1 ≤ 40) (k6 : 0 ≤ kf σ sp 0 ∧ kf σ sp 0 ≤ 6) (k : ∀ M', RefV Γ m M0 σ κ ri ra (vLi (kf σ sp 0) (nI sp) x s).2 M' → K (vLi (kf σ sp 0) (nI sp) x s).1 (M', sz)) : Spec Γ mX12_voiced 17 0 [.ref m, .int 0, .int x] (M, sz) (ci K) := by
  have hR := hV
  unfold RefV at hR
  have esp2 : upd ri 19 (nI s.1) 20 = nI sp := (upd_ne (by decide)).trans esp
  refine spec_in [some (.ref m), some (.int 0), some (.int x)] 0 (by decide) rfl rfl ?_
  refine ok_aload_n (pc := 0) dX12_voiced_0 rfl ?_
  refine ok_aload_n (pc := 1) dX12_voiced_1 rfl ?_
  refine ok_aload_n (pc := 2) dX12_voiced_2 rfl ?_
  refine ok_getf (pc := 3) dX12_voiced_3 fl_X12_320 hR.o rfl ?_
  rw [esp2]
  refine ok_iconst (pc := 6) (v := 0) dX12_voiced_6 (by decide) ?_
  refine ok_callVi2 (pc := 7) (d' := 0) dX12_voiced_7 vl_X12_117 hR.o rfl rfl rfl (by decide) ?_
  refine r_kiteIs hR sp rfl 0 rfl hsp (by decide) ?_
  refine ok_iload_n (pc := 10) dX12_voiced_10 rfl ?_
  refine ok_iload_n (pc := 11) dX12_voiced_11 rfl ?_
  refine ok_callVi3 (pc := 12) (d' := 4) dX12_voiced_12 vl_X12_323 hR.o rfl rfl rfl (by decide) ?_
  refine r_bfV0 hV sp esp hsp hs k6 (fun M hV => ?_)
  refine ok_iret (pc := 15) dX12_voiced_15 rfl ?_
  exact k _ hV

set_option maxHeartbeats 1000000 in
theorem r_vcu1 {Γ : Cx} {m sz : Nat} {M0 M : Nat → Option va_E} {σ κ : Rw} {ri : Rw} {ra : Nat → Rw} {s : Tr} (hV : RefV Γ m M0 σ κ ri ra s M) {K : Int32 → Wd → Prop} {x : Int32} (sp : Nat) (esp : ri 20 = nI sp) (hsp : sp < 8) (hs : s.1 ≤ 40) (k6 : 0 ≤ kf σ sp 0 ∧ kf σ sp 0 ≤ 6) (k : ∀ M', RefV Γ m M0 σ κ ri ra (vSw (kf σ sp 0) (nI sp) (kf σ sp 1) x s).2 M' → K (vSw (kf σ sp 0) (nI sp) (kf σ sp 1) x s).1 (M', sz)) : Spec Γ mX12_voiced 17 0 [.ref m, .int 1, .int x] (M, sz) (ci K) := by
  have hR := hV
  unfold RefV at hR
  have esp2 : upd ri 19 (nI s.1) 20 = nI sp := (upd_ne (by decide)).trans esp
  refine spec_in [some (.ref m), some (.int 1), some (.int x)] 0 (by decide) rfl rfl ?_
  refine ok_aload_n (pc := 0) dX12_voiced_0 rfl ?_
  refine ok_aload_n (pc := 1) dX12_voiced_1 rfl ?_
  refine ok_aload_n (pc := 2) dX12_voiced_2 rfl ?_
  refine ok_getf (pc := 3) dX12_voiced_3 fl_X12_320 hR.o rfl ?_
  rw [esp2]
  refine ok_iconst (pc := 6) (v := 0) dX12_voiced_6 (by decide) ?_
  refine ok_callVi2 (pc := 7) (d' := 0) dX12_voiced_7 vl_X12_117 hR.o rfl rfl rfl (by decide) ?_
  refine r_kiteIs hR sp rfl 0 rfl hsp (by decide) ?_
  refine ok_iload_n (pc := 10) dX12_voiced_10 rfl ?_
  refine ok_iload_n (pc := 11) dX12_voiced_11 rfl ?_
  refine ok_callVi3 (pc := 12) (d' := 11) dX12_voiced_12 vl_X12_323 hR.o rfl rfl rfl (by decide) ?_
  refine r_bfV1 hV sp esp hsp hs k6 (fun M hV => ?_)
  refine ok_iret (pc := 15) dX12_voiced_15 rfl ?_
  exact k _ hV

set_option maxHeartbeats 1000000 in
theorem r_vcu2 {Γ : Cx} {m sz : Nat} {M0 M : Nat → Option va_E} {σ κ : Rw} {ri : Rw} {ra : Nat → Rw} {s : Tr} (hV : RefV Γ m M0 σ κ ri ra s M) {K : Int32 → Wd → Prop} {x : Int32} (sp : Nat) (esp : ri 20 = nI sp) (hsp : sp < 8) (hs : s.1 ≤ 40) (k6 : 0 ≤ kf σ sp 0 ∧ kf σ sp 0 ≤ 6) (k : ∀ M', RefV Γ m M0 σ κ ri ra (vSi (kf σ sp 0) (nI sp) (kf σ sp 1) x s).2 M' → K (vSi (kf σ sp 0) (nI sp) (kf σ sp 1) x s).1 (M', sz)) : Spec Γ mX12_voiced 17 0 [.ref m, .int 2, .int x] (M, sz) (ci K) := by
  have hR := hV
  unfold RefV at hR
  have esp2 : upd ri 19 (nI s.1) 20 = nI sp := (upd_ne (by decide)).trans esp
  refine spec_in [some (.ref m), some (.int 2), some (.int x)] 0 (by decide) rfl rfl ?_
  refine ok_aload_n (pc := 0) dX12_voiced_0 rfl ?_
  refine ok_aload_n (pc := 1) dX12_voiced_1 rfl ?_
  refine ok_aload_n (pc := 2) dX12_voiced_2 rfl ?_
  refine ok_getf (pc := 3) dX12_voiced_3 fl_X12_320 hR.o rfl ?_
  rw [esp2]
  refine ok_iconst (pc := 6) (v := 0) dX12_voiced_6 (by decide) ?_
  refine ok_callVi2 (pc := 7) (d' := 0) dX12_voiced_7 vl_X12_117 hR.o rfl rfl rfl (by decide) ?_
  refine r_kiteIs hR sp rfl 0 rfl hsp (by decide) ?_
  refine ok_iload_n (pc := 10) dX12_voiced_10 rfl ?_
  refine ok_iload_n (pc := 11) dX12_voiced_11 rfl ?_
  refine ok_callVi3 (pc := 12) (d' := 6) dX12_voiced_12 vl_X12_323 hR.o rfl rfl rfl (by decide) ?_
  refine r_bfV2 hV sp esp hsp hs k6 (fun M hV => ?_)
  refine ok_iret (pc := 15) dX12_voiced_15 rfl ?_
  exact k _ hV

set_option maxHeartbeats 1000000 in
theorem r_vcu3 {Γ : Cx} {m sz : Nat} {M0 M : Nat → Option va_E} {σ κ : Rw} {ri : Rw} {ra : Nat → Rw} {s : Tr} (hV : RefV Γ m M0 σ κ ri ra s M) {K : Int32 → Wd → Prop} {x : Int32} (sp : Nat) (esp : ri 20 = nI sp) (hsp : sp < 8) (hs : s.1 ≤ 40) (k6 : 0 ≤ kf σ sp 0 ∧ kf σ sp 0 ≤ 6) (k : ∀ M', RefV Γ m M0 σ κ ri ra (vTe (kf σ sp 0) (nI sp) (kf σ sp 1) x s).2 M' → K (vTe (kf σ sp 0) (nI sp) (kf σ sp 1) x s).1 (M', sz)) : Spec Γ mX12_voiced 17 0 [.ref m, .int 3, .int x] (M, sz) (ci K) := by
  have hR := hV
  unfold RefV at hR
  have esp2 : upd ri 19 (nI s.1) 20 = nI sp := (upd_ne (by decide)).trans esp
  refine spec_in [some (.ref m), some (.int 3), some (.int x)] 0 (by decide) rfl rfl ?_
  refine ok_aload_n (pc := 0) dX12_voiced_0 rfl ?_
  refine ok_aload_n (pc := 1) dX12_voiced_1 rfl ?_
  refine ok_aload_n (pc := 2) dX12_voiced_2 rfl ?_
  refine ok_getf (pc := 3) dX12_voiced_3 fl_X12_320 hR.o rfl ?_
  rw [esp2]
  refine ok_iconst (pc := 6) (v := 0) dX12_voiced_6 (by decide) ?_
  refine ok_callVi2 (pc := 7) (d' := 0) dX12_voiced_7 vl_X12_117 hR.o rfl rfl rfl (by decide) ?_
  refine r_kiteIs hR sp rfl 0 rfl hsp (by decide) ?_
  refine ok_iload_n (pc := 10) dX12_voiced_10 rfl ?_
  refine ok_iload_n (pc := 11) dX12_voiced_11 rfl ?_
  refine ok_callVi3 (pc := 12) (d' := 16) dX12_voiced_12 vl_X12_323 hR.o rfl rfl rfl (by decide) ?_
  refine r_bfV3 hV sp esp hsp hs k6 (fun M hV => ?_)
  refine ok_iret (pc := 15) dX12_voiced_15 rfl ?_
  exact k _ hV

set_option maxHeartbeats 1000000 in
theorem r_voicedA {Γ : Cx} {m sz : Nat} {M0 M : Nat → Option va_E} {σ κ : Rw} {ri : Rw} {ra : Nat → Rw} {s : Tr} (hV : RefV Γ m M0 σ κ ri ra s M) {K : Int32 → Wd → Prop} {x : Int32} (sp : Nat) (esp : ri 20 = nI sp) (hsp : sp < 8) (hs : s.1 ≤ 40) (k6 : 0 ≤ kf σ sp 0 ∧ kf σ sp 0 ≤ 6) (ac : Nat) (hac : ac < 4) (k : ∀ M', RefV Γ m M0 σ κ ri ra (vcF ac (kf σ sp 0) (nI sp) (kf σ sp 1) x s).2 M' → K (vcF ac (kf σ sp 0) (nI sp) (kf σ sp 1) x s).1 (M', sz)) : Spec Γ mX12_voiced 17 0 [.ref m, .int (nI ac), .int x] (M, sz) (ci K) := by
  rcases (show ac = 0 ∨ ac = 1 ∨ ac = 2 ∨ ac = 3 by omega) with h | h | h | h
  · subst h
    exact r_vcu0 hV sp esp hsp hs k6 k
  · subst h
    exact r_vcu1 hV sp esp hsp hs k6 k
  · subst h
    exact r_vcu2 hV sp esp hsp hs k6 k
  · subst h
    exact r_vcu3 hV sp esp hsp hs k6 k

set_option maxHeartbeats 1000000 in
theorem r_voice {Γ : Cx} {m sz : Nat} {M0 M : Nat → Option va_E} {σ κ vi : Rw} {va : Nat → Rw} {K : Int32 → Wd → Prop} (hW : RefW Γ m M0 σ κ vi va M) (hI : Inv σ) (tr : Tr) (ht : vi 19 = nI tr.1 ∧ va 18 = tr.2) {x y z : Int32} (k : ∀ M', RefW Γ m M0 σ κ (upd vi 19 (nI (op_voice σ tr x y z).2.2.1)) (va_up (eU va (op_voice σ tr x y z).1) 18 (op_voice σ tr x y z).2.2.2) M' → K (op_voice σ tr x y z).2.1 (M', sz)) : Spec Γ mX12_voice 18 0 [.ref m, .int x, .int y, .int z] (M, sz) (ci K) := by
  obtain ⟨ri, ra, hR, hv, hw⟩ := hW
  obtain ⟨⟨⟨eH, lH⟩, ⟨eK, lK⟩, ⟨eL, lL⟩, ⟨eA, lA⟩, ⟨eT, lT⟩⟩, iK, iH, iW, iL, iO, iB, hT⟩ := id hI
  
  refine spec_in [some (.ref m), some (.int x), some (.int y), some (.int z)] 0 (by decide) rfl rfl ?_
  refine ok_aload_n (pc := 0) dX12_voice_0 rfl ?_
  refine ok_iload_n (pc := 1) dX12_voice_1 rfl ?_
  refine ok_iconst (pc := 2) (v := 2) dX12_voice_2 (by decide) ?_
  refine ok_callVi2 (pc := 3) (d' := 1) dX12_voice_3 vl_X12_100 hR.o rfl rfl rfl (by decide) ?_
  refine r_is hR 2 rfl (by decide) ?_
  refine ok_if_eq (pc := 6) 18 dX12_voice_6 (by decide) (fun cc_6 => ?_) (fun cc_6 => ?_)
  · have cq_6 := bI_0.mp cc_6
    refine ok_aload_n (pc := 18) dX12_voice_18 rfl ?_
    refine ok_ldc (pc := 19) (v := -1000000001) dX12_voice_19 tw_1205 ?_
    refine ok_callVi1 (pc := 21) (d' := 0) dX12_voice_21 vl_X12_84 hR.o rfl rfl rfl (by decide) ?_
    refine r_finding hR 1 (by decide) (by decide) (fun M hR => ?_)
    refine ok_iret (pc := 24) dX12_voice_24 rfl ?_
    have eo : op_voice σ tr x y z = (1, -1000000001, tr) := by simp [op_voice, cq_6]
    rw [eo] at k
    have e1 : upd vi 19 (nI tr.1) = vi := fa_upd_same ht.1
    have e2 : va_up (eU va 1) 18 tr.2 = eU va 1 := vup_same (by rw [eU, if_neg (by decide), vup_ne (by decide)]; exact ht.2)
    simp only [e1, e2] at k
    exact k _ (RefW.err 1 (by decide) hR hv hw)
  · have cq_6 := bI_n0.mp cc_6
    refine ok_iload_n (pc := 9) dX12_voice_9 rfl ?_
    refine ok_iconst (pc := 10) (v := 0) dX12_voice_10 (by decide) ?_
    refine ok_iconst (pc := 11) (v := 3) dX12_voice_11 (by decide) ?_
    refine ok_callSi3 (pc := 12) (d' := 0) dX12_voice_12 sl_X12_75 rfl (by decide) ?_
    refine r_within ?_
    refine ok_if_ne (pc := 15) 25 dX12_voice_15 (by decide) (fun cc_15 => ?_) (fun cc_15 => ?_)
    · have cq_15 := bI_n0.mp cc_15
      refine ok_aload_n (pc := 25) dX12_voice_25 rfl ?_
      refine ok_iconst (pc := 26) (v := 0) dX12_voice_26 (by decide) ?_
      refine ok_rpt19 (pc := 27) dX12_voice_27 pl_X12_317 hR (fun M hR => ?_)
      refine ok_aload_n (pc := 30) dX12_voice_30 rfl ?_
      refine ok_iload_n (pc := 31) dX12_voice_31 rfl ?_
      refine ok_rpt20 (pc := 32) dX12_voice_32 pl_X12_320 hR (fun M hR => ?_)
      refine ok_aload_n (pc := 35) dX12_voice_35 rfl ?_
      refine ok_iload_n (pc := 36) dX12_voice_36 rfl ?_
      refine ok_iload_n (pc := 37) dX12_voice_37 rfl ?_
      refine ok_callVi2 (pc := 38) (d' := 17) dX12_voice_38 vl_X12_335 hR.o rfl rfl rfl (by decide) ?_
      obtain ⟨ex, lx⟩ := wi_cnt eK (by omega) cq_6
      obtain ⟨ey, -, ly⟩ := wi_lit (a := 0) (c := 3) rfl rfl (by decide) (by decide) cq_15
      have hV : RefV Γ m M0 σ κ (upd ri 20 x) ra (0, ra 18) M := by
        unfold RefV
        rw [vup_same rfl, show nI ((0, ra 18) : Tr).1 = 0 from rfl, fa_upd_swap _ (show 20 ≠ 19 by decide)]
        exact hR
      have ey2 : Value.int y = .int (nI (iN y)) := congrArg Value.int ey
      rw [ey2]
      refine r_voicedA hV (iN x) (by rw [upd_at]; exact ex) (by omega) (by show 0 ≤ 40; decide) (iK _ lx).2.2.1 (iN y) (by omega) (fun M hV => ?_)
      refine ok_iret (pc := 41) dX12_voice_41 rfl ?_
      have eo : op_voice σ tr x y z = (0, vcF (iN y) (kf σ (iN x) 0) (nI (iN x)) (kf σ (iN x) 1) z (0, tr.2)) := by simp [op_voice, cq_6, cq_15]
      rw [eo] at k
      have e18 : ra 18 = tr.2 := hw.2.1.trans ht.2
      rw [e18] at hV ⊢
      unfold RefV at hV
      refine k _ ⟨_, _, hV, ⟨?_, ?_⟩, ?_, ?_, ?_, ?_, ?_⟩
      · rw [upd_ne (by decide), upd_ne (by decide), upd_ne (by decide)]; exact hv.1
      · rw [upd_at, upd_at]
      · rw [vup_ne (by decide), vup_ne (by decide), eU_0]; exact hw.1
      · rw [vup_eq, vup_eq]
      · rw [vup_ne (by decide), vup_ne (by decide), eU_0]; exact hw.2.2.1
      · rw [vup_ne (by decide), vup_ne (by decide), eU_0]; exact hw.2.2.2.1
      · rw [vup_ne (by decide), vup_ne (by decide), eU_0]; exact hw.2.2.2.2
    · have cq_15 := bI_0.mp cc_15
      refine ok_aload_n (pc := 18) dX12_voice_18 rfl ?_
      refine ok_ldc (pc := 19) (v := -1000000001) dX12_voice_19 tw_1205 ?_
      refine ok_callVi1 (pc := 21) (d' := 0) dX12_voice_21 vl_X12_84 hR.o rfl rfl rfl (by decide) ?_
      refine r_finding hR 1 (by decide) (by decide) (fun M hR => ?_)
      refine ok_iret (pc := 24) dX12_voice_24 rfl ?_
      have eo : op_voice σ tr x y z = (1, -1000000001, tr) := by simp [op_voice, cq_6, cq_15]
      rw [eo] at k
      have e1 : upd vi 19 (nI tr.1) = vi := fa_upd_same ht.1
      have e2 : va_up (eU va 1) 18 tr.2 = eU va 1 := vup_same (by rw [eU, if_neg (by decide), vup_ne (by decide)]; exact ht.2)
      simp only [e1, e2] at k
      exact k _ (RefW.err 1 (by decide) hR hv hw)
