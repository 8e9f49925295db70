/-! the class reads texts -/
def OfT (t : Nat) (M M' : Nat → Option va_E) : Prop := ∀ q, q ≠ t → q ≠ t + 3 → q ≠ t + 4 → M' q = M q
theorem OfT.rf {t : Nat} {M : Nat → Option va_E} : OfT t M M := fun _ _ _ _ => rfl
theorem OfT.tr {t : Nat} {M M' M'' : Nat → Option va_E} (h : OfT t M M') (h2 : OfT t M' M'') : OfT t M M'' := fun q g1 g2 g3 => (h2 q g1 g2 g3).trans (h q g1 g2 g3)
/-- a Text while it reads the row r: place, fault, draft as the state tells -/
def TxP (Γ : Cx) (M : Nat → Option va_E) (t u r : Nat) (s : Ps) : Prop :=
  M t = some (.inr (10, [.int (nI u), .ref (t + 1), .ref (t + 3), .ref (t + 5), .ref r, .int (nI s.1), .int (bI s.2.1)])) ∧
  ∃ dn df, dn ≤ 50 ∧ M (t + 3) = some (.inr (6, [.ref (t + 4), .int (nI dn)])) ∧ M (t + 4) = aI Γ 50 df ∧ (s.2.1 = false → dn = s.2.2.1 ∧ ∀ j, j < dn → df j = enC (s.2.2.2 j))
theorem TxP.ad {Γ : Cx} {M : Nat → Option va_E} {t u r : Nat} {s : Ps} (h : TxP Γ M t u r s) : TxP Γ (va_up M t (some (.inr (10, [.int (nI u), .ref (t + 1), .ref (t + 3), .ref (t + 5), .ref r, .int (nI (s.1 + 1)), .int (bI s.2.1)])))) t u r (adF s) := by
  obtain ⟨h0, dn, df, l, h1, h2, h3⟩ := h
  exact ⟨up_eq, dn, df, l, (up_ne (by omega)).trans h1, (up_ne (by omega)).trans h2, h3⟩
theorem TxP.wr {Γ : Cx} {M : Nat → Option va_E} {t u r : Nat} {s : Ps} (h : TxP Γ M t u r s) : TxP Γ (va_up M t (some (.inr (10, [.int (nI u), .ref (t + 1), .ref (t + 3), .ref (t + 5), .ref r, .int (nI s.1), .int (bI true)])))) t u r (wrF s) := by
  obtain ⟨h0, dn, df, l, h1, h2, h3⟩ := h
  exact ⟨up_eq, dn, df, l, (up_ne (by omega)).trans h1, (up_ne (by omega)).trans h2, fun h9 => absurd h9 (by show ¬ true = false; decide)⟩
section TextRules
variable {Γ : Cx} {f : Md} {d b pc : Nat} {L : List (Option Value)} {st : List Value} {Q : Option Value → Wd → Prop} {t u r sz : Nat} {s : Ps} {M : Nat → Option va_E}
theorem ok_tad (hd : decode f.2.1 pc = .ok (.putfield 42, 3)) (hl : PLink f.1.cls 42 10 5 (tyX10 5)) (hT : TxP Γ M t u r s) (k : ∀ M', TxP Γ M' t u r (adF s) → OfT t M M' → Ok Γ f d b (pc + 3) L st (M', sz) Q) : Ok Γ f d b pc L (.int (nI s.1 + 1) :: .ref t :: st) (M, sz) Q := by
  refine ok_putf hd hl hT.1 rfl rfl (by show 5 < 7; decide) ?_
  have e9 : nI s.1 + 1 = nI (s.1 + 1) := nI_1 _
  rw [e9]
  exact k _ hT.ad (fun q g1 _ _ => up_ne g1)
theorem ok_twr (hd : decode f.2.1 pc = .ok (.putfield 45, 3)) (hl : PLink f.1.cls 45 10 6 (tyX10 6)) (hT : TxP Γ M t u r s) (k : ∀ M', TxP Γ M' t u r (wrF s) → OfT t M M' → Ok Γ f d b (pc + 3) L st (M', sz) Q) : Ok Γ f d b pc L (.int 1 :: .ref t :: st) (M, sz) Q := by
  refine ok_putf hd hl hT.1 rfl rfl (by show 6 < 7; decide) ?_
  exact k _ hT.wr (fun q g1 _ _ => up_ne g1)
end TextRules
theorem t_add {Γ : Cx} {t u r sz : Nat} {s : Ps} {M : Nat → Option va_E} {K : Int32 → Wd → Prop} {v c : Int32} (hT : TxP Γ M t u r s) (hn : s.2.1 = false → s.2.2.1 < 50) (hv : s.2.1 = false → v = enC c) (k : ∀ M' b9, TxP Γ M' t u r (emF s c) → OfT t M M' → K b9 (M', sz)) : Spec Γ mX6_add 0 0 [.ref (t + 3), .int v] (M, sz) (ci K) := by
  obtain ⟨h0, dn, df, l, h1, h2, h3⟩ := hT
  cases hw : s.2.1 with
  | true =>
    have e9 : emF s c = s := if_pos hw
    rw [e9] at k
    rcases Nat.lt_or_ge dn 50 with g | g
    · refine c_add h1 h2 (by omega) dn rfl g (by decide) (k _ _ ⟨(up_ne (by omega)).trans ((up_ne (by omega)).trans h0), dn + 1, _, by omega, up_eq, (up_ne (by omega)).trans up_eq, fun h9 => absurd h9 (by rw [hw]; decide)⟩ (fun q g1 g2 g3 => (up_ne g2).trans (up_ne g3)))
    · exact c_addF h1 h2 dn rfl g (by omega) (k _ _ ⟨h0, dn, df, l, h1, h2, h3⟩ OfT.rf)
  | false =>
    have e9 : emF s c = (s.1, s.2.1, s.2.2.1 + 1, upd s.2.2.2 s.2.2.1 c) := if_neg (by rw [hw]; decide)
    rw [e9] at k
    obtain ⟨e1, h4⟩ := h3 hw
    have hn := hn hw
    have hv := hv hw
    subst e1
    refine c_add h1 h2 (by omega) s.2.2.1 rfl hn (by decide) (k _ _ ⟨(up_ne (by omega)).trans ((up_ne (by omega)).trans h0), s.2.2.1 + 1, upd df s.2.2.1 v, by omega, up_eq, (up_ne (by omega)).trans up_eq, fun _ => ⟨rfl, fun j hj => ?_⟩⟩ (fun q g1 g2 g3 => (up_ne g2).trans (up_ne g3)))
    show upd df s.2.2.1 v j = enC (upd s.2.2.2 s.2.2.1 c j)
    by_cases c9 : j = s.2.2.1
    · rw [c9, upd_at, upd_at, hv]
    · rw [upd_ne c9, upd_ne c9]
      exact h4 j (by omega)

set_option maxHeartbeats 1000000 in
theorem t_next {Γ : Cx} {t u r tn sz : Nat} {σ : Rw} {s : Ps} {M : Nat → Option va_E} (e6 : σ 6 = nI tn) (ht : tn ≤ 50) (hs : s.1 ≤ tn) (hT : TxP Γ M t u r s) (hR : rwR Γ M r 50 (σ 6) (fun j => σ (195 + j))) {K : Int32 → Wd → Prop} (k : K (hdF σ s) (M, sz)) : Spec Γ mX10_next 1 0 [.ref t] (M, sz) (ci K) := by
  refine spec_in [some (.ref t)] 0 (by decide) rfl rfl ?_
  refine ok_aload_n (pc := 0) dX10_next_0 rfl ?_
  refine ok_getf (pc := 1) dX10_next_1 fl_X10_45 hT.1 rfl ?_
  refine ok_if_ne (pc := 4) 28 dX10_next_4 (by decide) (fun cc_4 => ?_) (fun cc_4 => ?_)
  · have hw9 : s.2.1 = true := bI_n0.mp cc_4
    refine ok_iconst (pc := 28) (v := -1) dX10_next_28 (by decide) ?_
    refine ok_goto (pc := 29) 43 dX10_next_29 (by decide) ?_
    refine ok_iret (pc := 43) dX10_next_43 rfl ?_
    first
      | (have e9 : hdF σ s = -1 := by unfold hdF; rw [if_pos hw9]
         rw [e9] at k
         exact k)
      | (have e9 : hdF σ s = σ (195 + s.1) := by unfold hdF; rw [if_neg (by rw [hw9]; decide), if_pos cc_25]
         rw [e9] at k
         rw [eft]
         exact k)
      | (have e9 : hdF σ s = -1 := by unfold hdF; rw [if_neg (by rw [hw9]; decide), if_neg cc_25]
         rw [e9] at k
         exact k)
  · have hw9 : s.2.1 = false := bI_0.mp cc_4
    refine ok_aload_n (pc := 7) dX10_next_7 rfl ?_
    refine ok_getf (pc := 8) dX10_next_8 fl_X10_39 hT.1 rfl ?_
    refine ok_ifnull (pc := 11) dX10_next_11 ?_
    refine ok_aload_n (pc := 14) dX10_next_14 rfl ?_
    refine ok_getf (pc := 15) dX10_next_15 fl_X10_42 hT.1 rfl ?_
    refine ok_aload_n (pc := 18) dX10_next_18 rfl ?_
    refine ok_getf (pc := 19) dX10_next_19 fl_X10_39 hT.1 rfl ?_
    refine ok_getf (pc := 22) dX10_next_22 fl_X10_56 hR.1 rfl ?_
    refine ok_icmp_lt (pc := 25) 32 dX10_next_25 (by decide) (fun cc_25 => ?_) (fun cc_25 => ?_)
    · have ce_25 := Int32.not_le.mpr cc_25
      have hlt9 : s.1 < tn := by have h9 := cc_25; rw [e6] at h9; exact (nI_ltI (by omega) (by omega)).mp h9
      refine ok_aload_n (pc := 32) dX10_next_32 rfl ?_
      refine ok_getf (pc := 33) dX10_next_33 fl_X10_39 hT.1 rfl ?_
      refine ok_aload_n (pc := 36) dX10_next_36 rfl ?_
      refine ok_getf (pc := 37) dX10_next_37 fl_X10_42 hT.1 rfl ?_
      refine ok_callVi1 (pc := 40) (d' := 0) dX10_next_40 vl_X10_59 hR.1 rfl rfl rfl (by decide) ?_
      obtain ⟨-, ft, ft1, ft2⟩ := id hR
      refine c_get hR.1 ft1 tn e6 ht (by decide) s.1 rfl hlt9 ?_
      have eft : ft s.1 = σ (195 + s.1) := ft2 _ (by rw [rw_in e6 (by omega)]; exact hlt9)
      refine ok_iret (pc := 43) dX10_next_43 rfl ?_
      first
        | (have e9 : hdF σ s = -1 := by unfold hdF; rw [if_pos hw9]
           rw [e9] at k
           exact k)
        | (have e9 : hdF σ s = σ (195 + s.1) := by unfold hdF; rw [if_neg (by rw [hw9]; decide), if_pos cc_25]
           rw [e9] at k
           rw [eft]
           exact k)
        | (have e9 : hdF σ s = -1 := by unfold hdF; rw [if_neg (by rw [hw9]; decide), if_neg cc_25]
           rw [e9] at k
           exact k)
    · have ce_25 := Int32.not_lt.mp cc_25
      refine ok_iconst (pc := 28) (v := -1) dX10_next_28 (by decide) ?_
      refine ok_goto (pc := 29) 43 dX10_next_29 (by decide) ?_
      refine ok_iret (pc := 43) dX10_next_43 rfl ?_
      first
        | (have e9 : hdF σ s = -1 := by unfold hdF; rw [if_pos hw9]
           rw [e9] at k
           exact k)
        | (have e9 : hdF σ s = σ (195 + s.1) := by unfold hdF; rw [if_neg (by rw [hw9]; decide), if_pos cc_25]
           rw [e9] at k
           rw [eft]
           exact k)
        | (have e9 : hdF σ s = -1 := by unfold hdF; rw [if_neg (by rw [hw9]; decide), if_neg cc_25]
           rw [e9] at k
           exact k)

set_option maxHeartbeats 1000000 in
theorem t_isDigit {Γ : Cx} {G : Wd} {K : Int32 → Wd → Prop} {x : Int32} (k : K (bI (wi x 48 57)) G) : Spec Γ mX10_isDigit 0 0 [.int x] G (ci K) := by
  refine spec_in [some (.int x)] 0 (by decide) rfl rfl ?_
  refine ok_iload_n (pc := 0) dX10_isDigit_0 rfl ?_
  refine ok_bipush (pc := 1) (v := 48) dX10_isDigit_1 (by decide) ?_
  refine ok_icmp_lt (pc := 3) 16 dX10_isDigit_3 (by decide) (fun cc_3 => ?_) (fun cc_3 => ?_)
  · have ce_3 := Int32.not_le.mpr cc_3
    refine ok_iconst (pc := 16) (v := 0) dX10_isDigit_16 (by decide) ?_
    refine ok_zret (pc := 17) dX10_isDigit_17 rfl rfl ?_
    first
      | (rw [wi_lo cc_3] at k; exact k)
      | (rw [wi_hi cc_9] at k; exact k)
      | (rw [wi_in (Int32.not_lt.mp cc_3) (Int32.not_lt.mp cc_9)] at k; exact k)
  · have ce_3 := Int32.not_lt.mp cc_3
    refine ok_iload_n (pc := 6) dX10_isDigit_6 rfl ?_
    refine ok_bipush (pc := 7) (v := 57) dX10_isDigit_7 (by decide) ?_
    refine ok_icmp_gt (pc := 9) 16 dX10_isDigit_9 (by decide) (fun cc_9 => ?_) (fun cc_9 => ?_)
    · have ce_9 := Int32.not_le.mpr cc_9
      refine ok_iconst (pc := 16) (v := 0) dX10_isDigit_16 (by decide) ?_
      refine ok_zret (pc := 17) dX10_isDigit_17 rfl rfl ?_
      first
        | (rw [wi_lo cc_3] at k; exact k)
        | (rw [wi_hi cc_9] at k; exact k)
        | (rw [wi_in (Int32.not_lt.mp cc_3) (Int32.not_lt.mp cc_9)] at k; exact k)
    · have ce_9 := Int32.not_lt.mp cc_9
      refine ok_iconst (pc := 12) (v := 1) dX10_isDigit_12 (by decide) ?_
      refine ok_goto (pc := 13) 17 dX10_isDigit_13 (by decide) ?_
      refine ok_zret (pc := 17) dX10_isDigit_17 rfl rfl ?_
      first
        | (rw [wi_lo cc_3] at k; exact k)
        | (rw [wi_hi cc_9] at k; exact k)
        | (rw [wi_in (Int32.not_lt.mp cc_3) (Int32.not_lt.mp cc_9)] at k; exact k)

set_option maxHeartbeats 1000000 in
theorem t_indexIn {Γ : Cx} {G : Wd} {K : Int32 → Wd → Prop} {i : Nat} (hi : i < 7) {x : Int32} (k : K (ixG i x) G) : Spec Γ mX10_indexIn 4 0 [.ref (sK Γ i), .int x] G (ci K) := by
  refine spec_in [some (.ref (sK Γ i)), some (.int x)] 0 (by decide) rfl rfl ?_
  refine ok_iload_n (pc := 0) dX10_indexIn_0 rfl ?_
  refine ok_if_ge (pc := 1) 8 dX10_indexIn_1 (by decide) (fun cc_1 => ?_) (fun cc_1 => ?_)
  · have ce_1 := Int32.not_lt.mpr cc_1
    refine ok_aload_n (pc := 8) dX10_indexIn_8 rfl ?_
    refine ok_iload_n (pc := 9) dX10_indexIn_9 rfl ?_
    refine ok_i2c (pc := 10) dX10_indexIn_10 ?_
    refine ok_callT1 (pc := 11) (d' := 3) hi rfl dX10_indexIn_11 vl_X10_73 rfl (by decide) ?_
    refine s_ix1 hi ?_
    refine ok_iret (pc := 14) dX10_indexIn_14 rfl ?_
    first
      | (rw [show ixG i x = ixS i (ji2c x) from if_neg (Int32.not_lt.mpr cc_1)] at k; exact k)
      | (rw [show ixG i x = -1 from if_pos (Int32.not_le.mp cc_1)] at k; exact k)
  · have ce_1 := Int32.not_le.mp cc_1
    refine ok_iconst (pc := 4) (v := -1) dX10_indexIn_4 (by decide) ?_
    refine ok_goto (pc := 5) 14 dX10_indexIn_5 (by decide) ?_
    refine ok_iret (pc := 14) dX10_indexIn_14 rfl ?_
    first
      | (rw [show ixG i x = ixS i (ji2c x) from if_neg (Int32.not_lt.mpr cc_1)] at k; exact k)
      | (rw [show ixG i x = -1 from if_pos (Int32.not_le.mp cc_1)] at k; exact k)

set_option maxHeartbeats 1000000 in
theorem t_signsOf {Γ : Cx} {G : Wd} {K : Option Nat → Wd → Prop} {x : Int32} (L : Nat) (ex : x = nI L) (hL : L < 5) (k : K (some (sK Γ (2 + L))) G) : Spec Γ mX10_signsOf 0 0 [.int x] G (cr K) := by
  refine spec_in [some (.int x)] 0 (by decide) rfl rfl ?_
  refine ok_iload_n (pc := 0) dX10_signsOf_0 rfl ?_
  by_cases sw1_0 : x = 0
  · refine ok_table (pc := 1) 32 dX10_signsOf_1 (by rw [sw1_0]; decide) (by rw [sw1_0]; decide) (by rw [sw1_0]; rfl) (by decide) ?_
    refine ok_ldcS (pc := 32) 12 dX10_signsOf_32 (List.mem_of_getElem? (i := 2) rfl) ?_
    refine ok_aret (r := some (Γ.2.2 12)) (pc := 34) dX10_signsOf_34 rfl (Or.inl ⟨_, rfl⟩) ?_
    have e9 : L = 0 := (nI_eq (by omega) (by decide)).mp (ex.symm.trans sw1_0)
    subst e9
    exact k
  by_cases sw1_1 : x = 1
  · refine ok_table (pc := 1) 35 dX10_signsOf_1 (by rw [sw1_1]; decide) (by rw [sw1_1]; decide) (by rw [sw1_1]; rfl) (by decide) ?_
    refine ok_ldcS (pc := 35) 13 dX10_signsOf_35 (List.mem_of_getElem? (i := 3) rfl) ?_
    refine ok_aret (r := some (Γ.2.2 13)) (pc := 37) dX10_signsOf_37 rfl (Or.inl ⟨_, rfl⟩) ?_
    have e9 : L = 1 := (nI_eq (by omega) (by decide)).mp (ex.symm.trans sw1_1)
    subst e9
    exact k
  by_cases sw1_2 : x = 2
  · refine ok_table (pc := 1) 38 dX10_signsOf_1 (by rw [sw1_2]; decide) (by rw [sw1_2]; decide) (by rw [sw1_2]; rfl) (by decide) ?_
    refine ok_ldcS (pc := 38) 14 dX10_signsOf_38 (List.mem_of_getElem? (i := 4) rfl) ?_
    refine ok_aret (r := some (Γ.2.2 14)) (pc := 40) dX10_signsOf_40 rfl (Or.inl ⟨_, rfl⟩) ?_
    have e9 : L = 2 := (nI_eq (by omega) (by decide)).mp (ex.symm.trans sw1_2)
    subst e9
    exact k
  by_cases sw1_3 : x = 3
  · refine ok_table (pc := 1) 41 dX10_signsOf_1 (by rw [sw1_3]; decide) (by rw [sw1_3]; decide) (by rw [sw1_3]; rfl) (by decide) ?_
    refine ok_ldcS (pc := 41) 15 dX10_signsOf_41 (List.mem_of_getElem? (i := 5) rfl) ?_
    refine ok_aret (r := some (Γ.2.2 15)) (pc := 43) dX10_signsOf_43 rfl (Or.inl ⟨_, rfl⟩) ?_
    have e9 : L = 3 := (nI_eq (by omega) (by decide)).mp (ex.symm.trans sw1_3)
    subst e9
    exact k
  refine ok_tableOut (pc := 1) 44 dX10_signsOf_1 (by have h := tab_out (0) 4 (by decide) (by decide) (fun j hj => by match j, hj with | 0, _ => exact (fun h => sw1_0 (h.trans (by decide))) | 1, _ => exact (fun h => sw1_1 (h.trans (by decide))) | 2, _ => exact (fun h => sw1_2 (h.trans (by decide))) | 3, _ => exact (fun h => sw1_3 (h.trans (by decide)))); exact h) (by decide) ?_
  refine ok_ldcS (pc := 44) 16 dX10_signsOf_44 (List.mem_of_getElem? (i := 6) rfl) ?_
  refine ok_aret (r := some (Γ.2.2 16)) (pc := 46) dX10_signsOf_46 rfl (Or.inl ⟨_, rfl⟩) ?_
  have e9 : L = 4 := by
    rcases (show L = 0 ∨ L = 1 ∨ L = 2 ∨ L = 3 ∨ L = 4 by omega) with g | g | g | g | g <;> rw [g] at ex
    · exact absurd ex sw1_0
    · exact absurd ex sw1_1
    · exact absurd ex sw1_2
    · exact absurd ex sw1_3
    · exact g
  subst e9
  exact k

set_option maxHeartbeats 1000000 in
theorem lt_num {Γ : Cx} {t u r tn sz : Nat} {σ : Rw} {M0 : Nat → Option va_E} {K : Wd → Prop} (e6 : σ 6 = nI tn) (ht : tn ≤ 50) (hrt : r + 2 ≤ t) (R9 : Int32 × Ps) (hv9 : enC R9.1 = R9.1) (h50 : R9.2.2.1 = false → R9.2.2.2.1 < 50) (k : ∀ M', TxP Γ M' t u r (emF R9.2 R9.1) → OfT t M0 M' → K (M', sz)) : ∀ (n : Nat) (j : Nat) (s : Ps) (v : Int32) (xj : Int32) (M : Nat → Option va_E), j + n = 4 → xj = nI j → s.1 ≤ tn → TxP Γ M t u r s → rwR Γ M r 50 (σ 6) (fun j => σ (195 + j)) → OfT t M0 M → dgF σ n v s = R9 → Ok Γ mX10_readNumber 2 0 4 [some (.ref t), some (.int v), some (.int xj)] [] (M, sz) (cv K) := by
  intro n
  induction n with
  | zero =>
    intro j s v xj M h1 ej hs hT hR hO hA
    refine ok_iload_n (pc := 4) dX10_readNumber_4 rfl ?_
    refine ok_iconst (pc := 5) (v := 4) dX10_readNumber_5 (by decide) ?_
    refine ok_icmp_ge (pc := 6) 48 dX10_readNumber_6 (by decide) (fun cc_6 => ?_) (fun cc_6 => ?_)
    · have ce_6 := Int32.not_lt.mpr cc_6
      have hA9 : (v, s) = R9 := hA
      refine ok_aload_n (pc := 48) dX10_readNumber_48 rfl ?_
      obtain ⟨-, dn9, df9, -, hdr, -, -⟩ := id hT
      refine ok_getf (pc := 49) dX10_readNumber_49 fl_X10_20 hT.1 rfl ?_
      refine ok_iload_n (pc := 52) dX10_readNumber_52 rfl ?_
      refine ok_callVi1 (pc := 53) (d' := 0) dX10_readNumber_53 vl_X10_31 hdr rfl rfl rfl (by decide) ?_
      refine t_add (c := v) hT (fun h9 => by rw [← hA9] at h50; exact h50 h9) (fun _ => by rw [← hA9] at hv9; exact hv9.symm) (fun M b9 hT hO2 => ?_)
      have hO := hO.tr hO2
      refine ok_pop (pc := 56) dX10_readNumber_56 rfl ?_
      refine ok_vret (pc := 57) dX10_readNumber_57 rfl ?_
      rw [← hA9] at k
      exact k _ hT hO
    · exact absurd (by rw [ej]; exact nI_le (a := 4) (by omega) (by omega)) cc_6
  | succ n ih =>
    intro j s v xj M h1 ej hs hT hR hO hA
    refine ok_iload_n (pc := 4) dX10_readNumber_4 rfl ?_
    refine ok_iconst (pc := 5) (v := 4) dX10_readNumber_5 (by decide) ?_
    refine ok_icmp_ge (pc := 6) 48 dX10_readNumber_6 (by decide) (fun cc_6 => ?_) (fun cc_6 => ?_)
    · rw [ej] at cc_6
      exact absurd cc_6 (nI_ge (b := 4) (by omega) (by decide))
    · have ce_6 := Int32.not_le.mp cc_6
      refine ok_aload_n (pc := 9) dX10_readNumber_9 rfl ?_
      refine ok_callVi0 (pc := 10) (d' := 1) dX10_readNumber_10 vl_X10_85 hT.1 rfl rfl rfl (by decide) ?_
      refine t_next e6 ht hs hT hR ?_
      refine ok_callSi1 (pc := 13) (d' := 0) dX10_readNumber_13 sl_X10_97 rfl (by decide) ?_
      refine t_isDigit ?_
      refine ok_if_eq (pc := 16) 48 dX10_readNumber_16 (by decide) (fun cc_16 => ?_) (fun cc_16 => ?_)
      · have cq_16 := bI_0.mp cc_16
        have hA9 : (v, s) = R9 := by rw [← hA]; exact (if_neg (by rw [cq_16]; decide)).symm
        refine ok_aload_n (pc := 48) dX10_readNumber_48 rfl ?_
        obtain ⟨-, dn9, df9, -, hdr, -, -⟩ := id hT
        refine ok_getf (pc := 49) dX10_readNumber_49 fl_X10_20 hT.1 rfl ?_
        refine ok_iload_n (pc := 52) dX10_readNumber_52 rfl ?_
        refine ok_callVi1 (pc := 53) (d' := 0) dX10_readNumber_53 vl_X10_31 hdr rfl rfl rfl (by decide) ?_
        refine t_add (c := v) hT (fun h9 => by rw [← hA9] at h50; exact h50 h9) (fun _ => by rw [← hA9] at hv9; exact hv9.symm) (fun M b9 hT hO2 => ?_)
        have hO := hO.tr hO2
        refine ok_pop (pc := 56) dX10_readNumber_56 rfl ?_
        refine ok_vret (pc := 57) dX10_readNumber_57 rfl ?_
        rw [← hA9] at k
        exact k _ hT hO
      · have cq_16 := bI_n0.mp cc_16
        have hA9 : dgF σ n (10 * v + hdF σ s - 48) (adF s) = R9 := by rw [← hA]; exact (if_pos cq_16).symm
        obtain ⟨-, hlt, -⟩ := hd_in e6 ht hs (wi_pos cq_16)
        refine ok_bipush (pc := 19) (v := 10) dX10_readNumber_19 (by decide) ?_
        refine ok_iload_n (pc := 21) dX10_readNumber_21 rfl ?_
        refine ok_imul (pc := 22) dX10_readNumber_22 ?_
        refine ok_aload_n (pc := 23) dX10_readNumber_23 rfl ?_
        refine ok_callVi0 (pc := 24) (d' := 1) dX10_readNumber_24 vl_X10_85 hT.1 rfl rfl rfl (by decide) ?_
        refine t_next e6 ht hs hT hR ?_
        refine ok_iadd (pc := 27) dX10_readNumber_27 ?_
        refine ok_bipush (pc := 28) (v := 48) dX10_readNumber_28 (by decide) ?_
        refine ok_isub (pc := 30) dX10_readNumber_30 ?_
        refine ok_istore_n1 (pc := 31) dX10_readNumber_31 (by decide) rfl ?_
        refine ok_aload_n (pc := 32) dX10_readNumber_32 rfl ?_
        refine ok_dup (pc := 33) dX10_readNumber_33 rfl ?_
        refine ok_getf (pc := 34) dX10_readNumber_34 fl_X10_42 hT.1 rfl ?_
        refine ok_iconst (pc := 37) (v := 1) dX10_readNumber_37 (by decide) ?_
        refine ok_iadd (pc := 38) dX10_readNumber_38 ?_
        refine ok_tad (pc := 39) dX10_readNumber_39 pl_X10_42 hT (fun M hT hO2 => ?_)
        have hR := hR.tr (hO2 _ (by omega) (by omega) (by omega)) (hO2 _ (by omega) (by omega) (by omega)) rfl (fun _ _ => rfl)
        have hO := hO.tr hO2
        refine ok_iinc2 (pc := 42) (v := 1) dX10_readNumber_42 (by decide) (by decide) rfl ?_
        refine ok_goto (pc := 45) 4 dX10_readNumber_45 (by decide) ?_
        exact ih (j + 1) (adF s) _ _ _ (by omega) (by rw [ej, nI_1]) hlt hT hR hO hA9

set_option maxHeartbeats 1000000 in
theorem t_number {Γ : Cx} {t u r tn sz : Nat} {σ : Rw} {s : Ps} {M : Nat → Option va_E} (e6 : σ 6 = nI tn) (ht : tn ≤ 50) (hs : s.1 ≤ tn) (hT : TxP Γ M t u r s) (hR : rwR Γ M r 50 (σ 6) (fun j => σ (195 + j))) (hrt : r + 2 ≤ t) {K : Wd → Prop} (h50 : s.2.1 = false → s.2.2.1 < 50) (k : ∀ M', TxP Γ M' t u r (emF (dgF σ 4 0 s).2 (dgF σ 4 0 s).1) → OfT t M M' → K (M', sz)) : Spec Γ mX10_readNumber 2 0 [.ref t] (M, sz) (cv K) := by
  refine spec_in [some (.ref t), none, none] 2 (by decide) rfl rfl ?_
  refine ok_iconst (pc := 0) (v := 0) dX10_readNumber_0 (by decide) ?_
  refine ok_istore_n1 (pc := 1) dX10_readNumber_1 (by decide) rfl ?_
  refine ok_iconst (pc := 2) (v := 0) dX10_readNumber_2 (by decide) ?_
  refine ok_istore_n2 (pc := 3) dX10_readNumber_3 (by decide) rfl ?_
  obtain ⟨m, em, lm⟩ := dg_val (σ := σ) 4 0 s (Nat.le_refl _) (by decide)
  have em : (dgF σ 4 0 s).1 = nI m := em
  obtain ⟨-, -, g3⟩ := dg_ok e6 ht 4 0 s hs
  exact lt_num e6 ht hrt (dgF σ 4 0 s) (by rw [em]; exact en_num lm) (by rw [g3]; exact h50) k 4 0 s 0 _ M (by omega) rfl hs hT hR OfT.rf rfl

set_option maxHeartbeats 1000000 in
theorem t_closing {Γ : Cx} {t u r tn sz : Nat} {σ : Rw} {s : Ps} {M : Nat → Option va_E} (e6 : σ 6 = nI tn) (ht : tn ≤ 50) (hs : s.1 ≤ tn) (hT : TxP Γ M t u r s) (hR : rwR Γ M r 50 (σ 6) (fun j => σ (195 + j))) (hrt : r + 2 ≤ t) {K : Wd → Prop} (k : ∀ M', TxP Γ M' t u r (clF σ s) → OfT t M M' → K (M', sz)) : Spec Γ mX10_readClosing 2 0 [.ref t] (M, sz) (cv K) := by
  have hO : OfT t M M := OfT.rf
  refine spec_in [some (.ref t)] 0 (by decide) rfl rfl ?_
  refine ok_aload_n (pc := 0) dX10_readClosing_0 rfl ?_
  refine ok_callVi0 (pc := 1) (d' := 1) dX10_readClosing_1 vl_X10_85 hT.1 rfl rfl rfl (by decide) ?_
  refine t_next e6 ht hs hT hR ?_
  refine ok_bipush (pc := 4) (v := 41) dX10_readClosing_4 (by decide) ?_
  refine ok_icmp_ne (pc := 6) 22 dX10_readClosing_6 (by decide) (fun cc_6 => ?_) (fun cc_6 => ?_)
  · refine ok_aload_n (pc := 22) dX10_readClosing_22 rfl ?_
    refine ok_iconst (pc := 23) (v := 1) dX10_readClosing_23 (by decide) ?_
    refine ok_twr (pc := 24) dX10_readClosing_24 pl_X10_45 hT (fun M hT hO2 => ?_)
    have hR := hR.tr (hO2 _ (by omega) (by omega) (by omega)) (hO2 _ (by omega) (by omega) (by omega)) rfl (fun _ _ => rfl)
    have hO := hO.tr hO2
    refine ok_vret (pc := 27) dX10_readClosing_27 rfl ?_
    first
      | (rw [show clF σ s = adF s from if_pos cc_6] at k; exact k _ hT hO)
      | (rw [show clF σ s = wrF s from if_neg cc_6] at k; exact k _ hT hO)
  · refine ok_aload_n (pc := 9) dX10_readClosing_9 rfl ?_
    refine ok_dup (pc := 10) dX10_readClosing_10 rfl ?_
    refine ok_getf (pc := 11) dX10_readClosing_11 fl_X10_42 hT.1 rfl ?_
    refine ok_iconst (pc := 14) (v := 1) dX10_readClosing_14 (by decide) ?_
    refine ok_iadd (pc := 15) dX10_readClosing_15 ?_
    refine ok_tad (pc := 16) dX10_readClosing_16 pl_X10_42 hT (fun M hT hO2 => ?_)
    have hR := hR.tr (hO2 _ (by omega) (by omega) (by omega)) (hO2 _ (by omega) (by omega) (by omega)) rfl (fun _ _ => rfl)
    have hO := hO.tr hO2
    refine ok_goto (pc := 19) 27 dX10_readClosing_19 (by decide) ?_
    refine ok_vret (pc := 27) dX10_readClosing_27 rfl ?_
    first
      | (rw [show clF σ s = adF s from if_pos cc_6] at k; exact k _ hT hO)
      | (rw [show clF σ s = wrF s from if_neg cc_6] at k; exact k _ hT hO)

/-- a reader's contract -/
def HC (Γ : Cx) (t u r tn sz : Nat) (σ : Rw) (g : Md) (d : Nat) (av : List Value) (q : Ps → Ps) : Prop :=
  ∀ (s : Ps) (M : Nat → Option va_E) (K : Wd → Prop), s.1 ≤ tn → s.2.2.1 ≤ s.1 → TxP Γ M t u r s → rwR Γ M r 50 (σ 6) (fun j => σ (195 + j)) → (∀ M', TxP Γ M' t u r (q s) → OfT t M M' → K (M', sz)) → Spec Γ g d 0 (.ref t :: av) (M, sz) (cv K)

set_option maxHeartbeats 1000000 in
theorem lt_lev {Γ : Cx} {t u r tn sz : Nat} {σ : Rw} (e6 : σ 6 = nI tn) (ht : tn ≤ 50) (hB : InvB σ) (hrt : r + 2 ≤ t) {d9 : Nat} {q : Ps → Ps} {xL xo xm : Int32} (hd4 : 3 ≤ d9) (L mx : Nat) (eL : xL = nI L) (hL : L < 5) (hq : HC Γ t u r tn sz σ mX10_readLevel d9 [.int (xL + 1), .int xo] q) (hm : MqP tn q) (em : xm = nI mx) (hmx : mx ≤ 50) {M0 : Nat → Option va_E} {K : Wd → Prop} (S9 : Ps) (k : ∀ M', TxP Γ M' t u r S9 → OfT t M0 M' → K (M', sz)) : ∀ (n : Nat) (j : Nat) (s0 : Ps) (xj : Int32) (l6 : Option Value) (M : Nat → Option va_E), j + n = mx → xj = nI j → s0.1 ≤ tn → s0.2.2.1 ≤ s0.1 → TxP Γ M t u r s0 → rwR Γ M r 50 (σ 6) (fun j => σ (195 + j)) → OfT t M0 M → lpF σ L q n s0 = S9 → Ok Γ mX10_readLevel (d9 + 2) 0 40 [some (.ref t), some (.int xL), some (.int xo), some (.ref (sK Γ (2 + L))), some (.int xm), some (.int xj), l6] [] (M, sz) (cv K) := by
  intro n
  induction n with
  | zero =>
    intro j s0 xj l6 M h1 ej hs hc hT hR hO hA
    refine ok_iload (pc := 40) dX10_readLevel_40 rfl ?_
    refine ok_iload (pc := 42) dX10_readLevel_42 rfl ?_
    refine ok_icmp_ge (pc := 44) 99 dX10_readLevel_44 (by decide) (fun cc_44 => ?_) (fun cc_44 => ?_)
    · have ce_44 := Int32.not_lt.mpr cc_44
      have hA9 : s0 = S9 := hA
      refine ok_vret (pc := 99) dX10_readLevel_99 rfl ?_
      rw [← hA9] at k
      exact k _ hT hO
    · exact absurd (by rw [em, ej]; exact nI_le (by omega) (by omega)) cc_44
  | succ n ih =>
    intro j s0 xj l6 M h1 ej hs hc hT hR hO hA
    refine ok_iload (pc := 40) dX10_readLevel_40 rfl ?_
    refine ok_iload (pc := 42) dX10_readLevel_42 rfl ?_
    refine ok_icmp_ge (pc := 44) 99 dX10_readLevel_44 (by decide) (fun cc_44 => ?_) (fun cc_44 => ?_)
    · rw [em, ej] at cc_44
      exact absurd cc_44 (nI_ge (by omega) (by omega))
    · have ce_44 := Int32.not_le.mp cc_44
      refine ok_aload_n (pc := 47) dX10_readLevel_47 rfl ?_
      refine ok_aload_n (pc := 48) dX10_readLevel_48 rfl ?_
      refine ok_callVi0 (pc := 49) (d' := 1) dX10_readLevel_49 vl_X10_85 hT.1 rfl rfl rfl (by omega) ?_
      refine t_next e6 ht hs hT hR ?_
      refine ok_callSi2 (pc := 52) (d' := 4) dX10_readLevel_52 sl_X10_89 rfl (by omega) ?_
      refine t_indexIn (by omega) ?_
      obtain ⟨g1, g2⟩ := sg_ok hL (hd_ch hB (s := s0) (by omega))
      refine ok_if_lt (pc := 55) 99 dX10_readLevel_55 (by decide) (fun cc_55 => ?_) (fun cc_55 => ?_)
      · have ce_55 := Int32.not_le.mpr cc_55
        have hA9 : s0 = S9 := by rw [← hA]; exact (if_neg (g1.mp cc_55)).symm
        refine ok_vret (pc := 99) dX10_readLevel_99 rfl ?_
        rw [← hA9] at k
        exact k _ hT hO
      · have ce_55 := Int32.not_lt.mp cc_55
        have hop : 0 < opC L (hdF σ s0) := Classical.not_not.mp (fun h9 => cc_55 (g1.mpr h9))
        obtain ⟨-, hlt, -⟩ := hd_in e6 ht hs (opC_pos hop)
        obtain ⟨m1, m2⟩ := Mn.op hm (c := opC L (hdF σ s0)) hlt
        have hA9 : lpF σ L q n (emF (q (adF s0)) (opC L (hdF σ s0))) = S9 := by rw [← hA]; exact (if_pos hop).symm
        refine ok_aload_n (pc := 58) dX10_readLevel_58 rfl ?_
        refine ok_callVi0 (pc := 59) (d' := 1) dX10_readLevel_59 vl_X10_85 hT.1 rfl rfl rfl (by omega) ?_
        refine t_next e6 ht hs hT hR ?_
        refine ok_istore6 (pc := 62) dX10_readLevel_62 (by decide) rfl ?_
        refine ok_aload_n (pc := 64) dX10_readLevel_64 rfl ?_
        refine ok_dup (pc := 65) dX10_readLevel_65 rfl ?_
        refine ok_getf (pc := 66) dX10_readLevel_66 fl_X10_42 hT.1 rfl ?_
        refine ok_iconst (pc := 69) (v := 1) dX10_readLevel_69 (by decide) ?_
        refine ok_iadd (pc := 70) dX10_readLevel_70 ?_
        refine ok_tad (pc := 71) dX10_readLevel_71 pl_X10_42 hT (fun M hT hO2 => ?_)
        have hR := hR.tr (hO2 _ (by omega) (by omega) (by omega)) (hO2 _ (by omega) (by omega) (by omega)) rfl (fun _ _ => rfl)
        have hO := hO.tr hO2
        refine ok_aload_n (pc := 74) dX10_readLevel_74 rfl ?_
        refine ok_iload_n (pc := 75) dX10_readLevel_75 rfl ?_
        refine ok_iconst (pc := 76) (v := 1) dX10_readLevel_76 (by decide) ?_
        refine ok_iadd (pc := 77) dX10_readLevel_77 ?_
        refine ok_iload_n (pc := 78) dX10_readLevel_78 rfl ?_
        refine ok_callVv2 (pc := 79) (d' := d9) dX10_readLevel_79 vl_X10_52 hT.1 rfl rfl rfl (by omega) ?_
        refine hq (adF s0) _ _ hlt (Nat.le_succ_of_le hc) hT hR (fun M hT hO2 => ?_)
        have hR := hR.tr (hO2 _ (by omega) (by omega) (by omega)) (hO2 _ (by omega) (by omega) (by omega)) rfl (fun _ _ => rfl)
        have hO := hO.tr hO2
        refine ok_aload_n (pc := 82) dX10_readLevel_82 rfl ?_
        obtain ⟨-, dn9, df9, -, hdr, -, -⟩ := id hT
        refine ok_getf (pc := 83) dX10_readLevel_83 fl_X10_20 hT.1 rfl ?_
        refine ok_iload (pc := 86) dX10_readLevel_86 rfl ?_
        refine ok_ineg (pc := 88) dX10_readLevel_88 ?_
        refine ok_callVi1 (pc := 89) (d' := 0) dX10_readLevel_89 vl_X10_31 hdr rfl rfl rfl (by omega) ?_
        refine t_add (c := opC L (hdF σ s0)) hT (fun _ => by have h9 := (hm (adF s0) hlt).cd (Nat.le_succ_of_le hc); have h8 := (hm (adF s0) hlt).2.1; have h7 := (hm (adF s0) hlt).2.2; have e1 : (adF s0).1 = s0.1 + 1 := rfl; have e2 : (adF s0).2.2.1 = s0.2.2.1 := rfl; omega) (fun _ => (g2 hop).symm) (fun M b9 hT hO2 => ?_)
        have hR := hR.tr (hO2 _ (by omega) (by omega) (by omega)) (hO2 _ (by omega) (by omega) (by omega)) rfl (fun _ _ => rfl)
        have hO := hO.tr hO2
        refine ok_pop (pc := 92) dX10_readLevel_92 rfl ?_
        refine ok_iinc5 (pc := 93) (v := 1) dX10_readLevel_93 (by decide) (by decide) rfl ?_
        refine ok_goto (pc := 96) 40 dX10_readLevel_96 (by decide) ?_
        exact ih (j + 1) (emF (q (adF s0)) (opC L (hdF σ s0))) _ _ _ (by omega) (by rw [ej, nI_1]) m1.2.2 (m1.cd hc) hT hR hO hA9

set_option maxHeartbeats 1000000 in
theorem t_level {Γ : Cx} {t u r tn sz : Nat} {σ : Rw} (e6 : σ 6 = nI tn) (ht : tn ≤ 50) (hB : InvB σ) (hrt : r + 2 ≤ t) {dP : Nat} {q : Ps → Ps} {xo : Int32} (hd5 : 5 ≤ dP) (hq : HC Γ t u r tn sz σ mX10_readPart dP [.int xo] q) (hm : MqP tn q) : ∀ j, j ≤ 5 → HC Γ t u r tn sz σ mX10_readLevel (dP + 1 + 2 * j) [.int (nI (5 - j)), .int xo] (lvG σ q j) := by
  intro j
  induction j with
  | zero =>
    intro _ s M K hs hc hT hR k
    refine spec_in [some (.ref t), some (.int (nI (5 - 0))), some (.int xo), none, none, none, none] 4 (by decide) rfl rfl ?_
    refine ok_iload_n (pc := 0) dX10_readLevel_0 rfl ?_
    refine ok_iconst (pc := 1) (v := 5) dX10_readLevel_1 (by decide) ?_
    refine ok_icmp_lt (pc := 2) 11 dX10_readLevel_2 (by decide) (fun cc_2 => ?_) (fun cc_2 => ?_)
    · exact absurd cc_2 (by decide)
    · have ce_2 := Int32.not_lt.mp cc_2
      refine ok_aload_n (pc := 5) dX10_readLevel_5 rfl ?_
      refine ok_iload_n (pc := 6) dX10_readLevel_6 rfl ?_
      refine ok_callVv1 (pc := 7) (d' := dP) dX10_readLevel_7 vl_X10_78 hT.1 rfl rfl rfl (by omega) ?_
      refine hq s _ _ hs hc hT hR (fun M9 hT9 hO9 => ?_)
      refine ok_vret (pc := 10) dX10_readLevel_10 rfl ?_
      exact k _ hT9 hO9
  | succ j ih =>
    intro hj s M K hs hc hT hR k
    have ihq := ih (by omega)
    have mj := Mn.lv e6 ht hm j
    have m1 := mj s hs
    have hO : OfT t M M := OfT.rf
    have exL : nI (5 - (j + 1)) + 1 = nI (5 - j) := by rw [nI_1]; congr 1; omega
    rw [← exL] at ihq
    have e5 : (5 - (j + 1)) = 4 - j := by omega
    refine spec_in [some (.ref t), some (.int (nI (5 - (j + 1)))), some (.int xo), none, none, none, none] 4 (by decide) rfl rfl ?_
    refine ok_iload_n (pc := 0) dX10_readLevel_0 rfl ?_
    refine ok_iconst (pc := 1) (v := 5) dX10_readLevel_1 (by decide) ?_
    refine ok_icmp_lt (pc := 2) 11 dX10_readLevel_2 (by decide) (fun cc_2 => ?_) (fun cc_2 => ?_)
    · have ce_2 := Int32.not_le.mpr cc_2
      refine ok_aload_n (pc := 11) dX10_readLevel_11 rfl ?_
      refine ok_iload_n (pc := 12) dX10_readLevel_12 rfl ?_
      refine ok_iconst (pc := 13) (v := 1) dX10_readLevel_13 (by decide) ?_
      refine ok_iadd (pc := 14) dX10_readLevel_14 ?_
      refine ok_iload_n (pc := 15) dX10_readLevel_15 rfl ?_
      refine ok_callVv2 (pc := 16) (d' := (dP + 1 + 2 * j)) dX10_readLevel_16 vl_X10_52 hT.1 rfl rfl rfl (by omega) ?_
      refine ihq s _ _ hs hc hT hR (fun M hT hO2 => ?_)
      have hR := hR.tr (hO2 _ (by omega) (by omega) (by omega)) (hO2 _ (by omega) (by omega) (by omega)) rfl (fun _ _ => rfl)
      have hO := hO.tr hO2
      refine ok_iload_n (pc := 19) dX10_readLevel_19 rfl ?_
      refine ok_callSr1 (pc := 20) (d' := 0) dX10_readLevel_20 sl_X10_81 rfl (by omega) ?_
      refine t_signsOf (5 - (j + 1)) rfl (by omega) ?_
      refine ok_astore_n3 (pc := 23) dX10_readLevel_23 (by decide) rfl ?_
      refine ok_iload_n (pc := 24) dX10_readLevel_24 rfl ?_
      refine ok_iconst (pc := 25) (v := 2) dX10_readLevel_25 (by decide) ?_
      refine ok_icmp_ne (pc := 26) 33 dX10_readLevel_26 (by decide) (fun cc_26 => ?_) (fun cc_26 => ?_)
      · have hj2 : ¬ j = 2 := fun h => cc_26 (by rw [h]; rfl)
        refine ok_bipush (pc := 33) (v := 50) dX10_readLevel_33 (by decide) ?_
        refine ok_istore4 (pc := 35) dX10_readLevel_35 (by decide) rfl ?_
        refine ok_iconst (pc := 37) (v := 0) dX10_readLevel_37 (by decide) ?_
        refine ok_istore5 (pc := 38) dX10_readLevel_38 (by decide) rfl ?_
        first
          | (have k9 := k
             have e9 : lvG σ q (j + 1) s = lpF σ (4 - j) (lvG σ q j) 50 (lvG σ q j s) := by
               show lpF σ (4 - j) (lvG σ q j) (if j = 2 then 1 else 50) (lvG σ q j s) = _
               rw [if_neg hj2]
             rw [e9] at k9
             exact lt_lev e6 ht hB hrt (d9 := dP + 1 + 2 * j) (by omega) (5 - (j + 1)) 50 rfl (by omega) ihq mj rfl (by decide) _ k9 50 0 (lvG σ q j s) _ _ M (by omega) rfl m1.2.2 (m1.cd hc) hT hR hO (by rw [e5]))
          | (have k9 := k
             have e9 : lvG σ q (j + 1) s = lpF σ (4 - j) (lvG σ q j) 1 (lvG σ q j s) := by
               show lpF σ (4 - j) (lvG σ q j) (if j = 2 then 1 else 50) (lvG σ q j s) = _
               rw [if_pos hj2]
             rw [e9] at k9
             exact lt_lev e6 ht hB hrt (d9 := dP + 1 + 2 * j) (by omega) (5 - (j + 1)) 1 rfl (by omega) ihq mj rfl (by decide) _ k9 1 0 (lvG σ q j s) _ _ M (by omega) rfl m1.2.2 (m1.cd hc) hT hR hO (by rw [e5]))
      · have hj2 : j = 2 := by
          have h9 := (nI_eq (b := 2) (by omega) (by decide)).mp cc_26
          omega
        refine ok_iconst (pc := 29) (v := 1) dX10_readLevel_29 (by decide) ?_
        refine ok_goto (pc := 30) 35 dX10_readLevel_30 (by decide) ?_
        refine ok_istore4 (pc := 35) dX10_readLevel_35 (by decide) rfl ?_
        refine ok_iconst (pc := 37) (v := 0) dX10_readLevel_37 (by decide) ?_
        refine ok_istore5 (pc := 38) dX10_readLevel_38 (by decide) rfl ?_
        first
          | (have k9 := k
             have e9 : lvG σ q (j + 1) s = lpF σ (4 - j) (lvG σ q j) 50 (lvG σ q j s) := by
               show lpF σ (4 - j) (lvG σ q j) (if j = 2 then 1 else 50) (lvG σ q j s) = _
               rw [if_neg hj2]
             rw [e9] at k9
             exact lt_lev e6 ht hB hrt (d9 := dP + 1 + 2 * j) (by omega) (5 - (j + 1)) 50 rfl (by omega) ihq mj rfl (by decide) _ k9 50 0 (lvG σ q j s) _ _ M (by omega) rfl m1.2.2 (m1.cd hc) hT hR hO (by rw [e5]))
          | (have k9 := k
             have e9 : lvG σ q (j + 1) s = lpF σ (4 - j) (lvG σ q j) 1 (lvG σ q j s) := by
               show lpF σ (4 - j) (lvG σ q j) (if j = 2 then 1 else 50) (lvG σ q j s) = _
               rw [if_pos hj2]
             rw [e9] at k9
             exact lt_lev e6 ht hB hrt (d9 := dP + 1 + 2 * j) (by omega) (5 - (j + 1)) 1 rfl (by omega) ihq mj rfl (by decide) _ k9 1 0 (lvG σ q j s) _ _ M (by omega) rfl m1.2.2 (m1.cd hc) hT hR hO (by rw [e5]))
    · exact absurd (nI_lt (b := 5) (show 5 - (j + 1) < 5 by omega) (by decide)) cc_2
