theorem short_small {n : Nat} (h : n < 128) : (nI n).toInt16.toInt32 = nI n := by
  have : ∀ j : Fin 128, (nI j.val).toInt16.toInt32 = nI j.val := by decide +kernel
  exact this ⟨n, h⟩
/-- numbers of a sheet as the reference keeps them -/
def InvT (s : Sh) : Prop := ∀ q, q < 4 → ∀ j, j < 40 → cutF (s.1 q) (s.2.2 (40 * q + j)) = s.2.2 (40 * q + j)
theorem mk_wi {b v : Int32} (hb : isB b = true) (h0 : b ≠ 0) (hv : cutF b v = v) : wi (mkV b v) 0 79 = wi v 0 79 ∧ (wi v 0 79 = true → mkV b v = v) := by
  unfold isB at hb
  rw [Bool.or_eq_true, Bool.or_eq_true, Bool.or_eq_true] at hb
  rcases hb with ((h | h) | h) | h
  · exact absurd (of_decide_eq_true h) h0
  · have e8 := of_decide_eq_true h
    subst e8
    have em : mkV 8 v = v &&& 255 := by
      unfold mkV
      rw [if_neg (by decide), show (jshl 1 8 - 1 : Int32) = 255 from by decide]
    have hv9 : v.toInt8.toInt32 = v := hv
    rw [em]
    have key : wi (v &&& 255) 0 79 = true → v &&& 255 = v := fun g => by
      obtain ⟨g1, -, g3⟩ := wi_lit (a := 0) (c := 79) rfl rfl (by decide) (by decide) g
      have e9 : v.toInt8.toInt32 = v &&& 255 := by
        rw [← fa_byte_low v]
        rw [g1]
        exact fa_byte_small (by omega)
      exact e9.symm.trans hv9
    have key2 : wi v 0 79 = true → v &&& 255 = v := fun g => by
      obtain ⟨g1, -, g3⟩ := wi_lit (a := 0) (c := 79) rfl rfl (by decide) (by decide) g
      rw [g1]
      refine (fa_mask (iN v) 8).trans ?_
      rw [Nat.mod_eq_of_lt (by omega)]
    refine ⟨?_, key2⟩
    cases c1 : wi v 0 79 with
    | true => rw [key2 c1]; exact c1
    | false =>
      cases c2 : wi (v &&& 255) 0 79 with
      | false => rfl
      | true => rw [key c2, c1] at c2; exact c2.symm
  · have e8 := of_decide_eq_true h
    subst e8
    have em : mkV 16 v = v &&& 65535 := by
      unfold mkV
      rw [if_neg (by decide), show (jshl 1 16 - 1 : Int32) = 65535 from by decide]
    have hv9 : v.toInt16.toInt32 = v := hv
    rw [em]
    have key : wi (v &&& 65535) 0 79 = true → v &&& 65535 = v := fun g => by
      obtain ⟨g1, -, g3⟩ := wi_lit (a := 0) (c := 79) rfl rfl (by decide) (by decide) g
      have e9 : v.toInt16.toInt32 = v &&& 65535 := by
        rw [← fa_short_low v]
        rw [g1]
        exact short_small (by omega)
      exact e9.symm.trans hv9
    have key2 : wi v 0 79 = true → v &&& 65535 = v := fun g => by
      obtain ⟨g1, -, g3⟩ := wi_lit (a := 0) (c := 79) rfl rfl (by decide) (by decide) g
      rw [g1]
      refine (fa_mask (iN v) 16).trans ?_
      rw [Nat.mod_eq_of_lt (by omega)]
    refine ⟨?_, key2⟩
    cases c1 : wi v 0 79 with
    | true => rw [key2 c1]; exact c1
    | false =>
      cases c2 : wi (v &&& 65535) 0 79 with
      | false => rfl
      | true => rw [key c2, c1] at c2; exact c2.symm
  · have e8 := of_decide_eq_true h
    subst e8
    exact ⟨rfl, fun _ => rfl⟩
theorem Inv_wnS {σ nu : Rw} {s : Nat} (hI : Inv σ) : ∀ n, n ≤ 24 → (∀ j, j < n → wi (nu (40 * s + j)) 0 79 = true) → Inv (wnS σ nu s n)
  | 0, _, _ => hI
  | n + 1, hn, hj => Inv_wnd (Inv_wnS hI n (by omega) (fun j h => hj j (by omega))) (by omega) (hj n (by omega))
theorem wnC_s (nu : Rw) (z : Int32) (s f i : Nat) : wnC nu z s (f + 1) i = if decide (nI i < z) && wi (nu (40 * s + i)) 0 79 then wnC nu z s f (i + 1) else i := rfl
theorem wnC_ok {nu : Rw} {z : Int32} {s : Nat} : ∀ f i, i ≤ wnC nu z s f i ∧ wnC nu z s f i ≤ i + f ∧ ∀ j, i ≤ j → j < wnC nu z s f i → wi (nu (40 * s + j)) 0 79 = true
  | 0, i => ⟨Nat.le_refl _, Nat.le_refl _, fun j h1 h2 => absurd h2 (Nat.not_lt.mpr h1)⟩
  | f + 1, i => by
    rw [wnC_s]
    split
    · rename_i h
      rw [Bool.and_eq_true] at h
      obtain ⟨g1, g2, g3⟩ := wnC_ok (nu := nu) (z := z) (s := s) f (i + 1)
      refine ⟨by omega, by omega, fun j h1 h2 => ?_⟩
      by_cases c : j = i
      · rw [c]; exact h.2
      · exact g3 j (by omega) h2
    · exact ⟨Nat.le_refl _, by omega, fun j h1 h2 => absurd h2 (Nat.not_lt.mpr h1)⟩

set_option maxHeartbeats 1000000 in
theorem c_numberAt {Γ : Cx} {s n sz : Nat} {b0 z0 : Int32} {f : Rw} {M : Nat → Option va_E} (h0 : M s = some (.inr (7, [.ref n, .int b0, .int z0]))) (h1 : M n = aI Γ 40 f) {K : Int32 → Wd → Prop} {x : Int32} (zn : Nat) (ez : z0 = nI zn) (hz : zn ≤ 40) (j : Nat) (ex : x = nI j) (lx : j < zn) (k : K (f j) (M, sz)) : Spec Γ mX7_numberAt 0 0 [.ref s, .int x] (M, sz) (ci K) := by
  refine spec_in [some (.ref s), some (.int x)] 0 (by decide) rfl rfl ?_
  refine ok_iload_n (pc := 0) dX7_numberAt_0 rfl ?_
  refine ok_if_lt (pc := 1) 30 dX7_numberAt_1 (by decide) (fun cc_1 => ?_) (fun cc_1 => ?_)
  · rw [ex] at cc_1
    exact absurd cc_1 (nI_pos (by omega))
  · have ce_1 := Int32.not_lt.mp cc_1
    refine ok_iload_n (pc := 4) dX7_numberAt_4 rfl ?_
    refine ok_aload_n (pc := 5) dX7_numberAt_5 rfl ?_
    refine ok_getf (pc := 6) dX7_numberAt_6 fl_X7_19 h0 rfl ?_
    refine ok_icmp_ge (pc := 9) 30 dX7_numberAt_9 (by decide) (fun cc_9 => ?_) (fun cc_9 => ?_)
    · rw [ex, ez] at cc_9
      exact absurd cc_9 (nI_ge lx (by omega))
    · have ce_9 := Int32.not_le.mp cc_9
      refine ok_iload_n (pc := 12) dX7_numberAt_12 rfl ?_
      refine ok_aload_n (pc := 13) dX7_numberAt_13 rfl ?_
      refine ok_getf (pc := 14) dX7_numberAt_14 fl_X7_9 h0 rfl ?_
      refine ok_alen (pc := 17) (t := 0) dX7_numberAt_17 h1 rfl ?_
      refine ok_icmp_ge (pc := 18) 30 dX7_numberAt_18 (by decide) (fun cc_18 => ?_) (fun cc_18 => ?_)
      · rw [ex] at cc_18
        exact absurd cc_18 (nI_ge (by omega) (by omega))
      · have ce_18 := Int32.not_le.mp cc_18
        refine ok_aload_n (pc := 21) dX7_numberAt_21 rfl ?_
        refine ok_getf (pc := 22) dX7_numberAt_22 fl_X7_9 h0 rfl ?_
        refine ok_iload_n (pc := 25) dX7_numberAt_25 rfl ?_
        refine ok_iald (pc := 26) (j) dX7_numberAt_26 h1 ex (by omega) (by decide) ?_
        refine ok_goto (pc := 27) 31 dX7_numberAt_27 (by decide) ?_
        refine ok_iret (pc := 31) dX7_numberAt_31 rfl ?_
        exact k

set_option maxHeartbeats 1000000 in
theorem lx_winds {Γ : Cx} {a e z sz : Nat} {σ κ vi : Rw} {va : Nat → Rw} {K : Int32 → Wd → Prop} (hI : Inv σ) (hae : a + 92 ≤ e) {M0 : Nat → Option va_E} {x : Int32} (lx9 : iN x < 4) (hb9 : isB (va 21 (iN x)) = true) (hnz : va 21 (iN x) ≠ 0) (zn : Nat) (ez : va 22 (iN x) = nI zn) (lz : zn ≤ 40) (hT : InvT (shV va)) (k : ∀ M', ClsR Γ a e z (wnS σ (va 23) (iN x) (wnC (va 23) (va 22 (iN x)) (iN x) 24 0)) κ vi va M' → Off a 92 M0 M' → K (nI (wnC (va 23) (va 22 (iN x)) (iN x) 24 0)) (M', sz)) : ∀ (n : Nat) (j : Nat) (xc : Int32) (xh : Int32) (lst : Option Value) (M : Nat → Option va_E), j + n = 24 → xc = nI j → xh = nI j → wnC (va 23) (va 22 (iN x)) (iN x) n j = (wnC (va 23) (va 22 (iN x)) (iN x) 24 0) → (∀ j9, j9 < j → wi (va 23 (40 * iN x + j9)) 0 79 = true) → ClsR Γ a e z (wnS σ (va 23) (iN x) j) κ vi va M → Off a 92 M0 M → Ok Γ mX11_winds 2 0 34 [some (.ref a), some (.int x), some (.ref (a + 84 + 2 * iN x)), some (.int xc), some (.int xh), lst] [] (M, sz) (ci K) := by
  intro n
  induction n with
  | zero =>
    intro j xc xh lst M h1 ec eh hw hj hC hO
    obtain ⟨hs0, fs9, hs1, hs2⟩ := (id hC.2.2.2.2.2.1).2 (iN x) lx9
    have hIj : Inv (wnS σ (va 23) (iN x) j) := Inv_wnS hI j (by omega) hj
    refine ok_iload (pc := 34) dX11_winds_34 rfl ?_
    refine ok_bipush (pc := 36) (v := 24) dX11_winds_36 (by decide) ?_
    refine ok_icmp_ge (pc := 38) 92 dX11_winds_38 (by decide) (fun cc_38 => ?_) (fun cc_38 => ?_)
    · have ce_38 := Int32.not_lt.mpr cc_38
      have e9 : j = 24 := by omega
      refine ok_iload_n (pc := 92) dX11_winds_92 rfl ?_
      refine ok_iret (pc := 93) dX11_winds_93 rfl ?_
      rw [← hw] at k
      rw [ec]
      exact k _ hC hO
    · exact absurd (by rw [eh]; exact nI_le (a := 24) (by omega) (by omega)) cc_38
  | succ n ih =>
    intro j xc xh lst M h1 ec eh hw hj hC hO
    obtain ⟨hs0, fs9, hs1, hs2⟩ := (id hC.2.2.2.2.2.1).2 (iN x) lx9
    have hIj : Inv (wnS σ (va 23) (iN x) j) := Inv_wnS hI j (by omega) hj
    refine ok_iload (pc := 34) dX11_winds_34 rfl ?_
    refine ok_bipush (pc := 36) (v := 24) dX11_winds_36 (by decide) ?_
    refine ok_icmp_ge (pc := 38) 92 dX11_winds_38 (by decide) (fun cc_38 => ?_) (fun cc_38 => ?_)
    · rw [eh] at cc_38
      exact absurd cc_38 (nI_ge (b := 24) (by omega) (by omega))
    · have ce_38 := Int32.not_le.mp cc_38
      refine ok_iload (pc := 41) dX11_winds_41 rfl ?_
      refine ok_aload_n (pc := 43) dX11_winds_43 rfl ?_
      refine ok_getf (pc := 44) dX11_winds_44 fl_X11_261 hs0 rfl ?_
      refine ok_icmp_ge (pc := 47) 92 dX11_winds_47 (by decide) (fun cc_47 => ?_) (fun cc_47 => ?_)
      · have ce_47 := Int32.not_lt.mpr cc_47
        have e9 : wnC (va 23) (va 22 (iN x)) (iN x) (n + 1) j = j := by
          rw [wnC_s, decide_eq_false (by rw [← eh]; exact Int32.not_lt.mpr cc_47), Bool.false_and]
          rfl
        refine ok_iload_n (pc := 92) dX11_winds_92 rfl ?_
        refine ok_iret (pc := 93) dX11_winds_93 rfl ?_
        rw [← hw, e9] at k
        rw [ec]
        exact k _ hC hO
      · have ce_47 := Int32.not_le.mp cc_47
        refine ok_aload_n (pc := 50) dX11_winds_50 rfl ?_
        refine ok_iload (pc := 51) dX11_winds_51 rfl ?_
        refine ok_callVi1 (pc := 53) (d' := 0) dX11_winds_53 vl_X11_280 hs0 rfl rfl rfl (by decide) ?_
        have lj : j < zn := by
          rw [eh, ez] at cc_47
          exact Nat.lt_of_not_le (fun g => cc_47 (nI_le g (by omega)))
        refine c_numberAt hs0 hs1 zn ez lz j eh lj ?_
        obtain ⟨m1, m2⟩ := mk_wi hb9 hnz (hT (iN x) lx9 j (by omega))
        have m3 : fs9 j = mkV (va 21 (iN x)) (va 23 (40 * iN x + j)) := hs2 j (by omega)
        refine ok_istore5 (pc := 56) dX11_winds_56 (by decide) rfl ?_
        refine ok_iload (pc := 58) dX11_winds_58 rfl ?_
        refine ok_iconst (pc := 60) (v := 0) dX11_winds_60 (by decide) ?_
        refine ok_bipush (pc := 61) (v := 79) dX11_winds_61 (by decide) ?_
        refine ok_callSi3 (pc := 63) (d' := 0) dX11_winds_63 sl_X11_45 rfl (by decide) ?_
        refine c_within ?_
        rw [m3, show wi (mkV (va 21 (iN x)) (va 23 (40 * iN x + j))) 0 79 = wi (va 23 (40 * iN x + j)) 0 79 from m1]
        refine ok_if_ne (pc := 66) 72 dX11_winds_66 (by decide) (fun cc_66 => ?_) (fun cc_66 => ?_)
        · have cq_66 := bI_n0.mp cc_66
          refine ok_aload_n (pc := 72) dX11_winds_72 rfl ?_
          refine ok_getf (pc := 73) dX11_winds_73 fl_X11_10 hC.1 rfl ?_
          refine ok_iload (pc := 76) dX11_winds_76 rfl ?_
          refine ok_iload (pc := 78) dX11_winds_78 rfl ?_
          refine ok_callVv2 (pc := 80) (d' := 1) dX11_winds_80 vl_X11_80 hC.2.1.o rfl rfl rfl (by decide) ?_
          rw [show mkV (va 21 (iN x)) (va 23 (40 * iN x + j)) = va 23 (40 * iN x + j) from m2 cq_66]
          refine c_changeWind hC.2.1 hIj.bd (by omega) j eh (by omega) (fun M9 hP9 hO9 => ?_)
          have hC := hC.po hIj hae hP9 (fun q hq => hO9 q (by omega))
          have hO := hO.trans (hO9.sub (a := a) (n := 92) (by omega) (by omega))
          refine ok_iinc3 (pc := 83) (v := 1) dX11_winds_83 (by decide) (by decide) rfl ?_
          refine ok_iinc4 (pc := 86) (v := 1) dX11_winds_86 (by decide) (by decide) rfl ?_
          refine ok_goto (pc := 89) 34 dX11_winds_89 (by decide) ?_
          have e9 : wnC (va 23) (va 22 (iN x)) (iN x) (n + 1) j = wnC (va 23) (va 22 (iN x)) (iN x) n (j + 1) := by
            rw [wnC_s, if_pos (by rw [cq_66, Bool.and_true, decide_eq_true (by rw [← eh]; exact Int32.not_le.mp cc_47)])]
          refine ih (j + 1) _ _ _ _ (by omega) (by rw [ec, nI_1]) (by rw [eh, nI_1]) (e9.symm.trans hw) (fun j9 h9 => ?_) hC hO
          by_cases c : j9 = j
          · rw [c]; exact cq_66
          · exact hj j9 (by omega)
        · have cq_66 := bI_0.mp cc_66
          have e9 : wnC (va 23) (va 22 (iN x)) (iN x) (n + 1) j = j := by
            rw [wnC_s, cq_66, Bool.and_false]
            rfl
          refine ok_goto (pc := 69) 92 dX11_winds_69 (by decide) ?_
          refine ok_iload_n (pc := 92) dX11_winds_92 rfl ?_
          refine ok_iret (pc := 93) dX11_winds_93 rfl ?_
          rw [← hw, e9] at k
          rw [ec]
          exact k _ hC hO

set_option maxHeartbeats 1000000 in
theorem x_windsF {Γ : Cx} {a e z sz : Nat} {σ κ vi : Rw} {va : Nat → Rw} {M : Nat → Option va_E} {K : Int32 → Wd → Prop} (hC : ClsR Γ a e z σ κ vi va M) (hI : Inv σ) (hae : a + 92 ≤ e) {x : Int32} (hx : wi x 0 3 = false) (k : ∀ M', ClsR Γ a e z (op_winds σ (shV va) x).2.2 κ vi (eU va (op_winds σ (shV va) x).1) M' → Off a 92 M M' → K (op_winds σ (shV va) x).2.1 (M', sz)) : Spec Γ mX11_winds 2 0 [.ref a, .int x] (M, sz) (ci K) := by
  refine spec_in [some (.ref a), some (.int x), none, none, none, none] 4 (by decide) rfl rfl ?_
  refine ok_aload_n (pc := 0) dX11_winds_0 rfl ?_
  refine ok_iload_n (pc := 1) dX11_winds_1 rfl ?_
  refine ok_callVr1 (pc := 2) (d' := 1) dX11_winds_2 vl_X11_250 hC.1 rfl rfl rfl (by decide) ?_
  refine c_sheetAt hC hI hae (fun ex9 lx9 => absurd hx (by rw [ex9, show wi (nI (iN x)) 0 3 = true from wi_nI (a := 0) (b := 3) (by omega) (by omega) (by decide)]; decide)) (fun h9 => ?_)
  refine ok_astore_nN2 (pc := 5) dX11_winds_5 (by decide) rfl ?_
  refine ok_aload_nN (pc := 6) dX11_winds_6 rfl ?_
  refine ok_ifnonnullN (pc := 7) dX11_winds_7 ?_
  refine ok_aload_n (pc := 10) dX11_winds_10 rfl ?_
  refine ok_iconst (pc := 11) (v := 1) dX11_winds_11 (by decide) ?_
  refine ok_callVi1 (pc := 12) (d' := 1) dX11_winds_12 vl_X11_49 hC.1 rfl rfl rfl (by decide) ?_
  refine c_error hC hI hae 1 rfl (by decide) (by decide) (fun M2 hC2 hO2 => ?_)
  refine ok_iret (pc := 15) dX11_winds_15 rfl ?_
  have hop : op_winds σ (shV va) x = e3 1 σ := if_neg (by rw [hx]; decide)
  rw [hop] at k
  exact k _ hC2 hO2

set_option maxHeartbeats 1000000 in
theorem x_windsT {Γ : Cx} {a e z sz : Nat} {σ κ vi : Rw} {va : Nat → Rw} {M : Nat → Option va_E} {K : Int32 → Wd → Prop} (hC : ClsR Γ a e z σ κ vi va M) (hI : Inv σ) (hae : a + 92 ≤ e) (hS : InvS (shV va)) (hT : InvT (shV va)) {x : Int32} (hx : wi x 0 3 = true) (k : ∀ M', ClsR Γ a e z (op_winds σ (shV va) x).2.2 κ vi (eU va (op_winds σ (shV va) x).1) M' → Off a 92 M M' → K (op_winds σ (shV va) x).2.1 (M', sz)) : Spec Γ mX11_winds 2 0 [.ref a, .int x] (M, sz) (ci K) := by
  refine spec_in [some (.ref a), some (.int x), none, none, none, none] 4 (by decide) rfl rfl ?_
  refine ok_aload_n (pc := 0) dX11_winds_0 rfl ?_
  refine ok_iload_n (pc := 1) dX11_winds_1 rfl ?_
  refine ok_callVr1 (pc := 2) (d' := 1) dX11_winds_2 vl_X11_250 hC.1 rfl rfl rfl (by decide) ?_
  refine c_sheetAt hC hI hae (fun ex9 lx9 => ?_) (fun h9 => absurd h9 (by rw [hx]; decide))
  obtain ⟨hs0, fs9, hs1, hs2⟩ := (id hC.2.2.2.2.2.1).2 (iN x) lx9
  obtain ⟨hb9, zn, lz, ez⟩ := hS (iN x) lx9
  refine ok_astore_n2 (pc := 5) dX11_winds_5 (by decide) rfl ?_
  refine ok_aload_n (pc := 6) dX11_winds_6 rfl ?_
  refine ok_ifnonnull (pc := 7) 16 dX11_winds_7 (by decide) ?_
  refine ok_aload_n (pc := 16) dX11_winds_16 rfl ?_
  refine ok_callVi0 (pc := 17) (d' := 0) dX11_winds_17 vl_X11_257 hs0 rfl rfl rfl (by decide) ?_
  refine c_isMissing (f := fs9) hs0 ?_
  refine ok_if_eq (pc := 20) 29 dX11_winds_20 (by decide) (fun cc_20 => ?_) (fun cc_20 => ?_)
  · have cq_20 := bI_0.mp cc_20
    refine ok_iconst (pc := 29) (v := 0) dX11_winds_29 (by decide) ?_
    refine ok_istore_n3 (pc := 30) dX11_winds_30 (by decide) rfl ?_
    refine ok_iconst (pc := 31) (v := 0) dX11_winds_31 (by decide) ?_
    refine ok_istore4 (pc := 32) dX11_winds_32 (by decide) rfl ?_
    have hnz : va 21 (iN x) ≠ 0 := of_decide_eq_false cq_20
    have hop : op_winds σ (shV va) x = (0, nI (wnC (va 23) (va 22 (iN x)) (iN x) 24 0), wnS σ (va 23) (iN x) (wnC (va 23) (va 22 (iN x)) (iN x) 24 0)) := (if_pos hx).trans (if_neg hnz)
    rw [hop] at k
    rw [eU_0] at k
    exact lx_winds hI hae lx9 hb9 hnz zn ez lz hT k 24 0 _ _ _ M (by omega) rfl rfl rfl (fun j9 h9 => absurd h9 (Nat.not_lt_zero _)) hC Off.rfl'
  · have cq_20 := bI_n0.mp cc_20
    refine ok_aload_n (pc := 23) dX11_winds_23 rfl ?_
    refine ok_iconst (pc := 24) (v := 2) dX11_winds_24 (by decide) ?_
    refine ok_callVi1 (pc := 25) (d' := 1) dX11_winds_25 vl_X11_49 hC.1 rfl rfl rfl (by decide) ?_
    refine c_error hC hI hae 2 rfl (by decide) (by decide) (fun M2 hC2 hO2 => ?_)
    refine ok_iret (pc := 28) dX11_winds_28 rfl ?_
    have hop : op_winds σ (shV va) x = e3 2 σ := (if_pos hx).trans (if_pos (of_decide_eq_true cq_20))
    rw [hop] at k
    exact k _ hC2 hO2

theorem x_winds {Γ : Cx} {a e z sz : Nat} {σ κ vi : Rw} {va : Nat → Rw} {M : Nat → Option va_E} {K : Int32 → Wd → Prop} (hC : ClsR Γ a e z σ κ vi va M) (hI : Inv σ) (hae : a + 92 ≤ e) (hS : InvS (shV va)) (hT : InvT (shV va)) {x : Int32} (k : ∀ M', ClsR Γ a e z (op_winds σ (shV va) x).2.2 κ vi (eU va (op_winds σ (shV va) x).1) M' → Off a 92 M M' → K (op_winds σ (shV va) x).2.1 (M', sz)) : Spec Γ mX11_winds 2 0 [.ref a, .int x] (M, sz) (ci K) := by
  cases hx : wi x 0 3 with
  | true => exact x_windsT hC hI hae hS hT hx k
  | false => exact x_windsF hC hI hae hx k
theorem Inv_op_winds {σ : Rw} {s : Sh} (hI : Inv σ) (x : Int32) : Inv (op_winds σ s x).2.2 := by
  unfold op_winds
  split
  · split
    · exact hI
    · obtain ⟨-, g2, g3⟩ := wnC_ok (nu := s.2.2) (z := s.2.1 (iN x)) (s := iN x) 24 0
      exact Inv_wnS hI _ (by omega) (fun j h => g3 j (Nat.zero_le _) h)
  · exact hI
