set_option maxHeartbeats 1000000 in
theorem lx_feed {Γ : Cx} {a e z sz : Nat} {σ κ vi : Rw} {va : Nat → Rw} {K : Int32 → Wd → Prop} (hI : Inv σ) (hae : a + 92 ≤ e) {M0 : Nat → Option va_E} {w : Int64} {x : Int32} (n6 : Nat) (e6 : σ 6 = nI n6) (ex9 : x = nI (iN x)) (lx9 : iN x ≤ 8) (h50 : n6 + iN x ≤ 50) (k : ∀ M', ClsR Γ a e z (fdF σ w (iN x)) κ vi va M' → Off a 92 M0 M' → K (fdF σ w (iN x) 6) (M', sz)) : ∀ (n : Nat) (j : Nat) (xi : Int32) (M : Nat → Option va_E), j + n = iN x → xi = nI j → ClsR Γ a e z (fdF σ w j) κ vi va M → Off a 92 M0 M → Ok Γ mX11_feed 2 0 42 [some (.ref a), some (.long w), none, some (.int x), some (.int xi)] [] (M, sz) (ci K) := by
  intro n
  induction n with
  | zero =>
    intro j xi M h1 ei hC hO
    refine ok_iload (pc := 42) dX11_feed_42 rfl ?_
    refine ok_iload_n (pc := 44) dX11_feed_44 rfl ?_
    refine ok_icmp_ge (pc := 45) 77 dX11_feed_45 (by decide) (fun cc_45 => ?_) (fun cc_45 => ?_)
    · have ce_45 := Int32.not_lt.mpr cc_45
      have e9 : j = iN x := by omega
      subst e9
      refine ok_aload_n (pc := 77) dX11_feed_77 rfl ?_
      refine ok_getf (pc := 78) dX11_feed_78 fl_X11_10 hC.1 rfl ?_
      refine ok_getf (pc := 81) dX11_feed_81 fl_X11_137 hC.2.1.o rfl ?_
      refine ok_getf (pc := 84) dX11_feed_84 fl_X11_140 hC.2.1.tp.1 rfl ?_
      refine ok_iret (pc := 87) dX11_feed_87 rfl ?_
      exact k _ hC hO
    · exact absurd (by rw [ex9, ei]; exact nI_le (by omega) (by omega)) cc_45
  | succ n ih =>
    intro j xi M h1 ei hC hO
    refine ok_iload (pc := 42) dX11_feed_42 rfl ?_
    refine ok_iload_n (pc := 44) dX11_feed_44 rfl ?_
    refine ok_icmp_ge (pc := 45) 77 dX11_feed_45 (by decide) (fun cc_45 => ?_) (fun cc_45 => ?_)
    · rw [ex9, ei] at cc_45
      exact absurd cc_45 (nI_ge (by omega) (by omega))
    · have ce_45 := Int32.not_le.mp cc_45
      refine ok_aload_n (pc := 48) dX11_feed_48 rfl ?_
      refine ok_getf (pc := 49) dX11_feed_49 fl_X11_10 hC.1 rfl ?_
      refine ok_getf (pc := 52) dX11_feed_52 fl_X11_137 hC.2.1.o rfl ?_
      refine ok_lload_n (pc := 55) dX11_feed_55 rfl ?_
      refine ok_bipush (pc := 56) (v := 8) dX11_feed_56 (by decide) ?_
      refine ok_iload (pc := 58) dX11_feed_58 rfl ?_
      refine ok_imul (pc := 60) dX11_feed_60 ?_
      refine ok_lushr (pc := 61) dX11_feed_61 ?_
      refine ok_l2i (pc := 62) dX11_feed_62 ?_
      refine ok_sipush (pc := 63) (v := 255) dX11_feed_63 (by decide) ?_
      refine ok_iand (pc := 66) dX11_feed_66 ?_
      refine ok_callVi1 (pc := 67) (d' := 0) dX11_feed_67 vl_X11_143 hC.2.1.tp.1 rfl rfl rfl (by decide) ?_
      obtain ⟨t1, t2⟩ := fd_ok hI w e6 j (by omega) (by omega)
      obtain ⟨-, fw, fw1, fw2⟩ := id hC.2.1.tp
      have e8 : (8 * xi : Int32) = nI (8 * j) := by rw [ei]; exact (Int32.ofNat_mul 8 j).symm
      rw [e8, by_eq w (by omega)]
      refine c_add hC.2.1.tp.1 fw1 (by omega) (n6 + j) t2 (by omega) (by decide) ?_
      obtain ⟨hP9, hO9⟩ := pst_add_tp hC.2.1 t1.bd (by omega) fw1 fw2 (byL w j) (n6 + j) t2 (by omega)
      have hC := hC.po t1 hae hP9 (fun q hq => hO9 q (by omega))
      have hO := hO.trans (hO9.sub (a := a) (n := 92) (by omega) (by omega))
      have enx : fdF σ w (j + 1) = upd (upd (fdF σ w j) (195 + (n6 + j)) (byL w j)) 6 (nI (n6 + j + 1)) := by
        show upd (upd (fdF σ w j) (195 + iN (fdF σ w j 6)) (byL w j)) 6 (fdF σ w j 6 + 1) = _
        rw [t2, nI_1, show iN (nI (n6 + j)) = n6 + j from nI_clamp (by omega)]
      refine ok_pop (pc := 70) dX11_feed_70 rfl ?_
      refine ok_iinc4 (pc := 71) (v := 1) dX11_feed_71 (by decide) (by decide) rfl ?_
      refine ok_goto (pc := 74) 42 dX11_feed_74 (by decide) ?_
      exact ih (j + 1) _ _ (by omega) (by rw [ei, nI_1]) (by rw [enx]; exact hC) hO

set_option maxHeartbeats 1000000 in
theorem x_feed {Γ : Cx} {a e z sz : Nat} {σ κ vi : Rw} {va : Nat → Rw} {M : Nat → Option va_E} {K : Int32 → Wd → Prop} (hC : ClsR Γ a e z σ κ vi va M) (hI : Inv σ) (hae : a + 92 ≤ e) {w : Int64} {x : Int32} (k : ∀ M', ClsR Γ a e z (op_feed σ w x).2.2 κ vi (eU va (op_feed σ w x).1) M' → Off a 92 M M' → K (op_feed σ w x).2.1 (M', sz)) : Spec Γ mX11_feed 2 0 [.ref a, .long w, .int x] (M, sz) (ci K) := by
  obtain ⟨⟨⟨eH, lH⟩, ⟨eK, lK⟩, ⟨eL, lL⟩, ⟨eA, lA⟩, ⟨eT, lT⟩⟩, iK, iH, iW, iL, iO, iB, hT⟩ := id hI
  obtain ⟨⟨n6, e6, l6⟩, -⟩ := id iB
  
  refine spec_in [some (.ref a), some (.long w), none, some (.int x), none] 1 (by decide) rfl rfl ?_
  refine ok_iload_n (pc := 0) dX11_feed_0 rfl ?_
  refine ok_iconst (pc := 1) (v := 1) dX11_feed_1 (by decide) ?_
  refine ok_bipush (pc := 2) (v := 8) dX11_feed_2 (by decide) ?_
  refine ok_callSi3 (pc := 4) (d' := 0) dX11_feed_4 sl_X11_45 rfl (by decide) ?_
  refine c_within ?_
  refine ok_if_ne (pc := 7) 16 dX11_feed_7 (by decide) (fun cc_7 => ?_) (fun cc_7 => ?_)
  · have cq_7 := bI_n0.mp cc_7
    refine ok_aload_n (pc := 16) dX11_feed_16 rfl ?_
    refine ok_getf (pc := 17) dX11_feed_17 fl_X11_10 hC.1 rfl ?_
    refine ok_getf (pc := 20) dX11_feed_20 fl_X11_137 hC.2.1.o rfl ?_
    refine ok_getf (pc := 23) dX11_feed_23 fl_X11_140 hC.2.1.tp.1 rfl ?_
    refine ok_iload_n (pc := 26) dX11_feed_26 rfl ?_
    refine ok_iadd (pc := 27) dX11_feed_27 ?_
    refine ok_bipush (pc := 28) (v := 50) dX11_feed_28 (by decide) ?_
    refine ok_icmp_le (pc := 30) 39 dX11_feed_30 (by decide) (fun cc_30 => ?_) (fun cc_30 => ?_)
    · have ce_30 := Int32.not_lt.mpr cc_30
      refine ok_iconst (pc := 39) (v := 0) dX11_feed_39 (by decide) ?_
      refine ok_istore4 (pc := 40) dX11_feed_40 (by decide) rfl ?_
      obtain ⟨ex9, -, lx9⟩ := wi_lit (a := 1) (c := 8) rfl rfl (by decide) (by decide) cq_7
      have h50 : n6 + iN x ≤ 50 := by
        have h8 := cc_30
        rw [e6, ex9, nI_add, fa_lit 50] at h8
        exact (nI_leI (by omega) (by omega)).mp h8
      have hop : op_feed σ w x = (0, fdF σ w (iN x) 6, fdF σ w (iN x)) := (if_pos cq_7).trans (if_neg (Int32.not_lt.mpr cc_30))
      rw [hop] at k
      rw [eU_0] at k
      exact lx_feed hI hae n6 e6 ex9 lx9 h50 k (iN x) 0 _ M (by omega) rfl hC Off.rfl'
    · have ce_30 := Int32.not_le.mp cc_30
      refine ok_aload_n (pc := 33) dX11_feed_33 rfl ?_
      refine ok_iconst (pc := 34) (v := 4) dX11_feed_34 (by decide) ?_
      refine ok_callVi1 (pc := 35) (d' := 1) dX11_feed_35 vl_X11_49 hC.1 rfl rfl rfl (by decide) ?_
      refine c_error hC hI hae 4 rfl (by decide) (by decide) (fun M2 hC2 hO2 => ?_)
      refine ok_iret (pc := 38) dX11_feed_38 rfl ?_
      have hop : op_feed σ w x = e3 4 σ := (if_pos cq_7).trans (if_pos (Int32.not_le.mp cc_30))
      rw [hop] at k
      exact k _ hC2 hO2
  · have cq_7 := bI_0.mp cc_7
    refine ok_aload_n (pc := 10) dX11_feed_10 rfl ?_
    refine ok_iconst (pc := 11) (v := 1) dX11_feed_11 (by decide) ?_
    refine ok_callVi1 (pc := 12) (d' := 1) dX11_feed_12 vl_X11_49 hC.1 rfl rfl rfl (by decide) ?_
    refine c_error hC hI hae 1 rfl (by decide) (by decide) (fun M2 hC2 hO2 => ?_)
    refine ok_iret (pc := 15) dX11_feed_15 rfl ?_
    have hop : op_feed σ w x = e3 1 σ := if_neg (by rw [cq_7]; decide)
    rw [hop] at k
    exact k _ hC2 hO2
