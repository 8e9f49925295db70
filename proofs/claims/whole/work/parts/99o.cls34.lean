set_option maxHeartbeats 1000000 in
theorem l_passHoursW {Γ : Cx} {p e z sz : Nat} {σ : Rw} {K : Wd → Prop} {M0 : Nat → Option va_E} {xn : Int32} (n0 : Nat) (en : xn = nI n0) (hn : n0 ≤ 72) (ht : cT σ ≤ 19900) (hI : Inv σ) (hpe : p + 26 ≤ e) (k : ∀ M', PstR Γ p e z (hrsF σ n0) M' → Off p 26 M0 M' → K (M', sz)) : ∀ (n : Nat) (j : Nat) (xi : Int32) (M : Nat → Option va_E), j + n = n0 → xi = nI j → PstR Γ p e z (hrsF σ j) M → Off p 26 M0 M → Ok Γ mX5_passHours 6 0 2 [some (.ref p), some (.int xn), some (.int xi)] [] (M, sz) (cv K) := by
  intro n
  induction n with
  | zero =>
    intro j xi M h1 ei hP hO
    refine ok_iload_n (pc := 2) dX5_passHours_2 rfl ?_
    refine ok_iload_n (pc := 3) dX5_passHours_3 rfl ?_
    refine ok_icmp_ge (pc := 4) 17 dX5_passHours_4 (by decide) (fun cc_4 => ?_) (fun cc_4 => ?_)
    · have ce_4 := Int32.not_lt.mpr cc_4
      have e9 : j = n0 := by omega
      subst e9
      refine ok_vret (pc := 17) dX5_passHours_17 rfl ?_
      exact k _ hP hO
    · exact absurd (by rw [en, ei]; exact nI_le (by omega) (by omega)) cc_4
  | succ n ih =>
    intro j xi M h1 ei hP hO
    refine ok_iload_n (pc := 2) dX5_passHours_2 rfl ?_
    refine ok_iload_n (pc := 3) dX5_passHours_3 rfl ?_
    refine ok_icmp_ge (pc := 4) 17 dX5_passHours_4 (by decide) (fun cc_4 => ?_) (fun cc_4 => ?_)
    · rw [en, ei] at cc_4
      exact absurd cc_4 (nI_ge (by omega) (by omega))
    · have ce_4 := Int32.not_le.mp cc_4
      refine ok_aload_n (pc := 7) dX5_passHours_7 rfl ?_
      refine ok_callVv0 (pc := 8) (d' := 5) dX5_passHours_8 vl_X5_237 hP.o rfl rfl rfl (by decide) ?_
      obtain ⟨t1, t2, t3, t4, t5, t6⟩ := hrs_ok hI j (by omega)
      refine c_passHour hP t1 hpe (fun M hP hO2 => ?_)
      have hO := hO.trans hO2
      refine ok_iinc2 (pc := 11) (v := 1) dX5_passHours_11 (by decide) (by decide) rfl ?_
      refine ok_goto (pc := 14) 2 dX5_passHours_14 (by decide) ?_
      exact ih (j + 1) _ _ (by omega) (by rw [ei, nI_1]) hP hO


set_option maxHeartbeats 1000000 in
theorem c_passHoursW {Γ : Cx} {p e z sz : Nat} {σ : Rw} {M : Nat → Option va_E} {K : Wd → Prop} (hP : PstR Γ p e z σ M) (hI : Inv σ) (hpe : p + 26 ≤ e) {xn : Int32} (n0 : Nat) (en : xn = nI n0) (hn : n0 ≤ 72) (ht : cT σ ≤ 19900) (k : ∀ M', PstR Γ p e z (hrsF σ n0) M' → Off p 26 M M' → K (M', sz)) : Spec Γ mX5_passHours 6 0 [.ref p, .int xn] (M, sz) (cv K) := by
  refine spec_in [some (.ref p), some (.int xn), none] 1 (by decide) rfl rfl ?_
  refine ok_iconst (pc := 0) (v := 0) dX5_passHours_0 (by decide) ?_
  refine ok_istore_n2 (pc := 1) dX5_passHours_1 (by decide) rfl ?_
  exact l_passHoursW n0 en hn ht hI hpe k n0 0 _ M (by omega) rfl hP Off.rfl'


theorem Inv_w0 {σ : Rw} (hI : Inv σ) : Inv (upd σ 7 0) := by
  obtain ⟨⟨⟨eH, lH⟩, ⟨eK, lK⟩, ⟨eL, lL⟩, ⟨eA, lA⟩, ⟨eT, lT⟩⟩, iK, iH, iW, iL, iO, iB, hT⟩ := id hI
  have off : ∀ {j : Nat}, j ≠ 7 → (upd σ 7 0) j = σ j := fun hj => upd_ne hj
  have qH : cH (upd σ 7 0) = cH σ := by unfold cH; rw [off (by omega)]
  have qK : cK (upd σ 7 0) = cK σ := by unfold cK; rw [off (by omega)]
  have qL : cL (upd σ 7 0) = cL σ := by unfold cL; rw [off (by omega)]
  have qA : cA (upd σ 7 0) = cA σ := by unfold cA; rw [off (by omega)]
  have qT : cT (upd σ 7 0) = cT σ := by unfold cT; rw [off (by omega)]
  have hkf : ∀ k_ f_, k_ < 8 → f_ < 6 → kf (upd σ 7 0) k_ f_ = kf σ k_ f_ := fun k_ f_ hk_ hf_ => by unfold kf; exact off (by omega)
  have hlf : ∀ k_ f_, k_ < 12 → f_ < 7 → lf (upd σ 7 0) k_ f_ = lf σ k_ f_ := fun k_ f_ hk_ hf_ => by unfold lf; exact off (by omega)
  refine ⟨⟨⟨?_, ?_⟩, ⟨?_, ?_⟩, ⟨?_, ?_⟩, ⟨?_, ?_⟩, ⟨?_, ?_⟩⟩, ?_, ?_, ?_, ?_, ?_, ?_, ?_⟩
  · rw [qH, off (by omega)]; exact eH
  · rw [qH]; exact lH
  · rw [qK, off (by omega)]; exact eK
  · rw [qK]; exact lK
  · rw [qL, off (by omega)]; exact eL
  · rw [qL]; exact lL
  · rw [qA, off (by omega)]; exact eA
  · rw [qA, qL, arN_same (σ := σ) (τ := (upd σ 7 0)) (fun l hl => by unfold arF; rw [hlf l 6 (by omega) (by decide)])]; exact lA
  · rw [qT, off (by omega)]; exact eT
  · rw [qT]; exact lT
  · intro k hk
    rw [qK] at hk
    unfold hmF amF
    simp only [hkf k _ (show k < 8 by omega) (show 0 < 6 by decide), hkf k _ (show k < 8 by omega) (show 1 < 6 by decide), hkf k _ (show k < 8 by omega) (show 2 < 6 by decide), hkf k _ (show k < 8 by omega) (show 3 < 6 by decide), hkf k _ (show k < 8 by omega) (show 4 < 6 by decide), hkf k _ (show k < 8 by omega) (show 5 < 6 by decide), qH]
    exact iK k hk
  · intro q hq
    rw [qH] at hq
    have e1 : ∀ g, g < cH σ → (upd σ 7 0) (9 + 2 * g) = σ (9 + 2 * g) := fun g hg => off (by omega)
    have e2 : hz (upd σ 7 0) q = hz σ q := by unfold hz; exact off (by omega)
    rw [e2, qH, e1 q hq]
    obtain ⟨i1, i2, i3⟩ := iH q hq
    exact ⟨i1, i2, fun g hg he => i3 g hg (by rw [e1 g hg] at he; exact he)⟩
  · intro q hq
    have e1 : (upd σ 7 0) (27 + q) = σ (27 + q) := off (by omega)
    unfold wdF
    rw [e1]
    exact iW q hq
  · intro q hq
    rw [qL] at hq
    unfold onF toF anF
    simp only [hlf q _ (show q < 12 by omega) (show 5 < 7 by decide), hlf q _ (show q < 12 by omega) (show 1 < 7 by decide), hlf q _ (show q < 12 by omega) (show 2 < 7 by decide), hlf q _ (show q < 12 by omega) (show 3 < 7 by decide), qH]
    exact iL q hq
  · intro q hq
    rw [qA] at hq
    have hq12 : cA σ ≤ 12 := by rw [lA]; exact Nat.le_trans (arN_le σ _) lL
    have e1 : (upd σ 7 0) (183 + q) = σ (183 + q) := off (by omega)
    unfold orF
    rw [e1, qL]
    exact iO q hq
  · obtain ⟨⟨n1, b1, b2⟩, -, b5⟩ := iB
    refine ⟨⟨n1, by rw [off (by omega)]; exact b1, b2⟩, ⟨0, upd_at, by omega⟩, fun j hj => ?_⟩
    rw [off (by omega)]
    exact b5 j hj
  · intro u hu
    exact TxOk_same (fun j hj => off (by omega)) (hT u hu)

set_option maxHeartbeats 1000000 in
theorem x_ck101 {Γ : Cx} {a e z sz : Nat} {σ κ vi : Rw} {va : Nat → Rw} {M : Nat → Option va_E} {K : Int32 → Wd → Prop} (hC : ClsR Γ a e z σ κ vi va M) (hI : Inv σ) (hae : a + 92 ≤ e) {M0 : Nat → Option va_E} {x av xi : Int32} (hO : Off a 92 M0 M) (k : ∀ M', ClsR Γ a e z (upd σ 7 0) κ vi va M' → Off a 92 M0 M' → K av (M', sz)) : Ok Γ mX11_check 7 0 101 [some (.ref a), some (.int x), some (.int av), some (.int xi)] [] (M, sz) (ci K) := by
  refine ok_aload_n (pc := 101) dX11_check_101 rfl ?_
  refine ok_getf (pc := 102) dX11_check_102 fl_X11_10 hC.1 rfl ?_
  refine ok_getf (pc := 105) dX11_check_105 fl_X11_286 hC.2.1.o rfl ?_
  refine ok_callVv0 (pc := 108) (d' := 0) dX11_check_108 vl_X11_159 hC.2.1.wt.1 rfl rfl rfl (by decide) ?_
  obtain ⟨-, fw, fw1, fw2⟩ := id hC.2.1.wt
  refine c_clear hC.2.1.wt.1 fw1 ?_
  obtain ⟨hP9, hO9⟩ := pst_clr_wt hC.2.1 hI.bd (by omega)
  have hC := hC.po hI hae hP9 (fun q hq => hO9 q (by omega))
  have hO := hO.trans (hO9.sub (a := a) (n := 92) (by omega) (by omega))
  refine ok_iload_n (pc := 111) dX11_check_111 rfl ?_
  refine ok_iret (pc := 112) dX11_check_112 rfl ?_
  exact k _ hC hO

set_option maxHeartbeats 1000000 in
theorem x_ck42 {Γ : Cx} {a e z sz : Nat} {σ κ vi : Rw} {va : Nat → Rw} {M : Nat → Option va_E} {K : Int32 → Wd → Prop} (hC : ClsR Γ a e z σ κ vi va M) (hI : Inv σ) (hae : a + 92 ≤ e) {M0 : Nat → Option va_E} {x av xi : Int32} (hav : av ≠ 0) (hO : Off a 92 M0 M) (k : ∀ M', ClsR Γ a e z (upd σ 7 0) κ vi va M' → Off a 92 M0 M' → K av (M', sz)) : Ok Γ mX11_check 7 0 42 [some (.ref a), some (.int x), some (.int av), some (.int xi)] [] (M, sz) (ci K) := by
  refine ok_iload_n (pc := 42) dX11_check_42 rfl ?_
  refine ok_aload_n (pc := 43) dX11_check_43 rfl ?_
  refine ok_getf (pc := 44) dX11_check_44 fl_X11_10 hC.1 rfl ?_
  refine ok_getf (pc := 47) dX11_check_47 fl_X11_286 hC.2.1.o rfl ?_
  refine ok_getf (pc := 50) dX11_check_50 fl_X11_140 hC.2.1.wt.1 rfl ?_
  refine ok_icmp_ge (pc := 53) 101 dX11_check_53 (by decide) (fun cc_53 => ?_) (fun cc_53 => ?_)
  · have ce_53 := Int32.not_lt.mpr cc_53
    exact x_ck101 hC hI hae hO k
  · have ce_53 := Int32.not_le.mp cc_53
    refine ok_iload_n (pc := 56) dX11_check_56 rfl ?_
    refine ok_if_ne (pc := 57) 101 dX11_check_57 (by decide) (fun cc_57 => ?_) (fun cc_57 => ?_)
    · exact x_ck101 hC hI hae hO k
    · exact absurd cc_57 hav

set_option maxHeartbeats 1000000 in
theorem lx_check {Γ : Cx} {a e z sz : Nat} {σ κ vi : Rw} {va : Nat → Rw} {K : Int32 → Wd → Prop} (hI : Inv σ) (hae : a + 92 ≤ e) {M0 : Nat → Option va_E} {x : Int32} (hc9 : cT σ ≤ 9999) (ex9 : x = nI (iN x)) (lx9 : iN x < cL σ) (n7 : Nat) (e7 : σ 7 = nI n7) (l7 : n7 ≤ 20) (k : ∀ M', ClsR Γ a e z (upd σ 7 0) κ vi va M' → Off a 92 M0 M' → K (ckA (upd σ 7 0) (iN x) n7 0) (M', sz)) : ∀ (n : Nat) (j : Nat) (xi : Int32) (M : Nat → Option va_E), j + n = n7 → xi = nI j → ckA (upd σ 7 0) (iN x) n j = ckA (upd σ 7 0) (iN x) n7 0 → ClsR Γ a e z σ κ vi va M → PstR Γ (a + 27) e z (hrsF σ j) M → Off a 92 M0 M → Ok Γ mX11_check 7 0 42 [some (.ref a), some (.int x), some (.int 0), some (.int xi)] [] (M, sz) (ci K) := by
  intro n
  induction n with
  | zero =>
    intro j xi M h1 ei hck hC hah hO
    refine ok_iload_n (pc := 42) dX11_check_42 rfl ?_
    refine ok_aload_n (pc := 43) dX11_check_43 rfl ?_
    refine ok_getf (pc := 44) dX11_check_44 fl_X11_10 hC.1 rfl ?_
    refine ok_getf (pc := 47) dX11_check_47 fl_X11_286 hC.2.1.o rfl ?_
    refine ok_getf (pc := 50) dX11_check_50 fl_X11_140 hC.2.1.wt.1 rfl ?_
    refine ok_icmp_ge (pc := 53) 101 dX11_check_53 (by decide) (fun cc_53 => ?_) (fun cc_53 => ?_)
    · have e9 : j = n7 := by omega
      exact x_ck101 hC hI hae hO (by rw [← hck] at k; exact k)
    · exact absurd (by rw [ei, e7]; exact nI_le (by omega) (by omega)) cc_53
  | succ n ih =>
    intro j xi M h1 ei hck hC hah hO
    refine ok_iload_n (pc := 42) dX11_check_42 rfl ?_
    refine ok_aload_n (pc := 43) dX11_check_43 rfl ?_
    refine ok_getf (pc := 44) dX11_check_44 fl_X11_10 hC.1 rfl ?_
    refine ok_getf (pc := 47) dX11_check_47 fl_X11_286 hC.2.1.o rfl ?_
    refine ok_getf (pc := 50) dX11_check_50 fl_X11_140 hC.2.1.wt.1 rfl ?_
    refine ok_icmp_ge (pc := 53) 101 dX11_check_53 (by decide) (fun cc_53 => ?_) (fun cc_53 => ?_)
    · rw [ei, e7] at cc_53
      exact absurd cc_53 (nI_ge (by omega) (by omega))
    · have ce_53 := Int32.not_le.mp cc_53
      refine ok_iload_n (pc := 56) dX11_check_56 rfl ?_
      refine ok_if_ne (pc := 57) 101 dX11_check_57 (by decide) (fun cc_57 => ?_) (fun cc_57 => ?_)
      · exact absurd rfl cc_57
      · refine ok_aload_n (pc := 60) dX11_check_60 rfl ?_
        refine ok_getf (pc := 61) dX11_check_61 fl_X11_16 hC.1 rfl ?_
        refine ok_iconst (pc := 64) (v := 1) dX11_check_64 (by decide) ?_
        refine ok_callVv1 (pc := 65) (d' := 6) dX11_check_65 vl_X11_191 hah.o rfl rfl rfl (by decide) ?_
        obtain ⟨t1, t2, t3, t4, t5, t6⟩ := hrs_ok hI j (by omega)
        refine c_passHoursW hah t1 (by omega) 1 rfl (by decide) (by omega) (fun M8 hah hO8 => ?_)
        obtain ⟨u1, u2, u3, u4, u5, u6⟩ := hrs_ok hI (j + 1) (by omega)
        have hC := hC.ah hI hae u1 hah (fun q hq => hO8 q (by omega))
        have hO := hO.trans (hO8.sub (a := a) (n := 92) (by omega) (by omega))
        refine ok_aload_n (pc := 68) dX11_check_68 rfl ?_
        refine ok_getf (pc := 69) dX11_check_69 fl_X11_16 hC.1 rfl ?_
        refine ok_iload_n (pc := 72) dX11_check_72 rfl ?_
        refine ok_iconst (pc := 73) (v := 5) dX11_check_73 (by decide) ?_
        refine ok_callVi2 (pc := 74) (d' := 1) dX11_check_74 vl_X11_188 hah.o rfl rfl rfl (by decide) ?_
        refine c_ofOne (p := a + 27) hah u1.1.2.2.1.1 u1.1.2.2.1.2 (iN x) 5 ex9 rfl (by rw [show cL (hrsF (hrsF σ j) 1) = cL σ from u2]; exact lx9) (by decide) ?_
        refine ok_aload_n (pc := 77) dX11_check_77 rfl ?_
        refine ok_getf (pc := 78) dX11_check_78 fl_X11_10 hC.1 rfl ?_
        refine ok_getf (pc := 81) dX11_check_81 fl_X11_286 hC.2.1.o rfl ?_
        refine ok_iload_n (pc := 84) dX11_check_84 rfl ?_
        refine ok_callVi1 (pc := 85) (d' := 0) dX11_check_85 vl_X11_225 hC.2.1.wt.1 rfl rfl rfl (by decide) ?_
        obtain ⟨-, fw, fw1, fw2⟩ := id hC.2.1.wt
        refine c_get hC.2.1.wt.1 fw1 n7 e7 l7 (by decide) j ei (by omega) ?_
        have efw : fw j = σ (245 + j) := fw2 j (by rw [rw_in e7 (by omega)]; omega)
        have ew9 : (upd σ 7 0) (245 + j) = σ (245 + j) := upd_ne (by omega)
        have el9 : lf (hrsF (upd σ 7 0) (j + 1)) (iN x) 5 = lf (hrsF (hrsF σ j) 1) (iN x) 5 := by
          rw [u7_hrs, u7_lf]
          rfl
        refine ok_icmp_eq (pc := 88) 95 dX11_check_88 (by decide) (fun cc_88 => ?_) (fun cc_88 => ?_)
        · have enx : ckA (upd σ 7 0) (iN x) (n + 1) j = ckA (upd σ 7 0) (iN x) n (j + 1) := if_pos (by rw [ew9, el9, ← efw]; exact cc_88.symm)
          refine ok_iinc3 (pc := 95) (v := 1) dX11_check_95 (by decide) (by decide) rfl ?_
          refine ok_goto (pc := 98) 42 dX11_check_98 (by decide) ?_
          first
            | exact ih (j + 1) _ _ (by omega) (by rw [ei, nI_1]) (enx.symm.trans hck) hC hah hO
            | (have ean : (1 + xi : Int32) = nI (1 + j) := by rw [ei]; exact nI_add 1 j
               rw [ean]
               rw [← hck, enx] at k
               exact x_ck42 hC hI hae (fun h => by have h9 := (nI_eq (b := 0) (by omega) (by decide)).mp h; omega) hO k)
        · have enx : ckA (upd σ 7 0) (iN x) (n + 1) j = nI (1 + j) := if_neg (by rw [ew9, el9, ← efw]; exact fun h => cc_88 h.symm)
          refine ok_iconst (pc := 91) (v := 1) dX11_check_91 (by decide) ?_
          refine ok_iload_n (pc := 92) dX11_check_92 rfl ?_
          refine ok_iadd (pc := 93) dX11_check_93 ?_
          refine ok_istore_n2 (pc := 94) dX11_check_94 (by decide) rfl ?_
          refine ok_iinc3 (pc := 95) (v := 1) dX11_check_95 (by decide) (by decide) rfl ?_
          refine ok_goto (pc := 98) 42 dX11_check_98 (by decide) ?_
          first
            | exact ih (j + 1) _ _ (by omega) (by rw [ei, nI_1]) (enx.symm.trans hck) hC hah hO
            | (have ean : (1 + xi : Int32) = nI (1 + j) := by rw [ei]; exact nI_add 1 j
               rw [ean]
               rw [← hck, enx] at k
               exact x_ck42 hC hI hae (fun h => by have h9 := (nI_eq (b := 0) (by omega) (by decide)).mp h; omega) hO k)

set_option maxHeartbeats 1000000 in
theorem x_check {Γ : Cx} {a e z sz : Nat} {σ κ vi : Rw} {va : Nat → Rw} {M : Nat → Option va_E} {K : Int32 → Wd → Prop} (hC : ClsR Γ a e z σ κ vi va M) (hI : Inv σ) (hae : a + 92 ≤ e) (hc9 : cT σ ≤ 9999) {x : Int32} (k : ∀ M', ClsR Γ a e z (op_check σ x).2.2 κ vi (eU va (op_check σ x).1) M' → Off a 92 M M' → K (op_check σ x).2.1 (M', sz)) : Spec Γ mX11_check 7 0 [.ref a, .int x] (M, sz) (ci K) := by
  obtain ⟨⟨⟨eH, lH⟩, ⟨eK, lK⟩, ⟨eL, lL⟩, ⟨eA, lA⟩, ⟨eT, lT⟩⟩, iK, iH, iW, iL, iO, iB, hT⟩ := id hI
  obtain ⟨τa, iτa, hah⟩ := id hC.2.2.1
  obtain ⟨-, ⟨n7, e7, l7⟩, -⟩ := id iB
  
  refine spec_in [some (.ref a), some (.int x), none, none] 2 (by decide) rfl rfl ?_
  refine ok_aload_n (pc := 0) dX11_check_0 rfl ?_
  refine ok_getf (pc := 1) dX11_check_1 fl_X11_10 hC.1 rfl ?_
  refine ok_iload_n (pc := 4) dX11_check_4 rfl ?_
  refine ok_callVi1 (pc := 5) (d' := 0) dX11_check_5 vl_X11_185 hC.2.1.o rfl rfl rfl (by decide) ?_
  refine c_isLetter hC.2.1 eL lL ?_
  refine ok_if_ne (pc := 8) 27 dX11_check_8 (by decide) (fun cc_8 => ?_) (fun cc_8 => ?_)
  · have cq_8 := bI_n0.mp cc_8
    refine ok_aload_n (pc := 27) dX11_check_27 rfl ?_
    refine ok_getf (pc := 28) dX11_check_28 fl_X11_16 hC.1 rfl ?_
    refine ok_aload_n (pc := 31) dX11_check_31 rfl ?_
    refine ok_getf (pc := 32) dX11_check_32 fl_X11_10 hC.1 rfl ?_
    refine ok_callVv1 (pc := 35) (d' := 3) dX11_check_35 vl_X11_198 hah.o rfl rfl rfl (by decide) ?_
    refine c_copyFrom hah iτa.1.2.1.2 hC.2.1 hI (by omega) (by omega) (Or.inr (by omega)) (fun M9 hah hS9 hO9 => ?_)
    have hC := hC.ah hI hae hI hah (fun q hq => hO9 q (by omega))
    have hO : Off a 92 M M9 := hO9.sub (by omega) (by omega)
    refine ok_iconst (pc := 38) (v := 0) dX11_check_38 (by decide) ?_
    refine ok_istore_n2 (pc := 39) dX11_check_39 (by decide) rfl ?_
    refine ok_iconst (pc := 40) (v := 0) dX11_check_40 (by decide) ?_
    refine ok_istore_n3 (pc := 41) dX11_check_41 (by decide) rfl ?_
    obtain ⟨ex9, lx9⟩ := wi_cnt eL (by omega) cq_8
    have hi7 : iN (σ 7) = n7 := rw_in e7 (by omega)
    have hop : op_check σ x = (0, ckA (upd σ 7 0) (iN x) n7 0, upd σ 7 0) := by
      unfold op_check
      rw [if_pos cq_8, hi7]
    rw [hop] at k
    rw [eU_0] at k
    exact lx_check hI hae hc9 ex9 lx9 n7 e7 l7 k n7 0 _ _ (by omega) rfl rfl hC hah hO
  · have cq_8 := bI_0.mp cc_8
    refine ok_aload_n (pc := 11) dX11_check_11 rfl ?_
    refine ok_getf (pc := 12) dX11_check_12 fl_X11_10 hC.1 rfl ?_
    refine ok_getf (pc := 15) dX11_check_15 fl_X11_286 hC.2.1.o rfl ?_
    refine ok_callVv0 (pc := 18) (d' := 0) dX11_check_18 vl_X11_159 hC.2.1.wt.1 rfl rfl rfl (by decide) ?_
    obtain ⟨-, fw, fw1, fw2⟩ := id hC.2.1.wt
    refine c_clear hC.2.1.wt.1 fw1 ?_
    obtain ⟨hP9, hO9⟩ := pst_clr_wt hC.2.1 hI.bd (by omega)
    have hC := hC.po hI hae hP9 (fun q hq => hO9 q (by omega))
    refine ok_aload_n (pc := 21) dX11_check_21 rfl ?_
    refine ok_iconst (pc := 22) (v := 1) dX11_check_22 (by decide) ?_
    refine ok_callVi1 (pc := 23) (d' := 1) dX11_check_23 vl_X11_49 hC.1 rfl rfl rfl (by decide) ?_
    refine c_error hC (Inv_w0 hI) hae 1 rfl (by decide) (by decide) (fun M2 hC2 hO2 => ?_)
    refine ok_iret (pc := 26) dX11_check_26 rfl ?_
    have hop : op_check σ x = e3 1 (upd σ 7 0) := if_neg (by rw [cq_8]; decide)
    rw [hop] at k
    exact k _ hC2 (Off.trans (hO9.sub (by omega) (by omega)) hO2)

theorem Inv_op_check {σ : Rw} (hI : Inv σ) (x : Int32) : Inv (op_check σ x).2.2 := by
  unfold op_check
  split
  · exact Inv_w0 hI
  · exact Inv_w0 hI
