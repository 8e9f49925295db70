theorem ClsR.bo {Γ : Cx} {a e z : Nat} {σ κ vi : Rw} {va : Nat → Rw} {M M' : Nat → Option va_E} {s' : Int32} {g' : Rw} (hC : ClsR Γ a e z σ κ vi va M) (hI : Inv σ) (hae : a + 92 ≤ e) (hB : rwR Γ M' (a + 79) 40 s' g') (hw : ∀ q, q < a + 79 ∨ a + 81 ≤ q → M' q = M q) : ClsR Γ a e z σ κ (upd vi 19 s') (va_up va 18 g') M' := by
  obtain ⟨c0, c1, c2, c3, c4, c5, c6, c7⟩ := hC
  have e3 : upd vi 19 s' 3 = vi 3 := upd_ne (by decide)
  have hS : ShR Γ a va M' := c5.tr (fun _ _ => rfl) (fun q g1 g2 g3 => hw q (by omega))
  refine ⟨?_, c1.same hI.1.2.1.2 (fun q g1 g2 => hw q (by omega)) (fun q g1 g2 => hw q (by omega)) (Nat.le_refl _), ?_, ?_, ?_, ?_, ?_, ?_⟩
  · rw [e3]
    exact (hw _ (by omega)).trans c0
  · obtain ⟨τ, i, h⟩ := c2
    exact ⟨τ, i, h.same i.1.2.1.2 (fun q g1 g2 => hw q (by omega)) (fun q g1 g2 => hw q (by omega)) (Nat.le_refl _)⟩
  · obtain ⟨τ, i, h, g⟩ := c3
    rw [e3]
    exact ⟨τ, i, h.same i.1.2.1.2 (fun q g1 g2 => hw q (by omega)) (fun q g1 g2 => hw q (by omega)) (Nat.le_refl _), g⟩
  · rw [upd_at, vup_eq]
    exact hB
  · unfold ShR
    rw [vup_ne (by decide), vup_ne (by decide), vup_ne (by decide)]
    exact hS
  · rw [vup_ne (by decide)]
    exact c6.tr (hw _ (by omega)) (fun _ _ => rfl)
  · obtain ⟨f, h⟩ := c7
    exact ⟨f, (hw _ (by omega)).trans h⟩

set_option maxHeartbeats 1000000 in
theorem x_voiceF {Γ : Cx} {a e z sz : Nat} {σ κ vi : Rw} {va : Nat → Rw} {M : Nat → Option va_E} {K : Int32 → Wd → Prop} (hC : ClsR Γ a e z σ κ vi va M) (hI : Inv σ) (hae : a + 92 ≤ e) (tr : Tr) (ht : vi 19 = nI tr.1 ∧ va 18 = tr.2) {x y w : Int32} (hx : wi x 0 (σ 2 - 1) = false) (k : ∀ M', ClsR Γ a e z σ κ (upd vi 19 (nI (op_voice σ tr x y w).2.2.1)) (va_up (eU va (op_voice σ tr x y w).1) 18 (op_voice σ tr x y w).2.2.2) M' → Off a 92 M M' → K (op_voice σ tr x y w).2.1 (M', sz)) : Spec Γ mX11_voice 8 0 [.ref a, .int x, .int y, .int w] (M, sz) (ci K) := by
  obtain ⟨⟨⟨eH, lH⟩, ⟨eK, lK⟩, ⟨eL, lL⟩, ⟨eA, lA⟩, ⟨eT, lT⟩⟩, iK, iH, iW, iL, iO, iB, hT⟩ := id hI
  
  refine spec_in [some (.ref a), some (.int x), some (.int y), some (.int w), none] 1 (by decide) rfl rfl ?_
  refine ok_aload_n (pc := 0) dX11_voice_0 rfl ?_
  refine ok_getf (pc := 1) dX11_voice_1 fl_X11_10 hC.1 rfl ?_
  refine ok_iload_n (pc := 4) dX11_voice_4 rfl ?_
  refine ok_callVr1 (pc := 5) (d' := 0) dX11_voice_5 vl_X11_91 hC.2.1.o rfl rfl rfl (by decide) ?_
  refine c_kiteAt hC.2.1 eK lK (fun q9 ex9 lx9 hK9 => absurd (wi_k eK lK ex9 lx9) (by rw [hx]; decide)) (fun h9 => ?_)
  refine ok_astoreN4 (pc := 8) dX11_voice_8 (by decide) rfl ?_
  refine ok_aloadN (pc := 10) dX11_voice_10 rfl ?_
  refine ok_ifnullN (pc := 12) 24 dX11_voice_12 (by decide) ?_
  refine ok_aload_n (pc := 24) dX11_voice_24 rfl ?_
  refine ok_iconst (pc := 25) (v := 1) dX11_voice_25 (by decide) ?_
  refine ok_callVi1 (pc := 26) (d' := 1) dX11_voice_26 vl_X11_49 hC.1 rfl rfl rfl (by decide) ?_
  refine c_error hC hI hae 1 rfl (by decide) (by decide) (fun M2 hC2 hO2 => ?_)
  refine ok_iret (pc := 29) dX11_voice_29 rfl ?_
  have hop : op_voice σ tr x y w = (1, -1000000001, tr) := if_neg (by rw [hx, Bool.false_and]; decide)
  rw [hop] at k
  rw [show ((1, -1000000001, tr) : Nat × Int32 × Tr).2.2 = tr from rfl, show ((1, -1000000001, tr) : Nat × Int32 × Tr).1 = 1 from rfl, fa_upd_same ht.1, vup_same ((eU_ne va 1 (by decide)).trans ht.2)] at k
  rw [er_1]
  exact k _ hC2 hO2

set_option maxHeartbeats 1000000 in
theorem x_voiceT {Γ : Cx} {a e z sz : Nat} {σ κ vi : Rw} {va : Nat → Rw} {M : Nat → Option va_E} {K : Int32 → Wd → Prop} (hC : ClsR Γ a e z σ κ vi va M) (hI : Inv σ) (hae : a + 92 ≤ e) (tr : Tr) (ht : vi 19 = nI tr.1 ∧ va 18 = tr.2) {x y w : Int32} (hx : wi x 0 (σ 2 - 1) = true) (k : ∀ M', ClsR Γ a e z σ κ (upd vi 19 (nI (op_voice σ tr x y w).2.2.1)) (va_up (eU va (op_voice σ tr x y w).1) 18 (op_voice σ tr x y w).2.2.2) M' → Off a 92 M M' → K (op_voice σ tr x y w).2.1 (M', sz)) : Spec Γ mX11_voice 8 0 [.ref a, .int x, .int y, .int w] (M, sz) (ci K) := by
  obtain ⟨⟨⟨eH, lH⟩, ⟨eK, lK⟩, ⟨eL, lL⟩, ⟨eA, lA⟩, ⟨eT, lT⟩⟩, iK, iH, iW, iL, iO, iB, hT⟩ := id hI
  
  refine spec_in [some (.ref a), some (.int x), some (.int y), some (.int w), none] 1 (by decide) rfl rfl ?_
  refine ok_aload_n (pc := 0) dX11_voice_0 rfl ?_
  refine ok_getf (pc := 1) dX11_voice_1 fl_X11_10 hC.1 rfl ?_
  refine ok_iload_n (pc := 4) dX11_voice_4 rfl ?_
  refine ok_callVr1 (pc := 5) (d' := 0) dX11_voice_5 vl_X11_91 hC.2.1.o rfl rfl rfl (by decide) ?_
  refine c_kiteAt hC.2.1 eK lK (fun q9 ex9 lx9 hK9 => ?_) (fun h9 => absurd h9 (by rw [hx]; decide))
  refine ok_astore4 (pc := 8) dX11_voice_8 (by decide) rfl ?_
  refine ok_aload (pc := 10) dX11_voice_10 rfl ?_
  refine ok_ifnull (pc := 12) dX11_voice_12 ?_
  refine ok_iload_n (pc := 15) dX11_voice_15 rfl ?_
  refine ok_iconst (pc := 16) (v := 0) dX11_voice_16 (by decide) ?_
  refine ok_iconst (pc := 17) (v := 3) dX11_voice_17 (by decide) ?_
  refine ok_callSi3 (pc := 18) (d' := 0) dX11_voice_18 sl_X11_45 rfl (by decide) ?_
  refine c_within ?_
  refine ok_if_ne (pc := 21) 30 dX11_voice_21 (by decide) (fun cc_21 => ?_) (fun cc_21 => ?_)
  · have cq_21 := bI_n0.mp cc_21
    refine ok_aload_n (pc := 30) dX11_voice_30 rfl ?_
    refine ok_getf (pc := 31) dX11_voice_31 fl_X11_27 hC.1 rfl ?_
    refine ok_callVv0 (pc := 34) (d' := 0) dX11_voice_34 vl_X11_159 hC.2.2.2.2.1.1 rfl rfl rfl (by decide) ?_
    have hK6 := (hI.2.1 (iN x) lx9).2.2.1
    have hxo : M (a + 79) = some (.inr (6, [.ref (a + 79 + 1), .int (vi 19)])) := hC.2.2.2.2.1.1
    obtain ⟨-, fb, fb1, fb2⟩ := id hC.2.2.2.2.1
    refine c_clear hxo fb1 ?_
    have hc9 : ∀ q9, q9 < a + 79 ∨ a + 81 ≤ q9 → va_up M (a + 79) (some (.inr (6, [.ref (a + 79 + 1), .int 0]))) q9 = M q9 := fun q9 hq9 => up_ne (by omega)
    have hb0 : rwR Γ (va_up M (a + 79) (some (.inr (6, [.ref (a + 79 + 1), .int 0])))) (a + 79) 40 (nI 0) tr.2 := ⟨up_eq, fb, (up_ne (by omega)).trans fb1, fun j hj => absurd hj (by rw [show iN (nI 0) = 0 from rfl]; exact Nat.not_lt_zero j)⟩
    have hqe := hK9.1.1
    have hK9 : KtQ e z σ (iN x) q9 (va_up M (a + 79) (some (.inr (6, [.ref (a + 79 + 1), .int 0])))) := ⟨hK9.1, (hc9 q9 (by omega)).trans hK9.2⟩
    have hx1 : va_up M (a + 79) (some (.inr (6, [.ref (a + 79 + 1), .int 0]))) a = some (.inr (11, xfs a (vi 3))) := (hc9 a (by omega)).trans hC.1
    refine ok_iload_n (pc := 37) dX11_voice_37 rfl ?_
    by_cases sw38_0 : y = 0
    · refine ok_table (pc := 38) 64 dX11_voice_38 (by rw [sw38_0]; decide) (by rw [sw38_0]; decide) (by rw [sw38_0]; rfl) (by decide) ?_
      refine ok_aload (pc := 64) dX11_voice_64 rfl ?_
      refine ok_iload_n (pc := 66) dX11_voice_66 rfl ?_
      refine ok_aload_n (pc := 67) dX11_voice_67 rfl ?_
      refine ok_getf (pc := 68) dX11_voice_68 fl_X11_27 hx1 rfl ?_
      refine ok_vli (s := (0, tr.2)) dX11_voice_71 hK9 hK6 (Or.inr (by omega)) hb0 (Nat.zero_le _) (fun M8 hb9 hs9 hO8 => ?_)
      refine ok_iret (pc := 74) dX11_voice_74 rfl ?_
      have hop : op_voice σ tr x y w = (0, vLi (kf σ (iN x) 0) (nI (iN x)) w (0, tr.2)) := (if_pos (by rw [hx, cq_21]; rfl)).trans (congrArg (Prod.mk 0) (by rw [sw38_0]; rfl))
      rw [hop] at k
      rw [eU_0] at k
      have hC9 := hC.bo hI hae hb9 (fun q9 hq9 => (hO8 q9 (by omega)).trans (hc9 q9 (by omega)))
      exact k _ hC9 (fun q9 hq9 => (hO8 q9 (by omega)).trans (hc9 q9 (by omega)))
    by_cases sw38_1 : y = 1
    · refine ok_table (pc := 38) 75 dX11_voice_38 (by rw [sw38_1]; decide) (by rw [sw38_1]; decide) (by rw [sw38_1]; rfl) (by decide) ?_
      refine ok_aload (pc := 75) dX11_voice_75 rfl ?_
      refine ok_iload_n (pc := 77) dX11_voice_77 rfl ?_
      refine ok_aload_n (pc := 78) dX11_voice_78 rfl ?_
      refine ok_getf (pc := 79) dX11_voice_79 fl_X11_27 hx1 rfl ?_
      refine ok_vsw (s := (0, tr.2)) dX11_voice_82 hK9 hK6 (Or.inr (by omega)) hb0 (Nat.zero_le _) (fun M8 hb9 hs9 hO8 => ?_)
      refine ok_iret (pc := 85) dX11_voice_85 rfl ?_
      have hop : op_voice σ tr x y w = (0, vSw (kf σ (iN x) 0) (nI (iN x)) (kf σ (iN x) 1) w (0, tr.2)) := (if_pos (by rw [hx, cq_21]; rfl)).trans (congrArg (Prod.mk 0) (by rw [sw38_1]; rfl))
      rw [hop] at k
      rw [eU_0] at k
      have hC9 := hC.bo hI hae hb9 (fun q9 hq9 => (hO8 q9 (by omega)).trans (hc9 q9 (by omega)))
      exact k _ hC9 (fun q9 hq9 => (hO8 q9 (by omega)).trans (hc9 q9 (by omega)))
    by_cases sw38_2 : y = 2
    · refine ok_table (pc := 38) 86 dX11_voice_38 (by rw [sw38_2]; decide) (by rw [sw38_2]; decide) (by rw [sw38_2]; rfl) (by decide) ?_
      refine ok_aload (pc := 86) dX11_voice_86 rfl ?_
      refine ok_iload_n (pc := 88) dX11_voice_88 rfl ?_
      refine ok_aload_n (pc := 89) dX11_voice_89 rfl ?_
      refine ok_getf (pc := 90) dX11_voice_90 fl_X11_27 hx1 rfl ?_
      refine ok_vsi (s := (0, tr.2)) dX11_voice_93 hK9 hK6 (Or.inr (by omega)) hb0 (Nat.zero_le _) (fun M8 hb9 hs9 hO8 => ?_)
      refine ok_iret (pc := 96) dX11_voice_96 rfl ?_
      have hop : op_voice σ tr x y w = (0, vSi (kf σ (iN x) 0) (nI (iN x)) (kf σ (iN x) 1) w (0, tr.2)) := (if_pos (by rw [hx, cq_21]; rfl)).trans (congrArg (Prod.mk 0) (by rw [sw38_2]; rfl))
      rw [hop] at k
      rw [eU_0] at k
      have hC9 := hC.bo hI hae hb9 (fun q9 hq9 => (hO8 q9 (by omega)).trans (hc9 q9 (by omega)))
      exact k _ hC9 (fun q9 hq9 => (hO8 q9 (by omega)).trans (hc9 q9 (by omega)))
    refine ok_tableOut (pc := 38) 97 dX11_voice_38 (by have h := tab_out (0) 3 (by decide) (by decide) (fun j hj => by match j, hj with | 0, _ => exact (fun h => sw38_0 (h.trans (by decide))) | 1, _ => exact (fun h => sw38_1 (h.trans (by decide))) | 2, _ => exact (fun h => sw38_2 (h.trans (by decide)))); exact h) (by decide) ?_
    refine ok_aload (pc := 97) dX11_voice_97 rfl ?_
    refine ok_iload_n (pc := 99) dX11_voice_99 rfl ?_
    refine ok_aload_n (pc := 100) dX11_voice_100 rfl ?_
    refine ok_getf (pc := 101) dX11_voice_101 fl_X11_27 hx1 rfl ?_
    refine ok_vte (s := (0, tr.2)) dX11_voice_104 hK9 hK6 (Or.inr (by omega)) hb0 (Nat.zero_le _) (fun M8 hb9 hs9 hO8 => ?_)
    refine ok_iret (pc := 107) dX11_voice_107 rfl ?_
    have y3 : y = 3 := by
      obtain ⟨ey9, -, ly9⟩ := wi_lit (a := 0) (c := 3) rfl rfl (by decide) (by decide) cq_21
      rcases (show iN y = 0 ∨ iN y = 1 ∨ iN y = 2 ∨ iN y = 3 by omega) with g | g | g | g <;> rw [g] at ey9
      · exact absurd ey9 sw38_0
      · exact absurd ey9 sw38_1
      · exact absurd ey9 sw38_2
      · exact ey9
    have hop : op_voice σ tr x y w = (0, vTe (kf σ (iN x) 0) (nI (iN x)) (kf σ (iN x) 1) w (0, tr.2)) := (if_pos (by rw [hx, cq_21]; rfl)).trans (congrArg (Prod.mk 0) (by rw [y3]; rfl))
    rw [hop] at k
    rw [eU_0] at k
    have hC9 := hC.bo hI hae hb9 (fun q9 hq9 => (hO8 q9 (by omega)).trans (hc9 q9 (by omega)))
    exact k _ hC9 (fun q9 hq9 => (hO8 q9 (by omega)).trans (hc9 q9 (by omega)))
  · have cq_21 := bI_0.mp cc_21
    refine ok_aload_n (pc := 24) dX11_voice_24 rfl ?_
    refine ok_iconst (pc := 25) (v := 1) dX11_voice_25 (by decide) ?_
    refine ok_callVi1 (pc := 26) (d' := 1) dX11_voice_26 vl_X11_49 hC.1 rfl rfl rfl (by decide) ?_
    refine c_error hC hI hae 1 rfl (by decide) (by decide) (fun M2 hC2 hO2 => ?_)
    refine ok_iret (pc := 29) dX11_voice_29 rfl ?_
    have hop : op_voice σ tr x y w = (1, -1000000001, tr) := if_neg (by rw [cq_21, Bool.and_false]; decide)
    rw [hop] at k
    rw [show ((1, -1000000001, tr) : Nat × Int32 × Tr).2.2 = tr from rfl, show ((1, -1000000001, tr) : Nat × Int32 × Tr).1 = 1 from rfl, fa_upd_same ht.1, vup_same ((eU_ne va 1 (by decide)).trans ht.2)] at k
    rw [er_1]
    exact k _ hC2 hO2

theorem x_voice {Γ : Cx} {a e z sz : Nat} {σ κ vi : Rw} {va : Nat → Rw} {M : Nat → Option va_E} {K : Int32 → Wd → Prop} (hC : ClsR Γ a e z σ κ vi va M) (hI : Inv σ) (hae : a + 92 ≤ e) (tr : Tr) (ht : vi 19 = nI tr.1 ∧ va 18 = tr.2) {x y w : Int32} (k : ∀ M', ClsR Γ a e z σ κ (upd vi 19 (nI (op_voice σ tr x y w).2.2.1)) (va_up (eU va (op_voice σ tr x y w).1) 18 (op_voice σ tr x y w).2.2.2) M' → Off a 92 M M' → K (op_voice σ tr x y w).2.1 (M', sz)) : Spec Γ mX11_voice 8 0 [.ref a, .int x, .int y, .int w] (M, sz) (ci K) := by
  cases hx : wi x 0 (σ 2 - 1) with
  | true => exact x_voiceT hC hI hae tr ht hx k
  | false => exact x_voiceF hC hI hae tr ht hx k
