set_option maxHeartbeats 1000000 in
theorem x_law {Γ : Cx} {a e z sz : Nat} {σ κ vi : Rw} {va : Nat → Rw} {M : Nat → Option va_E} {K : Int32 → Wd → Prop} (hC : ClsR Γ a e z σ κ vi va M) (hI : Inv σ) (hae : a + 92 ≤ e) {x y w u v : Int32} (k : ∀ M', ClsR Γ a e z σ κ vi (eU va (op_law σ x y w u v).1) M' → Off a 92 M M' → K (op_law σ x y w u v).2 (M', sz)) : Spec Γ mX11_law 2 0 [.ref a, .int x, .int y, .int w, .int u, .int v] (M, sz) (ci K) := by
  obtain ⟨⟨⟨eH, lH⟩, ⟨eK, lK⟩, ⟨eL, lL⟩, ⟨eA, lA⟩, ⟨eT, lT⟩⟩, iK, iH, iW, iL, iO, iB, hT⟩ := id hI
  obtain ⟨⟨tp9, pl9, fa9, hli⟩, -⟩ := id hC.2.1.li
  obtain ⟨⟨tp8, pl8, fa8, hpa⟩, -⟩ := id hC.2.1.pa
  
  refine spec_in [some (.ref a), some (.int x), some (.int y), some (.int w), some (.int u), some (.int v)] 0 (by decide) rfl rfl ?_
  refine ok_iload_n (pc := 0) dX11_law_0 rfl ?_
  by_cases sw1_0 : x = 0
  · refine ok_lookup (pc := 1) (off := 27) 28 dX11_law_1 (by decide) (by rw [sw1_0]; rfl) (by decide) ?_
    refine ok_aload_n (pc := 28) dX11_law_28 rfl ?_
    refine ok_getf (pc := 29) dX11_law_29 fl_X11_10 hC.1 rfl ?_
    refine ok_getf (pc := 32) dX11_law_32 fl_X11_146 hC.2.1.o rfl ?_
    refine ok_iload_n (pc := 35) dX11_law_35 rfl ?_
    refine ok_iload_n (pc := 36) dX11_law_36 rfl ?_
    refine ok_iload (pc := 37) dX11_law_37 rfl ?_
    refine ok_iload (pc := 39) dX11_law_39 rfl ?_
    refine ok_callVi4 (pc := 41) (d' := 1) dX11_law_41 vl_X11_162 hli rfl rfl rfl (by decide) ?_
    refine c_givenBy hC.2.1.li (by decide) (hT 0 (by decide)) (fun M9 hR9 hQ9 => ?_)
    have hP9 : PstR Γ (a + 1) e z σ M9 := hC.2.1.tx (fun q9 hq9 => hQ9 q9 (by omega)) (by omega) lK hR9 (hC.2.1.pa.same (fun q9 g1 g2 => hQ9 q9 (by omega)))
    have hO9 : Off (a + 1) 26 M M9 := hQ9.sub (by omega) (by omega)
    have hC9 := hC.po hI hae hP9 (fun q hq => hO9 q (by omega))
    have hO : Off a 92 M M9 := hO9.sub (by omega) (by omega)
    refine ok_iret (pc := 44) dX11_law_44 rfl ?_
    have hop : op_law σ x y w u v = (0, givF σ 0 y w u v) := by rw [sw1_0]; rfl
    rw [hop] at k
    rw [eU_0] at k
    exact k _ hC9 hO
  by_cases sw1_1 : x = 1
  · refine ok_lookup (pc := 1) (off := 44) 45 dX11_law_1 (by decide) (by rw [sw1_1]; rfl) (by decide) ?_
    refine ok_aload_n (pc := 45) dX11_law_45 rfl ?_
    refine ok_getf (pc := 46) dX11_law_46 fl_X11_10 hC.1 rfl ?_
    refine ok_getf (pc := 49) dX11_law_49 fl_X11_150 hC.2.1.o rfl ?_
    refine ok_iload_n (pc := 52) dX11_law_52 rfl ?_
    refine ok_iload_n (pc := 53) dX11_law_53 rfl ?_
    refine ok_iload (pc := 54) dX11_law_54 rfl ?_
    refine ok_iload (pc := 56) dX11_law_56 rfl ?_
    refine ok_callVi4 (pc := 58) (d' := 1) dX11_law_58 vl_X11_162 hpa rfl rfl rfl (by decide) ?_
    refine c_givenBy hC.2.1.pa (by decide) (hT 1 (by decide)) (fun M9 hR9 hQ9 => ?_)
    have hP9 : PstR Γ (a + 1) e z σ M9 := hC.2.1.tx (fun q9 hq9 => hQ9 q9 (by omega)) (by omega) lK (hC.2.1.li.same (fun q9 g1 g2 => hQ9 q9 (by omega))) hR9
    have hO9 : Off (a + 1) 26 M M9 := hQ9.sub (by omega) (by omega)
    have hC9 := hC.po hI hae hP9 (fun q hq => hO9 q (by omega))
    have hO : Off a 92 M M9 := hO9.sub (by omega) (by omega)
    refine ok_iret (pc := 61) dX11_law_61 rfl ?_
    have hop : op_law σ x y w u v = (0, givF σ 1 y w u v) := by rw [sw1_1]; rfl
    rw [hop] at k
    rw [eU_0] at k
    exact k _ hC9 hO
  refine ok_lookup (pc := 1) (off := 61) 62 dX11_law_1 (by decide) (by show (if (0 : Int) = (x).toInt then (27 : Int) else if (1 : Int) = (x).toInt then (44 : Int) else (61 : Int)) = _; rw [if_neg (fun h => sw1_0 ((fa_eq _ _).mpr h.symm))]; rw [if_neg (fun h => sw1_1 ((fa_eq _ _).mpr h.symm))]) (by decide) ?_
  refine ok_aload_n (pc := 62) dX11_law_62 rfl ?_
  refine ok_iconst (pc := 63) (v := 1) dX11_law_63 (by decide) ?_
  refine ok_callVi1 (pc := 64) (d' := 1) dX11_law_64 vl_X11_49 hC.1 rfl rfl rfl (by decide) ?_
  refine c_error hC hI hae 1 rfl (by decide) (by decide) (fun M2 hC2 hO2 => ?_)
  refine ok_iret (pc := 67) dX11_law_67 rfl ?_
  have hop : op_law σ x y w u v = (1, -1000000001) := if_neg (fun h => by obtain ⟨e9, -, l9⟩ := wi_lit (a := 0) (c := 1) rfl rfl (by decide) (by decide) h; rcases (show iN x = 0 ∨ iN x = 1 by omega) with g | g <;> rw [g] at e9; exact sw1_0 e9; exact sw1_1 e9)
  rw [hop] at k
  rw [er_1]
  exact k _ hC2 hO2
