theorem fr_s (σ : Rw) (f t : Nat) (w : Int32) (j : Nat) : frS σ f t w (j + 1) = if takF σ (nI (xyN j)) (cH σ) then frS σ f t w j else if 0 < soA (frW σ (nI (xyN j))) f t w 72 0 ∧ ((frS σ f t w j).1 < 0 ∨ soA (frW σ (nI (xyN j))) f t w 72 0 < (frS σ f t w j).2) then (nI (xyN j), soA (frW σ (nI (xyN j))) f t w 72 0) else frS σ f t w j := rfl
/-- what the class keeps of the places ahead of j -/
def FrK (σ : Rw) (f t : Nat) (w : Int32) (j L : Nat) (lp : Int32) : Prop := (lp = -1 ∧ (frS σ f t w j).1 = -1 ∧ L = 73) ∨ (lp = (frS σ f t w j).1 ∧ 0 ≤ lp ∧ (frS σ f t w j).2 = nI L ∧ L ≤ 72)
theorem fr_up {σ : Rw} {f t : Nat} {w : Int32} {j L : Nat} {lp : Int32} (hn : takF σ (nI (xyN j)) (cH σ) = false) (h1 : 1 ≤ L) (h2 : L ≤ 73) (hs : FrK σ f t w j L lp) :
    (0 < soA (frW σ (nI (xyN j))) f t w (L - 1) 0 → frS σ f t w (j + 1) = (nI (xyN j), soA (frW σ (nI (xyN j))) f t w (L - 1) 0) ∧ ∃ k, soA (frW σ (nI (xyN j))) f t w (L - 1) 0 = nI k ∧ 1 ≤ k ∧ k ≤ L - 1) ∧ (¬ 0 < soA (frW σ (nI (xyN j))) f t w (L - 1) 0 → frS σ f t w (j + 1) = frS σ f t w j) := by
  have hB := so_app (σ := frW σ (nI (xyN j))) (f := f) (t := t) (w := w) (73 - L) (L - 1) 0 (by omega)
  rw [show L - 1 + (73 - L) = 72 by omega] at hB
  rw [fr_s, if_neg (by rw [hn]; decide)]
  rcases so_val (σ := frW σ (nI (xyN j))) (f := f) (t := t) (w := w) (L - 1) 0 with h | ⟨k, g1, g2, g3⟩
  · rw [h]
    refine ⟨fun h9 => absurd h9 (by decide), fun _ => if_neg (fun h9 => ?_)⟩
    rw [if_pos h] at hB
    rcases so_val (σ := frW σ (nI (xyN j))) (f := f) (t := t) (w := w) (73 - L) (0 + (L - 1)) with g | ⟨k, g1, g2, g3⟩
    · rw [hB, g] at h9
      exact absurd h9.1 (by decide)
    · rw [hB, g1] at h9
      rcases hs with ⟨-, -, s3⟩ | ⟨s1, s2, s3, s4⟩
      · omega
      · rcases h9.2 with h8 | h8
        · rw [← s1] at h8
          exact absurd s2 (Int32.not_le.mpr h8)
        · rw [s3] at h8
          exact absurd h8 (Int32.not_lt.mpr (nI_le (by omega) (by omega)))
  · have hp : 0 < nI k := nI_lt (a := 0) (by omega) (by omega)
    rw [g1] at hB ⊢
    rw [if_neg (m1_nI (by omega))] at hB
    refine ⟨fun _ => ⟨?_, k, rfl, by omega, by omega⟩, fun h9 => absurd hp h9⟩
    rw [hB]
    refine if_pos ⟨hp, ?_⟩
    rcases hs with ⟨-, s2, -⟩ | ⟨s1, s2, s3, s4⟩
    · left; rw [s2]; decide
    · right; rw [s3]; exact nI_lt (by omega) (by omega)
theorem fr_stop {σ : Rw} {f t : Nat} {w : Int32} {j : Nat} (h1 : 0 ≤ (frS σ f t w j).1) (h2 : (frS σ f t w j).2 = nI 1) : ∀ m, frS σ f t w (j + m) = frS σ f t w j
  | 0 => rfl
  | m + 1 => by
    rw [show j + (m + 1) = (j + m) + 1 by omega, fr_s, fr_stop h1 h2 m]
    split
    · rfl
    · refine if_neg (fun h9 => ?_)
      rcases h9.2 with h8 | h8
      · exact absurd h1 (Int32.not_le.mpr h8)
      · rw [h2] at h8
        rcases so_val (σ := frW σ (nI (xyN (j + m)))) (f := f) (t := t) (w := w) 72 0 with g | ⟨k, g1, g2, g3⟩
        · rw [g] at h9
          exact absurd h9.1 (by decide)
        · rw [g1] at h8
          exact absurd h8 (Int32.not_lt.mpr (nI_le (by omega) (by omega)))

set_option maxHeartbeats 1000000 in
theorem x_fr207 {Γ : Cx} {a e z sz : Nat} {σ κ vi : Rw} {va : Nat → Rw} {M : Nat → Option va_E} {K : Int32 → Wd → Prop} (hC : ClsR Γ a e z σ κ vi va M) (hI : Inv σ) (hae : a + 92 ≤ e) {M0 : Nat → Option va_E} {x y w v xs : Int32} {f t : Nat} {least lp xi : Int32} {l9 l10 : Option Value} (hop : op_fresh σ x y w v = if (frS σ f t w 64).1 < 0 then (2, -1000000002) else (0, if v = 0 then (frS σ f t w 64).1 else (frS σ f t w 64).2)) (hO : Off a 92 M0 M) (hs : (lp = -1 ∧ (frS σ f t w 64).1 = -1) ∨ (lp = (frS σ f t w 64).1 ∧ 0 ≤ lp ∧ (frS σ f t w 64).2 = least)) (k : ∀ M', ClsR Γ a e z σ κ vi (eU va (op_fresh σ x y w v).1) M' → Off a 92 M0 M' → K (op_fresh σ x y w v).2 (M', sz)) : Ok Γ mX11_fresh 6 0 207 [some (.ref a), some (.int x), some (.int y), some (.int w), some (.int v), some (.int xs), some (.int least), some (.int lp), some (.int xi), l9, l10] [] (M, sz) (ci K) := by
  refine ok_iload (pc := 207) dX11_fresh_207 rfl ?_
  refine ok_if_ge (pc := 209) 218 dX11_fresh_209 (by decide) (fun cc_209 => ?_) (fun cc_209 => ?_)
  · have ce_209 := Int32.not_lt.mpr cc_209
    refine ok_iload (pc := 218) dX11_fresh_218 rfl ?_
    refine ok_if_ne (pc := 220) 228 dX11_fresh_220 (by decide) (fun cc_220 => ?_) (fun cc_220 => ?_)
    · refine ok_iload (pc := 228) dX11_fresh_228 rfl ?_
      refine ok_iret (pc := 230) dX11_fresh_230 rfl ?_
      rcases hs with ⟨s1, -⟩ | ⟨s1, s2, s3⟩
      · rw [s1] at cc_209
        exact absurd cc_209 (by decide)
      · rw [hop, if_neg (by rw [← s1]; exact Int32.not_lt.mpr s2)] at k
        rw [eU_0] at k
        first
          | (rw [if_pos cc_220, ← s1] at k; exact k _ hC hO)
          | (rw [if_neg cc_220, s3] at k; exact k _ hC hO)
    · refine ok_iload (pc := 223) dX11_fresh_223 rfl ?_
      refine ok_goto (pc := 225) 230 dX11_fresh_225 (by decide) ?_
      refine ok_iret (pc := 230) dX11_fresh_230 rfl ?_
      rcases hs with ⟨s1, -⟩ | ⟨s1, s2, s3⟩
      · rw [s1] at cc_209
        exact absurd cc_209 (by decide)
      · rw [hop, if_neg (by rw [← s1]; exact Int32.not_lt.mpr s2)] at k
        rw [eU_0] at k
        first
          | (rw [if_pos cc_220, ← s1] at k; exact k _ hC hO)
          | (rw [if_neg cc_220, s3] at k; exact k _ hC hO)
  · have ce_209 := Int32.not_le.mp cc_209
    refine ok_aload_n (pc := 212) dX11_fresh_212 rfl ?_
    refine ok_iconst (pc := 213) (v := 2) dX11_fresh_213 (by decide) ?_
    refine ok_callVi1 (pc := 214) (d' := 1) dX11_fresh_214 vl_X11_49 hC.1 rfl rfl rfl (by decide) ?_
    refine c_error hC hI hae 2 rfl (by decide) (by decide) (fun M2 hC2 hO2 => ?_)
    refine ok_iret (pc := 217) dX11_fresh_217 rfl ?_
    have e1 : (frS σ f t w 64).1 < 0 := by
      rcases hs with ⟨-, s2⟩ | ⟨-, s2, -⟩
      · rw [s2]; decide
      · exact absurd s2 cc_209
    rw [hop, if_pos e1] at k
    rw [er_2]
    exact k _ hC2 (hO.trans hO2)

set_option maxHeartbeats 1000000 in
theorem lx_fresh {Γ : Cx} {a e z sz : Nat} {σ κ vi : Rw} {va : Nat → Rw} {K : Int32 → Wd → Prop} (hI : Inv σ) (hae : a + 92 ≤ e) (hez : e ≤ z) {M0 : Nat → Option va_E} {x y w v xs : Int32} {f t : Nat} (hc9 : cT σ ≤ 9999) (ef : x = nI f) (et : y = nI t) (lf9 : f < 9) (lt9 : t < 9) (w0 : 0 ≤ w) (w9 : w ≤ 999) (hH : cH σ < 9) (hK : cK σ < 8) (exs : xs = nI (cH σ)) (hop : op_fresh σ x y w v = if (frS σ f t w 64).1 < 0 then (2, -1000000002) else (0, if v = 0 then (frS σ f t w 64).1 else (frS σ f t w 64).2)) (k : ∀ M', ClsR Γ a e z σ κ vi (eU va (op_fresh σ x y w v).1) M' → Off a 92 M0 M' → K (op_fresh σ x y w v).2 (M', sz)) : ∀ (n : Nat) (j : Nat) (L : Nat) (u : Int32) (least : Int32) (lp : Int32) (xi : Int32) (l9 : Option Value) (l10 : Option Value) (M : Nat → Option va_E), j + n = 64 → xi = nI j → least = nI L → 1 ≤ L → L ≤ 73 → FrK σ f t w j L lp → ClsA Γ a e z σ κ vi va M → PstR Γ (a + 27) e z (frW σ u) M → (Inv (frW σ u) ∨ (L = 73 ∧ ∀ i9, i9 < j → takF σ (nI (xyN i9)) (cH σ) = true)) → Off a 92 M0 M → Ok Γ mX11_fresh 6 0 115 [some (.ref a), some (.int x), some (.int y), some (.int w), some (.int v), some (.int xs), some (.int least), some (.int lp), some (.int xi), l9, l10] [] (M, sz) (ci K) := by
  obtain ⟨⟨⟨eH, lH⟩, ⟨eK, lK⟩, ⟨eL, lL⟩, ⟨eA, lA⟩, ⟨eT, lT⟩⟩, iK, iH, iW, iL, iO, iB, hT⟩ := id hI
  
  intro n
  induction n with
  | zero =>
    intro j L u least lp xi l9 l10 M h1 ei eL hL1 hL2 hs hA hah hu hO
    refine ok_iload (pc := 115) dX11_fresh_115 rfl ?_
    refine ok_bipush (pc := 117) (v := 64) dX11_fresh_117 (by decide) ?_
    refine ok_icmp_ge (pc := 119) 207 dX11_fresh_119 (by decide) (fun cc_119 => ?_) (fun cc_119 => ?_)
    · have e9 : j = 64 := by omega
      subst e9
      have hI9 : Inv (frW σ u) := hu.resolve_right (fun h => tak_not hH h.2)
      exact x_fr207 (hA.toR hI9 hah) hI hae hop hO (hs.imp (fun g => ⟨g.1, g.2.1⟩) (fun g => ⟨g.1, g.2.1, g.2.2.1.trans eL.symm⟩)) k
    · exact absurd (by rw [ei]; exact nI_le (a := 64) (by omega) (by omega)) cc_119
  | succ n ih =>
    intro j L u least lp xi l9 l10 M h1 ei eL hL1 hL2 hs hA hah hu hO
    refine ok_iload (pc := 115) dX11_fresh_115 rfl ?_
    refine ok_bipush (pc := 117) (v := 64) dX11_fresh_117 (by decide) ?_
    refine ok_icmp_ge (pc := 119) 207 dX11_fresh_119 (by decide) (fun cc_119 => ?_) (fun cc_119 => ?_)
    · rw [ei] at cc_119
      exact absurd cc_119 (nI_ge (b := 64) (by omega) (by omega))
    · have ce_119 := Int32.not_le.mp cc_119
      refine ok_iload (pc := 122) dX11_fresh_122 rfl ?_
      refine ok_iconst (pc := 124) (v := 1) dX11_fresh_124 (by decide) ?_
      refine ok_icmp_le (pc := 125) 207 dX11_fresh_125 (by decide) (fun cc_125 => ?_) (fun cc_125 => ?_)
      · have l1 : L = 1 := by
          rw [eL] at cc_125
          have h9 := (nI_leI (b := 1) (by omega) (by decide)).mp cc_125
          omega
        subst l1
        rcases hs with ⟨-, -, s3⟩ | ⟨s1, s2, s3, s4⟩
        · exact absurd s3 (by decide)
        · have hI9 : Inv (frW σ u) := hu.resolve_right (fun h => absurd h.1 (by decide))
          have hst := fr_stop (by rw [← s1]; exact s2) s3 (64 - j)
          rw [show j + (64 - j) = 64 by omega] at hst
          exact x_fr207 (hA.toR hI9 hah) hI hae hop hO (Or.inr ⟨by rw [hst]; exact s1, s2, by rw [hst, eL]; exact s3⟩) k
      · have ce_125 := Int32.not_le.mp cc_125
        refine ok_bipush (pc := 128) (v := 32) dX11_fresh_128 (by decide) ?_
        refine ok_iload (pc := 130) dX11_fresh_130 rfl ?_
        refine ok_bipush (pc := 132) (v := 8) dX11_fresh_132 (by decide) ?_
        refine ok_idiv (pc := 134) dX11_fresh_134 (by decide) ?_
        refine ok_imul (pc := 135) dX11_fresh_135 ?_
        refine ok_iconst (pc := 136) (v := 2) dX11_fresh_136 (by decide) ?_
        refine ok_iload (pc := 137) dX11_fresh_137 rfl ?_
        refine ok_bipush (pc := 139) (v := 8) dX11_fresh_139 (by decide) ?_
        refine ok_irem (pc := 141) dX11_fresh_141 (by decide) ?_
        refine ok_imul (pc := 142) dX11_fresh_142 ?_
        refine ok_iadd (pc := 143) dX11_fresh_143 ?_
        rw [show (32 * (xi / 8) + 2 * jrem xi 8 : Int32) = nI (xyN j) from by
          obtain ⟨g1, g2⟩ := dv_n (x := nI j) (q := 8) (nI_pos' (by omega)) (by decide) (by decide)
          have g3 : iN (nI j) = j := nI_clamp (by omega)
          rw [g3] at g1 g2
          rw [ei]
          calc (32 * (nI j / 8) + 2 * jrem (nI j) 8 : Int32) = nI 32 * nI (j / 8) + nI 2 * nI (j % 8) := by rw [← g1, ← g2]; rfl
            _ = nI (xyN j) := by rw [pk_mul, pk_mul, nI_add]; rfl]
        refine ok_istore9 (pc := 144) dX11_fresh_144 (by decide) rfl ?_
        refine ok_aload_n (pc := 146) dX11_fresh_146 rfl ?_
        refine ok_getf (pc := 147) dX11_fresh_147 fl_X11_10 hA.1 rfl ?_
        refine ok_iload (pc := 150) dX11_fresh_150 rfl ?_
        refine ok_callVi1 (pc := 152) (d' := 2) dX11_fresh_152 vl_X11_53 hA.2.1.o rfl rfl rfl (by decide) ?_
        refine c_hillAt hA.2.1 eH lH (fun r9 hr1 hr2 => ?_)
        refine ok_if_lt (pc := 155) 161 dX11_fresh_155 (by decide) (fun cc_155 => ?_) (fun cc_155 => ?_)
        · have ce_155 := Int32.not_le.mpr cc_155
          have htk : takF σ (nI (xyN j)) (cH σ) = false := by
            cases c9 : takF σ (nI (xyN j)) (cH σ) with
            | false => rfl
            | true => exact absurd cc_155 (Int32.not_lt.mpr (hr1 c9))
          refine ok_aload_n (pc := 161) dX11_fresh_161 rfl ?_
          refine ok_getf (pc := 162) dX11_fresh_162 fl_X11_16 hA.1 rfl ?_
          refine ok_iload (pc := 165) dX11_fresh_165 rfl ?_
          refine ok_iload (pc := 167) dX11_fresh_167 rfl ?_
          refine ok_callVv2 (pc := 169) (d' := 1) dX11_fresh_169 vl_X11_222 hah.o rfl rfl rfl (by decide) ?_
          obtain ⟨f1, f2⟩ := fr_1 eH hH u
          refine c_changePlace hah (fr_bd hI hH hK u) (by omega) (by rw [f2]; exact f1) (by omega) (cH σ) exs (by omega) (fun M9 hah hO9 => ?_)
          rw [fr_pl hH] at hah
          have hA := hA.mv hI hae hez (Nat.le_refl z) (Nat.le_refl z) (fun q g1 g2 => hO9 q (by omega))
          have hO := hO.trans (hO9.sub (a := a) (n := 92) (by omega) (by omega))
          obtain ⟨iW9, cT9⟩ := frW_ok hI (show xyN j < 256 by unfold xyN; omega) hH hK htk
          refine ok_aload_n (pc := 172) dX11_fresh_172 rfl ?_
          refine ok_getf (pc := 173) dX11_fresh_173 fl_X11_16 hA.1 rfl ?_
          refine ok_iload_n (pc := 176) dX11_fresh_176 rfl ?_
          refine ok_iload_n (pc := 177) dX11_fresh_177 rfl ?_
          refine ok_iload_n (pc := 178) dX11_fresh_178 rfl ?_
          refine ok_iload (pc := 179) dX11_fresh_179 rfl ?_
          refine ok_iconst (pc := 181) (v := 1) dX11_fresh_181 (by decide) ?_
          refine ok_isub (pc := 182) dX11_fresh_182 ?_
          refine ok_callVi4 (pc := 183) (d' := 5) dX11_fresh_183 vl_X11_208 hah.o rfl rfl rfl (by decide) ?_
          have elim : least - 1 = nI (L - 1) := by rw [eL]; exact pk_sub (b := 1) hL1
          refine c_fewestHours hah iW9 (by omega) f t (L - 1) ef et elim lf9 lt9 (by omega) w0 w9 (by omega) (fun M9 hah hO9 => ?_)
          have hA := hA.mv hI hae hez (Nat.le_refl z) (Nat.le_refl z) (fun q g1 g2 => hO9 q (by omega))
          have hO := hO.trans (hO9.sub (a := a) (n := 92) (by omega) (by omega))
          refine ok_istore10 (pc := 186) dX11_fresh_186 (by decide) rfl ?_
          refine ok_iload (pc := 188) dX11_fresh_188 rfl ?_
          refine ok_if_le (pc := 190) 201 dX11_fresh_190 (by decide) (fun cc_190 => ?_) (fun cc_190 => ?_)
          · have ce_190 := Int32.not_lt.mpr cc_190
            have enx := (fr_up htk hL1 hL2 hs).2 (Int32.not_lt.mpr cc_190)
            refine ok_iinc8 (pc := 201) (v := 1) dX11_fresh_201 (by decide) (by decide) rfl ?_
            refine ok_goto (pc := 204) 115 dX11_fresh_204 (by decide) ?_
            first
              | exact ih (j + 1) L u _ _ _ _ _ _ (by omega) (by rw [ei, nI_1]) eL hL1 hL2 (by unfold FrK at hs ⊢; rw [enx]; exact hs) hA hah (hu.imp id (fun g => ⟨g.1, fun i9 h9 => by
                  by_cases c : i9 = j
                  · rw [c]; exact htk
                  · exact g.2 i9 (by omega)⟩)) hO
              | exact ih (j + 1) L (nI (xyN j)) _ _ _ _ _ _ (by omega) (by rw [ei, nI_1]) eL hL1 hL2 (by unfold FrK at hs ⊢; rw [enx]; exact hs) hA hah (Or.inl iW9) hO
              | exact ih (j + 1) k9 (nI (xyN j)) _ _ _ _ _ _ (by omega) (by rw [ei, nI_1]) ek9 lk1 (by omega) (Or.inr ⟨by rw [enx], nI_pos' (by unfold xyN; omega), by rw [enx]; exact ek9, by omega⟩) hA hah (Or.inl iW9) hO
          · have ce_190 := Int32.not_le.mp cc_190
            obtain ⟨enx, k9, ek9, lk1, lk2⟩ := (fr_up htk hL1 hL2 hs).1 (Int32.not_le.mp cc_190)
            refine ok_iload (pc := 193) dX11_fresh_193 rfl ?_
            refine ok_istore6 (pc := 195) dX11_fresh_195 (by decide) rfl ?_
            refine ok_iload (pc := 197) dX11_fresh_197 rfl ?_
            refine ok_istore7 (pc := 199) dX11_fresh_199 (by decide) rfl ?_
            refine ok_iinc8 (pc := 201) (v := 1) dX11_fresh_201 (by decide) (by decide) rfl ?_
            refine ok_goto (pc := 204) 115 dX11_fresh_204 (by decide) ?_
            first
              | exact ih (j + 1) L u _ _ _ _ _ _ (by omega) (by rw [ei, nI_1]) eL hL1 hL2 (by unfold FrK at hs ⊢; rw [enx]; exact hs) hA hah (hu.imp id (fun g => ⟨g.1, fun i9 h9 => by
                  by_cases c : i9 = j
                  · rw [c]; exact htk
                  · exact g.2 i9 (by omega)⟩)) hO
              | exact ih (j + 1) L (nI (xyN j)) _ _ _ _ _ _ (by omega) (by rw [ei, nI_1]) eL hL1 hL2 (by unfold FrK at hs ⊢; rw [enx]; exact hs) hA hah (Or.inl iW9) hO
              | exact ih (j + 1) k9 (nI (xyN j)) _ _ _ _ _ _ (by omega) (by rw [ei, nI_1]) ek9 lk1 (by omega) (Or.inr ⟨by rw [enx], nI_pos' (by unfold xyN; omega), by rw [enx]; exact ek9, by omega⟩) hA hah (Or.inl iW9) hO
        · have ce_155 := Int32.not_lt.mp cc_155
          have htk : takF σ (nI (xyN j)) (cH σ) = true := by
            cases c9 : takF σ (nI (xyN j)) (cH σ) with
            | true => rfl
            | false => exact absurd (hr2 c9) cc_155
          have enx : frS σ f t w (j + 1) = frS σ f t w j := (fr_s σ f t w j).trans (if_pos htk)
          refine ok_goto (pc := 158) 201 dX11_fresh_158 (by decide) ?_
          refine ok_iinc8 (pc := 201) (v := 1) dX11_fresh_201 (by decide) (by decide) rfl ?_
          refine ok_goto (pc := 204) 115 dX11_fresh_204 (by decide) ?_
          first
            | exact ih (j + 1) L u _ _ _ _ _ _ (by omega) (by rw [ei, nI_1]) eL hL1 hL2 (by unfold FrK at hs ⊢; rw [enx]; exact hs) hA hah (hu.imp id (fun g => ⟨g.1, fun i9 h9 => by
                by_cases c : i9 = j
                · rw [c]; exact htk
                · exact g.2 i9 (by omega)⟩)) hO
            | exact ih (j + 1) L (nI (xyN j)) _ _ _ _ _ _ (by omega) (by rw [ei, nI_1]) eL hL1 hL2 (by unfold FrK at hs ⊢; rw [enx]; exact hs) hA hah (Or.inl iW9) hO
            | exact ih (j + 1) k9 (nI (xyN j)) _ _ _ _ _ _ (by omega) (by rw [ei, nI_1]) ek9 lk1 (by omega) (Or.inr ⟨by rw [enx], nI_pos' (by unfold xyN; omega), by rw [enx]; exact ek9, by omega⟩) hA hah (Or.inl iW9) hO

theorem er_3 : (-1000000000 - nI 3 : Int32) = -1000000003 := by decide

set_option maxHeartbeats 1000000 in
theorem x_fresh {Γ : Cx} {a e z sz : Nat} {σ κ vi : Rw} {va : Nat → Rw} {M : Nat → Option va_E} {K : Int32 → Wd → Prop} (hC : ClsR Γ a e z σ κ vi va M) (hI : Inv σ) (hae : a + 92 ≤ e) (hez : e ≤ z) (hzs : z ≤ sz) (hc9 : cT σ ≤ 9999) {x y w v : Int32} (k : ∀ M' z' s', z ≤ z' → z' ≤ s' → sz ≤ s' → ClsR Γ a e z' σ κ vi (eU va (op_fresh σ x y w v).1) M' → (∀ q, (q < a ∨ a + 92 ≤ q) → q < sz → M' q = M q) → K (op_fresh σ x y w v).2 (M', s')) : Spec Γ mX11_fresh 6 1 [.ref a, .int x, .int y, .int w, .int v] (M, sz) (ci K) := by
  obtain ⟨⟨⟨eH, lH⟩, ⟨eK, lK⟩, ⟨eL, lL⟩, ⟨eA, lA⟩, ⟨eT, lT⟩⟩, iK, iH, iW, iL, iO, iB, hT⟩ := id hI
  obtain ⟨τa, iτa, hah⟩ := id hC.2.2.1
  
  refine spec_in [some (.ref a), some (.int x), some (.int y), some (.int w), some (.int v), none, none, none, none, none, none] 6 (by decide) rfl rfl ?_
  refine ok_aload_n (pc := 0) dX11_fresh_0 rfl ?_
  refine ok_getf (pc := 1) dX11_fresh_1 fl_X11_10 hC.1 rfl ?_
  refine ok_iload_n (pc := 4) dX11_fresh_4 rfl ?_
  refine ok_iload_n (pc := 5) dX11_fresh_5 rfl ?_
  refine ok_callVi2 (pc := 6) (d' := 1) dX11_fresh_6 vl_X11_176 hC.2.1.o rfl rfl rfl (by decide) ?_
  refine c_areTwoHills hC.2.1 eH lH ?_
  refine ok_if_eq (pc := 9) 33 dX11_fresh_9 (by decide) (fun cc_9 => ?_) (fun cc_9 => ?_)
  · have cq_9 := bI_0.mp cc_9
    refine ok_aload_n (pc := 33) dX11_fresh_33 rfl ?_
    refine ok_iconst (pc := 34) (v := 1) dX11_fresh_34 (by decide) ?_
    refine ok_callVi1 (pc := 35) (d' := 1) dX11_fresh_35 vl_X11_49 hC.1 rfl rfl rfl (by decide) ?_
    refine c_error hC hI hae 1 rfl (by decide) (by decide) (fun M2 hC2 hO2 => ?_)
    refine ok_iret (pc := 38) dX11_fresh_38 rfl ?_
    have hop : op_fresh σ x y w v = (1, -1000000001) := if_neg (by unfold wyF; first | (rw [cq_9, Bool.false_and, Bool.false_and]; decide) | (rw [cq_20, Bool.and_false, Bool.false_and]; decide) | (rw [cq_30, Bool.and_false]; decide))
    rw [hop] at k
    rw [er_1]
    exact k _ z sz (Nat.le_refl _) hzs (Nat.le_refl _) hC2 (fun q h1 h2 => hO2 q h1)
  · have cq_9 := bI_n0.mp cc_9
    refine ok_iload_n (pc := 12) dX11_fresh_12 rfl ?_
    refine ok_iconst (pc := 13) (v := 0) dX11_fresh_13 (by decide) ?_
    refine ok_sipush (pc := 14) (v := 999) dX11_fresh_14 (by decide) ?_
    refine ok_callSi3 (pc := 17) (d' := 0) dX11_fresh_17 sl_X11_45 rfl (by decide) ?_
    refine c_within ?_
    refine ok_if_eq (pc := 20) 33 dX11_fresh_20 (by decide) (fun cc_20 => ?_) (fun cc_20 => ?_)
    · have cq_20 := bI_0.mp cc_20
      refine ok_aload_n (pc := 33) dX11_fresh_33 rfl ?_
      refine ok_iconst (pc := 34) (v := 1) dX11_fresh_34 (by decide) ?_
      refine ok_callVi1 (pc := 35) (d' := 1) dX11_fresh_35 vl_X11_49 hC.1 rfl rfl rfl (by decide) ?_
      refine c_error hC hI hae 1 rfl (by decide) (by decide) (fun M2 hC2 hO2 => ?_)
      refine ok_iret (pc := 38) dX11_fresh_38 rfl ?_
      have hop : op_fresh σ x y w v = (1, -1000000001) := if_neg (by unfold wyF; first | (rw [cq_9, Bool.false_and, Bool.false_and]; decide) | (rw [cq_20, Bool.and_false, Bool.false_and]; decide) | (rw [cq_30, Bool.and_false]; decide))
      rw [hop] at k
      rw [er_1]
      exact k _ z sz (Nat.le_refl _) hzs (Nat.le_refl _) hC2 (fun q h1 h2 => hO2 q h1)
    · have cq_20 := bI_n0.mp cc_20
      refine ok_iload (pc := 23) dX11_fresh_23 rfl ?_
      refine ok_iconst (pc := 25) (v := 0) dX11_fresh_25 (by decide) ?_
      refine ok_iconst (pc := 26) (v := 1) dX11_fresh_26 (by decide) ?_
      refine ok_callSi3 (pc := 27) (d' := 0) dX11_fresh_27 sl_X11_45 rfl (by decide) ?_
      refine c_within ?_
      refine ok_if_ne (pc := 30) 39 dX11_fresh_30 (by decide) (fun cc_30 => ?_) (fun cc_30 => ?_)
      · have cq_30 := bI_n0.mp cc_30
        refine ok_aload_n (pc := 39) dX11_fresh_39 rfl ?_
        refine ok_getf (pc := 40) dX11_fresh_40 fl_X11_10 hC.1 rfl ?_
        refine ok_getf (pc := 43) dX11_fresh_43 fl_X11_56 hC.2.1.o rfl ?_
        refine ok_bipush (pc := 46) (v := 9) dX11_fresh_46 (by decide) ?_
        refine ok_icmp_ge (pc := 48) 63 dX11_fresh_48 (by decide) (fun cc_48 => ?_) (fun cc_48 => ?_)
        · have ce_48 := Int32.not_lt.mpr cc_48
          refine ok_aload_n (pc := 63) dX11_fresh_63 rfl ?_
          refine ok_iconst (pc := 64) (v := 3) dX11_fresh_64 (by decide) ?_
          refine ok_callVi1 (pc := 65) (d' := 1) dX11_fresh_65 vl_X11_49 hC.1 rfl rfl rfl (by decide) ?_
          refine c_error hC hI hae 3 rfl (by decide) (by decide) (fun M2 hC2 hO2 => ?_)
          refine ok_iret (pc := 68) dX11_fresh_68 rfl ?_
          have hop : op_fresh σ x y w v = (3, -1000000003) := (if_pos (by unfold wyF; rw [cq_9, cq_20, cq_30]; rfl)).trans (if_pos (by first | (left; rw [eH]; rw [eH, fa_lit 9] at cc_48; have := (nI_leI (by omega) (by omega)).mp cc_48; rw [show cH σ = 9 by omega]; rfl) | (right; rw [eK]; rw [eK] at cc_60; rcases Nat.lt_or_ge (cK σ) 8 with g | g; exact absurd (nI_lt (b := 8) g (by decide)) cc_60; rw [show cK σ = 8 by omega]; rfl)))
          rw [hop] at k
          rw [er_3]
          exact k _ z sz (Nat.le_refl _) hzs (Nat.le_refl _) hC2 (fun q h1 h2 => hO2 q h1)
        · have ce_48 := Int32.not_le.mp cc_48
          refine ok_aload_n (pc := 51) dX11_fresh_51 rfl ?_
          refine ok_getf (pc := 52) dX11_fresh_52 fl_X11_10 hC.1 rfl ?_
          refine ok_getf (pc := 55) dX11_fresh_55 fl_X11_84 hC.2.1.o rfl ?_
          refine ok_bipush (pc := 58) (v := 8) dX11_fresh_58 (by decide) ?_
          refine ok_icmp_lt (pc := 60) 69 dX11_fresh_60 (by decide) (fun cc_60 => ?_) (fun cc_60 => ?_)
          · have ce_60 := Int32.not_le.mpr cc_60
            refine ok_aload_n (pc := 69) dX11_fresh_69 rfl ?_
            refine ok_getf (pc := 70) dX11_fresh_70 fl_X11_16 hC.1 rfl ?_
            refine ok_aload_n (pc := 73) dX11_fresh_73 rfl ?_
            refine ok_getf (pc := 74) dX11_fresh_74 fl_X11_10 hC.1 rfl ?_
            refine ok_callVv1 (pc := 77) (d' := 3) dX11_fresh_77 vl_X11_198 hah.o rfl rfl rfl (by decide) ?_
            refine c_copyFrom hah iτa.1.2.1.2 hC.2.1 hI (by omega) (by omega) (Or.inr (by omega)) (fun M9 hah hS9 hO9 => ?_)
            have hC := hC.ah hI hae hI hah (fun q hq => hO9 q (by omega))
            have hO1 : Off a 92 M M9 := hO9.sub (by omega) (by omega)
            have hH : cH σ < 9 := by
              rw [eH, fa_lit 9] at ce_48
              exact Nat.lt_of_not_le (fun g => absurd ce_48 (nI_nlt g (by omega)))
            have hK : cK σ < 8 := by
              rw [eK, fa_lit 8] at cc_60
              exact Nat.lt_of_not_le (fun g => absurd cc_60 (nI_nlt g (by omega)))
            refine ok_aload_n (pc := 80) dX11_fresh_80 rfl ?_
            refine ok_getf (pc := 81) dX11_fresh_81 fl_X11_16 hC.1 rfl ?_
            refine ok_iconst (pc := 84) (v := 0) dX11_fresh_84 (by decide) ?_
            refine ok_iconst (pc := 85) (v := 0) dX11_fresh_85 (by decide) ?_
            refine ok_callVi2 (pc := 86) (d' := 2) dX11_fresh_86 vl_X11_60 hah.o rfl rfl rfl (by decide) ?_
            refine c_addHill hah hI.bd (by omega) (cH σ) eH hH (fun M8 hah hO8 => ?_)
            obtain ⟨b1, b2, b3⟩ := ris_bd hI hH 0 0
            have hA := hC.toA.mv hI hae (Nat.le_trans hez (Nat.le_refl z)) (Nat.le_refl z) (Nat.le_refl z) (fun q g1 g2 => hO8 q (by omega))
            have hO1 := hO1.trans (hO8.sub (a := a) (n := 92) (by omega) (by omega))
            have hx1 := hA.1
            refine ok_istore5 (pc := 89) dX11_fresh_89 (by decide) rfl ?_
            refine ok_aload_n (pc := 91) dX11_fresh_91 rfl ?_
            refine ok_getf (pc := 92) dX11_fresh_92 fl_X11_16 hx1 rfl ?_
            refine ok_iconst (pc := 95) (v := 0) dX11_fresh_95 (by decide) ?_
            refine ok_iload (pc := 96) dX11_fresh_96 rfl ?_
            refine ok_sipush (pc := 98) (v := 4020) dX11_fresh_98 (by decide) ?_
            refine ok_callVi3B (pc := 101) (d' := 5) (b' := 1) (b'' := 0) dX11_fresh_101 vl_X11_87 hah.o rfl rfl rfl (by decide) (by decide) ?_
            have hkd : (0 : Int32) ≤ 0 / 10 ∧ (0 : Int32) / 10 ≤ 6 := by decide +kernel
            have h88 : cK (risF σ (cH σ) 0 0) < 8 := by rw [b3]; exact hK
            refine c_addKiteB (kd := 0) (hm9 := nI (cH σ)) (sl := 4020) hah b1 b2 (by omega) hez hzs h88 hkd (fun M7 hah hO7 => ?_)
            rw [b3] at hah
            have hA := hA.mv hI hae (Nat.le_trans hez hzs) hzs (show z ≤ sz + 1 by omega) (fun q g1 g2 => hO7 q (by omega) g2)
            refine ok_pop (pc := 104) dX11_fresh_104 rfl ?_
            refine ok_bipush (pc := 105) (v := 73) dX11_fresh_105 (by decide) ?_
            refine ok_istore6 (pc := 107) dX11_fresh_107 (by decide) rfl ?_
            refine ok_iconst (pc := 109) (v := -1) dX11_fresh_109 (by decide) ?_
            refine ok_istore7 (pc := 110) dX11_fresh_110 (by decide) rfl ?_
            refine ok_iconst (pc := 112) (v := 0) dX11_fresh_112 (by decide) ?_
            refine ok_istore8 (pc := 113) dX11_fresh_113 (by decide) rfl ?_
            rw [Bool.and_eq_true, Bool.and_eq_true] at cq_9
            obtain ⟨⟨g1, g2⟩, g3⟩ := cq_9
            obtain ⟨ex9, lx9⟩ := wi_cnt eH (by omega) g1
            obtain ⟨ey9, ly9⟩ := wi_cnt eH (by omega) g2
            have wy9 := cq_20
            unfold wi at wy9
            rw [Bool.and_eq_true] at wy9
            have hop : op_fresh σ x y w v = if (frS σ (iN x) (iN y) w 64).1 < 0 then (2, -1000000002) else (0, if v = 0 then (frS σ (iN x) (iN y) w 64).1 else (frS σ (iN x) (iN y) w 64).2) := by
              unfold op_fresh
              rw [if_pos (by unfold wyF; rw [g1, g2, g3, cq_20, cq_30]; rfl), if_neg (by
                rw [eH, eK]
                rintro (h | h)
                · have := (nI_eq (b := 9) (by omega) (by decide)).mp h
                  omega
                · have := (nI_eq (b := 8) (by omega) (by decide)).mp h
                  omega)]
            have hfr : PstR Γ (a + 27) e (sz + 1) (frW σ 0) M7 := hah
            exact lx_fresh hI hae (show e ≤ sz + 1 by omega) hc9 ex9 ey9 (by omega) (by omega) (of_decide_eq_true wy9.1) (of_decide_eq_true wy9.2) hH hK rfl hop (fun M6 hC6 hO6 => k _ (sz + 1) (sz + 1) (by omega) (Nat.le_refl _) (by omega) hC6 (fun q h1 h2 => (hO6 q h1).trans ((hO7 q (by omega) h2).trans (hO1 q h1)))) 64 0 73 0 _ _ _ _ _ M7 (by omega) rfl rfl (by decide) (by decide) (Or.inl ⟨rfl, rfl, rfl⟩) hA hfr (Or.inr ⟨rfl, fun i9 h9 => absurd h9 (Nat.not_lt_zero _)⟩) Off.rfl'
          · have ce_60 := Int32.not_lt.mp cc_60
            refine ok_aload_n (pc := 63) dX11_fresh_63 rfl ?_
            refine ok_iconst (pc := 64) (v := 3) dX11_fresh_64 (by decide) ?_
            refine ok_callVi1 (pc := 65) (d' := 1) dX11_fresh_65 vl_X11_49 hC.1 rfl rfl rfl (by decide) ?_
            refine c_error hC hI hae 3 rfl (by decide) (by decide) (fun M2 hC2 hO2 => ?_)
            refine ok_iret (pc := 68) dX11_fresh_68 rfl ?_
            have hop : op_fresh σ x y w v = (3, -1000000003) := (if_pos (by unfold wyF; rw [cq_9, cq_20, cq_30]; rfl)).trans (if_pos (by first | (left; rw [eH]; rw [eH, fa_lit 9] at cc_48; have := (nI_leI (by omega) (by omega)).mp cc_48; rw [show cH σ = 9 by omega]; rfl) | (right; rw [eK]; rw [eK] at cc_60; rcases Nat.lt_or_ge (cK σ) 8 with g | g; exact absurd (nI_lt (b := 8) g (by decide)) cc_60; rw [show cK σ = 8 by omega]; rfl)))
            rw [hop] at k
            rw [er_3]
            exact k _ z sz (Nat.le_refl _) hzs (Nat.le_refl _) hC2 (fun q h1 h2 => hO2 q h1)
      · have cq_30 := bI_0.mp cc_30
        refine ok_aload_n (pc := 33) dX11_fresh_33 rfl ?_
        refine ok_iconst (pc := 34) (v := 1) dX11_fresh_34 (by decide) ?_
        refine ok_callVi1 (pc := 35) (d' := 1) dX11_fresh_35 vl_X11_49 hC.1 rfl rfl rfl (by decide) ?_
        refine c_error hC hI hae 1 rfl (by decide) (by decide) (fun M2 hC2 hO2 => ?_)
        refine ok_iret (pc := 38) dX11_fresh_38 rfl ?_
        have hop : op_fresh σ x y w v = (1, -1000000001) := if_neg (by unfold wyF; first | (rw [cq_9, Bool.false_and, Bool.false_and]; decide) | (rw [cq_20, Bool.and_false, Bool.false_and]; decide) | (rw [cq_30, Bool.and_false]; decide))
        rw [hop] at k
        rw [er_1]
        exact k _ z sz (Nat.le_refl _) hzs (Nat.le_refl _) hC2 (fun q h1 h2 => hO2 q h1)
