/-! the law's loop -/
theorem lim_gt {N j : Nat} (hN : N < 2 ^ 30) (hj : j < 2 ^ 30) : (nI N - 6 < nI j) ↔ N < j + 6 := by
  have e1 : (nI N).toInt = (N : Int) := nI_toInt (by omega)
  have e2 : (nI j).toInt = (j : Int) := nI_toInt (by omega)
  have e3 : (nI N - 6).toInt = (N : Int) - 6 := by
    rw [Int32.toInt_sub, e1, show (6 : Int32).toInt = 6 from rfl, fb_bmod (by omega) (by omega)]
  rw [Int32.lt_iff_toInt_lt, e3, e2]
  omega
theorem w_exit {Γ : Cx} {X : State → Prop} {b : Nat} {L : List (Option Value)} {G : Wd} : OkS X Γ mL_law 100 b 1615 L [] G (ci (fun r _ => r = 1)) := by
  refine os_iconst (pc := 1615) (v := 1) dL_law_1615 (by decide) ?_
  exact os_zret (pc := 1616) dL_law_1616 rfl rfl rfl
theorem w_loop {Γ : Cx} {b9 N : Nat} {xs : Nat → Int32} {a : Nat} (hN : N < 2 ^ 30) : ∀ (n j z sz : Nat) (σ κ vi : Rw) (va : Nat → Rw) (M : Nat → Option va_E), N < j + 6 * n + 6 → j ≤ N → Jn Γ a z sz σ κ vi va M → OkS (scX Γ b9 N xs) Γ mL_law 100 n 18 [some (.ref b9), some (.ref a), some (.ref (a + 92)), some (.int (nI j))] [] (M, sz) (ci (fun r _ => r = 1)) := by
  intro n
  induction n with
  | zero =>
    intro j z sz σ κ vi va M hn hjN hJ
    refine os_iload_n (pc := 18) dL_law_18 rfl ?_
    refine os_aload_n (pc := 19) dL_law_19 rfl ?_
    refine os_slen (pc := 20) dL_law_20 ?_
    refine os_bipush (pc := 21) (v := 6) dL_law_21 (by decide) ?_
    refine os_isub (pc := 23) dL_law_23 ?_
    exact os_icmp_gt (pc := 24) 1615 dL_law_24 (by decide) (fun _ => w_exit) (fun h9 => absurd ((lim_gt hN (by omega)).mpr (by omega)) h9)
  | succ n ih =>
    intro j z sz σ κ vi va M hn hjN hJ
    refine os_iload_n (pc := 18) dL_law_18 rfl ?_
    refine os_aload_n (pc := 19) dL_law_19 rfl ?_
    refine os_slen (pc := 20) dL_law_20 ?_
    refine os_bipush (pc := 21) (v := 6) dL_law_21 (by decide) ?_
    refine os_isub (pc := 23) dL_law_23 ?_
    refine os_icmp_gt (pc := 24) 1615 dL_law_24 (by decide) (fun _ => w_exit) (fun h9 => ?_)
    have hj6 : j + 6 ≤ N := Nat.not_lt.mp (fun h => h9 ((lim_gt hN (by omega)).mpr h))
    refine os_aload_n (pc := 27) dL_law_27 rfl ?_
    refine os_iload_n (pc := 28) dL_law_28 rfl ?_
    refine os_sld (pc := 29) j rfl (by omega) hN dL_law_29 ?_
    refine os_bipush (pc := 30) (v := 63) dL_law_30 (by decide) ?_
    refine os_iand (pc := 32) dL_law_32 ?_
    have kk : Nx Γ b9 N xs a n j (ci (fun r _ => r = 1)) := by
      intro z sz σ κ vi va M hJ
      refine os_iinc3 (pc := 1609) (v := 6) dL_law_1609 (by decide) (by decide) rfl ?_
      refine os_goto (pc := 1612) 18 dL_law_1612 (by decide) ?_
      rw [fa_lit 6, nI_add]
      exact ih (j + 6) z sz σ κ vi va M (by omega) hj6 hJ
    by_cases h : (xs j &&& 63).toInt < 0 ∨ 39 < (xs j &&& 63).toInt
    · exact os_less (Nat.le_succ n) (os_tableOut (pc := 33) 1609 dL_law_33 h (by decide) (kk _ _ _ _ _ _ _ hJ))
    · obtain ⟨t9, e9⟩ : ∃ t : Int, t = (xs j &&& 63).toInt := ⟨_, rfl⟩
      rw [← e9] at h
      have hc : t9 = 0 ∨ t9 = 1 ∨ t9 = 2 ∨ t9 = 3 ∨ t9 = 4 ∨ t9 = 5 ∨ t9 = 6 ∨ t9 = 7 ∨ t9 = 8 ∨ t9 = 9 ∨ t9 = 10 ∨ t9 = 11 ∨ t9 = 12 ∨ t9 = 13 ∨ t9 = 14 ∨ t9 = 15 ∨ t9 = 16 ∨ t9 = 17 ∨ t9 = 18 ∨ t9 = 19 ∨ t9 = 20 ∨ t9 = 21 ∨ t9 = 22 ∨ t9 = 23 ∨ t9 = 24 ∨ t9 = 25 ∨ t9 = 26 ∨ t9 = 27 ∨ t9 = 28 ∨ t9 = 29 ∨ t9 = 30 ∨ t9 = 31 ∨ t9 = 32 ∨ t9 = 33 ∨ t9 = 34 ∨ t9 = 35 ∨ t9 = 36 ∨ t9 = 37 ∨ t9 = 38 ∨ t9 = 39 := by omega
      rcases hc with e | e | e | e | e | e | e | e | e | e | e | e | e | e | e | e | e | e | e | e | e | e | e | e | e | e | e | e | e | e | e | e | e | e | e | e | e | e | e | e
      · exact os_table (pc := 33) 208 dL_law_33 (by rw [← e9, e]; decide) (by rw [← e9, e]; decide) (by rw [← e9, e]; rfl) (by decide) (w_hill hJ hN hj6 kk)
      · exact os_table (pc := 33) 241 dL_law_33 (by rw [← e9, e]; decide) (by rw [← e9, e]; decide) (by rw [← e9, e]; rfl) (by decide) (w_ofHill hJ hN hj6 kk)
      · exact os_table (pc := 33) 274 dL_law_33 (by rw [← e9, e]; decide) (by rw [← e9, e]; decide) (by rw [← e9, e]; rfl) (by decide) (w_wind hJ hN hj6 kk)
      · exact os_table (pc := 33) 307 dL_law_33 (by rw [← e9, e]; decide) (by rw [← e9, e]; decide) (by rw [← e9, e]; rfl) (by decide) (w_kite hJ hN hj6 kk)
      · exact os_table (pc := 33) 350 dL_law_33 (by rw [← e9, e]; decide) (by rw [← e9, e]; decide) (by rw [← e9, e]; rfl) (by decide) (w_ofKite hJ hN hj6 kk)
      · exact os_table (pc := 33) 383 dL_law_33 (by rw [← e9, e]; decide) (by rw [← e9, e]; decide) (by rw [← e9, e]; rfl) (by decide) (w_as hJ hN hj6 kk)
      · exact os_table (pc := 33) 416 dL_law_33 (by rw [← e9, e]; decide) (by rw [← e9, e]; decide) (by rw [← e9, e]; rfl) (by decide) (w_aim hJ hN hj6 kk)
      · exact os_table (pc := 33) 449 dL_law_33 (by rw [← e9, e]; decide) (by rw [← e9, e]; decide) (by rw [← e9, e]; rfl) (by decide) (w_pull hJ hN hj6 kk)
      · exact os_table (pc := 33) 492 dL_law_33 (by rw [← e9, e]; decide) (by rw [← e9, e]; decide) (by rw [← e9, e]; rfl) (by decide) (w_stands hJ hN hj6 kk)
      · exact os_table (pc := 33) 535 dL_law_33 (by rw [← e9, e]; decide) (by rw [← e9, e]; decide) (by rw [← e9, e]; rfl) (by decide) (w_over hJ hN hj6 kk)
      · exact os_table (pc := 33) 578 dL_law_33 (by rw [← e9, e]; decide) (by rw [← e9, e]; decide) (by rw [← e9, e]; rfl) (by decide) (w_feed hJ hN hj6 kk)
      · exact os_table (pc := 33) 641 dL_law_33 (by rw [← e9, e]; decide) (by rw [← e9, e]; decide) (by rw [← e9, e]; rfl) (by decide) (w_text hJ hN hj6 kk)
      · exact os_table (pc := 33) 664 dL_law_33 (by rw [← e9, e]; decide) (by rw [← e9, e]; decide) (by rw [← e9, e]; rfl) (by decide) (w_law hJ hN hj6 kk)
      · exact os_table (pc := 33) 727 dL_law_33 (by rw [← e9, e]; decide) (by rw [← e9, e]; decide) (by rw [← e9, e]; rfl) (by decide) (w_cross hJ hN hj6 kk)
      · exact os_table (pc := 33) 760 dL_law_33 (by rw [← e9, e]; decide) (by rw [← e9, e]; decide) (by rw [← e9, e]; rfl) (by decide) (w_lines hJ hN hj6 kk)
      · exact os_table (pc := 33) 783 dL_law_33 (by rw [← e9, e]; decide) (by rw [← e9, e]; decide) (by rw [← e9, e]; rfl) (by decide) (w_letter hJ hN hj6 kk)
      · exact os_table (pc := 33) 836 dL_law_33 (by rw [← e9, e]; decide) (by rw [← e9, e]; decide) (by rw [← e9, e]; rfl) (by decide) (w_ofLetter hJ hN hj6 kk)
      · exact os_table (pc := 33) 869 dL_law_33 (by rw [← e9, e]; decide) (by rw [← e9, e]; decide) (by rw [← e9, e]; rfl) (by decide) (w_hours hJ hN hj6 kk)
      · exact os_table (pc := 33) 892 dL_law_33 (by rw [← e9, e]; decide) (by rw [← e9, e]; decide) (by rw [← e9, e]; rfl) (by decide) (w_loose hJ hN hj6 kk)
      · exact os_table (pc := 33) 925 dL_law_33 (by rw [← e9, e]; decide) (by rw [← e9, e]; decide) (by rw [← e9, e]; rfl) (by decide) (w_then hJ hN hj6 kk)
      · exact os_table (pc := 33) 958 dL_law_33 (by rw [← e9, e]; decide) (by rw [← e9, e]; decide) (by rw [← e9, e]; rfl) (by decide) (w_where hJ hN hj6 kk)
      · exact os_table (pc := 33) 1001 dL_law_33 (by rw [← e9, e]; decide) (by rw [← e9, e]; decide) (by rw [← e9, e]; rfl) (by decide) (w_soonest hJ hN hj6 kk)
      · exact os_table (pc := 33) 1044 dL_law_33 (by rw [← e9, e]; decide) (by rw [← e9, e]; decide) (by rw [← e9, e]; rfl) (by decide) (w_sure hJ hN hj6 kk)
      · exact os_table (pc := 33) 1098 dL_law_33 (by rw [← e9, e]; decide) (by rw [← e9, e]; decide) (by rw [← e9, e]; rfl) (by decide) (w_best hJ hN hj6 kk)
      · exact os_table (pc := 33) 1131 dL_law_33 (by rw [← e9, e]; decide) (by rw [← e9, e]; decide) (by rw [← e9, e]; rfl) (by decide) (w_fresh hJ hN hj6 kk)
      · exact os_table (pc := 33) 1184 dL_law_33 (by rw [← e9, e]; decide) (by rw [← e9, e]; decide) (by rw [← e9, e]; rfl) (by decide) (w_order hJ hN hj6 kk)
      · exact os_table (pc := 33) 1217 dL_law_33 (by rw [← e9, e]; decide) (by rw [← e9, e]; decide) (by rw [← e9, e]; rfl) (by decide) (w_before hJ hN hj6 kk)
      · exact os_table (pc := 33) 1230 dL_law_33 (by rw [← e9, e]; decide) (by rw [← e9, e]; decide) (by rw [← e9, e]; rfl) (by decide) (w_seed hJ hN hj6 kk)
      · exact os_table (pc := 33) 1253 dL_law_33 (by rw [← e9, e]; decide) (by rw [← e9, e]; decide) (by rw [← e9, e]; rfl) (by decide) (w_voice hJ hN hj6 kk)
      · exact os_table (pc := 33) 1296 dL_law_33 (by rw [← e9, e]; decide) (by rw [← e9, e]; decide) (by rw [← e9, e]; rfl) (by decide) (w_trace hJ hN hj6 kk)
      · exact os_table (pc := 33) 1319 dL_law_33 (by rw [← e9, e]; decide) (by rw [← e9, e]; decide) (by rw [← e9, e]; rfl) (by decide) (w_sheet hJ hN hj6 kk)
      · exact os_table (pc := 33) 1362 dL_law_33 (by rw [← e9, e]; decide) (by rw [← e9, e]; decide) (by rw [← e9, e]; rfl) (by decide) (w_put hJ hN hj6 kk)
      · exact os_table (pc := 33) 1405 dL_law_33 (by rw [← e9, e]; decide) (by rw [← e9, e]; decide) (by rw [← e9, e]; rfl) (by decide) (w_move hJ hN hj6 kk)
      · exact os_table (pc := 33) 1468 dL_law_33 (by rw [← e9, e]; decide) (by rw [← e9, e]; decide) (by rw [← e9, e]; rfl) (by decide) (w_winds hJ hN hj6 kk)
      · exact os_table (pc := 33) 1491 dL_law_33 (by rw [← e9, e]; decide) (by rw [← e9, e]; decide) (by rw [← e9, e]; rfl) (by decide) (w_image hJ hN hj6 kk)
      · exact os_table (pc := 33) 1504 dL_law_33 (by rw [← e9, e]; decide) (by rw [← e9, e]; decide) (by rw [← e9, e]; rfl) (by decide) (w_restore hJ hN hj6 kk)
      · exact os_table (pc := 33) 1517 dL_law_33 (by rw [← e9, e]; decide) (by rw [← e9, e]; decide) (by rw [← e9, e]; rfl) (by decide) (w_tell hJ hN hj6 kk)
      · exact os_table (pc := 33) 1540 dL_law_33 (by rw [← e9, e]; decide) (by rw [← e9, e]; decide) (by rw [← e9, e]; rfl) (by decide) (w_check hJ hN hj6 kk)
      · exact os_table (pc := 33) 1563 dL_law_33 (by rw [← e9, e]; decide) (by rw [← e9, e]; decide) (by rw [← e9, e]; rfl) (by decide) (w_count hJ hN hj6 kk)
      · exact os_table (pc := 33) 1586 dL_law_33 (by rw [← e9, e]; decide) (by rw [← e9, e]; decide) (by rw [← e9, e]; rfl) (by decide) (w_told hJ hN hj6 kk)
theorem cT_row0 : cT row0 ≤ 9999 := by decide +kernel
theorem InvS_0 : InvS (shV (fun _ _ => (0 : Int32))) := fun q _ => ⟨(show isB 0 = true by decide), 0, by decide, rfl⟩
theorem InvT_0 : InvT (shV (fun _ _ => (0 : Int32))) := fun q _ j _ => (show cutF 0 0 = 0 by decide +kernel)
theorem w_entry {Γ : Cx} {b9 N : Nat} {xs : Nat → Int32} {M : Nat → Option va_E} {sz : Nat} (hN : N ≤ 384) : OkS (scX Γ b9 N xs) Γ mL_law 100 200 0 [some (.ref b9), none, none, none] [] (M, sz) (ci (fun r _ => r = 1)) := by
  refine os_new (pc := 0) (b := 199) dL_law_0 nl_L_7 ?_
  refine os_dup (pc := 3) dL_law_3 rfl ?_
  refine os_callIv0B (pc := 4) (d' := 4) (b' := 91) (b'' := 108) dL_law_4 il_L_9 rfl (by decide) (by decide) ?_
  refine c_clsI (M0 := M) (e := sz + 109) ((hv_nil (m := sz) (M := M)).push _) (fun M1 hC1 hO1 => ?_)
  refine os_astore_n1 (pc := 7) dL_law_7 (by decide) rfl ?_
  refine os_new (pc := 8) (b := 107) dL_law_8 nl_L_10 ?_
  refine os_dup (pc := 11) dL_law_11 rfl ?_
  refine os_callIv0B (pc := 12) (d' := 1) (b' := 16) (b'' := 91) dL_law_12 il_L_12 rfl (by decide) (by decide) ?_
  refine r_init (M0 := M1) ((hv_nil (m := sz + 92) (M := M1)).push _) (fun M2 hR2 => ?_)
  refine os_astore_n2 (pc := 15) dL_law_15 (by decide) rfl ?_
  refine os_iconst (pc := 16) (v := 0) dL_law_16 (by decide) ?_
  refine os_istore_n3 (pc := 17) dL_law_17 (by decide) rfl ?_
  refine os_less (b := 64) (by decide) ?_
  have hJ : Jn Γ sz (sz + 109) (sz + 92 + 17) row0 (fun _ => 0) (fun _ => 0) (fun _ _ => 0) M2 := ⟨hC1.off (n := 17) Inv_row0 (by omega) hR2.w.offs, ⟨_, hR2.w⟩, Inv_row0, cT_row0, fun h => absurd rfl h, InvS_0, InvT_0, ⟨0, rfl, by decide⟩, Nat.le_refl _, Nat.le_refl _⟩
  exact w_loop (by omega) 64 0 _ _ _ _ _ _ _ (by omega) (by omega) hJ
