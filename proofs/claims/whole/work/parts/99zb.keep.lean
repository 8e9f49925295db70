/-! the time stays within its bound; what always holds of sheets is kept -/
theorem cT_of {σ τ : Rw} (h : τ 0 = σ 0) (h9 : cT σ ≤ 9999) : cT τ ≤ 9999 := by unfold cT at h9 ⊢; rw [h]; exact h9
theorem c9_hill {σ : Rw} (x y : Int32) : (op_hill σ x y).2.2 0 = σ 0 := by
  unfold op_hill
  split
  · split
    · rfl
    · split
      · rfl
      · show risF σ (cH σ) x y 0 = σ 0
        exact ris_ne (by omega) (by omega) (by decide)
  · rfl
theorem c9_wind {σ : Rw} (x y : Int32) : (op_wind σ x y).2.2 0 = σ 0 := by
  unfold op_wind
  split
  · show upd σ (27 + iN x) y 0 = σ 0
    exact upd_ne (by omega)
  · rfl
theorem c9_kite {σ : Rw} (x y w : Int32) : (op_kite σ x y w).2.2 0 = σ 0 := by
  unfold op_kite
  split
  · split
    · rfl
    · show flyF σ (cK σ) (x / 10) (jrem x 10) y (w / 100) (jrem w 100) 0 = σ 0
      exact fly_ne (by omega) (by decide)
  · rfl
theorem c9_aim {σ : Rw} (x y : Int32) : (op_aim σ x y).2.2 0 = σ 0 := by
  unfold op_aim
  split
  · split
    · rfl
    · show upd σ (51 + 6 * iN x + 5) y 0 = σ 0
      exact upd_ne (by omega)
  · rfl
theorem fd_0 {σ : Rw} {w : Int64} : ∀ n, fdF σ w n 0 = σ 0
  | 0 => rfl
  | n + 1 => by
    show upd (upd (fdF σ w n) (195 + iN (fdF σ w n 6)) (byL w n)) 6 (fdF σ w n 6 + 1) 0 = σ 0
    rw [upd_ne (by decide), upd_ne (by omega)]
    exact fd_0 n
theorem c9_feed {σ : Rw} (w : Int64) (x : Int32) : (op_feed σ w x).2.2 0 = σ 0 := by
  unfold op_feed
  split
  · split
    · rfl
    · exact fd_0 _
  · rfl
theorem c9_text {σ : Rw} (x : Int32) : (op_text σ x).2.2 0 = σ 0 := by
  unfold op_text
  split
  · unfold txR
    split
    · show upd σ 6 0 0 = σ 0
      exact upd_ne (by decide)
    · exact (txU_lo (by decide)).trans (upd_ne (by decide))
  · rfl
theorem c9_letter {σ : Rw} (x y w u : Int32) : (op_letter σ x y w u).2.2 0 = σ 0 := by
  unfold op_letter
  split
  · split
    · rfl
    · show letF σ (cL σ) x y w u 0 = σ 0
      unfold letF
      rw [upd_ne (by decide), upd_ne (by omega), upd_ne (by omega), upd_ne (by omega), upd_ne (by omega), upd_ne (by omega), upd_ne (by omega), upd_ne (by omega)]
  · rfl
theorem c9_seed {σ : Rw} (v : Int32) : (op_seed σ v).2.2 0 = σ 0 := by
  show upd σ 8 v 0 = σ 0
  exact upd_ne (by decide)
theorem c9_tell {σ : Rw} (v : Int32) : (op_tell σ v).2.2 0 = σ 0 := by
  unfold op_tell
  split
  · rfl
  · show upd (upd σ (245 + iN (σ 7)) v) 7 (σ 7 + 1) 0 = σ 0
    exact (upd_ne (by decide)).trans (upd_ne (by omega))
theorem c9_check {σ : Rw} (x : Int32) : (op_check σ x).2.2 0 = σ 0 := by
  unfold op_check
  split
  · show upd σ 7 0 0 = σ 0
    exact upd_ne (by decide)
  · show upd σ 7 0 0 = σ 0
    exact upd_ne (by decide)
theorem wn_0 {σ nu : Rw} {s : Nat} : ∀ n, wnS σ nu s n 0 = σ 0
  | 0 => rfl
  | n + 1 => (upd_ne (by omega)).trans (wn_0 n)
theorem c9_winds {σ : Rw} {s : Sh} (x : Int32) : (op_winds σ s x).2.2 0 = σ 0 := by
  unfold op_winds
  split
  · split
    · rfl
    · exact wn_0 _
  · rfl
theorem c9_hours {σ : Rw} (hI : Inv σ) (h9 : cT σ ≤ 9999) (x : Int32) : cT (op_hours σ x).2.2 ≤ 9999 := by
  unfold op_hours
  split
  · rename_i h
    obtain ⟨ex, -, lx⟩ := wi_lit (a := 1) (c := 72) rfl rfl (by decide) (by decide) h
    split
    · exact h9
    · rename_i h2
      have h3 : cT σ + iN x ≤ 9999 := by
        have h4 := Int32.not_lt.mp h2
        have e5 : σ 0 + x = nI (cT σ + iN x) := by
          have e6 : σ 0 + x = nI (cT σ) + nI (iN x) := by rw [← ex, ← hI.1.2.2.2.2.1]
          rw [e6, nI_add]
        have lT := hI.1.2.2.2.2.2
        rw [e5] at h4
        exact (nI_leI (b := 9999) (by omega) (by decide)).mp h4
      show cT (hrsF σ (iN x)) ≤ 9999
      rw [(hrs_ok hI (iN x) (by omega)).2.2.2.2.1]
      exact h3
  · exact h9
theorem c9_loose {σ : Rw} (hI : Inv σ) (h9 : cT σ ≤ 9999) (x y : Int32) : cT (op_loose σ x y).2.2 ≤ 9999 := by
  unfold op_loose
  split
  · rename_i h
    rw [Bool.and_eq_true] at h
    obtain ⟨ex, -, lx⟩ := wi_lit (a := 1) (c := 72) rfl rfl (by decide) (by decide) h.1
    split
    · exact h9
    · rename_i h2
      have h3 : cT σ + iN x ≤ 9999 := by
        have h4 := Int32.not_lt.mp h2
        have e5 : σ 0 + x = nI (cT σ + iN x) := by
          have e6 : σ 0 + x = nI (cT σ) + nI (iN x) := by rw [← ex, ← hI.1.2.2.2.2.1]
          rw [e6, nI_add]
        have lT := hI.1.2.2.2.2.2
        rw [e5] at h4
        exact (nI_leI (b := 9999) (by omega) (by decide)).mp h4
      show cT (lsF σ y (iN x)) ≤ 9999
      rw [(ls_ok hI (iN x) (by omega)).2]
      exact h3
  · exact h9
theorem Inv_op_feed {σ : Rw} (hI : Inv σ) (w : Int64) (x : Int32) : Inv (op_feed σ w x).2.2 := by
  obtain ⟨⟨n6, e6, l6⟩, -⟩ := id hI.2.2.2.2.2.2.1
  unfold op_feed
  split
  · rename_i h
    obtain ⟨ex, -, lx⟩ := wi_lit (a := 1) (c := 8) rfl rfl (by decide) (by decide) h
    split
    · exact hI
    · rename_i h2
      have h50 : n6 + iN x ≤ 50 := by
        have h8 := Int32.not_lt.mp h2
        rw [e6] at h8
        have h7 : nI (n6 + iN x) ≤ nI 50 := by
          rw [← nI_add, ← ex]
          exact h8
        exact (nI_leI (by omega) (by omega)).mp h7
      exact (fd_ok hI w e6 (iN x) (by omega) (by omega)).1
  · exact hI
/-! sheets -/
theorem cut_cut (b v : Int32) (hb : isB b = true) : cutF b (cutF b v) = cutF b v := by
  unfold isB at hb
  rw [Bool.or_eq_true, Bool.or_eq_true, Bool.or_eq_true] at hb
  rcases hb with ((h | h) | h) | h
  · rw [of_decide_eq_true h]; rfl
  · rw [of_decide_eq_true h]
    show (v.toInt8.toInt32).toInt8.toInt32 = v.toInt8.toInt32
    rw [Int8.toInt8_toInt32]
  · rw [of_decide_eq_true h]
    show (v.toInt16.toInt32).toInt16.toInt32 = v.toInt16.toInt32
    rw [Int16.toInt16_toInt32]
  · rw [of_decide_eq_true h]; rfl
theorem cut_z (b : Int32) : cutF b 0 = 0 := by
  unfold cutF
  split
  · decide
  · split
    · decide
    · rfl
theorem shV_U (va : Nat → Rw) (s : Sh) : shV (shU va s) = s := rfl
theorem shV_e (va : Nat → Rw) (e0 : Nat) : shV (eU va e0) = shV va := by
  unfold shV
  rw [eU_ne va e0 (by decide), eU_ne va e0 (by decide), eU_ne va e0 (by decide)]
theorem S_sheet {s : Sh} (hS : InvS s) (hT : InvT s) (x b n : Int32) : InvS (op_sheet s x b n).2.2 ∧ InvT (op_sheet s x b n).2.2 := by
  unfold op_sheet
  split
  · rename_i h
    rw [Bool.and_eq_true] at h
    obtain ⟨ex, -, lx⟩ := wi_lit (a := 0) (c := 3) rfl rfl (by decide) (by decide) h.1
    split
    · exact ⟨hS, hT⟩
    · rename_i h1
      split
      · exact ⟨hS, hT⟩
      · rename_i h2
        refine ⟨fun q hq => ?_, fun q hq j hj => ?_⟩
        · show isB (upd s.1 (iN x) b q) = true ∧ ∃ n9, n9 ≤ 40 ∧ upd s.2.1 (iN x) (if b = 0 then 0 else n) q = nI n9
          by_cases c : q = iN x
          · rw [c, upd_at, upd_at]
            refine ⟨h.2, ?_⟩
            by_cases c2 : b = 0
            · rw [if_pos c2]; exact ⟨0, by omega, rfl⟩
            · rw [if_neg c2]
              have p0 : 0 ≤ n := Int32.not_lt.mp (fun h9 => h1 ⟨c2, h9⟩)
              have p1 : n ≤ 40 := Int32.not_lt.mp (fun h9 => h2 ⟨c2, h9⟩)
              obtain ⟨e1, -, l1⟩ := wi_lit (x := n) (a := 0) (c := 40) rfl rfl (by decide) (by decide) (wi_in p0 p1)
              exact ⟨iN n, l1, e1⟩
          · rw [upd_ne c, upd_ne c]
            exact hS q hq
        · show cutF (upd s.1 (iN x) b q) (zfN s.2.2 (iN x) 40 (40 * q + j)) = zfN s.2.2 (iN x) 40 (40 * q + j)
          by_cases c : q = iN x
          · have e9 : zfN s.2.2 (iN x) 40 (40 * q + j) = 0 := if_pos ⟨by omega, by omega⟩
            rw [e9]
            exact cut_z _
          · have e9 : zfN s.2.2 (iN x) 40 (40 * q + j) = s.2.2 (40 * q + j) := if_neg (by omega)
            rw [e9, upd_ne c]
            exact hT q hq j hj
  · exact ⟨hS, hT⟩
theorem S_put {s : Sh} (hS : InvS s) (hT : InvT s) (x i v : Int32) : InvS (op_put s x i v).2.2 ∧ InvT (op_put s x i v).2.2 := by
  unfold op_put
  split
  · rename_i h
    obtain ⟨ex, -, lx⟩ := wi_lit (a := 0) (c := 3) rfl rfl (by decide) (by decide) h
    split
    · exact ⟨hS, hT⟩
    · split
      · rename_i h1
        obtain ⟨hb, n9, l9, e9⟩ := hS (iN x) (by omega)
        obtain ⟨ei, li⟩ := wi_cnt e9 (by omega) h1
        refine ⟨hS, fun q hq j hj => ?_⟩
        show cutF (s.1 q) (upd s.2.2 (40 * iN x + iN i) (cutF (s.1 (iN x)) v) (40 * q + j)) = upd s.2.2 (40 * iN x + iN i) (cutF (s.1 (iN x)) v) (40 * q + j)
        by_cases c : 40 * q + j = 40 * iN x + iN i
        · rw [c, upd_at, show q = iN x by omega]
          exact cut_cut _ _ hb
        · rw [upd_ne c]
          exact hT q hq j hj
      · exact ⟨hS, hT⟩
  · exact ⟨hS, hT⟩
theorem S_move {s : Sh} (hS : InvS s) (hT : InvT s) (x i y j n : Int32) : InvS (op_move s x i y j n).2.2 ∧ InvT (op_move s x i y j n).2.2 := by
  unfold op_move
  split
  · rename_i h
    rw [Bool.and_eq_true] at h
    obtain ⟨-, -, lx⟩ := wi_lit (a := 0) (c := 3) rfl rfl (by decide) (by decide) h.1
    obtain ⟨-, -, ly⟩ := wi_lit (a := 0) (c := 3) rfl rfl (by decide) (by decide) h.2
    split
    · exact ⟨hS, hT⟩
    · split
      · rename_i hw
        split
        · rename_i hp
          rw [Bool.and_eq_true] at hp
          obtain ⟨-, zx, lzx, ezx⟩ := hS (iN x) (by omega)
          obtain ⟨-, zy, lzy, ezy⟩ := hS (iN y) (by omega)
          obtain ⟨-, -, s1⟩ := sp_ok ezx lzx hp.1
          obtain ⟨-, -, s2⟩ := sp_ok ezy lzy hp.2
          refine ⟨hS, fun q hq k hk => ?_⟩
          show cutF (s.1 q) (mvF s.2.2 (40 * iN x + iN i) (40 * iN y + iN j) (iN n) (40 * q + k)) = mvF s.2.2 (40 * iN x + iN i) (40 * iN y + iN j) (iN n) (40 * q + k)
          unfold mvF
          by_cases c : 40 * iN y + iN j ≤ 40 * q + k ∧ 40 * q + k < 40 * iN y + iN j + iN n
          · rw [if_pos c]
            have eq : q = iN y := by omega
            rw [eq, ← hw, show 40 * iN x + iN i + (40 * iN y + k - (40 * iN y + iN j)) = 40 * iN x + (iN i + (k - iN j)) by omega]
            exact hT (iN x) (by omega) _ (by omega)
          · rw [if_neg c]
            exact hT q hq k hk
        · exact ⟨hS, hT⟩
      · exact ⟨hS, hT⟩
  · exact ⟨hS, hT⟩
theorem vo_le {σ : Rw} {tr : Tr} (h : tr.1 ≤ 40) (x y w : Int32) : (op_voice σ tr x y w).2.2.1 ≤ 40 := by
  unfold op_voice
  split
  · show (vcF (iN y) (kf σ (iN x) 0) (nI (iN x)) (kf σ (iN x) 1) w (0, tr.2)).2.1 ≤ 40
    unfold vcF
    have h0 : ((0, tr.2) : Tr).1 ≤ 40 := Nat.zero_le _
    split
    · exact vLi_le h0
    · split
      · exact vSw_le h0
      · split
        · exact vSi_le h0
        · exact vTe_le h0
  · exact h
