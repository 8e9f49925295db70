/-! constants of text: reads, calls -/
abbrev sK (Γ : Cx) (i : Nat) : Nat := Γ.2.2 (10 + i)
abbrev sV (Γ : Cx) (i : Nat) : Nat := Γ.2.2 (20 + i)
def sLen (i : Nat) : Nat := strLen.getD i 0
def sByt (i j : Nat) : Int32 := (strByt.getD i []).getD j 0
section StrRules
variable {Γ : Cx} {f g : Md} {d b pc d' b' b'' idx n : Nat} {L : List (Option Value)} {st stk As : List Value} {G : Wd} {Q : Option Value → Wd → Prop} {Q' : Option Value → Wd → Prop}
theorem ok_sgetV {i : Nat} (hi : i < 7) (hd : decode f.2.1 pc = .ok (.getfield idx, 3)) (w : Cond.fieldLink f.1.cls idx "java/lang/String" "value" "[B" ∈ lwg) (k : Ok Γ f d b (pc + 3) L (.ref (sV Γ i) :: st) G Q) : Ok Γ f d b pc L (.ref (sK Γ i) :: st) G Q := by
  intro p e s m args below meth c F H locs cells slots bb h1 h2 hH hS ls hls
  have hkn := F.2.2.2.2.2.2.2.2
  exact vk_getf F.1 F.2.1 (hkn.2.2.2.2.2.2.2.1.1 i hi).2.2.1 hS F.2.2.2.2.1 (F.2.2.2.2.2.1 _ w) (fun _ h => h) hd (k p e s m args below meth c F H locs cells slots bb h1 h2 hH hS ls hls)
theorem ok_sgetC {i : Nat} (hi : i < 7) (hd : decode f.2.1 pc = .ok (.getfield idx, 3)) (w : Cond.fieldLink f.1.cls idx "java/lang/String" "coder" "B" ∈ lwg) (k : Ok Γ f d b (pc + 3) L (.int 0 :: st) G Q) : Ok Γ f d b pc L (.ref (sK Γ i) :: st) G Q := by
  intro p e s m args below meth c F H locs cells slots bb h1 h2 hH hS ls hls
  have hkn := F.2.2.2.2.2.2.2.2
  exact vk_getf F.1 F.2.1 (hkn.2.2.2.2.2.2.2.1.1 i hi).2.1 hS F.2.2.2.2.1 (F.2.2.2.2.2.1 _ w) (fun _ h => h) hd (k p e s m args below meth c F H locs cells slots bb h1 h2 hH hS ls hls)
theorem ok_compact (hd : decode f.2.1 pc = .ok (.getstatic idx, 3)) (w : Cond.fieldLink f.1.cls idx "java/lang/String" "COMPACT_STRINGS" "Z" ∈ lwg) (k : Ok Γ f d b (pc + 3) L (.int 1 :: st) G Q) : Ok Γ f d b pc L st G Q := by
  intro p e s m args below meth c F H locs cells slots bb h1 h2 hH hS ls hls
  have hkn := F.2.2.2.2.2.2.2.2
  exact va_gets F.1 F.2.1 hkn.2.2.2.2.2.1 hS F.2.2.2.2.1 (F.2.2.2.2.2.1 _ w) (fun _ h => h) hd (k p e s m args below meth c F H locs cells slots bb h1 h2 hH hS ls hls)
theorem ok_sioobe (hd : decode f.2.1 pc = .ok (.getstatic idx, 3)) (w : Cond.fieldLink f.1.cls idx "jdk/internal/util/Preconditions" "SIOOBE_FORMATTER" "Ljava/util/function/BiFunction;" ∈ lwg) (k1 : Ok Γ f d b (pc + 3) L (.null :: st) G Q) (k2 : ∀ t : Nat, Ok Γ f d b (pc + 3) L (.ref t :: st) G Q) : Ok Γ f d b pc L st G Q := by
  intro p e s m args below meth c F H locs cells slots bb h1 h2 hH hS ls hls
  have hkn := F.2.2.2.2.2.2.2.2
  rcases hkn.2.2.2.2.2.2.1 with hz | ⟨t, hz⟩
  · exact va_gets F.1 F.2.1 hz hS F.2.2.2.2.1 (F.2.2.2.2.2.1 _ w) (fun _ h => h) hd (k1 p e s m args below meth c F H locs cells slots bb h1 h2 hH hS ls hls)
  · exact va_gets F.1 F.2.1 hz hS F.2.2.2.2.1 (F.2.2.2.2.2.1 _ w) (fun _ h => h) hd (k2 t p e s m args below meth c F H locs cells slots bb h1 h2 hH hS ls hls)
theorem ok_slen {i : Nat} (hi : i < 7) (hd : decode f.2.1 pc = .ok (.arraylength, 1)) (k : Ok Γ f d b (pc + 1) L (.int (nI (sLen i)) :: st) G Q) : Ok Γ f d b pc L (.ref (sV Γ i) :: st) G Q := by
  intro p e s m args below meth c F H locs cells slots bb h1 h2 hH hS ls hls
  have hkn := F.2.2.2.2.2.2.2.2
  exact va_tlen F.1 F.2.1 (hkn.2.2.2.2.2.2.2.1.1 i hi).2.2.2 hS rfl hd (k p e s m args below meth c F H locs cells slots bb h1 h2 hH hS ls hls)
theorem ok_sbald {i : Nat} {x : Int32} (j : Nat) (hi : i < 7) (hd : decode f.2.1 pc = .ok (.baload, 1)) (hx : x = nI j) (hj : j < sLen i) (hl : sLen i < 1000) (k : Ok Γ f d b (pc + 1) L (.int (sByt i j) :: st) G Q) : Ok Γ f d b pc L (.int x :: .ref (sV Γ i) :: st) G Q := by
  intro p e s m args below meth c F H locs cells slots bb h1 h2 hH hS ls hls
  have hkn := F.2.2.2.2.2.2.2.2
  subst hx
  exact va_tb F.1 F.2.1 (hkn.2.2.2.2.2.2.2.1.1 i hi).2.2.2 hS (vp_in_nI hj (show sLen i < 2 ^ 31 by omega)) (by rw [nI_clamp (by omega)]; rfl) hd (k p e s m args below meth c F H locs cells slots bb h1 h2 hH hS ls hls)
theorem ok_callTG {i : Nat} (hi : i < 7) (hrc : g.1.cls = "java/lang/String") (hd : decode f.2.1 pc = .ok (.invokevirtual idx, 3)) (hl : VLink f.1.cls idx g n) (hn : As.length = n) (hst : stk = As.reverse ++ .ref (sK Γ i) :: st) (h8 : stk8 st = true) (hdd : d' + 1 ≤ d) (hbb : b' + b'' ≤ b) (hs : Spec Γ g d' b' (.ref (sK Γ i) :: As) G Q') (hk : ∀ v G', Q' v G' → Ok Γ f d b'' (pc + 3) L (v.toList ++ st) G' Q) : Ok Γ f d b pc L stk G Q := by
  intro p e s m args below meth c F H locs cells slots bb h1 h2 hH hS ls hls
  obtain ⟨hx, hb9, hr, hml, hown, hts, hlk, hnm, hkn⟩ := id F
  obtain ⟨⟨g1, g2, g3, g4⟩, l1, l2, l3⟩ := hl
  refine run_ok (Q' := Q') (va_runV (C := g.1.cls) ⟨hx, hb9, hml, hown, hts⟩ hs ⟨callB_of n hts (wsm_good g1) rfl rfl rfl (hts _ g2) (hts _ l1) g3 (room_ok (bb := bb) hdd g4), hts _ l2, hts _ l3⟩ ⟨blindP Γ _ G, by rw [hrc]; exact vk_recv hkn.2.2.2.2.2.2.2.1 hi hS, pre_ok hH hS hkn⟩ rfl hn hls.1 hst (stk8_ok h8) hd ⟨by show cells + b' ≤ bb; omega, by show slots + 400 * b' ≤ 400 * bb; omega⟩) hS (fun v G' H1 locs1 hq hp1 hS1 => ?_)
  exact hk v G' hq p e s m args below meth c F H1 locs1 _ _ bb (by omega) (by omega) hp1 hS1 ls hls
theorem ok_callT0 {i : Nat} (hi : i < 7) (hrc : g.1.cls = "java/lang/String") (hd : decode f.2.1 pc = .ok (.invokevirtual idx, 3)) (hl : VLink f.1.cls idx g 0) (h8 : stk8 st = true) (hdd : d' + 1 ≤ d) (hs : Spec Γ g d' 0 [.ref (sK Γ i)] G (ci (fun r G' => Ok Γ f d b (pc + 3) L (.int r :: st) G' Q))) : Ok Γ f d b pc L (.ref (sK Γ i) :: st) G Q :=
  ok_callTG (b' := 0) (b'' := b) (As := []) (st := st) hi hrc hd hl rfl rfl h8 hdd (by omega) hs (fun v G' h => by obtain ⟨r, rfl, h⟩ := h; exact h)
theorem ok_callT1 {i : Nat} {v1 : Value} (hi : i < 7) (hrc : g.1.cls = "java/lang/String") (hd : decode f.2.1 pc = .ok (.invokevirtual idx, 3)) (hl : VLink f.1.cls idx g 1) (h8 : stk8 st = true) (hdd : d' + 1 ≤ d) (hs : Spec Γ g d' 0 [.ref (sK Γ i), v1] G (ci (fun r G' => Ok Γ f d b (pc + 3) L (.int r :: st) G' Q))) : Ok Γ f d b pc L (v1 :: .ref (sK Γ i) :: st) G Q :=
  ok_callTG (b' := 0) (b'' := b) (As := [v1]) (st := st) hi hrc hd hl rfl rfl h8 hdd (by omega) hs (fun v G' h => by obtain ⟨r, rfl, h⟩ := h; exact h)
theorem ok_callT2 {i : Nat} {v1 v2 : Value} (hi : i < 7) (hrc : g.1.cls = "java/lang/String") (hd : decode f.2.1 pc = .ok (.invokevirtual idx, 3)) (hl : VLink f.1.cls idx g 2) (h8 : stk8 st = true) (hdd : d' + 1 ≤ d) (hs : Spec Γ g d' 0 [.ref (sK Γ i), v1, v2] G (ci (fun r G' => Ok Γ f d b (pc + 3) L (.int r :: st) G' Q))) : Ok Γ f d b pc L (v2 :: v1 :: .ref (sK Γ i) :: st) G Q :=
  ok_callTG (b' := 0) (b'' := b) (As := [v1, v2]) (st := st) hi hrc hd hl rfl rfl h8 hdd (by omega) hs (fun v G' h => by obtain ⟨r, rfl, h⟩ := h; exact h)
end StrRules
theorem sLen_lt : ∀ i, i < 7 → sLen i < 5 ∧ 0 < sLen i := by decide
theorem sByt_c : ∀ i, i < 7 → ∀ j, j < sLen i → ji2c (sByt i j &&& 255) = sByt i j ∧ narrow .char (.int (sByt i j)) = .int (sByt i j) := by decide

set_option maxHeartbeats 1000000 in
theorem s_coder {Γ : Cx} {G : Wd} {K : Int32 → Wd → Prop} {i : Nat} (hi : i < 7) (k : K 0 G) : Spec Γ mJ0_coder_7d493 0 0 [.ref (sK Γ i)] G (ci K) := by
  refine spec_in [some (.ref (sK Γ i))] 0 (by decide) rfl rfl ?_
  refine ok_compact (pc := 0) dJ0_coder_7d493_0 tw_662 ?_
  refine ok_if_eq (pc := 3) 13 dJ0_coder_7d493_3 (by decide) (fun cc_3 => ?_) (fun cc_3 => ?_)
  · exact absurd cc_3 (by decide)
  · refine ok_aload_n (pc := 6) dJ0_coder_7d493_6 rfl ?_
    refine ok_sgetC (pc := 7) hi dJ0_coder_7d493_7 tw_1674 ?_
    refine ok_goto (pc := 10) 14 dJ0_coder_7d493_10 (by decide) ?_
    refine ok_nret (pc := 14) dJ0_coder_7d493_14 rfl rfl ?_
    exact k

set_option maxHeartbeats 1000000 in
theorem s_length {Γ : Cx} {G : Wd} {K : Int32 → Wd → Prop} {i : Nat} (hi : i < 7) (k : K (nI (sLen i)) G) : Spec Γ mJ0_length_8abf5 1 0 [.ref (sK Γ i)] G (ci K) := by
  refine spec_in [some (.ref (sK Γ i))] 0 (by decide) rfl rfl ?_
  refine ok_aload_n (pc := 0) dJ0_length_8abf5_0 rfl ?_
  refine ok_sgetV (pc := 1) hi dJ0_length_8abf5_1 tw_1675 ?_
  refine ok_slen (pc := 4) hi dJ0_length_8abf5_4 ?_
  refine ok_aload_n (pc := 5) dJ0_length_8abf5_5 rfl ?_
  refine ok_callT0 (pc := 6) (d' := 0) hi rfl dJ0_length_8abf5_6 vl_J0_335 rfl (by decide) ?_
  refine s_coder hi ?_
  refine ok_ishr (pc := 9) dJ0_length_8abf5_9 ?_
  refine ok_iret (pc := 10) dJ0_length_8abf5_10 rfl ?_
  have h5 := (sLen_lt i hi).1
  rw [show (0 : Int32) = nI 0 from rfl, jshr_n (by omega) (by decide), Nat.pow_zero, Nat.div_one]
  exact k

set_option maxHeartbeats 1000000 in
theorem s_isLatin1 {Γ : Cx} {G : Wd} {K : Int32 → Wd → Prop} {i : Nat} (hi : i < 7) (k : K 1 G) : Spec Γ mJ0_isLatin1_aae02 0 0 [.ref (sK Γ i)] G (ci K) := by
  refine spec_in [some (.ref (sK Γ i))] 0 (by decide) rfl rfl ?_
  refine ok_compact (pc := 0) dJ0_isLatin1_aae02_0 tw_662 ?_
  refine ok_if_eq (pc := 3) 17 dJ0_isLatin1_aae02_3 (by decide) (fun cc_3 => ?_) (fun cc_3 => ?_)
  · exact absurd cc_3 (by decide)
  · refine ok_aload_n (pc := 6) dJ0_isLatin1_aae02_6 rfl ?_
    refine ok_sgetC (pc := 7) hi dJ0_isLatin1_aae02_7 tw_1674 ?_
    refine ok_if_ne (pc := 10) 17 dJ0_isLatin1_aae02_10 (by decide) (fun cc_10 => ?_) (fun cc_10 => ?_)
    · exact absurd rfl cc_10
    · refine ok_iconst (pc := 13) (v := 1) dJ0_isLatin1_aae02_13 (by decide) ?_
      refine ok_goto (pc := 14) 18 dJ0_isLatin1_aae02_14 (by decide) ?_
      refine ok_zret (pc := 18) dJ0_isLatin1_aae02_18 rfl rfl ?_
      exact k

set_option maxHeartbeats 1000000 in
theorem s_chk3N {Γ : Cx} {G : Wd} {K : Int32 → Wd → Prop} {x y : Int32} (h0 : ¬ x < 0) (h1 : x < y) (k : K x G) : Spec Γ mJ3_checkIndex_8e157 0 0 [.int x, .int y, .null] G (ci K) := by
  refine spec_in [some (.int x), some (.int y), some (.null)] 0 (by decide) rfl rfl ?_
  refine ok_iload_n (pc := 0) dJ3_checkIndex_8e157_0 rfl ?_
  refine ok_if_lt (pc := 1) 9 dJ3_checkIndex_8e157_1 (by decide) (fun cc_1 => ?_) (fun cc_1 => ?_)
  · exact absurd cc_1 h0
  · have ce_1 := Int32.not_lt.mp cc_1
    refine ok_iload_n (pc := 4) dJ3_checkIndex_8e157_4 rfl ?_
    refine ok_iload_n (pc := 5) dJ3_checkIndex_8e157_5 rfl ?_
    refine ok_icmp_lt (pc := 6) 16 dJ3_checkIndex_8e157_6 (by decide) (fun cc_6 => ?_) (fun cc_6 => ?_)
    · have ce_6 := Int32.not_le.mpr cc_6
      refine ok_iload_n (pc := 16) dJ3_checkIndex_8e157_16 rfl ?_
      refine ok_iret (pc := 17) dJ3_checkIndex_8e157_17 rfl ?_
      exact k
    · exact absurd h1 cc_6

set_option maxHeartbeats 1000000 in
theorem s_chk3R {Γ : Cx} {G : Wd} {K : Int32 → Wd → Prop} {x y : Int32} {t : Nat} (h0 : ¬ x < 0) (h1 : x < y) (k : K x G) : Spec Γ mJ3_checkIndex_8e157 0 0 [.int x, .int y, .ref t] G (ci K) := by
  refine spec_in [some (.int x), some (.int y), some (.ref t)] 0 (by decide) rfl rfl ?_
  refine ok_iload_n (pc := 0) dJ3_checkIndex_8e157_0 rfl ?_
  refine ok_if_lt (pc := 1) 9 dJ3_checkIndex_8e157_1 (by decide) (fun cc_1 => ?_) (fun cc_1 => ?_)
  · exact absurd cc_1 h0
  · have ce_1 := Int32.not_lt.mp cc_1
    refine ok_iload_n (pc := 4) dJ3_checkIndex_8e157_4 rfl ?_
    refine ok_iload_n (pc := 5) dJ3_checkIndex_8e157_5 rfl ?_
    refine ok_icmp_lt (pc := 6) 16 dJ3_checkIndex_8e157_6 (by decide) (fun cc_6 => ?_) (fun cc_6 => ?_)
    · have ce_6 := Int32.not_le.mpr cc_6
      refine ok_iload_n (pc := 16) dJ3_checkIndex_8e157_16 rfl ?_
      refine ok_iret (pc := 17) dJ3_checkIndex_8e157_17 rfl ?_
      exact k
    · exact absurd h1 cc_6

set_option maxHeartbeats 1000000 in
theorem s_chk {Γ : Cx} {G : Wd} {K : Wd → Prop} {x y : Int32} (h0 : ¬ x < 0) (h1 : x < y) (k : K G) : Spec Γ mJ0_checkIndex_df160 1 0 [.int x, .int y] G (cv K) := by
  refine spec_in [some (.int x), some (.int y)] 0 (by decide) rfl rfl ?_
  refine ok_iload_n (pc := 0) dJ0_checkIndex_df160_0 rfl ?_
  refine ok_iload_n (pc := 1) dJ0_checkIndex_df160_1 rfl ?_
  refine ok_sioobe (pc := 2) dJ0_checkIndex_df160_2 tw_701 ?_ (fun t => ?_)
  · refine ok_callSi3 (pc := 5) (d' := 0) dJ0_checkIndex_df160_5 sl_J0_1059 rfl (by decide) ?_
    refine s_chk3N h0 h1 ?_
    refine ok_pop (pc := 8) dJ0_checkIndex_df160_8 rfl ?_
    refine ok_vret (pc := 9) dJ0_checkIndex_df160_9 rfl ?_
    exact k
  · refine ok_callSi3 (pc := 5) (d' := 0) dJ0_checkIndex_df160_5 sl_J0_1059 rfl (by decide) ?_
    refine s_chk3R h0 h1 ?_
    refine ok_pop (pc := 8) dJ0_checkIndex_df160_8 rfl ?_
    refine ok_vret (pc := 9) dJ0_checkIndex_df160_9 rfl ?_
    exact k

set_option maxHeartbeats 1000000 in
theorem s_charAt1 {Γ : Cx} {G : Wd} {K : Int32 → Wd → Prop} {i : Nat} (hi : i < 7) {x : Int32} (j : Nat) (hx : x = nI j) (hj : j < sLen i) (k : K (sByt i j) G) : Spec Γ mJ1_charAt_3b067 2 0 [.ref (sV Γ i), .int x] G (ci K) := by
  have h5 := (sLen_lt i hi).1
  refine spec_in [some (.ref (sV Γ i)), some (.int x)] 0 (by decide) rfl rfl ?_
  refine ok_iload_n (pc := 0) dJ1_charAt_3b067_0 rfl ?_
  refine ok_aload_n (pc := 1) dJ1_charAt_3b067_1 rfl ?_
  refine ok_slen (pc := 2) hi dJ1_charAt_3b067_2 ?_
  refine ok_callSv2 (pc := 3) (d' := 1) dJ1_charAt_3b067_3 sl_J1_9 rfl (by decide) ?_
  refine s_chk (by rw [hx]; exact nI_pos (by omega)) (by rw [hx]; exact nI_lt hj (by omega)) ?_
  refine ok_aload_n (pc := 6) dJ1_charAt_3b067_6 rfl ?_
  refine ok_iload_n (pc := 7) dJ1_charAt_3b067_7 rfl ?_
  refine ok_sbald (pc := 8) j hi dJ1_charAt_3b067_8 hx hj (by omega) ?_
  refine ok_sipush (pc := 9) (v := 255) dJ1_charAt_3b067_9 (by decide) ?_
  refine ok_iand (pc := 12) dJ1_charAt_3b067_12 ?_
  refine ok_i2c (pc := 13) dJ1_charAt_3b067_13 ?_
  rw [(sByt_c i hi j hj).1]
  refine ok_nret (pc := 14) dJ1_charAt_3b067_14 rfl (sByt_c i hi j hj).2 ?_
  exact k

set_option maxHeartbeats 1000000 in
theorem s_charAt {Γ : Cx} {G : Wd} {K : Int32 → Wd → Prop} {i : Nat} (hi : i < 7) {x : Int32} (j : Nat) (hx : x = nI j) (hj : j < sLen i) (k : K (sByt i j) G) : Spec Γ mJ0_charAt_5068e 3 0 [.ref (sK Γ i), .int x] G (ci K) := by
  refine spec_in [some (.ref (sK Γ i)), some (.int x)] 0 (by decide) rfl rfl ?_
  refine ok_aload_n (pc := 0) dJ0_charAt_5068e_0 rfl ?_
  refine ok_callT0 (pc := 1) (d' := 0) hi rfl dJ0_charAt_5068e_1 vl_J0_492 rfl (by decide) ?_
  refine s_isLatin1 hi ?_
  refine ok_if_eq (pc := 4) 16 dJ0_charAt_5068e_4 (by decide) (fun cc_4 => ?_) (fun cc_4 => ?_)
  · exact absurd cc_4 (by decide)
  · refine ok_aload_n (pc := 7) dJ0_charAt_5068e_7 rfl ?_
    refine ok_sgetV (pc := 8) hi dJ0_charAt_5068e_8 tw_1675 ?_
    refine ok_iload_n (pc := 11) dJ0_charAt_5068e_11 rfl ?_
    refine ok_callSi2 (pc := 12) (d' := 2) dJ0_charAt_5068e_12 sl_J0_495 rfl (by decide) ?_
    refine s_charAt1 hi j hx hj ?_
    refine ok_nret (pc := 15) dJ0_charAt_5068e_15 rfl (sByt_c i hi j hj).2 ?_
    exact k

set_option maxHeartbeats 1000000 in
theorem s_canEncode {Γ : Cx} {G : Wd} {K : Int32 → Wd → Prop} {x : Int32} (k : K (bI (wi x 0 255)) G) : Spec Γ mJ1_canEncode_9a6ad 0 0 [.int x] G (ci K) := by
  refine spec_in [some (.int x)] 0 (by decide) rfl rfl ?_
  refine ok_iload_n (pc := 0) dJ1_canEncode_9a6ad_0 rfl ?_
  refine ok_if_lt (pc := 1) 15 dJ1_canEncode_9a6ad_1 (by decide) (fun cc_1 => ?_) (fun cc_1 => ?_)
  · have ce_1 := Int32.not_le.mpr cc_1
    refine ok_iconst (pc := 15) (v := 0) dJ1_canEncode_9a6ad_15 (by decide) ?_
    refine ok_zret (pc := 16) dJ1_canEncode_9a6ad_16 rfl rfl ?_
    simpa [wi, bI, cc_1, ce_1] using k
  · have ce_1 := Int32.not_lt.mp cc_1
    refine ok_iload_n (pc := 4) dJ1_canEncode_9a6ad_4 rfl ?_
    refine ok_sipush (pc := 5) (v := 255) dJ1_canEncode_9a6ad_5 (by decide) ?_
    refine ok_icmp_gt (pc := 8) 15 dJ1_canEncode_9a6ad_8 (by decide) (fun cc_8 => ?_) (fun cc_8 => ?_)
    · have ce_8 := Int32.not_le.mpr cc_8
      refine ok_iconst (pc := 15) (v := 0) dJ1_canEncode_9a6ad_15 (by decide) ?_
      refine ok_zret (pc := 16) dJ1_canEncode_9a6ad_16 rfl rfl ?_
      simpa [wi, bI, cc_1, ce_1, cc_8, ce_8] using k
    · have ce_8 := Int32.not_lt.mp cc_8
      refine ok_iconst (pc := 11) (v := 1) dJ1_canEncode_9a6ad_11 (by decide) ?_
      refine ok_goto (pc := 12) 16 dJ1_canEncode_9a6ad_12 (by decide) ?_
      refine ok_zret (pc := 16) dJ1_canEncode_9a6ad_16 rfl rfl ?_
      simpa [wi, bI, cc_1, ce_1, cc_8, ce_8] using k

def ixA (i : Nat) (c : Int32) : Nat → Nat → Int32
  | 0, _ => -1
  | n + 1, j => if sByt i j = c then nI j else ixA i c n (j + 1)
/-- the place of a byte in a constant of text -/
def ixS (i : Nat) (c : Int32) : Int32 := if wi c 0 255 then ixA i c.toInt8.toInt32 (sLen i) 0 else -1

set_option maxHeartbeats 1000000 in
theorem l_ixc {Γ : Cx} {G : Wd} {K : Int32 → Wd → Prop} {i : Nat} (hi : i < 7) {c z x3 q1 : Int32} (e3 : x3 = nI (sLen i)) (A0 : Int32) (k : K A0 G) : ∀ (n : Nat) (j : Nat) (xj : Int32), j + n = sLen i → xj = nI j → ixA i c n j = A0 → Ok Γ mJ1_indexOfChar_4cfef 0 0 7 [some (.ref (sV Γ i)), some (.int z), some (.int q1), some (.int x3), some (.int c), some (.int xj)] [] G (ci K) := by
  have h5 := (sLen_lt i hi).1
  intro n
  induction n with
  | zero =>
    intro j xj h1 ej hA
    refine ok_iload (pc := 7) dJ1_indexOfChar_4cfef_7 rfl ?_
    refine ok_iload_n (pc := 9) dJ1_indexOfChar_4cfef_9 rfl ?_
    refine ok_icmp_ge (pc := 10) 31 dJ1_indexOfChar_4cfef_10 (by decide) (fun cc_10 => ?_) (fun cc_10 => ?_)
    · have ce_10 := Int32.not_lt.mpr cc_10
      have hA9 : (-1 : Int32) = A0 := hA
      subst hA9
      refine ok_iconst (pc := 31) (v := -1) dJ1_indexOfChar_4cfef_31 (by decide) ?_
      refine ok_iret (pc := 32) dJ1_indexOfChar_4cfef_32 rfl ?_
      exact k
    · exact absurd (by rw [e3, ej]; exact nI_le (by omega) (by omega)) cc_10
  | succ n ih =>
    intro j xj h1 ej hA
    refine ok_iload (pc := 7) dJ1_indexOfChar_4cfef_7 rfl ?_
    refine ok_iload_n (pc := 9) dJ1_indexOfChar_4cfef_9 rfl ?_
    refine ok_icmp_ge (pc := 10) 31 dJ1_indexOfChar_4cfef_10 (by decide) (fun cc_10 => ?_) (fun cc_10 => ?_)
    · rw [e3, ej] at cc_10
      exact absurd cc_10 (nI_ge (by omega) (by omega))
    · have ce_10 := Int32.not_le.mp cc_10
      refine ok_aload_n (pc := 13) dJ1_indexOfChar_4cfef_13 rfl ?_
      refine ok_iload (pc := 14) dJ1_indexOfChar_4cfef_14 rfl ?_
      refine ok_sbald (pc := 16) j hi dJ1_indexOfChar_4cfef_16 ej (by omega) (by omega) ?_
      refine ok_iload (pc := 17) dJ1_indexOfChar_4cfef_17 rfl ?_
      refine ok_icmp_ne (pc := 19) 25 dJ1_indexOfChar_4cfef_19 (by decide) (fun cc_19 => ?_) (fun cc_19 => ?_)
      · have hA9 : ixA i c n (j + 1) = A0 := by rw [← hA]; exact (if_neg cc_19).symm
        refine ok_iinc5 (pc := 25) (v := 1) dJ1_indexOfChar_4cfef_25 (by decide) (by decide) rfl ?_
        refine ok_goto (pc := 28) 7 dJ1_indexOfChar_4cfef_28 (by decide) ?_
        exact ih (j + 1) _ (by omega) (by rw [ej, nI_1]) hA9
      · have hA9 : nI j = A0 := by rw [← hA]; exact (if_pos cc_19).symm
        subst hA9
        rw [ej]
        refine ok_iload (pc := 22) dJ1_indexOfChar_4cfef_22 rfl ?_
        refine ok_iret (pc := 24) dJ1_indexOfChar_4cfef_24 rfl ?_
        exact k

set_option maxHeartbeats 1000000 in
theorem s_ixc {Γ : Cx} {G : Wd} {K : Int32 → Wd → Prop} {i : Nat} (hi : i < 7) {x y z : Int32} (ey : y = 0) (ez : z = nI (sLen i)) (k : K (ixA i x.toInt8.toInt32 (sLen i) 0) G) : Spec Γ mJ1_indexOfChar_4cfef 0 0 [.ref (sV Γ i), .int x, .int y, .int z] G (ci K) := by
  refine spec_in [some (.ref (sV Γ i)), some (.int x), some (.int y), some (.int z), none, none] 2 (by decide) rfl rfl ?_
  refine ok_iload_n (pc := 0) dJ1_indexOfChar_4cfef_0 rfl ?_
  refine ok_i2b (pc := 1) dJ1_indexOfChar_4cfef_1 ?_
  refine ok_istore4 (pc := 2) dJ1_indexOfChar_4cfef_2 (by decide) rfl ?_
  refine ok_iload_n (pc := 4) dJ1_indexOfChar_4cfef_4 rfl ?_
  refine ok_istore5 (pc := 5) dJ1_indexOfChar_4cfef_5 (by decide) rfl ?_
  exact l_ixc hi ez _ k (sLen i) 0 _ (by omega) (by rw [ey]; rfl) rfl

set_option maxHeartbeats 1000000 in
theorem s_ix4 {Γ : Cx} {G : Wd} {K : Int32 → Wd → Prop} {i : Nat} (hi : i < 7) {x y z : Int32} (ey : y = 0) (ez : z = nI (sLen i)) (k : K (ixS i x) G) : Spec Γ mJ1_indexOf_4cfef 1 0 [.ref (sV Γ i), .int x, .int y, .int z] G (ci K) := by
  have h5 := sLen_lt i hi
  have em : jmin (nI (sLen i)) (nI (sLen i)) = nI (sLen i) := by unfold jmin; split <;> rfl
  have ex : jmax (0 : Int32) 0 = 0 := by decide
  refine spec_in [some (.ref (sV Γ i)), some (.int x), some (.int y), some (.int z)] 0 (by decide) rfl rfl ?_
  refine ok_iload_n (pc := 0) dJ1_indexOf_4cfef_0 rfl ?_
  refine ok_callSi1 (pc := 1) (d' := 0) dJ1_indexOf_4cfef_1 sl_J1_88 rfl (by decide) ?_
  refine s_canEncode ?_
  refine ok_if_ne (pc := 4) 9 dJ1_indexOf_4cfef_4 (by decide) (fun cc_4 => ?_) (fun cc_4 => ?_)
  · have cq_4 := bI_n0.mp cc_4
    refine ok_iload_n (pc := 9) dJ1_indexOf_4cfef_9 rfl ?_
    refine ok_iconst (pc := 10) (v := 0) dJ1_indexOf_4cfef_10 (by decide) ?_
    refine ok_mmax (pc := 11) dJ1_indexOf_4cfef_11 tw_678 rfl (by decide) ?_
    rw [ey, ex]
    refine ok_istore_n2 (pc := 14) dJ1_indexOf_4cfef_14 (by decide) rfl ?_
    refine ok_iload_n (pc := 15) dJ1_indexOf_4cfef_15 rfl ?_
    refine ok_aload_n (pc := 16) dJ1_indexOf_4cfef_16 rfl ?_
    refine ok_slen (pc := 17) hi dJ1_indexOf_4cfef_17 ?_
    refine ok_mmin (pc := 18) dJ1_indexOf_4cfef_18 tw_679 rfl (by decide) ?_
    rw [ez, em]
    refine ok_istore_n3 (pc := 21) dJ1_indexOf_4cfef_21 (by decide) rfl ?_
    refine ok_iload_n (pc := 22) dJ1_indexOf_4cfef_22 rfl ?_
    refine ok_iload_n (pc := 23) dJ1_indexOf_4cfef_23 rfl ?_
    refine ok_icmp_lt (pc := 24) 29 dJ1_indexOf_4cfef_24 (by decide) (fun cc_24 => ?_) (fun cc_24 => ?_)
    · have ce_24 := Int32.not_le.mpr cc_24
      refine ok_aload_n (pc := 29) dJ1_indexOf_4cfef_29 rfl ?_
      refine ok_iload_n (pc := 30) dJ1_indexOf_4cfef_30 rfl ?_
      refine ok_iload_n (pc := 31) dJ1_indexOf_4cfef_31 rfl ?_
      refine ok_iload_n (pc := 32) dJ1_indexOf_4cfef_32 rfl ?_
      refine ok_callSi4 (pc := 33) (d' := 0) dJ1_indexOf_4cfef_33 sl_J1_95 rfl (by decide) ?_
      refine s_ixc hi rfl rfl ?_
      refine ok_iret (pc := 36) dJ1_indexOf_4cfef_36 rfl ?_
      have e9 : ixS i x = ixA i x.toInt8.toInt32 (sLen i) 0 := if_pos cq_4
      rw [e9] at k
      exact k
    · exact absurd (nI_lt (a := 0) (by omega) (by omega)) cc_24
  · have cq_4 := bI_0.mp cc_4
    refine ok_iconst (pc := 7) (v := -1) dJ1_indexOf_4cfef_7 (by decide) ?_
    refine ok_iret (pc := 8) dJ1_indexOf_4cfef_8 rfl ?_
    have e9 : ixS i x = -1 := if_neg (by rw [cq_4]; decide)
    rw [e9] at k
    exact k

set_option maxHeartbeats 1000000 in
theorem s_ix2 {Γ : Cx} {G : Wd} {K : Int32 → Wd → Prop} {i : Nat} (hi : i < 7) {x y : Int32} (ey : y = 0) (k : K (ixS i x) G) : Spec Γ mJ0_indexOf_7cf53 2 0 [.ref (sK Γ i), .int x, .int y] G (ci K) := by
  refine spec_in [some (.ref (sK Γ i)), some (.int x), some (.int y)] 0 (by decide) rfl rfl ?_
  refine ok_aload_n (pc := 0) dJ0_indexOf_7cf53_0 rfl ?_
  refine ok_callT0 (pc := 1) (d' := 0) hi rfl dJ0_indexOf_7cf53_1 vl_J0_492 rfl (by decide) ?_
  refine s_isLatin1 hi ?_
  refine ok_if_eq (pc := 4) 23 dJ0_indexOf_7cf53_4 (by decide) (fun cc_4 => ?_) (fun cc_4 => ?_)
  · exact absurd cc_4 (by decide)
  · refine ok_aload_n (pc := 7) dJ0_indexOf_7cf53_7 rfl ?_
    refine ok_sgetV (pc := 8) hi dJ0_indexOf_7cf53_8 tw_1675 ?_
    refine ok_iload_n (pc := 11) dJ0_indexOf_7cf53_11 rfl ?_
    refine ok_iload_n (pc := 12) dJ0_indexOf_7cf53_12 rfl ?_
    refine ok_aload_n (pc := 13) dJ0_indexOf_7cf53_13 rfl ?_
    refine ok_callT0 (pc := 14) (d' := 1) hi rfl dJ0_indexOf_7cf53_14 vl_J0_505 rfl (by decide) ?_
    refine s_length hi ?_
    refine ok_callSi4 (pc := 17) (d' := 1) dJ0_indexOf_7cf53_17 sl_J0_637 rfl (by decide) ?_
    refine s_ix4 hi ey rfl ?_
    refine ok_goto (pc := 20) 36 dJ0_indexOf_7cf53_20 (by decide) ?_
    refine ok_iret (pc := 36) dJ0_indexOf_7cf53_36 rfl ?_
    exact k

set_option maxHeartbeats 1000000 in
theorem s_ix1 {Γ : Cx} {G : Wd} {K : Int32 → Wd → Prop} {i : Nat} (hi : i < 7) {x : Int32} (k : K (ixS i x) G) : Spec Γ mJ0_indexOf_0f7a4 3 0 [.ref (sK Γ i), .int x] G (ci K) := by
  refine spec_in [some (.ref (sK Γ i)), some (.int x)] 0 (by decide) rfl rfl ?_
  refine ok_aload_n (pc := 0) dJ0_indexOf_0f7a4_0 rfl ?_
  refine ok_iload_n (pc := 1) dJ0_indexOf_0f7a4_1 rfl ?_
  refine ok_iconst (pc := 2) (v := 0) dJ0_indexOf_0f7a4_2 (by decide) ?_
  refine ok_callT2 (pc := 3) (d' := 2) hi rfl dJ0_indexOf_0f7a4_3 vl_J0_633 rfl (by decide) ?_
  refine s_ix2 hi rfl ?_
  refine ok_iret (pc := 6) dJ0_indexOf_0f7a4_6 rfl ?_
  exact k
