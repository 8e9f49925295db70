section MoreRules2
variable {Γ : Cx} {f g : Md} {d b pc d' b' b'' idx n : Nat} {L : List (Option Value)} {st stk As : List Value} {G : Wd} {Q : Option Value → Wd → Prop} {Q' : Option Value → Wd → Prop}
/-- int rows, by an index as it is -/
theorem ok_ialdI {a n : Nat} {fn : Nat → Int32} {i : Int32} (hd : decode f.2.1 pc = .ok (.iaload, 1)) (hG : G.1 a = some (.inl (Γ.2.2 1, n, .inl fn))) (hi : vp_in i n) (hn : n < 2 ^ 31) (kk : Ok Γ f d b (pc + 1) L (.int (fn i.toNatClampNeg) :: st) G Q) : Ok Γ f d b pc L (.int i :: .ref a :: st) G Q := by
  obtain ⟨j, hj, rfl⟩ := vp_in_of hi hn
  rw [nI_clamp (by omega)] at kk
  exact ok_iald j hd hG rfl hj hn kk
theorem ok_iastI {a n : Nat} {fn : Nat → Int32} {i x : Int32} (hd : decode f.2.1 pc = .ok (.iastore, 1)) (hG : G.1 a = some (.inl (Γ.2.2 1, n, .inl fn))) (hi : vp_in i n) (hn : n < 2 ^ 31) (kk : Ok Γ f d b (pc + 1) L st (va_up G.1 a (some (.inl (Γ.2.2 1, n, .inl (upd fn i.toNatClampNeg x)))), G.2) Q) : Ok Γ f d b pc L (.int x :: .int i :: .ref a :: st) G Q := by
  obtain ⟨j, hj, rfl⟩ := vp_in_of hi hn
  rw [nI_clamp (by omega)] at kk
  exact ok_iast j hd hG rfl hj hn kk
abbrev acName : MethodName := ⟨"java/lang/System", "arraycopy", "(Ljava/lang/Object;ILjava/lang/Object;II)V"⟩
theorem ok_copy {a0 a n0 n1 : Nat} {fn gn : Nat → Int32} (sp dp k : Nat) {isp idp ik : Int32} (hd : decode f.2.1 pc = .ok (.invokestatic idx, 3)) (w1 : Cond.methodLink f.1.cls idx acName ∈ lwg) (w2 : Cond.native acName ∈ lwg) (w3 : Cond.static acName ∈ lwg) (w4 : Cond.initialized "java/lang/System" ∈ lwg)
    (hG0 : G.1 a0 = some (.inl (Γ.2.2 1, n0, .inl fn))) (hG1 : G.1 a = some (.inl (Γ.2.2 1, n1, .inl gn))) (esp : isp = nI sp) (edp : idp = nI dp) (ek : ik = nI k) (h4 : sp + k ≤ n0) (h5 : dp + k ≤ n1) (hn0 : n0 < 2 ^ 31) (hn1 : n1 < 2 ^ 31) (h8 : stk8 st = true) (hdd : 1 ≤ d)
    (kk : Ok Γ f d b (pc + 3) L st (va_up G.1 a (some (.inl (Γ.2.2 1, n1, .inl (va_cpy fn gn sp dp k)))), G.2) Q) : Ok Γ f d b pc L (.int ik :: .int idp :: .ref a :: .int isp :: .ref a0 :: st) G Q := by
  intro p e s m args below meth c F H locs cells slots bb h1 h2 hH hS ls hls
  subst esp; subst edp; subst ek
  have hts := F.2.2.2.2.2.1
  have hK := F.2.2.2.2.2.2.2.2.1
  have hsp : (nI sp).toNatClampNeg = sp := nI_clamp (by omega)
  have hdp : (nI dp).toNatClampNeg = dp := nI_clamp (by omega)
  have hk : (nI k).toNatClampNeg = k := nI_clamp (by omega)
  have isp : (nI sp).toInt = (sp : Int) := nI_toInt (by omega)
  have idp : (nI dp).toInt = (dp : Int) := nI_toInt (by omega)
  have ik : (nI k).toInt = (k : Int) := nI_toInt (by omega)
  intro T hT X
  have hc0 : H[a0]? = some (vp_cell (Γ.2.2 1) (n0, .inl fn)) := (hH.2.2 a0 _ hG0).2
  have hc1 : H[a]? = some (vp_cell (Γ.2.2 1) (n1, .inl gn)) := (hH.2.2 a _ hG1).2
  obtain ⟨-, k0, hk0, cm0, hkk0⟩ := (hK.2 0 _ rfl).1 n0 (fun j => .int (fn j))
  obtain ⟨-, k1, hk1, cm1, hkk1⟩ := (hK.2 0 _ rfl).1 n1 (fun j => .int (gn j))
  have hw8 := stk8_ok (m := m) (pc := pc) (ls := ls) (stk := st) h8
  have hw8' : (st.map fun v => v.category).sum ≤ 8 := by omega
  obtain ⟨vm', X', step⟩ := X.arraycopy F.1 F.2.2.2.2.1 (hts _ w1) (hts _ w2) (hts _ w3) (hts _ w4) (src := a0) (dst := a) (cs := vp_cell (Γ.2.2 1) (n0, .inl fn)) (cd := vp_cell (Γ.2.2 1) (n1, .inl gn)) (srcPos := nI sp) (destPos := nI dp) (n := nI k) (by rw [hT]; exact hc0) (by rw [hT]; exact hc1)
    (fun _ h => by cases h) (fun _ h => by cases h) (fun h => by cases h) (fun h => by cases h) hk0 hk1 hkk0 hkk1 (by simp [refKind]) (nI_pos (by omega)) (nI_pos (by omega)) (nI_pos (by omega))
    (by rw [isp, ik]; show ¬ _ > ((arrV (Γ.2.2 1) n0 (fun j => .int (fn j))).slots.size : Int); rw [arrV_size]; omega)
    (by rw [idp, ik]; show ¬ _ > ((arrV (Γ.2.2 1) n1 (fun j => .int (gn j))).slots.size : Int); rw [arrV_size]; omega)
    (fun vm₁ _ i hi => by
      rw [hk] at hi
      rw [hsp]
      have e9 : (vp_cell (Γ.2.2 1) (n0, .inl fn)).slots.getD (sp + i) .null = .int (fn (sp + i)) := by
        show (arrV (Γ.2.2 1) n0 (fun j => .int (fn j))).slots.getD _ _ = _
        rw [Array.getD_eq_getD_getElem?, arrV_read _ _ (by omega)]
        rfl
      refine ⟨?_, ?_⟩
      · rw [e9]
        rfl
      · rw [e9]
        exact trivial)
    (g := F0 m pc ls (.int (nI k) :: .int (nI dp) :: .ref a :: .int (nI sp) :: .ref a0 :: st)) rfl (hls.1.trans F.2.2.2.1.symm) (rest := st) rfl (by rw [F.2.1]; exact hd) hdd (by
      have h9 : nativeFrameWords "java/lang/System" "arraycopy" 5 + 11 ≤ 90 := by decide +kernel
      show 2 * 0 + _ + _ ≤ 100 * d
      omega)
  have e1 : copied (vp_cell (Γ.2.2 1) (n0, .inl fn)) (vp_cell (Γ.2.2 1) (n1, .inl gn)) (nI sp) (nI dp) (nI k) = vp_cell (Γ.2.2 1) (n1, .inl (va_cpy fn gn (nI sp).toNatClampNeg (nI dp).toNatClampNeg (nI k).toNatClampNeg)) := va_copied (fun z => .int z) (Γ.2.2 1) (Γ.2.2 1) fn gn (by rw [hsp, hk]; exact h4)
  rw [hsp, hdp, hk] at e1
  rw [e1] at X' step
  have hl : a < H.size := (Array.getElem?_eq_some_iff.mp hc1).1
  have hheap : ((T.setVm vm').setCell a (vp_cell (Γ.2.2 1) (n1, .inl (va_cpy fn gn sp dp k)))).heap = H.setIfInBounds a (vp_cell (Γ.2.2 1) (n1, .inl (va_cpy fn gn sp dp k))) := by rw [← hT]; rfl
  have oq : ∀ q : Nat, q ≠ a → (H.setIfInBounds a (vp_cell (Γ.2.2 1) (n1, .inl (va_cpy fn gn sp dp k))))[q]? = H[q]? := fun q hq => by simp [Array.getElem?_setIfInBounds, Ne.symm hq]
  have hz : (H.setIfInBounds a (vp_cell (Γ.2.2 1) (n1, .inl (va_cpy fn gn sp dp k)))).size = H.size := by simp
  obtain ⟨t, a1, b1⟩ := kk p e s m args below meth c F _ _ cells slots bb h1 h2 (hp_put hH (hH.2.2 a _ hG1).1 hz oq (show (H.setIfInBounds a _)[a]? = some _ by simp [Array.getElem?_setIfInBounds, hl])) ⟨by rw [hz]; exact hS.1, fun q g1 g2 => by
      rw [oq q (fun e => g2 (by rw [e]; exact (hH.2.2 a _ hG1).1))]
      exact hS.2.1 q g1 g2, fun q hq => by
      rcases List.mem_append.mp hq with h | h
      · exact hS.2.2 q h
      · obtain ⟨z, -, hz⟩ := List.mem_map.mp h
        rw [← hz]
        exact (hH.2.2 a _ hG1).1⟩ ls hls _ hheap X'
  exact ⟨t, step t a1, b1⟩
end MoreRules2
