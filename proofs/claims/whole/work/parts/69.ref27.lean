theorem ok_aastS {Γ : Cx} {f : Md} {d b pc : Nat} {L : List (Option Value)} {st : List Value} {G : Wd} {Q : Option Value → Wd → Prop} {a n v : Nat} {fn : Nat → Option Nat} {x : Int32} (j : Nat) (hv : v < 7) (hd : decode f.2.1 pc = .ok (.aastore, 1)) (hG : G.1 a = some (.inl (Γ.2.2 4, n, .inr (.inr (.inr (.inr fn)))))) (hi : x = nI j) (hj : j < n) (hn : n < 2 ^ 31)
    (kk : Ok Γ f d b (pc + 1) L st (va_up G.1 a (some (.inl (Γ.2.2 4, n, .inr (.inr (.inr (.inr (va_up fn j (some (sK Γ v))))))))), G.2) Q) : Ok Γ f d b pc L (.ref (sK Γ v) :: .int x :: .ref a :: st) G Q := by
  intro p e s m args below meth c F H locs cells slots bb h1 h2 hH hS ls hls
  subst hi
  have hkn := F.2.2.2.2.2.2.2.2
  have hK := hkn.1
  obtain ⟨cellV, g1, g3, g4⟩ := vk_recv hkn.2.2.2.2.2.2.2.1 hv hS
  obtain ⟨kC, hkC, -⟩ := Vm.findClass_spec g4
  obtain ⟨kA, comp, k1, k2, k3, -⟩ := (hK.2 3 (Γ.2.2 4, .object "java/lang/String") rfl).2
  obtain ⟨kE, hkE, -⟩ := Vm.findClass_spec k3
  have hcomp : comp = cellV.cls := Option.some.inj (k3.symm.trans g4)
  subst hcomp
  have h0 : ¬ nI j < 0 := nI_pos (by omega)
  refine W.aast F.1 F.2.1 (hH.2.2 a _ hG).2 (fun q h => by cases h) (fun h => by cases h) k1 k2 rfl hkE ⟨h0, by show _ < (arrV _ _ _).slots.size; rw [arrV_size, nI_clamp (by omega)]; exact hj⟩ g1 (fun q h => by rw [h] at g3; cases g3) hkC (va_asg _ _) rfl rfl hd fun H1 e1 z oq => ?_
  rw [nI_clamp (by omega)] at e1 ⊢
  refine kk p e s m args below meth c F H1 _ cells slots bb h1 h2 (hp_put hH (hH.2.2 a _ hG).1 z oq ?_) (hS.put z oq (hH.2.2 a _ hG).1) ls hls
  show H1[a]? = some (vp_cell _ _)
  rw [e1]
  rw [vp_cell_q, vp_cell_q, arrV_store]
  congr 2
  funext q
  by_cases hq : q = j
  · subst hq
    simp [updV, va_up, va_rf]
  · simp [updV, va_up, hq]
/-! cells that are made one behind another -/
def Hv (m : Nat) (M0 M : Nat → Option va_E) (es : List va_E) : Prop := (∀ i e, es[i]? = some e → M (m + i) = some e) ∧ (∀ q, q < m → M q = M0 q) ∧ (∀ q, m + es.length ≤ q → M q = M0 q)
theorem Hv.push {m : Nat} {M0 M : Nat → Option va_E} {es : List va_E} (h : Hv m M0 M es) (e : va_E) : Hv m M0 (va_up M (m + es.length) (some e)) (es ++ [e]) := by
  refine ⟨fun i e' hi => ?_, fun q hq => ?_, fun q hq => ?_⟩
  · rcases Nat.lt_trichotomy i es.length with g | g | g
    · rw [List.getElem?_append_left g] at hi
      rw [up_ne (by omega)]
      exact h.1 i e' hi
    · subst g
      rw [List.getElem?_append_right (Nat.le_refl _), Nat.sub_self] at hi
      cases hi
      exact up_eq
    · rw [List.getElem?_append_right (by omega)] at hi
      obtain ⟨k, hk⟩ : ∃ k, i - es.length = k + 1 := ⟨i - es.length - 1, by omega⟩
      rw [hk] at hi
      simp at hi
  · rw [up_ne (by omega)]; exact h.2.1 q hq
  · rw [List.length_append] at hq
    have hq2 : m + es.length + 1 ≤ q := hq
    rw [up_ne (by omega)]; exact h.2.2 q (by omega)
theorem Hv.set {m : Nat} {M0 M : Nat → Option va_E} {es : List va_E} (h : Hv m M0 M es) (j : Nat) (e : va_E) (hj : j < es.length) : Hv m M0 (va_up M (m + j) (some e)) (es.set j e) := by
  refine ⟨fun i e' hi => ?_, fun q hq => ?_, fun q hq => ?_⟩
  · by_cases g : i = j
    · subst g
      rw [List.getElem?_set_self hj] at hi
      cases hi
      exact up_eq
    · rw [List.getElem?_set_ne (Ne.symm g)] at hi
      rw [up_ne (by omega)]
      exact h.1 i e' hi
  · rw [up_ne (by omega)]; exact h.2.1 q hq
  · rw [List.length_set] at hq
    rw [up_ne (by omega)]; exact h.2.2 q hq
section HvRules
variable {Γ : Cx} {f : Md} {d b pc idx m sz : Nat} {L : List (Option Value)} {st : List Value} {M0 M : Nat → Option va_E} {es : List va_E} {Q : Option Value → Wd → Prop}
theorem hv_newa {x : Int32} (N : Nat) (es' : List va_E) (hd : decode f.2.1 pc = .ok (.newarray .int, 2)) (hi : x = nI N) (hN : N ≤ 400) (hz : sz = m + es.length) (he : es ++ [.inl (Γ.2.2 1, N, .inl (fun _ => 0))] = es') (h : Hv m M0 M es) (k : ∀ M', Hv m M0 M' es' → Ok Γ f d b (pc + 2) L (.ref sz :: st) (M', sz + 1) Q) : Ok Γ f d (b + 1) pc L (.int x :: st) (M, sz) Q := by
  subst hz
  exact ok_newa N hd tw_137 hi hN (k _ (he ▸ h.push _))
theorem hv_anew {x : Int32} {C : String} {t : Nat} {cA : ClassId} (N : Nat) (es' : List va_E) (hd : decode f.2.1 pc = .ok (.anewarray idx, 3)) (hw : Cond.classLink f.1.cls idx C ∈ lwg) (hC : C = "KitePost$Kite" ∨ C = "KitePost$Sheet" ∨ C = "java/lang/String") (ht : (tysOf Γ)[t]? = some (cA, .object C)) (hi : x = nI N) (hN : N ≤ 400) (hz : sz = m + es.length) (he : es ++ [.inl (cA, N, .inr (.inr (.inr (.inr (fun _ => none)))))] = es') (h : Hv m M0 M es) (k : ∀ M', Hv m M0 M' es' → Ok Γ f d b (pc + 3) L (.ref sz :: st) (M', sz + 1) Q) : Ok Γ f d (b + 1) pc L (.int x :: st) (M, sz) Q := by
  subst hz
  exact ok_anew N hd hw hC ht hi hN (k _ (he ▸ h.push _))
theorem hv_new {cidx : Nat} {fs : List Value} (es' : List va_E) (hd : decode f.2.1 pc = .ok (.new idx, 3)) (hl : NLink f.1.cls idx cidx fs) (hz : sz = m + es.length) (he : es ++ [.inr (cidx, fs)] = es') (h : Hv m M0 M es) (k : ∀ M', Hv m M0 M' es' → Ok Γ f d b (pc + 3) L (.ref sz :: st) (M', sz + 1) Q) : Ok Γ f d (b + 1) pc L st (M, sz) Q := by
  subst hz
  exact ok_new hd hl (k _ (he ▸ h.push _))
theorem hv_putF {a j cidx kf : Nat} {fs : List Value} {v : Value} {ty : FieldType} (es' : List va_E) (hd : decode f.2.1 pc = .ok (.putfield idx, 3)) (hl : PLinkF f.1.cls idx cidx kf ty) (hm : f.1.name = "<init>") (h : Hv m M0 M es) (hz : a = m + j) (hg : es[j]? = some (.inr (cidx, fs))) (hn : narrow ty v = v) (hfit : fits ty v = true) (hk9 : kf < fs.length) (he : es.set j (.inr (cidx, fs.set kf v)) = es') (k : ∀ M', Hv m M0 M' es' → Ok Γ f d b (pc + 3) L st (M', sz) Q) : Ok Γ f d b pc L (v :: .ref a :: st) (M, sz) Q := by
  subst hz
  have hj : j < es.length := (List.getElem?_eq_some_iff.mp hg).1
  exact ok_putfF hd hl hm (h.1 j _ hg) hn hfit hk9 (k _ (he ▸ h.set j _ hj))
theorem hv_put {a j cidx kf : Nat} {fs : List Value} {v : Value} {ty : FieldType} (es' : List va_E) (hd : decode f.2.1 pc = .ok (.putfield idx, 3)) (hl : PLink f.1.cls idx cidx kf ty) (h : Hv m M0 M es) (hz : a = m + j) (hg : es[j]? = some (.inr (cidx, fs))) (hn : narrow ty v = v) (hfit : fits ty v = true) (hk9 : kf < fs.length) (he : es.set j (.inr (cidx, fs.set kf v)) = es') (k : ∀ M', Hv m M0 M' es' → Ok Γ f d b (pc + 3) L st (M', sz) Q) : Ok Γ f d b pc L (v :: .ref a :: st) (M, sz) Q := by
  subst hz
  have hj : j < es.length := (List.getElem?_eq_some_iff.mp hg).1
  exact ok_putf hd hl (h.1 j _ hg) hn hfit hk9 (k _ (he ▸ h.set j _ hj))
theorem hv_iast {a j n : Nat} {fn : Rw} {x v : Int32} (q : Nat) (es' : List va_E) (hd : decode f.2.1 pc = .ok (.iastore, 1)) (h : Hv m M0 M es) (hz : a = m + j) (hg : es[j]? = some (.inl (Γ.2.2 1, n, .inl fn))) (hi : x = nI q) (hq : q < n) (hn : n < 2 ^ 31) (he : es.set j (.inl (Γ.2.2 1, n, .inl (upd fn q v))) = es') (k : ∀ M', Hv m M0 M' es' → Ok Γ f d b (pc + 1) L st (M', sz) Q) : Ok Γ f d b pc L (.int v :: .int x :: .ref a :: st) (M, sz) Q := by
  subst hz
  have hj : j < es.length := (List.getElem?_eq_some_iff.mp hg).1
  exact ok_iast q hd (h.1 j _ hg) hi hq hn (k _ (he ▸ h.set j _ hj))
end HvRules

/-! a text becomes that of a use -/
def txS (σ : Rw) (u : Nat) : Ps := lvG σ (ptF σ u 5) 5 (0, false, 0, fun _ => 0)
def txU (σ : Rw) (u n : Nat) (f : Rw) (q : Nat) : Rw := fun j => if j = 265 + 52 * u then nI n else if 265 + 52 * u + 1 ≤ j ∧ j < 265 + 52 * u + 1 + q then f (j - (265 + 52 * u + 1)) else σ j
theorem txU_0 (σ : Rw) (u n : Nat) (f : Rw) : upd σ (265 + 52 * u) (nI n) = txU σ u n f 0 := by
  funext j
  unfold upd txU
  by_cases h : j = 265 + 52 * u
  · rw [if_pos h, if_pos h]
  · rw [if_neg h, if_neg h, if_neg (by omega)]
theorem txU_s (σ : Rw) (u n : Nat) (f : Rw) (q : Nat) : upd (txU σ u n f q) (265 + 52 * u + 1 + q) (f q) = txU σ u n f (q + 1) := by
  funext j
  unfold upd txU
  by_cases h : j = 265 + 52 * u + 1 + q
  · rw [if_pos h, if_neg (by omega), if_pos (by omega), show j - (265 + 52 * u + 1) = q by omega]
  · rw [if_neg h]
    by_cases h2 : j = 265 + 52 * u
    · rw [if_pos h2, if_pos h2]
    · rw [if_neg h2, if_neg h2]
      by_cases h3 : 265 + 52 * u + 1 ≤ j ∧ j < 265 + 52 * u + 1 + q
      · rw [if_pos h3, if_pos (by omega)]
      · rw [if_neg h3, if_neg (by omega)]
def txR (σ : Rw) (u : Nat) (s : Ps) : Op3 := if s.2.1 || decide (nI s.1 < σ 6) then (0, -10 - nI s.1, upd σ 6 0) else (0, 1, txU (upd σ 6 0) u s.2.2.1 s.2.2.2 s.2.2.1)
def op_text (σ : Rw) (x : Int32) : Op3 := if wi x 0 1 then txR σ (iN x) (txS σ (iN x)) else e3 1 σ
theorem Mn.fin {tn : Nat} {f : Rw} {t : Ps} (h : Mn tn (0, false, 0, f) t) : t.2.2.1 ≤ t.1 ∧ t.1 ≤ tn := ⟨h.cd (Nat.le_refl 0), h.2.2⟩
theorem txS_ok {σ : Rw} {u tn : Nat} (e6 : σ 6 = nI tn) (ht : tn ≤ 50) : (txS σ u).2.2.1 ≤ (txS σ u).1 ∧ (txS σ u).1 ≤ tn :=
  Mn.fin (Mn.lv e6 ht (Mn.ptF (u := u) e6 ht 5) 5 (0, false, 0, fun _ => 0) (Nat.zero_le _))
theorem prI_0 {ri : Rw} {u : Nat} {f : Rw} : upd (upd (upd (upd (upd ri 10 (nI u)) 8 0) 9 0) 11 0) 13 0 = prI ri u 0 (0, false, 0, f) := by
  funext j
  unfold prI upd
  by_cases h8 : j = 8
  · subst h8; rfl
  by_cases h9 : j = 9
  · subst h9; rfl
  by_cases h10 : j = 10
  · subst h10; rfl
  by_cases h11 : j = 11
  · subst h11; rfl
  by_cases h13 : j = 13
  · subst h13; rfl
  simp [h8, h9, h10, h11, h13]

set_option maxHeartbeats 1000000 in
theorem l_text {Γ : Cx} {m sz : Nat} {M0 : Nat → Option va_E} {τ κ : Rw} {K : Int32 → Wd → Prop} {ri : Rw} {ra : Nat → Rw} {x : Int32} (u n0 op : Nat) (s9 : Ps) (en : s9.2.2.1 = n0) (hu : u < 2) (hn : n0 ≤ 50) (g0 fc : Rw) (hg : ∀ j, j < n0 → fc j = g0 j) (k : ∀ M', RefX Γ m M0 (txU τ u n0 g0 n0) κ (prI ri u op s9) (va_up ra 12 fc) M' → K 1 (M', sz)) : ∀ (n : Nat) (i : Nat) (xi : Int32) (M : Nat → Option va_E), i + n = n0 → xi = nI i → RefX Γ m M0 (txU τ u n0 g0 i) κ (prI ri u op s9) (va_up ra 12 fc) M → Ok Γ mX12_text 76 0 120 [some (.ref m), some (.int x), some (.int xi)] [] (M, sz) (ci K) := by
  intro n
  induction n with
  | zero =>
    intro i xi M h1 ei hR
    refine ok_iload_n (pc := 120) dX12_text_120 rfl ?_
    refine ok_aload_n (pc := 121) dX12_text_121 rfl ?_
    refine ok_getf (pc := 122) dX12_text_122 fl_X12_176 hR.o rfl ?_
    rw [pr_13, en]
    refine ok_icmp_ge (pc := 125) 160 dX12_text_125 (by decide) (fun cc_125 => ?_) (fun cc_125 => ?_)
    · have ce_125 := Int32.not_lt.mpr cc_125
      have e9 : i = n0 := by omega
      subst e9
      refine ok_iconst (pc := 160) (v := 1) dX12_text_160 (by decide) ?_
      refine ok_iret (pc := 161) dX12_text_161 rfl ?_
      exact k _ hR
    · exact absurd (by rw [ei]; exact nI_le (by omega) (by omega)) cc_125
  | succ n ih =>
    intro i xi M h1 ei hR
    refine ok_iload_n (pc := 120) dX12_text_120 rfl ?_
    refine ok_aload_n (pc := 121) dX12_text_121 rfl ?_
    refine ok_getf (pc := 122) dX12_text_122 fl_X12_176 hR.o rfl ?_
    rw [pr_13, en]
    refine ok_icmp_ge (pc := 125) 160 dX12_text_125 (by decide) (fun cc_125 => ?_) (fun cc_125 => ?_)
    · rw [ei] at cc_125
      exact absurd cc_125 (nI_ge (by omega) (by omega))
    · have ce_125 := Int32.not_le.mp cc_125
      refine ok_aload_n (pc := 128) dX12_text_128 rfl ?_
      refine ok_getf (pc := 129) dX12_text_129 fl_X12_9 hR.o rfl ?_
      refine ok_sipush (pc := 132) (v := 265) dX12_text_132 (by decide) ?_
      refine ok_bipush (pc := 135) (v := 52) dX12_text_135 (by decide) ?_
      refine ok_aload_n (pc := 137) dX12_text_137 rfl ?_
      refine ok_getf (pc := 138) dX12_text_138 fl_X12_201 hR.o rfl ?_
      rw [pr_10]
      refine ok_imul (pc := 141) dX12_text_141 ?_
      refine ok_iadd (pc := 142) dX12_text_142 ?_
      refine ok_iconst (pc := 143) (v := 1) dX12_text_143 (by decide) ?_
      refine ok_iadd (pc := 144) dX12_text_144 ?_
      refine ok_iload_n (pc := 145) dX12_text_145 rfl ?_
      refine ok_iadd (pc := 146) dX12_text_146 ?_
      refine ok_aload_n (pc := 147) dX12_text_147 rfl ?_
      refine ok_getf (pc := 148) dX12_text_148 fl_X12_38 hR.o rfl ?_
      refine ok_iload_n (pc := 151) dX12_text_151 rfl ?_
      refine ok_iald (pc := 152) (i) dX12_text_152 hR.a12 ei (by omega) (by decide) ?_
      rw [vup_eq, hg i (by omega)]
      refine ok_rst0 (pc := 153) (265 + 52 * u + 1 + i) dX12_text_153 hR (by simp only [ei, fa_lit, pk_mul, nI_add]) (by omega) (fun M hR => ?_)
      rw [txU_s] at hR
      refine ok_iinc2 (pc := 154) (v := 1) dX12_text_154 (by decide) (by decide) rfl ?_
      refine ok_goto (pc := 157) 120 dX12_text_157 (by decide) ?_
      exact ih (i + 1) _ _ (by omega) (by rw [ei, nI_1]) hR

set_option maxHeartbeats 1000000 in
theorem r_text {Γ : Cx} {m sz : Nat} {M0 M : Nat → Option va_E} {σ κ vi : Rw} {va : Nat → Rw} {K : Int32 → Wd → Prop} (hW : RefW Γ m M0 σ κ vi va M) (hI : Inv σ) {x : Int32} (k : ∀ M', RefW Γ m M0 (op_text σ x).2.2 κ vi (eU va (op_text σ x).1) M' → K (op_text σ x).2.1 (M', sz)) : Spec Γ mX12_text 76 0 [.ref m, .int x] (M, sz) (ci K) := by
  obtain ⟨ri, ra, hR, hv, hw⟩ := hW
  obtain ⟨⟨⟨eH, lH⟩, ⟨eK, lK⟩, ⟨eL, lL⟩, ⟨eA, lA⟩, ⟨eT, lT⟩⟩, iK, iH, iW, iL, iO, iB, hT⟩ := id hI
  
  refine spec_in [some (.ref m), some (.int x), none] 1 (by decide) rfl rfl ?_
  refine ok_iload_n (pc := 0) dX12_text_0 rfl ?_
  refine ok_iconst (pc := 1) (v := 0) dX12_text_1 (by decide) ?_
  refine ok_iconst (pc := 2) (v := 1) dX12_text_2 (by decide) ?_
  refine ok_callSi3 (pc := 3) (d' := 0) dX12_text_3 sl_X12_75 rfl (by decide) ?_
  refine r_within ?_
  refine ok_if_ne (pc := 6) 16 dX12_text_6 (by decide) (fun cc_6 => ?_) (fun cc_6 => ?_)
  · have cq_6 := bI_n0.mp cc_6
    refine ok_aload_n (pc := 16) dX12_text_16 rfl ?_
    refine ok_iload_n (pc := 17) dX12_text_17 rfl ?_
    refine ok_rpt10 (pc := 18) dX12_text_18 pl_X12_201 hR (fun M hR => ?_)
    refine ok_aload_n (pc := 21) dX12_text_21 rfl ?_
    refine ok_iconst (pc := 22) (v := 0) dX12_text_22 (by decide) ?_
    refine ok_rpt8 (pc := 23) dX12_text_23 pl_X12_168 hR (fun M hR => ?_)
    refine ok_aload_n (pc := 26) dX12_text_26 rfl ?_
    refine ok_iconst (pc := 27) (v := 0) dX12_text_27 (by decide) ?_
    refine ok_rpt9 (pc := 28) dX12_text_28 pl_X12_211 hR (fun M hR => ?_)
    refine ok_aload_n (pc := 31) dX12_text_31 rfl ?_
    refine ok_iconst (pc := 32) (v := 0) dX12_text_32 (by decide) ?_
    refine ok_rpt11 (pc := 33) dX12_text_33 pl_X12_164 hR (Or.inl rfl) (fun M hR => ?_)
    refine ok_aload_n (pc := 36) dX12_text_36 rfl ?_
    refine ok_iconst (pc := 37) (v := 0) dX12_text_37 (by decide) ?_
    refine ok_rpt13 (pc := 38) dX12_text_38 pl_X12_176 hR (fun M hR => ?_)
    refine ok_aload_n (pc := 41) dX12_text_41 rfl ?_
    refine ok_callVv0 (pc := 42) (d' := 75) dX12_text_42 vl_X12_214 hR.o rfl rfl rfl (by decide) ?_
    obtain ⟨ex, -, lx⟩ := wi_lit (a := 0) (c := 1) rfl rfl (by decide) (by decide) cq_6
    obtain ⟨tn, e6, ht⟩ := iB.1
    obtain ⟨g1, g2⟩ := txS_ok (u := iN x) e6 ht
    have eo : op_text σ x = txR σ (iN x) (txS σ (iN x)) := if_pos cq_6
    rw [eo] at k
    have hP : RefP Γ m M0 σ κ ri ra (iN x) 0 (0, false, 0, fun _ => 0) M := by
      refine ⟨ra 12, fun j hj => absurd hj (Nat.not_lt_zero _), ?_⟩
      rw [vup_same rfl, ← prI_0, ← ex]
      exact hR
    have hE := r_levels (sz := sz) (M0 := M0) (κ := κ) (ri := ri) (ra := ra) (m := m) (Γ := Γ) e6 ht (r_one (sz := sz) (M0 := M0) (κ := κ) (ri := ri) (ra := ra) (m := m) (Γ := Γ) (u := iN x) (by omega) e6 ht 5 0 rfl) (Mn.ptF e6 ht 5)
    obtain ⟨S9, hS9⟩ : ∃ S9, S9 = txS σ (iN x) := ⟨_, rfl⟩
    rw [← hS9] at g1 g2 k
    refine hE (0, false, 0, fun _ => 0) M _ (Nat.zero_le _) (Nat.le_refl _) hP (fun M hP => ?_)
    have hP2 : RefP Γ m M0 σ κ ri ra (iN x) 0 S9 M := by rw [hS9]; exact hP
    obtain ⟨fc, hfc, hR⟩ := hP2
    refine ok_aload_n (pc := 45) dX12_text_45 rfl ?_
    refine ok_aload_n (pc := 46) dX12_text_46 rfl ?_
    refine ok_getf (pc := 47) dX12_text_47 fl_X12_164 hR.o rfl ?_
    rw [pr_11]
    refine ok_if_ne (pc := 50) 67 dX12_text_50 (by decide) (fun cc_50 => ?_) (fun cc_50 => ?_)
    · have hw9 : S9.2.1 = true := bI_n0.mp cc_50
      refine ok_iconst (pc := 67) (v := 1) dX12_text_67 (by decide) ?_
      refine ok_goto (pc := 68) 72 dX12_text_68 (by decide) ?_
      refine ok_rpt11 (pc := 72) dX12_text_72 pl_X12_164 hR (by first | exact Or.inl rfl | exact Or.inr rfl) (fun M hR => ?_)
      first
        | rw [show (0 : Int32) = bI false from rfl, pw_11] at hR
        | rw [show (1 : Int32) = bI true from rfl, pw_11] at hR
      refine ok_aload_n (pc := 75) dX12_text_75 rfl ?_
      refine ok_getf (pc := 76) dX12_text_76 fl_X12_9 hR.o rfl ?_
      refine ok_bipush (pc := 79) (v := 6) dX12_text_79 (by decide) ?_
      refine ok_iconst (pc := 81) (v := 0) dX12_text_81 (by decide) ?_
      refine ok_rst0 (pc := 82) (6) dX12_text_82 hR rfl (by decide) (fun M hR => ?_)
      refine ok_aload_n (pc := 83) dX12_text_83 rfl ?_
      refine ok_getf (pc := 84) dX12_text_84 fl_X12_164 hR.o rfl ?_
      rw [pr_11]
      refine ok_if_eq (pc := 87) 98 dX12_text_87 (by decide) (fun cc_87 => ?_) (fun cc_87 => ?_)
      · refine ok_aload_n (pc := 98) dX12_text_98 rfl ?_
        refine ok_getf (pc := 99) dX12_text_99 fl_X12_9 hR.o rfl ?_
        refine ok_sipush (pc := 102) (v := 265) dX12_text_102 (by decide) ?_
        refine ok_bipush (pc := 105) (v := 52) dX12_text_105 (by decide) ?_
        refine ok_aload_n (pc := 107) dX12_text_107 rfl ?_
        refine ok_getf (pc := 108) dX12_text_108 fl_X12_201 hR.o rfl ?_
        rw [pr_10]
        refine ok_imul (pc := 111) dX12_text_111 ?_
        refine ok_iadd (pc := 112) dX12_text_112 ?_
        refine ok_aload_n (pc := 113) dX12_text_113 rfl ?_
        refine ok_getf (pc := 114) dX12_text_114 fl_X12_176 hR.o rfl ?_
        rw [pr_13]
        refine ok_rst0 (pc := 117) (265 + 52 * iN x) dX12_text_117 hR (by simp only [fa_lit, pk_mul, nI_add]) (by omega) (fun M hR => ?_)
        first
          | exact absurd cc_87 (show ¬ bI true = 0 by decide)
          | (have hno : ¬ ((S9.2.1 || decide (nI S9.1 < σ 6)) = true) := by rw [hw9, decide_eq_false ce_64]; decide
             have er : txR σ (iN x) S9 = ((0, 1, txU (upd σ 6 0) (iN x) S9.2.2.1 S9.2.2.2 S9.2.2.1) : Op3) := if_neg hno
             rw [er] at k
             rw [txU_0 (f := S9.2.2.2)] at hR
             refine ok_iconst (pc := 118) (v := 0) dX12_text_118 (by decide) ?_
             refine ok_istore_n2 (pc := 119) dX12_text_119 (by decide) rfl ?_
             exact l_text (iN x) S9.2.2.1 0 (S9.1, false, S9.2.2) rfl (by omega) (by omega) S9.2.2.2 fc hfc (fun M hR => k _ (RefW.ok hR hv ⟨by rw [vup_ne (by decide)]; exact hw.1, by rw [vup_ne (by decide)]; exact hw.2.1, by rw [vup_ne (by decide)]; exact hw.2.2.1, by rw [vup_ne (by decide)]; exact hw.2.2.2.1, by rw [vup_ne (by decide)]; exact hw.2.2.2.2⟩)) S9.2.2.1 0 _ _ (by omega) rfl hR)
      · refine ok_bipush (pc := 90) (v := -10) dX12_text_90 (by decide) ?_
        refine ok_aload_n (pc := 92) dX12_text_92 rfl ?_
        refine ok_getf (pc := 93) dX12_text_93 fl_X12_168 hR.o rfl ?_
        rw [pr_8]
        refine ok_isub (pc := 96) dX12_text_96 ?_
        refine ok_iret (pc := 97) dX12_text_97 rfl ?_
        first
          | exact absurd rfl cc_87
          | (have hno : (S9.2.1 || decide (nI S9.1 < σ 6)) = true := by first | (rw [hw9]; rfl) | (rw [decide_eq_true ce_64]; exact Bool.or_true _)
             have er : txR σ (iN x) S9 = ((0, -10 - nI S9.1, upd σ 6 0) : Op3) := if_pos hno
             rw [er] at k
             exact k _ (RefW.ok hR hv ⟨by rw [vup_ne (by decide)]; exact hw.1, by rw [vup_ne (by decide)]; exact hw.2.1, by rw [vup_ne (by decide)]; exact hw.2.2.1, by rw [vup_ne (by decide)]; exact hw.2.2.2.1, by rw [vup_ne (by decide)]; exact hw.2.2.2.2⟩))
    · have hw9 : S9.2.1 = false := bI_0.mp cc_50
      refine ok_aload_n (pc := 53) dX12_text_53 rfl ?_
      refine ok_getf (pc := 54) dX12_text_54 fl_X12_168 hR.o rfl ?_
      rw [pr_8]
      refine ok_aload_n (pc := 57) dX12_text_57 rfl ?_
      refine ok_getf (pc := 58) dX12_text_58 fl_X12_9 hR.o rfl ?_
      refine ok_bipush (pc := 61) (v := 6) dX12_text_61 (by decide) ?_
      refine ok_iald (pc := 63) (6) dX12_text_63 hR.a0 rfl (by decide) (by decide) ?_
      refine ok_icmp_ge (pc := 64) 71 dX12_text_64 (by decide) (fun cc_64 => ?_) (fun cc_64 => ?_)
      · have ce_64 := Int32.not_lt.mpr cc_64
        refine ok_iconst (pc := 71) (v := 0) dX12_text_71 (by decide) ?_
        refine ok_rpt11 (pc := 72) dX12_text_72 pl_X12_164 hR (by first | exact Or.inl rfl | exact Or.inr rfl) (fun M hR => ?_)
        first
          | rw [show (0 : Int32) = bI false from rfl, pw_11] at hR
          | rw [show (1 : Int32) = bI true from rfl, pw_11] at hR
        refine ok_aload_n (pc := 75) dX12_text_75 rfl ?_
        refine ok_getf (pc := 76) dX12_text_76 fl_X12_9 hR.o rfl ?_
        refine ok_bipush (pc := 79) (v := 6) dX12_text_79 (by decide) ?_
        refine ok_iconst (pc := 81) (v := 0) dX12_text_81 (by decide) ?_
        refine ok_rst0 (pc := 82) (6) dX12_text_82 hR rfl (by decide) (fun M hR => ?_)
        refine ok_aload_n (pc := 83) dX12_text_83 rfl ?_
        refine ok_getf (pc := 84) dX12_text_84 fl_X12_164 hR.o rfl ?_
        rw [pr_11]
        refine ok_if_eq (pc := 87) 98 dX12_text_87 (by decide) (fun cc_87 => ?_) (fun cc_87 => ?_)
        · refine ok_aload_n (pc := 98) dX12_text_98 rfl ?_
          refine ok_getf (pc := 99) dX12_text_99 fl_X12_9 hR.o rfl ?_
          refine ok_sipush (pc := 102) (v := 265) dX12_text_102 (by decide) ?_
          refine ok_bipush (pc := 105) (v := 52) dX12_text_105 (by decide) ?_
          refine ok_aload_n (pc := 107) dX12_text_107 rfl ?_
          refine ok_getf (pc := 108) dX12_text_108 fl_X12_201 hR.o rfl ?_
          rw [pr_10]
          refine ok_imul (pc := 111) dX12_text_111 ?_
          refine ok_iadd (pc := 112) dX12_text_112 ?_
          refine ok_aload_n (pc := 113) dX12_text_113 rfl ?_
          refine ok_getf (pc := 114) dX12_text_114 fl_X12_176 hR.o rfl ?_
          rw [pr_13]
          refine ok_rst0 (pc := 117) (265 + 52 * iN x) dX12_text_117 hR (by simp only [fa_lit, pk_mul, nI_add]) (by omega) (fun M hR => ?_)
          first
            | exact absurd cc_87 (show ¬ bI true = 0 by decide)
            | (have hno : ¬ ((S9.2.1 || decide (nI S9.1 < σ 6)) = true) := by rw [hw9, decide_eq_false ce_64]; decide
               have er : txR σ (iN x) S9 = ((0, 1, txU (upd σ 6 0) (iN x) S9.2.2.1 S9.2.2.2 S9.2.2.1) : Op3) := if_neg hno
               rw [er] at k
               rw [txU_0 (f := S9.2.2.2)] at hR
               refine ok_iconst (pc := 118) (v := 0) dX12_text_118 (by decide) ?_
               refine ok_istore_n2 (pc := 119) dX12_text_119 (by decide) rfl ?_
               exact l_text (iN x) S9.2.2.1 0 (S9.1, false, S9.2.2) rfl (by omega) (by omega) S9.2.2.2 fc hfc (fun M hR => k _ (RefW.ok hR hv ⟨by rw [vup_ne (by decide)]; exact hw.1, by rw [vup_ne (by decide)]; exact hw.2.1, by rw [vup_ne (by decide)]; exact hw.2.2.1, by rw [vup_ne (by decide)]; exact hw.2.2.2.1, by rw [vup_ne (by decide)]; exact hw.2.2.2.2⟩)) S9.2.2.1 0 _ _ (by omega) rfl hR)
        · refine ok_bipush (pc := 90) (v := -10) dX12_text_90 (by decide) ?_
          refine ok_aload_n (pc := 92) dX12_text_92 rfl ?_
          refine ok_getf (pc := 93) dX12_text_93 fl_X12_168 hR.o rfl ?_
          rw [pr_8]
          refine ok_isub (pc := 96) dX12_text_96 ?_
          refine ok_iret (pc := 97) dX12_text_97 rfl ?_
          first
            | exact absurd rfl cc_87
            | (have hno : (S9.2.1 || decide (nI S9.1 < σ 6)) = true := by first | (rw [hw9]; rfl) | (rw [decide_eq_true ce_64]; exact Bool.or_true _)
               have er : txR σ (iN x) S9 = ((0, -10 - nI S9.1, upd σ 6 0) : Op3) := if_pos hno
               rw [er] at k
               exact k _ (RefW.ok hR hv ⟨by rw [vup_ne (by decide)]; exact hw.1, by rw [vup_ne (by decide)]; exact hw.2.1, by rw [vup_ne (by decide)]; exact hw.2.2.1, by rw [vup_ne (by decide)]; exact hw.2.2.2.1, by rw [vup_ne (by decide)]; exact hw.2.2.2.2⟩))
      · have ce_64 := Int32.not_le.mp cc_64
        refine ok_iconst (pc := 67) (v := 1) dX12_text_67 (by decide) ?_
        refine ok_goto (pc := 68) 72 dX12_text_68 (by decide) ?_
        refine ok_rpt11 (pc := 72) dX12_text_72 pl_X12_164 hR (by first | exact Or.inl rfl | exact Or.inr rfl) (fun M hR => ?_)
        first
          | rw [show (0 : Int32) = bI false from rfl, pw_11] at hR
          | rw [show (1 : Int32) = bI true from rfl, pw_11] at hR
        refine ok_aload_n (pc := 75) dX12_text_75 rfl ?_
        refine ok_getf (pc := 76) dX12_text_76 fl_X12_9 hR.o rfl ?_
        refine ok_bipush (pc := 79) (v := 6) dX12_text_79 (by decide) ?_
        refine ok_iconst (pc := 81) (v := 0) dX12_text_81 (by decide) ?_
        refine ok_rst0 (pc := 82) (6) dX12_text_82 hR rfl (by decide) (fun M hR => ?_)
        refine ok_aload_n (pc := 83) dX12_text_83 rfl ?_
        refine ok_getf (pc := 84) dX12_text_84 fl_X12_164 hR.o rfl ?_
        rw [pr_11]
        refine ok_if_eq (pc := 87) 98 dX12_text_87 (by decide) (fun cc_87 => ?_) (fun cc_87 => ?_)
        · refine ok_aload_n (pc := 98) dX12_text_98 rfl ?_
          refine ok_getf (pc := 99) dX12_text_99 fl_X12_9 hR.o rfl ?_
          refine ok_sipush (pc := 102) (v := 265) dX12_text_102 (by decide) ?_
          refine ok_bipush (pc := 105) (v := 52) dX12_text_105 (by decide) ?_
          refine ok_aload_n (pc := 107) dX12_text_107 rfl ?_
          refine ok_getf (pc := 108) dX12_text_108 fl_X12_201 hR.o rfl ?_
          rw [pr_10]
          refine ok_imul (pc := 111) dX12_text_111 ?_
          refine ok_iadd (pc := 112) dX12_text_112 ?_
          refine ok_aload_n (pc := 113) dX12_text_113 rfl ?_
          refine ok_getf (pc := 114) dX12_text_114 fl_X12_176 hR.o rfl ?_
          rw [pr_13]
          refine ok_rst0 (pc := 117) (265 + 52 * iN x) dX12_text_117 hR (by simp only [fa_lit, pk_mul, nI_add]) (by omega) (fun M hR => ?_)
          first
            | exact absurd cc_87 (show ¬ bI true = 0 by decide)
            | (have hno : ¬ ((S9.2.1 || decide (nI S9.1 < σ 6)) = true) := by rw [hw9, decide_eq_false ce_64]; decide
               have er : txR σ (iN x) S9 = ((0, 1, txU (upd σ 6 0) (iN x) S9.2.2.1 S9.2.2.2 S9.2.2.1) : Op3) := if_neg hno
               rw [er] at k
               rw [txU_0 (f := S9.2.2.2)] at hR
               refine ok_iconst (pc := 118) (v := 0) dX12_text_118 (by decide) ?_
               refine ok_istore_n2 (pc := 119) dX12_text_119 (by decide) rfl ?_
               exact l_text (iN x) S9.2.2.1 0 (S9.1, false, S9.2.2) rfl (by omega) (by omega) S9.2.2.2 fc hfc (fun M hR => k _ (RefW.ok hR hv ⟨by rw [vup_ne (by decide)]; exact hw.1, by rw [vup_ne (by decide)]; exact hw.2.1, by rw [vup_ne (by decide)]; exact hw.2.2.1, by rw [vup_ne (by decide)]; exact hw.2.2.2.1, by rw [vup_ne (by decide)]; exact hw.2.2.2.2⟩)) S9.2.2.1 0 _ _ (by omega) rfl hR)
        · refine ok_bipush (pc := 90) (v := -10) dX12_text_90 (by decide) ?_
          refine ok_aload_n (pc := 92) dX12_text_92 rfl ?_
          refine ok_getf (pc := 93) dX12_text_93 fl_X12_168 hR.o rfl ?_
          rw [pr_8]
          refine ok_isub (pc := 96) dX12_text_96 ?_
          refine ok_iret (pc := 97) dX12_text_97 rfl ?_
          first
            | exact absurd rfl cc_87
            | (have hno : (S9.2.1 || decide (nI S9.1 < σ 6)) = true := by first | (rw [hw9]; rfl) | (rw [decide_eq_true ce_64]; exact Bool.or_true _)
               have er : txR σ (iN x) S9 = ((0, -10 - nI S9.1, upd σ 6 0) : Op3) := if_pos hno
               rw [er] at k
               exact k _ (RefW.ok hR hv ⟨by rw [vup_ne (by decide)]; exact hw.1, by rw [vup_ne (by decide)]; exact hw.2.1, by rw [vup_ne (by decide)]; exact hw.2.2.1, by rw [vup_ne (by decide)]; exact hw.2.2.2.1, by rw [vup_ne (by decide)]; exact hw.2.2.2.2⟩))
  · have cq_6 := bI_0.mp cc_6
    refine ok_aload_n (pc := 9) dX12_text_9 rfl ?_
    refine ok_ldc (pc := 10) (v := -1000000001) dX12_text_10 tw_1205 ?_
    refine ok_callVi1 (pc := 12) (d' := 0) dX12_text_12 vl_X12_84 hR.o rfl rfl rfl (by decide) ?_
    refine r_finding hR 1 (by decide) (by decide) (fun M hR => ?_)
    refine ok_iret (pc := 15) dX12_text_15 rfl ?_
    have eo : op_text σ x = ((1, -1000000001, σ) : Op3) := by simp [op_text, e3, cq_6]; try decide
    rw [eo] at k
    exact k _ (RefW.err 1 (by decide) hR hv hw)
