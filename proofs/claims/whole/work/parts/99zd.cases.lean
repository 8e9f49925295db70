/-! the two objects side by side -/
theorem ClsR.off {Γ : Cx} {a e z n : Nat} {σ κ vi : Rw} {va : Nat → Rw} {M M' : Nat → Option va_E} (hC : ClsR Γ a e z σ κ vi va M) (hI : Inv σ) (hae : a + 92 + n ≤ e) (hw : Off (a + 92) n M M') : ClsR Γ a e z σ κ vi va M' := by
  obtain ⟨c0, c1, c2, c3, c4, c5, c6, c7⟩ := hC
  exact ⟨(hw _ (by omega)).trans c0, c1.same hI.1.2.1.2 (fun q g1 g2 => hw q (by omega)) (fun q g1 g2 => hw q (by omega)) (Nat.le_refl _), (by obtain ⟨τ, i, h⟩ := c2; exact ⟨τ, i, h.same i.1.2.1.2 (fun q g1 g2 => hw q (by omega)) (fun q g1 g2 => hw q (by omega)) (Nat.le_refl _)⟩), (by obtain ⟨τ, i, h, g⟩ := c3; exact ⟨τ, i, h.same i.1.2.1.2 (fun q g1 g2 => hw q (by omega)) (fun q g1 g2 => hw q (by omega)) (Nat.le_refl _), g⟩), c4.tr (hw _ (by omega)) (hw _ (by omega)) rfl (fun _ _ => rfl), c5.tr (fun _ _ => rfl) (fun q g1 g2 g3 => hw q (by omega)), c6.tr (hw _ (by omega)) (fun _ _ => rfl), (by obtain ⟨f, h⟩ := c7; exact ⟨f, (hw _ (by omega)).trans h⟩)⟩
theorem RefW.mv {Γ : Cx} {m : Nat} {M0 M M' : Nat → Option va_E} {σ κ vi : Rw} {va : Nat → Rw} (h : RefW Γ m M0 σ κ vi va M) (hw : ∀ q, m ≤ q → q < m + 17 → M' q = M q) : RefW Γ m M' σ κ vi va M' := by
  obtain ⟨ri, ra, ⟨c0, c1, c2, c3, c4, c5, c6, c7, c8, c9, c10, c11, c12, c13, c14, c15, c16, _⟩, hv, hu⟩ := h
  exact ⟨ri, ra, ⟨(hw _ (by omega) (by omega)).trans c0, (hw _ (by omega) (by omega)).trans c1, (hw _ (by omega) (by omega)).trans c2, (hw _ (by omega) (by omega)).trans c3, (hw _ (by omega) (by omega)).trans c4, (hw _ (by omega) (by omega)).trans c5, (hw _ (by omega) (by omega)).trans c6, (hw _ (by omega) (by omega)).trans c7, (hw _ (by omega) (by omega)).trans c8, (hw _ (by omega) (by omega)).trans c9, (hw _ (by omega) (by omega)).trans c10, (hw _ (by omega) (by omega)).trans c11, (hw _ (by omega) (by omega)).trans c12, (hw _ (by omega) (by omega)).trans c13, (hw _ (by omega) (by omega)).trans c14, (hw _ (by omega) (by omega)).trans c15, (hw _ (by omega) (by omega)).trans c16, fun _ _ => rfl⟩, hv, hu⟩
theorem RefW.offs {Γ : Cx} {m : Nat} {M0 M : Nat → Option va_E} {σ κ vi : Rw} {va : Nat → Rw} (h : RefW Γ m M0 σ κ vi va M) : Off m 17 M0 M := by
  obtain ⟨ri, ra, hR, hv, hu⟩ := h
  exact hR.off
/-- the class's object at a and the reference at a + 92 tell the same; what always holds -/
def Jn (Γ : Cx) (a z sz : Nat) (σ κ vi : Rw) (va : Nat → Rw) (M : Nat → Option va_E) : Prop :=
  ClsR Γ a (a + 109) z σ κ vi va M ∧ (∃ M0, RefW Γ (a + 92) M0 σ κ vi va M) ∧ Inv σ ∧ cT σ ≤ 9999 ∧ (vi 3 ≠ 0 → Inv κ ∧ cT κ ≤ 9999) ∧ InvS (shV va) ∧ InvT (shV va) ∧ (∃ n, vi 19 = nI n ∧ n ≤ 40) ∧ a + 109 ≤ z ∧ z ≤ sz
theorem Jn.k3 {Γ : Cx} {a z sz z' sz' e0 : Nat} {σ κ vi σ' : Rw} {va : Nat → Rw} {M M1 M2 : Nat → Option va_E} (hJ : Jn Γ a z sz σ κ vi va M) (hz : z ≤ z') (hzs : z' ≤ sz') (hC1 : ClsR Γ a (a + 109) z' σ' κ vi (eU va e0) M1) (hW2 : RefW Γ (a + 92) M1 σ' κ vi (eU va e0) M2) (hI : Inv σ') (h9 : cT σ' ≤ 9999) : Jn Γ a z' sz' σ' κ vi (eU va e0) M2 := by
  obtain ⟨_, _, _, _, j5, j6, j7, j8, j9, j10⟩ := hJ
  exact ⟨hC1.off (n := 17) hI (by omega) hW2.offs, ⟨_, hW2⟩, hI, h9, j5, by rw [shV_e]; exact j6, by rw [shV_e]; exact j7, j8, by omega, hzs⟩
theorem Jn.ks {Γ : Cx} {a z sz e0 : Nat} {σ κ vi : Rw} {va : Nat → Rw} {s : Sh} {M M1 M2 : Nat → Option va_E} (hJ : Jn Γ a z sz σ κ vi va M) (hC1 : ClsR Γ a (a + 109) z σ κ vi (shU (eU va e0) s) M1) (hW2 : RefW Γ (a + 92) M1 σ κ vi (shU (eU va e0) s) M2) (hs : InvS s ∧ InvT s) : Jn Γ a z sz σ κ vi (shU (eU va e0) s) M2 := by
  obtain ⟨_, _, j3, j4, j5, j6, j7, j8, j9, j10⟩ := hJ
  exact ⟨hC1.off (n := 17) j3 (by omega) hW2.offs, ⟨_, hW2⟩, j3, j4, j5, by rw [shV_U]; exact hs.1, by rw [shV_U]; exact hs.2, j8, j9, j10⟩
theorem Jn.kv {Γ : Cx} {a z sz e0 : Nat} {n : Nat} {g : Rw} {σ κ vi : Rw} {va : Nat → Rw} {M M1 M2 : Nat → Option va_E} (hJ : Jn Γ a z sz σ κ vi va M) (hC1 : ClsR Γ a (a + 109) z σ κ (upd vi 19 (nI n)) (va_up (eU va e0) 18 g) M1) (hW2 : RefW Γ (a + 92) M1 σ κ (upd vi 19 (nI n)) (va_up (eU va e0) 18 g) M2) (hn : n ≤ 40) : Jn Γ a z sz σ κ (upd vi 19 (nI n)) (va_up (eU va e0) 18 g) M2 := by
  obtain ⟨_, _, j3, j4, j5, j6, j7, j8, j9, j10⟩ := hJ
  have e3 : upd vi 19 (nI n) 3 = vi 3 := upd_ne (by decide)
  have es : shV (va_up (eU va e0) 18 g) = shV va := by
    rw [← shV_e va e0]
    unfold shV
    rw [vup_ne (by decide), vup_ne (by decide), vup_ne (by decide)]
  exact ⟨hC1.off (n := 17) j3 (by omega) hW2.offs, ⟨_, hW2⟩, j3, j4, by rw [e3]; exact j5, by rw [es]; exact j6, by rw [es]; exact j7, ⟨n, upd_at .., hn⟩, j9, j10⟩
theorem Jn.ki {Γ : Cx} {a z sz : Nat} {v : Int32} {σ κ vi : Rw} {va : Nat → Rw} {M M1 M2 : Nat → Option va_E} (hJ : Jn Γ a z sz σ κ vi va M) (hC1 : ClsR Γ a (a + 109) z σ σ (upd vi 3 v) va M1) (hW2 : RefW Γ (a + 92) M1 σ σ (upd vi 3 v) va M2) : Jn Γ a z sz σ σ (upd vi 3 v) va M2 := by
  obtain ⟨_, _, j3, j4, j5, j6, j7, ⟨n, j8, j8'⟩, j9, j10⟩ := hJ
  exact ⟨hC1.off (n := 17) j3 (by omega) hW2.offs, ⟨_, hW2⟩, j3, j4, fun _ => ⟨j3, j4⟩, j6, j7, ⟨n, (upd_ne (by decide)).trans j8, j8'⟩, j9, j10⟩
theorem os_less {X : State → Prop} {Γ : Cx} {f : Md} {d b b2 pc : Nat} {L : List (Option Value)} {st : List Value} {G : Wd} {Q : Option Value → Wd → Prop} (h : b ≤ b2) (k : OkS X Γ f d b pc L st G Q) : OkS X Γ f d b2 pc L st G Q :=
  fun p e s m args below meth c F hX H locs cells slots bb h1 h2 hH hS ls hl => k p e s m args below meth c F hX H locs cells slots bb (by omega) (by omega) hH hS ls hl
/-- where a case goes on -/
def Nx (Γ : Cx) (b9 N : Nat) (xs : Nat → Int32) (a b j : Nat) (Q : Option Value → Wd → Prop) : Prop :=
  ∀ z sz σ κ vi va M, Jn Γ a z sz σ κ vi va M → OkS (scX Γ b9 N xs) Γ mL_law 100 b 1609 [some (.ref b9), some (.ref a), some (.ref (a + 92)), some (.int (nI j))] [] (M, sz) Q
theorem lg_same (x : Int64) : lg_cmp x x = 0 := by
  unfold lg_cmp
  rw [if_neg (fun h : x < x => Int64.lt_irrefl h), if_pos rfl]
theorem w_hill {Γ : Cx} {b9 N : Nat} {xs : Nat → Int32} {a b j z sz : Nat} {σ κ vi : Rw} {va : Nat → Rw} {M : Nat → Option va_E} {Q : Option Value → Wd → Prop} (hJ : Jn Γ a z sz σ κ vi va M) (hN : N < 2 ^ 30) (hj : j + 6 ≤ N) (kk : Nx Γ b9 N xs a b j Q) : OkS (scX Γ b9 N xs) Γ mL_law 100 (b + 1) 208 [some (.ref b9), some (.ref a), some (.ref (a + 92)), some (.int (nI j))] [] (M, sz) Q := by
  obtain ⟨hC, ⟨M0, hW⟩, hI, hc9, hk, hS, hT, hTr, hez, hzs⟩ := id hJ
  refine os_aload_n (pc := 208) dL_law_208 rfl ?_
  refine os_aload_n (pc := 209) dL_law_209 rfl ?_
  refine os_iload_n (pc := 210) dL_law_210 rfl ?_
  refine os_iconst (pc := 211) (v := 1) dL_law_211 (by decide) ?_
  refine os_iadd (pc := 212) dL_law_212 ?_
  refine os_sld (pc := 213) (j + 1) (by rw [fa_lit 1, nI_add]) (by omega) hN dL_law_213 ?_
  refine os_aload_n (pc := 214) dL_law_214 rfl ?_
  refine os_iload_n (pc := 215) dL_law_215 rfl ?_
  refine os_iconst (pc := 216) (v := 2) dL_law_216 (by decide) ?_
  refine os_iadd (pc := 217) dL_law_217 ?_
  refine os_sld (pc := 218) (j + 2) (by rw [fa_lit 2, nI_add]) (by omega) hN dL_law_218 ?_
  refine os_callVi2 (pc := 219) (d' := 3) dL_law_219 vl_L_13 hC.1 rfl rfl rfl (by decide) ?_
  refine x_hill hC hI (by omega) (fun M1 hC1 hO1 => ?_)
  have hW1 := hW.mv (M' := M1) (fun q g1 g2 => hO1 q (by omega))
  obtain ⟨ri1, ra1, hR1, hv1, hu1⟩ := id hW1
  refine os_aload_n (pc := 222) dL_law_222 rfl ?_
  refine os_aload_n (pc := 223) dL_law_223 rfl ?_
  refine os_iload_n (pc := 224) dL_law_224 rfl ?_
  refine os_iconst (pc := 225) (v := 1) dL_law_225 (by decide) ?_
  refine os_iadd (pc := 226) dL_law_226 ?_
  refine os_sld (pc := 227) (j + 1) (by rw [fa_lit 1, nI_add]) (by omega) hN dL_law_227 ?_
  refine os_aload_n (pc := 228) dL_law_228 rfl ?_
  refine os_iload_n (pc := 229) dL_law_229 rfl ?_
  refine os_iconst (pc := 230) (v := 2) dL_law_230 (by decide) ?_
  refine os_iadd (pc := 231) dL_law_231 ?_
  refine os_sld (pc := 232) (j + 2) (by rw [fa_lit 2, nI_add]) (by omega) hN dL_law_232 ?_
  refine os_callVi2 (pc := 233) (d' := 2) dL_law_233 vl_L_17 hR1.o rfl rfl rfl (by decide) ?_
  refine r_hill hW1 hI (fun M2 hW2 => ?_)
  refine os_icmp_eq (pc := 236) 1609 dL_law_236 (by decide) (fun _ => ?_) (fun h9 => absurd rfl h9)
  exact os_less (Nat.le_succ b) (kk _ _ _ _ _ _ _ (hJ.k3 (Nat.le_refl z) hzs hC1 hW2 (Inv_op_hill hI  (xs (j + 1)) (xs (j + 2))) (cT_of (c9_hill (xs (j + 1)) (xs (j + 2))) hc9)))
theorem w_ofHill {Γ : Cx} {b9 N : Nat} {xs : Nat → Int32} {a b j z sz : Nat} {σ κ vi : Rw} {va : Nat → Rw} {M : Nat → Option va_E} {Q : Option Value → Wd → Prop} (hJ : Jn Γ a z sz σ κ vi va M) (hN : N < 2 ^ 30) (hj : j + 6 ≤ N) (kk : Nx Γ b9 N xs a b j Q) : OkS (scX Γ b9 N xs) Γ mL_law 100 (b + 1) 241 [some (.ref b9), some (.ref a), some (.ref (a + 92)), some (.int (nI j))] [] (M, sz) Q := by
  obtain ⟨hC, ⟨M0, hW⟩, hI, hc9, hk, hS, hT, hTr, hez, hzs⟩ := id hJ
  refine os_aload_n (pc := 241) dL_law_241 rfl ?_
  refine os_aload_n (pc := 242) dL_law_242 rfl ?_
  refine os_iload_n (pc := 243) dL_law_243 rfl ?_
  refine os_iconst (pc := 244) (v := 1) dL_law_244 (by decide) ?_
  refine os_iadd (pc := 245) dL_law_245 ?_
  refine os_sld (pc := 246) (j + 1) (by rw [fa_lit 1, nI_add]) (by omega) hN dL_law_246 ?_
  refine os_aload_n (pc := 247) dL_law_247 rfl ?_
  refine os_iload_n (pc := 248) dL_law_248 rfl ?_
  refine os_iconst (pc := 249) (v := 2) dL_law_249 (by decide) ?_
  refine os_iadd (pc := 250) dL_law_250 ?_
  refine os_sld (pc := 251) (j + 2) (by rw [fa_lit 2, nI_add]) (by omega) hN dL_law_251 ?_
  refine os_callVi2 (pc := 252) (d' := 4) dL_law_252 vl_L_18 hC.1 rfl rfl rfl (by decide) ?_
  refine x_ofHill hC hI (by omega) (fun M1 hC1 hO1 => ?_)
  have hW1 := hW.mv (M' := M1) (fun q g1 g2 => hO1 q (by omega))
  obtain ⟨ri1, ra1, hR1, hv1, hu1⟩ := id hW1
  refine os_aload_n (pc := 255) dL_law_255 rfl ?_
  refine os_aload_n (pc := 256) dL_law_256 rfl ?_
  refine os_iload_n (pc := 257) dL_law_257 rfl ?_
  refine os_iconst (pc := 258) (v := 1) dL_law_258 (by decide) ?_
  refine os_iadd (pc := 259) dL_law_259 ?_
  refine os_sld (pc := 260) (j + 1) (by rw [fa_lit 1, nI_add]) (by omega) hN dL_law_260 ?_
  refine os_aload_n (pc := 261) dL_law_261 rfl ?_
  refine os_iload_n (pc := 262) dL_law_262 rfl ?_
  refine os_iconst (pc := 263) (v := 2) dL_law_263 (by decide) ?_
  refine os_iadd (pc := 264) dL_law_264 ?_
  refine os_sld (pc := 265) (j + 2) (by rw [fa_lit 2, nI_add]) (by omega) hN dL_law_265 ?_
  refine os_callVi2 (pc := 266) (d' := 2) dL_law_266 vl_L_21 hR1.o rfl rfl rfl (by decide) ?_
  refine r_ofHill hW1 hI (fun M2 hW2 => ?_)
  refine os_icmp_eq (pc := 269) 1609 dL_law_269 (by decide) (fun _ => ?_) (fun h9 => absurd rfl h9)
  exact os_less (Nat.le_succ b) (kk _ _ _ _ _ _ _ (hJ.k3 (Nat.le_refl z) hzs hC1 hW2 hI hc9))
theorem w_wind {Γ : Cx} {b9 N : Nat} {xs : Nat → Int32} {a b j z sz : Nat} {σ κ vi : Rw} {va : Nat → Rw} {M : Nat → Option va_E} {Q : Option Value → Wd → Prop} (hJ : Jn Γ a z sz σ κ vi va M) (hN : N < 2 ^ 30) (hj : j + 6 ≤ N) (kk : Nx Γ b9 N xs a b j Q) : OkS (scX Γ b9 N xs) Γ mL_law 100 (b + 1) 274 [some (.ref b9), some (.ref a), some (.ref (a + 92)), some (.int (nI j))] [] (M, sz) Q := by
  obtain ⟨hC, ⟨M0, hW⟩, hI, hc9, hk, hS, hT, hTr, hez, hzs⟩ := id hJ
  refine os_aload_n (pc := 274) dL_law_274 rfl ?_
  refine os_aload_n (pc := 275) dL_law_275 rfl ?_
  refine os_iload_n (pc := 276) dL_law_276 rfl ?_
  refine os_iconst (pc := 277) (v := 1) dL_law_277 (by decide) ?_
  refine os_iadd (pc := 278) dL_law_278 ?_
  refine os_sld (pc := 279) (j + 1) (by rw [fa_lit 1, nI_add]) (by omega) hN dL_law_279 ?_
  refine os_aload_n (pc := 280) dL_law_280 rfl ?_
  refine os_iload_n (pc := 281) dL_law_281 rfl ?_
  refine os_iconst (pc := 282) (v := 2) dL_law_282 (by decide) ?_
  refine os_iadd (pc := 283) dL_law_283 ?_
  refine os_sld (pc := 284) (j + 2) (by rw [fa_lit 2, nI_add]) (by omega) hN dL_law_284 ?_
  refine os_callVi2 (pc := 285) (d' := 2) dL_law_285 vl_L_22 hC.1 rfl rfl rfl (by decide) ?_
  refine x_wind hC hI (by omega) (fun M1 hC1 hO1 => ?_)
  have hW1 := hW.mv (M' := M1) (fun q g1 g2 => hO1 q (by omega))
  obtain ⟨ri1, ra1, hR1, hv1, hu1⟩ := id hW1
  refine os_aload_n (pc := 288) dL_law_288 rfl ?_
  refine os_aload_n (pc := 289) dL_law_289 rfl ?_
  refine os_iload_n (pc := 290) dL_law_290 rfl ?_
  refine os_iconst (pc := 291) (v := 1) dL_law_291 (by decide) ?_
  refine os_iadd (pc := 292) dL_law_292 ?_
  refine os_sld (pc := 293) (j + 1) (by rw [fa_lit 1, nI_add]) (by omega) hN dL_law_293 ?_
  refine os_aload_n (pc := 294) dL_law_294 rfl ?_
  refine os_iload_n (pc := 295) dL_law_295 rfl ?_
  refine os_iconst (pc := 296) (v := 2) dL_law_296 (by decide) ?_
  refine os_iadd (pc := 297) dL_law_297 ?_
  refine os_sld (pc := 298) (j + 2) (by rw [fa_lit 2, nI_add]) (by omega) hN dL_law_298 ?_
  refine os_callVi2 (pc := 299) (d' := 2) dL_law_299 vl_L_25 hR1.o rfl rfl rfl (by decide) ?_
  refine r_wind hW1 hI (fun M2 hW2 => ?_)
  refine os_icmp_eq (pc := 302) 1609 dL_law_302 (by decide) (fun _ => ?_) (fun h9 => absurd rfl h9)
  exact os_less (Nat.le_succ b) (kk _ _ _ _ _ _ _ (hJ.k3 (Nat.le_refl z) hzs hC1 hW2 (Inv_op_wind hI  (xs (j + 1)) (xs (j + 2))) (cT_of (c9_wind (xs (j + 1)) (xs (j + 2))) hc9)))
theorem w_kite {Γ : Cx} {b9 N : Nat} {xs : Nat → Int32} {a b j z sz : Nat} {σ κ vi : Rw} {va : Nat → Rw} {M : Nat → Option va_E} {Q : Option Value → Wd → Prop} (hJ : Jn Γ a z sz σ κ vi va M) (hN : N < 2 ^ 30) (hj : j + 6 ≤ N) (kk : Nx Γ b9 N xs a b j Q) : OkS (scX Γ b9 N xs) Γ mL_law 100 (b + 1) 307 [some (.ref b9), some (.ref a), some (.ref (a + 92)), some (.int (nI j))] [] (M, sz) Q := by
  obtain ⟨hC, ⟨M0, hW⟩, hI, hc9, hk, hS, hT, hTr, hez, hzs⟩ := id hJ
  refine os_aload_n (pc := 307) dL_law_307 rfl ?_
  refine os_aload_n (pc := 308) dL_law_308 rfl ?_
  refine os_iload_n (pc := 309) dL_law_309 rfl ?_
  refine os_iconst (pc := 310) (v := 1) dL_law_310 (by decide) ?_
  refine os_iadd (pc := 311) dL_law_311 ?_
  refine os_sld (pc := 312) (j + 1) (by rw [fa_lit 1, nI_add]) (by omega) hN dL_law_312 ?_
  refine os_aload_n (pc := 313) dL_law_313 rfl ?_
  refine os_iload_n (pc := 314) dL_law_314 rfl ?_
  refine os_iconst (pc := 315) (v := 2) dL_law_315 (by decide) ?_
  refine os_iadd (pc := 316) dL_law_316 ?_
  refine os_sld (pc := 317) (j + 2) (by rw [fa_lit 2, nI_add]) (by omega) hN dL_law_317 ?_
  refine os_aload_n (pc := 318) dL_law_318 rfl ?_
  refine os_iload_n (pc := 319) dL_law_319 rfl ?_
  refine os_iconst (pc := 320) (v := 3) dL_law_320 (by decide) ?_
  refine os_iadd (pc := 321) dL_law_321 ?_
  refine os_sld (pc := 322) (j + 3) (by rw [fa_lit 3, nI_add]) (by omega) hN dL_law_322 ?_
  refine os_callVi3B (pc := 323) (d' := 6) (b' := 1) (b'' := b) dL_law_323 vl_L_26 hC.1 rfl rfl rfl (by decide) (by omega) ?_
  refine x_kite hC hI (by omega) hez hzs (fun M1 z1 s1 hz1 hzs1 hss1 hC1 hO1 => ?_)
  have hW1 := hW.mv (M' := M1) (fun q g1 g2 => hO1 q (by omega) (by omega))
  obtain ⟨ri1, ra1, hR1, hv1, hu1⟩ := id hW1
  refine os_aload_n (pc := 326) dL_law_326 rfl ?_
  refine os_aload_n (pc := 327) dL_law_327 rfl ?_
  refine os_iload_n (pc := 328) dL_law_328 rfl ?_
  refine os_iconst (pc := 329) (v := 1) dL_law_329 (by decide) ?_
  refine os_iadd (pc := 330) dL_law_330 ?_
  refine os_sld (pc := 331) (j + 1) (by rw [fa_lit 1, nI_add]) (by omega) hN dL_law_331 ?_
  refine os_aload_n (pc := 332) dL_law_332 rfl ?_
  refine os_iload_n (pc := 333) dL_law_333 rfl ?_
  refine os_iconst (pc := 334) (v := 2) dL_law_334 (by decide) ?_
  refine os_iadd (pc := 335) dL_law_335 ?_
  refine os_sld (pc := 336) (j + 2) (by rw [fa_lit 2, nI_add]) (by omega) hN dL_law_336 ?_
  refine os_aload_n (pc := 337) dL_law_337 rfl ?_
  refine os_iload_n (pc := 338) dL_law_338 rfl ?_
  refine os_iconst (pc := 339) (v := 3) dL_law_339 (by decide) ?_
  refine os_iadd (pc := 340) dL_law_340 ?_
  refine os_sld (pc := 341) (j + 3) (by rw [fa_lit 3, nI_add]) (by omega) hN dL_law_341 ?_
  refine os_callVi3 (pc := 342) (d' := 2) dL_law_342 vl_L_30 hR1.o rfl rfl rfl (by decide) ?_
  refine r_kite hW1 hI (fun M2 hW2 => ?_)
  refine os_icmp_eq (pc := 345) 1609 dL_law_345 (by decide) (fun _ => ?_) (fun h9 => absurd rfl h9)
  exact (kk _ _ _ _ _ _ _ (hJ.k3 hz1 hzs1 hC1 hW2 (Inv_op_kite hI  (xs (j + 1)) (xs (j + 2)) (xs (j + 3))) (cT_of (c9_kite (xs (j + 1)) (xs (j + 2)) (xs (j + 3))) hc9)))
theorem w_ofKite {Γ : Cx} {b9 N : Nat} {xs : Nat → Int32} {a b j z sz : Nat} {σ κ vi : Rw} {va : Nat → Rw} {M : Nat → Option va_E} {Q : Option Value → Wd → Prop} (hJ : Jn Γ a z sz σ κ vi va M) (hN : N < 2 ^ 30) (hj : j + 6 ≤ N) (kk : Nx Γ b9 N xs a b j Q) : OkS (scX Γ b9 N xs) Γ mL_law 100 (b + 1) 350 [some (.ref b9), some (.ref a), some (.ref (a + 92)), some (.int (nI j))] [] (M, sz) Q := by
  obtain ⟨hC, ⟨M0, hW⟩, hI, hc9, hk, hS, hT, hTr, hez, hzs⟩ := id hJ
  refine os_aload_n (pc := 350) dL_law_350 rfl ?_
  refine os_aload_n (pc := 351) dL_law_351 rfl ?_
  refine os_iload_n (pc := 352) dL_law_352 rfl ?_
  refine os_iconst (pc := 353) (v := 1) dL_law_353 (by decide) ?_
  refine os_iadd (pc := 354) dL_law_354 ?_
  refine os_sld (pc := 355) (j + 1) (by rw [fa_lit 1, nI_add]) (by omega) hN dL_law_355 ?_
  refine os_aload_n (pc := 356) dL_law_356 rfl ?_
  refine os_iload_n (pc := 357) dL_law_357 rfl ?_
  refine os_iconst (pc := 358) (v := 2) dL_law_358 (by decide) ?_
  refine os_iadd (pc := 359) dL_law_359 ?_
  refine os_sld (pc := 360) (j + 2) (by rw [fa_lit 2, nI_add]) (by omega) hN dL_law_360 ?_
  refine os_callVi2 (pc := 361) (d' := 2) dL_law_361 vl_L_31 hC.1 rfl rfl rfl (by decide) ?_
  refine x_ofKite hC hI (by omega) (fun M1 hC1 hO1 => ?_)
  have hW1 := hW.mv (M' := M1) (fun q g1 g2 => hO1 q (by omega))
  obtain ⟨ri1, ra1, hR1, hv1, hu1⟩ := id hW1
  refine os_aload_n (pc := 364) dL_law_364 rfl ?_
  refine os_aload_n (pc := 365) dL_law_365 rfl ?_
  refine os_iload_n (pc := 366) dL_law_366 rfl ?_
  refine os_iconst (pc := 367) (v := 1) dL_law_367 (by decide) ?_
  refine os_iadd (pc := 368) dL_law_368 ?_
  refine os_sld (pc := 369) (j + 1) (by rw [fa_lit 1, nI_add]) (by omega) hN dL_law_369 ?_
  refine os_aload_n (pc := 370) dL_law_370 rfl ?_
  refine os_iload_n (pc := 371) dL_law_371 rfl ?_
  refine os_iconst (pc := 372) (v := 2) dL_law_372 (by decide) ?_
  refine os_iadd (pc := 373) dL_law_373 ?_
  refine os_sld (pc := 374) (j + 2) (by rw [fa_lit 2, nI_add]) (by omega) hN dL_law_374 ?_
  refine os_callVi2 (pc := 375) (d' := 2) dL_law_375 vl_L_34 hR1.o rfl rfl rfl (by decide) ?_
  refine r_ofKite hW1 hI (fun M2 hW2 => ?_)
  refine os_icmp_eq (pc := 378) 1609 dL_law_378 (by decide) (fun _ => ?_) (fun h9 => absurd rfl h9)
  exact os_less (Nat.le_succ b) (kk _ _ _ _ _ _ _ (hJ.k3 (Nat.le_refl z) hzs hC1 hW2 hI hc9))
theorem w_as {Γ : Cx} {b9 N : Nat} {xs : Nat → Int32} {a b j z sz : Nat} {σ κ vi : Rw} {va : Nat → Rw} {M : Nat → Option va_E} {Q : Option Value → Wd → Prop} (hJ : Jn Γ a z sz σ κ vi va M) (hN : N < 2 ^ 30) (hj : j + 6 ≤ N) (kk : Nx Γ b9 N xs a b j Q) : OkS (scX Γ b9 N xs) Γ mL_law 100 (b + 1) 383 [some (.ref b9), some (.ref a), some (.ref (a + 92)), some (.int (nI j))] [] (M, sz) Q := by
  obtain ⟨hC, ⟨M0, hW⟩, hI, hc9, hk, hS, hT, hTr, hez, hzs⟩ := id hJ
  refine os_aload_n (pc := 383) dL_law_383 rfl ?_
  refine os_aload_n (pc := 384) dL_law_384 rfl ?_
  refine os_iload_n (pc := 385) dL_law_385 rfl ?_
  refine os_iconst (pc := 386) (v := 1) dL_law_386 (by decide) ?_
  refine os_iadd (pc := 387) dL_law_387 ?_
  refine os_sld (pc := 388) (j + 1) (by rw [fa_lit 1, nI_add]) (by omega) hN dL_law_388 ?_
  refine os_aload_n (pc := 389) dL_law_389 rfl ?_
  refine os_iload_n (pc := 390) dL_law_390 rfl ?_
  refine os_iconst (pc := 391) (v := 2) dL_law_391 (by decide) ?_
  refine os_iadd (pc := 392) dL_law_392 ?_
  refine os_sld (pc := 393) (j + 2) (by rw [fa_lit 2, nI_add]) (by omega) hN dL_law_393 ?_
  refine os_callVi2 (pc := 394) (d' := 2) dL_law_394 vl_L_35 hC.1 rfl rfl rfl (by decide) ?_
  refine x_as hC hI (by omega) (fun M1 hC1 hO1 => ?_)
  have hW1 := hW.mv (M' := M1) (fun q g1 g2 => hO1 q (by omega))
  obtain ⟨ri1, ra1, hR1, hv1, hu1⟩ := id hW1
  refine os_aload_n (pc := 397) dL_law_397 rfl ?_
  refine os_aload_n (pc := 398) dL_law_398 rfl ?_
  refine os_iload_n (pc := 399) dL_law_399 rfl ?_
  refine os_iconst (pc := 400) (v := 1) dL_law_400 (by decide) ?_
  refine os_iadd (pc := 401) dL_law_401 ?_
  refine os_sld (pc := 402) (j + 1) (by rw [fa_lit 1, nI_add]) (by omega) hN dL_law_402 ?_
  refine os_aload_n (pc := 403) dL_law_403 rfl ?_
  refine os_iload_n (pc := 404) dL_law_404 rfl ?_
  refine os_iconst (pc := 405) (v := 2) dL_law_405 (by decide) ?_
  refine os_iadd (pc := 406) dL_law_406 ?_
  refine os_sld (pc := 407) (j + 2) (by rw [fa_lit 2, nI_add]) (by omega) hN dL_law_407 ?_
  refine os_callVi2 (pc := 408) (d' := 2) dL_law_408 vl_L_38 hR1.o rfl rfl rfl (by decide) ?_
  refine r_as hW1 hI (fun M2 hW2 => ?_)
  refine os_icmp_eq (pc := 411) 1609 dL_law_411 (by decide) (fun _ => ?_) (fun h9 => absurd rfl h9)
  exact os_less (Nat.le_succ b) (kk _ _ _ _ _ _ _ (hJ.k3 (Nat.le_refl z) hzs hC1 hW2 hI hc9))
theorem w_aim {Γ : Cx} {b9 N : Nat} {xs : Nat → Int32} {a b j z sz : Nat} {σ κ vi : Rw} {va : Nat → Rw} {M : Nat → Option va_E} {Q : Option Value → Wd → Prop} (hJ : Jn Γ a z sz σ κ vi va M) (hN : N < 2 ^ 30) (hj : j + 6 ≤ N) (kk : Nx Γ b9 N xs a b j Q) : OkS (scX Γ b9 N xs) Γ mL_law 100 (b + 1) 416 [some (.ref b9), some (.ref a), some (.ref (a + 92)), some (.int (nI j))] [] (M, sz) Q := by
  obtain ⟨hC, ⟨M0, hW⟩, hI, hc9, hk, hS, hT, hTr, hez, hzs⟩ := id hJ
  refine os_aload_n (pc := 416) dL_law_416 rfl ?_
  refine os_aload_n (pc := 417) dL_law_417 rfl ?_
  refine os_iload_n (pc := 418) dL_law_418 rfl ?_
  refine os_iconst (pc := 419) (v := 1) dL_law_419 (by decide) ?_
  refine os_iadd (pc := 420) dL_law_420 ?_
  refine os_sld (pc := 421) (j + 1) (by rw [fa_lit 1, nI_add]) (by omega) hN dL_law_421 ?_
  refine os_aload_n (pc := 422) dL_law_422 rfl ?_
  refine os_iload_n (pc := 423) dL_law_423 rfl ?_
  refine os_iconst (pc := 424) (v := 2) dL_law_424 (by decide) ?_
  refine os_iadd (pc := 425) dL_law_425 ?_
  refine os_sld (pc := 426) (j + 2) (by rw [fa_lit 2, nI_add]) (by omega) hN dL_law_426 ?_
  refine os_callVi2 (pc := 427) (d' := 2) dL_law_427 vl_L_39 hC.1 rfl rfl rfl (by decide) ?_
  refine x_aim hC hI (by omega) (fun M1 hC1 hO1 => ?_)
  have hW1 := hW.mv (M' := M1) (fun q g1 g2 => hO1 q (by omega))
  obtain ⟨ri1, ra1, hR1, hv1, hu1⟩ := id hW1
  refine os_aload_n (pc := 430) dL_law_430 rfl ?_
  refine os_aload_n (pc := 431) dL_law_431 rfl ?_
  refine os_iload_n (pc := 432) dL_law_432 rfl ?_
  refine os_iconst (pc := 433) (v := 1) dL_law_433 (by decide) ?_
  refine os_iadd (pc := 434) dL_law_434 ?_
  refine os_sld (pc := 435) (j + 1) (by rw [fa_lit 1, nI_add]) (by omega) hN dL_law_435 ?_
  refine os_aload_n (pc := 436) dL_law_436 rfl ?_
  refine os_iload_n (pc := 437) dL_law_437 rfl ?_
  refine os_iconst (pc := 438) (v := 2) dL_law_438 (by decide) ?_
  refine os_iadd (pc := 439) dL_law_439 ?_
  refine os_sld (pc := 440) (j + 2) (by rw [fa_lit 2, nI_add]) (by omega) hN dL_law_440 ?_
  refine os_callVi2 (pc := 441) (d' := 2) dL_law_441 vl_L_42 hR1.o rfl rfl rfl (by decide) ?_
  refine r_aim hW1 hI (fun M2 hW2 => ?_)
  refine os_icmp_eq (pc := 444) 1609 dL_law_444 (by decide) (fun _ => ?_) (fun h9 => absurd rfl h9)
  exact os_less (Nat.le_succ b) (kk _ _ _ _ _ _ _ (hJ.k3 (Nat.le_refl z) hzs hC1 hW2 (Inv_op_aim hI  (xs (j + 1)) (xs (j + 2))) (cT_of (c9_aim (xs (j + 1)) (xs (j + 2))) hc9)))
theorem w_pull {Γ : Cx} {b9 N : Nat} {xs : Nat → Int32} {a b j z sz : Nat} {σ κ vi : Rw} {va : Nat → Rw} {M : Nat → Option va_E} {Q : Option Value → Wd → Prop} (hJ : Jn Γ a z sz σ κ vi va M) (hN : N < 2 ^ 30) (hj : j + 6 ≤ N) (kk : Nx Γ b9 N xs a b j Q) : OkS (scX Γ b9 N xs) Γ mL_law 100 (b + 1) 449 [some (.ref b9), some (.ref a), some (.ref (a + 92)), some (.int (nI j))] [] (M, sz) Q := by
  obtain ⟨hC, ⟨M0, hW⟩, hI, hc9, hk, hS, hT, hTr, hez, hzs⟩ := id hJ
  refine os_aload_n (pc := 449) dL_law_449 rfl ?_
  refine os_aload_n (pc := 450) dL_law_450 rfl ?_
  refine os_iload_n (pc := 451) dL_law_451 rfl ?_
  refine os_iconst (pc := 452) (v := 1) dL_law_452 (by decide) ?_
  refine os_iadd (pc := 453) dL_law_453 ?_
  refine os_sld (pc := 454) (j + 1) (by rw [fa_lit 1, nI_add]) (by omega) hN dL_law_454 ?_
  refine os_aload_n (pc := 455) dL_law_455 rfl ?_
  refine os_iload_n (pc := 456) dL_law_456 rfl ?_
  refine os_iconst (pc := 457) (v := 2) dL_law_457 (by decide) ?_
  refine os_iadd (pc := 458) dL_law_458 ?_
  refine os_sld (pc := 459) (j + 2) (by rw [fa_lit 2, nI_add]) (by omega) hN dL_law_459 ?_
  refine os_aload_n (pc := 460) dL_law_460 rfl ?_
  refine os_iload_n (pc := 461) dL_law_461 rfl ?_
  refine os_iconst (pc := 462) (v := 3) dL_law_462 (by decide) ?_
  refine os_iadd (pc := 463) dL_law_463 ?_
  refine os_sld (pc := 464) (j + 3) (by rw [fa_lit 3, nI_add]) (by omega) hN dL_law_464 ?_
  refine os_callVi3 (pc := 465) (d' := 4) dL_law_465 vl_L_43 hC.1 rfl rfl rfl (by decide) ?_
  refine x_pull hC hI (by omega) (fun M1 hC1 hO1 => ?_)
  have hW1 := hW.mv (M' := M1) (fun q g1 g2 => hO1 q (by omega))
  obtain ⟨ri1, ra1, hR1, hv1, hu1⟩ := id hW1
  refine os_aload_n (pc := 468) dL_law_468 rfl ?_
  refine os_aload_n (pc := 469) dL_law_469 rfl ?_
  refine os_iload_n (pc := 470) dL_law_470 rfl ?_
  refine os_iconst (pc := 471) (v := 1) dL_law_471 (by decide) ?_
  refine os_iadd (pc := 472) dL_law_472 ?_
  refine os_sld (pc := 473) (j + 1) (by rw [fa_lit 1, nI_add]) (by omega) hN dL_law_473 ?_
  refine os_aload_n (pc := 474) dL_law_474 rfl ?_
  refine os_iload_n (pc := 475) dL_law_475 rfl ?_
  refine os_iconst (pc := 476) (v := 2) dL_law_476 (by decide) ?_
  refine os_iadd (pc := 477) dL_law_477 ?_
  refine os_sld (pc := 478) (j + 2) (by rw [fa_lit 2, nI_add]) (by omega) hN dL_law_478 ?_
  refine os_aload_n (pc := 479) dL_law_479 rfl ?_
  refine os_iload_n (pc := 480) dL_law_480 rfl ?_
  refine os_iconst (pc := 481) (v := 3) dL_law_481 (by decide) ?_
  refine os_iadd (pc := 482) dL_law_482 ?_
  refine os_sld (pc := 483) (j + 3) (by rw [fa_lit 3, nI_add]) (by omega) hN dL_law_483 ?_
  refine os_callVi3 (pc := 484) (d' := 5) dL_law_484 vl_L_46 hR1.o rfl rfl rfl (by decide) ?_
  refine r_pull hW1 hI (fun M2 hW2 => ?_)
  refine os_icmp_eq (pc := 487) 1609 dL_law_487 (by decide) (fun _ => ?_) (fun h9 => absurd rfl h9)
  exact os_less (Nat.le_succ b) (kk _ _ _ _ _ _ _ (hJ.k3 (Nat.le_refl z) hzs hC1 hW2 hI hc9))
theorem w_stands {Γ : Cx} {b9 N : Nat} {xs : Nat → Int32} {a b j z sz : Nat} {σ κ vi : Rw} {va : Nat → Rw} {M : Nat → Option va_E} {Q : Option Value → Wd → Prop} (hJ : Jn Γ a z sz σ κ vi va M) (hN : N < 2 ^ 30) (hj : j + 6 ≤ N) (kk : Nx Γ b9 N xs a b j Q) : OkS (scX Γ b9 N xs) Γ mL_law 100 (b + 1) 492 [some (.ref b9), some (.ref a), some (.ref (a + 92)), some (.int (nI j))] [] (M, sz) Q := by
  obtain ⟨hC, ⟨M0, hW⟩, hI, hc9, hk, hS, hT, hTr, hez, hzs⟩ := id hJ
  refine os_aload_n (pc := 492) dL_law_492 rfl ?_
  refine os_aload_n (pc := 493) dL_law_493 rfl ?_
  refine os_iload_n (pc := 494) dL_law_494 rfl ?_
  refine os_iconst (pc := 495) (v := 1) dL_law_495 (by decide) ?_
  refine os_iadd (pc := 496) dL_law_496 ?_
  refine os_sld (pc := 497) (j + 1) (by rw [fa_lit 1, nI_add]) (by omega) hN dL_law_497 ?_
  refine os_aload_n (pc := 498) dL_law_498 rfl ?_
  refine os_iload_n (pc := 499) dL_law_499 rfl ?_
  refine os_iconst (pc := 500) (v := 2) dL_law_500 (by decide) ?_
  refine os_iadd (pc := 501) dL_law_501 ?_
  refine os_sld (pc := 502) (j + 2) (by rw [fa_lit 2, nI_add]) (by omega) hN dL_law_502 ?_
  refine os_aload_n (pc := 503) dL_law_503 rfl ?_
  refine os_iload_n (pc := 504) dL_law_504 rfl ?_
  refine os_iconst (pc := 505) (v := 3) dL_law_505 (by decide) ?_
  refine os_iadd (pc := 506) dL_law_506 ?_
  refine os_sld (pc := 507) (j + 3) (by rw [fa_lit 3, nI_add]) (by omega) hN dL_law_507 ?_
  refine os_callVi3 (pc := 508) (d' := 4) dL_law_508 vl_L_47 hC.1 rfl rfl rfl (by decide) ?_
  refine x_stands hC hI (by omega) (fun M1 hC1 hO1 => ?_)
  have hW1 := hW.mv (M' := M1) (fun q g1 g2 => hO1 q (by omega))
  obtain ⟨ri1, ra1, hR1, hv1, hu1⟩ := id hW1
  refine os_aload_n (pc := 511) dL_law_511 rfl ?_
  refine os_aload_n (pc := 512) dL_law_512 rfl ?_
  refine os_iload_n (pc := 513) dL_law_513 rfl ?_
  refine os_iconst (pc := 514) (v := 1) dL_law_514 (by decide) ?_
  refine os_iadd (pc := 515) dL_law_515 ?_
  refine os_sld (pc := 516) (j + 1) (by rw [fa_lit 1, nI_add]) (by omega) hN dL_law_516 ?_
  refine os_aload_n (pc := 517) dL_law_517 rfl ?_
  refine os_iload_n (pc := 518) dL_law_518 rfl ?_
  refine os_iconst (pc := 519) (v := 2) dL_law_519 (by decide) ?_
  refine os_iadd (pc := 520) dL_law_520 ?_
  refine os_sld (pc := 521) (j + 2) (by rw [fa_lit 2, nI_add]) (by omega) hN dL_law_521 ?_
  refine os_aload_n (pc := 522) dL_law_522 rfl ?_
  refine os_iload_n (pc := 523) dL_law_523 rfl ?_
  refine os_iconst (pc := 524) (v := 3) dL_law_524 (by decide) ?_
  refine os_iadd (pc := 525) dL_law_525 ?_
  refine os_sld (pc := 526) (j + 3) (by rw [fa_lit 3, nI_add]) (by omega) hN dL_law_526 ?_
  refine os_callVi3 (pc := 527) (d' := 7) dL_law_527 vl_L_50 hR1.o rfl rfl rfl (by decide) ?_
  refine r_stands hW1 hI (fun M2 hW2 => ?_)
  refine os_icmp_eq (pc := 530) 1609 dL_law_530 (by decide) (fun _ => ?_) (fun h9 => absurd rfl h9)
  exact os_less (Nat.le_succ b) (kk _ _ _ _ _ _ _ (hJ.k3 (Nat.le_refl z) hzs hC1 hW2 hI hc9))
theorem w_over {Γ : Cx} {b9 N : Nat} {xs : Nat → Int32} {a b j z sz : Nat} {σ κ vi : Rw} {va : Nat → Rw} {M : Nat → Option va_E} {Q : Option Value → Wd → Prop} (hJ : Jn Γ a z sz σ κ vi va M) (hN : N < 2 ^ 30) (hj : j + 6 ≤ N) (kk : Nx Γ b9 N xs a b j Q) : OkS (scX Γ b9 N xs) Γ mL_law 100 (b + 1) 535 [some (.ref b9), some (.ref a), some (.ref (a + 92)), some (.int (nI j))] [] (M, sz) Q := by
  obtain ⟨hC, ⟨M0, hW⟩, hI, hc9, hk, hS, hT, hTr, hez, hzs⟩ := id hJ
  refine os_aload_n (pc := 535) dL_law_535 rfl ?_
  refine os_aload_n (pc := 536) dL_law_536 rfl ?_
  refine os_iload_n (pc := 537) dL_law_537 rfl ?_
  refine os_iconst (pc := 538) (v := 1) dL_law_538 (by decide) ?_
  refine os_iadd (pc := 539) dL_law_539 ?_
  refine os_sld (pc := 540) (j + 1) (by rw [fa_lit 1, nI_add]) (by omega) hN dL_law_540 ?_
  refine os_aload_n (pc := 541) dL_law_541 rfl ?_
  refine os_iload_n (pc := 542) dL_law_542 rfl ?_
  refine os_iconst (pc := 543) (v := 2) dL_law_543 (by decide) ?_
  refine os_iadd (pc := 544) dL_law_544 ?_
  refine os_sld (pc := 545) (j + 2) (by rw [fa_lit 2, nI_add]) (by omega) hN dL_law_545 ?_
  refine os_aload_n (pc := 546) dL_law_546 rfl ?_
  refine os_iload_n (pc := 547) dL_law_547 rfl ?_
  refine os_iconst (pc := 548) (v := 3) dL_law_548 (by decide) ?_
  refine os_iadd (pc := 549) dL_law_549 ?_
  refine os_sld (pc := 550) (j + 3) (by rw [fa_lit 3, nI_add]) (by omega) hN dL_law_550 ?_
  refine os_callVi3 (pc := 551) (d' := 5) dL_law_551 vl_L_51 hC.1 rfl rfl rfl (by decide) ?_
  refine x_over hC hI (by omega) (fun M1 hC1 hO1 => ?_)
  have hW1 := hW.mv (M' := M1) (fun q g1 g2 => hO1 q (by omega))
  obtain ⟨ri1, ra1, hR1, hv1, hu1⟩ := id hW1
  refine os_aload_n (pc := 554) dL_law_554 rfl ?_
  refine os_aload_n (pc := 555) dL_law_555 rfl ?_
  refine os_iload_n (pc := 556) dL_law_556 rfl ?_
  refine os_iconst (pc := 557) (v := 1) dL_law_557 (by decide) ?_
  refine os_iadd (pc := 558) dL_law_558 ?_
  refine os_sld (pc := 559) (j + 1) (by rw [fa_lit 1, nI_add]) (by omega) hN dL_law_559 ?_
  refine os_aload_n (pc := 560) dL_law_560 rfl ?_
  refine os_iload_n (pc := 561) dL_law_561 rfl ?_
  refine os_iconst (pc := 562) (v := 2) dL_law_562 (by decide) ?_
  refine os_iadd (pc := 563) dL_law_563 ?_
  refine os_sld (pc := 564) (j + 2) (by rw [fa_lit 2, nI_add]) (by omega) hN dL_law_564 ?_
  refine os_aload_n (pc := 565) dL_law_565 rfl ?_
  refine os_iload_n (pc := 566) dL_law_566 rfl ?_
  refine os_iconst (pc := 567) (v := 3) dL_law_567 (by decide) ?_
  refine os_iadd (pc := 568) dL_law_568 ?_
  refine os_sld (pc := 569) (j + 3) (by rw [fa_lit 3, nI_add]) (by omega) hN dL_law_569 ?_
  refine os_callVi3 (pc := 570) (d' := 6) dL_law_570 vl_L_54 hR1.o rfl rfl rfl (by decide) ?_
  refine r_over hW1 hI (fun M2 hW2 => ?_)
  refine os_icmp_eq (pc := 573) 1609 dL_law_573 (by decide) (fun _ => ?_) (fun h9 => absurd rfl h9)
  exact os_less (Nat.le_succ b) (kk _ _ _ _ _ _ _ (hJ.k3 (Nat.le_refl z) hzs hC1 hW2 hI hc9))
theorem w_feed {Γ : Cx} {b9 N : Nat} {xs : Nat → Int32} {a b j z sz : Nat} {σ κ vi : Rw} {va : Nat → Rw} {M : Nat → Option va_E} {Q : Option Value → Wd → Prop} (hJ : Jn Γ a z sz σ κ vi va M) (hN : N < 2 ^ 30) (hj : j + 6 ≤ N) (kk : Nx Γ b9 N xs a b j Q) : OkS (scX Γ b9 N xs) Γ mL_law 100 (b + 1) 578 [some (.ref b9), some (.ref a), some (.ref (a + 92)), some (.int (nI j))] [] (M, sz) Q := by
  obtain ⟨hC, ⟨M0, hW⟩, hI, hc9, hk, hS, hT, hTr, hez, hzs⟩ := id hJ
  refine os_aload_n (pc := 578) dL_law_578 rfl ?_
  refine os_aload_n (pc := 579) dL_law_579 rfl ?_
  refine os_iload_n (pc := 580) dL_law_580 rfl ?_
  refine os_iconst (pc := 581) (v := 1) dL_law_581 (by decide) ?_
  refine os_iadd (pc := 582) dL_law_582 ?_
  refine os_sld (pc := 583) (j + 1) (by rw [fa_lit 1, nI_add]) (by omega) hN dL_law_583 ?_
  refine os_i2l (pc := 584) dL_law_584 ?_
  refine os_bipush (pc := 585) (v := 32) dL_law_585 (by decide) ?_
  refine os_lshl (pc := 587) dL_law_587 ?_
  refine os_aload_n (pc := 588) dL_law_588 rfl ?_
  refine os_iload_n (pc := 589) dL_law_589 rfl ?_
  refine os_iconst (pc := 590) (v := 2) dL_law_590 (by decide) ?_
  refine os_iadd (pc := 591) dL_law_591 ?_
  refine os_sld (pc := 592) (j + 2) (by rw [fa_lit 2, nI_add]) (by omega) hN dL_law_592 ?_
  refine os_i2l (pc := 593) dL_law_593 ?_
  refine os_ldc2 (pc := 594) (v := 4294967295) dL_law_594 tw_1651 ?_
  refine os_land (pc := 597) dL_law_597 ?_
  refine os_lor (pc := 598) dL_law_598 ?_
  refine os_aload_n (pc := 599) dL_law_599 rfl ?_
  refine os_iload_n (pc := 600) dL_law_600 rfl ?_
  refine os_iconst (pc := 601) (v := 3) dL_law_601 (by decide) ?_
  refine os_iadd (pc := 602) dL_law_602 ?_
  refine os_sld (pc := 603) (j + 3) (by rw [fa_lit 3, nI_add]) (by omega) hN dL_law_603 ?_
  refine os_callVi2 (pc := 604) (d' := 2) dL_law_604 vl_L_57 hC.1 rfl rfl rfl (by decide) ?_
  refine x_feed hC hI (by omega) (fun M1 hC1 hO1 => ?_)
  have hW1 := hW.mv (M' := M1) (fun q g1 g2 => hO1 q (by omega))
  obtain ⟨ri1, ra1, hR1, hv1, hu1⟩ := id hW1
  refine os_aload_n (pc := 607) dL_law_607 rfl ?_
  refine os_aload_n (pc := 608) dL_law_608 rfl ?_
  refine os_iload_n (pc := 609) dL_law_609 rfl ?_
  refine os_iconst (pc := 610) (v := 1) dL_law_610 (by decide) ?_
  refine os_iadd (pc := 611) dL_law_611 ?_
  refine os_sld (pc := 612) (j + 1) (by rw [fa_lit 1, nI_add]) (by omega) hN dL_law_612 ?_
  refine os_i2l (pc := 613) dL_law_613 ?_
  refine os_bipush (pc := 614) (v := 32) dL_law_614 (by decide) ?_
  refine os_lshl (pc := 616) dL_law_616 ?_
  refine os_aload_n (pc := 617) dL_law_617 rfl ?_
  refine os_iload_n (pc := 618) dL_law_618 rfl ?_
  refine os_iconst (pc := 619) (v := 2) dL_law_619 (by decide) ?_
  refine os_iadd (pc := 620) dL_law_620 ?_
  refine os_sld (pc := 621) (j + 2) (by rw [fa_lit 2, nI_add]) (by omega) hN dL_law_621 ?_
  refine os_i2l (pc := 622) dL_law_622 ?_
  refine os_ldc2 (pc := 623) (v := 4294967295) dL_law_623 tw_1651 ?_
  refine os_land (pc := 626) dL_law_626 ?_
  refine os_lor (pc := 627) dL_law_627 ?_
  refine os_aload_n (pc := 628) dL_law_628 rfl ?_
  refine os_iload_n (pc := 629) dL_law_629 rfl ?_
  refine os_iconst (pc := 630) (v := 3) dL_law_630 (by decide) ?_
  refine os_iadd (pc := 631) dL_law_631 ?_
  refine os_sld (pc := 632) (j + 3) (by rw [fa_lit 3, nI_add]) (by omega) hN dL_law_632 ?_
  refine os_callVi2 (pc := 633) (d' := 1) dL_law_633 vl_L_61 hR1.o rfl rfl rfl (by decide) ?_
  refine r_feed hW1 hI (fun M2 hW2 => ?_)
  refine os_icmp_eq (pc := 636) 1609 dL_law_636 (by decide) (fun _ => ?_) (fun h9 => absurd rfl h9)
  exact os_less (Nat.le_succ b) (kk _ _ _ _ _ _ _ (hJ.k3 (Nat.le_refl z) hzs hC1 hW2 (Inv_op_feed hI  _ _) (cT_of (c9_feed _ _) hc9)))
theorem w_text {Γ : Cx} {b9 N : Nat} {xs : Nat → Int32} {a b j z sz : Nat} {σ κ vi : Rw} {va : Nat → Rw} {M : Nat → Option va_E} {Q : Option Value → Wd → Prop} (hJ : Jn Γ a z sz σ κ vi va M) (hN : N < 2 ^ 30) (hj : j + 6 ≤ N) (kk : Nx Γ b9 N xs a b j Q) : OkS (scX Γ b9 N xs) Γ mL_law 100 (b + 1) 641 [some (.ref b9), some (.ref a), some (.ref (a + 92)), some (.int (nI j))] [] (M, sz) Q := by
  obtain ⟨hC, ⟨M0, hW⟩, hI, hc9, hk, hS, hT, hTr, hez, hzs⟩ := id hJ
  refine os_aload_n (pc := 641) dL_law_641 rfl ?_
  refine os_aload_n (pc := 642) dL_law_642 rfl ?_
  refine os_iload_n (pc := 643) dL_law_643 rfl ?_
  refine os_iconst (pc := 644) (v := 1) dL_law_644 (by decide) ?_
  refine os_iadd (pc := 645) dL_law_645 ?_
  refine os_sld (pc := 646) (j + 1) (by rw [fa_lit 1, nI_add]) (by omega) hN dL_law_646 ?_
  refine os_callVi1 (pc := 647) (d' := 78) dL_law_647 vl_L_62 hC.1 rfl rfl rfl (by decide) ?_
  refine x_text hC hI (by omega) (fun M1 hC1 hO1 => ?_)
  have hW1 := hW.mv (M' := M1) (fun q g1 g2 => hO1 q (by omega))
  obtain ⟨ri1, ra1, hR1, hv1, hu1⟩ := id hW1
  refine os_aload_n (pc := 650) dL_law_650 rfl ?_
  refine os_aload_n (pc := 651) dL_law_651 rfl ?_
  refine os_iload_n (pc := 652) dL_law_652 rfl ?_
  refine os_iconst (pc := 653) (v := 1) dL_law_653 (by decide) ?_
  refine os_iadd (pc := 654) dL_law_654 ?_
  refine os_sld (pc := 655) (j + 1) (by rw [fa_lit 1, nI_add]) (by omega) hN dL_law_655 ?_
  refine os_callVi1 (pc := 656) (d' := 76) dL_law_656 vl_L_66 hR1.o rfl rfl rfl (by decide) ?_
  refine r_text hW1 hI (fun M2 hW2 => ?_)
  refine os_icmp_eq (pc := 659) 1609 dL_law_659 (by decide) (fun _ => ?_) (fun h9 => absurd rfl h9)
  exact os_less (Nat.le_succ b) (kk _ _ _ _ _ _ _ (hJ.k3 (Nat.le_refl z) hzs hC1 hW2 (Inv_op_text hI  (xs (j + 1))) (cT_of (c9_text (xs (j + 1))) hc9)))
theorem w_law {Γ : Cx} {b9 N : Nat} {xs : Nat → Int32} {a b j z sz : Nat} {σ κ vi : Rw} {va : Nat → Rw} {M : Nat → Option va_E} {Q : Option Value → Wd → Prop} (hJ : Jn Γ a z sz σ κ vi va M) (hN : N < 2 ^ 30) (hj : j + 6 ≤ N) (kk : Nx Γ b9 N xs a b j Q) : OkS (scX Γ b9 N xs) Γ mL_law 100 (b + 1) 664 [some (.ref b9), some (.ref a), some (.ref (a + 92)), some (.int (nI j))] [] (M, sz) Q := by
  obtain ⟨hC, ⟨M0, hW⟩, hI, hc9, hk, hS, hT, hTr, hez, hzs⟩ := id hJ
  refine os_aload_n (pc := 664) dL_law_664 rfl ?_
  refine os_aload_n (pc := 665) dL_law_665 rfl ?_
  refine os_iload_n (pc := 666) dL_law_666 rfl ?_
  refine os_iconst (pc := 667) (v := 1) dL_law_667 (by decide) ?_
  refine os_iadd (pc := 668) dL_law_668 ?_
  refine os_sld (pc := 669) (j + 1) (by rw [fa_lit 1, nI_add]) (by omega) hN dL_law_669 ?_
  refine os_aload_n (pc := 670) dL_law_670 rfl ?_
  refine os_iload_n (pc := 671) dL_law_671 rfl ?_
  refine os_iconst (pc := 672) (v := 2) dL_law_672 (by decide) ?_
  refine os_iadd (pc := 673) dL_law_673 ?_
  refine os_sld (pc := 674) (j + 2) (by rw [fa_lit 2, nI_add]) (by omega) hN dL_law_674 ?_
  refine os_aload_n (pc := 675) dL_law_675 rfl ?_
  refine os_iload_n (pc := 676) dL_law_676 rfl ?_
  refine os_iconst (pc := 677) (v := 3) dL_law_677 (by decide) ?_
  refine os_iadd (pc := 678) dL_law_678 ?_
  refine os_sld (pc := 679) (j + 3) (by rw [fa_lit 3, nI_add]) (by omega) hN dL_law_679 ?_
  refine os_aload_n (pc := 680) dL_law_680 rfl ?_
  refine os_iload_n (pc := 681) dL_law_681 rfl ?_
  refine os_iconst (pc := 682) (v := 4) dL_law_682 (by decide) ?_
  refine os_iadd (pc := 683) dL_law_683 ?_
  refine os_sld (pc := 684) (j + 4) (by rw [fa_lit 4, nI_add]) (by omega) hN dL_law_684 ?_
  refine os_aload_n (pc := 685) dL_law_685 rfl ?_
  refine os_iload_n (pc := 686) dL_law_686 rfl ?_
  refine os_iconst (pc := 687) (v := 5) dL_law_687 (by decide) ?_
  refine os_iadd (pc := 688) dL_law_688 ?_
  refine os_sld (pc := 689) (j + 5) (by rw [fa_lit 5, nI_add]) (by omega) hN dL_law_689 ?_
  refine os_callVi5 (pc := 690) (d' := 2) dL_law_690 vl_L_67 hC.1 rfl rfl rfl (by decide) ?_
  refine x_law hC hI (by omega) (fun M1 hC1 hO1 => ?_)
  have hW1 := hW.mv (M' := M1) (fun q g1 g2 => hO1 q (by omega))
  obtain ⟨ri1, ra1, hR1, hv1, hu1⟩ := id hW1
  refine os_aload_n (pc := 693) dL_law_693 rfl ?_
  refine os_aload_n (pc := 694) dL_law_694 rfl ?_
  refine os_iload_n (pc := 695) dL_law_695 rfl ?_
  refine os_iconst (pc := 696) (v := 1) dL_law_696 (by decide) ?_
  refine os_iadd (pc := 697) dL_law_697 ?_
  refine os_sld (pc := 698) (j + 1) (by rw [fa_lit 1, nI_add]) (by omega) hN dL_law_698 ?_
  refine os_aload_n (pc := 699) dL_law_699 rfl ?_
  refine os_iload_n (pc := 700) dL_law_700 rfl ?_
  refine os_iconst (pc := 701) (v := 2) dL_law_701 (by decide) ?_
  refine os_iadd (pc := 702) dL_law_702 ?_
  refine os_sld (pc := 703) (j + 2) (by rw [fa_lit 2, nI_add]) (by omega) hN dL_law_703 ?_
  refine os_aload_n (pc := 704) dL_law_704 rfl ?_
  refine os_iload_n (pc := 705) dL_law_705 rfl ?_
  refine os_iconst (pc := 706) (v := 3) dL_law_706 (by decide) ?_
  refine os_iadd (pc := 707) dL_law_707 ?_
  refine os_sld (pc := 708) (j + 3) (by rw [fa_lit 3, nI_add]) (by omega) hN dL_law_708 ?_
  refine os_aload_n (pc := 709) dL_law_709 rfl ?_
  refine os_iload_n (pc := 710) dL_law_710 rfl ?_
  refine os_iconst (pc := 711) (v := 4) dL_law_711 (by decide) ?_
  refine os_iadd (pc := 712) dL_law_712 ?_
  refine os_sld (pc := 713) (j + 4) (by rw [fa_lit 4, nI_add]) (by omega) hN dL_law_713 ?_
  refine os_aload_n (pc := 714) dL_law_714 rfl ?_
  refine os_iload_n (pc := 715) dL_law_715 rfl ?_
  refine os_iconst (pc := 716) (v := 5) dL_law_716 (by decide) ?_
  refine os_iadd (pc := 717) dL_law_717 ?_
  refine os_sld (pc := 718) (j + 5) (by rw [fa_lit 5, nI_add]) (by omega) hN dL_law_718 ?_
  refine os_callVi5 (pc := 719) (d' := 3) dL_law_719 vl_L_71 hR1.o rfl rfl rfl (by decide) ?_
  refine r_law hW1 hI (fun M2 hW2 => ?_)
  refine os_icmp_eq (pc := 722) 1609 dL_law_722 (by decide) (fun _ => ?_) (fun h9 => absurd rfl h9)
  exact os_less (Nat.le_succ b) (kk _ _ _ _ _ _ _ (hJ.k3 (Nat.le_refl z) hzs hC1 hW2 hI hc9))
theorem w_cross {Γ : Cx} {b9 N : Nat} {xs : Nat → Int32} {a b j z sz : Nat} {σ κ vi : Rw} {va : Nat → Rw} {M : Nat → Option va_E} {Q : Option Value → Wd → Prop} (hJ : Jn Γ a z sz σ κ vi va M) (hN : N < 2 ^ 30) (hj : j + 6 ≤ N) (kk : Nx Γ b9 N xs a b j Q) : OkS (scX Γ b9 N xs) Γ mL_law 100 (b + 1) 727 [some (.ref b9), some (.ref a), some (.ref (a + 92)), some (.int (nI j))] [] (M, sz) Q := by
  obtain ⟨hC, ⟨M0, hW⟩, hI, hc9, hk, hS, hT, hTr, hez, hzs⟩ := id hJ
  refine os_aload_n (pc := 727) dL_law_727 rfl ?_
  refine os_aload_n (pc := 728) dL_law_728 rfl ?_
  refine os_iload_n (pc := 729) dL_law_729 rfl ?_
  refine os_iconst (pc := 730) (v := 1) dL_law_730 (by decide) ?_
  refine os_iadd (pc := 731) dL_law_731 ?_
  refine os_sld (pc := 732) (j + 1) (by rw [fa_lit 1, nI_add]) (by omega) hN dL_law_732 ?_
  refine os_aload_n (pc := 733) dL_law_733 rfl ?_
  refine os_iload_n (pc := 734) dL_law_734 rfl ?_
  refine os_iconst (pc := 735) (v := 2) dL_law_735 (by decide) ?_
  refine os_iadd (pc := 736) dL_law_736 ?_
  refine os_sld (pc := 737) (j + 2) (by rw [fa_lit 2, nI_add]) (by omega) hN dL_law_737 ?_
  refine os_callVi2 (pc := 738) (d' := 5) dL_law_738 vl_L_72 hC.1 rfl rfl rfl (by decide) ?_
  refine x_cross hC hI (by omega) (fun M1 hC1 hO1 => ?_)
  have hW1 := hW.mv (M' := M1) (fun q g1 g2 => hO1 q (by omega))
  obtain ⟨ri1, ra1, hR1, hv1, hu1⟩ := id hW1
  refine os_aload_n (pc := 741) dL_law_741 rfl ?_
  refine os_aload_n (pc := 742) dL_law_742 rfl ?_
  refine os_iload_n (pc := 743) dL_law_743 rfl ?_
  refine os_iconst (pc := 744) (v := 1) dL_law_744 (by decide) ?_
  refine os_iadd (pc := 745) dL_law_745 ?_
  refine os_sld (pc := 746) (j + 1) (by rw [fa_lit 1, nI_add]) (by omega) hN dL_law_746 ?_
  refine os_aload_n (pc := 747) dL_law_747 rfl ?_
  refine os_iload_n (pc := 748) dL_law_748 rfl ?_
  refine os_iconst (pc := 749) (v := 2) dL_law_749 (by decide) ?_
  refine os_iadd (pc := 750) dL_law_750 ?_
  refine os_sld (pc := 751) (j + 2) (by rw [fa_lit 2, nI_add]) (by omega) hN dL_law_751 ?_
  refine os_callVi2 (pc := 752) (d' := 8) dL_law_752 vl_L_75 hR1.o rfl rfl rfl (by decide) ?_
  refine r_cross hW1 hI (fun M2 hW2 => ?_)
  refine os_icmp_eq (pc := 755) 1609 dL_law_755 (by decide) (fun _ => ?_) (fun h9 => absurd rfl h9)
  exact os_less (Nat.le_succ b) (kk _ _ _ _ _ _ _ (hJ.k3 (Nat.le_refl z) hzs hC1 hW2 hI hc9))
theorem w_lines {Γ : Cx} {b9 N : Nat} {xs : Nat → Int32} {a b j z sz : Nat} {σ κ vi : Rw} {va : Nat → Rw} {M : Nat → Option va_E} {Q : Option Value → Wd → Prop} (hJ : Jn Γ a z sz σ κ vi va M) (hN : N < 2 ^ 30) (hj : j + 6 ≤ N) (kk : Nx Γ b9 N xs a b j Q) : OkS (scX Γ b9 N xs) Γ mL_law 100 (b + 1) 760 [some (.ref b9), some (.ref a), some (.ref (a + 92)), some (.int (nI j))] [] (M, sz) Q := by
  obtain ⟨hC, ⟨M0, hW⟩, hI, hc9, hk, hS, hT, hTr, hez, hzs⟩ := id hJ
  refine os_aload_n (pc := 760) dL_law_760 rfl ?_
  refine os_aload_n (pc := 761) dL_law_761 rfl ?_
  refine os_iload_n (pc := 762) dL_law_762 rfl ?_
  refine os_iconst (pc := 763) (v := 1) dL_law_763 (by decide) ?_
  refine os_iadd (pc := 764) dL_law_764 ?_
  refine os_sld (pc := 765) (j + 1) (by rw [fa_lit 1, nI_add]) (by omega) hN dL_law_765 ?_
  refine os_callVi1 (pc := 766) (d' := 5) dL_law_766 vl_L_76 hC.1 rfl rfl rfl (by decide) ?_
  refine x_lines hC hI (by omega) (fun M1 hC1 hO1 => ?_)
  have hW1 := hW.mv (M' := M1) (fun q g1 g2 => hO1 q (by omega))
  obtain ⟨ri1, ra1, hR1, hv1, hu1⟩ := id hW1
  refine os_aload_n (pc := 769) dL_law_769 rfl ?_
  refine os_aload_n (pc := 770) dL_law_770 rfl ?_
  refine os_iload_n (pc := 771) dL_law_771 rfl ?_
  refine os_iconst (pc := 772) (v := 1) dL_law_772 (by decide) ?_
  refine os_iadd (pc := 773) dL_law_773 ?_
  refine os_sld (pc := 774) (j + 1) (by rw [fa_lit 1, nI_add]) (by omega) hN dL_law_774 ?_
  refine os_callVi1 (pc := 775) (d' := 9) dL_law_775 vl_L_79 hR1.o rfl rfl rfl (by decide) ?_
  refine r_lines hW1 hI (fun M2 hW2 => ?_)
  refine os_icmp_eq (pc := 778) 1609 dL_law_778 (by decide) (fun _ => ?_) (fun h9 => absurd rfl h9)
  exact os_less (Nat.le_succ b) (kk _ _ _ _ _ _ _ (hJ.k3 (Nat.le_refl z) hzs hC1 hW2 hI hc9))
theorem w_letter {Γ : Cx} {b9 N : Nat} {xs : Nat → Int32} {a b j z sz : Nat} {σ κ vi : Rw} {va : Nat → Rw} {M : Nat → Option va_E} {Q : Option Value → Wd → Prop} (hJ : Jn Γ a z sz σ κ vi va M) (hN : N < 2 ^ 30) (hj : j + 6 ≤ N) (kk : Nx Γ b9 N xs a b j Q) : OkS (scX Γ b9 N xs) Γ mL_law 100 (b + 1) 783 [some (.ref b9), some (.ref a), some (.ref (a + 92)), some (.int (nI j))] [] (M, sz) Q := by
  obtain ⟨hC, ⟨M0, hW⟩, hI, hc9, hk, hS, hT, hTr, hez, hzs⟩ := id hJ
  refine os_aload_n (pc := 783) dL_law_783 rfl ?_
  refine os_aload_n (pc := 784) dL_law_784 rfl ?_
  refine os_iload_n (pc := 785) dL_law_785 rfl ?_
  refine os_iconst (pc := 786) (v := 1) dL_law_786 (by decide) ?_
  refine os_iadd (pc := 787) dL_law_787 ?_
  refine os_sld (pc := 788) (j + 1) (by rw [fa_lit 1, nI_add]) (by omega) hN dL_law_788 ?_
  refine os_aload_n (pc := 789) dL_law_789 rfl ?_
  refine os_iload_n (pc := 790) dL_law_790 rfl ?_
  refine os_iconst (pc := 791) (v := 2) dL_law_791 (by decide) ?_
  refine os_iadd (pc := 792) dL_law_792 ?_
  refine os_sld (pc := 793) (j + 2) (by rw [fa_lit 2, nI_add]) (by omega) hN dL_law_793 ?_
  refine os_aload_n (pc := 794) dL_law_794 rfl ?_
  refine os_iload_n (pc := 795) dL_law_795 rfl ?_
  refine os_iconst (pc := 796) (v := 3) dL_law_796 (by decide) ?_
  refine os_iadd (pc := 797) dL_law_797 ?_
  refine os_sld (pc := 798) (j + 3) (by rw [fa_lit 3, nI_add]) (by omega) hN dL_law_798 ?_
  refine os_aload_n (pc := 799) dL_law_799 rfl ?_
  refine os_iload_n (pc := 800) dL_law_800 rfl ?_
  refine os_iconst (pc := 801) (v := 4) dL_law_801 (by decide) ?_
  refine os_iadd (pc := 802) dL_law_802 ?_
  refine os_sld (pc := 803) (j + 4) (by rw [fa_lit 4, nI_add]) (by omega) hN dL_law_803 ?_
  refine os_callVi4 (pc := 804) (d' := 3) dL_law_804 vl_L_80 hC.1 rfl rfl rfl (by decide) ?_
  refine x_letter hC hI (by omega) (fun M1 hC1 hO1 => ?_)
  have hW1 := hW.mv (M' := M1) (fun q g1 g2 => hO1 q (by omega))
  obtain ⟨ri1, ra1, hR1, hv1, hu1⟩ := id hW1
  refine os_aload_n (pc := 807) dL_law_807 rfl ?_
  refine os_aload_n (pc := 808) dL_law_808 rfl ?_
  refine os_iload_n (pc := 809) dL_law_809 rfl ?_
  refine os_iconst (pc := 810) (v := 1) dL_law_810 (by decide) ?_
  refine os_iadd (pc := 811) dL_law_811 ?_
  refine os_sld (pc := 812) (j + 1) (by rw [fa_lit 1, nI_add]) (by omega) hN dL_law_812 ?_
  refine os_aload_n (pc := 813) dL_law_813 rfl ?_
  refine os_iload_n (pc := 814) dL_law_814 rfl ?_
  refine os_iconst (pc := 815) (v := 2) dL_law_815 (by decide) ?_
  refine os_iadd (pc := 816) dL_law_816 ?_
  refine os_sld (pc := 817) (j + 2) (by rw [fa_lit 2, nI_add]) (by omega) hN dL_law_817 ?_
  refine os_aload_n (pc := 818) dL_law_818 rfl ?_
  refine os_iload_n (pc := 819) dL_law_819 rfl ?_
  refine os_iconst (pc := 820) (v := 3) dL_law_820 (by decide) ?_
  refine os_iadd (pc := 821) dL_law_821 ?_
  refine os_sld (pc := 822) (j + 3) (by rw [fa_lit 3, nI_add]) (by omega) hN dL_law_822 ?_
  refine os_aload_n (pc := 823) dL_law_823 rfl ?_
  refine os_iload_n (pc := 824) dL_law_824 rfl ?_
  refine os_iconst (pc := 825) (v := 4) dL_law_825 (by decide) ?_
  refine os_iadd (pc := 826) dL_law_826 ?_
  refine os_sld (pc := 827) (j + 4) (by rw [fa_lit 4, nI_add]) (by omega) hN dL_law_827 ?_
  refine os_callVi4 (pc := 828) (d' := 2) dL_law_828 vl_L_84 hR1.o rfl rfl rfl (by decide) ?_
  refine r_letter hW1 hI (fun M2 hW2 => ?_)
  refine os_icmp_eq (pc := 831) 1609 dL_law_831 (by decide) (fun _ => ?_) (fun h9 => absurd rfl h9)
  exact os_less (Nat.le_succ b) (kk _ _ _ _ _ _ _ (hJ.k3 (Nat.le_refl z) hzs hC1 hW2 (Inv_op_letter hI  (xs (j + 1)) (xs (j + 2)) (xs (j + 3)) (xs (j + 4))) (cT_of (c9_letter (xs (j + 1)) (xs (j + 2)) (xs (j + 3)) (xs (j + 4))) hc9)))
theorem w_ofLetter {Γ : Cx} {b9 N : Nat} {xs : Nat → Int32} {a b j z sz : Nat} {σ κ vi : Rw} {va : Nat → Rw} {M : Nat → Option va_E} {Q : Option Value → Wd → Prop} (hJ : Jn Γ a z sz σ κ vi va M) (hN : N < 2 ^ 30) (hj : j + 6 ≤ N) (kk : Nx Γ b9 N xs a b j Q) : OkS (scX Γ b9 N xs) Γ mL_law 100 (b + 1) 836 [some (.ref b9), some (.ref a), some (.ref (a + 92)), some (.int (nI j))] [] (M, sz) Q := by
  obtain ⟨hC, ⟨M0, hW⟩, hI, hc9, hk, hS, hT, hTr, hez, hzs⟩ := id hJ
  refine os_aload_n (pc := 836) dL_law_836 rfl ?_
  refine os_aload_n (pc := 837) dL_law_837 rfl ?_
  refine os_iload_n (pc := 838) dL_law_838 rfl ?_
  refine os_iconst (pc := 839) (v := 1) dL_law_839 (by decide) ?_
  refine os_iadd (pc := 840) dL_law_840 ?_
  refine os_sld (pc := 841) (j + 1) (by rw [fa_lit 1, nI_add]) (by omega) hN dL_law_841 ?_
  refine os_aload_n (pc := 842) dL_law_842 rfl ?_
  refine os_iload_n (pc := 843) dL_law_843 rfl ?_
  refine os_iconst (pc := 844) (v := 2) dL_law_844 (by decide) ?_
  refine os_iadd (pc := 845) dL_law_845 ?_
  refine os_sld (pc := 846) (j + 2) (by rw [fa_lit 2, nI_add]) (by omega) hN dL_law_846 ?_
  refine os_callVi2 (pc := 847) (d' := 2) dL_law_847 vl_L_85 hC.1 rfl rfl rfl (by decide) ?_
  refine x_ofLetter hC hI (by omega) (fun M1 hC1 hO1 => ?_)
  have hW1 := hW.mv (M' := M1) (fun q g1 g2 => hO1 q (by omega))
  obtain ⟨ri1, ra1, hR1, hv1, hu1⟩ := id hW1
  refine os_aload_n (pc := 850) dL_law_850 rfl ?_
  refine os_aload_n (pc := 851) dL_law_851 rfl ?_
  refine os_iload_n (pc := 852) dL_law_852 rfl ?_
  refine os_iconst (pc := 853) (v := 1) dL_law_853 (by decide) ?_
  refine os_iadd (pc := 854) dL_law_854 ?_
  refine os_sld (pc := 855) (j + 1) (by rw [fa_lit 1, nI_add]) (by omega) hN dL_law_855 ?_
  refine os_aload_n (pc := 856) dL_law_856 rfl ?_
  refine os_iload_n (pc := 857) dL_law_857 rfl ?_
  refine os_iconst (pc := 858) (v := 2) dL_law_858 (by decide) ?_
  refine os_iadd (pc := 859) dL_law_859 ?_
  refine os_sld (pc := 860) (j + 2) (by rw [fa_lit 2, nI_add]) (by omega) hN dL_law_860 ?_
  refine os_callVi2 (pc := 861) (d' := 2) dL_law_861 vl_L_88 hR1.o rfl rfl rfl (by decide) ?_
  refine r_ofLetter hW1 hI (fun M2 hW2 => ?_)
  refine os_icmp_eq (pc := 864) 1609 dL_law_864 (by decide) (fun _ => ?_) (fun h9 => absurd rfl h9)
  exact os_less (Nat.le_succ b) (kk _ _ _ _ _ _ _ (hJ.k3 (Nat.le_refl z) hzs hC1 hW2 hI hc9))
theorem w_hours {Γ : Cx} {b9 N : Nat} {xs : Nat → Int32} {a b j z sz : Nat} {σ κ vi : Rw} {va : Nat → Rw} {M : Nat → Option va_E} {Q : Option Value → Wd → Prop} (hJ : Jn Γ a z sz σ κ vi va M) (hN : N < 2 ^ 30) (hj : j + 6 ≤ N) (kk : Nx Γ b9 N xs a b j Q) : OkS (scX Γ b9 N xs) Γ mL_law 100 (b + 1) 869 [some (.ref b9), some (.ref a), some (.ref (a + 92)), some (.int (nI j))] [] (M, sz) Q := by
  obtain ⟨hC, ⟨M0, hW⟩, hI, hc9, hk, hS, hT, hTr, hez, hzs⟩ := id hJ
  refine os_aload_n (pc := 869) dL_law_869 rfl ?_
  refine os_aload_n (pc := 870) dL_law_870 rfl ?_
  refine os_iload_n (pc := 871) dL_law_871 rfl ?_
  refine os_iconst (pc := 872) (v := 1) dL_law_872 (by decide) ?_
  refine os_iadd (pc := 873) dL_law_873 ?_
  refine os_sld (pc := 874) (j + 1) (by rw [fa_lit 1, nI_add]) (by omega) hN dL_law_874 ?_
  refine os_callVi1 (pc := 875) (d' := 7) dL_law_875 vl_L_89 hC.1 rfl rfl rfl (by decide) ?_
  refine x_hours hC hI (by omega) hc9 (fun M1 hC1 hO1 => ?_)
  have hW1 := hW.mv (M' := M1) (fun q g1 g2 => hO1 q (by omega))
  obtain ⟨ri1, ra1, hR1, hv1, hu1⟩ := id hW1
  refine os_aload_n (pc := 878) dL_law_878 rfl ?_
  refine os_aload_n (pc := 879) dL_law_879 rfl ?_
  refine os_iload_n (pc := 880) dL_law_880 rfl ?_
  refine os_iconst (pc := 881) (v := 1) dL_law_881 (by decide) ?_
  refine os_iadd (pc := 882) dL_law_882 ?_
  refine os_sld (pc := 883) (j + 1) (by rw [fa_lit 1, nI_add]) (by omega) hN dL_law_883 ?_
  refine os_callVi1 (pc := 884) (d' := 11) dL_law_884 vl_L_92 hR1.o rfl rfl rfl (by decide) ?_
  refine r_hours hW1 hI hc9 (fun M2 hW2 => ?_)
  refine os_icmp_eq (pc := 887) 1609 dL_law_887 (by decide) (fun _ => ?_) (fun h9 => absurd rfl h9)
  exact os_less (Nat.le_succ b) (kk _ _ _ _ _ _ _ (hJ.k3 (Nat.le_refl z) hzs hC1 hW2 (Inv_op_hours hI hc9  (xs (j + 1))) (c9_hours hI hc9 (xs (j + 1)))))
theorem w_loose {Γ : Cx} {b9 N : Nat} {xs : Nat → Int32} {a b j z sz : Nat} {σ κ vi : Rw} {va : Nat → Rw} {M : Nat → Option va_E} {Q : Option Value → Wd → Prop} (hJ : Jn Γ a z sz σ κ vi va M) (hN : N < 2 ^ 30) (hj : j + 6 ≤ N) (kk : Nx Γ b9 N xs a b j Q) : OkS (scX Γ b9 N xs) Γ mL_law 100 (b + 1) 892 [some (.ref b9), some (.ref a), some (.ref (a + 92)), some (.int (nI j))] [] (M, sz) Q := by
  obtain ⟨hC, ⟨M0, hW⟩, hI, hc9, hk, hS, hT, hTr, hez, hzs⟩ := id hJ
  refine os_aload_n (pc := 892) dL_law_892 rfl ?_
  refine os_aload_n (pc := 893) dL_law_893 rfl ?_
  refine os_iload_n (pc := 894) dL_law_894 rfl ?_
  refine os_iconst (pc := 895) (v := 1) dL_law_895 (by decide) ?_
  refine os_iadd (pc := 896) dL_law_896 ?_
  refine os_sld (pc := 897) (j + 1) (by rw [fa_lit 1, nI_add]) (by omega) hN dL_law_897 ?_
  refine os_aload_n (pc := 898) dL_law_898 rfl ?_
  refine os_iload_n (pc := 899) dL_law_899 rfl ?_
  refine os_iconst (pc := 900) (v := 2) dL_law_900 (by decide) ?_
  refine os_iadd (pc := 901) dL_law_901 ?_
  refine os_sld (pc := 902) (j + 2) (by rw [fa_lit 2, nI_add]) (by omega) hN dL_law_902 ?_
  refine os_callVi2 (pc := 903) (d' := 7) dL_law_903 vl_L_93 hC.1 rfl rfl rfl (by decide) ?_
  refine x_loose hC hI (by omega) hc9 (fun M1 hC1 hO1 => ?_)
  have hW1 := hW.mv (M' := M1) (fun q g1 g2 => hO1 q (by omega))
  obtain ⟨ri1, ra1, hR1, hv1, hu1⟩ := id hW1
  refine os_aload_n (pc := 906) dL_law_906 rfl ?_
  refine os_aload_n (pc := 907) dL_law_907 rfl ?_
  refine os_iload_n (pc := 908) dL_law_908 rfl ?_
  refine os_iconst (pc := 909) (v := 1) dL_law_909 (by decide) ?_
  refine os_iadd (pc := 910) dL_law_910 ?_
  refine os_sld (pc := 911) (j + 1) (by rw [fa_lit 1, nI_add]) (by omega) hN dL_law_911 ?_
  refine os_aload_n (pc := 912) dL_law_912 rfl ?_
  refine os_iload_n (pc := 913) dL_law_913 rfl ?_
  refine os_iconst (pc := 914) (v := 2) dL_law_914 (by decide) ?_
  refine os_iadd (pc := 915) dL_law_915 ?_
  refine os_sld (pc := 916) (j + 2) (by rw [fa_lit 2, nI_add]) (by omega) hN dL_law_916 ?_
  refine os_callVi2 (pc := 917) (d' := 10) dL_law_917 vl_L_96 hR1.o rfl rfl rfl (by decide) ?_
  refine r_loose hW1 hI hc9 (fun M2 hW2 => ?_)
  refine os_icmp_eq (pc := 920) 1609 dL_law_920 (by decide) (fun _ => ?_) (fun h9 => absurd rfl h9)
  exact os_less (Nat.le_succ b) (kk _ _ _ _ _ _ _ (hJ.k3 (Nat.le_refl z) hzs hC1 hW2 (Inv_op_loose hI hc9  (xs (j + 1)) (xs (j + 2))) (c9_loose hI hc9 (xs (j + 1)) (xs (j + 2)))))
theorem w_then {Γ : Cx} {b9 N : Nat} {xs : Nat → Int32} {a b j z sz : Nat} {σ κ vi : Rw} {va : Nat → Rw} {M : Nat → Option va_E} {Q : Option Value → Wd → Prop} (hJ : Jn Γ a z sz σ κ vi va M) (hN : N < 2 ^ 30) (hj : j + 6 ≤ N) (kk : Nx Γ b9 N xs a b j Q) : OkS (scX Γ b9 N xs) Γ mL_law 100 (b + 1) 925 [some (.ref b9), some (.ref a), some (.ref (a + 92)), some (.int (nI j))] [] (M, sz) Q := by
  obtain ⟨hC, ⟨M0, hW⟩, hI, hc9, hk, hS, hT, hTr, hez, hzs⟩ := id hJ
  refine os_aload_n (pc := 925) dL_law_925 rfl ?_
  refine os_aload_n (pc := 926) dL_law_926 rfl ?_
  refine os_iload_n (pc := 927) dL_law_927 rfl ?_
  refine os_iconst (pc := 928) (v := 1) dL_law_928 (by decide) ?_
  refine os_iadd (pc := 929) dL_law_929 ?_
  refine os_sld (pc := 930) (j + 1) (by rw [fa_lit 1, nI_add]) (by omega) hN dL_law_930 ?_
  refine os_aload_n (pc := 931) dL_law_931 rfl ?_
  refine os_iload_n (pc := 932) dL_law_932 rfl ?_
  refine os_iconst (pc := 933) (v := 2) dL_law_933 (by decide) ?_
  refine os_iadd (pc := 934) dL_law_934 ?_
  refine os_sld (pc := 935) (j + 2) (by rw [fa_lit 2, nI_add]) (by omega) hN dL_law_935 ?_
  refine os_callVi2 (pc := 936) (d' := 7) dL_law_936 vl_L_97 hC.1 rfl rfl rfl (by decide) ?_
  refine x_then hC hI (by omega) hc9 (fun M1 hC1 hO1 => ?_)
  have hW1 := hW.mv (M' := M1) (fun q g1 g2 => hO1 q (by omega))
  obtain ⟨ri1, ra1, hR1, hv1, hu1⟩ := id hW1
  refine os_aload_n (pc := 939) dL_law_939 rfl ?_
  refine os_aload_n (pc := 940) dL_law_940 rfl ?_
  refine os_iload_n (pc := 941) dL_law_941 rfl ?_
  refine os_iconst (pc := 942) (v := 1) dL_law_942 (by decide) ?_
  refine os_iadd (pc := 943) dL_law_943 ?_
  refine os_sld (pc := 944) (j + 1) (by rw [fa_lit 1, nI_add]) (by omega) hN dL_law_944 ?_
  refine os_aload_n (pc := 945) dL_law_945 rfl ?_
  refine os_iload_n (pc := 946) dL_law_946 rfl ?_
  refine os_iconst (pc := 947) (v := 2) dL_law_947 (by decide) ?_
  refine os_iadd (pc := 948) dL_law_948 ?_
  refine os_sld (pc := 949) (j + 2) (by rw [fa_lit 2, nI_add]) (by omega) hN dL_law_949 ?_
  refine os_callVi2 (pc := 950) (d' := 11) dL_law_950 vl_L_100 hR1.o rfl rfl rfl (by decide) ?_
  refine r_then hW1 hI hc9 (fun M2 hW2 => ?_)
  refine os_icmp_eq (pc := 953) 1609 dL_law_953 (by decide) (fun _ => ?_) (fun h9 => absurd rfl h9)
  exact os_less (Nat.le_succ b) (kk _ _ _ _ _ _ _ (hJ.k3 (Nat.le_refl z) hzs hC1 hW2 hI hc9))
theorem w_where {Γ : Cx} {b9 N : Nat} {xs : Nat → Int32} {a b j z sz : Nat} {σ κ vi : Rw} {va : Nat → Rw} {M : Nat → Option va_E} {Q : Option Value → Wd → Prop} (hJ : Jn Γ a z sz σ κ vi va M) (hN : N < 2 ^ 30) (hj : j + 6 ≤ N) (kk : Nx Γ b9 N xs a b j Q) : OkS (scX Γ b9 N xs) Γ mL_law 100 (b + 1) 958 [some (.ref b9), some (.ref a), some (.ref (a + 92)), some (.int (nI j))] [] (M, sz) Q := by
  obtain ⟨hC, ⟨M0, hW⟩, hI, hc9, hk, hS, hT, hTr, hez, hzs⟩ := id hJ
  refine os_aload_n (pc := 958) dL_law_958 rfl ?_
  refine os_aload_n (pc := 959) dL_law_959 rfl ?_
  refine os_iload_n (pc := 960) dL_law_960 rfl ?_
  refine os_iconst (pc := 961) (v := 1) dL_law_961 (by decide) ?_
  refine os_iadd (pc := 962) dL_law_962 ?_
  refine os_sld (pc := 963) (j + 1) (by rw [fa_lit 1, nI_add]) (by omega) hN dL_law_963 ?_
  refine os_aload_n (pc := 964) dL_law_964 rfl ?_
  refine os_iload_n (pc := 965) dL_law_965 rfl ?_
  refine os_iconst (pc := 966) (v := 2) dL_law_966 (by decide) ?_
  refine os_iadd (pc := 967) dL_law_967 ?_
  refine os_sld (pc := 968) (j + 2) (by rw [fa_lit 2, nI_add]) (by omega) hN dL_law_968 ?_
  refine os_aload_n (pc := 969) dL_law_969 rfl ?_
  refine os_iload_n (pc := 970) dL_law_970 rfl ?_
  refine os_iconst (pc := 971) (v := 3) dL_law_971 (by decide) ?_
  refine os_iadd (pc := 972) dL_law_972 ?_
  refine os_sld (pc := 973) (j + 3) (by rw [fa_lit 3, nI_add]) (by omega) hN dL_law_973 ?_
  refine os_callVi3 (pc := 974) (d' := 7) dL_law_974 vl_L_101 hC.1 rfl rfl rfl (by decide) ?_
  refine x_where hC hI (by omega) hc9 (fun M1 hC1 hO1 => ?_)
  have hW1 := hW.mv (M' := M1) (fun q g1 g2 => hO1 q (by omega))
  obtain ⟨ri1, ra1, hR1, hv1, hu1⟩ := id hW1
  refine os_aload_n (pc := 977) dL_law_977 rfl ?_
  refine os_aload_n (pc := 978) dL_law_978 rfl ?_
  refine os_iload_n (pc := 979) dL_law_979 rfl ?_
  refine os_iconst (pc := 980) (v := 1) dL_law_980 (by decide) ?_
  refine os_iadd (pc := 981) dL_law_981 ?_
  refine os_sld (pc := 982) (j + 1) (by rw [fa_lit 1, nI_add]) (by omega) hN dL_law_982 ?_
  refine os_aload_n (pc := 983) dL_law_983 rfl ?_
  refine os_iload_n (pc := 984) dL_law_984 rfl ?_
  refine os_iconst (pc := 985) (v := 2) dL_law_985 (by decide) ?_
  refine os_iadd (pc := 986) dL_law_986 ?_
  refine os_sld (pc := 987) (j + 2) (by rw [fa_lit 2, nI_add]) (by omega) hN dL_law_987 ?_
  refine os_aload_n (pc := 988) dL_law_988 rfl ?_
  refine os_iload_n (pc := 989) dL_law_989 rfl ?_
  refine os_iconst (pc := 990) (v := 3) dL_law_990 (by decide) ?_
  refine os_iadd (pc := 991) dL_law_991 ?_
  refine os_sld (pc := 992) (j + 3) (by rw [fa_lit 3, nI_add]) (by omega) hN dL_law_992 ?_
  refine os_callVi3 (pc := 993) (d' := 11) dL_law_993 vl_L_104 hR1.o rfl rfl rfl (by decide) ?_
  refine r_where hW1 hI hc9 (fun M2 hW2 => ?_)
  refine os_icmp_eq (pc := 996) 1609 dL_law_996 (by decide) (fun _ => ?_) (fun h9 => absurd rfl h9)
  exact os_less (Nat.le_succ b) (kk _ _ _ _ _ _ _ (hJ.k3 (Nat.le_refl z) hzs hC1 hW2 hI hc9))
theorem w_soonest {Γ : Cx} {b9 N : Nat} {xs : Nat → Int32} {a b j z sz : Nat} {σ κ vi : Rw} {va : Nat → Rw} {M : Nat → Option va_E} {Q : Option Value → Wd → Prop} (hJ : Jn Γ a z sz σ κ vi va M) (hN : N < 2 ^ 30) (hj : j + 6 ≤ N) (kk : Nx Γ b9 N xs a b j Q) : OkS (scX Γ b9 N xs) Γ mL_law 100 (b + 1) 1001 [some (.ref b9), some (.ref a), some (.ref (a + 92)), some (.int (nI j))] [] (M, sz) Q := by
  obtain ⟨hC, ⟨M0, hW⟩, hI, hc9, hk, hS, hT, hTr, hez, hzs⟩ := id hJ
  refine os_aload_n (pc := 1001) dL_law_1001 rfl ?_
  refine os_aload_n (pc := 1002) dL_law_1002 rfl ?_
  refine os_iload_n (pc := 1003) dL_law_1003 rfl ?_
  refine os_iconst (pc := 1004) (v := 1) dL_law_1004 (by decide) ?_
  refine os_iadd (pc := 1005) dL_law_1005 ?_
  refine os_sld (pc := 1006) (j + 1) (by rw [fa_lit 1, nI_add]) (by omega) hN dL_law_1006 ?_
  refine os_aload_n (pc := 1007) dL_law_1007 rfl ?_
  refine os_iload_n (pc := 1008) dL_law_1008 rfl ?_
  refine os_iconst (pc := 1009) (v := 2) dL_law_1009 (by decide) ?_
  refine os_iadd (pc := 1010) dL_law_1010 ?_
  refine os_sld (pc := 1011) (j + 2) (by rw [fa_lit 2, nI_add]) (by omega) hN dL_law_1011 ?_
  refine os_aload_n (pc := 1012) dL_law_1012 rfl ?_
  refine os_iload_n (pc := 1013) dL_law_1013 rfl ?_
  refine os_iconst (pc := 1014) (v := 3) dL_law_1014 (by decide) ?_
  refine os_iadd (pc := 1015) dL_law_1015 ?_
  refine os_sld (pc := 1016) (j + 3) (by rw [fa_lit 3, nI_add]) (by omega) hN dL_law_1016 ?_
  refine os_callVi3 (pc := 1017) (d' := 6) dL_law_1017 vl_L_105 hC.1 rfl rfl rfl (by decide) ?_
  refine x_soonest hC hI (by omega) hc9 (fun M1 hC1 hO1 => ?_)
  have hW1 := hW.mv (M' := M1) (fun q g1 g2 => hO1 q (by omega))
  obtain ⟨ri1, ra1, hR1, hv1, hu1⟩ := id hW1
  refine os_aload_n (pc := 1020) dL_law_1020 rfl ?_
  refine os_aload_n (pc := 1021) dL_law_1021 rfl ?_
  refine os_iload_n (pc := 1022) dL_law_1022 rfl ?_
  refine os_iconst (pc := 1023) (v := 1) dL_law_1023 (by decide) ?_
  refine os_iadd (pc := 1024) dL_law_1024 ?_
  refine os_sld (pc := 1025) (j + 1) (by rw [fa_lit 1, nI_add]) (by omega) hN dL_law_1025 ?_
  refine os_aload_n (pc := 1026) dL_law_1026 rfl ?_
  refine os_iload_n (pc := 1027) dL_law_1027 rfl ?_
  refine os_iconst (pc := 1028) (v := 2) dL_law_1028 (by decide) ?_
  refine os_iadd (pc := 1029) dL_law_1029 ?_
  refine os_sld (pc := 1030) (j + 2) (by rw [fa_lit 2, nI_add]) (by omega) hN dL_law_1030 ?_
  refine os_aload_n (pc := 1031) dL_law_1031 rfl ?_
  refine os_iload_n (pc := 1032) dL_law_1032 rfl ?_
  refine os_iconst (pc := 1033) (v := 3) dL_law_1033 (by decide) ?_
  refine os_iadd (pc := 1034) dL_law_1034 ?_
  refine os_sld (pc := 1035) (j + 3) (by rw [fa_lit 3, nI_add]) (by omega) hN dL_law_1035 ?_
  refine os_callVi3 (pc := 1036) (d' := 8) dL_law_1036 vl_L_108 hR1.o rfl rfl rfl (by decide) ?_
  refine r_soonest hW1 hI hc9 (fun M2 hW2 => ?_)
  refine os_icmp_eq (pc := 1039) 1609 dL_law_1039 (by decide) (fun _ => ?_) (fun h9 => absurd rfl h9)
  exact os_less (Nat.le_succ b) (kk _ _ _ _ _ _ _ (hJ.k3 (Nat.le_refl z) hzs hC1 hW2 hI hc9))
theorem w_sure {Γ : Cx} {b9 N : Nat} {xs : Nat → Int32} {a b j z sz : Nat} {σ κ vi : Rw} {va : Nat → Rw} {M : Nat → Option va_E} {Q : Option Value → Wd → Prop} (hJ : Jn Γ a z sz σ κ vi va M) (hN : N < 2 ^ 30) (hj : j + 6 ≤ N) (kk : Nx Γ b9 N xs a b j Q) : OkS (scX Γ b9 N xs) Γ mL_law 100 (b + 1) 1044 [some (.ref b9), some (.ref a), some (.ref (a + 92)), some (.int (nI j))] [] (M, sz) Q := by
  obtain ⟨hC, ⟨M0, hW⟩, hI, hc9, hk, hS, hT, hTr, hez, hzs⟩ := id hJ
  refine os_aload_n (pc := 1044) dL_law_1044 rfl ?_
  refine os_aload_n (pc := 1045) dL_law_1045 rfl ?_
  refine os_iload_n (pc := 1046) dL_law_1046 rfl ?_
  refine os_iconst (pc := 1047) (v := 1) dL_law_1047 (by decide) ?_
  refine os_iadd (pc := 1048) dL_law_1048 ?_
  refine os_sld (pc := 1049) (j + 1) (by rw [fa_lit 1, nI_add]) (by omega) hN dL_law_1049 ?_
  refine os_aload_n (pc := 1050) dL_law_1050 rfl ?_
  refine os_iload_n (pc := 1051) dL_law_1051 rfl ?_
  refine os_iconst (pc := 1052) (v := 2) dL_law_1052 (by decide) ?_
  refine os_iadd (pc := 1053) dL_law_1053 ?_
  refine os_sld (pc := 1054) (j + 2) (by rw [fa_lit 2, nI_add]) (by omega) hN dL_law_1054 ?_
  refine os_aload_n (pc := 1055) dL_law_1055 rfl ?_
  refine os_iload_n (pc := 1056) dL_law_1056 rfl ?_
  refine os_iconst (pc := 1057) (v := 3) dL_law_1057 (by decide) ?_
  refine os_iadd (pc := 1058) dL_law_1058 ?_
  refine os_sld (pc := 1059) (j + 3) (by rw [fa_lit 3, nI_add]) (by omega) hN dL_law_1059 ?_
  refine os_aload_n (pc := 1060) dL_law_1060 rfl ?_
  refine os_iload_n (pc := 1061) dL_law_1061 rfl ?_
  refine os_iconst (pc := 1062) (v := 4) dL_law_1062 (by decide) ?_
  refine os_iadd (pc := 1063) dL_law_1063 ?_
  refine os_sld (pc := 1064) (j + 4) (by rw [fa_lit 4, nI_add]) (by omega) hN dL_law_1064 ?_
  refine os_callVl4 (pc := 1065) (d' := 13) dL_law_1065 vl_L_109 hC.1 rfl rfl rfl (by decide) ?_
  refine x_sure hC hI (by omega) hc9 (fun M1 hC1 hO1 => ?_)
  have hW1 := hW.mv (M' := M1) (fun q g1 g2 => hO1 q (by omega))
  obtain ⟨ri1, ra1, hR1, hv1, hu1⟩ := id hW1
  refine os_aload_n (pc := 1068) dL_law_1068 rfl ?_
  refine os_aload_n (pc := 1069) dL_law_1069 rfl ?_
  refine os_iload_n (pc := 1070) dL_law_1070 rfl ?_
  refine os_iconst (pc := 1071) (v := 1) dL_law_1071 (by decide) ?_
  refine os_iadd (pc := 1072) dL_law_1072 ?_
  refine os_sld (pc := 1073) (j + 1) (by rw [fa_lit 1, nI_add]) (by omega) hN dL_law_1073 ?_
  refine os_aload_n (pc := 1074) dL_law_1074 rfl ?_
  refine os_iload_n (pc := 1075) dL_law_1075 rfl ?_
  refine os_iconst (pc := 1076) (v := 2) dL_law_1076 (by decide) ?_
  refine os_iadd (pc := 1077) dL_law_1077 ?_
  refine os_sld (pc := 1078) (j + 2) (by rw [fa_lit 2, nI_add]) (by omega) hN dL_law_1078 ?_
  refine os_aload_n (pc := 1079) dL_law_1079 rfl ?_
  refine os_iload_n (pc := 1080) dL_law_1080 rfl ?_
  refine os_iconst (pc := 1081) (v := 3) dL_law_1081 (by decide) ?_
  refine os_iadd (pc := 1082) dL_law_1082 ?_
  refine os_sld (pc := 1083) (j + 3) (by rw [fa_lit 3, nI_add]) (by omega) hN dL_law_1083 ?_
  refine os_aload_n (pc := 1084) dL_law_1084 rfl ?_
  refine os_iload_n (pc := 1085) dL_law_1085 rfl ?_
  refine os_iconst (pc := 1086) (v := 4) dL_law_1086 (by decide) ?_
  refine os_iadd (pc := 1087) dL_law_1087 ?_
  refine os_sld (pc := 1088) (j + 4) (by rw [fa_lit 4, nI_add]) (by omega) hN dL_law_1088 ?_
  refine os_callVl4 (pc := 1089) (d' := 70) dL_law_1089 vl_L_113 hR1.o rfl rfl rfl (by decide) ?_
  refine r_sure hW1 hI hc9 (fun M2 hW2 => ?_)
  refine os_lcmp (pc := 1092) dL_law_1092 ?_
  refine os_if_eq (pc := 1093) 1609 dL_law_1093 (by decide) (fun _ => ?_) (fun h9 => absurd (lg_same _) h9)
  exact os_less (Nat.le_succ b) (kk _ _ _ _ _ _ _ (hJ.k3 (Nat.le_refl z) hzs hC1 hW2 hI hc9))
theorem w_best {Γ : Cx} {b9 N : Nat} {xs : Nat → Int32} {a b j z sz : Nat} {σ κ vi : Rw} {va : Nat → Rw} {M : Nat → Option va_E} {Q : Option Value → Wd → Prop} (hJ : Jn Γ a z sz σ κ vi va M) (hN : N < 2 ^ 30) (hj : j + 6 ≤ N) (kk : Nx Γ b9 N xs a b j Q) : OkS (scX Γ b9 N xs) Γ mL_law 100 (b + 1) 1098 [some (.ref b9), some (.ref a), some (.ref (a + 92)), some (.int (nI j))] [] (M, sz) Q := by
  obtain ⟨hC, ⟨M0, hW⟩, hI, hc9, hk, hS, hT, hTr, hez, hzs⟩ := id hJ
  refine os_aload_n (pc := 1098) dL_law_1098 rfl ?_
  refine os_aload_n (pc := 1099) dL_law_1099 rfl ?_
  refine os_iload_n (pc := 1100) dL_law_1100 rfl ?_
  refine os_iconst (pc := 1101) (v := 1) dL_law_1101 (by decide) ?_
  refine os_iadd (pc := 1102) dL_law_1102 ?_
  refine os_sld (pc := 1103) (j + 1) (by rw [fa_lit 1, nI_add]) (by omega) hN dL_law_1103 ?_
  refine os_aload_n (pc := 1104) dL_law_1104 rfl ?_
  refine os_iload_n (pc := 1105) dL_law_1105 rfl ?_
  refine os_iconst (pc := 1106) (v := 2) dL_law_1106 (by decide) ?_
  refine os_iadd (pc := 1107) dL_law_1107 ?_
  refine os_sld (pc := 1108) (j + 2) (by rw [fa_lit 2, nI_add]) (by omega) hN dL_law_1108 ?_
  refine os_callVi2 (pc := 1109) (d' := 7) dL_law_1109 vl_L_114 hC.1 rfl rfl rfl (by decide) ?_
  refine x_best hC hI (by omega) hc9 (fun M1 hC1 hO1 => ?_)
  have hW1 := hW.mv (M' := M1) (fun q g1 g2 => hO1 q (by omega))
  obtain ⟨ri1, ra1, hR1, hv1, hu1⟩ := id hW1
  refine os_aload_n (pc := 1112) dL_law_1112 rfl ?_
  refine os_aload_n (pc := 1113) dL_law_1113 rfl ?_
  refine os_iload_n (pc := 1114) dL_law_1114 rfl ?_
  refine os_iconst (pc := 1115) (v := 1) dL_law_1115 (by decide) ?_
  refine os_iadd (pc := 1116) dL_law_1116 ?_
  refine os_sld (pc := 1117) (j + 1) (by rw [fa_lit 1, nI_add]) (by omega) hN dL_law_1117 ?_
  refine os_aload_n (pc := 1118) dL_law_1118 rfl ?_
  refine os_iload_n (pc := 1119) dL_law_1119 rfl ?_
  refine os_iconst (pc := 1120) (v := 2) dL_law_1120 (by decide) ?_
  refine os_iadd (pc := 1121) dL_law_1121 ?_
  refine os_sld (pc := 1122) (j + 2) (by rw [fa_lit 2, nI_add]) (by omega) hN dL_law_1122 ?_
  refine os_callVi2 (pc := 1123) (d' := 11) dL_law_1123 vl_L_117 hR1.o rfl rfl rfl (by decide) ?_
  refine r_best hW1 hI hc9 (fun M2 hW2 => ?_)
  refine os_icmp_eq (pc := 1126) 1609 dL_law_1126 (by decide) (fun _ => ?_) (fun h9 => absurd rfl h9)
  exact os_less (Nat.le_succ b) (kk _ _ _ _ _ _ _ (hJ.k3 (Nat.le_refl z) hzs hC1 hW2 hI hc9))
theorem w_fresh {Γ : Cx} {b9 N : Nat} {xs : Nat → Int32} {a b j z sz : Nat} {σ κ vi : Rw} {va : Nat → Rw} {M : Nat → Option va_E} {Q : Option Value → Wd → Prop} (hJ : Jn Γ a z sz σ κ vi va M) (hN : N < 2 ^ 30) (hj : j + 6 ≤ N) (kk : Nx Γ b9 N xs a b j Q) : OkS (scX Γ b9 N xs) Γ mL_law 100 (b + 1) 1131 [some (.ref b9), some (.ref a), some (.ref (a + 92)), some (.int (nI j))] [] (M, sz) Q := by
  obtain ⟨hC, ⟨M0, hW⟩, hI, hc9, hk, hS, hT, hTr, hez, hzs⟩ := id hJ
  refine os_aload_n (pc := 1131) dL_law_1131 rfl ?_
  refine os_aload_n (pc := 1132) dL_law_1132 rfl ?_
  refine os_iload_n (pc := 1133) dL_law_1133 rfl ?_
  refine os_iconst (pc := 1134) (v := 1) dL_law_1134 (by decide) ?_
  refine os_iadd (pc := 1135) dL_law_1135 ?_
  refine os_sld (pc := 1136) (j + 1) (by rw [fa_lit 1, nI_add]) (by omega) hN dL_law_1136 ?_
  refine os_aload_n (pc := 1137) dL_law_1137 rfl ?_
  refine os_iload_n (pc := 1138) dL_law_1138 rfl ?_
  refine os_iconst (pc := 1139) (v := 2) dL_law_1139 (by decide) ?_
  refine os_iadd (pc := 1140) dL_law_1140 ?_
  refine os_sld (pc := 1141) (j + 2) (by rw [fa_lit 2, nI_add]) (by omega) hN dL_law_1141 ?_
  refine os_aload_n (pc := 1142) dL_law_1142 rfl ?_
  refine os_iload_n (pc := 1143) dL_law_1143 rfl ?_
  refine os_iconst (pc := 1144) (v := 3) dL_law_1144 (by decide) ?_
  refine os_iadd (pc := 1145) dL_law_1145 ?_
  refine os_sld (pc := 1146) (j + 3) (by rw [fa_lit 3, nI_add]) (by omega) hN dL_law_1146 ?_
  refine os_aload_n (pc := 1147) dL_law_1147 rfl ?_
  refine os_iload_n (pc := 1148) dL_law_1148 rfl ?_
  refine os_iconst (pc := 1149) (v := 4) dL_law_1149 (by decide) ?_
  refine os_iadd (pc := 1150) dL_law_1150 ?_
  refine os_sld (pc := 1151) (j + 4) (by rw [fa_lit 4, nI_add]) (by omega) hN dL_law_1151 ?_
  refine os_callVi4B (pc := 1152) (d' := 6) (b' := 1) (b'' := b) dL_law_1152 vl_L_118 hC.1 rfl rfl rfl (by decide) (by omega) ?_
  refine x_fresh hC hI (by omega) hez hzs hc9 (fun M1 z1 s1 hz1 hzs1 hss1 hC1 hO1 => ?_)
  have hW1 := hW.mv (M' := M1) (fun q g1 g2 => hO1 q (by omega) (by omega))
  obtain ⟨ri1, ra1, hR1, hv1, hu1⟩ := id hW1
  refine os_aload_n (pc := 1155) dL_law_1155 rfl ?_
  refine os_aload_n (pc := 1156) dL_law_1156 rfl ?_
  refine os_iload_n (pc := 1157) dL_law_1157 rfl ?_
  refine os_iconst (pc := 1158) (v := 1) dL_law_1158 (by decide) ?_
  refine os_iadd (pc := 1159) dL_law_1159 ?_
  refine os_sld (pc := 1160) (j + 1) (by rw [fa_lit 1, nI_add]) (by omega) hN dL_law_1160 ?_
  refine os_aload_n (pc := 1161) dL_law_1161 rfl ?_
  refine os_iload_n (pc := 1162) dL_law_1162 rfl ?_
  refine os_iconst (pc := 1163) (v := 2) dL_law_1163 (by decide) ?_
  refine os_iadd (pc := 1164) dL_law_1164 ?_
  refine os_sld (pc := 1165) (j + 2) (by rw [fa_lit 2, nI_add]) (by omega) hN dL_law_1165 ?_
  refine os_aload_n (pc := 1166) dL_law_1166 rfl ?_
  refine os_iload_n (pc := 1167) dL_law_1167 rfl ?_
  refine os_iconst (pc := 1168) (v := 3) dL_law_1168 (by decide) ?_
  refine os_iadd (pc := 1169) dL_law_1169 ?_
  refine os_sld (pc := 1170) (j + 3) (by rw [fa_lit 3, nI_add]) (by omega) hN dL_law_1170 ?_
  refine os_aload_n (pc := 1171) dL_law_1171 rfl ?_
  refine os_iload_n (pc := 1172) dL_law_1172 rfl ?_
  refine os_iconst (pc := 1173) (v := 4) dL_law_1173 (by decide) ?_
  refine os_iadd (pc := 1174) dL_law_1174 ?_
  refine os_sld (pc := 1175) (j + 4) (by rw [fa_lit 4, nI_add]) (by omega) hN dL_law_1175 ?_
  refine os_callVi4 (pc := 1176) (d' := 9) dL_law_1176 vl_L_121 hR1.o rfl rfl rfl (by decide) ?_
  refine r_fresh hW1 hI hc9 (fun M2 hW2 => ?_)
  refine os_icmp_eq (pc := 1179) 1609 dL_law_1179 (by decide) (fun _ => ?_) (fun h9 => absurd rfl h9)
  exact (kk _ _ _ _ _ _ _ (hJ.k3 hz1 hzs1 hC1 hW2 hI hc9))
theorem w_order {Γ : Cx} {b9 N : Nat} {xs : Nat → Int32} {a b j z sz : Nat} {σ κ vi : Rw} {va : Nat → Rw} {M : Nat → Option va_E} {Q : Option Value → Wd → Prop} (hJ : Jn Γ a z sz σ κ vi va M) (hN : N < 2 ^ 30) (hj : j + 6 ≤ N) (kk : Nx Γ b9 N xs a b j Q) : OkS (scX Γ b9 N xs) Γ mL_law 100 (b + 1) 1184 [some (.ref b9), some (.ref a), some (.ref (a + 92)), some (.int (nI j))] [] (M, sz) Q := by
  obtain ⟨hC, ⟨M0, hW⟩, hI, hc9, hk, hS, hT, hTr, hez, hzs⟩ := id hJ
  refine os_aload_n (pc := 1184) dL_law_1184 rfl ?_
  refine os_aload_n (pc := 1185) dL_law_1185 rfl ?_
  refine os_iload_n (pc := 1186) dL_law_1186 rfl ?_
  refine os_iconst (pc := 1187) (v := 1) dL_law_1187 (by decide) ?_
  refine os_iadd (pc := 1188) dL_law_1188 ?_
  refine os_sld (pc := 1189) (j + 1) (by rw [fa_lit 1, nI_add]) (by omega) hN dL_law_1189 ?_
  refine os_aload_n (pc := 1190) dL_law_1190 rfl ?_
  refine os_iload_n (pc := 1191) dL_law_1191 rfl ?_
  refine os_iconst (pc := 1192) (v := 2) dL_law_1192 (by decide) ?_
  refine os_iadd (pc := 1193) dL_law_1193 ?_
  refine os_sld (pc := 1194) (j + 2) (by rw [fa_lit 2, nI_add]) (by omega) hN dL_law_1194 ?_
  refine os_callVi2 (pc := 1195) (d' := 4) dL_law_1195 vl_L_122 hC.1 rfl rfl rfl (by decide) ?_
  refine x_order hC hI (by omega) (fun M1 hC1 hO1 => ?_)
  have hW1 := hW.mv (M' := M1) (fun q g1 g2 => hO1 q (by omega))
  obtain ⟨ri1, ra1, hR1, hv1, hu1⟩ := id hW1
  refine os_aload_n (pc := 1198) dL_law_1198 rfl ?_
  refine os_aload_n (pc := 1199) dL_law_1199 rfl ?_
  refine os_iload_n (pc := 1200) dL_law_1200 rfl ?_
  refine os_iconst (pc := 1201) (v := 1) dL_law_1201 (by decide) ?_
  refine os_iadd (pc := 1202) dL_law_1202 ?_
  refine os_sld (pc := 1203) (j + 1) (by rw [fa_lit 1, nI_add]) (by omega) hN dL_law_1203 ?_
  refine os_aload_n (pc := 1204) dL_law_1204 rfl ?_
  refine os_iload_n (pc := 1205) dL_law_1205 rfl ?_
  refine os_iconst (pc := 1206) (v := 2) dL_law_1206 (by decide) ?_
  refine os_iadd (pc := 1207) dL_law_1207 ?_
  refine os_sld (pc := 1208) (j + 2) (by rw [fa_lit 2, nI_add]) (by omega) hN dL_law_1208 ?_
  refine os_callVi2 (pc := 1209) (d' := 3) dL_law_1209 vl_L_125 hR1.o rfl rfl rfl (by decide) ?_
  refine r_order hW1 hI (fun M2 hW2 => ?_)
  refine os_icmp_eq (pc := 1212) 1609 dL_law_1212 (by decide) (fun _ => ?_) (fun h9 => absurd rfl h9)
  exact os_less (Nat.le_succ b) (kk _ _ _ _ _ _ _ (hJ.k3 (Nat.le_refl z) hzs hC1 hW2 hI hc9))
theorem w_before {Γ : Cx} {b9 N : Nat} {xs : Nat → Int32} {a b j z sz : Nat} {σ κ vi : Rw} {va : Nat → Rw} {M : Nat → Option va_E} {Q : Option Value → Wd → Prop} (hJ : Jn Γ a z sz σ κ vi va M) (hN : N < 2 ^ 30) (hj : j + 6 ≤ N) (kk : Nx Γ b9 N xs a b j Q) : OkS (scX Γ b9 N xs) Γ mL_law 100 (b + 1) 1217 [some (.ref b9), some (.ref a), some (.ref (a + 92)), some (.int (nI j))] [] (M, sz) Q := by
  obtain ⟨hC, ⟨M0, hW⟩, hI, hc9, hk, hS, hT, hTr, hez, hzs⟩ := id hJ
  refine os_aload_n (pc := 1217) dL_law_1217 rfl ?_
  refine os_callVi0 (pc := 1218) (d' := 3) dL_law_1218 vl_L_126 hC.1 rfl rfl rfl (by decide) ?_
  refine x_before hC hI (by omega) (fun M1 hC1 hO1 => ?_)
  have hW1 := hW.mv (M' := M1) (fun q g1 g2 => hO1 q (by omega))
  obtain ⟨ri1, ra1, hR1, hv1, hu1⟩ := id hW1
  refine os_aload_n (pc := 1221) dL_law_1221 rfl ?_
  refine os_callVi0 (pc := 1222) (d' := 1) dL_law_1222 vl_L_130 hR1.o rfl rfl rfl (by decide) ?_
  refine r_before hW1 hI (fun M2 hW2 => ?_)
  refine os_icmp_eq (pc := 1225) 1609 dL_law_1225 (by decide) (fun _ => ?_) (fun h9 => absurd rfl h9)
  exact os_less (Nat.le_succ b) (kk _ _ _ _ _ _ _ (hJ.k3 (Nat.le_refl z) hzs hC1 hW2 hI hc9))
theorem w_seed {Γ : Cx} {b9 N : Nat} {xs : Nat → Int32} {a b j z sz : Nat} {σ κ vi : Rw} {va : Nat → Rw} {M : Nat → Option va_E} {Q : Option Value → Wd → Prop} (hJ : Jn Γ a z sz σ κ vi va M) (hN : N < 2 ^ 30) (hj : j + 6 ≤ N) (kk : Nx Γ b9 N xs a b j Q) : OkS (scX Γ b9 N xs) Γ mL_law 100 (b + 1) 1230 [some (.ref b9), some (.ref a), some (.ref (a + 92)), some (.int (nI j))] [] (M, sz) Q := by
  obtain ⟨hC, ⟨M0, hW⟩, hI, hc9, hk, hS, hT, hTr, hez, hzs⟩ := id hJ
  refine os_aload_n (pc := 1230) dL_law_1230 rfl ?_
  refine os_aload_n (pc := 1231) dL_law_1231 rfl ?_
  refine os_iload_n (pc := 1232) dL_law_1232 rfl ?_
  refine os_iconst (pc := 1233) (v := 1) dL_law_1233 (by decide) ?_
  refine os_iadd (pc := 1234) dL_law_1234 ?_
  refine os_sld (pc := 1235) (j + 1) (by rw [fa_lit 1, nI_add]) (by omega) hN dL_law_1235 ?_
  refine os_callVi1 (pc := 1236) (d' := 1) dL_law_1236 vl_L_131 hC.1 rfl rfl rfl (by decide) ?_
  refine x_seed hC hI (by omega) (fun M1 hC1 hO1 => ?_)
  have hW1 := hW.mv (M' := M1) (fun q g1 g2 => hO1 q (by omega))
  obtain ⟨ri1, ra1, hR1, hv1, hu1⟩ := id hW1
  refine os_aload_n (pc := 1239) dL_law_1239 rfl ?_
  refine os_aload_n (pc := 1240) dL_law_1240 rfl ?_
  refine os_iload_n (pc := 1241) dL_law_1241 rfl ?_
  refine os_iconst (pc := 1242) (v := 1) dL_law_1242 (by decide) ?_
  refine os_iadd (pc := 1243) dL_law_1243 ?_
  refine os_sld (pc := 1244) (j + 1) (by rw [fa_lit 1, nI_add]) (by omega) hN dL_law_1244 ?_
  refine os_callVi1 (pc := 1245) (d' := 1) dL_law_1245 vl_L_134 hR1.o rfl rfl rfl (by decide) ?_
  refine r_seed hW1 hI (fun M2 hW2 => ?_)
  refine os_icmp_eq (pc := 1248) 1609 dL_law_1248 (by decide) (fun _ => ?_) (fun h9 => absurd rfl h9)
  exact os_less (Nat.le_succ b) (kk _ _ _ _ _ _ _ (hJ.k3 (Nat.le_refl z) hzs hC1 hW2 (Inv_op_seed hI  (xs (j + 1))) (cT_of (c9_seed (xs (j + 1))) hc9)))
theorem w_voice {Γ : Cx} {b9 N : Nat} {xs : Nat → Int32} {a b j z sz : Nat} {σ κ vi : Rw} {va : Nat → Rw} {M : Nat → Option va_E} {Q : Option Value → Wd → Prop} (hJ : Jn Γ a z sz σ κ vi va M) (hN : N < 2 ^ 30) (hj : j + 6 ≤ N) (kk : Nx Γ b9 N xs a b j Q) : OkS (scX Γ b9 N xs) Γ mL_law 100 (b + 1) 1253 [some (.ref b9), some (.ref a), some (.ref (a + 92)), some (.int (nI j))] [] (M, sz) Q := by
  obtain ⟨hC, ⟨M0, hW⟩, hI, hc9, hk, hS, hT, hTr, hez, hzs⟩ := id hJ
  obtain ⟨n9, ht1, ht0⟩ := hTr
  have ht : vi 19 = nI ((n9, va 18) : Tr).1 ∧ va 18 = ((n9, va 18) : Tr).2 := ⟨ht1, rfl⟩
  refine os_aload_n (pc := 1253) dL_law_1253 rfl ?_
  refine os_aload_n (pc := 1254) dL_law_1254 rfl ?_
  refine os_iload_n (pc := 1255) dL_law_1255 rfl ?_
  refine os_iconst (pc := 1256) (v := 1) dL_law_1256 (by decide) ?_
  refine os_iadd (pc := 1257) dL_law_1257 ?_
  refine os_sld (pc := 1258) (j + 1) (by rw [fa_lit 1, nI_add]) (by omega) hN dL_law_1258 ?_
  refine os_aload_n (pc := 1259) dL_law_1259 rfl ?_
  refine os_iload_n (pc := 1260) dL_law_1260 rfl ?_
  refine os_iconst (pc := 1261) (v := 2) dL_law_1261 (by decide) ?_
  refine os_iadd (pc := 1262) dL_law_1262 ?_
  refine os_sld (pc := 1263) (j + 2) (by rw [fa_lit 2, nI_add]) (by omega) hN dL_law_1263 ?_
  refine os_aload_n (pc := 1264) dL_law_1264 rfl ?_
  refine os_iload_n (pc := 1265) dL_law_1265 rfl ?_
  refine os_iconst (pc := 1266) (v := 3) dL_law_1266 (by decide) ?_
  refine os_iadd (pc := 1267) dL_law_1267 ?_
  refine os_sld (pc := 1268) (j + 3) (by rw [fa_lit 3, nI_add]) (by omega) hN dL_law_1268 ?_
  refine os_callVi3 (pc := 1269) (d' := 8) dL_law_1269 vl_L_135 hC.1 rfl rfl rfl (by decide) ?_
  refine x_voice hC hI (by omega) (n9, va 18) ht (fun M1 hC1 hO1 => ?_)
  have hW1 := hW.mv (M' := M1) (fun q g1 g2 => hO1 q (by omega))
  obtain ⟨ri1, ra1, hR1, hv1, hu1⟩ := id hW1
  refine os_aload_n (pc := 1272) dL_law_1272 rfl ?_
  refine os_aload_n (pc := 1273) dL_law_1273 rfl ?_
  refine os_iload_n (pc := 1274) dL_law_1274 rfl ?_
  refine os_iconst (pc := 1275) (v := 1) dL_law_1275 (by decide) ?_
  refine os_iadd (pc := 1276) dL_law_1276 ?_
  refine os_sld (pc := 1277) (j + 1) (by rw [fa_lit 1, nI_add]) (by omega) hN dL_law_1277 ?_
  refine os_aload_n (pc := 1278) dL_law_1278 rfl ?_
  refine os_iload_n (pc := 1279) dL_law_1279 rfl ?_
  refine os_iconst (pc := 1280) (v := 2) dL_law_1280 (by decide) ?_
  refine os_iadd (pc := 1281) dL_law_1281 ?_
  refine os_sld (pc := 1282) (j + 2) (by rw [fa_lit 2, nI_add]) (by omega) hN dL_law_1282 ?_
  refine os_aload_n (pc := 1283) dL_law_1283 rfl ?_
  refine os_iload_n (pc := 1284) dL_law_1284 rfl ?_
  refine os_iconst (pc := 1285) (v := 3) dL_law_1285 (by decide) ?_
  refine os_iadd (pc := 1286) dL_law_1286 ?_
  refine os_sld (pc := 1287) (j + 3) (by rw [fa_lit 3, nI_add]) (by omega) hN dL_law_1287 ?_
  refine os_callVi3 (pc := 1288) (d' := 18) dL_law_1288 vl_L_138 hR1.o rfl rfl rfl (by decide) ?_
  refine r_voice hW1 hI (n9, va 18) ht (fun M2 hW2 => ?_)
  refine os_icmp_eq (pc := 1291) 1609 dL_law_1291 (by decide) (fun _ => ?_) (fun h9 => absurd rfl h9)
  exact os_less (Nat.le_succ b) (kk _ _ _ _ _ _ _ (hJ.kv hC1 hW2 (vo_le (tr := (n9, va 18)) ht0 (xs (j + 1)) (xs (j + 2)) (xs (j + 3)))))
theorem w_trace {Γ : Cx} {b9 N : Nat} {xs : Nat → Int32} {a b j z sz : Nat} {σ κ vi : Rw} {va : Nat → Rw} {M : Nat → Option va_E} {Q : Option Value → Wd → Prop} (hJ : Jn Γ a z sz σ κ vi va M) (hN : N < 2 ^ 30) (hj : j + 6 ≤ N) (kk : Nx Γ b9 N xs a b j Q) : OkS (scX Γ b9 N xs) Γ mL_law 100 (b + 1) 1296 [some (.ref b9), some (.ref a), some (.ref (a + 92)), some (.int (nI j))] [] (M, sz) Q := by
  obtain ⟨hC, ⟨M0, hW⟩, hI, hc9, hk, hS, hT, hTr, hez, hzs⟩ := id hJ
  refine os_aload_n (pc := 1296) dL_law_1296 rfl ?_
  refine os_aload_n (pc := 1297) dL_law_1297 rfl ?_
  refine os_iload_n (pc := 1298) dL_law_1298 rfl ?_
  refine os_iconst (pc := 1299) (v := 1) dL_law_1299 (by decide) ?_
  refine os_iadd (pc := 1300) dL_law_1300 ?_
  refine os_sld (pc := 1301) (j + 1) (by rw [fa_lit 1, nI_add]) (by omega) hN dL_law_1301 ?_
  refine os_callVi1 (pc := 1302) (d' := 2) dL_law_1302 vl_L_139 hC.1 rfl rfl rfl (by decide) ?_
  refine x_trace hC hI (by omega) hTr (fun M1 hC1 hO1 => ?_)
  have hW1 := hW.mv (M' := M1) (fun q g1 g2 => hO1 q (by omega))
  obtain ⟨ri1, ra1, hR1, hv1, hu1⟩ := id hW1
  refine os_aload_n (pc := 1305) dL_law_1305 rfl ?_
  refine os_aload_n (pc := 1306) dL_law_1306 rfl ?_
  refine os_iload_n (pc := 1307) dL_law_1307 rfl ?_
  refine os_iconst (pc := 1308) (v := 1) dL_law_1308 (by decide) ?_
  refine os_iadd (pc := 1309) dL_law_1309 ?_
  refine os_sld (pc := 1310) (j + 1) (by rw [fa_lit 1, nI_add]) (by omega) hN dL_law_1310 ?_
  refine os_callVi1 (pc := 1311) (d' := 1) dL_law_1311 vl_L_142 hR1.o rfl rfl rfl (by decide) ?_
  refine r_trace hW1 hI hTr (fun M2 hW2 => ?_)
  refine os_icmp_eq (pc := 1314) 1609 dL_law_1314 (by decide) (fun _ => ?_) (fun h9 => absurd rfl h9)
  exact os_less (Nat.le_succ b) (kk _ _ _ _ _ _ _ (hJ.k3 (Nat.le_refl z) hzs hC1 hW2 hI hc9))
theorem w_sheet {Γ : Cx} {b9 N : Nat} {xs : Nat → Int32} {a b j z sz : Nat} {σ κ vi : Rw} {va : Nat → Rw} {M : Nat → Option va_E} {Q : Option Value → Wd → Prop} (hJ : Jn Γ a z sz σ κ vi va M) (hN : N < 2 ^ 30) (hj : j + 6 ≤ N) (kk : Nx Γ b9 N xs a b j Q) : OkS (scX Γ b9 N xs) Γ mL_law 100 (b + 1) 1319 [some (.ref b9), some (.ref a), some (.ref (a + 92)), some (.int (nI j))] [] (M, sz) Q := by
  obtain ⟨hC, ⟨M0, hW⟩, hI, hc9, hk, hS, hT, hTr, hez, hzs⟩ := id hJ
  refine os_aload_n (pc := 1319) dL_law_1319 rfl ?_
  refine os_aload_n (pc := 1320) dL_law_1320 rfl ?_
  refine os_iload_n (pc := 1321) dL_law_1321 rfl ?_
  refine os_iconst (pc := 1322) (v := 1) dL_law_1322 (by decide) ?_
  refine os_iadd (pc := 1323) dL_law_1323 ?_
  refine os_sld (pc := 1324) (j + 1) (by rw [fa_lit 1, nI_add]) (by omega) hN dL_law_1324 ?_
  refine os_aload_n (pc := 1325) dL_law_1325 rfl ?_
  refine os_iload_n (pc := 1326) dL_law_1326 rfl ?_
  refine os_iconst (pc := 1327) (v := 2) dL_law_1327 (by decide) ?_
  refine os_iadd (pc := 1328) dL_law_1328 ?_
  refine os_sld (pc := 1329) (j + 2) (by rw [fa_lit 2, nI_add]) (by omega) hN dL_law_1329 ?_
  refine os_aload_n (pc := 1330) dL_law_1330 rfl ?_
  refine os_iload_n (pc := 1331) dL_law_1331 rfl ?_
  refine os_iconst (pc := 1332) (v := 3) dL_law_1332 (by decide) ?_
  refine os_iadd (pc := 1333) dL_law_1333 ?_
  refine os_sld (pc := 1334) (j + 3) (by rw [fa_lit 3, nI_add]) (by omega) hN dL_law_1334 ?_
  refine os_callVi3 (pc := 1335) (d' := 2) dL_law_1335 vl_L_143 hC.1 rfl rfl rfl (by decide) ?_
  refine x_sheet hC hI (by omega) (fun M1 hC1 hO1 => ?_)
  have hW1 := hW.mv (M' := M1) (fun q g1 g2 => hO1 q (by omega))
  obtain ⟨ri1, ra1, hR1, hv1, hu1⟩ := id hW1
  refine os_aload_n (pc := 1338) dL_law_1338 rfl ?_
  refine os_aload_n (pc := 1339) dL_law_1339 rfl ?_
  refine os_iload_n (pc := 1340) dL_law_1340 rfl ?_
  refine os_iconst (pc := 1341) (v := 1) dL_law_1341 (by decide) ?_
  refine os_iadd (pc := 1342) dL_law_1342 ?_
  refine os_sld (pc := 1343) (j + 1) (by rw [fa_lit 1, nI_add]) (by omega) hN dL_law_1343 ?_
  refine os_aload_n (pc := 1344) dL_law_1344 rfl ?_
  refine os_iload_n (pc := 1345) dL_law_1345 rfl ?_
  refine os_iconst (pc := 1346) (v := 2) dL_law_1346 (by decide) ?_
  refine os_iadd (pc := 1347) dL_law_1347 ?_
  refine os_sld (pc := 1348) (j + 2) (by rw [fa_lit 2, nI_add]) (by omega) hN dL_law_1348 ?_
  refine os_aload_n (pc := 1349) dL_law_1349 rfl ?_
  refine os_iload_n (pc := 1350) dL_law_1350 rfl ?_
  refine os_iconst (pc := 1351) (v := 3) dL_law_1351 (by decide) ?_
  refine os_iadd (pc := 1352) dL_law_1352 ?_
  refine os_sld (pc := 1353) (j + 3) (by rw [fa_lit 3, nI_add]) (by omega) hN dL_law_1353 ?_
  refine os_callVi3 (pc := 1354) (d' := 2) dL_law_1354 vl_L_146 hR1.o rfl rfl rfl (by decide) ?_
  refine r_sheet hW1 hS (fun M2 hW2 => ?_)
  refine os_icmp_eq (pc := 1357) 1609 dL_law_1357 (by decide) (fun _ => ?_) (fun h9 => absurd rfl h9)
  exact os_less (Nat.le_succ b) (kk _ _ _ _ _ _ _ (hJ.ks hC1 hW2 (S_sheet hS hT (xs (j + 1)) (xs (j + 2)) (xs (j + 3)))))
theorem w_put {Γ : Cx} {b9 N : Nat} {xs : Nat → Int32} {a b j z sz : Nat} {σ κ vi : Rw} {va : Nat → Rw} {M : Nat → Option va_E} {Q : Option Value → Wd → Prop} (hJ : Jn Γ a z sz σ κ vi va M) (hN : N < 2 ^ 30) (hj : j + 6 ≤ N) (kk : Nx Γ b9 N xs a b j Q) : OkS (scX Γ b9 N xs) Γ mL_law 100 (b + 1) 1362 [some (.ref b9), some (.ref a), some (.ref (a + 92)), some (.int (nI j))] [] (M, sz) Q := by
  obtain ⟨hC, ⟨M0, hW⟩, hI, hc9, hk, hS, hT, hTr, hez, hzs⟩ := id hJ
  refine os_aload_n (pc := 1362) dL_law_1362 rfl ?_
  refine os_aload_n (pc := 1363) dL_law_1363 rfl ?_
  refine os_iload_n (pc := 1364) dL_law_1364 rfl ?_
  refine os_iconst (pc := 1365) (v := 1) dL_law_1365 (by decide) ?_
  refine os_iadd (pc := 1366) dL_law_1366 ?_
  refine os_sld (pc := 1367) (j + 1) (by rw [fa_lit 1, nI_add]) (by omega) hN dL_law_1367 ?_
  refine os_aload_n (pc := 1368) dL_law_1368 rfl ?_
  refine os_iload_n (pc := 1369) dL_law_1369 rfl ?_
  refine os_iconst (pc := 1370) (v := 2) dL_law_1370 (by decide) ?_
  refine os_iadd (pc := 1371) dL_law_1371 ?_
  refine os_sld (pc := 1372) (j + 2) (by rw [fa_lit 2, nI_add]) (by omega) hN dL_law_1372 ?_
  refine os_aload_n (pc := 1373) dL_law_1373 rfl ?_
  refine os_iload_n (pc := 1374) dL_law_1374 rfl ?_
  refine os_iconst (pc := 1375) (v := 3) dL_law_1375 (by decide) ?_
  refine os_iadd (pc := 1376) dL_law_1376 ?_
  refine os_sld (pc := 1377) (j + 3) (by rw [fa_lit 3, nI_add]) (by omega) hN dL_law_1377 ?_
  refine os_callVi3 (pc := 1378) (d' := 2) dL_law_1378 vl_L_147 hC.1 rfl rfl rfl (by decide) ?_
  refine x_put hC hI (by omega) hS (fun M1 hC1 hO1 => ?_)
  have hW1 := hW.mv (M' := M1) (fun q g1 g2 => hO1 q (by omega))
  obtain ⟨ri1, ra1, hR1, hv1, hu1⟩ := id hW1
  refine os_aload_n (pc := 1381) dL_law_1381 rfl ?_
  refine os_aload_n (pc := 1382) dL_law_1382 rfl ?_
  refine os_iload_n (pc := 1383) dL_law_1383 rfl ?_
  refine os_iconst (pc := 1384) (v := 1) dL_law_1384 (by decide) ?_
  refine os_iadd (pc := 1385) dL_law_1385 ?_
  refine os_sld (pc := 1386) (j + 1) (by rw [fa_lit 1, nI_add]) (by omega) hN dL_law_1386 ?_
  refine os_aload_n (pc := 1387) dL_law_1387 rfl ?_
  refine os_iload_n (pc := 1388) dL_law_1388 rfl ?_
  refine os_iconst (pc := 1389) (v := 2) dL_law_1389 (by decide) ?_
  refine os_iadd (pc := 1390) dL_law_1390 ?_
  refine os_sld (pc := 1391) (j + 2) (by rw [fa_lit 2, nI_add]) (by omega) hN dL_law_1391 ?_
  refine os_aload_n (pc := 1392) dL_law_1392 rfl ?_
  refine os_iload_n (pc := 1393) dL_law_1393 rfl ?_
  refine os_iconst (pc := 1394) (v := 3) dL_law_1394 (by decide) ?_
  refine os_iadd (pc := 1395) dL_law_1395 ?_
  refine os_sld (pc := 1396) (j + 3) (by rw [fa_lit 3, nI_add]) (by omega) hN dL_law_1396 ?_
  refine os_callVi3 (pc := 1397) (d' := 2) dL_law_1397 vl_L_150 hR1.o rfl rfl rfl (by decide) ?_
  refine r_put hW1 hS (fun M2 hW2 => ?_)
  refine os_icmp_eq (pc := 1400) 1609 dL_law_1400 (by decide) (fun _ => ?_) (fun h9 => absurd rfl h9)
  exact os_less (Nat.le_succ b) (kk _ _ _ _ _ _ _ (hJ.ks hC1 hW2 (S_put hS hT (xs (j + 1)) (xs (j + 2)) (xs (j + 3)))))
theorem w_move {Γ : Cx} {b9 N : Nat} {xs : Nat → Int32} {a b j z sz : Nat} {σ κ vi : Rw} {va : Nat → Rw} {M : Nat → Option va_E} {Q : Option Value → Wd → Prop} (hJ : Jn Γ a z sz σ κ vi va M) (hN : N < 2 ^ 30) (hj : j + 6 ≤ N) (kk : Nx Γ b9 N xs a b j Q) : OkS (scX Γ b9 N xs) Γ mL_law 100 (b + 1) 1405 [some (.ref b9), some (.ref a), some (.ref (a + 92)), some (.int (nI j))] [] (M, sz) Q := by
  obtain ⟨hC, ⟨M0, hW⟩, hI, hc9, hk, hS, hT, hTr, hez, hzs⟩ := id hJ
  refine os_aload_n (pc := 1405) dL_law_1405 rfl ?_
  refine os_aload_n (pc := 1406) dL_law_1406 rfl ?_
  refine os_iload_n (pc := 1407) dL_law_1407 rfl ?_
  refine os_iconst (pc := 1408) (v := 1) dL_law_1408 (by decide) ?_
  refine os_iadd (pc := 1409) dL_law_1409 ?_
  refine os_sld (pc := 1410) (j + 1) (by rw [fa_lit 1, nI_add]) (by omega) hN dL_law_1410 ?_
  refine os_aload_n (pc := 1411) dL_law_1411 rfl ?_
  refine os_iload_n (pc := 1412) dL_law_1412 rfl ?_
  refine os_iconst (pc := 1413) (v := 2) dL_law_1413 (by decide) ?_
  refine os_iadd (pc := 1414) dL_law_1414 ?_
  refine os_sld (pc := 1415) (j + 2) (by rw [fa_lit 2, nI_add]) (by omega) hN dL_law_1415 ?_
  refine os_aload_n (pc := 1416) dL_law_1416 rfl ?_
  refine os_iload_n (pc := 1417) dL_law_1417 rfl ?_
  refine os_iconst (pc := 1418) (v := 3) dL_law_1418 (by decide) ?_
  refine os_iadd (pc := 1419) dL_law_1419 ?_
  refine os_sld (pc := 1420) (j + 3) (by rw [fa_lit 3, nI_add]) (by omega) hN dL_law_1420 ?_
  refine os_aload_n (pc := 1421) dL_law_1421 rfl ?_
  refine os_iload_n (pc := 1422) dL_law_1422 rfl ?_
  refine os_iconst (pc := 1423) (v := 4) dL_law_1423 (by decide) ?_
  refine os_iadd (pc := 1424) dL_law_1424 ?_
  refine os_sld (pc := 1425) (j + 4) (by rw [fa_lit 4, nI_add]) (by omega) hN dL_law_1425 ?_
  refine os_aload_n (pc := 1426) dL_law_1426 rfl ?_
  refine os_iload_n (pc := 1427) dL_law_1427 rfl ?_
  refine os_iconst (pc := 1428) (v := 5) dL_law_1428 (by decide) ?_
  refine os_iadd (pc := 1429) dL_law_1429 ?_
  refine os_sld (pc := 1430) (j + 5) (by rw [fa_lit 5, nI_add]) (by omega) hN dL_law_1430 ?_
  refine os_callVi5 (pc := 1431) (d' := 2) dL_law_1431 vl_L_151 hC.1 rfl rfl rfl (by decide) ?_
  refine x_move hC hI (by omega) hS (fun M1 hC1 hO1 => ?_)
  have hW1 := hW.mv (M' := M1) (fun q g1 g2 => hO1 q (by omega))
  obtain ⟨ri1, ra1, hR1, hv1, hu1⟩ := id hW1
  refine os_aload_n (pc := 1434) dL_law_1434 rfl ?_
  refine os_aload_n (pc := 1435) dL_law_1435 rfl ?_
  refine os_iload_n (pc := 1436) dL_law_1436 rfl ?_
  refine os_iconst (pc := 1437) (v := 1) dL_law_1437 (by decide) ?_
  refine os_iadd (pc := 1438) dL_law_1438 ?_
  refine os_sld (pc := 1439) (j + 1) (by rw [fa_lit 1, nI_add]) (by omega) hN dL_law_1439 ?_
  refine os_aload_n (pc := 1440) dL_law_1440 rfl ?_
  refine os_iload_n (pc := 1441) dL_law_1441 rfl ?_
  refine os_iconst (pc := 1442) (v := 2) dL_law_1442 (by decide) ?_
  refine os_iadd (pc := 1443) dL_law_1443 ?_
  refine os_sld (pc := 1444) (j + 2) (by rw [fa_lit 2, nI_add]) (by omega) hN dL_law_1444 ?_
  refine os_aload_n (pc := 1445) dL_law_1445 rfl ?_
  refine os_iload_n (pc := 1446) dL_law_1446 rfl ?_
  refine os_iconst (pc := 1447) (v := 3) dL_law_1447 (by decide) ?_
  refine os_iadd (pc := 1448) dL_law_1448 ?_
  refine os_sld (pc := 1449) (j + 3) (by rw [fa_lit 3, nI_add]) (by omega) hN dL_law_1449 ?_
  refine os_aload_n (pc := 1450) dL_law_1450 rfl ?_
  refine os_iload_n (pc := 1451) dL_law_1451 rfl ?_
  refine os_iconst (pc := 1452) (v := 4) dL_law_1452 (by decide) ?_
  refine os_iadd (pc := 1453) dL_law_1453 ?_
  refine os_sld (pc := 1454) (j + 4) (by rw [fa_lit 4, nI_add]) (by omega) hN dL_law_1454 ?_
  refine os_aload_n (pc := 1455) dL_law_1455 rfl ?_
  refine os_iload_n (pc := 1456) dL_law_1456 rfl ?_
  refine os_iconst (pc := 1457) (v := 5) dL_law_1457 (by decide) ?_
  refine os_iadd (pc := 1458) dL_law_1458 ?_
  refine os_sld (pc := 1459) (j + 5) (by rw [fa_lit 5, nI_add]) (by omega) hN dL_law_1459 ?_
  refine os_callVi5 (pc := 1460) (d' := 2) dL_law_1460 vl_L_154 hR1.o rfl rfl rfl (by decide) ?_
  refine r_move hW1 hS (fun M2 hW2 => ?_)
  refine os_icmp_eq (pc := 1463) 1609 dL_law_1463 (by decide) (fun _ => ?_) (fun h9 => absurd rfl h9)
  exact os_less (Nat.le_succ b) (kk _ _ _ _ _ _ _ (hJ.ks hC1 hW2 (S_move hS hT (xs (j + 1)) (xs (j + 2)) (xs (j + 3)) (xs (j + 4)) (xs (j + 5)))))
theorem w_winds {Γ : Cx} {b9 N : Nat} {xs : Nat → Int32} {a b j z sz : Nat} {σ κ vi : Rw} {va : Nat → Rw} {M : Nat → Option va_E} {Q : Option Value → Wd → Prop} (hJ : Jn Γ a z sz σ κ vi va M) (hN : N < 2 ^ 30) (hj : j + 6 ≤ N) (kk : Nx Γ b9 N xs a b j Q) : OkS (scX Γ b9 N xs) Γ mL_law 100 (b + 1) 1468 [some (.ref b9), some (.ref a), some (.ref (a + 92)), some (.int (nI j))] [] (M, sz) Q := by
  obtain ⟨hC, ⟨M0, hW⟩, hI, hc9, hk, hS, hT, hTr, hez, hzs⟩ := id hJ
  refine os_aload_n (pc := 1468) dL_law_1468 rfl ?_
  refine os_aload_n (pc := 1469) dL_law_1469 rfl ?_
  refine os_iload_n (pc := 1470) dL_law_1470 rfl ?_
  refine os_iconst (pc := 1471) (v := 1) dL_law_1471 (by decide) ?_
  refine os_iadd (pc := 1472) dL_law_1472 ?_
  refine os_sld (pc := 1473) (j + 1) (by rw [fa_lit 1, nI_add]) (by omega) hN dL_law_1473 ?_
  refine os_callVi1 (pc := 1474) (d' := 2) dL_law_1474 vl_L_155 hC.1 rfl rfl rfl (by decide) ?_
  refine x_winds hC hI (by omega) hS hT (fun M1 hC1 hO1 => ?_)
  have hW1 := hW.mv (M' := M1) (fun q g1 g2 => hO1 q (by omega))
  obtain ⟨ri1, ra1, hR1, hv1, hu1⟩ := id hW1
  refine os_aload_n (pc := 1477) dL_law_1477 rfl ?_
  refine os_aload_n (pc := 1478) dL_law_1478 rfl ?_
  refine os_iload_n (pc := 1479) dL_law_1479 rfl ?_
  refine os_iconst (pc := 1480) (v := 1) dL_law_1480 (by decide) ?_
  refine os_iadd (pc := 1481) dL_law_1481 ?_
  refine os_sld (pc := 1482) (j + 1) (by rw [fa_lit 1, nI_add]) (by omega) hN dL_law_1482 ?_
  refine os_callVi1 (pc := 1483) (d' := 2) dL_law_1483 vl_L_158 hR1.o rfl rfl rfl (by decide) ?_
  refine r_winds hW1 hS (fun M2 hW2 => ?_)
  refine os_icmp_eq (pc := 1486) 1609 dL_law_1486 (by decide) (fun _ => ?_) (fun h9 => absurd rfl h9)
  exact os_less (Nat.le_succ b) (kk _ _ _ _ _ _ _ (hJ.k3 (Nat.le_refl z) hzs hC1 hW2 (Inv_op_winds hI  (xs (j + 1))) (cT_of (c9_winds (xs (j + 1))) hc9)))
theorem w_image {Γ : Cx} {b9 N : Nat} {xs : Nat → Int32} {a b j z sz : Nat} {σ κ vi : Rw} {va : Nat → Rw} {M : Nat → Option va_E} {Q : Option Value → Wd → Prop} (hJ : Jn Γ a z sz σ κ vi va M) (hN : N < 2 ^ 30) (hj : j + 6 ≤ N) (kk : Nx Γ b9 N xs a b j Q) : OkS (scX Γ b9 N xs) Γ mL_law 100 (b + 1) 1491 [some (.ref b9), some (.ref a), some (.ref (a + 92)), some (.int (nI j))] [] (M, sz) Q := by
  obtain ⟨hC, ⟨M0, hW⟩, hI, hc9, hk, hS, hT, hTr, hez, hzs⟩ := id hJ
  refine os_aload_n (pc := 1491) dL_law_1491 rfl ?_
  refine os_callVi0 (pc := 1492) (d' := 4) dL_law_1492 vl_L_159 hC.1 rfl rfl rfl (by decide) ?_
  refine x_image hC hI (by omega) (fun M1 hC1 hO1 => ?_)
  have hW1 := hW.mv (M' := M1) (fun q g1 g2 => hO1 q (by omega))
  obtain ⟨ri1, ra1, hR1, hv1, hu1⟩ := id hW1
  refine os_aload_n (pc := 1495) dL_law_1495 rfl ?_
  refine os_callVi0 (pc := 1496) (d' := 1) dL_law_1496 vl_L_162 hR1.o rfl rfl rfl (by decide) ?_
  refine r_image hW1 hI (fun M2 hW2 => ?_)
  refine os_icmp_eq (pc := 1499) 1609 dL_law_1499 (by decide) (fun _ => ?_) (fun h9 => absurd rfl h9)
  exact os_less (Nat.le_succ b) (kk _ _ _ _ _ _ _ (hJ.ki hC1 hW2))
theorem w_restore {Γ : Cx} {b9 N : Nat} {xs : Nat → Int32} {a b j z sz : Nat} {σ κ vi : Rw} {va : Nat → Rw} {M : Nat → Option va_E} {Q : Option Value → Wd → Prop} (hJ : Jn Γ a z sz σ κ vi va M) (hN : N < 2 ^ 30) (hj : j + 6 ≤ N) (kk : Nx Γ b9 N xs a b j Q) : OkS (scX Γ b9 N xs) Γ mL_law 100 (b + 1) 1504 [some (.ref b9), some (.ref a), some (.ref (a + 92)), some (.int (nI j))] [] (M, sz) Q := by
  obtain ⟨hC, ⟨M0, hW⟩, hI, hc9, hk, hS, hT, hTr, hez, hzs⟩ := id hJ
  have iR : Inv (op_restore (vi 3) σ κ).2.2 ∧ cT (op_restore (vi 3) σ κ).2.2 ≤ 9999 := by
    unfold op_restore
    by_cases h0 : vi 3 = 0
    · rw [if_pos h0]; exact ⟨hI, hc9⟩
    · rw [if_neg h0]; exact hk h0
  refine os_aload_n (pc := 1504) dL_law_1504 rfl ?_
  refine os_callVi0 (pc := 1505) (d' := 4) dL_law_1505 vl_L_163 hC.1 rfl rfl rfl (by decide) ?_
  refine x_restore hC hI (by omega) (fun M1 hC1 hO1 => ?_)
  have hW1 := hW.mv (M' := M1) (fun q g1 g2 => hO1 q (by omega))
  obtain ⟨ri1, ra1, hR1, hv1, hu1⟩ := id hW1
  refine os_aload_n (pc := 1508) dL_law_1508 rfl ?_
  refine os_callVi0 (pc := 1509) (d' := 1) dL_law_1509 vl_L_166 hR1.o rfl rfl rfl (by decide) ?_
  refine r_restore hW1 hI (fun M2 hW2 => ?_)
  refine os_icmp_eq (pc := 1512) 1609 dL_law_1512 (by decide) (fun _ => ?_) (fun h9 => absurd rfl h9)
  exact os_less (Nat.le_succ b) (kk _ _ _ _ _ _ _ (hJ.k3 (Nat.le_refl z) hzs hC1 hW2 iR.1 iR.2))
theorem w_tell {Γ : Cx} {b9 N : Nat} {xs : Nat → Int32} {a b j z sz : Nat} {σ κ vi : Rw} {va : Nat → Rw} {M : Nat → Option va_E} {Q : Option Value → Wd → Prop} (hJ : Jn Γ a z sz σ κ vi va M) (hN : N < 2 ^ 30) (hj : j + 6 ≤ N) (kk : Nx Γ b9 N xs a b j Q) : OkS (scX Γ b9 N xs) Γ mL_law 100 (b + 1) 1517 [some (.ref b9), some (.ref a), some (.ref (a + 92)), some (.int (nI j))] [] (M, sz) Q := by
  obtain ⟨hC, ⟨M0, hW⟩, hI, hc9, hk, hS, hT, hTr, hez, hzs⟩ := id hJ
  refine os_aload_n (pc := 1517) dL_law_1517 rfl ?_
  refine os_aload_n (pc := 1518) dL_law_1518 rfl ?_
  refine os_iload_n (pc := 1519) dL_law_1519 rfl ?_
  refine os_iconst (pc := 1520) (v := 1) dL_law_1520 (by decide) ?_
  refine os_iadd (pc := 1521) dL_law_1521 ?_
  refine os_sld (pc := 1522) (j + 1) (by rw [fa_lit 1, nI_add]) (by omega) hN dL_law_1522 ?_
  refine os_callVi1 (pc := 1523) (d' := 2) dL_law_1523 vl_L_167 hC.1 rfl rfl rfl (by decide) ?_
  refine x_tell hC hI (by omega) (fun M1 hC1 hO1 => ?_)
  have hW1 := hW.mv (M' := M1) (fun q g1 g2 => hO1 q (by omega))
  obtain ⟨ri1, ra1, hR1, hv1, hu1⟩ := id hW1
  refine os_aload_n (pc := 1526) dL_law_1526 rfl ?_
  refine os_aload_n (pc := 1527) dL_law_1527 rfl ?_
  refine os_iload_n (pc := 1528) dL_law_1528 rfl ?_
  refine os_iconst (pc := 1529) (v := 1) dL_law_1529 (by decide) ?_
  refine os_iadd (pc := 1530) dL_law_1530 ?_
  refine os_sld (pc := 1531) (j + 1) (by rw [fa_lit 1, nI_add]) (by omega) hN dL_law_1531 ?_
  refine os_callVi1 (pc := 1532) (d' := 1) dL_law_1532 vl_L_170 hR1.o rfl rfl rfl (by decide) ?_
  refine r_tell hW1 hI (fun M2 hW2 => ?_)
  refine os_icmp_eq (pc := 1535) 1609 dL_law_1535 (by decide) (fun _ => ?_) (fun h9 => absurd rfl h9)
  exact os_less (Nat.le_succ b) (kk _ _ _ _ _ _ _ (hJ.k3 (Nat.le_refl z) hzs hC1 hW2 (Inv_op_tell hI  (xs (j + 1))) (cT_of (c9_tell (xs (j + 1))) hc9)))
theorem w_check {Γ : Cx} {b9 N : Nat} {xs : Nat → Int32} {a b j z sz : Nat} {σ κ vi : Rw} {va : Nat → Rw} {M : Nat → Option va_E} {Q : Option Value → Wd → Prop} (hJ : Jn Γ a z sz σ κ vi va M) (hN : N < 2 ^ 30) (hj : j + 6 ≤ N) (kk : Nx Γ b9 N xs a b j Q) : OkS (scX Γ b9 N xs) Γ mL_law 100 (b + 1) 1540 [some (.ref b9), some (.ref a), some (.ref (a + 92)), some (.int (nI j))] [] (M, sz) Q := by
  obtain ⟨hC, ⟨M0, hW⟩, hI, hc9, hk, hS, hT, hTr, hez, hzs⟩ := id hJ
  refine os_aload_n (pc := 1540) dL_law_1540 rfl ?_
  refine os_aload_n (pc := 1541) dL_law_1541 rfl ?_
  refine os_iload_n (pc := 1542) dL_law_1542 rfl ?_
  refine os_iconst (pc := 1543) (v := 1) dL_law_1543 (by decide) ?_
  refine os_iadd (pc := 1544) dL_law_1544 ?_
  refine os_sld (pc := 1545) (j + 1) (by rw [fa_lit 1, nI_add]) (by omega) hN dL_law_1545 ?_
  refine os_callVi1 (pc := 1546) (d' := 7) dL_law_1546 vl_L_171 hC.1 rfl rfl rfl (by decide) ?_
  refine x_check hC hI (by omega) hc9 (fun M1 hC1 hO1 => ?_)
  have hW1 := hW.mv (M' := M1) (fun q g1 g2 => hO1 q (by omega))
  obtain ⟨ri1, ra1, hR1, hv1, hu1⟩ := id hW1
  refine os_aload_n (pc := 1549) dL_law_1549 rfl ?_
  refine os_aload_n (pc := 1550) dL_law_1550 rfl ?_
  refine os_iload_n (pc := 1551) dL_law_1551 rfl ?_
  refine os_iconst (pc := 1552) (v := 1) dL_law_1552 (by decide) ?_
  refine os_iadd (pc := 1553) dL_law_1553 ?_
  refine os_sld (pc := 1554) (j + 1) (by rw [fa_lit 1, nI_add]) (by omega) hN dL_law_1554 ?_
  refine os_callVi1 (pc := 1555) (d' := 10) dL_law_1555 vl_L_174 hR1.o rfl rfl rfl (by decide) ?_
  refine r_check hW1 hI hc9 (fun M2 hW2 => ?_)
  refine os_icmp_eq (pc := 1558) 1609 dL_law_1558 (by decide) (fun _ => ?_) (fun h9 => absurd rfl h9)
  exact os_less (Nat.le_succ b) (kk _ _ _ _ _ _ _ (hJ.k3 (Nat.le_refl z) hzs hC1 hW2 (Inv_op_check hI  (xs (j + 1))) (cT_of (c9_check (xs (j + 1))) hc9)))
theorem w_count {Γ : Cx} {b9 N : Nat} {xs : Nat → Int32} {a b j z sz : Nat} {σ κ vi : Rw} {va : Nat → Rw} {M : Nat → Option va_E} {Q : Option Value → Wd → Prop} (hJ : Jn Γ a z sz σ κ vi va M) (hN : N < 2 ^ 30) (hj : j + 6 ≤ N) (kk : Nx Γ b9 N xs a b j Q) : OkS (scX Γ b9 N xs) Γ mL_law 100 (b + 1) 1563 [some (.ref b9), some (.ref a), some (.ref (a + 92)), some (.int (nI j))] [] (M, sz) Q := by
  obtain ⟨hC, ⟨M0, hW⟩, hI, hc9, hk, hS, hT, hTr, hez, hzs⟩ := id hJ
  refine os_aload_n (pc := 1563) dL_law_1563 rfl ?_
  refine os_aload_n (pc := 1564) dL_law_1564 rfl ?_
  refine os_iload_n (pc := 1565) dL_law_1565 rfl ?_
  refine os_iconst (pc := 1566) (v := 1) dL_law_1566 (by decide) ?_
  refine os_iadd (pc := 1567) dL_law_1567 ?_
  refine os_sld (pc := 1568) (j + 1) (by rw [fa_lit 1, nI_add]) (by omega) hN dL_law_1568 ?_
  refine os_callVi1 (pc := 1569) (d' := 2) dL_law_1569 vl_L_175 hC.1 rfl rfl rfl (by decide) ?_
  refine x_count hC hI (by omega) (fun M1 hC1 hO1 => ?_)
  have hW1 := hW.mv (M' := M1) (fun q g1 g2 => hO1 q (by omega))
  obtain ⟨ri1, ra1, hR1, hv1, hu1⟩ := id hW1
  refine os_aload_n (pc := 1572) dL_law_1572 rfl ?_
  refine os_aload_n (pc := 1573) dL_law_1573 rfl ?_
  refine os_iload_n (pc := 1574) dL_law_1574 rfl ?_
  refine os_iconst (pc := 1575) (v := 1) dL_law_1575 (by decide) ?_
  refine os_iadd (pc := 1576) dL_law_1576 ?_
  refine os_sld (pc := 1577) (j + 1) (by rw [fa_lit 1, nI_add]) (by omega) hN dL_law_1577 ?_
  refine os_callVi1 (pc := 1578) (d' := 1) dL_law_1578 vl_L_178 hR1.o rfl rfl rfl (by decide) ?_
  refine r_count hW1 hI (fun M2 hW2 => ?_)
  refine os_icmp_eq (pc := 1581) 1609 dL_law_1581 (by decide) (fun _ => ?_) (fun h9 => absurd rfl h9)
  exact os_less (Nat.le_succ b) (kk _ _ _ _ _ _ _ (hJ.k3 (Nat.le_refl z) hzs hC1 hW2 hI hc9))
theorem w_told {Γ : Cx} {b9 N : Nat} {xs : Nat → Int32} {a b j z sz : Nat} {σ κ vi : Rw} {va : Nat → Rw} {M : Nat → Option va_E} {Q : Option Value → Wd → Prop} (hJ : Jn Γ a z sz σ κ vi va M) (hN : N < 2 ^ 30) (hj : j + 6 ≤ N) (kk : Nx Γ b9 N xs a b j Q) : OkS (scX Γ b9 N xs) Γ mL_law 100 (b + 1) 1586 [some (.ref b9), some (.ref a), some (.ref (a + 92)), some (.int (nI j))] [] (M, sz) Q := by
  obtain ⟨hC, ⟨M0, hW⟩, hI, hc9, hk, hS, hT, hTr, hez, hzs⟩ := id hJ
  refine os_aload_n (pc := 1586) dL_law_1586 rfl ?_
  refine os_aload_n (pc := 1587) dL_law_1587 rfl ?_
  refine os_iload_n (pc := 1588) dL_law_1588 rfl ?_
  refine os_iconst (pc := 1589) (v := 1) dL_law_1589 (by decide) ?_
  refine os_iadd (pc := 1590) dL_law_1590 ?_
  refine os_sld (pc := 1591) (j + 1) (by rw [fa_lit 1, nI_add]) (by omega) hN dL_law_1591 ?_
  refine os_callVi1 (pc := 1592) (d' := 2) dL_law_1592 vl_L_179 hC.1 rfl rfl rfl (by decide) ?_
  refine x_told hC hI (by omega) (fun M1 hC1 hO1 => ?_)
  have hW1 := hW.mv (M' := M1) (fun q g1 g2 => hO1 q (by omega))
  obtain ⟨ri1, ra1, hR1, hv1, hu1⟩ := id hW1
  refine os_aload_n (pc := 1595) dL_law_1595 rfl ?_
  refine os_aload_n (pc := 1596) dL_law_1596 rfl ?_
  refine os_iload_n (pc := 1597) dL_law_1597 rfl ?_
  refine os_iconst (pc := 1598) (v := 1) dL_law_1598 (by decide) ?_
  refine os_iadd (pc := 1599) dL_law_1599 ?_
  refine os_sld (pc := 1600) (j + 1) (by rw [fa_lit 1, nI_add]) (by omega) hN dL_law_1600 ?_
  refine os_callVi1 (pc := 1601) (d' := 1) dL_law_1601 vl_L_182 hR1.o rfl rfl rfl (by decide) ?_
  refine r_told hW1 hI (fun M2 hW2 => ?_)
  refine os_icmp_eq (pc := 1604) 1609 dL_law_1604 (by decide) (fun _ => ?_) (fun h9 => absurd rfl h9)
  exact os_less (Nat.le_succ b) (kk _ _ _ _ _ _ _ (hJ.k3 (Nat.le_refl z) hzs hC1 hW2 hI hc9))
