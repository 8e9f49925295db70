theorem u7_kf {σ : Rw} {v : Int32} (k f : Nat) : kf (upd σ 7 v) k f = kf σ k f := upd_ne (by omega)
theorem u7_lf {σ : Rw} {v : Int32} (k f : Nat) : lf (upd σ 7 v) k f = lf σ k f := upd_ne (by omega)
theorem u7_hz {σ : Rw} {v : Int32} (h : Nat) : hz (upd σ 7 v) h = hz σ h := upd_ne (by omega)
theorem u7_hx {σ : Rw} {v : Int32} (h : Nat) : hx (upd σ 7 v) h = hx σ h := by unfold hx; rw [upd_ne (by omega)]
theorem u7_hy {σ : Rw} {v : Int32} (h : Nat) : hy (upd σ 7 v) h = hy σ h := by unfold hy; rw [upd_ne (by omega)]
theorem u7_fc {σ : Rw} {v : Int32} (h : Nat) : fcF (upd σ 7 v) h = fcF σ h := by unfold fcF; rw [upd_ne (by omega)]
theorem u7_far {σ : Rw} {v : Int32} (x y : Nat) : farF (upd σ 7 v) x y = farF σ x y := by simp only [farF, u7_hx, u7_hy]
theorem u7_al {σ : Rw} {v : Int32} (x y : Nat) (w : Int32) : alF (upd σ 7 v) x y w = alF σ x y w := by simp only [alF, u7_hx, u7_hy]
theorem u7_pl {σ : Rw} {v : Int32} (k hill : Nat) (load force : Int32) (home : Nat) : plF (upd σ 7 v) k hill load force home = plF σ k hill load force home := by simp only [plF, u7_kf, u7_hz]
theorem u7_wkP {σ nm p0 : Rw} {v : Int32} {fr : Nat} (h : 8 ≤ fr) : ∀ n, wkP (upd σ 7 v) fr nm p0 n = wkP σ fr nm p0 n
  | 0 => rfl
  | n + 1 => by simp only [wkP, u7_wkP h n, upd_ne (f := σ) (x := v) (show fr + n ≠ 7 by omega)]
theorem u7_tx {σ : Rw} {v : Int32} (u : Nat) : txN (upd σ 7 v) u = txN σ u := by unfold txN; rw [upd_ne (by omega)]
theorem u7_giv {σ : Rw} {v : Int32} (u : Nat) (x y z w : Int32) : givF (upd σ 7 v) u x y z w = givF σ u x y z w := by
  unfold givF wkV
  rw [u7_wkP (by decide), u7_wkP (by decide), u7_tx, u7_tx, upd_ne (show 265 ≠ 7 by decide), upd_ne (show 317 ≠ 7 by decide)]
theorem u7_pull {σ : Rw} {v : Int32} (k hill : Nat) (load : Int32) (hour : Nat) (time : Int32) (home : Nat) : pullF (upd σ 7 v) k hill load hour time home = pullF σ k hill load hour time home := by simp only [pullF, u7_kf, u7_pl, u7_fc, u7_far, u7_giv]
theorem u7_stF {σ : Rw} {v : Int32} (k hill : Nat) (load : Int32) (hour : Nat) (time : Int32) (home : Nat) : stF (upd σ 7 v) k hill load hour time home = stF σ k hill load hour time home := by
  unfold stF
  rw [u7_kf, u7_kf, u7_fc, u7_far, u7_al, u7_pull, upd_ne (show 27 + hour ≠ 7 by omega)]
theorem u7_hm {σ : Rw} {v : Int32} (k : Nat) : hmF (upd σ 7 v) k = hmF σ k := by simp only [hmF, u7_kf]
theorem u7_am {σ : Rw} {v : Int32} (k : Nat) : amF (upd σ 7 v) k = amF σ k := by simp only [amF, u7_kf]
theorem u7_cH {σ : Rw} {v : Int32} : cH (upd σ 7 v) = cH σ := by unfold cH; rw [upd_ne (show 1 ≠ 7 by decide)]
theorem u7_cK {σ : Rw} {v : Int32} : cK (upd σ 7 v) = cK σ := by unfold cK; rw [upd_ne (show 2 ≠ 7 by decide)]
theorem u7_cL {σ : Rw} {v : Int32} : cL (upd σ 7 v) = cL σ := by unfold cL; rw [upd_ne (show 3 ≠ 7 by decide)]
theorem u7_cA {σ : Rw} {v : Int32} : cA (upd σ 7 v) = cA σ := by unfold cA; rw [upd_ne (show 4 ≠ 7 by decide)]
theorem u7_cT {σ : Rw} {v : Int32} : cT (upd σ 7 v) = cT σ := by unfold cT; rw [upd_ne (show 0 ≠ 7 by decide)]
theorem u7_stS {σ : Rw} {v : Int32} (k hill : Nat) (load : Int32) (hour : Nat) (time : Int32) : stS (upd σ 7 v) k hill load hour time = stS σ k hill load hour time := by unfold stS; rw [u7_stF, u7_hm]
theorem u7_stN {σ : Rw} {v : Int32} (k hill : Nat) (load : Int32) : stN (upd σ 7 v) k hill load = stN σ k hill load := by unfold stN; rw [u7_stS, u7_cT, upd_ne (show 0 ≠ 7 by decide)]
theorem u7_lonN {σ : Rw} {v : Int32} {h : Int32} : ∀ n, lonN (upd σ 7 v) h n = lonN σ h n
  | 0 => rfl
  | n + 1 => by simp only [lonN, u7_lonN n, u7_lf]
theorem u7_tkOn {σ : Rw} {v : Int32} (k mv : Nat) : tkOn (upd σ 7 v) k mv = tkOn σ k mv := by
  unfold tkOn
  rw [u7_lonN, u7_kf, u7_cL]
theorem u7_com {σ : Rw} {v : Int32} (l : Nat) (h : Int32) : comF (upd σ 7 v) l h = upd (comF σ l h) 7 v := by
  unfold comF
  rw [u7_lf, u7_lf, u7_lf, u7_cA, u7_giv, upd_ne (show 0 ≠ 7 by decide), upd_ne (show 4 ≠ 7 by decide), upd_ne (show 5 ≠ 7 by decide)]
  split
  · rw [fa_upd_swap _ (show 7 ≠ 99 + 7 * l + 5 by omega), fa_upd_swap _ (show 7 ≠ 99 + 7 * l + 6 by omega), fa_upd_swap _ (show 7 ≠ 183 + cA σ by omega), fa_upd_swap _ (show 7 ≠ 4 by decide), fa_upd_swap _ (show 7 ≠ 5 by decide)]
  · rw [fa_upd_swap _ (show 7 ≠ 99 + 7 * l + 5 by omega)]
theorem u7_tkS {σ : Rw} {v : Int32} {k on aim : Nat} : ∀ n, tkS (upd σ 7 v) k on aim n = (upd (tkS σ k on aim n).1 7 v, (tkS σ k on aim n).2)
  | 0 => rfl
  | n + 1 => by
    simp only [tkS]
    rw [u7_tkS n]
    simp only [u7_stN, u7_lf, u7_com]
    cases c : (on.testBit n && stN (tkS σ k on aim n).1 k aim ((tkS σ k on aim n).2.1 + lf (tkS σ k on aim n).1 n 2)) with
    | true => rfl
    | false => rfl
theorem u7_hrS {σ : Rw} {v : Int32} {up : Nat} : ∀ n, hrS (upd σ 7 v) up n = (upd (hrS σ up n).1 7 v, (hrS σ up n).2)
  | 0 => rfl
  | n + 1 => by
    simp only [hrS]
    rw [u7_hrS n]
    simp only [u7_tkOn, u7_am, u7_cL, u7_tkS]
    cases c : up.testBit n with
    | true => rfl
    | false => rfl
theorem u7_turn {σ : Rw} {v : Int32} (x y z : Nat) : turnF (upd σ 7 v) x y z = turnF σ x y z := by simp only [turnF, u7_hx, u7_hy]
theorem u7_ovl {σ : Rw} {v : Int32} (x y z w : Nat) : ovlF (upd σ 7 v) x y z w = ovlF σ x y z w := by simp only [ovlF, u7_hx, u7_hy]
theorem u7_hmr {σ : Rw} {v : Int32} (x y z w : Nat) : hmrF (upd σ 7 v) x y z w = hmrF σ x y z w := by simp only [hmrF, u7_turn, u7_ovl]
theorem u7_cr {σ : Rw} {v : Int32} (k o : Nat) : crF (upd σ 7 v) k o = crF σ k o := by simp only [crF, u7_hmr, u7_hm, u7_am]
theorem u7_ah {σ : Rw} {v : Int32} (k o : Nat) : ahF (upd σ 7 v) k o = ahF σ k o := by simp only [ahF, u7_kf]
theorem u7_fsC {σ : Rw} {v : Int32} (n : Nat) (o : Option Nat) : fsC (upd σ 7 v) n o = fsC σ n o := by
  cases o with
  | none => rfl
  | some q => exact u7_ah n q
theorem u7_fsN {σ : Rw} {v : Int32} {A : Nat} : ∀ n, fsN (upd σ 7 v) A n = fsN σ A n
  | 0 => rfl
  | n + 1 => by simp only [fsN, u7_fsN n, u7_fsC]
theorem u7_dnN {σ : Rw} {v : Int32} {U q : Nat} : ∀ n, dnN (upd σ 7 v) U q n = dnN σ U q n
  | 0 => rfl
  | n + 1 => by simp only [dnN, u7_dnN n, u7_cr]
theorem u7_ln {σ : Rw} {v : Int32} (k : Nat) : lnF (upd σ 7 v) k = lnF σ k := by simp only [lnF, u7_kf, u7_stN, u7_am]
theorem u7_hvN {σ : Rw} {v : Int32} : ∀ n, hvN (upd σ 7 v) n = hvN σ n
  | 0 => rfl
  | n + 1 => by simp only [hvN, u7_hvN n, u7_ln]
theorem u7_suN {σ : Rw} {v : Int32} : ∀ f A U, suN (upd σ 7 v) f A U = suN σ f A U
  | 0, _, _ => rfl
  | f + 1, A, U => by simp only [suN, u7_fsN, u7_cK, u7_dnN, u7_suN f]
theorem u7_hour {σ : Rw} {v : Int32} : hourF (upd σ 7 v) = upd (hourF σ) 7 v := by
  unfold hourF upN
  rw [u7_suN, u7_hvN, u7_cK, u7_hrS, upd_ne (show 0 ≠ 7 by decide), fa_upd_swap _ (show 7 ≠ 0 by decide)]
theorem u7_hrs {σ : Rw} {v : Int32} : ∀ n, hrsF (upd σ 7 v) n = upd (hrsF σ n) 7 v
  | 0 => rfl
  | n + 1 => by
    show hourF (hrsF (upd σ 7 v) n) = _
    rw [u7_hrs n, u7_hour]
    rfl