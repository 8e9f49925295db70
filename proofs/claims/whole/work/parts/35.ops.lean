abbrev Op3 : Type := Nat × Int32 × Rw
def e3 (e : Nat) (σ : Rw) : Op3 := (e, -1000000000 - nI e, σ)
def op_hill (σ : Rw) (x y : Int32) : Op3 := if wi x 0 255 && wi y 0 9 then (if takF σ x (cH σ) then e3 3 σ else if σ 1 = 9 then e3 4 σ else (0, nI (cH σ), risF σ (cH σ) x y)) else e3 1 σ
def op_wind (σ : Rw) (x y : Int32) : Op3 := if wi x 0 23 && wi y 0 79 then (0, σ (27 + iN x), upd σ (27 + iN x) y) else e3 1 σ
def op_kite (σ : Rw) (x y z : Int32) : Op3 := if wi x 0 69 && wi y 0 (σ 1 - 1) && wi z 0 9999 && wi (jrem z 100) 1 40 then (if σ 2 = 8 then e3 4 σ else (0, nI (cK σ), flyF σ (cK σ) (x / 10) (jrem x 10) y (z / 100) (jrem z 100))) else e3 1 σ
def op_aim (σ : Rw) (x y : Int32) : Op3 := if wi x 0 (σ 2 - 1) && (decide (y = -1) || wi y 0 (σ 1 - 1)) then (if y = kf σ (iN x) 2 then e3 3 σ else (0, kf σ (iN x) 5, upd σ (51 + 6 * iN x + 5) y)) else e3 1 σ
def op_tell (σ : Rw) (v : Int32) : Op3 := if σ 7 = 20 then e3 4 σ else (0, σ 7 + 1, upd (upd σ (245 + iN (σ 7)) v) 7 (σ 7 + 1))
def op_seed (σ : Rw) (v : Int32) : Op3 := (0, σ 8, upd σ 8 v)
def op_count (σ : Rw) (tr x : Int32) : Nat × Int32 := if wi x 0 9 then (0, if x < 8 then σ (iN x) else if x = 8 then tr else σ 8) else (1, -1000000001)
def op_told (er : Rw) (x : Int32) : Nat × Int32 := if wi x 1 5 then (0, er (iN x)) else (1, -1000000001)
def op_trace (tr : Rw) (n x : Int32) : Nat × Int32 := if wi x 0 (n - 1) then (0, tr (iN x)) else (2, -1000000002)
def op_restore (im : Int32) (σ κ : Rw) : Op3 := if im = 0 then e3 2 σ else (0, κ 0, κ)
