def jrem (x y : Int32) : Int32 := x - x / y * y
def jshl (x y : Int32) : Int32 := x <<< (y &&& 31)
def jshr (x y : Int32) : Int32 := x >>> (y &&& 31)
def jushr (x y : Int32) : Int32 := (x.toUInt32 >>> (y.toUInt32 &&& Int32.toUInt32 31)).toInt32
def jlrem (x y : Int64) : Int64 := x - x / y * y
def jlshl (x : Int64) (y : Int32) : Int64 := x <<< (y.toInt64 &&& 63)
def jlshr (x : Int64) (y : Int32) : Int64 := x >>> (y.toInt64 &&& 63)
def jlushr (x : Int64) (y : Int32) : Int64 := (x.toUInt64 >>> (y.toInt64.toUInt64 &&& Int64.toUInt64 63)).toInt64
def ji2c (x : Int32) : Int32 := (x.toUInt32 % 65536).toInt32
section OkRules
variable {Γ : Cx} {f : Md} {d b pc : Nat} {L : List (Option Value)} {st : List Value} {G : Wd} {Q : Option Value → Wd → Prop}
theorem ok_iconst {n : Int} {v : Int32} (hd : decode f.2.1 pc = .ok (.iconst n, 1)) (hv : Int32.ofInt n = v) (k : Ok Γ f d b (pc + 1) L (.int v :: st) G Q) : Ok Γ f d b pc L st G Q :=
  fun p e s m args below meth c F H locs cells slots bb h1 h2 hH hS ls hl => lv_iconst F.1 F.2.1 hd hv (k p e s m args below meth c F H locs cells slots bb h1 h2 hH hS ls hl)
theorem ok_bipush {n : Int} {v : Int32} (hd : decode f.2.1 pc = .ok (.bipush n, 2)) (hv : (Int8.ofInt n).toInt32 = v) (k : Ok Γ f d b (pc + 2) L (.int v :: st) G Q) : Ok Γ f d b pc L st G Q :=
  fun p e s m args below meth c F H locs cells slots bb h1 h2 hH hS ls hl => lv_bipush F.1 F.2.1 hd hv (k p e s m args below meth c F H locs cells slots bb h1 h2 hH hS ls hl)
theorem ok_sipush {n : Int} {v : Int32} (hd : decode f.2.1 pc = .ok (.sipush n, 3)) (hv : (Int16.ofInt n).toInt32 = v) (k : Ok Γ f d b (pc + 3) L (.int v :: st) G Q) : Ok Γ f d b pc L st G Q :=
  fun p e s m args below meth c F H locs cells slots bb h1 h2 hH hS ls hl => lv_sipush F.1 F.2.1 hd hv (k p e s m args below meth c F H locs cells slots bb h1 h2 hH hS ls hl)
theorem ok_lconst {n : Fin 2} {v : Int64} (hd : decode f.2.1 pc = .ok (.lconst n, 1)) (hv : Int64.ofNat (n : Nat) = v) (k : Ok Γ f d b (pc + 1) L (.long v :: st) G Q) : Ok Γ f d b pc L st G Q :=
  fun p e s m args below meth c F H locs cells slots bb h1 h2 hH hS ls hl => lv_lconst F.1 F.2.1 hd hv (k p e s m args below meth c F H locs cells slots bb h1 h2 hH hS ls hl)
theorem ok_null  (hd : decode f.2.1 pc = .ok (.aconst_null, 1))  (k : Ok Γ f d b (pc + 1) L (.null :: st) G Q) : Ok Γ f d b pc L st G Q :=
  fun p e s m args below meth c F H locs cells slots bb h1 h2 hH hS ls hl => lv_null F.1 F.2.1 hd  (k p e s m args below meth c F H locs cells slots bb h1 h2 hH hS ls hl)
theorem ok_iload_n {j : Fin 4} {x : Int32} (hd : decode f.2.1 pc = .ok (.iload_n j, 1)) (hL : L[(j : Nat)]? = some (some (.int x))) (k : Ok Γ f d b (pc + 1) L (.int x :: st) G Q) : Ok Γ f d b pc L st G Q :=
  fun p e s m args below meth c F H locs cells slots bb h1 h2 hH hS ls hl => lv_iload_n F.1 F.2.1 hd rfl (hl.2.2 _ _ hL) (k p e s m args below meth c F H locs cells slots bb h1 h2 hH hS ls hl)
theorem ok_iload {j : Nat} {x : Int32} (hd : decode f.2.1 pc = .ok (.iload j, 2)) (hL : L[j]? = some (some (.int x))) (k : Ok Γ f d b (pc + 2) L (.int x :: st) G Q) : Ok Γ f d b pc L st G Q :=
  fun p e s m args below meth c F H locs cells slots bb h1 h2 hH hS ls hl => lv_iload F.1 F.2.1 hd (hl.2.2 _ _ hL) (k p e s m args below meth c F H locs cells slots bb h1 h2 hH hS ls hl)
theorem ok_lload_n {j : Fin 4} {x : Int64} (hd : decode f.2.1 pc = .ok (.lload_n j, 1)) (hL : L[(j : Nat)]? = some (some (.long x))) (k : Ok Γ f d b (pc + 1) L (.long x :: st) G Q) : Ok Γ f d b pc L st G Q :=
  fun p e s m args below meth c F H locs cells slots bb h1 h2 hH hS ls hl => lv_lload_n F.1 F.2.1 hd rfl (hl.2.2 _ _ hL) (k p e s m args below meth c F H locs cells slots bb h1 h2 hH hS ls hl)
theorem ok_lload {j : Nat} {x : Int64} (hd : decode f.2.1 pc = .ok (.lload j, 2)) (hL : L[j]? = some (some (.long x))) (k : Ok Γ f d b (pc + 2) L (.long x :: st) G Q) : Ok Γ f d b pc L st G Q :=
  fun p e s m args below meth c F H locs cells slots bb h1 h2 hH hS ls hl => lv_lload F.1 F.2.1 hd (hl.2.2 _ _ hL) (k p e s m args below meth c F H locs cells slots bb h1 h2 hH hS ls hl)
theorem ok_aload_n {j : Fin 4} {x : Nat} (hd : decode f.2.1 pc = .ok (.aload_n j, 1)) (hL : L[(j : Nat)]? = some (some (.ref x))) (k : Ok Γ f d b (pc + 1) L (.ref x :: st) G Q) : Ok Γ f d b pc L st G Q :=
  fun p e s m args below meth c F H locs cells slots bb h1 h2 hH hS ls hl => lv_aload_n F.1 F.2.1 hd rfl (hl.2.2 _ _ hL) (k p e s m args below meth c F H locs cells slots bb h1 h2 hH hS ls hl)
theorem ok_aload {j : Nat} {x : Nat} (hd : decode f.2.1 pc = .ok (.aload j, 2)) (hL : L[j]? = some (some (.ref x))) (k : Ok Γ f d b (pc + 2) L (.ref x :: st) G Q) : Ok Γ f d b pc L st G Q :=
  fun p e s m args below meth c F H locs cells slots bb h1 h2 hH hS ls hl => lv_aload F.1 F.2.1 hd (hl.2.2 _ _ hL) (k p e s m args below meth c F H locs cells slots bb h1 h2 hH hS ls hl)
theorem ok_iadd {x y : Int32} (hd : decode f.2.1 pc = .ok (.iadd, 1))  (k : Ok Γ f d b (pc + 1) L (.int (x + y) :: st) G Q) : Ok Γ f d b pc L (.int y :: .int x :: st) G Q :=
  fun p e s m args below meth c F H locs cells slots bb h1 h2 hH hS ls hl => lv_iadd F.1 F.2.1 hd  (k p e s m args below meth c F H locs cells slots bb h1 h2 hH hS ls hl)
theorem ok_isub {x y : Int32} (hd : decode f.2.1 pc = .ok (.isub, 1))  (k : Ok Γ f d b (pc + 1) L (.int (x - y) :: st) G Q) : Ok Γ f d b pc L (.int y :: .int x :: st) G Q :=
  fun p e s m args below meth c F H locs cells slots bb h1 h2 hH hS ls hl => lv_isub F.1 F.2.1 hd  (k p e s m args below meth c F H locs cells slots bb h1 h2 hH hS ls hl)
theorem ok_imul {x y : Int32} (hd : decode f.2.1 pc = .ok (.imul, 1))  (k : Ok Γ f d b (pc + 1) L (.int (x * y) :: st) G Q) : Ok Γ f d b pc L (.int y :: .int x :: st) G Q :=
  fun p e s m args below meth c F H locs cells slots bb h1 h2 hH hS ls hl => lv_imul F.1 F.2.1 hd  (k p e s m args below meth c F H locs cells slots bb h1 h2 hH hS ls hl)
theorem ok_iand {x y : Int32} (hd : decode f.2.1 pc = .ok (.iand, 1))  (k : Ok Γ f d b (pc + 1) L (.int (x &&& y) :: st) G Q) : Ok Γ f d b pc L (.int y :: .int x :: st) G Q :=
  fun p e s m args below meth c F H locs cells slots bb h1 h2 hH hS ls hl => lv_iand F.1 F.2.1 hd  (k p e s m args below meth c F H locs cells slots bb h1 h2 hH hS ls hl)
theorem ok_ior {x y : Int32} (hd : decode f.2.1 pc = .ok (.ior, 1))  (k : Ok Γ f d b (pc + 1) L (.int (x ||| y) :: st) G Q) : Ok Γ f d b pc L (.int y :: .int x :: st) G Q :=
  fun p e s m args below meth c F H locs cells slots bb h1 h2 hH hS ls hl => lv_ior F.1 F.2.1 hd  (k p e s m args below meth c F H locs cells slots bb h1 h2 hH hS ls hl)
theorem ok_ixor {x y : Int32} (hd : decode f.2.1 pc = .ok (.ixor, 1))  (k : Ok Γ f d b (pc + 1) L (.int (x ^^^ y) :: st) G Q) : Ok Γ f d b pc L (.int y :: .int x :: st) G Q :=
  fun p e s m args below meth c F H locs cells slots bb h1 h2 hH hS ls hl => lv_ixor F.1 F.2.1 hd  (k p e s m args below meth c F H locs cells slots bb h1 h2 hH hS ls hl)
theorem ok_ishl {x y : Int32} (hd : decode f.2.1 pc = .ok (.ishl, 1))  (k : Ok Γ f d b (pc + 1) L (.int (jshl x y) :: st) G Q) : Ok Γ f d b pc L (.int y :: .int x :: st) G Q :=
  fun p e s m args below meth c F H locs cells slots bb h1 h2 hH hS ls hl => lv_ishl F.1 F.2.1 hd  (k p e s m args below meth c F H locs cells slots bb h1 h2 hH hS ls hl)
theorem ok_ishr {x y : Int32} (hd : decode f.2.1 pc = .ok (.ishr, 1))  (k : Ok Γ f d b (pc + 1) L (.int (jshr x y) :: st) G Q) : Ok Γ f d b pc L (.int y :: .int x :: st) G Q :=
  fun p e s m args below meth c F H locs cells slots bb h1 h2 hH hS ls hl => lv_ishr F.1 F.2.1 hd  (k p e s m args below meth c F H locs cells slots bb h1 h2 hH hS ls hl)
theorem ok_iushr {x y : Int32} (hd : decode f.2.1 pc = .ok (.iushr, 1))  (k : Ok Γ f d b (pc + 1) L (.int (jushr x y) :: st) G Q) : Ok Γ f d b pc L (.int y :: .int x :: st) G Q :=
  fun p e s m args below meth c F H locs cells slots bb h1 h2 hH hS ls hl => lv_iushr F.1 F.2.1 hd rfl (k p e s m args below meth c F H locs cells slots bb h1 h2 hH hS ls hl)
theorem ok_idiv {x y : Int32} (hd : decode f.2.1 pc = .ok (.idiv, 1)) (hne : ¬ y = 0) (k : Ok Γ f d b (pc + 1) L (.int (x / y) :: st) G Q) : Ok Γ f d b pc L (.int y :: .int x :: st) G Q :=
  fun p e s m args below meth c F H locs cells slots bb h1 h2 hH hS ls hl => lv_idiv F.1 F.2.1 hd hne (k p e s m args below meth c F H locs cells slots bb h1 h2 hH hS ls hl)
theorem ok_irem {x y : Int32} (hd : decode f.2.1 pc = .ok (.irem, 1)) (hne : ¬ y = 0) (k : Ok Γ f d b (pc + 1) L (.int (jrem x y) :: st) G Q) : Ok Γ f d b pc L (.int y :: .int x :: st) G Q :=
  fun p e s m args below meth c F H locs cells slots bb h1 h2 hH hS ls hl => lv_irem F.1 F.2.1 hd hne (k p e s m args below meth c F H locs cells slots bb h1 h2 hH hS ls hl)
theorem ok_ineg {x : Int32} (hd : decode f.2.1 pc = .ok (.ineg, 1))  (k : Ok Γ f d b (pc + 1) L (.int (-x) :: st) G Q) : Ok Γ f d b pc L (.int x :: st) G Q :=
  fun p e s m args below meth c F H locs cells slots bb h1 h2 hH hS ls hl => lv_ineg F.1 F.2.1 hd  (k p e s m args below meth c F H locs cells slots bb h1 h2 hH hS ls hl)
theorem ok_ladd {x y : Int64} (hd : decode f.2.1 pc = .ok (.ladd, 1))  (k : Ok Γ f d b (pc + 1) L (.long (x + y) :: st) G Q) : Ok Γ f d b pc L (.long y :: .long x :: st) G Q :=
  fun p e s m args below meth c F H locs cells slots bb h1 h2 hH hS ls hl => lv_ladd F.1 F.2.1 hd  (k p e s m args below meth c F H locs cells slots bb h1 h2 hH hS ls hl)
theorem ok_lsub {x y : Int64} (hd : decode f.2.1 pc = .ok (.lsub, 1))  (k : Ok Γ f d b (pc + 1) L (.long (x - y) :: st) G Q) : Ok Γ f d b pc L (.long y :: .long x :: st) G Q :=
  fun p e s m args below meth c F H locs cells slots bb h1 h2 hH hS ls hl => lv_lsub F.1 F.2.1 hd  (k p e s m args below meth c F H locs cells slots bb h1 h2 hH hS ls hl)
theorem ok_lmul {x y : Int64} (hd : decode f.2.1 pc = .ok (.lmul, 1))  (k : Ok Γ f d b (pc + 1) L (.long (x * y) :: st) G Q) : Ok Γ f d b pc L (.long y :: .long x :: st) G Q :=
  fun p e s m args below meth c F H locs cells slots bb h1 h2 hH hS ls hl => lv_lmul F.1 F.2.1 hd  (k p e s m args below meth c F H locs cells slots bb h1 h2 hH hS ls hl)
theorem ok_land {x y : Int64} (hd : decode f.2.1 pc = .ok (.land, 1))  (k : Ok Γ f d b (pc + 1) L (.long (x &&& y) :: st) G Q) : Ok Γ f d b pc L (.long y :: .long x :: st) G Q :=
  fun p e s m args below meth c F H locs cells slots bb h1 h2 hH hS ls hl => lv_land F.1 F.2.1 hd  (k p e s m args below meth c F H locs cells slots bb h1 h2 hH hS ls hl)
theorem ok_lor {x y : Int64} (hd : decode f.2.1 pc = .ok (.lor, 1))  (k : Ok Γ f d b (pc + 1) L (.long (x ||| y) :: st) G Q) : Ok Γ f d b pc L (.long y :: .long x :: st) G Q :=
  fun p e s m args below meth c F H locs cells slots bb h1 h2 hH hS ls hl => lv_lor F.1 F.2.1 hd  (k p e s m args below meth c F H locs cells slots bb h1 h2 hH hS ls hl)
theorem ok_ldiv {x y : Int64} (hd : decode f.2.1 pc = .ok (.ldiv, 1)) (hne : ¬ y = 0) (k : Ok Γ f d b (pc + 1) L (.long (x / y) :: st) G Q) : Ok Γ f d b pc L (.long y :: .long x :: st) G Q :=
  fun p e s m args below meth c F H locs cells slots bb h1 h2 hH hS ls hl => lv_ldiv F.1 F.2.1 hd hne (k p e s m args below meth c F H locs cells slots bb h1 h2 hH hS ls hl)
theorem ok_lrem {x y : Int64} (hd : decode f.2.1 pc = .ok (.lrem, 1)) (hne : ¬ y = 0) (k : Ok Γ f d b (pc + 1) L (.long (jlrem x y) :: st) G Q) : Ok Γ f d b pc L (.long y :: .long x :: st) G Q :=
  fun p e s m args below meth c F H locs cells slots bb h1 h2 hH hS ls hl => lv_lrem F.1 F.2.1 hd hne (k p e s m args below meth c F H locs cells slots bb h1 h2 hH hS ls hl)
theorem ok_lshl {x : Int64} {y : Int32} (hd : decode f.2.1 pc = .ok (.lshl, 1))  (k : Ok Γ f d b (pc + 1) L (.long (jlshl x y) :: st) G Q) : Ok Γ f d b pc L (.int y :: .long x :: st) G Q :=
  fun p e s m args below meth c F H locs cells slots bb h1 h2 hH hS ls hl => lv_lshl F.1 F.2.1 hd rfl (k p e s m args below meth c F H locs cells slots bb h1 h2 hH hS ls hl)
theorem ok_lshr {x : Int64} {y : Int32} (hd : decode f.2.1 pc = .ok (.lshr, 1))  (k : Ok Γ f d b (pc + 1) L (.long (jlshr x y) :: st) G Q) : Ok Γ f d b pc L (.int y :: .long x :: st) G Q :=
  fun p e s m args below meth c F H locs cells slots bb h1 h2 hH hS ls hl => lv_lshr F.1 F.2.1 hd rfl (k p e s m args below meth c F H locs cells slots bb h1 h2 hH hS ls hl)
theorem ok_lushr {x : Int64} {y : Int32} (hd : decode f.2.1 pc = .ok (.lushr, 1))  (k : Ok Γ f d b (pc + 1) L (.long (jlushr x y) :: st) G Q) : Ok Γ f d b pc L (.int y :: .long x :: st) G Q :=
  fun p e s m args below meth c F H locs cells slots bb h1 h2 hH hS ls hl => lv_lushr F.1 F.2.1 hd rfl (k p e s m args below meth c F H locs cells slots bb h1 h2 hH hS ls hl)
theorem ok_lcmp {x y : Int64} (hd : decode f.2.1 pc = .ok (.lcmp, 1))  (k : Ok Γ f d b (pc + 1) L (.int (lg_cmp x y) :: st) G Q) : Ok Γ f d b pc L (.long y :: .long x :: st) G Q :=
  fun p e s m args below meth c F H locs cells slots bb h1 h2 hH hS ls hl => W.lcmp F.1 F.2.1 hd  (k p e s m args below meth c F H locs cells slots bb h1 h2 hH hS ls hl)
theorem ok_i2l {x : Int32} (hd : decode f.2.1 pc = .ok (.i2l, 1))  (k : Ok Γ f d b (pc + 1) L (.long x.toInt64 :: st) G Q) : Ok Γ f d b pc L (.int x :: st) G Q :=
  fun p e s m args below meth c F H locs cells slots bb h1 h2 hH hS ls hl => lv_i2l F.1 F.2.1 hd rfl (k p e s m args below meth c F H locs cells slots bb h1 h2 hH hS ls hl)
theorem ok_l2i {x : Int64} (hd : decode f.2.1 pc = .ok (.l2i, 1))  (k : Ok Γ f d b (pc + 1) L (.int x.toInt32 :: st) G Q) : Ok Γ f d b pc L (.long x :: st) G Q :=
  fun p e s m args below meth c F H locs cells slots bb h1 h2 hH hS ls hl => lv_l2i F.1 F.2.1 hd rfl (k p e s m args below meth c F H locs cells slots bb h1 h2 hH hS ls hl)
theorem ok_i2b {x : Int32} (hd : decode f.2.1 pc = .ok (.i2b, 1))  (k : Ok Γ f d b (pc + 1) L (.int x.toInt8.toInt32 :: st) G Q) : Ok Γ f d b pc L (.int x :: st) G Q :=
  fun p e s m args below meth c F H locs cells slots bb h1 h2 hH hS ls hl => lv_i2b F.1 F.2.1 hd rfl (k p e s m args below meth c F H locs cells slots bb h1 h2 hH hS ls hl)
theorem ok_i2s {x : Int32} (hd : decode f.2.1 pc = .ok (.i2s, 1))  (k : Ok Γ f d b (pc + 1) L (.int x.toInt16.toInt32 :: st) G Q) : Ok Γ f d b pc L (.int x :: st) G Q :=
  fun p e s m args below meth c F H locs cells slots bb h1 h2 hH hS ls hl => lv_i2s F.1 F.2.1 hd rfl (k p e s m args below meth c F H locs cells slots bb h1 h2 hH hS ls hl)
theorem ok_i2c {x : Int32} (hd : decode f.2.1 pc = .ok (.i2c, 1))  (k : Ok Γ f d b (pc + 1) L (.int (ji2c x) :: st) G Q) : Ok Γ f d b pc L (.int x :: st) G Q :=
  fun p e s m args below meth c F H locs cells slots bb h1 h2 hH hS ls hl => lv_i2c F.1 F.2.1 hd rfl (k p e s m args below meth c F H locs cells slots bb h1 h2 hH hS ls hl)
theorem ok_dup {v : Value} (hd : decode f.2.1 pc = .ok (.dup, 1)) (hv : v.category = 1) (k : Ok Γ f d b (pc + 1) L (v :: v :: st) G Q) : Ok Γ f d b pc L (v :: st) G Q :=
  fun p e s m args below meth c F H locs cells slots bb h1 h2 hH hS ls hl => lv_dup F.1 F.2.1 hd hv (k p e s m args below meth c F H locs cells slots bb h1 h2 hH hS ls hl)
theorem ok_pop {v : Value} (hd : decode f.2.1 pc = .ok (.pop, 1)) (hv : v.category = 1) (k : Ok Γ f d b (pc + 1) L st G Q) : Ok Γ f d b pc L (v :: st) G Q :=
  fun p e s m args below meth c F H locs cells slots bb h1 h2 hH hS ls hl => lv_pop F.1 F.2.1 hd hv (k p e s m args below meth c F H locs cells slots bb h1 h2 hH hS ls hl)
theorem ok_dup_x1 {v w : Value} (hd : decode f.2.1 pc = .ok (.dup_x1, 1)) (hv : v.category = 1) (hw : w.category = 1) (k : Ok Γ f d b (pc + 1) L (v :: w :: v :: st) G Q) : Ok Γ f d b pc L (v :: w :: st) G Q :=
  fun p e s m args below meth c F H locs cells slots bb h1 h2 hH hS ls hl => lv_dup_x1 F.1 F.2.1 hd hv hw (k p e s m args below meth c F H locs cells slots bb h1 h2 hH hS ls hl)
theorem ok_dup2 {v w : Value} (hd : decode f.2.1 pc = .ok (.dup2, 1)) (hv : v.category = 1) (hw : w.category = 1) (k : Ok Γ f d b (pc + 1) L (v :: w :: v :: w :: st) G Q) : Ok Γ f d b pc L (v :: w :: st) G Q :=
  fun p e s m args below meth c F H locs cells slots bb h1 h2 hH hS ls hl => lv_dup2_11 F.1 F.2.1 hd hv hw (k p e s m args below meth c F H locs cells slots bb h1 h2 hH hS ls hl)
theorem ok_if_eq {x : Int32} {off : Int} (tgt : Nat) (hd : decode f.2.1 pc = .ok (.ifCond .eq off, 3)) (ht : (pc : Int) + off = (tgt : Int)) (k1 : x = 0 → Ok Γ f d b tgt L st G Q) (k2 : ¬ x = 0 → Ok Γ f d b (pc + 3) L st G Q) : Ok Γ f d b pc L (.int x :: st) G Q :=
  fun p e s m args below meth c F H locs cells slots bb h1 h2 hH hS ls hl => lv_if_eq F.1 F.2.1 hd ht (fun q => k1 q p e s m args below meth c F H locs cells slots bb h1 h2 hH hS ls hl) (fun q => k2 q p e s m args below meth c F H locs cells slots bb h1 h2 hH hS ls hl)
theorem ok_icmp_eq {x y : Int32} {off : Int} (tgt : Nat) (hd : decode f.2.1 pc = .ok (.if_icmp .eq off, 3)) (ht : (pc : Int) + off = (tgt : Int)) (k1 : x = y → Ok Γ f d b tgt L st G Q) (k2 : ¬ x = y → Ok Γ f d b (pc + 3) L st G Q) : Ok Γ f d b pc L (.int y :: .int x :: st) G Q :=
  fun p e s m args below meth c F H locs cells slots bb h1 h2 hH hS ls hl => lv_icmp_eq F.1 F.2.1 hd ht (fun q => k1 q p e s m args below meth c F H locs cells slots bb h1 h2 hH hS ls hl) (fun q => k2 q p e s m args below meth c F H locs cells slots bb h1 h2 hH hS ls hl)
theorem ok_if_ne {x : Int32} {off : Int} (tgt : Nat) (hd : decode f.2.1 pc = .ok (.ifCond .ne off, 3)) (ht : (pc : Int) + off = (tgt : Int)) (k1 : ¬ x = 0 → Ok Γ f d b tgt L st G Q) (k2 : x = 0 → Ok Γ f d b (pc + 3) L st G Q) : Ok Γ f d b pc L (.int x :: st) G Q :=
  fun p e s m args below meth c F H locs cells slots bb h1 h2 hH hS ls hl => lv_if_ne F.1 F.2.1 hd ht (fun q => k1 q p e s m args below meth c F H locs cells slots bb h1 h2 hH hS ls hl) (fun q => k2 q p e s m args below meth c F H locs cells slots bb h1 h2 hH hS ls hl)
theorem ok_icmp_ne {x y : Int32} {off : Int} (tgt : Nat) (hd : decode f.2.1 pc = .ok (.if_icmp .ne off, 3)) (ht : (pc : Int) + off = (tgt : Int)) (k1 : ¬ x = y → Ok Γ f d b tgt L st G Q) (k2 : x = y → Ok Γ f d b (pc + 3) L st G Q) : Ok Γ f d b pc L (.int y :: .int x :: st) G Q :=
  fun p e s m args below meth c F H locs cells slots bb h1 h2 hH hS ls hl => lv_icmp_ne F.1 F.2.1 hd ht (fun q => k1 q p e s m args below meth c F H locs cells slots bb h1 h2 hH hS ls hl) (fun q => k2 q p e s m args below meth c F H locs cells slots bb h1 h2 hH hS ls hl)
theorem ok_if_lt {x : Int32} {off : Int} (tgt : Nat) (hd : decode f.2.1 pc = .ok (.ifCond .lt off, 3)) (ht : (pc : Int) + off = (tgt : Int)) (k1 : x < 0 → Ok Γ f d b tgt L st G Q) (k2 : ¬ x < 0 → Ok Γ f d b (pc + 3) L st G Q) : Ok Γ f d b pc L (.int x :: st) G Q :=
  fun p e s m args below meth c F H locs cells slots bb h1 h2 hH hS ls hl => lv_if_lt F.1 F.2.1 hd ht (fun q => k1 q p e s m args below meth c F H locs cells slots bb h1 h2 hH hS ls hl) (fun q => k2 q p e s m args below meth c F H locs cells slots bb h1 h2 hH hS ls hl)
theorem ok_icmp_lt {x y : Int32} {off : Int} (tgt : Nat) (hd : decode f.2.1 pc = .ok (.if_icmp .lt off, 3)) (ht : (pc : Int) + off = (tgt : Int)) (k1 : x < y → Ok Γ f d b tgt L st G Q) (k2 : ¬ x < y → Ok Γ f d b (pc + 3) L st G Q) : Ok Γ f d b pc L (.int y :: .int x :: st) G Q :=
  fun p e s m args below meth c F H locs cells slots bb h1 h2 hH hS ls hl => lv_icmp_lt F.1 F.2.1 hd ht (fun q => k1 q p e s m args below meth c F H locs cells slots bb h1 h2 hH hS ls hl) (fun q => k2 q p e s m args below meth c F H locs cells slots bb h1 h2 hH hS ls hl)
theorem ok_if_ge {x : Int32} {off : Int} (tgt : Nat) (hd : decode f.2.1 pc = .ok (.ifCond .ge off, 3)) (ht : (pc : Int) + off = (tgt : Int)) (k1 : 0 ≤ x → Ok Γ f d b tgt L st G Q) (k2 : ¬ 0 ≤ x → Ok Γ f d b (pc + 3) L st G Q) : Ok Γ f d b pc L (.int x :: st) G Q :=
  fun p e s m args below meth c F H locs cells slots bb h1 h2 hH hS ls hl => lv_if_ge F.1 F.2.1 hd ht (fun q => k1 q p e s m args below meth c F H locs cells slots bb h1 h2 hH hS ls hl) (fun q => k2 q p e s m args below meth c F H locs cells slots bb h1 h2 hH hS ls hl)
theorem ok_icmp_ge {x y : Int32} {off : Int} (tgt : Nat) (hd : decode f.2.1 pc = .ok (.if_icmp .ge off, 3)) (ht : (pc : Int) + off = (tgt : Int)) (k1 : y ≤ x → Ok Γ f d b tgt L st G Q) (k2 : ¬ y ≤ x → Ok Γ f d b (pc + 3) L st G Q) : Ok Γ f d b pc L (.int y :: .int x :: st) G Q :=
  fun p e s m args below meth c F H locs cells slots bb h1 h2 hH hS ls hl => lv_icmp_ge F.1 F.2.1 hd ht (fun q => k1 q p e s m args below meth c F H locs cells slots bb h1 h2 hH hS ls hl) (fun q => k2 q p e s m args below meth c F H locs cells slots bb h1 h2 hH hS ls hl)
theorem ok_if_gt {x : Int32} {off : Int} (tgt : Nat) (hd : decode f.2.1 pc = .ok (.ifCond .gt off, 3)) (ht : (pc : Int) + off = (tgt : Int)) (k1 : 0 < x → Ok Γ f d b tgt L st G Q) (k2 : ¬ 0 < x → Ok Γ f d b (pc + 3) L st G Q) : Ok Γ f d b pc L (.int x :: st) G Q :=
  fun p e s m args below meth c F H locs cells slots bb h1 h2 hH hS ls hl => lv_if_gt F.1 F.2.1 hd ht (fun q => k1 q p e s m args below meth c F H locs cells slots bb h1 h2 hH hS ls hl) (fun q => k2 q p e s m args below meth c F H locs cells slots bb h1 h2 hH hS ls hl)
theorem ok_icmp_gt {x y : Int32} {off : Int} (tgt : Nat) (hd : decode f.2.1 pc = .ok (.if_icmp .gt off, 3)) (ht : (pc : Int) + off = (tgt : Int)) (k1 : y < x → Ok Γ f d b tgt L st G Q) (k2 : ¬ y < x → Ok Γ f d b (pc + 3) L st G Q) : Ok Γ f d b pc L (.int y :: .int x :: st) G Q :=
  fun p e s m args below meth c F H locs cells slots bb h1 h2 hH hS ls hl => lv_icmp_gt F.1 F.2.1 hd ht (fun q => k1 q p e s m args below meth c F H locs cells slots bb h1 h2 hH hS ls hl) (fun q => k2 q p e s m args below meth c F H locs cells slots bb h1 h2 hH hS ls hl)
theorem ok_if_le {x : Int32} {off : Int} (tgt : Nat) (hd : decode f.2.1 pc = .ok (.ifCond .le off, 3)) (ht : (pc : Int) + off = (tgt : Int)) (k1 : x ≤ 0 → Ok Γ f d b tgt L st G Q) (k2 : ¬ x ≤ 0 → Ok Γ f d b (pc + 3) L st G Q) : Ok Γ f d b pc L (.int x :: st) G Q :=
  fun p e s m args below meth c F H locs cells slots bb h1 h2 hH hS ls hl => lv_if_le F.1 F.2.1 hd ht (fun q => k1 q p e s m args below meth c F H locs cells slots bb h1 h2 hH hS ls hl) (fun q => k2 q p e s m args below meth c F H locs cells slots bb h1 h2 hH hS ls hl)
theorem ok_icmp_le {x y : Int32} {off : Int} (tgt : Nat) (hd : decode f.2.1 pc = .ok (.if_icmp .le off, 3)) (ht : (pc : Int) + off = (tgt : Int)) (k1 : x ≤ y → Ok Γ f d b tgt L st G Q) (k2 : ¬ x ≤ y → Ok Γ f d b (pc + 3) L st G Q) : Ok Γ f d b pc L (.int y :: .int x :: st) G Q :=
  fun p e s m args below meth c F H locs cells slots bb h1 h2 hH hS ls hl => lv_icmp_le F.1 F.2.1 hd ht (fun q => k1 q p e s m args below meth c F H locs cells slots bb h1 h2 hH hS ls hl) (fun q => k2 q p e s m args below meth c F H locs cells slots bb h1 h2 hH hS ls hl)
theorem ok_goto {off : Int} (tgt : Nat) (hd : decode f.2.1 pc = .ok (.goto off, 3)) (ht : (pc : Int) + off = (tgt : Int)) (k : Ok Γ f d b tgt L st G Q) : Ok Γ f d b pc L st G Q :=
  fun p e s m args below meth c F H locs cells slots bb h1 h2 hH hS ls hl => lv_goto F.1 F.2.1 hd ht (k p e s m args below meth c F H locs cells slots bb h1 h2 hH hS ls hl)
theorem ok_ifnull {x : Nat} {off : Int} (hd : decode f.2.1 pc = .ok (.ifnull off, 3)) (k : Ok Γ f d b (pc + 3) L st G Q) : Ok Γ f d b pc L (.ref x :: st) G Q :=
  fun p e s m args below meth c F H locs cells slots bb h1 h2 hH hS ls hl => lv_ifnull F.1 F.2.1 hd (k p e s m args below meth c F H locs cells slots bb h1 h2 hH hS ls hl)
theorem ok_ifnullN {off : Int} (tgt : Nat) (hd : decode f.2.1 pc = .ok (.ifnull off, 3)) (ht : (pc : Int) + off = (tgt : Int)) (k : Ok Γ f d b tgt L st G Q) : Ok Γ f d b pc L (.null :: st) G Q :=
  fun p e s m args below meth c F H locs cells slots bb h1 h2 hH hS ls hl => lv_ifnullN F.1 F.2.1 hd ht (k p e s m args below meth c F H locs cells slots bb h1 h2 hH hS ls hl)
theorem ok_ifnonnull {x : Nat} {off : Int} (tgt : Nat) (hd : decode f.2.1 pc = .ok (.ifnonnull off, 3)) (ht : (pc : Int) + off = (tgt : Int)) (k : Ok Γ f d b tgt L st G Q) : Ok Γ f d b pc L (.ref x :: st) G Q :=
  fun p e s m args below meth c F H locs cells slots bb h1 h2 hH hS ls hl => lv_ifnonnull F.1 F.2.1 hd ht (k p e s m args below meth c F H locs cells slots bb h1 h2 hH hS ls hl)
theorem ok_ifnonnullN {off : Int} (hd : decode f.2.1 pc = .ok (.ifnonnull off, 3)) (k : Ok Γ f d b (pc + 3) L st G Q) : Ok Γ f d b pc L (.null :: st) G Q :=
  fun p e s m args below meth c F H locs cells slots bb h1 h2 hH hS ls hl => lv_ifnonnullN F.1 F.2.1 hd (k p e s m args below meth c F H locs cells slots bb h1 h2 hH hS ls hl)
theorem ok_table {dflt lo hi : Int} {offs : Array Int} {len : Nat} {x : Int32} {off : Int} (tgt : Nat) (hd : decode f.2.1 pc = .ok (.tableswitch dflt lo hi offs, len)) (h1' : ¬ x.toInt < lo) (h2' : ¬ hi < x.toInt) (ho : offs[(x.toInt - lo).toNat]? = some off) (ht : (pc : Int) + off = (tgt : Int)) (k : Ok Γ f d b tgt L st G Q) : Ok Γ f d b pc L (.int x :: st) G Q :=
  fun p e s m args below meth c F H locs cells slots bb h1 h2 hH hS ls hl => lv_tableIn F.1 F.2.1 hd h1' h2' ho ht (k p e s m args below meth c F H locs cells slots bb h1 h2 hH hS ls hl)
theorem ok_tableOut {dflt lo hi : Int} {offs : Array Int} {len : Nat} {x : Int32} (tgt : Nat) (hd : decode f.2.1 pc = .ok (.tableswitch dflt lo hi offs, len)) (h : x.toInt < lo ∨ hi < x.toInt) (ht : (pc : Int) + dflt = (tgt : Int)) (k : Ok Γ f d b tgt L st G Q) : Ok Γ f d b pc L (.int x :: st) G Q :=
  fun p e s m args below meth c F H locs cells slots bb h1 h2 hH hS ls hl => lv_tableOut F.1 F.2.1 hd h ht (k p e s m args below meth c F H locs cells slots bb h1 h2 hH hS ls hl)
theorem ok_lookup {dflt : Int} {ps : Array (Int × Int)} {len : Nat} {x : Int32} {off : Int} (tgt : Nat) (hd : decode f.2.1 pc = .ok (.lookupswitch dflt ps, len)) (hp : (ps.toList.zip (ps.toList.drop 1)).all (fun (a, next) => a.1 < next.1) = true) (ho : Op.lookupswitch.offset ps.toList dflt x.toInt = off) (ht : (pc : Int) + off = (tgt : Int)) (k : Ok Γ f d b tgt L st G Q) : Ok Γ f d b pc L (.int x :: st) G Q :=
  fun p e s m args below meth c F H locs cells slots bb h1 h2 hH hS ls hl => lv_lookup F.1 F.2.1 hd hp ho ht (k p e s m args below meth c F H locs cells slots bb h1 h2 hH hS ls hl)
theorem ok_ldc {idx : Nat} {v : Int32} (hd : decode f.2.1 pc = .ok (.ldc idx, 2)) (hw : Cond.constant f.1.cls idx v ∈ lwg) (k : Ok Γ f d b (pc + 2) L (.int v :: st) G Q) : Ok Γ f d b pc L st G Q :=
  fun p e s m args below meth c F H locs cells slots bb h1 h2 hH hS ls hl => lv_ldc F.1 F.2.1 F.2.2.2.2.1 (F.2.2.2.2.2.1 _ hw) hd (k p e s m args below meth c F H locs cells slots bb h1 h2 hH hS ls hl)
theorem ok_ldcw {idx : Nat} {v : Int32} (hd : decode f.2.1 pc = .ok (.ldc_w idx, 3)) (hw : Cond.constant f.1.cls idx v ∈ lwg) (k : Ok Γ f d b (pc + 3) L (.int v :: st) G Q) : Ok Γ f d b pc L st G Q :=
  fun p e s m args below meth c F H locs cells slots bb h1 h2 hH hS ls hl => lv_ldcw F.1 F.2.1 F.2.2.2.2.1 (F.2.2.2.2.2.1 _ hw) hd (k p e s m args below meth c F H locs cells slots bb h1 h2 hH hS ls hl)
theorem ok_ldc2 {idx : Nat} {v : Int64} (hd : decode f.2.1 pc = .ok (.ldc2_w idx, 3)) (hw : Cond.constantLong f.1.cls idx v ∈ lwg) (k : Ok Γ f d b (pc + 3) L (.long v :: st) G Q) : Ok Γ f d b pc L st G Q :=
  fun p e s m args below meth c F H locs cells slots bb h1 h2 hH hS ls hl => lv_ldc2 F.1 F.2.1 F.2.2.2.2.1 (F.2.2.2.2.2.1 _ hw) hd (k p e s m args below meth c F H locs cells slots bb h1 h2 hH hS ls hl)
theorem widen_ret {p : Program} {l : Launch} {e : Env} {R : Room} {s : State} {m : MethodId} {args : Array Value} {below : List Frame} {meth : Method} {c : Code} {H : Heap} {locs : List Loc} {cells slots bb b : Nat} {X : State → Prop} {g : JFrame} (h1 : cells + b ≤ bb) (h2 : slots + 400 * b ≤ 400 * bb) (k : W p l e R s m args below meth c H locs bb (400 * bb) X g) : W p l e R s m args below meth c H locs cells slots X g :=
  W.widen (by omega) (by omega) k
theorem ok_iret {K : Int32 → Wd → Prop} {x : Int32} (hd : decode f.2.1 pc = .ok (.ireturn, 1)) (hr : f.2.2.2 = some .int) (k : K x G) : Ok Γ f d b pc L [.int x] G (ci K) :=
  fun p e s m args below meth c F H locs cells slots bb h1 h2 hH hS ls hl => widen_ret h1 h2 (W.iret (v := x) F.1 F.2.1 (F.2.2.1.trans hr) (fun t ht hW => ⟨⟨_, G, rfl, ⟨x, rfl, k⟩, by rw [ht]; exact hH⟩, hS.F ht⟩) hS.2.2 hd F.2.2.2.2.2.2.1)
theorem ok_zret {K : Int32 → Wd → Prop} {x : Int32} (hd : decode f.2.1 pc = .ok (.ireturn, 1)) (hr : f.2.2.2 = some .boolean) (hn : narrow .boolean (.int x) = .int x) (k : K x G) : Ok Γ f d b pc L [.int x] G (ci K) :=
  fun p e s m args below meth c F H locs cells slots bb h1 h2 hH hS ls hl => widen_ret h1 h2 (W.zret (v := x) F.1 F.2.1 (F.2.2.1.trans hr) hn (fun t ht hW => ⟨⟨_, G, rfl, ⟨x, rfl, k⟩, by rw [ht]; exact hH⟩, hS.F ht⟩) hS.2.2 hd F.2.2.2.2.2.2.1)
theorem ok_nret {K : Int32 → Wd → Prop} {x : Int32} {ty : FieldType} (hd : decode f.2.1 pc = .ok (.ireturn, 1)) (hr : f.2.2.2 = some ty) (hn : narrow ty (.int x) = .int x) (k : K x G) : Ok Γ f d b pc L [.int x] G (ci K) :=
  fun p e s m args below meth c F H locs cells slots bb h1 h2 hH hS ls hl => widen_ret h1 h2 (W.zret (v := x) F.1 F.2.1 (F.2.2.1.trans hr) hn (fun t ht hW => ⟨⟨_, G, rfl, ⟨x, rfl, k⟩, by rw [ht]; exact hH⟩, hS.F ht⟩) hS.2.2 hd F.2.2.2.2.2.2.1)
theorem ok_lret {K : Int64 → Wd → Prop} {x : Int64} (hd : decode f.2.1 pc = .ok (.lreturn, 1)) (hr : f.2.2.2 = some .long) (k : K x G) : Ok Γ f d b pc L [.long x] G (cl K) :=
  fun p e s m args below meth c F H locs cells slots bb h1 h2 hH hS ls hl => widen_ret h1 h2 (W.lret (v := x) F.1 F.2.1 (F.2.2.1.trans hr) (fun t ht hW => ⟨⟨_, G, rfl, ⟨x, rfl, k⟩, by rw [ht]; exact hH⟩, hS.F ht⟩) hS.2.2 hd F.2.2.2.2.2.2.1)
theorem ok_vret {K : Wd → Prop} (hd : decode f.2.1 pc = .ok (.return_, 1)) (hr : f.2.2.2 = none) (k : K G) : Ok Γ f d b pc L [] G (cv K) :=
  fun p e s m args below meth c F H locs cells slots bb h1 h2 hH hS ls hl => widen_ret h1 h2 (W.vret F.1 F.2.1 (F.2.2.1.trans hr) (fun t ht hW => ⟨⟨_, G, rfl, ⟨rfl, k⟩, by rw [ht]; exact hH⟩, hS.F ht⟩) hS.2.2 hd F.2.2.2.2.2.2.1)
theorem ok_aret {K : Option Nat → Wd → Prop} {r : Option Nat} {rt : FieldType} (hd : decode f.2.1 pc = .ok (.areturn, 1)) (hr : f.2.2.2 = some rt) (hrt : (∃ n, rt = .object n) ∨ ∃ t, rt = .array t) (k : K r G) : Ok Γ f d b pc L [va_rf r] G (cr K) :=
  fun p e s m args below meth c F H locs cells slots bb h1 h2 hH hS ls hl => widen_ret h1 h2 (W.aret (v := va_rf r) F.1 F.2.1 (F.2.2.1.trans hr) hrt (by cases r with | none => exact Or.inl rfl | some a => exact Or.inr ⟨a, rfl⟩) (fun t ht hW => ⟨⟨_, G, rfl, ⟨r, rfl, k⟩, by rw [ht]; exact hH⟩, hS.F ht⟩) hS.2.2 hd F.2.2.2.2.2.2.1)
end OkRules
