section GOROWS
variable {M : MD} {Q : Option Value → Me → Prop} {pc : Nat} {L : List (Option Value)} {S : List Value} {m : Me} {cc zz : Nat}
theorem go_iconst {n : Int} {v : Int32} (hv : Int32.ofInt n = v) (d : decode M.b pc = .ok (.iconst n, 1)) (k : Go M Q (pc + 1) L (.int v :: S) m cc zz) : Go M Q pc L (S) m cc zz := by
  intro D ty b p l e s mm args below meth c C H locs ls hl hH hS
  exact lv_iconst C.1 C.2.1 d hv (k D ty b p l e s mm args below meth c C H locs ls hl hH hS)
theorem go_bipush {n : Int} {v : Int32} (hv : (Int8.ofInt n).toInt32 = v) (d : decode M.b pc = .ok (.bipush n, 2)) (k : Go M Q (pc + 2) L (.int v :: S) m cc zz) : Go M Q pc L (S) m cc zz := by
  intro D ty b p l e s mm args below meth c C H locs ls hl hH hS
  exact lv_bipush C.1 C.2.1 d hv (k D ty b p l e s mm args below meth c C H locs ls hl hH hS)
theorem go_sipush {n : Int} {v : Int32} (hv : (Int16.ofInt n).toInt32 = v) (d : decode M.b pc = .ok (.sipush n, 3)) (k : Go M Q (pc + 3) L (.int v :: S) m cc zz) : Go M Q pc L (S) m cc zz := by
  intro D ty b p l e s mm args below meth c C H locs ls hl hH hS
  exact lv_sipush C.1 C.2.1 d hv (k D ty b p l e s mm args below meth c C H locs ls hl hH hS)
theorem go_lconst {n : Fin 2} {v : Int64} (hv : Int64.ofNat (n : Nat) = v) (d : decode M.b pc = .ok (.lconst n, 1)) (k : Go M Q (pc + 1) L (.long v :: S) m cc zz) : Go M Q pc L (S) m cc zz := by
  intro D ty b p l e s mm args below meth c C H locs ls hl hH hS
  exact lv_lconst C.1 C.2.1 d hv (k D ty b p l e s mm args below meth c C H locs ls hl hH hS)
theorem go_iload_n {q : Fin 4} {i : Nat} {x : Int32} (hi : (q : Nat) = i) (hL : L[i]? = some (some (.int x))) (d : decode M.b pc = .ok (.iload_n q, 1)) (k : Go M Q (pc + 1) L (.int x :: S) m cc zz) : Go M Q pc L (S) m cc zz := by
  intro D ty b p l e s mm args below meth c C H locs ls hl hH hS
  exact lv_iload_n C.1 C.2.1 d hi (lvl_at hl hL) (k D ty b p l e s mm args below meth c C H locs ls hl hH hS)
theorem go_iload {i : Nat} {x : Int32} (hL : L[i]? = some (some (.int x))) (d : decode M.b pc = .ok (.iload i, 2)) (k : Go M Q (pc + 2) L (.int x :: S) m cc zz) : Go M Q pc L (S) m cc zz := by
  intro D ty b p l e s mm args below meth c C H locs ls hl hH hS
  exact lv_iload C.1 C.2.1 d (lvl_at hl hL) (k D ty b p l e s mm args below meth c C H locs ls hl hH hS)
theorem go_lload_n {q : Fin 4} {i : Nat} {x : Int64} (hi : (q : Nat) = i) (hL : L[i]? = some (some (.long x))) (d : decode M.b pc = .ok (.lload_n q, 1)) (k : Go M Q (pc + 1) L (.long x :: S) m cc zz) : Go M Q pc L (S) m cc zz := by
  intro D ty b p l e s mm args below meth c C H locs ls hl hH hS
  exact lv_lload_n C.1 C.2.1 d hi (lvl_at hl hL) (k D ty b p l e s mm args below meth c C H locs ls hl hH hS)
theorem go_lload {i : Nat} {x : Int64} (hL : L[i]? = some (some (.long x))) (d : decode M.b pc = .ok (.lload i, 2)) (k : Go M Q (pc + 2) L (.long x :: S) m cc zz) : Go M Q pc L (S) m cc zz := by
  intro D ty b p l e s mm args below meth c C H locs ls hl hH hS
  exact lv_lload C.1 C.2.1 d (lvl_at hl hL) (k D ty b p l e s mm args below meth c C H locs ls hl hH hS)
theorem go_aload_n {q : Fin 4} {i : Nat} {x : Nat} (hi : (q : Nat) = i) (hL : L[i]? = some (some (.ref x))) (d : decode M.b pc = .ok (.aload_n q, 1)) (k : Go M Q (pc + 1) L (.ref x :: S) m cc zz) : Go M Q pc L (S) m cc zz := by
  intro D ty b p l e s mm args below meth c C H locs ls hl hH hS
  exact lv_aload_n C.1 C.2.1 d hi (lvl_at hl hL) (k D ty b p l e s mm args below meth c C H locs ls hl hH hS)
theorem go_aload {i : Nat} {x : Nat} (hL : L[i]? = some (some (.ref x))) (d : decode M.b pc = .ok (.aload i, 2)) (k : Go M Q (pc + 2) L (.ref x :: S) m cc zz) : Go M Q pc L (S) m cc zz := by
  intro D ty b p l e s mm args below meth c C H locs ls hl hH hS
  exact lv_aload C.1 C.2.1 d (lvl_at hl hL) (k D ty b p l e s mm args below meth c C H locs ls hl hH hS)
theorem go_iadd {x y : Int32} (d : decode M.b pc = .ok (.iadd, 1)) (k : Go M Q (pc + 1) L (.int (x + y) :: S) m cc zz) : Go M Q pc L (.int y :: .int x :: S) m cc zz := by
  intro D ty b p l e s mm args below meth c C H locs ls hl hH hS
  exact lv_iadd C.1 C.2.1 d (k D ty b p l e s mm args below meth c C H locs ls hl hH hS)
theorem go_isub {x y : Int32} (d : decode M.b pc = .ok (.isub, 1)) (k : Go M Q (pc + 1) L (.int (x - y) :: S) m cc zz) : Go M Q pc L (.int y :: .int x :: S) m cc zz := by
  intro D ty b p l e s mm args below meth c C H locs ls hl hH hS
  exact lv_isub C.1 C.2.1 d (k D ty b p l e s mm args below meth c C H locs ls hl hH hS)
theorem go_imul {x y : Int32} (d : decode M.b pc = .ok (.imul, 1)) (k : Go M Q (pc + 1) L (.int (x * y) :: S) m cc zz) : Go M Q pc L (.int y :: .int x :: S) m cc zz := by
  intro D ty b p l e s mm args below meth c C H locs ls hl hH hS
  exact lv_imul C.1 C.2.1 d (k D ty b p l e s mm args below meth c C H locs ls hl hH hS)
theorem go_iand {x y : Int32} (d : decode M.b pc = .ok (.iand, 1)) (k : Go M Q (pc + 1) L (.int (x &&& y) :: S) m cc zz) : Go M Q pc L (.int y :: .int x :: S) m cc zz := by
  intro D ty b p l e s mm args below meth c C H locs ls hl hH hS
  exact lv_iand C.1 C.2.1 d (k D ty b p l e s mm args below meth c C H locs ls hl hH hS)
theorem go_ior {x y : Int32} (d : decode M.b pc = .ok (.ior, 1)) (k : Go M Q (pc + 1) L (.int (x ||| y) :: S) m cc zz) : Go M Q pc L (.int y :: .int x :: S) m cc zz := by
  intro D ty b p l e s mm args below meth c C H locs ls hl hH hS
  exact lv_ior C.1 C.2.1 d (k D ty b p l e s mm args below meth c C H locs ls hl hH hS)
theorem go_ixor {x y : Int32} (d : decode M.b pc = .ok (.ixor, 1)) (k : Go M Q (pc + 1) L (.int (x ^^^ y) :: S) m cc zz) : Go M Q pc L (.int y :: .int x :: S) m cc zz := by
  intro D ty b p l e s mm args below meth c C H locs ls hl hH hS
  exact lv_ixor C.1 C.2.1 d (k D ty b p l e s mm args below meth c C H locs ls hl hH hS)
theorem go_ishl {x y : Int32} (d : decode M.b pc = .ok (.ishl, 1)) (k : Go M Q (pc + 1) L (.int (x <<< (y &&& 31)) :: S) m cc zz) : Go M Q pc L (.int y :: .int x :: S) m cc zz := by
  intro D ty b p l e s mm args below meth c C H locs ls hl hH hS
  exact lv_ishl C.1 C.2.1 d (k D ty b p l e s mm args below meth c C H locs ls hl hH hS)
theorem go_ishr {x y : Int32} (d : decode M.b pc = .ok (.ishr, 1)) (k : Go M Q (pc + 1) L (.int (x >>> (y &&& 31)) :: S) m cc zz) : Go M Q pc L (.int y :: .int x :: S) m cc zz := by
  intro D ty b p l e s mm args below meth c C H locs ls hl hH hS
  exact lv_ishr C.1 C.2.1 d (k D ty b p l e s mm args below meth c C H locs ls hl hH hS)
theorem go_ladd {x y : Int64} (d : decode M.b pc = .ok (.ladd, 1)) (k : Go M Q (pc + 1) L (.long (x + y) :: S) m cc zz) : Go M Q pc L (.long y :: .long x :: S) m cc zz := by
  intro D ty b p l e s mm args below meth c C H locs ls hl hH hS
  exact lv_ladd C.1 C.2.1 d (k D ty b p l e s mm args below meth c C H locs ls hl hH hS)
theorem go_lsub {x y : Int64} (d : decode M.b pc = .ok (.lsub, 1)) (k : Go M Q (pc + 1) L (.long (x - y) :: S) m cc zz) : Go M Q pc L (.long y :: .long x :: S) m cc zz := by
  intro D ty b p l e s mm args below meth c C H locs ls hl hH hS
  exact lv_lsub C.1 C.2.1 d (k D ty b p l e s mm args below meth c C H locs ls hl hH hS)
theorem go_lmul {x y : Int64} (d : decode M.b pc = .ok (.lmul, 1)) (k : Go M Q (pc + 1) L (.long (x * y) :: S) m cc zz) : Go M Q pc L (.long y :: .long x :: S) m cc zz := by
  intro D ty b p l e s mm args below meth c C H locs ls hl hH hS
  exact lv_lmul C.1 C.2.1 d (k D ty b p l e s mm args below meth c C H locs ls hl hH hS)
theorem go_land {x y : Int64} (d : decode M.b pc = .ok (.land, 1)) (k : Go M Q (pc + 1) L (.long (x &&& y) :: S) m cc zz) : Go M Q pc L (.long y :: .long x :: S) m cc zz := by
  intro D ty b p l e s mm args below meth c C H locs ls hl hH hS
  exact lv_land C.1 C.2.1 d (k D ty b p l e s mm args below meth c C H locs ls hl hH hS)
theorem go_lor {x y : Int64} (d : decode M.b pc = .ok (.lor, 1)) (k : Go M Q (pc + 1) L (.long (x ||| y) :: S) m cc zz) : Go M Q pc L (.long y :: .long x :: S) m cc zz := by
  intro D ty b p l e s mm args below meth c C H locs ls hl hH hS
  exact lv_lor C.1 C.2.1 d (k D ty b p l e s mm args below meth c C H locs ls hl hH hS)
theorem go_lxor {x y : Int64} (d : decode M.b pc = .ok (.lxor, 1)) (k : Go M Q (pc + 1) L (.long (x ^^^ y) :: S) m cc zz) : Go M Q pc L (.long y :: .long x :: S) m cc zz := by
  intro D ty b p l e s mm args below meth c C H locs ls hl hH hS
  exact lv_lxor C.1 C.2.1 d (k D ty b p l e s mm args below meth c C H locs ls hl hH hS)
theorem go_idiv {x y : Int32} (h0 : ¬ y = 0) (d : decode M.b pc = .ok (.idiv, 1)) (k : Go M Q (pc + 1) L (.int (x / y) :: S) m cc zz) : Go M Q pc L (.int y :: .int x :: S) m cc zz := by
  intro D ty b p l e s mm args below meth c C H locs ls hl hH hS
  exact lv_idiv C.1 C.2.1 d h0 (k D ty b p l e s mm args below meth c C H locs ls hl hH hS)
theorem go_irem {x y : Int32} (h0 : ¬ y = 0) (d : decode M.b pc = .ok (.irem, 1)) (k : Go M Q (pc + 1) L (.int (x - x / y * y) :: S) m cc zz) : Go M Q pc L (.int y :: .int x :: S) m cc zz := by
  intro D ty b p l e s mm args below meth c C H locs ls hl hH hS
  exact lv_irem C.1 C.2.1 d h0 (k D ty b p l e s mm args below meth c C H locs ls hl hH hS)
theorem go_ldiv {x y : Int64} (h0 : ¬ y = 0) (d : decode M.b pc = .ok (.ldiv, 1)) (k : Go M Q (pc + 1) L (.long (x / y) :: S) m cc zz) : Go M Q pc L (.long y :: .long x :: S) m cc zz := by
  intro D ty b p l e s mm args below meth c C H locs ls hl hH hS
  exact lv_ldiv C.1 C.2.1 d h0 (k D ty b p l e s mm args below meth c C H locs ls hl hH hS)
theorem go_lrem {x y : Int64} (h0 : ¬ y = 0) (d : decode M.b pc = .ok (.lrem, 1)) (k : Go M Q (pc + 1) L (.long (x - x / y * y) :: S) m cc zz) : Go M Q pc L (.long y :: .long x :: S) m cc zz := by
  intro D ty b p l e s mm args below meth c C H locs ls hl hH hS
  exact lv_lrem C.1 C.2.1 d h0 (k D ty b p l e s mm args below meth c C H locs ls hl hH hS)
theorem go_ineg {x : Int32} (d : decode M.b pc = .ok (.ineg, 1)) (k : Go M Q (pc + 1) L (.int (-x) :: S) m cc zz) : Go M Q pc L (.int x :: S) m cc zz := by
  intro D ty b p l e s mm args below meth c C H locs ls hl hH hS
  exact lv_ineg C.1 C.2.1 d (k D ty b p l e s mm args below meth c C H locs ls hl hH hS)
theorem go_iushr {x y : Int32} (d : decode M.b pc = .ok (.iushr, 1)) (k : Go M Q (pc + 1) L (.int (x.toUInt32 >>> (y.toUInt32 &&& Int32.toUInt32 31)).toInt32 :: S) m cc zz) : Go M Q pc L (.int y :: .int x :: S) m cc zz := by
  intro D ty b p l e s mm args below meth c C H locs ls hl hH hS
  exact lv_iushr C.1 C.2.1 d rfl (k D ty b p l e s mm args below meth c C H locs ls hl hH hS)
theorem go_lushr {x : Int64} {y : Int32} (d : decode M.b pc = .ok (.lushr, 1)) (k : Go M Q (pc + 1) L (.long (x.toUInt64 >>> (y.toInt64.toUInt64 &&& Int64.toUInt64 63)).toInt64 :: S) m cc zz) : Go M Q pc L (.int y :: .long x :: S) m cc zz := by
  intro D ty b p l e s mm args below meth c C H locs ls hl hH hS
  exact lv_lushr C.1 C.2.1 d rfl (k D ty b p l e s mm args below meth c C H locs ls hl hH hS)
theorem go_lshl {x : Int64} {y : Int32} (d : decode M.b pc = .ok (.lshl, 1)) (k : Go M Q (pc + 1) L (.long (x <<< (y.toInt64 &&& 63)) :: S) m cc zz) : Go M Q pc L (.int y :: .long x :: S) m cc zz := by
  intro D ty b p l e s mm args below meth c C H locs ls hl hH hS
  exact lv_lshl C.1 C.2.1 d rfl (k D ty b p l e s mm args below meth c C H locs ls hl hH hS)
theorem go_i2l {x : Int32} (d : decode M.b pc = .ok (.i2l, 1)) (k : Go M Q (pc + 1) L (.long x.toInt64 :: S) m cc zz) : Go M Q pc L (.int x :: S) m cc zz := by
  intro D ty b p l e s mm args below meth c C H locs ls hl hH hS
  exact lv_i2l C.1 C.2.1 d rfl (k D ty b p l e s mm args below meth c C H locs ls hl hH hS)
theorem go_l2i {x : Int64} (d : decode M.b pc = .ok (.l2i, 1)) (k : Go M Q (pc + 1) L (.int x.toInt32 :: S) m cc zz) : Go M Q pc L (.long x :: S) m cc zz := by
  intro D ty b p l e s mm args below meth c C H locs ls hl hH hS
  exact lv_l2i C.1 C.2.1 d rfl (k D ty b p l e s mm args below meth c C H locs ls hl hH hS)
theorem go_i2b {x : Int32} (d : decode M.b pc = .ok (.i2b, 1)) (k : Go M Q (pc + 1) L (.int x.toInt8.toInt32 :: S) m cc zz) : Go M Q pc L (.int x :: S) m cc zz := by
  intro D ty b p l e s mm args below meth c C H locs ls hl hH hS
  exact lv_i2b C.1 C.2.1 d rfl (k D ty b p l e s mm args below meth c C H locs ls hl hH hS)
theorem go_i2c {x : Int32} (d : decode M.b pc = .ok (.i2c, 1)) (k : Go M Q (pc + 1) L (.int (x.toUInt32 % 65536).toInt32 :: S) m cc zz) : Go M Q pc L (.int x :: S) m cc zz := by
  intro D ty b p l e s mm args below meth c C H locs ls hl hH hS
  exact lv_i2c C.1 C.2.1 d rfl (k D ty b p l e s mm args below meth c C H locs ls hl hH hS)
theorem go_lcmp {x y : Int64} (d : decode M.b pc = .ok (.lcmp, 1)) (k : Go M Q (pc + 1) L (.int (lg_cmp x y) :: S) m cc zz) : Go M Q pc L (.long y :: .long x :: S) m cc zz := by
  intro D ty b p l e s mm args below meth c C H locs ls hl hH hS
  exact W.lcmp C.1 C.2.1 d (k D ty b p l e s mm args below meth c C H locs ls hl hH hS)
theorem go_dup {v : Value} (hc : v.category = 1) (d : decode M.b pc = .ok (.dup, 1)) (k : Go M Q (pc + 1) L (v :: v :: S) m cc zz) : Go M Q pc L (v :: S) m cc zz := by
  intro D ty b p l e s mm args below meth c C H locs ls hl hH hS
  exact lv_dup C.1 C.2.1 d ((cv_cat b v).trans hc) (k D ty b p l e s mm args below meth c C H locs ls hl hH hS)
theorem go_pop {v : Value} (hc : v.category = 1) (d : decode M.b pc = .ok (.pop, 1)) (k : Go M Q (pc + 1) L (S) m cc zz) : Go M Q pc L (v :: S) m cc zz := by
  intro D ty b p l e s mm args below meth c C H locs ls hl hH hS
  exact lv_pop C.1 C.2.1 d ((cv_cat b v).trans hc) (k D ty b p l e s mm args below meth c C H locs ls hl hH hS)
theorem go_dup2 {v w : Value} (hc : v.category = 1) (hw : w.category = 1) (d : decode M.b pc = .ok (.dup2, 1)) (k : Go M Q (pc + 1) L (v :: w :: v :: w :: S) m cc zz) : Go M Q pc L (v :: w :: S) m cc zz := by
  intro D ty b p l e s mm args below meth c C H locs ls hl hH hS
  exact lv_dup2_11 C.1 C.2.1 d ((cv_cat b v).trans hc) ((cv_cat b w).trans hw) (k D ty b p l e s mm args below meth c C H locs ls hl hH hS)
theorem go_dup2l {x : Int64} (d : decode M.b pc = .ok (.dup2, 1)) (k : Go M Q (pc + 1) L (.long x :: .long x :: S) m cc zz) : Go M Q pc L (.long x :: S) m cc zz := by
  intro D ty b p l e s mm args below meth c C H locs ls hl hH hS
  exact lv_dup2_2 C.1 C.2.1 d rfl (k D ty b p l e s mm args below meth c C H locs ls hl hH hS)
theorem go_dup_x1 {v w : Value} (hc : v.category = 1) (hw : w.category = 1) (d : decode M.b pc = .ok (.dup_x1, 1)) (k : Go M Q (pc + 1) L (v :: w :: v :: S) m cc zz) : Go M Q pc L (v :: w :: S) m cc zz := by
  intro D ty b p l e s mm args below meth c C H locs ls hl hH hS
  exact lv_dup_x1 C.1 C.2.1 d ((cv_cat b v).trans hc) ((cv_cat b w).trans hw) (k D ty b p l e s mm args below meth c C H locs ls hl hH hS)
theorem go_istore_n {q : Fin 4} {i : Nat} (hi : (q : Nat) = i) {x : Int32} (d : decode M.b pc = .ok (.istore_n q, 1)) (hn : i < M.ml) (hL : i < L.length) (k : Go M Q (pc + 1) (st1 L i (.int x)) S m cc zz) : Go M Q pc L (.int x :: S) m cc zz := by
  intro D ty b p l e s mm args below meth c C H locs ls hl hH hS
  exact lv_istore_n C.1 C.2.1 d hi hl hn rfl (fun ls1 hl1 => k D ty b p l e s mm args below meth c C H locs ls1 (st1_at hL hl1) hH hS)
theorem go_istore {i : Nat} {x : Int32} (d : decode M.b pc = .ok (.istore i, 2)) (hn : i < M.ml) (hL : i < L.length) (k : Go M Q (pc + 2) (st1 L i (.int x)) S m cc zz) : Go M Q pc L (.int x :: S) m cc zz := by
  intro D ty b p l e s mm args below meth c C H locs ls hl hH hS
  exact lv_istore C.1 C.2.1 d hl hn rfl (fun ls1 hl1 => k D ty b p l e s mm args below meth c C H locs ls1 (st1_at hL hl1) hH hS)
theorem go_astore_n {q : Fin 4} {i : Nat} (hi : (q : Nat) = i) {x : Nat} (d : decode M.b pc = .ok (.astore_n q, 1)) (hn : i < M.ml) (hL : i < L.length) (k : Go M Q (pc + 1) (st1 L i (.ref x)) S m cc zz) : Go M Q pc L (.ref x :: S) m cc zz := by
  intro D ty b p l e s mm args below meth c C H locs ls hl hH hS
  exact lv_astore_n C.1 C.2.1 d hi hl hn rfl (fun ls1 hl1 => k D ty b p l e s mm args below meth c C H locs ls1 (st1_at hL hl1) hH hS)
theorem go_astore {i : Nat} {x : Nat} (d : decode M.b pc = .ok (.astore i, 2)) (hn : i < M.ml) (hL : i < L.length) (k : Go M Q (pc + 2) (st1 L i (.ref x)) S m cc zz) : Go M Q pc L (.ref x :: S) m cc zz := by
  intro D ty b p l e s mm args below meth c C H locs ls hl hH hS
  exact lv_astore C.1 C.2.1 d hl hn rfl (fun ls1 hl1 => k D ty b p l e s mm args below meth c C H locs ls1 (st1_at hL hl1) hH hS)
theorem go_lstore_n {q : Fin 4} {i : Nat} (hi : (q : Nat) = i) {x : Int64} (d : decode M.b pc = .ok (.lstore_n q, 1)) (hn : i + 1 < M.ml) (hL : i + 1 < L.length) (k : Go M Q (pc + 1) (st2 L i (.long x)) S m cc zz) : Go M Q pc L (.long x :: S) m cc zz := by
  intro D ty b p l e s mm args below meth c C H locs ls hl hH hS
  exact lv_lstore_n C.1 C.2.1 d hi hl hn rfl (fun ls1 hl1 => k D ty b p l e s mm args below meth c C H locs ls1 (st2_at hL hl1) hH hS)
theorem go_lstore {i : Nat} {x : Int64} (d : decode M.b pc = .ok (.lstore i, 2)) (hn : i + 1 < M.ml) (hL : i + 1 < L.length) (k : Go M Q (pc + 2) (st2 L i (.long x)) S m cc zz) : Go M Q pc L (.long x :: S) m cc zz := by
  intro D ty b p l e s mm args below meth c C H locs ls hl hH hS
  exact lv_lstore C.1 C.2.1 d hl hn rfl (fun ls1 hl1 => k D ty b p l e s mm args below meth c C H locs ls1 (st2_at hL hl1) hH hS)
theorem go_iinc {i : Nat} {n : Int} {x : Int32} (d : decode M.b pc = .ok (.iinc i n, 3)) (hn : i < M.ml) (hL : L[i]? = some (some (.int x))) (k : Go M Q (pc + 3) (st1 L i (.int (x + Int32.ofInt n))) S m cc zz) : Go M Q pc L S m cc zz := by
  intro D ty b p l e s mm args below meth c C H locs ls hl hH hS
  obtain ⟨j, hj⟩ := List.getElem?_of_mem (lvl_mem (b := b) (L := L) (i := 0).mpr ⟨i, .int x, hL, rfl⟩)
  rw [Nat.zero_add] at hj
  exact lv_iinc C.1 C.2.1 d hl hj rfl hn rfl (fun ls1 hl1 => k D ty b p l e s mm args below meth c C H locs ls1 (st1_at (v := .int (x + Int32.ofInt n)) (List.getElem?_eq_some_iff.mp hL).1 hl1) hH hS)
theorem go_if_eq {x : Int32} {off : Int} {tgt : Nat} (d : decode M.b pc = .ok (.ifCond .eq off, 3)) (ht : (pc : Int) + off = (tgt : Int)) (kt : x = 0 → Go M Q tgt L S m cc zz) (kf : ¬ x = 0 → Go M Q (pc + 3) L S m cc zz) : Go M Q pc L (.int x :: S) m cc zz := by
  intro D ty b p l e s mm args below meth c C H locs ls hl hH hS
  exact lv_if_eq C.1 C.2.1 d ht (fun h => kt h D ty b p l e s mm args below meth c C H locs ls hl hH hS) (fun h => kf h D ty b p l e s mm args below meth c C H locs ls hl hH hS)
theorem go_icmp_eq {x y : Int32} {off : Int} {tgt : Nat} (d : decode M.b pc = .ok (.if_icmp .eq off, 3)) (ht : (pc : Int) + off = (tgt : Int)) (kt : x = y → Go M Q tgt L S m cc zz) (kf : ¬ x = y → Go M Q (pc + 3) L S m cc zz) : Go M Q pc L (.int y :: .int x :: S) m cc zz := by
  intro D ty b p l e s mm args below meth c C H locs ls hl hH hS
  exact lv_icmp_eq C.1 C.2.1 d ht (fun h => kt h D ty b p l e s mm args below meth c C H locs ls hl hH hS) (fun h => kf h D ty b p l e s mm args below meth c C H locs ls hl hH hS)
theorem go_if_ne {x : Int32} {off : Int} {tgt : Nat} (d : decode M.b pc = .ok (.ifCond .ne off, 3)) (ht : (pc : Int) + off = (tgt : Int)) (kt : ¬ x = 0 → Go M Q tgt L S m cc zz) (kf : x = 0 → Go M Q (pc + 3) L S m cc zz) : Go M Q pc L (.int x :: S) m cc zz := by
  intro D ty b p l e s mm args below meth c C H locs ls hl hH hS
  exact lv_if_ne C.1 C.2.1 d ht (fun h => kt h D ty b p l e s mm args below meth c C H locs ls hl hH hS) (fun h => kf h D ty b p l e s mm args below meth c C H locs ls hl hH hS)
theorem go_icmp_ne {x y : Int32} {off : Int} {tgt : Nat} (d : decode M.b pc = .ok (.if_icmp .ne off, 3)) (ht : (pc : Int) + off = (tgt : Int)) (kt : ¬ x = y → Go M Q tgt L S m cc zz) (kf : x = y → Go M Q (pc + 3) L S m cc zz) : Go M Q pc L (.int y :: .int x :: S) m cc zz := by
  intro D ty b p l e s mm args below meth c C H locs ls hl hH hS
  exact lv_icmp_ne C.1 C.2.1 d ht (fun h => kt h D ty b p l e s mm args below meth c C H locs ls hl hH hS) (fun h => kf h D ty b p l e s mm args below meth c C H locs ls hl hH hS)
theorem go_if_lt {x : Int32} {off : Int} {tgt : Nat} (d : decode M.b pc = .ok (.ifCond .lt off, 3)) (ht : (pc : Int) + off = (tgt : Int)) (kt : x < 0 → Go M Q tgt L S m cc zz) (kf : ¬ x < 0 → Go M Q (pc + 3) L S m cc zz) : Go M Q pc L (.int x :: S) m cc zz := by
  intro D ty b p l e s mm args below meth c C H locs ls hl hH hS
  exact lv_if_lt C.1 C.2.1 d ht (fun h => kt h D ty b p l e s mm args below meth c C H locs ls hl hH hS) (fun h => kf h D ty b p l e s mm args below meth c C H locs ls hl hH hS)
theorem go_icmp_lt {x y : Int32} {off : Int} {tgt : Nat} (d : decode M.b pc = .ok (.if_icmp .lt off, 3)) (ht : (pc : Int) + off = (tgt : Int)) (kt : x < y → Go M Q tgt L S m cc zz) (kf : ¬ x < y → Go M Q (pc + 3) L S m cc zz) : Go M Q pc L (.int y :: .int x :: S) m cc zz := by
  intro D ty b p l e s mm args below meth c C H locs ls hl hH hS
  exact lv_icmp_lt C.1 C.2.1 d ht (fun h => kt h D ty b p l e s mm args below meth c C H locs ls hl hH hS) (fun h => kf h D ty b p l e s mm args below meth c C H locs ls hl hH hS)
theorem go_if_ge {x : Int32} {off : Int} {tgt : Nat} (d : decode M.b pc = .ok (.ifCond .ge off, 3)) (ht : (pc : Int) + off = (tgt : Int)) (kt : 0 ≤ x → Go M Q tgt L S m cc zz) (kf : ¬ 0 ≤ x → Go M Q (pc + 3) L S m cc zz) : Go M Q pc L (.int x :: S) m cc zz := by
  intro D ty b p l e s mm args below meth c C H locs ls hl hH hS
  exact lv_if_ge C.1 C.2.1 d ht (fun h => kt h D ty b p l e s mm args below meth c C H locs ls hl hH hS) (fun h => kf h D ty b p l e s mm args below meth c C H locs ls hl hH hS)
theorem go_icmp_ge {x y : Int32} {off : Int} {tgt : Nat} (d : decode M.b pc = .ok (.if_icmp .ge off, 3)) (ht : (pc : Int) + off = (tgt : Int)) (kt : y ≤ x → Go M Q tgt L S m cc zz) (kf : ¬ y ≤ x → Go M Q (pc + 3) L S m cc zz) : Go M Q pc L (.int y :: .int x :: S) m cc zz := by
  intro D ty b p l e s mm args below meth c C H locs ls hl hH hS
  exact lv_icmp_ge C.1 C.2.1 d ht (fun h => kt h D ty b p l e s mm args below meth c C H locs ls hl hH hS) (fun h => kf h D ty b p l e s mm args below meth c C H locs ls hl hH hS)
theorem go_if_gt {x : Int32} {off : Int} {tgt : Nat} (d : decode M.b pc = .ok (.ifCond .gt off, 3)) (ht : (pc : Int) + off = (tgt : Int)) (kt : 0 < x → Go M Q tgt L S m cc zz) (kf : ¬ 0 < x → Go M Q (pc + 3) L S m cc zz) : Go M Q pc L (.int x :: S) m cc zz := by
  intro D ty b p l e s mm args below meth c C H locs ls hl hH hS
  exact lv_if_gt C.1 C.2.1 d ht (fun h => kt h D ty b p l e s mm args below meth c C H locs ls hl hH hS) (fun h => kf h D ty b p l e s mm args below meth c C H locs ls hl hH hS)
theorem go_icmp_gt {x y : Int32} {off : Int} {tgt : Nat} (d : decode M.b pc = .ok (.if_icmp .gt off, 3)) (ht : (pc : Int) + off = (tgt : Int)) (kt : y < x → Go M Q tgt L S m cc zz) (kf : ¬ y < x → Go M Q (pc + 3) L S m cc zz) : Go M Q pc L (.int y :: .int x :: S) m cc zz := by
  intro D ty b p l e s mm args below meth c C H locs ls hl hH hS
  exact lv_icmp_gt C.1 C.2.1 d ht (fun h => kt h D ty b p l e s mm args below meth c C H locs ls hl hH hS) (fun h => kf h D ty b p l e s mm args below meth c C H locs ls hl hH hS)
theorem go_if_le {x : Int32} {off : Int} {tgt : Nat} (d : decode M.b pc = .ok (.ifCond .le off, 3)) (ht : (pc : Int) + off = (tgt : Int)) (kt : x ≤ 0 → Go M Q tgt L S m cc zz) (kf : ¬ x ≤ 0 → Go M Q (pc + 3) L S m cc zz) : Go M Q pc L (.int x :: S) m cc zz := by
  intro D ty b p l e s mm args below meth c C H locs ls hl hH hS
  exact lv_if_le C.1 C.2.1 d ht (fun h => kt h D ty b p l e s mm args below meth c C H locs ls hl hH hS) (fun h => kf h D ty b p l e s mm args below meth c C H locs ls hl hH hS)
theorem go_icmp_le {x y : Int32} {off : Int} {tgt : Nat} (d : decode M.b pc = .ok (.if_icmp .le off, 3)) (ht : (pc : Int) + off = (tgt : Int)) (kt : x ≤ y → Go M Q tgt L S m cc zz) (kf : ¬ x ≤ y → Go M Q (pc + 3) L S m cc zz) : Go M Q pc L (.int y :: .int x :: S) m cc zz := by
  intro D ty b p l e s mm args below meth c C H locs ls hl hH hS
  exact lv_icmp_le C.1 C.2.1 d ht (fun h => kt h D ty b p l e s mm args below meth c C H locs ls hl hH hS) (fun h => kf h D ty b p l e s mm args below meth c C H locs ls hl hH hS)
theorem go_goto {off : Int} {tgt : Nat} (d : decode M.b pc = .ok (.goto off, 3)) (ht : (pc : Int) + off = (tgt : Int)) (k : Go M Q tgt L S m cc zz) : Go M Q pc L S m cc zz := by
  intro D ty b p l e s mm args below meth c C H locs ls hl hH hS
  exact lv_goto C.1 C.2.1 d ht (k D ty b p l e s mm args below meth c C H locs ls hl hH hS)
theorem go_tswOut {dflt lo hi : Int} {offs : Array Int} {len : Nat} {x : Int32} {tgt : Nat} (d : decode M.b pc = .ok (.tableswitch dflt lo hi offs, len)) (h : x.toInt < lo ∨ hi < x.toInt) (ht : (pc : Int) + dflt = (tgt : Int)) (k : Go M Q tgt L S m cc zz) : Go M Q pc L (.int x :: S) m cc zz := by
  intro D ty b p l e s mm args below meth c C H locs ls hl hH hS
  exact lv_tableOut C.1 C.2.1 d h ht (k D ty b p l e s mm args below meth c C H locs ls hl hH hS)
theorem go_tswIn {dflt lo hi : Int} {offs : Array Int} {len : Nat} {x : Int32} {off : Int} {tgt : Nat} (d : decode M.b pc = .ok (.tableswitch dflt lo hi offs, len)) (h1 : ¬ x.toInt < lo) (h2 : ¬ hi < x.toInt) (ho : offs[(x.toInt - lo).toNat]? = some off) (ht : (pc : Int) + off = (tgt : Int)) (k : Go M Q tgt L S m cc zz) : Go M Q pc L (.int x :: S) m cc zz := by
  intro D ty b p l e s mm args below meth c C H locs ls hl hH hS
  exact lv_tableIn C.1 C.2.1 d h1 h2 ho ht (k D ty b p l e s mm args below meth c C H locs ls hl hH hS)
end GOROWS
