section XR
variable {g : gG} {M : gM} {Z : gZt} {pc : Nat} {L : List (Option Value)} {st rest : List Value} {h : gH} {k n : Nat}
theorem x_iconst {j : Int} {v : Int32} (d : decode M.2.1 pc = .ok (.iconst j, 1)) (hv : Int32.ofInt j = v) (kk : Ex g M Z (pc + 1) L (.int v :: st) h k n) : Ex g M Z pc L (st) h k n := by
  intro p e s m args below meth c H locs ls C R F Lh
  exact lv_iconst C.1 C.2.1 d hv (kk p e s m args below meth c H locs ls C R F Lh)
theorem x_bipush {j : Int} {v : Int32} (d : decode M.2.1 pc = .ok (.bipush j, 2)) (hv : (Int8.ofInt j).toInt32 = v) (kk : Ex g M Z (pc + 2) L (.int v :: st) h k n) : Ex g M Z pc L (st) h k n := by
  intro p e s m args below meth c H locs ls C R F Lh
  exact lv_bipush C.1 C.2.1 d hv (kk p e s m args below meth c H locs ls C R F Lh)
theorem x_sipush {j : Int} {v : Int32} (d : decode M.2.1 pc = .ok (.sipush j, 3)) (hv : (Int16.ofInt j).toInt32 = v) (kk : Ex g M Z (pc + 3) L (.int v :: st) h k n) : Ex g M Z pc L (st) h k n := by
  intro p e s m args below meth c H locs ls C R F Lh
  exact lv_sipush C.1 C.2.1 d hv (kk p e s m args below meth c H locs ls C R F Lh)
theorem x_lconst {j : Fin 2} {v : Int64} (d : decode M.2.1 pc = .ok (.lconst j, 1)) (hv : Int64.ofNat (j : Nat) = v) (kk : Ex g M Z (pc + 1) L (.long v :: st) h k n) : Ex g M Z pc L (st) h k n := by
  intro p e s m args below meth c H locs ls C R F Lh
  exact lv_lconst C.1 C.2.1 d hv (kk p e s m args below meth c H locs ls C R F Lh)
theorem x_null  (d : decode M.2.1 pc = .ok (.aconst_null, 1)) (kk : Ex g M Z (pc + 1) L (.null :: st) h k n) : Ex g M Z pc L (st) h k n := by
  intro p e s m args below meth c H locs ls C R F Lh
  exact lv_null C.1 C.2.1 d  (kk p e s m args below meth c H locs ls C R F Lh)
theorem x_iload_n {j : Fin 4} {x : Int32} (d : decode M.2.1 pc = .ok (.iload_n j, 1)) (hl : L[(j : Nat)]? = some (some (.int x))) (kk : Ex g M Z (pc + 1) L (.int x :: st) h k n) : Ex g M Z pc L (st) h k n := by
  intro p e s m args below meth c H locs ls C R F Lh
  exact lv_iload_n C.1 C.2.1 d rfl (Lh.2.2 _ _ hl) (kk p e s m args below meth c H locs ls C R F Lh)
theorem x_iload {i : Nat} {x : Int32} (d : decode M.2.1 pc = .ok (.iload i, 2)) (hl : L[i]? = some (some (.int x))) (kk : Ex g M Z (pc + 2) L (.int x :: st) h k n) : Ex g M Z pc L (st) h k n := by
  intro p e s m args below meth c H locs ls C R F Lh
  exact lv_iload C.1 C.2.1 d (Lh.2.2 _ _ hl) (kk p e s m args below meth c H locs ls C R F Lh)
theorem x_lload_n {j : Fin 4} {x : Int64} (d : decode M.2.1 pc = .ok (.lload_n j, 1)) (hl : L[(j : Nat)]? = some (some (.long x))) (kk : Ex g M Z (pc + 1) L (.long x :: st) h k n) : Ex g M Z pc L (st) h k n := by
  intro p e s m args below meth c H locs ls C R F Lh
  exact lv_lload_n C.1 C.2.1 d rfl (Lh.2.2 _ _ hl) (kk p e s m args below meth c H locs ls C R F Lh)
theorem x_lload {i : Nat} {x : Int64} (d : decode M.2.1 pc = .ok (.lload i, 2)) (hl : L[i]? = some (some (.long x))) (kk : Ex g M Z (pc + 2) L (.long x :: st) h k n) : Ex g M Z pc L (st) h k n := by
  intro p e s m args below meth c H locs ls C R F Lh
  exact lv_lload C.1 C.2.1 d (Lh.2.2 _ _ hl) (kk p e s m args below meth c H locs ls C R F Lh)
theorem x_aload_n {j : Fin 4} {x : Nat} (d : decode M.2.1 pc = .ok (.aload_n j, 1)) (hl : L[(j : Nat)]? = some (some (.ref x))) (kk : Ex g M Z (pc + 1) L (.ref x :: st) h k n) : Ex g M Z pc L (st) h k n := by
  intro p e s m args below meth c H locs ls C R F Lh
  exact lv_aload_n C.1 C.2.1 d rfl (Lh.2.2 _ _ hl) (kk p e s m args below meth c H locs ls C R F Lh)
theorem x_aload {i : Nat} {x : Nat} (d : decode M.2.1 pc = .ok (.aload i, 2)) (hl : L[i]? = some (some (.ref x))) (kk : Ex g M Z (pc + 2) L (.ref x :: st) h k n) : Ex g M Z pc L (st) h k n := by
  intro p e s m args below meth c H locs ls C R F Lh
  exact lv_aload C.1 C.2.1 d (Lh.2.2 _ _ hl) (kk p e s m args below meth c H locs ls C R F Lh)
theorem x_aload_nN {j : Fin 4} (d : decode M.2.1 pc = .ok (.aload_n j, 1)) (hl : L[(j : Nat)]? = some (some .null)) (kk : Ex g M Z (pc + 1) L (.null :: st) h k n) : Ex g M Z pc L (st) h k n := by
  intro p e s m args below meth c H locs ls C R F Lh
  exact lv_aload_nN C.1 C.2.1 d rfl (Lh.2.2 _ _ hl) (kk p e s m args below meth c H locs ls C R F Lh)
theorem x_aloadN {i : Nat} (d : decode M.2.1 pc = .ok (.aload i, 2)) (hl : L[i]? = some (some .null)) (kk : Ex g M Z (pc + 2) L (.null :: st) h k n) : Ex g M Z pc L (st) h k n := by
  intro p e s m args below meth c H locs ls C R F Lh
  exact lv_aloadN C.1 C.2.1 d (Lh.2.2 _ _ hl) (kk p e s m args below meth c H locs ls C R F Lh)
theorem x_iadd {x y : Int32} (d : decode M.2.1 pc = .ok (.iadd, 1)) (kk : Ex g M Z (pc + 1) L (.int (x + y) :: st) h k n) : Ex g M Z pc L (.int y :: .int x :: st) h k n := by
  intro p e s m args below meth c H locs ls C R F Lh
  exact lv_iadd C.1 C.2.1 d  (kk p e s m args below meth c H locs ls C R F Lh)
theorem x_isub {x y : Int32} (d : decode M.2.1 pc = .ok (.isub, 1)) (kk : Ex g M Z (pc + 1) L (.int (x - y) :: st) h k n) : Ex g M Z pc L (.int y :: .int x :: st) h k n := by
  intro p e s m args below meth c H locs ls C R F Lh
  exact lv_isub C.1 C.2.1 d  (kk p e s m args below meth c H locs ls C R F Lh)
theorem x_imul {x y : Int32} (d : decode M.2.1 pc = .ok (.imul, 1)) (kk : Ex g M Z (pc + 1) L (.int (x * y) :: st) h k n) : Ex g M Z pc L (.int y :: .int x :: st) h k n := by
  intro p e s m args below meth c H locs ls C R F Lh
  exact lv_imul C.1 C.2.1 d  (kk p e s m args below meth c H locs ls C R F Lh)
theorem x_iand {x y : Int32} (d : decode M.2.1 pc = .ok (.iand, 1)) (kk : Ex g M Z (pc + 1) L (.int (x &&& y) :: st) h k n) : Ex g M Z pc L (.int y :: .int x :: st) h k n := by
  intro p e s m args below meth c H locs ls C R F Lh
  exact lv_iand C.1 C.2.1 d  (kk p e s m args below meth c H locs ls C R F Lh)
theorem x_ior {x y : Int32} (d : decode M.2.1 pc = .ok (.ior, 1)) (kk : Ex g M Z (pc + 1) L (.int (x ||| y) :: st) h k n) : Ex g M Z pc L (.int y :: .int x :: st) h k n := by
  intro p e s m args below meth c H locs ls C R F Lh
  exact lv_ior C.1 C.2.1 d  (kk p e s m args below meth c H locs ls C R F Lh)
theorem x_ixor {x y : Int32} (d : decode M.2.1 pc = .ok (.ixor, 1)) (kk : Ex g M Z (pc + 1) L (.int (x ^^^ y) :: st) h k n) : Ex g M Z pc L (.int y :: .int x :: st) h k n := by
  intro p e s m args below meth c H locs ls C R F Lh
  exact lv_ixor C.1 C.2.1 d  (kk p e s m args below meth c H locs ls C R F Lh)
theorem x_ishl {x y : Int32} (d : decode M.2.1 pc = .ok (.ishl, 1)) (kk : Ex g M Z (pc + 1) L (.int (x <<< (y &&& 31)) :: st) h k n) : Ex g M Z pc L (.int y :: .int x :: st) h k n := by
  intro p e s m args below meth c H locs ls C R F Lh
  exact lv_ishl C.1 C.2.1 d  (kk p e s m args below meth c H locs ls C R F Lh)
theorem x_ishr {x y : Int32} (d : decode M.2.1 pc = .ok (.ishr, 1)) (kk : Ex g M Z (pc + 1) L (.int (x >>> (y &&& 31)) :: st) h k n) : Ex g M Z pc L (.int y :: .int x :: st) h k n := by
  intro p e s m args below meth c H locs ls C R F Lh
  exact lv_ishr C.1 C.2.1 d  (kk p e s m args below meth c H locs ls C R F Lh)
theorem x_ladd {x y : Int64} (d : decode M.2.1 pc = .ok (.ladd, 1)) (kk : Ex g M Z (pc + 1) L (.long (x + y) :: st) h k n) : Ex g M Z pc L (.long y :: .long x :: st) h k n := by
  intro p e s m args below meth c H locs ls C R F Lh
  exact lv_ladd C.1 C.2.1 d  (kk p e s m args below meth c H locs ls C R F Lh)
theorem x_lsub {x y : Int64} (d : decode M.2.1 pc = .ok (.lsub, 1)) (kk : Ex g M Z (pc + 1) L (.long (x - y) :: st) h k n) : Ex g M Z pc L (.long y :: .long x :: st) h k n := by
  intro p e s m args below meth c H locs ls C R F Lh
  exact lv_lsub C.1 C.2.1 d  (kk p e s m args below meth c H locs ls C R F Lh)
theorem x_lmul {x y : Int64} (d : decode M.2.1 pc = .ok (.lmul, 1)) (kk : Ex g M Z (pc + 1) L (.long (x * y) :: st) h k n) : Ex g M Z pc L (.long y :: .long x :: st) h k n := by
  intro p e s m args below meth c H locs ls C R F Lh
  exact lv_lmul C.1 C.2.1 d  (kk p e s m args below meth c H locs ls C R F Lh)
theorem x_land {x y : Int64} (d : decode M.2.1 pc = .ok (.land, 1)) (kk : Ex g M Z (pc + 1) L (.long (x &&& y) :: st) h k n) : Ex g M Z pc L (.long y :: .long x :: st) h k n := by
  intro p e s m args below meth c H locs ls C R F Lh
  exact lv_land C.1 C.2.1 d  (kk p e s m args below meth c H locs ls C R F Lh)
theorem x_lor {x y : Int64} (d : decode M.2.1 pc = .ok (.lor, 1)) (kk : Ex g M Z (pc + 1) L (.long (x ||| y) :: st) h k n) : Ex g M Z pc L (.long y :: .long x :: st) h k n := by
  intro p e s m args below meth c H locs ls C R F Lh
  exact lv_lor C.1 C.2.1 d  (kk p e s m args below meth c H locs ls C R F Lh)
theorem x_lxor {x y : Int64} (d : decode M.2.1 pc = .ok (.lxor, 1)) (kk : Ex g M Z (pc + 1) L (.long (x ^^^ y) :: st) h k n) : Ex g M Z pc L (.long y :: .long x :: st) h k n := by
  intro p e s m args below meth c H locs ls C R F Lh
  exact lv_lxor C.1 C.2.1 d  (kk p e s m args below meth c H locs ls C R F Lh)
theorem x_idiv {x y : Int32} (d : decode M.2.1 pc = .ok (.idiv, 1)) (hne : ¬ y = 0) (kk : Ex g M Z (pc + 1) L (.int (x / y) :: st) h k n) : Ex g M Z pc L (.int y :: .int x :: st) h k n := by
  intro p e s m args below meth c H locs ls C R F Lh
  exact lv_idiv C.1 C.2.1 d hne (kk p e s m args below meth c H locs ls C R F Lh)
theorem x_irem {x y : Int32} (d : decode M.2.1 pc = .ok (.irem, 1)) (hne : ¬ y = 0) (kk : Ex g M Z (pc + 1) L (.int (x - x / y * y) :: st) h k n) : Ex g M Z pc L (.int y :: .int x :: st) h k n := by
  intro p e s m args below meth c H locs ls C R F Lh
  exact lv_irem C.1 C.2.1 d hne (kk p e s m args below meth c H locs ls C R F Lh)
theorem x_ldiv {x y : Int64} (d : decode M.2.1 pc = .ok (.ldiv, 1)) (hne : ¬ y = 0) (kk : Ex g M Z (pc + 1) L (.long (x / y) :: st) h k n) : Ex g M Z pc L (.long y :: .long x :: st) h k n := by
  intro p e s m args below meth c H locs ls C R F Lh
  exact lv_ldiv C.1 C.2.1 d hne (kk p e s m args below meth c H locs ls C R F Lh)
theorem x_lrem {x y : Int64} (d : decode M.2.1 pc = .ok (.lrem, 1)) (hne : ¬ y = 0) (kk : Ex g M Z (pc + 1) L (.long (x - x / y * y) :: st) h k n) : Ex g M Z pc L (.long y :: .long x :: st) h k n := by
  intro p e s m args below meth c H locs ls C R F Lh
  exact lv_lrem C.1 C.2.1 d hne (kk p e s m args below meth c H locs ls C R F Lh)
theorem x_iushr {x y : Int32} (d : decode M.2.1 pc = .ok (.iushr, 1)) (kk : Ex g M Z (pc + 1) L (.int ((x.toUInt32 >>> (y.toUInt32 &&& Int32.toUInt32 31)).toInt32) :: st) h k n) : Ex g M Z pc L (.int y :: .int x :: st) h k n := by
  intro p e s m args below meth c H locs ls C R F Lh
  exact lv_iushr C.1 C.2.1 d rfl (kk p e s m args below meth c H locs ls C R F Lh)
theorem x_lushr {x : Int64} {y : Int32} (d : decode M.2.1 pc = .ok (.lushr, 1)) (kk : Ex g M Z (pc + 1) L (.long ((x.toUInt64 >>> (y.toInt64.toUInt64 &&& Int64.toUInt64 63)).toInt64) :: st) h k n) : Ex g M Z pc L (.int y :: .long x :: st) h k n := by
  intro p e s m args below meth c H locs ls C R F Lh
  exact lv_lushr C.1 C.2.1 d rfl (kk p e s m args below meth c H locs ls C R F Lh)
theorem x_lshl {x : Int64} {y : Int32} (d : decode M.2.1 pc = .ok (.lshl, 1)) (kk : Ex g M Z (pc + 1) L (.long (x <<< (y.toInt64 &&& 63)) :: st) h k n) : Ex g M Z pc L (.int y :: .long x :: st) h k n := by
  intro p e s m args below meth c H locs ls C R F Lh
  exact lv_lshl C.1 C.2.1 d rfl (kk p e s m args below meth c H locs ls C R F Lh)
theorem x_lshr {x : Int64} {y : Int32} (d : decode M.2.1 pc = .ok (.lshr, 1)) (kk : Ex g M Z (pc + 1) L (.long (x >>> (y.toInt64 &&& 63)) :: st) h k n) : Ex g M Z pc L (.int y :: .long x :: st) h k n := by
  intro p e s m args below meth c H locs ls C R F Lh
  exact lv_lshr C.1 C.2.1 d rfl (kk p e s m args below meth c H locs ls C R F Lh)
theorem x_i2l {x : Int32} (d : decode M.2.1 pc = .ok (.i2l, 1)) (kk : Ex g M Z (pc + 1) L (.long x.toInt64 :: st) h k n) : Ex g M Z pc L (.int x :: st) h k n := by
  intro p e s m args below meth c H locs ls C R F Lh
  exact lv_i2l C.1 C.2.1 d rfl (kk p e s m args below meth c H locs ls C R F Lh)
theorem x_l2i {x : Int64} (d : decode M.2.1 pc = .ok (.l2i, 1)) (kk : Ex g M Z (pc + 1) L (.int x.toInt32 :: st) h k n) : Ex g M Z pc L (.long x :: st) h k n := by
  intro p e s m args below meth c H locs ls C R F Lh
  exact lv_l2i C.1 C.2.1 d rfl (kk p e s m args below meth c H locs ls C R F Lh)
theorem x_i2b {x : Int32} (d : decode M.2.1 pc = .ok (.i2b, 1)) (kk : Ex g M Z (pc + 1) L (.int x.toInt8.toInt32 :: st) h k n) : Ex g M Z pc L (.int x :: st) h k n := by
  intro p e s m args below meth c H locs ls C R F Lh
  exact lv_i2b C.1 C.2.1 d rfl (kk p e s m args below meth c H locs ls C R F Lh)
theorem x_i2s {x : Int32} (d : decode M.2.1 pc = .ok (.i2s, 1)) (kk : Ex g M Z (pc + 1) L (.int x.toInt16.toInt32 :: st) h k n) : Ex g M Z pc L (.int x :: st) h k n := by
  intro p e s m args below meth c H locs ls C R F Lh
  exact lv_i2s C.1 C.2.1 d rfl (kk p e s m args below meth c H locs ls C R F Lh)
theorem x_i2c {x : Int32} (d : decode M.2.1 pc = .ok (.i2c, 1)) (kk : Ex g M Z (pc + 1) L (.int (x.toUInt32 % 65536).toInt32 :: st) h k n) : Ex g M Z pc L (.int x :: st) h k n := by
  intro p e s m args below meth c H locs ls C R F Lh
  exact lv_i2c C.1 C.2.1 d rfl (kk p e s m args below meth c H locs ls C R F Lh)
theorem x_dup {v : Value} (d : decode M.2.1 pc = .ok (.dup, 1)) (hv : v.category = 1) (kk : Ex g M Z (pc + 1) L (v :: v :: st) h k n) : Ex g M Z pc L (v :: st) h k n := by
  intro p e s m args below meth c H locs ls C R F Lh
  exact lv_dup C.1 C.2.1 d hv (kk p e s m args below meth c H locs ls C R F Lh)
theorem x_pop {v : Value} (d : decode M.2.1 pc = .ok (.pop, 1)) (hv : v.category = 1) (kk : Ex g M Z (pc + 1) L (st) h k n) : Ex g M Z pc L (v :: st) h k n := by
  intro p e s m args below meth c H locs ls C R F Lh
  exact lv_pop C.1 C.2.1 d hv (kk p e s m args below meth c H locs ls C R F Lh)
theorem x_dup2 {v w : Value} (d : decode M.2.1 pc = .ok (.dup2, 1)) (hv : v.category = 1) (hw : w.category = 1) (kk : Ex g M Z (pc + 1) L (v :: w :: v :: w :: st) h k n) : Ex g M Z pc L (v :: w :: st) h k n := by
  intro p e s m args below meth c H locs ls C R F Lh
  exact lv_dup2_11 C.1 C.2.1 d hv hw (kk p e s m args below meth c H locs ls C R F Lh)
theorem x_dup2L {v : Value} (d : decode M.2.1 pc = .ok (.dup2, 1)) (hv : v.category = 2) (kk : Ex g M Z (pc + 1) L (v :: v :: st) h k n) : Ex g M Z pc L (v :: st) h k n := by
  intro p e s m args below meth c H locs ls C R F Lh
  exact lv_dup2_2 C.1 C.2.1 d hv (kk p e s m args below meth c H locs ls C R F Lh)
theorem x_lcmp {x y : Int64} (d : decode M.2.1 pc = .ok (.lcmp, 1)) (kk : Ex g M Z (pc + 1) L (.int (lg_cmp x y) :: st) h k n) : Ex g M Z pc L (.long y :: .long x :: st) h k n := by
  intro p e s m args below meth c H locs ls C R F Lh
  exact W.lcmp C.1 C.2.1 d  (kk p e s m args below meth c H locs ls C R F Lh)
theorem x_ldc {i : Nat} {v : Int32} (d : decode M.2.1 pc = .ok (.ldc i, 2)) (hw : Jvm.Cond.constant M.1.cls i v ∈ gT) (kk : Ex g M Z (pc + 2) L (.int v :: st) h k n) : Ex g M Z pc L st h k n := by
  intro p e s m args below meth c H locs ls C R F Lh
  exact lv_ldc C.1 C.2.1 C.2.2.2.2.1 (C.2.2.2.2.2.1 _ hw) d (kk p e s m args below meth c H locs ls C R F Lh)
theorem x_ldc_w {i : Nat} {v : Int32} (d : decode M.2.1 pc = .ok (.ldc_w i, 3)) (hw : Jvm.Cond.constant M.1.cls i v ∈ gT) (kk : Ex g M Z (pc + 3) L (.int v :: st) h k n) : Ex g M Z pc L st h k n := by
  intro p e s m args below meth c H locs ls C R F Lh
  exact lv_ldcw C.1 C.2.1 C.2.2.2.2.1 (C.2.2.2.2.2.1 _ hw) d (kk p e s m args below meth c H locs ls C R F Lh)
theorem x_ldc2 {i : Nat} {v : Int64} (d : decode M.2.1 pc = .ok (.ldc2_w i, 3)) (hw : Jvm.Cond.constantLong M.1.cls i v ∈ gT) (kk : Ex g M Z (pc + 3) L (.long v :: st) h k n) : Ex g M Z pc L st h k n := by
  intro p e s m args below meth c H locs ls C R F Lh
  exact lv_ldc2 C.1 C.2.1 C.2.2.2.2.1 (C.2.2.2.2.2.1 _ hw) d (kk p e s m args below meth c H locs ls C R F Lh)
theorem x_ldcS {i : Nat} (j : Nat) (hj : j < 13) (hi : sk_ix.getD j 0 = i) (hc : M.1.cls = "HeldPaths$Tape") (d : decode M.2.1 pc = .ok (.ldc i, 2)) (kk : Ex g M Z (pc + 2) L (.ref (g.2.2.2.2.1 j) :: st) h k n) : Ex g M Z pc L st h k n := by
  intro p e s m args below meth c H locs ls C R F Lh
  exact va_ldcS C.1 C.2.1 (hc ▸ C.2.2.2.2.1) (hi ▸ C.2.2.2.2.2.2.2.2.2.2.1 j hj) d (kk p e s m args below meth c H locs ls C R F Lh)
theorem x_istore_n {j : Fin 4} {i : Nat} {x : Int32} {L' : List (Option Value)} (d : decode M.2.1 pc = .ok (.istore_n j, 1)) (hi : (j : Nat) = i) (hn : i < M.2.2.1) (ho : gok L i = true) (hL : L.set i (some (.int x)) = L') (kk : Ex g M Z (pc + 1) L' st h k n) : Ex g M Z pc L (.int x :: st) h k n := by
  subst hi
  intro p e s m args below meth c H locs ls C R F Lh
  obtain ⟨ls', e', h'⟩ := Lh.store1 (v := .int x) hn rfl ho hL
  intro T hT X
  obtain ⟨t, a, b⟩ := kk p e s m args below meth c H locs ls' C R F h' T hT X
  refine ⟨t, ?_, b⟩
  jvm_step X.here [X.here.top, ↓top_set X.here.top, C.1, C.2.1, d, e']
  exact a
theorem x_istore {i : Nat} {x : Int32} {L' : List (Option Value)} (d : decode M.2.1 pc = .ok (.istore i, 2)) (hn : i < M.2.2.1) (ho : gok L i = true) (hL : L.set i (some (.int x)) = L') (kk : Ex g M Z (pc + 2) L' st h k n) : Ex g M Z pc L (.int x :: st) h k n := by
  intro p e s m args below meth c H locs ls C R F Lh
  obtain ⟨ls', e', h'⟩ := Lh.store1 (v := .int x) hn rfl ho hL
  intro T hT X
  obtain ⟨t, a, b⟩ := kk p e s m args below meth c H locs ls' C R F h' T hT X
  refine ⟨t, ?_, b⟩
  jvm_step X.here [X.here.top, ↓top_set X.here.top, C.1, C.2.1, d, e']
  exact a
theorem x_lstore_n {j : Fin 4} {i : Nat} {x : Int64} {L' : List (Option Value)} (d : decode M.2.1 pc = .ok (.lstore_n j, 1)) (hi : (j : Nat) = i) (hn : i + 1 < M.2.2.1) (ho : gok L i = true) (hL : (L.set i (some (.long x))).set (i + 1) none = L') (kk : Ex g M Z (pc + 1) L' st h k n) : Ex g M Z pc L (.long x :: st) h k n := by
  subst hi
  intro p e s m args below meth c H locs ls C R F Lh
  obtain ⟨ls', e', h'⟩ := Lh.store2 (v := .long x) hn rfl ho hL
  intro T hT X
  obtain ⟨t, a, b⟩ := kk p e s m args below meth c H locs ls' C R F h' T hT X
  refine ⟨t, ?_, b⟩
  jvm_step X.here [X.here.top, ↓top_set X.here.top, C.1, C.2.1, d, e']
  exact a
theorem x_lstore {i : Nat} {x : Int64} {L' : List (Option Value)} (d : decode M.2.1 pc = .ok (.lstore i, 2)) (hn : i + 1 < M.2.2.1) (ho : gok L i = true) (hL : (L.set i (some (.long x))).set (i + 1) none = L') (kk : Ex g M Z (pc + 2) L' st h k n) : Ex g M Z pc L (.long x :: st) h k n := by
  intro p e s m args below meth c H locs ls C R F Lh
  obtain ⟨ls', e', h'⟩ := Lh.store2 (v := .long x) hn rfl ho hL
  intro T hT X
  obtain ⟨t, a, b⟩ := kk p e s m args below meth c H locs ls' C R F h' T hT X
  refine ⟨t, ?_, b⟩
  jvm_step X.here [X.here.top, ↓top_set X.here.top, C.1, C.2.1, d, e']
  exact a
theorem x_astore_n {j : Fin 4} {i : Nat} {x : Nat} {L' : List (Option Value)} (d : decode M.2.1 pc = .ok (.astore_n j, 1)) (hi : (j : Nat) = i) (hn : i < M.2.2.1) (ho : gok L i = true) (hL : L.set i (some (.ref x)) = L') (kk : Ex g M Z (pc + 1) L' st h k n) : Ex g M Z pc L (.ref x :: st) h k n := by
  subst hi
  intro p e s m args below meth c H locs ls C R F Lh
  obtain ⟨ls', e', h'⟩ := Lh.store1 (v := .ref x) hn rfl ho hL
  intro T hT X
  obtain ⟨t, a, b⟩ := kk p e s m args below meth c H locs ls' C R F h' T hT X
  refine ⟨t, ?_, b⟩
  jvm_step X.here [X.here.top, ↓top_set X.here.top, C.1, C.2.1, d, e', Value.isRef]
  exact a
theorem x_astore {i : Nat} {x : Nat} {L' : List (Option Value)} (d : decode M.2.1 pc = .ok (.astore i, 2)) (hn : i < M.2.2.1) (ho : gok L i = true) (hL : L.set i (some (.ref x)) = L') (kk : Ex g M Z (pc + 2) L' st h k n) : Ex g M Z pc L (.ref x :: st) h k n := by
  intro p e s m args below meth c H locs ls C R F Lh
  obtain ⟨ls', e', h'⟩ := Lh.store1 (v := .ref x) hn rfl ho hL
  intro T hT X
  obtain ⟨t, a, b⟩ := kk p e s m args below meth c H locs ls' C R F h' T hT X
  refine ⟨t, ?_, b⟩
  jvm_step X.here [X.here.top, ↓top_set X.here.top, C.1, C.2.1, d, e', Value.isRef]
  exact a
theorem x_astore_nN {j : Fin 4} {i : Nat}  {L' : List (Option Value)} (d : decode M.2.1 pc = .ok (.astore_n j, 1)) (hi : (j : Nat) = i) (hn : i < M.2.2.1) (ho : gok L i = true) (hL : L.set i (some (.null)) = L') (kk : Ex g M Z (pc + 1) L' st h k n) : Ex g M Z pc L (.null :: st) h k n := by
  subst hi
  intro p e s m args below meth c H locs ls C R F Lh
  obtain ⟨ls', e', h'⟩ := Lh.store1 (v := .null) hn rfl ho hL
  intro T hT X
  obtain ⟨t, a, b⟩ := kk p e s m args below meth c H locs ls' C R F h' T hT X
  refine ⟨t, ?_, b⟩
  jvm_step X.here [X.here.top, ↓top_set X.here.top, C.1, C.2.1, d, e', Value.isRef]
  exact a
theorem x_astoreN {i : Nat}  {L' : List (Option Value)} (d : decode M.2.1 pc = .ok (.astore i, 2)) (hn : i < M.2.2.1) (ho : gok L i = true) (hL : L.set i (some (.null)) = L') (kk : Ex g M Z (pc + 2) L' st h k n) : Ex g M Z pc L (.null :: st) h k n := by
  intro p e s m args below meth c H locs ls C R F Lh
  obtain ⟨ls', e', h'⟩ := Lh.store1 (v := .null) hn rfl ho hL
  intro T hT X
  obtain ⟨t, a, b⟩ := kk p e s m args below meth c H locs ls' C R F h' T hT X
  refine ⟨t, ?_, b⟩
  jvm_step X.here [X.here.top, ↓top_set X.here.top, C.1, C.2.1, d, e', Value.isRef]
  exact a
theorem x_iinc {i : Nat} {j : Int} {x v : Int32} {L' : List (Option Value)} (d : decode M.2.1 pc = .ok (.iinc i j, 3)) (hn : i < M.2.2.1) (hl : L[i]? = some (some (.int x))) (hv : x + Int32.ofInt j = v) (ho : gok L i = true) (hL : L.set i (some (.int v)) = L') (kk : Ex g M Z (pc + 3) L' st h k n) : Ex g M Z pc L st h k n := by
  subst hv
  intro p e s m args below meth c H locs ls C R F Lh
  have hg := Lh.2.2 _ _ hl
  obtain ⟨ls', e', h'⟩ := Lh.store1 (v := .int (x + Int32.ofInt j)) hn rfl ho hL
  intro T hT X
  obtain ⟨t, a, b⟩ := kk p e s m args below meth c H locs ls' C R F h' T hT X
  refine ⟨t, ?_, b⟩
  jvm_step X.here [X.here.top, ↓top_set X.here.top, C.1, C.2.1, d, hg, e']
  exact a
theorem x_icmp_eq {x y : Int32} {off : Int} (tgt : Nat) (d : decode M.2.1 pc = .ok (.if_icmp .eq off, 3)) (ht : (pc : Int) + off = (tgt : Int)) (kt : x = y → Ex g M Z tgt L st h k n) (kf : ¬ x = y → Ex g M Z (pc + 3) L st h k n) : Ex g M Z pc L (.int y :: .int x :: st) h k n := by
  intro p e s m args below meth c H locs ls C R F Lh
  exact lv_icmp_eq C.1 C.2.1 d ht (fun q => kt q p e s m args below meth c H locs ls C R F Lh) (fun q => kf q p e s m args below meth c H locs ls C R F Lh)
theorem x_if_eq {x : Int32} {off : Int} (tgt : Nat) (d : decode M.2.1 pc = .ok (.ifCond .eq off, 3)) (ht : (pc : Int) + off = (tgt : Int)) (kt : x = 0 → Ex g M Z tgt L st h k n) (kf : ¬ x = 0 → Ex g M Z (pc + 3) L st h k n) : Ex g M Z pc L (.int x :: st) h k n := by
  intro p e s m args below meth c H locs ls C R F Lh
  exact lv_if_eq C.1 C.2.1 d ht (fun q => kt q p e s m args below meth c H locs ls C R F Lh) (fun q => kf q p e s m args below meth c H locs ls C R F Lh)
theorem x_icmp_ne {x y : Int32} {off : Int} (tgt : Nat) (d : decode M.2.1 pc = .ok (.if_icmp .ne off, 3)) (ht : (pc : Int) + off = (tgt : Int)) (kt : ¬ x = y → Ex g M Z tgt L st h k n) (kf : x = y → Ex g M Z (pc + 3) L st h k n) : Ex g M Z pc L (.int y :: .int x :: st) h k n := by
  intro p e s m args below meth c H locs ls C R F Lh
  exact lv_icmp_ne C.1 C.2.1 d ht (fun q => kt q p e s m args below meth c H locs ls C R F Lh) (fun q => kf q p e s m args below meth c H locs ls C R F Lh)
theorem x_if_ne {x : Int32} {off : Int} (tgt : Nat) (d : decode M.2.1 pc = .ok (.ifCond .ne off, 3)) (ht : (pc : Int) + off = (tgt : Int)) (kt : ¬ x = 0 → Ex g M Z tgt L st h k n) (kf : x = 0 → Ex g M Z (pc + 3) L st h k n) : Ex g M Z pc L (.int x :: st) h k n := by
  intro p e s m args below meth c H locs ls C R F Lh
  exact lv_if_ne C.1 C.2.1 d ht (fun q => kt q p e s m args below meth c H locs ls C R F Lh) (fun q => kf q p e s m args below meth c H locs ls C R F Lh)
theorem x_icmp_lt {x y : Int32} {off : Int} (tgt : Nat) (d : decode M.2.1 pc = .ok (.if_icmp .lt off, 3)) (ht : (pc : Int) + off = (tgt : Int)) (kt : x < y → Ex g M Z tgt L st h k n) (kf : ¬ x < y → Ex g M Z (pc + 3) L st h k n) : Ex g M Z pc L (.int y :: .int x :: st) h k n := by
  intro p e s m args below meth c H locs ls C R F Lh
  exact lv_icmp_lt C.1 C.2.1 d ht (fun q => kt q p e s m args below meth c H locs ls C R F Lh) (fun q => kf q p e s m args below meth c H locs ls C R F Lh)
theorem x_if_lt {x : Int32} {off : Int} (tgt : Nat) (d : decode M.2.1 pc = .ok (.ifCond .lt off, 3)) (ht : (pc : Int) + off = (tgt : Int)) (kt : x < 0 → Ex g M Z tgt L st h k n) (kf : ¬ x < 0 → Ex g M Z (pc + 3) L st h k n) : Ex g M Z pc L (.int x :: st) h k n := by
  intro p e s m args below meth c H locs ls C R F Lh
  exact lv_if_lt C.1 C.2.1 d ht (fun q => kt q p e s m args below meth c H locs ls C R F Lh) (fun q => kf q p e s m args below meth c H locs ls C R F Lh)
theorem x_icmp_ge {x y : Int32} {off : Int} (tgt : Nat) (d : decode M.2.1 pc = .ok (.if_icmp .ge off, 3)) (ht : (pc : Int) + off = (tgt : Int)) (kt : y ≤ x → Ex g M Z tgt L st h k n) (kf : ¬ y ≤ x → Ex g M Z (pc + 3) L st h k n) : Ex g M Z pc L (.int y :: .int x :: st) h k n := by
  intro p e s m args below meth c H locs ls C R F Lh
  exact lv_icmp_ge C.1 C.2.1 d ht (fun q => kt q p e s m args below meth c H locs ls C R F Lh) (fun q => kf q p e s m args below meth c H locs ls C R F Lh)
theorem x_if_ge {x : Int32} {off : Int} (tgt : Nat) (d : decode M.2.1 pc = .ok (.ifCond .ge off, 3)) (ht : (pc : Int) + off = (tgt : Int)) (kt : 0 ≤ x → Ex g M Z tgt L st h k n) (kf : ¬ 0 ≤ x → Ex g M Z (pc + 3) L st h k n) : Ex g M Z pc L (.int x :: st) h k n := by
  intro p e s m args below meth c H locs ls C R F Lh
  exact lv_if_ge C.1 C.2.1 d ht (fun q => kt q p e s m args below meth c H locs ls C R F Lh) (fun q => kf q p e s m args below meth c H locs ls C R F Lh)
theorem x_icmp_gt {x y : Int32} {off : Int} (tgt : Nat) (d : decode M.2.1 pc = .ok (.if_icmp .gt off, 3)) (ht : (pc : Int) + off = (tgt : Int)) (kt : y < x → Ex g M Z tgt L st h k n) (kf : ¬ y < x → Ex g M Z (pc + 3) L st h k n) : Ex g M Z pc L (.int y :: .int x :: st) h k n := by
  intro p e s m args below meth c H locs ls C R F Lh
  exact lv_icmp_gt C.1 C.2.1 d ht (fun q => kt q p e s m args below meth c H locs ls C R F Lh) (fun q => kf q p e s m args below meth c H locs ls C R F Lh)
theorem x_if_gt {x : Int32} {off : Int} (tgt : Nat) (d : decode M.2.1 pc = .ok (.ifCond .gt off, 3)) (ht : (pc : Int) + off = (tgt : Int)) (kt : 0 < x → Ex g M Z tgt L st h k n) (kf : ¬ 0 < x → Ex g M Z (pc + 3) L st h k n) : Ex g M Z pc L (.int x :: st) h k n := by
  intro p e s m args below meth c H locs ls C R F Lh
  exact lv_if_gt C.1 C.2.1 d ht (fun q => kt q p e s m args below meth c H locs ls C R F Lh) (fun q => kf q p e s m args below meth c H locs ls C R F Lh)
theorem x_icmp_le {x y : Int32} {off : Int} (tgt : Nat) (d : decode M.2.1 pc = .ok (.if_icmp .le off, 3)) (ht : (pc : Int) + off = (tgt : Int)) (kt : x ≤ y → Ex g M Z tgt L st h k n) (kf : ¬ x ≤ y → Ex g M Z (pc + 3) L st h k n) : Ex g M Z pc L (.int y :: .int x :: st) h k n := by
  intro p e s m args below meth c H locs ls C R F Lh
  exact lv_icmp_le C.1 C.2.1 d ht (fun q => kt q p e s m args below meth c H locs ls C R F Lh) (fun q => kf q p e s m args below meth c H locs ls C R F Lh)
theorem x_if_le {x : Int32} {off : Int} (tgt : Nat) (d : decode M.2.1 pc = .ok (.ifCond .le off, 3)) (ht : (pc : Int) + off = (tgt : Int)) (kt : x ≤ 0 → Ex g M Z tgt L st h k n) (kf : ¬ x ≤ 0 → Ex g M Z (pc + 3) L st h k n) : Ex g M Z pc L (.int x :: st) h k n := by
  intro p e s m args below meth c H locs ls C R F Lh
  exact lv_if_le C.1 C.2.1 d ht (fun q => kt q p e s m args below meth c H locs ls C R F Lh) (fun q => kf q p e s m args below meth c H locs ls C R F Lh)
theorem x_goto {off : Int} (tgt : Nat) (d : decode M.2.1 pc = .ok (.goto off, 3)) (ht : (pc : Int) + off = (tgt : Int)) (kk : Ex g M Z tgt L st h k n) : Ex g M Z pc L st h k n := by
  intro p e s m args below meth c H locs ls C R F Lh
  exact lv_goto C.1 C.2.1 d ht (kk p e s m args below meth c H locs ls C R F Lh)
theorem x_ifnonnull {x : Nat} {off : Int} (tgt : Nat) (d : decode M.2.1 pc = .ok (.ifnonnull off, 3)) (ht : (pc : Int) + off = (tgt : Int)) (kk : Ex g M Z tgt L st h k n) : Ex g M Z pc L (.ref x :: st) h k n := by
  intro p e s m args below meth c H locs ls C R F Lh
  exact lv_ifnonnull C.1 C.2.1 d ht (kk p e s m args below meth c H locs ls C R F Lh)
theorem x_ifnonnullN {off : Int} (d : decode M.2.1 pc = .ok (.ifnonnull off, 3)) (kk : Ex g M Z (pc + 3) L st h k n) : Ex g M Z pc L (.null :: st) h k n := by
  intro p e s m args below meth c H locs ls C R F Lh
  exact lv_ifnonnullN C.1 C.2.1 d (kk p e s m args below meth c H locs ls C R F Lh)
theorem x_lookup {dflt : Int} {ps : Array (Int × Int)} {len : Nat} {x : Int32} {off : Int} (tgt : Nat) (d : decode M.2.1 pc = .ok (.lookupswitch dflt ps, len)) (hp : (ps.toList.zip (ps.toList.drop 1)).all (fun (a, next) => a.1 < next.1) = true) (ho : Op.lookupswitch.offset ps.toList dflt x.toInt = off) (ht : (pc : Int) + off = (tgt : Int)) (kk : Ex g M Z tgt L st h k n) : Ex g M Z pc L (.int x :: st) h k n := by
  intro p e s m args below meth c H locs ls C R F Lh
  exact lv_lookup C.1 C.2.1 d hp ho ht (kk p e s m args below meth c H locs ls C R F Lh)
theorem x_tableOut {dflt lo hi : Int} {offs : Array Int} {len : Nat} {x : Int32} (tgt : Nat) (d : decode M.2.1 pc = .ok (.tableswitch dflt lo hi offs, len)) (hh : x.toInt < lo ∨ hi < x.toInt) (ht : (pc : Int) + dflt = (tgt : Int)) (kk : Ex g M Z tgt L st h k n) : Ex g M Z pc L (.int x :: st) h k n := by
  intro p e s m args below meth c H locs ls C R F Lh
  exact lv_tableOut C.1 C.2.1 d hh ht (kk p e s m args below meth c H locs ls C R F Lh)
theorem x_tableIn {dflt lo hi : Int} {offs : Array Int} {len : Nat} {x : Int32} {off : Int} (tgt : Nat) (d : decode M.2.1 pc = .ok (.tableswitch dflt lo hi offs, len)) (h1 : ¬ x.toInt < lo) (h2 : ¬ hi < x.toInt) (ho : offs[(x.toInt - lo).toNat]? = some off) (ht : (pc : Int) + off = (tgt : Int)) (kk : Ex g M Z tgt L st h k n) : Ex g M Z pc L (.int x :: st) h k n := by
  intro p e s m args below meth c H locs ls C R F Lh
  exact lv_tableIn C.1 C.2.1 d h1 h2 ho ht (kk p e s m args below meth c H locs ls C R F Lh)
end XR
