section ZKR
variable {l : Launch} {σ : zk_Sh} {d : Nat} {μ : zk_I} {pc : Nat} {ls ls' : List (Option Value)} {rest : List Value} {M : zk_M} {L : zk_L} {Q : Option Value → zk_M → zk_L → Prop}
theorem zk_iadd {x y : Int32} (hd : decode μ.2.1 pc = .ok (.iadd, 1)) (kk : zk_R l σ d μ (pc + 1) ls (.int (x + y) :: rest) M L Q) : zk_R l σ d μ (pc) ls (.int y :: .int x :: rest) M L Q := by
  intro p e s m args below meth c ad cs D H locs lsA X hH hS hl
  exact lv_iadd X.1 X.2.1 hd (kk p e s m args below meth c ad cs D H locs lsA X hH hS hl)
theorem zk_isub {x y : Int32} (hd : decode μ.2.1 pc = .ok (.isub, 1)) (kk : zk_R l σ d μ (pc + 1) ls (.int (x - y) :: rest) M L Q) : zk_R l σ d μ (pc) ls (.int y :: .int x :: rest) M L Q := by
  intro p e s m args below meth c ad cs D H locs lsA X hH hS hl
  exact lv_isub X.1 X.2.1 hd (kk p e s m args below meth c ad cs D H locs lsA X hH hS hl)
theorem zk_imul {x y : Int32} (hd : decode μ.2.1 pc = .ok (.imul, 1)) (kk : zk_R l σ d μ (pc + 1) ls (.int (x * y) :: rest) M L Q) : zk_R l σ d μ (pc) ls (.int y :: .int x :: rest) M L Q := by
  intro p e s m args below meth c ad cs D H locs lsA X hH hS hl
  exact lv_imul X.1 X.2.1 hd (kk p e s m args below meth c ad cs D H locs lsA X hH hS hl)
theorem zk_iand {x y : Int32} (hd : decode μ.2.1 pc = .ok (.iand, 1)) (kk : zk_R l σ d μ (pc + 1) ls (.int (x &&& y) :: rest) M L Q) : zk_R l σ d μ (pc) ls (.int y :: .int x :: rest) M L Q := by
  intro p e s m args below meth c ad cs D H locs lsA X hH hS hl
  exact lv_iand X.1 X.2.1 hd (kk p e s m args below meth c ad cs D H locs lsA X hH hS hl)
theorem zk_ior {x y : Int32} (hd : decode μ.2.1 pc = .ok (.ior, 1)) (kk : zk_R l σ d μ (pc + 1) ls (.int (x ||| y) :: rest) M L Q) : zk_R l σ d μ (pc) ls (.int y :: .int x :: rest) M L Q := by
  intro p e s m args below meth c ad cs D H locs lsA X hH hS hl
  exact lv_ior X.1 X.2.1 hd (kk p e s m args below meth c ad cs D H locs lsA X hH hS hl)
theorem zk_ixor {x y : Int32} (hd : decode μ.2.1 pc = .ok (.ixor, 1)) (kk : zk_R l σ d μ (pc + 1) ls (.int (x ^^^ y) :: rest) M L Q) : zk_R l σ d μ (pc) ls (.int y :: .int x :: rest) M L Q := by
  intro p e s m args below meth c ad cs D H locs lsA X hH hS hl
  exact lv_ixor X.1 X.2.1 hd (kk p e s m args below meth c ad cs D H locs lsA X hH hS hl)
theorem zk_ladd {x y : Int64} (hd : decode μ.2.1 pc = .ok (.ladd, 1)) (kk : zk_R l σ d μ (pc + 1) ls (.long (x + y) :: rest) M L Q) : zk_R l σ d μ (pc) ls (.long y :: .long x :: rest) M L Q := by
  intro p e s m args below meth c ad cs D H locs lsA X hH hS hl
  exact lv_ladd X.1 X.2.1 hd (kk p e s m args below meth c ad cs D H locs lsA X hH hS hl)
theorem zk_lsub {x y : Int64} (hd : decode μ.2.1 pc = .ok (.lsub, 1)) (kk : zk_R l σ d μ (pc + 1) ls (.long (x - y) :: rest) M L Q) : zk_R l σ d μ (pc) ls (.long y :: .long x :: rest) M L Q := by
  intro p e s m args below meth c ad cs D H locs lsA X hH hS hl
  exact lv_lsub X.1 X.2.1 hd (kk p e s m args below meth c ad cs D H locs lsA X hH hS hl)
theorem zk_lmul {x y : Int64} (hd : decode μ.2.1 pc = .ok (.lmul, 1)) (kk : zk_R l σ d μ (pc + 1) ls (.long (x * y) :: rest) M L Q) : zk_R l σ d μ (pc) ls (.long y :: .long x :: rest) M L Q := by
  intro p e s m args below meth c ad cs D H locs lsA X hH hS hl
  exact lv_lmul X.1 X.2.1 hd (kk p e s m args below meth c ad cs D H locs lsA X hH hS hl)
theorem zk_land {x y : Int64} (hd : decode μ.2.1 pc = .ok (.land, 1)) (kk : zk_R l σ d μ (pc + 1) ls (.long (x &&& y) :: rest) M L Q) : zk_R l σ d μ (pc) ls (.long y :: .long x :: rest) M L Q := by
  intro p e s m args below meth c ad cs D H locs lsA X hH hS hl
  exact lv_land X.1 X.2.1 hd (kk p e s m args below meth c ad cs D H locs lsA X hH hS hl)
theorem zk_lor {x y : Int64} (hd : decode μ.2.1 pc = .ok (.lor, 1)) (kk : zk_R l σ d μ (pc + 1) ls (.long (x ||| y) :: rest) M L Q) : zk_R l σ d μ (pc) ls (.long y :: .long x :: rest) M L Q := by
  intro p e s m args below meth c ad cs D H locs lsA X hH hS hl
  exact lv_lor X.1 X.2.1 hd (kk p e s m args below meth c ad cs D H locs lsA X hH hS hl)
theorem zk_idiv {x y : Int32} (hd : decode μ.2.1 pc = .ok (.idiv, 1)) (hne : ¬ y = 0) (kk : zk_R l σ d μ (pc + 1) ls (.int (x / y) :: rest) M L Q) : zk_R l σ d μ (pc) ls (.int y :: .int x :: rest) M L Q := by
  intro p e s m args below meth c ad cs D H locs lsA X hH hS hl
  exact lv_idiv X.1 X.2.1 hd hne (kk p e s m args below meth c ad cs D H locs lsA X hH hS hl)
theorem zk_irem {x y : Int32} (hd : decode μ.2.1 pc = .ok (.irem, 1)) (hne : ¬ y = 0) (kk : zk_R l σ d μ (pc + 1) ls (.int (x - x / y * y) :: rest) M L Q) : zk_R l σ d μ (pc) ls (.int y :: .int x :: rest) M L Q := by
  intro p e s m args below meth c ad cs D H locs lsA X hH hS hl
  exact lv_irem X.1 X.2.1 hd hne (kk p e s m args below meth c ad cs D H locs lsA X hH hS hl)
theorem zk_ldiv {x y : Int64} (hd : decode μ.2.1 pc = .ok (.ldiv, 1)) (hne : ¬ y = 0) (kk : zk_R l σ d μ (pc + 1) ls (.long (x / y) :: rest) M L Q) : zk_R l σ d μ (pc) ls (.long y :: .long x :: rest) M L Q := by
  intro p e s m args below meth c ad cs D H locs lsA X hH hS hl
  exact lv_ldiv X.1 X.2.1 hd hne (kk p e s m args below meth c ad cs D H locs lsA X hH hS hl)
theorem zk_lrem {x y : Int64} (hd : decode μ.2.1 pc = .ok (.lrem, 1)) (hne : ¬ y = 0) (kk : zk_R l σ d μ (pc + 1) ls (.long (x - x / y * y) :: rest) M L Q) : zk_R l σ d μ (pc) ls (.long y :: .long x :: rest) M L Q := by
  intro p e s m args below meth c ad cs D H locs lsA X hH hS hl
  exact lv_lrem X.1 X.2.1 hd hne (kk p e s m args below meth c ad cs D H locs lsA X hH hS hl)
theorem zk_ineg {x : Int32} (hd : decode μ.2.1 pc = .ok (.ineg, 1)) (kk : zk_R l σ d μ (pc + 1) ls (.int (-x) :: rest) M L Q) : zk_R l σ d μ (pc) ls (.int x :: rest) M L Q := by
  intro p e s m args below meth c ad cs D H locs lsA X hH hS hl
  exact lv_ineg X.1 X.2.1 hd (kk p e s m args below meth c ad cs D H locs lsA X hH hS hl)
theorem zk_ishl {x y : Int32} (hd : decode μ.2.1 pc = .ok (.ishl, 1)) (kk : zk_R l σ d μ (pc + 1) ls (.int (x <<< (y &&& 31)) :: rest) M L Q) : zk_R l σ d μ (pc) ls (.int y :: .int x :: rest) M L Q := by
  intro p e s m args below meth c ad cs D H locs lsA X hH hS hl
  exact lv_ishl X.1 X.2.1 hd (kk p e s m args below meth c ad cs D H locs lsA X hH hS hl)
theorem zk_ishr {x y : Int32} (hd : decode μ.2.1 pc = .ok (.ishr, 1)) (kk : zk_R l σ d μ (pc + 1) ls (.int (x >>> (y &&& 31)) :: rest) M L Q) : zk_R l σ d μ (pc) ls (.int y :: .int x :: rest) M L Q := by
  intro p e s m args below meth c ad cs D H locs lsA X hH hS hl
  exact lv_ishr X.1 X.2.1 hd (kk p e s m args below meth c ad cs D H locs lsA X hH hS hl)
theorem zk_iushr {x y : Int32} (hd : decode μ.2.1 pc = .ok (.iushr, 1)) (kk : zk_R l σ d μ (pc + 1) ls (.int (x.toUInt32 >>> (y.toUInt32 &&& Int32.toUInt32 31)).toInt32 :: rest) M L Q) : zk_R l σ d μ (pc) ls (.int y :: .int x :: rest) M L Q := by
  intro p e s m args below meth c ad cs D H locs lsA X hH hS hl
  exact lv_iushr X.1 X.2.1 hd rfl (kk p e s m args below meth c ad cs D H locs lsA X hH hS hl)
theorem zk_lshl {x : Int64} {y : Int32} (hd : decode μ.2.1 pc = .ok (.lshl, 1)) (kk : zk_R l σ d μ (pc + 1) ls (.long (x <<< (y.toInt64 &&& 63)) :: rest) M L Q) : zk_R l σ d μ (pc) ls (.int y :: .long x :: rest) M L Q := by
  intro p e s m args below meth c ad cs D H locs lsA X hH hS hl
  exact lv_lshl X.1 X.2.1 hd rfl (kk p e s m args below meth c ad cs D H locs lsA X hH hS hl)
theorem zk_lshr {x : Int64} {y : Int32} (hd : decode μ.2.1 pc = .ok (.lshr, 1)) (kk : zk_R l σ d μ (pc + 1) ls (.long (x >>> (y.toInt64 &&& 63)) :: rest) M L Q) : zk_R l σ d μ (pc) ls (.int y :: .long x :: rest) M L Q := by
  intro p e s m args below meth c ad cs D H locs lsA X hH hS hl
  exact lv_lshr X.1 X.2.1 hd rfl (kk p e s m args below meth c ad cs D H locs lsA X hH hS hl)
theorem zk_i2l {x : Int32} (hd : decode μ.2.1 pc = .ok (.i2l, 1)) (kk : zk_R l σ d μ (pc + 1) ls (.long x.toInt64 :: rest) M L Q) : zk_R l σ d μ (pc) ls (.int x :: rest) M L Q := by
  intro p e s m args below meth c ad cs D H locs lsA X hH hS hl
  exact lv_i2l X.1 X.2.1 hd rfl (kk p e s m args below meth c ad cs D H locs lsA X hH hS hl)
theorem zk_lcmp {x y : Int64} (hd : decode μ.2.1 pc = .ok (.lcmp, 1)) (kk : zk_R l σ d μ (pc + 1) ls (.int (lg_cmp x y) :: rest) M L Q) : zk_R l σ d μ (pc) ls (.long y :: .long x :: rest) M L Q := by
  intro p e s m args below meth c ad cs D H locs lsA X hH hS hl
  exact W.lcmp X.1 X.2.1 hd (kk p e s m args below meth c ad cs D H locs lsA X hH hS hl)
theorem zk_iconst {n : Int} {v : Int32} (hd : decode μ.2.1 pc = .ok (.iconst n, 1)) (hv : Int32.ofInt n = v) (kk : zk_R l σ d μ (pc + 1) ls (.int v :: rest) M L Q) : zk_R l σ d μ (pc) ls (rest) M L Q := by
  intro p e s m args below meth c ad cs D H locs lsA X hH hS hl
  exact lv_iconst X.1 X.2.1 hd hv (kk p e s m args below meth c ad cs D H locs lsA X hH hS hl)
theorem zk_bipush {n : Int} {v : Int32} (hd : decode μ.2.1 pc = .ok (.bipush n, 2)) (hv : (Int8.ofInt n).toInt32 = v) (kk : zk_R l σ d μ (pc + 2) ls (.int v :: rest) M L Q) : zk_R l σ d μ (pc) ls (rest) M L Q := by
  intro p e s m args below meth c ad cs D H locs lsA X hH hS hl
  exact lv_bipush X.1 X.2.1 hd hv (kk p e s m args below meth c ad cs D H locs lsA X hH hS hl)
theorem zk_sipush {n : Int} {v : Int32} (hd : decode μ.2.1 pc = .ok (.sipush n, 3)) (hv : (Int16.ofInt n).toInt32 = v) (kk : zk_R l σ d μ (pc + 3) ls (.int v :: rest) M L Q) : zk_R l σ d μ (pc) ls (rest) M L Q := by
  intro p e s m args below meth c ad cs D H locs lsA X hH hS hl
  exact lv_sipush X.1 X.2.1 hd hv (kk p e s m args below meth c ad cs D H locs lsA X hH hS hl)
theorem zk_lconst {n : Fin 2} {v : Int64} (hd : decode μ.2.1 pc = .ok (.lconst n, 1)) (hv : Int64.ofNat (n : Nat) = v) (kk : zk_R l σ d μ (pc + 1) ls (.long v :: rest) M L Q) : zk_R l σ d μ (pc) ls (rest) M L Q := by
  intro p e s m args below meth c ad cs D H locs lsA X hH hS hl
  exact lv_lconst X.1 X.2.1 hd hv (kk p e s m args below meth c ad cs D H locs lsA X hH hS hl)
theorem zk_ldc {idx : Nat} {v : Int32} (hd : decode μ.2.1 pc = .ok (.ldc idx, 2)) (hw : Cond.constant μ.2.2.2.2 idx v ∈ zk_tb) (kk : zk_R l σ d μ (pc + 2) ls (.int v :: rest) M L Q) : zk_R l σ d μ (pc) ls (rest) M L Q := by
  intro p e s m args below meth c ad cs D H locs lsA X hH hS hl
  exact lv_ldc X.1 X.2.1 X.2.2.2.2.1 (X.2.2.2.2.2.1 _ hw) hd (kk p e s m args below meth c ad cs D H locs lsA X hH hS hl)
theorem zk_ldcw {idx : Nat} {v : Int32} (hd : decode μ.2.1 pc = .ok (.ldc_w idx, 3)) (hw : Cond.constant μ.2.2.2.2 idx v ∈ zk_tb) (kk : zk_R l σ d μ (pc + 3) ls (.int v :: rest) M L Q) : zk_R l σ d μ (pc) ls (rest) M L Q := by
  intro p e s m args below meth c ad cs D H locs lsA X hH hS hl
  exact lv_ldcw X.1 X.2.1 X.2.2.2.2.1 (X.2.2.2.2.2.1 _ hw) hd (kk p e s m args below meth c ad cs D H locs lsA X hH hS hl)
theorem zk_ldc2 {idx : Nat} {v : Int64} (hd : decode μ.2.1 pc = .ok (.ldc2_w idx, 3)) (hw : Cond.constantLong μ.2.2.2.2 idx v ∈ zk_tb) (kk : zk_R l σ d μ (pc + 3) ls (.long v :: rest) M L Q) : zk_R l σ d μ (pc) ls (rest) M L Q := by
  intro p e s m args below meth c ad cs D H locs lsA X hH hS hl
  exact lv_ldc2 X.1 X.2.1 X.2.2.2.2.1 (X.2.2.2.2.2.1 _ hw) hd (kk p e s m args below meth c ad cs D H locs lsA X hH hS hl)
theorem zk_iload_n {k : Fin 4} {x : Int32} (hd : decode μ.2.1 pc = .ok (.iload_n k, 1)) (hg : zk_g ls (k : Nat) = some (.int x)) (kk : zk_R l σ d μ (pc + 1) ls (.int x :: rest) M L Q) : zk_R l σ d μ (pc) ls (rest) M L Q := by
  intro p e s m args below meth c ad cs D H locs lsA X hH hS hl
  exact lv_iload_n X.1 X.2.1 hd rfl (zk_lv_at hl hg) (kk p e s m args below meth c ad cs D H locs lsA X hH hS hl)
theorem zk_iload {i : Nat} {x : Int32} (hd : decode μ.2.1 pc = .ok (.iload i, 2)) (hg : zk_g ls i = some (.int x)) (kk : zk_R l σ d μ (pc + 2) ls (.int x :: rest) M L Q) : zk_R l σ d μ (pc) ls (rest) M L Q := by
  intro p e s m args below meth c ad cs D H locs lsA X hH hS hl
  exact lv_iload X.1 X.2.1 hd (zk_lv_at hl hg) (kk p e s m args below meth c ad cs D H locs lsA X hH hS hl)
theorem zk_istore_n {k : Fin 4} {x : Int32} (hd : decode μ.2.1 pc = .ok (.istore_n k, 1)) (hs : zk_S ls (k : Nat) ls' (.int x)) (kk : zk_R l σ d μ (pc + 1) ls' (rest) M L Q) : zk_R l σ d μ (pc) ls (.int x :: rest) M L Q := by
  intro p e s m args below meth c ad cs D H locs lsA X hH hS hl
  exact lv_istore_n X.1 X.2.1 hd rfl (zk_lv_has hl) (by have := hs.1; rw [hl.2.2.1] at this; exact this) rfl (fun lsB hB => kk p e s m args below meth c ad cs D H locs lsB X hH hS (zk_lv_set hl hs hB))
theorem zk_istore {i : Nat} {x : Int32} (hd : decode μ.2.1 pc = .ok (.istore i, 2)) (hs : zk_S ls i ls' (.int x)) (kk : zk_R l σ d μ (pc + 2) ls' (rest) M L Q) : zk_R l σ d μ (pc) ls (.int x :: rest) M L Q := by
  intro p e s m args below meth c ad cs D H locs lsA X hH hS hl
  exact lv_istore X.1 X.2.1 hd (zk_lv_has hl) (by have := hs.1; rw [hl.2.2.1] at this; exact this) rfl (fun lsB hB => kk p e s m args below meth c ad cs D H locs lsB X hH hS (zk_lv_set hl hs hB))
theorem zk_aload_n {k : Fin 4} {x : Nat} (hd : decode μ.2.1 pc = .ok (.aload_n k, 1)) (hg : zk_g ls (k : Nat) = some (.ref x)) (kk : zk_R l σ d μ (pc + 1) ls (.ref x :: rest) M L Q) : zk_R l σ d μ (pc) ls (rest) M L Q := by
  intro p e s m args below meth c ad cs D H locs lsA X hH hS hl
  exact lv_aload_n X.1 X.2.1 hd rfl (zk_lv_at hl hg) (kk p e s m args below meth c ad cs D H locs lsA X hH hS hl)
theorem zk_aload {i : Nat} {x : Nat} (hd : decode μ.2.1 pc = .ok (.aload i, 2)) (hg : zk_g ls i = some (.ref x)) (kk : zk_R l σ d μ (pc + 2) ls (.ref x :: rest) M L Q) : zk_R l σ d μ (pc) ls (rest) M L Q := by
  intro p e s m args below meth c ad cs D H locs lsA X hH hS hl
  exact lv_aload X.1 X.2.1 hd (zk_lv_at hl hg) (kk p e s m args below meth c ad cs D H locs lsA X hH hS hl)
theorem zk_astore_n {k : Fin 4} {x : Nat} (hd : decode μ.2.1 pc = .ok (.astore_n k, 1)) (hs : zk_S ls (k : Nat) ls' (.ref x)) (kk : zk_R l σ d μ (pc + 1) ls' (rest) M L Q) : zk_R l σ d μ (pc) ls (.ref x :: rest) M L Q := by
  intro p e s m args below meth c ad cs D H locs lsA X hH hS hl
  exact lv_astore_n X.1 X.2.1 hd rfl (zk_lv_has hl) (by have := hs.1; rw [hl.2.2.1] at this; exact this) rfl (fun lsB hB => kk p e s m args below meth c ad cs D H locs lsB X hH hS (zk_lv_set hl hs hB))
theorem zk_astore {i : Nat} {x : Nat} (hd : decode μ.2.1 pc = .ok (.astore i, 2)) (hs : zk_S ls i ls' (.ref x)) (kk : zk_R l σ d μ (pc + 2) ls' (rest) M L Q) : zk_R l σ d μ (pc) ls (.ref x :: rest) M L Q := by
  intro p e s m args below meth c ad cs D H locs lsA X hH hS hl
  exact lv_astore X.1 X.2.1 hd (zk_lv_has hl) (by have := hs.1; rw [hl.2.2.1] at this; exact this) rfl (fun lsB hB => kk p e s m args below meth c ad cs D H locs lsB X hH hS (zk_lv_set hl hs hB))
theorem zk_lload_n {k : Fin 4} {x : Int64} (hd : decode μ.2.1 pc = .ok (.lload_n k, 1)) (hg : zk_g ls (k : Nat) = some (.long x)) (kk : zk_R l σ d μ (pc + 1) ls (.long x :: rest) M L Q) : zk_R l σ d μ (pc) ls (rest) M L Q := by
  intro p e s m args below meth c ad cs D H locs lsA X hH hS hl
  exact lv_lload_n X.1 X.2.1 hd rfl (zk_lv_at hl hg) (kk p e s m args below meth c ad cs D H locs lsA X hH hS hl)
theorem zk_lload {i : Nat} {x : Int64} (hd : decode μ.2.1 pc = .ok (.lload i, 2)) (hg : zk_g ls i = some (.long x)) (kk : zk_R l σ d μ (pc + 2) ls (.long x :: rest) M L Q) : zk_R l σ d μ (pc) ls (rest) M L Q := by
  intro p e s m args below meth c ad cs D H locs lsA X hH hS hl
  exact lv_lload X.1 X.2.1 hd (zk_lv_at hl hg) (kk p e s m args below meth c ad cs D H locs lsA X hH hS hl)
theorem zk_lstore_n {k : Fin 4} {x : Int64} (hd : decode μ.2.1 pc = .ok (.lstore_n k, 1)) (hs : zk_S2 ls (k : Nat) ls' (.long x)) (kk : zk_R l σ d μ (pc + 1) ls' (rest) M L Q) : zk_R l σ d μ (pc) ls (.long x :: rest) M L Q := by
  intro p e s m args below meth c ad cs D H locs lsA X hH hS hl
  exact lv_lstore_n X.1 X.2.1 hd rfl (zk_lv_has hl) (by have := hs.1; rw [hl.2.2.1] at this; exact this) rfl (fun lsB hB => kk p e s m args below meth c ad cs D H locs lsB X hH hS (zk_lv_set2 hl hs hB))
theorem zk_lstore {i : Nat} {x : Int64} (hd : decode μ.2.1 pc = .ok (.lstore i, 2)) (hs : zk_S2 ls i ls' (.long x)) (kk : zk_R l σ d μ (pc + 2) ls' (rest) M L Q) : zk_R l σ d μ (pc) ls (.long x :: rest) M L Q := by
  intro p e s m args below meth c ad cs D H locs lsA X hH hS hl
  exact lv_lstore X.1 X.2.1 hd (zk_lv_has hl) (by have := hs.1; rw [hl.2.2.1] at this; exact this) rfl (fun lsB hB => kk p e s m args below meth c ad cs D H locs lsB X hH hS (zk_lv_set2 hl hs hB))
theorem zk_iinc {i : Nat} {n : Int} {x nv : Int32} (hd : decode μ.2.1 pc = .ok (.iinc i n, 3)) (hn : Int32.ofInt n = nv) (hg : zk_g ls i = some (.int x)) (hs : zk_S ls i ls' (.int (x + nv))) (kk : zk_R l σ d μ (pc + 3) ls' (rest) M L Q) : zk_R l σ d μ (pc) ls (rest) M L Q := by
  intro p e s m args below meth c ad cs D H locs lsA X hH hS hl
  subst hn
  obtain ⟨k, hk⟩ := List.getElem?_of_mem (zk_ll_mem.mpr ⟨.int x, zk_g_get hg, rfl⟩ : (i, zk_mv ad (.int x)) ∈ zk_ll ad ls)
  exact lv_iinc X.1 X.2.1 hd (zk_lv_has hl) hk rfl (by have := hs.1; rw [hl.2.2.1] at this; exact this) rfl (fun lsB hB => kk p e s m args below meth c ad cs D H locs lsB X hH hS (zk_lv_set hl hs hB))
theorem zk_dup {v : Value} (hd : decode μ.2.1 pc = .ok (.dup, 1)) (hv : v.category = 1) (kk : zk_R l σ d μ (pc + 1) ls (v :: v :: rest) M L Q) : zk_R l σ d μ (pc) ls (v :: rest) M L Q := by
  intro p e s m args below meth c ad cs D H locs lsA X hH hS hl
  exact lv_dup X.1 X.2.1 hd ((zk_mv_cat ad v).trans hv) (kk p e s m args below meth c ad cs D H locs lsA X hH hS hl)
theorem zk_dup2 {v u : Value} (hd : decode μ.2.1 pc = .ok (.dup2, 1)) (hv : v.category = 1) (hu : u.category = 1) (kk : zk_R l σ d μ (pc + 1) ls (v :: u :: v :: u :: rest) M L Q) : zk_R l σ d μ (pc) ls (v :: u :: rest) M L Q := by
  intro p e s m args below meth c ad cs D H locs lsA X hH hS hl
  exact lv_dup2_11 X.1 X.2.1 hd ((zk_mv_cat ad v).trans hv) ((zk_mv_cat ad u).trans hu) (kk p e s m args below meth c ad cs D H locs lsA X hH hS hl)
theorem zk_pop {v : Value} (hd : decode μ.2.1 pc = .ok (.pop, 1)) (hv : v.category = 1) (kk : zk_R l σ d μ (pc + 1) ls (rest) M L Q) : zk_R l σ d μ (pc) ls (v :: rest) M L Q := by
  intro p e s m args below meth c ad cs D H locs lsA X hH hS hl
  exact lv_pop X.1 X.2.1 hd ((zk_mv_cat ad v).trans hv) (kk p e s m args below meth c ad cs D H locs lsA X hH hS hl)
theorem zk_if_eq {x : Int32} {off : Int} {tgt : Nat} (hd : decode μ.2.1 pc = .ok (.ifCond .eq off, 3)) (ht : (pc : Int) + off = (tgt : Int)) (kt : x = 0 → zk_R l σ d μ (tgt) ls (rest) M L Q) (kf : ¬ x = 0 → zk_R l σ d μ (pc + 3) ls (rest) M L Q) : zk_R l σ d μ (pc) ls (.int x :: rest) M L Q := by
  intro p e s m args below meth c ad cs D H locs lsA X hH hS hl
  exact lv_if_eq X.1 X.2.1 hd ht (fun q => kt q p e s m args below meth c ad cs D H locs lsA X hH hS hl) (fun q => kf q p e s m args below meth c ad cs D H locs lsA X hH hS hl)
theorem zk_icmp_eq {x y : Int32} {off : Int} {tgt : Nat} (hd : decode μ.2.1 pc = .ok (.if_icmp .eq off, 3)) (ht : (pc : Int) + off = (tgt : Int)) (kt : x = y → zk_R l σ d μ (tgt) ls (rest) M L Q) (kf : ¬ x = y → zk_R l σ d μ (pc + 3) ls (rest) M L Q) : zk_R l σ d μ (pc) ls (.int y :: .int x :: rest) M L Q := by
  intro p e s m args below meth c ad cs D H locs lsA X hH hS hl
  exact lv_icmp_eq X.1 X.2.1 hd ht (fun q => kt q p e s m args below meth c ad cs D H locs lsA X hH hS hl) (fun q => kf q p e s m args below meth c ad cs D H locs lsA X hH hS hl)
theorem zk_if_ne {x : Int32} {off : Int} {tgt : Nat} (hd : decode μ.2.1 pc = .ok (.ifCond .ne off, 3)) (ht : (pc : Int) + off = (tgt : Int)) (kt : ¬ x = 0 → zk_R l σ d μ (tgt) ls (rest) M L Q) (kf : x = 0 → zk_R l σ d μ (pc + 3) ls (rest) M L Q) : zk_R l σ d μ (pc) ls (.int x :: rest) M L Q := by
  intro p e s m args below meth c ad cs D H locs lsA X hH hS hl
  exact lv_if_ne X.1 X.2.1 hd ht (fun q => kt q p e s m args below meth c ad cs D H locs lsA X hH hS hl) (fun q => kf q p e s m args below meth c ad cs D H locs lsA X hH hS hl)
theorem zk_icmp_ne {x y : Int32} {off : Int} {tgt : Nat} (hd : decode μ.2.1 pc = .ok (.if_icmp .ne off, 3)) (ht : (pc : Int) + off = (tgt : Int)) (kt : ¬ x = y → zk_R l σ d μ (tgt) ls (rest) M L Q) (kf : x = y → zk_R l σ d μ (pc + 3) ls (rest) M L Q) : zk_R l σ d μ (pc) ls (.int y :: .int x :: rest) M L Q := by
  intro p e s m args below meth c ad cs D H locs lsA X hH hS hl
  exact lv_icmp_ne X.1 X.2.1 hd ht (fun q => kt q p e s m args below meth c ad cs D H locs lsA X hH hS hl) (fun q => kf q p e s m args below meth c ad cs D H locs lsA X hH hS hl)
theorem zk_if_lt {x : Int32} {off : Int} {tgt : Nat} (hd : decode μ.2.1 pc = .ok (.ifCond .lt off, 3)) (ht : (pc : Int) + off = (tgt : Int)) (kt : x < 0 → zk_R l σ d μ (tgt) ls (rest) M L Q) (kf : ¬ x < 0 → zk_R l σ d μ (pc + 3) ls (rest) M L Q) : zk_R l σ d μ (pc) ls (.int x :: rest) M L Q := by
  intro p e s m args below meth c ad cs D H locs lsA X hH hS hl
  exact lv_if_lt X.1 X.2.1 hd ht (fun q => kt q p e s m args below meth c ad cs D H locs lsA X hH hS hl) (fun q => kf q p e s m args below meth c ad cs D H locs lsA X hH hS hl)
theorem zk_icmp_lt {x y : Int32} {off : Int} {tgt : Nat} (hd : decode μ.2.1 pc = .ok (.if_icmp .lt off, 3)) (ht : (pc : Int) + off = (tgt : Int)) (kt : x < y → zk_R l σ d μ (tgt) ls (rest) M L Q) (kf : ¬ x < y → zk_R l σ d μ (pc + 3) ls (rest) M L Q) : zk_R l σ d μ (pc) ls (.int y :: .int x :: rest) M L Q := by
  intro p e s m args below meth c ad cs D H locs lsA X hH hS hl
  exact lv_icmp_lt X.1 X.2.1 hd ht (fun q => kt q p e s m args below meth c ad cs D H locs lsA X hH hS hl) (fun q => kf q p e s m args below meth c ad cs D H locs lsA X hH hS hl)
theorem zk_if_ge {x : Int32} {off : Int} {tgt : Nat} (hd : decode μ.2.1 pc = .ok (.ifCond .ge off, 3)) (ht : (pc : Int) + off = (tgt : Int)) (kt : 0 ≤ x → zk_R l σ d μ (tgt) ls (rest) M L Q) (kf : ¬ 0 ≤ x → zk_R l σ d μ (pc + 3) ls (rest) M L Q) : zk_R l σ d μ (pc) ls (.int x :: rest) M L Q := by
  intro p e s m args below meth c ad cs D H locs lsA X hH hS hl
  exact lv_if_ge X.1 X.2.1 hd ht (fun q => kt q p e s m args below meth c ad cs D H locs lsA X hH hS hl) (fun q => kf q p e s m args below meth c ad cs D H locs lsA X hH hS hl)
theorem zk_icmp_ge {x y : Int32} {off : Int} {tgt : Nat} (hd : decode μ.2.1 pc = .ok (.if_icmp .ge off, 3)) (ht : (pc : Int) + off = (tgt : Int)) (kt : y ≤ x → zk_R l σ d μ (tgt) ls (rest) M L Q) (kf : ¬ y ≤ x → zk_R l σ d μ (pc + 3) ls (rest) M L Q) : zk_R l σ d μ (pc) ls (.int y :: .int x :: rest) M L Q := by
  intro p e s m args below meth c ad cs D H locs lsA X hH hS hl
  exact lv_icmp_ge X.1 X.2.1 hd ht (fun q => kt q p e s m args below meth c ad cs D H locs lsA X hH hS hl) (fun q => kf q p e s m args below meth c ad cs D H locs lsA X hH hS hl)
theorem zk_if_gt {x : Int32} {off : Int} {tgt : Nat} (hd : decode μ.2.1 pc = .ok (.ifCond .gt off, 3)) (ht : (pc : Int) + off = (tgt : Int)) (kt : 0 < x → zk_R l σ d μ (tgt) ls (rest) M L Q) (kf : ¬ 0 < x → zk_R l σ d μ (pc + 3) ls (rest) M L Q) : zk_R l σ d μ (pc) ls (.int x :: rest) M L Q := by
  intro p e s m args below meth c ad cs D H locs lsA X hH hS hl
  exact lv_if_gt X.1 X.2.1 hd ht (fun q => kt q p e s m args below meth c ad cs D H locs lsA X hH hS hl) (fun q => kf q p e s m args below meth c ad cs D H locs lsA X hH hS hl)
theorem zk_icmp_gt {x y : Int32} {off : Int} {tgt : Nat} (hd : decode μ.2.1 pc = .ok (.if_icmp .gt off, 3)) (ht : (pc : Int) + off = (tgt : Int)) (kt : y < x → zk_R l σ d μ (tgt) ls (rest) M L Q) (kf : ¬ y < x → zk_R l σ d μ (pc + 3) ls (rest) M L Q) : zk_R l σ d μ (pc) ls (.int y :: .int x :: rest) M L Q := by
  intro p e s m args below meth c ad cs D H locs lsA X hH hS hl
  exact lv_icmp_gt X.1 X.2.1 hd ht (fun q => kt q p e s m args below meth c ad cs D H locs lsA X hH hS hl) (fun q => kf q p e s m args below meth c ad cs D H locs lsA X hH hS hl)
theorem zk_if_le {x : Int32} {off : Int} {tgt : Nat} (hd : decode μ.2.1 pc = .ok (.ifCond .le off, 3)) (ht : (pc : Int) + off = (tgt : Int)) (kt : x ≤ 0 → zk_R l σ d μ (tgt) ls (rest) M L Q) (kf : ¬ x ≤ 0 → zk_R l σ d μ (pc + 3) ls (rest) M L Q) : zk_R l σ d μ (pc) ls (.int x :: rest) M L Q := by
  intro p e s m args below meth c ad cs D H locs lsA X hH hS hl
  exact lv_if_le X.1 X.2.1 hd ht (fun q => kt q p e s m args below meth c ad cs D H locs lsA X hH hS hl) (fun q => kf q p e s m args below meth c ad cs D H locs lsA X hH hS hl)
theorem zk_icmp_le {x y : Int32} {off : Int} {tgt : Nat} (hd : decode μ.2.1 pc = .ok (.if_icmp .le off, 3)) (ht : (pc : Int) + off = (tgt : Int)) (kt : x ≤ y → zk_R l σ d μ (tgt) ls (rest) M L Q) (kf : ¬ x ≤ y → zk_R l σ d μ (pc + 3) ls (rest) M L Q) : zk_R l σ d μ (pc) ls (.int y :: .int x :: rest) M L Q := by
  intro p e s m args below meth c ad cs D H locs lsA X hH hS hl
  exact lv_icmp_le X.1 X.2.1 hd ht (fun q => kt q p e s m args below meth c ad cs D H locs lsA X hH hS hl) (fun q => kf q p e s m args below meth c ad cs D H locs lsA X hH hS hl)
theorem zk_goto {off : Int} {tgt : Nat} (hd : decode μ.2.1 pc = .ok (.goto off, 3)) (ht : (pc : Int) + off = (tgt : Int)) (kk : zk_R l σ d μ (tgt) ls (rest) M L Q) : zk_R l σ d μ (pc) ls (rest) M L Q := by
  intro p e s m args below meth c ad cs D H locs lsA X hH hS hl
  exact lv_goto X.1 X.2.1 hd ht (kk p e s m args below meth c ad cs D H locs lsA X hH hS hl)
theorem zk_lookup {dflt : Int} {ps : Array (Int × Int)} {len : Nat} {x : Int32} {off : Int} {tgt : Nat} (hd : decode μ.2.1 pc = .ok (.lookupswitch dflt ps, len)) (hp : (ps.toList.zip (ps.toList.drop 1)).all (fun (a, next) => a.1 < next.1) = true) (ho : Op.lookupswitch.offset ps.toList dflt x.toInt = off) (ht : (pc : Int) + off = (tgt : Int)) (kk : zk_R l σ d μ (tgt) ls (rest) M L Q) : zk_R l σ d μ (pc) ls (.int x :: rest) M L Q := by
  intro p e s m args below meth c ad cs D H locs lsA X hH hS hl
  exact lv_lookup X.1 X.2.1 hd hp ho ht (kk p e s m args below meth c ad cs D H locs lsA X hH hS hl)
theorem zk_tabOut {dflt lo hi : Int} {offs : Array Int} {len : Nat} {x : Int32} {tgt : Nat} (hd : decode μ.2.1 pc = .ok (.tableswitch dflt lo hi offs, len)) (h : x.toInt < lo ∨ hi < x.toInt) (ht : (pc : Int) + dflt = (tgt : Int)) (kk : zk_R l σ d μ (tgt) ls (rest) M L Q) : zk_R l σ d μ (pc) ls (.int x :: rest) M L Q := by
  intro p e s m args below meth c ad cs D H locs lsA X hH hS hl
  exact lv_tableOut X.1 X.2.1 hd h ht (kk p e s m args below meth c ad cs D H locs lsA X hH hS hl)
theorem zk_tabIn {dflt lo hi : Int} {offs : Array Int} {len : Nat} {x : Int32} {off : Int} {tgt : Nat} (hd : decode μ.2.1 pc = .ok (.tableswitch dflt lo hi offs, len)) (h1 : ¬ x.toInt < lo) (h2 : ¬ hi < x.toInt) (ho : offs[(x.toInt - lo).toNat]? = some off) (ht : (pc : Int) + off = (tgt : Int)) (kk : zk_R l σ d μ (tgt) ls (rest) M L Q) : zk_R l σ d μ (pc) ls (.int x :: rest) M L Q := by
  intro p e s m args below meth c ad cs D H locs lsA X hH hS hl
  exact lv_tableIn X.1 X.2.1 hd h1 h2 ho ht (kk p e s m args below meth c ad cs D H locs lsA X hH hS hl)
/-- a field's link: own class, pool number, class, slot -/
def zk_FL (own : String) (idx c k : Nat) : Prop := ∃ (C : String) (T : u_T) (N : Nat), vwCl[c]? = some (C, T, N) ∧ k < N ∧ N = zk_nf c ∧ (∀ w ∈ u_ws C T N, w ∈ zk_tb) ∧ Cond.fieldLink own idx (T k).1 (T k).2.1 (T k).2.2.1 ∈ zk_tb
theorem zk_c6 {c : Nat} {q : vw_C} (h : vwCl[c]? = some q) : c < 6 := by
  have := (List.getElem?_eq_some_iff.mp h).1
  simpa [vwCl] using this
theorem zk_getI {o idx ci k : Nat} (hd : decode μ.2.1 pc = .ok (.getfield idx, 3)) (hf : zk_FL μ.2.2.2.2 idx ci k) (ho : o < σ.1) (hc : σ.2.1 o = ci) (hr : zk_isref ci k = false) (kk : zk_R l σ d μ (pc + 3) ls (.int (M o k) :: rest) M L Q) : zk_R l σ d μ (pc) ls (.ref o :: rest) M L Q := by
  intro p e s m args below meth c ad cs D H locs lsA X hH hS hl
  obtain ⟨C, T, N, h1, h2, h3, h4, h5⟩ := hf
  refine va_get (D := D) (ci := ci) (v := .int (M o k)) (C := C) (T := T) (N := N) X.1 X.2.1 X.2.2.2.2.2.1 h4 X.2.2.2.2.1 X.2.2.2.2.2.2.2.2 hH.1 o (by rw [zk_at ho, zk_ent_o hc (zk_c6 h1)]) h1 k h2 (X.2.2.2.2.2.1 _ h5) (fun _ h => h) ?_ hd (kk p e s m args below meth c ad cs D H locs lsA X hH hS hl)
  rw [List.getElem?_map, List.getElem?_range (by omega)]
  simp [zk_fv, hc, hr]
theorem zk_getR {o idx ci k : Nat} (hd : decode μ.2.1 pc = .ok (.getfield idx, 3)) (hf : zk_FL μ.2.2.2.2 idx ci k) (ho : o < σ.1) (hc : σ.2.1 o = ci) (hr : zk_isref ci k = true) (kk : zk_R l σ d μ (pc + 3) ls (.ref (σ.2.2.2 o k) :: rest) M L Q) : zk_R l σ d μ (pc) ls (.ref o :: rest) M L Q := by
  intro p e s m args below meth c ad cs D H locs lsA X hH hS hl
  obtain ⟨C, T, N, h1, h2, h3, h4, h5⟩ := hf
  refine va_get (D := D) (ci := ci) (v := .ref (ad (σ.2.2.2 o k))) (C := C) (T := T) (N := N) X.1 X.2.1 X.2.2.2.2.2.1 h4 X.2.2.2.2.1 X.2.2.2.2.2.2.2.2 hH.1 o (by rw [zk_at ho, zk_ent_o hc (zk_c6 h1)]) h1 k h2 (X.2.2.2.2.2.1 _ h5) (fun _ h => h) ?_ hd (kk p e s m args below meth c ad cs D H locs lsA X hH hS hl)
  rw [List.getElem?_map, List.getElem?_range (by omega)]
  simp [zk_fv, hc, hr]
theorem zk_getRc {o idx ci k q : Nat} (hd : decode μ.2.1 pc = .ok (.getfield idx, 3)) (hf : zk_FL μ.2.2.2.2 idx ci k) (ho : o < σ.1) (hc : σ.2.1 o = ci) (hr : zk_isref ci k = true) (hq : σ.2.2.2 o k = q) (kk : zk_R l σ d μ (pc + 3) ls (.ref q :: rest) M L Q) : zk_R l σ d μ (pc) ls (.ref o :: rest) M L Q := by subst hq; exact zk_getR hd hf ho hc hr kk
theorem zs_in {o n : Nat} {i : Int32} (h : σ.2.2.1 o = n) (hi : vp_in i n) : vp_in i (σ.2.2.1 o) := by rw [h]; exact hi
/-- what a put wants of a class's table -/
def zk_FT (c k : Nat) (ty : FieldType) : Prop := ∀ (C : String) (T : u_T) (N : Nat), vwCl[c]? = some (C, T, N) → (∃ ty0 : Nat → FieldType, ∀ k, k < N → parseFieldDescriptor (T k).2.2.1 = some (ty0 k)) ∧ (∀ a, a < N → ∀ b, b < N → a ≠ b → (T a).2.1 ≠ (T b).2.1) ∧ (T k).2.2.2 = false ∧ parseFieldDescriptor (T k).2.2.1 = some ty
theorem zk_fset {ad : Nat → Nat} {o c k : Nat} {v : Int32} (hc : σ.2.1 o = c) (hr : zk_isref c k = false) : ((List.range (zk_nf c)).map (zk_fv ad σ M o)).set k (.int v) = (List.range (zk_nf c)).map (zk_fv ad σ (va_up M o (va_up (M o) k v)) o) := by
  apply List.ext_getElem?
  intro j
  by_cases hj : j = k
  · subst hj
    by_cases hl : j < zk_nf c
    · rw [List.getElem?_set_self (by simpa using hl), List.getElem?_map, List.getElem?_range hl]
      simp [zk_fv, hc, hr, va_up]
    · rw [List.getElem?_eq_none (by simp; omega), List.getElem?_eq_none (by simp; omega)]
  · rw [List.getElem?_set_ne (fun h => hj h.symm)]
    by_cases hl : j < zk_nf c
    · rw [List.getElem?_map, List.getElem?_map, List.getElem?_range hl]
      simp [zk_fv, va_up, hj]
    · rw [List.getElem?_eq_none (by simp; omega), List.getElem?_eq_none (by simp; omega)]
theorem zk_putG {o idx ci k : Nat} {ty : FieldType} {v : Int32} (hd : decode μ.2.1 pc = .ok (.putfield idx, 3)) (hf : zk_FL μ.2.2.2.2 idx ci k) (hty : zk_FT ci k ty) (hn : narrow ty (.int v) = .int v) (hfit : fits ty (.int v) = true) (ho : o < σ.1) (hc : σ.2.1 o = ci) (hr : zk_isref ci k = false) (kk : zk_R l σ d μ (pc + 3) ls (rest) (va_up M o (va_up (M o) k v)) L Q) : zk_R l σ d μ (pc) ls (.int v :: .ref o :: rest) M L Q := by
  intro p e s m args below meth c ad cs D H locs lsA X hH hS hl
  obtain ⟨C, T, N, h1, h2, h3, h4, h5⟩ := hf
  obtain ⟨⟨ty0, t1⟩, t2, t3, t4⟩ := hty C T N h1
  refine va_put (D := D) (ci := ci) (v := .int v) (ty := ty) (C := C) (T := T) (N := N) X.1 X.2.1 X.2.2.2.2.2.1 h4 ty0 t1 t2 X.2.2.2.2.1 X.2.2.2.2.2.2.2.2 hH.1 hH.2 hS o (fs := (List.range (zk_nf ci)).map (zk_fv ad σ M o)) (by rw [zk_at ho, zk_ent_o hc (zk_c6 h1)]) h1 k h2 (X.2.2.2.2.2.1 _ h5) (fun _ h => h) t3 t4 hn hfit (by simp; omega) hd (fun H1 locs1 hP hD hS1 => ?_)
  rw [zk_fset hc hr, ← zk_ent_o (cs := cs) (L := L) hc (zk_c6 h1), zk_setM] at hP hD
  exact kk p e s m args below meth c ad cs D H1 locs1 lsA X ⟨hP, hD⟩ hS1 hl
theorem zk_iald {o j : Nat} {i : Int32} (hd : decode μ.2.1 pc = .ok (.iaload, 1)) (ho : o < σ.1) (hc : σ.2.1 o = 100) (hi : vp_in i (σ.2.2.1 o)) (hj : i.toNatClampNeg = j) (kk : zk_R l σ d μ (pc + 1) ls (.int (M o j) :: rest) M L Q) : zk_R l σ d μ (pc) ls (.int i :: .ref o :: rest) M L Q := by
  subst hj
  intro p e s m args below meth c ad cs D H locs lsA X hH hS hl
  exact va_iald (D := D) (tys := zk_ty cs) X.1 X.2.1 X.2.2.2.2.2.2.2.2 hH.1 o 0 (by rw [zk_at ho, zk_ent_i hc]) rfl hi hd (kk p e s m args below meth c ad cs D H locs lsA X hH hS hl)
theorem zk_lald {o j : Nat} {i : Int32} (hd : decode μ.2.1 pc = .ok (.laload, 1)) (ho : o < σ.1) (hc : σ.2.1 o = 101) (hi : vp_in i (σ.2.2.1 o)) (hj : i.toNatClampNeg = j) (kk : zk_R l σ d μ (pc + 1) ls (.long (L o j) :: rest) M L Q) : zk_R l σ d μ (pc) ls (.int i :: .ref o :: rest) M L Q := by
  subst hj
  intro p e s m args below meth c ad cs D H locs lsA X hH hS hl
  exact va_lald (D := D) (tys := zk_ty cs) X.1 X.2.1 X.2.2.2.2.2.2.2.2 hH.1 o 1 (by rw [zk_at ho, zk_ent_l hc]) rfl hi hd (kk p e s m args below meth c ad cs D H locs lsA X hH hS hl)
theorem zk_aald {o j q : Nat} {i : Int32} (hd : decode μ.2.1 pc = .ok (.aaload, 1)) (ho : o < σ.1) (hc : σ.2.1 o = 102) (hi : vp_in i (σ.2.2.1 o)) (hj : i.toNatClampNeg = j) (hq : σ.2.2.2 o j = q) (kk : zk_R l σ d μ (pc + 1) ls (.ref q :: rest) M L Q) : zk_R l σ d μ (pc) ls (.int i :: .ref o :: rest) M L Q := by
  subst hq
  subst hj
  intro p e s m args below meth c ad cs D H locs lsA X hH hS hl
  exact va_aldq (D := D) (tys := zk_ty cs) X.1 X.2.1 X.2.2.2.2.2.2.2.2 hH.1 o 2 (f := fun j => some (ad (σ.2.2.2 o j))) (by rw [zk_at ho, zk_ent_q hc]) rfl hi hd (kk p e s m args below meth c ad cs D H locs lsA X hH hS hl)
theorem zk_iast {o j : Nat} {i x : Int32} (hd : decode μ.2.1 pc = .ok (.iastore, 1)) (ho : o < σ.1) (hc : σ.2.1 o = 100) (hi : vp_in i (σ.2.2.1 o)) (hj : i.toNatClampNeg = j) (kk : zk_R l σ d μ (pc + 1) ls (rest) (va_up M o (va_up (M o) j x)) L Q) : zk_R l σ d μ (pc) ls (.int x :: .int i :: .ref o :: rest) M L Q := by
  subst hj
  intro p e s m args below meth c ad cs D H locs lsA X hH hS hl
  refine va_iast (D := D) (tys := zk_ty cs) X.1 X.2.1 X.2.2.2.2.2.2.2.2 hH.1 hH.2 hS o 0 (by rw [zk_at ho, zk_ent_i hc]) rfl hi hd (fun H1 locs1 hP hD hS1 => ?_)
  have e1 : (Sum.inl (cs.1, σ.2.2.1 o, Sum.inl (upd (M o) i.toNatClampNeg x)) : va_E) = zk_ent ad cs σ (va_up M o (va_up (M o) i.toNatClampNeg x)) L o := by rw [zk_ent_i hc, zk_up_eq]; rfl
  rw [e1, zk_setM] at hP hD
  exact kk p e s m args below meth c ad cs D H1 locs1 lsA X ⟨hP, hD⟩ hS1 hl
theorem zk_last {o j : Nat} {i : Int32} {x : Int64} (hd : decode μ.2.1 pc = .ok (.lastore, 1)) (ho : o < σ.1) (hc : σ.2.1 o = 101) (hi : vp_in i (σ.2.2.1 o)) (hj : i.toNatClampNeg = j) (kk : zk_R l σ d μ (pc + 1) ls (rest) M (va_up L o (va_up (L o) j x)) Q) : zk_R l σ d μ (pc) ls (.long x :: .int i :: .ref o :: rest) M L Q := by
  subst hj
  intro p e s m args below meth c ad cs D H locs lsA X hH hS hl
  refine va_last (D := D) (tys := zk_ty cs) X.1 X.2.1 X.2.2.2.2.2.2.2.2 hH.1 hH.2 hS o 1 (by rw [zk_at ho, zk_ent_l hc]) rfl hi hd (fun H1 locs1 hP hD hS1 => ?_)
  have e1 : (Sum.inl (cs.2.1, σ.2.2.1 o, Sum.inr (Sum.inl (vp_updL (L o) i.toNatClampNeg x))) : va_E) = zk_ent ad cs σ M (va_up L o (va_up (L o) i.toNatClampNeg x)) o := by rw [zk_ent_l hc, zk_up_eq]; rfl
  rw [e1, zk_setL] at hP hD
  exact kk p e s m args below meth c ad cs D H1 locs1 lsA X ⟨hP, hD⟩ hS1 hl
/-! ends -/
theorem zk_iret {v : Int32} (hr : μ.2.2.2.1 = some .int) (hd : decode μ.2.1 pc = .ok (.ireturn, 1)) (hq : Q (some (.int v)) M L) : zk_R l σ d μ (pc) ls ([.int v]) M L Q := by
  intro p e s m args below meth c ad cs D H locs lsA X hH hS hl
  exact W.iret (v := v) X.1 X.2.1 (X.2.2.1.trans hr) (fun t ht hW => ⟨⟨some (.int v), M, L, rfl, hq, by rw [ht]; exact hH, va_K.moved hW.alike X.2.2.2.2.2.2.2.2⟩, hS.F ht⟩) hS.2.2 hd X.2.2.2.2.2.2.2.1
theorem zk_zret {v : Int32} (hr : μ.2.2.2.1 = some .boolean) (hn : narrow .boolean (.int v) = .int v) (hd : decode μ.2.1 pc = .ok (.ireturn, 1)) (hq : Q (some (.int v)) M L) : zk_R l σ d μ (pc) ls ([.int v]) M L Q := by
  intro p e s m args below meth c ad cs D H locs lsA X hH hS hl
  exact W.zret (v := v) X.1 X.2.1 (X.2.2.1.trans hr) hn (fun t ht hW => ⟨⟨some (.int v), M, L, rfl, hq, by rw [ht]; exact hH, va_K.moved hW.alike X.2.2.2.2.2.2.2.2⟩, hS.F ht⟩) hS.2.2 hd X.2.2.2.2.2.2.2.1
theorem zk_lret {v : Int64} (hr : μ.2.2.2.1 = some .long) (hd : decode μ.2.1 pc = .ok (.lreturn, 1)) (hq : Q (some (.long v)) M L) : zk_R l σ d μ (pc) ls ([.long v]) M L Q := by
  intro p e s m args below meth c ad cs D H locs lsA X hH hS hl
  exact W.lret (v := v) X.1 X.2.1 (X.2.2.1.trans hr) (fun t ht hW => ⟨⟨some (.long v), M, L, rfl, hq, by rw [ht]; exact hH, va_K.moved hW.alike X.2.2.2.2.2.2.2.2⟩, hS.F ht⟩) hS.2.2 hd X.2.2.2.2.2.2.2.1
theorem zk_vret (hr : μ.2.2.2.1 = none) (hd : decode μ.2.1 pc = .ok (.return_, 1)) (hq : Q none M L) : zk_R l σ d μ (pc) ls ([]) M L Q := by
  intro p e s m args below meth c ad cs D H locs lsA X hH hS hl
  exact W.vret X.1 X.2.1 (X.2.2.1.trans hr) (fun t ht hW => ⟨⟨none, M, L, rfl, hq, by rw [ht]; exact hH, va_K.moved hW.alike X.2.2.2.2.2.2.2.2⟩, hS.F ht⟩) hS.2.2 hd X.2.2.2.2.2.2.2.1

end ZKR
