section Rules
variable {g : aG} {d : Nat} {y : aM} {pc : Nat} {l : List Value} {ll : List (Nat × Int64)} {st : List Value} {σ : aS} {Q : aO → aS → Prop}
theorem s_iconst {n : Int} (hd : decode y.2.1 pc = .ok (.iconst n, 1)) (k : Rn g d y (pc + 1) l ll (.int (Int32.ofInt n) :: st) σ Q) : Rn g d y pc l ll (st) σ Q := by
  intro p e R s m args below meth c H locs cells slots ls nc0 ns0 X
  exact lv_iconst X.2.1.1 X.2.1.2.1 hd rfl (k _ _ _ _ _ _ _ _ _ _ _ _ _ _ _ _ X)
theorem s_bipush {n : Int} (hd : decode y.2.1 pc = .ok (.bipush n, 2)) (k : Rn g d y (pc + 2) l ll (.int (Int8.ofInt n).toInt32 :: st) σ Q) : Rn g d y pc l ll (st) σ Q := by
  intro p e R s m args below meth c H locs cells slots ls nc0 ns0 X
  exact lv_bipush X.2.1.1 X.2.1.2.1 hd rfl (k _ _ _ _ _ _ _ _ _ _ _ _ _ _ _ _ X)
theorem s_sipush {n : Int} (hd : decode y.2.1 pc = .ok (.sipush n, 3)) (k : Rn g d y (pc + 3) l ll (.int (Int16.ofInt n).toInt32 :: st) σ Q) : Rn g d y pc l ll (st) σ Q := by
  intro p e R s m args below meth c H locs cells slots ls nc0 ns0 X
  exact lv_sipush X.2.1.1 X.2.1.2.1 hd rfl (k _ _ _ _ _ _ _ _ _ _ _ _ _ _ _ _ X)
theorem s_lconst {n : Fin 2} (hd : decode y.2.1 pc = .ok (.lconst n, 1)) (k : Rn g d y (pc + 1) l ll (.long (Int64.ofNat (n : Nat)) :: st) σ Q) : Rn g d y pc l ll (st) σ Q := by
  intro p e R s m args below meth c H locs cells slots ls nc0 ns0 X
  exact lv_lconst X.2.1.1 X.2.1.2.1 hd rfl (k _ _ _ _ _ _ _ _ _ _ _ _ _ _ _ _ X)
theorem s_iadd {a b : Int32} (hd : decode y.2.1 pc = .ok (.iadd, 1)) (k : Rn g d y (pc + 1) l ll (.int (a + b) :: st) σ Q) : Rn g d y pc l ll (.int b :: .int a :: st) σ Q := by
  intro p e R s m args below meth c H locs cells slots ls nc0 ns0 X
  exact lv_iadd X.2.1.1 X.2.1.2.1 hd (k _ _ _ _ _ _ _ _ _ _ _ _ _ _ _ _ X)
theorem s_isub {a b : Int32} (hd : decode y.2.1 pc = .ok (.isub, 1)) (k : Rn g d y (pc + 1) l ll (.int (a - b) :: st) σ Q) : Rn g d y pc l ll (.int b :: .int a :: st) σ Q := by
  intro p e R s m args below meth c H locs cells slots ls nc0 ns0 X
  exact lv_isub X.2.1.1 X.2.1.2.1 hd (k _ _ _ _ _ _ _ _ _ _ _ _ _ _ _ _ X)
theorem s_imul {a b : Int32} (hd : decode y.2.1 pc = .ok (.imul, 1)) (k : Rn g d y (pc + 1) l ll (.int (a * b) :: st) σ Q) : Rn g d y pc l ll (.int b :: .int a :: st) σ Q := by
  intro p e R s m args below meth c H locs cells slots ls nc0 ns0 X
  exact lv_imul X.2.1.1 X.2.1.2.1 hd (k _ _ _ _ _ _ _ _ _ _ _ _ _ _ _ _ X)
theorem s_iand {a b : Int32} (hd : decode y.2.1 pc = .ok (.iand, 1)) (k : Rn g d y (pc + 1) l ll (.int (a &&& b) :: st) σ Q) : Rn g d y pc l ll (.int b :: .int a :: st) σ Q := by
  intro p e R s m args below meth c H locs cells slots ls nc0 ns0 X
  exact lv_iand X.2.1.1 X.2.1.2.1 hd (k _ _ _ _ _ _ _ _ _ _ _ _ _ _ _ _ X)
theorem s_ior {a b : Int32} (hd : decode y.2.1 pc = .ok (.ior, 1)) (k : Rn g d y (pc + 1) l ll (.int (a ||| b) :: st) σ Q) : Rn g d y pc l ll (.int b :: .int a :: st) σ Q := by
  intro p e R s m args below meth c H locs cells slots ls nc0 ns0 X
  exact lv_ior X.2.1.1 X.2.1.2.1 hd (k _ _ _ _ _ _ _ _ _ _ _ _ _ _ _ _ X)
theorem s_ixor {a b : Int32} (hd : decode y.2.1 pc = .ok (.ixor, 1)) (k : Rn g d y (pc + 1) l ll (.int (a ^^^ b) :: st) σ Q) : Rn g d y pc l ll (.int b :: .int a :: st) σ Q := by
  intro p e R s m args below meth c H locs cells slots ls nc0 ns0 X
  exact lv_ixor X.2.1.1 X.2.1.2.1 hd (k _ _ _ _ _ _ _ _ _ _ _ _ _ _ _ _ X)
theorem s_ishl {a b : Int32} (hd : decode y.2.1 pc = .ok (.ishl, 1)) (k : Rn g d y (pc + 1) l ll (.int (a <<< (b &&& 31)) :: st) σ Q) : Rn g d y pc l ll (.int b :: .int a :: st) σ Q := by
  intro p e R s m args below meth c H locs cells slots ls nc0 ns0 X
  exact lv_ishl X.2.1.1 X.2.1.2.1 hd (k _ _ _ _ _ _ _ _ _ _ _ _ _ _ _ _ X)
theorem s_ishr {a b : Int32} (hd : decode y.2.1 pc = .ok (.ishr, 1)) (k : Rn g d y (pc + 1) l ll (.int (a >>> (b &&& 31)) :: st) σ Q) : Rn g d y pc l ll (.int b :: .int a :: st) σ Q := by
  intro p e R s m args below meth c H locs cells slots ls nc0 ns0 X
  exact lv_ishr X.2.1.1 X.2.1.2.1 hd (k _ _ _ _ _ _ _ _ _ _ _ _ _ _ _ _ X)
theorem s_iushr {a b : Int32} (hd : decode y.2.1 pc = .ok (.iushr, 1)) (k : Rn g d y (pc + 1) l ll (.int (a.toUInt32 >>> (b.toUInt32 &&& Int32.toUInt32 31)).toInt32 :: st) σ Q) : Rn g d y pc l ll (.int b :: .int a :: st) σ Q := by
  intro p e R s m args below meth c H locs cells slots ls nc0 ns0 X
  exact lv_iushr X.2.1.1 X.2.1.2.1 hd rfl (k _ _ _ _ _ _ _ _ _ _ _ _ _ _ _ _ X)
theorem s_idiv {a b : Int32} (hd : decode y.2.1 pc = .ok (.idiv, 1)) (hne : ¬ b = 0) (k : Rn g d y (pc + 1) l ll (.int (a / b) :: st) σ Q) : Rn g d y pc l ll (.int b :: .int a :: st) σ Q := by
  intro p e R s m args below meth c H locs cells slots ls nc0 ns0 X
  exact lv_idiv X.2.1.1 X.2.1.2.1 hd hne (k _ _ _ _ _ _ _ _ _ _ _ _ _ _ _ _ X)
theorem s_irem {a b : Int32} (hd : decode y.2.1 pc = .ok (.irem, 1)) (hne : ¬ b = 0) (k : Rn g d y (pc + 1) l ll (.int (a - a / b * b) :: st) σ Q) : Rn g d y pc l ll (.int b :: .int a :: st) σ Q := by
  intro p e R s m args below meth c H locs cells slots ls nc0 ns0 X
  exact lv_irem X.2.1.1 X.2.1.2.1 hd hne (k _ _ _ _ _ _ _ _ _ _ _ _ _ _ _ _ X)
theorem s_ineg {a : Int32} (hd : decode y.2.1 pc = .ok (.ineg, 1)) (k : Rn g d y (pc + 1) l ll (.int (-a) :: st) σ Q) : Rn g d y pc l ll (.int a :: st) σ Q := by
  intro p e R s m args below meth c H locs cells slots ls nc0 ns0 X
  exact lv_ineg X.2.1.1 X.2.1.2.1 hd (k _ _ _ _ _ _ _ _ _ _ _ _ _ _ _ _ X)
theorem s_ladd {a b : Int64} (hd : decode y.2.1 pc = .ok (.ladd, 1)) (k : Rn g d y (pc + 1) l ll (.long (a + b) :: st) σ Q) : Rn g d y pc l ll (.long b :: .long a :: st) σ Q := by
  intro p e R s m args below meth c H locs cells slots ls nc0 ns0 X
  exact lv_ladd X.2.1.1 X.2.1.2.1 hd (k _ _ _ _ _ _ _ _ _ _ _ _ _ _ _ _ X)
theorem s_lmul {a b : Int64} (hd : decode y.2.1 pc = .ok (.lmul, 1)) (k : Rn g d y (pc + 1) l ll (.long (a * b) :: st) σ Q) : Rn g d y pc l ll (.long b :: .long a :: st) σ Q := by
  intro p e R s m args below meth c H locs cells slots ls nc0 ns0 X
  exact lv_lmul X.2.1.1 X.2.1.2.1 hd (k _ _ _ _ _ _ _ _ _ _ _ _ _ _ _ _ X)
theorem s_ldiv {a b : Int64} (hd : decode y.2.1 pc = .ok (.ldiv, 1)) (hne : ¬ b = 0) (k : Rn g d y (pc + 1) l ll (.long (a / b) :: st) σ Q) : Rn g d y pc l ll (.long b :: .long a :: st) σ Q := by
  intro p e R s m args below meth c H locs cells slots ls nc0 ns0 X
  exact lv_ldiv X.2.1.1 X.2.1.2.1 hd hne (k _ _ _ _ _ _ _ _ _ _ _ _ _ _ _ _ X)
theorem s_lrem {a b : Int64} (hd : decode y.2.1 pc = .ok (.lrem, 1)) (hne : ¬ b = 0) (k : Rn g d y (pc + 1) l ll (.long (a - a / b * b) :: st) σ Q) : Rn g d y pc l ll (.long b :: .long a :: st) σ Q := by
  intro p e R s m args below meth c H locs cells slots ls nc0 ns0 X
  exact lv_lrem X.2.1.1 X.2.1.2.1 hd hne (k _ _ _ _ _ _ _ _ _ _ _ _ _ _ _ _ X)
theorem s_i2l {a : Int32} (hd : decode y.2.1 pc = .ok (.i2l, 1)) (k : Rn g d y (pc + 1) l ll (.long a.toInt64 :: st) σ Q) : Rn g d y pc l ll (.int a :: st) σ Q := by
  intro p e R s m args below meth c H locs cells slots ls nc0 ns0 X
  exact lv_i2l X.2.1.1 X.2.1.2.1 hd rfl (k _ _ _ _ _ _ _ _ _ _ _ _ _ _ _ _ X)
theorem s_i2b {a : Int32} (hd : decode y.2.1 pc = .ok (.i2b, 1)) (k : Rn g d y (pc + 1) l ll (.int a.toInt8.toInt32 :: st) σ Q) : Rn g d y pc l ll (.int a :: st) σ Q := by
  intro p e R s m args below meth c H locs cells slots ls nc0 ns0 X
  exact lv_i2b X.2.1.1 X.2.1.2.1 hd rfl (k _ _ _ _ _ _ _ _ _ _ _ _ _ _ _ _ X)
theorem s_i2c {a : Int32} (hd : decode y.2.1 pc = .ok (.i2c, 1)) (k : Rn g d y (pc + 1) l ll (.int (a.toUInt32 % 65536).toInt32 :: st) σ Q) : Rn g d y pc l ll (.int a :: st) σ Q := by
  intro p e R s m args below meth c H locs cells slots ls nc0 ns0 X
  exact lv_i2c X.2.1.1 X.2.1.2.1 hd rfl (k _ _ _ _ _ _ _ _ _ _ _ _ _ _ _ _ X)
theorem s_lcmp {a b : Int64} (hd : decode y.2.1 pc = .ok (.lcmp, 1)) (k : Rn g d y (pc + 1) l ll (.int (lg_cmp a b) :: st) σ Q) : Rn g d y pc l ll (.long b :: .long a :: st) σ Q := by
  intro p e R s m args below meth c H locs cells slots ls nc0 ns0 X
  exact W.lcmp X.2.1.1 X.2.1.2.1 hd (k _ _ _ _ _ _ _ _ _ _ _ _ _ _ _ _ X)
theorem s_dup {v : Value} (hd : decode y.2.1 pc = .ok (.dup, 1)) (hv : v.category = 1) (k : Rn g d y (pc + 1) l ll (v :: v :: st) σ Q) : Rn g d y pc l ll (v :: st) σ Q := by
  intro p e R s m args below meth c H locs cells slots ls nc0 ns0 X
  exact lv_dup X.2.1.1 X.2.1.2.1 hd ((cv_cat g v).trans hv) (k _ _ _ _ _ _ _ _ _ _ _ _ _ _ _ _ X)
theorem s_pop {v : Value} (hd : decode y.2.1 pc = .ok (.pop, 1)) (hv : v.category = 1) (k : Rn g d y (pc + 1) l ll (st) σ Q) : Rn g d y pc l ll (v :: st) σ Q := by
  intro p e R s m args below meth c H locs cells slots ls nc0 ns0 X
  exact lv_pop X.2.1.1 X.2.1.2.1 hd ((cv_cat g v).trans hv) (k _ _ _ _ _ _ _ _ _ _ _ _ _ _ _ _ X)
theorem s_dup2 {v w : Value} (hd : decode y.2.1 pc = .ok (.dup2, 1)) (hv : v.category = 1) (hw : w.category = 1) (k : Rn g d y (pc + 1) l ll (v :: w :: v :: w :: st) σ Q) : Rn g d y pc l ll (v :: w :: st) σ Q := by
  intro p e R s m args below meth c H locs cells slots ls nc0 ns0 X
  exact lv_dup2_11 X.2.1.1 X.2.1.2.1 hd ((cv_cat g v).trans hv) ((cv_cat g w).trans hw) (k _ _ _ _ _ _ _ _ _ _ _ _ _ _ _ _ X)
theorem s_ifeq {a : Int32} {off : Int} {tgt : Nat} (hd : decode y.2.1 pc = .ok (.ifCond .eq off, 3)) (ht : (pc : Int) + off = (tgt : Int)) (kt : a = 0 → Rn g d y tgt l ll st σ Q) (kf : ¬ a = 0 → Rn g d y (pc + 3) l ll st σ Q) : Rn g d y pc l ll (.int a :: st) σ Q := by
  intro p e R s m args below meth c H locs cells slots ls nc0 ns0 X
  exact lv_if_eq X.2.1.1 X.2.1.2.1 hd ht (fun h => kt h _ _ _ _ _ _ _ _ _ _ _ _ _ _ _ _ X) (fun h => kf h _ _ _ _ _ _ _ _ _ _ _ _ _ _ _ _ X)
theorem s_ifne {a : Int32} {off : Int} {tgt : Nat} (hd : decode y.2.1 pc = .ok (.ifCond .ne off, 3)) (ht : (pc : Int) + off = (tgt : Int)) (kt : ¬ a = 0 → Rn g d y tgt l ll st σ Q) (kf : a = 0 → Rn g d y (pc + 3) l ll st σ Q) : Rn g d y pc l ll (.int a :: st) σ Q := by
  intro p e R s m args below meth c H locs cells slots ls nc0 ns0 X
  exact lv_if_ne X.2.1.1 X.2.1.2.1 hd ht (fun h => kt h _ _ _ _ _ _ _ _ _ _ _ _ _ _ _ _ X) (fun h => kf h _ _ _ _ _ _ _ _ _ _ _ _ _ _ _ _ X)
theorem s_iflt {a : Int32} {off : Int} {tgt : Nat} (hd : decode y.2.1 pc = .ok (.ifCond .lt off, 3)) (ht : (pc : Int) + off = (tgt : Int)) (kt : a < 0 → Rn g d y tgt l ll st σ Q) (kf : ¬ a < 0 → Rn g d y (pc + 3) l ll st σ Q) : Rn g d y pc l ll (.int a :: st) σ Q := by
  intro p e R s m args below meth c H locs cells slots ls nc0 ns0 X
  exact lv_if_lt X.2.1.1 X.2.1.2.1 hd ht (fun h => kt h _ _ _ _ _ _ _ _ _ _ _ _ _ _ _ _ X) (fun h => kf h _ _ _ _ _ _ _ _ _ _ _ _ _ _ _ _ X)
theorem s_ifge {a : Int32} {off : Int} {tgt : Nat} (hd : decode y.2.1 pc = .ok (.ifCond .ge off, 3)) (ht : (pc : Int) + off = (tgt : Int)) (kt : 0 ≤ a → Rn g d y tgt l ll st σ Q) (kf : ¬ 0 ≤ a → Rn g d y (pc + 3) l ll st σ Q) : Rn g d y pc l ll (.int a :: st) σ Q := by
  intro p e R s m args below meth c H locs cells slots ls nc0 ns0 X
  exact lv_if_ge X.2.1.1 X.2.1.2.1 hd ht (fun h => kt h _ _ _ _ _ _ _ _ _ _ _ _ _ _ _ _ X) (fun h => kf h _ _ _ _ _ _ _ _ _ _ _ _ _ _ _ _ X)
theorem s_ifgt {a : Int32} {off : Int} {tgt : Nat} (hd : decode y.2.1 pc = .ok (.ifCond .gt off, 3)) (ht : (pc : Int) + off = (tgt : Int)) (kt : 0 < a → Rn g d y tgt l ll st σ Q) (kf : ¬ 0 < a → Rn g d y (pc + 3) l ll st σ Q) : Rn g d y pc l ll (.int a :: st) σ Q := by
  intro p e R s m args below meth c H locs cells slots ls nc0 ns0 X
  exact lv_if_gt X.2.1.1 X.2.1.2.1 hd ht (fun h => kt h _ _ _ _ _ _ _ _ _ _ _ _ _ _ _ _ X) (fun h => kf h _ _ _ _ _ _ _ _ _ _ _ _ _ _ _ _ X)
theorem s_ifle {a : Int32} {off : Int} {tgt : Nat} (hd : decode y.2.1 pc = .ok (.ifCond .le off, 3)) (ht : (pc : Int) + off = (tgt : Int)) (kt : a ≤ 0 → Rn g d y tgt l ll st σ Q) (kf : ¬ a ≤ 0 → Rn g d y (pc + 3) l ll st σ Q) : Rn g d y pc l ll (.int a :: st) σ Q := by
  intro p e R s m args below meth c H locs cells slots ls nc0 ns0 X
  exact lv_if_le X.2.1.1 X.2.1.2.1 hd ht (fun h => kt h _ _ _ _ _ _ _ _ _ _ _ _ _ _ _ _ X) (fun h => kf h _ _ _ _ _ _ _ _ _ _ _ _ _ _ _ _ X)
theorem s_iceq {a b : Int32} {off : Int} {tgt : Nat} (hd : decode y.2.1 pc = .ok (.if_icmp .eq off, 3)) (ht : (pc : Int) + off = (tgt : Int)) (kt : a = b → Rn g d y tgt l ll st σ Q) (kf : ¬ a = b → Rn g d y (pc + 3) l ll st σ Q) : Rn g d y pc l ll (.int b :: .int a :: st) σ Q := by
  intro p e R s m args below meth c H locs cells slots ls nc0 ns0 X
  exact lv_icmp_eq X.2.1.1 X.2.1.2.1 hd ht (fun h => kt h _ _ _ _ _ _ _ _ _ _ _ _ _ _ _ _ X) (fun h => kf h _ _ _ _ _ _ _ _ _ _ _ _ _ _ _ _ X)
theorem s_icne {a b : Int32} {off : Int} {tgt : Nat} (hd : decode y.2.1 pc = .ok (.if_icmp .ne off, 3)) (ht : (pc : Int) + off = (tgt : Int)) (kt : ¬ a = b → Rn g d y tgt l ll st σ Q) (kf : a = b → Rn g d y (pc + 3) l ll st σ Q) : Rn g d y pc l ll (.int b :: .int a :: st) σ Q := by
  intro p e R s m args below meth c H locs cells slots ls nc0 ns0 X
  exact lv_icmp_ne X.2.1.1 X.2.1.2.1 hd ht (fun h => kt h _ _ _ _ _ _ _ _ _ _ _ _ _ _ _ _ X) (fun h => kf h _ _ _ _ _ _ _ _ _ _ _ _ _ _ _ _ X)
theorem s_iclt {a b : Int32} {off : Int} {tgt : Nat} (hd : decode y.2.1 pc = .ok (.if_icmp .lt off, 3)) (ht : (pc : Int) + off = (tgt : Int)) (kt : a < b → Rn g d y tgt l ll st σ Q) (kf : ¬ a < b → Rn g d y (pc + 3) l ll st σ Q) : Rn g d y pc l ll (.int b :: .int a :: st) σ Q := by
  intro p e R s m args below meth c H locs cells slots ls nc0 ns0 X
  exact lv_icmp_lt X.2.1.1 X.2.1.2.1 hd ht (fun h => kt h _ _ _ _ _ _ _ _ _ _ _ _ _ _ _ _ X) (fun h => kf h _ _ _ _ _ _ _ _ _ _ _ _ _ _ _ _ X)
theorem s_icge {a b : Int32} {off : Int} {tgt : Nat} (hd : decode y.2.1 pc = .ok (.if_icmp .ge off, 3)) (ht : (pc : Int) + off = (tgt : Int)) (kt : b ≤ a → Rn g d y tgt l ll st σ Q) (kf : ¬ b ≤ a → Rn g d y (pc + 3) l ll st σ Q) : Rn g d y pc l ll (.int b :: .int a :: st) σ Q := by
  intro p e R s m args below meth c H locs cells slots ls nc0 ns0 X
  exact lv_icmp_ge X.2.1.1 X.2.1.2.1 hd ht (fun h => kt h _ _ _ _ _ _ _ _ _ _ _ _ _ _ _ _ X) (fun h => kf h _ _ _ _ _ _ _ _ _ _ _ _ _ _ _ _ X)
theorem s_icgt {a b : Int32} {off : Int} {tgt : Nat} (hd : decode y.2.1 pc = .ok (.if_icmp .gt off, 3)) (ht : (pc : Int) + off = (tgt : Int)) (kt : b < a → Rn g d y tgt l ll st σ Q) (kf : ¬ b < a → Rn g d y (pc + 3) l ll st σ Q) : Rn g d y pc l ll (.int b :: .int a :: st) σ Q := by
  intro p e R s m args below meth c H locs cells slots ls nc0 ns0 X
  exact lv_icmp_gt X.2.1.1 X.2.1.2.1 hd ht (fun h => kt h _ _ _ _ _ _ _ _ _ _ _ _ _ _ _ _ X) (fun h => kf h _ _ _ _ _ _ _ _ _ _ _ _ _ _ _ _ X)
theorem s_icle {a b : Int32} {off : Int} {tgt : Nat} (hd : decode y.2.1 pc = .ok (.if_icmp .le off, 3)) (ht : (pc : Int) + off = (tgt : Int)) (kt : a ≤ b → Rn g d y tgt l ll st σ Q) (kf : ¬ a ≤ b → Rn g d y (pc + 3) l ll st σ Q) : Rn g d y pc l ll (.int b :: .int a :: st) σ Q := by
  intro p e R s m args below meth c H locs cells slots ls nc0 ns0 X
  exact lv_icmp_le X.2.1.1 X.2.1.2.1 hd ht (fun h => kt h _ _ _ _ _ _ _ _ _ _ _ _ _ _ _ _ X) (fun h => kf h _ _ _ _ _ _ _ _ _ _ _ _ _ _ _ _ X)
theorem s_goto {off : Int} {tgt : Nat} (hd : decode y.2.1 pc = .ok (.goto off, 3)) (ht : (pc : Int) + off = (tgt : Int)) (k : Rn g d y tgt l ll st σ Q) : Rn g d y pc l ll st σ Q := by
  intro p e R s m args below meth c H locs cells slots ls nc0 ns0 X
  exact lv_goto X.2.1.1 X.2.1.2.1 hd ht (k _ _ _ _ _ _ _ _ _ _ _ _ _ _ _ _ X)
theorem s_tabIn {dflt lo hi : Int} {offs : Array Int} {len : Nat} {x : Int32} {off : Int} {tgt : Nat} (hd : decode y.2.1 pc = .ok (.tableswitch dflt lo hi offs, len)) (h1 : ¬ x.toInt < lo) (h2 : ¬ hi < x.toInt) (ho : offs[(x.toInt - lo).toNat]? = some off) (ht : (pc : Int) + off = (tgt : Int)) (k : Rn g d y tgt l ll st σ Q) : Rn g d y pc l ll (.int x :: st) σ Q := by
  intro p e R s m args below meth c H locs cells slots ls nc0 ns0 X
  exact lv_tableIn X.2.1.1 X.2.1.2.1 hd h1 h2 ho ht (k _ _ _ _ _ _ _ _ _ _ _ _ _ _ _ _ X)
theorem s_tabOut {dflt lo hi : Int} {offs : Array Int} {len : Nat} {x : Int32} {tgt : Nat} (hd : decode y.2.1 pc = .ok (.tableswitch dflt lo hi offs, len)) (h : x.toInt < lo ∨ hi < x.toInt) (ht : (pc : Int) + dflt = (tgt : Int)) (k : Rn g d y tgt l ll st σ Q) : Rn g d y pc l ll (.int x :: st) σ Q := by
  intro p e R s m args below meth c H locs cells slots ls nc0 ns0 X
  exact lv_tableOut X.2.1.1 X.2.1.2.1 hd h ht (k _ _ _ _ _ _ _ _ _ _ _ _ _ _ _ _ X)
theorem s_look {dflt : Int} {ps : Array (Int × Int)} {len : Nat} {x : Int32} {off : Int} {tgt : Nat} (hd : decode y.2.1 pc = .ok (.lookupswitch dflt ps, len)) (hp : (ps.toList.zip (ps.toList.drop 1)).all (fun (a, next) => a.1 < next.1) = true) (ho : Op.lookupswitch.offset ps.toList dflt x.toInt = off) (ht : (pc : Int) + off = (tgt : Int)) (k : Rn g d y tgt l ll st σ Q) : Rn g d y pc l ll (.int x :: st) σ Q := by
  intro p e R s m args below meth c H locs cells slots ls nc0 ns0 X
  exact lv_lookup X.2.1.1 X.2.1.2.1 hd hp ho ht (k _ _ _ _ _ _ _ _ _ _ _ _ _ _ _ _ X)
theorem s_iload_n {kk : Fin 4} {i : Nat} {x : Int32} (hd : decode y.2.1 pc = .ok (.iload_n kk, 1)) (hi : (kk : Nat) = i) (hl : l[i]? = some (.int x)) (k : Rn g d y (pc + 1) l ll (.int x :: st) σ Q) : Rn g d y pc l ll (st) σ Q := by
  intro p e R s m args below meth c H locs cells slots ls nc0 ns0 X
  exact lv_iload_n X.2.1.1 X.2.1.2.1 hd hi (X.2.2.2.1.2.2.2.2.1 i (.int x) hl rfl) (k _ _ _ _ _ _ _ _ _ _ _ _ _ _ _ _ X)
theorem s_iload {i : Nat} {x : Int32} (hd : decode y.2.1 pc = .ok (.iload i, 2)) (hl : l[i]? = some (.int x)) (k : Rn g d y (pc + 2) l ll (.int x :: st) σ Q) : Rn g d y pc l ll (st) σ Q := by
  intro p e R s m args below meth c H locs cells slots ls nc0 ns0 X
  exact lv_iload X.2.1.1 X.2.1.2.1 hd (X.2.2.2.1.2.2.2.2.1 i (.int x) hl rfl) (k _ _ _ _ _ _ _ _ _ _ _ _ _ _ _ _ X)
theorem s_aload_n {kk : Fin 4} {i : Nat} {x : Nat} (hd : decode y.2.1 pc = .ok (.aload_n kk, 1)) (hi : (kk : Nat) = i) (hl : l[i]? = some (.ref x)) (k : Rn g d y (pc + 1) l ll (.ref x :: st) σ Q) : Rn g d y pc l ll (st) σ Q := by
  intro p e R s m args below meth c H locs cells slots ls nc0 ns0 X
  exact lv_aload_n X.2.1.1 X.2.1.2.1 hd hi (X.2.2.2.1.2.2.2.2.1 i (.ref x) hl rfl) (k _ _ _ _ _ _ _ _ _ _ _ _ _ _ _ _ X)
theorem s_aload {i : Nat} {x : Nat} (hd : decode y.2.1 pc = .ok (.aload i, 2)) (hl : l[i]? = some (.ref x)) (k : Rn g d y (pc + 2) l ll (.ref x :: st) σ Q) : Rn g d y pc l ll (st) σ Q := by
  intro p e R s m args below meth c H locs cells slots ls nc0 ns0 X
  exact lv_aload X.2.1.1 X.2.1.2.1 hd (X.2.2.2.1.2.2.2.2.1 i (.ref x) hl rfl) (k _ _ _ _ _ _ _ _ _ _ _ _ _ _ _ _ X)
theorem s_lload_n {kk : Fin 4} {i : Nat} {x : Int64} (hd : decode y.2.1 pc = .ok (.lload_n kk, 1)) (hi : (kk : Nat) = i) (hl : (i, x) ∈ ll) (k : Rn g d y (pc + 1) l ll (.long x :: st) σ Q) : Rn g d y pc l ll (st) σ Q := by
  intro p e R s m args below meth c H locs cells slots ls nc0 ns0 X
  exact lv_lload_n X.2.1.1 X.2.1.2.1 hd hi (X.2.2.2.1.2.2.2.2.2 (i, x) hl) (k _ _ _ _ _ _ _ _ _ _ _ _ _ _ _ _ X)
theorem s_lload {i : Nat} {x : Int64} (hd : decode y.2.1 pc = .ok (.lload i, 2)) (hl : (i, x) ∈ ll) (k : Rn g d y (pc + 2) l ll (.long x :: st) σ Q) : Rn g d y pc l ll (st) σ Q := by
  intro p e R s m args below meth c H locs cells slots ls nc0 ns0 X
  exact lv_lload X.2.1.1 X.2.1.2.1 hd (X.2.2.2.1.2.2.2.2.2 (i, x) hl) (k _ _ _ _ _ _ _ _ _ _ _ _ _ _ _ _ X)
theorem s_istore_n {kk : Fin 4} {i : Nat} {x : Int32} (hd : decode y.2.1 pc = .ok (.istore_n kk, 1)) (hi : (kk : Nat) = i) (hn : i < l.length) (k : Rn g d y (pc + 1) (l.set i (.int x)) (ll.filter (fun q => !(q.1 == i) && !(q.1 + 1 == i))) st σ Q) : Rn g d y pc l ll (.int x :: st) σ Q := by
  intro p e R s m args below meth c H locs cells slots ls nc0 ns0 X
  have hl := X.2.2.2.1
  have hn2 : i < y.2.2.1 := by rw [← hl.2.1]; exact hn
  refine lv_istore_n X.2.1.1 X.2.1.2.1 hd hi (lok_has hl) hn2 rfl (fun ls2 h2 => ?_)
  exact k _ _ _ _ _ _ _ _ _ _ _ _ _ _ _ _ ⟨X.1, X.2.1, X.2.2.1, lok_st1 (v := .int x) hl hn2 rfl rfl h2, X.2.2.2.2⟩
theorem s_istore {i : Nat} {x : Int32} (hd : decode y.2.1 pc = .ok (.istore i, 2)) (hn : i < l.length) (k : Rn g d y (pc + 2) (l.set i (.int x)) (ll.filter (fun q => !(q.1 == i) && !(q.1 + 1 == i))) st σ Q) : Rn g d y pc l ll (.int x :: st) σ Q := by
  intro p e R s m args below meth c H locs cells slots ls nc0 ns0 X
  have hl := X.2.2.2.1
  have hn2 : i < y.2.2.1 := by rw [← hl.2.1]; exact hn
  refine lv_istore X.2.1.1 X.2.1.2.1 hd (lok_has hl) hn2 rfl (fun ls2 h2 => ?_)
  exact k _ _ _ _ _ _ _ _ _ _ _ _ _ _ _ _ ⟨X.1, X.2.1, X.2.2.1, lok_st1 (v := .int x) hl hn2 rfl rfl h2, X.2.2.2.2⟩
theorem s_astore_n {kk : Fin 4} {i : Nat} {x : Nat} (hd : decode y.2.1 pc = .ok (.astore_n kk, 1)) (hi : (kk : Nat) = i) (hn : i < l.length) (k : Rn g d y (pc + 1) (l.set i (.ref x)) (ll.filter (fun q => !(q.1 == i) && !(q.1 + 1 == i))) st σ Q) : Rn g d y pc l ll (.ref x :: st) σ Q := by
  intro p e R s m args below meth c H locs cells slots ls nc0 ns0 X
  have hl := X.2.2.2.1
  have hn2 : i < y.2.2.1 := by rw [← hl.2.1]; exact hn
  refine lv_astore_n X.2.1.1 X.2.1.2.1 hd hi (lok_has hl) hn2 rfl (fun ls2 h2 => ?_)
  exact k _ _ _ _ _ _ _ _ _ _ _ _ _ _ _ _ ⟨X.1, X.2.1, X.2.2.1, lok_st1 (v := .ref x) hl hn2 rfl rfl h2, X.2.2.2.2⟩
theorem s_astore {i : Nat} {x : Nat} (hd : decode y.2.1 pc = .ok (.astore i, 2)) (hn : i < l.length) (k : Rn g d y (pc + 2) (l.set i (.ref x)) (ll.filter (fun q => !(q.1 == i) && !(q.1 + 1 == i))) st σ Q) : Rn g d y pc l ll (.ref x :: st) σ Q := by
  intro p e R s m args below meth c H locs cells slots ls nc0 ns0 X
  have hl := X.2.2.2.1
  have hn2 : i < y.2.2.1 := by rw [← hl.2.1]; exact hn
  refine lv_astore X.2.1.1 X.2.1.2.1 hd (lok_has hl) hn2 rfl (fun ls2 h2 => ?_)
  exact k _ _ _ _ _ _ _ _ _ _ _ _ _ _ _ _ ⟨X.1, X.2.1, X.2.2.1, lok_st1 (v := .ref x) hl hn2 rfl rfl h2, X.2.2.2.2⟩
theorem s_lstore_n {kk : Fin 4} {i : Nat} {x : Int64} (hd : decode y.2.1 pc = .ok (.lstore_n kk, 1)) (hi : (kk : Nat) = i) (hn : i + 1 < l.length) (k : Rn g d y (pc + 1) ((l.set i (.retAddr 0)).set (i + 1) (.retAddr 0)) ((i, x) :: ll.filter (fun q => !(q.1 == i) && (!(q.1 == i + 1) && !(q.1 + 1 == i)))) st σ Q) : Rn g d y pc l ll (.long x :: st) σ Q := by
  intro p e R s m args below meth c H locs cells slots ls nc0 ns0 X
  have hl := X.2.2.2.1
  have hn2 : i + 1 < y.2.2.1 := by rw [← hl.2.1]; exact hn
  refine lv_lstore_n X.2.1.1 X.2.1.2.1 hd hi (lok_has hl) hn2 rfl (fun ls2 h2 => ?_)
  exact k _ _ _ _ _ _ _ _ _ _ _ _ _ _ _ _ ⟨X.1, X.2.1, X.2.2.1, lok_st2 hl hn2 h2, X.2.2.2.2⟩
theorem s_lstore {i : Nat} {x : Int64} (hd : decode y.2.1 pc = .ok (.lstore i, 2)) (hn : i + 1 < l.length) (k : Rn g d y (pc + 2) ((l.set i (.retAddr 0)).set (i + 1) (.retAddr 0)) ((i, x) :: ll.filter (fun q => !(q.1 == i) && (!(q.1 == i + 1) && !(q.1 + 1 == i)))) st σ Q) : Rn g d y pc l ll (.long x :: st) σ Q := by
  intro p e R s m args below meth c H locs cells slots ls nc0 ns0 X
  have hl := X.2.2.2.1
  have hn2 : i + 1 < y.2.2.1 := by rw [← hl.2.1]; exact hn
  refine lv_lstore X.2.1.1 X.2.1.2.1 hd (lok_has hl) hn2 rfl (fun ls2 h2 => ?_)
  exact k _ _ _ _ _ _ _ _ _ _ _ _ _ _ _ _ ⟨X.1, X.2.1, X.2.2.1, lok_st2 hl hn2 h2, X.2.2.2.2⟩
theorem s_iinc {i : Nat} {n : Int} {x : Int32} (hd : decode y.2.1 pc = .ok (.iinc i n, 3)) (hx : l[i]? = some (.int x)) (k : Rn g d y (pc + 3) (l.set i (.int (x + Int32.ofInt n))) (ll.filter (fun q => !(q.1 == i) && !(q.1 + 1 == i))) st σ Q) : Rn g d y pc l ll st σ Q := by
  intro p e R s m args below meth c H locs cells slots ls nc0 ns0 X
  have hl := X.2.2.2.1
  have hn2 : i < y.2.2.1 := by rw [← hl.2.1]; exact (List.getElem?_eq_some_iff.mp hx).1
  obtain ⟨k9, hk9⟩ := List.getElem?_of_mem (lok_in (v := .int x) hx rfl : (i, cv g (.int x)) ∈ lvl g l ll)
  refine lv_iinc X.2.1.1 X.2.1.2.1 hd (lok_has hl) hk9 rfl hn2 rfl (fun ls2 h2 => ?_)
  exact k _ _ _ _ _ _ _ _ _ _ _ _ _ _ _ _ ⟨X.1, X.2.1, X.2.2.1, lok_st1 (v := .int (x + Int32.ofInt n)) hl hn2 rfl rfl h2, X.2.2.2.2⟩
end Rules
