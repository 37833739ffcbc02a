theorem g_iadd {G : Sh} {l : Launch} {mi : MI} {pc : Nat} {lv st : List Value} {M : Mm} {Q : Rr → Mm → Prop} {x y : Int32} (n : Nat) (hn : pc + 1 = n) (hd : decode (mBy mi) pc = .ok (.iadd, 1)) (k : Go G l mi n lv (.int (x + y) :: st) M Q) : Go G l mi pc lv (.int y :: .int x :: st) M Q := by
  intro p e s m args below meth c dC dI cA ad A H locs ls hC hW hL
  subst hn
  exact lv_iadd hC.1 hC.2.1 hd (k p e s m args below meth c dC dI cA ad A H locs ls hC hW hL)
theorem g_isub {G : Sh} {l : Launch} {mi : MI} {pc : Nat} {lv st : List Value} {M : Mm} {Q : Rr → Mm → Prop} {x y : Int32} (n : Nat) (hn : pc + 1 = n) (hd : decode (mBy mi) pc = .ok (.isub, 1)) (k : Go G l mi n lv (.int (x - y) :: st) M Q) : Go G l mi pc lv (.int y :: .int x :: st) M Q := by
  intro p e s m args below meth c dC dI cA ad A H locs ls hC hW hL
  subst hn
  exact lv_isub hC.1 hC.2.1 hd (k p e s m args below meth c dC dI cA ad A H locs ls hC hW hL)
theorem g_imul {G : Sh} {l : Launch} {mi : MI} {pc : Nat} {lv st : List Value} {M : Mm} {Q : Rr → Mm → Prop} {x y : Int32} (n : Nat) (hn : pc + 1 = n) (hd : decode (mBy mi) pc = .ok (.imul, 1)) (k : Go G l mi n lv (.int (x * y) :: st) M Q) : Go G l mi pc lv (.int y :: .int x :: st) M Q := by
  intro p e s m args below meth c dC dI cA ad A H locs ls hC hW hL
  subst hn
  exact lv_imul hC.1 hC.2.1 hd (k p e s m args below meth c dC dI cA ad A H locs ls hC hW hL)
theorem g_iand {G : Sh} {l : Launch} {mi : MI} {pc : Nat} {lv st : List Value} {M : Mm} {Q : Rr → Mm → Prop} {x y : Int32} (n : Nat) (hn : pc + 1 = n) (hd : decode (mBy mi) pc = .ok (.iand, 1)) (k : Go G l mi n lv (.int (x &&& y) :: st) M Q) : Go G l mi pc lv (.int y :: .int x :: st) M Q := by
  intro p e s m args below meth c dC dI cA ad A H locs ls hC hW hL
  subst hn
  exact lv_iand hC.1 hC.2.1 hd (k p e s m args below meth c dC dI cA ad A H locs ls hC hW hL)
theorem g_ior {G : Sh} {l : Launch} {mi : MI} {pc : Nat} {lv st : List Value} {M : Mm} {Q : Rr → Mm → Prop} {x y : Int32} (n : Nat) (hn : pc + 1 = n) (hd : decode (mBy mi) pc = .ok (.ior, 1)) (k : Go G l mi n lv (.int (x ||| y) :: st) M Q) : Go G l mi pc lv (.int y :: .int x :: st) M Q := by
  intro p e s m args below meth c dC dI cA ad A H locs ls hC hW hL
  subst hn
  exact lv_ior hC.1 hC.2.1 hd (k p e s m args below meth c dC dI cA ad A H locs ls hC hW hL)
theorem g_ishl {G : Sh} {l : Launch} {mi : MI} {pc : Nat} {lv st : List Value} {M : Mm} {Q : Rr → Mm → Prop} {x y : Int32} (n : Nat) (hn : pc + 1 = n) (hd : decode (mBy mi) pc = .ok (.ishl, 1)) (k : Go G l mi n lv (.int (x <<< (y &&& 31)) :: st) M Q) : Go G l mi pc lv (.int y :: .int x :: st) M Q := by
  intro p e s m args below meth c dC dI cA ad A H locs ls hC hW hL
  subst hn
  exact lv_ishl hC.1 hC.2.1 hd (k p e s m args below meth c dC dI cA ad A H locs ls hC hW hL)
theorem g_ishr {G : Sh} {l : Launch} {mi : MI} {pc : Nat} {lv st : List Value} {M : Mm} {Q : Rr → Mm → Prop} {x y : Int32} (n : Nat) (hn : pc + 1 = n) (hd : decode (mBy mi) pc = .ok (.ishr, 1)) (k : Go G l mi n lv (.int (x >>> (y &&& 31)) :: st) M Q) : Go G l mi pc lv (.int y :: .int x :: st) M Q := by
  intro p e s m args below meth c dC dI cA ad A H locs ls hC hW hL
  subst hn
  exact lv_ishr hC.1 hC.2.1 hd (k p e s m args below meth c dC dI cA ad A H locs ls hC hW hL)
theorem g_iushr {G : Sh} {l : Launch} {mi : MI} {pc : Nat} {lv st : List Value} {M : Mm} {Q : Rr → Mm → Prop} {x y : Int32} (n : Nat) (hn : pc + 1 = n) (hd : decode (mBy mi) pc = .ok (.iushr, 1)) (k : Go G l mi n lv (.int ((x.toUInt32 >>> (y.toUInt32 &&& Int32.toUInt32 31)).toInt32) :: st) M Q) : Go G l mi pc lv (.int y :: .int x :: st) M Q := by
  intro p e s m args below meth c dC dI cA ad A H locs ls hC hW hL
  subst hn
  exact lv_iushr hC.1 hC.2.1 hd rfl (k p e s m args below meth c dC dI cA ad A H locs ls hC hW hL)
theorem g_ineg {G : Sh} {l : Launch} {mi : MI} {pc : Nat} {lv st : List Value} {M : Mm} {Q : Rr → Mm → Prop} {x : Int32} (n : Nat) (hn : pc + 1 = n) (hd : decode (mBy mi) pc = .ok (.ineg, 1)) (k : Go G l mi n lv (.int (-x) :: st) M Q) : Go G l mi pc lv (.int x :: st) M Q := by
  intro p e s m args below meth c dC dI cA ad A H locs ls hC hW hL
  subst hn
  exact lv_ineg hC.1 hC.2.1 hd (k p e s m args below meth c dC dI cA ad A H locs ls hC hW hL)
theorem g_idiv {G : Sh} {l : Launch} {mi : MI} {pc : Nat} {lv st : List Value} {M : Mm} {Q : Rr → Mm → Prop} {x y : Int32} (n : Nat) (hn : pc + 1 = n) (hd : decode (mBy mi) pc = .ok (.idiv, 1)) (hne : ¬ y = 0) (k : Go G l mi n lv (.int (x / y) :: st) M Q) : Go G l mi pc lv (.int y :: .int x :: st) M Q := by
  intro p e s m args below meth c dC dI cA ad A H locs ls hC hW hL
  subst hn
  exact lv_idiv hC.1 hC.2.1 hd hne (k p e s m args below meth c dC dI cA ad A H locs ls hC hW hL)
theorem g_irem {G : Sh} {l : Launch} {mi : MI} {pc : Nat} {lv st : List Value} {M : Mm} {Q : Rr → Mm → Prop} {x y : Int32} (n : Nat) (hn : pc + 1 = n) (hd : decode (mBy mi) pc = .ok (.irem, 1)) (hne : ¬ y = 0) (k : Go G l mi n lv (.int (x - x / y * y) :: st) M Q) : Go G l mi pc lv (.int y :: .int x :: st) M Q := by
  intro p e s m args below meth c dC dI cA ad A H locs ls hC hW hL
  subst hn
  exact lv_irem hC.1 hC.2.1 hd hne (k p e s m args below meth c dC dI cA ad A H locs ls hC hW hL)
theorem g_ladd {G : Sh} {l : Launch} {mi : MI} {pc : Nat} {lv st : List Value} {M : Mm} {Q : Rr → Mm → Prop} {x y : Int64} (n : Nat) (hn : pc + 1 = n) (hd : decode (mBy mi) pc = .ok (.ladd, 1)) (k : Go G l mi n lv (.long (x + y) :: st) M Q) : Go G l mi pc lv (.long y :: .long x :: st) M Q := by
  intro p e s m args below meth c dC dI cA ad A H locs ls hC hW hL
  subst hn
  exact lv_ladd hC.1 hC.2.1 hd (k p e s m args below meth c dC dI cA ad A H locs ls hC hW hL)
theorem g_lmul {G : Sh} {l : Launch} {mi : MI} {pc : Nat} {lv st : List Value} {M : Mm} {Q : Rr → Mm → Prop} {x y : Int64} (n : Nat) (hn : pc + 1 = n) (hd : decode (mBy mi) pc = .ok (.lmul, 1)) (k : Go G l mi n lv (.long (x * y) :: st) M Q) : Go G l mi pc lv (.long y :: .long x :: st) M Q := by
  intro p e s m args below meth c dC dI cA ad A H locs ls hC hW hL
  subst hn
  exact lv_lmul hC.1 hC.2.1 hd (k p e s m args below meth c dC dI cA ad A H locs ls hC hW hL)
theorem g_land {G : Sh} {l : Launch} {mi : MI} {pc : Nat} {lv st : List Value} {M : Mm} {Q : Rr → Mm → Prop} {x y : Int64} (n : Nat) (hn : pc + 1 = n) (hd : decode (mBy mi) pc = .ok (.land, 1)) (k : Go G l mi n lv (.long (x &&& y) :: st) M Q) : Go G l mi pc lv (.long y :: .long x :: st) M Q := by
  intro p e s m args below meth c dC dI cA ad A H locs ls hC hW hL
  subst hn
  exact lv_land hC.1 hC.2.1 hd (k p e s m args below meth c dC dI cA ad A H locs ls hC hW hL)
theorem g_lsub {G : Sh} {l : Launch} {mi : MI} {pc : Nat} {lv st : List Value} {M : Mm} {Q : Rr → Mm → Prop} {x y : Int64} (n : Nat) (hn : pc + 1 = n) (hd : decode (mBy mi) pc = .ok (.lsub, 1)) (k : Go G l mi n lv (.long (x - y) :: st) M Q) : Go G l mi pc lv (.long y :: .long x :: st) M Q := by
  intro p e s m args below meth c dC dI cA ad A H locs ls hC hW hL
  subst hn
  exact lv_lsub hC.1 hC.2.1 hd (k p e s m args below meth c dC dI cA ad A H locs ls hC hW hL)
theorem g_lor {G : Sh} {l : Launch} {mi : MI} {pc : Nat} {lv st : List Value} {M : Mm} {Q : Rr → Mm → Prop} {x y : Int64} (n : Nat) (hn : pc + 1 = n) (hd : decode (mBy mi) pc = .ok (.lor, 1)) (k : Go G l mi n lv (.long (x ||| y) :: st) M Q) : Go G l mi pc lv (.long y :: .long x :: st) M Q := by
  intro p e s m args below meth c dC dI cA ad A H locs ls hC hW hL
  subst hn
  exact lv_lor hC.1 hC.2.1 hd (k p e s m args below meth c dC dI cA ad A H locs ls hC hW hL)
theorem g_ldiv {G : Sh} {l : Launch} {mi : MI} {pc : Nat} {lv st : List Value} {M : Mm} {Q : Rr → Mm → Prop} {x y : Int64} (n : Nat) (hn : pc + 1 = n) (hd : decode (mBy mi) pc = .ok (.ldiv, 1)) (hne : ¬ y = 0) (k : Go G l mi n lv (.long (x / y) :: st) M Q) : Go G l mi pc lv (.long y :: .long x :: st) M Q := by
  intro p e s m args below meth c dC dI cA ad A H locs ls hC hW hL
  subst hn
  exact lv_ldiv hC.1 hC.2.1 hd hne (k p e s m args below meth c dC dI cA ad A H locs ls hC hW hL)
theorem g_lrem {G : Sh} {l : Launch} {mi : MI} {pc : Nat} {lv st : List Value} {M : Mm} {Q : Rr → Mm → Prop} {x y : Int64} (n : Nat) (hn : pc + 1 = n) (hd : decode (mBy mi) pc = .ok (.lrem, 1)) (hne : ¬ y = 0) (k : Go G l mi n lv (.long (x - x / y * y) :: st) M Q) : Go G l mi pc lv (.long y :: .long x :: st) M Q := by
  intro p e s m args below meth c dC dI cA ad A H locs ls hC hW hL
  subst hn
  exact lv_lrem hC.1 hC.2.1 hd hne (k p e s m args below meth c dC dI cA ad A H locs ls hC hW hL)
theorem g_lshl {G : Sh} {l : Launch} {mi : MI} {pc : Nat} {lv st : List Value} {M : Mm} {Q : Rr → Mm → Prop} {x : Int64} {y : Int32} (n : Nat) (hn : pc + 1 = n) (hd : decode (mBy mi) pc = .ok (.lshl, 1)) (k : Go G l mi n lv (.long (x <<< (y.toInt64 &&& 63)) :: st) M Q) : Go G l mi pc lv (.int y :: .long x :: st) M Q := by
  intro p e s m args below meth c dC dI cA ad A H locs ls hC hW hL
  subst hn
  exact lv_lshl hC.1 hC.2.1 hd rfl (k p e s m args below meth c dC dI cA ad A H locs ls hC hW hL)
theorem g_lshr {G : Sh} {l : Launch} {mi : MI} {pc : Nat} {lv st : List Value} {M : Mm} {Q : Rr → Mm → Prop} {x : Int64} {y : Int32} (n : Nat) (hn : pc + 1 = n) (hd : decode (mBy mi) pc = .ok (.lshr, 1)) (k : Go G l mi n lv (.long (x >>> (y.toInt64 &&& 63)) :: st) M Q) : Go G l mi pc lv (.int y :: .long x :: st) M Q := by
  intro p e s m args below meth c dC dI cA ad A H locs ls hC hW hL
  subst hn
  exact lv_lshr hC.1 hC.2.1 hd rfl (k p e s m args below meth c dC dI cA ad A H locs ls hC hW hL)
theorem g_lushr {G : Sh} {l : Launch} {mi : MI} {pc : Nat} {lv st : List Value} {M : Mm} {Q : Rr → Mm → Prop} {x : Int64} {y : Int32} (n : Nat) (hn : pc + 1 = n) (hd : decode (mBy mi) pc = .ok (.lushr, 1)) (k : Go G l mi n lv (.long ((x.toUInt64 >>> (y.toInt64.toUInt64 &&& Int64.toUInt64 63)).toInt64) :: st) M Q) : Go G l mi pc lv (.int y :: .long x :: st) M Q := by
  intro p e s m args below meth c dC dI cA ad A H locs ls hC hW hL
  subst hn
  exact lv_lushr hC.1 hC.2.1 hd rfl (k p e s m args below meth c dC dI cA ad A H locs ls hC hW hL)
theorem g_i2l {G : Sh} {l : Launch} {mi : MI} {pc : Nat} {lv st : List Value} {M : Mm} {Q : Rr → Mm → Prop} {x : Int32} (n : Nat) (hn : pc + 1 = n) (hd : decode (mBy mi) pc = .ok (.i2l, 1)) (k : Go G l mi n lv (.long x.toInt64 :: st) M Q) : Go G l mi pc lv (.int x :: st) M Q := by
  intro p e s m args below meth c dC dI cA ad A H locs ls hC hW hL
  subst hn
  exact lv_i2l hC.1 hC.2.1 hd rfl (k p e s m args below meth c dC dI cA ad A H locs ls hC hW hL)
theorem g_l2i {G : Sh} {l : Launch} {mi : MI} {pc : Nat} {lv st : List Value} {M : Mm} {Q : Rr → Mm → Prop} {x : Int64} (n : Nat) (hn : pc + 1 = n) (hd : decode (mBy mi) pc = .ok (.l2i, 1)) (k : Go G l mi n lv (.int x.toInt32 :: st) M Q) : Go G l mi pc lv (.long x :: st) M Q := by
  intro p e s m args below meth c dC dI cA ad A H locs ls hC hW hL
  subst hn
  exact lv_l2i hC.1 hC.2.1 hd rfl (k p e s m args below meth c dC dI cA ad A H locs ls hC hW hL)
theorem g_i2b {G : Sh} {l : Launch} {mi : MI} {pc : Nat} {lv st : List Value} {M : Mm} {Q : Rr → Mm → Prop} {x : Int32} (n : Nat) (hn : pc + 1 = n) (hd : decode (mBy mi) pc = .ok (.i2b, 1)) (k : Go G l mi n lv (.int x.toInt8.toInt32 :: st) M Q) : Go G l mi pc lv (.int x :: st) M Q := by
  intro p e s m args below meth c dC dI cA ad A H locs ls hC hW hL
  subst hn
  exact lv_i2b hC.1 hC.2.1 hd rfl (k p e s m args below meth c dC dI cA ad A H locs ls hC hW hL)
theorem g_lcmp {G : Sh} {l : Launch} {mi : MI} {pc : Nat} {lv st : List Value} {M : Mm} {Q : Rr → Mm → Prop} {x y : Int64} (n : Nat) (hn : pc + 1 = n) (hd : decode (mBy mi) pc = .ok (.lcmp, 1)) (k : Go G l mi n lv (.int (lg_cmp x y) :: st) M Q) : Go G l mi pc lv (.long y :: .long x :: st) M Q := by
  intro p e s m args below meth c dC dI cA ad A H locs ls hC hW hL
  subst hn
  exact W.lcmp hC.1 hC.2.1 hd (k p e s m args below meth c dC dI cA ad A H locs ls hC hW hL)
theorem g_iconst {G : Sh} {l : Launch} {mi : MI} {pc : Nat} {lv st : List Value} {M : Mm} {Q : Rr → Mm → Prop} {a : Int} {v : Int32} (n : Nat) (hn : pc + 1 = n) (hd : decode (mBy mi) pc = .ok (.iconst a, 1)) (hv : Int32.ofInt a = v) (k : Go G l mi n lv (.int v :: st) M Q) : Go G l mi pc lv (st) M Q := by
  intro p e s m args below meth c dC dI cA ad A H locs ls hC hW hL
  subst hn
  exact lv_iconst hC.1 hC.2.1 hd hv (k p e s m args below meth c dC dI cA ad A H locs ls hC hW hL)
theorem g_bipush {G : Sh} {l : Launch} {mi : MI} {pc : Nat} {lv st : List Value} {M : Mm} {Q : Rr → Mm → Prop} {a : Int} {v : Int32} (n : Nat) (hn : pc + 2 = n) (hd : decode (mBy mi) pc = .ok (.bipush a, 2)) (hv : (Int8.ofInt a).toInt32 = v) (k : Go G l mi n lv (.int v :: st) M Q) : Go G l mi pc lv (st) M Q := by
  intro p e s m args below meth c dC dI cA ad A H locs ls hC hW hL
  subst hn
  exact lv_bipush hC.1 hC.2.1 hd hv (k p e s m args below meth c dC dI cA ad A H locs ls hC hW hL)
theorem g_sipush {G : Sh} {l : Launch} {mi : MI} {pc : Nat} {lv st : List Value} {M : Mm} {Q : Rr → Mm → Prop} {a : Int} {v : Int32} (n : Nat) (hn : pc + 3 = n) (hd : decode (mBy mi) pc = .ok (.sipush a, 3)) (hv : (Int16.ofInt a).toInt32 = v) (k : Go G l mi n lv (.int v :: st) M Q) : Go G l mi pc lv (st) M Q := by
  intro p e s m args below meth c dC dI cA ad A H locs ls hC hW hL
  subst hn
  exact lv_sipush hC.1 hC.2.1 hd hv (k p e s m args below meth c dC dI cA ad A H locs ls hC hW hL)
theorem g_lconst {G : Sh} {l : Launch} {mi : MI} {pc : Nat} {lv st : List Value} {M : Mm} {Q : Rr → Mm → Prop} {a : Fin 2} {v : Int64} (n : Nat) (hn : pc + 1 = n) (hd : decode (mBy mi) pc = .ok (.lconst a, 1)) (hv : Int64.ofNat (a : Nat) = v) (k : Go G l mi n lv (.long v :: st) M Q) : Go G l mi pc lv (st) M Q := by
  intro p e s m args below meth c dC dI cA ad A H locs ls hC hW hL
  subst hn
  exact lv_lconst hC.1 hC.2.1 hd hv (k p e s m args below meth c dC dI cA ad A H locs ls hC hW hL)
theorem g_dup {G : Sh} {l : Launch} {mi : MI} {pc : Nat} {lv st : List Value} {M : Mm} {Q : Rr → Mm → Prop} {v : Value} (n : Nat) (hn : pc + 1 = n) (hd : decode (mBy mi) pc = .ok (.dup, 1)) (hv : v.category = 1) (k : Go G l mi n lv (v :: v :: st) M Q) : Go G l mi pc lv (v :: st) M Q := by
  intro p e s m args below meth c dC dI cA ad A H locs ls hC hW hL
  subst hn
  exact lv_dup hC.1 hC.2.1 hd (by rw [tr_cat]; exact hv) (k p e s m args below meth c dC dI cA ad A H locs ls hC hW hL)
theorem g_pop {G : Sh} {l : Launch} {mi : MI} {pc : Nat} {lv st : List Value} {M : Mm} {Q : Rr → Mm → Prop} {v : Value} (n : Nat) (hn : pc + 1 = n) (hd : decode (mBy mi) pc = .ok (.pop, 1)) (hv : v.category = 1) (k : Go G l mi n lv (st) M Q) : Go G l mi pc lv (v :: st) M Q := by
  intro p e s m args below meth c dC dI cA ad A H locs ls hC hW hL
  subst hn
  exact lv_pop hC.1 hC.2.1 hd (by rw [tr_cat]; exact hv) (k p e s m args below meth c dC dI cA ad A H locs ls hC hW hL)
theorem g_dup2 {G : Sh} {l : Launch} {mi : MI} {pc : Nat} {lv st : List Value} {M : Mm} {Q : Rr → Mm → Prop} {v u : Value} (n : Nat) (hn : pc + 1 = n) (hd : decode (mBy mi) pc = .ok (.dup2, 1)) (hv : v.category = 1) (hu : u.category = 1) (k : Go G l mi n lv (v :: u :: v :: u :: st) M Q) : Go G l mi pc lv (v :: u :: st) M Q := by
  intro p e s m args below meth c dC dI cA ad A H locs ls hC hW hL
  subst hn
  exact lv_dup2_11 hC.1 hC.2.1 hd (by rw [tr_cat]; exact hv) (by rw [tr_cat]; exact hu) (k p e s m args below meth c dC dI cA ad A H locs ls hC hW hL)
theorem g_dup_x1 {G : Sh} {l : Launch} {mi : MI} {pc : Nat} {lv st : List Value} {M : Mm} {Q : Rr → Mm → Prop} {v u : Value} (n : Nat) (hn : pc + 1 = n) (hd : decode (mBy mi) pc = .ok (.dup_x1, 1)) (hv : v.category = 1) (hu : u.category = 1) (k : Go G l mi n lv (v :: u :: v :: st) M Q) : Go G l mi pc lv (v :: u :: st) M Q := by
  intro p e s m args below meth c dC dI cA ad A H locs ls hC hW hL
  subst hn
  exact lv_dup_x1 hC.1 hC.2.1 hd (by rw [tr_cat]; exact hv) (by rw [tr_cat]; exact hu) (k p e s m args below meth c dC dI cA ad A H locs ls hC hW hL)
theorem g_ldc {G : Sh} {l : Launch} {mi : MI} {pc : Nat} {lv st : List Value} {M : Mm} {Q : Rr → Mm → Prop} {ix : Nat} {v : Int32} (n : Nat) (hn : pc + 2 = n) (hd : decode (mBy mi) pc = .ok (.ldc ix, 2)) (hc : Cond.constant (mNm mi).cls ix v ∈ wTb) (k : Go G l mi n lv (.int v :: st) M Q) : Go G l mi pc lv st M Q := by
  intro p e s m args below meth c dC dI cA ad A H locs ls hC hW hL
  subst hn
  exact lv_ldc hC.1 hC.2.1 hC.2.2.2.2.1 (hC.2.2.2.2.2.1 _ hc) hd (k p e s m args below meth c dC dI cA ad A H locs ls hC hW hL)
theorem g_ldcw {G : Sh} {l : Launch} {mi : MI} {pc : Nat} {lv st : List Value} {M : Mm} {Q : Rr → Mm → Prop} {ix : Nat} {v : Int32} (n : Nat) (hn : pc + 3 = n) (hd : decode (mBy mi) pc = .ok (.ldc_w ix, 3)) (hc : Cond.constant (mNm mi).cls ix v ∈ wTb) (k : Go G l mi n lv (.int v :: st) M Q) : Go G l mi pc lv st M Q := by
  intro p e s m args below meth c dC dI cA ad A H locs ls hC hW hL
  subst hn
  exact lv_ldcw hC.1 hC.2.1 hC.2.2.2.2.1 (hC.2.2.2.2.2.1 _ hc) hd (k p e s m args below meth c dC dI cA ad A H locs ls hC hW hL)
theorem g_ldc2 {G : Sh} {l : Launch} {mi : MI} {pc : Nat} {lv st : List Value} {M : Mm} {Q : Rr → Mm → Prop} {ix : Nat} {v : Int64} (n : Nat) (hn : pc + 3 = n) (hd : decode (mBy mi) pc = .ok (.ldc2_w ix, 3)) (hc : Cond.constantLong (mNm mi).cls ix v ∈ wTb) (k : Go G l mi n lv (.long v :: st) M Q) : Go G l mi pc lv st M Q := by
  intro p e s m args below meth c dC dI cA ad A H locs ls hC hW hL
  subst hn
  exact lv_ldc2 hC.1 hC.2.1 hC.2.2.2.2.1 (hC.2.2.2.2.2.1 _ hc) hd (k p e s m args below meth c dC dI cA ad A H locs ls hC hW hL)
theorem g_goto {G : Sh} {l : Launch} {mi : MI} {pc : Nat} {lv st : List Value} {M : Mm} {Q : Rr → Mm → Prop} {off : Int} (tgt : Nat) (hd : decode (mBy mi) pc = .ok (.goto off, 3)) (ht : (pc : Int) + off = (tgt : Int)) (k : Go G l mi tgt lv st M Q) : Go G l mi pc lv st M Q := by
  intro p e s m args below meth c dC dI cA ad A H locs ls hC hW hL
  exact lv_goto hC.1 hC.2.1 hd ht (k p e s m args below meth c dC dI cA ad A H locs ls hC hW hL)
theorem g_ifeq {G : Sh} {l : Launch} {mi : MI} {pc : Nat} {lv st : List Value} {M : Mm} {Q : Rr → Mm → Prop} {x : Int32} {off : Int} (tgt n : Nat) (hn : pc + 3 = n) (hd : decode (mBy mi) pc = .ok (.ifCond .eq off, 3)) (ht : (pc : Int) + off = (tgt : Int)) (kt : x = 0 → Go G l mi tgt lv st M Q) (kf : ¬ x = 0 → Go G l mi n lv st M Q) : Go G l mi pc lv (.int x :: st) M Q := by
  intro p e s m args below meth c dC dI cA ad A H locs ls hC hW hL
  subst hn
  exact lv_if_eq hC.1 hC.2.1 hd ht (fun h => kt h p e s m args below meth c dC dI cA ad A H locs ls hC hW hL) (fun h => kf h p e s m args below meth c dC dI cA ad A H locs ls hC hW hL)
theorem g_ifne {G : Sh} {l : Launch} {mi : MI} {pc : Nat} {lv st : List Value} {M : Mm} {Q : Rr → Mm → Prop} {x : Int32} {off : Int} (tgt n : Nat) (hn : pc + 3 = n) (hd : decode (mBy mi) pc = .ok (.ifCond .ne off, 3)) (ht : (pc : Int) + off = (tgt : Int)) (kt : ¬ x = 0 → Go G l mi tgt lv st M Q) (kf : x = 0 → Go G l mi n lv st M Q) : Go G l mi pc lv (.int x :: st) M Q := by
  intro p e s m args below meth c dC dI cA ad A H locs ls hC hW hL
  subst hn
  exact lv_if_ne hC.1 hC.2.1 hd ht (fun h => kt h p e s m args below meth c dC dI cA ad A H locs ls hC hW hL) (fun h => kf h p e s m args below meth c dC dI cA ad A H locs ls hC hW hL)
theorem g_iflt {G : Sh} {l : Launch} {mi : MI} {pc : Nat} {lv st : List Value} {M : Mm} {Q : Rr → Mm → Prop} {x : Int32} {off : Int} (tgt n : Nat) (hn : pc + 3 = n) (hd : decode (mBy mi) pc = .ok (.ifCond .lt off, 3)) (ht : (pc : Int) + off = (tgt : Int)) (kt : x < 0 → Go G l mi tgt lv st M Q) (kf : ¬ x < 0 → Go G l mi n lv st M Q) : Go G l mi pc lv (.int x :: st) M Q := by
  intro p e s m args below meth c dC dI cA ad A H locs ls hC hW hL
  subst hn
  exact lv_if_lt hC.1 hC.2.1 hd ht (fun h => kt h p e s m args below meth c dC dI cA ad A H locs ls hC hW hL) (fun h => kf h p e s m args below meth c dC dI cA ad A H locs ls hC hW hL)
theorem g_ifge {G : Sh} {l : Launch} {mi : MI} {pc : Nat} {lv st : List Value} {M : Mm} {Q : Rr → Mm → Prop} {x : Int32} {off : Int} (tgt n : Nat) (hn : pc + 3 = n) (hd : decode (mBy mi) pc = .ok (.ifCond .ge off, 3)) (ht : (pc : Int) + off = (tgt : Int)) (kt : 0 ≤ x → Go G l mi tgt lv st M Q) (kf : ¬ 0 ≤ x → Go G l mi n lv st M Q) : Go G l mi pc lv (.int x :: st) M Q := by
  intro p e s m args below meth c dC dI cA ad A H locs ls hC hW hL
  subst hn
  exact lv_if_ge hC.1 hC.2.1 hd ht (fun h => kt h p e s m args below meth c dC dI cA ad A H locs ls hC hW hL) (fun h => kf h p e s m args below meth c dC dI cA ad A H locs ls hC hW hL)
theorem g_ifgt {G : Sh} {l : Launch} {mi : MI} {pc : Nat} {lv st : List Value} {M : Mm} {Q : Rr → Mm → Prop} {x : Int32} {off : Int} (tgt n : Nat) (hn : pc + 3 = n) (hd : decode (mBy mi) pc = .ok (.ifCond .gt off, 3)) (ht : (pc : Int) + off = (tgt : Int)) (kt : 0 < x → Go G l mi tgt lv st M Q) (kf : ¬ 0 < x → Go G l mi n lv st M Q) : Go G l mi pc lv (.int x :: st) M Q := by
  intro p e s m args below meth c dC dI cA ad A H locs ls hC hW hL
  subst hn
  exact lv_if_gt hC.1 hC.2.1 hd ht (fun h => kt h p e s m args below meth c dC dI cA ad A H locs ls hC hW hL) (fun h => kf h p e s m args below meth c dC dI cA ad A H locs ls hC hW hL)
theorem g_ifle {G : Sh} {l : Launch} {mi : MI} {pc : Nat} {lv st : List Value} {M : Mm} {Q : Rr → Mm → Prop} {x : Int32} {off : Int} (tgt n : Nat) (hn : pc + 3 = n) (hd : decode (mBy mi) pc = .ok (.ifCond .le off, 3)) (ht : (pc : Int) + off = (tgt : Int)) (kt : x ≤ 0 → Go G l mi tgt lv st M Q) (kf : ¬ x ≤ 0 → Go G l mi n lv st M Q) : Go G l mi pc lv (.int x :: st) M Q := by
  intro p e s m args below meth c dC dI cA ad A H locs ls hC hW hL
  subst hn
  exact lv_if_le hC.1 hC.2.1 hd ht (fun h => kt h p e s m args below meth c dC dI cA ad A H locs ls hC hW hL) (fun h => kf h p e s m args below meth c dC dI cA ad A H locs ls hC hW hL)
theorem g_cmpeq {G : Sh} {l : Launch} {mi : MI} {pc : Nat} {lv st : List Value} {M : Mm} {Q : Rr → Mm → Prop} {x y : Int32} {off : Int} (tgt n : Nat) (hn : pc + 3 = n) (hd : decode (mBy mi) pc = .ok (.if_icmp .eq off, 3)) (ht : (pc : Int) + off = (tgt : Int)) (kt : x = y → Go G l mi tgt lv st M Q) (kf : ¬ x = y → Go G l mi n lv st M Q) : Go G l mi pc lv (.int y :: .int x :: st) M Q := by
  intro p e s m args below meth c dC dI cA ad A H locs ls hC hW hL
  subst hn
  exact lv_icmp_eq hC.1 hC.2.1 hd ht (fun h => kt h p e s m args below meth c dC dI cA ad A H locs ls hC hW hL) (fun h => kf h p e s m args below meth c dC dI cA ad A H locs ls hC hW hL)
theorem g_cmpne {G : Sh} {l : Launch} {mi : MI} {pc : Nat} {lv st : List Value} {M : Mm} {Q : Rr → Mm → Prop} {x y : Int32} {off : Int} (tgt n : Nat) (hn : pc + 3 = n) (hd : decode (mBy mi) pc = .ok (.if_icmp .ne off, 3)) (ht : (pc : Int) + off = (tgt : Int)) (kt : ¬ x = y → Go G l mi tgt lv st M Q) (kf : x = y → Go G l mi n lv st M Q) : Go G l mi pc lv (.int y :: .int x :: st) M Q := by
  intro p e s m args below meth c dC dI cA ad A H locs ls hC hW hL
  subst hn
  exact lv_icmp_ne hC.1 hC.2.1 hd ht (fun h => kt h p e s m args below meth c dC dI cA ad A H locs ls hC hW hL) (fun h => kf h p e s m args below meth c dC dI cA ad A H locs ls hC hW hL)
theorem g_cmplt {G : Sh} {l : Launch} {mi : MI} {pc : Nat} {lv st : List Value} {M : Mm} {Q : Rr → Mm → Prop} {x y : Int32} {off : Int} (tgt n : Nat) (hn : pc + 3 = n) (hd : decode (mBy mi) pc = .ok (.if_icmp .lt off, 3)) (ht : (pc : Int) + off = (tgt : Int)) (kt : x < y → Go G l mi tgt lv st M Q) (kf : ¬ x < y → Go G l mi n lv st M Q) : Go G l mi pc lv (.int y :: .int x :: st) M Q := by
  intro p e s m args below meth c dC dI cA ad A H locs ls hC hW hL
  subst hn
  exact lv_icmp_lt hC.1 hC.2.1 hd ht (fun h => kt h p e s m args below meth c dC dI cA ad A H locs ls hC hW hL) (fun h => kf h p e s m args below meth c dC dI cA ad A H locs ls hC hW hL)
theorem g_cmpge {G : Sh} {l : Launch} {mi : MI} {pc : Nat} {lv st : List Value} {M : Mm} {Q : Rr → Mm → Prop} {x y : Int32} {off : Int} (tgt n : Nat) (hn : pc + 3 = n) (hd : decode (mBy mi) pc = .ok (.if_icmp .ge off, 3)) (ht : (pc : Int) + off = (tgt : Int)) (kt : y ≤ x → Go G l mi tgt lv st M Q) (kf : ¬ y ≤ x → Go G l mi n lv st M Q) : Go G l mi pc lv (.int y :: .int x :: st) M Q := by
  intro p e s m args below meth c dC dI cA ad A H locs ls hC hW hL
  subst hn
  exact lv_icmp_ge hC.1 hC.2.1 hd ht (fun h => kt h p e s m args below meth c dC dI cA ad A H locs ls hC hW hL) (fun h => kf h p e s m args below meth c dC dI cA ad A H locs ls hC hW hL)
theorem g_cmpgt {G : Sh} {l : Launch} {mi : MI} {pc : Nat} {lv st : List Value} {M : Mm} {Q : Rr → Mm → Prop} {x y : Int32} {off : Int} (tgt n : Nat) (hn : pc + 3 = n) (hd : decode (mBy mi) pc = .ok (.if_icmp .gt off, 3)) (ht : (pc : Int) + off = (tgt : Int)) (kt : y < x → Go G l mi tgt lv st M Q) (kf : ¬ y < x → Go G l mi n lv st M Q) : Go G l mi pc lv (.int y :: .int x :: st) M Q := by
  intro p e s m args below meth c dC dI cA ad A H locs ls hC hW hL
  subst hn
  exact lv_icmp_gt hC.1 hC.2.1 hd ht (fun h => kt h p e s m args below meth c dC dI cA ad A H locs ls hC hW hL) (fun h => kf h p e s m args below meth c dC dI cA ad A H locs ls hC hW hL)
theorem g_cmple {G : Sh} {l : Launch} {mi : MI} {pc : Nat} {lv st : List Value} {M : Mm} {Q : Rr → Mm → Prop} {x y : Int32} {off : Int} (tgt n : Nat) (hn : pc + 3 = n) (hd : decode (mBy mi) pc = .ok (.if_icmp .le off, 3)) (ht : (pc : Int) + off = (tgt : Int)) (kt : x ≤ y → Go G l mi tgt lv st M Q) (kf : ¬ x ≤ y → Go G l mi n lv st M Q) : Go G l mi pc lv (.int y :: .int x :: st) M Q := by
  intro p e s m args below meth c dC dI cA ad A H locs ls hC hW hL
  subst hn
  exact lv_icmp_le hC.1 hC.2.1 hd ht (fun h => kt h p e s m args below meth c dC dI cA ad A H locs ls hC hW hL) (fun h => kf h p e s m args below meth c dC dI cA ad A H locs ls hC hW hL)
theorem g_tabOut {G : Sh} {l : Launch} {mi : MI} {pc : Nat} {lv st : List Value} {M : Mm} {Q : Rr → Mm → Prop} {x : Int32} {df lo hi : Int} {offs : Array Int} {len : Nat} (tgt : Nat) (hd : decode (mBy mi) pc = .ok (.tableswitch df lo hi offs, len)) (h : x.toInt < lo ∨ hi < x.toInt) (ht : (pc : Int) + df = (tgt : Int)) (k : Go G l mi tgt lv st M Q) : Go G l mi pc lv (.int x :: st) M Q := by
  intro p e s m args below meth c dC dI cA ad A H locs ls hC hW hL
  exact lv_tableOut hC.1 hC.2.1 hd h ht (k p e s m args below meth c dC dI cA ad A H locs ls hC hW hL)
theorem g_tabIn {G : Sh} {l : Launch} {mi : MI} {pc : Nat} {lv st : List Value} {M : Mm} {Q : Rr → Mm → Prop} {x : Int32} {df lo hi off : Int} {offs : Array Int} {len : Nat} (tgt : Nat) (hd : decode (mBy mi) pc = .ok (.tableswitch df lo hi offs, len)) (h1 : ¬ x.toInt < lo) (h2 : ¬ hi < x.toInt) (ho : offs[(x.toInt - lo).toNat]? = some off) (ht : (pc : Int) + off = (tgt : Int)) (k : Go G l mi tgt lv st M Q) : Go G l mi pc lv (.int x :: st) M Q := by
  intro p e s m args below meth c dC dI cA ad A H locs ls hC hW hL
  exact lv_tableIn hC.1 hC.2.1 hd h1 h2 ho ht (k p e s m args below meth c dC dI cA ad A H locs ls hC hW hL)
theorem g_look {G : Sh} {l : Launch} {mi : MI} {pc : Nat} {lv st : List Value} {M : Mm} {Q : Rr → Mm → Prop} {x : Int32} {df off : Int} {ps : Array (Int × Int)} {len : Nat} (tgt : Nat) (hd : decode (mBy mi) pc = .ok (.lookupswitch df ps, len)) (hp : (ps.toList.zip (ps.toList.drop 1)).all (fun (a, next) => a.1 < next.1) = true) (ho : Op.lookupswitch.offset ps.toList df x.toInt = off) (ht : (pc : Int) + off = (tgt : Int)) (k : Go G l mi tgt lv st M Q) : Go G l mi pc lv (.int x :: st) M Q := by
  intro p e s m args below meth c dC dI cA ad A H locs ls hC hW hL
  exact lv_lookup hC.1 hC.2.1 hd hp ho ht (k p e s m args below meth c dC dI cA ad A H locs ls hC hW hL)
theorem g_iload0 {G : Sh} {l : Launch} {mi : MI} {pc : Nat} {lv st : List Value} {M : Mm} {Q : Rr → Mm → Prop} {x : Int32} (n : Nat) (hn : pc + 1 = n) (hd : decode (mBy mi) pc = .ok (.iload_n 0, 1)) (k : Go G l mi n (.int x :: lv) (.int x :: st) M Q) : Go G l mi pc (.int x :: lv) st M Q := by
  intro p e s m args below meth c dC dI cA ad A H locs ls hC hW hL
  subst hn
  exact lv_iload_n hC.1 hC.2.1 (i := 0) hd rfl (lv_get (i := 0) (v := .int x) hL rfl (fun h => by cases h)) (k p e s m args below meth c dC dI cA ad A H locs ls hC hW hL)
theorem g_istore0 {G : Sh} {l : Launch} {mi : MI} {pc : Nat} {lv st : List Value} {M : Mm} {Q : Rr → Mm → Prop} {y : Value} {x : Int32} (n : Nat) (hn : pc + 1 = n) (hd : decode (mBy mi) pc = .ok (.istore_n 0, 1)) (hm : Nat.ble 1 (mMx mi) = true) (k : Go G l mi n (.int x :: lv) st M Q) : Go G l mi pc (y :: lv) (.int x :: st) M Q := by
  intro p e s m args below meth c dC dI cA ad A H locs ls hC hW hL
  subst hn
  exact lv_istore_n (i := 0) hC.1 hC.2.1 hd rfl hL (Nat.le_of_ble_eq_true hm) rfl (fun ls' hl' => k p e s m args below meth c dC dI cA ad A H locs ls' hC hW (lv_put1 (i := 0) (v := .int x) (lv := y :: lv) (fun u h0 _ => absurd h0 (by decide)) hl'))
theorem g_iinc0 {G : Sh} {l : Launch} {mi : MI} {pc : Nat} {lv st : List Value} {M : Mm} {Q : Rr → Mm → Prop} {x : Int32} {a : Int} (n : Nat) (hn : pc + 3 = n) (hd : decode (mBy mi) pc = .ok (.iinc 0 a, 3)) (hm : Nat.ble 1 (mMx mi) = true) (v : Int32) (hv : x + Int32.ofInt a = v) (k : Go G l mi n (.int v :: lv) st M Q) : Go G l mi pc (.int x :: lv) st M Q := by
  intro p e s m args below meth c dC dI cA ad A H locs ls hC hW hL
  subst hn
  obtain ⟨z, hz⟩ := List.getElem?_of_mem (asl_mem (ad := ad) (lv := .int x :: lv) (q := (0, .int x)) |>.mpr ⟨.int x, rfl, (fun h => by cases h), rfl⟩)
  exact lv_iinc (i := 0) hC.1 hC.2.1 hd hL hz hv (Nat.le_of_ble_eq_true hm) rfl (fun ls' hl' => k p e s m args below meth c dC dI cA ad A H locs ls' hC hW (lv_put1 (i := 0) (v := .int v) (lv := .int x :: lv) (fun u h0 _ => absurd h0 (by decide)) hl'))
theorem g_lload0 {G : Sh} {l : Launch} {mi : MI} {pc : Nat} {lv st : List Value} {M : Mm} {Q : Rr → Mm → Prop} {x : Int64} (n : Nat) (hn : pc + 1 = n) (hd : decode (mBy mi) pc = .ok (.lload_n 0, 1)) (k : Go G l mi n (.long x :: lv) (.long x :: st) M Q) : Go G l mi pc (.long x :: lv) st M Q := by
  intro p e s m args below meth c dC dI cA ad A H locs ls hC hW hL
  subst hn
  exact lv_lload_n hC.1 hC.2.1 (i := 0) hd rfl (lv_get (i := 0) (v := .long x) hL rfl (fun h => by cases h)) (k p e s m args below meth c dC dI cA ad A H locs ls hC hW hL)
theorem g_lstore0 {G : Sh} {l : Launch} {mi : MI} {pc : Nat} {lv st : List Value} {M : Mm} {Q : Rr → Mm → Prop} {y z : Value} {x : Int64} (n : Nat) (hn : pc + 1 = n) (hd : decode (mBy mi) pc = .ok (.lstore_n 0, 1)) (hm : Nat.ble 2 (mMx mi) = true) (k : Go G l mi n (.long x :: .null :: lv) st M Q) : Go G l mi pc (y :: z :: lv) (.long x :: st) M Q := by
  intro p e s m args below meth c dC dI cA ad A H locs ls hC hW hL
  subst hn
  exact lv_lstore_n (i := 0) hC.1 hC.2.1 hd rfl hL (Nat.le_of_ble_eq_true hm) rfl (fun ls' hl' => k p e s m args below meth c dC dI cA ad A H locs ls' hC hW (lv_put2 (i := 0) (v := .long x) (lv := y :: z :: lv) (fun u h0 _ => absurd h0 (by decide)) hl'))
theorem g_aload0 {G : Sh} {l : Launch} {mi : MI} {pc : Nat} {lv st : List Value} {M : Mm} {Q : Rr → Mm → Prop} {x : Nat} (n : Nat) (hn : pc + 1 = n) (hd : decode (mBy mi) pc = .ok (.aload_n 0, 1)) (k : Go G l mi n (.ref x :: lv) (.ref x :: st) M Q) : Go G l mi pc (.ref x :: lv) st M Q := by
  intro p e s m args below meth c dC dI cA ad A H locs ls hC hW hL
  subst hn
  exact lv_aload_n hC.1 hC.2.1 (i := 0) hd rfl (lv_get (i := 0) (v := .ref x) hL rfl (fun h => by cases h)) (k p e s m args below meth c dC dI cA ad A H locs ls hC hW hL)
theorem g_iload1 {G : Sh} {l : Launch} {mi : MI} {pc : Nat} {lv st : List Value} {M : Mm} {Q : Rr → Mm → Prop} {x0 : Value} {x : Int32} (n : Nat) (hn : pc + 1 = n) (hd : decode (mBy mi) pc = .ok (.iload_n 1, 1)) (k : Go G l mi n (x0 :: .int x :: lv) (.int x :: st) M Q) : Go G l mi pc (x0 :: .int x :: lv) st M Q := by
  intro p e s m args below meth c dC dI cA ad A H locs ls hC hW hL
  subst hn
  exact lv_iload_n hC.1 hC.2.1 (i := 1) hd rfl (lv_get (i := 1) (v := .int x) hL rfl (fun h => by cases h)) (k p e s m args below meth c dC dI cA ad A H locs ls hC hW hL)
theorem g_istore1 {G : Sh} {l : Launch} {mi : MI} {pc : Nat} {lv st : List Value} {M : Mm} {Q : Rr → Mm → Prop} {x0 : Value} {y : Value} {x : Int32} (n : Nat) (hn : pc + 1 = n) (hd : decode (mBy mi) pc = .ok (.istore_n 1, 1)) (hm : Nat.ble 2 (mMx mi) = true) (hp : x0.category = 1) (k : Go G l mi n (x0 :: .int x :: lv) st M Q) : Go G l mi pc (x0 :: y :: lv) (.int x :: st) M Q := by
  intro p e s m args below meth c dC dI cA ad A H locs ls hC hW hL
  subst hn
  exact lv_istore_n (i := 1) hC.1 hC.2.1 hd rfl hL (Nat.le_of_ble_eq_true hm) rfl (fun ls' hl' => k p e s m args below meth c dC dI cA ad A H locs ls' hC hW (lv_put1 (i := 1) (v := .int x) (lv := x0 :: y :: lv) (fun u h0 hu => by (first | (cases hu; exact hp) | (exact absurd h0 (by decide)))) hl'))
theorem g_iinc1 {G : Sh} {l : Launch} {mi : MI} {pc : Nat} {lv st : List Value} {M : Mm} {Q : Rr → Mm → Prop} {x0 : Value} {x : Int32} {a : Int} (n : Nat) (hn : pc + 3 = n) (hd : decode (mBy mi) pc = .ok (.iinc 1 a, 3)) (hm : Nat.ble 2 (mMx mi) = true) (hp : x0.category = 1) (v : Int32) (hv : x + Int32.ofInt a = v) (k : Go G l mi n (x0 :: .int v :: lv) st M Q) : Go G l mi pc (x0 :: .int x :: lv) st M Q := by
  intro p e s m args below meth c dC dI cA ad A H locs ls hC hW hL
  subst hn
  obtain ⟨z, hz⟩ := List.getElem?_of_mem (asl_mem (ad := ad) (lv := x0 :: .int x :: lv) (q := (1, .int x)) |>.mpr ⟨.int x, rfl, (fun h => by cases h), rfl⟩)
  exact lv_iinc (i := 1) hC.1 hC.2.1 hd hL hz hv (Nat.le_of_ble_eq_true hm) rfl (fun ls' hl' => k p e s m args below meth c dC dI cA ad A H locs ls' hC hW (lv_put1 (i := 1) (v := .int v) (lv := x0 :: .int x :: lv) (fun u h0 hu => by (first | (cases hu; exact hp) | (exact absurd h0 (by decide)))) hl'))
theorem g_lload1 {G : Sh} {l : Launch} {mi : MI} {pc : Nat} {lv st : List Value} {M : Mm} {Q : Rr → Mm → Prop} {x0 : Value} {x : Int64} (n : Nat) (hn : pc + 1 = n) (hd : decode (mBy mi) pc = .ok (.lload_n 1, 1)) (k : Go G l mi n (x0 :: .long x :: lv) (.long x :: st) M Q) : Go G l mi pc (x0 :: .long x :: lv) st M Q := by
  intro p e s m args below meth c dC dI cA ad A H locs ls hC hW hL
  subst hn
  exact lv_lload_n hC.1 hC.2.1 (i := 1) hd rfl (lv_get (i := 1) (v := .long x) hL rfl (fun h => by cases h)) (k p e s m args below meth c dC dI cA ad A H locs ls hC hW hL)
theorem g_lstore1 {G : Sh} {l : Launch} {mi : MI} {pc : Nat} {lv st : List Value} {M : Mm} {Q : Rr → Mm → Prop} {x0 : Value} {y z : Value} {x : Int64} (n : Nat) (hn : pc + 1 = n) (hd : decode (mBy mi) pc = .ok (.lstore_n 1, 1)) (hm : Nat.ble 3 (mMx mi) = true) (hp : x0.category = 1) (k : Go G l mi n (x0 :: .long x :: .null :: lv) st M Q) : Go G l mi pc (x0 :: y :: z :: lv) (.long x :: st) M Q := by
  intro p e s m args below meth c dC dI cA ad A H locs ls hC hW hL
  subst hn
  exact lv_lstore_n (i := 1) hC.1 hC.2.1 hd rfl hL (Nat.le_of_ble_eq_true hm) rfl (fun ls' hl' => k p e s m args below meth c dC dI cA ad A H locs ls' hC hW (lv_put2 (i := 1) (v := .long x) (lv := x0 :: y :: z :: lv) (fun u h0 hu => by (first | (cases hu; exact hp) | (exact absurd h0 (by decide)))) hl'))
theorem g_aload1 {G : Sh} {l : Launch} {mi : MI} {pc : Nat} {lv st : List Value} {M : Mm} {Q : Rr → Mm → Prop} {x0 : Value} {x : Nat} (n : Nat) (hn : pc + 1 = n) (hd : decode (mBy mi) pc = .ok (.aload_n 1, 1)) (k : Go G l mi n (x0 :: .ref x :: lv) (.ref x :: st) M Q) : Go G l mi pc (x0 :: .ref x :: lv) st M Q := by
  intro p e s m args below meth c dC dI cA ad A H locs ls hC hW hL
  subst hn
  exact lv_aload_n hC.1 hC.2.1 (i := 1) hd rfl (lv_get (i := 1) (v := .ref x) hL rfl (fun h => by cases h)) (k p e s m args below meth c dC dI cA ad A H locs ls hC hW hL)
theorem g_iload2 {G : Sh} {l : Launch} {mi : MI} {pc : Nat} {lv st : List Value} {M : Mm} {Q : Rr → Mm → Prop} {x0 x1 : Value} {x : Int32} (n : Nat) (hn : pc + 1 = n) (hd : decode (mBy mi) pc = .ok (.iload_n 2, 1)) (k : Go G l mi n (x0 :: x1 :: .int x :: lv) (.int x :: st) M Q) : Go G l mi pc (x0 :: x1 :: .int x :: lv) st M Q := by
  intro p e s m args below meth c dC dI cA ad A H locs ls hC hW hL
  subst hn
  exact lv_iload_n hC.1 hC.2.1 (i := 2) hd rfl (lv_get (i := 2) (v := .int x) hL rfl (fun h => by cases h)) (k p e s m args below meth c dC dI cA ad A H locs ls hC hW hL)
theorem g_istore2 {G : Sh} {l : Launch} {mi : MI} {pc : Nat} {lv st : List Value} {M : Mm} {Q : Rr → Mm → Prop} {x0 x1 : Value} {y : Value} {x : Int32} (n : Nat) (hn : pc + 1 = n) (hd : decode (mBy mi) pc = .ok (.istore_n 2, 1)) (hm : Nat.ble 3 (mMx mi) = true) (hp : x1.category = 1) (k : Go G l mi n (x0 :: x1 :: .int x :: lv) st M Q) : Go G l mi pc (x0 :: x1 :: y :: lv) (.int x :: st) M Q := by
  intro p e s m args below meth c dC dI cA ad A H locs ls hC hW hL
  subst hn
  exact lv_istore_n (i := 2) hC.1 hC.2.1 hd rfl hL (Nat.le_of_ble_eq_true hm) rfl (fun ls' hl' => k p e s m args below meth c dC dI cA ad A H locs ls' hC hW (lv_put1 (i := 2) (v := .int x) (lv := x0 :: x1 :: y :: lv) (fun u h0 hu => by (first | (cases hu; exact hp) | (exact absurd h0 (by decide)))) hl'))
theorem g_iinc2 {G : Sh} {l : Launch} {mi : MI} {pc : Nat} {lv st : List Value} {M : Mm} {Q : Rr → Mm → Prop} {x0 x1 : Value} {x : Int32} {a : Int} (n : Nat) (hn : pc + 3 = n) (hd : decode (mBy mi) pc = .ok (.iinc 2 a, 3)) (hm : Nat.ble 3 (mMx mi) = true) (hp : x1.category = 1) (v : Int32) (hv : x + Int32.ofInt a = v) (k : Go G l mi n (x0 :: x1 :: .int v :: lv) st M Q) : Go G l mi pc (x0 :: x1 :: .int x :: lv) st M Q := by
  intro p e s m args below meth c dC dI cA ad A H locs ls hC hW hL
  subst hn
  obtain ⟨z, hz⟩ := List.getElem?_of_mem (asl_mem (ad := ad) (lv := x0 :: x1 :: .int x :: lv) (q := (2, .int x)) |>.mpr ⟨.int x, rfl, (fun h => by cases h), rfl⟩)
  exact lv_iinc (i := 2) hC.1 hC.2.1 hd hL hz hv (Nat.le_of_ble_eq_true hm) rfl (fun ls' hl' => k p e s m args below meth c dC dI cA ad A H locs ls' hC hW (lv_put1 (i := 2) (v := .int v) (lv := x0 :: x1 :: .int x :: lv) (fun u h0 hu => by (first | (cases hu; exact hp) | (exact absurd h0 (by decide)))) hl'))
theorem g_lload2 {G : Sh} {l : Launch} {mi : MI} {pc : Nat} {lv st : List Value} {M : Mm} {Q : Rr → Mm → Prop} {x0 x1 : Value} {x : Int64} (n : Nat) (hn : pc + 1 = n) (hd : decode (mBy mi) pc = .ok (.lload_n 2, 1)) (k : Go G l mi n (x0 :: x1 :: .long x :: lv) (.long x :: st) M Q) : Go G l mi pc (x0 :: x1 :: .long x :: lv) st M Q := by
  intro p e s m args below meth c dC dI cA ad A H locs ls hC hW hL
  subst hn
  exact lv_lload_n hC.1 hC.2.1 (i := 2) hd rfl (lv_get (i := 2) (v := .long x) hL rfl (fun h => by cases h)) (k p e s m args below meth c dC dI cA ad A H locs ls hC hW hL)
theorem g_lstore2 {G : Sh} {l : Launch} {mi : MI} {pc : Nat} {lv st : List Value} {M : Mm} {Q : Rr → Mm → Prop} {x0 x1 : Value} {y z : Value} {x : Int64} (n : Nat) (hn : pc + 1 = n) (hd : decode (mBy mi) pc = .ok (.lstore_n 2, 1)) (hm : Nat.ble 4 (mMx mi) = true) (hp : x1.category = 1) (k : Go G l mi n (x0 :: x1 :: .long x :: .null :: lv) st M Q) : Go G l mi pc (x0 :: x1 :: y :: z :: lv) (.long x :: st) M Q := by
  intro p e s m args below meth c dC dI cA ad A H locs ls hC hW hL
  subst hn
  exact lv_lstore_n (i := 2) hC.1 hC.2.1 hd rfl hL (Nat.le_of_ble_eq_true hm) rfl (fun ls' hl' => k p e s m args below meth c dC dI cA ad A H locs ls' hC hW (lv_put2 (i := 2) (v := .long x) (lv := x0 :: x1 :: y :: z :: lv) (fun u h0 hu => by (first | (cases hu; exact hp) | (exact absurd h0 (by decide)))) hl'))
theorem g_aload2 {G : Sh} {l : Launch} {mi : MI} {pc : Nat} {lv st : List Value} {M : Mm} {Q : Rr → Mm → Prop} {x0 x1 : Value} {x : Nat} (n : Nat) (hn : pc + 1 = n) (hd : decode (mBy mi) pc = .ok (.aload_n 2, 1)) (k : Go G l mi n (x0 :: x1 :: .ref x :: lv) (.ref x :: st) M Q) : Go G l mi pc (x0 :: x1 :: .ref x :: lv) st M Q := by
  intro p e s m args below meth c dC dI cA ad A H locs ls hC hW hL
  subst hn
  exact lv_aload_n hC.1 hC.2.1 (i := 2) hd rfl (lv_get (i := 2) (v := .ref x) hL rfl (fun h => by cases h)) (k p e s m args below meth c dC dI cA ad A H locs ls hC hW hL)
theorem g_iload3 {G : Sh} {l : Launch} {mi : MI} {pc : Nat} {lv st : List Value} {M : Mm} {Q : Rr → Mm → Prop} {x0 x1 x2 : Value} {x : Int32} (n : Nat) (hn : pc + 1 = n) (hd : decode (mBy mi) pc = .ok (.iload_n 3, 1)) (k : Go G l mi n (x0 :: x1 :: x2 :: .int x :: lv) (.int x :: st) M Q) : Go G l mi pc (x0 :: x1 :: x2 :: .int x :: lv) st M Q := by
  intro p e s m args below meth c dC dI cA ad A H locs ls hC hW hL
  subst hn
  exact lv_iload_n hC.1 hC.2.1 (i := 3) hd rfl (lv_get (i := 3) (v := .int x) hL rfl (fun h => by cases h)) (k p e s m args below meth c dC dI cA ad A H locs ls hC hW hL)
theorem g_istore3 {G : Sh} {l : Launch} {mi : MI} {pc : Nat} {lv st : List Value} {M : Mm} {Q : Rr → Mm → Prop} {x0 x1 x2 : Value} {y : Value} {x : Int32} (n : Nat) (hn : pc + 1 = n) (hd : decode (mBy mi) pc = .ok (.istore_n 3, 1)) (hm : Nat.ble 4 (mMx mi) = true) (hp : x2.category = 1) (k : Go G l mi n (x0 :: x1 :: x2 :: .int x :: lv) st M Q) : Go G l mi pc (x0 :: x1 :: x2 :: y :: lv) (.int x :: st) M Q := by
  intro p e s m args below meth c dC dI cA ad A H locs ls hC hW hL
  subst hn
  exact lv_istore_n (i := 3) hC.1 hC.2.1 hd rfl hL (Nat.le_of_ble_eq_true hm) rfl (fun ls' hl' => k p e s m args below meth c dC dI cA ad A H locs ls' hC hW (lv_put1 (i := 3) (v := .int x) (lv := x0 :: x1 :: x2 :: y :: lv) (fun u h0 hu => by (first | (cases hu; exact hp) | (exact absurd h0 (by decide)))) hl'))
theorem g_iinc3 {G : Sh} {l : Launch} {mi : MI} {pc : Nat} {lv st : List Value} {M : Mm} {Q : Rr → Mm → Prop} {x0 x1 x2 : Value} {x : Int32} {a : Int} (n : Nat) (hn : pc + 3 = n) (hd : decode (mBy mi) pc = .ok (.iinc 3 a, 3)) (hm : Nat.ble 4 (mMx mi) = true) (hp : x2.category = 1) (v : Int32) (hv : x + Int32.ofInt a = v) (k : Go G l mi n (x0 :: x1 :: x2 :: .int v :: lv) st M Q) : Go G l mi pc (x0 :: x1 :: x2 :: .int x :: lv) st M Q := by
  intro p e s m args below meth c dC dI cA ad A H locs ls hC hW hL
  subst hn
  obtain ⟨z, hz⟩ := List.getElem?_of_mem (asl_mem (ad := ad) (lv := x0 :: x1 :: x2 :: .int x :: lv) (q := (3, .int x)) |>.mpr ⟨.int x, rfl, (fun h => by cases h), rfl⟩)
  exact lv_iinc (i := 3) hC.1 hC.2.1 hd hL hz hv (Nat.le_of_ble_eq_true hm) rfl (fun ls' hl' => k p e s m args below meth c dC dI cA ad A H locs ls' hC hW (lv_put1 (i := 3) (v := .int v) (lv := x0 :: x1 :: x2 :: .int x :: lv) (fun u h0 hu => by (first | (cases hu; exact hp) | (exact absurd h0 (by decide)))) hl'))
theorem g_lload3 {G : Sh} {l : Launch} {mi : MI} {pc : Nat} {lv st : List Value} {M : Mm} {Q : Rr → Mm → Prop} {x0 x1 x2 : Value} {x : Int64} (n : Nat) (hn : pc + 1 = n) (hd : decode (mBy mi) pc = .ok (.lload_n 3, 1)) (k : Go G l mi n (x0 :: x1 :: x2 :: .long x :: lv) (.long x :: st) M Q) : Go G l mi pc (x0 :: x1 :: x2 :: .long x :: lv) st M Q := by
  intro p e s m args below meth c dC dI cA ad A H locs ls hC hW hL
  subst hn
  exact lv_lload_n hC.1 hC.2.1 (i := 3) hd rfl (lv_get (i := 3) (v := .long x) hL rfl (fun h => by cases h)) (k p e s m args below meth c dC dI cA ad A H locs ls hC hW hL)
theorem g_lstore3 {G : Sh} {l : Launch} {mi : MI} {pc : Nat} {lv st : List Value} {M : Mm} {Q : Rr → Mm → Prop} {x0 x1 x2 : Value} {y z : Value} {x : Int64} (n : Nat) (hn : pc + 1 = n) (hd : decode (mBy mi) pc = .ok (.lstore_n 3, 1)) (hm : Nat.ble 5 (mMx mi) = true) (hp : x2.category = 1) (k : Go G l mi n (x0 :: x1 :: x2 :: .long x :: .null :: lv) st M Q) : Go G l mi pc (x0 :: x1 :: x2 :: y :: z :: lv) (.long x :: st) M Q := by
  intro p e s m args below meth c dC dI cA ad A H locs ls hC hW hL
  subst hn
  exact lv_lstore_n (i := 3) hC.1 hC.2.1 hd rfl hL (Nat.le_of_ble_eq_true hm) rfl (fun ls' hl' => k p e s m args below meth c dC dI cA ad A H locs ls' hC hW (lv_put2 (i := 3) (v := .long x) (lv := x0 :: x1 :: x2 :: y :: z :: lv) (fun u h0 hu => by (first | (cases hu; exact hp) | (exact absurd h0 (by decide)))) hl'))
theorem g_aload3 {G : Sh} {l : Launch} {mi : MI} {pc : Nat} {lv st : List Value} {M : Mm} {Q : Rr → Mm → Prop} {x0 x1 x2 : Value} {x : Nat} (n : Nat) (hn : pc + 1 = n) (hd : decode (mBy mi) pc = .ok (.aload_n 3, 1)) (k : Go G l mi n (x0 :: x1 :: x2 :: .ref x :: lv) (.ref x :: st) M Q) : Go G l mi pc (x0 :: x1 :: x2 :: .ref x :: lv) st M Q := by
  intro p e s m args below meth c dC dI cA ad A H locs ls hC hW hL
  subst hn
  exact lv_aload_n hC.1 hC.2.1 (i := 3) hd rfl (lv_get (i := 3) (v := .ref x) hL rfl (fun h => by cases h)) (k p e s m args below meth c dC dI cA ad A H locs ls hC hW hL)
theorem g_iload4 {G : Sh} {l : Launch} {mi : MI} {pc : Nat} {lv st : List Value} {M : Mm} {Q : Rr → Mm → Prop} {x0 x1 x2 x3 : Value} {x : Int32} (n : Nat) (hn : pc + 2 = n) (hd : decode (mBy mi) pc = .ok (.iload 4, 2)) (k : Go G l mi n (x0 :: x1 :: x2 :: x3 :: .int x :: lv) (.int x :: st) M Q) : Go G l mi pc (x0 :: x1 :: x2 :: x3 :: .int x :: lv) st M Q := by
  intro p e s m args below meth c dC dI cA ad A H locs ls hC hW hL
  subst hn
  exact lv_iload hC.1 hC.2.1 hd (lv_get (i := 4) (v := .int x) hL rfl (fun h => by cases h)) (k p e s m args below meth c dC dI cA ad A H locs ls hC hW hL)
theorem g_istore4 {G : Sh} {l : Launch} {mi : MI} {pc : Nat} {lv st : List Value} {M : Mm} {Q : Rr → Mm → Prop} {x0 x1 x2 x3 : Value} {y : Value} {x : Int32} (n : Nat) (hn : pc + 2 = n) (hd : decode (mBy mi) pc = .ok (.istore 4, 2)) (hm : Nat.ble 5 (mMx mi) = true) (hp : x3.category = 1) (k : Go G l mi n (x0 :: x1 :: x2 :: x3 :: .int x :: lv) st M Q) : Go G l mi pc (x0 :: x1 :: x2 :: x3 :: y :: lv) (.int x :: st) M Q := by
  intro p e s m args below meth c dC dI cA ad A H locs ls hC hW hL
  subst hn
  exact lv_istore (i := 4) hC.1 hC.2.1 hd hL (Nat.le_of_ble_eq_true hm) rfl (fun ls' hl' => k p e s m args below meth c dC dI cA ad A H locs ls' hC hW (lv_put1 (i := 4) (v := .int x) (lv := x0 :: x1 :: x2 :: x3 :: y :: lv) (fun u h0 hu => by (first | (cases hu; exact hp) | (exact absurd h0 (by decide)))) hl'))
theorem g_iinc4 {G : Sh} {l : Launch} {mi : MI} {pc : Nat} {lv st : List Value} {M : Mm} {Q : Rr → Mm → Prop} {x0 x1 x2 x3 : Value} {x : Int32} {a : Int} (n : Nat) (hn : pc + 3 = n) (hd : decode (mBy mi) pc = .ok (.iinc 4 a, 3)) (hm : Nat.ble 5 (mMx mi) = true) (hp : x3.category = 1) (v : Int32) (hv : x + Int32.ofInt a = v) (k : Go G l mi n (x0 :: x1 :: x2 :: x3 :: .int v :: lv) st M Q) : Go G l mi pc (x0 :: x1 :: x2 :: x3 :: .int x :: lv) st M Q := by
  intro p e s m args below meth c dC dI cA ad A H locs ls hC hW hL
  subst hn
  obtain ⟨z, hz⟩ := List.getElem?_of_mem (asl_mem (ad := ad) (lv := x0 :: x1 :: x2 :: x3 :: .int x :: lv) (q := (4, .int x)) |>.mpr ⟨.int x, rfl, (fun h => by cases h), rfl⟩)
  exact lv_iinc (i := 4) hC.1 hC.2.1 hd hL hz hv (Nat.le_of_ble_eq_true hm) rfl (fun ls' hl' => k p e s m args below meth c dC dI cA ad A H locs ls' hC hW (lv_put1 (i := 4) (v := .int v) (lv := x0 :: x1 :: x2 :: x3 :: .int x :: lv) (fun u h0 hu => by (first | (cases hu; exact hp) | (exact absurd h0 (by decide)))) hl'))
theorem g_lload4 {G : Sh} {l : Launch} {mi : MI} {pc : Nat} {lv st : List Value} {M : Mm} {Q : Rr → Mm → Prop} {x0 x1 x2 x3 : Value} {x : Int64} (n : Nat) (hn : pc + 2 = n) (hd : decode (mBy mi) pc = .ok (.lload 4, 2)) (k : Go G l mi n (x0 :: x1 :: x2 :: x3 :: .long x :: lv) (.long x :: st) M Q) : Go G l mi pc (x0 :: x1 :: x2 :: x3 :: .long x :: lv) st M Q := by
  intro p e s m args below meth c dC dI cA ad A H locs ls hC hW hL
  subst hn
  exact lv_lload hC.1 hC.2.1 hd (lv_get (i := 4) (v := .long x) hL rfl (fun h => by cases h)) (k p e s m args below meth c dC dI cA ad A H locs ls hC hW hL)
theorem g_lstore4 {G : Sh} {l : Launch} {mi : MI} {pc : Nat} {lv st : List Value} {M : Mm} {Q : Rr → Mm → Prop} {x0 x1 x2 x3 : Value} {y z : Value} {x : Int64} (n : Nat) (hn : pc + 2 = n) (hd : decode (mBy mi) pc = .ok (.lstore 4, 2)) (hm : Nat.ble 6 (mMx mi) = true) (hp : x3.category = 1) (k : Go G l mi n (x0 :: x1 :: x2 :: x3 :: .long x :: .null :: lv) st M Q) : Go G l mi pc (x0 :: x1 :: x2 :: x3 :: y :: z :: lv) (.long x :: st) M Q := by
  intro p e s m args below meth c dC dI cA ad A H locs ls hC hW hL
  subst hn
  exact lv_lstore (i := 4) hC.1 hC.2.1 hd hL (Nat.le_of_ble_eq_true hm) rfl (fun ls' hl' => k p e s m args below meth c dC dI cA ad A H locs ls' hC hW (lv_put2 (i := 4) (v := .long x) (lv := x0 :: x1 :: x2 :: x3 :: y :: z :: lv) (fun u h0 hu => by (first | (cases hu; exact hp) | (exact absurd h0 (by decide)))) hl'))
theorem g_aload4 {G : Sh} {l : Launch} {mi : MI} {pc : Nat} {lv st : List Value} {M : Mm} {Q : Rr → Mm → Prop} {x0 x1 x2 x3 : Value} {x : Nat} (n : Nat) (hn : pc + 2 = n) (hd : decode (mBy mi) pc = .ok (.aload 4, 2)) (k : Go G l mi n (x0 :: x1 :: x2 :: x3 :: .ref x :: lv) (.ref x :: st) M Q) : Go G l mi pc (x0 :: x1 :: x2 :: x3 :: .ref x :: lv) st M Q := by
  intro p e s m args below meth c dC dI cA ad A H locs ls hC hW hL
  subst hn
  exact lv_aload hC.1 hC.2.1 hd (lv_get (i := 4) (v := .ref x) hL rfl (fun h => by cases h)) (k p e s m args below meth c dC dI cA ad A H locs ls hC hW hL)
theorem g_iload5 {G : Sh} {l : Launch} {mi : MI} {pc : Nat} {lv st : List Value} {M : Mm} {Q : Rr → Mm → Prop} {x0 x1 x2 x3 x4 : Value} {x : Int32} (n : Nat) (hn : pc + 2 = n) (hd : decode (mBy mi) pc = .ok (.iload 5, 2)) (k : Go G l mi n (x0 :: x1 :: x2 :: x3 :: x4 :: .int x :: lv) (.int x :: st) M Q) : Go G l mi pc (x0 :: x1 :: x2 :: x3 :: x4 :: .int x :: lv) st M Q := by
  intro p e s m args below meth c dC dI cA ad A H locs ls hC hW hL
  subst hn
  exact lv_iload hC.1 hC.2.1 hd (lv_get (i := 5) (v := .int x) hL rfl (fun h => by cases h)) (k p e s m args below meth c dC dI cA ad A H locs ls hC hW hL)
theorem g_istore5 {G : Sh} {l : Launch} {mi : MI} {pc : Nat} {lv st : List Value} {M : Mm} {Q : Rr → Mm → Prop} {x0 x1 x2 x3 x4 : Value} {y : Value} {x : Int32} (n : Nat) (hn : pc + 2 = n) (hd : decode (mBy mi) pc = .ok (.istore 5, 2)) (hm : Nat.ble 6 (mMx mi) = true) (hp : x4.category = 1) (k : Go G l mi n (x0 :: x1 :: x2 :: x3 :: x4 :: .int x :: lv) st M Q) : Go G l mi pc (x0 :: x1 :: x2 :: x3 :: x4 :: y :: lv) (.int x :: st) M Q := by
  intro p e s m args below meth c dC dI cA ad A H locs ls hC hW hL
  subst hn
  exact lv_istore (i := 5) hC.1 hC.2.1 hd hL (Nat.le_of_ble_eq_true hm) rfl (fun ls' hl' => k p e s m args below meth c dC dI cA ad A H locs ls' hC hW (lv_put1 (i := 5) (v := .int x) (lv := x0 :: x1 :: x2 :: x3 :: x4 :: y :: lv) (fun u h0 hu => by (first | (cases hu; exact hp) | (exact absurd h0 (by decide)))) hl'))
theorem g_iinc5 {G : Sh} {l : Launch} {mi : MI} {pc : Nat} {lv st : List Value} {M : Mm} {Q : Rr → Mm → Prop} {x0 x1 x2 x3 x4 : Value} {x : Int32} {a : Int} (n : Nat) (hn : pc + 3 = n) (hd : decode (mBy mi) pc = .ok (.iinc 5 a, 3)) (hm : Nat.ble 6 (mMx mi) = true) (hp : x4.category = 1) (v : Int32) (hv : x + Int32.ofInt a = v) (k : Go G l mi n (x0 :: x1 :: x2 :: x3 :: x4 :: .int v :: lv) st M Q) : Go G l mi pc (x0 :: x1 :: x2 :: x3 :: x4 :: .int x :: lv) st M Q := by
  intro p e s m args below meth c dC dI cA ad A H locs ls hC hW hL
  subst hn
  obtain ⟨z, hz⟩ := List.getElem?_of_mem (asl_mem (ad := ad) (lv := x0 :: x1 :: x2 :: x3 :: x4 :: .int x :: lv) (q := (5, .int x)) |>.mpr ⟨.int x, rfl, (fun h => by cases h), rfl⟩)
  exact lv_iinc (i := 5) hC.1 hC.2.1 hd hL hz hv (Nat.le_of_ble_eq_true hm) rfl (fun ls' hl' => k p e s m args below meth c dC dI cA ad A H locs ls' hC hW (lv_put1 (i := 5) (v := .int v) (lv := x0 :: x1 :: x2 :: x3 :: x4 :: .int x :: lv) (fun u h0 hu => by (first | (cases hu; exact hp) | (exact absurd h0 (by decide)))) hl'))
theorem g_lload5 {G : Sh} {l : Launch} {mi : MI} {pc : Nat} {lv st : List Value} {M : Mm} {Q : Rr → Mm → Prop} {x0 x1 x2 x3 x4 : Value} {x : Int64} (n : Nat) (hn : pc + 2 = n) (hd : decode (mBy mi) pc = .ok (.lload 5, 2)) (k : Go G l mi n (x0 :: x1 :: x2 :: x3 :: x4 :: .long x :: lv) (.long x :: st) M Q) : Go G l mi pc (x0 :: x1 :: x2 :: x3 :: x4 :: .long x :: lv) st M Q := by
  intro p e s m args below meth c dC dI cA ad A H locs ls hC hW hL
  subst hn
  exact lv_lload hC.1 hC.2.1 hd (lv_get (i := 5) (v := .long x) hL rfl (fun h => by cases h)) (k p e s m args below meth c dC dI cA ad A H locs ls hC hW hL)
theorem g_lstore5 {G : Sh} {l : Launch} {mi : MI} {pc : Nat} {lv st : List Value} {M : Mm} {Q : Rr → Mm → Prop} {x0 x1 x2 x3 x4 : Value} {y z : Value} {x : Int64} (n : Nat) (hn : pc + 2 = n) (hd : decode (mBy mi) pc = .ok (.lstore 5, 2)) (hm : Nat.ble 7 (mMx mi) = true) (hp : x4.category = 1) (k : Go G l mi n (x0 :: x1 :: x2 :: x3 :: x4 :: .long x :: .null :: lv) st M Q) : Go G l mi pc (x0 :: x1 :: x2 :: x3 :: x4 :: y :: z :: lv) (.long x :: st) M Q := by
  intro p e s m args below meth c dC dI cA ad A H locs ls hC hW hL
  subst hn
  exact lv_lstore (i := 5) hC.1 hC.2.1 hd hL (Nat.le_of_ble_eq_true hm) rfl (fun ls' hl' => k p e s m args below meth c dC dI cA ad A H locs ls' hC hW (lv_put2 (i := 5) (v := .long x) (lv := x0 :: x1 :: x2 :: x3 :: x4 :: y :: z :: lv) (fun u h0 hu => by (first | (cases hu; exact hp) | (exact absurd h0 (by decide)))) hl'))
theorem g_aload5 {G : Sh} {l : Launch} {mi : MI} {pc : Nat} {lv st : List Value} {M : Mm} {Q : Rr → Mm → Prop} {x0 x1 x2 x3 x4 : Value} {x : Nat} (n : Nat) (hn : pc + 2 = n) (hd : decode (mBy mi) pc = .ok (.aload 5, 2)) (k : Go G l mi n (x0 :: x1 :: x2 :: x3 :: x4 :: .ref x :: lv) (.ref x :: st) M Q) : Go G l mi pc (x0 :: x1 :: x2 :: x3 :: x4 :: .ref x :: lv) st M Q := by
  intro p e s m args below meth c dC dI cA ad A H locs ls hC hW hL
  subst hn
  exact lv_aload hC.1 hC.2.1 hd (lv_get (i := 5) (v := .ref x) hL rfl (fun h => by cases h)) (k p e s m args below meth c dC dI cA ad A H locs ls hC hW hL)
theorem g_iload6 {G : Sh} {l : Launch} {mi : MI} {pc : Nat} {lv st : List Value} {M : Mm} {Q : Rr → Mm → Prop} {x0 x1 x2 x3 x4 x5 : Value} {x : Int32} (n : Nat) (hn : pc + 2 = n) (hd : decode (mBy mi) pc = .ok (.iload 6, 2)) (k : Go G l mi n (x0 :: x1 :: x2 :: x3 :: x4 :: x5 :: .int x :: lv) (.int x :: st) M Q) : Go G l mi pc (x0 :: x1 :: x2 :: x3 :: x4 :: x5 :: .int x :: lv) st M Q := by
  intro p e s m args below meth c dC dI cA ad A H locs ls hC hW hL
  subst hn
  exact lv_iload hC.1 hC.2.1 hd (lv_get (i := 6) (v := .int x) hL rfl (fun h => by cases h)) (k p e s m args below meth c dC dI cA ad A H locs ls hC hW hL)
theorem g_istore6 {G : Sh} {l : Launch} {mi : MI} {pc : Nat} {lv st : List Value} {M : Mm} {Q : Rr → Mm → Prop} {x0 x1 x2 x3 x4 x5 : Value} {y : Value} {x : Int32} (n : Nat) (hn : pc + 2 = n) (hd : decode (mBy mi) pc = .ok (.istore 6, 2)) (hm : Nat.ble 7 (mMx mi) = true) (hp : x5.category = 1) (k : Go G l mi n (x0 :: x1 :: x2 :: x3 :: x4 :: x5 :: .int x :: lv) st M Q) : Go G l mi pc (x0 :: x1 :: x2 :: x3 :: x4 :: x5 :: y :: lv) (.int x :: st) M Q := by
  intro p e s m args below meth c dC dI cA ad A H locs ls hC hW hL
  subst hn
  exact lv_istore (i := 6) hC.1 hC.2.1 hd hL (Nat.le_of_ble_eq_true hm) rfl (fun ls' hl' => k p e s m args below meth c dC dI cA ad A H locs ls' hC hW (lv_put1 (i := 6) (v := .int x) (lv := x0 :: x1 :: x2 :: x3 :: x4 :: x5 :: y :: lv) (fun u h0 hu => by (first | (cases hu; exact hp) | (exact absurd h0 (by decide)))) hl'))
theorem g_iinc6 {G : Sh} {l : Launch} {mi : MI} {pc : Nat} {lv st : List Value} {M : Mm} {Q : Rr → Mm → Prop} {x0 x1 x2 x3 x4 x5 : Value} {x : Int32} {a : Int} (n : Nat) (hn : pc + 3 = n) (hd : decode (mBy mi) pc = .ok (.iinc 6 a, 3)) (hm : Nat.ble 7 (mMx mi) = true) (hp : x5.category = 1) (v : Int32) (hv : x + Int32.ofInt a = v) (k : Go G l mi n (x0 :: x1 :: x2 :: x3 :: x4 :: x5 :: .int v :: lv) st M Q) : Go G l mi pc (x0 :: x1 :: x2 :: x3 :: x4 :: x5 :: .int x :: lv) st M Q := by
  intro p e s m args below meth c dC dI cA ad A H locs ls hC hW hL
  subst hn
  obtain ⟨z, hz⟩ := List.getElem?_of_mem (asl_mem (ad := ad) (lv := x0 :: x1 :: x2 :: x3 :: x4 :: x5 :: .int x :: lv) (q := (6, .int x)) |>.mpr ⟨.int x, rfl, (fun h => by cases h), rfl⟩)
  exact lv_iinc (i := 6) hC.1 hC.2.1 hd hL hz hv (Nat.le_of_ble_eq_true hm) rfl (fun ls' hl' => k p e s m args below meth c dC dI cA ad A H locs ls' hC hW (lv_put1 (i := 6) (v := .int v) (lv := x0 :: x1 :: x2 :: x3 :: x4 :: x5 :: .int x :: lv) (fun u h0 hu => by (first | (cases hu; exact hp) | (exact absurd h0 (by decide)))) hl'))
theorem g_lload6 {G : Sh} {l : Launch} {mi : MI} {pc : Nat} {lv st : List Value} {M : Mm} {Q : Rr → Mm → Prop} {x0 x1 x2 x3 x4 x5 : Value} {x : Int64} (n : Nat) (hn : pc + 2 = n) (hd : decode (mBy mi) pc = .ok (.lload 6, 2)) (k : Go G l mi n (x0 :: x1 :: x2 :: x3 :: x4 :: x5 :: .long x :: lv) (.long x :: st) M Q) : Go G l mi pc (x0 :: x1 :: x2 :: x3 :: x4 :: x5 :: .long x :: lv) st M Q := by
  intro p e s m args below meth c dC dI cA ad A H locs ls hC hW hL
  subst hn
  exact lv_lload hC.1 hC.2.1 hd (lv_get (i := 6) (v := .long x) hL rfl (fun h => by cases h)) (k p e s m args below meth c dC dI cA ad A H locs ls hC hW hL)
theorem g_lstore6 {G : Sh} {l : Launch} {mi : MI} {pc : Nat} {lv st : List Value} {M : Mm} {Q : Rr → Mm → Prop} {x0 x1 x2 x3 x4 x5 : Value} {y z : Value} {x : Int64} (n : Nat) (hn : pc + 2 = n) (hd : decode (mBy mi) pc = .ok (.lstore 6, 2)) (hm : Nat.ble 8 (mMx mi) = true) (hp : x5.category = 1) (k : Go G l mi n (x0 :: x1 :: x2 :: x3 :: x4 :: x5 :: .long x :: .null :: lv) st M Q) : Go G l mi pc (x0 :: x1 :: x2 :: x3 :: x4 :: x5 :: y :: z :: lv) (.long x :: st) M Q := by
  intro p e s m args below meth c dC dI cA ad A H locs ls hC hW hL
  subst hn
  exact lv_lstore (i := 6) hC.1 hC.2.1 hd hL (Nat.le_of_ble_eq_true hm) rfl (fun ls' hl' => k p e s m args below meth c dC dI cA ad A H locs ls' hC hW (lv_put2 (i := 6) (v := .long x) (lv := x0 :: x1 :: x2 :: x3 :: x4 :: x5 :: y :: z :: lv) (fun u h0 hu => by (first | (cases hu; exact hp) | (exact absurd h0 (by decide)))) hl'))
theorem g_aload6 {G : Sh} {l : Launch} {mi : MI} {pc : Nat} {lv st : List Value} {M : Mm} {Q : Rr → Mm → Prop} {x0 x1 x2 x3 x4 x5 : Value} {x : Nat} (n : Nat) (hn : pc + 2 = n) (hd : decode (mBy mi) pc = .ok (.aload 6, 2)) (k : Go G l mi n (x0 :: x1 :: x2 :: x3 :: x4 :: x5 :: .ref x :: lv) (.ref x :: st) M Q) : Go G l mi pc (x0 :: x1 :: x2 :: x3 :: x4 :: x5 :: .ref x :: lv) st M Q := by
  intro p e s m args below meth c dC dI cA ad A H locs ls hC hW hL
  subst hn
  exact lv_aload hC.1 hC.2.1 hd (lv_get (i := 6) (v := .ref x) hL rfl (fun h => by cases h)) (k p e s m args below meth c dC dI cA ad A H locs ls hC hW hL)
theorem g_iload7 {G : Sh} {l : Launch} {mi : MI} {pc : Nat} {lv st : List Value} {M : Mm} {Q : Rr → Mm → Prop} {x0 x1 x2 x3 x4 x5 x6 : Value} {x : Int32} (n : Nat) (hn : pc + 2 = n) (hd : decode (mBy mi) pc = .ok (.iload 7, 2)) (k : Go G l mi n (x0 :: x1 :: x2 :: x3 :: x4 :: x5 :: x6 :: .int x :: lv) (.int x :: st) M Q) : Go G l mi pc (x0 :: x1 :: x2 :: x3 :: x4 :: x5 :: x6 :: .int x :: lv) st M Q := by
  intro p e s m args below meth c dC dI cA ad A H locs ls hC hW hL
  subst hn
  exact lv_iload hC.1 hC.2.1 hd (lv_get (i := 7) (v := .int x) hL rfl (fun h => by cases h)) (k p e s m args below meth c dC dI cA ad A H locs ls hC hW hL)
theorem g_istore7 {G : Sh} {l : Launch} {mi : MI} {pc : Nat} {lv st : List Value} {M : Mm} {Q : Rr → Mm → Prop} {x0 x1 x2 x3 x4 x5 x6 : Value} {y : Value} {x : Int32} (n : Nat) (hn : pc + 2 = n) (hd : decode (mBy mi) pc = .ok (.istore 7, 2)) (hm : Nat.ble 8 (mMx mi) = true) (hp : x6.category = 1) (k : Go G l mi n (x0 :: x1 :: x2 :: x3 :: x4 :: x5 :: x6 :: .int x :: lv) st M Q) : Go G l mi pc (x0 :: x1 :: x2 :: x3 :: x4 :: x5 :: x6 :: y :: lv) (.int x :: st) M Q := by
  intro p e s m args below meth c dC dI cA ad A H locs ls hC hW hL
  subst hn
  exact lv_istore (i := 7) hC.1 hC.2.1 hd hL (Nat.le_of_ble_eq_true hm) rfl (fun ls' hl' => k p e s m args below meth c dC dI cA ad A H locs ls' hC hW (lv_put1 (i := 7) (v := .int x) (lv := x0 :: x1 :: x2 :: x3 :: x4 :: x5 :: x6 :: y :: lv) (fun u h0 hu => by (first | (cases hu; exact hp) | (exact absurd h0 (by decide)))) hl'))
theorem g_iinc7 {G : Sh} {l : Launch} {mi : MI} {pc : Nat} {lv st : List Value} {M : Mm} {Q : Rr → Mm → Prop} {x0 x1 x2 x3 x4 x5 x6 : Value} {x : Int32} {a : Int} (n : Nat) (hn : pc + 3 = n) (hd : decode (mBy mi) pc = .ok (.iinc 7 a, 3)) (hm : Nat.ble 8 (mMx mi) = true) (hp : x6.category = 1) (v : Int32) (hv : x + Int32.ofInt a = v) (k : Go G l mi n (x0 :: x1 :: x2 :: x3 :: x4 :: x5 :: x6 :: .int v :: lv) st M Q) : Go G l mi pc (x0 :: x1 :: x2 :: x3 :: x4 :: x5 :: x6 :: .int x :: lv) st M Q := by
  intro p e s m args below meth c dC dI cA ad A H locs ls hC hW hL
  subst hn
  obtain ⟨z, hz⟩ := List.getElem?_of_mem (asl_mem (ad := ad) (lv := x0 :: x1 :: x2 :: x3 :: x4 :: x5 :: x6 :: .int x :: lv) (q := (7, .int x)) |>.mpr ⟨.int x, rfl, (fun h => by cases h), rfl⟩)
  exact lv_iinc (i := 7) hC.1 hC.2.1 hd hL hz hv (Nat.le_of_ble_eq_true hm) rfl (fun ls' hl' => k p e s m args below meth c dC dI cA ad A H locs ls' hC hW (lv_put1 (i := 7) (v := .int v) (lv := x0 :: x1 :: x2 :: x3 :: x4 :: x5 :: x6 :: .int x :: lv) (fun u h0 hu => by (first | (cases hu; exact hp) | (exact absurd h0 (by decide)))) hl'))
theorem g_lload7 {G : Sh} {l : Launch} {mi : MI} {pc : Nat} {lv st : List Value} {M : Mm} {Q : Rr → Mm → Prop} {x0 x1 x2 x3 x4 x5 x6 : Value} {x : Int64} (n : Nat) (hn : pc + 2 = n) (hd : decode (mBy mi) pc = .ok (.lload 7, 2)) (k : Go G l mi n (x0 :: x1 :: x2 :: x3 :: x4 :: x5 :: x6 :: .long x :: lv) (.long x :: st) M Q) : Go G l mi pc (x0 :: x1 :: x2 :: x3 :: x4 :: x5 :: x6 :: .long x :: lv) st M Q := by
  intro p e s m args below meth c dC dI cA ad A H locs ls hC hW hL
  subst hn
  exact lv_lload hC.1 hC.2.1 hd (lv_get (i := 7) (v := .long x) hL rfl (fun h => by cases h)) (k p e s m args below meth c dC dI cA ad A H locs ls hC hW hL)
theorem g_lstore7 {G : Sh} {l : Launch} {mi : MI} {pc : Nat} {lv st : List Value} {M : Mm} {Q : Rr → Mm → Prop} {x0 x1 x2 x3 x4 x5 x6 : Value} {y z : Value} {x : Int64} (n : Nat) (hn : pc + 2 = n) (hd : decode (mBy mi) pc = .ok (.lstore 7, 2)) (hm : Nat.ble 9 (mMx mi) = true) (hp : x6.category = 1) (k : Go G l mi n (x0 :: x1 :: x2 :: x3 :: x4 :: x5 :: x6 :: .long x :: .null :: lv) st M Q) : Go G l mi pc (x0 :: x1 :: x2 :: x3 :: x4 :: x5 :: x6 :: y :: z :: lv) (.long x :: st) M Q := by
  intro p e s m args below meth c dC dI cA ad A H locs ls hC hW hL
  subst hn
  exact lv_lstore (i := 7) hC.1 hC.2.1 hd hL (Nat.le_of_ble_eq_true hm) rfl (fun ls' hl' => k p e s m args below meth c dC dI cA ad A H locs ls' hC hW (lv_put2 (i := 7) (v := .long x) (lv := x0 :: x1 :: x2 :: x3 :: x4 :: x5 :: x6 :: y :: z :: lv) (fun u h0 hu => by (first | (cases hu; exact hp) | (exact absurd h0 (by decide)))) hl'))
theorem g_aload7 {G : Sh} {l : Launch} {mi : MI} {pc : Nat} {lv st : List Value} {M : Mm} {Q : Rr → Mm → Prop} {x0 x1 x2 x3 x4 x5 x6 : Value} {x : Nat} (n : Nat) (hn : pc + 2 = n) (hd : decode (mBy mi) pc = .ok (.aload 7, 2)) (k : Go G l mi n (x0 :: x1 :: x2 :: x3 :: x4 :: x5 :: x6 :: .ref x :: lv) (.ref x :: st) M Q) : Go G l mi pc (x0 :: x1 :: x2 :: x3 :: x4 :: x5 :: x6 :: .ref x :: lv) st M Q := by
  intro p e s m args below meth c dC dI cA ad A H locs ls hC hW hL
  subst hn
  exact lv_aload hC.1 hC.2.1 hd (lv_get (i := 7) (v := .ref x) hL rfl (fun h => by cases h)) (k p e s m args below meth c dC dI cA ad A H locs ls hC hW hL)
theorem g_iload8 {G : Sh} {l : Launch} {mi : MI} {pc : Nat} {lv st : List Value} {M : Mm} {Q : Rr → Mm → Prop} {x0 x1 x2 x3 x4 x5 x6 x7 : Value} {x : Int32} (n : Nat) (hn : pc + 2 = n) (hd : decode (mBy mi) pc = .ok (.iload 8, 2)) (k : Go G l mi n (x0 :: x1 :: x2 :: x3 :: x4 :: x5 :: x6 :: x7 :: .int x :: lv) (.int x :: st) M Q) : Go G l mi pc (x0 :: x1 :: x2 :: x3 :: x4 :: x5 :: x6 :: x7 :: .int x :: lv) st M Q := by
  intro p e s m args below meth c dC dI cA ad A H locs ls hC hW hL
  subst hn
  exact lv_iload hC.1 hC.2.1 hd (lv_get (i := 8) (v := .int x) hL rfl (fun h => by cases h)) (k p e s m args below meth c dC dI cA ad A H locs ls hC hW hL)
theorem g_istore8 {G : Sh} {l : Launch} {mi : MI} {pc : Nat} {lv st : List Value} {M : Mm} {Q : Rr → Mm → Prop} {x0 x1 x2 x3 x4 x5 x6 x7 : Value} {y : Value} {x : Int32} (n : Nat) (hn : pc + 2 = n) (hd : decode (mBy mi) pc = .ok (.istore 8, 2)) (hm : Nat.ble 9 (mMx mi) = true) (hp : x7.category = 1) (k : Go G l mi n (x0 :: x1 :: x2 :: x3 :: x4 :: x5 :: x6 :: x7 :: .int x :: lv) st M Q) : Go G l mi pc (x0 :: x1 :: x2 :: x3 :: x4 :: x5 :: x6 :: x7 :: y :: lv) (.int x :: st) M Q := by
  intro p e s m args below meth c dC dI cA ad A H locs ls hC hW hL
  subst hn
  exact lv_istore (i := 8) hC.1 hC.2.1 hd hL (Nat.le_of_ble_eq_true hm) rfl (fun ls' hl' => k p e s m args below meth c dC dI cA ad A H locs ls' hC hW (lv_put1 (i := 8) (v := .int x) (lv := x0 :: x1 :: x2 :: x3 :: x4 :: x5 :: x6 :: x7 :: y :: lv) (fun u h0 hu => by (first | (cases hu; exact hp) | (exact absurd h0 (by decide)))) hl'))
theorem g_iinc8 {G : Sh} {l : Launch} {mi : MI} {pc : Nat} {lv st : List Value} {M : Mm} {Q : Rr → Mm → Prop} {x0 x1 x2 x3 x4 x5 x6 x7 : Value} {x : Int32} {a : Int} (n : Nat) (hn : pc + 3 = n) (hd : decode (mBy mi) pc = .ok (.iinc 8 a, 3)) (hm : Nat.ble 9 (mMx mi) = true) (hp : x7.category = 1) (v : Int32) (hv : x + Int32.ofInt a = v) (k : Go G l mi n (x0 :: x1 :: x2 :: x3 :: x4 :: x5 :: x6 :: x7 :: .int v :: lv) st M Q) : Go G l mi pc (x0 :: x1 :: x2 :: x3 :: x4 :: x5 :: x6 :: x7 :: .int x :: lv) st M Q := by
  intro p e s m args below meth c dC dI cA ad A H locs ls hC hW hL
  subst hn
  obtain ⟨z, hz⟩ := List.getElem?_of_mem (asl_mem (ad := ad) (lv := x0 :: x1 :: x2 :: x3 :: x4 :: x5 :: x6 :: x7 :: .int x :: lv) (q := (8, .int x)) |>.mpr ⟨.int x, rfl, (fun h => by cases h), rfl⟩)
  exact lv_iinc (i := 8) hC.1 hC.2.1 hd hL hz hv (Nat.le_of_ble_eq_true hm) rfl (fun ls' hl' => k p e s m args below meth c dC dI cA ad A H locs ls' hC hW (lv_put1 (i := 8) (v := .int v) (lv := x0 :: x1 :: x2 :: x3 :: x4 :: x5 :: x6 :: x7 :: .int x :: lv) (fun u h0 hu => by (first | (cases hu; exact hp) | (exact absurd h0 (by decide)))) hl'))
theorem g_lload8 {G : Sh} {l : Launch} {mi : MI} {pc : Nat} {lv st : List Value} {M : Mm} {Q : Rr → Mm → Prop} {x0 x1 x2 x3 x4 x5 x6 x7 : Value} {x : Int64} (n : Nat) (hn : pc + 2 = n) (hd : decode (mBy mi) pc = .ok (.lload 8, 2)) (k : Go G l mi n (x0 :: x1 :: x2 :: x3 :: x4 :: x5 :: x6 :: x7 :: .long x :: lv) (.long x :: st) M Q) : Go G l mi pc (x0 :: x1 :: x2 :: x3 :: x4 :: x5 :: x6 :: x7 :: .long x :: lv) st M Q := by
  intro p e s m args below meth c dC dI cA ad A H locs ls hC hW hL
  subst hn
  exact lv_lload hC.1 hC.2.1 hd (lv_get (i := 8) (v := .long x) hL rfl (fun h => by cases h)) (k p e s m args below meth c dC dI cA ad A H locs ls hC hW hL)
theorem g_lstore8 {G : Sh} {l : Launch} {mi : MI} {pc : Nat} {lv st : List Value} {M : Mm} {Q : Rr → Mm → Prop} {x0 x1 x2 x3 x4 x5 x6 x7 : Value} {y z : Value} {x : Int64} (n : Nat) (hn : pc + 2 = n) (hd : decode (mBy mi) pc = .ok (.lstore 8, 2)) (hm : Nat.ble 10 (mMx mi) = true) (hp : x7.category = 1) (k : Go G l mi n (x0 :: x1 :: x2 :: x3 :: x4 :: x5 :: x6 :: x7 :: .long x :: .null :: lv) st M Q) : Go G l mi pc (x0 :: x1 :: x2 :: x3 :: x4 :: x5 :: x6 :: x7 :: y :: z :: lv) (.long x :: st) M Q := by
  intro p e s m args below meth c dC dI cA ad A H locs ls hC hW hL
  subst hn
  exact lv_lstore (i := 8) hC.1 hC.2.1 hd hL (Nat.le_of_ble_eq_true hm) rfl (fun ls' hl' => k p e s m args below meth c dC dI cA ad A H locs ls' hC hW (lv_put2 (i := 8) (v := .long x) (lv := x0 :: x1 :: x2 :: x3 :: x4 :: x5 :: x6 :: x7 :: y :: z :: lv) (fun u h0 hu => by (first | (cases hu; exact hp) | (exact absurd h0 (by decide)))) hl'))
theorem g_aload8 {G : Sh} {l : Launch} {mi : MI} {pc : Nat} {lv st : List Value} {M : Mm} {Q : Rr → Mm → Prop} {x0 x1 x2 x3 x4 x5 x6 x7 : Value} {x : Nat} (n : Nat) (hn : pc + 2 = n) (hd : decode (mBy mi) pc = .ok (.aload 8, 2)) (k : Go G l mi n (x0 :: x1 :: x2 :: x3 :: x4 :: x5 :: x6 :: x7 :: .ref x :: lv) (.ref x :: st) M Q) : Go G l mi pc (x0 :: x1 :: x2 :: x3 :: x4 :: x5 :: x6 :: x7 :: .ref x :: lv) st M Q := by
  intro p e s m args below meth c dC dI cA ad A H locs ls hC hW hL
  subst hn
  exact lv_aload hC.1 hC.2.1 hd (lv_get (i := 8) (v := .ref x) hL rfl (fun h => by cases h)) (k p e s m args below meth c dC dI cA ad A H locs ls hC hW hL)
theorem g_iload9 {G : Sh} {l : Launch} {mi : MI} {pc : Nat} {lv st : List Value} {M : Mm} {Q : Rr → Mm → Prop} {x0 x1 x2 x3 x4 x5 x6 x7 x8 : Value} {x : Int32} (n : Nat) (hn : pc + 2 = n) (hd : decode (mBy mi) pc = .ok (.iload 9, 2)) (k : Go G l mi n (x0 :: x1 :: x2 :: x3 :: x4 :: x5 :: x6 :: x7 :: x8 :: .int x :: lv) (.int x :: st) M Q) : Go G l mi pc (x0 :: x1 :: x2 :: x3 :: x4 :: x5 :: x6 :: x7 :: x8 :: .int x :: lv) st M Q := by
  intro p e s m args below meth c dC dI cA ad A H locs ls hC hW hL
  subst hn
  exact lv_iload hC.1 hC.2.1 hd (lv_get (i := 9) (v := .int x) hL rfl (fun h => by cases h)) (k p e s m args below meth c dC dI cA ad A H locs ls hC hW hL)
theorem g_istore9 {G : Sh} {l : Launch} {mi : MI} {pc : Nat} {lv st : List Value} {M : Mm} {Q : Rr → Mm → Prop} {x0 x1 x2 x3 x4 x5 x6 x7 x8 : Value} {y : Value} {x : Int32} (n : Nat) (hn : pc + 2 = n) (hd : decode (mBy mi) pc = .ok (.istore 9, 2)) (hm : Nat.ble 10 (mMx mi) = true) (hp : x8.category = 1) (k : Go G l mi n (x0 :: x1 :: x2 :: x3 :: x4 :: x5 :: x6 :: x7 :: x8 :: .int x :: lv) st M Q) : Go G l mi pc (x0 :: x1 :: x2 :: x3 :: x4 :: x5 :: x6 :: x7 :: x8 :: y :: lv) (.int x :: st) M Q := by
  intro p e s m args below meth c dC dI cA ad A H locs ls hC hW hL
  subst hn
  exact lv_istore (i := 9) hC.1 hC.2.1 hd hL (Nat.le_of_ble_eq_true hm) rfl (fun ls' hl' => k p e s m args below meth c dC dI cA ad A H locs ls' hC hW (lv_put1 (i := 9) (v := .int x) (lv := x0 :: x1 :: x2 :: x3 :: x4 :: x5 :: x6 :: x7 :: x8 :: y :: lv) (fun u h0 hu => by (first | (cases hu; exact hp) | (exact absurd h0 (by decide)))) hl'))
theorem g_iinc9 {G : Sh} {l : Launch} {mi : MI} {pc : Nat} {lv st : List Value} {M : Mm} {Q : Rr → Mm → Prop} {x0 x1 x2 x3 x4 x5 x6 x7 x8 : Value} {x : Int32} {a : Int} (n : Nat) (hn : pc + 3 = n) (hd : decode (mBy mi) pc = .ok (.iinc 9 a, 3)) (hm : Nat.ble 10 (mMx mi) = true) (hp : x8.category = 1) (v : Int32) (hv : x + Int32.ofInt a = v) (k : Go G l mi n (x0 :: x1 :: x2 :: x3 :: x4 :: x5 :: x6 :: x7 :: x8 :: .int v :: lv) st M Q) : Go G l mi pc (x0 :: x1 :: x2 :: x3 :: x4 :: x5 :: x6 :: x7 :: x8 :: .int x :: lv) st M Q := by
  intro p e s m args below meth c dC dI cA ad A H locs ls hC hW hL
  subst hn
  obtain ⟨z, hz⟩ := List.getElem?_of_mem (asl_mem (ad := ad) (lv := x0 :: x1 :: x2 :: x3 :: x4 :: x5 :: x6 :: x7 :: x8 :: .int x :: lv) (q := (9, .int x)) |>.mpr ⟨.int x, rfl, (fun h => by cases h), rfl⟩)
  exact lv_iinc (i := 9) hC.1 hC.2.1 hd hL hz hv (Nat.le_of_ble_eq_true hm) rfl (fun ls' hl' => k p e s m args below meth c dC dI cA ad A H locs ls' hC hW (lv_put1 (i := 9) (v := .int v) (lv := x0 :: x1 :: x2 :: x3 :: x4 :: x5 :: x6 :: x7 :: x8 :: .int x :: lv) (fun u h0 hu => by (first | (cases hu; exact hp) | (exact absurd h0 (by decide)))) hl'))
theorem g_lload9 {G : Sh} {l : Launch} {mi : MI} {pc : Nat} {lv st : List Value} {M : Mm} {Q : Rr → Mm → Prop} {x0 x1 x2 x3 x4 x5 x6 x7 x8 : Value} {x : Int64} (n : Nat) (hn : pc + 2 = n) (hd : decode (mBy mi) pc = .ok (.lload 9, 2)) (k : Go G l mi n (x0 :: x1 :: x2 :: x3 :: x4 :: x5 :: x6 :: x7 :: x8 :: .long x :: lv) (.long x :: st) M Q) : Go G l mi pc (x0 :: x1 :: x2 :: x3 :: x4 :: x5 :: x6 :: x7 :: x8 :: .long x :: lv) st M Q := by
  intro p e s m args below meth c dC dI cA ad A H locs ls hC hW hL
  subst hn
  exact lv_lload hC.1 hC.2.1 hd (lv_get (i := 9) (v := .long x) hL rfl (fun h => by cases h)) (k p e s m args below meth c dC dI cA ad A H locs ls hC hW hL)
theorem g_lstore9 {G : Sh} {l : Launch} {mi : MI} {pc : Nat} {lv st : List Value} {M : Mm} {Q : Rr → Mm → Prop} {x0 x1 x2 x3 x4 x5 x6 x7 x8 : Value} {y z : Value} {x : Int64} (n : Nat) (hn : pc + 2 = n) (hd : decode (mBy mi) pc = .ok (.lstore 9, 2)) (hm : Nat.ble 11 (mMx mi) = true) (hp : x8.category = 1) (k : Go G l mi n (x0 :: x1 :: x2 :: x3 :: x4 :: x5 :: x6 :: x7 :: x8 :: .long x :: .null :: lv) st M Q) : Go G l mi pc (x0 :: x1 :: x2 :: x3 :: x4 :: x5 :: x6 :: x7 :: x8 :: y :: z :: lv) (.long x :: st) M Q := by
  intro p e s m args below meth c dC dI cA ad A H locs ls hC hW hL
  subst hn
  exact lv_lstore (i := 9) hC.1 hC.2.1 hd hL (Nat.le_of_ble_eq_true hm) rfl (fun ls' hl' => k p e s m args below meth c dC dI cA ad A H locs ls' hC hW (lv_put2 (i := 9) (v := .long x) (lv := x0 :: x1 :: x2 :: x3 :: x4 :: x5 :: x6 :: x7 :: x8 :: y :: z :: lv) (fun u h0 hu => by (first | (cases hu; exact hp) | (exact absurd h0 (by decide)))) hl'))
theorem g_aload9 {G : Sh} {l : Launch} {mi : MI} {pc : Nat} {lv st : List Value} {M : Mm} {Q : Rr → Mm → Prop} {x0 x1 x2 x3 x4 x5 x6 x7 x8 : Value} {x : Nat} (n : Nat) (hn : pc + 2 = n) (hd : decode (mBy mi) pc = .ok (.aload 9, 2)) (k : Go G l mi n (x0 :: x1 :: x2 :: x3 :: x4 :: x5 :: x6 :: x7 :: x8 :: .ref x :: lv) (.ref x :: st) M Q) : Go G l mi pc (x0 :: x1 :: x2 :: x3 :: x4 :: x5 :: x6 :: x7 :: x8 :: .ref x :: lv) st M Q := by
  intro p e s m args below meth c dC dI cA ad A H locs ls hC hW hL
  subst hn
  exact lv_aload hC.1 hC.2.1 hd (lv_get (i := 9) (v := .ref x) hL rfl (fun h => by cases h)) (k p e s m args below meth c dC dI cA ad A H locs ls hC hW hL)
theorem g_iload10 {G : Sh} {l : Launch} {mi : MI} {pc : Nat} {lv st : List Value} {M : Mm} {Q : Rr → Mm → Prop} {x0 x1 x2 x3 x4 x5 x6 x7 x8 x9 : Value} {x : Int32} (n : Nat) (hn : pc + 2 = n) (hd : decode (mBy mi) pc = .ok (.iload 10, 2)) (k : Go G l mi n (x0 :: x1 :: x2 :: x3 :: x4 :: x5 :: x6 :: x7 :: x8 :: x9 :: .int x :: lv) (.int x :: st) M Q) : Go G l mi pc (x0 :: x1 :: x2 :: x3 :: x4 :: x5 :: x6 :: x7 :: x8 :: x9 :: .int x :: lv) st M Q := by
  intro p e s m args below meth c dC dI cA ad A H locs ls hC hW hL
  subst hn
  exact lv_iload hC.1 hC.2.1 hd (lv_get (i := 10) (v := .int x) hL rfl (fun h => by cases h)) (k p e s m args below meth c dC dI cA ad A H locs ls hC hW hL)
theorem g_istore10 {G : Sh} {l : Launch} {mi : MI} {pc : Nat} {lv st : List Value} {M : Mm} {Q : Rr → Mm → Prop} {x0 x1 x2 x3 x4 x5 x6 x7 x8 x9 : Value} {y : Value} {x : Int32} (n : Nat) (hn : pc + 2 = n) (hd : decode (mBy mi) pc = .ok (.istore 10, 2)) (hm : Nat.ble 11 (mMx mi) = true) (hp : x9.category = 1) (k : Go G l mi n (x0 :: x1 :: x2 :: x3 :: x4 :: x5 :: x6 :: x7 :: x8 :: x9 :: .int x :: lv) st M Q) : Go G l mi pc (x0 :: x1 :: x2 :: x3 :: x4 :: x5 :: x6 :: x7 :: x8 :: x9 :: y :: lv) (.int x :: st) M Q := by
  intro p e s m args below meth c dC dI cA ad A H locs ls hC hW hL
  subst hn
  exact lv_istore (i := 10) hC.1 hC.2.1 hd hL (Nat.le_of_ble_eq_true hm) rfl (fun ls' hl' => k p e s m args below meth c dC dI cA ad A H locs ls' hC hW (lv_put1 (i := 10) (v := .int x) (lv := x0 :: x1 :: x2 :: x3 :: x4 :: x5 :: x6 :: x7 :: x8 :: x9 :: y :: lv) (fun u h0 hu => by (first | (cases hu; exact hp) | (exact absurd h0 (by decide)))) hl'))
theorem g_iinc10 {G : Sh} {l : Launch} {mi : MI} {pc : Nat} {lv st : List Value} {M : Mm} {Q : Rr → Mm → Prop} {x0 x1 x2 x3 x4 x5 x6 x7 x8 x9 : Value} {x : Int32} {a : Int} (n : Nat) (hn : pc + 3 = n) (hd : decode (mBy mi) pc = .ok (.iinc 10 a, 3)) (hm : Nat.ble 11 (mMx mi) = true) (hp : x9.category = 1) (v : Int32) (hv : x + Int32.ofInt a = v) (k : Go G l mi n (x0 :: x1 :: x2 :: x3 :: x4 :: x5 :: x6 :: x7 :: x8 :: x9 :: .int v :: lv) st M Q) : Go G l mi pc (x0 :: x1 :: x2 :: x3 :: x4 :: x5 :: x6 :: x7 :: x8 :: x9 :: .int x :: lv) st M Q := by
  intro p e s m args below meth c dC dI cA ad A H locs ls hC hW hL
  subst hn
  obtain ⟨z, hz⟩ := List.getElem?_of_mem (asl_mem (ad := ad) (lv := x0 :: x1 :: x2 :: x3 :: x4 :: x5 :: x6 :: x7 :: x8 :: x9 :: .int x :: lv) (q := (10, .int x)) |>.mpr ⟨.int x, rfl, (fun h => by cases h), rfl⟩)
  exact lv_iinc (i := 10) hC.1 hC.2.1 hd hL hz hv (Nat.le_of_ble_eq_true hm) rfl (fun ls' hl' => k p e s m args below meth c dC dI cA ad A H locs ls' hC hW (lv_put1 (i := 10) (v := .int v) (lv := x0 :: x1 :: x2 :: x3 :: x4 :: x5 :: x6 :: x7 :: x8 :: x9 :: .int x :: lv) (fun u h0 hu => by (first | (cases hu; exact hp) | (exact absurd h0 (by decide)))) hl'))
theorem g_lload10 {G : Sh} {l : Launch} {mi : MI} {pc : Nat} {lv st : List Value} {M : Mm} {Q : Rr → Mm → Prop} {x0 x1 x2 x3 x4 x5 x6 x7 x8 x9 : Value} {x : Int64} (n : Nat) (hn : pc + 2 = n) (hd : decode (mBy mi) pc = .ok (.lload 10, 2)) (k : Go G l mi n (x0 :: x1 :: x2 :: x3 :: x4 :: x5 :: x6 :: x7 :: x8 :: x9 :: .long x :: lv) (.long x :: st) M Q) : Go G l mi pc (x0 :: x1 :: x2 :: x3 :: x4 :: x5 :: x6 :: x7 :: x8 :: x9 :: .long x :: lv) st M Q := by
  intro p e s m args below meth c dC dI cA ad A H locs ls hC hW hL
  subst hn
  exact lv_lload hC.1 hC.2.1 hd (lv_get (i := 10) (v := .long x) hL rfl (fun h => by cases h)) (k p e s m args below meth c dC dI cA ad A H locs ls hC hW hL)
theorem g_lstore10 {G : Sh} {l : Launch} {mi : MI} {pc : Nat} {lv st : List Value} {M : Mm} {Q : Rr → Mm → Prop} {x0 x1 x2 x3 x4 x5 x6 x7 x8 x9 : Value} {y z : Value} {x : Int64} (n : Nat) (hn : pc + 2 = n) (hd : decode (mBy mi) pc = .ok (.lstore 10, 2)) (hm : Nat.ble 12 (mMx mi) = true) (hp : x9.category = 1) (k : Go G l mi n (x0 :: x1 :: x2 :: x3 :: x4 :: x5 :: x6 :: x7 :: x8 :: x9 :: .long x :: .null :: lv) st M Q) : Go G l mi pc (x0 :: x1 :: x2 :: x3 :: x4 :: x5 :: x6 :: x7 :: x8 :: x9 :: y :: z :: lv) (.long x :: st) M Q := by
  intro p e s m args below meth c dC dI cA ad A H locs ls hC hW hL
  subst hn
  exact lv_lstore (i := 10) hC.1 hC.2.1 hd hL (Nat.le_of_ble_eq_true hm) rfl (fun ls' hl' => k p e s m args below meth c dC dI cA ad A H locs ls' hC hW (lv_put2 (i := 10) (v := .long x) (lv := x0 :: x1 :: x2 :: x3 :: x4 :: x5 :: x6 :: x7 :: x8 :: x9 :: y :: z :: lv) (fun u h0 hu => by (first | (cases hu; exact hp) | (exact absurd h0 (by decide)))) hl'))
theorem g_aload10 {G : Sh} {l : Launch} {mi : MI} {pc : Nat} {lv st : List Value} {M : Mm} {Q : Rr → Mm → Prop} {x0 x1 x2 x3 x4 x5 x6 x7 x8 x9 : Value} {x : Nat} (n : Nat) (hn : pc + 2 = n) (hd : decode (mBy mi) pc = .ok (.aload 10, 2)) (k : Go G l mi n (x0 :: x1 :: x2 :: x3 :: x4 :: x5 :: x6 :: x7 :: x8 :: x9 :: .ref x :: lv) (.ref x :: st) M Q) : Go G l mi pc (x0 :: x1 :: x2 :: x3 :: x4 :: x5 :: x6 :: x7 :: x8 :: x9 :: .ref x :: lv) st M Q := by
  intro p e s m args below meth c dC dI cA ad A H locs ls hC hW hL
  subst hn
  exact lv_aload hC.1 hC.2.1 hd (lv_get (i := 10) (v := .ref x) hL rfl (fun h => by cases h)) (k p e s m args below meth c dC dI cA ad A H locs ls hC hW hL)
theorem g_iload11 {G : Sh} {l : Launch} {mi : MI} {pc : Nat} {lv st : List Value} {M : Mm} {Q : Rr → Mm → Prop} {x0 x1 x2 x3 x4 x5 x6 x7 x8 x9 x10 : Value} {x : Int32} (n : Nat) (hn : pc + 2 = n) (hd : decode (mBy mi) pc = .ok (.iload 11, 2)) (k : Go G l mi n (x0 :: x1 :: x2 :: x3 :: x4 :: x5 :: x6 :: x7 :: x8 :: x9 :: x10 :: .int x :: lv) (.int x :: st) M Q) : Go G l mi pc (x0 :: x1 :: x2 :: x3 :: x4 :: x5 :: x6 :: x7 :: x8 :: x9 :: x10 :: .int x :: lv) st M Q := by
  intro p e s m args below meth c dC dI cA ad A H locs ls hC hW hL
  subst hn
  exact lv_iload hC.1 hC.2.1 hd (lv_get (i := 11) (v := .int x) hL rfl (fun h => by cases h)) (k p e s m args below meth c dC dI cA ad A H locs ls hC hW hL)
theorem g_istore11 {G : Sh} {l : Launch} {mi : MI} {pc : Nat} {lv st : List Value} {M : Mm} {Q : Rr → Mm → Prop} {x0 x1 x2 x3 x4 x5 x6 x7 x8 x9 x10 : Value} {y : Value} {x : Int32} (n : Nat) (hn : pc + 2 = n) (hd : decode (mBy mi) pc = .ok (.istore 11, 2)) (hm : Nat.ble 12 (mMx mi) = true) (hp : x10.category = 1) (k : Go G l mi n (x0 :: x1 :: x2 :: x3 :: x4 :: x5 :: x6 :: x7 :: x8 :: x9 :: x10 :: .int x :: lv) st M Q) : Go G l mi pc (x0 :: x1 :: x2 :: x3 :: x4 :: x5 :: x6 :: x7 :: x8 :: x9 :: x10 :: y :: lv) (.int x :: st) M Q := by
  intro p e s m args below meth c dC dI cA ad A H locs ls hC hW hL
  subst hn
  exact lv_istore (i := 11) hC.1 hC.2.1 hd hL (Nat.le_of_ble_eq_true hm) rfl (fun ls' hl' => k p e s m args below meth c dC dI cA ad A H locs ls' hC hW (lv_put1 (i := 11) (v := .int x) (lv := x0 :: x1 :: x2 :: x3 :: x4 :: x5 :: x6 :: x7 :: x8 :: x9 :: x10 :: y :: lv) (fun u h0 hu => by (first | (cases hu; exact hp) | (exact absurd h0 (by decide)))) hl'))
theorem g_iinc11 {G : Sh} {l : Launch} {mi : MI} {pc : Nat} {lv st : List Value} {M : Mm} {Q : Rr → Mm → Prop} {x0 x1 x2 x3 x4 x5 x6 x7 x8 x9 x10 : Value} {x : Int32} {a : Int} (n : Nat) (hn : pc + 3 = n) (hd : decode (mBy mi) pc = .ok (.iinc 11 a, 3)) (hm : Nat.ble 12 (mMx mi) = true) (hp : x10.category = 1) (v : Int32) (hv : x + Int32.ofInt a = v) (k : Go G l mi n (x0 :: x1 :: x2 :: x3 :: x4 :: x5 :: x6 :: x7 :: x8 :: x9 :: x10 :: .int v :: lv) st M Q) : Go G l mi pc (x0 :: x1 :: x2 :: x3 :: x4 :: x5 :: x6 :: x7 :: x8 :: x9 :: x10 :: .int x :: lv) st M Q := by
  intro p e s m args below meth c dC dI cA ad A H locs ls hC hW hL
  subst hn
  obtain ⟨z, hz⟩ := List.getElem?_of_mem (asl_mem (ad := ad) (lv := x0 :: x1 :: x2 :: x3 :: x4 :: x5 :: x6 :: x7 :: x8 :: x9 :: x10 :: .int x :: lv) (q := (11, .int x)) |>.mpr ⟨.int x, rfl, (fun h => by cases h), rfl⟩)
  exact lv_iinc (i := 11) hC.1 hC.2.1 hd hL hz hv (Nat.le_of_ble_eq_true hm) rfl (fun ls' hl' => k p e s m args below meth c dC dI cA ad A H locs ls' hC hW (lv_put1 (i := 11) (v := .int v) (lv := x0 :: x1 :: x2 :: x3 :: x4 :: x5 :: x6 :: x7 :: x8 :: x9 :: x10 :: .int x :: lv) (fun u h0 hu => by (first | (cases hu; exact hp) | (exact absurd h0 (by decide)))) hl'))
theorem g_lload11 {G : Sh} {l : Launch} {mi : MI} {pc : Nat} {lv st : List Value} {M : Mm} {Q : Rr → Mm → Prop} {x0 x1 x2 x3 x4 x5 x6 x7 x8 x9 x10 : Value} {x : Int64} (n : Nat) (hn : pc + 2 = n) (hd : decode (mBy mi) pc = .ok (.lload 11, 2)) (k : Go G l mi n (x0 :: x1 :: x2 :: x3 :: x4 :: x5 :: x6 :: x7 :: x8 :: x9 :: x10 :: .long x :: lv) (.long x :: st) M Q) : Go G l mi pc (x0 :: x1 :: x2 :: x3 :: x4 :: x5 :: x6 :: x7 :: x8 :: x9 :: x10 :: .long x :: lv) st M Q := by
  intro p e s m args below meth c dC dI cA ad A H locs ls hC hW hL
  subst hn
  exact lv_lload hC.1 hC.2.1 hd (lv_get (i := 11) (v := .long x) hL rfl (fun h => by cases h)) (k p e s m args below meth c dC dI cA ad A H locs ls hC hW hL)
theorem g_lstore11 {G : Sh} {l : Launch} {mi : MI} {pc : Nat} {lv st : List Value} {M : Mm} {Q : Rr → Mm → Prop} {x0 x1 x2 x3 x4 x5 x6 x7 x8 x9 x10 : Value} {y z : Value} {x : Int64} (n : Nat) (hn : pc + 2 = n) (hd : decode (mBy mi) pc = .ok (.lstore 11, 2)) (hm : Nat.ble 13 (mMx mi) = true) (hp : x10.category = 1) (k : Go G l mi n (x0 :: x1 :: x2 :: x3 :: x4 :: x5 :: x6 :: x7 :: x8 :: x9 :: x10 :: .long x :: .null :: lv) st M Q) : Go G l mi pc (x0 :: x1 :: x2 :: x3 :: x4 :: x5 :: x6 :: x7 :: x8 :: x9 :: x10 :: y :: z :: lv) (.long x :: st) M Q := by
  intro p e s m args below meth c dC dI cA ad A H locs ls hC hW hL
  subst hn
  exact lv_lstore (i := 11) hC.1 hC.2.1 hd hL (Nat.le_of_ble_eq_true hm) rfl (fun ls' hl' => k p e s m args below meth c dC dI cA ad A H locs ls' hC hW (lv_put2 (i := 11) (v := .long x) (lv := x0 :: x1 :: x2 :: x3 :: x4 :: x5 :: x6 :: x7 :: x8 :: x9 :: x10 :: y :: z :: lv) (fun u h0 hu => by (first | (cases hu; exact hp) | (exact absurd h0 (by decide)))) hl'))
theorem g_aload11 {G : Sh} {l : Launch} {mi : MI} {pc : Nat} {lv st : List Value} {M : Mm} {Q : Rr → Mm → Prop} {x0 x1 x2 x3 x4 x5 x6 x7 x8 x9 x10 : Value} {x : Nat} (n : Nat) (hn : pc + 2 = n) (hd : decode (mBy mi) pc = .ok (.aload 11, 2)) (k : Go G l mi n (x0 :: x1 :: x2 :: x3 :: x4 :: x5 :: x6 :: x7 :: x8 :: x9 :: x10 :: .ref x :: lv) (.ref x :: st) M Q) : Go G l mi pc (x0 :: x1 :: x2 :: x3 :: x4 :: x5 :: x6 :: x7 :: x8 :: x9 :: x10 :: .ref x :: lv) st M Q := by
  intro p e s m args below meth c dC dI cA ad A H locs ls hC hW hL
  subst hn
  exact lv_aload hC.1 hC.2.1 hd (lv_get (i := 11) (v := .ref x) hL rfl (fun h => by cases h)) (k p e s m args below meth c dC dI cA ad A H locs ls hC hW hL)
theorem g_iload12 {G : Sh} {l : Launch} {mi : MI} {pc : Nat} {lv st : List Value} {M : Mm} {Q : Rr → Mm → Prop} {x0 x1 x2 x3 x4 x5 x6 x7 x8 x9 x10 x11 : Value} {x : Int32} (n : Nat) (hn : pc + 2 = n) (hd : decode (mBy mi) pc = .ok (.iload 12, 2)) (k : Go G l mi n (x0 :: x1 :: x2 :: x3 :: x4 :: x5 :: x6 :: x7 :: x8 :: x9 :: x10 :: x11 :: .int x :: lv) (.int x :: st) M Q) : Go G l mi pc (x0 :: x1 :: x2 :: x3 :: x4 :: x5 :: x6 :: x7 :: x8 :: x9 :: x10 :: x11 :: .int x :: lv) st M Q := by
  intro p e s m args below meth c dC dI cA ad A H locs ls hC hW hL
  subst hn
  exact lv_iload hC.1 hC.2.1 hd (lv_get (i := 12) (v := .int x) hL rfl (fun h => by cases h)) (k p e s m args below meth c dC dI cA ad A H locs ls hC hW hL)
theorem g_istore12 {G : Sh} {l : Launch} {mi : MI} {pc : Nat} {lv st : List Value} {M : Mm} {Q : Rr → Mm → Prop} {x0 x1 x2 x3 x4 x5 x6 x7 x8 x9 x10 x11 : Value} {y : Value} {x : Int32} (n : Nat) (hn : pc + 2 = n) (hd : decode (mBy mi) pc = .ok (.istore 12, 2)) (hm : Nat.ble 13 (mMx mi) = true) (hp : x11.category = 1) (k : Go G l mi n (x0 :: x1 :: x2 :: x3 :: x4 :: x5 :: x6 :: x7 :: x8 :: x9 :: x10 :: x11 :: .int x :: lv) st M Q) : Go G l mi pc (x0 :: x1 :: x2 :: x3 :: x4 :: x5 :: x6 :: x7 :: x8 :: x9 :: x10 :: x11 :: y :: lv) (.int x :: st) M Q := by
  intro p e s m args below meth c dC dI cA ad A H locs ls hC hW hL
  subst hn
  exact lv_istore (i := 12) hC.1 hC.2.1 hd hL (Nat.le_of_ble_eq_true hm) rfl (fun ls' hl' => k p e s m args below meth c dC dI cA ad A H locs ls' hC hW (lv_put1 (i := 12) (v := .int x) (lv := x0 :: x1 :: x2 :: x3 :: x4 :: x5 :: x6 :: x7 :: x8 :: x9 :: x10 :: x11 :: y :: lv) (fun u h0 hu => by (first | (cases hu; exact hp) | (exact absurd h0 (by decide)))) hl'))
theorem g_iinc12 {G : Sh} {l : Launch} {mi : MI} {pc : Nat} {lv st : List Value} {M : Mm} {Q : Rr → Mm → Prop} {x0 x1 x2 x3 x4 x5 x6 x7 x8 x9 x10 x11 : Value} {x : Int32} {a : Int} (n : Nat) (hn : pc + 3 = n) (hd : decode (mBy mi) pc = .ok (.iinc 12 a, 3)) (hm : Nat.ble 13 (mMx mi) = true) (hp : x11.category = 1) (v : Int32) (hv : x + Int32.ofInt a = v) (k : Go G l mi n (x0 :: x1 :: x2 :: x3 :: x4 :: x5 :: x6 :: x7 :: x8 :: x9 :: x10 :: x11 :: .int v :: lv) st M Q) : Go G l mi pc (x0 :: x1 :: x2 :: x3 :: x4 :: x5 :: x6 :: x7 :: x8 :: x9 :: x10 :: x11 :: .int x :: lv) st M Q := by
  intro p e s m args below meth c dC dI cA ad A H locs ls hC hW hL
  subst hn
  obtain ⟨z, hz⟩ := List.getElem?_of_mem (asl_mem (ad := ad) (lv := x0 :: x1 :: x2 :: x3 :: x4 :: x5 :: x6 :: x7 :: x8 :: x9 :: x10 :: x11 :: .int x :: lv) (q := (12, .int x)) |>.mpr ⟨.int x, rfl, (fun h => by cases h), rfl⟩)
  exact lv_iinc (i := 12) hC.1 hC.2.1 hd hL hz hv (Nat.le_of_ble_eq_true hm) rfl (fun ls' hl' => k p e s m args below meth c dC dI cA ad A H locs ls' hC hW (lv_put1 (i := 12) (v := .int v) (lv := x0 :: x1 :: x2 :: x3 :: x4 :: x5 :: x6 :: x7 :: x8 :: x9 :: x10 :: x11 :: .int x :: lv) (fun u h0 hu => by (first | (cases hu; exact hp) | (exact absurd h0 (by decide)))) hl'))
theorem g_lload12 {G : Sh} {l : Launch} {mi : MI} {pc : Nat} {lv st : List Value} {M : Mm} {Q : Rr → Mm → Prop} {x0 x1 x2 x3 x4 x5 x6 x7 x8 x9 x10 x11 : Value} {x : Int64} (n : Nat) (hn : pc + 2 = n) (hd : decode (mBy mi) pc = .ok (.lload 12, 2)) (k : Go G l mi n (x0 :: x1 :: x2 :: x3 :: x4 :: x5 :: x6 :: x7 :: x8 :: x9 :: x10 :: x11 :: .long x :: lv) (.long x :: st) M Q) : Go G l mi pc (x0 :: x1 :: x2 :: x3 :: x4 :: x5 :: x6 :: x7 :: x8 :: x9 :: x10 :: x11 :: .long x :: lv) st M Q := by
  intro p e s m args below meth c dC dI cA ad A H locs ls hC hW hL
  subst hn
  exact lv_lload hC.1 hC.2.1 hd (lv_get (i := 12) (v := .long x) hL rfl (fun h => by cases h)) (k p e s m args below meth c dC dI cA ad A H locs ls hC hW hL)
theorem g_lstore12 {G : Sh} {l : Launch} {mi : MI} {pc : Nat} {lv st : List Value} {M : Mm} {Q : Rr → Mm → Prop} {x0 x1 x2 x3 x4 x5 x6 x7 x8 x9 x10 x11 : Value} {y z : Value} {x : Int64} (n : Nat) (hn : pc + 2 = n) (hd : decode (mBy mi) pc = .ok (.lstore 12, 2)) (hm : Nat.ble 14 (mMx mi) = true) (hp : x11.category = 1) (k : Go G l mi n (x0 :: x1 :: x2 :: x3 :: x4 :: x5 :: x6 :: x7 :: x8 :: x9 :: x10 :: x11 :: .long x :: .null :: lv) st M Q) : Go G l mi pc (x0 :: x1 :: x2 :: x3 :: x4 :: x5 :: x6 :: x7 :: x8 :: x9 :: x10 :: x11 :: y :: z :: lv) (.long x :: st) M Q := by
  intro p e s m args below meth c dC dI cA ad A H locs ls hC hW hL
  subst hn
  exact lv_lstore (i := 12) hC.1 hC.2.1 hd hL (Nat.le_of_ble_eq_true hm) rfl (fun ls' hl' => k p e s m args below meth c dC dI cA ad A H locs ls' hC hW (lv_put2 (i := 12) (v := .long x) (lv := x0 :: x1 :: x2 :: x3 :: x4 :: x5 :: x6 :: x7 :: x8 :: x9 :: x10 :: x11 :: y :: z :: lv) (fun u h0 hu => by (first | (cases hu; exact hp) | (exact absurd h0 (by decide)))) hl'))
theorem g_aload12 {G : Sh} {l : Launch} {mi : MI} {pc : Nat} {lv st : List Value} {M : Mm} {Q : Rr → Mm → Prop} {x0 x1 x2 x3 x4 x5 x6 x7 x8 x9 x10 x11 : Value} {x : Nat} (n : Nat) (hn : pc + 2 = n) (hd : decode (mBy mi) pc = .ok (.aload 12, 2)) (k : Go G l mi n (x0 :: x1 :: x2 :: x3 :: x4 :: x5 :: x6 :: x7 :: x8 :: x9 :: x10 :: x11 :: .ref x :: lv) (.ref x :: st) M Q) : Go G l mi pc (x0 :: x1 :: x2 :: x3 :: x4 :: x5 :: x6 :: x7 :: x8 :: x9 :: x10 :: x11 :: .ref x :: lv) st M Q := by
  intro p e s m args below meth c dC dI cA ad A H locs ls hC hW hL
  subst hn
  exact lv_aload hC.1 hC.2.1 hd (lv_get (i := 12) (v := .ref x) hL rfl (fun h => by cases h)) (k p e s m args below meth c dC dI cA ad A H locs ls hC hW hL)
theorem g_iload13 {G : Sh} {l : Launch} {mi : MI} {pc : Nat} {lv st : List Value} {M : Mm} {Q : Rr → Mm → Prop} {x0 x1 x2 x3 x4 x5 x6 x7 x8 x9 x10 x11 x12 : Value} {x : Int32} (n : Nat) (hn : pc + 2 = n) (hd : decode (mBy mi) pc = .ok (.iload 13, 2)) (k : Go G l mi n (x0 :: x1 :: x2 :: x3 :: x4 :: x5 :: x6 :: x7 :: x8 :: x9 :: x10 :: x11 :: x12 :: .int x :: lv) (.int x :: st) M Q) : Go G l mi pc (x0 :: x1 :: x2 :: x3 :: x4 :: x5 :: x6 :: x7 :: x8 :: x9 :: x10 :: x11 :: x12 :: .int x :: lv) st M Q := by
  intro p e s m args below meth c dC dI cA ad A H locs ls hC hW hL
  subst hn
  exact lv_iload hC.1 hC.2.1 hd (lv_get (i := 13) (v := .int x) hL rfl (fun h => by cases h)) (k p e s m args below meth c dC dI cA ad A H locs ls hC hW hL)
theorem g_istore13 {G : Sh} {l : Launch} {mi : MI} {pc : Nat} {lv st : List Value} {M : Mm} {Q : Rr → Mm → Prop} {x0 x1 x2 x3 x4 x5 x6 x7 x8 x9 x10 x11 x12 : Value} {y : Value} {x : Int32} (n : Nat) (hn : pc + 2 = n) (hd : decode (mBy mi) pc = .ok (.istore 13, 2)) (hm : Nat.ble 14 (mMx mi) = true) (hp : x12.category = 1) (k : Go G l mi n (x0 :: x1 :: x2 :: x3 :: x4 :: x5 :: x6 :: x7 :: x8 :: x9 :: x10 :: x11 :: x12 :: .int x :: lv) st M Q) : Go G l mi pc (x0 :: x1 :: x2 :: x3 :: x4 :: x5 :: x6 :: x7 :: x8 :: x9 :: x10 :: x11 :: x12 :: y :: lv) (.int x :: st) M Q := by
  intro p e s m args below meth c dC dI cA ad A H locs ls hC hW hL
  subst hn
  exact lv_istore (i := 13) hC.1 hC.2.1 hd hL (Nat.le_of_ble_eq_true hm) rfl (fun ls' hl' => k p e s m args below meth c dC dI cA ad A H locs ls' hC hW (lv_put1 (i := 13) (v := .int x) (lv := x0 :: x1 :: x2 :: x3 :: x4 :: x5 :: x6 :: x7 :: x8 :: x9 :: x10 :: x11 :: x12 :: y :: lv) (fun u h0 hu => by (first | (cases hu; exact hp) | (exact absurd h0 (by decide)))) hl'))
theorem g_iinc13 {G : Sh} {l : Launch} {mi : MI} {pc : Nat} {lv st : List Value} {M : Mm} {Q : Rr → Mm → Prop} {x0 x1 x2 x3 x4 x5 x6 x7 x8 x9 x10 x11 x12 : Value} {x : Int32} {a : Int} (n : Nat) (hn : pc + 3 = n) (hd : decode (mBy mi) pc = .ok (.iinc 13 a, 3)) (hm : Nat.ble 14 (mMx mi) = true) (hp : x12.category = 1) (v : Int32) (hv : x + Int32.ofInt a = v) (k : Go G l mi n (x0 :: x1 :: x2 :: x3 :: x4 :: x5 :: x6 :: x7 :: x8 :: x9 :: x10 :: x11 :: x12 :: .int v :: lv) st M Q) : Go G l mi pc (x0 :: x1 :: x2 :: x3 :: x4 :: x5 :: x6 :: x7 :: x8 :: x9 :: x10 :: x11 :: x12 :: .int x :: lv) st M Q := by
  intro p e s m args below meth c dC dI cA ad A H locs ls hC hW hL
  subst hn
  obtain ⟨z, hz⟩ := List.getElem?_of_mem (asl_mem (ad := ad) (lv := x0 :: x1 :: x2 :: x3 :: x4 :: x5 :: x6 :: x7 :: x8 :: x9 :: x10 :: x11 :: x12 :: .int x :: lv) (q := (13, .int x)) |>.mpr ⟨.int x, rfl, (fun h => by cases h), rfl⟩)
  exact lv_iinc (i := 13) hC.1 hC.2.1 hd hL hz hv (Nat.le_of_ble_eq_true hm) rfl (fun ls' hl' => k p e s m args below meth c dC dI cA ad A H locs ls' hC hW (lv_put1 (i := 13) (v := .int v) (lv := x0 :: x1 :: x2 :: x3 :: x4 :: x5 :: x6 :: x7 :: x8 :: x9 :: x10 :: x11 :: x12 :: .int x :: lv) (fun u h0 hu => by (first | (cases hu; exact hp) | (exact absurd h0 (by decide)))) hl'))
theorem g_lload13 {G : Sh} {l : Launch} {mi : MI} {pc : Nat} {lv st : List Value} {M : Mm} {Q : Rr → Mm → Prop} {x0 x1 x2 x3 x4 x5 x6 x7 x8 x9 x10 x11 x12 : Value} {x : Int64} (n : Nat) (hn : pc + 2 = n) (hd : decode (mBy mi) pc = .ok (.lload 13, 2)) (k : Go G l mi n (x0 :: x1 :: x2 :: x3 :: x4 :: x5 :: x6 :: x7 :: x8 :: x9 :: x10 :: x11 :: x12 :: .long x :: lv) (.long x :: st) M Q) : Go G l mi pc (x0 :: x1 :: x2 :: x3 :: x4 :: x5 :: x6 :: x7 :: x8 :: x9 :: x10 :: x11 :: x12 :: .long x :: lv) st M Q := by
  intro p e s m args below meth c dC dI cA ad A H locs ls hC hW hL
  subst hn
  exact lv_lload hC.1 hC.2.1 hd (lv_get (i := 13) (v := .long x) hL rfl (fun h => by cases h)) (k p e s m args below meth c dC dI cA ad A H locs ls hC hW hL)
theorem g_lstore13 {G : Sh} {l : Launch} {mi : MI} {pc : Nat} {lv st : List Value} {M : Mm} {Q : Rr → Mm → Prop} {x0 x1 x2 x3 x4 x5 x6 x7 x8 x9 x10 x11 x12 : Value} {y z : Value} {x : Int64} (n : Nat) (hn : pc + 2 = n) (hd : decode (mBy mi) pc = .ok (.lstore 13, 2)) (hm : Nat.ble 15 (mMx mi) = true) (hp : x12.category = 1) (k : Go G l mi n (x0 :: x1 :: x2 :: x3 :: x4 :: x5 :: x6 :: x7 :: x8 :: x9 :: x10 :: x11 :: x12 :: .long x :: .null :: lv) st M Q) : Go G l mi pc (x0 :: x1 :: x2 :: x3 :: x4 :: x5 :: x6 :: x7 :: x8 :: x9 :: x10 :: x11 :: x12 :: y :: z :: lv) (.long x :: st) M Q := by
  intro p e s m args below meth c dC dI cA ad A H locs ls hC hW hL
  subst hn
  exact lv_lstore (i := 13) hC.1 hC.2.1 hd hL (Nat.le_of_ble_eq_true hm) rfl (fun ls' hl' => k p e s m args below meth c dC dI cA ad A H locs ls' hC hW (lv_put2 (i := 13) (v := .long x) (lv := x0 :: x1 :: x2 :: x3 :: x4 :: x5 :: x6 :: x7 :: x8 :: x9 :: x10 :: x11 :: x12 :: y :: z :: lv) (fun u h0 hu => by (first | (cases hu; exact hp) | (exact absurd h0 (by decide)))) hl'))
theorem g_aload13 {G : Sh} {l : Launch} {mi : MI} {pc : Nat} {lv st : List Value} {M : Mm} {Q : Rr → Mm → Prop} {x0 x1 x2 x3 x4 x5 x6 x7 x8 x9 x10 x11 x12 : Value} {x : Nat} (n : Nat) (hn : pc + 2 = n) (hd : decode (mBy mi) pc = .ok (.aload 13, 2)) (k : Go G l mi n (x0 :: x1 :: x2 :: x3 :: x4 :: x5 :: x6 :: x7 :: x8 :: x9 :: x10 :: x11 :: x12 :: .ref x :: lv) (.ref x :: st) M Q) : Go G l mi pc (x0 :: x1 :: x2 :: x3 :: x4 :: x5 :: x6 :: x7 :: x8 :: x9 :: x10 :: x11 :: x12 :: .ref x :: lv) st M Q := by
  intro p e s m args below meth c dC dI cA ad A H locs ls hC hW hL
  subst hn
  exact lv_aload hC.1 hC.2.1 hd (lv_get (i := 13) (v := .ref x) hL rfl (fun h => by cases h)) (k p e s m args below meth c dC dI cA ad A H locs ls hC hW hL)
