section XR
variable {X : Option (Nat × (Nat → Int32))} {d : Nat} {M : xM} {c n mc ms pc q : Nat} {L : List (Option Value)} {st : List Value} {h : xH} {Q : Option Value → xH → Prop}
theorem xCx.ex {p : Program} {l : Launch} {e : Env} {R : Room} {s : State} {m : MethodId} {args : Array Value} {below : List Frame} {meth : Method} {cd : Code} {Z : State → Prop} {b base : Nat} {yI yP : ClassId} {D : va_G} (cx : xCx X d M mc ms Q p l e R s m args below meth cd Z b base yI yP D) : p.tables.exec = Jvm.exec := cx.1.1
theorem xCx.co {p : Program} {l : Launch} {e : Env} {R : Room} {s : State} {m : MethodId} {args : Array Value} {below : List Frame} {meth : Method} {cd : Code} {Z : State → Prop} {b base : Nat} {yI yP : ClassId} {D : va_G} (cx : xCx X d M mc ms Q p l e R s m args below meth cd Z b base yI yP D) : cd.code = M.2.1 := cx.1.2.1
theorem xCx.de {p : Program} {l : Launch} {e : Env} {R : Room} {s : State} {m : MethodId} {args : Array Value} {below : List Frame} {meth : Method} {cd : Code} {Z : State → Prop} {b base : Nat} {yI yP : ClassId} {D : va_G} (cx : xCx X d M mc ms Q p l e R s m args below meth cd Z b base yI yP D) {i : Instr} {k pc : Nat} (h : xfetch M pc = some (i, k)) : decode M.2.1 pc = .ok (i, k) := cx.2.2.1.2 pc i k h
theorem xCx.ow {p : Program} {l : Launch} {e : Env} {R : Room} {s : State} {m : MethodId} {args : Array Value} {below : List Frame} {meth : Method} {cd : Code} {Z : State → Prop} {b base : Nat} {yI yP : ClassId} {D : va_G} (cx : xCx X d M mc ms Q p l e R s m args below meth cd Z b base yI yP D) : s.vm.findClass M.1.cls = some m.cls := cx.1.2.2.2
theorem xCx.ts {p : Program} {l : Launch} {e : Env} {R : Room} {s : State} {m : MethodId} {args : Array Value} {below : List Frame} {meth : Method} {cd : Code} {Z : State → Prop} {b base : Nat} {yI yP : ClassId} {D : va_G} (cx : xCx X d M mc ms Q p l e R s m args below meth cd Z b base yI yP D) : ∀ w, w ∈ xBW → w.before args s = true := cx.2.1.1
theorem xA.iadd {x y : Int32} (hd : xfetch M pc = some (.iadd, 1)) (hq : pc + 1 = q) (k : xA X d M c n mc ms q L (.int (x + y) :: st) h Q) : xA X d M c n mc ms pc L (.int y :: .int x :: st) h Q := by
  subst hq
  intro p l e R s m args below meth cd Z b base yI yP D cx H locs ls hW hS hL
  exact lv_iadd cx.ex cx.co (cx.de hd) (k p l e R s m args below meth cd Z b base yI yP D cx H locs ls hW hS hL)
theorem xA.isub {x y : Int32} (hd : xfetch M pc = some (.isub, 1)) (hq : pc + 1 = q) (k : xA X d M c n mc ms q L (.int (x - y) :: st) h Q) : xA X d M c n mc ms pc L (.int y :: .int x :: st) h Q := by
  subst hq
  intro p l e R s m args below meth cd Z b base yI yP D cx H locs ls hW hS hL
  exact lv_isub cx.ex cx.co (cx.de hd) (k p l e R s m args below meth cd Z b base yI yP D cx H locs ls hW hS hL)
theorem xA.imul {x y : Int32} (hd : xfetch M pc = some (.imul, 1)) (hq : pc + 1 = q) (k : xA X d M c n mc ms q L (.int (x * y) :: st) h Q) : xA X d M c n mc ms pc L (.int y :: .int x :: st) h Q := by
  subst hq
  intro p l e R s m args below meth cd Z b base yI yP D cx H locs ls hW hS hL
  exact lv_imul cx.ex cx.co (cx.de hd) (k p l e R s m args below meth cd Z b base yI yP D cx H locs ls hW hS hL)
theorem xA.iand {x y : Int32} (hd : xfetch M pc = some (.iand, 1)) (hq : pc + 1 = q) (k : xA X d M c n mc ms q L (.int (x &&& y) :: st) h Q) : xA X d M c n mc ms pc L (.int y :: .int x :: st) h Q := by
  subst hq
  intro p l e R s m args below meth cd Z b base yI yP D cx H locs ls hW hS hL
  exact lv_iand cx.ex cx.co (cx.de hd) (k p l e R s m args below meth cd Z b base yI yP D cx H locs ls hW hS hL)
theorem xA.ior {x y : Int32} (hd : xfetch M pc = some (.ior, 1)) (hq : pc + 1 = q) (k : xA X d M c n mc ms q L (.int (x ||| y) :: st) h Q) : xA X d M c n mc ms pc L (.int y :: .int x :: st) h Q := by
  subst hq
  intro p l e R s m args below meth cd Z b base yI yP D cx H locs ls hW hS hL
  exact lv_ior cx.ex cx.co (cx.de hd) (k p l e R s m args below meth cd Z b base yI yP D cx H locs ls hW hS hL)
theorem xA.ixor {x y : Int32} (hd : xfetch M pc = some (.ixor, 1)) (hq : pc + 1 = q) (k : xA X d M c n mc ms q L (.int (x ^^^ y) :: st) h Q) : xA X d M c n mc ms pc L (.int y :: .int x :: st) h Q := by
  subst hq
  intro p l e R s m args below meth cd Z b base yI yP D cx H locs ls hW hS hL
  exact lv_ixor cx.ex cx.co (cx.de hd) (k p l e R s m args below meth cd Z b base yI yP D cx H locs ls hW hS hL)
theorem xA.ishl {x y : Int32} (hd : xfetch M pc = some (.ishl, 1)) (hq : pc + 1 = q) (k : xA X d M c n mc ms q L (.int (x <<< (y &&& 31)) :: st) h Q) : xA X d M c n mc ms pc L (.int y :: .int x :: st) h Q := by
  subst hq
  intro p l e R s m args below meth cd Z b base yI yP D cx H locs ls hW hS hL
  exact lv_ishl cx.ex cx.co (cx.de hd) (k p l e R s m args below meth cd Z b base yI yP D cx H locs ls hW hS hL)
theorem xA.ishr {x y : Int32} (hd : xfetch M pc = some (.ishr, 1)) (hq : pc + 1 = q) (k : xA X d M c n mc ms q L (.int (x >>> (y &&& 31)) :: st) h Q) : xA X d M c n mc ms pc L (.int y :: .int x :: st) h Q := by
  subst hq
  intro p l e R s m args below meth cd Z b base yI yP D cx H locs ls hW hS hL
  exact lv_ishr cx.ex cx.co (cx.de hd) (k p l e R s m args below meth cd Z b base yI yP D cx H locs ls hW hS hL)
theorem xA.ladd {x y : Int64} (hd : xfetch M pc = some (.ladd, 1)) (hq : pc + 1 = q) (k : xA X d M c n mc ms q L (.long (x + y) :: st) h Q) : xA X d M c n mc ms pc L (.long y :: .long x :: st) h Q := by
  subst hq
  intro p l e R s m args below meth cd Z b base yI yP D cx H locs ls hW hS hL
  exact lv_ladd cx.ex cx.co (cx.de hd) (k p l e R s m args below meth cd Z b base yI yP D cx H locs ls hW hS hL)
theorem xA.lmul {x y : Int64} (hd : xfetch M pc = some (.lmul, 1)) (hq : pc + 1 = q) (k : xA X d M c n mc ms q L (.long (x * y) :: st) h Q) : xA X d M c n mc ms pc L (.long y :: .long x :: st) h Q := by
  subst hq
  intro p l e R s m args below meth cd Z b base yI yP D cx H locs ls hW hS hL
  exact lv_lmul cx.ex cx.co (cx.de hd) (k p l e R s m args below meth cd Z b base yI yP D cx H locs ls hW hS hL)
theorem xA.land {x y : Int64} (hd : xfetch M pc = some (.land, 1)) (hq : pc + 1 = q) (k : xA X d M c n mc ms q L (.long (x &&& y) :: st) h Q) : xA X d M c n mc ms pc L (.long y :: .long x :: st) h Q := by
  subst hq
  intro p l e R s m args below meth cd Z b base yI yP D cx H locs ls hW hS hL
  exact lv_land cx.ex cx.co (cx.de hd) (k p l e R s m args below meth cd Z b base yI yP D cx H locs ls hW hS hL)
theorem xA.lor {x y : Int64} (hd : xfetch M pc = some (.lor, 1)) (hq : pc + 1 = q) (k : xA X d M c n mc ms q L (.long (x ||| y) :: st) h Q) : xA X d M c n mc ms pc L (.long y :: .long x :: st) h Q := by
  subst hq
  intro p l e R s m args below meth cd Z b base yI yP D cx H locs ls hW hS hL
  exact lv_lor cx.ex cx.co (cx.de hd) (k p l e R s m args below meth cd Z b base yI yP D cx H locs ls hW hS hL)
theorem xA.ineg {x : Int32} (hd : xfetch M pc = some (.ineg, 1)) (hq : pc + 1 = q) (k : xA X d M c n mc ms q L (.int (-x) :: st) h Q) : xA X d M c n mc ms pc L (.int x :: st) h Q := by
  subst hq
  intro p l e R s m args below meth cd Z b base yI yP D cx H locs ls hW hS hL
  exact lv_ineg cx.ex cx.co (cx.de hd) (k p l e R s m args below meth cd Z b base yI yP D cx H locs ls hW hS hL)
theorem xA.idiv {x y : Int32} (hd : xfetch M pc = some (.idiv, 1)) (hne : ¬ y = 0) (hq : pc + 1 = q) (k : xA X d M c n mc ms q L (.int (x / y) :: st) h Q) : xA X d M c n mc ms pc L (.int y :: .int x :: st) h Q := by
  subst hq
  intro p l e R s m args below meth cd Z b base yI yP D cx H locs ls hW hS hL
  exact lv_idiv cx.ex cx.co (cx.de hd) hne (k p l e R s m args below meth cd Z b base yI yP D cx H locs ls hW hS hL)
theorem xA.irem {x y : Int32} (hd : xfetch M pc = some (.irem, 1)) (hne : ¬ y = 0) (hq : pc + 1 = q) (k : xA X d M c n mc ms q L (.int (x - x / y * y) :: st) h Q) : xA X d M c n mc ms pc L (.int y :: .int x :: st) h Q := by
  subst hq
  intro p l e R s m args below meth cd Z b base yI yP D cx H locs ls hW hS hL
  exact lv_irem cx.ex cx.co (cx.de hd) hne (k p l e R s m args below meth cd Z b base yI yP D cx H locs ls hW hS hL)
theorem xA.i2l {x : Int32} (hd : xfetch M pc = some (.i2l, 1)) (hq : pc + 1 = q) (k : xA X d M c n mc ms q L (.long x.toInt64 :: st) h Q) : xA X d M c n mc ms pc L (.int x :: st) h Q := by
  subst hq
  intro p l e R s m args below meth cd Z b base yI yP D cx H locs ls hW hS hL
  exact lv_i2l cx.ex cx.co (cx.de hd) rfl (k p l e R s m args below meth cd Z b base yI yP D cx H locs ls hW hS hL)
theorem xA.l2i {x : Int64} (hd : xfetch M pc = some (.l2i, 1)) (hq : pc + 1 = q) (k : xA X d M c n mc ms q L (.int x.toInt32 :: st) h Q) : xA X d M c n mc ms pc L (.long x :: st) h Q := by
  subst hq
  intro p l e R s m args below meth cd Z b base yI yP D cx H locs ls hW hS hL
  exact lv_l2i cx.ex cx.co (cx.de hd) rfl (k p l e R s m args below meth cd Z b base yI yP D cx H locs ls hW hS hL)
theorem xA.lshl {x : Int64} {y : Int32} (hd : xfetch M pc = some (.lshl, 1)) (hq : pc + 1 = q) (k : xA X d M c n mc ms q L (.long (x <<< (y.toInt64 &&& 63)) :: st) h Q) : xA X d M c n mc ms pc L (.int y :: .long x :: st) h Q := by
  subst hq
  intro p l e R s m args below meth cd Z b base yI yP D cx H locs ls hW hS hL
  exact lv_lshl cx.ex cx.co (cx.de hd) rfl (k p l e R s m args below meth cd Z b base yI yP D cx H locs ls hW hS hL)
theorem xA.lushr {x : Int64} {y : Int32} (hd : xfetch M pc = some (.lushr, 1)) (hq : pc + 1 = q) (k : xA X d M c n mc ms q L (.long (x.toUInt64 >>> (y.toInt64.toUInt64 &&& Int64.toUInt64 63)).toInt64 :: st) h Q) : xA X d M c n mc ms pc L (.int y :: .long x :: st) h Q := by
  subst hq
  intro p l e R s m args below meth cd Z b base yI yP D cx H locs ls hW hS hL
  exact lv_lushr cx.ex cx.co (cx.de hd) rfl (k p l e R s m args below meth cd Z b base yI yP D cx H locs ls hW hS hL)
theorem xA.lcmp {x y : Int64} (hd : xfetch M pc = some (.lcmp, 1)) (hq : pc + 1 = q) (k : xA X d M c n mc ms q L (.int (lg_cmp x y) :: st) h Q) : xA X d M c n mc ms pc L (.long y :: .long x :: st) h Q := by
  subst hq
  intro p l e R s m args below meth cd Z b base yI yP D cx H locs ls hW hS hL
  exact W.lcmp cx.ex cx.co (cx.de hd) (k p l e R s m args below meth cd Z b base yI yP D cx H locs ls hW hS hL)
theorem xA.iconst {z : Int} {v : Int32} (hd : xfetch M pc = some (.iconst z, 1)) (hv : Int32.ofInt z = v) (hq : pc + 1 = q) (k : xA X d M c n mc ms q L (.int v :: st) h Q) : xA X d M c n mc ms pc L (st) h Q := by
  subst hq
  intro p l e R s m args below meth cd Z b base yI yP D cx H locs ls hW hS hL
  exact lv_iconst cx.ex cx.co (cx.de hd) hv (k p l e R s m args below meth cd Z b base yI yP D cx H locs ls hW hS hL)
theorem xA.bipush {z : Int} {v : Int32} (hd : xfetch M pc = some (.bipush z, 2)) (hv : (Int8.ofInt z).toInt32 = v) (hq : pc + 2 = q) (k : xA X d M c n mc ms q L (.int v :: st) h Q) : xA X d M c n mc ms pc L (st) h Q := by
  subst hq
  intro p l e R s m args below meth cd Z b base yI yP D cx H locs ls hW hS hL
  exact lv_bipush cx.ex cx.co (cx.de hd) hv (k p l e R s m args below meth cd Z b base yI yP D cx H locs ls hW hS hL)
theorem xA.sipush {z : Int} {v : Int32} (hd : xfetch M pc = some (.sipush z, 3)) (hv : (Int16.ofInt z).toInt32 = v) (hq : pc + 3 = q) (k : xA X d M c n mc ms q L (.int v :: st) h Q) : xA X d M c n mc ms pc L (st) h Q := by
  subst hq
  intro p l e R s m args below meth cd Z b base yI yP D cx H locs ls hW hS hL
  exact lv_sipush cx.ex cx.co (cx.de hd) hv (k p l e R s m args below meth cd Z b base yI yP D cx H locs ls hW hS hL)
theorem xA.lconst {z : Fin 2} {v : Int64} (hd : xfetch M pc = some (.lconst z, 1)) (hv : Int64.ofNat (z : Nat) = v) (hq : pc + 1 = q) (k : xA X d M c n mc ms q L (.long v :: st) h Q) : xA X d M c n mc ms pc L (st) h Q := by
  subst hq
  intro p l e R s m args below meth cd Z b base yI yP D cx H locs ls hW hS hL
  exact lv_lconst cx.ex cx.co (cx.de hd) hv (k p l e R s m args below meth cd Z b base yI yP D cx H locs ls hW hS hL)
theorem xA.null (hd : xfetch M pc = some (.aconst_null, 1)) (hq : pc + 1 = q) (k : xA X d M c n mc ms q L (.null :: st) h Q) : xA X d M c n mc ms pc L (st) h Q := by
  subst hq
  intro p l e R s m args below meth cd Z b base yI yP D cx H locs ls hW hS hL
  exact lv_null cx.ex cx.co (cx.de hd) (k p l e R s m args below meth cd Z b base yI yP D cx H locs ls hW hS hL)
theorem xA.dup {v : Value} (hd : xfetch M pc = some (.dup, 1)) (hv : v.category = 1) (hq : pc + 1 = q) (k : xA X d M c n mc ms q L (v :: v :: st) h Q) : xA X d M c n mc ms pc L (v :: st) h Q := by
  subst hq
  intro p l e R s m args below meth cd Z b base yI yP D cx H locs ls hW hS hL
  exact lv_dup cx.ex cx.co (cx.de hd) (by rw [xe_cat]; exact hv) (k p l e R s m args below meth cd Z b base yI yP D cx H locs ls hW hS hL)
theorem xA.dup2 {v w : Value} (hd : xfetch M pc = some (.dup2, 1)) (hv : v.category = 1) (hw : w.category = 1) (hq : pc + 1 = q) (k : xA X d M c n mc ms q L (v :: w :: v :: w :: st) h Q) : xA X d M c n mc ms pc L (v :: w :: st) h Q := by
  subst hq
  intro p l e R s m args below meth cd Z b base yI yP D cx H locs ls hW hS hL
  exact lv_dup2_11 cx.ex cx.co (cx.de hd) (by rw [xe_cat]; exact hv) (by rw [xe_cat]; exact hw) (k p l e R s m args below meth cd Z b base yI yP D cx H locs ls hW hS hL)
theorem xA.pop {v : Value} (hd : xfetch M pc = some (.pop, 1)) (hv : v.category = 1) (hq : pc + 1 = q) (k : xA X d M c n mc ms q L (st) h Q) : xA X d M c n mc ms pc L (v :: st) h Q := by
  subst hq
  intro p l e R s m args below meth cd Z b base yI yP D cx H locs ls hW hS hL
  exact lv_pop cx.ex cx.co (cx.de hd) (by rw [xe_cat]; exact hv) (k p l e R s m args below meth cd Z b base yI yP D cx H locs ls hW hS hL)
theorem xA.iload {i : Nat} {x : Int32} (hd : xfetch M pc = some (.iload i, 2)) (hl : L[i]? = some (some (.int x))) (hq : pc + 2 = q) (k : xA X d M c n mc ms q L (.int x :: st) h Q) : xA X d M c n mc ms pc L (st) h Q := by
  subst hq
  intro p l e R s m args below meth cd Z b base yI yP D cx H locs ls hW hS hL
  exact lv_iload cx.ex cx.co (cx.de hd) (hL.2.2 _ _ hl) (k p l e R s m args below meth cd Z b base yI yP D cx H locs ls hW hS hL)
theorem xA.iload_n {k : Fin 4} {i : Nat} {x : Int32} (hd : xfetch M pc = some (.iload_n k, 1)) (hi : (k : Nat) = i) (hl : L[i]? = some (some (.int x))) (hq : pc + 1 = q) (k : xA X d M c n mc ms q L (.int x :: st) h Q) : xA X d M c n mc ms pc L (st) h Q := by
  subst hq
  intro p l e R s m args below meth cd Z b base yI yP D cx H locs ls hW hS hL
  exact lv_iload_n cx.ex cx.co (cx.de hd) hi (hL.2.2 _ _ hl) (k p l e R s m args below meth cd Z b base yI yP D cx H locs ls hW hS hL)
theorem xA.lload {i : Nat} {x : Int64} (hd : xfetch M pc = some (.lload i, 2)) (hl : L[i]? = some (some (.long x))) (hq : pc + 2 = q) (k : xA X d M c n mc ms q L (.long x :: st) h Q) : xA X d M c n mc ms pc L (st) h Q := by
  subst hq
  intro p l e R s m args below meth cd Z b base yI yP D cx H locs ls hW hS hL
  exact lv_lload cx.ex cx.co (cx.de hd) (hL.2.2 _ _ hl) (k p l e R s m args below meth cd Z b base yI yP D cx H locs ls hW hS hL)
theorem xA.lload_n {k : Fin 4} {i : Nat} {x : Int64} (hd : xfetch M pc = some (.lload_n k, 1)) (hi : (k : Nat) = i) (hl : L[i]? = some (some (.long x))) (hq : pc + 1 = q) (k : xA X d M c n mc ms q L (.long x :: st) h Q) : xA X d M c n mc ms pc L (st) h Q := by
  subst hq
  intro p l e R s m args below meth cd Z b base yI yP D cx H locs ls hW hS hL
  exact lv_lload_n cx.ex cx.co (cx.de hd) hi (hL.2.2 _ _ hl) (k p l e R s m args below meth cd Z b base yI yP D cx H locs ls hW hS hL)
theorem xA.aload {i : Nat} {x : Nat} (hd : xfetch M pc = some (.aload i, 2)) (hl : L[i]? = some (some (.ref x))) (hq : pc + 2 = q) (k : xA X d M c n mc ms q L (.ref x :: st) h Q) : xA X d M c n mc ms pc L (st) h Q := by
  subst hq
  intro p l e R s m args below meth cd Z b base yI yP D cx H locs ls hW hS hL
  exact lv_aload cx.ex cx.co (cx.de hd) (hL.2.2 _ _ hl) (k p l e R s m args below meth cd Z b base yI yP D cx H locs ls hW hS hL)
theorem xA.aload_n {k : Fin 4} {i : Nat} {x : Nat} (hd : xfetch M pc = some (.aload_n k, 1)) (hi : (k : Nat) = i) (hl : L[i]? = some (some (.ref x))) (hq : pc + 1 = q) (k : xA X d M c n mc ms q L (.ref x :: st) h Q) : xA X d M c n mc ms pc L (st) h Q := by
  subst hq
  intro p l e R s m args below meth cd Z b base yI yP D cx H locs ls hW hS hL
  exact lv_aload_n cx.ex cx.co (cx.de hd) hi (hL.2.2 _ _ hl) (k p l e R s m args below meth cd Z b base yI yP D cx H locs ls hW hS hL)
theorem xA.aloadX {i : Nat} {x : Nat} (hd : xfetch M pc = some (.aload i, 2)) (hl : L[i]? = some (some (.retAddr x))) (hq : pc + 2 = q) (k : xA X d M c n mc ms q L (.retAddr x :: st) h Q) : xA X d M c n mc ms pc L (st) h Q := by
  subst hq
  intro p l e R s m args below meth cd Z b base yI yP D cx H locs ls hW hS hL
  exact lv_aload cx.ex cx.co (cx.de hd) (hL.2.2 _ _ hl) (k p l e R s m args below meth cd Z b base yI yP D cx H locs ls hW hS hL)
theorem xA.aloadX_n {k : Fin 4} {i : Nat} {x : Nat} (hd : xfetch M pc = some (.aload_n k, 1)) (hi : (k : Nat) = i) (hl : L[i]? = some (some (.retAddr x))) (hq : pc + 1 = q) (k : xA X d M c n mc ms q L (.retAddr x :: st) h Q) : xA X d M c n mc ms pc L (st) h Q := by
  subst hq
  intro p l e R s m args below meth cd Z b base yI yP D cx H locs ls hW hS hL
  exact lv_aload_n cx.ex cx.co (cx.de hd) hi (hL.2.2 _ _ hl) (k p l e R s m args below meth cd Z b base yI yP D cx H locs ls hW hS hL)
theorem xA.aloadN {i : Nat} (hd : xfetch M pc = some (.aload i, 2)) (hl : L[i]? = some (some .null)) (hq : pc + 2 = q) (k : xA X d M c n mc ms q L (.null :: st) h Q) : xA X d M c n mc ms pc L (st) h Q := by
  subst hq
  intro p l e R s m args below meth cd Z b base yI yP D cx H locs ls hW hS hL
  exact lv_aloadN cx.ex cx.co (cx.de hd) (hL.2.2 _ _ hl) (k p l e R s m args below meth cd Z b base yI yP D cx H locs ls hW hS hL)
theorem xA.aloadN_n {k : Fin 4} {i : Nat} (hd : xfetch M pc = some (.aload_n k, 1)) (hi : (k : Nat) = i) (hl : L[i]? = some (some .null)) (hq : pc + 1 = q) (k : xA X d M c n mc ms q L (.null :: st) h Q) : xA X d M c n mc ms pc L (st) h Q := by
  subst hq
  intro p l e R s m args below meth cd Z b base yI yP D cx H locs ls hW hS hL
  exact lv_aload_nN cx.ex cx.co (cx.de hd) hi (hL.2.2 _ _ hl) (k p l e R s m args below meth cd Z b base yI yP D cx H locs ls hW hS hL)
/-- the locals behind a store of one slot, of two -/
def xst1 (L : List (Option Value)) (i : Nat) (v : Value) : List (Option Value) := (match i with
  | 0 => L
  | j + 1 => match L[j]? with
    | some (some w) => if w.category = 2 then L.set j none else L
    | _ => L).set i (some v)
def xst2 (L : List (Option Value)) (i : Nat) (v : Value) : List (Option Value) := ((match i with
  | 0 => L
  | j + 1 => match L[j]? with
    | some (some w) => if w.category = 2 then L.set j none else L
    | _ => L).set i (some v)).set (i + 1) none
/-- the held locals, as the kit lists them -/
def xlv (b base : Nat) (L : List (Option Value)) : List (Nat × Value) := (List.range L.length).filterMap (fun i => match L[i]? with
  | some (some v) => some (i, xe b base v)
  | _ => none)
theorem xlv_has {b base : Nat} {ls : Array Slot} {L : List (Option Value)} (h : xLs b base ls L) : lv_has ls L.length (xlv b base L) := by
  refine ⟨h.1, h.2.1, fun q hq => ?_⟩
  obtain ⟨i, -, hi⟩ := List.mem_filterMap.mp hq
  revert hi
  cases hL : L[i]? with
  | none => intro hi; cases hi
  | some o =>
    cases o with
    | none => intro hi; cases hi
    | some v =>
      intro hi
      cases hi
      exact h.2.2 i v hL
theorem xlv_mem {b base : Nat} {L : List (Option Value)} {i : Nat} {v : Value} (h : L[i]? = some (some v)) : (i, xe b base v) ∈ xlv b base L := by
  refine List.mem_filterMap.mpr ⟨i, List.mem_range.mpr (List.getElem?_eq_some_iff.mp h).1, ?_⟩
  simp only [h]
theorem xdrop_get {L : List (Option Value)} {i j : Nat} {w : Value} (h : (match i with
  | 0 => L
  | j + 1 => match L[j]? with
    | some (some w) => if w.category = 2 then L.set j none else L
    | _ => L)[j]? = some (some w)) : L[j]? = some (some w) ∧ ¬ (j + 1 = i ∧ w.category = 2) := by
  cases i with
  | zero => exact ⟨h, fun q => by omega⟩
  | succ i =>
    dsimp only at h
    cases hi : L[i]? with
    | none =>
      rw [hi] at h
      refine ⟨h, fun q => ?_⟩
      have : j = i := by omega
      subst this
      rw [hi] at h
      cases h
    | some o =>
      cases o with
      | none =>
        rw [hi] at h
        refine ⟨h, fun q => ?_⟩
        have : j = i := by omega
        subst this
        rw [hi] at h
        cases h
      | some v =>
        rw [hi] at h
        dsimp only at h
        by_cases hc : v.category = 2
        · rw [if_pos hc] at h
          by_cases hj : j = i
          · subst hj
            rw [List.getElem?_set_self (List.getElem?_eq_some_iff.mp hi).1] at h
            cases h
          · rw [List.getElem?_set_ne (Ne.symm hj)] at h
            exact ⟨h, fun q => hj (by omega)⟩
        · rw [if_neg hc] at h
          refine ⟨h, fun q => ?_⟩
          have : j = i := by omega
          subst this
          rw [hi] at h
          cases h
          exact hc q.2
theorem xdrop_len {L : List (Option Value)} {i : Nat} : (match i with
  | 0 => L
  | j + 1 => match L[j]? with
    | some (some w) => if w.category = 2 then L.set j none else L
    | _ => L).length = L.length := by
  cases i with
  | zero => rfl
  | succ i =>
    dsimp only
    split
    · split <;> simp
    · rfl
theorem xst1_ok {b base : Nat} {ls : Array Slot} {L : List (Option Value)} {i : Nat} {v : Value} (hlv : lv_has ls L.length ((i, xe b base v) :: (xlv b base L).filter (fun q => !(q.1 == i) && !(q.1 + 1 == i && q.2.category == 2)))) : xLs b base ls (xst1 L i v) := by
  refine ⟨by rw [hlv.1]; unfold xst1; rw [List.length_set]; exact xdrop_len.symm, hlv.2.1, fun j w hj => ?_⟩
  unfold xst1 at hj
  by_cases hji : j = i
  · subst hji
    have hl : j < (xst1 L j v).length := by
      have := (List.getElem?_eq_some_iff.mp hj).1
      exact this
    rw [List.getElem?_set_self (by unfold xst1 at hl; rwa [List.length_set] at hl)] at hj
    cases hj
    exact hlv.2.2 _ List.mem_cons_self
  · rw [List.getElem?_set_ne (Ne.symm hji)] at hj
    obtain ⟨h1, h2⟩ := xdrop_get hj
    refine hlv.2.2 (j, xe b base w) (List.mem_cons_of_mem _ (List.mem_filter.mpr ⟨xlv_mem h1, ?_⟩))
    simp only [Bool.and_eq_true, Bool.not_eq_true', beq_eq_false_iff_ne, ne_eq, Bool.and_eq_false_iff, xe_cat]
    refine ⟨hji, ?_⟩
    by_cases hq : j + 1 = i
    · exact Or.inr fun z => h2 ⟨hq, z⟩
    · exact Or.inl hq
theorem xst2_ok {b base : Nat} {ls : Array Slot} {L : List (Option Value)} {i : Nat} {v : Value} (hlv : lv_has ls L.length ((i, xe b base v) :: (xlv b base L).filter (fun q => !(q.1 == i) && (!(q.1 == i + 1) && !(q.1 + 1 == i && q.2.category == 2))))) : xLs b base ls (xst2 L i v) := by
  refine ⟨by rw [hlv.1]; unfold xst2; rw [List.length_set, List.length_set]; exact xdrop_len.symm, hlv.2.1, fun j w hj => ?_⟩
  unfold xst2 at hj
  by_cases hji : j = i + 1
  · subst hji
    have hl := (List.getElem?_eq_some_iff.mp hj).1
    rw [List.length_set] at hl
    rw [List.getElem?_set_self hl] at hj
    cases hj
  rw [List.getElem?_set_ne (Ne.symm hji)] at hj
  by_cases hji2 : j = i
  · subst hji2
    have hl := (List.getElem?_eq_some_iff.mp hj).1
    rw [List.length_set] at hl
    rw [List.getElem?_set_self hl] at hj
    cases hj
    exact hlv.2.2 _ List.mem_cons_self
  · rw [List.getElem?_set_ne (Ne.symm hji2)] at hj
    obtain ⟨h1, h2⟩ := xdrop_get hj
    refine hlv.2.2 (j, xe b base w) (List.mem_cons_of_mem _ (List.mem_filter.mpr ⟨xlv_mem h1, ?_⟩))
    simp only [Bool.and_eq_true, Bool.not_eq_true', beq_eq_false_iff_ne, ne_eq, Bool.and_eq_false_iff, xe_cat]
    refine ⟨hji2, hji, ?_⟩
    by_cases hq : j + 1 = i
    · exact Or.inr fun z => h2 ⟨hq, z⟩
    · exact Or.inl hq
theorem xA.istore {i : Nat} {x : Int32} {L' : List (Option Value)} (hd : xfetch M pc = some (.istore i, 2)) (hi2 : i < L.length) (hl : xst1 L i (.int x) = L') (hq : pc + 2 = q) (k : xA X d M c n mc ms q L' st h Q) : xA X d M c n mc ms pc L (.int x :: st) h Q := by
  subst hq; subst hl
  intro p l e R s m args below meth cd Z b base yI yP D cx H locs ls hW hS hL
  exact lv_istore cx.ex cx.co (cx.de hd) (xlv_has hL) hi2 rfl fun ls' hl' => k p l e R s m args below meth cd Z b base yI yP D cx H locs ls' hW hS (xst1_ok hl')
theorem xA.istore_n {k : Fin 4} {i : Nat} {x : Int32} {L' : List (Option Value)} (hd : xfetch M pc = some (.istore_n k, 1)) (hi : (k : Nat) = i) (hi2 : i < L.length) (hl : xst1 L i (.int x) = L') (hq : pc + 1 = q) (k : xA X d M c n mc ms q L' st h Q) : xA X d M c n mc ms pc L (.int x :: st) h Q := by
  subst hq; subst hl
  intro p l e R s m args below meth cd Z b base yI yP D cx H locs ls hW hS hL
  exact lv_istore_n cx.ex cx.co (cx.de hd) hi (xlv_has hL) hi2 rfl fun ls' hl' => k p l e R s m args below meth cd Z b base yI yP D cx H locs ls' hW hS (xst1_ok hl')
theorem xA.lstore {i : Nat} {x : Int64} {L' : List (Option Value)} (hd : xfetch M pc = some (.lstore i, 2)) (hi2 : i + 1 < L.length) (hl : xst2 L i (.long x) = L') (hq : pc + 2 = q) (k : xA X d M c n mc ms q L' st h Q) : xA X d M c n mc ms pc L (.long x :: st) h Q := by
  subst hq; subst hl
  intro p l e R s m args below meth cd Z b base yI yP D cx H locs ls hW hS hL
  exact lv_lstore cx.ex cx.co (cx.de hd) (xlv_has hL) hi2 rfl fun ls' hl' => k p l e R s m args below meth cd Z b base yI yP D cx H locs ls' hW hS (xst2_ok hl')
theorem xA.lstore_n {k : Fin 4} {i : Nat} {x : Int64} {L' : List (Option Value)} (hd : xfetch M pc = some (.lstore_n k, 1)) (hi : (k : Nat) = i) (hi2 : i + 1 < L.length) (hl : xst2 L i (.long x) = L') (hq : pc + 1 = q) (k : xA X d M c n mc ms q L' st h Q) : xA X d M c n mc ms pc L (.long x :: st) h Q := by
  subst hq; subst hl
  intro p l e R s m args below meth cd Z b base yI yP D cx H locs ls hW hS hL
  exact lv_lstore_n cx.ex cx.co (cx.de hd) hi (xlv_has hL) hi2 rfl fun ls' hl' => k p l e R s m args below meth cd Z b base yI yP D cx H locs ls' hW hS (xst2_ok hl')
theorem xA.astore {i : Nat} {x : Nat} {L' : List (Option Value)} (hd : xfetch M pc = some (.astore i, 2)) (hi2 : i < L.length) (hl : xst1 L i (.ref x) = L') (hq : pc + 2 = q) (k : xA X d M c n mc ms q L' st h Q) : xA X d M c n mc ms pc L (.ref x :: st) h Q := by
  subst hq; subst hl
  intro p l e R s m args below meth cd Z b base yI yP D cx H locs ls hW hS hL
  exact lv_astore cx.ex cx.co (cx.de hd) (xlv_has hL) hi2 rfl fun ls' hl' => k p l e R s m args below meth cd Z b base yI yP D cx H locs ls' hW hS (xst1_ok hl')
theorem xA.astore_n {k : Fin 4} {i : Nat} {x : Nat} {L' : List (Option Value)} (hd : xfetch M pc = some (.astore_n k, 1)) (hi : (k : Nat) = i) (hi2 : i < L.length) (hl : xst1 L i (.ref x) = L') (hq : pc + 1 = q) (k : xA X d M c n mc ms q L' st h Q) : xA X d M c n mc ms pc L (.ref x :: st) h Q := by
  subst hq; subst hl
  intro p l e R s m args below meth cd Z b base yI yP D cx H locs ls hW hS hL
  exact lv_astore_n cx.ex cx.co (cx.de hd) hi (xlv_has hL) hi2 rfl fun ls' hl' => k p l e R s m args below meth cd Z b base yI yP D cx H locs ls' hW hS (xst1_ok hl')
theorem xA.astoreN {i : Nat} {L' : List (Option Value)} (hd : xfetch M pc = some (.astore i, 2)) (hi2 : i < L.length) (hl : xst1 L i .null = L') (hq : pc + 2 = q) (k : xA X d M c n mc ms q L' st h Q) : xA X d M c n mc ms pc L (.null :: st) h Q := by
  subst hq; subst hl
  intro p l e R s m args below meth cd Z b base yI yP D cx H locs ls hW hS hL
  exact lv_astoreN cx.ex cx.co (cx.de hd) (xlv_has hL) hi2 rfl fun ls' hl' => k p l e R s m args below meth cd Z b base yI yP D cx H locs ls' hW hS (xst1_ok hl')
theorem xA.astoreN_n {k : Fin 4} {i : Nat} {L' : List (Option Value)} (hd : xfetch M pc = some (.astore_n k, 1)) (hi : (k : Nat) = i) (hi2 : i < L.length) (hl : xst1 L i .null = L') (hq : pc + 1 = q) (k : xA X d M c n mc ms q L' st h Q) : xA X d M c n mc ms pc L (.null :: st) h Q := by
  subst hq; subst hl
  intro p l e R s m args below meth cd Z b base yI yP D cx H locs ls hW hS hL
  exact lv_astore_nN cx.ex cx.co (cx.de hd) hi (xlv_has hL) hi2 rfl fun ls' hl' => k p l e R s m args below meth cd Z b base yI yP D cx H locs ls' hW hS (xst1_ok hl')
theorem xA.iinc {i : Nat} {z : Int} {x v : Int32} {L' : List (Option Value)} (hd : xfetch M pc = some (.iinc i z, 3)) (hx : L[i]? = some (some (.int x))) (hv : x + Int32.ofInt z = v) (hl : xst1 L i (.int v) = L') (hq : pc + 3 = q) (k : xA X d M c n mc ms q L' st h Q) : xA X d M c n mc ms pc L st h Q := by
  subst hq; subst hl
  intro p l e R s m args below meth cd Z b base yI yP D cx H locs ls hW hS hL
  obtain ⟨j, hj⟩ := List.getElem?_of_mem (xlv_mem (b := b) (base := base) hx)
  exact lv_iinc cx.ex cx.co (cx.de hd) (xlv_has hL) hj hv (List.getElem?_eq_some_iff.mp hx).1 rfl fun ls' hl' => k p l e R s m args below meth cd Z b base yI yP D cx H locs ls' hW hS (xst1_ok hl')
theorem xA.icmp_eq {x y : Int32} {off : Int} {tgt : Nat} (hd : xfetch M pc = some (.if_icmp .eq off, 3)) (ht : (pc : Int) + off = (tgt : Int)) (hq : pc + 3 = q) (kt : x = y → xA X d M c n mc ms tgt L st h Q) (kf : ¬ x = y → xA X d M c n mc ms q L st h Q) : xA X d M c n mc ms pc L (.int y :: .int x :: st) h Q := by
  subst hq
  intro p l e R s m args below meth cd Z b base yI yP D cx H locs ls hW hS hL
  exact lv_icmp_eq cx.ex cx.co (cx.de hd) ht (fun z => kt z p l e R s m args below meth cd Z b base yI yP D cx H locs ls hW hS hL) (fun z => kf z p l e R s m args below meth cd Z b base yI yP D cx H locs ls hW hS hL)
theorem xA.icmp_ne {x y : Int32} {off : Int} {tgt : Nat} (hd : xfetch M pc = some (.if_icmp .ne off, 3)) (ht : (pc : Int) + off = (tgt : Int)) (hq : pc + 3 = q) (kt : ¬ x = y → xA X d M c n mc ms tgt L st h Q) (kf : x = y → xA X d M c n mc ms q L st h Q) : xA X d M c n mc ms pc L (.int y :: .int x :: st) h Q := by
  subst hq
  intro p l e R s m args below meth cd Z b base yI yP D cx H locs ls hW hS hL
  exact lv_icmp_ne cx.ex cx.co (cx.de hd) ht (fun z => kt z p l e R s m args below meth cd Z b base yI yP D cx H locs ls hW hS hL) (fun z => kf z p l e R s m args below meth cd Z b base yI yP D cx H locs ls hW hS hL)
theorem xA.icmp_lt {x y : Int32} {off : Int} {tgt : Nat} (hd : xfetch M pc = some (.if_icmp .lt off, 3)) (ht : (pc : Int) + off = (tgt : Int)) (hq : pc + 3 = q) (kt : x < y → xA X d M c n mc ms tgt L st h Q) (kf : ¬ x < y → xA X d M c n mc ms q L st h Q) : xA X d M c n mc ms pc L (.int y :: .int x :: st) h Q := by
  subst hq
  intro p l e R s m args below meth cd Z b base yI yP D cx H locs ls hW hS hL
  exact lv_icmp_lt cx.ex cx.co (cx.de hd) ht (fun z => kt z p l e R s m args below meth cd Z b base yI yP D cx H locs ls hW hS hL) (fun z => kf z p l e R s m args below meth cd Z b base yI yP D cx H locs ls hW hS hL)
theorem xA.icmp_le {x y : Int32} {off : Int} {tgt : Nat} (hd : xfetch M pc = some (.if_icmp .le off, 3)) (ht : (pc : Int) + off = (tgt : Int)) (hq : pc + 3 = q) (kt : x ≤ y → xA X d M c n mc ms tgt L st h Q) (kf : ¬ x ≤ y → xA X d M c n mc ms q L st h Q) : xA X d M c n mc ms pc L (.int y :: .int x :: st) h Q := by
  subst hq
  intro p l e R s m args below meth cd Z b base yI yP D cx H locs ls hW hS hL
  exact lv_icmp_le cx.ex cx.co (cx.de hd) ht (fun z => kt z p l e R s m args below meth cd Z b base yI yP D cx H locs ls hW hS hL) (fun z => kf z p l e R s m args below meth cd Z b base yI yP D cx H locs ls hW hS hL)
theorem xA.icmp_gt {x y : Int32} {off : Int} {tgt : Nat} (hd : xfetch M pc = some (.if_icmp .gt off, 3)) (ht : (pc : Int) + off = (tgt : Int)) (hq : pc + 3 = q) (kt : y < x → xA X d M c n mc ms tgt L st h Q) (kf : ¬ y < x → xA X d M c n mc ms q L st h Q) : xA X d M c n mc ms pc L (.int y :: .int x :: st) h Q := by
  subst hq
  intro p l e R s m args below meth cd Z b base yI yP D cx H locs ls hW hS hL
  exact lv_icmp_gt cx.ex cx.co (cx.de hd) ht (fun z => kt z p l e R s m args below meth cd Z b base yI yP D cx H locs ls hW hS hL) (fun z => kf z p l e R s m args below meth cd Z b base yI yP D cx H locs ls hW hS hL)
theorem xA.icmp_ge {x y : Int32} {off : Int} {tgt : Nat} (hd : xfetch M pc = some (.if_icmp .ge off, 3)) (ht : (pc : Int) + off = (tgt : Int)) (hq : pc + 3 = q) (kt : y ≤ x → xA X d M c n mc ms tgt L st h Q) (kf : ¬ y ≤ x → xA X d M c n mc ms q L st h Q) : xA X d M c n mc ms pc L (.int y :: .int x :: st) h Q := by
  subst hq
  intro p l e R s m args below meth cd Z b base yI yP D cx H locs ls hW hS hL
  exact lv_icmp_ge cx.ex cx.co (cx.de hd) ht (fun z => kt z p l e R s m args below meth cd Z b base yI yP D cx H locs ls hW hS hL) (fun z => kf z p l e R s m args below meth cd Z b base yI yP D cx H locs ls hW hS hL)
theorem xA.if_eq {x : Int32} {off : Int} {tgt : Nat} (hd : xfetch M pc = some (.ifCond .eq off, 3)) (ht : (pc : Int) + off = (tgt : Int)) (hq : pc + 3 = q) (kt : x = 0 → xA X d M c n mc ms tgt L st h Q) (kf : ¬ x = 0 → xA X d M c n mc ms q L st h Q) : xA X d M c n mc ms pc L (.int x :: st) h Q := by
  subst hq
  intro p l e R s m args below meth cd Z b base yI yP D cx H locs ls hW hS hL
  exact lv_if_eq cx.ex cx.co (cx.de hd) ht (fun z => kt z p l e R s m args below meth cd Z b base yI yP D cx H locs ls hW hS hL) (fun z => kf z p l e R s m args below meth cd Z b base yI yP D cx H locs ls hW hS hL)
theorem xA.if_ne {x : Int32} {off : Int} {tgt : Nat} (hd : xfetch M pc = some (.ifCond .ne off, 3)) (ht : (pc : Int) + off = (tgt : Int)) (hq : pc + 3 = q) (kt : ¬ x = 0 → xA X d M c n mc ms tgt L st h Q) (kf : x = 0 → xA X d M c n mc ms q L st h Q) : xA X d M c n mc ms pc L (.int x :: st) h Q := by
  subst hq
  intro p l e R s m args below meth cd Z b base yI yP D cx H locs ls hW hS hL
  exact lv_if_ne cx.ex cx.co (cx.de hd) ht (fun z => kt z p l e R s m args below meth cd Z b base yI yP D cx H locs ls hW hS hL) (fun z => kf z p l e R s m args below meth cd Z b base yI yP D cx H locs ls hW hS hL)
theorem xA.if_lt {x : Int32} {off : Int} {tgt : Nat} (hd : xfetch M pc = some (.ifCond .lt off, 3)) (ht : (pc : Int) + off = (tgt : Int)) (hq : pc + 3 = q) (kt : x < 0 → xA X d M c n mc ms tgt L st h Q) (kf : ¬ x < 0 → xA X d M c n mc ms q L st h Q) : xA X d M c n mc ms pc L (.int x :: st) h Q := by
  subst hq
  intro p l e R s m args below meth cd Z b base yI yP D cx H locs ls hW hS hL
  exact lv_if_lt cx.ex cx.co (cx.de hd) ht (fun z => kt z p l e R s m args below meth cd Z b base yI yP D cx H locs ls hW hS hL) (fun z => kf z p l e R s m args below meth cd Z b base yI yP D cx H locs ls hW hS hL)
theorem xA.if_le {x : Int32} {off : Int} {tgt : Nat} (hd : xfetch M pc = some (.ifCond .le off, 3)) (ht : (pc : Int) + off = (tgt : Int)) (hq : pc + 3 = q) (kt : x ≤ 0 → xA X d M c n mc ms tgt L st h Q) (kf : ¬ x ≤ 0 → xA X d M c n mc ms q L st h Q) : xA X d M c n mc ms pc L (.int x :: st) h Q := by
  subst hq
  intro p l e R s m args below meth cd Z b base yI yP D cx H locs ls hW hS hL
  exact lv_if_le cx.ex cx.co (cx.de hd) ht (fun z => kt z p l e R s m args below meth cd Z b base yI yP D cx H locs ls hW hS hL) (fun z => kf z p l e R s m args below meth cd Z b base yI yP D cx H locs ls hW hS hL)
theorem xA.if_gt {x : Int32} {off : Int} {tgt : Nat} (hd : xfetch M pc = some (.ifCond .gt off, 3)) (ht : (pc : Int) + off = (tgt : Int)) (hq : pc + 3 = q) (kt : 0 < x → xA X d M c n mc ms tgt L st h Q) (kf : ¬ 0 < x → xA X d M c n mc ms q L st h Q) : xA X d M c n mc ms pc L (.int x :: st) h Q := by
  subst hq
  intro p l e R s m args below meth cd Z b base yI yP D cx H locs ls hW hS hL
  exact lv_if_gt cx.ex cx.co (cx.de hd) ht (fun z => kt z p l e R s m args below meth cd Z b base yI yP D cx H locs ls hW hS hL) (fun z => kf z p l e R s m args below meth cd Z b base yI yP D cx H locs ls hW hS hL)
theorem xA.if_ge {x : Int32} {off : Int} {tgt : Nat} (hd : xfetch M pc = some (.ifCond .ge off, 3)) (ht : (pc : Int) + off = (tgt : Int)) (hq : pc + 3 = q) (kt : 0 ≤ x → xA X d M c n mc ms tgt L st h Q) (kf : ¬ 0 ≤ x → xA X d M c n mc ms q L st h Q) : xA X d M c n mc ms pc L (.int x :: st) h Q := by
  subst hq
  intro p l e R s m args below meth cd Z b base yI yP D cx H locs ls hW hS hL
  exact lv_if_ge cx.ex cx.co (cx.de hd) ht (fun z => kt z p l e R s m args below meth cd Z b base yI yP D cx H locs ls hW hS hL) (fun z => kf z p l e R s m args below meth cd Z b base yI yP D cx H locs ls hW hS hL)
theorem xA.goto {off : Int} (hd : xfetch M pc = some (.goto off, 3)) (ht : (pc : Int) + off = (q : Int)) (k : xA X d M c n mc ms q L st h Q) : xA X d M c n mc ms pc L st h Q := by
  intro p l e R s m args below meth cd Z b base yI yP D cx H locs ls hW hS hL
  exact lv_goto cx.ex cx.co (cx.de hd) ht (k p l e R s m args below meth cd Z b base yI yP D cx H locs ls hW hS hL)
theorem xA.ifnull {a : Nat} {off : Int} (hd : xfetch M pc = some (.ifnull off, 3)) (hq : pc + 3 = q) (k : xA X d M c n mc ms q L st h Q) : xA X d M c n mc ms pc L (.ref a :: st) h Q := by
  subst hq
  intro p l e R s m args below meth cd Z b base yI yP D cx H locs ls hW hS hL
  exact lv_ifnull cx.ex cx.co (cx.de hd) (k p l e R s m args below meth cd Z b base yI yP D cx H locs ls hW hS hL)
theorem xA.ifnullN {off : Int} (hd : xfetch M pc = some (.ifnull off, 3)) (ht : (pc : Int) + off = (q : Int)) (k : xA X d M c n mc ms q L st h Q) : xA X d M c n mc ms pc L (.null :: st) h Q := by
  intro p l e R s m args below meth cd Z b base yI yP D cx H locs ls hW hS hL
  exact lv_ifnullN cx.ex cx.co (cx.de hd) ht (k p l e R s m args below meth cd Z b base yI yP D cx H locs ls hW hS hL)
theorem xA.ifnonnull {a : Nat} {off : Int} (hd : xfetch M pc = some (.ifnonnull off, 3)) (ht : (pc : Int) + off = (q : Int)) (k : xA X d M c n mc ms q L st h Q) : xA X d M c n mc ms pc L (.ref a :: st) h Q := by
  intro p l e R s m args below meth cd Z b base yI yP D cx H locs ls hW hS hL
  exact lv_ifnonnull cx.ex cx.co (cx.de hd) ht (k p l e R s m args below meth cd Z b base yI yP D cx H locs ls hW hS hL)
theorem xA.ifnonnullN {off : Int} (hd : xfetch M pc = some (.ifnonnull off, 3)) (hq : pc + 3 = q) (k : xA X d M c n mc ms q L st h Q) : xA X d M c n mc ms pc L (.null :: st) h Q := by
  subst hq
  intro p l e R s m args below meth cd Z b base yI yP D cx H locs ls hW hS hL
  exact lv_ifnonnullN cx.ex cx.co (cx.de hd) (k p l e R s m args below meth cd Z b base yI yP D cx H locs ls hW hS hL)
theorem xA.tsOut {dflt lo hi : Int} {offs : Array Int} {len : Nat} {x : Int32} (hd : xfetch M pc = some (.tableswitch dflt lo hi offs, len)) (hx : x.toInt < lo ∨ hi < x.toInt) (ht : (pc : Int) + dflt = (q : Int)) (k : xA X d M c n mc ms q L st h Q) : xA X d M c n mc ms pc L (.int x :: st) h Q := by
  intro p l e R s m args below meth cd Z b base yI yP D cx H locs ls hW hS hL
  exact lv_tableOut cx.ex cx.co (cx.de hd) hx ht (k p l e R s m args below meth cd Z b base yI yP D cx H locs ls hW hS hL)
theorem xA.tsIn {dflt lo hi : Int} {offs : Array Int} {len : Nat} {x : Int32} {off : Int} (hd : xfetch M pc = some (.tableswitch dflt lo hi offs, len)) (h1 : ¬ x.toInt < lo) (h2 : ¬ hi < x.toInt) (ho : offs[(x.toInt - lo).toNat]? = some off) (ht : (pc : Int) + off = (q : Int)) (k : xA X d M c n mc ms q L st h Q) : xA X d M c n mc ms pc L (.int x :: st) h Q := by
  intro p l e R s m args below meth cd Z b base yI yP D cx H locs ls hW hS hL
  exact lv_tableIn cx.ex cx.co (cx.de hd) h1 h2 ho ht (k p l e R s m args below meth cd Z b base yI yP D cx H locs ls hW hS hL)
theorem xA.ldc {idx : Nat} {v : Int32} (hd : xfetch M pc = some (.ldc idx, 2)) (hw : Cond.constant M.1.cls idx v ∈ xBW) (hq : pc + 2 = q) (k : xA X d M c n mc ms q L (.int v :: st) h Q) : xA X d M c n mc ms pc L st h Q := by
  subst hq
  intro p l e R s m args below meth cd Z b base yI yP D cx H locs ls hW hS hL
  exact lv_ldc cx.ex cx.co cx.ow (cx.ts _ hw) (cx.de hd) (k p l e R s m args below meth cd Z b base yI yP D cx H locs ls hW hS hL)
theorem xA.ldc_w {idx : Nat} {v : Int32} (hd : xfetch M pc = some (.ldc_w idx, 3)) (hw : Cond.constant M.1.cls idx v ∈ xBW) (hq : pc + 3 = q) (k : xA X d M c n mc ms q L (.int v :: st) h Q) : xA X d M c n mc ms pc L st h Q := by
  subst hq
  intro p l e R s m args below meth cd Z b base yI yP D cx H locs ls hW hS hL
  exact lv_ldcw cx.ex cx.co cx.ow (cx.ts _ hw) (cx.de hd) (k p l e R s m args below meth cd Z b base yI yP D cx H locs ls hW hS hL)
theorem xA.ldc2 {idx : Nat} {v : Int64} (hd : xfetch M pc = some (.ldc2_w idx, 3)) (hw : Cond.constantLong M.1.cls idx v ∈ xBW) (hq : pc + 3 = q) (k : xA X d M c n mc ms q L (.long v :: st) h Q) : xA X d M c n mc ms pc L st h Q := by
  subst hq
  intro p l e R s m args below meth cd Z b base yI yP D cx H locs ls hW hS hL
  exact lv_ldc2 cx.ex cx.co cx.ow (cx.ts _ hw) (cx.de hd) (k p l e R s m args below meth cd Z b base yI yP D cx H locs ls hW hS hL)
theorem xA.iret {v : Int32} {ty : FieldType} (hd : xfetch M pc = some (.ireturn, 1)) (hr : M.2.2.2.1 = some ty) (hn : narrow ty (.int v) = .int v) (hQ : Q (some (.int v)) h) : xA X d M mc ms mc ms pc L [.int v] h Q := by
  intro p l e R s m args below meth cd Z b base yI yP D cx H locs ls hW hS hL
  exact cx.2.2.2.2.2.2 pc ls .ireturn [.int v] _ h H locs (cx.de hd) (Or.inl ⟨rfl, v, rfl, rfl, ty, hr, hn⟩) hQ hW hS
theorem xA.lret {v : Int64} (hd : xfetch M pc = some (.lreturn, 1)) (hr : M.2.2.2.1 = some .long) (hQ : Q (some (.long v)) h) : xA X d M mc ms mc ms pc L [.long v] h Q := by
  intro p l e R s m args below meth cd Z b base yI yP D cx H locs ls hW hS hL
  exact cx.2.2.2.2.2.2 pc ls .lreturn [.long v] _ h H locs (cx.de hd) (Or.inr (Or.inl ⟨rfl, v, rfl, rfl, hr⟩)) hQ hW hS
theorem xA.aret {v : Value} {nm : String} (hd : xfetch M pc = some (.areturn, 1)) (hr : M.2.2.2.1 = some (.object nm)) (hv : v = .null ∨ ∃ a, v = .ref a) (hQ : Q (some v) h) : xA X d M mc ms mc ms pc L [v] h Q := by
  intro p l e R s m args below meth cd Z b base yI yP D cx H locs ls hW hS hL
  exact cx.2.2.2.2.2.2 pc ls .areturn [v] _ h H locs (cx.de hd) (Or.inr (Or.inr (Or.inl ⟨rfl, v, rfl, rfl, ⟨nm, hr⟩, hv⟩))) hQ hW hS
theorem xA.vret (hd : xfetch M pc = some (.return_, 1)) (hr : M.2.2.2.1 = none) (hQ : Q none h) : xA X d M mc ms mc ms pc L [] h Q := by
  intro p l e R s m args below meth cd Z b base yI yP D cx H locs ls hW hS hL
  exact cx.2.2.2.2.2.2 pc ls .return_ [] _ h H locs (cx.de hd) (Or.inr (Or.inr (Or.inr ⟨rfl, rfl, rfl, hr⟩))) hQ hW hS
theorem xA.widen {c' n' : Nat} (h1 : c ≤ c') (h2 : n ≤ n') (k : xA X d M c' n' mc ms pc L st h Q) : xA X d M c n mc ms pc L st h Q := by
  intro p l e R s m args below meth cd Z b base yI yP D cx H locs ls hW hS hL
  exact W.widen h1 h2 (k p l e R s m args below meth cd Z b base yI yP D cx H locs ls hW hS hL)
end XR
