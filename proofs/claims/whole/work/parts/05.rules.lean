section rjRules
variable {g : rj_G} {own : String} {cc : ByteArray} {nL : Nat} {ret : Option FieldType} {ws : List Cond} {hh : List (Nat × Nat × Nat × Nat)} {rm : Room} {F : rj_F} {u : Nat} {ω : rj_W} {μ : rj_M} {l : List (Nat × Value)} {pc q : Nat} {st : List Value}
theorem rj_iconst {n : Int} {v : Int32} (hd : decode cc pc = .ok (.iconst n, 1)) (hq : pc + 1 = q) (hv : Int32.ofInt n = v) (k : rj_R g own cc nL ret ws hh rm F u ω μ l q (.int v :: st)) : rj_R g own cc nL ret ws hh rm F u ω μ l pc (st) := by
  subst hq
  exact fun p e s m args below meth c H locs A ls C S h => lv_iconst C.1 C.2.1 hd hv (k p e s m args below meth c H locs A ls C S h)
theorem rj_bipush {n : Int} {v : Int32} (hd : decode cc pc = .ok (.bipush n, 2)) (hq : pc + 2 = q) (hv : (Int8.ofInt n).toInt32 = v) (k : rj_R g own cc nL ret ws hh rm F u ω μ l q (.int v :: st)) : rj_R g own cc nL ret ws hh rm F u ω μ l pc (st) := by
  subst hq
  exact fun p e s m args below meth c H locs A ls C S h => lv_bipush C.1 C.2.1 hd hv (k p e s m args below meth c H locs A ls C S h)
theorem rj_sipush {n : Int} {v : Int32} (hd : decode cc pc = .ok (.sipush n, 3)) (hq : pc + 3 = q) (hv : (Int16.ofInt n).toInt32 = v) (k : rj_R g own cc nL ret ws hh rm F u ω μ l q (.int v :: st)) : rj_R g own cc nL ret ws hh rm F u ω μ l pc (st) := by
  subst hq
  exact fun p e s m args below meth c H locs A ls C S h => lv_sipush C.1 C.2.1 hd hv (k p e s m args below meth c H locs A ls C S h)
theorem rj_lconst {n : Fin 2} {v : Int64} (hd : decode cc pc = .ok (.lconst n, 1)) (hq : pc + 1 = q) (hv : Int64.ofNat (n : Nat) = v) (k : rj_R g own cc nL ret ws hh rm F u ω μ l q (.long v :: st)) : rj_R g own cc nL ret ws hh rm F u ω μ l pc (st) := by
  subst hq
  exact fun p e s m args below meth c H locs A ls C S h => lv_lconst C.1 C.2.1 hd hv (k p e s m args below meth c H locs A ls C S h)
theorem rj_ldc {i : Nat} {v : Int32} (hd : decode cc pc = .ok (.ldc i, 2)) (hq : pc + 2 = q) (hc : Cond.constant own i v ∈ ws) (k : rj_R g own cc nL ret ws hh rm F u ω μ l q (.int v :: st)) : rj_R g own cc nL ret ws hh rm F u ω μ l pc st := by
  subst hq
  exact fun p e s m args below meth c H locs A ls C S h => lv_ldc C.1 C.2.1 C.2.2.2.2.1 (C.2.2.2.2.2.1 _ hc) hd (k p e s m args below meth c H locs A ls C S h)
theorem rj_ldcw {i : Nat} {v : Int32} (hd : decode cc pc = .ok (.ldc_w i, 3)) (hq : pc + 3 = q) (hc : Cond.constant own i v ∈ ws) (k : rj_R g own cc nL ret ws hh rm F u ω μ l q (.int v :: st)) : rj_R g own cc nL ret ws hh rm F u ω μ l pc st := by
  subst hq
  exact fun p e s m args below meth c H locs A ls C S h => lv_ldcw C.1 C.2.1 C.2.2.2.2.1 (C.2.2.2.2.2.1 _ hc) hd (k p e s m args below meth c H locs A ls C S h)
theorem rj_ldc2 {i : Nat} {v : Int64} (hd : decode cc pc = .ok (.ldc2_w i, 3)) (hq : pc + 3 = q) (hc : Cond.constantLong own i v ∈ ws) (k : rj_R g own cc nL ret ws hh rm F u ω μ l q (.long v :: st)) : rj_R g own cc nL ret ws hh rm F u ω μ l pc st := by
  subst hq
  exact fun p e s m args below meth c H locs A ls C S h => lv_ldc2 C.1 C.2.1 C.2.2.2.2.1 (C.2.2.2.2.2.1 _ hc) hd (k p e s m args below meth c H locs A ls C S h)
theorem rj_iload_n {i : Fin 4} {x : Int32} (j : Nat) (hd : decode cc pc = .ok (.iload_n i, 1)) (hq : pc + 1 = q) (hl : l[j]? = some ((i : Nat), .int x)) (k : rj_R g own cc nL ret ws hh rm F u ω μ l q (.int x :: st)) : rj_R g own cc nL ret ws hh rm F u ω μ l pc st := by
  subst hq
  exact fun p e s m args below meth c H locs A ls C S h => lv_iload_n C.1 C.2.1 hd rfl (lv_at h j hl) (k p e s m args below meth c H locs A ls C S h)
theorem rj_iload {i : Nat} {x : Int32} (j : Nat) (hd : decode cc pc = .ok (.iload i, 2)) (hq : pc + 2 = q) (hl : l[j]? = some (i, .int x)) (k : rj_R g own cc nL ret ws hh rm F u ω μ l q (.int x :: st)) : rj_R g own cc nL ret ws hh rm F u ω μ l pc st := by
  subst hq
  exact fun p e s m args below meth c H locs A ls C S h => lv_iload C.1 C.2.1 hd (lv_at h j hl) (k p e s m args below meth c H locs A ls C S h)
theorem rj_istore_n {i : Fin 4} {x : Int32} {l' : List (Nat × Value)} (hd : decode cc pc = .ok (.istore_n i, 1)) (hq : pc + 1 = q) (hn : (i : Nat) < nL) (hl : ((i : Nat), Value.int x) :: l.filter (fun q => !(q.1 == (i : Nat)) && !(q.1 + 1 == (i : Nat) && q.2.category == 2)) = l') (k : rj_R g own cc nL ret ws hh rm F u ω μ l' q st) : rj_R g own cc nL ret ws hh rm F u ω μ l pc (.int x :: st) := by
  subst hq
  exact fun p e s m args below meth c H locs A ls C S h => lv_istore_n C.1 C.2.1 hd rfl h hn hl (fun ls' h' => k p e s m args below meth c H locs A ls' C S h')
theorem rj_istore {i : Nat} {x : Int32} {l' : List (Nat × Value)} (hd : decode cc pc = .ok (.istore i, 2)) (hq : pc + 2 = q) (hn : i < nL) (hl : (i, Value.int x) :: l.filter (fun q => !(q.1 == i) && !(q.1 + 1 == i && q.2.category == 2)) = l') (k : rj_R g own cc nL ret ws hh rm F u ω μ l' q st) : rj_R g own cc nL ret ws hh rm F u ω μ l pc (.int x :: st) := by
  subst hq
  exact fun p e s m args below meth c H locs A ls C S h => lv_istore C.1 C.2.1 hd h hn hl (fun ls' h' => k p e s m args below meth c H locs A ls' C S h')
theorem rj_lload_n {i : Fin 4} {x : Int64} (j : Nat) (hd : decode cc pc = .ok (.lload_n i, 1)) (hq : pc + 1 = q) (hl : l[j]? = some ((i : Nat), .long x)) (k : rj_R g own cc nL ret ws hh rm F u ω μ l q (.long x :: st)) : rj_R g own cc nL ret ws hh rm F u ω μ l pc st := by
  subst hq
  exact fun p e s m args below meth c H locs A ls C S h => lv_lload_n C.1 C.2.1 hd rfl (lv_at h j hl) (k p e s m args below meth c H locs A ls C S h)
theorem rj_lload {i : Nat} {x : Int64} (j : Nat) (hd : decode cc pc = .ok (.lload i, 2)) (hq : pc + 2 = q) (hl : l[j]? = some (i, .long x)) (k : rj_R g own cc nL ret ws hh rm F u ω μ l q (.long x :: st)) : rj_R g own cc nL ret ws hh rm F u ω μ l pc st := by
  subst hq
  exact fun p e s m args below meth c H locs A ls C S h => lv_lload C.1 C.2.1 hd (lv_at h j hl) (k p e s m args below meth c H locs A ls C S h)
theorem rj_lstore_n {i : Fin 4} {x : Int64} {l' : List (Nat × Value)} (hd : decode cc pc = .ok (.lstore_n i, 1)) (hq : pc + 1 = q) (hn : (i : Nat) + 1 < nL) (hl : ((i : Nat), Value.long x) :: l.filter (fun q => !(q.1 == (i : Nat)) && (!(q.1 == (i : Nat) + 1) && !(q.1 + 1 == (i : Nat) && q.2.category == 2))) = l') (k : rj_R g own cc nL ret ws hh rm F u ω μ l' q st) : rj_R g own cc nL ret ws hh rm F u ω μ l pc (.long x :: st) := by
  subst hq
  exact fun p e s m args below meth c H locs A ls C S h => lv_lstore_n C.1 C.2.1 hd rfl h hn hl (fun ls' h' => k p e s m args below meth c H locs A ls' C S h')
theorem rj_lstore {i : Nat} {x : Int64} {l' : List (Nat × Value)} (hd : decode cc pc = .ok (.lstore i, 2)) (hq : pc + 2 = q) (hn : i + 1 < nL) (hl : (i, Value.long x) :: l.filter (fun q => !(q.1 == i) && (!(q.1 == i + 1) && !(q.1 + 1 == i && q.2.category == 2))) = l') (k : rj_R g own cc nL ret ws hh rm F u ω μ l' q st) : rj_R g own cc nL ret ws hh rm F u ω μ l pc (.long x :: st) := by
  subst hq
  exact fun p e s m args below meth c H locs A ls C S h => lv_lstore C.1 C.2.1 hd h hn hl (fun ls' h' => k p e s m args below meth c H locs A ls' C S h')
theorem rj_aload_n {i : Fin 4} {x : Nat} (j : Nat) (hd : decode cc pc = .ok (.aload_n i, 1)) (hq : pc + 1 = q) (hl : l[j]? = some ((i : Nat), .ref x)) (k : rj_R g own cc nL ret ws hh rm F u ω μ l q (.ref x :: st)) : rj_R g own cc nL ret ws hh rm F u ω μ l pc st := by
  subst hq
  exact fun p e s m args below meth c H locs A ls C S h => lv_aload_n C.1 C.2.1 hd rfl (lv_at h j hl) (k p e s m args below meth c H locs A ls C S h)
theorem rj_aload {i : Nat} {x : Nat} (j : Nat) (hd : decode cc pc = .ok (.aload i, 2)) (hq : pc + 2 = q) (hl : l[j]? = some (i, .ref x)) (k : rj_R g own cc nL ret ws hh rm F u ω μ l q (.ref x :: st)) : rj_R g own cc nL ret ws hh rm F u ω μ l pc st := by
  subst hq
  exact fun p e s m args below meth c H locs A ls C S h => lv_aload C.1 C.2.1 hd (lv_at h j hl) (k p e s m args below meth c H locs A ls C S h)
theorem rj_astore_n {i : Fin 4} {x : Nat} {l' : List (Nat × Value)} (hd : decode cc pc = .ok (.astore_n i, 1)) (hq : pc + 1 = q) (hn : (i : Nat) < nL) (hl : ((i : Nat), Value.ref x) :: l.filter (fun q => !(q.1 == (i : Nat)) && !(q.1 + 1 == (i : Nat) && q.2.category == 2)) = l') (k : rj_R g own cc nL ret ws hh rm F u ω μ l' q st) : rj_R g own cc nL ret ws hh rm F u ω μ l pc (.ref x :: st) := by
  subst hq
  exact fun p e s m args below meth c H locs A ls C S h => lv_astore_n C.1 C.2.1 hd rfl h hn hl (fun ls' h' => k p e s m args below meth c H locs A ls' C S h')
theorem rj_astore {i : Nat} {x : Nat} {l' : List (Nat × Value)} (hd : decode cc pc = .ok (.astore i, 2)) (hq : pc + 2 = q) (hn : i < nL) (hl : (i, Value.ref x) :: l.filter (fun q => !(q.1 == i) && !(q.1 + 1 == i && q.2.category == 2)) = l') (k : rj_R g own cc nL ret ws hh rm F u ω μ l' q st) : rj_R g own cc nL ret ws hh rm F u ω μ l pc (.ref x :: st) := by
  subst hq
  exact fun p e s m args below meth c H locs A ls C S h => lv_astore C.1 C.2.1 hd h hn hl (fun ls' h' => k p e s m args below meth c H locs A ls' C S h')
theorem rj_dload_n {i : Fin 4} {x : UInt64} (j : Nat) (hd : decode cc pc = .ok (.dload_n i, 1)) (hq : pc + 1 = q) (hl : l[j]? = some ((i : Nat), .double x)) (k : rj_R g own cc nL ret ws hh rm F u ω μ l q (.double x :: st)) : rj_R g own cc nL ret ws hh rm F u ω μ l pc st := by
  subst hq
  exact fun p e s m args below meth c H locs A ls C S h => lv_dload_n C.1 C.2.1 hd rfl (lv_at h j hl) (k p e s m args below meth c H locs A ls C S h)
theorem rj_dload {i : Nat} {x : UInt64} (j : Nat) (hd : decode cc pc = .ok (.dload i, 2)) (hq : pc + 2 = q) (hl : l[j]? = some (i, .double x)) (k : rj_R g own cc nL ret ws hh rm F u ω μ l q (.double x :: st)) : rj_R g own cc nL ret ws hh rm F u ω μ l pc st := by
  subst hq
  exact fun p e s m args below meth c H locs A ls C S h => lv_dload C.1 C.2.1 hd (lv_at h j hl) (k p e s m args below meth c H locs A ls C S h)
theorem rj_dstore_n {i : Fin 4} {x : UInt64} {l' : List (Nat × Value)} (hd : decode cc pc = .ok (.dstore_n i, 1)) (hq : pc + 1 = q) (hn : (i : Nat) + 1 < nL) (hl : ((i : Nat), Value.double x) :: l.filter (fun q => !(q.1 == (i : Nat)) && (!(q.1 == (i : Nat) + 1) && !(q.1 + 1 == (i : Nat) && q.2.category == 2))) = l') (k : rj_R g own cc nL ret ws hh rm F u ω μ l' q st) : rj_R g own cc nL ret ws hh rm F u ω μ l pc (.double x :: st) := by
  subst hq
  exact fun p e s m args below meth c H locs A ls C S h => lv_dstore_n C.1 C.2.1 hd rfl h hn hl (fun ls' h' => k p e s m args below meth c H locs A ls' C S h')
theorem rj_dstore {i : Nat} {x : UInt64} {l' : List (Nat × Value)} (hd : decode cc pc = .ok (.dstore i, 2)) (hq : pc + 2 = q) (hn : i + 1 < nL) (hl : (i, Value.double x) :: l.filter (fun q => !(q.1 == i) && (!(q.1 == i + 1) && !(q.1 + 1 == i && q.2.category == 2))) = l') (k : rj_R g own cc nL ret ws hh rm F u ω μ l' q st) : rj_R g own cc nL ret ws hh rm F u ω μ l pc (.double x :: st) := by
  subst hq
  exact fun p e s m args below meth c H locs A ls C S h => lv_dstore C.1 C.2.1 hd h hn hl (fun ls' h' => k p e s m args below meth c H locs A ls' C S h')
theorem rj_iinc {i : Nat} {n : Int} {x v : Int32} {l' : List (Nat × Value)} (j : Nat) (hd : decode cc pc = .ok (.iinc i n, 3)) (hq : pc + 3 = q) (hk : l[j]? = some (i, .int x)) (hv : x + Int32.ofInt n = v) (hn : i < nL) (hl : (i, Value.int v) :: l.filter (fun q => !(q.1 == i) && !(q.1 + 1 == i && q.2.category == 2)) = l') (k : rj_R g own cc nL ret ws hh rm F u ω μ l' q st) : rj_R g own cc nL ret ws hh rm F u ω μ l pc st := by
  subst hq
  exact fun p e s m args below meth c H locs A ls C S h => lv_iinc C.1 C.2.1 hd h hk hv hn hl (fun ls' h' => k p e s m args below meth c H locs A ls' C S h')
theorem rj_iadd {x y : Int32} (hd : decode cc pc = .ok (.iadd, 1)) (hq : pc + 1 = q)  (k : rj_R g own cc nL ret ws hh rm F u ω μ l q (.int (x + y) :: st)) : rj_R g own cc nL ret ws hh rm F u ω μ l pc (.int y :: .int x :: st) := by
  subst hq
  exact fun p e s m args below meth c H locs A ls C S h => lv_iadd C.1 C.2.1 hd  (k p e s m args below meth c H locs A ls C S h)
theorem rj_isub {x y : Int32} (hd : decode cc pc = .ok (.isub, 1)) (hq : pc + 1 = q)  (k : rj_R g own cc nL ret ws hh rm F u ω μ l q (.int (x - y) :: st)) : rj_R g own cc nL ret ws hh rm F u ω μ l pc (.int y :: .int x :: st) := by
  subst hq
  exact fun p e s m args below meth c H locs A ls C S h => lv_isub C.1 C.2.1 hd  (k p e s m args below meth c H locs A ls C S h)
theorem rj_imul {x y : Int32} (hd : decode cc pc = .ok (.imul, 1)) (hq : pc + 1 = q)  (k : rj_R g own cc nL ret ws hh rm F u ω μ l q (.int (x * y) :: st)) : rj_R g own cc nL ret ws hh rm F u ω μ l pc (.int y :: .int x :: st) := by
  subst hq
  exact fun p e s m args below meth c H locs A ls C S h => lv_imul C.1 C.2.1 hd  (k p e s m args below meth c H locs A ls C S h)
theorem rj_iand {x y : Int32} (hd : decode cc pc = .ok (.iand, 1)) (hq : pc + 1 = q)  (k : rj_R g own cc nL ret ws hh rm F u ω μ l q (.int (x &&& y) :: st)) : rj_R g own cc nL ret ws hh rm F u ω μ l pc (.int y :: .int x :: st) := by
  subst hq
  exact fun p e s m args below meth c H locs A ls C S h => lv_iand C.1 C.2.1 hd  (k p e s m args below meth c H locs A ls C S h)
theorem rj_ior {x y : Int32} (hd : decode cc pc = .ok (.ior, 1)) (hq : pc + 1 = q)  (k : rj_R g own cc nL ret ws hh rm F u ω μ l q (.int (x ||| y) :: st)) : rj_R g own cc nL ret ws hh rm F u ω μ l pc (.int y :: .int x :: st) := by
  subst hq
  exact fun p e s m args below meth c H locs A ls C S h => lv_ior C.1 C.2.1 hd  (k p e s m args below meth c H locs A ls C S h)
theorem rj_ixor {x y : Int32} (hd : decode cc pc = .ok (.ixor, 1)) (hq : pc + 1 = q)  (k : rj_R g own cc nL ret ws hh rm F u ω μ l q (.int (x ^^^ y) :: st)) : rj_R g own cc nL ret ws hh rm F u ω μ l pc (.int y :: .int x :: st) := by
  subst hq
  exact fun p e s m args below meth c H locs A ls C S h => lv_ixor C.1 C.2.1 hd  (k p e s m args below meth c H locs A ls C S h)
theorem rj_ishl {x y : Int32} (hd : decode cc pc = .ok (.ishl, 1)) (hq : pc + 1 = q)  (k : rj_R g own cc nL ret ws hh rm F u ω μ l q (.int (x <<< (y &&& 31)) :: st)) : rj_R g own cc nL ret ws hh rm F u ω μ l pc (.int y :: .int x :: st) := by
  subst hq
  exact fun p e s m args below meth c H locs A ls C S h => lv_ishl C.1 C.2.1 hd  (k p e s m args below meth c H locs A ls C S h)
theorem rj_ishr {x y : Int32} (hd : decode cc pc = .ok (.ishr, 1)) (hq : pc + 1 = q)  (k : rj_R g own cc nL ret ws hh rm F u ω μ l q (.int (x >>> (y &&& 31)) :: st)) : rj_R g own cc nL ret ws hh rm F u ω μ l pc (.int y :: .int x :: st) := by
  subst hq
  exact fun p e s m args below meth c H locs A ls C S h => lv_ishr C.1 C.2.1 hd  (k p e s m args below meth c H locs A ls C S h)
theorem rj_iushr {x y : Int32} (hd : decode cc pc = .ok (.iushr, 1)) (hq : pc + 1 = q)  (k : rj_R g own cc nL ret ws hh rm F u ω μ l q (.int ((x.toUInt32 >>> (y.toUInt32 &&& Int32.toUInt32 31)).toInt32) :: st)) : rj_R g own cc nL ret ws hh rm F u ω μ l pc (.int y :: .int x :: st) := by
  subst hq
  exact fun p e s m args below meth c H locs A ls C S h => lv_iushr C.1 C.2.1 hd rfl (k p e s m args below meth c H locs A ls C S h)
theorem rj_idiv {x y : Int32} (hd : decode cc pc = .ok (.idiv, 1)) (hq : pc + 1 = q) (hne : ¬ y = 0) (k : rj_R g own cc nL ret ws hh rm F u ω μ l q (.int (x / y) :: st)) : rj_R g own cc nL ret ws hh rm F u ω μ l pc (.int y :: .int x :: st) := by
  subst hq
  exact fun p e s m args below meth c H locs A ls C S h => lv_idiv C.1 C.2.1 hd hne (k p e s m args below meth c H locs A ls C S h)
theorem rj_irem {x y : Int32} (hd : decode cc pc = .ok (.irem, 1)) (hq : pc + 1 = q) (hne : ¬ y = 0) (k : rj_R g own cc nL ret ws hh rm F u ω μ l q (.int (x - x / y * y) :: st)) : rj_R g own cc nL ret ws hh rm F u ω μ l pc (.int y :: .int x :: st) := by
  subst hq
  exact fun p e s m args below meth c H locs A ls C S h => lv_irem C.1 C.2.1 hd hne (k p e s m args below meth c H locs A ls C S h)
theorem rj_ladd {x y : Int64} (hd : decode cc pc = .ok (.ladd, 1)) (hq : pc + 1 = q)  (k : rj_R g own cc nL ret ws hh rm F u ω μ l q (.long (x + y) :: st)) : rj_R g own cc nL ret ws hh rm F u ω μ l pc (.long y :: .long x :: st) := by
  subst hq
  exact fun p e s m args below meth c H locs A ls C S h => lv_ladd C.1 C.2.1 hd  (k p e s m args below meth c H locs A ls C S h)
theorem rj_lsub {x y : Int64} (hd : decode cc pc = .ok (.lsub, 1)) (hq : pc + 1 = q)  (k : rj_R g own cc nL ret ws hh rm F u ω μ l q (.long (x - y) :: st)) : rj_R g own cc nL ret ws hh rm F u ω μ l pc (.long y :: .long x :: st) := by
  subst hq
  exact fun p e s m args below meth c H locs A ls C S h => lv_lsub C.1 C.2.1 hd  (k p e s m args below meth c H locs A ls C S h)
theorem rj_lmul {x y : Int64} (hd : decode cc pc = .ok (.lmul, 1)) (hq : pc + 1 = q)  (k : rj_R g own cc nL ret ws hh rm F u ω μ l q (.long (x * y) :: st)) : rj_R g own cc nL ret ws hh rm F u ω μ l pc (.long y :: .long x :: st) := by
  subst hq
  exact fun p e s m args below meth c H locs A ls C S h => lv_lmul C.1 C.2.1 hd  (k p e s m args below meth c H locs A ls C S h)
theorem rj_ldiv {x y : Int64} (hd : decode cc pc = .ok (.ldiv, 1)) (hq : pc + 1 = q) (hne : ¬ y = 0) (k : rj_R g own cc nL ret ws hh rm F u ω μ l q (.long (x / y) :: st)) : rj_R g own cc nL ret ws hh rm F u ω μ l pc (.long y :: .long x :: st) := by
  subst hq
  exact fun p e s m args below meth c H locs A ls C S h => lv_ldiv C.1 C.2.1 hd hne (k p e s m args below meth c H locs A ls C S h)
theorem rj_lcmp {x y : Int64} (hd : decode cc pc = .ok (.lcmp, 1)) (hq : pc + 1 = q)  (k : rj_R g own cc nL ret ws hh rm F u ω μ l q (.int (lg_cmp x y) :: st)) : rj_R g own cc nL ret ws hh rm F u ω μ l pc (.long y :: .long x :: st) := by
  subst hq
  exact fun p e s m args below meth c H locs A ls C S h => W.lcmp C.1 C.2.1 hd  (k p e s m args below meth c H locs A ls C S h)
theorem rj_i2l {x : Int32} (hd : decode cc pc = .ok (.i2l, 1)) (hq : pc + 1 = q)  (k : rj_R g own cc nL ret ws hh rm F u ω μ l q (.long x.toInt64 :: st)) : rj_R g own cc nL ret ws hh rm F u ω μ l pc (.int x :: st) := by
  subst hq
  exact fun p e s m args below meth c H locs A ls C S h => lv_i2l C.1 C.2.1 hd rfl (k p e s m args below meth c H locs A ls C S h)
theorem rj_l2i {x : Int64} (hd : decode cc pc = .ok (.l2i, 1)) (hq : pc + 1 = q)  (k : rj_R g own cc nL ret ws hh rm F u ω μ l q (.int x.toInt32 :: st)) : rj_R g own cc nL ret ws hh rm F u ω μ l pc (.long x :: st) := by
  subst hq
  exact fun p e s m args below meth c H locs A ls C S h => lv_l2i C.1 C.2.1 hd rfl (k p e s m args below meth c H locs A ls C S h)
theorem rj_i2d {x : Int32} (hd : decode cc pc = .ok (.i2d, 1)) (hq : pc + 1 = q)  (k : rj_R g own cc nL ret ws hh rm F u ω μ l q (.double (FP.i2d x) :: st)) : rj_R g own cc nL ret ws hh rm F u ω μ l pc (.int x :: st) := by
  subst hq
  exact fun p e s m args below meth c H locs A ls C S h => lv_i2d C.1 C.2.1 hd  (k p e s m args below meth c H locs A ls C S h)
theorem rj_i2f {x : Int32} (hd : decode cc pc = .ok (.i2f, 1)) (hq : pc + 1 = q)  (k : rj_R g own cc nL ret ws hh rm F u ω μ l q (.float (FP.i2f x) :: st)) : rj_R g own cc nL ret ws hh rm F u ω μ l pc (.int x :: st) := by
  subst hq
  exact fun p e s m args below meth c H locs A ls C S h => lv_i2f C.1 C.2.1 hd  (k p e s m args below meth c H locs A ls C S h)
theorem rj_f2d {x : UInt32} (hd : decode cc pc = .ok (.f2d, 1)) (hq : pc + 1 = q) (hne : vf_n64 (FP.f2d x)) (k : rj_R g own cc nL ret ws hh rm F u ω μ l q (.double (FP.f2d x) :: st)) : rj_R g own cc nL ret ws hh rm F u ω μ l pc (.float x :: st) := by
  subst hq
  exact fun p e s m args below meth c H locs A ls C S h => lv_f2d C.1 C.2.1 hd hne (k p e s m args below meth c H locs A ls C S h)
theorem rj_ddiv {x y : UInt64} (hd : decode cc pc = .ok (.ddiv, 1)) (hq : pc + 1 = q) (hne : vf_n64 (FP.ddiv x y)) (k : rj_R g own cc nL ret ws hh rm F u ω μ l q (.double (FP.ddiv x y) :: st)) : rj_R g own cc nL ret ws hh rm F u ω μ l pc (.double y :: .double x :: st) := by
  subst hq
  exact fun p e s m args below meth c H locs A ls C S h => lv_ddiv C.1 C.2.1 hd hne (k p e s m args below meth c H locs A ls C S h)
theorem rj_fdiv {x y : UInt32} (hd : decode cc pc = .ok (.fdiv, 1)) (hq : pc + 1 = q) (hne : vf_n32 (FP.fdiv x y)) (k : rj_R g own cc nL ret ws hh rm F u ω μ l q (.float (FP.fdiv x y) :: st)) : rj_R g own cc nL ret ws hh rm F u ω μ l pc (.float y :: .float x :: st) := by
  subst hq
  exact fun p e s m args below meth c H locs A ls C S h => lv_fdiv C.1 C.2.1 hd hne (k p e s m args below meth c H locs A ls C S h)
theorem rj_dcmp {x y : UInt64} {op : CmpOp} (hd : decode cc pc = .ok (.dcmp op, 1)) (hq : pc + 1 = q)  (k : rj_R g own cc nL ret ws hh rm F u ω μ l q (.int (Op.cmpValue (FP.dcmp x y) op) :: st)) : rj_R g own cc nL ret ws hh rm F u ω μ l pc (.double y :: .double x :: st) := by
  subst hq
  exact fun p e s m args below meth c H locs A ls C S h => lv_dcmp C.1 C.2.1 hd  (k p e s m args below meth c H locs A ls C S h)
theorem rj_dup {v : Value} (hd : decode cc pc = .ok (.dup, 1)) (hq : pc + 1 = q) (hv : v.category = 1) (k : rj_R g own cc nL ret ws hh rm F u ω μ l q (v :: v :: st)) : rj_R g own cc nL ret ws hh rm F u ω μ l pc (v :: st) := by
  subst hq
  exact fun p e s m args below meth c H locs A ls C S h => lv_dup C.1 C.2.1 hd hv (k p e s m args below meth c H locs A ls C S h)
theorem rj_dup2 {v w : Value} (hd : decode cc pc = .ok (.dup2, 1)) (hq : pc + 1 = q) (hv : v.category = 1) (hw : w.category = 1) (k : rj_R g own cc nL ret ws hh rm F u ω μ l q (v :: w :: v :: w :: st)) : rj_R g own cc nL ret ws hh rm F u ω μ l pc (v :: w :: st) := by
  subst hq
  exact fun p e s m args below meth c H locs A ls C S h => lv_dup2_11 C.1 C.2.1 hd hv hw (k p e s m args below meth c H locs A ls C S h)
theorem rj_sub {l' : List (Nat × Value)} (ks : List Nat) (hl : lv_pick l ks = l') (k : rj_R g own cc nL ret ws hh rm F u ω μ l' pc st) : rj_R g own cc nL ret ws hh rm F u ω μ l pc st := fun p e s m args below meth c H locs A ls C S h => k p e s m args below meth c H locs A ls C S (lv_sub h ks hl)
theorem rj_pop {v : Value} (hd : decode cc pc = .ok (.pop, 1)) (hq : pc + 1 = q) (hv : v.category = 1) (k : rj_R g own cc nL ret ws hh rm F u ω μ l q (st)) : rj_R g own cc nL ret ws hh rm F u ω μ l pc (v :: st) := by
  subst hq
  exact fun p e s m args below meth c H locs A ls C S h => lv_pop C.1 C.2.1 hd hv (k p e s m args below meth c H locs A ls C S h)
theorem rj_if_eq {x : Int32} {off : Int} {t : Nat} (hd : decode cc pc = .ok (.ifCond .eq off, 3)) (ht : (pc : Int) + off = (t : Int)) (hq : pc + 3 = q) (kt : (x = 0) → rj_R g own cc nL ret ws hh rm F u ω μ l t st) (kf : ¬ (x = 0) → rj_R g own cc nL ret ws hh rm F u ω μ l q st) : rj_R g own cc nL ret ws hh rm F u ω μ l pc (.int x :: st) := by
  subst hq
  exact fun p e s m args below meth c H locs A ls C S h => lv_if_eq C.1 C.2.1 hd ht (fun z => kt z p e s m args below meth c H locs A ls C S h) (fun z => kf z p e s m args below meth c H locs A ls C S h)
theorem rj_icmp_eq {x y : Int32} {off : Int} {t : Nat} (hd : decode cc pc = .ok (.if_icmp .eq off, 3)) (ht : (pc : Int) + off = (t : Int)) (hq : pc + 3 = q) (kt : (x = y) → rj_R g own cc nL ret ws hh rm F u ω μ l t st) (kf : ¬ (x = y) → rj_R g own cc nL ret ws hh rm F u ω μ l q st) : rj_R g own cc nL ret ws hh rm F u ω μ l pc (.int y :: .int x :: st) := by
  subst hq
  exact fun p e s m args below meth c H locs A ls C S h => lv_icmp_eq C.1 C.2.1 hd ht (fun z => kt z p e s m args below meth c H locs A ls C S h) (fun z => kf z p e s m args below meth c H locs A ls C S h)
theorem rj_if_ne {x : Int32} {off : Int} {t : Nat} (hd : decode cc pc = .ok (.ifCond .ne off, 3)) (ht : (pc : Int) + off = (t : Int)) (hq : pc + 3 = q) (kt : (¬ x = 0) → rj_R g own cc nL ret ws hh rm F u ω μ l t st) (kf : (x = 0) → rj_R g own cc nL ret ws hh rm F u ω μ l q st) : rj_R g own cc nL ret ws hh rm F u ω μ l pc (.int x :: st) := by
  subst hq
  exact fun p e s m args below meth c H locs A ls C S h => lv_if_ne C.1 C.2.1 hd ht (fun z => kt z p e s m args below meth c H locs A ls C S h) (fun z => kf z p e s m args below meth c H locs A ls C S h)
theorem rj_icmp_ne {x y : Int32} {off : Int} {t : Nat} (hd : decode cc pc = .ok (.if_icmp .ne off, 3)) (ht : (pc : Int) + off = (t : Int)) (hq : pc + 3 = q) (kt : (¬ x = y) → rj_R g own cc nL ret ws hh rm F u ω μ l t st) (kf : (x = y) → rj_R g own cc nL ret ws hh rm F u ω μ l q st) : rj_R g own cc nL ret ws hh rm F u ω μ l pc (.int y :: .int x :: st) := by
  subst hq
  exact fun p e s m args below meth c H locs A ls C S h => lv_icmp_ne C.1 C.2.1 hd ht (fun z => kt z p e s m args below meth c H locs A ls C S h) (fun z => kf z p e s m args below meth c H locs A ls C S h)
theorem rj_if_lt {x : Int32} {off : Int} {t : Nat} (hd : decode cc pc = .ok (.ifCond .lt off, 3)) (ht : (pc : Int) + off = (t : Int)) (hq : pc + 3 = q) (kt : (x < 0) → rj_R g own cc nL ret ws hh rm F u ω μ l t st) (kf : ¬ (x < 0) → rj_R g own cc nL ret ws hh rm F u ω μ l q st) : rj_R g own cc nL ret ws hh rm F u ω μ l pc (.int x :: st) := by
  subst hq
  exact fun p e s m args below meth c H locs A ls C S h => lv_if_lt C.1 C.2.1 hd ht (fun z => kt z p e s m args below meth c H locs A ls C S h) (fun z => kf z p e s m args below meth c H locs A ls C S h)
theorem rj_icmp_lt {x y : Int32} {off : Int} {t : Nat} (hd : decode cc pc = .ok (.if_icmp .lt off, 3)) (ht : (pc : Int) + off = (t : Int)) (hq : pc + 3 = q) (kt : (x < y) → rj_R g own cc nL ret ws hh rm F u ω μ l t st) (kf : ¬ (x < y) → rj_R g own cc nL ret ws hh rm F u ω μ l q st) : rj_R g own cc nL ret ws hh rm F u ω μ l pc (.int y :: .int x :: st) := by
  subst hq
  exact fun p e s m args below meth c H locs A ls C S h => lv_icmp_lt C.1 C.2.1 hd ht (fun z => kt z p e s m args below meth c H locs A ls C S h) (fun z => kf z p e s m args below meth c H locs A ls C S h)
theorem rj_if_ge {x : Int32} {off : Int} {t : Nat} (hd : decode cc pc = .ok (.ifCond .ge off, 3)) (ht : (pc : Int) + off = (t : Int)) (hq : pc + 3 = q) (kt : (0 ≤ x) → rj_R g own cc nL ret ws hh rm F u ω μ l t st) (kf : ¬ (0 ≤ x) → rj_R g own cc nL ret ws hh rm F u ω μ l q st) : rj_R g own cc nL ret ws hh rm F u ω μ l pc (.int x :: st) := by
  subst hq
  exact fun p e s m args below meth c H locs A ls C S h => lv_if_ge C.1 C.2.1 hd ht (fun z => kt z p e s m args below meth c H locs A ls C S h) (fun z => kf z p e s m args below meth c H locs A ls C S h)
theorem rj_icmp_ge {x y : Int32} {off : Int} {t : Nat} (hd : decode cc pc = .ok (.if_icmp .ge off, 3)) (ht : (pc : Int) + off = (t : Int)) (hq : pc + 3 = q) (kt : (y ≤ x) → rj_R g own cc nL ret ws hh rm F u ω μ l t st) (kf : ¬ (y ≤ x) → rj_R g own cc nL ret ws hh rm F u ω μ l q st) : rj_R g own cc nL ret ws hh rm F u ω μ l pc (.int y :: .int x :: st) := by
  subst hq
  exact fun p e s m args below meth c H locs A ls C S h => lv_icmp_ge C.1 C.2.1 hd ht (fun z => kt z p e s m args below meth c H locs A ls C S h) (fun z => kf z p e s m args below meth c H locs A ls C S h)
theorem rj_if_gt {x : Int32} {off : Int} {t : Nat} (hd : decode cc pc = .ok (.ifCond .gt off, 3)) (ht : (pc : Int) + off = (t : Int)) (hq : pc + 3 = q) (kt : (0 < x) → rj_R g own cc nL ret ws hh rm F u ω μ l t st) (kf : ¬ (0 < x) → rj_R g own cc nL ret ws hh rm F u ω μ l q st) : rj_R g own cc nL ret ws hh rm F u ω μ l pc (.int x :: st) := by
  subst hq
  exact fun p e s m args below meth c H locs A ls C S h => lv_if_gt C.1 C.2.1 hd ht (fun z => kt z p e s m args below meth c H locs A ls C S h) (fun z => kf z p e s m args below meth c H locs A ls C S h)
theorem rj_icmp_gt {x y : Int32} {off : Int} {t : Nat} (hd : decode cc pc = .ok (.if_icmp .gt off, 3)) (ht : (pc : Int) + off = (t : Int)) (hq : pc + 3 = q) (kt : (y < x) → rj_R g own cc nL ret ws hh rm F u ω μ l t st) (kf : ¬ (y < x) → rj_R g own cc nL ret ws hh rm F u ω μ l q st) : rj_R g own cc nL ret ws hh rm F u ω μ l pc (.int y :: .int x :: st) := by
  subst hq
  exact fun p e s m args below meth c H locs A ls C S h => lv_icmp_gt C.1 C.2.1 hd ht (fun z => kt z p e s m args below meth c H locs A ls C S h) (fun z => kf z p e s m args below meth c H locs A ls C S h)
theorem rj_if_le {x : Int32} {off : Int} {t : Nat} (hd : decode cc pc = .ok (.ifCond .le off, 3)) (ht : (pc : Int) + off = (t : Int)) (hq : pc + 3 = q) (kt : (x ≤ 0) → rj_R g own cc nL ret ws hh rm F u ω μ l t st) (kf : ¬ (x ≤ 0) → rj_R g own cc nL ret ws hh rm F u ω μ l q st) : rj_R g own cc nL ret ws hh rm F u ω μ l pc (.int x :: st) := by
  subst hq
  exact fun p e s m args below meth c H locs A ls C S h => lv_if_le C.1 C.2.1 hd ht (fun z => kt z p e s m args below meth c H locs A ls C S h) (fun z => kf z p e s m args below meth c H locs A ls C S h)
theorem rj_icmp_le {x y : Int32} {off : Int} {t : Nat} (hd : decode cc pc = .ok (.if_icmp .le off, 3)) (ht : (pc : Int) + off = (t : Int)) (hq : pc + 3 = q) (kt : (x ≤ y) → rj_R g own cc nL ret ws hh rm F u ω μ l t st) (kf : ¬ (x ≤ y) → rj_R g own cc nL ret ws hh rm F u ω μ l q st) : rj_R g own cc nL ret ws hh rm F u ω μ l pc (.int y :: .int x :: st) := by
  subst hq
  exact fun p e s m args below meth c H locs A ls C S h => lv_icmp_le C.1 C.2.1 hd ht (fun z => kt z p e s m args below meth c H locs A ls C S h) (fun z => kf z p e s m args below meth c H locs A ls C S h)
theorem rj_goto {off : Int} {t : Nat} (hd : decode cc pc = .ok (.goto off, 3)) (ht : (pc : Int) + off = (t : Int)) (k : rj_R g own cc nL ret ws hh rm F u ω μ l t st) : rj_R g own cc nL ret ws hh rm F u ω μ l pc st :=
  fun p e s m args below meth c H locs A ls C S h => lv_goto C.1 C.2.1 hd ht (k p e s m args below meth c H locs A ls C S h)
theorem rj_tableIn {dflt lo hi : Int} {offs : Array Int} {len : Nat} {x : Int32} {off : Int} {t : Nat} (hd : decode cc pc = .ok (.tableswitch dflt lo hi offs, len)) (h1 : ¬ x.toInt < lo) (h2 : ¬ hi < x.toInt) (ho : offs[(x.toInt - lo).toNat]? = some off) (ht : (pc : Int) + off = (t : Int)) (k : rj_R g own cc nL ret ws hh rm F u ω μ l t st) : rj_R g own cc nL ret ws hh rm F u ω μ l pc (.int x :: st) :=
  fun p e s m args below meth c H locs A ls C S h => lv_tableIn C.1 C.2.1 hd h1 h2 ho ht (k p e s m args below meth c H locs A ls C S h)
theorem rj_tableOut {dflt lo hi : Int} {offs : Array Int} {len : Nat} {x : Int32} {t : Nat} (hd : decode cc pc = .ok (.tableswitch dflt lo hi offs, len)) (hx : x.toInt < lo ∨ hi < x.toInt) (ht : (pc : Int) + dflt = (t : Int)) (k : rj_R g own cc nL ret ws hh rm F u ω μ l t st) : rj_R g own cc nL ret ws hh rm F u ω μ l pc (.int x :: st) :=
  fun p e s m args below meth c H locs A ls C S h => lv_tableOut C.1 C.2.1 hd hx ht (k p e s m args below meth c H locs A ls C S h)
theorem rj_getI {C0 : String} {T : u_T} {N ci idx k j : Nat} {fs : List (Option (Option Nat))} (hd : decode cc pc = .ok (.getfield idx, 3)) (hq : pc + 3 = q) (hin : ∀ w ∈ u_ws C0 T N, w ∈ ws) (hc : vwCl[ci]? = some (C0, T, N)) (hk : k < ω.1) (hs : ω.2.1 k = .inr (ci, fs)) (hj : j < N) (hl : Cond.fieldLink own idx (T j).1 (T j).2.1 (T j).2.2.1 ∈ ws) (hf : fs[j]? = some (none)) (kk : rj_R g own cc nL ret ws hh rm F u ω μ l q (.int (μ.1 k j) :: st)) : rj_R g own cc nL ret ws hh rm F u ω μ l pc (.ref (ω.2.2 k) :: st) := by
  subst hq
  exact fun p e s m args below meth c H locs A ls C S h => va_get (D := g.2.1) (tys := rj_ty g) C.1 C.2.1 C.2.2.2.2.2.1 hin C.2.2.2.2.1 S.1.2.1 S.1.1 k (rj_at hk hs) hc j hj (C.2.2.2.2.2.1 _ hl) (fun _ z => z) (by rw [rj_fv_get, hf, Nat.zero_add]; rfl) hd (kk p e s m args below meth c H locs A ls C S h)
theorem rj_getL {C0 : String} {T : u_T} {N ci idx k j : Nat} {fs : List (Option (Option Nat))} (hd : decode cc pc = .ok (.getfield idx, 3)) (hq : pc + 3 = q) (hin : ∀ w ∈ u_ws C0 T N, w ∈ ws) (hc : vwCl[ci]? = some (C0, T, N)) (hk : k < ω.1) (hs : ω.2.1 k = .inr (ci, fs)) (hj : j < N) (hl : Cond.fieldLink own idx (T j).1 (T j).2.1 (T j).2.2.1 ∈ ws) (hf : fs[j]? = some (some none)) (kk : rj_R g own cc nL ret ws hh rm F u ω μ l q (.long (μ.2.1 k j) :: st)) : rj_R g own cc nL ret ws hh rm F u ω μ l pc (.ref (ω.2.2 k) :: st) := by
  subst hq
  exact fun p e s m args below meth c H locs A ls C S h => va_get (D := g.2.1) (tys := rj_ty g) C.1 C.2.1 C.2.2.2.2.2.1 hin C.2.2.2.2.1 S.1.2.1 S.1.1 k (rj_at hk hs) hc j hj (C.2.2.2.2.2.1 _ hl) (fun _ z => z) (by rw [rj_fv_get, hf, Nat.zero_add]; rfl) hd (kk p e s m args below meth c H locs A ls C S h)
theorem rj_getR {C0 : String} {T : u_T} {N ci idx k j : Nat} {fs : List (Option (Option Nat))} {r : Nat} (hd : decode cc pc = .ok (.getfield idx, 3)) (hq : pc + 3 = q) (hin : ∀ w ∈ u_ws C0 T N, w ∈ ws) (hc : vwCl[ci]? = some (C0, T, N)) (hk : k < ω.1) (hs : ω.2.1 k = .inr (ci, fs)) (hj : j < N) (hl : Cond.fieldLink own idx (T j).1 (T j).2.1 (T j).2.2.1 ∈ ws) (hf : fs[j]? = some (some (some (r + 1)))) (kk : rj_R g own cc nL ret ws hh rm F u ω μ l q (.ref (ω.2.2 r) :: st)) : rj_R g own cc nL ret ws hh rm F u ω μ l pc (.ref (ω.2.2 k) :: st) := by
  subst hq
  exact fun p e s m args below meth c H locs A ls C S h => va_get (D := g.2.1) (tys := rj_ty g) C.1 C.2.1 C.2.2.2.2.2.1 hin C.2.2.2.2.1 S.1.2.1 S.1.1 k (rj_at hk hs) hc j hj (C.2.2.2.2.2.1 _ hl) (fun _ z => z) (by rw [rj_fv_get, hf, Nat.zero_add]; rfl) hd (kk p e s m args below meth c H locs A ls C S h)
theorem rj_putI {C0 : String} {T : u_T} {N ci idx k j : Nat} {fs : List (Option (Option Nat))} {v : Int32} (hd : decode cc pc = .ok (.putfield idx, 3)) (hq : pc + 3 = q) (hin : ∀ w ∈ u_ws C0 T N, w ∈ ws) (hc : vwCl[ci]? = some (C0, T, N)) (hk : k < ω.1) (hs : ω.2.1 k = .inr (ci, fs)) (hj : j < N) (hl : Cond.fieldLink own idx (T j).1 (T j).2.1 (T j).2.2.1 ∈ ws) (ty : Nat → FieldType) (hty : ∀ k, k < N → parseFieldDescriptor (T k).2.2.1 = some (ty k)) (hnm : ∀ a, a < N → ∀ b, b < N → a ≠ b → (T a).2.1 ≠ (T b).2.1) (hfin : (T j).2.2.2 = false) (hf : fs[j]? = some (none)) (hn : narrow (ty j) (.int v) = .int v) (hft : fits (ty j) (.int v) = true) (kk : rj_R g own cc nL ret ws hh rm F u ω (rj_pi μ k j v) l q st) : rj_R g own cc nL ret ws hh rm F u ω μ l pc (.int v :: .ref (ω.2.2 k) :: st) := by
  subst hq
  refine fun p e s m args below meth c H locs A ls C S h => va_put (D := g.2.1) (tys := rj_ty g) C.1 C.2.1 C.2.2.2.2.2.1 hin ty hty hnm C.2.2.2.2.1 S.1.2.1 S.1.1 S.1.2.2 S.2.1 k (rj_at hk hs) hc j hj (C.2.2.2.2.2.1 _ hl) (fun _ z => z) hfin (hty j hj) hn hft ?_ hd (fun H1 locs1 hP hD hS => ?_)
  · have h1 := rj_fv_get ω.2.2 μ k fs 0 j
    rw [hf] at h1
    exact (List.getElem?_eq_some_iff.mp h1).1
  · rw [rj_set (μ' := rj_pi μ k j v) hk (by rw [hs, rj_fv_pi hf]; rfl) rj_pi_ne] at hP hD
    exact kk p e s m args below meth c H1 locs1 A ls C ⟨⟨hP, S.1.2.1, hD⟩, hS, S.2.2⟩ h
theorem rj_putL {C0 : String} {T : u_T} {N ci idx k j : Nat} {fs : List (Option (Option Nat))} {v : Int64} (hd : decode cc pc = .ok (.putfield idx, 3)) (hq : pc + 3 = q) (hin : ∀ w ∈ u_ws C0 T N, w ∈ ws) (hc : vwCl[ci]? = some (C0, T, N)) (hk : k < ω.1) (hs : ω.2.1 k = .inr (ci, fs)) (hj : j < N) (hl : Cond.fieldLink own idx (T j).1 (T j).2.1 (T j).2.2.1 ∈ ws) (ty : Nat → FieldType) (hty : ∀ k, k < N → parseFieldDescriptor (T k).2.2.1 = some (ty k)) (hnm : ∀ a, a < N → ∀ b, b < N → a ≠ b → (T a).2.1 ≠ (T b).2.1) (hfin : (T j).2.2.2 = false) (hf : fs[j]? = some (some none)) (hn : narrow (ty j) (.long v) = .long v) (hft : fits (ty j) (.long v) = true) (kk : rj_R g own cc nL ret ws hh rm F u ω (rj_pl μ k j v) l q st) : rj_R g own cc nL ret ws hh rm F u ω μ l pc (.long v :: .ref (ω.2.2 k) :: st) := by
  subst hq
  refine fun p e s m args below meth c H locs A ls C S h => va_put (D := g.2.1) (tys := rj_ty g) C.1 C.2.1 C.2.2.2.2.2.1 hin ty hty hnm C.2.2.2.2.1 S.1.2.1 S.1.1 S.1.2.2 S.2.1 k (rj_at hk hs) hc j hj (C.2.2.2.2.2.1 _ hl) (fun _ z => z) hfin (hty j hj) hn hft ?_ hd (fun H1 locs1 hP hD hS => ?_)
  · have h1 := rj_fv_get ω.2.2 μ k fs 0 j
    rw [hf] at h1
    exact (List.getElem?_eq_some_iff.mp h1).1
  · rw [rj_set (μ' := rj_pl μ k j v) hk (by rw [hs, rj_fv_pl hf]; rfl) rj_pl_ne] at hP hD
    exact kk p e s m args below meth c H1 locs1 A ls C ⟨⟨hP, S.1.2.1, hD⟩, hS, S.2.2⟩ h
theorem rj_iald {k n : Nat} {i : Int32} (hd : decode cc pc = .ok (.iaload, 1)) (hq : pc + 1 = q) (hk : k < ω.1) (hs : ω.2.1 k = .inl (0, n)) (hi : vp_in i n) (kk : rj_R g own cc nL ret ws hh rm F u ω μ l q (.int (μ.1 k i.toNatClampNeg) :: st)) : rj_R g own cc nL ret ws hh rm F u ω μ l pc (.int i :: .ref (ω.2.2 k) :: st) := by
  subst hq
  exact fun p e s m args below meth c H locs A ls C S h => va_iald (D := g.2.1) (tys := rj_ty g) C.1 C.2.1 S.1.2.1 S.1.1 k 0 (rj_at hk hs) rfl hi hd (kk p e s m args below meth c H locs A ls C S h)
theorem rj_zald {k n : Nat} {i : Int32} (hd : decode cc pc = .ok (.baload, 1)) (hq : pc + 1 = q) (hk : k < ω.1) (hs : ω.2.1 k = .inl (1, n)) (hi : vp_in i n) (kk : rj_R g own cc nL ret ws hh rm F u ω μ l q (.int (μ.1 k i.toNatClampNeg) :: st)) : rj_R g own cc nL ret ws hh rm F u ω μ l pc (.int i :: .ref (ω.2.2 k) :: st) := by
  subst hq
  exact fun p e s m args below meth c H locs A ls C S h => va_zald (D := g.2.1) (tys := rj_ty g) C.1 C.2.1 S.1.2.1 S.1.1 k 1 (rj_at hk hs) rfl hi hd (kk p e s m args below meth c H locs A ls C S h)
theorem rj_lald {k n : Nat} {i : Int32} (hd : decode cc pc = .ok (.laload, 1)) (hq : pc + 1 = q) (hk : k < ω.1) (hs : ω.2.1 k = .inl (2, n)) (hi : vp_in i n) (kk : rj_R g own cc nL ret ws hh rm F u ω μ l q (.long (μ.2.1 k i.toNatClampNeg) :: st)) : rj_R g own cc nL ret ws hh rm F u ω μ l pc (.int i :: .ref (ω.2.2 k) :: st) := by
  subst hq
  exact fun p e s m args below meth c H locs A ls C S h => va_lald (D := g.2.1) (tys := rj_ty g) C.1 C.2.1 S.1.2.1 S.1.1 k 2 (rj_at hk hs) rfl hi hd (kk p e s m args below meth c H locs A ls C S h)
theorem rj_dald {k n : Nat} {i : Int32} (hd : decode cc pc = .ok (.daload, 1)) (hq : pc + 1 = q) (hk : k < ω.1) (hs : ω.2.1 k = .inl (3, n)) (hi : vp_in i n) (kk : rj_R g own cc nL ret ws hh rm F u ω μ l q (.double (μ.2.2.1 k i.toNatClampNeg) :: st)) : rj_R g own cc nL ret ws hh rm F u ω μ l pc (.int i :: .ref (ω.2.2 k) :: st) := by
  subst hq
  exact fun p e s m args below meth c H locs A ls C S h => va_dald (D := g.2.1) (tys := rj_ty g) C.1 C.2.1 S.1.2.1 S.1.1 k 3 (rj_at hk hs) rfl hi hd (kk p e s m args below meth c H locs A ls C S h)
theorem rj_qald {k n : Nat} {i : Int32} (hd : decode cc pc = .ok (.aaload, 1)) (hq : pc + 1 = q) (hk : k < ω.1) (hs : ω.2.1 k = .inl (5, n)) (hi : vp_in i n) (kk : rj_R g own cc nL ret ws hh rm F u ω μ l q (va_rf (rj_rf ω.2.2 (μ.2.2.2 k i.toNatClampNeg)) :: st)) : rj_R g own cc nL ret ws hh rm F u ω μ l pc (.int i :: .ref (ω.2.2 k) :: st) := by
  subst hq
  exact fun p e s m args below meth c H locs A ls C S h => va_aldq (D := g.2.1) (tys := rj_ty g) C.1 C.2.1 S.1.2.1 S.1.1 k 5 (rj_at hk hs) rfl hi hd (kk p e s m args below meth c H locs A ls C S h)
theorem rj_iast {k n : Nat} {i : Int32} {v : Int32} (hd : decode cc pc = .ok (.iastore, 1)) (hq : pc + 1 = q) (hk : k < ω.1) (hs : ω.2.1 k = .inl (0, n)) (hi : vp_in i n) (kk : rj_R g own cc nL ret ws hh rm F u ω (rj_pi μ k i.toNatClampNeg v) l q st) : rj_R g own cc nL ret ws hh rm F u ω μ l pc (.int v :: .int i :: .ref (ω.2.2 k) :: st) := by
  subst hq
  refine fun p e s m args below meth c H locs A ls C S h => va_iast (D := g.2.1) (tys := rj_ty g) C.1 C.2.1 S.1.2.1 S.1.1 S.1.2.2 S.2.1 k 0 (rj_at hk hs) rfl hi hd (fun H1 locs1 hP hD hS => ?_)
  rw [rj_set (μ' := rj_pi μ k i.toNatClampNeg v) hk (by rw [hs]; simp [rj_en, rj_av, rj_pi, va_up_self]) rj_pi_ne] at hP hD
  exact kk p e s m args below meth c H1 locs1 A ls C ⟨⟨hP, S.1.2.1, hD⟩, hS, S.2.2⟩ h
theorem rj_zast {k n : Nat} {i : Int32} {v : Int32} (hd : decode cc pc = .ok (.bastore, 1)) (hq : pc + 1 = q) (hk : k < ω.1) (hs : ω.2.1 k = .inl (1, n)) (hi : vp_in i n) (kk : rj_R g own cc nL ret ws hh rm F u ω (rj_pi μ k i.toNatClampNeg (vp_nar .boolean v)) l q st) : rj_R g own cc nL ret ws hh rm F u ω μ l pc (.int v :: .int i :: .ref (ω.2.2 k) :: st) := by
  subst hq
  refine fun p e s m args below meth c H locs A ls C S h => va_zast (D := g.2.1) (tys := rj_ty g) C.1 C.2.1 S.1.2.1 S.1.1 S.1.2.2 S.2.1 k 1 (rj_at hk hs) rfl hi hd (fun H1 locs1 hP hD hS => ?_)
  rw [rj_set (μ' := rj_pi μ k i.toNatClampNeg (vp_nar .boolean v)) hk (by rw [hs]; simp [rj_en, rj_av, rj_pi, va_up_self]) rj_pi_ne] at hP hD
  exact kk p e s m args below meth c H1 locs1 A ls C ⟨⟨hP, S.1.2.1, hD⟩, hS, S.2.2⟩ h
theorem rj_last {k n : Nat} {i : Int32} {v : Int64} (hd : decode cc pc = .ok (.lastore, 1)) (hq : pc + 1 = q) (hk : k < ω.1) (hs : ω.2.1 k = .inl (2, n)) (hi : vp_in i n) (kk : rj_R g own cc nL ret ws hh rm F u ω (rj_pl μ k i.toNatClampNeg v) l q st) : rj_R g own cc nL ret ws hh rm F u ω μ l pc (.long v :: .int i :: .ref (ω.2.2 k) :: st) := by
  subst hq
  refine fun p e s m args below meth c H locs A ls C S h => va_last (D := g.2.1) (tys := rj_ty g) C.1 C.2.1 S.1.2.1 S.1.1 S.1.2.2 S.2.1 k 2 (rj_at hk hs) rfl hi hd (fun H1 locs1 hP hD hS => ?_)
  rw [rj_set (μ' := rj_pl μ k i.toNatClampNeg v) hk (by rw [hs]; simp [rj_en, rj_av, rj_pl, va_up_self]) rj_pl_ne] at hP hD
  exact kk p e s m args below meth c H1 locs1 A ls C ⟨⟨hP, S.1.2.1, hD⟩, hS, S.2.2⟩ h
theorem rj_dast {k n : Nat} {i : Int32} {v : UInt64} (hd : decode cc pc = .ok (.dastore, 1)) (hq : pc + 1 = q) (hk : k < ω.1) (hs : ω.2.1 k = .inl (3, n)) (hi : vp_in i n) (kk : rj_R g own cc nL ret ws hh rm F u ω (rj_pd μ k i.toNatClampNeg v) l q st) : rj_R g own cc nL ret ws hh rm F u ω μ l pc (.double v :: .int i :: .ref (ω.2.2 k) :: st) := by
  subst hq
  refine fun p e s m args below meth c H locs A ls C S h => va_dast (D := g.2.1) (tys := rj_ty g) C.1 C.2.1 S.1.2.1 S.1.1 S.1.2.2 S.2.1 k 3 (rj_at hk hs) rfl hi hd (fun H1 locs1 hP hD hS => ?_)
  rw [rj_set (μ' := rj_pd μ k i.toNatClampNeg v) hk (by rw [hs]; simp [rj_en, rj_av, rj_pd, va_up_self]) rj_pd_ne] at hP hD
  exact kk p e s m args below meth c H1 locs1 A ls C ⟨⟨hP, S.1.2.1, hD⟩, hS, S.2.2⟩ h
theorem rj_alen {k n kd : Nat} {v : Int32} {ty : FieldType} (hd : decode cc pc = .ok (.arraylength, 1)) (hq : pc + 1 = q) (hk : k < ω.1) (hs : ω.2.1 k = .inl (kd, n)) (ht : (rj_ty g)[kd]? = some (g.2.2 kd, ty)) (hv : Int32.ofNat n = v) (kk : rj_R g own cc nL ret ws hh rm F u ω μ l q (.int v :: st)) : rj_R g own cc nL ret ws hh rm F u ω μ l pc (.ref (ω.2.2 k) :: st) := by
  subst hq
  refine fun p e s m args below meth c H locs A ls C S h => va_alen (D := g.2.1) (tys := rj_ty g) C.1 C.2.1 S.1.2.1 S.1.1 k kd (rj_at hk hs) ht ?_ hd (kk p e s m args below meth c H locs A ls C S h)
  subst hv
  rcases kd with _ | _ | _ | _ | kd <;> rfl
theorem rj_mmin {i : Nat} {x y : Int32} (hd : decode cc pc = .ok (.invokestatic i, 3)) (hq : pc + 3 = q) (h1 : Cond.methodLink own i Lib.Math.min.name ∈ ws) (h2 : Cond.static Lib.Math.min.name ∈ ws) (h3 : Cond.initialized "java/lang/Math" ∈ ws) (h4 : Cond.code Lib.Math.min.name Lib.Math.min.code 2 (some .int) ∈ ws) (hr : 1 ≤ rm.frames) (hlo : (st.map fun v => v.category).sum + 13 ≤ rm.locals) (hcl : u ≤ rm.cells) (hsl : 8 * u ≤ rm.slots) (k : rj_R g own cc nL ret ws hh rm F u ω μ l q (.int (if y < x then y else x) :: st)) : rj_R g own cc nL ret ws hh rm F u ω μ l pc (.int y :: .int x :: st) := by
  subst hq
  exact fun p e s m args below meth c H locs A ls C S h => va_mmin C.1 C.2.1 (C.2.2.2.1.trans h.1.symm) C.2.2.2.2.1 (C.2.2.2.2.2.1 _ h1) (C.2.2.2.2.2.1 _ h2) (C.2.2.2.2.2.1 _ h3) (C.2.2.2.2.2.1 _ h4) hr hlo hcl hsl hd (k p e s m args below meth c H locs A ls C S h)
theorem rj_mmax {i : Nat} {x y : Int32} (hd : decode cc pc = .ok (.invokestatic i, 3)) (hq : pc + 3 = q) (h1 : Cond.methodLink own i Lib.Math.max.name ∈ ws) (h2 : Cond.static Lib.Math.max.name ∈ ws) (h3 : Cond.initialized "java/lang/Math" ∈ ws) (h4 : Cond.code Lib.Math.max.name Lib.Math.max.code 2 (some .int) ∈ ws) (hr : 1 ≤ rm.frames) (hlo : (st.map fun v => v.category).sum + 13 ≤ rm.locals) (hcl : u ≤ rm.cells) (hsl : 8 * u ≤ rm.slots) (k : rj_R g own cc nL ret ws hh rm F u ω μ l q (.int (if x < y then y else x) :: st)) : rj_R g own cc nL ret ws hh rm F u ω μ l pc (.int y :: .int x :: st) := by
  subst hq
  exact fun p e s m args below meth c H locs A ls C S h => va_mmax C.1 C.2.1 (C.2.2.2.1.trans h.1.symm) C.2.2.2.2.1 (C.2.2.2.2.2.1 _ h1) (C.2.2.2.2.2.1 _ h2) (C.2.2.2.2.2.1 _ h3) (C.2.2.2.2.2.1 _ h4) hr hlo hcl hsl hd (k p e s m args below meth c H locs A ls C S h)
theorem rj_copyi {i k0 k1 n0 n1 mm : Nat} (hd : decode cc pc = .ok (.invokestatic i, 3)) (hq : pc + 3 = q) (h1 : Cond.methodLink own i arraycopyName ∈ ws) (h2 : Cond.native arraycopyName ∈ ws) (h3 : Cond.static arraycopyName ∈ ws) (h4 : Cond.initialized "java/lang/System" ∈ ws) (hk0 : k0 < ω.1) (hs0 : ω.2.1 k0 = .inl (0, n0)) (hk1 : k1 < ω.1) (hs1 : ω.2.1 k1 = .inl (0, n1)) (hm0 : mm ≤ n0) (hm1 : mm ≤ n1) (hm : mm < 2 ^ 31) (hr : 1 ≤ rm.frames) (hlo : (st.map fun v => v.category).sum + (nativeFrameWords "java/lang/System" "arraycopy" 5 + 11) ≤ rm.locals) (kk : rj_R g own cc nL ret ws hh rm F u ω (rj_ri μ k1 (va_cpy (μ.1 k0) (μ.1 k1) 0 0 mm)) l q st) : rj_R g own cc nL ret ws hh rm F u ω μ l pc (.int (nI mm) :: .int 0 :: .ref (ω.2.2 k1) :: .int 0 :: .ref (ω.2.2 k0) :: st) := by
  subst hq
  have c0 : (0 : Int32).toNatClampNeg = 0 := rfl
  have cm := nI_clamp hm
  refine fun p e s m args below meth c H locs A ls C S h => va_copyi (D := g.2.1) (tys := rj_ty g) C.1 C.2.1 (C.2.2.2.1.trans h.1.symm) C.2.2.2.2.1 (C.2.2.2.2.2.1 _ h1) (C.2.2.2.2.2.1 _ h2) (C.2.2.2.2.2.1 _ h3) (C.2.2.2.2.2.1 _ h4) S.1.2.1 S.1.1 S.1.2.2 S.2.1 k0 k1 0 0 (rj_at hk0 hs0) (rj_at hk1 hs1) rfl rfl rfl (by decide) (by decide) (nI_pos hm) (by rw [c0, cm]; omega) (by rw [c0, cm]; omega) (fun _ _ => rfl) hr hlo hd (fun H1 locs1 hP hD hS => ?_)
  rw [c0, cm] at hP hD
  rw [rj_set (μ' := rj_ri μ k1 (va_cpy (μ.1 k0) (μ.1 k1) 0 0 mm)) hk1 (by rw [hs1]; simp [rj_en, rj_av, rj_ri, va_up_self]) rj_ri_ne] at hP hD
  exact kk p e s m args below meth c H1 locs1 A ls C ⟨⟨hP, S.1.2.1, hD⟩, hS, S.2.2⟩ h
theorem rj_copyl {i k0 k1 n0 n1 mm : Nat} (hd : decode cc pc = .ok (.invokestatic i, 3)) (hq : pc + 3 = q) (h1 : Cond.methodLink own i arraycopyName ∈ ws) (h2 : Cond.native arraycopyName ∈ ws) (h3 : Cond.static arraycopyName ∈ ws) (h4 : Cond.initialized "java/lang/System" ∈ ws) (hk0 : k0 < ω.1) (hs0 : ω.2.1 k0 = .inl (2, n0)) (hk1 : k1 < ω.1) (hs1 : ω.2.1 k1 = .inl (2, n1)) (hm0 : mm ≤ n0) (hm1 : mm ≤ n1) (hm : mm < 2 ^ 31) (hr : 1 ≤ rm.frames) (hlo : (st.map fun v => v.category).sum + (nativeFrameWords "java/lang/System" "arraycopy" 5 + 11) ≤ rm.locals) (kk : rj_R g own cc nL ret ws hh rm F u ω (rj_rl μ k1 (va_cpy (μ.2.1 k0) (μ.2.1 k1) 0 0 mm)) l q st) : rj_R g own cc nL ret ws hh rm F u ω μ l pc (.int (nI mm) :: .int 0 :: .ref (ω.2.2 k1) :: .int 0 :: .ref (ω.2.2 k0) :: st) := by
  subst hq
  have c0 : (0 : Int32).toNatClampNeg = 0 := rfl
  have cm := nI_clamp hm
  refine fun p e s m args below meth c H locs A ls C S h => va_copyl (D := g.2.1) (tys := rj_ty g) C.1 C.2.1 (C.2.2.2.1.trans h.1.symm) C.2.2.2.2.1 (C.2.2.2.2.2.1 _ h1) (C.2.2.2.2.2.1 _ h2) (C.2.2.2.2.2.1 _ h3) (C.2.2.2.2.2.1 _ h4) S.1.2.1 S.1.1 S.1.2.2 S.2.1 k0 k1 2 2 (rj_at hk0 hs0) (rj_at hk1 hs1) rfl rfl rfl (by decide) (by decide) (nI_pos hm) (by rw [c0, cm]; omega) (by rw [c0, cm]; omega) (fun _ _ => rfl) hr hlo hd (fun H1 locs1 hP hD hS => ?_)
  rw [c0, cm] at hP hD
  rw [rj_set (μ' := rj_rl μ k1 (va_cpy (μ.2.1 k0) (μ.2.1 k1) 0 0 mm)) hk1 (by rw [hs1]; simp [rj_en, rj_av, rj_rl, va_up_self]) rj_rl_ne] at hP hD
  exact kk p e s m args below meth c H1 locs1 A ls C ⟨⟨hP, S.1.2.1, hD⟩, hS, S.2.2⟩ h
end rjRules
theorem rj_minN {a b : Nat} (ha : a < 2 ^ 31) (hb : b < 2 ^ 31) : (if nI b < nI a then nI b else nI a) = nI (min a b) := by
  by_cases h : b < a
  · rw [if_pos ((nI_ltI hb ha).mpr h), Nat.min_eq_right (Nat.le_of_lt h)]
  · rw [if_neg (fun z => h ((nI_ltI hb ha).mp z)), Nat.min_eq_left (by omega)]
